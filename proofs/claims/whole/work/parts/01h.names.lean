theorem dX11_land_89 : decode cX11_land 89 = .ok (.iconst 0, 1) := by decide +kernel
theorem dX11_land_90 : decode cX11_land 90 = .ok (.bipush 20, 2) := by decide +kernel
theorem dX11_land_92 : decode cX11_land 92 = .ok (.invokevirtual 158, 3) := by decide +kernel
theorem dX11_land_95 : decode cX11_land 95 = .ok (.iastore, 1) := by decide +kernel
theorem dX11_land_96 : decode cX11_land 96 = .ok (.aload_n 0, 1) := by decide +kernel
theorem dX11_land_97 : decode cX11_land 97 = .ok (.invokevirtual 162, 3) := by decide +kernel
theorem dX11_land_100 : decode cX11_land 100 = .ok (.aload_n 0, 1) := by decide +kernel
theorem dX11_land_101 : decode cX11_land 101 = .ok (.getfield 116, 3) := by decide +kernel
theorem dX11_land_104 : decode cX11_land 104 = .ok (.ifCond .ne 23, 3) := by decide +kernel
theorem dX11_land_107 : decode cX11_land 107 = .ok (.aload_n 0, 1) := by decide +kernel
theorem dX11_land_108 : decode cX11_land 108 = .ok (.aload_n 0, 1) := by decide +kernel
theorem dX11_land_109 : decode cX11_land 109 = .ok (.invokevirtual 133, 3) := by decide +kernel
theorem dX11_land_112 : decode cX11_land 112 = .ok (.ldc2_w 167, 3) := by decide +kernel
theorem dX11_land_115 : decode cX11_land 115 = .ok (.lcmp, 1) := by decide +kernel
theorem dX11_land_116 : decode cX11_land 116 = .ok (.ifCond .ne 7, 3) := by decide +kernel
theorem dX11_land_119 : decode cX11_land 119 = .ok (.iconst 1, 1) := by decide +kernel
theorem dX11_land_120 : decode cX11_land 120 = .ok (.goto 4, 3) := by decide +kernel
theorem dX11_land_123 : decode cX11_land 123 = .ok (.iconst 0, 1) := by decide +kernel
theorem dX11_land_124 : decode cX11_land 124 = .ok (.invokevirtual 129, 3) := by decide +kernel
theorem dX11_land_127 : decode cX11_land 127 = .ok (.iconst 0, 1) := by decide +kernel
theorem dX11_land_128 : decode cX11_land 128 = .ok (.istore_n 1, 1) := by decide +kernel
theorem dX11_land_129 : decode cX11_land 129 = .ok (.iload_n 1, 1) := by decide +kernel
theorem dX11_land_130 : decode cX11_land 130 = .ok (.iconst 3, 1) := by decide +kernel
theorem dX11_land_131 : decode cX11_land 131 = .ok (.if_icmp .ge 22, 3) := by decide +kernel
theorem dX11_land_134 : decode cX11_land 134 = .ok (.aload_n 0, 1) := by decide +kernel
theorem dX11_land_135 : decode cX11_land 135 = .ok (.getfield 28, 3) := by decide +kernel
theorem dX11_land_138 : decode cX11_land 138 = .ok (.iload_n 1, 1) := by decide +kernel
theorem dX11_land_139 : decode cX11_land 139 = .ok (.aload_n 0, 1) := by decide +kernel
theorem dX11_land_140 : decode cX11_land 140 = .ok (.iconst 0, 1) := by decide +kernel
theorem dX11_land_141 : decode cX11_land 141 = .ok (.bipush 99, 2) := by decide +kernel
theorem dX11_land_143 : decode cX11_land 143 = .ok (.invokevirtual 158, 3) := by decide +kernel
theorem dX11_land_146 : decode cX11_land 146 = .ok (.iastore, 1) := by decide +kernel
theorem dX11_land_147 : decode cX11_land 147 = .ok (.iinc 1 1, 3) := by decide +kernel
theorem dX11_land_150 : decode cX11_land 150 = .ok (.goto (-21), 3) := by decide +kernel
theorem dX11_land_153 : decode cX11_land 153 = .ok (.aload_n 0, 1) := by decide +kernel
theorem dX11_land_154 : decode cX11_land 154 = .ok (.invokevirtual 162, 3) := by decide +kernel
theorem dX11_land_157 : decode cX11_land 157 = .ok (.aload_n 0, 1) := by decide +kernel
theorem dX11_land_158 : decode cX11_land 158 = .ok (.getfield 116, 3) := by decide +kernel
theorem dX11_land_161 : decode cX11_land 161 = .ok (.ifCond .ne 18, 3) := by decide +kernel
theorem dX11_land_164 : decode cX11_land 164 = .ok (.aload_n 0, 1) := by decide +kernel
theorem dX11_land_165 : decode cX11_land 165 = .ok (.getfield 104, 3) := by decide +kernel
theorem dX11_land_168 : decode cX11_land 168 = .ok (.iconst 1, 1) := by decide +kernel
theorem dX11_land_169 : decode cX11_land 169 = .ok (.if_icmp .eq 10, 3) := by decide +kernel
theorem dX11_land_172 : decode cX11_land 172 = .ok (.aload_n 0, 1) := by decide +kernel
theorem dX11_land_173 : decode cX11_land 173 = .ok (.invokevirtual 169, 3) := by decide +kernel
theorem dX11_land_176 : decode cX11_land 176 = .ok (.goto (-19), 3) := by decide +kernel
theorem dX11_land_179 : decode cX11_land 179 = .ok (.aload_n 0, 1) := by decide +kernel
theorem dX11_land_180 : decode cX11_land 180 = .ok (.getfield 116, 3) := by decide +kernel
theorem dX11_land_183 : decode cX11_land 183 = .ok (.ifCond .le 19, 3) := by decide +kernel
theorem dX11_land_186 : decode cX11_land 186 = .ok (.aload_n 0, 1) := by decide +kernel
theorem dX11_land_187 : decode cX11_land 187 = .ok (.aload_n 0, 1) := by decide +kernel
theorem dX11_land_188 : decode cX11_land 188 = .ok (.getfield 116, 3) := by decide +kernel
theorem dX11_land_191 : decode cX11_land 191 = .ok (.putfield 172, 3) := by decide +kernel
theorem dX11_land_194 : decode cX11_land 194 = .ok (.ldc 175, 2) := by decide +kernel
theorem dX11_land_196 : decode cX11_land 196 = .ok (.aload_n 0, 1) := by decide +kernel
theorem dX11_land_197 : decode cX11_land 197 = .ok (.getfield 119, 3) := by decide +kernel
theorem dX11_land_200 : decode cX11_land 200 = .ok (.isub, 1) := by decide +kernel
theorem dX11_land_201 : decode cX11_land 201 = .ok (.ireturn, 1) := by decide +kernel
theorem dX11_land_202 : decode cX11_land 202 = .ok (.aload_n 0, 1) := by decide +kernel
theorem dX11_land_203 : decode cX11_land 203 = .ok (.iconst 1, 1) := by decide +kernel
theorem dX11_land_204 : decode cX11_land 204 = .ok (.putfield 176, 3) := by decide +kernel
theorem dX11_land_207 : decode cX11_land 207 = .ok (.aload_n 0, 1) := by decide +kernel
theorem dX11_land_208 : decode cX11_land 208 = .ok (.aload_n 0, 1) := by decide +kernel
theorem dX11_land_209 : decode cX11_land 209 = .ok (.getfield 151, 3) := by decide +kernel
theorem dX11_land_212 : decode cX11_land 212 = .ok (.putfield 180, 3) := by decide +kernel
theorem dX11_land_215 : decode cX11_land 215 = .ok (.iconst 0, 1) := by decide +kernel
theorem dX11_land_216 : decode cX11_land 216 = .ok (.istore_n 1, 1) := by decide +kernel
theorem dX11_land_217 : decode cX11_land 217 = .ok (.iload_n 1, 1) := by decide +kernel
theorem dX11_land_218 : decode cX11_land 218 = .ok (.bipush 30, 2) := by decide +kernel
theorem dX11_land_220 : decode cX11_land 220 = .ok (.if_icmp .ge 21, 3) := by decide +kernel
theorem dX11_land_223 : decode cX11_land 223 = .ok (.aload_n 0, 1) := by decide +kernel
theorem dX11_land_224 : decode cX11_land 224 = .ok (.getfield 22, 3) := by decide +kernel
theorem dX11_land_227 : decode cX11_land 227 = .ok (.iload_n 1, 1) := by decide +kernel
theorem dX11_land_228 : decode cX11_land 228 = .ok (.aload_n 0, 1) := by decide +kernel
theorem dX11_land_229 : decode cX11_land 229 = .ok (.getfield 31, 3) := by decide +kernel
theorem dX11_land_232 : decode cX11_land 232 = .ok (.iload_n 1, 1) := by decide +kernel
theorem dX11_land_233 : decode cX11_land 233 = .ok (.iaload, 1) := by decide +kernel
theorem dX11_land_234 : decode cX11_land 234 = .ok (.iastore, 1) := by decide +kernel
theorem dX11_land_235 : decode cX11_land 235 = .ok (.iinc 1 1, 3) := by decide +kernel
theorem dX11_land_238 : decode cX11_land 238 = .ok (.goto (-21), 3) := by decide +kernel
theorem dX11_land_241 : decode cX11_land 241 = .ok (.iconst 0, 1) := by decide +kernel
theorem dX11_land_242 : decode cX11_land 242 = .ok (.istore_n 1, 1) := by decide +kernel
theorem dX11_land_243 : decode cX11_land 243 = .ok (.iload_n 1, 1) := by decide +kernel
theorem dX11_land_244 : decode cX11_land 244 = .ok (.bipush 17, 2) := by decide +kernel
theorem dX11_land_246 : decode cX11_land 246 = .ok (.if_icmp .ge 56, 3) := by decide +kernel
theorem dX11_land_249 : decode cX11_land 249 = .ok (.aload_n 0, 1) := by decide +kernel
theorem dX11_land_250 : decode cX11_land 250 = .ok (.getfield 37, 3) := by decide +kernel
theorem dX11_land_253 : decode cX11_land 253 = .ok (.iload_n 1, 1) := by decide +kernel
theorem dX11_land_254 : decode cX11_land 254 = .ok (.iload_n 1, 1) := by decide +kernel
theorem dX11_land_255 : decode cX11_land 255 = .ok (.iconst 3, 1) := by decide +kernel
theorem dX11_land_256 : decode cX11_land 256 = .ok (.if_icmp .ge 12, 3) := by decide +kernel
theorem dX11_land_259 : decode cX11_land 259 = .ok (.aload_n 0, 1) := by decide +kernel
theorem dX11_land_260 : decode cX11_land 260 = .ok (.getfield 28, 3) := by decide +kernel
theorem dX11_land_263 : decode cX11_land 263 = .ok (.iload_n 1, 1) := by decide +kernel
theorem dX11_land_264 : decode cX11_land 264 = .ok (.iaload, 1) := by decide +kernel
theorem dX11_land_265 : decode cX11_land 265 = .ok (.goto 30, 3) := by decide +kernel
theorem dX11_land_268 : decode cX11_land 268 = .ok (.iload_n 1, 1) := by decide +kernel
theorem dX11_land_269 : decode cX11_land 269 = .ok (.i2l, 1) := by decide +kernel
theorem dX11_land_270 : decode cX11_land 270 = .ok (.ldc2_w 66, 3) := by decide +kernel
theorem dX11_land_273 : decode cX11_land 273 = .ok (.ldc2_w 183, 3) := by decide +kernel
theorem dX11_land_276 : decode cX11_land 276 = .ok (.invokestatic 68, 3) := by decide +kernel
theorem dX11_land_279 : decode cX11_land 279 = .ok (.ifCond .eq 15, 3) := by decide +kernel
theorem dX11_land_282 : decode cX11_land 282 = .ok (.aload_n 0, 1) := by decide +kernel
theorem dX11_land_283 : decode cX11_land 283 = .ok (.getfield 34, 3) := by decide +kernel
theorem dX11_land_286 : decode cX11_land 286 = .ok (.iload_n 1, 1) := by decide +kernel
theorem dX11_land_287 : decode cX11_land 287 = .ok (.bipush 7, 2) := by decide +kernel
theorem dX11_land_289 : decode cX11_land 289 = .ok (.isub, 1) := by decide +kernel
theorem dX11_land_290 : decode cX11_land 290 = .ok (.iaload, 1) := by decide +kernel
theorem dX11_land_291 : decode cX11_land 291 = .ok (.goto 4, 3) := by decide +kernel
theorem dX11_land_294 : decode cX11_land 294 = .ok (.iconst 0, 1) := by decide +kernel
theorem dX11_land_295 : decode cX11_land 295 = .ok (.iastore, 1) := by decide +kernel
theorem dX11_land_296 : decode cX11_land 296 = .ok (.iinc 1 1, 3) := by decide +kernel
theorem dX11_land_299 : decode cX11_land 299 = .ok (.goto (-56), 3) := by decide +kernel
theorem dX11_land_302 : decode cX11_land 302 = .ok (.iconst 0, 1) := by decide +kernel
theorem dX11_land_303 : decode cX11_land 303 = .ok (.istore_n 1, 1) := by decide +kernel
theorem dX11_land_304 : decode cX11_land 304 = .ok (.iload_n 1, 1) := by decide +kernel
theorem dX11_land_305 : decode cX11_land 305 = .ok (.iconst 3, 1) := by decide +kernel
theorem dX11_land_306 : decode cX11_land 306 = .ok (.if_icmp .ge 21, 3) := by decide +kernel
theorem dX11_land_309 : decode cX11_land 309 = .ok (.aload_n 0, 1) := by decide +kernel
theorem dX11_land_310 : decode cX11_land 310 = .ok (.getfield 19, 3) := by decide +kernel
theorem dX11_land_313 : decode cX11_land 313 = .ok (.iload_n 1, 1) := by decide +kernel
theorem dX11_land_314 : decode cX11_land 314 = .ok (.aload_n 0, 1) := by decide +kernel
theorem dX11_land_315 : decode cX11_land 315 = .ok (.getfield 25, 3) := by decide +kernel
theorem dX11_land_318 : decode cX11_land 318 = .ok (.iload_n 1, 1) := by decide +kernel
theorem dX11_land_319 : decode cX11_land 319 = .ok (.iaload, 1) := by decide +kernel
theorem dX11_land_320 : decode cX11_land 320 = .ok (.iastore, 1) := by decide +kernel
theorem dX11_land_321 : decode cX11_land 321 = .ok (.iinc 1 1, 3) := by decide +kernel
theorem dX11_land_324 : decode cX11_land 324 = .ok (.goto (-20), 3) := by decide +kernel
theorem dX11_land_327 : decode cX11_land 327 = .ok (.aload_n 0, 1) := by decide +kernel
theorem dX11_land_328 : decode cX11_land 328 = .ok (.aload_n 0, 1) := by decide +kernel
theorem dX11_land_329 : decode cX11_land 329 = .ok (.getfield 37, 3) := by decide +kernel
theorem dX11_land_332 : decode cX11_land 332 = .ok (.iconst 0, 1) := by decide +kernel
theorem dX11_land_333 : decode cX11_land 333 = .ok (.iaload, 1) := by decide +kernel
theorem dX11_land_334 : decode cX11_land 334 = .ok (.putfield 185, 3) := by decide +kernel
theorem dX11_land_337 : decode cX11_land 337 = .ok (.aload_n 0, 1) := by decide +kernel
theorem dX11_land_338 : decode cX11_land 338 = .ok (.iconst 0, 1) := by decide +kernel
theorem dX11_land_339 : decode cX11_land 339 = .ok (.putfield 188, 3) := by decide +kernel
theorem dX11_land_342 : decode cX11_land 342 = .ok (.aload_n 0, 1) := by decide +kernel
theorem dX11_land_343 : decode cX11_land 343 = .ok (.iconst 0, 1) := by decide +kernel
theorem dX11_land_344 : decode cX11_land 344 = .ok (.putfield 191, 3) := by decide +kernel
theorem dX11_land_347 : decode cX11_land 347 = .ok (.aload_n 0, 1) := by decide +kernel
theorem dX11_land_348 : decode cX11_land 348 = .ok (.iconst 0, 1) := by decide +kernel
theorem dX11_land_349 : decode cX11_land 349 = .ok (.putfield 194, 3) := by decide +kernel
theorem dX11_land_352 : decode cX11_land 352 = .ok (.aload_n 0, 1) := by decide +kernel
theorem dX11_land_353 : decode cX11_land 353 = .ok (.getfield 180, 3) := by decide +kernel
theorem dX11_land_356 : decode cX11_land 356 = .ok (.ireturn, 1) := by decide +kernel
theorem dX11_fault_0 : decode cX11_fault 0 = .ok (.aload_n 0, 1) := by decide +kernel
theorem dX11_fault_1 : decode cX11_fault 1 = .ok (.iconst 0, 1) := by decide +kernel
theorem dX11_fault_2 : decode cX11_fault 2 = .ok (.putfield 58, 3) := by decide +kernel
theorem dX11_fault_5 : decode cX11_fault 5 = .ok (.aload_n 0, 1) := by decide +kernel
theorem dX11_fault_6 : decode cX11_fault 6 = .ok (.getfield 172, 3) := by decide +kernel
theorem dX11_fault_9 : decode cX11_fault 9 = .ok (.ireturn, 1) := by decide +kernel
theorem dX11_between_0 : decode cX11_between 0 = .ok (.iload_n 0, 1) := by decide +kernel
theorem dX11_between_1 : decode cX11_between 1 = .ok (.iload_n 1, 1) := by decide +kernel
theorem dX11_between_2 : decode cX11_between 2 = .ok (.if_icmp .ge 7, 3) := by decide +kernel
theorem dX11_between_5 : decode cX11_between 5 = .ok (.iload_n 1, 1) := by decide +kernel
theorem dX11_between_6 : decode cX11_between 6 = .ok (.goto 13, 3) := by decide +kernel
theorem dX11_between_9 : decode cX11_between 9 = .ok (.iload_n 0, 1) := by decide +kernel
theorem dX11_between_10 : decode cX11_between 10 = .ok (.iload_n 2, 1) := by decide +kernel
theorem dX11_between_11 : decode cX11_between 11 = .ok (.if_icmp .le 7, 3) := by decide +kernel
theorem dX11_between_14 : decode cX11_between 14 = .ok (.iload_n 2, 1) := by decide +kernel
theorem dX11_between_15 : decode cX11_between 15 = .ok (.goto 4, 3) := by decide +kernel
theorem dX11_between_18 : decode cX11_between 18 = .ok (.iload_n 0, 1) := by decide +kernel
theorem dX11_between_19 : decode cX11_between 19 = .ok (.ireturn, 1) := by decide +kernel
set_option maxRecDepth 20000 in
theorem ggX11_guessBy_X11_between : GoodIn wsX11_guessBy wsX11_between := goodIn_r _ [4] (by decide +kernel) (by decide +kernel)
set_option maxRecDepth 20000 in
theorem gX11_guessBy_X11_between : GoodIn wsX11_guessBy (va_wsS RX11 197 yX11_between wsX11_between) := goodIn_app (goodIn_of _ (by decide +kernel)) ggX11_guessBy_X11_between
theorem dX11_guessBy_0 : decode cX11_guessBy 0 = .ok (.iload_n 2, 1) := by decide +kernel
theorem dX11_guessBy_1 : decode cX11_guessBy 1 = .ok (.istore 5, 2) := by decide +kernel
theorem dX11_guessBy_3 : decode cX11_guessBy 3 = .ok (.iload_n 0, 1) := by decide +kernel
theorem dX11_guessBy_4 : decode cX11_guessBy 4 = .ok (.iconst 2, 1) := by decide +kernel
theorem dX11_guessBy_5 : decode cX11_guessBy 5 = .ok (.if_icmp .ne 38, 3) := by decide +kernel
theorem dX11_guessBy_8 : decode cX11_guessBy 8 = .ok (.iload_n 1, 1) := by decide +kernel
theorem dX11_guessBy_9 : decode cX11_guessBy 9 = .ok (.iconst 1, 1) := by decide +kernel
theorem dX11_guessBy_10 : decode cX11_guessBy 10 = .ok (.if_icmp .ne 7, 3) := by decide +kernel
theorem dX11_guessBy_13 : decode cX11_guessBy 13 = .ok (.iload_n 2, 1) := by decide +kernel
theorem dX11_guessBy_14 : decode cX11_guessBy 14 = .ok (.goto 24, 3) := by decide +kernel
theorem dX11_guessBy_17 : decode cX11_guessBy 17 = .ok (.iload_n 1, 1) := by decide +kernel
theorem dX11_guessBy_18 : decode cX11_guessBy 18 = .ok (.iconst 2, 1) := by decide +kernel
theorem dX11_guessBy_19 : decode cX11_guessBy 19 = .ok (.if_icmp .ne 11, 3) := by decide +kernel
theorem dX11_guessBy_22 : decode cX11_guessBy 22 = .ok (.iload_n 2, 1) := by decide +kernel
theorem dX11_guessBy_23 : decode cX11_guessBy 23 = .ok (.iload_n 3, 1) := by decide +kernel
theorem dX11_guessBy_24 : decode cX11_guessBy 24 = .ok (.iadd, 1) := by decide +kernel
theorem dX11_guessBy_25 : decode cX11_guessBy 25 = .ok (.iconst 2, 1) := by decide +kernel
theorem dX11_guessBy_26 : decode cX11_guessBy 26 = .ok (.idiv, 1) := by decide +kernel
theorem dX11_guessBy_27 : decode cX11_guessBy 27 = .ok (.goto 11, 3) := by decide +kernel
theorem dX11_guessBy_30 : decode cX11_guessBy 30 = .ok (.iload_n 2, 1) := by decide +kernel
theorem dX11_guessBy_31 : decode cX11_guessBy 31 = .ok (.iload_n 3, 1) := by decide +kernel
theorem dX11_guessBy_32 : decode cX11_guessBy 32 = .ok (.iadd, 1) := by decide +kernel
theorem dX11_guessBy_33 : decode cX11_guessBy 33 = .ok (.iload 4, 2) := by decide +kernel
theorem dX11_guessBy_35 : decode cX11_guessBy 35 = .ok (.iadd, 1) := by decide +kernel
theorem dX11_guessBy_36 : decode cX11_guessBy 36 = .ok (.iconst 3, 1) := by decide +kernel
theorem dX11_guessBy_37 : decode cX11_guessBy 37 = .ok (.idiv, 1) := by decide +kernel
theorem dX11_guessBy_38 : decode cX11_guessBy 38 = .ok (.istore 5, 2) := by decide +kernel
theorem dX11_guessBy_40 : decode cX11_guessBy 40 = .ok (.goto 42, 3) := by decide +kernel
theorem dX11_guessBy_43 : decode cX11_guessBy 43 = .ok (.iload_n 0, 1) := by decide +kernel
theorem dX11_guessBy_44 : decode cX11_guessBy 44 = .ok (.iconst 3, 1) := by decide +kernel
theorem dX11_guessBy_45 : decode cX11_guessBy 45 = .ok (.if_icmp .ne 18, 3) := by decide +kernel
theorem dX11_guessBy_48 : decode cX11_guessBy 48 = .ok (.iload_n 2, 1) := by decide +kernel
theorem dX11_guessBy_49 : decode cX11_guessBy 49 = .ok (.iload_n 2, 1) := by decide +kernel
theorem dX11_guessBy_50 : decode cX11_guessBy 50 = .ok (.iload_n 3, 1) := by decide +kernel
theorem dX11_guessBy_51 : decode cX11_guessBy 51 = .ok (.isub, 1) := by decide +kernel
theorem dX11_guessBy_52 : decode cX11_guessBy 52 = .ok (.iload_n 1, 1) := by decide +kernel
theorem dX11_guessBy_53 : decode cX11_guessBy 53 = .ok (.imul, 1) := by decide +kernel
theorem dX11_guessBy_54 : decode cX11_guessBy 54 = .ok (.bipush 10, 2) := by decide +kernel
theorem dX11_guessBy_56 : decode cX11_guessBy 56 = .ok (.idiv, 1) := by decide +kernel
theorem dX11_guessBy_57 : decode cX11_guessBy 57 = .ok (.iadd, 1) := by decide +kernel
theorem dX11_guessBy_58 : decode cX11_guessBy 58 = .ok (.istore 5, 2) := by decide +kernel
theorem dX11_guessBy_60 : decode cX11_guessBy 60 = .ok (.goto 22, 3) := by decide +kernel
theorem dX11_guessBy_63 : decode cX11_guessBy 63 = .ok (.iload_n 0, 1) := by decide +kernel
theorem dX11_guessBy_64 : decode cX11_guessBy 64 = .ok (.iconst 4, 1) := by decide +kernel
theorem dX11_guessBy_65 : decode cX11_guessBy 65 = .ok (.if_icmp .ne 17, 3) := by decide +kernel
theorem dX11_guessBy_68 : decode cX11_guessBy 68 = .ok (.iconst 2, 1) := by decide +kernel
theorem dX11_guessBy_69 : decode cX11_guessBy 69 = .ok (.iload_n 2, 1) := by decide +kernel
theorem dX11_guessBy_70 : decode cX11_guessBy 70 = .ok (.iload_n 3, 1) := by decide +kernel
theorem dX11_guessBy_71 : decode cX11_guessBy 71 = .ok (.iadd, 1) := by decide +kernel
theorem dX11_guessBy_72 : decode cX11_guessBy 72 = .ok (.iload 4, 2) := by decide +kernel
theorem dX11_guessBy_74 : decode cX11_guessBy 74 = .ok (.iadd, 1) := by decide +kernel
theorem dX11_guessBy_75 : decode cX11_guessBy 75 = .ok (.iconst 3, 1) := by decide +kernel
theorem dX11_guessBy_76 : decode cX11_guessBy 76 = .ok (.idiv, 1) := by decide +kernel
theorem dX11_guessBy_77 : decode cX11_guessBy 77 = .ok (.imul, 1) := by decide +kernel
theorem dX11_guessBy_78 : decode cX11_guessBy 78 = .ok (.iload_n 2, 1) := by decide +kernel
theorem dX11_guessBy_79 : decode cX11_guessBy 79 = .ok (.isub, 1) := by decide +kernel
theorem dX11_guessBy_80 : decode cX11_guessBy 80 = .ok (.istore 5, 2) := by decide +kernel
theorem dX11_guessBy_82 : decode cX11_guessBy 82 = .ok (.iload 5, 2) := by decide +kernel
theorem dX11_guessBy_84 : decode cX11_guessBy 84 = .ok (.iconst 0, 1) := by decide +kernel
theorem dX11_guessBy_85 : decode cX11_guessBy 85 = .ok (.bipush 99, 2) := by decide +kernel
theorem dX11_guessBy_87 : decode cX11_guessBy 87 = .ok (.invokestatic 197, 3) := by decide +kernel
theorem dX11_guessBy_90 : decode cX11_guessBy 90 = .ok (.ireturn, 1) := by decide +kernel
theorem dX11_isOut_0 : decode cX11_isOut 0 = .ok (.aload_n 0, 1) := by decide +kernel
theorem dX11_isOut_1 : decode cX11_isOut 1 = .ok (.getfield 37, 3) := by decide +kernel
theorem dX11_isOut_4 : decode cX11_isOut 4 = .ok (.bipush 12, 2) := by decide +kernel
theorem dX11_isOut_6 : decode cX11_isOut 6 = .ok (.iload_n 1, 1) := by decide +kernel
theorem dX11_isOut_7 : decode cX11_isOut 7 = .ok (.iadd, 1) := by decide +kernel
theorem dX11_isOut_8 : decode cX11_isOut 8 = .ok (.iaload, 1) := by decide +kernel
theorem dX11_isOut_9 : decode cX11_isOut 9 = .ok (.iconst 1, 1) := by decide +kernel
theorem dX11_isOut_10 : decode cX11_isOut 10 = .ok (.if_icmp .ne 7, 3) := by decide +kernel
theorem dX11_isOut_13 : decode cX11_isOut 13 = .ok (.iconst 1, 1) := by decide +kernel
theorem dX11_isOut_14 : decode cX11_isOut 14 = .ok (.goto 4, 3) := by decide +kernel
theorem dX11_isOut_17 : decode cX11_isOut 17 = .ok (.iconst 0, 1) := by decide +kernel
theorem dX11_isOut_18 : decode cX11_isOut 18 = .ok (.ireturn, 1) := by decide +kernel
set_option maxRecDepth 20000 in
theorem ggX11_pigsBy_X11_told : GoodIn wsX11_pigsBy wsX11_told := goodIn_r _ [5, 6, 7, 8, 9, 10, 11, 12, 13, 14, 15, 16, 17, 18, 19, 20, 21, 22, 23, 24, 25, 26, 27, 28, 29, 30, 31, 32, 33, 34, 35, 36, 37, 38, 39, 40, 41] (by decide +kernel) (by decide +kernel)
set_option maxRecDepth 20000 in
theorem gX11_pigsBy_X11_told : GoodIn wsX11_pigsBy (wsV RX11 201 RX11 yX11_told wsX11_told) := goodIn_app (goodIn_of _ (by decide +kernel)) ggX11_pigsBy_X11_told
theorem dX11_pigsBy_0 : decode cX11_pigsBy 0 = .ok (.aload_n 0, 1) := by decide +kernel
theorem dX11_pigsBy_1 : decode cX11_pigsBy 1 = .ok (.iload_n 1, 1) := by decide +kernel
theorem dX11_pigsBy_2 : decode cX11_pigsBy 2 = .ok (.iconst 3, 1) := by decide +kernel
theorem dX11_pigsBy_3 : decode cX11_pigsBy 3 = .ok (.invokevirtual 201, 3) := by decide +kernel
theorem dX11_pigsBy_6 : decode cX11_pigsBy 6 = .ok (.aload_n 0, 1) := by decide +kernel
theorem dX11_pigsBy_7 : decode cX11_pigsBy 7 = .ok (.iload_n 1, 1) := by decide +kernel
theorem dX11_pigsBy_8 : decode cX11_pigsBy 8 = .ok (.iconst 4, 1) := by decide +kernel
theorem dX11_pigsBy_9 : decode cX11_pigsBy 9 = .ok (.invokevirtual 201, 3) := by decide +kernel
theorem dX11_pigsBy_12 : decode cX11_pigsBy 12 = .ok (.iload_n 2, 1) := by decide +kernel
theorem dX11_pigsBy_13 : decode cX11_pigsBy 13 = .ok (.imul, 1) := by decide +kernel
theorem dX11_pigsBy_14 : decode cX11_pigsBy 14 = .ok (.bipush 10, 2) := by decide +kernel
theorem dX11_pigsBy_16 : decode cX11_pigsBy 16 = .ok (.idiv, 1) := by decide +kernel
theorem dX11_pigsBy_17 : decode cX11_pigsBy 17 = .ok (.iadd, 1) := by decide +kernel
theorem dX11_pigsBy_18 : decode cX11_pigsBy 18 = .ok (.ireturn, 1) := by decide +kernel
set_option maxRecDepth 20000 in
theorem ggX11_guessOf_X11_told : GoodIn wsX11_guessOf wsX11_told := goodIn_r _ [7, 8, 15, 16, 17, 18, 19, 20, 21, 22, 23, 24, 25, 26, 27, 28, 29, 30, 31, 32, 33, 34, 35, 36, 37, 38, 39, 40, 41, 42, 43, 44, 45, 46, 47, 48, 49] (by decide +kernel) (by decide +kernel)
set_option maxRecDepth 20000 in
theorem gX11_guessOf_X11_told : GoodIn wsX11_guessOf (wsV RX11 201 RX11 yX11_told wsX11_told) := goodIn_app (goodIn_of _ (by decide +kernel)) ggX11_guessOf_X11_told
set_option maxRecDepth 20000 in
theorem ggX11_guessOf_X11_guessBy : GoodIn wsX11_guessOf wsX11_guessBy := goodIn_r _ [11, 12, 13, 6, 14] (by decide +kernel) (by decide +kernel)
set_option maxRecDepth 20000 in
theorem gX11_guessOf_X11_guessBy : GoodIn wsX11_guessOf (va_wsS RX11 204 yX11_guessBy wsX11_guessBy) := goodIn_app (goodIn_of _ (by decide +kernel)) ggX11_guessOf_X11_guessBy
theorem dX11_guessOf_0 : decode cX11_guessOf 0 = .ok (.aload_n 0, 1) := by decide +kernel
theorem dX11_guessOf_1 : decode cX11_guessOf 1 = .ok (.iload_n 1, 1) := by decide +kernel
theorem dX11_guessOf_2 : decode cX11_guessOf 2 = .ok (.iconst 0, 1) := by decide +kernel
theorem dX11_guessOf_3 : decode cX11_guessOf 3 = .ok (.invokevirtual 201, 3) := by decide +kernel
theorem dX11_guessOf_6 : decode cX11_guessOf 6 = .ok (.istore_n 3, 1) := by decide +kernel
theorem dX11_guessOf_7 : decode cX11_guessOf 7 = .ok (.iload_n 3, 1) := by decide +kernel
theorem dX11_guessOf_8 : decode cX11_guessOf 8 = .ok (.bipush 6, 2) := by decide +kernel
theorem dX11_guessOf_10 : decode cX11_guessOf 10 = .ok (.if_icmp .ne 7, 3) := by decide +kernel
theorem dX11_guessOf_13 : decode cX11_guessOf 13 = .ok (.iload_n 2, 1) := by decide +kernel
theorem dX11_guessOf_14 : decode cX11_guessOf 14 = .ok (.goto 43, 3) := by decide +kernel
theorem dX11_guessOf_17 : decode cX11_guessOf 17 = .ok (.iload_n 3, 1) := by decide +kernel
theorem dX11_guessOf_18 : decode cX11_guessOf 18 = .ok (.iconst 5, 1) := by decide +kernel
theorem dX11_guessOf_19 : decode cX11_guessOf 19 = .ok (.if_icmp .ne 10, 3) := by decide +kernel
theorem dX11_guessOf_22 : decode cX11_guessOf 22 = .ok (.aload_n 0, 1) := by decide +kernel
theorem dX11_guessOf_23 : decode cX11_guessOf 23 = .ok (.getfield 185, 3) := by decide +kernel
theorem dX11_guessOf_26 : decode cX11_guessOf 26 = .ok (.goto 31, 3) := by decide +kernel
theorem dX11_guessOf_29 : decode cX11_guessOf 29 = .ok (.iload_n 3, 1) := by decide +kernel
theorem dX11_guessOf_30 : decode cX11_guessOf 30 = .ok (.aload_n 0, 1) := by decide +kernel
theorem dX11_guessOf_31 : decode cX11_guessOf 31 = .ok (.iload_n 1, 1) := by decide +kernel
theorem dX11_guessOf_32 : decode cX11_guessOf 32 = .ok (.iconst 1, 1) := by decide +kernel
theorem dX11_guessOf_33 : decode cX11_guessOf 33 = .ok (.invokevirtual 201, 3) := by decide +kernel
theorem dX11_guessOf_36 : decode cX11_guessOf 36 = .ok (.aload_n 0, 1) := by decide +kernel
theorem dX11_guessOf_37 : decode cX11_guessOf 37 = .ok (.getfield 37, 3) := by decide +kernel
theorem dX11_guessOf_40 : decode cX11_guessOf 40 = .ok (.iconst 0, 1) := by decide +kernel
theorem dX11_guessOf_41 : decode cX11_guessOf 41 = .ok (.iaload, 1) := by decide +kernel
theorem dX11_guessOf_42 : decode cX11_guessOf 42 = .ok (.aload_n 0, 1) := by decide +kernel
theorem dX11_guessOf_43 : decode cX11_guessOf 43 = .ok (.getfield 37, 3) := by decide +kernel
theorem dX11_guessOf_46 : decode cX11_guessOf 46 = .ok (.iconst 1, 1) := by decide +kernel
theorem dX11_guessOf_47 : decode cX11_guessOf 47 = .ok (.iaload, 1) := by decide +kernel
theorem dX11_guessOf_48 : decode cX11_guessOf 48 = .ok (.aload_n 0, 1) := by decide +kernel
theorem dX11_guessOf_49 : decode cX11_guessOf 49 = .ok (.getfield 37, 3) := by decide +kernel
theorem dX11_guessOf_52 : decode cX11_guessOf 52 = .ok (.iconst 2, 1) := by decide +kernel
theorem dX11_guessOf_53 : decode cX11_guessOf 53 = .ok (.iaload, 1) := by decide +kernel
theorem dX11_guessOf_54 : decode cX11_guessOf 54 = .ok (.invokestatic 204, 3) := by decide +kernel
theorem dX11_guessOf_57 : decode cX11_guessOf 57 = .ok (.ireturn, 1) := by decide +kernel
set_option maxRecDepth 20000 in
theorem ggX11_pigsWith_X11_isOut : GoodIn wsX11_pigsWith wsX11_isOut := goodIn_r _ [6, 7, 28, 29, 30, 31, 32, 33, 34, 35, 36, 37, 38, 39, 40, 41, 42, 43, 44, 45, 46, 47, 48, 49, 50, 51, 52, 53, 54, 55, 56, 57, 58, 59, 60, 61, 62] (by decide +kernel) (by decide +kernel)
set_option maxRecDepth 20000 in
theorem gX11_pigsWith_X11_isOut : GoodIn wsX11_pigsWith (wsV RX11 208 RX11 yX11_isOut wsX11_isOut) := goodIn_app (goodIn_of _ (by decide +kernel)) ggX11_pigsWith_X11_isOut
set_option maxRecDepth 20000 in
theorem ggX11_pigsWith_X11_told : GoodIn wsX11_pigsWith wsX11_told := goodIn_r _ [11, 12, 28, 29, 30, 31, 32, 33, 34, 35, 36, 37, 38, 39, 40, 41, 42, 43, 44, 45, 46, 47, 48, 49, 50, 51, 52, 53, 54, 55, 56, 57, 58, 59, 60, 61, 62] (by decide +kernel) (by decide +kernel)
set_option maxRecDepth 20000 in
theorem gX11_pigsWith_X11_told : GoodIn wsX11_pigsWith (wsV RX11 201 RX11 yX11_told wsX11_told) := goodIn_app (goodIn_of _ (by decide +kernel)) ggX11_pigsWith_X11_told
set_option maxRecDepth 20000 in
theorem ggX11_pigsWith_X11_guessOf : GoodIn wsX11_pigsWith wsX11_guessOf := goodIn_r _ [16, 17, 7, 8, 9, 10, 5, 11, 12, 18, 19, 20, 21, 22, 23, 28, 29, 30, 31, 32, 33, 34, 35, 36, 37, 38, 39, 40, 41, 42, 43, 44, 45, 46, 47, 48, 49, 50, 51, 52, 53, 54, 55, 56, 57, 58, 59, 60, 61, 62] (by decide +kernel) (by decide +kernel)
set_option maxRecDepth 20000 in
theorem gX11_pigsWith_X11_guessOf : GoodIn wsX11_pigsWith (wsV RX11 211 RX11 yX11_guessOf wsX11_guessOf) := goodIn_app (goodIn_of _ (by decide +kernel)) ggX11_pigsWith_X11_guessOf
set_option maxRecDepth 20000 in
theorem ggX11_pigsWith_X11_pigsBy : GoodIn wsX11_pigsWith wsX11_pigsBy := goodIn_r _ [27, 8, 9, 10, 5, 11, 12, 28, 29, 30, 31, 32, 33, 34, 35, 36, 37, 38, 39, 40, 41, 42, 43, 44, 45, 46, 47, 48, 49, 50, 51, 52, 53, 54, 55, 56, 57, 58, 59, 60, 61, 62] (by decide +kernel) (by decide +kernel)
set_option maxRecDepth 20000 in
theorem gX11_pigsWith_X11_pigsBy : GoodIn wsX11_pigsWith (wsV RX11 214 RX11 yX11_pigsBy wsX11_pigsBy) := goodIn_app (goodIn_of _ (by decide +kernel)) ggX11_pigsWith_X11_pigsBy
theorem dX11_pigsWith_0 : decode cX11_pigsWith 0 = .ok (.iconst 0, 1) := by decide +kernel
theorem dX11_pigsWith_1 : decode cX11_pigsWith 1 = .ok (.istore_n 2, 1) := by decide +kernel
theorem dX11_pigsWith_2 : decode cX11_pigsWith 2 = .ok (.iconst 0, 1) := by decide +kernel
theorem dX11_pigsWith_3 : decode cX11_pigsWith 3 = .ok (.istore_n 3, 1) := by decide +kernel
theorem dX11_pigsWith_4 : decode cX11_pigsWith 4 = .ok (.iload_n 3, 1) := by decide +kernel
theorem dX11_pigsWith_5 : decode cX11_pigsWith 5 = .ok (.aload_n 0, 1) := by decide +kernel
theorem dX11_pigsWith_6 : decode cX11_pigsWith 6 = .ok (.getfield 180, 3) := by decide +kernel
theorem dX11_pigsWith_9 : decode cX11_pigsWith 9 = .ok (.if_icmp .ge 42, 3) := by decide +kernel
theorem dX11_pigsWith_12 : decode cX11_pigsWith 12 = .ok (.iload_n 2, 1) := by decide +kernel
theorem dX11_pigsWith_13 : decode cX11_pigsWith 13 = .ok (.aload_n 0, 1) := by decide +kernel
theorem dX11_pigsWith_14 : decode cX11_pigsWith 14 = .ok (.iload_n 3, 1) := by decide +kernel
theorem dX11_pigsWith_15 : decode cX11_pigsWith 15 = .ok (.invokevirtual 208, 3) := by decide +kernel
theorem dX11_pigsWith_18 : decode cX11_pigsWith 18 = .ok (.ifCond .eq 7, 3) := by decide +kernel
theorem dX11_pigsWith_21 : decode cX11_pigsWith 21 = .ok (.iconst 0, 1) := by decide +kernel
theorem dX11_pigsWith_22 : decode cX11_pigsWith 22 = .ok (.goto 21, 3) := by decide +kernel
theorem dX11_pigsWith_25 : decode cX11_pigsWith 25 = .ok (.aload_n 0, 1) := by decide +kernel
theorem dX11_pigsWith_26 : decode cX11_pigsWith 26 = .ok (.iload_n 3, 1) := by decide +kernel
theorem dX11_pigsWith_27 : decode cX11_pigsWith 27 = .ok (.iconst 2, 1) := by decide +kernel
theorem dX11_pigsWith_28 : decode cX11_pigsWith 28 = .ok (.invokevirtual 201, 3) := by decide +kernel
theorem dX11_pigsWith_31 : decode cX11_pigsWith 31 = .ok (.aload_n 0, 1) := by decide +kernel
theorem dX11_pigsWith_32 : decode cX11_pigsWith 32 = .ok (.iload_n 3, 1) := by decide +kernel
theorem dX11_pigsWith_33 : decode cX11_pigsWith 33 = .ok (.aload_n 0, 1) := by decide +kernel
theorem dX11_pigsWith_34 : decode cX11_pigsWith 34 = .ok (.iload_n 3, 1) := by decide +kernel
theorem dX11_pigsWith_35 : decode cX11_pigsWith 35 = .ok (.iload_n 1, 1) := by decide +kernel
theorem dX11_pigsWith_36 : decode cX11_pigsWith 36 = .ok (.invokevirtual 211, 3) := by decide +kernel
theorem dX11_pigsWith_39 : decode cX11_pigsWith 39 = .ok (.invokevirtual 214, 3) := by decide +kernel
theorem dX11_pigsWith_42 : decode cX11_pigsWith 42 = .ok (.imul, 1) := by decide +kernel
theorem dX11_pigsWith_43 : decode cX11_pigsWith 43 = .ok (.iadd, 1) := by decide +kernel
theorem dX11_pigsWith_44 : decode cX11_pigsWith 44 = .ok (.istore_n 2, 1) := by decide +kernel
theorem dX11_pigsWith_45 : decode cX11_pigsWith 45 = .ok (.iinc 3 1, 3) := by decide +kernel
theorem dX11_pigsWith_48 : decode cX11_pigsWith 48 = .ok (.goto (-44), 3) := by decide +kernel
theorem dX11_pigsWith_51 : decode cX11_pigsWith 51 = .ok (.iload_n 2, 1) := by decide +kernel
theorem dX11_pigsWith_52 : decode cX11_pigsWith 52 = .ok (.ireturn, 1) := by decide +kernel
theorem dX11_priceOf_0 : decode cX11_priceOf 0 = .ok (.aload_n 0, 1) := by decide +kernel
theorem dX11_priceOf_1 : decode cX11_priceOf 1 = .ok (.getfield 19, 3) := by decide +kernel
theorem dX11_priceOf_4 : decode cX11_priceOf 4 = .ok (.iconst 0, 1) := by decide +kernel
theorem dX11_priceOf_5 : decode cX11_priceOf 5 = .ok (.iaload, 1) := by decide +kernel
theorem dX11_priceOf_6 : decode cX11_priceOf 6 = .ok (.iload_n 1, 1) := by decide +kernel
theorem dX11_priceOf_7 : decode cX11_priceOf 7 = .ok (.aload_n 0, 1) := by decide +kernel
theorem dX11_priceOf_8 : decode cX11_priceOf 8 = .ok (.getfield 19, 3) := by decide +kernel
theorem dX11_priceOf_11 : decode cX11_priceOf 11 = .ok (.iconst 1, 1) := by decide +kernel
theorem dX11_priceOf_12 : decode cX11_priceOf 12 = .ok (.iaload, 1) := by decide +kernel
theorem dX11_priceOf_13 : decode cX11_priceOf 13 = .ok (.idiv, 1) := by decide +kernel
theorem dX11_priceOf_14 : decode cX11_priceOf 14 = .ok (.isub, 1) := by decide +kernel
theorem dX11_priceOf_15 : decode cX11_priceOf 15 = .ok (.istore_n 2, 1) := by decide +kernel
theorem dX11_priceOf_16 : decode cX11_priceOf 16 = .ok (.iload_n 2, 1) := by decide +kernel
theorem dX11_priceOf_17 : decode cX11_priceOf 17 = .ok (.ifCond .ge 7, 3) := by decide +kernel
theorem dX11_priceOf_20 : decode cX11_priceOf 20 = .ok (.iconst 0, 1) := by decide +kernel
theorem dX11_priceOf_21 : decode cX11_priceOf 21 = .ok (.goto 4, 3) := by decide +kernel
theorem dX11_priceOf_24 : decode cX11_priceOf 24 = .ok (.iload_n 2, 1) := by decide +kernel
theorem dX11_priceOf_25 : decode cX11_priceOf 25 = .ok (.ireturn, 1) := by decide +kernel
set_option maxRecDepth 20000 in
theorem ggX11_wiseGuess_X11_pigsWith : GoodIn wsX11_wiseGuess wsX11_pigsWith := goodIn_r _ [5, 6, 7, 8, 9, 4, 10, 11, 12, 13, 14, 15, 16, 17, 18, 19, 20, 21, 22, 23, 24, 25, 26, 27, 28, 29, 30, 31, 37, 38, 39, 40, 41, 42, 43, 44, 45, 46, 47, 48, 49, 50, 51, 52, 53, 54, 55, 56, 57, 58, 59, 60, 61, 62, 63, 64, 65, 66, 67, 68, 69, 70, 71] (by decide +kernel) (by decide +kernel)
set_option maxRecDepth 20000 in
theorem gX11_wiseGuess_X11_pigsWith : GoodIn wsX11_wiseGuess (wsV RX11 217 RX11 yX11_pigsWith wsX11_pigsWith) := goodIn_app (goodIn_of _ (by decide +kernel)) ggX11_wiseGuess_X11_pigsWith
set_option maxRecDepth 20000 in
theorem ggX11_wiseGuess_X11_priceOf : GoodIn wsX11_wiseGuess wsX11_priceOf := goodIn_r _ [35, 36, 37, 38, 39, 40, 41, 42, 43, 44, 45, 46, 47, 48, 49, 50, 51, 52, 53, 54, 55, 56, 57, 58, 59, 60, 61, 62, 63, 64, 65, 66, 67, 68, 69, 70, 71] (by decide +kernel) (by decide +kernel)
set_option maxRecDepth 20000 in
theorem gX11_wiseGuess_X11_priceOf : GoodIn wsX11_wiseGuess (wsV RX11 220 RX11 yX11_priceOf wsX11_priceOf) := goodIn_app (goodIn_of _ (by decide +kernel)) ggX11_wiseGuess_X11_priceOf
theorem dX11_wiseGuess_0 : decode cX11_wiseGuess 0 = .ok (.iconst 0, 1) := by decide +kernel
theorem dX11_wiseGuess_1 : decode cX11_wiseGuess 1 = .ok (.istore_n 1, 1) := by decide +kernel
theorem dX11_wiseGuess_2 : decode cX11_wiseGuess 2 = .ok (.sipush 1000, 3) := by decide +kernel
theorem dX11_wiseGuess_5 : decode cX11_wiseGuess 5 = .ok (.istore_n 2, 1) := by decide +kernel
theorem dX11_wiseGuess_6 : decode cX11_wiseGuess 6 = .ok (.iconst 0, 1) := by decide +kernel
theorem dX11_wiseGuess_7 : decode cX11_wiseGuess 7 = .ok (.istore_n 3, 1) := by decide +kernel
theorem dX11_wiseGuess_8 : decode cX11_wiseGuess 8 = .ok (.iload_n 3, 1) := by decide +kernel
theorem dX11_wiseGuess_9 : decode cX11_wiseGuess 9 = .ok (.bipush 100, 2) := by decide +kernel
theorem dX11_wiseGuess_11 : decode cX11_wiseGuess 11 = .ok (.if_icmp .ge 62, 3) := by decide +kernel
theorem dX11_wiseGuess_14 : decode cX11_wiseGuess 14 = .ok (.aload_n 0, 1) := by decide +kernel
theorem dX11_wiseGuess_15 : decode cX11_wiseGuess 15 = .ok (.aload_n 0, 1) := by decide +kernel
theorem dX11_wiseGuess_16 : decode cX11_wiseGuess 16 = .ok (.iload_n 3, 1) := by decide +kernel
theorem dX11_wiseGuess_17 : decode cX11_wiseGuess 17 = .ok (.invokevirtual 217, 3) := by decide +kernel
theorem dX11_wiseGuess_20 : decode cX11_wiseGuess 20 = .ok (.invokevirtual 220, 3) := by decide +kernel
theorem dX11_wiseGuess_23 : decode cX11_wiseGuess 23 = .ok (.iload_n 3, 1) := by decide +kernel
theorem dX11_wiseGuess_24 : decode cX11_wiseGuess 24 = .ok (.isub, 1) := by decide +kernel
theorem dX11_wiseGuess_25 : decode cX11_wiseGuess 25 = .ok (.istore 4, 2) := by decide +kernel
theorem dX11_wiseGuess_27 : decode cX11_wiseGuess 27 = .ok (.iload 4, 2) := by decide +kernel
theorem dX11_wiseGuess_29 : decode cX11_wiseGuess 29 = .ok (.ifCond .ge 9, 3) := by decide +kernel
theorem dX11_wiseGuess_32 : decode cX11_wiseGuess 32 = .ok (.iload 4, 2) := by decide +kernel
theorem dX11_wiseGuess_34 : decode cX11_wiseGuess 34 = .ok (.ineg, 1) := by decide +kernel
theorem dX11_wiseGuess_35 : decode cX11_wiseGuess 35 = .ok (.goto 5, 3) := by decide +kernel
theorem dX11_wiseGuess_38 : decode cX11_wiseGuess 38 = .ok (.iload 4, 2) := by decide +kernel
theorem dX11_wiseGuess_40 : decode cX11_wiseGuess 40 = .ok (.istore 4, 2) := by decide +kernel
theorem dX11_wiseGuess_42 : decode cX11_wiseGuess 42 = .ok (.iload 4, 2) := by decide +kernel
theorem dX11_wiseGuess_44 : decode cX11_wiseGuess 44 = .ok (.iload_n 2, 1) := by decide +kernel
theorem dX11_wiseGuess_45 : decode cX11_wiseGuess 45 = .ok (.if_icmp .ge 7, 3) := by decide +kernel
theorem dX11_wiseGuess_48 : decode cX11_wiseGuess 48 = .ok (.iload_n 3, 1) := by decide +kernel
theorem dX11_wiseGuess_49 : decode cX11_wiseGuess 49 = .ok (.goto 4, 3) := by decide +kernel
theorem dX11_wiseGuess_52 : decode cX11_wiseGuess 52 = .ok (.iload_n 1, 1) := by decide +kernel
theorem dX11_wiseGuess_53 : decode cX11_wiseGuess 53 = .ok (.istore_n 1, 1) := by decide +kernel
theorem dX11_wiseGuess_54 : decode cX11_wiseGuess 54 = .ok (.iload 4, 2) := by decide +kernel
theorem dX11_wiseGuess_56 : decode cX11_wiseGuess 56 = .ok (.iload_n 2, 1) := by decide +kernel
theorem dX11_wiseGuess_57 : decode cX11_wiseGuess 57 = .ok (.if_icmp .ge 8, 3) := by decide +kernel
theorem dX11_wiseGuess_60 : decode cX11_wiseGuess 60 = .ok (.iload 4, 2) := by decide +kernel
theorem dX11_wiseGuess_62 : decode cX11_wiseGuess 62 = .ok (.goto 4, 3) := by decide +kernel
theorem dX11_wiseGuess_65 : decode cX11_wiseGuess 65 = .ok (.iload_n 2, 1) := by decide +kernel
theorem dX11_wiseGuess_66 : decode cX11_wiseGuess 66 = .ok (.istore_n 2, 1) := by decide +kernel
theorem dX11_wiseGuess_67 : decode cX11_wiseGuess 67 = .ok (.iinc 3 1, 3) := by decide +kernel
theorem dX11_wiseGuess_70 : decode cX11_wiseGuess 70 = .ok (.goto (-62), 3) := by decide +kernel
theorem dX11_wiseGuess_73 : decode cX11_wiseGuess 73 = .ok (.iload_n 1, 1) := by decide +kernel
theorem dX11_wiseGuess_74 : decode cX11_wiseGuess 74 = .ok (.ireturn, 1) := by decide +kernel
set_option maxRecDepth 20000 in
theorem ggX11_isKind_X11_in : GoodIn wsX11_isKind wsX11_in := goodIn_r _ [5] (by decide +kernel) (by decide +kernel)
set_option maxRecDepth 20000 in
theorem gX11_isKind_X11_in : GoodIn wsX11_isKind (va_wsS RX11 68 yX11_in wsX11_in) := goodIn_app (goodIn_of _ (by decide +kernel)) ggX11_isKind_X11_in
theorem dX11_isKind_0 : decode cX11_isKind 0 = .ok (.iload_n 1, 1) := by decide +kernel
theorem dX11_isKind_1 : decode cX11_isKind 1 = .ok (.i2l, 1) := by decide +kernel
theorem dX11_isKind_2 : decode cX11_isKind 2 = .ok (.lconst 0, 1) := by decide +kernel
theorem dX11_isKind_3 : decode cX11_isKind 3 = .ok (.aload_n 0, 1) := by decide +kernel
theorem dX11_isKind_4 : decode cX11_isKind 4 = .ok (.getfield 180, 3) := by decide +kernel
theorem dX11_isKind_7 : decode cX11_isKind 7 = .ok (.iconst 1, 1) := by decide +kernel
theorem dX11_isKind_8 : decode cX11_isKind 8 = .ok (.isub, 1) := by decide +kernel
theorem dX11_isKind_9 : decode cX11_isKind 9 = .ok (.i2l, 1) := by decide +kernel
theorem dX11_isKind_10 : decode cX11_isKind 10 = .ok (.invokestatic 68, 3) := by decide +kernel
theorem dX11_isKind_13 : decode cX11_isKind 13 = .ok (.ireturn, 1) := by decide +kernel
set_option maxRecDepth 20000 in
theorem ggX11_farmers_X11_isKind : GoodIn wsX11_farmers wsX11_isKind := goodIn_r _ [9, 10, 11, 12, 8, 13, 51, 52, 53, 54, 55, 56, 57, 58, 59, 60, 61, 62, 63, 64, 65, 66, 67, 68, 69, 70, 71, 72, 73, 74, 75, 76, 77, 78, 79, 80, 81, 82, 83, 84, 85] (by decide +kernel) (by decide +kernel)
set_option maxRecDepth 20000 in
theorem gX11_farmers_X11_isKind : GoodIn wsX11_farmers (wsV RX11 223 RX11 yX11_isKind wsX11_isKind) := goodIn_app (goodIn_of _ (by decide +kernel)) ggX11_farmers_X11_isKind
set_option maxRecDepth 20000 in
theorem ggX11_farmers_X11_in : GoodIn wsX11_farmers wsX11_in := goodIn_r _ [13] (by decide +kernel) (by decide +kernel)
set_option maxRecDepth 20000 in
theorem gX11_farmers_X11_in : GoodIn wsX11_farmers (va_wsS RX11 68 yX11_in wsX11_in) := goodIn_app (goodIn_of _ (by decide +kernel)) ggX11_farmers_X11_in
set_option maxRecDepth 20000 in
theorem ggX11_farmers_X11_wiseGuess : GoodIn wsX11_farmers wsX11_wiseGuess := goodIn_r _ [17, 18, 19, 20, 8, 21, 10, 22, 23, 24, 25, 4, 26, 27, 28, 29, 30, 31, 32, 33, 34, 35, 36, 37, 38, 39, 40, 41, 42, 43, 44, 45, 46, 47, 48, 49, 50, 51, 52, 53, 54, 55, 56, 57, 58, 59, 60, 61, 62, 63, 64, 65, 66, 67, 68, 69, 70, 71, 72, 73, 74, 75, 76, 77, 78, 79, 80, 81, 82, 83, 84, 85] (by decide +kernel) (by decide +kernel)
set_option maxRecDepth 20000 in
theorem gX11_farmers_X11_wiseGuess : GoodIn wsX11_farmers (wsV RX11 226 RX11 yX11_wiseGuess wsX11_wiseGuess) := goodIn_app (goodIn_of _ (by decide +kernel)) ggX11_farmers_X11_wiseGuess
set_option maxRecDepth 20000 in
theorem ggX11_farmers_X11_guessOf : GoodIn wsX11_farmers wsX11_guessOf := goodIn_r _ [34, 35, 4, 26, 27, 28, 8, 29, 30, 36, 37, 38, 39, 40, 41, 51, 52, 53, 54, 55, 56, 57, 58, 59, 60, 61, 62, 63, 64, 65, 66, 67, 68, 69, 70, 71, 72, 73, 74, 75, 76, 77, 78, 79, 80, 81, 82, 83, 84, 85] (by decide +kernel) (by decide +kernel)
set_option maxRecDepth 20000 in
theorem gX11_farmers_X11_guessOf : GoodIn wsX11_farmers (wsV RX11 211 RX11 yX11_guessOf wsX11_guessOf) := goodIn_app (goodIn_of _ (by decide +kernel)) ggX11_farmers_X11_guessOf
set_option maxRecDepth 20000 in
theorem ggX11_farmers_X11_pigsBy : GoodIn wsX11_farmers wsX11_pigsBy := goodIn_r _ [45, 26, 27, 28, 8, 29, 30, 51, 52, 53, 54, 55, 56, 57, 58, 59, 60, 61, 62, 63, 64, 65, 66, 67, 68, 69, 70, 71, 72, 73, 74, 75, 76, 77, 78, 79, 80, 81, 82, 83, 84, 85] (by decide +kernel) (by decide +kernel)
set_option maxRecDepth 20000 in
theorem gX11_farmers_X11_pigsBy : GoodIn wsX11_farmers (wsV RX11 214 RX11 yX11_pigsBy wsX11_pigsBy) := goodIn_app (goodIn_of _ (by decide +kernel)) ggX11_farmers_X11_pigsBy
set_option maxRecDepth 20000 in
theorem ggX11_farmers_X11_told : GoodIn wsX11_farmers wsX11_told := goodIn_r _ [29, 30, 51, 52, 53, 54, 55, 56, 57, 58, 59, 60, 61, 62, 63, 64, 65, 66, 67, 68, 69, 70, 71, 72, 73, 74, 75, 76, 77, 78, 79, 80, 81, 82, 83, 84, 85] (by decide +kernel) (by decide +kernel)
set_option maxRecDepth 20000 in
theorem gX11_farmers_X11_told : GoodIn wsX11_farmers (wsV RX11 201 RX11 yX11_told wsX11_told) := goodIn_app (goodIn_of _ (by decide +kernel)) ggX11_farmers_X11_told
theorem dX11_farmers_0 : decode cX11_farmers 0 = .ok (.aload_n 0, 1) := by decide +kernel
theorem dX11_farmers_1 : decode cX11_farmers 1 = .ok (.iconst 0, 1) := by decide +kernel
theorem dX11_farmers_2 : decode cX11_farmers 2 = .ok (.putfield 58, 3) := by decide +kernel
theorem dX11_farmers_5 : decode cX11_farmers 5 = .ok (.aload_n 0, 1) := by decide +kernel
theorem dX11_farmers_6 : decode cX11_farmers 6 = .ok (.iload_n 1, 1) := by decide +kernel
theorem dX11_farmers_7 : decode cX11_farmers 7 = .ok (.invokevirtual 223, 3) := by decide +kernel
theorem dX11_farmers_10 : decode cX11_farmers 10 = .ok (.ifCond .eq 15, 3) := by decide +kernel
theorem dX11_farmers_13 : decode cX11_farmers 13 = .ok (.iload_n 2, 1) := by decide +kernel
theorem dX11_farmers_14 : decode cX11_farmers 14 = .ok (.i2l, 1) := by decide +kernel
theorem dX11_farmers_15 : decode cX11_farmers 15 = .ok (.lconst 0, 1) := by decide +kernel
theorem dX11_farmers_16 : decode cX11_farmers 16 = .ok (.ldc2_w 66, 3) := by decide +kernel
theorem dX11_farmers_19 : decode cX11_farmers 19 = .ok (.invokestatic 68, 3) := by decide +kernel
theorem dX11_farmers_22 : decode cX11_farmers 22 = .ok (.ifCond .ne 6, 3) := by decide +kernel
theorem dX11_farmers_25 : decode cX11_farmers 25 = .ok (.ldc 78, 2) := by decide +kernel
theorem dX11_farmers_27 : decode cX11_farmers 27 = .ok (.ireturn, 1) := by decide +kernel
theorem dX11_farmers_28 : decode cX11_farmers 28 = .ok (.iload_n 2, 1) := by decide +kernel
theorem dX11_farmers_29 : decode cX11_farmers 29 = .ok (.iconst 5, 1) := by decide +kernel
theorem dX11_farmers_30 : decode cX11_farmers 30 = .ok (.if_icmp .le 30, 3) := by decide +kernel
theorem dX11_farmers_33 : decode cX11_farmers 33 = .ok (.aload_n 0, 1) := by decide +kernel
theorem dX11_farmers_34 : decode cX11_farmers 34 = .ok (.iload_n 1, 1) := by decide +kernel
theorem dX11_farmers_35 : decode cX11_farmers 35 = .ok (.aload_n 0, 1) := by decide +kernel
theorem dX11_farmers_36 : decode cX11_farmers 36 = .ok (.invokevirtual 226, 3) := by decide +kernel
theorem dX11_farmers_39 : decode cX11_farmers 39 = .ok (.invokevirtual 211, 3) := by decide +kernel
theorem dX11_farmers_42 : decode cX11_farmers 42 = .ok (.istore_n 3, 1) := by decide +kernel
theorem dX11_farmers_43 : decode cX11_farmers 43 = .ok (.iload_n 2, 1) := by decide +kernel
theorem dX11_farmers_44 : decode cX11_farmers 44 = .ok (.bipush 6, 2) := by decide +kernel
theorem dX11_farmers_46 : decode cX11_farmers 46 = .ok (.if_icmp .ne 7, 3) := by decide +kernel
theorem dX11_farmers_49 : decode cX11_farmers 49 = .ok (.iload_n 3, 1) := by decide +kernel
theorem dX11_farmers_50 : decode cX11_farmers 50 = .ok (.goto 9, 3) := by decide +kernel
theorem dX11_farmers_53 : decode cX11_farmers 53 = .ok (.aload_n 0, 1) := by decide +kernel
theorem dX11_farmers_54 : decode cX11_farmers 54 = .ok (.iload_n 1, 1) := by decide +kernel
theorem dX11_farmers_55 : decode cX11_farmers 55 = .ok (.iload_n 3, 1) := by decide +kernel
theorem dX11_farmers_56 : decode cX11_farmers 56 = .ok (.invokevirtual 214, 3) := by decide +kernel
theorem dX11_farmers_59 : decode cX11_farmers 59 = .ok (.ireturn, 1) := by decide +kernel
theorem dX11_farmers_60 : decode cX11_farmers 60 = .ok (.iload_n 2, 1) := by decide +kernel
theorem dX11_farmers_61 : decode cX11_farmers 61 = .ok (.iconst 4, 1) := by decide +kernel
theorem dX11_farmers_62 : decode cX11_farmers 62 = .ok (.if_icmp .ge 14, 3) := by decide +kernel
theorem dX11_farmers_65 : decode cX11_farmers 65 = .ok (.aload_n 0, 1) := by decide +kernel
theorem dX11_farmers_66 : decode cX11_farmers 66 = .ok (.iload_n 1, 1) := by decide +kernel
theorem dX11_farmers_67 : decode cX11_farmers 67 = .ok (.iconst 2, 1) := by decide +kernel
theorem dX11_farmers_68 : decode cX11_farmers 68 = .ok (.iload_n 2, 1) := by decide +kernel
theorem dX11_farmers_69 : decode cX11_farmers 69 = .ok (.iadd, 1) := by decide +kernel
theorem dX11_farmers_70 : decode cX11_farmers 70 = .ok (.invokevirtual 201, 3) := by decide +kernel
theorem dX11_farmers_73 : decode cX11_farmers 73 = .ok (.goto 22, 3) := by decide +kernel
theorem dX11_farmers_76 : decode cX11_farmers 76 = .ok (.aload_n 0, 1) := by decide +kernel
theorem dX11_farmers_77 : decode cX11_farmers 77 = .ok (.getfield 37, 3) := by decide +kernel
theorem dX11_farmers_80 : decode cX11_farmers 80 = .ok (.iload_n 2, 1) := by decide +kernel
theorem dX11_farmers_81 : decode cX11_farmers 81 = .ok (.iconst 4, 1) := by decide +kernel
theorem dX11_farmers_82 : decode cX11_farmers 82 = .ok (.if_icmp .ne 8, 3) := by decide +kernel
theorem dX11_farmers_85 : decode cX11_farmers 85 = .ok (.bipush 7, 2) := by decide +kernel
theorem dX11_farmers_87 : decode cX11_farmers 87 = .ok (.goto 5, 3) := by decide +kernel
theorem dX11_farmers_90 : decode cX11_farmers 90 = .ok (.bipush 12, 2) := by decide +kernel
theorem dX11_farmers_92 : decode cX11_farmers 92 = .ok (.iload_n 1, 1) := by decide +kernel
theorem dX11_farmers_93 : decode cX11_farmers 93 = .ok (.iadd, 1) := by decide +kernel
theorem dX11_farmers_94 : decode cX11_farmers 94 = .ok (.iaload, 1) := by decide +kernel
theorem dX11_farmers_95 : decode cX11_farmers 95 = .ok (.ireturn, 1) := by decide +kernel
set_option maxRecDepth 20000 in
theorem ggX11_print_X11_in : GoodIn wsX11_print wsX11_in := goodIn_r _ [10] (by decide +kernel) (by decide +kernel)
set_option maxRecDepth 20000 in
theorem gX11_print_X11_in : GoodIn wsX11_print (va_wsS RX11 68 yX11_in wsX11_in) := goodIn_app (goodIn_of _ (by decide +kernel)) ggX11_print_X11_in
theorem dX11_print_0 : decode cX11_print 0 = .ok (.aload_n 0, 1) := by decide +kernel
theorem dX11_print_1 : decode cX11_print 1 = .ok (.iconst 0, 1) := by decide +kernel
theorem dX11_print_2 : decode cX11_print 2 = .ok (.putfield 58, 3) := by decide +kernel
theorem dX11_print_5 : decode cX11_print 5 = .ok (.iload_n 1, 1) := by decide +kernel
theorem dX11_print_6 : decode cX11_print 6 = .ok (.i2l, 1) := by decide +kernel
theorem dX11_print_7 : decode cX11_print 7 = .ok (.lconst 0, 1) := by decide +kernel
theorem dX11_print_8 : decode cX11_print 8 = .ok (.ldc2_w 229, 3) := by decide +kernel
theorem dX11_print_11 : decode cX11_print 11 = .ok (.invokestatic 68, 3) := by decide +kernel
theorem dX11_print_14 : decode cX11_print 14 = .ok (.ifCond .ne 6, 3) := by decide +kernel
theorem dX11_print_17 : decode cX11_print 17 = .ok (.ldc 78, 2) := by decide +kernel
theorem dX11_print_19 : decode cX11_print 19 = .ok (.ireturn, 1) := by decide +kernel
theorem dX11_print_20 : decode cX11_print 20 = .ok (.aload_n 0, 1) := by decide +kernel
theorem dX11_print_21 : decode cX11_print 21 = .ok (.getfield 176, 3) := by decide +kernel
theorem dX11_print_24 : decode cX11_print 24 = .ok (.ifCond .ne 6, 3) := by decide +kernel
theorem dX11_print_27 : decode cX11_print 27 = .ok (.ldc 231, 2) := by decide +kernel
theorem dX11_print_29 : decode cX11_print 29 = .ok (.ireturn, 1) := by decide +kernel
theorem dX11_print_30 : decode cX11_print 30 = .ok (.aload_n 0, 1) := by decide +kernel
theorem dX11_print_31 : decode cX11_print 31 = .ok (.getfield 185, 3) := by decide +kernel
theorem dX11_print_34 : decode cX11_print 34 = .ok (.istore_n 2, 1) := by decide +kernel
theorem dX11_print_35 : decode cX11_print 35 = .ok (.aload_n 0, 1) := by decide +kernel
theorem dX11_print_36 : decode cX11_print 36 = .ok (.iload_n 1, 1) := by decide +kernel
theorem dX11_print_37 : decode cX11_print 37 = .ok (.putfield 185, 3) := by decide +kernel
theorem dX11_print_40 : decode cX11_print 40 = .ok (.iload_n 2, 1) := by decide +kernel
theorem dX11_print_41 : decode cX11_print 41 = .ok (.ireturn, 1) := by decide +kernel
set_option maxRecDepth 20000 in
theorem ggX11_ministry_X11_in : GoodIn wsX11_ministry wsX11_in := goodIn_r _ [12] (by decide +kernel) (by decide +kernel)
set_option maxRecDepth 20000 in
theorem gX11_ministry_X11_in : GoodIn wsX11_ministry (va_wsS RX11 68 yX11_in wsX11_in) := goodIn_app (goodIn_of _ (by decide +kernel)) ggX11_ministry_X11_in
theorem dX11_ministry_0 : decode cX11_ministry 0 = .ok (.aload_n 0, 1) := by decide +kernel
theorem dX11_ministry_1 : decode cX11_ministry 1 = .ok (.iconst 0, 1) := by decide +kernel
theorem dX11_ministry_2 : decode cX11_ministry 2 = .ok (.putfield 58, 3) := by decide +kernel
theorem dX11_ministry_5 : decode cX11_ministry 5 = .ok (.iload_n 1, 1) := by decide +kernel
theorem dX11_ministry_6 : decode cX11_ministry 6 = .ok (.i2l, 1) := by decide +kernel
theorem dX11_ministry_7 : decode cX11_ministry 7 = .ok (.lconst 0, 1) := by decide +kernel
theorem dX11_ministry_8 : decode cX11_ministry 8 = .ok (.ldc2_w 229, 3) := by decide +kernel
theorem dX11_ministry_11 : decode cX11_ministry 11 = .ok (.invokestatic 68, 3) := by decide +kernel
theorem dX11_ministry_14 : decode cX11_ministry 14 = .ok (.ifCond .eq 28, 3) := by decide +kernel
theorem dX11_ministry_17 : decode cX11_ministry 17 = .ok (.iload_n 2, 1) := by decide +kernel
theorem dX11_ministry_18 : decode cX11_ministry 18 = .ok (.i2l, 1) := by decide +kernel
theorem dX11_ministry_19 : decode cX11_ministry 19 = .ok (.iload_n 1, 1) := by decide +kernel
theorem dX11_ministry_20 : decode cX11_ministry 20 = .ok (.i2l, 1) := by decide +kernel
theorem dX11_ministry_21 : decode cX11_ministry 21 = .ok (.ldc2_w 229, 3) := by decide +kernel
theorem dX11_ministry_24 : decode cX11_ministry 24 = .ok (.invokestatic 68, 3) := by decide +kernel
theorem dX11_ministry_27 : decode cX11_ministry 27 = .ok (.ifCond .eq 15, 3) := by decide +kernel
theorem dX11_ministry_30 : decode cX11_ministry 30 = .ok (.iload_n 3, 1) := by decide +kernel
theorem dX11_ministry_31 : decode cX11_ministry 31 = .ok (.i2l, 1) := by decide +kernel
theorem dX11_ministry_32 : decode cX11_ministry 32 = .ok (.lconst 0, 1) := by decide +kernel
theorem dX11_ministry_33 : decode cX11_ministry 33 = .ok (.ldc2_w 229, 3) := by decide +kernel
theorem dX11_ministry_36 : decode cX11_ministry 36 = .ok (.invokestatic 68, 3) := by decide +kernel
theorem dX11_ministry_39 : decode cX11_ministry 39 = .ok (.ifCond .ne 6, 3) := by decide +kernel
theorem dX11_ministry_42 : decode cX11_ministry 42 = .ok (.ldc 78, 2) := by decide +kernel
theorem dX11_ministry_44 : decode cX11_ministry 44 = .ok (.ireturn, 1) := by decide +kernel
theorem dX11_ministry_45 : decode cX11_ministry 45 = .ok (.aload_n 0, 1) := by decide +kernel
theorem dX11_ministry_46 : decode cX11_ministry 46 = .ok (.getfield 176, 3) := by decide +kernel
theorem dX11_ministry_49 : decode cX11_ministry 49 = .ok (.ifCond .ne 6, 3) := by decide +kernel
theorem dX11_ministry_52 : decode cX11_ministry 52 = .ok (.ldc 231, 2) := by decide +kernel
theorem dX11_ministry_54 : decode cX11_ministry 54 = .ok (.ireturn, 1) := by decide +kernel
theorem dX11_ministry_55 : decode cX11_ministry 55 = .ok (.aload_n 0, 1) := by decide +kernel
theorem dX11_ministry_56 : decode cX11_ministry 56 = .ok (.iload_n 1, 1) := by decide +kernel
theorem dX11_ministry_57 : decode cX11_ministry 57 = .ok (.putfield 188, 3) := by decide +kernel
theorem dX11_ministry_60 : decode cX11_ministry 60 = .ok (.aload_n 0, 1) := by decide +kernel
theorem dX11_ministry_61 : decode cX11_ministry 61 = .ok (.iload_n 2, 1) := by decide +kernel
theorem dX11_ministry_62 : decode cX11_ministry 62 = .ok (.putfield 191, 3) := by decide +kernel
theorem dX11_ministry_65 : decode cX11_ministry 65 = .ok (.aload_n 0, 1) := by decide +kernel
theorem dX11_ministry_66 : decode cX11_ministry 66 = .ok (.iload_n 3, 1) := by decide +kernel
theorem dX11_ministry_67 : decode cX11_ministry 67 = .ok (.putfield 194, 3) := by decide +kernel
theorem dX11_ministry_70 : decode cX11_ministry 70 = .ok (.iconst 1, 1) := by decide +kernel
theorem dX11_ministry_71 : decode cX11_ministry 71 = .ok (.ireturn, 1) := by decide +kernel
set_option maxRecDepth 20000 in
theorem ggX11_year_X11_wiseGuess : GoodIn wsX11_year wsX11_wiseGuess := goodIn_r _ [12, 13, 14, 15, 11, 16, 1, 17, 18, 19, 20, 6, 21, 22, 23, 24, 25, 26, 27, 28, 29, 30, 31, 32, 33, 34, 35, 36, 37, 38, 39, 40, 41, 42, 43, 44, 7, 45, 46, 47, 48, 49, 50, 51, 52, 53, 54, 55, 56, 57, 58, 59, 60, 61, 62, 63, 64, 65, 66, 67, 68, 69, 70, 71, 72, 73, 74, 75, 76, 77, 78, 79] (by decide +kernel) (by decide +kernel)
set_option maxRecDepth 20000 in
theorem gX11_year_X11_wiseGuess : GoodIn wsX11_year (wsV RX11 226 RX11 yX11_wiseGuess wsX11_wiseGuess) := goodIn_app (goodIn_of _ (by decide +kernel)) ggX11_year_X11_wiseGuess
set_option maxRecDepth 20000 in
theorem ggX11_year_X11_isOut : GoodIn wsX11_year wsX11_isOut := goodIn_r _ [20, 6, 45, 46, 47, 48, 49, 50, 51, 52, 53, 54, 55, 56, 57, 58, 59, 60, 61, 62, 63, 64, 65, 66, 67, 68, 69, 70, 71, 72, 73, 74, 75, 76, 77, 78, 79] (by decide +kernel) (by decide +kernel)
set_option maxRecDepth 20000 in
theorem gX11_year_X11_isOut : GoodIn wsX11_year (wsV RX11 208 RX11 yX11_isOut wsX11_isOut) := goodIn_app (goodIn_of _ (by decide +kernel)) ggX11_year_X11_isOut
set_option maxRecDepth 20000 in
theorem ggX11_year_X11_guessOf : GoodIn wsX11_year wsX11_guessOf := goodIn_r _ [29, 30, 6, 21, 22, 23, 11, 24, 25, 31, 32, 33, 34, 35, 36, 45, 46, 47, 48, 49, 50, 51, 52, 53, 54, 55, 56, 57, 58, 59, 60, 61, 62, 63, 64, 65, 66, 67, 68, 69, 70, 71, 72, 73, 74, 75, 76, 77, 78, 79] (by decide +kernel) (by decide +kernel)
set_option maxRecDepth 20000 in
theorem gX11_year_X11_guessOf : GoodIn wsX11_year (wsV RX11 211 RX11 yX11_guessOf wsX11_guessOf) := goodIn_app (goodIn_of _ (by decide +kernel)) ggX11_year_X11_guessOf
set_option maxRecDepth 20000 in
theorem ggX11_year_X11_pigsBy : GoodIn wsX11_year wsX11_pigsBy := goodIn_r _ [40, 21, 22, 23, 11, 24, 25, 45, 46, 47, 48, 49, 50, 51, 52, 53, 54, 55, 56, 57, 58, 59, 60, 61, 62, 63, 64, 65, 66, 67, 68, 69, 70, 71, 72, 73, 74, 75, 76, 77, 78, 79] (by decide +kernel) (by decide +kernel)
set_option maxRecDepth 20000 in
theorem gX11_year_X11_pigsBy : GoodIn wsX11_year (wsV RX11 214 RX11 yX11_pigsBy wsX11_pigsBy) := goodIn_app (goodIn_of _ (by decide +kernel)) ggX11_year_X11_pigsBy
set_option maxRecDepth 20000 in
theorem ggX11_year_X11_pigsWith : GoodIn wsX11_year wsX11_pigsWith := goodIn_r _ [16, 1, 17, 18, 19, 11, 20, 6, 21, 22, 23, 24, 25, 26, 27, 28, 29, 30, 31, 32, 33, 34, 35, 36, 37, 38, 39, 40, 45, 46, 47, 48, 49, 50, 51, 52, 53, 54, 55, 56, 57, 58, 59, 60, 61, 62, 63, 64, 65, 66, 67, 68, 69, 70, 71, 72, 73, 74, 75, 76, 77, 78, 79] (by decide +kernel) (by decide +kernel)
set_option maxRecDepth 20000 in
theorem gX11_year_X11_pigsWith : GoodIn wsX11_year (wsV RX11 217 RX11 yX11_pigsWith wsX11_pigsWith) := goodIn_app (goodIn_of _ (by decide +kernel)) ggX11_year_X11_pigsWith
set_option maxRecDepth 20000 in
theorem ggX11_year_X11_priceOf : GoodIn wsX11_year wsX11_priceOf := goodIn_r _ [44, 7, 45, 46, 47, 48, 49, 50, 51, 52, 53, 54, 55, 56, 57, 58, 59, 60, 61, 62, 63, 64, 65, 66, 67, 68, 69, 70, 71, 72, 73, 74, 75, 76, 77, 78, 79] (by decide +kernel) (by decide +kernel)
set_option maxRecDepth 20000 in
theorem gX11_year_X11_priceOf : GoodIn wsX11_year (wsV RX11 220 RX11 yX11_priceOf wsX11_priceOf) := goodIn_app (goodIn_of _ (by decide +kernel)) ggX11_year_X11_priceOf
set_option maxRecDepth 20000 in
theorem ggX11_year_X11_told : GoodIn wsX11_year wsX11_told := goodIn_r _ [24, 25, 45, 46, 47, 48, 49, 50, 51, 52, 53, 54, 55, 56, 57, 58, 59, 60, 61, 62, 63, 64, 65, 66, 67, 68, 69, 70, 71, 72, 73, 74, 75, 76, 77, 78, 79] (by decide +kernel) (by decide +kernel)
set_option maxRecDepth 20000 in
theorem gX11_year_X11_told : GoodIn wsX11_year (wsV RX11 201 RX11 yX11_told wsX11_told) := goodIn_app (goodIn_of _ (by decide +kernel)) ggX11_year_X11_told
theorem dX11_year_0 : decode cX11_year 0 = .ok (.aload_n 0, 1) := by decide +kernel
theorem dX11_year_1 : decode cX11_year 1 = .ok (.invokevirtual 226, 3) := by decide +kernel
theorem dX11_year_4 : decode cX11_year 4 = .ok (.istore_n 1, 1) := by decide +kernel
theorem dX11_year_5 : decode cX11_year 5 = .ok (.iconst 0, 1) := by decide +kernel
theorem dX11_year_6 : decode cX11_year 6 = .ok (.istore_n 2, 1) := by decide +kernel
theorem dX11_year_7 : decode cX11_year 7 = .ok (.iload_n 2, 1) := by decide +kernel
theorem dX11_year_8 : decode cX11_year 8 = .ok (.aload_n 0, 1) := by decide +kernel
theorem dX11_year_9 : decode cX11_year 9 = .ok (.getfield 180, 3) := by decide +kernel
theorem dX11_year_12 : decode cX11_year 12 = .ok (.if_icmp .ge 38, 3) := by decide +kernel
theorem dX11_year_15 : decode cX11_year 15 = .ok (.aload_n 0, 1) := by decide +kernel
theorem dX11_year_16 : decode cX11_year 16 = .ok (.getfield 46, 3) := by decide +kernel
theorem dX11_year_19 : decode cX11_year 19 = .ok (.iload_n 2, 1) := by decide +kernel
theorem dX11_year_20 : decode cX11_year 20 = .ok (.aload_n 0, 1) := by decide +kernel
theorem dX11_year_21 : decode cX11_year 21 = .ok (.iload_n 2, 1) := by decide +kernel
theorem dX11_year_22 : decode cX11_year 22 = .ok (.invokevirtual 208, 3) := by decide +kernel
theorem dX11_year_25 : decode cX11_year 25 = .ok (.ifCond .eq 7, 3) := by decide +kernel
theorem dX11_year_28 : decode cX11_year 28 = .ok (.iconst 0, 1) := by decide +kernel
theorem dX11_year_29 : decode cX11_year 29 = .ok (.goto 14, 3) := by decide +kernel
theorem dX11_year_32 : decode cX11_year 32 = .ok (.aload_n 0, 1) := by decide +kernel
theorem dX11_year_33 : decode cX11_year 33 = .ok (.iload_n 2, 1) := by decide +kernel
theorem dX11_year_34 : decode cX11_year 34 = .ok (.aload_n 0, 1) := by decide +kernel
theorem dX11_year_35 : decode cX11_year 35 = .ok (.iload_n 2, 1) := by decide +kernel
theorem dX11_year_36 : decode cX11_year 36 = .ok (.iload_n 1, 1) := by decide +kernel
theorem dX11_year_37 : decode cX11_year 37 = .ok (.invokevirtual 211, 3) := by decide +kernel
theorem dX11_year_40 : decode cX11_year 40 = .ok (.invokevirtual 214, 3) := by decide +kernel
theorem dX11_year_43 : decode cX11_year 43 = .ok (.iastore, 1) := by decide +kernel
theorem dX11_year_44 : decode cX11_year 44 = .ok (.iinc 2 1, 3) := by decide +kernel
theorem dX11_year_47 : decode cX11_year 47 = .ok (.goto (-40), 3) := by decide +kernel
theorem dX11_year_50 : decode cX11_year 50 = .ok (.aload_n 0, 1) := by decide +kernel
theorem dX11_year_51 : decode cX11_year 51 = .ok (.iload_n 1, 1) := by decide +kernel
theorem dX11_year_52 : decode cX11_year 52 = .ok (.invokevirtual 217, 3) := by decide +kernel
theorem dX11_year_55 : decode cX11_year 55 = .ok (.istore_n 2, 1) := by decide +kernel
theorem dX11_year_56 : decode cX11_year 56 = .ok (.aload_n 0, 1) := by decide +kernel
theorem dX11_year_57 : decode cX11_year 57 = .ok (.iload_n 2, 1) := by decide +kernel
theorem dX11_year_58 : decode cX11_year 58 = .ok (.invokevirtual 220, 3) := by decide +kernel
theorem dX11_year_61 : decode cX11_year 61 = .ok (.istore_n 3, 1) := by decide +kernel
theorem dX11_year_62 : decode cX11_year 62 = .ok (.iconst 0, 1) := by decide +kernel
theorem dX11_year_63 : decode cX11_year 63 = .ok (.istore 4, 2) := by decide +kernel
theorem dX11_year_65 : decode cX11_year 65 = .ok (.aload_n 0, 1) := by decide +kernel
theorem dX11_year_66 : decode cX11_year 66 = .ok (.getfield 194, 3) := by decide +kernel
theorem dX11_year_69 : decode cX11_year 69 = .ok (.ifCond .le 32, 3) := by decide +kernel
theorem dX11_year_72 : decode cX11_year 72 = .ok (.iload_n 3, 1) := by decide +kernel
theorem dX11_year_73 : decode cX11_year 73 = .ok (.aload_n 0, 1) := by decide +kernel
theorem dX11_year_74 : decode cX11_year 74 = .ok (.getfield 188, 3) := by decide +kernel
theorem dX11_year_77 : decode cX11_year 77 = .ok (.if_icmp .ge 24, 3) := by decide +kernel
theorem dX11_year_80 : decode cX11_year 80 = .ok (.aload_n 0, 1) := by decide +kernel
theorem dX11_year_81 : decode cX11_year 81 = .ok (.getfield 194, 3) := by decide +kernel
theorem dX11_year_84 : decode cX11_year 84 = .ok (.iload_n 2, 1) := by decide +kernel
theorem dX11_year_85 : decode cX11_year 85 = .ok (.if_icmp .ge 10, 3) := by decide +kernel
theorem dX11_year_88 : decode cX11_year 88 = .ok (.aload_n 0, 1) := by decide +kernel
theorem dX11_year_89 : decode cX11_year 89 = .ok (.getfield 194, 3) := by decide +kernel
theorem dX11_year_92 : decode cX11_year 92 = .ok (.goto 4, 3) := by decide +kernel
theorem dX11_year_95 : decode cX11_year 95 = .ok (.iload_n 2, 1) := by decide +kernel
theorem dX11_year_96 : decode cX11_year 96 = .ok (.istore 4, 2) := by decide +kernel
theorem dX11_year_98 : decode cX11_year 98 = .ok (.goto 48, 3) := by decide +kernel
theorem dX11_year_101 : decode cX11_year 101 = .ok (.aload_n 0, 1) := by decide +kernel
theorem dX11_year_102 : decode cX11_year 102 = .ok (.getfield 194, 3) := by decide +kernel
theorem dX11_year_105 : decode cX11_year 105 = .ok (.ifCond .le 41, 3) := by decide +kernel
theorem dX11_year_108 : decode cX11_year 108 = .ok (.iload_n 3, 1) := by decide +kernel
theorem dX11_year_109 : decode cX11_year 109 = .ok (.aload_n 0, 1) := by decide +kernel
theorem dX11_year_110 : decode cX11_year 110 = .ok (.getfield 191, 3) := by decide +kernel
theorem dX11_year_113 : decode cX11_year 113 = .ok (.if_icmp .le 33, 3) := by decide +kernel
theorem dX11_year_116 : decode cX11_year 116 = .ok (.aload_n 0, 1) := by decide +kernel
theorem dX11_year_117 : decode cX11_year 117 = .ok (.getfield 194, 3) := by decide +kernel
theorem dX11_year_120 : decode cX11_year 120 = .ok (.aload_n 0, 1) := by decide +kernel
theorem dX11_year_121 : decode cX11_year 121 = .ok (.getfield 37, 3) := by decide +kernel
theorem dX11_year_124 : decode cX11_year 124 = .ok (.iconst 4, 1) := by decide +kernel
theorem dX11_year_125 : decode cX11_year 125 = .ok (.iaload, 1) := by decide +kernel
theorem dX11_year_126 : decode cX11_year 126 = .ok (.if_icmp .ge 11, 3) := by decide +kernel
theorem dX11_year_129 : decode cX11_year 129 = .ok (.aload_n 0, 1) := by decide +kernel
theorem dX11_year_130 : decode cX11_year 130 = .ok (.getfield 194, 3) := by decide +kernel
theorem dX11_year_133 : decode cX11_year 133 = .ok (.ineg, 1) := by decide +kernel
theorem dX11_year_134 : decode cX11_year 134 = .ok (.goto 10, 3) := by decide +kernel
theorem dX11_year_137 : decode cX11_year 137 = .ok (.aload_n 0, 1) := by decide +kernel
theorem dX11_year_138 : decode cX11_year 138 = .ok (.getfield 37, 3) := by decide +kernel
theorem dX11_year_141 : decode cX11_year 141 = .ok (.iconst 4, 1) := by decide +kernel
theorem dX11_year_142 : decode cX11_year 142 = .ok (.iaload, 1) := by decide +kernel
theorem dX11_year_143 : decode cX11_year 143 = .ok (.ineg, 1) := by decide +kernel
theorem dX11_year_144 : decode cX11_year 144 = .ok (.istore 4, 2) := by decide +kernel
theorem dX11_year_146 : decode cX11_year 146 = .ok (.aload_n 0, 1) := by decide +kernel
theorem dX11_year_147 : decode cX11_year 147 = .ok (.iload_n 2, 1) := by decide +kernel
theorem dX11_year_148 : decode cX11_year 148 = .ok (.iload 4, 2) := by decide +kernel
theorem dX11_year_150 : decode cX11_year 150 = .ok (.isub, 1) := by decide +kernel
theorem dX11_year_151 : decode cX11_year 151 = .ok (.invokevirtual 220, 3) := by decide +kernel
theorem dX11_year_154 : decode cX11_year 154 = .ok (.istore 5, 2) := by decide +kernel
theorem dX11_year_156 : decode cX11_year 156 = .ok (.aload_n 0, 1) := by decide +kernel
theorem dX11_year_157 : decode cX11_year 157 = .ok (.getfield 37, 3) := by decide +kernel
theorem dX11_year_160 : decode cX11_year 160 = .ok (.iconst 4, 1) := by decide +kernel
theorem dX11_year_161 : decode cX11_year 161 = .ok (.dup2, 1) := by decide +kernel
theorem dX11_year_162 : decode cX11_year 162 = .ok (.iaload, 1) := by decide +kernel
theorem dX11_year_163 : decode cX11_year 163 = .ok (.iload 4, 2) := by decide +kernel
theorem dX11_year_165 : decode cX11_year 165 = .ok (.iadd, 1) := by decide +kernel
theorem dX11_year_166 : decode cX11_year 166 = .ok (.iastore, 1) := by decide +kernel
theorem dX11_year_167 : decode cX11_year 167 = .ok (.aload_n 0, 1) := by decide +kernel
theorem dX11_year_168 : decode cX11_year 168 = .ok (.getfield 37, 3) := by decide +kernel
theorem dX11_year_171 : decode cX11_year 171 = .ok (.iconst 5, 1) := by decide +kernel
theorem dX11_year_172 : decode cX11_year 172 = .ok (.dup2, 1) := by decide +kernel
theorem dX11_year_173 : decode cX11_year 173 = .ok (.iaload, 1) := by decide +kernel
theorem dX11_year_174 : decode cX11_year 174 = .ok (.iload 4, 2) := by decide +kernel
theorem dX11_year_176 : decode cX11_year 176 = .ok (.iload 5, 2) := by decide +kernel
theorem dX11_year_178 : decode cX11_year 178 = .ok (.imul, 1) := by decide +kernel
theorem dX11_year_179 : decode cX11_year 179 = .ok (.iadd, 1) := by decide +kernel
theorem dX11_year_180 : decode cX11_year 180 = .ok (.iastore, 1) := by decide +kernel
theorem dX11_year_181 : decode cX11_year 181 = .ok (.iconst 0, 1) := by decide +kernel
theorem dX11_year_182 : decode cX11_year 182 = .ok (.istore 6, 2) := by decide +kernel
theorem dX11_year_184 : decode cX11_year 184 = .ok (.iload 6, 2) := by decide +kernel
theorem dX11_year_186 : decode cX11_year 186 = .ok (.aload_n 0, 1) := by decide +kernel
theorem dX11_year_187 : decode cX11_year 187 = .ok (.getfield 180, 3) := by decide +kernel
theorem dX11_year_190 : decode cX11_year 190 = .ok (.if_icmp .ge 84, 3) := by decide +kernel
theorem dX11_year_193 : decode cX11_year 193 = .ok (.aload_n 0, 1) := by decide +kernel
theorem dX11_year_194 : decode cX11_year 194 = .ok (.iload 6, 2) := by decide +kernel
theorem dX11_year_196 : decode cX11_year 196 = .ok (.invokevirtual 208, 3) := by decide +kernel
theorem dX11_year_199 : decode cX11_year 199 = .ok (.ifCond .ne 69, 3) := by decide +kernel
theorem dX11_year_202 : decode cX11_year 202 = .ok (.aload_n 0, 1) := by decide +kernel
theorem dX11_year_203 : decode cX11_year 203 = .ok (.getfield 37, 3) := by decide +kernel
theorem dX11_year_206 : decode cX11_year 206 = .ok (.bipush 7, 2) := by decide +kernel
theorem dX11_year_208 : decode cX11_year 208 = .ok (.iload 6, 2) := by decide +kernel
theorem dX11_year_210 : decode cX11_year 210 = .ok (.iadd, 1) := by decide +kernel
theorem dX11_year_211 : decode cX11_year 211 = .ok (.dup2, 1) := by decide +kernel
theorem dX11_year_212 : decode cX11_year 212 = .ok (.iaload, 1) := by decide +kernel
theorem dX11_year_213 : decode cX11_year 213 = .ok (.iload 5, 2) := by decide +kernel
theorem dX11_year_215 : decode cX11_year 215 = .ok (.aload_n 0, 1) := by decide +kernel
theorem dX11_year_216 : decode cX11_year 216 = .ok (.getfield 19, 3) := by decide +kernel
theorem dX11_year_219 : decode cX11_year 219 = .ok (.iconst 2, 1) := by decide +kernel
theorem dX11_year_220 : decode cX11_year 220 = .ok (.iaload, 1) := by decide +kernel
theorem dX11_year_221 : decode cX11_year 221 = .ok (.isub, 1) := by decide +kernel
theorem dX11_year_222 : decode cX11_year 222 = .ok (.aload_n 0, 1) := by decide +kernel
theorem dX11_year_223 : decode cX11_year 223 = .ok (.getfield 46, 3) := by decide +kernel
theorem dX11_year_226 : decode cX11_year 226 = .ok (.iload 6, 2) := by decide +kernel
theorem dX11_year_228 : decode cX11_year 228 = .ok (.iaload, 1) := by decide +kernel
theorem dX11_year_229 : decode cX11_year 229 = .ok (.imul, 1) := by decide +kernel
theorem dX11_year_230 : decode cX11_year 230 = .ok (.aload_n 0, 1) := by decide +kernel
theorem dX11_year_231 : decode cX11_year 231 = .ok (.iload 6, 2) := by decide +kernel
theorem dX11_year_233 : decode cX11_year 233 = .ok (.iconst 5, 1) := by decide +kernel
theorem dX11_year_234 : decode cX11_year 234 = .ok (.invokevirtual 201, 3) := by decide +kernel
theorem dX11_year_237 : decode cX11_year 237 = .ok (.isub, 1) := by decide +kernel
theorem dX11_year_238 : decode cX11_year 238 = .ok (.iadd, 1) := by decide +kernel
theorem dX11_year_239 : decode cX11_year 239 = .ok (.iastore, 1) := by decide +kernel
theorem dX11_year_240 : decode cX11_year 240 = .ok (.aload_n 0, 1) := by decide +kernel
theorem dX11_year_241 : decode cX11_year 241 = .ok (.getfield 37, 3) := by decide +kernel
theorem dX11_year_244 : decode cX11_year 244 = .ok (.bipush 12, 2) := by decide +kernel
theorem dX11_year_246 : decode cX11_year 246 = .ok (.iload 6, 2) := by decide +kernel
theorem dX11_year_248 : decode cX11_year 248 = .ok (.iadd, 1) := by decide +kernel
theorem dX11_year_249 : decode cX11_year 249 = .ok (.aload_n 0, 1) := by decide +kernel
theorem dX11_year_250 : decode cX11_year 250 = .ok (.getfield 37, 3) := by decide +kernel
theorem dX11_year_253 : decode cX11_year 253 = .ok (.bipush 7, 2) := by decide +kernel
theorem dX11_year_255 : decode cX11_year 255 = .ok (.iload 6, 2) := by decide +kernel
theorem dX11_year_257 : decode cX11_year 257 = .ok (.iadd, 1) := by decide +kernel
theorem dX11_year_258 : decode cX11_year 258 = .ok (.iaload, 1) := by decide +kernel
theorem dX11_year_259 : decode cX11_year 259 = .ok (.ifCond .ge 7, 3) := by decide +kernel
theorem dX11_year_262 : decode cX11_year 262 = .ok (.iconst 1, 1) := by decide +kernel
theorem dX11_year_263 : decode cX11_year 263 = .ok (.goto 4, 3) := by decide +kernel
theorem dX11_year_266 : decode cX11_year 266 = .ok (.iconst 0, 1) := by decide +kernel
theorem dX11_year_267 : decode cX11_year 267 = .ok (.iastore, 1) := by decide +kernel
theorem dX11_year_268 : decode cX11_year 268 = .ok (.iinc 6 1, 3) := by decide +kernel
theorem dX11_year_271 : decode cX11_year 271 = .ok (.goto (-87), 3) := by decide +kernel
theorem dX11_year_274 : decode cX11_year 274 = .ok (.aload_n 0, 1) := by decide +kernel
theorem dX11_year_275 : decode cX11_year 275 = .ok (.getfield 37, 3) := by decide +kernel
theorem dX11_year_278 : decode cX11_year 278 = .ok (.iconst 2, 1) := by decide +kernel
theorem dX11_year_279 : decode cX11_year 279 = .ok (.aload_n 0, 1) := by decide +kernel
theorem dX11_year_280 : decode cX11_year 280 = .ok (.getfield 37, 3) := by decide +kernel
theorem dX11_year_283 : decode cX11_year 283 = .ok (.iconst 1, 1) := by decide +kernel
theorem dX11_year_284 : decode cX11_year 284 = .ok (.iaload, 1) := by decide +kernel
theorem dX11_year_285 : decode cX11_year 285 = .ok (.iastore, 1) := by decide +kernel
theorem dX11_year_286 : decode cX11_year 286 = .ok (.aload_n 0, 1) := by decide +kernel
theorem dX11_year_287 : decode cX11_year 287 = .ok (.getfield 37, 3) := by decide +kernel
theorem dX11_year_290 : decode cX11_year 290 = .ok (.iconst 1, 1) := by decide +kernel
theorem dX11_year_291 : decode cX11_year 291 = .ok (.aload_n 0, 1) := by decide +kernel
theorem dX11_year_292 : decode cX11_year 292 = .ok (.getfield 37, 3) := by decide +kernel
theorem dX11_year_295 : decode cX11_year 295 = .ok (.iconst 0, 1) := by decide +kernel
theorem dX11_year_296 : decode cX11_year 296 = .ok (.iaload, 1) := by decide +kernel
theorem dX11_year_297 : decode cX11_year 297 = .ok (.iastore, 1) := by decide +kernel
theorem dX11_year_298 : decode cX11_year 298 = .ok (.aload_n 0, 1) := by decide +kernel
theorem dX11_year_299 : decode cX11_year 299 = .ok (.getfield 37, 3) := by decide +kernel
theorem dX11_year_302 : decode cX11_year 302 = .ok (.iconst 0, 1) := by decide +kernel
theorem dX11_year_303 : decode cX11_year 303 = .ok (.iload 5, 2) := by decide +kernel
theorem dX11_year_305 : decode cX11_year 305 = .ok (.iastore, 1) := by decide +kernel
theorem dX11_year_306 : decode cX11_year 306 = .ok (.aload_n 0, 1) := by decide +kernel
theorem dX11_year_307 : decode cX11_year 307 = .ok (.getfield 37, 3) := by decide +kernel
theorem dX11_year_310 : decode cX11_year 310 = .ok (.iconst 3, 1) := by decide +kernel
theorem dX11_year_311 : decode cX11_year 311 = .ok (.iload_n 2, 1) := by decide +kernel
theorem dX11_year_312 : decode cX11_year 312 = .ok (.iastore, 1) := by decide +kernel
theorem dX11_year_313 : decode cX11_year 313 = .ok (.aload_n 0, 1) := by decide +kernel
theorem dX11_year_314 : decode cX11_year 314 = .ok (.getfield 37, 3) := by decide +kernel
theorem dX11_year_317 : decode cX11_year 317 = .ok (.bipush 6, 2) := by decide +kernel
theorem dX11_year_319 : decode cX11_year 319 = .ok (.dup2, 1) := by decide +kernel
theorem dX11_year_320 : decode cX11_year 320 = .ok (.iaload, 1) := by decide +kernel
theorem dX11_year_321 : decode cX11_year 321 = .ok (.iconst 1, 1) := by decide +kernel
theorem dX11_year_322 : decode cX11_year 322 = .ok (.iadd, 1) := by decide +kernel
theorem dX11_year_323 : decode cX11_year 323 = .ok (.iastore, 1) := by decide +kernel
theorem dX11_year_324 : decode cX11_year 324 = .ok (.return_, 1) := by decide +kernel
theorem dX11_keep_0 : decode cX11_keep 0 = .ok (.iconst 0, 1) := by decide +kernel
theorem dX11_keep_1 : decode cX11_keep 1 = .ok (.istore_n 1, 1) := by decide +kernel
theorem dX11_keep_2 : decode cX11_keep 2 = .ok (.iload_n 1, 1) := by decide +kernel
theorem dX11_keep_3 : decode cX11_keep 3 = .ok (.bipush 17, 2) := by decide +kernel
theorem dX11_keep_5 : decode cX11_keep 5 = .ok (.if_icmp .ge 21, 3) := by decide +kernel
theorem dX11_keep_8 : decode cX11_keep 8 = .ok (.aload_n 0, 1) := by decide +kernel
theorem dX11_keep_9 : decode cX11_keep 9 = .ok (.getfield 40, 3) := by decide +kernel
