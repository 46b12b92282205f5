theorem dX11_calm_154 : decode cX11_calm 154 = .ok (.iaload, 1) := by decide +kernel
theorem dX11_calm_155 : decode cX11_calm 155 = .ok (.iload 8, 2) := by decide +kernel
theorem dX11_calm_157 : decode cX11_calm 157 = .ok (.if_icmp .le 12, 3) := by decide +kernel
theorem dX11_calm_160 : decode cX11_calm 160 = .ok (.aload_n 0, 1) := by decide +kernel
theorem dX11_calm_161 : decode cX11_calm 161 = .ok (.getfield 37, 3) := by decide +kernel
theorem dX11_calm_164 : decode cX11_calm 164 = .ok (.iconst 0, 1) := by decide +kernel
theorem dX11_calm_165 : decode cX11_calm 165 = .ok (.iaload, 1) := by decide +kernel
theorem dX11_calm_166 : decode cX11_calm 166 = .ok (.goto 5, 3) := by decide +kernel
theorem dX11_calm_169 : decode cX11_calm 169 = .ok (.iload 8, 2) := by decide +kernel
theorem dX11_calm_171 : decode cX11_calm 171 = .ok (.istore 8, 2) := by decide +kernel
theorem dX11_calm_173 : decode cX11_calm 173 = .ok (.aload_n 0, 1) := by decide +kernel
theorem dX11_calm_174 : decode cX11_calm 174 = .ok (.getfield 37, 3) := by decide +kernel
theorem dX11_calm_177 : decode cX11_calm 177 = .ok (.iconst 0, 1) := by decide +kernel
theorem dX11_calm_178 : decode cX11_calm 178 = .ok (.iaload, 1) := by decide +kernel
theorem dX11_calm_179 : decode cX11_calm 179 = .ok (.iload 9, 2) := by decide +kernel
theorem dX11_calm_181 : decode cX11_calm 181 = .ok (.if_icmp .ge 12, 3) := by decide +kernel
theorem dX11_calm_184 : decode cX11_calm 184 = .ok (.aload_n 0, 1) := by decide +kernel
theorem dX11_calm_185 : decode cX11_calm 185 = .ok (.getfield 37, 3) := by decide +kernel
theorem dX11_calm_188 : decode cX11_calm 188 = .ok (.iconst 0, 1) := by decide +kernel
theorem dX11_calm_189 : decode cX11_calm 189 = .ok (.iaload, 1) := by decide +kernel
theorem dX11_calm_190 : decode cX11_calm 190 = .ok (.goto 5, 3) := by decide +kernel
theorem dX11_calm_193 : decode cX11_calm 193 = .ok (.iload 9, 2) := by decide +kernel
theorem dX11_calm_195 : decode cX11_calm 195 = .ok (.istore 9, 2) := by decide +kernel
theorem dX11_calm_197 : decode cX11_calm 197 = .ok (.iinc 10 1, 3) := by decide +kernel
theorem dX11_calm_200 : decode cX11_calm 200 = .ok (.goto (-61), 3) := by decide +kernel
theorem dX11_calm_203 : decode cX11_calm 203 = .ok (.iload 8, 2) := by decide +kernel
theorem dX11_calm_205 : decode cX11_calm 205 = .ok (.iload 9, 2) := by decide +kernel
theorem dX11_calm_207 : decode cX11_calm 207 = .ok (.isub, 1) := by decide +kernel
theorem dX11_calm_208 : decode cX11_calm 208 = .ok (.iload_n 2, 1) := by decide +kernel
theorem dX11_calm_209 : decode cX11_calm 209 = .ok (.if_icmp .gt 52, 3) := by decide +kernel
theorem dX11_calm_212 : decode cX11_calm 212 = .ok (.iload 6, 2) := by decide +kernel
theorem dX11_calm_214 : decode cX11_calm 214 = .ok (.ldc 94, 2) := by decide +kernel
theorem dX11_calm_216 : decode cX11_calm 216 = .ok (.if_icmp .eq 14, 3) := by decide +kernel
theorem dX11_calm_219 : decode cX11_calm 219 = .ok (.aload_n 0, 1) := by decide +kernel
theorem dX11_calm_220 : decode cX11_calm 220 = .ok (.getfield 37, 3) := by decide +kernel
theorem dX11_calm_223 : decode cX11_calm 223 = .ok (.iconst 5, 1) := by decide +kernel
theorem dX11_calm_224 : decode cX11_calm 224 = .ok (.iaload, 1) := by decide +kernel
theorem dX11_calm_225 : decode cX11_calm 225 = .ok (.iload 7, 2) := by decide +kernel
theorem dX11_calm_227 : decode cX11_calm 227 = .ok (.if_icmp .ge 34, 3) := by decide +kernel
theorem dX11_calm_230 : decode cX11_calm 230 = .ok (.sipush 10000, 3) := by decide +kernel
theorem dX11_calm_233 : decode cX11_calm 233 = .ok (.aload_n 0, 1) := by decide +kernel
theorem dX11_calm_234 : decode cX11_calm 234 = .ok (.getfield 194, 3) := by decide +kernel
theorem dX11_calm_237 : decode cX11_calm 237 = .ok (.imul, 1) := by decide +kernel
theorem dX11_calm_238 : decode cX11_calm 238 = .ok (.bipush 100, 2) := by decide +kernel
theorem dX11_calm_240 : decode cX11_calm 240 = .ok (.aload_n 0, 1) := by decide +kernel
theorem dX11_calm_241 : decode cX11_calm 241 = .ok (.getfield 191, 3) := by decide +kernel
theorem dX11_calm_244 : decode cX11_calm 244 = .ok (.imul, 1) := by decide +kernel
theorem dX11_calm_245 : decode cX11_calm 245 = .ok (.iadd, 1) := by decide +kernel
theorem dX11_calm_246 : decode cX11_calm 246 = .ok (.aload_n 0, 1) := by decide +kernel
theorem dX11_calm_247 : decode cX11_calm 247 = .ok (.getfield 188, 3) := by decide +kernel
theorem dX11_calm_250 : decode cX11_calm 250 = .ok (.iadd, 1) := by decide +kernel
theorem dX11_calm_251 : decode cX11_calm 251 = .ok (.istore 6, 2) := by decide +kernel
theorem dX11_calm_253 : decode cX11_calm 253 = .ok (.aload_n 0, 1) := by decide +kernel
theorem dX11_calm_254 : decode cX11_calm 254 = .ok (.getfield 37, 3) := by decide +kernel
theorem dX11_calm_257 : decode cX11_calm 257 = .ok (.iconst 5, 1) := by decide +kernel
theorem dX11_calm_258 : decode cX11_calm 258 = .ok (.iaload, 1) := by decide +kernel
theorem dX11_calm_259 : decode cX11_calm 259 = .ok (.istore 7, 2) := by decide +kernel
theorem dX11_calm_261 : decode cX11_calm 261 = .ok (.aload_n 0, 1) := by decide +kernel
theorem dX11_calm_262 : decode cX11_calm 262 = .ok (.invokevirtual 266, 3) := by decide +kernel
theorem dX11_calm_265 : decode cX11_calm 265 = .ok (.aload_n 0, 1) := by decide +kernel
theorem dX11_calm_266 : decode cX11_calm 266 = .ok (.dup, 1) := by decide +kernel
theorem dX11_calm_267 : decode cX11_calm 267 = .ok (.getfield 188, 3) := by decide +kernel
theorem dX11_calm_270 : decode cX11_calm 270 = .ok (.iconst 5, 1) := by decide +kernel
theorem dX11_calm_271 : decode cX11_calm 271 = .ok (.iadd, 1) := by decide +kernel
theorem dX11_calm_272 : decode cX11_calm 272 = .ok (.putfield 188, 3) := by decide +kernel
theorem dX11_calm_275 : decode cX11_calm 275 = .ok (.goto (-171), 3) := by decide +kernel
theorem dX11_calm_278 : decode cX11_calm 278 = .ok (.aload_n 0, 1) := by decide +kernel
theorem dX11_calm_279 : decode cX11_calm 279 = .ok (.dup, 1) := by decide +kernel
theorem dX11_calm_280 : decode cX11_calm 280 = .ok (.getfield 191, 3) := by decide +kernel
theorem dX11_calm_283 : decode cX11_calm 283 = .ok (.iconst 5, 1) := by decide +kernel
theorem dX11_calm_284 : decode cX11_calm 284 = .ok (.iadd, 1) := by decide +kernel
theorem dX11_calm_285 : decode cX11_calm 285 = .ok (.putfield 191, 3) := by decide +kernel
theorem dX11_calm_288 : decode cX11_calm 288 = .ok (.goto (-198), 3) := by decide +kernel
theorem dX11_calm_291 : decode cX11_calm 291 = .ok (.aload_n 0, 1) := by decide +kernel
theorem dX11_calm_292 : decode cX11_calm 292 = .ok (.dup, 1) := by decide +kernel
theorem dX11_calm_293 : decode cX11_calm 293 = .ok (.getfield 194, 3) := by decide +kernel
theorem dX11_calm_296 : decode cX11_calm 296 = .ok (.bipush 10, 2) := by decide +kernel
theorem dX11_calm_298 : decode cX11_calm 298 = .ok (.iadd, 1) := by decide +kernel
theorem dX11_calm_299 : decode cX11_calm 299 = .ok (.putfield 194, 3) := by decide +kernel
theorem dX11_calm_302 : decode cX11_calm 302 = .ok (.goto (-226), 3) := by decide +kernel
theorem dX11_calm_305 : decode cX11_calm 305 = .ok (.aload_n 0, 1) := by decide +kernel
theorem dX11_calm_306 : decode cX11_calm 306 = .ok (.iload_n 3, 1) := by decide +kernel
theorem dX11_calm_307 : decode cX11_calm 307 = .ok (.putfield 188, 3) := by decide +kernel
theorem dX11_calm_310 : decode cX11_calm 310 = .ok (.aload_n 0, 1) := by decide +kernel
theorem dX11_calm_311 : decode cX11_calm 311 = .ok (.iload 4, 2) := by decide +kernel
theorem dX11_calm_313 : decode cX11_calm 313 = .ok (.putfield 191, 3) := by decide +kernel
theorem dX11_calm_316 : decode cX11_calm 316 = .ok (.aload_n 0, 1) := by decide +kernel
theorem dX11_calm_317 : decode cX11_calm 317 = .ok (.iload 5, 2) := by decide +kernel
theorem dX11_calm_319 : decode cX11_calm 319 = .ok (.putfield 194, 3) := by decide +kernel
theorem dX11_calm_322 : decode cX11_calm 322 = .ok (.iload 6, 2) := by decide +kernel
theorem dX11_calm_324 : decode cX11_calm 324 = .ok (.ireturn, 1) := by decide +kernel
set_option maxRecDepth 20000 in
theorem ggX11_shown_X11_isSheet : GoodIn wsX11_shown wsX11_isSheet := goodIn_r _ [12, 13, 14, 15, 11, 16] (by decide +kernel) (by decide +kernel)
set_option maxRecDepth 20000 in
theorem gX11_shown_X11_isSheet : GoodIn wsX11_shown (va_wsS RX11 72 yX11_isSheet wsX11_isSheet) := goodIn_app (goodIn_of _ (by decide +kernel)) ggX11_shown_X11_isSheet
set_option maxRecDepth 20000 in
theorem ggX11_shown_X11_in : GoodIn wsX11_shown wsX11_in := goodIn_r _ [16] (by decide +kernel) (by decide +kernel)
set_option maxRecDepth 20000 in
theorem gX11_shown_X11_in : GoodIn wsX11_shown (va_wsS RX11 68 yX11_in wsX11_in) := goodIn_app (goodIn_of _ (by decide +kernel)) ggX11_shown_X11_in
set_option maxRecDepth 20000 in
theorem ggX11_shown_X11_finding : GoodIn wsX11_shown wsX11_finding := goodIn_r _ [20, 8, 21, 28, 29, 30, 31, 32, 33, 34, 35, 36, 37, 38, 39, 40, 41, 42, 43, 44, 45, 46, 47, 48, 49, 50, 51, 52, 53, 54, 55, 56, 57, 58, 59, 60, 61, 62] (by decide +kernel) (by decide +kernel)
set_option maxRecDepth 20000 in
theorem gX11_shown_X11_finding : GoodIn wsX11_shown (wsV RX11 79 RX11 yX11_finding wsX11_finding) := goodIn_app (goodIn_of _ (by decide +kernel)) ggX11_shown_X11_finding
set_option maxRecDepth 20000 in
theorem ggX11_shown_X11_guessBy : GoodIn wsX11_shown wsX11_guessBy := goodIn_r _ [24, 25, 26, 11, 27] (by decide +kernel) (by decide +kernel)
set_option maxRecDepth 20000 in
theorem gX11_shown_X11_guessBy : GoodIn wsX11_shown (va_wsS RX11 204 yX11_guessBy wsX11_guessBy) := goodIn_app (goodIn_of _ (by decide +kernel)) ggX11_shown_X11_guessBy
theorem dX11_shown_0 : decode cX11_shown 0 = .ok (.aload_n 0, 1) := by decide +kernel
theorem dX11_shown_1 : decode cX11_shown 1 = .ok (.iconst 0, 1) := by decide +kernel
theorem dX11_shown_2 : decode cX11_shown 2 = .ok (.putfield 58, 3) := by decide +kernel
theorem dX11_shown_5 : decode cX11_shown 5 = .ok (.iload_n 1, 1) := by decide +kernel
theorem dX11_shown_6 : decode cX11_shown 6 = .ok (.invokestatic 72, 3) := by decide +kernel
theorem dX11_shown_9 : decode cX11_shown 9 = .ok (.ifCond .eq 15, 3) := by decide +kernel
theorem dX11_shown_12 : decode cX11_shown 12 = .ok (.iload_n 3, 1) := by decide +kernel
theorem dX11_shown_13 : decode cX11_shown 13 = .ok (.i2l, 1) := by decide +kernel
theorem dX11_shown_14 : decode cX11_shown 14 = .ok (.lconst 1, 1) := by decide +kernel
theorem dX11_shown_15 : decode cX11_shown 15 = .ok (.ldc2_w 269, 3) := by decide +kernel
theorem dX11_shown_18 : decode cX11_shown 18 = .ok (.invokestatic 68, 3) := by decide +kernel
theorem dX11_shown_21 : decode cX11_shown 21 = .ok (.ifCond .ne 6, 3) := by decide +kernel
theorem dX11_shown_24 : decode cX11_shown 24 = .ok (.ldc 78, 2) := by decide +kernel
theorem dX11_shown_26 : decode cX11_shown 26 = .ok (.ireturn, 1) := by decide +kernel
theorem dX11_shown_27 : decode cX11_shown 27 = .ok (.aload_n 0, 1) := by decide +kernel
theorem dX11_shown_28 : decode cX11_shown 28 = .ok (.getfield 7, 3) := by decide +kernel
theorem dX11_shown_31 : decode cX11_shown 31 = .ok (.iload_n 1, 1) := by decide +kernel
theorem dX11_shown_32 : decode cX11_shown 32 = .ok (.iaload, 1) := by decide +kernel
theorem dX11_shown_33 : decode cX11_shown 33 = .ok (.ifCond .ge 9, 3) := by decide +kernel
theorem dX11_shown_36 : decode cX11_shown 36 = .ok (.aload_n 0, 1) := by decide +kernel
theorem dX11_shown_37 : decode cX11_shown 37 = .ok (.iconst 1, 1) := by decide +kernel
theorem dX11_shown_38 : decode cX11_shown 38 = .ok (.invokevirtual 79, 3) := by decide +kernel
theorem dX11_shown_41 : decode cX11_shown 41 = .ok (.ireturn, 1) := by decide +kernel
theorem dX11_shown_42 : decode cX11_shown 42 = .ok (.iload_n 2, 1) := by decide +kernel
theorem dX11_shown_43 : decode cX11_shown 43 = .ok (.ifCond .lt 21, 3) := by decide +kernel
theorem dX11_shown_46 : decode cX11_shown 46 = .ok (.iload_n 2, 1) := by decide +kernel
theorem dX11_shown_47 : decode cX11_shown 47 = .ok (.i2l, 1) := by decide +kernel
theorem dX11_shown_48 : decode cX11_shown 48 = .ok (.iconst 4, 1) := by decide +kernel
theorem dX11_shown_49 : decode cX11_shown 49 = .ok (.iload_n 3, 1) := by decide +kernel
theorem dX11_shown_50 : decode cX11_shown 50 = .ok (.imul, 1) := by decide +kernel
theorem dX11_shown_51 : decode cX11_shown 51 = .ok (.i2l, 1) := by decide +kernel
theorem dX11_shown_52 : decode cX11_shown 52 = .ok (.ladd, 1) := by decide +kernel
theorem dX11_shown_53 : decode cX11_shown 53 = .ok (.aload_n 0, 1) := by decide +kernel
theorem dX11_shown_54 : decode cX11_shown 54 = .ok (.getfield 13, 3) := by decide +kernel
theorem dX11_shown_57 : decode cX11_shown 57 = .ok (.iload_n 1, 1) := by decide +kernel
theorem dX11_shown_58 : decode cX11_shown 58 = .ok (.iaload, 1) := by decide +kernel
theorem dX11_shown_59 : decode cX11_shown 59 = .ok (.i2l, 1) := by decide +kernel
theorem dX11_shown_60 : decode cX11_shown 60 = .ok (.lcmp, 1) := by decide +kernel
theorem dX11_shown_61 : decode cX11_shown 61 = .ok (.ifCond .le 9, 3) := by decide +kernel
theorem dX11_shown_64 : decode cX11_shown 64 = .ok (.aload_n 0, 1) := by decide +kernel
theorem dX11_shown_65 : decode cX11_shown 65 = .ok (.iconst 2, 1) := by decide +kernel
theorem dX11_shown_66 : decode cX11_shown 66 = .ok (.invokevirtual 79, 3) := by decide +kernel
theorem dX11_shown_69 : decode cX11_shown 69 = .ok (.ireturn, 1) := by decide +kernel
theorem dX11_shown_70 : decode cX11_shown 70 = .ok (.bipush 60, 2) := by decide +kernel
theorem dX11_shown_72 : decode cX11_shown 72 = .ok (.iload_n 1, 1) := by decide +kernel
theorem dX11_shown_73 : decode cX11_shown 73 = .ok (.imul, 1) := by decide +kernel
theorem dX11_shown_74 : decode cX11_shown 74 = .ok (.iload_n 2, 1) := by decide +kernel
theorem dX11_shown_75 : decode cX11_shown 75 = .ok (.iadd, 1) := by decide +kernel
theorem dX11_shown_76 : decode cX11_shown 76 = .ok (.istore 4, 2) := by decide +kernel
theorem dX11_shown_78 : decode cX11_shown 78 = .ok (.iconst 0, 1) := by decide +kernel
theorem dX11_shown_79 : decode cX11_shown 79 = .ok (.istore 5, 2) := by decide +kernel
theorem dX11_shown_81 : decode cX11_shown 81 = .ok (.iload 5, 2) := by decide +kernel
theorem dX11_shown_83 : decode cX11_shown 83 = .ok (.iconst 4, 1) := by decide +kernel
theorem dX11_shown_84 : decode cX11_shown 84 = .ok (.iload_n 3, 1) := by decide +kernel
theorem dX11_shown_85 : decode cX11_shown 85 = .ok (.imul, 1) := by decide +kernel
theorem dX11_shown_86 : decode cX11_shown 86 = .ok (.if_icmp .ge 33, 3) := by decide +kernel
theorem dX11_shown_89 : decode cX11_shown 89 = .ok (.aload_n 0, 1) := by decide +kernel
theorem dX11_shown_90 : decode cX11_shown 90 = .ok (.getfield 16, 3) := by decide +kernel
theorem dX11_shown_93 : decode cX11_shown 93 = .ok (.iload 4, 2) := by decide +kernel
theorem dX11_shown_95 : decode cX11_shown 95 = .ok (.iload 5, 2) := by decide +kernel
theorem dX11_shown_97 : decode cX11_shown 97 = .ok (.iadd, 1) := by decide +kernel
theorem dX11_shown_98 : decode cX11_shown 98 = .ok (.iaload, 1) := by decide +kernel
theorem dX11_shown_99 : decode cX11_shown 99 = .ok (.i2l, 1) := by decide +kernel
theorem dX11_shown_100 : decode cX11_shown 100 = .ok (.lconst 0, 1) := by decide +kernel
theorem dX11_shown_101 : decode cX11_shown 101 = .ok (.ldc2_w 229, 3) := by decide +kernel
theorem dX11_shown_104 : decode cX11_shown 104 = .ok (.invokestatic 68, 3) := by decide +kernel
theorem dX11_shown_107 : decode cX11_shown 107 = .ok (.ifCond .ne 6, 3) := by decide +kernel
theorem dX11_shown_110 : decode cX11_shown 110 = .ok (.ldc 78, 2) := by decide +kernel
theorem dX11_shown_112 : decode cX11_shown 112 = .ok (.ireturn, 1) := by decide +kernel
theorem dX11_shown_113 : decode cX11_shown 113 = .ok (.iinc 5 1, 3) := by decide +kernel
theorem dX11_shown_116 : decode cX11_shown 116 = .ok (.goto (-35), 3) := by decide +kernel
theorem dX11_shown_119 : decode cX11_shown 119 = .ok (.aload_n 0, 1) := by decide +kernel
theorem dX11_shown_120 : decode cX11_shown 120 = .ok (.iconst 0, 1) := by decide +kernel
theorem dX11_shown_121 : decode cX11_shown 121 = .ok (.putfield 62, 3) := by decide +kernel
theorem dX11_shown_124 : decode cX11_shown 124 = .ok (.iconst 0, 1) := by decide +kernel
theorem dX11_shown_125 : decode cX11_shown 125 = .ok (.istore 5, 2) := by decide +kernel
theorem dX11_shown_127 : decode cX11_shown 127 = .ok (.iconst 0, 1) := by decide +kernel
theorem dX11_shown_128 : decode cX11_shown 128 = .ok (.istore 6, 2) := by decide +kernel
theorem dX11_shown_130 : decode cX11_shown 130 = .ok (.iload 6, 2) := by decide +kernel
theorem dX11_shown_132 : decode cX11_shown 132 = .ok (.bipush 13, 2) := by decide +kernel
theorem dX11_shown_134 : decode cX11_shown 134 = .ok (.if_icmp .ge 159, 3) := by decide +kernel
theorem dX11_shown_137 : decode cX11_shown 137 = .ok (.iload 6, 2) := by decide +kernel
theorem dX11_shown_139 : decode cX11_shown 139 = .ok (.ifCond .ne 7, 3) := by decide +kernel
theorem dX11_shown_142 : decode cX11_shown 142 = .ok (.iconst 1, 1) := by decide +kernel
theorem dX11_shown_143 : decode cX11_shown 143 = .ok (.goto 25, 3) := by decide +kernel
theorem dX11_shown_146 : decode cX11_shown 146 = .ok (.iload 6, 2) := by decide +kernel
theorem dX11_shown_148 : decode cX11_shown 148 = .ok (.iconst 3, 1) := by decide +kernel
theorem dX11_shown_149 : decode cX11_shown 149 = .ok (.if_icmp .ge 7, 3) := by decide +kernel
theorem dX11_shown_152 : decode cX11_shown 152 = .ok (.iconst 2, 1) := by decide +kernel
theorem dX11_shown_153 : decode cX11_shown 153 = .ok (.goto 15, 3) := by decide +kernel
theorem dX11_shown_156 : decode cX11_shown 156 = .ok (.iload 6, 2) := by decide +kernel
theorem dX11_shown_158 : decode cX11_shown 158 = .ok (.bipush 12, 2) := by decide +kernel
theorem dX11_shown_160 : decode cX11_shown 160 = .ok (.if_icmp .ge 7, 3) := by decide +kernel
theorem dX11_shown_163 : decode cX11_shown 163 = .ok (.iconst 3, 1) := by decide +kernel
theorem dX11_shown_164 : decode cX11_shown 164 = .ok (.goto 4, 3) := by decide +kernel
theorem dX11_shown_167 : decode cX11_shown 167 = .ok (.iconst 4, 1) := by decide +kernel
theorem dX11_shown_168 : decode cX11_shown 168 = .ok (.istore 7, 2) := by decide +kernel
theorem dX11_shown_170 : decode cX11_shown 170 = .ok (.iload 6, 2) := by decide +kernel
theorem dX11_shown_172 : decode cX11_shown 172 = .ok (.iconst 3, 1) := by decide +kernel
theorem dX11_shown_173 : decode cX11_shown 173 = .ok (.if_icmp .ge 10, 3) := by decide +kernel
theorem dX11_shown_176 : decode cX11_shown 176 = .ok (.iload 6, 2) := by decide +kernel
theorem dX11_shown_178 : decode cX11_shown 178 = .ok (.iconst 1, 1) := by decide +kernel
theorem dX11_shown_179 : decode cX11_shown 179 = .ok (.iadd, 1) := by decide +kernel
theorem dX11_shown_180 : decode cX11_shown 180 = .ok (.goto 7, 3) := by decide +kernel
theorem dX11_shown_183 : decode cX11_shown 183 = .ok (.iload 6, 2) := by decide +kernel
theorem dX11_shown_185 : decode cX11_shown 185 = .ok (.iconst 2, 1) := by decide +kernel
theorem dX11_shown_186 : decode cX11_shown 186 = .ok (.isub, 1) := by decide +kernel
theorem dX11_shown_187 : decode cX11_shown 187 = .ok (.istore 8, 2) := by decide +kernel
theorem dX11_shown_189 : decode cX11_shown 189 = .ok (.iconst 1, 1) := by decide +kernel
theorem dX11_shown_190 : decode cX11_shown 190 = .ok (.istore 9, 2) := by decide +kernel
theorem dX11_shown_192 : decode cX11_shown 192 = .ok (.iload 4, 2) := by decide +kernel
theorem dX11_shown_194 : decode cX11_shown 194 = .ok (.istore 10, 2) := by decide +kernel
theorem dX11_shown_196 : decode cX11_shown 196 = .ok (.iload 10, 2) := by decide +kernel
theorem dX11_shown_198 : decode cX11_shown 198 = .ok (.iload 4, 2) := by decide +kernel
theorem dX11_shown_200 : decode cX11_shown 200 = .ok (.iconst 4, 1) := by decide +kernel
theorem dX11_shown_201 : decode cX11_shown 201 = .ok (.iload_n 3, 1) := by decide +kernel
theorem dX11_shown_202 : decode cX11_shown 202 = .ok (.imul, 1) := by decide +kernel
theorem dX11_shown_203 : decode cX11_shown 203 = .ok (.iadd, 1) := by decide +kernel
theorem dX11_shown_204 : decode cX11_shown 204 = .ok (.if_icmp .ge 65, 3) := by decide +kernel
theorem dX11_shown_207 : decode cX11_shown 207 = .ok (.iload 9, 2) := by decide +kernel
theorem dX11_shown_209 : decode cX11_shown 209 = .ok (.ifCond .eq 51, 3) := by decide +kernel
theorem dX11_shown_212 : decode cX11_shown 212 = .ok (.iload 7, 2) := by decide +kernel
theorem dX11_shown_214 : decode cX11_shown 214 = .ok (.iload 8, 2) := by decide +kernel
theorem dX11_shown_216 : decode cX11_shown 216 = .ok (.aload_n 0, 1) := by decide +kernel
theorem dX11_shown_217 : decode cX11_shown 217 = .ok (.getfield 16, 3) := by decide +kernel
theorem dX11_shown_220 : decode cX11_shown 220 = .ok (.iload 10, 2) := by decide +kernel
theorem dX11_shown_222 : decode cX11_shown 222 = .ok (.iaload, 1) := by decide +kernel
theorem dX11_shown_223 : decode cX11_shown 223 = .ok (.aload_n 0, 1) := by decide +kernel
theorem dX11_shown_224 : decode cX11_shown 224 = .ok (.getfield 16, 3) := by decide +kernel
theorem dX11_shown_227 : decode cX11_shown 227 = .ok (.iload 10, 2) := by decide +kernel
theorem dX11_shown_229 : decode cX11_shown 229 = .ok (.iconst 1, 1) := by decide +kernel
theorem dX11_shown_230 : decode cX11_shown 230 = .ok (.iadd, 1) := by decide +kernel
theorem dX11_shown_231 : decode cX11_shown 231 = .ok (.iaload, 1) := by decide +kernel
theorem dX11_shown_232 : decode cX11_shown 232 = .ok (.aload_n 0, 1) := by decide +kernel
theorem dX11_shown_233 : decode cX11_shown 233 = .ok (.getfield 16, 3) := by decide +kernel
theorem dX11_shown_236 : decode cX11_shown 236 = .ok (.iload 10, 2) := by decide +kernel
theorem dX11_shown_238 : decode cX11_shown 238 = .ok (.iconst 2, 1) := by decide +kernel
theorem dX11_shown_239 : decode cX11_shown 239 = .ok (.iadd, 1) := by decide +kernel
theorem dX11_shown_240 : decode cX11_shown 240 = .ok (.iaload, 1) := by decide +kernel
theorem dX11_shown_241 : decode cX11_shown 241 = .ok (.invokestatic 204, 3) := by decide +kernel
theorem dX11_shown_244 : decode cX11_shown 244 = .ok (.aload_n 0, 1) := by decide +kernel
theorem dX11_shown_245 : decode cX11_shown 245 = .ok (.getfield 16, 3) := by decide +kernel
theorem dX11_shown_248 : decode cX11_shown 248 = .ok (.iload 10, 2) := by decide +kernel
theorem dX11_shown_250 : decode cX11_shown 250 = .ok (.iconst 3, 1) := by decide +kernel
theorem dX11_shown_251 : decode cX11_shown 251 = .ok (.iadd, 1) := by decide +kernel
theorem dX11_shown_252 : decode cX11_shown 252 = .ok (.iaload, 1) := by decide +kernel
theorem dX11_shown_253 : decode cX11_shown 253 = .ok (.if_icmp .ne 7, 3) := by decide +kernel
theorem dX11_shown_256 : decode cX11_shown 256 = .ok (.iconst 1, 1) := by decide +kernel
theorem dX11_shown_257 : decode cX11_shown 257 = .ok (.goto 4, 3) := by decide +kernel
theorem dX11_shown_260 : decode cX11_shown 260 = .ok (.iconst 0, 1) := by decide +kernel
theorem dX11_shown_261 : decode cX11_shown 261 = .ok (.istore 9, 2) := by decide +kernel
theorem dX11_shown_263 : decode cX11_shown 263 = .ok (.iinc 10 4, 3) := by decide +kernel
theorem dX11_shown_266 : decode cX11_shown 266 = .ok (.goto (-70), 3) := by decide +kernel
theorem dX11_shown_269 : decode cX11_shown 269 = .ok (.iload 5, 2) := by decide +kernel
theorem dX11_shown_271 : decode cX11_shown 271 = .ok (.iload 9, 2) := by decide +kernel
theorem dX11_shown_273 : decode cX11_shown 273 = .ok (.ifCond .eq 10, 3) := by decide +kernel
theorem dX11_shown_276 : decode cX11_shown 276 = .ok (.iconst 1, 1) := by decide +kernel
theorem dX11_shown_277 : decode cX11_shown 277 = .ok (.iload 6, 2) := by decide +kernel
theorem dX11_shown_279 : decode cX11_shown 279 = .ok (.ishl, 1) := by decide +kernel
theorem dX11_shown_280 : decode cX11_shown 280 = .ok (.goto 4, 3) := by decide +kernel
theorem dX11_shown_283 : decode cX11_shown 283 = .ok (.iconst 0, 1) := by decide +kernel
theorem dX11_shown_284 : decode cX11_shown 284 = .ok (.ior, 1) := by decide +kernel
theorem dX11_shown_285 : decode cX11_shown 285 = .ok (.istore 5, 2) := by decide +kernel
theorem dX11_shown_287 : decode cX11_shown 287 = .ok (.iinc 6 1, 3) := by decide +kernel
theorem dX11_shown_290 : decode cX11_shown 290 = .ok (.goto (-160), 3) := by decide +kernel
theorem dX11_shown_293 : decode cX11_shown 293 = .ok (.iload 5, 2) := by decide +kernel
theorem dX11_shown_295 : decode cX11_shown 295 = .ok (.ireturn, 1) := by decide +kernel
set_option maxRecDepth 20000 in
theorem ggX11_isOf_X11_in : GoodIn wsX11_isOf wsX11_in := goodIn_r _ [6] (by decide +kernel) (by decide +kernel)
set_option maxRecDepth 20000 in
theorem gX11_isOf_X11_in : GoodIn wsX11_isOf (va_wsS RX11 68 yX11_in wsX11_in) := goodIn_app (goodIn_of _ (by decide +kernel)) ggX11_isOf_X11_in
theorem dX11_isOf_0 : decode cX11_isOf 0 = .ok (.iload_n 1, 1) := by decide +kernel
theorem dX11_isOf_1 : decode cX11_isOf 1 = .ok (.ifCond .eq 48, 3) := by decide +kernel
theorem dX11_isOf_4 : decode cX11_isOf 4 = .ok (.iload_n 0, 1) := by decide +kernel
theorem dX11_isOf_5 : decode cX11_isOf 5 = .ok (.iload_n 1, 1) := by decide +kernel
theorem dX11_isOf_6 : decode cX11_isOf 6 = .ok (.if_icmp .eq 43, 3) := by decide +kernel
theorem dX11_isOf_9 : decode cX11_isOf 9 = .ok (.iload_n 1, 1) := by decide +kernel
theorem dX11_isOf_10 : decode cX11_isOf 10 = .ok (.iconst 1, 1) := by decide +kernel
theorem dX11_isOf_11 : decode cX11_isOf 11 = .ok (.if_icmp .ne 17, 3) := by decide +kernel
theorem dX11_isOf_14 : decode cX11_isOf 14 = .ok (.iload_n 0, 1) := by decide +kernel
theorem dX11_isOf_15 : decode cX11_isOf 15 = .ok (.i2l, 1) := by decide +kernel
theorem dX11_isOf_16 : decode cX11_isOf 16 = .ok (.ldc2_w 76, 3) := by decide +kernel
theorem dX11_isOf_19 : decode cX11_isOf 19 = .ok (.ldc2_w 271, 3) := by decide +kernel
theorem dX11_isOf_22 : decode cX11_isOf 22 = .ok (.invokestatic 68, 3) := by decide +kernel
theorem dX11_isOf_25 : decode cX11_isOf 25 = .ok (.ifCond .ne 24, 3) := by decide +kernel
theorem dX11_isOf_28 : decode cX11_isOf 28 = .ok (.iload_n 1, 1) := by decide +kernel
theorem dX11_isOf_29 : decode cX11_isOf 29 = .ok (.iconst 3, 1) := by decide +kernel
theorem dX11_isOf_30 : decode cX11_isOf 30 = .ok (.if_icmp .ne 8, 3) := by decide +kernel
theorem dX11_isOf_33 : decode cX11_isOf 33 = .ok (.iload_n 0, 1) := by decide +kernel
theorem dX11_isOf_34 : decode cX11_isOf 34 = .ok (.iconst 4, 1) := by decide +kernel
theorem dX11_isOf_35 : decode cX11_isOf 35 = .ok (.if_icmp .eq 14, 3) := by decide +kernel
theorem dX11_isOf_38 : decode cX11_isOf 38 = .ok (.iload_n 1, 1) := by decide +kernel
theorem dX11_isOf_39 : decode cX11_isOf 39 = .ok (.iconst 5, 1) := by decide +kernel
theorem dX11_isOf_40 : decode cX11_isOf 40 = .ok (.if_icmp .ne 13, 3) := by decide +kernel
theorem dX11_isOf_43 : decode cX11_isOf 43 = .ok (.iload_n 0, 1) := by decide +kernel
theorem dX11_isOf_44 : decode cX11_isOf 44 = .ok (.bipush 6, 2) := by decide +kernel
theorem dX11_isOf_46 : decode cX11_isOf 46 = .ok (.if_icmp .ne 7, 3) := by decide +kernel
theorem dX11_isOf_49 : decode cX11_isOf 49 = .ok (.iconst 1, 1) := by decide +kernel
theorem dX11_isOf_50 : decode cX11_isOf 50 = .ok (.goto 4, 3) := by decide +kernel
theorem dX11_isOf_53 : decode cX11_isOf 53 = .ok (.iconst 0, 1) := by decide +kernel
theorem dX11_isOf_54 : decode cX11_isOf 54 = .ok (.ireturn, 1) := by decide +kernel
set_option maxRecDepth 20000 in
theorem ggX11_kind_X11_isKind : GoodIn wsX11_kind wsX11_isKind := goodIn_r _ [7, 8, 9, 10, 6, 11, 17, 18, 19, 20, 21, 22, 23, 24, 25, 26, 27, 28, 29, 30, 31, 32, 33, 34, 35, 36, 37, 38, 39, 40, 41, 42, 43, 44, 45, 46, 47, 48, 49, 50, 51] (by decide +kernel) (by decide +kernel)
set_option maxRecDepth 20000 in
theorem gX11_kind_X11_isKind : GoodIn wsX11_kind (wsV RX11 223 RX11 yX11_isKind wsX11_isKind) := goodIn_app (goodIn_of _ (by decide +kernel)) ggX11_kind_X11_isKind
set_option maxRecDepth 20000 in
theorem ggX11_kind_X11_told : GoodIn wsX11_kind wsX11_told := goodIn_r _ [15, 16, 17, 18, 19, 20, 21, 22, 23, 24, 25, 26, 27, 28, 29, 30, 31, 32, 33, 34, 35, 36, 37, 38, 39, 40, 41, 42, 43, 44, 45, 46, 47, 48, 49, 50, 51] (by decide +kernel) (by decide +kernel)
set_option maxRecDepth 20000 in
theorem gX11_kind_X11_told : GoodIn wsX11_kind (wsV RX11 201 RX11 yX11_told wsX11_told) := goodIn_app (goodIn_of _ (by decide +kernel)) ggX11_kind_X11_told
theorem dX11_kind_0 : decode cX11_kind 0 = .ok (.aload_n 0, 1) := by decide +kernel
theorem dX11_kind_1 : decode cX11_kind 1 = .ok (.iconst 0, 1) := by decide +kernel
theorem dX11_kind_2 : decode cX11_kind 2 = .ok (.putfield 58, 3) := by decide +kernel
theorem dX11_kind_5 : decode cX11_kind 5 = .ok (.aload_n 0, 1) := by decide +kernel
theorem dX11_kind_6 : decode cX11_kind 6 = .ok (.iload_n 1, 1) := by decide +kernel
theorem dX11_kind_7 : decode cX11_kind 7 = .ok (.invokevirtual 223, 3) := by decide +kernel
theorem dX11_kind_10 : decode cX11_kind 10 = .ok (.ifCond .eq 12, 3) := by decide +kernel
theorem dX11_kind_13 : decode cX11_kind 13 = .ok (.aload_n 0, 1) := by decide +kernel
theorem dX11_kind_14 : decode cX11_kind 14 = .ok (.iload_n 1, 1) := by decide +kernel
theorem dX11_kind_15 : decode cX11_kind 15 = .ok (.iconst 0, 1) := by decide +kernel
theorem dX11_kind_16 : decode cX11_kind 16 = .ok (.invokevirtual 201, 3) := by decide +kernel
theorem dX11_kind_19 : decode cX11_kind 19 = .ok (.goto 5, 3) := by decide +kernel
theorem dX11_kind_22 : decode cX11_kind 22 = .ok (.ldc 78, 2) := by decide +kernel
theorem dX11_kind_24 : decode cX11_kind 24 = .ok (.ireturn, 1) := by decide +kernel
set_option maxRecDepth 20000 in
theorem ggX11_as_X11_isKind : GoodIn wsX11_as wsX11_isKind := goodIn_r _ [9, 10, 11, 12, 8, 13, 29, 30, 31, 32, 33, 34, 35, 36, 37, 38, 39, 40, 41, 42, 43, 44, 45, 46, 47, 48, 49, 50, 51, 52, 53, 54, 55, 56, 57, 58, 59, 60, 61, 62, 63] (by decide +kernel) (by decide +kernel)
set_option maxRecDepth 20000 in
theorem gX11_as_X11_isKind : GoodIn wsX11_as (wsV RX11 223 RX11 yX11_isKind wsX11_isKind) := goodIn_app (goodIn_of _ (by decide +kernel)) ggX11_as_X11_isKind
set_option maxRecDepth 20000 in
theorem ggX11_as_X11_in : GoodIn wsX11_as wsX11_in := goodIn_r _ [13] (by decide +kernel) (by decide +kernel)
set_option maxRecDepth 20000 in
theorem gX11_as_X11_in : GoodIn wsX11_as (va_wsS RX11 68 yX11_in wsX11_in) := goodIn_app (goodIn_of _ (by decide +kernel)) ggX11_as_X11_in
set_option maxRecDepth 20000 in
theorem ggX11_as_X11_told : GoodIn wsX11_as wsX11_told := goodIn_r _ [17, 18, 29, 30, 31, 32, 33, 34, 35, 36, 37, 38, 39, 40, 41, 42, 43, 44, 45, 46, 47, 48, 49, 50, 51, 52, 53, 54, 55, 56, 57, 58, 59, 60, 61, 62, 63] (by decide +kernel) (by decide +kernel)
set_option maxRecDepth 20000 in
theorem gX11_as_X11_told : GoodIn wsX11_as (wsV RX11 201 RX11 yX11_told wsX11_told) := goodIn_app (goodIn_of _ (by decide +kernel)) ggX11_as_X11_told
set_option maxRecDepth 20000 in
theorem ggX11_as_X11_isOf : GoodIn wsX11_as wsX11_isOf := goodIn_r _ [21, 22, 23, 11, 12, 8, 13] (by decide +kernel) (by decide +kernel)
set_option maxRecDepth 20000 in
theorem gX11_as_X11_isOf : GoodIn wsX11_as (va_wsS RX11 273 yX11_isOf wsX11_isOf) := goodIn_app (goodIn_of _ (by decide +kernel)) ggX11_as_X11_isOf
set_option maxRecDepth 20000 in
theorem ggX11_as_X11_finding : GoodIn wsX11_as wsX11_finding := goodIn_r _ [27, 4, 28, 29, 30, 31, 32, 33, 34, 35, 36, 37, 38, 39, 40, 41, 42, 43, 44, 45, 46, 47, 48, 49, 50, 51, 52, 53, 54, 55, 56, 57, 58, 59, 60, 61, 62, 63] (by decide +kernel) (by decide +kernel)
set_option maxRecDepth 20000 in
theorem gX11_as_X11_finding : GoodIn wsX11_as (wsV RX11 79 RX11 yX11_finding wsX11_finding) := goodIn_app (goodIn_of _ (by decide +kernel)) ggX11_as_X11_finding
theorem dX11_as_0 : decode cX11_as 0 = .ok (.aload_n 0, 1) := by decide +kernel
theorem dX11_as_1 : decode cX11_as 1 = .ok (.iconst 0, 1) := by decide +kernel
theorem dX11_as_2 : decode cX11_as 2 = .ok (.putfield 58, 3) := by decide +kernel
theorem dX11_as_5 : decode cX11_as 5 = .ok (.aload_n 0, 1) := by decide +kernel
theorem dX11_as_6 : decode cX11_as 6 = .ok (.iload_n 1, 1) := by decide +kernel
theorem dX11_as_7 : decode cX11_as 7 = .ok (.invokevirtual 223, 3) := by decide +kernel
theorem dX11_as_10 : decode cX11_as 10 = .ok (.ifCond .eq 15, 3) := by decide +kernel
theorem dX11_as_13 : decode cX11_as 13 = .ok (.iload_n 2, 1) := by decide +kernel
theorem dX11_as_14 : decode cX11_as 14 = .ok (.i2l, 1) := by decide +kernel
theorem dX11_as_15 : decode cX11_as 15 = .ok (.lconst 0, 1) := by decide +kernel
theorem dX11_as_16 : decode cX11_as 16 = .ok (.ldc2_w 237, 3) := by decide +kernel
theorem dX11_as_19 : decode cX11_as 19 = .ok (.invokestatic 68, 3) := by decide +kernel
theorem dX11_as_22 : decode cX11_as 22 = .ok (.ifCond .ne 6, 3) := by decide +kernel
theorem dX11_as_25 : decode cX11_as 25 = .ok (.ldc 78, 2) := by decide +kernel
theorem dX11_as_27 : decode cX11_as 27 = .ok (.ireturn, 1) := by decide +kernel
theorem dX11_as_28 : decode cX11_as 28 = .ok (.aload_n 0, 1) := by decide +kernel
theorem dX11_as_29 : decode cX11_as 29 = .ok (.iconst 0, 1) := by decide +kernel
theorem dX11_as_30 : decode cX11_as 30 = .ok (.putfield 62, 3) := by decide +kernel
theorem dX11_as_33 : decode cX11_as 33 = .ok (.aload_n 0, 1) := by decide +kernel
theorem dX11_as_34 : decode cX11_as 34 = .ok (.iload_n 1, 1) := by decide +kernel
theorem dX11_as_35 : decode cX11_as 35 = .ok (.iconst 0, 1) := by decide +kernel
theorem dX11_as_36 : decode cX11_as 36 = .ok (.invokevirtual 201, 3) := by decide +kernel
theorem dX11_as_39 : decode cX11_as 39 = .ok (.iload_n 2, 1) := by decide +kernel
theorem dX11_as_40 : decode cX11_as 40 = .ok (.invokestatic 273, 3) := by decide +kernel
theorem dX11_as_43 : decode cX11_as 43 = .ok (.ifCond .eq 12, 3) := by decide +kernel
theorem dX11_as_46 : decode cX11_as 46 = .ok (.aload_n 0, 1) := by decide +kernel
theorem dX11_as_47 : decode cX11_as 47 = .ok (.iload_n 1, 1) := by decide +kernel
theorem dX11_as_48 : decode cX11_as 48 = .ok (.iconst 2, 1) := by decide +kernel
theorem dX11_as_49 : decode cX11_as 49 = .ok (.invokevirtual 201, 3) := by decide +kernel
theorem dX11_as_52 : decode cX11_as 52 = .ok (.goto 8, 3) := by decide +kernel
theorem dX11_as_55 : decode cX11_as 55 = .ok (.aload_n 0, 1) := by decide +kernel
theorem dX11_as_56 : decode cX11_as 56 = .ok (.iconst 3, 1) := by decide +kernel
theorem dX11_as_57 : decode cX11_as 57 = .ok (.invokevirtual 79, 3) := by decide +kernel
theorem dX11_as_60 : decode cX11_as 60 = .ok (.ireturn, 1) := by decide +kernel
theorem dX11_began_0 : decode cX11_began 0 = .ok (.aload_n 0, 1) := by decide +kernel
theorem dX11_began_1 : decode cX11_began 1 = .ok (.getfield 277, 3) := by decide +kernel
theorem dX11_began_4 : decode cX11_began 4 = .ok (.bipush 16, 2) := by decide +kernel
theorem dX11_began_6 : decode cX11_began 6 = .ok (.if_icmp .ge 23, 3) := by decide +kernel
theorem dX11_began_9 : decode cX11_began 9 = .ok (.aload_n 0, 1) := by decide +kernel
theorem dX11_began_10 : decode cX11_began 10 = .ok (.getfield 55, 3) := by decide +kernel
theorem dX11_began_13 : decode cX11_began 13 = .ok (.aload_n 0, 1) := by decide +kernel
theorem dX11_began_14 : decode cX11_began 14 = .ok (.getfield 277, 3) := by decide +kernel
theorem dX11_began_17 : decode cX11_began 17 = .ok (.iload_n 1, 1) := by decide +kernel
theorem dX11_began_18 : decode cX11_began 18 = .ok (.iastore, 1) := by decide +kernel
theorem dX11_began_19 : decode cX11_began 19 = .ok (.aload_n 0, 1) := by decide +kernel
theorem dX11_began_20 : decode cX11_began 20 = .ok (.dup, 1) := by decide +kernel
theorem dX11_began_21 : decode cX11_began 21 = .ok (.getfield 277, 3) := by decide +kernel
theorem dX11_began_24 : decode cX11_began 24 = .ok (.iconst 1, 1) := by decide +kernel
theorem dX11_began_25 : decode cX11_began 25 = .ok (.iadd, 1) := by decide +kernel
theorem dX11_began_26 : decode cX11_began 26 = .ok (.putfield 277, 3) := by decide +kernel
theorem dX11_began_29 : decode cX11_began 29 = .ok (.return_, 1) := by decide +kernel
set_option maxRecDepth 20000 in
theorem ggX11_wiseSize_X11_began : GoodIn wsX11_wiseSize wsX11_began := goodIn_r _ [5, 6, 7, 13, 14, 15, 16, 17, 18, 19, 20, 21, 22, 23, 24, 25, 26, 27, 28, 29, 30, 31, 32, 33, 34, 35, 36, 37, 38, 39, 40, 41, 42, 43, 44, 45, 46, 47] (by decide +kernel) (by decide +kernel)
set_option maxRecDepth 20000 in
theorem gX11_wiseSize_X11_began : GoodIn wsX11_wiseSize (wsV RX11 280 RX11 yX11_began wsX11_began) := goodIn_app (goodIn_of _ (by decide +kernel)) ggX11_wiseSize_X11_began
set_option maxRecDepth 20000 in
theorem ggX11_wiseSize_X11_told : GoodIn wsX11_wiseSize wsX11_told := goodIn_r _ [11, 12, 13, 14, 15, 16, 17, 18, 19, 20, 21, 22, 23, 24, 25, 26, 27, 28, 29, 30, 31, 32, 33, 34, 35, 36, 37, 38, 39, 40, 41, 42, 43, 44, 45, 46, 47] (by decide +kernel) (by decide +kernel)
set_option maxRecDepth 20000 in
theorem gX11_wiseSize_X11_told : GoodIn wsX11_wiseSize (wsV RX11 201 RX11 yX11_told wsX11_told) := goodIn_app (goodIn_of _ (by decide +kernel)) ggX11_wiseSize_X11_told
theorem dX11_wiseSize_0 : decode cX11_wiseSize 0 = .ok (.aload_n 0, 1) := by decide +kernel
theorem dX11_wiseSize_1 : decode cX11_wiseSize 1 = .ok (.bipush 14, 2) := by decide +kernel
theorem dX11_wiseSize_3 : decode cX11_wiseSize 3 = .ok (.invokevirtual 280, 3) := by decide +kernel
theorem dX11_wiseSize_6 : decode cX11_wiseSize 6 = .ok (.aload_n 0, 1) := by decide +kernel
theorem dX11_wiseSize_7 : decode cX11_wiseSize 7 = .ok (.bipush 10, 2) := by decide +kernel
theorem dX11_wiseSize_9 : decode cX11_wiseSize 9 = .ok (.invokevirtual 280, 3) := by decide +kernel
theorem dX11_wiseSize_12 : decode cX11_wiseSize 12 = .ok (.iconst 3, 1) := by decide +kernel
theorem dX11_wiseSize_13 : decode cX11_wiseSize 13 = .ok (.aload_n 0, 1) := by decide +kernel
theorem dX11_wiseSize_14 : decode cX11_wiseSize 14 = .ok (.iload_n 1, 1) := by decide +kernel
theorem dX11_wiseSize_15 : decode cX11_wiseSize 15 = .ok (.iconst 2, 1) := by decide +kernel
theorem dX11_wiseSize_16 : decode cX11_wiseSize 16 = .ok (.invokevirtual 201, 3) := by decide +kernel
theorem dX11_wiseSize_19 : decode cX11_wiseSize 19 = .ok (.imul, 1) := by decide +kernel
theorem dX11_wiseSize_20 : decode cX11_wiseSize 20 = .ok (.ireturn, 1) := by decide +kernel
set_option maxRecDepth 20000 in
theorem ggX11_markOf_X11_began : GoodIn wsX11_markOf wsX11_began := goodIn_r _ [6, 7, 8, 26, 27, 28, 29, 30, 31, 32, 33, 34, 35, 36, 37, 38, 39, 40, 41, 42, 43, 44, 45, 46, 47, 48, 49, 50, 51, 52, 53, 54, 55, 56, 57, 58, 59, 60] (by decide +kernel) (by decide +kernel)
set_option maxRecDepth 20000 in
theorem gX11_markOf_X11_began : GoodIn wsX11_markOf (wsV RX11 280 RX11 yX11_began wsX11_began) := goodIn_app (goodIn_of _ (by decide +kernel)) ggX11_markOf_X11_began
set_option maxRecDepth 20000 in
theorem ggX11_markOf_X11_isOf : GoodIn wsX11_markOf wsX11_isOf := goodIn_r _ [11, 12, 13, 14, 15, 5, 16] (by decide +kernel) (by decide +kernel)
set_option maxRecDepth 20000 in
theorem gX11_markOf_X11_isOf : GoodIn wsX11_markOf (va_wsS RX11 273 yX11_isOf wsX11_isOf) := goodIn_app (goodIn_of _ (by decide +kernel)) ggX11_markOf_X11_isOf
set_option maxRecDepth 20000 in
theorem ggX11_markOf_X11_told : GoodIn wsX11_markOf wsX11_told := goodIn_r _ [20, 21, 26, 27, 28, 29, 30, 31, 32, 33, 34, 35, 36, 37, 38, 39, 40, 41, 42, 43, 44, 45, 46, 47, 48, 49, 50, 51, 52, 53, 54, 55, 56, 57, 58, 59, 60] (by decide +kernel) (by decide +kernel)
set_option maxRecDepth 20000 in
theorem gX11_markOf_X11_told : GoodIn wsX11_markOf (wsV RX11 201 RX11 yX11_told wsX11_told) := goodIn_app (goodIn_of _ (by decide +kernel)) ggX11_markOf_X11_told
set_option maxRecDepth 20000 in
theorem ggX11_markOf_X11_wiseSize : GoodIn wsX11_markOf wsX11_wiseSize := goodIn_r _ [25, 2, 3, 4, 5, 6, 7, 8, 17, 18, 19, 20, 21, 26, 27, 28, 29, 30, 31, 32, 33, 34, 35, 36, 37, 38, 39, 40, 41, 42, 43, 44, 45, 46, 47, 48, 49, 50, 51, 52, 53, 54, 55, 56, 57, 58, 59, 60] (by decide +kernel) (by decide +kernel)
set_option maxRecDepth 20000 in
theorem gX11_markOf_X11_wiseSize : GoodIn wsX11_markOf (wsV RX11 283 RX11 yX11_wiseSize wsX11_wiseSize) := goodIn_app (goodIn_of _ (by decide +kernel)) ggX11_markOf_X11_wiseSize
theorem dX11_markOf_0 : decode cX11_markOf 0 = .ok (.iload_n 2, 1) := by decide +kernel
theorem dX11_markOf_1 : decode cX11_markOf 1 = .ok (.bipush 6, 2) := by decide +kernel
theorem dX11_markOf_3 : decode cX11_markOf 3 = .ok (.if_icmp .ne 9, 3) := by decide +kernel
theorem dX11_markOf_6 : decode cX11_markOf 6 = .ok (.aload_n 0, 1) := by decide +kernel
theorem dX11_markOf_7 : decode cX11_markOf 7 = .ok (.bipush 23, 2) := by decide +kernel
theorem dX11_markOf_9 : decode cX11_markOf 9 = .ok (.invokevirtual 280, 3) := by decide +kernel
theorem dX11_markOf_12 : decode cX11_markOf 12 = .ok (.iload_n 2, 1) := by decide +kernel
theorem dX11_markOf_13 : decode cX11_markOf 13 = .ok (.iconst 2, 1) := by decide +kernel
theorem dX11_markOf_14 : decode cX11_markOf 14 = .ok (.if_icmp .eq 11, 3) := by decide +kernel
theorem dX11_markOf_17 : decode cX11_markOf 17 = .ok (.iload_n 2, 1) := by decide +kernel
theorem dX11_markOf_18 : decode cX11_markOf 18 = .ok (.iconst 5, 1) := by decide +kernel
theorem dX11_markOf_19 : decode cX11_markOf 19 = .ok (.invokestatic 273, 3) := by decide +kernel
theorem dX11_markOf_22 : decode cX11_markOf 22 = .ok (.ifCond .eq 19, 3) := by decide +kernel
theorem dX11_markOf_25 : decode cX11_markOf 25 = .ok (.aload_n 0, 1) := by decide +kernel
theorem dX11_markOf_26 : decode cX11_markOf 26 = .ok (.iload_n 2, 1) := by decide +kernel
theorem dX11_markOf_27 : decode cX11_markOf 27 = .ok (.iconst 2, 1) := by decide +kernel
theorem dX11_markOf_28 : decode cX11_markOf 28 = .ok (.if_icmp .ne 8, 3) := by decide +kernel
theorem dX11_markOf_31 : decode cX11_markOf 31 = .ok (.bipush 21, 2) := by decide +kernel
theorem dX11_markOf_33 : decode cX11_markOf 33 = .ok (.goto 5, 3) := by decide +kernel
theorem dX11_markOf_36 : decode cX11_markOf 36 = .ok (.bipush 22, 2) := by decide +kernel
theorem dX11_markOf_38 : decode cX11_markOf 38 = .ok (.invokevirtual 280, 3) := by decide +kernel
theorem dX11_markOf_41 : decode cX11_markOf 41 = .ok (.aload_n 0, 1) := by decide +kernel
theorem dX11_markOf_42 : decode cX11_markOf 42 = .ok (.bipush 20, 2) := by decide +kernel
theorem dX11_markOf_44 : decode cX11_markOf 44 = .ok (.invokevirtual 280, 3) := by decide +kernel
theorem dX11_markOf_47 : decode cX11_markOf 47 = .ok (.iload_n 1, 1) := by decide +kernel
theorem dX11_markOf_48 : decode cX11_markOf 48 = .ok (.iload_n 2, 1) := by decide +kernel
theorem dX11_markOf_49 : decode cX11_markOf 49 = .ok (.iconst 2, 1) := by decide +kernel
theorem dX11_markOf_50 : decode cX11_markOf 50 = .ok (.if_icmp .ne 15, 3) := by decide +kernel
theorem dX11_markOf_53 : decode cX11_markOf 53 = .ok (.bipush 10, 2) := by decide +kernel
theorem dX11_markOf_55 : decode cX11_markOf 55 = .ok (.aload_n 0, 1) := by decide +kernel
theorem dX11_markOf_56 : decode cX11_markOf 56 = .ok (.iload_n 1, 1) := by decide +kernel
theorem dX11_markOf_57 : decode cX11_markOf 57 = .ok (.iconst 1, 1) := by decide +kernel
theorem dX11_markOf_58 : decode cX11_markOf 58 = .ok (.invokevirtual 201, 3) := by decide +kernel
theorem dX11_markOf_61 : decode cX11_markOf 61 = .ok (.imul, 1) := by decide +kernel
theorem dX11_markOf_62 : decode cX11_markOf 62 = .ok (.goto 19, 3) := by decide +kernel
theorem dX11_markOf_65 : decode cX11_markOf 65 = .ok (.iload_n 2, 1) := by decide +kernel
theorem dX11_markOf_66 : decode cX11_markOf 66 = .ok (.iconst 5, 1) := by decide +kernel
theorem dX11_markOf_67 : decode cX11_markOf 67 = .ok (.invokestatic 273, 3) := by decide +kernel
theorem dX11_markOf_70 : decode cX11_markOf 70 = .ok (.ifCond .eq 10, 3) := by decide +kernel
theorem dX11_markOf_73 : decode cX11_markOf 73 = .ok (.aload_n 0, 1) := by decide +kernel
theorem dX11_markOf_74 : decode cX11_markOf 74 = .ok (.getfield 185, 3) := by decide +kernel
theorem dX11_markOf_77 : decode cX11_markOf 77 = .ok (.goto 4, 3) := by decide +kernel
theorem dX11_markOf_80 : decode cX11_markOf 80 = .ok (.iconst 0, 1) := by decide +kernel
theorem dX11_markOf_81 : decode cX11_markOf 81 = .ok (.iadd, 1) := by decide +kernel
theorem dX11_markOf_82 : decode cX11_markOf 82 = .ok (.istore_n 3, 1) := by decide +kernel
theorem dX11_markOf_83 : decode cX11_markOf 83 = .ok (.iload_n 2, 1) := by decide +kernel
theorem dX11_markOf_84 : decode cX11_markOf 84 = .ok (.bipush 6, 2) := by decide +kernel
theorem dX11_markOf_86 : decode cX11_markOf 86 = .ok (.if_icmp .ne 13, 3) := by decide +kernel
theorem dX11_markOf_89 : decode cX11_markOf 89 = .ok (.iload_n 3, 1) := by decide +kernel
theorem dX11_markOf_90 : decode cX11_markOf 90 = .ok (.aload_n 0, 1) := by decide +kernel
theorem dX11_markOf_91 : decode cX11_markOf 91 = .ok (.iload_n 1, 1) := by decide +kernel
theorem dX11_markOf_92 : decode cX11_markOf 92 = .ok (.invokevirtual 283, 3) := by decide +kernel
theorem dX11_markOf_95 : decode cX11_markOf 95 = .ok (.iadd, 1) := by decide +kernel
theorem dX11_markOf_96 : decode cX11_markOf 96 = .ok (.goto 4, 3) := by decide +kernel
theorem dX11_markOf_99 : decode cX11_markOf 99 = .ok (.iload_n 3, 1) := by decide +kernel
theorem dX11_markOf_100 : decode cX11_markOf 100 = .ok (.ireturn, 1) := by decide +kernel
set_option maxRecDepth 20000 in
theorem ggX11_sizeOf_X11_wiseSize : GoodIn wsX11_sizeOf wsX11_wiseSize := goodIn_r _ [5, 6, 7, 8, 4, 9, 10, 11, 12, 13, 14, 15, 16, 30, 31, 32, 33, 34, 35, 36, 37, 38, 39, 40, 41, 42, 43, 44, 45, 46, 47, 48, 49, 50, 51, 52, 53, 54, 55, 56, 57, 58, 59, 60, 61, 62, 63, 64] (by decide +kernel) (by decide +kernel)
set_option maxRecDepth 20000 in
theorem gX11_sizeOf_X11_wiseSize : GoodIn wsX11_sizeOf (wsV RX11 283 RX11 yX11_wiseSize wsX11_wiseSize) := goodIn_app (goodIn_of _ (by decide +kernel)) ggX11_sizeOf_X11_wiseSize
set_option maxRecDepth 20000 in
theorem ggX11_sizeOf_X11_began : GoodIn wsX11_sizeOf wsX11_began := goodIn_r _ [9, 10, 11, 30, 31, 32, 33, 34, 35, 36, 37, 38, 39, 40, 41, 42, 43, 44, 45, 46, 47, 48, 49, 50, 51, 52, 53, 54, 55, 56, 57, 58, 59, 60, 61, 62, 63, 64] (by decide +kernel) (by decide +kernel)
set_option maxRecDepth 20000 in
theorem gX11_sizeOf_X11_began : GoodIn wsX11_sizeOf (wsV RX11 280 RX11 yX11_began wsX11_began) := goodIn_app (goodIn_of _ (by decide +kernel)) ggX11_sizeOf_X11_began
set_option maxRecDepth 20000 in
theorem ggX11_sizeOf_X11_isOf : GoodIn wsX11_sizeOf wsX11_isOf := goodIn_r _ [19, 20, 21, 22, 23, 4, 24] (by decide +kernel) (by decide +kernel)
set_option maxRecDepth 20000 in
theorem gX11_sizeOf_X11_isOf : GoodIn wsX11_sizeOf (va_wsS RX11 273 yX11_isOf wsX11_isOf) := goodIn_app (goodIn_of _ (by decide +kernel)) ggX11_sizeOf_X11_isOf
set_option maxRecDepth 20000 in
theorem ggX11_sizeOf_X11_told : GoodIn wsX11_sizeOf wsX11_told := goodIn_r _ [15, 16, 30, 31, 32, 33, 34, 35, 36, 37, 38, 39, 40, 41, 42, 43, 44, 45, 46, 47, 48, 49, 50, 51, 52, 53, 54, 55, 56, 57, 58, 59, 60, 61, 62, 63, 64] (by decide +kernel) (by decide +kernel)
set_option maxRecDepth 20000 in
theorem gX11_sizeOf_X11_told : GoodIn wsX11_sizeOf (wsV RX11 201 RX11 yX11_told wsX11_told) := goodIn_app (goodIn_of _ (by decide +kernel)) ggX11_sizeOf_X11_told
set_option maxRecDepth 20000 in
theorem ggX11_sizeOf_X11_markOf : GoodIn wsX11_sizeOf wsX11_markOf := goodIn_r _ [28, 29, 6, 7, 8, 4, 9, 10, 11, 17, 18, 19, 20, 21, 22, 23, 24, 12, 13, 14, 15, 16, 1, 2, 3, 5, 30, 31, 32, 33, 34, 35, 36, 37, 38, 39, 40, 41, 42, 43, 44, 45, 46, 47, 48, 49, 50, 51, 52, 53, 54, 55, 56, 57, 58, 59, 60, 61, 62, 63, 64] (by decide +kernel) (by decide +kernel)
set_option maxRecDepth 20000 in
theorem gX11_sizeOf_X11_markOf : GoodIn wsX11_sizeOf (wsV RX11 286 RX11 yX11_markOf wsX11_markOf) := goodIn_app (goodIn_of _ (by decide +kernel)) ggX11_sizeOf_X11_markOf
theorem dX11_sizeOf_0 : decode cX11_sizeOf 0 = .ok (.iload_n 2, 1) := by decide +kernel
theorem dX11_sizeOf_1 : decode cX11_sizeOf 1 = .ok (.bipush 6, 2) := by decide +kernel
theorem dX11_sizeOf_3 : decode cX11_sizeOf 3 = .ok (.if_icmp .ne 9, 3) := by decide +kernel
theorem dX11_sizeOf_6 : decode cX11_sizeOf 6 = .ok (.aload_n 0, 1) := by decide +kernel
theorem dX11_sizeOf_7 : decode cX11_sizeOf 7 = .ok (.iload_n 1, 1) := by decide +kernel
theorem dX11_sizeOf_8 : decode cX11_sizeOf 8 = .ok (.invokevirtual 283, 3) := by decide +kernel
theorem dX11_sizeOf_11 : decode cX11_sizeOf 11 = .ok (.ireturn, 1) := by decide +kernel
theorem dX11_sizeOf_12 : decode cX11_sizeOf 12 = .ok (.iload_n 2, 1) := by decide +kernel
theorem dX11_sizeOf_13 : decode cX11_sizeOf 13 = .ok (.iconst 4, 1) := by decide +kernel
theorem dX11_sizeOf_14 : decode cX11_sizeOf 14 = .ok (.if_icmp .ne 9, 3) := by decide +kernel
theorem dX11_sizeOf_17 : decode cX11_sizeOf 17 = .ok (.aload_n 0, 1) := by decide +kernel
theorem dX11_sizeOf_18 : decode cX11_sizeOf 18 = .ok (.bipush 13, 2) := by decide +kernel
theorem dX11_sizeOf_20 : decode cX11_sizeOf 20 = .ok (.invokevirtual 280, 3) := by decide +kernel
theorem dX11_sizeOf_23 : decode cX11_sizeOf 23 = .ok (.iload_n 2, 1) := by decide +kernel
theorem dX11_sizeOf_24 : decode cX11_sizeOf 24 = .ok (.iconst 3, 1) := by decide +kernel
theorem dX11_sizeOf_25 : decode cX11_sizeOf 25 = .ok (.invokestatic 273, 3) := by decide +kernel
theorem dX11_sizeOf_28 : decode cX11_sizeOf 28 = .ok (.ifCond .eq 9, 3) := by decide +kernel
theorem dX11_sizeOf_31 : decode cX11_sizeOf 31 = .ok (.aload_n 0, 1) := by decide +kernel
theorem dX11_sizeOf_32 : decode cX11_sizeOf 32 = .ok (.bipush 12, 2) := by decide +kernel
theorem dX11_sizeOf_34 : decode cX11_sizeOf 34 = .ok (.invokevirtual 280, 3) := by decide +kernel
theorem dX11_sizeOf_37 : decode cX11_sizeOf 37 = .ok (.iload_n 2, 1) := by decide +kernel
theorem dX11_sizeOf_38 : decode cX11_sizeOf 38 = .ok (.iconst 1, 1) := by decide +kernel
theorem dX11_sizeOf_39 : decode cX11_sizeOf 39 = .ok (.invokestatic 273, 3) := by decide +kernel
theorem dX11_sizeOf_42 : decode cX11_sizeOf 42 = .ok (.ifCond .eq 9, 3) := by decide +kernel
theorem dX11_sizeOf_45 : decode cX11_sizeOf 45 = .ok (.aload_n 0, 1) := by decide +kernel
theorem dX11_sizeOf_46 : decode cX11_sizeOf 46 = .ok (.bipush 11, 2) := by decide +kernel
theorem dX11_sizeOf_48 : decode cX11_sizeOf 48 = .ok (.invokevirtual 280, 3) := by decide +kernel
theorem dX11_sizeOf_51 : decode cX11_sizeOf 51 = .ok (.aload_n 0, 1) := by decide +kernel
theorem dX11_sizeOf_52 : decode cX11_sizeOf 52 = .ok (.bipush 10, 2) := by decide +kernel
theorem dX11_sizeOf_54 : decode cX11_sizeOf 54 = .ok (.invokevirtual 280, 3) := by decide +kernel
theorem dX11_sizeOf_57 : decode cX11_sizeOf 57 = .ok (.aload_n 0, 1) := by decide +kernel
theorem dX11_sizeOf_58 : decode cX11_sizeOf 58 = .ok (.iload_n 1, 1) := by decide +kernel
theorem dX11_sizeOf_59 : decode cX11_sizeOf 59 = .ok (.iconst 2, 1) := by decide +kernel
theorem dX11_sizeOf_60 : decode cX11_sizeOf 60 = .ok (.invokevirtual 201, 3) := by decide +kernel
theorem dX11_sizeOf_63 : decode cX11_sizeOf 63 = .ok (.iload_n 2, 1) := by decide +kernel
theorem dX11_sizeOf_64 : decode cX11_sizeOf 64 = .ok (.iconst 1, 1) := by decide +kernel
theorem dX11_sizeOf_65 : decode cX11_sizeOf 65 = .ok (.invokestatic 273, 3) := by decide +kernel
theorem dX11_sizeOf_68 : decode cX11_sizeOf 68 = .ok (.ifCond .eq 12, 3) := by decide +kernel
theorem dX11_sizeOf_71 : decode cX11_sizeOf 71 = .ok (.aload_n 0, 1) := by decide +kernel
theorem dX11_sizeOf_72 : decode cX11_sizeOf 72 = .ok (.iload_n 1, 1) := by decide +kernel
theorem dX11_sizeOf_73 : decode cX11_sizeOf 73 = .ok (.iload_n 2, 1) := by decide +kernel
theorem dX11_sizeOf_74 : decode cX11_sizeOf 74 = .ok (.invokevirtual 286, 3) := by decide +kernel
theorem dX11_sizeOf_77 : decode cX11_sizeOf 77 = .ok (.goto 4, 3) := by decide +kernel
theorem dX11_sizeOf_80 : decode cX11_sizeOf 80 = .ok (.iconst 0, 1) := by decide +kernel
theorem dX11_sizeOf_81 : decode cX11_sizeOf 81 = .ok (.iadd, 1) := by decide +kernel
theorem dX11_sizeOf_82 : decode cX11_sizeOf 82 = .ok (.istore_n 3, 1) := by decide +kernel
theorem dX11_sizeOf_83 : decode cX11_sizeOf 83 = .ok (.iload_n 2, 1) := by decide +kernel
theorem dX11_sizeOf_84 : decode cX11_sizeOf 84 = .ok (.iconst 3, 1) := by decide +kernel
theorem dX11_sizeOf_85 : decode cX11_sizeOf 85 = .ok (.invokestatic 273, 3) := by decide +kernel
theorem dX11_sizeOf_88 : decode cX11_sizeOf 88 = .ok (.ifCond .eq 9, 3) := by decide +kernel
theorem dX11_sizeOf_91 : decode cX11_sizeOf 91 = .ok (.iconst 2, 1) := by decide +kernel
theorem dX11_sizeOf_92 : decode cX11_sizeOf 92 = .ok (.iload_n 3, 1) := by decide +kernel
theorem dX11_sizeOf_93 : decode cX11_sizeOf 93 = .ok (.imul, 1) := by decide +kernel
theorem dX11_sizeOf_94 : decode cX11_sizeOf 94 = .ok (.goto 4, 3) := by decide +kernel
theorem dX11_sizeOf_97 : decode cX11_sizeOf 97 = .ok (.iload_n 3, 1) := by decide +kernel
theorem dX11_sizeOf_98 : decode cX11_sizeOf 98 = .ok (.istore_n 3, 1) := by decide +kernel
theorem dX11_sizeOf_99 : decode cX11_sizeOf 99 = .ok (.iload_n 2, 1) := by decide +kernel
theorem dX11_sizeOf_100 : decode cX11_sizeOf 100 = .ok (.iconst 4, 1) := by decide +kernel
theorem dX11_sizeOf_101 : decode cX11_sizeOf 101 = .ok (.if_icmp .ne 8, 3) := by decide +kernel
theorem dX11_sizeOf_104 : decode cX11_sizeOf 104 = .ok (.iload_n 3, 1) := by decide +kernel
theorem dX11_sizeOf_105 : decode cX11_sizeOf 105 = .ok (.ineg, 1) := by decide +kernel
theorem dX11_sizeOf_106 : decode cX11_sizeOf 106 = .ok (.goto 4, 3) := by decide +kernel
theorem dX11_sizeOf_109 : decode cX11_sizeOf 109 = .ok (.iload_n 3, 1) := by decide +kernel
theorem dX11_sizeOf_110 : decode cX11_sizeOf 110 = .ok (.ireturn, 1) := by decide +kernel
set_option maxRecDepth 20000 in
theorem ggX11_ask_X11_isKind : GoodIn wsX11_ask wsX11_isKind := goodIn_r _ [8, 9, 10, 11, 7, 12, 41, 42, 43, 44, 45, 46, 47, 48, 49, 50, 51, 52, 53, 54, 55, 56, 57, 58, 59, 60, 61, 62, 63, 64, 65, 66, 67, 68, 69, 70, 71, 72, 73, 74, 75] (by decide +kernel) (by decide +kernel)
set_option maxRecDepth 20000 in
theorem gX11_ask_X11_isKind : GoodIn wsX11_ask (wsV RX11 223 RX11 yX11_isKind wsX11_isKind) := goodIn_app (goodIn_of _ (by decide +kernel)) ggX11_ask_X11_isKind
set_option maxRecDepth 20000 in
theorem ggX11_ask_X11_in : GoodIn wsX11_ask wsX11_in := goodIn_r _ [12] (by decide +kernel) (by decide +kernel)
set_option maxRecDepth 20000 in
theorem gX11_ask_X11_in : GoodIn wsX11_ask (va_wsS RX11 68 yX11_in wsX11_in) := goodIn_app (goodIn_of _ (by decide +kernel)) ggX11_ask_X11_in
set_option maxRecDepth 20000 in
theorem ggX11_ask_X11_told : GoodIn wsX11_ask wsX11_told := goodIn_r _ [16, 17, 41, 42, 43, 44, 45, 46, 47, 48, 49, 50, 51, 52, 53, 54, 55, 56, 57, 58, 59, 60, 61, 62, 63, 64, 65, 66, 67, 68, 69, 70, 71, 72, 73, 74, 75] (by decide +kernel) (by decide +kernel)
set_option maxRecDepth 20000 in
theorem gX11_ask_X11_told : GoodIn wsX11_ask (wsV RX11 201 RX11 yX11_told wsX11_told) := goodIn_app (goodIn_of _ (by decide +kernel)) ggX11_ask_X11_told
set_option maxRecDepth 20000 in
theorem ggX11_ask_X11_sizeOf : GoodIn wsX11_ask wsX11_sizeOf := goodIn_r _ [21, 22, 23, 24, 7, 25, 26, 27, 28, 29, 3, 30, 13, 14, 15, 16, 17, 31, 32, 33, 34, 35, 10, 11, 12, 36, 37, 38, 39, 40, 41, 42, 43, 44, 45, 46, 47, 48, 49, 50, 51, 52, 53, 54, 55, 56, 57, 58, 59, 60, 61, 62, 63, 64, 65, 66, 67, 68, 69, 70, 71, 72, 73, 74, 75] (by decide +kernel) (by decide +kernel)
set_option maxRecDepth 20000 in
theorem gX11_ask_X11_sizeOf : GoodIn wsX11_ask (wsV RX11 289 RX11 yX11_sizeOf wsX11_sizeOf) := goodIn_app (goodIn_of _ (by decide +kernel)) ggX11_ask_X11_sizeOf
set_option maxRecDepth 20000 in
theorem ggX11_ask_X11_markOf : GoodIn wsX11_ask wsX11_markOf := goodIn_r _ [39, 40, 26, 27, 28, 7, 29, 3, 30, 31, 32, 33, 34, 35, 10, 11, 12, 13, 14, 15, 16, 17, 22, 23, 24, 25, 41, 42, 43, 44, 45, 46, 47, 48, 49, 50, 51, 52, 53, 54, 55, 56, 57, 58, 59, 60, 61, 62, 63, 64, 65, 66, 67, 68, 69, 70, 71, 72, 73, 74, 75] (by decide +kernel) (by decide +kernel)
set_option maxRecDepth 20000 in
theorem gX11_ask_X11_markOf : GoodIn wsX11_ask (wsV RX11 286 RX11 yX11_markOf wsX11_markOf) := goodIn_app (goodIn_of _ (by decide +kernel)) ggX11_ask_X11_markOf
theorem dX11_ask_0 : decode cX11_ask 0 = .ok (.aload_n 0, 1) := by decide +kernel
theorem dX11_ask_1 : decode cX11_ask 1 = .ok (.iconst 0, 1) := by decide +kernel
theorem dX11_ask_2 : decode cX11_ask 2 = .ok (.putfield 58, 3) := by decide +kernel
theorem dX11_ask_5 : decode cX11_ask 5 = .ok (.aload_n 0, 1) := by decide +kernel
theorem dX11_ask_6 : decode cX11_ask 6 = .ok (.iload_n 1, 1) := by decide +kernel
theorem dX11_ask_7 : decode cX11_ask 7 = .ok (.invokevirtual 223, 3) := by decide +kernel
theorem dX11_ask_10 : decode cX11_ask 10 = .ok (.ifCond .eq 13, 3) := by decide +kernel
theorem dX11_ask_13 : decode cX11_ask 13 = .ok (.iload_n 2, 1) := by decide +kernel
theorem dX11_ask_14 : decode cX11_ask 14 = .ok (.i2l, 1) := by decide +kernel
theorem dX11_ask_15 : decode cX11_ask 15 = .ok (.lconst 0, 1) := by decide +kernel
theorem dX11_ask_16 : decode cX11_ask 16 = .ok (.lconst 1, 1) := by decide +kernel
theorem dX11_ask_17 : decode cX11_ask 17 = .ok (.invokestatic 68, 3) := by decide +kernel
theorem dX11_ask_20 : decode cX11_ask 20 = .ok (.ifCond .ne 6, 3) := by decide +kernel
theorem dX11_ask_23 : decode cX11_ask 23 = .ok (.ldc 78, 2) := by decide +kernel
theorem dX11_ask_25 : decode cX11_ask 25 = .ok (.ireturn, 1) := by decide +kernel
theorem dX11_ask_26 : decode cX11_ask 26 = .ok (.aload_n 0, 1) := by decide +kernel
theorem dX11_ask_27 : decode cX11_ask 27 = .ok (.iconst 0, 1) := by decide +kernel
theorem dX11_ask_28 : decode cX11_ask 28 = .ok (.putfield 277, 3) := by decide +kernel
theorem dX11_ask_31 : decode cX11_ask 31 = .ok (.iload_n 2, 1) := by decide +kernel
theorem dX11_ask_32 : decode cX11_ask 32 = .ok (.ifCond .ne 17, 3) := by decide +kernel
theorem dX11_ask_35 : decode cX11_ask 35 = .ok (.aload_n 0, 1) := by decide +kernel
theorem dX11_ask_36 : decode cX11_ask 36 = .ok (.iload_n 1, 1) := by decide +kernel
theorem dX11_ask_37 : decode cX11_ask 37 = .ok (.aload_n 0, 1) := by decide +kernel
theorem dX11_ask_38 : decode cX11_ask 38 = .ok (.iload_n 1, 1) := by decide +kernel
theorem dX11_ask_39 : decode cX11_ask 39 = .ok (.iconst 0, 1) := by decide +kernel
theorem dX11_ask_40 : decode cX11_ask 40 = .ok (.invokevirtual 201, 3) := by decide +kernel
theorem dX11_ask_43 : decode cX11_ask 43 = .ok (.invokevirtual 289, 3) := by decide +kernel
theorem dX11_ask_46 : decode cX11_ask 46 = .ok (.goto 14, 3) := by decide +kernel
theorem dX11_ask_49 : decode cX11_ask 49 = .ok (.aload_n 0, 1) := by decide +kernel
theorem dX11_ask_50 : decode cX11_ask 50 = .ok (.iload_n 1, 1) := by decide +kernel
theorem dX11_ask_51 : decode cX11_ask 51 = .ok (.aload_n 0, 1) := by decide +kernel
theorem dX11_ask_52 : decode cX11_ask 52 = .ok (.iload_n 1, 1) := by decide +kernel
theorem dX11_ask_53 : decode cX11_ask 53 = .ok (.iconst 0, 1) := by decide +kernel
theorem dX11_ask_54 : decode cX11_ask 54 = .ok (.invokevirtual 201, 3) := by decide +kernel
theorem dX11_ask_57 : decode cX11_ask 57 = .ok (.invokevirtual 286, 3) := by decide +kernel
theorem dX11_ask_60 : decode cX11_ask 60 = .ok (.ireturn, 1) := by decide +kernel
set_option maxRecDepth 20000 in
theorem ggX11_trace_X11_in : GoodIn wsX11_trace wsX11_in := goodIn_r _ [8] (by decide +kernel) (by decide +kernel)
set_option maxRecDepth 20000 in
theorem gX11_trace_X11_in : GoodIn wsX11_trace (va_wsS RX11 68 yX11_in wsX11_in) := goodIn_app (goodIn_of _ (by decide +kernel)) ggX11_trace_X11_in
theorem dX11_trace_0 : decode cX11_trace 0 = .ok (.aload_n 0, 1) := by decide +kernel
theorem dX11_trace_1 : decode cX11_trace 1 = .ok (.iconst 0, 1) := by decide +kernel
theorem dX11_trace_2 : decode cX11_trace 2 = .ok (.putfield 58, 3) := by decide +kernel
theorem dX11_trace_5 : decode cX11_trace 5 = .ok (.iload_n 1, 1) := by decide +kernel
theorem dX11_trace_6 : decode cX11_trace 6 = .ok (.i2l, 1) := by decide +kernel
theorem dX11_trace_7 : decode cX11_trace 7 = .ok (.lconst 0, 1) := by decide +kernel
theorem dX11_trace_8 : decode cX11_trace 8 = .ok (.aload_n 0, 1) := by decide +kernel
theorem dX11_trace_9 : decode cX11_trace 9 = .ok (.getfield 277, 3) := by decide +kernel
theorem dX11_trace_12 : decode cX11_trace 12 = .ok (.iconst 1, 1) := by decide +kernel
theorem dX11_trace_13 : decode cX11_trace 13 = .ok (.isub, 1) := by decide +kernel
theorem dX11_trace_14 : decode cX11_trace 14 = .ok (.i2l, 1) := by decide +kernel
theorem dX11_trace_15 : decode cX11_trace 15 = .ok (.invokestatic 68, 3) := by decide +kernel
theorem dX11_trace_18 : decode cX11_trace 18 = .ok (.ifCond .eq 12, 3) := by decide +kernel
theorem dX11_trace_21 : decode cX11_trace 21 = .ok (.aload_n 0, 1) := by decide +kernel
theorem dX11_trace_22 : decode cX11_trace 22 = .ok (.getfield 55, 3) := by decide +kernel
theorem dX11_trace_25 : decode cX11_trace 25 = .ok (.iload_n 1, 1) := by decide +kernel
theorem dX11_trace_26 : decode cX11_trace 26 = .ok (.iaload, 1) := by decide +kernel
theorem dX11_trace_27 : decode cX11_trace 27 = .ok (.goto 5, 3) := by decide +kernel
theorem dX11_trace_30 : decode cX11_trace 30 = .ok (.ldc 94, 2) := by decide +kernel
theorem dX11_trace_32 : decode cX11_trace 32 = .ok (.ireturn, 1) := by decide +kernel
set_option maxRecDepth 20000 in
theorem ggX11_count_X11_told : GoodIn wsX11_count wsX11_told := goodIn_r _ [11, 12, 13, 14, 15, 16, 17, 18, 19, 20, 21, 22, 23, 24, 25, 26, 27, 28, 29, 30, 31, 32, 33, 34, 35, 36, 37, 38, 39, 40, 41, 42, 43, 44, 45, 46, 47] (by decide +kernel) (by decide +kernel)
set_option maxRecDepth 20000 in
theorem gX11_count_X11_told : GoodIn wsX11_count (wsV RX11 201 RX11 yX11_told wsX11_told) := goodIn_app (goodIn_of _ (by decide +kernel)) ggX11_count_X11_told
theorem dX11_count_0 : decode cX11_count 0 = .ok (.aload_n 0, 1) := by decide +kernel
theorem dX11_count_1 : decode cX11_count 1 = .ok (.iconst 0, 1) := by decide +kernel
theorem dX11_count_2 : decode cX11_count 2 = .ok (.putfield 58, 3) := by decide +kernel
theorem dX11_count_5 : decode cX11_count 5 = .ok (.iconst 0, 1) := by decide +kernel
theorem dX11_count_6 : decode cX11_count 6 = .ok (.istore_n 2, 1) := by decide +kernel
theorem dX11_count_7 : decode cX11_count 7 = .ok (.iload_n 1, 1) := by decide +kernel
theorem dX11_count_8 : decode cX11_count 8 = .ok (.tableswitch 123 0 4 #[36, 69, 74, 74, 118], 36) := by decide +kernel
theorem dX11_count_44 : decode cX11_count 44 = .ok (.iconst 0, 1) := by decide +kernel
theorem dX11_count_45 : decode cX11_count 45 = .ok (.istore_n 3, 1) := by decide +kernel
theorem dX11_count_46 : decode cX11_count 46 = .ok (.iload_n 3, 1) := by decide +kernel
theorem dX11_count_47 : decode cX11_count 47 = .ok (.bipush 8, 2) := by decide +kernel
theorem dX11_count_49 : decode cX11_count 49 = .ok (.if_icmp .ge 26, 3) := by decide +kernel
theorem dX11_count_52 : decode cX11_count 52 = .ok (.iload_n 2, 1) := by decide +kernel
theorem dX11_count_53 : decode cX11_count 53 = .ok (.aload_n 0, 1) := by decide +kernel
theorem dX11_count_54 : decode cX11_count 54 = .ok (.getfield 7, 3) := by decide +kernel
theorem dX11_count_57 : decode cX11_count 57 = .ok (.iload_n 3, 1) := by decide +kernel
theorem dX11_count_58 : decode cX11_count 58 = .ok (.iaload, 1) := by decide +kernel
theorem dX11_count_59 : decode cX11_count 59 = .ok (.ifCond .lt 7, 3) := by decide +kernel
theorem dX11_count_62 : decode cX11_count 62 = .ok (.iconst 1, 1) := by decide +kernel
theorem dX11_count_63 : decode cX11_count 63 = .ok (.goto 4, 3) := by decide +kernel
theorem dX11_count_66 : decode cX11_count 66 = .ok (.iconst 0, 1) := by decide +kernel
theorem dX11_count_67 : decode cX11_count 67 = .ok (.iadd, 1) := by decide +kernel
theorem dX11_count_68 : decode cX11_count 68 = .ok (.istore_n 2, 1) := by decide +kernel
theorem dX11_count_69 : decode cX11_count 69 = .ok (.iinc 3 1, 3) := by decide +kernel
theorem dX11_count_72 : decode cX11_count 72 = .ok (.goto (-26), 3) := by decide +kernel
theorem dX11_count_75 : decode cX11_count 75 = .ok (.iload_n 2, 1) := by decide +kernel
theorem dX11_count_76 : decode cX11_count 76 = .ok (.ireturn, 1) := by decide +kernel
theorem dX11_count_77 : decode cX11_count 77 = .ok (.aload_n 0, 1) := by decide +kernel
theorem dX11_count_78 : decode cX11_count 78 = .ok (.getfield 180, 3) := by decide +kernel
theorem dX11_count_81 : decode cX11_count 81 = .ok (.ireturn, 1) := by decide +kernel
theorem dX11_count_82 : decode cX11_count 82 = .ok (.iconst 0, 1) := by decide +kernel
theorem dX11_count_83 : decode cX11_count 83 = .ok (.istore_n 3, 1) := by decide +kernel
theorem dX11_count_84 : decode cX11_count 84 = .ok (.iload_n 3, 1) := by decide +kernel
theorem dX11_count_85 : decode cX11_count 85 = .ok (.aload_n 0, 1) := by decide +kernel
theorem dX11_count_86 : decode cX11_count 86 = .ok (.getfield 180, 3) := by decide +kernel
theorem dX11_count_89 : decode cX11_count 89 = .ok (.if_icmp .ge 35, 3) := by decide +kernel
theorem dX11_count_92 : decode cX11_count 92 = .ok (.iload_n 2, 1) := by decide +kernel
theorem dX11_count_93 : decode cX11_count 93 = .ok (.iload_n 1, 1) := by decide +kernel
theorem dX11_count_94 : decode cX11_count 94 = .ok (.iconst 2, 1) := by decide +kernel
theorem dX11_count_95 : decode cX11_count 95 = .ok (.if_icmp .ne 12, 3) := by decide +kernel
theorem dX11_count_98 : decode cX11_count 98 = .ok (.aload_n 0, 1) := by decide +kernel
theorem dX11_count_99 : decode cX11_count 99 = .ok (.iload_n 3, 1) := by decide +kernel
theorem dX11_count_100 : decode cX11_count 100 = .ok (.iconst 2, 1) := by decide +kernel
theorem dX11_count_101 : decode cX11_count 101 = .ok (.invokevirtual 201, 3) := by decide +kernel
theorem dX11_count_104 : decode cX11_count 104 = .ok (.goto 12, 3) := by decide +kernel
theorem dX11_count_107 : decode cX11_count 107 = .ok (.aload_n 0, 1) := by decide +kernel
theorem dX11_count_108 : decode cX11_count 108 = .ok (.getfield 37, 3) := by decide +kernel
theorem dX11_count_111 : decode cX11_count 111 = .ok (.bipush 12, 2) := by decide +kernel
theorem dX11_count_113 : decode cX11_count 113 = .ok (.iload_n 3, 1) := by decide +kernel
theorem dX11_count_114 : decode cX11_count 114 = .ok (.iadd, 1) := by decide +kernel
theorem dX11_count_115 : decode cX11_count 115 = .ok (.iaload, 1) := by decide +kernel
theorem dX11_count_116 : decode cX11_count 116 = .ok (.iadd, 1) := by decide +kernel
theorem dX11_count_117 : decode cX11_count 117 = .ok (.istore_n 2, 1) := by decide +kernel
theorem dX11_count_118 : decode cX11_count 118 = .ok (.iinc 3 1, 3) := by decide +kernel
theorem dX11_count_121 : decode cX11_count 121 = .ok (.goto (-37), 3) := by decide +kernel
theorem dX11_count_124 : decode cX11_count 124 = .ok (.iload_n 2, 1) := by decide +kernel
theorem dX11_count_125 : decode cX11_count 125 = .ok (.ireturn, 1) := by decide +kernel
theorem dX11_count_126 : decode cX11_count 126 = .ok (.aload_n 0, 1) := by decide +kernel
theorem dX11_count_127 : decode cX11_count 127 = .ok (.getfield 85, 3) := by decide +kernel
theorem dX11_count_130 : decode cX11_count 130 = .ok (.ireturn, 1) := by decide +kernel
theorem dX11_count_131 : decode cX11_count 131 = .ok (.ldc 78, 2) := by decide +kernel
theorem dX11_count_133 : decode cX11_count 133 = .ok (.ireturn, 1) := by decide +kernel
theorem dX11_status_0 : decode cX11_status 0 = .ok (.aload_n 0, 1) := by decide +kernel
theorem dX11_status_1 : decode cX11_status 1 = .ok (.iconst 0, 1) := by decide +kernel
theorem dX11_status_2 : decode cX11_status 2 = .ok (.putfield 58, 3) := by decide +kernel
theorem dX11_status_5 : decode cX11_status 5 = .ok (.aload_n 0, 1) := by decide +kernel
theorem dX11_status_6 : decode cX11_status 6 = .ok (.getfield 62, 3) := by decide +kernel
theorem dX11_status_9 : decode cX11_status 9 = .ok (.ireturn, 1) := by decide +kernel
theorem dJ6_bitCount_0f7a4_0 : decode cJ6_bitCount_0f7a4 0 = .ok (.iload_n 0, 1) := by decide +kernel
theorem dJ6_bitCount_0f7a4_1 : decode cJ6_bitCount_0f7a4 1 = .ok (.iload_n 0, 1) := by decide +kernel
theorem dJ6_bitCount_0f7a4_2 : decode cJ6_bitCount_0f7a4 2 = .ok (.iconst 1, 1) := by decide +kernel
theorem dJ6_bitCount_0f7a4_3 : decode cJ6_bitCount_0f7a4 3 = .ok (.iushr, 1) := by decide +kernel
theorem dJ6_bitCount_0f7a4_4 : decode cJ6_bitCount_0f7a4 4 = .ok (.ldc_w 265, 3) := by decide +kernel
theorem dJ6_bitCount_0f7a4_7 : decode cJ6_bitCount_0f7a4 7 = .ok (.iand, 1) := by decide +kernel
theorem dJ6_bitCount_0f7a4_8 : decode cJ6_bitCount_0f7a4 8 = .ok (.isub, 1) := by decide +kernel
theorem dJ6_bitCount_0f7a4_9 : decode cJ6_bitCount_0f7a4 9 = .ok (.istore_n 0, 1) := by decide +kernel
theorem dJ6_bitCount_0f7a4_10 : decode cJ6_bitCount_0f7a4 10 = .ok (.iload_n 0, 1) := by decide +kernel
theorem dJ6_bitCount_0f7a4_11 : decode cJ6_bitCount_0f7a4 11 = .ok (.ldc_w 266, 3) := by decide +kernel
theorem dJ6_bitCount_0f7a4_14 : decode cJ6_bitCount_0f7a4 14 = .ok (.iand, 1) := by decide +kernel
theorem dJ6_bitCount_0f7a4_15 : decode cJ6_bitCount_0f7a4 15 = .ok (.iload_n 0, 1) := by decide +kernel
theorem dJ6_bitCount_0f7a4_16 : decode cJ6_bitCount_0f7a4 16 = .ok (.iconst 2, 1) := by decide +kernel
theorem dJ6_bitCount_0f7a4_17 : decode cJ6_bitCount_0f7a4 17 = .ok (.iushr, 1) := by decide +kernel
theorem dJ6_bitCount_0f7a4_18 : decode cJ6_bitCount_0f7a4 18 = .ok (.ldc_w 266, 3) := by decide +kernel
theorem dJ6_bitCount_0f7a4_21 : decode cJ6_bitCount_0f7a4 21 = .ok (.iand, 1) := by decide +kernel
theorem dJ6_bitCount_0f7a4_22 : decode cJ6_bitCount_0f7a4 22 = .ok (.iadd, 1) := by decide +kernel
theorem dJ6_bitCount_0f7a4_23 : decode cJ6_bitCount_0f7a4 23 = .ok (.istore_n 0, 1) := by decide +kernel
theorem dJ6_bitCount_0f7a4_24 : decode cJ6_bitCount_0f7a4 24 = .ok (.iload_n 0, 1) := by decide +kernel
theorem dJ6_bitCount_0f7a4_25 : decode cJ6_bitCount_0f7a4 25 = .ok (.iload_n 0, 1) := by decide +kernel
theorem dJ6_bitCount_0f7a4_26 : decode cJ6_bitCount_0f7a4 26 = .ok (.iconst 4, 1) := by decide +kernel
theorem dJ6_bitCount_0f7a4_27 : decode cJ6_bitCount_0f7a4 27 = .ok (.iushr, 1) := by decide +kernel
theorem dJ6_bitCount_0f7a4_28 : decode cJ6_bitCount_0f7a4 28 = .ok (.iadd, 1) := by decide +kernel
theorem dJ6_bitCount_0f7a4_29 : decode cJ6_bitCount_0f7a4 29 = .ok (.ldc_w 267, 3) := by decide +kernel
theorem dJ6_bitCount_0f7a4_32 : decode cJ6_bitCount_0f7a4 32 = .ok (.iand, 1) := by decide +kernel
theorem dJ6_bitCount_0f7a4_33 : decode cJ6_bitCount_0f7a4 33 = .ok (.istore_n 0, 1) := by decide +kernel
theorem dJ6_bitCount_0f7a4_34 : decode cJ6_bitCount_0f7a4 34 = .ok (.iload_n 0, 1) := by decide +kernel
theorem dJ6_bitCount_0f7a4_35 : decode cJ6_bitCount_0f7a4 35 = .ok (.iload_n 0, 1) := by decide +kernel
theorem dJ6_bitCount_0f7a4_36 : decode cJ6_bitCount_0f7a4 36 = .ok (.bipush 8, 2) := by decide +kernel
theorem dJ6_bitCount_0f7a4_38 : decode cJ6_bitCount_0f7a4 38 = .ok (.iushr, 1) := by decide +kernel
theorem dJ6_bitCount_0f7a4_39 : decode cJ6_bitCount_0f7a4 39 = .ok (.iadd, 1) := by decide +kernel
theorem dJ6_bitCount_0f7a4_40 : decode cJ6_bitCount_0f7a4 40 = .ok (.istore_n 0, 1) := by decide +kernel
theorem dJ6_bitCount_0f7a4_41 : decode cJ6_bitCount_0f7a4 41 = .ok (.iload_n 0, 1) := by decide +kernel
theorem dJ6_bitCount_0f7a4_42 : decode cJ6_bitCount_0f7a4 42 = .ok (.iload_n 0, 1) := by decide +kernel
theorem dJ6_bitCount_0f7a4_43 : decode cJ6_bitCount_0f7a4 43 = .ok (.bipush 16, 2) := by decide +kernel
theorem dJ6_bitCount_0f7a4_45 : decode cJ6_bitCount_0f7a4 45 = .ok (.iushr, 1) := by decide +kernel
theorem dJ6_bitCount_0f7a4_46 : decode cJ6_bitCount_0f7a4 46 = .ok (.iadd, 1) := by decide +kernel
theorem dJ6_bitCount_0f7a4_47 : decode cJ6_bitCount_0f7a4 47 = .ok (.istore_n 0, 1) := by decide +kernel
theorem dJ6_bitCount_0f7a4_48 : decode cJ6_bitCount_0f7a4 48 = .ok (.iload_n 0, 1) := by decide +kernel
theorem dJ6_bitCount_0f7a4_49 : decode cJ6_bitCount_0f7a4 49 = .ok (.bipush 63, 2) := by decide +kernel
theorem dJ6_bitCount_0f7a4_51 : decode cJ6_bitCount_0f7a4 51 = .ok (.iand, 1) := by decide +kernel
theorem dJ6_bitCount_0f7a4_52 : decode cJ6_bitCount_0f7a4 52 = .ok (.ireturn, 1) := by decide +kernel
theorem dJ9_abs_067f4_0 : decode cJ9_abs_067f4 0 = .ok (.lload_n 0, 1) := by decide +kernel
theorem dJ9_abs_067f4_1 : decode cJ9_abs_067f4 1 = .ok (.lconst 0, 1) := by decide +kernel
theorem dJ9_abs_067f4_2 : decode cJ9_abs_067f4 2 = .ok (.lcmp, 1) := by decide +kernel
theorem dJ9_abs_067f4_3 : decode cJ9_abs_067f4 3 = .ok (.ifCond .ge 8, 3) := by decide +kernel
theorem dJ9_abs_067f4_6 : decode cJ9_abs_067f4 6 = .ok (.lload_n 0, 1) := by decide +kernel
theorem dJ9_abs_067f4_7 : decode cJ9_abs_067f4 7 = .ok (.lneg, 1) := by decide +kernel
theorem dJ9_abs_067f4_8 : decode cJ9_abs_067f4 8 = .ok (.goto 4, 3) := by decide +kernel
theorem dJ9_abs_067f4_11 : decode cJ9_abs_067f4 11 = .ok (.lload_n 0, 1) := by decide +kernel
theorem dJ9_abs_067f4_12 : decode cJ9_abs_067f4 12 = .ok (.lreturn, 1) := by decide +kernel
theorem dJ9_max_7cf53_0 : decode cJ9_max_7cf53 0 = .ok (.iload_n 0, 1) := by decide +kernel
theorem dJ9_max_7cf53_1 : decode cJ9_max_7cf53 1 = .ok (.iload_n 1, 1) := by decide +kernel
theorem dJ9_max_7cf53_2 : decode cJ9_max_7cf53 2 = .ok (.if_icmp .lt 7, 3) := by decide +kernel
theorem dJ9_max_7cf53_5 : decode cJ9_max_7cf53 5 = .ok (.iload_n 0, 1) := by decide +kernel
theorem dJ9_max_7cf53_6 : decode cJ9_max_7cf53 6 = .ok (.goto 4, 3) := by decide +kernel
theorem dJ9_max_7cf53_9 : decode cJ9_max_7cf53 9 = .ok (.iload_n 1, 1) := by decide +kernel
theorem dJ9_max_7cf53_10 : decode cJ9_max_7cf53 10 = .ok (.ireturn, 1) := by decide +kernel
theorem dJ9_min_7cf53_0 : decode cJ9_min_7cf53 0 = .ok (.iload_n 0, 1) := by decide +kernel
theorem dJ9_min_7cf53_1 : decode cJ9_min_7cf53 1 = .ok (.iload_n 1, 1) := by decide +kernel
theorem dJ9_min_7cf53_2 : decode cJ9_min_7cf53 2 = .ok (.if_icmp .gt 7, 3) := by decide +kernel
theorem dJ9_min_7cf53_5 : decode cJ9_min_7cf53 5 = .ok (.iload_n 0, 1) := by decide +kernel
theorem dJ9_min_7cf53_6 : decode cJ9_min_7cf53 6 = .ok (.goto 4, 3) := by decide +kernel
theorem dJ9_min_7cf53_9 : decode cJ9_min_7cf53 9 = .ok (.iload_n 1, 1) := by decide +kernel
theorem dJ9_min_7cf53_10 : decode cJ9_min_7cf53 10 = .ok (.ireturn, 1) := by decide +kernel
set_option maxRecDepth 20000 in
theorem ggJ0_length_8abf5_J0_coder_7d493 : GoodIn wsJ0_length_8abf5 wsJ0_coder_7d493 := goodIn_r _ [6, 7, 8] (by decide +kernel) (by decide +kernel)
set_option maxRecDepth 20000 in
theorem gJ0_length_8abf5_J0_coder_7d493 : GoodIn wsJ0_length_8abf5 (wsV RJ0 335 RJ0 yJ0_coder_7d493 wsJ0_coder_7d493) := goodIn_app (goodIn_of _ (by decide +kernel)) ggJ0_length_8abf5_J0_coder_7d493
theorem dJ0_length_8abf5_0 : decode cJ0_length_8abf5 0 = .ok (.aload_n 0, 1) := by decide +kernel
theorem dJ0_length_8abf5_1 : decode cJ0_length_8abf5 1 = .ok (.getfield 9, 3) := by decide +kernel
theorem dJ0_length_8abf5_4 : decode cJ0_length_8abf5 4 = .ok (.arraylength, 1) := by decide +kernel
theorem dJ0_length_8abf5_5 : decode cJ0_length_8abf5 5 = .ok (.aload_n 0, 1) := by decide +kernel
theorem dJ0_length_8abf5_6 : decode cJ0_length_8abf5 6 = .ok (.invokevirtual 335, 3) := by decide +kernel
theorem dJ0_length_8abf5_9 : decode cJ0_length_8abf5 9 = .ok (.ishr, 1) := by decide +kernel
theorem dJ0_length_8abf5_10 : decode cJ0_length_8abf5 10 = .ok (.ireturn, 1) := by decide +kernel
set_option maxRecDepth 20000 in
theorem ggJ0_charAt_5068e_J0_isLatin1_aae02 : GoodIn wsJ0_charAt_5068e wsJ0_isLatin1_aae02 := goodIn_r _ [6, 7, 8] (by decide +kernel) (by decide +kernel)
set_option maxRecDepth 20000 in
theorem gJ0_charAt_5068e_J0_isLatin1_aae02 : GoodIn wsJ0_charAt_5068e (wsV RJ0 492 RJ0 yJ0_isLatin1_aae02 wsJ0_isLatin1_aae02) := goodIn_app (goodIn_of _ (by decide +kernel)) ggJ0_charAt_5068e_J0_isLatin1_aae02
set_option maxRecDepth 20000 in
theorem ggJ0_charAt_5068e_J1_charAt_3b067 : GoodIn wsJ0_charAt_5068e wsJ1_charAt_3b067 := goodIn_r _ [12, 13, 14, 5, 15, 16, 17, 18, 19, 20] (by decide +kernel) (by decide +kernel)
set_option maxRecDepth 20000 in
theorem gJ0_charAt_5068e_J1_charAt_3b067 : GoodIn wsJ0_charAt_5068e (va_wsS RJ0 495 yJ1_charAt_3b067 wsJ1_charAt_3b067) := goodIn_app (goodIn_of _ (by decide +kernel)) ggJ0_charAt_5068e_J1_charAt_3b067
set_option maxRecDepth 20000 in
theorem ggJ0_charAt_5068e_J2_charAt_3b067 : GoodIn wsJ0_charAt_5068e wsJ2_charAt_3b067 := goodIn_r _ [24, 25, 26, 23, 27, 28, 29, 30, 31, 14, 5, 15, 16, 17, 18, 19, 20, 32, 33, 34, 35, 36, 37] (by decide +kernel) (by decide +kernel)
set_option maxRecDepth 20000 in
theorem gJ0_charAt_5068e_J2_charAt_3b067 : GoodIn wsJ0_charAt_5068e (va_wsS RJ0 498 yJ2_charAt_3b067 wsJ2_charAt_3b067) := goodIn_app (goodIn_of _ (by decide +kernel)) ggJ0_charAt_5068e_J2_charAt_3b067
theorem dJ0_charAt_5068e_0 : decode cJ0_charAt_5068e 0 = .ok (.aload_n 0, 1) := by decide +kernel
theorem dJ0_charAt_5068e_1 : decode cJ0_charAt_5068e 1 = .ok (.invokevirtual 492, 3) := by decide +kernel
theorem dJ0_charAt_5068e_4 : decode cJ0_charAt_5068e 4 = .ok (.ifCond .eq 12, 3) := by decide +kernel
theorem dJ0_charAt_5068e_7 : decode cJ0_charAt_5068e 7 = .ok (.aload_n 0, 1) := by decide +kernel
theorem dJ0_charAt_5068e_8 : decode cJ0_charAt_5068e 8 = .ok (.getfield 9, 3) := by decide +kernel
theorem dJ0_charAt_5068e_11 : decode cJ0_charAt_5068e 11 = .ok (.iload_n 1, 1) := by decide +kernel
theorem dJ0_charAt_5068e_12 : decode cJ0_charAt_5068e 12 = .ok (.invokestatic 495, 3) := by decide +kernel
theorem dJ0_charAt_5068e_15 : decode cJ0_charAt_5068e 15 = .ok (.ireturn, 1) := by decide +kernel
theorem dJ0_charAt_5068e_16 : decode cJ0_charAt_5068e 16 = .ok (.aload_n 0, 1) := by decide +kernel
theorem dJ0_charAt_5068e_17 : decode cJ0_charAt_5068e 17 = .ok (.getfield 9, 3) := by decide +kernel
