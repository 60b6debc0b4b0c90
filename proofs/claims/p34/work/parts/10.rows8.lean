theorem dX11_keep_157 : decode cX11_keep 157 = .ok (.getfield 41, 3) := by decide +kernel
theorem dX11_keep_160 : decode cX11_keep 160 = .ok (.iload_n 2, 1) := by decide +kernel
theorem dX11_keep_161 : decode cX11_keep 161 = .ok (.iaload, 1) := by decide +kernel
theorem dX11_keep_162 : decode cX11_keep 162 = .ok (.invokevirtual 369, 3) := by decide +kernel
theorem dX11_keep_165 : decode cX11_keep 165 = .ok (.iinc 2 1, 3) := by decide +kernel
theorem dX11_keep_168 : decode cX11_keep 168 = .ok (.goto (-19), 3) := by decide +kernel
theorem dX11_keep_171 : decode cX11_keep 171 = .ok (.iconst 0, 1) := by decide +kernel
theorem dX11_keep_172 : decode cX11_keep 172 = .ok (.istore_n 2, 1) := by decide +kernel
theorem dX11_keep_173 : decode cX11_keep 173 = .ok (.iload_n 2, 1) := by decide +kernel
theorem dX11_keep_174 : decode cX11_keep 174 = .ok (.sipush 420, 3) := by decide +kernel
theorem dX11_keep_177 : decode cX11_keep 177 = .ok (.if_icmp .ge 19, 3) := by decide +kernel
theorem dX11_keep_180 : decode cX11_keep 180 = .ok (.aload_n 0, 1) := by decide +kernel
theorem dX11_keep_181 : decode cX11_keep 181 = .ok (.aload_n 0, 1) := by decide +kernel
theorem dX11_keep_182 : decode cX11_keep 182 = .ok (.getfield 84, 3) := by decide +kernel
theorem dX11_keep_185 : decode cX11_keep 185 = .ok (.iload_n 2, 1) := by decide +kernel
theorem dX11_keep_186 : decode cX11_keep 186 = .ok (.iaload, 1) := by decide +kernel
theorem dX11_keep_187 : decode cX11_keep 187 = .ok (.invokevirtual 369, 3) := by decide +kernel
theorem dX11_keep_190 : decode cX11_keep 190 = .ok (.iinc 2 1, 3) := by decide +kernel
theorem dX11_keep_193 : decode cX11_keep 193 = .ok (.goto (-20), 3) := by decide +kernel
theorem dX11_keep_196 : decode cX11_keep 196 = .ok (.iconst 0, 1) := by decide +kernel
theorem dX11_keep_197 : decode cX11_keep 197 = .ok (.istore_n 2, 1) := by decide +kernel
theorem dX11_keep_198 : decode cX11_keep 198 = .ok (.iload_n 2, 1) := by decide +kernel
theorem dX11_keep_199 : decode cX11_keep 199 = .ok (.bipush 6, 2) := by decide +kernel
theorem dX11_keep_201 : decode cX11_keep 201 = .ok (.if_icmp .ge 39, 3) := by decide +kernel
theorem dX11_keep_204 : decode cX11_keep 204 = .ok (.aload_n 0, 1) := by decide +kernel
theorem dX11_keep_205 : decode cX11_keep 205 = .ok (.aload_n 0, 1) := by decide +kernel
theorem dX11_keep_206 : decode cX11_keep 206 = .ok (.getfield 99, 3) := by decide +kernel
theorem dX11_keep_209 : decode cX11_keep 209 = .ok (.iload_n 2, 1) := by decide +kernel
theorem dX11_keep_210 : decode cX11_keep 210 = .ok (.iaload, 1) := by decide +kernel
theorem dX11_keep_211 : decode cX11_keep 211 = .ok (.invokevirtual 369, 3) := by decide +kernel
theorem dX11_keep_214 : decode cX11_keep 214 = .ok (.aload_n 0, 1) := by decide +kernel
theorem dX11_keep_215 : decode cX11_keep 215 = .ok (.aload_n 0, 1) := by decide +kernel
theorem dX11_keep_216 : decode cX11_keep 216 = .ok (.getfield 102, 3) := by decide +kernel
theorem dX11_keep_219 : decode cX11_keep 219 = .ok (.iload_n 2, 1) := by decide +kernel
theorem dX11_keep_220 : decode cX11_keep 220 = .ok (.iaload, 1) := by decide +kernel
theorem dX11_keep_221 : decode cX11_keep 221 = .ok (.invokevirtual 369, 3) := by decide +kernel
theorem dX11_keep_224 : decode cX11_keep 224 = .ok (.aload_n 0, 1) := by decide +kernel
theorem dX11_keep_225 : decode cX11_keep 225 = .ok (.aload_n 0, 1) := by decide +kernel
theorem dX11_keep_226 : decode cX11_keep 226 = .ok (.getfield 105, 3) := by decide +kernel
theorem dX11_keep_229 : decode cX11_keep 229 = .ok (.iload_n 2, 1) := by decide +kernel
theorem dX11_keep_230 : decode cX11_keep 230 = .ok (.iaload, 1) := by decide +kernel
theorem dX11_keep_231 : decode cX11_keep 231 = .ok (.invokevirtual 369, 3) := by decide +kernel
theorem dX11_keep_234 : decode cX11_keep 234 = .ok (.iinc 2 1, 3) := by decide +kernel
theorem dX11_keep_237 : decode cX11_keep 237 = .ok (.goto (-39), 3) := by decide +kernel
theorem dX11_keep_240 : decode cX11_keep 240 = .ok (.iconst 0, 1) := by decide +kernel
theorem dX11_keep_241 : decode cX11_keep 241 = .ok (.istore_n 2, 1) := by decide +kernel
theorem dX11_keep_242 : decode cX11_keep 242 = .ok (.iload_n 2, 1) := by decide +kernel
theorem dX11_keep_243 : decode cX11_keep 243 = .ok (.bipush 60, 2) := by decide +kernel
theorem dX11_keep_245 : decode cX11_keep 245 = .ok (.if_icmp .ge 69, 3) := by decide +kernel
theorem dX11_keep_248 : decode cX11_keep 248 = .ok (.aload_n 0, 1) := by decide +kernel
theorem dX11_keep_249 : decode cX11_keep 249 = .ok (.aload_n 0, 1) := by decide +kernel
theorem dX11_keep_250 : decode cX11_keep 250 = .ok (.getfield 75, 3) := by decide +kernel
theorem dX11_keep_253 : decode cX11_keep 253 = .ok (.iload_n 2, 1) := by decide +kernel
theorem dX11_keep_254 : decode cX11_keep 254 = .ok (.iaload, 1) := by decide +kernel
theorem dX11_keep_255 : decode cX11_keep 255 = .ok (.invokevirtual 369, 3) := by decide +kernel
theorem dX11_keep_258 : decode cX11_keep 258 = .ok (.aload_n 0, 1) := by decide +kernel
theorem dX11_keep_259 : decode cX11_keep 259 = .ok (.aload_n 0, 1) := by decide +kernel
theorem dX11_keep_260 : decode cX11_keep 260 = .ok (.getfield 78, 3) := by decide +kernel
theorem dX11_keep_263 : decode cX11_keep 263 = .ok (.iload_n 2, 1) := by decide +kernel
theorem dX11_keep_264 : decode cX11_keep 264 = .ok (.iaload, 1) := by decide +kernel
theorem dX11_keep_265 : decode cX11_keep 265 = .ok (.invokevirtual 369, 3) := by decide +kernel
theorem dX11_keep_268 : decode cX11_keep 268 = .ok (.aload_n 0, 1) := by decide +kernel
theorem dX11_keep_269 : decode cX11_keep 269 = .ok (.aload_n 0, 1) := by decide +kernel
theorem dX11_keep_270 : decode cX11_keep 270 = .ok (.getfield 81, 3) := by decide +kernel
theorem dX11_keep_273 : decode cX11_keep 273 = .ok (.iconst 3, 1) := by decide +kernel
theorem dX11_keep_274 : decode cX11_keep 274 = .ok (.iload_n 2, 1) := by decide +kernel
theorem dX11_keep_275 : decode cX11_keep 275 = .ok (.imul, 1) := by decide +kernel
theorem dX11_keep_276 : decode cX11_keep 276 = .ok (.iaload, 1) := by decide +kernel
theorem dX11_keep_277 : decode cX11_keep 277 = .ok (.invokevirtual 369, 3) := by decide +kernel
theorem dX11_keep_280 : decode cX11_keep 280 = .ok (.aload_n 0, 1) := by decide +kernel
theorem dX11_keep_281 : decode cX11_keep 281 = .ok (.aload_n 0, 1) := by decide +kernel
theorem dX11_keep_282 : decode cX11_keep 282 = .ok (.getfield 81, 3) := by decide +kernel
theorem dX11_keep_285 : decode cX11_keep 285 = .ok (.iconst 3, 1) := by decide +kernel
theorem dX11_keep_286 : decode cX11_keep 286 = .ok (.iload_n 2, 1) := by decide +kernel
theorem dX11_keep_287 : decode cX11_keep 287 = .ok (.imul, 1) := by decide +kernel
theorem dX11_keep_288 : decode cX11_keep 288 = .ok (.iconst 1, 1) := by decide +kernel
theorem dX11_keep_289 : decode cX11_keep 289 = .ok (.iadd, 1) := by decide +kernel
theorem dX11_keep_290 : decode cX11_keep 290 = .ok (.iaload, 1) := by decide +kernel
theorem dX11_keep_291 : decode cX11_keep 291 = .ok (.invokevirtual 369, 3) := by decide +kernel
theorem dX11_keep_294 : decode cX11_keep 294 = .ok (.aload_n 0, 1) := by decide +kernel
theorem dX11_keep_295 : decode cX11_keep 295 = .ok (.aload_n 0, 1) := by decide +kernel
theorem dX11_keep_296 : decode cX11_keep 296 = .ok (.getfield 81, 3) := by decide +kernel
theorem dX11_keep_299 : decode cX11_keep 299 = .ok (.iconst 3, 1) := by decide +kernel
theorem dX11_keep_300 : decode cX11_keep 300 = .ok (.iload_n 2, 1) := by decide +kernel
theorem dX11_keep_301 : decode cX11_keep 301 = .ok (.imul, 1) := by decide +kernel
theorem dX11_keep_302 : decode cX11_keep 302 = .ok (.iconst 2, 1) := by decide +kernel
theorem dX11_keep_303 : decode cX11_keep 303 = .ok (.iadd, 1) := by decide +kernel
theorem dX11_keep_304 : decode cX11_keep 304 = .ok (.iaload, 1) := by decide +kernel
theorem dX11_keep_305 : decode cX11_keep 305 = .ok (.invokevirtual 369, 3) := by decide +kernel
theorem dX11_keep_308 : decode cX11_keep 308 = .ok (.iinc 2 1, 3) := by decide +kernel
theorem dX11_keep_311 : decode cX11_keep 311 = .ok (.goto (-69), 3) := by decide +kernel
theorem dX11_keep_314 : decode cX11_keep 314 = .ok (.aload_n 0, 1) := by decide +kernel
theorem dX11_keep_315 : decode cX11_keep 315 = .ok (.getfield 115, 3) := by decide +kernel
theorem dX11_keep_318 : decode cX11_keep 318 = .ok (.iload_n 1, 1) := by decide +kernel
theorem dX11_keep_319 : decode cX11_keep 319 = .ok (.iconst 1, 1) := by decide +kernel
theorem dX11_keep_320 : decode cX11_keep 320 = .ok (.bastore, 1) := by decide +kernel
theorem dX11_keep_321 : decode cX11_keep 321 = .ok (.iconst 1, 1) := by decide +kernel
theorem dX11_keep_322 : decode cX11_keep 322 = .ok (.ireturn, 1) := by decide +kernel
set_option maxRecDepth 20000 in
theorem ggX11_goBack_X11_in : GoodIn wsX11_goBack wsX11_in := goodIn_r _ [26] (by decide +kernel) (by decide +kernel)
set_option maxRecDepth 20000 in
theorem gX11_goBack_X11_in : GoodIn wsX11_goBack (va_wsS RX11 126 yX11_in wsX11_in) := goodIn_app (goodIn_of _ (by decide +kernel)) ggX11_goBack_X11_in
set_option maxRecDepth 20000 in
theorem ggX11_goBack_X11_noted : GoodIn wsX11_goBack wsX11_noted := goodIn_r _ [30, 1, 31, 32, 33, 34, 35, 36, 37, 38, 39, 40, 41, 42, 43, 44, 45, 46, 47, 48, 49, 50, 51, 52, 53, 54, 55, 56, 57, 58, 59, 60, 61, 62, 63, 64, 65, 66, 67, 68, 69, 70, 71, 72, 73, 74, 75, 76, 77, 78, 79, 80, 81, 82, 83, 84, 85, 86, 87, 88, 89] (by decide +kernel) (by decide +kernel)
set_option maxRecDepth 20000 in
theorem gX11_goBack_X11_noted : GoodIn wsX11_goBack (wsV RX11 372 RX11 yX11_noted wsX11_noted) := goodIn_app (goodIn_of _ (by decide +kernel)) ggX11_goBack_X11_noted
theorem dX11_goBack_0 : decode cX11_goBack 0 = .ok (.iload_n 1, 1) := by decide +kernel
theorem dX11_goBack_1 : decode cX11_goBack 1 = .ok (.i2l, 1) := by decide +kernel
theorem dX11_goBack_2 : decode cX11_goBack 2 = .ok (.lconst 0, 1) := by decide +kernel
theorem dX11_goBack_3 : decode cX11_goBack 3 = .ok (.lconst 1, 1) := by decide +kernel
theorem dX11_goBack_4 : decode cX11_goBack 4 = .ok (.invokestatic 126, 3) := by decide +kernel
theorem dX11_goBack_7 : decode cX11_goBack 7 = .ok (.ifCond .ne 7, 3) := by decide +kernel
theorem dX11_goBack_10 : decode cX11_goBack 10 = .ok (.sipush (-1001), 3) := by decide +kernel
theorem dX11_goBack_13 : decode cX11_goBack 13 = .ok (.ireturn, 1) := by decide +kernel
theorem dX11_goBack_14 : decode cX11_goBack 14 = .ok (.aload_n 0, 1) := by decide +kernel
theorem dX11_goBack_15 : decode cX11_goBack 15 = .ok (.sipush 900, 3) := by decide +kernel
theorem dX11_goBack_18 : decode cX11_goBack 18 = .ok (.iload_n 1, 1) := by decide +kernel
theorem dX11_goBack_19 : decode cX11_goBack 19 = .ok (.imul, 1) := by decide +kernel
theorem dX11_goBack_20 : decode cX11_goBack 20 = .ok (.putfield 366, 3) := by decide +kernel
theorem dX11_goBack_23 : decode cX11_goBack 23 = .ok (.aload_n 0, 1) := by decide +kernel
theorem dX11_goBack_24 : decode cX11_goBack 24 = .ok (.getfield 115, 3) := by decide +kernel
theorem dX11_goBack_27 : decode cX11_goBack 27 = .ok (.iload_n 1, 1) := by decide +kernel
theorem dX11_goBack_28 : decode cX11_goBack 28 = .ok (.baload, 1) := by decide +kernel
theorem dX11_goBack_29 : decode cX11_goBack 29 = .ok (.ifCond .eq 14, 3) := by decide +kernel
theorem dX11_goBack_32 : decode cX11_goBack 32 = .ok (.aload_n 0, 1) := by decide +kernel
theorem dX11_goBack_33 : decode cX11_goBack 33 = .ok (.invokevirtual 372, 3) := by decide +kernel
theorem dX11_goBack_36 : decode cX11_goBack 36 = .ok (.aload_n 0, 1) := by decide +kernel
theorem dX11_goBack_37 : decode cX11_goBack 37 = .ok (.getfield 224, 3) := by decide +kernel
theorem dX11_goBack_40 : decode cX11_goBack 40 = .ok (.if_icmp .eq 7, 3) := by decide +kernel
theorem dX11_goBack_43 : decode cX11_goBack 43 = .ok (.sipush (-1003), 3) := by decide +kernel
theorem dX11_goBack_46 : decode cX11_goBack 46 = .ok (.ireturn, 1) := by decide +kernel
theorem dX11_goBack_47 : decode cX11_goBack 47 = .ok (.aload_n 0, 1) := by decide +kernel
theorem dX11_goBack_48 : decode cX11_goBack 48 = .ok (.aload_n 0, 1) := by decide +kernel
theorem dX11_goBack_49 : decode cX11_goBack 49 = .ok (.invokevirtual 372, 3) := by decide +kernel
theorem dX11_goBack_52 : decode cX11_goBack 52 = .ok (.putfield 227, 3) := by decide +kernel
theorem dX11_goBack_55 : decode cX11_goBack 55 = .ok (.aload_n 0, 1) := by decide +kernel
theorem dX11_goBack_56 : decode cX11_goBack 56 = .ok (.aload_n 0, 1) := by decide +kernel
theorem dX11_goBack_57 : decode cX11_goBack 57 = .ok (.invokevirtual 372, 3) := by decide +kernel
theorem dX11_goBack_60 : decode cX11_goBack 60 = .ok (.putfield 215, 3) := by decide +kernel
theorem dX11_goBack_63 : decode cX11_goBack 63 = .ok (.aload_n 0, 1) := by decide +kernel
theorem dX11_goBack_64 : decode cX11_goBack 64 = .ok (.aload_n 0, 1) := by decide +kernel
theorem dX11_goBack_65 : decode cX11_goBack 65 = .ok (.invokevirtual 372, 3) := by decide +kernel
theorem dX11_goBack_68 : decode cX11_goBack 68 = .ok (.putfield 238, 3) := by decide +kernel
theorem dX11_goBack_71 : decode cX11_goBack 71 = .ok (.aload_n 0, 1) := by decide +kernel
theorem dX11_goBack_72 : decode cX11_goBack 72 = .ok (.aload_n 0, 1) := by decide +kernel
theorem dX11_goBack_73 : decode cX11_goBack 73 = .ok (.invokevirtual 372, 3) := by decide +kernel
theorem dX11_goBack_76 : decode cX11_goBack 76 = .ok (.putfield 241, 3) := by decide +kernel
theorem dX11_goBack_79 : decode cX11_goBack 79 = .ok (.iconst 0, 1) := by decide +kernel
theorem dX11_goBack_80 : decode cX11_goBack 80 = .ok (.istore_n 2, 1) := by decide +kernel
theorem dX11_goBack_81 : decode cX11_goBack 81 = .ok (.iload_n 2, 1) := by decide +kernel
theorem dX11_goBack_82 : decode cX11_goBack 82 = .ok (.bipush 16, 2) := by decide +kernel
theorem dX11_goBack_84 : decode cX11_goBack 84 = .ok (.if_icmp .ge 79, 3) := by decide +kernel
theorem dX11_goBack_87 : decode cX11_goBack 87 = .ok (.aload_n 0, 1) := by decide +kernel
theorem dX11_goBack_88 : decode cX11_goBack 88 = .ok (.getfield 44, 3) := by decide +kernel
theorem dX11_goBack_91 : decode cX11_goBack 91 = .ok (.iload_n 2, 1) := by decide +kernel
theorem dX11_goBack_92 : decode cX11_goBack 92 = .ok (.aload_n 0, 1) := by decide +kernel
theorem dX11_goBack_93 : decode cX11_goBack 93 = .ok (.invokevirtual 372, 3) := by decide +kernel
theorem dX11_goBack_96 : decode cX11_goBack 96 = .ok (.iastore, 1) := by decide +kernel
theorem dX11_goBack_97 : decode cX11_goBack 97 = .ok (.aload_n 0, 1) := by decide +kernel
theorem dX11_goBack_98 : decode cX11_goBack 98 = .ok (.getfield 47, 3) := by decide +kernel
theorem dX11_goBack_101 : decode cX11_goBack 101 = .ok (.iload_n 2, 1) := by decide +kernel
theorem dX11_goBack_102 : decode cX11_goBack 102 = .ok (.aload_n 0, 1) := by decide +kernel
theorem dX11_goBack_103 : decode cX11_goBack 103 = .ok (.invokevirtual 372, 3) := by decide +kernel
theorem dX11_goBack_106 : decode cX11_goBack 106 = .ok (.iastore, 1) := by decide +kernel
theorem dX11_goBack_107 : decode cX11_goBack 107 = .ok (.aload_n 0, 1) := by decide +kernel
theorem dX11_goBack_108 : decode cX11_goBack 108 = .ok (.getfield 50, 3) := by decide +kernel
theorem dX11_goBack_111 : decode cX11_goBack 111 = .ok (.iload_n 2, 1) := by decide +kernel
theorem dX11_goBack_112 : decode cX11_goBack 112 = .ok (.aload_n 0, 1) := by decide +kernel
theorem dX11_goBack_113 : decode cX11_goBack 113 = .ok (.invokevirtual 372, 3) := by decide +kernel
theorem dX11_goBack_116 : decode cX11_goBack 116 = .ok (.iastore, 1) := by decide +kernel
theorem dX11_goBack_117 : decode cX11_goBack 117 = .ok (.aload_n 0, 1) := by decide +kernel
theorem dX11_goBack_118 : decode cX11_goBack 118 = .ok (.getfield 53, 3) := by decide +kernel
theorem dX11_goBack_121 : decode cX11_goBack 121 = .ok (.iload_n 2, 1) := by decide +kernel
theorem dX11_goBack_122 : decode cX11_goBack 122 = .ok (.aload_n 0, 1) := by decide +kernel
theorem dX11_goBack_123 : decode cX11_goBack 123 = .ok (.invokevirtual 372, 3) := by decide +kernel
theorem dX11_goBack_126 : decode cX11_goBack 126 = .ok (.iastore, 1) := by decide +kernel
theorem dX11_goBack_127 : decode cX11_goBack 127 = .ok (.aload_n 0, 1) := by decide +kernel
theorem dX11_goBack_128 : decode cX11_goBack 128 = .ok (.getfield 56, 3) := by decide +kernel
theorem dX11_goBack_131 : decode cX11_goBack 131 = .ok (.iload_n 2, 1) := by decide +kernel
theorem dX11_goBack_132 : decode cX11_goBack 132 = .ok (.aload_n 0, 1) := by decide +kernel
theorem dX11_goBack_133 : decode cX11_goBack 133 = .ok (.invokevirtual 372, 3) := by decide +kernel
theorem dX11_goBack_136 : decode cX11_goBack 136 = .ok (.iastore, 1) := by decide +kernel
theorem dX11_goBack_137 : decode cX11_goBack 137 = .ok (.aload_n 0, 1) := by decide +kernel
theorem dX11_goBack_138 : decode cX11_goBack 138 = .ok (.getfield 59, 3) := by decide +kernel
theorem dX11_goBack_141 : decode cX11_goBack 141 = .ok (.iload_n 2, 1) := by decide +kernel
theorem dX11_goBack_142 : decode cX11_goBack 142 = .ok (.aload_n 0, 1) := by decide +kernel
theorem dX11_goBack_143 : decode cX11_goBack 143 = .ok (.invokevirtual 372, 3) := by decide +kernel
theorem dX11_goBack_146 : decode cX11_goBack 146 = .ok (.iastore, 1) := by decide +kernel
theorem dX11_goBack_147 : decode cX11_goBack 147 = .ok (.aload_n 0, 1) := by decide +kernel
theorem dX11_goBack_148 : decode cX11_goBack 148 = .ok (.getfield 62, 3) := by decide +kernel
theorem dX11_goBack_151 : decode cX11_goBack 151 = .ok (.iload_n 2, 1) := by decide +kernel
theorem dX11_goBack_152 : decode cX11_goBack 152 = .ok (.aload_n 0, 1) := by decide +kernel
theorem dX11_goBack_153 : decode cX11_goBack 153 = .ok (.invokevirtual 372, 3) := by decide +kernel
theorem dX11_goBack_156 : decode cX11_goBack 156 = .ok (.iastore, 1) := by decide +kernel
theorem dX11_goBack_157 : decode cX11_goBack 157 = .ok (.iinc 2 1, 3) := by decide +kernel
theorem dX11_goBack_160 : decode cX11_goBack 160 = .ok (.goto (-79), 3) := by decide +kernel
theorem dX11_goBack_163 : decode cX11_goBack 163 = .ok (.iconst 0, 1) := by decide +kernel
theorem dX11_goBack_164 : decode cX11_goBack 164 = .ok (.istore_n 2, 1) := by decide +kernel
theorem dX11_goBack_165 : decode cX11_goBack 165 = .ok (.iload_n 2, 1) := by decide +kernel
theorem dX11_goBack_166 : decode cX11_goBack 166 = .ok (.bipush 24, 2) := by decide +kernel
theorem dX11_goBack_168 : decode cX11_goBack 168 = .ok (.if_icmp .ge 19, 3) := by decide +kernel
theorem dX11_goBack_171 : decode cX11_goBack 171 = .ok (.aload_n 0, 1) := by decide +kernel
theorem dX11_goBack_172 : decode cX11_goBack 172 = .ok (.getfield 41, 3) := by decide +kernel
theorem dX11_goBack_175 : decode cX11_goBack 175 = .ok (.iload_n 2, 1) := by decide +kernel
theorem dX11_goBack_176 : decode cX11_goBack 176 = .ok (.aload_n 0, 1) := by decide +kernel
theorem dX11_goBack_177 : decode cX11_goBack 177 = .ok (.invokevirtual 372, 3) := by decide +kernel
theorem dX11_goBack_180 : decode cX11_goBack 180 = .ok (.iastore, 1) := by decide +kernel
theorem dX11_goBack_181 : decode cX11_goBack 181 = .ok (.iinc 2 1, 3) := by decide +kernel
theorem dX11_goBack_184 : decode cX11_goBack 184 = .ok (.goto (-19), 3) := by decide +kernel
theorem dX11_goBack_187 : decode cX11_goBack 187 = .ok (.iconst 0, 1) := by decide +kernel
theorem dX11_goBack_188 : decode cX11_goBack 188 = .ok (.istore_n 2, 1) := by decide +kernel
theorem dX11_goBack_189 : decode cX11_goBack 189 = .ok (.iload_n 2, 1) := by decide +kernel
theorem dX11_goBack_190 : decode cX11_goBack 190 = .ok (.sipush 420, 3) := by decide +kernel
theorem dX11_goBack_193 : decode cX11_goBack 193 = .ok (.if_icmp .ge 19, 3) := by decide +kernel
theorem dX11_goBack_196 : decode cX11_goBack 196 = .ok (.aload_n 0, 1) := by decide +kernel
theorem dX11_goBack_197 : decode cX11_goBack 197 = .ok (.getfield 84, 3) := by decide +kernel
theorem dX11_goBack_200 : decode cX11_goBack 200 = .ok (.iload_n 2, 1) := by decide +kernel
theorem dX11_goBack_201 : decode cX11_goBack 201 = .ok (.aload_n 0, 1) := by decide +kernel
theorem dX11_goBack_202 : decode cX11_goBack 202 = .ok (.invokevirtual 372, 3) := by decide +kernel
theorem dX11_goBack_205 : decode cX11_goBack 205 = .ok (.iastore, 1) := by decide +kernel
theorem dX11_goBack_206 : decode cX11_goBack 206 = .ok (.iinc 2 1, 3) := by decide +kernel
theorem dX11_goBack_209 : decode cX11_goBack 209 = .ok (.goto (-20), 3) := by decide +kernel
theorem dX11_goBack_212 : decode cX11_goBack 212 = .ok (.iconst 0, 1) := by decide +kernel
theorem dX11_goBack_213 : decode cX11_goBack 213 = .ok (.istore_n 2, 1) := by decide +kernel
theorem dX11_goBack_214 : decode cX11_goBack 214 = .ok (.iload_n 2, 1) := by decide +kernel
theorem dX11_goBack_215 : decode cX11_goBack 215 = .ok (.bipush 6, 2) := by decide +kernel
theorem dX11_goBack_217 : decode cX11_goBack 217 = .ok (.if_icmp .ge 39, 3) := by decide +kernel
theorem dX11_goBack_220 : decode cX11_goBack 220 = .ok (.aload_n 0, 1) := by decide +kernel
theorem dX11_goBack_221 : decode cX11_goBack 221 = .ok (.getfield 99, 3) := by decide +kernel
theorem dX11_goBack_224 : decode cX11_goBack 224 = .ok (.iload_n 2, 1) := by decide +kernel
theorem dX11_goBack_225 : decode cX11_goBack 225 = .ok (.aload_n 0, 1) := by decide +kernel
theorem dX11_goBack_226 : decode cX11_goBack 226 = .ok (.invokevirtual 372, 3) := by decide +kernel
theorem dX11_goBack_229 : decode cX11_goBack 229 = .ok (.iastore, 1) := by decide +kernel
theorem dX11_goBack_230 : decode cX11_goBack 230 = .ok (.aload_n 0, 1) := by decide +kernel
theorem dX11_goBack_231 : decode cX11_goBack 231 = .ok (.getfield 102, 3) := by decide +kernel
theorem dX11_goBack_234 : decode cX11_goBack 234 = .ok (.iload_n 2, 1) := by decide +kernel
theorem dX11_goBack_235 : decode cX11_goBack 235 = .ok (.aload_n 0, 1) := by decide +kernel
theorem dX11_goBack_236 : decode cX11_goBack 236 = .ok (.invokevirtual 372, 3) := by decide +kernel
theorem dX11_goBack_239 : decode cX11_goBack 239 = .ok (.iastore, 1) := by decide +kernel
theorem dX11_goBack_240 : decode cX11_goBack 240 = .ok (.aload_n 0, 1) := by decide +kernel
theorem dX11_goBack_241 : decode cX11_goBack 241 = .ok (.getfield 105, 3) := by decide +kernel
theorem dX11_goBack_244 : decode cX11_goBack 244 = .ok (.iload_n 2, 1) := by decide +kernel
theorem dX11_goBack_245 : decode cX11_goBack 245 = .ok (.aload_n 0, 1) := by decide +kernel
theorem dX11_goBack_246 : decode cX11_goBack 246 = .ok (.invokevirtual 372, 3) := by decide +kernel
theorem dX11_goBack_249 : decode cX11_goBack 249 = .ok (.iastore, 1) := by decide +kernel
theorem dX11_goBack_250 : decode cX11_goBack 250 = .ok (.iinc 2 1, 3) := by decide +kernel
theorem dX11_goBack_253 : decode cX11_goBack 253 = .ok (.goto (-39), 3) := by decide +kernel
theorem dX11_goBack_256 : decode cX11_goBack 256 = .ok (.iconst 0, 1) := by decide +kernel
theorem dX11_goBack_257 : decode cX11_goBack 257 = .ok (.istore_n 2, 1) := by decide +kernel
theorem dX11_goBack_258 : decode cX11_goBack 258 = .ok (.iload_n 2, 1) := by decide +kernel
theorem dX11_goBack_259 : decode cX11_goBack 259 = .ok (.bipush 60, 2) := by decide +kernel
theorem dX11_goBack_261 : decode cX11_goBack 261 = .ok (.if_icmp .ge 69, 3) := by decide +kernel
theorem dX11_goBack_264 : decode cX11_goBack 264 = .ok (.aload_n 0, 1) := by decide +kernel
theorem dX11_goBack_265 : decode cX11_goBack 265 = .ok (.getfield 75, 3) := by decide +kernel
theorem dX11_goBack_268 : decode cX11_goBack 268 = .ok (.iload_n 2, 1) := by decide +kernel
theorem dX11_goBack_269 : decode cX11_goBack 269 = .ok (.aload_n 0, 1) := by decide +kernel
theorem dX11_goBack_270 : decode cX11_goBack 270 = .ok (.invokevirtual 372, 3) := by decide +kernel
theorem dX11_goBack_273 : decode cX11_goBack 273 = .ok (.iastore, 1) := by decide +kernel
theorem dX11_goBack_274 : decode cX11_goBack 274 = .ok (.aload_n 0, 1) := by decide +kernel
theorem dX11_goBack_275 : decode cX11_goBack 275 = .ok (.getfield 78, 3) := by decide +kernel
theorem dX11_goBack_278 : decode cX11_goBack 278 = .ok (.iload_n 2, 1) := by decide +kernel
theorem dX11_goBack_279 : decode cX11_goBack 279 = .ok (.aload_n 0, 1) := by decide +kernel
theorem dX11_goBack_280 : decode cX11_goBack 280 = .ok (.invokevirtual 372, 3) := by decide +kernel
theorem dX11_goBack_283 : decode cX11_goBack 283 = .ok (.iastore, 1) := by decide +kernel
theorem dX11_goBack_284 : decode cX11_goBack 284 = .ok (.aload_n 0, 1) := by decide +kernel
theorem dX11_goBack_285 : decode cX11_goBack 285 = .ok (.getfield 81, 3) := by decide +kernel
theorem dX11_goBack_288 : decode cX11_goBack 288 = .ok (.iconst 3, 1) := by decide +kernel
theorem dX11_goBack_289 : decode cX11_goBack 289 = .ok (.iload_n 2, 1) := by decide +kernel
theorem dX11_goBack_290 : decode cX11_goBack 290 = .ok (.imul, 1) := by decide +kernel
theorem dX11_goBack_291 : decode cX11_goBack 291 = .ok (.aload_n 0, 1) := by decide +kernel
theorem dX11_goBack_292 : decode cX11_goBack 292 = .ok (.invokevirtual 372, 3) := by decide +kernel
theorem dX11_goBack_295 : decode cX11_goBack 295 = .ok (.iastore, 1) := by decide +kernel
theorem dX11_goBack_296 : decode cX11_goBack 296 = .ok (.aload_n 0, 1) := by decide +kernel
theorem dX11_goBack_297 : decode cX11_goBack 297 = .ok (.getfield 81, 3) := by decide +kernel
theorem dX11_goBack_300 : decode cX11_goBack 300 = .ok (.iconst 3, 1) := by decide +kernel
theorem dX11_goBack_301 : decode cX11_goBack 301 = .ok (.iload_n 2, 1) := by decide +kernel
theorem dX11_goBack_302 : decode cX11_goBack 302 = .ok (.imul, 1) := by decide +kernel
theorem dX11_goBack_303 : decode cX11_goBack 303 = .ok (.iconst 1, 1) := by decide +kernel
theorem dX11_goBack_304 : decode cX11_goBack 304 = .ok (.iadd, 1) := by decide +kernel
theorem dX11_goBack_305 : decode cX11_goBack 305 = .ok (.aload_n 0, 1) := by decide +kernel
theorem dX11_goBack_306 : decode cX11_goBack 306 = .ok (.invokevirtual 372, 3) := by decide +kernel
theorem dX11_goBack_309 : decode cX11_goBack 309 = .ok (.iastore, 1) := by decide +kernel
theorem dX11_goBack_310 : decode cX11_goBack 310 = .ok (.aload_n 0, 1) := by decide +kernel
theorem dX11_goBack_311 : decode cX11_goBack 311 = .ok (.getfield 81, 3) := by decide +kernel
theorem dX11_goBack_314 : decode cX11_goBack 314 = .ok (.iconst 3, 1) := by decide +kernel
theorem dX11_goBack_315 : decode cX11_goBack 315 = .ok (.iload_n 2, 1) := by decide +kernel
theorem dX11_goBack_316 : decode cX11_goBack 316 = .ok (.imul, 1) := by decide +kernel
theorem dX11_goBack_317 : decode cX11_goBack 317 = .ok (.iconst 2, 1) := by decide +kernel
theorem dX11_goBack_318 : decode cX11_goBack 318 = .ok (.iadd, 1) := by decide +kernel
theorem dX11_goBack_319 : decode cX11_goBack 319 = .ok (.aload_n 0, 1) := by decide +kernel
theorem dX11_goBack_320 : decode cX11_goBack 320 = .ok (.invokevirtual 372, 3) := by decide +kernel
theorem dX11_goBack_323 : decode cX11_goBack 323 = .ok (.iastore, 1) := by decide +kernel
theorem dX11_goBack_324 : decode cX11_goBack 324 = .ok (.iinc 2 1, 3) := by decide +kernel
theorem dX11_goBack_327 : decode cX11_goBack 327 = .ok (.goto (-69), 3) := by decide +kernel
theorem dX11_goBack_330 : decode cX11_goBack 330 = .ok (.iconst 1, 1) := by decide +kernel
theorem dX11_goBack_331 : decode cX11_goBack 331 = .ok (.ireturn, 1) := by decide +kernel
theorem dJ6_bitCount_0f7a4_0 : decode cJ6_bitCount_0f7a4 0 = .ok (.iload_n 0, 1) := by decide +kernel
theorem dJ6_bitCount_0f7a4_1 : decode cJ6_bitCount_0f7a4 1 = .ok (.iload_n 0, 1) := by decide +kernel
theorem dJ6_bitCount_0f7a4_2 : decode cJ6_bitCount_0f7a4 2 = .ok (.iconst 1, 1) := by decide +kernel
theorem dJ6_bitCount_0f7a4_3 : decode cJ6_bitCount_0f7a4 3 = .ok (.iushr, 1) := by decide +kernel
theorem dJ6_bitCount_0f7a4_4 : decode cJ6_bitCount_0f7a4 4 = .ok (.ldc_w 265, 3) := by decide +kernel
theorem dJ6_bitCount_0f7a4_7 : decode cJ6_bitCount_0f7a4 7 = .ok (.iand, 1) := by decide +kernel
theorem dJ6_bitCount_0f7a4_8 : decode cJ6_bitCount_0f7a4 8 = .ok (.isub, 1) := by decide +kernel
theorem dJ6_bitCount_0f7a4_9 : decode cJ6_bitCount_0f7a4 9 = .ok (.istore_n 0, 1) := by decide +kernel
theorem dJ6_bitCount_0f7a4_10 : decode cJ6_bitCount_0f7a4 10 = .ok (.iload_n 0, 1) := by decide +kernel
theorem dJ6_bitCount_0f7a4_11 : decode cJ6_bitCount_0f7a4 11 = .ok (.ldc_w 266, 3) := by decide +kernel
theorem dJ6_bitCount_0f7a4_14 : decode cJ6_bitCount_0f7a4 14 = .ok (.iand, 1) := by decide +kernel
theorem dJ6_bitCount_0f7a4_15 : decode cJ6_bitCount_0f7a4 15 = .ok (.iload_n 0, 1) := by decide +kernel
theorem dJ6_bitCount_0f7a4_16 : decode cJ6_bitCount_0f7a4 16 = .ok (.iconst 2, 1) := by decide +kernel
theorem dJ6_bitCount_0f7a4_17 : decode cJ6_bitCount_0f7a4 17 = .ok (.iushr, 1) := by decide +kernel
theorem dJ6_bitCount_0f7a4_18 : decode cJ6_bitCount_0f7a4 18 = .ok (.ldc_w 266, 3) := by decide +kernel
theorem dJ6_bitCount_0f7a4_21 : decode cJ6_bitCount_0f7a4 21 = .ok (.iand, 1) := by decide +kernel
theorem dJ6_bitCount_0f7a4_22 : decode cJ6_bitCount_0f7a4 22 = .ok (.iadd, 1) := by decide +kernel
theorem dJ6_bitCount_0f7a4_23 : decode cJ6_bitCount_0f7a4 23 = .ok (.istore_n 0, 1) := by decide +kernel
theorem dJ6_bitCount_0f7a4_24 : decode cJ6_bitCount_0f7a4 24 = .ok (.iload_n 0, 1) := by decide +kernel
theorem dJ6_bitCount_0f7a4_25 : decode cJ6_bitCount_0f7a4 25 = .ok (.iload_n 0, 1) := by decide +kernel
theorem dJ6_bitCount_0f7a4_26 : decode cJ6_bitCount_0f7a4 26 = .ok (.iconst 4, 1) := by decide +kernel
theorem dJ6_bitCount_0f7a4_27 : decode cJ6_bitCount_0f7a4 27 = .ok (.iushr, 1) := by decide +kernel
theorem dJ6_bitCount_0f7a4_28 : decode cJ6_bitCount_0f7a4 28 = .ok (.iadd, 1) := by decide +kernel
theorem dJ6_bitCount_0f7a4_29 : decode cJ6_bitCount_0f7a4 29 = .ok (.ldc_w 267, 3) := by decide +kernel
theorem dJ6_bitCount_0f7a4_32 : decode cJ6_bitCount_0f7a4 32 = .ok (.iand, 1) := by decide +kernel
theorem dJ6_bitCount_0f7a4_33 : decode cJ6_bitCount_0f7a4 33 = .ok (.istore_n 0, 1) := by decide +kernel
theorem dJ6_bitCount_0f7a4_34 : decode cJ6_bitCount_0f7a4 34 = .ok (.iload_n 0, 1) := by decide +kernel
theorem dJ6_bitCount_0f7a4_35 : decode cJ6_bitCount_0f7a4 35 = .ok (.iload_n 0, 1) := by decide +kernel
theorem dJ6_bitCount_0f7a4_36 : decode cJ6_bitCount_0f7a4 36 = .ok (.bipush 8, 2) := by decide +kernel
theorem dJ6_bitCount_0f7a4_38 : decode cJ6_bitCount_0f7a4 38 = .ok (.iushr, 1) := by decide +kernel
theorem dJ6_bitCount_0f7a4_39 : decode cJ6_bitCount_0f7a4 39 = .ok (.iadd, 1) := by decide +kernel
theorem dJ6_bitCount_0f7a4_40 : decode cJ6_bitCount_0f7a4 40 = .ok (.istore_n 0, 1) := by decide +kernel
theorem dJ6_bitCount_0f7a4_41 : decode cJ6_bitCount_0f7a4 41 = .ok (.iload_n 0, 1) := by decide +kernel
theorem dJ6_bitCount_0f7a4_42 : decode cJ6_bitCount_0f7a4 42 = .ok (.iload_n 0, 1) := by decide +kernel
theorem dJ6_bitCount_0f7a4_43 : decode cJ6_bitCount_0f7a4 43 = .ok (.bipush 16, 2) := by decide +kernel
theorem dJ6_bitCount_0f7a4_45 : decode cJ6_bitCount_0f7a4 45 = .ok (.iushr, 1) := by decide +kernel
theorem dJ6_bitCount_0f7a4_46 : decode cJ6_bitCount_0f7a4 46 = .ok (.iadd, 1) := by decide +kernel
theorem dJ6_bitCount_0f7a4_47 : decode cJ6_bitCount_0f7a4 47 = .ok (.istore_n 0, 1) := by decide +kernel
theorem dJ6_bitCount_0f7a4_48 : decode cJ6_bitCount_0f7a4 48 = .ok (.iload_n 0, 1) := by decide +kernel
theorem dJ6_bitCount_0f7a4_49 : decode cJ6_bitCount_0f7a4 49 = .ok (.bipush 63, 2) := by decide +kernel
theorem dJ6_bitCount_0f7a4_51 : decode cJ6_bitCount_0f7a4 51 = .ok (.iand, 1) := by decide +kernel
theorem dJ6_bitCount_0f7a4_52 : decode cJ6_bitCount_0f7a4 52 = .ok (.ireturn, 1) := by decide +kernel
theorem dJ9_max_7cf53_0 : decode cJ9_max_7cf53 0 = .ok (.iload_n 0, 1) := by decide +kernel
theorem dJ9_max_7cf53_1 : decode cJ9_max_7cf53 1 = .ok (.iload_n 1, 1) := by decide +kernel
theorem dJ9_max_7cf53_2 : decode cJ9_max_7cf53 2 = .ok (.if_icmp .lt 7, 3) := by decide +kernel
theorem dJ9_max_7cf53_5 : decode cJ9_max_7cf53 5 = .ok (.iload_n 0, 1) := by decide +kernel
theorem dJ9_max_7cf53_6 : decode cJ9_max_7cf53 6 = .ok (.goto 4, 3) := by decide +kernel
theorem dJ9_max_7cf53_9 : decode cJ9_max_7cf53 9 = .ok (.iload_n 1, 1) := by decide +kernel
theorem dJ9_max_7cf53_10 : decode cJ9_max_7cf53 10 = .ok (.ireturn, 1) := by decide +kernel
theorem dJ9_min_7cf53_0 : decode cJ9_min_7cf53 0 = .ok (.iload_n 0, 1) := by decide +kernel
theorem dJ9_min_7cf53_1 : decode cJ9_min_7cf53 1 = .ok (.iload_n 1, 1) := by decide +kernel
theorem dJ9_min_7cf53_2 : decode cJ9_min_7cf53 2 = .ok (.if_icmp .gt 7, 3) := by decide +kernel
theorem dJ9_min_7cf53_5 : decode cJ9_min_7cf53 5 = .ok (.iload_n 0, 1) := by decide +kernel
theorem dJ9_min_7cf53_6 : decode cJ9_min_7cf53 6 = .ok (.goto 4, 3) := by decide +kernel
theorem dJ9_min_7cf53_9 : decode cJ9_min_7cf53 9 = .ok (.iload_n 1, 1) := by decide +kernel
theorem dJ9_min_7cf53_10 : decode cJ9_min_7cf53 10 = .ok (.ireturn, 1) := by decide +kernel
set_option maxRecDepth 20000 in
theorem ggJ0_length_8abf5_J0_coder_7d493 : GoodIn wsJ0_length_8abf5 wsJ0_coder_7d493 := goodIn_r _ [6, 7, 8] (by decide +kernel) (by decide +kernel)
set_option maxRecDepth 20000 in
theorem gJ0_length_8abf5_J0_coder_7d493 : GoodIn wsJ0_length_8abf5 (wsV RJ0 335 RJ0 yJ0_coder_7d493 wsJ0_coder_7d493) := goodIn_app (goodIn_of _ (by decide +kernel)) ggJ0_length_8abf5_J0_coder_7d493
theorem dJ0_length_8abf5_0 : decode cJ0_length_8abf5 0 = .ok (.aload_n 0, 1) := by decide +kernel
theorem dJ0_length_8abf5_1 : decode cJ0_length_8abf5 1 = .ok (.getfield 9, 3) := by decide +kernel
theorem dJ0_length_8abf5_4 : decode cJ0_length_8abf5 4 = .ok (.arraylength, 1) := by decide +kernel
theorem dJ0_length_8abf5_5 : decode cJ0_length_8abf5 5 = .ok (.aload_n 0, 1) := by decide +kernel
theorem dJ0_length_8abf5_6 : decode cJ0_length_8abf5 6 = .ok (.invokevirtual 335, 3) := by decide +kernel
theorem dJ0_length_8abf5_9 : decode cJ0_length_8abf5 9 = .ok (.ishr, 1) := by decide +kernel
theorem dJ0_length_8abf5_10 : decode cJ0_length_8abf5 10 = .ok (.ireturn, 1) := by decide +kernel
set_option maxRecDepth 20000 in
theorem ggJ0_charAt_5068e_J0_isLatin1_aae02 : GoodIn wsJ0_charAt_5068e wsJ0_isLatin1_aae02 := goodIn_r _ [6, 7, 8] (by decide +kernel) (by decide +kernel)
set_option maxRecDepth 20000 in
theorem gJ0_charAt_5068e_J0_isLatin1_aae02 : GoodIn wsJ0_charAt_5068e (wsV RJ0 492 RJ0 yJ0_isLatin1_aae02 wsJ0_isLatin1_aae02) := goodIn_app (goodIn_of _ (by decide +kernel)) ggJ0_charAt_5068e_J0_isLatin1_aae02
set_option maxRecDepth 20000 in
theorem ggJ0_charAt_5068e_J1_charAt_3b067 : GoodIn wsJ0_charAt_5068e wsJ1_charAt_3b067 := goodIn_r _ [12, 13, 14, 5, 15, 16, 17, 18, 19, 20] (by decide +kernel) (by decide +kernel)
set_option maxRecDepth 20000 in
theorem gJ0_charAt_5068e_J1_charAt_3b067 : GoodIn wsJ0_charAt_5068e (va_wsS RJ0 495 yJ1_charAt_3b067 wsJ1_charAt_3b067) := goodIn_app (goodIn_of _ (by decide +kernel)) ggJ0_charAt_5068e_J1_charAt_3b067
set_option maxRecDepth 20000 in
theorem ggJ0_charAt_5068e_J2_charAt_3b067 : GoodIn wsJ0_charAt_5068e wsJ2_charAt_3b067 := goodIn_r _ [24, 25, 26, 23, 27, 28, 29, 30, 31, 14, 5, 15, 16, 17, 18, 19, 20, 32, 33, 34, 35, 36, 37] (by decide +kernel) (by decide +kernel)
set_option maxRecDepth 20000 in
theorem gJ0_charAt_5068e_J2_charAt_3b067 : GoodIn wsJ0_charAt_5068e (va_wsS RJ0 498 yJ2_charAt_3b067 wsJ2_charAt_3b067) := goodIn_app (goodIn_of _ (by decide +kernel)) ggJ0_charAt_5068e_J2_charAt_3b067
theorem dJ0_charAt_5068e_0 : decode cJ0_charAt_5068e 0 = .ok (.aload_n 0, 1) := by decide +kernel
theorem dJ0_charAt_5068e_1 : decode cJ0_charAt_5068e 1 = .ok (.invokevirtual 492, 3) := by decide +kernel
theorem dJ0_charAt_5068e_4 : decode cJ0_charAt_5068e 4 = .ok (.ifCond .eq 12, 3) := by decide +kernel
theorem dJ0_charAt_5068e_7 : decode cJ0_charAt_5068e 7 = .ok (.aload_n 0, 1) := by decide +kernel
theorem dJ0_charAt_5068e_8 : decode cJ0_charAt_5068e 8 = .ok (.getfield 9, 3) := by decide +kernel
theorem dJ0_charAt_5068e_11 : decode cJ0_charAt_5068e 11 = .ok (.iload_n 1, 1) := by decide +kernel
theorem dJ0_charAt_5068e_12 : decode cJ0_charAt_5068e 12 = .ok (.invokestatic 495, 3) := by decide +kernel
theorem dJ0_charAt_5068e_15 : decode cJ0_charAt_5068e 15 = .ok (.ireturn, 1) := by decide +kernel
theorem dJ0_charAt_5068e_16 : decode cJ0_charAt_5068e 16 = .ok (.aload_n 0, 1) := by decide +kernel
theorem dJ0_charAt_5068e_17 : decode cJ0_charAt_5068e 17 = .ok (.getfield 9, 3) := by decide +kernel
theorem dJ0_charAt_5068e_20 : decode cJ0_charAt_5068e 20 = .ok (.iload_n 1, 1) := by decide +kernel
theorem dJ0_charAt_5068e_21 : decode cJ0_charAt_5068e 21 = .ok (.invokestatic 498, 3) := by decide +kernel
theorem dJ0_charAt_5068e_24 : decode cJ0_charAt_5068e 24 = .ok (.ireturn, 1) := by decide +kernel
theorem dJ0_coder_7d493_0 : decode cJ0_coder_7d493 0 = .ok (.getstatic 38, 3) := by decide +kernel
theorem dJ0_coder_7d493_3 : decode cJ0_coder_7d493 3 = .ok (.ifCond .eq 10, 3) := by decide +kernel
theorem dJ0_coder_7d493_6 : decode cJ0_coder_7d493 6 = .ok (.aload_n 0, 1) := by decide +kernel
theorem dJ0_coder_7d493_7 : decode cJ0_coder_7d493 7 = .ok (.getfield 15, 3) := by decide +kernel
theorem dJ0_coder_7d493_10 : decode cJ0_coder_7d493 10 = .ok (.goto 4, 3) := by decide +kernel
theorem dJ0_coder_7d493_13 : decode cJ0_coder_7d493 13 = .ok (.iconst 1, 1) := by decide +kernel
theorem dJ0_coder_7d493_14 : decode cJ0_coder_7d493 14 = .ok (.ireturn, 1) := by decide +kernel
theorem dJ0_isLatin1_aae02_0 : decode cJ0_isLatin1_aae02 0 = .ok (.getstatic 38, 3) := by decide +kernel
theorem dJ0_isLatin1_aae02_3 : decode cJ0_isLatin1_aae02 3 = .ok (.ifCond .eq 14, 3) := by decide +kernel
theorem dJ0_isLatin1_aae02_6 : decode cJ0_isLatin1_aae02 6 = .ok (.aload_n 0, 1) := by decide +kernel
theorem dJ0_isLatin1_aae02_7 : decode cJ0_isLatin1_aae02 7 = .ok (.getfield 15, 3) := by decide +kernel
theorem dJ0_isLatin1_aae02_10 : decode cJ0_isLatin1_aae02 10 = .ok (.ifCond .ne 7, 3) := by decide +kernel
theorem dJ0_isLatin1_aae02_13 : decode cJ0_isLatin1_aae02 13 = .ok (.iconst 1, 1) := by decide +kernel
theorem dJ0_isLatin1_aae02_14 : decode cJ0_isLatin1_aae02 14 = .ok (.goto 4, 3) := by decide +kernel
theorem dJ0_isLatin1_aae02_17 : decode cJ0_isLatin1_aae02 17 = .ok (.iconst 0, 1) := by decide +kernel
theorem dJ0_isLatin1_aae02_18 : decode cJ0_isLatin1_aae02 18 = .ok (.ireturn, 1) := by decide +kernel
set_option maxRecDepth 20000 in
theorem ggJ0_checkIndex_df160_J3_checkIndex_8e157 : GoodIn wsJ0_checkIndex_df160 wsJ3_checkIndex_8e157 := goodIn_r _ [5] (by decide +kernel) (by decide +kernel)
set_option maxRecDepth 20000 in
theorem gJ0_checkIndex_df160_J3_checkIndex_8e157 : GoodIn wsJ0_checkIndex_df160 (va_wsS RJ0 1059 yJ3_checkIndex_8e157 wsJ3_checkIndex_8e157) := goodIn_app (goodIn_of _ (by decide +kernel)) ggJ0_checkIndex_df160_J3_checkIndex_8e157
theorem dJ0_checkIndex_df160_0 : decode cJ0_checkIndex_df160 0 = .ok (.iload_n 0, 1) := by decide +kernel
theorem dJ0_checkIndex_df160_1 : decode cJ0_checkIndex_df160 1 = .ok (.iload_n 1, 1) := by decide +kernel
theorem dJ0_checkIndex_df160_2 : decode cJ0_checkIndex_df160 2 = .ok (.getstatic 1053, 3) := by decide +kernel
theorem dJ0_checkIndex_df160_5 : decode cJ0_checkIndex_df160 5 = .ok (.invokestatic 1059, 3) := by decide +kernel
theorem dJ0_checkIndex_df160_8 : decode cJ0_checkIndex_df160 8 = .ok (.pop, 1) := by decide +kernel
theorem dJ0_checkIndex_df160_9 : decode cJ0_checkIndex_df160 9 = .ok (.return_, 1) := by decide +kernel
set_option maxRecDepth 20000 in
theorem ggJ1_charAt_3b067_J0_checkIndex_df160 : GoodIn wsJ1_charAt_3b067 wsJ0_checkIndex_df160 := goodIn_r _ [4, 5, 6, 7, 8, 9] (by decide +kernel) (by decide +kernel)
set_option maxRecDepth 20000 in
theorem gJ1_charAt_3b067_J0_checkIndex_df160 : GoodIn wsJ1_charAt_3b067 (va_wsS RJ1 9 yJ0_checkIndex_df160 wsJ0_checkIndex_df160) := goodIn_app (goodIn_of _ (by decide +kernel)) ggJ1_charAt_3b067_J0_checkIndex_df160
theorem dJ1_charAt_3b067_0 : decode cJ1_charAt_3b067 0 = .ok (.iload_n 1, 1) := by decide +kernel
theorem dJ1_charAt_3b067_1 : decode cJ1_charAt_3b067 1 = .ok (.aload_n 0, 1) := by decide +kernel
theorem dJ1_charAt_3b067_2 : decode cJ1_charAt_3b067 2 = .ok (.arraylength, 1) := by decide +kernel
theorem dJ1_charAt_3b067_3 : decode cJ1_charAt_3b067 3 = .ok (.invokestatic 9, 3) := by decide +kernel
theorem dJ1_charAt_3b067_6 : decode cJ1_charAt_3b067 6 = .ok (.aload_n 0, 1) := by decide +kernel
theorem dJ1_charAt_3b067_7 : decode cJ1_charAt_3b067 7 = .ok (.iload_n 1, 1) := by decide +kernel
theorem dJ1_charAt_3b067_8 : decode cJ1_charAt_3b067 8 = .ok (.baload, 1) := by decide +kernel
theorem dJ1_charAt_3b067_9 : decode cJ1_charAt_3b067 9 = .ok (.sipush 255, 3) := by decide +kernel
theorem dJ1_charAt_3b067_12 : decode cJ1_charAt_3b067 12 = .ok (.iand, 1) := by decide +kernel
theorem dJ1_charAt_3b067_13 : decode cJ1_charAt_3b067 13 = .ok (.i2c, 1) := by decide +kernel
theorem dJ1_charAt_3b067_14 : decode cJ1_charAt_3b067 14 = .ok (.ireturn, 1) := by decide +kernel
set_option maxRecDepth 20000 in
theorem ggJ2_getChar_3b067_J2_length_9d52b : GoodIn wsJ2_getChar_3b067 wsJ2_length_9d52b := goodIn_r _ [7] (by decide +kernel) (by decide +kernel)
set_option maxRecDepth 20000 in
theorem gJ2_getChar_3b067_J2_length_9d52b : GoodIn wsJ2_getChar_3b067 (va_wsS RJ2 48 yJ2_length_9d52b wsJ2_length_9d52b) := goodIn_app (goodIn_of _ (by decide +kernel)) ggJ2_getChar_3b067_J2_length_9d52b
theorem dJ2_getChar_3b067_0 : decode cJ2_getChar_3b067 0 = .ok (.getstatic 44, 3) := by decide +kernel
theorem dJ2_getChar_3b067_3 : decode cJ2_getChar_3b067 3 = .ok (.ifCond .ne 25, 3) := by decide +kernel
theorem dJ2_getChar_3b067_6 : decode cJ2_getChar_3b067 6 = .ok (.iload_n 1, 1) := by decide +kernel
theorem dJ2_getChar_3b067_7 : decode cJ2_getChar_3b067 7 = .ok (.ifCond .lt 11, 3) := by decide +kernel
theorem dJ2_getChar_3b067_10 : decode cJ2_getChar_3b067 10 = .ok (.iload_n 1, 1) := by decide +kernel
theorem dJ2_getChar_3b067_11 : decode cJ2_getChar_3b067 11 = .ok (.aload_n 0, 1) := by decide +kernel
theorem dJ2_getChar_3b067_12 : decode cJ2_getChar_3b067 12 = .ok (.invokestatic 48, 3) := by decide +kernel
theorem dJ2_getChar_3b067_15 : decode cJ2_getChar_3b067 15 = .ok (.if_icmp .lt 13, 3) := by decide +kernel
theorem dJ2_getChar_3b067_18 : decode cJ2_getChar_3b067 18 = .ok (.new 52, 3) := by decide +kernel
theorem dJ2_getChar_3b067_21 : decode cJ2_getChar_3b067 21 = .ok (.dup, 1) := by decide +kernel
theorem dJ2_getChar_3b067_22 : decode cJ2_getChar_3b067 22 = .ok (.ldc 54, 2) := by decide +kernel
theorem dJ2_getChar_3b067_24 : decode cJ2_getChar_3b067 24 = .ok (.invokespecial 56, 3) := by decide +kernel
theorem dJ2_getChar_3b067_27 : decode cJ2_getChar_3b067 27 = .ok (.athrow, 1) := by decide +kernel
theorem dJ2_getChar_3b067_28 : decode cJ2_getChar_3b067 28 = .ok (.iload_n 1, 1) := by decide +kernel
theorem dJ2_getChar_3b067_29 : decode cJ2_getChar_3b067 29 = .ok (.iconst 1, 1) := by decide +kernel
theorem dJ2_getChar_3b067_30 : decode cJ2_getChar_3b067 30 = .ok (.ishl, 1) := by decide +kernel
theorem dJ2_getChar_3b067_31 : decode cJ2_getChar_3b067 31 = .ok (.istore_n 1, 1) := by decide +kernel
theorem dJ2_getChar_3b067_32 : decode cJ2_getChar_3b067 32 = .ok (.aload_n 0, 1) := by decide +kernel
theorem dJ2_getChar_3b067_33 : decode cJ2_getChar_3b067 33 = .ok (.iload_n 1, 1) := by decide +kernel
theorem dJ2_getChar_3b067_34 : decode cJ2_getChar_3b067 34 = .ok (.iinc 1 1, 3) := by decide +kernel
theorem dJ2_getChar_3b067_37 : decode cJ2_getChar_3b067 37 = .ok (.baload, 1) := by decide +kernel
theorem dJ2_getChar_3b067_38 : decode cJ2_getChar_3b067 38 = .ok (.sipush 255, 3) := by decide +kernel
theorem dJ2_getChar_3b067_41 : decode cJ2_getChar_3b067 41 = .ok (.iand, 1) := by decide +kernel
theorem dJ2_getChar_3b067_42 : decode cJ2_getChar_3b067 42 = .ok (.getstatic 59, 3) := by decide +kernel
theorem dJ2_getChar_3b067_45 : decode cJ2_getChar_3b067 45 = .ok (.ishl, 1) := by decide +kernel
theorem dJ2_getChar_3b067_46 : decode cJ2_getChar_3b067 46 = .ok (.aload_n 0, 1) := by decide +kernel
theorem dJ2_getChar_3b067_47 : decode cJ2_getChar_3b067 47 = .ok (.iload_n 1, 1) := by decide +kernel
theorem dJ2_getChar_3b067_48 : decode cJ2_getChar_3b067 48 = .ok (.baload, 1) := by decide +kernel
theorem dJ2_getChar_3b067_49 : decode cJ2_getChar_3b067 49 = .ok (.sipush 255, 3) := by decide +kernel
theorem dJ2_getChar_3b067_52 : decode cJ2_getChar_3b067 52 = .ok (.iand, 1) := by decide +kernel
theorem dJ2_getChar_3b067_53 : decode cJ2_getChar_3b067 53 = .ok (.getstatic 63, 3) := by decide +kernel
theorem dJ2_getChar_3b067_56 : decode cJ2_getChar_3b067 56 = .ok (.ishl, 1) := by decide +kernel
theorem dJ2_getChar_3b067_57 : decode cJ2_getChar_3b067 57 = .ok (.ior, 1) := by decide +kernel
theorem dJ2_getChar_3b067_58 : decode cJ2_getChar_3b067 58 = .ok (.i2c, 1) := by decide +kernel
theorem dJ2_getChar_3b067_59 : decode cJ2_getChar_3b067 59 = .ok (.ireturn, 1) := by decide +kernel
theorem dJ2_length_9d52b_0 : decode cJ2_length_9d52b 0 = .ok (.aload_n 0, 1) := by decide +kernel
theorem dJ2_length_9d52b_1 : decode cJ2_length_9d52b 1 = .ok (.arraylength, 1) := by decide +kernel
theorem dJ2_length_9d52b_2 : decode cJ2_length_9d52b 2 = .ok (.iconst 1, 1) := by decide +kernel
theorem dJ2_length_9d52b_3 : decode cJ2_length_9d52b 3 = .ok (.ishr, 1) := by decide +kernel
theorem dJ2_length_9d52b_4 : decode cJ2_length_9d52b 4 = .ok (.ireturn, 1) := by decide +kernel
set_option maxRecDepth 20000 in
theorem ggJ2_charAt_3b067_J2_checkIndex_2214a : GoodIn wsJ2_charAt_3b067 wsJ2_checkIndex_2214a := goodIn_r _ [4, 5, 6, 3, 7, 8, 9, 10, 11, 12, 13, 14, 15, 16] (by decide +kernel) (by decide +kernel)
set_option maxRecDepth 20000 in
theorem gJ2_charAt_3b067_J2_checkIndex_2214a : GoodIn wsJ2_charAt_3b067 (va_wsS RJ2 67 yJ2_checkIndex_2214a wsJ2_checkIndex_2214a) := goodIn_app (goodIn_of _ (by decide +kernel)) ggJ2_charAt_3b067_J2_checkIndex_2214a
set_option maxRecDepth 20000 in
theorem ggJ2_charAt_3b067_J2_getChar_3b067 : GoodIn wsJ2_charAt_3b067 wsJ2_getChar_3b067 := goodIn_r _ [19, 20, 21, 22, 5, 6, 3, 7] (by decide +kernel) (by decide +kernel)
set_option maxRecDepth 20000 in
theorem gJ2_charAt_3b067_J2_getChar_3b067 : GoodIn wsJ2_charAt_3b067 (va_wsS RJ2 71 yJ2_getChar_3b067 wsJ2_getChar_3b067) := goodIn_app (goodIn_of _ (by decide +kernel)) ggJ2_charAt_3b067_J2_getChar_3b067
theorem dJ2_charAt_3b067_0 : decode cJ2_charAt_3b067 0 = .ok (.iload_n 1, 1) := by decide +kernel
theorem dJ2_charAt_3b067_1 : decode cJ2_charAt_3b067 1 = .ok (.aload_n 0, 1) := by decide +kernel
theorem dJ2_charAt_3b067_2 : decode cJ2_charAt_3b067 2 = .ok (.invokestatic 67, 3) := by decide +kernel
theorem dJ2_charAt_3b067_5 : decode cJ2_charAt_3b067 5 = .ok (.aload_n 0, 1) := by decide +kernel
theorem dJ2_charAt_3b067_6 : decode cJ2_charAt_3b067 6 = .ok (.iload_n 1, 1) := by decide +kernel
theorem dJ2_charAt_3b067_7 : decode cJ2_charAt_3b067 7 = .ok (.invokestatic 71, 3) := by decide +kernel
theorem dJ2_charAt_3b067_10 : decode cJ2_charAt_3b067 10 = .ok (.ireturn, 1) := by decide +kernel
set_option maxRecDepth 20000 in
theorem ggJ2_checkIndex_2214a_J2_length_9d52b : GoodIn wsJ2_checkIndex_2214a wsJ2_length_9d52b := goodIn_r _ [4] (by decide +kernel) (by decide +kernel)
set_option maxRecDepth 20000 in
theorem gJ2_checkIndex_2214a_J2_length_9d52b : GoodIn wsJ2_checkIndex_2214a (va_wsS RJ2 48 yJ2_length_9d52b wsJ2_length_9d52b) := goodIn_app (goodIn_of _ (by decide +kernel)) ggJ2_checkIndex_2214a_J2_length_9d52b
set_option maxRecDepth 20000 in
theorem ggJ2_checkIndex_2214a_J0_checkIndex_df160 : GoodIn wsJ2_checkIndex_2214a wsJ0_checkIndex_df160 := goodIn_r _ [8, 9, 10, 11, 12, 13] (by decide +kernel) (by decide +kernel)
set_option maxRecDepth 20000 in
theorem gJ2_checkIndex_2214a_J0_checkIndex_df160 : GoodIn wsJ2_checkIndex_2214a (va_wsS RJ2 414 yJ0_checkIndex_df160 wsJ0_checkIndex_df160) := goodIn_app (goodIn_of _ (by decide +kernel)) ggJ2_checkIndex_2214a_J0_checkIndex_df160
theorem dJ2_checkIndex_2214a_0 : decode cJ2_checkIndex_2214a 0 = .ok (.iload_n 0, 1) := by decide +kernel
theorem dJ2_checkIndex_2214a_1 : decode cJ2_checkIndex_2214a 1 = .ok (.aload_n 1, 1) := by decide +kernel
theorem dJ2_checkIndex_2214a_2 : decode cJ2_checkIndex_2214a 2 = .ok (.invokestatic 48, 3) := by decide +kernel
theorem dJ2_checkIndex_2214a_5 : decode cJ2_checkIndex_2214a 5 = .ok (.invokestatic 414, 3) := by decide +kernel
theorem dJ2_checkIndex_2214a_8 : decode cJ2_checkIndex_2214a 8 = .ok (.return_, 1) := by decide +kernel
theorem dJ3_checkIndex_8e157_0 : decode cJ3_checkIndex_8e157 0 = .ok (.iload_n 0, 1) := by decide +kernel
theorem dJ3_checkIndex_8e157_1 : decode cJ3_checkIndex_8e157 1 = .ok (.ifCond .lt 8, 3) := by decide +kernel
theorem dJ3_checkIndex_8e157_4 : decode cJ3_checkIndex_8e157 4 = .ok (.iload_n 0, 1) := by decide +kernel
theorem dJ3_checkIndex_8e157_5 : decode cJ3_checkIndex_8e157 5 = .ok (.iload_n 1, 1) := by decide +kernel
theorem dJ3_checkIndex_8e157_6 : decode cJ3_checkIndex_8e157 6 = .ok (.if_icmp .lt 10, 3) := by decide +kernel
theorem dJ3_checkIndex_8e157_9 : decode cJ3_checkIndex_8e157 9 = .ok (.aload_n 2, 1) := by decide +kernel
theorem dJ3_checkIndex_8e157_10 : decode cJ3_checkIndex_8e157 10 = .ok (.iload_n 0, 1) := by decide +kernel
theorem dJ3_checkIndex_8e157_11 : decode cJ3_checkIndex_8e157 11 = .ok (.iload_n 1, 1) := by decide +kernel
theorem dJ3_checkIndex_8e157_12 : decode cJ3_checkIndex_8e157 12 = .ok (.invokestatic 95, 3) := by decide +kernel
theorem dJ3_checkIndex_8e157_15 : decode cJ3_checkIndex_8e157 15 = .ok (.athrow, 1) := by decide +kernel
theorem dJ3_checkIndex_8e157_16 : decode cJ3_checkIndex_8e157 16 = .ok (.iload_n 0, 1) := by decide +kernel
theorem dJ3_checkIndex_8e157_17 : decode cJ3_checkIndex_8e157 17 = .ok (.ireturn, 1) := by decide +kernel
