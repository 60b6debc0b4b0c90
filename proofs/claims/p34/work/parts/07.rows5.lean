theorem dX11_init_225 : decode cX11_init 225 = .ok (.newarray .int, 2) := by decide +kernel
theorem dX11_init_227 : decode cX11_init 227 = .ok (.putfield 96, 3) := by decide +kernel
theorem dX11_init_230 : decode cX11_init 230 = .ok (.aload_n 0, 1) := by decide +kernel
theorem dX11_init_231 : decode cX11_init 231 = .ok (.bipush 6, 2) := by decide +kernel
theorem dX11_init_233 : decode cX11_init 233 = .ok (.newarray .int, 2) := by decide +kernel
theorem dX11_init_235 : decode cX11_init 235 = .ok (.putfield 99, 3) := by decide +kernel
theorem dX11_init_238 : decode cX11_init 238 = .ok (.aload_n 0, 1) := by decide +kernel
theorem dX11_init_239 : decode cX11_init 239 = .ok (.bipush 6, 2) := by decide +kernel
theorem dX11_init_241 : decode cX11_init 241 = .ok (.newarray .int, 2) := by decide +kernel
theorem dX11_init_243 : decode cX11_init 243 = .ok (.putfield 102, 3) := by decide +kernel
theorem dX11_init_246 : decode cX11_init 246 = .ok (.aload_n 0, 1) := by decide +kernel
theorem dX11_init_247 : decode cX11_init 247 = .ok (.bipush 6, 2) := by decide +kernel
theorem dX11_init_249 : decode cX11_init 249 = .ok (.newarray .int, 2) := by decide +kernel
theorem dX11_init_251 : decode cX11_init 251 = .ok (.putfield 105, 3) := by decide +kernel
theorem dX11_init_254 : decode cX11_init 254 = .ok (.aload_n 0, 1) := by decide +kernel
theorem dX11_init_255 : decode cX11_init 255 = .ok (.bipush 64, 2) := by decide +kernel
theorem dX11_init_257 : decode cX11_init 257 = .ok (.newarray .long, 2) := by decide +kernel
theorem dX11_init_259 : decode cX11_init 259 = .ok (.putfield 108, 3) := by decide +kernel
theorem dX11_init_262 : decode cX11_init 262 = .ok (.aload_n 0, 1) := by decide +kernel
theorem dX11_init_263 : decode cX11_init 263 = .ok (.sipush 1800, 3) := by decide +kernel
theorem dX11_init_266 : decode cX11_init 266 = .ok (.newarray .int, 2) := by decide +kernel
theorem dX11_init_268 : decode cX11_init 268 = .ok (.putfield 112, 3) := by decide +kernel
theorem dX11_init_271 : decode cX11_init 271 = .ok (.aload_n 0, 1) := by decide +kernel
theorem dX11_init_272 : decode cX11_init 272 = .ok (.iconst 2, 1) := by decide +kernel
theorem dX11_init_273 : decode cX11_init 273 = .ok (.newarray .boolean, 2) := by decide +kernel
theorem dX11_init_275 : decode cX11_init 275 = .ok (.putfield 115, 3) := by decide +kernel
theorem dX11_init_278 : decode cX11_init 278 = .ok (.aload_n 0, 1) := by decide +kernel
theorem dX11_init_279 : decode cX11_init 279 = .ok (.invokevirtual 118, 3) := by decide +kernel
theorem dX11_init_282 : decode cX11_init 282 = .ok (.aload_n 0, 1) := by decide +kernel
theorem dX11_init_283 : decode cX11_init 283 = .ok (.invokevirtual 121, 3) := by decide +kernel
theorem dX11_init_286 : decode cX11_init 286 = .ok (.iconst 0, 1) := by decide +kernel
theorem dX11_init_287 : decode cX11_init 287 = .ok (.istore_n 1, 1) := by decide +kernel
theorem dX11_init_288 : decode cX11_init 288 = .ok (.iload_n 1, 1) := by decide +kernel
theorem dX11_init_289 : decode cX11_init 289 = .ok (.bipush 24, 2) := by decide +kernel
theorem dX11_init_291 : decode cX11_init 291 = .ok (.if_icmp .ge 16, 3) := by decide +kernel
theorem dX11_init_294 : decode cX11_init 294 = .ok (.aload_n 0, 1) := by decide +kernel
theorem dX11_init_295 : decode cX11_init 295 = .ok (.getfield 41, 3) := by decide +kernel
theorem dX11_init_298 : decode cX11_init 298 = .ok (.iload_n 1, 1) := by decide +kernel
theorem dX11_init_299 : decode cX11_init 299 = .ok (.iconst (-1), 1) := by decide +kernel
theorem dX11_init_300 : decode cX11_init 300 = .ok (.iastore, 1) := by decide +kernel
theorem dX11_init_301 : decode cX11_init 301 = .ok (.iinc 1 1, 3) := by decide +kernel
theorem dX11_init_304 : decode cX11_init 304 = .ok (.goto (-16), 3) := by decide +kernel
theorem dX11_init_307 : decode cX11_init 307 = .ok (.return_, 1) := by decide +kernel
theorem dX11_in_0 : decode cX11_in 0 = .ok (.lload_n 0, 1) := by decide +kernel
theorem dX11_in_1 : decode cX11_in 1 = .ok (.lload_n 2, 1) := by decide +kernel
theorem dX11_in_2 : decode cX11_in 2 = .ok (.lcmp, 1) := by decide +kernel
theorem dX11_in_3 : decode cX11_in 3 = .ok (.ifCond .lt 14, 3) := by decide +kernel
theorem dX11_in_6 : decode cX11_in 6 = .ok (.lload_n 0, 1) := by decide +kernel
theorem dX11_in_7 : decode cX11_in 7 = .ok (.lload 4, 2) := by decide +kernel
theorem dX11_in_9 : decode cX11_in 9 = .ok (.lcmp, 1) := by decide +kernel
theorem dX11_in_10 : decode cX11_in 10 = .ok (.ifCond .gt 7, 3) := by decide +kernel
theorem dX11_in_13 : decode cX11_in 13 = .ok (.iconst 1, 1) := by decide +kernel
theorem dX11_in_14 : decode cX11_in 14 = .ok (.goto 4, 3) := by decide +kernel
theorem dX11_in_17 : decode cX11_in 17 = .ok (.iconst 0, 1) := by decide +kernel
theorem dX11_in_18 : decode cX11_in 18 = .ok (.ireturn, 1) := by decide +kernel
theorem dX11_bits_0 : decode cX11_bits 0 = .ok (.iconst 0, 1) := by decide +kernel
theorem dX11_bits_1 : decode cX11_bits 1 = .ok (.istore_n 1, 1) := by decide +kernel
theorem dX11_bits_2 : decode cX11_bits 2 = .ok (.iconst 0, 1) := by decide +kernel
theorem dX11_bits_3 : decode cX11_bits 3 = .ok (.istore_n 2, 1) := by decide +kernel
theorem dX11_bits_4 : decode cX11_bits 4 = .ok (.iload_n 2, 1) := by decide +kernel
theorem dX11_bits_5 : decode cX11_bits 5 = .ok (.bipush 16, 2) := by decide +kernel
theorem dX11_bits_7 : decode cX11_bits 7 = .ok (.if_icmp .ge 17, 3) := by decide +kernel
theorem dX11_bits_10 : decode cX11_bits 10 = .ok (.iload_n 1, 1) := by decide +kernel
theorem dX11_bits_11 : decode cX11_bits 11 = .ok (.iload_n 0, 1) := by decide +kernel
theorem dX11_bits_12 : decode cX11_bits 12 = .ok (.iload_n 2, 1) := by decide +kernel
theorem dX11_bits_13 : decode cX11_bits 13 = .ok (.ishr, 1) := by decide +kernel
theorem dX11_bits_14 : decode cX11_bits 14 = .ok (.iconst 1, 1) := by decide +kernel
theorem dX11_bits_15 : decode cX11_bits 15 = .ok (.iand, 1) := by decide +kernel
theorem dX11_bits_16 : decode cX11_bits 16 = .ok (.iadd, 1) := by decide +kernel
theorem dX11_bits_17 : decode cX11_bits 17 = .ok (.istore_n 1, 1) := by decide +kernel
theorem dX11_bits_18 : decode cX11_bits 18 = .ok (.iinc 2 1, 3) := by decide +kernel
theorem dX11_bits_21 : decode cX11_bits 21 = .ok (.goto (-17), 3) := by decide +kernel
theorem dX11_bits_24 : decode cX11_bits 24 = .ok (.iload_n 1, 1) := by decide +kernel
theorem dX11_bits_25 : decode cX11_bits 25 = .ok (.ireturn, 1) := by decide +kernel
set_option maxRecDepth 20000 in
theorem ggX11_feed_X11_in : GoodIn wsX11_feed wsX11_in := goodIn_r _ [8] (by decide +kernel) (by decide +kernel)
set_option maxRecDepth 20000 in
theorem gX11_feed_X11_in : GoodIn wsX11_feed (va_wsS RX11 126 yX11_in wsX11_in) := goodIn_app (goodIn_of _ (by decide +kernel)) ggX11_feed_X11_in
theorem dX11_feed_0 : decode cX11_feed 0 = .ok (.iload_n 1, 1) := by decide +kernel
theorem dX11_feed_1 : decode cX11_feed 1 = .ok (.i2l, 1) := by decide +kernel
theorem dX11_feed_2 : decode cX11_feed 2 = .ok (.lconst 1, 1) := by decide +kernel
theorem dX11_feed_3 : decode cX11_feed 3 = .ok (.ldc2_w 124, 3) := by decide +kernel
theorem dX11_feed_6 : decode cX11_feed 6 = .ok (.invokestatic 126, 3) := by decide +kernel
theorem dX11_feed_9 : decode cX11_feed 9 = .ok (.ifCond .ne 7, 3) := by decide +kernel
theorem dX11_feed_12 : decode cX11_feed 12 = .ok (.sipush (-1002), 3) := by decide +kernel
theorem dX11_feed_15 : decode cX11_feed 15 = .ok (.ireturn, 1) := by decide +kernel
theorem dX11_feed_16 : decode cX11_feed 16 = .ok (.aload_n 0, 1) := by decide +kernel
theorem dX11_feed_17 : decode cX11_feed 17 = .ok (.getfield 130, 3) := by decide +kernel
theorem dX11_feed_20 : decode cX11_feed 20 = .ok (.iload_n 1, 1) := by decide +kernel
theorem dX11_feed_21 : decode cX11_feed 21 = .ok (.iadd, 1) := by decide +kernel
theorem dX11_feed_22 : decode cX11_feed 22 = .ok (.sipush 240, 3) := by decide +kernel
theorem dX11_feed_25 : decode cX11_feed 25 = .ok (.if_icmp .le 7, 3) := by decide +kernel
theorem dX11_feed_28 : decode cX11_feed 28 = .ok (.sipush (-1004), 3) := by decide +kernel
theorem dX11_feed_31 : decode cX11_feed 31 = .ok (.ireturn, 1) := by decide +kernel
theorem dX11_feed_32 : decode cX11_feed 32 = .ok (.iload_n 1, 1) := by decide +kernel
theorem dX11_feed_33 : decode cX11_feed 33 = .ok (.iconst 1, 1) := by decide +kernel
theorem dX11_feed_34 : decode cX11_feed 34 = .ok (.isub, 1) := by decide +kernel
theorem dX11_feed_35 : decode cX11_feed 35 = .ok (.istore 4, 2) := by decide +kernel
theorem dX11_feed_37 : decode cX11_feed 37 = .ok (.iload 4, 2) := by decide +kernel
theorem dX11_feed_39 : decode cX11_feed 39 = .ok (.ifCond .lt 40, 3) := by decide +kernel
theorem dX11_feed_42 : decode cX11_feed 42 = .ok (.aload_n 0, 1) := by decide +kernel
theorem dX11_feed_43 : decode cX11_feed 43 = .ok (.getfield 22, 3) := by decide +kernel
theorem dX11_feed_46 : decode cX11_feed 46 = .ok (.aload_n 0, 1) := by decide +kernel
theorem dX11_feed_47 : decode cX11_feed 47 = .ok (.getfield 130, 3) := by decide +kernel
theorem dX11_feed_50 : decode cX11_feed 50 = .ok (.lload_n 2, 1) := by decide +kernel
theorem dX11_feed_51 : decode cX11_feed 51 = .ok (.bipush 8, 2) := by decide +kernel
theorem dX11_feed_53 : decode cX11_feed 53 = .ok (.iload 4, 2) := by decide +kernel
theorem dX11_feed_55 : decode cX11_feed 55 = .ok (.imul, 1) := by decide +kernel
theorem dX11_feed_56 : decode cX11_feed 56 = .ok (.lshr, 1) := by decide +kernel
theorem dX11_feed_57 : decode cX11_feed 57 = .ok (.ldc2_w 133, 3) := by decide +kernel
theorem dX11_feed_60 : decode cX11_feed 60 = .ok (.land, 1) := by decide +kernel
theorem dX11_feed_61 : decode cX11_feed 61 = .ok (.l2i, 1) := by decide +kernel
theorem dX11_feed_62 : decode cX11_feed 62 = .ok (.iastore, 1) := by decide +kernel
theorem dX11_feed_63 : decode cX11_feed 63 = .ok (.aload_n 0, 1) := by decide +kernel
theorem dX11_feed_64 : decode cX11_feed 64 = .ok (.dup, 1) := by decide +kernel
theorem dX11_feed_65 : decode cX11_feed 65 = .ok (.getfield 130, 3) := by decide +kernel
theorem dX11_feed_68 : decode cX11_feed 68 = .ok (.iconst 1, 1) := by decide +kernel
theorem dX11_feed_69 : decode cX11_feed 69 = .ok (.iadd, 1) := by decide +kernel
theorem dX11_feed_70 : decode cX11_feed 70 = .ok (.putfield 130, 3) := by decide +kernel
theorem dX11_feed_73 : decode cX11_feed 73 = .ok (.iinc 4 (-1), 3) := by decide +kernel
theorem dX11_feed_76 : decode cX11_feed 76 = .ok (.goto (-39), 3) := by decide +kernel
theorem dX11_feed_79 : decode cX11_feed 79 = .ok (.aload_n 0, 1) := by decide +kernel
theorem dX11_feed_80 : decode cX11_feed 80 = .ok (.getfield 130, 3) := by decide +kernel
theorem dX11_feed_83 : decode cX11_feed 83 = .ok (.ireturn, 1) := by decide +kernel
theorem dX11_here_0 : decode cX11_here 0 = .ok (.aload_n 0, 1) := by decide +kernel
theorem dX11_here_1 : decode cX11_here 1 = .ok (.getfield 135, 3) := by decide +kernel
theorem dX11_here_4 : decode cX11_here 4 = .ok (.aload_n 0, 1) := by decide +kernel
theorem dX11_here_5 : decode cX11_here 5 = .ok (.getfield 130, 3) := by decide +kernel
theorem dX11_here_8 : decode cX11_here 8 = .ok (.if_icmp .ge 30, 3) := by decide +kernel
theorem dX11_here_11 : decode cX11_here 11 = .ok (.aload_n 0, 1) := by decide +kernel
theorem dX11_here_12 : decode cX11_here 12 = .ok (.getfield 22, 3) := by decide +kernel
theorem dX11_here_15 : decode cX11_here 15 = .ok (.aload_n 0, 1) := by decide +kernel
theorem dX11_here_16 : decode cX11_here 16 = .ok (.getfield 135, 3) := by decide +kernel
theorem dX11_here_19 : decode cX11_here 19 = .ok (.iaload, 1) := by decide +kernel
theorem dX11_here_20 : decode cX11_here 20 = .ok (.bipush 32, 2) := by decide +kernel
theorem dX11_here_22 : decode cX11_here 22 = .ok (.if_icmp .ne 16, 3) := by decide +kernel
theorem dX11_here_25 : decode cX11_here 25 = .ok (.aload_n 0, 1) := by decide +kernel
theorem dX11_here_26 : decode cX11_here 26 = .ok (.dup, 1) := by decide +kernel
theorem dX11_here_27 : decode cX11_here 27 = .ok (.getfield 135, 3) := by decide +kernel
theorem dX11_here_30 : decode cX11_here 30 = .ok (.iconst 1, 1) := by decide +kernel
theorem dX11_here_31 : decode cX11_here 31 = .ok (.iadd, 1) := by decide +kernel
theorem dX11_here_32 : decode cX11_here 32 = .ok (.putfield 135, 3) := by decide +kernel
theorem dX11_here_35 : decode cX11_here 35 = .ok (.goto (-35), 3) := by decide +kernel
theorem dX11_here_38 : decode cX11_here 38 = .ok (.aload_n 0, 1) := by decide +kernel
theorem dX11_here_39 : decode cX11_here 39 = .ok (.getfield 135, 3) := by decide +kernel
theorem dX11_here_42 : decode cX11_here 42 = .ok (.aload_n 0, 1) := by decide +kernel
theorem dX11_here_43 : decode cX11_here 43 = .ok (.getfield 130, 3) := by decide +kernel
theorem dX11_here_46 : decode cX11_here 46 = .ok (.if_icmp .ge 15, 3) := by decide +kernel
theorem dX11_here_49 : decode cX11_here 49 = .ok (.aload_n 0, 1) := by decide +kernel
theorem dX11_here_50 : decode cX11_here 50 = .ok (.getfield 22, 3) := by decide +kernel
theorem dX11_here_53 : decode cX11_here 53 = .ok (.aload_n 0, 1) := by decide +kernel
theorem dX11_here_54 : decode cX11_here 54 = .ok (.getfield 135, 3) := by decide +kernel
theorem dX11_here_57 : decode cX11_here 57 = .ok (.iaload, 1) := by decide +kernel
theorem dX11_here_58 : decode cX11_here 58 = .ok (.goto 4, 3) := by decide +kernel
theorem dX11_here_61 : decode cX11_here 61 = .ok (.iconst (-1), 1) := by decide +kernel
theorem dX11_here_62 : decode cX11_here 62 = .ok (.ireturn, 1) := by decide +kernel
theorem dX11_fails_0 : decode cX11_fails 0 = .ok (.aload_n 0, 1) := by decide +kernel
theorem dX11_fails_1 : decode cX11_fails 1 = .ok (.iload_n 2, 1) := by decide +kernel
theorem dX11_fails_2 : decode cX11_fails 2 = .ok (.putfield 25, 3) := by decide +kernel
theorem dX11_fails_5 : decode cX11_fails 5 = .ok (.iload_n 1, 1) := by decide +kernel
theorem dX11_fails_6 : decode cX11_fails 6 = .ok (.ireturn, 1) := by decide +kernel
set_option maxRecDepth 20000 in
theorem ggX11_readWord_X11_here : GoodIn wsX11_readWord wsX11_here := goodIn_r _ [16, 2, 4, 5, 20, 21, 22, 23, 24, 25, 26, 27, 28, 29, 30, 31, 32, 33, 34, 35, 36, 37, 38, 39, 40, 41, 42, 43, 44, 45, 46, 47, 48, 49, 50, 51, 52, 53, 54, 55, 56, 57, 58, 59, 60, 61, 62, 63, 64, 65, 66, 67, 68, 69, 70, 71, 72, 73, 74, 75, 76, 77] (by decide +kernel) (by decide +kernel)
set_option maxRecDepth 20000 in
theorem gX11_readWord_X11_here : GoodIn wsX11_readWord (wsV RX11 138 RX11 yX11_here wsX11_here) := goodIn_app (goodIn_of _ (by decide +kernel)) ggX11_readWord_X11_here
set_option maxRecDepth 20000 in
theorem ggX11_readWord_X11_in : GoodIn wsX11_readWord wsX11_in := goodIn_r _ [19] (by decide +kernel) (by decide +kernel)
set_option maxRecDepth 20000 in
theorem gX11_readWord_X11_in : GoodIn wsX11_readWord (va_wsS RX11 126 yX11_in wsX11_in) := goodIn_app (goodIn_of _ (by decide +kernel)) ggX11_readWord_X11_in
theorem dX11_readWord_0 : decode cX11_readWord 0 = .ok (.aload_n 0, 1) := by decide +kernel
theorem dX11_readWord_1 : decode cX11_readWord 1 = .ok (.invokevirtual 138, 3) := by decide +kernel
theorem dX11_readWord_4 : decode cX11_readWord 4 = .ok (.istore_n 1, 1) := by decide +kernel
theorem dX11_readWord_5 : decode cX11_readWord 5 = .ok (.aload_n 0, 1) := by decide +kernel
theorem dX11_readWord_6 : decode cX11_readWord 6 = .ok (.lconst 0, 1) := by decide +kernel
theorem dX11_readWord_7 : decode cX11_readWord 7 = .ok (.putfield 142, 3) := by decide +kernel
theorem dX11_readWord_10 : decode cX11_readWord 10 = .ok (.aload_n 0, 1) := by decide +kernel
theorem dX11_readWord_11 : decode cX11_readWord 11 = .ok (.aload_n 0, 1) := by decide +kernel
theorem dX11_readWord_12 : decode cX11_readWord 12 = .ok (.getfield 135, 3) := by decide +kernel
theorem dX11_readWord_15 : decode cX11_readWord 15 = .ok (.putfield 146, 3) := by decide +kernel
theorem dX11_readWord_18 : decode cX11_readWord 18 = .ok (.aload_n 0, 1) := by decide +kernel
theorem dX11_readWord_19 : decode cX11_readWord 19 = .ok (.getfield 146, 3) := by decide +kernel
theorem dX11_readWord_22 : decode cX11_readWord 22 = .ok (.aload_n 0, 1) := by decide +kernel
theorem dX11_readWord_23 : decode cX11_readWord 23 = .ok (.getfield 130, 3) := by decide +kernel
theorem dX11_readWord_26 : decode cX11_readWord 26 = .ok (.if_icmp .ge 82, 3) := by decide +kernel
theorem dX11_readWord_29 : decode cX11_readWord 29 = .ok (.aload_n 0, 1) := by decide +kernel
theorem dX11_readWord_30 : decode cX11_readWord 30 = .ok (.getfield 22, 3) := by decide +kernel
theorem dX11_readWord_33 : decode cX11_readWord 33 = .ok (.aload_n 0, 1) := by decide +kernel
theorem dX11_readWord_34 : decode cX11_readWord 34 = .ok (.getfield 146, 3) := by decide +kernel
theorem dX11_readWord_37 : decode cX11_readWord 37 = .ok (.iaload, 1) := by decide +kernel
theorem dX11_readWord_38 : decode cX11_readWord 38 = .ok (.i2l, 1) := by decide +kernel
theorem dX11_readWord_39 : decode cX11_readWord 39 = .ok (.ldc2_w 149, 3) := by decide +kernel
theorem dX11_readWord_42 : decode cX11_readWord 42 = .ok (.ldc2_w 151, 3) := by decide +kernel
theorem dX11_readWord_45 : decode cX11_readWord 45 = .ok (.invokestatic 126, 3) := by decide +kernel
theorem dX11_readWord_48 : decode cX11_readWord 48 = .ok (.ifCond .eq 60, 3) := by decide +kernel
theorem dX11_readWord_51 : decode cX11_readWord 51 = .ok (.aload_n 0, 1) := by decide +kernel
theorem dX11_readWord_52 : decode cX11_readWord 52 = .ok (.aload_n 0, 1) := by decide +kernel
theorem dX11_readWord_53 : decode cX11_readWord 53 = .ok (.getfield 142, 3) := by decide +kernel
theorem dX11_readWord_56 : decode cX11_readWord 56 = .ok (.ldc2_w 153, 3) := by decide +kernel
theorem dX11_readWord_59 : decode cX11_readWord 59 = .ok (.lcmp, 1) := by decide +kernel
theorem dX11_readWord_60 : decode cX11_readWord 60 = .ok (.ifCond .le 9, 3) := by decide +kernel
theorem dX11_readWord_63 : decode cX11_readWord 63 = .ok (.ldc2_w 155, 3) := by decide +kernel
theorem dX11_readWord_66 : decode cX11_readWord 66 = .ok (.goto 26, 3) := by decide +kernel
theorem dX11_readWord_69 : decode cX11_readWord 69 = .ok (.ldc2_w 157, 3) := by decide +kernel
theorem dX11_readWord_72 : decode cX11_readWord 72 = .ok (.aload_n 0, 1) := by decide +kernel
theorem dX11_readWord_73 : decode cX11_readWord 73 = .ok (.getfield 142, 3) := by decide +kernel
theorem dX11_readWord_76 : decode cX11_readWord 76 = .ok (.lmul, 1) := by decide +kernel
theorem dX11_readWord_77 : decode cX11_readWord 77 = .ok (.aload_n 0, 1) := by decide +kernel
theorem dX11_readWord_78 : decode cX11_readWord 78 = .ok (.getfield 22, 3) := by decide +kernel
theorem dX11_readWord_81 : decode cX11_readWord 81 = .ok (.aload_n 0, 1) := by decide +kernel
theorem dX11_readWord_82 : decode cX11_readWord 82 = .ok (.getfield 146, 3) := by decide +kernel
theorem dX11_readWord_85 : decode cX11_readWord 85 = .ok (.iaload, 1) := by decide +kernel
theorem dX11_readWord_86 : decode cX11_readWord 86 = .ok (.i2l, 1) := by decide +kernel
theorem dX11_readWord_87 : decode cX11_readWord 87 = .ok (.ladd, 1) := by decide +kernel
theorem dX11_readWord_88 : decode cX11_readWord 88 = .ok (.ldc2_w 159, 3) := by decide +kernel
theorem dX11_readWord_91 : decode cX11_readWord 91 = .ok (.lsub, 1) := by decide +kernel
theorem dX11_readWord_92 : decode cX11_readWord 92 = .ok (.putfield 142, 3) := by decide +kernel
theorem dX11_readWord_95 : decode cX11_readWord 95 = .ok (.aload_n 0, 1) := by decide +kernel
theorem dX11_readWord_96 : decode cX11_readWord 96 = .ok (.dup, 1) := by decide +kernel
theorem dX11_readWord_97 : decode cX11_readWord 97 = .ok (.getfield 146, 3) := by decide +kernel
theorem dX11_readWord_100 : decode cX11_readWord 100 = .ok (.iconst 1, 1) := by decide +kernel
theorem dX11_readWord_101 : decode cX11_readWord 101 = .ok (.iadd, 1) := by decide +kernel
theorem dX11_readWord_102 : decode cX11_readWord 102 = .ok (.putfield 146, 3) := by decide +kernel
theorem dX11_readWord_105 : decode cX11_readWord 105 = .ok (.goto (-87), 3) := by decide +kernel
theorem dX11_readWord_108 : decode cX11_readWord 108 = .ok (.return_, 1) := by decide +kernel
theorem dX11_code_0 : decode cX11_code 0 = .ok (.ldc2_w 157, 3) := by decide +kernel
theorem dX11_code_3 : decode cX11_code 3 = .ok (.ldc2_w 157, 3) := by decide +kernel
theorem dX11_code_6 : decode cX11_code 6 = .ok (.iload_n 0, 1) := by decide +kernel
theorem dX11_code_7 : decode cX11_code 7 = .ok (.i2l, 1) := by decide +kernel
theorem dX11_code_8 : decode cX11_code 8 = .ok (.ldc2_w 159, 3) := by decide +kernel
theorem dX11_code_11 : decode cX11_code 11 = .ok (.lsub, 1) := by decide +kernel
theorem dX11_code_12 : decode cX11_code 12 = .ok (.lmul, 1) := by decide +kernel
theorem dX11_code_13 : decode cX11_code 13 = .ok (.iload_n 1, 1) := by decide +kernel
theorem dX11_code_14 : decode cX11_code 14 = .ok (.i2l, 1) := by decide +kernel
theorem dX11_code_15 : decode cX11_code 15 = .ok (.ladd, 1) := by decide +kernel
theorem dX11_code_16 : decode cX11_code 16 = .ok (.ldc2_w 159, 3) := by decide +kernel
theorem dX11_code_19 : decode cX11_code 19 = .ok (.lsub, 1) := by decide +kernel
theorem dX11_code_20 : decode cX11_code 20 = .ok (.lmul, 1) := by decide +kernel
theorem dX11_code_21 : decode cX11_code 21 = .ok (.iload_n 2, 1) := by decide +kernel
theorem dX11_code_22 : decode cX11_code 22 = .ok (.i2l, 1) := by decide +kernel
theorem dX11_code_23 : decode cX11_code 23 = .ok (.ladd, 1) := by decide +kernel
theorem dX11_code_24 : decode cX11_code 24 = .ok (.ldc2_w 159, 3) := by decide +kernel
theorem dX11_code_27 : decode cX11_code 27 = .ok (.lsub, 1) := by decide +kernel
theorem dX11_code_28 : decode cX11_code 28 = .ok (.lreturn, 1) := by decide +kernel
theorem dX11_longer_0 : decode cX11_longer 0 = .ok (.ldc2_w 157, 3) := by decide +kernel
theorem dX11_longer_3 : decode cX11_longer 3 = .ok (.lload_n 0, 1) := by decide +kernel
theorem dX11_longer_4 : decode cX11_longer 4 = .ok (.lmul, 1) := by decide +kernel
theorem dX11_longer_5 : decode cX11_longer 5 = .ok (.iload_n 2, 1) := by decide +kernel
theorem dX11_longer_6 : decode cX11_longer 6 = .ok (.i2l, 1) := by decide +kernel
theorem dX11_longer_7 : decode cX11_longer 7 = .ok (.ladd, 1) := by decide +kernel
theorem dX11_longer_8 : decode cX11_longer 8 = .ok (.ldc2_w 159, 3) := by decide +kernel
theorem dX11_longer_11 : decode cX11_longer 11 = .ok (.lsub, 1) := by decide +kernel
theorem dX11_longer_12 : decode cX11_longer 12 = .ok (.lreturn, 1) := by decide +kernel
set_option maxRecDepth 20000 in
theorem ggX11_clauseOf_X11_code : GoodIn wsX11_clauseOf wsX11_code := goodIn_r _ [5, 6, 7] (by decide +kernel) (by decide +kernel)
set_option maxRecDepth 20000 in
theorem gX11_clauseOf_X11_code : GoodIn wsX11_clauseOf (va_wsS RX11 161 yX11_code wsX11_code) := goodIn_app (goodIn_of _ (by decide +kernel)) ggX11_clauseOf_X11_code
set_option maxRecDepth 20000 in
theorem ggX11_clauseOf_X11_longer : GoodIn wsX11_clauseOf wsX11_longer := goodIn_r _ [10, 6, 7] (by decide +kernel) (by decide +kernel)
set_option maxRecDepth 20000 in
theorem gX11_clauseOf_X11_longer : GoodIn wsX11_clauseOf (va_wsS RX11 165 yX11_longer wsX11_longer) := goodIn_app (goodIn_of _ (by decide +kernel)) ggX11_clauseOf_X11_longer
theorem dX11_clauseOf_0 : decode cX11_clauseOf 0 = .ok (.bipush 119, 2) := by decide +kernel
theorem dX11_clauseOf_2 : decode cX11_clauseOf 2 = .ok (.bipush 101, 2) := by decide +kernel
theorem dX11_clauseOf_4 : decode cX11_clauseOf 4 = .ok (.bipush 105, 2) := by decide +kernel
theorem dX11_clauseOf_6 : decode cX11_clauseOf 6 = .ok (.invokestatic 161, 3) := by decide +kernel
theorem dX11_clauseOf_9 : decode cX11_clauseOf 9 = .ok (.bipush 103, 2) := by decide +kernel
theorem dX11_clauseOf_11 : decode cX11_clauseOf 11 = .ok (.invokestatic 165, 3) := by decide +kernel
theorem dX11_clauseOf_14 : decode cX11_clauseOf 14 = .ok (.bipush 104, 2) := by decide +kernel
theorem dX11_clauseOf_16 : decode cX11_clauseOf 16 = .ok (.invokestatic 165, 3) := by decide +kernel
theorem dX11_clauseOf_19 : decode cX11_clauseOf 19 = .ok (.bipush 116, 2) := by decide +kernel
theorem dX11_clauseOf_21 : decode cX11_clauseOf 21 = .ok (.invokestatic 165, 3) := by decide +kernel
theorem dX11_clauseOf_24 : decode cX11_clauseOf 24 = .ok (.bipush 115, 2) := by decide +kernel
theorem dX11_clauseOf_26 : decode cX11_clauseOf 26 = .ok (.invokestatic 165, 3) := by decide +kernel
theorem dX11_clauseOf_29 : decode cX11_clauseOf 29 = .ok (.lstore_n 1, 1) := by decide +kernel
theorem dX11_clauseOf_30 : decode cX11_clauseOf 30 = .ok (.aload_n 0, 1) := by decide +kernel
theorem dX11_clauseOf_31 : decode cX11_clauseOf 31 = .ok (.getfield 142, 3) := by decide +kernel
theorem dX11_clauseOf_34 : decode cX11_clauseOf 34 = .ok (.bipush 114, 2) := by decide +kernel
theorem dX11_clauseOf_36 : decode cX11_clauseOf 36 = .ok (.bipush 111, 2) := by decide +kernel
theorem dX11_clauseOf_38 : decode cX11_clauseOf 38 = .ok (.bipush 119, 2) := by decide +kernel
theorem dX11_clauseOf_40 : decode cX11_clauseOf 40 = .ok (.invokestatic 161, 3) := by decide +kernel
theorem dX11_clauseOf_43 : decode cX11_clauseOf 43 = .ok (.lcmp, 1) := by decide +kernel
theorem dX11_clauseOf_44 : decode cX11_clauseOf 44 = .ok (.ifCond .ne 7, 3) := by decide +kernel
theorem dX11_clauseOf_47 : decode cX11_clauseOf 47 = .ok (.iconst 0, 1) := by decide +kernel
theorem dX11_clauseOf_48 : decode cX11_clauseOf 48 = .ok (.goto 95, 3) := by decide +kernel
theorem dX11_clauseOf_51 : decode cX11_clauseOf 51 = .ok (.aload_n 0, 1) := by decide +kernel
theorem dX11_clauseOf_52 : decode cX11_clauseOf 52 = .ok (.getfield 142, 3) := by decide +kernel
theorem dX11_clauseOf_55 : decode cX11_clauseOf 55 = .ok (.bipush 111, 2) := by decide +kernel
theorem dX11_clauseOf_57 : decode cX11_clauseOf 57 = .ok (.bipush 100, 2) := by decide +kernel
theorem dX11_clauseOf_59 : decode cX11_clauseOf 59 = .ok (.bipush 100, 2) := by decide +kernel
theorem dX11_clauseOf_61 : decode cX11_clauseOf 61 = .ok (.invokestatic 161, 3) := by decide +kernel
theorem dX11_clauseOf_64 : decode cX11_clauseOf 64 = .ok (.bipush 115, 2) := by decide +kernel
theorem dX11_clauseOf_66 : decode cX11_clauseOf 66 = .ok (.invokestatic 165, 3) := by decide +kernel
theorem dX11_clauseOf_69 : decode cX11_clauseOf 69 = .ok (.lcmp, 1) := by decide +kernel
theorem dX11_clauseOf_70 : decode cX11_clauseOf 70 = .ok (.ifCond .ne 7, 3) := by decide +kernel
theorem dX11_clauseOf_73 : decode cX11_clauseOf 73 = .ok (.iconst 1, 1) := by decide +kernel
theorem dX11_clauseOf_74 : decode cX11_clauseOf 74 = .ok (.goto 69, 3) := by decide +kernel
theorem dX11_clauseOf_77 : decode cX11_clauseOf 77 = .ok (.aload_n 0, 1) := by decide +kernel
theorem dX11_clauseOf_78 : decode cX11_clauseOf 78 = .ok (.getfield 142, 3) := by decide +kernel
theorem dX11_clauseOf_81 : decode cX11_clauseOf 81 = .ok (.lload_n 1, 1) := by decide +kernel
theorem dX11_clauseOf_82 : decode cX11_clauseOf 82 = .ok (.lcmp, 1) := by decide +kernel
theorem dX11_clauseOf_83 : decode cX11_clauseOf 83 = .ok (.ifCond .ne 7, 3) := by decide +kernel
theorem dX11_clauseOf_86 : decode cX11_clauseOf 86 = .ok (.iconst 2, 1) := by decide +kernel
theorem dX11_clauseOf_87 : decode cX11_clauseOf 87 = .ok (.goto 56, 3) := by decide +kernel
theorem dX11_clauseOf_90 : decode cX11_clauseOf 90 = .ok (.aload_n 0, 1) := by decide +kernel
theorem dX11_clauseOf_91 : decode cX11_clauseOf 91 = .ok (.getfield 142, 3) := by decide +kernel
theorem dX11_clauseOf_94 : decode cX11_clauseOf 94 = .ok (.bipush 103, 2) := by decide +kernel
theorem dX11_clauseOf_96 : decode cX11_clauseOf 96 = .ok (.bipush 105, 2) := by decide +kernel
theorem dX11_clauseOf_98 : decode cX11_clauseOf 98 = .ok (.bipush 118, 2) := by decide +kernel
theorem dX11_clauseOf_100 : decode cX11_clauseOf 100 = .ok (.invokestatic 161, 3) := by decide +kernel
theorem dX11_clauseOf_103 : decode cX11_clauseOf 103 = .ok (.bipush 101, 2) := by decide +kernel
theorem dX11_clauseOf_105 : decode cX11_clauseOf 105 = .ok (.invokestatic 165, 3) := by decide +kernel
theorem dX11_clauseOf_108 : decode cX11_clauseOf 108 = .ok (.lcmp, 1) := by decide +kernel
theorem dX11_clauseOf_109 : decode cX11_clauseOf 109 = .ok (.ifCond .ne 7, 3) := by decide +kernel
theorem dX11_clauseOf_112 : decode cX11_clauseOf 112 = .ok (.iconst 3, 1) := by decide +kernel
theorem dX11_clauseOf_113 : decode cX11_clauseOf 113 = .ok (.goto 30, 3) := by decide +kernel
theorem dX11_clauseOf_116 : decode cX11_clauseOf 116 = .ok (.aload_n 0, 1) := by decide +kernel
theorem dX11_clauseOf_117 : decode cX11_clauseOf 117 = .ok (.getfield 142, 3) := by decide +kernel
theorem dX11_clauseOf_120 : decode cX11_clauseOf 120 = .ok (.bipush 108, 2) := by decide +kernel
theorem dX11_clauseOf_122 : decode cX11_clauseOf 122 = .ok (.bipush 101, 2) := by decide +kernel
theorem dX11_clauseOf_124 : decode cX11_clauseOf 124 = .ok (.bipush 115, 2) := by decide +kernel
theorem dX11_clauseOf_126 : decode cX11_clauseOf 126 = .ok (.invokestatic 161, 3) := by decide +kernel
theorem dX11_clauseOf_129 : decode cX11_clauseOf 129 = .ok (.bipush 115, 2) := by decide +kernel
theorem dX11_clauseOf_131 : decode cX11_clauseOf 131 = .ok (.invokestatic 165, 3) := by decide +kernel
theorem dX11_clauseOf_134 : decode cX11_clauseOf 134 = .ok (.lcmp, 1) := by decide +kernel
theorem dX11_clauseOf_135 : decode cX11_clauseOf 135 = .ok (.ifCond .ne 7, 3) := by decide +kernel
theorem dX11_clauseOf_138 : decode cX11_clauseOf 138 = .ok (.iconst 4, 1) := by decide +kernel
theorem dX11_clauseOf_139 : decode cX11_clauseOf 139 = .ok (.goto 4, 3) := by decide +kernel
theorem dX11_clauseOf_142 : decode cX11_clauseOf 142 = .ok (.iconst (-1), 1) := by decide +kernel
theorem dX11_clauseOf_143 : decode cX11_clauseOf 143 = .ok (.ireturn, 1) := by decide +kernel
set_option maxRecDepth 20000 in
theorem ggX11_needs_X11_readWord : GoodIn wsX11_needs wsX11_readWord := goodIn_r _ [8, 1, 2, 3, 9, 10, 11, 12, 13, 14, 15, 16, 17, 18, 19, 7, 20, 21, 22, 23, 29, 30, 31, 32, 33, 34, 35, 36, 37, 38, 39, 40, 41, 42, 43, 44, 45, 46, 47, 48, 49, 50, 51, 52, 53, 54, 55, 56, 57, 58, 59, 60, 61, 62, 63, 64, 65, 66, 67, 68, 69, 70, 71, 72, 73, 74, 75, 76, 77, 78, 79, 80, 81, 82, 83, 84, 85, 86] (by decide +kernel) (by decide +kernel)
set_option maxRecDepth 20000 in
theorem gX11_needs_X11_readWord : GoodIn wsX11_needs (wsV RX11 169 RX11 yX11_readWord wsX11_readWord) := goodIn_app (goodIn_of _ (by decide +kernel)) ggX11_needs_X11_readWord
set_option maxRecDepth 20000 in
theorem ggX11_needs_X11_fails : GoodIn wsX11_needs wsX11_fails := goodIn_r _ [27, 28, 29, 30, 31, 32, 33, 34, 35, 36, 37, 38, 39, 40, 41, 42, 43, 44, 45, 46, 47, 48, 49, 50, 51, 52, 53, 54, 55, 56, 57, 58, 59, 60, 61, 62, 63, 64, 65, 66, 67, 68, 69, 70, 71, 72, 73, 74, 75, 76, 77, 78, 79, 80, 81, 82, 83, 84, 85, 86] (by decide +kernel) (by decide +kernel)
set_option maxRecDepth 20000 in
theorem gX11_needs_X11_fails : GoodIn wsX11_needs (wsV RX11 172 RX11 yX11_fails wsX11_fails) := goodIn_app (goodIn_of _ (by decide +kernel)) ggX11_needs_X11_fails
theorem dX11_needs_0 : decode cX11_needs 0 = .ok (.aload_n 0, 1) := by decide +kernel
theorem dX11_needs_1 : decode cX11_needs 1 = .ok (.invokevirtual 169, 3) := by decide +kernel
theorem dX11_needs_4 : decode cX11_needs 4 = .ok (.aload_n 0, 1) := by decide +kernel
theorem dX11_needs_5 : decode cX11_needs 5 = .ok (.getfield 142, 3) := by decide +kernel
theorem dX11_needs_8 : decode cX11_needs 8 = .ok (.lload_n 1, 1) := by decide +kernel
theorem dX11_needs_9 : decode cX11_needs 9 = .ok (.lcmp, 1) := by decide +kernel
theorem dX11_needs_10 : decode cX11_needs 10 = .ok (.ifCond .eq 13, 3) := by decide +kernel
theorem dX11_needs_13 : decode cX11_needs 13 = .ok (.aload_n 0, 1) := by decide +kernel
theorem dX11_needs_14 : decode cX11_needs 14 = .ok (.iconst 1, 1) := by decide +kernel
theorem dX11_needs_15 : decode cX11_needs 15 = .ok (.aload_n 0, 1) := by decide +kernel
theorem dX11_needs_16 : decode cX11_needs 16 = .ok (.getfield 135, 3) := by decide +kernel
theorem dX11_needs_19 : decode cX11_needs 19 = .ok (.invokevirtual 172, 3) := by decide +kernel
theorem dX11_needs_22 : decode cX11_needs 22 = .ok (.ireturn, 1) := by decide +kernel
theorem dX11_needs_23 : decode cX11_needs 23 = .ok (.aload_n 0, 1) := by decide +kernel
theorem dX11_needs_24 : decode cX11_needs 24 = .ok (.aload_n 0, 1) := by decide +kernel
theorem dX11_needs_25 : decode cX11_needs 25 = .ok (.getfield 146, 3) := by decide +kernel
theorem dX11_needs_28 : decode cX11_needs 28 = .ok (.putfield 135, 3) := by decide +kernel
theorem dX11_needs_31 : decode cX11_needs 31 = .ok (.iconst 0, 1) := by decide +kernel
theorem dX11_needs_32 : decode cX11_needs 32 = .ok (.ireturn, 1) := by decide +kernel
set_option maxRecDepth 20000 in
theorem ggX11_takeNumber_X11_here : GoodIn wsX11_takeNumber wsX11_here := goodIn_r _ [12, 3, 6, 7, 21, 22, 23, 24, 25, 26, 27, 28, 29, 30, 31, 32, 33, 34, 35, 36, 37, 38, 39, 40, 41, 42, 43, 44, 45, 46, 47, 48, 49, 50, 51, 52, 53, 54, 55, 56, 57, 58, 59, 60, 61, 62, 63, 64, 65, 66, 67, 68, 69, 70, 71, 72, 73, 74, 75, 76, 77, 78] (by decide +kernel) (by decide +kernel)
set_option maxRecDepth 20000 in
theorem gX11_takeNumber_X11_here : GoodIn wsX11_takeNumber (wsV RX11 138 RX11 yX11_here wsX11_here) := goodIn_app (goodIn_of _ (by decide +kernel)) ggX11_takeNumber_X11_here
set_option maxRecDepth 20000 in
theorem ggX11_takeNumber_X11_in : GoodIn wsX11_takeNumber wsX11_in := goodIn_r _ [15] (by decide +kernel) (by decide +kernel)
set_option maxRecDepth 20000 in
theorem gX11_takeNumber_X11_in : GoodIn wsX11_takeNumber (va_wsS RX11 126 yX11_in wsX11_in) := goodIn_app (goodIn_of _ (by decide +kernel)) ggX11_takeNumber_X11_in
set_option maxRecDepth 20000 in
theorem ggX11_takeNumber_X11_fails : GoodIn wsX11_takeNumber wsX11_fails := goodIn_r _ [19, 20, 21, 22, 23, 24, 25, 26, 27, 28, 29, 30, 31, 32, 33, 34, 35, 36, 37, 38, 39, 40, 41, 42, 43, 44, 45, 46, 47, 48, 49, 50, 51, 52, 53, 54, 55, 56, 57, 58, 59, 60, 61, 62, 63, 64, 65, 66, 67, 68, 69, 70, 71, 72, 73, 74, 75, 76, 77, 78] (by decide +kernel) (by decide +kernel)
set_option maxRecDepth 20000 in
theorem gX11_takeNumber_X11_fails : GoodIn wsX11_takeNumber (wsV RX11 172 RX11 yX11_fails wsX11_fails) := goodIn_app (goodIn_of _ (by decide +kernel)) ggX11_takeNumber_X11_fails
theorem dX11_takeNumber_0 : decode cX11_takeNumber 0 = .ok (.aload_n 0, 1) := by decide +kernel
theorem dX11_takeNumber_1 : decode cX11_takeNumber 1 = .ok (.invokevirtual 138, 3) := by decide +kernel
theorem dX11_takeNumber_4 : decode cX11_takeNumber 4 = .ok (.istore_n 3, 1) := by decide +kernel
theorem dX11_takeNumber_5 : decode cX11_takeNumber 5 = .ok (.iload_n 3, 1) := by decide +kernel
theorem dX11_takeNumber_6 : decode cX11_takeNumber 6 = .ok (.i2l, 1) := by decide +kernel
theorem dX11_takeNumber_7 : decode cX11_takeNumber 7 = .ok (.ldc2_w 176, 3) := by decide +kernel
theorem dX11_takeNumber_10 : decode cX11_takeNumber 10 = .ok (.ldc2_w 178, 3) := by decide +kernel
theorem dX11_takeNumber_13 : decode cX11_takeNumber 13 = .ok (.invokestatic 126, 3) := by decide +kernel
theorem dX11_takeNumber_16 : decode cX11_takeNumber 16 = .ok (.ifCond .ne 13, 3) := by decide +kernel
theorem dX11_takeNumber_19 : decode cX11_takeNumber 19 = .ok (.aload_n 0, 1) := by decide +kernel
theorem dX11_takeNumber_20 : decode cX11_takeNumber 20 = .ok (.iconst 1, 1) := by decide +kernel
theorem dX11_takeNumber_21 : decode cX11_takeNumber 21 = .ok (.aload_n 0, 1) := by decide +kernel
theorem dX11_takeNumber_22 : decode cX11_takeNumber 22 = .ok (.getfield 135, 3) := by decide +kernel
theorem dX11_takeNumber_25 : decode cX11_takeNumber 25 = .ok (.invokevirtual 172, 3) := by decide +kernel
theorem dX11_takeNumber_28 : decode cX11_takeNumber 28 = .ok (.ireturn, 1) := by decide +kernel
theorem dX11_takeNumber_29 : decode cX11_takeNumber 29 = .ok (.aload_n 0, 1) := by decide +kernel
theorem dX11_takeNumber_30 : decode cX11_takeNumber 30 = .ok (.aload_n 0, 1) := by decide +kernel
theorem dX11_takeNumber_31 : decode cX11_takeNumber 31 = .ok (.getfield 135, 3) := by decide +kernel
theorem dX11_takeNumber_34 : decode cX11_takeNumber 34 = .ok (.putfield 180, 3) := by decide +kernel
theorem dX11_takeNumber_37 : decode cX11_takeNumber 37 = .ok (.aload_n 0, 1) := by decide +kernel
theorem dX11_takeNumber_38 : decode cX11_takeNumber 38 = .ok (.iconst 0, 1) := by decide +kernel
theorem dX11_takeNumber_39 : decode cX11_takeNumber 39 = .ok (.putfield 183, 3) := by decide +kernel
theorem dX11_takeNumber_42 : decode cX11_takeNumber 42 = .ok (.aload_n 0, 1) := by decide +kernel
theorem dX11_takeNumber_43 : decode cX11_takeNumber 43 = .ok (.getfield 135, 3) := by decide +kernel
theorem dX11_takeNumber_46 : decode cX11_takeNumber 46 = .ok (.aload_n 0, 1) := by decide +kernel
theorem dX11_takeNumber_47 : decode cX11_takeNumber 47 = .ok (.getfield 130, 3) := by decide +kernel
theorem dX11_takeNumber_50 : decode cX11_takeNumber 50 = .ok (.if_icmp .ge 79, 3) := by decide +kernel
theorem dX11_takeNumber_53 : decode cX11_takeNumber 53 = .ok (.aload_n 0, 1) := by decide +kernel
theorem dX11_takeNumber_54 : decode cX11_takeNumber 54 = .ok (.getfield 22, 3) := by decide +kernel
theorem dX11_takeNumber_57 : decode cX11_takeNumber 57 = .ok (.aload_n 0, 1) := by decide +kernel
theorem dX11_takeNumber_58 : decode cX11_takeNumber 58 = .ok (.getfield 135, 3) := by decide +kernel
theorem dX11_takeNumber_61 : decode cX11_takeNumber 61 = .ok (.iaload, 1) := by decide +kernel
theorem dX11_takeNumber_62 : decode cX11_takeNumber 62 = .ok (.i2l, 1) := by decide +kernel
theorem dX11_takeNumber_63 : decode cX11_takeNumber 63 = .ok (.ldc2_w 176, 3) := by decide +kernel
theorem dX11_takeNumber_66 : decode cX11_takeNumber 66 = .ok (.ldc2_w 178, 3) := by decide +kernel
theorem dX11_takeNumber_69 : decode cX11_takeNumber 69 = .ok (.invokestatic 126, 3) := by decide +kernel
theorem dX11_takeNumber_72 : decode cX11_takeNumber 72 = .ok (.ifCond .eq 57, 3) := by decide +kernel
theorem dX11_takeNumber_75 : decode cX11_takeNumber 75 = .ok (.aload_n 0, 1) := by decide +kernel
theorem dX11_takeNumber_76 : decode cX11_takeNumber 76 = .ok (.aload_n 0, 1) := by decide +kernel
theorem dX11_takeNumber_77 : decode cX11_takeNumber 77 = .ok (.getfield 183, 3) := by decide +kernel
theorem dX11_takeNumber_80 : decode cX11_takeNumber 80 = .ok (.sipush 10000, 3) := by decide +kernel
theorem dX11_takeNumber_83 : decode cX11_takeNumber 83 = .ok (.if_icmp .le 10, 3) := by decide +kernel
theorem dX11_takeNumber_86 : decode cX11_takeNumber 86 = .ok (.aload_n 0, 1) := by decide +kernel
theorem dX11_takeNumber_87 : decode cX11_takeNumber 87 = .ok (.getfield 183, 3) := by decide +kernel
theorem dX11_takeNumber_90 : decode cX11_takeNumber 90 = .ok (.goto 23, 3) := by decide +kernel
theorem dX11_takeNumber_93 : decode cX11_takeNumber 93 = .ok (.bipush 10, 2) := by decide +kernel
theorem dX11_takeNumber_95 : decode cX11_takeNumber 95 = .ok (.aload_n 0, 1) := by decide +kernel
theorem dX11_takeNumber_96 : decode cX11_takeNumber 96 = .ok (.getfield 183, 3) := by decide +kernel
theorem dX11_takeNumber_99 : decode cX11_takeNumber 99 = .ok (.imul, 1) := by decide +kernel
theorem dX11_takeNumber_100 : decode cX11_takeNumber 100 = .ok (.aload_n 0, 1) := by decide +kernel
theorem dX11_takeNumber_101 : decode cX11_takeNumber 101 = .ok (.getfield 22, 3) := by decide +kernel
theorem dX11_takeNumber_104 : decode cX11_takeNumber 104 = .ok (.aload_n 0, 1) := by decide +kernel
theorem dX11_takeNumber_105 : decode cX11_takeNumber 105 = .ok (.getfield 135, 3) := by decide +kernel
theorem dX11_takeNumber_108 : decode cX11_takeNumber 108 = .ok (.iaload, 1) := by decide +kernel
theorem dX11_takeNumber_109 : decode cX11_takeNumber 109 = .ok (.iadd, 1) := by decide +kernel
theorem dX11_takeNumber_110 : decode cX11_takeNumber 110 = .ok (.bipush 48, 2) := by decide +kernel
theorem dX11_takeNumber_112 : decode cX11_takeNumber 112 = .ok (.isub, 1) := by decide +kernel
theorem dX11_takeNumber_113 : decode cX11_takeNumber 113 = .ok (.putfield 183, 3) := by decide +kernel
theorem dX11_takeNumber_116 : decode cX11_takeNumber 116 = .ok (.aload_n 0, 1) := by decide +kernel
theorem dX11_takeNumber_117 : decode cX11_takeNumber 117 = .ok (.dup, 1) := by decide +kernel
theorem dX11_takeNumber_118 : decode cX11_takeNumber 118 = .ok (.getfield 135, 3) := by decide +kernel
theorem dX11_takeNumber_121 : decode cX11_takeNumber 121 = .ok (.iconst 1, 1) := by decide +kernel
theorem dX11_takeNumber_122 : decode cX11_takeNumber 122 = .ok (.iadd, 1) := by decide +kernel
theorem dX11_takeNumber_123 : decode cX11_takeNumber 123 = .ok (.putfield 135, 3) := by decide +kernel
theorem dX11_takeNumber_126 : decode cX11_takeNumber 126 = .ok (.goto (-84), 3) := by decide +kernel
theorem dX11_takeNumber_129 : decode cX11_takeNumber 129 = .ok (.aload_n 0, 1) := by decide +kernel
theorem dX11_takeNumber_130 : decode cX11_takeNumber 130 = .ok (.getfield 135, 3) := by decide +kernel
theorem dX11_takeNumber_133 : decode cX11_takeNumber 133 = .ok (.aload_n 0, 1) := by decide +kernel
theorem dX11_takeNumber_134 : decode cX11_takeNumber 134 = .ok (.getfield 180, 3) := by decide +kernel
theorem dX11_takeNumber_137 : decode cX11_takeNumber 137 = .ok (.isub, 1) := by decide +kernel
theorem dX11_takeNumber_138 : decode cX11_takeNumber 138 = .ok (.iconst 3, 1) := by decide +kernel
theorem dX11_takeNumber_139 : decode cX11_takeNumber 139 = .ok (.if_icmp .gt 18, 3) := by decide +kernel
theorem dX11_takeNumber_142 : decode cX11_takeNumber 142 = .ok (.aload_n 0, 1) := by decide +kernel
theorem dX11_takeNumber_143 : decode cX11_takeNumber 143 = .ok (.getfield 183, 3) := by decide +kernel
theorem dX11_takeNumber_146 : decode cX11_takeNumber 146 = .ok (.i2l, 1) := by decide +kernel
theorem dX11_takeNumber_147 : decode cX11_takeNumber 147 = .ok (.iload_n 1, 1) := by decide +kernel
theorem dX11_takeNumber_148 : decode cX11_takeNumber 148 = .ok (.i2l, 1) := by decide +kernel
theorem dX11_takeNumber_149 : decode cX11_takeNumber 149 = .ok (.iload_n 2, 1) := by decide +kernel
theorem dX11_takeNumber_150 : decode cX11_takeNumber 150 = .ok (.i2l, 1) := by decide +kernel
theorem dX11_takeNumber_151 : decode cX11_takeNumber 151 = .ok (.invokestatic 126, 3) := by decide +kernel
theorem dX11_takeNumber_154 : decode cX11_takeNumber 154 = .ok (.ifCond .ne 15, 3) := by decide +kernel
theorem dX11_takeNumber_157 : decode cX11_takeNumber 157 = .ok (.aload_n 0, 1) := by decide +kernel
theorem dX11_takeNumber_158 : decode cX11_takeNumber 158 = .ok (.iconst 2, 1) := by decide +kernel
theorem dX11_takeNumber_159 : decode cX11_takeNumber 159 = .ok (.aload_n 0, 1) := by decide +kernel
theorem dX11_takeNumber_160 : decode cX11_takeNumber 160 = .ok (.getfield 180, 3) := by decide +kernel
theorem dX11_takeNumber_163 : decode cX11_takeNumber 163 = .ok (.invokevirtual 172, 3) := by decide +kernel
theorem dX11_takeNumber_166 : decode cX11_takeNumber 166 = .ok (.goto 4, 3) := by decide +kernel
theorem dX11_takeNumber_169 : decode cX11_takeNumber 169 = .ok (.iconst 0, 1) := by decide +kernel
theorem dX11_takeNumber_170 : decode cX11_takeNumber 170 = .ok (.ireturn, 1) := by decide +kernel
theorem dX11_bare_0 : decode cX11_bare 0 = .ok (.aload_n 0, 1) := by decide +kernel
theorem dX11_bare_1 : decode cX11_bare 1 = .ok (.iconst 0, 1) := by decide +kernel
theorem dX11_bare_2 : decode cX11_bare 2 = .ok (.putfield 186, 3) := by decide +kernel
theorem dX11_bare_5 : decode cX11_bare 5 = .ok (.aload_n 0, 1) := by decide +kernel
theorem dX11_bare_6 : decode cX11_bare 6 = .ok (.iconst 0, 1) := by decide +kernel
theorem dX11_bare_7 : decode cX11_bare 7 = .ok (.putfield 189, 3) := by decide +kernel
theorem dX11_bare_10 : decode cX11_bare 10 = .ok (.aload_n 0, 1) := by decide +kernel
theorem dX11_bare_11 : decode cX11_bare 11 = .ok (.iconst 0, 1) := by decide +kernel
theorem dX11_bare_12 : decode cX11_bare 12 = .ok (.putfield 192, 3) := by decide +kernel
theorem dX11_bare_15 : decode cX11_bare 15 = .ok (.iconst 0, 1) := by decide +kernel
theorem dX11_bare_16 : decode cX11_bare 16 = .ok (.istore_n 1, 1) := by decide +kernel
theorem dX11_bare_17 : decode cX11_bare 17 = .ok (.iload_n 1, 1) := by decide +kernel
theorem dX11_bare_18 : decode cX11_bare 18 = .ok (.iconst 4, 1) := by decide +kernel
theorem dX11_bare_19 : decode cX11_bare 19 = .ok (.if_icmp .ge 43, 3) := by decide +kernel
theorem dX11_bare_22 : decode cX11_bare 22 = .ok (.aload_n 0, 1) := by decide +kernel
theorem dX11_bare_23 : decode cX11_bare 23 = .ok (.getfield 35, 3) := by decide +kernel
theorem dX11_bare_26 : decode cX11_bare 26 = .ok (.iconst 3, 1) := by decide +kernel
theorem dX11_bare_27 : decode cX11_bare 27 = .ok (.iload_n 1, 1) := by decide +kernel
theorem dX11_bare_28 : decode cX11_bare 28 = .ok (.imul, 1) := by decide +kernel
theorem dX11_bare_29 : decode cX11_bare 29 = .ok (.bipush 10, 2) := by decide +kernel
theorem dX11_bare_31 : decode cX11_bare 31 = .ok (.iastore, 1) := by decide +kernel
theorem dX11_bare_32 : decode cX11_bare 32 = .ok (.aload_n 0, 1) := by decide +kernel
theorem dX11_bare_33 : decode cX11_bare 33 = .ok (.getfield 35, 3) := by decide +kernel
theorem dX11_bare_36 : decode cX11_bare 36 = .ok (.iconst 3, 1) := by decide +kernel
theorem dX11_bare_37 : decode cX11_bare 37 = .ok (.iload_n 1, 1) := by decide +kernel
theorem dX11_bare_38 : decode cX11_bare 38 = .ok (.imul, 1) := by decide +kernel
theorem dX11_bare_39 : decode cX11_bare 39 = .ok (.iconst 1, 1) := by decide +kernel
theorem dX11_bare_40 : decode cX11_bare 40 = .ok (.iadd, 1) := by decide +kernel
theorem dX11_bare_41 : decode cX11_bare 41 = .ok (.bipush 20, 2) := by decide +kernel
theorem dX11_bare_43 : decode cX11_bare 43 = .ok (.iastore, 1) := by decide +kernel
theorem dX11_bare_44 : decode cX11_bare 44 = .ok (.aload_n 0, 1) := by decide +kernel
theorem dX11_bare_45 : decode cX11_bare 45 = .ok (.getfield 35, 3) := by decide +kernel
theorem dX11_bare_48 : decode cX11_bare 48 = .ok (.iconst 3, 1) := by decide +kernel
theorem dX11_bare_49 : decode cX11_bare 49 = .ok (.iload_n 1, 1) := by decide +kernel
theorem dX11_bare_50 : decode cX11_bare 50 = .ok (.imul, 1) := by decide +kernel
theorem dX11_bare_51 : decode cX11_bare 51 = .ok (.iconst 2, 1) := by decide +kernel
theorem dX11_bare_52 : decode cX11_bare 52 = .ok (.iadd, 1) := by decide +kernel
theorem dX11_bare_53 : decode cX11_bare 53 = .ok (.bipush 70, 2) := by decide +kernel
theorem dX11_bare_55 : decode cX11_bare 55 = .ok (.iastore, 1) := by decide +kernel
theorem dX11_bare_56 : decode cX11_bare 56 = .ok (.iinc 1 1, 3) := by decide +kernel
theorem dX11_bare_59 : decode cX11_bare 59 = .ok (.goto (-42), 3) := by decide +kernel
theorem dX11_bare_62 : decode cX11_bare 62 = .ok (.aload_n 0, 1) := by decide +kernel
theorem dX11_bare_63 : decode cX11_bare 63 = .ok (.getfield 38, 3) := by decide +kernel
theorem dX11_bare_66 : decode cX11_bare 66 = .ok (.iconst 0, 1) := by decide +kernel
theorem dX11_bare_67 : decode cX11_bare 67 = .ok (.iconst 1, 1) := by decide +kernel
theorem dX11_bare_68 : decode cX11_bare 68 = .ok (.iastore, 1) := by decide +kernel
theorem dX11_bare_69 : decode cX11_bare 69 = .ok (.aload_n 0, 1) := by decide +kernel
theorem dX11_bare_70 : decode cX11_bare 70 = .ok (.getfield 38, 3) := by decide +kernel
theorem dX11_bare_73 : decode cX11_bare 73 = .ok (.iconst 1, 1) := by decide +kernel
theorem dX11_bare_74 : decode cX11_bare 74 = .ok (.iconst 2, 1) := by decide +kernel
theorem dX11_bare_75 : decode cX11_bare 75 = .ok (.iastore, 1) := by decide +kernel
theorem dX11_bare_76 : decode cX11_bare 76 = .ok (.aload_n 0, 1) := by decide +kernel
theorem dX11_bare_77 : decode cX11_bare 77 = .ok (.getfield 38, 3) := by decide +kernel
theorem dX11_bare_80 : decode cX11_bare 80 = .ok (.iconst 2, 1) := by decide +kernel
theorem dX11_bare_81 : decode cX11_bare 81 = .ok (.iconst 5, 1) := by decide +kernel
theorem dX11_bare_82 : decode cX11_bare 82 = .ok (.iastore, 1) := by decide +kernel
theorem dX11_bare_83 : decode cX11_bare 83 = .ok (.aload_n 0, 1) := by decide +kernel
theorem dX11_bare_84 : decode cX11_bare 84 = .ok (.getfield 38, 3) := by decide +kernel
theorem dX11_bare_87 : decode cX11_bare 87 = .ok (.iconst 3, 1) := by decide +kernel
theorem dX11_bare_88 : decode cX11_bare 88 = .ok (.iconst 2, 1) := by decide +kernel
theorem dX11_bare_89 : decode cX11_bare 89 = .ok (.iastore, 1) := by decide +kernel
theorem dX11_bare_90 : decode cX11_bare 90 = .ok (.aload_n 0, 1) := by decide +kernel
theorem dX11_bare_91 : decode cX11_bare 91 = .ok (.getfield 38, 3) := by decide +kernel
theorem dX11_bare_94 : decode cX11_bare 94 = .ok (.iconst 4, 1) := by decide +kernel
theorem dX11_bare_95 : decode cX11_bare 95 = .ok (.iconst 1, 1) := by decide +kernel
theorem dX11_bare_96 : decode cX11_bare 96 = .ok (.iastore, 1) := by decide +kernel
theorem dX11_bare_97 : decode cX11_bare 97 = .ok (.return_, 1) := by decide +kernel
set_option maxRecDepth 20000 in
theorem ggX11_takeRow_X11_takeNumber : GoodIn wsX11_takeRow wsX11_takeNumber := goodIn_r _ [10, 11, 12, 13, 3, 1, 14, 15, 16, 17, 18, 9, 19, 20, 21, 22, 23, 24, 25, 26, 27, 50, 51, 52, 53, 54, 55, 56, 57, 58, 59, 60, 61, 62, 63, 64, 65, 66, 67, 68, 69, 70, 71, 72, 73, 74, 75, 76, 77, 78, 79, 80, 81, 82, 83, 84, 85, 86, 87, 88, 89, 90, 91, 92, 93, 94, 95, 96, 97, 98, 99, 100, 101, 102, 103, 104, 105, 106, 107] (by decide +kernel) (by decide +kernel)
set_option maxRecDepth 20000 in
theorem gX11_takeRow_X11_takeNumber : GoodIn wsX11_takeRow (wsV RX11 195 RX11 yX11_takeNumber wsX11_takeNumber) := goodIn_app (goodIn_of _ (by decide +kernel)) ggX11_takeRow_X11_takeNumber
set_option maxRecDepth 20000 in
theorem ggX11_takeRow_X11_fails : GoodIn wsX11_takeRow wsX11_fails := goodIn_r _ [26, 27, 50, 51, 52, 53, 54, 55, 56, 57, 58, 59, 60, 61, 62, 63, 64, 65, 66, 67, 68, 69, 70, 71, 72, 73, 74, 75, 76, 77, 78, 79, 80, 81, 82, 83, 84, 85, 86, 87, 88, 89, 90, 91, 92, 93, 94, 95, 96, 97, 98, 99, 100, 101, 102, 103, 104, 105, 106, 107] (by decide +kernel) (by decide +kernel)
set_option maxRecDepth 20000 in
theorem gX11_takeRow_X11_fails : GoodIn wsX11_takeRow (wsV RX11 172 RX11 yX11_fails wsX11_fails) := goodIn_app (goodIn_of _ (by decide +kernel)) ggX11_takeRow_X11_fails
set_option maxRecDepth 20000 in
theorem ggX11_takeRow_X11_code : GoodIn wsX11_takeRow wsX11_code := goodIn_r _ [30, 31, 32] (by decide +kernel) (by decide +kernel)
set_option maxRecDepth 20000 in
theorem gX11_takeRow_X11_code : GoodIn wsX11_takeRow (va_wsS RX11 161 yX11_code wsX11_code) := goodIn_app (goodIn_of _ (by decide +kernel)) ggX11_takeRow_X11_code
set_option maxRecDepth 20000 in
theorem ggX11_takeRow_X11_longer : GoodIn wsX11_takeRow wsX11_longer := goodIn_r _ [35, 31, 32] (by decide +kernel) (by decide +kernel)
set_option maxRecDepth 20000 in
theorem gX11_takeRow_X11_longer : GoodIn wsX11_takeRow (va_wsS RX11 165 yX11_longer wsX11_longer) := goodIn_app (goodIn_of _ (by decide +kernel)) ggX11_takeRow_X11_longer
set_option maxRecDepth 20000 in
theorem ggX11_takeRow_X11_needs : GoodIn wsX11_takeRow wsX11_needs := goodIn_r _ [39, 40, 13, 41, 42, 43, 44, 9, 45, 14, 15, 46, 47, 48, 49, 31, 32, 16, 17, 18, 19, 20, 21, 22, 23, 24, 25, 26, 27, 50, 51, 52, 53, 54, 55, 56, 57, 58, 59, 60, 61, 62, 63, 64, 65, 66, 67, 68, 69, 70, 71, 72, 73, 74, 75, 76, 77, 78, 79, 80, 81, 82, 83, 84, 85, 86, 87, 88, 89, 90, 91, 92, 93, 94, 95, 96, 97, 98, 99, 100, 101, 102, 103, 104, 105, 106, 107] (by decide +kernel) (by decide +kernel)
set_option maxRecDepth 20000 in
theorem gX11_takeRow_X11_needs : GoodIn wsX11_takeRow (wsV RX11 198 RX11 yX11_needs wsX11_needs) := goodIn_app (goodIn_of _ (by decide +kernel)) ggX11_takeRow_X11_needs
theorem dX11_takeRow_0 : decode cX11_takeRow 0 = .ok (.aload_n 0, 1) := by decide +kernel
theorem dX11_takeRow_1 : decode cX11_takeRow 1 = .ok (.iconst 1, 1) := by decide +kernel
theorem dX11_takeRow_2 : decode cX11_takeRow 2 = .ok (.bipush 24, 2) := by decide +kernel
theorem dX11_takeRow_4 : decode cX11_takeRow 4 = .ok (.invokevirtual 195, 3) := by decide +kernel
theorem dX11_takeRow_7 : decode cX11_takeRow 7 = .ok (.istore_n 1, 1) := by decide +kernel
theorem dX11_takeRow_8 : decode cX11_takeRow 8 = .ok (.aload_n 0, 1) := by decide +kernel
theorem dX11_takeRow_9 : decode cX11_takeRow 9 = .ok (.getfield 183, 3) := by decide +kernel
theorem dX11_takeRow_12 : decode cX11_takeRow 12 = .ok (.istore_n 2, 1) := by decide +kernel
theorem dX11_takeRow_13 : decode cX11_takeRow 13 = .ok (.iload_n 1, 1) := by decide +kernel
theorem dX11_takeRow_14 : decode cX11_takeRow 14 = .ok (.ifCond .ne 24, 3) := by decide +kernel
theorem dX11_takeRow_17 : decode cX11_takeRow 17 = .ok (.aload_n 0, 1) := by decide +kernel
theorem dX11_takeRow_18 : decode cX11_takeRow 18 = .ok (.getfield 186, 3) := by decide +kernel
theorem dX11_takeRow_21 : decode cX11_takeRow 21 = .ok (.iload_n 2, 1) := by decide +kernel
theorem dX11_takeRow_22 : decode cX11_takeRow 22 = .ok (.iadd, 1) := by decide +kernel
theorem dX11_takeRow_23 : decode cX11_takeRow 23 = .ok (.bipush 24, 2) := by decide +kernel
theorem dX11_takeRow_25 : decode cX11_takeRow 25 = .ok (.if_icmp .le 13, 3) := by decide +kernel
theorem dX11_takeRow_28 : decode cX11_takeRow 28 = .ok (.aload_n 0, 1) := by decide +kernel
theorem dX11_takeRow_29 : decode cX11_takeRow 29 = .ok (.iconst 4, 1) := by decide +kernel
theorem dX11_takeRow_30 : decode cX11_takeRow 30 = .ok (.aload_n 0, 1) := by decide +kernel
theorem dX11_takeRow_31 : decode cX11_takeRow 31 = .ok (.getfield 180, 3) := by decide +kernel
theorem dX11_takeRow_34 : decode cX11_takeRow 34 = .ok (.invokevirtual 172, 3) := by decide +kernel
theorem dX11_takeRow_37 : decode cX11_takeRow 37 = .ok (.istore_n 1, 1) := by decide +kernel
theorem dX11_takeRow_38 : decode cX11_takeRow 38 = .ok (.iload_n 1, 1) := by decide +kernel
theorem dX11_takeRow_39 : decode cX11_takeRow 39 = .ok (.ifCond .le 7, 3) := by decide +kernel
theorem dX11_takeRow_42 : decode cX11_takeRow 42 = .ok (.iload_n 1, 1) := by decide +kernel
theorem dX11_takeRow_43 : decode cX11_takeRow 43 = .ok (.goto 21, 3) := by decide +kernel
theorem dX11_takeRow_46 : decode cX11_takeRow 46 = .ok (.aload_n 0, 1) := by decide +kernel
theorem dX11_takeRow_47 : decode cX11_takeRow 47 = .ok (.bipush 107, 2) := by decide +kernel
theorem dX11_takeRow_49 : decode cX11_takeRow 49 = .ok (.bipush 105, 2) := by decide +kernel
theorem dX11_takeRow_51 : decode cX11_takeRow 51 = .ok (.bipush 110, 2) := by decide +kernel
theorem dX11_takeRow_53 : decode cX11_takeRow 53 = .ok (.invokestatic 161, 3) := by decide +kernel
theorem dX11_takeRow_56 : decode cX11_takeRow 56 = .ok (.bipush 100, 2) := by decide +kernel
theorem dX11_takeRow_58 : decode cX11_takeRow 58 = .ok (.invokestatic 165, 3) := by decide +kernel
theorem dX11_takeRow_61 : decode cX11_takeRow 61 = .ok (.invokevirtual 198, 3) := by decide +kernel
theorem dX11_takeRow_64 : decode cX11_takeRow 64 = .ok (.istore_n 1, 1) := by decide +kernel
theorem dX11_takeRow_65 : decode cX11_takeRow 65 = .ok (.iload_n 1, 1) := by decide +kernel
theorem dX11_takeRow_66 : decode cX11_takeRow 66 = .ok (.ifCond .le 7, 3) := by decide +kernel
theorem dX11_takeRow_69 : decode cX11_takeRow 69 = .ok (.iload_n 1, 1) := by decide +kernel
theorem dX11_takeRow_70 : decode cX11_takeRow 70 = .ok (.goto 9, 3) := by decide +kernel
theorem dX11_takeRow_73 : decode cX11_takeRow 73 = .ok (.aload_n 0, 1) := by decide +kernel
theorem dX11_takeRow_74 : decode cX11_takeRow 74 = .ok (.iconst 0, 1) := by decide +kernel
theorem dX11_takeRow_75 : decode cX11_takeRow 75 = .ok (.iconst 2, 1) := by decide +kernel
theorem dX11_takeRow_76 : decode cX11_takeRow 76 = .ok (.invokevirtual 195, 3) := by decide +kernel
theorem dX11_takeRow_79 : decode cX11_takeRow 79 = .ok (.istore_n 1, 1) := by decide +kernel
theorem dX11_takeRow_80 : decode cX11_takeRow 80 = .ok (.aload_n 0, 1) := by decide +kernel
theorem dX11_takeRow_81 : decode cX11_takeRow 81 = .ok (.getfield 183, 3) := by decide +kernel
theorem dX11_takeRow_84 : decode cX11_takeRow 84 = .ok (.istore_n 3, 1) := by decide +kernel
theorem dX11_takeRow_85 : decode cX11_takeRow 85 = .ok (.iload_n 1, 1) := by decide +kernel
theorem dX11_takeRow_86 : decode cX11_takeRow 86 = .ok (.ifCond .le 7, 3) := by decide +kernel
theorem dX11_takeRow_89 : decode cX11_takeRow 89 = .ok (.iload_n 1, 1) := by decide +kernel
theorem dX11_takeRow_90 : decode cX11_takeRow 90 = .ok (.goto 21, 3) := by decide +kernel
theorem dX11_takeRow_93 : decode cX11_takeRow 93 = .ok (.aload_n 0, 1) := by decide +kernel
theorem dX11_takeRow_94 : decode cX11_takeRow 94 = .ok (.bipush 119, 2) := by decide +kernel
theorem dX11_takeRow_96 : decode cX11_takeRow 96 = .ok (.bipush 97, 2) := by decide +kernel
theorem dX11_takeRow_98 : decode cX11_takeRow 98 = .ok (.bipush 108, 2) := by decide +kernel
theorem dX11_takeRow_100 : decode cX11_takeRow 100 = .ok (.invokestatic 161, 3) := by decide +kernel
theorem dX11_takeRow_103 : decode cX11_takeRow 103 = .ok (.bipush 107, 2) := by decide +kernel
theorem dX11_takeRow_105 : decode cX11_takeRow 105 = .ok (.invokestatic 165, 3) := by decide +kernel
theorem dX11_takeRow_108 : decode cX11_takeRow 108 = .ok (.invokevirtual 198, 3) := by decide +kernel
theorem dX11_takeRow_111 : decode cX11_takeRow 111 = .ok (.istore_n 1, 1) := by decide +kernel
theorem dX11_takeRow_112 : decode cX11_takeRow 112 = .ok (.iload_n 1, 1) := by decide +kernel
theorem dX11_takeRow_113 : decode cX11_takeRow 113 = .ok (.ifCond .le 7, 3) := by decide +kernel
theorem dX11_takeRow_116 : decode cX11_takeRow 116 = .ok (.iload_n 1, 1) := by decide +kernel
theorem dX11_takeRow_117 : decode cX11_takeRow 117 = .ok (.goto 10, 3) := by decide +kernel
theorem dX11_takeRow_120 : decode cX11_takeRow 120 = .ok (.aload_n 0, 1) := by decide +kernel
theorem dX11_takeRow_121 : decode cX11_takeRow 121 = .ok (.iconst 0, 1) := by decide +kernel
theorem dX11_takeRow_122 : decode cX11_takeRow 122 = .ok (.bipush 99, 2) := by decide +kernel
theorem dX11_takeRow_124 : decode cX11_takeRow 124 = .ok (.invokevirtual 195, 3) := by decide +kernel
theorem dX11_takeRow_127 : decode cX11_takeRow 127 = .ok (.istore_n 1, 1) := by decide +kernel
theorem dX11_takeRow_128 : decode cX11_takeRow 128 = .ok (.iconst 0, 1) := by decide +kernel
theorem dX11_takeRow_129 : decode cX11_takeRow 129 = .ok (.istore 4, 2) := by decide +kernel
theorem dX11_takeRow_131 : decode cX11_takeRow 131 = .ok (.iload 4, 2) := by decide +kernel
theorem dX11_takeRow_133 : decode cX11_takeRow 133 = .ok (.iload_n 2, 1) := by decide +kernel
theorem dX11_takeRow_134 : decode cX11_takeRow 134 = .ok (.if_icmp .ge 49, 3) := by decide +kernel
theorem dX11_takeRow_137 : decode cX11_takeRow 137 = .ok (.iload_n 1, 1) := by decide +kernel
theorem dX11_takeRow_138 : decode cX11_takeRow 138 = .ok (.ifCond .ne 45, 3) := by decide +kernel
theorem dX11_takeRow_141 : decode cX11_takeRow 141 = .ok (.aload_n 0, 1) := by decide +kernel
theorem dX11_takeRow_142 : decode cX11_takeRow 142 = .ok (.getfield 29, 3) := by decide +kernel
theorem dX11_takeRow_145 : decode cX11_takeRow 145 = .ok (.aload_n 0, 1) := by decide +kernel
theorem dX11_takeRow_146 : decode cX11_takeRow 146 = .ok (.getfield 186, 3) := by decide +kernel
theorem dX11_takeRow_149 : decode cX11_takeRow 149 = .ok (.iload_n 3, 1) := by decide +kernel
theorem dX11_takeRow_150 : decode cX11_takeRow 150 = .ok (.iastore, 1) := by decide +kernel
theorem dX11_takeRow_151 : decode cX11_takeRow 151 = .ok (.aload_n 0, 1) := by decide +kernel
theorem dX11_takeRow_152 : decode cX11_takeRow 152 = .ok (.getfield 32, 3) := by decide +kernel
theorem dX11_takeRow_155 : decode cX11_takeRow 155 = .ok (.aload_n 0, 1) := by decide +kernel
theorem dX11_takeRow_156 : decode cX11_takeRow 156 = .ok (.getfield 186, 3) := by decide +kernel
theorem dX11_takeRow_159 : decode cX11_takeRow 159 = .ok (.aload_n 0, 1) := by decide +kernel
theorem dX11_takeRow_160 : decode cX11_takeRow 160 = .ok (.getfield 183, 3) := by decide +kernel
theorem dX11_takeRow_163 : decode cX11_takeRow 163 = .ok (.iload 4, 2) := by decide +kernel
theorem dX11_takeRow_165 : decode cX11_takeRow 165 = .ok (.iadd, 1) := by decide +kernel
theorem dX11_takeRow_166 : decode cX11_takeRow 166 = .ok (.iastore, 1) := by decide +kernel
theorem dX11_takeRow_167 : decode cX11_takeRow 167 = .ok (.aload_n 0, 1) := by decide +kernel
theorem dX11_takeRow_168 : decode cX11_takeRow 168 = .ok (.dup, 1) := by decide +kernel
theorem dX11_takeRow_169 : decode cX11_takeRow 169 = .ok (.getfield 186, 3) := by decide +kernel
theorem dX11_takeRow_172 : decode cX11_takeRow 172 = .ok (.iconst 1, 1) := by decide +kernel
theorem dX11_takeRow_173 : decode cX11_takeRow 173 = .ok (.iadd, 1) := by decide +kernel
theorem dX11_takeRow_174 : decode cX11_takeRow 174 = .ok (.putfield 186, 3) := by decide +kernel
theorem dX11_takeRow_177 : decode cX11_takeRow 177 = .ok (.iinc 4 1, 3) := by decide +kernel
theorem dX11_takeRow_180 : decode cX11_takeRow 180 = .ok (.goto (-49), 3) := by decide +kernel
theorem dX11_takeRow_183 : decode cX11_takeRow 183 = .ok (.iload_n 1, 1) := by decide +kernel
theorem dX11_takeRow_184 : decode cX11_takeRow 184 = .ok (.ireturn, 1) := by decide +kernel
set_option maxRecDepth 20000 in
theorem ggX11_takeOdds_X11_takeNumber : GoodIn wsX11_takeOdds wsX11_takeNumber := goodIn_r _ [9, 10, 11, 12, 3, 1, 13, 14, 15, 16, 17, 8, 18, 19, 20, 21, 22, 23, 24, 25, 26, 27, 28, 29, 30, 31, 32, 33, 34, 35, 36, 37, 38, 39, 40, 41, 42, 43, 44, 45, 46, 47, 48, 49, 50, 51, 52, 53, 54, 55, 56, 57, 58, 59, 60, 61, 62, 63, 64, 65, 66, 67, 68, 69, 70, 71, 72, 73, 74, 75, 76, 77, 78, 79, 80, 81, 82, 83, 84] (by decide +kernel) (by decide +kernel)
set_option maxRecDepth 20000 in
theorem gX11_takeOdds_X11_takeNumber : GoodIn wsX11_takeOdds (wsV RX11 195 RX11 yX11_takeNumber wsX11_takeNumber) := goodIn_app (goodIn_of _ (by decide +kernel)) ggX11_takeOdds_X11_takeNumber
set_option maxRecDepth 20000 in
theorem ggX11_takeOdds_X11_fails : GoodIn wsX11_takeOdds wsX11_fails := goodIn_r _ [25, 26, 27, 28, 29, 30, 31, 32, 33, 34, 35, 36, 37, 38, 39, 40, 41, 42, 43, 44, 45, 46, 47, 48, 49, 50, 51, 52, 53, 54, 55, 56, 57, 58, 59, 60, 61, 62, 63, 64, 65, 66, 67, 68, 69, 70, 71, 72, 73, 74, 75, 76, 77, 78, 79, 80, 81, 82, 83, 84] (by decide +kernel) (by decide +kernel)
set_option maxRecDepth 20000 in
theorem gX11_takeOdds_X11_fails : GoodIn wsX11_takeOdds (wsV RX11 172 RX11 yX11_fails wsX11_fails) := goodIn_app (goodIn_of _ (by decide +kernel)) ggX11_takeOdds_X11_fails
theorem dX11_takeOdds_0 : decode cX11_takeOdds 0 = .ok (.aload_n 0, 1) := by decide +kernel
theorem dX11_takeOdds_1 : decode cX11_takeOdds 1 = .ok (.iconst 0, 1) := by decide +kernel
theorem dX11_takeOdds_2 : decode cX11_takeOdds 2 = .ok (.iconst 3, 1) := by decide +kernel
theorem dX11_takeOdds_3 : decode cX11_takeOdds 3 = .ok (.invokevirtual 195, 3) := by decide +kernel
theorem dX11_takeOdds_6 : decode cX11_takeOdds 6 = .ok (.istore_n 1, 1) := by decide +kernel
theorem dX11_takeOdds_7 : decode cX11_takeOdds 7 = .ok (.aload_n 0, 1) := by decide +kernel
theorem dX11_takeOdds_8 : decode cX11_takeOdds 8 = .ok (.getfield 183, 3) := by decide +kernel
theorem dX11_takeOdds_11 : decode cX11_takeOdds 11 = .ok (.istore_n 2, 1) := by decide +kernel
theorem dX11_takeOdds_12 : decode cX11_takeOdds 12 = .ok (.iload_n 1, 1) := by decide +kernel
theorem dX11_takeOdds_13 : decode cX11_takeOdds 13 = .ok (.ifCond .ne 25, 3) := by decide +kernel
theorem dX11_takeOdds_16 : decode cX11_takeOdds 16 = .ok (.aload_n 0, 1) := by decide +kernel
theorem dX11_takeOdds_17 : decode cX11_takeOdds 17 = .ok (.getfield 192, 3) := by decide +kernel
theorem dX11_takeOdds_20 : decode cX11_takeOdds 20 = .ok (.iload_n 2, 1) := by decide +kernel
theorem dX11_takeOdds_21 : decode cX11_takeOdds 21 = .ok (.ishr, 1) := by decide +kernel
theorem dX11_takeOdds_22 : decode cX11_takeOdds 22 = .ok (.iconst 1, 1) := by decide +kernel
theorem dX11_takeOdds_23 : decode cX11_takeOdds 23 = .ok (.iand, 1) := by decide +kernel
theorem dX11_takeOdds_24 : decode cX11_takeOdds 24 = .ok (.iconst 1, 1) := by decide +kernel
theorem dX11_takeOdds_25 : decode cX11_takeOdds 25 = .ok (.if_icmp .ne 13, 3) := by decide +kernel
theorem dX11_takeOdds_28 : decode cX11_takeOdds 28 = .ok (.aload_n 0, 1) := by decide +kernel
theorem dX11_takeOdds_29 : decode cX11_takeOdds 29 = .ok (.iconst 3, 1) := by decide +kernel
theorem dX11_takeOdds_30 : decode cX11_takeOdds 30 = .ok (.aload_n 0, 1) := by decide +kernel
theorem dX11_takeOdds_31 : decode cX11_takeOdds 31 = .ok (.getfield 180, 3) := by decide +kernel
theorem dX11_takeOdds_34 : decode cX11_takeOdds 34 = .ok (.invokevirtual 172, 3) := by decide +kernel
theorem dX11_takeOdds_37 : decode cX11_takeOdds 37 = .ok (.istore_n 1, 1) := by decide +kernel
theorem dX11_takeOdds_38 : decode cX11_takeOdds 38 = .ok (.iconst 0, 1) := by decide +kernel
theorem dX11_takeOdds_39 : decode cX11_takeOdds 39 = .ok (.istore_n 3, 1) := by decide +kernel
theorem dX11_takeOdds_40 : decode cX11_takeOdds 40 = .ok (.iconst 0, 1) := by decide +kernel
theorem dX11_takeOdds_41 : decode cX11_takeOdds 41 = .ok (.istore 4, 2) := by decide +kernel
theorem dX11_takeOdds_43 : decode cX11_takeOdds 43 = .ok (.iload 4, 2) := by decide +kernel
theorem dX11_takeOdds_45 : decode cX11_takeOdds 45 = .ok (.iconst 3, 1) := by decide +kernel
theorem dX11_takeOdds_46 : decode cX11_takeOdds 46 = .ok (.if_icmp .ge 43, 3) := by decide +kernel
theorem dX11_takeOdds_49 : decode cX11_takeOdds 49 = .ok (.iload_n 1, 1) := by decide +kernel
theorem dX11_takeOdds_50 : decode cX11_takeOdds 50 = .ok (.ifCond .ne 39, 3) := by decide +kernel
theorem dX11_takeOdds_53 : decode cX11_takeOdds 53 = .ok (.aload_n 0, 1) := by decide +kernel
theorem dX11_takeOdds_54 : decode cX11_takeOdds 54 = .ok (.iconst 0, 1) := by decide +kernel
theorem dX11_takeOdds_55 : decode cX11_takeOdds 55 = .ok (.bipush 100, 2) := by decide +kernel
theorem dX11_takeOdds_57 : decode cX11_takeOdds 57 = .ok (.invokevirtual 195, 3) := by decide +kernel
theorem dX11_takeOdds_60 : decode cX11_takeOdds 60 = .ok (.istore_n 1, 1) := by decide +kernel
theorem dX11_takeOdds_61 : decode cX11_takeOdds 61 = .ok (.aload_n 0, 1) := by decide +kernel
theorem dX11_takeOdds_62 : decode cX11_takeOdds 62 = .ok (.getfield 35, 3) := by decide +kernel
theorem dX11_takeOdds_65 : decode cX11_takeOdds 65 = .ok (.iconst 3, 1) := by decide +kernel
theorem dX11_takeOdds_66 : decode cX11_takeOdds 66 = .ok (.iload_n 2, 1) := by decide +kernel
theorem dX11_takeOdds_67 : decode cX11_takeOdds 67 = .ok (.imul, 1) := by decide +kernel
theorem dX11_takeOdds_68 : decode cX11_takeOdds 68 = .ok (.iload 4, 2) := by decide +kernel
theorem dX11_takeOdds_70 : decode cX11_takeOdds 70 = .ok (.iadd, 1) := by decide +kernel
theorem dX11_takeOdds_71 : decode cX11_takeOdds 71 = .ok (.aload_n 0, 1) := by decide +kernel
theorem dX11_takeOdds_72 : decode cX11_takeOdds 72 = .ok (.getfield 183, 3) := by decide +kernel
theorem dX11_takeOdds_75 : decode cX11_takeOdds 75 = .ok (.iastore, 1) := by decide +kernel
theorem dX11_takeOdds_76 : decode cX11_takeOdds 76 = .ok (.iload_n 3, 1) := by decide +kernel
theorem dX11_takeOdds_77 : decode cX11_takeOdds 77 = .ok (.aload_n 0, 1) := by decide +kernel
theorem dX11_takeOdds_78 : decode cX11_takeOdds 78 = .ok (.getfield 183, 3) := by decide +kernel
theorem dX11_takeOdds_81 : decode cX11_takeOdds 81 = .ok (.iadd, 1) := by decide +kernel
theorem dX11_takeOdds_82 : decode cX11_takeOdds 82 = .ok (.istore_n 3, 1) := by decide +kernel
theorem dX11_takeOdds_83 : decode cX11_takeOdds 83 = .ok (.iinc 4 1, 3) := by decide +kernel
theorem dX11_takeOdds_86 : decode cX11_takeOdds 86 = .ok (.goto (-43), 3) := by decide +kernel
theorem dX11_takeOdds_89 : decode cX11_takeOdds 89 = .ok (.iload_n 1, 1) := by decide +kernel
theorem dX11_takeOdds_90 : decode cX11_takeOdds 90 = .ok (.ifCond .le 5, 3) := by decide +kernel
theorem dX11_takeOdds_93 : decode cX11_takeOdds 93 = .ok (.iload_n 1, 1) := by decide +kernel
theorem dX11_takeOdds_94 : decode cX11_takeOdds 94 = .ok (.ireturn, 1) := by decide +kernel
theorem dX11_takeOdds_95 : decode cX11_takeOdds 95 = .ok (.aload_n 0, 1) := by decide +kernel
theorem dX11_takeOdds_96 : decode cX11_takeOdds 96 = .ok (.dup, 1) := by decide +kernel
theorem dX11_takeOdds_97 : decode cX11_takeOdds 97 = .ok (.getfield 192, 3) := by decide +kernel
theorem dX11_takeOdds_100 : decode cX11_takeOdds 100 = .ok (.iconst 1, 1) := by decide +kernel
theorem dX11_takeOdds_101 : decode cX11_takeOdds 101 = .ok (.iload_n 2, 1) := by decide +kernel
theorem dX11_takeOdds_102 : decode cX11_takeOdds 102 = .ok (.ishl, 1) := by decide +kernel
theorem dX11_takeOdds_103 : decode cX11_takeOdds 103 = .ok (.ior, 1) := by decide +kernel
theorem dX11_takeOdds_104 : decode cX11_takeOdds 104 = .ok (.putfield 192, 3) := by decide +kernel
theorem dX11_takeOdds_107 : decode cX11_takeOdds 107 = .ok (.iload_n 3, 1) := by decide +kernel
theorem dX11_takeOdds_108 : decode cX11_takeOdds 108 = .ok (.bipush 100, 2) := by decide +kernel
theorem dX11_takeOdds_110 : decode cX11_takeOdds 110 = .ok (.if_icmp .eq 15, 3) := by decide +kernel
theorem dX11_takeOdds_113 : decode cX11_takeOdds 113 = .ok (.aload_n 0, 1) := by decide +kernel
theorem dX11_takeOdds_114 : decode cX11_takeOdds 114 = .ok (.iconst 5, 1) := by decide +kernel
theorem dX11_takeOdds_115 : decode cX11_takeOdds 115 = .ok (.aload_n 0, 1) := by decide +kernel
theorem dX11_takeOdds_116 : decode cX11_takeOdds 116 = .ok (.getfield 180, 3) := by decide +kernel
theorem dX11_takeOdds_119 : decode cX11_takeOdds 119 = .ok (.invokevirtual 172, 3) := by decide +kernel
theorem dX11_takeOdds_122 : decode cX11_takeOdds 122 = .ok (.goto 4, 3) := by decide +kernel
theorem dX11_takeOdds_125 : decode cX11_takeOdds 125 = .ok (.iconst 0, 1) := by decide +kernel
theorem dX11_takeOdds_126 : decode cX11_takeOdds 126 = .ok (.ireturn, 1) := by decide +kernel
set_option maxRecDepth 20000 in
theorem ggX11_takeSingles_X11_takeNumber : GoodIn wsX11_takeSingles wsX11_takeNumber := goodIn_r _ [7, 8, 9, 10, 11, 2, 12, 13, 14, 15, 16, 6, 17, 18, 19, 20, 21, 22, 23, 24, 25, 26, 27, 28, 29, 30, 31, 32, 33, 34, 35, 36, 37, 38, 39, 40, 41, 42, 43, 44, 45, 46, 47, 48, 49, 50, 51, 52, 53, 54, 55, 56, 57, 58, 59, 60, 61, 62, 63, 64, 65, 66, 67, 68, 69, 70, 71, 72, 73, 74, 75, 76, 77, 78, 79, 80, 81, 82, 83] (by decide +kernel) (by decide +kernel)
set_option maxRecDepth 20000 in
theorem gX11_takeSingles_X11_takeNumber : GoodIn wsX11_takeSingles (wsV RX11 195 RX11 yX11_takeNumber wsX11_takeNumber) := goodIn_app (goodIn_of _ (by decide +kernel)) ggX11_takeSingles_X11_takeNumber
theorem dX11_takeSingles_0 : decode cX11_takeSingles 0 = .ok (.iconst 0, 1) := by decide +kernel
theorem dX11_takeSingles_1 : decode cX11_takeSingles 1 = .ok (.istore_n 2, 1) := by decide +kernel
theorem dX11_takeSingles_2 : decode cX11_takeSingles 2 = .ok (.iload_n 1, 1) := by decide +kernel
theorem dX11_takeSingles_3 : decode cX11_takeSingles 3 = .ok (.iconst 2, 1) := by decide +kernel
theorem dX11_takeSingles_4 : decode cX11_takeSingles 4 = .ok (.if_icmp .ne 7, 3) := by decide +kernel
theorem dX11_takeSingles_7 : decode cX11_takeSingles 7 = .ok (.iconst 0, 1) := by decide +kernel
theorem dX11_takeSingles_8 : decode cX11_takeSingles 8 = .ok (.goto 4, 3) := by decide +kernel
theorem dX11_takeSingles_11 : decode cX11_takeSingles 11 = .ok (.iload_n 1, 1) := by decide +kernel
theorem dX11_takeSingles_12 : decode cX11_takeSingles 12 = .ok (.istore_n 3, 1) := by decide +kernel
theorem dX11_takeSingles_13 : decode cX11_takeSingles 13 = .ok (.iload_n 1, 1) := by decide +kernel
theorem dX11_takeSingles_14 : decode cX11_takeSingles 14 = .ok (.iconst 2, 1) := by decide +kernel
theorem dX11_takeSingles_15 : decode cX11_takeSingles 15 = .ok (.if_icmp .ne 7, 3) := by decide +kernel
theorem dX11_takeSingles_18 : decode cX11_takeSingles 18 = .ok (.iconst 2, 1) := by decide +kernel
theorem dX11_takeSingles_19 : decode cX11_takeSingles 19 = .ok (.goto 4, 3) := by decide +kernel
theorem dX11_takeSingles_22 : decode cX11_takeSingles 22 = .ok (.iload_n 1, 1) := by decide +kernel
theorem dX11_takeSingles_23 : decode cX11_takeSingles 23 = .ok (.istore 4, 2) := by decide +kernel
theorem dX11_takeSingles_25 : decode cX11_takeSingles 25 = .ok (.iload_n 3, 1) := by decide +kernel
theorem dX11_takeSingles_26 : decode cX11_takeSingles 26 = .ok (.istore 5, 2) := by decide +kernel
theorem dX11_takeSingles_28 : decode cX11_takeSingles 28 = .ok (.iload 5, 2) := by decide +kernel
theorem dX11_takeSingles_30 : decode cX11_takeSingles 30 = .ok (.iload 4, 2) := by decide +kernel
theorem dX11_takeSingles_32 : decode cX11_takeSingles 32 = .ok (.if_icmp .gt 42, 3) := by decide +kernel
theorem dX11_takeSingles_35 : decode cX11_takeSingles 35 = .ok (.iload_n 2, 1) := by decide +kernel
theorem dX11_takeSingles_36 : decode cX11_takeSingles 36 = .ok (.ifCond .ne 38, 3) := by decide +kernel
theorem dX11_takeSingles_39 : decode cX11_takeSingles 39 = .ok (.aload_n 0, 1) := by decide +kernel
theorem dX11_takeSingles_40 : decode cX11_takeSingles 40 = .ok (.iconst 0, 1) := by decide +kernel
theorem dX11_takeSingles_41 : decode cX11_takeSingles 41 = .ok (.iload_n 1, 1) := by decide +kernel
theorem dX11_takeSingles_42 : decode cX11_takeSingles 42 = .ok (.iconst 2, 1) := by decide +kernel
theorem dX11_takeSingles_43 : decode cX11_takeSingles 43 = .ok (.if_icmp .ne 8, 3) := by decide +kernel
theorem dX11_takeSingles_46 : decode cX11_takeSingles 46 = .ok (.bipush 9, 2) := by decide +kernel
theorem dX11_takeSingles_48 : decode cX11_takeSingles 48 = .ok (.goto 5, 3) := by decide +kernel
theorem dX11_takeSingles_51 : decode cX11_takeSingles 51 = .ok (.bipush 20, 2) := by decide +kernel
theorem dX11_takeSingles_53 : decode cX11_takeSingles 53 = .ok (.invokevirtual 195, 3) := by decide +kernel
theorem dX11_takeSingles_56 : decode cX11_takeSingles 56 = .ok (.istore_n 2, 1) := by decide +kernel
theorem dX11_takeSingles_57 : decode cX11_takeSingles 57 = .ok (.aload_n 0, 1) := by decide +kernel
theorem dX11_takeSingles_58 : decode cX11_takeSingles 58 = .ok (.getfield 38, 3) := by decide +kernel
theorem dX11_takeSingles_61 : decode cX11_takeSingles 61 = .ok (.iload 5, 2) := by decide +kernel
theorem dX11_takeSingles_63 : decode cX11_takeSingles 63 = .ok (.aload_n 0, 1) := by decide +kernel
theorem dX11_takeSingles_64 : decode cX11_takeSingles 64 = .ok (.getfield 183, 3) := by decide +kernel
theorem dX11_takeSingles_67 : decode cX11_takeSingles 67 = .ok (.iastore, 1) := by decide +kernel
theorem dX11_takeSingles_68 : decode cX11_takeSingles 68 = .ok (.iinc 5 1, 3) := by decide +kernel
theorem dX11_takeSingles_71 : decode cX11_takeSingles 71 = .ok (.goto (-43), 3) := by decide +kernel
theorem dX11_takeSingles_74 : decode cX11_takeSingles 74 = .ok (.iload_n 2, 1) := by decide +kernel
theorem dX11_takeSingles_75 : decode cX11_takeSingles 75 = .ok (.ireturn, 1) := by decide +kernel
set_option maxRecDepth 20000 in
theorem ggX11_takeClause_X11_readWord : GoodIn wsX11_takeClause wsX11_readWord := goodIn_r _ [8, 9, 2, 3, 10, 11, 12, 13, 14, 15, 16, 17, 18, 19, 20, 7, 21, 22, 23, 24, 70, 71, 72, 73, 74, 75, 76, 77, 78, 79, 80, 81, 82, 83, 84, 85, 86, 87, 88, 89, 90, 91, 92, 93, 94, 95, 96, 97, 98, 99, 100, 101, 102, 103, 104, 105, 106, 107, 108, 109, 110, 111, 112, 113, 114, 115, 116, 117, 118, 119, 120, 121, 122, 123, 124, 125, 126, 127] (by decide +kernel) (by decide +kernel)
set_option maxRecDepth 20000 in
theorem gX11_takeClause_X11_readWord : GoodIn wsX11_takeClause (wsV RX11 169 RX11 yX11_readWord wsX11_readWord) := goodIn_app (goodIn_of _ (by decide +kernel)) ggX11_takeClause_X11_readWord
set_option maxRecDepth 20000 in
theorem ggX11_takeClause_X11_clauseOf : GoodIn wsX11_takeClause wsX11_clauseOf := goodIn_r _ [28, 9, 29, 30, 7, 31, 16, 17, 32, 33, 34, 70, 71, 72, 73, 74, 75, 76, 77, 78, 79, 80, 81, 82, 83, 84, 85, 86, 87, 88, 89, 90, 91, 92, 93, 94, 95, 96, 97, 98, 99, 100, 101, 102, 103, 104, 105, 106, 107, 108, 109, 110, 111, 112, 113, 114, 115, 116, 117, 118, 119, 120, 121, 122, 123, 124, 125, 126, 127] (by decide +kernel) (by decide +kernel)
set_option maxRecDepth 20000 in
theorem gX11_takeClause_X11_clauseOf : GoodIn wsX11_takeClause (wsV RX11 202 RX11 yX11_clauseOf wsX11_clauseOf) := goodIn_app (goodIn_of _ (by decide +kernel)) ggX11_takeClause_X11_clauseOf
set_option maxRecDepth 20000 in
theorem ggX11_takeClause_X11_fails : GoodIn wsX11_takeClause wsX11_fails := goodIn_r _ [38, 39, 70, 71, 72, 73, 74, 75, 76, 77, 78, 79, 80, 81, 82, 83, 84, 85, 86, 87, 88, 89, 90, 91, 92, 93, 94, 95, 96, 97, 98, 99, 100, 101, 102, 103, 104, 105, 106, 107, 108, 109, 110, 111, 112, 113, 114, 115, 116, 117, 118, 119, 120, 121, 122, 123, 124, 125, 126, 127] (by decide +kernel) (by decide +kernel)
set_option maxRecDepth 20000 in
theorem gX11_takeClause_X11_fails : GoodIn wsX11_takeClause (wsV RX11 172 RX11 yX11_fails wsX11_fails) := goodIn_app (goodIn_of _ (by decide +kernel)) ggX11_takeClause_X11_fails
set_option maxRecDepth 20000 in
theorem ggX11_takeClause_X11_takeRow : GoodIn wsX11_takeClause wsX11_takeRow := goodIn_r _ [43, 44, 45, 46, 47, 48, 49, 50, 51, 7, 52, 53, 54, 2, 10, 11, 18, 19, 20, 21, 22, 23, 24, 35, 36, 37, 38, 39, 29, 30, 31, 16, 17, 32, 33, 34, 55, 56, 57, 58, 9, 3, 4, 5, 6, 8, 12, 13, 14, 15, 70, 71, 72, 73, 74, 75, 76, 77, 78, 79, 80, 81, 82, 83, 84, 85, 86, 87, 88, 89, 90, 91, 92, 93, 94, 95, 96, 97, 98, 99, 100, 101, 102, 103, 104, 105, 106, 107, 108, 109, 110, 111, 112, 113, 114, 115, 116, 117, 118, 119, 120, 121, 122, 123, 124, 125, 126, 127] (by decide +kernel) (by decide +kernel)
set_option maxRecDepth 20000 in
theorem gX11_takeClause_X11_takeRow : GoodIn wsX11_takeClause (wsV RX11 205 RX11 yX11_takeRow wsX11_takeRow) := goodIn_app (goodIn_of _ (by decide +kernel)) ggX11_takeClause_X11_takeRow
set_option maxRecDepth 20000 in
theorem ggX11_takeClause_X11_takeOdds : GoodIn wsX11_takeClause wsX11_takeOdds := goodIn_r _ [62, 44, 63, 46, 64, 49, 50, 51, 7, 52, 53, 54, 2, 10, 11, 18, 19, 20, 21, 22, 23, 24, 35, 36, 37, 38, 39, 70, 71, 72, 73, 74, 75, 76, 77, 78, 79, 80, 81, 82, 83, 84, 85, 86, 87, 88, 89, 90, 91, 92, 93, 94, 95, 96, 97, 98, 99, 100, 101, 102, 103, 104, 105, 106, 107, 108, 109, 110, 111, 112, 113, 114, 115, 116, 117, 118, 119, 120, 121, 122, 123, 124, 125, 126, 127] (by decide +kernel) (by decide +kernel)
set_option maxRecDepth 20000 in
theorem gX11_takeClause_X11_takeOdds : GoodIn wsX11_takeClause (wsV RX11 208 RX11 yX11_takeOdds wsX11_takeOdds) := goodIn_app (goodIn_of _ (by decide +kernel)) ggX11_takeClause_X11_takeOdds
set_option maxRecDepth 20000 in
theorem ggX11_takeClause_X11_takeSingles : GoodIn wsX11_takeClause wsX11_takeSingles := goodIn_r _ [68, 69, 44, 49, 50, 51, 7, 52, 53, 54, 2, 46, 10, 11, 18, 19, 20, 21, 22, 23, 24, 35, 36, 37, 38, 39, 70, 71, 72, 73, 74, 75, 76, 77, 78, 79, 80, 81, 82, 83, 84, 85, 86, 87, 88, 89, 90, 91, 92, 93, 94, 95, 96, 97, 98, 99, 100, 101, 102, 103, 104, 105, 106, 107, 108, 109, 110, 111, 112, 113, 114, 115, 116, 117, 118, 119, 120, 121, 122, 123, 124, 125, 126, 127] (by decide +kernel) (by decide +kernel)
set_option maxRecDepth 20000 in
theorem gX11_takeClause_X11_takeSingles : GoodIn wsX11_takeClause (wsV RX11 211 RX11 yX11_takeSingles wsX11_takeSingles) := goodIn_app (goodIn_of _ (by decide +kernel)) ggX11_takeClause_X11_takeSingles
set_option maxRecDepth 20000 in
theorem ggX11_takeClause_X11_here : GoodIn wsX11_takeClause wsX11_here := goodIn_r _ [21, 2, 10, 11, 70, 71, 72, 73, 74, 75, 76, 77, 78, 79, 80, 81, 82, 83, 84, 85, 86, 87, 88, 89, 90, 91, 92, 93, 94, 95, 96, 97, 98, 99, 100, 101, 102, 103, 104, 105, 106, 107, 108, 109, 110, 111, 112, 113, 114, 115, 116, 117, 118, 119, 120, 121, 122, 123, 124, 125, 126, 127] (by decide +kernel) (by decide +kernel)
set_option maxRecDepth 20000 in
theorem gX11_takeClause_X11_here : GoodIn wsX11_takeClause (wsV RX11 138 RX11 yX11_here wsX11_here) := goodIn_app (goodIn_of _ (by decide +kernel)) ggX11_takeClause_X11_here
theorem dX11_takeClause_0 : decode cX11_takeClause 0 = .ok (.aload_n 0, 1) := by decide +kernel
theorem dX11_takeClause_1 : decode cX11_takeClause 1 = .ok (.invokevirtual 169, 3) := by decide +kernel
theorem dX11_takeClause_4 : decode cX11_takeClause 4 = .ok (.aload_n 0, 1) := by decide +kernel
theorem dX11_takeClause_5 : decode cX11_takeClause 5 = .ok (.invokevirtual 202, 3) := by decide +kernel
theorem dX11_takeClause_8 : decode cX11_takeClause 8 = .ok (.istore_n 1, 1) := by decide +kernel
theorem dX11_takeClause_9 : decode cX11_takeClause 9 = .ok (.iload_n 1, 1) := by decide +kernel
theorem dX11_takeClause_10 : decode cX11_takeClause 10 = .ok (.iconst 1, 1) := by decide +kernel
theorem dX11_takeClause_11 : decode cX11_takeClause 11 = .ok (.if_icmp .le 19, 3) := by decide +kernel
theorem dX11_takeClause_14 : decode cX11_takeClause 14 = .ok (.aload_n 0, 1) := by decide +kernel
theorem dX11_takeClause_15 : decode cX11_takeClause 15 = .ok (.getfield 189, 3) := by decide +kernel
theorem dX11_takeClause_18 : decode cX11_takeClause 18 = .ok (.iload_n 1, 1) := by decide +kernel
theorem dX11_takeClause_19 : decode cX11_takeClause 19 = .ok (.ishr, 1) := by decide +kernel
theorem dX11_takeClause_20 : decode cX11_takeClause 20 = .ok (.iconst 1, 1) := by decide +kernel
theorem dX11_takeClause_21 : decode cX11_takeClause 21 = .ok (.iand, 1) := by decide +kernel
theorem dX11_takeClause_22 : decode cX11_takeClause 22 = .ok (.iconst 1, 1) := by decide +kernel
theorem dX11_takeClause_23 : decode cX11_takeClause 23 = .ok (.if_icmp .ne 7, 3) := by decide +kernel
theorem dX11_takeClause_26 : decode cX11_takeClause 26 = .ok (.iconst 1, 1) := by decide +kernel
theorem dX11_takeClause_27 : decode cX11_takeClause 27 = .ok (.goto 4, 3) := by decide +kernel
theorem dX11_takeClause_30 : decode cX11_takeClause 30 = .ok (.iconst 0, 1) := by decide +kernel
theorem dX11_takeClause_31 : decode cX11_takeClause 31 = .ok (.istore_n 2, 1) := by decide +kernel
theorem dX11_takeClause_32 : decode cX11_takeClause 32 = .ok (.iload_n 1, 1) := by decide +kernel
theorem dX11_takeClause_33 : decode cX11_takeClause 33 = .ok (.ifCond .lt 7, 3) := by decide +kernel
theorem dX11_takeClause_36 : decode cX11_takeClause 36 = .ok (.iload_n 2, 1) := by decide +kernel
theorem dX11_takeClause_37 : decode cX11_takeClause 37 = .ok (.ifCond .eq 21, 3) := by decide +kernel
theorem dX11_takeClause_40 : decode cX11_takeClause 40 = .ok (.aload_n 0, 1) := by decide +kernel
theorem dX11_takeClause_41 : decode cX11_takeClause 41 = .ok (.iload_n 1, 1) := by decide +kernel
theorem dX11_takeClause_42 : decode cX11_takeClause 42 = .ok (.ifCond .ge 7, 3) := by decide +kernel
theorem dX11_takeClause_45 : decode cX11_takeClause 45 = .ok (.iconst 1, 1) := by decide +kernel
theorem dX11_takeClause_46 : decode cX11_takeClause 46 = .ok (.goto 4, 3) := by decide +kernel
theorem dX11_takeClause_49 : decode cX11_takeClause 49 = .ok (.iconst 3, 1) := by decide +kernel
theorem dX11_takeClause_50 : decode cX11_takeClause 50 = .ok (.aload_n 0, 1) := by decide +kernel
theorem dX11_takeClause_51 : decode cX11_takeClause 51 = .ok (.getfield 135, 3) := by decide +kernel
theorem dX11_takeClause_54 : decode cX11_takeClause 54 = .ok (.invokevirtual 172, 3) := by decide +kernel
theorem dX11_takeClause_57 : decode cX11_takeClause 57 = .ok (.ireturn, 1) := by decide +kernel
theorem dX11_takeClause_58 : decode cX11_takeClause 58 = .ok (.aload_n 0, 1) := by decide +kernel
theorem dX11_takeClause_59 : decode cX11_takeClause 59 = .ok (.dup, 1) := by decide +kernel
theorem dX11_takeClause_60 : decode cX11_takeClause 60 = .ok (.getfield 189, 3) := by decide +kernel
theorem dX11_takeClause_63 : decode cX11_takeClause 63 = .ok (.iconst 1, 1) := by decide +kernel
theorem dX11_takeClause_64 : decode cX11_takeClause 64 = .ok (.iload_n 1, 1) := by decide +kernel
theorem dX11_takeClause_65 : decode cX11_takeClause 65 = .ok (.ishl, 1) := by decide +kernel
theorem dX11_takeClause_66 : decode cX11_takeClause 66 = .ok (.ior, 1) := by decide +kernel
theorem dX11_takeClause_67 : decode cX11_takeClause 67 = .ok (.putfield 189, 3) := by decide +kernel
theorem dX11_takeClause_70 : decode cX11_takeClause 70 = .ok (.aload_n 0, 1) := by decide +kernel
theorem dX11_takeClause_71 : decode cX11_takeClause 71 = .ok (.aload_n 0, 1) := by decide +kernel
theorem dX11_takeClause_72 : decode cX11_takeClause 72 = .ok (.getfield 146, 3) := by decide +kernel
theorem dX11_takeClause_75 : decode cX11_takeClause 75 = .ok (.putfield 135, 3) := by decide +kernel
theorem dX11_takeClause_78 : decode cX11_takeClause 78 = .ok (.iload_n 1, 1) := by decide +kernel
theorem dX11_takeClause_79 : decode cX11_takeClause 79 = .ok (.ifCond .ne 10, 3) := by decide +kernel
theorem dX11_takeClause_82 : decode cX11_takeClause 82 = .ok (.aload_n 0, 1) := by decide +kernel
theorem dX11_takeClause_83 : decode cX11_takeClause 83 = .ok (.invokevirtual 205, 3) := by decide +kernel
theorem dX11_takeClause_86 : decode cX11_takeClause 86 = .ok (.goto 20, 3) := by decide +kernel
theorem dX11_takeClause_89 : decode cX11_takeClause 89 = .ok (.iload_n 1, 1) := by decide +kernel
theorem dX11_takeClause_90 : decode cX11_takeClause 90 = .ok (.iconst 1, 1) := by decide +kernel
theorem dX11_takeClause_91 : decode cX11_takeClause 91 = .ok (.if_icmp .ne 10, 3) := by decide +kernel
theorem dX11_takeClause_94 : decode cX11_takeClause 94 = .ok (.aload_n 0, 1) := by decide +kernel
theorem dX11_takeClause_95 : decode cX11_takeClause 95 = .ok (.invokevirtual 208, 3) := by decide +kernel
theorem dX11_takeClause_98 : decode cX11_takeClause 98 = .ok (.goto 8, 3) := by decide +kernel
theorem dX11_takeClause_101 : decode cX11_takeClause 101 = .ok (.aload_n 0, 1) := by decide +kernel
theorem dX11_takeClause_102 : decode cX11_takeClause 102 = .ok (.iload_n 1, 1) := by decide +kernel
theorem dX11_takeClause_103 : decode cX11_takeClause 103 = .ok (.invokevirtual 211, 3) := by decide +kernel
theorem dX11_takeClause_106 : decode cX11_takeClause 106 = .ok (.istore_n 3, 1) := by decide +kernel
theorem dX11_takeClause_107 : decode cX11_takeClause 107 = .ok (.iload_n 3, 1) := by decide +kernel
theorem dX11_takeClause_108 : decode cX11_takeClause 108 = .ok (.ifCond .le 5, 3) := by decide +kernel
theorem dX11_takeClause_111 : decode cX11_takeClause 111 = .ok (.iload_n 3, 1) := by decide +kernel
theorem dX11_takeClause_112 : decode cX11_takeClause 112 = .ok (.ireturn, 1) := by decide +kernel
theorem dX11_takeClause_113 : decode cX11_takeClause 113 = .ok (.aload_n 0, 1) := by decide +kernel
theorem dX11_takeClause_114 : decode cX11_takeClause 114 = .ok (.invokevirtual 138, 3) := by decide +kernel
theorem dX11_takeClause_117 : decode cX11_takeClause 117 = .ok (.bipush 59, 2) := by decide +kernel
theorem dX11_takeClause_119 : decode cX11_takeClause 119 = .ok (.if_icmp .eq 13, 3) := by decide +kernel
theorem dX11_takeClause_122 : decode cX11_takeClause 122 = .ok (.aload_n 0, 1) := by decide +kernel
theorem dX11_takeClause_123 : decode cX11_takeClause 123 = .ok (.iconst 1, 1) := by decide +kernel
theorem dX11_takeClause_124 : decode cX11_takeClause 124 = .ok (.aload_n 0, 1) := by decide +kernel
theorem dX11_takeClause_125 : decode cX11_takeClause 125 = .ok (.getfield 135, 3) := by decide +kernel
theorem dX11_takeClause_128 : decode cX11_takeClause 128 = .ok (.invokevirtual 172, 3) := by decide +kernel
theorem dX11_takeClause_131 : decode cX11_takeClause 131 = .ok (.ireturn, 1) := by decide +kernel
theorem dX11_takeClause_132 : decode cX11_takeClause 132 = .ok (.aload_n 0, 1) := by decide +kernel
theorem dX11_takeClause_133 : decode cX11_takeClause 133 = .ok (.dup, 1) := by decide +kernel
theorem dX11_takeClause_134 : decode cX11_takeClause 134 = .ok (.getfield 135, 3) := by decide +kernel
theorem dX11_takeClause_137 : decode cX11_takeClause 137 = .ok (.iconst 1, 1) := by decide +kernel
theorem dX11_takeClause_138 : decode cX11_takeClause 138 = .ok (.iadd, 1) := by decide +kernel
theorem dX11_takeClause_139 : decode cX11_takeClause 139 = .ok (.putfield 135, 3) := by decide +kernel
theorem dX11_takeClause_142 : decode cX11_takeClause 142 = .ok (.iconst 0, 1) := by decide +kernel
theorem dX11_takeClause_143 : decode cX11_takeClause 143 = .ok (.ireturn, 1) := by decide +kernel
set_option maxRecDepth 20000 in
theorem ggX11_hall_X11_bare : GoodIn wsX11_hall wsX11_bare := goodIn_r _ [10, 11, 12, 13, 14, 15, 89, 90, 91, 92, 93, 94, 95, 96, 97, 98, 99, 100, 101, 102, 103, 104, 105, 106, 107, 108, 109, 110, 111, 112, 113, 114, 115, 116, 117, 118, 119, 120, 121, 122, 123, 124, 125, 126, 127, 128, 129, 130, 131, 132, 133, 134, 135, 136, 137, 138, 139, 140, 141, 142, 143, 144, 145, 146] (by decide +kernel) (by decide +kernel)
set_option maxRecDepth 20000 in
theorem gX11_hall_X11_bare : GoodIn wsX11_hall (wsV RX11 118 RX11 yX11_bare wsX11_bare) := goodIn_app (goodIn_of _ (by decide +kernel)) ggX11_hall_X11_bare
set_option maxRecDepth 20000 in
theorem ggX11_hall_X11_here : GoodIn wsX11_hall wsX11_here := goodIn_r _ [19, 3, 4, 20, 89, 90, 91, 92, 93, 94, 95, 96, 97, 98, 99, 100, 101, 102, 103, 104, 105, 106, 107, 108, 109, 110, 111, 112, 113, 114, 115, 116, 117, 118, 119, 120, 121, 122, 123, 124, 125, 126, 127, 128, 129, 130, 131, 132, 133, 134, 135, 136, 137, 138, 139, 140, 141, 142, 143, 144, 145, 146] (by decide +kernel) (by decide +kernel)
set_option maxRecDepth 20000 in
theorem gX11_hall_X11_here : GoodIn wsX11_hall (wsV RX11 138 RX11 yX11_here wsX11_here) := goodIn_app (goodIn_of _ (by decide +kernel)) ggX11_hall_X11_here
set_option maxRecDepth 20000 in
theorem ggX11_hall_X11_takeClause : GoodIn wsX11_hall wsX11_takeClause := goodIn_r _ [24, 12, 3, 25, 26, 27, 28, 9, 29, 30, 4, 20, 31, 32, 33, 34, 35, 36, 16, 17, 18, 19, 37, 38, 39, 40, 41, 42, 43, 44, 45, 46, 47, 48, 49, 50, 51, 52, 53, 2, 54, 55, 56, 57, 58, 11, 59, 60, 61, 62, 63, 64, 65, 66, 67, 68, 69, 70, 71, 72, 73, 74, 75, 13, 14, 76, 77, 78, 79, 15, 89, 90, 91, 92, 93, 94, 95, 96, 97, 98, 99, 100, 101, 102, 103, 104, 105, 106, 107, 108, 109, 110, 111, 112, 113, 114, 115, 116, 117, 118, 119, 120, 121, 122, 123, 124, 125, 126, 127, 128, 129, 130, 131, 132, 133, 134, 135, 136, 137, 138, 139, 140, 141, 142, 143, 144, 145, 146] (by decide +kernel) (by decide +kernel)
set_option maxRecDepth 20000 in
theorem gX11_hall_X11_takeClause : GoodIn wsX11_hall (wsV RX11 218 RX11 yX11_takeClause wsX11_takeClause) := goodIn_app (goodIn_of _ (by decide +kernel)) ggX11_hall_X11_takeClause
set_option maxRecDepth 20000 in
theorem ggX11_hall_X11_keepHall : GoodIn wsX11_hall wsX11_keepHall := goodIn_r _ [83, 11, 5, 84, 60, 85, 61, 86, 14, 87, 15, 88, 89, 90, 91, 92, 93, 94, 95, 96, 97, 98, 99, 100, 101, 102, 103, 104, 105, 106, 107, 108, 109, 110, 111, 112, 113, 114, 115, 116, 117, 118, 119, 120, 121, 122, 123, 124, 125, 126, 127, 128, 129, 130, 131, 132, 133, 134, 135, 136, 137, 138, 139, 140, 141, 142, 143, 144, 145, 146] (by decide +kernel) (by decide +kernel)
set_option maxRecDepth 20000 in
theorem gX11_hall_X11_keepHall : GoodIn wsX11_hall (wsV RX11 121 RX11 yX11_keepHall wsX11_keepHall) := goodIn_app (goodIn_of _ (by decide +kernel)) ggX11_hall_X11_keepHall
theorem dX11_hall_0 : decode cX11_hall 0 = .ok (.aload_n 0, 1) := by decide +kernel
theorem dX11_hall_1 : decode cX11_hall 1 = .ok (.getfield 215, 3) := by decide +kernel
theorem dX11_hall_4 : decode cX11_hall 4 = .ok (.ifCond .le 7, 3) := by decide +kernel
theorem dX11_hall_7 : decode cX11_hall 7 = .ok (.sipush (-1003), 3) := by decide +kernel
theorem dX11_hall_10 : decode cX11_hall 10 = .ok (.ireturn, 1) := by decide +kernel
theorem dX11_hall_11 : decode cX11_hall 11 = .ok (.aload_n 0, 1) := by decide +kernel
theorem dX11_hall_12 : decode cX11_hall 12 = .ok (.iconst (-1), 1) := by decide +kernel
theorem dX11_hall_13 : decode cX11_hall 13 = .ok (.putfield 25, 3) := by decide +kernel
theorem dX11_hall_16 : decode cX11_hall 16 = .ok (.aload_n 0, 1) := by decide +kernel
theorem dX11_hall_17 : decode cX11_hall 17 = .ok (.iconst 0, 1) := by decide +kernel
theorem dX11_hall_18 : decode cX11_hall 18 = .ok (.putfield 135, 3) := by decide +kernel
theorem dX11_hall_21 : decode cX11_hall 21 = .ok (.aload_n 0, 1) := by decide +kernel
theorem dX11_hall_22 : decode cX11_hall 22 = .ok (.invokevirtual 118, 3) := by decide +kernel
theorem dX11_hall_25 : decode cX11_hall 25 = .ok (.iconst 0, 1) := by decide +kernel
theorem dX11_hall_26 : decode cX11_hall 26 = .ok (.istore_n 1, 1) := by decide +kernel
theorem dX11_hall_27 : decode cX11_hall 27 = .ok (.iload_n 1, 1) := by decide +kernel
theorem dX11_hall_28 : decode cX11_hall 28 = .ok (.ifCond .ne 18, 3) := by decide +kernel
theorem dX11_hall_31 : decode cX11_hall 31 = .ok (.aload_n 0, 1) := by decide +kernel
theorem dX11_hall_32 : decode cX11_hall 32 = .ok (.invokevirtual 138, 3) := by decide +kernel
theorem dX11_hall_35 : decode cX11_hall 35 = .ok (.ifCond .lt 11, 3) := by decide +kernel
theorem dX11_hall_38 : decode cX11_hall 38 = .ok (.aload_n 0, 1) := by decide +kernel
theorem dX11_hall_39 : decode cX11_hall 39 = .ok (.invokevirtual 218, 3) := by decide +kernel
theorem dX11_hall_42 : decode cX11_hall 42 = .ok (.istore_n 1, 1) := by decide +kernel
theorem dX11_hall_43 : decode cX11_hall 43 = .ok (.goto (-16), 3) := by decide +kernel
theorem dX11_hall_46 : decode cX11_hall 46 = .ok (.aload_n 0, 1) := by decide +kernel
theorem dX11_hall_47 : decode cX11_hall 47 = .ok (.iconst 0, 1) := by decide +kernel
theorem dX11_hall_48 : decode cX11_hall 48 = .ok (.putfield 130, 3) := by decide +kernel
theorem dX11_hall_51 : decode cX11_hall 51 = .ok (.iload_n 1, 1) := by decide +kernel
theorem dX11_hall_52 : decode cX11_hall 52 = .ok (.ifCond .le 8, 3) := by decide +kernel
theorem dX11_hall_55 : decode cX11_hall 55 = .ok (.bipush (-10), 2) := by decide +kernel
theorem dX11_hall_57 : decode cX11_hall 57 = .ok (.iload_n 1, 1) := by decide +kernel
theorem dX11_hall_58 : decode cX11_hall 58 = .ok (.isub, 1) := by decide +kernel
theorem dX11_hall_59 : decode cX11_hall 59 = .ok (.ireturn, 1) := by decide +kernel
theorem dX11_hall_60 : decode cX11_hall 60 = .ok (.aload_n 0, 1) := by decide +kernel
theorem dX11_hall_61 : decode cX11_hall 61 = .ok (.invokevirtual 121, 3) := by decide +kernel
theorem dX11_hall_64 : decode cX11_hall 64 = .ok (.aload_n 0, 1) := by decide +kernel
theorem dX11_hall_65 : decode cX11_hall 65 = .ok (.getfield 221, 3) := by decide +kernel
theorem dX11_hall_68 : decode cX11_hall 68 = .ok (.ireturn, 1) := by decide +kernel
theorem dX11_keepHall_0 : decode cX11_keepHall 0 = .ok (.aload_n 0, 1) := by decide +kernel
theorem dX11_keepHall_1 : decode cX11_keepHall 1 = .ok (.aload_n 0, 1) := by decide +kernel
theorem dX11_keepHall_2 : decode cX11_keepHall 2 = .ok (.getfield 186, 3) := by decide +kernel
theorem dX11_keepHall_5 : decode cX11_keepHall 5 = .ok (.putfield 221, 3) := by decide +kernel
theorem dX11_keepHall_8 : decode cX11_keepHall 8 = .ok (.iconst 0, 1) := by decide +kernel
theorem dX11_keepHall_9 : decode cX11_keepHall 9 = .ok (.istore_n 1, 1) := by decide +kernel
theorem dX11_keepHall_10 : decode cX11_keepHall 10 = .ok (.iload_n 1, 1) := by decide +kernel
theorem dX11_keepHall_11 : decode cX11_keepHall 11 = .ok (.bipush 24, 2) := by decide +kernel
theorem dX11_keepHall_13 : decode cX11_keepHall 13 = .ok (.if_icmp .ge 33, 3) := by decide +kernel
theorem dX11_keepHall_16 : decode cX11_keepHall 16 = .ok (.aload_n 0, 1) := by decide +kernel
theorem dX11_keepHall_17 : decode cX11_keepHall 17 = .ok (.getfield 7, 3) := by decide +kernel
theorem dX11_keepHall_20 : decode cX11_keepHall 20 = .ok (.iload_n 1, 1) := by decide +kernel
theorem dX11_keepHall_21 : decode cX11_keepHall 21 = .ok (.aload_n 0, 1) := by decide +kernel
theorem dX11_keepHall_22 : decode cX11_keepHall 22 = .ok (.getfield 29, 3) := by decide +kernel
theorem dX11_keepHall_25 : decode cX11_keepHall 25 = .ok (.iload_n 1, 1) := by decide +kernel
theorem dX11_keepHall_26 : decode cX11_keepHall 26 = .ok (.iaload, 1) := by decide +kernel
theorem dX11_keepHall_27 : decode cX11_keepHall 27 = .ok (.iastore, 1) := by decide +kernel
theorem dX11_keepHall_28 : decode cX11_keepHall 28 = .ok (.aload_n 0, 1) := by decide +kernel
theorem dX11_keepHall_29 : decode cX11_keepHall 29 = .ok (.getfield 13, 3) := by decide +kernel
theorem dX11_keepHall_32 : decode cX11_keepHall 32 = .ok (.iload_n 1, 1) := by decide +kernel
theorem dX11_keepHall_33 : decode cX11_keepHall 33 = .ok (.aload_n 0, 1) := by decide +kernel
theorem dX11_keepHall_34 : decode cX11_keepHall 34 = .ok (.getfield 32, 3) := by decide +kernel
theorem dX11_keepHall_37 : decode cX11_keepHall 37 = .ok (.iload_n 1, 1) := by decide +kernel
theorem dX11_keepHall_38 : decode cX11_keepHall 38 = .ok (.iaload, 1) := by decide +kernel
theorem dX11_keepHall_39 : decode cX11_keepHall 39 = .ok (.iastore, 1) := by decide +kernel
theorem dX11_keepHall_40 : decode cX11_keepHall 40 = .ok (.iinc 1 1, 3) := by decide +kernel
theorem dX11_keepHall_43 : decode cX11_keepHall 43 = .ok (.goto (-33), 3) := by decide +kernel
theorem dX11_keepHall_46 : decode cX11_keepHall 46 = .ok (.iconst 0, 1) := by decide +kernel
theorem dX11_keepHall_47 : decode cX11_keepHall 47 = .ok (.istore_n 1, 1) := by decide +kernel
theorem dX11_keepHall_48 : decode cX11_keepHall 48 = .ok (.iload_n 1, 1) := by decide +kernel
theorem dX11_keepHall_49 : decode cX11_keepHall 49 = .ok (.bipush 12, 2) := by decide +kernel
theorem dX11_keepHall_51 : decode cX11_keepHall 51 = .ok (.if_icmp .ge 21, 3) := by decide +kernel
theorem dX11_keepHall_54 : decode cX11_keepHall 54 = .ok (.aload_n 0, 1) := by decide +kernel
theorem dX11_keepHall_55 : decode cX11_keepHall 55 = .ok (.getfield 16, 3) := by decide +kernel
theorem dX11_keepHall_58 : decode cX11_keepHall 58 = .ok (.iload_n 1, 1) := by decide +kernel
theorem dX11_keepHall_59 : decode cX11_keepHall 59 = .ok (.aload_n 0, 1) := by decide +kernel
theorem dX11_keepHall_60 : decode cX11_keepHall 60 = .ok (.getfield 35, 3) := by decide +kernel
theorem dX11_keepHall_63 : decode cX11_keepHall 63 = .ok (.iload_n 1, 1) := by decide +kernel
theorem dX11_keepHall_64 : decode cX11_keepHall 64 = .ok (.iaload, 1) := by decide +kernel
theorem dX11_keepHall_65 : decode cX11_keepHall 65 = .ok (.iastore, 1) := by decide +kernel
theorem dX11_keepHall_66 : decode cX11_keepHall 66 = .ok (.iinc 1 1, 3) := by decide +kernel
theorem dX11_keepHall_69 : decode cX11_keepHall 69 = .ok (.goto (-21), 3) := by decide +kernel
theorem dX11_keepHall_72 : decode cX11_keepHall 72 = .ok (.iconst 0, 1) := by decide +kernel
theorem dX11_keepHall_73 : decode cX11_keepHall 73 = .ok (.istore_n 1, 1) := by decide +kernel
theorem dX11_keepHall_74 : decode cX11_keepHall 74 = .ok (.iload_n 1, 1) := by decide +kernel
theorem dX11_keepHall_75 : decode cX11_keepHall 75 = .ok (.iconst 5, 1) := by decide +kernel
theorem dX11_keepHall_76 : decode cX11_keepHall 76 = .ok (.if_icmp .ge 21, 3) := by decide +kernel
theorem dX11_keepHall_79 : decode cX11_keepHall 79 = .ok (.aload_n 0, 1) := by decide +kernel
theorem dX11_keepHall_80 : decode cX11_keepHall 80 = .ok (.getfield 19, 3) := by decide +kernel
theorem dX11_keepHall_83 : decode cX11_keepHall 83 = .ok (.iload_n 1, 1) := by decide +kernel
theorem dX11_keepHall_84 : decode cX11_keepHall 84 = .ok (.aload_n 0, 1) := by decide +kernel
theorem dX11_keepHall_85 : decode cX11_keepHall 85 = .ok (.getfield 38, 3) := by decide +kernel
theorem dX11_keepHall_88 : decode cX11_keepHall 88 = .ok (.iload_n 1, 1) := by decide +kernel
theorem dX11_keepHall_89 : decode cX11_keepHall 89 = .ok (.iaload, 1) := by decide +kernel
theorem dX11_keepHall_90 : decode cX11_keepHall 90 = .ok (.iastore, 1) := by decide +kernel
theorem dX11_keepHall_91 : decode cX11_keepHall 91 = .ok (.iinc 1 1, 3) := by decide +kernel
theorem dX11_keepHall_94 : decode cX11_keepHall 94 = .ok (.goto (-20), 3) := by decide +kernel
theorem dX11_keepHall_97 : decode cX11_keepHall 97 = .ok (.aload_n 0, 1) := by decide +kernel
theorem dX11_keepHall_98 : decode cX11_keepHall 98 = .ok (.dup, 1) := by decide +kernel
theorem dX11_keepHall_99 : decode cX11_keepHall 99 = .ok (.getfield 224, 3) := by decide +kernel
theorem dX11_keepHall_102 : decode cX11_keepHall 102 = .ok (.iconst 1, 1) := by decide +kernel
theorem dX11_keepHall_103 : decode cX11_keepHall 103 = .ok (.iadd, 1) := by decide +kernel
theorem dX11_keepHall_104 : decode cX11_keepHall 104 = .ok (.putfield 224, 3) := by decide +kernel
theorem dX11_keepHall_107 : decode cX11_keepHall 107 = .ok (.return_, 1) := by decide +kernel
theorem dX11_fault_0 : decode cX11_fault 0 = .ok (.aload_n 0, 1) := by decide +kernel
theorem dX11_fault_1 : decode cX11_fault 1 = .ok (.getfield 25, 3) := by decide +kernel
theorem dX11_fault_4 : decode cX11_fault 4 = .ok (.ireturn, 1) := by decide +kernel
set_option maxRecDepth 20000 in
theorem ggX11_isPeg_X11_in : GoodIn wsX11_isPeg wsX11_in := goodIn_r _ [5] (by decide +kernel) (by decide +kernel)
set_option maxRecDepth 20000 in
theorem gX11_isPeg_X11_in : GoodIn wsX11_isPeg (va_wsS RX11 126 yX11_in wsX11_in) := goodIn_app (goodIn_of _ (by decide +kernel)) ggX11_isPeg_X11_in
theorem dX11_isPeg_0 : decode cX11_isPeg 0 = .ok (.iload_n 1, 1) := by decide +kernel
theorem dX11_isPeg_1 : decode cX11_isPeg 1 = .ok (.i2l, 1) := by decide +kernel
theorem dX11_isPeg_2 : decode cX11_isPeg 2 = .ok (.lconst 0, 1) := by decide +kernel
theorem dX11_isPeg_3 : decode cX11_isPeg 3 = .ok (.aload_n 0, 1) := by decide +kernel
theorem dX11_isPeg_4 : decode cX11_isPeg 4 = .ok (.getfield 221, 3) := by decide +kernel
theorem dX11_isPeg_7 : decode cX11_isPeg 7 = .ok (.iconst 1, 1) := by decide +kernel
theorem dX11_isPeg_8 : decode cX11_isPeg 8 = .ok (.isub, 1) := by decide +kernel
theorem dX11_isPeg_9 : decode cX11_isPeg 9 = .ok (.i2l, 1) := by decide +kernel
theorem dX11_isPeg_10 : decode cX11_isPeg 10 = .ok (.invokestatic 126, 3) := by decide +kernel
theorem dX11_isPeg_13 : decode cX11_isPeg 13 = .ok (.ireturn, 1) := by decide +kernel
set_option maxRecDepth 20000 in
theorem ggX11_isGuest_X11_in : GoodIn wsX11_isGuest wsX11_in := goodIn_r _ [5] (by decide +kernel) (by decide +kernel)
set_option maxRecDepth 20000 in
theorem gX11_isGuest_X11_in : GoodIn wsX11_isGuest (va_wsS RX11 126 yX11_in wsX11_in) := goodIn_app (goodIn_of _ (by decide +kernel)) ggX11_isGuest_X11_in
theorem dX11_isGuest_0 : decode cX11_isGuest 0 = .ok (.iload_n 1, 1) := by decide +kernel
theorem dX11_isGuest_1 : decode cX11_isGuest 1 = .ok (.i2l, 1) := by decide +kernel
theorem dX11_isGuest_2 : decode cX11_isGuest 2 = .ok (.lconst 0, 1) := by decide +kernel
theorem dX11_isGuest_3 : decode cX11_isGuest 3 = .ok (.aload_n 0, 1) := by decide +kernel
theorem dX11_isGuest_4 : decode cX11_isGuest 4 = .ok (.getfield 227, 3) := by decide +kernel
theorem dX11_isGuest_7 : decode cX11_isGuest 7 = .ok (.iconst 1, 1) := by decide +kernel
theorem dX11_isGuest_8 : decode cX11_isGuest 8 = .ok (.isub, 1) := by decide +kernel
theorem dX11_isGuest_9 : decode cX11_isGuest 9 = .ok (.i2l, 1) := by decide +kernel
theorem dX11_isGuest_10 : decode cX11_isGuest 10 = .ok (.invokestatic 126, 3) := by decide +kernel
theorem dX11_isGuest_13 : decode cX11_isGuest 13 = .ok (.ireturn, 1) := by decide +kernel
set_option maxRecDepth 20000 in
theorem ggX11_areGuests_X11_in : GoodIn wsX11_areGuests wsX11_in := goodIn_r _ [5] (by decide +kernel) (by decide +kernel)
set_option maxRecDepth 20000 in
theorem gX11_areGuests_X11_in : GoodIn wsX11_areGuests (va_wsS RX11 126 yX11_in wsX11_in) := goodIn_app (goodIn_of _ (by decide +kernel)) ggX11_areGuests_X11_in
theorem dX11_areGuests_0 : decode cX11_areGuests 0 = .ok (.iload_n 1, 1) := by decide +kernel
theorem dX11_areGuests_1 : decode cX11_areGuests 1 = .ok (.i2l, 1) := by decide +kernel
theorem dX11_areGuests_2 : decode cX11_areGuests 2 = .ok (.lconst 0, 1) := by decide +kernel
theorem dX11_areGuests_3 : decode cX11_areGuests 3 = .ok (.iconst 1, 1) := by decide +kernel
theorem dX11_areGuests_4 : decode cX11_areGuests 4 = .ok (.aload_n 0, 1) := by decide +kernel
theorem dX11_areGuests_5 : decode cX11_areGuests 5 = .ok (.getfield 227, 3) := by decide +kernel
theorem dX11_areGuests_8 : decode cX11_areGuests 8 = .ok (.ishl, 1) := by decide +kernel
theorem dX11_areGuests_9 : decode cX11_areGuests 9 = .ok (.iconst 1, 1) := by decide +kernel
theorem dX11_areGuests_10 : decode cX11_areGuests 10 = .ok (.isub, 1) := by decide +kernel
theorem dX11_areGuests_11 : decode cX11_areGuests 11 = .ok (.i2l, 1) := by decide +kernel
theorem dX11_areGuests_12 : decode cX11_areGuests 12 = .ok (.invokestatic 126, 3) := by decide +kernel
theorem dX11_areGuests_15 : decode cX11_areGuests 15 = .ok (.ireturn, 1) := by decide +kernel
set_option maxRecDepth 20000 in
theorem ggX11_peg_X11_isPeg : GoodIn wsX11_peg wsX11_isPeg := goodIn_r _ [8, 9, 10, 11, 7, 12, 13, 14, 15, 16, 17, 18, 19, 20, 21, 22, 23, 24, 25, 26, 27, 28, 29, 30, 31, 32, 33, 34, 35, 36, 37, 38, 39, 40, 41, 42, 43, 44, 45, 46, 47, 48, 49, 50, 51, 52, 53, 54, 55, 56, 57, 58, 59, 60, 61, 62, 63, 64, 65, 66, 67, 68, 69, 70] (by decide +kernel) (by decide +kernel)
set_option maxRecDepth 20000 in
theorem gX11_peg_X11_isPeg : GoodIn wsX11_peg (wsV RX11 230 RX11 yX11_isPeg wsX11_isPeg) := goodIn_app (goodIn_of _ (by decide +kernel)) ggX11_peg_X11_isPeg
theorem dX11_peg_0 : decode cX11_peg 0 = .ok (.aload_n 0, 1) := by decide +kernel
theorem dX11_peg_1 : decode cX11_peg 1 = .ok (.iload_n 1, 1) := by decide +kernel
theorem dX11_peg_2 : decode cX11_peg 2 = .ok (.invokevirtual 230, 3) := by decide +kernel
theorem dX11_peg_5 : decode cX11_peg 5 = .ok (.ifCond .ne 7, 3) := by decide +kernel
theorem dX11_peg_8 : decode cX11_peg 8 = .ok (.sipush (-1001), 3) := by decide +kernel
theorem dX11_peg_11 : decode cX11_peg 11 = .ok (.ireturn, 1) := by decide +kernel
theorem dX11_peg_12 : decode cX11_peg 12 = .ok (.iload_n 2, 1) := by decide +kernel
theorem dX11_peg_13 : decode cX11_peg 13 = .ok (.ifCond .ne 12, 3) := by decide +kernel
theorem dX11_peg_16 : decode cX11_peg 16 = .ok (.aload_n 0, 1) := by decide +kernel
theorem dX11_peg_17 : decode cX11_peg 17 = .ok (.getfield 7, 3) := by decide +kernel
theorem dX11_peg_20 : decode cX11_peg 20 = .ok (.iload_n 1, 1) := by decide +kernel
theorem dX11_peg_21 : decode cX11_peg 21 = .ok (.iaload, 1) := by decide +kernel
theorem dX11_peg_22 : decode cX11_peg 22 = .ok (.goto 34, 3) := by decide +kernel
theorem dX11_peg_25 : decode cX11_peg 25 = .ok (.iload_n 2, 1) := by decide +kernel
theorem dX11_peg_26 : decode cX11_peg 26 = .ok (.iconst 1, 1) := by decide +kernel
theorem dX11_peg_27 : decode cX11_peg 27 = .ok (.if_icmp .ne 12, 3) := by decide +kernel
theorem dX11_peg_30 : decode cX11_peg 30 = .ok (.aload_n 0, 1) := by decide +kernel
theorem dX11_peg_31 : decode cX11_peg 31 = .ok (.getfield 13, 3) := by decide +kernel
theorem dX11_peg_34 : decode cX11_peg 34 = .ok (.iload_n 1, 1) := by decide +kernel
theorem dX11_peg_35 : decode cX11_peg 35 = .ok (.iaload, 1) := by decide +kernel
theorem dX11_peg_36 : decode cX11_peg 36 = .ok (.goto 20, 3) := by decide +kernel
theorem dX11_peg_39 : decode cX11_peg 39 = .ok (.iload_n 2, 1) := by decide +kernel
theorem dX11_peg_40 : decode cX11_peg 40 = .ok (.iconst 2, 1) := by decide +kernel
theorem dX11_peg_41 : decode cX11_peg 41 = .ok (.if_icmp .ne 12, 3) := by decide +kernel
theorem dX11_peg_44 : decode cX11_peg 44 = .ok (.aload_n 0, 1) := by decide +kernel
theorem dX11_peg_45 : decode cX11_peg 45 = .ok (.getfield 41, 3) := by decide +kernel
theorem dX11_peg_48 : decode cX11_peg 48 = .ok (.iload_n 1, 1) := by decide +kernel
theorem dX11_peg_49 : decode cX11_peg 49 = .ok (.iaload, 1) := by decide +kernel
theorem dX11_peg_50 : decode cX11_peg 50 = .ok (.goto 6, 3) := by decide +kernel
theorem dX11_peg_53 : decode cX11_peg 53 = .ok (.sipush (-1002), 3) := by decide +kernel
theorem dX11_peg_56 : decode cX11_peg 56 = .ok (.ireturn, 1) := by decide +kernel
set_option maxRecDepth 20000 in
theorem ggX11_odds_X11_in : GoodIn wsX11_odds wsX11_in := goodIn_r _ [7] (by decide +kernel) (by decide +kernel)
set_option maxRecDepth 20000 in
theorem gX11_odds_X11_in : GoodIn wsX11_odds (va_wsS RX11 126 yX11_in wsX11_in) := goodIn_app (goodIn_of _ (by decide +kernel)) ggX11_odds_X11_in
theorem dX11_odds_0 : decode cX11_odds 0 = .ok (.iload_n 1, 1) := by decide +kernel
theorem dX11_odds_1 : decode cX11_odds 1 = .ok (.i2l, 1) := by decide +kernel
theorem dX11_odds_2 : decode cX11_odds 2 = .ok (.lconst 0, 1) := by decide +kernel
theorem dX11_odds_3 : decode cX11_odds 3 = .ok (.ldc2_w 234, 3) := by decide +kernel
theorem dX11_odds_6 : decode cX11_odds 6 = .ok (.invokestatic 126, 3) := by decide +kernel
theorem dX11_odds_9 : decode cX11_odds 9 = .ok (.ifCond .eq 28, 3) := by decide +kernel
theorem dX11_odds_12 : decode cX11_odds 12 = .ok (.iload_n 2, 1) := by decide +kernel
theorem dX11_odds_13 : decode cX11_odds 13 = .ok (.i2l, 1) := by decide +kernel
theorem dX11_odds_14 : decode cX11_odds 14 = .ok (.lconst 0, 1) := by decide +kernel
theorem dX11_odds_15 : decode cX11_odds 15 = .ok (.ldc2_w 236, 3) := by decide +kernel
theorem dX11_odds_18 : decode cX11_odds 18 = .ok (.invokestatic 126, 3) := by decide +kernel
theorem dX11_odds_21 : decode cX11_odds 21 = .ok (.ifCond .eq 16, 3) := by decide +kernel
theorem dX11_odds_24 : decode cX11_odds 24 = .ok (.aload_n 0, 1) := by decide +kernel
theorem dX11_odds_25 : decode cX11_odds 25 = .ok (.getfield 16, 3) := by decide +kernel
theorem dX11_odds_28 : decode cX11_odds 28 = .ok (.iconst 3, 1) := by decide +kernel
theorem dX11_odds_29 : decode cX11_odds 29 = .ok (.iload_n 1, 1) := by decide +kernel
theorem dX11_odds_30 : decode cX11_odds 30 = .ok (.imul, 1) := by decide +kernel
theorem dX11_odds_31 : decode cX11_odds 31 = .ok (.iload_n 2, 1) := by decide +kernel
theorem dX11_odds_32 : decode cX11_odds 32 = .ok (.iadd, 1) := by decide +kernel
theorem dX11_odds_33 : decode cX11_odds 33 = .ok (.iaload, 1) := by decide +kernel
theorem dX11_odds_34 : decode cX11_odds 34 = .ok (.goto 6, 3) := by decide +kernel
theorem dX11_odds_37 : decode cX11_odds 37 = .ok (.sipush (-1002), 3) := by decide +kernel
theorem dX11_odds_40 : decode cX11_odds 40 = .ok (.ireturn, 1) := by decide +kernel
set_option maxRecDepth 20000 in
theorem ggX11_count_X11_in : GoodIn wsX11_count wsX11_in := goodIn_r _ [13] (by decide +kernel) (by decide +kernel)
set_option maxRecDepth 20000 in
theorem gX11_count_X11_in : GoodIn wsX11_count (va_wsS RX11 126 yX11_in wsX11_in) := goodIn_app (goodIn_of _ (by decide +kernel)) ggX11_count_X11_in
theorem dX11_count_0 : decode cX11_count 0 = .ok (.iload_n 1, 1) := by decide +kernel
theorem dX11_count_1 : decode cX11_count 1 = .ok (.tableswitch 91 0 7 #[47, 52, 57, 62, 67, 72, 77, 84], 47) := by decide +kernel
theorem dX11_count_48 : decode cX11_count 48 = .ok (.aload_n 0, 1) := by decide +kernel
theorem dX11_count_49 : decode cX11_count 49 = .ok (.getfield 221, 3) := by decide +kernel
theorem dX11_count_52 : decode cX11_count 52 = .ok (.ireturn, 1) := by decide +kernel
theorem dX11_count_53 : decode cX11_count 53 = .ok (.aload_n 0, 1) := by decide +kernel
theorem dX11_count_54 : decode cX11_count 54 = .ok (.getfield 227, 3) := by decide +kernel
theorem dX11_count_57 : decode cX11_count 57 = .ok (.ireturn, 1) := by decide +kernel
theorem dX11_count_58 : decode cX11_count 58 = .ok (.aload_n 0, 1) := by decide +kernel
theorem dX11_count_59 : decode cX11_count 59 = .ok (.getfield 215, 3) := by decide +kernel
theorem dX11_count_62 : decode cX11_count 62 = .ok (.ireturn, 1) := by decide +kernel
theorem dX11_count_63 : decode cX11_count 63 = .ok (.aload_n 0, 1) := by decide +kernel
theorem dX11_count_64 : decode cX11_count 64 = .ok (.getfield 238, 3) := by decide +kernel
theorem dX11_count_67 : decode cX11_count 67 = .ok (.ireturn, 1) := by decide +kernel
theorem dX11_count_68 : decode cX11_count 68 = .ok (.aload_n 0, 1) := by decide +kernel
theorem dX11_count_69 : decode cX11_count 69 = .ok (.getfield 241, 3) := by decide +kernel
theorem dX11_count_72 : decode cX11_count 72 = .ok (.ireturn, 1) := by decide +kernel
theorem dX11_count_73 : decode cX11_count 73 = .ok (.aload_n 0, 1) := by decide +kernel
theorem dX11_count_74 : decode cX11_count 74 = .ok (.getfield 130, 3) := by decide +kernel
theorem dX11_count_77 : decode cX11_count 77 = .ok (.ireturn, 1) := by decide +kernel
theorem dX11_count_78 : decode cX11_count 78 = .ok (.aload_n 0, 1) := by decide +kernel
theorem dX11_count_79 : decode cX11_count 79 = .ok (.getfield 19, 3) := by decide +kernel
theorem dX11_count_82 : decode cX11_count 82 = .ok (.iconst 3, 1) := by decide +kernel
theorem dX11_count_83 : decode cX11_count 83 = .ok (.iaload, 1) := by decide +kernel
theorem dX11_count_84 : decode cX11_count 84 = .ok (.ireturn, 1) := by decide +kernel
theorem dX11_count_85 : decode cX11_count 85 = .ok (.aload_n 0, 1) := by decide +kernel
theorem dX11_count_86 : decode cX11_count 86 = .ok (.getfield 19, 3) := by decide +kernel
theorem dX11_count_89 : decode cX11_count 89 = .ok (.iconst 4, 1) := by decide +kernel
theorem dX11_count_90 : decode cX11_count 90 = .ok (.iaload, 1) := by decide +kernel
theorem dX11_count_91 : decode cX11_count 91 = .ok (.ireturn, 1) := by decide +kernel
theorem dX11_count_92 : decode cX11_count 92 = .ok (.iload_n 1, 1) := by decide +kernel
theorem dX11_count_93 : decode cX11_count 93 = .ok (.i2l, 1) := by decide +kernel
theorem dX11_count_94 : decode cX11_count 94 = .ok (.ldc2_w 124, 3) := by decide +kernel
theorem dX11_count_97 : decode cX11_count 97 = .ok (.ldc2_w 244, 3) := by decide +kernel
theorem dX11_count_100 : decode cX11_count 100 = .ok (.invokestatic 126, 3) := by decide +kernel
theorem dX11_count_103 : decode cX11_count 103 = .ok (.ifCond .eq 15, 3) := by decide +kernel
theorem dX11_count_106 : decode cX11_count 106 = .ok (.aload_n 0, 1) := by decide +kernel
theorem dX11_count_107 : decode cX11_count 107 = .ok (.getfield 19, 3) := by decide +kernel
theorem dX11_count_110 : decode cX11_count 110 = .ok (.iload_n 1, 1) := by decide +kernel
theorem dX11_count_111 : decode cX11_count 111 = .ok (.bipush 8, 2) := by decide +kernel
theorem dX11_count_113 : decode cX11_count 113 = .ok (.isub, 1) := by decide +kernel
theorem dX11_count_114 : decode cX11_count 114 = .ok (.iaload, 1) := by decide +kernel
theorem dX11_count_115 : decode cX11_count 115 = .ok (.goto 6, 3) := by decide +kernel
theorem dX11_count_118 : decode cX11_count 118 = .ok (.sipush (-1002), 3) := by decide +kernel
theorem dX11_count_121 : decode cX11_count 121 = .ok (.ireturn, 1) := by decide +kernel
set_option maxRecDepth 20000 in
theorem ggX11_guest_X11_in : GoodIn wsX11_guest wsX11_in := goodIn_r _ [16] (by decide +kernel) (by decide +kernel)
set_option maxRecDepth 20000 in
theorem gX11_guest_X11_in : GoodIn wsX11_guest (va_wsS RX11 126 yX11_in wsX11_in) := goodIn_app (goodIn_of _ (by decide +kernel)) ggX11_guest_X11_in
theorem dX11_guest_0 : decode cX11_guest 0 = .ok (.iload_n 1, 1) := by decide +kernel
theorem dX11_guest_1 : decode cX11_guest 1 = .ok (.i2l, 1) := by decide +kernel
theorem dX11_guest_2 : decode cX11_guest 2 = .ok (.lconst 0, 1) := by decide +kernel
theorem dX11_guest_3 : decode cX11_guest 3 = .ok (.ldc2_w 234, 3) := by decide +kernel
theorem dX11_guest_6 : decode cX11_guest 6 = .ok (.invokestatic 126, 3) := by decide +kernel
theorem dX11_guest_9 : decode cX11_guest 9 = .ok (.ifCond .eq 40, 3) := by decide +kernel
theorem dX11_guest_12 : decode cX11_guest 12 = .ok (.iload_n 2, 1) := by decide +kernel
theorem dX11_guest_13 : decode cX11_guest 13 = .ok (.i2l, 1) := by decide +kernel
theorem dX11_guest_14 : decode cX11_guest 14 = .ok (.lconst 0, 1) := by decide +kernel
theorem dX11_guest_15 : decode cX11_guest 15 = .ok (.ldc2_w 236, 3) := by decide +kernel
theorem dX11_guest_18 : decode cX11_guest 18 = .ok (.invokestatic 126, 3) := by decide +kernel
theorem dX11_guest_21 : decode cX11_guest 21 = .ok (.ifCond .eq 28, 3) := by decide +kernel
theorem dX11_guest_24 : decode cX11_guest 24 = .ok (.iload_n 3, 1) := by decide +kernel
theorem dX11_guest_25 : decode cX11_guest 25 = .ok (.i2l, 1) := by decide +kernel
theorem dX11_guest_26 : decode cX11_guest 26 = .ok (.lconst 0, 1) := by decide +kernel
theorem dX11_guest_27 : decode cX11_guest 27 = .ok (.ldc2_w 246, 3) := by decide +kernel
theorem dX11_guest_30 : decode cX11_guest 30 = .ok (.invokestatic 126, 3) := by decide +kernel
theorem dX11_guest_33 : decode cX11_guest 33 = .ok (.ifCond .eq 16, 3) := by decide +kernel
theorem dX11_guest_36 : decode cX11_guest 36 = .ok (.iload 4, 2) := by decide +kernel
theorem dX11_guest_38 : decode cX11_guest 38 = .ok (.i2l, 1) := by decide +kernel
theorem dX11_guest_39 : decode cX11_guest 39 = .ok (.lconst 0, 1) := by decide +kernel
theorem dX11_guest_40 : decode cX11_guest 40 = .ok (.ldc2_w 133, 3) := by decide +kernel
theorem dX11_guest_43 : decode cX11_guest 43 = .ok (.invokestatic 126, 3) := by decide +kernel
theorem dX11_guest_46 : decode cX11_guest 46 = .ok (.ifCond .ne 7, 3) := by decide +kernel
theorem dX11_guest_49 : decode cX11_guest 49 = .ok (.sipush (-1002), 3) := by decide +kernel
theorem dX11_guest_52 : decode cX11_guest 52 = .ok (.ireturn, 1) := by decide +kernel
theorem dX11_guest_53 : decode cX11_guest 53 = .ok (.aload_n 0, 1) := by decide +kernel
theorem dX11_guest_54 : decode cX11_guest 54 = .ok (.getfield 227, 3) := by decide +kernel
theorem dX11_guest_57 : decode cX11_guest 57 = .ok (.bipush 16, 2) := by decide +kernel
theorem dX11_guest_59 : decode cX11_guest 59 = .ok (.if_icmp .ne 7, 3) := by decide +kernel
theorem dX11_guest_62 : decode cX11_guest 62 = .ok (.sipush (-1004), 3) := by decide +kernel
theorem dX11_guest_65 : decode cX11_guest 65 = .ok (.ireturn, 1) := by decide +kernel
theorem dX11_guest_66 : decode cX11_guest 66 = .ok (.aload_n 0, 1) := by decide +kernel
theorem dX11_guest_67 : decode cX11_guest 67 = .ok (.getfield 44, 3) := by decide +kernel
theorem dX11_guest_70 : decode cX11_guest 70 = .ok (.aload_n 0, 1) := by decide +kernel
theorem dX11_guest_71 : decode cX11_guest 71 = .ok (.getfield 227, 3) := by decide +kernel
theorem dX11_guest_74 : decode cX11_guest 74 = .ok (.iload_n 1, 1) := by decide +kernel
theorem dX11_guest_75 : decode cX11_guest 75 = .ok (.iastore, 1) := by decide +kernel
theorem dX11_guest_76 : decode cX11_guest 76 = .ok (.aload_n 0, 1) := by decide +kernel
theorem dX11_guest_77 : decode cX11_guest 77 = .ok (.getfield 47, 3) := by decide +kernel
theorem dX11_guest_80 : decode cX11_guest 80 = .ok (.aload_n 0, 1) := by decide +kernel
theorem dX11_guest_81 : decode cX11_guest 81 = .ok (.getfield 227, 3) := by decide +kernel
theorem dX11_guest_84 : decode cX11_guest 84 = .ok (.iload_n 2, 1) := by decide +kernel
theorem dX11_guest_85 : decode cX11_guest 85 = .ok (.iastore, 1) := by decide +kernel
theorem dX11_guest_86 : decode cX11_guest 86 = .ok (.aload_n 0, 1) := by decide +kernel
theorem dX11_guest_87 : decode cX11_guest 87 = .ok (.getfield 50, 3) := by decide +kernel
theorem dX11_guest_90 : decode cX11_guest 90 = .ok (.aload_n 0, 1) := by decide +kernel
theorem dX11_guest_91 : decode cX11_guest 91 = .ok (.getfield 227, 3) := by decide +kernel
theorem dX11_guest_94 : decode cX11_guest 94 = .ok (.iload_n 3, 1) := by decide +kernel
theorem dX11_guest_95 : decode cX11_guest 95 = .ok (.iastore, 1) := by decide +kernel
theorem dX11_guest_96 : decode cX11_guest 96 = .ok (.aload_n 0, 1) := by decide +kernel
theorem dX11_guest_97 : decode cX11_guest 97 = .ok (.getfield 53, 3) := by decide +kernel
theorem dX11_guest_100 : decode cX11_guest 100 = .ok (.aload_n 0, 1) := by decide +kernel
theorem dX11_guest_101 : decode cX11_guest 101 = .ok (.getfield 227, 3) := by decide +kernel
theorem dX11_guest_104 : decode cX11_guest 104 = .ok (.iload 4, 2) := by decide +kernel
theorem dX11_guest_106 : decode cX11_guest 106 = .ok (.iastore, 1) := by decide +kernel
theorem dX11_guest_107 : decode cX11_guest 107 = .ok (.aload_n 0, 1) := by decide +kernel
theorem dX11_guest_108 : decode cX11_guest 108 = .ok (.getfield 56, 3) := by decide +kernel
theorem dX11_guest_111 : decode cX11_guest 111 = .ok (.aload_n 0, 1) := by decide +kernel
theorem dX11_guest_112 : decode cX11_guest 112 = .ok (.getfield 227, 3) := by decide +kernel
theorem dX11_guest_115 : decode cX11_guest 115 = .ok (.iconst (-1), 1) := by decide +kernel
theorem dX11_guest_116 : decode cX11_guest 116 = .ok (.iastore, 1) := by decide +kernel
theorem dX11_guest_117 : decode cX11_guest 117 = .ok (.aload_n 0, 1) := by decide +kernel
theorem dX11_guest_118 : decode cX11_guest 118 = .ok (.getfield 59, 3) := by decide +kernel
theorem dX11_guest_121 : decode cX11_guest 121 = .ok (.aload_n 0, 1) := by decide +kernel
theorem dX11_guest_122 : decode cX11_guest 122 = .ok (.getfield 227, 3) := by decide +kernel
theorem dX11_guest_125 : decode cX11_guest 125 = .ok (.iconst (-1), 1) := by decide +kernel
theorem dX11_guest_126 : decode cX11_guest 126 = .ok (.iastore, 1) := by decide +kernel
theorem dX11_guest_127 : decode cX11_guest 127 = .ok (.aload_n 0, 1) := by decide +kernel
theorem dX11_guest_128 : decode cX11_guest 128 = .ok (.getfield 62, 3) := by decide +kernel
theorem dX11_guest_131 : decode cX11_guest 131 = .ok (.aload_n 0, 1) := by decide +kernel
theorem dX11_guest_132 : decode cX11_guest 132 = .ok (.getfield 227, 3) := by decide +kernel
theorem dX11_guest_135 : decode cX11_guest 135 = .ok (.iconst (-1), 1) := by decide +kernel
theorem dX11_guest_136 : decode cX11_guest 136 = .ok (.iastore, 1) := by decide +kernel
theorem dX11_guest_137 : decode cX11_guest 137 = .ok (.aload_n 0, 1) := by decide +kernel
theorem dX11_guest_138 : decode cX11_guest 138 = .ok (.dup, 1) := by decide +kernel
theorem dX11_guest_139 : decode cX11_guest 139 = .ok (.getfield 227, 3) := by decide +kernel
theorem dX11_guest_142 : decode cX11_guest 142 = .ok (.iconst 1, 1) := by decide +kernel
theorem dX11_guest_143 : decode cX11_guest 143 = .ok (.iadd, 1) := by decide +kernel
theorem dX11_guest_144 : decode cX11_guest 144 = .ok (.putfield 227, 3) := by decide +kernel
theorem dX11_guest_147 : decode cX11_guest 147 = .ok (.aload_n 0, 1) := by decide +kernel
theorem dX11_guest_148 : decode cX11_guest 148 = .ok (.getfield 227, 3) := by decide +kernel
theorem dX11_guest_151 : decode cX11_guest 151 = .ok (.iconst 1, 1) := by decide +kernel
theorem dX11_guest_152 : decode cX11_guest 152 = .ok (.isub, 1) := by decide +kernel
theorem dX11_guest_153 : decode cX11_guest 153 = .ok (.ireturn, 1) := by decide +kernel
theorem dX11_pegOf_0 : decode cX11_pegOf 0 = .ok (.iconst (-1), 1) := by decide +kernel
theorem dX11_pegOf_1 : decode cX11_pegOf 1 = .ok (.istore_n 2, 1) := by decide +kernel
theorem dX11_pegOf_2 : decode cX11_pegOf 2 = .ok (.iconst 0, 1) := by decide +kernel
theorem dX11_pegOf_3 : decode cX11_pegOf 3 = .ok (.istore_n 3, 1) := by decide +kernel
theorem dX11_pegOf_4 : decode cX11_pegOf 4 = .ok (.iload_n 3, 1) := by decide +kernel
theorem dX11_pegOf_5 : decode cX11_pegOf 5 = .ok (.aload_n 0, 1) := by decide +kernel
theorem dX11_pegOf_6 : decode cX11_pegOf 6 = .ok (.getfield 221, 3) := by decide +kernel
theorem dX11_pegOf_9 : decode cX11_pegOf 9 = .ok (.if_icmp .ge 25, 3) := by decide +kernel
theorem dX11_pegOf_12 : decode cX11_pegOf 12 = .ok (.aload_n 0, 1) := by decide +kernel
theorem dX11_pegOf_13 : decode cX11_pegOf 13 = .ok (.getfield 41, 3) := by decide +kernel
theorem dX11_pegOf_16 : decode cX11_pegOf 16 = .ok (.iload_n 3, 1) := by decide +kernel
theorem dX11_pegOf_17 : decode cX11_pegOf 17 = .ok (.iaload, 1) := by decide +kernel
theorem dX11_pegOf_18 : decode cX11_pegOf 18 = .ok (.iload_n 1, 1) := by decide +kernel
theorem dX11_pegOf_19 : decode cX11_pegOf 19 = .ok (.if_icmp .ne 7, 3) := by decide +kernel
theorem dX11_pegOf_22 : decode cX11_pegOf 22 = .ok (.iload_n 3, 1) := by decide +kernel
theorem dX11_pegOf_23 : decode cX11_pegOf 23 = .ok (.goto 4, 3) := by decide +kernel
theorem dX11_pegOf_26 : decode cX11_pegOf 26 = .ok (.iload_n 2, 1) := by decide +kernel
theorem dX11_pegOf_27 : decode cX11_pegOf 27 = .ok (.istore_n 2, 1) := by decide +kernel
theorem dX11_pegOf_28 : decode cX11_pegOf 28 = .ok (.iinc 3 1, 3) := by decide +kernel
theorem dX11_pegOf_31 : decode cX11_pegOf 31 = .ok (.goto (-27), 3) := by decide +kernel
theorem dX11_pegOf_34 : decode cX11_pegOf 34 = .ok (.iload_n 2, 1) := by decide +kernel
theorem dX11_pegOf_35 : decode cX11_pegOf 35 = .ok (.ireturn, 1) := by decide +kernel
theorem dX11_holderOf_0 : decode cX11_holderOf 0 = .ok (.iconst (-1), 1) := by decide +kernel
theorem dX11_holderOf_1 : decode cX11_holderOf 1 = .ok (.istore_n 2, 1) := by decide +kernel
theorem dX11_holderOf_2 : decode cX11_holderOf 2 = .ok (.iconst 0, 1) := by decide +kernel
theorem dX11_holderOf_3 : decode cX11_holderOf 3 = .ok (.istore_n 3, 1) := by decide +kernel
theorem dX11_holderOf_4 : decode cX11_holderOf 4 = .ok (.iload_n 3, 1) := by decide +kernel
theorem dX11_holderOf_5 : decode cX11_holderOf 5 = .ok (.aload_n 0, 1) := by decide +kernel
theorem dX11_holderOf_6 : decode cX11_holderOf 6 = .ok (.getfield 227, 3) := by decide +kernel
theorem dX11_holderOf_9 : decode cX11_holderOf 9 = .ok (.if_icmp .ge 25, 3) := by decide +kernel
theorem dX11_holderOf_12 : decode cX11_holderOf 12 = .ok (.aload_n 0, 1) := by decide +kernel
theorem dX11_holderOf_13 : decode cX11_holderOf 13 = .ok (.getfield 59, 3) := by decide +kernel
theorem dX11_holderOf_16 : decode cX11_holderOf 16 = .ok (.iload_n 3, 1) := by decide +kernel
theorem dX11_holderOf_17 : decode cX11_holderOf 17 = .ok (.iaload, 1) := by decide +kernel
theorem dX11_holderOf_18 : decode cX11_holderOf 18 = .ok (.iload_n 1, 1) := by decide +kernel
theorem dX11_holderOf_19 : decode cX11_holderOf 19 = .ok (.if_icmp .ne 7, 3) := by decide +kernel
theorem dX11_holderOf_22 : decode cX11_holderOf 22 = .ok (.iload_n 3, 1) := by decide +kernel
theorem dX11_holderOf_23 : decode cX11_holderOf 23 = .ok (.goto 4, 3) := by decide +kernel
theorem dX11_holderOf_26 : decode cX11_holderOf 26 = .ok (.iload_n 2, 1) := by decide +kernel
theorem dX11_holderOf_27 : decode cX11_holderOf 27 = .ok (.istore_n 2, 1) := by decide +kernel
theorem dX11_holderOf_28 : decode cX11_holderOf 28 = .ok (.iinc 3 1, 3) := by decide +kernel
theorem dX11_holderOf_31 : decode cX11_holderOf 31 = .ok (.goto (-27), 3) := by decide +kernel
theorem dX11_holderOf_34 : decode cX11_holderOf 34 = .ok (.iload_n 2, 1) := by decide +kernel
theorem dX11_holderOf_35 : decode cX11_holderOf 35 = .ok (.ireturn, 1) := by decide +kernel
set_option maxRecDepth 20000 in
theorem ggX11_expected_X11_learntOf : GoodIn wsX11_expected wsX11_learntOf := goodIn_r _ [10, 11, 12, 13, 14, 15, 16, 17, 18, 19, 20, 21, 22, 23, 24, 25, 26, 27, 28, 29, 30, 31, 32, 33, 34, 35, 36, 37, 38, 39, 40, 41, 42, 43, 44, 45, 46, 47, 48, 49, 50, 51, 52, 53, 54, 55, 56, 57, 58, 59, 60, 61, 62, 63, 64, 65, 66, 67, 68, 69, 70, 71, 72] (by decide +kernel) (by decide +kernel)
set_option maxRecDepth 20000 in
theorem gX11_expected_X11_learntOf : GoodIn wsX11_expected (wsV RX11 251 RX11 yX11_learntOf wsX11_learntOf) := goodIn_app (goodIn_of _ (by decide +kernel)) ggX11_expected_X11_learntOf
