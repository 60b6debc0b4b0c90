noncomputable def dL_law_0_l : List (Nat × Instr × Nat) := [(0, .new 7, 3), (3, .dup, 1), (4, .invokespecial 9, 3), (7, .astore_n 1, 1), (8, .new 10, 3), (11, .dup, 1), (12, .invokespecial 12, 3), (15, .astore_n 2, 1), (16, .iconst 0, 1), (17, .istore_n 3, 1), (18, .iload_n 3, 1), (19, .aload_n 0, 1), (20, .arraylength, 1), (21, .bipush 6, 2), (23, .isub, 1), (24, .if_icmp .gt 1227, 3), (27, .aload_n 0, 1), (28, .iload_n 3, 1), (29, .iaload, 1), (30, .bipush 63, 2), (32, .iand, 1), (33, .tableswitch 1212 0 32 #[147, 210, 223, 236, 269, 302, 325, 378, 411, 460, 523, 566, 599, 652, 695, 718, 751, 764, 797, 820, 833, 866, 909, 952, 985, 1028, 1051, 1064, 1087, 1110, 1143, 1166, 1189], 147), (180, .aload_n 1, 1), (181, .aload_n 0, 1), (182, .iload_n 3, 1), (183, .iconst 1, 1), (184, .iadd, 1), (185, .iaload, 1), (186, .aload_n 0, 1), (187, .iload_n 3, 1), (188, .iconst 2, 1), (189, .iadd, 1), (190, .iaload, 1), (191, .i2l, 1), (192, .bipush 32, 2), (194, .lshl, 1), (195, .aload_n 0, 1), (196, .iload_n 3, 1), (197, .iconst 3, 1), (198, .iadd, 1), (199, .iaload, 1), (200, .i2l, 1), (201, .ldc2_w 13, 3), (204, .land, 1), (205, .lor, 1), (206, .invokevirtual 15, 3), (209, .pop, 1), (210, .aload_n 2, 1), (211, .aload_n 0, 1), (212, .iload_n 3, 1), (213, .iconst 1, 1), (214, .iadd, 1), (215, .iaload, 1), (216, .aload_n 0, 1), (217, .iload_n 3, 1), (218, .iconst 2, 1), (219, .iadd, 1), (220, .iaload, 1), (221, .i2l, 1), (222, .bipush 32, 2), (224, .lshl, 1), (225, .aload_n 0, 1), (226, .iload_n 3, 1), (227, .iconst 3, 1), (228, .iadd, 1), (229, .iaload, 1), (230, .i2l, 1), (231, .ldc2_w 13, 3), (234, .land, 1), (235, .lor, 1), (236, .invokevirtual 19, 3), (239, .pop, 1), (240, .goto 1005, 3), (243, .aload_n 1, 1), (244, .invokevirtual 20, 3), (247, .pop, 1), (248, .aload_n 2, 1), (249, .invokevirtual 24, 3), (252, .pop, 1), (253, .goto 992, 3), (256, .aload_n 1, 1), (257, .invokevirtual 25, 3), (260, .aload_n 2, 1), (261, .invokevirtual 28, 3), (264, .if_icmp .eq 981, 3), (267, .iconst 0, 1), (268, .ireturn, 1), (269, .aload_n 1, 1), (270, .aload_n 0, 1), (271, .iload_n 3, 1), (272, .iconst 1, 1), (273, .iadd, 1), (274, .iaload, 1), (275, .aload_n 0, 1), (276, .iload_n 3, 1), (277, .iconst 2, 1), (278, .iadd, 1), (279, .iaload, 1), (280, .invokevirtual 29, 3), (283, .pop, 1), (284, .aload_n 2, 1), (285, .aload_n 0, 1), (286, .iload_n 3, 1), (287, .iconst 1, 1), (288, .iadd, 1), (289, .iaload, 1), (290, .aload_n 0, 1), (291, .iload_n 3, 1), (292, .iconst 2, 1), (293, .iadd, 1), (294, .iaload, 1), (295, .invokevirtual 33, 3), (298, .pop, 1), (299, .goto 946, 3), (302, .aload_n 1, 1), (303, .aload_n 0, 1), (304, .iload_n 3, 1), (305, .iconst 1, 1), (306, .iadd, 1), (307, .iaload, 1), (308, .aload_n 0, 1), (309, .iload_n 3, 1), (310, .iconst 2, 1), (311, .iadd, 1), (312, .iaload, 1), (313, .invokevirtual 34, 3), (316, .pop, 1), (317, .aload_n 2, 1), (318, .aload_n 0, 1), (319, .iload_n 3, 1), (320, .iconst 1, 1), (321, .iadd, 1), (322, .iaload, 1), (323, .aload_n 0, 1), (324, .iload_n 3, 1), (325, .iconst 2, 1), (326, .iadd, 1), (327, .iaload, 1), (328, .invokevirtual 37, 3), (331, .pop, 1), (332, .goto 913, 3), (335, .aload_n 1, 1), (336, .aload_n 0, 1), (337, .iload_n 3, 1), (338, .iconst 1, 1), (339, .iadd, 1), (340, .iaload, 1), (341, .invokevirtual 38, 3), (344, .pop, 1), (345, .aload_n 2, 1)]
set_option maxRecDepth 100000 in
theorem dL_law_0_g : dL_law_0_l.all (fun x => decide (decode cL_law x.1 = .ok x.2)) = true := by decide +kernel
theorem dL_law_0 : decode cL_law 0 = .ok (.new 7, 3) := nq_d dL_law_0_g (n := 0) rfl
theorem dL_law_3 : decode cL_law 3 = .ok (.dup, 1) := nq_d dL_law_0_g (n := 1) rfl
theorem dL_law_4 : decode cL_law 4 = .ok (.invokespecial 9, 3) := nq_d dL_law_0_g (n := 2) rfl
theorem dL_law_7 : decode cL_law 7 = .ok (.astore_n 1, 1) := nq_d dL_law_0_g (n := 3) rfl
theorem dL_law_8 : decode cL_law 8 = .ok (.new 10, 3) := nq_d dL_law_0_g (n := 4) rfl
theorem dL_law_11 : decode cL_law 11 = .ok (.dup, 1) := nq_d dL_law_0_g (n := 5) rfl
theorem dL_law_12 : decode cL_law 12 = .ok (.invokespecial 12, 3) := nq_d dL_law_0_g (n := 6) rfl
theorem dL_law_15 : decode cL_law 15 = .ok (.astore_n 2, 1) := nq_d dL_law_0_g (n := 7) rfl
theorem dL_law_16 : decode cL_law 16 = .ok (.iconst 0, 1) := nq_d dL_law_0_g (n := 8) rfl
theorem dL_law_17 : decode cL_law 17 = .ok (.istore_n 3, 1) := nq_d dL_law_0_g (n := 9) rfl
theorem dL_law_18 : decode cL_law 18 = .ok (.iload_n 3, 1) := nq_d dL_law_0_g (n := 10) rfl
theorem dL_law_19 : decode cL_law 19 = .ok (.aload_n 0, 1) := nq_d dL_law_0_g (n := 11) rfl
theorem dL_law_20 : decode cL_law 20 = .ok (.arraylength, 1) := nq_d dL_law_0_g (n := 12) rfl
theorem dL_law_21 : decode cL_law 21 = .ok (.bipush 6, 2) := nq_d dL_law_0_g (n := 13) rfl
theorem dL_law_23 : decode cL_law 23 = .ok (.isub, 1) := nq_d dL_law_0_g (n := 14) rfl
theorem dL_law_24 : decode cL_law 24 = .ok (.if_icmp .gt 1227, 3) := nq_d dL_law_0_g (n := 15) rfl
theorem dL_law_27 : decode cL_law 27 = .ok (.aload_n 0, 1) := nq_d dL_law_0_g (n := 16) rfl
theorem dL_law_28 : decode cL_law 28 = .ok (.iload_n 3, 1) := nq_d dL_law_0_g (n := 17) rfl
theorem dL_law_29 : decode cL_law 29 = .ok (.iaload, 1) := nq_d dL_law_0_g (n := 18) rfl
theorem dL_law_30 : decode cL_law 30 = .ok (.bipush 63, 2) := nq_d dL_law_0_g (n := 19) rfl
theorem dL_law_32 : decode cL_law 32 = .ok (.iand, 1) := nq_d dL_law_0_g (n := 20) rfl
theorem dL_law_33 : decode cL_law 33 = .ok (.tableswitch 1212 0 32 #[147, 210, 223, 236, 269, 302, 325, 378, 411, 460, 523, 566, 599, 652, 695, 718, 751, 764, 797, 820, 833, 866, 909, 952, 985, 1028, 1051, 1064, 1087, 1110, 1143, 1166, 1189], 147) := nq_d dL_law_0_g (n := 21) rfl
theorem dL_law_180 : decode cL_law 180 = .ok (.aload_n 1, 1) := nq_d dL_law_0_g (n := 22) rfl
theorem dL_law_181 : decode cL_law 181 = .ok (.aload_n 0, 1) := nq_d dL_law_0_g (n := 23) rfl
theorem dL_law_182 : decode cL_law 182 = .ok (.iload_n 3, 1) := nq_d dL_law_0_g (n := 24) rfl
theorem dL_law_183 : decode cL_law 183 = .ok (.iconst 1, 1) := nq_d dL_law_0_g (n := 25) rfl
theorem dL_law_184 : decode cL_law 184 = .ok (.iadd, 1) := nq_d dL_law_0_g (n := 26) rfl
theorem dL_law_185 : decode cL_law 185 = .ok (.iaload, 1) := nq_d dL_law_0_g (n := 27) rfl
theorem dL_law_186 : decode cL_law 186 = .ok (.aload_n 0, 1) := nq_d dL_law_0_g (n := 28) rfl
theorem dL_law_187 : decode cL_law 187 = .ok (.iload_n 3, 1) := nq_d dL_law_0_g (n := 29) rfl
theorem dL_law_188 : decode cL_law 188 = .ok (.iconst 2, 1) := nq_d dL_law_0_g (n := 30) rfl
theorem dL_law_189 : decode cL_law 189 = .ok (.iadd, 1) := nq_d dL_law_0_g (n := 31) rfl
theorem dL_law_190 : decode cL_law 190 = .ok (.iaload, 1) := nq_d dL_law_0_g (n := 32) rfl
theorem dL_law_191 : decode cL_law 191 = .ok (.i2l, 1) := nq_d dL_law_0_g (n := 33) rfl
theorem dL_law_192 : decode cL_law 192 = .ok (.bipush 32, 2) := nq_d dL_law_0_g (n := 34) rfl
theorem dL_law_194 : decode cL_law 194 = .ok (.lshl, 1) := nq_d dL_law_0_g (n := 35) rfl
theorem dL_law_195 : decode cL_law 195 = .ok (.aload_n 0, 1) := nq_d dL_law_0_g (n := 36) rfl
theorem dL_law_196 : decode cL_law 196 = .ok (.iload_n 3, 1) := nq_d dL_law_0_g (n := 37) rfl
theorem dL_law_197 : decode cL_law 197 = .ok (.iconst 3, 1) := nq_d dL_law_0_g (n := 38) rfl
theorem dL_law_198 : decode cL_law 198 = .ok (.iadd, 1) := nq_d dL_law_0_g (n := 39) rfl
theorem dL_law_199 : decode cL_law 199 = .ok (.iaload, 1) := nq_d dL_law_0_g (n := 40) rfl
theorem dL_law_200 : decode cL_law 200 = .ok (.i2l, 1) := nq_d dL_law_0_g (n := 41) rfl
theorem dL_law_201 : decode cL_law 201 = .ok (.ldc2_w 13, 3) := nq_d dL_law_0_g (n := 42) rfl
theorem dL_law_204 : decode cL_law 204 = .ok (.land, 1) := nq_d dL_law_0_g (n := 43) rfl
theorem dL_law_205 : decode cL_law 205 = .ok (.lor, 1) := nq_d dL_law_0_g (n := 44) rfl
theorem dL_law_206 : decode cL_law 206 = .ok (.invokevirtual 15, 3) := nq_d dL_law_0_g (n := 45) rfl
theorem dL_law_209 : decode cL_law 209 = .ok (.pop, 1) := nq_d dL_law_0_g (n := 46) rfl
theorem dL_law_210 : decode cL_law 210 = .ok (.aload_n 2, 1) := nq_d dL_law_0_g (n := 47) rfl
theorem dL_law_211 : decode cL_law 211 = .ok (.aload_n 0, 1) := nq_d dL_law_0_g (n := 48) rfl
theorem dL_law_212 : decode cL_law 212 = .ok (.iload_n 3, 1) := nq_d dL_law_0_g (n := 49) rfl
theorem dL_law_213 : decode cL_law 213 = .ok (.iconst 1, 1) := nq_d dL_law_0_g (n := 50) rfl
theorem dL_law_214 : decode cL_law 214 = .ok (.iadd, 1) := nq_d dL_law_0_g (n := 51) rfl
theorem dL_law_215 : decode cL_law 215 = .ok (.iaload, 1) := nq_d dL_law_0_g (n := 52) rfl
theorem dL_law_216 : decode cL_law 216 = .ok (.aload_n 0, 1) := nq_d dL_law_0_g (n := 53) rfl
theorem dL_law_217 : decode cL_law 217 = .ok (.iload_n 3, 1) := nq_d dL_law_0_g (n := 54) rfl
theorem dL_law_218 : decode cL_law 218 = .ok (.iconst 2, 1) := nq_d dL_law_0_g (n := 55) rfl
theorem dL_law_219 : decode cL_law 219 = .ok (.iadd, 1) := nq_d dL_law_0_g (n := 56) rfl
theorem dL_law_220 : decode cL_law 220 = .ok (.iaload, 1) := nq_d dL_law_0_g (n := 57) rfl
theorem dL_law_221 : decode cL_law 221 = .ok (.i2l, 1) := nq_d dL_law_0_g (n := 58) rfl
theorem dL_law_222 : decode cL_law 222 = .ok (.bipush 32, 2) := nq_d dL_law_0_g (n := 59) rfl
theorem dL_law_224 : decode cL_law 224 = .ok (.lshl, 1) := nq_d dL_law_0_g (n := 60) rfl
theorem dL_law_225 : decode cL_law 225 = .ok (.aload_n 0, 1) := nq_d dL_law_0_g (n := 61) rfl
theorem dL_law_226 : decode cL_law 226 = .ok (.iload_n 3, 1) := nq_d dL_law_0_g (n := 62) rfl
theorem dL_law_227 : decode cL_law 227 = .ok (.iconst 3, 1) := nq_d dL_law_0_g (n := 63) rfl
theorem dL_law_228 : decode cL_law 228 = .ok (.iadd, 1) := nq_d dL_law_0_g (n := 64) rfl
theorem dL_law_229 : decode cL_law 229 = .ok (.iaload, 1) := nq_d dL_law_0_g (n := 65) rfl
theorem dL_law_230 : decode cL_law 230 = .ok (.i2l, 1) := nq_d dL_law_0_g (n := 66) rfl
theorem dL_law_231 : decode cL_law 231 = .ok (.ldc2_w 13, 3) := nq_d dL_law_0_g (n := 67) rfl
theorem dL_law_234 : decode cL_law 234 = .ok (.land, 1) := nq_d dL_law_0_g (n := 68) rfl
theorem dL_law_235 : decode cL_law 235 = .ok (.lor, 1) := nq_d dL_law_0_g (n := 69) rfl
theorem dL_law_236 : decode cL_law 236 = .ok (.invokevirtual 19, 3) := nq_d dL_law_0_g (n := 70) rfl
theorem dL_law_239 : decode cL_law 239 = .ok (.pop, 1) := nq_d dL_law_0_g (n := 71) rfl
theorem dL_law_240 : decode cL_law 240 = .ok (.goto 1005, 3) := nq_d dL_law_0_g (n := 72) rfl
theorem dL_law_243 : decode cL_law 243 = .ok (.aload_n 1, 1) := nq_d dL_law_0_g (n := 73) rfl
theorem dL_law_244 : decode cL_law 244 = .ok (.invokevirtual 20, 3) := nq_d dL_law_0_g (n := 74) rfl
theorem dL_law_247 : decode cL_law 247 = .ok (.pop, 1) := nq_d dL_law_0_g (n := 75) rfl
theorem dL_law_248 : decode cL_law 248 = .ok (.aload_n 2, 1) := nq_d dL_law_0_g (n := 76) rfl
theorem dL_law_249 : decode cL_law 249 = .ok (.invokevirtual 24, 3) := nq_d dL_law_0_g (n := 77) rfl
theorem dL_law_252 : decode cL_law 252 = .ok (.pop, 1) := nq_d dL_law_0_g (n := 78) rfl
theorem dL_law_253 : decode cL_law 253 = .ok (.goto 992, 3) := nq_d dL_law_0_g (n := 79) rfl
theorem dL_law_256 : decode cL_law 256 = .ok (.aload_n 1, 1) := nq_d dL_law_0_g (n := 80) rfl
theorem dL_law_257 : decode cL_law 257 = .ok (.invokevirtual 25, 3) := nq_d dL_law_0_g (n := 81) rfl
theorem dL_law_260 : decode cL_law 260 = .ok (.aload_n 2, 1) := nq_d dL_law_0_g (n := 82) rfl
theorem dL_law_261 : decode cL_law 261 = .ok (.invokevirtual 28, 3) := nq_d dL_law_0_g (n := 83) rfl
theorem dL_law_264 : decode cL_law 264 = .ok (.if_icmp .eq 981, 3) := nq_d dL_law_0_g (n := 84) rfl
theorem dL_law_267 : decode cL_law 267 = .ok (.iconst 0, 1) := nq_d dL_law_0_g (n := 85) rfl
theorem dL_law_268 : decode cL_law 268 = .ok (.ireturn, 1) := nq_d dL_law_0_g (n := 86) rfl
theorem dL_law_269 : decode cL_law 269 = .ok (.aload_n 1, 1) := nq_d dL_law_0_g (n := 87) rfl
theorem dL_law_270 : decode cL_law 270 = .ok (.aload_n 0, 1) := nq_d dL_law_0_g (n := 88) rfl
theorem dL_law_271 : decode cL_law 271 = .ok (.iload_n 3, 1) := nq_d dL_law_0_g (n := 89) rfl
theorem dL_law_272 : decode cL_law 272 = .ok (.iconst 1, 1) := nq_d dL_law_0_g (n := 90) rfl
theorem dL_law_273 : decode cL_law 273 = .ok (.iadd, 1) := nq_d dL_law_0_g (n := 91) rfl
theorem dL_law_274 : decode cL_law 274 = .ok (.iaload, 1) := nq_d dL_law_0_g (n := 92) rfl
theorem dL_law_275 : decode cL_law 275 = .ok (.aload_n 0, 1) := nq_d dL_law_0_g (n := 93) rfl
theorem dL_law_276 : decode cL_law 276 = .ok (.iload_n 3, 1) := nq_d dL_law_0_g (n := 94) rfl
theorem dL_law_277 : decode cL_law 277 = .ok (.iconst 2, 1) := nq_d dL_law_0_g (n := 95) rfl
theorem dL_law_278 : decode cL_law 278 = .ok (.iadd, 1) := nq_d dL_law_0_g (n := 96) rfl
theorem dL_law_279 : decode cL_law 279 = .ok (.iaload, 1) := nq_d dL_law_0_g (n := 97) rfl
theorem dL_law_280 : decode cL_law 280 = .ok (.invokevirtual 29, 3) := nq_d dL_law_0_g (n := 98) rfl
theorem dL_law_283 : decode cL_law 283 = .ok (.pop, 1) := nq_d dL_law_0_g (n := 99) rfl
theorem dL_law_284 : decode cL_law 284 = .ok (.aload_n 2, 1) := nq_d dL_law_0_g (n := 100) rfl
theorem dL_law_285 : decode cL_law 285 = .ok (.aload_n 0, 1) := nq_d dL_law_0_g (n := 101) rfl
theorem dL_law_286 : decode cL_law 286 = .ok (.iload_n 3, 1) := nq_d dL_law_0_g (n := 102) rfl
theorem dL_law_287 : decode cL_law 287 = .ok (.iconst 1, 1) := nq_d dL_law_0_g (n := 103) rfl
theorem dL_law_288 : decode cL_law 288 = .ok (.iadd, 1) := nq_d dL_law_0_g (n := 104) rfl
theorem dL_law_289 : decode cL_law 289 = .ok (.iaload, 1) := nq_d dL_law_0_g (n := 105) rfl
theorem dL_law_290 : decode cL_law 290 = .ok (.aload_n 0, 1) := nq_d dL_law_0_g (n := 106) rfl
theorem dL_law_291 : decode cL_law 291 = .ok (.iload_n 3, 1) := nq_d dL_law_0_g (n := 107) rfl
theorem dL_law_292 : decode cL_law 292 = .ok (.iconst 2, 1) := nq_d dL_law_0_g (n := 108) rfl
theorem dL_law_293 : decode cL_law 293 = .ok (.iadd, 1) := nq_d dL_law_0_g (n := 109) rfl
theorem dL_law_294 : decode cL_law 294 = .ok (.iaload, 1) := nq_d dL_law_0_g (n := 110) rfl
theorem dL_law_295 : decode cL_law 295 = .ok (.invokevirtual 33, 3) := nq_d dL_law_0_g (n := 111) rfl
theorem dL_law_298 : decode cL_law 298 = .ok (.pop, 1) := nq_d dL_law_0_g (n := 112) rfl
theorem dL_law_299 : decode cL_law 299 = .ok (.goto 946, 3) := nq_d dL_law_0_g (n := 113) rfl
theorem dL_law_302 : decode cL_law 302 = .ok (.aload_n 1, 1) := nq_d dL_law_0_g (n := 114) rfl
theorem dL_law_303 : decode cL_law 303 = .ok (.aload_n 0, 1) := nq_d dL_law_0_g (n := 115) rfl
theorem dL_law_304 : decode cL_law 304 = .ok (.iload_n 3, 1) := nq_d dL_law_0_g (n := 116) rfl
theorem dL_law_305 : decode cL_law 305 = .ok (.iconst 1, 1) := nq_d dL_law_0_g (n := 117) rfl
theorem dL_law_306 : decode cL_law 306 = .ok (.iadd, 1) := nq_d dL_law_0_g (n := 118) rfl
theorem dL_law_307 : decode cL_law 307 = .ok (.iaload, 1) := nq_d dL_law_0_g (n := 119) rfl
theorem dL_law_308 : decode cL_law 308 = .ok (.aload_n 0, 1) := nq_d dL_law_0_g (n := 120) rfl
theorem dL_law_309 : decode cL_law 309 = .ok (.iload_n 3, 1) := nq_d dL_law_0_g (n := 121) rfl
theorem dL_law_310 : decode cL_law 310 = .ok (.iconst 2, 1) := nq_d dL_law_0_g (n := 122) rfl
theorem dL_law_311 : decode cL_law 311 = .ok (.iadd, 1) := nq_d dL_law_0_g (n := 123) rfl
theorem dL_law_312 : decode cL_law 312 = .ok (.iaload, 1) := nq_d dL_law_0_g (n := 124) rfl
theorem dL_law_313 : decode cL_law 313 = .ok (.invokevirtual 34, 3) := nq_d dL_law_0_g (n := 125) rfl
theorem dL_law_316 : decode cL_law 316 = .ok (.pop, 1) := nq_d dL_law_0_g (n := 126) rfl
theorem dL_law_317 : decode cL_law 317 = .ok (.aload_n 2, 1) := nq_d dL_law_0_g (n := 127) rfl
theorem dL_law_318 : decode cL_law 318 = .ok (.aload_n 0, 1) := nq_d dL_law_0_g (n := 128) rfl
theorem dL_law_319 : decode cL_law 319 = .ok (.iload_n 3, 1) := nq_d dL_law_0_g (n := 129) rfl
theorem dL_law_320 : decode cL_law 320 = .ok (.iconst 1, 1) := nq_d dL_law_0_g (n := 130) rfl
theorem dL_law_321 : decode cL_law 321 = .ok (.iadd, 1) := nq_d dL_law_0_g (n := 131) rfl
theorem dL_law_322 : decode cL_law 322 = .ok (.iaload, 1) := nq_d dL_law_0_g (n := 132) rfl
theorem dL_law_323 : decode cL_law 323 = .ok (.aload_n 0, 1) := nq_d dL_law_0_g (n := 133) rfl
theorem dL_law_324 : decode cL_law 324 = .ok (.iload_n 3, 1) := nq_d dL_law_0_g (n := 134) rfl
theorem dL_law_325 : decode cL_law 325 = .ok (.iconst 2, 1) := nq_d dL_law_0_g (n := 135) rfl
theorem dL_law_326 : decode cL_law 326 = .ok (.iadd, 1) := nq_d dL_law_0_g (n := 136) rfl
theorem dL_law_327 : decode cL_law 327 = .ok (.iaload, 1) := nq_d dL_law_0_g (n := 137) rfl
theorem dL_law_328 : decode cL_law 328 = .ok (.invokevirtual 37, 3) := nq_d dL_law_0_g (n := 138) rfl
theorem dL_law_331 : decode cL_law 331 = .ok (.pop, 1) := nq_d dL_law_0_g (n := 139) rfl
theorem dL_law_332 : decode cL_law 332 = .ok (.goto 913, 3) := nq_d dL_law_0_g (n := 140) rfl
theorem dL_law_335 : decode cL_law 335 = .ok (.aload_n 1, 1) := nq_d dL_law_0_g (n := 141) rfl
theorem dL_law_336 : decode cL_law 336 = .ok (.aload_n 0, 1) := nq_d dL_law_0_g (n := 142) rfl
theorem dL_law_337 : decode cL_law 337 = .ok (.iload_n 3, 1) := nq_d dL_law_0_g (n := 143) rfl
theorem dL_law_338 : decode cL_law 338 = .ok (.iconst 1, 1) := nq_d dL_law_0_g (n := 144) rfl
theorem dL_law_339 : decode cL_law 339 = .ok (.iadd, 1) := nq_d dL_law_0_g (n := 145) rfl
theorem dL_law_340 : decode cL_law 340 = .ok (.iaload, 1) := nq_d dL_law_0_g (n := 146) rfl
theorem dL_law_341 : decode cL_law 341 = .ok (.invokevirtual 38, 3) := nq_d dL_law_0_g (n := 147) rfl
theorem dL_law_344 : decode cL_law 344 = .ok (.pop, 1) := nq_d dL_law_0_g (n := 148) rfl
theorem dL_law_345 : decode cL_law 345 = .ok (.aload_n 2, 1) := nq_d dL_law_0_g (n := 149) rfl
noncomputable def dL_law_346_l : List (Nat × Instr × Nat) := [(346, .aload_n 0, 1), (347, .iload_n 3, 1), (348, .iconst 1, 1), (349, .iadd, 1), (350, .iaload, 1), (351, .invokevirtual 42, 3), (354, .pop, 1), (355, .goto 890, 3), (358, .aload_n 1, 1), (359, .aload_n 0, 1), (360, .iload_n 3, 1), (361, .iconst 1, 1), (362, .iadd, 1), (363, .iaload, 1), (364, .aload_n 0, 1), (365, .iload_n 3, 1), (366, .iconst 2, 1), (367, .iadd, 1), (368, .iaload, 1), (369, .aload_n 0, 1), (370, .iload_n 3, 1), (371, .iconst 3, 1), (372, .iadd, 1), (373, .iaload, 1), (374, .aload_n 0, 1), (375, .iload_n 3, 1), (376, .iconst 4, 1), (377, .iadd, 1), (378, .iaload, 1), (379, .invokevirtual 43, 3), (382, .pop, 1), (383, .aload_n 2, 1), (384, .aload_n 0, 1), (385, .iload_n 3, 1), (386, .iconst 1, 1), (387, .iadd, 1), (388, .iaload, 1), (389, .aload_n 0, 1), (390, .iload_n 3, 1), (391, .iconst 2, 1), (392, .iadd, 1), (393, .iaload, 1), (394, .aload_n 0, 1), (395, .iload_n 3, 1), (396, .iconst 3, 1), (397, .iadd, 1), (398, .iaload, 1), (399, .aload_n 0, 1), (400, .iload_n 3, 1), (401, .iconst 4, 1), (402, .iadd, 1), (403, .iaload, 1), (404, .invokevirtual 47, 3), (407, .pop, 1), (408, .goto 837, 3), (411, .aload_n 1, 1), (412, .aload_n 0, 1), (413, .iload_n 3, 1), (414, .iconst 1, 1), (415, .iadd, 1), (416, .iaload, 1), (417, .aload_n 0, 1), (418, .iload_n 3, 1), (419, .iconst 2, 1), (420, .iadd, 1), (421, .iaload, 1), (422, .invokevirtual 48, 3), (425, .pop, 1), (426, .aload_n 2, 1), (427, .aload_n 0, 1), (428, .iload_n 3, 1), (429, .iconst 1, 1), (430, .iadd, 1), (431, .iaload, 1), (432, .aload_n 0, 1), (433, .iload_n 3, 1), (434, .iconst 2, 1), (435, .iadd, 1), (436, .iaload, 1), (437, .invokevirtual 51, 3), (440, .pop, 1), (441, .goto 804, 3), (444, .aload_n 1, 1), (445, .aload_n 0, 1), (446, .iload_n 3, 1), (447, .iconst 1, 1), (448, .iadd, 1), (449, .iaload, 1), (450, .ifCond .eq 7, 3), (453, .iconst 1, 1), (454, .goto 4, 3), (457, .iconst 0, 1), (458, .aload_n 0, 1), (459, .iload_n 3, 1), (460, .iconst 2, 1), (461, .iadd, 1), (462, .iaload, 1), (463, .invokevirtual 52, 3), (466, .pop, 1), (467, .aload_n 2, 1), (468, .aload_n 0, 1), (469, .iload_n 3, 1), (470, .iconst 1, 1), (471, .iadd, 1), (472, .iaload, 1), (473, .ifCond .eq 7, 3), (476, .iconst 1, 1), (477, .goto 4, 3), (480, .iconst 0, 1), (481, .aload_n 0, 1), (482, .iload_n 3, 1), (483, .iconst 2, 1), (484, .iadd, 1), (485, .iaload, 1), (486, .invokevirtual 56, 3), (489, .pop, 1), (490, .goto 755, 3), (493, .aload_n 1, 1), (494, .aload_n 0, 1), (495, .iload_n 3, 1), (496, .iconst 1, 1), (497, .iadd, 1), (498, .iaload, 1), (499, .aload_n 0, 1), (500, .iload_n 3, 1), (501, .iconst 2, 1), (502, .iadd, 1), (503, .iaload, 1), (504, .aload_n 0, 1), (505, .iload_n 3, 1), (506, .iconst 3, 1), (507, .iadd, 1), (508, .iaload, 1), (509, .aload_n 0, 1), (510, .iload_n 3, 1), (511, .iconst 4, 1), (512, .iadd, 1), (513, .iaload, 1), (514, .aload_n 0, 1), (515, .iload_n 3, 1), (516, .iconst 5, 1), (517, .iadd, 1), (518, .iaload, 1), (519, .invokevirtual 57, 3), (522, .pop, 1), (523, .aload_n 2, 1), (524, .aload_n 0, 1), (525, .iload_n 3, 1), (526, .iconst 1, 1), (527, .iadd, 1)]
set_option maxRecDepth 100000 in
theorem dL_law_346_g : dL_law_346_l.all (fun x => decide (decode cL_law x.1 = .ok x.2)) = true := by decide +kernel
theorem dL_law_346 : decode cL_law 346 = .ok (.aload_n 0, 1) := nq_d dL_law_346_g (n := 0) rfl
theorem dL_law_347 : decode cL_law 347 = .ok (.iload_n 3, 1) := nq_d dL_law_346_g (n := 1) rfl
theorem dL_law_348 : decode cL_law 348 = .ok (.iconst 1, 1) := nq_d dL_law_346_g (n := 2) rfl
theorem dL_law_349 : decode cL_law 349 = .ok (.iadd, 1) := nq_d dL_law_346_g (n := 3) rfl
theorem dL_law_350 : decode cL_law 350 = .ok (.iaload, 1) := nq_d dL_law_346_g (n := 4) rfl
theorem dL_law_351 : decode cL_law 351 = .ok (.invokevirtual 42, 3) := nq_d dL_law_346_g (n := 5) rfl
theorem dL_law_354 : decode cL_law 354 = .ok (.pop, 1) := nq_d dL_law_346_g (n := 6) rfl
theorem dL_law_355 : decode cL_law 355 = .ok (.goto 890, 3) := nq_d dL_law_346_g (n := 7) rfl
theorem dL_law_358 : decode cL_law 358 = .ok (.aload_n 1, 1) := nq_d dL_law_346_g (n := 8) rfl
theorem dL_law_359 : decode cL_law 359 = .ok (.aload_n 0, 1) := nq_d dL_law_346_g (n := 9) rfl
theorem dL_law_360 : decode cL_law 360 = .ok (.iload_n 3, 1) := nq_d dL_law_346_g (n := 10) rfl
theorem dL_law_361 : decode cL_law 361 = .ok (.iconst 1, 1) := nq_d dL_law_346_g (n := 11) rfl
theorem dL_law_362 : decode cL_law 362 = .ok (.iadd, 1) := nq_d dL_law_346_g (n := 12) rfl
theorem dL_law_363 : decode cL_law 363 = .ok (.iaload, 1) := nq_d dL_law_346_g (n := 13) rfl
theorem dL_law_364 : decode cL_law 364 = .ok (.aload_n 0, 1) := nq_d dL_law_346_g (n := 14) rfl
theorem dL_law_365 : decode cL_law 365 = .ok (.iload_n 3, 1) := nq_d dL_law_346_g (n := 15) rfl
theorem dL_law_366 : decode cL_law 366 = .ok (.iconst 2, 1) := nq_d dL_law_346_g (n := 16) rfl
theorem dL_law_367 : decode cL_law 367 = .ok (.iadd, 1) := nq_d dL_law_346_g (n := 17) rfl
theorem dL_law_368 : decode cL_law 368 = .ok (.iaload, 1) := nq_d dL_law_346_g (n := 18) rfl
theorem dL_law_369 : decode cL_law 369 = .ok (.aload_n 0, 1) := nq_d dL_law_346_g (n := 19) rfl
theorem dL_law_370 : decode cL_law 370 = .ok (.iload_n 3, 1) := nq_d dL_law_346_g (n := 20) rfl
theorem dL_law_371 : decode cL_law 371 = .ok (.iconst 3, 1) := nq_d dL_law_346_g (n := 21) rfl
theorem dL_law_372 : decode cL_law 372 = .ok (.iadd, 1) := nq_d dL_law_346_g (n := 22) rfl
theorem dL_law_373 : decode cL_law 373 = .ok (.iaload, 1) := nq_d dL_law_346_g (n := 23) rfl
theorem dL_law_374 : decode cL_law 374 = .ok (.aload_n 0, 1) := nq_d dL_law_346_g (n := 24) rfl
theorem dL_law_375 : decode cL_law 375 = .ok (.iload_n 3, 1) := nq_d dL_law_346_g (n := 25) rfl
theorem dL_law_376 : decode cL_law 376 = .ok (.iconst 4, 1) := nq_d dL_law_346_g (n := 26) rfl
theorem dL_law_377 : decode cL_law 377 = .ok (.iadd, 1) := nq_d dL_law_346_g (n := 27) rfl
theorem dL_law_378 : decode cL_law 378 = .ok (.iaload, 1) := nq_d dL_law_346_g (n := 28) rfl
theorem dL_law_379 : decode cL_law 379 = .ok (.invokevirtual 43, 3) := nq_d dL_law_346_g (n := 29) rfl
theorem dL_law_382 : decode cL_law 382 = .ok (.pop, 1) := nq_d dL_law_346_g (n := 30) rfl
theorem dL_law_383 : decode cL_law 383 = .ok (.aload_n 2, 1) := nq_d dL_law_346_g (n := 31) rfl
theorem dL_law_384 : decode cL_law 384 = .ok (.aload_n 0, 1) := nq_d dL_law_346_g (n := 32) rfl
theorem dL_law_385 : decode cL_law 385 = .ok (.iload_n 3, 1) := nq_d dL_law_346_g (n := 33) rfl
theorem dL_law_386 : decode cL_law 386 = .ok (.iconst 1, 1) := nq_d dL_law_346_g (n := 34) rfl
theorem dL_law_387 : decode cL_law 387 = .ok (.iadd, 1) := nq_d dL_law_346_g (n := 35) rfl
theorem dL_law_388 : decode cL_law 388 = .ok (.iaload, 1) := nq_d dL_law_346_g (n := 36) rfl
theorem dL_law_389 : decode cL_law 389 = .ok (.aload_n 0, 1) := nq_d dL_law_346_g (n := 37) rfl
theorem dL_law_390 : decode cL_law 390 = .ok (.iload_n 3, 1) := nq_d dL_law_346_g (n := 38) rfl
theorem dL_law_391 : decode cL_law 391 = .ok (.iconst 2, 1) := nq_d dL_law_346_g (n := 39) rfl
theorem dL_law_392 : decode cL_law 392 = .ok (.iadd, 1) := nq_d dL_law_346_g (n := 40) rfl
theorem dL_law_393 : decode cL_law 393 = .ok (.iaload, 1) := nq_d dL_law_346_g (n := 41) rfl
theorem dL_law_394 : decode cL_law 394 = .ok (.aload_n 0, 1) := nq_d dL_law_346_g (n := 42) rfl
theorem dL_law_395 : decode cL_law 395 = .ok (.iload_n 3, 1) := nq_d dL_law_346_g (n := 43) rfl
theorem dL_law_396 : decode cL_law 396 = .ok (.iconst 3, 1) := nq_d dL_law_346_g (n := 44) rfl
theorem dL_law_397 : decode cL_law 397 = .ok (.iadd, 1) := nq_d dL_law_346_g (n := 45) rfl
theorem dL_law_398 : decode cL_law 398 = .ok (.iaload, 1) := nq_d dL_law_346_g (n := 46) rfl
theorem dL_law_399 : decode cL_law 399 = .ok (.aload_n 0, 1) := nq_d dL_law_346_g (n := 47) rfl
theorem dL_law_400 : decode cL_law 400 = .ok (.iload_n 3, 1) := nq_d dL_law_346_g (n := 48) rfl
theorem dL_law_401 : decode cL_law 401 = .ok (.iconst 4, 1) := nq_d dL_law_346_g (n := 49) rfl
theorem dL_law_402 : decode cL_law 402 = .ok (.iadd, 1) := nq_d dL_law_346_g (n := 50) rfl
theorem dL_law_403 : decode cL_law 403 = .ok (.iaload, 1) := nq_d dL_law_346_g (n := 51) rfl
theorem dL_law_404 : decode cL_law 404 = .ok (.invokevirtual 47, 3) := nq_d dL_law_346_g (n := 52) rfl
theorem dL_law_407 : decode cL_law 407 = .ok (.pop, 1) := nq_d dL_law_346_g (n := 53) rfl
theorem dL_law_408 : decode cL_law 408 = .ok (.goto 837, 3) := nq_d dL_law_346_g (n := 54) rfl
theorem dL_law_411 : decode cL_law 411 = .ok (.aload_n 1, 1) := nq_d dL_law_346_g (n := 55) rfl
theorem dL_law_412 : decode cL_law 412 = .ok (.aload_n 0, 1) := nq_d dL_law_346_g (n := 56) rfl
theorem dL_law_413 : decode cL_law 413 = .ok (.iload_n 3, 1) := nq_d dL_law_346_g (n := 57) rfl
theorem dL_law_414 : decode cL_law 414 = .ok (.iconst 1, 1) := nq_d dL_law_346_g (n := 58) rfl
theorem dL_law_415 : decode cL_law 415 = .ok (.iadd, 1) := nq_d dL_law_346_g (n := 59) rfl
theorem dL_law_416 : decode cL_law 416 = .ok (.iaload, 1) := nq_d dL_law_346_g (n := 60) rfl
theorem dL_law_417 : decode cL_law 417 = .ok (.aload_n 0, 1) := nq_d dL_law_346_g (n := 61) rfl
theorem dL_law_418 : decode cL_law 418 = .ok (.iload_n 3, 1) := nq_d dL_law_346_g (n := 62) rfl
theorem dL_law_419 : decode cL_law 419 = .ok (.iconst 2, 1) := nq_d dL_law_346_g (n := 63) rfl
theorem dL_law_420 : decode cL_law 420 = .ok (.iadd, 1) := nq_d dL_law_346_g (n := 64) rfl
theorem dL_law_421 : decode cL_law 421 = .ok (.iaload, 1) := nq_d dL_law_346_g (n := 65) rfl
theorem dL_law_422 : decode cL_law 422 = .ok (.invokevirtual 48, 3) := nq_d dL_law_346_g (n := 66) rfl
theorem dL_law_425 : decode cL_law 425 = .ok (.pop, 1) := nq_d dL_law_346_g (n := 67) rfl
theorem dL_law_426 : decode cL_law 426 = .ok (.aload_n 2, 1) := nq_d dL_law_346_g (n := 68) rfl
theorem dL_law_427 : decode cL_law 427 = .ok (.aload_n 0, 1) := nq_d dL_law_346_g (n := 69) rfl
theorem dL_law_428 : decode cL_law 428 = .ok (.iload_n 3, 1) := nq_d dL_law_346_g (n := 70) rfl
theorem dL_law_429 : decode cL_law 429 = .ok (.iconst 1, 1) := nq_d dL_law_346_g (n := 71) rfl
theorem dL_law_430 : decode cL_law 430 = .ok (.iadd, 1) := nq_d dL_law_346_g (n := 72) rfl
theorem dL_law_431 : decode cL_law 431 = .ok (.iaload, 1) := nq_d dL_law_346_g (n := 73) rfl
theorem dL_law_432 : decode cL_law 432 = .ok (.aload_n 0, 1) := nq_d dL_law_346_g (n := 74) rfl
theorem dL_law_433 : decode cL_law 433 = .ok (.iload_n 3, 1) := nq_d dL_law_346_g (n := 75) rfl
theorem dL_law_434 : decode cL_law 434 = .ok (.iconst 2, 1) := nq_d dL_law_346_g (n := 76) rfl
theorem dL_law_435 : decode cL_law 435 = .ok (.iadd, 1) := nq_d dL_law_346_g (n := 77) rfl
theorem dL_law_436 : decode cL_law 436 = .ok (.iaload, 1) := nq_d dL_law_346_g (n := 78) rfl
theorem dL_law_437 : decode cL_law 437 = .ok (.invokevirtual 51, 3) := nq_d dL_law_346_g (n := 79) rfl
theorem dL_law_440 : decode cL_law 440 = .ok (.pop, 1) := nq_d dL_law_346_g (n := 80) rfl
theorem dL_law_441 : decode cL_law 441 = .ok (.goto 804, 3) := nq_d dL_law_346_g (n := 81) rfl
theorem dL_law_444 : decode cL_law 444 = .ok (.aload_n 1, 1) := nq_d dL_law_346_g (n := 82) rfl
theorem dL_law_445 : decode cL_law 445 = .ok (.aload_n 0, 1) := nq_d dL_law_346_g (n := 83) rfl
theorem dL_law_446 : decode cL_law 446 = .ok (.iload_n 3, 1) := nq_d dL_law_346_g (n := 84) rfl
theorem dL_law_447 : decode cL_law 447 = .ok (.iconst 1, 1) := nq_d dL_law_346_g (n := 85) rfl
theorem dL_law_448 : decode cL_law 448 = .ok (.iadd, 1) := nq_d dL_law_346_g (n := 86) rfl
theorem dL_law_449 : decode cL_law 449 = .ok (.iaload, 1) := nq_d dL_law_346_g (n := 87) rfl
theorem dL_law_450 : decode cL_law 450 = .ok (.ifCond .eq 7, 3) := nq_d dL_law_346_g (n := 88) rfl
theorem dL_law_453 : decode cL_law 453 = .ok (.iconst 1, 1) := nq_d dL_law_346_g (n := 89) rfl
theorem dL_law_454 : decode cL_law 454 = .ok (.goto 4, 3) := nq_d dL_law_346_g (n := 90) rfl
theorem dL_law_457 : decode cL_law 457 = .ok (.iconst 0, 1) := nq_d dL_law_346_g (n := 91) rfl
theorem dL_law_458 : decode cL_law 458 = .ok (.aload_n 0, 1) := nq_d dL_law_346_g (n := 92) rfl
theorem dL_law_459 : decode cL_law 459 = .ok (.iload_n 3, 1) := nq_d dL_law_346_g (n := 93) rfl
theorem dL_law_460 : decode cL_law 460 = .ok (.iconst 2, 1) := nq_d dL_law_346_g (n := 94) rfl
theorem dL_law_461 : decode cL_law 461 = .ok (.iadd, 1) := nq_d dL_law_346_g (n := 95) rfl
theorem dL_law_462 : decode cL_law 462 = .ok (.iaload, 1) := nq_d dL_law_346_g (n := 96) rfl
theorem dL_law_463 : decode cL_law 463 = .ok (.invokevirtual 52, 3) := nq_d dL_law_346_g (n := 97) rfl
theorem dL_law_466 : decode cL_law 466 = .ok (.pop, 1) := nq_d dL_law_346_g (n := 98) rfl
theorem dL_law_467 : decode cL_law 467 = .ok (.aload_n 2, 1) := nq_d dL_law_346_g (n := 99) rfl
theorem dL_law_468 : decode cL_law 468 = .ok (.aload_n 0, 1) := nq_d dL_law_346_g (n := 100) rfl
theorem dL_law_469 : decode cL_law 469 = .ok (.iload_n 3, 1) := nq_d dL_law_346_g (n := 101) rfl
theorem dL_law_470 : decode cL_law 470 = .ok (.iconst 1, 1) := nq_d dL_law_346_g (n := 102) rfl
theorem dL_law_471 : decode cL_law 471 = .ok (.iadd, 1) := nq_d dL_law_346_g (n := 103) rfl
theorem dL_law_472 : decode cL_law 472 = .ok (.iaload, 1) := nq_d dL_law_346_g (n := 104) rfl
theorem dL_law_473 : decode cL_law 473 = .ok (.ifCond .eq 7, 3) := nq_d dL_law_346_g (n := 105) rfl
theorem dL_law_476 : decode cL_law 476 = .ok (.iconst 1, 1) := nq_d dL_law_346_g (n := 106) rfl
theorem dL_law_477 : decode cL_law 477 = .ok (.goto 4, 3) := nq_d dL_law_346_g (n := 107) rfl
theorem dL_law_480 : decode cL_law 480 = .ok (.iconst 0, 1) := nq_d dL_law_346_g (n := 108) rfl
theorem dL_law_481 : decode cL_law 481 = .ok (.aload_n 0, 1) := nq_d dL_law_346_g (n := 109) rfl
theorem dL_law_482 : decode cL_law 482 = .ok (.iload_n 3, 1) := nq_d dL_law_346_g (n := 110) rfl
theorem dL_law_483 : decode cL_law 483 = .ok (.iconst 2, 1) := nq_d dL_law_346_g (n := 111) rfl
theorem dL_law_484 : decode cL_law 484 = .ok (.iadd, 1) := nq_d dL_law_346_g (n := 112) rfl
theorem dL_law_485 : decode cL_law 485 = .ok (.iaload, 1) := nq_d dL_law_346_g (n := 113) rfl
theorem dL_law_486 : decode cL_law 486 = .ok (.invokevirtual 56, 3) := nq_d dL_law_346_g (n := 114) rfl
theorem dL_law_489 : decode cL_law 489 = .ok (.pop, 1) := nq_d dL_law_346_g (n := 115) rfl
theorem dL_law_490 : decode cL_law 490 = .ok (.goto 755, 3) := nq_d dL_law_346_g (n := 116) rfl
theorem dL_law_493 : decode cL_law 493 = .ok (.aload_n 1, 1) := nq_d dL_law_346_g (n := 117) rfl
theorem dL_law_494 : decode cL_law 494 = .ok (.aload_n 0, 1) := nq_d dL_law_346_g (n := 118) rfl
theorem dL_law_495 : decode cL_law 495 = .ok (.iload_n 3, 1) := nq_d dL_law_346_g (n := 119) rfl
theorem dL_law_496 : decode cL_law 496 = .ok (.iconst 1, 1) := nq_d dL_law_346_g (n := 120) rfl
theorem dL_law_497 : decode cL_law 497 = .ok (.iadd, 1) := nq_d dL_law_346_g (n := 121) rfl
theorem dL_law_498 : decode cL_law 498 = .ok (.iaload, 1) := nq_d dL_law_346_g (n := 122) rfl
theorem dL_law_499 : decode cL_law 499 = .ok (.aload_n 0, 1) := nq_d dL_law_346_g (n := 123) rfl
theorem dL_law_500 : decode cL_law 500 = .ok (.iload_n 3, 1) := nq_d dL_law_346_g (n := 124) rfl
theorem dL_law_501 : decode cL_law 501 = .ok (.iconst 2, 1) := nq_d dL_law_346_g (n := 125) rfl
theorem dL_law_502 : decode cL_law 502 = .ok (.iadd, 1) := nq_d dL_law_346_g (n := 126) rfl
theorem dL_law_503 : decode cL_law 503 = .ok (.iaload, 1) := nq_d dL_law_346_g (n := 127) rfl
theorem dL_law_504 : decode cL_law 504 = .ok (.aload_n 0, 1) := nq_d dL_law_346_g (n := 128) rfl
theorem dL_law_505 : decode cL_law 505 = .ok (.iload_n 3, 1) := nq_d dL_law_346_g (n := 129) rfl
theorem dL_law_506 : decode cL_law 506 = .ok (.iconst 3, 1) := nq_d dL_law_346_g (n := 130) rfl
theorem dL_law_507 : decode cL_law 507 = .ok (.iadd, 1) := nq_d dL_law_346_g (n := 131) rfl
theorem dL_law_508 : decode cL_law 508 = .ok (.iaload, 1) := nq_d dL_law_346_g (n := 132) rfl
theorem dL_law_509 : decode cL_law 509 = .ok (.aload_n 0, 1) := nq_d dL_law_346_g (n := 133) rfl
theorem dL_law_510 : decode cL_law 510 = .ok (.iload_n 3, 1) := nq_d dL_law_346_g (n := 134) rfl
theorem dL_law_511 : decode cL_law 511 = .ok (.iconst 4, 1) := nq_d dL_law_346_g (n := 135) rfl
theorem dL_law_512 : decode cL_law 512 = .ok (.iadd, 1) := nq_d dL_law_346_g (n := 136) rfl
theorem dL_law_513 : decode cL_law 513 = .ok (.iaload, 1) := nq_d dL_law_346_g (n := 137) rfl
theorem dL_law_514 : decode cL_law 514 = .ok (.aload_n 0, 1) := nq_d dL_law_346_g (n := 138) rfl
theorem dL_law_515 : decode cL_law 515 = .ok (.iload_n 3, 1) := nq_d dL_law_346_g (n := 139) rfl
theorem dL_law_516 : decode cL_law 516 = .ok (.iconst 5, 1) := nq_d dL_law_346_g (n := 140) rfl
theorem dL_law_517 : decode cL_law 517 = .ok (.iadd, 1) := nq_d dL_law_346_g (n := 141) rfl
theorem dL_law_518 : decode cL_law 518 = .ok (.iaload, 1) := nq_d dL_law_346_g (n := 142) rfl
theorem dL_law_519 : decode cL_law 519 = .ok (.invokevirtual 57, 3) := nq_d dL_law_346_g (n := 143) rfl
theorem dL_law_522 : decode cL_law 522 = .ok (.pop, 1) := nq_d dL_law_346_g (n := 144) rfl
theorem dL_law_523 : decode cL_law 523 = .ok (.aload_n 2, 1) := nq_d dL_law_346_g (n := 145) rfl
theorem dL_law_524 : decode cL_law 524 = .ok (.aload_n 0, 1) := nq_d dL_law_346_g (n := 146) rfl
theorem dL_law_525 : decode cL_law 525 = .ok (.iload_n 3, 1) := nq_d dL_law_346_g (n := 147) rfl
theorem dL_law_526 : decode cL_law 526 = .ok (.iconst 1, 1) := nq_d dL_law_346_g (n := 148) rfl
theorem dL_law_527 : decode cL_law 527 = .ok (.iadd, 1) := nq_d dL_law_346_g (n := 149) rfl
