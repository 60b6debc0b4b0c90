theorem dX11_wrong_142 : decode cX11_wrong 142 = .ok (.imul, 1) := by decide +kernel
theorem dX11_wrong_143 : decode cX11_wrong 143 = .ok (.iconst 2, 1) := by decide +kernel
theorem dX11_wrong_144 : decode cX11_wrong 144 = .ok (.iadd, 1) := by decide +kernel
theorem dX11_wrong_145 : decode cX11_wrong 145 = .ok (.iaload, 1) := by decide +kernel
theorem dX11_wrong_146 : decode cX11_wrong 146 = .ok (.iaload, 1) := by decide +kernel
theorem dX11_wrong_147 : decode cX11_wrong 147 = .ok (.istore 5, 2) := by decide +kernel
theorem dX11_wrong_149 : decode cX11_wrong 149 = .ok (.aload_n 0, 1) := by decide +kernel
theorem dX11_wrong_150 : decode cX11_wrong 150 = .ok (.getfield 84, 3) := by decide +kernel
theorem dX11_wrong_153 : decode cX11_wrong 153 = .ok (.bipush 7, 2) := by decide +kernel
theorem dX11_wrong_155 : decode cX11_wrong 155 = .ok (.iload_n 3, 1) := by decide +kernel
theorem dX11_wrong_156 : decode cX11_wrong 156 = .ok (.imul, 1) := by decide +kernel
theorem dX11_wrong_157 : decode cX11_wrong 157 = .ok (.bipush 6, 2) := by decide +kernel
theorem dX11_wrong_159 : decode cX11_wrong 159 = .ok (.iadd, 1) := by decide +kernel
theorem dX11_wrong_160 : decode cX11_wrong 160 = .ok (.iaload, 1) := by decide +kernel
theorem dX11_wrong_161 : decode cX11_wrong 161 = .ok (.iconst 1, 1) := by decide +kernel
theorem dX11_wrong_162 : decode cX11_wrong 162 = .ok (.if_icmp .ne 7, 3) := by decide +kernel
theorem dX11_wrong_165 : decode cX11_wrong 165 = .ok (.iload_n 3, 1) := by decide +kernel
theorem dX11_wrong_166 : decode cX11_wrong 166 = .ok (.goto 31, 3) := by decide +kernel
theorem dX11_wrong_169 : decode cX11_wrong 169 = .ok (.iload 5, 2) := by decide +kernel
theorem dX11_wrong_171 : decode cX11_wrong 171 = .ok (.ifCond .lt 25, 3) := by decide +kernel
theorem dX11_wrong_174 : decode cX11_wrong 174 = .ok (.aload_n 0, 1) := by decide +kernel
theorem dX11_wrong_175 : decode cX11_wrong 175 = .ok (.getfield 84, 3) := by decide +kernel
theorem dX11_wrong_178 : decode cX11_wrong 178 = .ok (.bipush 7, 2) := by decide +kernel
theorem dX11_wrong_180 : decode cX11_wrong 180 = .ok (.iload 5, 2) := by decide +kernel
theorem dX11_wrong_182 : decode cX11_wrong 182 = .ok (.imul, 1) := by decide +kernel
theorem dX11_wrong_183 : decode cX11_wrong 183 = .ok (.bipush 6, 2) := by decide +kernel
theorem dX11_wrong_185 : decode cX11_wrong 185 = .ok (.iadd, 1) := by decide +kernel
theorem dX11_wrong_186 : decode cX11_wrong 186 = .ok (.iaload, 1) := by decide +kernel
theorem dX11_wrong_187 : decode cX11_wrong 187 = .ok (.iconst 1, 1) := by decide +kernel
theorem dX11_wrong_188 : decode cX11_wrong 188 = .ok (.if_icmp .ne 8, 3) := by decide +kernel
theorem dX11_wrong_191 : decode cX11_wrong 191 = .ok (.iload 5, 2) := by decide +kernel
theorem dX11_wrong_193 : decode cX11_wrong 193 = .ok (.goto 4, 3) := by decide +kernel
theorem dX11_wrong_196 : decode cX11_wrong 196 = .ok (.iconst (-1), 1) := by decide +kernel
theorem dX11_wrong_197 : decode cX11_wrong 197 = .ok (.istore 4, 2) := by decide +kernel
theorem dX11_wrong_199 : decode cX11_wrong 199 = .ok (.iload 4, 2) := by decide +kernel
theorem dX11_wrong_201 : decode cX11_wrong 201 = .ok (.ifCond .ge 7, 3) := by decide +kernel
theorem dX11_wrong_204 : decode cX11_wrong 204 = .ok (.iconst (-1), 1) := by decide +kernel
theorem dX11_wrong_205 : decode cX11_wrong 205 = .ok (.goto 24, 3) := by decide +kernel
theorem dX11_wrong_208 : decode cX11_wrong 208 = .ok (.iload_n 2, 1) := by decide +kernel
theorem dX11_wrong_209 : decode cX11_wrong 209 = .ok (.ifCond .ne 18, 3) := by decide +kernel
theorem dX11_wrong_212 : decode cX11_wrong 212 = .ok (.aload_n 0, 1) := by decide +kernel
theorem dX11_wrong_213 : decode cX11_wrong 213 = .ok (.getfield 84, 3) := by decide +kernel
theorem dX11_wrong_216 : decode cX11_wrong 216 = .ok (.bipush 7, 2) := by decide +kernel
theorem dX11_wrong_218 : decode cX11_wrong 218 = .ok (.iload 4, 2) := by decide +kernel
theorem dX11_wrong_220 : decode cX11_wrong 220 = .ok (.imul, 1) := by decide +kernel
theorem dX11_wrong_221 : decode cX11_wrong 221 = .ok (.iconst 1, 1) := by decide +kernel
theorem dX11_wrong_222 : decode cX11_wrong 222 = .ok (.iadd, 1) := by decide +kernel
theorem dX11_wrong_223 : decode cX11_wrong 223 = .ok (.iaload, 1) := by decide +kernel
theorem dX11_wrong_224 : decode cX11_wrong 224 = .ok (.goto 5, 3) := by decide +kernel
theorem dX11_wrong_227 : decode cX11_wrong 227 = .ok (.iload 4, 2) := by decide +kernel
theorem dX11_wrong_229 : decode cX11_wrong 229 = .ok (.ireturn, 1) := by decide +kernel
set_option maxRecDepth 20000 in
theorem ggX11_runRow_X11_pegOf : GoodIn wsX11_runRow wsX11_pegOf := goodIn_r _ [14, 15, 16, 17, 18, 19, 20, 21, 22, 23, 24, 25, 26, 27, 28, 29, 30, 31, 32, 33, 34, 35, 36, 37, 38, 39, 40, 41, 42, 43, 44, 45, 46, 47, 48, 49, 50, 51, 52, 53, 54, 55, 56, 57, 58, 59, 60, 61, 62, 63, 64, 65, 66, 67, 68, 69, 70, 71, 72, 73, 74] (by decide +kernel) (by decide +kernel)
set_option maxRecDepth 20000 in
theorem gX11_runRow_X11_pegOf : GoodIn wsX11_runRow (wsV RX11 258 RX11 yX11_pegOf wsX11_pegOf) := goodIn_app (goodIn_of _ (by decide +kernel)) ggX11_runRow_X11_pegOf
theorem dX11_runRow_0 : decode cX11_runRow 0 = .ok (.aload_n 0, 1) := by decide +kernel
theorem dX11_runRow_1 : decode cX11_runRow 1 = .ok (.iconst 0, 1) := by decide +kernel
theorem dX11_runRow_2 : decode cX11_runRow 2 = .ok (.putfield 315, 3) := by decide +kernel
theorem dX11_runRow_5 : decode cX11_runRow 5 = .ok (.aload_n 0, 1) := by decide +kernel
theorem dX11_runRow_6 : decode cX11_runRow 6 = .ok (.iconst 0, 1) := by decide +kernel
theorem dX11_runRow_7 : decode cX11_runRow 7 = .ok (.putfield 318, 3) := by decide +kernel
theorem dX11_runRow_10 : decode cX11_runRow 10 = .ok (.aload_n 0, 1) := by decide +kernel
theorem dX11_runRow_11 : decode cX11_runRow 11 = .ok (.iconst 0, 1) := by decide +kernel
theorem dX11_runRow_12 : decode cX11_runRow 12 = .ok (.putfield 321, 3) := by decide +kernel
theorem dX11_runRow_15 : decode cX11_runRow 15 = .ok (.iconst 0, 1) := by decide +kernel
theorem dX11_runRow_16 : decode cX11_runRow 16 = .ok (.istore_n 2, 1) := by decide +kernel
theorem dX11_runRow_17 : decode cX11_runRow 17 = .ok (.iload_n 2, 1) := by decide +kernel
theorem dX11_runRow_18 : decode cX11_runRow 18 = .ok (.iconst 4, 1) := by decide +kernel
theorem dX11_runRow_19 : decode cX11_runRow 19 = .ok (.if_icmp .ge 16, 3) := by decide +kernel
theorem dX11_runRow_22 : decode cX11_runRow 22 = .ok (.aload_n 0, 1) := by decide +kernel
theorem dX11_runRow_23 : decode cX11_runRow 23 = .ok (.getfield 93, 3) := by decide +kernel
theorem dX11_runRow_26 : decode cX11_runRow 26 = .ok (.iload_n 2, 1) := by decide +kernel
theorem dX11_runRow_27 : decode cX11_runRow 27 = .ok (.iconst 0, 1) := by decide +kernel
theorem dX11_runRow_28 : decode cX11_runRow 28 = .ok (.iastore, 1) := by decide +kernel
theorem dX11_runRow_29 : decode cX11_runRow 29 = .ok (.iinc 2 1, 3) := by decide +kernel
theorem dX11_runRow_32 : decode cX11_runRow 32 = .ok (.goto (-15), 3) := by decide +kernel
theorem dX11_runRow_35 : decode cX11_runRow 35 = .ok (.iconst 0, 1) := by decide +kernel
theorem dX11_runRow_36 : decode cX11_runRow 36 = .ok (.istore_n 2, 1) := by decide +kernel
theorem dX11_runRow_37 : decode cX11_runRow 37 = .ok (.iload_n 2, 1) := by decide +kernel
theorem dX11_runRow_38 : decode cX11_runRow 38 = .ok (.aload_n 0, 1) := by decide +kernel
theorem dX11_runRow_39 : decode cX11_runRow 39 = .ok (.getfield 324, 3) := by decide +kernel
theorem dX11_runRow_42 : decode cX11_runRow 42 = .ok (.if_icmp .ge 172, 3) := by decide +kernel
theorem dX11_runRow_45 : decode cX11_runRow 45 = .ok (.aload_n 0, 1) := by decide +kernel
theorem dX11_runRow_46 : decode cX11_runRow 46 = .ok (.getfield 90, 3) := by decide +kernel
theorem dX11_runRow_49 : decode cX11_runRow 49 = .ok (.iload_n 2, 1) := by decide +kernel
theorem dX11_runRow_50 : decode cX11_runRow 50 = .ok (.iaload, 1) := by decide +kernel
theorem dX11_runRow_51 : decode cX11_runRow 51 = .ok (.istore_n 3, 1) := by decide +kernel
theorem dX11_runRow_52 : decode cX11_runRow 52 = .ok (.iconst 0, 1) := by decide +kernel
theorem dX11_runRow_53 : decode cX11_runRow 53 = .ok (.istore 4, 2) := by decide +kernel
theorem dX11_runRow_55 : decode cX11_runRow 55 = .ok (.iconst 1, 1) := by decide +kernel
theorem dX11_runRow_56 : decode cX11_runRow 56 = .ok (.istore 5, 2) := by decide +kernel
theorem dX11_runRow_58 : decode cX11_runRow 58 = .ok (.iload 5, 2) := by decide +kernel
theorem dX11_runRow_60 : decode cX11_runRow 60 = .ok (.iload_n 1, 1) := by decide +kernel
theorem dX11_runRow_61 : decode cX11_runRow 61 = .ok (.if_icmp .ge 35, 3) := by decide +kernel
theorem dX11_runRow_64 : decode cX11_runRow 64 = .ok (.aload_n 0, 1) := by decide +kernel
theorem dX11_runRow_65 : decode cX11_runRow 65 = .ok (.getfield 93, 3) := by decide +kernel
theorem dX11_runRow_68 : decode cX11_runRow 68 = .ok (.iload 5, 2) := by decide +kernel
theorem dX11_runRow_70 : decode cX11_runRow 70 = .ok (.iaload, 1) := by decide +kernel
theorem dX11_runRow_71 : decode cX11_runRow 71 = .ok (.aload_n 0, 1) := by decide +kernel
theorem dX11_runRow_72 : decode cX11_runRow 72 = .ok (.getfield 93, 3) := by decide +kernel
theorem dX11_runRow_75 : decode cX11_runRow 75 = .ok (.iload 4, 2) := by decide +kernel
theorem dX11_runRow_77 : decode cX11_runRow 77 = .ok (.iaload, 1) := by decide +kernel
theorem dX11_runRow_78 : decode cX11_runRow 78 = .ok (.if_icmp .ge 8, 3) := by decide +kernel
theorem dX11_runRow_81 : decode cX11_runRow 81 = .ok (.iload 5, 2) := by decide +kernel
theorem dX11_runRow_83 : decode cX11_runRow 83 = .ok (.goto 5, 3) := by decide +kernel
theorem dX11_runRow_86 : decode cX11_runRow 86 = .ok (.iload 4, 2) := by decide +kernel
theorem dX11_runRow_88 : decode cX11_runRow 88 = .ok (.istore 4, 2) := by decide +kernel
theorem dX11_runRow_90 : decode cX11_runRow 90 = .ok (.iinc 5 1, 3) := by decide +kernel
theorem dX11_runRow_93 : decode cX11_runRow 93 = .ok (.goto (-35), 3) := by decide +kernel
theorem dX11_runRow_96 : decode cX11_runRow 96 = .ok (.aload_n 0, 1) := by decide +kernel
theorem dX11_runRow_97 : decode cX11_runRow 97 = .ok (.getfield 93, 3) := by decide +kernel
theorem dX11_runRow_100 : decode cX11_runRow 100 = .ok (.iload 4, 2) := by decide +kernel
theorem dX11_runRow_102 : decode cX11_runRow 102 = .ok (.dup2, 1) := by decide +kernel
theorem dX11_runRow_103 : decode cX11_runRow 103 = .ok (.iaload, 1) := by decide +kernel
theorem dX11_runRow_104 : decode cX11_runRow 104 = .ok (.iconst 2, 1) := by decide +kernel
theorem dX11_runRow_105 : decode cX11_runRow 105 = .ok (.aload_n 0, 1) := by decide +kernel
theorem dX11_runRow_106 : decode cX11_runRow 106 = .ok (.getfield 13, 3) := by decide +kernel
theorem dX11_runRow_109 : decode cX11_runRow 109 = .ok (.aload_n 0, 1) := by decide +kernel
theorem dX11_runRow_110 : decode cX11_runRow 110 = .ok (.iload_n 3, 1) := by decide +kernel
theorem dX11_runRow_111 : decode cX11_runRow 111 = .ok (.invokevirtual 258, 3) := by decide +kernel
theorem dX11_runRow_114 : decode cX11_runRow 114 = .ok (.iaload, 1) := by decide +kernel
theorem dX11_runRow_115 : decode cX11_runRow 115 = .ok (.imul, 1) := by decide +kernel
theorem dX11_runRow_116 : decode cX11_runRow 116 = .ok (.aload_n 0, 1) := by decide +kernel
theorem dX11_runRow_117 : decode cX11_runRow 117 = .ok (.getfield 19, 3) := by decide +kernel
theorem dX11_runRow_120 : decode cX11_runRow 120 = .ok (.iconst 3, 1) := by decide +kernel
theorem dX11_runRow_121 : decode cX11_runRow 121 = .ok (.iaload, 1) := by decide +kernel
theorem dX11_runRow_122 : decode cX11_runRow 122 = .ok (.iadd, 1) := by decide +kernel
theorem dX11_runRow_123 : decode cX11_runRow 123 = .ok (.iadd, 1) := by decide +kernel
theorem dX11_runRow_124 : decode cX11_runRow 124 = .ok (.iastore, 1) := by decide +kernel
theorem dX11_runRow_125 : decode cX11_runRow 125 = .ok (.aload_n 0, 1) := by decide +kernel
theorem dX11_runRow_126 : decode cX11_runRow 126 = .ok (.getfield 93, 3) := by decide +kernel
theorem dX11_runRow_129 : decode cX11_runRow 129 = .ok (.iload 4, 2) := by decide +kernel
theorem dX11_runRow_131 : decode cX11_runRow 131 = .ok (.iaload, 1) := by decide +kernel
theorem dX11_runRow_132 : decode cX11_runRow 132 = .ok (.istore 5, 2) := by decide +kernel
theorem dX11_runRow_134 : decode cX11_runRow 134 = .ok (.aload_n 0, 1) := by decide +kernel
theorem dX11_runRow_135 : decode cX11_runRow 135 = .ok (.getfield 50, 3) := by decide +kernel
theorem dX11_runRow_138 : decode cX11_runRow 138 = .ok (.iload_n 3, 1) := by decide +kernel
theorem dX11_runRow_139 : decode cX11_runRow 139 = .ok (.iaload, 1) := by decide +kernel
theorem dX11_runRow_140 : decode cX11_runRow 140 = .ok (.aload_n 0, 1) := by decide +kernel
theorem dX11_runRow_141 : decode cX11_runRow 141 = .ok (.getfield 19, 3) := by decide +kernel
theorem dX11_runRow_144 : decode cX11_runRow 144 = .ok (.iconst 4, 1) := by decide +kernel
theorem dX11_runRow_145 : decode cX11_runRow 145 = .ok (.iaload, 1) := by decide +kernel
theorem dX11_runRow_146 : decode cX11_runRow 146 = .ok (.iload 5, 2) := by decide +kernel
theorem dX11_runRow_148 : decode cX11_runRow 148 = .ok (.imul, 1) := by decide +kernel
theorem dX11_runRow_149 : decode cX11_runRow 149 = .ok (.bipush 10, 2) := by decide +kernel
theorem dX11_runRow_151 : decode cX11_runRow 151 = .ok (.idiv, 1) := by decide +kernel
theorem dX11_runRow_152 : decode cX11_runRow 152 = .ok (.isub, 1) := by decide +kernel
theorem dX11_runRow_153 : decode cX11_runRow 153 = .ok (.istore 6, 2) := by decide +kernel
theorem dX11_runRow_155 : decode cX11_runRow 155 = .ok (.aload_n 0, 1) := by decide +kernel
theorem dX11_runRow_156 : decode cX11_runRow 156 = .ok (.dup, 1) := by decide +kernel
theorem dX11_runRow_157 : decode cX11_runRow 157 = .ok (.getfield 315, 3) := by decide +kernel
theorem dX11_runRow_160 : decode cX11_runRow 160 = .ok (.iload 5, 2) := by decide +kernel
theorem dX11_runRow_162 : decode cX11_runRow 162 = .ok (.iadd, 1) := by decide +kernel
theorem dX11_runRow_163 : decode cX11_runRow 163 = .ok (.putfield 315, 3) := by decide +kernel
theorem dX11_runRow_166 : decode cX11_runRow 166 = .ok (.aload_n 0, 1) := by decide +kernel
theorem dX11_runRow_167 : decode cX11_runRow 167 = .ok (.iload 5, 2) := by decide +kernel
theorem dX11_runRow_169 : decode cX11_runRow 169 = .ok (.aload_n 0, 1) := by decide +kernel
theorem dX11_runRow_170 : decode cX11_runRow 170 = .ok (.getfield 318, 3) := by decide +kernel
theorem dX11_runRow_173 : decode cX11_runRow 173 = .ok (.if_icmp .le 8, 3) := by decide +kernel
theorem dX11_runRow_176 : decode cX11_runRow 176 = .ok (.iload 5, 2) := by decide +kernel
theorem dX11_runRow_178 : decode cX11_runRow 178 = .ok (.goto 7, 3) := by decide +kernel
theorem dX11_runRow_181 : decode cX11_runRow 181 = .ok (.aload_n 0, 1) := by decide +kernel
theorem dX11_runRow_182 : decode cX11_runRow 182 = .ok (.getfield 318, 3) := by decide +kernel
theorem dX11_runRow_185 : decode cX11_runRow 185 = .ok (.putfield 318, 3) := by decide +kernel
theorem dX11_runRow_188 : decode cX11_runRow 188 = .ok (.aload_n 0, 1) := by decide +kernel
theorem dX11_runRow_189 : decode cX11_runRow 189 = .ok (.dup, 1) := by decide +kernel
theorem dX11_runRow_190 : decode cX11_runRow 190 = .ok (.getfield 321, 3) := by decide +kernel
theorem dX11_runRow_193 : decode cX11_runRow 193 = .ok (.iload 6, 2) := by decide +kernel
theorem dX11_runRow_195 : decode cX11_runRow 195 = .ok (.ifCond .le 8, 3) := by decide +kernel
theorem dX11_runRow_198 : decode cX11_runRow 198 = .ok (.iload 6, 2) := by decide +kernel
theorem dX11_runRow_200 : decode cX11_runRow 200 = .ok (.goto 4, 3) := by decide +kernel
theorem dX11_runRow_203 : decode cX11_runRow 203 = .ok (.iconst 0, 1) := by decide +kernel
theorem dX11_runRow_204 : decode cX11_runRow 204 = .ok (.iadd, 1) := by decide +kernel
theorem dX11_runRow_205 : decode cX11_runRow 205 = .ok (.putfield 321, 3) := by decide +kernel
theorem dX11_runRow_208 : decode cX11_runRow 208 = .ok (.iinc 2 1, 3) := by decide +kernel
theorem dX11_runRow_211 : decode cX11_runRow 211 = .ok (.goto (-174), 3) := by decide +kernel
theorem dX11_runRow_214 : decode cX11_runRow 214 = .ok (.return_, 1) := by decide +kernel
theorem dX11_fillRow_0 : decode cX11_fillRow 0 = .ok (.aload_n 0, 1) := by decide +kernel
theorem dX11_fillRow_1 : decode cX11_fillRow 1 = .ok (.iconst 0, 1) := by decide +kernel
theorem dX11_fillRow_2 : decode cX11_fillRow 2 = .ok (.putfield 324, 3) := by decide +kernel
theorem dX11_fillRow_5 : decode cX11_fillRow 5 = .ok (.iconst 0, 1) := by decide +kernel
theorem dX11_fillRow_6 : decode cX11_fillRow 6 = .ok (.istore_n 2, 1) := by decide +kernel
theorem dX11_fillRow_7 : decode cX11_fillRow 7 = .ok (.iload_n 2, 1) := by decide +kernel
theorem dX11_fillRow_8 : decode cX11_fillRow 8 = .ok (.aload_n 0, 1) := by decide +kernel
theorem dX11_fillRow_9 : decode cX11_fillRow 9 = .ok (.getfield 227, 3) := by decide +kernel
theorem dX11_fillRow_12 : decode cX11_fillRow 12 = .ok (.if_icmp .ge 38, 3) := by decide +kernel
theorem dX11_fillRow_15 : decode cX11_fillRow 15 = .ok (.iload_n 1, 1) := by decide +kernel
theorem dX11_fillRow_16 : decode cX11_fillRow 16 = .ok (.iload_n 2, 1) := by decide +kernel
theorem dX11_fillRow_17 : decode cX11_fillRow 17 = .ok (.ishr, 1) := by decide +kernel
theorem dX11_fillRow_18 : decode cX11_fillRow 18 = .ok (.iconst 1, 1) := by decide +kernel
theorem dX11_fillRow_19 : decode cX11_fillRow 19 = .ok (.iand, 1) := by decide +kernel
theorem dX11_fillRow_20 : decode cX11_fillRow 20 = .ok (.iconst 1, 1) := by decide +kernel
theorem dX11_fillRow_21 : decode cX11_fillRow 21 = .ok (.if_icmp .ne 23, 3) := by decide +kernel
theorem dX11_fillRow_24 : decode cX11_fillRow 24 = .ok (.aload_n 0, 1) := by decide +kernel
theorem dX11_fillRow_25 : decode cX11_fillRow 25 = .ok (.getfield 90, 3) := by decide +kernel
theorem dX11_fillRow_28 : decode cX11_fillRow 28 = .ok (.aload_n 0, 1) := by decide +kernel
theorem dX11_fillRow_29 : decode cX11_fillRow 29 = .ok (.getfield 324, 3) := by decide +kernel
theorem dX11_fillRow_32 : decode cX11_fillRow 32 = .ok (.iload_n 2, 1) := by decide +kernel
theorem dX11_fillRow_33 : decode cX11_fillRow 33 = .ok (.iastore, 1) := by decide +kernel
theorem dX11_fillRow_34 : decode cX11_fillRow 34 = .ok (.aload_n 0, 1) := by decide +kernel
theorem dX11_fillRow_35 : decode cX11_fillRow 35 = .ok (.dup, 1) := by decide +kernel
theorem dX11_fillRow_36 : decode cX11_fillRow 36 = .ok (.getfield 324, 3) := by decide +kernel
theorem dX11_fillRow_39 : decode cX11_fillRow 39 = .ok (.iconst 1, 1) := by decide +kernel
theorem dX11_fillRow_40 : decode cX11_fillRow 40 = .ok (.iadd, 1) := by decide +kernel
theorem dX11_fillRow_41 : decode cX11_fillRow 41 = .ok (.putfield 324, 3) := by decide +kernel
theorem dX11_fillRow_44 : decode cX11_fillRow 44 = .ok (.iinc 2 1, 3) := by decide +kernel
theorem dX11_fillRow_47 : decode cX11_fillRow 47 = .ok (.goto (-40), 3) := by decide +kernel
theorem dX11_fillRow_50 : decode cX11_fillRow 50 = .ok (.return_, 1) := by decide +kernel
set_option maxRecDepth 20000 in
theorem ggX11_areHanging_X11_areGuests : GoodIn wsX11_areHanging wsX11_areGuests := goodIn_r _ [6, 1, 7, 8, 5, 9, 16, 17, 18, 19, 20, 21, 22, 23, 24, 25, 26, 27, 28, 29, 30, 31, 32, 33, 34, 35, 36, 37, 38, 39, 40, 41, 42, 43, 44, 45, 46, 47, 48, 49, 50, 51, 52, 53, 54, 55, 56, 57, 58, 59, 60, 61, 62, 63, 64, 65, 66, 67, 68, 69, 70, 71, 72, 73] (by decide +kernel) (by decide +kernel)
set_option maxRecDepth 20000 in
theorem gX11_areHanging_X11_areGuests : GoodIn wsX11_areHanging (wsV RX11 327 RX11 yX11_areGuests wsX11_areGuests) := goodIn_app (goodIn_of _ (by decide +kernel)) ggX11_areHanging_X11_areGuests
set_option maxRecDepth 20000 in
theorem ggX11_areHanging_X11_pegOf : GoodIn wsX11_areHanging wsX11_pegOf := goodIn_r _ [13, 14, 15, 16, 17, 18, 19, 20, 21, 22, 23, 24, 25, 26, 27, 28, 29, 30, 31, 32, 33, 34, 35, 36, 37, 38, 39, 40, 41, 42, 43, 44, 45, 46, 47, 48, 49, 50, 51, 52, 53, 54, 55, 56, 57, 58, 59, 60, 61, 62, 63, 64, 65, 66, 67, 68, 69, 70, 71, 72, 73] (by decide +kernel) (by decide +kernel)
set_option maxRecDepth 20000 in
theorem gX11_areHanging_X11_pegOf : GoodIn wsX11_areHanging (wsV RX11 258 RX11 yX11_pegOf wsX11_pegOf) := goodIn_app (goodIn_of _ (by decide +kernel)) ggX11_areHanging_X11_pegOf
theorem dX11_areHanging_0 : decode cX11_areHanging 0 = .ok (.aload_n 0, 1) := by decide +kernel
theorem dX11_areHanging_1 : decode cX11_areHanging 1 = .ok (.iload_n 1, 1) := by decide +kernel
theorem dX11_areHanging_2 : decode cX11_areHanging 2 = .ok (.invokevirtual 327, 3) := by decide +kernel
theorem dX11_areHanging_5 : decode cX11_areHanging 5 = .ok (.istore_n 2, 1) := by decide +kernel
theorem dX11_areHanging_6 : decode cX11_areHanging 6 = .ok (.iconst 0, 1) := by decide +kernel
theorem dX11_areHanging_7 : decode cX11_areHanging 7 = .ok (.istore_n 3, 1) := by decide +kernel
theorem dX11_areHanging_8 : decode cX11_areHanging 8 = .ok (.iload_n 3, 1) := by decide +kernel
theorem dX11_areHanging_9 : decode cX11_areHanging 9 = .ok (.aload_n 0, 1) := by decide +kernel
theorem dX11_areHanging_10 : decode cX11_areHanging 10 = .ok (.getfield 227, 3) := by decide +kernel
theorem dX11_areHanging_13 : decode cX11_areHanging 13 = .ok (.if_icmp .ge 35, 3) := by decide +kernel
theorem dX11_areHanging_16 : decode cX11_areHanging 16 = .ok (.iload_n 2, 1) := by decide +kernel
theorem dX11_areHanging_17 : decode cX11_areHanging 17 = .ok (.ifCond .eq 31, 3) := by decide +kernel
theorem dX11_areHanging_20 : decode cX11_areHanging 20 = .ok (.iload_n 1, 1) := by decide +kernel
theorem dX11_areHanging_21 : decode cX11_areHanging 21 = .ok (.iload_n 3, 1) := by decide +kernel
theorem dX11_areHanging_22 : decode cX11_areHanging 22 = .ok (.ishr, 1) := by decide +kernel
theorem dX11_areHanging_23 : decode cX11_areHanging 23 = .ok (.iconst 1, 1) := by decide +kernel
theorem dX11_areHanging_24 : decode cX11_areHanging 24 = .ok (.iand, 1) := by decide +kernel
theorem dX11_areHanging_25 : decode cX11_areHanging 25 = .ok (.ifCond .eq 11, 3) := by decide +kernel
theorem dX11_areHanging_28 : decode cX11_areHanging 28 = .ok (.aload_n 0, 1) := by decide +kernel
theorem dX11_areHanging_29 : decode cX11_areHanging 29 = .ok (.iload_n 3, 1) := by decide +kernel
theorem dX11_areHanging_30 : decode cX11_areHanging 30 = .ok (.invokevirtual 258, 3) := by decide +kernel
theorem dX11_areHanging_33 : decode cX11_areHanging 33 = .ok (.ifCond .lt 7, 3) := by decide +kernel
theorem dX11_areHanging_36 : decode cX11_areHanging 36 = .ok (.iconst 1, 1) := by decide +kernel
theorem dX11_areHanging_37 : decode cX11_areHanging 37 = .ok (.goto 4, 3) := by decide +kernel
theorem dX11_areHanging_40 : decode cX11_areHanging 40 = .ok (.iconst 0, 1) := by decide +kernel
theorem dX11_areHanging_41 : decode cX11_areHanging 41 = .ok (.istore_n 2, 1) := by decide +kernel
theorem dX11_areHanging_42 : decode cX11_areHanging 42 = .ok (.iinc 3 1, 3) := by decide +kernel
theorem dX11_areHanging_45 : decode cX11_areHanging 45 = .ok (.goto (-37), 3) := by decide +kernel
theorem dX11_areHanging_48 : decode cX11_areHanging 48 = .ok (.iload_n 2, 1) := by decide +kernel
theorem dX11_areHanging_49 : decode cX11_areHanging 49 = .ok (.ireturn, 1) := by decide +kernel
set_option maxRecDepth 20000 in
theorem ggX11_rush_X11_areHanging : GoodIn wsX11_rush wsX11_areHanging := goodIn_r _ [10, 11, 12, 13, 14, 9, 15, 16, 17, 18, 19, 20, 21, 22, 23, 24, 39, 40, 41, 42, 43, 44, 45, 46, 47, 48, 49, 50, 51, 52, 53, 54, 55, 56, 57, 58, 59, 60, 61, 62, 63, 64, 65, 66, 67, 68, 69, 70, 71, 72, 73, 74, 75, 76, 77, 78, 79, 80, 81, 82, 83, 84, 85, 86, 87, 88, 89, 90, 91, 92, 93, 94, 95, 96] (by decide +kernel) (by decide +kernel)
set_option maxRecDepth 20000 in
theorem gX11_rush_X11_areHanging : GoodIn wsX11_rush (wsV RX11 330 RX11 yX11_areHanging wsX11_areHanging) := goodIn_app (goodIn_of _ (by decide +kernel)) ggX11_rush_X11_areHanging
set_option maxRecDepth 20000 in
theorem ggX11_rush_X11_in : GoodIn wsX11_rush wsX11_in := goodIn_r _ [18] (by decide +kernel) (by decide +kernel)
set_option maxRecDepth 20000 in
theorem gX11_rush_X11_in : GoodIn wsX11_rush (va_wsS RX11 126 yX11_in wsX11_in) := goodIn_app (goodIn_of _ (by decide +kernel)) ggX11_rush_X11_in
set_option maxRecDepth 20000 in
theorem ggX11_rush_X11_fillRow : GoodIn wsX11_rush wsX11_fillRow := goodIn_r _ [28, 29, 11, 30, 39, 40, 41, 42, 43, 44, 45, 46, 47, 48, 49, 50, 51, 52, 53, 54, 55, 56, 57, 58, 59, 60, 61, 62, 63, 64, 65, 66, 67, 68, 69, 70, 71, 72, 73, 74, 75, 76, 77, 78, 79, 80, 81, 82, 83, 84, 85, 86, 87, 88, 89, 90, 91, 92, 93, 94, 95, 96] (by decide +kernel) (by decide +kernel)
set_option maxRecDepth 20000 in
theorem gX11_rush_X11_fillRow : GoodIn wsX11_rush (wsV RX11 335 RX11 yX11_fillRow wsX11_fillRow) := goodIn_app (goodIn_of _ (by decide +kernel)) ggX11_rush_X11_fillRow
set_option maxRecDepth 20000 in
theorem ggX11_rush_X11_runRow : GoodIn wsX11_rush wsX11_runRow := goodIn_r _ [34, 3, 4, 5, 35, 29, 30, 36, 37, 38, 19, 20, 21, 9, 22, 23, 24, 39, 40, 41, 42, 43, 44, 45, 46, 47, 48, 49, 50, 51, 52, 53, 54, 55, 56, 57, 58, 59, 60, 61, 62, 63, 64, 65, 66, 67, 68, 69, 70, 71, 72, 73, 74, 75, 76, 77, 78, 79, 80, 81, 82, 83, 84, 85, 86, 87, 88, 89, 90, 91, 92, 93, 94, 95, 96] (by decide +kernel) (by decide +kernel)
set_option maxRecDepth 20000 in
theorem gX11_rush_X11_runRow : GoodIn wsX11_rush (wsV RX11 338 RX11 yX11_runRow wsX11_runRow) := goodIn_app (goodIn_of _ (by decide +kernel)) ggX11_rush_X11_runRow
theorem dX11_rush_0 : decode cX11_rush 0 = .ok (.aload_n 0, 1) := by decide +kernel
theorem dX11_rush_1 : decode cX11_rush 1 = .ok (.iload_n 1, 1) := by decide +kernel
theorem dX11_rush_2 : decode cX11_rush 2 = .ok (.invokevirtual 330, 3) := by decide +kernel
theorem dX11_rush_5 : decode cX11_rush 5 = .ok (.ifCond .ne 7, 3) := by decide +kernel
theorem dX11_rush_8 : decode cX11_rush 8 = .ok (.sipush (-1001), 3) := by decide +kernel
theorem dX11_rush_11 : decode cX11_rush 11 = .ok (.ireturn, 1) := by decide +kernel
theorem dX11_rush_12 : decode cX11_rush 12 = .ok (.iload_n 2, 1) := by decide +kernel
theorem dX11_rush_13 : decode cX11_rush 13 = .ok (.i2l, 1) := by decide +kernel
theorem dX11_rush_14 : decode cX11_rush 14 = .ok (.lconst 1, 1) := by decide +kernel
theorem dX11_rush_15 : decode cX11_rush 15 = .ok (.ldc2_w 333, 3) := by decide +kernel
theorem dX11_rush_18 : decode cX11_rush 18 = .ok (.invokestatic 126, 3) := by decide +kernel
theorem dX11_rush_21 : decode cX11_rush 21 = .ok (.ifCond .eq 15, 3) := by decide +kernel
theorem dX11_rush_24 : decode cX11_rush 24 = .ok (.iload_n 3, 1) := by decide +kernel
theorem dX11_rush_25 : decode cX11_rush 25 = .ok (.i2l, 1) := by decide +kernel
theorem dX11_rush_26 : decode cX11_rush 26 = .ok (.lconst 0, 1) := by decide +kernel
theorem dX11_rush_27 : decode cX11_rush 27 = .ok (.ldc2_w 236, 3) := by decide +kernel
theorem dX11_rush_30 : decode cX11_rush 30 = .ok (.invokestatic 126, 3) := by decide +kernel
theorem dX11_rush_33 : decode cX11_rush 33 = .ok (.ifCond .ne 7, 3) := by decide +kernel
theorem dX11_rush_36 : decode cX11_rush 36 = .ok (.sipush (-1002), 3) := by decide +kernel
theorem dX11_rush_39 : decode cX11_rush 39 = .ok (.ireturn, 1) := by decide +kernel
theorem dX11_rush_40 : decode cX11_rush 40 = .ok (.aload_n 0, 1) := by decide +kernel
theorem dX11_rush_41 : decode cX11_rush 41 = .ok (.iload_n 1, 1) := by decide +kernel
theorem dX11_rush_42 : decode cX11_rush 42 = .ok (.invokevirtual 335, 3) := by decide +kernel
theorem dX11_rush_45 : decode cX11_rush 45 = .ok (.aload_n 0, 1) := by decide +kernel
theorem dX11_rush_46 : decode cX11_rush 46 = .ok (.iload_n 2, 1) := by decide +kernel
theorem dX11_rush_47 : decode cX11_rush 47 = .ok (.invokevirtual 338, 3) := by decide +kernel
theorem dX11_rush_50 : decode cX11_rush 50 = .ok (.iload_n 3, 1) := by decide +kernel
theorem dX11_rush_51 : decode cX11_rush 51 = .ok (.ifCond .ne 10, 3) := by decide +kernel
theorem dX11_rush_54 : decode cX11_rush 54 = .ok (.aload_n 0, 1) := by decide +kernel
theorem dX11_rush_55 : decode cX11_rush 55 = .ok (.getfield 315, 3) := by decide +kernel
theorem dX11_rush_58 : decode cX11_rush 58 = .ok (.goto 19, 3) := by decide +kernel
theorem dX11_rush_61 : decode cX11_rush 61 = .ok (.iload_n 3, 1) := by decide +kernel
theorem dX11_rush_62 : decode cX11_rush 62 = .ok (.iconst 1, 1) := by decide +kernel
theorem dX11_rush_63 : decode cX11_rush 63 = .ok (.if_icmp .ne 10, 3) := by decide +kernel
theorem dX11_rush_66 : decode cX11_rush 66 = .ok (.aload_n 0, 1) := by decide +kernel
theorem dX11_rush_67 : decode cX11_rush 67 = .ok (.getfield 318, 3) := by decide +kernel
theorem dX11_rush_70 : decode cX11_rush 70 = .ok (.goto 7, 3) := by decide +kernel
theorem dX11_rush_73 : decode cX11_rush 73 = .ok (.aload_n 0, 1) := by decide +kernel
theorem dX11_rush_74 : decode cX11_rush 74 = .ok (.getfield 321, 3) := by decide +kernel
theorem dX11_rush_77 : decode cX11_rush 77 = .ok (.ireturn, 1) := by decide +kernel
theorem dX11_nextRow_0 : decode cX11_nextRow 0 = .ok (.aload_n 0, 1) := by decide +kernel
theorem dX11_nextRow_1 : decode cX11_nextRow 1 = .ok (.getfield 324, 3) := by decide +kernel
theorem dX11_nextRow_4 : decode cX11_nextRow 4 = .ok (.iconst 2, 1) := by decide +kernel
theorem dX11_nextRow_5 : decode cX11_nextRow 5 = .ok (.isub, 1) := by decide +kernel
theorem dX11_nextRow_6 : decode cX11_nextRow 6 = .ok (.istore_n 1, 1) := by decide +kernel
theorem dX11_nextRow_7 : decode cX11_nextRow 7 = .ok (.iload_n 1, 1) := by decide +kernel
theorem dX11_nextRow_8 : decode cX11_nextRow 8 = .ok (.ifCond .lt 26, 3) := by decide +kernel
theorem dX11_nextRow_11 : decode cX11_nextRow 11 = .ok (.aload_n 0, 1) := by decide +kernel
theorem dX11_nextRow_12 : decode cX11_nextRow 12 = .ok (.getfield 90, 3) := by decide +kernel
theorem dX11_nextRow_15 : decode cX11_nextRow 15 = .ok (.iload_n 1, 1) := by decide +kernel
theorem dX11_nextRow_16 : decode cX11_nextRow 16 = .ok (.iaload, 1) := by decide +kernel
theorem dX11_nextRow_17 : decode cX11_nextRow 17 = .ok (.aload_n 0, 1) := by decide +kernel
theorem dX11_nextRow_18 : decode cX11_nextRow 18 = .ok (.getfield 90, 3) := by decide +kernel
theorem dX11_nextRow_21 : decode cX11_nextRow 21 = .ok (.iload_n 1, 1) := by decide +kernel
theorem dX11_nextRow_22 : decode cX11_nextRow 22 = .ok (.iconst 1, 1) := by decide +kernel
theorem dX11_nextRow_23 : decode cX11_nextRow 23 = .ok (.iadd, 1) := by decide +kernel
theorem dX11_nextRow_24 : decode cX11_nextRow 24 = .ok (.iaload, 1) := by decide +kernel
theorem dX11_nextRow_25 : decode cX11_nextRow 25 = .ok (.if_icmp .le 9, 3) := by decide +kernel
theorem dX11_nextRow_28 : decode cX11_nextRow 28 = .ok (.iinc 1 (-1), 3) := by decide +kernel
theorem dX11_nextRow_31 : decode cX11_nextRow 31 = .ok (.goto (-24), 3) := by decide +kernel
theorem dX11_nextRow_34 : decode cX11_nextRow 34 = .ok (.iload_n 1, 1) := by decide +kernel
theorem dX11_nextRow_35 : decode cX11_nextRow 35 = .ok (.ifCond .ge 5, 3) := by decide +kernel
theorem dX11_nextRow_38 : decode cX11_nextRow 38 = .ok (.iconst 0, 1) := by decide +kernel
theorem dX11_nextRow_39 : decode cX11_nextRow 39 = .ok (.ireturn, 1) := by decide +kernel
theorem dX11_nextRow_40 : decode cX11_nextRow 40 = .ok (.aload_n 0, 1) := by decide +kernel
theorem dX11_nextRow_41 : decode cX11_nextRow 41 = .ok (.getfield 324, 3) := by decide +kernel
theorem dX11_nextRow_44 : decode cX11_nextRow 44 = .ok (.iconst 1, 1) := by decide +kernel
theorem dX11_nextRow_45 : decode cX11_nextRow 45 = .ok (.isub, 1) := by decide +kernel
theorem dX11_nextRow_46 : decode cX11_nextRow 46 = .ok (.istore_n 2, 1) := by decide +kernel
theorem dX11_nextRow_47 : decode cX11_nextRow 47 = .ok (.aload_n 0, 1) := by decide +kernel
theorem dX11_nextRow_48 : decode cX11_nextRow 48 = .ok (.getfield 90, 3) := by decide +kernel
theorem dX11_nextRow_51 : decode cX11_nextRow 51 = .ok (.iload_n 2, 1) := by decide +kernel
theorem dX11_nextRow_52 : decode cX11_nextRow 52 = .ok (.iaload, 1) := by decide +kernel
theorem dX11_nextRow_53 : decode cX11_nextRow 53 = .ok (.aload_n 0, 1) := by decide +kernel
theorem dX11_nextRow_54 : decode cX11_nextRow 54 = .ok (.getfield 90, 3) := by decide +kernel
theorem dX11_nextRow_57 : decode cX11_nextRow 57 = .ok (.iload_n 1, 1) := by decide +kernel
theorem dX11_nextRow_58 : decode cX11_nextRow 58 = .ok (.iaload, 1) := by decide +kernel
theorem dX11_nextRow_59 : decode cX11_nextRow 59 = .ok (.if_icmp .ge 9, 3) := by decide +kernel
theorem dX11_nextRow_62 : decode cX11_nextRow 62 = .ok (.iinc 2 (-1), 3) := by decide +kernel
theorem dX11_nextRow_65 : decode cX11_nextRow 65 = .ok (.goto (-18), 3) := by decide +kernel
theorem dX11_nextRow_68 : decode cX11_nextRow 68 = .ok (.aload_n 0, 1) := by decide +kernel
theorem dX11_nextRow_69 : decode cX11_nextRow 69 = .ok (.getfield 90, 3) := by decide +kernel
theorem dX11_nextRow_72 : decode cX11_nextRow 72 = .ok (.iload_n 1, 1) := by decide +kernel
theorem dX11_nextRow_73 : decode cX11_nextRow 73 = .ok (.iaload, 1) := by decide +kernel
theorem dX11_nextRow_74 : decode cX11_nextRow 74 = .ok (.istore_n 3, 1) := by decide +kernel
theorem dX11_nextRow_75 : decode cX11_nextRow 75 = .ok (.aload_n 0, 1) := by decide +kernel
theorem dX11_nextRow_76 : decode cX11_nextRow 76 = .ok (.getfield 90, 3) := by decide +kernel
theorem dX11_nextRow_79 : decode cX11_nextRow 79 = .ok (.iload_n 1, 1) := by decide +kernel
theorem dX11_nextRow_80 : decode cX11_nextRow 80 = .ok (.aload_n 0, 1) := by decide +kernel
theorem dX11_nextRow_81 : decode cX11_nextRow 81 = .ok (.getfield 90, 3) := by decide +kernel
theorem dX11_nextRow_84 : decode cX11_nextRow 84 = .ok (.iload_n 2, 1) := by decide +kernel
theorem dX11_nextRow_85 : decode cX11_nextRow 85 = .ok (.iaload, 1) := by decide +kernel
theorem dX11_nextRow_86 : decode cX11_nextRow 86 = .ok (.iastore, 1) := by decide +kernel
theorem dX11_nextRow_87 : decode cX11_nextRow 87 = .ok (.aload_n 0, 1) := by decide +kernel
theorem dX11_nextRow_88 : decode cX11_nextRow 88 = .ok (.getfield 90, 3) := by decide +kernel
theorem dX11_nextRow_91 : decode cX11_nextRow 91 = .ok (.iload_n 2, 1) := by decide +kernel
theorem dX11_nextRow_92 : decode cX11_nextRow 92 = .ok (.iload_n 3, 1) := by decide +kernel
theorem dX11_nextRow_93 : decode cX11_nextRow 93 = .ok (.iastore, 1) := by decide +kernel
theorem dX11_nextRow_94 : decode cX11_nextRow 94 = .ok (.iload_n 1, 1) := by decide +kernel
theorem dX11_nextRow_95 : decode cX11_nextRow 95 = .ok (.iconst 1, 1) := by decide +kernel
theorem dX11_nextRow_96 : decode cX11_nextRow 96 = .ok (.iadd, 1) := by decide +kernel
theorem dX11_nextRow_97 : decode cX11_nextRow 97 = .ok (.istore 4, 2) := by decide +kernel
theorem dX11_nextRow_99 : decode cX11_nextRow 99 = .ok (.aload_n 0, 1) := by decide +kernel
theorem dX11_nextRow_100 : decode cX11_nextRow 100 = .ok (.getfield 324, 3) := by decide +kernel
theorem dX11_nextRow_103 : decode cX11_nextRow 103 = .ok (.iconst 1, 1) := by decide +kernel
theorem dX11_nextRow_104 : decode cX11_nextRow 104 = .ok (.isub, 1) := by decide +kernel
theorem dX11_nextRow_105 : decode cX11_nextRow 105 = .ok (.istore 5, 2) := by decide +kernel
theorem dX11_nextRow_107 : decode cX11_nextRow 107 = .ok (.iload 4, 2) := by decide +kernel
theorem dX11_nextRow_109 : decode cX11_nextRow 109 = .ok (.iload 5, 2) := by decide +kernel
theorem dX11_nextRow_111 : decode cX11_nextRow 111 = .ok (.if_icmp .ge 44, 3) := by decide +kernel
theorem dX11_nextRow_114 : decode cX11_nextRow 114 = .ok (.aload_n 0, 1) := by decide +kernel
theorem dX11_nextRow_115 : decode cX11_nextRow 115 = .ok (.getfield 90, 3) := by decide +kernel
theorem dX11_nextRow_118 : decode cX11_nextRow 118 = .ok (.iload 4, 2) := by decide +kernel
theorem dX11_nextRow_120 : decode cX11_nextRow 120 = .ok (.iaload, 1) := by decide +kernel
theorem dX11_nextRow_121 : decode cX11_nextRow 121 = .ok (.istore 6, 2) := by decide +kernel
theorem dX11_nextRow_123 : decode cX11_nextRow 123 = .ok (.aload_n 0, 1) := by decide +kernel
theorem dX11_nextRow_124 : decode cX11_nextRow 124 = .ok (.getfield 90, 3) := by decide +kernel
theorem dX11_nextRow_127 : decode cX11_nextRow 127 = .ok (.iload 4, 2) := by decide +kernel
theorem dX11_nextRow_129 : decode cX11_nextRow 129 = .ok (.aload_n 0, 1) := by decide +kernel
theorem dX11_nextRow_130 : decode cX11_nextRow 130 = .ok (.getfield 90, 3) := by decide +kernel
theorem dX11_nextRow_133 : decode cX11_nextRow 133 = .ok (.iload 5, 2) := by decide +kernel
theorem dX11_nextRow_135 : decode cX11_nextRow 135 = .ok (.iaload, 1) := by decide +kernel
theorem dX11_nextRow_136 : decode cX11_nextRow 136 = .ok (.iastore, 1) := by decide +kernel
theorem dX11_nextRow_137 : decode cX11_nextRow 137 = .ok (.aload_n 0, 1) := by decide +kernel
theorem dX11_nextRow_138 : decode cX11_nextRow 138 = .ok (.getfield 90, 3) := by decide +kernel
theorem dX11_nextRow_141 : decode cX11_nextRow 141 = .ok (.iload 5, 2) := by decide +kernel
theorem dX11_nextRow_143 : decode cX11_nextRow 143 = .ok (.iload 6, 2) := by decide +kernel
theorem dX11_nextRow_145 : decode cX11_nextRow 145 = .ok (.iastore, 1) := by decide +kernel
theorem dX11_nextRow_146 : decode cX11_nextRow 146 = .ok (.iinc 4 1, 3) := by decide +kernel
theorem dX11_nextRow_149 : decode cX11_nextRow 149 = .ok (.iinc 5 (-1), 3) := by decide +kernel
theorem dX11_nextRow_152 : decode cX11_nextRow 152 = .ok (.goto (-45), 3) := by decide +kernel
theorem dX11_nextRow_155 : decode cX11_nextRow 155 = .ok (.iconst 1, 1) := by decide +kernel
theorem dX11_nextRow_156 : decode cX11_nextRow 156 = .ok (.ireturn, 1) := by decide +kernel
set_option maxRecDepth 20000 in
theorem ggX11_bestRow_X11_areHanging : GoodIn wsX11_bestRow wsX11_areHanging := goodIn_r _ [11, 12, 13, 14, 15, 10, 16, 17, 18, 19, 20, 21, 22, 23, 24, 25, 46, 47, 48, 49, 50, 51, 52, 53, 54, 55, 56, 57, 58, 59, 60, 61, 62, 63, 64, 65, 66, 67, 68, 69, 70, 71, 72, 73, 74, 75, 76, 77, 78, 79, 80, 81, 82, 83, 84, 85, 86, 87, 88, 89, 90, 91, 92, 93, 94, 95, 96, 97, 98, 99, 100, 101, 102, 103] (by decide +kernel) (by decide +kernel)
set_option maxRecDepth 20000 in
theorem gX11_bestRow_X11_areHanging : GoodIn wsX11_bestRow (wsV RX11 330 RX11 yX11_areHanging wsX11_areHanging) := goodIn_app (goodIn_of _ (by decide +kernel)) ggX11_bestRow_X11_areHanging
set_option maxRecDepth 20000 in
theorem ggX11_bestRow_X11_in : GoodIn wsX11_bestRow wsX11_in := goodIn_r _ [19] (by decide +kernel) (by decide +kernel)
set_option maxRecDepth 20000 in
theorem gX11_bestRow_X11_in : GoodIn wsX11_bestRow (va_wsS RX11 126 yX11_in wsX11_in) := goodIn_app (goodIn_of _ (by decide +kernel)) ggX11_bestRow_X11_in
set_option maxRecDepth 20000 in
theorem ggX11_bestRow_X11_bits : GoodIn wsX11_bestRow wsX11_bits := goodIn_r _ [28] (by decide +kernel) (by decide +kernel)
set_option maxRecDepth 20000 in
theorem gX11_bestRow_X11_bits : GoodIn wsX11_bestRow (va_wsS RX11 341 yX11_bits wsX11_bits) := goodIn_app (goodIn_of _ (by decide +kernel)) ggX11_bestRow_X11_bits
set_option maxRecDepth 20000 in
theorem ggX11_bestRow_X11_fillRow : GoodIn wsX11_bestRow wsX11_fillRow := goodIn_r _ [32, 4, 12, 6, 46, 47, 48, 49, 50, 51, 52, 53, 54, 55, 56, 57, 58, 59, 60, 61, 62, 63, 64, 65, 66, 67, 68, 69, 70, 71, 72, 73, 74, 75, 76, 77, 78, 79, 80, 81, 82, 83, 84, 85, 86, 87, 88, 89, 90, 91, 92, 93, 94, 95, 96, 97, 98, 99, 100, 101, 102, 103] (by decide +kernel) (by decide +kernel)
set_option maxRecDepth 20000 in
theorem gX11_bestRow_X11_fillRow : GoodIn wsX11_bestRow (wsV RX11 335 RX11 yX11_fillRow wsX11_fillRow) := goodIn_app (goodIn_of _ (by decide +kernel)) ggX11_bestRow_X11_fillRow
set_option maxRecDepth 20000 in
theorem ggX11_bestRow_X11_runRow : GoodIn wsX11_bestRow wsX11_runRow := goodIn_r _ [36, 3, 37, 2, 38, 4, 6, 39, 40, 41, 20, 21, 22, 10, 23, 24, 25, 46, 47, 48, 49, 50, 51, 52, 53, 54, 55, 56, 57, 58, 59, 60, 61, 62, 63, 64, 65, 66, 67, 68, 69, 70, 71, 72, 73, 74, 75, 76, 77, 78, 79, 80, 81, 82, 83, 84, 85, 86, 87, 88, 89, 90, 91, 92, 93, 94, 95, 96, 97, 98, 99, 100, 101, 102, 103] (by decide +kernel) (by decide +kernel)
set_option maxRecDepth 20000 in
theorem gX11_bestRow_X11_runRow : GoodIn wsX11_bestRow (wsV RX11 338 RX11 yX11_runRow wsX11_runRow) := goodIn_app (goodIn_of _ (by decide +kernel)) ggX11_bestRow_X11_runRow
set_option maxRecDepth 20000 in
theorem ggX11_bestRow_X11_nextRow : GoodIn wsX11_bestRow wsX11_nextRow := goodIn_r _ [45, 4, 6, 46, 47, 48, 49, 50, 51, 52, 53, 54, 55, 56, 57, 58, 59, 60, 61, 62, 63, 64, 65, 66, 67, 68, 69, 70, 71, 72, 73, 74, 75, 76, 77, 78, 79, 80, 81, 82, 83, 84, 85, 86, 87, 88, 89, 90, 91, 92, 93, 94, 95, 96, 97, 98, 99, 100, 101, 102, 103] (by decide +kernel) (by decide +kernel)
set_option maxRecDepth 20000 in
theorem gX11_bestRow_X11_nextRow : GoodIn wsX11_bestRow (wsV RX11 344 RX11 yX11_nextRow wsX11_nextRow) := goodIn_app (goodIn_of _ (by decide +kernel)) ggX11_bestRow_X11_nextRow
theorem dX11_bestRow_0 : decode cX11_bestRow 0 = .ok (.aload_n 0, 1) := by decide +kernel
theorem dX11_bestRow_1 : decode cX11_bestRow 1 = .ok (.iload_n 1, 1) := by decide +kernel
theorem dX11_bestRow_2 : decode cX11_bestRow 2 = .ok (.invokevirtual 330, 3) := by decide +kernel
theorem dX11_bestRow_5 : decode cX11_bestRow 5 = .ok (.ifCond .ne 7, 3) := by decide +kernel
theorem dX11_bestRow_8 : decode cX11_bestRow 8 = .ok (.sipush (-1001), 3) := by decide +kernel
theorem dX11_bestRow_11 : decode cX11_bestRow 11 = .ok (.ireturn, 1) := by decide +kernel
theorem dX11_bestRow_12 : decode cX11_bestRow 12 = .ok (.iload_n 2, 1) := by decide +kernel
theorem dX11_bestRow_13 : decode cX11_bestRow 13 = .ok (.i2l, 1) := by decide +kernel
theorem dX11_bestRow_14 : decode cX11_bestRow 14 = .ok (.lconst 1, 1) := by decide +kernel
theorem dX11_bestRow_15 : decode cX11_bestRow 15 = .ok (.ldc2_w 333, 3) := by decide +kernel
theorem dX11_bestRow_18 : decode cX11_bestRow 18 = .ok (.invokestatic 126, 3) := by decide +kernel
theorem dX11_bestRow_21 : decode cX11_bestRow 21 = .ok (.ifCond .ne 7, 3) := by decide +kernel
theorem dX11_bestRow_24 : decode cX11_bestRow 24 = .ok (.sipush (-1002), 3) := by decide +kernel
theorem dX11_bestRow_27 : decode cX11_bestRow 27 = .ok (.ireturn, 1) := by decide +kernel
theorem dX11_bestRow_28 : decode cX11_bestRow 28 = .ok (.iload_n 1, 1) := by decide +kernel
theorem dX11_bestRow_29 : decode cX11_bestRow 29 = .ok (.invokestatic 341, 3) := by decide +kernel
theorem dX11_bestRow_32 : decode cX11_bestRow 32 = .ok (.bipush 7, 2) := by decide +kernel
theorem dX11_bestRow_34 : decode cX11_bestRow 34 = .ok (.if_icmp .le 7, 3) := by decide +kernel
theorem dX11_bestRow_37 : decode cX11_bestRow 37 = .ok (.sipush (-1003), 3) := by decide +kernel
theorem dX11_bestRow_40 : decode cX11_bestRow 40 = .ok (.ireturn, 1) := by decide +kernel
theorem dX11_bestRow_41 : decode cX11_bestRow 41 = .ok (.aload_n 0, 1) := by decide +kernel
theorem dX11_bestRow_42 : decode cX11_bestRow 42 = .ok (.iload_n 1, 1) := by decide +kernel
theorem dX11_bestRow_43 : decode cX11_bestRow 43 = .ok (.invokevirtual 335, 3) := by decide +kernel
theorem dX11_bestRow_46 : decode cX11_bestRow 46 = .ok (.iconst (-1), 1) := by decide +kernel
theorem dX11_bestRow_47 : decode cX11_bestRow 47 = .ok (.istore 4, 2) := by decide +kernel
theorem dX11_bestRow_49 : decode cX11_bestRow 49 = .ok (.iconst 0, 1) := by decide +kernel
theorem dX11_bestRow_50 : decode cX11_bestRow 50 = .ok (.istore 5, 2) := by decide +kernel
theorem dX11_bestRow_52 : decode cX11_bestRow 52 = .ok (.iconst 1, 1) := by decide +kernel
theorem dX11_bestRow_53 : decode cX11_bestRow 53 = .ok (.istore 6, 2) := by decide +kernel
theorem dX11_bestRow_55 : decode cX11_bestRow 55 = .ok (.iload 6, 2) := by decide +kernel
theorem dX11_bestRow_57 : decode cX11_bestRow 57 = .ok (.ifCond .eq 88, 3) := by decide +kernel
theorem dX11_bestRow_60 : decode cX11_bestRow 60 = .ok (.aload_n 0, 1) := by decide +kernel
theorem dX11_bestRow_61 : decode cX11_bestRow 61 = .ok (.iload_n 2, 1) := by decide +kernel
theorem dX11_bestRow_62 : decode cX11_bestRow 62 = .ok (.invokevirtual 338, 3) := by decide +kernel
theorem dX11_bestRow_65 : decode cX11_bestRow 65 = .ok (.aload_n 0, 1) := by decide +kernel
theorem dX11_bestRow_66 : decode cX11_bestRow 66 = .ok (.getfield 321, 3) := by decide +kernel
theorem dX11_bestRow_69 : decode cX11_bestRow 69 = .ok (.iload 4, 2) := by decide +kernel
theorem dX11_bestRow_71 : decode cX11_bestRow 71 = .ok (.if_icmp .gt 21, 3) := by decide +kernel
theorem dX11_bestRow_74 : decode cX11_bestRow 74 = .ok (.aload_n 0, 1) := by decide +kernel
theorem dX11_bestRow_75 : decode cX11_bestRow 75 = .ok (.getfield 321, 3) := by decide +kernel
theorem dX11_bestRow_78 : decode cX11_bestRow 78 = .ok (.iload 4, 2) := by decide +kernel
theorem dX11_bestRow_80 : decode cX11_bestRow 80 = .ok (.if_icmp .ne 56, 3) := by decide +kernel
theorem dX11_bestRow_83 : decode cX11_bestRow 83 = .ok (.aload_n 0, 1) := by decide +kernel
theorem dX11_bestRow_84 : decode cX11_bestRow 84 = .ok (.getfield 315, 3) := by decide +kernel
theorem dX11_bestRow_87 : decode cX11_bestRow 87 = .ok (.iload 5, 2) := by decide +kernel
theorem dX11_bestRow_89 : decode cX11_bestRow 89 = .ok (.if_icmp .ge 47, 3) := by decide +kernel
theorem dX11_bestRow_92 : decode cX11_bestRow 92 = .ok (.aload_n 0, 1) := by decide +kernel
theorem dX11_bestRow_93 : decode cX11_bestRow 93 = .ok (.getfield 321, 3) := by decide +kernel
theorem dX11_bestRow_96 : decode cX11_bestRow 96 = .ok (.istore 4, 2) := by decide +kernel
theorem dX11_bestRow_98 : decode cX11_bestRow 98 = .ok (.aload_n 0, 1) := by decide +kernel
theorem dX11_bestRow_99 : decode cX11_bestRow 99 = .ok (.getfield 315, 3) := by decide +kernel
theorem dX11_bestRow_102 : decode cX11_bestRow 102 = .ok (.istore 5, 2) := by decide +kernel
theorem dX11_bestRow_104 : decode cX11_bestRow 104 = .ok (.iconst 0, 1) := by decide +kernel
theorem dX11_bestRow_105 : decode cX11_bestRow 105 = .ok (.istore 7, 2) := by decide +kernel
theorem dX11_bestRow_107 : decode cX11_bestRow 107 = .ok (.iload 7, 2) := by decide +kernel
theorem dX11_bestRow_109 : decode cX11_bestRow 109 = .ok (.aload_n 0, 1) := by decide +kernel
theorem dX11_bestRow_110 : decode cX11_bestRow 110 = .ok (.getfield 324, 3) := by decide +kernel
theorem dX11_bestRow_113 : decode cX11_bestRow 113 = .ok (.if_icmp .ge 23, 3) := by decide +kernel
theorem dX11_bestRow_116 : decode cX11_bestRow 116 = .ok (.aload_n 0, 1) := by decide +kernel
theorem dX11_bestRow_117 : decode cX11_bestRow 117 = .ok (.getfield 96, 3) := by decide +kernel
theorem dX11_bestRow_120 : decode cX11_bestRow 120 = .ok (.iload 7, 2) := by decide +kernel
theorem dX11_bestRow_122 : decode cX11_bestRow 122 = .ok (.aload_n 0, 1) := by decide +kernel
theorem dX11_bestRow_123 : decode cX11_bestRow 123 = .ok (.getfield 90, 3) := by decide +kernel
theorem dX11_bestRow_126 : decode cX11_bestRow 126 = .ok (.iload 7, 2) := by decide +kernel
theorem dX11_bestRow_128 : decode cX11_bestRow 128 = .ok (.iaload, 1) := by decide +kernel
theorem dX11_bestRow_129 : decode cX11_bestRow 129 = .ok (.iastore, 1) := by decide +kernel
theorem dX11_bestRow_130 : decode cX11_bestRow 130 = .ok (.iinc 7 1, 3) := by decide +kernel
theorem dX11_bestRow_133 : decode cX11_bestRow 133 = .ok (.goto (-26), 3) := by decide +kernel
theorem dX11_bestRow_136 : decode cX11_bestRow 136 = .ok (.aload_n 0, 1) := by decide +kernel
theorem dX11_bestRow_137 : decode cX11_bestRow 137 = .ok (.invokevirtual 344, 3) := by decide +kernel
theorem dX11_bestRow_140 : decode cX11_bestRow 140 = .ok (.istore 6, 2) := by decide +kernel
theorem dX11_bestRow_142 : decode cX11_bestRow 142 = .ok (.goto (-87), 3) := by decide +kernel
theorem dX11_bestRow_145 : decode cX11_bestRow 145 = .ok (.iload_n 3, 1) := by decide +kernel
theorem dX11_bestRow_146 : decode cX11_bestRow 146 = .ok (.iconst (-1), 1) := by decide +kernel
theorem dX11_bestRow_147 : decode cX11_bestRow 147 = .ok (.if_icmp .ne 8, 3) := by decide +kernel
theorem dX11_bestRow_150 : decode cX11_bestRow 150 = .ok (.iload 4, 2) := by decide +kernel
theorem dX11_bestRow_152 : decode cX11_bestRow 152 = .ok (.goto 29, 3) := by decide +kernel
theorem dX11_bestRow_155 : decode cX11_bestRow 155 = .ok (.iload_n 3, 1) := by decide +kernel
theorem dX11_bestRow_156 : decode cX11_bestRow 156 = .ok (.i2l, 1) := by decide +kernel
theorem dX11_bestRow_157 : decode cX11_bestRow 157 = .ok (.lconst 0, 1) := by decide +kernel
theorem dX11_bestRow_158 : decode cX11_bestRow 158 = .ok (.aload_n 0, 1) := by decide +kernel
theorem dX11_bestRow_159 : decode cX11_bestRow 159 = .ok (.getfield 324, 3) := by decide +kernel
theorem dX11_bestRow_162 : decode cX11_bestRow 162 = .ok (.iconst 1, 1) := by decide +kernel
theorem dX11_bestRow_163 : decode cX11_bestRow 163 = .ok (.isub, 1) := by decide +kernel
theorem dX11_bestRow_164 : decode cX11_bestRow 164 = .ok (.i2l, 1) := by decide +kernel
theorem dX11_bestRow_165 : decode cX11_bestRow 165 = .ok (.invokestatic 126, 3) := by decide +kernel
theorem dX11_bestRow_168 : decode cX11_bestRow 168 = .ok (.ifCond .eq 12, 3) := by decide +kernel
theorem dX11_bestRow_171 : decode cX11_bestRow 171 = .ok (.aload_n 0, 1) := by decide +kernel
theorem dX11_bestRow_172 : decode cX11_bestRow 172 = .ok (.getfield 96, 3) := by decide +kernel
theorem dX11_bestRow_175 : decode cX11_bestRow 175 = .ok (.iload_n 3, 1) := by decide +kernel
theorem dX11_bestRow_176 : decode cX11_bestRow 176 = .ok (.iaload, 1) := by decide +kernel
theorem dX11_bestRow_177 : decode cX11_bestRow 177 = .ok (.goto 4, 3) := by decide +kernel
theorem dX11_bestRow_180 : decode cX11_bestRow 180 = .ok (.iconst (-1), 1) := by decide +kernel
theorem dX11_bestRow_181 : decode cX11_bestRow 181 = .ok (.ireturn, 1) := by decide +kernel
set_option maxRecDepth 20000 in
theorem ggX11_wanted_X11_areHanging : GoodIn wsX11_wanted wsX11_areHanging := goodIn_r _ [7, 8, 9, 10, 11, 6, 12, 13, 14, 15, 16, 17, 18, 19, 20, 21, 38, 39, 40, 41, 42, 43, 44, 45, 46, 47, 48, 49, 50, 51, 52, 53, 54, 55, 56, 57, 58, 59, 60, 61, 62, 63, 64, 65, 66, 67, 68, 69, 70, 71, 72, 73, 74, 75, 76, 77, 78, 79, 80, 81, 82, 83, 84, 85, 86, 87, 88, 89, 90, 91, 92, 93, 94, 95] (by decide +kernel) (by decide +kernel)
set_option maxRecDepth 20000 in
theorem gX11_wanted_X11_areHanging : GoodIn wsX11_wanted (wsV RX11 330 RX11 yX11_areHanging wsX11_areHanging) := goodIn_app (goodIn_of _ (by decide +kernel)) ggX11_wanted_X11_areHanging
set_option maxRecDepth 20000 in
theorem ggX11_wanted_X11_in : GoodIn wsX11_wanted wsX11_in := goodIn_r _ [15] (by decide +kernel) (by decide +kernel)
set_option maxRecDepth 20000 in
theorem gX11_wanted_X11_in : GoodIn wsX11_wanted (va_wsS RX11 126 yX11_in wsX11_in) := goodIn_app (goodIn_of _ (by decide +kernel)) ggX11_wanted_X11_in
set_option maxRecDepth 20000 in
theorem ggX11_wanted_X11_fillRow : GoodIn wsX11_wanted wsX11_fillRow := goodIn_r _ [25, 26, 8, 27, 38, 39, 40, 41, 42, 43, 44, 45, 46, 47, 48, 49, 50, 51, 52, 53, 54, 55, 56, 57, 58, 59, 60, 61, 62, 63, 64, 65, 66, 67, 68, 69, 70, 71, 72, 73, 74, 75, 76, 77, 78, 79, 80, 81, 82, 83, 84, 85, 86, 87, 88, 89, 90, 91, 92, 93, 94, 95] (by decide +kernel) (by decide +kernel)
set_option maxRecDepth 20000 in
theorem gX11_wanted_X11_fillRow : GoodIn wsX11_wanted (wsV RX11 335 RX11 yX11_fillRow wsX11_fillRow) := goodIn_app (goodIn_of _ (by decide +kernel)) ggX11_wanted_X11_fillRow
set_option maxRecDepth 20000 in
theorem ggX11_wanted_X11_runRow : GoodIn wsX11_wanted wsX11_runRow := goodIn_r _ [31, 32, 2, 33, 34, 26, 27, 35, 36, 37, 16, 17, 18, 6, 19, 20, 21, 38, 39, 40, 41, 42, 43, 44, 45, 46, 47, 48, 49, 50, 51, 52, 53, 54, 55, 56, 57, 58, 59, 60, 61, 62, 63, 64, 65, 66, 67, 68, 69, 70, 71, 72, 73, 74, 75, 76, 77, 78, 79, 80, 81, 82, 83, 84, 85, 86, 87, 88, 89, 90, 91, 92, 93, 94, 95] (by decide +kernel) (by decide +kernel)
set_option maxRecDepth 20000 in
theorem gX11_wanted_X11_runRow : GoodIn wsX11_wanted (wsV RX11 338 RX11 yX11_runRow wsX11_runRow) := goodIn_app (goodIn_of _ (by decide +kernel)) ggX11_wanted_X11_runRow
theorem dX11_wanted_0 : decode cX11_wanted 0 = .ok (.aload_n 0, 1) := by decide +kernel
theorem dX11_wanted_1 : decode cX11_wanted 1 = .ok (.iload_n 1, 1) := by decide +kernel
theorem dX11_wanted_2 : decode cX11_wanted 2 = .ok (.invokevirtual 330, 3) := by decide +kernel
theorem dX11_wanted_5 : decode cX11_wanted 5 = .ok (.ifCond .ne 7, 3) := by decide +kernel
theorem dX11_wanted_8 : decode cX11_wanted 8 = .ok (.sipush (-1001), 3) := by decide +kernel
theorem dX11_wanted_11 : decode cX11_wanted 11 = .ok (.ireturn, 1) := by decide +kernel
theorem dX11_wanted_12 : decode cX11_wanted 12 = .ok (.iload_n 2, 1) := by decide +kernel
theorem dX11_wanted_13 : decode cX11_wanted 13 = .ok (.i2l, 1) := by decide +kernel
theorem dX11_wanted_14 : decode cX11_wanted 14 = .ok (.lconst 0, 1) := by decide +kernel
theorem dX11_wanted_15 : decode cX11_wanted 15 = .ok (.ldc2_w 348, 3) := by decide +kernel
theorem dX11_wanted_18 : decode cX11_wanted 18 = .ok (.invokestatic 126, 3) := by decide +kernel
theorem dX11_wanted_21 : decode cX11_wanted 21 = .ok (.ifCond .ne 7, 3) := by decide +kernel
theorem dX11_wanted_24 : decode cX11_wanted 24 = .ok (.sipush (-1002), 3) := by decide +kernel
theorem dX11_wanted_27 : decode cX11_wanted 27 = .ok (.ireturn, 1) := by decide +kernel
theorem dX11_wanted_28 : decode cX11_wanted 28 = .ok (.aload_n 0, 1) := by decide +kernel
theorem dX11_wanted_29 : decode cX11_wanted 29 = .ok (.iload_n 1, 1) := by decide +kernel
theorem dX11_wanted_30 : decode cX11_wanted 30 = .ok (.invokevirtual 335, 3) := by decide +kernel
theorem dX11_wanted_33 : decode cX11_wanted 33 = .ok (.iconst 1, 1) := by decide +kernel
theorem dX11_wanted_34 : decode cX11_wanted 34 = .ok (.istore_n 3, 1) := by decide +kernel
theorem dX11_wanted_35 : decode cX11_wanted 35 = .ok (.iload_n 3, 1) := by decide +kernel
theorem dX11_wanted_36 : decode cX11_wanted 36 = .ok (.iconst 4, 1) := by decide +kernel
theorem dX11_wanted_37 : decode cX11_wanted 37 = .ok (.if_icmp .gt 24, 3) := by decide +kernel
theorem dX11_wanted_40 : decode cX11_wanted 40 = .ok (.aload_n 0, 1) := by decide +kernel
theorem dX11_wanted_41 : decode cX11_wanted 41 = .ok (.iload_n 3, 1) := by decide +kernel
theorem dX11_wanted_42 : decode cX11_wanted 42 = .ok (.invokevirtual 338, 3) := by decide +kernel
theorem dX11_wanted_45 : decode cX11_wanted 45 = .ok (.aload_n 0, 1) := by decide +kernel
theorem dX11_wanted_46 : decode cX11_wanted 46 = .ok (.getfield 318, 3) := by decide +kernel
theorem dX11_wanted_49 : decode cX11_wanted 49 = .ok (.iload_n 2, 1) := by decide +kernel
theorem dX11_wanted_50 : decode cX11_wanted 50 = .ok (.if_icmp .gt 5, 3) := by decide +kernel
theorem dX11_wanted_53 : decode cX11_wanted 53 = .ok (.iload_n 3, 1) := by decide +kernel
theorem dX11_wanted_54 : decode cX11_wanted 54 = .ok (.ireturn, 1) := by decide +kernel
theorem dX11_wanted_55 : decode cX11_wanted 55 = .ok (.iinc 3 1, 3) := by decide +kernel
theorem dX11_wanted_58 : decode cX11_wanted 58 = .ok (.goto (-23), 3) := by decide +kernel
theorem dX11_wanted_61 : decode cX11_wanted 61 = .ok (.iconst (-1), 1) := by decide +kernel
theorem dX11_wanted_62 : decode cX11_wanted 62 = .ok (.ireturn, 1) := by decide +kernel
set_option maxRecDepth 20000 in
theorem ggX11_isClaim_X11_in : GoodIn wsX11_isClaim wsX11_in := goodIn_r _ [5] (by decide +kernel) (by decide +kernel)
set_option maxRecDepth 20000 in
theorem gX11_isClaim_X11_in : GoodIn wsX11_isClaim (va_wsS RX11 126 yX11_in wsX11_in) := goodIn_app (goodIn_of _ (by decide +kernel)) ggX11_isClaim_X11_in
theorem dX11_isClaim_0 : decode cX11_isClaim 0 = .ok (.iload_n 1, 1) := by decide +kernel
theorem dX11_isClaim_1 : decode cX11_isClaim 1 = .ok (.i2l, 1) := by decide +kernel
theorem dX11_isClaim_2 : decode cX11_isClaim 2 = .ok (.lconst 0, 1) := by decide +kernel
theorem dX11_isClaim_3 : decode cX11_isClaim 3 = .ok (.aload_n 0, 1) := by decide +kernel
theorem dX11_isClaim_4 : decode cX11_isClaim 4 = .ok (.getfield 238, 3) := by decide +kernel
theorem dX11_isClaim_7 : decode cX11_isClaim 7 = .ok (.iconst 1, 1) := by decide +kernel
theorem dX11_isClaim_8 : decode cX11_isClaim 8 = .ok (.isub, 1) := by decide +kernel
theorem dX11_isClaim_9 : decode cX11_isClaim 9 = .ok (.i2l, 1) := by decide +kernel
theorem dX11_isClaim_10 : decode cX11_isClaim 10 = .ok (.invokestatic 126, 3) := by decide +kernel
theorem dX11_isClaim_13 : decode cX11_isClaim 13 = .ok (.ireturn, 1) := by decide +kernel
theorem dX11_hasClaim_0 : decode cX11_hasClaim 0 = .ok (.iconst 0, 1) := by decide +kernel
theorem dX11_hasClaim_1 : decode cX11_hasClaim 1 = .ok (.istore_n 2, 1) := by decide +kernel
theorem dX11_hasClaim_2 : decode cX11_hasClaim 2 = .ok (.iconst 0, 1) := by decide +kernel
theorem dX11_hasClaim_3 : decode cX11_hasClaim 3 = .ok (.istore_n 3, 1) := by decide +kernel
theorem dX11_hasClaim_4 : decode cX11_hasClaim 4 = .ok (.iload_n 3, 1) := by decide +kernel
theorem dX11_hasClaim_5 : decode cX11_hasClaim 5 = .ok (.aload_n 0, 1) := by decide +kernel
theorem dX11_hasClaim_6 : decode cX11_hasClaim 6 = .ok (.getfield 238, 3) := by decide +kernel
theorem dX11_hasClaim_9 : decode cX11_hasClaim 9 = .ok (.if_icmp .ge 29, 3) := by decide +kernel
theorem dX11_hasClaim_12 : decode cX11_hasClaim 12 = .ok (.iload_n 2, 1) := by decide +kernel
theorem dX11_hasClaim_13 : decode cX11_hasClaim 13 = .ok (.ifCond .ne 13, 3) := by decide +kernel
theorem dX11_hasClaim_16 : decode cX11_hasClaim 16 = .ok (.aload_n 0, 1) := by decide +kernel
theorem dX11_hasClaim_17 : decode cX11_hasClaim 17 = .ok (.getfield 99, 3) := by decide +kernel
theorem dX11_hasClaim_20 : decode cX11_hasClaim 20 = .ok (.iload_n 3, 1) := by decide +kernel
theorem dX11_hasClaim_21 : decode cX11_hasClaim 21 = .ok (.iaload, 1) := by decide +kernel
theorem dX11_hasClaim_22 : decode cX11_hasClaim 22 = .ok (.iload_n 1, 1) := by decide +kernel
theorem dX11_hasClaim_23 : decode cX11_hasClaim 23 = .ok (.if_icmp .ne 7, 3) := by decide +kernel
theorem dX11_hasClaim_26 : decode cX11_hasClaim 26 = .ok (.iconst 1, 1) := by decide +kernel
theorem dX11_hasClaim_27 : decode cX11_hasClaim 27 = .ok (.goto 4, 3) := by decide +kernel
theorem dX11_hasClaim_30 : decode cX11_hasClaim 30 = .ok (.iconst 0, 1) := by decide +kernel
theorem dX11_hasClaim_31 : decode cX11_hasClaim 31 = .ok (.istore_n 2, 1) := by decide +kernel
theorem dX11_hasClaim_32 : decode cX11_hasClaim 32 = .ok (.iinc 3 1, 3) := by decide +kernel
theorem dX11_hasClaim_35 : decode cX11_hasClaim 35 = .ok (.goto (-31), 3) := by decide +kernel
theorem dX11_hasClaim_38 : decode cX11_hasClaim 38 = .ok (.iload_n 2, 1) := by decide +kernel
theorem dX11_hasClaim_39 : decode cX11_hasClaim 39 = .ok (.ireturn, 1) := by decide +kernel
set_option maxRecDepth 20000 in
theorem ggX11_claim_X11_isGuest : GoodIn wsX11_claim wsX11_isGuest := goodIn_r _ [12, 13, 14, 15, 11, 16, 21, 22, 23, 24, 25, 26, 27, 28, 29, 30, 31, 32, 33, 34, 35, 36, 37, 38, 39, 40, 41, 42, 43, 44, 45, 46, 47, 48, 49, 50, 51, 52, 53, 54, 55, 56, 57, 58, 59, 60, 61, 62, 63, 64, 65, 66, 67, 68, 69, 70, 71, 72, 73, 74, 75, 76, 77, 78] (by decide +kernel) (by decide +kernel)
set_option maxRecDepth 20000 in
theorem gX11_claim_X11_isGuest : GoodIn wsX11_claim (wsV RX11 255 RX11 yX11_isGuest wsX11_isGuest) := goodIn_app (goodIn_of _ (by decide +kernel)) ggX11_claim_X11_isGuest
set_option maxRecDepth 20000 in
theorem ggX11_claim_X11_in : GoodIn wsX11_claim wsX11_in := goodIn_r _ [16] (by decide +kernel) (by decide +kernel)
set_option maxRecDepth 20000 in
theorem gX11_claim_X11_in : GoodIn wsX11_claim (va_wsS RX11 126 yX11_in wsX11_in) := goodIn_app (goodIn_of _ (by decide +kernel)) ggX11_claim_X11_in
set_option maxRecDepth 20000 in
theorem ggX11_claim_X11_hasClaim : GoodIn wsX11_claim wsX11_hasClaim := goodIn_r _ [20, 4, 5, 21, 22, 23, 24, 25, 26, 27, 28, 29, 30, 31, 32, 33, 34, 35, 36, 37, 38, 39, 40, 41, 42, 43, 44, 45, 46, 47, 48, 49, 50, 51, 52, 53, 54, 55, 56, 57, 58, 59, 60, 61, 62, 63, 64, 65, 66, 67, 68, 69, 70, 71, 72, 73, 74, 75, 76, 77, 78] (by decide +kernel) (by decide +kernel)
set_option maxRecDepth 20000 in
theorem gX11_claim_X11_hasClaim : GoodIn wsX11_claim (wsV RX11 289 RX11 yX11_hasClaim wsX11_hasClaim) := goodIn_app (goodIn_of _ (by decide +kernel)) ggX11_claim_X11_hasClaim
theorem dX11_claim_0 : decode cX11_claim 0 = .ok (.aload_n 0, 1) := by decide +kernel
theorem dX11_claim_1 : decode cX11_claim 1 = .ok (.iload_n 1, 1) := by decide +kernel
theorem dX11_claim_2 : decode cX11_claim 2 = .ok (.invokevirtual 255, 3) := by decide +kernel
theorem dX11_claim_5 : decode cX11_claim 5 = .ok (.ifCond .ne 7, 3) := by decide +kernel
theorem dX11_claim_8 : decode cX11_claim 8 = .ok (.sipush (-1001), 3) := by decide +kernel
theorem dX11_claim_11 : decode cX11_claim 11 = .ok (.ireturn, 1) := by decide +kernel
theorem dX11_claim_12 : decode cX11_claim 12 = .ok (.iload_n 2, 1) := by decide +kernel
theorem dX11_claim_13 : decode cX11_claim 13 = .ok (.i2l, 1) := by decide +kernel
theorem dX11_claim_14 : decode cX11_claim 14 = .ok (.lconst 0, 1) := by decide +kernel
theorem dX11_claim_15 : decode cX11_claim 15 = .ok (.ldc2_w 133, 3) := by decide +kernel
theorem dX11_claim_18 : decode cX11_claim 18 = .ok (.invokestatic 126, 3) := by decide +kernel
theorem dX11_claim_21 : decode cX11_claim 21 = .ok (.ifCond .eq 21, 3) := by decide +kernel
theorem dX11_claim_24 : decode cX11_claim 24 = .ok (.iload_n 3, 1) := by decide +kernel
theorem dX11_claim_25 : decode cX11_claim 25 = .ok (.i2l, 1) := by decide +kernel
theorem dX11_claim_26 : decode cX11_claim 26 = .ok (.lconst 0, 1) := by decide +kernel
theorem dX11_claim_27 : decode cX11_claim 27 = .ok (.ldc2_w 133, 3) := by decide +kernel
theorem dX11_claim_30 : decode cX11_claim 30 = .ok (.invokestatic 126, 3) := by decide +kernel
theorem dX11_claim_33 : decode cX11_claim 33 = .ok (.ifCond .eq 9, 3) := by decide +kernel
theorem dX11_claim_36 : decode cX11_claim 36 = .ok (.iload_n 2, 1) := by decide +kernel
theorem dX11_claim_37 : decode cX11_claim 37 = .ok (.iload_n 3, 1) := by decide +kernel
theorem dX11_claim_38 : decode cX11_claim 38 = .ok (.iand, 1) := by decide +kernel
theorem dX11_claim_39 : decode cX11_claim 39 = .ok (.ifCond .eq 7, 3) := by decide +kernel
theorem dX11_claim_42 : decode cX11_claim 42 = .ok (.sipush (-1002), 3) := by decide +kernel
theorem dX11_claim_45 : decode cX11_claim 45 = .ok (.ireturn, 1) := by decide +kernel
theorem dX11_claim_46 : decode cX11_claim 46 = .ok (.aload_n 0, 1) := by decide +kernel
theorem dX11_claim_47 : decode cX11_claim 47 = .ok (.getfield 56, 3) := by decide +kernel
theorem dX11_claim_50 : decode cX11_claim 50 = .ok (.iload_n 1, 1) := by decide +kernel
theorem dX11_claim_51 : decode cX11_claim 51 = .ok (.iaload, 1) := by decide +kernel
theorem dX11_claim_52 : decode cX11_claim 52 = .ok (.ifCond .ge 20, 3) := by decide +kernel
theorem dX11_claim_55 : decode cX11_claim 55 = .ok (.aload_n 0, 1) := by decide +kernel
theorem dX11_claim_56 : decode cX11_claim 56 = .ok (.getfield 59, 3) := by decide +kernel
theorem dX11_claim_59 : decode cX11_claim 59 = .ok (.iload_n 1, 1) := by decide +kernel
theorem dX11_claim_60 : decode cX11_claim 60 = .ok (.iaload, 1) := by decide +kernel
theorem dX11_claim_61 : decode cX11_claim 61 = .ok (.ifCond .ge 11, 3) := by decide +kernel
theorem dX11_claim_64 : decode cX11_claim 64 = .ok (.aload_n 0, 1) := by decide +kernel
theorem dX11_claim_65 : decode cX11_claim 65 = .ok (.iload_n 1, 1) := by decide +kernel
theorem dX11_claim_66 : decode cX11_claim 66 = .ok (.invokevirtual 289, 3) := by decide +kernel
theorem dX11_claim_69 : decode cX11_claim 69 = .ok (.ifCond .eq 7, 3) := by decide +kernel
theorem dX11_claim_72 : decode cX11_claim 72 = .ok (.sipush (-1003), 3) := by decide +kernel
theorem dX11_claim_75 : decode cX11_claim 75 = .ok (.ireturn, 1) := by decide +kernel
theorem dX11_claim_76 : decode cX11_claim 76 = .ok (.aload_n 0, 1) := by decide +kernel
theorem dX11_claim_77 : decode cX11_claim 77 = .ok (.getfield 238, 3) := by decide +kernel
theorem dX11_claim_80 : decode cX11_claim 80 = .ok (.bipush 6, 2) := by decide +kernel
theorem dX11_claim_82 : decode cX11_claim 82 = .ok (.if_icmp .ne 7, 3) := by decide +kernel
theorem dX11_claim_85 : decode cX11_claim 85 = .ok (.sipush (-1004), 3) := by decide +kernel
theorem dX11_claim_88 : decode cX11_claim 88 = .ok (.ireturn, 1) := by decide +kernel
theorem dX11_claim_89 : decode cX11_claim 89 = .ok (.aload_n 0, 1) := by decide +kernel
theorem dX11_claim_90 : decode cX11_claim 90 = .ok (.getfield 99, 3) := by decide +kernel
theorem dX11_claim_93 : decode cX11_claim 93 = .ok (.aload_n 0, 1) := by decide +kernel
theorem dX11_claim_94 : decode cX11_claim 94 = .ok (.getfield 238, 3) := by decide +kernel
theorem dX11_claim_97 : decode cX11_claim 97 = .ok (.iload_n 1, 1) := by decide +kernel
theorem dX11_claim_98 : decode cX11_claim 98 = .ok (.iastore, 1) := by decide +kernel
theorem dX11_claim_99 : decode cX11_claim 99 = .ok (.aload_n 0, 1) := by decide +kernel
theorem dX11_claim_100 : decode cX11_claim 100 = .ok (.getfield 102, 3) := by decide +kernel
theorem dX11_claim_103 : decode cX11_claim 103 = .ok (.aload_n 0, 1) := by decide +kernel
theorem dX11_claim_104 : decode cX11_claim 104 = .ok (.getfield 238, 3) := by decide +kernel
theorem dX11_claim_107 : decode cX11_claim 107 = .ok (.iload_n 2, 1) := by decide +kernel
theorem dX11_claim_108 : decode cX11_claim 108 = .ok (.iastore, 1) := by decide +kernel
theorem dX11_claim_109 : decode cX11_claim 109 = .ok (.aload_n 0, 1) := by decide +kernel
theorem dX11_claim_110 : decode cX11_claim 110 = .ok (.getfield 105, 3) := by decide +kernel
theorem dX11_claim_113 : decode cX11_claim 113 = .ok (.aload_n 0, 1) := by decide +kernel
theorem dX11_claim_114 : decode cX11_claim 114 = .ok (.getfield 238, 3) := by decide +kernel
theorem dX11_claim_117 : decode cX11_claim 117 = .ok (.iload_n 3, 1) := by decide +kernel
theorem dX11_claim_118 : decode cX11_claim 118 = .ok (.iastore, 1) := by decide +kernel
theorem dX11_claim_119 : decode cX11_claim 119 = .ok (.aload_n 0, 1) := by decide +kernel
theorem dX11_claim_120 : decode cX11_claim 120 = .ok (.dup, 1) := by decide +kernel
theorem dX11_claim_121 : decode cX11_claim 121 = .ok (.getfield 238, 3) := by decide +kernel
theorem dX11_claim_124 : decode cX11_claim 124 = .ok (.iconst 1, 1) := by decide +kernel
theorem dX11_claim_125 : decode cX11_claim 125 = .ok (.iadd, 1) := by decide +kernel
theorem dX11_claim_126 : decode cX11_claim 126 = .ok (.putfield 238, 3) := by decide +kernel
theorem dX11_claim_129 : decode cX11_claim 129 = .ok (.aload_n 0, 1) := by decide +kernel
theorem dX11_claim_130 : decode cX11_claim 130 = .ok (.getfield 238, 3) := by decide +kernel
theorem dX11_claim_133 : decode cX11_claim 133 = .ok (.iconst 1, 1) := by decide +kernel
theorem dX11_claim_134 : decode cX11_claim 134 = .ok (.isub, 1) := by decide +kernel
theorem dX11_claim_135 : decode cX11_claim 135 = .ok (.ireturn, 1) := by decide +kernel
theorem dX11_fitting_0 : decode cX11_fitting 0 = .ok (.iconst 0, 1) := by decide +kernel
theorem dX11_fitting_1 : decode cX11_fitting 1 = .ok (.istore 4, 2) := by decide +kernel
theorem dX11_fitting_3 : decode cX11_fitting 3 = .ok (.iconst 0, 1) := by decide +kernel
theorem dX11_fitting_4 : decode cX11_fitting 4 = .ok (.istore 5, 2) := by decide +kernel
theorem dX11_fitting_6 : decode cX11_fitting 6 = .ok (.iload 5, 2) := by decide +kernel
theorem dX11_fitting_8 : decode cX11_fitting 8 = .ok (.aload_n 0, 1) := by decide +kernel
theorem dX11_fitting_9 : decode cX11_fitting 9 = .ok (.getfield 221, 3) := by decide +kernel
theorem dX11_fitting_12 : decode cX11_fitting 12 = .ok (.if_icmp .ge 93, 3) := by decide +kernel
theorem dX11_fitting_15 : decode cX11_fitting 15 = .ok (.aload_n 0, 1) := by decide +kernel
theorem dX11_fitting_16 : decode cX11_fitting 16 = .ok (.getfield 41, 3) := by decide +kernel
theorem dX11_fitting_19 : decode cX11_fitting 19 = .ok (.iload 5, 2) := by decide +kernel
theorem dX11_fitting_21 : decode cX11_fitting 21 = .ok (.iaload, 1) := by decide +kernel
theorem dX11_fitting_22 : decode cX11_fitting 22 = .ok (.istore 6, 2) := by decide +kernel
theorem dX11_fitting_24 : decode cX11_fitting 24 = .ok (.iload 6, 2) := by decide +kernel
theorem dX11_fitting_26 : decode cX11_fitting 26 = .ok (.ifCond .lt 18, 3) := by decide +kernel
theorem dX11_fitting_29 : decode cX11_fitting 29 = .ok (.aload_n 0, 1) := by decide +kernel
theorem dX11_fitting_30 : decode cX11_fitting 30 = .ok (.getfield 7, 3) := by decide +kernel
theorem dX11_fitting_33 : decode cX11_fitting 33 = .ok (.iload 5, 2) := by decide +kernel
theorem dX11_fitting_35 : decode cX11_fitting 35 = .ok (.iaload, 1) := by decide +kernel
theorem dX11_fitting_36 : decode cX11_fitting 36 = .ok (.iload_n 1, 1) := by decide +kernel
theorem dX11_fitting_37 : decode cX11_fitting 37 = .ok (.if_icmp .ne 7, 3) := by decide +kernel
theorem dX11_fitting_40 : decode cX11_fitting 40 = .ok (.iconst 1, 1) := by decide +kernel
theorem dX11_fitting_41 : decode cX11_fitting 41 = .ok (.goto 4, 3) := by decide +kernel
theorem dX11_fitting_44 : decode cX11_fitting 44 = .ok (.iconst 0, 1) := by decide +kernel
theorem dX11_fitting_45 : decode cX11_fitting 45 = .ok (.istore 7, 2) := by decide +kernel
theorem dX11_fitting_47 : decode cX11_fitting 47 = .ok (.iload 7, 2) := by decide +kernel
theorem dX11_fitting_49 : decode cX11_fitting 49 = .ok (.ifCond .eq 13, 3) := by decide +kernel
theorem dX11_fitting_52 : decode cX11_fitting 52 = .ok (.aload_n 0, 1) := by decide +kernel
theorem dX11_fitting_53 : decode cX11_fitting 53 = .ok (.getfield 53, 3) := by decide +kernel
theorem dX11_fitting_56 : decode cX11_fitting 56 = .ok (.iload 6, 2) := by decide +kernel
theorem dX11_fitting_58 : decode cX11_fitting 58 = .ok (.iaload, 1) := by decide +kernel
theorem dX11_fitting_59 : decode cX11_fitting 59 = .ok (.goto 4, 3) := by decide +kernel
theorem dX11_fitting_62 : decode cX11_fitting 62 = .ok (.iconst 0, 1) := by decide +kernel
theorem dX11_fitting_63 : decode cX11_fitting 63 = .ok (.istore 8, 2) := by decide +kernel
theorem dX11_fitting_65 : decode cX11_fitting 65 = .ok (.iload 4, 2) := by decide +kernel
theorem dX11_fitting_67 : decode cX11_fitting 67 = .ok (.iload 7, 2) := by decide +kernel
theorem dX11_fitting_69 : decode cX11_fitting 69 = .ok (.ifCond .eq 26, 3) := by decide +kernel
theorem dX11_fitting_72 : decode cX11_fitting 72 = .ok (.iload_n 2, 1) := by decide +kernel
theorem dX11_fitting_73 : decode cX11_fitting 73 = .ok (.iload 8, 2) := by decide +kernel
theorem dX11_fitting_75 : decode cX11_fitting 75 = .ok (.iconst (-1), 1) := by decide +kernel
theorem dX11_fitting_76 : decode cX11_fitting 76 = .ok (.ixor, 1) := by decide +kernel
theorem dX11_fitting_77 : decode cX11_fitting 77 = .ok (.iand, 1) := by decide +kernel
theorem dX11_fitting_78 : decode cX11_fitting 78 = .ok (.ifCond .ne 17, 3) := by decide +kernel
theorem dX11_fitting_81 : decode cX11_fitting 81 = .ok (.iload_n 3, 1) := by decide +kernel
theorem dX11_fitting_82 : decode cX11_fitting 82 = .ok (.iload 8, 2) := by decide +kernel
theorem dX11_fitting_84 : decode cX11_fitting 84 = .ok (.iand, 1) := by decide +kernel
theorem dX11_fitting_85 : decode cX11_fitting 85 = .ok (.ifCond .ne 10, 3) := by decide +kernel
theorem dX11_fitting_88 : decode cX11_fitting 88 = .ok (.iconst 1, 1) := by decide +kernel
theorem dX11_fitting_89 : decode cX11_fitting 89 = .ok (.iload 6, 2) := by decide +kernel
theorem dX11_fitting_91 : decode cX11_fitting 91 = .ok (.ishl, 1) := by decide +kernel
theorem dX11_fitting_92 : decode cX11_fitting 92 = .ok (.goto 4, 3) := by decide +kernel
theorem dX11_fitting_95 : decode cX11_fitting 95 = .ok (.iconst 0, 1) := by decide +kernel
theorem dX11_fitting_96 : decode cX11_fitting 96 = .ok (.ior, 1) := by decide +kernel
theorem dX11_fitting_97 : decode cX11_fitting 97 = .ok (.istore 4, 2) := by decide +kernel
theorem dX11_fitting_99 : decode cX11_fitting 99 = .ok (.iinc 5 1, 3) := by decide +kernel
theorem dX11_fitting_102 : decode cX11_fitting 102 = .ok (.goto (-96), 3) := by decide +kernel
theorem dX11_fitting_105 : decode cX11_fitting 105 = .ok (.iload 4, 2) := by decide +kernel
theorem dX11_fitting_107 : decode cX11_fitting 107 = .ok (.ireturn, 1) := by decide +kernel
set_option maxRecDepth 20000 in
theorem ggX11_fitsOf_X11_fitting : GoodIn wsX11_fitsOf wsX11_fitting := goodIn_r _ [9, 10, 11, 12, 13, 14, 15, 16, 17, 18, 19, 20, 21, 22, 23, 24, 25, 26, 27, 28, 29, 30, 31, 32, 33, 34, 35, 36, 37, 38, 39, 40, 41, 42, 43, 44, 45, 46, 47, 48, 49, 50, 51, 52, 53, 54, 55, 56, 57, 58, 59, 60, 61, 62, 63, 64, 65, 66, 67, 68, 69, 70, 71] (by decide +kernel) (by decide +kernel)
set_option maxRecDepth 20000 in
theorem gX11_fitsOf_X11_fitting : GoodIn wsX11_fitsOf (wsV RX11 350 RX11 yX11_fitting wsX11_fitting) := goodIn_app (goodIn_of _ (by decide +kernel)) ggX11_fitsOf_X11_fitting
theorem dX11_fitsOf_0 : decode cX11_fitsOf 0 = .ok (.aload_n 0, 1) := by decide +kernel
theorem dX11_fitsOf_1 : decode cX11_fitsOf 1 = .ok (.aload_n 0, 1) := by decide +kernel
theorem dX11_fitsOf_2 : decode cX11_fitsOf 2 = .ok (.getfield 47, 3) := by decide +kernel
theorem dX11_fitsOf_5 : decode cX11_fitsOf 5 = .ok (.aload_n 0, 1) := by decide +kernel
theorem dX11_fitsOf_6 : decode cX11_fitsOf 6 = .ok (.getfield 99, 3) := by decide +kernel
theorem dX11_fitsOf_9 : decode cX11_fitsOf 9 = .ok (.iload_n 1, 1) := by decide +kernel
theorem dX11_fitsOf_10 : decode cX11_fitsOf 10 = .ok (.iaload, 1) := by decide +kernel
theorem dX11_fitsOf_11 : decode cX11_fitsOf 11 = .ok (.iaload, 1) := by decide +kernel
theorem dX11_fitsOf_12 : decode cX11_fitsOf 12 = .ok (.aload_n 0, 1) := by decide +kernel
theorem dX11_fitsOf_13 : decode cX11_fitsOf 13 = .ok (.getfield 102, 3) := by decide +kernel
theorem dX11_fitsOf_16 : decode cX11_fitsOf 16 = .ok (.iload_n 1, 1) := by decide +kernel
theorem dX11_fitsOf_17 : decode cX11_fitsOf 17 = .ok (.iaload, 1) := by decide +kernel
theorem dX11_fitsOf_18 : decode cX11_fitsOf 18 = .ok (.aload_n 0, 1) := by decide +kernel
theorem dX11_fitsOf_19 : decode cX11_fitsOf 19 = .ok (.getfield 105, 3) := by decide +kernel
theorem dX11_fitsOf_22 : decode cX11_fitsOf 22 = .ok (.iload_n 1, 1) := by decide +kernel
theorem dX11_fitsOf_23 : decode cX11_fitsOf 23 = .ok (.iaload, 1) := by decide +kernel
theorem dX11_fitsOf_24 : decode cX11_fitsOf 24 = .ok (.invokevirtual 350, 3) := by decide +kernel
theorem dX11_fitsOf_27 : decode cX11_fitsOf 27 = .ok (.ireturn, 1) := by decide +kernel
set_option maxRecDepth 20000 in
theorem ggX11_fits_X11_isClaim : GoodIn wsX11_fits wsX11_isClaim := goodIn_r _ [5, 6, 7, 8, 4, 9, 26, 27, 28, 29, 30, 31, 32, 33, 34, 35, 36, 37, 38, 39, 40, 41, 42, 43, 44, 45, 46, 47, 48, 49, 50, 51, 52, 53, 54, 55, 56, 57, 58, 59, 60, 61, 62, 63, 64, 65, 66, 67, 68, 69, 70, 71, 72, 73, 74, 75, 76, 77, 78, 79, 80, 81, 82, 83] (by decide +kernel) (by decide +kernel)
set_option maxRecDepth 20000 in
theorem gX11_fits_X11_isClaim : GoodIn wsX11_fits (wsV RX11 353 RX11 yX11_isClaim wsX11_isClaim) := goodIn_app (goodIn_of _ (by decide +kernel)) ggX11_fits_X11_isClaim
set_option maxRecDepth 20000 in
theorem ggX11_fits_X11_fitsOf : GoodIn wsX11_fits wsX11_fitsOf := goodIn_r _ [13, 14, 15, 16, 17, 18, 19, 20, 4, 21, 22, 23, 24, 25, 26, 27, 28, 29, 30, 31, 32, 33, 34, 35, 36, 37, 38, 39, 40, 41, 42, 43, 44, 45, 46, 47, 48, 49, 50, 51, 52, 53, 54, 55, 56, 57, 58, 59, 60, 61, 62, 63, 64, 65, 66, 67, 68, 69, 70, 71, 72, 73, 74, 75, 76, 77, 78, 79, 80, 81, 82, 83] (by decide +kernel) (by decide +kernel)
set_option maxRecDepth 20000 in
theorem gX11_fits_X11_fitsOf : GoodIn wsX11_fits (wsV RX11 356 RX11 yX11_fitsOf wsX11_fitsOf) := goodIn_app (goodIn_of _ (by decide +kernel)) ggX11_fits_X11_fitsOf
theorem dX11_fits_0 : decode cX11_fits 0 = .ok (.aload_n 0, 1) := by decide +kernel
theorem dX11_fits_1 : decode cX11_fits 1 = .ok (.iload_n 1, 1) := by decide +kernel
theorem dX11_fits_2 : decode cX11_fits 2 = .ok (.invokevirtual 353, 3) := by decide +kernel
theorem dX11_fits_5 : decode cX11_fits 5 = .ok (.ifCond .eq 11, 3) := by decide +kernel
theorem dX11_fits_8 : decode cX11_fits 8 = .ok (.aload_n 0, 1) := by decide +kernel
theorem dX11_fits_9 : decode cX11_fits 9 = .ok (.iload_n 1, 1) := by decide +kernel
theorem dX11_fits_10 : decode cX11_fits 10 = .ok (.invokevirtual 356, 3) := by decide +kernel
theorem dX11_fits_13 : decode cX11_fits 13 = .ok (.goto 6, 3) := by decide +kernel
theorem dX11_fits_16 : decode cX11_fits 16 = .ok (.sipush (-1001), 3) := by decide +kernel
theorem dX11_fits_19 : decode cX11_fits 19 = .ok (.ireturn, 1) := by decide +kernel
set_option maxRecDepth 20000 in
theorem ggX11_waysWith_X11_fitsOf : GoodIn wsX11_waysWith wsX11_fitsOf := goodIn_r _ [8, 9, 10, 11, 12, 13, 14, 15, 7, 16, 17, 18, 19, 20, 21, 22, 23, 24, 25, 26, 27, 28, 29, 30, 31, 32, 33, 34, 35, 36, 37, 38, 39, 40, 41, 42, 43, 44, 45, 46, 47, 48, 49, 50, 51, 52, 53, 54, 55, 56, 57, 58, 59, 60, 61, 62, 63, 64, 65, 66, 67, 68, 69, 70, 71, 72, 73, 74, 75, 76, 77, 78] (by decide +kernel) (by decide +kernel)
set_option maxRecDepth 20000 in
theorem gX11_waysWith_X11_fitsOf : GoodIn wsX11_waysWith (wsV RX11 356 RX11 yX11_fitsOf wsX11_fitsOf) := goodIn_app (goodIn_of _ (by decide +kernel)) ggX11_waysWith_X11_fitsOf
theorem dX11_waysWith_0 : decode cX11_waysWith 0 = .ok (.iconst 1, 1) := by decide +kernel
theorem dX11_waysWith_1 : decode cX11_waysWith 1 = .ok (.aload_n 0, 1) := by decide +kernel
theorem dX11_waysWith_2 : decode cX11_waysWith 2 = .ok (.getfield 238, 3) := by decide +kernel
theorem dX11_waysWith_5 : decode cX11_waysWith 5 = .ok (.ishl, 1) := by decide +kernel
theorem dX11_waysWith_6 : decode cX11_waysWith 6 = .ok (.iconst 1, 1) := by decide +kernel
theorem dX11_waysWith_7 : decode cX11_waysWith 7 = .ok (.isub, 1) := by decide +kernel
theorem dX11_waysWith_8 : decode cX11_waysWith 8 = .ok (.istore_n 3, 1) := by decide +kernel
theorem dX11_waysWith_9 : decode cX11_waysWith 9 = .ok (.iconst 0, 1) := by decide +kernel
theorem dX11_waysWith_10 : decode cX11_waysWith 10 = .ok (.istore 4, 2) := by decide +kernel
theorem dX11_waysWith_12 : decode cX11_waysWith 12 = .ok (.iload 4, 2) := by decide +kernel
theorem dX11_waysWith_14 : decode cX11_waysWith 14 = .ok (.iload_n 3, 1) := by decide +kernel
theorem dX11_waysWith_15 : decode cX11_waysWith 15 = .ok (.if_icmp .gt 26, 3) := by decide +kernel
theorem dX11_waysWith_18 : decode cX11_waysWith 18 = .ok (.aload_n 0, 1) := by decide +kernel
theorem dX11_waysWith_19 : decode cX11_waysWith 19 = .ok (.getfield 108, 3) := by decide +kernel
theorem dX11_waysWith_22 : decode cX11_waysWith 22 = .ok (.iload 4, 2) := by decide +kernel
theorem dX11_waysWith_24 : decode cX11_waysWith 24 = .ok (.iload 4, 2) := by decide +kernel
theorem dX11_waysWith_26 : decode cX11_waysWith 26 = .ok (.ifCond .ne 7, 3) := by decide +kernel
theorem dX11_waysWith_29 : decode cX11_waysWith 29 = .ok (.lconst 1, 1) := by decide +kernel
theorem dX11_waysWith_30 : decode cX11_waysWith 30 = .ok (.goto 4, 3) := by decide +kernel
theorem dX11_waysWith_33 : decode cX11_waysWith 33 = .ok (.lconst 0, 1) := by decide +kernel
theorem dX11_waysWith_34 : decode cX11_waysWith 34 = .ok (.lastore, 1) := by decide +kernel
theorem dX11_waysWith_35 : decode cX11_waysWith 35 = .ok (.iinc 4 1, 3) := by decide +kernel
theorem dX11_waysWith_38 : decode cX11_waysWith 38 = .ok (.goto (-26), 3) := by decide +kernel
theorem dX11_waysWith_41 : decode cX11_waysWith 41 = .ok (.iconst 0, 1) := by decide +kernel
theorem dX11_waysWith_42 : decode cX11_waysWith 42 = .ok (.istore 4, 2) := by decide +kernel
theorem dX11_waysWith_44 : decode cX11_waysWith 44 = .ok (.iload 4, 2) := by decide +kernel
theorem dX11_waysWith_46 : decode cX11_waysWith 46 = .ok (.aload_n 0, 1) := by decide +kernel
theorem dX11_waysWith_47 : decode cX11_waysWith 47 = .ok (.getfield 227, 3) := by decide +kernel
theorem dX11_waysWith_50 : decode cX11_waysWith 50 = .ok (.if_icmp .ge 146, 3) := by decide +kernel
theorem dX11_waysWith_53 : decode cX11_waysWith 53 = .ok (.iload_n 3, 1) := by decide +kernel
theorem dX11_waysWith_54 : decode cX11_waysWith 54 = .ok (.istore 5, 2) := by decide +kernel
theorem dX11_waysWith_56 : decode cX11_waysWith 56 = .ok (.iload 5, 2) := by decide +kernel
theorem dX11_waysWith_58 : decode cX11_waysWith 58 = .ok (.ifCond .lt 132, 3) := by decide +kernel
theorem dX11_waysWith_61 : decode cX11_waysWith 61 = .ok (.iconst 0, 1) := by decide +kernel
theorem dX11_waysWith_62 : decode cX11_waysWith 62 = .ok (.istore 6, 2) := by decide +kernel
theorem dX11_waysWith_64 : decode cX11_waysWith 64 = .ok (.iload 6, 2) := by decide +kernel
theorem dX11_waysWith_66 : decode cX11_waysWith 66 = .ok (.aload_n 0, 1) := by decide +kernel
theorem dX11_waysWith_67 : decode cX11_waysWith 67 = .ok (.getfield 238, 3) := by decide +kernel
theorem dX11_waysWith_70 : decode cX11_waysWith 70 = .ok (.if_icmp .ge 114, 3) := by decide +kernel
theorem dX11_waysWith_73 : decode cX11_waysWith 73 = .ok (.iload 5, 2) := by decide +kernel
theorem dX11_waysWith_75 : decode cX11_waysWith 75 = .ok (.iload 6, 2) := by decide +kernel
theorem dX11_waysWith_77 : decode cX11_waysWith 77 = .ok (.ishr, 1) := by decide +kernel
theorem dX11_waysWith_78 : decode cX11_waysWith 78 = .ok (.iconst 1, 1) := by decide +kernel
theorem dX11_waysWith_79 : decode cX11_waysWith 79 = .ok (.iand, 1) := by decide +kernel
theorem dX11_waysWith_80 : decode cX11_waysWith 80 = .ok (.iconst 1, 1) := by decide +kernel
theorem dX11_waysWith_81 : decode cX11_waysWith 81 = .ok (.if_icmp .ne 22, 3) := by decide +kernel
theorem dX11_waysWith_84 : decode cX11_waysWith 84 = .ok (.aload_n 0, 1) := by decide +kernel
theorem dX11_waysWith_85 : decode cX11_waysWith 85 = .ok (.iload 6, 2) := by decide +kernel
theorem dX11_waysWith_87 : decode cX11_waysWith 87 = .ok (.invokevirtual 356, 3) := by decide +kernel
theorem dX11_waysWith_90 : decode cX11_waysWith 90 = .ok (.iload 4, 2) := by decide +kernel
theorem dX11_waysWith_92 : decode cX11_waysWith 92 = .ok (.ishr, 1) := by decide +kernel
theorem dX11_waysWith_93 : decode cX11_waysWith 93 = .ok (.iconst 1, 1) := by decide +kernel
theorem dX11_waysWith_94 : decode cX11_waysWith 94 = .ok (.iand, 1) := by decide +kernel
theorem dX11_waysWith_95 : decode cX11_waysWith 95 = .ok (.iconst 1, 1) := by decide +kernel
theorem dX11_waysWith_96 : decode cX11_waysWith 96 = .ok (.if_icmp .ne 7, 3) := by decide +kernel
theorem dX11_waysWith_99 : decode cX11_waysWith 99 = .ok (.iconst 1, 1) := by decide +kernel
theorem dX11_waysWith_100 : decode cX11_waysWith 100 = .ok (.goto 4, 3) := by decide +kernel
theorem dX11_waysWith_103 : decode cX11_waysWith 103 = .ok (.iconst 0, 1) := by decide +kernel
theorem dX11_waysWith_104 : decode cX11_waysWith 104 = .ok (.istore 7, 2) := by decide +kernel
theorem dX11_waysWith_106 : decode cX11_waysWith 106 = .ok (.iload 7, 2) := by decide +kernel
theorem dX11_waysWith_108 : decode cX11_waysWith 108 = .ok (.ifCond .eq 36, 3) := by decide +kernel
theorem dX11_waysWith_111 : decode cX11_waysWith 111 = .ok (.iload_n 1, 1) := by decide +kernel
theorem dX11_waysWith_112 : decode cX11_waysWith 112 = .ok (.ifCond .lt 28, 3) := by decide +kernel
theorem dX11_waysWith_115 : decode cX11_waysWith 115 = .ok (.iload 6, 2) := by decide +kernel
theorem dX11_waysWith_117 : decode cX11_waysWith 117 = .ok (.iload_n 1, 1) := by decide +kernel
theorem dX11_waysWith_118 : decode cX11_waysWith 118 = .ok (.if_icmp .ne 7, 3) := by decide +kernel
theorem dX11_waysWith_121 : decode cX11_waysWith 121 = .ok (.iconst 1, 1) := by decide +kernel
theorem dX11_waysWith_122 : decode cX11_waysWith 122 = .ok (.goto 4, 3) := by decide +kernel
theorem dX11_waysWith_125 : decode cX11_waysWith 125 = .ok (.iconst 0, 1) := by decide +kernel
theorem dX11_waysWith_126 : decode cX11_waysWith 126 = .ok (.iload 4, 2) := by decide +kernel
theorem dX11_waysWith_128 : decode cX11_waysWith 128 = .ok (.iload_n 2, 1) := by decide +kernel
theorem dX11_waysWith_129 : decode cX11_waysWith 129 = .ok (.if_icmp .ne 7, 3) := by decide +kernel
theorem dX11_waysWith_132 : decode cX11_waysWith 132 = .ok (.iconst 1, 1) := by decide +kernel
theorem dX11_waysWith_133 : decode cX11_waysWith 133 = .ok (.goto 4, 3) := by decide +kernel
theorem dX11_waysWith_136 : decode cX11_waysWith 136 = .ok (.iconst 0, 1) := by decide +kernel
theorem dX11_waysWith_137 : decode cX11_waysWith 137 = .ok (.if_icmp .ne 7, 3) := by decide +kernel
theorem dX11_waysWith_140 : decode cX11_waysWith 140 = .ok (.iconst 1, 1) := by decide +kernel
theorem dX11_waysWith_141 : decode cX11_waysWith 141 = .ok (.goto 4, 3) := by decide +kernel
theorem dX11_waysWith_144 : decode cX11_waysWith 144 = .ok (.iconst 0, 1) := by decide +kernel
theorem dX11_waysWith_145 : decode cX11_waysWith 145 = .ok (.istore 7, 2) := by decide +kernel
theorem dX11_waysWith_147 : decode cX11_waysWith 147 = .ok (.aload_n 0, 1) := by decide +kernel
theorem dX11_waysWith_148 : decode cX11_waysWith 148 = .ok (.getfield 108, 3) := by decide +kernel
theorem dX11_waysWith_151 : decode cX11_waysWith 151 = .ok (.iload 5, 2) := by decide +kernel
theorem dX11_waysWith_153 : decode cX11_waysWith 153 = .ok (.dup2, 1) := by decide +kernel
theorem dX11_waysWith_154 : decode cX11_waysWith 154 = .ok (.laload, 1) := by decide +kernel
theorem dX11_waysWith_155 : decode cX11_waysWith 155 = .ok (.iload 7, 2) := by decide +kernel
theorem dX11_waysWith_157 : decode cX11_waysWith 157 = .ok (.ifCond .eq 18, 3) := by decide +kernel
theorem dX11_waysWith_160 : decode cX11_waysWith 160 = .ok (.aload_n 0, 1) := by decide +kernel
theorem dX11_waysWith_161 : decode cX11_waysWith 161 = .ok (.getfield 108, 3) := by decide +kernel
theorem dX11_waysWith_164 : decode cX11_waysWith 164 = .ok (.iload 5, 2) := by decide +kernel
theorem dX11_waysWith_166 : decode cX11_waysWith 166 = .ok (.iconst 1, 1) := by decide +kernel
theorem dX11_waysWith_167 : decode cX11_waysWith 167 = .ok (.iload 6, 2) := by decide +kernel
theorem dX11_waysWith_169 : decode cX11_waysWith 169 = .ok (.ishl, 1) := by decide +kernel
theorem dX11_waysWith_170 : decode cX11_waysWith 170 = .ok (.ixor, 1) := by decide +kernel
theorem dX11_waysWith_171 : decode cX11_waysWith 171 = .ok (.laload, 1) := by decide +kernel
theorem dX11_waysWith_172 : decode cX11_waysWith 172 = .ok (.goto 4, 3) := by decide +kernel
theorem dX11_waysWith_175 : decode cX11_waysWith 175 = .ok (.lconst 0, 1) := by decide +kernel
theorem dX11_waysWith_176 : decode cX11_waysWith 176 = .ok (.ladd, 1) := by decide +kernel
theorem dX11_waysWith_177 : decode cX11_waysWith 177 = .ok (.lastore, 1) := by decide +kernel
theorem dX11_waysWith_178 : decode cX11_waysWith 178 = .ok (.iinc 6 1, 3) := by decide +kernel
theorem dX11_waysWith_181 : decode cX11_waysWith 181 = .ok (.goto (-117), 3) := by decide +kernel
theorem dX11_waysWith_184 : decode cX11_waysWith 184 = .ok (.iinc 5 (-1), 3) := by decide +kernel
theorem dX11_waysWith_187 : decode cX11_waysWith 187 = .ok (.goto (-131), 3) := by decide +kernel
theorem dX11_waysWith_190 : decode cX11_waysWith 190 = .ok (.iinc 4 1, 3) := by decide +kernel
theorem dX11_waysWith_193 : decode cX11_waysWith 193 = .ok (.goto (-149), 3) := by decide +kernel
theorem dX11_waysWith_196 : decode cX11_waysWith 196 = .ok (.aload_n 0, 1) := by decide +kernel
theorem dX11_waysWith_197 : decode cX11_waysWith 197 = .ok (.getfield 108, 3) := by decide +kernel
theorem dX11_waysWith_200 : decode cX11_waysWith 200 = .ok (.iload_n 3, 1) := by decide +kernel
theorem dX11_waysWith_201 : decode cX11_waysWith 201 = .ok (.laload, 1) := by decide +kernel
theorem dX11_waysWith_202 : decode cX11_waysWith 202 = .ok (.lreturn, 1) := by decide +kernel
set_option maxRecDepth 20000 in
theorem ggX11_ways_X11_waysWith : GoodIn wsX11_ways wsX11_waysWith := goodIn_r _ [5, 6, 7, 8, 9, 10, 11, 4, 12, 13, 14, 15, 16, 17, 18, 19, 20, 21, 22, 23, 24, 25, 26, 27, 28, 29, 30, 31, 32, 33, 34, 35, 36, 37, 38, 39, 40, 41, 42, 43, 44, 45, 46, 47, 48, 49, 50, 51, 52, 53, 54, 55, 56, 57, 58, 59, 60, 61, 62, 63, 64, 65, 66, 67, 68, 69, 70, 71, 72, 73, 74, 75, 76, 77, 78, 79, 80, 81, 82] (by decide +kernel) (by decide +kernel)
set_option maxRecDepth 20000 in
theorem gX11_ways_X11_waysWith : GoodIn wsX11_ways (wsV RX11 359 RX11 yX11_waysWith wsX11_waysWith) := goodIn_app (goodIn_of _ (by decide +kernel)) ggX11_ways_X11_waysWith
theorem dX11_ways_0 : decode cX11_ways 0 = .ok (.aload_n 0, 1) := by decide +kernel
theorem dX11_ways_1 : decode cX11_ways 1 = .ok (.iconst (-1), 1) := by decide +kernel
theorem dX11_ways_2 : decode cX11_ways 2 = .ok (.iconst (-1), 1) := by decide +kernel
theorem dX11_ways_3 : decode cX11_ways 3 = .ok (.invokevirtual 359, 3) := by decide +kernel
theorem dX11_ways_6 : decode cX11_ways 6 = .ok (.lreturn, 1) := by decide +kernel
set_option maxRecDepth 20000 in
theorem ggX11_sureOf_X11_waysWith : GoodIn wsX11_sureOf wsX11_waysWith := goodIn_r _ [6, 7, 8, 1, 9, 10, 11, 5, 12, 13, 14, 15, 16, 17, 18, 19, 20, 21, 22, 23, 24, 25, 26, 27, 28, 29, 30, 31, 32, 33, 34, 35, 36, 37, 38, 39, 40, 41, 42, 43, 44, 45, 46, 47, 48, 49, 50, 51, 52, 53, 54, 55, 56, 57, 58, 59, 60, 61, 62, 63, 64, 65, 66, 67, 68, 69, 70, 71, 72, 73, 74, 75, 76, 77, 78, 79, 80, 81, 82] (by decide +kernel) (by decide +kernel)
set_option maxRecDepth 20000 in
theorem gX11_sureOf_X11_waysWith : GoodIn wsX11_sureOf (wsV RX11 359 RX11 yX11_waysWith wsX11_waysWith) := goodIn_app (goodIn_of _ (by decide +kernel)) ggX11_sureOf_X11_waysWith
set_option maxRecDepth 20000 in
theorem ggX11_sureOf_X11_fitsOf : GoodIn wsX11_sureOf wsX11_fitsOf := goodIn_r _ [12, 13, 14, 15, 16, 17, 18, 19, 5, 20, 21, 22, 23, 24, 25, 26, 27, 28, 29, 30, 31, 32, 33, 34, 35, 36, 37, 38, 39, 40, 41, 42, 43, 44, 45, 46, 47, 48, 49, 50, 51, 52, 53, 54, 55, 56, 57, 58, 59, 60, 61, 62, 63, 64, 65, 66, 67, 68, 69, 70, 71, 72, 73, 74, 75, 76, 77, 78, 79, 80, 81, 82] (by decide +kernel) (by decide +kernel)
set_option maxRecDepth 20000 in
theorem gX11_sureOf_X11_fitsOf : GoodIn wsX11_sureOf (wsV RX11 356 RX11 yX11_fitsOf wsX11_fitsOf) := goodIn_app (goodIn_of _ (by decide +kernel)) ggX11_sureOf_X11_fitsOf
theorem dX11_sureOf_0 : decode cX11_sureOf 0 = .ok (.aload_n 0, 1) := by decide +kernel
theorem dX11_sureOf_1 : decode cX11_sureOf 1 = .ok (.iconst (-1), 1) := by decide +kernel
theorem dX11_sureOf_2 : decode cX11_sureOf 2 = .ok (.iconst (-1), 1) := by decide +kernel
theorem dX11_sureOf_3 : decode cX11_sureOf 3 = .ok (.invokevirtual 359, 3) := by decide +kernel
theorem dX11_sureOf_6 : decode cX11_sureOf 6 = .ok (.lstore_n 2, 1) := by decide +kernel
theorem dX11_sureOf_7 : decode cX11_sureOf 7 = .ok (.iconst (-1), 1) := by decide +kernel
theorem dX11_sureOf_8 : decode cX11_sureOf 8 = .ok (.istore 4, 2) := by decide +kernel
theorem dX11_sureOf_10 : decode cX11_sureOf 10 = .ok (.iconst 0, 1) := by decide +kernel
theorem dX11_sureOf_11 : decode cX11_sureOf 11 = .ok (.istore 5, 2) := by decide +kernel
theorem dX11_sureOf_13 : decode cX11_sureOf 13 = .ok (.iload 5, 2) := by decide +kernel
theorem dX11_sureOf_15 : decode cX11_sureOf 15 = .ok (.aload_n 0, 1) := by decide +kernel
theorem dX11_sureOf_16 : decode cX11_sureOf 16 = .ok (.getfield 227, 3) := by decide +kernel
theorem dX11_sureOf_19 : decode cX11_sureOf 19 = .ok (.if_icmp .ge 62, 3) := by decide +kernel
theorem dX11_sureOf_22 : decode cX11_sureOf 22 = .ok (.lload_n 2, 1) := by decide +kernel
theorem dX11_sureOf_23 : decode cX11_sureOf 23 = .ok (.lconst 0, 1) := by decide +kernel
theorem dX11_sureOf_24 : decode cX11_sureOf 24 = .ok (.lcmp, 1) := by decide +kernel
theorem dX11_sureOf_25 : decode cX11_sureOf 25 = .ok (.ifCond .le 56, 3) := by decide +kernel
theorem dX11_sureOf_28 : decode cX11_sureOf 28 = .ok (.aload_n 0, 1) := by decide +kernel
theorem dX11_sureOf_29 : decode cX11_sureOf 29 = .ok (.iload_n 1, 1) := by decide +kernel
theorem dX11_sureOf_30 : decode cX11_sureOf 30 = .ok (.invokevirtual 356, 3) := by decide +kernel
theorem dX11_sureOf_33 : decode cX11_sureOf 33 = .ok (.iload 5, 2) := by decide +kernel
theorem dX11_sureOf_35 : decode cX11_sureOf 35 = .ok (.ishr, 1) := by decide +kernel
theorem dX11_sureOf_36 : decode cX11_sureOf 36 = .ok (.iconst 1, 1) := by decide +kernel
theorem dX11_sureOf_37 : decode cX11_sureOf 37 = .ok (.iand, 1) := by decide +kernel
theorem dX11_sureOf_38 : decode cX11_sureOf 38 = .ok (.iconst 1, 1) := by decide +kernel
theorem dX11_sureOf_39 : decode cX11_sureOf 39 = .ok (.if_icmp .ne 19, 3) := by decide +kernel
theorem dX11_sureOf_42 : decode cX11_sureOf 42 = .ok (.aload_n 0, 1) := by decide +kernel
theorem dX11_sureOf_43 : decode cX11_sureOf 43 = .ok (.iload_n 1, 1) := by decide +kernel
theorem dX11_sureOf_44 : decode cX11_sureOf 44 = .ok (.iload 5, 2) := by decide +kernel
theorem dX11_sureOf_46 : decode cX11_sureOf 46 = .ok (.invokevirtual 359, 3) := by decide +kernel
theorem dX11_sureOf_49 : decode cX11_sureOf 49 = .ok (.lload_n 2, 1) := by decide +kernel
theorem dX11_sureOf_50 : decode cX11_sureOf 50 = .ok (.lcmp, 1) := by decide +kernel
theorem dX11_sureOf_51 : decode cX11_sureOf 51 = .ok (.ifCond .ne 7, 3) := by decide +kernel
theorem dX11_sureOf_54 : decode cX11_sureOf 54 = .ok (.iconst 1, 1) := by decide +kernel
theorem dX11_sureOf_55 : decode cX11_sureOf 55 = .ok (.goto 4, 3) := by decide +kernel
theorem dX11_sureOf_58 : decode cX11_sureOf 58 = .ok (.iconst 0, 1) := by decide +kernel
theorem dX11_sureOf_59 : decode cX11_sureOf 59 = .ok (.istore 6, 2) := by decide +kernel
theorem dX11_sureOf_61 : decode cX11_sureOf 61 = .ok (.iload 6, 2) := by decide +kernel
theorem dX11_sureOf_63 : decode cX11_sureOf 63 = .ok (.ifCond .eq 8, 3) := by decide +kernel
theorem dX11_sureOf_66 : decode cX11_sureOf 66 = .ok (.iload 5, 2) := by decide +kernel
theorem dX11_sureOf_68 : decode cX11_sureOf 68 = .ok (.goto 5, 3) := by decide +kernel
theorem dX11_sureOf_71 : decode cX11_sureOf 71 = .ok (.iload 4, 2) := by decide +kernel
theorem dX11_sureOf_73 : decode cX11_sureOf 73 = .ok (.istore 4, 2) := by decide +kernel
theorem dX11_sureOf_75 : decode cX11_sureOf 75 = .ok (.iinc 5 1, 3) := by decide +kernel
theorem dX11_sureOf_78 : decode cX11_sureOf 78 = .ok (.goto (-65), 3) := by decide +kernel
theorem dX11_sureOf_81 : decode cX11_sureOf 81 = .ok (.iload 4, 2) := by decide +kernel
theorem dX11_sureOf_83 : decode cX11_sureOf 83 = .ok (.ireturn, 1) := by decide +kernel
set_option maxRecDepth 20000 in
theorem ggX11_sure_X11_isClaim : GoodIn wsX11_sure wsX11_isClaim := goodIn_r _ [5, 6, 7, 8, 4, 9, 36, 37, 38, 39, 40, 41, 42, 43, 44, 45, 46, 47, 48, 49, 50, 51, 52, 53, 54, 55, 56, 57, 58, 59, 60, 61, 62, 63, 64, 65, 66, 67, 68, 69, 70, 71, 72, 73, 74, 75, 76, 77, 78, 79, 80, 81, 82, 83, 84, 85, 86, 87, 88, 89, 90, 91, 92, 93] (by decide +kernel) (by decide +kernel)
set_option maxRecDepth 20000 in
theorem gX11_sure_X11_isClaim : GoodIn wsX11_sure (wsV RX11 353 RX11 yX11_isClaim wsX11_isClaim) := goodIn_app (goodIn_of _ (by decide +kernel)) ggX11_sure_X11_isClaim
set_option maxRecDepth 20000 in
theorem ggX11_sure_X11_sureOf : GoodIn wsX11_sure wsX11_sureOf := goodIn_r _ [13, 14, 15, 16, 17, 4, 18, 6, 19, 20, 21, 22, 23, 24, 25, 26, 27, 28, 29, 30, 31, 32, 33, 34, 35, 36, 37, 38, 39, 40, 41, 42, 43, 44, 45, 46, 47, 48, 49, 50, 51, 52, 53, 54, 55, 56, 57, 58, 59, 60, 61, 62, 63, 64, 65, 66, 67, 68, 69, 70, 71, 72, 73, 74, 75, 76, 77, 78, 79, 80, 81, 82, 83, 84, 85, 86, 87, 88, 89, 90, 91, 92, 93] (by decide +kernel) (by decide +kernel)
set_option maxRecDepth 20000 in
theorem gX11_sure_X11_sureOf : GoodIn wsX11_sure (wsV RX11 363 RX11 yX11_sureOf wsX11_sureOf) := goodIn_app (goodIn_of _ (by decide +kernel)) ggX11_sure_X11_sureOf
theorem dX11_sure_0 : decode cX11_sure 0 = .ok (.aload_n 0, 1) := by decide +kernel
theorem dX11_sure_1 : decode cX11_sure 1 = .ok (.iload_n 1, 1) := by decide +kernel
theorem dX11_sure_2 : decode cX11_sure 2 = .ok (.invokevirtual 353, 3) := by decide +kernel
theorem dX11_sure_5 : decode cX11_sure 5 = .ok (.ifCond .eq 11, 3) := by decide +kernel
theorem dX11_sure_8 : decode cX11_sure 8 = .ok (.aload_n 0, 1) := by decide +kernel
theorem dX11_sure_9 : decode cX11_sure 9 = .ok (.iload_n 1, 1) := by decide +kernel
theorem dX11_sure_10 : decode cX11_sure 10 = .ok (.invokevirtual 363, 3) := by decide +kernel
theorem dX11_sure_13 : decode cX11_sure 13 = .ok (.goto 6, 3) := by decide +kernel
theorem dX11_sure_16 : decode cX11_sure 16 = .ok (.sipush (-1001), 3) := by decide +kernel
theorem dX11_sure_19 : decode cX11_sure 19 = .ok (.ireturn, 1) := by decide +kernel
set_option maxRecDepth 20000 in
theorem ggX11_grant_X11_isClaim : GoodIn wsX11_grant wsX11_isClaim := goodIn_r _ [11, 4, 12, 13, 10, 14, 41, 42, 43, 44, 45, 46, 47, 48, 49, 50, 51, 52, 53, 54, 55, 56, 57, 58, 59, 60, 61, 62, 63, 64, 65, 66, 67, 68, 69, 70, 71, 72, 73, 74, 75, 76, 77, 78, 79, 80, 81, 82, 83, 84, 85, 86, 87, 88, 89, 90, 91, 92, 93, 94, 95, 96, 97, 98] (by decide +kernel) (by decide +kernel)
set_option maxRecDepth 20000 in
theorem gX11_grant_X11_isClaim : GoodIn wsX11_grant (wsV RX11 353 RX11 yX11_isClaim wsX11_isClaim) := goodIn_app (goodIn_of _ (by decide +kernel)) ggX11_grant_X11_isClaim
set_option maxRecDepth 20000 in
theorem ggX11_grant_X11_sureOf : GoodIn wsX11_grant wsX11_sureOf := goodIn_r _ [18, 19, 20, 21, 22, 10, 23, 4, 24, 25, 26, 27, 28, 29, 2, 5, 6, 30, 31, 32, 33, 34, 3, 35, 36, 41, 42, 43, 44, 45, 46, 47, 48, 49, 50, 51, 52, 53, 54, 55, 56, 57, 58, 59, 60, 61, 62, 63, 64, 65, 66, 67, 68, 69, 70, 71, 72, 73, 74, 75, 76, 77, 78, 79, 80, 81, 82, 83, 84, 85, 86, 87, 88, 89, 90, 91, 92, 93, 94, 95, 96, 97, 98] (by decide +kernel) (by decide +kernel)
set_option maxRecDepth 20000 in
theorem gX11_grant_X11_sureOf : GoodIn wsX11_grant (wsV RX11 363 RX11 yX11_sureOf wsX11_sureOf) := goodIn_app (goodIn_of _ (by decide +kernel)) ggX11_grant_X11_sureOf
set_option maxRecDepth 20000 in
theorem ggX11_grant_X11_pegOf : GoodIn wsX11_grant wsX11_pegOf := goodIn_r _ [40, 34, 3, 41, 42, 43, 44, 45, 46, 47, 48, 49, 50, 51, 52, 53, 54, 55, 56, 57, 58, 59, 60, 61, 62, 63, 64, 65, 66, 67, 68, 69, 70, 71, 72, 73, 74, 75, 76, 77, 78, 79, 80, 81, 82, 83, 84, 85, 86, 87, 88, 89, 90, 91, 92, 93, 94, 95, 96, 97, 98] (by decide +kernel) (by decide +kernel)
set_option maxRecDepth 20000 in
theorem gX11_grant_X11_pegOf : GoodIn wsX11_grant (wsV RX11 258 RX11 yX11_pegOf wsX11_pegOf) := goodIn_app (goodIn_of _ (by decide +kernel)) ggX11_grant_X11_pegOf
theorem dX11_grant_0 : decode cX11_grant 0 = .ok (.aload_n 0, 1) := by decide +kernel
theorem dX11_grant_1 : decode cX11_grant 1 = .ok (.iload_n 1, 1) := by decide +kernel
theorem dX11_grant_2 : decode cX11_grant 2 = .ok (.invokevirtual 353, 3) := by decide +kernel
theorem dX11_grant_5 : decode cX11_grant 5 = .ok (.ifCond .ne 7, 3) := by decide +kernel
theorem dX11_grant_8 : decode cX11_grant 8 = .ok (.sipush (-1001), 3) := by decide +kernel
theorem dX11_grant_11 : decode cX11_grant 11 = .ok (.ireturn, 1) := by decide +kernel
theorem dX11_grant_12 : decode cX11_grant 12 = .ok (.aload_n 0, 1) := by decide +kernel
theorem dX11_grant_13 : decode cX11_grant 13 = .ok (.iload_n 1, 1) := by decide +kernel
theorem dX11_grant_14 : decode cX11_grant 14 = .ok (.invokevirtual 363, 3) := by decide +kernel
theorem dX11_grant_17 : decode cX11_grant 17 = .ok (.istore_n 2, 1) := by decide +kernel
theorem dX11_grant_18 : decode cX11_grant 18 = .ok (.iload_n 2, 1) := by decide +kernel
theorem dX11_grant_19 : decode cX11_grant 19 = .ok (.ifCond .ge 7, 3) := by decide +kernel
theorem dX11_grant_22 : decode cX11_grant 22 = .ok (.sipush (-1003), 3) := by decide +kernel
theorem dX11_grant_25 : decode cX11_grant 25 = .ok (.ireturn, 1) := by decide +kernel
theorem dX11_grant_26 : decode cX11_grant 26 = .ok (.aload_n 0, 1) := by decide +kernel
theorem dX11_grant_27 : decode cX11_grant 27 = .ok (.getfield 59, 3) := by decide +kernel
theorem dX11_grant_30 : decode cX11_grant 30 = .ok (.aload_n 0, 1) := by decide +kernel
theorem dX11_grant_31 : decode cX11_grant 31 = .ok (.getfield 99, 3) := by decide +kernel
theorem dX11_grant_34 : decode cX11_grant 34 = .ok (.iload_n 1, 1) := by decide +kernel
theorem dX11_grant_35 : decode cX11_grant 35 = .ok (.iaload, 1) := by decide +kernel
theorem dX11_grant_36 : decode cX11_grant 36 = .ok (.iload_n 2, 1) := by decide +kernel
theorem dX11_grant_37 : decode cX11_grant 37 = .ok (.iastore, 1) := by decide +kernel
theorem dX11_grant_38 : decode cX11_grant 38 = .ok (.aload_n 0, 1) := by decide +kernel
theorem dX11_grant_39 : decode cX11_grant 39 = .ok (.getfield 41, 3) := by decide +kernel
theorem dX11_grant_42 : decode cX11_grant 42 = .ok (.aload_n 0, 1) := by decide +kernel
theorem dX11_grant_43 : decode cX11_grant 43 = .ok (.iload_n 2, 1) := by decide +kernel
theorem dX11_grant_44 : decode cX11_grant 44 = .ok (.invokevirtual 258, 3) := by decide +kernel
theorem dX11_grant_47 : decode cX11_grant 47 = .ok (.iconst (-1), 1) := by decide +kernel
theorem dX11_grant_48 : decode cX11_grant 48 = .ok (.iastore, 1) := by decide +kernel
theorem dX11_grant_49 : decode cX11_grant 49 = .ok (.iload_n 1, 1) := by decide +kernel
theorem dX11_grant_50 : decode cX11_grant 50 = .ok (.istore_n 3, 1) := by decide +kernel
theorem dX11_grant_51 : decode cX11_grant 51 = .ok (.iload_n 3, 1) := by decide +kernel
theorem dX11_grant_52 : decode cX11_grant 52 = .ok (.iconst 1, 1) := by decide +kernel
theorem dX11_grant_53 : decode cX11_grant 53 = .ok (.iadd, 1) := by decide +kernel
theorem dX11_grant_54 : decode cX11_grant 54 = .ok (.aload_n 0, 1) := by decide +kernel
theorem dX11_grant_55 : decode cX11_grant 55 = .ok (.getfield 238, 3) := by decide +kernel
theorem dX11_grant_58 : decode cX11_grant 58 = .ok (.if_icmp .ge 51, 3) := by decide +kernel
theorem dX11_grant_61 : decode cX11_grant 61 = .ok (.aload_n 0, 1) := by decide +kernel
theorem dX11_grant_62 : decode cX11_grant 62 = .ok (.getfield 99, 3) := by decide +kernel
theorem dX11_grant_65 : decode cX11_grant 65 = .ok (.iload_n 3, 1) := by decide +kernel
theorem dX11_grant_66 : decode cX11_grant 66 = .ok (.aload_n 0, 1) := by decide +kernel
theorem dX11_grant_67 : decode cX11_grant 67 = .ok (.getfield 99, 3) := by decide +kernel
theorem dX11_grant_70 : decode cX11_grant 70 = .ok (.iload_n 3, 1) := by decide +kernel
theorem dX11_grant_71 : decode cX11_grant 71 = .ok (.iconst 1, 1) := by decide +kernel
theorem dX11_grant_72 : decode cX11_grant 72 = .ok (.iadd, 1) := by decide +kernel
theorem dX11_grant_73 : decode cX11_grant 73 = .ok (.iaload, 1) := by decide +kernel
theorem dX11_grant_74 : decode cX11_grant 74 = .ok (.iastore, 1) := by decide +kernel
theorem dX11_grant_75 : decode cX11_grant 75 = .ok (.aload_n 0, 1) := by decide +kernel
theorem dX11_grant_76 : decode cX11_grant 76 = .ok (.getfield 102, 3) := by decide +kernel
theorem dX11_grant_79 : decode cX11_grant 79 = .ok (.iload_n 3, 1) := by decide +kernel
theorem dX11_grant_80 : decode cX11_grant 80 = .ok (.aload_n 0, 1) := by decide +kernel
theorem dX11_grant_81 : decode cX11_grant 81 = .ok (.getfield 102, 3) := by decide +kernel
theorem dX11_grant_84 : decode cX11_grant 84 = .ok (.iload_n 3, 1) := by decide +kernel
theorem dX11_grant_85 : decode cX11_grant 85 = .ok (.iconst 1, 1) := by decide +kernel
theorem dX11_grant_86 : decode cX11_grant 86 = .ok (.iadd, 1) := by decide +kernel
theorem dX11_grant_87 : decode cX11_grant 87 = .ok (.iaload, 1) := by decide +kernel
theorem dX11_grant_88 : decode cX11_grant 88 = .ok (.iastore, 1) := by decide +kernel
theorem dX11_grant_89 : decode cX11_grant 89 = .ok (.aload_n 0, 1) := by decide +kernel
theorem dX11_grant_90 : decode cX11_grant 90 = .ok (.getfield 105, 3) := by decide +kernel
theorem dX11_grant_93 : decode cX11_grant 93 = .ok (.iload_n 3, 1) := by decide +kernel
theorem dX11_grant_94 : decode cX11_grant 94 = .ok (.aload_n 0, 1) := by decide +kernel
theorem dX11_grant_95 : decode cX11_grant 95 = .ok (.getfield 105, 3) := by decide +kernel
theorem dX11_grant_98 : decode cX11_grant 98 = .ok (.iload_n 3, 1) := by decide +kernel
theorem dX11_grant_99 : decode cX11_grant 99 = .ok (.iconst 1, 1) := by decide +kernel
theorem dX11_grant_100 : decode cX11_grant 100 = .ok (.iadd, 1) := by decide +kernel
theorem dX11_grant_101 : decode cX11_grant 101 = .ok (.iaload, 1) := by decide +kernel
theorem dX11_grant_102 : decode cX11_grant 102 = .ok (.iastore, 1) := by decide +kernel
theorem dX11_grant_103 : decode cX11_grant 103 = .ok (.iinc 3 1, 3) := by decide +kernel
theorem dX11_grant_106 : decode cX11_grant 106 = .ok (.goto (-55), 3) := by decide +kernel
theorem dX11_grant_109 : decode cX11_grant 109 = .ok (.aload_n 0, 1) := by decide +kernel
theorem dX11_grant_110 : decode cX11_grant 110 = .ok (.dup, 1) := by decide +kernel
theorem dX11_grant_111 : decode cX11_grant 111 = .ok (.getfield 238, 3) := by decide +kernel
theorem dX11_grant_114 : decode cX11_grant 114 = .ok (.iconst 1, 1) := by decide +kernel
theorem dX11_grant_115 : decode cX11_grant 115 = .ok (.isub, 1) := by decide +kernel
theorem dX11_grant_116 : decode cX11_grant 116 = .ok (.putfield 238, 3) := by decide +kernel
theorem dX11_grant_119 : decode cX11_grant 119 = .ok (.iload_n 2, 1) := by decide +kernel
theorem dX11_grant_120 : decode cX11_grant 120 = .ok (.ireturn, 1) := by decide +kernel
set_option maxRecDepth 20000 in
theorem ggX11_apart_X11_isGuest : GoodIn wsX11_apart wsX11_isGuest := goodIn_r _ [6, 7, 8, 9, 5, 10, 11, 12, 13, 14, 15, 16, 17, 18, 19, 20, 21, 22, 23, 24, 25, 26, 27, 28, 29, 30, 31, 32, 33, 34, 35, 36, 37, 38, 39, 40, 41, 42, 43, 44, 45, 46, 47, 48, 49, 50, 51, 52, 53, 54, 55, 56, 57, 58, 59, 60, 61, 62, 63, 64, 65, 66, 67, 68] (by decide +kernel) (by decide +kernel)
set_option maxRecDepth 20000 in
theorem gX11_apart_X11_isGuest : GoodIn wsX11_apart (wsV RX11 255 RX11 yX11_isGuest wsX11_isGuest) := goodIn_app (goodIn_of _ (by decide +kernel)) ggX11_apart_X11_isGuest
theorem dX11_apart_0 : decode cX11_apart 0 = .ok (.aload_n 0, 1) := by decide +kernel
theorem dX11_apart_1 : decode cX11_apart 1 = .ok (.iload_n 1, 1) := by decide +kernel
theorem dX11_apart_2 : decode cX11_apart 2 = .ok (.invokevirtual 255, 3) := by decide +kernel
theorem dX11_apart_5 : decode cX11_apart 5 = .ok (.ifCond .eq 27, 3) := by decide +kernel
theorem dX11_apart_8 : decode cX11_apart 8 = .ok (.aload_n 0, 1) := by decide +kernel
theorem dX11_apart_9 : decode cX11_apart 9 = .ok (.iload_n 2, 1) := by decide +kernel
theorem dX11_apart_10 : decode cX11_apart 10 = .ok (.invokevirtual 255, 3) := by decide +kernel
theorem dX11_apart_13 : decode cX11_apart 13 = .ok (.ifCond .eq 19, 3) := by decide +kernel
theorem dX11_apart_16 : decode cX11_apart 16 = .ok (.aload_n 0, 1) := by decide +kernel
theorem dX11_apart_17 : decode cX11_apart 17 = .ok (.getfield 53, 3) := by decide +kernel
theorem dX11_apart_20 : decode cX11_apart 20 = .ok (.iload_n 1, 1) := by decide +kernel
theorem dX11_apart_21 : decode cX11_apart 21 = .ok (.iaload, 1) := by decide +kernel
theorem dX11_apart_22 : decode cX11_apart 22 = .ok (.aload_n 0, 1) := by decide +kernel
theorem dX11_apart_23 : decode cX11_apart 23 = .ok (.getfield 53, 3) := by decide +kernel
theorem dX11_apart_26 : decode cX11_apart 26 = .ok (.iload_n 2, 1) := by decide +kernel
theorem dX11_apart_27 : decode cX11_apart 27 = .ok (.iaload, 1) := by decide +kernel
theorem dX11_apart_28 : decode cX11_apart 28 = .ok (.ixor, 1) := by decide +kernel
theorem dX11_apart_29 : decode cX11_apart 29 = .ok (.goto 6, 3) := by decide +kernel
theorem dX11_apart_32 : decode cX11_apart 32 = .ok (.sipush (-1001), 3) := by decide +kernel
theorem dX11_apart_35 : decode cX11_apart 35 = .ok (.ireturn, 1) := by decide +kernel
set_option maxRecDepth 20000 in
theorem ggX11_asks_X11_isClaim : GoodIn wsX11_asks wsX11_isClaim := goodIn_r _ [10, 11, 12, 13, 9, 14, 25, 26, 27, 28, 29, 30, 31, 32, 33, 34, 35, 36, 37, 38, 39, 40, 41, 42, 43, 44, 45, 46, 47, 48, 49, 50, 51, 52, 53, 54, 55, 56, 57, 58, 59, 60, 61, 62, 63, 64, 65, 66, 67, 68, 69, 70, 71, 72, 73, 74, 75, 76, 77, 78, 79, 80, 81, 82] (by decide +kernel) (by decide +kernel)
set_option maxRecDepth 20000 in
theorem gX11_asks_X11_isClaim : GoodIn wsX11_asks (wsV RX11 353 RX11 yX11_isClaim wsX11_isClaim) := goodIn_app (goodIn_of _ (by decide +kernel)) ggX11_asks_X11_isClaim
set_option maxRecDepth 20000 in
theorem ggX11_asks_X11_fitting : GoodIn wsX11_asks wsX11_fitting := goodIn_r _ [18, 19, 20, 21, 4, 25, 26, 27, 28, 29, 30, 31, 32, 33, 34, 35, 36, 37, 38, 39, 40, 41, 42, 43, 44, 45, 46, 47, 48, 49, 50, 51, 52, 53, 54, 55, 56, 57, 58, 59, 60, 61, 62, 63, 64, 65, 66, 67, 68, 69, 70, 71, 72, 73, 74, 75, 76, 77, 78, 79, 80, 81, 82] (by decide +kernel) (by decide +kernel)
set_option maxRecDepth 20000 in
theorem gX11_asks_X11_fitting : GoodIn wsX11_asks (wsV RX11 350 RX11 yX11_fitting wsX11_fitting) := goodIn_app (goodIn_of _ (by decide +kernel)) ggX11_asks_X11_fitting
set_option maxRecDepth 20000 in
theorem ggX11_asks_X11_bits : GoodIn wsX11_asks wsX11_bits := goodIn_r _ [24] (by decide +kernel) (by decide +kernel)
set_option maxRecDepth 20000 in
theorem gX11_asks_X11_bits : GoodIn wsX11_asks (va_wsS RX11 341 yX11_bits wsX11_bits) := goodIn_app (goodIn_of _ (by decide +kernel)) ggX11_asks_X11_bits
theorem dX11_asks_0 : decode cX11_asks 0 = .ok (.aload_n 0, 1) := by decide +kernel
theorem dX11_asks_1 : decode cX11_asks 1 = .ok (.iload_n 1, 1) := by decide +kernel
theorem dX11_asks_2 : decode cX11_asks 2 = .ok (.invokevirtual 353, 3) := by decide +kernel
theorem dX11_asks_5 : decode cX11_asks 5 = .ok (.ifCond .ne 7, 3) := by decide +kernel
theorem dX11_asks_8 : decode cX11_asks 8 = .ok (.sipush (-1001), 3) := by decide +kernel
theorem dX11_asks_11 : decode cX11_asks 11 = .ok (.ireturn, 1) := by decide +kernel
theorem dX11_asks_12 : decode cX11_asks 12 = .ok (.aload_n 0, 1) := by decide +kernel
theorem dX11_asks_13 : decode cX11_asks 13 = .ok (.getfield 99, 3) := by decide +kernel
theorem dX11_asks_16 : decode cX11_asks 16 = .ok (.iload_n 1, 1) := by decide +kernel
theorem dX11_asks_17 : decode cX11_asks 17 = .ok (.iaload, 1) := by decide +kernel
theorem dX11_asks_18 : decode cX11_asks 18 = .ok (.istore_n 2, 1) := by decide +kernel
theorem dX11_asks_19 : decode cX11_asks 19 = .ok (.iconst (-1), 1) := by decide +kernel
theorem dX11_asks_20 : decode cX11_asks 20 = .ok (.istore_n 3, 1) := by decide +kernel
theorem dX11_asks_21 : decode cX11_asks 21 = .ok (.iconst 0, 1) := by decide +kernel
theorem dX11_asks_22 : decode cX11_asks 22 = .ok (.istore 4, 2) := by decide +kernel
theorem dX11_asks_24 : decode cX11_asks 24 = .ok (.iload 4, 2) := by decide +kernel
theorem dX11_asks_26 : decode cX11_asks 26 = .ok (.sipush 256, 3) := by decide +kernel
theorem dX11_asks_29 : decode cX11_asks 29 = .ok (.if_icmp .ge 87, 3) := by decide +kernel
theorem dX11_asks_32 : decode cX11_asks 32 = .ok (.aload_n 0, 1) := by decide +kernel
theorem dX11_asks_33 : decode cX11_asks 33 = .ok (.aload_n 0, 1) := by decide +kernel
theorem dX11_asks_34 : decode cX11_asks 34 = .ok (.getfield 47, 3) := by decide +kernel
theorem dX11_asks_37 : decode cX11_asks 37 = .ok (.iload_n 2, 1) := by decide +kernel
theorem dX11_asks_38 : decode cX11_asks 38 = .ok (.iaload, 1) := by decide +kernel
theorem dX11_asks_39 : decode cX11_asks 39 = .ok (.aload_n 0, 1) := by decide +kernel
theorem dX11_asks_40 : decode cX11_asks 40 = .ok (.getfield 102, 3) := by decide +kernel
theorem dX11_asks_43 : decode cX11_asks 43 = .ok (.iload_n 1, 1) := by decide +kernel
theorem dX11_asks_44 : decode cX11_asks 44 = .ok (.iaload, 1) := by decide +kernel
theorem dX11_asks_45 : decode cX11_asks 45 = .ok (.aload_n 0, 1) := by decide +kernel
theorem dX11_asks_46 : decode cX11_asks 46 = .ok (.getfield 53, 3) := by decide +kernel
theorem dX11_asks_49 : decode cX11_asks 49 = .ok (.iload_n 2, 1) := by decide +kernel
theorem dX11_asks_50 : decode cX11_asks 50 = .ok (.iaload, 1) := by decide +kernel
theorem dX11_asks_51 : decode cX11_asks 51 = .ok (.iload 4, 2) := by decide +kernel
theorem dX11_asks_53 : decode cX11_asks 53 = .ok (.iand, 1) := by decide +kernel
theorem dX11_asks_54 : decode cX11_asks 54 = .ok (.ior, 1) := by decide +kernel
theorem dX11_asks_55 : decode cX11_asks 55 = .ok (.aload_n 0, 1) := by decide +kernel
theorem dX11_asks_56 : decode cX11_asks 56 = .ok (.getfield 105, 3) := by decide +kernel
theorem dX11_asks_59 : decode cX11_asks 59 = .ok (.iload_n 1, 1) := by decide +kernel
theorem dX11_asks_60 : decode cX11_asks 60 = .ok (.iaload, 1) := by decide +kernel
theorem dX11_asks_61 : decode cX11_asks 61 = .ok (.aload_n 0, 1) := by decide +kernel
theorem dX11_asks_62 : decode cX11_asks 62 = .ok (.getfield 53, 3) := by decide +kernel
theorem dX11_asks_65 : decode cX11_asks 65 = .ok (.iload_n 2, 1) := by decide +kernel
theorem dX11_asks_66 : decode cX11_asks 66 = .ok (.iaload, 1) := by decide +kernel
theorem dX11_asks_67 : decode cX11_asks 67 = .ok (.iconst (-1), 1) := by decide +kernel
theorem dX11_asks_68 : decode cX11_asks 68 = .ok (.ixor, 1) := by decide +kernel
theorem dX11_asks_69 : decode cX11_asks 69 = .ok (.iload 4, 2) := by decide +kernel
theorem dX11_asks_71 : decode cX11_asks 71 = .ok (.iand, 1) := by decide +kernel
theorem dX11_asks_72 : decode cX11_asks 72 = .ok (.ior, 1) := by decide +kernel
theorem dX11_asks_73 : decode cX11_asks 73 = .ok (.invokevirtual 350, 3) := by decide +kernel
theorem dX11_asks_76 : decode cX11_asks 76 = .ok (.istore 5, 2) := by decide +kernel
theorem dX11_asks_78 : decode cX11_asks 78 = .ok (.iload 5, 2) := by decide +kernel
theorem dX11_asks_80 : decode cX11_asks 80 = .ok (.invokestatic 341, 3) := by decide +kernel
theorem dX11_asks_83 : decode cX11_asks 83 = .ok (.iconst 1, 1) := by decide +kernel
theorem dX11_asks_84 : decode cX11_asks 84 = .ok (.if_icmp .ne 24, 3) := by decide +kernel
theorem dX11_asks_87 : decode cX11_asks 87 = .ok (.iload_n 3, 1) := by decide +kernel
theorem dX11_asks_88 : decode cX11_asks 88 = .ok (.ifCond .lt 15, 3) := by decide +kernel
theorem dX11_asks_91 : decode cX11_asks 91 = .ok (.iload 4, 2) := by decide +kernel
theorem dX11_asks_93 : decode cX11_asks 93 = .ok (.invokestatic 341, 3) := by decide +kernel
theorem dX11_asks_96 : decode cX11_asks 96 = .ok (.iload_n 3, 1) := by decide +kernel
theorem dX11_asks_97 : decode cX11_asks 97 = .ok (.invokestatic 341, 3) := by decide +kernel
theorem dX11_asks_100 : decode cX11_asks 100 = .ok (.if_icmp .ge 8, 3) := by decide +kernel
theorem dX11_asks_103 : decode cX11_asks 103 = .ok (.iload 4, 2) := by decide +kernel
theorem dX11_asks_105 : decode cX11_asks 105 = .ok (.goto 4, 3) := by decide +kernel
theorem dX11_asks_108 : decode cX11_asks 108 = .ok (.iload_n 3, 1) := by decide +kernel
theorem dX11_asks_109 : decode cX11_asks 109 = .ok (.istore_n 3, 1) := by decide +kernel
theorem dX11_asks_110 : decode cX11_asks 110 = .ok (.iinc 4 1, 3) := by decide +kernel
theorem dX11_asks_113 : decode cX11_asks 113 = .ok (.goto (-89), 3) := by decide +kernel
theorem dX11_asks_116 : decode cX11_asks 116 = .ok (.iload_n 3, 1) := by decide +kernel
theorem dX11_asks_117 : decode cX11_asks 117 = .ok (.ireturn, 1) := by decide +kernel
theorem dX11_note_0 : decode cX11_note 0 = .ok (.aload_n 0, 1) := by decide +kernel
theorem dX11_note_1 : decode cX11_note 1 = .ok (.getfield 112, 3) := by decide +kernel
theorem dX11_note_4 : decode cX11_note 4 = .ok (.aload_n 0, 1) := by decide +kernel
theorem dX11_note_5 : decode cX11_note 5 = .ok (.getfield 366, 3) := by decide +kernel
theorem dX11_note_8 : decode cX11_note 8 = .ok (.iload_n 1, 1) := by decide +kernel
theorem dX11_note_9 : decode cX11_note 9 = .ok (.iastore, 1) := by decide +kernel
theorem dX11_note_10 : decode cX11_note 10 = .ok (.aload_n 0, 1) := by decide +kernel
theorem dX11_note_11 : decode cX11_note 11 = .ok (.dup, 1) := by decide +kernel
theorem dX11_note_12 : decode cX11_note 12 = .ok (.getfield 366, 3) := by decide +kernel
theorem dX11_note_15 : decode cX11_note 15 = .ok (.iconst 1, 1) := by decide +kernel
theorem dX11_note_16 : decode cX11_note 16 = .ok (.iadd, 1) := by decide +kernel
theorem dX11_note_17 : decode cX11_note 17 = .ok (.putfield 366, 3) := by decide +kernel
theorem dX11_note_20 : decode cX11_note 20 = .ok (.return_, 1) := by decide +kernel
theorem dX11_noted_0 : decode cX11_noted 0 = .ok (.aload_n 0, 1) := by decide +kernel
theorem dX11_noted_1 : decode cX11_noted 1 = .ok (.dup, 1) := by decide +kernel
theorem dX11_noted_2 : decode cX11_noted 2 = .ok (.getfield 366, 3) := by decide +kernel
theorem dX11_noted_5 : decode cX11_noted 5 = .ok (.iconst 1, 1) := by decide +kernel
theorem dX11_noted_6 : decode cX11_noted 6 = .ok (.iadd, 1) := by decide +kernel
theorem dX11_noted_7 : decode cX11_noted 7 = .ok (.putfield 366, 3) := by decide +kernel
theorem dX11_noted_10 : decode cX11_noted 10 = .ok (.aload_n 0, 1) := by decide +kernel
theorem dX11_noted_11 : decode cX11_noted 11 = .ok (.getfield 112, 3) := by decide +kernel
theorem dX11_noted_14 : decode cX11_noted 14 = .ok (.aload_n 0, 1) := by decide +kernel
theorem dX11_noted_15 : decode cX11_noted 15 = .ok (.getfield 366, 3) := by decide +kernel
theorem dX11_noted_18 : decode cX11_noted 18 = .ok (.iconst 1, 1) := by decide +kernel
theorem dX11_noted_19 : decode cX11_noted 19 = .ok (.isub, 1) := by decide +kernel
theorem dX11_noted_20 : decode cX11_noted 20 = .ok (.iaload, 1) := by decide +kernel
theorem dX11_noted_21 : decode cX11_noted 21 = .ok (.ireturn, 1) := by decide +kernel
set_option maxRecDepth 20000 in
theorem ggX11_keep_X11_in : GoodIn wsX11_keep wsX11_in := goodIn_r _ [26] (by decide +kernel) (by decide +kernel)
set_option maxRecDepth 20000 in
theorem gX11_keep_X11_in : GoodIn wsX11_keep (va_wsS RX11 126 yX11_in wsX11_in) := goodIn_app (goodIn_of _ (by decide +kernel)) ggX11_keep_X11_in
set_option maxRecDepth 20000 in
theorem ggX11_keep_X11_note : GoodIn wsX11_keep wsX11_note := goodIn_r _ [30, 31, 1, 32, 33, 34, 35, 36, 37, 38, 39, 40, 41, 42, 43, 44, 45, 46, 47, 48, 49, 50, 51, 52, 53, 54, 55, 56, 57, 58, 59, 60, 61, 62, 63, 64, 65, 66, 67, 68, 69, 70, 71, 72, 73, 74, 75, 76, 77, 78, 79, 80, 81, 82, 83, 84, 85, 86, 87, 88, 89] (by decide +kernel) (by decide +kernel)
set_option maxRecDepth 20000 in
theorem gX11_keep_X11_note : GoodIn wsX11_keep (wsV RX11 369 RX11 yX11_note wsX11_note) := goodIn_app (goodIn_of _ (by decide +kernel)) ggX11_keep_X11_note
theorem dX11_keep_0 : decode cX11_keep 0 = .ok (.iload_n 1, 1) := by decide +kernel
theorem dX11_keep_1 : decode cX11_keep 1 = .ok (.i2l, 1) := by decide +kernel
theorem dX11_keep_2 : decode cX11_keep 2 = .ok (.lconst 0, 1) := by decide +kernel
theorem dX11_keep_3 : decode cX11_keep 3 = .ok (.lconst 1, 1) := by decide +kernel
theorem dX11_keep_4 : decode cX11_keep 4 = .ok (.invokestatic 126, 3) := by decide +kernel
theorem dX11_keep_7 : decode cX11_keep 7 = .ok (.ifCond .ne 7, 3) := by decide +kernel
theorem dX11_keep_10 : decode cX11_keep 10 = .ok (.sipush (-1001), 3) := by decide +kernel
theorem dX11_keep_13 : decode cX11_keep 13 = .ok (.ireturn, 1) := by decide +kernel
theorem dX11_keep_14 : decode cX11_keep 14 = .ok (.aload_n 0, 1) := by decide +kernel
theorem dX11_keep_15 : decode cX11_keep 15 = .ok (.sipush 900, 3) := by decide +kernel
theorem dX11_keep_18 : decode cX11_keep 18 = .ok (.iload_n 1, 1) := by decide +kernel
theorem dX11_keep_19 : decode cX11_keep 19 = .ok (.imul, 1) := by decide +kernel
theorem dX11_keep_20 : decode cX11_keep 20 = .ok (.putfield 366, 3) := by decide +kernel
theorem dX11_keep_23 : decode cX11_keep 23 = .ok (.aload_n 0, 1) := by decide +kernel
theorem dX11_keep_24 : decode cX11_keep 24 = .ok (.aload_n 0, 1) := by decide +kernel
theorem dX11_keep_25 : decode cX11_keep 25 = .ok (.getfield 224, 3) := by decide +kernel
theorem dX11_keep_28 : decode cX11_keep 28 = .ok (.invokevirtual 369, 3) := by decide +kernel
theorem dX11_keep_31 : decode cX11_keep 31 = .ok (.aload_n 0, 1) := by decide +kernel
theorem dX11_keep_32 : decode cX11_keep 32 = .ok (.aload_n 0, 1) := by decide +kernel
theorem dX11_keep_33 : decode cX11_keep 33 = .ok (.getfield 227, 3) := by decide +kernel
theorem dX11_keep_36 : decode cX11_keep 36 = .ok (.invokevirtual 369, 3) := by decide +kernel
theorem dX11_keep_39 : decode cX11_keep 39 = .ok (.aload_n 0, 1) := by decide +kernel
theorem dX11_keep_40 : decode cX11_keep 40 = .ok (.aload_n 0, 1) := by decide +kernel
theorem dX11_keep_41 : decode cX11_keep 41 = .ok (.getfield 215, 3) := by decide +kernel
theorem dX11_keep_44 : decode cX11_keep 44 = .ok (.invokevirtual 369, 3) := by decide +kernel
theorem dX11_keep_47 : decode cX11_keep 47 = .ok (.aload_n 0, 1) := by decide +kernel
theorem dX11_keep_48 : decode cX11_keep 48 = .ok (.aload_n 0, 1) := by decide +kernel
theorem dX11_keep_49 : decode cX11_keep 49 = .ok (.getfield 238, 3) := by decide +kernel
theorem dX11_keep_52 : decode cX11_keep 52 = .ok (.invokevirtual 369, 3) := by decide +kernel
theorem dX11_keep_55 : decode cX11_keep 55 = .ok (.aload_n 0, 1) := by decide +kernel
theorem dX11_keep_56 : decode cX11_keep 56 = .ok (.aload_n 0, 1) := by decide +kernel
theorem dX11_keep_57 : decode cX11_keep 57 = .ok (.getfield 241, 3) := by decide +kernel
theorem dX11_keep_60 : decode cX11_keep 60 = .ok (.invokevirtual 369, 3) := by decide +kernel
theorem dX11_keep_63 : decode cX11_keep 63 = .ok (.iconst 0, 1) := by decide +kernel
theorem dX11_keep_64 : decode cX11_keep 64 = .ok (.istore_n 2, 1) := by decide +kernel
theorem dX11_keep_65 : decode cX11_keep 65 = .ok (.iload_n 2, 1) := by decide +kernel
theorem dX11_keep_66 : decode cX11_keep 66 = .ok (.bipush 16, 2) := by decide +kernel
theorem dX11_keep_68 : decode cX11_keep 68 = .ok (.if_icmp .ge 79, 3) := by decide +kernel
theorem dX11_keep_71 : decode cX11_keep 71 = .ok (.aload_n 0, 1) := by decide +kernel
theorem dX11_keep_72 : decode cX11_keep 72 = .ok (.aload_n 0, 1) := by decide +kernel
theorem dX11_keep_73 : decode cX11_keep 73 = .ok (.getfield 44, 3) := by decide +kernel
theorem dX11_keep_76 : decode cX11_keep 76 = .ok (.iload_n 2, 1) := by decide +kernel
theorem dX11_keep_77 : decode cX11_keep 77 = .ok (.iaload, 1) := by decide +kernel
theorem dX11_keep_78 : decode cX11_keep 78 = .ok (.invokevirtual 369, 3) := by decide +kernel
theorem dX11_keep_81 : decode cX11_keep 81 = .ok (.aload_n 0, 1) := by decide +kernel
theorem dX11_keep_82 : decode cX11_keep 82 = .ok (.aload_n 0, 1) := by decide +kernel
theorem dX11_keep_83 : decode cX11_keep 83 = .ok (.getfield 47, 3) := by decide +kernel
theorem dX11_keep_86 : decode cX11_keep 86 = .ok (.iload_n 2, 1) := by decide +kernel
theorem dX11_keep_87 : decode cX11_keep 87 = .ok (.iaload, 1) := by decide +kernel
theorem dX11_keep_88 : decode cX11_keep 88 = .ok (.invokevirtual 369, 3) := by decide +kernel
theorem dX11_keep_91 : decode cX11_keep 91 = .ok (.aload_n 0, 1) := by decide +kernel
theorem dX11_keep_92 : decode cX11_keep 92 = .ok (.aload_n 0, 1) := by decide +kernel
theorem dX11_keep_93 : decode cX11_keep 93 = .ok (.getfield 50, 3) := by decide +kernel
theorem dX11_keep_96 : decode cX11_keep 96 = .ok (.iload_n 2, 1) := by decide +kernel
theorem dX11_keep_97 : decode cX11_keep 97 = .ok (.iaload, 1) := by decide +kernel
theorem dX11_keep_98 : decode cX11_keep 98 = .ok (.invokevirtual 369, 3) := by decide +kernel
theorem dX11_keep_101 : decode cX11_keep 101 = .ok (.aload_n 0, 1) := by decide +kernel
theorem dX11_keep_102 : decode cX11_keep 102 = .ok (.aload_n 0, 1) := by decide +kernel
theorem dX11_keep_103 : decode cX11_keep 103 = .ok (.getfield 53, 3) := by decide +kernel
theorem dX11_keep_106 : decode cX11_keep 106 = .ok (.iload_n 2, 1) := by decide +kernel
theorem dX11_keep_107 : decode cX11_keep 107 = .ok (.iaload, 1) := by decide +kernel
theorem dX11_keep_108 : decode cX11_keep 108 = .ok (.invokevirtual 369, 3) := by decide +kernel
theorem dX11_keep_111 : decode cX11_keep 111 = .ok (.aload_n 0, 1) := by decide +kernel
theorem dX11_keep_112 : decode cX11_keep 112 = .ok (.aload_n 0, 1) := by decide +kernel
theorem dX11_keep_113 : decode cX11_keep 113 = .ok (.getfield 56, 3) := by decide +kernel
theorem dX11_keep_116 : decode cX11_keep 116 = .ok (.iload_n 2, 1) := by decide +kernel
theorem dX11_keep_117 : decode cX11_keep 117 = .ok (.iaload, 1) := by decide +kernel
theorem dX11_keep_118 : decode cX11_keep 118 = .ok (.invokevirtual 369, 3) := by decide +kernel
theorem dX11_keep_121 : decode cX11_keep 121 = .ok (.aload_n 0, 1) := by decide +kernel
theorem dX11_keep_122 : decode cX11_keep 122 = .ok (.aload_n 0, 1) := by decide +kernel
theorem dX11_keep_123 : decode cX11_keep 123 = .ok (.getfield 59, 3) := by decide +kernel
theorem dX11_keep_126 : decode cX11_keep 126 = .ok (.iload_n 2, 1) := by decide +kernel
theorem dX11_keep_127 : decode cX11_keep 127 = .ok (.iaload, 1) := by decide +kernel
theorem dX11_keep_128 : decode cX11_keep 128 = .ok (.invokevirtual 369, 3) := by decide +kernel
theorem dX11_keep_131 : decode cX11_keep 131 = .ok (.aload_n 0, 1) := by decide +kernel
theorem dX11_keep_132 : decode cX11_keep 132 = .ok (.aload_n 0, 1) := by decide +kernel
theorem dX11_keep_133 : decode cX11_keep 133 = .ok (.getfield 62, 3) := by decide +kernel
theorem dX11_keep_136 : decode cX11_keep 136 = .ok (.iload_n 2, 1) := by decide +kernel
theorem dX11_keep_137 : decode cX11_keep 137 = .ok (.iaload, 1) := by decide +kernel
theorem dX11_keep_138 : decode cX11_keep 138 = .ok (.invokevirtual 369, 3) := by decide +kernel
theorem dX11_keep_141 : decode cX11_keep 141 = .ok (.iinc 2 1, 3) := by decide +kernel
theorem dX11_keep_144 : decode cX11_keep 144 = .ok (.goto (-79), 3) := by decide +kernel
theorem dX11_keep_147 : decode cX11_keep 147 = .ok (.iconst 0, 1) := by decide +kernel
theorem dX11_keep_148 : decode cX11_keep 148 = .ok (.istore_n 2, 1) := by decide +kernel
theorem dX11_keep_149 : decode cX11_keep 149 = .ok (.iload_n 2, 1) := by decide +kernel
theorem dX11_keep_150 : decode cX11_keep 150 = .ok (.bipush 24, 2) := by decide +kernel
theorem dX11_keep_152 : decode cX11_keep 152 = .ok (.if_icmp .ge 19, 3) := by decide +kernel
theorem dX11_keep_155 : decode cX11_keep 155 = .ok (.aload_n 0, 1) := by decide +kernel
theorem dX11_keep_156 : decode cX11_keep 156 = .ok (.aload_n 0, 1) := by decide +kernel
