theorem dX0_init_0 : decode cX0_init 0 = .ok (.aload_n 0, 1) := by decide +kernel
theorem dX0_init_1 : decode cX0_init 1 = .ok (.invokespecial 3, 3) := by decide +kernel
theorem dX0_init_4 : decode cX0_init 4 = .ok (.aload_n 0, 1) := by decide +kernel
theorem dX0_init_5 : decode cX0_init 5 = .ok (.bipush 64, 2) := by decide +kernel
theorem dX0_init_7 : decode cX0_init 7 = .ok (.newarray .int, 2) := by decide +kernel
theorem dX0_init_9 : decode cX0_init 9 = .ok (.putfield 11, 3) := by decide +kernel
theorem dX0_init_12 : decode cX0_init 12 = .ok (.aload_n 0, 1) := by decide +kernel
theorem dX0_init_13 : decode cX0_init 13 = .ok (.bipush 16, 2) := by decide +kernel
theorem dX0_init_15 : decode cX0_init 15 = .ok (.newarray .int, 2) := by decide +kernel
theorem dX0_init_17 : decode cX0_init 17 = .ok (.putfield 15, 3) := by decide +kernel
theorem dX0_init_20 : decode cX0_init 20 = .ok (.return_, 1) := by decide +kernel
theorem dX0_begin_0 : decode cX0_begin 0 = .ok (.getstatic 18, 3) := by decide +kernel
theorem dX0_begin_3 : decode cX0_begin 3 = .ok (.iconst 0, 1) := by decide +kernel
theorem dX0_begin_4 : decode cX0_begin 4 = .ok (.aload_n 1, 1) := by decide +kernel
theorem dX0_begin_5 : decode cX0_begin 5 = .ok (.iconst 0, 1) := by decide +kernel
theorem dX0_begin_6 : decode cX0_begin 6 = .ok (.bipush 8, 2) := by decide +kernel
theorem dX0_begin_8 : decode cX0_begin 8 = .ok (.invokestatic 21, 3) := by decide +kernel
theorem dX0_begin_11 : decode cX0_begin 11 = .ok (.return_, 1) := by decide +kernel
set_option maxRecDepth 20000 in
theorem ggX0_take_X0_spread : GoodIn wsX0_take wsX0_spread := goodIn_r _ [7, 2, 8, 9, 10, 11, 12, 13] rfl (by decide +kernel)
set_option maxRecDepth 20000 in
theorem gX0_take_X0_spread : GoodIn wsX0_take (wsV RX0 27 RX0 yX0_spread wsX0_spread) := goodIn_app (goodIn_of _ (by decide +kernel)) ggX0_take_X0_spread
theorem dX0_take_0 : decode cX0_take 0 = .ok (.aload_n 0, 1) := by decide +kernel
theorem dX0_take_1 : decode cX0_take 1 = .ok (.aload_n 2, 1) := by decide +kernel
theorem dX0_take_2 : decode cX0_take 2 = .ok (.invokevirtual 27, 3) := by decide +kernel
theorem dX0_take_5 : decode cX0_take 5 = .ok (.aload_n 1, 1) := by decide +kernel
theorem dX0_take_6 : decode cX0_take 6 = .ok (.iconst 0, 1) := by decide +kernel
theorem dX0_take_7 : decode cX0_take 7 = .ok (.iaload, 1) := by decide +kernel
theorem dX0_take_8 : decode cX0_take 8 = .ok (.istore_n 3, 1) := by decide +kernel
theorem dX0_take_9 : decode cX0_take 9 = .ok (.aload_n 1, 1) := by decide +kernel
theorem dX0_take_10 : decode cX0_take 10 = .ok (.iconst 1, 1) := by decide +kernel
theorem dX0_take_11 : decode cX0_take 11 = .ok (.iaload, 1) := by decide +kernel
theorem dX0_take_12 : decode cX0_take 12 = .ok (.istore 4, 2) := by decide +kernel
theorem dX0_take_14 : decode cX0_take 14 = .ok (.aload_n 1, 1) := by decide +kernel
theorem dX0_take_15 : decode cX0_take 15 = .ok (.iconst 2, 1) := by decide +kernel
theorem dX0_take_16 : decode cX0_take 16 = .ok (.iaload, 1) := by decide +kernel
theorem dX0_take_17 : decode cX0_take 17 = .ok (.istore 5, 2) := by decide +kernel
theorem dX0_take_19 : decode cX0_take 19 = .ok (.aload_n 1, 1) := by decide +kernel
theorem dX0_take_20 : decode cX0_take 20 = .ok (.iconst 3, 1) := by decide +kernel
theorem dX0_take_21 : decode cX0_take 21 = .ok (.iaload, 1) := by decide +kernel
theorem dX0_take_22 : decode cX0_take 22 = .ok (.istore 6, 2) := by decide +kernel
theorem dX0_take_24 : decode cX0_take 24 = .ok (.aload_n 1, 1) := by decide +kernel
theorem dX0_take_25 : decode cX0_take 25 = .ok (.iconst 4, 1) := by decide +kernel
theorem dX0_take_26 : decode cX0_take 26 = .ok (.iaload, 1) := by decide +kernel
theorem dX0_take_27 : decode cX0_take 27 = .ok (.istore 7, 2) := by decide +kernel
theorem dX0_take_29 : decode cX0_take 29 = .ok (.aload_n 1, 1) := by decide +kernel
theorem dX0_take_30 : decode cX0_take 30 = .ok (.iconst 5, 1) := by decide +kernel
theorem dX0_take_31 : decode cX0_take 31 = .ok (.iaload, 1) := by decide +kernel
theorem dX0_take_32 : decode cX0_take 32 = .ok (.istore 8, 2) := by decide +kernel
theorem dX0_take_34 : decode cX0_take 34 = .ok (.aload_n 1, 1) := by decide +kernel
theorem dX0_take_35 : decode cX0_take 35 = .ok (.bipush 6, 2) := by decide +kernel
theorem dX0_take_37 : decode cX0_take 37 = .ok (.iaload, 1) := by decide +kernel
theorem dX0_take_38 : decode cX0_take 38 = .ok (.istore 9, 2) := by decide +kernel
theorem dX0_take_40 : decode cX0_take 40 = .ok (.aload_n 1, 1) := by decide +kernel
theorem dX0_take_41 : decode cX0_take 41 = .ok (.bipush 7, 2) := by decide +kernel
theorem dX0_take_43 : decode cX0_take 43 = .ok (.iaload, 1) := by decide +kernel
theorem dX0_take_44 : decode cX0_take 44 = .ok (.istore 10, 2) := by decide +kernel
theorem dX0_take_46 : decode cX0_take 46 = .ok (.iconst 0, 1) := by decide +kernel
theorem dX0_take_47 : decode cX0_take 47 = .ok (.istore 11, 2) := by decide +kernel
theorem dX0_take_49 : decode cX0_take 49 = .ok (.iload 11, 2) := by decide +kernel
theorem dX0_take_51 : decode cX0_take 51 = .ok (.bipush 64, 2) := by decide +kernel
theorem dX0_take_53 : decode cX0_take 53 = .ok (.if_icmp .ge 168, 3) := by decide +kernel
theorem dX0_take_56 : decode cX0_take 56 = .ok (.iload 7, 2) := by decide +kernel
theorem dX0_take_58 : decode cX0_take 58 = .ok (.bipush 6, 2) := by decide +kernel
theorem dX0_take_60 : decode cX0_take 60 = .ok (.iushr, 1) := by decide +kernel
theorem dX0_take_61 : decode cX0_take 61 = .ok (.iload 7, 2) := by decide +kernel
theorem dX0_take_63 : decode cX0_take 63 = .ok (.bipush 26, 2) := by decide +kernel
theorem dX0_take_65 : decode cX0_take 65 = .ok (.ishl, 1) := by decide +kernel
theorem dX0_take_66 : decode cX0_take 66 = .ok (.ior, 1) := by decide +kernel
theorem dX0_take_67 : decode cX0_take 67 = .ok (.iload 7, 2) := by decide +kernel
theorem dX0_take_69 : decode cX0_take 69 = .ok (.bipush 11, 2) := by decide +kernel
theorem dX0_take_71 : decode cX0_take 71 = .ok (.iushr, 1) := by decide +kernel
theorem dX0_take_72 : decode cX0_take 72 = .ok (.iload 7, 2) := by decide +kernel
theorem dX0_take_74 : decode cX0_take 74 = .ok (.bipush 21, 2) := by decide +kernel
theorem dX0_take_76 : decode cX0_take 76 = .ok (.ishl, 1) := by decide +kernel
theorem dX0_take_77 : decode cX0_take 77 = .ok (.ior, 1) := by decide +kernel
theorem dX0_take_78 : decode cX0_take 78 = .ok (.ixor, 1) := by decide +kernel
theorem dX0_take_79 : decode cX0_take 79 = .ok (.iload 7, 2) := by decide +kernel
theorem dX0_take_81 : decode cX0_take 81 = .ok (.bipush 25, 2) := by decide +kernel
theorem dX0_take_83 : decode cX0_take 83 = .ok (.iushr, 1) := by decide +kernel
theorem dX0_take_84 : decode cX0_take 84 = .ok (.iload 7, 2) := by decide +kernel
theorem dX0_take_86 : decode cX0_take 86 = .ok (.bipush 7, 2) := by decide +kernel
theorem dX0_take_88 : decode cX0_take 88 = .ok (.ishl, 1) := by decide +kernel
theorem dX0_take_89 : decode cX0_take 89 = .ok (.ior, 1) := by decide +kernel
theorem dX0_take_90 : decode cX0_take 90 = .ok (.ixor, 1) := by decide +kernel
theorem dX0_take_91 : decode cX0_take 91 = .ok (.istore 12, 2) := by decide +kernel
theorem dX0_take_93 : decode cX0_take 93 = .ok (.iload_n 3, 1) := by decide +kernel
theorem dX0_take_94 : decode cX0_take 94 = .ok (.iconst 2, 1) := by decide +kernel
theorem dX0_take_95 : decode cX0_take 95 = .ok (.iushr, 1) := by decide +kernel
theorem dX0_take_96 : decode cX0_take 96 = .ok (.iload_n 3, 1) := by decide +kernel
theorem dX0_take_97 : decode cX0_take 97 = .ok (.bipush 30, 2) := by decide +kernel
theorem dX0_take_99 : decode cX0_take 99 = .ok (.ishl, 1) := by decide +kernel
theorem dX0_take_100 : decode cX0_take 100 = .ok (.ior, 1) := by decide +kernel
theorem dX0_take_101 : decode cX0_take 101 = .ok (.iload_n 3, 1) := by decide +kernel
theorem dX0_take_102 : decode cX0_take 102 = .ok (.bipush 13, 2) := by decide +kernel
theorem dX0_take_104 : decode cX0_take 104 = .ok (.iushr, 1) := by decide +kernel
theorem dX0_take_105 : decode cX0_take 105 = .ok (.iload_n 3, 1) := by decide +kernel
theorem dX0_take_106 : decode cX0_take 106 = .ok (.bipush 19, 2) := by decide +kernel
theorem dX0_take_108 : decode cX0_take 108 = .ok (.ishl, 1) := by decide +kernel
theorem dX0_take_109 : decode cX0_take 109 = .ok (.ior, 1) := by decide +kernel
theorem dX0_take_110 : decode cX0_take 110 = .ok (.ixor, 1) := by decide +kernel
theorem dX0_take_111 : decode cX0_take 111 = .ok (.iload_n 3, 1) := by decide +kernel
theorem dX0_take_112 : decode cX0_take 112 = .ok (.bipush 22, 2) := by decide +kernel
theorem dX0_take_114 : decode cX0_take 114 = .ok (.iushr, 1) := by decide +kernel
theorem dX0_take_115 : decode cX0_take 115 = .ok (.iload_n 3, 1) := by decide +kernel
theorem dX0_take_116 : decode cX0_take 116 = .ok (.bipush 10, 2) := by decide +kernel
theorem dX0_take_118 : decode cX0_take 118 = .ok (.ishl, 1) := by decide +kernel
theorem dX0_take_119 : decode cX0_take 119 = .ok (.ior, 1) := by decide +kernel
theorem dX0_take_120 : decode cX0_take 120 = .ok (.ixor, 1) := by decide +kernel
theorem dX0_take_121 : decode cX0_take 121 = .ok (.istore 13, 2) := by decide +kernel
theorem dX0_take_123 : decode cX0_take 123 = .ok (.iload 10, 2) := by decide +kernel
theorem dX0_take_125 : decode cX0_take 125 = .ok (.iload 12, 2) := by decide +kernel
theorem dX0_take_127 : decode cX0_take 127 = .ok (.iadd, 1) := by decide +kernel
theorem dX0_take_128 : decode cX0_take 128 = .ok (.iload 7, 2) := by decide +kernel
theorem dX0_take_130 : decode cX0_take 130 = .ok (.iload 8, 2) := by decide +kernel
theorem dX0_take_132 : decode cX0_take 132 = .ok (.iand, 1) := by decide +kernel
theorem dX0_take_133 : decode cX0_take 133 = .ok (.iload 7, 2) := by decide +kernel
theorem dX0_take_135 : decode cX0_take 135 = .ok (.iconst (-1), 1) := by decide +kernel
theorem dX0_take_136 : decode cX0_take 136 = .ok (.ixor, 1) := by decide +kernel
theorem dX0_take_137 : decode cX0_take 137 = .ok (.iload 9, 2) := by decide +kernel
theorem dX0_take_139 : decode cX0_take 139 = .ok (.iand, 1) := by decide +kernel
theorem dX0_take_140 : decode cX0_take 140 = .ok (.ixor, 1) := by decide +kernel
theorem dX0_take_141 : decode cX0_take 141 = .ok (.iadd, 1) := by decide +kernel
theorem dX0_take_142 : decode cX0_take 142 = .ok (.getstatic 31, 3) := by decide +kernel
theorem dX0_take_145 : decode cX0_take 145 = .ok (.iload 11, 2) := by decide +kernel
theorem dX0_take_147 : decode cX0_take 147 = .ok (.iaload, 1) := by decide +kernel
theorem dX0_take_148 : decode cX0_take 148 = .ok (.iadd, 1) := by decide +kernel
theorem dX0_take_149 : decode cX0_take 149 = .ok (.aload_n 0, 1) := by decide +kernel
theorem dX0_take_150 : decode cX0_take 150 = .ok (.getfield 11, 3) := by decide +kernel
theorem dX0_take_153 : decode cX0_take 153 = .ok (.iload 11, 2) := by decide +kernel
theorem dX0_take_155 : decode cX0_take 155 = .ok (.iaload, 1) := by decide +kernel
theorem dX0_take_156 : decode cX0_take 156 = .ok (.iadd, 1) := by decide +kernel
theorem dX0_take_157 : decode cX0_take 157 = .ok (.istore 14, 2) := by decide +kernel
theorem dX0_take_159 : decode cX0_take 159 = .ok (.iload 13, 2) := by decide +kernel
theorem dX0_take_161 : decode cX0_take 161 = .ok (.iload_n 3, 1) := by decide +kernel
theorem dX0_take_162 : decode cX0_take 162 = .ok (.iload 4, 2) := by decide +kernel
theorem dX0_take_164 : decode cX0_take 164 = .ok (.iand, 1) := by decide +kernel
theorem dX0_take_165 : decode cX0_take 165 = .ok (.iload_n 3, 1) := by decide +kernel
theorem dX0_take_166 : decode cX0_take 166 = .ok (.iload 5, 2) := by decide +kernel
theorem dX0_take_168 : decode cX0_take 168 = .ok (.iand, 1) := by decide +kernel
theorem dX0_take_169 : decode cX0_take 169 = .ok (.ixor, 1) := by decide +kernel
theorem dX0_take_170 : decode cX0_take 170 = .ok (.iload 4, 2) := by decide +kernel
theorem dX0_take_172 : decode cX0_take 172 = .ok (.iload 5, 2) := by decide +kernel
theorem dX0_take_174 : decode cX0_take 174 = .ok (.iand, 1) := by decide +kernel
theorem dX0_take_175 : decode cX0_take 175 = .ok (.ixor, 1) := by decide +kernel
theorem dX0_take_176 : decode cX0_take 176 = .ok (.iadd, 1) := by decide +kernel
theorem dX0_take_177 : decode cX0_take 177 = .ok (.istore 15, 2) := by decide +kernel
theorem dX0_take_179 : decode cX0_take 179 = .ok (.iload 9, 2) := by decide +kernel
theorem dX0_take_181 : decode cX0_take 181 = .ok (.istore 10, 2) := by decide +kernel
theorem dX0_take_183 : decode cX0_take 183 = .ok (.iload 8, 2) := by decide +kernel
theorem dX0_take_185 : decode cX0_take 185 = .ok (.istore 9, 2) := by decide +kernel
theorem dX0_take_187 : decode cX0_take 187 = .ok (.iload 7, 2) := by decide +kernel
theorem dX0_take_189 : decode cX0_take 189 = .ok (.istore 8, 2) := by decide +kernel
theorem dX0_take_191 : decode cX0_take 191 = .ok (.iload 6, 2) := by decide +kernel
theorem dX0_take_193 : decode cX0_take 193 = .ok (.iload 14, 2) := by decide +kernel
theorem dX0_take_195 : decode cX0_take 195 = .ok (.iadd, 1) := by decide +kernel
theorem dX0_take_196 : decode cX0_take 196 = .ok (.istore 7, 2) := by decide +kernel
theorem dX0_take_198 : decode cX0_take 198 = .ok (.iload 5, 2) := by decide +kernel
theorem dX0_take_200 : decode cX0_take 200 = .ok (.istore 6, 2) := by decide +kernel
theorem dX0_take_202 : decode cX0_take 202 = .ok (.iload 4, 2) := by decide +kernel
theorem dX0_take_204 : decode cX0_take 204 = .ok (.istore 5, 2) := by decide +kernel
theorem dX0_take_206 : decode cX0_take 206 = .ok (.iload_n 3, 1) := by decide +kernel
theorem dX0_take_207 : decode cX0_take 207 = .ok (.istore 4, 2) := by decide +kernel
theorem dX0_take_209 : decode cX0_take 209 = .ok (.iload 14, 2) := by decide +kernel
theorem dX0_take_211 : decode cX0_take 211 = .ok (.iload 15, 2) := by decide +kernel
theorem dX0_take_213 : decode cX0_take 213 = .ok (.iadd, 1) := by decide +kernel
theorem dX0_take_214 : decode cX0_take 214 = .ok (.istore_n 3, 1) := by decide +kernel
theorem dX0_take_215 : decode cX0_take 215 = .ok (.iinc 11 1, 3) := by decide +kernel
theorem dX0_take_218 : decode cX0_take 218 = .ok (.goto (-169), 3) := by decide +kernel
theorem dX0_take_221 : decode cX0_take 221 = .ok (.aload_n 1, 1) := by decide +kernel
theorem dX0_take_222 : decode cX0_take 222 = .ok (.iconst 0, 1) := by decide +kernel
theorem dX0_take_223 : decode cX0_take 223 = .ok (.dup2, 1) := by decide +kernel
theorem dX0_take_224 : decode cX0_take 224 = .ok (.iaload, 1) := by decide +kernel
theorem dX0_take_225 : decode cX0_take 225 = .ok (.iload_n 3, 1) := by decide +kernel
theorem dX0_take_226 : decode cX0_take 226 = .ok (.iadd, 1) := by decide +kernel
theorem dX0_take_227 : decode cX0_take 227 = .ok (.iastore, 1) := by decide +kernel
theorem dX0_take_228 : decode cX0_take 228 = .ok (.aload_n 1, 1) := by decide +kernel
theorem dX0_take_229 : decode cX0_take 229 = .ok (.iconst 1, 1) := by decide +kernel
theorem dX0_take_230 : decode cX0_take 230 = .ok (.dup2, 1) := by decide +kernel
theorem dX0_take_231 : decode cX0_take 231 = .ok (.iaload, 1) := by decide +kernel
theorem dX0_take_232 : decode cX0_take 232 = .ok (.iload 4, 2) := by decide +kernel
theorem dX0_take_234 : decode cX0_take 234 = .ok (.iadd, 1) := by decide +kernel
theorem dX0_take_235 : decode cX0_take 235 = .ok (.iastore, 1) := by decide +kernel
theorem dX0_take_236 : decode cX0_take 236 = .ok (.aload_n 1, 1) := by decide +kernel
theorem dX0_take_237 : decode cX0_take 237 = .ok (.iconst 2, 1) := by decide +kernel
theorem dX0_take_238 : decode cX0_take 238 = .ok (.dup2, 1) := by decide +kernel
theorem dX0_take_239 : decode cX0_take 239 = .ok (.iaload, 1) := by decide +kernel
theorem dX0_take_240 : decode cX0_take 240 = .ok (.iload 5, 2) := by decide +kernel
theorem dX0_take_242 : decode cX0_take 242 = .ok (.iadd, 1) := by decide +kernel
theorem dX0_take_243 : decode cX0_take 243 = .ok (.iastore, 1) := by decide +kernel
theorem dX0_take_244 : decode cX0_take 244 = .ok (.aload_n 1, 1) := by decide +kernel
theorem dX0_take_245 : decode cX0_take 245 = .ok (.iconst 3, 1) := by decide +kernel
theorem dX0_take_246 : decode cX0_take 246 = .ok (.dup2, 1) := by decide +kernel
theorem dX0_take_247 : decode cX0_take 247 = .ok (.iaload, 1) := by decide +kernel
theorem dX0_take_248 : decode cX0_take 248 = .ok (.iload 6, 2) := by decide +kernel
theorem dX0_take_250 : decode cX0_take 250 = .ok (.iadd, 1) := by decide +kernel
theorem dX0_take_251 : decode cX0_take 251 = .ok (.iastore, 1) := by decide +kernel
theorem dX0_take_252 : decode cX0_take 252 = .ok (.aload_n 1, 1) := by decide +kernel
theorem dX0_take_253 : decode cX0_take 253 = .ok (.iconst 4, 1) := by decide +kernel
theorem dX0_take_254 : decode cX0_take 254 = .ok (.dup2, 1) := by decide +kernel
theorem dX0_take_255 : decode cX0_take 255 = .ok (.iaload, 1) := by decide +kernel
theorem dX0_take_256 : decode cX0_take 256 = .ok (.iload 7, 2) := by decide +kernel
theorem dX0_take_258 : decode cX0_take 258 = .ok (.iadd, 1) := by decide +kernel
theorem dX0_take_259 : decode cX0_take 259 = .ok (.iastore, 1) := by decide +kernel
theorem dX0_take_260 : decode cX0_take 260 = .ok (.aload_n 1, 1) := by decide +kernel
theorem dX0_take_261 : decode cX0_take 261 = .ok (.iconst 5, 1) := by decide +kernel
theorem dX0_take_262 : decode cX0_take 262 = .ok (.dup2, 1) := by decide +kernel
theorem dX0_take_263 : decode cX0_take 263 = .ok (.iaload, 1) := by decide +kernel
theorem dX0_take_264 : decode cX0_take 264 = .ok (.iload 8, 2) := by decide +kernel
theorem dX0_take_266 : decode cX0_take 266 = .ok (.iadd, 1) := by decide +kernel
theorem dX0_take_267 : decode cX0_take 267 = .ok (.iastore, 1) := by decide +kernel
theorem dX0_take_268 : decode cX0_take 268 = .ok (.aload_n 1, 1) := by decide +kernel
theorem dX0_take_269 : decode cX0_take 269 = .ok (.bipush 6, 2) := by decide +kernel
theorem dX0_take_271 : decode cX0_take 271 = .ok (.dup2, 1) := by decide +kernel
theorem dX0_take_272 : decode cX0_take 272 = .ok (.iaload, 1) := by decide +kernel
theorem dX0_take_273 : decode cX0_take 273 = .ok (.iload 9, 2) := by decide +kernel
theorem dX0_take_275 : decode cX0_take 275 = .ok (.iadd, 1) := by decide +kernel
theorem dX0_take_276 : decode cX0_take 276 = .ok (.iastore, 1) := by decide +kernel
theorem dX0_take_277 : decode cX0_take 277 = .ok (.aload_n 1, 1) := by decide +kernel
theorem dX0_take_278 : decode cX0_take 278 = .ok (.bipush 7, 2) := by decide +kernel
theorem dX0_take_280 : decode cX0_take 280 = .ok (.dup2, 1) := by decide +kernel
theorem dX0_take_281 : decode cX0_take 281 = .ok (.iaload, 1) := by decide +kernel
theorem dX0_take_282 : decode cX0_take 282 = .ok (.iload 10, 2) := by decide +kernel
theorem dX0_take_284 : decode cX0_take 284 = .ok (.iadd, 1) := by decide +kernel
theorem dX0_take_285 : decode cX0_take 285 = .ok (.iastore, 1) := by decide +kernel
theorem dX0_take_286 : decode cX0_take 286 = .ok (.return_, 1) := by decide +kernel
theorem dX0_endAfter_0 : decode cX0_endAfter 0 = .ok (.aload_n 0, 1) := by decide +kernel
theorem dX0_endAfter_1 : decode cX0_endAfter 1 = .ok (.getfield 15, 3) := by decide +kernel
theorem dX0_endAfter_4 : decode cX0_endAfter 4 = .ok (.iconst 0, 1) := by decide +kernel
theorem dX0_endAfter_5 : decode cX0_endAfter 5 = .ok (.ldc 34, 2) := by decide +kernel
theorem dX0_endAfter_7 : decode cX0_endAfter 7 = .ok (.iastore, 1) := by decide +kernel
theorem dX0_endAfter_8 : decode cX0_endAfter 8 = .ok (.aload_n 0, 1) := by decide +kernel
theorem dX0_endAfter_9 : decode cX0_endAfter 9 = .ok (.getfield 15, 3) := by decide +kernel
theorem dX0_endAfter_12 : decode cX0_endAfter 12 = .ok (.bipush 15, 2) := by decide +kernel
theorem dX0_endAfter_14 : decode cX0_endAfter 14 = .ok (.iload_n 1, 1) := by decide +kernel
theorem dX0_endAfter_15 : decode cX0_endAfter 15 = .ok (.sipush 512, 3) := by decide +kernel
theorem dX0_endAfter_18 : decode cX0_endAfter 18 = .ok (.imul, 1) := by decide +kernel
theorem dX0_endAfter_19 : decode cX0_endAfter 19 = .ok (.iastore, 1) := by decide +kernel
theorem dX0_endAfter_20 : decode cX0_endAfter 20 = .ok (.aload_n 0, 1) := by decide +kernel
theorem dX0_endAfter_21 : decode cX0_endAfter 21 = .ok (.getfield 15, 3) := by decide +kernel
theorem dX0_endAfter_24 : decode cX0_endAfter 24 = .ok (.areturn, 1) := by decide +kernel
theorem dX0_spread_0 : decode cX0_spread 0 = .ok (.aload_n 1, 1) := by decide +kernel
theorem dX0_spread_1 : decode cX0_spread 1 = .ok (.iconst 0, 1) := by decide +kernel
theorem dX0_spread_2 : decode cX0_spread 2 = .ok (.aload_n 0, 1) := by decide +kernel
theorem dX0_spread_3 : decode cX0_spread 3 = .ok (.getfield 11, 3) := by decide +kernel
theorem dX0_spread_6 : decode cX0_spread 6 = .ok (.iconst 0, 1) := by decide +kernel
theorem dX0_spread_7 : decode cX0_spread 7 = .ok (.bipush 16, 2) := by decide +kernel
theorem dX0_spread_9 : decode cX0_spread 9 = .ok (.invokestatic 21, 3) := by decide +kernel
theorem dX0_spread_12 : decode cX0_spread 12 = .ok (.bipush 16, 2) := by decide +kernel
theorem dX0_spread_14 : decode cX0_spread 14 = .ok (.istore_n 2, 1) := by decide +kernel
theorem dX0_spread_15 : decode cX0_spread 15 = .ok (.iload_n 2, 1) := by decide +kernel
theorem dX0_spread_16 : decode cX0_spread 16 = .ok (.bipush 64, 2) := by decide +kernel
theorem dX0_spread_18 : decode cX0_spread 18 = .ok (.if_icmp .ge 116, 3) := by decide +kernel
theorem dX0_spread_21 : decode cX0_spread 21 = .ok (.aload_n 0, 1) := by decide +kernel
theorem dX0_spread_22 : decode cX0_spread 22 = .ok (.getfield 11, 3) := by decide +kernel
theorem dX0_spread_25 : decode cX0_spread 25 = .ok (.iload_n 2, 1) := by decide +kernel
theorem dX0_spread_26 : decode cX0_spread 26 = .ok (.bipush 15, 2) := by decide +kernel
theorem dX0_spread_28 : decode cX0_spread 28 = .ok (.isub, 1) := by decide +kernel
theorem dX0_spread_29 : decode cX0_spread 29 = .ok (.iaload, 1) := by decide +kernel
theorem dX0_spread_30 : decode cX0_spread 30 = .ok (.istore_n 3, 1) := by decide +kernel
theorem dX0_spread_31 : decode cX0_spread 31 = .ok (.aload_n 0, 1) := by decide +kernel
theorem dX0_spread_32 : decode cX0_spread 32 = .ok (.getfield 11, 3) := by decide +kernel
theorem dX0_spread_35 : decode cX0_spread 35 = .ok (.iload_n 2, 1) := by decide +kernel
theorem dX0_spread_36 : decode cX0_spread 36 = .ok (.iconst 2, 1) := by decide +kernel
theorem dX0_spread_37 : decode cX0_spread 37 = .ok (.isub, 1) := by decide +kernel
theorem dX0_spread_38 : decode cX0_spread 38 = .ok (.iaload, 1) := by decide +kernel
theorem dX0_spread_39 : decode cX0_spread 39 = .ok (.istore 4, 2) := by decide +kernel
theorem dX0_spread_41 : decode cX0_spread 41 = .ok (.iload_n 3, 1) := by decide +kernel
theorem dX0_spread_42 : decode cX0_spread 42 = .ok (.bipush 7, 2) := by decide +kernel
theorem dX0_spread_44 : decode cX0_spread 44 = .ok (.iushr, 1) := by decide +kernel
theorem dX0_spread_45 : decode cX0_spread 45 = .ok (.iload_n 3, 1) := by decide +kernel
theorem dX0_spread_46 : decode cX0_spread 46 = .ok (.bipush 25, 2) := by decide +kernel
theorem dX0_spread_48 : decode cX0_spread 48 = .ok (.ishl, 1) := by decide +kernel
theorem dX0_spread_49 : decode cX0_spread 49 = .ok (.ior, 1) := by decide +kernel
theorem dX0_spread_50 : decode cX0_spread 50 = .ok (.iload_n 3, 1) := by decide +kernel
theorem dX0_spread_51 : decode cX0_spread 51 = .ok (.bipush 18, 2) := by decide +kernel
theorem dX0_spread_53 : decode cX0_spread 53 = .ok (.iushr, 1) := by decide +kernel
theorem dX0_spread_54 : decode cX0_spread 54 = .ok (.iload_n 3, 1) := by decide +kernel
theorem dX0_spread_55 : decode cX0_spread 55 = .ok (.bipush 14, 2) := by decide +kernel
theorem dX0_spread_57 : decode cX0_spread 57 = .ok (.ishl, 1) := by decide +kernel
theorem dX0_spread_58 : decode cX0_spread 58 = .ok (.ior, 1) := by decide +kernel
theorem dX0_spread_59 : decode cX0_spread 59 = .ok (.ixor, 1) := by decide +kernel
theorem dX0_spread_60 : decode cX0_spread 60 = .ok (.iload_n 3, 1) := by decide +kernel
theorem dX0_spread_61 : decode cX0_spread 61 = .ok (.iconst 3, 1) := by decide +kernel
theorem dX0_spread_62 : decode cX0_spread 62 = .ok (.iushr, 1) := by decide +kernel
theorem dX0_spread_63 : decode cX0_spread 63 = .ok (.ixor, 1) := by decide +kernel
theorem dX0_spread_64 : decode cX0_spread 64 = .ok (.istore 5, 2) := by decide +kernel
theorem dX0_spread_66 : decode cX0_spread 66 = .ok (.iload 4, 2) := by decide +kernel
theorem dX0_spread_68 : decode cX0_spread 68 = .ok (.bipush 17, 2) := by decide +kernel
theorem dX0_spread_70 : decode cX0_spread 70 = .ok (.iushr, 1) := by decide +kernel
theorem dX0_spread_71 : decode cX0_spread 71 = .ok (.iload 4, 2) := by decide +kernel
theorem dX0_spread_73 : decode cX0_spread 73 = .ok (.bipush 15, 2) := by decide +kernel
theorem dX0_spread_75 : decode cX0_spread 75 = .ok (.ishl, 1) := by decide +kernel
theorem dX0_spread_76 : decode cX0_spread 76 = .ok (.ior, 1) := by decide +kernel
theorem dX0_spread_77 : decode cX0_spread 77 = .ok (.iload 4, 2) := by decide +kernel
theorem dX0_spread_79 : decode cX0_spread 79 = .ok (.bipush 19, 2) := by decide +kernel
theorem dX0_spread_81 : decode cX0_spread 81 = .ok (.iushr, 1) := by decide +kernel
theorem dX0_spread_82 : decode cX0_spread 82 = .ok (.iload 4, 2) := by decide +kernel
theorem dX0_spread_84 : decode cX0_spread 84 = .ok (.bipush 13, 2) := by decide +kernel
theorem dX0_spread_86 : decode cX0_spread 86 = .ok (.ishl, 1) := by decide +kernel
theorem dX0_spread_87 : decode cX0_spread 87 = .ok (.ior, 1) := by decide +kernel
theorem dX0_spread_88 : decode cX0_spread 88 = .ok (.ixor, 1) := by decide +kernel
theorem dX0_spread_89 : decode cX0_spread 89 = .ok (.iload 4, 2) := by decide +kernel
theorem dX0_spread_91 : decode cX0_spread 91 = .ok (.bipush 10, 2) := by decide +kernel
theorem dX0_spread_93 : decode cX0_spread 93 = .ok (.iushr, 1) := by decide +kernel
theorem dX0_spread_94 : decode cX0_spread 94 = .ok (.ixor, 1) := by decide +kernel
theorem dX0_spread_95 : decode cX0_spread 95 = .ok (.istore 6, 2) := by decide +kernel
theorem dX0_spread_97 : decode cX0_spread 97 = .ok (.aload_n 0, 1) := by decide +kernel
theorem dX0_spread_98 : decode cX0_spread 98 = .ok (.getfield 11, 3) := by decide +kernel
theorem dX0_spread_101 : decode cX0_spread 101 = .ok (.iload_n 2, 1) := by decide +kernel
theorem dX0_spread_102 : decode cX0_spread 102 = .ok (.aload_n 0, 1) := by decide +kernel
theorem dX0_spread_103 : decode cX0_spread 103 = .ok (.getfield 11, 3) := by decide +kernel
theorem dX0_spread_106 : decode cX0_spread 106 = .ok (.iload_n 2, 1) := by decide +kernel
theorem dX0_spread_107 : decode cX0_spread 107 = .ok (.bipush 16, 2) := by decide +kernel
theorem dX0_spread_109 : decode cX0_spread 109 = .ok (.isub, 1) := by decide +kernel
theorem dX0_spread_110 : decode cX0_spread 110 = .ok (.iaload, 1) := by decide +kernel
theorem dX0_spread_111 : decode cX0_spread 111 = .ok (.iload 5, 2) := by decide +kernel
theorem dX0_spread_113 : decode cX0_spread 113 = .ok (.iadd, 1) := by decide +kernel
theorem dX0_spread_114 : decode cX0_spread 114 = .ok (.aload_n 0, 1) := by decide +kernel
theorem dX0_spread_115 : decode cX0_spread 115 = .ok (.getfield 11, 3) := by decide +kernel
theorem dX0_spread_118 : decode cX0_spread 118 = .ok (.iload_n 2, 1) := by decide +kernel
theorem dX0_spread_119 : decode cX0_spread 119 = .ok (.bipush 7, 2) := by decide +kernel
theorem dX0_spread_121 : decode cX0_spread 121 = .ok (.isub, 1) := by decide +kernel
theorem dX0_spread_122 : decode cX0_spread 122 = .ok (.iaload, 1) := by decide +kernel
theorem dX0_spread_123 : decode cX0_spread 123 = .ok (.iadd, 1) := by decide +kernel
theorem dX0_spread_124 : decode cX0_spread 124 = .ok (.iload 6, 2) := by decide +kernel
theorem dX0_spread_126 : decode cX0_spread 126 = .ok (.iadd, 1) := by decide +kernel
theorem dX0_spread_127 : decode cX0_spread 127 = .ok (.iastore, 1) := by decide +kernel
theorem dX0_spread_128 : decode cX0_spread 128 = .ok (.iinc 2 1, 3) := by decide +kernel
theorem dX0_spread_131 : decode cX0_spread 131 = .ok (.goto (-116), 3) := by decide +kernel
theorem dX0_spread_134 : decode cX0_spread 134 = .ok (.return_, 1) := by decide +kernel
set_option maxRecDepth 20000 in
theorem ggX1_init_X4_init : GoodIn wsX1_init wsX4_init := goodIn_r _ [21, 22, 2, 3, 23, 24, 25, 14, 26, 27, 28, 29, 30, 31, 32, 33, 34, 35, 36, 37, 38, 39, 40, 41, 42, 43, 58, 59, 71, 72, 73, 74, 75, 76, 77, 78, 79, 80, 81, 82] rfl (by decide +kernel)
set_option maxRecDepth 20000 in
theorem gX1_init_X4_init : GoodIn wsX1_init (wsX4_init) := ggX1_init_X4_init
set_option maxRecDepth 20000 in
theorem ggX1_init_X2_init : GoodIn wsX1_init wsX2_init := goodIn_r _ [45, 46, 2, 3, 14, 47, 48, 49, 50, 51, 52, 53, 54, 55, 56, 57, 68, 69, 70, 83, 84] rfl (by decide +kernel)
set_option maxRecDepth 20000 in
theorem gX1_init_X2_init_n20 : GoodIn wsX1_init (wsX2_init) := ggX1_init_X2_init
theorem dX1_init_0 : decode cX1_init 0 = .ok (.aload_n 0, 1) := by decide +kernel
theorem dX1_init_1 : decode cX1_init 1 = .ok (.invokespecial 3, 3) := by decide +kernel
theorem dX1_init_4 : decode cX1_init 4 = .ok (.aload_n 0, 1) := by decide +kernel
theorem dX1_init_5 : decode cX1_init 5 = .ok (.new 9, 3) := by decide +kernel
theorem dX1_init_8 : decode cX1_init 8 = .ok (.dup, 1) := by decide +kernel
theorem dX1_init_9 : decode cX1_init 9 = .ok (.invokespecial 11, 3) := by decide +kernel
theorem dX1_init_12 : decode cX1_init 12 = .ok (.putfield 12, 3) := by decide +kernel
theorem dX1_init_15 : decode cX1_init 15 = .ok (.aload_n 0, 1) := by decide +kernel
theorem dX1_init_16 : decode cX1_init 16 = .ok (.new 18, 3) := by decide +kernel
theorem dX1_init_19 : decode cX1_init 19 = .ok (.dup, 1) := by decide +kernel
theorem dX1_init_20 : decode cX1_init 20 = .ok (.invokespecial 20, 3) := by decide +kernel
theorem dX1_init_23 : decode cX1_init 23 = .ok (.putfield 21, 3) := by decide +kernel
theorem dX1_init_26 : decode cX1_init 26 = .ok (.aload_n 0, 1) := by decide +kernel
theorem dX1_init_27 : decode cX1_init 27 = .ok (.iconst 0, 1) := by decide +kernel
theorem dX1_init_28 : decode cX1_init 28 = .ok (.putfield 25, 3) := by decide +kernel
theorem dX1_init_31 : decode cX1_init 31 = .ok (.aload_n 0, 1) := by decide +kernel
theorem dX1_init_32 : decode cX1_init 32 = .ok (.iconst 0, 1) := by decide +kernel
theorem dX1_init_33 : decode cX1_init 33 = .ok (.putfield 29, 3) := by decide +kernel
theorem dX1_init_36 : decode cX1_init 36 = .ok (.aload_n 0, 1) := by decide +kernel
theorem dX1_init_37 : decode cX1_init 37 = .ok (.bipush 8, 2) := by decide +kernel
theorem dX1_init_39 : decode cX1_init 39 = .ok (.newarray .int, 2) := by decide +kernel
theorem dX1_init_41 : decode cX1_init 41 = .ok (.putfield 32, 3) := by decide +kernel
theorem dX1_init_44 : decode cX1_init 44 = .ok (.aload_n 0, 1) := by decide +kernel
theorem dX1_init_45 : decode cX1_init 45 = .ok (.bipush 8, 2) := by decide +kernel
theorem dX1_init_47 : decode cX1_init 47 = .ok (.newarray .int, 2) := by decide +kernel
theorem dX1_init_49 : decode cX1_init 49 = .ok (.putfield 36, 3) := by decide +kernel
theorem dX1_init_52 : decode cX1_init 52 = .ok (.aload_n 0, 1) := by decide +kernel
theorem dX1_init_53 : decode cX1_init 53 = .ok (.bipush 8, 2) := by decide +kernel
theorem dX1_init_55 : decode cX1_init 55 = .ok (.newarray .int, 2) := by decide +kernel
theorem dX1_init_57 : decode cX1_init 57 = .ok (.putfield 39, 3) := by decide +kernel
theorem dX1_init_60 : decode cX1_init 60 = .ok (.aload_n 0, 1) := by decide +kernel
theorem dX1_init_61 : decode cX1_init 61 = .ok (.bipush 8, 2) := by decide +kernel
theorem dX1_init_63 : decode cX1_init 63 = .ok (.newarray .int, 2) := by decide +kernel
theorem dX1_init_65 : decode cX1_init 65 = .ok (.putfield 42, 3) := by decide +kernel
theorem dX1_init_68 : decode cX1_init 68 = .ok (.return_, 1) := by decide +kernel
set_option maxRecDepth 20000 in
theorem ggX1_run_X4_rowAt : GoodIn wsX1_run wsX4_rowAt := goodIn_r _ [12, 13, 14, 15, 16, 11, 17, 18, 19, 20, 21, 22, 23, 130, 131, 132, 133, 134, 135, 136, 137, 138, 139, 140, 141, 142, 143] rfl (by decide +kernel)
set_option maxRecDepth 20000 in
theorem gX1_run_X4_rowAt : GoodIn wsX1_run (wsV RX1 57 RX4 yX4_rowAt wsX4_rowAt) := goodIn_app (goodIn_of _ (by decide +kernel)) ggX1_run_X4_rowAt
set_option maxRecDepth 20000 in
theorem ggX1_run_X1_obey : GoodIn wsX1_run wsX1_obey := goodIn_r _ [28, 4, 29, 7, 30, 1, 3, 31, 32, 33, 27, 34, 8, 9, 10, 11, 12, 13, 14, 15, 16, 17, 18, 19, 20, 21, 22, 23, 35, 36, 37, 38, 39, 40, 41, 42, 43, 44, 45, 46, 47, 48, 49, 50, 51, 52, 53, 54, 55, 56, 57, 58, 59, 60, 61, 62, 63, 64, 65, 66, 67, 68, 69, 70, 71, 72, 73, 74, 75, 76, 77, 78, 79, 80, 81, 82, 83, 84, 85, 86, 87, 88, 89, 90, 91, 92, 93, 94, 95, 96, 97, 98, 99, 100, 101, 102, 103, 104, 105, 106, 107, 108, 109, 110, 111, 112, 113, 114, 115, 116, 117, 118, 119, 120, 121, 132, 133, 134, 135, 136, 137, 138, 139, 140, 141, 142, 143, 122, 123, 124, 125, 126, 127, 128, 129, 130, 131, 144, 145, 146, 147, 148] rfl (by decide +kernel)
set_option maxRecDepth 20000 in
theorem gX1_run_X1_obey : GoodIn wsX1_run (wsV RX1 61 RX1 yX1_obey wsX1_obey) := goodIn_app (goodIn_of _ (by decide +kernel)) ggX1_run_X1_obey
theorem dX1_run_0 : decode cX1_run 0 = .ok (.aload_n 0, 1) := by decide +kernel
theorem dX1_run_1 : decode cX1_run 1 = .ok (.getfield 12, 3) := by decide +kernel
theorem dX1_run_4 : decode cX1_run 4 = .ok (.getfield 45, 3) := by decide +kernel
theorem dX1_run_7 : decode cX1_run 7 = .ok (.aload_n 1, 1) := by decide +kernel
theorem dX1_run_8 : decode cX1_run 8 = .ok (.getfield 49, 3) := by decide +kernel
theorem dX1_run_11 : decode cX1_run 11 = .ok (.aaload, 1) := by decide +kernel
theorem dX1_run_12 : decode cX1_run 12 = .ok (.astore_n 3, 1) := by decide +kernel
theorem dX1_run_13 : decode cX1_run 13 = .ok (.iconst 0, 1) := by decide +kernel
theorem dX1_run_14 : decode cX1_run 14 = .ok (.istore 4, 2) := by decide +kernel
theorem dX1_run_16 : decode cX1_run 16 = .ok (.iconst 0, 1) := by decide +kernel
theorem dX1_run_17 : decode cX1_run 17 = .ok (.istore 5, 2) := by decide +kernel
theorem dX1_run_19 : decode cX1_run 19 = .ok (.iload 5, 2) := by decide +kernel
theorem dX1_run_21 : decode cX1_run 21 = .ok (.iload_n 2, 1) := by decide +kernel
theorem dX1_run_22 : decode cX1_run 22 = .ok (.if_icmp .ge 56, 3) := by decide +kernel
theorem dX1_run_25 : decode cX1_run 25 = .ok (.iload 4, 2) := by decide +kernel
theorem dX1_run_27 : decode cX1_run 27 = .ok (.ifCond .ne 51, 3) := by decide +kernel
theorem dX1_run_30 : decode cX1_run 30 = .ok (.aload_n 0, 1) := by decide +kernel
theorem dX1_run_31 : decode cX1_run 31 = .ok (.getfield 12, 3) := by decide +kernel
theorem dX1_run_34 : decode cX1_run 34 = .ok (.aload_n 3, 1) := by decide +kernel
theorem dX1_run_35 : decode cX1_run 35 = .ok (.aload_n 1, 1) := by decide +kernel
theorem dX1_run_36 : decode cX1_run 36 = .ok (.getfield 54, 3) := by decide +kernel
theorem dX1_run_39 : decode cX1_run 39 = .ok (.iconst 4, 1) := by decide +kernel
theorem dX1_run_40 : decode cX1_run 40 = .ok (.invokevirtual 57, 3) := by decide +kernel
theorem dX1_run_43 : decode cX1_run 43 = .ok (.astore 6, 2) := by decide +kernel
theorem dX1_run_45 : decode cX1_run 45 = .ok (.aload 6, 2) := by decide +kernel
theorem dX1_run_47 : decode cX1_run 47 = .ok (.ifnonnull 7, 3) := by decide +kernel
theorem dX1_run_50 : decode cX1_run 50 = .ok (.iconst 1, 1) := by decide +kernel
theorem dX1_run_51 : decode cX1_run 51 = .ok (.goto 19, 3) := by decide +kernel
theorem dX1_run_54 : decode cX1_run 54 = .ok (.aload_n 0, 1) := by decide +kernel
theorem dX1_run_55 : decode cX1_run 55 = .ok (.aload_n 1, 1) := by decide +kernel
theorem dX1_run_56 : decode cX1_run 56 = .ok (.aload_n 3, 1) := by decide +kernel
theorem dX1_run_57 : decode cX1_run 57 = .ok (.aload 6, 2) := by decide +kernel
theorem dX1_run_59 : decode cX1_run 59 = .ok (.aload_n 1, 1) := by decide +kernel
theorem dX1_run_60 : decode cX1_run 60 = .ok (.getfield 54, 3) := by decide +kernel
theorem dX1_run_63 : decode cX1_run 63 = .ok (.bipush 16, 2) := by decide +kernel
theorem dX1_run_65 : decode cX1_run 65 = .ok (.irem, 1) := by decide +kernel
theorem dX1_run_66 : decode cX1_run 66 = .ok (.iaload, 1) := by decide +kernel
theorem dX1_run_67 : decode cX1_run 67 = .ok (.invokevirtual 61, 3) := by decide +kernel
theorem dX1_run_70 : decode cX1_run 70 = .ok (.istore 4, 2) := by decide +kernel
theorem dX1_run_72 : decode cX1_run 72 = .ok (.iinc 5 1, 3) := by decide +kernel
theorem dX1_run_75 : decode cX1_run 75 = .ok (.goto (-56), 3) := by decide +kernel
theorem dX1_run_78 : decode cX1_run 78 = .ok (.aload_n 0, 1) := by decide +kernel
theorem dX1_run_79 : decode cX1_run 79 = .ok (.iload 5, 2) := by decide +kernel
theorem dX1_run_81 : decode cX1_run 81 = .ok (.putfield 29, 3) := by decide +kernel
theorem dX1_run_84 : decode cX1_run 84 = .ok (.aload_n 1, 1) := by decide +kernel
theorem dX1_run_85 : decode cX1_run 85 = .ok (.iload 4, 2) := by decide +kernel
theorem dX1_run_87 : decode cX1_run 87 = .ok (.ifCond .ne 7, 3) := by decide +kernel
theorem dX1_run_90 : decode cX1_run 90 = .ok (.iconst 1, 1) := by decide +kernel
theorem dX1_run_91 : decode cX1_run 91 = .ok (.goto 4, 3) := by decide +kernel
theorem dX1_run_94 : decode cX1_run 94 = .ok (.iconst 0, 1) := by decide +kernel
theorem dX1_run_95 : decode cX1_run 95 = .ok (.putfield 65, 3) := by decide +kernel
theorem dX1_run_98 : decode cX1_run 98 = .ok (.iload 4, 2) := by decide +kernel
theorem dX1_run_100 : decode cX1_run 100 = .ok (.iconst (-1), 1) := by decide +kernel
theorem dX1_run_101 : decode cX1_run 101 = .ok (.if_icmp .ne 5, 3) := by decide +kernel
theorem dX1_run_104 : decode cX1_run 104 = .ok (.iconst 0, 1) := by decide +kernel
theorem dX1_run_105 : decode cX1_run 105 = .ok (.ireturn, 1) := by decide +kernel
theorem dX1_run_106 : decode cX1_run 106 = .ok (.aload_n 0, 1) := by decide +kernel
theorem dX1_run_107 : decode cX1_run 107 = .ok (.iload 4, 2) := by decide +kernel
theorem dX1_run_109 : decode cX1_run 109 = .ok (.ifCond .ne 7, 3) := by decide +kernel
theorem dX1_run_112 : decode cX1_run 112 = .ok (.iconst 0, 1) := by decide +kernel
theorem dX1_run_113 : decode cX1_run 113 = .ok (.goto 5, 3) := by decide +kernel
theorem dX1_run_116 : decode cX1_run 116 = .ok (.iload 4, 2) := by decide +kernel
theorem dX1_run_118 : decode cX1_run 118 = .ok (.putfield 25, 3) := by decide +kernel
theorem dX1_run_121 : decode cX1_run 121 = .ok (.iload 4, 2) := by decide +kernel
theorem dX1_run_123 : decode cX1_run 123 = .ok (.ifCond .ne 8, 3) := by decide +kernel
theorem dX1_run_126 : decode cX1_run 126 = .ok (.bipush 8, 2) := by decide +kernel
theorem dX1_run_128 : decode cX1_run 128 = .ok (.goto 5, 3) := by decide +kernel
theorem dX1_run_131 : decode cX1_run 131 = .ok (.bipush 9, 2) := by decide +kernel
theorem dX1_run_133 : decode cX1_run 133 = .ok (.ireturn, 1) := by decide +kernel
set_option maxRecDepth 20000 in
theorem ggX1_obey_X1_load : GoodIn wsX1_obey wsX1_load := goodIn_r _ [11, 5, 12, 13, 14, 15, 16, 17, 18, 19, 20, 21, 22, 23, 24, 25, 26, 27, 127, 128, 129, 130, 131, 132, 133, 134, 135, 136, 115, 116, 117, 118, 119, 120, 121, 122, 123, 124, 125, 126] rfl (by decide +kernel)
set_option maxRecDepth 20000 in
theorem gX1_obey_X1_load : GoodIn wsX1_obey (wsV RX1 72 RX1 yX1_load wsX1_load) := goodIn_app (goodIn_of _ (by decide +kernel)) ggX1_obey_X1_load
set_option maxRecDepth 20000 in
theorem ggX1_obey_X1_save : GoodIn wsX1_obey wsX1_save := goodIn_r _ [31, 5, 12, 13, 14, 15, 16, 17, 18, 19, 20, 21, 22, 23, 24, 25, 26, 27, 127, 128, 129, 130, 131, 132, 133, 134, 135, 136, 115, 116, 117, 118, 119, 120, 121, 122, 123, 124, 125, 126] rfl (by decide +kernel)
set_option maxRecDepth 20000 in
theorem gX1_obey_X1_save : GoodIn wsX1_obey (wsV RX1 76 RX1 yX1_save wsX1_save) := goodIn_app (goodIn_of _ (by decide +kernel)) ggX1_obey_X1_save
set_option maxRecDepth 20000 in
theorem ggX1_obey_X1_vouch : GoodIn wsX1_obey wsX1_vouch := goodIn_r _ [35, 36, 37, 4, 38, 39, 40, 41, 10, 42, 5, 12, 13, 14, 15, 16, 17, 18, 19, 20, 21, 22, 23, 24, 25, 26, 27, 43, 44, 45, 46, 47, 48, 49, 50, 51, 52, 53, 54, 55, 56, 57, 58, 59, 60, 61, 62, 63, 64, 65, 66, 67, 68, 69, 70, 71, 72, 73, 74, 75, 76, 77, 78, 79, 80, 81, 82, 83, 84, 85, 28, 29, 30, 31, 127, 128, 129, 130, 131, 132, 133, 134, 115, 116, 117, 118, 119, 120, 121, 122, 123, 124, 125, 126, 135, 136, 137, 138, 139, 140, 141] rfl (by decide +kernel)
set_option maxRecDepth 20000 in
theorem gX1_obey_X1_vouch : GoodIn wsX1_obey (wsV RX1 80 RX1 yX1_vouch wsX1_vouch) := goodIn_app (goodIn_of _ (by decide +kernel)) ggX1_obey_X1_vouch
set_option maxRecDepth 20000 in
theorem ggX1_obey_X1_compare : GoodIn wsX1_obey wsX1_compare := goodIn_r _ [89, 90, 36, 91, 37, 38, 39, 40, 41, 10, 42, 5, 12, 13, 14, 15, 16, 17, 18, 19, 20, 21, 22, 23, 24, 25, 26, 27, 47, 48, 49, 50, 51, 52, 53, 54, 55, 56, 57, 58, 59, 60, 61, 62, 63, 64, 65, 66, 67, 68, 69, 70, 71, 72, 73, 74, 75, 76, 77, 78, 79, 80, 81, 82, 83, 84, 85, 127, 128, 129, 130, 131, 132, 133, 134, 135, 136, 115, 116, 117, 118, 119, 120, 121, 122, 123, 124, 125, 126, 137, 138, 139, 140, 141] rfl (by decide +kernel)
set_option maxRecDepth 20000 in
theorem gX1_obey_X1_compare : GoodIn wsX1_obey (wsV RX1 83 RX1 yX1_compare wsX1_compare) := goodIn_app (goodIn_of _ (by decide +kernel)) ggX1_obey_X1_compare
set_option maxRecDepth 20000 in
theorem ggX1_obey_X4_useSpare : GoodIn wsX1_obey wsX4_useSpare := goodIn_r _ [95, 23, 96, 97, 17, 98, 26, 99, 100, 101, 102, 103, 104, 15, 105, 18, 19, 20, 21, 22, 24, 25, 27, 106, 77, 78, 79, 107, 108, 109, 110, 135, 136, 115, 116, 117, 118, 119, 120, 121, 122, 123, 124, 125, 126] rfl (by decide +kernel)
set_option maxRecDepth 20000 in
theorem gX1_obey_X4_useSpare : GoodIn wsX1_obey (wsV RX1 89 RX4 yX4_useSpare wsX4_useSpare) := goodIn_app (goodIn_of _ (by decide +kernel)) ggX1_obey_X4_useSpare
set_option maxRecDepth 20000 in
theorem ggX1_obey_X4_giveBack : GoodIn wsX1_obey wsX4_giveBack := goodIn_r _ [114, 23, 96, 18, 19, 20, 15, 21, 22, 24, 25, 26, 27, 135, 136, 115, 116, 117, 118, 119, 120, 121, 122, 123, 124, 125, 126] rfl (by decide +kernel)
set_option maxRecDepth 20000 in
theorem gX1_obey_X4_giveBack : GoodIn wsX1_obey (wsV RX1 93 RX4 yX4_giveBack wsX4_giveBack) := goodIn_app (goodIn_of _ (by decide +kernel)) ggX1_obey_X4_giveBack
theorem dX1_obey_0 : decode cX1_obey 0 = .ok (.aload_n 1, 1) := by decide +kernel
theorem dX1_obey_1 : decode cX1_obey 1 = .ok (.dup, 1) := by decide +kernel
theorem dX1_obey_2 : decode cX1_obey 2 = .ok (.getfield 54, 3) := by decide +kernel
theorem dX1_obey_5 : decode cX1_obey 5 = .ok (.iconst 1, 1) := by decide +kernel
theorem dX1_obey_6 : decode cX1_obey 6 = .ok (.iadd, 1) := by decide +kernel
theorem dX1_obey_7 : decode cX1_obey 7 = .ok (.putfield 54, 3) := by decide +kernel
theorem dX1_obey_10 : decode cX1_obey 10 = .ok (.aload_n 1, 1) := by decide +kernel
theorem dX1_obey_11 : decode cX1_obey 11 = .ok (.getfield 69, 3) := by decide +kernel
theorem dX1_obey_14 : decode cX1_obey 14 = .ok (.astore 4, 2) := by decide +kernel
theorem dX1_obey_16 : decode cX1_obey 16 = .ok (.iload_n 3, 1) := by decide +kernel
theorem dX1_obey_17 : decode cX1_obey 17 = .ok (.iconst 4, 1) := by decide +kernel
theorem dX1_obey_18 : decode cX1_obey 18 = .ok (.ishr, 1) := by decide +kernel
theorem dX1_obey_19 : decode cX1_obey 19 = .ok (.iconst 3, 1) := by decide +kernel
theorem dX1_obey_20 : decode cX1_obey 20 = .ok (.iand, 1) := by decide +kernel
theorem dX1_obey_21 : decode cX1_obey 21 = .ok (.istore 5, 2) := by decide +kernel
theorem dX1_obey_23 : decode cX1_obey 23 = .ok (.iload_n 3, 1) := by decide +kernel
theorem dX1_obey_24 : decode cX1_obey 24 = .ok (.bipush 8, 2) := by decide +kernel
theorem dX1_obey_26 : decode cX1_obey 26 = .ok (.ishr, 1) := by decide +kernel
theorem dX1_obey_27 : decode cX1_obey 27 = .ok (.istore 6, 2) := by decide +kernel
theorem dX1_obey_29 : decode cX1_obey 29 = .ok (.aload 4, 2) := by decide +kernel
theorem dX1_obey_31 : decode cX1_obey 31 = .ok (.iload 5, 2) := by decide +kernel
theorem dX1_obey_33 : decode cX1_obey 33 = .ok (.iaload, 1) := by decide +kernel
theorem dX1_obey_34 : decode cX1_obey 34 = .ok (.istore 7, 2) := by decide +kernel
theorem dX1_obey_36 : decode cX1_obey 36 = .ok (.aload 4, 2) := by decide +kernel
theorem dX1_obey_38 : decode cX1_obey 38 = .ok (.iload_n 3, 1) := by decide +kernel
theorem dX1_obey_39 : decode cX1_obey 39 = .ok (.bipush 6, 2) := by decide +kernel
theorem dX1_obey_41 : decode cX1_obey 41 = .ok (.ishr, 1) := by decide +kernel
theorem dX1_obey_42 : decode cX1_obey 42 = .ok (.iconst 3, 1) := by decide +kernel
theorem dX1_obey_43 : decode cX1_obey 43 = .ok (.iand, 1) := by decide +kernel
theorem dX1_obey_44 : decode cX1_obey 44 = .ok (.iaload, 1) := by decide +kernel
theorem dX1_obey_45 : decode cX1_obey 45 = .ok (.istore 8, 2) := by decide +kernel
theorem dX1_obey_47 : decode cX1_obey 47 = .ok (.iload_n 3, 1) := by decide +kernel
theorem dX1_obey_48 : decode cX1_obey 48 = .ok (.bipush 15, 2) := by decide +kernel
theorem dX1_obey_50 : decode cX1_obey 50 = .ok (.iand, 1) := by decide +kernel
theorem dX1_obey_51 : decode cX1_obey 51 = .ok (.tableswitch 278 0 13 #[69, 77, 86, 98, 110, 122, 134, 149, 162, 184, 194, 206, 223, 258], 69) := by decide +kernel
theorem dX1_obey_120 : decode cX1_obey 120 = .ok (.aload_n 0, 1) := by decide +kernel
theorem dX1_obey_121 : decode cX1_obey 121 = .ok (.iload 7, 2) := by decide +kernel
theorem dX1_obey_123 : decode cX1_obey 123 = .ok (.putfield 25, 3) := by decide +kernel
theorem dX1_obey_126 : decode cX1_obey 126 = .ok (.iconst (-1), 1) := by decide +kernel
theorem dX1_obey_127 : decode cX1_obey 127 = .ok (.ireturn, 1) := by decide +kernel
theorem dX1_obey_128 : decode cX1_obey 128 = .ok (.aload 4, 2) := by decide +kernel
theorem dX1_obey_130 : decode cX1_obey 130 = .ok (.iload 5, 2) := by decide +kernel
theorem dX1_obey_132 : decode cX1_obey 132 = .ok (.iload 6, 2) := by decide +kernel
theorem dX1_obey_134 : decode cX1_obey 134 = .ok (.iastore, 1) := by decide +kernel
theorem dX1_obey_135 : decode cX1_obey 135 = .ok (.iconst 0, 1) := by decide +kernel
theorem dX1_obey_136 : decode cX1_obey 136 = .ok (.ireturn, 1) := by decide +kernel
theorem dX1_obey_137 : decode cX1_obey 137 = .ok (.aload 4, 2) := by decide +kernel
theorem dX1_obey_139 : decode cX1_obey 139 = .ok (.iload 5, 2) := by decide +kernel
theorem dX1_obey_141 : decode cX1_obey 141 = .ok (.iload 7, 2) := by decide +kernel
theorem dX1_obey_143 : decode cX1_obey 143 = .ok (.iload 8, 2) := by decide +kernel
theorem dX1_obey_145 : decode cX1_obey 145 = .ok (.iadd, 1) := by decide +kernel
theorem dX1_obey_146 : decode cX1_obey 146 = .ok (.iastore, 1) := by decide +kernel
theorem dX1_obey_147 : decode cX1_obey 147 = .ok (.iconst 0, 1) := by decide +kernel
theorem dX1_obey_148 : decode cX1_obey 148 = .ok (.ireturn, 1) := by decide +kernel
theorem dX1_obey_149 : decode cX1_obey 149 = .ok (.aload 4, 2) := by decide +kernel
theorem dX1_obey_151 : decode cX1_obey 151 = .ok (.iload 5, 2) := by decide +kernel
theorem dX1_obey_153 : decode cX1_obey 153 = .ok (.iload 7, 2) := by decide +kernel
theorem dX1_obey_155 : decode cX1_obey 155 = .ok (.iload 8, 2) := by decide +kernel
theorem dX1_obey_157 : decode cX1_obey 157 = .ok (.isub, 1) := by decide +kernel
theorem dX1_obey_158 : decode cX1_obey 158 = .ok (.iastore, 1) := by decide +kernel
theorem dX1_obey_159 : decode cX1_obey 159 = .ok (.iconst 0, 1) := by decide +kernel
theorem dX1_obey_160 : decode cX1_obey 160 = .ok (.ireturn, 1) := by decide +kernel
theorem dX1_obey_161 : decode cX1_obey 161 = .ok (.aload 4, 2) := by decide +kernel
theorem dX1_obey_163 : decode cX1_obey 163 = .ok (.iload 5, 2) := by decide +kernel
theorem dX1_obey_165 : decode cX1_obey 165 = .ok (.iload 7, 2) := by decide +kernel
theorem dX1_obey_167 : decode cX1_obey 167 = .ok (.iload 8, 2) := by decide +kernel
theorem dX1_obey_169 : decode cX1_obey 169 = .ok (.imul, 1) := by decide +kernel
theorem dX1_obey_170 : decode cX1_obey 170 = .ok (.iastore, 1) := by decide +kernel
theorem dX1_obey_171 : decode cX1_obey 171 = .ok (.iconst 0, 1) := by decide +kernel
theorem dX1_obey_172 : decode cX1_obey 172 = .ok (.ireturn, 1) := by decide +kernel
theorem dX1_obey_173 : decode cX1_obey 173 = .ok (.aload 4, 2) := by decide +kernel
theorem dX1_obey_175 : decode cX1_obey 175 = .ok (.iload 5, 2) := by decide +kernel
theorem dX1_obey_177 : decode cX1_obey 177 = .ok (.iload 7, 2) := by decide +kernel
theorem dX1_obey_179 : decode cX1_obey 179 = .ok (.iload 8, 2) := by decide +kernel
theorem dX1_obey_181 : decode cX1_obey 181 = .ok (.iand, 1) := by decide +kernel
theorem dX1_obey_182 : decode cX1_obey 182 = .ok (.iastore, 1) := by decide +kernel
theorem dX1_obey_183 : decode cX1_obey 183 = .ok (.iconst 0, 1) := by decide +kernel
theorem dX1_obey_184 : decode cX1_obey 184 = .ok (.ireturn, 1) := by decide +kernel
theorem dX1_obey_185 : decode cX1_obey 185 = .ok (.aload_n 0, 1) := by decide +kernel
theorem dX1_obey_186 : decode cX1_obey 186 = .ok (.aload_n 2, 1) := by decide +kernel
theorem dX1_obey_187 : decode cX1_obey 187 = .ok (.iload 8, 2) := by decide +kernel
theorem dX1_obey_189 : decode cX1_obey 189 = .ok (.iload 6, 2) := by decide +kernel
theorem dX1_obey_191 : decode cX1_obey 191 = .ok (.iadd, 1) := by decide +kernel
theorem dX1_obey_192 : decode cX1_obey 192 = .ok (.aload 4, 2) := by decide +kernel
theorem dX1_obey_194 : decode cX1_obey 194 = .ok (.iload 5, 2) := by decide +kernel
theorem dX1_obey_196 : decode cX1_obey 196 = .ok (.invokevirtual 72, 3) := by decide +kernel
theorem dX1_obey_199 : decode cX1_obey 199 = .ok (.ireturn, 1) := by decide +kernel
theorem dX1_obey_200 : decode cX1_obey 200 = .ok (.aload_n 0, 1) := by decide +kernel
theorem dX1_obey_201 : decode cX1_obey 201 = .ok (.aload_n 2, 1) := by decide +kernel
theorem dX1_obey_202 : decode cX1_obey 202 = .ok (.iload 8, 2) := by decide +kernel
theorem dX1_obey_204 : decode cX1_obey 204 = .ok (.iload 6, 2) := by decide +kernel
theorem dX1_obey_206 : decode cX1_obey 206 = .ok (.iadd, 1) := by decide +kernel
theorem dX1_obey_207 : decode cX1_obey 207 = .ok (.iload 7, 2) := by decide +kernel
theorem dX1_obey_209 : decode cX1_obey 209 = .ok (.invokevirtual 76, 3) := by decide +kernel
theorem dX1_obey_212 : decode cX1_obey 212 = .ok (.ireturn, 1) := by decide +kernel
theorem dX1_obey_213 : decode cX1_obey 213 = .ok (.aload_n 1, 1) := by decide +kernel
theorem dX1_obey_214 : decode cX1_obey 214 = .ok (.dup, 1) := by decide +kernel
theorem dX1_obey_215 : decode cX1_obey 215 = .ok (.getfield 54, 3) := by decide +kernel
theorem dX1_obey_218 : decode cX1_obey 218 = .ok (.iload 7, 2) := by decide +kernel
theorem dX1_obey_220 : decode cX1_obey 220 = .ok (.ifCond .eq 8, 3) := by decide +kernel
theorem dX1_obey_223 : decode cX1_obey 223 = .ok (.iload 6, 2) := by decide +kernel
theorem dX1_obey_225 : decode cX1_obey 225 = .ok (.goto 4, 3) := by decide +kernel
theorem dX1_obey_228 : decode cX1_obey 228 = .ok (.iconst 0, 1) := by decide +kernel
theorem dX1_obey_229 : decode cX1_obey 229 = .ok (.iadd, 1) := by decide +kernel
theorem dX1_obey_230 : decode cX1_obey 230 = .ok (.putfield 54, 3) := by decide +kernel
theorem dX1_obey_233 : decode cX1_obey 233 = .ok (.iconst 0, 1) := by decide +kernel
theorem dX1_obey_234 : decode cX1_obey 234 = .ok (.ireturn, 1) := by decide +kernel
theorem dX1_obey_235 : decode cX1_obey 235 = .ok (.aload_n 0, 1) := by decide +kernel
theorem dX1_obey_236 : decode cX1_obey 236 = .ok (.aload_n 2, 1) := by decide +kernel
theorem dX1_obey_237 : decode cX1_obey 237 = .ok (.iload 7, 2) := by decide +kernel
theorem dX1_obey_239 : decode cX1_obey 239 = .ok (.iload 8, 2) := by decide +kernel
theorem dX1_obey_241 : decode cX1_obey 241 = .ok (.invokevirtual 80, 3) := by decide +kernel
theorem dX1_obey_244 : decode cX1_obey 244 = .ok (.ireturn, 1) := by decide +kernel
theorem dX1_obey_245 : decode cX1_obey 245 = .ok (.aload_n 0, 1) := by decide +kernel
theorem dX1_obey_246 : decode cX1_obey 246 = .ok (.aload_n 2, 1) := by decide +kernel
theorem dX1_obey_247 : decode cX1_obey 247 = .ok (.iload 8, 2) := by decide +kernel
theorem dX1_obey_249 : decode cX1_obey 249 = .ok (.aload 4, 2) := by decide +kernel
theorem dX1_obey_251 : decode cX1_obey 251 = .ok (.iload 5, 2) := by decide +kernel
theorem dX1_obey_253 : decode cX1_obey 253 = .ok (.invokevirtual 83, 3) := by decide +kernel
theorem dX1_obey_256 : decode cX1_obey 256 = .ok (.ireturn, 1) := by decide +kernel
theorem dX1_obey_257 : decode cX1_obey 257 = .ok (.aload 4, 2) := by decide +kernel
theorem dX1_obey_259 : decode cX1_obey 259 = .ok (.iload 5, 2) := by decide +kernel
theorem dX1_obey_261 : decode cX1_obey 261 = .ok (.aload_n 2, 1) := by decide +kernel
theorem dX1_obey_262 : decode cX1_obey 262 = .ok (.getfield 86, 3) := by decide +kernel
theorem dX1_obey_265 : decode cX1_obey 265 = .ok (.iload 6, 2) := by decide +kernel
theorem dX1_obey_267 : decode cX1_obey 267 = .ok (.bipush 7, 2) := by decide +kernel
theorem dX1_obey_269 : decode cX1_obey 269 = .ok (.iand, 1) := by decide +kernel
theorem dX1_obey_270 : decode cX1_obey 270 = .ok (.iaload, 1) := by decide +kernel
theorem dX1_obey_271 : decode cX1_obey 271 = .ok (.iastore, 1) := by decide +kernel
theorem dX1_obey_272 : decode cX1_obey 272 = .ok (.iconst 0, 1) := by decide +kernel
theorem dX1_obey_273 : decode cX1_obey 273 = .ok (.ireturn, 1) := by decide +kernel
theorem dX1_obey_274 : decode cX1_obey 274 = .ok (.aload 4, 2) := by decide +kernel
theorem dX1_obey_276 : decode cX1_obey 276 = .ok (.iload 5, 2) := by decide +kernel
theorem dX1_obey_278 : decode cX1_obey 278 = .ok (.aload_n 0, 1) := by decide +kernel
theorem dX1_obey_279 : decode cX1_obey 279 = .ok (.getfield 12, 3) := by decide +kernel
theorem dX1_obey_282 : decode cX1_obey 282 = .ok (.aload_n 1, 1) := by decide +kernel
theorem dX1_obey_283 : decode cX1_obey 283 = .ok (.getfield 49, 3) := by decide +kernel
theorem dX1_obey_286 : decode cX1_obey 286 = .ok (.iload 7, 2) := by decide +kernel
theorem dX1_obey_288 : decode cX1_obey 288 = .ok (.iload 8, 2) := by decide +kernel
theorem dX1_obey_290 : decode cX1_obey 290 = .ok (.iload 6, 2) := by decide +kernel
theorem dX1_obey_292 : decode cX1_obey 292 = .ok (.bipush 7, 2) := by decide +kernel
theorem dX1_obey_294 : decode cX1_obey 294 = .ok (.iand, 1) := by decide +kernel
theorem dX1_obey_295 : decode cX1_obey 295 = .ok (.invokevirtual 89, 3) := by decide +kernel
theorem dX1_obey_298 : decode cX1_obey 298 = .ok (.ifCond .eq 7, 3) := by decide +kernel
theorem dX1_obey_301 : decode cX1_obey 301 = .ok (.iconst 0, 1) := by decide +kernel
theorem dX1_obey_302 : decode cX1_obey 302 = .ok (.goto 4, 3) := by decide +kernel
theorem dX1_obey_305 : decode cX1_obey 305 = .ok (.iconst 1, 1) := by decide +kernel
theorem dX1_obey_306 : decode cX1_obey 306 = .ok (.iastore, 1) := by decide +kernel
theorem dX1_obey_307 : decode cX1_obey 307 = .ok (.iconst 0, 1) := by decide +kernel
theorem dX1_obey_308 : decode cX1_obey 308 = .ok (.ireturn, 1) := by decide +kernel
theorem dX1_obey_309 : decode cX1_obey 309 = .ok (.aload 4, 2) := by decide +kernel
theorem dX1_obey_311 : decode cX1_obey 311 = .ok (.iload 5, 2) := by decide +kernel
theorem dX1_obey_313 : decode cX1_obey 313 = .ok (.aload_n 0, 1) := by decide +kernel
theorem dX1_obey_314 : decode cX1_obey 314 = .ok (.getfield 12, 3) := by decide +kernel
theorem dX1_obey_317 : decode cX1_obey 317 = .ok (.aload_n 1, 1) := by decide +kernel
theorem dX1_obey_318 : decode cX1_obey 318 = .ok (.getfield 49, 3) := by decide +kernel
theorem dX1_obey_321 : decode cX1_obey 321 = .ok (.iload 8, 2) := by decide +kernel
theorem dX1_obey_323 : decode cX1_obey 323 = .ok (.invokevirtual 93, 3) := by decide +kernel
theorem dX1_obey_326 : decode cX1_obey 326 = .ok (.iastore, 1) := by decide +kernel
theorem dX1_obey_327 : decode cX1_obey 327 = .ok (.iconst 0, 1) := by decide +kernel
theorem dX1_obey_328 : decode cX1_obey 328 = .ok (.ireturn, 1) := by decide +kernel
theorem dX1_obey_329 : decode cX1_obey 329 = .ok (.iconst 4, 1) := by decide +kernel
theorem dX1_obey_330 : decode cX1_obey 330 = .ok (.ireturn, 1) := by decide +kernel
set_option maxRecDepth 20000 in
theorem ggX1_load_X4_rowAt : GoodIn wsX1_load wsX4_rowAt := goodIn_r _ [6, 7, 8, 9, 10, 5, 11, 12, 13, 14, 15, 16, 17, 26, 27, 28, 29, 30, 31, 32, 33, 34, 35, 36, 37, 38, 39] rfl (by decide +kernel)
set_option maxRecDepth 20000 in
theorem gX1_load_X4_rowAt : GoodIn wsX1_load (wsV RX1 57 RX4 yX4_rowAt wsX4_rowAt) := goodIn_app (goodIn_of _ (by decide +kernel)) ggX1_load_X4_rowAt
theorem dX1_load_0 : decode cX1_load 0 = .ok (.aload_n 0, 1) := by decide +kernel
theorem dX1_load_1 : decode cX1_load 1 = .ok (.getfield 12, 3) := by decide +kernel
theorem dX1_load_4 : decode cX1_load 4 = .ok (.aload_n 1, 1) := by decide +kernel
theorem dX1_load_5 : decode cX1_load 5 = .ok (.iload_n 2, 1) := by decide +kernel
theorem dX1_load_6 : decode cX1_load 6 = .ok (.iconst 1, 1) := by decide +kernel
theorem dX1_load_7 : decode cX1_load 7 = .ok (.invokevirtual 57, 3) := by decide +kernel
theorem dX1_load_10 : decode cX1_load 10 = .ok (.astore 5, 2) := by decide +kernel
theorem dX1_load_12 : decode cX1_load 12 = .ok (.aload 5, 2) := by decide +kernel
theorem dX1_load_14 : decode cX1_load 14 = .ok (.ifnonnull 5, 3) := by decide +kernel
theorem dX1_load_17 : decode cX1_load 17 = .ok (.iconst 2, 1) := by decide +kernel
theorem dX1_load_18 : decode cX1_load 18 = .ok (.ireturn, 1) := by decide +kernel
theorem dX1_load_19 : decode cX1_load 19 = .ok (.aload_n 3, 1) := by decide +kernel
theorem dX1_load_20 : decode cX1_load 20 = .ok (.iload 4, 2) := by decide +kernel
theorem dX1_load_22 : decode cX1_load 22 = .ok (.aload 5, 2) := by decide +kernel
theorem dX1_load_24 : decode cX1_load 24 = .ok (.iload_n 2, 1) := by decide +kernel
theorem dX1_load_25 : decode cX1_load 25 = .ok (.bipush 16, 2) := by decide +kernel
theorem dX1_load_27 : decode cX1_load 27 = .ok (.irem, 1) := by decide +kernel
theorem dX1_load_28 : decode cX1_load 28 = .ok (.iaload, 1) := by decide +kernel
theorem dX1_load_29 : decode cX1_load 29 = .ok (.iastore, 1) := by decide +kernel
theorem dX1_load_30 : decode cX1_load 30 = .ok (.iconst 0, 1) := by decide +kernel
theorem dX1_load_31 : decode cX1_load 31 = .ok (.ireturn, 1) := by decide +kernel
set_option maxRecDepth 20000 in
theorem ggX1_save_X4_rowAt : GoodIn wsX1_save wsX4_rowAt := goodIn_r _ [6, 7, 8, 9, 10, 5, 11, 12, 13, 14, 15, 16, 17, 26, 27, 28, 29, 30, 31, 32, 33, 34, 35, 36, 37, 38, 39] rfl (by decide +kernel)
set_option maxRecDepth 20000 in
theorem gX1_save_X4_rowAt : GoodIn wsX1_save (wsV RX1 57 RX4 yX4_rowAt wsX4_rowAt) := goodIn_app (goodIn_of _ (by decide +kernel)) ggX1_save_X4_rowAt
theorem dX1_save_0 : decode cX1_save 0 = .ok (.aload_n 0, 1) := by decide +kernel
theorem dX1_save_1 : decode cX1_save 1 = .ok (.getfield 12, 3) := by decide +kernel
theorem dX1_save_4 : decode cX1_save 4 = .ok (.aload_n 1, 1) := by decide +kernel
theorem dX1_save_5 : decode cX1_save 5 = .ok (.iload_n 2, 1) := by decide +kernel
theorem dX1_save_6 : decode cX1_save 6 = .ok (.iconst 2, 1) := by decide +kernel
theorem dX1_save_7 : decode cX1_save 7 = .ok (.invokevirtual 57, 3) := by decide +kernel
theorem dX1_save_10 : decode cX1_save 10 = .ok (.astore 4, 2) := by decide +kernel
theorem dX1_save_12 : decode cX1_save 12 = .ok (.aload 4, 2) := by decide +kernel
theorem dX1_save_14 : decode cX1_save 14 = .ok (.ifnonnull 5, 3) := by decide +kernel
theorem dX1_save_17 : decode cX1_save 17 = .ok (.iconst 3, 1) := by decide +kernel
theorem dX1_save_18 : decode cX1_save 18 = .ok (.ireturn, 1) := by decide +kernel
theorem dX1_save_19 : decode cX1_save 19 = .ok (.aload 4, 2) := by decide +kernel
theorem dX1_save_21 : decode cX1_save 21 = .ok (.iload_n 2, 1) := by decide +kernel
theorem dX1_save_22 : decode cX1_save 22 = .ok (.bipush 16, 2) := by decide +kernel
theorem dX1_save_24 : decode cX1_save 24 = .ok (.irem, 1) := by decide +kernel
theorem dX1_save_25 : decode cX1_save 25 = .ok (.iload_n 3, 1) := by decide +kernel
theorem dX1_save_26 : decode cX1_save 26 = .ok (.iastore, 1) := by decide +kernel
theorem dX1_save_27 : decode cX1_save 27 = .ok (.iconst 0, 1) := by decide +kernel
theorem dX1_save_28 : decode cX1_save 28 = .ok (.ireturn, 1) := by decide +kernel
set_option maxRecDepth 20000 in
theorem ggX1_vouch_X1_readEight : GoodIn wsX1_vouch wsX1_readEight := goodIn_r _ [9, 10, 11, 12, 13, 14, 15, 16, 17, 18, 19, 20, 21, 22, 23, 24, 25, 26, 74, 75, 76, 77, 78, 79, 80, 81, 94, 95, 82, 83, 84, 85, 86, 87, 88, 89, 90, 91, 92, 93] rfl (by decide +kernel)
set_option maxRecDepth 20000 in
theorem gX1_vouch_X1_readEight : GoodIn wsX1_vouch (wsV RX1 97 RX1 yX1_readEight wsX1_readEight) := goodIn_app (goodIn_of _ (by decide +kernel)) ggX1_vouch_X1_readEight
set_option maxRecDepth 20000 in
theorem ggX1_vouch_X1_mayWriteEight : GoodIn wsX1_vouch wsX1_mayWriteEight := goodIn_r _ [30, 10, 11, 12, 13, 14, 15, 16, 17, 18, 19, 20, 21, 22, 23, 24, 25, 26, 74, 75, 76, 77, 78, 79, 80, 81, 94, 95, 82, 83, 84, 85, 86, 87, 88, 89, 90, 91, 92, 93] rfl (by decide +kernel)
set_option maxRecDepth 20000 in
theorem gX1_vouch_X1_mayWriteEight : GoodIn wsX1_vouch (wsV RX1 101 RX1 yX1_mayWriteEight wsX1_mayWriteEight) := goodIn_app (goodIn_of _ (by decide +kernel)) ggX1_vouch_X1_mayWriteEight
set_option maxRecDepth 20000 in
theorem ggX1_vouch_X2_writeVoucher : GoodIn wsX1_vouch wsX2_writeVoucher := goodIn_r _ [35, 36, 37, 38, 39, 40, 41, 42, 43, 44, 45, 46, 47, 48, 49, 50, 51, 52, 53, 54, 55, 56, 57, 58, 59, 60, 61, 62, 63, 64, 65, 66, 67, 68, 69, 96, 97, 98, 99, 100] rfl (by decide +kernel)
set_option maxRecDepth 20000 in
theorem gX1_vouch_X2_writeVoucher : GoodIn wsX1_vouch (wsV RX1 105 RX2 yX2_writeVoucher wsX2_writeVoucher) := goodIn_app (goodIn_of _ (by decide +kernel)) ggX1_vouch_X2_writeVoucher
set_option maxRecDepth 20000 in
theorem ggX1_vouch_X1_save : GoodIn wsX1_vouch wsX1_save := goodIn_r _ [73, 10, 11, 12, 13, 14, 15, 16, 17, 18, 19, 20, 21, 22, 23, 24, 25, 26, 74, 75, 76, 77, 78, 79, 80, 81, 94, 95, 82, 83, 84, 85, 86, 87, 88, 89, 90, 91, 92, 93] rfl (by decide +kernel)
set_option maxRecDepth 20000 in
theorem gX1_vouch_X1_save : GoodIn wsX1_vouch (wsV RX1 76 RX1 yX1_save wsX1_save) := goodIn_app (goodIn_of _ (by decide +kernel)) ggX1_vouch_X1_save
theorem dX1_vouch_0 : decode cX1_vouch 0 = .ok (.aload_n 0, 1) := by decide +kernel
theorem dX1_vouch_1 : decode cX1_vouch 1 = .ok (.aload_n 1, 1) := by decide +kernel
theorem dX1_vouch_2 : decode cX1_vouch 2 = .ok (.iload_n 2, 1) := by decide +kernel
theorem dX1_vouch_3 : decode cX1_vouch 3 = .ok (.aload_n 0, 1) := by decide +kernel
theorem dX1_vouch_4 : decode cX1_vouch 4 = .ok (.getfield 32, 3) := by decide +kernel
theorem dX1_vouch_7 : decode cX1_vouch 7 = .ok (.invokevirtual 97, 3) := by decide +kernel
theorem dX1_vouch_10 : decode cX1_vouch 10 = .ok (.ifCond .ne 5, 3) := by decide +kernel
theorem dX1_vouch_13 : decode cX1_vouch 13 = .ok (.iconst 2, 1) := by decide +kernel
theorem dX1_vouch_14 : decode cX1_vouch 14 = .ok (.ireturn, 1) := by decide +kernel
theorem dX1_vouch_15 : decode cX1_vouch 15 = .ok (.aload_n 0, 1) := by decide +kernel
theorem dX1_vouch_16 : decode cX1_vouch 16 = .ok (.aload_n 1, 1) := by decide +kernel
theorem dX1_vouch_17 : decode cX1_vouch 17 = .ok (.iload_n 3, 1) := by decide +kernel
theorem dX1_vouch_18 : decode cX1_vouch 18 = .ok (.invokevirtual 101, 3) := by decide +kernel
theorem dX1_vouch_21 : decode cX1_vouch 21 = .ok (.ifCond .ne 5, 3) := by decide +kernel
theorem dX1_vouch_24 : decode cX1_vouch 24 = .ok (.iconst 3, 1) := by decide +kernel
theorem dX1_vouch_25 : decode cX1_vouch 25 = .ok (.ireturn, 1) := by decide +kernel
theorem dX1_vouch_26 : decode cX1_vouch 26 = .ok (.aload_n 0, 1) := by decide +kernel
theorem dX1_vouch_27 : decode cX1_vouch 27 = .ok (.getfield 21, 3) := by decide +kernel
theorem dX1_vouch_30 : decode cX1_vouch 30 = .ok (.aload_n 1, 1) := by decide +kernel
theorem dX1_vouch_31 : decode cX1_vouch 31 = .ok (.getfield 86, 3) := by decide +kernel
theorem dX1_vouch_34 : decode cX1_vouch 34 = .ok (.aload_n 0, 1) := by decide +kernel
theorem dX1_vouch_35 : decode cX1_vouch 35 = .ok (.getfield 32, 3) := by decide +kernel
theorem dX1_vouch_38 : decode cX1_vouch 38 = .ok (.aload_n 0, 1) := by decide +kernel
theorem dX1_vouch_39 : decode cX1_vouch 39 = .ok (.getfield 42, 3) := by decide +kernel
theorem dX1_vouch_42 : decode cX1_vouch 42 = .ok (.invokevirtual 105, 3) := by decide +kernel
theorem dX1_vouch_45 : decode cX1_vouch 45 = .ok (.iconst 0, 1) := by decide +kernel
theorem dX1_vouch_46 : decode cX1_vouch 46 = .ok (.istore 4, 2) := by decide +kernel
theorem dX1_vouch_48 : decode cX1_vouch 48 = .ok (.iload 4, 2) := by decide +kernel
theorem dX1_vouch_50 : decode cX1_vouch 50 = .ok (.bipush 8, 2) := by decide +kernel
theorem dX1_vouch_52 : decode cX1_vouch 52 = .ok (.if_icmp .ge 26, 3) := by decide +kernel
theorem dX1_vouch_55 : decode cX1_vouch 55 = .ok (.aload_n 0, 1) := by decide +kernel
theorem dX1_vouch_56 : decode cX1_vouch 56 = .ok (.aload_n 1, 1) := by decide +kernel
theorem dX1_vouch_57 : decode cX1_vouch 57 = .ok (.iload_n 3, 1) := by decide +kernel
theorem dX1_vouch_58 : decode cX1_vouch 58 = .ok (.iload 4, 2) := by decide +kernel
theorem dX1_vouch_60 : decode cX1_vouch 60 = .ok (.iadd, 1) := by decide +kernel
theorem dX1_vouch_61 : decode cX1_vouch 61 = .ok (.aload_n 0, 1) := by decide +kernel
theorem dX1_vouch_62 : decode cX1_vouch 62 = .ok (.getfield 42, 3) := by decide +kernel
theorem dX1_vouch_65 : decode cX1_vouch 65 = .ok (.iload 4, 2) := by decide +kernel
theorem dX1_vouch_67 : decode cX1_vouch 67 = .ok (.iaload, 1) := by decide +kernel
theorem dX1_vouch_68 : decode cX1_vouch 68 = .ok (.invokevirtual 76, 3) := by decide +kernel
theorem dX1_vouch_71 : decode cX1_vouch 71 = .ok (.pop, 1) := by decide +kernel
theorem dX1_vouch_72 : decode cX1_vouch 72 = .ok (.iinc 4 1, 3) := by decide +kernel
theorem dX1_vouch_75 : decode cX1_vouch 75 = .ok (.goto (-27), 3) := by decide +kernel
theorem dX1_vouch_78 : decode cX1_vouch 78 = .ok (.iconst 0, 1) := by decide +kernel
theorem dX1_vouch_79 : decode cX1_vouch 79 = .ok (.ireturn, 1) := by decide +kernel
set_option maxRecDepth 20000 in
theorem ggX1_compare_X1_readEight : GoodIn wsX1_compare wsX1_readEight := goodIn_r _ [10, 11, 12, 13, 14, 15, 16, 17, 18, 19, 20, 21, 22, 23, 24, 25, 26, 27, 67, 68, 69, 70, 71, 72, 73, 74, 75, 76, 77, 78, 79, 80, 81, 82, 83, 84, 85, 86, 87, 88] rfl (by decide +kernel)
set_option maxRecDepth 20000 in
theorem gX1_compare_X1_readEight : GoodIn wsX1_compare (wsV RX1 97 RX1 yX1_readEight wsX1_readEight) := goodIn_app (goodIn_of _ (by decide +kernel)) ggX1_compare_X1_readEight
set_option maxRecDepth 20000 in
theorem ggX1_compare_X2_writeVoucher : GoodIn wsX1_compare wsX2_writeVoucher := goodIn_r _ [32, 33, 34, 35, 36, 37, 38, 39, 40, 41, 42, 43, 44, 45, 46, 47, 48, 49, 50, 51, 52, 53, 54, 55, 56, 57, 58, 59, 60, 61, 62, 63, 64, 65, 66, 89, 90, 91, 92, 93] rfl (by decide +kernel)
set_option maxRecDepth 20000 in
theorem gX1_compare_X2_writeVoucher : GoodIn wsX1_compare (wsV RX1 105 RX2 yX2_writeVoucher wsX2_writeVoucher) := goodIn_app (goodIn_of _ (by decide +kernel)) ggX1_compare_X2_writeVoucher
theorem dX1_compare_0 : decode cX1_compare 0 = .ok (.aload_n 0, 1) := by decide +kernel
theorem dX1_compare_1 : decode cX1_compare 1 = .ok (.aload_n 1, 1) := by decide +kernel
theorem dX1_compare_2 : decode cX1_compare 2 = .ok (.iload_n 2, 1) := by decide +kernel
theorem dX1_compare_3 : decode cX1_compare 3 = .ok (.aload_n 0, 1) := by decide +kernel
theorem dX1_compare_4 : decode cX1_compare 4 = .ok (.getfield 36, 3) := by decide +kernel
theorem dX1_compare_7 : decode cX1_compare 7 = .ok (.invokevirtual 97, 3) := by decide +kernel
theorem dX1_compare_10 : decode cX1_compare 10 = .ok (.ifCond .eq 35, 3) := by decide +kernel
theorem dX1_compare_13 : decode cX1_compare 13 = .ok (.aload_n 0, 1) := by decide +kernel
theorem dX1_compare_14 : decode cX1_compare 14 = .ok (.aload_n 1, 1) := by decide +kernel
theorem dX1_compare_15 : decode cX1_compare 15 = .ok (.iload_n 2, 1) := by decide +kernel
theorem dX1_compare_16 : decode cX1_compare 16 = .ok (.bipush 8, 2) := by decide +kernel
theorem dX1_compare_18 : decode cX1_compare 18 = .ok (.iadd, 1) := by decide +kernel
theorem dX1_compare_19 : decode cX1_compare 19 = .ok (.aload_n 0, 1) := by decide +kernel
theorem dX1_compare_20 : decode cX1_compare 20 = .ok (.getfield 32, 3) := by decide +kernel
theorem dX1_compare_23 : decode cX1_compare 23 = .ok (.invokevirtual 97, 3) := by decide +kernel
theorem dX1_compare_26 : decode cX1_compare 26 = .ok (.ifCond .eq 19, 3) := by decide +kernel
theorem dX1_compare_29 : decode cX1_compare 29 = .ok (.aload_n 0, 1) := by decide +kernel
theorem dX1_compare_30 : decode cX1_compare 30 = .ok (.aload_n 1, 1) := by decide +kernel
theorem dX1_compare_31 : decode cX1_compare 31 = .ok (.iload_n 2, 1) := by decide +kernel
theorem dX1_compare_32 : decode cX1_compare 32 = .ok (.bipush 16, 2) := by decide +kernel
theorem dX1_compare_34 : decode cX1_compare 34 = .ok (.iadd, 1) := by decide +kernel
theorem dX1_compare_35 : decode cX1_compare 35 = .ok (.aload_n 0, 1) := by decide +kernel
theorem dX1_compare_36 : decode cX1_compare 36 = .ok (.getfield 39, 3) := by decide +kernel
theorem dX1_compare_39 : decode cX1_compare 39 = .ok (.invokevirtual 97, 3) := by decide +kernel
theorem dX1_compare_42 : decode cX1_compare 42 = .ok (.ifCond .ne 5, 3) := by decide +kernel
theorem dX1_compare_45 : decode cX1_compare 45 = .ok (.iconst 2, 1) := by decide +kernel
theorem dX1_compare_46 : decode cX1_compare 46 = .ok (.ireturn, 1) := by decide +kernel
theorem dX1_compare_47 : decode cX1_compare 47 = .ok (.aload_n 0, 1) := by decide +kernel
theorem dX1_compare_48 : decode cX1_compare 48 = .ok (.getfield 21, 3) := by decide +kernel
theorem dX1_compare_51 : decode cX1_compare 51 = .ok (.aload_n 0, 1) := by decide +kernel
theorem dX1_compare_52 : decode cX1_compare 52 = .ok (.getfield 36, 3) := by decide +kernel
theorem dX1_compare_55 : decode cX1_compare 55 = .ok (.aload_n 0, 1) := by decide +kernel
theorem dX1_compare_56 : decode cX1_compare 56 = .ok (.getfield 32, 3) := by decide +kernel
theorem dX1_compare_59 : decode cX1_compare 59 = .ok (.aload_n 0, 1) := by decide +kernel
theorem dX1_compare_60 : decode cX1_compare 60 = .ok (.getfield 42, 3) := by decide +kernel
theorem dX1_compare_63 : decode cX1_compare 63 = .ok (.invokevirtual 105, 3) := by decide +kernel
theorem dX1_compare_66 : decode cX1_compare 66 = .ok (.aload_n 3, 1) := by decide +kernel
theorem dX1_compare_67 : decode cX1_compare 67 = .ok (.iload 4, 2) := by decide +kernel
theorem dX1_compare_69 : decode cX1_compare 69 = .ok (.iconst 1, 1) := by decide +kernel
theorem dX1_compare_70 : decode cX1_compare 70 = .ok (.iastore, 1) := by decide +kernel
theorem dX1_compare_71 : decode cX1_compare 71 = .ok (.iconst 0, 1) := by decide +kernel
theorem dX1_compare_72 : decode cX1_compare 72 = .ok (.istore 5, 2) := by decide +kernel
theorem dX1_compare_74 : decode cX1_compare 74 = .ok (.iload 5, 2) := by decide +kernel
theorem dX1_compare_76 : decode cX1_compare 76 = .ok (.bipush 8, 2) := by decide +kernel
theorem dX1_compare_78 : decode cX1_compare 78 = .ok (.if_icmp .ge 31, 3) := by decide +kernel
theorem dX1_compare_81 : decode cX1_compare 81 = .ok (.aload_n 0, 1) := by decide +kernel
theorem dX1_compare_82 : decode cX1_compare 82 = .ok (.getfield 42, 3) := by decide +kernel
theorem dX1_compare_85 : decode cX1_compare 85 = .ok (.iload 5, 2) := by decide +kernel
theorem dX1_compare_87 : decode cX1_compare 87 = .ok (.iaload, 1) := by decide +kernel
theorem dX1_compare_88 : decode cX1_compare 88 = .ok (.aload_n 0, 1) := by decide +kernel
theorem dX1_compare_89 : decode cX1_compare 89 = .ok (.getfield 39, 3) := by decide +kernel
theorem dX1_compare_92 : decode cX1_compare 92 = .ok (.iload 5, 2) := by decide +kernel
theorem dX1_compare_94 : decode cX1_compare 94 = .ok (.iaload, 1) := by decide +kernel
theorem dX1_compare_95 : decode cX1_compare 95 = .ok (.if_icmp .eq 8, 3) := by decide +kernel
theorem dX1_compare_98 : decode cX1_compare 98 = .ok (.aload_n 3, 1) := by decide +kernel
theorem dX1_compare_99 : decode cX1_compare 99 = .ok (.iload 4, 2) := by decide +kernel
theorem dX1_compare_101 : decode cX1_compare 101 = .ok (.iconst 0, 1) := by decide +kernel
theorem dX1_compare_102 : decode cX1_compare 102 = .ok (.iastore, 1) := by decide +kernel
theorem dX1_compare_103 : decode cX1_compare 103 = .ok (.iinc 5 1, 3) := by decide +kernel
theorem dX1_compare_106 : decode cX1_compare 106 = .ok (.goto (-32), 3) := by decide +kernel
theorem dX1_compare_109 : decode cX1_compare 109 = .ok (.iconst 0, 1) := by decide +kernel
theorem dX1_compare_110 : decode cX1_compare 110 = .ok (.ireturn, 1) := by decide +kernel
set_option maxRecDepth 20000 in
theorem ggX1_readEight_X4_rowAt : GoodIn wsX1_readEight wsX4_rowAt := goodIn_r _ [6, 7, 8, 9, 10, 5, 11, 12, 13, 14, 15, 16, 17, 26, 27, 28, 29, 30, 31, 32, 33, 34, 35, 36, 37, 38, 39] rfl (by decide +kernel)
set_option maxRecDepth 20000 in
theorem gX1_readEight_X4_rowAt : GoodIn wsX1_readEight (wsV RX1 57 RX4 yX4_rowAt wsX4_rowAt) := goodIn_app (goodIn_of _ (by decide +kernel)) ggX1_readEight_X4_rowAt
theorem dX1_readEight_0 : decode cX1_readEight 0 = .ok (.iconst 0, 1) := by decide +kernel
theorem dX1_readEight_1 : decode cX1_readEight 1 = .ok (.istore 4, 2) := by decide +kernel
theorem dX1_readEight_3 : decode cX1_readEight 3 = .ok (.iload 4, 2) := by decide +kernel
theorem dX1_readEight_5 : decode cX1_readEight 5 = .ok (.bipush 8, 2) := by decide +kernel
theorem dX1_readEight_7 : decode cX1_readEight 7 = .ok (.if_icmp .ge 45, 3) := by decide +kernel
theorem dX1_readEight_10 : decode cX1_readEight 10 = .ok (.aload_n 0, 1) := by decide +kernel
theorem dX1_readEight_11 : decode cX1_readEight 11 = .ok (.getfield 12, 3) := by decide +kernel
theorem dX1_readEight_14 : decode cX1_readEight 14 = .ok (.aload_n 1, 1) := by decide +kernel
theorem dX1_readEight_15 : decode cX1_readEight 15 = .ok (.iload_n 2, 1) := by decide +kernel
theorem dX1_readEight_16 : decode cX1_readEight 16 = .ok (.iload 4, 2) := by decide +kernel
theorem dX1_readEight_18 : decode cX1_readEight 18 = .ok (.iadd, 1) := by decide +kernel
theorem dX1_readEight_19 : decode cX1_readEight 19 = .ok (.iconst 1, 1) := by decide +kernel
theorem dX1_readEight_20 : decode cX1_readEight 20 = .ok (.invokevirtual 57, 3) := by decide +kernel
theorem dX1_readEight_23 : decode cX1_readEight 23 = .ok (.astore 5, 2) := by decide +kernel
theorem dX1_readEight_25 : decode cX1_readEight 25 = .ok (.aload 5, 2) := by decide +kernel
theorem dX1_readEight_27 : decode cX1_readEight 27 = .ok (.ifnonnull 5, 3) := by decide +kernel
theorem dX1_readEight_30 : decode cX1_readEight 30 = .ok (.iconst 0, 1) := by decide +kernel
theorem dX1_readEight_31 : decode cX1_readEight 31 = .ok (.ireturn, 1) := by decide +kernel
theorem dX1_readEight_32 : decode cX1_readEight 32 = .ok (.aload_n 3, 1) := by decide +kernel
theorem dX1_readEight_33 : decode cX1_readEight 33 = .ok (.iload 4, 2) := by decide +kernel
theorem dX1_readEight_35 : decode cX1_readEight 35 = .ok (.aload 5, 2) := by decide +kernel
theorem dX1_readEight_37 : decode cX1_readEight 37 = .ok (.iload_n 2, 1) := by decide +kernel
theorem dX1_readEight_38 : decode cX1_readEight 38 = .ok (.iload 4, 2) := by decide +kernel
theorem dX1_readEight_40 : decode cX1_readEight 40 = .ok (.iadd, 1) := by decide +kernel
theorem dX1_readEight_41 : decode cX1_readEight 41 = .ok (.bipush 16, 2) := by decide +kernel
theorem dX1_readEight_43 : decode cX1_readEight 43 = .ok (.irem, 1) := by decide +kernel
theorem dX1_readEight_44 : decode cX1_readEight 44 = .ok (.iaload, 1) := by decide +kernel
theorem dX1_readEight_45 : decode cX1_readEight 45 = .ok (.iastore, 1) := by decide +kernel
theorem dX1_readEight_46 : decode cX1_readEight 46 = .ok (.iinc 4 1, 3) := by decide +kernel
theorem dX1_readEight_49 : decode cX1_readEight 49 = .ok (.goto (-46), 3) := by decide +kernel
theorem dX1_readEight_52 : decode cX1_readEight 52 = .ok (.iconst 1, 1) := by decide +kernel
theorem dX1_readEight_53 : decode cX1_readEight 53 = .ok (.ireturn, 1) := by decide +kernel
set_option maxRecDepth 20000 in
theorem ggX1_mayWriteEight_X4_rowAt : GoodIn wsX1_mayWriteEight wsX4_rowAt := goodIn_r _ [6, 7, 8, 9, 10, 5, 11, 12, 13, 14, 15, 16, 17, 26, 27, 28, 29, 30, 31, 32, 33, 34, 35, 36, 37, 38, 39] rfl (by decide +kernel)
set_option maxRecDepth 20000 in
theorem gX1_mayWriteEight_X4_rowAt : GoodIn wsX1_mayWriteEight (wsV RX1 57 RX4 yX4_rowAt wsX4_rowAt) := goodIn_app (goodIn_of _ (by decide +kernel)) ggX1_mayWriteEight_X4_rowAt
theorem dX1_mayWriteEight_0 : decode cX1_mayWriteEight 0 = .ok (.iconst 0, 1) := by decide +kernel
theorem dX1_mayWriteEight_1 : decode cX1_mayWriteEight 1 = .ok (.istore_n 3, 1) := by decide +kernel
theorem dX1_mayWriteEight_2 : decode cX1_mayWriteEight 2 = .ok (.iload_n 3, 1) := by decide +kernel
theorem dX1_mayWriteEight_3 : decode cX1_mayWriteEight 3 = .ok (.bipush 8, 2) := by decide +kernel
theorem dX1_mayWriteEight_5 : decode cX1_mayWriteEight 5 = .ok (.if_icmp .ge 26, 3) := by decide +kernel
theorem dX1_mayWriteEight_8 : decode cX1_mayWriteEight 8 = .ok (.aload_n 0, 1) := by decide +kernel
theorem dX1_mayWriteEight_9 : decode cX1_mayWriteEight 9 = .ok (.getfield 12, 3) := by decide +kernel
theorem dX1_mayWriteEight_12 : decode cX1_mayWriteEight 12 = .ok (.aload_n 1, 1) := by decide +kernel
theorem dX1_mayWriteEight_13 : decode cX1_mayWriteEight 13 = .ok (.iload_n 2, 1) := by decide +kernel
theorem dX1_mayWriteEight_14 : decode cX1_mayWriteEight 14 = .ok (.iload_n 3, 1) := by decide +kernel
theorem dX1_mayWriteEight_15 : decode cX1_mayWriteEight 15 = .ok (.iadd, 1) := by decide +kernel
theorem dX1_mayWriteEight_16 : decode cX1_mayWriteEight 16 = .ok (.iconst 2, 1) := by decide +kernel
theorem dX1_mayWriteEight_17 : decode cX1_mayWriteEight 17 = .ok (.invokevirtual 57, 3) := by decide +kernel
theorem dX1_mayWriteEight_20 : decode cX1_mayWriteEight 20 = .ok (.ifnonnull 5, 3) := by decide +kernel
theorem dX1_mayWriteEight_23 : decode cX1_mayWriteEight 23 = .ok (.iconst 0, 1) := by decide +kernel
theorem dX1_mayWriteEight_24 : decode cX1_mayWriteEight 24 = .ok (.ireturn, 1) := by decide +kernel
theorem dX1_mayWriteEight_25 : decode cX1_mayWriteEight 25 = .ok (.iinc 3 1, 3) := by decide +kernel
theorem dX1_mayWriteEight_28 : decode cX1_mayWriteEight 28 = .ok (.goto (-26), 3) := by decide +kernel
theorem dX1_mayWriteEight_31 : decode cX1_mayWriteEight 31 = .ok (.iconst 1, 1) := by decide +kernel
theorem dX1_mayWriteEight_32 : decode cX1_mayWriteEight 32 = .ok (.ireturn, 1) := by decide +kernel
set_option maxRecDepth 20000 in
theorem ggX2_init_X0_init : GoodIn wsX2_init wsX0_init := goodIn_r _ [12, 13, 2, 3, 4, 14, 15, 19, 20] rfl (by decide +kernel)
set_option maxRecDepth 20000 in
theorem gX2_init_X0_init_n17 : GoodIn wsX2_init (wsX0_init) := ggX2_init_X0_init
theorem dX2_init_0 : decode cX2_init 0 = .ok (.aload_n 0, 1) := by decide +kernel
theorem dX2_init_1 : decode cX2_init 1 = .ok (.invokespecial 3, 3) := by decide +kernel
theorem dX2_init_4 : decode cX2_init 4 = .ok (.aload_n 0, 1) := by decide +kernel
theorem dX2_init_5 : decode cX2_init 5 = .ok (.bipush 8, 2) := by decide +kernel
theorem dX2_init_7 : decode cX2_init 7 = .ok (.newarray .int, 2) := by decide +kernel
theorem dX2_init_9 : decode cX2_init 9 = .ok (.putfield 9, 3) := by decide +kernel
theorem dX2_init_12 : decode cX2_init 12 = .ok (.aload_n 0, 1) := by decide +kernel
theorem dX2_init_13 : decode cX2_init 13 = .ok (.new 15, 3) := by decide +kernel
theorem dX2_init_16 : decode cX2_init 16 = .ok (.dup, 1) := by decide +kernel
theorem dX2_init_17 : decode cX2_init 17 = .ok (.invokespecial 17, 3) := by decide +kernel
theorem dX2_init_20 : decode cX2_init 20 = .ok (.putfield 18, 3) := by decide +kernel
theorem dX2_init_23 : decode cX2_init 23 = .ok (.aload_n 0, 1) := by decide +kernel
theorem dX2_init_24 : decode cX2_init 24 = .ok (.bipush 16, 2) := by decide +kernel
theorem dX2_init_26 : decode cX2_init 26 = .ok (.newarray .int, 2) := by decide +kernel
theorem dX2_init_28 : decode cX2_init 28 = .ok (.putfield 22, 3) := by decide +kernel
theorem dX2_init_31 : decode cX2_init 31 = .ok (.return_, 1) := by decide +kernel
set_option maxRecDepth 20000 in
theorem ggX2_open_X0_begin : GoodIn wsX2_open wsX0_begin := goodIn_r _ [9, 10, 11, 12, 13, 14] rfl (by decide +kernel)
set_option maxRecDepth 20000 in
theorem gX2_open_X0_begin : GoodIn wsX2_open (wsV RX2 38 RX0 yX0_begin wsX0_begin) := goodIn_app (goodIn_of _ (by decide +kernel)) ggX2_open_X0_begin
