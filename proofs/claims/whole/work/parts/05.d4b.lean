set_option maxRecDepth 20000 in
theorem ggX4_block_X4_turned : GoodIn wsX4_block wsX4_turned := goodIn_r _ [8] (by decide +kernel) (by decide +kernel)
set_option maxRecDepth 20000 in
theorem gX4_block_X4_turned : GoodIn wsX4_block (va_wsS RX4 127 yX4_turned wsX4_turned) := goodIn_app (goodIn_of _ (by decide +kernel)) ggX4_block_X4_turned
theorem dX4_block_0 : decode cX4_block 0 = .ok (.iconst 0, 1) := by decide +kernel
theorem dX4_block_1 : decode cX4_block 1 = .ok (.istore_n 2, 1) := by decide +kernel
theorem dX4_block_2 : decode cX4_block 2 = .ok (.iload_n 2, 1) := by decide +kernel
theorem dX4_block_3 : decode cX4_block 3 = .ok (.bipush 64, 2) := by decide +kernel
theorem dX4_block_5 : decode cX4_block 5 = .ok (.if_icmp .ge 179, 3) := by decide +kernel
theorem dX4_block_8 : decode cX4_block 8 = .ok (.iload_n 2, 1) := by decide +kernel
theorem dX4_block_9 : decode cX4_block 9 = .ok (.bipush 16, 2) := by decide +kernel
theorem dX4_block_11 : decode cX4_block 11 = .ok (.if_icmp .ge 82, 3) := by decide +kernel
theorem dX4_block_14 : decode cX4_block 14 = .ok (.aload_n 0, 1) := by decide +kernel
theorem dX4_block_15 : decode cX4_block 15 = .ok (.getfield 42, 3) := by decide +kernel
theorem dX4_block_18 : decode cX4_block 18 = .ok (.iload_n 2, 1) := by decide +kernel
theorem dX4_block_19 : decode cX4_block 19 = .ok (.aload_n 0, 1) := by decide +kernel
theorem dX4_block_20 : decode cX4_block 20 = .ok (.getfield 45, 3) := by decide +kernel
theorem dX4_block_23 : decode cX4_block 23 = .ok (.iload_n 1, 1) := by decide +kernel
theorem dX4_block_24 : decode cX4_block 24 = .ok (.iconst 4, 1) := by decide +kernel
theorem dX4_block_25 : decode cX4_block 25 = .ok (.iload_n 2, 1) := by decide +kernel
theorem dX4_block_26 : decode cX4_block 26 = .ok (.imul, 1) := by decide +kernel
theorem dX4_block_27 : decode cX4_block 27 = .ok (.iadd, 1) := by decide +kernel
theorem dX4_block_28 : decode cX4_block 28 = .ok (.baload, 1) := by decide +kernel
theorem dX4_block_29 : decode cX4_block 29 = .ok (.bipush 24, 2) := by decide +kernel
theorem dX4_block_31 : decode cX4_block 31 = .ok (.ishl, 1) := by decide +kernel
theorem dX4_block_32 : decode cX4_block 32 = .ok (.aload_n 0, 1) := by decide +kernel
theorem dX4_block_33 : decode cX4_block 33 = .ok (.getfield 45, 3) := by decide +kernel
theorem dX4_block_36 : decode cX4_block 36 = .ok (.iload_n 1, 1) := by decide +kernel
theorem dX4_block_37 : decode cX4_block 37 = .ok (.iconst 4, 1) := by decide +kernel
theorem dX4_block_38 : decode cX4_block 38 = .ok (.iload_n 2, 1) := by decide +kernel
theorem dX4_block_39 : decode cX4_block 39 = .ok (.imul, 1) := by decide +kernel
theorem dX4_block_40 : decode cX4_block 40 = .ok (.iadd, 1) := by decide +kernel
theorem dX4_block_41 : decode cX4_block 41 = .ok (.iconst 1, 1) := by decide +kernel
theorem dX4_block_42 : decode cX4_block 42 = .ok (.iadd, 1) := by decide +kernel
theorem dX4_block_43 : decode cX4_block 43 = .ok (.baload, 1) := by decide +kernel
theorem dX4_block_44 : decode cX4_block 44 = .ok (.sipush 255, 3) := by decide +kernel
theorem dX4_block_47 : decode cX4_block 47 = .ok (.iand, 1) := by decide +kernel
theorem dX4_block_48 : decode cX4_block 48 = .ok (.bipush 16, 2) := by decide +kernel
theorem dX4_block_50 : decode cX4_block 50 = .ok (.ishl, 1) := by decide +kernel
theorem dX4_block_51 : decode cX4_block 51 = .ok (.ior, 1) := by decide +kernel
theorem dX4_block_52 : decode cX4_block 52 = .ok (.aload_n 0, 1) := by decide +kernel
theorem dX4_block_53 : decode cX4_block 53 = .ok (.getfield 45, 3) := by decide +kernel
theorem dX4_block_56 : decode cX4_block 56 = .ok (.iload_n 1, 1) := by decide +kernel
theorem dX4_block_57 : decode cX4_block 57 = .ok (.iconst 4, 1) := by decide +kernel
theorem dX4_block_58 : decode cX4_block 58 = .ok (.iload_n 2, 1) := by decide +kernel
theorem dX4_block_59 : decode cX4_block 59 = .ok (.imul, 1) := by decide +kernel
theorem dX4_block_60 : decode cX4_block 60 = .ok (.iadd, 1) := by decide +kernel
theorem dX4_block_61 : decode cX4_block 61 = .ok (.iconst 2, 1) := by decide +kernel
theorem dX4_block_62 : decode cX4_block 62 = .ok (.iadd, 1) := by decide +kernel
theorem dX4_block_63 : decode cX4_block 63 = .ok (.baload, 1) := by decide +kernel
theorem dX4_block_64 : decode cX4_block 64 = .ok (.sipush 255, 3) := by decide +kernel
theorem dX4_block_67 : decode cX4_block 67 = .ok (.iand, 1) := by decide +kernel
theorem dX4_block_68 : decode cX4_block 68 = .ok (.bipush 8, 2) := by decide +kernel
theorem dX4_block_70 : decode cX4_block 70 = .ok (.ishl, 1) := by decide +kernel
theorem dX4_block_71 : decode cX4_block 71 = .ok (.ior, 1) := by decide +kernel
theorem dX4_block_72 : decode cX4_block 72 = .ok (.aload_n 0, 1) := by decide +kernel
theorem dX4_block_73 : decode cX4_block 73 = .ok (.getfield 45, 3) := by decide +kernel
theorem dX4_block_76 : decode cX4_block 76 = .ok (.iload_n 1, 1) := by decide +kernel
theorem dX4_block_77 : decode cX4_block 77 = .ok (.iconst 4, 1) := by decide +kernel
theorem dX4_block_78 : decode cX4_block 78 = .ok (.iload_n 2, 1) := by decide +kernel
theorem dX4_block_79 : decode cX4_block 79 = .ok (.imul, 1) := by decide +kernel
theorem dX4_block_80 : decode cX4_block 80 = .ok (.iadd, 1) := by decide +kernel
theorem dX4_block_81 : decode cX4_block 81 = .ok (.iconst 3, 1) := by decide +kernel
theorem dX4_block_82 : decode cX4_block 82 = .ok (.iadd, 1) := by decide +kernel
theorem dX4_block_83 : decode cX4_block 83 = .ok (.baload, 1) := by decide +kernel
theorem dX4_block_84 : decode cX4_block 84 = .ok (.sipush 255, 3) := by decide +kernel
theorem dX4_block_87 : decode cX4_block 87 = .ok (.iand, 1) := by decide +kernel
theorem dX4_block_88 : decode cX4_block 88 = .ok (.ior, 1) := by decide +kernel
theorem dX4_block_89 : decode cX4_block 89 = .ok (.iastore, 1) := by decide +kernel
theorem dX4_block_90 : decode cX4_block 90 = .ok (.goto 88, 3) := by decide +kernel
theorem dX4_block_93 : decode cX4_block 93 = .ok (.aload_n 0, 1) := by decide +kernel
theorem dX4_block_94 : decode cX4_block 94 = .ok (.getfield 42, 3) := by decide +kernel
theorem dX4_block_97 : decode cX4_block 97 = .ok (.iload_n 2, 1) := by decide +kernel
theorem dX4_block_98 : decode cX4_block 98 = .ok (.bipush 15, 2) := by decide +kernel
theorem dX4_block_100 : decode cX4_block 100 = .ok (.isub, 1) := by decide +kernel
theorem dX4_block_101 : decode cX4_block 101 = .ok (.iaload, 1) := by decide +kernel
theorem dX4_block_102 : decode cX4_block 102 = .ok (.istore_n 3, 1) := by decide +kernel
theorem dX4_block_103 : decode cX4_block 103 = .ok (.aload_n 0, 1) := by decide +kernel
theorem dX4_block_104 : decode cX4_block 104 = .ok (.getfield 42, 3) := by decide +kernel
theorem dX4_block_107 : decode cX4_block 107 = .ok (.iload_n 2, 1) := by decide +kernel
theorem dX4_block_108 : decode cX4_block 108 = .ok (.iconst 2, 1) := by decide +kernel
theorem dX4_block_109 : decode cX4_block 109 = .ok (.isub, 1) := by decide +kernel
theorem dX4_block_110 : decode cX4_block 110 = .ok (.iaload, 1) := by decide +kernel
theorem dX4_block_111 : decode cX4_block 111 = .ok (.istore 4, 2) := by decide +kernel
theorem dX4_block_113 : decode cX4_block 113 = .ok (.aload_n 0, 1) := by decide +kernel
theorem dX4_block_114 : decode cX4_block 114 = .ok (.getfield 42, 3) := by decide +kernel
theorem dX4_block_117 : decode cX4_block 117 = .ok (.iload_n 2, 1) := by decide +kernel
theorem dX4_block_118 : decode cX4_block 118 = .ok (.aload_n 0, 1) := by decide +kernel
theorem dX4_block_119 : decode cX4_block 119 = .ok (.getfield 42, 3) := by decide +kernel
theorem dX4_block_122 : decode cX4_block 122 = .ok (.iload_n 2, 1) := by decide +kernel
theorem dX4_block_123 : decode cX4_block 123 = .ok (.bipush 16, 2) := by decide +kernel
theorem dX4_block_125 : decode cX4_block 125 = .ok (.isub, 1) := by decide +kernel
theorem dX4_block_126 : decode cX4_block 126 = .ok (.iaload, 1) := by decide +kernel
theorem dX4_block_127 : decode cX4_block 127 = .ok (.aload_n 0, 1) := by decide +kernel
theorem dX4_block_128 : decode cX4_block 128 = .ok (.getfield 42, 3) := by decide +kernel
theorem dX4_block_131 : decode cX4_block 131 = .ok (.iload_n 2, 1) := by decide +kernel
theorem dX4_block_132 : decode cX4_block 132 = .ok (.bipush 7, 2) := by decide +kernel
theorem dX4_block_134 : decode cX4_block 134 = .ok (.isub, 1) := by decide +kernel
theorem dX4_block_135 : decode cX4_block 135 = .ok (.iaload, 1) := by decide +kernel
theorem dX4_block_136 : decode cX4_block 136 = .ok (.iadd, 1) := by decide +kernel
theorem dX4_block_137 : decode cX4_block 137 = .ok (.iload_n 3, 1) := by decide +kernel
theorem dX4_block_138 : decode cX4_block 138 = .ok (.bipush 7, 2) := by decide +kernel
theorem dX4_block_140 : decode cX4_block 140 = .ok (.invokestatic 127, 3) := by decide +kernel
theorem dX4_block_143 : decode cX4_block 143 = .ok (.iload_n 3, 1) := by decide +kernel
theorem dX4_block_144 : decode cX4_block 144 = .ok (.bipush 18, 2) := by decide +kernel
theorem dX4_block_146 : decode cX4_block 146 = .ok (.invokestatic 127, 3) := by decide +kernel
theorem dX4_block_149 : decode cX4_block 149 = .ok (.ixor, 1) := by decide +kernel
theorem dX4_block_150 : decode cX4_block 150 = .ok (.iload_n 3, 1) := by decide +kernel
theorem dX4_block_151 : decode cX4_block 151 = .ok (.iconst 3, 1) := by decide +kernel
theorem dX4_block_152 : decode cX4_block 152 = .ok (.iushr, 1) := by decide +kernel
theorem dX4_block_153 : decode cX4_block 153 = .ok (.ixor, 1) := by decide +kernel
theorem dX4_block_154 : decode cX4_block 154 = .ok (.iadd, 1) := by decide +kernel
theorem dX4_block_155 : decode cX4_block 155 = .ok (.iload 4, 2) := by decide +kernel
theorem dX4_block_157 : decode cX4_block 157 = .ok (.bipush 17, 2) := by decide +kernel
theorem dX4_block_159 : decode cX4_block 159 = .ok (.invokestatic 127, 3) := by decide +kernel
theorem dX4_block_162 : decode cX4_block 162 = .ok (.iload 4, 2) := by decide +kernel
theorem dX4_block_164 : decode cX4_block 164 = .ok (.bipush 19, 2) := by decide +kernel
theorem dX4_block_166 : decode cX4_block 166 = .ok (.invokestatic 127, 3) := by decide +kernel
theorem dX4_block_169 : decode cX4_block 169 = .ok (.ixor, 1) := by decide +kernel
theorem dX4_block_170 : decode cX4_block 170 = .ok (.iload 4, 2) := by decide +kernel
theorem dX4_block_172 : decode cX4_block 172 = .ok (.bipush 10, 2) := by decide +kernel
theorem dX4_block_174 : decode cX4_block 174 = .ok (.iushr, 1) := by decide +kernel
theorem dX4_block_175 : decode cX4_block 175 = .ok (.ixor, 1) := by decide +kernel
theorem dX4_block_176 : decode cX4_block 176 = .ok (.iadd, 1) := by decide +kernel
theorem dX4_block_177 : decode cX4_block 177 = .ok (.iastore, 1) := by decide +kernel
theorem dX4_block_178 : decode cX4_block 178 = .ok (.iinc 2 1, 3) := by decide +kernel
theorem dX4_block_181 : decode cX4_block 181 = .ok (.goto (-179), 3) := by decide +kernel
theorem dX4_block_184 : decode cX4_block 184 = .ok (.aload_n 0, 1) := by decide +kernel
theorem dX4_block_185 : decode cX4_block 185 = .ok (.getfield 48, 3) := by decide +kernel
theorem dX4_block_188 : decode cX4_block 188 = .ok (.iconst 0, 1) := by decide +kernel
theorem dX4_block_189 : decode cX4_block 189 = .ok (.iaload, 1) := by decide +kernel
theorem dX4_block_190 : decode cX4_block 190 = .ok (.istore_n 2, 1) := by decide +kernel
theorem dX4_block_191 : decode cX4_block 191 = .ok (.aload_n 0, 1) := by decide +kernel
theorem dX4_block_192 : decode cX4_block 192 = .ok (.getfield 48, 3) := by decide +kernel
theorem dX4_block_195 : decode cX4_block 195 = .ok (.iconst 1, 1) := by decide +kernel
theorem dX4_block_196 : decode cX4_block 196 = .ok (.iaload, 1) := by decide +kernel
theorem dX4_block_197 : decode cX4_block 197 = .ok (.istore_n 3, 1) := by decide +kernel
theorem dX4_block_198 : decode cX4_block 198 = .ok (.aload_n 0, 1) := by decide +kernel
theorem dX4_block_199 : decode cX4_block 199 = .ok (.getfield 48, 3) := by decide +kernel
theorem dX4_block_202 : decode cX4_block 202 = .ok (.iconst 2, 1) := by decide +kernel
theorem dX4_block_203 : decode cX4_block 203 = .ok (.iaload, 1) := by decide +kernel
theorem dX4_block_204 : decode cX4_block 204 = .ok (.istore 4, 2) := by decide +kernel
theorem dX4_block_206 : decode cX4_block 206 = .ok (.aload_n 0, 1) := by decide +kernel
theorem dX4_block_207 : decode cX4_block 207 = .ok (.getfield 48, 3) := by decide +kernel
theorem dX4_block_210 : decode cX4_block 210 = .ok (.iconst 3, 1) := by decide +kernel
theorem dX4_block_211 : decode cX4_block 211 = .ok (.iaload, 1) := by decide +kernel
theorem dX4_block_212 : decode cX4_block 212 = .ok (.istore 5, 2) := by decide +kernel
theorem dX4_block_214 : decode cX4_block 214 = .ok (.aload_n 0, 1) := by decide +kernel
theorem dX4_block_215 : decode cX4_block 215 = .ok (.getfield 48, 3) := by decide +kernel
theorem dX4_block_218 : decode cX4_block 218 = .ok (.iconst 4, 1) := by decide +kernel
theorem dX4_block_219 : decode cX4_block 219 = .ok (.iaload, 1) := by decide +kernel
theorem dX4_block_220 : decode cX4_block 220 = .ok (.istore 6, 2) := by decide +kernel
theorem dX4_block_222 : decode cX4_block 222 = .ok (.aload_n 0, 1) := by decide +kernel
theorem dX4_block_223 : decode cX4_block 223 = .ok (.getfield 48, 3) := by decide +kernel
theorem dX4_block_226 : decode cX4_block 226 = .ok (.iconst 5, 1) := by decide +kernel
theorem dX4_block_227 : decode cX4_block 227 = .ok (.iaload, 1) := by decide +kernel
theorem dX4_block_228 : decode cX4_block 228 = .ok (.istore 7, 2) := by decide +kernel
theorem dX4_block_230 : decode cX4_block 230 = .ok (.aload_n 0, 1) := by decide +kernel
theorem dX4_block_231 : decode cX4_block 231 = .ok (.getfield 48, 3) := by decide +kernel
theorem dX4_block_234 : decode cX4_block 234 = .ok (.bipush 6, 2) := by decide +kernel
theorem dX4_block_236 : decode cX4_block 236 = .ok (.iaload, 1) := by decide +kernel
theorem dX4_block_237 : decode cX4_block 237 = .ok (.istore 8, 2) := by decide +kernel
theorem dX4_block_239 : decode cX4_block 239 = .ok (.aload_n 0, 1) := by decide +kernel
theorem dX4_block_240 : decode cX4_block 240 = .ok (.getfield 48, 3) := by decide +kernel
theorem dX4_block_243 : decode cX4_block 243 = .ok (.bipush 7, 2) := by decide +kernel
theorem dX4_block_245 : decode cX4_block 245 = .ok (.iaload, 1) := by decide +kernel
theorem dX4_block_246 : decode cX4_block 246 = .ok (.istore 9, 2) := by decide +kernel
theorem dX4_block_248 : decode cX4_block 248 = .ok (.iconst 0, 1) := by decide +kernel
theorem dX4_block_249 : decode cX4_block 249 = .ok (.istore 10, 2) := by decide +kernel
theorem dX4_block_251 : decode cX4_block 251 = .ok (.iload 10, 2) := by decide +kernel
theorem dX4_block_253 : decode cX4_block 253 = .ok (.bipush 64, 2) := by decide +kernel
theorem dX4_block_255 : decode cX4_block 255 = .ok (.if_icmp .ge 135, 3) := by decide +kernel
theorem dX4_block_258 : decode cX4_block 258 = .ok (.iload 9, 2) := by decide +kernel
theorem dX4_block_260 : decode cX4_block 260 = .ok (.iload 6, 2) := by decide +kernel
theorem dX4_block_262 : decode cX4_block 262 = .ok (.bipush 6, 2) := by decide +kernel
theorem dX4_block_264 : decode cX4_block 264 = .ok (.invokestatic 127, 3) := by decide +kernel
theorem dX4_block_267 : decode cX4_block 267 = .ok (.iload 6, 2) := by decide +kernel
theorem dX4_block_269 : decode cX4_block 269 = .ok (.bipush 11, 2) := by decide +kernel
theorem dX4_block_271 : decode cX4_block 271 = .ok (.invokestatic 127, 3) := by decide +kernel
theorem dX4_block_274 : decode cX4_block 274 = .ok (.ixor, 1) := by decide +kernel
theorem dX4_block_275 : decode cX4_block 275 = .ok (.iload 6, 2) := by decide +kernel
theorem dX4_block_277 : decode cX4_block 277 = .ok (.bipush 25, 2) := by decide +kernel
theorem dX4_block_279 : decode cX4_block 279 = .ok (.invokestatic 127, 3) := by decide +kernel
theorem dX4_block_282 : decode cX4_block 282 = .ok (.ixor, 1) := by decide +kernel
theorem dX4_block_283 : decode cX4_block 283 = .ok (.iadd, 1) := by decide +kernel
theorem dX4_block_284 : decode cX4_block 284 = .ok (.iload 6, 2) := by decide +kernel
theorem dX4_block_286 : decode cX4_block 286 = .ok (.iload 7, 2) := by decide +kernel
theorem dX4_block_288 : decode cX4_block 288 = .ok (.iand, 1) := by decide +kernel
theorem dX4_block_289 : decode cX4_block 289 = .ok (.iload 6, 2) := by decide +kernel
theorem dX4_block_291 : decode cX4_block 291 = .ok (.iconst (-1), 1) := by decide +kernel
theorem dX4_block_292 : decode cX4_block 292 = .ok (.ixor, 1) := by decide +kernel
theorem dX4_block_293 : decode cX4_block 293 = .ok (.iload 8, 2) := by decide +kernel
theorem dX4_block_295 : decode cX4_block 295 = .ok (.iand, 1) := by decide +kernel
theorem dX4_block_296 : decode cX4_block 296 = .ok (.ixor, 1) := by decide +kernel
theorem dX4_block_297 : decode cX4_block 297 = .ok (.iadd, 1) := by decide +kernel
theorem dX4_block_298 : decode cX4_block 298 = .ok (.getstatic 130, 3) := by decide +kernel
theorem dX4_block_301 : decode cX4_block 301 = .ok (.iload 10, 2) := by decide +kernel
theorem dX4_block_303 : decode cX4_block 303 = .ok (.iaload, 1) := by decide +kernel
theorem dX4_block_304 : decode cX4_block 304 = .ok (.iadd, 1) := by decide +kernel
theorem dX4_block_305 : decode cX4_block 305 = .ok (.aload_n 0, 1) := by decide +kernel
theorem dX4_block_306 : decode cX4_block 306 = .ok (.getfield 42, 3) := by decide +kernel
theorem dX4_block_309 : decode cX4_block 309 = .ok (.iload 10, 2) := by decide +kernel
theorem dX4_block_311 : decode cX4_block 311 = .ok (.iaload, 1) := by decide +kernel
theorem dX4_block_312 : decode cX4_block 312 = .ok (.iadd, 1) := by decide +kernel
theorem dX4_block_313 : decode cX4_block 313 = .ok (.istore 11, 2) := by decide +kernel
theorem dX4_block_315 : decode cX4_block 315 = .ok (.iload_n 2, 1) := by decide +kernel
theorem dX4_block_316 : decode cX4_block 316 = .ok (.iconst 2, 1) := by decide +kernel
theorem dX4_block_317 : decode cX4_block 317 = .ok (.invokestatic 127, 3) := by decide +kernel
theorem dX4_block_320 : decode cX4_block 320 = .ok (.iload_n 2, 1) := by decide +kernel
theorem dX4_block_321 : decode cX4_block 321 = .ok (.bipush 13, 2) := by decide +kernel
theorem dX4_block_323 : decode cX4_block 323 = .ok (.invokestatic 127, 3) := by decide +kernel
theorem dX4_block_326 : decode cX4_block 326 = .ok (.ixor, 1) := by decide +kernel
theorem dX4_block_327 : decode cX4_block 327 = .ok (.iload_n 2, 1) := by decide +kernel
theorem dX4_block_328 : decode cX4_block 328 = .ok (.bipush 22, 2) := by decide +kernel
theorem dX4_block_330 : decode cX4_block 330 = .ok (.invokestatic 127, 3) := by decide +kernel
theorem dX4_block_333 : decode cX4_block 333 = .ok (.ixor, 1) := by decide +kernel
theorem dX4_block_334 : decode cX4_block 334 = .ok (.iload_n 2, 1) := by decide +kernel
theorem dX4_block_335 : decode cX4_block 335 = .ok (.iload_n 3, 1) := by decide +kernel
theorem dX4_block_336 : decode cX4_block 336 = .ok (.iand, 1) := by decide +kernel
theorem dX4_block_337 : decode cX4_block 337 = .ok (.iload_n 2, 1) := by decide +kernel
theorem dX4_block_338 : decode cX4_block 338 = .ok (.iload 4, 2) := by decide +kernel
theorem dX4_block_340 : decode cX4_block 340 = .ok (.iand, 1) := by decide +kernel
theorem dX4_block_341 : decode cX4_block 341 = .ok (.ixor, 1) := by decide +kernel
theorem dX4_block_342 : decode cX4_block 342 = .ok (.iload_n 3, 1) := by decide +kernel
theorem dX4_block_343 : decode cX4_block 343 = .ok (.iload 4, 2) := by decide +kernel
theorem dX4_block_345 : decode cX4_block 345 = .ok (.iand, 1) := by decide +kernel
theorem dX4_block_346 : decode cX4_block 346 = .ok (.ixor, 1) := by decide +kernel
theorem dX4_block_347 : decode cX4_block 347 = .ok (.iadd, 1) := by decide +kernel
theorem dX4_block_348 : decode cX4_block 348 = .ok (.istore 12, 2) := by decide +kernel
theorem dX4_block_350 : decode cX4_block 350 = .ok (.iload 8, 2) := by decide +kernel
theorem dX4_block_352 : decode cX4_block 352 = .ok (.istore 9, 2) := by decide +kernel
theorem dX4_block_354 : decode cX4_block 354 = .ok (.iload 7, 2) := by decide +kernel
theorem dX4_block_356 : decode cX4_block 356 = .ok (.istore 8, 2) := by decide +kernel
theorem dX4_block_358 : decode cX4_block 358 = .ok (.iload 6, 2) := by decide +kernel
theorem dX4_block_360 : decode cX4_block 360 = .ok (.istore 7, 2) := by decide +kernel
theorem dX4_block_362 : decode cX4_block 362 = .ok (.iload 5, 2) := by decide +kernel
theorem dX4_block_364 : decode cX4_block 364 = .ok (.iload 11, 2) := by decide +kernel
theorem dX4_block_366 : decode cX4_block 366 = .ok (.iadd, 1) := by decide +kernel
theorem dX4_block_367 : decode cX4_block 367 = .ok (.istore 6, 2) := by decide +kernel
theorem dX4_block_369 : decode cX4_block 369 = .ok (.iload 4, 2) := by decide +kernel
theorem dX4_block_371 : decode cX4_block 371 = .ok (.istore 5, 2) := by decide +kernel
theorem dX4_block_373 : decode cX4_block 373 = .ok (.iload_n 3, 1) := by decide +kernel
theorem dX4_block_374 : decode cX4_block 374 = .ok (.istore 4, 2) := by decide +kernel
theorem dX4_block_376 : decode cX4_block 376 = .ok (.iload_n 2, 1) := by decide +kernel
theorem dX4_block_377 : decode cX4_block 377 = .ok (.istore_n 3, 1) := by decide +kernel
theorem dX4_block_378 : decode cX4_block 378 = .ok (.iload 11, 2) := by decide +kernel
theorem dX4_block_380 : decode cX4_block 380 = .ok (.iload 12, 2) := by decide +kernel
theorem dX4_block_382 : decode cX4_block 382 = .ok (.iadd, 1) := by decide +kernel
theorem dX4_block_383 : decode cX4_block 383 = .ok (.istore_n 2, 1) := by decide +kernel
theorem dX4_block_384 : decode cX4_block 384 = .ok (.iinc 10 1, 3) := by decide +kernel
theorem dX4_block_387 : decode cX4_block 387 = .ok (.goto (-136), 3) := by decide +kernel
theorem dX4_block_390 : decode cX4_block 390 = .ok (.aload_n 0, 1) := by decide +kernel
theorem dX4_block_391 : decode cX4_block 391 = .ok (.getfield 48, 3) := by decide +kernel
theorem dX4_block_394 : decode cX4_block 394 = .ok (.iconst 0, 1) := by decide +kernel
theorem dX4_block_395 : decode cX4_block 395 = .ok (.dup2, 1) := by decide +kernel
theorem dX4_block_396 : decode cX4_block 396 = .ok (.iaload, 1) := by decide +kernel
theorem dX4_block_397 : decode cX4_block 397 = .ok (.iload_n 2, 1) := by decide +kernel
theorem dX4_block_398 : decode cX4_block 398 = .ok (.iadd, 1) := by decide +kernel
theorem dX4_block_399 : decode cX4_block 399 = .ok (.iastore, 1) := by decide +kernel
theorem dX4_block_400 : decode cX4_block 400 = .ok (.aload_n 0, 1) := by decide +kernel
theorem dX4_block_401 : decode cX4_block 401 = .ok (.getfield 48, 3) := by decide +kernel
theorem dX4_block_404 : decode cX4_block 404 = .ok (.iconst 1, 1) := by decide +kernel
theorem dX4_block_405 : decode cX4_block 405 = .ok (.dup2, 1) := by decide +kernel
theorem dX4_block_406 : decode cX4_block 406 = .ok (.iaload, 1) := by decide +kernel
theorem dX4_block_407 : decode cX4_block 407 = .ok (.iload_n 3, 1) := by decide +kernel
theorem dX4_block_408 : decode cX4_block 408 = .ok (.iadd, 1) := by decide +kernel
theorem dX4_block_409 : decode cX4_block 409 = .ok (.iastore, 1) := by decide +kernel
theorem dX4_block_410 : decode cX4_block 410 = .ok (.aload_n 0, 1) := by decide +kernel
theorem dX4_block_411 : decode cX4_block 411 = .ok (.getfield 48, 3) := by decide +kernel
theorem dX4_block_414 : decode cX4_block 414 = .ok (.iconst 2, 1) := by decide +kernel
theorem dX4_block_415 : decode cX4_block 415 = .ok (.dup2, 1) := by decide +kernel
theorem dX4_block_416 : decode cX4_block 416 = .ok (.iaload, 1) := by decide +kernel
theorem dX4_block_417 : decode cX4_block 417 = .ok (.iload 4, 2) := by decide +kernel
theorem dX4_block_419 : decode cX4_block 419 = .ok (.iadd, 1) := by decide +kernel
theorem dX4_block_420 : decode cX4_block 420 = .ok (.iastore, 1) := by decide +kernel
theorem dX4_block_421 : decode cX4_block 421 = .ok (.aload_n 0, 1) := by decide +kernel
theorem dX4_block_422 : decode cX4_block 422 = .ok (.getfield 48, 3) := by decide +kernel
theorem dX4_block_425 : decode cX4_block 425 = .ok (.iconst 3, 1) := by decide +kernel
theorem dX4_block_426 : decode cX4_block 426 = .ok (.dup2, 1) := by decide +kernel
theorem dX4_block_427 : decode cX4_block 427 = .ok (.iaload, 1) := by decide +kernel
theorem dX4_block_428 : decode cX4_block 428 = .ok (.iload 5, 2) := by decide +kernel
theorem dX4_block_430 : decode cX4_block 430 = .ok (.iadd, 1) := by decide +kernel
theorem dX4_block_431 : decode cX4_block 431 = .ok (.iastore, 1) := by decide +kernel
theorem dX4_block_432 : decode cX4_block 432 = .ok (.aload_n 0, 1) := by decide +kernel
theorem dX4_block_433 : decode cX4_block 433 = .ok (.getfield 48, 3) := by decide +kernel
theorem dX4_block_436 : decode cX4_block 436 = .ok (.iconst 4, 1) := by decide +kernel
theorem dX4_block_437 : decode cX4_block 437 = .ok (.dup2, 1) := by decide +kernel
theorem dX4_block_438 : decode cX4_block 438 = .ok (.iaload, 1) := by decide +kernel
theorem dX4_block_439 : decode cX4_block 439 = .ok (.iload 6, 2) := by decide +kernel
theorem dX4_block_441 : decode cX4_block 441 = .ok (.iadd, 1) := by decide +kernel
theorem dX4_block_442 : decode cX4_block 442 = .ok (.iastore, 1) := by decide +kernel
theorem dX4_block_443 : decode cX4_block 443 = .ok (.aload_n 0, 1) := by decide +kernel
theorem dX4_block_444 : decode cX4_block 444 = .ok (.getfield 48, 3) := by decide +kernel
theorem dX4_block_447 : decode cX4_block 447 = .ok (.iconst 5, 1) := by decide +kernel
theorem dX4_block_448 : decode cX4_block 448 = .ok (.dup2, 1) := by decide +kernel
theorem dX4_block_449 : decode cX4_block 449 = .ok (.iaload, 1) := by decide +kernel
theorem dX4_block_450 : decode cX4_block 450 = .ok (.iload 7, 2) := by decide +kernel
theorem dX4_block_452 : decode cX4_block 452 = .ok (.iadd, 1) := by decide +kernel
theorem dX4_block_453 : decode cX4_block 453 = .ok (.iastore, 1) := by decide +kernel
theorem dX4_block_454 : decode cX4_block 454 = .ok (.aload_n 0, 1) := by decide +kernel
theorem dX4_block_455 : decode cX4_block 455 = .ok (.getfield 48, 3) := by decide +kernel
theorem dX4_block_458 : decode cX4_block 458 = .ok (.bipush 6, 2) := by decide +kernel
theorem dX4_block_460 : decode cX4_block 460 = .ok (.dup2, 1) := by decide +kernel
theorem dX4_block_461 : decode cX4_block 461 = .ok (.iaload, 1) := by decide +kernel
theorem dX4_block_462 : decode cX4_block 462 = .ok (.iload 8, 2) := by decide +kernel
theorem dX4_block_464 : decode cX4_block 464 = .ok (.iadd, 1) := by decide +kernel
theorem dX4_block_465 : decode cX4_block 465 = .ok (.iastore, 1) := by decide +kernel
theorem dX4_block_466 : decode cX4_block 466 = .ok (.aload_n 0, 1) := by decide +kernel
theorem dX4_block_467 : decode cX4_block 467 = .ok (.getfield 48, 3) := by decide +kernel
theorem dX4_block_470 : decode cX4_block 470 = .ok (.bipush 7, 2) := by decide +kernel
theorem dX4_block_472 : decode cX4_block 472 = .ok (.dup2, 1) := by decide +kernel
theorem dX4_block_473 : decode cX4_block 473 = .ok (.iaload, 1) := by decide +kernel
theorem dX4_block_474 : decode cX4_block 474 = .ok (.iload 9, 2) := by decide +kernel
theorem dX4_block_476 : decode cX4_block 476 = .ok (.iadd, 1) := by decide +kernel
theorem dX4_block_477 : decode cX4_block 477 = .ok (.iastore, 1) := by decide +kernel
theorem dX4_block_478 : decode cX4_block 478 = .ok (.return_, 1) := by decide +kernel
theorem dX4_feed_0 : decode cX4_feed 0 = .ok (.aload_n 0, 1) := by decide +kernel
theorem dX4_feed_1 : decode cX4_feed 1 = .ok (.getfield 133, 3) := by decide +kernel
theorem dX4_feed_4 : decode cX4_feed 4 = .ok (.bipush 20, 2) := by decide +kernel
theorem dX4_feed_6 : decode cX4_feed 6 = .ok (.iadd, 1) := by decide +kernel
theorem dX4_feed_7 : decode cX4_feed 7 = .ok (.sipush 1024, 3) := by decide +kernel
theorem dX4_feed_10 : decode cX4_feed 10 = .ok (.if_icmp .le 5, 3) := by decide +kernel
theorem dX4_feed_13 : decode cX4_feed 13 = .ok (.iconst (-1), 1) := by decide +kernel
theorem dX4_feed_14 : decode cX4_feed 14 = .ok (.ireturn, 1) := by decide +kernel
theorem dX4_feed_15 : decode cX4_feed 15 = .ok (.aload_n 0, 1) := by decide +kernel
theorem dX4_feed_16 : decode cX4_feed 16 = .ok (.getfield 51, 3) := by decide +kernel
theorem dX4_feed_19 : decode cX4_feed 19 = .ok (.iconst 0, 1) := by decide +kernel
theorem dX4_feed_20 : decode cX4_feed 20 = .ok (.iload_n 1, 1) := by decide +kernel
theorem dX4_feed_21 : decode cX4_feed 21 = .ok (.iastore, 1) := by decide +kernel
theorem dX4_feed_22 : decode cX4_feed 22 = .ok (.aload_n 0, 1) := by decide +kernel
theorem dX4_feed_23 : decode cX4_feed 23 = .ok (.getfield 51, 3) := by decide +kernel
theorem dX4_feed_26 : decode cX4_feed 26 = .ok (.iconst 1, 1) := by decide +kernel
theorem dX4_feed_27 : decode cX4_feed 27 = .ok (.iload_n 2, 1) := by decide +kernel
theorem dX4_feed_28 : decode cX4_feed 28 = .ok (.iastore, 1) := by decide +kernel
theorem dX4_feed_29 : decode cX4_feed 29 = .ok (.aload_n 0, 1) := by decide +kernel
theorem dX4_feed_30 : decode cX4_feed 30 = .ok (.getfield 51, 3) := by decide +kernel
theorem dX4_feed_33 : decode cX4_feed 33 = .ok (.iconst 2, 1) := by decide +kernel
theorem dX4_feed_34 : decode cX4_feed 34 = .ok (.iload_n 3, 1) := by decide +kernel
theorem dX4_feed_35 : decode cX4_feed 35 = .ok (.iastore, 1) := by decide +kernel
theorem dX4_feed_36 : decode cX4_feed 36 = .ok (.aload_n 0, 1) := by decide +kernel
theorem dX4_feed_37 : decode cX4_feed 37 = .ok (.getfield 51, 3) := by decide +kernel
theorem dX4_feed_40 : decode cX4_feed 40 = .ok (.iconst 3, 1) := by decide +kernel
theorem dX4_feed_41 : decode cX4_feed 41 = .ok (.iload 4, 2) := by decide +kernel
theorem dX4_feed_43 : decode cX4_feed 43 = .ok (.iastore, 1) := by decide +kernel
theorem dX4_feed_44 : decode cX4_feed 44 = .ok (.aload_n 0, 1) := by decide +kernel
theorem dX4_feed_45 : decode cX4_feed 45 = .ok (.getfield 51, 3) := by decide +kernel
theorem dX4_feed_48 : decode cX4_feed 48 = .ok (.iconst 4, 1) := by decide +kernel
theorem dX4_feed_49 : decode cX4_feed 49 = .ok (.iload 5, 2) := by decide +kernel
theorem dX4_feed_51 : decode cX4_feed 51 = .ok (.iastore, 1) := by decide +kernel
theorem dX4_feed_52 : decode cX4_feed 52 = .ok (.iconst 0, 1) := by decide +kernel
theorem dX4_feed_53 : decode cX4_feed 53 = .ok (.istore 6, 2) := by decide +kernel
theorem dX4_feed_55 : decode cX4_feed 55 = .ok (.iload 6, 2) := by decide +kernel
theorem dX4_feed_57 : decode cX4_feed 57 = .ok (.bipush 20, 2) := by decide +kernel
theorem dX4_feed_59 : decode cX4_feed 59 = .ok (.if_icmp .ge 42, 3) := by decide +kernel
theorem dX4_feed_62 : decode cX4_feed 62 = .ok (.aload_n 0, 1) := by decide +kernel
theorem dX4_feed_63 : decode cX4_feed 63 = .ok (.getfield 26, 3) := by decide +kernel
theorem dX4_feed_66 : decode cX4_feed 66 = .ok (.aload_n 0, 1) := by decide +kernel
theorem dX4_feed_67 : decode cX4_feed 67 = .ok (.getfield 133, 3) := by decide +kernel
theorem dX4_feed_70 : decode cX4_feed 70 = .ok (.iload 6, 2) := by decide +kernel
theorem dX4_feed_72 : decode cX4_feed 72 = .ok (.iadd, 1) := by decide +kernel
theorem dX4_feed_73 : decode cX4_feed 73 = .ok (.aload_n 0, 1) := by decide +kernel
theorem dX4_feed_74 : decode cX4_feed 74 = .ok (.getfield 51, 3) := by decide +kernel
theorem dX4_feed_77 : decode cX4_feed 77 = .ok (.iload 6, 2) := by decide +kernel
theorem dX4_feed_79 : decode cX4_feed 79 = .ok (.iconst 4, 1) := by decide +kernel
theorem dX4_feed_80 : decode cX4_feed 80 = .ok (.idiv, 1) := by decide +kernel
theorem dX4_feed_81 : decode cX4_feed 81 = .ok (.iaload, 1) := by decide +kernel
theorem dX4_feed_82 : decode cX4_feed 82 = .ok (.bipush 24, 2) := by decide +kernel
theorem dX4_feed_84 : decode cX4_feed 84 = .ok (.bipush 8, 2) := by decide +kernel
theorem dX4_feed_86 : decode cX4_feed 86 = .ok (.iload 6, 2) := by decide +kernel
theorem dX4_feed_88 : decode cX4_feed 88 = .ok (.iconst 4, 1) := by decide +kernel
theorem dX4_feed_89 : decode cX4_feed 89 = .ok (.irem, 1) := by decide +kernel
theorem dX4_feed_90 : decode cX4_feed 90 = .ok (.imul, 1) := by decide +kernel
theorem dX4_feed_91 : decode cX4_feed 91 = .ok (.isub, 1) := by decide +kernel
theorem dX4_feed_92 : decode cX4_feed 92 = .ok (.ishr, 1) := by decide +kernel
theorem dX4_feed_93 : decode cX4_feed 93 = .ok (.i2b, 1) := by decide +kernel
theorem dX4_feed_94 : decode cX4_feed 94 = .ok (.bastore, 1) := by decide +kernel
theorem dX4_feed_95 : decode cX4_feed 95 = .ok (.iinc 6 1, 3) := by decide +kernel
theorem dX4_feed_98 : decode cX4_feed 98 = .ok (.goto (-43), 3) := by decide +kernel
theorem dX4_feed_101 : decode cX4_feed 101 = .ok (.aload_n 0, 1) := by decide +kernel
theorem dX4_feed_102 : decode cX4_feed 102 = .ok (.dup, 1) := by decide +kernel
theorem dX4_feed_103 : decode cX4_feed 103 = .ok (.getfield 133, 3) := by decide +kernel
theorem dX4_feed_106 : decode cX4_feed 106 = .ok (.bipush 20, 2) := by decide +kernel
theorem dX4_feed_108 : decode cX4_feed 108 = .ok (.iadd, 1) := by decide +kernel
theorem dX4_feed_109 : decode cX4_feed 109 = .ok (.putfield 133, 3) := by decide +kernel
theorem dX4_feed_112 : decode cX4_feed 112 = .ok (.aload_n 0, 1) := by decide +kernel
theorem dX4_feed_113 : decode cX4_feed 113 = .ok (.getfield 133, 3) := by decide +kernel
theorem dX4_feed_116 : decode cX4_feed 116 = .ok (.ireturn, 1) := by decide +kernel
theorem dX4_end_0 : decode cX4_end 0 = .ok (.iload_n 1, 1) := by decide +kernel
theorem dX4_end_1 : decode cX4_end 1 = .ok (.ifCond .lt 11, 3) := by decide +kernel
theorem dX4_end_4 : decode cX4_end 4 = .ok (.iload_n 1, 1) := by decide +kernel
theorem dX4_end_5 : decode cX4_end 5 = .ok (.aload_n 0, 1) := by decide +kernel
theorem dX4_end_6 : decode cX4_end 6 = .ok (.getfield 133, 3) := by decide +kernel
theorem dX4_end_9 : decode cX4_end 9 = .ok (.if_icmp .le 5, 3) := by decide +kernel
theorem dX4_end_12 : decode cX4_end 12 = .ok (.iconst 0, 1) := by decide +kernel
theorem dX4_end_13 : decode cX4_end 13 = .ok (.ireturn, 1) := by decide +kernel
theorem dX4_end_14 : decode cX4_end 14 = .ok (.aload_n 0, 1) := by decide +kernel
theorem dX4_end_15 : decode cX4_end 15 = .ok (.iload_n 1, 1) := by decide +kernel
theorem dX4_end_16 : decode cX4_end 16 = .ok (.putfield 133, 3) := by decide +kernel
theorem dX4_end_19 : decode cX4_end 19 = .ok (.iconst 1, 1) := by decide +kernel
theorem dX4_end_20 : decode cX4_end 20 = .ok (.ireturn, 1) := by decide +kernel
theorem dX4_taped_0 : decode cX4_taped 0 = .ok (.aload_n 0, 1) := by decide +kernel
theorem dX4_taped_1 : decode cX4_taped 1 = .ok (.getfield 133, 3) := by decide +kernel
theorem dX4_taped_4 : decode cX4_taped 4 = .ok (.ireturn, 1) := by decide +kernel
set_option maxRecDepth 20000 in
theorem ggX4_pack_X4_sha : GoodIn wsX4_pack wsX4_sha := goodIn_r _ [8, 9, 10, 11, 3, 12, 13, 14, 7, 15, 16, 17, 18, 19, 20, 21, 22, 23, 24, 25, 26, 27, 28, 29, 30, 31, 32, 33, 34, 35, 36, 37, 38, 39, 40, 41, 42, 43, 44, 45, 46] (by decide +kernel) (by decide +kernel)
set_option maxRecDepth 20000 in
theorem gX4_pack_X4_sha : GoodIn wsX4_pack (wsV RX4 106 RX4 yX4_sha wsX4_sha) := goodIn_app (goodIn_of _ (by decide +kernel)) ggX4_pack_X4_sha
theorem dX4_pack_0 : decode cX4_pack 0 = .ok (.aload_n 0, 1) := by decide +kernel
theorem dX4_pack_1 : decode cX4_pack 1 = .ok (.getfield 133, 3) := by decide +kernel
theorem dX4_pack_4 : decode cX4_pack 4 = .ok (.istore_n 2, 1) := by decide +kernel
theorem dX4_pack_5 : decode cX4_pack 5 = .ok (.iload_n 2, 1) := by decide +kernel
theorem dX4_pack_6 : decode cX4_pack 6 = .ok (.sipush 984, 3) := by decide +kernel
theorem dX4_pack_9 : decode cX4_pack 9 = .ok (.if_icmp .le 5, 3) := by decide +kernel
theorem dX4_pack_12 : decode cX4_pack 12 = .ok (.iconst (-1), 1) := by decide +kernel
theorem dX4_pack_13 : decode cX4_pack 13 = .ok (.ireturn, 1) := by decide +kernel
theorem dX4_pack_14 : decode cX4_pack 14 = .ok (.iload_n 2, 1) := by decide +kernel
theorem dX4_pack_15 : decode cX4_pack 15 = .ok (.iconst 1, 1) := by decide +kernel
theorem dX4_pack_16 : decode cX4_pack 16 = .ok (.isub, 1) := by decide +kernel
theorem dX4_pack_17 : decode cX4_pack 17 = .ok (.istore_n 3, 1) := by decide +kernel
theorem dX4_pack_18 : decode cX4_pack 18 = .ok (.iload_n 3, 1) := by decide +kernel
theorem dX4_pack_19 : decode cX4_pack 19 = .ok (.ifCond .lt 24, 3) := by decide +kernel
theorem dX4_pack_22 : decode cX4_pack 22 = .ok (.aload_n 0, 1) := by decide +kernel
theorem dX4_pack_23 : decode cX4_pack 23 = .ok (.getfield 26, 3) := by decide +kernel
theorem dX4_pack_26 : decode cX4_pack 26 = .ok (.iload_n 3, 1) := by decide +kernel
theorem dX4_pack_27 : decode cX4_pack 27 = .ok (.bipush 8, 2) := by decide +kernel
theorem dX4_pack_29 : decode cX4_pack 29 = .ok (.iadd, 1) := by decide +kernel
theorem dX4_pack_30 : decode cX4_pack 30 = .ok (.aload_n 0, 1) := by decide +kernel
theorem dX4_pack_31 : decode cX4_pack 31 = .ok (.getfield 26, 3) := by decide +kernel
theorem dX4_pack_34 : decode cX4_pack 34 = .ok (.iload_n 3, 1) := by decide +kernel
theorem dX4_pack_35 : decode cX4_pack 35 = .ok (.baload, 1) := by decide +kernel
theorem dX4_pack_36 : decode cX4_pack 36 = .ok (.bastore, 1) := by decide +kernel
theorem dX4_pack_37 : decode cX4_pack 37 = .ok (.iinc 3 (-1), 3) := by decide +kernel
theorem dX4_pack_40 : decode cX4_pack 40 = .ok (.goto (-22), 3) := by decide +kernel
theorem dX4_pack_43 : decode cX4_pack 43 = .ok (.iconst 0, 1) := by decide +kernel
theorem dX4_pack_44 : decode cX4_pack 44 = .ok (.istore_n 3, 1) := by decide +kernel
theorem dX4_pack_45 : decode cX4_pack 45 = .ok (.iload_n 3, 1) := by decide +kernel
theorem dX4_pack_46 : decode cX4_pack 46 = .ok (.iconst 4, 1) := by decide +kernel
theorem dX4_pack_47 : decode cX4_pack 47 = .ok (.if_icmp .ge 37, 3) := by decide +kernel
theorem dX4_pack_50 : decode cX4_pack 50 = .ok (.aload_n 0, 1) := by decide +kernel
theorem dX4_pack_51 : decode cX4_pack 51 = .ok (.getfield 26, 3) := by decide +kernel
theorem dX4_pack_54 : decode cX4_pack 54 = .ok (.iload_n 3, 1) := by decide +kernel
theorem dX4_pack_55 : decode cX4_pack 55 = .ok (.iload_n 2, 1) := by decide +kernel
theorem dX4_pack_56 : decode cX4_pack 56 = .ok (.bipush 8, 2) := by decide +kernel
theorem dX4_pack_58 : decode cX4_pack 58 = .ok (.iload_n 3, 1) := by decide +kernel
theorem dX4_pack_59 : decode cX4_pack 59 = .ok (.imul, 1) := by decide +kernel
theorem dX4_pack_60 : decode cX4_pack 60 = .ok (.ishr, 1) := by decide +kernel
theorem dX4_pack_61 : decode cX4_pack 61 = .ok (.i2b, 1) := by decide +kernel
theorem dX4_pack_62 : decode cX4_pack 62 = .ok (.bastore, 1) := by decide +kernel
theorem dX4_pack_63 : decode cX4_pack 63 = .ok (.aload_n 0, 1) := by decide +kernel
theorem dX4_pack_64 : decode cX4_pack 64 = .ok (.getfield 26, 3) := by decide +kernel
theorem dX4_pack_67 : decode cX4_pack 67 = .ok (.iconst 4, 1) := by decide +kernel
theorem dX4_pack_68 : decode cX4_pack 68 = .ok (.iload_n 3, 1) := by decide +kernel
theorem dX4_pack_69 : decode cX4_pack 69 = .ok (.iadd, 1) := by decide +kernel
theorem dX4_pack_70 : decode cX4_pack 70 = .ok (.iload_n 1, 1) := by decide +kernel
theorem dX4_pack_71 : decode cX4_pack 71 = .ok (.bipush 8, 2) := by decide +kernel
theorem dX4_pack_73 : decode cX4_pack 73 = .ok (.iload_n 3, 1) := by decide +kernel
theorem dX4_pack_74 : decode cX4_pack 74 = .ok (.imul, 1) := by decide +kernel
theorem dX4_pack_75 : decode cX4_pack 75 = .ok (.ishr, 1) := by decide +kernel
theorem dX4_pack_76 : decode cX4_pack 76 = .ok (.i2b, 1) := by decide +kernel
theorem dX4_pack_77 : decode cX4_pack 77 = .ok (.bastore, 1) := by decide +kernel
theorem dX4_pack_78 : decode cX4_pack 78 = .ok (.iinc 3 1, 3) := by decide +kernel
theorem dX4_pack_81 : decode cX4_pack 81 = .ok (.goto (-36), 3) := by decide +kernel
theorem dX4_pack_84 : decode cX4_pack 84 = .ok (.aload_n 0, 1) := by decide +kernel
theorem dX4_pack_85 : decode cX4_pack 85 = .ok (.aload_n 0, 1) := by decide +kernel
theorem dX4_pack_86 : decode cX4_pack 86 = .ok (.getfield 26, 3) := by decide +kernel
theorem dX4_pack_89 : decode cX4_pack 89 = .ok (.iconst 0, 1) := by decide +kernel
theorem dX4_pack_90 : decode cX4_pack 90 = .ok (.iload_n 2, 1) := by decide +kernel
theorem dX4_pack_91 : decode cX4_pack 91 = .ok (.bipush 8, 2) := by decide +kernel
theorem dX4_pack_93 : decode cX4_pack 93 = .ok (.iadd, 1) := by decide +kernel
theorem dX4_pack_94 : decode cX4_pack 94 = .ok (.invokevirtual 106, 3) := by decide +kernel
theorem dX4_pack_97 : decode cX4_pack 97 = .ok (.iconst 0, 1) := by decide +kernel
theorem dX4_pack_98 : decode cX4_pack 98 = .ok (.istore_n 3, 1) := by decide +kernel
theorem dX4_pack_99 : decode cX4_pack 99 = .ok (.iload_n 3, 1) := by decide +kernel
theorem dX4_pack_100 : decode cX4_pack 100 = .ok (.bipush 32, 2) := by decide +kernel
theorem dX4_pack_102 : decode cX4_pack 102 = .ok (.if_icmp .ge 26, 3) := by decide +kernel
theorem dX4_pack_105 : decode cX4_pack 105 = .ok (.aload_n 0, 1) := by decide +kernel
theorem dX4_pack_106 : decode cX4_pack 106 = .ok (.getfield 26, 3) := by decide +kernel
theorem dX4_pack_109 : decode cX4_pack 109 = .ok (.iload_n 2, 1) := by decide +kernel
theorem dX4_pack_110 : decode cX4_pack 110 = .ok (.bipush 8, 2) := by decide +kernel
theorem dX4_pack_112 : decode cX4_pack 112 = .ok (.iadd, 1) := by decide +kernel
theorem dX4_pack_113 : decode cX4_pack 113 = .ok (.iload_n 3, 1) := by decide +kernel
theorem dX4_pack_114 : decode cX4_pack 114 = .ok (.iadd, 1) := by decide +kernel
theorem dX4_pack_115 : decode cX4_pack 115 = .ok (.aload_n 0, 1) := by decide +kernel
theorem dX4_pack_116 : decode cX4_pack 116 = .ok (.getfield 39, 3) := by decide +kernel
theorem dX4_pack_119 : decode cX4_pack 119 = .ok (.iload_n 3, 1) := by decide +kernel
theorem dX4_pack_120 : decode cX4_pack 120 = .ok (.baload, 1) := by decide +kernel
theorem dX4_pack_121 : decode cX4_pack 121 = .ok (.bastore, 1) := by decide +kernel
theorem dX4_pack_122 : decode cX4_pack 122 = .ok (.iinc 3 1, 3) := by decide +kernel
theorem dX4_pack_125 : decode cX4_pack 125 = .ok (.goto (-26), 3) := by decide +kernel
theorem dX4_pack_128 : decode cX4_pack 128 = .ok (.aload_n 0, 1) := by decide +kernel
theorem dX4_pack_129 : decode cX4_pack 129 = .ok (.iload_n 2, 1) := by decide +kernel
theorem dX4_pack_130 : decode cX4_pack 130 = .ok (.bipush 40, 2) := by decide +kernel
theorem dX4_pack_132 : decode cX4_pack 132 = .ok (.iadd, 1) := by decide +kernel
theorem dX4_pack_133 : decode cX4_pack 133 = .ok (.putfield 133, 3) := by decide +kernel
theorem dX4_pack_136 : decode cX4_pack 136 = .ok (.aload_n 0, 1) := by decide +kernel
theorem dX4_pack_137 : decode cX4_pack 137 = .ok (.getfield 133, 3) := by decide +kernel
theorem dX4_pack_140 : decode cX4_pack 140 = .ok (.ireturn, 1) := by decide +kernel
set_option maxRecDepth 20000 in
theorem ggX4_install_X4_due : GoodIn wsX4_install wsX4_due := goodIn_r _ [10, 11, 12, 13, 9, 14, 15, 16, 17, 18, 19, 20, 21, 22, 23, 24, 25, 26, 27, 28, 29, 30, 31, 32, 33, 34, 35, 36, 37, 38, 39, 40, 41, 42, 43, 44, 45, 46, 47, 48, 84, 85, 86, 87, 88, 89, 90, 91, 92, 93, 94, 95, 96, 97, 98, 99, 100, 101, 102, 103, 104, 105, 106, 107, 108, 109] (by decide +kernel) (by decide +kernel)
set_option maxRecDepth 20000 in
theorem gX4_install_X4_due : GoodIn wsX4_install (wsV RX4 136 RX4 yX4_due wsX4_due) := goodIn_app (goodIn_of _ (by decide +kernel)) ggX4_install_X4_due
set_option maxRecDepth 20000 in
theorem ggX4_install_X4_begins : GoodIn wsX4_install wsX4_begins := goodIn_r _ [52, 53, 11, 54, 55, 84, 85, 86, 87, 88, 89, 90, 91, 92, 93, 94, 95, 96, 97, 98, 99, 100, 101, 102, 103, 104, 105, 106, 107, 108, 109] (by decide +kernel) (by decide +kernel)
set_option maxRecDepth 20000 in
theorem gX4_install_X4_begins : GoodIn wsX4_install (wsV RX4 140 RX4 yX4_begins wsX4_begins) := goodIn_app (goodIn_of _ (by decide +kernel)) ggX4_install_X4_begins
set_option maxRecDepth 20000 in
theorem ggX4_install_X4_erase : GoodIn wsX4_install wsX4_erase := goodIn_r _ [59, 53, 60, 54, 61, 84, 85, 86, 87, 88, 89, 90, 91, 92, 93, 94, 95, 96, 97, 98, 99, 100, 101, 102, 103, 104, 105, 106, 107, 108, 109] (by decide +kernel) (by decide +kernel)
set_option maxRecDepth 20000 in
theorem gX4_install_X4_erase : GoodIn wsX4_install (wsV RX4 143 RX4 yX4_erase wsX4_erase) := goodIn_app (goodIn_of _ (by decide +kernel)) ggX4_install_X4_erase
set_option maxRecDepth 20000 in
theorem ggX4_install_X4_isBlank : GoodIn wsX4_install wsX4_isBlank := goodIn_r _ [64] (by decide +kernel) (by decide +kernel)
set_option maxRecDepth 20000 in
theorem gX4_install_X4_isBlank : GoodIn wsX4_install (va_wsS RX4 71 yX4_isBlank wsX4_isBlank) := goodIn_app (goodIn_of _ (by decide +kernel)) ggX4_install_X4_isBlank
set_option maxRecDepth 20000 in
theorem ggX4_install_X4_unit : GoodIn wsX4_install wsX4_unit := goodIn_r _ [17] (by decide +kernel) (by decide +kernel)
set_option maxRecDepth 20000 in
theorem gX4_install_X4_unit : GoodIn wsX4_install (va_wsS RX4 60 yX4_unit wsX4_unit) := goodIn_app (goodIn_of _ (by decide +kernel)) ggX4_install_X4_unit
set_option maxRecDepth 20000 in
theorem ggX4_install_X4_write : GoodIn wsX4_install wsX4_write := goodIn_r _ [68, 69, 54, 53, 60, 61, 84, 85, 86, 87, 88, 89, 90, 91, 92, 93, 94, 95, 96, 97, 98, 99, 100, 101, 102, 103, 104, 105, 106, 107, 108, 109] (by decide +kernel) (by decide +kernel)
set_option maxRecDepth 20000 in
theorem gX4_install_X4_write : GoodIn wsX4_install (wsV RX4 64 RX4 yX4_write wsX4_write) := goodIn_app (goodIn_of _ (by decide +kernel)) ggX4_install_X4_write
set_option maxRecDepth 20000 in
theorem ggX4_install_X4_does : GoodIn wsX4_install wsX4_does := goodIn_r _ [73, 54, 74, 75, 55, 76, 60, 77, 78, 11, 2, 3, 79, 80, 81, 82, 9, 83, 61, 69, 84, 85, 86, 87, 88, 89, 90, 91, 92, 93, 94, 95, 96, 97, 98, 99, 100, 101, 102, 103, 104, 105, 106, 107, 108, 109] (by decide +kernel) (by decide +kernel)
set_option maxRecDepth 20000 in
theorem gX4_install_X4_does : GoodIn wsX4_install (wsV RX4 146 RX4 yX4_does wsX4_does) := goodIn_app (goodIn_of _ (by decide +kernel)) ggX4_install_X4_does
theorem dX4_install_0 : decode cX4_install 0 = .ok (.aload_n 0, 1) := by decide +kernel
theorem dX4_install_1 : decode cX4_install 1 = .ok (.getfield 133, 3) := by decide +kernel
theorem dX4_install_4 : decode cX4_install 4 = .ok (.istore_n 2, 1) := by decide +kernel
theorem dX4_install_5 : decode cX4_install 5 = .ok (.aload_n 0, 1) := by decide +kernel
theorem dX4_install_6 : decode cX4_install 6 = .ok (.iconst 0, 1) := by decide +kernel
theorem dX4_install_7 : decode cX4_install 7 = .ok (.putfield 133, 3) := by decide +kernel
theorem dX4_install_10 : decode cX4_install 10 = .ok (.aload_n 0, 1) := by decide +kernel
theorem dX4_install_11 : decode cX4_install 11 = .ok (.getfield 88, 3) := by decide +kernel
theorem dX4_install_14 : decode cX4_install 14 = .ok (.ifCond .eq 6, 3) := by decide +kernel
theorem dX4_install_17 : decode cX4_install 17 = .ok (.bipush (-9), 2) := by decide +kernel
theorem dX4_install_19 : decode cX4_install 19 = .ok (.ireturn, 1) := by decide +kernel
theorem dX4_install_20 : decode cX4_install 20 = .ok (.iload_n 1, 1) := by decide +kernel
theorem dX4_install_21 : decode cX4_install 21 = .ok (.ifCond .eq 10, 3) := by decide +kernel
theorem dX4_install_24 : decode cX4_install 24 = .ok (.iload_n 1, 1) := by decide +kernel
theorem dX4_install_25 : decode cX4_install 25 = .ok (.iconst 1, 1) := by decide +kernel
theorem dX4_install_26 : decode cX4_install 26 = .ok (.if_icmp .eq 5, 3) := by decide +kernel
theorem dX4_install_29 : decode cX4_install 29 = .ok (.iconst (-1), 1) := by decide +kernel
theorem dX4_install_30 : decode cX4_install 30 = .ok (.ireturn, 1) := by decide +kernel
theorem dX4_install_31 : decode cX4_install 31 = .ok (.aload_n 0, 1) := by decide +kernel
theorem dX4_install_32 : decode cX4_install 32 = .ok (.invokevirtual 136, 3) := by decide +kernel
theorem dX4_install_35 : decode cX4_install 35 = .ok (.iconst 5, 1) := by decide +kernel
theorem dX4_install_36 : decode cX4_install 36 = .ok (.if_icmp .ne 6, 3) := by decide +kernel
theorem dX4_install_39 : decode cX4_install 39 = .ok (.bipush (-3), 2) := by decide +kernel
theorem dX4_install_41 : decode cX4_install 41 = .ok (.ireturn, 1) := by decide +kernel
theorem dX4_install_42 : decode cX4_install 42 = .ok (.iload_n 1, 1) := by decide +kernel
theorem dX4_install_43 : decode cX4_install 43 = .ok (.ifCond .ne 8, 3) := by decide +kernel
theorem dX4_install_46 : decode cX4_install 46 = .ok (.aload_n 0, 1) := by decide +kernel
theorem dX4_install_47 : decode cX4_install 47 = .ok (.iconst 0, 1) := by decide +kernel
theorem dX4_install_48 : decode cX4_install 48 = .ok (.putfield 92, 3) := by decide +kernel
theorem dX4_install_51 : decode cX4_install 51 = .ok (.aload_n 0, 1) := by decide +kernel
theorem dX4_install_52 : decode cX4_install 52 = .ok (.invokevirtual 140, 3) := by decide +kernel
theorem dX4_install_55 : decode cX4_install 55 = .ok (.iconst 0, 1) := by decide +kernel
theorem dX4_install_56 : decode cX4_install 56 = .ok (.istore_n 3, 1) := by decide +kernel
theorem dX4_install_57 : decode cX4_install 57 = .ok (.iload_n 3, 1) := by decide +kernel
theorem dX4_install_58 : decode cX4_install 58 = .ok (.iconst 5, 1) := by decide +kernel
theorem dX4_install_59 : decode cX4_install 59 = .ok (.if_icmp .ge 18, 3) := by decide +kernel
theorem dX4_install_62 : decode cX4_install 62 = .ok (.aload_n 0, 1) := by decide +kernel
theorem dX4_install_63 : decode cX4_install 63 = .ok (.iconst 5, 1) := by decide +kernel
theorem dX4_install_64 : decode cX4_install 64 = .ok (.iload_n 1, 1) := by decide +kernel
theorem dX4_install_65 : decode cX4_install 65 = .ok (.imul, 1) := by decide +kernel
theorem dX4_install_66 : decode cX4_install 66 = .ok (.iload_n 3, 1) := by decide +kernel
theorem dX4_install_67 : decode cX4_install 67 = .ok (.iadd, 1) := by decide +kernel
theorem dX4_install_68 : decode cX4_install 68 = .ok (.invokevirtual 143, 3) := by decide +kernel
theorem dX4_install_71 : decode cX4_install 71 = .ok (.iinc 3 1, 3) := by decide +kernel
theorem dX4_install_74 : decode cX4_install 74 = .ok (.goto (-17), 3) := by decide +kernel
theorem dX4_install_77 : decode cX4_install 77 = .ok (.iconst 0, 1) := by decide +kernel
theorem dX4_install_78 : decode cX4_install 78 = .ok (.istore_n 3, 1) := by decide +kernel
theorem dX4_install_79 : decode cX4_install 79 = .ok (.iload_n 3, 1) := by decide +kernel
theorem dX4_install_80 : decode cX4_install 80 = .ok (.iload_n 2, 1) := by decide +kernel
theorem dX4_install_81 : decode cX4_install 81 = .ok (.if_icmp .ge 82, 3) := by decide +kernel
theorem dX4_install_84 : decode cX4_install 84 = .ok (.iconst 0, 1) := by decide +kernel
theorem dX4_install_85 : decode cX4_install 85 = .ok (.istore 4, 2) := by decide +kernel
theorem dX4_install_87 : decode cX4_install 87 = .ok (.iload 4, 2) := by decide +kernel
theorem dX4_install_89 : decode cX4_install 89 = .ok (.bipush 8, 2) := by decide +kernel
theorem dX4_install_91 : decode cX4_install 91 = .ok (.if_icmp .ge 37, 3) := by decide +kernel
theorem dX4_install_94 : decode cX4_install 94 = .ok (.aload_n 0, 1) := by decide +kernel
theorem dX4_install_95 : decode cX4_install 95 = .ok (.getfield 36, 3) := by decide +kernel
theorem dX4_install_98 : decode cX4_install 98 = .ok (.iload 4, 2) := by decide +kernel
theorem dX4_install_100 : decode cX4_install 100 = .ok (.iload_n 3, 1) := by decide +kernel
theorem dX4_install_101 : decode cX4_install 101 = .ok (.iload 4, 2) := by decide +kernel
theorem dX4_install_103 : decode cX4_install 103 = .ok (.iadd, 1) := by decide +kernel
theorem dX4_install_104 : decode cX4_install 104 = .ok (.iload_n 2, 1) := by decide +kernel
theorem dX4_install_105 : decode cX4_install 105 = .ok (.if_icmp .ge 15, 3) := by decide +kernel
theorem dX4_install_108 : decode cX4_install 108 = .ok (.aload_n 0, 1) := by decide +kernel
theorem dX4_install_109 : decode cX4_install 109 = .ok (.getfield 26, 3) := by decide +kernel
theorem dX4_install_112 : decode cX4_install 112 = .ok (.iload_n 3, 1) := by decide +kernel
theorem dX4_install_113 : decode cX4_install 113 = .ok (.iload 4, 2) := by decide +kernel
theorem dX4_install_115 : decode cX4_install 115 = .ok (.iadd, 1) := by decide +kernel
theorem dX4_install_116 : decode cX4_install 116 = .ok (.baload, 1) := by decide +kernel
theorem dX4_install_117 : decode cX4_install 117 = .ok (.goto 4, 3) := by decide +kernel
theorem dX4_install_120 : decode cX4_install 120 = .ok (.iconst (-1), 1) := by decide +kernel
theorem dX4_install_121 : decode cX4_install 121 = .ok (.bastore, 1) := by decide +kernel
theorem dX4_install_122 : decode cX4_install 122 = .ok (.iinc 4 1, 3) := by decide +kernel
theorem dX4_install_125 : decode cX4_install 125 = .ok (.goto (-38), 3) := by decide +kernel
theorem dX4_install_128 : decode cX4_install 128 = .ok (.aload_n 0, 1) := by decide +kernel
theorem dX4_install_129 : decode cX4_install 129 = .ok (.getfield 36, 3) := by decide +kernel
theorem dX4_install_132 : decode cX4_install 132 = .ok (.iconst 0, 1) := by decide +kernel
theorem dX4_install_133 : decode cX4_install 133 = .ok (.invokestatic 71, 3) := by decide +kernel
theorem dX4_install_136 : decode cX4_install 136 = .ok (.ifCond .ne 21, 3) := by decide +kernel
theorem dX4_install_139 : decode cX4_install 139 = .ok (.aload_n 0, 1) := by decide +kernel
theorem dX4_install_140 : decode cX4_install 140 = .ok (.iconst 5, 1) := by decide +kernel
theorem dX4_install_141 : decode cX4_install 141 = .ok (.iload_n 1, 1) := by decide +kernel
theorem dX4_install_142 : decode cX4_install 142 = .ok (.imul, 1) := by decide +kernel
theorem dX4_install_143 : decode cX4_install 143 = .ok (.iconst 0, 1) := by decide +kernel
theorem dX4_install_144 : decode cX4_install 144 = .ok (.invokestatic 60, 3) := by decide +kernel
theorem dX4_install_147 : decode cX4_install 147 = .ok (.iload_n 3, 1) := by decide +kernel
theorem dX4_install_148 : decode cX4_install 148 = .ok (.iadd, 1) := by decide +kernel
theorem dX4_install_149 : decode cX4_install 149 = .ok (.aload_n 0, 1) := by decide +kernel
theorem dX4_install_150 : decode cX4_install 150 = .ok (.getfield 36, 3) := by decide +kernel
theorem dX4_install_153 : decode cX4_install 153 = .ok (.iconst 0, 1) := by decide +kernel
theorem dX4_install_154 : decode cX4_install 154 = .ok (.invokevirtual 64, 3) := by decide +kernel
theorem dX4_install_157 : decode cX4_install 157 = .ok (.iinc 3 8, 3) := by decide +kernel
theorem dX4_install_160 : decode cX4_install 160 = .ok (.goto (-81), 3) := by decide +kernel
theorem dX4_install_163 : decode cX4_install 163 = .ok (.aload_n 0, 1) := by decide +kernel
theorem dX4_install_164 : decode cX4_install 164 = .ok (.invokevirtual 146, 3) := by decide +kernel
theorem dX4_install_167 : decode cX4_install 167 = .ok (.ifCond .eq 7, 3) := by decide +kernel
theorem dX4_install_170 : decode cX4_install 170 = .ok (.iload_n 2, 1) := by decide +kernel
theorem dX4_install_171 : decode cX4_install 171 = .ok (.goto 5, 3) := by decide +kernel
theorem dX4_install_174 : decode cX4_install 174 = .ok (.bipush (-9), 2) := by decide +kernel
theorem dX4_install_176 : decode cX4_install 176 = .ok (.ireturn, 1) := by decide +kernel
set_option maxRecDepth 20000 in
theorem ggX4_request_X4_begins : GoodIn wsX4_request wsX4_begins := goodIn_r _ [7, 8, 9, 10, 11, 46, 47, 48, 49, 50, 51, 52, 53, 54, 55, 56, 57, 58, 59, 60, 61, 62, 63, 64, 65, 66, 67, 68, 69, 70, 71] (by decide +kernel) (by decide +kernel)
set_option maxRecDepth 20000 in
theorem gX4_request_X4_begins : GoodIn wsX4_request (wsV RX4 140 RX4 yX4_begins wsX4_begins) := goodIn_app (goodIn_of _ (by decide +kernel)) ggX4_request_X4_begins
set_option maxRecDepth 20000 in
theorem ggX4_request_X4_mark : GoodIn wsX4_request wsX4_mark := goodIn_r _ [15, 16, 17, 18, 6, 19, 20, 21, 22, 23, 24, 10, 8, 25, 26, 46, 47, 48, 49, 50, 51, 52, 53, 54, 55, 56, 57, 58, 59, 60, 61, 62, 63, 64, 65, 66, 67, 68, 69, 70, 71] (by decide +kernel) (by decide +kernel)
set_option maxRecDepth 20000 in
theorem gX4_request_X4_mark : GoodIn wsX4_request (wsV RX4 150 RX4 yX4_mark wsX4_mark) := goodIn_app (goodIn_of _ (by decide +kernel)) ggX4_request_X4_mark
set_option maxRecDepth 20000 in
theorem ggX4_request_X4_magic : GoodIn wsX4_request wsX4_magic := goodIn_r _ [30, 16, 31, 17, 18, 6, 19, 20, 21, 22, 23, 24, 10, 8, 25, 26, 46, 47, 48, 49, 50, 51, 52, 53, 54, 55, 56, 57, 58, 59, 60, 61, 62, 63, 64, 65, 66, 67, 68, 69, 70, 71] (by decide +kernel) (by decide +kernel)
set_option maxRecDepth 20000 in
theorem gX4_request_X4_magic : GoodIn wsX4_request (wsV RX4 154 RX4 yX4_magic wsX4_magic) := goodIn_app (goodIn_of _ (by decide +kernel)) ggX4_request_X4_magic
set_option maxRecDepth 20000 in
theorem ggX4_request_X4_does : GoodIn wsX4_request wsX4_does := goodIn_r _ [35, 10, 36, 37, 11, 38, 25, 39, 40, 9, 1, 2, 41, 42, 43, 44, 6, 45, 26, 24, 46, 47, 48, 49, 50, 51, 52, 53, 54, 55, 56, 57, 58, 59, 60, 61, 62, 63, 64, 65, 66, 67, 68, 69, 70, 71] (by decide +kernel) (by decide +kernel)
set_option maxRecDepth 20000 in
theorem gX4_request_X4_does : GoodIn wsX4_request (wsV RX4 146 RX4 yX4_does wsX4_does) := goodIn_app (goodIn_of _ (by decide +kernel)) ggX4_request_X4_does
theorem dX4_request_0 : decode cX4_request 0 = .ok (.aload_n 0, 1) := by decide +kernel
theorem dX4_request_1 : decode cX4_request 1 = .ok (.getfield 88, 3) := by decide +kernel
theorem dX4_request_4 : decode cX4_request 4 = .ok (.ifCond .eq 6, 3) := by decide +kernel
theorem dX4_request_7 : decode cX4_request 7 = .ok (.bipush (-9), 2) := by decide +kernel
theorem dX4_request_9 : decode cX4_request 9 = .ok (.ireturn, 1) := by decide +kernel
theorem dX4_request_10 : decode cX4_request 10 = .ok (.aload_n 0, 1) := by decide +kernel
theorem dX4_request_11 : decode cX4_request 11 = .ok (.getfield 92, 3) := by decide +kernel
theorem dX4_request_14 : decode cX4_request 14 = .ok (.ifCond .ne 6, 3) := by decide +kernel
theorem dX4_request_17 : decode cX4_request 17 = .ok (.bipush (-2), 2) := by decide +kernel
theorem dX4_request_19 : decode cX4_request 19 = .ok (.ireturn, 1) := by decide +kernel
theorem dX4_request_20 : decode cX4_request 20 = .ok (.aload_n 0, 1) := by decide +kernel
theorem dX4_request_21 : decode cX4_request 21 = .ok (.invokevirtual 140, 3) := by decide +kernel
theorem dX4_request_24 : decode cX4_request 24 = .ok (.iload_n 1, 1) := by decide +kernel
theorem dX4_request_25 : decode cX4_request 25 = .ok (.ifCond .eq 11, 3) := by decide +kernel
theorem dX4_request_28 : decode cX4_request 28 = .ok (.aload_n 0, 1) := by decide +kernel
theorem dX4_request_29 : decode cX4_request 29 = .ok (.bipush 9, 2) := by decide +kernel
theorem dX4_request_31 : decode cX4_request 31 = .ok (.iconst 3, 1) := by decide +kernel
theorem dX4_request_32 : decode cX4_request 32 = .ok (.iconst 1, 1) := by decide +kernel
theorem dX4_request_33 : decode cX4_request 33 = .ok (.invokevirtual 150, 3) := by decide +kernel
theorem dX4_request_36 : decode cX4_request 36 = .ok (.aload_n 0, 1) := by decide +kernel
theorem dX4_request_37 : decode cX4_request 37 = .ok (.bipush 9, 2) := by decide +kernel
theorem dX4_request_39 : decode cX4_request 39 = .ok (.invokevirtual 154, 3) := by decide +kernel
theorem dX4_request_42 : decode cX4_request 42 = .ok (.aload_n 0, 1) := by decide +kernel
theorem dX4_request_43 : decode cX4_request 43 = .ok (.invokevirtual 146, 3) := by decide +kernel
theorem dX4_request_46 : decode cX4_request 46 = .ok (.ifCond .eq 7, 3) := by decide +kernel
theorem dX4_request_49 : decode cX4_request 49 = .ok (.iconst 0, 1) := by decide +kernel
theorem dX4_request_50 : decode cX4_request 50 = .ok (.goto 5, 3) := by decide +kernel
theorem dX4_request_53 : decode cX4_request 53 = .ok (.bipush (-9), 2) := by decide +kernel
theorem dX4_request_55 : decode cX4_request 55 = .ok (.ireturn, 1) := by decide +kernel
set_option maxRecDepth 20000 in
theorem ggX4_confirm_X4_isSet : GoodIn wsX4_confirm wsX4_isSet := goodIn_r _ [7, 8, 9, 6, 10, 11, 12, 13] (by decide +kernel) (by decide +kernel)
set_option maxRecDepth 20000 in
theorem gX4_confirm_X4_isSet : GoodIn wsX4_confirm (va_wsS RX4 110 yX4_isSet wsX4_isSet) := goodIn_app (goodIn_of _ (by decide +kernel)) ggX4_confirm_X4_isSet
set_option maxRecDepth 20000 in
theorem ggX4_confirm_X4_isMagic : GoodIn wsX4_confirm wsX4_isMagic := goodIn_r _ [16, 17, 11, 12, 6, 13] (by decide +kernel) (by decide +kernel)
set_option maxRecDepth 20000 in
theorem gX4_confirm_X4_isMagic : GoodIn wsX4_confirm (va_wsS RX4 114 yX4_isMagic wsX4_isMagic) := goodIn_app (goodIn_of _ (by decide +kernel)) ggX4_confirm_X4_isMagic
set_option maxRecDepth 20000 in
theorem ggX4_confirm_X4_begins : GoodIn wsX4_confirm wsX4_begins := goodIn_r _ [21, 22, 3, 23, 24, 51, 52, 53, 54, 55, 56, 57, 58, 59, 60, 61, 62, 63, 64, 65, 66, 67, 68, 69, 70, 71, 72, 73, 74, 75, 76] (by decide +kernel) (by decide +kernel)
set_option maxRecDepth 20000 in
theorem gX4_confirm_X4_begins : GoodIn wsX4_confirm (wsV RX4 140 RX4 yX4_begins wsX4_begins) := goodIn_app (goodIn_of _ (by decide +kernel)) ggX4_confirm_X4_begins
set_option maxRecDepth 20000 in
theorem ggX4_confirm_X4_mark : GoodIn wsX4_confirm wsX4_mark := goodIn_r _ [28, 29, 11, 12, 6, 13, 30, 31, 32, 33, 34, 23, 22, 35, 36, 51, 52, 53, 54, 55, 56, 57, 58, 59, 60, 61, 62, 63, 64, 65, 66, 67, 68, 69, 70, 71, 72, 73, 74, 75, 76] (by decide +kernel) (by decide +kernel)
set_option maxRecDepth 20000 in
theorem gX4_confirm_X4_mark : GoodIn wsX4_confirm (wsV RX4 150 RX4 yX4_mark wsX4_mark) := goodIn_app (goodIn_of _ (by decide +kernel)) ggX4_confirm_X4_mark
set_option maxRecDepth 20000 in
theorem ggX4_confirm_X4_does : GoodIn wsX4_confirm wsX4_does := goodIn_r _ [40, 23, 41, 42, 24, 43, 35, 44, 45, 3, 1, 2, 46, 47, 48, 49, 6, 50, 36, 34, 51, 52, 53, 54, 55, 56, 57, 58, 59, 60, 61, 62, 63, 64, 65, 66, 67, 68, 69, 70, 71, 72, 73, 74, 75, 76] (by decide +kernel) (by decide +kernel)
set_option maxRecDepth 20000 in
theorem gX4_confirm_X4_does : GoodIn wsX4_confirm (wsV RX4 146 RX4 yX4_does wsX4_does) := goodIn_app (goodIn_of _ (by decide +kernel)) ggX4_confirm_X4_does
theorem dX4_confirm_0 : decode cX4_confirm 0 = .ok (.aload_n 0, 1) := by decide +kernel
theorem dX4_confirm_1 : decode cX4_confirm 1 = .ok (.getfield 88, 3) := by decide +kernel
theorem dX4_confirm_4 : decode cX4_confirm 4 = .ok (.ifCond .eq 6, 3) := by decide +kernel
theorem dX4_confirm_7 : decode cX4_confirm 7 = .ok (.bipush (-9), 2) := by decide +kernel
theorem dX4_confirm_9 : decode cX4_confirm 9 = .ok (.ireturn, 1) := by decide +kernel
theorem dX4_confirm_10 : decode cX4_confirm 10 = .ok (.aload_n 0, 1) := by decide +kernel
theorem dX4_confirm_11 : decode cX4_confirm 11 = .ok (.getfield 92, 3) := by decide +kernel
theorem dX4_confirm_14 : decode cX4_confirm 14 = .ok (.ifCond .ne 6, 3) := by decide +kernel
theorem dX4_confirm_17 : decode cX4_confirm 17 = .ok (.bipush (-2), 2) := by decide +kernel
theorem dX4_confirm_19 : decode cX4_confirm 19 = .ok (.ireturn, 1) := by decide +kernel
theorem dX4_confirm_20 : decode cX4_confirm 20 = .ok (.aload_n 0, 1) := by decide +kernel
theorem dX4_confirm_21 : decode cX4_confirm 21 = .ok (.getfield 9, 3) := by decide +kernel
theorem dX4_confirm_24 : decode cX4_confirm 24 = .ok (.iconst 4, 1) := by decide +kernel
theorem dX4_confirm_25 : decode cX4_confirm 25 = .ok (.iconst 3, 1) := by decide +kernel
theorem dX4_confirm_26 : decode cX4_confirm 26 = .ok (.invokestatic 110, 3) := by decide +kernel
theorem dX4_confirm_29 : decode cX4_confirm 29 = .ok (.ifCond .ne 14, 3) := by decide +kernel
theorem dX4_confirm_32 : decode cX4_confirm 32 = .ok (.aload_n 0, 1) := by decide +kernel
theorem dX4_confirm_33 : decode cX4_confirm 33 = .ok (.getfield 9, 3) := by decide +kernel
theorem dX4_confirm_36 : decode cX4_confirm 36 = .ok (.iconst 4, 1) := by decide +kernel
theorem dX4_confirm_37 : decode cX4_confirm 37 = .ok (.invokestatic 114, 3) := by decide +kernel
theorem dX4_confirm_40 : decode cX4_confirm 40 = .ok (.ifCond .ne 5, 3) := by decide +kernel
theorem dX4_confirm_43 : decode cX4_confirm 43 = .ok (.iconst 0, 1) := by decide +kernel
theorem dX4_confirm_44 : decode cX4_confirm 44 = .ok (.ireturn, 1) := by decide +kernel
theorem dX4_confirm_45 : decode cX4_confirm 45 = .ok (.aload_n 0, 1) := by decide +kernel
theorem dX4_confirm_46 : decode cX4_confirm 46 = .ok (.invokevirtual 140, 3) := by decide +kernel
theorem dX4_confirm_49 : decode cX4_confirm 49 = .ok (.aload_n 0, 1) := by decide +kernel
theorem dX4_confirm_50 : decode cX4_confirm 50 = .ok (.iconst 4, 1) := by decide +kernel
theorem dX4_confirm_51 : decode cX4_confirm 51 = .ok (.iconst 3, 1) := by decide +kernel
theorem dX4_confirm_52 : decode cX4_confirm 52 = .ok (.iconst 1, 1) := by decide +kernel
theorem dX4_confirm_53 : decode cX4_confirm 53 = .ok (.invokevirtual 150, 3) := by decide +kernel
theorem dX4_confirm_56 : decode cX4_confirm 56 = .ok (.aload_n 0, 1) := by decide +kernel
theorem dX4_confirm_57 : decode cX4_confirm 57 = .ok (.invokevirtual 146, 3) := by decide +kernel
theorem dX4_confirm_60 : decode cX4_confirm 60 = .ok (.ifCond .eq 7, 3) := by decide +kernel
theorem dX4_confirm_63 : decode cX4_confirm 63 = .ok (.iconst 1, 1) := by decide +kernel
theorem dX4_confirm_64 : decode cX4_confirm 64 = .ok (.goto 5, 3) := by decide +kernel
theorem dX4_confirm_67 : decode cX4_confirm 67 = .ok (.bipush (-9), 2) := by decide +kernel
theorem dX4_confirm_69 : decode cX4_confirm 69 = .ok (.ireturn, 1) := by decide +kernel
set_option maxRecDepth 20000 in
theorem ggX4_lists_X4_isSet : GoodIn wsX4_lists wsX4_isSet := goodIn_r _ [7, 8, 9, 6, 10, 11, 12, 13] (by decide +kernel) (by decide +kernel)
set_option maxRecDepth 20000 in
theorem gX4_lists_X4_isSet : GoodIn wsX4_lists (va_wsS RX4 110 yX4_isSet wsX4_isSet) := goodIn_app (goodIn_of _ (by decide +kernel)) ggX4_lists_X4_isSet
set_option maxRecDepth 20000 in
theorem ggX4_lists_X4_erase : GoodIn wsX4_lists wsX4_erase := goodIn_r _ [17, 1, 18, 2, 19, 42, 43, 44, 45, 46, 47, 48, 49, 50, 51, 52, 53, 54, 55, 56, 57, 58, 59, 60, 61, 62, 63, 64, 65, 66, 67] (by decide +kernel) (by decide +kernel)
set_option maxRecDepth 20000 in
theorem gX4_lists_X4_erase : GoodIn wsX4_lists (wsV RX4 143 RX4 yX4_erase wsX4_erase) := goodIn_app (goodIn_of _ (by decide +kernel)) ggX4_lists_X4_erase
set_option maxRecDepth 20000 in
theorem ggX4_lists_X4_copy : GoodIn wsX4_lists wsX4_copy := goodIn_r _ [23, 1, 11, 12, 6, 13, 24, 25, 26, 27, 28, 29, 30, 31, 2, 18, 19, 42, 43, 44, 45, 46, 47, 48, 49, 50, 51, 52, 53, 54, 55, 56, 57, 58, 59, 60, 61, 62, 63, 64, 65, 66, 67] (by decide +kernel) (by decide +kernel)
set_option maxRecDepth 20000 in
theorem gX4_lists_X4_copy : GoodIn wsX4_lists (wsV RX4 157 RX4 yX4_copy wsX4_copy) := goodIn_app (goodIn_of _ (by decide +kernel)) ggX4_lists_X4_copy
set_option maxRecDepth 20000 in
theorem ggX4_lists_X4_mark : GoodIn wsX4_lists wsX4_mark := goodIn_r _ [35, 36, 11, 12, 6, 13, 27, 28, 29, 30, 31, 2, 1, 18, 19, 42, 43, 44, 45, 46, 47, 48, 49, 50, 51, 52, 53, 54, 55, 56, 57, 58, 59, 60, 61, 62, 63, 64, 65, 66, 67] (by decide +kernel) (by decide +kernel)
set_option maxRecDepth 20000 in
theorem gX4_lists_X4_mark : GoodIn wsX4_lists (wsV RX4 150 RX4 yX4_mark wsX4_mark) := goodIn_app (goodIn_of _ (by decide +kernel)) ggX4_lists_X4_mark
set_option maxRecDepth 20000 in
theorem ggX4_lists_X4_magic : GoodIn wsX4_lists wsX4_magic := goodIn_r _ [40, 36, 41, 11, 12, 6, 13, 27, 28, 29, 30, 31, 2, 1, 18, 19, 42, 43, 44, 45, 46, 47, 48, 49, 50, 51, 52, 53, 54, 55, 56, 57, 58, 59, 60, 61, 62, 63, 64, 65, 66, 67] (by decide +kernel) (by decide +kernel)
set_option maxRecDepth 20000 in
theorem gX4_lists_X4_magic : GoodIn wsX4_lists (wsV RX4 154 RX4 yX4_magic wsX4_magic) := goodIn_app (goodIn_of _ (by decide +kernel)) ggX4_lists_X4_magic
theorem dX4_lists_0 : decode cX4_lists 0 = .ok (.iconst 3, 1) := by decide +kernel
theorem dX4_lists_1 : decode cX4_lists 1 = .ok (.istore_n 2, 1) := by decide +kernel
theorem dX4_lists_2 : decode cX4_lists 2 = .ok (.iload_n 2, 1) := by decide +kernel
theorem dX4_lists_3 : decode cX4_lists 3 = .ok (.ifCond .lt 111, 3) := by decide +kernel
theorem dX4_lists_6 : decode cX4_lists 6 = .ok (.iconst 0, 1) := by decide +kernel
theorem dX4_lists_7 : decode cX4_lists 7 = .ok (.istore_n 3, 1) := by decide +kernel
theorem dX4_lists_8 : decode cX4_lists 8 = .ok (.iload_n 3, 1) := by decide +kernel
theorem dX4_lists_9 : decode cX4_lists 9 = .ok (.iconst 3, 1) := by decide +kernel
theorem dX4_lists_10 : decode cX4_lists 10 = .ok (.if_icmp .ge 98, 3) := by decide +kernel
theorem dX4_lists_13 : decode cX4_lists 13 = .ok (.iconst 4, 1) := by decide +kernel
theorem dX4_lists_14 : decode cX4_lists 14 = .ok (.iconst 3, 1) := by decide +kernel
theorem dX4_lists_15 : decode cX4_lists 15 = .ok (.iload_n 2, 1) := by decide +kernel
theorem dX4_lists_16 : decode cX4_lists 16 = .ok (.imul, 1) := by decide +kernel
theorem dX4_lists_17 : decode cX4_lists 17 = .ok (.iadd, 1) := by decide +kernel
theorem dX4_lists_18 : decode cX4_lists 18 = .ok (.iload_n 3, 1) := by decide +kernel
theorem dX4_lists_19 : decode cX4_lists 19 = .ok (.iadd, 1) := by decide +kernel
theorem dX4_lists_20 : decode cX4_lists 20 = .ok (.istore 4, 2) := by decide +kernel
theorem dX4_lists_22 : decode cX4_lists 22 = .ok (.aload_n 0, 1) := by decide +kernel
theorem dX4_lists_23 : decode cX4_lists 23 = .ok (.getfield 13, 3) := by decide +kernel
theorem dX4_lists_26 : decode cX4_lists 26 = .ok (.iconst 4, 1) := by decide +kernel
theorem dX4_lists_27 : decode cX4_lists 27 = .ok (.iload 4, 2) := by decide +kernel
theorem dX4_lists_29 : decode cX4_lists 29 = .ok (.invokestatic 110, 3) := by decide +kernel
theorem dX4_lists_32 : decode cX4_lists 32 = .ok (.ifCond .eq 6, 3) := by decide +kernel
theorem dX4_lists_35 : decode cX4_lists 35 = .ok (.goto 67, 3) := by decide +kernel
theorem dX4_lists_38 : decode cX4_lists 38 = .ok (.iload_n 3, 1) := by decide +kernel
theorem dX4_lists_39 : decode cX4_lists 39 = .ok (.ifCond .ne 8, 3) := by decide +kernel
theorem dX4_lists_42 : decode cX4_lists 42 = .ok (.bipush 10, 2) := by decide +kernel
theorem dX4_lists_44 : decode cX4_lists 44 = .ok (.goto 15, 3) := by decide +kernel
theorem dX4_lists_47 : decode cX4_lists 47 = .ok (.iload_n 3, 1) := by decide +kernel
theorem dX4_lists_48 : decode cX4_lists 48 = .ok (.iconst 1, 1) := by decide +kernel
theorem dX4_lists_49 : decode cX4_lists 49 = .ok (.if_icmp .ne 9, 3) := by decide +kernel
theorem dX4_lists_52 : decode cX4_lists 52 = .ok (.iconst 5, 1) := by decide +kernel
theorem dX4_lists_53 : decode cX4_lists 53 = .ok (.iload_n 2, 1) := by decide +kernel
theorem dX4_lists_54 : decode cX4_lists 54 = .ok (.iadd, 1) := by decide +kernel
theorem dX4_lists_55 : decode cX4_lists 55 = .ok (.goto 4, 3) := by decide +kernel
theorem dX4_lists_58 : decode cX4_lists 58 = .ok (.iload_n 2, 1) := by decide +kernel
theorem dX4_lists_59 : decode cX4_lists 59 = .ok (.istore 5, 2) := by decide +kernel
theorem dX4_lists_61 : decode cX4_lists 61 = .ok (.aload_n 0, 1) := by decide +kernel
theorem dX4_lists_62 : decode cX4_lists 62 = .ok (.iload 5, 2) := by decide +kernel
theorem dX4_lists_64 : decode cX4_lists 64 = .ok (.invokevirtual 143, 3) := by decide +kernel
theorem dX4_lists_67 : decode cX4_lists 67 = .ok (.aload_n 0, 1) := by decide +kernel
theorem dX4_lists_68 : decode cX4_lists 68 = .ok (.iload_n 3, 1) := by decide +kernel
theorem dX4_lists_69 : decode cX4_lists 69 = .ok (.ifCond .ne 9, 3) := by decide +kernel
theorem dX4_lists_72 : decode cX4_lists 72 = .ok (.iconst 5, 1) := by decide +kernel
theorem dX4_lists_73 : decode cX4_lists 73 = .ok (.iload_n 2, 1) := by decide +kernel
theorem dX4_lists_74 : decode cX4_lists 74 = .ok (.iadd, 1) := by decide +kernel
theorem dX4_lists_75 : decode cX4_lists 75 = .ok (.goto 14, 3) := by decide +kernel
theorem dX4_lists_78 : decode cX4_lists 78 = .ok (.iload_n 3, 1) := by decide +kernel
theorem dX4_lists_79 : decode cX4_lists 79 = .ok (.iconst 1, 1) := by decide +kernel
theorem dX4_lists_80 : decode cX4_lists 80 = .ok (.if_icmp .ne 7, 3) := by decide +kernel
theorem dX4_lists_83 : decode cX4_lists 83 = .ok (.iload_n 2, 1) := by decide +kernel
theorem dX4_lists_84 : decode cX4_lists 84 = .ok (.goto 5, 3) := by decide +kernel
theorem dX4_lists_87 : decode cX4_lists 87 = .ok (.bipush 10, 2) := by decide +kernel
theorem dX4_lists_89 : decode cX4_lists 89 = .ok (.iload 5, 2) := by decide +kernel
theorem dX4_lists_91 : decode cX4_lists 91 = .ok (.invokevirtual 157, 3) := by decide +kernel
theorem dX4_lists_94 : decode cX4_lists 94 = .ok (.aload_n 0, 1) := by decide +kernel
theorem dX4_lists_95 : decode cX4_lists 95 = .ok (.iconst 4, 1) := by decide +kernel
theorem dX4_lists_96 : decode cX4_lists 96 = .ok (.iload 4, 2) := by decide +kernel
theorem dX4_lists_98 : decode cX4_lists 98 = .ok (.iconst 1, 1) := by decide +kernel
theorem dX4_lists_99 : decode cX4_lists 99 = .ok (.invokevirtual 150, 3) := by decide +kernel
theorem dX4_lists_102 : decode cX4_lists 102 = .ok (.iinc 3 1, 3) := by decide +kernel
theorem dX4_lists_105 : decode cX4_lists 105 = .ok (.goto (-97), 3) := by decide +kernel
theorem dX4_lists_108 : decode cX4_lists 108 = .ok (.iinc 2 (-1), 3) := by decide +kernel
theorem dX4_lists_111 : decode cX4_lists 111 = .ok (.goto (-109), 3) := by decide +kernel
theorem dX4_lists_114 : decode cX4_lists 114 = .ok (.aload_n 0, 1) := by decide +kernel
theorem dX4_lists_115 : decode cX4_lists 115 = .ok (.bipush 9, 2) := by decide +kernel
theorem dX4_lists_117 : decode cX4_lists 117 = .ok (.invokevirtual 143, 3) := by decide +kernel
theorem dX4_lists_120 : decode cX4_lists 120 = .ok (.iload_n 1, 1) := by decide +kernel
theorem dX4_lists_121 : decode cX4_lists 121 = .ok (.iconst 1, 1) := by decide +kernel
theorem dX4_lists_122 : decode cX4_lists 122 = .ok (.if_icmp .le 22, 3) := by decide +kernel
theorem dX4_lists_125 : decode cX4_lists 125 = .ok (.aload_n 0, 1) := by decide +kernel
theorem dX4_lists_126 : decode cX4_lists 126 = .ok (.getfield 13, 3) := by decide +kernel
theorem dX4_lists_129 : decode cX4_lists 129 = .ok (.iconst 4, 1) := by decide +kernel
theorem dX4_lists_130 : decode cX4_lists 130 = .ok (.iconst 3, 1) := by decide +kernel
theorem dX4_lists_131 : decode cX4_lists 131 = .ok (.invokestatic 110, 3) := by decide +kernel
theorem dX4_lists_134 : decode cX4_lists 134 = .ok (.ifCond .ne 10, 3) := by decide +kernel
theorem dX4_lists_137 : decode cX4_lists 137 = .ok (.aload_n 0, 1) := by decide +kernel
theorem dX4_lists_138 : decode cX4_lists 138 = .ok (.iconst 4, 1) := by decide +kernel
theorem dX4_lists_139 : decode cX4_lists 139 = .ok (.iconst 3, 1) := by decide +kernel
theorem dX4_lists_140 : decode cX4_lists 140 = .ok (.iconst 1, 1) := by decide +kernel
theorem dX4_lists_141 : decode cX4_lists 141 = .ok (.invokevirtual 150, 3) := by decide +kernel
theorem dX4_lists_144 : decode cX4_lists 144 = .ok (.aload_n 0, 1) := by decide +kernel
theorem dX4_lists_145 : decode cX4_lists 145 = .ok (.iconst 4, 1) := by decide +kernel
theorem dX4_lists_146 : decode cX4_lists 146 = .ok (.invokevirtual 154, 3) := by decide +kernel
theorem dX4_lists_149 : decode cX4_lists 149 = .ok (.aload_n 0, 1) := by decide +kernel
theorem dX4_lists_150 : decode cX4_lists 150 = .ok (.aload_n 0, 1) := by decide +kernel
theorem dX4_lists_151 : decode cX4_lists 151 = .ok (.getfield 54, 3) := by decide +kernel
theorem dX4_lists_154 : decode cX4_lists 154 = .ok (.putfield 57, 3) := by decide +kernel
theorem dX4_lists_157 : decode cX4_lists 157 = .ok (.aload_n 0, 1) := by decide +kernel
theorem dX4_lists_158 : decode cX4_lists 158 = .ok (.iconst 4, 1) := by decide +kernel
theorem dX4_lists_159 : decode cX4_lists 159 = .ok (.iconst 2, 1) := by decide +kernel
theorem dX4_lists_160 : decode cX4_lists 160 = .ok (.iconst 1, 1) := by decide +kernel
theorem dX4_lists_161 : decode cX4_lists 161 = .ok (.invokevirtual 150, 3) := by decide +kernel
theorem dX4_lists_164 : decode cX4_lists 164 = .ok (.return_, 1) := by decide +kernel
set_option maxRecDepth 20000 in
theorem ggX4_boot_X4_due : GoodIn wsX4_boot wsX4_due := goodIn_r _ [12, 6, 13, 14, 11, 15, 16, 17, 18, 19, 20, 21, 22, 23, 24, 25, 26, 27, 28, 29, 30, 31, 32, 33, 34, 35, 36, 37, 38, 39, 40, 41, 42, 43, 44, 45, 46, 47, 48, 49, 101, 102, 103, 104, 105, 106, 107, 108, 109, 110, 111, 112, 113, 114, 115, 116, 117, 118, 119, 120, 121, 122, 123, 124, 125, 126] (by decide +kernel) (by decide +kernel)
set_option maxRecDepth 20000 in
theorem gX4_boot_X4_due : GoodIn wsX4_boot (wsV RX4 136 RX4 yX4_due wsX4_due) := goodIn_app (goodIn_of _ (by decide +kernel)) ggX4_boot_X4_due
set_option maxRecDepth 20000 in
theorem ggX4_boot_X4_begins : GoodIn wsX4_boot wsX4_begins := goodIn_r _ [53, 3, 6, 54, 55, 101, 102, 103, 104, 105, 106, 107, 108, 109, 110, 111, 112, 113, 114, 115, 116, 117, 118, 119, 120, 121, 122, 123, 124, 125, 126] (by decide +kernel) (by decide +kernel)
set_option maxRecDepth 20000 in
theorem gX4_boot_X4_begins : GoodIn wsX4_boot (wsV RX4 140 RX4 yX4_begins wsX4_begins) := goodIn_app (goodIn_of _ (by decide +kernel)) ggX4_boot_X4_begins
set_option maxRecDepth 20000 in
theorem ggX4_boot_X4_erase : GoodIn wsX4_boot wsX4_erase := goodIn_r _ [59, 3, 60, 54, 61, 101, 102, 103, 104, 105, 106, 107, 108, 109, 110, 111, 112, 113, 114, 115, 116, 117, 118, 119, 120, 121, 122, 123, 124, 125, 126] (by decide +kernel) (by decide +kernel)
set_option maxRecDepth 20000 in
theorem gX4_boot_X4_erase : GoodIn wsX4_boot (wsV RX4 143 RX4 yX4_erase wsX4_erase) := goodIn_app (goodIn_of _ (by decide +kernel)) ggX4_boot_X4_erase
set_option maxRecDepth 20000 in
theorem ggX4_boot_X4_set : GoodIn wsX4_boot wsX4_set := goodIn_r _ [15, 16, 17, 11, 18] (by decide +kernel) (by decide +kernel)
set_option maxRecDepth 20000 in
theorem gX4_boot_X4_set : GoodIn wsX4_boot (va_wsS RX4 98 yX4_set wsX4_set) := goodIn_app (goodIn_of _ (by decide +kernel)) ggX4_boot_X4_set
set_option maxRecDepth 20000 in
theorem ggX4_boot_X4_mark : GoodIn wsX4_boot wsX4_mark := goodIn_r _ [65, 66, 16, 17, 11, 18, 67, 68, 69, 70, 71, 54, 3, 60, 61, 101, 102, 103, 104, 105, 106, 107, 108, 109, 110, 111, 112, 113, 114, 115, 116, 117, 118, 119, 120, 121, 122, 123, 124, 125, 126] (by decide +kernel) (by decide +kernel)
set_option maxRecDepth 20000 in
theorem gX4_boot_X4_mark : GoodIn wsX4_boot (wsV RX4 150 RX4 yX4_mark wsX4_mark) := goodIn_app (goodIn_of _ (by decide +kernel)) ggX4_boot_X4_mark
set_option maxRecDepth 20000 in
theorem ggX4_boot_X4_lists : GoodIn wsX4_boot wsX4_lists := goodIn_r _ [75, 3, 54, 55, 19, 20, 11, 21, 13, 14, 15, 16, 17, 18, 56, 57, 58, 59, 60, 61, 76, 77, 78, 79, 80, 81, 82, 67, 68, 69, 70, 71, 62, 63, 64, 65, 66, 83, 84, 85, 86, 25, 101, 102, 103, 104, 105, 106, 107, 108, 109, 110, 111, 112, 113, 114, 115, 116, 117, 118, 119, 120, 121, 122, 123, 124, 125, 126] (by decide +kernel) (by decide +kernel)
set_option maxRecDepth 20000 in
theorem gX4_boot_X4_lists : GoodIn wsX4_boot (wsV RX4 161 RX4 yX4_lists wsX4_lists) := goodIn_app (goodIn_of _ (by decide +kernel)) ggX4_boot_X4_lists
set_option maxRecDepth 20000 in
theorem ggX4_boot_X4_does : GoodIn wsX4_boot wsX4_does := goodIn_r _ [90, 54, 91, 92, 55, 93, 60, 94, 95, 6, 1, 2, 96, 97, 98, 99, 11, 100, 61, 71, 101, 102, 103, 104, 105, 106, 107, 108, 109, 110, 111, 112, 113, 114, 115, 116, 117, 118, 119, 120, 121, 122, 123, 124, 125, 126] (by decide +kernel) (by decide +kernel)
set_option maxRecDepth 20000 in
theorem gX4_boot_X4_does : GoodIn wsX4_boot (wsV RX4 146 RX4 yX4_does wsX4_does) := goodIn_app (goodIn_of _ (by decide +kernel)) ggX4_boot_X4_does
set_option maxRecDepth 20000 in
theorem ggX4_boot_X4_isRight : GoodIn wsX4_boot wsX4_isRight := goodIn_r _ [29, 6, 30, 16, 17, 11, 18, 31, 32, 33, 34, 35, 36, 37, 38, 39, 40, 41, 42, 43, 44, 45, 46, 47, 48, 49, 101, 102, 103, 104, 105, 106, 107, 108, 109, 110, 111, 112, 113, 114, 115, 116, 117, 118, 119, 120, 121, 122, 123, 124, 125, 126] (by decide +kernel) (by decide +kernel)
set_option maxRecDepth 20000 in
theorem gX4_boot_X4_isRight : GoodIn wsX4_boot (wsV RX4 117 RX4 yX4_isRight wsX4_isRight) := goodIn_app (goodIn_of _ (by decide +kernel)) ggX4_boot_X4_isRight
set_option maxRecDepth 20000 in
theorem ggX4_boot_X4_intAt : GoodIn wsX4_boot wsX4_intAt := goodIn_r _ [33] (by decide +kernel) (by decide +kernel)
set_option maxRecDepth 20000 in
theorem gX4_boot_X4_intAt : GoodIn wsX4_boot (va_wsS RX4 102 yX4_intAt wsX4_intAt) := goodIn_app (goodIn_of _ (by decide +kernel)) ggX4_boot_X4_intAt
theorem dX4_boot_0 : decode cX4_boot 0 = .ok (.aload_n 0, 1) := by decide +kernel
theorem dX4_boot_1 : decode cX4_boot 1 = .ok (.getfield 88, 3) := by decide +kernel
theorem dX4_boot_4 : decode cX4_boot 4 = .ok (.ifCond .eq 6, 3) := by decide +kernel
theorem dX4_boot_7 : decode cX4_boot 7 = .ok (.bipush (-9), 2) := by decide +kernel
theorem dX4_boot_9 : decode cX4_boot 9 = .ok (.ireturn, 1) := by decide +kernel
theorem dX4_boot_10 : decode cX4_boot 10 = .ok (.aload_n 0, 1) := by decide +kernel
theorem dX4_boot_11 : decode cX4_boot 11 = .ok (.iconst 0, 1) := by decide +kernel
theorem dX4_boot_12 : decode cX4_boot 12 = .ok (.putfield 92, 3) := by decide +kernel
theorem dX4_boot_15 : decode cX4_boot 15 = .ok (.aload_n 0, 1) := by decide +kernel
theorem dX4_boot_16 : decode cX4_boot 16 = .ok (.invokevirtual 136, 3) := by decide +kernel
theorem dX4_boot_19 : decode cX4_boot 19 = .ok (.istore_n 1, 1) := by decide +kernel
theorem dX4_boot_20 : decode cX4_boot 20 = .ok (.aload_n 0, 1) := by decide +kernel
theorem dX4_boot_21 : decode cX4_boot 21 = .ok (.invokevirtual 140, 3) := by decide +kernel
theorem dX4_boot_24 : decode cX4_boot 24 = .ok (.iload_n 1, 1) := by decide +kernel
theorem dX4_boot_25 : decode cX4_boot 25 = .ok (.iconst 4, 1) := by decide +kernel
theorem dX4_boot_26 : decode cX4_boot 26 = .ok (.if_icmp .ne 12, 3) := by decide +kernel
theorem dX4_boot_29 : decode cX4_boot 29 = .ok (.aload_n 0, 1) := by decide +kernel
theorem dX4_boot_30 : decode cX4_boot 30 = .ok (.bipush 9, 2) := by decide +kernel
theorem dX4_boot_32 : decode cX4_boot 32 = .ok (.invokevirtual 143, 3) := by decide +kernel
theorem dX4_boot_35 : decode cX4_boot 35 = .ok (.goto 68, 3) := by decide +kernel
theorem dX4_boot_38 : decode cX4_boot 38 = .ok (.iload_n 1, 1) := by decide +kernel
theorem dX4_boot_39 : decode cX4_boot 39 = .ok (.ifCond .le 64, 3) := by decide +kernel
theorem dX4_boot_42 : decode cX4_boot 42 = .ok (.iload_n 1, 1) := by decide +kernel
theorem dX4_boot_43 : decode cX4_boot 43 = .ok (.iconst 4, 1) := by decide +kernel
theorem dX4_boot_44 : decode cX4_boot 44 = .ok (.if_icmp .ge 37, 3) := by decide +kernel
theorem dX4_boot_47 : decode cX4_boot 47 = .ok (.aload_n 0, 1) := by decide +kernel
theorem dX4_boot_48 : decode cX4_boot 48 = .ok (.getfield 13, 3) := by decide +kernel
theorem dX4_boot_51 : decode cX4_boot 51 = .ok (.bipush 9, 2) := by decide +kernel
theorem dX4_boot_53 : decode cX4_boot 53 = .ok (.iconst 1, 1) := by decide +kernel
theorem dX4_boot_54 : decode cX4_boot 54 = .ok (.invokestatic 98, 3) := by decide +kernel
theorem dX4_boot_57 : decode cX4_boot 57 = .ok (.iload_n 1, 1) := by decide +kernel
theorem dX4_boot_58 : decode cX4_boot 58 = .ok (.if_icmp .eq 11, 3) := by decide +kernel
theorem dX4_boot_61 : decode cX4_boot 61 = .ok (.aload_n 0, 1) := by decide +kernel
theorem dX4_boot_62 : decode cX4_boot 62 = .ok (.bipush 9, 2) := by decide +kernel
theorem dX4_boot_64 : decode cX4_boot 64 = .ok (.iconst 1, 1) := by decide +kernel
theorem dX4_boot_65 : decode cX4_boot 65 = .ok (.iload_n 1, 1) := by decide +kernel
theorem dX4_boot_66 : decode cX4_boot 66 = .ok (.invokevirtual 150, 3) := by decide +kernel
theorem dX4_boot_69 : decode cX4_boot 69 = .ok (.aload_n 0, 1) := by decide +kernel
theorem dX4_boot_70 : decode cX4_boot 70 = .ok (.iconst 4, 1) := by decide +kernel
theorem dX4_boot_71 : decode cX4_boot 71 = .ok (.invokevirtual 143, 3) := by decide +kernel
theorem dX4_boot_74 : decode cX4_boot 74 = .ok (.aload_n 0, 1) := by decide +kernel
theorem dX4_boot_75 : decode cX4_boot 75 = .ok (.iconst 4, 1) := by decide +kernel
theorem dX4_boot_76 : decode cX4_boot 76 = .ok (.iconst 1, 1) := by decide +kernel
theorem dX4_boot_77 : decode cX4_boot 77 = .ok (.iload_n 1, 1) := by decide +kernel
theorem dX4_boot_78 : decode cX4_boot 78 = .ok (.invokevirtual 150, 3) := by decide +kernel
theorem dX4_boot_81 : decode cX4_boot 81 = .ok (.aload_n 0, 1) := by decide +kernel
theorem dX4_boot_82 : decode cX4_boot 82 = .ok (.iload_n 1, 1) := by decide +kernel
theorem dX4_boot_83 : decode cX4_boot 83 = .ok (.iconst 4, 1) := by decide +kernel
theorem dX4_boot_84 : decode cX4_boot 84 = .ok (.if_icmp .ge 7, 3) := by decide +kernel
theorem dX4_boot_87 : decode cX4_boot 87 = .ok (.iload_n 1, 1) := by decide +kernel
theorem dX4_boot_88 : decode cX4_boot 88 = .ok (.goto 12, 3) := by decide +kernel
theorem dX4_boot_91 : decode cX4_boot 91 = .ok (.aload_n 0, 1) := by decide +kernel
theorem dX4_boot_92 : decode cX4_boot 92 = .ok (.getfield 13, 3) := by decide +kernel
theorem dX4_boot_95 : decode cX4_boot 95 = .ok (.iconst 4, 1) := by decide +kernel
theorem dX4_boot_96 : decode cX4_boot 96 = .ok (.iconst 1, 1) := by decide +kernel
theorem dX4_boot_97 : decode cX4_boot 97 = .ok (.invokestatic 98, 3) := by decide +kernel
theorem dX4_boot_100 : decode cX4_boot 100 = .ok (.invokevirtual 161, 3) := by decide +kernel
theorem dX4_boot_103 : decode cX4_boot 103 = .ok (.aload_n 0, 1) := by decide +kernel
theorem dX4_boot_104 : decode cX4_boot 104 = .ok (.invokevirtual 146, 3) := by decide +kernel
theorem dX4_boot_107 : decode cX4_boot 107 = .ok (.istore_n 2, 1) := by decide +kernel
theorem dX4_boot_108 : decode cX4_boot 108 = .ok (.iload_n 2, 1) := by decide +kernel
theorem dX4_boot_109 : decode cX4_boot 109 = .ok (.ifCond .ne 6, 3) := by decide +kernel
theorem dX4_boot_112 : decode cX4_boot 112 = .ok (.bipush (-9), 2) := by decide +kernel
theorem dX4_boot_114 : decode cX4_boot 114 = .ok (.ireturn, 1) := by decide +kernel
theorem dX4_boot_115 : decode cX4_boot 115 = .ok (.iload_n 1, 1) := by decide +kernel
theorem dX4_boot_116 : decode cX4_boot 116 = .ok (.iconst 4, 1) := by decide +kernel
theorem dX4_boot_117 : decode cX4_boot 117 = .ok (.if_icmp .ne 13, 3) := by decide +kernel
theorem dX4_boot_120 : decode cX4_boot 120 = .ok (.aload_n 0, 1) := by decide +kernel
theorem dX4_boot_121 : decode cX4_boot 121 = .ok (.dup, 1) := by decide +kernel
theorem dX4_boot_122 : decode cX4_boot 122 = .ok (.getfield 164, 3) := by decide +kernel
theorem dX4_boot_125 : decode cX4_boot 125 = .ok (.iconst 1, 1) := by decide +kernel
theorem dX4_boot_126 : decode cX4_boot 126 = .ok (.iadd, 1) := by decide +kernel
theorem dX4_boot_127 : decode cX4_boot 127 = .ok (.putfield 164, 3) := by decide +kernel
theorem dX4_boot_130 : decode cX4_boot 130 = .ok (.aload_n 0, 1) := by decide +kernel
theorem dX4_boot_131 : decode cX4_boot 131 = .ok (.dup, 1) := by decide +kernel
theorem dX4_boot_132 : decode cX4_boot 132 = .ok (.getfield 167, 3) := by decide +kernel
theorem dX4_boot_135 : decode cX4_boot 135 = .ok (.iconst 1, 1) := by decide +kernel
theorem dX4_boot_136 : decode cX4_boot 136 = .ok (.iadd, 1) := by decide +kernel
theorem dX4_boot_137 : decode cX4_boot 137 = .ok (.putfield 167, 3) := by decide +kernel
theorem dX4_boot_140 : decode cX4_boot 140 = .ok (.aload_n 0, 1) := by decide +kernel
theorem dX4_boot_141 : decode cX4_boot 141 = .ok (.aload_n 0, 1) := by decide +kernel
theorem dX4_boot_142 : decode cX4_boot 142 = .ok (.iconst 0, 1) := by decide +kernel
theorem dX4_boot_143 : decode cX4_boot 143 = .ok (.invokevirtual 117, 3) := by decide +kernel
theorem dX4_boot_146 : decode cX4_boot 146 = .ok (.putfield 92, 3) := by decide +kernel
theorem dX4_boot_149 : decode cX4_boot 149 = .ok (.aload_n 0, 1) := by decide +kernel
theorem dX4_boot_150 : decode cX4_boot 150 = .ok (.aload_n 0, 1) := by decide +kernel
theorem dX4_boot_151 : decode cX4_boot 151 = .ok (.getfield 9, 3) := by decide +kernel
theorem dX4_boot_154 : decode cX4_boot 154 = .ok (.iconst 4, 1) := by decide +kernel
theorem dX4_boot_155 : decode cX4_boot 155 = .ok (.invokestatic 102, 3) := by decide +kernel
theorem dX4_boot_158 : decode cX4_boot 158 = .ok (.putfield 170, 3) := by decide +kernel
theorem dX4_boot_161 : decode cX4_boot 161 = .ok (.aload_n 0, 1) := by decide +kernel
theorem dX4_boot_162 : decode cX4_boot 162 = .ok (.getfield 92, 3) := by decide +kernel
theorem dX4_boot_165 : decode cX4_boot 165 = .ok (.ifCond .eq 7, 3) := by decide +kernel
theorem dX4_boot_168 : decode cX4_boot 168 = .ok (.iconst 1, 1) := by decide +kernel
theorem dX4_boot_169 : decode cX4_boot 169 = .ok (.goto 4, 3) := by decide +kernel
theorem dX4_boot_172 : decode cX4_boot 172 = .ok (.iconst 0, 1) := by decide +kernel
theorem dX4_boot_173 : decode cX4_boot 173 = .ok (.ireturn, 1) := by decide +kernel
theorem dX4_cut_0 : decode cX4_cut 0 = .ok (.iload_n 1, 1) := by decide +kernel
theorem dX4_cut_1 : decode cX4_cut 1 = .ok (.ifCond .lt 26, 3) := by decide +kernel
theorem dX4_cut_4 : decode cX4_cut 4 = .ok (.iload_n 1, 1) := by decide +kernel
theorem dX4_cut_5 : decode cX4_cut 5 = .ok (.ldc 173, 2) := by decide +kernel
theorem dX4_cut_7 : decode cX4_cut 7 = .ok (.if_icmp .gt 20, 3) := by decide +kernel
theorem dX4_cut_10 : decode cX4_cut 10 = .ok (.iload_n 2, 1) := by decide +kernel
theorem dX4_cut_11 : decode cX4_cut 11 = .ok (.ifCond .lt 16, 3) := by decide +kernel
theorem dX4_cut_14 : decode cX4_cut 14 = .ok (.iload_n 2, 1) := by decide +kernel
theorem dX4_cut_15 : decode cX4_cut 15 = .ok (.bipush 31, 2) := by decide +kernel
theorem dX4_cut_17 : decode cX4_cut 17 = .ok (.if_icmp .gt 10, 3) := by decide +kernel
theorem dX4_cut_20 : decode cX4_cut 20 = .ok (.aload_n 0, 1) := by decide +kernel
theorem dX4_cut_21 : decode cX4_cut 21 = .ok (.getfield 88, 3) := by decide +kernel
theorem dX4_cut_24 : decode cX4_cut 24 = .ok (.ifCond .eq 5, 3) := by decide +kernel
theorem dX4_cut_27 : decode cX4_cut 27 = .ok (.iconst 0, 1) := by decide +kernel
theorem dX4_cut_28 : decode cX4_cut 28 = .ok (.ireturn, 1) := by decide +kernel
theorem dX4_cut_29 : decode cX4_cut 29 = .ok (.aload_n 0, 1) := by decide +kernel
theorem dX4_cut_30 : decode cX4_cut 30 = .ok (.iload_n 1, 1) := by decide +kernel
theorem dX4_cut_31 : decode cX4_cut 31 = .ok (.putfield 29, 3) := by decide +kernel
theorem dX4_cut_34 : decode cX4_cut 34 = .ok (.aload_n 0, 1) := by decide +kernel
theorem dX4_cut_35 : decode cX4_cut 35 = .ok (.iload_n 2, 1) := by decide +kernel
theorem dX4_cut_36 : decode cX4_cut 36 = .ok (.putfield 85, 3) := by decide +kernel
theorem dX4_cut_39 : decode cX4_cut 39 = .ok (.iconst 1, 1) := by decide +kernel
theorem dX4_cut_40 : decode cX4_cut 40 = .ok (.ireturn, 1) := by decide +kernel
theorem dX4_power_0 : decode cX4_power 0 = .ok (.aload_n 0, 1) := by decide +kernel
theorem dX4_power_1 : decode cX4_power 1 = .ok (.iconst 0, 1) := by decide +kernel
theorem dX4_power_2 : decode cX4_power 2 = .ok (.putfield 88, 3) := by decide +kernel
theorem dX4_power_5 : decode cX4_power 5 = .ok (.aload_n 0, 1) := by decide +kernel
theorem dX4_power_6 : decode cX4_power 6 = .ok (.iconst 0, 1) := by decide +kernel
theorem dX4_power_7 : decode cX4_power 7 = .ok (.putfield 92, 3) := by decide +kernel
theorem dX4_power_10 : decode cX4_power 10 = .ok (.aload_n 0, 1) := by decide +kernel
theorem dX4_power_11 : decode cX4_power 11 = .ok (.iconst (-1), 1) := by decide +kernel
theorem dX4_power_12 : decode cX4_power 12 = .ok (.putfield 29, 3) := by decide +kernel
theorem dX4_power_15 : decode cX4_power 15 = .ok (.return_, 1) := by decide +kernel
theorem dX4_harm_0 : decode cX4_harm 0 = .ok (.iload_n 1, 1) := by decide +kernel
theorem dX4_harm_1 : decode cX4_harm 1 = .ok (.ifCond .lt 10, 3) := by decide +kernel
theorem dX4_harm_4 : decode cX4_harm 4 = .ok (.iload_n 1, 1) := by decide +kernel
theorem dX4_harm_5 : decode cX4_harm 5 = .ok (.sipush 2816, 3) := by decide +kernel
theorem dX4_harm_8 : decode cX4_harm 8 = .ok (.if_icmp .lt 5, 3) := by decide +kernel
theorem dX4_harm_11 : decode cX4_harm 11 = .ok (.iconst 0, 1) := by decide +kernel
theorem dX4_harm_12 : decode cX4_harm 12 = .ok (.ireturn, 1) := by decide +kernel
theorem dX4_harm_13 : decode cX4_harm 13 = .ok (.aload_n 0, 1) := by decide +kernel
theorem dX4_harm_14 : decode cX4_harm 14 = .ok (.getfield 9, 3) := by decide +kernel
theorem dX4_harm_17 : decode cX4_harm 17 = .ok (.iload_n 1, 1) := by decide +kernel
theorem dX4_harm_18 : decode cX4_harm 18 = .ok (.dup2, 1) := by decide +kernel
theorem dX4_harm_19 : decode cX4_harm 19 = .ok (.baload, 1) := by decide +kernel
theorem dX4_harm_20 : decode cX4_harm 20 = .ok (.iload_n 2, 1) := by decide +kernel
theorem dX4_harm_21 : decode cX4_harm 21 = .ok (.i2b, 1) := by decide +kernel
theorem dX4_harm_22 : decode cX4_harm 22 = .ok (.iand, 1) := by decide +kernel
theorem dX4_harm_23 : decode cX4_harm 23 = .ok (.i2b, 1) := by decide +kernel
theorem dX4_harm_24 : decode cX4_harm 24 = .ok (.bastore, 1) := by decide +kernel
theorem dX4_harm_25 : decode cX4_harm 25 = .ok (.iconst 1, 1) := by decide +kernel
theorem dX4_harm_26 : decode cX4_harm 26 = .ok (.ireturn, 1) := by decide +kernel
theorem dX4_flash_0 : decode cX4_flash 0 = .ok (.iload_n 1, 1) := by decide +kernel
theorem dX4_flash_1 : decode cX4_flash 1 = .ok (.ifCond .lt 10, 3) := by decide +kernel
theorem dX4_flash_4 : decode cX4_flash 4 = .ok (.iload_n 1, 1) := by decide +kernel
theorem dX4_flash_5 : decode cX4_flash 5 = .ok (.sipush 2816, 3) := by decide +kernel
theorem dX4_flash_8 : decode cX4_flash 8 = .ok (.if_icmp .lt 7, 3) := by decide +kernel
theorem dX4_flash_11 : decode cX4_flash 11 = .ok (.iconst (-1), 1) := by decide +kernel
theorem dX4_flash_12 : decode cX4_flash 12 = .ok (.goto 13, 3) := by decide +kernel
theorem dX4_flash_15 : decode cX4_flash 15 = .ok (.aload_n 0, 1) := by decide +kernel
theorem dX4_flash_16 : decode cX4_flash 16 = .ok (.getfield 9, 3) := by decide +kernel
theorem dX4_flash_19 : decode cX4_flash 19 = .ok (.iload_n 1, 1) := by decide +kernel
theorem dX4_flash_20 : decode cX4_flash 20 = .ok (.baload, 1) := by decide +kernel
theorem dX4_flash_21 : decode cX4_flash 21 = .ok (.sipush 255, 3) := by decide +kernel
theorem dX4_flash_24 : decode cX4_flash 24 = .ok (.iand, 1) := by decide +kernel
theorem dX4_flash_25 : decode cX4_flash 25 = .ok (.ireturn, 1) := by decide +kernel
set_option maxRecDepth 20000 in
theorem ggX4_image_X4_isRight : GoodIn wsX4_image wsX4_isRight := goodIn_r _ [6, 1, 7, 8, 9, 5, 10, 11, 12, 13, 14, 15, 16, 17, 18, 19, 20, 21, 22, 23, 24, 25, 26, 27, 28, 29, 30, 31, 32, 33, 34, 35, 36, 37, 38, 39, 40, 41, 42, 43, 44, 45, 46, 47, 48, 49, 50, 51, 52, 53, 54, 55] (by decide +kernel) (by decide +kernel)
set_option maxRecDepth 20000 in
theorem gX4_image_X4_isRight : GoodIn wsX4_image (wsV RX4 117 RX4 yX4_isRight wsX4_isRight) := goodIn_app (goodIn_of _ (by decide +kernel)) ggX4_image_X4_isRight
set_option maxRecDepth 20000 in
theorem ggX4_image_X4_unit : GoodIn wsX4_image wsX4_unit := goodIn_r _ [10] (by decide +kernel) (by decide +kernel)
set_option maxRecDepth 20000 in
theorem gX4_image_X4_unit : GoodIn wsX4_image (va_wsS RX4 60 yX4_unit wsX4_unit) := goodIn_app (goodIn_of _ (by decide +kernel)) ggX4_image_X4_unit
set_option maxRecDepth 20000 in
theorem ggX4_image_X4_intAt : GoodIn wsX4_image wsX4_intAt := goodIn_r _ [13] (by decide +kernel) (by decide +kernel)
set_option maxRecDepth 20000 in
theorem gX4_image_X4_intAt : GoodIn wsX4_image (va_wsS RX4 102 yX4_intAt wsX4_intAt) := goodIn_app (goodIn_of _ (by decide +kernel)) ggX4_image_X4_intAt
theorem dX4_image_0 : decode cX4_image 0 = .ok (.iload_n 1, 1) := by decide +kernel
theorem dX4_image_1 : decode cX4_image 1 = .ok (.ifCond .eq 8, 3) := by decide +kernel
theorem dX4_image_4 : decode cX4_image 4 = .ok (.iload_n 1, 1) := by decide +kernel
theorem dX4_image_5 : decode cX4_image 5 = .ok (.iconst 1, 1) := by decide +kernel
theorem dX4_image_6 : decode cX4_image 6 = .ok (.if_icmp .ne 12, 3) := by decide +kernel
theorem dX4_image_9 : decode cX4_image 9 = .ok (.iload_n 2, 1) := by decide +kernel
theorem dX4_image_10 : decode cX4_image 10 = .ok (.ifCond .lt 8, 3) := by decide +kernel
theorem dX4_image_13 : decode cX4_image 13 = .ok (.iload_n 2, 1) := by decide +kernel
theorem dX4_image_14 : decode cX4_image 14 = .ok (.iconst 2, 1) := by decide +kernel
theorem dX4_image_15 : decode cX4_image 15 = .ok (.if_icmp .le 5, 3) := by decide +kernel
theorem dX4_image_18 : decode cX4_image 18 = .ok (.iconst (-1), 1) := by decide +kernel
theorem dX4_image_19 : decode cX4_image 19 = .ok (.ireturn, 1) := by decide +kernel
theorem dX4_image_20 : decode cX4_image 20 = .ok (.aload_n 0, 1) := by decide +kernel
theorem dX4_image_21 : decode cX4_image 21 = .ok (.iload_n 1, 1) := by decide +kernel
theorem dX4_image_22 : decode cX4_image 22 = .ok (.invokevirtual 117, 3) := by decide +kernel
theorem dX4_image_25 : decode cX4_image 25 = .ok (.ifCond .ne 5, 3) := by decide +kernel
theorem dX4_image_28 : decode cX4_image 28 = .ok (.iconst 0, 1) := by decide +kernel
theorem dX4_image_29 : decode cX4_image 29 = .ok (.ireturn, 1) := by decide +kernel
theorem dX4_image_30 : decode cX4_image 30 = .ok (.iload_n 2, 1) := by decide +kernel
theorem dX4_image_31 : decode cX4_image 31 = .ok (.ifCond .ne 7, 3) := by decide +kernel
theorem dX4_image_34 : decode cX4_image 34 = .ok (.iconst 1, 1) := by decide +kernel
theorem dX4_image_35 : decode cX4_image 35 = .ok (.goto 23, 3) := by decide +kernel
theorem dX4_image_38 : decode cX4_image 38 = .ok (.aload_n 0, 1) := by decide +kernel
theorem dX4_image_39 : decode cX4_image 39 = .ok (.getfield 9, 3) := by decide +kernel
theorem dX4_image_42 : decode cX4_image 42 = .ok (.iconst 5, 1) := by decide +kernel
theorem dX4_image_43 : decode cX4_image 43 = .ok (.iload_n 1, 1) := by decide +kernel
theorem dX4_image_44 : decode cX4_image 44 = .ok (.imul, 1) := by decide +kernel
theorem dX4_image_45 : decode cX4_image 45 = .ok (.iconst 0, 1) := by decide +kernel
theorem dX4_image_46 : decode cX4_image 46 = .ok (.invokestatic 60, 3) := by decide +kernel
theorem dX4_image_49 : decode cX4_image 49 = .ok (.iconst 4, 1) := by decide +kernel
theorem dX4_image_50 : decode cX4_image 50 = .ok (.iload_n 2, 1) := by decide +kernel
theorem dX4_image_51 : decode cX4_image 51 = .ok (.iconst 1, 1) := by decide +kernel
theorem dX4_image_52 : decode cX4_image 52 = .ok (.isub, 1) := by decide +kernel
theorem dX4_image_53 : decode cX4_image 53 = .ok (.imul, 1) := by decide +kernel
theorem dX4_image_54 : decode cX4_image 54 = .ok (.iadd, 1) := by decide +kernel
theorem dX4_image_55 : decode cX4_image 55 = .ok (.invokestatic 102, 3) := by decide +kernel
theorem dX4_image_58 : decode cX4_image 58 = .ok (.ireturn, 1) := by decide +kernel
set_option maxRecDepth 20000 in
theorem ggX4_trailer_X4_isMagic : GoodIn wsX4_trailer wsX4_isMagic := goodIn_r _ [5, 6, 7, 8, 4, 9] (by decide +kernel) (by decide +kernel)
set_option maxRecDepth 20000 in
theorem gX4_trailer_X4_isMagic : GoodIn wsX4_trailer (va_wsS RX4 114 yX4_isMagic wsX4_isMagic) := goodIn_app (goodIn_of _ (by decide +kernel)) ggX4_trailer_X4_isMagic
set_option maxRecDepth 20000 in
theorem ggX4_trailer_X4_set : GoodIn wsX4_trailer wsX4_set := goodIn_r _ [12, 7, 8, 4, 9] (by decide +kernel) (by decide +kernel)
set_option maxRecDepth 20000 in
theorem gX4_trailer_X4_set : GoodIn wsX4_trailer (va_wsS RX4 98 yX4_set wsX4_set) := goodIn_app (goodIn_of _ (by decide +kernel)) ggX4_trailer_X4_set
set_option maxRecDepth 20000 in
theorem ggX4_trailer_X4_isSet : GoodIn wsX4_trailer wsX4_isSet := goodIn_r _ [15, 10, 11, 4, 12, 7, 8, 9] (by decide +kernel) (by decide +kernel)
set_option maxRecDepth 20000 in
theorem gX4_trailer_X4_isSet : GoodIn wsX4_trailer (va_wsS RX4 110 yX4_isSet wsX4_isSet) := goodIn_app (goodIn_of _ (by decide +kernel)) ggX4_trailer_X4_isSet
theorem dX4_trailer_0 : decode cX4_trailer 0 = .ok (.iload_n 1, 1) := by decide +kernel
theorem dX4_trailer_1 : decode cX4_trailer 1 = .ok (.ifCond .eq 10, 3) := by decide +kernel
theorem dX4_trailer_4 : decode cX4_trailer 4 = .ok (.iload_n 1, 1) := by decide +kernel
theorem dX4_trailer_5 : decode cX4_trailer 5 = .ok (.iconst 1, 1) := by decide +kernel
theorem dX4_trailer_6 : decode cX4_trailer 6 = .ok (.if_icmp .eq 5, 3) := by decide +kernel
theorem dX4_trailer_9 : decode cX4_trailer 9 = .ok (.iconst (-1), 1) := by decide +kernel
theorem dX4_trailer_10 : decode cX4_trailer 10 = .ok (.ireturn, 1) := by decide +kernel
theorem dX4_trailer_11 : decode cX4_trailer 11 = .ok (.iload_n 1, 1) := by decide +kernel
theorem dX4_trailer_12 : decode cX4_trailer 12 = .ok (.ifCond .ne 7, 3) := by decide +kernel
theorem dX4_trailer_15 : decode cX4_trailer 15 = .ok (.iconst 4, 1) := by decide +kernel
theorem dX4_trailer_16 : decode cX4_trailer 16 = .ok (.goto 5, 3) := by decide +kernel
theorem dX4_trailer_19 : decode cX4_trailer 19 = .ok (.bipush 9, 2) := by decide +kernel
theorem dX4_trailer_21 : decode cX4_trailer 21 = .ok (.istore_n 3, 1) := by decide +kernel
theorem dX4_trailer_22 : decode cX4_trailer 22 = .ok (.iload_n 2, 1) := by decide +kernel
theorem dX4_trailer_23 : decode cX4_trailer 23 = .ok (.tableswitch 141 0 4 #[33, 50, 60, 78, 96], 33) := by decide +kernel
theorem dX4_trailer_56 : decode cX4_trailer 56 = .ok (.aload_n 0, 1) := by decide +kernel
theorem dX4_trailer_57 : decode cX4_trailer 57 = .ok (.getfield 9, 3) := by decide +kernel
theorem dX4_trailer_60 : decode cX4_trailer 60 = .ok (.iload_n 3, 1) := by decide +kernel
theorem dX4_trailer_61 : decode cX4_trailer 61 = .ok (.invokestatic 114, 3) := by decide +kernel
theorem dX4_trailer_64 : decode cX4_trailer 64 = .ok (.ifCond .eq 7, 3) := by decide +kernel
theorem dX4_trailer_67 : decode cX4_trailer 67 = .ok (.iconst 1, 1) := by decide +kernel
theorem dX4_trailer_68 : decode cX4_trailer 68 = .ok (.goto 4, 3) := by decide +kernel
theorem dX4_trailer_71 : decode cX4_trailer 71 = .ok (.iconst 0, 1) := by decide +kernel
theorem dX4_trailer_72 : decode cX4_trailer 72 = .ok (.ireturn, 1) := by decide +kernel
theorem dX4_trailer_73 : decode cX4_trailer 73 = .ok (.aload_n 0, 1) := by decide +kernel
theorem dX4_trailer_74 : decode cX4_trailer 74 = .ok (.getfield 9, 3) := by decide +kernel
theorem dX4_trailer_77 : decode cX4_trailer 77 = .ok (.iload_n 3, 1) := by decide +kernel
theorem dX4_trailer_78 : decode cX4_trailer 78 = .ok (.iconst 1, 1) := by decide +kernel
theorem dX4_trailer_79 : decode cX4_trailer 79 = .ok (.invokestatic 98, 3) := by decide +kernel
theorem dX4_trailer_82 : decode cX4_trailer 82 = .ok (.ireturn, 1) := by decide +kernel
theorem dX4_trailer_83 : decode cX4_trailer 83 = .ok (.aload_n 0, 1) := by decide +kernel
theorem dX4_trailer_84 : decode cX4_trailer 84 = .ok (.getfield 9, 3) := by decide +kernel
theorem dX4_trailer_87 : decode cX4_trailer 87 = .ok (.iload_n 3, 1) := by decide +kernel
theorem dX4_trailer_88 : decode cX4_trailer 88 = .ok (.iconst 2, 1) := by decide +kernel
theorem dX4_trailer_89 : decode cX4_trailer 89 = .ok (.invokestatic 110, 3) := by decide +kernel
theorem dX4_trailer_92 : decode cX4_trailer 92 = .ok (.ifCond .eq 7, 3) := by decide +kernel
theorem dX4_trailer_95 : decode cX4_trailer 95 = .ok (.iconst 1, 1) := by decide +kernel
theorem dX4_trailer_96 : decode cX4_trailer 96 = .ok (.goto 4, 3) := by decide +kernel
theorem dX4_trailer_99 : decode cX4_trailer 99 = .ok (.iconst 0, 1) := by decide +kernel
theorem dX4_trailer_100 : decode cX4_trailer 100 = .ok (.ireturn, 1) := by decide +kernel
theorem dX4_trailer_101 : decode cX4_trailer 101 = .ok (.aload_n 0, 1) := by decide +kernel
theorem dX4_trailer_102 : decode cX4_trailer 102 = .ok (.getfield 9, 3) := by decide +kernel
theorem dX4_trailer_105 : decode cX4_trailer 105 = .ok (.iload_n 3, 1) := by decide +kernel
theorem dX4_trailer_106 : decode cX4_trailer 106 = .ok (.iconst 3, 1) := by decide +kernel
theorem dX4_trailer_107 : decode cX4_trailer 107 = .ok (.invokestatic 110, 3) := by decide +kernel
theorem dX4_trailer_110 : decode cX4_trailer 110 = .ok (.ifCond .eq 7, 3) := by decide +kernel
theorem dX4_trailer_113 : decode cX4_trailer 113 = .ok (.iconst 1, 1) := by decide +kernel
theorem dX4_trailer_114 : decode cX4_trailer 114 = .ok (.goto 4, 3) := by decide +kernel
theorem dX4_trailer_117 : decode cX4_trailer 117 = .ok (.iconst 0, 1) := by decide +kernel
theorem dX4_trailer_118 : decode cX4_trailer 118 = .ok (.ireturn, 1) := by decide +kernel
theorem dX4_trailer_119 : decode cX4_trailer 119 = .ok (.iconst 0, 1) := by decide +kernel
theorem dX4_trailer_120 : decode cX4_trailer 120 = .ok (.istore 4, 2) := by decide +kernel
theorem dX4_trailer_122 : decode cX4_trailer 122 = .ok (.iconst 4, 1) := by decide +kernel
theorem dX4_trailer_123 : decode cX4_trailer 123 = .ok (.istore 5, 2) := by decide +kernel
theorem dX4_trailer_125 : decode cX4_trailer 125 = .ok (.iload 5, 2) := by decide +kernel
theorem dX4_trailer_127 : decode cX4_trailer 127 = .ok (.bipush 16, 2) := by decide +kernel
theorem dX4_trailer_129 : decode cX4_trailer 129 = .ok (.if_icmp .ge 32, 3) := by decide +kernel
theorem dX4_trailer_132 : decode cX4_trailer 132 = .ok (.iload 4, 2) := by decide +kernel
theorem dX4_trailer_134 : decode cX4_trailer 134 = .ok (.aload_n 0, 1) := by decide +kernel
theorem dX4_trailer_135 : decode cX4_trailer 135 = .ok (.getfield 9, 3) := by decide +kernel
theorem dX4_trailer_138 : decode cX4_trailer 138 = .ok (.iload_n 3, 1) := by decide +kernel
theorem dX4_trailer_139 : decode cX4_trailer 139 = .ok (.iload 5, 2) := by decide +kernel
theorem dX4_trailer_141 : decode cX4_trailer 141 = .ok (.invokestatic 110, 3) := by decide +kernel
theorem dX4_trailer_144 : decode cX4_trailer 144 = .ok (.ifCond .eq 7, 3) := by decide +kernel
theorem dX4_trailer_147 : decode cX4_trailer 147 = .ok (.iconst 1, 1) := by decide +kernel
theorem dX4_trailer_148 : decode cX4_trailer 148 = .ok (.goto 4, 3) := by decide +kernel
theorem dX4_trailer_151 : decode cX4_trailer 151 = .ok (.iconst 0, 1) := by decide +kernel
theorem dX4_trailer_152 : decode cX4_trailer 152 = .ok (.iadd, 1) := by decide +kernel
theorem dX4_trailer_153 : decode cX4_trailer 153 = .ok (.istore 4, 2) := by decide +kernel
theorem dX4_trailer_155 : decode cX4_trailer 155 = .ok (.iinc 5 1, 3) := by decide +kernel
theorem dX4_trailer_158 : decode cX4_trailer 158 = .ok (.goto (-33), 3) := by decide +kernel
theorem dX4_trailer_161 : decode cX4_trailer 161 = .ok (.iload 4, 2) := by decide +kernel
theorem dX4_trailer_163 : decode cX4_trailer 163 = .ok (.ireturn, 1) := by decide +kernel
theorem dX4_trailer_164 : decode cX4_trailer 164 = .ok (.iconst (-1), 1) := by decide +kernel
theorem dX4_trailer_165 : decode cX4_trailer 165 = .ok (.ireturn, 1) := by decide +kernel
theorem dX4_wear_0 : decode cX4_wear 0 = .ok (.iload_n 1, 1) := by decide +kernel
theorem dX4_wear_1 : decode cX4_wear 1 = .ok (.ifCond .lt 9, 3) := by decide +kernel
theorem dX4_wear_4 : decode cX4_wear 4 = .ok (.iload_n 1, 1) := by decide +kernel
theorem dX4_wear_5 : decode cX4_wear 5 = .ok (.bipush 11, 2) := by decide +kernel
theorem dX4_wear_7 : decode cX4_wear 7 = .ok (.if_icmp .lt 7, 3) := by decide +kernel
theorem dX4_wear_10 : decode cX4_wear 10 = .ok (.iconst (-1), 1) := by decide +kernel
theorem dX4_wear_11 : decode cX4_wear 11 = .ok (.goto 9, 3) := by decide +kernel
theorem dX4_wear_14 : decode cX4_wear 14 = .ok (.aload_n 0, 1) := by decide +kernel
theorem dX4_wear_15 : decode cX4_wear 15 = .ok (.getfield 33, 3) := by decide +kernel
theorem dX4_wear_18 : decode cX4_wear 18 = .ok (.iload_n 1, 1) := by decide +kernel
theorem dX4_wear_19 : decode cX4_wear 19 = .ok (.iaload, 1) := by decide +kernel
theorem dX4_wear_20 : decode cX4_wear 20 = .ok (.ireturn, 1) := by decide +kernel
theorem dX4_look_0 : decode cX4_look 0 = .ok (.iload_n 1, 1) := by decide +kernel
theorem dX4_look_1 : decode cX4_look 1 = .ok (.tableswitch 134 0 8 #[51, 64, 77, 93, 98, 114, 119, 124, 129], 51) := by decide +kernel
theorem dX4_look_52 : decode cX4_look 52 = .ok (.aload_n 0, 1) := by decide +kernel
theorem dX4_look_53 : decode cX4_look 53 = .ok (.getfield 88, 3) := by decide +kernel
theorem dX4_look_56 : decode cX4_look 56 = .ok (.ifCond .eq 7, 3) := by decide +kernel
theorem dX4_look_59 : decode cX4_look 59 = .ok (.iconst 1, 1) := by decide +kernel
theorem dX4_look_60 : decode cX4_look 60 = .ok (.goto 4, 3) := by decide +kernel
theorem dX4_look_63 : decode cX4_look 63 = .ok (.iconst 0, 1) := by decide +kernel
theorem dX4_look_64 : decode cX4_look 64 = .ok (.ireturn, 1) := by decide +kernel
theorem dX4_look_65 : decode cX4_look 65 = .ok (.aload_n 0, 1) := by decide +kernel
theorem dX4_look_66 : decode cX4_look 66 = .ok (.getfield 92, 3) := by decide +kernel
theorem dX4_look_69 : decode cX4_look 69 = .ok (.ifCond .eq 7, 3) := by decide +kernel
theorem dX4_look_72 : decode cX4_look 72 = .ok (.iconst 1, 1) := by decide +kernel
theorem dX4_look_73 : decode cX4_look 73 = .ok (.goto 4, 3) := by decide +kernel
theorem dX4_look_76 : decode cX4_look 76 = .ok (.iconst 0, 1) := by decide +kernel
theorem dX4_look_77 : decode cX4_look 77 = .ok (.ireturn, 1) := by decide +kernel
theorem dX4_look_78 : decode cX4_look 78 = .ok (.aload_n 0, 1) := by decide +kernel
theorem dX4_look_79 : decode cX4_look 79 = .ok (.getfield 92, 3) := by decide +kernel
theorem dX4_look_82 : decode cX4_look 82 = .ok (.ifCond .eq 10, 3) := by decide +kernel
theorem dX4_look_85 : decode cX4_look 85 = .ok (.aload_n 0, 1) := by decide +kernel
theorem dX4_look_86 : decode cX4_look 86 = .ok (.getfield 170, 3) := by decide +kernel
theorem dX4_look_89 : decode cX4_look 89 = .ok (.goto 4, 3) := by decide +kernel
theorem dX4_look_92 : decode cX4_look 92 = .ok (.iconst 0, 1) := by decide +kernel
theorem dX4_look_93 : decode cX4_look 93 = .ok (.ireturn, 1) := by decide +kernel
theorem dX4_look_94 : decode cX4_look 94 = .ok (.aload_n 0, 1) := by decide +kernel
theorem dX4_look_95 : decode cX4_look 95 = .ok (.getfield 79, 3) := by decide +kernel
theorem dX4_look_98 : decode cX4_look 98 = .ok (.ireturn, 1) := by decide +kernel
theorem dX4_look_99 : decode cX4_look 99 = .ok (.aload_n 0, 1) := by decide +kernel
theorem dX4_look_100 : decode cX4_look 100 = .ok (.getfield 88, 3) := by decide +kernel
theorem dX4_look_103 : decode cX4_look 103 = .ok (.ifCond .eq 7, 3) := by decide +kernel
theorem dX4_look_106 : decode cX4_look 106 = .ok (.iconst 0, 1) := by decide +kernel
theorem dX4_look_107 : decode cX4_look 107 = .ok (.goto 7, 3) := by decide +kernel
theorem dX4_look_110 : decode cX4_look 110 = .ok (.aload_n 0, 1) := by decide +kernel
theorem dX4_look_111 : decode cX4_look 111 = .ok (.getfield 29, 3) := by decide +kernel
theorem dX4_look_114 : decode cX4_look 114 = .ok (.ireturn, 1) := by decide +kernel
theorem dX4_look_115 : decode cX4_look 115 = .ok (.aload_n 0, 1) := by decide +kernel
theorem dX4_look_116 : decode cX4_look 116 = .ok (.getfield 167, 3) := by decide +kernel
theorem dX4_look_119 : decode cX4_look 119 = .ok (.ireturn, 1) := by decide +kernel
theorem dX4_look_120 : decode cX4_look 120 = .ok (.aload_n 0, 1) := by decide +kernel
theorem dX4_look_121 : decode cX4_look 121 = .ok (.getfield 82, 3) := by decide +kernel
theorem dX4_look_124 : decode cX4_look 124 = .ok (.ireturn, 1) := by decide +kernel
theorem dX4_look_125 : decode cX4_look 125 = .ok (.aload_n 0, 1) := by decide +kernel
theorem dX4_look_126 : decode cX4_look 126 = .ok (.getfield 164, 3) := by decide +kernel
theorem dX4_look_129 : decode cX4_look 129 = .ok (.ireturn, 1) := by decide +kernel
theorem dX4_look_130 : decode cX4_look 130 = .ok (.aload_n 0, 1) := by decide +kernel
theorem dX4_look_131 : decode cX4_look 131 = .ok (.getfield 95, 3) := by decide +kernel
theorem dX4_look_134 : decode cX4_look 134 = .ok (.ireturn, 1) := by decide +kernel
theorem dX4_look_135 : decode cX4_look 135 = .ok (.iconst (-1), 1) := by decide +kernel
theorem dX4_look_136 : decode cX4_look 136 = .ok (.ireturn, 1) := by decide +kernel
