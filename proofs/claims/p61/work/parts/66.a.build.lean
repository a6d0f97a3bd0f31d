-- ===== p61: build =====
theorem dL_build_0 : decode cL_build 0 = .ok (.new 18, 3) := by decide +kernel
theorem dL_build_3 : decode cL_build 3 = .ok (.dup, 1) := by decide +kernel
theorem dL_build_4 : decode cL_build 4 = .ok (.invokespecial 23, 3) := by decide +kernel
theorem dL_build_7 : decode cL_build 7 = .ok (.astore_n 1, 1) := by decide +kernel
theorem dL_build_8 : decode cL_build 8 = .ok (.aload_n 0, 1) := by decide +kernel
theorem dL_build_9 : decode cL_build 9 = .ok (.iconst 0, 1) := by decide +kernel
theorem dL_build_10 : decode cL_build 10 = .ok (.invokestatic 24, 3) := by decide +kernel
theorem dL_build_13 : decode cL_build 13 = .ok (.istore_n 2, 1) := by decide +kernel
theorem dL_build_14 : decode cL_build 14 = .ok (.iconst 0, 1) := by decide +kernel
theorem dL_build_15 : decode cL_build 15 = .ok (.istore_n 3, 1) := by decide +kernel
theorem dL_build_16 : decode cL_build 16 = .ok (.iload_n 3, 1) := by decide +kernel
theorem dL_build_17 : decode cL_build 17 = .ok (.iconst 3, 1) := by decide +kernel
theorem dL_build_18 : decode cL_build 18 = .ok (.if_icmp .ge 29, 3) := by decide +kernel
theorem dL_build_21 : decode cL_build 21 = .ok (.aload_n 1, 1) := by decide +kernel
theorem dL_build_22 : decode cL_build 22 = .ok (.iconst 2, 1) := by decide +kernel
theorem dL_build_23 : decode cL_build 23 = .ok (.iload_n 3, 1) := by decide +kernel
theorem dL_build_24 : decode cL_build 24 = .ok (.iconst 1, 1) := by decide +kernel
theorem dL_build_25 : decode cL_build 25 = .ok (.iload_n 2, 1) := by decide +kernel
theorem dL_build_26 : decode cL_build 26 = .ok (.iconst 3, 1) := by decide +kernel
theorem dL_build_27 : decode cL_build 27 = .ok (.iload_n 3, 1) := by decide +kernel
theorem dL_build_28 : decode cL_build 28 = .ok (.imul, 1) := by decide +kernel
theorem dL_build_29 : decode cL_build 29 = .ok (.ishr, 1) := by decide +kernel
theorem dL_build_30 : decode cL_build 30 = .ok (.bipush 7, 2) := by decide +kernel
theorem dL_build_32 : decode cL_build 32 = .ok (.iand, 1) := by decide +kernel
theorem dL_build_33 : decode cL_build 33 = .ok (.iconst 5, 1) := by decide +kernel
theorem dL_build_34 : decode cL_build 34 = .ok (.irem, 1) := by decide +kernel
theorem dL_build_35 : decode cL_build 35 = .ok (.iadd, 1) := by decide +kernel
theorem dL_build_36 : decode cL_build 36 = .ok (.iconst 0, 1) := by decide +kernel
theorem dL_build_37 : decode cL_build 37 = .ok (.invokestatic 30, 3) := by decide +kernel
theorem dL_build_40 : decode cL_build 40 = .ok (.pop, 1) := by decide +kernel
theorem dL_build_41 : decode cL_build 41 = .ok (.iinc 3 1, 3) := by decide +kernel
theorem dL_build_44 : decode cL_build 44 = .ok (.goto (-28), 3) := by decide +kernel
theorem dL_build_47 : decode cL_build 47 = .ok (.iconst 1, 1) := by decide +kernel
theorem dL_build_48 : decode cL_build 48 = .ok (.istore_n 3, 1) := by decide +kernel
theorem dL_build_49 : decode cL_build 49 = .ok (.iload_n 3, 1) := by decide +kernel
theorem dL_build_50 : decode cL_build 50 = .ok (.bipush 13, 2) := by decide +kernel
theorem dL_build_52 : decode cL_build 52 = .ok (.if_icmp .ge 346, 3) := by decide +kernel
theorem dL_build_55 : decode cL_build 55 = .ok (.aload_n 0, 1) := by decide +kernel
theorem dL_build_56 : decode cL_build 56 = .ok (.iload_n 3, 1) := by decide +kernel
theorem dL_build_57 : decode cL_build 57 = .ok (.invokestatic 24, 3) := by decide +kernel
theorem dL_build_60 : decode cL_build 60 = .ok (.istore 4, 2) := by decide +kernel
theorem dL_build_62 : decode cL_build 62 = .ok (.aload_n 1, 1) := by decide +kernel
theorem dL_build_63 : decode cL_build 63 = .ok (.iconst 0, 1) := by decide +kernel
theorem dL_build_64 : decode cL_build 64 = .ok (.iload 4, 2) := by decide +kernel
theorem dL_build_66 : decode cL_build 66 = .ok (.bipush 7, 2) := by decide +kernel
theorem dL_build_68 : decode cL_build 68 = .ok (.iand, 1) := by decide +kernel
theorem dL_build_69 : decode cL_build 69 = .ok (.iconst 1, 1) := by decide +kernel
theorem dL_build_70 : decode cL_build 70 = .ok (.iload 4, 2) := by decide +kernel
theorem dL_build_72 : decode cL_build 72 = .ok (.iconst 3, 1) := by decide +kernel
theorem dL_build_73 : decode cL_build 73 = .ok (.ishr, 1) := by decide +kernel
theorem dL_build_74 : decode cL_build 74 = .ok (.bipush 15, 2) := by decide +kernel
theorem dL_build_76 : decode cL_build 76 = .ok (.iand, 1) := by decide +kernel
theorem dL_build_77 : decode cL_build 77 = .ok (.bipush 9, 2) := by decide +kernel
theorem dL_build_79 : decode cL_build 79 = .ok (.irem, 1) := by decide +kernel
theorem dL_build_80 : decode cL_build 80 = .ok (.iadd, 1) := by decide +kernel
theorem dL_build_81 : decode cL_build 81 = .ok (.iconst 1, 1) := by decide +kernel
theorem dL_build_82 : decode cL_build 82 = .ok (.iload 4, 2) := by decide +kernel
theorem dL_build_84 : decode cL_build 84 = .ok (.bipush 7, 2) := by decide +kernel
theorem dL_build_86 : decode cL_build 86 = .ok (.ishr, 1) := by decide +kernel
theorem dL_build_87 : decode cL_build 87 = .ok (.bipush 63, 2) := by decide +kernel
theorem dL_build_89 : decode cL_build 89 = .ok (.iand, 1) := by decide +kernel
theorem dL_build_90 : decode cL_build 90 = .ok (.bipush 60, 2) := by decide +kernel
theorem dL_build_92 : decode cL_build 92 = .ok (.irem, 1) := by decide +kernel
theorem dL_build_93 : decode cL_build 93 = .ok (.iadd, 1) := by decide +kernel
theorem dL_build_94 : decode cL_build 94 = .ok (.invokestatic 30, 3) := by decide +kernel
theorem dL_build_97 : decode cL_build 97 = .ok (.pop, 1) := by decide +kernel
theorem dL_build_98 : decode cL_build 98 = .ok (.aload_n 1, 1) := by decide +kernel
theorem dL_build_99 : decode cL_build 99 = .ok (.iconst 0, 1) := by decide +kernel
theorem dL_build_100 : decode cL_build 100 = .ok (.iload 4, 2) := by decide +kernel
theorem dL_build_102 : decode cL_build 102 = .ok (.iconst 4, 1) := by decide +kernel
theorem dL_build_103 : decode cL_build 103 = .ok (.ishr, 1) := by decide +kernel
theorem dL_build_104 : decode cL_build 104 = .ok (.bipush 7, 2) := by decide +kernel
theorem dL_build_106 : decode cL_build 106 = .ok (.iand, 1) := by decide +kernel
theorem dL_build_107 : decode cL_build 107 = .ok (.iconst 1, 1) := by decide +kernel
theorem dL_build_108 : decode cL_build 108 = .ok (.iload 4, 2) := by decide +kernel
theorem dL_build_110 : decode cL_build 110 = .ok (.iconst 5, 1) := by decide +kernel
theorem dL_build_111 : decode cL_build 111 = .ok (.ishr, 1) := by decide +kernel
theorem dL_build_112 : decode cL_build 112 = .ok (.bipush 15, 2) := by decide +kernel
theorem dL_build_114 : decode cL_build 114 = .ok (.iand, 1) := by decide +kernel
theorem dL_build_115 : decode cL_build 115 = .ok (.bipush 9, 2) := by decide +kernel
theorem dL_build_117 : decode cL_build 117 = .ok (.irem, 1) := by decide +kernel
theorem dL_build_118 : decode cL_build 118 = .ok (.iadd, 1) := by decide +kernel
theorem dL_build_119 : decode cL_build 119 = .ok (.iconst 1, 1) := by decide +kernel
theorem dL_build_120 : decode cL_build 120 = .ok (.iload 4, 2) := by decide +kernel
theorem dL_build_122 : decode cL_build 122 = .ok (.bipush 9, 2) := by decide +kernel
theorem dL_build_124 : decode cL_build 124 = .ok (.ishr, 1) := by decide +kernel
theorem dL_build_125 : decode cL_build 125 = .ok (.bipush 63, 2) := by decide +kernel
theorem dL_build_127 : decode cL_build 127 = .ok (.iand, 1) := by decide +kernel
theorem dL_build_128 : decode cL_build 128 = .ok (.bipush 60, 2) := by decide +kernel
theorem dL_build_130 : decode cL_build 130 = .ok (.irem, 1) := by decide +kernel
theorem dL_build_131 : decode cL_build 131 = .ok (.iadd, 1) := by decide +kernel
theorem dL_build_132 : decode cL_build 132 = .ok (.invokestatic 30, 3) := by decide +kernel
theorem dL_build_135 : decode cL_build 135 = .ok (.pop, 1) := by decide +kernel
theorem dL_build_136 : decode cL_build 136 = .ok (.iload 4, 2) := by decide +kernel
theorem dL_build_138 : decode cL_build 138 = .ok (.bipush 13, 2) := by decide +kernel
theorem dL_build_140 : decode cL_build 140 = .ok (.ishr, 1) := by decide +kernel
theorem dL_build_141 : decode cL_build 141 = .ok (.iconst 1, 1) := by decide +kernel
theorem dL_build_142 : decode cL_build 142 = .ok (.iand, 1) := by decide +kernel
theorem dL_build_143 : decode cL_build 143 = .ok (.ifCond .ne 22, 3) := by decide +kernel
theorem dL_build_146 : decode cL_build 146 = .ok (.aload_n 1, 1) := by decide +kernel
theorem dL_build_147 : decode cL_build 147 = .ok (.bipush 7, 2) := by decide +kernel
theorem dL_build_149 : decode cL_build 149 = .ok (.iconst 1, 1) := by decide +kernel
theorem dL_build_150 : decode cL_build 150 = .ok (.iload 4, 2) := by decide +kernel
theorem dL_build_152 : decode cL_build 152 = .ok (.bipush 14, 2) := by decide +kernel
theorem dL_build_154 : decode cL_build 154 = .ok (.ishr, 1) := by decide +kernel
theorem dL_build_155 : decode cL_build 155 = .ok (.bipush 7, 2) := by decide +kernel
theorem dL_build_157 : decode cL_build 157 = .ok (.iand, 1) := by decide +kernel
theorem dL_build_158 : decode cL_build 158 = .ok (.iadd, 1) := by decide +kernel
theorem dL_build_159 : decode cL_build 159 = .ok (.iconst 0, 1) := by decide +kernel
theorem dL_build_160 : decode cL_build 160 = .ok (.iconst 0, 1) := by decide +kernel
theorem dL_build_161 : decode cL_build 161 = .ok (.invokestatic 30, 3) := by decide +kernel
theorem dL_build_164 : decode cL_build 164 = .ok (.pop, 1) := by decide +kernel
theorem dL_build_165 : decode cL_build 165 = .ok (.iload 4, 2) := by decide +kernel
theorem dL_build_167 : decode cL_build 167 = .ok (.bipush 17, 2) := by decide +kernel
theorem dL_build_169 : decode cL_build 169 = .ok (.ishr, 1) := by decide +kernel
theorem dL_build_170 : decode cL_build 170 = .ok (.iconst 3, 1) := by decide +kernel
theorem dL_build_171 : decode cL_build 171 = .ok (.iand, 1) := by decide +kernel
theorem dL_build_172 : decode cL_build 172 = .ok (.ifCond .ne 29, 3) := by decide +kernel
theorem dL_build_175 : decode cL_build 175 = .ok (.aload_n 1, 1) := by decide +kernel
theorem dL_build_176 : decode cL_build 176 = .ok (.iconst 3, 1) := by decide +kernel
theorem dL_build_177 : decode cL_build 177 = .ok (.iload 4, 2) := by decide +kernel
theorem dL_build_179 : decode cL_build 179 = .ok (.bipush 19, 2) := by decide +kernel
theorem dL_build_181 : decode cL_build 181 = .ok (.ishr, 1) := by decide +kernel
theorem dL_build_182 : decode cL_build 182 = .ok (.bipush 7, 2) := by decide +kernel
theorem dL_build_184 : decode cL_build 184 = .ok (.iand, 1) := by decide +kernel
theorem dL_build_185 : decode cL_build 185 = .ok (.iload 4, 2) := by decide +kernel
theorem dL_build_187 : decode cL_build 187 = .ok (.bipush 22, 2) := by decide +kernel
theorem dL_build_189 : decode cL_build 189 = .ok (.ishr, 1) := by decide +kernel
theorem dL_build_190 : decode cL_build 190 = .ok (.bipush 15, 2) := by decide +kernel
theorem dL_build_192 : decode cL_build 192 = .ok (.iand, 1) := by decide +kernel
theorem dL_build_193 : decode cL_build 193 = .ok (.bipush 10, 2) := by decide +kernel
theorem dL_build_195 : decode cL_build 195 = .ok (.irem, 1) := by decide +kernel
theorem dL_build_196 : decode cL_build 196 = .ok (.iconst 0, 1) := by decide +kernel
theorem dL_build_197 : decode cL_build 197 = .ok (.invokestatic 30, 3) := by decide +kernel
theorem dL_build_200 : decode cL_build 200 = .ok (.pop, 1) := by decide +kernel
theorem dL_build_201 : decode cL_build 201 = .ok (.iload 4, 2) := by decide +kernel
theorem dL_build_203 : decode cL_build 203 = .ok (.bipush 17, 2) := by decide +kernel
theorem dL_build_205 : decode cL_build 205 = .ok (.ishr, 1) := by decide +kernel
theorem dL_build_206 : decode cL_build 206 = .ok (.iconst 3, 1) := by decide +kernel
theorem dL_build_207 : decode cL_build 207 = .ok (.iand, 1) := by decide +kernel
theorem dL_build_208 : decode cL_build 208 = .ok (.iconst 1, 1) := by decide +kernel
theorem dL_build_209 : decode cL_build 209 = .ok (.if_icmp .ne 20, 3) := by decide +kernel
theorem dL_build_212 : decode cL_build 212 = .ok (.aload_n 1, 1) := by decide +kernel
theorem dL_build_213 : decode cL_build 213 = .ok (.iconst 4, 1) := by decide +kernel
theorem dL_build_214 : decode cL_build 214 = .ok (.iload 4, 2) := by decide +kernel
theorem dL_build_216 : decode cL_build 216 = .ok (.bipush 19, 2) := by decide +kernel
theorem dL_build_218 : decode cL_build 218 = .ok (.ishr, 1) := by decide +kernel
theorem dL_build_219 : decode cL_build 219 = .ok (.iconst 3, 1) := by decide +kernel
theorem dL_build_220 : decode cL_build 220 = .ok (.iand, 1) := by decide +kernel
theorem dL_build_221 : decode cL_build 221 = .ok (.iconst 3, 1) := by decide +kernel
theorem dL_build_222 : decode cL_build 222 = .ok (.irem, 1) := by decide +kernel
theorem dL_build_223 : decode cL_build 223 = .ok (.iconst 0, 1) := by decide +kernel
theorem dL_build_224 : decode cL_build 224 = .ok (.iconst 0, 1) := by decide +kernel
theorem dL_build_225 : decode cL_build 225 = .ok (.invokestatic 30, 3) := by decide +kernel
theorem dL_build_228 : decode cL_build 228 = .ok (.pop, 1) := by decide +kernel
theorem dL_build_229 : decode cL_build 229 = .ok (.iload 4, 2) := by decide +kernel
theorem dL_build_231 : decode cL_build 231 = .ok (.bipush 17, 2) := by decide +kernel
theorem dL_build_233 : decode cL_build 233 = .ok (.ishr, 1) := by decide +kernel
theorem dL_build_234 : decode cL_build 234 = .ok (.bipush 7, 2) := by decide +kernel
theorem dL_build_236 : decode cL_build 236 = .ok (.iand, 1) := by decide +kernel
theorem dL_build_237 : decode cL_build 237 = .ok (.iconst 2, 1) := by decide +kernel
theorem dL_build_238 : decode cL_build 238 = .ok (.if_icmp .ne 20, 3) := by decide +kernel
theorem dL_build_241 : decode cL_build 241 = .ok (.aload_n 1, 1) := by decide +kernel
theorem dL_build_242 : decode cL_build 242 = .ok (.iconst 5, 1) := by decide +kernel
theorem dL_build_243 : decode cL_build 243 = .ok (.iload 4, 2) := by decide +kernel
theorem dL_build_245 : decode cL_build 245 = .ok (.bipush 20, 2) := by decide +kernel
theorem dL_build_247 : decode cL_build 247 = .ok (.ishr, 1) := by decide +kernel
theorem dL_build_248 : decode cL_build 248 = .ok (.iconst 3, 1) := by decide +kernel
theorem dL_build_249 : decode cL_build 249 = .ok (.iand, 1) := by decide +kernel
theorem dL_build_250 : decode cL_build 250 = .ok (.iconst 3, 1) := by decide +kernel
theorem dL_build_251 : decode cL_build 251 = .ok (.irem, 1) := by decide +kernel
theorem dL_build_252 : decode cL_build 252 = .ok (.iconst 0, 1) := by decide +kernel
theorem dL_build_253 : decode cL_build 253 = .ok (.iconst 0, 1) := by decide +kernel
theorem dL_build_254 : decode cL_build 254 = .ok (.invokestatic 30, 3) := by decide +kernel
theorem dL_build_257 : decode cL_build 257 = .ok (.pop, 1) := by decide +kernel
theorem dL_build_258 : decode cL_build 258 = .ok (.iload 4, 2) := by decide +kernel
theorem dL_build_260 : decode cL_build 260 = .ok (.bipush 17, 2) := by decide +kernel
theorem dL_build_262 : decode cL_build 262 = .ok (.ishr, 1) := by decide +kernel
theorem dL_build_263 : decode cL_build 263 = .ok (.bipush 7, 2) := by decide +kernel
theorem dL_build_265 : decode cL_build 265 = .ok (.iand, 1) := by decide +kernel
theorem dL_build_266 : decode cL_build 266 = .ok (.iconst 3, 1) := by decide +kernel
theorem dL_build_267 : decode cL_build 267 = .ok (.if_icmp .ne 27, 3) := by decide +kernel
theorem dL_build_270 : decode cL_build 270 = .ok (.aload_n 1, 1) := by decide +kernel
theorem dL_build_271 : decode cL_build 271 = .ok (.bipush 6, 2) := by decide +kernel
theorem dL_build_273 : decode cL_build 273 = .ok (.iload 4, 2) := by decide +kernel
theorem dL_build_275 : decode cL_build 275 = .ok (.bipush 20, 2) := by decide +kernel
theorem dL_build_277 : decode cL_build 277 = .ok (.ishr, 1) := by decide +kernel
theorem dL_build_278 : decode cL_build 278 = .ok (.iconst 3, 1) := by decide +kernel
theorem dL_build_279 : decode cL_build 279 = .ok (.iand, 1) := by decide +kernel
theorem dL_build_280 : decode cL_build 280 = .ok (.iconst 1, 1) := by decide +kernel
theorem dL_build_281 : decode cL_build 281 = .ok (.iload 4, 2) := by decide +kernel
theorem dL_build_283 : decode cL_build 283 = .ok (.bipush 22, 2) := by decide +kernel
theorem dL_build_285 : decode cL_build 285 = .ok (.ishr, 1) := by decide +kernel
theorem dL_build_286 : decode cL_build 286 = .ok (.iconst 1, 1) := by decide +kernel
theorem dL_build_287 : decode cL_build 287 = .ok (.iand, 1) := by decide +kernel
theorem dL_build_288 : decode cL_build 288 = .ok (.iadd, 1) := by decide +kernel
theorem dL_build_289 : decode cL_build 289 = .ok (.iconst 0, 1) := by decide +kernel
theorem dL_build_290 : decode cL_build 290 = .ok (.invokestatic 30, 3) := by decide +kernel
theorem dL_build_293 : decode cL_build 293 = .ok (.pop, 1) := by decide +kernel
theorem dL_build_294 : decode cL_build 294 = .ok (.iload 4, 2) := by decide +kernel
theorem dL_build_296 : decode cL_build 296 = .ok (.bipush 17, 2) := by decide +kernel
theorem dL_build_298 : decode cL_build 298 = .ok (.ishr, 1) := by decide +kernel
theorem dL_build_299 : decode cL_build 299 = .ok (.bipush 7, 2) := by decide +kernel
theorem dL_build_301 : decode cL_build 301 = .ok (.iand, 1) := by decide +kernel
theorem dL_build_302 : decode cL_build 302 = .ok (.bipush 6, 2) := by decide +kernel
theorem dL_build_304 : decode cL_build 304 = .ok (.if_icmp .ne 31, 3) := by decide +kernel
theorem dL_build_307 : decode cL_build 307 = .ok (.aload_n 1, 1) := by decide +kernel
theorem dL_build_308 : decode cL_build 308 = .ok (.iconst 2, 1) := by decide +kernel
theorem dL_build_309 : decode cL_build 309 = .ok (.iload 4, 2) := by decide +kernel
theorem dL_build_311 : decode cL_build 311 = .ok (.bipush 20, 2) := by decide +kernel
theorem dL_build_313 : decode cL_build 313 = .ok (.ishr, 1) := by decide +kernel
theorem dL_build_314 : decode cL_build 314 = .ok (.iconst 3, 1) := by decide +kernel
theorem dL_build_315 : decode cL_build 315 = .ok (.iand, 1) := by decide +kernel
theorem dL_build_316 : decode cL_build 316 = .ok (.iconst 3, 1) := by decide +kernel
theorem dL_build_317 : decode cL_build 317 = .ok (.irem, 1) := by decide +kernel
theorem dL_build_318 : decode cL_build 318 = .ok (.iconst 1, 1) := by decide +kernel
theorem dL_build_319 : decode cL_build 319 = .ok (.iload 4, 2) := by decide +kernel
theorem dL_build_321 : decode cL_build 321 = .ok (.bipush 22, 2) := by decide +kernel
theorem dL_build_323 : decode cL_build 323 = .ok (.ishr, 1) := by decide +kernel
theorem dL_build_324 : decode cL_build 324 = .ok (.bipush 7, 2) := by decide +kernel
theorem dL_build_326 : decode cL_build 326 = .ok (.iand, 1) := by decide +kernel
theorem dL_build_327 : decode cL_build 327 = .ok (.iconst 5, 1) := by decide +kernel
theorem dL_build_328 : decode cL_build 328 = .ok (.irem, 1) := by decide +kernel
theorem dL_build_329 : decode cL_build 329 = .ok (.iadd, 1) := by decide +kernel
theorem dL_build_330 : decode cL_build 330 = .ok (.iconst 0, 1) := by decide +kernel
theorem dL_build_331 : decode cL_build 331 = .ok (.invokestatic 30, 3) := by decide +kernel
theorem dL_build_334 : decode cL_build 334 = .ok (.pop, 1) := by decide +kernel
theorem dL_build_335 : decode cL_build 335 = .ok (.iload 4, 2) := by decide +kernel
theorem dL_build_337 : decode cL_build 337 = .ok (.bipush 17, 2) := by decide +kernel
theorem dL_build_339 : decode cL_build 339 = .ok (.ishr, 1) := by decide +kernel
theorem dL_build_340 : decode cL_build 340 = .ok (.bipush 7, 2) := by decide +kernel
theorem dL_build_342 : decode cL_build 342 = .ok (.iand, 1) := by decide +kernel
theorem dL_build_343 : decode cL_build 343 = .ok (.bipush 7, 2) := by decide +kernel
theorem dL_build_345 : decode cL_build 345 = .ok (.if_icmp .ne 19, 3) := by decide +kernel
theorem dL_build_348 : decode cL_build 348 = .ok (.aload_n 1, 1) := by decide +kernel
theorem dL_build_349 : decode cL_build 349 = .ok (.iconst 1, 1) := by decide +kernel
theorem dL_build_350 : decode cL_build 350 = .ok (.iload 4, 2) := by decide +kernel
theorem dL_build_352 : decode cL_build 352 = .ok (.bipush 20, 2) := by decide +kernel
theorem dL_build_354 : decode cL_build 354 = .ok (.ishr, 1) := by decide +kernel
theorem dL_build_355 : decode cL_build 355 = .ok (.bipush 15, 2) := by decide +kernel
theorem dL_build_357 : decode cL_build 357 = .ok (.iand, 1) := by decide +kernel
theorem dL_build_358 : decode cL_build 358 = .ok (.iconst 0, 1) := by decide +kernel
theorem dL_build_359 : decode cL_build 359 = .ok (.iconst 0, 1) := by decide +kernel
theorem dL_build_360 : decode cL_build 360 = .ok (.invokestatic 30, 3) := by decide +kernel
theorem dL_build_363 : decode cL_build 363 = .ok (.pop, 1) := by decide +kernel
theorem dL_build_364 : decode cL_build 364 = .ok (.iload 4, 2) := by decide +kernel
theorem dL_build_366 : decode cL_build 366 = .ok (.bipush 26, 2) := by decide +kernel
theorem dL_build_368 : decode cL_build 368 = .ok (.ishr, 1) := by decide +kernel
theorem dL_build_369 : decode cL_build 369 = .ok (.iconst 3, 1) := by decide +kernel
theorem dL_build_370 : decode cL_build 370 = .ok (.iand, 1) := by decide +kernel
theorem dL_build_371 : decode cL_build 371 = .ok (.ifCond .ne 21, 3) := by decide +kernel
theorem dL_build_374 : decode cL_build 374 = .ok (.aload_n 1, 1) := by decide +kernel
theorem dL_build_375 : decode cL_build 375 = .ok (.bipush 7, 2) := by decide +kernel
theorem dL_build_377 : decode cL_build 377 = .ok (.iconst 1, 1) := by decide +kernel
theorem dL_build_378 : decode cL_build 378 = .ok (.iload 4, 2) := by decide +kernel
theorem dL_build_380 : decode cL_build 380 = .ok (.bipush 28, 2) := by decide +kernel
theorem dL_build_382 : decode cL_build 382 = .ok (.ishr, 1) := by decide +kernel
theorem dL_build_383 : decode cL_build 383 = .ok (.iconst 3, 1) := by decide +kernel
theorem dL_build_384 : decode cL_build 384 = .ok (.iand, 1) := by decide +kernel
theorem dL_build_385 : decode cL_build 385 = .ok (.iadd, 1) := by decide +kernel
theorem dL_build_386 : decode cL_build 386 = .ok (.iconst 0, 1) := by decide +kernel
theorem dL_build_387 : decode cL_build 387 = .ok (.iconst 0, 1) := by decide +kernel
theorem dL_build_388 : decode cL_build 388 = .ok (.invokestatic 30, 3) := by decide +kernel
theorem dL_build_391 : decode cL_build 391 = .ok (.pop, 1) := by decide +kernel
theorem dL_build_392 : decode cL_build 392 = .ok (.iinc 3 1, 3) := by decide +kernel
theorem dL_build_395 : decode cL_build 395 = .ok (.goto (-346), 3) := by decide +kernel
theorem dL_build_398 : decode cL_build 398 = .ok (.aload_n 1, 1) := by decide +kernel
theorem dL_build_399 : decode cL_build 399 = .ok (.areturn, 1) := by decide +kernel
/-- a number's low bits -/
def msk (x : Int32) (m : Nat) : Nat := x.toBitVec.toNat &&& m
theorem msk_le (x : Int32) (m : Nat) : msk x m ≤ m := Nat.and_le_right
theorem msk_eq (x : Int32) (m : Nat) (h : m < 2 ^ 31) : x &&& nI m = nI (msk x m) := by
  have h1 := msk_le x m
  apply Int32.toBitVec_inj.mp
  apply BitVec.eq_of_toNat_eq
  have e1 : (x &&& nI m).toBitVec = x.toBitVec &&& BitVec.ofNat 32 m := rfl
  have e2 : (nI (msk x m)).toBitVec = BitVec.ofNat 32 (msk x m) := rfl
  rw [e1, e2, BitVec.toNat_and, BitVec.toNat_ofNat, BitVec.toNat_ofNat, Nat.mod_eq_of_lt (show m < 2 ^ 32 by omega), Nat.mod_eq_of_lt (show msk x m < 2 ^ 32 by omega)]
  rfl
theorem msk_rem (x : Int32) (m d : Nat) (h : m < 2 ^ 31) (h0 : 0 < d) (hd : d < 2 ^ 31) : nI (msk x m) - nI (msk x m) / nI d * nI d = nI (msk x m % d) := pk_rem (by have := msk_le x m; omega) h0 hd
/-- a mill and its history -/
abbrev AH : Type := AM × List AM
def actO (w p q r : Nat) (A : AM) : OU := if w = 0 then oAdd A p q r else if w = 1 then oRem A p else if w = 2 then oGear A p q else if w = 3 then oMesh A p q else if w = 4 then oClear A p else if w = 5 then oRel A p else if w = 6 then oShip A p q else oAdv A p
def stp (X : AH) (o : OU) : AH := if o.1 = 0 then (o.2.2, pushH X.2 X.1) else X
def actS (w p q r : Nat) (X : AH) : AH := stp X (actO w p q r X.1)
theorem rc6 {f : Nat} (h : 0 < f ∧ f < 6) : rcode f < 6 := by
  rcases (show f = 1 ∨ f = 2 ∨ f = 3 ∨ f = 4 ∨ f = 5 by omega) with rfl | rfl | rfl | rfl | rfl <;> decide
theorem KO.get {fc : Option ((Nat × Int32) × St)} {σ : St} {X : AH} {S : Option AM} {B : List Nat} {er fl : Option Nat} {C : Nat} {o : OU} (h : KG σ X.1 X.2 S B er fl C) (hk : KO fc σ X.1 X.2 S B er fl C o) : ∃ (c1 : Nat) (r1 : Int32) (τ : St), c1 < 6 ∧ fc = some ((c1, r1), τ) ∧ KG τ (stp X o).1 (stp X o).2 S B er fl (C + 1) := by
  rcases hk with ⟨h0, τ, h1, h2⟩ | ⟨h0, h6, h1, h2⟩
  · refine ⟨0, _, τ, by omega, h1, ?_⟩
    unfold stp
    rw [if_pos h0]
    exact h2
  · refine ⟨_, _, σ, rc6 ⟨h0, h6⟩, h1, ?_⟩
    unfold stp
    rw [if_neg (by omega)]
    exact h.mono (by omega)
theorem dflt_X11 : ∀ j, j < 10 → defaultValue (tyX11 j) = vp_V [.null, .null, .null, .int 0, .null, .null, .null, .null, .int 0, .int 0] j := fun j hj => by
  match j, hj with
  | 0, _ => rfl
  | 1, _ => rfl
  | 2, _ => rfl
  | 3, _ => rfl
  | 4, _ => rfl
  | 5, _ => rfl
  | 6, _ => rfl
  | 7, _ => rfl
  | 8, _ => rfl
  | 9, _ => rfl
  | j + 10, hj => omega
section B66
variable {p : Program} {l : Launch} {e : Env} {R : Room} {s : State} {m : MethodId} {args : Array Value} {below : List Frame} {meth : Method} {c : Code} {H : Heap} {locs : List Loc} {cells slots : Nat} {Q : State → Prop}
variable {cc : ByteArray} {maxL : Nat} {ret : Option FieldType} {pc : Nat} {ls : Array Slot} {rest : List Value} {D : va_G} {A : Nat → Prop} {cA : Nat → ClassId} {ad adF adW tt a : Nat → Nat} {fr : va_W} {σ : St} {ST : gST}
set_option maxHeartbeats 4000000 in
set_option maxRecDepth 100000 in
theorem gb_act (hlt : l.stackTraces = false) (hT : STE ad adF adW tt ST) (hSX : STX ST) (hSN : STN ST) {w p1 q1 r1 : Nat} (hw : w < 8) (hp1 : p1 < 2 ^ 31) (hq1 : q1 < 2 ^ 31) (hr1 : r1 < 2 ^ 31) {X : AH} {S : Option AM} {B : List Nat} {er fl : Option Nat} {C : Nat} (hC : C < 512) (h : KG σ X.1 X.2 S B er fl C) (G : GC p s m args meth c cc maxL RL ret A D (TYS cA) ST) (hP : va_P D vwCl (wc cA ad a fr σ) H) (hD : va_D A (wc cA ad a fr σ)) (hS : va_S A s.heap H locs)
    (hR : 14 ≤ R.frames ∧ 19 + 6 + 40 * 13 ≤ R.locals ∧ cells + 2 ≤ R.cells ∧ slots + 12 ≤ R.slots) (hls : ls.size = maxL) (hcat : (rest.map fun v => v.category).sum ≤ 8) (hdg : decode cc pc = .ok (.invokestatic 30, 3))
    (kk : ∀ (v : Int32) (σ' : St) (H1 : Heap) (locs1 : List Loc), KG σ' (actS w p1 q1 r1 X).1 (actS w p1 q1 r1 X).2 S B er fl (C + 1) → va_P D vwCl (wc cA ad a fr σ') H1 → va_D A (wc cA ad a fr σ') → va_S A s.heap H1 locs1 → W p l e R s m args below meth c H1 locs1 (cells + 2) (slots + 12) Q (F0 m (pc + 3) ls (.int v :: rest))) : W p l e R s m args below meth c H locs cells slots Q (F0 m pc ls (.int (nI r1) :: .int (nI q1) :: .int (nI p1) :: .int (nI w) :: .ref (a 209) :: rest)) := by
  rcases (show w = 0 ∨ w = 1 ∨ w = 2 ∨ w = 3 ∨ w = 4 ∨ w = 5 ∨ w = 6 ∨ w = 7 by omega) with rfl | rfl | rfl | rfl | rfl | rfl | rfl | rfl
  · obtain ⟨c1, v1, τ, hc1, e1, hK⟩ := KO.get h (k_add (m := 2000) (Nat.le_refl _) h hp1 hq1 hr1)
    refine c_callLi (nA := 5) ([] : va_W) (wc cA ad a fr σ) (mL_act_0 l hlt D cA ad adF adW tt a fr ST hT hSX hSN 2000 (nI p1) (nI q1) (nI r1) σ c1 v1 τ e1 hc1) G hP hD hS (List.Perm.refl _) (g_goodL q5_141 q5_142 q1_0 q5_143) (by decide +kernel) hR rfl hls rest rfl hcat hdg (fun v b9 H1 locs1 hok hP1 hD1 hS1 => ?_)
    obtain ⟨-, hb9⟩ := hok
    rw [hb9] at hP1 hD1
    exact kk v τ H1 locs1 hK hP1 hD1 hS1
  · obtain ⟨c1, v1, τ, hc1, e1, hK⟩ := KO.get h (k_remove (m := 2000) (Nat.le_refl _) hC h hp1)
    refine c_callLi (nA := 5) ([] : va_W) (wc cA ad a fr σ) (mL_act_1 l hlt D cA ad adF adW tt a fr ST hT hSX hSN 2000 (nI p1) (nI q1) (nI r1) σ c1 v1 τ e1 hc1) G hP hD hS (List.Perm.refl _) (g_goodL q5_141 q5_142 q1_0 q5_143) (by decide +kernel) hR rfl hls rest rfl hcat hdg (fun v b9 H1 locs1 hok hP1 hD1 hS1 => ?_)
    obtain ⟨-, hb9⟩ := hok
    rw [hb9] at hP1 hD1
    exact kk v τ H1 locs1 hK hP1 hD1 hS1
  · obtain ⟨c1, v1, τ, hc1, e1, hK⟩ := KO.get h (k_gear (m := 2000) (Nat.le_refl _) h hp1 hq1)
    refine c_callLi (nA := 5) ([] : va_W) (wc cA ad a fr σ) (mL_act_2 l hlt D cA ad adF adW tt a fr ST hT hSX hSN 2000 (nI p1) (nI q1) (nI r1) σ c1 v1 τ e1 hc1) G hP hD hS (List.Perm.refl _) (g_goodL q5_141 q5_142 q1_0 q5_143) (by decide +kernel) hR rfl hls rest rfl hcat hdg (fun v b9 H1 locs1 hok hP1 hD1 hS1 => ?_)
    obtain ⟨-, hb9⟩ := hok
    rw [hb9] at hP1 hD1
    exact kk v τ H1 locs1 hK hP1 hD1 hS1
  · obtain ⟨c1, v1, τ, hc1, e1, hK⟩ := KO.get h (k_mesh (m := 2000) (Nat.le_refl _) h hp1 hq1)
    refine c_callLi (nA := 5) ([] : va_W) (wc cA ad a fr σ) (mL_act_3 l hlt D cA ad adF adW tt a fr ST hT hSX hSN 2000 (nI p1) (nI q1) (nI r1) σ c1 v1 τ e1 hc1) G hP hD hS (List.Perm.refl _) (g_goodL q5_141 q5_142 q1_0 q5_143) (by decide +kernel) hR rfl hls rest rfl hcat hdg (fun v b9 H1 locs1 hok hP1 hD1 hS1 => ?_)
    obtain ⟨-, hb9⟩ := hok
    rw [hb9] at hP1 hD1
    exact kk v τ H1 locs1 hK hP1 hD1 hS1
  · obtain ⟨c1, v1, τ, hc1, e1, hK⟩ := KO.get h (k_clear (m := 2000) (Nat.le_refl _) h hp1)
    refine c_callLi (nA := 5) ([] : va_W) (wc cA ad a fr σ) (mL_act_4 l hlt D cA ad adF adW tt a fr ST hT hSX hSN 2000 (nI p1) (nI q1) (nI r1) σ c1 v1 τ e1 hc1) G hP hD hS (List.Perm.refl _) (g_goodL q5_141 q5_142 q1_0 q5_143) (by decide +kernel) hR rfl hls rest rfl hcat hdg (fun v b9 H1 locs1 hok hP1 hD1 hS1 => ?_)
    obtain ⟨-, hb9⟩ := hok
    rw [hb9] at hP1 hD1
    exact kk v τ H1 locs1 hK hP1 hD1 hS1
  · obtain ⟨c1, v1, τ, hc1, e1, hK⟩ := KO.get h (k_release (m := 2000) (Nat.le_refl _) h hp1)
    refine c_callLi (nA := 5) ([] : va_W) (wc cA ad a fr σ) (mL_act_5 l hlt D cA ad adF adW tt a fr ST hT hSX hSN 2000 (nI p1) (nI q1) (nI r1) σ c1 v1 τ e1 hc1) G hP hD hS (List.Perm.refl _) (g_goodL q5_141 q5_142 q1_0 q5_143) (by decide +kernel) hR rfl hls rest rfl hcat hdg (fun v b9 H1 locs1 hok hP1 hD1 hS1 => ?_)
    obtain ⟨-, hb9⟩ := hok
    rw [hb9] at hP1 hD1
    exact kk v τ H1 locs1 hK hP1 hD1 hS1
  · obtain ⟨c1, v1, τ, hc1, e1, hK⟩ := KO.get h (k_ship (m := 2000) (Nat.le_refl _) h hp1 hq1)
    refine c_callLi (nA := 5) ([] : va_W) (wc cA ad a fr σ) (mL_act_6 l hlt D cA ad adF adW tt a fr ST hT hSX hSN 2000 (nI p1) (nI q1) (nI r1) σ c1 v1 τ e1 hc1) G hP hD hS (List.Perm.refl _) (g_goodL q5_141 q5_142 q1_0 q5_143) (by decide +kernel) hR rfl hls rest rfl hcat hdg (fun v b9 H1 locs1 hok hP1 hD1 hS1 => ?_)
    obtain ⟨-, hb9⟩ := hok
    rw [hb9] at hP1 hD1
    exact kk v τ H1 locs1 hK hP1 hD1 hS1
  · obtain ⟨c1, v1, τ, hc1, e1, hK⟩ := KO.get h (k_advance (m := 2000) (Nat.le_refl _) hC h hp1)
    refine c_callLi (nA := 5) ([] : va_W) (wc cA ad a fr σ) (mL_act_7 l hlt D cA ad adF adW tt a fr ST hT hSX hSN 2000 (nI p1) (nI q1) (nI r1) σ c1 v1 τ e1 hc1) G hP hD hS (List.Perm.refl _) (g_goodL q5_141 q5_142 q1_0 q5_143) (by decide +kernel) hR rfl hls rest rfl hcat hdg (fun v b9 H1 locs1 hok hP1 hD1 hS1 => ?_)
    obtain ⟨-, hb9⟩ := hok
    rw [hb9] at hP1 hD1
    exact kk v τ H1 locs1 hK hP1 hD1 hS1
end B66
def bk0 (cv : Int32) (X : AH) : AH := actS 0 (msk cv 7) (1 + ((msk (cv >>> ((nI 3) &&& 31)) 15) % 9)) (1 + ((msk (cv >>> ((nI 7) &&& 31)) 63) % 60)) X
def bk1 (cv : Int32) (X : AH) : AH := actS 0 (msk (cv >>> ((nI 4) &&& 31)) 7) (1 + ((msk (cv >>> ((nI 5) &&& 31)) 15) % 9)) (1 + ((msk (cv >>> ((nI 9) &&& 31)) 63) % 60)) X
def bk2 (cv : Int32) (X : AH) : AH := if nI (msk (cv >>> ((nI 13) &&& 31)) 1) = 0 then actS 7 (1 + (msk (cv >>> ((nI 14) &&& 31)) 7)) 0 0 X else X
def bk3 (cv : Int32) (X : AH) : AH := if nI (msk (cv >>> ((nI 17) &&& 31)) 3) = 0 then actS 3 (msk (cv >>> ((nI 19) &&& 31)) 7) ((msk (cv >>> ((nI 22) &&& 31)) 15) % 10) 0 X else X
def bk4 (cv : Int32) (X : AH) : AH := if nI (msk (cv >>> ((nI 17) &&& 31)) 3) = nI 1 then actS 4 ((msk (cv >>> ((nI 19) &&& 31)) 3) % 3) 0 0 X else X
def bk5 (cv : Int32) (X : AH) : AH := if nI (msk (cv >>> ((nI 17) &&& 31)) 7) = nI 2 then actS 5 ((msk (cv >>> ((nI 20) &&& 31)) 3) % 3) 0 0 X else X
def bk6 (cv : Int32) (X : AH) : AH := if nI (msk (cv >>> ((nI 17) &&& 31)) 7) = nI 3 then actS 6 (msk (cv >>> ((nI 20) &&& 31)) 3) (1 + (msk (cv >>> ((nI 22) &&& 31)) 1)) 0 X else X
def bk7 (cv : Int32) (X : AH) : AH := if nI (msk (cv >>> ((nI 17) &&& 31)) 7) = nI 6 then actS 2 ((msk (cv >>> ((nI 20) &&& 31)) 3) % 3) (1 + ((msk (cv >>> ((nI 22) &&& 31)) 7) % 5)) 0 X else X
def bk8 (cv : Int32) (X : AH) : AH := if nI (msk (cv >>> ((nI 17) &&& 31)) 7) = nI 7 then actS 1 (msk (cv >>> ((nI 20) &&& 31)) 15) 0 0 X else X
def bk9 (cv : Int32) (X : AH) : AH := if nI (msk (cv >>> ((nI 26) &&& 31)) 3) = 0 then actS 7 (1 + (msk (cv >>> ((nI 28) &&& 31)) 3)) 0 0 X else X
def bkA (cv : Int32) (X : AH) : AH := bk9 cv (bk8 cv (bk7 cv (bk6 cv (bk5 cv (bk4 cv (bk3 cv (bk2 cv (bk1 cv (bk0 cv X)))))))))
def bzA (z0 : Int32) (k : Nat) (X : AH) : AH := actS 2 k (1 + ((msk (z0 >>> (((nI 3) * (nI k)) &&& 31)) 7) % 5)) 0 X
def bFz (z0 : Int32) : Nat → Nat → AH → AH
  | 0, _, X => X
  | d + 1, k, X => bFz z0 d (k + 1) (bzA z0 k X)
def bF (L : Nat) (xs : Nat → Int32) : Nat → Nat → AH → AH
  | 0, _, X => X
  | d + 1, k, X => bF L xs d (k + 1) (bkA (atF L xs k) X)
/-- what build makes of a script -/
def bld (L : Nat) (xs : Nat → Int32) : AH := bF L xs 12 1 (bFz (atF L xs 0) 3 0 (A00, []))
set_option maxHeartbeats 4000000 in
set_option maxRecDepth 100000 in
theorem mL_build (l : Launch) (hlt : l.stackTraces = false) (D : va_G) (cA : Nat → ClassId) (ad adF adW tt : Nat → Nat) (ST : gST) (hT : STE ad adF adW tt ST) (hSX : STX ST) (hSN : STN ST) (hW : STW adW tt ST) (hO : STO ST) {b L : Nat} {xs : Nat → Int32} (hB : STB b L xs ST) (hL : L < 2 ^ 31) : gMetG l yL_build cL_build 5 (some (.object "NoiseMill")) 14 489 3791 D (TYS cA) ST [] [.ref b] (gGr D (TYS cA) (fun x : (Nat → Nat) × Nat × St => KG x.2.2 (bld L xs).1 (bld L xs).2 none [] none none 123) (fun x => x.1 209) (fun x => wc cA ad x.1 (sbC cA (x.1 241) 0 (sb0 x.2.1)) x.2.2)) := by
  refine g_ofWG hT.1 (by decide +kernel) (Nat.le_of_ble_eq_true rfl) ?_
  intro p e s m args below meth c ls A G hP hD hl
  have G : GC p s m args meth c cL_build 5 RL (some (.object "NoiseMill")) A D (TYS cA) ST := G
  have hx := G.1
  have hb := G.2.1
  have hS : va_S A s.heap s.heap [] := va_S.rf
  have hl : lv_has ls 5 [(0, .ref b)] := hl
  have hPa : va_P D vwCl (([] : va_W) ++ ([] : va_W)) s.heap := hP
  have hDa : va_D A (([] : va_W) ++ ([] : va_W)) := hD
  refine c_new (F := ([] : va_W)) (B := ([] : va_W)) (ci := 13) (fs := [.null, .null, .null, .int 0, .null, .null, .null, .null, .int 0, .int 0]) G hPa hDa hS i_X11 tyX11 tyX11_ok q1_40 q1_41 q1_1 rfl dflt_X11 (Nat.le_of_ble_eq_true rfl) (Nat.le_of_ble_eq_true rfl) dL_build_0 (fun q2 H1 hPr hDr hSr => ?_)
  refine lv_dup hx hb dL_build_3 rfl ?_
  refine c_callI (F := ([] : va_W)) (B := ([] : va_W)) (mX11_init l D cA ad adF adW tt ST hT hW hO q2) G hPr hDr hSr q1_42 q1_43 q1_1 q1_44 rfl (by decide +kernel) ⟨Nat.le_of_ble_eq_true rfl, Nat.le_of_ble_eq_true rfl, Nat.le_of_ble_eq_true rfl, Nat.le_of_ble_eq_true rfl⟩ hl.1 (Nat.le_of_ble_eq_true rfl) dL_build_4 (fun y9 H2 locs2 hok hPc hDc hSc => ?_)
  obtain ⟨a, q0⟩ := y9
  have hok : a 209 = q2 := hok
  subst hok
  refine lv_astore_n (lv' := [(1, .ref (a 209)), (0, .ref b)]) hx hb dL_build_7 rfl hl (by decide) rfl (fun ls hl => ?_)
  have hPc : va_P D vwCl (wc cA ad a (sbC cA (a 241) 0 (sb0 q0)) σN0) H2 := hPc
  have hDc : va_D A (wc cA ad a (sbC cA (a 241) 0 (sb0 q0)) σN0) := hDc
  have loop : ∀ (d k : Nat) (z0 : Int32) (σ1 : St) (X : AH) (H : Heap) (locs : List Loc) (ls : Array Slot), k + d = 12 → lv_has ls 5 [(3, .int (nI (k + 1))), (2, .int z0), (1, .ref (a 209)), (0, .ref b)] → KG σ1 X.1 X.2 none [] none none (3 + 10 * k) → va_P D vwCl (wc cA ad a (sbC cA (a 241) 0 (sb0 q0)) σ1) H → va_D A (wc cA ad a (sbC cA (a 241) 0 (sb0 q0)) σ1) → va_S A s.heap H locs → bF L xs d (k + 1) X = bld L xs → W p l e (RMC 14 489 3791) s m args below meth c H locs (243 + 2 * (3 + 10 * k)) (2315 + 12 * (3 + 10 * k)) (MQ below ((gGr D (TYS cA) (fun x : (Nat → Nat) × Nat × St => KG x.2.2 (bld L xs).1 (bld L xs).2 none [] none none 123) (fun x => x.1 209) (fun x => wc cA ad x.1 (sbC cA (x.1 241) 0 (sb0 x.2.1)) x.2.2)) A) args s 489 3791 A) (F0 m 49 ls []) := by
    intro d
    induction d with
    | zero =>
      intro k z0 σ1 X H locs ls hk hl hK hP hD hS hX
      obtain rfl : k = 12 := by omega
      refine lv_iload_n hx hb dL_build_49 rfl (lv_at hl 0 rfl) ?_
      refine lv_bipush (v := nI 13) hx hb dL_build_50 (by decide) ?_
      refine lv_icmp_ge (tgt := 398) hx hb dL_build_52 (by decide) (fun _ => ?_) (fun c9 => absurd (nI_le (Nat.le_refl _) (by omega)) c9)
      refine lv_aload_n hx hb dL_build_398 rfl (lv_at hl 2 rfl) ?_
      have hX : X = bld L xs := hX
      rw [hX] at hK
      exact c_reta (a, q0, σ1) hK rfl (Or.inl ⟨_, rfl⟩) G hP hD hS ⟨Nat.le_of_ble_eq_true rfl, Nat.le_of_ble_eq_true rfl⟩ dL_build_399
    | succ d ih =>
      intro k z0 σ1 X H locs ls hk hl hK hP hD hS hX
      refine lv_iload_n hx hb dL_build_49 rfl (lv_at hl 0 rfl) ?_
      refine lv_bipush (v := nI 13) hx hb dL_build_50 (by decide) ?_
      refine lv_icmp_ge (tgt := 398) hx hb dL_build_52 (by decide) (fun c9 => absurd c9 (nI_ge (b := 13) (by omega) (by omega))) (fun _ => ?_)
      refine lv_aload_n hx hb dL_build_55 rfl (lv_at hl 3 rfl) ?_
      refine lv_iload_n hx hb dL_build_56 rfl (lv_at hl 0 rfl) ?_
      refine c_callSi (nA := 2) (wc cA ad a (sbC cA (a 241) 0 (sb0 q0)) σ1) ([] : va_W) (mL_at l D cA ST hT.1 hB hL (k + 1) (by omega)) G hP hD hS (List.Perm.of_eq (List.append_nil _).symm) (g_goodSX q5_115 q5_116 q1_0 q5_117) (by decide +kernel) ⟨Nat.le_of_ble_eq_true rfl, Nat.le_of_ble_eq_true rfl, by show 243 + 2 * (3 + 10 * k) + 0 ≤ 489; omega, by show 2315 + 12 * (3 + 10 * k) + 0 ≤ 3791; omega⟩ rfl hl.1 [] rfl (Nat.le_of_ble_eq_true rfl) dL_build_57 (fun cv _ H locs hcv hP hD hS => ?_)
      rw [List.append_nil] at hP hD
      have hcv : cv = atF L xs (k + 1) := hcv
      refine lv_istore (lv' := [(4, .int cv), (3, .int (nI (k + 1))), (2, .int z0), (1, .ref (a 209)), (0, .ref b)]) hx hb dL_build_60 hl (by decide) rfl (fun ls hl => ?_)
      have blk10 : ∀ (σ1 : St) (X : AH) (H : Heap) (locs : List Loc) (ls : Array Slot), lv_has ls 5 [(4, .int cv), (3, .int (nI (k + 1))), (2, .int z0), (1, .ref (a 209)), (0, .ref b)] → KG σ1 X.1 X.2 none [] none none (3 + 10 * k + 10) → va_P D vwCl (wc cA ad a (sbC cA (a 241) 0 (sb0 q0)) σ1) H → va_D A (wc cA ad a (sbC cA (a 241) 0 (sb0 q0)) σ1) → va_S A s.heap H locs → bF L xs d (k + 1 + 1) X = bld L xs → W p l e (RMC 14 489 3791) s m args below meth c H locs (243 + 2 * (3 + 10 * k + 10)) (2315 + 12 * (3 + 10 * k + 10)) (MQ below ((gGr D (TYS cA) (fun x : (Nat → Nat) × Nat × St => KG x.2.2 (bld L xs).1 (bld L xs).2 none [] none none 123) (fun x => x.1 209) (fun x => wc cA ad x.1 (sbC cA (x.1 241) 0 (sb0 x.2.1)) x.2.2)) A) args s 489 3791 A) (F0 m 392 ls []) := by
        intro σ1 X H locs ls hl hK hP hD hS hX
        refine lv_iinc (v := nI (k + 1 + 1)) (lv' := [(3, .int (nI (k + 1 + 1))), (4, .int cv), (2, .int z0), (1, .ref (a 209)), (0, .ref b)]) hx hb dL_build_392 hl (k := 1) rfl (nI_1 _) (by decide) rfl (fun ls hl => ?_)
        refine lv_goto (tgt := 49) hx hb dL_build_395 (by decide) ?_
        exact ih (k + 1) z0 σ1 X H locs ls (by omega) (lv_sub hl [0, 2, 3, 4] rfl) hK hP hD hS hX
      have blk9 : ∀ (σ1 : St) (X : AH) (H : Heap) (locs : List Loc) (ls : Array Slot), lv_has ls 5 [(4, .int cv), (3, .int (nI (k + 1))), (2, .int z0), (1, .ref (a 209)), (0, .ref b)] → KG σ1 X.1 X.2 none [] none none (3 + 10 * k + 9) → va_P D vwCl (wc cA ad a (sbC cA (a 241) 0 (sb0 q0)) σ1) H → va_D A (wc cA ad a (sbC cA (a 241) 0 (sb0 q0)) σ1) → va_S A s.heap H locs → bF L xs d (k + 1 + 1) (bk9 cv X) = bld L xs → W p l e (RMC 14 489 3791) s m args below meth c H locs (243 + 2 * (3 + 10 * k + 9)) (2315 + 12 * (3 + 10 * k + 9)) (MQ below ((gGr D (TYS cA) (fun x : (Nat → Nat) × Nat × St => KG x.2.2 (bld L xs).1 (bld L xs).2 none [] none none 123) (fun x => x.1 209) (fun x => wc cA ad x.1 (sbC cA (x.1 241) 0 (sb0 x.2.1)) x.2.2)) A) args s 489 3791 A) (F0 m 364 ls []) := by
        intro σ1 X H locs ls hl hK hP hD hS hX
        refine lv_iload hx hb dL_build_364 (lv_at hl 0 rfl) ?_
        refine lv_bipush (v := nI 26) hx hb dL_build_366 (by decide) ?_
        refine lv_ishr hx hb dL_build_368 ?_
        refine lv_iconst (v := nI 3) hx hb dL_build_369 (by decide) ?_
        refine lv_iand hx hb dL_build_370 ?_
        rw [msk_eq (cv >>> ((nI 26) &&& 31)) 3 (by decide)]
        by_cases hc9 : nI (msk (cv >>> ((nI 26) &&& 31)) 3) = 0
        · refine lv_if_ne (tgt := 392) hx hb dL_build_371 (by decide) (fun c9 => absurd hc9 c9) (fun _ => ?_)
          refine lv_aload_n hx hb dL_build_374 rfl (lv_at hl 3 rfl) ?_
          refine lv_bipush (v := nI 7) hx hb dL_build_375 (by decide) ?_
          refine lv_iconst (v := nI 1) hx hb dL_build_377 (by decide) ?_
          refine lv_iload hx hb dL_build_378 (lv_at hl 0 rfl) ?_
          refine lv_bipush (v := nI 28) hx hb dL_build_380 (by decide) ?_
          refine lv_ishr hx hb dL_build_382 ?_
          refine lv_iconst (v := nI 3) hx hb dL_build_383 (by decide) ?_
          refine lv_iand hx hb dL_build_384 ?_
          rw [msk_eq (cv >>> ((nI 28) &&& 31)) 3 (by decide)]
          refine lv_iadd hx hb dL_build_385 ?_
          rw [nI_add 1 (msk (cv >>> ((nI 28) &&& 31)) 3)]
          refine lv_iconst (v := nI 0) hx hb dL_build_386 (by decide) ?_
          refine lv_iconst (v := nI 0) hx hb dL_build_387 (by decide) ?_
          refine gb_act (σ := σ1) (w := 7) hlt hT hSX hSN (by decide) (by have := msk_le (cv >>> ((nI 28) &&& 31)) 3; omega) (by decide) (by decide) (by omega) hK G hP hD hS ⟨Nat.le_of_ble_eq_true rfl, Nat.le_of_ble_eq_true rfl, by show 243 + 2 * (3 + 10 * k + 9) + 2 ≤ 489; omega, by show 2315 + 12 * (3 + 10 * k + 9) + 12 ≤ 3791; omega⟩ hl.1 (Nat.le_of_ble_eq_true rfl) dL_build_388 (fun v σ2 H locs hK hP hD hS => ?_)
          refine lv_pop hx hb dL_build_391 rfl ?_
          refine W.widen (k := 243 + 2 * (3 + 10 * k + 10)) (n := 2315 + 12 * (3 + 10 * k + 10)) (by omega) (by omega) ?_
          exact blk10 σ2 (actS 7 (1 + (msk (cv >>> ((nI 28) &&& 31)) 3)) 0 0 X) H locs ls hl hK hP hD hS (by rw [← hX]; unfold bk9; rw [if_pos hc9])
        · refine lv_if_ne (tgt := 392) hx hb dL_build_371 (by decide) (fun _ => ?_) (fun c9 => absurd c9 hc9)
          refine W.widen (k := 243 + 2 * (3 + 10 * k + 10)) (n := 2315 + 12 * (3 + 10 * k + 10)) (by omega) (by omega) ?_
          exact blk10 σ1 X H locs ls hl (hK.mono (by omega)) hP hD hS (by rw [← hX]; unfold bk9; rw [if_neg hc9])
      have blk8 : ∀ (σ1 : St) (X : AH) (H : Heap) (locs : List Loc) (ls : Array Slot), lv_has ls 5 [(4, .int cv), (3, .int (nI (k + 1))), (2, .int z0), (1, .ref (a 209)), (0, .ref b)] → KG σ1 X.1 X.2 none [] none none (3 + 10 * k + 8) → va_P D vwCl (wc cA ad a (sbC cA (a 241) 0 (sb0 q0)) σ1) H → va_D A (wc cA ad a (sbC cA (a 241) 0 (sb0 q0)) σ1) → va_S A s.heap H locs → bF L xs d (k + 1 + 1) (bk9 cv (bk8 cv X)) = bld L xs → W p l e (RMC 14 489 3791) s m args below meth c H locs (243 + 2 * (3 + 10 * k + 8)) (2315 + 12 * (3 + 10 * k + 8)) (MQ below ((gGr D (TYS cA) (fun x : (Nat → Nat) × Nat × St => KG x.2.2 (bld L xs).1 (bld L xs).2 none [] none none 123) (fun x => x.1 209) (fun x => wc cA ad x.1 (sbC cA (x.1 241) 0 (sb0 x.2.1)) x.2.2)) A) args s 489 3791 A) (F0 m 335 ls []) := by
        intro σ1 X H locs ls hl hK hP hD hS hX
        refine lv_iload hx hb dL_build_335 (lv_at hl 0 rfl) ?_
        refine lv_bipush (v := nI 17) hx hb dL_build_337 (by decide) ?_
        refine lv_ishr hx hb dL_build_339 ?_
        refine lv_bipush (v := nI 7) hx hb dL_build_340 (by decide) ?_
        refine lv_iand hx hb dL_build_342 ?_
        rw [msk_eq (cv >>> ((nI 17) &&& 31)) 7 (by decide)]
        refine lv_bipush (v := nI 7) hx hb dL_build_343 (by decide) ?_
        by_cases hc9 : nI (msk (cv >>> ((nI 17) &&& 31)) 7) = nI 7
        · refine lv_icmp_ne (tgt := 364) hx hb dL_build_345 (by decide) (fun c9 => absurd hc9 c9) (fun _ => ?_)
          refine lv_aload_n hx hb dL_build_348 rfl (lv_at hl 3 rfl) ?_
          refine lv_iconst (v := nI 1) hx hb dL_build_349 (by decide) ?_
          refine lv_iload hx hb dL_build_350 (lv_at hl 0 rfl) ?_
          refine lv_bipush (v := nI 20) hx hb dL_build_352 (by decide) ?_
          refine lv_ishr hx hb dL_build_354 ?_
          refine lv_bipush (v := nI 15) hx hb dL_build_355 (by decide) ?_
          refine lv_iand hx hb dL_build_357 ?_
          rw [msk_eq (cv >>> ((nI 20) &&& 31)) 15 (by decide)]
          refine lv_iconst (v := nI 0) hx hb dL_build_358 (by decide) ?_
          refine lv_iconst (v := nI 0) hx hb dL_build_359 (by decide) ?_
          refine gb_act (σ := σ1) (w := 1) hlt hT hSX hSN (by decide) (by have := msk_le (cv >>> ((nI 20) &&& 31)) 15; omega) (by decide) (by decide) (by omega) hK G hP hD hS ⟨Nat.le_of_ble_eq_true rfl, Nat.le_of_ble_eq_true rfl, by show 243 + 2 * (3 + 10 * k + 8) + 2 ≤ 489; omega, by show 2315 + 12 * (3 + 10 * k + 8) + 12 ≤ 3791; omega⟩ hl.1 (Nat.le_of_ble_eq_true rfl) dL_build_360 (fun v σ2 H locs hK hP hD hS => ?_)
          refine lv_pop hx hb dL_build_363 rfl ?_
          refine W.widen (k := 243 + 2 * (3 + 10 * k + 9)) (n := 2315 + 12 * (3 + 10 * k + 9)) (by omega) (by omega) ?_
          exact blk9 σ2 (actS 1 (msk (cv >>> ((nI 20) &&& 31)) 15) 0 0 X) H locs ls hl hK hP hD hS (by rw [← hX]; unfold bk8; rw [if_pos hc9])
        · refine lv_icmp_ne (tgt := 364) hx hb dL_build_345 (by decide) (fun _ => ?_) (fun c9 => absurd c9 hc9)
          refine W.widen (k := 243 + 2 * (3 + 10 * k + 9)) (n := 2315 + 12 * (3 + 10 * k + 9)) (by omega) (by omega) ?_
          exact blk9 σ1 X H locs ls hl (hK.mono (by omega)) hP hD hS (by rw [← hX]; unfold bk8; rw [if_neg hc9])
      have blk7 : ∀ (σ1 : St) (X : AH) (H : Heap) (locs : List Loc) (ls : Array Slot), lv_has ls 5 [(4, .int cv), (3, .int (nI (k + 1))), (2, .int z0), (1, .ref (a 209)), (0, .ref b)] → KG σ1 X.1 X.2 none [] none none (3 + 10 * k + 7) → va_P D vwCl (wc cA ad a (sbC cA (a 241) 0 (sb0 q0)) σ1) H → va_D A (wc cA ad a (sbC cA (a 241) 0 (sb0 q0)) σ1) → va_S A s.heap H locs → bF L xs d (k + 1 + 1) (bk9 cv (bk8 cv (bk7 cv X))) = bld L xs → W p l e (RMC 14 489 3791) s m args below meth c H locs (243 + 2 * (3 + 10 * k + 7)) (2315 + 12 * (3 + 10 * k + 7)) (MQ below ((gGr D (TYS cA) (fun x : (Nat → Nat) × Nat × St => KG x.2.2 (bld L xs).1 (bld L xs).2 none [] none none 123) (fun x => x.1 209) (fun x => wc cA ad x.1 (sbC cA (x.1 241) 0 (sb0 x.2.1)) x.2.2)) A) args s 489 3791 A) (F0 m 294 ls []) := by
        intro σ1 X H locs ls hl hK hP hD hS hX
        refine lv_iload hx hb dL_build_294 (lv_at hl 0 rfl) ?_
        refine lv_bipush (v := nI 17) hx hb dL_build_296 (by decide) ?_
        refine lv_ishr hx hb dL_build_298 ?_
        refine lv_bipush (v := nI 7) hx hb dL_build_299 (by decide) ?_
        refine lv_iand hx hb dL_build_301 ?_
        rw [msk_eq (cv >>> ((nI 17) &&& 31)) 7 (by decide)]
        refine lv_bipush (v := nI 6) hx hb dL_build_302 (by decide) ?_
        by_cases hc9 : nI (msk (cv >>> ((nI 17) &&& 31)) 7) = nI 6
        · refine lv_icmp_ne (tgt := 335) hx hb dL_build_304 (by decide) (fun c9 => absurd hc9 c9) (fun _ => ?_)
          refine lv_aload_n hx hb dL_build_307 rfl (lv_at hl 3 rfl) ?_
          refine lv_iconst (v := nI 2) hx hb dL_build_308 (by decide) ?_
          refine lv_iload hx hb dL_build_309 (lv_at hl 0 rfl) ?_
          refine lv_bipush (v := nI 20) hx hb dL_build_311 (by decide) ?_
          refine lv_ishr hx hb dL_build_313 ?_
          refine lv_iconst (v := nI 3) hx hb dL_build_314 (by decide) ?_
          refine lv_iand hx hb dL_build_315 ?_
          rw [msk_eq (cv >>> ((nI 20) &&& 31)) 3 (by decide)]
          refine lv_iconst (v := nI 3) hx hb dL_build_316 (by decide) ?_
          refine lv_irem hx hb dL_build_317 (by decide) ?_
          rw [msk_rem (cv >>> ((nI 20) &&& 31)) 3 3 (by decide) (by decide) (by decide)]
          refine lv_iconst (v := nI 1) hx hb dL_build_318 (by decide) ?_
          refine lv_iload hx hb dL_build_319 (lv_at hl 0 rfl) ?_
          refine lv_bipush (v := nI 22) hx hb dL_build_321 (by decide) ?_
          refine lv_ishr hx hb dL_build_323 ?_
          refine lv_bipush (v := nI 7) hx hb dL_build_324 (by decide) ?_
          refine lv_iand hx hb dL_build_326 ?_
          rw [msk_eq (cv >>> ((nI 22) &&& 31)) 7 (by decide)]
          refine lv_iconst (v := nI 5) hx hb dL_build_327 (by decide) ?_
          refine lv_irem hx hb dL_build_328 (by decide) ?_
          rw [msk_rem (cv >>> ((nI 22) &&& 31)) 7 5 (by decide) (by decide) (by decide)]
          refine lv_iadd hx hb dL_build_329 ?_
          rw [nI_add 1 ((msk (cv >>> ((nI 22) &&& 31)) 7) % 5)]
          refine lv_iconst (v := nI 0) hx hb dL_build_330 (by decide) ?_
          refine gb_act (σ := σ1) (w := 2) hlt hT hSX hSN (by decide) (by have := msk_le (cv >>> ((nI 20) &&& 31)) 3; omega) (by have := msk_le (cv >>> ((nI 22) &&& 31)) 7; omega) (by decide) (by omega) hK G hP hD hS ⟨Nat.le_of_ble_eq_true rfl, Nat.le_of_ble_eq_true rfl, by show 243 + 2 * (3 + 10 * k + 7) + 2 ≤ 489; omega, by show 2315 + 12 * (3 + 10 * k + 7) + 12 ≤ 3791; omega⟩ hl.1 (Nat.le_of_ble_eq_true rfl) dL_build_331 (fun v σ2 H locs hK hP hD hS => ?_)
          refine lv_pop hx hb dL_build_334 rfl ?_
          refine W.widen (k := 243 + 2 * (3 + 10 * k + 8)) (n := 2315 + 12 * (3 + 10 * k + 8)) (by omega) (by omega) ?_
          exact blk8 σ2 (actS 2 ((msk (cv >>> ((nI 20) &&& 31)) 3) % 3) (1 + ((msk (cv >>> ((nI 22) &&& 31)) 7) % 5)) 0 X) H locs ls hl hK hP hD hS (by rw [← hX]; unfold bk7; rw [if_pos hc9])
        · refine lv_icmp_ne (tgt := 335) hx hb dL_build_304 (by decide) (fun _ => ?_) (fun c9 => absurd c9 hc9)
          refine W.widen (k := 243 + 2 * (3 + 10 * k + 8)) (n := 2315 + 12 * (3 + 10 * k + 8)) (by omega) (by omega) ?_
          exact blk8 σ1 X H locs ls hl (hK.mono (by omega)) hP hD hS (by rw [← hX]; unfold bk7; rw [if_neg hc9])
      have blk6 : ∀ (σ1 : St) (X : AH) (H : Heap) (locs : List Loc) (ls : Array Slot), lv_has ls 5 [(4, .int cv), (3, .int (nI (k + 1))), (2, .int z0), (1, .ref (a 209)), (0, .ref b)] → KG σ1 X.1 X.2 none [] none none (3 + 10 * k + 6) → va_P D vwCl (wc cA ad a (sbC cA (a 241) 0 (sb0 q0)) σ1) H → va_D A (wc cA ad a (sbC cA (a 241) 0 (sb0 q0)) σ1) → va_S A s.heap H locs → bF L xs d (k + 1 + 1) (bk9 cv (bk8 cv (bk7 cv (bk6 cv X)))) = bld L xs → W p l e (RMC 14 489 3791) s m args below meth c H locs (243 + 2 * (3 + 10 * k + 6)) (2315 + 12 * (3 + 10 * k + 6)) (MQ below ((gGr D (TYS cA) (fun x : (Nat → Nat) × Nat × St => KG x.2.2 (bld L xs).1 (bld L xs).2 none [] none none 123) (fun x => x.1 209) (fun x => wc cA ad x.1 (sbC cA (x.1 241) 0 (sb0 x.2.1)) x.2.2)) A) args s 489 3791 A) (F0 m 258 ls []) := by
        intro σ1 X H locs ls hl hK hP hD hS hX
        refine lv_iload hx hb dL_build_258 (lv_at hl 0 rfl) ?_
        refine lv_bipush (v := nI 17) hx hb dL_build_260 (by decide) ?_
        refine lv_ishr hx hb dL_build_262 ?_
        refine lv_bipush (v := nI 7) hx hb dL_build_263 (by decide) ?_
        refine lv_iand hx hb dL_build_265 ?_
        rw [msk_eq (cv >>> ((nI 17) &&& 31)) 7 (by decide)]
        refine lv_iconst (v := nI 3) hx hb dL_build_266 (by decide) ?_
        by_cases hc9 : nI (msk (cv >>> ((nI 17) &&& 31)) 7) = nI 3
        · refine lv_icmp_ne (tgt := 294) hx hb dL_build_267 (by decide) (fun c9 => absurd hc9 c9) (fun _ => ?_)
          refine lv_aload_n hx hb dL_build_270 rfl (lv_at hl 3 rfl) ?_
          refine lv_bipush (v := nI 6) hx hb dL_build_271 (by decide) ?_
          refine lv_iload hx hb dL_build_273 (lv_at hl 0 rfl) ?_
          refine lv_bipush (v := nI 20) hx hb dL_build_275 (by decide) ?_
          refine lv_ishr hx hb dL_build_277 ?_
          refine lv_iconst (v := nI 3) hx hb dL_build_278 (by decide) ?_
          refine lv_iand hx hb dL_build_279 ?_
          rw [msk_eq (cv >>> ((nI 20) &&& 31)) 3 (by decide)]
          refine lv_iconst (v := nI 1) hx hb dL_build_280 (by decide) ?_
          refine lv_iload hx hb dL_build_281 (lv_at hl 0 rfl) ?_
          refine lv_bipush (v := nI 22) hx hb dL_build_283 (by decide) ?_
          refine lv_ishr hx hb dL_build_285 ?_
          refine lv_iconst (v := nI 1) hx hb dL_build_286 (by decide) ?_
          refine lv_iand hx hb dL_build_287 ?_
          rw [msk_eq (cv >>> ((nI 22) &&& 31)) 1 (by decide)]
          refine lv_iadd hx hb dL_build_288 ?_
          rw [nI_add 1 (msk (cv >>> ((nI 22) &&& 31)) 1)]
          refine lv_iconst (v := nI 0) hx hb dL_build_289 (by decide) ?_
          refine gb_act (σ := σ1) (w := 6) hlt hT hSX hSN (by decide) (by have := msk_le (cv >>> ((nI 20) &&& 31)) 3; omega) (by have := msk_le (cv >>> ((nI 22) &&& 31)) 1; omega) (by decide) (by omega) hK G hP hD hS ⟨Nat.le_of_ble_eq_true rfl, Nat.le_of_ble_eq_true rfl, by show 243 + 2 * (3 + 10 * k + 6) + 2 ≤ 489; omega, by show 2315 + 12 * (3 + 10 * k + 6) + 12 ≤ 3791; omega⟩ hl.1 (Nat.le_of_ble_eq_true rfl) dL_build_290 (fun v σ2 H locs hK hP hD hS => ?_)
          refine lv_pop hx hb dL_build_293 rfl ?_
          refine W.widen (k := 243 + 2 * (3 + 10 * k + 7)) (n := 2315 + 12 * (3 + 10 * k + 7)) (by omega) (by omega) ?_
          exact blk7 σ2 (actS 6 (msk (cv >>> ((nI 20) &&& 31)) 3) (1 + (msk (cv >>> ((nI 22) &&& 31)) 1)) 0 X) H locs ls hl hK hP hD hS (by rw [← hX]; unfold bk6; rw [if_pos hc9])
        · refine lv_icmp_ne (tgt := 294) hx hb dL_build_267 (by decide) (fun _ => ?_) (fun c9 => absurd c9 hc9)
          refine W.widen (k := 243 + 2 * (3 + 10 * k + 7)) (n := 2315 + 12 * (3 + 10 * k + 7)) (by omega) (by omega) ?_
          exact blk7 σ1 X H locs ls hl (hK.mono (by omega)) hP hD hS (by rw [← hX]; unfold bk6; rw [if_neg hc9])
      have blk5 : ∀ (σ1 : St) (X : AH) (H : Heap) (locs : List Loc) (ls : Array Slot), lv_has ls 5 [(4, .int cv), (3, .int (nI (k + 1))), (2, .int z0), (1, .ref (a 209)), (0, .ref b)] → KG σ1 X.1 X.2 none [] none none (3 + 10 * k + 5) → va_P D vwCl (wc cA ad a (sbC cA (a 241) 0 (sb0 q0)) σ1) H → va_D A (wc cA ad a (sbC cA (a 241) 0 (sb0 q0)) σ1) → va_S A s.heap H locs → bF L xs d (k + 1 + 1) (bk9 cv (bk8 cv (bk7 cv (bk6 cv (bk5 cv X))))) = bld L xs → W p l e (RMC 14 489 3791) s m args below meth c H locs (243 + 2 * (3 + 10 * k + 5)) (2315 + 12 * (3 + 10 * k + 5)) (MQ below ((gGr D (TYS cA) (fun x : (Nat → Nat) × Nat × St => KG x.2.2 (bld L xs).1 (bld L xs).2 none [] none none 123) (fun x => x.1 209) (fun x => wc cA ad x.1 (sbC cA (x.1 241) 0 (sb0 x.2.1)) x.2.2)) A) args s 489 3791 A) (F0 m 229 ls []) := by
        intro σ1 X H locs ls hl hK hP hD hS hX
        refine lv_iload hx hb dL_build_229 (lv_at hl 0 rfl) ?_
        refine lv_bipush (v := nI 17) hx hb dL_build_231 (by decide) ?_
        refine lv_ishr hx hb dL_build_233 ?_
        refine lv_bipush (v := nI 7) hx hb dL_build_234 (by decide) ?_
        refine lv_iand hx hb dL_build_236 ?_
        rw [msk_eq (cv >>> ((nI 17) &&& 31)) 7 (by decide)]
        refine lv_iconst (v := nI 2) hx hb dL_build_237 (by decide) ?_
        by_cases hc9 : nI (msk (cv >>> ((nI 17) &&& 31)) 7) = nI 2
        · refine lv_icmp_ne (tgt := 258) hx hb dL_build_238 (by decide) (fun c9 => absurd hc9 c9) (fun _ => ?_)
          refine lv_aload_n hx hb dL_build_241 rfl (lv_at hl 3 rfl) ?_
          refine lv_iconst (v := nI 5) hx hb dL_build_242 (by decide) ?_
          refine lv_iload hx hb dL_build_243 (lv_at hl 0 rfl) ?_
          refine lv_bipush (v := nI 20) hx hb dL_build_245 (by decide) ?_
          refine lv_ishr hx hb dL_build_247 ?_
          refine lv_iconst (v := nI 3) hx hb dL_build_248 (by decide) ?_
          refine lv_iand hx hb dL_build_249 ?_
          rw [msk_eq (cv >>> ((nI 20) &&& 31)) 3 (by decide)]
          refine lv_iconst (v := nI 3) hx hb dL_build_250 (by decide) ?_
          refine lv_irem hx hb dL_build_251 (by decide) ?_
          rw [msk_rem (cv >>> ((nI 20) &&& 31)) 3 3 (by decide) (by decide) (by decide)]
          refine lv_iconst (v := nI 0) hx hb dL_build_252 (by decide) ?_
          refine lv_iconst (v := nI 0) hx hb dL_build_253 (by decide) ?_
          refine gb_act (σ := σ1) (w := 5) hlt hT hSX hSN (by decide) (by have := msk_le (cv >>> ((nI 20) &&& 31)) 3; omega) (by decide) (by decide) (by omega) hK G hP hD hS ⟨Nat.le_of_ble_eq_true rfl, Nat.le_of_ble_eq_true rfl, by show 243 + 2 * (3 + 10 * k + 5) + 2 ≤ 489; omega, by show 2315 + 12 * (3 + 10 * k + 5) + 12 ≤ 3791; omega⟩ hl.1 (Nat.le_of_ble_eq_true rfl) dL_build_254 (fun v σ2 H locs hK hP hD hS => ?_)
          refine lv_pop hx hb dL_build_257 rfl ?_
          refine W.widen (k := 243 + 2 * (3 + 10 * k + 6)) (n := 2315 + 12 * (3 + 10 * k + 6)) (by omega) (by omega) ?_
          exact blk6 σ2 (actS 5 ((msk (cv >>> ((nI 20) &&& 31)) 3) % 3) 0 0 X) H locs ls hl hK hP hD hS (by rw [← hX]; unfold bk5; rw [if_pos hc9])
        · refine lv_icmp_ne (tgt := 258) hx hb dL_build_238 (by decide) (fun _ => ?_) (fun c9 => absurd c9 hc9)
          refine W.widen (k := 243 + 2 * (3 + 10 * k + 6)) (n := 2315 + 12 * (3 + 10 * k + 6)) (by omega) (by omega) ?_
          exact blk6 σ1 X H locs ls hl (hK.mono (by omega)) hP hD hS (by rw [← hX]; unfold bk5; rw [if_neg hc9])
      have blk4 : ∀ (σ1 : St) (X : AH) (H : Heap) (locs : List Loc) (ls : Array Slot), lv_has ls 5 [(4, .int cv), (3, .int (nI (k + 1))), (2, .int z0), (1, .ref (a 209)), (0, .ref b)] → KG σ1 X.1 X.2 none [] none none (3 + 10 * k + 4) → va_P D vwCl (wc cA ad a (sbC cA (a 241) 0 (sb0 q0)) σ1) H → va_D A (wc cA ad a (sbC cA (a 241) 0 (sb0 q0)) σ1) → va_S A s.heap H locs → bF L xs d (k + 1 + 1) (bk9 cv (bk8 cv (bk7 cv (bk6 cv (bk5 cv (bk4 cv X)))))) = bld L xs → W p l e (RMC 14 489 3791) s m args below meth c H locs (243 + 2 * (3 + 10 * k + 4)) (2315 + 12 * (3 + 10 * k + 4)) (MQ below ((gGr D (TYS cA) (fun x : (Nat → Nat) × Nat × St => KG x.2.2 (bld L xs).1 (bld L xs).2 none [] none none 123) (fun x => x.1 209) (fun x => wc cA ad x.1 (sbC cA (x.1 241) 0 (sb0 x.2.1)) x.2.2)) A) args s 489 3791 A) (F0 m 201 ls []) := by
        intro σ1 X H locs ls hl hK hP hD hS hX
        refine lv_iload hx hb dL_build_201 (lv_at hl 0 rfl) ?_
        refine lv_bipush (v := nI 17) hx hb dL_build_203 (by decide) ?_
        refine lv_ishr hx hb dL_build_205 ?_
        refine lv_iconst (v := nI 3) hx hb dL_build_206 (by decide) ?_
        refine lv_iand hx hb dL_build_207 ?_
        rw [msk_eq (cv >>> ((nI 17) &&& 31)) 3 (by decide)]
        refine lv_iconst (v := nI 1) hx hb dL_build_208 (by decide) ?_
        by_cases hc9 : nI (msk (cv >>> ((nI 17) &&& 31)) 3) = nI 1
        · refine lv_icmp_ne (tgt := 229) hx hb dL_build_209 (by decide) (fun c9 => absurd hc9 c9) (fun _ => ?_)
          refine lv_aload_n hx hb dL_build_212 rfl (lv_at hl 3 rfl) ?_
          refine lv_iconst (v := nI 4) hx hb dL_build_213 (by decide) ?_
          refine lv_iload hx hb dL_build_214 (lv_at hl 0 rfl) ?_
          refine lv_bipush (v := nI 19) hx hb dL_build_216 (by decide) ?_
          refine lv_ishr hx hb dL_build_218 ?_
          refine lv_iconst (v := nI 3) hx hb dL_build_219 (by decide) ?_
          refine lv_iand hx hb dL_build_220 ?_
          rw [msk_eq (cv >>> ((nI 19) &&& 31)) 3 (by decide)]
          refine lv_iconst (v := nI 3) hx hb dL_build_221 (by decide) ?_
          refine lv_irem hx hb dL_build_222 (by decide) ?_
          rw [msk_rem (cv >>> ((nI 19) &&& 31)) 3 3 (by decide) (by decide) (by decide)]
          refine lv_iconst (v := nI 0) hx hb dL_build_223 (by decide) ?_
          refine lv_iconst (v := nI 0) hx hb dL_build_224 (by decide) ?_
          refine gb_act (σ := σ1) (w := 4) hlt hT hSX hSN (by decide) (by have := msk_le (cv >>> ((nI 19) &&& 31)) 3; omega) (by decide) (by decide) (by omega) hK G hP hD hS ⟨Nat.le_of_ble_eq_true rfl, Nat.le_of_ble_eq_true rfl, by show 243 + 2 * (3 + 10 * k + 4) + 2 ≤ 489; omega, by show 2315 + 12 * (3 + 10 * k + 4) + 12 ≤ 3791; omega⟩ hl.1 (Nat.le_of_ble_eq_true rfl) dL_build_225 (fun v σ2 H locs hK hP hD hS => ?_)
          refine lv_pop hx hb dL_build_228 rfl ?_
          refine W.widen (k := 243 + 2 * (3 + 10 * k + 5)) (n := 2315 + 12 * (3 + 10 * k + 5)) (by omega) (by omega) ?_
          exact blk5 σ2 (actS 4 ((msk (cv >>> ((nI 19) &&& 31)) 3) % 3) 0 0 X) H locs ls hl hK hP hD hS (by rw [← hX]; unfold bk4; rw [if_pos hc9])
        · refine lv_icmp_ne (tgt := 229) hx hb dL_build_209 (by decide) (fun _ => ?_) (fun c9 => absurd c9 hc9)
          refine W.widen (k := 243 + 2 * (3 + 10 * k + 5)) (n := 2315 + 12 * (3 + 10 * k + 5)) (by omega) (by omega) ?_
          exact blk5 σ1 X H locs ls hl (hK.mono (by omega)) hP hD hS (by rw [← hX]; unfold bk4; rw [if_neg hc9])
      have blk3 : ∀ (σ1 : St) (X : AH) (H : Heap) (locs : List Loc) (ls : Array Slot), lv_has ls 5 [(4, .int cv), (3, .int (nI (k + 1))), (2, .int z0), (1, .ref (a 209)), (0, .ref b)] → KG σ1 X.1 X.2 none [] none none (3 + 10 * k + 3) → va_P D vwCl (wc cA ad a (sbC cA (a 241) 0 (sb0 q0)) σ1) H → va_D A (wc cA ad a (sbC cA (a 241) 0 (sb0 q0)) σ1) → va_S A s.heap H locs → bF L xs d (k + 1 + 1) (bk9 cv (bk8 cv (bk7 cv (bk6 cv (bk5 cv (bk4 cv (bk3 cv X))))))) = bld L xs → W p l e (RMC 14 489 3791) s m args below meth c H locs (243 + 2 * (3 + 10 * k + 3)) (2315 + 12 * (3 + 10 * k + 3)) (MQ below ((gGr D (TYS cA) (fun x : (Nat → Nat) × Nat × St => KG x.2.2 (bld L xs).1 (bld L xs).2 none [] none none 123) (fun x => x.1 209) (fun x => wc cA ad x.1 (sbC cA (x.1 241) 0 (sb0 x.2.1)) x.2.2)) A) args s 489 3791 A) (F0 m 165 ls []) := by
        intro σ1 X H locs ls hl hK hP hD hS hX
        refine lv_iload hx hb dL_build_165 (lv_at hl 0 rfl) ?_
        refine lv_bipush (v := nI 17) hx hb dL_build_167 (by decide) ?_
        refine lv_ishr hx hb dL_build_169 ?_
        refine lv_iconst (v := nI 3) hx hb dL_build_170 (by decide) ?_
        refine lv_iand hx hb dL_build_171 ?_
        rw [msk_eq (cv >>> ((nI 17) &&& 31)) 3 (by decide)]
        by_cases hc9 : nI (msk (cv >>> ((nI 17) &&& 31)) 3) = 0
        · refine lv_if_ne (tgt := 201) hx hb dL_build_172 (by decide) (fun c9 => absurd hc9 c9) (fun _ => ?_)
          refine lv_aload_n hx hb dL_build_175 rfl (lv_at hl 3 rfl) ?_
          refine lv_iconst (v := nI 3) hx hb dL_build_176 (by decide) ?_
          refine lv_iload hx hb dL_build_177 (lv_at hl 0 rfl) ?_
          refine lv_bipush (v := nI 19) hx hb dL_build_179 (by decide) ?_
          refine lv_ishr hx hb dL_build_181 ?_
          refine lv_bipush (v := nI 7) hx hb dL_build_182 (by decide) ?_
          refine lv_iand hx hb dL_build_184 ?_
          rw [msk_eq (cv >>> ((nI 19) &&& 31)) 7 (by decide)]
          refine lv_iload hx hb dL_build_185 (lv_at hl 0 rfl) ?_
          refine lv_bipush (v := nI 22) hx hb dL_build_187 (by decide) ?_
          refine lv_ishr hx hb dL_build_189 ?_
          refine lv_bipush (v := nI 15) hx hb dL_build_190 (by decide) ?_
          refine lv_iand hx hb dL_build_192 ?_
          rw [msk_eq (cv >>> ((nI 22) &&& 31)) 15 (by decide)]
          refine lv_bipush (v := nI 10) hx hb dL_build_193 (by decide) ?_
          refine lv_irem hx hb dL_build_195 (by decide) ?_
          rw [msk_rem (cv >>> ((nI 22) &&& 31)) 15 10 (by decide) (by decide) (by decide)]
          refine lv_iconst (v := nI 0) hx hb dL_build_196 (by decide) ?_
          refine gb_act (σ := σ1) (w := 3) hlt hT hSX hSN (by decide) (by have := msk_le (cv >>> ((nI 19) &&& 31)) 7; omega) (by have := msk_le (cv >>> ((nI 22) &&& 31)) 15; omega) (by decide) (by omega) hK G hP hD hS ⟨Nat.le_of_ble_eq_true rfl, Nat.le_of_ble_eq_true rfl, by show 243 + 2 * (3 + 10 * k + 3) + 2 ≤ 489; omega, by show 2315 + 12 * (3 + 10 * k + 3) + 12 ≤ 3791; omega⟩ hl.1 (Nat.le_of_ble_eq_true rfl) dL_build_197 (fun v σ2 H locs hK hP hD hS => ?_)
          refine lv_pop hx hb dL_build_200 rfl ?_
          refine W.widen (k := 243 + 2 * (3 + 10 * k + 4)) (n := 2315 + 12 * (3 + 10 * k + 4)) (by omega) (by omega) ?_
          exact blk4 σ2 (actS 3 (msk (cv >>> ((nI 19) &&& 31)) 7) ((msk (cv >>> ((nI 22) &&& 31)) 15) % 10) 0 X) H locs ls hl hK hP hD hS (by rw [← hX]; unfold bk3; rw [if_pos hc9])
        · refine lv_if_ne (tgt := 201) hx hb dL_build_172 (by decide) (fun _ => ?_) (fun c9 => absurd c9 hc9)
          refine W.widen (k := 243 + 2 * (3 + 10 * k + 4)) (n := 2315 + 12 * (3 + 10 * k + 4)) (by omega) (by omega) ?_
          exact blk4 σ1 X H locs ls hl (hK.mono (by omega)) hP hD hS (by rw [← hX]; unfold bk3; rw [if_neg hc9])
      have blk2 : ∀ (σ1 : St) (X : AH) (H : Heap) (locs : List Loc) (ls : Array Slot), lv_has ls 5 [(4, .int cv), (3, .int (nI (k + 1))), (2, .int z0), (1, .ref (a 209)), (0, .ref b)] → KG σ1 X.1 X.2 none [] none none (3 + 10 * k + 2) → va_P D vwCl (wc cA ad a (sbC cA (a 241) 0 (sb0 q0)) σ1) H → va_D A (wc cA ad a (sbC cA (a 241) 0 (sb0 q0)) σ1) → va_S A s.heap H locs → bF L xs d (k + 1 + 1) (bk9 cv (bk8 cv (bk7 cv (bk6 cv (bk5 cv (bk4 cv (bk3 cv (bk2 cv X)))))))) = bld L xs → W p l e (RMC 14 489 3791) s m args below meth c H locs (243 + 2 * (3 + 10 * k + 2)) (2315 + 12 * (3 + 10 * k + 2)) (MQ below ((gGr D (TYS cA) (fun x : (Nat → Nat) × Nat × St => KG x.2.2 (bld L xs).1 (bld L xs).2 none [] none none 123) (fun x => x.1 209) (fun x => wc cA ad x.1 (sbC cA (x.1 241) 0 (sb0 x.2.1)) x.2.2)) A) args s 489 3791 A) (F0 m 136 ls []) := by
        intro σ1 X H locs ls hl hK hP hD hS hX
        refine lv_iload hx hb dL_build_136 (lv_at hl 0 rfl) ?_
        refine lv_bipush (v := nI 13) hx hb dL_build_138 (by decide) ?_
        refine lv_ishr hx hb dL_build_140 ?_
        refine lv_iconst (v := nI 1) hx hb dL_build_141 (by decide) ?_
        refine lv_iand hx hb dL_build_142 ?_
        rw [msk_eq (cv >>> ((nI 13) &&& 31)) 1 (by decide)]
        by_cases hc9 : nI (msk (cv >>> ((nI 13) &&& 31)) 1) = 0
        · refine lv_if_ne (tgt := 165) hx hb dL_build_143 (by decide) (fun c9 => absurd hc9 c9) (fun _ => ?_)
          refine lv_aload_n hx hb dL_build_146 rfl (lv_at hl 3 rfl) ?_
          refine lv_bipush (v := nI 7) hx hb dL_build_147 (by decide) ?_
          refine lv_iconst (v := nI 1) hx hb dL_build_149 (by decide) ?_
          refine lv_iload hx hb dL_build_150 (lv_at hl 0 rfl) ?_
          refine lv_bipush (v := nI 14) hx hb dL_build_152 (by decide) ?_
          refine lv_ishr hx hb dL_build_154 ?_
          refine lv_bipush (v := nI 7) hx hb dL_build_155 (by decide) ?_
          refine lv_iand hx hb dL_build_157 ?_
          rw [msk_eq (cv >>> ((nI 14) &&& 31)) 7 (by decide)]
          refine lv_iadd hx hb dL_build_158 ?_
          rw [nI_add 1 (msk (cv >>> ((nI 14) &&& 31)) 7)]
          refine lv_iconst (v := nI 0) hx hb dL_build_159 (by decide) ?_
          refine lv_iconst (v := nI 0) hx hb dL_build_160 (by decide) ?_
          refine gb_act (σ := σ1) (w := 7) hlt hT hSX hSN (by decide) (by have := msk_le (cv >>> ((nI 14) &&& 31)) 7; omega) (by decide) (by decide) (by omega) hK G hP hD hS ⟨Nat.le_of_ble_eq_true rfl, Nat.le_of_ble_eq_true rfl, by show 243 + 2 * (3 + 10 * k + 2) + 2 ≤ 489; omega, by show 2315 + 12 * (3 + 10 * k + 2) + 12 ≤ 3791; omega⟩ hl.1 (Nat.le_of_ble_eq_true rfl) dL_build_161 (fun v σ2 H locs hK hP hD hS => ?_)
          refine lv_pop hx hb dL_build_164 rfl ?_
          refine W.widen (k := 243 + 2 * (3 + 10 * k + 3)) (n := 2315 + 12 * (3 + 10 * k + 3)) (by omega) (by omega) ?_
          exact blk3 σ2 (actS 7 (1 + (msk (cv >>> ((nI 14) &&& 31)) 7)) 0 0 X) H locs ls hl hK hP hD hS (by rw [← hX]; unfold bk2; rw [if_pos hc9])
        · refine lv_if_ne (tgt := 165) hx hb dL_build_143 (by decide) (fun _ => ?_) (fun c9 => absurd c9 hc9)
          refine W.widen (k := 243 + 2 * (3 + 10 * k + 3)) (n := 2315 + 12 * (3 + 10 * k + 3)) (by omega) (by omega) ?_
          exact blk3 σ1 X H locs ls hl (hK.mono (by omega)) hP hD hS (by rw [← hX]; unfold bk2; rw [if_neg hc9])
      have blk1 : ∀ (σ1 : St) (X : AH) (H : Heap) (locs : List Loc) (ls : Array Slot), lv_has ls 5 [(4, .int cv), (3, .int (nI (k + 1))), (2, .int z0), (1, .ref (a 209)), (0, .ref b)] → KG σ1 X.1 X.2 none [] none none (3 + 10 * k + 1) → va_P D vwCl (wc cA ad a (sbC cA (a 241) 0 (sb0 q0)) σ1) H → va_D A (wc cA ad a (sbC cA (a 241) 0 (sb0 q0)) σ1) → va_S A s.heap H locs → bF L xs d (k + 1 + 1) (bk9 cv (bk8 cv (bk7 cv (bk6 cv (bk5 cv (bk4 cv (bk3 cv (bk2 cv (bk1 cv X))))))))) = bld L xs → W p l e (RMC 14 489 3791) s m args below meth c H locs (243 + 2 * (3 + 10 * k + 1)) (2315 + 12 * (3 + 10 * k + 1)) (MQ below ((gGr D (TYS cA) (fun x : (Nat → Nat) × Nat × St => KG x.2.2 (bld L xs).1 (bld L xs).2 none [] none none 123) (fun x => x.1 209) (fun x => wc cA ad x.1 (sbC cA (x.1 241) 0 (sb0 x.2.1)) x.2.2)) A) args s 489 3791 A) (F0 m 98 ls []) := by
        intro σ1 X H locs ls hl hK hP hD hS hX
        refine lv_aload_n hx hb dL_build_98 rfl (lv_at hl 3 rfl) ?_
        refine lv_iconst (v := nI 0) hx hb dL_build_99 (by decide) ?_
        refine lv_iload hx hb dL_build_100 (lv_at hl 0 rfl) ?_
        refine lv_iconst (v := nI 4) hx hb dL_build_102 (by decide) ?_
        refine lv_ishr hx hb dL_build_103 ?_
        refine lv_bipush (v := nI 7) hx hb dL_build_104 (by decide) ?_
        refine lv_iand hx hb dL_build_106 ?_
        rw [msk_eq (cv >>> ((nI 4) &&& 31)) 7 (by decide)]
        refine lv_iconst (v := nI 1) hx hb dL_build_107 (by decide) ?_
        refine lv_iload hx hb dL_build_108 (lv_at hl 0 rfl) ?_
        refine lv_iconst (v := nI 5) hx hb dL_build_110 (by decide) ?_
        refine lv_ishr hx hb dL_build_111 ?_
        refine lv_bipush (v := nI 15) hx hb dL_build_112 (by decide) ?_
        refine lv_iand hx hb dL_build_114 ?_
        rw [msk_eq (cv >>> ((nI 5) &&& 31)) 15 (by decide)]
        refine lv_bipush (v := nI 9) hx hb dL_build_115 (by decide) ?_
        refine lv_irem hx hb dL_build_117 (by decide) ?_
        rw [msk_rem (cv >>> ((nI 5) &&& 31)) 15 9 (by decide) (by decide) (by decide)]
        refine lv_iadd hx hb dL_build_118 ?_
        rw [nI_add 1 ((msk (cv >>> ((nI 5) &&& 31)) 15) % 9)]
        refine lv_iconst (v := nI 1) hx hb dL_build_119 (by decide) ?_
        refine lv_iload hx hb dL_build_120 (lv_at hl 0 rfl) ?_
        refine lv_bipush (v := nI 9) hx hb dL_build_122 (by decide) ?_
        refine lv_ishr hx hb dL_build_124 ?_
        refine lv_bipush (v := nI 63) hx hb dL_build_125 (by decide) ?_
        refine lv_iand hx hb dL_build_127 ?_
        rw [msk_eq (cv >>> ((nI 9) &&& 31)) 63 (by decide)]
        refine lv_bipush (v := nI 60) hx hb dL_build_128 (by decide) ?_
        refine lv_irem hx hb dL_build_130 (by decide) ?_
        rw [msk_rem (cv >>> ((nI 9) &&& 31)) 63 60 (by decide) (by decide) (by decide)]
        refine lv_iadd hx hb dL_build_131 ?_
        rw [nI_add 1 ((msk (cv >>> ((nI 9) &&& 31)) 63) % 60)]
        refine gb_act (σ := σ1) (w := 0) hlt hT hSX hSN (by decide) (by have := msk_le (cv >>> ((nI 4) &&& 31)) 7; omega) (by have := msk_le (cv >>> ((nI 5) &&& 31)) 15; omega) (by have := msk_le (cv >>> ((nI 9) &&& 31)) 63; omega) (by omega) hK G hP hD hS ⟨Nat.le_of_ble_eq_true rfl, Nat.le_of_ble_eq_true rfl, by show 243 + 2 * (3 + 10 * k + 1) + 2 ≤ 489; omega, by show 2315 + 12 * (3 + 10 * k + 1) + 12 ≤ 3791; omega⟩ hl.1 (Nat.le_of_ble_eq_true rfl) dL_build_132 (fun v σ2 H locs hK hP hD hS => ?_)
        refine lv_pop hx hb dL_build_135 rfl ?_
        refine W.widen (k := 243 + 2 * (3 + 10 * k + 2)) (n := 2315 + 12 * (3 + 10 * k + 2)) (by omega) (by omega) ?_
        exact blk2 σ2 (actS 0 (msk (cv >>> ((nI 4) &&& 31)) 7) (1 + ((msk (cv >>> ((nI 5) &&& 31)) 15) % 9)) (1 + ((msk (cv >>> ((nI 9) &&& 31)) 63) % 60)) X) H locs ls hl hK hP hD hS hX
      have blk0 : ∀ (σ1 : St) (X : AH) (H : Heap) (locs : List Loc) (ls : Array Slot), lv_has ls 5 [(4, .int cv), (3, .int (nI (k + 1))), (2, .int z0), (1, .ref (a 209)), (0, .ref b)] → KG σ1 X.1 X.2 none [] none none (3 + 10 * k + 0) → va_P D vwCl (wc cA ad a (sbC cA (a 241) 0 (sb0 q0)) σ1) H → va_D A (wc cA ad a (sbC cA (a 241) 0 (sb0 q0)) σ1) → va_S A s.heap H locs → bF L xs d (k + 1 + 1) (bk9 cv (bk8 cv (bk7 cv (bk6 cv (bk5 cv (bk4 cv (bk3 cv (bk2 cv (bk1 cv (bk0 cv X)))))))))) = bld L xs → W p l e (RMC 14 489 3791) s m args below meth c H locs (243 + 2 * (3 + 10 * k + 0)) (2315 + 12 * (3 + 10 * k + 0)) (MQ below ((gGr D (TYS cA) (fun x : (Nat → Nat) × Nat × St => KG x.2.2 (bld L xs).1 (bld L xs).2 none [] none none 123) (fun x => x.1 209) (fun x => wc cA ad x.1 (sbC cA (x.1 241) 0 (sb0 x.2.1)) x.2.2)) A) args s 489 3791 A) (F0 m 62 ls []) := by
        intro σ1 X H locs ls hl hK hP hD hS hX
        refine lv_aload_n hx hb dL_build_62 rfl (lv_at hl 3 rfl) ?_
        refine lv_iconst (v := nI 0) hx hb dL_build_63 (by decide) ?_
        refine lv_iload hx hb dL_build_64 (lv_at hl 0 rfl) ?_
        refine lv_bipush (v := nI 7) hx hb dL_build_66 (by decide) ?_
        refine lv_iand hx hb dL_build_68 ?_
        rw [msk_eq cv 7 (by decide)]
        refine lv_iconst (v := nI 1) hx hb dL_build_69 (by decide) ?_
        refine lv_iload hx hb dL_build_70 (lv_at hl 0 rfl) ?_
        refine lv_iconst (v := nI 3) hx hb dL_build_72 (by decide) ?_
        refine lv_ishr hx hb dL_build_73 ?_
        refine lv_bipush (v := nI 15) hx hb dL_build_74 (by decide) ?_
        refine lv_iand hx hb dL_build_76 ?_
        rw [msk_eq (cv >>> ((nI 3) &&& 31)) 15 (by decide)]
        refine lv_bipush (v := nI 9) hx hb dL_build_77 (by decide) ?_
        refine lv_irem hx hb dL_build_79 (by decide) ?_
        rw [msk_rem (cv >>> ((nI 3) &&& 31)) 15 9 (by decide) (by decide) (by decide)]
        refine lv_iadd hx hb dL_build_80 ?_
        rw [nI_add 1 ((msk (cv >>> ((nI 3) &&& 31)) 15) % 9)]
        refine lv_iconst (v := nI 1) hx hb dL_build_81 (by decide) ?_
        refine lv_iload hx hb dL_build_82 (lv_at hl 0 rfl) ?_
        refine lv_bipush (v := nI 7) hx hb dL_build_84 (by decide) ?_
        refine lv_ishr hx hb dL_build_86 ?_
        refine lv_bipush (v := nI 63) hx hb dL_build_87 (by decide) ?_
        refine lv_iand hx hb dL_build_89 ?_
        rw [msk_eq (cv >>> ((nI 7) &&& 31)) 63 (by decide)]
        refine lv_bipush (v := nI 60) hx hb dL_build_90 (by decide) ?_
        refine lv_irem hx hb dL_build_92 (by decide) ?_
        rw [msk_rem (cv >>> ((nI 7) &&& 31)) 63 60 (by decide) (by decide) (by decide)]
        refine lv_iadd hx hb dL_build_93 ?_
        rw [nI_add 1 ((msk (cv >>> ((nI 7) &&& 31)) 63) % 60)]
        refine gb_act (σ := σ1) (w := 0) hlt hT hSX hSN (by decide) (by have := msk_le cv 7; omega) (by have := msk_le (cv >>> ((nI 3) &&& 31)) 15; omega) (by have := msk_le (cv >>> ((nI 7) &&& 31)) 63; omega) (by omega) hK G hP hD hS ⟨Nat.le_of_ble_eq_true rfl, Nat.le_of_ble_eq_true rfl, by show 243 + 2 * (3 + 10 * k + 0) + 2 ≤ 489; omega, by show 2315 + 12 * (3 + 10 * k + 0) + 12 ≤ 3791; omega⟩ hl.1 (Nat.le_of_ble_eq_true rfl) dL_build_94 (fun v σ2 H locs hK hP hD hS => ?_)
        refine lv_pop hx hb dL_build_97 rfl ?_
        refine W.widen (k := 243 + 2 * (3 + 10 * k + 1)) (n := 2315 + 12 * (3 + 10 * k + 1)) (by omega) (by omega) ?_
        exact blk1 σ2 (actS 0 (msk cv 7) (1 + ((msk (cv >>> ((nI 3) &&& 31)) 15) % 9)) (1 + ((msk (cv >>> ((nI 7) &&& 31)) 63) % 60)) X) H locs ls hl hK hP hD hS hX
      refine W.widen (k := 243 + 2 * (3 + 10 * k + 0)) (n := 2315 + 12 * (3 + 10 * k + 0)) (by omega) (by omega) ?_
      exact blk0 σ1 X H locs ls hl hK hP hD hS (by rw [← hX, hcv]; rfl)
  have loopz : ∀ (d k : Nat) (σ1 : St) (X : AH) (H : Heap) (locs : List Loc) (ls : Array Slot), k + d = 3 → lv_has ls 5 [(3, .int (nI k)), (2, .int (atF L xs 0)), (1, .ref (a 209)), (0, .ref b)] → KG σ1 X.1 X.2 none [] none none k → va_P D vwCl (wc cA ad a (sbC cA (a 241) 0 (sb0 q0)) σ1) H → va_D A (wc cA ad a (sbC cA (a 241) 0 (sb0 q0)) σ1) → va_S A s.heap H locs → bF L xs 12 1 (bFz (atF L xs 0) d k X) = bld L xs → W p l e (RMC 14 489 3791) s m args below meth c H locs (243 + 2 * (k)) (2315 + 12 * (k)) (MQ below ((gGr D (TYS cA) (fun x : (Nat → Nat) × Nat × St => KG x.2.2 (bld L xs).1 (bld L xs).2 none [] none none 123) (fun x => x.1 209) (fun x => wc cA ad x.1 (sbC cA (x.1 241) 0 (sb0 x.2.1)) x.2.2)) A) args s 489 3791 A) (F0 m 16 ls []) := by
    intro d
    induction d with
    | zero =>
      intro k σ1 X H locs ls hk hl hK hP hD hS hX
      obtain rfl : k = 3 := by omega
      refine lv_iload_n hx hb dL_build_16 rfl (lv_at hl 0 rfl) ?_
      refine lv_iconst (v := nI 3) hx hb dL_build_17 (by decide) ?_
      refine lv_icmp_ge (tgt := 47) hx hb dL_build_18 (by decide) (fun _ => ?_) (fun c9 => absurd (nI_le (Nat.le_refl _) (by omega)) c9)
      refine lv_iconst (v := nI 1) hx hb dL_build_47 (by decide) ?_
      refine lv_istore_n (lv' := [(3, .int (nI 1)), (2, .int (atF L xs 0)), (1, .ref (a 209)), (0, .ref b)]) hx hb dL_build_48 rfl hl (by decide) rfl (fun ls hl => ?_)
      exact loop 12 0 _ σ1 X H locs ls rfl hl hK hP hD hS hX
    | succ d ih =>
      intro k σ1 X H locs ls hk hl hK hP hD hS hX
      refine lv_iload_n hx hb dL_build_16 rfl (lv_at hl 0 rfl) ?_
      refine lv_iconst (v := nI 3) hx hb dL_build_17 (by decide) ?_
      refine lv_icmp_ge (tgt := 47) hx hb dL_build_18 (by decide) (fun c9 => absurd c9 (nI_ge (b := 3) (by omega) (by omega))) (fun _ => ?_)
      refine lv_aload_n hx hb dL_build_21 rfl (lv_at hl 2 rfl) ?_
      refine lv_iconst (v := nI 2) hx hb dL_build_22 (by decide) ?_
      refine lv_iload_n hx hb dL_build_23 rfl (lv_at hl 0 rfl) ?_
      refine lv_iconst (v := nI 1) hx hb dL_build_24 (by decide) ?_
      refine lv_iload_n hx hb dL_build_25 rfl (lv_at hl 1 rfl) ?_
      refine lv_iconst (v := nI 3) hx hb dL_build_26 (by decide) ?_
      refine lv_iload_n hx hb dL_build_27 rfl (lv_at hl 0 rfl) ?_
      refine lv_imul hx hb dL_build_28 ?_
      refine lv_ishr hx hb dL_build_29 ?_
      refine lv_bipush (v := nI 7) hx hb dL_build_30 (by decide) ?_
      refine lv_iand hx hb dL_build_32 ?_
      rw [msk_eq ((atF L xs 0) >>> (((nI 3) * (nI k)) &&& 31)) 7 (by decide)]
      refine lv_iconst (v := nI 5) hx hb dL_build_33 (by decide) ?_
      refine lv_irem hx hb dL_build_34 (by decide) ?_
      rw [msk_rem ((atF L xs 0) >>> (((nI 3) * (nI k)) &&& 31)) 7 5 (by decide) (by decide) (by decide)]
      refine lv_iadd hx hb dL_build_35 ?_
      rw [nI_add 1 ((msk ((atF L xs 0) >>> (((nI 3) * (nI k)) &&& 31)) 7) % 5)]
      refine lv_iconst (v := nI 0) hx hb dL_build_36 (by decide) ?_
      refine gb_act (σ := σ1) (w := 2) hlt hT hSX hSN (by decide) (by omega) (by have := msk_le ((atF L xs 0) >>> (((nI 3) * (nI k)) &&& 31)) 7; omega) (by decide) (by omega) hK G hP hD hS ⟨Nat.le_of_ble_eq_true rfl, Nat.le_of_ble_eq_true rfl, by show 243 + 2 * k + 2 ≤ 489; omega, by show 2315 + 12 * k + 12 ≤ 3791; omega⟩ hl.1 (Nat.le_of_ble_eq_true rfl) dL_build_37 (fun v σ2 H locs hK hP hD hS => ?_)
      refine lv_pop hx hb dL_build_40 rfl ?_
      refine lv_iinc (v := nI (k + 1)) (lv' := [(3, .int (nI (k + 1))), (2, .int (atF L xs 0)), (1, .ref (a 209)), (0, .ref b)]) hx hb dL_build_41 hl (k := 0) rfl (nI_1 _) (by decide) rfl (fun ls hl => ?_)
      refine lv_goto (tgt := 16) hx hb dL_build_44 (by decide) ?_
      refine W.widen (k := 243 + 2 * (k + 1)) (n := 2315 + 12 * (k + 1)) (by omega) (by omega) ?_
      exact ih (k + 1) σ2 _ H locs ls (by omega) hl hK hP hD hS hX
  refine lv_aload_n hx hb dL_build_8 rfl (lv_at hl 1 rfl) ?_
  refine lv_iconst (v := nI 0) hx hb dL_build_9 (by decide) ?_
  refine c_callSi (nA := 2) (wc cA ad a (sbC cA (a 241) 0 (sb0 q0)) σN0) ([] : va_W) (mL_at l D cA ST hT.1 hB hL 0 (by decide)) G hPc hDc hSc (List.Perm.of_eq (List.append_nil _).symm) (g_goodSX q5_115 q5_116 q1_0 q5_117) (by decide +kernel) ⟨Nat.le_of_ble_eq_true rfl, Nat.le_of_ble_eq_true rfl, Nat.le_of_ble_eq_true rfl, Nat.le_of_ble_eq_true rfl⟩ rfl hl.1 [] rfl (Nat.le_of_ble_eq_true rfl) dL_build_10 (fun z9 _ H locs hz9 hP hD hS => ?_)
  rw [List.append_nil] at hP hD
  have hz9 : z9 = atF L xs 0 := hz9
  rw [hz9]
  refine lv_istore_n (lv' := [(2, .int (atF L xs 0)), (1, .ref (a 209)), (0, .ref b)]) hx hb dL_build_13 rfl hl (by decide) rfl (fun ls hl => ?_)
  refine lv_iconst (v := nI 0) hx hb dL_build_14 (by decide) ?_
  refine lv_istore_n (lv' := [(3, .int (nI 0)), (2, .int (atF L xs 0)), (1, .ref (a 209)), (0, .ref b)]) hx hb dL_build_15 rfl hl (by decide) rfl (fun ls hl => ?_)
  refine W.widen (k := 243 + 2 * 0) (n := 2315 + 12 * 0) (Nat.le_of_ble_eq_true rfl) (Nat.le_of_ble_eq_true rfl) ?_
  exact loopz 3 0 σN0 (A00, []) H locs ls rfl hl (kg_start fun _ _ _ => rfl) hP hD hS rfl
