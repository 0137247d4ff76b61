theorem dX6_stands_73 : decode cX6_stands 73 = .ok (.aload_n 0, 1) := by decide +kernel
theorem dX6_stands_74 : decode cX6_stands 74 = .ok (.iload 4, 2) := by decide +kernel
theorem dX6_stands_76 : decode cX6_stands 76 = .ok (.iload_n 1, 1) := by decide +kernel
theorem dX6_stands_77 : decode cX6_stands 77 = .ok (.iconst 0, 1) := by decide +kernel
theorem dX6_stands_78 : decode cX6_stands 78 = .ok (.invokevirtual 76, 3) := by decide +kernel
theorem dX6_stands_81 : decode cX6_stands 81 = .ok (.iload_n 2, 1) := by decide +kernel
theorem dX6_stands_82 : decode cX6_stands 82 = .ok (.iconst 1, 1) := by decide +kernel
theorem dX6_stands_83 : decode cX6_stands 83 = .ok (.iadd, 1) := by decide +kernel
theorem dX6_stands_84 : decode cX6_stands 84 = .ok (.aload_n 0, 1) := by decide +kernel
theorem dX6_stands_85 : decode cX6_stands 85 = .ok (.getfield 54, 3) := by decide +kernel
theorem dX6_stands_88 : decode cX6_stands 88 = .ok (.if_icmp .ge 42, 3) := by decide +kernel
theorem dX6_stands_91 : decode cX6_stands 91 = .ok (.aload_n 0, 1) := by decide +kernel
theorem dX6_stands_92 : decode cX6_stands 92 = .ok (.iload 4, 2) := by decide +kernel
theorem dX6_stands_94 : decode cX6_stands 94 = .ok (.iload_n 2, 1) := by decide +kernel
theorem dX6_stands_95 : decode cX6_stands 95 = .ok (.iconst 1, 1) := by decide +kernel
theorem dX6_stands_96 : decode cX6_stands 96 = .ok (.iadd, 1) := by decide +kernel
theorem dX6_stands_97 : decode cX6_stands 97 = .ok (.iload_n 3, 1) := by decide +kernel
theorem dX6_stands_98 : decode cX6_stands 98 = .ok (.invokestatic 81, 3) := by decide +kernel
theorem dX6_stands_101 : decode cX6_stands 101 = .ok (.aload_n 0, 1) := by decide +kernel
theorem dX6_stands_102 : decode cX6_stands 102 = .ok (.getfield 13, 3) := by decide +kernel
theorem dX6_stands_105 : decode cX6_stands 105 = .ok (.iload_n 2, 1) := by decide +kernel
theorem dX6_stands_106 : decode cX6_stands 106 = .ok (.iaload, 1) := by decide +kernel
theorem dX6_stands_107 : decode cX6_stands 107 = .ok (.invokevirtual 76, 3) := by decide +kernel
theorem dX6_stands_110 : decode cX6_stands 110 = .ok (.aload_n 0, 1) := by decide +kernel
theorem dX6_stands_111 : decode cX6_stands 111 = .ok (.iload_n 2, 1) := by decide +kernel
theorem dX6_stands_112 : decode cX6_stands 112 = .ok (.iconst 1, 1) := by decide +kernel
theorem dX6_stands_113 : decode cX6_stands 113 = .ok (.iadd, 1) := by decide +kernel
theorem dX6_stands_114 : decode cX6_stands 114 = .ok (.iload_n 3, 1) := by decide +kernel
theorem dX6_stands_115 : decode cX6_stands 115 = .ok (.invokestatic 81, 3) := by decide +kernel
theorem dX6_stands_118 : decode cX6_stands 118 = .ok (.iload 4, 2) := by decide +kernel
theorem dX6_stands_120 : decode cX6_stands 120 = .ok (.aload_n 0, 1) := by decide +kernel
theorem dX6_stands_121 : decode cX6_stands 121 = .ok (.getfield 9, 3) := by decide +kernel
theorem dX6_stands_124 : decode cX6_stands 124 = .ok (.iload_n 2, 1) := by decide +kernel
theorem dX6_stands_125 : decode cX6_stands 125 = .ok (.iaload, 1) := by decide +kernel
theorem dX6_stands_126 : decode cX6_stands 126 = .ok (.ineg, 1) := by decide +kernel
theorem dX6_stands_127 : decode cX6_stands 127 = .ok (.invokevirtual 76, 3) := by decide +kernel
theorem dX6_stands_130 : decode cX6_stands 130 = .ok (.iload_n 3, 1) := by decide +kernel
theorem dX6_stands_131 : decode cX6_stands 131 = .ok (.iconst 1, 1) := by decide +kernel
theorem dX6_stands_132 : decode cX6_stands 132 = .ok (.iadd, 1) := by decide +kernel
theorem dX6_stands_133 : decode cX6_stands 133 = .ok (.aload_n 0, 1) := by decide +kernel
theorem dX6_stands_134 : decode cX6_stands 134 = .ok (.getfield 50, 3) := by decide +kernel
theorem dX6_stands_137 : decode cX6_stands 137 = .ok (.if_icmp .ge 41, 3) := by decide +kernel
theorem dX6_stands_140 : decode cX6_stands 140 = .ok (.aload_n 0, 1) := by decide +kernel
theorem dX6_stands_141 : decode cX6_stands 141 = .ok (.iload 4, 2) := by decide +kernel
theorem dX6_stands_143 : decode cX6_stands 143 = .ok (.iload_n 2, 1) := by decide +kernel
theorem dX6_stands_144 : decode cX6_stands 144 = .ok (.iload_n 3, 1) := by decide +kernel
theorem dX6_stands_145 : decode cX6_stands 145 = .ok (.iconst 1, 1) := by decide +kernel
theorem dX6_stands_146 : decode cX6_stands 146 = .ok (.iadd, 1) := by decide +kernel
theorem dX6_stands_147 : decode cX6_stands 147 = .ok (.invokestatic 81, 3) := by decide +kernel
theorem dX6_stands_150 : decode cX6_stands 150 = .ok (.aload_n 0, 1) := by decide +kernel
theorem dX6_stands_151 : decode cX6_stands 151 = .ok (.getfield 19, 3) := by decide +kernel
theorem dX6_stands_154 : decode cX6_stands 154 = .ok (.iload_n 3, 1) := by decide +kernel
theorem dX6_stands_155 : decode cX6_stands 155 = .ok (.baload, 1) := by decide +kernel
theorem dX6_stands_156 : decode cX6_stands 156 = .ok (.ifCond .eq 12, 3) := by decide +kernel
theorem dX6_stands_159 : decode cX6_stands 159 = .ok (.aload_n 0, 1) := by decide +kernel
theorem dX6_stands_160 : decode cX6_stands 160 = .ok (.getfield 23, 3) := by decide +kernel
theorem dX6_stands_163 : decode cX6_stands 163 = .ok (.iload_n 3, 1) := by decide +kernel
theorem dX6_stands_164 : decode cX6_stands 164 = .ok (.iaload, 1) := by decide +kernel
theorem dX6_stands_165 : decode cX6_stands 165 = .ok (.goto 4, 3) := by decide +kernel
theorem dX6_stands_168 : decode cX6_stands 168 = .ok (.iconst 0, 1) := by decide +kernel
theorem dX6_stands_169 : decode cX6_stands 169 = .ok (.aload_n 0, 1) := by decide +kernel
theorem dX6_stands_170 : decode cX6_stands 170 = .ok (.getfield 16, 3) := by decide +kernel
theorem dX6_stands_173 : decode cX6_stands 173 = .ok (.iload_n 2, 1) := by decide +kernel
theorem dX6_stands_174 : decode cX6_stands 174 = .ok (.iaload, 1) := by decide +kernel
theorem dX6_stands_175 : decode cX6_stands 175 = .ok (.invokevirtual 85, 3) := by decide +kernel
theorem dX6_stands_178 : decode cX6_stands 178 = .ok (.iinc 3 1, 3) := by decide +kernel
theorem dX6_stands_181 : decode cX6_stands 181 = .ok (.goto (-132), 3) := by decide +kernel
theorem dX6_stands_184 : decode cX6_stands 184 = .ok (.iinc 2 1, 3) := by decide +kernel
theorem dX6_stands_187 : decode cX6_stands 187 = .ok (.goto (-148), 3) := by decide +kernel
theorem dX6_stands_190 : decode cX6_stands 190 = .ok (.iconst 0, 1) := by decide +kernel
theorem dX6_stands_191 : decode cX6_stands 191 = .ok (.istore_n 2, 1) := by decide +kernel
theorem dX6_stands_192 : decode cX6_stands 192 = .ok (.iload_n 2, 1) := by decide +kernel
theorem dX6_stands_193 : decode cX6_stands 193 = .ok (.bipush 33, 2) := by decide +kernel
theorem dX6_stands_195 : decode cX6_stands 195 = .ok (.if_icmp .ge 106, 3) := by decide +kernel
theorem dX6_stands_198 : decode cX6_stands 198 = .ok (.iconst 0, 1) := by decide +kernel
theorem dX6_stands_199 : decode cX6_stands 199 = .ok (.istore_n 3, 1) := by decide +kernel
theorem dX6_stands_200 : decode cX6_stands 200 = .ok (.iload_n 3, 1) := by decide +kernel
theorem dX6_stands_201 : decode cX6_stands 201 = .ok (.bipush 33, 2) := by decide +kernel
theorem dX6_stands_203 : decode cX6_stands 203 = .ok (.if_icmp .ge 92, 3) := by decide +kernel
theorem dX6_stands_206 : decode cX6_stands 206 = .ok (.aload_n 0, 1) := by decide +kernel
theorem dX6_stands_207 : decode cX6_stands 207 = .ok (.getfield 41, 3) := by decide +kernel
theorem dX6_stands_210 : decode cX6_stands 210 = .ok (.bipush 33, 2) := by decide +kernel
theorem dX6_stands_212 : decode cX6_stands 212 = .ok (.iload_n 3, 1) := by decide +kernel
theorem dX6_stands_213 : decode cX6_stands 213 = .ok (.imul, 1) := by decide +kernel
theorem dX6_stands_214 : decode cX6_stands 214 = .ok (.iload_n 2, 1) := by decide +kernel
theorem dX6_stands_215 : decode cX6_stands 215 = .ok (.iadd, 1) := by decide +kernel
theorem dX6_stands_216 : decode cX6_stands 216 = .ok (.iaload, 1) := by decide +kernel
theorem dX6_stands_217 : decode cX6_stands 217 = .ok (.ldc 89, 2) := by decide +kernel
theorem dX6_stands_219 : decode cX6_stands 219 = .ok (.if_icmp .lt 6, 3) := by decide +kernel
theorem dX6_stands_222 : decode cX6_stands 222 = .ok (.goto 67, 3) := by decide +kernel
theorem dX6_stands_225 : decode cX6_stands 225 = .ok (.iconst 0, 1) := by decide +kernel
theorem dX6_stands_226 : decode cX6_stands 226 = .ok (.istore 4, 2) := by decide +kernel
theorem dX6_stands_228 : decode cX6_stands 228 = .ok (.iload 4, 2) := by decide +kernel
theorem dX6_stands_230 : decode cX6_stands 230 = .ok (.bipush 33, 2) := by decide +kernel
theorem dX6_stands_232 : decode cX6_stands 232 = .ok (.if_icmp .ge 57, 3) := by decide +kernel
theorem dX6_stands_235 : decode cX6_stands 235 = .ok (.aload_n 0, 1) := by decide +kernel
theorem dX6_stands_236 : decode cX6_stands 236 = .ok (.getfield 41, 3) := by decide +kernel
theorem dX6_stands_239 : decode cX6_stands 239 = .ok (.bipush 33, 2) := by decide +kernel
theorem dX6_stands_241 : decode cX6_stands 241 = .ok (.iload_n 2, 1) := by decide +kernel
theorem dX6_stands_242 : decode cX6_stands 242 = .ok (.imul, 1) := by decide +kernel
theorem dX6_stands_243 : decode cX6_stands 243 = .ok (.iload 4, 2) := by decide +kernel
theorem dX6_stands_245 : decode cX6_stands 245 = .ok (.iadd, 1) := by decide +kernel
theorem dX6_stands_246 : decode cX6_stands 246 = .ok (.iaload, 1) := by decide +kernel
theorem dX6_stands_247 : decode cX6_stands 247 = .ok (.ldc 89, 2) := by decide +kernel
theorem dX6_stands_249 : decode cX6_stands 249 = .ok (.if_icmp .ge 34, 3) := by decide +kernel
theorem dX6_stands_252 : decode cX6_stands 252 = .ok (.aload_n 0, 1) := by decide +kernel
theorem dX6_stands_253 : decode cX6_stands 253 = .ok (.iload_n 3, 1) := by decide +kernel
theorem dX6_stands_254 : decode cX6_stands 254 = .ok (.iload 4, 2) := by decide +kernel
theorem dX6_stands_256 : decode cX6_stands 256 = .ok (.aload_n 0, 1) := by decide +kernel
theorem dX6_stands_257 : decode cX6_stands 257 = .ok (.getfield 41, 3) := by decide +kernel
theorem dX6_stands_260 : decode cX6_stands 260 = .ok (.bipush 33, 2) := by decide +kernel
theorem dX6_stands_262 : decode cX6_stands 262 = .ok (.iload_n 3, 1) := by decide +kernel
theorem dX6_stands_263 : decode cX6_stands 263 = .ok (.imul, 1) := by decide +kernel
theorem dX6_stands_264 : decode cX6_stands 264 = .ok (.iload_n 2, 1) := by decide +kernel
theorem dX6_stands_265 : decode cX6_stands 265 = .ok (.iadd, 1) := by decide +kernel
theorem dX6_stands_266 : decode cX6_stands 266 = .ok (.iaload, 1) := by decide +kernel
theorem dX6_stands_267 : decode cX6_stands 267 = .ok (.aload_n 0, 1) := by decide +kernel
theorem dX6_stands_268 : decode cX6_stands 268 = .ok (.getfield 41, 3) := by decide +kernel
theorem dX6_stands_271 : decode cX6_stands 271 = .ok (.bipush 33, 2) := by decide +kernel
theorem dX6_stands_273 : decode cX6_stands 273 = .ok (.iload_n 2, 1) := by decide +kernel
theorem dX6_stands_274 : decode cX6_stands 274 = .ok (.imul, 1) := by decide +kernel
theorem dX6_stands_275 : decode cX6_stands 275 = .ok (.iload 4, 2) := by decide +kernel
theorem dX6_stands_277 : decode cX6_stands 277 = .ok (.iadd, 1) := by decide +kernel
theorem dX6_stands_278 : decode cX6_stands 278 = .ok (.iaload, 1) := by decide +kernel
theorem dX6_stands_279 : decode cX6_stands 279 = .ok (.iadd, 1) := by decide +kernel
theorem dX6_stands_280 : decode cX6_stands 280 = .ok (.invokevirtual 76, 3) := by decide +kernel
theorem dX6_stands_283 : decode cX6_stands 283 = .ok (.iinc 4 1, 3) := by decide +kernel
theorem dX6_stands_286 : decode cX6_stands 286 = .ok (.goto (-58), 3) := by decide +kernel
theorem dX6_stands_289 : decode cX6_stands 289 = .ok (.iinc 3 1, 3) := by decide +kernel
theorem dX6_stands_292 : decode cX6_stands 292 = .ok (.goto (-92), 3) := by decide +kernel
theorem dX6_stands_295 : decode cX6_stands 295 = .ok (.iinc 2 1, 3) := by decide +kernel
theorem dX6_stands_298 : decode cX6_stands 298 = .ok (.goto (-106), 3) := by decide +kernel
theorem dX6_stands_301 : decode cX6_stands 301 = .ok (.iconst 0, 1) := by decide +kernel
theorem dX6_stands_302 : decode cX6_stands 302 = .ok (.istore_n 2, 1) := by decide +kernel
theorem dX6_stands_303 : decode cX6_stands 303 = .ok (.iload_n 2, 1) := by decide +kernel
theorem dX6_stands_304 : decode cX6_stands 304 = .ok (.sipush 1089, 3) := by decide +kernel
theorem dX6_stands_307 : decode cX6_stands 307 = .ok (.if_icmp .ge 21, 3) := by decide +kernel
theorem dX6_stands_310 : decode cX6_stands 310 = .ok (.aload_n 0, 1) := by decide +kernel
theorem dX6_stands_311 : decode cX6_stands 311 = .ok (.getfield 44, 3) := by decide +kernel
theorem dX6_stands_314 : decode cX6_stands 314 = .ok (.iload_n 2, 1) := by decide +kernel
theorem dX6_stands_315 : decode cX6_stands 315 = .ok (.aload_n 0, 1) := by decide +kernel
theorem dX6_stands_316 : decode cX6_stands 316 = .ok (.getfield 41, 3) := by decide +kernel
theorem dX6_stands_319 : decode cX6_stands 319 = .ok (.iload_n 2, 1) := by decide +kernel
theorem dX6_stands_320 : decode cX6_stands 320 = .ok (.iaload, 1) := by decide +kernel
theorem dX6_stands_321 : decode cX6_stands 321 = .ok (.iastore, 1) := by decide +kernel
theorem dX6_stands_322 : decode cX6_stands 322 = .ok (.iinc 2 1, 3) := by decide +kernel
theorem dX6_stands_325 : decode cX6_stands 325 = .ok (.goto (-22), 3) := by decide +kernel
theorem dX6_stands_328 : decode cX6_stands 328 = .ok (.iconst 0, 1) := by decide +kernel
theorem dX6_stands_329 : decode cX6_stands 329 = .ok (.istore_n 2, 1) := by decide +kernel
theorem dX6_stands_330 : decode cX6_stands 330 = .ok (.iload_n 2, 1) := by decide +kernel
theorem dX6_stands_331 : decode cX6_stands 331 = .ok (.bipush 33, 2) := by decide +kernel
theorem dX6_stands_333 : decode cX6_stands 333 = .ok (.if_icmp .ge 25, 3) := by decide +kernel
theorem dX6_stands_336 : decode cX6_stands 336 = .ok (.aload_n 0, 1) := by decide +kernel
theorem dX6_stands_337 : decode cX6_stands 337 = .ok (.getfield 41, 3) := by decide +kernel
theorem dX6_stands_340 : decode cX6_stands 340 = .ok (.bipush 33, 2) := by decide +kernel
theorem dX6_stands_342 : decode cX6_stands 342 = .ok (.iload_n 2, 1) := by decide +kernel
theorem dX6_stands_343 : decode cX6_stands 343 = .ok (.imul, 1) := by decide +kernel
theorem dX6_stands_344 : decode cX6_stands 344 = .ok (.iload_n 2, 1) := by decide +kernel
theorem dX6_stands_345 : decode cX6_stands 345 = .ok (.iadd, 1) := by decide +kernel
theorem dX6_stands_346 : decode cX6_stands 346 = .ok (.iaload, 1) := by decide +kernel
theorem dX6_stands_347 : decode cX6_stands 347 = .ok (.ifCond .ge 5, 3) := by decide +kernel
theorem dX6_stands_350 : decode cX6_stands 350 = .ok (.iconst 0, 1) := by decide +kernel
theorem dX6_stands_351 : decode cX6_stands 351 = .ok (.ireturn, 1) := by decide +kernel
theorem dX6_stands_352 : decode cX6_stands 352 = .ok (.iinc 2 1, 3) := by decide +kernel
theorem dX6_stands_355 : decode cX6_stands 355 = .ok (.goto (-25), 3) := by decide +kernel
theorem dX6_stands_358 : decode cX6_stands 358 = .ok (.iconst 1, 1) := by decide +kernel
theorem dX6_stands_359 : decode cX6_stands 359 = .ok (.ireturn, 1) := by decide +kernel
theorem dX6_adds_0 : decode cX6_adds 0 = .ok (.aload_n 0, 1) := by decide +kernel
theorem dX6_adds_1 : decode cX6_adds 1 = .ok (.getfield 41, 3) := by decide +kernel
theorem dX6_adds_4 : decode cX6_adds 4 = .ok (.bipush 33, 2) := by decide +kernel
theorem dX6_adds_6 : decode cX6_adds 6 = .ok (.iload_n 1, 1) := by decide +kernel
theorem dX6_adds_7 : decode cX6_adds 7 = .ok (.imul, 1) := by decide +kernel
theorem dX6_adds_8 : decode cX6_adds 8 = .ok (.iload_n 2, 1) := by decide +kernel
theorem dX6_adds_9 : decode cX6_adds 9 = .ok (.iadd, 1) := by decide +kernel
theorem dX6_adds_10 : decode cX6_adds 10 = .ok (.iaload, 1) := by decide +kernel
theorem dX6_adds_11 : decode cX6_adds 11 = .ok (.iload_n 3, 1) := by decide +kernel
theorem dX6_adds_12 : decode cX6_adds 12 = .ok (.if_icmp .gt 5, 3) := by decide +kernel
theorem dX6_adds_15 : decode cX6_adds 15 = .ok (.iconst 1, 1) := by decide +kernel
theorem dX6_adds_16 : decode cX6_adds 16 = .ok (.ireturn, 1) := by decide +kernel
theorem dX6_adds_17 : decode cX6_adds 17 = .ok (.aload_n 0, 1) := by decide +kernel
theorem dX6_adds_18 : decode cX6_adds 18 = .ok (.getfield 41, 3) := by decide +kernel
theorem dX6_adds_21 : decode cX6_adds 21 = .ok (.bipush 33, 2) := by decide +kernel
theorem dX6_adds_23 : decode cX6_adds 23 = .ok (.iload_n 2, 1) := by decide +kernel
theorem dX6_adds_24 : decode cX6_adds 24 = .ok (.imul, 1) := by decide +kernel
theorem dX6_adds_25 : decode cX6_adds 25 = .ok (.iload_n 1, 1) := by decide +kernel
theorem dX6_adds_26 : decode cX6_adds 26 = .ok (.iadd, 1) := by decide +kernel
theorem dX6_adds_27 : decode cX6_adds 27 = .ok (.iaload, 1) := by decide +kernel
theorem dX6_adds_28 : decode cX6_adds 28 = .ok (.iload_n 3, 1) := by decide +kernel
theorem dX6_adds_29 : decode cX6_adds 29 = .ok (.iadd, 1) := by decide +kernel
theorem dX6_adds_30 : decode cX6_adds 30 = .ok (.ifCond .ge 5, 3) := by decide +kernel
theorem dX6_adds_33 : decode cX6_adds 33 = .ok (.iconst 0, 1) := by decide +kernel
theorem dX6_adds_34 : decode cX6_adds 34 = .ok (.ireturn, 1) := by decide +kernel
theorem dX6_adds_35 : decode cX6_adds 35 = .ok (.iconst 0, 1) := by decide +kernel
theorem dX6_adds_36 : decode cX6_adds 36 = .ok (.istore 4, 2) := by decide +kernel
theorem dX6_adds_38 : decode cX6_adds 38 = .ok (.iload 4, 2) := by decide +kernel
theorem dX6_adds_40 : decode cX6_adds 40 = .ok (.bipush 33, 2) := by decide +kernel
theorem dX6_adds_42 : decode cX6_adds 42 = .ok (.if_icmp .ge 91, 3) := by decide +kernel
theorem dX6_adds_45 : decode cX6_adds 45 = .ok (.aload_n 0, 1) := by decide +kernel
theorem dX6_adds_46 : decode cX6_adds 46 = .ok (.getfield 41, 3) := by decide +kernel
theorem dX6_adds_49 : decode cX6_adds 49 = .ok (.bipush 33, 2) := by decide +kernel
theorem dX6_adds_51 : decode cX6_adds 51 = .ok (.iload 4, 2) := by decide +kernel
theorem dX6_adds_53 : decode cX6_adds 53 = .ok (.imul, 1) := by decide +kernel
theorem dX6_adds_54 : decode cX6_adds 54 = .ok (.iload_n 1, 1) := by decide +kernel
theorem dX6_adds_55 : decode cX6_adds 55 = .ok (.iadd, 1) := by decide +kernel
theorem dX6_adds_56 : decode cX6_adds 56 = .ok (.iaload, 1) := by decide +kernel
theorem dX6_adds_57 : decode cX6_adds 57 = .ok (.istore 5, 2) := by decide +kernel
theorem dX6_adds_59 : decode cX6_adds 59 = .ok (.iload 5, 2) := by decide +kernel
theorem dX6_adds_61 : decode cX6_adds 61 = .ok (.ldc 89, 2) := by decide +kernel
theorem dX6_adds_63 : decode cX6_adds 63 = .ok (.if_icmp .lt 6, 3) := by decide +kernel
theorem dX6_adds_66 : decode cX6_adds 66 = .ok (.goto 61, 3) := by decide +kernel
theorem dX6_adds_69 : decode cX6_adds 69 = .ok (.iconst 0, 1) := by decide +kernel
theorem dX6_adds_70 : decode cX6_adds 70 = .ok (.istore 6, 2) := by decide +kernel
theorem dX6_adds_72 : decode cX6_adds 72 = .ok (.iload 6, 2) := by decide +kernel
theorem dX6_adds_74 : decode cX6_adds 74 = .ok (.bipush 33, 2) := by decide +kernel
theorem dX6_adds_76 : decode cX6_adds 76 = .ok (.if_icmp .ge 51, 3) := by decide +kernel
theorem dX6_adds_79 : decode cX6_adds 79 = .ok (.aload_n 0, 1) := by decide +kernel
theorem dX6_adds_80 : decode cX6_adds 80 = .ok (.getfield 41, 3) := by decide +kernel
theorem dX6_adds_83 : decode cX6_adds 83 = .ok (.bipush 33, 2) := by decide +kernel
theorem dX6_adds_85 : decode cX6_adds 85 = .ok (.iload_n 2, 1) := by decide +kernel
theorem dX6_adds_86 : decode cX6_adds 86 = .ok (.imul, 1) := by decide +kernel
theorem dX6_adds_87 : decode cX6_adds 87 = .ok (.iload 6, 2) := by decide +kernel
theorem dX6_adds_89 : decode cX6_adds 89 = .ok (.iadd, 1) := by decide +kernel
theorem dX6_adds_90 : decode cX6_adds 90 = .ok (.iaload, 1) := by decide +kernel
theorem dX6_adds_91 : decode cX6_adds 91 = .ok (.ldc 89, 2) := by decide +kernel
theorem dX6_adds_93 : decode cX6_adds 93 = .ok (.if_icmp .ge 28, 3) := by decide +kernel
theorem dX6_adds_96 : decode cX6_adds 96 = .ok (.aload_n 0, 1) := by decide +kernel
theorem dX6_adds_97 : decode cX6_adds 97 = .ok (.iload 4, 2) := by decide +kernel
theorem dX6_adds_99 : decode cX6_adds 99 = .ok (.iload 6, 2) := by decide +kernel
theorem dX6_adds_101 : decode cX6_adds 101 = .ok (.iload 5, 2) := by decide +kernel
theorem dX6_adds_103 : decode cX6_adds 103 = .ok (.iload_n 3, 1) := by decide +kernel
theorem dX6_adds_104 : decode cX6_adds 104 = .ok (.iadd, 1) := by decide +kernel
theorem dX6_adds_105 : decode cX6_adds 105 = .ok (.aload_n 0, 1) := by decide +kernel
theorem dX6_adds_106 : decode cX6_adds 106 = .ok (.getfield 41, 3) := by decide +kernel
theorem dX6_adds_109 : decode cX6_adds 109 = .ok (.bipush 33, 2) := by decide +kernel
theorem dX6_adds_111 : decode cX6_adds 111 = .ok (.iload_n 2, 1) := by decide +kernel
theorem dX6_adds_112 : decode cX6_adds 112 = .ok (.imul, 1) := by decide +kernel
theorem dX6_adds_113 : decode cX6_adds 113 = .ok (.iload 6, 2) := by decide +kernel
theorem dX6_adds_115 : decode cX6_adds 115 = .ok (.iadd, 1) := by decide +kernel
theorem dX6_adds_116 : decode cX6_adds 116 = .ok (.iaload, 1) := by decide +kernel
theorem dX6_adds_117 : decode cX6_adds 117 = .ok (.iadd, 1) := by decide +kernel
theorem dX6_adds_118 : decode cX6_adds 118 = .ok (.invokevirtual 76, 3) := by decide +kernel
theorem dX6_adds_121 : decode cX6_adds 121 = .ok (.iinc 6 1, 3) := by decide +kernel
theorem dX6_adds_124 : decode cX6_adds 124 = .ok (.goto (-52), 3) := by decide +kernel
theorem dX6_adds_127 : decode cX6_adds 127 = .ok (.iinc 4 1, 3) := by decide +kernel
theorem dX6_adds_130 : decode cX6_adds 130 = .ok (.goto (-92), 3) := by decide +kernel
theorem dX6_adds_133 : decode cX6_adds 133 = .ok (.iconst 1, 1) := by decide +kernel
theorem dX6_adds_134 : decode cX6_adds 134 = .ok (.ireturn, 1) := by decide +kernel
theorem dX6_addsWithin_0 : decode cX6_addsWithin 0 = .ok (.aload_n 0, 1) := by decide +kernel
theorem dX6_addsWithin_1 : decode cX6_addsWithin 1 = .ok (.iload_n 1, 1) := by decide +kernel
theorem dX6_addsWithin_2 : decode cX6_addsWithin 2 = .ok (.iload_n 2, 1) := by decide +kernel
theorem dX6_addsWithin_3 : decode cX6_addsWithin 3 = .ok (.iload_n 3, 1) := by decide +kernel
theorem dX6_addsWithin_4 : decode cX6_addsWithin 4 = .ok (.iload 4, 2) := by decide +kernel
theorem dX6_addsWithin_6 : decode cX6_addsWithin 6 = .ok (.iadd, 1) := by decide +kernel
theorem dX6_addsWithin_7 : decode cX6_addsWithin 7 = .ok (.invokevirtual 90, 3) := by decide +kernel
theorem dX6_addsWithin_10 : decode cX6_addsWithin 10 = .ok (.ifCond .eq 20, 3) := by decide +kernel
theorem dX6_addsWithin_13 : decode cX6_addsWithin 13 = .ok (.aload_n 0, 1) := by decide +kernel
theorem dX6_addsWithin_14 : decode cX6_addsWithin 14 = .ok (.iload_n 2, 1) := by decide +kernel
theorem dX6_addsWithin_15 : decode cX6_addsWithin 15 = .ok (.iload_n 1, 1) := by decide +kernel
theorem dX6_addsWithin_16 : decode cX6_addsWithin 16 = .ok (.iload 4, 2) := by decide +kernel
theorem dX6_addsWithin_18 : decode cX6_addsWithin 18 = .ok (.iload_n 3, 1) := by decide +kernel
theorem dX6_addsWithin_19 : decode cX6_addsWithin 19 = .ok (.isub, 1) := by decide +kernel
theorem dX6_addsWithin_20 : decode cX6_addsWithin 20 = .ok (.invokevirtual 90, 3) := by decide +kernel
theorem dX6_addsWithin_23 : decode cX6_addsWithin 23 = .ok (.ifCond .eq 7, 3) := by decide +kernel
theorem dX6_addsWithin_26 : decode cX6_addsWithin 26 = .ok (.iconst 1, 1) := by decide +kernel
theorem dX6_addsWithin_27 : decode cX6_addsWithin 27 = .ok (.goto 4, 3) := by decide +kernel
theorem dX6_addsWithin_30 : decode cX6_addsWithin 30 = .ok (.iconst 0, 1) := by decide +kernel
theorem dX6_addsWithin_31 : decode cX6_addsWithin 31 = .ok (.ireturn, 1) := by decide +kernel
theorem dX6_sees_0 : decode cX6_sees 0 = .ok (.bipush 32, 2) := by decide +kernel
theorem dX6_sees_2 : decode cX6_sees 2 = .ok (.istore_n 2, 1) := by decide +kernel
theorem dX6_sees_3 : decode cX6_sees 3 = .ok (.aload_n 0, 1) := by decide +kernel
theorem dX6_sees_4 : decode cX6_sees 4 = .ok (.getfield 29, 3) := by decide +kernel
theorem dX6_sees_7 : decode cX6_sees 7 = .ok (.iload_n 1, 1) := by decide +kernel
theorem dX6_sees_8 : decode cX6_sees 8 = .ok (.iaload, 1) := by decide +kernel
theorem dX6_sees_9 : decode cX6_sees 9 = .ok (.bipush 100, 2) := by decide +kernel
theorem dX6_sees_11 : decode cX6_sees 11 = .ok (.idiv, 1) := by decide +kernel
theorem dX6_sees_12 : decode cX6_sees 12 = .ok (.aload_n 0, 1) := by decide +kernel
theorem dX6_sees_13 : decode cX6_sees 13 = .ok (.getfield 29, 3) := by decide +kernel
theorem dX6_sees_16 : decode cX6_sees 16 = .ok (.iload_n 1, 1) := by decide +kernel
theorem dX6_sees_17 : decode cX6_sees 17 = .ok (.iaload, 1) := by decide +kernel
theorem dX6_sees_18 : decode cX6_sees 18 = .ok (.bipush 10, 2) := by decide +kernel
theorem dX6_sees_20 : decode cX6_sees 20 = .ok (.idiv, 1) := by decide +kernel
theorem dX6_sees_21 : decode cX6_sees 21 = .ok (.bipush 10, 2) := by decide +kernel
theorem dX6_sees_23 : decode cX6_sees 23 = .ok (.irem, 1) := by decide +kernel
theorem dX6_sees_24 : decode cX6_sees 24 = .ok (.invokestatic 81, 3) := by decide +kernel
theorem dX6_sees_27 : decode cX6_sees 27 = .ok (.istore_n 3, 1) := by decide +kernel
theorem dX6_sees_28 : decode cX6_sees 28 = .ok (.aload_n 0, 1) := by decide +kernel
theorem dX6_sees_29 : decode cX6_sees 29 = .ok (.getfield 29, 3) := by decide +kernel
theorem dX6_sees_32 : decode cX6_sees 32 = .ok (.iload_n 1, 1) := by decide +kernel
theorem dX6_sees_33 : decode cX6_sees 33 = .ok (.iaload, 1) := by decide +kernel
theorem dX6_sees_34 : decode cX6_sees 34 = .ok (.bipush 10, 2) := by decide +kernel
theorem dX6_sees_36 : decode cX6_sees 36 = .ok (.irem, 1) := by decide +kernel
theorem dX6_sees_37 : decode cX6_sees 37 = .ok (.tableswitch 73 0 2 #[27, 46, 60], 27) := by decide +kernel
theorem dX6_sees_64 : decode cX6_sees 64 = .ok (.aload_n 0, 1) := by decide +kernel
theorem dX6_sees_65 : decode cX6_sees 65 = .ok (.iload_n 2, 1) := by decide +kernel
theorem dX6_sees_66 : decode cX6_sees 66 = .ok (.iload_n 3, 1) := by decide +kernel
theorem dX6_sees_67 : decode cX6_sees 67 = .ok (.aload_n 0, 1) := by decide +kernel
theorem dX6_sees_68 : decode cX6_sees 68 = .ok (.getfield 32, 3) := by decide +kernel
theorem dX6_sees_71 : decode cX6_sees 71 = .ok (.iload_n 1, 1) := by decide +kernel
theorem dX6_sees_72 : decode cX6_sees 72 = .ok (.iaload, 1) := by decide +kernel
theorem dX6_sees_73 : decode cX6_sees 73 = .ok (.aload_n 0, 1) := by decide +kernel
theorem dX6_sees_74 : decode cX6_sees 74 = .ok (.getfield 35, 3) := by decide +kernel
theorem dX6_sees_77 : decode cX6_sees 77 = .ok (.iload_n 1, 1) := by decide +kernel
theorem dX6_sees_78 : decode cX6_sees 78 = .ok (.iaload, 1) := by decide +kernel
theorem dX6_sees_79 : decode cX6_sees 79 = .ok (.invokevirtual 93, 3) := by decide +kernel
theorem dX6_sees_82 : decode cX6_sees 82 = .ok (.ireturn, 1) := by decide +kernel
theorem dX6_sees_83 : decode cX6_sees 83 = .ok (.aload_n 0, 1) := by decide +kernel
theorem dX6_sees_84 : decode cX6_sees 84 = .ok (.iload_n 3, 1) := by decide +kernel
theorem dX6_sees_85 : decode cX6_sees 85 = .ok (.iload_n 2, 1) := by decide +kernel
theorem dX6_sees_86 : decode cX6_sees 86 = .ok (.aload_n 0, 1) := by decide +kernel
theorem dX6_sees_87 : decode cX6_sees 87 = .ok (.getfield 32, 3) := by decide +kernel
theorem dX6_sees_90 : decode cX6_sees 90 = .ok (.iload_n 1, 1) := by decide +kernel
theorem dX6_sees_91 : decode cX6_sees 91 = .ok (.iaload, 1) := by decide +kernel
theorem dX6_sees_92 : decode cX6_sees 92 = .ok (.ineg, 1) := by decide +kernel
theorem dX6_sees_93 : decode cX6_sees 93 = .ok (.invokevirtual 90, 3) := by decide +kernel
theorem dX6_sees_96 : decode cX6_sees 96 = .ok (.ireturn, 1) := by decide +kernel
theorem dX6_sees_97 : decode cX6_sees 97 = .ok (.aload_n 0, 1) := by decide +kernel
theorem dX6_sees_98 : decode cX6_sees 98 = .ok (.iload_n 2, 1) := by decide +kernel
theorem dX6_sees_99 : decode cX6_sees 99 = .ok (.iload_n 3, 1) := by decide +kernel
theorem dX6_sees_100 : decode cX6_sees 100 = .ok (.aload_n 0, 1) := by decide +kernel
theorem dX6_sees_101 : decode cX6_sees 101 = .ok (.getfield 32, 3) := by decide +kernel
theorem dX6_sees_104 : decode cX6_sees 104 = .ok (.iload_n 1, 1) := by decide +kernel
theorem dX6_sees_105 : decode cX6_sees 105 = .ok (.iaload, 1) := by decide +kernel
theorem dX6_sees_106 : decode cX6_sees 106 = .ok (.invokevirtual 90, 3) := by decide +kernel
theorem dX6_sees_109 : decode cX6_sees 109 = .ok (.ireturn, 1) := by decide +kernel
theorem dX6_sees_110 : decode cX6_sees 110 = .ok (.aload_n 0, 1) := by decide +kernel
theorem dX6_sees_111 : decode cX6_sees 111 = .ok (.iload_n 3, 1) := by decide +kernel
theorem dX6_sees_112 : decode cX6_sees 112 = .ok (.iload_n 3, 1) := by decide +kernel
theorem dX6_sees_113 : decode cX6_sees 113 = .ok (.iconst 1, 1) := by decide +kernel
theorem dX6_sees_114 : decode cX6_sees 114 = .ok (.iadd, 1) := by decide +kernel
theorem dX6_sees_115 : decode cX6_sees 115 = .ok (.aload_n 0, 1) := by decide +kernel
theorem dX6_sees_116 : decode cX6_sees 116 = .ok (.getfield 32, 3) := by decide +kernel
theorem dX6_sees_119 : decode cX6_sees 119 = .ok (.iload_n 1, 1) := by decide +kernel
theorem dX6_sees_120 : decode cX6_sees 120 = .ok (.iaload, 1) := by decide +kernel
theorem dX6_sees_121 : decode cX6_sees 121 = .ok (.aload_n 0, 1) := by decide +kernel
theorem dX6_sees_122 : decode cX6_sees 122 = .ok (.getfield 35, 3) := by decide +kernel
theorem dX6_sees_125 : decode cX6_sees 125 = .ok (.iload_n 1, 1) := by decide +kernel
theorem dX6_sees_126 : decode cX6_sees 126 = .ok (.iaload, 1) := by decide +kernel
theorem dX6_sees_127 : decode cX6_sees 127 = .ok (.invokevirtual 93, 3) := by decide +kernel
theorem dX6_sees_130 : decode cX6_sees 130 = .ok (.ireturn, 1) := by decide +kernel
theorem dX6_agrees_0 : decode cX6_agrees 0 = .ok (.iconst 0, 1) := by decide +kernel
theorem dX6_agrees_1 : decode cX6_agrees 1 = .ok (.istore_n 2, 1) := by decide +kernel
theorem dX6_agrees_2 : decode cX6_agrees 2 = .ok (.iload_n 2, 1) := by decide +kernel
theorem dX6_agrees_3 : decode cX6_agrees 3 = .ok (.aload_n 0, 1) := by decide +kernel
theorem dX6_agrees_4 : decode cX6_agrees 4 = .ok (.getfield 69, 3) := by decide +kernel
theorem dX6_agrees_7 : decode cX6_agrees 7 = .ok (.if_icmp .ge 31, 3) := by decide +kernel
theorem dX6_agrees_10 : decode cX6_agrees 10 = .ok (.iload_n 1, 1) := by decide +kernel
theorem dX6_agrees_11 : decode cX6_agrees 11 = .ok (.iload_n 2, 1) := by decide +kernel
theorem dX6_agrees_12 : decode cX6_agrees 12 = .ok (.ishr, 1) := by decide +kernel
theorem dX6_agrees_13 : decode cX6_agrees 13 = .ok (.iconst 1, 1) := by decide +kernel
theorem dX6_agrees_14 : decode cX6_agrees 14 = .ok (.iand, 1) := by decide +kernel
theorem dX6_agrees_15 : decode cX6_agrees 15 = .ok (.iconst 1, 1) := by decide +kernel
theorem dX6_agrees_16 : decode cX6_agrees 16 = .ok (.if_icmp .ne 16, 3) := by decide +kernel
theorem dX6_agrees_19 : decode cX6_agrees 19 = .ok (.aload_n 0, 1) := by decide +kernel
theorem dX6_agrees_20 : decode cX6_agrees 20 = .ok (.getfield 47, 3) := by decide +kernel
theorem dX6_agrees_23 : decode cX6_agrees 23 = .ok (.iload_n 2, 1) := by decide +kernel
theorem dX6_agrees_24 : decode cX6_agrees 24 = .ok (.iaload, 1) := by decide +kernel
theorem dX6_agrees_25 : decode cX6_agrees 25 = .ok (.iload_n 1, 1) := by decide +kernel
theorem dX6_agrees_26 : decode cX6_agrees 26 = .ok (.iand, 1) := by decide +kernel
theorem dX6_agrees_27 : decode cX6_agrees 27 = .ok (.ifCond .eq 5, 3) := by decide +kernel
theorem dX6_agrees_30 : decode cX6_agrees 30 = .ok (.iconst 0, 1) := by decide +kernel
theorem dX6_agrees_31 : decode cX6_agrees 31 = .ok (.ireturn, 1) := by decide +kernel
theorem dX6_agrees_32 : decode cX6_agrees 32 = .ok (.iinc 2 1, 3) := by decide +kernel
theorem dX6_agrees_35 : decode cX6_agrees 35 = .ok (.goto (-33), 3) := by decide +kernel
theorem dX6_agrees_38 : decode cX6_agrees 38 = .ok (.iconst 0, 1) := by decide +kernel
theorem dX6_agrees_39 : decode cX6_agrees 39 = .ok (.istore_n 2, 1) := by decide +kernel
theorem dX6_agrees_40 : decode cX6_agrees 40 = .ok (.iload_n 2, 1) := by decide +kernel
theorem dX6_agrees_41 : decode cX6_agrees 41 = .ok (.sipush 1089, 3) := by decide +kernel
theorem dX6_agrees_44 : decode cX6_agrees 44 = .ok (.if_icmp .ge 21, 3) := by decide +kernel
theorem dX6_agrees_47 : decode cX6_agrees 47 = .ok (.aload_n 0, 1) := by decide +kernel
theorem dX6_agrees_48 : decode cX6_agrees 48 = .ok (.getfield 41, 3) := by decide +kernel
theorem dX6_agrees_51 : decode cX6_agrees 51 = .ok (.iload_n 2, 1) := by decide +kernel
theorem dX6_agrees_52 : decode cX6_agrees 52 = .ok (.aload_n 0, 1) := by decide +kernel
theorem dX6_agrees_53 : decode cX6_agrees 53 = .ok (.getfield 44, 3) := by decide +kernel
theorem dX6_agrees_56 : decode cX6_agrees 56 = .ok (.iload_n 2, 1) := by decide +kernel
theorem dX6_agrees_57 : decode cX6_agrees 57 = .ok (.iaload, 1) := by decide +kernel
theorem dX6_agrees_58 : decode cX6_agrees 58 = .ok (.iastore, 1) := by decide +kernel
theorem dX6_agrees_59 : decode cX6_agrees 59 = .ok (.iinc 2 1, 3) := by decide +kernel
theorem dX6_agrees_62 : decode cX6_agrees 62 = .ok (.goto (-22), 3) := by decide +kernel
theorem dX6_agrees_65 : decode cX6_agrees 65 = .ok (.iconst 0, 1) := by decide +kernel
theorem dX6_agrees_66 : decode cX6_agrees 66 = .ok (.istore_n 2, 1) := by decide +kernel
theorem dX6_agrees_67 : decode cX6_agrees 67 = .ok (.iload_n 2, 1) := by decide +kernel
theorem dX6_agrees_68 : decode cX6_agrees 68 = .ok (.aload_n 0, 1) := by decide +kernel
theorem dX6_agrees_69 : decode cX6_agrees 69 = .ok (.getfield 69, 3) := by decide +kernel
theorem dX6_agrees_72 : decode cX6_agrees 72 = .ok (.if_icmp .ge 28, 3) := by decide +kernel
theorem dX6_agrees_75 : decode cX6_agrees 75 = .ok (.iload_n 1, 1) := by decide +kernel
theorem dX6_agrees_76 : decode cX6_agrees 76 = .ok (.iload_n 2, 1) := by decide +kernel
theorem dX6_agrees_77 : decode cX6_agrees 77 = .ok (.ishr, 1) := by decide +kernel
theorem dX6_agrees_78 : decode cX6_agrees 78 = .ok (.iconst 1, 1) := by decide +kernel
theorem dX6_agrees_79 : decode cX6_agrees 79 = .ok (.iand, 1) := by decide +kernel
theorem dX6_agrees_80 : decode cX6_agrees 80 = .ok (.iconst 1, 1) := by decide +kernel
theorem dX6_agrees_81 : decode cX6_agrees 81 = .ok (.if_icmp .ne 13, 3) := by decide +kernel
theorem dX6_agrees_84 : decode cX6_agrees 84 = .ok (.aload_n 0, 1) := by decide +kernel
theorem dX6_agrees_85 : decode cX6_agrees 85 = .ok (.iload_n 2, 1) := by decide +kernel
theorem dX6_agrees_86 : decode cX6_agrees 86 = .ok (.invokevirtual 97, 3) := by decide +kernel
theorem dX6_agrees_89 : decode cX6_agrees 89 = .ok (.ifCond .ne 5, 3) := by decide +kernel
theorem dX6_agrees_92 : decode cX6_agrees 92 = .ok (.iconst 0, 1) := by decide +kernel
theorem dX6_agrees_93 : decode cX6_agrees 93 = .ok (.ireturn, 1) := by decide +kernel
theorem dX6_agrees_94 : decode cX6_agrees 94 = .ok (.iinc 2 1, 3) := by decide +kernel
theorem dX6_agrees_97 : decode cX6_agrees 97 = .ok (.goto (-30), 3) := by decide +kernel
theorem dX6_agrees_100 : decode cX6_agrees 100 = .ok (.iconst 1, 1) := by decide +kernel
theorem dX6_agrees_101 : decode cX6_agrees 101 = .ok (.ireturn, 1) := by decide +kernel
theorem dX6_pairs_0 : decode cX6_pairs 0 = .ok (.iconst 0, 1) := by decide +kernel
theorem dX6_pairs_1 : decode cX6_pairs 1 = .ok (.istore_n 2, 1) := by decide +kernel
theorem dX6_pairs_2 : decode cX6_pairs 2 = .ok (.iload_n 2, 1) := by decide +kernel
theorem dX6_pairs_3 : decode cX6_pairs 3 = .ok (.bipush 10, 2) := by decide +kernel
theorem dX6_pairs_5 : decode cX6_pairs 5 = .ok (.if_icmp .ge 16, 3) := by decide +kernel
theorem dX6_pairs_8 : decode cX6_pairs 8 = .ok (.aload_n 0, 1) := by decide +kernel
theorem dX6_pairs_9 : decode cX6_pairs 9 = .ok (.getfield 47, 3) := by decide +kernel
theorem dX6_pairs_12 : decode cX6_pairs 12 = .ok (.iload_n 2, 1) := by decide +kernel
theorem dX6_pairs_13 : decode cX6_pairs 13 = .ok (.iconst 0, 1) := by decide +kernel
theorem dX6_pairs_14 : decode cX6_pairs 14 = .ok (.iastore, 1) := by decide +kernel
theorem dX6_pairs_15 : decode cX6_pairs 15 = .ok (.iinc 2 1, 3) := by decide +kernel
theorem dX6_pairs_18 : decode cX6_pairs 18 = .ok (.goto (-16), 3) := by decide +kernel
theorem dX6_pairs_21 : decode cX6_pairs 21 = .ok (.iconst 0, 1) := by decide +kernel
theorem dX6_pairs_22 : decode cX6_pairs 22 = .ok (.istore_n 2, 1) := by decide +kernel
theorem dX6_pairs_23 : decode cX6_pairs 23 = .ok (.iload_n 2, 1) := by decide +kernel
theorem dX6_pairs_24 : decode cX6_pairs 24 = .ok (.aload_n 0, 1) := by decide +kernel
theorem dX6_pairs_25 : decode cX6_pairs 25 = .ok (.getfield 69, 3) := by decide +kernel
theorem dX6_pairs_28 : decode cX6_pairs 28 = .ok (.if_icmp .ge 79, 3) := by decide +kernel
theorem dX6_pairs_31 : decode cX6_pairs 31 = .ok (.iload_n 2, 1) := by decide +kernel
theorem dX6_pairs_32 : decode cX6_pairs 32 = .ok (.istore_n 3, 1) := by decide +kernel
theorem dX6_pairs_33 : decode cX6_pairs 33 = .ok (.iload_n 3, 1) := by decide +kernel
theorem dX6_pairs_34 : decode cX6_pairs 34 = .ok (.aload_n 0, 1) := by decide +kernel
theorem dX6_pairs_35 : decode cX6_pairs 35 = .ok (.getfield 69, 3) := by decide +kernel
theorem dX6_pairs_38 : decode cX6_pairs 38 = .ok (.if_icmp .ge 63, 3) := by decide +kernel
theorem dX6_pairs_41 : decode cX6_pairs 41 = .ok (.iconst 1, 1) := by decide +kernel
theorem dX6_pairs_42 : decode cX6_pairs 42 = .ok (.iload_n 2, 1) := by decide +kernel
theorem dX6_pairs_43 : decode cX6_pairs 43 = .ok (.ishl, 1) := by decide +kernel
theorem dX6_pairs_44 : decode cX6_pairs 44 = .ok (.iconst 1, 1) := by decide +kernel
theorem dX6_pairs_45 : decode cX6_pairs 45 = .ok (.iload_n 3, 1) := by decide +kernel
theorem dX6_pairs_46 : decode cX6_pairs 46 = .ok (.ishl, 1) := by decide +kernel
theorem dX6_pairs_47 : decode cX6_pairs 47 = .ok (.ior, 1) := by decide +kernel
theorem dX6_pairs_48 : decode cX6_pairs 48 = .ok (.istore 4, 2) := by decide +kernel
theorem dX6_pairs_50 : decode cX6_pairs 50 = .ok (.iload_n 1, 1) := by decide +kernel
theorem dX6_pairs_51 : decode cX6_pairs 51 = .ok (.iload 4, 2) := by decide +kernel
theorem dX6_pairs_53 : decode cX6_pairs 53 = .ok (.iand, 1) := by decide +kernel
theorem dX6_pairs_54 : decode cX6_pairs 54 = .ok (.iload 4, 2) := by decide +kernel
theorem dX6_pairs_56 : decode cX6_pairs 56 = .ok (.if_icmp .ne 39, 3) := by decide +kernel
theorem dX6_pairs_59 : decode cX6_pairs 59 = .ok (.aload_n 0, 1) := by decide +kernel
theorem dX6_pairs_60 : decode cX6_pairs 60 = .ok (.iload 4, 2) := by decide +kernel
theorem dX6_pairs_62 : decode cX6_pairs 62 = .ok (.invokevirtual 100, 3) := by decide +kernel
theorem dX6_pairs_65 : decode cX6_pairs 65 = .ok (.ifCond .eq 6, 3) := by decide +kernel
theorem dX6_pairs_68 : decode cX6_pairs 68 = .ok (.goto 27, 3) := by decide +kernel
theorem dX6_pairs_71 : decode cX6_pairs 71 = .ok (.aload_n 0, 1) := by decide +kernel
theorem dX6_pairs_72 : decode cX6_pairs 72 = .ok (.getfield 47, 3) := by decide +kernel
theorem dX6_pairs_75 : decode cX6_pairs 75 = .ok (.iload_n 2, 1) := by decide +kernel
theorem dX6_pairs_76 : decode cX6_pairs 76 = .ok (.dup2, 1) := by decide +kernel
theorem dX6_pairs_77 : decode cX6_pairs 77 = .ok (.iaload, 1) := by decide +kernel
theorem dX6_pairs_78 : decode cX6_pairs 78 = .ok (.iconst 1, 1) := by decide +kernel
theorem dX6_pairs_79 : decode cX6_pairs 79 = .ok (.iload_n 3, 1) := by decide +kernel
theorem dX6_pairs_80 : decode cX6_pairs 80 = .ok (.ishl, 1) := by decide +kernel
theorem dX6_pairs_81 : decode cX6_pairs 81 = .ok (.ior, 1) := by decide +kernel
theorem dX6_pairs_82 : decode cX6_pairs 82 = .ok (.iastore, 1) := by decide +kernel
theorem dX6_pairs_83 : decode cX6_pairs 83 = .ok (.aload_n 0, 1) := by decide +kernel
theorem dX6_pairs_84 : decode cX6_pairs 84 = .ok (.getfield 47, 3) := by decide +kernel
theorem dX6_pairs_87 : decode cX6_pairs 87 = .ok (.iload_n 3, 1) := by decide +kernel
theorem dX6_pairs_88 : decode cX6_pairs 88 = .ok (.dup2, 1) := by decide +kernel
theorem dX6_pairs_89 : decode cX6_pairs 89 = .ok (.iaload, 1) := by decide +kernel
theorem dX6_pairs_90 : decode cX6_pairs 90 = .ok (.iconst 1, 1) := by decide +kernel
theorem dX6_pairs_91 : decode cX6_pairs 91 = .ok (.iload_n 2, 1) := by decide +kernel
theorem dX6_pairs_92 : decode cX6_pairs 92 = .ok (.ishl, 1) := by decide +kernel
theorem dX6_pairs_93 : decode cX6_pairs 93 = .ok (.ior, 1) := by decide +kernel
theorem dX6_pairs_94 : decode cX6_pairs 94 = .ok (.iastore, 1) := by decide +kernel
theorem dX6_pairs_95 : decode cX6_pairs 95 = .ok (.iinc 3 1, 3) := by decide +kernel
theorem dX6_pairs_98 : decode cX6_pairs 98 = .ok (.goto (-65), 3) := by decide +kernel
theorem dX6_pairs_101 : decode cX6_pairs 101 = .ok (.iinc 2 1, 3) := by decide +kernel
theorem dX6_pairs_104 : decode cX6_pairs 104 = .ok (.goto (-81), 3) := by decide +kernel
theorem dX6_pairs_107 : decode cX6_pairs 107 = .ok (.return_, 1) := by decide +kernel
theorem dX6_bits_0 : decode cX6_bits 0 = .ok (.iconst 0, 1) := by decide +kernel
theorem dX6_bits_1 : decode cX6_bits 1 = .ok (.istore_n 1, 1) := by decide +kernel
theorem dX6_bits_2 : decode cX6_bits 2 = .ok (.iconst 0, 1) := by decide +kernel
theorem dX6_bits_3 : decode cX6_bits 3 = .ok (.istore_n 2, 1) := by decide +kernel
theorem dX6_bits_4 : decode cX6_bits 4 = .ok (.iload_n 2, 1) := by decide +kernel
theorem dX6_bits_5 : decode cX6_bits 5 = .ok (.bipush 10, 2) := by decide +kernel
theorem dX6_bits_7 : decode cX6_bits 7 = .ok (.if_icmp .ge 17, 3) := by decide +kernel
theorem dX6_bits_10 : decode cX6_bits 10 = .ok (.iload_n 1, 1) := by decide +kernel
theorem dX6_bits_11 : decode cX6_bits 11 = .ok (.iload_n 0, 1) := by decide +kernel
theorem dX6_bits_12 : decode cX6_bits 12 = .ok (.iload_n 2, 1) := by decide +kernel
theorem dX6_bits_13 : decode cX6_bits 13 = .ok (.ishr, 1) := by decide +kernel
theorem dX6_bits_14 : decode cX6_bits 14 = .ok (.iconst 1, 1) := by decide +kernel
theorem dX6_bits_15 : decode cX6_bits 15 = .ok (.iand, 1) := by decide +kernel
theorem dX6_bits_16 : decode cX6_bits 16 = .ok (.iadd, 1) := by decide +kernel
theorem dX6_bits_17 : decode cX6_bits 17 = .ok (.istore_n 1, 1) := by decide +kernel
theorem dX6_bits_18 : decode cX6_bits 18 = .ok (.iinc 2 1, 3) := by decide +kernel
theorem dX6_bits_21 : decode cX6_bits 21 = .ok (.goto (-17), 3) := by decide +kernel
theorem dX6_bits_24 : decode cX6_bits 24 = .ok (.iload_n 1, 1) := by decide +kernel
theorem dX6_bits_25 : decode cX6_bits 25 = .ok (.ireturn, 1) := by decide +kernel
theorem dX6_reckons_0 : decode cX6_reckons 0 = .ok (.aload_n 0, 1) := by decide +kernel
theorem dX6_reckons_1 : decode cX6_reckons 1 = .ok (.getfield 61, 3) := by decide +kernel
theorem dX6_reckons_4 : decode cX6_reckons 4 = .ok (.ifCond .ne 11, 3) := by decide +kernel
theorem dX6_reckons_7 : decode cX6_reckons 7 = .ok (.aload_n 0, 1) := by decide +kernel
theorem dX6_reckons_8 : decode cX6_reckons 8 = .ok (.aload_n 0, 1) := by decide +kernel
theorem dX6_reckons_9 : decode cX6_reckons 9 = .ok (.invokevirtual 103, 3) := by decide +kernel
theorem dX6_reckons_12 : decode cX6_reckons 12 = .ok (.putfield 107, 3) := by decide +kernel
theorem dX6_reckons_15 : decode cX6_reckons 15 = .ok (.aload_n 0, 1) := by decide +kernel
theorem dX6_reckons_16 : decode cX6_reckons 16 = .ok (.iconst 1, 1) := by decide +kernel
theorem dX6_reckons_17 : decode cX6_reckons 17 = .ok (.putfield 61, 3) := by decide +kernel
theorem dX6_reckons_20 : decode cX6_reckons 20 = .ok (.aload_n 0, 1) := by decide +kernel
theorem dX6_reckons_21 : decode cX6_reckons 21 = .ok (.getfield 107, 3) := by decide +kernel
theorem dX6_reckons_24 : decode cX6_reckons 24 = .ok (.ireturn, 1) := by decide +kernel
theorem dX6_found_0 : decode cX6_found 0 = .ok (.iconst 0, 1) := by decide +kernel
theorem dX6_found_1 : decode cX6_found 1 = .ok (.istore_n 1, 1) := by decide +kernel
theorem dX6_found_2 : decode cX6_found 2 = .ok (.iconst 0, 1) := by decide +kernel
theorem dX6_found_3 : decode cX6_found 3 = .ok (.istore_n 2, 1) := by decide +kernel
theorem dX6_found_4 : decode cX6_found 4 = .ok (.iload_n 2, 1) := by decide +kernel
theorem dX6_found_5 : decode cX6_found 5 = .ok (.aload_n 0, 1) := by decide +kernel
theorem dX6_found_6 : decode cX6_found 6 = .ok (.getfield 69, 3) := by decide +kernel
theorem dX6_found_9 : decode cX6_found 9 = .ok (.if_icmp .ge 28, 3) := by decide +kernel
theorem dX6_found_12 : decode cX6_found 12 = .ok (.iload_n 1, 1) := by decide +kernel
theorem dX6_found_13 : decode cX6_found 13 = .ok (.aload_n 0, 1) := by decide +kernel
theorem dX6_found_14 : decode cX6_found 14 = .ok (.getfield 38, 3) := by decide +kernel
theorem dX6_found_17 : decode cX6_found 17 = .ok (.iload_n 2, 1) := by decide +kernel
theorem dX6_found_18 : decode cX6_found 18 = .ok (.baload, 1) := by decide +kernel
theorem dX6_found_19 : decode cX6_found 19 = .ok (.ifCond .eq 9, 3) := by decide +kernel
theorem dX6_found_22 : decode cX6_found 22 = .ok (.iconst 1, 1) := by decide +kernel
theorem dX6_found_23 : decode cX6_found 23 = .ok (.iload_n 2, 1) := by decide +kernel
theorem dX6_found_24 : decode cX6_found 24 = .ok (.ishl, 1) := by decide +kernel
theorem dX6_found_25 : decode cX6_found 25 = .ok (.goto 4, 3) := by decide +kernel
theorem dX6_found_28 : decode cX6_found 28 = .ok (.iconst 0, 1) := by decide +kernel
theorem dX6_found_29 : decode cX6_found 29 = .ok (.ior, 1) := by decide +kernel
theorem dX6_found_30 : decode cX6_found 30 = .ok (.istore_n 1, 1) := by decide +kernel
theorem dX6_found_31 : decode cX6_found 31 = .ok (.iinc 2 1, 3) := by decide +kernel
theorem dX6_found_34 : decode cX6_found 34 = .ok (.goto (-30), 3) := by decide +kernel
theorem dX6_found_37 : decode cX6_found 37 = .ok (.aload_n 0, 1) := by decide +kernel
theorem dX6_found_38 : decode cX6_found 38 = .ok (.invokevirtual 110, 3) := by decide +kernel
theorem dX6_found_41 : decode cX6_found 41 = .ok (.ifCond .ne 5, 3) := by decide +kernel
theorem dX6_found_44 : decode cX6_found 44 = .ok (.iconst 0, 1) := by decide +kernel
theorem dX6_found_45 : decode cX6_found 45 = .ok (.ireturn, 1) := by decide +kernel
theorem dX6_found_46 : decode cX6_found 46 = .ok (.aload_n 0, 1) := by decide +kernel
theorem dX6_found_47 : decode cX6_found 47 = .ok (.iload_n 1, 1) := by decide +kernel
theorem dX6_found_48 : decode cX6_found 48 = .ok (.invokevirtual 113, 3) := by decide +kernel
theorem dX6_found_51 : decode cX6_found 51 = .ok (.iconst 0, 1) := by decide +kernel
theorem dX6_found_52 : decode cX6_found 52 = .ok (.istore_n 2, 1) := by decide +kernel
theorem dX6_found_53 : decode cX6_found 53 = .ok (.iload_n 2, 1) := by decide +kernel
theorem dX6_found_54 : decode cX6_found 54 = .ok (.bipush 10, 2) := by decide +kernel
theorem dX6_found_56 : decode cX6_found 56 = .ok (.if_icmp .gt 59, 3) := by decide +kernel
theorem dX6_found_59 : decode cX6_found 59 = .ok (.iconst 0, 1) := by decide +kernel
theorem dX6_found_60 : decode cX6_found 60 = .ok (.istore_n 3, 1) := by decide +kernel
theorem dX6_found_61 : decode cX6_found 61 = .ok (.iload_n 3, 1) := by decide +kernel
theorem dX6_found_62 : decode cX6_found 62 = .ok (.iload_n 1, 1) := by decide +kernel
theorem dX6_found_63 : decode cX6_found 63 = .ok (.if_icmp .gt 46, 3) := by decide +kernel
theorem dX6_found_66 : decode cX6_found 66 = .ok (.iload_n 3, 1) := by decide +kernel
theorem dX6_found_67 : decode cX6_found 67 = .ok (.iload_n 1, 1) := by decide +kernel
theorem dX6_found_68 : decode cX6_found 68 = .ok (.iand, 1) := by decide +kernel
theorem dX6_found_69 : decode cX6_found 69 = .ok (.iload_n 3, 1) := by decide +kernel
theorem dX6_found_70 : decode cX6_found 70 = .ok (.if_icmp .ne 33, 3) := by decide +kernel
theorem dX6_found_73 : decode cX6_found 73 = .ok (.iload_n 3, 1) := by decide +kernel
theorem dX6_found_74 : decode cX6_found 74 = .ok (.invokestatic 117, 3) := by decide +kernel
theorem dX6_found_77 : decode cX6_found 77 = .ok (.iload_n 2, 1) := by decide +kernel
theorem dX6_found_78 : decode cX6_found 78 = .ok (.if_icmp .ne 25, 3) := by decide +kernel
theorem dX6_found_81 : decode cX6_found 81 = .ok (.aload_n 0, 1) := by decide +kernel
theorem dX6_found_82 : decode cX6_found 82 = .ok (.iload_n 1, 1) := by decide +kernel
theorem dX6_found_83 : decode cX6_found 83 = .ok (.iload_n 3, 1) := by decide +kernel
theorem dX6_found_84 : decode cX6_found 84 = .ok (.iconst (-1), 1) := by decide +kernel
theorem dX6_found_85 : decode cX6_found 85 = .ok (.ixor, 1) := by decide +kernel
theorem dX6_found_86 : decode cX6_found 86 = .ok (.iand, 1) := by decide +kernel
theorem dX6_found_87 : decode cX6_found 87 = .ok (.invokevirtual 100, 3) := by decide +kernel
theorem dX6_found_90 : decode cX6_found 90 = .ok (.ifCond .ne 6, 3) := by decide +kernel
theorem dX6_found_93 : decode cX6_found 93 = .ok (.goto 10, 3) := by decide +kernel
theorem dX6_found_96 : decode cX6_found 96 = .ok (.aload_n 0, 1) := by decide +kernel
