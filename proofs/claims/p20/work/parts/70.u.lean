theorem zk_154_0 : zc 154 0 = some (.aload_n 0, 0, 0, 0, 0) := rfl
theorem zk_154_1 : zc 154 1 = some (.bipush 96, 0, 0, 0, 0) := rfl
theorem zk_154_3 : zc 154 3 = some (.iload_n 1, 0, 0, 0, 0) := rfl
theorem zk_154_4 : zc 154 4 = some (.imul, 0, 0, 0, 0) := rfl
theorem zk_154_5 : zc 154 5 = some (.putfield 143, 11, 21, 0, 170) := rfl
theorem zk_154_8 : zc 154 8 = some (.aload_n 0, 0, 0, 0, 0) := rfl
theorem zk_154_9 : zc 154 9 = some (.aload_n 0, 0, 0, 0, 0) := rfl
theorem zk_154_10 : zc 154 10 = some (.getfield 25, 11, 6, 0, 144) := rfl
theorem zk_154_13 : zc 154 13 = some (.iload_n 1, 0, 0, 0, 0) := rfl
theorem zk_154_14 : zc 154 14 = some (.iaload, 0, 0, 0, 0) := rfl
theorem zk_154_15 : zc 154 15 = some (.putfield 140, 11, 20, 0, 169) := rfl
theorem zk_154_18 : zc 154 18 = some (.aload_n 0, 0, 0, 0, 0) := rfl
theorem zk_154_19 : zc 154 19 = some (.iconst 0, 0, 0, 0, 0) := rfl
theorem zk_154_20 : zc 154 20 = some (.putfield 137, 11, 19, 0, 168) := rfl
theorem zk_154_23 : zc 154 23 = some (.aload_n 0, 0, 0, 0, 0) := rfl
theorem zk_154_24 : zc 154 24 = some (.iconst 0, 0, 0, 0, 0) := rfl
theorem zk_154_25 : zc 154 25 = some (.putfield 156, 11, 22, 0, 172) := rfl
theorem zk_154_28 : zc 154 28 = some (.aload_n 0, 0, 0, 0, 0) := rfl
theorem zk_154_29 : zc 154 29 = some (.iconst 0, 0, 0, 0, 0) := rfl
theorem zk_154_30 : zc 154 30 = some (.putfield 153, 11, 23, 0, 171) := rfl
theorem zk_154_33 : zc 154 33 = some (.aload_n 0, 0, 0, 0, 0) := rfl
theorem zk_154_34 : zc 154 34 = some (.iconst 0, 0, 0, 0, 0) := rfl
theorem zk_154_35 : zc 154 35 = some (.putfield 159, 11, 24, 0, 173) := rfl
theorem zk_154_38 : zc 154 38 = some (.aload_n 0, 0, 0, 0, 0) := rfl
theorem zk_154_39 : zc 154 39 = some (.iconst 0, 0, 0, 0, 0) := rfl
theorem zk_154_40 : zc 154 40 = some (.putfield 162, 11, 25, 0, 174) := rfl
theorem zk_154_43 : zc 154 43 = some (.aload_n 0, 0, 0, 0, 0) := rfl
theorem zk_154_44 : zc 154 44 = some (.bipush 103, 0, 0, 0, 0) := rfl
theorem zk_154_46 : zc 154 46 = some (.invokevirtual 150, 149, 0, 2, 137) := rfl
theorem zk_154_49 : zc 154 49 = some (.ifCond .ne 8, 57, 0, 0, 0) := rfl
theorem zk_154_52 : zc 154 52 = some (.aload_n 0, 0, 0, 0, 0) := rfl
theorem zk_154_53 : zc 154 53 = some (.getfield 137, 11, 19, 0, 168) := rfl
theorem zk_154_56 : zc 154 56 = some (.ireturn, 0, 0, 0, 0) := rfl
theorem zk_154_57 : zc 154 57 = some (.aload_n 0, 0, 0, 0, 0) := rfl
theorem zk_154_58 : zc 154 58 = some (.dup, 0, 0, 0, 0) := rfl
theorem zk_154_59 : zc 154 59 = some (.getfield 137, 11, 19, 0, 168) := rfl
theorem zk_154_62 : zc 154 62 = some (.iconst 1, 0, 0, 0, 0) := rfl
theorem zk_154_63 : zc 154 63 = some (.iadd, 0, 0, 0, 0) := rfl
theorem zk_154_64 : zc 154 64 = some (.putfield 137, 11, 19, 0, 168) := rfl
theorem zk_154_67 : zc 154 67 = some (.aload_n 0, 0, 0, 0, 0) := rfl
theorem zk_154_68 : zc 154 68 = some (.getfield 137, 11, 19, 0, 168) := rfl
theorem zk_154_71 : zc 154 71 = some (.aload_n 0, 0, 0, 0, 0) := rfl
theorem zk_154_72 : zc 154 72 = some (.getfield 140, 11, 20, 0, 169) := rfl
theorem zk_154_75 : zc 154 75 = some (.if_icmp .eq 21, 96, 0, 0, 0) := rfl
theorem zk_154_78 : zc 154 78 = some (.aload_n 0, 0, 0, 0, 0) := rfl
theorem zk_154_79 : zc 154 79 = some (.invokevirtual 146, 148, 0, 1, 136) := rfl
theorem zk_154_82 : zc 154 82 = some (.bipush 48, 0, 0, 0, 0) := rfl
theorem zk_154_84 : zc 154 84 = some (.if_icmp .lt 12, 96, 0, 0, 0) := rfl
theorem zk_154_87 : zc 154 87 = some (.aload_n 0, 0, 0, 0, 0) := rfl
theorem zk_154_88 : zc 154 88 = some (.invokevirtual 146, 148, 0, 1, 136) := rfl
theorem zk_154_91 : zc 154 91 = some (.bipush 50, 0, 0, 0, 0) := rfl
theorem zk_154_93 : zc 154 93 = some (.if_icmp .le 8, 101, 0, 0, 0) := rfl
theorem zk_154_96 : zc 154 96 = some (.aload_n 0, 0, 0, 0, 0) := rfl
theorem zk_154_97 : zc 154 97 = some (.getfield 137, 11, 19, 0, 168) := rfl
theorem zk_154_100 : zc 154 100 = some (.ireturn, 0, 0, 0, 0) := rfl
theorem zk_154_101 : zc 154 101 = some (.aload_n 0, 0, 0, 0, 0) := rfl
theorem zk_154_102 : zc 154 102 = some (.getfield 38, 11, 10, 0, 148) := rfl
theorem zk_154_105 : zc 154 105 = some (.iload_n 2, 0, 0, 0, 0) := rfl
theorem zk_154_106 : zc 154 106 = some (.aload_n 0, 0, 0, 0, 0) := rfl
theorem zk_154_107 : zc 154 107 = some (.invokevirtual 146, 148, 0, 1, 136) := rfl
theorem zk_154_110 : zc 154 110 = some (.bipush 48, 0, 0, 0, 0) := rfl
theorem zk_154_112 : zc 154 112 = some (.isub, 0, 0, 0, 0) := rfl
theorem zk_154_113 : zc 154 113 = some (.iastore, 0, 0, 0, 0) := rfl
theorem zk_154_114 : zc 154 114 = some (.aload_n 0, 0, 0, 0, 0) := rfl
theorem zk_154_115 : zc 154 115 = some (.dup, 0, 0, 0, 0) := rfl
theorem zk_154_116 : zc 154 116 = some (.getfield 137, 11, 19, 0, 168) := rfl
theorem zk_154_119 : zc 154 119 = some (.iconst 1, 0, 0, 0, 0) := rfl
theorem zk_154_120 : zc 154 120 = some (.iadd, 0, 0, 0, 0) := rfl
theorem zk_154_121 : zc 154 121 = some (.putfield 137, 11, 19, 0, 168) := rfl
theorem zk_154_124 : zc 154 124 = some (.aload_n 0, 0, 0, 0, 0) := rfl
theorem zk_154_125 : zc 154 125 = some (.bipush 58, 0, 0, 0, 0) := rfl
theorem zk_154_127 : zc 154 127 = some (.invokevirtual 150, 149, 0, 2, 137) := rfl
theorem zk_154_130 : zc 154 130 = some (.ifCond .ne 8, 138, 0, 0, 0) := rfl
theorem zk_154_133 : zc 154 133 = some (.aload_n 0, 0, 0, 0, 0) := rfl
theorem zk_154_134 : zc 154 134 = some (.getfield 137, 11, 19, 0, 168) := rfl
theorem zk_154_137 : zc 154 137 = some (.ireturn, 0, 0, 0, 0) := rfl
theorem zk_154_138 : zc 154 138 = some (.aload_n 0, 0, 0, 0, 0) := rfl
theorem zk_154_139 : zc 154 139 = some (.dup, 0, 0, 0, 0) := rfl
theorem zk_154_140 : zc 154 140 = some (.getfield 137, 11, 19, 0, 168) := rfl
theorem zk_154_143 : zc 154 143 = some (.iconst 1, 0, 0, 0, 0) := rfl
theorem zk_154_144 : zc 154 144 = some (.iadd, 0, 0, 0, 0) := rfl
theorem zk_154_145 : zc 154 145 = some (.putfield 137, 11, 19, 0, 168) := rfl
theorem zk_154_148 : zc 154 148 = some (.iconst 0, 0, 0, 0, 0) := rfl
theorem zk_154_149 : zc 154 149 = some (.istore_n 3, 0, 0, 0, 0) := rfl
theorem zk_154_150 : zc 154 150 = some (.iconst 1, 0, 0, 0, 0) := rfl
theorem zk_154_151 : zc 154 151 = some (.istore 4, 0, 0, 0, 0) := rfl
theorem zk_154_153 : zc 154 153 = some (.aload_n 0, 0, 0, 0, 0) := rfl
theorem zk_154_154 : zc 154 154 = some (.getfield 137, 11, 19, 0, 168) := rfl
theorem zk_154_157 : zc 154 157 = some (.aload_n 0, 0, 0, 0, 0) := rfl
theorem zk_154_158 : zc 154 158 = some (.getfield 140, 11, 20, 0, 169) := rfl
theorem zk_154_161 : zc 154 161 = some (.if_icmp .ge 264, 425, 0, 0, 0) := rfl
theorem zk_154_164 : zc 154 164 = some (.aload_n 0, 0, 0, 0, 0) := rfl
theorem zk_154_165 : zc 154 165 = some (.invokevirtual 146, 148, 0, 1, 136) := rfl
theorem zk_154_168 : zc 154 168 = some (.istore 5, 0, 0, 0, 0) := rfl
theorem zk_154_170 : zc 154 170 = some (.iload 4, 0, 0, 0, 0) := rfl
theorem zk_154_172 : zc 154 172 = some (.ifCond .eq 82, 254, 0, 0, 0) := rfl
theorem zk_154_175 : zc 154 175 = some (.iload 5, 0, 0, 0, 0) := rfl
theorem zk_154_177 : zc 154 177 = some (.bipush 33, 0, 0, 0, 0) := rfl
theorem zk_154_179 : zc 154 179 = some (.if_icmp .eq 10, 189, 0, 0, 0) := rfl
theorem zk_154_182 : zc 154 182 = some (.iload 5, 0, 0, 0, 0) := rfl
theorem zk_154_184 : zc 154 184 = some (.bipush 40, 0, 0, 0, 0) := rfl
theorem zk_154_186 : zc 154 186 = some (.if_icmp .ne 68, 254, 0, 0, 0) := rfl
theorem zk_154_189 : zc 154 189 = some (.aload_n 0, 0, 0, 0, 0) := rfl
theorem zk_154_190 : zc 154 190 = some (.getfield 162, 11, 25, 0, 174) := rfl
theorem zk_154_193 : zc 154 193 = some (.bipush 20, 0, 0, 0, 0) := rfl
theorem zk_154_195 : zc 154 195 = some (.if_icmp .ne 8, 203, 0, 0, 0) := rfl
theorem zk_154_198 : zc 154 198 = some (.aload_n 0, 0, 0, 0, 0) := rfl
theorem zk_154_199 : zc 154 199 = some (.getfield 137, 11, 19, 0, 168) := rfl
theorem zk_154_202 : zc 154 202 = some (.ireturn, 0, 0, 0, 0) := rfl
theorem zk_154_203 : zc 154 203 = some (.aload_n 0, 0, 0, 0, 0) := rfl
theorem zk_154_204 : zc 154 204 = some (.dup, 0, 0, 0, 0) := rfl
theorem zk_154_205 : zc 154 205 = some (.getfield 162, 11, 25, 0, 174) := rfl
theorem zk_154_208 : zc 154 208 = some (.iconst 1, 0, 0, 0, 0) := rfl
theorem zk_154_209 : zc 154 209 = some (.iadd, 0, 0, 0, 0) := rfl
theorem zk_154_210 : zc 154 210 = some (.putfield 162, 11, 25, 0, 174) := rfl
theorem zk_154_213 : zc 154 213 = some (.aload_n 0, 0, 0, 0, 0) := rfl
theorem zk_154_214 : zc 154 214 = some (.getfield 63, 11, 18, 0, 156) := rfl
theorem zk_154_217 : zc 154 217 = some (.aload_n 0, 0, 0, 0, 0) := rfl
theorem zk_154_218 : zc 154 218 = some (.dup, 0, 0, 0, 0) := rfl
theorem zk_154_219 : zc 154 219 = some (.getfield 159, 11, 24, 0, 173) := rfl
theorem zk_154_222 : zc 154 222 = some (.dup_x1, 0, 0, 0, 0) := rfl
theorem zk_154_223 : zc 154 223 = some (.iconst 1, 0, 0, 0, 0) := rfl
theorem zk_154_224 : zc 154 224 = some (.iadd, 0, 0, 0, 0) := rfl
theorem zk_154_225 : zc 154 225 = some (.putfield 159, 11, 24, 0, 173) := rfl
theorem zk_154_228 : zc 154 228 = some (.iload 5, 0, 0, 0, 0) := rfl
theorem zk_154_230 : zc 154 230 = some (.iastore, 0, 0, 0, 0) := rfl
theorem zk_154_231 : zc 154 231 = some (.iload 5, 0, 0, 0, 0) := rfl
theorem zk_154_233 : zc 154 233 = some (.bipush 40, 0, 0, 0, 0) := rfl
theorem zk_154_235 : zc 154 235 = some (.if_icmp .ne 6, 241, 0, 0, 0) := rfl
theorem zk_154_238 : zc 154 238 = some (.iinc 3 1, 0, 0, 0, 0) := rfl
theorem zk_154_241 : zc 154 241 = some (.aload_n 0, 0, 0, 0, 0) := rfl
theorem zk_154_242 : zc 154 242 = some (.dup, 0, 0, 0, 0) := rfl
theorem zk_154_243 : zc 154 243 = some (.getfield 137, 11, 19, 0, 168) := rfl
theorem zk_154_246 : zc 154 246 = some (.iconst 1, 0, 0, 0, 0) := rfl
theorem zk_154_247 : zc 154 247 = some (.iadd, 0, 0, 0, 0) := rfl
theorem zk_154_248 : zc 154 248 = some (.putfield 137, 11, 19, 0, 168) := rfl
theorem zk_154_251 : zc 154 251 = some (.goto 171, 422, 0, 0, 0) := rfl
theorem zk_154_254 : zc 154 254 = some (.iload 4, 0, 0, 0, 0) := rfl
theorem zk_154_256 : zc 154 256 = some (.ifCond .eq 38, 294, 0, 0, 0) := rfl
theorem zk_154_259 : zc 154 259 = some (.aload_n 0, 0, 0, 0, 0) := rfl
theorem zk_154_260 : zc 154 260 = some (.iload_n 2, 0, 0, 0, 0) := rfl
theorem zk_154_261 : zc 154 261 = some (.invokevirtual 169, 150, 0, 2, 139) := rfl
theorem zk_154_264 : zc 154 264 = some (.ifCond .ne 8, 272, 0, 0, 0) := rfl
theorem zk_154_267 : zc 154 267 = some (.aload_n 0, 0, 0, 0, 0) := rfl
theorem zk_154_268 : zc 154 268 = some (.getfield 137, 11, 19, 0, 168) := rfl
theorem zk_154_271 : zc 154 271 = some (.ireturn, 0, 0, 0, 0) := rfl
theorem zk_154_272 : zc 154 272 = some (.aload_n 0, 0, 0, 0, 0) := rfl
theorem zk_154_273 : zc 154 273 = some (.iload_n 2, 0, 0, 0, 0) := rfl
theorem zk_154_274 : zc 154 274 = some (.aload_n 0, 0, 0, 0, 0) := rfl
theorem zk_154_275 : zc 154 275 = some (.getfield 153, 11, 23, 0, 171) := rfl
theorem zk_154_278 : zc 154 278 = some (.iconst 1, 0, 0, 0, 0) := rfl
theorem zk_154_279 : zc 154 279 = some (.isub, 0, 0, 0, 0) := rfl
theorem zk_154_280 : zc 154 280 = some (.invokevirtual 165, 151, 0, 3, 138) := rfl
theorem zk_154_283 : zc 154 283 = some (.aload_n 0, 0, 0, 0, 0) := rfl
theorem zk_154_284 : zc 154 284 = some (.iload_n 2, 0, 0, 0, 0) := rfl
theorem zk_154_285 : zc 154 285 = some (.invokevirtual 172, 152, 0, 2, 140) := rfl
theorem zk_154_288 : zc 154 288 = some (.iconst 0, 0, 0, 0, 0) := rfl
theorem zk_154_289 : zc 154 289 = some (.istore 4, 0, 0, 0, 0) := rfl
theorem zk_154_291 : zc 154 291 = some (.goto 131, 422, 0, 0, 0) := rfl
theorem zk_154_294 : zc 154 294 = some (.iload 5, 0, 0, 0, 0) := rfl
theorem zk_154_296 : zc 154 296 = some (.bipush 38, 0, 0, 0, 0) := rfl
theorem zk_154_298 : zc 154 298 = some (.if_icmp .eq 10, 308, 0, 0, 0) := rfl
theorem zk_154_301 : zc 154 301 = some (.iload 5, 0, 0, 0, 0) := rfl
theorem zk_154_303 : zc 154 303 = some (.bipush 124, 0, 0, 0, 0) := rfl
theorem zk_154_305 : zc 154 305 = some (.if_icmp .ne 54, 359, 0, 0, 0) := rfl
theorem zk_154_308 : zc 154 308 = some (.aload_n 0, 0, 0, 0, 0) := rfl
theorem zk_154_309 : zc 154 309 = some (.iload_n 2, 0, 0, 0, 0) := rfl
theorem zk_154_310 : zc 154 310 = some (.iload 5, 0, 0, 0, 0) := rfl
theorem zk_154_312 : zc 154 312 = some (.bipush 38, 0, 0, 0, 0) := rfl
theorem zk_154_314 : zc 154 314 = some (.if_icmp .ne 7, 321, 0, 0, 0) := rfl
theorem zk_154_317 : zc 154 317 = some (.iconst 1, 0, 0, 0, 0) := rfl
theorem zk_154_318 : zc 154 318 = some (.goto 4, 322, 0, 0, 0) := rfl
theorem zk_154_321 : zc 154 321 = some (.iconst 0, 0, 0, 0, 0) := rfl
theorem zk_154_322 : zc 154 322 = some (.invokevirtual 176, 153, 0, 3, 141) := rfl
theorem zk_154_325 : zc 154 325 = some (.aload_n 0, 0, 0, 0, 0) := rfl
theorem zk_154_326 : zc 154 326 = some (.getfield 63, 11, 18, 0, 156) := rfl
theorem zk_154_329 : zc 154 329 = some (.aload_n 0, 0, 0, 0, 0) := rfl
theorem zk_154_330 : zc 154 330 = some (.dup, 0, 0, 0, 0) := rfl
theorem zk_154_331 : zc 154 331 = some (.getfield 159, 11, 24, 0, 173) := rfl
theorem zk_154_334 : zc 154 334 = some (.dup_x1, 0, 0, 0, 0) := rfl
theorem zk_154_335 : zc 154 335 = some (.iconst 1, 0, 0, 0, 0) := rfl
theorem zk_154_336 : zc 154 336 = some (.iadd, 0, 0, 0, 0) := rfl
theorem zk_154_337 : zc 154 337 = some (.putfield 159, 11, 24, 0, 173) := rfl
theorem zk_154_340 : zc 154 340 = some (.iload 5, 0, 0, 0, 0) := rfl
theorem zk_154_342 : zc 154 342 = some (.iastore, 0, 0, 0, 0) := rfl
theorem zk_154_343 : zc 154 343 = some (.iconst 1, 0, 0, 0, 0) := rfl
theorem zk_154_344 : zc 154 344 = some (.istore 4, 0, 0, 0, 0) := rfl
theorem zk_154_346 : zc 154 346 = some (.aload_n 0, 0, 0, 0, 0) := rfl
theorem zk_154_347 : zc 154 347 = some (.dup, 0, 0, 0, 0) := rfl
theorem zk_154_348 : zc 154 348 = some (.getfield 137, 11, 19, 0, 168) := rfl
theorem zk_154_351 : zc 154 351 = some (.iconst 1, 0, 0, 0, 0) := rfl
theorem zk_154_352 : zc 154 352 = some (.iadd, 0, 0, 0, 0) := rfl
theorem zk_154_353 : zc 154 353 = some (.putfield 137, 11, 19, 0, 168) := rfl
theorem zk_154_356 : zc 154 356 = some (.goto 66, 422, 0, 0, 0) := rfl
theorem zk_154_359 : zc 154 359 = some (.iload 5, 0, 0, 0, 0) := rfl
theorem zk_154_361 : zc 154 361 = some (.bipush 41, 0, 0, 0, 0) := rfl
theorem zk_154_363 : zc 154 363 = some (.if_icmp .ne 54, 417, 0, 0, 0) := rfl
theorem zk_154_366 : zc 154 366 = some (.iload_n 3, 0, 0, 0, 0) := rfl
theorem zk_154_367 : zc 154 367 = some (.ifCond .le 50, 417, 0, 0, 0) := rfl
theorem zk_154_370 : zc 154 370 = some (.aload_n 0, 0, 0, 0, 0) := rfl
theorem zk_154_371 : zc 154 371 = some (.iload_n 2, 0, 0, 0, 0) := rfl
theorem zk_154_372 : zc 154 372 = some (.iconst 0, 0, 0, 0, 0) := rfl
theorem zk_154_373 : zc 154 373 = some (.invokevirtual 176, 153, 0, 3, 141) := rfl
theorem zk_154_376 : zc 154 376 = some (.aload_n 0, 0, 0, 0, 0) := rfl
theorem zk_154_377 : zc 154 377 = some (.dup, 0, 0, 0, 0) := rfl
theorem zk_154_378 : zc 154 378 = some (.getfield 159, 11, 24, 0, 173) := rfl
theorem zk_154_381 : zc 154 381 = some (.iconst 1, 0, 0, 0, 0) := rfl
theorem zk_154_382 : zc 154 382 = some (.isub, 0, 0, 0, 0) := rfl
theorem zk_154_383 : zc 154 383 = some (.putfield 159, 11, 24, 0, 173) := rfl
theorem zk_154_386 : zc 154 386 = some (.aload_n 0, 0, 0, 0, 0) := rfl
theorem zk_154_387 : zc 154 387 = some (.dup, 0, 0, 0, 0) := rfl
theorem zk_154_388 : zc 154 388 = some (.getfield 162, 11, 25, 0, 174) := rfl
theorem zk_154_391 : zc 154 391 = some (.iconst 1, 0, 0, 0, 0) := rfl
theorem zk_154_392 : zc 154 392 = some (.isub, 0, 0, 0, 0) := rfl
theorem zk_154_393 : zc 154 393 = some (.putfield 162, 11, 25, 0, 174) := rfl
theorem zk_154_396 : zc 154 396 = some (.iinc 3 (-1), 0, 0, 0, 0) := rfl
theorem zk_154_399 : zc 154 399 = some (.aload_n 0, 0, 0, 0, 0) := rfl
theorem zk_154_400 : zc 154 400 = some (.iload_n 2, 0, 0, 0, 0) := rfl
theorem zk_154_401 : zc 154 401 = some (.invokevirtual 172, 152, 0, 2, 140) := rfl
theorem zk_154_404 : zc 154 404 = some (.aload_n 0, 0, 0, 0, 0) := rfl
theorem zk_154_405 : zc 154 405 = some (.dup, 0, 0, 0, 0) := rfl
theorem zk_154_406 : zc 154 406 = some (.getfield 137, 11, 19, 0, 168) := rfl
theorem zk_154_409 : zc 154 409 = some (.iconst 1, 0, 0, 0, 0) := rfl
theorem zk_154_410 : zc 154 410 = some (.iadd, 0, 0, 0, 0) := rfl
theorem zk_154_411 : zc 154 411 = some (.putfield 137, 11, 19, 0, 168) := rfl
theorem zk_154_414 : zc 154 414 = some (.goto 8, 422, 0, 0, 0) := rfl
theorem zk_154_417 : zc 154 417 = some (.aload_n 0, 0, 0, 0, 0) := rfl
theorem zk_154_418 : zc 154 418 = some (.getfield 137, 11, 19, 0, 168) := rfl
theorem zk_154_421 : zc 154 421 = some (.ireturn, 0, 0, 0, 0) := rfl
theorem zk_154_422 : zc 154 422 = some (.goto (-269), 153, 0, 0, 0) := rfl
theorem zk_154_425 : zc 154 425 = some (.iload 4, 0, 0, 0, 0) := rfl
theorem zk_154_427 : zc 154 427 = some (.ifCond .ne 7, 434, 0, 0, 0) := rfl
theorem zk_154_430 : zc 154 430 = some (.iload_n 3, 0, 0, 0, 0) := rfl
theorem zk_154_431 : zc 154 431 = some (.ifCond .le 8, 439, 0, 0, 0) := rfl
theorem zk_154_434 : zc 154 434 = some (.aload_n 0, 0, 0, 0, 0) := rfl
theorem zk_154_435 : zc 154 435 = some (.getfield 140, 11, 20, 0, 169) := rfl
theorem zk_154_438 : zc 154 438 = some (.ireturn, 0, 0, 0, 0) := rfl
theorem zk_154_439 : zc 154 439 = some (.aload_n 0, 0, 0, 0, 0) := rfl
theorem zk_154_440 : zc 154 440 = some (.iload_n 2, 0, 0, 0, 0) := rfl
set_option maxRecDepth 4000 in
theorem zk_154_441 : zc 154 441 = some (.iconst 0, 0, 0, 0, 0) := rfl
set_option maxRecDepth 4000 in
theorem zk_154_442 : zc 154 442 = some (.invokevirtual 176, 153, 0, 3, 141) := rfl
set_option maxRecDepth 4000 in
theorem zk_154_445 : zc 154 445 = some (.aload_n 0, 0, 0, 0, 0) := rfl
set_option maxRecDepth 4000 in
theorem zk_154_446 : zc 154 446 = some (.getfield 41, 11, 11, 0, 149) := rfl
set_option maxRecDepth 4000 in
theorem zk_154_449 : zc 154 449 = some (.iload_n 2, 0, 0, 0, 0) := rfl
set_option maxRecDepth 4000 in
theorem zk_154_450 : zc 154 450 = some (.aload_n 0, 0, 0, 0, 0) := rfl
set_option maxRecDepth 4000 in
theorem zk_154_451 : zc 154 451 = some (.getfield 156, 11, 22, 0, 172) := rfl
set_option maxRecDepth 4000 in
theorem zk_154_454 : zc 154 454 = some (.iastore, 0, 0, 0, 0) := rfl
set_option maxRecDepth 4000 in
theorem zk_154_455 : zc 154 455 = some (.iconst (-1), 0, 0, 0, 0) := rfl
set_option maxRecDepth 4000 in
theorem zk_154_456 : zc 154 456 = some (.ireturn, 0, 0, 0, 0) := rfl
def MCo (a : Nat) (t i k j : Nat) : Prop := (t = 45 ∧ 120 * a ≤ j ∧ j < 120 * a + 120) ∨ ((t = 43 ∨ t = 44) ∧ j = a) ∨ (46 ≤ t ∧ t ≤ 48) ∨ t = 50 ∨ (t = 35 ∧ 19 ≤ j ∧ j ≤ 25)
theorem nMCo {a t i k j : Nat} (hb : decide (((t = 45 ∧ 120 * a ≤ j ∧ j < 120 * a + 120) ∨ ((t = 43 ∨ t = 44) ∧ j = a) ∨ (46 ≤ t ∧ t ≤ 48) ∨ t = 50 ∨ (t = 35 ∧ 19 ≤ j ∧ j ≤ 25))) = false) : ¬ MCo a t i k j := fun h => of_decide_eq_false hb (by unfold MCo at h; omega)
theorem pMCo {a t i k j : Nat} (hb : decide (((t = 45 ∧ 120 * a ≤ j ∧ j < 120 * a + 120) ∨ ((t = 43 ∨ t = 44) ∧ j = a) ∨ (46 ≤ t ∧ t ≤ 48) ∨ t = 50 ∨ (t = 35 ∧ 19 ≤ j ∧ j ≤ 25))) = true) : MCo a t i k j := by
  have h := of_decide_eq_true hb
  unfold MCo
  omega
