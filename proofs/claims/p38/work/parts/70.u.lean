theorem zk_154_0 : zc 154 0 = some (.aload_n 0, 0, 0, 0, 0) := rfl
theorem zk_154_1 : zc 154 1 = some (.bipush 96, 0, 0, 0, 0) := rfl
theorem zk_154_3 : zc 154 3 = some (.iload_n 1, 0, 0, 0, 0) := rfl
theorem zk_154_4 : zc 154 4 = some (.imul, 0, 0, 0, 0) := rfl
theorem zk_154_5 : zc 154 5 = some (.putfield 143, 11, 21, 0, 170) := rfl
theorem zk_154_8 : zc 154 8 = some (.aload_n 0, 0, 0, 0, 0) := rfl
theorem zk_154_9 : zc 154 9 = some (.aload_n 0, 0, 0, 0, 0) := rfl
theorem zk_154_10 : zc 154 10 = some (.getfield 25, 11, 6, 0, 144) := rfl
theorem zk_154_13 : zc 154 13 = some (.iload_n 1, 0, 0, 0, 0) := rfl
theorem zk_154_14 : zc 154 14 = some (.iaload, 0, 0, 0, 0) := rfl
theorem zk_154_15 : zc 154 15 = some (.putfield 140, 11, 20, 0, 169) := rfl
theorem zk_154_18 : zc 154 18 = some (.aload_n 0, 0, 0, 0, 0) := rfl
theorem zk_154_19 : zc 154 19 = some (.iconst 0, 0, 0, 0, 0) := rfl
theorem zk_154_20 : zc 154 20 = some (.putfield 137, 11, 19, 0, 168) := rfl
theorem zk_154_23 : zc 154 23 = some (.aload_n 0, 0, 0, 0, 0) := rfl
theorem zk_154_24 : zc 154 24 = some (.iconst 0, 0, 0, 0, 0) := rfl
theorem zk_154_25 : zc 154 25 = some (.putfield 156, 11, 22, 0, 172) := rfl
theorem zk_154_28 : zc 154 28 = some (.aload_n 0, 0, 0, 0, 0) := rfl
theorem zk_154_29 : zc 154 29 = some (.iconst 0, 0, 0, 0, 0) := rfl
theorem zk_154_30 : zc 154 30 = some (.putfield 153, 11, 23, 0, 171) := rfl
theorem zk_154_33 : zc 154 33 = some (.aload_n 0, 0, 0, 0, 0) := rfl
theorem zk_154_34 : zc 154 34 = some (.iconst 0, 0, 0, 0, 0) := rfl
theorem zk_154_35 : zc 154 35 = some (.putfield 159, 11, 24, 0, 173) := rfl
theorem zk_154_38 : zc 154 38 = some (.aload_n 0, 0, 0, 0, 0) := rfl
theorem zk_154_39 : zc 154 39 = some (.iconst 0, 0, 0, 0, 0) := rfl
theorem zk_154_40 : zc 154 40 = some (.putfield 162, 11, 25, 0, 174) := rfl
theorem zk_154_43 : zc 154 43 = some (.aload_n 0, 0, 0, 0, 0) := rfl
theorem zk_154_44 : zc 154 44 = some (.bipush 103, 0, 0, 0, 0) := rfl
theorem zk_154_46 : zc 154 46 = some (.invokevirtual 150, 149, 0, 2, 137) := rfl
theorem zk_154_49 : zc 154 49 = some (.ifCond .ne 8, 57, 0, 0, 0) := rfl
theorem zk_154_52 : zc 154 52 = some (.aload_n 0, 0, 0, 0, 0) := rfl
theorem zk_154_53 : zc 154 53 = some (.getfield 137, 11, 19, 0, 168) := rfl
theorem zk_154_56 : zc 154 56 = some (.ireturn, 0, 0, 0, 0) := rfl
theorem zk_154_57 : zc 154 57 = some (.aload_n 0, 0, 0, 0, 0) := rfl
theorem zk_154_58 : zc 154 58 = some (.dup, 0, 0, 0, 0) := rfl
theorem zk_154_59 : zc 154 59 = some (.getfield 137, 11, 19, 0, 168) := rfl
theorem zk_154_62 : zc 154 62 = some (.iconst 1, 0, 0, 0, 0) := rfl
theorem zk_154_63 : zc 154 63 = some (.iadd, 0, 0, 0, 0) := rfl
theorem zk_154_64 : zc 154 64 = some (.putfield 137, 11, 19, 0, 168) := rfl
theorem zk_154_67 : zc 154 67 = some (.aload_n 0, 0, 0, 0, 0) := rfl
theorem zk_154_68 : zc 154 68 = some (.getfield 137, 11, 19, 0, 168) := rfl
theorem zk_154_71 : zc 154 71 = some (.aload_n 0, 0, 0, 0, 0) := rfl
theorem zk_154_72 : zc 154 72 = some (.getfield 140, 11, 20, 0, 169) := rfl
theorem zk_154_75 : zc 154 75 = some (.if_icmp .eq 21, 96, 0, 0, 0) := rfl
theorem zk_154_78 : zc 154 78 = some (.aload_n 0, 0, 0, 0, 0) := rfl
theorem zk_154_79 : zc 154 79 = some (.invokevirtual 146, 148, 0, 1, 136) := rfl
theorem zk_154_82 : zc 154 82 = some (.bipush 48, 0, 0, 0, 0) := rfl
theorem zk_154_84 : zc 154 84 = some (.if_icmp .lt 12, 96, 0, 0, 0) := rfl
theorem zk_154_87 : zc 154 87 = some (.aload_n 0, 0, 0, 0, 0) := rfl
theorem zk_154_88 : zc 154 88 = some (.invokevirtual 146, 148, 0, 1, 136) := rfl
theorem zk_154_91 : zc 154 91 = some (.bipush 50, 0, 0, 0, 0) := rfl
theorem zk_154_93 : zc 154 93 = some (.if_icmp .le 8, 101, 0, 0, 0) := rfl
theorem zk_154_96 : zc 154 96 = some (.aload_n 0, 0, 0, 0, 0) := rfl
theorem zk_154_97 : zc 154 97 = some (.getfield 137, 11, 19, 0, 168) := rfl
theorem zk_154_100 : zc 154 100 = some (.ireturn, 0, 0, 0, 0) := rfl
theorem zk_154_101 : zc 154 101 = some (.aload_n 0, 0, 0, 0, 0) := rfl
theorem zk_154_102 : zc 154 102 = some (.getfield 38, 11, 10, 0, 148) := rfl
theorem zk_154_105 : zc 154 105 = some (.iload_n 2, 0, 0, 0, 0) := rfl
theorem zk_154_106 : zc 154 106 = some (.aload_n 0, 0, 0, 0, 0) := rfl
theorem zk_154_107 : zc 154 107 = some (.invokevirtual 146, 148, 0, 1, 136) := rfl
theorem zk_154_110 : zc 154 110 = some (.bipush 48, 0, 0, 0, 0) := rfl
theorem zk_154_112 : zc 154 112 = some (.isub, 0, 0, 0, 0) := rfl
theorem zk_154_113 : zc 154 113 = some (.iastore, 0, 0, 0, 0) := rfl
theorem zk_154_114 : zc 154 114 = some (.aload_n 0, 0, 0, 0, 0) := rfl
theorem zk_154_115 : zc 154 115 = some (.dup, 0, 0, 0, 0) := rfl
theorem zk_154_116 : zc 154 116 = some (.getfield 137, 11, 19, 0, 168) := rfl
theorem zk_154_119 : zc 154 119 = some (.iconst 1, 0, 0, 0, 0) := rfl
theorem zk_154_120 : zc 154 120 = some (.iadd, 0, 0, 0, 0) := rfl
theorem zk_154_121 : zc 154 121 = some (.putfield 137, 11, 19, 0, 168) := rfl
theorem zk_154_124 : zc 154 124 = some (.aload_n 0, 0, 0, 0, 0) := rfl
theorem zk_154_125 : zc 154 125 = some (.bipush 58, 0, 0, 0, 0) := rfl
theorem zk_154_127 : zc 154 127 = some (.invokevirtual 150, 149, 0, 2, 137) := rfl
theorem zk_154_130 : zc 154 130 = some (.ifCond .ne 8, 138, 0, 0, 0) := rfl
theorem zk_154_133 : zc 154 133 = some (.aload_n 0, 0, 0, 0, 0) := rfl
theorem zk_154_134 : zc 154 134 = some (.getfield 137, 11, 19, 0, 168) := rfl
theorem zk_154_137 : zc 154 137 = some (.ireturn, 0, 0, 0, 0) := rfl
theorem zk_154_138 : zc 154 138 = some (.aload_n 0, 0, 0, 0, 0) := rfl
theorem zk_154_139 : zc 154 139 = some (.dup, 0, 0, 0, 0) := rfl
theorem zk_154_140 : zc 154 140 = some (.getfield 137, 11, 19, 0, 168) := rfl
theorem zk_154_143 : zc 154 143 = some (.iconst 1, 0, 0, 0, 0) := rfl
theorem zk_154_144 : zc 154 144 = some (.iadd, 0, 0, 0, 0) := rfl
theorem zk_154_145 : zc 154 145 = some (.putfield 137, 11, 19, 0, 168) := rfl
theorem zk_154_148 : zc 154 148 = some (.iconst 0, 0, 0, 0, 0) := rfl
theorem zk_154_149 : zc 154 149 = some (.istore_n 3, 0, 0, 0, 0) := rfl
theorem zk_154_150 : zc 154 150 = some (.iconst 1, 0, 0, 0, 0) := rfl
theorem zk_154_151 : zc 154 151 = some (.istore 4, 0, 0, 0, 0) := rfl
theorem zk_154_153 : zc 154 153 = some (.aload_n 0, 0, 0, 0, 0) := rfl
theorem zk_154_154 : zc 154 154 = some (.getfield 137, 11, 19, 0, 168) := rfl
theorem zk_154_157 : zc 154 157 = some (.aload_n 0, 0, 0, 0, 0) := rfl
theorem zk_154_158 : zc 154 158 = some (.getfield 140, 11, 20, 0, 169) := rfl
theorem zk_154_161 : zc 154 161 = some (.if_icmp .ge 264, 425, 0, 0, 0) := rfl
theorem zk_154_164 : zc 154 164 = some (.aload_n 0, 0, 0, 0, 0) := rfl
theorem zk_154_165 : zc 154 165 = some (.invokevirtual 146, 148, 0, 1, 136) := rfl
theorem zk_154_168 : zc 154 168 = some (.istore 5, 0, 0, 0, 0) := rfl
theorem zk_154_170 : zc 154 170 = some (.iload 4, 0, 0, 0, 0) := rfl
theorem zk_154_172 : zc 154 172 = some (.ifCond .eq 82, 254, 0, 0, 0) := rfl
theorem zk_154_175 : zc 154 175 = some (.iload 5, 0, 0, 0, 0) := rfl
theorem zk_154_177 : zc 154 177 = some (.bipush 33, 0, 0, 0, 0) := rfl
theorem zk_154_179 : zc 154 179 = some (.if_icmp .eq 10, 189, 0, 0, 0) := rfl
theorem zk_154_182 : zc 154 182 = some (.iload 5, 0, 0, 0, 0) := rfl
theorem zk_154_184 : zc 154 184 = some (.bipush 40, 0, 0, 0, 0) := rfl
theorem zk_154_186 : zc 154 186 = some (.if_icmp .ne 68, 254, 0, 0, 0) := rfl
theorem zk_154_189 : zc 154 189 = some (.aload_n 0, 0, 0, 0, 0) := rfl
theorem zk_154_190 : zc 154 190 = some (.getfield 162, 11, 25, 0, 174) := rfl
theorem zk_154_193 : zc 154 193 = some (.bipush 20, 0, 0, 0, 0) := rfl
theorem zk_154_195 : zc 154 195 = some (.if_icmp .ne 8, 203, 0, 0, 0) := rfl
theorem zk_154_198 : zc 154 198 = some (.aload_n 0, 0, 0, 0, 0) := rfl
theorem zk_154_199 : zc 154 199 = some (.getfield 137, 11, 19, 0, 168) := rfl
theorem zk_154_202 : zc 154 202 = some (.ireturn, 0, 0, 0, 0) := rfl
theorem zk_154_203 : zc 154 203 = some (.aload_n 0, 0, 0, 0, 0) := rfl
theorem zk_154_204 : zc 154 204 = some (.dup, 0, 0, 0, 0) := rfl
theorem zk_154_205 : zc 154 205 = some (.getfield 162, 11, 25, 0, 174) := rfl
theorem zk_154_208 : zc 154 208 = some (.iconst 1, 0, 0, 0, 0) := rfl
theorem zk_154_209 : zc 154 209 = some (.iadd, 0, 0, 0, 0) := rfl
theorem zk_154_210 : zc 154 210 = some (.putfield 162, 11, 25, 0, 174) := rfl
theorem zk_154_213 : zc 154 213 = some (.aload_n 0, 0, 0, 0, 0) := rfl
theorem zk_154_214 : zc 154 214 = some (.getfield 63, 11, 18, 0, 156) := rfl
theorem zk_154_217 : zc 154 217 = some (.aload_n 0, 0, 0, 0, 0) := rfl
theorem zk_154_218 : zc 154 218 = some (.dup, 0, 0, 0, 0) := rfl
theorem zk_154_219 : zc 154 219 = some (.getfield 159, 11, 24, 0, 173) := rfl
theorem zk_154_222 : zc 154 222 = some (.dup_x1, 0, 0, 0, 0) := rfl
theorem zk_154_223 : zc 154 223 = some (.iconst 1, 0, 0, 0, 0) := rfl
theorem zk_154_224 : zc 154 224 = some (.iadd, 0, 0, 0, 0) := rfl
theorem zk_154_225 : zc 154 225 = some (.putfield 159, 11, 24, 0, 173) := rfl
theorem zk_154_228 : zc 154 228 = some (.iload 5, 0, 0, 0, 0) := rfl
theorem zk_154_230 : zc 154 230 = some (.iastore, 0, 0, 0, 0) := rfl
theorem zk_154_231 : zc 154 231 = some (.iload 5, 0, 0, 0, 0) := rfl
theorem zk_154_233 : zc 154 233 = some (.bipush 40, 0, 0, 0, 0) := rfl
theorem zk_154_235 : zc 154 235 = some (.if_icmp .ne 6, 241, 0, 0, 0) := rfl
theorem zk_154_238 : zc 154 238 = some (.iinc 3 1, 0, 0, 0, 0) := rfl
theorem zk_154_241 : zc 154 241 = some (.aload_n 0, 0, 0, 0, 0) := rfl
theorem zk_154_242 : zc 154 242 = some (.dup, 0, 0, 0, 0) := rfl
theorem zk_154_243 : zc 154 243 = some (.getfield 137, 11, 19, 0, 168) := rfl
theorem zk_154_246 : zc 154 246 = some (.iconst 1, 0, 0, 0, 0) := rfl
theorem zk_154_247 : zc 154 247 = some (.iadd, 0, 0, 0, 0) := rfl
theorem zk_154_248 : zc 154 248 = some (.putfield 137, 11, 19, 0, 168) := rfl
theorem zk_154_251 : zc 154 251 = some (.goto 171, 422, 0, 0, 0) := rfl
theorem zk_154_254 : zc 154 254 = some (.iload 4, 0, 0, 0, 0) := rfl
theorem zk_154_256 : zc 154 256 = some (.ifCond .eq 38, 294, 0, 0, 0) := rfl
theorem zk_154_259 : zc 154 259 = some (.aload_n 0, 0, 0, 0, 0) := rfl
theorem zk_154_260 : zc 154 260 = some (.iload_n 2, 0, 0, 0, 0) := rfl
theorem zk_154_261 : zc 154 261 = some (.invokevirtual 169, 150, 0, 2, 139) := rfl
theorem zk_154_264 : zc 154 264 = some (.ifCond .ne 8, 272, 0, 0, 0) := rfl
theorem zk_154_267 : zc 154 267 = some (.aload_n 0, 0, 0, 0, 0) := rfl
theorem zk_154_268 : zc 154 268 = some (.getfield 137, 11, 19, 0, 168) := rfl
theorem zk_154_271 : zc 154 271 = some (.ireturn, 0, 0, 0, 0) := rfl
theorem zk_154_272 : zc 154 272 = some (.aload_n 0, 0, 0, 0, 0) := rfl
theorem zk_154_273 : zc 154 273 = some (.iload_n 2, 0, 0, 0, 0) := rfl
theorem zk_154_274 : zc 154 274 = some (.aload_n 0, 0, 0, 0, 0) := rfl
theorem zk_154_275 : zc 154 275 = some (.getfield 153, 11, 23, 0, 171) := rfl
theorem zk_154_278 : zc 154 278 = some (.iconst 1, 0, 0, 0, 0) := rfl
theorem zk_154_279 : zc 154 279 = some (.isub, 0, 0, 0, 0) := rfl
theorem zk_154_280 : zc 154 280 = some (.invokevirtual 165, 151, 0, 3, 138) := rfl
theorem zk_154_283 : zc 154 283 = some (.aload_n 0, 0, 0, 0, 0) := rfl
theorem zk_154_284 : zc 154 284 = some (.iload_n 2, 0, 0, 0, 0) := rfl
theorem zk_154_285 : zc 154 285 = some (.invokevirtual 172, 152, 0, 2, 140) := rfl
theorem zk_154_288 : zc 154 288 = some (.iconst 0, 0, 0, 0, 0) := rfl
theorem zk_154_289 : zc 154 289 = some (.istore 4, 0, 0, 0, 0) := rfl
theorem zk_154_291 : zc 154 291 = some (.goto 131, 422, 0, 0, 0) := rfl
theorem zk_154_294 : zc 154 294 = some (.iload 5, 0, 0, 0, 0) := rfl
theorem zk_154_296 : zc 154 296 = some (.bipush 38, 0, 0, 0, 0) := rfl
theorem zk_154_298 : zc 154 298 = some (.if_icmp .eq 10, 308, 0, 0, 0) := rfl
theorem zk_154_301 : zc 154 301 = some (.iload 5, 0, 0, 0, 0) := rfl
theorem zk_154_303 : zc 154 303 = some (.bipush 124, 0, 0, 0, 0) := rfl
theorem zk_154_305 : zc 154 305 = some (.if_icmp .ne 54, 359, 0, 0, 0) := rfl
theorem zk_154_308 : zc 154 308 = some (.aload_n 0, 0, 0, 0, 0) := rfl
theorem zk_154_309 : zc 154 309 = some (.iload_n 2, 0, 0, 0, 0) := rfl
theorem zk_154_310 : zc 154 310 = some (.iload 5, 0, 0, 0, 0) := rfl
theorem zk_154_312 : zc 154 312 = some (.bipush 38, 0, 0, 0, 0) := rfl
theorem zk_154_314 : zc 154 314 = some (.if_icmp .ne 7, 321, 0, 0, 0) := rfl
theorem zk_154_317 : zc 154 317 = some (.iconst 1, 0, 0, 0, 0) := rfl
theorem zk_154_318 : zc 154 318 = some (.goto 4, 322, 0, 0, 0) := rfl
theorem zk_154_321 : zc 154 321 = some (.iconst 0, 0, 0, 0, 0) := rfl
theorem zk_154_322 : zc 154 322 = some (.invokevirtual 176, 153, 0, 3, 141) := rfl
theorem zk_154_325 : zc 154 325 = some (.aload_n 0, 0, 0, 0, 0) := rfl
theorem zk_154_326 : zc 154 326 = some (.getfield 63, 11, 18, 0, 156) := rfl
theorem zk_154_329 : zc 154 329 = some (.aload_n 0, 0, 0, 0, 0) := rfl
theorem zk_154_330 : zc 154 330 = some (.dup, 0, 0, 0, 0) := rfl
theorem zk_154_331 : zc 154 331 = some (.getfield 159, 11, 24, 0, 173) := rfl
theorem zk_154_334 : zc 154 334 = some (.dup_x1, 0, 0, 0, 0) := rfl
theorem zk_154_335 : zc 154 335 = some (.iconst 1, 0, 0, 0, 0) := rfl
theorem zk_154_336 : zc 154 336 = some (.iadd, 0, 0, 0, 0) := rfl
theorem zk_154_337 : zc 154 337 = some (.putfield 159, 11, 24, 0, 173) := rfl
theorem zk_154_340 : zc 154 340 = some (.iload 5, 0, 0, 0, 0) := rfl
theorem zk_154_342 : zc 154 342 = some (.iastore, 0, 0, 0, 0) := rfl
theorem zk_154_343 : zc 154 343 = some (.iconst 1, 0, 0, 0, 0) := rfl
theorem zk_154_344 : zc 154 344 = some (.istore 4, 0, 0, 0, 0) := rfl
theorem zk_154_346 : zc 154 346 = some (.aload_n 0, 0, 0, 0, 0) := rfl
theorem zk_154_347 : zc 154 347 = some (.dup, 0, 0, 0, 0) := rfl
theorem zk_154_348 : zc 154 348 = some (.getfield 137, 11, 19, 0, 168) := rfl
theorem zk_154_351 : zc 154 351 = some (.iconst 1, 0, 0, 0, 0) := rfl
theorem zk_154_352 : zc 154 352 = some (.iadd, 0, 0, 0, 0) := rfl
theorem zk_154_353 : zc 154 353 = some (.putfield 137, 11, 19, 0, 168) := rfl
theorem zk_154_356 : zc 154 356 = some (.goto 66, 422, 0, 0, 0) := rfl
theorem zk_154_359 : zc 154 359 = some (.iload 5, 0, 0, 0, 0) := rfl
theorem zk_154_361 : zc 154 361 = some (.bipush 41, 0, 0, 0, 0) := rfl
theorem zk_154_363 : zc 154 363 = some (.if_icmp .ne 54, 417, 0, 0, 0) := rfl
theorem zk_154_366 : zc 154 366 = some (.iload_n 3, 0, 0, 0, 0) := rfl
theorem zk_154_367 : zc 154 367 = some (.ifCond .le 50, 417, 0, 0, 0) := rfl
theorem zk_154_370 : zc 154 370 = some (.aload_n 0, 0, 0, 0, 0) := rfl
theorem zk_154_371 : zc 154 371 = some (.iload_n 2, 0, 0, 0, 0) := rfl
theorem zk_154_372 : zc 154 372 = some (.iconst 0, 0, 0, 0, 0) := rfl
theorem zk_154_373 : zc 154 373 = some (.invokevirtual 176, 153, 0, 3, 141) := rfl
theorem zk_154_376 : zc 154 376 = some (.aload_n 0, 0, 0, 0, 0) := rfl
theorem zk_154_377 : zc 154 377 = some (.dup, 0, 0, 0, 0) := rfl
theorem zk_154_378 : zc 154 378 = some (.getfield 159, 11, 24, 0, 173) := rfl
theorem zk_154_381 : zc 154 381 = some (.iconst 1, 0, 0, 0, 0) := rfl
theorem zk_154_382 : zc 154 382 = some (.isub, 0, 0, 0, 0) := rfl
theorem zk_154_383 : zc 154 383 = some (.putfield 159, 11, 24, 0, 173) := rfl
theorem zk_154_386 : zc 154 386 = some (.aload_n 0, 0, 0, 0, 0) := rfl
theorem zk_154_387 : zc 154 387 = some (.dup, 0, 0, 0, 0) := rfl
theorem zk_154_388 : zc 154 388 = some (.getfield 162, 11, 25, 0, 174) := rfl
theorem zk_154_391 : zc 154 391 = some (.iconst 1, 0, 0, 0, 0) := rfl
theorem zk_154_392 : zc 154 392 = some (.isub, 0, 0, 0, 0) := rfl
theorem zk_154_393 : zc 154 393 = some (.putfield 162, 11, 25, 0, 174) := rfl
theorem zk_154_396 : zc 154 396 = some (.iinc 3 (-1), 0, 0, 0, 0) := rfl
theorem zk_154_399 : zc 154 399 = some (.aload_n 0, 0, 0, 0, 0) := rfl
theorem zk_154_400 : zc 154 400 = some (.iload_n 2, 0, 0, 0, 0) := rfl
theorem zk_154_401 : zc 154 401 = some (.invokevirtual 172, 152, 0, 2, 140) := rfl
theorem zk_154_404 : zc 154 404 = some (.aload_n 0, 0, 0, 0, 0) := rfl
theorem zk_154_405 : zc 154 405 = some (.dup, 0, 0, 0, 0) := rfl
theorem zk_154_406 : zc 154 406 = some (.getfield 137, 11, 19, 0, 168) := rfl
theorem zk_154_409 : zc 154 409 = some (.iconst 1, 0, 0, 0, 0) := rfl
theorem zk_154_410 : zc 154 410 = some (.iadd, 0, 0, 0, 0) := rfl
theorem zk_154_411 : zc 154 411 = some (.putfield 137, 11, 19, 0, 168) := rfl
theorem zk_154_414 : zc 154 414 = some (.goto 8, 422, 0, 0, 0) := rfl
theorem zk_154_417 : zc 154 417 = some (.aload_n 0, 0, 0, 0, 0) := rfl
theorem zk_154_418 : zc 154 418 = some (.getfield 137, 11, 19, 0, 168) := rfl
theorem zk_154_421 : zc 154 421 = some (.ireturn, 0, 0, 0, 0) := rfl
theorem zk_154_422 : zc 154 422 = some (.goto (-269), 153, 0, 0, 0) := rfl
theorem zk_154_425 : zc 154 425 = some (.iload 4, 0, 0, 0, 0) := rfl
theorem zk_154_427 : zc 154 427 = some (.ifCond .ne 7, 434, 0, 0, 0) := rfl
theorem zk_154_430 : zc 154 430 = some (.iload_n 3, 0, 0, 0, 0) := rfl
theorem zk_154_431 : zc 154 431 = some (.ifCond .le 8, 439, 0, 0, 0) := rfl
theorem zk_154_434 : zc 154 434 = some (.aload_n 0, 0, 0, 0, 0) := rfl
theorem zk_154_435 : zc 154 435 = some (.getfield 140, 11, 20, 0, 169) := rfl
theorem zk_154_438 : zc 154 438 = some (.ireturn, 0, 0, 0, 0) := rfl
theorem zk_154_439 : zc 154 439 = some (.aload_n 0, 0, 0, 0, 0) := rfl
theorem zk_154_440 : zc 154 440 = some (.iload_n 2, 0, 0, 0, 0) := rfl
set_option maxRecDepth 4000 in
theorem zk_154_441 : zc 154 441 = some (.iconst 0, 0, 0, 0, 0) := rfl
set_option maxRecDepth 4000 in
theorem zk_154_442 : zc 154 442 = some (.invokevirtual 176, 153, 0, 3, 141) := rfl
set_option maxRecDepth 4000 in
theorem zk_154_445 : zc 154 445 = some (.aload_n 0, 0, 0, 0, 0) := rfl
set_option maxRecDepth 4000 in
theorem zk_154_446 : zc 154 446 = some (.getfield 41, 11, 11, 0, 149) := rfl
set_option maxRecDepth 4000 in
theorem zk_154_449 : zc 154 449 = some (.iload_n 2, 0, 0, 0, 0) := rfl
set_option maxRecDepth 4000 in
theorem zk_154_450 : zc 154 450 = some (.aload_n 0, 0, 0, 0, 0) := rfl
set_option maxRecDepth 4000 in
theorem zk_154_451 : zc 154 451 = some (.getfield 156, 11, 22, 0, 172) := rfl
set_option maxRecDepth 4000 in
theorem zk_154_454 : zc 154 454 = some (.iastore, 0, 0, 0, 0) := rfl
set_option maxRecDepth 4000 in
theorem zk_154_455 : zc 154 455 = some (.iconst (-1), 0, 0, 0, 0) := rfl
set_option maxRecDepth 4000 in
theorem zk_154_456 : zc 154 456 = some (.ireturn, 0, 0, 0, 0) := rfl
def MCo (a : Nat) (t i k j : Nat) : Prop := (t = 45 ∧ 120 * a ≤ j ∧ j < 120 * a + 120) ∨ ((t = 43 ∨ t = 44) ∧ j = a) ∨ (46 ≤ t ∧ t ≤ 48) ∨ t = 50 ∨ (t = 35 ∧ 19 ≤ j ∧ j ≤ 25)
theorem nMCo {a t i k j : Nat} (hb : decide (((t = 45 ∧ 120 * a ≤ j ∧ j < 120 * a + 120) ∨ ((t = 43 ∨ t = 44) ∧ j = a) ∨ (46 ≤ t ∧ t ≤ 48) ∨ t = 50 ∨ (t = 35 ∧ 19 ≤ j ∧ j ≤ 25))) = false) : ¬ MCo a t i k j := fun h => of_decide_eq_false hb (by unfold MCo at h; omega)
theorem pMCo {a t i k j : Nat} (hb : decide (((t = 45 ∧ 120 * a ≤ j ∧ j < 120 * a + 120) ∨ ((t = 43 ∨ t = 44) ∧ j = a) ∨ (46 ≤ t ∧ t ≤ 48) ∨ t = 50 ∨ (t = 35 ∧ 19 ≤ j ∧ j ≤ 25))) = true) : MCo a t i k j := by
  have h := of_decide_eq_true hb
  unfold MCo
  omega
theorem m_154_e {xs : Nat × (Nat → Int32)} {Q : Option Value → ZS → Prop} (p0 p1 O T0 : Int) (hp0 : 0 ≤ p0 ∧ p0 ≤ 7) (hp1 : 0 ≤ p1 ∧ p1 ≤ 5) (σ : ZS) (hI : Inv σ) (P : Int) (hP : PSt σ p1 1 P 0) (hret : ∀ y σ', IF (MCo (Int.toNat p1)) σ σ' → (-1 ≤ y ∧ y ≤ 96) → (y = -1 → okc (σ' 45 0 0) (Int.toNat (120 * p1)) (Int.toNat (σ' 44 0 0 (Int.toNat p1)))) → Q (some (iv y)) σ') : TT xs 6 154 445 [(0, av 35 0 0), (1, iv p0), (2, iv p1), (3, iv O), (4, iv 0)] [] σ Q := by
  obtain ⟨⟨a1, a2, a3, a4, a5⟩, ⟨b1, b2, b3, b4, b5⟩, ⟨c1, c2, c3⟩, d1⟩ := id hP
  refine (show TJ xs (fun σ' => IF (MCo (Int.toNat p1)) σ σ' ∧ σ' 35 0 0 19 = σ 35 0 0 19 ∧ σ' 35 0 0 20 = σ 35 0 0 20 ∧ σ' 35 0 0 21 = σ 35 0 0 21 ∧ σ' 35 0 0 22 = σ 35 0 0 22 ∧ σ' 35 0 0 23 = σ 35 0 0 23 ∧ σ' 35 0 0 24 = σ 35 0 0 24 ∧ σ' 35 0 0 25 = σ 35 0 0 25 ∧ Eq (σ' 45 0 0) (σ 45 0 0) ∧ Eq (σ' 50 0 0) (σ 50 0 0) ∧ True) 6 154 445 [(0, av 35 0 0), (1, iv p0), (2, iv p1), (3, iv O), (4, iv 0)] [] Q from ?_) σ ⟨IF.rf hI, rfl, rfl, rfl, rfl, rfl, rfl, rfl, rfl, rfl, trivial⟩
  refine T_ld zk_154_445 rfl rfl rfl (pc' := 446) rfl ?_
  refine T_getR (t' := 44) (i' := 0) (k' := 0) zk_154_446 rfl rfl rfl vd_35 (pc' := 449) rfl ?_
  refine T_ld zk_154_449 rfl rfl rfl (pc' := 450) rfl ?_
  refine T_ld zk_154_450 rfl rfl rfl (pc' := 451) rfl ?_
  refine G_getX (w := σ 35 0 0 22) zk_154_451 rfl vd_35 (fun σ' h => h.2.2.2.2.1) (pc' := 454) rfl ?_
  refine G_iast (J' := (fun σ' => IF (MCo (Int.toNat p1)) σ σ' ∧ σ' 35 0 0 19 = σ 35 0 0 19 ∧ σ' 35 0 0 20 = σ 35 0 0 20 ∧ σ' 35 0 0 21 = σ 35 0 0 21 ∧ σ' 35 0 0 22 = σ 35 0 0 22 ∧ σ' 35 0 0 23 = σ 35 0 0 23 ∧ σ' 35 0 0 24 = σ 35 0 0 24 ∧ σ' 35 0 0 25 = σ 35 0 0 25 ∧ Eq (σ' 45 0 0) (σ 45 0 0) ∧ Eq (σ' 50 0 0) (σ 50 0 0) ∧ σ' 44 0 0 (Int.toNat p1) = σ 35 0 0 22 ∧ True)) (ln := 6) zk_154_454 rfl rfl vd_44 (by omega) (by omega) (by omega) (fun σ' h => ⟨h.1.up (by simp only [rgP] <;> omega) (by first | exact pMCo rfl | (unfold MCo; omega)), (up_ne (by omega)).trans (h.2.1), (up_ne (by omega)).trans (h.2.2.1), (up_ne (by omega)).trans (h.2.2.2.1), (up_ne (by omega)).trans (h.2.2.2.2.1), (up_ne (by omega)).trans (h.2.2.2.2.2.1), (up_ne (by omega)).trans (h.2.2.2.2.2.2.1), (up_ne (by omega)).trans (h.2.2.2.2.2.2.2.1), gf_mk (fun z => Eq z (σ 45 0 0)) (up_row (by omega)) (h.2.2.2.2.2.2.2.2.1), gf_mk (fun z => Eq z (σ 50 0 0)) (up_row (by omega)) (h.2.2.2.2.2.2.2.2.2.1), up_eq, trivial⟩) (pc' := 455) rfl ?_
  refine T_op zk_154_455 rfl X_ic (pc' := 456) rfl ?_
  exact T_iret zk_154_456 rfl (fun σ' h => hret _ σ' h.1 (by omega) (fun _ => by rw [(h.2.2.2.2.2.2.2.2.1), show σ' 44 0 0 (Int.toNat p1) = _ from h.2.2.2.2.2.2.2.2.2.2.1]; exact c1))
theorem m_154_c {xs : Nat × (Nat → Int32)} {Q : Option Value → ZS → Prop} (p0 p1 O T0 c : Int) (hp0 : 0 ≤ p0 ∧ p0 ≤ 7) (hp1 : 0 ≤ p1 ∧ p1 ≤ 5) (hcc : -2147483648 ≤ c ∧ c ≤ 2147483647) (σ : ZS) (hI : Inv σ) (hP : PSt σ p1 1 O 0) (hO : 0 ≤ O ∧ O ≤ σ 35 0 0 19) (hlt : σ 35 0 0 19 < σ 35 0 0 20) (hT : T0 ≤ σ 35 0 0 19) (hc : c = 38 ∨ c = 124) (hgo : ∀ σ' O' W', IF (MCo (Int.toNat p1)) σ σ' → PSt σ' p1 (1 - W') O' 0 → (0 ≤ O' ∧ O' ≤ σ' 35 0 0 19) → (W' = 0 ∨ W' = 1) → T0 < σ' 35 0 0 19 → TT xs 6 154 153 [(0, av 35 0 0), (1, iv p0), (2, iv p1), (3, iv (O')), (4, iv (W'))] [] σ' Q) : TT xs 6 154 325 [(0, av 35 0 0), (1, iv p0), (2, iv p1), (3, iv O), (4, iv 0), (5, iv c)] [] σ Q := by
  obtain ⟨⟨a1, a2, a3, a4, a5⟩, ⟨b1, b2, b3, b4, b5⟩, ⟨c1, c2, c3⟩, d1⟩ := id hP
  have hb1 := bB_spec c
  have hb2 := bP_spec c
  refine (show TJ xs (fun σ' => IF (MCo (Int.toNat p1)) σ σ' ∧ σ' 35 0 0 19 = σ 35 0 0 19 ∧ σ' 35 0 0 20 = σ 35 0 0 20 ∧ σ' 35 0 0 21 = σ 35 0 0 21 ∧ σ' 35 0 0 22 = σ 35 0 0 22 ∧ σ' 35 0 0 23 = σ 35 0 0 23 ∧ σ' 35 0 0 24 = σ 35 0 0 24 ∧ σ' 35 0 0 25 = σ 35 0 0 25 ∧ Eq (σ' 45 0 0) (σ 45 0 0) ∧ Eq (σ' 50 0 0) (σ 50 0 0) ∧ True) 6 154 325 [(0, av 35 0 0), (1, iv p0), (2, iv p1), (3, iv O), (4, iv 0), (5, iv c)] [] Q from ?_) σ ⟨IF.rf hI, rfl, rfl, rfl, rfl, rfl, rfl, rfl, rfl, rfl, trivial⟩
  refine T_ld zk_154_325 rfl rfl rfl (pc' := 326) rfl ?_
  refine T_getR (t' := 50) (i' := 0) (k' := 0) zk_154_326 rfl rfl rfl vd_35 (pc' := 329) rfl ?_
  refine T_ld zk_154_329 rfl rfl rfl (pc' := 330) rfl ?_
  refine T_op (st' := [av 35 0 0, av 35 0 0, av 50 0 0]) zk_154_330 rfl rfl (pc' := 331) rfl ?_
  refine G_getX (w := σ 35 0 0 24) zk_154_331 rfl vd_35 (fun σ' h => h.2.2.2.2.2.2.1) (pc' := 334) rfl ?_
  refine T_op (st' := [iv (σ 35 0 0 24), av 35 0 0, iv (σ 35 0 0 24), av 50 0 0]) zk_154_334 rfl rfl (pc' := 335) rfl ?_
  refine T_op zk_154_335 rfl X_ic (pc' := 336) rfl ?_
  refine T_op zk_154_336 rfl X_add (pc' := 337) rfl ?_
  refine T_putf (J' := (fun σ' => IF (MCo (Int.toNat p1)) σ σ' ∧ σ' 35 0 0 19 = σ 35 0 0 19 ∧ σ' 35 0 0 20 = σ 35 0 0 20 ∧ σ' 35 0 0 21 = σ 35 0 0 21 ∧ σ' 35 0 0 22 = σ 35 0 0 22 ∧ σ' 35 0 0 23 = σ 35 0 0 23 ∧ σ' 35 0 0 25 = σ 35 0 0 25 ∧ Eq (σ' 45 0 0) (σ 45 0 0) ∧ Eq (σ' 50 0 0) (σ 50 0 0) ∧ σ' 35 0 0 24 = σ 35 0 0 24 + 1 ∧ True)) zk_154_337 rfl rfl vd_35 (fun σ' h => ⟨h.1.up (by simp only [rgP] <;> omega) (by first | exact pMCo rfl | (unfold MCo; omega)), (up_ne (by omega)).trans (h.2.1), (up_ne (by omega)).trans (h.2.2.1), (up_ne (by omega)).trans (h.2.2.2.1), (up_ne (by omega)).trans (h.2.2.2.2.1), (up_ne (by omega)).trans (h.2.2.2.2.2.1), (up_ne (by omega)).trans (h.2.2.2.2.2.2.2.1), gf_mk (fun z => Eq z (σ 45 0 0)) (up_row (by omega)) (h.2.2.2.2.2.2.2.2.1), gf_mk (fun z => Eq z (σ 50 0 0)) (up_row (by omega)) (h.2.2.2.2.2.2.2.2.2.1), up_eq, trivial⟩) (pc' := 340) rfl ?_
  refine T_ld zk_154_340 rfl rfl rfl (pc' := 342) rfl ?_
  refine G_iast (J' := (fun σ' => IF (MCo (Int.toNat p1)) σ σ' ∧ σ' 35 0 0 19 = σ 35 0 0 19 ∧ σ' 35 0 0 20 = σ 35 0 0 20 ∧ σ' 35 0 0 21 = σ 35 0 0 21 ∧ σ' 35 0 0 22 = σ 35 0 0 22 ∧ σ' 35 0 0 23 = σ 35 0 0 23 ∧ σ' 35 0 0 25 = σ 35 0 0 25 ∧ Eq (σ' 45 0 0) (σ 45 0 0) ∧ Eq (σ' 50 0 0) (fun q => if q = Int.toNat (σ 35 0 0 24) then c else (σ 50 0 0) q) ∧ σ' 35 0 0 24 = σ 35 0 0 24 + 1 ∧ True)) (ln := 120) zk_154_342 rfl rfl vd_50 (by omega) (by omega) (by omega) (fun σ' h => ⟨h.1.up ⟨by omega, trivial⟩ (by first | exact pMCo rfl | (unfold MCo; omega)), (up_ne (by omega)).trans (h.2.1), (up_ne (by omega)).trans (h.2.2.1), (up_ne (by omega)).trans (h.2.2.2.1), (up_ne (by omega)).trans (h.2.2.2.2.1), (up_ne (by omega)).trans (h.2.2.2.2.2.1), (up_ne (by omega)).trans (h.2.2.2.2.2.2.1), gf_mk (fun z => Eq z (σ 45 0 0)) (up_row (by omega)) (h.2.2.2.2.2.2.2.1), Eq_put (h.2.2.2.2.2.2.2.2.1), (up_ne (by omega)).trans (h.2.2.2.2.2.2.2.2.2.1), trivial⟩) (pc' := 343) rfl ?_
  refine T_op zk_154_343 rfl X_ic (pc' := 344) rfl ?_
  refine T_st (L' := [(0, av 35 0 0), (1, iv p0), (2, iv p1), (3, iv O), (4, iv 1), (5, iv c)]) zk_154_344 (nL := 6) rfl rfl rfl rfl rfl (pc' := 346) rfl ?_
  refine T_ld zk_154_346 rfl rfl rfl (pc' := 347) rfl ?_
  refine T_op (st' := [av 35 0 0, av 35 0 0]) zk_154_347 rfl rfl (pc' := 348) rfl ?_
  refine G_getX (w := σ 35 0 0 19) zk_154_348 rfl vd_35 (fun σ' h => h.2.1) (pc' := 351) rfl ?_
  refine T_op zk_154_351 rfl X_ic (pc' := 352) rfl ?_
  refine T_op zk_154_352 rfl X_add (pc' := 353) rfl ?_
  refine T_putf (J' := (fun σ' => IF (MCo (Int.toNat p1)) σ σ' ∧ σ' 35 0 0 20 = σ 35 0 0 20 ∧ σ' 35 0 0 21 = σ 35 0 0 21 ∧ σ' 35 0 0 22 = σ 35 0 0 22 ∧ σ' 35 0 0 23 = σ 35 0 0 23 ∧ σ' 35 0 0 25 = σ 35 0 0 25 ∧ Eq (σ' 45 0 0) (σ 45 0 0) ∧ Eq (σ' 50 0 0) (fun q => if q = Int.toNat (σ 35 0 0 24) then c else (σ 50 0 0) q) ∧ σ' 35 0 0 24 = σ 35 0 0 24 + 1 ∧ σ' 35 0 0 19 = σ 35 0 0 19 + 1 ∧ True)) zk_154_353 rfl rfl vd_35 (fun σ' h => ⟨h.1.up (by simp only [rgP] <;> omega) (by first | exact pMCo rfl | (unfold MCo; omega)), (up_ne (by omega)).trans (h.2.2.1), (up_ne (by omega)).trans (h.2.2.2.1), (up_ne (by omega)).trans (h.2.2.2.2.1), (up_ne (by omega)).trans (h.2.2.2.2.2.1), (up_ne (by omega)).trans (h.2.2.2.2.2.2.1), gf_mk (fun z => Eq z (σ 45 0 0)) (up_row (by omega)) (h.2.2.2.2.2.2.2.1), gf_mk (fun z => Eq z (fun q => if q = Int.toNat (σ 35 0 0 24) then c else (σ 50 0 0) q)) (up_row (by omega)) (h.2.2.2.2.2.2.2.2.1), (up_ne (by omega)).trans (h.2.2.2.2.2.2.2.2.2.1), up_eq, trivial⟩) (pc' := 356) rfl ?_
  refine T_goto zk_154_356 ?_
  refine T_goto zk_154_422 ?_
  refine T_loc (L := [(0, av 35 0 0), (1, iv p0), (2, iv p1), (3, iv O), (4, iv 1)]) (E := [(5, iv c)]) rfl ?_
  exact fun σ' h => hgo σ' _ _ h.1 (PSt_sign hP (by omega) (by omega) ⟨(h.2.2.2.2.2.2.2.2.2.1), by omega⟩ (h.2.1) (h.2.2.1) (h.2.2.2.1) (h.2.2.2.2.1) (h.2.2.2.2.2.2.2.2.1) (h.2.2.2.2.2.2.1) (h.2.2.2.2.2.2.2.1)) (by rw [(h.2.2.2.2.2.2.2.2.2.1)]; omega) (Or.inr rfl) (by rw [(h.2.2.2.2.2.2.2.2.2.1)]; omega)
theorem m_154_d2 {xs : Nat × (Nat → Int32)} {Q : Option Value → ZS → Prop} (p0 p1 O T0 c : Int) (hp0 : 0 ≤ p0 ∧ p0 ≤ 7) (hp1 : 0 ≤ p1 ∧ p1 ≤ 5) (hcc : -2147483648 ≤ c ∧ c ≤ 2147483647) (σ : ZS) (hI : Inv σ) (hP : PSt σ p1 1 O 0) (hO : 0 ≤ O ∧ O ≤ σ 35 0 0 19) (hlt : σ 35 0 0 19 < σ 35 0 0 20) (hT : T0 ≤ σ 35 0 0 19) (hgo : ∀ σ' O' W', IF (MCo (Int.toNat p1)) σ σ' → PSt σ' p1 (1 - W') O' 0 → (0 ≤ O' ∧ O' ≤ σ' 35 0 0 19) → (W' = 0 ∨ W' = 1) → T0 < σ' 35 0 0 19 → TT xs 6 154 153 [(0, av 35 0 0), (1, iv p0), (2, iv p1), (3, iv (O')), (4, iv (W'))] [] σ' Q) : TT xs 6 154 404 [(0, av 35 0 0), (1, iv p0), (2, iv p1), (3, iv O), (4, iv 0), (5, iv c)] [] σ Q := by
  obtain ⟨⟨a1, a2, a3, a4, a5⟩, ⟨b1, b2, b3, b4, b5⟩, ⟨c1, c2, c3⟩, d1⟩ := id hP
  refine (show TJ xs (fun σ' => IF (MCo (Int.toNat p1)) σ σ' ∧ σ' 35 0 0 19 = σ 35 0 0 19 ∧ σ' 35 0 0 20 = σ 35 0 0 20 ∧ σ' 35 0 0 21 = σ 35 0 0 21 ∧ σ' 35 0 0 22 = σ 35 0 0 22 ∧ σ' 35 0 0 23 = σ 35 0 0 23 ∧ σ' 35 0 0 24 = σ 35 0 0 24 ∧ σ' 35 0 0 25 = σ 35 0 0 25 ∧ Eq (σ' 45 0 0) (σ 45 0 0) ∧ Eq (σ' 50 0 0) (σ 50 0 0) ∧ True) 6 154 404 [(0, av 35 0 0), (1, iv p0), (2, iv p1), (3, iv O), (4, iv 0), (5, iv c)] [] Q from ?_) σ ⟨IF.rf hI, rfl, rfl, rfl, rfl, rfl, rfl, rfl, rfl, rfl, trivial⟩
  refine T_ld zk_154_404 rfl rfl rfl (pc' := 405) rfl ?_
  refine T_op (st' := [av 35 0 0, av 35 0 0]) zk_154_405 rfl rfl (pc' := 406) rfl ?_
  refine G_getX (w := σ 35 0 0 19) zk_154_406 rfl vd_35 (fun σ' h => h.2.1) (pc' := 409) rfl ?_
  refine T_op zk_154_409 rfl X_ic (pc' := 410) rfl ?_
  refine T_op zk_154_410 rfl X_add (pc' := 411) rfl ?_
  refine T_putf (J' := (fun σ' => IF (MCo (Int.toNat p1)) σ σ' ∧ σ' 35 0 0 20 = σ 35 0 0 20 ∧ σ' 35 0 0 21 = σ 35 0 0 21 ∧ σ' 35 0 0 22 = σ 35 0 0 22 ∧ σ' 35 0 0 23 = σ 35 0 0 23 ∧ σ' 35 0 0 24 = σ 35 0 0 24 ∧ σ' 35 0 0 25 = σ 35 0 0 25 ∧ Eq (σ' 45 0 0) (σ 45 0 0) ∧ Eq (σ' 50 0 0) (σ 50 0 0) ∧ σ' 35 0 0 19 = σ 35 0 0 19 + 1 ∧ True)) zk_154_411 rfl rfl vd_35 (fun σ' h => ⟨h.1.up (by simp only [rgP] <;> omega) (by first | exact pMCo rfl | (unfold MCo; omega)), (up_ne (by omega)).trans (h.2.2.1), (up_ne (by omega)).trans (h.2.2.2.1), (up_ne (by omega)).trans (h.2.2.2.2.1), (up_ne (by omega)).trans (h.2.2.2.2.2.1), (up_ne (by omega)).trans (h.2.2.2.2.2.2.1), (up_ne (by omega)).trans (h.2.2.2.2.2.2.2.1), gf_mk (fun z => Eq z (σ 45 0 0)) (up_row (by omega)) (h.2.2.2.2.2.2.2.2.1), gf_mk (fun z => Eq z (σ 50 0 0)) (up_row (by omega)) (h.2.2.2.2.2.2.2.2.2.1), up_eq, trivial⟩) (pc' := 414) rfl ?_
  refine T_goto zk_154_414 ?_
  refine T_goto zk_154_422 ?_
  refine T_loc (L := [(0, av 35 0 0), (1, iv p0), (2, iv p1), (3, iv O), (4, iv 0)]) (E := [(5, iv c)]) rfl ?_
  exact fun σ' h => hgo σ' _ _ h.1 (PSt_e (PSt_at hP ⟨(h.2.2.2.2.2.2.2.2.2.1), by omega⟩ (h.2.1) (h.2.2.1) (h.2.2.2.1) (h.2.2.2.2.1) (h.2.2.2.2.2.1) (h.2.2.2.2.2.2.2.1) (h.2.2.2.2.2.2.2.2.1)) (by omega) rfl) (by rw [(h.2.2.2.2.2.2.2.2.2.1)]; omega) (Or.inl rfl) (by rw [(h.2.2.2.2.2.2.2.2.2.1)]; omega)
theorem m_154_d {xs : Nat × (Nat → Int32)} {Q : Option Value → ZS → Prop} (p0 p1 O T0 c : Int) (hp0 : 0 ≤ p0 ∧ p0 ≤ 7) (hp1 : 0 ≤ p1 ∧ p1 ≤ 5) (hcc : -2147483648 ≤ c ∧ c ≤ 2147483647) (σ : ZS) (hI : Inv σ) (hP : PSt σ p1 1 O 0) (hO : 0 ≤ O ∧ O ≤ σ 35 0 0 19) (hlt : σ 35 0 0 19 < σ 35 0 0 20) (hT : T0 ≤ σ 35 0 0 19) (hpos : 0 < O) (hb : 0 < σ 35 0 0 24 → ¬ (σ 50 0 0 (Int.toNat (σ 35 0 0 24 - 1)) = 38 ∨ σ 50 0 0 (Int.toNat (σ 35 0 0 24 - 1)) = 124)) (hgo : ∀ σ' O' W', IF (MCo (Int.toNat p1)) σ σ' → PSt σ' p1 (1 - W') O' 0 → (0 ≤ O' ∧ O' ≤ σ' 35 0 0 19) → (W' = 0 ∨ W' = 1) → T0 < σ' 35 0 0 19 → TT xs 6 154 153 [(0, av 35 0 0), (1, iv p0), (2, iv p1), (3, iv (O')), (4, iv (W'))] [] σ' Q) : TT xs 6 154 376 [(0, av 35 0 0), (1, iv p0), (2, iv p1), (3, iv O), (4, iv 0), (5, iv c)] [] σ Q := by
  obtain ⟨⟨a1, a2, a3, a4, a5⟩, ⟨b1, b2, b3, b4, b5⟩, ⟨c1, c2, c3⟩, d1⟩ := id hP
  have ho := PSt_open0 hP hpos
  refine (show TJ xs (fun σ' => IF (MCo (Int.toNat p1)) σ σ' ∧ σ' 35 0 0 19 = σ 35 0 0 19 ∧ σ' 35 0 0 20 = σ 35 0 0 20 ∧ σ' 35 0 0 21 = σ 35 0 0 21 ∧ σ' 35 0 0 22 = σ 35 0 0 22 ∧ σ' 35 0 0 23 = σ 35 0 0 23 ∧ σ' 35 0 0 24 = σ 35 0 0 24 ∧ σ' 35 0 0 25 = σ 35 0 0 25 ∧ Eq (σ' 45 0 0) (σ 45 0 0) ∧ Eq (σ' 50 0 0) (σ 50 0 0) ∧ True) 6 154 376 [(0, av 35 0 0), (1, iv p0), (2, iv p1), (3, iv O), (4, iv 0), (5, iv c)] [] Q from ?_) σ ⟨IF.rf hI, rfl, rfl, rfl, rfl, rfl, rfl, rfl, rfl, rfl, trivial⟩
  refine T_ld zk_154_376 rfl rfl rfl (pc' := 377) rfl ?_
  refine T_op (st' := [av 35 0 0, av 35 0 0]) zk_154_377 rfl rfl (pc' := 378) rfl ?_
  refine G_getX (w := σ 35 0 0 24) zk_154_378 rfl vd_35 (fun σ' h => h.2.2.2.2.2.2.1) (pc' := 381) rfl ?_
  refine T_op zk_154_381 rfl X_ic (pc' := 382) rfl ?_
  refine T_op zk_154_382 rfl X_sub (pc' := 383) rfl ?_
  refine T_putf (J' := (fun σ' => IF (MCo (Int.toNat p1)) σ σ' ∧ σ' 35 0 0 19 = σ 35 0 0 19 ∧ σ' 35 0 0 20 = σ 35 0 0 20 ∧ σ' 35 0 0 21 = σ 35 0 0 21 ∧ σ' 35 0 0 22 = σ 35 0 0 22 ∧ σ' 35 0 0 23 = σ 35 0 0 23 ∧ σ' 35 0 0 25 = σ 35 0 0 25 ∧ Eq (σ' 45 0 0) (σ 45 0 0) ∧ Eq (σ' 50 0 0) (σ 50 0 0) ∧ σ' 35 0 0 24 = σ 35 0 0 24 - 1 ∧ True)) zk_154_383 rfl rfl vd_35 (fun σ' h => ⟨h.1.up (by simp only [rgP] <;> omega) (by first | exact pMCo rfl | (unfold MCo; omega)), (up_ne (by omega)).trans (h.2.1), (up_ne (by omega)).trans (h.2.2.1), (up_ne (by omega)).trans (h.2.2.2.1), (up_ne (by omega)).trans (h.2.2.2.2.1), (up_ne (by omega)).trans (h.2.2.2.2.2.1), (up_ne (by omega)).trans (h.2.2.2.2.2.2.2.1), gf_mk (fun z => Eq z (σ 45 0 0)) (up_row (by omega)) (h.2.2.2.2.2.2.2.2.1), gf_mk (fun z => Eq z (σ 50 0 0)) (up_row (by omega)) (h.2.2.2.2.2.2.2.2.2.1), up_eq, trivial⟩) (pc' := 386) rfl ?_
  refine T_ld zk_154_386 rfl rfl rfl (pc' := 387) rfl ?_
  refine T_op (st' := [av 35 0 0, av 35 0 0]) zk_154_387 rfl rfl (pc' := 388) rfl ?_
  refine G_getX (w := σ 35 0 0 25) zk_154_388 rfl vd_35 (fun σ' h => h.2.2.2.2.2.2.1) (pc' := 391) rfl ?_
  refine T_op zk_154_391 rfl X_ic (pc' := 392) rfl ?_
  refine G_unk zk_154_392 rfl (pc' := 393) rfl (fun y1 hy1 hy1' => ?_)
  refine T_putf (J' := (fun σ' => IF (MCo (Int.toNat p1)) σ σ' ∧ σ' 35 0 0 19 = σ 35 0 0 19 ∧ σ' 35 0 0 20 = σ 35 0 0 20 ∧ σ' 35 0 0 21 = σ 35 0 0 21 ∧ σ' 35 0 0 22 = σ 35 0 0 22 ∧ σ' 35 0 0 23 = σ 35 0 0 23 ∧ Eq (σ' 45 0 0) (σ 45 0 0) ∧ Eq (σ' 50 0 0) (σ 50 0 0) ∧ σ' 35 0 0 24 = σ 35 0 0 24 - 1 ∧ σ' 35 0 0 25 = y1 ∧ True)) zk_154_393 rfl rfl vd_35 (fun σ' h => ⟨h.1.up (by simp only [rgP] <;> omega) (by first | exact pMCo rfl | (unfold MCo; omega)), (up_ne (by omega)).trans (h.2.1), (up_ne (by omega)).trans (h.2.2.1), (up_ne (by omega)).trans (h.2.2.2.1), (up_ne (by omega)).trans (h.2.2.2.2.1), (up_ne (by omega)).trans (h.2.2.2.2.2.1), gf_mk (fun z => Eq z (σ 45 0 0)) (up_row (by omega)) (h.2.2.2.2.2.2.2.1), gf_mk (fun z => Eq z (σ 50 0 0)) (up_row (by omega)) (h.2.2.2.2.2.2.2.2.1), (up_ne (by omega)).trans (h.2.2.2.2.2.2.2.2.2.1), up_eq, trivial⟩) (pc' := 396) rfl ?_
  refine T_iinc (L' := [(0, av 35 0 0), (1, iv p0), (2, iv p1), (3, iv (O + (-1))), (4, iv 0), (5, iv c)]) zk_154_396 (nL := 6) rfl rfl rfl rfl (pc' := 399) rfl ?_
  refine G_know (J' := (fun σ' => IF (MCo (Int.toNat p1)) σ σ' ∧ σ' 35 0 0 19 = σ 35 0 0 19 ∧ σ' 35 0 0 20 = σ 35 0 0 20 ∧ σ' 35 0 0 21 = σ 35 0 0 21 ∧ σ' 35 0 0 22 = σ 35 0 0 22 ∧ σ' 35 0 0 23 = σ 35 0 0 23 ∧ Eq (σ' 45 0 0) (σ 45 0 0) ∧ Eq (σ' 50 0 0) (σ 50 0 0) ∧ σ' 35 0 0 24 = σ 35 0 0 24 - 1 ∧ σ' 35 0 0 25 = y1 ∧ (PSt σ' p1 1 (O + (-1)) 0) ∧ True)) (fun σ' h => ⟨h.1, h.2.1, h.2.2.1, h.2.2.2.1, h.2.2.2.2.1, h.2.2.2.2.2.1, h.2.2.2.2.2.2.1, h.2.2.2.2.2.2.2.1, h.2.2.2.2.2.2.2.2.1, h.2.2.2.2.2.2.2.2.2.1, PSt_e (PSt_shut hP ho (hb ho) (h.2.1) (h.2.2.1) (h.2.2.2.1) (h.2.2.2.2.1) (h.2.2.2.2.2.1) (h.2.2.2.2.2.2.2.2.1) (h.2.2.2.2.2.2.1) (h.2.2.2.2.2.2.2.1)) rfl (by omega), trivial⟩) ?_
  refine T_ld zk_154_399 rfl rfl rfl (pc' := 400) rfl ?_
  refine T_ld zk_154_400 rfl rfl rfl (pc' := 401) rfl ?_
  refine T_callv (J' := (fun σ' => IF (MCo (Int.toNat p1)) σ σ' ∧ σ' 35 0 0 19 = σ 35 0 0 19 ∧ σ' 35 0 0 20 = σ 35 0 0 20 ∧ σ' 35 0 0 21 = σ 35 0 0 21 ∧ σ' 35 0 0 23 = σ 35 0 0 23 ∧ Eq (σ' 50 0 0) (σ 50 0 0) ∧ (PSt σ' p1 1 (O + (-1)) 0) ∧ True)) (r := []) zk_154_401 rfl rfl rfl rfl rfl rfl (Or.inr ⟨_, _, _, _, rfl, vd_35, rfl⟩) (fun σ' h => (m_152 p1 ((O + (-1))) (by omega) σ' h.1.1 (h.2.2.2.2.2.2.2.2.2.2.1)).le (Nat.le_of_ble_eq_true rfl) (fun v σ2 ⟨h1, h3, h4⟩ => ⟨h1, h.1.tr h3 (fun t i k j h => by unfold MCl at h; unfold MCo; omega), (h3.2 _ _ _ _ (by first | exact nMCl rfl | (unfold MCl; omega))).trans (h.2.1), (h3.2 _ _ _ _ (by first | exact nMCl rfl | (unfold MCl; omega))).trans (h.2.2.1), (h3.2 _ _ _ _ (by first | exact nMCl rfl | (unfold MCl; omega))).trans (h.2.2.2.1), (h3.2 _ _ _ _ (by first | exact nMCl rfl | (unfold MCl; omega))).trans (h.2.2.2.2.2.1), gf_mk (fun z => Eq z (σ 50 0 0)) (funext fun j => h3.2 _ _ _ _ (by first | exact nMCl rfl | (unfold MCl; omega))) (h.2.2.2.2.2.2.2.1), h4.1, trivial⟩)) (pc' := 404) rfl ?_
  exact fun σ' h => m_154_d2 p0 p1 (O + (-1)) T0 c hp0 hp1 hcc σ' h.1.1 (h.2.2.2.2.2.2.1) (by rw [(h.2.1)]; omega) (by rw [(h.2.1), (h.2.2.1)]; omega) (by rw [(h.2.1)]; omega) (fun σ2 O2 W2 h1 => hgo σ2 O2 W2 (h.1.tr h1 (fun _ _ _ _ q => q)))
theorem m_154_b {xs : Nat × (Nat → Int32)} {Q : Option Value → ZS → Prop} (p0 p1 O T0 c : Int) (hp0 : 0 ≤ p0 ∧ p0 ≤ 7) (hp1 : 0 ≤ p1 ∧ p1 ≤ 5) (hcc : -2147483648 ≤ c ∧ c ≤ 2147483647) (σ : ZS) (hI : Inv σ) (hP : PSt σ p1 0 O 1) (hO : 0 ≤ O ∧ O ≤ σ 35 0 0 19) (hT : T0 < σ 35 0 0 19) (hgo : ∀ σ' O' W', IF (MCo (Int.toNat p1)) σ σ' → PSt σ' p1 (1 - W') O' 0 → (0 ≤ O' ∧ O' ≤ σ' 35 0 0 19) → (W' = 0 ∨ W' = 1) → T0 < σ' 35 0 0 19 → TT xs 6 154 153 [(0, av 35 0 0), (1, iv p0), (2, iv p1), (3, iv (O')), (4, iv (W'))] [] σ' Q) : TT xs 6 154 272 [(0, av 35 0 0), (1, iv p0), (2, iv p1), (3, iv O), (4, iv 1), (5, iv c)] [] σ Q := by
  obtain ⟨⟨a1, a2, a3, a4, a5⟩, ⟨b1, b2, b3, b4, b5⟩, ⟨c1, c2, c3⟩, d1⟩ := id hP
  refine (show TJ xs (fun σ' => IF (MCo (Int.toNat p1)) σ σ' ∧ σ' 35 0 0 19 = σ 35 0 0 19 ∧ σ' 35 0 0 20 = σ 35 0 0 20 ∧ σ' 35 0 0 21 = σ 35 0 0 21 ∧ σ' 35 0 0 22 = σ 35 0 0 22 ∧ σ' 35 0 0 23 = σ 35 0 0 23 ∧ σ' 35 0 0 24 = σ 35 0 0 24 ∧ σ' 35 0 0 25 = σ 35 0 0 25 ∧ Eq (σ' 45 0 0) (σ 45 0 0) ∧ Eq (σ' 50 0 0) (σ 50 0 0) ∧ True) 6 154 272 [(0, av 35 0 0), (1, iv p0), (2, iv p1), (3, iv O), (4, iv 1), (5, iv c)] [] Q from ?_) σ ⟨IF.rf hI, rfl, rfl, rfl, rfl, rfl, rfl, rfl, rfl, rfl, trivial⟩
  refine T_ld zk_154_272 rfl rfl rfl (pc' := 273) rfl ?_
  refine T_ld zk_154_273 rfl rfl rfl (pc' := 274) rfl ?_
  refine T_ld zk_154_274 rfl rfl rfl (pc' := 275) rfl ?_
  refine G_getX (w := σ 35 0 0 23) zk_154_275 rfl vd_35 (fun σ' h => h.2.2.2.2.2.1) (pc' := 278) rfl ?_
  refine T_op zk_154_278 rfl X_ic (pc' := 279) rfl ?_
  refine T_op zk_154_279 rfl X_sub (pc' := 280) rfl ?_
  refine T_callv (J' := (fun σ' => IF (MCo (Int.toNat p1)) σ σ' ∧ σ' 35 0 0 19 = σ 35 0 0 19 ∧ σ' 35 0 0 20 = σ 35 0 0 20 ∧ σ' 35 0 0 21 = σ 35 0 0 21 ∧ σ' 35 0 0 23 = σ 35 0 0 23 ∧ σ' 35 0 0 24 = σ 35 0 0 24 ∧ σ' 35 0 0 25 = σ 35 0 0 25 ∧ Eq (σ' 50 0 0) (σ 50 0 0) ∧ σ' 35 0 0 22 = σ 35 0 0 22 + 1 ∧ Eq (σ' 45 0 0) (fun q => if q = Int.toNat (120 * p1 + σ 35 0 0 22) then σ 35 0 0 23 - 1 else (σ 45 0 0) q) ∧ True)) (r := []) zk_154_280 rfl rfl rfl rfl rfl rfl (Or.inr ⟨_, _, _, _, rfl, vd_35, rfl⟩) (fun σ' h => (m_151 p1 (σ 35 0 0 23 - 1) (σ 35 0 0 22) ((σ 45 0 0)) (by omega) (by omega) (by omega) σ' h.1.1 (h.2.2.2.2.1) (h.2.2.2.2.2.2.2.2.1)).le (Nat.le_of_ble_eq_true rfl) (fun v σ2 ⟨h1, h3, h4⟩ => ⟨h1, h.1.tr h3 (fun t i k j h => by unfold MEm at h; unfold MCo; omega), (h3.2 _ _ _ _ (by unfold MEm; omega)).trans (h.2.1), (h3.2 _ _ _ _ (by unfold MEm; omega)).trans (h.2.2.1), (h3.2 _ _ _ _ (by unfold MEm; omega)).trans (h.2.2.2.1), (h3.2 _ _ _ _ (by unfold MEm; omega)).trans (h.2.2.2.2.2.1), (h3.2 _ _ _ _ (by unfold MEm; omega)).trans (h.2.2.2.2.2.2.1), (h3.2 _ _ _ _ (by unfold MEm; omega)).trans (h.2.2.2.2.2.2.2.1), gf_mk (fun z => Eq z (σ 50 0 0)) (funext fun j => h3.2 _ _ _ _ (by unfold MEm; omega)) (h.2.2.2.2.2.2.2.2.2.1), h4.1, h4.2.1, trivial⟩)) (pc' := 283) rfl ?_
  refine G_know (J' := (fun σ' => IF (MCo (Int.toNat p1)) σ σ' ∧ σ' 35 0 0 19 = σ 35 0 0 19 ∧ σ' 35 0 0 20 = σ 35 0 0 20 ∧ σ' 35 0 0 21 = σ 35 0 0 21 ∧ σ' 35 0 0 23 = σ 35 0 0 23 ∧ σ' 35 0 0 24 = σ 35 0 0 24 ∧ σ' 35 0 0 25 = σ 35 0 0 25 ∧ Eq (σ' 50 0 0) (σ 50 0 0) ∧ σ' 35 0 0 22 = σ 35 0 0 22 + 1 ∧ Eq (σ' 45 0 0) (fun q => if q = Int.toNat (120 * p1 + σ 35 0 0 22) then σ 35 0 0 23 - 1 else (σ 45 0 0) q) ∧ (PSt σ' p1 1 O 0) ∧ True)) (fun σ' h => ⟨h.1, h.2.1, h.2.2.1, h.2.2.2.1, h.2.2.2.2.1, h.2.2.2.2.2.1, h.2.2.2.2.2.2.1, h.2.2.2.2.2.2.2.1, h.2.2.2.2.2.2.2.2.1, h.2.2.2.2.2.2.2.2.2.1, PSt_test hP (by omega) (by omega) (h.2.2.2.2.2.1) (h.2.2.2.2.2.2.2.2.1) (h.2.2.2.2.2.2.2.2.2.1) (h.2.2.2.2.2.2.2.1) (h.2.1) (h.2.2.1) (h.2.2.2.1) (h.2.2.2.2.1), trivial⟩) ?_
  refine T_ld zk_154_283 rfl rfl rfl (pc' := 284) rfl ?_
  refine T_ld zk_154_284 rfl rfl rfl (pc' := 285) rfl ?_
  refine T_callv (J' := (fun σ' => IF (MCo (Int.toNat p1)) σ σ' ∧ σ' 35 0 0 19 = σ 35 0 0 19 ∧ σ' 35 0 0 20 = σ 35 0 0 20 ∧ σ' 35 0 0 21 = σ 35 0 0 21 ∧ σ' 35 0 0 23 = σ 35 0 0 23 ∧ Eq (σ' 50 0 0) (σ 50 0 0) ∧ (PSt σ' p1 1 O 0) ∧ True)) (r := []) zk_154_285 rfl rfl rfl rfl rfl rfl (Or.inr ⟨_, _, _, _, rfl, vd_35, rfl⟩) (fun σ' h => (m_152 p1 O (by omega) σ' h.1.1 (h.2.2.2.2.2.2.2.2.2.2.1)).le (Nat.le_of_ble_eq_true rfl) (fun v σ2 ⟨h1, h3, h4⟩ => ⟨h1, h.1.tr h3 (fun t i k j h => by unfold MCl at h; unfold MCo; omega), (h3.2 _ _ _ _ (by first | exact nMCl rfl | (unfold MCl; omega))).trans (h.2.1), (h3.2 _ _ _ _ (by first | exact nMCl rfl | (unfold MCl; omega))).trans (h.2.2.1), (h3.2 _ _ _ _ (by first | exact nMCl rfl | (unfold MCl; omega))).trans (h.2.2.2.1), (h3.2 _ _ _ _ (by first | exact nMCl rfl | (unfold MCl; omega))).trans (h.2.2.2.2.1), gf_mk (fun z => Eq z (σ 50 0 0)) (funext fun j => h3.2 _ _ _ _ (by first | exact nMCl rfl | (unfold MCl; omega))) (h.2.2.2.2.2.2.2.1), h4.1, trivial⟩)) (pc' := 288) rfl ?_
  refine T_op zk_154_288 rfl X_ic (pc' := 289) rfl ?_
  refine T_st (L' := [(0, av 35 0 0), (1, iv p0), (2, iv p1), (3, iv O), (4, iv 0), (5, iv c)]) zk_154_289 (nL := 6) rfl rfl rfl rfl rfl (pc' := 291) rfl ?_
  refine T_goto zk_154_291 ?_
  refine T_goto zk_154_422 ?_
  refine T_loc (L := [(0, av 35 0 0), (1, iv p0), (2, iv p1), (3, iv O), (4, iv 0)]) (E := [(5, iv c)]) rfl ?_
  exact fun σ' h => hgo σ' _ _ h.1 (PSt_e (h.2.2.2.2.2.2.1) (by omega) rfl) (by rw [(h.2.1)]; omega) (Or.inl rfl) (by rw [(h.2.1)]; omega)
theorem m_154_a {xs : Nat × (Nat → Int32)} {Q : Option Value → ZS → Prop} (p0 p1 O W : Int) (hp0 : 0 ≤ p0 ∧ p0 ≤ 7) (hp1 : 0 ≤ p1 ∧ p1 ≤ 5) (hW : W = 0 ∨ W = 1) (σ : ZS) (hI : Inv σ) (hP : PSt σ p1 (1 - W) O 0) (hO : 0 ≤ O ∧ O ≤ σ 35 0 0 19) (hret : ∀ y σ', IF (MCo (Int.toNat p1)) σ σ' → (-1 ≤ y ∧ y ≤ 96) → (y = -1 → okc (σ' 45 0 0) (Int.toNat (120 * p1)) (Int.toNat (σ' 44 0 0 (Int.toNat p1)))) → Q (some (iv y)) σ') (hgo : ∀ σ' O' W', IF (MCo (Int.toNat p1)) σ σ' → PSt σ' p1 (1 - W') O' 0 → (0 ≤ O' ∧ O' ≤ σ' 35 0 0 19) → (W' = 0 ∨ W' = 1) → σ 35 0 0 19 < σ' 35 0 0 19 → TT xs 6 154 153 [(0, av 35 0 0), (1, iv p0), (2, iv p1), (3, iv (O')), (4, iv (W'))] [] σ' Q) : TT xs 6 154 153 [(0, av 35 0 0), (1, iv p0), (2, iv p1), (3, iv O), (4, iv W)] [] σ Q := by
  obtain ⟨⟨a1, a2, a3, a4, a5⟩, ⟨b1, b2, b3, b4, b5⟩, ⟨c1, c2, c3⟩, d1⟩ := id hP
  have r25 := (hI 35 0 0 25 vd_35).1
  refine (show TJ xs (fun σ' => IF (MCo (Int.toNat p1)) σ σ' ∧ σ' 35 0 0 19 = σ 35 0 0 19 ∧ σ' 35 0 0 20 = σ 35 0 0 20 ∧ σ' 35 0 0 21 = σ 35 0 0 21 ∧ σ' 35 0 0 22 = σ 35 0 0 22 ∧ σ' 35 0 0 23 = σ 35 0 0 23 ∧ σ' 35 0 0 24 = σ 35 0 0 24 ∧ σ' 35 0 0 25 = σ 35 0 0 25 ∧ Eq (σ' 45 0 0) (σ 45 0 0) ∧ Eq (σ' 50 0 0) (σ 50 0 0) ∧ True) 6 154 153 [(0, av 35 0 0), (1, iv p0), (2, iv p1), (3, iv O), (4, iv W)] [] Q from ?_) σ ⟨IF.rf hI, rfl, rfl, rfl, rfl, rfl, rfl, rfl, rfl, rfl, trivial⟩
  refine T_ld zk_154_153 rfl rfl rfl (pc' := 154) rfl ?_
  refine G_getX (w := σ 35 0 0 19) zk_154_154 rfl vd_35 (fun σ' h => h.2.1) (pc' := 157) rfl ?_
  refine T_ld zk_154_157 rfl rfl rfl (pc' := 158) rfl ?_
  refine G_getX (w := σ 35 0 0 20) zk_154_158 rfl vd_35 (fun σ' h => h.2.2.1) (pc' := 161) rfl ?_
  refine T_icmp_ge zk_154_161 (by omega) (by omega) (pc' := 164) rfl (fun h1 => ?_) (fun h2 => ?_)
  ·
    refine T_ld zk_154_425 rfl rfl rfl (pc' := 427) rfl ?_
    refine T_if_ne zk_154_427 (by omega) (pc' := 430) rfl (fun h3 => ?_) (fun h4 => ?_)
    ·
      refine T_ld zk_154_434 rfl rfl rfl (pc' := 435) rfl ?_
      refine G_getX (w := σ 35 0 0 20) zk_154_435 rfl vd_35 (fun σ' h => h.2.2.1) (pc' := 438) rfl ?_
      exact T_iret zk_154_438 rfl (fun σ' h => hret _ σ' h.1 (by omega) (fun q => by exfalso; omega))
    ·
      refine T_ld zk_154_430 rfl rfl rfl (pc' := 431) rfl ?_
      refine T_if_le zk_154_431 (by omega) (pc' := 434) rfl (fun h5 => ?_) (fun h6 => ?_)
      ·
        refine G_know (J' := (fun σ' => IF (MCo (Int.toNat p1)) σ σ' ∧ σ' 35 0 0 19 = σ 35 0 0 19 ∧ σ' 35 0 0 20 = σ 35 0 0 20 ∧ σ' 35 0 0 21 = σ 35 0 0 21 ∧ σ' 35 0 0 22 = σ 35 0 0 22 ∧ σ' 35 0 0 23 = σ 35 0 0 23 ∧ σ' 35 0 0 24 = σ 35 0 0 24 ∧ σ' 35 0 0 25 = σ 35 0 0 25 ∧ Eq (σ' 45 0 0) (σ 45 0 0) ∧ Eq (σ' 50 0 0) (σ 50 0 0) ∧ (PSt σ' p1 1 O 0) ∧ True)) (fun σ' h => ⟨h.1, h.2.1, h.2.2.1, h.2.2.2.1, h.2.2.2.2.1, h.2.2.2.2.2.1, h.2.2.2.2.2.2.1, h.2.2.2.2.2.2.2.1, h.2.2.2.2.2.2.2.2.1, h.2.2.2.2.2.2.2.2.2.1, PSt_e (PSt_same hP (h.2.1) (h.2.2.1) (h.2.2.2.1) (h.2.2.2.2.1) (h.2.2.2.2.2.1) (h.2.2.2.2.2.2.1) (h.2.2.2.2.2.2.2.2.1) (h.2.2.2.2.2.2.2.2.2.1)) (by omega) rfl, trivial⟩) ?_
        refine T_ld zk_154_439 rfl rfl rfl (pc' := 440) rfl ?_
        refine T_ld zk_154_440 rfl rfl rfl (pc' := 441) rfl ?_
        refine T_op zk_154_441 rfl X_ic (pc' := 442) rfl ?_
        refine T_callv (J' := (fun σ' => IF (MCo (Int.toNat p1)) σ σ' ∧ σ' 35 0 0 19 = σ 35 0 0 19 ∧ σ' 35 0 0 20 = σ 35 0 0 20 ∧ σ' 35 0 0 21 = σ 35 0 0 21 ∧ σ' 35 0 0 23 = σ 35 0 0 23 ∧ Eq (σ' 50 0 0) (σ 50 0 0) ∧ (PSt σ' p1 1 O 0) ∧ (0 = 0 → 0 < σ' 35 0 0 24 → ¬ (σ' 50 0 0 (Int.toNat (σ' 35 0 0 24 - 1)) = 38 ∨ σ' 50 0 0 (Int.toNat (σ' 35 0 0 24 - 1)) = 124)) ∧ True)) (r := []) zk_154_442 rfl rfl rfl rfl rfl rfl (Or.inr ⟨_, _, _, _, rfl, vd_35, rfl⟩) (fun σ' h => (m_153 p1 0 O (by omega) (by omega) σ' h.1.1 (h.2.2.2.2.2.2.2.2.2.2.1)).le (Nat.le_of_ble_eq_true rfl) (fun v σ2 ⟨h1, h3, h4⟩ => ⟨h1, h.1.tr h3 (fun t i k j h => by unfold MCl at h; unfold MCo; omega), (h3.2 _ _ _ _ (by first | exact nMCl rfl | (unfold MCl; omega))).trans (h.2.1), (h3.2 _ _ _ _ (by first | exact nMCl rfl | (unfold MCl; omega))).trans (h.2.2.1), (h3.2 _ _ _ _ (by first | exact nMCl rfl | (unfold MCl; omega))).trans (h.2.2.2.1), (h3.2 _ _ _ _ (by first | exact nMCl rfl | (unfold MCl; omega))).trans (h.2.2.2.2.2.1), gf_mk (fun z => Eq z (σ 50 0 0)) (funext fun j => h3.2 _ _ _ _ (by first | exact nMCl rfl | (unfold MCl; omega))) (h.2.2.2.2.2.2.2.2.2.1), h4.1, h4.2.1, trivial⟩)) (pc' := 445) rfl ?_
        obtain rfl : W = 0 := by omega
        exact fun σ' h => m_154_e p0 p1 O (σ 35 0 0 19) hp0 hp1 σ' h.1.1 O (h.2.2.2.2.2.2.1) (fun y σ2 h1 => hret y σ2 (h.1.tr h1 (fun _ _ _ _ q => q)))
      ·
        refine T_ld zk_154_434 rfl rfl rfl (pc' := 435) rfl ?_
        refine G_getX (w := σ 35 0 0 20) zk_154_435 rfl vd_35 (fun σ' h => h.2.2.1) (pc' := 438) rfl ?_
        exact T_iret zk_154_438 rfl (fun σ' h => hret _ σ' h.1 (by omega) (fun q => by exfalso; omega))
  ·
    refine T_ld zk_154_164 rfl rfl rfl (pc' := 165) rfl ?_
    refine T_calli (K := fun y8 σ' => (-2147483648 ≤ y8 ∧ y8 ≤ 2147483647) ∧ (fun σ' => IF (MCo (Int.toNat p1)) σ σ' ∧ σ' 35 0 0 19 = σ 35 0 0 19 ∧ σ' 35 0 0 20 = σ 35 0 0 20 ∧ σ' 35 0 0 21 = σ 35 0 0 21 ∧ σ' 35 0 0 22 = σ 35 0 0 22 ∧ σ' 35 0 0 23 = σ 35 0 0 23 ∧ σ' 35 0 0 24 = σ 35 0 0 24 ∧ σ' 35 0 0 25 = σ 35 0 0 25 ∧ Eq (σ' 45 0 0) (σ 45 0 0) ∧ Eq (σ' 50 0 0) (σ 50 0 0) ∧ True) σ') (r := []) zk_154_165 rfl rfl rfl rfl rfl rfl (Or.inr ⟨_, _, _, _, rfl, vd_35, rfl⟩) (fun σ' h => (m_148 (σ 35 0 0 19) (σ 35 0 0 20) (σ 35 0 0 21) (by omega) (by omega) (by omega) σ' h.1.1 (h.2.1) (h.2.2.1) (h.2.2.2.1)).le (Nat.le_of_ble_eq_true rfl) (fun v σ2 ⟨y, h1, h2, h3, h4⟩ => ⟨y, h1, h2, h.1.tr h3 MN_sub, (h3.2 _ _ _ _ (fun q => q)).trans (h.2.1), (h3.2 _ _ _ _ (fun q => q)).trans (h.2.2.1), (h3.2 _ _ _ _ (fun q => q)).trans (h.2.2.2.1), (h3.2 _ _ _ _ (fun q => q)).trans (h.2.2.2.2.1), (h3.2 _ _ _ _ (fun q => q)).trans (h.2.2.2.2.2.1), (h3.2 _ _ _ _ (fun q => q)).trans (h.2.2.2.2.2.2.1), (h3.2 _ _ _ _ (fun q => q)).trans (h.2.2.2.2.2.2.2.1), gf_mk (fun z => Eq z (σ 45 0 0)) (funext fun j => h3.2 _ _ _ _ (fun q => q)) (h.2.2.2.2.2.2.2.2.1), gf_mk (fun z => Eq z (σ 50 0 0)) (funext fun j => h3.2 _ _ _ _ (fun q => q)) (h.2.2.2.2.2.2.2.2.2.1), trivial⟩)) (pc' := 168) rfl (fun y8 => ?_)
    refine G_ex (fun hy8 => ?_)
    refine T_st (L' := [(0, av 35 0 0), (1, iv p0), (2, iv p1), (3, iv O), (4, iv W), (5, iv y8)]) zk_154_168 (nL := 6) rfl rfl rfl rfl rfl (pc' := 170) rfl ?_
    refine T_ld zk_154_170 rfl rfl rfl (pc' := 172) rfl ?_
    refine T_if_eq zk_154_172 (by omega) (pc' := 175) rfl (fun h9 => ?_) (fun h10 => ?_)
    ·
      refine T_ld zk_154_254 rfl rfl rfl (pc' := 256) rfl ?_
      refine T_if_eq zk_154_256 (by omega) (pc' := 259) rfl (fun h11 => ?_) (fun h12 => ?_)
      ·
        refine T_ld zk_154_294 rfl rfl rfl (pc' := 296) rfl ?_
        refine T_op zk_154_296 rfl (X_bi (v := 38) (by decide)) (pc' := 298) rfl ?_
        refine T_icmp_eq zk_154_298 (by omega) (by omega) (pc' := 301) rfl (fun h13 => ?_) (fun h14 => ?_)
        ·
          refine G_know (J' := (fun σ' => IF (MCo (Int.toNat p1)) σ σ' ∧ σ' 35 0 0 19 = σ 35 0 0 19 ∧ σ' 35 0 0 20 = σ 35 0 0 20 ∧ σ' 35 0 0 21 = σ 35 0 0 21 ∧ σ' 35 0 0 22 = σ 35 0 0 22 ∧ σ' 35 0 0 23 = σ 35 0 0 23 ∧ σ' 35 0 0 24 = σ 35 0 0 24 ∧ σ' 35 0 0 25 = σ 35 0 0 25 ∧ Eq (σ' 45 0 0) (σ 45 0 0) ∧ Eq (σ' 50 0 0) (σ 50 0 0) ∧ (PSt σ' p1 1 O 0) ∧ True)) (fun σ' h => ⟨h.1, h.2.1, h.2.2.1, h.2.2.2.1, h.2.2.2.2.1, h.2.2.2.2.2.1, h.2.2.2.2.2.2.1, h.2.2.2.2.2.2.2.1, h.2.2.2.2.2.2.2.2.1, h.2.2.2.2.2.2.2.2.2.1, PSt_e (PSt_same hP (h.2.1) (h.2.2.1) (h.2.2.2.1) (h.2.2.2.2.1) (h.2.2.2.2.2.1) (h.2.2.2.2.2.2.1) (h.2.2.2.2.2.2.2.2.1) (h.2.2.2.2.2.2.2.2.2.1)) (by omega) rfl, trivial⟩) ?_
          refine T_ld zk_154_308 rfl rfl rfl (pc' := 309) rfl ?_
          refine T_ld zk_154_309 rfl rfl rfl (pc' := 310) rfl ?_
          refine T_ld zk_154_310 rfl rfl rfl (pc' := 312) rfl ?_
          refine T_op zk_154_312 rfl (X_bi (v := 38) (by decide)) (pc' := 314) rfl ?_
          refine T_icmp_ne zk_154_314 (by omega) (by omega) (pc' := 317) rfl (fun h15 => ?_) (fun h16 => ?_)
          · exfalso; omega
          ·
            refine T_op zk_154_317 rfl X_ic (pc' := 318) rfl ?_
            refine T_goto zk_154_318 ?_
            refine T_callv (J' := (fun σ' => IF (MCo (Int.toNat p1)) σ σ' ∧ σ' 35 0 0 19 = σ 35 0 0 19 ∧ σ' 35 0 0 20 = σ 35 0 0 20 ∧ σ' 35 0 0 21 = σ 35 0 0 21 ∧ σ' 35 0 0 23 = σ 35 0 0 23 ∧ Eq (σ' 50 0 0) (σ 50 0 0) ∧ (PSt σ' p1 1 O 0) ∧ (1 = 0 → 0 < σ' 35 0 0 24 → ¬ (σ' 50 0 0 (Int.toNat (σ' 35 0 0 24 - 1)) = 38 ∨ σ' 50 0 0 (Int.toNat (σ' 35 0 0 24 - 1)) = 124)) ∧ True)) (r := []) zk_154_322 rfl rfl rfl rfl rfl rfl (Or.inr ⟨_, _, _, _, rfl, vd_35, rfl⟩) (fun σ' h => (m_153 p1 1 O (by omega) (by omega) σ' h.1.1 (h.2.2.2.2.2.2.2.2.2.2.1)).le (Nat.le_of_ble_eq_true rfl) (fun v σ2 ⟨h1, h3, h4⟩ => ⟨h1, h.1.tr h3 (fun t i k j h => by unfold MCl at h; unfold MCo; omega), (h3.2 _ _ _ _ (by first | exact nMCl rfl | (unfold MCl; omega))).trans (h.2.1), (h3.2 _ _ _ _ (by first | exact nMCl rfl | (unfold MCl; omega))).trans (h.2.2.1), (h3.2 _ _ _ _ (by first | exact nMCl rfl | (unfold MCl; omega))).trans (h.2.2.2.1), (h3.2 _ _ _ _ (by first | exact nMCl rfl | (unfold MCl; omega))).trans (h.2.2.2.2.2.1), gf_mk (fun z => Eq z (σ 50 0 0)) (funext fun j => h3.2 _ _ _ _ (by first | exact nMCl rfl | (unfold MCl; omega))) (h.2.2.2.2.2.2.2.2.2.1), h4.1, h4.2.1, trivial⟩)) (pc' := 325) rfl ?_
            obtain rfl : W = 0 := by omega
            exact fun σ' h => m_154_c p0 p1 O (σ 35 0 0 19) y8 hp0 hp1 (by omega) σ' h.1.1 (h.2.2.2.2.2.2.1) (by rw [(h.2.1)]; omega) (by rw [(h.2.1), (h.2.2.1)]; omega) (by rw [(h.2.1)]; omega) (by omega) (fun σ2 O2 W2 h1 => hgo σ2 O2 W2 (h.1.tr h1 (fun _ _ _ _ q => q)))
        ·
          refine T_ld zk_154_301 rfl rfl rfl (pc' := 303) rfl ?_
          refine T_op zk_154_303 rfl (X_bi (v := 124) (by decide)) (pc' := 305) rfl ?_
          refine T_icmp_ne zk_154_305 (by omega) (by omega) (pc' := 308) rfl (fun h18 => ?_) (fun h19 => ?_)
          ·
            refine T_ld zk_154_359 rfl rfl rfl (pc' := 361) rfl ?_
            refine T_op zk_154_361 rfl (X_bi (v := 41) (by decide)) (pc' := 363) rfl ?_
            refine T_icmp_ne zk_154_363 (by omega) (by omega) (pc' := 366) rfl (fun h20 => ?_) (fun h21 => ?_)
            ·
              refine T_ld zk_154_417 rfl rfl rfl (pc' := 418) rfl ?_
              refine G_getX (w := σ 35 0 0 19) zk_154_418 rfl vd_35 (fun σ' h => h.2.1) (pc' := 421) rfl ?_
              exact T_iret zk_154_421 rfl (fun σ' h => hret _ σ' h.1 (by omega) (fun q => by exfalso; omega))
            ·
              refine T_ld zk_154_366 rfl rfl rfl (pc' := 367) rfl ?_
              refine T_if_le zk_154_367 (by omega) (pc' := 370) rfl (fun h22 => ?_) (fun h23 => ?_)
              ·
                refine T_ld zk_154_417 rfl rfl rfl (pc' := 418) rfl ?_
                refine G_getX (w := σ 35 0 0 19) zk_154_418 rfl vd_35 (fun σ' h => h.2.1) (pc' := 421) rfl ?_
                exact T_iret zk_154_421 rfl (fun σ' h => hret _ σ' h.1 (by omega) (fun q => by exfalso; omega))
              ·
                refine G_know (J' := (fun σ' => IF (MCo (Int.toNat p1)) σ σ' ∧ σ' 35 0 0 19 = σ 35 0 0 19 ∧ σ' 35 0 0 20 = σ 35 0 0 20 ∧ σ' 35 0 0 21 = σ 35 0 0 21 ∧ σ' 35 0 0 22 = σ 35 0 0 22 ∧ σ' 35 0 0 23 = σ 35 0 0 23 ∧ σ' 35 0 0 24 = σ 35 0 0 24 ∧ σ' 35 0 0 25 = σ 35 0 0 25 ∧ Eq (σ' 45 0 0) (σ 45 0 0) ∧ Eq (σ' 50 0 0) (σ 50 0 0) ∧ (PSt σ' p1 1 O 0) ∧ True)) (fun σ' h => ⟨h.1, h.2.1, h.2.2.1, h.2.2.2.1, h.2.2.2.2.1, h.2.2.2.2.2.1, h.2.2.2.2.2.2.1, h.2.2.2.2.2.2.2.1, h.2.2.2.2.2.2.2.2.1, h.2.2.2.2.2.2.2.2.2.1, PSt_e (PSt_same hP (h.2.1) (h.2.2.1) (h.2.2.2.1) (h.2.2.2.2.1) (h.2.2.2.2.2.1) (h.2.2.2.2.2.2.1) (h.2.2.2.2.2.2.2.2.1) (h.2.2.2.2.2.2.2.2.2.1)) (by omega) rfl, trivial⟩) ?_
                refine T_ld zk_154_370 rfl rfl rfl (pc' := 371) rfl ?_
                refine T_ld zk_154_371 rfl rfl rfl (pc' := 372) rfl ?_
                refine T_op zk_154_372 rfl X_ic (pc' := 373) rfl ?_
                refine T_callv (J' := (fun σ' => IF (MCo (Int.toNat p1)) σ σ' ∧ σ' 35 0 0 19 = σ 35 0 0 19 ∧ σ' 35 0 0 20 = σ 35 0 0 20 ∧ σ' 35 0 0 21 = σ 35 0 0 21 ∧ σ' 35 0 0 23 = σ 35 0 0 23 ∧ Eq (σ' 50 0 0) (σ 50 0 0) ∧ (PSt σ' p1 1 O 0) ∧ (0 = 0 → 0 < σ' 35 0 0 24 → ¬ (σ' 50 0 0 (Int.toNat (σ' 35 0 0 24 - 1)) = 38 ∨ σ' 50 0 0 (Int.toNat (σ' 35 0 0 24 - 1)) = 124)) ∧ True)) (r := []) zk_154_373 rfl rfl rfl rfl rfl rfl (Or.inr ⟨_, _, _, _, rfl, vd_35, rfl⟩) (fun σ' h => (m_153 p1 0 O (by omega) (by omega) σ' h.1.1 (h.2.2.2.2.2.2.2.2.2.2.1)).le (Nat.le_of_ble_eq_true rfl) (fun v σ2 ⟨h1, h3, h4⟩ => ⟨h1, h.1.tr h3 (fun t i k j h => by unfold MCl at h; unfold MCo; omega), (h3.2 _ _ _ _ (by first | exact nMCl rfl | (unfold MCl; omega))).trans (h.2.1), (h3.2 _ _ _ _ (by first | exact nMCl rfl | (unfold MCl; omega))).trans (h.2.2.1), (h3.2 _ _ _ _ (by first | exact nMCl rfl | (unfold MCl; omega))).trans (h.2.2.2.1), (h3.2 _ _ _ _ (by first | exact nMCl rfl | (unfold MCl; omega))).trans (h.2.2.2.2.2.1), gf_mk (fun z => Eq z (σ 50 0 0)) (funext fun j => h3.2 _ _ _ _ (by first | exact nMCl rfl | (unfold MCl; omega))) (h.2.2.2.2.2.2.2.2.2.1), h4.1, h4.2.1, trivial⟩)) (pc' := 376) rfl ?_
                obtain rfl : W = 0 := by omega
                exact fun σ' h => m_154_d p0 p1 O (σ 35 0 0 19) y8 hp0 hp1 (by omega) σ' h.1.1 (h.2.2.2.2.2.2.1) (by rw [(h.2.1)]; omega) (by rw [(h.2.1), (h.2.2.1)]; omega) (by rw [(h.2.1)]; omega) (by omega) ((h.2.2.2.2.2.2.2.1) rfl) (fun σ2 O2 W2 h1 => hgo σ2 O2 W2 (h.1.tr h1 (fun _ _ _ _ q => q)))
          ·
            refine G_know (J' := (fun σ' => IF (MCo (Int.toNat p1)) σ σ' ∧ σ' 35 0 0 19 = σ 35 0 0 19 ∧ σ' 35 0 0 20 = σ 35 0 0 20 ∧ σ' 35 0 0 21 = σ 35 0 0 21 ∧ σ' 35 0 0 22 = σ 35 0 0 22 ∧ σ' 35 0 0 23 = σ 35 0 0 23 ∧ σ' 35 0 0 24 = σ 35 0 0 24 ∧ σ' 35 0 0 25 = σ 35 0 0 25 ∧ Eq (σ' 45 0 0) (σ 45 0 0) ∧ Eq (σ' 50 0 0) (σ 50 0 0) ∧ (PSt σ' p1 1 O 0) ∧ True)) (fun σ' h => ⟨h.1, h.2.1, h.2.2.1, h.2.2.2.1, h.2.2.2.2.1, h.2.2.2.2.2.1, h.2.2.2.2.2.2.1, h.2.2.2.2.2.2.2.1, h.2.2.2.2.2.2.2.2.1, h.2.2.2.2.2.2.2.2.2.1, PSt_e (PSt_same hP (h.2.1) (h.2.2.1) (h.2.2.2.1) (h.2.2.2.2.1) (h.2.2.2.2.2.1) (h.2.2.2.2.2.2.1) (h.2.2.2.2.2.2.2.2.1) (h.2.2.2.2.2.2.2.2.2.1)) (by omega) rfl, trivial⟩) ?_
            refine T_ld zk_154_308 rfl rfl rfl (pc' := 309) rfl ?_
            refine T_ld zk_154_309 rfl rfl rfl (pc' := 310) rfl ?_
            refine T_ld zk_154_310 rfl rfl rfl (pc' := 312) rfl ?_
            refine T_op zk_154_312 rfl (X_bi (v := 38) (by decide)) (pc' := 314) rfl ?_
            refine T_icmp_ne zk_154_314 (by omega) (by omega) (pc' := 317) rfl (fun h25 => ?_) (fun h26 => ?_)
            ·
              refine T_op zk_154_321 rfl X_ic (pc' := 322) rfl ?_
              refine T_callv (J' := (fun σ' => IF (MCo (Int.toNat p1)) σ σ' ∧ σ' 35 0 0 19 = σ 35 0 0 19 ∧ σ' 35 0 0 20 = σ 35 0 0 20 ∧ σ' 35 0 0 21 = σ 35 0 0 21 ∧ σ' 35 0 0 23 = σ 35 0 0 23 ∧ Eq (σ' 50 0 0) (σ 50 0 0) ∧ (PSt σ' p1 1 O 0) ∧ (0 = 0 → 0 < σ' 35 0 0 24 → ¬ (σ' 50 0 0 (Int.toNat (σ' 35 0 0 24 - 1)) = 38 ∨ σ' 50 0 0 (Int.toNat (σ' 35 0 0 24 - 1)) = 124)) ∧ True)) (r := []) zk_154_322 rfl rfl rfl rfl rfl rfl (Or.inr ⟨_, _, _, _, rfl, vd_35, rfl⟩) (fun σ' h => (m_153 p1 0 O (by omega) (by omega) σ' h.1.1 (h.2.2.2.2.2.2.2.2.2.2.1)).le (Nat.le_of_ble_eq_true rfl) (fun v σ2 ⟨h1, h3, h4⟩ => ⟨h1, h.1.tr h3 (fun t i k j h => by unfold MCl at h; unfold MCo; omega), (h3.2 _ _ _ _ (by first | exact nMCl rfl | (unfold MCl; omega))).trans (h.2.1), (h3.2 _ _ _ _ (by first | exact nMCl rfl | (unfold MCl; omega))).trans (h.2.2.1), (h3.2 _ _ _ _ (by first | exact nMCl rfl | (unfold MCl; omega))).trans (h.2.2.2.1), (h3.2 _ _ _ _ (by first | exact nMCl rfl | (unfold MCl; omega))).trans (h.2.2.2.2.2.1), gf_mk (fun z => Eq z (σ 50 0 0)) (funext fun j => h3.2 _ _ _ _ (by first | exact nMCl rfl | (unfold MCl; omega))) (h.2.2.2.2.2.2.2.2.2.1), h4.1, h4.2.1, trivial⟩)) (pc' := 325) rfl ?_
              obtain rfl : W = 0 := by omega
              exact fun σ' h => m_154_c p0 p1 O (σ 35 0 0 19) y8 hp0 hp1 (by omega) σ' h.1.1 (h.2.2.2.2.2.2.1) (by rw [(h.2.1)]; omega) (by rw [(h.2.1), (h.2.2.1)]; omega) (by rw [(h.2.1)]; omega) (by omega) (fun σ2 O2 W2 h1 => hgo σ2 O2 W2 (h.1.tr h1 (fun _ _ _ _ q => q)))
            · exfalso; omega
      · exfalso; omega
    ·
      refine T_ld zk_154_175 rfl rfl rfl (pc' := 177) rfl ?_
      refine T_op zk_154_177 rfl (X_bi (v := 33) (by decide)) (pc' := 179) rfl ?_
      refine T_icmp_eq zk_154_179 (by omega) (by omega) (pc' := 182) rfl (fun h28 => ?_) (fun h29 => ?_)
      ·
        refine T_ld zk_154_189 rfl rfl rfl (pc' := 190) rfl ?_
        refine G_getX (w := σ 35 0 0 25) zk_154_190 rfl vd_35 (fun σ' h => h.2.2.2.2.2.2.2.1) (pc' := 193) rfl ?_
        refine T_op zk_154_193 rfl (X_bi (v := 20) (by decide)) (pc' := 195) rfl ?_
        refine T_icmp_ne zk_154_195 (by omega) (by omega) (pc' := 198) rfl (fun h30 => ?_) (fun h31 => ?_)
        ·
          refine T_ld zk_154_203 rfl rfl rfl (pc' := 204) rfl ?_
          refine T_op (st' := [av 35 0 0, av 35 0 0]) zk_154_204 rfl rfl (pc' := 205) rfl ?_
          refine G_getX (w := σ 35 0 0 25) zk_154_205 rfl vd_35 (fun σ' h => h.2.2.2.2.2.2.2.1) (pc' := 208) rfl ?_
          refine T_op zk_154_208 rfl X_ic (pc' := 209) rfl ?_
          refine G_unk zk_154_209 rfl (pc' := 210) rfl (fun y32 hy32 hy32' => ?_)
          refine T_putf (J' := (fun σ' => IF (MCo (Int.toNat p1)) σ σ' ∧ σ' 35 0 0 19 = σ 35 0 0 19 ∧ σ' 35 0 0 20 = σ 35 0 0 20 ∧ σ' 35 0 0 21 = σ 35 0 0 21 ∧ σ' 35 0 0 22 = σ 35 0 0 22 ∧ σ' 35 0 0 23 = σ 35 0 0 23 ∧ σ' 35 0 0 24 = σ 35 0 0 24 ∧ Eq (σ' 45 0 0) (σ 45 0 0) ∧ Eq (σ' 50 0 0) (σ 50 0 0) ∧ σ' 35 0 0 25 = y32 ∧ True)) zk_154_210 rfl rfl vd_35 (fun σ' h => ⟨h.1.up (by simp only [rgP] <;> omega) (by first | exact pMCo rfl | (unfold MCo; omega)), (up_ne (by omega)).trans (h.2.1), (up_ne (by omega)).trans (h.2.2.1), (up_ne (by omega)).trans (h.2.2.2.1), (up_ne (by omega)).trans (h.2.2.2.2.1), (up_ne (by omega)).trans (h.2.2.2.2.2.1), (up_ne (by omega)).trans (h.2.2.2.2.2.2.1), gf_mk (fun z => Eq z (σ 45 0 0)) (up_row (by omega)) (h.2.2.2.2.2.2.2.2.1), gf_mk (fun z => Eq z (σ 50 0 0)) (up_row (by omega)) (h.2.2.2.2.2.2.2.2.2.1), up_eq, trivial⟩) (pc' := 213) rfl ?_
          refine T_ld zk_154_213 rfl rfl rfl (pc' := 214) rfl ?_
          refine T_getR (t' := 50) (i' := 0) (k' := 0) zk_154_214 rfl rfl rfl vd_35 (pc' := 217) rfl ?_
          refine T_ld zk_154_217 rfl rfl rfl (pc' := 218) rfl ?_
          refine T_op (st' := [av 35 0 0, av 35 0 0, av 50 0 0]) zk_154_218 rfl rfl (pc' := 219) rfl ?_
          refine G_getX (w := σ 35 0 0 24) zk_154_219 rfl vd_35 (fun σ' h => h.2.2.2.2.2.2.1) (pc' := 222) rfl ?_
          refine T_op (st' := [iv (σ 35 0 0 24), av 35 0 0, iv (σ 35 0 0 24), av 50 0 0]) zk_154_222 rfl rfl (pc' := 223) rfl ?_
          refine T_op zk_154_223 rfl X_ic (pc' := 224) rfl ?_
          refine T_op zk_154_224 rfl X_add (pc' := 225) rfl ?_
          refine T_putf (J' := (fun σ' => IF (MCo (Int.toNat p1)) σ σ' ∧ σ' 35 0 0 19 = σ 35 0 0 19 ∧ σ' 35 0 0 20 = σ 35 0 0 20 ∧ σ' 35 0 0 21 = σ 35 0 0 21 ∧ σ' 35 0 0 22 = σ 35 0 0 22 ∧ σ' 35 0 0 23 = σ 35 0 0 23 ∧ Eq (σ' 45 0 0) (σ 45 0 0) ∧ Eq (σ' 50 0 0) (σ 50 0 0) ∧ σ' 35 0 0 25 = y32 ∧ σ' 35 0 0 24 = σ 35 0 0 24 + 1 ∧ True)) zk_154_225 rfl rfl vd_35 (fun σ' h => ⟨h.1.up (by simp only [rgP] <;> omega) (by first | exact pMCo rfl | (unfold MCo; omega)), (up_ne (by omega)).trans (h.2.1), (up_ne (by omega)).trans (h.2.2.1), (up_ne (by omega)).trans (h.2.2.2.1), (up_ne (by omega)).trans (h.2.2.2.2.1), (up_ne (by omega)).trans (h.2.2.2.2.2.1), gf_mk (fun z => Eq z (σ 45 0 0)) (up_row (by omega)) (h.2.2.2.2.2.2.2.1), gf_mk (fun z => Eq z (σ 50 0 0)) (up_row (by omega)) (h.2.2.2.2.2.2.2.2.1), (up_ne (by omega)).trans (h.2.2.2.2.2.2.2.2.2.1), up_eq, trivial⟩) (pc' := 228) rfl ?_
          refine T_ld zk_154_228 rfl rfl rfl (pc' := 230) rfl ?_
          refine G_iast (J' := (fun σ' => IF (MCo (Int.toNat p1)) σ σ' ∧ σ' 35 0 0 19 = σ 35 0 0 19 ∧ σ' 35 0 0 20 = σ 35 0 0 20 ∧ σ' 35 0 0 21 = σ 35 0 0 21 ∧ σ' 35 0 0 22 = σ 35 0 0 22 ∧ σ' 35 0 0 23 = σ 35 0 0 23 ∧ Eq (σ' 45 0 0) (σ 45 0 0) ∧ Eq (σ' 50 0 0) (fun q => if q = Int.toNat (σ 35 0 0 24) then y8 else (σ 50 0 0) q) ∧ σ' 35 0 0 25 = y32 ∧ σ' 35 0 0 24 = σ 35 0 0 24 + 1 ∧ True)) (ln := 120) zk_154_230 rfl rfl vd_50 (by omega) (by omega) (by omega) (fun σ' h => ⟨h.1.up ⟨by omega, trivial⟩ (by first | exact pMCo rfl | (unfold MCo; omega)), (up_ne (by omega)).trans (h.2.1), (up_ne (by omega)).trans (h.2.2.1), (up_ne (by omega)).trans (h.2.2.2.1), (up_ne (by omega)).trans (h.2.2.2.2.1), (up_ne (by omega)).trans (h.2.2.2.2.2.1), gf_mk (fun z => Eq z (σ 45 0 0)) (up_row (by omega)) (h.2.2.2.2.2.2.1), Eq_put (h.2.2.2.2.2.2.2.1), (up_ne (by omega)).trans (h.2.2.2.2.2.2.2.2.1), (up_ne (by omega)).trans (h.2.2.2.2.2.2.2.2.2.1), trivial⟩) (pc' := 231) rfl ?_
          refine T_ld zk_154_231 rfl rfl rfl (pc' := 233) rfl ?_
          refine T_op zk_154_233 rfl (X_bi (v := 40) (by decide)) (pc' := 235) rfl ?_
          refine T_icmp_ne zk_154_235 (by omega) (by omega) (pc' := 238) rfl (fun h33 => ?_) (fun h34 => ?_)
          ·
            refine T_ld zk_154_241 rfl rfl rfl (pc' := 242) rfl ?_
            refine T_op (st' := [av 35 0 0, av 35 0 0]) zk_154_242 rfl rfl (pc' := 243) rfl ?_
            refine G_getX (w := σ 35 0 0 19) zk_154_243 rfl vd_35 (fun σ' h => h.2.1) (pc' := 246) rfl ?_
            refine T_op zk_154_246 rfl X_ic (pc' := 247) rfl ?_
            refine T_op zk_154_247 rfl X_add (pc' := 248) rfl ?_
            refine T_putf (J' := (fun σ' => IF (MCo (Int.toNat p1)) σ σ' ∧ σ' 35 0 0 20 = σ 35 0 0 20 ∧ σ' 35 0 0 21 = σ 35 0 0 21 ∧ σ' 35 0 0 22 = σ 35 0 0 22 ∧ σ' 35 0 0 23 = σ 35 0 0 23 ∧ Eq (σ' 45 0 0) (σ 45 0 0) ∧ Eq (σ' 50 0 0) (fun q => if q = Int.toNat (σ 35 0 0 24) then y8 else (σ 50 0 0) q) ∧ σ' 35 0 0 25 = y32 ∧ σ' 35 0 0 24 = σ 35 0 0 24 + 1 ∧ σ' 35 0 0 19 = σ 35 0 0 19 + 1 ∧ True)) zk_154_248 rfl rfl vd_35 (fun σ' h => ⟨h.1.up (by simp only [rgP] <;> omega) (by first | exact pMCo rfl | (unfold MCo; omega)), (up_ne (by omega)).trans (h.2.2.1), (up_ne (by omega)).trans (h.2.2.2.1), (up_ne (by omega)).trans (h.2.2.2.2.1), (up_ne (by omega)).trans (h.2.2.2.2.2.1), gf_mk (fun z => Eq z (σ 45 0 0)) (up_row (by omega)) (h.2.2.2.2.2.2.1), gf_mk (fun z => Eq z (fun q => if q = Int.toNat (σ 35 0 0 24) then y8 else (σ 50 0 0) q)) (up_row (by omega)) (h.2.2.2.2.2.2.2.1), (up_ne (by omega)).trans (h.2.2.2.2.2.2.2.2.1), (up_ne (by omega)).trans (h.2.2.2.2.2.2.2.2.2.1), up_eq, trivial⟩) (pc' := 251) rfl ?_
            refine T_goto zk_154_251 ?_
            refine T_goto zk_154_422 ?_
            have hb1 := bB_spec y8
            have hb2 := bP_spec y8
            obtain rfl : W = 1 := by omega
            refine T_loc (L := [(0, av 35 0 0), (1, iv p0), (2, iv p1), (3, iv O), (4, iv 1)]) (E := [(5, iv y8)]) rfl ?_
            exact fun σ' h => hgo σ' _ _ h.1 (PSt_sign hP (by omega) (by omega) ⟨(h.2.2.2.2.2.2.2.2.2.1), by omega⟩ (h.2.1) (h.2.2.1) (h.2.2.2.1) (h.2.2.2.2.1) (h.2.2.2.2.2.2.2.2.1) (h.2.2.2.2.2.1) (h.2.2.2.2.2.2.1)) (by rw [(h.2.2.2.2.2.2.2.2.2.1)]; omega) (Or.inr rfl) (by rw [(h.2.2.2.2.2.2.2.2.2.1)]; omega)
          · exfalso; omega
        ·
          refine T_ld zk_154_198 rfl rfl rfl (pc' := 199) rfl ?_
          refine G_getX (w := σ 35 0 0 19) zk_154_199 rfl vd_35 (fun σ' h => h.2.1) (pc' := 202) rfl ?_
          exact T_iret zk_154_202 rfl (fun σ' h => hret _ σ' h.1 (by omega) (fun q => by exfalso; omega))
      ·
        refine T_ld zk_154_182 rfl rfl rfl (pc' := 184) rfl ?_
        refine T_op zk_154_184 rfl (X_bi (v := 40) (by decide)) (pc' := 186) rfl ?_
        refine T_icmp_ne zk_154_186 (by omega) (by omega) (pc' := 189) rfl (fun h35 => ?_) (fun h36 => ?_)
        ·
          refine T_ld zk_154_254 rfl rfl rfl (pc' := 256) rfl ?_
          refine T_if_eq zk_154_256 (by omega) (pc' := 259) rfl (fun h37 => ?_) (fun h38 => ?_)
          · exfalso; omega
          ·
            refine T_ld zk_154_259 rfl rfl rfl (pc' := 260) rfl ?_
            refine T_ld zk_154_260 rfl rfl rfl (pc' := 261) rfl ?_
            refine T_calli (K := fun y39 σ' => (y39 = 0 ∨ y39 = 1) ∧ (fun σ' => IF (MCo (Int.toNat p1)) σ σ' ∧ σ' 35 0 0 20 = σ 35 0 0 20 ∧ σ' 35 0 0 21 = σ 35 0 0 21 ∧ σ' 35 0 0 22 = σ 35 0 0 22 ∧ σ' 35 0 0 24 = σ 35 0 0 24 ∧ σ' 35 0 0 25 = σ 35 0 0 25 ∧ Eq (σ' 45 0 0) (σ 45 0 0) ∧ Eq (σ' 50 0 0) (σ 50 0 0) ∧ (σ 35 0 0 19 ≤ σ' 35 0 0 19 ∧ σ' 35 0 0 19 ≤ 96 ∧ (σ 35 0 0 19 ≤ σ 35 0 0 20 → σ' 35 0 0 19 ≤ σ 35 0 0 20) ∧ (y39 = 1 → σ 35 0 0 19 + 3 ≤ σ' 35 0 0 19)) ∧ (y39 = 1 → σ' 35 0 0 23 = σ 35 0 0 23 + 1) ∧ True) σ') (r := []) zk_154_261 rfl rfl rfl rfl rfl rfl (Or.inr ⟨_, _, _, _, rfl, vd_35, rfl⟩) (fun σ' h => (m_150 p1 (σ 35 0 0 19) (σ 35 0 0 20) (σ 35 0 0 21) (σ 35 0 0 23) (by omega) (by omega) (by omega) (by omega) (by omega) σ' h.1.1 (h.2.1) (h.2.2.1) (h.2.2.2.1) (h.2.2.2.2.2.1)).le (Nat.le_of_ble_eq_true rfl) (fun v σ2 ⟨y, h1, h2, h3, h4⟩ => ⟨y, h1, h2, h.1.tr h3 (fun t i k j h => by unfold MRd at h; unfold MCo; omega), (h3.2 _ _ _ _ (by unfold MRd; omega)).trans (h.2.2.1), (h3.2 _ _ _ _ (by unfold MRd; omega)).trans (h.2.2.2.1), (h3.2 _ _ _ _ (by unfold MRd; omega)).trans (h.2.2.2.2.1), (h3.2 _ _ _ _ (by unfold MRd; omega)).trans (h.2.2.2.2.2.2.1), (h3.2 _ _ _ _ (by unfold MRd; omega)).trans (h.2.2.2.2.2.2.2.1), gf_mk (fun z => Eq z (σ 45 0 0)) (funext fun j => h3.2 _ _ _ _ (by unfold MRd; omega)) (h.2.2.2.2.2.2.2.2.1), gf_mk (fun z => Eq z (σ 50 0 0)) (funext fun j => h3.2 _ _ _ _ (by unfold MRd; omega)) (h.2.2.2.2.2.2.2.2.2.1), h4.1, h4.2.1, trivial⟩)) (pc' := 264) rfl (fun y39 => ?_)
            refine G_ex (fun hy39 => ?_)
            refine T_if_ne zk_154_264 (by omega) (pc' := 267) rfl (fun h40 => ?_) (fun h41 => ?_)
            ·
              obtain rfl : W = 1 := by omega
              exact fun σ' h => m_154_b p0 p1 O (σ 35 0 0 19) y8 hp0 hp1 (by omega) σ' h.1.1 (PSt_read (PSt_e hP (by omega) rfl) (by have e1 := h.2.2.2.2.2.2.2.2.1; have e2 := (h.2.1); omega) (h.2.1) (h.2.2.1) (h.2.2.2.1) (by have e1 := h.2.2.2.2.2.2.2.2.2.1; omega) (h.2.2.2.2.1) (h.2.2.2.2.2.2.1) (h.2.2.2.2.2.2.2.1)) (by have e1 := h.2.2.2.2.2.2.2.2.1; omega) (by have e1 := h.2.2.2.2.2.2.2.2.1; omega) (fun σ2 O2 W2 h1 => hgo σ2 O2 W2 (h.1.tr h1 (fun _ _ _ _ q => q)))
            ·
              refine T_ld zk_154_267 rfl rfl rfl (pc' := 268) rfl ?_
              refine G_learnG (G := fun z => (σ 35 0 0 19 ≤ z ∧ z ≤ 96 ∧ (σ 35 0 0 19 ≤ σ 35 0 0 20 → z ≤ σ 35 0 0 20) ∧ (y39 = 1 → σ 35 0 0 19 + 3 ≤ z))) (t := 35) (i := 0) (k := 0) (j := 19) (lo := -2147483648) (hi := 2147483647) (J2 := fun y42 => (fun σ' => IF (MCo (Int.toNat p1)) σ σ' ∧ σ' 35 0 0 20 = σ 35 0 0 20 ∧ σ' 35 0 0 21 = σ 35 0 0 21 ∧ σ' 35 0 0 22 = σ 35 0 0 22 ∧ σ' 35 0 0 24 = σ 35 0 0 24 ∧ σ' 35 0 0 25 = σ 35 0 0 25 ∧ Eq (σ' 45 0 0) (σ 45 0 0) ∧ Eq (σ' 50 0 0) (σ 50 0 0) ∧ (σ 35 0 0 19 ≤ σ' 35 0 0 19 ∧ σ' 35 0 0 19 ≤ 96 ∧ (σ 35 0 0 19 ≤ σ 35 0 0 20 → σ' 35 0 0 19 ≤ σ 35 0 0 20) ∧ (y39 = 1 → σ 35 0 0 19 + 3 ≤ σ' 35 0 0 19)) ∧ (y39 = 1 → σ' 35 0 0 23 = σ 35 0 0 23 + 1) ∧ σ' 35 0 0 19 = y42 ∧ True)) vd_35 (fun σ' h => h.1.1) (fun _ h => (by have q := h.1; omega)) (fun σ' h => h.2.2.2.2.2.2.2.2.1) (fun σ' y h hy => ⟨h.1, h.2.1, h.2.2.1, h.2.2.2.1, h.2.2.2.2.1, h.2.2.2.2.2.1, h.2.2.2.2.2.2.1, h.2.2.2.2.2.2.2.1, h.2.2.2.2.2.2.2.2.1, h.2.2.2.2.2.2.2.2.2.1, hy, trivial⟩) (fun y42 hy42 hy42' gy42 => ?_)
              refine G_getX (w := y42) zk_154_268 rfl vd_35 (fun σ' h => h.2.2.2.2.2.2.2.2.2.2.1) (pc' := 271) rfl ?_
              exact T_iret zk_154_271 rfl (fun σ' h => hret _ σ' h.1 (by omega) (fun q => by exfalso; omega))
        ·
          refine T_ld zk_154_189 rfl rfl rfl (pc' := 190) rfl ?_
          refine G_getX (w := σ 35 0 0 25) zk_154_190 rfl vd_35 (fun σ' h => h.2.2.2.2.2.2.2.1) (pc' := 193) rfl ?_
          refine T_op zk_154_193 rfl (X_bi (v := 20) (by decide)) (pc' := 195) rfl ?_
          refine T_icmp_ne zk_154_195 (by omega) (by omega) (pc' := 198) rfl (fun h43 => ?_) (fun h44 => ?_)
          ·
            refine T_ld zk_154_203 rfl rfl rfl (pc' := 204) rfl ?_
            refine T_op (st' := [av 35 0 0, av 35 0 0]) zk_154_204 rfl rfl (pc' := 205) rfl ?_
            refine G_getX (w := σ 35 0 0 25) zk_154_205 rfl vd_35 (fun σ' h => h.2.2.2.2.2.2.2.1) (pc' := 208) rfl ?_
            refine T_op zk_154_208 rfl X_ic (pc' := 209) rfl ?_
            refine G_unk zk_154_209 rfl (pc' := 210) rfl (fun y45 hy45 hy45' => ?_)
            refine T_putf (J' := (fun σ' => IF (MCo (Int.toNat p1)) σ σ' ∧ σ' 35 0 0 19 = σ 35 0 0 19 ∧ σ' 35 0 0 20 = σ 35 0 0 20 ∧ σ' 35 0 0 21 = σ 35 0 0 21 ∧ σ' 35 0 0 22 = σ 35 0 0 22 ∧ σ' 35 0 0 23 = σ 35 0 0 23 ∧ σ' 35 0 0 24 = σ 35 0 0 24 ∧ Eq (σ' 45 0 0) (σ 45 0 0) ∧ Eq (σ' 50 0 0) (σ 50 0 0) ∧ σ' 35 0 0 25 = y45 ∧ True)) zk_154_210 rfl rfl vd_35 (fun σ' h => ⟨h.1.up (by simp only [rgP] <;> omega) (by first | exact pMCo rfl | (unfold MCo; omega)), (up_ne (by omega)).trans (h.2.1), (up_ne (by omega)).trans (h.2.2.1), (up_ne (by omega)).trans (h.2.2.2.1), (up_ne (by omega)).trans (h.2.2.2.2.1), (up_ne (by omega)).trans (h.2.2.2.2.2.1), (up_ne (by omega)).trans (h.2.2.2.2.2.2.1), gf_mk (fun z => Eq z (σ 45 0 0)) (up_row (by omega)) (h.2.2.2.2.2.2.2.2.1), gf_mk (fun z => Eq z (σ 50 0 0)) (up_row (by omega)) (h.2.2.2.2.2.2.2.2.2.1), up_eq, trivial⟩) (pc' := 213) rfl ?_
            refine T_ld zk_154_213 rfl rfl rfl (pc' := 214) rfl ?_
            refine T_getR (t' := 50) (i' := 0) (k' := 0) zk_154_214 rfl rfl rfl vd_35 (pc' := 217) rfl ?_
            refine T_ld zk_154_217 rfl rfl rfl (pc' := 218) rfl ?_
            refine T_op (st' := [av 35 0 0, av 35 0 0, av 50 0 0]) zk_154_218 rfl rfl (pc' := 219) rfl ?_
            refine G_getX (w := σ 35 0 0 24) zk_154_219 rfl vd_35 (fun σ' h => h.2.2.2.2.2.2.1) (pc' := 222) rfl ?_
            refine T_op (st' := [iv (σ 35 0 0 24), av 35 0 0, iv (σ 35 0 0 24), av 50 0 0]) zk_154_222 rfl rfl (pc' := 223) rfl ?_
            refine T_op zk_154_223 rfl X_ic (pc' := 224) rfl ?_
            refine T_op zk_154_224 rfl X_add (pc' := 225) rfl ?_
            refine T_putf (J' := (fun σ' => IF (MCo (Int.toNat p1)) σ σ' ∧ σ' 35 0 0 19 = σ 35 0 0 19 ∧ σ' 35 0 0 20 = σ 35 0 0 20 ∧ σ' 35 0 0 21 = σ 35 0 0 21 ∧ σ' 35 0 0 22 = σ 35 0 0 22 ∧ σ' 35 0 0 23 = σ 35 0 0 23 ∧ Eq (σ' 45 0 0) (σ 45 0 0) ∧ Eq (σ' 50 0 0) (σ 50 0 0) ∧ σ' 35 0 0 25 = y45 ∧ σ' 35 0 0 24 = σ 35 0 0 24 + 1 ∧ True)) zk_154_225 rfl rfl vd_35 (fun σ' h => ⟨h.1.up (by simp only [rgP] <;> omega) (by first | exact pMCo rfl | (unfold MCo; omega)), (up_ne (by omega)).trans (h.2.1), (up_ne (by omega)).trans (h.2.2.1), (up_ne (by omega)).trans (h.2.2.2.1), (up_ne (by omega)).trans (h.2.2.2.2.1), (up_ne (by omega)).trans (h.2.2.2.2.2.1), gf_mk (fun z => Eq z (σ 45 0 0)) (up_row (by omega)) (h.2.2.2.2.2.2.2.1), gf_mk (fun z => Eq z (σ 50 0 0)) (up_row (by omega)) (h.2.2.2.2.2.2.2.2.1), (up_ne (by omega)).trans (h.2.2.2.2.2.2.2.2.2.1), up_eq, trivial⟩) (pc' := 228) rfl ?_
            refine T_ld zk_154_228 rfl rfl rfl (pc' := 230) rfl ?_
            refine G_iast (J' := (fun σ' => IF (MCo (Int.toNat p1)) σ σ' ∧ σ' 35 0 0 19 = σ 35 0 0 19 ∧ σ' 35 0 0 20 = σ 35 0 0 20 ∧ σ' 35 0 0 21 = σ 35 0 0 21 ∧ σ' 35 0 0 22 = σ 35 0 0 22 ∧ σ' 35 0 0 23 = σ 35 0 0 23 ∧ Eq (σ' 45 0 0) (σ 45 0 0) ∧ Eq (σ' 50 0 0) (fun q => if q = Int.toNat (σ 35 0 0 24) then y8 else (σ 50 0 0) q) ∧ σ' 35 0 0 25 = y45 ∧ σ' 35 0 0 24 = σ 35 0 0 24 + 1 ∧ True)) (ln := 120) zk_154_230 rfl rfl vd_50 (by omega) (by omega) (by omega) (fun σ' h => ⟨h.1.up ⟨by omega, trivial⟩ (by first | exact pMCo rfl | (unfold MCo; omega)), (up_ne (by omega)).trans (h.2.1), (up_ne (by omega)).trans (h.2.2.1), (up_ne (by omega)).trans (h.2.2.2.1), (up_ne (by omega)).trans (h.2.2.2.2.1), (up_ne (by omega)).trans (h.2.2.2.2.2.1), gf_mk (fun z => Eq z (σ 45 0 0)) (up_row (by omega)) (h.2.2.2.2.2.2.1), Eq_put (h.2.2.2.2.2.2.2.1), (up_ne (by omega)).trans (h.2.2.2.2.2.2.2.2.1), (up_ne (by omega)).trans (h.2.2.2.2.2.2.2.2.2.1), trivial⟩) (pc' := 231) rfl ?_
            refine T_ld zk_154_231 rfl rfl rfl (pc' := 233) rfl ?_
            refine T_op zk_154_233 rfl (X_bi (v := 40) (by decide)) (pc' := 235) rfl ?_
            refine T_icmp_ne zk_154_235 (by omega) (by omega) (pc' := 238) rfl (fun h46 => ?_) (fun h47 => ?_)
            · exfalso; omega
            ·
              refine T_iinc (L' := [(0, av 35 0 0), (1, iv p0), (2, iv p1), (3, iv (O + 1)), (4, iv W), (5, iv y8)]) zk_154_238 (nL := 6) rfl rfl rfl rfl (pc' := 241) rfl ?_
              refine T_ld zk_154_241 rfl rfl rfl (pc' := 242) rfl ?_
              refine T_op (st' := [av 35 0 0, av 35 0 0]) zk_154_242 rfl rfl (pc' := 243) rfl ?_
              refine G_getX (w := σ 35 0 0 19) zk_154_243 rfl vd_35 (fun σ' h => h.2.1) (pc' := 246) rfl ?_
              refine T_op zk_154_246 rfl X_ic (pc' := 247) rfl ?_
              refine T_op zk_154_247 rfl X_add (pc' := 248) rfl ?_
              refine T_putf (J' := (fun σ' => IF (MCo (Int.toNat p1)) σ σ' ∧ σ' 35 0 0 20 = σ 35 0 0 20 ∧ σ' 35 0 0 21 = σ 35 0 0 21 ∧ σ' 35 0 0 22 = σ 35 0 0 22 ∧ σ' 35 0 0 23 = σ 35 0 0 23 ∧ Eq (σ' 45 0 0) (σ 45 0 0) ∧ Eq (σ' 50 0 0) (fun q => if q = Int.toNat (σ 35 0 0 24) then y8 else (σ 50 0 0) q) ∧ σ' 35 0 0 25 = y45 ∧ σ' 35 0 0 24 = σ 35 0 0 24 + 1 ∧ σ' 35 0 0 19 = σ 35 0 0 19 + 1 ∧ True)) zk_154_248 rfl rfl vd_35 (fun σ' h => ⟨h.1.up (by simp only [rgP] <;> omega) (by first | exact pMCo rfl | (unfold MCo; omega)), (up_ne (by omega)).trans (h.2.2.1), (up_ne (by omega)).trans (h.2.2.2.1), (up_ne (by omega)).trans (h.2.2.2.2.1), (up_ne (by omega)).trans (h.2.2.2.2.2.1), gf_mk (fun z => Eq z (σ 45 0 0)) (up_row (by omega)) (h.2.2.2.2.2.2.1), gf_mk (fun z => Eq z (fun q => if q = Int.toNat (σ 35 0 0 24) then y8 else (σ 50 0 0) q)) (up_row (by omega)) (h.2.2.2.2.2.2.2.1), (up_ne (by omega)).trans (h.2.2.2.2.2.2.2.2.1), (up_ne (by omega)).trans (h.2.2.2.2.2.2.2.2.2.1), up_eq, trivial⟩) (pc' := 251) rfl ?_
              refine T_goto zk_154_251 ?_
              refine T_goto zk_154_422 ?_
              have hb1 := bB_spec y8
              have hb2 := bP_spec y8
              obtain rfl : W = 1 := by omega
              refine T_loc (L := [(0, av 35 0 0), (1, iv p0), (2, iv p1), (3, iv (O + 1)), (4, iv 1)]) (E := [(5, iv y8)]) rfl ?_
              exact fun σ' h => hgo σ' _ _ h.1 (PSt_sign hP (by omega) (by omega) ⟨(h.2.2.2.2.2.2.2.2.2.1), by omega⟩ (h.2.1) (h.2.2.1) (h.2.2.2.1) (h.2.2.2.2.1) (h.2.2.2.2.2.2.2.2.1) (h.2.2.2.2.2.1) (h.2.2.2.2.2.2.1)) (by rw [(h.2.2.2.2.2.2.2.2.2.1)]; omega) (Or.inr rfl) (by rw [(h.2.2.2.2.2.2.2.2.2.1)]; omega)
          ·
            refine T_ld zk_154_198 rfl rfl rfl (pc' := 199) rfl ?_
            refine G_getX (w := σ 35 0 0 19) zk_154_199 rfl vd_35 (fun σ' h => h.2.1) (pc' := 202) rfl ?_
            exact T_iret zk_154_202 rfl (fun σ' h => hret _ σ' h.1 (by omega) (fun q => by exfalso; omega))
theorem m_154_go {xs : Nat × (Nat → Int32)} {Q : Option Value → ZS → Prop} (p0 p1 : Int) (hp0 : 0 ≤ p0 ∧ p0 ≤ 7) (hp1 : 0 ≤ p1 ∧ p1 ≤ 5) : ∀ (n : Nat) (O W : Int) (hW : W = 0 ∨ W = 1) (σ : ZS), Inv σ → PSt σ p1 (1 - W) O 0 → (0 ≤ O ∧ O ≤ σ 35 0 0 19) → 96 - σ 35 0 0 19 ≤ n → (∀ y σ', IF (MCo (Int.toNat p1)) σ σ' → (-1 ≤ y ∧ y ≤ 96) → (y = -1 → okc (σ' 45 0 0) (Int.toNat (120 * p1)) (Int.toNat (σ' 44 0 0 (Int.toNat p1)))) → Q (some (iv y)) σ') → TT xs 6 154 153 [(0, av 35 0 0), (1, iv p0), (2, iv p1), (3, iv O), (4, iv W)] [] σ Q := by
  intro n
  induction n with
  | zero => exact fun O W hW σ hI hP hO hn hret => m_154_a p0 p1 O W hp0 hp1 hW σ hI hP hO hret (fun σ' _ _ _ h2 _ _ h3 => absurd h2.1 (by omega))
  | succ n IHn => exact fun O W hW σ hI hP hO hn hret => m_154_a p0 p1 O W hp0 hp1 hW σ hI hP hO hret (fun σ' O' W' h1 h2 h4 h5 h3 => IHn O' W' h5 σ' h1.1 h2 h4 (by omega) (fun y σ2 g1 => hret y σ2 (h1.tr g1 (fun _ _ _ _ q => q))))
theorem m_154_0 {xs : Nat × (Nat → Int32)} {Q : Option Value → ZS → Prop} (p0 p1 : Int) (hp0 : 0 ≤ p0 ∧ p0 ≤ 7) (hp1 : 0 ≤ p1 ∧ p1 ≤ 5) (σ : ZS) (hI : Inv σ) (hret : ∀ y σ', IF (MCo (Int.toNat p1)) σ σ' → (-1 ≤ y ∧ y ≤ 96) → (y = -1 → okc (σ' 45 0 0) (Int.toNat (120 * p1)) (Int.toNat (σ' 44 0 0 (Int.toNat p1)))) → Q (some (iv y)) σ') : TT xs 6 154 0 [(0, av 35 0 0), (1, iv p0), (2, iv p1)] [] σ Q := by
  refine (show TJ xs (fun σ' => IF (MCo (Int.toNat p1)) σ σ' ∧ True) 6 154 0 [(0, av 35 0 0), (1, iv p0), (2, iv p1)] [] Q from ?_) σ ⟨IF.rf hI, trivial⟩
  refine T_ld zk_154_0 rfl rfl rfl (pc' := 1) rfl ?_
  refine T_op zk_154_1 rfl (X_bi (v := 96) (by decide)) (pc' := 3) rfl ?_
  refine T_ld zk_154_3 rfl rfl rfl (pc' := 4) rfl ?_
  refine T_op zk_154_4 rfl X_mul (pc' := 5) rfl ?_
  refine T_putf (J' := (fun σ' => IF (MCo (Int.toNat p1)) σ σ' ∧ σ' 35 0 0 21 = 96 * p0 ∧ True)) zk_154_5 rfl rfl vd_35 (fun σ' h => ⟨h.1.up (by simp only [rgP] <;> omega) (by first | exact pMCo rfl | (unfold MCo; omega)), up_eq, trivial⟩) (pc' := 8) rfl ?_
  refine T_ld zk_154_8 rfl rfl rfl (pc' := 9) rfl ?_
  refine T_ld zk_154_9 rfl rfl rfl (pc' := 10) rfl ?_
  refine T_getR (t' := 39) (i' := 0) (k' := 0) zk_154_10 rfl rfl rfl vd_35 (pc' := 13) rfl ?_
  refine T_ld zk_154_13 rfl rfl rfl (pc' := 14) rfl ?_
  refine G_iald (lo := 0) (hi := 96) (ln := 8) zk_154_14 rfl rfl vd_39 (by omega) (by omega) (by omega) (fun σ' h => h.1.1) (fun _ h => h.2 (by omega) (by omega)) (pc' := 15) rfl (fun y1 hy1 hy1' => ?_)
  refine T_putf (J' := (fun σ' => IF (MCo (Int.toNat p1)) σ σ' ∧ σ' 35 0 0 21 = 96 * p0 ∧ σ' 35 0 0 20 = y1 ∧ True)) zk_154_15 rfl rfl vd_35 (fun σ' h => ⟨h.1.up (by simp only [rgP] <;> omega) (by first | exact pMCo rfl | (unfold MCo; omega)), (up_ne (by omega)).trans (h.2.1), up_eq, trivial⟩) (pc' := 18) rfl ?_
  refine T_ld zk_154_18 rfl rfl rfl (pc' := 19) rfl ?_
  refine T_op zk_154_19 rfl X_ic (pc' := 20) rfl ?_
  refine T_putf (J' := (fun σ' => IF (MCo (Int.toNat p1)) σ σ' ∧ σ' 35 0 0 21 = 96 * p0 ∧ σ' 35 0 0 20 = y1 ∧ σ' 35 0 0 19 = 0 ∧ True)) zk_154_20 rfl rfl vd_35 (fun σ' h => ⟨h.1.up (by simp only [rgP] <;> omega) (by first | exact pMCo rfl | (unfold MCo; omega)), (up_ne (by omega)).trans (h.2.1), (up_ne (by omega)).trans (h.2.2.1), up_eq, trivial⟩) (pc' := 23) rfl ?_
  refine T_ld zk_154_23 rfl rfl rfl (pc' := 24) rfl ?_
  refine T_op zk_154_24 rfl X_ic (pc' := 25) rfl ?_
  refine T_putf (J' := (fun σ' => IF (MCo (Int.toNat p1)) σ σ' ∧ σ' 35 0 0 21 = 96 * p0 ∧ σ' 35 0 0 20 = y1 ∧ σ' 35 0 0 19 = 0 ∧ σ' 35 0 0 22 = 0 ∧ True)) zk_154_25 rfl rfl vd_35 (fun σ' h => ⟨h.1.up (by simp only [rgP] <;> omega) (by first | exact pMCo rfl | (unfold MCo; omega)), (up_ne (by omega)).trans (h.2.1), (up_ne (by omega)).trans (h.2.2.1), (up_ne (by omega)).trans (h.2.2.2.1), up_eq, trivial⟩) (pc' := 28) rfl ?_
  refine T_ld zk_154_28 rfl rfl rfl (pc' := 29) rfl ?_
  refine T_op zk_154_29 rfl X_ic (pc' := 30) rfl ?_
  refine T_putf (J' := (fun σ' => IF (MCo (Int.toNat p1)) σ σ' ∧ σ' 35 0 0 21 = 96 * p0 ∧ σ' 35 0 0 20 = y1 ∧ σ' 35 0 0 19 = 0 ∧ σ' 35 0 0 22 = 0 ∧ σ' 35 0 0 23 = 0 ∧ True)) zk_154_30 rfl rfl vd_35 (fun σ' h => ⟨h.1.up (by simp only [rgP] <;> omega) (by first | exact pMCo rfl | (unfold MCo; omega)), (up_ne (by omega)).trans (h.2.1), (up_ne (by omega)).trans (h.2.2.1), (up_ne (by omega)).trans (h.2.2.2.1), (up_ne (by omega)).trans (h.2.2.2.2.1), up_eq, trivial⟩) (pc' := 33) rfl ?_
  refine T_ld zk_154_33 rfl rfl rfl (pc' := 34) rfl ?_
  refine T_op zk_154_34 rfl X_ic (pc' := 35) rfl ?_
  refine T_putf (J' := (fun σ' => IF (MCo (Int.toNat p1)) σ σ' ∧ σ' 35 0 0 21 = 96 * p0 ∧ σ' 35 0 0 20 = y1 ∧ σ' 35 0 0 19 = 0 ∧ σ' 35 0 0 22 = 0 ∧ σ' 35 0 0 23 = 0 ∧ σ' 35 0 0 24 = 0 ∧ True)) zk_154_35 rfl rfl vd_35 (fun σ' h => ⟨h.1.up (by simp only [rgP] <;> omega) (by first | exact pMCo rfl | (unfold MCo; omega)), (up_ne (by omega)).trans (h.2.1), (up_ne (by omega)).trans (h.2.2.1), (up_ne (by omega)).trans (h.2.2.2.1), (up_ne (by omega)).trans (h.2.2.2.2.1), (up_ne (by omega)).trans (h.2.2.2.2.2.1), up_eq, trivial⟩) (pc' := 38) rfl ?_
  refine T_ld zk_154_38 rfl rfl rfl (pc' := 39) rfl ?_
  refine T_op zk_154_39 rfl X_ic (pc' := 40) rfl ?_
  refine T_putf (J' := (fun σ' => IF (MCo (Int.toNat p1)) σ σ' ∧ σ' 35 0 0 21 = 96 * p0 ∧ σ' 35 0 0 20 = y1 ∧ σ' 35 0 0 19 = 0 ∧ σ' 35 0 0 22 = 0 ∧ σ' 35 0 0 23 = 0 ∧ σ' 35 0 0 24 = 0 ∧ σ' 35 0 0 25 = 0 ∧ True)) zk_154_40 rfl rfl vd_35 (fun σ' h => ⟨h.1.up (by simp only [rgP] <;> omega) (by first | exact pMCo rfl | (unfold MCo; omega)), (up_ne (by omega)).trans (h.2.1), (up_ne (by omega)).trans (h.2.2.1), (up_ne (by omega)).trans (h.2.2.2.1), (up_ne (by omega)).trans (h.2.2.2.2.1), (up_ne (by omega)).trans (h.2.2.2.2.2.1), (up_ne (by omega)).trans (h.2.2.2.2.2.2.1), up_eq, trivial⟩) (pc' := 43) rfl ?_
  refine T_ld zk_154_43 rfl rfl rfl (pc' := 44) rfl ?_
  refine T_op zk_154_44 rfl (X_bi (v := 103) (by decide)) (pc' := 46) rfl ?_
  refine T_calli (K := fun y2 σ' => (y2 = 0 ∨ (y2 = 1 ∧ 0 < y1)) ∧ (fun σ' => IF (MCo (Int.toNat p1)) σ σ' ∧ σ' 35 0 0 21 = 96 * p0 ∧ σ' 35 0 0 20 = y1 ∧ σ' 35 0 0 19 = 0 ∧ σ' 35 0 0 22 = 0 ∧ σ' 35 0 0 23 = 0 ∧ σ' 35 0 0 24 = 0 ∧ σ' 35 0 0 25 = 0 ∧ True) σ') (r := []) zk_154_46 rfl rfl rfl rfl rfl rfl (Or.inr ⟨_, _, _, _, rfl, vd_35, rfl⟩) (fun σ' h => (m_149 103 0 y1 (96 * p0) (by omega) (by omega) (by omega) (by omega) σ' h.1.1 (h.2.2.2.1) (h.2.2.1) (h.2.1)).le (Nat.le_of_ble_eq_true rfl) (fun v σ2 ⟨y, h1, h2, h3, h4⟩ => ⟨y, h1, h2, h.1.tr h3 MN_sub, (h3.2 _ _ _ _ (fun q => q)).trans (h.2.1), (h3.2 _ _ _ _ (fun q => q)).trans (h.2.2.1), (h3.2 _ _ _ _ (fun q => q)).trans (h.2.2.2.1), (h3.2 _ _ _ _ (fun q => q)).trans (h.2.2.2.2.1), (h3.2 _ _ _ _ (fun q => q)).trans (h.2.2.2.2.2.1), (h3.2 _ _ _ _ (fun q => q)).trans (h.2.2.2.2.2.2.1), (h3.2 _ _ _ _ (fun q => q)).trans (h.2.2.2.2.2.2.2.1), trivial⟩)) (pc' := 49) rfl (fun y2 => ?_)
  refine G_ex (fun hy2 => ?_)
  refine T_if_ne zk_154_49 (by omega) (pc' := 52) rfl (fun h3 => ?_) (fun h4 => ?_)
  ·
    refine T_ld zk_154_57 rfl rfl rfl (pc' := 58) rfl ?_
    refine T_op (st' := [av 35 0 0, av 35 0 0]) zk_154_58 rfl rfl (pc' := 59) rfl ?_
    refine G_getX (w := 0) zk_154_59 rfl vd_35 (fun σ' h => h.2.2.2.1) (pc' := 62) rfl ?_
    refine T_op zk_154_62 rfl X_ic (pc' := 63) rfl ?_
    refine T_opc (w := 1) zk_154_63 rfl X_add (by omega) (pc' := 64) rfl ?_
    refine T_putf (J' := (fun σ' => IF (MCo (Int.toNat p1)) σ σ' ∧ σ' 35 0 0 21 = 96 * p0 ∧ σ' 35 0 0 20 = y1 ∧ σ' 35 0 0 22 = 0 ∧ σ' 35 0 0 23 = 0 ∧ σ' 35 0 0 24 = 0 ∧ σ' 35 0 0 25 = 0 ∧ σ' 35 0 0 19 = 1 ∧ True)) zk_154_64 rfl rfl vd_35 (fun σ' h => ⟨h.1.up (by simp only [rgP] <;> omega) (by first | exact pMCo rfl | (unfold MCo; omega)), (up_ne (by omega)).trans (h.2.1), (up_ne (by omega)).trans (h.2.2.1), (up_ne (by omega)).trans (h.2.2.2.2.1), (up_ne (by omega)).trans (h.2.2.2.2.2.1), (up_ne (by omega)).trans (h.2.2.2.2.2.2.1), (up_ne (by omega)).trans (h.2.2.2.2.2.2.2.1), up_eq, trivial⟩) (pc' := 67) rfl ?_
    refine T_ld zk_154_67 rfl rfl rfl (pc' := 68) rfl ?_
    refine G_getX (w := 1) zk_154_68 rfl vd_35 (fun σ' h => h.2.2.2.2.2.2.2.1) (pc' := 71) rfl ?_
    refine T_ld zk_154_71 rfl rfl rfl (pc' := 72) rfl ?_
    refine G_getX (w := y1) zk_154_72 rfl vd_35 (fun σ' h => h.2.2.1) (pc' := 75) rfl ?_
    refine T_icmp_eq zk_154_75 (by omega) (by omega) (pc' := 78) rfl (fun h5 => ?_) (fun h6 => ?_)
    ·
      refine T_ld zk_154_96 rfl rfl rfl (pc' := 97) rfl ?_
      refine G_getX (w := 1) zk_154_97 rfl vd_35 (fun σ' h => h.2.2.2.2.2.2.2.1) (pc' := 100) rfl ?_
      exact T_iret zk_154_100 rfl (fun σ' h => hret _ σ' h.1 (by omega) (fun q => by exfalso; omega))
    ·
      refine T_ld zk_154_78 rfl rfl rfl (pc' := 79) rfl ?_
      refine T_calli (K := fun y7 σ' => (-2147483648 ≤ y7 ∧ y7 ≤ 2147483647) ∧ (fun σ' => IF (MCo (Int.toNat p1)) σ σ' ∧ σ' 35 0 0 21 = 96 * p0 ∧ σ' 35 0 0 20 = y1 ∧ σ' 35 0 0 22 = 0 ∧ σ' 35 0 0 23 = 0 ∧ σ' 35 0 0 24 = 0 ∧ σ' 35 0 0 25 = 0 ∧ σ' 35 0 0 19 = 1 ∧ True) σ') (r := []) zk_154_79 rfl rfl rfl rfl rfl rfl (Or.inr ⟨_, _, _, _, rfl, vd_35, rfl⟩) (fun σ' h => (m_148 1 y1 (96 * p0) (by omega) (by omega) (by omega) σ' h.1.1 (h.2.2.2.2.2.2.2.1) (h.2.2.1) (h.2.1)).le (Nat.le_of_ble_eq_true rfl) (fun v σ2 ⟨y, h1, h2, h3, h4⟩ => ⟨y, h1, h2, h.1.tr h3 MN_sub, (h3.2 _ _ _ _ (fun q => q)).trans (h.2.1), (h3.2 _ _ _ _ (fun q => q)).trans (h.2.2.1), (h3.2 _ _ _ _ (fun q => q)).trans (h.2.2.2.1), (h3.2 _ _ _ _ (fun q => q)).trans (h.2.2.2.2.1), (h3.2 _ _ _ _ (fun q => q)).trans (h.2.2.2.2.2.1), (h3.2 _ _ _ _ (fun q => q)).trans (h.2.2.2.2.2.2.1), (h3.2 _ _ _ _ (fun q => q)).trans (h.2.2.2.2.2.2.2.1), trivial⟩)) (pc' := 82) rfl (fun y7 => ?_)
      refine G_ex (fun hy7 => ?_)
      refine T_op zk_154_82 rfl (X_bi (v := 48) (by decide)) (pc' := 84) rfl ?_
      refine T_icmp_lt zk_154_84 (by omega) (by omega) (pc' := 87) rfl (fun h8 => ?_) (fun h9 => ?_)
      ·
        refine T_ld zk_154_96 rfl rfl rfl (pc' := 97) rfl ?_
        refine G_getX (w := 1) zk_154_97 rfl vd_35 (fun σ' h => h.2.2.2.2.2.2.2.1) (pc' := 100) rfl ?_
        exact T_iret zk_154_100 rfl (fun σ' h => hret _ σ' h.1 (by omega) (fun q => by exfalso; omega))
      ·
        refine T_ld zk_154_87 rfl rfl rfl (pc' := 88) rfl ?_
        refine T_calli (K := fun y10 σ' => (-2147483648 ≤ y10 ∧ y10 ≤ 2147483647) ∧ (fun σ' => IF (MCo (Int.toNat p1)) σ σ' ∧ σ' 35 0 0 21 = 96 * p0 ∧ σ' 35 0 0 20 = y1 ∧ σ' 35 0 0 22 = 0 ∧ σ' 35 0 0 23 = 0 ∧ σ' 35 0 0 24 = 0 ∧ σ' 35 0 0 25 = 0 ∧ σ' 35 0 0 19 = 1 ∧ True) σ') (r := []) zk_154_88 rfl rfl rfl rfl rfl rfl (Or.inr ⟨_, _, _, _, rfl, vd_35, rfl⟩) (fun σ' h => (m_148 1 y1 (96 * p0) (by omega) (by omega) (by omega) σ' h.1.1 (h.2.2.2.2.2.2.2.1) (h.2.2.1) (h.2.1)).le (Nat.le_of_ble_eq_true rfl) (fun v σ2 ⟨y, h1, h2, h3, h4⟩ => ⟨y, h1, h2, h.1.tr h3 MN_sub, (h3.2 _ _ _ _ (fun q => q)).trans (h.2.1), (h3.2 _ _ _ _ (fun q => q)).trans (h.2.2.1), (h3.2 _ _ _ _ (fun q => q)).trans (h.2.2.2.1), (h3.2 _ _ _ _ (fun q => q)).trans (h.2.2.2.2.1), (h3.2 _ _ _ _ (fun q => q)).trans (h.2.2.2.2.2.1), (h3.2 _ _ _ _ (fun q => q)).trans (h.2.2.2.2.2.2.1), (h3.2 _ _ _ _ (fun q => q)).trans (h.2.2.2.2.2.2.2.1), trivial⟩)) (pc' := 91) rfl (fun y10 => ?_)
        refine G_ex (fun hy10 => ?_)
        refine T_op zk_154_91 rfl (X_bi (v := 50) (by decide)) (pc' := 93) rfl ?_
        refine T_icmp_le zk_154_93 (by omega) (by omega) (pc' := 96) rfl (fun h11 => ?_) (fun h12 => ?_)
        ·
          refine T_ld zk_154_101 rfl rfl rfl (pc' := 102) rfl ?_
          refine T_getR (t' := 43) (i' := 0) (k' := 0) zk_154_102 rfl rfl rfl vd_35 (pc' := 105) rfl ?_
          refine T_ld zk_154_105 rfl rfl rfl (pc' := 106) rfl ?_
          refine T_ld zk_154_106 rfl rfl rfl (pc' := 107) rfl ?_
          refine T_calli (K := fun y13 σ' => (-2147483648 ≤ y13 ∧ y13 ≤ 2147483647) ∧ (fun σ' => IF (MCo (Int.toNat p1)) σ σ' ∧ σ' 35 0 0 21 = 96 * p0 ∧ σ' 35 0 0 20 = y1 ∧ σ' 35 0 0 22 = 0 ∧ σ' 35 0 0 23 = 0 ∧ σ' 35 0 0 24 = 0 ∧ σ' 35 0 0 25 = 0 ∧ σ' 35 0 0 19 = 1 ∧ True) σ') (r := [iv p1, av 43 0 0]) zk_154_107 rfl rfl rfl rfl rfl rfl (Or.inr ⟨_, _, _, _, rfl, vd_35, rfl⟩) (fun σ' h => (m_148 1 y1 (96 * p0) (by omega) (by omega) (by omega) σ' h.1.1 (h.2.2.2.2.2.2.2.1) (h.2.2.1) (h.2.1)).le (Nat.le_of_ble_eq_true rfl) (fun v σ2 ⟨y, h1, h2, h3, h4⟩ => ⟨y, h1, h2, h.1.tr h3 MN_sub, (h3.2 _ _ _ _ (fun q => q)).trans (h.2.1), (h3.2 _ _ _ _ (fun q => q)).trans (h.2.2.1), (h3.2 _ _ _ _ (fun q => q)).trans (h.2.2.2.1), (h3.2 _ _ _ _ (fun q => q)).trans (h.2.2.2.2.1), (h3.2 _ _ _ _ (fun q => q)).trans (h.2.2.2.2.2.1), (h3.2 _ _ _ _ (fun q => q)).trans (h.2.2.2.2.2.2.1), (h3.2 _ _ _ _ (fun q => q)).trans (h.2.2.2.2.2.2.2.1), trivial⟩)) (pc' := 110) rfl (fun y13 => ?_)
          refine G_ex (fun hy13 => ?_)
          refine T_op zk_154_110 rfl (X_bi (v := 48) (by decide)) (pc' := 112) rfl ?_
          refine G_unk zk_154_112 rfl (pc' := 113) rfl (fun y14 hy14 hy14' => ?_)
          refine G_iast (J' := (fun σ' => IF (MCo (Int.toNat p1)) σ σ' ∧ σ' 35 0 0 21 = 96 * p0 ∧ σ' 35 0 0 20 = y1 ∧ σ' 35 0 0 22 = 0 ∧ σ' 35 0 0 23 = 0 ∧ σ' 35 0 0 24 = 0 ∧ σ' 35 0 0 25 = 0 ∧ σ' 35 0 0 19 = 1 ∧ True)) (ln := 6) zk_154_113 rfl rfl vd_43 (by omega) (by omega) (by omega) (fun σ' h => ⟨h.1.up ⟨by omega, trivial⟩ (by first | exact pMCo rfl | (unfold MCo; omega)), (up_ne (by omega)).trans (h.2.1), (up_ne (by omega)).trans (h.2.2.1), (up_ne (by omega)).trans (h.2.2.2.1), (up_ne (by omega)).trans (h.2.2.2.2.1), (up_ne (by omega)).trans (h.2.2.2.2.2.1), (up_ne (by omega)).trans (h.2.2.2.2.2.2.1), (up_ne (by omega)).trans (h.2.2.2.2.2.2.2.1), trivial⟩) (pc' := 114) rfl ?_
          refine T_ld zk_154_114 rfl rfl rfl (pc' := 115) rfl ?_
          refine T_op (st' := [av 35 0 0, av 35 0 0]) zk_154_115 rfl rfl (pc' := 116) rfl ?_
          refine G_getX (w := 1) zk_154_116 rfl vd_35 (fun σ' h => h.2.2.2.2.2.2.2.1) (pc' := 119) rfl ?_
          refine T_op zk_154_119 rfl X_ic (pc' := 120) rfl ?_
          refine T_opc (w := 2) zk_154_120 rfl X_add (by omega) (pc' := 121) rfl ?_
          refine T_putf (J' := (fun σ' => IF (MCo (Int.toNat p1)) σ σ' ∧ σ' 35 0 0 21 = 96 * p0 ∧ σ' 35 0 0 20 = y1 ∧ σ' 35 0 0 22 = 0 ∧ σ' 35 0 0 23 = 0 ∧ σ' 35 0 0 24 = 0 ∧ σ' 35 0 0 25 = 0 ∧ σ' 35 0 0 19 = 2 ∧ True)) zk_154_121 rfl rfl vd_35 (fun σ' h => ⟨h.1.up (by simp only [rgP] <;> omega) (by first | exact pMCo rfl | (unfold MCo; omega)), (up_ne (by omega)).trans (h.2.1), (up_ne (by omega)).trans (h.2.2.1), (up_ne (by omega)).trans (h.2.2.2.1), (up_ne (by omega)).trans (h.2.2.2.2.1), (up_ne (by omega)).trans (h.2.2.2.2.2.1), (up_ne (by omega)).trans (h.2.2.2.2.2.2.1), up_eq, trivial⟩) (pc' := 124) rfl ?_
          refine T_ld zk_154_124 rfl rfl rfl (pc' := 125) rfl ?_
          refine T_op zk_154_125 rfl (X_bi (v := 58) (by decide)) (pc' := 127) rfl ?_
          refine T_calli (K := fun y15 σ' => (y15 = 0 ∨ (y15 = 1 ∧ 2 < y1)) ∧ (fun σ' => IF (MCo (Int.toNat p1)) σ σ' ∧ σ' 35 0 0 21 = 96 * p0 ∧ σ' 35 0 0 20 = y1 ∧ σ' 35 0 0 22 = 0 ∧ σ' 35 0 0 23 = 0 ∧ σ' 35 0 0 24 = 0 ∧ σ' 35 0 0 25 = 0 ∧ σ' 35 0 0 19 = 2 ∧ True) σ') (r := []) zk_154_127 rfl rfl rfl rfl rfl rfl (Or.inr ⟨_, _, _, _, rfl, vd_35, rfl⟩) (fun σ' h => (m_149 58 2 y1 (96 * p0) (by omega) (by omega) (by omega) (by omega) σ' h.1.1 (h.2.2.2.2.2.2.2.1) (h.2.2.1) (h.2.1)).le (Nat.le_of_ble_eq_true rfl) (fun v σ2 ⟨y, h1, h2, h3, h4⟩ => ⟨y, h1, h2, h.1.tr h3 MN_sub, (h3.2 _ _ _ _ (fun q => q)).trans (h.2.1), (h3.2 _ _ _ _ (fun q => q)).trans (h.2.2.1), (h3.2 _ _ _ _ (fun q => q)).trans (h.2.2.2.1), (h3.2 _ _ _ _ (fun q => q)).trans (h.2.2.2.2.1), (h3.2 _ _ _ _ (fun q => q)).trans (h.2.2.2.2.2.1), (h3.2 _ _ _ _ (fun q => q)).trans (h.2.2.2.2.2.2.1), (h3.2 _ _ _ _ (fun q => q)).trans (h.2.2.2.2.2.2.2.1), trivial⟩)) (pc' := 130) rfl (fun y15 => ?_)
          refine G_ex (fun hy15 => ?_)
          refine T_if_ne zk_154_130 (by omega) (pc' := 133) rfl (fun h16 => ?_) (fun h17 => ?_)
          ·
            refine T_ld zk_154_138 rfl rfl rfl (pc' := 139) rfl ?_
            refine T_op (st' := [av 35 0 0, av 35 0 0]) zk_154_139 rfl rfl (pc' := 140) rfl ?_
            refine G_getX (w := 2) zk_154_140 rfl vd_35 (fun σ' h => h.2.2.2.2.2.2.2.1) (pc' := 143) rfl ?_
            refine T_op zk_154_143 rfl X_ic (pc' := 144) rfl ?_
            refine T_opc (w := 3) zk_154_144 rfl X_add (by omega) (pc' := 145) rfl ?_
            refine T_putf (J' := (fun σ' => IF (MCo (Int.toNat p1)) σ σ' ∧ σ' 35 0 0 21 = 96 * p0 ∧ σ' 35 0 0 20 = y1 ∧ σ' 35 0 0 22 = 0 ∧ σ' 35 0 0 23 = 0 ∧ σ' 35 0 0 24 = 0 ∧ σ' 35 0 0 25 = 0 ∧ σ' 35 0 0 19 = 3 ∧ True)) zk_154_145 rfl rfl vd_35 (fun σ' h => ⟨h.1.up (by simp only [rgP] <;> omega) (by first | exact pMCo rfl | (unfold MCo; omega)), (up_ne (by omega)).trans (h.2.1), (up_ne (by omega)).trans (h.2.2.1), (up_ne (by omega)).trans (h.2.2.2.1), (up_ne (by omega)).trans (h.2.2.2.2.1), (up_ne (by omega)).trans (h.2.2.2.2.2.1), (up_ne (by omega)).trans (h.2.2.2.2.2.2.1), up_eq, trivial⟩) (pc' := 148) rfl ?_
            refine T_op zk_154_148 rfl X_ic (pc' := 149) rfl ?_
            refine T_st (L' := [(0, av 35 0 0), (1, iv p0), (2, iv p1), (3, iv 0)]) zk_154_149 (nL := 6) rfl rfl rfl rfl rfl (pc' := 150) rfl ?_
            refine T_op zk_154_150 rfl X_ic (pc' := 151) rfl ?_
            refine T_st (L' := [(0, av 35 0 0), (1, iv p0), (2, iv p1), (3, iv 0), (4, iv 1)]) zk_154_151 (nL := 6) rfl rfl rfl rfl rfl (pc' := 153) rfl ?_
            exact fun σ' h => m_154_go p0 p1 hp0 hp1 96 _ _ (Or.inr rfl) σ' h.1.1 (PSt_e (PSt_0 (by have e1 := h.2.2.2.2.2.2.2.1; have e2 := h.2.2.1; omega) (by have e1 := h.2.1; omega) h.2.2.2.1 h.2.2.2.2.1 h.2.2.2.2.2.1) rfl rfl) (by have e1 := h.2.2.2.2.2.2.2.1; omega) (by have e1 := h.2.2.2.2.2.2.2.1; omega) (fun y σ2 h1 => hret y σ2 (h.1.tr h1 (fun _ _ _ _ q => q)))
          ·
            refine T_ld zk_154_133 rfl rfl rfl (pc' := 134) rfl ?_
            refine G_getX (w := 2) zk_154_134 rfl vd_35 (fun σ' h => h.2.2.2.2.2.2.2.1) (pc' := 137) rfl ?_
            exact T_iret zk_154_137 rfl (fun σ' h => hret _ σ' h.1 (by omega) (fun q => by exfalso; omega))
        ·
          refine T_ld zk_154_96 rfl rfl rfl (pc' := 97) rfl ?_
          refine G_getX (w := 1) zk_154_97 rfl vd_35 (fun σ' h => h.2.2.2.2.2.2.2.1) (pc' := 100) rfl ?_
          exact T_iret zk_154_100 rfl (fun σ' h => hret _ σ' h.1 (by omega) (fun q => by exfalso; omega))
  ·
    refine T_ld zk_154_52 rfl rfl rfl (pc' := 53) rfl ?_
    refine G_getX (w := 0) zk_154_53 rfl vd_35 (fun σ' h => h.2.2.2.1) (pc' := 56) rfl ?_
    exact T_iret zk_154_56 rfl (fun σ' h => hret _ σ' h.1 (by omega) (fun q => by exfalso; omega))
theorem m_154 {xs : Nat × (Nat → Int32)} (p0 p1 : Int) (hp0 : 0 ≤ p0 ∧ p0 ≤ 7) (hp1 : 0 ≤ p1 ∧ p1 ≤ 5) (σ : ZS) (hI : Inv σ) : CT xs 7 154 [av 35 0 0, iv p0, iv p1] σ (fun v σ' => ∃ y, v = some (iv y) ∧ (-1 ≤ y ∧ y ≤ 96) ∧ IF (MCo (Int.toNat p1)) σ σ' ∧ ((y = -1 → okc (σ' 45 0 0) (Int.toNat (120 * p1)) (Int.toNat (σ' 44 0 0 (Int.toNat p1)))) ∧ True)) :=
  CT.of (nL := 6) rfl (Nat.le_of_ble_eq_true rfl) (L := [(0, av 35 0 0), (1, iv p0), (2, iv p1)]) rfl (m_154_0 p0 p1 hp0 hp1 σ hI (fun y σ' h1 h2 h3 => ⟨y, rfl, h2, h1, h3, trivial⟩))
theorem m_154f {xs : Nat × (Nat → Int32)} (p0 p1 : Int) (F G : Nat → Int) (hp0 : 0 ≤ p0 ∧ p0 ≤ 7) (hp1 : 0 ≤ p1 ∧ p1 ≤ 5) (σ : ZS) (hI : Inv σ) (s1 : Eq (σ 44 0 0) F) (s2 : Eq (σ 45 0 0) G) : CT xs 7 154 [av 35 0 0, iv p0, iv p1] σ (fun v σ' => ∃ y, v = some (iv y) ∧ (-1 ≤ y ∧ y ≤ 96) ∧ IF (MCo (Int.toNat p1)) σ σ' ∧ ((Eo (σ' 44 0 0) (Int.toNat p1) F) ∧ (Er (σ' 45 0 0) (Int.toNat p1) G) ∧ (y = -1 → okc (σ' 45 0 0) (Int.toNat (120 * p1)) (Int.toNat (σ' 44 0 0 (Int.toNat p1)))) ∧ True)) :=
  (m_154 p0 p1 hp0 hp1 σ hI).le (Nat.le_refl _) (fun v σ' ⟨y, h1, h2, h3, h4⟩ => ⟨y, h1, h2, h3, fun q hq => (h3.2 44 0 0 q (by unfold MCo; omega)).trans (congrFun s1 q), fun q hq => (h3.2 45 0 0 q (by unfold MCo; omega)).trans (congrFun s2 q), h4.1, trivial⟩)
