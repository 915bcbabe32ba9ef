theorem zk_175_0 : zc 175 0 = some (.iconst 0, 0, 0, 0, 0) := rfl
theorem zk_175_1 : zc 175 1 = some (.istore_n 2, 0, 0, 0, 0) := rfl
theorem zk_175_2 : zc 175 2 = some (.iload_n 2, 0, 0, 0, 0) := rfl
theorem zk_175_3 : zc 175 3 = some (.aload_n 0, 0, 0, 0, 0) := rfl
theorem zk_175_4 : zc 175 4 = some (.getfield 7, 11, 0, 0, 139) := rfl
theorem zk_175_7 : zc 175 7 = some (.sipush 633, 0, 0, 0, 0) := rfl
theorem zk_175_10 : zc 175 10 = some (.iaload, 0, 0, 0, 0) := rfl
theorem zk_175_11 : zc 175 11 = some (.if_icmp .ge 111, 122, 0, 0, 0) := rfl
theorem zk_175_14 : zc 175 14 = some (.iconst 0, 0, 0, 0, 0) := rfl
theorem zk_175_15 : zc 175 15 = some (.istore_n 3, 0, 0, 0, 0) := rfl
theorem zk_175_16 : zc 175 16 = some (.iconst 0, 0, 0, 0, 0) := rfl
theorem zk_175_17 : zc 175 17 = some (.istore 4, 0, 0, 0, 0) := rfl
theorem zk_175_19 : zc 175 19 = some (.iconst 0, 0, 0, 0, 0) := rfl
theorem zk_175_20 : zc 175 20 = some (.istore 5, 0, 0, 0, 0) := rfl
theorem zk_175_22 : zc 175 22 = some (.iload 5, 0, 0, 0, 0) := rfl
theorem zk_175_24 : zc 175 24 = some (.aload_n 0, 0, 0, 0, 0) := rfl
theorem zk_175_25 : zc 175 25 = some (.getfield 7, 11, 0, 0, 139) := rfl
theorem zk_175_28 : zc 175 28 = some (.sipush 640, 0, 0, 0, 0) := rfl
theorem zk_175_31 : zc 175 31 = some (.iaload, 0, 0, 0, 0) := rfl
theorem zk_175_32 : zc 175 32 = some (.if_icmp .ge 60, 92, 0, 0, 0) := rfl
theorem zk_175_35 : zc 175 35 = some (.aload_n 0, 0, 0, 0, 0) := rfl
theorem zk_175_36 : zc 175 36 = some (.getfield 7, 11, 0, 0, 139) := rfl
theorem zk_175_39 : zc 175 39 = some (.sipush 628, 0, 0, 0, 0) := rfl
theorem zk_175_42 : zc 175 42 = some (.iload 5, 0, 0, 0, 0) := rfl
theorem zk_175_44 : zc 175 44 = some (.iadd, 0, 0, 0, 0) := rfl
theorem zk_175_45 : zc 175 45 = some (.iaload, 0, 0, 0, 0) := rfl
theorem zk_175_46 : zc 175 46 = some (.ifCond .eq 40, 86, 0, 0, 0) := rfl
theorem zk_175_49 : zc 175 49 = some (.aload_n 0, 0, 0, 0, 0) := rfl
theorem zk_175_50 : zc 175 50 = some (.getfield 38, 11, 10, 0, 148) := rfl
theorem zk_175_53 : zc 175 53 = some (.iload 5, 0, 0, 0, 0) := rfl
theorem zk_175_55 : zc 175 55 = some (.iaload, 0, 0, 0, 0) := rfl
theorem zk_175_56 : zc 175 56 = some (.iload_n 2, 0, 0, 0, 0) := rfl
theorem zk_175_57 : zc 175 57 = some (.if_icmp .eq 6, 63, 0, 0, 0) := rfl
theorem zk_175_60 : zc 175 60 = some (.goto 26, 86, 0, 0, 0) := rfl
theorem zk_175_63 : zc 175 63 = some (.iconst 1, 0, 0, 0, 0) := rfl
theorem zk_175_64 : zc 175 64 = some (.istore_n 3, 0, 0, 0, 0) := rfl
theorem zk_175_65 : zc 175 65 = some (.iload 4, 0, 0, 0, 0) := rfl
theorem zk_175_67 : zc 175 67 = some (.ifCond .ne 12, 79, 0, 0, 0) := rfl
theorem zk_175_70 : zc 175 70 = some (.aload_n 0, 0, 0, 0, 0) := rfl
theorem zk_175_71 : zc 175 71 = some (.iload 5, 0, 0, 0, 0) := rfl
theorem zk_175_73 : zc 175 73 = some (.invokevirtual 195, 162, 0, 2, 147) := rfl
theorem zk_175_76 : zc 175 76 = some (.ifCond .eq 7, 83, 0, 0, 0) := rfl
theorem zk_175_79 : zc 175 79 = some (.iconst 1, 0, 0, 0, 0) := rfl
theorem zk_175_80 : zc 175 80 = some (.goto 4, 84, 0, 0, 0) := rfl
theorem zk_175_83 : zc 175 83 = some (.iconst 0, 0, 0, 0, 0) := rfl
theorem zk_175_84 : zc 175 84 = some (.istore 4, 0, 0, 0, 0) := rfl
theorem zk_175_86 : zc 175 86 = some (.iinc 5 1, 0, 0, 0, 0) := rfl
theorem zk_175_89 : zc 175 89 = some (.goto (-67), 22, 0, 0, 0) := rfl
theorem zk_175_92 : zc 175 92 = some (.iload_n 3, 0, 0, 0, 0) := rfl
theorem zk_175_93 : zc 175 93 = some (.ifCond .eq 23, 116, 0, 0, 0) := rfl
theorem zk_175_96 : zc 175 96 = some (.aload_n 0, 0, 0, 0, 0) := rfl
theorem zk_175_97 : zc 175 97 = some (.getfield 7, 11, 0, 0, 139) := rfl
theorem zk_175_100 : zc 175 100 = some (.sipush 253, 0, 0, 0, 0) := rfl
theorem zk_175_103 : zc 175 103 = some (.iload_n 2, 0, 0, 0, 0) := rfl
theorem zk_175_104 : zc 175 104 = some (.iadd, 0, 0, 0, 0) := rfl
theorem zk_175_105 : zc 175 105 = some (.iload 4, 0, 0, 0, 0) := rfl
theorem zk_175_107 : zc 175 107 = some (.ifCond .eq 7, 114, 0, 0, 0) := rfl
theorem zk_175_110 : zc 175 110 = some (.iconst 1, 0, 0, 0, 0) := rfl
theorem zk_175_111 : zc 175 111 = some (.goto 4, 115, 0, 0, 0) := rfl
theorem zk_175_114 : zc 175 114 = some (.iconst 0, 0, 0, 0, 0) := rfl
theorem zk_175_115 : zc 175 115 = some (.iastore, 0, 0, 0, 0) := rfl
theorem zk_175_116 : zc 175 116 = some (.iinc 2 1, 0, 0, 0, 0) := rfl
theorem zk_175_119 : zc 175 119 = some (.goto (-117), 2, 0, 0, 0) := rfl
theorem zk_175_122 : zc 175 122 = some (.aload_n 0, 0, 0, 0, 0) := rfl
theorem zk_175_123 : zc 175 123 = some (.aload_n 0, 0, 0, 0, 0) := rfl
theorem zk_175_124 : zc 175 124 = some (.invokevirtual 186, 159, 0, 1, 144) := rfl
theorem zk_175_127 : zc 175 127 = some (.putfield 211, 11, 33, 0, 175) := rfl
theorem zk_175_130 : zc 175 130 = some (.aload_n 0, 0, 0, 0, 0) := rfl
theorem zk_175_131 : zc 175 131 = some (.aload_n 0, 0, 0, 0, 0) := rfl
theorem zk_175_132 : zc 175 132 = some (.getfield 7, 11, 0, 0, 139) := rfl
theorem zk_175_135 : zc 175 135 = some (.sipush 634, 0, 0, 0, 0) := rfl
theorem zk_175_138 : zc 175 138 = some (.iaload, 0, 0, 0, 0) := rfl
theorem zk_175_139 : zc 175 139 = some (.iload_n 1, 0, 0, 0, 0) := rfl
theorem zk_175_140 : zc 175 140 = some (.invokevirtual 134, 145, 0, 3, 135) := rfl
theorem zk_175_143 : zc 175 143 = some (.istore_n 2, 0, 0, 0, 0) := rfl
theorem zk_175_144 : zc 175 144 = some (.iconst 0, 0, 0, 0, 0) := rfl
theorem zk_175_145 : zc 175 145 = some (.istore_n 3, 0, 0, 0, 0) := rfl
theorem zk_175_146 : zc 175 146 = some (.iload_n 3, 0, 0, 0, 0) := rfl
theorem zk_175_147 : zc 175 147 = some (.aload_n 0, 0, 0, 0, 0) := rfl
theorem zk_175_148 : zc 175 148 = some (.getfield 7, 11, 0, 0, 139) := rfl
theorem zk_175_151 : zc 175 151 = some (.sipush 633, 0, 0, 0, 0) := rfl
theorem zk_175_154 : zc 175 154 = some (.iaload, 0, 0, 0, 0) := rfl
theorem zk_175_155 : zc 175 155 = some (.if_icmp .ge 79, 234, 0, 0, 0) := rfl
theorem zk_175_158 : zc 175 158 = some (.aload_n 0, 0, 0, 0, 0) := rfl
theorem zk_175_159 : zc 175 159 = some (.getfield 7, 11, 0, 0, 139) := rfl
theorem zk_175_162 : zc 175 162 = some (.sipush 253, 0, 0, 0, 0) := rfl
theorem zk_175_165 : zc 175 165 = some (.iload_n 3, 0, 0, 0, 0) := rfl
theorem zk_175_166 : zc 175 166 = some (.iadd, 0, 0, 0, 0) := rfl
theorem zk_175_167 : zc 175 167 = some (.iaload, 0, 0, 0, 0) := rfl
theorem zk_175_168 : zc 175 168 = some (.iconst 1, 0, 0, 0, 0) := rfl
theorem zk_175_169 : zc 175 169 = some (.if_icmp .ne 6, 175, 0, 0, 0) := rfl
theorem zk_175_172 : zc 175 172 = some (.goto 56, 228, 0, 0, 0) := rfl
theorem zk_175_175 : zc 175 175 = some (.bipush 25, 0, 0, 0, 0) := rfl
theorem zk_175_177 : zc 175 177 = some (.aload_n 0, 0, 0, 0, 0) := rfl
theorem zk_175_178 : zc 175 178 = some (.getfield 7, 11, 0, 0, 139) := rfl
theorem zk_175_181 : zc 175 181 = some (.sipush 250, 0, 0, 0, 0) := rfl
theorem zk_175_184 : zc 175 184 = some (.iload_n 3, 0, 0, 0, 0) := rfl
theorem zk_175_185 : zc 175 185 = some (.iadd, 0, 0, 0, 0) := rfl
theorem zk_175_186 : zc 175 186 = some (.iaload, 0, 0, 0, 0) := rfl
theorem zk_175_187 : zc 175 187 = some (.iadd, 0, 0, 0, 0) := rfl
theorem zk_175_188 : zc 175 188 = some (.istore 4, 0, 0, 0, 0) := rfl
theorem zk_175_190 : zc 175 190 = some (.iload_n 2, 0, 0, 0, 0) := rfl
theorem zk_175_191 : zc 175 191 = some (.aload_n 0, 0, 0, 0, 0) := rfl
theorem zk_175_192 : zc 175 192 = some (.getfield 7, 11, 0, 0, 139) := rfl
theorem zk_175_195 : zc 175 195 = some (.iload 4, 0, 0, 0, 0) := rfl
theorem zk_175_197 : zc 175 197 = some (.iaload, 0, 0, 0, 0) := rfl
theorem zk_175_198 : zc 175 198 = some (.isub, 0, 0, 0, 0) := rfl
theorem zk_175_199 : zc 175 199 = some (.iconst 2, 0, 0, 0, 0) := rfl
theorem zk_175_200 : zc 175 200 = some (.idiv, 0, 0, 0, 0) := rfl
theorem zk_175_201 : zc 175 201 = some (.istore 5, 0, 0, 0, 0) := rfl
theorem zk_175_203 : zc 175 203 = some (.aload_n 0, 0, 0, 0, 0) := rfl
theorem zk_175_204 : zc 175 204 = some (.getfield 7, 11, 0, 0, 139) := rfl
theorem zk_175_207 : zc 175 207 = some (.iload 4, 0, 0, 0, 0) := rfl
theorem zk_175_209 : zc 175 209 = some (.dup2, 0, 0, 0, 0) := rfl
theorem zk_175_210 : zc 175 210 = some (.iaload, 0, 0, 0, 0) := rfl
theorem zk_175_211 : zc 175 211 = some (.iload 5, 0, 0, 0, 0) := rfl
theorem zk_175_213 : zc 175 213 = some (.iadd, 0, 0, 0, 0) := rfl
theorem zk_175_214 : zc 175 214 = some (.iastore, 0, 0, 0, 0) := rfl
theorem zk_175_215 : zc 175 215 = some (.aload_n 0, 0, 0, 0, 0) := rfl
theorem zk_175_216 : zc 175 216 = some (.getfield 7, 11, 0, 0, 139) := rfl
theorem zk_175_219 : zc 175 219 = some (.sipush 645, 0, 0, 0, 0) := rfl
theorem zk_175_222 : zc 175 222 = some (.dup2, 0, 0, 0, 0) := rfl
theorem zk_175_223 : zc 175 223 = some (.iaload, 0, 0, 0, 0) := rfl
theorem zk_175_224 : zc 175 224 = some (.iload 5, 0, 0, 0, 0) := rfl
theorem zk_175_226 : zc 175 226 = some (.iadd, 0, 0, 0, 0) := rfl
theorem zk_175_227 : zc 175 227 = some (.iastore, 0, 0, 0, 0) := rfl
theorem zk_175_228 : zc 175 228 = some (.iinc 3 1, 0, 0, 0, 0) := rfl
theorem zk_175_231 : zc 175 231 = some (.goto (-85), 146, 0, 0, 0) := rfl
theorem zk_175_234 : zc 175 234 = some (.iconst 0, 0, 0, 0, 0) := rfl
theorem zk_175_235 : zc 175 235 = some (.istore_n 3, 0, 0, 0, 0) := rfl
theorem zk_175_236 : zc 175 236 = some (.iload_n 3, 0, 0, 0, 0) := rfl
theorem zk_175_237 : zc 175 237 = some (.bipush 25, 0, 0, 0, 0) := rfl
theorem zk_175_239 : zc 175 239 = some (.if_icmp .ge 16, 255, 0, 0, 0) := rfl
theorem zk_175_242 : zc 175 242 = some (.aload_n 0, 0, 0, 0, 0) := rfl
theorem zk_175_243 : zc 175 243 = some (.getfield 75, 11, 29, 0, 160) := rfl
theorem zk_175_246 : zc 175 246 = some (.iload_n 3, 0, 0, 0, 0) := rfl
theorem zk_175_247 : zc 175 247 = some (.iconst 0, 0, 0, 0, 0) := rfl
theorem zk_175_248 : zc 175 248 = some (.iastore, 0, 0, 0, 0) := rfl
theorem zk_175_249 : zc 175 249 = some (.iinc 3 1, 0, 0, 0, 0) := rfl
theorem zk_175_252 : zc 175 252 = some (.goto (-16), 236, 0, 0, 0) := rfl
theorem zk_175_255 : zc 175 255 = some (.iconst 0, 0, 0, 0, 0) := rfl
theorem zk_175_256 : zc 175 256 = some (.istore_n 3, 0, 0, 0, 0) := rfl
theorem zk_175_257 : zc 175 257 = some (.iload_n 3, 0, 0, 0, 0) := rfl
theorem zk_175_258 : zc 175 258 = some (.bipush 25, 0, 0, 0, 0) := rfl
theorem zk_175_260 : zc 175 260 = some (.if_icmp .ge 161, 421, 0, 0, 0) := rfl
theorem zk_175_263 : zc 175 263 = some (.iconst 2, 0, 0, 0, 0) := rfl
theorem zk_175_264 : zc 175 264 = some (.istore 4, 0, 0, 0, 0) := rfl
theorem zk_175_266 : zc 175 266 = some (.iload 4, 0, 0, 0, 0) := rfl
theorem zk_175_268 : zc 175 268 = some (.iconst 4, 0, 0, 0, 0) := rfl
theorem zk_175_269 : zc 175 269 = some (.if_icmp .ge 146, 415, 0, 0, 0) := rfl
theorem zk_175_272 : zc 175 272 = some (.iload_n 3, 0, 0, 0, 0) := rfl
theorem zk_175_273 : zc 175 273 = some (.iload 4, 0, 0, 0, 0) := rfl
theorem zk_175_275 : zc 175 275 = some (.invokestatic 201, 171, 1, 2, 149) := rfl
theorem zk_175_278 : zc 175 278 = some (.istore 5, 0, 0, 0, 0) := rfl
theorem zk_175_280 : zc 175 280 = some (.iload_n 3, 0, 0, 0, 0) := rfl
theorem zk_175_281 : zc 175 281 = some (.iload 5, 0, 0, 0, 0) := rfl
theorem zk_175_283 : zc 175 283 = some (.invokestatic 107, 126, 1, 2, 130) := rfl
theorem zk_175_286 : zc 175 286 = some (.istore 6, 0, 0, 0, 0) := rfl
theorem zk_175_288 : zc 175 288 = some (.iload 6, 0, 0, 0, 0) := rfl
theorem zk_175_290 : zc 175 290 = some (.iconst (-1), 0, 0, 0, 0) := rfl
theorem zk_175_291 : zc 175 291 = some (.if_icmp .eq 118, 409, 0, 0, 0) := rfl
theorem zk_175_294 : zc 175 294 = some (.aload_n 0, 0, 0, 0, 0) := rfl
theorem zk_175_295 : zc 175 295 = some (.getfield 7, 11, 0, 0, 139) := rfl
theorem zk_175_298 : zc 175 298 = some (.bipush 100, 0, 0, 0, 0) := rfl
theorem zk_175_300 : zc 175 300 = some (.iload 6, 0, 0, 0, 0) := rfl
theorem zk_175_302 : zc 175 302 = some (.iadd, 0, 0, 0, 0) := rfl
theorem zk_175_303 : zc 175 303 = some (.iaload, 0, 0, 0, 0) := rfl
theorem zk_175_304 : zc 175 304 = some (.iconst 1, 0, 0, 0, 0) := rfl
theorem zk_175_305 : zc 175 305 = some (.if_icmp .ne 6, 311, 0, 0, 0) := rfl
theorem zk_175_308 : zc 175 308 = some (.goto 101, 409, 0, 0, 0) := rfl
theorem zk_175_311 : zc 175 311 = some (.aload_n 0, 0, 0, 0, 0) := rfl
theorem zk_175_312 : zc 175 312 = some (.getfield 7, 11, 0, 0, 139) := rfl
theorem zk_175_315 : zc 175 315 = some (.bipush 25, 0, 0, 0, 0) := rfl
theorem zk_175_317 : zc 175 317 = some (.iload_n 3, 0, 0, 0, 0) := rfl
theorem zk_175_318 : zc 175 318 = some (.iadd, 0, 0, 0, 0) := rfl
theorem zk_175_319 : zc 175 319 = some (.iaload, 0, 0, 0, 0) := rfl
theorem zk_175_320 : zc 175 320 = some (.aload_n 0, 0, 0, 0, 0) := rfl
theorem zk_175_321 : zc 175 321 = some (.getfield 7, 11, 0, 0, 139) := rfl
theorem zk_175_324 : zc 175 324 = some (.bipush 25, 0, 0, 0, 0) := rfl
theorem zk_175_326 : zc 175 326 = some (.iload 5, 0, 0, 0, 0) := rfl
theorem zk_175_328 : zc 175 328 = some (.iadd, 0, 0, 0, 0) := rfl
theorem zk_175_329 : zc 175 329 = some (.iaload, 0, 0, 0, 0) := rfl
theorem zk_175_330 : zc 175 330 = some (.isub, 0, 0, 0, 0) := rfl
theorem zk_175_331 : zc 175 331 = some (.iconst 4, 0, 0, 0, 0) := rfl
theorem zk_175_332 : zc 175 332 = some (.idiv, 0, 0, 0, 0) := rfl
theorem zk_175_333 : zc 175 333 = some (.istore 7, 0, 0, 0, 0) := rfl
theorem zk_175_335 : zc 175 335 = some (.aload_n 0, 0, 0, 0, 0) := rfl
theorem zk_175_336 : zc 175 336 = some (.getfield 75, 11, 29, 0, 160) := rfl
theorem zk_175_339 : zc 175 339 = some (.iload_n 3, 0, 0, 0, 0) := rfl
theorem zk_175_340 : zc 175 340 = some (.dup2, 0, 0, 0, 0) := rfl
theorem zk_175_341 : zc 175 341 = some (.iaload, 0, 0, 0, 0) := rfl
theorem zk_175_342 : zc 175 342 = some (.iload 7, 0, 0, 0, 0) := rfl
theorem zk_175_344 : zc 175 344 = some (.isub, 0, 0, 0, 0) := rfl
theorem zk_175_345 : zc 175 345 = some (.iastore, 0, 0, 0, 0) := rfl
theorem zk_175_346 : zc 175 346 = some (.aload_n 0, 0, 0, 0, 0) := rfl
theorem zk_175_347 : zc 175 347 = some (.getfield 75, 11, 29, 0, 160) := rfl
theorem zk_175_350 : zc 175 350 = some (.iload 5, 0, 0, 0, 0) := rfl
theorem zk_175_352 : zc 175 352 = some (.dup2, 0, 0, 0, 0) := rfl
theorem zk_175_353 : zc 175 353 = some (.iaload, 0, 0, 0, 0) := rfl
theorem zk_175_354 : zc 175 354 = some (.iload 7, 0, 0, 0, 0) := rfl
theorem zk_175_356 : zc 175 356 = some (.iadd, 0, 0, 0, 0) := rfl
theorem zk_175_357 : zc 175 357 = some (.iastore, 0, 0, 0, 0) := rfl
theorem zk_175_358 : zc 175 358 = some (.aload_n 0, 0, 0, 0, 0) := rfl
theorem zk_175_359 : zc 175 359 = some (.getfield 7, 11, 0, 0, 139) := rfl
theorem zk_175_362 : zc 175 362 = some (.bipush 75, 0, 0, 0, 0) := rfl
theorem zk_175_364 : zc 175 364 = some (.iload_n 3, 0, 0, 0, 0) := rfl
theorem zk_175_365 : zc 175 365 = some (.iadd, 0, 0, 0, 0) := rfl
theorem zk_175_366 : zc 175 366 = some (.dup2, 0, 0, 0, 0) := rfl
theorem zk_175_367 : zc 175 367 = some (.iaload, 0, 0, 0, 0) := rfl
theorem zk_175_368 : zc 175 368 = some (.iload 7, 0, 0, 0, 0) := rfl
theorem zk_175_370 : zc 175 370 = some (.ifCond .ge 9, 379, 0, 0, 0) := rfl
theorem zk_175_373 : zc 175 373 = some (.iload 7, 0, 0, 0, 0) := rfl
theorem zk_175_375 : zc 175 375 = some (.ineg, 0, 0, 0, 0) := rfl
theorem zk_175_376 : zc 175 376 = some (.goto 5, 381, 0, 0, 0) := rfl
theorem zk_175_379 : zc 175 379 = some (.iload 7, 0, 0, 0, 0) := rfl
theorem zk_175_381 : zc 175 381 = some (.iadd, 0, 0, 0, 0) := rfl
theorem zk_175_382 : zc 175 382 = some (.iastore, 0, 0, 0, 0) := rfl
theorem zk_175_383 : zc 175 383 = some (.aload_n 0, 0, 0, 0, 0) := rfl
theorem zk_175_384 : zc 175 384 = some (.getfield 7, 11, 0, 0, 139) := rfl
theorem zk_175_387 : zc 175 387 = some (.bipush 75, 0, 0, 0, 0) := rfl
theorem zk_175_389 : zc 175 389 = some (.iload 5, 0, 0, 0, 0) := rfl
theorem zk_175_391 : zc 175 391 = some (.iadd, 0, 0, 0, 0) := rfl
theorem zk_175_392 : zc 175 392 = some (.dup2, 0, 0, 0, 0) := rfl
theorem zk_175_393 : zc 175 393 = some (.iaload, 0, 0, 0, 0) := rfl
theorem zk_175_394 : zc 175 394 = some (.iload 7, 0, 0, 0, 0) := rfl
theorem zk_175_396 : zc 175 396 = some (.ifCond .ge 9, 405, 0, 0, 0) := rfl
theorem zk_175_399 : zc 175 399 = some (.iload 7, 0, 0, 0, 0) := rfl
theorem zk_175_401 : zc 175 401 = some (.ineg, 0, 0, 0, 0) := rfl
theorem zk_175_402 : zc 175 402 = some (.goto 5, 407, 0, 0, 0) := rfl
theorem zk_175_405 : zc 175 405 = some (.iload 7, 0, 0, 0, 0) := rfl
theorem zk_175_407 : zc 175 407 = some (.iadd, 0, 0, 0, 0) := rfl
theorem zk_175_408 : zc 175 408 = some (.iastore, 0, 0, 0, 0) := rfl
theorem zk_175_409 : zc 175 409 = some (.iinc 4 1, 0, 0, 0, 0) := rfl
theorem zk_175_412 : zc 175 412 = some (.goto (-146), 266, 0, 0, 0) := rfl
theorem zk_175_415 : zc 175 415 = some (.iinc 3 1, 0, 0, 0, 0) := rfl
theorem zk_175_418 : zc 175 418 = some (.goto (-161), 257, 0, 0, 0) := rfl
theorem zk_175_421 : zc 175 421 = some (.iconst 0, 0, 0, 0, 0) := rfl
theorem zk_175_422 : zc 175 422 = some (.istore_n 3, 0, 0, 0, 0) := rfl
theorem zk_175_423 : zc 175 423 = some (.iload_n 3, 0, 0, 0, 0) := rfl
theorem zk_175_424 : zc 175 424 = some (.bipush 25, 0, 0, 0, 0) := rfl
theorem zk_175_426 : zc 175 426 = some (.if_icmp .ge 27, 453, 0, 0, 0) := rfl
theorem zk_175_429 : zc 175 429 = some (.aload_n 0, 0, 0, 0, 0) := rfl
theorem zk_175_430 : zc 175 430 = some (.getfield 7, 11, 0, 0, 139) := rfl
theorem zk_175_433 : zc 175 433 = some (.bipush 25, 0, 0, 0, 0) := rfl
theorem zk_175_435 : zc 175 435 = some (.iload_n 3, 0, 0, 0, 0) := rfl
theorem zk_175_436 : zc 175 436 = some (.iadd, 0, 0, 0, 0) := rfl
theorem zk_175_437 : zc 175 437 = some (.dup2, 0, 0, 0, 0) := rfl
theorem zk_175_438 : zc 175 438 = some (.iaload, 0, 0, 0, 0) := rfl
theorem zk_175_439 : zc 175 439 = some (.aload_n 0, 0, 0, 0, 0) := rfl
theorem zk_175_440 : zc 175 440 = some (.getfield 75, 11, 29, 0, 160) := rfl
set_option maxRecDepth 4000 in
theorem zk_175_443 : zc 175 443 = some (.iload_n 3, 0, 0, 0, 0) := rfl
set_option maxRecDepth 4000 in
theorem zk_175_444 : zc 175 444 = some (.iaload, 0, 0, 0, 0) := rfl
set_option maxRecDepth 4000 in
theorem zk_175_445 : zc 175 445 = some (.iadd, 0, 0, 0, 0) := rfl
set_option maxRecDepth 4000 in
theorem zk_175_446 : zc 175 446 = some (.iastore, 0, 0, 0, 0) := rfl
set_option maxRecDepth 4000 in
theorem zk_175_447 : zc 175 447 = some (.iinc 3 1, 0, 0, 0, 0) := rfl
set_option maxRecDepth 4000 in
theorem zk_175_450 : zc 175 450 = some (.goto (-27), 423, 0, 0, 0) := rfl
set_option maxRecDepth 4000 in
theorem zk_175_453 : zc 175 453 = some (.return_, 0, 0, 0, 0) := rfl
theorem zk_177_0 : zc 177 0 = some (.iconst 0, 0, 0, 0, 0) := rfl
theorem zk_177_1 : zc 177 1 = some (.istore_n 2, 0, 0, 0, 0) := rfl
theorem zk_177_2 : zc 177 2 = some (.iload_n 2, 0, 0, 0, 0) := rfl
theorem zk_177_3 : zc 177 3 = some (.bipush 50, 0, 0, 0, 0) := rfl
theorem zk_177_5 : zc 177 5 = some (.if_icmp .ge 16, 21, 0, 0, 0) := rfl
theorem zk_177_8 : zc 177 8 = some (.aload_n 0, 0, 0, 0, 0) := rfl
theorem zk_177_9 : zc 177 9 = some (.getfield 78, 11, 30, 0, 161) := rfl
theorem zk_177_12 : zc 177 12 = some (.iload_n 2, 0, 0, 0, 0) := rfl
theorem zk_177_13 : zc 177 13 = some (.iconst 0, 0, 0, 0, 0) := rfl
theorem zk_177_14 : zc 177 14 = some (.iastore, 0, 0, 0, 0) := rfl
theorem zk_177_15 : zc 177 15 = some (.iinc 2 1, 0, 0, 0, 0) := rfl
theorem zk_177_18 : zc 177 18 = some (.goto (-16), 2, 0, 0, 0) := rfl
theorem zk_177_21 : zc 177 21 = some (.bipush 9, 0, 0, 0, 0) := rfl
theorem zk_177_23 : zc 177 23 = some (.istore_n 2, 0, 0, 0, 0) := rfl
theorem zk_177_24 : zc 177 24 = some (.iload_n 2, 0, 0, 0, 0) := rfl
theorem zk_177_25 : zc 177 25 = some (.ifCond .lt 62, 87, 0, 0, 0) := rfl
theorem zk_177_28 : zc 177 28 = some (.iconst 0, 0, 0, 0, 0) := rfl
theorem zk_177_29 : zc 177 29 = some (.istore_n 3, 0, 0, 0, 0) := rfl
theorem zk_177_30 : zc 177 30 = some (.iload_n 3, 0, 0, 0, 0) := rfl
theorem zk_177_31 : zc 177 31 = some (.aload_n 0, 0, 0, 0, 0) := rfl
theorem zk_177_32 : zc 177 32 = some (.getfield 7, 11, 0, 0, 139) := rfl
theorem zk_177_35 : zc 177 35 = some (.sipush 642, 0, 0, 0, 0) := rfl
theorem zk_177_38 : zc 177 38 = some (.iaload, 0, 0, 0, 0) := rfl
theorem zk_177_39 : zc 177 39 = some (.if_icmp .ge 42, 81, 0, 0, 0) := rfl
theorem zk_177_42 : zc 177 42 = some (.aload_n 0, 0, 0, 0, 0) := rfl
theorem zk_177_43 : zc 177 43 = some (.getfield 7, 11, 0, 0, 139) := rfl
theorem zk_177_46 : zc 177 46 = some (.sipush 592, 0, 0, 0, 0) := rfl
theorem zk_177_49 : zc 177 49 = some (.iload_n 3, 0, 0, 0, 0) := rfl
theorem zk_177_50 : zc 177 50 = some (.iadd, 0, 0, 0, 0) := rfl
theorem zk_177_51 : zc 177 51 = some (.iaload, 0, 0, 0, 0) := rfl
theorem zk_177_52 : zc 177 52 = some (.iload_n 2, 0, 0, 0, 0) := rfl
theorem zk_177_53 : zc 177 53 = some (.if_icmp .ne 22, 75, 0, 0, 0) := rfl
theorem zk_177_56 : zc 177 56 = some (.aload_n 0, 0, 0, 0, 0) := rfl
theorem zk_177_57 : zc 177 57 = some (.getfield 7, 11, 0, 0, 139) := rfl
theorem zk_177_60 : zc 177 60 = some (.sipush 598, 0, 0, 0, 0) := rfl
theorem zk_177_63 : zc 177 63 = some (.iload_n 3, 0, 0, 0, 0) := rfl
theorem zk_177_64 : zc 177 64 = some (.iadd, 0, 0, 0, 0) := rfl
theorem zk_177_65 : zc 177 65 = some (.iaload, 0, 0, 0, 0) := rfl
theorem zk_177_66 : zc 177 66 = some (.iconst (-1), 0, 0, 0, 0) := rfl
theorem zk_177_67 : zc 177 67 = some (.if_icmp .eq 8, 75, 0, 0, 0) := rfl
theorem zk_177_70 : zc 177 70 = some (.aload_n 0, 0, 0, 0, 0) := rfl
theorem zk_177_71 : zc 177 71 = some (.iload_n 3, 0, 0, 0, 0) := rfl
theorem zk_177_72 : zc 177 72 = some (.invokevirtual 217, 176, 0, 2, 152) := rfl
theorem zk_177_75 : zc 177 75 = some (.iinc 3 1, 0, 0, 0, 0) := rfl
theorem zk_177_78 : zc 177 78 = some (.goto (-48), 30, 0, 0, 0) := rfl
theorem zk_177_81 : zc 177 81 = some (.iinc 2 (-1), 0, 0, 0, 0) := rfl
theorem zk_177_84 : zc 177 84 = some (.goto (-60), 24, 0, 0, 0) := rfl
theorem zk_177_87 : zc 177 87 = some (.iconst 0, 0, 0, 0, 0) := rfl
theorem zk_177_88 : zc 177 88 = some (.istore_n 2, 0, 0, 0, 0) := rfl
theorem zk_177_89 : zc 177 89 = some (.iconst 0, 0, 0, 0, 0) := rfl
theorem zk_177_90 : zc 177 90 = some (.istore_n 3, 0, 0, 0, 0) := rfl
theorem zk_177_91 : zc 177 91 = some (.iload_n 3, 0, 0, 0, 0) := rfl
theorem zk_177_92 : zc 177 92 = some (.aload_n 0, 0, 0, 0, 0) := rfl
theorem zk_177_93 : zc 177 93 = some (.getfield 7, 11, 0, 0, 139) := rfl
theorem zk_177_96 : zc 177 96 = some (.sipush 641, 0, 0, 0, 0) := rfl
theorem zk_177_99 : zc 177 99 = some (.iaload, 0, 0, 0, 0) := rfl
theorem zk_177_100 : zc 177 100 = some (.if_icmp .ge 218, 318, 0, 0, 0) := rfl
theorem zk_177_103 : zc 177 103 = some (.aload_n 0, 0, 0, 0, 0) := rfl
theorem zk_177_104 : zc 177 104 = some (.getfield 7, 11, 0, 0, 139) := rfl
theorem zk_177_107 : zc 177 107 = some (.bipush 25, 0, 0, 0, 0) := rfl
theorem zk_177_109 : zc 177 109 = some (.aload_n 0, 0, 0, 0, 0) := rfl
theorem zk_177_110 : zc 177 110 = some (.getfield 7, 11, 0, 0, 139) := rfl
theorem zk_177_113 : zc 177 113 = some (.sipush 460, 0, 0, 0, 0) := rfl
theorem zk_177_116 : zc 177 116 = some (.iload_n 3, 0, 0, 0, 0) := rfl
theorem zk_177_117 : zc 177 117 = some (.iadd, 0, 0, 0, 0) := rfl
theorem zk_177_118 : zc 177 118 = some (.iaload, 0, 0, 0, 0) := rfl
theorem zk_177_119 : zc 177 119 = some (.iadd, 0, 0, 0, 0) := rfl
theorem zk_177_120 : zc 177 120 = some (.iaload, 0, 0, 0, 0) := rfl
theorem zk_177_121 : zc 177 121 = some (.aload_n 0, 0, 0, 0, 0) := rfl
theorem zk_177_122 : zc 177 122 = some (.getfield 7, 11, 0, 0, 139) := rfl
theorem zk_177_125 : zc 177 125 = some (.sipush 472, 0, 0, 0, 0) := rfl
theorem zk_177_128 : zc 177 128 = some (.iload_n 3, 0, 0, 0, 0) := rfl
theorem zk_177_129 : zc 177 129 = some (.iadd, 0, 0, 0, 0) := rfl
theorem zk_177_130 : zc 177 130 = some (.iaload, 0, 0, 0, 0) := rfl
theorem zk_177_131 : zc 177 131 = some (.aload_n 0, 0, 0, 0, 0) := rfl
theorem zk_177_132 : zc 177 132 = some (.getfield 7, 11, 0, 0, 139) := rfl
theorem zk_177_135 : zc 177 135 = some (.sipush 508, 0, 0, 0, 0) := rfl
theorem zk_177_138 : zc 177 138 = some (.iload_n 3, 0, 0, 0, 0) := rfl
theorem zk_177_139 : zc 177 139 = some (.iadd, 0, 0, 0, 0) := rfl
theorem zk_177_140 : zc 177 140 = some (.iaload, 0, 0, 0, 0) := rfl
theorem zk_177_141 : zc 177 141 = some (.isub, 0, 0, 0, 0) := rfl
theorem zk_177_142 : zc 177 142 = some (.if_icmp .le 7, 149, 0, 0, 0) := rfl
theorem zk_177_145 : zc 177 145 = some (.iconst 1, 0, 0, 0, 0) := rfl
theorem zk_177_146 : zc 177 146 = some (.goto 4, 150, 0, 0, 0) := rfl
theorem zk_177_149 : zc 177 149 = some (.iconst 0, 0, 0, 0, 0) := rfl
theorem zk_177_150 : zc 177 150 = some (.istore 4, 0, 0, 0, 0) := rfl
theorem zk_177_152 : zc 177 152 = some (.aload_n 0, 0, 0, 0, 0) := rfl
theorem zk_177_153 : zc 177 153 = some (.getfield 7, 11, 0, 0, 139) := rfl
theorem zk_177_156 : zc 177 156 = some (.sipush 556, 0, 0, 0, 0) := rfl
theorem zk_177_159 : zc 177 159 = some (.iload_n 3, 0, 0, 0, 0) := rfl
theorem zk_177_160 : zc 177 160 = some (.iadd, 0, 0, 0, 0) := rfl
theorem zk_177_161 : zc 177 161 = some (.iload 4, 0, 0, 0, 0) := rfl
theorem zk_177_163 : zc 177 163 = some (.ifCond .eq 7, 170, 0, 0, 0) := rfl
theorem zk_177_166 : zc 177 166 = some (.iconst 1, 0, 0, 0, 0) := rfl
theorem zk_177_167 : zc 177 167 = some (.goto 4, 171, 0, 0, 0) := rfl
theorem zk_177_170 : zc 177 170 = some (.iconst 0, 0, 0, 0, 0) := rfl
theorem zk_177_171 : zc 177 171 = some (.iastore, 0, 0, 0, 0) := rfl
theorem zk_177_172 : zc 177 172 = some (.iload 4, 0, 0, 0, 0) := rfl
theorem zk_177_174 : zc 177 174 = some (.ifCond .eq 97, 271, 0, 0, 0) := rfl
theorem zk_177_177 : zc 177 177 = some (.iconst 1, 0, 0, 0, 0) := rfl
theorem zk_177_178 : zc 177 178 = some (.istore_n 2, 0, 0, 0, 0) := rfl
theorem zk_177_179 : zc 177 179 = some (.aload_n 0, 0, 0, 0, 0) := rfl
theorem zk_177_180 : zc 177 180 = some (.dup, 0, 0, 0, 0) := rfl
theorem zk_177_181 : zc 177 181 = some (.getfield 220, 11, 32, 0, 177) := rfl
theorem zk_177_184 : zc 177 184 = some (.iconst 1, 0, 0, 0, 0) := rfl
theorem zk_177_185 : zc 177 185 = some (.iadd, 0, 0, 0, 0) := rfl
theorem zk_177_186 : zc 177 186 = some (.putfield 220, 11, 32, 0, 177) := rfl
theorem zk_177_189 : zc 177 189 = some (.aload_n 0, 0, 0, 0, 0) := rfl
theorem zk_177_190 : zc 177 190 = some (.getfield 7, 11, 0, 0, 139) := rfl
theorem zk_177_193 : zc 177 193 = some (.sipush 520, 0, 0, 0, 0) := rfl
theorem zk_177_196 : zc 177 196 = some (.iload_n 3, 0, 0, 0, 0) := rfl
theorem zk_177_197 : zc 177 197 = some (.iadd, 0, 0, 0, 0) := rfl
theorem zk_177_198 : zc 177 198 = some (.dup2, 0, 0, 0, 0) := rfl
theorem zk_177_199 : zc 177 199 = some (.iaload, 0, 0, 0, 0) := rfl
theorem zk_177_200 : zc 177 200 = some (.iconst 1, 0, 0, 0, 0) := rfl
theorem zk_177_201 : zc 177 201 = some (.iadd, 0, 0, 0, 0) := rfl
theorem zk_177_202 : zc 177 202 = some (.iastore, 0, 0, 0, 0) := rfl
theorem zk_177_203 : zc 177 203 = some (.aload_n 0, 0, 0, 0, 0) := rfl
theorem zk_177_204 : zc 177 204 = some (.getfield 7, 11, 0, 0, 139) := rfl
theorem zk_177_207 : zc 177 207 = some (.sipush 448, 0, 0, 0, 0) := rfl
theorem zk_177_210 : zc 177 210 = some (.iload_n 3, 0, 0, 0, 0) := rfl
theorem zk_177_211 : zc 177 211 = some (.iadd, 0, 0, 0, 0) := rfl
theorem zk_177_212 : zc 177 212 = some (.iaload, 0, 0, 0, 0) := rfl
theorem zk_177_213 : zc 177 213 = some (.iconst 1, 0, 0, 0, 0) := rfl
theorem zk_177_214 : zc 177 214 = some (.if_icmp .ne 26, 240, 0, 0, 0) := rfl
theorem zk_177_217 : zc 177 217 = some (.aload_n 0, 0, 0, 0, 0) := rfl
theorem zk_177_218 : zc 177 218 = some (.getfield 7, 11, 0, 0, 139) := rfl
theorem zk_177_221 : zc 177 221 = some (.sipush 532, 0, 0, 0, 0) := rfl
theorem zk_177_224 : zc 177 224 = some (.iload_n 3, 0, 0, 0, 0) := rfl
theorem zk_177_225 : zc 177 225 = some (.iadd, 0, 0, 0, 0) := rfl
theorem zk_177_226 : zc 177 226 = some (.dup2, 0, 0, 0, 0) := rfl
theorem zk_177_227 : zc 177 227 = some (.iaload, 0, 0, 0, 0) := rfl
theorem zk_177_228 : zc 177 228 = some (.aload_n 0, 0, 0, 0, 0) := rfl
theorem zk_177_229 : zc 177 229 = some (.getfield 7, 11, 0, 0, 139) := rfl
theorem zk_177_232 : zc 177 232 = some (.sipush 496, 0, 0, 0, 0) := rfl
theorem zk_177_235 : zc 177 235 = some (.iload_n 3, 0, 0, 0, 0) := rfl
theorem zk_177_236 : zc 177 236 = some (.iadd, 0, 0, 0, 0) := rfl
theorem zk_177_237 : zc 177 237 = some (.iaload, 0, 0, 0, 0) := rfl
theorem zk_177_238 : zc 177 238 = some (.iadd, 0, 0, 0, 0) := rfl
theorem zk_177_239 : zc 177 239 = some (.iastore, 0, 0, 0, 0) := rfl
theorem zk_177_240 : zc 177 240 = some (.aload_n 0, 0, 0, 0, 0) := rfl
theorem zk_177_241 : zc 177 241 = some (.getfield 7, 11, 0, 0, 139) := rfl
theorem zk_177_244 : zc 177 244 = some (.sipush 448, 0, 0, 0, 0) := rfl
theorem zk_177_247 : zc 177 247 = some (.iload_n 3, 0, 0, 0, 0) := rfl
theorem zk_177_248 : zc 177 248 = some (.iadd, 0, 0, 0, 0) := rfl
theorem zk_177_249 : zc 177 249 = some (.iaload, 0, 0, 0, 0) := rfl
theorem zk_177_250 : zc 177 250 = some (.iconst 2, 0, 0, 0, 0) := rfl
theorem zk_177_251 : zc 177 251 = some (.if_icmp .ne 61, 312, 0, 0, 0) := rfl
theorem zk_177_254 : zc 177 254 = some (.aload_n 0, 0, 0, 0, 0) := rfl
theorem zk_177_255 : zc 177 255 = some (.getfield 7, 11, 0, 0, 139) := rfl
theorem zk_177_258 : zc 177 258 = some (.sipush 544, 0, 0, 0, 0) := rfl
theorem zk_177_261 : zc 177 261 = some (.iload_n 3, 0, 0, 0, 0) := rfl
theorem zk_177_262 : zc 177 262 = some (.iadd, 0, 0, 0, 0) := rfl
theorem zk_177_263 : zc 177 263 = some (.dup2, 0, 0, 0, 0) := rfl
theorem zk_177_264 : zc 177 264 = some (.iaload, 0, 0, 0, 0) := rfl
theorem zk_177_265 : zc 177 265 = some (.iconst 2, 0, 0, 0, 0) := rfl
theorem zk_177_266 : zc 177 266 = some (.iadd, 0, 0, 0, 0) := rfl
theorem zk_177_267 : zc 177 267 = some (.iastore, 0, 0, 0, 0) := rfl
theorem zk_177_268 : zc 177 268 = some (.goto 44, 312, 0, 0, 0) := rfl
theorem zk_177_271 : zc 177 271 = some (.aload_n 0, 0, 0, 0, 0) := rfl
theorem zk_177_272 : zc 177 272 = some (.getfield 7, 11, 0, 0, 139) := rfl
theorem zk_177_275 : zc 177 275 = some (.sipush 448, 0, 0, 0, 0) := rfl
theorem zk_177_278 : zc 177 278 = some (.iload_n 3, 0, 0, 0, 0) := rfl
theorem zk_177_279 : zc 177 279 = some (.iadd, 0, 0, 0, 0) := rfl
theorem zk_177_280 : zc 177 280 = some (.iaload, 0, 0, 0, 0) := rfl
theorem zk_177_281 : zc 177 281 = some (.iconst 2, 0, 0, 0, 0) := rfl
theorem zk_177_282 : zc 177 282 = some (.if_icmp .ne 30, 312, 0, 0, 0) := rfl
theorem zk_177_285 : zc 177 285 = some (.aload_n 0, 0, 0, 0, 0) := rfl
theorem zk_177_286 : zc 177 286 = some (.getfield 7, 11, 0, 0, 139) := rfl
theorem zk_177_289 : zc 177 289 = some (.sipush 544, 0, 0, 0, 0) := rfl
theorem zk_177_292 : zc 177 292 = some (.iload_n 3, 0, 0, 0, 0) := rfl
theorem zk_177_293 : zc 177 293 = some (.iadd, 0, 0, 0, 0) := rfl
theorem zk_177_294 : zc 177 294 = some (.iaload, 0, 0, 0, 0) := rfl
theorem zk_177_295 : zc 177 295 = some (.ifCond .le 17, 312, 0, 0, 0) := rfl
theorem zk_177_298 : zc 177 298 = some (.aload_n 0, 0, 0, 0, 0) := rfl
theorem zk_177_299 : zc 177 299 = some (.getfield 7, 11, 0, 0, 139) := rfl
theorem zk_177_302 : zc 177 302 = some (.sipush 544, 0, 0, 0, 0) := rfl
theorem zk_177_305 : zc 177 305 = some (.iload_n 3, 0, 0, 0, 0) := rfl
theorem zk_177_306 : zc 177 306 = some (.iadd, 0, 0, 0, 0) := rfl
theorem zk_177_307 : zc 177 307 = some (.dup2, 0, 0, 0, 0) := rfl
theorem zk_177_308 : zc 177 308 = some (.iaload, 0, 0, 0, 0) := rfl
theorem zk_177_309 : zc 177 309 = some (.iconst 1, 0, 0, 0, 0) := rfl
theorem zk_177_310 : zc 177 310 = some (.isub, 0, 0, 0, 0) := rfl
theorem zk_177_311 : zc 177 311 = some (.iastore, 0, 0, 0, 0) := rfl
theorem zk_177_312 : zc 177 312 = some (.iinc 3 1, 0, 0, 0, 0) := rfl
theorem zk_177_315 : zc 177 315 = some (.goto (-224), 91, 0, 0, 0) := rfl
theorem zk_177_318 : zc 177 318 = some (.iconst 0, 0, 0, 0, 0) := rfl
theorem zk_177_319 : zc 177 319 = some (.istore_n 3, 0, 0, 0, 0) := rfl
theorem zk_177_320 : zc 177 320 = some (.iconst 0, 0, 0, 0, 0) := rfl
theorem zk_177_321 : zc 177 321 = some (.istore 4, 0, 0, 0, 0) := rfl
theorem zk_177_323 : zc 177 323 = some (.iload 4, 0, 0, 0, 0) := rfl
theorem zk_177_325 : zc 177 325 = some (.aload_n 0, 0, 0, 0, 0) := rfl
theorem zk_177_326 : zc 177 326 = some (.getfield 7, 11, 0, 0, 139) := rfl
theorem zk_177_329 : zc 177 329 = some (.sipush 633, 0, 0, 0, 0) := rfl
theorem zk_177_332 : zc 177 332 = some (.iaload, 0, 0, 0, 0) := rfl
theorem zk_177_333 : zc 177 333 = some (.if_icmp .ge 26, 359, 0, 0, 0) := rfl
theorem zk_177_336 : zc 177 336 = some (.aload_n 0, 0, 0, 0, 0) := rfl
theorem zk_177_337 : zc 177 337 = some (.getfield 7, 11, 0, 0, 139) := rfl
theorem zk_177_340 : zc 177 340 = some (.sipush 253, 0, 0, 0, 0) := rfl
theorem zk_177_343 : zc 177 343 = some (.iload 4, 0, 0, 0, 0) := rfl
theorem zk_177_345 : zc 177 345 = some (.iadd, 0, 0, 0, 0) := rfl
theorem zk_177_346 : zc 177 346 = some (.iaload, 0, 0, 0, 0) := rfl
theorem zk_177_347 : zc 177 347 = some (.iconst 1, 0, 0, 0, 0) := rfl
theorem zk_177_348 : zc 177 348 = some (.if_icmp .ne 5, 353, 0, 0, 0) := rfl
theorem zk_177_351 : zc 177 351 = some (.iconst 1, 0, 0, 0, 0) := rfl
theorem zk_177_352 : zc 177 352 = some (.istore_n 3, 0, 0, 0, 0) := rfl
theorem zk_177_353 : zc 177 353 = some (.iinc 4 1, 0, 0, 0, 0) := rfl
theorem zk_177_356 : zc 177 356 = some (.goto (-33), 323, 0, 0, 0) := rfl
theorem zk_177_359 : zc 177 359 = some (.iload_n 2, 0, 0, 0, 0) := rfl
theorem zk_177_360 : zc 177 360 = some (.ifCond .eq 19, 379, 0, 0, 0) := rfl
theorem zk_177_363 : zc 177 363 = some (.iload_n 3, 0, 0, 0, 0) := rfl
theorem zk_177_364 : zc 177 364 = some (.ifCond .ne 15, 379, 0, 0, 0) := rfl
theorem zk_177_367 : zc 177 367 = some (.aload_n 0, 0, 0, 0, 0) := rfl
theorem zk_177_368 : zc 177 368 = some (.getfield 7, 11, 0, 0, 139) := rfl
theorem zk_177_371 : zc 177 371 = some (.sipush 643, 0, 0, 0, 0) := rfl
theorem zk_177_374 : zc 177 374 = some (.dup2, 0, 0, 0, 0) := rfl
theorem zk_177_375 : zc 177 375 = some (.iaload, 0, 0, 0, 0) := rfl
theorem zk_177_376 : zc 177 376 = some (.iconst 1, 0, 0, 0, 0) := rfl
theorem zk_177_377 : zc 177 377 = some (.iadd, 0, 0, 0, 0) := rfl
theorem zk_177_378 : zc 177 378 = some (.iastore, 0, 0, 0, 0) := rfl
theorem zk_177_379 : zc 177 379 = some (.iload_n 3, 0, 0, 0, 0) := rfl
theorem zk_177_380 : zc 177 380 = some (.ifCond .eq 35, 415, 0, 0, 0) := rfl
theorem zk_177_383 : zc 177 383 = some (.aload_n 0, 0, 0, 0, 0) := rfl
theorem zk_177_384 : zc 177 384 = some (.aload_n 0, 0, 0, 0, 0) := rfl
theorem zk_177_385 : zc 177 385 = some (.getfield 7, 11, 0, 0, 139) := rfl
theorem zk_177_388 : zc 177 388 = some (.sipush 634, 0, 0, 0, 0) := rfl
theorem zk_177_391 : zc 177 391 = some (.iaload, 0, 0, 0, 0) := rfl
theorem zk_177_392 : zc 177 392 = some (.iload_n 1, 0, 0, 0, 0) := rfl
theorem zk_177_393 : zc 177 393 = some (.invokevirtual 134, 145, 0, 3, 135) := rfl
theorem zk_177_396 : zc 177 396 = some (.aload_n 0, 0, 0, 0, 0) := rfl
theorem zk_177_397 : zc 177 397 = some (.getfield 211, 11, 33, 0, 175) := rfl
theorem zk_177_400 : zc 177 400 = some (.if_icmp .gt 15, 415, 0, 0, 0) := rfl
theorem zk_177_403 : zc 177 403 = some (.aload_n 0, 0, 0, 0, 0) := rfl
theorem zk_177_404 : zc 177 404 = some (.getfield 7, 11, 0, 0, 139) := rfl
theorem zk_177_407 : zc 177 407 = some (.sipush 644, 0, 0, 0, 0) := rfl
theorem zk_177_410 : zc 177 410 = some (.dup2, 0, 0, 0, 0) := rfl
theorem zk_177_411 : zc 177 411 = some (.iaload, 0, 0, 0, 0) := rfl
theorem zk_177_412 : zc 177 412 = some (.iconst 1, 0, 0, 0, 0) := rfl
theorem zk_177_413 : zc 177 413 = some (.iadd, 0, 0, 0, 0) := rfl
theorem zk_177_414 : zc 177 414 = some (.iastore, 0, 0, 0, 0) := rfl
theorem zk_177_415 : zc 177 415 = some (.aload_n 0, 0, 0, 0, 0) := rfl
theorem zk_177_416 : zc 177 416 = some (.getfield 7, 11, 0, 0, 139) := rfl
theorem zk_177_419 : zc 177 419 = some (.sipush 634, 0, 0, 0, 0) := rfl
theorem zk_177_422 : zc 177 422 = some (.dup2, 0, 0, 0, 0) := rfl
theorem zk_177_423 : zc 177 423 = some (.iaload, 0, 0, 0, 0) := rfl
theorem zk_177_424 : zc 177 424 = some (.iconst 1, 0, 0, 0, 0) := rfl
theorem zk_177_425 : zc 177 425 = some (.iadd, 0, 0, 0, 0) := rfl
theorem zk_177_426 : zc 177 426 = some (.iastore, 0, 0, 0, 0) := rfl
theorem zk_177_427 : zc 177 427 = some (.aload_n 0, 0, 0, 0, 0) := rfl
theorem zk_177_428 : zc 177 428 = some (.getfield 7, 11, 0, 0, 139) := rfl
theorem zk_177_431 : zc 177 431 = some (.sipush 634, 0, 0, 0, 0) := rfl
theorem zk_177_434 : zc 177 434 = some (.iaload, 0, 0, 0, 0) := rfl
theorem zk_177_435 : zc 177 435 = some (.bipush 96, 0, 0, 0, 0) := rfl
theorem zk_177_437 : zc 177 437 = some (.irem, 0, 0, 0, 0) := rfl
theorem zk_177_438 : zc 177 438 = some (.ifCond .eq 4, 442, 0, 0, 0) := rfl
set_option maxRecDepth 4000 in
theorem zk_177_441 : zc 177 441 = some (.return_, 0, 0, 0, 0) := rfl
set_option maxRecDepth 4000 in
theorem zk_177_442 : zc 177 442 = some (.aload_n 0, 0, 0, 0, 0) := rfl
set_option maxRecDepth 4000 in
theorem zk_177_443 : zc 177 443 = some (.getfield 7, 11, 0, 0, 139) := rfl
set_option maxRecDepth 4000 in
theorem zk_177_446 : zc 177 446 = some (.sipush 634, 0, 0, 0, 0) := rfl
set_option maxRecDepth 4000 in
theorem zk_177_449 : zc 177 449 = some (.iaload, 0, 0, 0, 0) := rfl
set_option maxRecDepth 4000 in
theorem zk_177_450 : zc 177 450 = some (.bipush 96, 0, 0, 0, 0) := rfl
set_option maxRecDepth 4000 in
theorem zk_177_452 : zc 177 452 = some (.idiv, 0, 0, 0, 0) := rfl
set_option maxRecDepth 4000 in
theorem zk_177_453 : zc 177 453 = some (.istore 4, 0, 0, 0, 0) := rfl
set_option maxRecDepth 4000 in
theorem zk_177_455 : zc 177 455 = some (.iconst 0, 0, 0, 0, 0) := rfl
set_option maxRecDepth 4000 in
theorem zk_177_456 : zc 177 456 = some (.istore 5, 0, 0, 0, 0) := rfl
set_option maxRecDepth 4000 in
theorem zk_177_458 : zc 177 458 = some (.iload 5, 0, 0, 0, 0) := rfl
set_option maxRecDepth 4000 in
theorem zk_177_460 : zc 177 460 = some (.bipush 25, 0, 0, 0, 0) := rfl
set_option maxRecDepth 4000 in
theorem zk_177_462 : zc 177 462 = some (.if_icmp .ge 66, 528, 0, 0, 0) := rfl
set_option maxRecDepth 4000 in
theorem zk_177_465 : zc 177 465 = some (.aload_n 0, 0, 0, 0, 0) := rfl
set_option maxRecDepth 4000 in
theorem zk_177_466 : zc 177 466 = some (.getfield 7, 11, 0, 0, 139) := rfl
set_option maxRecDepth 4000 in
theorem zk_177_469 : zc 177 469 = some (.bipush 75, 0, 0, 0, 0) := rfl
set_option maxRecDepth 4000 in
theorem zk_177_471 : zc 177 471 = some (.iload 5, 0, 0, 0, 0) := rfl
set_option maxRecDepth 4000 in
theorem zk_177_473 : zc 177 473 = some (.iadd, 0, 0, 0, 0) := rfl
set_option maxRecDepth 4000 in
theorem zk_177_474 : zc 177 474 = some (.iaload, 0, 0, 0, 0) := rfl
set_option maxRecDepth 4000 in
theorem zk_177_475 : zc 177 475 = some (.aload_n 0, 0, 0, 0, 0) := rfl
set_option maxRecDepth 4000 in
theorem zk_177_476 : zc 177 476 = some (.getfield 7, 11, 0, 0, 139) := rfl
set_option maxRecDepth 4000 in
theorem zk_177_479 : zc 177 479 = some (.sipush 639, 0, 0, 0, 0) := rfl
set_option maxRecDepth 4000 in
theorem zk_177_482 : zc 177 482 = some (.iaload, 0, 0, 0, 0) := rfl
set_option maxRecDepth 4000 in
theorem zk_177_483 : zc 177 483 = some (.if_icmp .ge 28, 511, 0, 0, 0) := rfl
set_option maxRecDepth 4000 in
theorem zk_177_486 : zc 177 486 = some (.aload_n 0, 0, 0, 0, 0) := rfl
set_option maxRecDepth 4000 in
theorem zk_177_487 : zc 177 487 = some (.getfield 7, 11, 0, 0, 139) := rfl
set_option maxRecDepth 4000 in
theorem zk_177_490 : zc 177 490 = some (.iconst 0, 0, 0, 0, 0) := rfl
set_option maxRecDepth 4000 in
theorem zk_177_491 : zc 177 491 = some (.iload 5, 0, 0, 0, 0) := rfl
set_option maxRecDepth 4000 in
theorem zk_177_493 : zc 177 493 = some (.iadd, 0, 0, 0, 0) := rfl
set_option maxRecDepth 4000 in
theorem zk_177_494 : zc 177 494 = some (.iaload, 0, 0, 0, 0) := rfl
set_option maxRecDepth 4000 in
theorem zk_177_495 : zc 177 495 = some (.ifCond .le 16, 511, 0, 0, 0) := rfl
set_option maxRecDepth 4000 in
theorem zk_177_498 : zc 177 498 = some (.aload_n 0, 0, 0, 0, 0) := rfl
set_option maxRecDepth 4000 in
theorem zk_177_499 : zc 177 499 = some (.getfield 7, 11, 0, 0, 139) := rfl
set_option maxRecDepth 4000 in
theorem zk_177_502 : zc 177 502 = some (.iconst 0, 0, 0, 0, 0) := rfl
set_option maxRecDepth 4000 in
theorem zk_177_503 : zc 177 503 = some (.iload 5, 0, 0, 0, 0) := rfl
set_option maxRecDepth 4000 in
theorem zk_177_505 : zc 177 505 = some (.iadd, 0, 0, 0, 0) := rfl
set_option maxRecDepth 4000 in
theorem zk_177_506 : zc 177 506 = some (.dup2, 0, 0, 0, 0) := rfl
set_option maxRecDepth 4000 in
theorem zk_177_507 : zc 177 507 = some (.iaload, 0, 0, 0, 0) := rfl
set_option maxRecDepth 4000 in
theorem zk_177_508 : zc 177 508 = some (.iconst 1, 0, 0, 0, 0) := rfl
set_option maxRecDepth 4000 in
theorem zk_177_509 : zc 177 509 = some (.isub, 0, 0, 0, 0) := rfl
set_option maxRecDepth 4000 in
theorem zk_177_510 : zc 177 510 = some (.iastore, 0, 0, 0, 0) := rfl
set_option maxRecDepth 4000 in
theorem zk_177_511 : zc 177 511 = some (.aload_n 0, 0, 0, 0, 0) := rfl
set_option maxRecDepth 4000 in
theorem zk_177_512 : zc 177 512 = some (.getfield 7, 11, 0, 0, 139) := rfl
set_option maxRecDepth 4000 in
theorem zk_177_515 : zc 177 515 = some (.bipush 75, 0, 0, 0, 0) := rfl
set_option maxRecDepth 4000 in
theorem zk_177_517 : zc 177 517 = some (.iload 5, 0, 0, 0, 0) := rfl
set_option maxRecDepth 4000 in
theorem zk_177_519 : zc 177 519 = some (.iadd, 0, 0, 0, 0) := rfl
set_option maxRecDepth 4000 in
theorem zk_177_520 : zc 177 520 = some (.iconst 0, 0, 0, 0, 0) := rfl
set_option maxRecDepth 4000 in
theorem zk_177_521 : zc 177 521 = some (.iastore, 0, 0, 0, 0) := rfl
set_option maxRecDepth 4000 in
theorem zk_177_522 : zc 177 522 = some (.iinc 5 1, 0, 0, 0, 0) := rfl
set_option maxRecDepth 4000 in
theorem zk_177_525 : zc 177 525 = some (.goto (-67), 458, 0, 0, 0) := rfl
set_option maxRecDepth 4000 in
theorem zk_177_528 : zc 177 528 = some (.iconst 0, 0, 0, 0, 0) := rfl
set_option maxRecDepth 4000 in
theorem zk_177_529 : zc 177 529 = some (.istore 5, 0, 0, 0, 0) := rfl
set_option maxRecDepth 4000 in
theorem zk_177_531 : zc 177 531 = some (.iload 5, 0, 0, 0, 0) := rfl
set_option maxRecDepth 4000 in
theorem zk_177_533 : zc 177 533 = some (.aload_n 0, 0, 0, 0, 0) := rfl
set_option maxRecDepth 4000 in
theorem zk_177_534 : zc 177 534 = some (.getfield 7, 11, 0, 0, 139) := rfl
set_option maxRecDepth 4000 in
theorem zk_177_537 : zc 177 537 = some (.sipush 641, 0, 0, 0, 0) := rfl
set_option maxRecDepth 4000 in
theorem zk_177_540 : zc 177 540 = some (.iaload, 0, 0, 0, 0) := rfl
set_option maxRecDepth 4000 in
theorem zk_177_541 : zc 177 541 = some (.if_icmp .ge 55, 596, 0, 0, 0) := rfl
set_option maxRecDepth 4000 in
theorem zk_177_544 : zc 177 544 = some (.aload_n 0, 0, 0, 0, 0) := rfl
set_option maxRecDepth 4000 in
theorem zk_177_545 : zc 177 545 = some (.getfield 7, 11, 0, 0, 139) := rfl
set_option maxRecDepth 4000 in
theorem zk_177_548 : zc 177 548 = some (.sipush 484, 0, 0, 0, 0) := rfl
set_option maxRecDepth 4000 in
theorem zk_177_551 : zc 177 551 = some (.iload 5, 0, 0, 0, 0) := rfl
set_option maxRecDepth 4000 in
theorem zk_177_553 : zc 177 553 = some (.iadd, 0, 0, 0, 0) := rfl
set_option maxRecDepth 4000 in
theorem zk_177_554 : zc 177 554 = some (.iaload, 0, 0, 0, 0) := rfl
set_option maxRecDepth 4000 in
theorem zk_177_555 : zc 177 555 = some (.ifCond .le 35, 590, 0, 0, 0) := rfl
set_option maxRecDepth 4000 in
theorem zk_177_558 : zc 177 558 = some (.iload 4, 0, 0, 0, 0) := rfl
set_option maxRecDepth 4000 in
theorem zk_177_560 : zc 177 560 = some (.aload_n 0, 0, 0, 0, 0) := rfl
set_option maxRecDepth 4000 in
theorem zk_177_561 : zc 177 561 = some (.getfield 7, 11, 0, 0, 139) := rfl
set_option maxRecDepth 4000 in
theorem zk_177_564 : zc 177 564 = some (.sipush 484, 0, 0, 0, 0) := rfl
set_option maxRecDepth 4000 in
theorem zk_177_567 : zc 177 567 = some (.iload 5, 0, 0, 0, 0) := rfl
set_option maxRecDepth 4000 in
theorem zk_177_569 : zc 177 569 = some (.iadd, 0, 0, 0, 0) := rfl
set_option maxRecDepth 4000 in
theorem zk_177_570 : zc 177 570 = some (.iaload, 0, 0, 0, 0) := rfl
set_option maxRecDepth 4000 in
theorem zk_177_571 : zc 177 571 = some (.irem, 0, 0, 0, 0) := rfl
set_option maxRecDepth 4000 in
theorem zk_177_572 : zc 177 572 = some (.ifCond .ne 18, 590, 0, 0, 0) := rfl
set_option maxRecDepth 4000 in
theorem zk_177_575 : zc 177 575 = some (.aload_n 0, 0, 0, 0, 0) := rfl
set_option maxRecDepth 4000 in
theorem zk_177_576 : zc 177 576 = some (.getfield 7, 11, 0, 0, 139) := rfl
set_option maxRecDepth 4000 in
theorem zk_177_579 : zc 177 579 = some (.sipush 508, 0, 0, 0, 0) := rfl
set_option maxRecDepth 4000 in
theorem zk_177_582 : zc 177 582 = some (.iload 5, 0, 0, 0, 0) := rfl
set_option maxRecDepth 4000 in
theorem zk_177_584 : zc 177 584 = some (.iadd, 0, 0, 0, 0) := rfl
set_option maxRecDepth 4000 in
theorem zk_177_585 : zc 177 585 = some (.dup2, 0, 0, 0, 0) := rfl
set_option maxRecDepth 4000 in
theorem zk_177_586 : zc 177 586 = some (.iaload, 0, 0, 0, 0) := rfl
set_option maxRecDepth 4000 in
theorem zk_177_587 : zc 177 587 = some (.iconst 1, 0, 0, 0, 0) := rfl
set_option maxRecDepth 4000 in
theorem zk_177_588 : zc 177 588 = some (.iadd, 0, 0, 0, 0) := rfl
set_option maxRecDepth 4000 in
theorem zk_177_589 : zc 177 589 = some (.iastore, 0, 0, 0, 0) := rfl
set_option maxRecDepth 4000 in
theorem zk_177_590 : zc 177 590 = some (.iinc 5 1, 0, 0, 0, 0) := rfl
set_option maxRecDepth 4000 in
theorem zk_177_593 : zc 177 593 = some (.goto (-62), 531, 0, 0, 0) := rfl
set_option maxRecDepth 4000 in
theorem zk_177_596 : zc 177 596 = some (.return_, 0, 0, 0, 0) := rfl
def MWg (t i k j : Nat) : Prop := (t = 36 ∧ k = 0 ∧ ((25 ≤ j ∧ j < 50) ∨ (75 ≤ j ∧ j < 100) ∨ (253 ≤ j ∧ j < 256) ∨ j = 645)) ∨ t = 54 ∨ t = 51 ∨ (t = 35 ∧ j = 33)
theorem nMWg { t i k j : Nat} (hb : decide (((t = 36 ∧ ((25 ≤ j ∧ j < 50) ∨ (75 ≤ j ∧ j < 100) ∨ (253 ≤ j ∧ j < 256) ∨ j = 645)) ∨ t = 54 ∨ t = 51 ∨ (t = 35 ∧ j = 33))) = false) : ¬ MWg  t i k j := fun h => of_decide_eq_false hb (by unfold MWg at h; omega)
theorem pMWg { t i k j : Nat} (hb : decide ((t = 54 ∨ t = 51 ∨ (t = 35 ∧ j = 33))) = true) : MWg  t i k j := by
  have h := of_decide_eq_true hb
  unfold MWg
  omega
def MLg (t i k j : Nat) : Prop := (t = 36 ∧ k = 0 ∧ (j < 25 ∨ (50 ≤ j ∧ j < 100) ∨ (508 ≤ j ∧ j < 628) ∨ j = 634 ∨ j = 643 ∨ j = 644)) ∨ t = 52 ∨ t = 53 ∨ t = 55 ∨ (t = 35 ∧ (j = 31 ∨ j = 32))
theorem nMLg { t i k j : Nat} (hb : decide (((t = 36 ∧ (j < 25 ∨ (50 ≤ j ∧ j < 100) ∨ (508 ≤ j ∧ j < 628) ∨ j = 634 ∨ j = 643 ∨ j = 644)) ∨ t = 52 ∨ t = 53 ∨ t = 55 ∨ (t = 35 ∧ (j = 31 ∨ j = 32)))) = false) : ¬ MLg  t i k j := fun h => of_decide_eq_false hb (by unfold MLg at h; omega)
theorem pMLg { t i k j : Nat} (hb : decide ((t = 52 ∨ t = 53 ∨ t = 55 ∨ (t = 35 ∧ (j = 31 ∨ j = 32)))) = true) : MLg  t i k j := by
  have h := of_decide_eq_true hb
  unfold MLg
  omega
theorem sb65_bf8bad3 : ∀ t i k j, MT 51 51 51 51 t i k j → MWg t i k j := by
  intro t i k j h
  unfold MT at h
  unfold MWg
  omega
/-- WModel.waters -/
theorem m_175 {xs : Nat × (Nat → Int32)} (p0 : Int) (hp0 : 0 ≤ p0 ∧ p0 ≤ 1) (σ : ZS) (hI : Inv σ) (hW : WF σ)  : CT xs 4 175 [av 35 0 0, iv p0] σ (fun v σ' => v = none ∧ IF MWg σ σ' ∧ (True)) := by
  refine G_ct (J := (fun σ' => IF MWg σ σ' ∧ True)) (L := [(0, av 35 0 0), (1, iv p0)]) (nL := 8) rfl rfl rfl ⟨IF.rf hI, trivial⟩ ?_
  refine T_op zk_175_0 rfl X_ic (pc' := 1) rfl ?_
  refine T_st (L' := [(0, av 35 0 0), (1, iv p0), (2, iv 0)]) zk_175_1 (nL := 8) rfl rfl rfl rfl rfl (pc' := 2) rfl ?_
  refine T_loop1 (fun x1 => ((3 - x1 : Int)).toNat) (fun x1 => (0 ≤ x1 ∧ x1 ≤ 3)) (fun x1 => TJ xs (fun σ' => IF MWg σ σ' ∧ True) 3 175 2 [(0, av 35 0 0), (1, iv p0), (2, iv x1)] [] _) ?_ 0 (by omega)
  intro x1 hp3 ih2
  refine T_ld zk_175_2 rfl rfl rfl (pc' := 3) rfl ?_
  refine T_ld zk_175_3 rfl rfl rfl (pc' := 4) rfl ?_
  refine T_getR (t' := 36) (i' := 0) (k' := 0) zk_175_4 rfl rfl rfl vd_35 (pc' := 7) rfl ?_
  refine T_op zk_175_7 rfl (X_si (v := 633) (by decide)) (pc' := 10) rfl ?_
  refine G_iald (lo := 0) (hi := 3) (ln := 646) zk_175_10 rfl rfl (vd_36 (by omega)) (by omega) (by omega) (by omega) (fun σ' h => h.1.1) (fun _ h => h.2.2.2.2.2.1 (by omega) (by omega)) (pc' := 11) rfl (fun y4 hy4 hy4' => ?_)
  refine T_icmp_ge zk_175_11 (by omega) (by omega) (pc' := 14) rfl (fun h5 => ?_) (fun h6 => ?_)
  ·
    refine T_ld zk_175_122 rfl rfl rfl (pc' := 123) rfl ?_
    refine T_ld zk_175_123 rfl rfl rfl (pc' := 124) rfl ?_
    refine T_calli (K := fun y7 σ' => (-2147483648 ≤ y7 ∧ y7 ≤ 2147483647) ∧ (fun σ' => IF MWg σ σ' ∧ True) σ') (r := [av 35 0 0]) zk_175_124 rfl rfl rfl rfl rfl rfl (Or.inr ⟨_, _, _, _, rfl, vd_35, rfl⟩) (fun σ' h => (m_159   σ' h.1.1 ).le (Nat.le_of_ble_eq_true rfl) (fun v σ2 ⟨y, h1, h2, h3, h4⟩ => ⟨y, h1, h2, h.1.tr h3 MN_sub, trivial⟩)) (pc' := 127) rfl (fun y7 => ?_)
    refine G_ex (fun hy7 => ?_)
    refine T_putf (J' := (fun σ' => IF MWg σ σ' ∧ True)) zk_175_127 rfl rfl vd_35 (fun σ' h => ⟨h.1.up (by simp only [rgP] <;> omega) (by first | exact pMWg rfl | (unfold MWg; omega)), trivial⟩) (pc' := 130) rfl ?_
    refine T_ld zk_175_130 rfl rfl rfl (pc' := 131) rfl ?_
    refine T_ld zk_175_131 rfl rfl rfl (pc' := 132) rfl ?_
    refine T_getR (t' := 36) (i' := 0) (k' := 0) zk_175_132 rfl rfl rfl vd_35 (pc' := 135) rfl ?_
    refine T_op zk_175_135 rfl (X_si (v := 634) (by decide)) (pc' := 138) rfl ?_
    refine G_iald (lo := 0) (hi := 30000) (ln := 646) zk_175_138 rfl rfl (vd_36 (by omega)) (by omega) (by omega) (by omega) (fun σ' h => h.1.1) (fun _ h => h.2.2.2.2.2.2.1 (by omega) (by omega)) (pc' := 139) rfl (fun y8 hy8 hy8' => ?_)
    refine T_ld zk_175_139 rfl rfl rfl (pc' := 140) rfl ?_
    refine T_calli (K := fun y9 σ' => (-2147483648 ≤ y9 ∧ y9 ≤ 2147483647) ∧ (fun σ' => IF MWg σ σ' ∧ True) σ') (r := []) zk_175_140 rfl rfl rfl rfl rfl rfl (Or.inr ⟨_, _, _, _, rfl, vd_35, rfl⟩) (fun σ' h => (m_145 y8 p0 (by omega) (by omega) σ' h.1.1 ).le (Nat.le_of_ble_eq_true rfl) (fun v σ2 ⟨y, h1, h2, h3, h4⟩ => ⟨y, h1, h2, h.1.tr h3 MN_sub, trivial⟩)) (pc' := 143) rfl (fun y9 => ?_)
    refine G_ex (fun hy9 => ?_)
    refine T_st (L' := [(0, av 35 0 0), (1, iv p0), (2, iv y9)]) zk_175_143 (nL := 8) rfl rfl rfl rfl rfl (pc' := 144) rfl ?_
    refine T_op zk_175_144 rfl X_ic (pc' := 145) rfl ?_
    refine T_st (L' := [(0, av 35 0 0), (1, iv p0), (2, iv y9), (3, iv 0)]) zk_175_145 (nL := 8) rfl rfl rfl rfl rfl (pc' := 146) rfl ?_
    refine T_loop1 (fun x10 => ((3 - x10 : Int)).toNat) (fun x10 => (0 ≤ x10 ∧ x10 ≤ 3)) (fun x10 => TJ xs (fun σ' => IF MWg σ σ' ∧ True) 3 175 146 [(0, av 35 0 0), (1, iv p0), (2, iv y9), (3, iv x10)] [] _) ?_ 0 (by omega)
    intro x10 hp12 ih11
    refine T_ld zk_175_146 rfl rfl rfl (pc' := 147) rfl ?_
    refine T_ld zk_175_147 rfl rfl rfl (pc' := 148) rfl ?_
    refine T_getR (t' := 36) (i' := 0) (k' := 0) zk_175_148 rfl rfl rfl vd_35 (pc' := 151) rfl ?_
    refine T_op zk_175_151 rfl (X_si (v := 633) (by decide)) (pc' := 154) rfl ?_
    refine G_iald (lo := 0) (hi := 3) (ln := 646) zk_175_154 rfl rfl (vd_36 (by omega)) (by omega) (by omega) (by omega) (fun σ' h => h.1.1) (fun _ h => h.2.2.2.2.2.1 (by omega) (by omega)) (pc' := 155) rfl (fun y13 hy13 hy13' => ?_)
    refine T_icmp_ge zk_175_155 (by omega) (by omega) (pc' := 158) rfl (fun h14 => ?_) (fun h15 => ?_)
    ·
      refine T_op zk_175_234 rfl X_ic (pc' := 235) rfl ?_
      refine T_st (L' := [(0, av 35 0 0), (1, iv p0), (2, iv y9), (3, iv 0)]) zk_175_235 (nL := 8) rfl rfl rfl rfl rfl (pc' := 236) rfl ?_
      refine T_loop1 (fun x16 => ((25 - x16 : Int)).toNat) (fun x16 => (0 ≤ x16 ∧ x16 ≤ 25)) (fun x16 => TJ xs (fun σ' => IF MWg σ σ' ∧ True) 3 175 236 [(0, av 35 0 0), (1, iv p0), (2, iv y9), (3, iv x16)] [] _) ?_ 0 (by omega)
      intro x16 hp18 ih17
      refine T_ld zk_175_236 rfl rfl rfl (pc' := 237) rfl ?_
      refine T_op zk_175_237 rfl (X_bi (v := 25) (by decide)) (pc' := 239) rfl ?_
      refine T_icmp_ge zk_175_239 (by omega) (by omega) (pc' := 242) rfl (fun h19 => ?_) (fun h20 => ?_)
      ·
        refine T_op zk_175_255 rfl X_ic (pc' := 256) rfl ?_
        refine T_st (L' := [(0, av 35 0 0), (1, iv p0), (2, iv y9), (3, iv 0)]) zk_175_256 (nL := 8) rfl rfl rfl rfl rfl (pc' := 257) rfl ?_
        refine T_loop1 (fun x21 => ((25 - x21 : Int)).toNat) (fun x21 => (0 ≤ x21 ∧ x21 ≤ 25)) (fun x21 => TJ xs (fun σ' => IF MWg σ σ' ∧ True) 3 175 257 [(0, av 35 0 0), (1, iv p0), (2, iv y9), (3, iv x21)] [] _) ?_ 0 (by omega)
        intro x21 hp23 ih22
        refine T_ld zk_175_257 rfl rfl rfl (pc' := 258) rfl ?_
        refine T_op zk_175_258 rfl (X_bi (v := 25) (by decide)) (pc' := 260) rfl ?_
        refine T_icmp_ge zk_175_260 (by omega) (by omega) (pc' := 263) rfl (fun h24 => ?_) (fun h25 => ?_)
        ·
          refine T_op zk_175_421 rfl X_ic (pc' := 422) rfl ?_
          refine T_st (L' := [(0, av 35 0 0), (1, iv p0), (2, iv y9), (3, iv 0)]) zk_175_422 (nL := 8) rfl rfl rfl rfl rfl (pc' := 423) rfl ?_
          refine T_loop1 (fun x26 => ((25 - x26 : Int)).toNat) (fun x26 => (0 ≤ x26 ∧ x26 ≤ 25)) (fun x26 => TJ xs (fun σ' => IF MWg σ σ' ∧ True) 3 175 423 [(0, av 35 0 0), (1, iv p0), (2, iv y9), (3, iv x26)] [] _) ?_ 0 (by omega)
          intro x26 hp28 ih27
          refine T_ld zk_175_423 rfl rfl rfl (pc' := 424) rfl ?_
          refine T_op zk_175_424 rfl (X_bi (v := 25) (by decide)) (pc' := 426) rfl ?_
          refine T_icmp_ge zk_175_426 (by omega) (by omega) (pc' := 429) rfl (fun h29 => ?_) (fun h30 => ?_)
          ·
            exact T_vret zk_175_453 rfl (fun σ' h => ⟨rfl, h.1, trivial⟩)
          ·
            refine T_ld zk_175_429 rfl rfl rfl (pc' := 430) rfl ?_
            refine T_getR (t' := 36) (i' := 0) (k' := 0) zk_175_430 rfl rfl rfl vd_35 (pc' := 433) rfl ?_
            refine T_op zk_175_433 rfl (X_bi (v := 25) (by decide)) (pc' := 435) rfl ?_
            refine T_ld zk_175_435 rfl rfl rfl (pc' := 436) rfl ?_
            refine T_op zk_175_436 rfl X_add (pc' := 437) rfl ?_
            refine T_op (st' := [iv (25 + x26), av 36 0 0, iv (25 + x26), av 36 0 0]) zk_175_437 rfl rfl (pc' := 438) rfl ?_
            refine G_iald (lo := -2147483648) (hi := 2147483647) (ln := 646) zk_175_438 rfl rfl (vd_36 (by omega)) (by omega) (by omega) (by omega) (fun σ' h => h.1.1) (fun _ h => (by have q := h.1; omega)) (pc' := 439) rfl (fun y31 hy31 hy31' => ?_)
            refine T_ld zk_175_439 rfl rfl rfl (pc' := 440) rfl ?_
            refine T_getR (t' := 54) (i' := 0) (k' := 0) zk_175_440 rfl rfl rfl vd_35 (pc' := 443) rfl ?_
            refine T_ld zk_175_443 rfl rfl rfl (pc' := 444) rfl ?_
            refine G_iald (lo := -2147483648) (hi := 2147483647) (ln := 25) zk_175_444 rfl rfl vd_54 (by omega) (by omega) (by omega) (fun σ' h => h.1.1) (fun _ h => (by have q := h.1; omega)) (pc' := 445) rfl (fun y32 hy32 hy32' => ?_)
            refine G_unk zk_175_445 rfl (pc' := 446) rfl (fun y33 hy33 hy33' => ?_)
            refine G_iast (J' := (fun σ' => IF MWg σ σ' ∧ True)) (ln := 646) zk_175_446 rfl rfl (vd_36 (by omega)) (by omega) (by omega) (by omega) (fun σ' h => ⟨h.1.up (by simp only [rgP] <;> omega) (by first | exact pMWg rfl | (unfold MWg; omega)), trivial⟩) (pc' := 447) rfl ?_
            refine T_iinc (L' := [(0, av 35 0 0), (1, iv p0), (2, iv y9), (3, iv (x26 + 1))]) zk_175_447 (nL := 8) rfl rfl rfl rfl (pc' := 450) rfl ?_
            refine T_goto zk_175_450 ?_
            exact ih27 (x26 + 1) (by omega) (by omega)
        ·
          refine T_op zk_175_263 rfl X_ic (pc' := 264) rfl ?_
          refine T_st (L' := [(0, av 35 0 0), (1, iv p0), (2, iv y9), (3, iv x21), (4, iv 2)]) zk_175_264 (nL := 8) rfl rfl rfl rfl rfl (pc' := 266) rfl ?_
          refine T_loop1 (fun x34 => ((4 - x34 : Int)).toNat) (fun x34 => (2 ≤ x34 ∧ x34 ≤ 4)) (fun x34 => TJ xs (fun σ' => IF MWg σ σ' ∧ True) 3 175 266 [(0, av 35 0 0), (1, iv p0), (2, iv y9), (3, iv x21), (4, iv x34)] [] _) ?_ 2 (by omega)
          intro x34 hp36 ih35
          refine T_ld zk_175_266 rfl rfl rfl (pc' := 268) rfl ?_
          refine T_op zk_175_268 rfl X_ic (pc' := 269) rfl ?_
          refine T_icmp_ge zk_175_269 (by omega) (by omega) (pc' := 272) rfl (fun h37 => ?_) (fun h38 => ?_)
          ·
            refine T_iinc (L' := [(0, av 35 0 0), (1, iv p0), (2, iv y9), (3, iv (x21 + 1)), (4, iv x34)]) zk_175_415 (nL := 8) rfl rfl rfl rfl (pc' := 418) rfl ?_
            refine T_goto zk_175_418 ?_
            refine T_loc (L := [(0, av 35 0 0), (1, iv p0), (2, iv y9), (3, iv (x21 + 1))]) (E := [(4, iv x34)]) rfl ?_
            exact ih22 (x21 + 1) (by omega) (by omega)
          ·
            refine T_ld zk_175_272 rfl rfl rfl (pc' := 273) rfl ?_
            refine T_ld zk_175_273 rfl rfl rfl (pc' := 275) rfl ?_
            refine T_calli (K := fun y39 σ' => (-5 ≤ y39 ∧ y39 ≤ 29) ∧ (fun σ' => IF MWg σ σ' ∧ True) σ') (r := []) zk_175_275 rfl rfl rfl rfl rfl rfl (Or.inl (Or.inl rfl)) (fun σ' h => (m_171 x21 x34 (by omega) (by omega) σ' h.1.1 ).le (Nat.le_of_ble_eq_true rfl) (fun v σ2 ⟨y, h1, h2, h3, h4⟩ => ⟨y, h1, h2, h.1.tr h3 MN_sub, trivial⟩)) (pc' := 278) rfl (fun y39 => ?_)
            refine G_ex (fun hy39 => ?_)
            refine T_st (L' := [(0, av 35 0 0), (1, iv p0), (2, iv y9), (3, iv x21), (4, iv x34), (5, iv y39)]) zk_175_278 (nL := 8) rfl rfl rfl rfl rfl (pc' := 280) rfl ?_
            refine T_ld zk_175_280 rfl rfl rfl (pc' := 281) rfl ?_
            refine T_ld zk_175_281 rfl rfl rfl (pc' := 283) rfl ?_
            refine T_calli (K := fun y40 σ' => ((y40 = -1 ∧ ¬ (0 ≤ x21 ∧ x21 ≤ 24 ∧ 0 ≤ y39 ∧ y39 ≤ 24 ∧ (y39 = x21 + 5 ∨ x21 = y39 + 5 ∨ (y39 = x21 + 1 ∧ x21 % 5 < 4) ∨ (x21 = y39 + 1 ∧ y39 % 5 < 4)))) ∨ (0 ≤ y40 ∧ y40 ≤ 49 ∧ (0 ≤ x21 ∧ x21 ≤ 24 ∧ 0 ≤ y39 ∧ y39 ≤ 24 ∧ (y39 = x21 + 5 ∨ x21 = y39 + 5 ∨ (y39 = x21 + 1 ∧ x21 % 5 < 4) ∨ (x21 = y39 + 1 ∧ y39 % 5 < 4))))) ∧ (fun σ' => IF MWg σ σ' ∧ True) σ') (r := []) zk_175_283 rfl rfl rfl rfl rfl rfl (Or.inl (Or.inl rfl)) (fun σ' h => (m_126 x21 y39 (by omega) (by omega) σ' h.1.1 ).le (Nat.le_of_ble_eq_true rfl) (fun v σ2 ⟨y, h1, h2, h3, h4⟩ => ⟨y, h1, h2, h.1.tr h3 MN_sub, trivial⟩)) (pc' := 286) rfl (fun y40 => ?_)
            refine G_ex (fun hy40 => ?_)
            refine T_st (L' := [(0, av 35 0 0), (1, iv p0), (2, iv y9), (3, iv x21), (4, iv x34), (5, iv y39), (6, iv y40)]) zk_175_286 (nL := 8) rfl rfl rfl rfl rfl (pc' := 288) rfl ?_
            refine T_ld zk_175_288 rfl rfl rfl (pc' := 290) rfl ?_
            refine T_op zk_175_290 rfl X_ic (pc' := 291) rfl ?_
            refine T_icmp_eq zk_175_291 (by omega) (by omega) (pc' := 294) rfl (fun h41 => ?_) (fun h42 => ?_)
            ·
              refine T_iinc (L' := [(0, av 35 0 0), (1, iv p0), (2, iv y9), (3, iv x21), (4, iv (x34 + 1)), (5, iv y39), (6, iv y40)]) zk_175_409 (nL := 8) rfl rfl rfl rfl (pc' := 412) rfl ?_
              refine T_goto zk_175_412 ?_
              refine T_loc (L := [(0, av 35 0 0), (1, iv p0), (2, iv y9), (3, iv x21), (4, iv (x34 + 1))]) (E := [(5, iv y39), (6, iv y40)]) rfl ?_
              exact ih35 (x34 + 1) (by omega) (by omega)
            ·
              refine T_ld zk_175_294 rfl rfl rfl (pc' := 295) rfl ?_
              refine T_getR (t' := 36) (i' := 0) (k' := 0) zk_175_295 rfl rfl rfl vd_35 (pc' := 298) rfl ?_
              refine T_op zk_175_298 rfl (X_bi (v := 100) (by decide)) (pc' := 300) rfl ?_
              refine T_ld zk_175_300 rfl rfl rfl (pc' := 302) rfl ?_
              refine T_op zk_175_302 rfl X_add (pc' := 303) rfl ?_
              refine G_iald (lo := -2147483648) (hi := 2147483647) (ln := 646) zk_175_303 rfl rfl (vd_36 (by omega)) (by omega) (by omega) (by omega) (fun σ' h => h.1.1) (fun _ h => (by have q := h.1; omega)) (pc' := 304) rfl (fun y43 hy43 hy43' => ?_)
              refine T_op zk_175_304 rfl X_ic (pc' := 305) rfl ?_
              refine T_icmp_ne zk_175_305 (by omega) (by omega) (pc' := 308) rfl (fun h44 => ?_) (fun h45 => ?_)
              ·
                refine T_ld zk_175_311 rfl rfl rfl (pc' := 312) rfl ?_
                refine T_getR (t' := 36) (i' := 0) (k' := 0) zk_175_312 rfl rfl rfl vd_35 (pc' := 315) rfl ?_
                refine T_op zk_175_315 rfl (X_bi (v := 25) (by decide)) (pc' := 317) rfl ?_
                refine T_ld zk_175_317 rfl rfl rfl (pc' := 318) rfl ?_
                refine T_op zk_175_318 rfl X_add (pc' := 319) rfl ?_
                refine G_iald (lo := -2147483648) (hi := 2147483647) (ln := 646) zk_175_319 rfl rfl (vd_36 (by omega)) (by omega) (by omega) (by omega) (fun σ' h => h.1.1) (fun _ h => (by have q := h.1; omega)) (pc' := 320) rfl (fun y46 hy46 hy46' => ?_)
                refine T_ld zk_175_320 rfl rfl rfl (pc' := 321) rfl ?_
                refine T_getR (t' := 36) (i' := 0) (k' := 0) zk_175_321 rfl rfl rfl vd_35 (pc' := 324) rfl ?_
                refine T_op zk_175_324 rfl (X_bi (v := 25) (by decide)) (pc' := 326) rfl ?_
                refine T_ld zk_175_326 rfl rfl rfl (pc' := 328) rfl ?_
                refine T_op zk_175_328 rfl X_add (pc' := 329) rfl ?_
                refine G_iald (lo := -2147483648) (hi := 2147483647) (ln := 646) zk_175_329 rfl rfl (vd_36 (by omega)) (by omega) (by omega) (by omega) (fun σ' h => h.1.1) (fun _ h => (by have q := h.1; omega)) (pc' := 330) rfl (fun y47 hy47 hy47' => ?_)
                refine G_unk zk_175_330 rfl (pc' := 331) rfl (fun y48 hy48 hy48' => ?_)
                refine T_op zk_175_331 rfl X_ic (pc' := 332) rfl ?_
                refine G_unkD zk_175_332 (by first | exact Or.inl rfl | exact Or.inr rfl) (by omega) (pc' := 333) rfl (fun y49 hy49 hy49' => ?_)
                refine T_st (L' := [(0, av 35 0 0), (1, iv p0), (2, iv y9), (3, iv x21), (4, iv x34), (5, iv y39), (6, iv y40), (7, iv y49)]) zk_175_333 (nL := 8) rfl rfl rfl rfl rfl (pc' := 335) rfl ?_
                refine T_ld zk_175_335 rfl rfl rfl (pc' := 336) rfl ?_
                refine T_getR (t' := 54) (i' := 0) (k' := 0) zk_175_336 rfl rfl rfl vd_35 (pc' := 339) rfl ?_
                refine T_ld zk_175_339 rfl rfl rfl (pc' := 340) rfl ?_
                refine T_op (st' := [iv x21, av 54 0 0, iv x21, av 54 0 0]) zk_175_340 rfl rfl (pc' := 341) rfl ?_
                refine G_iald (lo := -2147483648) (hi := 2147483647) (ln := 25) zk_175_341 rfl rfl vd_54 (by omega) (by omega) (by omega) (fun σ' h => h.1.1) (fun _ h => (by have q := h.1; omega)) (pc' := 342) rfl (fun y50 hy50 hy50' => ?_)
                refine T_ld zk_175_342 rfl rfl rfl (pc' := 344) rfl ?_
                refine G_unk zk_175_344 rfl (pc' := 345) rfl (fun y51 hy51 hy51' => ?_)
                refine G_iast (J' := (fun σ' => IF MWg σ σ' ∧ True)) (ln := 25) zk_175_345 rfl rfl vd_54 (by omega) (by omega) (by omega) (fun σ' h => ⟨h.1.up ⟨by omega, trivial⟩ (by first | exact pMWg rfl | (unfold MWg; omega)), trivial⟩) (pc' := 346) rfl ?_
                refine T_ld zk_175_346 rfl rfl rfl (pc' := 347) rfl ?_
                refine T_getR (t' := 54) (i' := 0) (k' := 0) zk_175_347 rfl rfl rfl vd_35 (pc' := 350) rfl ?_
                refine T_ld zk_175_350 rfl rfl rfl (pc' := 352) rfl ?_
                refine T_op (st' := [iv y39, av 54 0 0, iv y39, av 54 0 0]) zk_175_352 rfl rfl (pc' := 353) rfl ?_
                refine G_iald (lo := -2147483648) (hi := 2147483647) (ln := 25) zk_175_353 rfl rfl vd_54 (by omega) (by omega) (by omega) (fun σ' h => h.1.1) (fun _ h => (by have q := h.1; omega)) (pc' := 354) rfl (fun y52 hy52 hy52' => ?_)
                refine T_ld zk_175_354 rfl rfl rfl (pc' := 356) rfl ?_
                refine G_unk zk_175_356 rfl (pc' := 357) rfl (fun y53 hy53 hy53' => ?_)
                refine G_iast (J' := (fun σ' => IF MWg σ σ' ∧ True)) (ln := 25) zk_175_357 rfl rfl vd_54 (by omega) (by omega) (by omega) (fun σ' h => ⟨h.1.up ⟨by omega, trivial⟩ (by first | exact pMWg rfl | (unfold MWg; omega)), trivial⟩) (pc' := 358) rfl ?_
                refine T_ld zk_175_358 rfl rfl rfl (pc' := 359) rfl ?_
                refine T_getR (t' := 36) (i' := 0) (k' := 0) zk_175_359 rfl rfl rfl vd_35 (pc' := 362) rfl ?_
                refine T_op zk_175_362 rfl (X_bi (v := 75) (by decide)) (pc' := 364) rfl ?_
                refine T_ld zk_175_364 rfl rfl rfl (pc' := 365) rfl ?_
                refine T_op zk_175_365 rfl X_add (pc' := 366) rfl ?_
                refine T_op (st' := [iv (75 + x21), av 36 0 0, iv (75 + x21), av 36 0 0]) zk_175_366 rfl rfl (pc' := 367) rfl ?_
                refine G_iald (lo := -2147483648) (hi := 2147483647) (ln := 646) zk_175_367 rfl rfl (vd_36 (by omega)) (by omega) (by omega) (by omega) (fun σ' h => h.1.1) (fun _ h => (by have q := h.1; omega)) (pc' := 368) rfl (fun y54 hy54 hy54' => ?_)
                refine T_ld zk_175_368 rfl rfl rfl (pc' := 370) rfl ?_
                refine T_if_ge zk_175_370 (by omega) (pc' := 373) rfl (fun h55 => ?_) (fun h56 => ?_)
                ·
                  refine T_ld zk_175_379 rfl rfl rfl (pc' := 381) rfl ?_
                  refine G_unk zk_175_381 rfl (pc' := 382) rfl (fun y57 hy57 hy57' => ?_)
                  refine G_iast (J' := (fun σ' => IF MWg σ σ' ∧ True)) (ln := 646) zk_175_382 rfl rfl (vd_36 (by omega)) (by omega) (by omega) (by omega) (fun σ' h => ⟨h.1.up (by simp only [rgP] <;> omega) (by first | exact pMWg rfl | (unfold MWg; omega)), trivial⟩) (pc' := 383) rfl ?_
                  refine T_ld zk_175_383 rfl rfl rfl (pc' := 384) rfl ?_
                  refine T_getR (t' := 36) (i' := 0) (k' := 0) zk_175_384 rfl rfl rfl vd_35 (pc' := 387) rfl ?_
                  refine T_op zk_175_387 rfl (X_bi (v := 75) (by decide)) (pc' := 389) rfl ?_
                  refine T_ld zk_175_389 rfl rfl rfl (pc' := 391) rfl ?_
                  refine T_op zk_175_391 rfl X_add (pc' := 392) rfl ?_
                  refine T_op (st' := [iv (75 + y39), av 36 0 0, iv (75 + y39), av 36 0 0]) zk_175_392 rfl rfl (pc' := 393) rfl ?_
                  refine G_iald (lo := -2147483648) (hi := 2147483647) (ln := 646) zk_175_393 rfl rfl (vd_36 (by omega)) (by omega) (by omega) (by omega) (fun σ' h => h.1.1) (fun _ h => (by have q := h.1; omega)) (pc' := 394) rfl (fun y58 hy58 hy58' => ?_)
                  refine T_ld zk_175_394 rfl rfl rfl (pc' := 396) rfl ?_
                  refine T_if_ge zk_175_396 (by omega) (pc' := 399) rfl (fun h59 => ?_) (fun h60 => ?_)
                  ·
                    refine T_ld zk_175_405 rfl rfl rfl (pc' := 407) rfl ?_
                    refine G_unk zk_175_407 rfl (pc' := 408) rfl (fun y61 hy61 hy61' => ?_)
                    refine G_iast (J' := (fun σ' => IF MWg σ σ' ∧ True)) (ln := 646) zk_175_408 rfl rfl (vd_36 (by omega)) (by omega) (by omega) (by omega) (fun σ' h => ⟨h.1.up (by simp only [rgP] <;> omega) (by first | exact pMWg rfl | (unfold MWg; omega)), trivial⟩) (pc' := 409) rfl ?_
                    refine T_iinc (L' := [(0, av 35 0 0), (1, iv p0), (2, iv y9), (3, iv x21), (4, iv (x34 + 1)), (5, iv y39), (6, iv y40), (7, iv y49)]) zk_175_409 (nL := 8) rfl rfl rfl rfl (pc' := 412) rfl ?_
                    refine T_goto zk_175_412 ?_
                    refine T_loc (L := [(0, av 35 0 0), (1, iv p0), (2, iv y9), (3, iv x21), (4, iv (x34 + 1))]) (E := [(5, iv y39), (6, iv y40), (7, iv y49)]) rfl ?_
                    exact ih35 (x34 + 1) (by omega) (by omega)
                  · exfalso; omega
                ·
                  refine T_ld zk_175_373 rfl rfl rfl (pc' := 375) rfl ?_
                  refine G_unkI zk_175_375 rfl (pc' := 376) rfl (fun y62 hy62 hy62' => ?_)
                  refine T_goto zk_175_376 ?_
                  refine G_unk zk_175_381 rfl (pc' := 382) rfl (fun y63 hy63 hy63' => ?_)
                  refine G_iast (J' := (fun σ' => IF MWg σ σ' ∧ True)) (ln := 646) zk_175_382 rfl rfl (vd_36 (by omega)) (by omega) (by omega) (by omega) (fun σ' h => ⟨h.1.up (by simp only [rgP] <;> omega) (by first | exact pMWg rfl | (unfold MWg; omega)), trivial⟩) (pc' := 383) rfl ?_
                  refine T_ld zk_175_383 rfl rfl rfl (pc' := 384) rfl ?_
                  refine T_getR (t' := 36) (i' := 0) (k' := 0) zk_175_384 rfl rfl rfl vd_35 (pc' := 387) rfl ?_
                  refine T_op zk_175_387 rfl (X_bi (v := 75) (by decide)) (pc' := 389) rfl ?_
                  refine T_ld zk_175_389 rfl rfl rfl (pc' := 391) rfl ?_
                  refine T_op zk_175_391 rfl X_add (pc' := 392) rfl ?_
                  refine T_op (st' := [iv (75 + y39), av 36 0 0, iv (75 + y39), av 36 0 0]) zk_175_392 rfl rfl (pc' := 393) rfl ?_
                  refine G_iald (lo := -2147483648) (hi := 2147483647) (ln := 646) zk_175_393 rfl rfl (vd_36 (by omega)) (by omega) (by omega) (by omega) (fun σ' h => h.1.1) (fun _ h => (by have q := h.1; omega)) (pc' := 394) rfl (fun y64 hy64 hy64' => ?_)
                  refine T_ld zk_175_394 rfl rfl rfl (pc' := 396) rfl ?_
                  refine T_if_ge zk_175_396 (by omega) (pc' := 399) rfl (fun h65 => ?_) (fun h66 => ?_)
                  · exfalso; omega
                  ·
                    refine T_ld zk_175_399 rfl rfl rfl (pc' := 401) rfl ?_
                    refine G_unkI zk_175_401 rfl (pc' := 402) rfl (fun y67 hy67 hy67' => ?_)
                    refine T_goto zk_175_402 ?_
                    refine G_unk zk_175_407 rfl (pc' := 408) rfl (fun y68 hy68 hy68' => ?_)
                    refine G_iast (J' := (fun σ' => IF MWg σ σ' ∧ True)) (ln := 646) zk_175_408 rfl rfl (vd_36 (by omega)) (by omega) (by omega) (by omega) (fun σ' h => ⟨h.1.up (by simp only [rgP] <;> omega) (by first | exact pMWg rfl | (unfold MWg; omega)), trivial⟩) (pc' := 409) rfl ?_
                    refine T_iinc (L' := [(0, av 35 0 0), (1, iv p0), (2, iv y9), (3, iv x21), (4, iv (x34 + 1)), (5, iv y39), (6, iv y40), (7, iv y49)]) zk_175_409 (nL := 8) rfl rfl rfl rfl (pc' := 412) rfl ?_
                    refine T_goto zk_175_412 ?_
                    refine T_loc (L := [(0, av 35 0 0), (1, iv p0), (2, iv y9), (3, iv x21), (4, iv (x34 + 1))]) (E := [(5, iv y39), (6, iv y40), (7, iv y49)]) rfl ?_
                    exact ih35 (x34 + 1) (by omega) (by omega)
              ·
                refine T_goto zk_175_308 ?_
                refine T_iinc (L' := [(0, av 35 0 0), (1, iv p0), (2, iv y9), (3, iv x21), (4, iv (x34 + 1)), (5, iv y39), (6, iv y40)]) zk_175_409 (nL := 8) rfl rfl rfl rfl (pc' := 412) rfl ?_
                refine T_goto zk_175_412 ?_
                refine T_loc (L := [(0, av 35 0 0), (1, iv p0), (2, iv y9), (3, iv x21), (4, iv (x34 + 1))]) (E := [(5, iv y39), (6, iv y40)]) rfl ?_
                exact ih35 (x34 + 1) (by omega) (by omega)
      ·
        refine T_ld zk_175_242 rfl rfl rfl (pc' := 243) rfl ?_
        refine T_getR (t' := 54) (i' := 0) (k' := 0) zk_175_243 rfl rfl rfl vd_35 (pc' := 246) rfl ?_
        refine T_ld zk_175_246 rfl rfl rfl (pc' := 247) rfl ?_
        refine T_op zk_175_247 rfl X_ic (pc' := 248) rfl ?_
        refine G_iast (J' := (fun σ' => IF MWg σ σ' ∧ True)) (ln := 25) zk_175_248 rfl rfl vd_54 (by omega) (by omega) (by omega) (fun σ' h => ⟨h.1.up ⟨by omega, trivial⟩ (by first | exact pMWg rfl | (unfold MWg; omega)), trivial⟩) (pc' := 249) rfl ?_
        refine T_iinc (L' := [(0, av 35 0 0), (1, iv p0), (2, iv y9), (3, iv (x16 + 1))]) zk_175_249 (nL := 8) rfl rfl rfl rfl (pc' := 252) rfl ?_
        refine T_goto zk_175_252 ?_
        exact ih17 (x16 + 1) (by omega) (by omega)
    ·
      refine T_ld zk_175_158 rfl rfl rfl (pc' := 159) rfl ?_
      refine T_getR (t' := 36) (i' := 0) (k' := 0) zk_175_159 rfl rfl rfl vd_35 (pc' := 162) rfl ?_
      refine T_op zk_175_162 rfl (X_si (v := 253) (by decide)) (pc' := 165) rfl ?_
      refine T_ld zk_175_165 rfl rfl rfl (pc' := 166) rfl ?_
      refine T_op zk_175_166 rfl X_add (pc' := 167) rfl ?_
      refine G_iald (lo := -2147483648) (hi := 2147483647) (ln := 646) zk_175_167 rfl rfl (vd_36 (by omega)) (by omega) (by omega) (by omega) (fun σ' h => h.1.1) (fun _ h => (by have q := h.1; omega)) (pc' := 168) rfl (fun y69 hy69 hy69' => ?_)
      refine T_op zk_175_168 rfl X_ic (pc' := 169) rfl ?_
      refine T_icmp_ne zk_175_169 (by omega) (by omega) (pc' := 172) rfl (fun h70 => ?_) (fun h71 => ?_)
      ·
        refine T_op zk_175_175 rfl (X_bi (v := 25) (by decide)) (pc' := 177) rfl ?_
        refine T_ld zk_175_177 rfl rfl rfl (pc' := 178) rfl ?_
        refine T_getR (t' := 36) (i' := 0) (k' := 0) zk_175_178 rfl rfl rfl vd_35 (pc' := 181) rfl ?_
        refine T_op zk_175_181 rfl (X_si (v := 250) (by decide)) (pc' := 184) rfl ?_
        refine T_ld zk_175_184 rfl rfl rfl (pc' := 185) rfl ?_
        refine T_op zk_175_185 rfl X_add (pc' := 186) rfl ?_
        refine G_iald (lo := 0) (hi := 24) (ln := 646) zk_175_186 rfl rfl (vd_36 (by omega)) (by omega) (by omega) (by omega) (fun σ' h => h.1.1) (fun _ h => h.2.1 (by omega) (by omega)) (pc' := 187) rfl (fun y72 hy72 hy72' => ?_)
        refine T_op zk_175_187 rfl X_add (pc' := 188) rfl ?_
        refine T_st (L' := [(0, av 35 0 0), (1, iv p0), (2, iv y9), (3, iv x10), (4, iv (25 + y72))]) zk_175_188 (nL := 8) rfl rfl rfl rfl rfl (pc' := 190) rfl ?_
        refine T_ld zk_175_190 rfl rfl rfl (pc' := 191) rfl ?_
        refine T_ld zk_175_191 rfl rfl rfl (pc' := 192) rfl ?_
        refine T_getR (t' := 36) (i' := 0) (k' := 0) zk_175_192 rfl rfl rfl vd_35 (pc' := 195) rfl ?_
        refine T_ld zk_175_195 rfl rfl rfl (pc' := 197) rfl ?_
        refine G_iald (lo := -2147483648) (hi := 2147483647) (ln := 646) zk_175_197 rfl rfl (vd_36 (by omega)) (by omega) (by omega) (by omega) (fun σ' h => h.1.1) (fun _ h => (by have q := h.1; omega)) (pc' := 198) rfl (fun y73 hy73 hy73' => ?_)
        refine G_unk zk_175_198 rfl (pc' := 199) rfl (fun y74 hy74 hy74' => ?_)
        refine T_op zk_175_199 rfl X_ic (pc' := 200) rfl ?_
        refine G_unkD zk_175_200 (by first | exact Or.inl rfl | exact Or.inr rfl) (by omega) (pc' := 201) rfl (fun y75 hy75 hy75' => ?_)
        refine T_st (L' := [(0, av 35 0 0), (1, iv p0), (2, iv y9), (3, iv x10), (4, iv (25 + y72)), (5, iv y75)]) zk_175_201 (nL := 8) rfl rfl rfl rfl rfl (pc' := 203) rfl ?_
        refine T_ld zk_175_203 rfl rfl rfl (pc' := 204) rfl ?_
        refine T_getR (t' := 36) (i' := 0) (k' := 0) zk_175_204 rfl rfl rfl vd_35 (pc' := 207) rfl ?_
        refine T_ld zk_175_207 rfl rfl rfl (pc' := 209) rfl ?_
        refine T_op (st' := [iv (25 + y72), av 36 0 0, iv (25 + y72), av 36 0 0]) zk_175_209 rfl rfl (pc' := 210) rfl ?_
        refine G_iald (lo := -2147483648) (hi := 2147483647) (ln := 646) zk_175_210 rfl rfl (vd_36 (by omega)) (by omega) (by omega) (by omega) (fun σ' h => h.1.1) (fun _ h => (by have q := h.1; omega)) (pc' := 211) rfl (fun y76 hy76 hy76' => ?_)
        refine T_ld zk_175_211 rfl rfl rfl (pc' := 213) rfl ?_
        refine G_unk zk_175_213 rfl (pc' := 214) rfl (fun y77 hy77 hy77' => ?_)
        refine G_iast (J' := (fun σ' => IF MWg σ σ' ∧ True)) (ln := 646) zk_175_214 rfl rfl (vd_36 (by omega)) (by omega) (by omega) (by omega) (fun σ' h => ⟨h.1.up (by simp only [rgP] <;> omega) (by first | exact pMWg rfl | (unfold MWg; omega)), trivial⟩) (pc' := 215) rfl ?_
        refine T_ld zk_175_215 rfl rfl rfl (pc' := 216) rfl ?_
        refine T_getR (t' := 36) (i' := 0) (k' := 0) zk_175_216 rfl rfl rfl vd_35 (pc' := 219) rfl ?_
        refine T_op zk_175_219 rfl (X_si (v := 645) (by decide)) (pc' := 222) rfl ?_
        refine T_op (st' := [iv 645, av 36 0 0, iv 645, av 36 0 0]) zk_175_222 rfl rfl (pc' := 223) rfl ?_
        refine G_iald (lo := -2147483648) (hi := 2147483647) (ln := 646) zk_175_223 rfl rfl (vd_36 (by omega)) (by omega) (by omega) (by omega) (fun σ' h => h.1.1) (fun _ h => (by have q := h.1; omega)) (pc' := 224) rfl (fun y78 hy78 hy78' => ?_)
        refine T_ld zk_175_224 rfl rfl rfl (pc' := 226) rfl ?_
        refine G_unk zk_175_226 rfl (pc' := 227) rfl (fun y79 hy79 hy79' => ?_)
        refine G_iast (J' := (fun σ' => IF MWg σ σ' ∧ True)) (ln := 646) zk_175_227 rfl rfl (vd_36 (by omega)) (by omega) (by omega) (by omega) (fun σ' h => ⟨h.1.up (by simp only [rgP] <;> omega) (by first | exact pMWg rfl | (unfold MWg; omega)), trivial⟩) (pc' := 228) rfl ?_
        refine T_iinc (L' := [(0, av 35 0 0), (1, iv p0), (2, iv y9), (3, iv (x10 + 1)), (4, iv (25 + y72)), (5, iv y75)]) zk_175_228 (nL := 8) rfl rfl rfl rfl (pc' := 231) rfl ?_
        refine T_goto zk_175_231 ?_
        refine T_loc (L := [(0, av 35 0 0), (1, iv p0), (2, iv y9), (3, iv (x10 + 1))]) (E := [(4, iv (25 + y72)), (5, iv y75)]) rfl ?_
        exact ih11 (x10 + 1) (by omega) (by omega)
      ·
        refine T_goto zk_175_172 ?_
        refine T_iinc (L' := [(0, av 35 0 0), (1, iv p0), (2, iv y9), (3, iv (x10 + 1))]) zk_175_228 (nL := 8) rfl rfl rfl rfl (pc' := 231) rfl ?_
        refine T_goto zk_175_231 ?_
        exact ih11 (x10 + 1) (by omega) (by omega)
  ·
    refine T_op zk_175_14 rfl X_ic (pc' := 15) rfl ?_
    refine T_st (L' := [(0, av 35 0 0), (1, iv p0), (2, iv x1), (3, iv 0)]) zk_175_15 (nL := 8) rfl rfl rfl rfl rfl (pc' := 16) rfl ?_
    refine T_op zk_175_16 rfl X_ic (pc' := 17) rfl ?_
    refine T_st (L' := [(0, av 35 0 0), (1, iv p0), (2, iv x1), (3, iv 0), (4, iv 0)]) zk_175_17 (nL := 8) rfl rfl rfl rfl rfl (pc' := 19) rfl ?_
    refine T_op zk_175_19 rfl X_ic (pc' := 20) rfl ?_
    refine T_st (L' := [(0, av 35 0 0), (1, iv p0), (2, iv x1), (3, iv 0), (4, iv 0), (5, iv 0)]) zk_175_20 (nL := 8) rfl rfl rfl rfl rfl (pc' := 22) rfl ?_
    refine T_loop3 (fun x80 x81 x82 => ((5 - x82 : Int)).toNat) (fun x80 x81 x82 => (0 ≤ x80 ∧ x80 ≤ 1) ∧ (0 ≤ x81 ∧ x81 ≤ 1) ∧ (0 ≤ x82 ∧ x82 ≤ 5)) (fun x80 x81 x82 => TJ xs (fun σ' => IF MWg σ σ' ∧ True) 3 175 22 [(0, av 35 0 0), (1, iv p0), (2, iv x1), (3, iv x80), (4, iv x81), (5, iv x82)] [] _) ?_ 0 0 0 (by omega)
    intro x80 x81 x82 hp84 ih83
    refine T_ld zk_175_22 rfl rfl rfl (pc' := 24) rfl ?_
    refine T_ld zk_175_24 rfl rfl rfl (pc' := 25) rfl ?_
    refine T_getR (t' := 36) (i' := 0) (k' := 0) zk_175_25 rfl rfl rfl vd_35 (pc' := 28) rfl ?_
    refine T_op zk_175_28 rfl (X_si (v := 640) (by decide)) (pc' := 31) rfl ?_
    refine G_learn (t := 36) (i := 0) (k := 0) (j := 640) (lo := 0) (hi := 5) (J2 := fun y85 => (fun σ' => IF MWg σ σ' ∧ σ' 36 0 0 640 = y85 ∧ True)) (vd_36 (by omega)) (fun σ' h => h.1.1) (fun _ h => h.2.2.2.2.2.2.2.2.2.2.2.1 (by omega) (by omega)) (fun σ' y h hy => ⟨h.1, hy, trivial⟩) (fun y85 hy85 hy85' => ?_)
    refine G_ialdX (w := y85) (ln := 646) zk_175_31 rfl rfl (vd_36 (by omega)) (by omega) (by omega) (by omega) (fun σ' h => h.2.1) (pc' := 32) rfl ?_
    refine T_icmp_ge zk_175_32 (by omega) (by omega) (pc' := 35) rfl (fun h86 => ?_) (fun h87 => ?_)
    ·
      refine T_ld zk_175_92 rfl rfl rfl (pc' := 93) rfl ?_
      refine T_if_eq zk_175_93 (by omega) (pc' := 96) rfl (fun h88 => ?_) (fun h89 => ?_)
      ·
        refine T_iinc (L' := [(0, av 35 0 0), (1, iv p0), (2, iv (x1 + 1)), (3, iv x80), (4, iv x81), (5, iv x82)]) zk_175_116 (nL := 8) rfl rfl rfl rfl (pc' := 119) rfl ?_
        refine T_goto zk_175_119 ?_
        refine G_know (J' := (fun σ' => IF MWg σ σ' ∧ True)) (fun σ' h => ⟨h.1, trivial⟩) ?_
        refine T_loc (L := [(0, av 35 0 0), (1, iv p0), (2, iv (x1 + 1))]) (E := [(3, iv x80), (4, iv x81), (5, iv x82)]) rfl ?_
        exact ih2 (x1 + 1) (by omega) (by omega)
      ·
        refine T_ld zk_175_96 rfl rfl rfl (pc' := 97) rfl ?_
        refine T_getR (t' := 36) (i' := 0) (k' := 0) zk_175_97 rfl rfl rfl vd_35 (pc' := 100) rfl ?_
        refine T_op zk_175_100 rfl (X_si (v := 253) (by decide)) (pc' := 103) rfl ?_
        refine T_ld zk_175_103 rfl rfl rfl (pc' := 104) rfl ?_
        refine T_op zk_175_104 rfl X_add (pc' := 105) rfl ?_
        refine T_ld zk_175_105 rfl rfl rfl (pc' := 107) rfl ?_
        refine T_if_eq zk_175_107 (by omega) (pc' := 110) rfl (fun h90 => ?_) (fun h91 => ?_)
        ·
          refine T_op zk_175_114 rfl X_ic (pc' := 115) rfl ?_
          refine G_iast (J' := (fun σ' => IF MWg σ σ' ∧ σ' 36 0 0 640 = y85 ∧ True)) (ln := 646) zk_175_115 rfl rfl (vd_36 (by omega)) (by omega) (by omega) (by omega) (fun σ' h => ⟨h.1.up (by simp only [rgP] <;> omega) (by first | exact pMWg rfl | (unfold MWg; omega)), (up_ne (by omega)).trans (h.2.1), trivial⟩) (pc' := 116) rfl ?_
          refine T_iinc (L' := [(0, av 35 0 0), (1, iv p0), (2, iv (x1 + 1)), (3, iv x80), (4, iv x81), (5, iv x82)]) zk_175_116 (nL := 8) rfl rfl rfl rfl (pc' := 119) rfl ?_
          refine T_goto zk_175_119 ?_
          refine G_know (J' := (fun σ' => IF MWg σ σ' ∧ True)) (fun σ' h => ⟨h.1, trivial⟩) ?_
          refine T_loc (L := [(0, av 35 0 0), (1, iv p0), (2, iv (x1 + 1))]) (E := [(3, iv x80), (4, iv x81), (5, iv x82)]) rfl ?_
          exact ih2 (x1 + 1) (by omega) (by omega)
        ·
          refine T_op zk_175_110 rfl X_ic (pc' := 111) rfl ?_
          refine T_goto zk_175_111 ?_
          refine G_iast (J' := (fun σ' => IF MWg σ σ' ∧ σ' 36 0 0 640 = y85 ∧ True)) (ln := 646) zk_175_115 rfl rfl (vd_36 (by omega)) (by omega) (by omega) (by omega) (fun σ' h => ⟨h.1.up (by simp only [rgP] <;> omega) (by first | exact pMWg rfl | (unfold MWg; omega)), (up_ne (by omega)).trans (h.2.1), trivial⟩) (pc' := 116) rfl ?_
          refine T_iinc (L' := [(0, av 35 0 0), (1, iv p0), (2, iv (x1 + 1)), (3, iv x80), (4, iv x81), (5, iv x82)]) zk_175_116 (nL := 8) rfl rfl rfl rfl (pc' := 119) rfl ?_
          refine T_goto zk_175_119 ?_
          refine G_know (J' := (fun σ' => IF MWg σ σ' ∧ True)) (fun σ' h => ⟨h.1, trivial⟩) ?_
          refine T_loc (L := [(0, av 35 0 0), (1, iv p0), (2, iv (x1 + 1))]) (E := [(3, iv x80), (4, iv x81), (5, iv x82)]) rfl ?_
          exact ih2 (x1 + 1) (by omega) (by omega)
    ·
      refine T_ld zk_175_35 rfl rfl rfl (pc' := 36) rfl ?_
      refine T_getR (t' := 36) (i' := 0) (k' := 0) zk_175_36 rfl rfl rfl vd_35 (pc' := 39) rfl ?_
      refine T_op zk_175_39 rfl (X_si (v := 628) (by decide)) (pc' := 42) rfl ?_
      refine T_ld zk_175_42 rfl rfl rfl (pc' := 44) rfl ?_
      refine T_op zk_175_44 rfl X_add (pc' := 45) rfl ?_
      refine G_iald (lo := -2147483648) (hi := 2147483647) (ln := 646) zk_175_45 rfl rfl (vd_36 (by omega)) (by omega) (by omega) (by omega) (fun σ' h => h.1.1) (fun _ h => (by have q := h.1; omega)) (pc' := 46) rfl (fun y92 hy92 hy92' => ?_)
      refine T_if_eq zk_175_46 (by omega) (pc' := 49) rfl (fun h93 => ?_) (fun h94 => ?_)
      ·
        refine T_iinc (L' := [(0, av 35 0 0), (1, iv p0), (2, iv x1), (3, iv x80), (4, iv x81), (5, iv (x82 + 1))]) zk_175_86 (nL := 8) rfl rfl rfl rfl (pc' := 89) rfl ?_
        refine T_goto zk_175_89 ?_
        refine G_know (J' := (fun σ' => IF MWg σ σ' ∧ True)) (fun σ' h => ⟨h.1, trivial⟩) ?_
        exact ih83 x80 x81 (x82 + 1) (by omega) (by omega)
      ·
        refine T_ld zk_175_49 rfl rfl rfl (pc' := 50) rfl ?_
        refine T_getR (t' := 43) (i' := 0) (k' := 0) zk_175_50 rfl rfl rfl vd_35 (pc' := 53) rfl ?_
        refine T_ld zk_175_53 rfl rfl rfl (pc' := 55) rfl ?_
        refine G_iald (lo := -2147483648) (hi := 2147483647) (ln := 6) zk_175_55 rfl rfl vd_43 (by omega) (by omega) (by omega) (fun σ' h => h.1.1) (fun _ h => (by have q := h.1; omega)) (pc' := 56) rfl (fun y95 hy95 hy95' => ?_)
        refine T_ld zk_175_56 rfl rfl rfl (pc' := 57) rfl ?_
        refine T_icmp_eq zk_175_57 (by omega) (by omega) (pc' := 60) rfl (fun h96 => ?_) (fun h97 => ?_)
        ·
          refine T_op zk_175_63 rfl X_ic (pc' := 64) rfl ?_
          refine T_st (L' := [(0, av 35 0 0), (1, iv p0), (2, iv x1), (3, iv 1), (4, iv x81), (5, iv x82)]) zk_175_64 (nL := 8) rfl rfl rfl rfl rfl (pc' := 65) rfl ?_
          refine T_ld zk_175_65 rfl rfl rfl (pc' := 67) rfl ?_
          refine T_if_ne zk_175_67 (by omega) (pc' := 70) rfl (fun h98 => ?_) (fun h99 => ?_)
          ·
            refine T_op zk_175_79 rfl X_ic (pc' := 80) rfl ?_
            refine T_goto zk_175_80 ?_
            refine T_st (L' := [(0, av 35 0 0), (1, iv p0), (2, iv x1), (3, iv 1), (4, iv 1), (5, iv x82)]) zk_175_84 (nL := 8) rfl rfl rfl rfl rfl (pc' := 86) rfl ?_
            refine T_iinc (L' := [(0, av 35 0 0), (1, iv p0), (2, iv x1), (3, iv 1), (4, iv 1), (5, iv (x82 + 1))]) zk_175_86 (nL := 8) rfl rfl rfl rfl (pc' := 89) rfl ?_
            refine T_goto zk_175_89 ?_
            refine G_know (J' := (fun σ' => IF MWg σ σ' ∧ True)) (fun σ' h => ⟨h.1, trivial⟩) ?_
            exact ih83 1 1 (x82 + 1) (by omega) (by omega)
          ·
            refine T_ld zk_175_70 rfl rfl rfl (pc' := 71) rfl ?_
            refine T_ld zk_175_71 rfl rfl rfl (pc' := 73) rfl ?_
            refine T_calli (K := fun y100 σ' => (y100 = 0 ∨ y100 = 1) ∧ (fun σ' => IF MWg σ σ' ∧ σ' 36 0 0 640 = y85 ∧ True) σ') (r := []) zk_175_73 rfl rfl rfl rfl rfl rfl (Or.inr ⟨_, _, _, _, rfl, vd_35, rfl⟩) (fun σ' h => (m_162 x82 y85 (by omega) (by omega) σ' h.1.1 (hW.fr (fun _ => h.1.2 _ _ _ _ (by first | exact nMWg rfl | (unfold MWg; omega))) (fun _ => h.1.2 _ _ _ _ (by first | exact nMWg rfl | (unfold MWg; omega))) (h.1.2 _ _ _ _ (by first | exact nMWg rfl | (unfold MWg; omega)))) (by omega) (h.2.1)).le (Nat.le_of_ble_eq_true rfl) (fun v σ2 ⟨y, h1, h2, h3, h4⟩ => ⟨y, h1, h2, h.1.tr h3 sb65_bf8bad3, (h3.2 _ _ _ _ (by first | exact nMT rfl | (unfold MT; omega))).trans (h.2.1), trivial⟩)) (pc' := 76) rfl (fun y100 => ?_)
            refine G_ex (fun hy100 => ?_)
            refine T_if_eq zk_175_76 (by omega) (pc' := 79) rfl (fun h101 => ?_) (fun h102 => ?_)
            ·
              refine T_op zk_175_83 rfl X_ic (pc' := 84) rfl ?_
              refine T_st (L' := [(0, av 35 0 0), (1, iv p0), (2, iv x1), (3, iv 1), (4, iv 0), (5, iv x82)]) zk_175_84 (nL := 8) rfl rfl rfl rfl rfl (pc' := 86) rfl ?_
              refine T_iinc (L' := [(0, av 35 0 0), (1, iv p0), (2, iv x1), (3, iv 1), (4, iv 0), (5, iv (x82 + 1))]) zk_175_86 (nL := 8) rfl rfl rfl rfl (pc' := 89) rfl ?_
              refine T_goto zk_175_89 ?_
              refine G_know (J' := (fun σ' => IF MWg σ σ' ∧ True)) (fun σ' h => ⟨h.1, trivial⟩) ?_
              exact ih83 1 0 (x82 + 1) (by omega) (by omega)
            ·
              refine T_op zk_175_79 rfl X_ic (pc' := 80) rfl ?_
              refine T_goto zk_175_80 ?_
              refine T_st (L' := [(0, av 35 0 0), (1, iv p0), (2, iv x1), (3, iv 1), (4, iv 1), (5, iv x82)]) zk_175_84 (nL := 8) rfl rfl rfl rfl rfl (pc' := 86) rfl ?_
              refine T_iinc (L' := [(0, av 35 0 0), (1, iv p0), (2, iv x1), (3, iv 1), (4, iv 1), (5, iv (x82 + 1))]) zk_175_86 (nL := 8) rfl rfl rfl rfl (pc' := 89) rfl ?_
              refine T_goto zk_175_89 ?_
              refine G_know (J' := (fun σ' => IF MWg σ σ' ∧ True)) (fun σ' h => ⟨h.1, trivial⟩) ?_
              exact ih83 1 1 (x82 + 1) (by omega) (by omega)
        ·
          refine T_goto zk_175_60 ?_
          refine T_iinc (L' := [(0, av 35 0 0), (1, iv p0), (2, iv x1), (3, iv x80), (4, iv x81), (5, iv (x82 + 1))]) zk_175_86 (nL := 8) rfl rfl rfl rfl (pc' := 89) rfl ?_
          refine T_goto zk_175_89 ?_
          refine G_know (J' := (fun σ' => IF MWg σ σ' ∧ True)) (fun σ' h => ⟨h.1, trivial⟩) ?_
          exact ih83 x80 x81 (x82 + 1) (by omega) (by omega)
theorem sb65_741641e : ∀ t i k j, MSo t i k j → MLg t i k j := by
  intro t i k j h
  unfold MSo at h
  unfold MLg
  omega
/-- WModel.lives -/
theorem m_177 {xs : Nat × (Nat → Int32)} (p0 : Int) (n : Int) (hp0 : 0 ≤ p0 ∧ p0 ≤ 1) (hn : 0 ≤ n ∧ n ≤ 29999) (σ : ZS) (hI : Inv σ)  (s1 : σ 36 0 0 634 = n) : CT xs 6 177 [av 35 0 0, iv p0] σ (fun v σ' => v = none ∧ IF MLg σ σ' ∧ (σ' 36 0 0 634 = n + 1 ∧ True)) := by
  refine G_ct (J := (fun σ' => IF MLg σ σ' ∧ σ' 36 0 0 634 = n ∧ True)) (L := [(0, av 35 0 0), (1, iv p0)]) (nL := 6) rfl rfl rfl ⟨IF.rf hI, s1, trivial⟩ ?_
  refine T_op zk_177_0 rfl X_ic (pc' := 1) rfl ?_
  refine T_st (L' := [(0, av 35 0 0), (1, iv p0), (2, iv 0)]) zk_177_1 (nL := 6) rfl rfl rfl rfl rfl (pc' := 2) rfl ?_
  refine T_loop1 (fun x1 => ((50 - x1 : Int)).toNat) (fun x1 => (0 ≤ x1 ∧ x1 ≤ 50)) (fun x1 => TJ xs (fun σ' => IF MLg σ σ' ∧ σ' 36 0 0 634 = n ∧ True) 5 177 2 [(0, av 35 0 0), (1, iv p0), (2, iv x1)] [] _) ?_ 0 (by omega)
  intro x1 hp3 ih2
  refine T_ld zk_177_2 rfl rfl rfl (pc' := 3) rfl ?_
  refine T_op zk_177_3 rfl (X_bi (v := 50) (by decide)) (pc' := 5) rfl ?_
  refine T_icmp_ge zk_177_5 (by omega) (by omega) (pc' := 8) rfl (fun h4 => ?_) (fun h5 => ?_)
  ·
    refine T_op zk_177_21 rfl (X_bi (v := 9) (by decide)) (pc' := 23) rfl ?_
    refine T_st (L' := [(0, av 35 0 0), (1, iv p0), (2, iv 9)]) zk_177_23 (nL := 6) rfl rfl rfl rfl rfl (pc' := 24) rfl ?_
    refine T_loop1 (fun x6 => ((x6 + 1 : Int)).toNat) (fun x6 => (-1 ≤ x6 ∧ x6 ≤ 9)) (fun x6 => TJ xs (fun σ' => IF MLg σ σ' ∧ σ' 36 0 0 634 = n ∧ True) 5 177 24 [(0, av 35 0 0), (1, iv p0), (2, iv x6)] [] _) ?_ 9 (by omega)
    intro x6 hp8 ih7
    refine T_ld zk_177_24 rfl rfl rfl (pc' := 25) rfl ?_
    refine T_if_lt zk_177_25 (by omega) (pc' := 28) rfl (fun h9 => ?_) (fun h10 => ?_)
    ·
      refine T_op zk_177_87 rfl X_ic (pc' := 88) rfl ?_
      refine T_st (L' := [(0, av 35 0 0), (1, iv p0), (2, iv 0)]) zk_177_88 (nL := 6) rfl rfl rfl rfl rfl (pc' := 89) rfl ?_
      refine T_op zk_177_89 rfl X_ic (pc' := 90) rfl ?_
      refine T_st (L' := [(0, av 35 0 0), (1, iv p0), (2, iv 0), (3, iv 0)]) zk_177_90 (nL := 6) rfl rfl rfl rfl rfl (pc' := 91) rfl ?_
      refine T_loop2 (fun x11 x12 => ((12 - x12 : Int)).toNat) (fun x11 x12 => (0 ≤ x11 ∧ x11 ≤ 1) ∧ (0 ≤ x12 ∧ x12 ≤ 12)) (fun x11 x12 => TJ xs (fun σ' => IF MLg σ σ' ∧ σ' 36 0 0 634 = n ∧ True) 5 177 91 [(0, av 35 0 0), (1, iv p0), (2, iv x11), (3, iv x12)] [] _) ?_ 0 0 (by omega)
      intro x11 x12 hp14 ih13
      refine T_ld zk_177_91 rfl rfl rfl (pc' := 92) rfl ?_
      refine T_ld zk_177_92 rfl rfl rfl (pc' := 93) rfl ?_
      refine T_getR (t' := 36) (i' := 0) (k' := 0) zk_177_93 rfl rfl rfl vd_35 (pc' := 96) rfl ?_
      refine T_op zk_177_96 rfl (X_si (v := 641) (by decide)) (pc' := 99) rfl ?_
      refine G_iald (lo := 0) (hi := 12) (ln := 646) zk_177_99 rfl rfl (vd_36 (by omega)) (by omega) (by omega) (by omega) (fun σ' h => h.1.1) (fun _ h => h.2.2.2.2.2.2.2.2.2.2.2.2.1 (by omega) (by omega)) (pc' := 100) rfl (fun y15 hy15 hy15' => ?_)
      refine T_icmp_ge zk_177_100 (by omega) (by omega) (pc' := 103) rfl (fun h16 => ?_) (fun h17 => ?_)
      ·
        refine T_op zk_177_318 rfl X_ic (pc' := 319) rfl ?_
        refine T_st (L' := [(0, av 35 0 0), (1, iv p0), (2, iv x11), (3, iv 0)]) zk_177_319 (nL := 6) rfl rfl rfl rfl rfl (pc' := 320) rfl ?_
        refine T_op zk_177_320 rfl X_ic (pc' := 321) rfl ?_
        refine T_st (L' := [(0, av 35 0 0), (1, iv p0), (2, iv x11), (3, iv 0), (4, iv 0)]) zk_177_321 (nL := 6) rfl rfl rfl rfl rfl (pc' := 323) rfl ?_
        refine T_loop2 (fun x18 x19 => ((3 - x19 : Int)).toNat) (fun x18 x19 => (0 ≤ x18 ∧ x18 ≤ 1) ∧ (0 ≤ x19 ∧ x19 ≤ 3)) (fun x18 x19 => TJ xs (fun σ' => IF MLg σ σ' ∧ σ' 36 0 0 634 = n ∧ True) 5 177 323 [(0, av 35 0 0), (1, iv p0), (2, iv x11), (3, iv x18), (4, iv x19)] [] _) ?_ 0 0 (by omega)
        intro x18 x19 hp21 ih20
        refine T_ld zk_177_323 rfl rfl rfl (pc' := 325) rfl ?_
        refine T_ld zk_177_325 rfl rfl rfl (pc' := 326) rfl ?_
        refine T_getR (t' := 36) (i' := 0) (k' := 0) zk_177_326 rfl rfl rfl vd_35 (pc' := 329) rfl ?_
        refine T_op zk_177_329 rfl (X_si (v := 633) (by decide)) (pc' := 332) rfl ?_
        refine G_iald (lo := 0) (hi := 3) (ln := 646) zk_177_332 rfl rfl (vd_36 (by omega)) (by omega) (by omega) (by omega) (fun σ' h => h.1.1) (fun _ h => h.2.2.2.2.2.1 (by omega) (by omega)) (pc' := 333) rfl (fun y22 hy22 hy22' => ?_)
        refine T_icmp_ge zk_177_333 (by omega) (by omega) (pc' := 336) rfl (fun h23 => ?_) (fun h24 => ?_)
        ·
          refine T_ld zk_177_359 rfl rfl rfl (pc' := 360) rfl ?_
          refine T_if_eq zk_177_360 (by omega) (pc' := 363) rfl (fun h25 => ?_) (fun h26 => ?_)
          ·
            refine T_ld zk_177_379 rfl rfl rfl (pc' := 380) rfl ?_
            refine T_if_eq zk_177_380 (by omega) (pc' := 383) rfl (fun h27 => ?_) (fun h28 => ?_)
            ·
              refine T_ld zk_177_415 rfl rfl rfl (pc' := 416) rfl ?_
              refine T_getR (t' := 36) (i' := 0) (k' := 0) zk_177_416 rfl rfl rfl vd_35 (pc' := 419) rfl ?_
              refine T_op zk_177_419 rfl (X_si (v := 634) (by decide)) (pc' := 422) rfl ?_
              refine T_op (st' := [iv 634, av 36 0 0, iv 634, av 36 0 0]) zk_177_422 rfl rfl (pc' := 423) rfl ?_
              refine G_ialdX (w := n) (ln := 646) zk_177_423 rfl rfl (vd_36 (by omega)) (by omega) (by omega) (by omega) (fun σ' h => h.2.1) (pc' := 424) rfl ?_
              refine T_op zk_177_424 rfl X_ic (pc' := 425) rfl ?_
              refine T_op zk_177_425 rfl X_add (pc' := 426) rfl ?_
              refine G_iast (J' := (fun σ' => IF MLg σ σ' ∧ σ' 36 0 0 634 = n + 1 ∧ True)) (ln := 646) zk_177_426 rfl rfl (vd_36 (by omega)) (by omega) (by omega) (by omega) (fun σ' h => ⟨h.1.up (by simp only [rgP] <;> omega) (by first | exact pMLg rfl | (unfold MLg; omega)), up_eq, trivial⟩) (pc' := 427) rfl ?_
              refine T_ld zk_177_427 rfl rfl rfl (pc' := 428) rfl ?_
              refine T_getR (t' := 36) (i' := 0) (k' := 0) zk_177_428 rfl rfl rfl vd_35 (pc' := 431) rfl ?_
              refine T_op zk_177_431 rfl (X_si (v := 634) (by decide)) (pc' := 434) rfl ?_
              refine G_ialdX (w := n + 1) (ln := 646) zk_177_434 rfl rfl (vd_36 (by omega)) (by omega) (by omega) (by omega) (fun σ' h => h.2.1) (pc' := 435) rfl ?_
              refine T_op zk_177_435 rfl (X_bi (v := 96) (by decide)) (pc' := 437) rfl ?_
              refine T_op zk_177_437 rfl (X_rem (by omega) (by omega)) (pc' := 438) rfl ?_
              refine T_if_eq zk_177_438 (by omega) (pc' := 441) rfl (fun h29 => ?_) (fun h30 => ?_)
              ·
                refine T_ld zk_177_442 rfl rfl rfl (pc' := 443) rfl ?_
                refine T_getR (t' := 36) (i' := 0) (k' := 0) zk_177_443 rfl rfl rfl vd_35 (pc' := 446) rfl ?_
                refine T_op zk_177_446 rfl (X_si (v := 634) (by decide)) (pc' := 449) rfl ?_
                refine G_ialdX (w := n + 1) (ln := 646) zk_177_449 rfl rfl (vd_36 (by omega)) (by omega) (by omega) (by omega) (fun σ' h => h.2.1) (pc' := 450) rfl ?_
                refine T_op zk_177_450 rfl (X_bi (v := 96) (by decide)) (pc' := 452) rfl ?_
                refine T_op zk_177_452 rfl (X_div (by omega) (by omega)) (pc' := 453) rfl ?_
                refine T_st (L' := [(0, av 35 0 0), (1, iv p0), (2, iv x11), (3, iv x18), (4, iv ((n + 1) / 96))]) zk_177_453 (nL := 6) rfl rfl rfl rfl rfl (pc' := 455) rfl ?_
                refine T_op zk_177_455 rfl X_ic (pc' := 456) rfl ?_
                refine T_st (L' := [(0, av 35 0 0), (1, iv p0), (2, iv x11), (3, iv x18), (4, iv ((n + 1) / 96)), (5, iv 0)]) zk_177_456 (nL := 6) rfl rfl rfl rfl rfl (pc' := 458) rfl ?_
                refine T_loop1 (fun x31 => ((25 - x31 : Int)).toNat) (fun x31 => (0 ≤ x31 ∧ x31 ≤ 25)) (fun x31 => TJ xs (fun σ' => IF MLg σ σ' ∧ σ' 36 0 0 634 = n + 1 ∧ True) 5 177 458 [(0, av 35 0 0), (1, iv p0), (2, iv x11), (3, iv x18), (4, iv ((n + 1) / 96)), (5, iv x31)] [] _) ?_ 0 (by omega)
                intro x31 hp33 ih32
                refine T_ld zk_177_458 rfl rfl rfl (pc' := 460) rfl ?_
                refine T_op zk_177_460 rfl (X_bi (v := 25) (by decide)) (pc' := 462) rfl ?_
                refine T_icmp_ge zk_177_462 (by omega) (by omega) (pc' := 465) rfl (fun h34 => ?_) (fun h35 => ?_)
                ·
                  refine T_op zk_177_528 rfl X_ic (pc' := 529) rfl ?_
                  refine T_st (L' := [(0, av 35 0 0), (1, iv p0), (2, iv x11), (3, iv x18), (4, iv ((n + 1) / 96)), (5, iv 0)]) zk_177_529 (nL := 6) rfl rfl rfl rfl rfl (pc' := 531) rfl ?_
                  refine T_loop1 (fun x36 => ((12 - x36 : Int)).toNat) (fun x36 => (0 ≤ x36 ∧ x36 ≤ 12)) (fun x36 => TJ xs (fun σ' => IF MLg σ σ' ∧ σ' 36 0 0 634 = n + 1 ∧ True) 5 177 531 [(0, av 35 0 0), (1, iv p0), (2, iv x11), (3, iv x18), (4, iv ((n + 1) / 96)), (5, iv x36)] [] _) ?_ 0 (by omega)
                  intro x36 hp38 ih37
                  refine T_ld zk_177_531 rfl rfl rfl (pc' := 533) rfl ?_
                  refine T_ld zk_177_533 rfl rfl rfl (pc' := 534) rfl ?_
                  refine T_getR (t' := 36) (i' := 0) (k' := 0) zk_177_534 rfl rfl rfl vd_35 (pc' := 537) rfl ?_
                  refine T_op zk_177_537 rfl (X_si (v := 641) (by decide)) (pc' := 540) rfl ?_
                  refine G_iald (lo := 0) (hi := 12) (ln := 646) zk_177_540 rfl rfl (vd_36 (by omega)) (by omega) (by omega) (by omega) (fun σ' h => h.1.1) (fun _ h => h.2.2.2.2.2.2.2.2.2.2.2.2.1 (by omega) (by omega)) (pc' := 541) rfl (fun y39 hy39 hy39' => ?_)
                  refine T_icmp_ge zk_177_541 (by omega) (by omega) (pc' := 544) rfl (fun h40 => ?_) (fun h41 => ?_)
                  ·
                    exact T_vret zk_177_596 rfl (fun σ' h => ⟨rfl, h.1, ⟨h.2.1, trivial⟩⟩)
                  ·
                    refine T_ld zk_177_544 rfl rfl rfl (pc' := 545) rfl ?_
                    refine T_getR (t' := 36) (i' := 0) (k' := 0) zk_177_545 rfl rfl rfl vd_35 (pc' := 548) rfl ?_
                    refine T_op zk_177_548 rfl (X_si (v := 484) (by decide)) (pc' := 551) rfl ?_
                    refine T_ld zk_177_551 rfl rfl rfl (pc' := 553) rfl ?_
                    refine T_op zk_177_553 rfl X_add (pc' := 554) rfl ?_
                    refine G_learn (t := 36) (i := 0) (k := 0) (j := Int.toNat (484 + x36)) (lo := -2147483648) (hi := 2147483647) (J2 := fun y42 => (fun σ' => IF MLg σ σ' ∧ σ' 36 0 0 634 = n + 1 ∧ σ' 36 0 0 (Int.toNat (484 + x36)) = y42 ∧ True)) (vd_36 (by omega)) (fun σ' h => h.1.1) (fun _ h => (by have q := h.1; omega)) (fun σ' y h hy => ⟨h.1, h.2.1, hy, trivial⟩) (fun y42 hy42 hy42' => ?_)
                    refine G_ialdX (w := y42) (ln := 646) zk_177_554 rfl rfl (vd_36 (by omega)) (by omega) (by omega) (by omega) (fun σ' h => h.2.2.1) (pc' := 555) rfl ?_
                    refine T_if_le zk_177_555 (by omega) (pc' := 558) rfl (fun h43 => ?_) (fun h44 => ?_)
                    ·
                      refine T_iinc (L' := [(0, av 35 0 0), (1, iv p0), (2, iv x11), (3, iv x18), (4, iv ((n + 1) / 96)), (5, iv (x36 + 1))]) zk_177_590 (nL := 6) rfl rfl rfl rfl (pc' := 593) rfl ?_
                      refine T_goto zk_177_593 ?_
                      refine G_know (J' := (fun σ' => IF MLg σ σ' ∧ σ' 36 0 0 634 = n + 1 ∧ True)) (fun σ' h => ⟨h.1, h.2.1, trivial⟩) ?_
                      exact ih37 (x36 + 1) (by omega) (by omega)
                    ·
                      refine T_ld zk_177_558 rfl rfl rfl (pc' := 560) rfl ?_
                      refine T_ld zk_177_560 rfl rfl rfl (pc' := 561) rfl ?_
                      refine T_getR (t' := 36) (i' := 0) (k' := 0) zk_177_561 rfl rfl rfl vd_35 (pc' := 564) rfl ?_
                      refine T_op zk_177_564 rfl (X_si (v := 484) (by decide)) (pc' := 567) rfl ?_
                      refine T_ld zk_177_567 rfl rfl rfl (pc' := 569) rfl ?_
                      refine T_op zk_177_569 rfl X_add (pc' := 570) rfl ?_
                      refine G_ialdX (w := y42) (ln := 646) zk_177_570 rfl rfl (vd_36 (by omega)) (by omega) (by omega) (by omega) (fun σ' h => h.2.2.1) (pc' := 571) rfl ?_
                      refine G_rem zk_177_571 (by omega) (by omega) (pc' := 572) rfl (fun y45 hy45 hy45' => ?_)
                      refine T_if_ne zk_177_572 (by omega) (pc' := 575) rfl (fun h46 => ?_) (fun h47 => ?_)
                      ·
                        refine T_iinc (L' := [(0, av 35 0 0), (1, iv p0), (2, iv x11), (3, iv x18), (4, iv ((n + 1) / 96)), (5, iv (x36 + 1))]) zk_177_590 (nL := 6) rfl rfl rfl rfl (pc' := 593) rfl ?_
                        refine T_goto zk_177_593 ?_
                        refine G_know (J' := (fun σ' => IF MLg σ σ' ∧ σ' 36 0 0 634 = n + 1 ∧ True)) (fun σ' h => ⟨h.1, h.2.1, trivial⟩) ?_
                        exact ih37 (x36 + 1) (by omega) (by omega)
                      ·
                        refine T_ld zk_177_575 rfl rfl rfl (pc' := 576) rfl ?_
                        refine T_getR (t' := 36) (i' := 0) (k' := 0) zk_177_576 rfl rfl rfl vd_35 (pc' := 579) rfl ?_
                        refine T_op zk_177_579 rfl (X_si (v := 508) (by decide)) (pc' := 582) rfl ?_
                        refine T_ld zk_177_582 rfl rfl rfl (pc' := 584) rfl ?_
                        refine T_op zk_177_584 rfl X_add (pc' := 585) rfl ?_
                        refine T_op (st' := [iv (508 + x36), av 36 0 0, iv (508 + x36), av 36 0 0]) zk_177_585 rfl rfl (pc' := 586) rfl ?_
                        refine G_iald (lo := -2147483648) (hi := 2147483647) (ln := 646) zk_177_586 rfl rfl (vd_36 (by omega)) (by omega) (by omega) (by omega) (fun σ' h => h.1.1) (fun _ h => (by have q := h.1; omega)) (pc' := 587) rfl (fun y48 hy48 hy48' => ?_)
                        refine T_op zk_177_587 rfl X_ic (pc' := 588) rfl ?_
                        refine G_unk zk_177_588 rfl (pc' := 589) rfl (fun y49 hy49 hy49' => ?_)
                        refine G_iast (J' := (fun σ' => IF MLg σ σ' ∧ σ' 36 0 0 634 = n + 1 ∧ σ' 36 0 0 (Int.toNat (508 + x36)) = y49 ∧ True)) (ln := 646) zk_177_589 rfl rfl (vd_36 (by omega)) (by omega) (by omega) (by omega) (fun σ' h => ⟨h.1.up (by simp only [rgP] <;> omega) (by first | exact pMLg rfl | (unfold MLg; omega)), (up_ne (by omega)).trans (h.2.1), up_eq, trivial⟩) (pc' := 590) rfl ?_
                        refine T_iinc (L' := [(0, av 35 0 0), (1, iv p0), (2, iv x11), (3, iv x18), (4, iv ((n + 1) / 96)), (5, iv (x36 + 1))]) zk_177_590 (nL := 6) rfl rfl rfl rfl (pc' := 593) rfl ?_
                        refine T_goto zk_177_593 ?_
                        refine G_know (J' := (fun σ' => IF MLg σ σ' ∧ σ' 36 0 0 634 = n + 1 ∧ True)) (fun σ' h => ⟨h.1, h.2.1, trivial⟩) ?_
                        exact ih37 (x36 + 1) (by omega) (by omega)
                ·
                  refine T_ld zk_177_465 rfl rfl rfl (pc' := 466) rfl ?_
                  refine T_getR (t' := 36) (i' := 0) (k' := 0) zk_177_466 rfl rfl rfl vd_35 (pc' := 469) rfl ?_
                  refine T_op zk_177_469 rfl (X_bi (v := 75) (by decide)) (pc' := 471) rfl ?_
                  refine T_ld zk_177_471 rfl rfl rfl (pc' := 473) rfl ?_
                  refine T_op zk_177_473 rfl X_add (pc' := 474) rfl ?_
                  refine G_iald (lo := -2147483648) (hi := 2147483647) (ln := 646) zk_177_474 rfl rfl (vd_36 (by omega)) (by omega) (by omega) (by omega) (fun σ' h => h.1.1) (fun _ h => (by have q := h.1; omega)) (pc' := 475) rfl (fun y50 hy50 hy50' => ?_)
                  refine T_ld zk_177_475 rfl rfl rfl (pc' := 476) rfl ?_
                  refine T_getR (t' := 36) (i' := 0) (k' := 0) zk_177_476 rfl rfl rfl vd_35 (pc' := 479) rfl ?_
                  refine T_op zk_177_479 rfl (X_si (v := 639) (by decide)) (pc' := 482) rfl ?_
                  refine G_iald (lo := 0) (hi := 9999) (ln := 646) zk_177_482 rfl rfl (vd_36 (by omega)) (by omega) (by omega) (by omega) (fun σ' h => h.1.1) (fun _ h => h.2.2.2.2.2.2.2.2.2.2.1 (by omega) (by omega)) (pc' := 483) rfl (fun y51 hy51 hy51' => ?_)
                  refine T_icmp_ge zk_177_483 (by omega) (by omega) (pc' := 486) rfl (fun h52 => ?_) (fun h53 => ?_)
                  ·
                    refine T_ld zk_177_511 rfl rfl rfl (pc' := 512) rfl ?_
                    refine T_getR (t' := 36) (i' := 0) (k' := 0) zk_177_512 rfl rfl rfl vd_35 (pc' := 515) rfl ?_
                    refine T_op zk_177_515 rfl (X_bi (v := 75) (by decide)) (pc' := 517) rfl ?_
                    refine T_ld zk_177_517 rfl rfl rfl (pc' := 519) rfl ?_
                    refine T_op zk_177_519 rfl X_add (pc' := 520) rfl ?_
                    refine T_op zk_177_520 rfl X_ic (pc' := 521) rfl ?_
                    refine G_iast (J' := (fun σ' => IF MLg σ σ' ∧ σ' 36 0 0 634 = n + 1 ∧ σ' 36 0 0 (Int.toNat (75 + x31)) = 0 ∧ True)) (ln := 646) zk_177_521 rfl rfl (vd_36 (by omega)) (by omega) (by omega) (by omega) (fun σ' h => ⟨h.1.up (by simp only [rgP] <;> omega) (by first | exact pMLg rfl | (unfold MLg; omega)), (up_ne (by omega)).trans (h.2.1), up_eq, trivial⟩) (pc' := 522) rfl ?_
                    refine T_iinc (L' := [(0, av 35 0 0), (1, iv p0), (2, iv x11), (3, iv x18), (4, iv ((n + 1) / 96)), (5, iv (x31 + 1))]) zk_177_522 (nL := 6) rfl rfl rfl rfl (pc' := 525) rfl ?_
                    refine T_goto zk_177_525 ?_
                    refine G_know (J' := (fun σ' => IF MLg σ σ' ∧ σ' 36 0 0 634 = n + 1 ∧ True)) (fun σ' h => ⟨h.1, h.2.1, trivial⟩) ?_
                    exact ih32 (x31 + 1) (by omega) (by omega)
                  ·
                    refine T_ld zk_177_486 rfl rfl rfl (pc' := 487) rfl ?_
                    refine T_getR (t' := 36) (i' := 0) (k' := 0) zk_177_487 rfl rfl rfl vd_35 (pc' := 490) rfl ?_
                    refine T_op zk_177_490 rfl X_ic (pc' := 491) rfl ?_
                    refine T_ld zk_177_491 rfl rfl rfl (pc' := 493) rfl ?_
                    refine T_op zk_177_493 rfl X_add (pc' := 494) rfl ?_
                    refine G_iald (lo := -2147483648) (hi := 2147483647) (ln := 646) zk_177_494 rfl rfl (vd_36 (by omega)) (by omega) (by omega) (by omega) (fun σ' h => h.1.1) (fun _ h => (by have q := h.1; omega)) (pc' := 495) rfl (fun y54 hy54 hy54' => ?_)
                    refine T_if_le zk_177_495 (by omega) (pc' := 498) rfl (fun h55 => ?_) (fun h56 => ?_)
                    ·
                      refine T_ld zk_177_511 rfl rfl rfl (pc' := 512) rfl ?_
                      refine T_getR (t' := 36) (i' := 0) (k' := 0) zk_177_512 rfl rfl rfl vd_35 (pc' := 515) rfl ?_
                      refine T_op zk_177_515 rfl (X_bi (v := 75) (by decide)) (pc' := 517) rfl ?_
                      refine T_ld zk_177_517 rfl rfl rfl (pc' := 519) rfl ?_
                      refine T_op zk_177_519 rfl X_add (pc' := 520) rfl ?_
                      refine T_op zk_177_520 rfl X_ic (pc' := 521) rfl ?_
                      refine G_iast (J' := (fun σ' => IF MLg σ σ' ∧ σ' 36 0 0 634 = n + 1 ∧ σ' 36 0 0 (Int.toNat (75 + x31)) = 0 ∧ True)) (ln := 646) zk_177_521 rfl rfl (vd_36 (by omega)) (by omega) (by omega) (by omega) (fun σ' h => ⟨h.1.up (by simp only [rgP] <;> omega) (by first | exact pMLg rfl | (unfold MLg; omega)), (up_ne (by omega)).trans (h.2.1), up_eq, trivial⟩) (pc' := 522) rfl ?_
                      refine T_iinc (L' := [(0, av 35 0 0), (1, iv p0), (2, iv x11), (3, iv x18), (4, iv ((n + 1) / 96)), (5, iv (x31 + 1))]) zk_177_522 (nL := 6) rfl rfl rfl rfl (pc' := 525) rfl ?_
                      refine T_goto zk_177_525 ?_
                      refine G_know (J' := (fun σ' => IF MLg σ σ' ∧ σ' 36 0 0 634 = n + 1 ∧ True)) (fun σ' h => ⟨h.1, h.2.1, trivial⟩) ?_
                      exact ih32 (x31 + 1) (by omega) (by omega)
                    ·
                      refine T_ld zk_177_498 rfl rfl rfl (pc' := 499) rfl ?_
                      refine T_getR (t' := 36) (i' := 0) (k' := 0) zk_177_499 rfl rfl rfl vd_35 (pc' := 502) rfl ?_
                      refine T_op zk_177_502 rfl X_ic (pc' := 503) rfl ?_
                      refine T_ld zk_177_503 rfl rfl rfl (pc' := 505) rfl ?_
                      refine T_op zk_177_505 rfl X_add (pc' := 506) rfl ?_
                      refine T_op (st' := [iv (0 + x31), av 36 0 0, iv (0 + x31), av 36 0 0]) zk_177_506 rfl rfl (pc' := 507) rfl ?_
                      refine G_iald (lo := -2147483648) (hi := 2147483647) (ln := 646) zk_177_507 rfl rfl (vd_36 (by omega)) (by omega) (by omega) (by omega) (fun σ' h => h.1.1) (fun _ h => (by have q := h.1; omega)) (pc' := 508) rfl (fun y57 hy57 hy57' => ?_)
                      refine T_op zk_177_508 rfl X_ic (pc' := 509) rfl ?_
                      refine G_unk zk_177_509 rfl (pc' := 510) rfl (fun y58 hy58 hy58' => ?_)
                      refine G_iast (J' := (fun σ' => IF MLg σ σ' ∧ σ' 36 0 0 634 = n + 1 ∧ σ' 36 0 0 (Int.toNat (0 + x31)) = y58 ∧ True)) (ln := 646) zk_177_510 rfl rfl (vd_36 (by omega)) (by omega) (by omega) (by omega) (fun σ' h => ⟨h.1.up (by simp only [rgP] <;> omega) (by first | exact pMLg rfl | (unfold MLg; omega)), (up_ne (by omega)).trans (h.2.1), up_eq, trivial⟩) (pc' := 511) rfl ?_
                      refine T_ld zk_177_511 rfl rfl rfl (pc' := 512) rfl ?_
                      refine T_getR (t' := 36) (i' := 0) (k' := 0) zk_177_512 rfl rfl rfl vd_35 (pc' := 515) rfl ?_
                      refine T_op zk_177_515 rfl (X_bi (v := 75) (by decide)) (pc' := 517) rfl ?_
                      refine T_ld zk_177_517 rfl rfl rfl (pc' := 519) rfl ?_
                      refine T_op zk_177_519 rfl X_add (pc' := 520) rfl ?_
                      refine T_op zk_177_520 rfl X_ic (pc' := 521) rfl ?_
                      refine G_iast (J' := (fun σ' => IF MLg σ σ' ∧ σ' 36 0 0 634 = n + 1 ∧ σ' 36 0 0 (Int.toNat (75 + x31)) = 0 ∧ True)) (ln := 646) zk_177_521 rfl rfl (vd_36 (by omega)) (by omega) (by omega) (by omega) (fun σ' h => ⟨h.1.up (by simp only [rgP] <;> omega) (by first | exact pMLg rfl | (unfold MLg; omega)), (up_ne (by omega)).trans (h.2.1), up_eq, trivial⟩) (pc' := 522) rfl ?_
                      refine T_iinc (L' := [(0, av 35 0 0), (1, iv p0), (2, iv x11), (3, iv x18), (4, iv ((n + 1) / 96)), (5, iv (x31 + 1))]) zk_177_522 (nL := 6) rfl rfl rfl rfl (pc' := 525) rfl ?_
                      refine T_goto zk_177_525 ?_
                      refine G_know (J' := (fun σ' => IF MLg σ σ' ∧ σ' 36 0 0 634 = n + 1 ∧ True)) (fun σ' h => ⟨h.1, h.2.1, trivial⟩) ?_
                      exact ih32 (x31 + 1) (by omega) (by omega)
              ·
                exact T_vret zk_177_441 rfl (fun σ' h => ⟨rfl, h.1, ⟨h.2.1, trivial⟩⟩)
            ·
              refine T_ld zk_177_383 rfl rfl rfl (pc' := 384) rfl ?_
              refine T_ld zk_177_384 rfl rfl rfl (pc' := 385) rfl ?_
              refine T_getR (t' := 36) (i' := 0) (k' := 0) zk_177_385 rfl rfl rfl vd_35 (pc' := 388) rfl ?_
              refine T_op zk_177_388 rfl (X_si (v := 634) (by decide)) (pc' := 391) rfl ?_
              refine G_ialdX (w := n) (ln := 646) zk_177_391 rfl rfl (vd_36 (by omega)) (by omega) (by omega) (by omega) (fun σ' h => h.2.1) (pc' := 392) rfl ?_
              refine T_ld zk_177_392 rfl rfl rfl (pc' := 393) rfl ?_
              refine T_calli (K := fun y59 σ' => (-2147483648 ≤ y59 ∧ y59 ≤ 2147483647) ∧ (fun σ' => IF MLg σ σ' ∧ σ' 36 0 0 634 = n ∧ True) σ') (r := []) zk_177_393 rfl rfl rfl rfl rfl rfl (Or.inr ⟨_, _, _, _, rfl, vd_35, rfl⟩) (fun σ' h => (m_145 n p0 (by omega) (by omega) σ' h.1.1 ).le (Nat.le_of_ble_eq_true rfl) (fun v σ2 ⟨y, h1, h2, h3, h4⟩ => ⟨y, h1, h2, h.1.tr h3 MN_sub, (h3.2 _ _ _ _ (fun q => q)).trans (h.2.1), trivial⟩)) (pc' := 396) rfl (fun y59 => ?_)
              refine G_ex (fun hy59 => ?_)
              refine T_ld zk_177_396 rfl rfl rfl (pc' := 397) rfl ?_
              refine G_getf (lo := -2147483648) (hi := 2147483647) zk_177_397 rfl vd_35 (fun σ' h => h.1.1) (fun _ h => (by have q := h.1; omega)) (pc' := 400) rfl (fun y60 hy60 hy60' => ?_)
              refine T_icmp_gt zk_177_400 (by omega) (by omega) (pc' := 403) rfl (fun h61 => ?_) (fun h62 => ?_)
              ·
                refine T_ld zk_177_415 rfl rfl rfl (pc' := 416) rfl ?_
                refine T_getR (t' := 36) (i' := 0) (k' := 0) zk_177_416 rfl rfl rfl vd_35 (pc' := 419) rfl ?_
                refine T_op zk_177_419 rfl (X_si (v := 634) (by decide)) (pc' := 422) rfl ?_
                refine T_op (st' := [iv 634, av 36 0 0, iv 634, av 36 0 0]) zk_177_422 rfl rfl (pc' := 423) rfl ?_
                refine G_ialdX (w := n) (ln := 646) zk_177_423 rfl rfl (vd_36 (by omega)) (by omega) (by omega) (by omega) (fun σ' h => h.2.1) (pc' := 424) rfl ?_
                refine T_op zk_177_424 rfl X_ic (pc' := 425) rfl ?_
                refine T_op zk_177_425 rfl X_add (pc' := 426) rfl ?_
                refine G_iast (J' := (fun σ' => IF MLg σ σ' ∧ σ' 36 0 0 634 = n + 1 ∧ True)) (ln := 646) zk_177_426 rfl rfl (vd_36 (by omega)) (by omega) (by omega) (by omega) (fun σ' h => ⟨h.1.up (by simp only [rgP] <;> omega) (by first | exact pMLg rfl | (unfold MLg; omega)), up_eq, trivial⟩) (pc' := 427) rfl ?_
                refine T_ld zk_177_427 rfl rfl rfl (pc' := 428) rfl ?_
                refine T_getR (t' := 36) (i' := 0) (k' := 0) zk_177_428 rfl rfl rfl vd_35 (pc' := 431) rfl ?_
                refine T_op zk_177_431 rfl (X_si (v := 634) (by decide)) (pc' := 434) rfl ?_
                refine G_ialdX (w := n + 1) (ln := 646) zk_177_434 rfl rfl (vd_36 (by omega)) (by omega) (by omega) (by omega) (fun σ' h => h.2.1) (pc' := 435) rfl ?_
                refine T_op zk_177_435 rfl (X_bi (v := 96) (by decide)) (pc' := 437) rfl ?_
                refine T_op zk_177_437 rfl (X_rem (by omega) (by omega)) (pc' := 438) rfl ?_
                refine T_if_eq zk_177_438 (by omega) (pc' := 441) rfl (fun h63 => ?_) (fun h64 => ?_)
                ·
                  refine T_ld zk_177_442 rfl rfl rfl (pc' := 443) rfl ?_
                  refine T_getR (t' := 36) (i' := 0) (k' := 0) zk_177_443 rfl rfl rfl vd_35 (pc' := 446) rfl ?_
                  refine T_op zk_177_446 rfl (X_si (v := 634) (by decide)) (pc' := 449) rfl ?_
                  refine G_ialdX (w := n + 1) (ln := 646) zk_177_449 rfl rfl (vd_36 (by omega)) (by omega) (by omega) (by omega) (fun σ' h => h.2.1) (pc' := 450) rfl ?_
                  refine T_op zk_177_450 rfl (X_bi (v := 96) (by decide)) (pc' := 452) rfl ?_
                  refine T_op zk_177_452 rfl (X_div (by omega) (by omega)) (pc' := 453) rfl ?_
                  refine T_st (L' := [(0, av 35 0 0), (1, iv p0), (2, iv x11), (3, iv x18), (4, iv ((n + 1) / 96))]) zk_177_453 (nL := 6) rfl rfl rfl rfl rfl (pc' := 455) rfl ?_
                  refine T_op zk_177_455 rfl X_ic (pc' := 456) rfl ?_
                  refine T_st (L' := [(0, av 35 0 0), (1, iv p0), (2, iv x11), (3, iv x18), (4, iv ((n + 1) / 96)), (5, iv 0)]) zk_177_456 (nL := 6) rfl rfl rfl rfl rfl (pc' := 458) rfl ?_
                  refine T_loop1 (fun x65 => ((25 - x65 : Int)).toNat) (fun x65 => (0 ≤ x65 ∧ x65 ≤ 25)) (fun x65 => TJ xs (fun σ' => IF MLg σ σ' ∧ σ' 36 0 0 634 = n + 1 ∧ True) 5 177 458 [(0, av 35 0 0), (1, iv p0), (2, iv x11), (3, iv x18), (4, iv ((n + 1) / 96)), (5, iv x65)] [] _) ?_ 0 (by omega)
                  intro x65 hp67 ih66
                  refine T_ld zk_177_458 rfl rfl rfl (pc' := 460) rfl ?_
                  refine T_op zk_177_460 rfl (X_bi (v := 25) (by decide)) (pc' := 462) rfl ?_
                  refine T_icmp_ge zk_177_462 (by omega) (by omega) (pc' := 465) rfl (fun h68 => ?_) (fun h69 => ?_)
                  ·
                    refine T_op zk_177_528 rfl X_ic (pc' := 529) rfl ?_
                    refine T_st (L' := [(0, av 35 0 0), (1, iv p0), (2, iv x11), (3, iv x18), (4, iv ((n + 1) / 96)), (5, iv 0)]) zk_177_529 (nL := 6) rfl rfl rfl rfl rfl (pc' := 531) rfl ?_
                    refine T_loop1 (fun x70 => ((12 - x70 : Int)).toNat) (fun x70 => (0 ≤ x70 ∧ x70 ≤ 12)) (fun x70 => TJ xs (fun σ' => IF MLg σ σ' ∧ σ' 36 0 0 634 = n + 1 ∧ True) 5 177 531 [(0, av 35 0 0), (1, iv p0), (2, iv x11), (3, iv x18), (4, iv ((n + 1) / 96)), (5, iv x70)] [] _) ?_ 0 (by omega)
                    intro x70 hp72 ih71
                    refine T_ld zk_177_531 rfl rfl rfl (pc' := 533) rfl ?_
                    refine T_ld zk_177_533 rfl rfl rfl (pc' := 534) rfl ?_
                    refine T_getR (t' := 36) (i' := 0) (k' := 0) zk_177_534 rfl rfl rfl vd_35 (pc' := 537) rfl ?_
                    refine T_op zk_177_537 rfl (X_si (v := 641) (by decide)) (pc' := 540) rfl ?_
                    refine G_iald (lo := 0) (hi := 12) (ln := 646) zk_177_540 rfl rfl (vd_36 (by omega)) (by omega) (by omega) (by omega) (fun σ' h => h.1.1) (fun _ h => h.2.2.2.2.2.2.2.2.2.2.2.2.1 (by omega) (by omega)) (pc' := 541) rfl (fun y73 hy73 hy73' => ?_)
                    refine T_icmp_ge zk_177_541 (by omega) (by omega) (pc' := 544) rfl (fun h74 => ?_) (fun h75 => ?_)
                    ·
                      exact T_vret zk_177_596 rfl (fun σ' h => ⟨rfl, h.1, ⟨h.2.1, trivial⟩⟩)
                    ·
                      refine T_ld zk_177_544 rfl rfl rfl (pc' := 545) rfl ?_
                      refine T_getR (t' := 36) (i' := 0) (k' := 0) zk_177_545 rfl rfl rfl vd_35 (pc' := 548) rfl ?_
                      refine T_op zk_177_548 rfl (X_si (v := 484) (by decide)) (pc' := 551) rfl ?_
                      refine T_ld zk_177_551 rfl rfl rfl (pc' := 553) rfl ?_
                      refine T_op zk_177_553 rfl X_add (pc' := 554) rfl ?_
                      refine G_learn (t := 36) (i := 0) (k := 0) (j := Int.toNat (484 + x70)) (lo := -2147483648) (hi := 2147483647) (J2 := fun y76 => (fun σ' => IF MLg σ σ' ∧ σ' 36 0 0 634 = n + 1 ∧ σ' 36 0 0 (Int.toNat (484 + x70)) = y76 ∧ True)) (vd_36 (by omega)) (fun σ' h => h.1.1) (fun _ h => (by have q := h.1; omega)) (fun σ' y h hy => ⟨h.1, h.2.1, hy, trivial⟩) (fun y76 hy76 hy76' => ?_)
                      refine G_ialdX (w := y76) (ln := 646) zk_177_554 rfl rfl (vd_36 (by omega)) (by omega) (by omega) (by omega) (fun σ' h => h.2.2.1) (pc' := 555) rfl ?_
                      refine T_if_le zk_177_555 (by omega) (pc' := 558) rfl (fun h77 => ?_) (fun h78 => ?_)
                      ·
                        refine T_iinc (L' := [(0, av 35 0 0), (1, iv p0), (2, iv x11), (3, iv x18), (4, iv ((n + 1) / 96)), (5, iv (x70 + 1))]) zk_177_590 (nL := 6) rfl rfl rfl rfl (pc' := 593) rfl ?_
                        refine T_goto zk_177_593 ?_
                        refine G_know (J' := (fun σ' => IF MLg σ σ' ∧ σ' 36 0 0 634 = n + 1 ∧ True)) (fun σ' h => ⟨h.1, h.2.1, trivial⟩) ?_
                        exact ih71 (x70 + 1) (by omega) (by omega)
                      ·
                        refine T_ld zk_177_558 rfl rfl rfl (pc' := 560) rfl ?_
                        refine T_ld zk_177_560 rfl rfl rfl (pc' := 561) rfl ?_
                        refine T_getR (t' := 36) (i' := 0) (k' := 0) zk_177_561 rfl rfl rfl vd_35 (pc' := 564) rfl ?_
                        refine T_op zk_177_564 rfl (X_si (v := 484) (by decide)) (pc' := 567) rfl ?_
                        refine T_ld zk_177_567 rfl rfl rfl (pc' := 569) rfl ?_
                        refine T_op zk_177_569 rfl X_add (pc' := 570) rfl ?_
                        refine G_ialdX (w := y76) (ln := 646) zk_177_570 rfl rfl (vd_36 (by omega)) (by omega) (by omega) (by omega) (fun σ' h => h.2.2.1) (pc' := 571) rfl ?_
                        refine G_rem zk_177_571 (by omega) (by omega) (pc' := 572) rfl (fun y79 hy79 hy79' => ?_)
                        refine T_if_ne zk_177_572 (by omega) (pc' := 575) rfl (fun h80 => ?_) (fun h81 => ?_)
                        ·
                          refine T_iinc (L' := [(0, av 35 0 0), (1, iv p0), (2, iv x11), (3, iv x18), (4, iv ((n + 1) / 96)), (5, iv (x70 + 1))]) zk_177_590 (nL := 6) rfl rfl rfl rfl (pc' := 593) rfl ?_
                          refine T_goto zk_177_593 ?_
                          refine G_know (J' := (fun σ' => IF MLg σ σ' ∧ σ' 36 0 0 634 = n + 1 ∧ True)) (fun σ' h => ⟨h.1, h.2.1, trivial⟩) ?_
                          exact ih71 (x70 + 1) (by omega) (by omega)
                        ·
                          refine T_ld zk_177_575 rfl rfl rfl (pc' := 576) rfl ?_
                          refine T_getR (t' := 36) (i' := 0) (k' := 0) zk_177_576 rfl rfl rfl vd_35 (pc' := 579) rfl ?_
                          refine T_op zk_177_579 rfl (X_si (v := 508) (by decide)) (pc' := 582) rfl ?_
                          refine T_ld zk_177_582 rfl rfl rfl (pc' := 584) rfl ?_
                          refine T_op zk_177_584 rfl X_add (pc' := 585) rfl ?_
                          refine T_op (st' := [iv (508 + x70), av 36 0 0, iv (508 + x70), av 36 0 0]) zk_177_585 rfl rfl (pc' := 586) rfl ?_
                          refine G_iald (lo := -2147483648) (hi := 2147483647) (ln := 646) zk_177_586 rfl rfl (vd_36 (by omega)) (by omega) (by omega) (by omega) (fun σ' h => h.1.1) (fun _ h => (by have q := h.1; omega)) (pc' := 587) rfl (fun y82 hy82 hy82' => ?_)
                          refine T_op zk_177_587 rfl X_ic (pc' := 588) rfl ?_
                          refine G_unk zk_177_588 rfl (pc' := 589) rfl (fun y83 hy83 hy83' => ?_)
                          refine G_iast (J' := (fun σ' => IF MLg σ σ' ∧ σ' 36 0 0 634 = n + 1 ∧ σ' 36 0 0 (Int.toNat (508 + x70)) = y83 ∧ True)) (ln := 646) zk_177_589 rfl rfl (vd_36 (by omega)) (by omega) (by omega) (by omega) (fun σ' h => ⟨h.1.up (by simp only [rgP] <;> omega) (by first | exact pMLg rfl | (unfold MLg; omega)), (up_ne (by omega)).trans (h.2.1), up_eq, trivial⟩) (pc' := 590) rfl ?_
                          refine T_iinc (L' := [(0, av 35 0 0), (1, iv p0), (2, iv x11), (3, iv x18), (4, iv ((n + 1) / 96)), (5, iv (x70 + 1))]) zk_177_590 (nL := 6) rfl rfl rfl rfl (pc' := 593) rfl ?_
                          refine T_goto zk_177_593 ?_
                          refine G_know (J' := (fun σ' => IF MLg σ σ' ∧ σ' 36 0 0 634 = n + 1 ∧ True)) (fun σ' h => ⟨h.1, h.2.1, trivial⟩) ?_
                          exact ih71 (x70 + 1) (by omega) (by omega)
                  ·
                    refine T_ld zk_177_465 rfl rfl rfl (pc' := 466) rfl ?_
                    refine T_getR (t' := 36) (i' := 0) (k' := 0) zk_177_466 rfl rfl rfl vd_35 (pc' := 469) rfl ?_
                    refine T_op zk_177_469 rfl (X_bi (v := 75) (by decide)) (pc' := 471) rfl ?_
                    refine T_ld zk_177_471 rfl rfl rfl (pc' := 473) rfl ?_
                    refine T_op zk_177_473 rfl X_add (pc' := 474) rfl ?_
                    refine G_iald (lo := -2147483648) (hi := 2147483647) (ln := 646) zk_177_474 rfl rfl (vd_36 (by omega)) (by omega) (by omega) (by omega) (fun σ' h => h.1.1) (fun _ h => (by have q := h.1; omega)) (pc' := 475) rfl (fun y84 hy84 hy84' => ?_)
                    refine T_ld zk_177_475 rfl rfl rfl (pc' := 476) rfl ?_
                    refine T_getR (t' := 36) (i' := 0) (k' := 0) zk_177_476 rfl rfl rfl vd_35 (pc' := 479) rfl ?_
                    refine T_op zk_177_479 rfl (X_si (v := 639) (by decide)) (pc' := 482) rfl ?_
                    refine G_iald (lo := 0) (hi := 9999) (ln := 646) zk_177_482 rfl rfl (vd_36 (by omega)) (by omega) (by omega) (by omega) (fun σ' h => h.1.1) (fun _ h => h.2.2.2.2.2.2.2.2.2.2.1 (by omega) (by omega)) (pc' := 483) rfl (fun y85 hy85 hy85' => ?_)
                    refine T_icmp_ge zk_177_483 (by omega) (by omega) (pc' := 486) rfl (fun h86 => ?_) (fun h87 => ?_)
                    ·
                      refine T_ld zk_177_511 rfl rfl rfl (pc' := 512) rfl ?_
                      refine T_getR (t' := 36) (i' := 0) (k' := 0) zk_177_512 rfl rfl rfl vd_35 (pc' := 515) rfl ?_
                      refine T_op zk_177_515 rfl (X_bi (v := 75) (by decide)) (pc' := 517) rfl ?_
                      refine T_ld zk_177_517 rfl rfl rfl (pc' := 519) rfl ?_
                      refine T_op zk_177_519 rfl X_add (pc' := 520) rfl ?_
                      refine T_op zk_177_520 rfl X_ic (pc' := 521) rfl ?_
                      refine G_iast (J' := (fun σ' => IF MLg σ σ' ∧ σ' 36 0 0 634 = n + 1 ∧ σ' 36 0 0 (Int.toNat (75 + x65)) = 0 ∧ True)) (ln := 646) zk_177_521 rfl rfl (vd_36 (by omega)) (by omega) (by omega) (by omega) (fun σ' h => ⟨h.1.up (by simp only [rgP] <;> omega) (by first | exact pMLg rfl | (unfold MLg; omega)), (up_ne (by omega)).trans (h.2.1), up_eq, trivial⟩) (pc' := 522) rfl ?_
                      refine T_iinc (L' := [(0, av 35 0 0), (1, iv p0), (2, iv x11), (3, iv x18), (4, iv ((n + 1) / 96)), (5, iv (x65 + 1))]) zk_177_522 (nL := 6) rfl rfl rfl rfl (pc' := 525) rfl ?_
                      refine T_goto zk_177_525 ?_
                      refine G_know (J' := (fun σ' => IF MLg σ σ' ∧ σ' 36 0 0 634 = n + 1 ∧ True)) (fun σ' h => ⟨h.1, h.2.1, trivial⟩) ?_
                      exact ih66 (x65 + 1) (by omega) (by omega)
                    ·
                      refine T_ld zk_177_486 rfl rfl rfl (pc' := 487) rfl ?_
                      refine T_getR (t' := 36) (i' := 0) (k' := 0) zk_177_487 rfl rfl rfl vd_35 (pc' := 490) rfl ?_
                      refine T_op zk_177_490 rfl X_ic (pc' := 491) rfl ?_
                      refine T_ld zk_177_491 rfl rfl rfl (pc' := 493) rfl ?_
                      refine T_op zk_177_493 rfl X_add (pc' := 494) rfl ?_
                      refine G_iald (lo := -2147483648) (hi := 2147483647) (ln := 646) zk_177_494 rfl rfl (vd_36 (by omega)) (by omega) (by omega) (by omega) (fun σ' h => h.1.1) (fun _ h => (by have q := h.1; omega)) (pc' := 495) rfl (fun y88 hy88 hy88' => ?_)
                      refine T_if_le zk_177_495 (by omega) (pc' := 498) rfl (fun h89 => ?_) (fun h90 => ?_)
                      ·
                        refine T_ld zk_177_511 rfl rfl rfl (pc' := 512) rfl ?_
                        refine T_getR (t' := 36) (i' := 0) (k' := 0) zk_177_512 rfl rfl rfl vd_35 (pc' := 515) rfl ?_
                        refine T_op zk_177_515 rfl (X_bi (v := 75) (by decide)) (pc' := 517) rfl ?_
                        refine T_ld zk_177_517 rfl rfl rfl (pc' := 519) rfl ?_
                        refine T_op zk_177_519 rfl X_add (pc' := 520) rfl ?_
                        refine T_op zk_177_520 rfl X_ic (pc' := 521) rfl ?_
                        refine G_iast (J' := (fun σ' => IF MLg σ σ' ∧ σ' 36 0 0 634 = n + 1 ∧ σ' 36 0 0 (Int.toNat (75 + x65)) = 0 ∧ True)) (ln := 646) zk_177_521 rfl rfl (vd_36 (by omega)) (by omega) (by omega) (by omega) (fun σ' h => ⟨h.1.up (by simp only [rgP] <;> omega) (by first | exact pMLg rfl | (unfold MLg; omega)), (up_ne (by omega)).trans (h.2.1), up_eq, trivial⟩) (pc' := 522) rfl ?_
                        refine T_iinc (L' := [(0, av 35 0 0), (1, iv p0), (2, iv x11), (3, iv x18), (4, iv ((n + 1) / 96)), (5, iv (x65 + 1))]) zk_177_522 (nL := 6) rfl rfl rfl rfl (pc' := 525) rfl ?_
                        refine T_goto zk_177_525 ?_
                        refine G_know (J' := (fun σ' => IF MLg σ σ' ∧ σ' 36 0 0 634 = n + 1 ∧ True)) (fun σ' h => ⟨h.1, h.2.1, trivial⟩) ?_
                        exact ih66 (x65 + 1) (by omega) (by omega)
                      ·
                        refine T_ld zk_177_498 rfl rfl rfl (pc' := 499) rfl ?_
                        refine T_getR (t' := 36) (i' := 0) (k' := 0) zk_177_499 rfl rfl rfl vd_35 (pc' := 502) rfl ?_
                        refine T_op zk_177_502 rfl X_ic (pc' := 503) rfl ?_
                        refine T_ld zk_177_503 rfl rfl rfl (pc' := 505) rfl ?_
                        refine T_op zk_177_505 rfl X_add (pc' := 506) rfl ?_
                        refine T_op (st' := [iv (0 + x65), av 36 0 0, iv (0 + x65), av 36 0 0]) zk_177_506 rfl rfl (pc' := 507) rfl ?_
                        refine G_iald (lo := -2147483648) (hi := 2147483647) (ln := 646) zk_177_507 rfl rfl (vd_36 (by omega)) (by omega) (by omega) (by omega) (fun σ' h => h.1.1) (fun _ h => (by have q := h.1; omega)) (pc' := 508) rfl (fun y91 hy91 hy91' => ?_)
                        refine T_op zk_177_508 rfl X_ic (pc' := 509) rfl ?_
                        refine G_unk zk_177_509 rfl (pc' := 510) rfl (fun y92 hy92 hy92' => ?_)
                        refine G_iast (J' := (fun σ' => IF MLg σ σ' ∧ σ' 36 0 0 634 = n + 1 ∧ σ' 36 0 0 (Int.toNat (0 + x65)) = y92 ∧ True)) (ln := 646) zk_177_510 rfl rfl (vd_36 (by omega)) (by omega) (by omega) (by omega) (fun σ' h => ⟨h.1.up (by simp only [rgP] <;> omega) (by first | exact pMLg rfl | (unfold MLg; omega)), (up_ne (by omega)).trans (h.2.1), up_eq, trivial⟩) (pc' := 511) rfl ?_
                        refine T_ld zk_177_511 rfl rfl rfl (pc' := 512) rfl ?_
                        refine T_getR (t' := 36) (i' := 0) (k' := 0) zk_177_512 rfl rfl rfl vd_35 (pc' := 515) rfl ?_
                        refine T_op zk_177_515 rfl (X_bi (v := 75) (by decide)) (pc' := 517) rfl ?_
                        refine T_ld zk_177_517 rfl rfl rfl (pc' := 519) rfl ?_
                        refine T_op zk_177_519 rfl X_add (pc' := 520) rfl ?_
                        refine T_op zk_177_520 rfl X_ic (pc' := 521) rfl ?_
                        refine G_iast (J' := (fun σ' => IF MLg σ σ' ∧ σ' 36 0 0 634 = n + 1 ∧ σ' 36 0 0 (Int.toNat (75 + x65)) = 0 ∧ True)) (ln := 646) zk_177_521 rfl rfl (vd_36 (by omega)) (by omega) (by omega) (by omega) (fun σ' h => ⟨h.1.up (by simp only [rgP] <;> omega) (by first | exact pMLg rfl | (unfold MLg; omega)), (up_ne (by omega)).trans (h.2.1), up_eq, trivial⟩) (pc' := 522) rfl ?_
                        refine T_iinc (L' := [(0, av 35 0 0), (1, iv p0), (2, iv x11), (3, iv x18), (4, iv ((n + 1) / 96)), (5, iv (x65 + 1))]) zk_177_522 (nL := 6) rfl rfl rfl rfl (pc' := 525) rfl ?_
                        refine T_goto zk_177_525 ?_
                        refine G_know (J' := (fun σ' => IF MLg σ σ' ∧ σ' 36 0 0 634 = n + 1 ∧ True)) (fun σ' h => ⟨h.1, h.2.1, trivial⟩) ?_
                        exact ih66 (x65 + 1) (by omega) (by omega)
                ·
                  exact T_vret zk_177_441 rfl (fun σ' h => ⟨rfl, h.1, ⟨h.2.1, trivial⟩⟩)
              ·
                refine T_ld zk_177_403 rfl rfl rfl (pc' := 404) rfl ?_
                refine T_getR (t' := 36) (i' := 0) (k' := 0) zk_177_404 rfl rfl rfl vd_35 (pc' := 407) rfl ?_
                refine T_op zk_177_407 rfl (X_si (v := 644) (by decide)) (pc' := 410) rfl ?_
                refine T_op (st' := [iv 644, av 36 0 0, iv 644, av 36 0 0]) zk_177_410 rfl rfl (pc' := 411) rfl ?_
                refine G_iald (lo := -2147483648) (hi := 2147483647) (ln := 646) zk_177_411 rfl rfl (vd_36 (by omega)) (by omega) (by omega) (by omega) (fun σ' h => h.1.1) (fun _ h => (by have q := h.1; omega)) (pc' := 412) rfl (fun y93 hy93 hy93' => ?_)
                refine T_op zk_177_412 rfl X_ic (pc' := 413) rfl ?_
                refine G_unk zk_177_413 rfl (pc' := 414) rfl (fun y94 hy94 hy94' => ?_)
                refine G_iast (J' := (fun σ' => IF MLg σ σ' ∧ σ' 36 0 0 634 = n ∧ σ' 36 0 0 644 = y94 ∧ True)) (ln := 646) zk_177_414 rfl rfl (vd_36 (by omega)) (by omega) (by omega) (by omega) (fun σ' h => ⟨h.1.up (by simp only [rgP] <;> omega) (by first | exact pMLg rfl | (unfold MLg; omega)), (up_ne (by omega)).trans (h.2.1), up_eq, trivial⟩) (pc' := 415) rfl ?_
                refine T_ld zk_177_415 rfl rfl rfl (pc' := 416) rfl ?_
                refine T_getR (t' := 36) (i' := 0) (k' := 0) zk_177_416 rfl rfl rfl vd_35 (pc' := 419) rfl ?_
                refine T_op zk_177_419 rfl (X_si (v := 634) (by decide)) (pc' := 422) rfl ?_
                refine T_op (st' := [iv 634, av 36 0 0, iv 634, av 36 0 0]) zk_177_422 rfl rfl (pc' := 423) rfl ?_
                refine G_ialdX (w := n) (ln := 646) zk_177_423 rfl rfl (vd_36 (by omega)) (by omega) (by omega) (by omega) (fun σ' h => h.2.1) (pc' := 424) rfl ?_
                refine T_op zk_177_424 rfl X_ic (pc' := 425) rfl ?_
                refine T_op zk_177_425 rfl X_add (pc' := 426) rfl ?_
                refine G_iast (J' := (fun σ' => IF MLg σ σ' ∧ σ' 36 0 0 644 = y94 ∧ σ' 36 0 0 634 = n + 1 ∧ True)) (ln := 646) zk_177_426 rfl rfl (vd_36 (by omega)) (by omega) (by omega) (by omega) (fun σ' h => ⟨h.1.up (by simp only [rgP] <;> omega) (by first | exact pMLg rfl | (unfold MLg; omega)), (up_ne (by omega)).trans (h.2.2.1), up_eq, trivial⟩) (pc' := 427) rfl ?_
                refine T_ld zk_177_427 rfl rfl rfl (pc' := 428) rfl ?_
                refine T_getR (t' := 36) (i' := 0) (k' := 0) zk_177_428 rfl rfl rfl vd_35 (pc' := 431) rfl ?_
                refine T_op zk_177_431 rfl (X_si (v := 634) (by decide)) (pc' := 434) rfl ?_
                refine G_ialdX (w := n + 1) (ln := 646) zk_177_434 rfl rfl (vd_36 (by omega)) (by omega) (by omega) (by omega) (fun σ' h => h.2.2.1) (pc' := 435) rfl ?_
                refine T_op zk_177_435 rfl (X_bi (v := 96) (by decide)) (pc' := 437) rfl ?_
                refine T_op zk_177_437 rfl (X_rem (by omega) (by omega)) (pc' := 438) rfl ?_
                refine T_if_eq zk_177_438 (by omega) (pc' := 441) rfl (fun h95 => ?_) (fun h96 => ?_)
                ·
                  refine T_ld zk_177_442 rfl rfl rfl (pc' := 443) rfl ?_
                  refine T_getR (t' := 36) (i' := 0) (k' := 0) zk_177_443 rfl rfl rfl vd_35 (pc' := 446) rfl ?_
                  refine T_op zk_177_446 rfl (X_si (v := 634) (by decide)) (pc' := 449) rfl ?_
                  refine G_ialdX (w := n + 1) (ln := 646) zk_177_449 rfl rfl (vd_36 (by omega)) (by omega) (by omega) (by omega) (fun σ' h => h.2.2.1) (pc' := 450) rfl ?_
                  refine T_op zk_177_450 rfl (X_bi (v := 96) (by decide)) (pc' := 452) rfl ?_
                  refine T_op zk_177_452 rfl (X_div (by omega) (by omega)) (pc' := 453) rfl ?_
                  refine T_st (L' := [(0, av 35 0 0), (1, iv p0), (2, iv x11), (3, iv x18), (4, iv ((n + 1) / 96))]) zk_177_453 (nL := 6) rfl rfl rfl rfl rfl (pc' := 455) rfl ?_
                  refine T_op zk_177_455 rfl X_ic (pc' := 456) rfl ?_
                  refine T_st (L' := [(0, av 35 0 0), (1, iv p0), (2, iv x11), (3, iv x18), (4, iv ((n + 1) / 96)), (5, iv 0)]) zk_177_456 (nL := 6) rfl rfl rfl rfl rfl (pc' := 458) rfl ?_
                  refine G_know (J' := (fun σ' => IF MLg σ σ' ∧ σ' 36 0 0 634 = n + 1 ∧ True)) (fun σ' h => ⟨h.1, h.2.2.1, trivial⟩) ?_
                  refine T_loop1 (fun x97 => ((25 - x97 : Int)).toNat) (fun x97 => (0 ≤ x97 ∧ x97 ≤ 25)) (fun x97 => TJ xs (fun σ' => IF MLg σ σ' ∧ σ' 36 0 0 634 = n + 1 ∧ True) 5 177 458 [(0, av 35 0 0), (1, iv p0), (2, iv x11), (3, iv x18), (4, iv ((n + 1) / 96)), (5, iv x97)] [] _) ?_ 0 (by omega)
                  intro x97 hp99 ih98
                  refine T_ld zk_177_458 rfl rfl rfl (pc' := 460) rfl ?_
                  refine T_op zk_177_460 rfl (X_bi (v := 25) (by decide)) (pc' := 462) rfl ?_
                  refine T_icmp_ge zk_177_462 (by omega) (by omega) (pc' := 465) rfl (fun h100 => ?_) (fun h101 => ?_)
                  ·
                    refine T_op zk_177_528 rfl X_ic (pc' := 529) rfl ?_
                    refine T_st (L' := [(0, av 35 0 0), (1, iv p0), (2, iv x11), (3, iv x18), (4, iv ((n + 1) / 96)), (5, iv 0)]) zk_177_529 (nL := 6) rfl rfl rfl rfl rfl (pc' := 531) rfl ?_
                    refine T_loop1 (fun x102 => ((12 - x102 : Int)).toNat) (fun x102 => (0 ≤ x102 ∧ x102 ≤ 12)) (fun x102 => TJ xs (fun σ' => IF MLg σ σ' ∧ σ' 36 0 0 634 = n + 1 ∧ True) 5 177 531 [(0, av 35 0 0), (1, iv p0), (2, iv x11), (3, iv x18), (4, iv ((n + 1) / 96)), (5, iv x102)] [] _) ?_ 0 (by omega)
                    intro x102 hp104 ih103
                    refine T_ld zk_177_531 rfl rfl rfl (pc' := 533) rfl ?_
                    refine T_ld zk_177_533 rfl rfl rfl (pc' := 534) rfl ?_
                    refine T_getR (t' := 36) (i' := 0) (k' := 0) zk_177_534 rfl rfl rfl vd_35 (pc' := 537) rfl ?_
                    refine T_op zk_177_537 rfl (X_si (v := 641) (by decide)) (pc' := 540) rfl ?_
                    refine G_iald (lo := 0) (hi := 12) (ln := 646) zk_177_540 rfl rfl (vd_36 (by omega)) (by omega) (by omega) (by omega) (fun σ' h => h.1.1) (fun _ h => h.2.2.2.2.2.2.2.2.2.2.2.2.1 (by omega) (by omega)) (pc' := 541) rfl (fun y105 hy105 hy105' => ?_)
                    refine T_icmp_ge zk_177_541 (by omega) (by omega) (pc' := 544) rfl (fun h106 => ?_) (fun h107 => ?_)
                    ·
                      exact T_vret zk_177_596 rfl (fun σ' h => ⟨rfl, h.1, ⟨h.2.1, trivial⟩⟩)
                    ·
                      refine T_ld zk_177_544 rfl rfl rfl (pc' := 545) rfl ?_
                      refine T_getR (t' := 36) (i' := 0) (k' := 0) zk_177_545 rfl rfl rfl vd_35 (pc' := 548) rfl ?_
                      refine T_op zk_177_548 rfl (X_si (v := 484) (by decide)) (pc' := 551) rfl ?_
                      refine T_ld zk_177_551 rfl rfl rfl (pc' := 553) rfl ?_
                      refine T_op zk_177_553 rfl X_add (pc' := 554) rfl ?_
                      refine G_learn (t := 36) (i := 0) (k := 0) (j := Int.toNat (484 + x102)) (lo := -2147483648) (hi := 2147483647) (J2 := fun y108 => (fun σ' => IF MLg σ σ' ∧ σ' 36 0 0 634 = n + 1 ∧ σ' 36 0 0 (Int.toNat (484 + x102)) = y108 ∧ True)) (vd_36 (by omega)) (fun σ' h => h.1.1) (fun _ h => (by have q := h.1; omega)) (fun σ' y h hy => ⟨h.1, h.2.1, hy, trivial⟩) (fun y108 hy108 hy108' => ?_)
                      refine G_ialdX (w := y108) (ln := 646) zk_177_554 rfl rfl (vd_36 (by omega)) (by omega) (by omega) (by omega) (fun σ' h => h.2.2.1) (pc' := 555) rfl ?_
                      refine T_if_le zk_177_555 (by omega) (pc' := 558) rfl (fun h109 => ?_) (fun h110 => ?_)
                      ·
                        refine T_iinc (L' := [(0, av 35 0 0), (1, iv p0), (2, iv x11), (3, iv x18), (4, iv ((n + 1) / 96)), (5, iv (x102 + 1))]) zk_177_590 (nL := 6) rfl rfl rfl rfl (pc' := 593) rfl ?_
                        refine T_goto zk_177_593 ?_
                        refine G_know (J' := (fun σ' => IF MLg σ σ' ∧ σ' 36 0 0 634 = n + 1 ∧ True)) (fun σ' h => ⟨h.1, h.2.1, trivial⟩) ?_
                        exact ih103 (x102 + 1) (by omega) (by omega)
                      ·
                        refine T_ld zk_177_558 rfl rfl rfl (pc' := 560) rfl ?_
                        refine T_ld zk_177_560 rfl rfl rfl (pc' := 561) rfl ?_
                        refine T_getR (t' := 36) (i' := 0) (k' := 0) zk_177_561 rfl rfl rfl vd_35 (pc' := 564) rfl ?_
                        refine T_op zk_177_564 rfl (X_si (v := 484) (by decide)) (pc' := 567) rfl ?_
                        refine T_ld zk_177_567 rfl rfl rfl (pc' := 569) rfl ?_
                        refine T_op zk_177_569 rfl X_add (pc' := 570) rfl ?_
                        refine G_ialdX (w := y108) (ln := 646) zk_177_570 rfl rfl (vd_36 (by omega)) (by omega) (by omega) (by omega) (fun σ' h => h.2.2.1) (pc' := 571) rfl ?_
                        refine G_rem zk_177_571 (by omega) (by omega) (pc' := 572) rfl (fun y111 hy111 hy111' => ?_)
                        refine T_if_ne zk_177_572 (by omega) (pc' := 575) rfl (fun h112 => ?_) (fun h113 => ?_)
                        ·
                          refine T_iinc (L' := [(0, av 35 0 0), (1, iv p0), (2, iv x11), (3, iv x18), (4, iv ((n + 1) / 96)), (5, iv (x102 + 1))]) zk_177_590 (nL := 6) rfl rfl rfl rfl (pc' := 593) rfl ?_
                          refine T_goto zk_177_593 ?_
                          refine G_know (J' := (fun σ' => IF MLg σ σ' ∧ σ' 36 0 0 634 = n + 1 ∧ True)) (fun σ' h => ⟨h.1, h.2.1, trivial⟩) ?_
                          exact ih103 (x102 + 1) (by omega) (by omega)
                        ·
                          refine T_ld zk_177_575 rfl rfl rfl (pc' := 576) rfl ?_
                          refine T_getR (t' := 36) (i' := 0) (k' := 0) zk_177_576 rfl rfl rfl vd_35 (pc' := 579) rfl ?_
                          refine T_op zk_177_579 rfl (X_si (v := 508) (by decide)) (pc' := 582) rfl ?_
                          refine T_ld zk_177_582 rfl rfl rfl (pc' := 584) rfl ?_
                          refine T_op zk_177_584 rfl X_add (pc' := 585) rfl ?_
                          refine T_op (st' := [iv (508 + x102), av 36 0 0, iv (508 + x102), av 36 0 0]) zk_177_585 rfl rfl (pc' := 586) rfl ?_
                          refine G_iald (lo := -2147483648) (hi := 2147483647) (ln := 646) zk_177_586 rfl rfl (vd_36 (by omega)) (by omega) (by omega) (by omega) (fun σ' h => h.1.1) (fun _ h => (by have q := h.1; omega)) (pc' := 587) rfl (fun y114 hy114 hy114' => ?_)
                          refine T_op zk_177_587 rfl X_ic (pc' := 588) rfl ?_
                          refine G_unk zk_177_588 rfl (pc' := 589) rfl (fun y115 hy115 hy115' => ?_)
                          refine G_iast (J' := (fun σ' => IF MLg σ σ' ∧ σ' 36 0 0 634 = n + 1 ∧ σ' 36 0 0 (Int.toNat (508 + x102)) = y115 ∧ True)) (ln := 646) zk_177_589 rfl rfl (vd_36 (by omega)) (by omega) (by omega) (by omega) (fun σ' h => ⟨h.1.up (by simp only [rgP] <;> omega) (by first | exact pMLg rfl | (unfold MLg; omega)), (up_ne (by omega)).trans (h.2.1), up_eq, trivial⟩) (pc' := 590) rfl ?_
                          refine T_iinc (L' := [(0, av 35 0 0), (1, iv p0), (2, iv x11), (3, iv x18), (4, iv ((n + 1) / 96)), (5, iv (x102 + 1))]) zk_177_590 (nL := 6) rfl rfl rfl rfl (pc' := 593) rfl ?_
                          refine T_goto zk_177_593 ?_
                          refine G_know (J' := (fun σ' => IF MLg σ σ' ∧ σ' 36 0 0 634 = n + 1 ∧ True)) (fun σ' h => ⟨h.1, h.2.1, trivial⟩) ?_
                          exact ih103 (x102 + 1) (by omega) (by omega)
                  ·
                    refine T_ld zk_177_465 rfl rfl rfl (pc' := 466) rfl ?_
                    refine T_getR (t' := 36) (i' := 0) (k' := 0) zk_177_466 rfl rfl rfl vd_35 (pc' := 469) rfl ?_
                    refine T_op zk_177_469 rfl (X_bi (v := 75) (by decide)) (pc' := 471) rfl ?_
                    refine T_ld zk_177_471 rfl rfl rfl (pc' := 473) rfl ?_
                    refine T_op zk_177_473 rfl X_add (pc' := 474) rfl ?_
                    refine G_iald (lo := -2147483648) (hi := 2147483647) (ln := 646) zk_177_474 rfl rfl (vd_36 (by omega)) (by omega) (by omega) (by omega) (fun σ' h => h.1.1) (fun _ h => (by have q := h.1; omega)) (pc' := 475) rfl (fun y116 hy116 hy116' => ?_)
                    refine T_ld zk_177_475 rfl rfl rfl (pc' := 476) rfl ?_
                    refine T_getR (t' := 36) (i' := 0) (k' := 0) zk_177_476 rfl rfl rfl vd_35 (pc' := 479) rfl ?_
                    refine T_op zk_177_479 rfl (X_si (v := 639) (by decide)) (pc' := 482) rfl ?_
                    refine G_iald (lo := 0) (hi := 9999) (ln := 646) zk_177_482 rfl rfl (vd_36 (by omega)) (by omega) (by omega) (by omega) (fun σ' h => h.1.1) (fun _ h => h.2.2.2.2.2.2.2.2.2.2.1 (by omega) (by omega)) (pc' := 483) rfl (fun y117 hy117 hy117' => ?_)
                    refine T_icmp_ge zk_177_483 (by omega) (by omega) (pc' := 486) rfl (fun h118 => ?_) (fun h119 => ?_)
                    ·
                      refine T_ld zk_177_511 rfl rfl rfl (pc' := 512) rfl ?_
                      refine T_getR (t' := 36) (i' := 0) (k' := 0) zk_177_512 rfl rfl rfl vd_35 (pc' := 515) rfl ?_
                      refine T_op zk_177_515 rfl (X_bi (v := 75) (by decide)) (pc' := 517) rfl ?_
                      refine T_ld zk_177_517 rfl rfl rfl (pc' := 519) rfl ?_
                      refine T_op zk_177_519 rfl X_add (pc' := 520) rfl ?_
                      refine T_op zk_177_520 rfl X_ic (pc' := 521) rfl ?_
                      refine G_iast (J' := (fun σ' => IF MLg σ σ' ∧ σ' 36 0 0 634 = n + 1 ∧ σ' 36 0 0 (Int.toNat (75 + x97)) = 0 ∧ True)) (ln := 646) zk_177_521 rfl rfl (vd_36 (by omega)) (by omega) (by omega) (by omega) (fun σ' h => ⟨h.1.up (by simp only [rgP] <;> omega) (by first | exact pMLg rfl | (unfold MLg; omega)), (up_ne (by omega)).trans (h.2.1), up_eq, trivial⟩) (pc' := 522) rfl ?_
                      refine T_iinc (L' := [(0, av 35 0 0), (1, iv p0), (2, iv x11), (3, iv x18), (4, iv ((n + 1) / 96)), (5, iv (x97 + 1))]) zk_177_522 (nL := 6) rfl rfl rfl rfl (pc' := 525) rfl ?_
                      refine T_goto zk_177_525 ?_
                      refine G_know (J' := (fun σ' => IF MLg σ σ' ∧ σ' 36 0 0 634 = n + 1 ∧ True)) (fun σ' h => ⟨h.1, h.2.1, trivial⟩) ?_
                      exact ih98 (x97 + 1) (by omega) (by omega)
                    ·
                      refine T_ld zk_177_486 rfl rfl rfl (pc' := 487) rfl ?_
                      refine T_getR (t' := 36) (i' := 0) (k' := 0) zk_177_487 rfl rfl rfl vd_35 (pc' := 490) rfl ?_
                      refine T_op zk_177_490 rfl X_ic (pc' := 491) rfl ?_
                      refine T_ld zk_177_491 rfl rfl rfl (pc' := 493) rfl ?_
                      refine T_op zk_177_493 rfl X_add (pc' := 494) rfl ?_
                      refine G_iald (lo := -2147483648) (hi := 2147483647) (ln := 646) zk_177_494 rfl rfl (vd_36 (by omega)) (by omega) (by omega) (by omega) (fun σ' h => h.1.1) (fun _ h => (by have q := h.1; omega)) (pc' := 495) rfl (fun y120 hy120 hy120' => ?_)
                      refine T_if_le zk_177_495 (by omega) (pc' := 498) rfl (fun h121 => ?_) (fun h122 => ?_)
                      ·
                        refine T_ld zk_177_511 rfl rfl rfl (pc' := 512) rfl ?_
                        refine T_getR (t' := 36) (i' := 0) (k' := 0) zk_177_512 rfl rfl rfl vd_35 (pc' := 515) rfl ?_
                        refine T_op zk_177_515 rfl (X_bi (v := 75) (by decide)) (pc' := 517) rfl ?_
                        refine T_ld zk_177_517 rfl rfl rfl (pc' := 519) rfl ?_
                        refine T_op zk_177_519 rfl X_add (pc' := 520) rfl ?_
                        refine T_op zk_177_520 rfl X_ic (pc' := 521) rfl ?_
                        refine G_iast (J' := (fun σ' => IF MLg σ σ' ∧ σ' 36 0 0 634 = n + 1 ∧ σ' 36 0 0 (Int.toNat (75 + x97)) = 0 ∧ True)) (ln := 646) zk_177_521 rfl rfl (vd_36 (by omega)) (by omega) (by omega) (by omega) (fun σ' h => ⟨h.1.up (by simp only [rgP] <;> omega) (by first | exact pMLg rfl | (unfold MLg; omega)), (up_ne (by omega)).trans (h.2.1), up_eq, trivial⟩) (pc' := 522) rfl ?_
                        refine T_iinc (L' := [(0, av 35 0 0), (1, iv p0), (2, iv x11), (3, iv x18), (4, iv ((n + 1) / 96)), (5, iv (x97 + 1))]) zk_177_522 (nL := 6) rfl rfl rfl rfl (pc' := 525) rfl ?_
                        refine T_goto zk_177_525 ?_
                        refine G_know (J' := (fun σ' => IF MLg σ σ' ∧ σ' 36 0 0 634 = n + 1 ∧ True)) (fun σ' h => ⟨h.1, h.2.1, trivial⟩) ?_
                        exact ih98 (x97 + 1) (by omega) (by omega)
                      ·
                        refine T_ld zk_177_498 rfl rfl rfl (pc' := 499) rfl ?_
                        refine T_getR (t' := 36) (i' := 0) (k' := 0) zk_177_499 rfl rfl rfl vd_35 (pc' := 502) rfl ?_
                        refine T_op zk_177_502 rfl X_ic (pc' := 503) rfl ?_
                        refine T_ld zk_177_503 rfl rfl rfl (pc' := 505) rfl ?_
                        refine T_op zk_177_505 rfl X_add (pc' := 506) rfl ?_
                        refine T_op (st' := [iv (0 + x97), av 36 0 0, iv (0 + x97), av 36 0 0]) zk_177_506 rfl rfl (pc' := 507) rfl ?_
                        refine G_iald (lo := -2147483648) (hi := 2147483647) (ln := 646) zk_177_507 rfl rfl (vd_36 (by omega)) (by omega) (by omega) (by omega) (fun σ' h => h.1.1) (fun _ h => (by have q := h.1; omega)) (pc' := 508) rfl (fun y123 hy123 hy123' => ?_)
                        refine T_op zk_177_508 rfl X_ic (pc' := 509) rfl ?_
                        refine G_unk zk_177_509 rfl (pc' := 510) rfl (fun y124 hy124 hy124' => ?_)
                        refine G_iast (J' := (fun σ' => IF MLg σ σ' ∧ σ' 36 0 0 634 = n + 1 ∧ σ' 36 0 0 (Int.toNat (0 + x97)) = y124 ∧ True)) (ln := 646) zk_177_510 rfl rfl (vd_36 (by omega)) (by omega) (by omega) (by omega) (fun σ' h => ⟨h.1.up (by simp only [rgP] <;> omega) (by first | exact pMLg rfl | (unfold MLg; omega)), (up_ne (by omega)).trans (h.2.1), up_eq, trivial⟩) (pc' := 511) rfl ?_
                        refine T_ld zk_177_511 rfl rfl rfl (pc' := 512) rfl ?_
                        refine T_getR (t' := 36) (i' := 0) (k' := 0) zk_177_512 rfl rfl rfl vd_35 (pc' := 515) rfl ?_
                        refine T_op zk_177_515 rfl (X_bi (v := 75) (by decide)) (pc' := 517) rfl ?_
                        refine T_ld zk_177_517 rfl rfl rfl (pc' := 519) rfl ?_
                        refine T_op zk_177_519 rfl X_add (pc' := 520) rfl ?_
                        refine T_op zk_177_520 rfl X_ic (pc' := 521) rfl ?_
                        refine G_iast (J' := (fun σ' => IF MLg σ σ' ∧ σ' 36 0 0 634 = n + 1 ∧ σ' 36 0 0 (Int.toNat (75 + x97)) = 0 ∧ True)) (ln := 646) zk_177_521 rfl rfl (vd_36 (by omega)) (by omega) (by omega) (by omega) (fun σ' h => ⟨h.1.up (by simp only [rgP] <;> omega) (by first | exact pMLg rfl | (unfold MLg; omega)), (up_ne (by omega)).trans (h.2.1), up_eq, trivial⟩) (pc' := 522) rfl ?_
                        refine T_iinc (L' := [(0, av 35 0 0), (1, iv p0), (2, iv x11), (3, iv x18), (4, iv ((n + 1) / 96)), (5, iv (x97 + 1))]) zk_177_522 (nL := 6) rfl rfl rfl rfl (pc' := 525) rfl ?_
                        refine T_goto zk_177_525 ?_
                        refine G_know (J' := (fun σ' => IF MLg σ σ' ∧ σ' 36 0 0 634 = n + 1 ∧ True)) (fun σ' h => ⟨h.1, h.2.1, trivial⟩) ?_
                        exact ih98 (x97 + 1) (by omega) (by omega)
                ·
                  exact T_vret zk_177_441 rfl (fun σ' h => ⟨rfl, h.1, ⟨h.2.2.1, trivial⟩⟩)
          ·
            refine T_ld zk_177_363 rfl rfl rfl (pc' := 364) rfl ?_
            refine T_if_ne zk_177_364 (by omega) (pc' := 367) rfl (fun h125 => ?_) (fun h126 => ?_)
            ·
              refine T_ld zk_177_379 rfl rfl rfl (pc' := 380) rfl ?_
              refine T_if_eq zk_177_380 (by omega) (pc' := 383) rfl (fun h127 => ?_) (fun h128 => ?_)
              · exfalso; omega
              ·
                refine T_ld zk_177_383 rfl rfl rfl (pc' := 384) rfl ?_
                refine T_ld zk_177_384 rfl rfl rfl (pc' := 385) rfl ?_
                refine T_getR (t' := 36) (i' := 0) (k' := 0) zk_177_385 rfl rfl rfl vd_35 (pc' := 388) rfl ?_
                refine T_op zk_177_388 rfl (X_si (v := 634) (by decide)) (pc' := 391) rfl ?_
                refine G_ialdX (w := n) (ln := 646) zk_177_391 rfl rfl (vd_36 (by omega)) (by omega) (by omega) (by omega) (fun σ' h => h.2.1) (pc' := 392) rfl ?_
                refine T_ld zk_177_392 rfl rfl rfl (pc' := 393) rfl ?_
                refine T_calli (K := fun y129 σ' => (-2147483648 ≤ y129 ∧ y129 ≤ 2147483647) ∧ (fun σ' => IF MLg σ σ' ∧ σ' 36 0 0 634 = n ∧ True) σ') (r := []) zk_177_393 rfl rfl rfl rfl rfl rfl (Or.inr ⟨_, _, _, _, rfl, vd_35, rfl⟩) (fun σ' h => (m_145 n p0 (by omega) (by omega) σ' h.1.1 ).le (Nat.le_of_ble_eq_true rfl) (fun v σ2 ⟨y, h1, h2, h3, h4⟩ => ⟨y, h1, h2, h.1.tr h3 MN_sub, (h3.2 _ _ _ _ (fun q => q)).trans (h.2.1), trivial⟩)) (pc' := 396) rfl (fun y129 => ?_)
                refine G_ex (fun hy129 => ?_)
                refine T_ld zk_177_396 rfl rfl rfl (pc' := 397) rfl ?_
                refine G_getf (lo := -2147483648) (hi := 2147483647) zk_177_397 rfl vd_35 (fun σ' h => h.1.1) (fun _ h => (by have q := h.1; omega)) (pc' := 400) rfl (fun y130 hy130 hy130' => ?_)
                refine T_icmp_gt zk_177_400 (by omega) (by omega) (pc' := 403) rfl (fun h131 => ?_) (fun h132 => ?_)
                ·
                  refine T_ld zk_177_415 rfl rfl rfl (pc' := 416) rfl ?_
                  refine T_getR (t' := 36) (i' := 0) (k' := 0) zk_177_416 rfl rfl rfl vd_35 (pc' := 419) rfl ?_
                  refine T_op zk_177_419 rfl (X_si (v := 634) (by decide)) (pc' := 422) rfl ?_
                  refine T_op (st' := [iv 634, av 36 0 0, iv 634, av 36 0 0]) zk_177_422 rfl rfl (pc' := 423) rfl ?_
                  refine G_ialdX (w := n) (ln := 646) zk_177_423 rfl rfl (vd_36 (by omega)) (by omega) (by omega) (by omega) (fun σ' h => h.2.1) (pc' := 424) rfl ?_
                  refine T_op zk_177_424 rfl X_ic (pc' := 425) rfl ?_
                  refine T_op zk_177_425 rfl X_add (pc' := 426) rfl ?_
                  refine G_iast (J' := (fun σ' => IF MLg σ σ' ∧ σ' 36 0 0 634 = n + 1 ∧ True)) (ln := 646) zk_177_426 rfl rfl (vd_36 (by omega)) (by omega) (by omega) (by omega) (fun σ' h => ⟨h.1.up (by simp only [rgP] <;> omega) (by first | exact pMLg rfl | (unfold MLg; omega)), up_eq, trivial⟩) (pc' := 427) rfl ?_
                  refine T_ld zk_177_427 rfl rfl rfl (pc' := 428) rfl ?_
                  refine T_getR (t' := 36) (i' := 0) (k' := 0) zk_177_428 rfl rfl rfl vd_35 (pc' := 431) rfl ?_
                  refine T_op zk_177_431 rfl (X_si (v := 634) (by decide)) (pc' := 434) rfl ?_
                  refine G_ialdX (w := n + 1) (ln := 646) zk_177_434 rfl rfl (vd_36 (by omega)) (by omega) (by omega) (by omega) (fun σ' h => h.2.1) (pc' := 435) rfl ?_
                  refine T_op zk_177_435 rfl (X_bi (v := 96) (by decide)) (pc' := 437) rfl ?_
                  refine T_op zk_177_437 rfl (X_rem (by omega) (by omega)) (pc' := 438) rfl ?_
                  refine T_if_eq zk_177_438 (by omega) (pc' := 441) rfl (fun h133 => ?_) (fun h134 => ?_)
                  ·
                    refine T_ld zk_177_442 rfl rfl rfl (pc' := 443) rfl ?_
                    refine T_getR (t' := 36) (i' := 0) (k' := 0) zk_177_443 rfl rfl rfl vd_35 (pc' := 446) rfl ?_
                    refine T_op zk_177_446 rfl (X_si (v := 634) (by decide)) (pc' := 449) rfl ?_
                    refine G_ialdX (w := n + 1) (ln := 646) zk_177_449 rfl rfl (vd_36 (by omega)) (by omega) (by omega) (by omega) (fun σ' h => h.2.1) (pc' := 450) rfl ?_
                    refine T_op zk_177_450 rfl (X_bi (v := 96) (by decide)) (pc' := 452) rfl ?_
                    refine T_op zk_177_452 rfl (X_div (by omega) (by omega)) (pc' := 453) rfl ?_
                    refine T_st (L' := [(0, av 35 0 0), (1, iv p0), (2, iv x11), (3, iv x18), (4, iv ((n + 1) / 96))]) zk_177_453 (nL := 6) rfl rfl rfl rfl rfl (pc' := 455) rfl ?_
                    refine T_op zk_177_455 rfl X_ic (pc' := 456) rfl ?_
                    refine T_st (L' := [(0, av 35 0 0), (1, iv p0), (2, iv x11), (3, iv x18), (4, iv ((n + 1) / 96)), (5, iv 0)]) zk_177_456 (nL := 6) rfl rfl rfl rfl rfl (pc' := 458) rfl ?_
                    refine T_loop1 (fun x135 => ((25 - x135 : Int)).toNat) (fun x135 => (0 ≤ x135 ∧ x135 ≤ 25)) (fun x135 => TJ xs (fun σ' => IF MLg σ σ' ∧ σ' 36 0 0 634 = n + 1 ∧ True) 5 177 458 [(0, av 35 0 0), (1, iv p0), (2, iv x11), (3, iv x18), (4, iv ((n + 1) / 96)), (5, iv x135)] [] _) ?_ 0 (by omega)
                    intro x135 hp137 ih136
                    refine T_ld zk_177_458 rfl rfl rfl (pc' := 460) rfl ?_
                    refine T_op zk_177_460 rfl (X_bi (v := 25) (by decide)) (pc' := 462) rfl ?_
                    refine T_icmp_ge zk_177_462 (by omega) (by omega) (pc' := 465) rfl (fun h138 => ?_) (fun h139 => ?_)
                    ·
                      refine T_op zk_177_528 rfl X_ic (pc' := 529) rfl ?_
                      refine T_st (L' := [(0, av 35 0 0), (1, iv p0), (2, iv x11), (3, iv x18), (4, iv ((n + 1) / 96)), (5, iv 0)]) zk_177_529 (nL := 6) rfl rfl rfl rfl rfl (pc' := 531) rfl ?_
                      refine T_loop1 (fun x140 => ((12 - x140 : Int)).toNat) (fun x140 => (0 ≤ x140 ∧ x140 ≤ 12)) (fun x140 => TJ xs (fun σ' => IF MLg σ σ' ∧ σ' 36 0 0 634 = n + 1 ∧ True) 5 177 531 [(0, av 35 0 0), (1, iv p0), (2, iv x11), (3, iv x18), (4, iv ((n + 1) / 96)), (5, iv x140)] [] _) ?_ 0 (by omega)
                      intro x140 hp142 ih141
                      refine T_ld zk_177_531 rfl rfl rfl (pc' := 533) rfl ?_
                      refine T_ld zk_177_533 rfl rfl rfl (pc' := 534) rfl ?_
                      refine T_getR (t' := 36) (i' := 0) (k' := 0) zk_177_534 rfl rfl rfl vd_35 (pc' := 537) rfl ?_
                      refine T_op zk_177_537 rfl (X_si (v := 641) (by decide)) (pc' := 540) rfl ?_
                      refine G_iald (lo := 0) (hi := 12) (ln := 646) zk_177_540 rfl rfl (vd_36 (by omega)) (by omega) (by omega) (by omega) (fun σ' h => h.1.1) (fun _ h => h.2.2.2.2.2.2.2.2.2.2.2.2.1 (by omega) (by omega)) (pc' := 541) rfl (fun y143 hy143 hy143' => ?_)
                      refine T_icmp_ge zk_177_541 (by omega) (by omega) (pc' := 544) rfl (fun h144 => ?_) (fun h145 => ?_)
                      ·
                        exact T_vret zk_177_596 rfl (fun σ' h => ⟨rfl, h.1, ⟨h.2.1, trivial⟩⟩)
                      ·
                        refine T_ld zk_177_544 rfl rfl rfl (pc' := 545) rfl ?_
                        refine T_getR (t' := 36) (i' := 0) (k' := 0) zk_177_545 rfl rfl rfl vd_35 (pc' := 548) rfl ?_
                        refine T_op zk_177_548 rfl (X_si (v := 484) (by decide)) (pc' := 551) rfl ?_
                        refine T_ld zk_177_551 rfl rfl rfl (pc' := 553) rfl ?_
                        refine T_op zk_177_553 rfl X_add (pc' := 554) rfl ?_
                        refine G_learn (t := 36) (i := 0) (k := 0) (j := Int.toNat (484 + x140)) (lo := -2147483648) (hi := 2147483647) (J2 := fun y146 => (fun σ' => IF MLg σ σ' ∧ σ' 36 0 0 634 = n + 1 ∧ σ' 36 0 0 (Int.toNat (484 + x140)) = y146 ∧ True)) (vd_36 (by omega)) (fun σ' h => h.1.1) (fun _ h => (by have q := h.1; omega)) (fun σ' y h hy => ⟨h.1, h.2.1, hy, trivial⟩) (fun y146 hy146 hy146' => ?_)
                        refine G_ialdX (w := y146) (ln := 646) zk_177_554 rfl rfl (vd_36 (by omega)) (by omega) (by omega) (by omega) (fun σ' h => h.2.2.1) (pc' := 555) rfl ?_
                        refine T_if_le zk_177_555 (by omega) (pc' := 558) rfl (fun h147 => ?_) (fun h148 => ?_)
                        ·
                          refine T_iinc (L' := [(0, av 35 0 0), (1, iv p0), (2, iv x11), (3, iv x18), (4, iv ((n + 1) / 96)), (5, iv (x140 + 1))]) zk_177_590 (nL := 6) rfl rfl rfl rfl (pc' := 593) rfl ?_
                          refine T_goto zk_177_593 ?_
                          refine G_know (J' := (fun σ' => IF MLg σ σ' ∧ σ' 36 0 0 634 = n + 1 ∧ True)) (fun σ' h => ⟨h.1, h.2.1, trivial⟩) ?_
                          exact ih141 (x140 + 1) (by omega) (by omega)
                        ·
                          refine T_ld zk_177_558 rfl rfl rfl (pc' := 560) rfl ?_
                          refine T_ld zk_177_560 rfl rfl rfl (pc' := 561) rfl ?_
                          refine T_getR (t' := 36) (i' := 0) (k' := 0) zk_177_561 rfl rfl rfl vd_35 (pc' := 564) rfl ?_
                          refine T_op zk_177_564 rfl (X_si (v := 484) (by decide)) (pc' := 567) rfl ?_
                          refine T_ld zk_177_567 rfl rfl rfl (pc' := 569) rfl ?_
                          refine T_op zk_177_569 rfl X_add (pc' := 570) rfl ?_
                          refine G_ialdX (w := y146) (ln := 646) zk_177_570 rfl rfl (vd_36 (by omega)) (by omega) (by omega) (by omega) (fun σ' h => h.2.2.1) (pc' := 571) rfl ?_
                          refine G_rem zk_177_571 (by omega) (by omega) (pc' := 572) rfl (fun y149 hy149 hy149' => ?_)
                          refine T_if_ne zk_177_572 (by omega) (pc' := 575) rfl (fun h150 => ?_) (fun h151 => ?_)
                          ·
                            refine T_iinc (L' := [(0, av 35 0 0), (1, iv p0), (2, iv x11), (3, iv x18), (4, iv ((n + 1) / 96)), (5, iv (x140 + 1))]) zk_177_590 (nL := 6) rfl rfl rfl rfl (pc' := 593) rfl ?_
                            refine T_goto zk_177_593 ?_
                            refine G_know (J' := (fun σ' => IF MLg σ σ' ∧ σ' 36 0 0 634 = n + 1 ∧ True)) (fun σ' h => ⟨h.1, h.2.1, trivial⟩) ?_
                            exact ih141 (x140 + 1) (by omega) (by omega)
                          ·
                            refine T_ld zk_177_575 rfl rfl rfl (pc' := 576) rfl ?_
                            refine T_getR (t' := 36) (i' := 0) (k' := 0) zk_177_576 rfl rfl rfl vd_35 (pc' := 579) rfl ?_
                            refine T_op zk_177_579 rfl (X_si (v := 508) (by decide)) (pc' := 582) rfl ?_
                            refine T_ld zk_177_582 rfl rfl rfl (pc' := 584) rfl ?_
                            refine T_op zk_177_584 rfl X_add (pc' := 585) rfl ?_
                            refine T_op (st' := [iv (508 + x140), av 36 0 0, iv (508 + x140), av 36 0 0]) zk_177_585 rfl rfl (pc' := 586) rfl ?_
                            refine G_iald (lo := -2147483648) (hi := 2147483647) (ln := 646) zk_177_586 rfl rfl (vd_36 (by omega)) (by omega) (by omega) (by omega) (fun σ' h => h.1.1) (fun _ h => (by have q := h.1; omega)) (pc' := 587) rfl (fun y152 hy152 hy152' => ?_)
                            refine T_op zk_177_587 rfl X_ic (pc' := 588) rfl ?_
                            refine G_unk zk_177_588 rfl (pc' := 589) rfl (fun y153 hy153 hy153' => ?_)
                            refine G_iast (J' := (fun σ' => IF MLg σ σ' ∧ σ' 36 0 0 634 = n + 1 ∧ σ' 36 0 0 (Int.toNat (508 + x140)) = y153 ∧ True)) (ln := 646) zk_177_589 rfl rfl (vd_36 (by omega)) (by omega) (by omega) (by omega) (fun σ' h => ⟨h.1.up (by simp only [rgP] <;> omega) (by first | exact pMLg rfl | (unfold MLg; omega)), (up_ne (by omega)).trans (h.2.1), up_eq, trivial⟩) (pc' := 590) rfl ?_
                            refine T_iinc (L' := [(0, av 35 0 0), (1, iv p0), (2, iv x11), (3, iv x18), (4, iv ((n + 1) / 96)), (5, iv (x140 + 1))]) zk_177_590 (nL := 6) rfl rfl rfl rfl (pc' := 593) rfl ?_
                            refine T_goto zk_177_593 ?_
                            refine G_know (J' := (fun σ' => IF MLg σ σ' ∧ σ' 36 0 0 634 = n + 1 ∧ True)) (fun σ' h => ⟨h.1, h.2.1, trivial⟩) ?_
                            exact ih141 (x140 + 1) (by omega) (by omega)
                    ·
                      refine T_ld zk_177_465 rfl rfl rfl (pc' := 466) rfl ?_
                      refine T_getR (t' := 36) (i' := 0) (k' := 0) zk_177_466 rfl rfl rfl vd_35 (pc' := 469) rfl ?_
                      refine T_op zk_177_469 rfl (X_bi (v := 75) (by decide)) (pc' := 471) rfl ?_
                      refine T_ld zk_177_471 rfl rfl rfl (pc' := 473) rfl ?_
                      refine T_op zk_177_473 rfl X_add (pc' := 474) rfl ?_
                      refine G_iald (lo := -2147483648) (hi := 2147483647) (ln := 646) zk_177_474 rfl rfl (vd_36 (by omega)) (by omega) (by omega) (by omega) (fun σ' h => h.1.1) (fun _ h => (by have q := h.1; omega)) (pc' := 475) rfl (fun y154 hy154 hy154' => ?_)
                      refine T_ld zk_177_475 rfl rfl rfl (pc' := 476) rfl ?_
                      refine T_getR (t' := 36) (i' := 0) (k' := 0) zk_177_476 rfl rfl rfl vd_35 (pc' := 479) rfl ?_
                      refine T_op zk_177_479 rfl (X_si (v := 639) (by decide)) (pc' := 482) rfl ?_
                      refine G_iald (lo := 0) (hi := 9999) (ln := 646) zk_177_482 rfl rfl (vd_36 (by omega)) (by omega) (by omega) (by omega) (fun σ' h => h.1.1) (fun _ h => h.2.2.2.2.2.2.2.2.2.2.1 (by omega) (by omega)) (pc' := 483) rfl (fun y155 hy155 hy155' => ?_)
                      refine T_icmp_ge zk_177_483 (by omega) (by omega) (pc' := 486) rfl (fun h156 => ?_) (fun h157 => ?_)
                      ·
                        refine T_ld zk_177_511 rfl rfl rfl (pc' := 512) rfl ?_
                        refine T_getR (t' := 36) (i' := 0) (k' := 0) zk_177_512 rfl rfl rfl vd_35 (pc' := 515) rfl ?_
                        refine T_op zk_177_515 rfl (X_bi (v := 75) (by decide)) (pc' := 517) rfl ?_
                        refine T_ld zk_177_517 rfl rfl rfl (pc' := 519) rfl ?_
                        refine T_op zk_177_519 rfl X_add (pc' := 520) rfl ?_
                        refine T_op zk_177_520 rfl X_ic (pc' := 521) rfl ?_
                        refine G_iast (J' := (fun σ' => IF MLg σ σ' ∧ σ' 36 0 0 634 = n + 1 ∧ σ' 36 0 0 (Int.toNat (75 + x135)) = 0 ∧ True)) (ln := 646) zk_177_521 rfl rfl (vd_36 (by omega)) (by omega) (by omega) (by omega) (fun σ' h => ⟨h.1.up (by simp only [rgP] <;> omega) (by first | exact pMLg rfl | (unfold MLg; omega)), (up_ne (by omega)).trans (h.2.1), up_eq, trivial⟩) (pc' := 522) rfl ?_
                        refine T_iinc (L' := [(0, av 35 0 0), (1, iv p0), (2, iv x11), (3, iv x18), (4, iv ((n + 1) / 96)), (5, iv (x135 + 1))]) zk_177_522 (nL := 6) rfl rfl rfl rfl (pc' := 525) rfl ?_
                        refine T_goto zk_177_525 ?_
                        refine G_know (J' := (fun σ' => IF MLg σ σ' ∧ σ' 36 0 0 634 = n + 1 ∧ True)) (fun σ' h => ⟨h.1, h.2.1, trivial⟩) ?_
                        exact ih136 (x135 + 1) (by omega) (by omega)
                      ·
                        refine T_ld zk_177_486 rfl rfl rfl (pc' := 487) rfl ?_
                        refine T_getR (t' := 36) (i' := 0) (k' := 0) zk_177_487 rfl rfl rfl vd_35 (pc' := 490) rfl ?_
                        refine T_op zk_177_490 rfl X_ic (pc' := 491) rfl ?_
                        refine T_ld zk_177_491 rfl rfl rfl (pc' := 493) rfl ?_
                        refine T_op zk_177_493 rfl X_add (pc' := 494) rfl ?_
                        refine G_iald (lo := -2147483648) (hi := 2147483647) (ln := 646) zk_177_494 rfl rfl (vd_36 (by omega)) (by omega) (by omega) (by omega) (fun σ' h => h.1.1) (fun _ h => (by have q := h.1; omega)) (pc' := 495) rfl (fun y158 hy158 hy158' => ?_)
                        refine T_if_le zk_177_495 (by omega) (pc' := 498) rfl (fun h159 => ?_) (fun h160 => ?_)
                        ·
                          refine T_ld zk_177_511 rfl rfl rfl (pc' := 512) rfl ?_
                          refine T_getR (t' := 36) (i' := 0) (k' := 0) zk_177_512 rfl rfl rfl vd_35 (pc' := 515) rfl ?_
                          refine T_op zk_177_515 rfl (X_bi (v := 75) (by decide)) (pc' := 517) rfl ?_
                          refine T_ld zk_177_517 rfl rfl rfl (pc' := 519) rfl ?_
                          refine T_op zk_177_519 rfl X_add (pc' := 520) rfl ?_
                          refine T_op zk_177_520 rfl X_ic (pc' := 521) rfl ?_
                          refine G_iast (J' := (fun σ' => IF MLg σ σ' ∧ σ' 36 0 0 634 = n + 1 ∧ σ' 36 0 0 (Int.toNat (75 + x135)) = 0 ∧ True)) (ln := 646) zk_177_521 rfl rfl (vd_36 (by omega)) (by omega) (by omega) (by omega) (fun σ' h => ⟨h.1.up (by simp only [rgP] <;> omega) (by first | exact pMLg rfl | (unfold MLg; omega)), (up_ne (by omega)).trans (h.2.1), up_eq, trivial⟩) (pc' := 522) rfl ?_
                          refine T_iinc (L' := [(0, av 35 0 0), (1, iv p0), (2, iv x11), (3, iv x18), (4, iv ((n + 1) / 96)), (5, iv (x135 + 1))]) zk_177_522 (nL := 6) rfl rfl rfl rfl (pc' := 525) rfl ?_
                          refine T_goto zk_177_525 ?_
                          refine G_know (J' := (fun σ' => IF MLg σ σ' ∧ σ' 36 0 0 634 = n + 1 ∧ True)) (fun σ' h => ⟨h.1, h.2.1, trivial⟩) ?_
                          exact ih136 (x135 + 1) (by omega) (by omega)
                        ·
                          refine T_ld zk_177_498 rfl rfl rfl (pc' := 499) rfl ?_
                          refine T_getR (t' := 36) (i' := 0) (k' := 0) zk_177_499 rfl rfl rfl vd_35 (pc' := 502) rfl ?_
                          refine T_op zk_177_502 rfl X_ic (pc' := 503) rfl ?_
                          refine T_ld zk_177_503 rfl rfl rfl (pc' := 505) rfl ?_
                          refine T_op zk_177_505 rfl X_add (pc' := 506) rfl ?_
                          refine T_op (st' := [iv (0 + x135), av 36 0 0, iv (0 + x135), av 36 0 0]) zk_177_506 rfl rfl (pc' := 507) rfl ?_
                          refine G_iald (lo := -2147483648) (hi := 2147483647) (ln := 646) zk_177_507 rfl rfl (vd_36 (by omega)) (by omega) (by omega) (by omega) (fun σ' h => h.1.1) (fun _ h => (by have q := h.1; omega)) (pc' := 508) rfl (fun y161 hy161 hy161' => ?_)
                          refine T_op zk_177_508 rfl X_ic (pc' := 509) rfl ?_
                          refine G_unk zk_177_509 rfl (pc' := 510) rfl (fun y162 hy162 hy162' => ?_)
                          refine G_iast (J' := (fun σ' => IF MLg σ σ' ∧ σ' 36 0 0 634 = n + 1 ∧ σ' 36 0 0 (Int.toNat (0 + x135)) = y162 ∧ True)) (ln := 646) zk_177_510 rfl rfl (vd_36 (by omega)) (by omega) (by omega) (by omega) (fun σ' h => ⟨h.1.up (by simp only [rgP] <;> omega) (by first | exact pMLg rfl | (unfold MLg; omega)), (up_ne (by omega)).trans (h.2.1), up_eq, trivial⟩) (pc' := 511) rfl ?_
                          refine T_ld zk_177_511 rfl rfl rfl (pc' := 512) rfl ?_
                          refine T_getR (t' := 36) (i' := 0) (k' := 0) zk_177_512 rfl rfl rfl vd_35 (pc' := 515) rfl ?_
                          refine T_op zk_177_515 rfl (X_bi (v := 75) (by decide)) (pc' := 517) rfl ?_
                          refine T_ld zk_177_517 rfl rfl rfl (pc' := 519) rfl ?_
                          refine T_op zk_177_519 rfl X_add (pc' := 520) rfl ?_
                          refine T_op zk_177_520 rfl X_ic (pc' := 521) rfl ?_
                          refine G_iast (J' := (fun σ' => IF MLg σ σ' ∧ σ' 36 0 0 634 = n + 1 ∧ σ' 36 0 0 (Int.toNat (75 + x135)) = 0 ∧ True)) (ln := 646) zk_177_521 rfl rfl (vd_36 (by omega)) (by omega) (by omega) (by omega) (fun σ' h => ⟨h.1.up (by simp only [rgP] <;> omega) (by first | exact pMLg rfl | (unfold MLg; omega)), (up_ne (by omega)).trans (h.2.1), up_eq, trivial⟩) (pc' := 522) rfl ?_
                          refine T_iinc (L' := [(0, av 35 0 0), (1, iv p0), (2, iv x11), (3, iv x18), (4, iv ((n + 1) / 96)), (5, iv (x135 + 1))]) zk_177_522 (nL := 6) rfl rfl rfl rfl (pc' := 525) rfl ?_
                          refine T_goto zk_177_525 ?_
                          refine G_know (J' := (fun σ' => IF MLg σ σ' ∧ σ' 36 0 0 634 = n + 1 ∧ True)) (fun σ' h => ⟨h.1, h.2.1, trivial⟩) ?_
                          exact ih136 (x135 + 1) (by omega) (by omega)
                  ·
                    exact T_vret zk_177_441 rfl (fun σ' h => ⟨rfl, h.1, ⟨h.2.1, trivial⟩⟩)
                ·
                  refine T_ld zk_177_403 rfl rfl rfl (pc' := 404) rfl ?_
                  refine T_getR (t' := 36) (i' := 0) (k' := 0) zk_177_404 rfl rfl rfl vd_35 (pc' := 407) rfl ?_
                  refine T_op zk_177_407 rfl (X_si (v := 644) (by decide)) (pc' := 410) rfl ?_
                  refine T_op (st' := [iv 644, av 36 0 0, iv 644, av 36 0 0]) zk_177_410 rfl rfl (pc' := 411) rfl ?_
                  refine G_iald (lo := -2147483648) (hi := 2147483647) (ln := 646) zk_177_411 rfl rfl (vd_36 (by omega)) (by omega) (by omega) (by omega) (fun σ' h => h.1.1) (fun _ h => (by have q := h.1; omega)) (pc' := 412) rfl (fun y163 hy163 hy163' => ?_)
                  refine T_op zk_177_412 rfl X_ic (pc' := 413) rfl ?_
                  refine G_unk zk_177_413 rfl (pc' := 414) rfl (fun y164 hy164 hy164' => ?_)
                  refine G_iast (J' := (fun σ' => IF MLg σ σ' ∧ σ' 36 0 0 634 = n ∧ σ' 36 0 0 644 = y164 ∧ True)) (ln := 646) zk_177_414 rfl rfl (vd_36 (by omega)) (by omega) (by omega) (by omega) (fun σ' h => ⟨h.1.up (by simp only [rgP] <;> omega) (by first | exact pMLg rfl | (unfold MLg; omega)), (up_ne (by omega)).trans (h.2.1), up_eq, trivial⟩) (pc' := 415) rfl ?_
                  refine T_ld zk_177_415 rfl rfl rfl (pc' := 416) rfl ?_
                  refine T_getR (t' := 36) (i' := 0) (k' := 0) zk_177_416 rfl rfl rfl vd_35 (pc' := 419) rfl ?_
                  refine T_op zk_177_419 rfl (X_si (v := 634) (by decide)) (pc' := 422) rfl ?_
                  refine T_op (st' := [iv 634, av 36 0 0, iv 634, av 36 0 0]) zk_177_422 rfl rfl (pc' := 423) rfl ?_
                  refine G_ialdX (w := n) (ln := 646) zk_177_423 rfl rfl (vd_36 (by omega)) (by omega) (by omega) (by omega) (fun σ' h => h.2.1) (pc' := 424) rfl ?_
                  refine T_op zk_177_424 rfl X_ic (pc' := 425) rfl ?_
                  refine T_op zk_177_425 rfl X_add (pc' := 426) rfl ?_
                  refine G_iast (J' := (fun σ' => IF MLg σ σ' ∧ σ' 36 0 0 644 = y164 ∧ σ' 36 0 0 634 = n + 1 ∧ True)) (ln := 646) zk_177_426 rfl rfl (vd_36 (by omega)) (by omega) (by omega) (by omega) (fun σ' h => ⟨h.1.up (by simp only [rgP] <;> omega) (by first | exact pMLg rfl | (unfold MLg; omega)), (up_ne (by omega)).trans (h.2.2.1), up_eq, trivial⟩) (pc' := 427) rfl ?_
                  refine T_ld zk_177_427 rfl rfl rfl (pc' := 428) rfl ?_
                  refine T_getR (t' := 36) (i' := 0) (k' := 0) zk_177_428 rfl rfl rfl vd_35 (pc' := 431) rfl ?_
                  refine T_op zk_177_431 rfl (X_si (v := 634) (by decide)) (pc' := 434) rfl ?_
                  refine G_ialdX (w := n + 1) (ln := 646) zk_177_434 rfl rfl (vd_36 (by omega)) (by omega) (by omega) (by omega) (fun σ' h => h.2.2.1) (pc' := 435) rfl ?_
                  refine T_op zk_177_435 rfl (X_bi (v := 96) (by decide)) (pc' := 437) rfl ?_
                  refine T_op zk_177_437 rfl (X_rem (by omega) (by omega)) (pc' := 438) rfl ?_
                  refine T_if_eq zk_177_438 (by omega) (pc' := 441) rfl (fun h165 => ?_) (fun h166 => ?_)
                  ·
                    refine T_ld zk_177_442 rfl rfl rfl (pc' := 443) rfl ?_
                    refine T_getR (t' := 36) (i' := 0) (k' := 0) zk_177_443 rfl rfl rfl vd_35 (pc' := 446) rfl ?_
                    refine T_op zk_177_446 rfl (X_si (v := 634) (by decide)) (pc' := 449) rfl ?_
                    refine G_ialdX (w := n + 1) (ln := 646) zk_177_449 rfl rfl (vd_36 (by omega)) (by omega) (by omega) (by omega) (fun σ' h => h.2.2.1) (pc' := 450) rfl ?_
                    refine T_op zk_177_450 rfl (X_bi (v := 96) (by decide)) (pc' := 452) rfl ?_
                    refine T_op zk_177_452 rfl (X_div (by omega) (by omega)) (pc' := 453) rfl ?_
                    refine T_st (L' := [(0, av 35 0 0), (1, iv p0), (2, iv x11), (3, iv x18), (4, iv ((n + 1) / 96))]) zk_177_453 (nL := 6) rfl rfl rfl rfl rfl (pc' := 455) rfl ?_
                    refine T_op zk_177_455 rfl X_ic (pc' := 456) rfl ?_
                    refine T_st (L' := [(0, av 35 0 0), (1, iv p0), (2, iv x11), (3, iv x18), (4, iv ((n + 1) / 96)), (5, iv 0)]) zk_177_456 (nL := 6) rfl rfl rfl rfl rfl (pc' := 458) rfl ?_
                    refine G_know (J' := (fun σ' => IF MLg σ σ' ∧ σ' 36 0 0 634 = n + 1 ∧ True)) (fun σ' h => ⟨h.1, h.2.2.1, trivial⟩) ?_
                    refine T_loop1 (fun x167 => ((25 - x167 : Int)).toNat) (fun x167 => (0 ≤ x167 ∧ x167 ≤ 25)) (fun x167 => TJ xs (fun σ' => IF MLg σ σ' ∧ σ' 36 0 0 634 = n + 1 ∧ True) 5 177 458 [(0, av 35 0 0), (1, iv p0), (2, iv x11), (3, iv x18), (4, iv ((n + 1) / 96)), (5, iv x167)] [] _) ?_ 0 (by omega)
                    intro x167 hp169 ih168
                    refine T_ld zk_177_458 rfl rfl rfl (pc' := 460) rfl ?_
                    refine T_op zk_177_460 rfl (X_bi (v := 25) (by decide)) (pc' := 462) rfl ?_
                    refine T_icmp_ge zk_177_462 (by omega) (by omega) (pc' := 465) rfl (fun h170 => ?_) (fun h171 => ?_)
                    ·
                      refine T_op zk_177_528 rfl X_ic (pc' := 529) rfl ?_
                      refine T_st (L' := [(0, av 35 0 0), (1, iv p0), (2, iv x11), (3, iv x18), (4, iv ((n + 1) / 96)), (5, iv 0)]) zk_177_529 (nL := 6) rfl rfl rfl rfl rfl (pc' := 531) rfl ?_
                      refine T_loop1 (fun x172 => ((12 - x172 : Int)).toNat) (fun x172 => (0 ≤ x172 ∧ x172 ≤ 12)) (fun x172 => TJ xs (fun σ' => IF MLg σ σ' ∧ σ' 36 0 0 634 = n + 1 ∧ True) 5 177 531 [(0, av 35 0 0), (1, iv p0), (2, iv x11), (3, iv x18), (4, iv ((n + 1) / 96)), (5, iv x172)] [] _) ?_ 0 (by omega)
                      intro x172 hp174 ih173
                      refine T_ld zk_177_531 rfl rfl rfl (pc' := 533) rfl ?_
                      refine T_ld zk_177_533 rfl rfl rfl (pc' := 534) rfl ?_
                      refine T_getR (t' := 36) (i' := 0) (k' := 0) zk_177_534 rfl rfl rfl vd_35 (pc' := 537) rfl ?_
                      refine T_op zk_177_537 rfl (X_si (v := 641) (by decide)) (pc' := 540) rfl ?_
                      refine G_iald (lo := 0) (hi := 12) (ln := 646) zk_177_540 rfl rfl (vd_36 (by omega)) (by omega) (by omega) (by omega) (fun σ' h => h.1.1) (fun _ h => h.2.2.2.2.2.2.2.2.2.2.2.2.1 (by omega) (by omega)) (pc' := 541) rfl (fun y175 hy175 hy175' => ?_)
                      refine T_icmp_ge zk_177_541 (by omega) (by omega) (pc' := 544) rfl (fun h176 => ?_) (fun h177 => ?_)
                      ·
                        exact T_vret zk_177_596 rfl (fun σ' h => ⟨rfl, h.1, ⟨h.2.1, trivial⟩⟩)
                      ·
                        refine T_ld zk_177_544 rfl rfl rfl (pc' := 545) rfl ?_
                        refine T_getR (t' := 36) (i' := 0) (k' := 0) zk_177_545 rfl rfl rfl vd_35 (pc' := 548) rfl ?_
                        refine T_op zk_177_548 rfl (X_si (v := 484) (by decide)) (pc' := 551) rfl ?_
                        refine T_ld zk_177_551 rfl rfl rfl (pc' := 553) rfl ?_
                        refine T_op zk_177_553 rfl X_add (pc' := 554) rfl ?_
                        refine G_learn (t := 36) (i := 0) (k := 0) (j := Int.toNat (484 + x172)) (lo := -2147483648) (hi := 2147483647) (J2 := fun y178 => (fun σ' => IF MLg σ σ' ∧ σ' 36 0 0 634 = n + 1 ∧ σ' 36 0 0 (Int.toNat (484 + x172)) = y178 ∧ True)) (vd_36 (by omega)) (fun σ' h => h.1.1) (fun _ h => (by have q := h.1; omega)) (fun σ' y h hy => ⟨h.1, h.2.1, hy, trivial⟩) (fun y178 hy178 hy178' => ?_)
                        refine G_ialdX (w := y178) (ln := 646) zk_177_554 rfl rfl (vd_36 (by omega)) (by omega) (by omega) (by omega) (fun σ' h => h.2.2.1) (pc' := 555) rfl ?_
                        refine T_if_le zk_177_555 (by omega) (pc' := 558) rfl (fun h179 => ?_) (fun h180 => ?_)
                        ·
                          refine T_iinc (L' := [(0, av 35 0 0), (1, iv p0), (2, iv x11), (3, iv x18), (4, iv ((n + 1) / 96)), (5, iv (x172 + 1))]) zk_177_590 (nL := 6) rfl rfl rfl rfl (pc' := 593) rfl ?_
                          refine T_goto zk_177_593 ?_
                          refine G_know (J' := (fun σ' => IF MLg σ σ' ∧ σ' 36 0 0 634 = n + 1 ∧ True)) (fun σ' h => ⟨h.1, h.2.1, trivial⟩) ?_
                          exact ih173 (x172 + 1) (by omega) (by omega)
                        ·
                          refine T_ld zk_177_558 rfl rfl rfl (pc' := 560) rfl ?_
                          refine T_ld zk_177_560 rfl rfl rfl (pc' := 561) rfl ?_
                          refine T_getR (t' := 36) (i' := 0) (k' := 0) zk_177_561 rfl rfl rfl vd_35 (pc' := 564) rfl ?_
                          refine T_op zk_177_564 rfl (X_si (v := 484) (by decide)) (pc' := 567) rfl ?_
                          refine T_ld zk_177_567 rfl rfl rfl (pc' := 569) rfl ?_
                          refine T_op zk_177_569 rfl X_add (pc' := 570) rfl ?_
                          refine G_ialdX (w := y178) (ln := 646) zk_177_570 rfl rfl (vd_36 (by omega)) (by omega) (by omega) (by omega) (fun σ' h => h.2.2.1) (pc' := 571) rfl ?_
                          refine G_rem zk_177_571 (by omega) (by omega) (pc' := 572) rfl (fun y181 hy181 hy181' => ?_)
                          refine T_if_ne zk_177_572 (by omega) (pc' := 575) rfl (fun h182 => ?_) (fun h183 => ?_)
                          ·
                            refine T_iinc (L' := [(0, av 35 0 0), (1, iv p0), (2, iv x11), (3, iv x18), (4, iv ((n + 1) / 96)), (5, iv (x172 + 1))]) zk_177_590 (nL := 6) rfl rfl rfl rfl (pc' := 593) rfl ?_
                            refine T_goto zk_177_593 ?_
                            refine G_know (J' := (fun σ' => IF MLg σ σ' ∧ σ' 36 0 0 634 = n + 1 ∧ True)) (fun σ' h => ⟨h.1, h.2.1, trivial⟩) ?_
                            exact ih173 (x172 + 1) (by omega) (by omega)
                          ·
                            refine T_ld zk_177_575 rfl rfl rfl (pc' := 576) rfl ?_
                            refine T_getR (t' := 36) (i' := 0) (k' := 0) zk_177_576 rfl rfl rfl vd_35 (pc' := 579) rfl ?_
                            refine T_op zk_177_579 rfl (X_si (v := 508) (by decide)) (pc' := 582) rfl ?_
                            refine T_ld zk_177_582 rfl rfl rfl (pc' := 584) rfl ?_
                            refine T_op zk_177_584 rfl X_add (pc' := 585) rfl ?_
                            refine T_op (st' := [iv (508 + x172), av 36 0 0, iv (508 + x172), av 36 0 0]) zk_177_585 rfl rfl (pc' := 586) rfl ?_
                            refine G_iald (lo := -2147483648) (hi := 2147483647) (ln := 646) zk_177_586 rfl rfl (vd_36 (by omega)) (by omega) (by omega) (by omega) (fun σ' h => h.1.1) (fun _ h => (by have q := h.1; omega)) (pc' := 587) rfl (fun y184 hy184 hy184' => ?_)
                            refine T_op zk_177_587 rfl X_ic (pc' := 588) rfl ?_
                            refine G_unk zk_177_588 rfl (pc' := 589) rfl (fun y185 hy185 hy185' => ?_)
                            refine G_iast (J' := (fun σ' => IF MLg σ σ' ∧ σ' 36 0 0 634 = n + 1 ∧ σ' 36 0 0 (Int.toNat (508 + x172)) = y185 ∧ True)) (ln := 646) zk_177_589 rfl rfl (vd_36 (by omega)) (by omega) (by omega) (by omega) (fun σ' h => ⟨h.1.up (by simp only [rgP] <;> omega) (by first | exact pMLg rfl | (unfold MLg; omega)), (up_ne (by omega)).trans (h.2.1), up_eq, trivial⟩) (pc' := 590) rfl ?_
                            refine T_iinc (L' := [(0, av 35 0 0), (1, iv p0), (2, iv x11), (3, iv x18), (4, iv ((n + 1) / 96)), (5, iv (x172 + 1))]) zk_177_590 (nL := 6) rfl rfl rfl rfl (pc' := 593) rfl ?_
                            refine T_goto zk_177_593 ?_
                            refine G_know (J' := (fun σ' => IF MLg σ σ' ∧ σ' 36 0 0 634 = n + 1 ∧ True)) (fun σ' h => ⟨h.1, h.2.1, trivial⟩) ?_
                            exact ih173 (x172 + 1) (by omega) (by omega)
                    ·
                      refine T_ld zk_177_465 rfl rfl rfl (pc' := 466) rfl ?_
                      refine T_getR (t' := 36) (i' := 0) (k' := 0) zk_177_466 rfl rfl rfl vd_35 (pc' := 469) rfl ?_
                      refine T_op zk_177_469 rfl (X_bi (v := 75) (by decide)) (pc' := 471) rfl ?_
                      refine T_ld zk_177_471 rfl rfl rfl (pc' := 473) rfl ?_
                      refine T_op zk_177_473 rfl X_add (pc' := 474) rfl ?_
                      refine G_iald (lo := -2147483648) (hi := 2147483647) (ln := 646) zk_177_474 rfl rfl (vd_36 (by omega)) (by omega) (by omega) (by omega) (fun σ' h => h.1.1) (fun _ h => (by have q := h.1; omega)) (pc' := 475) rfl (fun y186 hy186 hy186' => ?_)
                      refine T_ld zk_177_475 rfl rfl rfl (pc' := 476) rfl ?_
                      refine T_getR (t' := 36) (i' := 0) (k' := 0) zk_177_476 rfl rfl rfl vd_35 (pc' := 479) rfl ?_
                      refine T_op zk_177_479 rfl (X_si (v := 639) (by decide)) (pc' := 482) rfl ?_
                      refine G_iald (lo := 0) (hi := 9999) (ln := 646) zk_177_482 rfl rfl (vd_36 (by omega)) (by omega) (by omega) (by omega) (fun σ' h => h.1.1) (fun _ h => h.2.2.2.2.2.2.2.2.2.2.1 (by omega) (by omega)) (pc' := 483) rfl (fun y187 hy187 hy187' => ?_)
                      refine T_icmp_ge zk_177_483 (by omega) (by omega) (pc' := 486) rfl (fun h188 => ?_) (fun h189 => ?_)
                      ·
                        refine T_ld zk_177_511 rfl rfl rfl (pc' := 512) rfl ?_
                        refine T_getR (t' := 36) (i' := 0) (k' := 0) zk_177_512 rfl rfl rfl vd_35 (pc' := 515) rfl ?_
                        refine T_op zk_177_515 rfl (X_bi (v := 75) (by decide)) (pc' := 517) rfl ?_
                        refine T_ld zk_177_517 rfl rfl rfl (pc' := 519) rfl ?_
                        refine T_op zk_177_519 rfl X_add (pc' := 520) rfl ?_
                        refine T_op zk_177_520 rfl X_ic (pc' := 521) rfl ?_
                        refine G_iast (J' := (fun σ' => IF MLg σ σ' ∧ σ' 36 0 0 634 = n + 1 ∧ σ' 36 0 0 (Int.toNat (75 + x167)) = 0 ∧ True)) (ln := 646) zk_177_521 rfl rfl (vd_36 (by omega)) (by omega) (by omega) (by omega) (fun σ' h => ⟨h.1.up (by simp only [rgP] <;> omega) (by first | exact pMLg rfl | (unfold MLg; omega)), (up_ne (by omega)).trans (h.2.1), up_eq, trivial⟩) (pc' := 522) rfl ?_
                        refine T_iinc (L' := [(0, av 35 0 0), (1, iv p0), (2, iv x11), (3, iv x18), (4, iv ((n + 1) / 96)), (5, iv (x167 + 1))]) zk_177_522 (nL := 6) rfl rfl rfl rfl (pc' := 525) rfl ?_
                        refine T_goto zk_177_525 ?_
                        refine G_know (J' := (fun σ' => IF MLg σ σ' ∧ σ' 36 0 0 634 = n + 1 ∧ True)) (fun σ' h => ⟨h.1, h.2.1, trivial⟩) ?_
                        exact ih168 (x167 + 1) (by omega) (by omega)
                      ·
                        refine T_ld zk_177_486 rfl rfl rfl (pc' := 487) rfl ?_
                        refine T_getR (t' := 36) (i' := 0) (k' := 0) zk_177_487 rfl rfl rfl vd_35 (pc' := 490) rfl ?_
                        refine T_op zk_177_490 rfl X_ic (pc' := 491) rfl ?_
                        refine T_ld zk_177_491 rfl rfl rfl (pc' := 493) rfl ?_
                        refine T_op zk_177_493 rfl X_add (pc' := 494) rfl ?_
                        refine G_iald (lo := -2147483648) (hi := 2147483647) (ln := 646) zk_177_494 rfl rfl (vd_36 (by omega)) (by omega) (by omega) (by omega) (fun σ' h => h.1.1) (fun _ h => (by have q := h.1; omega)) (pc' := 495) rfl (fun y190 hy190 hy190' => ?_)
                        refine T_if_le zk_177_495 (by omega) (pc' := 498) rfl (fun h191 => ?_) (fun h192 => ?_)
                        ·
                          refine T_ld zk_177_511 rfl rfl rfl (pc' := 512) rfl ?_
                          refine T_getR (t' := 36) (i' := 0) (k' := 0) zk_177_512 rfl rfl rfl vd_35 (pc' := 515) rfl ?_
                          refine T_op zk_177_515 rfl (X_bi (v := 75) (by decide)) (pc' := 517) rfl ?_
                          refine T_ld zk_177_517 rfl rfl rfl (pc' := 519) rfl ?_
                          refine T_op zk_177_519 rfl X_add (pc' := 520) rfl ?_
                          refine T_op zk_177_520 rfl X_ic (pc' := 521) rfl ?_
                          refine G_iast (J' := (fun σ' => IF MLg σ σ' ∧ σ' 36 0 0 634 = n + 1 ∧ σ' 36 0 0 (Int.toNat (75 + x167)) = 0 ∧ True)) (ln := 646) zk_177_521 rfl rfl (vd_36 (by omega)) (by omega) (by omega) (by omega) (fun σ' h => ⟨h.1.up (by simp only [rgP] <;> omega) (by first | exact pMLg rfl | (unfold MLg; omega)), (up_ne (by omega)).trans (h.2.1), up_eq, trivial⟩) (pc' := 522) rfl ?_
                          refine T_iinc (L' := [(0, av 35 0 0), (1, iv p0), (2, iv x11), (3, iv x18), (4, iv ((n + 1) / 96)), (5, iv (x167 + 1))]) zk_177_522 (nL := 6) rfl rfl rfl rfl (pc' := 525) rfl ?_
                          refine T_goto zk_177_525 ?_
                          refine G_know (J' := (fun σ' => IF MLg σ σ' ∧ σ' 36 0 0 634 = n + 1 ∧ True)) (fun σ' h => ⟨h.1, h.2.1, trivial⟩) ?_
                          exact ih168 (x167 + 1) (by omega) (by omega)
                        ·
                          refine T_ld zk_177_498 rfl rfl rfl (pc' := 499) rfl ?_
                          refine T_getR (t' := 36) (i' := 0) (k' := 0) zk_177_499 rfl rfl rfl vd_35 (pc' := 502) rfl ?_
                          refine T_op zk_177_502 rfl X_ic (pc' := 503) rfl ?_
                          refine T_ld zk_177_503 rfl rfl rfl (pc' := 505) rfl ?_
                          refine T_op zk_177_505 rfl X_add (pc' := 506) rfl ?_
                          refine T_op (st' := [iv (0 + x167), av 36 0 0, iv (0 + x167), av 36 0 0]) zk_177_506 rfl rfl (pc' := 507) rfl ?_
                          refine G_iald (lo := -2147483648) (hi := 2147483647) (ln := 646) zk_177_507 rfl rfl (vd_36 (by omega)) (by omega) (by omega) (by omega) (fun σ' h => h.1.1) (fun _ h => (by have q := h.1; omega)) (pc' := 508) rfl (fun y193 hy193 hy193' => ?_)
                          refine T_op zk_177_508 rfl X_ic (pc' := 509) rfl ?_
                          refine G_unk zk_177_509 rfl (pc' := 510) rfl (fun y194 hy194 hy194' => ?_)
                          refine G_iast (J' := (fun σ' => IF MLg σ σ' ∧ σ' 36 0 0 634 = n + 1 ∧ σ' 36 0 0 (Int.toNat (0 + x167)) = y194 ∧ True)) (ln := 646) zk_177_510 rfl rfl (vd_36 (by omega)) (by omega) (by omega) (by omega) (fun σ' h => ⟨h.1.up (by simp only [rgP] <;> omega) (by first | exact pMLg rfl | (unfold MLg; omega)), (up_ne (by omega)).trans (h.2.1), up_eq, trivial⟩) (pc' := 511) rfl ?_
                          refine T_ld zk_177_511 rfl rfl rfl (pc' := 512) rfl ?_
                          refine T_getR (t' := 36) (i' := 0) (k' := 0) zk_177_512 rfl rfl rfl vd_35 (pc' := 515) rfl ?_
                          refine T_op zk_177_515 rfl (X_bi (v := 75) (by decide)) (pc' := 517) rfl ?_
                          refine T_ld zk_177_517 rfl rfl rfl (pc' := 519) rfl ?_
                          refine T_op zk_177_519 rfl X_add (pc' := 520) rfl ?_
                          refine T_op zk_177_520 rfl X_ic (pc' := 521) rfl ?_
                          refine G_iast (J' := (fun σ' => IF MLg σ σ' ∧ σ' 36 0 0 634 = n + 1 ∧ σ' 36 0 0 (Int.toNat (75 + x167)) = 0 ∧ True)) (ln := 646) zk_177_521 rfl rfl (vd_36 (by omega)) (by omega) (by omega) (by omega) (fun σ' h => ⟨h.1.up (by simp only [rgP] <;> omega) (by first | exact pMLg rfl | (unfold MLg; omega)), (up_ne (by omega)).trans (h.2.1), up_eq, trivial⟩) (pc' := 522) rfl ?_
                          refine T_iinc (L' := [(0, av 35 0 0), (1, iv p0), (2, iv x11), (3, iv x18), (4, iv ((n + 1) / 96)), (5, iv (x167 + 1))]) zk_177_522 (nL := 6) rfl rfl rfl rfl (pc' := 525) rfl ?_
                          refine T_goto zk_177_525 ?_
                          refine G_know (J' := (fun σ' => IF MLg σ σ' ∧ σ' 36 0 0 634 = n + 1 ∧ True)) (fun σ' h => ⟨h.1, h.2.1, trivial⟩) ?_
                          exact ih168 (x167 + 1) (by omega) (by omega)
                  ·
                    exact T_vret zk_177_441 rfl (fun σ' h => ⟨rfl, h.1, ⟨h.2.2.1, trivial⟩⟩)
            ·
              refine T_ld zk_177_367 rfl rfl rfl (pc' := 368) rfl ?_
              refine T_getR (t' := 36) (i' := 0) (k' := 0) zk_177_368 rfl rfl rfl vd_35 (pc' := 371) rfl ?_
              refine T_op zk_177_371 rfl (X_si (v := 643) (by decide)) (pc' := 374) rfl ?_
              refine T_op (st' := [iv 643, av 36 0 0, iv 643, av 36 0 0]) zk_177_374 rfl rfl (pc' := 375) rfl ?_
              refine G_iald (lo := -2147483648) (hi := 2147483647) (ln := 646) zk_177_375 rfl rfl (vd_36 (by omega)) (by omega) (by omega) (by omega) (fun σ' h => h.1.1) (fun _ h => (by have q := h.1; omega)) (pc' := 376) rfl (fun y195 hy195 hy195' => ?_)
              refine T_op zk_177_376 rfl X_ic (pc' := 377) rfl ?_
              refine G_unk zk_177_377 rfl (pc' := 378) rfl (fun y196 hy196 hy196' => ?_)
              refine G_iast (J' := (fun σ' => IF MLg σ σ' ∧ σ' 36 0 0 634 = n ∧ σ' 36 0 0 643 = y196 ∧ True)) (ln := 646) zk_177_378 rfl rfl (vd_36 (by omega)) (by omega) (by omega) (by omega) (fun σ' h => ⟨h.1.up (by simp only [rgP] <;> omega) (by first | exact pMLg rfl | (unfold MLg; omega)), (up_ne (by omega)).trans (h.2.1), up_eq, trivial⟩) (pc' := 379) rfl ?_
              refine T_ld zk_177_379 rfl rfl rfl (pc' := 380) rfl ?_
              refine T_if_eq zk_177_380 (by omega) (pc' := 383) rfl (fun h197 => ?_) (fun h198 => ?_)
              ·
                refine T_ld zk_177_415 rfl rfl rfl (pc' := 416) rfl ?_
                refine T_getR (t' := 36) (i' := 0) (k' := 0) zk_177_416 rfl rfl rfl vd_35 (pc' := 419) rfl ?_
                refine T_op zk_177_419 rfl (X_si (v := 634) (by decide)) (pc' := 422) rfl ?_
                refine T_op (st' := [iv 634, av 36 0 0, iv 634, av 36 0 0]) zk_177_422 rfl rfl (pc' := 423) rfl ?_
                refine G_ialdX (w := n) (ln := 646) zk_177_423 rfl rfl (vd_36 (by omega)) (by omega) (by omega) (by omega) (fun σ' h => h.2.1) (pc' := 424) rfl ?_
                refine T_op zk_177_424 rfl X_ic (pc' := 425) rfl ?_
                refine T_op zk_177_425 rfl X_add (pc' := 426) rfl ?_
                refine G_iast (J' := (fun σ' => IF MLg σ σ' ∧ σ' 36 0 0 643 = y196 ∧ σ' 36 0 0 634 = n + 1 ∧ True)) (ln := 646) zk_177_426 rfl rfl (vd_36 (by omega)) (by omega) (by omega) (by omega) (fun σ' h => ⟨h.1.up (by simp only [rgP] <;> omega) (by first | exact pMLg rfl | (unfold MLg; omega)), (up_ne (by omega)).trans (h.2.2.1), up_eq, trivial⟩) (pc' := 427) rfl ?_
                refine T_ld zk_177_427 rfl rfl rfl (pc' := 428) rfl ?_
                refine T_getR (t' := 36) (i' := 0) (k' := 0) zk_177_428 rfl rfl rfl vd_35 (pc' := 431) rfl ?_
                refine T_op zk_177_431 rfl (X_si (v := 634) (by decide)) (pc' := 434) rfl ?_
                refine G_ialdX (w := n + 1) (ln := 646) zk_177_434 rfl rfl (vd_36 (by omega)) (by omega) (by omega) (by omega) (fun σ' h => h.2.2.1) (pc' := 435) rfl ?_
                refine T_op zk_177_435 rfl (X_bi (v := 96) (by decide)) (pc' := 437) rfl ?_
                refine T_op zk_177_437 rfl (X_rem (by omega) (by omega)) (pc' := 438) rfl ?_
                refine T_if_eq zk_177_438 (by omega) (pc' := 441) rfl (fun h199 => ?_) (fun h200 => ?_)
                ·
                  refine T_ld zk_177_442 rfl rfl rfl (pc' := 443) rfl ?_
                  refine T_getR (t' := 36) (i' := 0) (k' := 0) zk_177_443 rfl rfl rfl vd_35 (pc' := 446) rfl ?_
                  refine T_op zk_177_446 rfl (X_si (v := 634) (by decide)) (pc' := 449) rfl ?_
                  refine G_ialdX (w := n + 1) (ln := 646) zk_177_449 rfl rfl (vd_36 (by omega)) (by omega) (by omega) (by omega) (fun σ' h => h.2.2.1) (pc' := 450) rfl ?_
                  refine T_op zk_177_450 rfl (X_bi (v := 96) (by decide)) (pc' := 452) rfl ?_
                  refine T_op zk_177_452 rfl (X_div (by omega) (by omega)) (pc' := 453) rfl ?_
                  refine T_st (L' := [(0, av 35 0 0), (1, iv p0), (2, iv x11), (3, iv x18), (4, iv ((n + 1) / 96))]) zk_177_453 (nL := 6) rfl rfl rfl rfl rfl (pc' := 455) rfl ?_
                  refine T_op zk_177_455 rfl X_ic (pc' := 456) rfl ?_
                  refine T_st (L' := [(0, av 35 0 0), (1, iv p0), (2, iv x11), (3, iv x18), (4, iv ((n + 1) / 96)), (5, iv 0)]) zk_177_456 (nL := 6) rfl rfl rfl rfl rfl (pc' := 458) rfl ?_
                  refine G_know (J' := (fun σ' => IF MLg σ σ' ∧ σ' 36 0 0 634 = n + 1 ∧ True)) (fun σ' h => ⟨h.1, h.2.2.1, trivial⟩) ?_
                  refine T_loop1 (fun x201 => ((25 - x201 : Int)).toNat) (fun x201 => (0 ≤ x201 ∧ x201 ≤ 25)) (fun x201 => TJ xs (fun σ' => IF MLg σ σ' ∧ σ' 36 0 0 634 = n + 1 ∧ True) 5 177 458 [(0, av 35 0 0), (1, iv p0), (2, iv x11), (3, iv x18), (4, iv ((n + 1) / 96)), (5, iv x201)] [] _) ?_ 0 (by omega)
                  intro x201 hp203 ih202
                  refine T_ld zk_177_458 rfl rfl rfl (pc' := 460) rfl ?_
                  refine T_op zk_177_460 rfl (X_bi (v := 25) (by decide)) (pc' := 462) rfl ?_
                  refine T_icmp_ge zk_177_462 (by omega) (by omega) (pc' := 465) rfl (fun h204 => ?_) (fun h205 => ?_)
                  ·
                    refine T_op zk_177_528 rfl X_ic (pc' := 529) rfl ?_
                    refine T_st (L' := [(0, av 35 0 0), (1, iv p0), (2, iv x11), (3, iv x18), (4, iv ((n + 1) / 96)), (5, iv 0)]) zk_177_529 (nL := 6) rfl rfl rfl rfl rfl (pc' := 531) rfl ?_
                    refine T_loop1 (fun x206 => ((12 - x206 : Int)).toNat) (fun x206 => (0 ≤ x206 ∧ x206 ≤ 12)) (fun x206 => TJ xs (fun σ' => IF MLg σ σ' ∧ σ' 36 0 0 634 = n + 1 ∧ True) 5 177 531 [(0, av 35 0 0), (1, iv p0), (2, iv x11), (3, iv x18), (4, iv ((n + 1) / 96)), (5, iv x206)] [] _) ?_ 0 (by omega)
                    intro x206 hp208 ih207
                    refine T_ld zk_177_531 rfl rfl rfl (pc' := 533) rfl ?_
                    refine T_ld zk_177_533 rfl rfl rfl (pc' := 534) rfl ?_
                    refine T_getR (t' := 36) (i' := 0) (k' := 0) zk_177_534 rfl rfl rfl vd_35 (pc' := 537) rfl ?_
                    refine T_op zk_177_537 rfl (X_si (v := 641) (by decide)) (pc' := 540) rfl ?_
                    refine G_iald (lo := 0) (hi := 12) (ln := 646) zk_177_540 rfl rfl (vd_36 (by omega)) (by omega) (by omega) (by omega) (fun σ' h => h.1.1) (fun _ h => h.2.2.2.2.2.2.2.2.2.2.2.2.1 (by omega) (by omega)) (pc' := 541) rfl (fun y209 hy209 hy209' => ?_)
                    refine T_icmp_ge zk_177_541 (by omega) (by omega) (pc' := 544) rfl (fun h210 => ?_) (fun h211 => ?_)
                    ·
                      exact T_vret zk_177_596 rfl (fun σ' h => ⟨rfl, h.1, ⟨h.2.1, trivial⟩⟩)
                    ·
                      refine T_ld zk_177_544 rfl rfl rfl (pc' := 545) rfl ?_
                      refine T_getR (t' := 36) (i' := 0) (k' := 0) zk_177_545 rfl rfl rfl vd_35 (pc' := 548) rfl ?_
                      refine T_op zk_177_548 rfl (X_si (v := 484) (by decide)) (pc' := 551) rfl ?_
                      refine T_ld zk_177_551 rfl rfl rfl (pc' := 553) rfl ?_
                      refine T_op zk_177_553 rfl X_add (pc' := 554) rfl ?_
                      refine G_learn (t := 36) (i := 0) (k := 0) (j := Int.toNat (484 + x206)) (lo := -2147483648) (hi := 2147483647) (J2 := fun y212 => (fun σ' => IF MLg σ σ' ∧ σ' 36 0 0 634 = n + 1 ∧ σ' 36 0 0 (Int.toNat (484 + x206)) = y212 ∧ True)) (vd_36 (by omega)) (fun σ' h => h.1.1) (fun _ h => (by have q := h.1; omega)) (fun σ' y h hy => ⟨h.1, h.2.1, hy, trivial⟩) (fun y212 hy212 hy212' => ?_)
                      refine G_ialdX (w := y212) (ln := 646) zk_177_554 rfl rfl (vd_36 (by omega)) (by omega) (by omega) (by omega) (fun σ' h => h.2.2.1) (pc' := 555) rfl ?_
                      refine T_if_le zk_177_555 (by omega) (pc' := 558) rfl (fun h213 => ?_) (fun h214 => ?_)
                      ·
                        refine T_iinc (L' := [(0, av 35 0 0), (1, iv p0), (2, iv x11), (3, iv x18), (4, iv ((n + 1) / 96)), (5, iv (x206 + 1))]) zk_177_590 (nL := 6) rfl rfl rfl rfl (pc' := 593) rfl ?_
                        refine T_goto zk_177_593 ?_
                        refine G_know (J' := (fun σ' => IF MLg σ σ' ∧ σ' 36 0 0 634 = n + 1 ∧ True)) (fun σ' h => ⟨h.1, h.2.1, trivial⟩) ?_
                        exact ih207 (x206 + 1) (by omega) (by omega)
                      ·
                        refine T_ld zk_177_558 rfl rfl rfl (pc' := 560) rfl ?_
                        refine T_ld zk_177_560 rfl rfl rfl (pc' := 561) rfl ?_
                        refine T_getR (t' := 36) (i' := 0) (k' := 0) zk_177_561 rfl rfl rfl vd_35 (pc' := 564) rfl ?_
                        refine T_op zk_177_564 rfl (X_si (v := 484) (by decide)) (pc' := 567) rfl ?_
                        refine T_ld zk_177_567 rfl rfl rfl (pc' := 569) rfl ?_
                        refine T_op zk_177_569 rfl X_add (pc' := 570) rfl ?_
                        refine G_ialdX (w := y212) (ln := 646) zk_177_570 rfl rfl (vd_36 (by omega)) (by omega) (by omega) (by omega) (fun σ' h => h.2.2.1) (pc' := 571) rfl ?_
                        refine G_rem zk_177_571 (by omega) (by omega) (pc' := 572) rfl (fun y215 hy215 hy215' => ?_)
                        refine T_if_ne zk_177_572 (by omega) (pc' := 575) rfl (fun h216 => ?_) (fun h217 => ?_)
                        ·
                          refine T_iinc (L' := [(0, av 35 0 0), (1, iv p0), (2, iv x11), (3, iv x18), (4, iv ((n + 1) / 96)), (5, iv (x206 + 1))]) zk_177_590 (nL := 6) rfl rfl rfl rfl (pc' := 593) rfl ?_
                          refine T_goto zk_177_593 ?_
                          refine G_know (J' := (fun σ' => IF MLg σ σ' ∧ σ' 36 0 0 634 = n + 1 ∧ True)) (fun σ' h => ⟨h.1, h.2.1, trivial⟩) ?_
                          exact ih207 (x206 + 1) (by omega) (by omega)
                        ·
                          refine T_ld zk_177_575 rfl rfl rfl (pc' := 576) rfl ?_
                          refine T_getR (t' := 36) (i' := 0) (k' := 0) zk_177_576 rfl rfl rfl vd_35 (pc' := 579) rfl ?_
                          refine T_op zk_177_579 rfl (X_si (v := 508) (by decide)) (pc' := 582) rfl ?_
                          refine T_ld zk_177_582 rfl rfl rfl (pc' := 584) rfl ?_
                          refine T_op zk_177_584 rfl X_add (pc' := 585) rfl ?_
                          refine T_op (st' := [iv (508 + x206), av 36 0 0, iv (508 + x206), av 36 0 0]) zk_177_585 rfl rfl (pc' := 586) rfl ?_
                          refine G_iald (lo := -2147483648) (hi := 2147483647) (ln := 646) zk_177_586 rfl rfl (vd_36 (by omega)) (by omega) (by omega) (by omega) (fun σ' h => h.1.1) (fun _ h => (by have q := h.1; omega)) (pc' := 587) rfl (fun y218 hy218 hy218' => ?_)
                          refine T_op zk_177_587 rfl X_ic (pc' := 588) rfl ?_
                          refine G_unk zk_177_588 rfl (pc' := 589) rfl (fun y219 hy219 hy219' => ?_)
                          refine G_iast (J' := (fun σ' => IF MLg σ σ' ∧ σ' 36 0 0 634 = n + 1 ∧ σ' 36 0 0 (Int.toNat (508 + x206)) = y219 ∧ True)) (ln := 646) zk_177_589 rfl rfl (vd_36 (by omega)) (by omega) (by omega) (by omega) (fun σ' h => ⟨h.1.up (by simp only [rgP] <;> omega) (by first | exact pMLg rfl | (unfold MLg; omega)), (up_ne (by omega)).trans (h.2.1), up_eq, trivial⟩) (pc' := 590) rfl ?_
                          refine T_iinc (L' := [(0, av 35 0 0), (1, iv p0), (2, iv x11), (3, iv x18), (4, iv ((n + 1) / 96)), (5, iv (x206 + 1))]) zk_177_590 (nL := 6) rfl rfl rfl rfl (pc' := 593) rfl ?_
                          refine T_goto zk_177_593 ?_
                          refine G_know (J' := (fun σ' => IF MLg σ σ' ∧ σ' 36 0 0 634 = n + 1 ∧ True)) (fun σ' h => ⟨h.1, h.2.1, trivial⟩) ?_
                          exact ih207 (x206 + 1) (by omega) (by omega)
                  ·
                    refine T_ld zk_177_465 rfl rfl rfl (pc' := 466) rfl ?_
                    refine T_getR (t' := 36) (i' := 0) (k' := 0) zk_177_466 rfl rfl rfl vd_35 (pc' := 469) rfl ?_
                    refine T_op zk_177_469 rfl (X_bi (v := 75) (by decide)) (pc' := 471) rfl ?_
                    refine T_ld zk_177_471 rfl rfl rfl (pc' := 473) rfl ?_
                    refine T_op zk_177_473 rfl X_add (pc' := 474) rfl ?_
                    refine G_iald (lo := -2147483648) (hi := 2147483647) (ln := 646) zk_177_474 rfl rfl (vd_36 (by omega)) (by omega) (by omega) (by omega) (fun σ' h => h.1.1) (fun _ h => (by have q := h.1; omega)) (pc' := 475) rfl (fun y220 hy220 hy220' => ?_)
                    refine T_ld zk_177_475 rfl rfl rfl (pc' := 476) rfl ?_
                    refine T_getR (t' := 36) (i' := 0) (k' := 0) zk_177_476 rfl rfl rfl vd_35 (pc' := 479) rfl ?_
                    refine T_op zk_177_479 rfl (X_si (v := 639) (by decide)) (pc' := 482) rfl ?_
                    refine G_iald (lo := 0) (hi := 9999) (ln := 646) zk_177_482 rfl rfl (vd_36 (by omega)) (by omega) (by omega) (by omega) (fun σ' h => h.1.1) (fun _ h => h.2.2.2.2.2.2.2.2.2.2.1 (by omega) (by omega)) (pc' := 483) rfl (fun y221 hy221 hy221' => ?_)
                    refine T_icmp_ge zk_177_483 (by omega) (by omega) (pc' := 486) rfl (fun h222 => ?_) (fun h223 => ?_)
                    ·
                      refine T_ld zk_177_511 rfl rfl rfl (pc' := 512) rfl ?_
                      refine T_getR (t' := 36) (i' := 0) (k' := 0) zk_177_512 rfl rfl rfl vd_35 (pc' := 515) rfl ?_
                      refine T_op zk_177_515 rfl (X_bi (v := 75) (by decide)) (pc' := 517) rfl ?_
                      refine T_ld zk_177_517 rfl rfl rfl (pc' := 519) rfl ?_
                      refine T_op zk_177_519 rfl X_add (pc' := 520) rfl ?_
                      refine T_op zk_177_520 rfl X_ic (pc' := 521) rfl ?_
                      refine G_iast (J' := (fun σ' => IF MLg σ σ' ∧ σ' 36 0 0 634 = n + 1 ∧ σ' 36 0 0 (Int.toNat (75 + x201)) = 0 ∧ True)) (ln := 646) zk_177_521 rfl rfl (vd_36 (by omega)) (by omega) (by omega) (by omega) (fun σ' h => ⟨h.1.up (by simp only [rgP] <;> omega) (by first | exact pMLg rfl | (unfold MLg; omega)), (up_ne (by omega)).trans (h.2.1), up_eq, trivial⟩) (pc' := 522) rfl ?_
                      refine T_iinc (L' := [(0, av 35 0 0), (1, iv p0), (2, iv x11), (3, iv x18), (4, iv ((n + 1) / 96)), (5, iv (x201 + 1))]) zk_177_522 (nL := 6) rfl rfl rfl rfl (pc' := 525) rfl ?_
                      refine T_goto zk_177_525 ?_
                      refine G_know (J' := (fun σ' => IF MLg σ σ' ∧ σ' 36 0 0 634 = n + 1 ∧ True)) (fun σ' h => ⟨h.1, h.2.1, trivial⟩) ?_
                      exact ih202 (x201 + 1) (by omega) (by omega)
                    ·
                      refine T_ld zk_177_486 rfl rfl rfl (pc' := 487) rfl ?_
                      refine T_getR (t' := 36) (i' := 0) (k' := 0) zk_177_487 rfl rfl rfl vd_35 (pc' := 490) rfl ?_
                      refine T_op zk_177_490 rfl X_ic (pc' := 491) rfl ?_
                      refine T_ld zk_177_491 rfl rfl rfl (pc' := 493) rfl ?_
                      refine T_op zk_177_493 rfl X_add (pc' := 494) rfl ?_
                      refine G_iald (lo := -2147483648) (hi := 2147483647) (ln := 646) zk_177_494 rfl rfl (vd_36 (by omega)) (by omega) (by omega) (by omega) (fun σ' h => h.1.1) (fun _ h => (by have q := h.1; omega)) (pc' := 495) rfl (fun y224 hy224 hy224' => ?_)
                      refine T_if_le zk_177_495 (by omega) (pc' := 498) rfl (fun h225 => ?_) (fun h226 => ?_)
                      ·
                        refine T_ld zk_177_511 rfl rfl rfl (pc' := 512) rfl ?_
                        refine T_getR (t' := 36) (i' := 0) (k' := 0) zk_177_512 rfl rfl rfl vd_35 (pc' := 515) rfl ?_
                        refine T_op zk_177_515 rfl (X_bi (v := 75) (by decide)) (pc' := 517) rfl ?_
                        refine T_ld zk_177_517 rfl rfl rfl (pc' := 519) rfl ?_
                        refine T_op zk_177_519 rfl X_add (pc' := 520) rfl ?_
                        refine T_op zk_177_520 rfl X_ic (pc' := 521) rfl ?_
                        refine G_iast (J' := (fun σ' => IF MLg σ σ' ∧ σ' 36 0 0 634 = n + 1 ∧ σ' 36 0 0 (Int.toNat (75 + x201)) = 0 ∧ True)) (ln := 646) zk_177_521 rfl rfl (vd_36 (by omega)) (by omega) (by omega) (by omega) (fun σ' h => ⟨h.1.up (by simp only [rgP] <;> omega) (by first | exact pMLg rfl | (unfold MLg; omega)), (up_ne (by omega)).trans (h.2.1), up_eq, trivial⟩) (pc' := 522) rfl ?_
                        refine T_iinc (L' := [(0, av 35 0 0), (1, iv p0), (2, iv x11), (3, iv x18), (4, iv ((n + 1) / 96)), (5, iv (x201 + 1))]) zk_177_522 (nL := 6) rfl rfl rfl rfl (pc' := 525) rfl ?_
                        refine T_goto zk_177_525 ?_
                        refine G_know (J' := (fun σ' => IF MLg σ σ' ∧ σ' 36 0 0 634 = n + 1 ∧ True)) (fun σ' h => ⟨h.1, h.2.1, trivial⟩) ?_
                        exact ih202 (x201 + 1) (by omega) (by omega)
                      ·
                        refine T_ld zk_177_498 rfl rfl rfl (pc' := 499) rfl ?_
                        refine T_getR (t' := 36) (i' := 0) (k' := 0) zk_177_499 rfl rfl rfl vd_35 (pc' := 502) rfl ?_
                        refine T_op zk_177_502 rfl X_ic (pc' := 503) rfl ?_
                        refine T_ld zk_177_503 rfl rfl rfl (pc' := 505) rfl ?_
                        refine T_op zk_177_505 rfl X_add (pc' := 506) rfl ?_
                        refine T_op (st' := [iv (0 + x201), av 36 0 0, iv (0 + x201), av 36 0 0]) zk_177_506 rfl rfl (pc' := 507) rfl ?_
                        refine G_iald (lo := -2147483648) (hi := 2147483647) (ln := 646) zk_177_507 rfl rfl (vd_36 (by omega)) (by omega) (by omega) (by omega) (fun σ' h => h.1.1) (fun _ h => (by have q := h.1; omega)) (pc' := 508) rfl (fun y227 hy227 hy227' => ?_)
                        refine T_op zk_177_508 rfl X_ic (pc' := 509) rfl ?_
                        refine G_unk zk_177_509 rfl (pc' := 510) rfl (fun y228 hy228 hy228' => ?_)
                        refine G_iast (J' := (fun σ' => IF MLg σ σ' ∧ σ' 36 0 0 634 = n + 1 ∧ σ' 36 0 0 (Int.toNat (0 + x201)) = y228 ∧ True)) (ln := 646) zk_177_510 rfl rfl (vd_36 (by omega)) (by omega) (by omega) (by omega) (fun σ' h => ⟨h.1.up (by simp only [rgP] <;> omega) (by first | exact pMLg rfl | (unfold MLg; omega)), (up_ne (by omega)).trans (h.2.1), up_eq, trivial⟩) (pc' := 511) rfl ?_
                        refine T_ld zk_177_511 rfl rfl rfl (pc' := 512) rfl ?_
                        refine T_getR (t' := 36) (i' := 0) (k' := 0) zk_177_512 rfl rfl rfl vd_35 (pc' := 515) rfl ?_
                        refine T_op zk_177_515 rfl (X_bi (v := 75) (by decide)) (pc' := 517) rfl ?_
                        refine T_ld zk_177_517 rfl rfl rfl (pc' := 519) rfl ?_
                        refine T_op zk_177_519 rfl X_add (pc' := 520) rfl ?_
                        refine T_op zk_177_520 rfl X_ic (pc' := 521) rfl ?_
                        refine G_iast (J' := (fun σ' => IF MLg σ σ' ∧ σ' 36 0 0 634 = n + 1 ∧ σ' 36 0 0 (Int.toNat (75 + x201)) = 0 ∧ True)) (ln := 646) zk_177_521 rfl rfl (vd_36 (by omega)) (by omega) (by omega) (by omega) (fun σ' h => ⟨h.1.up (by simp only [rgP] <;> omega) (by first | exact pMLg rfl | (unfold MLg; omega)), (up_ne (by omega)).trans (h.2.1), up_eq, trivial⟩) (pc' := 522) rfl ?_
                        refine T_iinc (L' := [(0, av 35 0 0), (1, iv p0), (2, iv x11), (3, iv x18), (4, iv ((n + 1) / 96)), (5, iv (x201 + 1))]) zk_177_522 (nL := 6) rfl rfl rfl rfl (pc' := 525) rfl ?_
                        refine T_goto zk_177_525 ?_
                        refine G_know (J' := (fun σ' => IF MLg σ σ' ∧ σ' 36 0 0 634 = n + 1 ∧ True)) (fun σ' h => ⟨h.1, h.2.1, trivial⟩) ?_
                        exact ih202 (x201 + 1) (by omega) (by omega)
                ·
                  exact T_vret zk_177_441 rfl (fun σ' h => ⟨rfl, h.1, ⟨h.2.2.1, trivial⟩⟩)
              · exfalso; omega
        ·
          refine T_ld zk_177_336 rfl rfl rfl (pc' := 337) rfl ?_
          refine T_getR (t' := 36) (i' := 0) (k' := 0) zk_177_337 rfl rfl rfl vd_35 (pc' := 340) rfl ?_
          refine T_op zk_177_340 rfl (X_si (v := 253) (by decide)) (pc' := 343) rfl ?_
          refine T_ld zk_177_343 rfl rfl rfl (pc' := 345) rfl ?_
          refine T_op zk_177_345 rfl X_add (pc' := 346) rfl ?_
          refine G_iald (lo := -2147483648) (hi := 2147483647) (ln := 646) zk_177_346 rfl rfl (vd_36 (by omega)) (by omega) (by omega) (by omega) (fun σ' h => h.1.1) (fun _ h => (by have q := h.1; omega)) (pc' := 347) rfl (fun y229 hy229 hy229' => ?_)
          refine T_op zk_177_347 rfl X_ic (pc' := 348) rfl ?_
          refine T_icmp_ne zk_177_348 (by omega) (by omega) (pc' := 351) rfl (fun h230 => ?_) (fun h231 => ?_)
          ·
            refine T_iinc (L' := [(0, av 35 0 0), (1, iv p0), (2, iv x11), (3, iv x18), (4, iv (x19 + 1))]) zk_177_353 (nL := 6) rfl rfl rfl rfl (pc' := 356) rfl ?_
            refine T_goto zk_177_356 ?_
            exact ih20 x18 (x19 + 1) (by omega) (by omega)
          ·
            refine T_op zk_177_351 rfl X_ic (pc' := 352) rfl ?_
            refine T_st (L' := [(0, av 35 0 0), (1, iv p0), (2, iv x11), (3, iv 1), (4, iv x19)]) zk_177_352 (nL := 6) rfl rfl rfl rfl rfl (pc' := 353) rfl ?_
            refine T_iinc (L' := [(0, av 35 0 0), (1, iv p0), (2, iv x11), (3, iv 1), (4, iv (x19 + 1))]) zk_177_353 (nL := 6) rfl rfl rfl rfl (pc' := 356) rfl ?_
            refine T_goto zk_177_356 ?_
            exact ih20 1 (x19 + 1) (by omega) (by omega)
      ·
        refine T_ld zk_177_103 rfl rfl rfl (pc' := 104) rfl ?_
        refine T_getR (t' := 36) (i' := 0) (k' := 0) zk_177_104 rfl rfl rfl vd_35 (pc' := 107) rfl ?_
        refine T_op zk_177_107 rfl (X_bi (v := 25) (by decide)) (pc' := 109) rfl ?_
        refine T_ld zk_177_109 rfl rfl rfl (pc' := 110) rfl ?_
        refine T_getR (t' := 36) (i' := 0) (k' := 0) zk_177_110 rfl rfl rfl vd_35 (pc' := 113) rfl ?_
        refine T_op zk_177_113 rfl (X_si (v := 460) (by decide)) (pc' := 116) rfl ?_
        refine T_ld zk_177_116 rfl rfl rfl (pc' := 117) rfl ?_
        refine T_op zk_177_117 rfl X_add (pc' := 118) rfl ?_
        refine G_iald (lo := 0) (hi := 24) (ln := 646) zk_177_118 rfl rfl (vd_36 (by omega)) (by omega) (by omega) (by omega) (fun σ' h => h.1.1) (fun _ h => h.2.2.1 (by omega) (by omega)) (pc' := 119) rfl (fun y232 hy232 hy232' => ?_)
        refine T_op zk_177_119 rfl X_add (pc' := 120) rfl ?_
        refine G_iald (lo := -2147483648) (hi := 2147483647) (ln := 646) zk_177_120 rfl rfl (vd_36 (by omega)) (by omega) (by omega) (by omega) (fun σ' h => h.1.1) (fun _ h => (by have q := h.1; omega)) (pc' := 121) rfl (fun y233 hy233 hy233' => ?_)
        refine T_ld zk_177_121 rfl rfl rfl (pc' := 122) rfl ?_
        refine T_getR (t' := 36) (i' := 0) (k' := 0) zk_177_122 rfl rfl rfl vd_35 (pc' := 125) rfl ?_
        refine T_op zk_177_125 rfl (X_si (v := 472) (by decide)) (pc' := 128) rfl ?_
        refine T_ld zk_177_128 rfl rfl rfl (pc' := 129) rfl ?_
        refine T_op zk_177_129 rfl X_add (pc' := 130) rfl ?_
        refine G_iald (lo := -2147483648) (hi := 2147483647) (ln := 646) zk_177_130 rfl rfl (vd_36 (by omega)) (by omega) (by omega) (by omega) (fun σ' h => h.1.1) (fun _ h => (by have q := h.1; omega)) (pc' := 131) rfl (fun y234 hy234 hy234' => ?_)
        refine T_ld zk_177_131 rfl rfl rfl (pc' := 132) rfl ?_
        refine T_getR (t' := 36) (i' := 0) (k' := 0) zk_177_132 rfl rfl rfl vd_35 (pc' := 135) rfl ?_
        refine T_op zk_177_135 rfl (X_si (v := 508) (by decide)) (pc' := 138) rfl ?_
        refine T_ld zk_177_138 rfl rfl rfl (pc' := 139) rfl ?_
        refine T_op zk_177_139 rfl X_add (pc' := 140) rfl ?_
        refine G_iald (lo := -2147483648) (hi := 2147483647) (ln := 646) zk_177_140 rfl rfl (vd_36 (by omega)) (by omega) (by omega) (by omega) (fun σ' h => h.1.1) (fun _ h => (by have q := h.1; omega)) (pc' := 141) rfl (fun y235 hy235 hy235' => ?_)
        refine G_unk zk_177_141 rfl (pc' := 142) rfl (fun y236 hy236 hy236' => ?_)
        refine T_icmp_le zk_177_142 (by omega) (by omega) (pc' := 145) rfl (fun h237 => ?_) (fun h238 => ?_)
        ·
          refine T_op zk_177_149 rfl X_ic (pc' := 150) rfl ?_
          refine T_st (L' := [(0, av 35 0 0), (1, iv p0), (2, iv x11), (3, iv x12), (4, iv 0)]) zk_177_150 (nL := 6) rfl rfl rfl rfl rfl (pc' := 152) rfl ?_
          refine T_ld zk_177_152 rfl rfl rfl (pc' := 153) rfl ?_
          refine T_getR (t' := 36) (i' := 0) (k' := 0) zk_177_153 rfl rfl rfl vd_35 (pc' := 156) rfl ?_
          refine T_op zk_177_156 rfl (X_si (v := 556) (by decide)) (pc' := 159) rfl ?_
          refine T_ld zk_177_159 rfl rfl rfl (pc' := 160) rfl ?_
          refine T_op zk_177_160 rfl X_add (pc' := 161) rfl ?_
          refine T_ld zk_177_161 rfl rfl rfl (pc' := 163) rfl ?_
          refine T_if_eq zk_177_163 (by omega) (pc' := 166) rfl (fun h239 => ?_) (fun h240 => ?_)
          ·
            refine T_op zk_177_170 rfl X_ic (pc' := 171) rfl ?_
            refine G_iast (J' := (fun σ' => IF MLg σ σ' ∧ σ' 36 0 0 634 = n ∧ σ' 36 0 0 (Int.toNat (556 + x12)) = 0 ∧ True)) (ln := 646) zk_177_171 rfl rfl (vd_36 (by omega)) (by omega) (by omega) (by omega) (fun σ' h => ⟨h.1.up (by simp only [rgP] <;> omega) (by first | exact pMLg rfl | (unfold MLg; omega)), (up_ne (by omega)).trans (h.2.1), up_eq, trivial⟩) (pc' := 172) rfl ?_
            refine T_ld zk_177_172 rfl rfl rfl (pc' := 174) rfl ?_
            refine T_if_eq zk_177_174 (by omega) (pc' := 177) rfl (fun h241 => ?_) (fun h242 => ?_)
            ·
              refine T_ld zk_177_271 rfl rfl rfl (pc' := 272) rfl ?_
              refine T_getR (t' := 36) (i' := 0) (k' := 0) zk_177_272 rfl rfl rfl vd_35 (pc' := 275) rfl ?_
              refine T_op zk_177_275 rfl (X_si (v := 448) (by decide)) (pc' := 278) rfl ?_
              refine T_ld zk_177_278 rfl rfl rfl (pc' := 279) rfl ?_
              refine T_op zk_177_279 rfl X_add (pc' := 280) rfl ?_
              refine G_iald (lo := -2147483648) (hi := 2147483647) (ln := 646) zk_177_280 rfl rfl (vd_36 (by omega)) (by omega) (by omega) (by omega) (fun σ' h => h.1.1) (fun _ h => (by have q := h.1; omega)) (pc' := 281) rfl (fun y243 hy243 hy243' => ?_)
              refine T_op zk_177_281 rfl X_ic (pc' := 282) rfl ?_
              refine T_icmp_ne zk_177_282 (by omega) (by omega) (pc' := 285) rfl (fun h244 => ?_) (fun h245 => ?_)
              ·
                refine T_iinc (L' := [(0, av 35 0 0), (1, iv p0), (2, iv x11), (3, iv (x12 + 1)), (4, iv 0)]) zk_177_312 (nL := 6) rfl rfl rfl rfl (pc' := 315) rfl ?_
                refine T_goto zk_177_315 ?_
                refine G_know (J' := (fun σ' => IF MLg σ σ' ∧ σ' 36 0 0 634 = n ∧ True)) (fun σ' h => ⟨h.1, h.2.1, trivial⟩) ?_
                refine T_loc (L := [(0, av 35 0 0), (1, iv p0), (2, iv x11), (3, iv (x12 + 1))]) (E := [(4, iv 0)]) rfl ?_
                exact ih13 x11 (x12 + 1) (by omega) (by omega)
              ·
                refine T_ld zk_177_285 rfl rfl rfl (pc' := 286) rfl ?_
                refine T_getR (t' := 36) (i' := 0) (k' := 0) zk_177_286 rfl rfl rfl vd_35 (pc' := 289) rfl ?_
                refine T_op zk_177_289 rfl (X_si (v := 544) (by decide)) (pc' := 292) rfl ?_
                refine T_ld zk_177_292 rfl rfl rfl (pc' := 293) rfl ?_
                refine T_op zk_177_293 rfl X_add (pc' := 294) rfl ?_
                refine G_iald (lo := -2147483648) (hi := 2147483647) (ln := 646) zk_177_294 rfl rfl (vd_36 (by omega)) (by omega) (by omega) (by omega) (fun σ' h => h.1.1) (fun _ h => (by have q := h.1; omega)) (pc' := 295) rfl (fun y246 hy246 hy246' => ?_)
                refine T_if_le zk_177_295 (by omega) (pc' := 298) rfl (fun h247 => ?_) (fun h248 => ?_)
                ·
                  refine T_iinc (L' := [(0, av 35 0 0), (1, iv p0), (2, iv x11), (3, iv (x12 + 1)), (4, iv 0)]) zk_177_312 (nL := 6) rfl rfl rfl rfl (pc' := 315) rfl ?_
                  refine T_goto zk_177_315 ?_
                  refine G_know (J' := (fun σ' => IF MLg σ σ' ∧ σ' 36 0 0 634 = n ∧ True)) (fun σ' h => ⟨h.1, h.2.1, trivial⟩) ?_
                  refine T_loc (L := [(0, av 35 0 0), (1, iv p0), (2, iv x11), (3, iv (x12 + 1))]) (E := [(4, iv 0)]) rfl ?_
                  exact ih13 x11 (x12 + 1) (by omega) (by omega)
                ·
                  refine T_ld zk_177_298 rfl rfl rfl (pc' := 299) rfl ?_
                  refine T_getR (t' := 36) (i' := 0) (k' := 0) zk_177_299 rfl rfl rfl vd_35 (pc' := 302) rfl ?_
                  refine T_op zk_177_302 rfl (X_si (v := 544) (by decide)) (pc' := 305) rfl ?_
                  refine T_ld zk_177_305 rfl rfl rfl (pc' := 306) rfl ?_
                  refine T_op zk_177_306 rfl X_add (pc' := 307) rfl ?_
                  refine T_op (st' := [iv (544 + x12), av 36 0 0, iv (544 + x12), av 36 0 0]) zk_177_307 rfl rfl (pc' := 308) rfl ?_
                  refine G_iald (lo := -2147483648) (hi := 2147483647) (ln := 646) zk_177_308 rfl rfl (vd_36 (by omega)) (by omega) (by omega) (by omega) (fun σ' h => h.1.1) (fun _ h => (by have q := h.1; omega)) (pc' := 309) rfl (fun y249 hy249 hy249' => ?_)
                  refine T_op zk_177_309 rfl X_ic (pc' := 310) rfl ?_
                  refine G_unk zk_177_310 rfl (pc' := 311) rfl (fun y250 hy250 hy250' => ?_)
                  refine G_iast (J' := (fun σ' => IF MLg σ σ' ∧ σ' 36 0 0 634 = n ∧ σ' 36 0 0 (Int.toNat (544 + x12)) = y250 ∧ True)) (ln := 646) zk_177_311 rfl rfl (vd_36 (by omega)) (by omega) (by omega) (by omega) (fun σ' h => ⟨h.1.up (by simp only [rgP] <;> omega) (by first | exact pMLg rfl | (unfold MLg; omega)), (up_ne (by omega)).trans (h.2.1), up_eq, trivial⟩) (pc' := 312) rfl ?_
                  refine T_iinc (L' := [(0, av 35 0 0), (1, iv p0), (2, iv x11), (3, iv (x12 + 1)), (4, iv 0)]) zk_177_312 (nL := 6) rfl rfl rfl rfl (pc' := 315) rfl ?_
                  refine T_goto zk_177_315 ?_
                  refine G_know (J' := (fun σ' => IF MLg σ σ' ∧ σ' 36 0 0 634 = n ∧ True)) (fun σ' h => ⟨h.1, h.2.1, trivial⟩) ?_
                  refine T_loc (L := [(0, av 35 0 0), (1, iv p0), (2, iv x11), (3, iv (x12 + 1))]) (E := [(4, iv 0)]) rfl ?_
                  exact ih13 x11 (x12 + 1) (by omega) (by omega)
            · exfalso; omega
          · exfalso; omega
        ·
          refine T_op zk_177_145 rfl X_ic (pc' := 146) rfl ?_
          refine T_goto zk_177_146 ?_
          refine T_st (L' := [(0, av 35 0 0), (1, iv p0), (2, iv x11), (3, iv x12), (4, iv 1)]) zk_177_150 (nL := 6) rfl rfl rfl rfl rfl (pc' := 152) rfl ?_
          refine T_ld zk_177_152 rfl rfl rfl (pc' := 153) rfl ?_
          refine T_getR (t' := 36) (i' := 0) (k' := 0) zk_177_153 rfl rfl rfl vd_35 (pc' := 156) rfl ?_
          refine T_op zk_177_156 rfl (X_si (v := 556) (by decide)) (pc' := 159) rfl ?_
          refine T_ld zk_177_159 rfl rfl rfl (pc' := 160) rfl ?_
          refine T_op zk_177_160 rfl X_add (pc' := 161) rfl ?_
          refine T_ld zk_177_161 rfl rfl rfl (pc' := 163) rfl ?_
          refine T_if_eq zk_177_163 (by omega) (pc' := 166) rfl (fun h251 => ?_) (fun h252 => ?_)
          · exfalso; omega
          ·
            refine T_op zk_177_166 rfl X_ic (pc' := 167) rfl ?_
            refine T_goto zk_177_167 ?_
            refine G_iast (J' := (fun σ' => IF MLg σ σ' ∧ σ' 36 0 0 634 = n ∧ σ' 36 0 0 (Int.toNat (556 + x12)) = 1 ∧ True)) (ln := 646) zk_177_171 rfl rfl (vd_36 (by omega)) (by omega) (by omega) (by omega) (fun σ' h => ⟨h.1.up (by simp only [rgP] <;> omega) (by first | exact pMLg rfl | (unfold MLg; omega)), (up_ne (by omega)).trans (h.2.1), up_eq, trivial⟩) (pc' := 172) rfl ?_
            refine T_ld zk_177_172 rfl rfl rfl (pc' := 174) rfl ?_
            refine T_if_eq zk_177_174 (by omega) (pc' := 177) rfl (fun h253 => ?_) (fun h254 => ?_)
            · exfalso; omega
            ·
              refine T_op zk_177_177 rfl X_ic (pc' := 178) rfl ?_
              refine T_st (L' := [(0, av 35 0 0), (1, iv p0), (2, iv 1), (3, iv x12), (4, iv 1)]) zk_177_178 (nL := 6) rfl rfl rfl rfl rfl (pc' := 179) rfl ?_
              refine T_ld zk_177_179 rfl rfl rfl (pc' := 180) rfl ?_
              refine T_op (st' := [av 35 0 0, av 35 0 0]) zk_177_180 rfl rfl (pc' := 181) rfl ?_
              refine G_getf (lo := -2147483648) (hi := 2147483647) zk_177_181 rfl vd_35 (fun σ' h => h.1.1) (fun _ h => (by have q := h.1; omega)) (pc' := 184) rfl (fun y255 hy255 hy255' => ?_)
              refine T_op zk_177_184 rfl X_ic (pc' := 185) rfl ?_
              refine G_unk zk_177_185 rfl (pc' := 186) rfl (fun y256 hy256 hy256' => ?_)
              refine T_putf (J' := (fun σ' => IF MLg σ σ' ∧ σ' 36 0 0 634 = n ∧ σ' 36 0 0 (Int.toNat (556 + x12)) = 1 ∧ σ' 35 0 0 32 = y256 ∧ True)) zk_177_186 rfl rfl vd_35 (fun σ' h => ⟨h.1.up (by simp only [rgP] <;> omega) (by first | exact pMLg rfl | (unfold MLg; omega)), (up_ne (by omega)).trans (h.2.1), (up_ne (by omega)).trans (h.2.2.1), up_eq, trivial⟩) (pc' := 189) rfl ?_
              refine T_ld zk_177_189 rfl rfl rfl (pc' := 190) rfl ?_
              refine T_getR (t' := 36) (i' := 0) (k' := 0) zk_177_190 rfl rfl rfl vd_35 (pc' := 193) rfl ?_
              refine T_op zk_177_193 rfl (X_si (v := 520) (by decide)) (pc' := 196) rfl ?_
              refine T_ld zk_177_196 rfl rfl rfl (pc' := 197) rfl ?_
              refine T_op zk_177_197 rfl X_add (pc' := 198) rfl ?_
              refine T_op (st' := [iv (520 + x12), av 36 0 0, iv (520 + x12), av 36 0 0]) zk_177_198 rfl rfl (pc' := 199) rfl ?_
              refine G_iald (lo := -2147483648) (hi := 2147483647) (ln := 646) zk_177_199 rfl rfl (vd_36 (by omega)) (by omega) (by omega) (by omega) (fun σ' h => h.1.1) (fun _ h => (by have q := h.1; omega)) (pc' := 200) rfl (fun y257 hy257 hy257' => ?_)
              refine T_op zk_177_200 rfl X_ic (pc' := 201) rfl ?_
              refine G_unk zk_177_201 rfl (pc' := 202) rfl (fun y258 hy258 hy258' => ?_)
              refine G_iast (J' := (fun σ' => IF MLg σ σ' ∧ σ' 36 0 0 634 = n ∧ σ' 35 0 0 32 = y256 ∧ σ' 36 0 0 (Int.toNat (520 + x12)) = y258 ∧ True)) (ln := 646) zk_177_202 rfl rfl (vd_36 (by omega)) (by omega) (by omega) (by omega) (fun σ' h => ⟨h.1.up (by simp only [rgP] <;> omega) (by first | exact pMLg rfl | (unfold MLg; omega)), (up_ne (by omega)).trans (h.2.1), (up_ne (by omega)).trans (h.2.2.2.1), up_eq, trivial⟩) (pc' := 203) rfl ?_
              refine T_ld zk_177_203 rfl rfl rfl (pc' := 204) rfl ?_
              refine T_getR (t' := 36) (i' := 0) (k' := 0) zk_177_204 rfl rfl rfl vd_35 (pc' := 207) rfl ?_
              refine T_op zk_177_207 rfl (X_si (v := 448) (by decide)) (pc' := 210) rfl ?_
              refine T_ld zk_177_210 rfl rfl rfl (pc' := 211) rfl ?_
              refine T_op zk_177_211 rfl X_add (pc' := 212) rfl ?_
              refine G_iald (lo := -2147483648) (hi := 2147483647) (ln := 646) zk_177_212 rfl rfl (vd_36 (by omega)) (by omega) (by omega) (by omega) (fun σ' h => h.1.1) (fun _ h => (by have q := h.1; omega)) (pc' := 213) rfl (fun y259 hy259 hy259' => ?_)
              refine T_op zk_177_213 rfl X_ic (pc' := 214) rfl ?_
              refine T_icmp_ne zk_177_214 (by omega) (by omega) (pc' := 217) rfl (fun h260 => ?_) (fun h261 => ?_)
              ·
                refine T_ld zk_177_240 rfl rfl rfl (pc' := 241) rfl ?_
                refine T_getR (t' := 36) (i' := 0) (k' := 0) zk_177_241 rfl rfl rfl vd_35 (pc' := 244) rfl ?_
                refine T_op zk_177_244 rfl (X_si (v := 448) (by decide)) (pc' := 247) rfl ?_
                refine T_ld zk_177_247 rfl rfl rfl (pc' := 248) rfl ?_
                refine T_op zk_177_248 rfl X_add (pc' := 249) rfl ?_
                refine G_iald (lo := -2147483648) (hi := 2147483647) (ln := 646) zk_177_249 rfl rfl (vd_36 (by omega)) (by omega) (by omega) (by omega) (fun σ' h => h.1.1) (fun _ h => (by have q := h.1; omega)) (pc' := 250) rfl (fun y262 hy262 hy262' => ?_)
                refine T_op zk_177_250 rfl X_ic (pc' := 251) rfl ?_
                refine T_icmp_ne zk_177_251 (by omega) (by omega) (pc' := 254) rfl (fun h263 => ?_) (fun h264 => ?_)
                ·
                  refine T_iinc (L' := [(0, av 35 0 0), (1, iv p0), (2, iv 1), (3, iv (x12 + 1)), (4, iv 1)]) zk_177_312 (nL := 6) rfl rfl rfl rfl (pc' := 315) rfl ?_
                  refine T_goto zk_177_315 ?_
                  refine G_know (J' := (fun σ' => IF MLg σ σ' ∧ σ' 36 0 0 634 = n ∧ True)) (fun σ' h => ⟨h.1, h.2.1, trivial⟩) ?_
                  refine T_loc (L := [(0, av 35 0 0), (1, iv p0), (2, iv 1), (3, iv (x12 + 1))]) (E := [(4, iv 1)]) rfl ?_
                  exact ih13 1 (x12 + 1) (by omega) (by omega)
                ·
                  refine T_ld zk_177_254 rfl rfl rfl (pc' := 255) rfl ?_
                  refine T_getR (t' := 36) (i' := 0) (k' := 0) zk_177_255 rfl rfl rfl vd_35 (pc' := 258) rfl ?_
                  refine T_op zk_177_258 rfl (X_si (v := 544) (by decide)) (pc' := 261) rfl ?_
                  refine T_ld zk_177_261 rfl rfl rfl (pc' := 262) rfl ?_
                  refine T_op zk_177_262 rfl X_add (pc' := 263) rfl ?_
                  refine T_op (st' := [iv (544 + x12), av 36 0 0, iv (544 + x12), av 36 0 0]) zk_177_263 rfl rfl (pc' := 264) rfl ?_
                  refine G_iald (lo := -2147483648) (hi := 2147483647) (ln := 646) zk_177_264 rfl rfl (vd_36 (by omega)) (by omega) (by omega) (by omega) (fun σ' h => h.1.1) (fun _ h => (by have q := h.1; omega)) (pc' := 265) rfl (fun y265 hy265 hy265' => ?_)
                  refine T_op zk_177_265 rfl X_ic (pc' := 266) rfl ?_
                  refine G_unk zk_177_266 rfl (pc' := 267) rfl (fun y266 hy266 hy266' => ?_)
                  refine G_iast (J' := (fun σ' => IF MLg σ σ' ∧ σ' 36 0 0 634 = n ∧ σ' 35 0 0 32 = y256 ∧ σ' 36 0 0 (Int.toNat (544 + x12)) = y266 ∧ True)) (ln := 646) zk_177_267 rfl rfl (vd_36 (by omega)) (by omega) (by omega) (by omega) (fun σ' h => ⟨h.1.up (by simp only [rgP] <;> omega) (by first | exact pMLg rfl | (unfold MLg; omega)), (up_ne (by omega)).trans (h.2.1), (up_ne (by omega)).trans (h.2.2.1), up_eq, trivial⟩) (pc' := 268) rfl ?_
                  refine T_goto zk_177_268 ?_
                  refine T_iinc (L' := [(0, av 35 0 0), (1, iv p0), (2, iv 1), (3, iv (x12 + 1)), (4, iv 1)]) zk_177_312 (nL := 6) rfl rfl rfl rfl (pc' := 315) rfl ?_
                  refine T_goto zk_177_315 ?_
                  refine G_know (J' := (fun σ' => IF MLg σ σ' ∧ σ' 36 0 0 634 = n ∧ True)) (fun σ' h => ⟨h.1, h.2.1, trivial⟩) ?_
                  refine T_loc (L := [(0, av 35 0 0), (1, iv p0), (2, iv 1), (3, iv (x12 + 1))]) (E := [(4, iv 1)]) rfl ?_
                  exact ih13 1 (x12 + 1) (by omega) (by omega)
              ·
                refine T_ld zk_177_217 rfl rfl rfl (pc' := 218) rfl ?_
                refine T_getR (t' := 36) (i' := 0) (k' := 0) zk_177_218 rfl rfl rfl vd_35 (pc' := 221) rfl ?_
                refine T_op zk_177_221 rfl (X_si (v := 532) (by decide)) (pc' := 224) rfl ?_
                refine T_ld zk_177_224 rfl rfl rfl (pc' := 225) rfl ?_
                refine T_op zk_177_225 rfl X_add (pc' := 226) rfl ?_
                refine T_op (st' := [iv (532 + x12), av 36 0 0, iv (532 + x12), av 36 0 0]) zk_177_226 rfl rfl (pc' := 227) rfl ?_
                refine G_iald (lo := -2147483648) (hi := 2147483647) (ln := 646) zk_177_227 rfl rfl (vd_36 (by omega)) (by omega) (by omega) (by omega) (fun σ' h => h.1.1) (fun _ h => (by have q := h.1; omega)) (pc' := 228) rfl (fun y267 hy267 hy267' => ?_)
                refine T_ld zk_177_228 rfl rfl rfl (pc' := 229) rfl ?_
                refine T_getR (t' := 36) (i' := 0) (k' := 0) zk_177_229 rfl rfl rfl vd_35 (pc' := 232) rfl ?_
                refine T_op zk_177_232 rfl (X_si (v := 496) (by decide)) (pc' := 235) rfl ?_
                refine T_ld zk_177_235 rfl rfl rfl (pc' := 236) rfl ?_
                refine T_op zk_177_236 rfl X_add (pc' := 237) rfl ?_
                refine G_iald (lo := -2147483648) (hi := 2147483647) (ln := 646) zk_177_237 rfl rfl (vd_36 (by omega)) (by omega) (by omega) (by omega) (fun σ' h => h.1.1) (fun _ h => (by have q := h.1; omega)) (pc' := 238) rfl (fun y268 hy268 hy268' => ?_)
                refine G_unk zk_177_238 rfl (pc' := 239) rfl (fun y269 hy269 hy269' => ?_)
                refine G_iast (J' := (fun σ' => IF MLg σ σ' ∧ σ' 36 0 0 634 = n ∧ σ' 35 0 0 32 = y256 ∧ σ' 36 0 0 (Int.toNat (532 + x12)) = y269 ∧ True)) (ln := 646) zk_177_239 rfl rfl (vd_36 (by omega)) (by omega) (by omega) (by omega) (fun σ' h => ⟨h.1.up (by simp only [rgP] <;> omega) (by first | exact pMLg rfl | (unfold MLg; omega)), (up_ne (by omega)).trans (h.2.1), (up_ne (by omega)).trans (h.2.2.1), up_eq, trivial⟩) (pc' := 240) rfl ?_
                refine T_ld zk_177_240 rfl rfl rfl (pc' := 241) rfl ?_
                refine T_getR (t' := 36) (i' := 0) (k' := 0) zk_177_241 rfl rfl rfl vd_35 (pc' := 244) rfl ?_
                refine T_op zk_177_244 rfl (X_si (v := 448) (by decide)) (pc' := 247) rfl ?_
                refine T_ld zk_177_247 rfl rfl rfl (pc' := 248) rfl ?_
                refine T_op zk_177_248 rfl X_add (pc' := 249) rfl ?_
                refine G_iald (lo := -2147483648) (hi := 2147483647) (ln := 646) zk_177_249 rfl rfl (vd_36 (by omega)) (by omega) (by omega) (by omega) (fun σ' h => h.1.1) (fun _ h => (by have q := h.1; omega)) (pc' := 250) rfl (fun y270 hy270 hy270' => ?_)
                refine T_op zk_177_250 rfl X_ic (pc' := 251) rfl ?_
                refine T_icmp_ne zk_177_251 (by omega) (by omega) (pc' := 254) rfl (fun h271 => ?_) (fun h272 => ?_)
                ·
                  refine T_iinc (L' := [(0, av 35 0 0), (1, iv p0), (2, iv 1), (3, iv (x12 + 1)), (4, iv 1)]) zk_177_312 (nL := 6) rfl rfl rfl rfl (pc' := 315) rfl ?_
                  refine T_goto zk_177_315 ?_
                  refine G_know (J' := (fun σ' => IF MLg σ σ' ∧ σ' 36 0 0 634 = n ∧ True)) (fun σ' h => ⟨h.1, h.2.1, trivial⟩) ?_
                  refine T_loc (L := [(0, av 35 0 0), (1, iv p0), (2, iv 1), (3, iv (x12 + 1))]) (E := [(4, iv 1)]) rfl ?_
                  exact ih13 1 (x12 + 1) (by omega) (by omega)
                ·
                  refine T_ld zk_177_254 rfl rfl rfl (pc' := 255) rfl ?_
                  refine T_getR (t' := 36) (i' := 0) (k' := 0) zk_177_255 rfl rfl rfl vd_35 (pc' := 258) rfl ?_
                  refine T_op zk_177_258 rfl (X_si (v := 544) (by decide)) (pc' := 261) rfl ?_
                  refine T_ld zk_177_261 rfl rfl rfl (pc' := 262) rfl ?_
                  refine T_op zk_177_262 rfl X_add (pc' := 263) rfl ?_
                  refine T_op (st' := [iv (544 + x12), av 36 0 0, iv (544 + x12), av 36 0 0]) zk_177_263 rfl rfl (pc' := 264) rfl ?_
                  refine G_iald (lo := -2147483648) (hi := 2147483647) (ln := 646) zk_177_264 rfl rfl (vd_36 (by omega)) (by omega) (by omega) (by omega) (fun σ' h => h.1.1) (fun _ h => (by have q := h.1; omega)) (pc' := 265) rfl (fun y273 hy273 hy273' => ?_)
                  refine T_op zk_177_265 rfl X_ic (pc' := 266) rfl ?_
                  refine G_unk zk_177_266 rfl (pc' := 267) rfl (fun y274 hy274 hy274' => ?_)
                  refine G_iast (J' := (fun σ' => IF MLg σ σ' ∧ σ' 36 0 0 634 = n ∧ σ' 35 0 0 32 = y256 ∧ σ' 36 0 0 (Int.toNat (544 + x12)) = y274 ∧ True)) (ln := 646) zk_177_267 rfl rfl (vd_36 (by omega)) (by omega) (by omega) (by omega) (fun σ' h => ⟨h.1.up (by simp only [rgP] <;> omega) (by first | exact pMLg rfl | (unfold MLg; omega)), (up_ne (by omega)).trans (h.2.1), (up_ne (by omega)).trans (h.2.2.1), up_eq, trivial⟩) (pc' := 268) rfl ?_
                  refine T_goto zk_177_268 ?_
                  refine T_iinc (L' := [(0, av 35 0 0), (1, iv p0), (2, iv 1), (3, iv (x12 + 1)), (4, iv 1)]) zk_177_312 (nL := 6) rfl rfl rfl rfl (pc' := 315) rfl ?_
                  refine T_goto zk_177_315 ?_
                  refine G_know (J' := (fun σ' => IF MLg σ σ' ∧ σ' 36 0 0 634 = n ∧ True)) (fun σ' h => ⟨h.1, h.2.1, trivial⟩) ?_
                  refine T_loc (L := [(0, av 35 0 0), (1, iv p0), (2, iv 1), (3, iv (x12 + 1))]) (E := [(4, iv 1)]) rfl ?_
                  exact ih13 1 (x12 + 1) (by omega) (by omega)
    ·
      refine T_op zk_177_28 rfl X_ic (pc' := 29) rfl ?_
      refine T_st (L' := [(0, av 35 0 0), (1, iv p0), (2, iv x6), (3, iv 0)]) zk_177_29 (nL := 6) rfl rfl rfl rfl rfl (pc' := 30) rfl ?_
      refine T_loop1 (fun x275 => ((6 - x275 : Int)).toNat) (fun x275 => (0 ≤ x275 ∧ x275 ≤ 6)) (fun x275 => TJ xs (fun σ' => IF MLg σ σ' ∧ σ' 36 0 0 634 = n ∧ True) 5 177 30 [(0, av 35 0 0), (1, iv p0), (2, iv x6), (3, iv x275)] [] _) ?_ 0 (by omega)
      intro x275 hp277 ih276
      refine T_ld zk_177_30 rfl rfl rfl (pc' := 31) rfl ?_
      refine T_ld zk_177_31 rfl rfl rfl (pc' := 32) rfl ?_
      refine T_getR (t' := 36) (i' := 0) (k' := 0) zk_177_32 rfl rfl rfl vd_35 (pc' := 35) rfl ?_
      refine T_op zk_177_35 rfl (X_si (v := 642) (by decide)) (pc' := 38) rfl ?_
      refine G_iald (lo := 0) (hi := 6) (ln := 646) zk_177_38 rfl rfl (vd_36 (by omega)) (by omega) (by omega) (by omega) (fun σ' h => h.1.1) (fun _ h => h.2.2.2.2.2.2.2.2.2.2.2.2.2 (by omega) (by omega)) (pc' := 39) rfl (fun y278 hy278 hy278' => ?_)
      refine T_icmp_ge zk_177_39 (by omega) (by omega) (pc' := 42) rfl (fun h279 => ?_) (fun h280 => ?_)
      ·
        refine T_iinc (L' := [(0, av 35 0 0), (1, iv p0), (2, iv (x6 + (-1))), (3, iv x275)]) zk_177_81 (nL := 6) rfl rfl rfl rfl (pc' := 84) rfl ?_
        refine T_goto zk_177_84 ?_
        refine T_loc (L := [(0, av 35 0 0), (1, iv p0), (2, iv (x6 + (-1)))]) (E := [(3, iv x275)]) rfl ?_
        exact ih7 (x6 + (-1)) (by omega) (by omega)
      ·
        refine T_ld zk_177_42 rfl rfl rfl (pc' := 43) rfl ?_
        refine T_getR (t' := 36) (i' := 0) (k' := 0) zk_177_43 rfl rfl rfl vd_35 (pc' := 46) rfl ?_
        refine T_op zk_177_46 rfl (X_si (v := 592) (by decide)) (pc' := 49) rfl ?_
        refine T_ld zk_177_49 rfl rfl rfl (pc' := 50) rfl ?_
        refine T_op zk_177_50 rfl X_add (pc' := 51) rfl ?_
        refine G_iald (lo := -2147483648) (hi := 2147483647) (ln := 646) zk_177_51 rfl rfl (vd_36 (by omega)) (by omega) (by omega) (by omega) (fun σ' h => h.1.1) (fun _ h => (by have q := h.1; omega)) (pc' := 52) rfl (fun y281 hy281 hy281' => ?_)
        refine T_ld zk_177_52 rfl rfl rfl (pc' := 53) rfl ?_
        refine T_icmp_ne zk_177_53 (by omega) (by omega) (pc' := 56) rfl (fun h282 => ?_) (fun h283 => ?_)
        ·
          refine T_iinc (L' := [(0, av 35 0 0), (1, iv p0), (2, iv x6), (3, iv (x275 + 1))]) zk_177_75 (nL := 6) rfl rfl rfl rfl (pc' := 78) rfl ?_
          refine T_goto zk_177_78 ?_
          exact ih276 (x275 + 1) (by omega) (by omega)
        ·
          refine T_ld zk_177_56 rfl rfl rfl (pc' := 57) rfl ?_
          refine T_getR (t' := 36) (i' := 0) (k' := 0) zk_177_57 rfl rfl rfl vd_35 (pc' := 60) rfl ?_
          refine T_op zk_177_60 rfl (X_si (v := 598) (by decide)) (pc' := 63) rfl ?_
          refine T_ld zk_177_63 rfl rfl rfl (pc' := 64) rfl ?_
          refine T_op zk_177_64 rfl X_add (pc' := 65) rfl ?_
          refine G_iald (lo := -1) (hi := 24) (ln := 646) zk_177_65 rfl rfl (vd_36 (by omega)) (by omega) (by omega) (by omega) (fun σ' h => h.1.1) (fun _ h => h.2.2.2.2.1 (by omega) (by omega)) (pc' := 66) rfl (fun y284 hy284 hy284' => ?_)
          refine T_op zk_177_66 rfl X_ic (pc' := 67) rfl ?_
          refine T_icmp_eq zk_177_67 (by omega) (by omega) (pc' := 70) rfl (fun h285 => ?_) (fun h286 => ?_)
          ·
            refine T_iinc (L' := [(0, av 35 0 0), (1, iv p0), (2, iv x6), (3, iv (x275 + 1))]) zk_177_75 (nL := 6) rfl rfl rfl rfl (pc' := 78) rfl ?_
            refine T_goto zk_177_78 ?_
            exact ih276 (x275 + 1) (by omega) (by omega)
          ·
            refine T_ld zk_177_70 rfl rfl rfl (pc' := 71) rfl ?_
            refine T_ld zk_177_71 rfl rfl rfl (pc' := 72) rfl ?_
            refine T_callv (J' := (fun σ' => IF MLg σ σ' ∧ σ' 36 0 0 634 = n ∧ True)) (r := []) zk_177_72 rfl rfl rfl rfl rfl rfl (Or.inr ⟨_, _, _, _, rfl, vd_35, rfl⟩) (fun σ' h => (m_176 x275 (by omega) σ' h.1.1 ).le (Nat.le_of_ble_eq_true rfl) (fun v σ2 ⟨h1, h3, h4⟩ => ⟨h1, h.1.tr h3 sb65_741641e, (h3.2 _ _ _ _ (by first | exact nMSo rfl | (unfold MSo; omega))).trans (h.2.1), trivial⟩)) (pc' := 75) rfl ?_
            refine T_iinc (L' := [(0, av 35 0 0), (1, iv p0), (2, iv x6), (3, iv (x275 + 1))]) zk_177_75 (nL := 6) rfl rfl rfl rfl (pc' := 78) rfl ?_
            refine T_goto zk_177_78 ?_
            exact ih276 (x275 + 1) (by omega) (by omega)
  ·
    refine T_ld zk_177_8 rfl rfl rfl (pc' := 9) rfl ?_
    refine T_getR (t' := 55) (i' := 0) (k' := 0) zk_177_9 rfl rfl rfl vd_35 (pc' := 12) rfl ?_
    refine T_ld zk_177_12 rfl rfl rfl (pc' := 13) rfl ?_
    refine T_op zk_177_13 rfl X_ic (pc' := 14) rfl ?_
    refine G_iast (J' := (fun σ' => IF MLg σ σ' ∧ σ' 36 0 0 634 = n ∧ True)) (ln := 50) zk_177_14 rfl rfl vd_55 (by omega) (by omega) (by omega) (fun σ' h => ⟨h.1.up ⟨by omega, trivial⟩ (by first | exact pMLg rfl | (unfold MLg; omega)), (up_ne (by omega)).trans (h.2.1), trivial⟩) (pc' := 15) rfl ?_
    refine T_iinc (L' := [(0, av 35 0 0), (1, iv p0), (2, iv (x1 + 1))]) zk_177_15 (nL := 6) rfl rfl rfl rfl (pc' := 18) rfl ?_
    refine T_goto zk_177_18 ?_
    exact ih2 (x1 + 1) (by omega) (by omega)
