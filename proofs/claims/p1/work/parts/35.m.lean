theorem zk_171_0 : zc 171 0 = some (.iload_n 1, 0, 0, 0, 0) := rfl
theorem zk_171_1 : zc 171 1 = some (.ifCond .ne 9, 10, 0, 0, 0) := rfl
theorem zk_171_4 : zc 171 4 = some (.iload_n 0, 0, 0, 0, 0) := rfl
theorem zk_171_5 : zc 171 5 = some (.iconst 5, 0, 0, 0, 0) := rfl
theorem zk_171_6 : zc 171 6 = some (.isub, 0, 0, 0, 0) := rfl
theorem zk_171_7 : zc 171 7 = some (.goto 28, 35, 0, 0, 0) := rfl
theorem zk_171_10 : zc 171 10 = some (.iload_n 1, 0, 0, 0, 0) := rfl
theorem zk_171_11 : zc 171 11 = some (.iconst 1, 0, 0, 0, 0) := rfl
theorem zk_171_12 : zc 171 12 = some (.if_icmp .ne 9, 21, 0, 0, 0) := rfl
theorem zk_171_15 : zc 171 15 = some (.iload_n 0, 0, 0, 0, 0) := rfl
theorem zk_171_16 : zc 171 16 = some (.iconst 1, 0, 0, 0, 0) := rfl
theorem zk_171_17 : zc 171 17 = some (.isub, 0, 0, 0, 0) := rfl
theorem zk_171_18 : zc 171 18 = some (.goto 17, 35, 0, 0, 0) := rfl
theorem zk_171_21 : zc 171 21 = some (.iload_n 1, 0, 0, 0, 0) := rfl
theorem zk_171_22 : zc 171 22 = some (.iconst 2, 0, 0, 0, 0) := rfl
theorem zk_171_23 : zc 171 23 = some (.if_icmp .ne 9, 32, 0, 0, 0) := rfl
theorem zk_171_26 : zc 171 26 = some (.iload_n 0, 0, 0, 0, 0) := rfl
theorem zk_171_27 : zc 171 27 = some (.iconst 1, 0, 0, 0, 0) := rfl
theorem zk_171_28 : zc 171 28 = some (.iadd, 0, 0, 0, 0) := rfl
theorem zk_171_29 : zc 171 29 = some (.goto 6, 35, 0, 0, 0) := rfl
theorem zk_171_32 : zc 171 32 = some (.iload_n 0, 0, 0, 0, 0) := rfl
theorem zk_171_33 : zc 171 33 = some (.iconst 5, 0, 0, 0, 0) := rfl
theorem zk_171_34 : zc 171 34 = some (.iadd, 0, 0, 0, 0) := rfl
theorem zk_171_35 : zc 171 35 = some (.ireturn, 0, 0, 0, 0) := rfl
theorem zk_175_0 : zc 175 0 = some (.iconst 0, 0, 0, 0, 0) := rfl
theorem zk_175_1 : zc 175 1 = some (.istore_n 2, 0, 0, 0, 0) := rfl
theorem zk_175_2 : zc 175 2 = some (.iload_n 2, 0, 0, 0, 0) := rfl
theorem zk_175_3 : zc 175 3 = some (.aload_n 0, 0, 0, 0, 0) := rfl
theorem zk_175_4 : zc 175 4 = some (.getfield 7, 11, 0, 0, 139) := rfl
theorem zk_175_7 : zc 175 7 = some (.sipush 633, 0, 0, 0, 0) := rfl
theorem zk_175_10 : zc 175 10 = some (.iaload, 0, 0, 0, 0) := rfl
theorem zk_175_11 : zc 175 11 = some (.if_icmp .ge 111, 122, 0, 0, 0) := rfl
theorem zk_175_122 : zc 175 122 = some (.aload_n 0, 0, 0, 0, 0) := rfl
theorem zk_175_123 : zc 175 123 = some (.aload_n 0, 0, 0, 0, 0) := rfl
theorem zk_175_124 : zc 175 124 = some (.invokevirtual 186, 159, 0, 1, 144) := rfl
theorem zk_175_127 : zc 175 127 = some (.putfield 211, 11, 33, 0, 175) := rfl
theorem zk_175_130 : zc 175 130 = some (.aload_n 0, 0, 0, 0, 0) := rfl
theorem zk_175_131 : zc 175 131 = some (.aload_n 0, 0, 0, 0, 0) := rfl
theorem zk_175_132 : zc 175 132 = some (.getfield 7, 11, 0, 0, 139) := rfl
theorem zk_175_135 : zc 175 135 = some (.sipush 634, 0, 0, 0, 0) := rfl
theorem zk_175_138 : zc 175 138 = some (.iaload, 0, 0, 0, 0) := rfl
theorem zk_175_139 : zc 175 139 = some (.iload_n 1, 0, 0, 0, 0) := rfl
theorem zk_175_140 : zc 175 140 = some (.invokevirtual 134, 145, 0, 3, 135) := rfl
theorem zk_175_143 : zc 175 143 = some (.istore_n 2, 0, 0, 0, 0) := rfl
theorem zk_175_144 : zc 175 144 = some (.iconst 0, 0, 0, 0, 0) := rfl
theorem zk_175_145 : zc 175 145 = some (.istore_n 3, 0, 0, 0, 0) := rfl
theorem zk_175_146 : zc 175 146 = some (.iload_n 3, 0, 0, 0, 0) := rfl
theorem zk_175_147 : zc 175 147 = some (.aload_n 0, 0, 0, 0, 0) := rfl
theorem zk_175_148 : zc 175 148 = some (.getfield 7, 11, 0, 0, 139) := rfl
theorem zk_175_151 : zc 175 151 = some (.sipush 633, 0, 0, 0, 0) := rfl
theorem zk_175_154 : zc 175 154 = some (.iaload, 0, 0, 0, 0) := rfl
theorem zk_175_155 : zc 175 155 = some (.if_icmp .ge 79, 234, 0, 0, 0) := rfl
theorem zk_175_234 : zc 175 234 = some (.iconst 0, 0, 0, 0, 0) := rfl
theorem zk_175_235 : zc 175 235 = some (.istore_n 3, 0, 0, 0, 0) := rfl
theorem zk_175_236 : zc 175 236 = some (.iload_n 3, 0, 0, 0, 0) := rfl
theorem zk_175_237 : zc 175 237 = some (.bipush 25, 0, 0, 0, 0) := rfl
theorem zk_175_239 : zc 175 239 = some (.if_icmp .ge 16, 255, 0, 0, 0) := rfl
theorem zk_175_242 : zc 175 242 = some (.aload_n 0, 0, 0, 0, 0) := rfl
theorem zk_175_243 : zc 175 243 = some (.getfield 75, 11, 29, 0, 160) := rfl
theorem zk_175_246 : zc 175 246 = some (.iload_n 3, 0, 0, 0, 0) := rfl
theorem zk_175_247 : zc 175 247 = some (.iconst 0, 0, 0, 0, 0) := rfl
theorem zk_175_248 : zc 175 248 = some (.iastore, 0, 0, 0, 0) := rfl
theorem zk_175_249 : zc 175 249 = some (.iinc 3 1, 0, 0, 0, 0) := rfl
theorem zk_175_252 : zc 175 252 = some (.goto (-16), 236, 0, 0, 0) := rfl
theorem zk_175_255 : zc 175 255 = some (.iconst 0, 0, 0, 0, 0) := rfl
theorem zk_175_256 : zc 175 256 = some (.istore_n 3, 0, 0, 0, 0) := rfl
theorem zk_175_257 : zc 175 257 = some (.iload_n 3, 0, 0, 0, 0) := rfl
theorem zk_175_258 : zc 175 258 = some (.bipush 25, 0, 0, 0, 0) := rfl
theorem zk_175_260 : zc 175 260 = some (.if_icmp .ge 161, 421, 0, 0, 0) := rfl
theorem zk_175_263 : zc 175 263 = some (.iconst 2, 0, 0, 0, 0) := rfl
theorem zk_175_264 : zc 175 264 = some (.istore 4, 0, 0, 0, 0) := rfl
theorem zk_175_266 : zc 175 266 = some (.iload 4, 0, 0, 0, 0) := rfl
theorem zk_175_268 : zc 175 268 = some (.iconst 4, 0, 0, 0, 0) := rfl
theorem zk_175_269 : zc 175 269 = some (.if_icmp .ge 146, 415, 0, 0, 0) := rfl
theorem zk_175_272 : zc 175 272 = some (.iload_n 3, 0, 0, 0, 0) := rfl
theorem zk_175_273 : zc 175 273 = some (.iload 4, 0, 0, 0, 0) := rfl
theorem zk_175_275 : zc 175 275 = some (.invokestatic 201, 171, 1, 2, 149) := rfl
theorem zk_175_278 : zc 175 278 = some (.istore 5, 0, 0, 0, 0) := rfl
theorem zk_175_280 : zc 175 280 = some (.iload_n 3, 0, 0, 0, 0) := rfl
theorem zk_175_281 : zc 175 281 = some (.iload 5, 0, 0, 0, 0) := rfl
theorem zk_175_283 : zc 175 283 = some (.invokestatic 107, 126, 1, 2, 130) := rfl
theorem zk_175_286 : zc 175 286 = some (.istore 6, 0, 0, 0, 0) := rfl
theorem zk_175_288 : zc 175 288 = some (.iload 6, 0, 0, 0, 0) := rfl
theorem zk_175_290 : zc 175 290 = some (.iconst (-1), 0, 0, 0, 0) := rfl
theorem zk_175_291 : zc 175 291 = some (.if_icmp .eq 118, 409, 0, 0, 0) := rfl
theorem zk_175_294 : zc 175 294 = some (.aload_n 0, 0, 0, 0, 0) := rfl
theorem zk_175_295 : zc 175 295 = some (.getfield 7, 11, 0, 0, 139) := rfl
theorem zk_175_298 : zc 175 298 = some (.bipush 100, 0, 0, 0, 0) := rfl
theorem zk_175_300 : zc 175 300 = some (.iload 6, 0, 0, 0, 0) := rfl
theorem zk_175_302 : zc 175 302 = some (.iadd, 0, 0, 0, 0) := rfl
theorem zk_175_303 : zc 175 303 = some (.iaload, 0, 0, 0, 0) := rfl
theorem zk_175_304 : zc 175 304 = some (.iconst 1, 0, 0, 0, 0) := rfl
theorem zk_175_305 : zc 175 305 = some (.if_icmp .ne 6, 311, 0, 0, 0) := rfl
theorem zk_175_308 : zc 175 308 = some (.goto 101, 409, 0, 0, 0) := rfl
theorem zk_175_311 : zc 175 311 = some (.aload_n 0, 0, 0, 0, 0) := rfl
theorem zk_175_312 : zc 175 312 = some (.getfield 7, 11, 0, 0, 139) := rfl
theorem zk_175_315 : zc 175 315 = some (.bipush 25, 0, 0, 0, 0) := rfl
theorem zk_175_317 : zc 175 317 = some (.iload_n 3, 0, 0, 0, 0) := rfl
theorem zk_175_318 : zc 175 318 = some (.iadd, 0, 0, 0, 0) := rfl
theorem zk_175_319 : zc 175 319 = some (.iaload, 0, 0, 0, 0) := rfl
theorem zk_175_320 : zc 175 320 = some (.aload_n 0, 0, 0, 0, 0) := rfl
theorem zk_175_321 : zc 175 321 = some (.getfield 7, 11, 0, 0, 139) := rfl
theorem zk_175_324 : zc 175 324 = some (.bipush 25, 0, 0, 0, 0) := rfl
theorem zk_175_326 : zc 175 326 = some (.iload 5, 0, 0, 0, 0) := rfl
theorem zk_175_328 : zc 175 328 = some (.iadd, 0, 0, 0, 0) := rfl
theorem zk_175_329 : zc 175 329 = some (.iaload, 0, 0, 0, 0) := rfl
theorem zk_175_330 : zc 175 330 = some (.isub, 0, 0, 0, 0) := rfl
theorem zk_175_331 : zc 175 331 = some (.iconst 4, 0, 0, 0, 0) := rfl
theorem zk_175_332 : zc 175 332 = some (.idiv, 0, 0, 0, 0) := rfl
theorem zk_175_333 : zc 175 333 = some (.istore 7, 0, 0, 0, 0) := rfl
theorem zk_175_335 : zc 175 335 = some (.aload_n 0, 0, 0, 0, 0) := rfl
theorem zk_175_336 : zc 175 336 = some (.getfield 75, 11, 29, 0, 160) := rfl
theorem zk_175_339 : zc 175 339 = some (.iload_n 3, 0, 0, 0, 0) := rfl
theorem zk_175_340 : zc 175 340 = some (.dup2, 0, 0, 0, 0) := rfl
theorem zk_175_341 : zc 175 341 = some (.iaload, 0, 0, 0, 0) := rfl
theorem zk_175_342 : zc 175 342 = some (.iload 7, 0, 0, 0, 0) := rfl
theorem zk_175_344 : zc 175 344 = some (.isub, 0, 0, 0, 0) := rfl
theorem zk_175_345 : zc 175 345 = some (.iastore, 0, 0, 0, 0) := rfl
theorem zk_175_346 : zc 175 346 = some (.aload_n 0, 0, 0, 0, 0) := rfl
theorem zk_175_347 : zc 175 347 = some (.getfield 75, 11, 29, 0, 160) := rfl
theorem zk_175_350 : zc 175 350 = some (.iload 5, 0, 0, 0, 0) := rfl
theorem zk_175_352 : zc 175 352 = some (.dup2, 0, 0, 0, 0) := rfl
theorem zk_175_353 : zc 175 353 = some (.iaload, 0, 0, 0, 0) := rfl
theorem zk_175_354 : zc 175 354 = some (.iload 7, 0, 0, 0, 0) := rfl
theorem zk_175_356 : zc 175 356 = some (.iadd, 0, 0, 0, 0) := rfl
theorem zk_175_357 : zc 175 357 = some (.iastore, 0, 0, 0, 0) := rfl
theorem zk_175_358 : zc 175 358 = some (.aload_n 0, 0, 0, 0, 0) := rfl
theorem zk_175_359 : zc 175 359 = some (.getfield 7, 11, 0, 0, 139) := rfl
theorem zk_175_362 : zc 175 362 = some (.bipush 75, 0, 0, 0, 0) := rfl
theorem zk_175_364 : zc 175 364 = some (.iload_n 3, 0, 0, 0, 0) := rfl
theorem zk_175_365 : zc 175 365 = some (.iadd, 0, 0, 0, 0) := rfl
theorem zk_175_366 : zc 175 366 = some (.dup2, 0, 0, 0, 0) := rfl
theorem zk_175_367 : zc 175 367 = some (.iaload, 0, 0, 0, 0) := rfl
theorem zk_175_368 : zc 175 368 = some (.iload 7, 0, 0, 0, 0) := rfl
theorem zk_175_370 : zc 175 370 = some (.ifCond .ge 9, 379, 0, 0, 0) := rfl
theorem zk_175_379 : zc 175 379 = some (.iload 7, 0, 0, 0, 0) := rfl
theorem zk_175_381 : zc 175 381 = some (.iadd, 0, 0, 0, 0) := rfl
theorem zk_175_382 : zc 175 382 = some (.iastore, 0, 0, 0, 0) := rfl
theorem zk_175_383 : zc 175 383 = some (.aload_n 0, 0, 0, 0, 0) := rfl
theorem zk_175_384 : zc 175 384 = some (.getfield 7, 11, 0, 0, 139) := rfl
theorem zk_175_387 : zc 175 387 = some (.bipush 75, 0, 0, 0, 0) := rfl
theorem zk_175_389 : zc 175 389 = some (.iload 5, 0, 0, 0, 0) := rfl
theorem zk_175_391 : zc 175 391 = some (.iadd, 0, 0, 0, 0) := rfl
theorem zk_175_392 : zc 175 392 = some (.dup2, 0, 0, 0, 0) := rfl
theorem zk_175_393 : zc 175 393 = some (.iaload, 0, 0, 0, 0) := rfl
theorem zk_175_394 : zc 175 394 = some (.iload 7, 0, 0, 0, 0) := rfl
theorem zk_175_396 : zc 175 396 = some (.ifCond .ge 9, 405, 0, 0, 0) := rfl
theorem zk_175_405 : zc 175 405 = some (.iload 7, 0, 0, 0, 0) := rfl
theorem zk_175_407 : zc 175 407 = some (.iadd, 0, 0, 0, 0) := rfl
theorem zk_175_408 : zc 175 408 = some (.iastore, 0, 0, 0, 0) := rfl
theorem zk_175_409 : zc 175 409 = some (.iinc 4 1, 0, 0, 0, 0) := rfl
theorem zk_175_412 : zc 175 412 = some (.goto (-146), 266, 0, 0, 0) := rfl
theorem zk_175_415 : zc 175 415 = some (.iinc 3 1, 0, 0, 0, 0) := rfl
theorem zk_175_418 : zc 175 418 = some (.goto (-161), 257, 0, 0, 0) := rfl
theorem zk_175_421 : zc 175 421 = some (.iconst 0, 0, 0, 0, 0) := rfl
theorem zk_175_422 : zc 175 422 = some (.istore_n 3, 0, 0, 0, 0) := rfl
theorem zk_175_423 : zc 175 423 = some (.iload_n 3, 0, 0, 0, 0) := rfl
theorem zk_175_424 : zc 175 424 = some (.bipush 25, 0, 0, 0, 0) := rfl
theorem zk_175_426 : zc 175 426 = some (.if_icmp .ge 27, 453, 0, 0, 0) := rfl
theorem zk_175_429 : zc 175 429 = some (.aload_n 0, 0, 0, 0, 0) := rfl
theorem zk_175_430 : zc 175 430 = some (.getfield 7, 11, 0, 0, 139) := rfl
theorem zk_175_433 : zc 175 433 = some (.bipush 25, 0, 0, 0, 0) := rfl
theorem zk_175_435 : zc 175 435 = some (.iload_n 3, 0, 0, 0, 0) := rfl
theorem zk_175_436 : zc 175 436 = some (.iadd, 0, 0, 0, 0) := rfl
theorem zk_175_437 : zc 175 437 = some (.dup2, 0, 0, 0, 0) := rfl
theorem zk_175_438 : zc 175 438 = some (.iaload, 0, 0, 0, 0) := rfl
theorem zk_175_439 : zc 175 439 = some (.aload_n 0, 0, 0, 0, 0) := rfl
theorem zk_175_440 : zc 175 440 = some (.getfield 75, 11, 29, 0, 160) := rfl
set_option maxRecDepth 4000 in
theorem zk_175_443 : zc 175 443 = some (.iload_n 3, 0, 0, 0, 0) := rfl
set_option maxRecDepth 4000 in
theorem zk_175_444 : zc 175 444 = some (.iaload, 0, 0, 0, 0) := rfl
set_option maxRecDepth 4000 in
theorem zk_175_445 : zc 175 445 = some (.iadd, 0, 0, 0, 0) := rfl
set_option maxRecDepth 4000 in
theorem zk_175_446 : zc 175 446 = some (.iastore, 0, 0, 0, 0) := rfl
set_option maxRecDepth 4000 in
theorem zk_175_447 : zc 175 447 = some (.iinc 3 1, 0, 0, 0, 0) := rfl
set_option maxRecDepth 4000 in
theorem zk_175_450 : zc 175 450 = some (.goto (-27), 423, 0, 0, 0) := rfl
set_option maxRecDepth 4000 in
theorem zk_175_453 : zc 175 453 = some (.return_, 0, 0, 0, 0) := rfl
def MWt (t i k j : Nat) : Prop := (t = 36 ∧ k = 0 ∧ ((25 ≤ j ∧ j < 50) ∨ (75 ≤ j ∧ j < 100))) ∨ t = 54 ∨ (t = 35 ∧ j = 33)
/-- WModel.beside -/
theorem m_171 {xs : Nat × (Nat → Int32)} (p0 : Int) (p1 : Int) (h0 : 0 ≤ p0 ∧ p0 ≤ 24) (h1 : 0 ≤ p1 ∧ p1 ≤ 3) (σ : ZS) (hI : Inv σ)   : CT xs 1 171 [iv p0, iv p1] σ (fun v σ' => ∃ y, v = some (iv y) ∧ (-5 ≤ y ∧ y ≤ 29) ∧ IF MN σ σ' ∧ (True)) := by
  refine G_ct (J := (fun σ' => IF MN σ σ' ∧ True)) (L := [(0, iv p0), (1, iv p1)]) (nL := 2) rfl rfl rfl ⟨IF.rf hI, trivial⟩ ?_
  refine T_ld zk_171_0 rfl rfl rfl (pc' := 1) rfl ?_
  refine T_if_ne zk_171_1 (by omega) (pc' := 4) rfl (fun h1 => ?_) (fun h2 => ?_)
  ·
    refine T_ld zk_171_10 rfl rfl rfl (pc' := 11) rfl ?_
    refine T_op zk_171_11 rfl X_ic (pc' := 12) rfl ?_
    refine T_icmp_ne zk_171_12 (by omega) (by omega) (pc' := 15) rfl (fun h3 => ?_) (fun h4 => ?_)
    ·
      refine T_ld zk_171_21 rfl rfl rfl (pc' := 22) rfl ?_
      refine T_op zk_171_22 rfl X_ic (pc' := 23) rfl ?_
      refine T_icmp_ne zk_171_23 (by omega) (by omega) (pc' := 26) rfl (fun h5 => ?_) (fun h6 => ?_)
      ·
        refine T_ld zk_171_32 rfl rfl rfl (pc' := 33) rfl ?_
        refine T_op zk_171_33 rfl X_ic (pc' := 34) rfl ?_
        refine T_op zk_171_34 rfl X_add (pc' := 35) rfl ?_
        exact T_iret zk_171_35 rfl (fun σ' h => ⟨_, rfl, (by omega), h.1, trivial⟩)
      ·
        refine T_ld zk_171_26 rfl rfl rfl (pc' := 27) rfl ?_
        refine T_op zk_171_27 rfl X_ic (pc' := 28) rfl ?_
        refine T_op zk_171_28 rfl X_add (pc' := 29) rfl ?_
        refine T_goto zk_171_29 ?_
        exact T_iret zk_171_35 rfl (fun σ' h => ⟨_, rfl, (by omega), h.1, trivial⟩)
    ·
      refine T_ld zk_171_15 rfl rfl rfl (pc' := 16) rfl ?_
      refine T_op zk_171_16 rfl X_ic (pc' := 17) rfl ?_
      refine T_op zk_171_17 rfl X_sub (pc' := 18) rfl ?_
      refine T_goto zk_171_18 ?_
      exact T_iret zk_171_35 rfl (fun σ' h => ⟨_, rfl, (by omega), h.1, trivial⟩)
  ·
    refine T_ld zk_171_4 rfl rfl rfl (pc' := 5) rfl ?_
    refine T_op zk_171_5 rfl X_ic (pc' := 6) rfl ?_
    refine T_op zk_171_6 rfl X_sub (pc' := 7) rfl ?_
    refine T_goto zk_171_7 ?_
    exact T_iret zk_171_35 rfl (fun σ' h => ⟨_, rfl, (by omega), h.1, trivial⟩)
/-- WModel.waters -/
theorem m_175e {xs : Nat × (Nat → Int32)} (p0 : Int) (h0 : 0 ≤ p0 ∧ p0 ≤ 1) (σ : ZS) (hI : Inv σ)  (s1 : σ 36 0 0 633 = 0) (s2 : σ 36 0 0 635 = 0) (s3 : σ 36 0 0 636 = 0) (s4 : (∀ j, 25 ≤ j → j < 50 → σ 36 0 0 j = 0)) (s5 : (∀ j, 0 ≤ j → j < 25 → σ 54 0 0 j = 0)) : CT xs 3 175 [av 35 0 0, iv p0] σ (fun v σ' => v = none ∧ IF MWt σ σ' ∧ ((∀ j, 25 ≤ j → j < 50 → σ' 36 0 0 j = 0) ∧ (∀ j, 0 ≤ j → j < 25 → σ' 54 0 0 j = 0) ∧ True)) := by
  refine G_ct (J := (fun σ' => IF MWt σ σ' ∧ (∀ j, 25 ≤ j → j < 50 → σ' 36 0 0 j = 0) ∧ (∀ j, 0 ≤ j → j < 25 → σ' 54 0 0 j = 0) ∧ True)) (L := [(0, av 35 0 0), (1, iv p0)]) (nL := 8) rfl rfl rfl ⟨IF.rf hI, s4, s5, trivial⟩ ?_
  refine T_op zk_175_0 rfl X_ic (pc' := 1) rfl ?_
  refine T_st (L' := [(0, av 35 0 0), (1, iv p0), (2, iv 0)]) zk_175_1 (nL := 8) rfl rfl rfl rfl rfl (pc' := 2) rfl ?_
  refine T_loop1 (fun x1 => ((0 : Int)).toNat) (fun x1 => (0 ≤ x1 ∧ x1 ≤ 0)) (fun x1 => TJ xs (fun σ' => IF MWt σ σ' ∧ (∀ j, 25 ≤ j → j < 50 → σ' 36 0 0 j = 0) ∧ (∀ j, 0 ≤ j → j < 25 → σ' 54 0 0 j = 0) ∧ True) 2 175 2 [(0, av 35 0 0), (1, iv p0), (2, iv x1)] [] _) ?_ 0 (by omega)
  intro x1 hp3 ih2
  refine T_ld zk_175_2 rfl rfl rfl (pc' := 3) rfl ?_
  refine T_ld zk_175_3 rfl rfl rfl (pc' := 4) rfl ?_
  refine T_getR (t' := 36) (i' := 0) (k' := 0) zk_175_4 rfl rfl rfl vd_35 (pc' := 7) rfl ?_
  refine T_op zk_175_7 rfl (X_si (v := 633) (by decide)) (pc' := 10) rfl ?_
  refine G_ialdX (w := 0) (ln := 646) zk_175_10 rfl rfl (vd_36 (by omega)) (by omega) (by omega) (by omega) (fun σ' h => (h.1.2 _ _ _ _ (by unfold MWt; omega)).trans s1) (pc' := 11) rfl ?_
  refine T_icmp_ge zk_175_11 (by omega) (by omega) (pc' := 14) rfl (fun h4 => ?_) (fun h5 => ?_)
  ·
    refine T_ld zk_175_122 rfl rfl rfl (pc' := 123) rfl ?_
    refine T_ld zk_175_123 rfl rfl rfl (pc' := 124) rfl ?_
    refine T_calli (K := fun y6 σ' => (-2147483648 ≤ y6 ∧ y6 ≤ 2147483647) ∧ (fun σ' => IF MWt σ σ' ∧ (∀ j, 25 ≤ j → j < 50 → σ' 36 0 0 j = 0) ∧ (∀ j, 0 ≤ j → j < 25 → σ' 54 0 0 j = 0) ∧ True) σ') (r := [av 35 0 0]) zk_175_124 rfl rfl rfl rfl rfl rfl (Or.inr ⟨_, _, _, _, rfl, vd_35, rfl⟩) (fun σ' h => (m_159   σ' h.1.1 ).le (Nat.le_of_ble_eq_true rfl) (fun v σ2 ⟨y, h1, h2, h3, h4⟩ => ⟨y, h1, h2, h.1.tr h3 MN_sub, fun j a b => (h3.2 _ _ _ _ (fun q => q)).trans (h.2.1 j a b), fun j a b => (h3.2 _ _ _ _ (fun q => q)).trans (h.2.2.1 j a b), trivial⟩)) (pc' := 127) rfl (fun y6 => ?_)
    refine G_ex (fun hy6 => ?_)
    refine T_putf (J' := (fun σ' => IF MWt σ σ' ∧ (∀ j, 25 ≤ j → j < 50 → σ' 36 0 0 j = 0) ∧ (∀ j, 0 ≤ j → j < 25 → σ' 54 0 0 j = 0) ∧ True)) zk_175_127 rfl rfl vd_35 (fun σ' h => ⟨h.1.up (by simp only [rgP] <;> omega) (by unfold MWt; omega), up_rngn (h.2.1) (by omega), up_rngn (h.2.2.1) (by omega), trivial⟩) (pc' := 130) rfl ?_
    refine T_ld zk_175_130 rfl rfl rfl (pc' := 131) rfl ?_
    refine T_ld zk_175_131 rfl rfl rfl (pc' := 132) rfl ?_
    refine T_getR (t' := 36) (i' := 0) (k' := 0) zk_175_132 rfl rfl rfl vd_35 (pc' := 135) rfl ?_
    refine T_op zk_175_135 rfl (X_si (v := 634) (by decide)) (pc' := 138) rfl ?_
    refine G_iald (lo := 0) (hi := 30000) (ln := 646) zk_175_138 rfl rfl (vd_36 (by omega)) (by omega) (by omega) (by omega) (fun σ' h => h.1.1) (fun _ h => h.2.2.2.2.2.2.1 (by omega) (by omega)) (pc' := 139) rfl (fun y7 hy7 hy7' => ?_)
    refine T_ld zk_175_139 rfl rfl rfl (pc' := 140) rfl ?_
    refine T_calli (K := fun y8 σ' => (y8 = 0) ∧ (fun σ' => IF MWt σ σ' ∧ (∀ j, 25 ≤ j → j < 50 → σ' 36 0 0 j = 0) ∧ (∀ j, 0 ≤ j → j < 25 → σ' 54 0 0 j = 0) ∧ True) σ') (r := []) zk_175_140 rfl rfl rfl rfl rfl rfl (Or.inr ⟨_, _, _, _, rfl, vd_35, rfl⟩) (fun σ' h => (m_145e y7 p0 (by omega) (by omega) σ' h.1.1 ((h.1.2 _ _ _ _ (by unfold MWt; omega)).trans s2) ((h.1.2 _ _ _ _ (by unfold MWt; omega)).trans s3)).le (Nat.le_of_ble_eq_true rfl) (fun v σ2 ⟨y, h1, h2, h3, h4⟩ => ⟨y, h1, h2, h.1.tr h3 MN_sub, fun j a b => (h3.2 _ _ _ _ (fun q => q)).trans (h.2.1 j a b), fun j a b => (h3.2 _ _ _ _ (fun q => q)).trans (h.2.2.1 j a b), trivial⟩)) (pc' := 143) rfl (fun y8 => ?_)
    refine G_ex (fun hy8 => ?_)
    obtain rfl : y8 = 0 := by omega
    refine T_st (L' := [(0, av 35 0 0), (1, iv p0), (2, iv 0)]) zk_175_143 (nL := 8) rfl rfl rfl rfl rfl (pc' := 144) rfl ?_
    refine T_op zk_175_144 rfl X_ic (pc' := 145) rfl ?_
    refine T_st (L' := [(0, av 35 0 0), (1, iv p0), (2, iv 0), (3, iv 0)]) zk_175_145 (nL := 8) rfl rfl rfl rfl rfl (pc' := 146) rfl ?_
    refine T_loop1 (fun x9 => ((0 : Int)).toNat) (fun x9 => (0 ≤ x9 ∧ x9 ≤ 0)) (fun x9 => TJ xs (fun σ' => IF MWt σ σ' ∧ (∀ j, 25 ≤ j → j < 50 → σ' 36 0 0 j = 0) ∧ (∀ j, 0 ≤ j → j < 25 → σ' 54 0 0 j = 0) ∧ True) 2 175 146 [(0, av 35 0 0), (1, iv p0), (2, iv 0), (3, iv x9)] [] _) ?_ 0 (by omega)
    intro x9 hp11 ih10
    refine T_ld zk_175_146 rfl rfl rfl (pc' := 147) rfl ?_
    refine T_ld zk_175_147 rfl rfl rfl (pc' := 148) rfl ?_
    refine T_getR (t' := 36) (i' := 0) (k' := 0) zk_175_148 rfl rfl rfl vd_35 (pc' := 151) rfl ?_
    refine T_op zk_175_151 rfl (X_si (v := 633) (by decide)) (pc' := 154) rfl ?_
    refine G_ialdX (w := 0) (ln := 646) zk_175_154 rfl rfl (vd_36 (by omega)) (by omega) (by omega) (by omega) (fun σ' h => (h.1.2 _ _ _ _ (by unfold MWt; omega)).trans s1) (pc' := 155) rfl ?_
    refine T_icmp_ge zk_175_155 (by omega) (by omega) (pc' := 158) rfl (fun h12 => ?_) (fun h13 => ?_)
    ·
      refine T_op zk_175_234 rfl X_ic (pc' := 235) rfl ?_
      refine T_st (L' := [(0, av 35 0 0), (1, iv p0), (2, iv 0), (3, iv 0)]) zk_175_235 (nL := 8) rfl rfl rfl rfl rfl (pc' := 236) rfl ?_
      refine T_loop1 (fun x14 => ((25 - x14 : Int)).toNat) (fun x14 => (0 ≤ x14 ∧ x14 ≤ 25)) (fun x14 => TJ xs (fun σ' => IF MWt σ σ' ∧ (∀ j, 25 ≤ j → j < 50 → σ' 36 0 0 j = 0) ∧ (∀ j, 0 ≤ j → j < 25 → σ' 54 0 0 j = 0) ∧ True) 2 175 236 [(0, av 35 0 0), (1, iv p0), (2, iv 0), (3, iv x14)] [] _) ?_ 0 (by omega)
      intro x14 hp16 ih15
      refine T_ld zk_175_236 rfl rfl rfl (pc' := 237) rfl ?_
      refine T_op zk_175_237 rfl (X_bi (v := 25) (by decide)) (pc' := 239) rfl ?_
      refine T_icmp_ge zk_175_239 (by omega) (by omega) (pc' := 242) rfl (fun h17 => ?_) (fun h18 => ?_)
      ·
        refine T_op zk_175_255 rfl X_ic (pc' := 256) rfl ?_
        refine T_st (L' := [(0, av 35 0 0), (1, iv p0), (2, iv 0), (3, iv 0)]) zk_175_256 (nL := 8) rfl rfl rfl rfl rfl (pc' := 257) rfl ?_
        refine T_loop1 (fun x19 => ((25 - x19 : Int)).toNat) (fun x19 => (0 ≤ x19 ∧ x19 ≤ 25)) (fun x19 => TJ xs (fun σ' => IF MWt σ σ' ∧ (∀ j, 25 ≤ j → j < 50 → σ' 36 0 0 j = 0) ∧ (∀ j, 0 ≤ j → j < 25 → σ' 54 0 0 j = 0) ∧ True) 2 175 257 [(0, av 35 0 0), (1, iv p0), (2, iv 0), (3, iv x19)] [] _) ?_ 0 (by omega)
        intro x19 hp21 ih20
        refine T_ld zk_175_257 rfl rfl rfl (pc' := 258) rfl ?_
        refine T_op zk_175_258 rfl (X_bi (v := 25) (by decide)) (pc' := 260) rfl ?_
        refine T_icmp_ge zk_175_260 (by omega) (by omega) (pc' := 263) rfl (fun h22 => ?_) (fun h23 => ?_)
        ·
          refine T_op zk_175_421 rfl X_ic (pc' := 422) rfl ?_
          refine T_st (L' := [(0, av 35 0 0), (1, iv p0), (2, iv 0), (3, iv 0)]) zk_175_422 (nL := 8) rfl rfl rfl rfl rfl (pc' := 423) rfl ?_
          refine T_loop1 (fun x24 => ((25 - x24 : Int)).toNat) (fun x24 => (0 ≤ x24 ∧ x24 ≤ 25)) (fun x24 => TJ xs (fun σ' => IF MWt σ σ' ∧ (∀ j, 25 ≤ j → j < 50 → σ' 36 0 0 j = 0) ∧ (∀ j, 0 ≤ j → j < 25 → σ' 54 0 0 j = 0) ∧ True) 2 175 423 [(0, av 35 0 0), (1, iv p0), (2, iv 0), (3, iv x24)] [] _) ?_ 0 (by omega)
          intro x24 hp26 ih25
          refine T_ld zk_175_423 rfl rfl rfl (pc' := 424) rfl ?_
          refine T_op zk_175_424 rfl (X_bi (v := 25) (by decide)) (pc' := 426) rfl ?_
          refine T_icmp_ge zk_175_426 (by omega) (by omega) (pc' := 429) rfl (fun h27 => ?_) (fun h28 => ?_)
          ·
            exact T_vret zk_175_453 rfl (fun σ' h => ⟨rfl, h.1, ⟨h.2.1, h.2.2.1, trivial⟩⟩)
          ·
            refine T_ld zk_175_429 rfl rfl rfl (pc' := 430) rfl ?_
            refine T_getR (t' := 36) (i' := 0) (k' := 0) zk_175_430 rfl rfl rfl vd_35 (pc' := 433) rfl ?_
            refine T_op zk_175_433 rfl (X_bi (v := 25) (by decide)) (pc' := 435) rfl ?_
            refine T_ld zk_175_435 rfl rfl rfl (pc' := 436) rfl ?_
            refine T_op zk_175_436 rfl X_add (pc' := 437) rfl ?_
            refine T_op (st' := [iv (25 + x24), av 36 0 0, iv (25 + x24), av 36 0 0]) zk_175_437 rfl rfl (pc' := 438) rfl ?_
            refine G_ialdX (w := 0) (ln := 646) zk_175_438 rfl rfl (vd_36 (by omega)) (by omega) (by omega) (by omega) (fun σ' h => h.2.1 _ (by omega) (by omega)) (pc' := 439) rfl ?_
            refine T_ld zk_175_439 rfl rfl rfl (pc' := 440) rfl ?_
            refine T_getR (t' := 54) (i' := 0) (k' := 0) zk_175_440 rfl rfl rfl vd_35 (pc' := 443) rfl ?_
            refine T_ld zk_175_443 rfl rfl rfl (pc' := 444) rfl ?_
            refine G_ialdX (w := 0) (ln := 25) zk_175_444 rfl rfl vd_54 (by omega) (by omega) (by omega) (fun σ' h => h.2.2.1 _ (by omega) (by omega)) (pc' := 445) rfl ?_
            refine T_opc (w := 0) zk_175_445 rfl X_add (by omega) (pc' := 446) rfl ?_
            refine G_iast (J' := (fun σ' => IF MWt σ σ' ∧ (∀ j, 25 ≤ j → j < 50 → σ' 36 0 0 j = 0) ∧ (∀ j, 0 ≤ j → j < 25 → σ' 54 0 0 j = 0) ∧ True)) (ln := 646) zk_175_446 rfl rfl (vd_36 (by omega)) (by omega) (by omega) (by omega) (fun σ' h => ⟨h.1.up (by simp only [rgP] <;> omega) (by unfold MWt; omega), up_rng (h.2.1) (by omega), up_rngn (h.2.2.1) (by omega), trivial⟩) (pc' := 447) rfl ?_
            refine T_iinc (L' := [(0, av 35 0 0), (1, iv p0), (2, iv 0), (3, iv (x24 + 1))]) zk_175_447 (nL := 8) rfl rfl rfl rfl (pc' := 450) rfl ?_
            refine T_goto zk_175_450 ?_
            exact ih25 (x24 + 1) (by omega) (by omega)
        ·
          refine T_op zk_175_263 rfl X_ic (pc' := 264) rfl ?_
          refine T_st (L' := [(0, av 35 0 0), (1, iv p0), (2, iv 0), (3, iv x19), (4, iv 2)]) zk_175_264 (nL := 8) rfl rfl rfl rfl rfl (pc' := 266) rfl ?_
          refine T_loop1 (fun x29 => ((4 - x29 : Int)).toNat) (fun x29 => (2 ≤ x29 ∧ x29 ≤ 4)) (fun x29 => TJ xs (fun σ' => IF MWt σ σ' ∧ (∀ j, 25 ≤ j → j < 50 → σ' 36 0 0 j = 0) ∧ (∀ j, 0 ≤ j → j < 25 → σ' 54 0 0 j = 0) ∧ True) 2 175 266 [(0, av 35 0 0), (1, iv p0), (2, iv 0), (3, iv x19), (4, iv x29)] [] _) ?_ 2 (by omega)
          intro x29 hp31 ih30
          refine T_ld zk_175_266 rfl rfl rfl (pc' := 268) rfl ?_
          refine T_op zk_175_268 rfl X_ic (pc' := 269) rfl ?_
          refine T_icmp_ge zk_175_269 (by omega) (by omega) (pc' := 272) rfl (fun h32 => ?_) (fun h33 => ?_)
          ·
            refine T_iinc (L' := [(0, av 35 0 0), (1, iv p0), (2, iv 0), (3, iv (x19 + 1)), (4, iv x29)]) zk_175_415 (nL := 8) rfl rfl rfl rfl (pc' := 418) rfl ?_
            refine T_goto zk_175_418 ?_
            refine T_loc (L := [(0, av 35 0 0), (1, iv p0), (2, iv 0), (3, iv (x19 + 1))]) (E := [(4, iv x29)]) rfl ?_
            exact ih20 (x19 + 1) (by omega) (by omega)
          ·
            refine T_ld zk_175_272 rfl rfl rfl (pc' := 273) rfl ?_
            refine T_ld zk_175_273 rfl rfl rfl (pc' := 275) rfl ?_
            refine T_calli (K := fun y34 σ' => (-5 ≤ y34 ∧ y34 ≤ 29) ∧ (fun σ' => IF MWt σ σ' ∧ (∀ j, 25 ≤ j → j < 50 → σ' 36 0 0 j = 0) ∧ (∀ j, 0 ≤ j → j < 25 → σ' 54 0 0 j = 0) ∧ True) σ') (r := []) zk_175_275 rfl rfl rfl rfl rfl rfl (Or.inl (Or.inl rfl)) (fun σ' h => (m_171 x19 x29 (by omega) (by omega) σ' h.1.1 ).le (Nat.le_of_ble_eq_true rfl) (fun v σ2 ⟨y, h1, h2, h3, h4⟩ => ⟨y, h1, h2, h.1.tr h3 MN_sub, fun j a b => (h3.2 _ _ _ _ (fun q => q)).trans (h.2.1 j a b), fun j a b => (h3.2 _ _ _ _ (fun q => q)).trans (h.2.2.1 j a b), trivial⟩)) (pc' := 278) rfl (fun y34 => ?_)
            refine G_ex (fun hy34 => ?_)
            refine T_st (L' := [(0, av 35 0 0), (1, iv p0), (2, iv 0), (3, iv x19), (4, iv x29), (5, iv y34)]) zk_175_278 (nL := 8) rfl rfl rfl rfl rfl (pc' := 280) rfl ?_
            refine T_ld zk_175_280 rfl rfl rfl (pc' := 281) rfl ?_
            refine T_ld zk_175_281 rfl rfl rfl (pc' := 283) rfl ?_
            refine T_calli (K := fun y35 σ' => ((y35 = -1 ∧ ¬ (0 ≤ x19 ∧ x19 ≤ 24 ∧ 0 ≤ y34 ∧ y34 ≤ 24 ∧ (y34 = x19 + 5 ∨ x19 = y34 + 5 ∨ (y34 = x19 + 1 ∧ x19 % 5 < 4) ∨ (x19 = y34 + 1 ∧ y34 % 5 < 4)))) ∨ (0 ≤ y35 ∧ y35 ≤ 49 ∧ (0 ≤ x19 ∧ x19 ≤ 24 ∧ 0 ≤ y34 ∧ y34 ≤ 24 ∧ (y34 = x19 + 5 ∨ x19 = y34 + 5 ∨ (y34 = x19 + 1 ∧ x19 % 5 < 4) ∨ (x19 = y34 + 1 ∧ y34 % 5 < 4))))) ∧ (fun σ' => IF MWt σ σ' ∧ (∀ j, 25 ≤ j → j < 50 → σ' 36 0 0 j = 0) ∧ (∀ j, 0 ≤ j → j < 25 → σ' 54 0 0 j = 0) ∧ True) σ') (r := []) zk_175_283 rfl rfl rfl rfl rfl rfl (Or.inl (Or.inl rfl)) (fun σ' h => (m_126 x19 y34 (by omega) (by omega) σ' h.1.1 ).le (Nat.le_of_ble_eq_true rfl) (fun v σ2 ⟨y, h1, h2, h3, h4⟩ => ⟨y, h1, h2, h.1.tr h3 MN_sub, fun j a b => (h3.2 _ _ _ _ (fun q => q)).trans (h.2.1 j a b), fun j a b => (h3.2 _ _ _ _ (fun q => q)).trans (h.2.2.1 j a b), trivial⟩)) (pc' := 286) rfl (fun y35 => ?_)
            refine G_ex (fun hy35 => ?_)
            refine T_st (L' := [(0, av 35 0 0), (1, iv p0), (2, iv 0), (3, iv x19), (4, iv x29), (5, iv y34), (6, iv y35)]) zk_175_286 (nL := 8) rfl rfl rfl rfl rfl (pc' := 288) rfl ?_
            refine T_ld zk_175_288 rfl rfl rfl (pc' := 290) rfl ?_
            refine T_op zk_175_290 rfl X_ic (pc' := 291) rfl ?_
            refine T_icmp_eq zk_175_291 (by omega) (by omega) (pc' := 294) rfl (fun h36 => ?_) (fun h37 => ?_)
            ·
              refine T_iinc (L' := [(0, av 35 0 0), (1, iv p0), (2, iv 0), (3, iv x19), (4, iv (x29 + 1)), (5, iv y34), (6, iv y35)]) zk_175_409 (nL := 8) rfl rfl rfl rfl (pc' := 412) rfl ?_
              refine T_goto zk_175_412 ?_
              refine T_loc (L := [(0, av 35 0 0), (1, iv p0), (2, iv 0), (3, iv x19), (4, iv (x29 + 1))]) (E := [(5, iv y34), (6, iv y35)]) rfl ?_
              exact ih30 (x29 + 1) (by omega) (by omega)
            ·
              refine T_ld zk_175_294 rfl rfl rfl (pc' := 295) rfl ?_
              refine T_getR (t' := 36) (i' := 0) (k' := 0) zk_175_295 rfl rfl rfl vd_35 (pc' := 298) rfl ?_
              refine T_op zk_175_298 rfl (X_bi (v := 100) (by decide)) (pc' := 300) rfl ?_
              refine T_ld zk_175_300 rfl rfl rfl (pc' := 302) rfl ?_
              refine T_op zk_175_302 rfl X_add (pc' := 303) rfl ?_
              refine G_iald (lo := -2147483648) (hi := 2147483647) (ln := 646) zk_175_303 rfl rfl (vd_36 (by omega)) (by omega) (by omega) (by omega) (fun σ' h => h.1.1) (fun _ h => h.1) (pc' := 304) rfl (fun y38 hy38 hy38' => ?_)
              refine T_op zk_175_304 rfl X_ic (pc' := 305) rfl ?_
              refine T_icmp_ne zk_175_305 (by omega) (by omega) (pc' := 308) rfl (fun h39 => ?_) (fun h40 => ?_)
              ·
                refine T_ld zk_175_311 rfl rfl rfl (pc' := 312) rfl ?_
                refine T_getR (t' := 36) (i' := 0) (k' := 0) zk_175_312 rfl rfl rfl vd_35 (pc' := 315) rfl ?_
                refine T_op zk_175_315 rfl (X_bi (v := 25) (by decide)) (pc' := 317) rfl ?_
                refine T_ld zk_175_317 rfl rfl rfl (pc' := 318) rfl ?_
                refine T_op zk_175_318 rfl X_add (pc' := 319) rfl ?_
                refine G_ialdX (w := 0) (ln := 646) zk_175_319 rfl rfl (vd_36 (by omega)) (by omega) (by omega) (by omega) (fun σ' h => h.2.1 _ (by omega) (by omega)) (pc' := 320) rfl ?_
                refine T_ld zk_175_320 rfl rfl rfl (pc' := 321) rfl ?_
                refine T_getR (t' := 36) (i' := 0) (k' := 0) zk_175_321 rfl rfl rfl vd_35 (pc' := 324) rfl ?_
                refine T_op zk_175_324 rfl (X_bi (v := 25) (by decide)) (pc' := 326) rfl ?_
                refine T_ld zk_175_326 rfl rfl rfl (pc' := 328) rfl ?_
                refine T_op zk_175_328 rfl X_add (pc' := 329) rfl ?_
                refine G_ialdX (w := 0) (ln := 646) zk_175_329 rfl rfl (vd_36 (by omega)) (by omega) (by omega) (by omega) (fun σ' h => h.2.1 _ (by omega) (by omega)) (pc' := 330) rfl ?_
                refine T_opc (w := 0) zk_175_330 rfl X_sub (by omega) (pc' := 331) rfl ?_
                refine T_op zk_175_331 rfl X_ic (pc' := 332) rfl ?_
                refine T_opc (w := 0) zk_175_332 rfl (X_div (by omega) (by omega)) (by omega) (pc' := 333) rfl ?_
                refine T_st (L' := [(0, av 35 0 0), (1, iv p0), (2, iv 0), (3, iv x19), (4, iv x29), (5, iv y34), (6, iv y35), (7, iv 0)]) zk_175_333 (nL := 8) rfl rfl rfl rfl rfl (pc' := 335) rfl ?_
                refine T_ld zk_175_335 rfl rfl rfl (pc' := 336) rfl ?_
                refine T_getR (t' := 54) (i' := 0) (k' := 0) zk_175_336 rfl rfl rfl vd_35 (pc' := 339) rfl ?_
                refine T_ld zk_175_339 rfl rfl rfl (pc' := 340) rfl ?_
                refine T_op (st' := [iv x19, av 54 0 0, iv x19, av 54 0 0]) zk_175_340 rfl rfl (pc' := 341) rfl ?_
                refine G_ialdX (w := 0) (ln := 25) zk_175_341 rfl rfl vd_54 (by omega) (by omega) (by omega) (fun σ' h => h.2.2.1 _ (by omega) (by omega)) (pc' := 342) rfl ?_
                refine T_ld zk_175_342 rfl rfl rfl (pc' := 344) rfl ?_
                refine T_opc (w := 0) zk_175_344 rfl X_sub (by omega) (pc' := 345) rfl ?_
                refine G_iast (J' := (fun σ' => IF MWt σ σ' ∧ (∀ j, 25 ≤ j → j < 50 → σ' 36 0 0 j = 0) ∧ (∀ j, 0 ≤ j → j < 25 → σ' 54 0 0 j = 0) ∧ True)) (ln := 25) zk_175_345 rfl rfl vd_54 (by omega) (by omega) (by omega) (fun σ' h => ⟨h.1.up ⟨by omega, trivial⟩ (by unfold MWt; omega), up_rngn (h.2.1) (by omega), up_rng (h.2.2.1) (by omega), trivial⟩) (pc' := 346) rfl ?_
                refine T_ld zk_175_346 rfl rfl rfl (pc' := 347) rfl ?_
                refine T_getR (t' := 54) (i' := 0) (k' := 0) zk_175_347 rfl rfl rfl vd_35 (pc' := 350) rfl ?_
                refine T_ld zk_175_350 rfl rfl rfl (pc' := 352) rfl ?_
                refine T_op (st' := [iv y34, av 54 0 0, iv y34, av 54 0 0]) zk_175_352 rfl rfl (pc' := 353) rfl ?_
                refine G_ialdX (w := 0) (ln := 25) zk_175_353 rfl rfl vd_54 (by omega) (by omega) (by omega) (fun σ' h => h.2.2.1 _ (by omega) (by omega)) (pc' := 354) rfl ?_
                refine T_ld zk_175_354 rfl rfl rfl (pc' := 356) rfl ?_
                refine T_opc (w := 0) zk_175_356 rfl X_add (by omega) (pc' := 357) rfl ?_
                refine G_iast (J' := (fun σ' => IF MWt σ σ' ∧ (∀ j, 25 ≤ j → j < 50 → σ' 36 0 0 j = 0) ∧ (∀ j, 0 ≤ j → j < 25 → σ' 54 0 0 j = 0) ∧ True)) (ln := 25) zk_175_357 rfl rfl vd_54 (by omega) (by omega) (by omega) (fun σ' h => ⟨h.1.up ⟨by omega, trivial⟩ (by unfold MWt; omega), up_rngn (h.2.1) (by omega), up_rng (h.2.2.1) (by omega), trivial⟩) (pc' := 358) rfl ?_
                refine T_ld zk_175_358 rfl rfl rfl (pc' := 359) rfl ?_
                refine T_getR (t' := 36) (i' := 0) (k' := 0) zk_175_359 rfl rfl rfl vd_35 (pc' := 362) rfl ?_
                refine T_op zk_175_362 rfl (X_bi (v := 75) (by decide)) (pc' := 364) rfl ?_
                refine T_ld zk_175_364 rfl rfl rfl (pc' := 365) rfl ?_
                refine T_op zk_175_365 rfl X_add (pc' := 366) rfl ?_
                refine T_op (st' := [iv (75 + x19), av 36 0 0, iv (75 + x19), av 36 0 0]) zk_175_366 rfl rfl (pc' := 367) rfl ?_
                refine G_iald (lo := -2147483648) (hi := 2147483647) (ln := 646) zk_175_367 rfl rfl (vd_36 (by omega)) (by omega) (by omega) (by omega) (fun σ' h => h.1.1) (fun _ h => h.1) (pc' := 368) rfl (fun y41 hy41 hy41' => ?_)
                refine T_ld zk_175_368 rfl rfl rfl (pc' := 370) rfl ?_
                refine T_if_ge zk_175_370 (by omega) (pc' := 373) rfl (fun h42 => ?_) (fun h43 => ?_)
                ·
                  refine T_ld zk_175_379 rfl rfl rfl (pc' := 381) rfl ?_
                  refine T_op zk_175_381 rfl X_add (pc' := 382) rfl ?_
                  refine G_iast (J' := (fun σ' => IF MWt σ σ' ∧ (∀ j, 25 ≤ j → j < 50 → σ' 36 0 0 j = 0) ∧ (∀ j, 0 ≤ j → j < 25 → σ' 54 0 0 j = 0) ∧ True)) (ln := 646) zk_175_382 rfl rfl (vd_36 (by omega)) (by omega) (by omega) (by omega) (fun σ' h => ⟨h.1.up (by simp only [rgP] <;> omega) (by unfold MWt; omega), up_rngj (h.2.1) (by omega), up_rngn (h.2.2.1) (by omega), trivial⟩) (pc' := 383) rfl ?_
                  refine T_ld zk_175_383 rfl rfl rfl (pc' := 384) rfl ?_
                  refine T_getR (t' := 36) (i' := 0) (k' := 0) zk_175_384 rfl rfl rfl vd_35 (pc' := 387) rfl ?_
                  refine T_op zk_175_387 rfl (X_bi (v := 75) (by decide)) (pc' := 389) rfl ?_
                  refine T_ld zk_175_389 rfl rfl rfl (pc' := 391) rfl ?_
                  refine T_op zk_175_391 rfl X_add (pc' := 392) rfl ?_
                  refine T_op (st' := [iv (75 + y34), av 36 0 0, iv (75 + y34), av 36 0 0]) zk_175_392 rfl rfl (pc' := 393) rfl ?_
                  refine G_iald (lo := -2147483648) (hi := 2147483647) (ln := 646) zk_175_393 rfl rfl (vd_36 (by omega)) (by omega) (by omega) (by omega) (fun σ' h => h.1.1) (fun _ h => h.1) (pc' := 394) rfl (fun y44 hy44 hy44' => ?_)
                  refine T_ld zk_175_394 rfl rfl rfl (pc' := 396) rfl ?_
                  refine T_if_ge zk_175_396 (by omega) (pc' := 399) rfl (fun h45 => ?_) (fun h46 => ?_)
                  ·
                    refine T_ld zk_175_405 rfl rfl rfl (pc' := 407) rfl ?_
                    refine T_op zk_175_407 rfl X_add (pc' := 408) rfl ?_
                    refine G_iast (J' := (fun σ' => IF MWt σ σ' ∧ (∀ j, 25 ≤ j → j < 50 → σ' 36 0 0 j = 0) ∧ (∀ j, 0 ≤ j → j < 25 → σ' 54 0 0 j = 0) ∧ True)) (ln := 646) zk_175_408 rfl rfl (vd_36 (by omega)) (by omega) (by omega) (by omega) (fun σ' h => ⟨h.1.up (by simp only [rgP] <;> omega) (by unfold MWt; omega), up_rngj (h.2.1) (by omega), up_rngn (h.2.2.1) (by omega), trivial⟩) (pc' := 409) rfl ?_
                    refine T_iinc (L' := [(0, av 35 0 0), (1, iv p0), (2, iv 0), (3, iv x19), (4, iv (x29 + 1)), (5, iv y34), (6, iv y35), (7, iv 0)]) zk_175_409 (nL := 8) rfl rfl rfl rfl (pc' := 412) rfl ?_
                    refine T_goto zk_175_412 ?_
                    refine T_loc (L := [(0, av 35 0 0), (1, iv p0), (2, iv 0), (3, iv x19), (4, iv (x29 + 1))]) (E := [(5, iv y34), (6, iv y35), (7, iv 0)]) rfl ?_
                    exact ih30 (x29 + 1) (by omega) (by omega)
                  · exfalso; omega
                · exfalso; omega
              ·
                refine T_goto zk_175_308 ?_
                refine T_iinc (L' := [(0, av 35 0 0), (1, iv p0), (2, iv 0), (3, iv x19), (4, iv (x29 + 1)), (5, iv y34), (6, iv y35)]) zk_175_409 (nL := 8) rfl rfl rfl rfl (pc' := 412) rfl ?_
                refine T_goto zk_175_412 ?_
                refine T_loc (L := [(0, av 35 0 0), (1, iv p0), (2, iv 0), (3, iv x19), (4, iv (x29 + 1))]) (E := [(5, iv y34), (6, iv y35)]) rfl ?_
                exact ih30 (x29 + 1) (by omega) (by omega)
      ·
        refine T_ld zk_175_242 rfl rfl rfl (pc' := 243) rfl ?_
        refine T_getR (t' := 54) (i' := 0) (k' := 0) zk_175_243 rfl rfl rfl vd_35 (pc' := 246) rfl ?_
        refine T_ld zk_175_246 rfl rfl rfl (pc' := 247) rfl ?_
        refine T_op zk_175_247 rfl X_ic (pc' := 248) rfl ?_
        refine G_iast (J' := (fun σ' => IF MWt σ σ' ∧ (∀ j, 25 ≤ j → j < 50 → σ' 36 0 0 j = 0) ∧ (∀ j, 0 ≤ j → j < 25 → σ' 54 0 0 j = 0) ∧ True)) (ln := 25) zk_175_248 rfl rfl vd_54 (by omega) (by omega) (by omega) (fun σ' h => ⟨h.1.up ⟨by omega, trivial⟩ (by unfold MWt; omega), up_rngn (h.2.1) (by omega), up_rng (h.2.2.1) (by omega), trivial⟩) (pc' := 249) rfl ?_
        refine T_iinc (L' := [(0, av 35 0 0), (1, iv p0), (2, iv 0), (3, iv (x14 + 1))]) zk_175_249 (nL := 8) rfl rfl rfl rfl (pc' := 252) rfl ?_
        refine T_goto zk_175_252 ?_
        exact ih15 (x14 + 1) (by omega) (by omega)
    · exfalso; omega
  · exfalso; omega
