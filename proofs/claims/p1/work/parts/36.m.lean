theorem zk_177_0 : zc 177 0 = some (.iconst 0, 0, 0, 0, 0) := rfl
theorem zk_177_1 : zc 177 1 = some (.istore_n 2, 0, 0, 0, 0) := rfl
theorem zk_177_2 : zc 177 2 = some (.iload_n 2, 0, 0, 0, 0) := rfl
theorem zk_177_3 : zc 177 3 = some (.bipush 50, 0, 0, 0, 0) := rfl
theorem zk_177_5 : zc 177 5 = some (.if_icmp .ge 16, 21, 0, 0, 0) := rfl
theorem zk_177_8 : zc 177 8 = some (.aload_n 0, 0, 0, 0, 0) := rfl
theorem zk_177_9 : zc 177 9 = some (.getfield 78, 11, 30, 0, 161) := rfl
theorem zk_177_12 : zc 177 12 = some (.iload_n 2, 0, 0, 0, 0) := rfl
theorem zk_177_13 : zc 177 13 = some (.iconst 0, 0, 0, 0, 0) := rfl
theorem zk_177_14 : zc 177 14 = some (.iastore, 0, 0, 0, 0) := rfl
theorem zk_177_15 : zc 177 15 = some (.iinc 2 1, 0, 0, 0, 0) := rfl
theorem zk_177_18 : zc 177 18 = some (.goto (-16), 2, 0, 0, 0) := rfl
theorem zk_177_21 : zc 177 21 = some (.bipush 9, 0, 0, 0, 0) := rfl
theorem zk_177_23 : zc 177 23 = some (.istore_n 2, 0, 0, 0, 0) := rfl
theorem zk_177_24 : zc 177 24 = some (.iload_n 2, 0, 0, 0, 0) := rfl
theorem zk_177_25 : zc 177 25 = some (.ifCond .lt 62, 87, 0, 0, 0) := rfl
theorem zk_177_28 : zc 177 28 = some (.iconst 0, 0, 0, 0, 0) := rfl
theorem zk_177_29 : zc 177 29 = some (.istore_n 3, 0, 0, 0, 0) := rfl
theorem zk_177_30 : zc 177 30 = some (.iload_n 3, 0, 0, 0, 0) := rfl
theorem zk_177_31 : zc 177 31 = some (.aload_n 0, 0, 0, 0, 0) := rfl
theorem zk_177_32 : zc 177 32 = some (.getfield 7, 11, 0, 0, 139) := rfl
theorem zk_177_35 : zc 177 35 = some (.sipush 642, 0, 0, 0, 0) := rfl
theorem zk_177_38 : zc 177 38 = some (.iaload, 0, 0, 0, 0) := rfl
theorem zk_177_39 : zc 177 39 = some (.if_icmp .ge 42, 81, 0, 0, 0) := rfl
theorem zk_177_81 : zc 177 81 = some (.iinc 2 (-1), 0, 0, 0, 0) := rfl
theorem zk_177_84 : zc 177 84 = some (.goto (-60), 24, 0, 0, 0) := rfl
theorem zk_177_87 : zc 177 87 = some (.iconst 0, 0, 0, 0, 0) := rfl
theorem zk_177_88 : zc 177 88 = some (.istore_n 2, 0, 0, 0, 0) := rfl
theorem zk_177_89 : zc 177 89 = some (.iconst 0, 0, 0, 0, 0) := rfl
theorem zk_177_90 : zc 177 90 = some (.istore_n 3, 0, 0, 0, 0) := rfl
theorem zk_177_91 : zc 177 91 = some (.iload_n 3, 0, 0, 0, 0) := rfl
theorem zk_177_92 : zc 177 92 = some (.aload_n 0, 0, 0, 0, 0) := rfl
theorem zk_177_93 : zc 177 93 = some (.getfield 7, 11, 0, 0, 139) := rfl
theorem zk_177_96 : zc 177 96 = some (.sipush 641, 0, 0, 0, 0) := rfl
theorem zk_177_99 : zc 177 99 = some (.iaload, 0, 0, 0, 0) := rfl
theorem zk_177_100 : zc 177 100 = some (.if_icmp .ge 218, 318, 0, 0, 0) := rfl
theorem zk_177_318 : zc 177 318 = some (.iconst 0, 0, 0, 0, 0) := rfl
theorem zk_177_319 : zc 177 319 = some (.istore_n 3, 0, 0, 0, 0) := rfl
theorem zk_177_320 : zc 177 320 = some (.iconst 0, 0, 0, 0, 0) := rfl
theorem zk_177_321 : zc 177 321 = some (.istore 4, 0, 0, 0, 0) := rfl
theorem zk_177_323 : zc 177 323 = some (.iload 4, 0, 0, 0, 0) := rfl
theorem zk_177_325 : zc 177 325 = some (.aload_n 0, 0, 0, 0, 0) := rfl
theorem zk_177_326 : zc 177 326 = some (.getfield 7, 11, 0, 0, 139) := rfl
theorem zk_177_329 : zc 177 329 = some (.sipush 633, 0, 0, 0, 0) := rfl
theorem zk_177_332 : zc 177 332 = some (.iaload, 0, 0, 0, 0) := rfl
theorem zk_177_333 : zc 177 333 = some (.if_icmp .ge 26, 359, 0, 0, 0) := rfl
theorem zk_177_359 : zc 177 359 = some (.iload_n 2, 0, 0, 0, 0) := rfl
theorem zk_177_360 : zc 177 360 = some (.ifCond .eq 19, 379, 0, 0, 0) := rfl
theorem zk_177_379 : zc 177 379 = some (.iload_n 3, 0, 0, 0, 0) := rfl
theorem zk_177_380 : zc 177 380 = some (.ifCond .eq 35, 415, 0, 0, 0) := rfl
theorem zk_177_415 : zc 177 415 = some (.aload_n 0, 0, 0, 0, 0) := rfl
theorem zk_177_416 : zc 177 416 = some (.getfield 7, 11, 0, 0, 139) := rfl
theorem zk_177_419 : zc 177 419 = some (.sipush 634, 0, 0, 0, 0) := rfl
theorem zk_177_422 : zc 177 422 = some (.dup2, 0, 0, 0, 0) := rfl
theorem zk_177_423 : zc 177 423 = some (.iaload, 0, 0, 0, 0) := rfl
theorem zk_177_424 : zc 177 424 = some (.iconst 1, 0, 0, 0, 0) := rfl
theorem zk_177_425 : zc 177 425 = some (.iadd, 0, 0, 0, 0) := rfl
theorem zk_177_426 : zc 177 426 = some (.iastore, 0, 0, 0, 0) := rfl
theorem zk_177_427 : zc 177 427 = some (.aload_n 0, 0, 0, 0, 0) := rfl
theorem zk_177_428 : zc 177 428 = some (.getfield 7, 11, 0, 0, 139) := rfl
theorem zk_177_431 : zc 177 431 = some (.sipush 634, 0, 0, 0, 0) := rfl
theorem zk_177_434 : zc 177 434 = some (.iaload, 0, 0, 0, 0) := rfl
theorem zk_177_435 : zc 177 435 = some (.bipush 96, 0, 0, 0, 0) := rfl
theorem zk_177_437 : zc 177 437 = some (.irem, 0, 0, 0, 0) := rfl
theorem zk_177_438 : zc 177 438 = some (.ifCond .eq 4, 442, 0, 0, 0) := rfl
set_option maxRecDepth 4000 in
theorem zk_177_441 : zc 177 441 = some (.return_, 0, 0, 0, 0) := rfl
set_option maxRecDepth 4000 in
theorem zk_177_442 : zc 177 442 = some (.aload_n 0, 0, 0, 0, 0) := rfl
set_option maxRecDepth 4000 in
theorem zk_177_443 : zc 177 443 = some (.getfield 7, 11, 0, 0, 139) := rfl
set_option maxRecDepth 4000 in
theorem zk_177_446 : zc 177 446 = some (.sipush 634, 0, 0, 0, 0) := rfl
set_option maxRecDepth 4000 in
theorem zk_177_449 : zc 177 449 = some (.iaload, 0, 0, 0, 0) := rfl
set_option maxRecDepth 4000 in
theorem zk_177_450 : zc 177 450 = some (.bipush 96, 0, 0, 0, 0) := rfl
set_option maxRecDepth 4000 in
theorem zk_177_452 : zc 177 452 = some (.idiv, 0, 0, 0, 0) := rfl
set_option maxRecDepth 4000 in
theorem zk_177_453 : zc 177 453 = some (.istore 4, 0, 0, 0, 0) := rfl
set_option maxRecDepth 4000 in
theorem zk_177_455 : zc 177 455 = some (.iconst 0, 0, 0, 0, 0) := rfl
set_option maxRecDepth 4000 in
theorem zk_177_456 : zc 177 456 = some (.istore 5, 0, 0, 0, 0) := rfl
set_option maxRecDepth 4000 in
theorem zk_177_458 : zc 177 458 = some (.iload 5, 0, 0, 0, 0) := rfl
set_option maxRecDepth 4000 in
theorem zk_177_460 : zc 177 460 = some (.bipush 25, 0, 0, 0, 0) := rfl
set_option maxRecDepth 4000 in
theorem zk_177_462 : zc 177 462 = some (.if_icmp .ge 66, 528, 0, 0, 0) := rfl
set_option maxRecDepth 4000 in
theorem zk_177_465 : zc 177 465 = some (.aload_n 0, 0, 0, 0, 0) := rfl
set_option maxRecDepth 4000 in
theorem zk_177_466 : zc 177 466 = some (.getfield 7, 11, 0, 0, 139) := rfl
set_option maxRecDepth 4000 in
theorem zk_177_469 : zc 177 469 = some (.bipush 75, 0, 0, 0, 0) := rfl
set_option maxRecDepth 4000 in
theorem zk_177_471 : zc 177 471 = some (.iload 5, 0, 0, 0, 0) := rfl
set_option maxRecDepth 4000 in
theorem zk_177_473 : zc 177 473 = some (.iadd, 0, 0, 0, 0) := rfl
set_option maxRecDepth 4000 in
theorem zk_177_474 : zc 177 474 = some (.iaload, 0, 0, 0, 0) := rfl
set_option maxRecDepth 4000 in
theorem zk_177_475 : zc 177 475 = some (.aload_n 0, 0, 0, 0, 0) := rfl
set_option maxRecDepth 4000 in
theorem zk_177_476 : zc 177 476 = some (.getfield 7, 11, 0, 0, 139) := rfl
set_option maxRecDepth 4000 in
theorem zk_177_479 : zc 177 479 = some (.sipush 639, 0, 0, 0, 0) := rfl
set_option maxRecDepth 4000 in
theorem zk_177_482 : zc 177 482 = some (.iaload, 0, 0, 0, 0) := rfl
set_option maxRecDepth 4000 in
theorem zk_177_483 : zc 177 483 = some (.if_icmp .ge 28, 511, 0, 0, 0) := rfl
set_option maxRecDepth 4000 in
theorem zk_177_486 : zc 177 486 = some (.aload_n 0, 0, 0, 0, 0) := rfl
set_option maxRecDepth 4000 in
theorem zk_177_487 : zc 177 487 = some (.getfield 7, 11, 0, 0, 139) := rfl
set_option maxRecDepth 4000 in
theorem zk_177_490 : zc 177 490 = some (.iconst 0, 0, 0, 0, 0) := rfl
set_option maxRecDepth 4000 in
theorem zk_177_491 : zc 177 491 = some (.iload 5, 0, 0, 0, 0) := rfl
set_option maxRecDepth 4000 in
theorem zk_177_493 : zc 177 493 = some (.iadd, 0, 0, 0, 0) := rfl
set_option maxRecDepth 4000 in
theorem zk_177_494 : zc 177 494 = some (.iaload, 0, 0, 0, 0) := rfl
set_option maxRecDepth 4000 in
theorem zk_177_495 : zc 177 495 = some (.ifCond .le 16, 511, 0, 0, 0) := rfl
set_option maxRecDepth 4000 in
theorem zk_177_498 : zc 177 498 = some (.aload_n 0, 0, 0, 0, 0) := rfl
set_option maxRecDepth 4000 in
theorem zk_177_499 : zc 177 499 = some (.getfield 7, 11, 0, 0, 139) := rfl
set_option maxRecDepth 4000 in
theorem zk_177_502 : zc 177 502 = some (.iconst 0, 0, 0, 0, 0) := rfl
set_option maxRecDepth 4000 in
theorem zk_177_503 : zc 177 503 = some (.iload 5, 0, 0, 0, 0) := rfl
set_option maxRecDepth 4000 in
theorem zk_177_505 : zc 177 505 = some (.iadd, 0, 0, 0, 0) := rfl
set_option maxRecDepth 4000 in
theorem zk_177_506 : zc 177 506 = some (.dup2, 0, 0, 0, 0) := rfl
set_option maxRecDepth 4000 in
theorem zk_177_507 : zc 177 507 = some (.iaload, 0, 0, 0, 0) := rfl
set_option maxRecDepth 4000 in
theorem zk_177_508 : zc 177 508 = some (.iconst 1, 0, 0, 0, 0) := rfl
set_option maxRecDepth 4000 in
theorem zk_177_509 : zc 177 509 = some (.isub, 0, 0, 0, 0) := rfl
set_option maxRecDepth 4000 in
theorem zk_177_510 : zc 177 510 = some (.iastore, 0, 0, 0, 0) := rfl
set_option maxRecDepth 4000 in
theorem zk_177_511 : zc 177 511 = some (.aload_n 0, 0, 0, 0, 0) := rfl
set_option maxRecDepth 4000 in
theorem zk_177_512 : zc 177 512 = some (.getfield 7, 11, 0, 0, 139) := rfl
set_option maxRecDepth 4000 in
theorem zk_177_515 : zc 177 515 = some (.bipush 75, 0, 0, 0, 0) := rfl
set_option maxRecDepth 4000 in
theorem zk_177_517 : zc 177 517 = some (.iload 5, 0, 0, 0, 0) := rfl
set_option maxRecDepth 4000 in
theorem zk_177_519 : zc 177 519 = some (.iadd, 0, 0, 0, 0) := rfl
set_option maxRecDepth 4000 in
theorem zk_177_520 : zc 177 520 = some (.iconst 0, 0, 0, 0, 0) := rfl
set_option maxRecDepth 4000 in
theorem zk_177_521 : zc 177 521 = some (.iastore, 0, 0, 0, 0) := rfl
set_option maxRecDepth 4000 in
theorem zk_177_522 : zc 177 522 = some (.iinc 5 1, 0, 0, 0, 0) := rfl
set_option maxRecDepth 4000 in
theorem zk_177_525 : zc 177 525 = some (.goto (-67), 458, 0, 0, 0) := rfl
set_option maxRecDepth 4000 in
theorem zk_177_528 : zc 177 528 = some (.iconst 0, 0, 0, 0, 0) := rfl
set_option maxRecDepth 4000 in
theorem zk_177_529 : zc 177 529 = some (.istore 5, 0, 0, 0, 0) := rfl
set_option maxRecDepth 4000 in
theorem zk_177_531 : zc 177 531 = some (.iload 5, 0, 0, 0, 0) := rfl
set_option maxRecDepth 4000 in
theorem zk_177_533 : zc 177 533 = some (.aload_n 0, 0, 0, 0, 0) := rfl
set_option maxRecDepth 4000 in
theorem zk_177_534 : zc 177 534 = some (.getfield 7, 11, 0, 0, 139) := rfl
set_option maxRecDepth 4000 in
theorem zk_177_537 : zc 177 537 = some (.sipush 641, 0, 0, 0, 0) := rfl
set_option maxRecDepth 4000 in
theorem zk_177_540 : zc 177 540 = some (.iaload, 0, 0, 0, 0) := rfl
set_option maxRecDepth 4000 in
theorem zk_177_541 : zc 177 541 = some (.if_icmp .ge 55, 596, 0, 0, 0) := rfl
set_option maxRecDepth 4000 in
theorem zk_177_596 : zc 177 596 = some (.return_, 0, 0, 0, 0) := rfl
theorem zk_178_0 : zc 178 0 = some (.iload_n 1, 0, 0, 0, 0) := rfl
theorem zk_178_1 : zc 178 1 = some (.iconst 1, 0, 0, 0, 0) := rfl
theorem zk_178_2 : zc 178 2 = some (.if_icmp .lt 10, 12, 0, 0, 0) := rfl
theorem zk_178_5 : zc 178 5 = some (.iload_n 1, 0, 0, 0, 0) := rfl
theorem zk_178_6 : zc 178 6 = some (.sipush 200, 0, 0, 0, 0) := rfl
theorem zk_178_9 : zc 178 9 = some (.if_icmp .le 10, 19, 0, 0, 0) := rfl
theorem zk_178_12 : zc 178 12 = some (.aload_n 0, 0, 0, 0, 0) := rfl
theorem zk_178_13 : zc 178 13 = some (.bipush (-6), 0, 0, 0, 0) := rfl
theorem zk_178_15 : zc 178 15 = some (.invokevirtual 103, 123, 0, 2, 129) := rfl
theorem zk_178_18 : zc 178 18 = some (.ireturn, 0, 0, 0, 0) := rfl
theorem zk_178_19 : zc 178 19 = some (.aload_n 0, 0, 0, 0, 0) := rfl
theorem zk_178_20 : zc 178 20 = some (.getfield 7, 11, 0, 0, 139) := rfl
theorem zk_178_23 : zc 178 23 = some (.sipush 634, 0, 0, 0, 0) := rfl
theorem zk_178_26 : zc 178 26 = some (.iaload, 0, 0, 0, 0) := rfl
theorem zk_178_27 : zc 178 27 = some (.iload_n 1, 0, 0, 0, 0) := rfl
theorem zk_178_28 : zc 178 28 = some (.iadd, 0, 0, 0, 0) := rfl
theorem zk_178_29 : zc 178 29 = some (.sipush 20000, 0, 0, 0, 0) := rfl
theorem zk_178_32 : zc 178 32 = some (.if_icmp .le 10, 42, 0, 0, 0) := rfl
theorem zk_178_42 : zc 178 42 = some (.iconst 0, 0, 0, 0, 0) := rfl
theorem zk_178_43 : zc 178 43 = some (.istore_n 2, 0, 0, 0, 0) := rfl
theorem zk_178_44 : zc 178 44 = some (.iload_n 2, 0, 0, 0, 0) := rfl
theorem zk_178_45 : zc 178 45 = some (.iload_n 1, 0, 0, 0, 0) := rfl
theorem zk_178_46 : zc 178 46 = some (.if_icmp .ge 19, 65, 0, 0, 0) := rfl
theorem zk_178_49 : zc 178 49 = some (.aload_n 0, 0, 0, 0, 0) := rfl
theorem zk_178_50 : zc 178 50 = some (.iconst 0, 0, 0, 0, 0) := rfl
theorem zk_178_51 : zc 178 51 = some (.invokevirtual 223, 175, 0, 2, 153) := rfl
theorem zk_178_54 : zc 178 54 = some (.aload_n 0, 0, 0, 0, 0) := rfl
theorem zk_178_55 : zc 178 55 = some (.iconst 0, 0, 0, 0, 0) := rfl
theorem zk_178_56 : zc 178 56 = some (.invokevirtual 227, 177, 0, 2, 154) := rfl
theorem zk_178_59 : zc 178 59 = some (.iinc 2 1, 0, 0, 0, 0) := rfl
theorem zk_178_62 : zc 178 62 = some (.goto (-18), 44, 0, 0, 0) := rfl
theorem zk_178_65 : zc 178 65 = some (.aload_n 0, 0, 0, 0, 0) := rfl
theorem zk_178_66 : zc 178 66 = some (.getfield 7, 11, 0, 0, 139) := rfl
theorem zk_178_69 : zc 178 69 = some (.sipush 634, 0, 0, 0, 0) := rfl
theorem zk_178_72 : zc 178 72 = some (.iaload, 0, 0, 0, 0) := rfl
theorem zk_178_73 : zc 178 73 = some (.ireturn, 0, 0, 0, 0) := rfl
def MLv (t i k j : Nat) : Prop := (t = 36 ∧ k = 0 ∧ (j < 25 ∨ (75 ≤ j ∧ j < 100) ∨ j = 634)) ∨ t = 55
def MQm (t i k j : Nat) : Prop := (t = 36 ∧ k = 0 ∧ (j < 50 ∨ (75 ≤ j ∧ j < 100) ∨ j = 634)) ∨ t = 54 ∨ t = 55 ∨ t = 35 ∨ t = 49
/-- WModel.lives -/
theorem m_177e {xs : Nat × (Nat → Int32)} (p0 : Int) (n : Int) (h0 : 0 ≤ p0 ∧ p0 ≤ 1) (hn : 0 ≤ n ∧ n ≤ 29999) (σ : ZS) (hI : Inv σ)  (s1 : σ 36 0 0 633 = 0) (s2 : σ 36 0 0 641 = 0) (s3 : σ 36 0 0 642 = 0) (s4 : σ 36 0 0 634 = n) : CT xs 1 177 [av 35 0 0, iv p0] σ (fun v σ' => v = none ∧ IF MLv σ σ' ∧ (σ' 36 0 0 634 = n + 1 ∧ True)) := by
  refine G_ct (J := (fun σ' => IF MLv σ σ' ∧ σ' 36 0 0 634 = n ∧ True)) (L := [(0, av 35 0 0), (1, iv p0)]) (nL := 6) rfl rfl rfl ⟨IF.rf hI, s4, trivial⟩ ?_
  refine T_op zk_177_0 rfl X_ic (pc' := 1) rfl ?_
  refine T_st (L' := [(0, av 35 0 0), (1, iv p0), (2, iv 0)]) zk_177_1 (nL := 6) rfl rfl rfl rfl rfl (pc' := 2) rfl ?_
  refine T_loop1 (fun x1 => ((50 - x1 : Int)).toNat) (fun x1 => (0 ≤ x1 ∧ x1 ≤ 50)) (fun x1 => TJ xs (fun σ' => IF MLv σ σ' ∧ σ' 36 0 0 634 = n ∧ True) 0 177 2 [(0, av 35 0 0), (1, iv p0), (2, iv x1)] [] _) ?_ 0 (by omega)
  intro x1 hp3 ih2
  refine T_ld zk_177_2 rfl rfl rfl (pc' := 3) rfl ?_
  refine T_op zk_177_3 rfl (X_bi (v := 50) (by decide)) (pc' := 5) rfl ?_
  refine T_icmp_ge zk_177_5 (by omega) (by omega) (pc' := 8) rfl (fun h4 => ?_) (fun h5 => ?_)
  ·
    refine T_op zk_177_21 rfl (X_bi (v := 9) (by decide)) (pc' := 23) rfl ?_
    refine T_st (L' := [(0, av 35 0 0), (1, iv p0), (2, iv 9)]) zk_177_23 (nL := 6) rfl rfl rfl rfl rfl (pc' := 24) rfl ?_
    refine T_loop1 (fun x6 => ((x6 + 1 : Int)).toNat) (fun x6 => (-1 ≤ x6 ∧ x6 ≤ 9)) (fun x6 => TJ xs (fun σ' => IF MLv σ σ' ∧ σ' 36 0 0 634 = n ∧ True) 0 177 24 [(0, av 35 0 0), (1, iv p0), (2, iv x6)] [] _) ?_ 9 (by omega)
    intro x6 hp8 ih7
    refine T_ld zk_177_24 rfl rfl rfl (pc' := 25) rfl ?_
    refine T_if_lt zk_177_25 (by omega) (pc' := 28) rfl (fun h9 => ?_) (fun h10 => ?_)
    ·
      refine T_op zk_177_87 rfl X_ic (pc' := 88) rfl ?_
      refine T_st (L' := [(0, av 35 0 0), (1, iv p0), (2, iv 0)]) zk_177_88 (nL := 6) rfl rfl rfl rfl rfl (pc' := 89) rfl ?_
      refine T_op zk_177_89 rfl X_ic (pc' := 90) rfl ?_
      refine T_st (L' := [(0, av 35 0 0), (1, iv p0), (2, iv 0), (3, iv 0)]) zk_177_90 (nL := 6) rfl rfl rfl rfl rfl (pc' := 91) rfl ?_
      refine T_loop1 (fun x11 => ((0 : Int)).toNat) (fun x11 => (0 ≤ x11 ∧ x11 ≤ 0)) (fun x11 => TJ xs (fun σ' => IF MLv σ σ' ∧ σ' 36 0 0 634 = n ∧ True) 0 177 91 [(0, av 35 0 0), (1, iv p0), (2, iv 0), (3, iv x11)] [] _) ?_ 0 (by omega)
      intro x11 hp13 ih12
      refine T_ld zk_177_91 rfl rfl rfl (pc' := 92) rfl ?_
      refine T_ld zk_177_92 rfl rfl rfl (pc' := 93) rfl ?_
      refine T_getR (t' := 36) (i' := 0) (k' := 0) zk_177_93 rfl rfl rfl vd_35 (pc' := 96) rfl ?_
      refine T_op zk_177_96 rfl (X_si (v := 641) (by decide)) (pc' := 99) rfl ?_
      refine G_ialdX (w := 0) (ln := 646) zk_177_99 rfl rfl (vd_36 (by omega)) (by omega) (by omega) (by omega) (fun σ' h => (h.1.2 _ _ _ _ (by unfold MLv; omega)).trans s2) (pc' := 100) rfl ?_
      refine T_icmp_ge zk_177_100 (by omega) (by omega) (pc' := 103) rfl (fun h14 => ?_) (fun h15 => ?_)
      ·
        refine T_op zk_177_318 rfl X_ic (pc' := 319) rfl ?_
        refine T_st (L' := [(0, av 35 0 0), (1, iv p0), (2, iv 0), (3, iv 0)]) zk_177_319 (nL := 6) rfl rfl rfl rfl rfl (pc' := 320) rfl ?_
        refine T_op zk_177_320 rfl X_ic (pc' := 321) rfl ?_
        refine T_st (L' := [(0, av 35 0 0), (1, iv p0), (2, iv 0), (3, iv 0), (4, iv 0)]) zk_177_321 (nL := 6) rfl rfl rfl rfl rfl (pc' := 323) rfl ?_
        refine T_loop1 (fun x16 => ((0 : Int)).toNat) (fun x16 => (0 ≤ x16 ∧ x16 ≤ 0)) (fun x16 => TJ xs (fun σ' => IF MLv σ σ' ∧ σ' 36 0 0 634 = n ∧ True) 0 177 323 [(0, av 35 0 0), (1, iv p0), (2, iv 0), (3, iv 0), (4, iv x16)] [] _) ?_ 0 (by omega)
        intro x16 hp18 ih17
        refine T_ld zk_177_323 rfl rfl rfl (pc' := 325) rfl ?_
        refine T_ld zk_177_325 rfl rfl rfl (pc' := 326) rfl ?_
        refine T_getR (t' := 36) (i' := 0) (k' := 0) zk_177_326 rfl rfl rfl vd_35 (pc' := 329) rfl ?_
        refine T_op zk_177_329 rfl (X_si (v := 633) (by decide)) (pc' := 332) rfl ?_
        refine G_ialdX (w := 0) (ln := 646) zk_177_332 rfl rfl (vd_36 (by omega)) (by omega) (by omega) (by omega) (fun σ' h => (h.1.2 _ _ _ _ (by unfold MLv; omega)).trans s1) (pc' := 333) rfl ?_
        refine T_icmp_ge zk_177_333 (by omega) (by omega) (pc' := 336) rfl (fun h19 => ?_) (fun h20 => ?_)
        ·
          refine T_ld zk_177_359 rfl rfl rfl (pc' := 360) rfl ?_
          refine T_if_eq zk_177_360 (by omega) (pc' := 363) rfl (fun h21 => ?_) (fun h22 => ?_)
          ·
            refine T_ld zk_177_379 rfl rfl rfl (pc' := 380) rfl ?_
            refine T_if_eq zk_177_380 (by omega) (pc' := 383) rfl (fun h23 => ?_) (fun h24 => ?_)
            ·
              refine T_ld zk_177_415 rfl rfl rfl (pc' := 416) rfl ?_
              refine T_getR (t' := 36) (i' := 0) (k' := 0) zk_177_416 rfl rfl rfl vd_35 (pc' := 419) rfl ?_
              refine T_op zk_177_419 rfl (X_si (v := 634) (by decide)) (pc' := 422) rfl ?_
              refine T_op (st' := [iv 634, av 36 0 0, iv 634, av 36 0 0]) zk_177_422 rfl rfl (pc' := 423) rfl ?_
              refine G_ialdX (w := n) (ln := 646) zk_177_423 rfl rfl (vd_36 (by omega)) (by omega) (by omega) (by omega) (fun σ' h => h.2.1) (pc' := 424) rfl ?_
              refine T_op zk_177_424 rfl X_ic (pc' := 425) rfl ?_
              refine T_op zk_177_425 rfl X_add (pc' := 426) rfl ?_
              refine G_iast (J' := (fun σ' => IF MLv σ σ' ∧ σ' 36 0 0 634 = n + 1 ∧ True)) (ln := 646) zk_177_426 rfl rfl (vd_36 (by omega)) (by omega) (by omega) (by omega) (fun σ' h => ⟨h.1.up (by simp only [rgP] <;> omega) (by unfold MLv; omega), up_eq, trivial⟩) (pc' := 427) rfl ?_
              refine T_ld zk_177_427 rfl rfl rfl (pc' := 428) rfl ?_
              refine T_getR (t' := 36) (i' := 0) (k' := 0) zk_177_428 rfl rfl rfl vd_35 (pc' := 431) rfl ?_
              refine T_op zk_177_431 rfl (X_si (v := 634) (by decide)) (pc' := 434) rfl ?_
              refine G_ialdX (w := n + 1) (ln := 646) zk_177_434 rfl rfl (vd_36 (by omega)) (by omega) (by omega) (by omega) (fun σ' h => h.2.1) (pc' := 435) rfl ?_
              refine T_op zk_177_435 rfl (X_bi (v := 96) (by decide)) (pc' := 437) rfl ?_
              refine T_op zk_177_437 rfl (X_rem (by omega) (by omega)) (pc' := 438) rfl ?_
              refine T_if_eq zk_177_438 (by omega) (pc' := 441) rfl (fun h25 => ?_) (fun h26 => ?_)
              ·
                refine T_ld zk_177_442 rfl rfl rfl (pc' := 443) rfl ?_
                refine T_getR (t' := 36) (i' := 0) (k' := 0) zk_177_443 rfl rfl rfl vd_35 (pc' := 446) rfl ?_
                refine T_op zk_177_446 rfl (X_si (v := 634) (by decide)) (pc' := 449) rfl ?_
                refine G_ialdX (w := n + 1) (ln := 646) zk_177_449 rfl rfl (vd_36 (by omega)) (by omega) (by omega) (by omega) (fun σ' h => h.2.1) (pc' := 450) rfl ?_
                refine T_op zk_177_450 rfl (X_bi (v := 96) (by decide)) (pc' := 452) rfl ?_
                refine T_op zk_177_452 rfl (X_div (by omega) (by omega)) (pc' := 453) rfl ?_
                refine T_st (L' := [(0, av 35 0 0), (1, iv p0), (2, iv 0), (3, iv 0), (4, iv ((n + 1) / 96))]) zk_177_453 (nL := 6) rfl rfl rfl rfl rfl (pc' := 455) rfl ?_
                refine T_op zk_177_455 rfl X_ic (pc' := 456) rfl ?_
                refine T_st (L' := [(0, av 35 0 0), (1, iv p0), (2, iv 0), (3, iv 0), (4, iv ((n + 1) / 96)), (5, iv 0)]) zk_177_456 (nL := 6) rfl rfl rfl rfl rfl (pc' := 458) rfl ?_
                refine T_loop1 (fun x27 => ((25 - x27 : Int)).toNat) (fun x27 => (0 ≤ x27 ∧ x27 ≤ 25)) (fun x27 => TJ xs (fun σ' => IF MLv σ σ' ∧ σ' 36 0 0 634 = n + 1 ∧ True) 0 177 458 [(0, av 35 0 0), (1, iv p0), (2, iv 0), (3, iv 0), (4, iv ((n + 1) / 96)), (5, iv x27)] [] _) ?_ 0 (by omega)
                intro x27 hp29 ih28
                refine T_ld zk_177_458 rfl rfl rfl (pc' := 460) rfl ?_
                refine T_op zk_177_460 rfl (X_bi (v := 25) (by decide)) (pc' := 462) rfl ?_
                refine T_icmp_ge zk_177_462 (by omega) (by omega) (pc' := 465) rfl (fun h30 => ?_) (fun h31 => ?_)
                ·
                  refine T_op zk_177_528 rfl X_ic (pc' := 529) rfl ?_
                  refine T_st (L' := [(0, av 35 0 0), (1, iv p0), (2, iv 0), (3, iv 0), (4, iv ((n + 1) / 96)), (5, iv 0)]) zk_177_529 (nL := 6) rfl rfl rfl rfl rfl (pc' := 531) rfl ?_
                  refine T_loop1 (fun x32 => ((0 : Int)).toNat) (fun x32 => (0 ≤ x32 ∧ x32 ≤ 0)) (fun x32 => TJ xs (fun σ' => IF MLv σ σ' ∧ σ' 36 0 0 634 = n + 1 ∧ True) 0 177 531 [(0, av 35 0 0), (1, iv p0), (2, iv 0), (3, iv 0), (4, iv ((n + 1) / 96)), (5, iv x32)] [] _) ?_ 0 (by omega)
                  intro x32 hp34 ih33
                  refine T_ld zk_177_531 rfl rfl rfl (pc' := 533) rfl ?_
                  refine T_ld zk_177_533 rfl rfl rfl (pc' := 534) rfl ?_
                  refine T_getR (t' := 36) (i' := 0) (k' := 0) zk_177_534 rfl rfl rfl vd_35 (pc' := 537) rfl ?_
                  refine T_op zk_177_537 rfl (X_si (v := 641) (by decide)) (pc' := 540) rfl ?_
                  refine G_ialdX (w := 0) (ln := 646) zk_177_540 rfl rfl (vd_36 (by omega)) (by omega) (by omega) (by omega) (fun σ' h => (h.1.2 _ _ _ _ (by unfold MLv; omega)).trans s2) (pc' := 541) rfl ?_
                  refine T_icmp_ge zk_177_541 (by omega) (by omega) (pc' := 544) rfl (fun h35 => ?_) (fun h36 => ?_)
                  ·
                    exact T_vret zk_177_596 rfl (fun σ' h => ⟨rfl, h.1, ⟨h.2.1, trivial⟩⟩)
                  · exfalso; omega
                ·
                  refine T_ld zk_177_465 rfl rfl rfl (pc' := 466) rfl ?_
                  refine T_getR (t' := 36) (i' := 0) (k' := 0) zk_177_466 rfl rfl rfl vd_35 (pc' := 469) rfl ?_
                  refine T_op zk_177_469 rfl (X_bi (v := 75) (by decide)) (pc' := 471) rfl ?_
                  refine T_ld zk_177_471 rfl rfl rfl (pc' := 473) rfl ?_
                  refine T_op zk_177_473 rfl X_add (pc' := 474) rfl ?_
                  refine G_iald (lo := -2147483648) (hi := 2147483647) (ln := 646) zk_177_474 rfl rfl (vd_36 (by omega)) (by omega) (by omega) (by omega) (fun σ' h => h.1.1) (fun _ h => h.1) (pc' := 475) rfl (fun y37 hy37 hy37' => ?_)
                  refine T_ld zk_177_475 rfl rfl rfl (pc' := 476) rfl ?_
                  refine T_getR (t' := 36) (i' := 0) (k' := 0) zk_177_476 rfl rfl rfl vd_35 (pc' := 479) rfl ?_
                  refine T_op zk_177_479 rfl (X_si (v := 639) (by decide)) (pc' := 482) rfl ?_
                  refine G_iald (lo := 0) (hi := 9999) (ln := 646) zk_177_482 rfl rfl (vd_36 (by omega)) (by omega) (by omega) (by omega) (fun σ' h => h.1.1) (fun _ h => h.2.2.2.2.2.2.2.2.2.2.1 (by omega) (by omega)) (pc' := 483) rfl (fun y38 hy38 hy38' => ?_)
                  refine T_icmp_ge zk_177_483 (by omega) (by omega) (pc' := 486) rfl (fun h39 => ?_) (fun h40 => ?_)
                  ·
                    refine T_ld zk_177_511 rfl rfl rfl (pc' := 512) rfl ?_
                    refine T_getR (t' := 36) (i' := 0) (k' := 0) zk_177_512 rfl rfl rfl vd_35 (pc' := 515) rfl ?_
                    refine T_op zk_177_515 rfl (X_bi (v := 75) (by decide)) (pc' := 517) rfl ?_
                    refine T_ld zk_177_517 rfl rfl rfl (pc' := 519) rfl ?_
                    refine T_op zk_177_519 rfl X_add (pc' := 520) rfl ?_
                    refine T_op zk_177_520 rfl X_ic (pc' := 521) rfl ?_
                    refine G_iast (J' := (fun σ' => IF MLv σ σ' ∧ σ' 36 0 0 634 = n + 1 ∧ σ' 36 0 0 (Int.toNat (75 + x27)) = 0 ∧ True)) (ln := 646) zk_177_521 rfl rfl (vd_36 (by omega)) (by omega) (by omega) (by omega) (fun σ' h => ⟨h.1.up (by simp only [rgP] <;> omega) (by unfold MLv; omega), (up_ne (by omega)).trans (h.2.1), up_eq, trivial⟩) (pc' := 522) rfl ?_
                    refine T_iinc (L' := [(0, av 35 0 0), (1, iv p0), (2, iv 0), (3, iv 0), (4, iv ((n + 1) / 96)), (5, iv (x27 + 1))]) zk_177_522 (nL := 6) rfl rfl rfl rfl (pc' := 525) rfl ?_
                    refine T_goto zk_177_525 ?_
                    refine G_know (J' := (fun σ' => IF MLv σ σ' ∧ σ' 36 0 0 634 = n + 1 ∧ True)) (fun σ' h => ⟨h.1, h.2.1, trivial⟩) ?_
                    exact ih28 (x27 + 1) (by omega) (by omega)
                  ·
                    refine T_ld zk_177_486 rfl rfl rfl (pc' := 487) rfl ?_
                    refine T_getR (t' := 36) (i' := 0) (k' := 0) zk_177_487 rfl rfl rfl vd_35 (pc' := 490) rfl ?_
                    refine T_op zk_177_490 rfl X_ic (pc' := 491) rfl ?_
                    refine T_ld zk_177_491 rfl rfl rfl (pc' := 493) rfl ?_
                    refine T_op zk_177_493 rfl X_add (pc' := 494) rfl ?_
                    refine G_iald (lo := -2147483648) (hi := 2147483647) (ln := 646) zk_177_494 rfl rfl (vd_36 (by omega)) (by omega) (by omega) (by omega) (fun σ' h => h.1.1) (fun _ h => h.1) (pc' := 495) rfl (fun y41 hy41 hy41' => ?_)
                    refine T_if_le zk_177_495 (by omega) (pc' := 498) rfl (fun h42 => ?_) (fun h43 => ?_)
                    ·
                      refine T_ld zk_177_511 rfl rfl rfl (pc' := 512) rfl ?_
                      refine T_getR (t' := 36) (i' := 0) (k' := 0) zk_177_512 rfl rfl rfl vd_35 (pc' := 515) rfl ?_
                      refine T_op zk_177_515 rfl (X_bi (v := 75) (by decide)) (pc' := 517) rfl ?_
                      refine T_ld zk_177_517 rfl rfl rfl (pc' := 519) rfl ?_
                      refine T_op zk_177_519 rfl X_add (pc' := 520) rfl ?_
                      refine T_op zk_177_520 rfl X_ic (pc' := 521) rfl ?_
                      refine G_iast (J' := (fun σ' => IF MLv σ σ' ∧ σ' 36 0 0 634 = n + 1 ∧ σ' 36 0 0 (Int.toNat (75 + x27)) = 0 ∧ True)) (ln := 646) zk_177_521 rfl rfl (vd_36 (by omega)) (by omega) (by omega) (by omega) (fun σ' h => ⟨h.1.up (by simp only [rgP] <;> omega) (by unfold MLv; omega), (up_ne (by omega)).trans (h.2.1), up_eq, trivial⟩) (pc' := 522) rfl ?_
                      refine T_iinc (L' := [(0, av 35 0 0), (1, iv p0), (2, iv 0), (3, iv 0), (4, iv ((n + 1) / 96)), (5, iv (x27 + 1))]) zk_177_522 (nL := 6) rfl rfl rfl rfl (pc' := 525) rfl ?_
                      refine T_goto zk_177_525 ?_
                      refine G_know (J' := (fun σ' => IF MLv σ σ' ∧ σ' 36 0 0 634 = n + 1 ∧ True)) (fun σ' h => ⟨h.1, h.2.1, trivial⟩) ?_
                      exact ih28 (x27 + 1) (by omega) (by omega)
                    ·
                      refine T_ld zk_177_498 rfl rfl rfl (pc' := 499) rfl ?_
                      refine T_getR (t' := 36) (i' := 0) (k' := 0) zk_177_499 rfl rfl rfl vd_35 (pc' := 502) rfl ?_
                      refine T_op zk_177_502 rfl X_ic (pc' := 503) rfl ?_
                      refine T_ld zk_177_503 rfl rfl rfl (pc' := 505) rfl ?_
                      refine T_op zk_177_505 rfl X_add (pc' := 506) rfl ?_
                      refine T_op (st' := [iv (0 + x27), av 36 0 0, iv (0 + x27), av 36 0 0]) zk_177_506 rfl rfl (pc' := 507) rfl ?_
                      refine G_iald (lo := -2147483648) (hi := 2147483647) (ln := 646) zk_177_507 rfl rfl (vd_36 (by omega)) (by omega) (by omega) (by omega) (fun σ' h => h.1.1) (fun _ h => h.1) (pc' := 508) rfl (fun y44 hy44 hy44' => ?_)
                      refine T_op zk_177_508 rfl X_ic (pc' := 509) rfl ?_
                      refine G_unk zk_177_509 rfl (pc' := 510) rfl (fun y45 hy45 hy45' => ?_)
                      refine G_iast (J' := (fun σ' => IF MLv σ σ' ∧ σ' 36 0 0 634 = n + 1 ∧ σ' 36 0 0 (Int.toNat (0 + x27)) = y45 ∧ True)) (ln := 646) zk_177_510 rfl rfl (vd_36 (by omega)) (by omega) (by omega) (by omega) (fun σ' h => ⟨h.1.up (by simp only [rgP] <;> omega) (by unfold MLv; omega), (up_ne (by omega)).trans (h.2.1), up_eq, trivial⟩) (pc' := 511) rfl ?_
                      refine T_ld zk_177_511 rfl rfl rfl (pc' := 512) rfl ?_
                      refine T_getR (t' := 36) (i' := 0) (k' := 0) zk_177_512 rfl rfl rfl vd_35 (pc' := 515) rfl ?_
                      refine T_op zk_177_515 rfl (X_bi (v := 75) (by decide)) (pc' := 517) rfl ?_
                      refine T_ld zk_177_517 rfl rfl rfl (pc' := 519) rfl ?_
                      refine T_op zk_177_519 rfl X_add (pc' := 520) rfl ?_
                      refine T_op zk_177_520 rfl X_ic (pc' := 521) rfl ?_
                      refine G_iast (J' := (fun σ' => IF MLv σ σ' ∧ σ' 36 0 0 634 = n + 1 ∧ σ' 36 0 0 (Int.toNat (75 + x27)) = 0 ∧ True)) (ln := 646) zk_177_521 rfl rfl (vd_36 (by omega)) (by omega) (by omega) (by omega) (fun σ' h => ⟨h.1.up (by simp only [rgP] <;> omega) (by unfold MLv; omega), (up_ne (by omega)).trans (h.2.1), up_eq, trivial⟩) (pc' := 522) rfl ?_
                      refine T_iinc (L' := [(0, av 35 0 0), (1, iv p0), (2, iv 0), (3, iv 0), (4, iv ((n + 1) / 96)), (5, iv (x27 + 1))]) zk_177_522 (nL := 6) rfl rfl rfl rfl (pc' := 525) rfl ?_
                      refine T_goto zk_177_525 ?_
                      refine G_know (J' := (fun σ' => IF MLv σ σ' ∧ σ' 36 0 0 634 = n + 1 ∧ True)) (fun σ' h => ⟨h.1, h.2.1, trivial⟩) ?_
                      exact ih28 (x27 + 1) (by omega) (by omega)
              ·
                exact T_vret zk_177_441 rfl (fun σ' h => ⟨rfl, h.1, ⟨h.2.1, trivial⟩⟩)
            · exfalso; omega
          · exfalso; omega
        · exfalso; omega
      · exfalso; omega
    ·
      refine T_op zk_177_28 rfl X_ic (pc' := 29) rfl ?_
      refine T_st (L' := [(0, av 35 0 0), (1, iv p0), (2, iv x6), (3, iv 0)]) zk_177_29 (nL := 6) rfl rfl rfl rfl rfl (pc' := 30) rfl ?_
      refine T_loop1 (fun x46 => ((0 : Int)).toNat) (fun x46 => (0 ≤ x46 ∧ x46 ≤ 0)) (fun x46 => TJ xs (fun σ' => IF MLv σ σ' ∧ σ' 36 0 0 634 = n ∧ True) 0 177 30 [(0, av 35 0 0), (1, iv p0), (2, iv x6), (3, iv x46)] [] _) ?_ 0 (by omega)
      intro x46 hp48 ih47
      refine T_ld zk_177_30 rfl rfl rfl (pc' := 31) rfl ?_
      refine T_ld zk_177_31 rfl rfl rfl (pc' := 32) rfl ?_
      refine T_getR (t' := 36) (i' := 0) (k' := 0) zk_177_32 rfl rfl rfl vd_35 (pc' := 35) rfl ?_
      refine T_op zk_177_35 rfl (X_si (v := 642) (by decide)) (pc' := 38) rfl ?_
      refine G_ialdX (w := 0) (ln := 646) zk_177_38 rfl rfl (vd_36 (by omega)) (by omega) (by omega) (by omega) (fun σ' h => (h.1.2 _ _ _ _ (by unfold MLv; omega)).trans s3) (pc' := 39) rfl ?_
      refine T_icmp_ge zk_177_39 (by omega) (by omega) (pc' := 42) rfl (fun h49 => ?_) (fun h50 => ?_)
      ·
        refine T_iinc (L' := [(0, av 35 0 0), (1, iv p0), (2, iv (x6 + (-1))), (3, iv x46)]) zk_177_81 (nL := 6) rfl rfl rfl rfl (pc' := 84) rfl ?_
        refine T_goto zk_177_84 ?_
        refine T_loc (L := [(0, av 35 0 0), (1, iv p0), (2, iv (x6 + (-1)))]) (E := [(3, iv x46)]) rfl ?_
        exact ih7 (x6 + (-1)) (by omega) (by omega)
      · exfalso; omega
  ·
    refine T_ld zk_177_8 rfl rfl rfl (pc' := 9) rfl ?_
    refine T_getR (t' := 55) (i' := 0) (k' := 0) zk_177_9 rfl rfl rfl vd_35 (pc' := 12) rfl ?_
    refine T_ld zk_177_12 rfl rfl rfl (pc' := 13) rfl ?_
    refine T_op zk_177_13 rfl X_ic (pc' := 14) rfl ?_
    refine G_iast (J' := (fun σ' => IF MLv σ σ' ∧ σ' 36 0 0 634 = n ∧ True)) (ln := 50) zk_177_14 rfl rfl vd_55 (by omega) (by omega) (by omega) (fun σ' h => ⟨h.1.up ⟨by omega, trivial⟩ (by unfold MLv; omega), (up_ne (by omega)).trans (h.2.1), trivial⟩) (pc' := 15) rfl ?_
    refine T_iinc (L' := [(0, av 35 0 0), (1, iv p0), (2, iv (x1 + 1))]) zk_177_15 (nL := 6) rfl rfl rfl rfl (pc' := 18) rfl ?_
    refine T_goto zk_177_18 ?_
    exact ih2 (x1 + 1) (by omega) (by omega)
/-- WModel.quarters -/
theorem m_quarters {xs : Nat × (Nat → Int32)} (p0 : Int) (h0 : -2147483648 ≤ p0 ∧ p0 ≤ 2147483647) (σ : ZS) (hI : Inv σ) (hm : ∀ t i k j, 35 ≤ t → σ t i k j = σ0 t i k j)  : CT xs 4 178 [av 35 0 0, iv p0] σ (fun v σ' => ∃ y, v = some (iv y) ∧ ((y = -6 ∧ (¬ (1 ≤ p0 ∧ p0 ≤ 200))) ∨ (y = p0 ∧ ¬ (¬ (1 ≤ p0 ∧ p0 ≤ 200)))) ∧ IF MQm σ σ' ∧ (True)) := by
  refine G_ct (J := (fun σ' => IF MQm σ σ' ∧ (∀ j, 25 ≤ j → j < 50 → σ' 36 0 0 j = 0) ∧ σ' 36 0 0 634 = 0 ∧ (∀ j, 0 ≤ j → j < 25 → σ' 54 0 0 j = 0) ∧ True)) (L := [(0, av 35 0 0), (1, iv p0)]) (nL := 3) rfl rfl rfl ⟨IF.rf hI, (fun j a b => ((hm _ _ _ _ (by decide)).trans (s0_z (by omega)))), ((hm _ _ _ _ (by decide)).trans (s0_z (by omega))), (fun j a b => hm _ _ _ _ (by decide)), trivial⟩ ?_
  refine T_ld zk_178_0 rfl rfl rfl (pc' := 1) rfl ?_
  refine T_op zk_178_1 rfl X_ic (pc' := 2) rfl ?_
  refine T_icmp_lt zk_178_2 (by omega) (by omega) (pc' := 5) rfl (fun h1 => ?_) (fun h2 => ?_)
  ·
    refine T_ld zk_178_12 rfl rfl rfl (pc' := 13) rfl ?_
    refine T_op zk_178_13 rfl (X_bi (v := -6) (by decide)) (pc' := 15) rfl ?_
    refine T_calli (K := fun y3 σ' => (y3 = (-6)) ∧ (fun σ' => IF MQm σ σ' ∧ (∀ j, 25 ≤ j → j < 50 → σ' 36 0 0 j = 0) ∧ σ' 36 0 0 634 = 0 ∧ (∀ j, 0 ≤ j → j < 25 → σ' 54 0 0 j = 0) ∧ True) σ') (r := []) zk_178_15 rfl rfl rfl rfl rfl rfl (Or.inr ⟨_, _, _, _, rfl, vd_35, rfl⟩) (fun σ' h => (m_123 ((-6)) (by omega) σ' h.1.1 ).le (Nat.le_of_ble_eq_true rfl) (fun v σ2 ⟨y, h1, h2, h3, h4⟩ => ⟨y, h1, h2, h.1.tr h3 (fun t i k j h => by unfold MT at h; unfold MQm; omega), fun j a b => (h3.2 _ _ _ _ (by unfold MT; omega)).trans (h.2.1 j a b), (h3.2 _ _ _ _ (by unfold MT; omega)).trans (h.2.2.1), fun j a b => (h3.2 _ _ _ _ (by unfold MT; omega)).trans (h.2.2.2.1 j a b), trivial⟩)) (pc' := 18) rfl (fun y3 => ?_)
    refine G_ex (fun hy3 => ?_)
    obtain rfl : y3 = (-6) := by omega
    exact T_iret zk_178_18 rfl (fun σ' h => ⟨_, rfl, (by omega), h.1, trivial⟩)
  ·
    refine T_ld zk_178_5 rfl rfl rfl (pc' := 6) rfl ?_
    refine T_op zk_178_6 rfl (X_si (v := 200) (by decide)) (pc' := 9) rfl ?_
    refine T_icmp_le zk_178_9 (by omega) (by omega) (pc' := 12) rfl (fun h4 => ?_) (fun h5 => ?_)
    ·
      refine T_ld zk_178_19 rfl rfl rfl (pc' := 20) rfl ?_
      refine T_getR (t' := 36) (i' := 0) (k' := 0) zk_178_20 rfl rfl rfl vd_35 (pc' := 23) rfl ?_
      refine T_op zk_178_23 rfl (X_si (v := 634) (by decide)) (pc' := 26) rfl ?_
      refine G_ialdX (w := 0) (ln := 646) zk_178_26 rfl rfl (vd_36 (by omega)) (by omega) (by omega) (by omega) (fun σ' h => h.2.2.1) (pc' := 27) rfl ?_
      refine T_ld zk_178_27 rfl rfl rfl (pc' := 28) rfl ?_
      refine T_op zk_178_28 rfl X_add (pc' := 29) rfl ?_
      refine T_op zk_178_29 rfl (X_si (v := 20000) (by decide)) (pc' := 32) rfl ?_
      refine T_icmp_le zk_178_32 (by omega) (by omega) (pc' := 35) rfl (fun h6 => ?_) (fun h7 => ?_)
      ·
        refine T_op zk_178_42 rfl X_ic (pc' := 43) rfl ?_
        refine T_st (L' := [(0, av 35 0 0), (1, iv p0), (2, iv 0)]) zk_178_43 (nL := 3) rfl rfl rfl rfl rfl (pc' := 44) rfl ?_
        refine G_know (J' := (fun σ' => IF MQm σ σ' ∧ (∀ j, 25 ≤ j → j < 50 → σ' 36 0 0 j = 0) ∧ (∀ j, 0 ≤ j → j < 25 → σ' 54 0 0 j = 0) ∧ σ' 36 0 0 634 = 0 ∧ True)) (fun σ' h => ⟨h.1, h.2.1, h.2.2.2.1, h.2.2.1, trivial⟩) ?_
        refine T_loop1 (fun x8 => ((200 - x8 : Int)).toNat) (fun x8 => (0 ≤ x8 ∧ x8 ≤ 200) ∧ x8 ≤ p0) (fun x8 => TJ xs (fun σ' => IF MQm σ σ' ∧ (∀ j, 25 ≤ j → j < 50 → σ' 36 0 0 j = 0) ∧ (∀ j, 0 ≤ j → j < 25 → σ' 54 0 0 j = 0) ∧ σ' 36 0 0 634 = x8 ∧ True) 3 178 44 [(0, av 35 0 0), (1, iv p0), (2, iv x8)] [] _) ?_ 0 (by omega)
        intro x8 hp10 ih9
        refine T_ld zk_178_44 rfl rfl rfl (pc' := 45) rfl ?_
        refine T_ld zk_178_45 rfl rfl rfl (pc' := 46) rfl ?_
        refine T_icmp_ge zk_178_46 (by omega) (by omega) (pc' := 49) rfl (fun h11 => ?_) (fun h12 => ?_)
        ·
          refine T_ld zk_178_65 rfl rfl rfl (pc' := 66) rfl ?_
          refine T_getR (t' := 36) (i' := 0) (k' := 0) zk_178_66 rfl rfl rfl vd_35 (pc' := 69) rfl ?_
          refine T_op zk_178_69 rfl (X_si (v := 634) (by decide)) (pc' := 72) rfl ?_
          refine G_ialdX (w := x8) (ln := 646) zk_178_72 rfl rfl (vd_36 (by omega)) (by omega) (by omega) (by omega) (fun σ' h => h.2.2.2.1) (pc' := 73) rfl ?_
          exact T_iret zk_178_73 rfl (fun σ' h => ⟨_, rfl, (by omega), h.1, trivial⟩)
        ·
          refine T_ld zk_178_49 rfl rfl rfl (pc' := 50) rfl ?_
          refine T_op zk_178_50 rfl X_ic (pc' := 51) rfl ?_
          refine T_callv (J' := (fun σ' => IF MQm σ σ' ∧ σ' 36 0 0 634 = x8 ∧ (∀ j, 25 ≤ j → j < 50 → σ' 36 0 0 j = 0) ∧ (∀ j, 0 ≤ j → j < 25 → σ' 54 0 0 j = 0) ∧ True)) (r := []) zk_178_51 rfl rfl rfl rfl rfl rfl (Or.inr ⟨_, _, _, _, rfl, vd_35, rfl⟩) (fun σ' h => (m_175e 0 (by omega) σ' h.1.1 ((h.1.2 _ _ _ _ (by unfold MQm; omega)).trans ((hm _ _ _ _ (by decide)).trans (s0_z (by omega)))) ((h.1.2 _ _ _ _ (by unfold MQm; omega)).trans ((hm _ _ _ _ (by decide)).trans (s0_z (by omega)))) ((h.1.2 _ _ _ _ (by unfold MQm; omega)).trans ((hm _ _ _ _ (by decide)).trans (s0_z (by omega)))) (fun j a b => h.2.1 j (by omega) (by omega)) (fun j a b => h.2.2.1 j (by omega) (by omega))).le (Nat.le_of_ble_eq_true rfl) (fun v σ2 ⟨h1, h3, h4⟩ => ⟨h1, h.1.tr h3 (fun t i k j h => by unfold MWt at h; unfold MQm; omega), (h3.2 _ _ _ _ (by unfold MWt; omega)).trans (h.2.2.2.1), h4.1, h4.2.1, trivial⟩)) (pc' := 54) rfl ?_
          refine T_ld zk_178_54 rfl rfl rfl (pc' := 55) rfl ?_
          refine T_op zk_178_55 rfl X_ic (pc' := 56) rfl ?_
          refine T_callv (J' := (fun σ' => IF MQm σ σ' ∧ (∀ j, 25 ≤ j → j < 50 → σ' 36 0 0 j = 0) ∧ (∀ j, 0 ≤ j → j < 25 → σ' 54 0 0 j = 0) ∧ σ' 36 0 0 634 = x8 + 1 ∧ True)) (r := []) zk_178_56 rfl rfl rfl rfl rfl rfl (Or.inr ⟨_, _, _, _, rfl, vd_35, rfl⟩) (fun σ' h => (m_177e 0 x8 (by omega) (by omega) σ' h.1.1 ((h.1.2 _ _ _ _ (by unfold MQm; omega)).trans ((hm _ _ _ _ (by decide)).trans (s0_z (by omega)))) ((h.1.2 _ _ _ _ (by unfold MQm; omega)).trans ((hm _ _ _ _ (by decide)).trans (s0_z (by omega)))) ((h.1.2 _ _ _ _ (by unfold MQm; omega)).trans ((hm _ _ _ _ (by decide)).trans (s0_z (by omega)))) (h.2.1)).le (Nat.le_of_ble_eq_true rfl) (fun v σ2 ⟨h1, h3, h4⟩ => ⟨h1, h.1.tr h3 (fun t i k j h => by unfold MLv at h; unfold MQm; omega), fun j a b => (h3.2 _ _ _ _ (by unfold MLv; omega)).trans (h.2.2.1 j a b), fun j a b => (h3.2 _ _ _ _ (by unfold MLv; omega)).trans (h.2.2.2.1 j a b), h4.1, trivial⟩)) (pc' := 59) rfl ?_
          refine T_iinc (L' := [(0, av 35 0 0), (1, iv p0), (2, iv (x8 + 1))]) zk_178_59 (nL := 3) rfl rfl rfl rfl (pc' := 62) rfl ?_
          refine T_goto zk_178_62 ?_
          refine G_know (J' := (fun σ' => IF MQm σ σ' ∧ (∀ j, 25 ≤ j → j < 50 → σ' 36 0 0 j = 0) ∧ (∀ j, 0 ≤ j → j < 25 → σ' 54 0 0 j = 0) ∧ σ' 36 0 0 634 = (x8 + 1) ∧ True)) (fun σ' h => ⟨h.1, h.2.1, h.2.2.1, (h.2.2.2.1).trans (by omega), trivial⟩) ?_
          exact ih9 (x8 + 1) (by omega) (by omega)
      · exfalso; omega
    ·
      refine T_ld zk_178_12 rfl rfl rfl (pc' := 13) rfl ?_
      refine T_op zk_178_13 rfl (X_bi (v := -6) (by decide)) (pc' := 15) rfl ?_
      refine T_calli (K := fun y15 σ' => (y15 = (-6)) ∧ (fun σ' => IF MQm σ σ' ∧ (∀ j, 25 ≤ j → j < 50 → σ' 36 0 0 j = 0) ∧ σ' 36 0 0 634 = 0 ∧ (∀ j, 0 ≤ j → j < 25 → σ' 54 0 0 j = 0) ∧ True) σ') (r := []) zk_178_15 rfl rfl rfl rfl rfl rfl (Or.inr ⟨_, _, _, _, rfl, vd_35, rfl⟩) (fun σ' h => (m_123 ((-6)) (by omega) σ' h.1.1 ).le (Nat.le_of_ble_eq_true rfl) (fun v σ2 ⟨y, h1, h2, h3, h4⟩ => ⟨y, h1, h2, h.1.tr h3 (fun t i k j h => by unfold MT at h; unfold MQm; omega), fun j a b => (h3.2 _ _ _ _ (by unfold MT; omega)).trans (h.2.1 j a b), (h3.2 _ _ _ _ (by unfold MT; omega)).trans (h.2.2.1), fun j a b => (h3.2 _ _ _ _ (by unfold MT; omega)).trans (h.2.2.2.1 j a b), trivial⟩)) (pc' := 18) rfl (fun y15 => ?_)
      refine G_ex (fun hy15 => ?_)
      obtain rfl : y15 = (-6) := by omega
      exact T_iret zk_178_18 rfl (fun σ' h => ⟨_, rfl, (by omega), h.1, trivial⟩)
