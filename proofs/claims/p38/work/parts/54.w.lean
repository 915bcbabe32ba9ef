theorem zk_48_0 : zc 48 0 = some (.aload_n 0, 0, 0, 0, 0) := rfl
theorem zk_48_1 : zc 48 1 = some (.aload_n 1, 0, 0, 0, 0) := rfl
theorem zk_48_2 : zc 48 2 = some (.getfield 22, 8, 2, 0, 75) := rfl
theorem zk_48_5 : zc 48 5 = some (.putfield 28, 6, 2, 0, 76) := rfl
theorem zk_48_8 : zc 48 8 = some (.iconst 0, 0, 0, 0, 0) := rfl
theorem zk_48_9 : zc 48 9 = some (.istore_n 2, 0, 0, 0, 0) := rfl
theorem zk_48_10 : zc 48 10 = some (.iload_n 2, 0, 0, 0, 0) := rfl
theorem zk_48_11 : zc 48 11 = some (.aload_n 0, 0, 0, 0, 0) := rfl
theorem zk_48_12 : zc 48 12 = some (.getfield 28, 6, 2, 0, 76) := rfl
theorem zk_48_15 : zc 48 15 = some (.if_icmp .ge 22, 37, 0, 0, 0) := rfl
theorem zk_48_18 : zc 48 18 = some (.aload_n 0, 0, 0, 0, 0) := rfl
theorem zk_48_19 : zc 48 19 = some (.getfield 18, 6, 1, 0, 74) := rfl
theorem zk_48_22 : zc 48 22 = some (.iload_n 2, 0, 0, 0, 0) := rfl
theorem zk_48_23 : zc 48 23 = some (.aload_n 1, 0, 0, 0, 0) := rfl
theorem zk_48_24 : zc 48 24 = some (.getfield 29, 8, 4, 0, 77) := rfl
theorem zk_48_27 : zc 48 27 = some (.iload_n 2, 0, 0, 0, 0) := rfl
theorem zk_48_28 : zc 48 28 = some (.laload, 0, 0, 0, 0) := rfl
theorem zk_48_29 : zc 48 29 = some (.l2i, 0, 0, 0, 0) := rfl
theorem zk_48_30 : zc 48 30 = some (.iastore, 0, 0, 0, 0) := rfl
theorem zk_48_31 : zc 48 31 = some (.iinc 2 1, 0, 0, 0, 0) := rfl
theorem zk_48_34 : zc 48 34 = some (.goto (-24), 10, 0, 0, 0) := rfl
theorem zk_48_37 : zc 48 37 = some (.aload_n 0, 0, 0, 0, 0) := rfl
theorem zk_48_38 : zc 48 38 = some (.iconst 0, 0, 0, 0, 0) := rfl
theorem zk_48_39 : zc 48 39 = some (.putfield 33, 6, 3, 0, 78) := rfl
theorem zk_48_42 : zc 48 42 = some (.aload_n 0, 0, 0, 0, 0) := rfl
theorem zk_48_43 : zc 48 43 = some (.getfield 12, 6, 0, 0, 73) := rfl
theorem zk_48_46 : zc 48 46 = some (.invokevirtual 36, 41, 0, 1, 61) := rfl
theorem zk_48_49 : zc 48 49 = some (.aload_n 0, 0, 0, 0, 0) := rfl
theorem zk_48_50 : zc 48 50 = some (.invokevirtual 39, 51, 0, 1, 62) := rfl
theorem zk_48_53 : zc 48 53 = some (.ifCond .eq 26, 79, 0, 0, 0) := rfl
theorem zk_48_56 : zc 48 56 = some (.aload_n 0, 0, 0, 0, 0) := rfl
theorem zk_48_57 : zc 48 57 = some (.iconst 0, 0, 0, 0, 0) := rfl
theorem zk_48_58 : zc 48 58 = some (.invokevirtual 43, 52, 0, 2, 63) := rfl
theorem zk_48_61 : zc 48 61 = some (.ifCond .eq 18, 79, 0, 0, 0) := rfl
theorem zk_48_64 : zc 48 64 = some (.aload_n 0, 0, 0, 0, 0) := rfl
theorem zk_48_65 : zc 48 65 = some (.getfield 33, 6, 3, 0, 78) := rfl
theorem zk_48_68 : zc 48 68 = some (.aload_n 0, 0, 0, 0, 0) := rfl
theorem zk_48_69 : zc 48 69 = some (.getfield 28, 6, 2, 0, 76) := rfl
theorem zk_48_72 : zc 48 72 = some (.if_icmp .ne 7, 79, 0, 0, 0) := rfl
theorem zk_48_75 : zc 48 75 = some (.iconst 1, 0, 0, 0, 0) := rfl
theorem zk_48_76 : zc 48 76 = some (.goto 4, 80, 0, 0, 0) := rfl
theorem zk_48_79 : zc 48 79 = some (.iconst 0, 0, 0, 0, 0) := rfl
theorem zk_48_80 : zc 48 80 = some (.istore_n 2, 0, 0, 0, 0) := rfl
theorem zk_48_81 : zc 48 81 = some (.iload_n 2, 0, 0, 0, 0) := rfl
theorem zk_48_82 : zc 48 82 = some (.ifCond .eq 7, 89, 0, 0, 0) := rfl
theorem zk_48_85 : zc 48 85 = some (.iconst (-1), 0, 0, 0, 0) := rfl
theorem zk_48_86 : zc 48 86 = some (.goto 7, 93, 0, 0, 0) := rfl
theorem zk_48_89 : zc 48 89 = some (.aload_n 0, 0, 0, 0, 0) := rfl
theorem zk_48_90 : zc 48 90 = some (.getfield 33, 6, 3, 0, 78) := rfl
theorem zk_48_93 : zc 48 93 = some (.ireturn, 0, 0, 0, 0) := rfl
theorem zk_52_0 : zc 52 0 = some (.aload_n 0, 0, 0, 0, 0) := rfl
theorem zk_52_1 : zc 52 1 = some (.iload_n 1, 0, 0, 0, 0) := rfl
theorem zk_52_2 : zc 52 2 = some (.invokevirtual 57, 53, 0, 2, 66) := rfl
theorem zk_52_5 : zc 52 5 = some (.istore_n 2, 0, 0, 0, 0) := rfl
theorem zk_52_6 : zc 52 6 = some (.iconst 0, 0, 0, 0, 0) := rfl
theorem zk_52_7 : zc 52 7 = some (.istore_n 3, 0, 0, 0, 0) := rfl
theorem zk_52_8 : zc 52 8 = some (.iload_n 3, 0, 0, 0, 0) := rfl
theorem zk_52_9 : zc 52 9 = some (.bipush 96, 0, 0, 0, 0) := rfl
theorem zk_52_11 : zc 52 11 = some (.if_icmp .ge 37, 48, 0, 0, 0) := rfl
theorem zk_52_14 : zc 52 14 = some (.iload_n 2, 0, 0, 0, 0) := rfl
theorem zk_52_15 : zc 52 15 = some (.ifCond .eq 33, 48, 0, 0, 0) := rfl
theorem zk_52_18 : zc 52 18 = some (.aload_n 0, 0, 0, 0, 0) := rfl
theorem zk_52_19 : zc 52 19 = some (.bipush 124, 0, 0, 0, 0) := rfl
theorem zk_52_21 : zc 52 21 = some (.invokevirtual 51, 50, 0, 2, 65) := rfl
theorem zk_52_24 : zc 52 24 = some (.ifCond .eq 24, 48, 0, 0, 0) := rfl
theorem zk_52_27 : zc 52 27 = some (.aload_n 0, 0, 0, 0, 0) := rfl
theorem zk_52_28 : zc 52 28 = some (.iload_n 1, 0, 0, 0, 0) := rfl
theorem zk_52_29 : zc 52 29 = some (.invokevirtual 57, 53, 0, 2, 66) := rfl
theorem zk_52_32 : zc 52 32 = some (.istore_n 2, 0, 0, 0, 0) := rfl
theorem zk_52_33 : zc 52 33 = some (.aload_n 0, 0, 0, 0, 0) := rfl
theorem zk_52_34 : zc 52 34 = some (.getfield 12, 6, 0, 0, 73) := rfl
theorem zk_52_37 : zc 52 37 = some (.bipush (-3), 0, 0, 0, 0) := rfl
theorem zk_52_39 : zc 52 39 = some (.invokevirtual 60, 42, 0, 2, 67) := rfl
theorem zk_52_42 : zc 52 42 = some (.iinc 3 1, 0, 0, 0, 0) := rfl
theorem zk_52_45 : zc 52 45 = some (.goto (-37), 8, 0, 0, 0) := rfl
theorem zk_52_48 : zc 52 48 = some (.iload_n 2, 0, 0, 0, 0) := rfl
theorem zk_52_49 : zc 52 49 = some (.ireturn, 0, 0, 0, 0) := rfl
theorem zk_53_0 : zc 53 0 = some (.aload_n 0, 0, 0, 0, 0) := rfl
theorem zk_53_1 : zc 53 1 = some (.iload_n 1, 0, 0, 0, 0) := rfl
theorem zk_53_2 : zc 53 2 = some (.invokevirtual 64, 54, 0, 2, 68) := rfl
theorem zk_53_5 : zc 53 5 = some (.istore_n 2, 0, 0, 0, 0) := rfl
theorem zk_53_6 : zc 53 6 = some (.iconst 0, 0, 0, 0, 0) := rfl
theorem zk_53_7 : zc 53 7 = some (.istore_n 3, 0, 0, 0, 0) := rfl
theorem zk_53_8 : zc 53 8 = some (.iload_n 3, 0, 0, 0, 0) := rfl
theorem zk_53_9 : zc 53 9 = some (.bipush 96, 0, 0, 0, 0) := rfl
theorem zk_53_11 : zc 53 11 = some (.if_icmp .ge 37, 48, 0, 0, 0) := rfl
theorem zk_53_14 : zc 53 14 = some (.iload_n 2, 0, 0, 0, 0) := rfl
theorem zk_53_15 : zc 53 15 = some (.ifCond .eq 33, 48, 0, 0, 0) := rfl
theorem zk_53_18 : zc 53 18 = some (.aload_n 0, 0, 0, 0, 0) := rfl
theorem zk_53_19 : zc 53 19 = some (.bipush 38, 0, 0, 0, 0) := rfl
theorem zk_53_21 : zc 53 21 = some (.invokevirtual 51, 50, 0, 2, 65) := rfl
theorem zk_53_24 : zc 53 24 = some (.ifCond .eq 24, 48, 0, 0, 0) := rfl
theorem zk_53_27 : zc 53 27 = some (.aload_n 0, 0, 0, 0, 0) := rfl
theorem zk_53_28 : zc 53 28 = some (.iload_n 1, 0, 0, 0, 0) := rfl
theorem zk_53_29 : zc 53 29 = some (.invokevirtual 64, 54, 0, 2, 68) := rfl
theorem zk_53_32 : zc 53 32 = some (.istore_n 2, 0, 0, 0, 0) := rfl
theorem zk_53_33 : zc 53 33 = some (.aload_n 0, 0, 0, 0, 0) := rfl
theorem zk_53_34 : zc 53 34 = some (.getfield 12, 6, 0, 0, 73) := rfl
theorem zk_53_37 : zc 53 37 = some (.bipush (-2), 0, 0, 0, 0) := rfl
theorem zk_53_39 : zc 53 39 = some (.invokevirtual 60, 42, 0, 2, 67) := rfl
theorem zk_53_42 : zc 53 42 = some (.iinc 3 1, 0, 0, 0, 0) := rfl
theorem zk_53_45 : zc 53 45 = some (.goto (-37), 8, 0, 0, 0) := rfl
theorem zk_53_48 : zc 53 48 = some (.iload_n 2, 0, 0, 0, 0) := rfl
theorem zk_53_49 : zc 53 49 = some (.ireturn, 0, 0, 0, 0) := rfl
theorem zk_54_0 : zc 54 0 = some (.aload_n 0, 0, 0, 0, 0) := rfl
theorem zk_54_1 : zc 54 1 = some (.invokevirtual 47, 49, 0, 1, 64) := rfl
theorem zk_54_4 : zc 54 4 = some (.bipush 33, 0, 0, 0, 0) := rfl
theorem zk_54_6 : zc 54 6 = some (.if_icmp .eq 17, 23, 0, 0, 0) := rfl
theorem zk_54_9 : zc 54 9 = some (.aload_n 0, 0, 0, 0, 0) := rfl
theorem zk_54_10 : zc 54 10 = some (.invokevirtual 47, 49, 0, 1, 64) := rfl
theorem zk_54_13 : zc 54 13 = some (.bipush 40, 0, 0, 0, 0) := rfl
theorem zk_54_15 : zc 54 15 = some (.if_icmp .eq 8, 23, 0, 0, 0) := rfl
theorem zk_54_18 : zc 54 18 = some (.aload_n 0, 0, 0, 0, 0) := rfl
theorem zk_54_19 : zc 54 19 = some (.invokevirtual 67, 55, 0, 1, 69) := rfl
theorem zk_54_22 : zc 54 22 = some (.ireturn, 0, 0, 0, 0) := rfl
theorem zk_54_23 : zc 54 23 = some (.iload_n 1, 0, 0, 0, 0) := rfl
theorem zk_54_24 : zc 54 24 = some (.bipush 20, 0, 0, 0, 0) := rfl
theorem zk_54_26 : zc 54 26 = some (.if_icmp .lt 5, 31, 0, 0, 0) := rfl
theorem zk_54_29 : zc 54 29 = some (.iconst 0, 0, 0, 0, 0) := rfl
theorem zk_54_30 : zc 54 30 = some (.ireturn, 0, 0, 0, 0) := rfl
theorem zk_54_31 : zc 54 31 = some (.aload_n 0, 0, 0, 0, 0) := rfl
theorem zk_54_32 : zc 54 32 = some (.bipush 40, 0, 0, 0, 0) := rfl
theorem zk_54_34 : zc 54 34 = some (.invokevirtual 51, 50, 0, 2, 65) := rfl
theorem zk_54_37 : zc 54 37 = some (.ifCond .eq 28, 65, 0, 0, 0) := rfl
theorem zk_54_40 : zc 54 40 = some (.aload_n 0, 0, 0, 0, 0) := rfl
theorem zk_54_41 : zc 54 41 = some (.iload_n 1, 0, 0, 0, 0) := rfl
theorem zk_54_42 : zc 54 42 = some (.iconst 1, 0, 0, 0, 0) := rfl
theorem zk_54_43 : zc 54 43 = some (.iadd, 0, 0, 0, 0) := rfl
theorem zk_54_44 : zc 54 44 = some (.invokevirtual 43, 52, 0, 2, 63) := rfl
theorem zk_54_47 : zc 54 47 = some (.ifCond .eq 16, 63, 0, 0, 0) := rfl
theorem zk_54_50 : zc 54 50 = some (.aload_n 0, 0, 0, 0, 0) := rfl
theorem zk_54_51 : zc 54 51 = some (.bipush 41, 0, 0, 0, 0) := rfl
theorem zk_54_53 : zc 54 53 = some (.invokevirtual 51, 50, 0, 2, 65) := rfl
theorem zk_54_56 : zc 54 56 = some (.ifCond .eq 7, 63, 0, 0, 0) := rfl
theorem zk_54_59 : zc 54 59 = some (.iconst 1, 0, 0, 0, 0) := rfl
theorem zk_54_60 : zc 54 60 = some (.goto 4, 64, 0, 0, 0) := rfl
theorem zk_54_63 : zc 54 63 = some (.iconst 0, 0, 0, 0, 0) := rfl
theorem zk_54_64 : zc 54 64 = some (.ireturn, 0, 0, 0, 0) := rfl
theorem zk_54_65 : zc 54 65 = some (.aload_n 0, 0, 0, 0, 0) := rfl
theorem zk_54_66 : zc 54 66 = some (.dup, 0, 0, 0, 0) := rfl
theorem zk_54_67 : zc 54 67 = some (.getfield 33, 6, 3, 0, 78) := rfl
theorem zk_54_70 : zc 54 70 = some (.iconst 1, 0, 0, 0, 0) := rfl
theorem zk_54_71 : zc 54 71 = some (.iadd, 0, 0, 0, 0) := rfl
theorem zk_54_72 : zc 54 72 = some (.putfield 33, 6, 3, 0, 78) := rfl
theorem zk_54_75 : zc 54 75 = some (.aload_n 0, 0, 0, 0, 0) := rfl
theorem zk_54_76 : zc 54 76 = some (.iload_n 1, 0, 0, 0, 0) := rfl
theorem zk_54_77 : zc 54 77 = some (.iconst 1, 0, 0, 0, 0) := rfl
theorem zk_54_78 : zc 54 78 = some (.iadd, 0, 0, 0, 0) := rfl
theorem zk_54_79 : zc 54 79 = some (.invokevirtual 64, 54, 0, 2, 68) := rfl
theorem zk_54_82 : zc 54 82 = some (.istore_n 2, 0, 0, 0, 0) := rfl
theorem zk_54_83 : zc 54 83 = some (.aload_n 0, 0, 0, 0, 0) := rfl
theorem zk_54_84 : zc 54 84 = some (.getfield 12, 6, 0, 0, 73) := rfl
theorem zk_54_87 : zc 54 87 = some (.iconst (-1), 0, 0, 0, 0) := rfl
theorem zk_54_88 : zc 54 88 = some (.invokevirtual 60, 42, 0, 2, 67) := rfl
theorem zk_54_91 : zc 54 91 = some (.iload_n 2, 0, 0, 0, 0) := rfl
theorem zk_54_92 : zc 54 92 = some (.ireturn, 0, 0, 0, 0) := rfl
/-- W$LawReader.readPart -/
theorem w_54_20 {xs : Nat × (Nat → Int32)}   (σ : ZS) (hI : Inv σ)   : CT xs 4 54 [av 29 0 0, iv 20] σ (fun v σ' => ∃ y, v = some (iv y) ∧ (y = 0 ∨ y = 1) ∧ IF MR σ σ' ∧ (True)) := by
  refine G_ct (J := (fun σ' => IF MR σ σ' ∧ True)) (L := [(0, av 29 0 0), (1, iv 20)]) (nL := 3) rfl rfl rfl ⟨IF.rf hI, trivial⟩ ?_
  refine T_ld zk_54_0 rfl rfl rfl (pc' := 1) rfl ?_
  refine T_calli (K := fun y1 σ' => (-2147483648 ≤ y1 ∧ y1 ≤ 2147483647) ∧ (fun σ' => IF MR σ σ' ∧ True) σ') (r := []) zk_54_1 rfl rfl rfl rfl rfl rfl (Or.inr ⟨_, _, _, _, rfl, vd_29, rfl⟩) (fun σ' h => (w_49   σ' h.1.1 ).le (Nat.le_of_ble_eq_true rfl) (fun v σ2 ⟨y, h1, h2, h3, h4⟩ => ⟨y, h1, h2, h.1.tr h3 MN_sub, trivial⟩)) (pc' := 4) rfl (fun y1 => ?_)
  refine G_ex (fun hy1 => ?_)
  refine T_op zk_54_4 rfl (X_bi (v := 33) (by decide)) (pc' := 6) rfl ?_
  refine T_icmp_eq zk_54_6 (by omega) (by omega) (pc' := 9) rfl (fun h2 => ?_) (fun h3 => ?_)
  ·
    refine T_ld zk_54_23 rfl rfl rfl (pc' := 24) rfl ?_
    refine T_op zk_54_24 rfl (X_bi (v := 20) (by decide)) (pc' := 26) rfl ?_
    refine T_icmp_lt zk_54_26 (by omega) (by omega) (pc' := 29) rfl (fun h4 => ?_) (fun h5 => ?_)
    · exfalso; omega
    ·
      refine T_op zk_54_29 rfl X_ic (pc' := 30) rfl ?_
      exact T_zret zk_54_30 rfl (by omega) (fun σ' h => ⟨_, rfl, (by omega), h.1, trivial⟩)
  ·
    refine T_ld zk_54_9 rfl rfl rfl (pc' := 10) rfl ?_
    refine T_calli (K := fun y6 σ' => (-2147483648 ≤ y6 ∧ y6 ≤ 2147483647) ∧ (fun σ' => IF MR σ σ' ∧ True) σ') (r := []) zk_54_10 rfl rfl rfl rfl rfl rfl (Or.inr ⟨_, _, _, _, rfl, vd_29, rfl⟩) (fun σ' h => (w_49   σ' h.1.1 ).le (Nat.le_of_ble_eq_true rfl) (fun v σ2 ⟨y, h1, h2, h3, h4⟩ => ⟨y, h1, h2, h.1.tr h3 MN_sub, trivial⟩)) (pc' := 13) rfl (fun y6 => ?_)
    refine G_ex (fun hy6 => ?_)
    refine T_op zk_54_13 rfl (X_bi (v := 40) (by decide)) (pc' := 15) rfl ?_
    refine T_icmp_eq zk_54_15 (by omega) (by omega) (pc' := 18) rfl (fun h7 => ?_) (fun h8 => ?_)
    ·
      refine T_ld zk_54_23 rfl rfl rfl (pc' := 24) rfl ?_
      refine T_op zk_54_24 rfl (X_bi (v := 20) (by decide)) (pc' := 26) rfl ?_
      refine T_icmp_lt zk_54_26 (by omega) (by omega) (pc' := 29) rfl (fun h9 => ?_) (fun h10 => ?_)
      · exfalso; omega
      ·
        refine T_op zk_54_29 rfl X_ic (pc' := 30) rfl ?_
        exact T_zret zk_54_30 rfl (by omega) (fun σ' h => ⟨_, rfl, (by omega), h.1, trivial⟩)
    ·
      refine T_ld zk_54_18 rfl rfl rfl (pc' := 19) rfl ?_
      refine T_calli (K := fun y11 σ' => (y11 = 0 ∨ y11 = 1) ∧ (fun σ' => IF MR σ σ' ∧ True) σ') (r := []) zk_54_19 rfl rfl rfl rfl rfl rfl (Or.inr ⟨_, _, _, _, rfl, vd_29, rfl⟩) (fun σ' h => (w_55   σ' h.1.1 ).le (Nat.le_of_ble_eq_true rfl) (fun v σ2 ⟨y, h1, h2, h3, h4⟩ => ⟨y, h1, h2, h.1.tr h3 (fun _ _ _ _ h => h), trivial⟩)) (pc' := 22) rfl (fun y11 => ?_)
      refine G_ex (fun hy11 => ?_)
      exact T_zret zk_54_22 rfl (by omega) (fun σ' h => ⟨_, rfl, (by omega), h.1, trivial⟩)
/-- W$LawReader.readBoth -/
theorem w_53_20 {xs : Nat × (Nat → Int32)}   (σ : ZS) (hI : Inv σ)   : CT xs 5 53 [av 29 0 0, iv 20] σ (fun v σ' => ∃ y, v = some (iv y) ∧ (y = 0 ∨ y = 1) ∧ IF MR σ σ' ∧ (True)) := by
  refine G_ct (J := (fun σ' => IF MR σ σ' ∧ True)) (L := [(0, av 29 0 0), (1, iv 20)]) (nL := 4) rfl rfl rfl ⟨IF.rf hI, trivial⟩ ?_
  refine T_ld zk_53_0 rfl rfl rfl (pc' := 1) rfl ?_
  refine T_ld zk_53_1 rfl rfl rfl (pc' := 2) rfl ?_
  refine T_calli (K := fun y1 σ' => (y1 = 0 ∨ y1 = 1) ∧ (fun σ' => IF MR σ σ' ∧ True) σ') (r := []) zk_53_2 rfl rfl rfl rfl rfl rfl (Or.inr ⟨_, _, _, _, rfl, vd_29, rfl⟩) (fun σ' h => (w_54_20   σ' h.1.1 ).le (Nat.le_of_ble_eq_true rfl) (fun v σ2 ⟨y, h1, h2, h3, h4⟩ => ⟨y, h1, h2, h.1.tr h3 (fun _ _ _ _ h => h), trivial⟩)) (pc' := 5) rfl (fun y1 => ?_)
  refine G_ex (fun hy1 => ?_)
  refine T_st (L' := [(0, av 29 0 0), (1, iv 20), (2, iv y1)]) zk_53_5 (nL := 4) rfl rfl rfl rfl rfl (pc' := 6) rfl ?_
  refine T_op zk_53_6 rfl X_ic (pc' := 7) rfl ?_
  refine T_st (L' := [(0, av 29 0 0), (1, iv 20), (2, iv y1), (3, iv 0)]) zk_53_7 (nL := 4) rfl rfl rfl rfl rfl (pc' := 8) rfl ?_
  refine T_loop2 (fun x2 x3 => ((96 - x3 : Int)).toNat) (fun x2 x3 => (0 ≤ x2 ∧ x2 ≤ 1) ∧ (0 ≤ x3 ∧ x3 ≤ 96)) (fun x2 x3 => TJ xs (fun σ' => IF MR σ σ' ∧ True) 4 53 8 [(0, av 29 0 0), (1, iv 20), (2, iv x2), (3, iv x3)] [] _) ?_ y1 0 (by omega)
  intro x2 x3 hp5 ih4
  refine T_ld zk_53_8 rfl rfl rfl (pc' := 9) rfl ?_
  refine T_op zk_53_9 rfl (X_bi (v := 96) (by decide)) (pc' := 11) rfl ?_
  refine T_icmp_ge zk_53_11 (by omega) (by omega) (pc' := 14) rfl (fun h6 => ?_) (fun h7 => ?_)
  ·
    refine T_ld zk_53_48 rfl rfl rfl (pc' := 49) rfl ?_
    exact T_zret zk_53_49 rfl (by omega) (fun σ' h => ⟨_, rfl, (by omega), h.1, trivial⟩)
  ·
    refine T_ld zk_53_14 rfl rfl rfl (pc' := 15) rfl ?_
    refine T_if_eq zk_53_15 (by omega) (pc' := 18) rfl (fun h8 => ?_) (fun h9 => ?_)
    ·
      refine T_ld zk_53_48 rfl rfl rfl (pc' := 49) rfl ?_
      exact T_zret zk_53_49 rfl (by omega) (fun σ' h => ⟨_, rfl, (by omega), h.1, trivial⟩)
    ·
      refine T_ld zk_53_18 rfl rfl rfl (pc' := 19) rfl ?_
      refine T_op zk_53_19 rfl (X_bi (v := 38) (by decide)) (pc' := 21) rfl ?_
      refine T_calli (K := fun y10 σ' => (y10 = 0 ∨ y10 = 1) ∧ (fun σ' => IF MR σ σ' ∧ True) σ') (r := []) zk_53_21 rfl rfl rfl rfl rfl rfl (Or.inr ⟨_, _, _, _, rfl, vd_29, rfl⟩) (fun σ' h => (w_50 38 (by omega) σ' h.1.1 ).le (Nat.le_of_ble_eq_true rfl) (fun v σ2 ⟨y, h1, h2, h3, h4⟩ => ⟨y, h1, h2, h.1.tr h3 (fun _ _ _ _ h => h), trivial⟩)) (pc' := 24) rfl (fun y10 => ?_)
      refine G_ex (fun hy10 => ?_)
      refine T_if_eq zk_53_24 (by omega) (pc' := 27) rfl (fun h11 => ?_) (fun h12 => ?_)
      ·
        refine T_ld zk_53_48 rfl rfl rfl (pc' := 49) rfl ?_
        exact T_zret zk_53_49 rfl (by omega) (fun σ' h => ⟨_, rfl, (by omega), h.1, trivial⟩)
      ·
        refine T_ld zk_53_27 rfl rfl rfl (pc' := 28) rfl ?_
        refine T_ld zk_53_28 rfl rfl rfl (pc' := 29) rfl ?_
        refine T_calli (K := fun y13 σ' => (y13 = 0 ∨ y13 = 1) ∧ (fun σ' => IF MR σ σ' ∧ True) σ') (r := []) zk_53_29 rfl rfl rfl rfl rfl rfl (Or.inr ⟨_, _, _, _, rfl, vd_29, rfl⟩) (fun σ' h => (w_54_20   σ' h.1.1 ).le (Nat.le_of_ble_eq_true rfl) (fun v σ2 ⟨y, h1, h2, h3, h4⟩ => ⟨y, h1, h2, h.1.tr h3 (fun _ _ _ _ h => h), trivial⟩)) (pc' := 32) rfl (fun y13 => ?_)
        refine G_ex (fun hy13 => ?_)
        refine T_st (L' := [(0, av 29 0 0), (1, iv 20), (2, iv y13), (3, iv x3)]) zk_53_32 (nL := 4) rfl rfl rfl rfl rfl (pc' := 33) rfl ?_
        refine T_ld zk_53_33 rfl rfl rfl (pc' := 34) rfl ?_
        refine T_getR (t' := 30) (i' := 0) (k' := 0) zk_53_34 rfl rfl rfl vd_29 (pc' := 37) rfl ?_
        refine T_op zk_53_37 rfl (X_bi (v := -2) (by decide)) (pc' := 39) rfl ?_
        refine T_callv (J' := (fun σ' => IF MR σ σ' ∧ True)) (r := []) zk_53_39 rfl rfl rfl rfl rfl rfl (Or.inr ⟨_, _, _, _, rfl, vd_30, rfl⟩) (fun σ' h => (w_42 ((-2)) (by omega) σ' h.1.1 ).le (Nat.le_of_ble_eq_true rfl) (fun v σ2 ⟨h1, h3, h4⟩ => ⟨h1, h.1.tr h3 (fun _ _ _ _ h => h), trivial⟩)) (pc' := 42) rfl ?_
        refine T_iinc (L' := [(0, av 29 0 0), (1, iv 20), (2, iv y13), (3, iv (x3 + 1))]) zk_53_42 (nL := 4) rfl rfl rfl rfl (pc' := 45) rfl ?_
        refine T_goto zk_53_45 ?_
        exact ih4 y13 (x3 + 1) (by omega) (by omega)
/-- W$LawReader.readEither -/
theorem w_52_20 {xs : Nat × (Nat → Int32)}   (σ : ZS) (hI : Inv σ)   : CT xs 6 52 [av 29 0 0, iv 20] σ (fun v σ' => ∃ y, v = some (iv y) ∧ (y = 0 ∨ y = 1) ∧ IF MR σ σ' ∧ (True)) := by
  refine G_ct (J := (fun σ' => IF MR σ σ' ∧ True)) (L := [(0, av 29 0 0), (1, iv 20)]) (nL := 4) rfl rfl rfl ⟨IF.rf hI, trivial⟩ ?_
  refine T_ld zk_52_0 rfl rfl rfl (pc' := 1) rfl ?_
  refine T_ld zk_52_1 rfl rfl rfl (pc' := 2) rfl ?_
  refine T_calli (K := fun y1 σ' => (y1 = 0 ∨ y1 = 1) ∧ (fun σ' => IF MR σ σ' ∧ True) σ') (r := []) zk_52_2 rfl rfl rfl rfl rfl rfl (Or.inr ⟨_, _, _, _, rfl, vd_29, rfl⟩) (fun σ' h => (w_53_20   σ' h.1.1 ).le (Nat.le_of_ble_eq_true rfl) (fun v σ2 ⟨y, h1, h2, h3, h4⟩ => ⟨y, h1, h2, h.1.tr h3 (fun _ _ _ _ h => h), trivial⟩)) (pc' := 5) rfl (fun y1 => ?_)
  refine G_ex (fun hy1 => ?_)
  refine T_st (L' := [(0, av 29 0 0), (1, iv 20), (2, iv y1)]) zk_52_5 (nL := 4) rfl rfl rfl rfl rfl (pc' := 6) rfl ?_
  refine T_op zk_52_6 rfl X_ic (pc' := 7) rfl ?_
  refine T_st (L' := [(0, av 29 0 0), (1, iv 20), (2, iv y1), (3, iv 0)]) zk_52_7 (nL := 4) rfl rfl rfl rfl rfl (pc' := 8) rfl ?_
  refine T_loop2 (fun x2 x3 => ((96 - x3 : Int)).toNat) (fun x2 x3 => (0 ≤ x2 ∧ x2 ≤ 1) ∧ (0 ≤ x3 ∧ x3 ≤ 96)) (fun x2 x3 => TJ xs (fun σ' => IF MR σ σ' ∧ True) 5 52 8 [(0, av 29 0 0), (1, iv 20), (2, iv x2), (3, iv x3)] [] _) ?_ y1 0 (by omega)
  intro x2 x3 hp5 ih4
  refine T_ld zk_52_8 rfl rfl rfl (pc' := 9) rfl ?_
  refine T_op zk_52_9 rfl (X_bi (v := 96) (by decide)) (pc' := 11) rfl ?_
  refine T_icmp_ge zk_52_11 (by omega) (by omega) (pc' := 14) rfl (fun h6 => ?_) (fun h7 => ?_)
  ·
    refine T_ld zk_52_48 rfl rfl rfl (pc' := 49) rfl ?_
    exact T_zret zk_52_49 rfl (by omega) (fun σ' h => ⟨_, rfl, (by omega), h.1, trivial⟩)
  ·
    refine T_ld zk_52_14 rfl rfl rfl (pc' := 15) rfl ?_
    refine T_if_eq zk_52_15 (by omega) (pc' := 18) rfl (fun h8 => ?_) (fun h9 => ?_)
    ·
      refine T_ld zk_52_48 rfl rfl rfl (pc' := 49) rfl ?_
      exact T_zret zk_52_49 rfl (by omega) (fun σ' h => ⟨_, rfl, (by omega), h.1, trivial⟩)
    ·
      refine T_ld zk_52_18 rfl rfl rfl (pc' := 19) rfl ?_
      refine T_op zk_52_19 rfl (X_bi (v := 124) (by decide)) (pc' := 21) rfl ?_
      refine T_calli (K := fun y10 σ' => (y10 = 0 ∨ y10 = 1) ∧ (fun σ' => IF MR σ σ' ∧ True) σ') (r := []) zk_52_21 rfl rfl rfl rfl rfl rfl (Or.inr ⟨_, _, _, _, rfl, vd_29, rfl⟩) (fun σ' h => (w_50 124 (by omega) σ' h.1.1 ).le (Nat.le_of_ble_eq_true rfl) (fun v σ2 ⟨y, h1, h2, h3, h4⟩ => ⟨y, h1, h2, h.1.tr h3 (fun _ _ _ _ h => h), trivial⟩)) (pc' := 24) rfl (fun y10 => ?_)
      refine G_ex (fun hy10 => ?_)
      refine T_if_eq zk_52_24 (by omega) (pc' := 27) rfl (fun h11 => ?_) (fun h12 => ?_)
      ·
        refine T_ld zk_52_48 rfl rfl rfl (pc' := 49) rfl ?_
        exact T_zret zk_52_49 rfl (by omega) (fun σ' h => ⟨_, rfl, (by omega), h.1, trivial⟩)
      ·
        refine T_ld zk_52_27 rfl rfl rfl (pc' := 28) rfl ?_
        refine T_ld zk_52_28 rfl rfl rfl (pc' := 29) rfl ?_
        refine T_calli (K := fun y13 σ' => (y13 = 0 ∨ y13 = 1) ∧ (fun σ' => IF MR σ σ' ∧ True) σ') (r := []) zk_52_29 rfl rfl rfl rfl rfl rfl (Or.inr ⟨_, _, _, _, rfl, vd_29, rfl⟩) (fun σ' h => (w_53_20   σ' h.1.1 ).le (Nat.le_of_ble_eq_true rfl) (fun v σ2 ⟨y, h1, h2, h3, h4⟩ => ⟨y, h1, h2, h.1.tr h3 (fun _ _ _ _ h => h), trivial⟩)) (pc' := 32) rfl (fun y13 => ?_)
        refine G_ex (fun hy13 => ?_)
        refine T_st (L' := [(0, av 29 0 0), (1, iv 20), (2, iv y13), (3, iv x3)]) zk_52_32 (nL := 4) rfl rfl rfl rfl rfl (pc' := 33) rfl ?_
        refine T_ld zk_52_33 rfl rfl rfl (pc' := 34) rfl ?_
        refine T_getR (t' := 30) (i' := 0) (k' := 0) zk_52_34 rfl rfl rfl vd_29 (pc' := 37) rfl ?_
        refine T_op zk_52_37 rfl (X_bi (v := -3) (by decide)) (pc' := 39) rfl ?_
        refine T_callv (J' := (fun σ' => IF MR σ σ' ∧ True)) (r := []) zk_52_39 rfl rfl rfl rfl rfl rfl (Or.inr ⟨_, _, _, _, rfl, vd_30, rfl⟩) (fun σ' h => (w_42 ((-3)) (by omega) σ' h.1.1 ).le (Nat.le_of_ble_eq_true rfl) (fun v σ2 ⟨h1, h3, h4⟩ => ⟨h1, h.1.tr h3 (fun _ _ _ _ h => h), trivial⟩)) (pc' := 42) rfl ?_
        refine T_iinc (L' := [(0, av 29 0 0), (1, iv 20), (2, iv y13), (3, iv (x3 + 1))]) zk_52_42 (nL := 4) rfl rfl rfl rfl (pc' := 45) rfl ?_
        refine T_goto zk_52_45 ?_
        exact ih4 y13 (x3 + 1) (by omega) (by omega)
/-- W$LawReader.readPart -/
theorem w_54_19 {xs : Nat × (Nat → Int32)}   (σ : ZS) (hI : Inv σ)   : CT xs 7 54 [av 29 0 0, iv 19] σ (fun v σ' => ∃ y, v = some (iv y) ∧ (y = 0 ∨ y = 1) ∧ IF MR σ σ' ∧ (True)) := by
  refine G_ct (J := (fun σ' => IF MR σ σ' ∧ True)) (L := [(0, av 29 0 0), (1, iv 19)]) (nL := 3) rfl rfl rfl ⟨IF.rf hI, trivial⟩ ?_
  refine T_ld zk_54_0 rfl rfl rfl (pc' := 1) rfl ?_
  refine T_calli (K := fun y1 σ' => (-2147483648 ≤ y1 ∧ y1 ≤ 2147483647) ∧ (fun σ' => IF MR σ σ' ∧ True) σ') (r := []) zk_54_1 rfl rfl rfl rfl rfl rfl (Or.inr ⟨_, _, _, _, rfl, vd_29, rfl⟩) (fun σ' h => (w_49   σ' h.1.1 ).le (Nat.le_of_ble_eq_true rfl) (fun v σ2 ⟨y, h1, h2, h3, h4⟩ => ⟨y, h1, h2, h.1.tr h3 MN_sub, trivial⟩)) (pc' := 4) rfl (fun y1 => ?_)
  refine G_ex (fun hy1 => ?_)
  refine T_op zk_54_4 rfl (X_bi (v := 33) (by decide)) (pc' := 6) rfl ?_
  refine T_icmp_eq zk_54_6 (by omega) (by omega) (pc' := 9) rfl (fun h2 => ?_) (fun h3 => ?_)
  ·
    refine T_ld zk_54_23 rfl rfl rfl (pc' := 24) rfl ?_
    refine T_op zk_54_24 rfl (X_bi (v := 20) (by decide)) (pc' := 26) rfl ?_
    refine T_icmp_lt zk_54_26 (by omega) (by omega) (pc' := 29) rfl (fun h4 => ?_) (fun h5 => ?_)
    ·
      refine T_ld zk_54_31 rfl rfl rfl (pc' := 32) rfl ?_
      refine T_op zk_54_32 rfl (X_bi (v := 40) (by decide)) (pc' := 34) rfl ?_
      refine T_calli (K := fun y6 σ' => (y6 = 0 ∨ y6 = 1) ∧ (fun σ' => IF MR σ σ' ∧ True) σ') (r := []) zk_54_34 rfl rfl rfl rfl rfl rfl (Or.inr ⟨_, _, _, _, rfl, vd_29, rfl⟩) (fun σ' h => (w_50 40 (by omega) σ' h.1.1 ).le (Nat.le_of_ble_eq_true rfl) (fun v σ2 ⟨y, h1, h2, h3, h4⟩ => ⟨y, h1, h2, h.1.tr h3 (fun _ _ _ _ h => h), trivial⟩)) (pc' := 37) rfl (fun y6 => ?_)
      refine G_ex (fun hy6 => ?_)
      refine T_if_eq zk_54_37 (by omega) (pc' := 40) rfl (fun h7 => ?_) (fun h8 => ?_)
      ·
        refine T_ld zk_54_65 rfl rfl rfl (pc' := 66) rfl ?_
        refine T_op (st' := [av 29 0 0, av 29 0 0]) zk_54_66 rfl rfl (pc' := 67) rfl ?_
        refine G_getf (lo := -2147483648) (hi := 2147483647) zk_54_67 rfl vd_29 (fun σ' h => h.1.1) (fun _ h => (by have q := h.1; omega)) (pc' := 70) rfl (fun y9 hy9 hy9' => ?_)
        refine T_op zk_54_70 rfl X_ic (pc' := 71) rfl ?_
        refine G_unk zk_54_71 rfl (pc' := 72) rfl (fun y10 hy10 hy10' => ?_)
        refine T_putf (J' := (fun σ' => IF MR σ σ' ∧ σ' 29 0 0 3 = y10 ∧ True)) zk_54_72 rfl rfl vd_29 (fun σ' h => ⟨h.1.up (by simp only [rgP] <;> omega) (by first | exact pMR rfl | (unfold MR; omega)), up_eq, trivial⟩) (pc' := 75) rfl ?_
        refine T_ld zk_54_75 rfl rfl rfl (pc' := 76) rfl ?_
        refine T_ld zk_54_76 rfl rfl rfl (pc' := 77) rfl ?_
        refine T_op zk_54_77 rfl X_ic (pc' := 78) rfl ?_
        refine T_opc (w := 20) zk_54_78 rfl X_add (by omega) (pc' := 79) rfl ?_
        refine T_calli (K := fun y11 σ' => (y11 = 0 ∨ y11 = 1) ∧ (fun σ' => IF MR σ σ' ∧ True) σ') (r := []) zk_54_79 rfl rfl rfl rfl rfl rfl (Or.inr ⟨_, _, _, _, rfl, vd_29, rfl⟩) (fun σ' h => (w_54_20   σ' h.1.1 ).le (Nat.le_of_ble_eq_true rfl) (fun v σ2 ⟨y, h1, h2, h3, h4⟩ => ⟨y, h1, h2, h.1.tr h3 (fun _ _ _ _ h => h), trivial⟩)) (pc' := 82) rfl (fun y11 => ?_)
        refine G_ex (fun hy11 => ?_)
        refine T_st (L' := [(0, av 29 0 0), (1, iv 19), (2, iv y11)]) zk_54_82 (nL := 3) rfl rfl rfl rfl rfl (pc' := 83) rfl ?_
        refine T_ld zk_54_83 rfl rfl rfl (pc' := 84) rfl ?_
        refine T_getR (t' := 30) (i' := 0) (k' := 0) zk_54_84 rfl rfl rfl vd_29 (pc' := 87) rfl ?_
        refine T_op zk_54_87 rfl X_ic (pc' := 88) rfl ?_
        refine T_callv (J' := (fun σ' => IF MR σ σ' ∧ True)) (r := []) zk_54_88 rfl rfl rfl rfl rfl rfl (Or.inr ⟨_, _, _, _, rfl, vd_30, rfl⟩) (fun σ' h => (w_42 ((-1)) (by omega) σ' h.1.1 ).le (Nat.le_of_ble_eq_true rfl) (fun v σ2 ⟨h1, h3, h4⟩ => ⟨h1, h.1.tr h3 (fun _ _ _ _ h => h), trivial⟩)) (pc' := 91) rfl ?_
        refine T_ld zk_54_91 rfl rfl rfl (pc' := 92) rfl ?_
        exact T_zret zk_54_92 rfl (by omega) (fun σ' h => ⟨_, rfl, (by omega), h.1, trivial⟩)
      ·
        refine T_ld zk_54_40 rfl rfl rfl (pc' := 41) rfl ?_
        refine T_ld zk_54_41 rfl rfl rfl (pc' := 42) rfl ?_
        refine T_op zk_54_42 rfl X_ic (pc' := 43) rfl ?_
        refine T_opc (w := 20) zk_54_43 rfl X_add (by omega) (pc' := 44) rfl ?_
        refine T_calli (K := fun y13 σ' => (y13 = 0 ∨ y13 = 1) ∧ (fun σ' => IF MR σ σ' ∧ True) σ') (r := []) zk_54_44 rfl rfl rfl rfl rfl rfl (Or.inr ⟨_, _, _, _, rfl, vd_29, rfl⟩) (fun σ' h => (w_52_20   σ' h.1.1 ).le (Nat.le_of_ble_eq_true rfl) (fun v σ2 ⟨y, h1, h2, h3, h4⟩ => ⟨y, h1, h2, h.1.tr h3 (fun _ _ _ _ h => h), trivial⟩)) (pc' := 47) rfl (fun y13 => ?_)
        refine G_ex (fun hy13 => ?_)
        refine T_if_eq zk_54_47 (by omega) (pc' := 50) rfl (fun h14 => ?_) (fun h15 => ?_)
        ·
          refine T_op zk_54_63 rfl X_ic (pc' := 64) rfl ?_
          exact T_zret zk_54_64 rfl (by omega) (fun σ' h => ⟨_, rfl, (by omega), h.1, trivial⟩)
        ·
          refine T_ld zk_54_50 rfl rfl rfl (pc' := 51) rfl ?_
          refine T_op zk_54_51 rfl (X_bi (v := 41) (by decide)) (pc' := 53) rfl ?_
          refine T_calli (K := fun y16 σ' => (y16 = 0 ∨ y16 = 1) ∧ (fun σ' => IF MR σ σ' ∧ True) σ') (r := []) zk_54_53 rfl rfl rfl rfl rfl rfl (Or.inr ⟨_, _, _, _, rfl, vd_29, rfl⟩) (fun σ' h => (w_50 41 (by omega) σ' h.1.1 ).le (Nat.le_of_ble_eq_true rfl) (fun v σ2 ⟨y, h1, h2, h3, h4⟩ => ⟨y, h1, h2, h.1.tr h3 (fun _ _ _ _ h => h), trivial⟩)) (pc' := 56) rfl (fun y16 => ?_)
          refine G_ex (fun hy16 => ?_)
          refine T_if_eq zk_54_56 (by omega) (pc' := 59) rfl (fun h17 => ?_) (fun h18 => ?_)
          ·
            refine T_op zk_54_63 rfl X_ic (pc' := 64) rfl ?_
            exact T_zret zk_54_64 rfl (by omega) (fun σ' h => ⟨_, rfl, (by omega), h.1, trivial⟩)
          ·
            refine T_op zk_54_59 rfl X_ic (pc' := 60) rfl ?_
            refine T_goto zk_54_60 ?_
            exact T_zret zk_54_64 rfl (by omega) (fun σ' h => ⟨_, rfl, (by omega), h.1, trivial⟩)
    · exfalso; omega
  ·
    refine T_ld zk_54_9 rfl rfl rfl (pc' := 10) rfl ?_
    refine T_calli (K := fun y19 σ' => (-2147483648 ≤ y19 ∧ y19 ≤ 2147483647) ∧ (fun σ' => IF MR σ σ' ∧ True) σ') (r := []) zk_54_10 rfl rfl rfl rfl rfl rfl (Or.inr ⟨_, _, _, _, rfl, vd_29, rfl⟩) (fun σ' h => (w_49   σ' h.1.1 ).le (Nat.le_of_ble_eq_true rfl) (fun v σ2 ⟨y, h1, h2, h3, h4⟩ => ⟨y, h1, h2, h.1.tr h3 MN_sub, trivial⟩)) (pc' := 13) rfl (fun y19 => ?_)
    refine G_ex (fun hy19 => ?_)
    refine T_op zk_54_13 rfl (X_bi (v := 40) (by decide)) (pc' := 15) rfl ?_
    refine T_icmp_eq zk_54_15 (by omega) (by omega) (pc' := 18) rfl (fun h20 => ?_) (fun h21 => ?_)
    ·
      refine T_ld zk_54_23 rfl rfl rfl (pc' := 24) rfl ?_
      refine T_op zk_54_24 rfl (X_bi (v := 20) (by decide)) (pc' := 26) rfl ?_
      refine T_icmp_lt zk_54_26 (by omega) (by omega) (pc' := 29) rfl (fun h22 => ?_) (fun h23 => ?_)
      ·
        refine T_ld zk_54_31 rfl rfl rfl (pc' := 32) rfl ?_
        refine T_op zk_54_32 rfl (X_bi (v := 40) (by decide)) (pc' := 34) rfl ?_
        refine T_calli (K := fun y24 σ' => (y24 = 0 ∨ y24 = 1) ∧ (fun σ' => IF MR σ σ' ∧ True) σ') (r := []) zk_54_34 rfl rfl rfl rfl rfl rfl (Or.inr ⟨_, _, _, _, rfl, vd_29, rfl⟩) (fun σ' h => (w_50 40 (by omega) σ' h.1.1 ).le (Nat.le_of_ble_eq_true rfl) (fun v σ2 ⟨y, h1, h2, h3, h4⟩ => ⟨y, h1, h2, h.1.tr h3 (fun _ _ _ _ h => h), trivial⟩)) (pc' := 37) rfl (fun y24 => ?_)
        refine G_ex (fun hy24 => ?_)
        refine T_if_eq zk_54_37 (by omega) (pc' := 40) rfl (fun h25 => ?_) (fun h26 => ?_)
        ·
          refine T_ld zk_54_65 rfl rfl rfl (pc' := 66) rfl ?_
          refine T_op (st' := [av 29 0 0, av 29 0 0]) zk_54_66 rfl rfl (pc' := 67) rfl ?_
          refine G_getf (lo := -2147483648) (hi := 2147483647) zk_54_67 rfl vd_29 (fun σ' h => h.1.1) (fun _ h => (by have q := h.1; omega)) (pc' := 70) rfl (fun y27 hy27 hy27' => ?_)
          refine T_op zk_54_70 rfl X_ic (pc' := 71) rfl ?_
          refine G_unk zk_54_71 rfl (pc' := 72) rfl (fun y28 hy28 hy28' => ?_)
          refine T_putf (J' := (fun σ' => IF MR σ σ' ∧ σ' 29 0 0 3 = y28 ∧ True)) zk_54_72 rfl rfl vd_29 (fun σ' h => ⟨h.1.up (by simp only [rgP] <;> omega) (by first | exact pMR rfl | (unfold MR; omega)), up_eq, trivial⟩) (pc' := 75) rfl ?_
          refine T_ld zk_54_75 rfl rfl rfl (pc' := 76) rfl ?_
          refine T_ld zk_54_76 rfl rfl rfl (pc' := 77) rfl ?_
          refine T_op zk_54_77 rfl X_ic (pc' := 78) rfl ?_
          refine T_opc (w := 20) zk_54_78 rfl X_add (by omega) (pc' := 79) rfl ?_
          refine T_calli (K := fun y29 σ' => (y29 = 0 ∨ y29 = 1) ∧ (fun σ' => IF MR σ σ' ∧ True) σ') (r := []) zk_54_79 rfl rfl rfl rfl rfl rfl (Or.inr ⟨_, _, _, _, rfl, vd_29, rfl⟩) (fun σ' h => (w_54_20   σ' h.1.1 ).le (Nat.le_of_ble_eq_true rfl) (fun v σ2 ⟨y, h1, h2, h3, h4⟩ => ⟨y, h1, h2, h.1.tr h3 (fun _ _ _ _ h => h), trivial⟩)) (pc' := 82) rfl (fun y29 => ?_)
          refine G_ex (fun hy29 => ?_)
          refine T_st (L' := [(0, av 29 0 0), (1, iv 19), (2, iv y29)]) zk_54_82 (nL := 3) rfl rfl rfl rfl rfl (pc' := 83) rfl ?_
          refine T_ld zk_54_83 rfl rfl rfl (pc' := 84) rfl ?_
          refine T_getR (t' := 30) (i' := 0) (k' := 0) zk_54_84 rfl rfl rfl vd_29 (pc' := 87) rfl ?_
          refine T_op zk_54_87 rfl X_ic (pc' := 88) rfl ?_
          refine T_callv (J' := (fun σ' => IF MR σ σ' ∧ True)) (r := []) zk_54_88 rfl rfl rfl rfl rfl rfl (Or.inr ⟨_, _, _, _, rfl, vd_30, rfl⟩) (fun σ' h => (w_42 ((-1)) (by omega) σ' h.1.1 ).le (Nat.le_of_ble_eq_true rfl) (fun v σ2 ⟨h1, h3, h4⟩ => ⟨h1, h.1.tr h3 (fun _ _ _ _ h => h), trivial⟩)) (pc' := 91) rfl ?_
          refine T_ld zk_54_91 rfl rfl rfl (pc' := 92) rfl ?_
          exact T_zret zk_54_92 rfl (by omega) (fun σ' h => ⟨_, rfl, (by omega), h.1, trivial⟩)
        ·
          refine T_ld zk_54_40 rfl rfl rfl (pc' := 41) rfl ?_
          refine T_ld zk_54_41 rfl rfl rfl (pc' := 42) rfl ?_
          refine T_op zk_54_42 rfl X_ic (pc' := 43) rfl ?_
          refine T_opc (w := 20) zk_54_43 rfl X_add (by omega) (pc' := 44) rfl ?_
          refine T_calli (K := fun y31 σ' => (y31 = 0 ∨ y31 = 1) ∧ (fun σ' => IF MR σ σ' ∧ True) σ') (r := []) zk_54_44 rfl rfl rfl rfl rfl rfl (Or.inr ⟨_, _, _, _, rfl, vd_29, rfl⟩) (fun σ' h => (w_52_20   σ' h.1.1 ).le (Nat.le_of_ble_eq_true rfl) (fun v σ2 ⟨y, h1, h2, h3, h4⟩ => ⟨y, h1, h2, h.1.tr h3 (fun _ _ _ _ h => h), trivial⟩)) (pc' := 47) rfl (fun y31 => ?_)
          refine G_ex (fun hy31 => ?_)
          refine T_if_eq zk_54_47 (by omega) (pc' := 50) rfl (fun h32 => ?_) (fun h33 => ?_)
          ·
            refine T_op zk_54_63 rfl X_ic (pc' := 64) rfl ?_
            exact T_zret zk_54_64 rfl (by omega) (fun σ' h => ⟨_, rfl, (by omega), h.1, trivial⟩)
          ·
            refine T_ld zk_54_50 rfl rfl rfl (pc' := 51) rfl ?_
            refine T_op zk_54_51 rfl (X_bi (v := 41) (by decide)) (pc' := 53) rfl ?_
            refine T_calli (K := fun y34 σ' => (y34 = 0 ∨ y34 = 1) ∧ (fun σ' => IF MR σ σ' ∧ True) σ') (r := []) zk_54_53 rfl rfl rfl rfl rfl rfl (Or.inr ⟨_, _, _, _, rfl, vd_29, rfl⟩) (fun σ' h => (w_50 41 (by omega) σ' h.1.1 ).le (Nat.le_of_ble_eq_true rfl) (fun v σ2 ⟨y, h1, h2, h3, h4⟩ => ⟨y, h1, h2, h.1.tr h3 (fun _ _ _ _ h => h), trivial⟩)) (pc' := 56) rfl (fun y34 => ?_)
            refine G_ex (fun hy34 => ?_)
            refine T_if_eq zk_54_56 (by omega) (pc' := 59) rfl (fun h35 => ?_) (fun h36 => ?_)
            ·
              refine T_op zk_54_63 rfl X_ic (pc' := 64) rfl ?_
              exact T_zret zk_54_64 rfl (by omega) (fun σ' h => ⟨_, rfl, (by omega), h.1, trivial⟩)
            ·
              refine T_op zk_54_59 rfl X_ic (pc' := 60) rfl ?_
              refine T_goto zk_54_60 ?_
              exact T_zret zk_54_64 rfl (by omega) (fun σ' h => ⟨_, rfl, (by omega), h.1, trivial⟩)
      · exfalso; omega
    ·
      refine T_ld zk_54_18 rfl rfl rfl (pc' := 19) rfl ?_
      refine T_calli (K := fun y37 σ' => (y37 = 0 ∨ y37 = 1) ∧ (fun σ' => IF MR σ σ' ∧ True) σ') (r := []) zk_54_19 rfl rfl rfl rfl rfl rfl (Or.inr ⟨_, _, _, _, rfl, vd_29, rfl⟩) (fun σ' h => (w_55   σ' h.1.1 ).le (Nat.le_of_ble_eq_true rfl) (fun v σ2 ⟨y, h1, h2, h3, h4⟩ => ⟨y, h1, h2, h.1.tr h3 (fun _ _ _ _ h => h), trivial⟩)) (pc' := 22) rfl (fun y37 => ?_)
      refine G_ex (fun hy37 => ?_)
      exact T_zret zk_54_22 rfl (by omega) (fun σ' h => ⟨_, rfl, (by omega), h.1, trivial⟩)
/-- W$LawReader.readBoth -/
theorem w_53_19 {xs : Nat × (Nat → Int32)}   (σ : ZS) (hI : Inv σ)   : CT xs 8 53 [av 29 0 0, iv 19] σ (fun v σ' => ∃ y, v = some (iv y) ∧ (y = 0 ∨ y = 1) ∧ IF MR σ σ' ∧ (True)) := by
  refine G_ct (J := (fun σ' => IF MR σ σ' ∧ True)) (L := [(0, av 29 0 0), (1, iv 19)]) (nL := 4) rfl rfl rfl ⟨IF.rf hI, trivial⟩ ?_
  refine T_ld zk_53_0 rfl rfl rfl (pc' := 1) rfl ?_
  refine T_ld zk_53_1 rfl rfl rfl (pc' := 2) rfl ?_
  refine T_calli (K := fun y1 σ' => (y1 = 0 ∨ y1 = 1) ∧ (fun σ' => IF MR σ σ' ∧ True) σ') (r := []) zk_53_2 rfl rfl rfl rfl rfl rfl (Or.inr ⟨_, _, _, _, rfl, vd_29, rfl⟩) (fun σ' h => (w_54_19   σ' h.1.1 ).le (Nat.le_of_ble_eq_true rfl) (fun v σ2 ⟨y, h1, h2, h3, h4⟩ => ⟨y, h1, h2, h.1.tr h3 (fun _ _ _ _ h => h), trivial⟩)) (pc' := 5) rfl (fun y1 => ?_)
  refine G_ex (fun hy1 => ?_)
  refine T_st (L' := [(0, av 29 0 0), (1, iv 19), (2, iv y1)]) zk_53_5 (nL := 4) rfl rfl rfl rfl rfl (pc' := 6) rfl ?_
  refine T_op zk_53_6 rfl X_ic (pc' := 7) rfl ?_
  refine T_st (L' := [(0, av 29 0 0), (1, iv 19), (2, iv y1), (3, iv 0)]) zk_53_7 (nL := 4) rfl rfl rfl rfl rfl (pc' := 8) rfl ?_
  refine T_loop2 (fun x2 x3 => ((96 - x3 : Int)).toNat) (fun x2 x3 => (0 ≤ x2 ∧ x2 ≤ 1) ∧ (0 ≤ x3 ∧ x3 ≤ 96)) (fun x2 x3 => TJ xs (fun σ' => IF MR σ σ' ∧ True) 7 53 8 [(0, av 29 0 0), (1, iv 19), (2, iv x2), (3, iv x3)] [] _) ?_ y1 0 (by omega)
  intro x2 x3 hp5 ih4
  refine T_ld zk_53_8 rfl rfl rfl (pc' := 9) rfl ?_
  refine T_op zk_53_9 rfl (X_bi (v := 96) (by decide)) (pc' := 11) rfl ?_
  refine T_icmp_ge zk_53_11 (by omega) (by omega) (pc' := 14) rfl (fun h6 => ?_) (fun h7 => ?_)
  ·
    refine T_ld zk_53_48 rfl rfl rfl (pc' := 49) rfl ?_
    exact T_zret zk_53_49 rfl (by omega) (fun σ' h => ⟨_, rfl, (by omega), h.1, trivial⟩)
  ·
    refine T_ld zk_53_14 rfl rfl rfl (pc' := 15) rfl ?_
    refine T_if_eq zk_53_15 (by omega) (pc' := 18) rfl (fun h8 => ?_) (fun h9 => ?_)
    ·
      refine T_ld zk_53_48 rfl rfl rfl (pc' := 49) rfl ?_
      exact T_zret zk_53_49 rfl (by omega) (fun σ' h => ⟨_, rfl, (by omega), h.1, trivial⟩)
    ·
      refine T_ld zk_53_18 rfl rfl rfl (pc' := 19) rfl ?_
      refine T_op zk_53_19 rfl (X_bi (v := 38) (by decide)) (pc' := 21) rfl ?_
      refine T_calli (K := fun y10 σ' => (y10 = 0 ∨ y10 = 1) ∧ (fun σ' => IF MR σ σ' ∧ True) σ') (r := []) zk_53_21 rfl rfl rfl rfl rfl rfl (Or.inr ⟨_, _, _, _, rfl, vd_29, rfl⟩) (fun σ' h => (w_50 38 (by omega) σ' h.1.1 ).le (Nat.le_of_ble_eq_true rfl) (fun v σ2 ⟨y, h1, h2, h3, h4⟩ => ⟨y, h1, h2, h.1.tr h3 (fun _ _ _ _ h => h), trivial⟩)) (pc' := 24) rfl (fun y10 => ?_)
      refine G_ex (fun hy10 => ?_)
      refine T_if_eq zk_53_24 (by omega) (pc' := 27) rfl (fun h11 => ?_) (fun h12 => ?_)
      ·
        refine T_ld zk_53_48 rfl rfl rfl (pc' := 49) rfl ?_
        exact T_zret zk_53_49 rfl (by omega) (fun σ' h => ⟨_, rfl, (by omega), h.1, trivial⟩)
      ·
        refine T_ld zk_53_27 rfl rfl rfl (pc' := 28) rfl ?_
        refine T_ld zk_53_28 rfl rfl rfl (pc' := 29) rfl ?_
        refine T_calli (K := fun y13 σ' => (y13 = 0 ∨ y13 = 1) ∧ (fun σ' => IF MR σ σ' ∧ True) σ') (r := []) zk_53_29 rfl rfl rfl rfl rfl rfl (Or.inr ⟨_, _, _, _, rfl, vd_29, rfl⟩) (fun σ' h => (w_54_19   σ' h.1.1 ).le (Nat.le_of_ble_eq_true rfl) (fun v σ2 ⟨y, h1, h2, h3, h4⟩ => ⟨y, h1, h2, h.1.tr h3 (fun _ _ _ _ h => h), trivial⟩)) (pc' := 32) rfl (fun y13 => ?_)
        refine G_ex (fun hy13 => ?_)
        refine T_st (L' := [(0, av 29 0 0), (1, iv 19), (2, iv y13), (3, iv x3)]) zk_53_32 (nL := 4) rfl rfl rfl rfl rfl (pc' := 33) rfl ?_
        refine T_ld zk_53_33 rfl rfl rfl (pc' := 34) rfl ?_
        refine T_getR (t' := 30) (i' := 0) (k' := 0) zk_53_34 rfl rfl rfl vd_29 (pc' := 37) rfl ?_
        refine T_op zk_53_37 rfl (X_bi (v := -2) (by decide)) (pc' := 39) rfl ?_
        refine T_callv (J' := (fun σ' => IF MR σ σ' ∧ True)) (r := []) zk_53_39 rfl rfl rfl rfl rfl rfl (Or.inr ⟨_, _, _, _, rfl, vd_30, rfl⟩) (fun σ' h => (w_42 ((-2)) (by omega) σ' h.1.1 ).le (Nat.le_of_ble_eq_true rfl) (fun v σ2 ⟨h1, h3, h4⟩ => ⟨h1, h.1.tr h3 (fun _ _ _ _ h => h), trivial⟩)) (pc' := 42) rfl ?_
        refine T_iinc (L' := [(0, av 29 0 0), (1, iv 19), (2, iv y13), (3, iv (x3 + 1))]) zk_53_42 (nL := 4) rfl rfl rfl rfl (pc' := 45) rfl ?_
        refine T_goto zk_53_45 ?_
        exact ih4 y13 (x3 + 1) (by omega) (by omega)
/-- W$LawReader.readEither -/
theorem w_52_19 {xs : Nat × (Nat → Int32)}   (σ : ZS) (hI : Inv σ)   : CT xs 9 52 [av 29 0 0, iv 19] σ (fun v σ' => ∃ y, v = some (iv y) ∧ (y = 0 ∨ y = 1) ∧ IF MR σ σ' ∧ (True)) := by
  refine G_ct (J := (fun σ' => IF MR σ σ' ∧ True)) (L := [(0, av 29 0 0), (1, iv 19)]) (nL := 4) rfl rfl rfl ⟨IF.rf hI, trivial⟩ ?_
  refine T_ld zk_52_0 rfl rfl rfl (pc' := 1) rfl ?_
  refine T_ld zk_52_1 rfl rfl rfl (pc' := 2) rfl ?_
  refine T_calli (K := fun y1 σ' => (y1 = 0 ∨ y1 = 1) ∧ (fun σ' => IF MR σ σ' ∧ True) σ') (r := []) zk_52_2 rfl rfl rfl rfl rfl rfl (Or.inr ⟨_, _, _, _, rfl, vd_29, rfl⟩) (fun σ' h => (w_53_19   σ' h.1.1 ).le (Nat.le_of_ble_eq_true rfl) (fun v σ2 ⟨y, h1, h2, h3, h4⟩ => ⟨y, h1, h2, h.1.tr h3 (fun _ _ _ _ h => h), trivial⟩)) (pc' := 5) rfl (fun y1 => ?_)
  refine G_ex (fun hy1 => ?_)
  refine T_st (L' := [(0, av 29 0 0), (1, iv 19), (2, iv y1)]) zk_52_5 (nL := 4) rfl rfl rfl rfl rfl (pc' := 6) rfl ?_
  refine T_op zk_52_6 rfl X_ic (pc' := 7) rfl ?_
  refine T_st (L' := [(0, av 29 0 0), (1, iv 19), (2, iv y1), (3, iv 0)]) zk_52_7 (nL := 4) rfl rfl rfl rfl rfl (pc' := 8) rfl ?_
  refine T_loop2 (fun x2 x3 => ((96 - x3 : Int)).toNat) (fun x2 x3 => (0 ≤ x2 ∧ x2 ≤ 1) ∧ (0 ≤ x3 ∧ x3 ≤ 96)) (fun x2 x3 => TJ xs (fun σ' => IF MR σ σ' ∧ True) 8 52 8 [(0, av 29 0 0), (1, iv 19), (2, iv x2), (3, iv x3)] [] _) ?_ y1 0 (by omega)
  intro x2 x3 hp5 ih4
  refine T_ld zk_52_8 rfl rfl rfl (pc' := 9) rfl ?_
  refine T_op zk_52_9 rfl (X_bi (v := 96) (by decide)) (pc' := 11) rfl ?_
  refine T_icmp_ge zk_52_11 (by omega) (by omega) (pc' := 14) rfl (fun h6 => ?_) (fun h7 => ?_)
  ·
    refine T_ld zk_52_48 rfl rfl rfl (pc' := 49) rfl ?_
    exact T_zret zk_52_49 rfl (by omega) (fun σ' h => ⟨_, rfl, (by omega), h.1, trivial⟩)
  ·
    refine T_ld zk_52_14 rfl rfl rfl (pc' := 15) rfl ?_
    refine T_if_eq zk_52_15 (by omega) (pc' := 18) rfl (fun h8 => ?_) (fun h9 => ?_)
    ·
      refine T_ld zk_52_48 rfl rfl rfl (pc' := 49) rfl ?_
      exact T_zret zk_52_49 rfl (by omega) (fun σ' h => ⟨_, rfl, (by omega), h.1, trivial⟩)
    ·
      refine T_ld zk_52_18 rfl rfl rfl (pc' := 19) rfl ?_
      refine T_op zk_52_19 rfl (X_bi (v := 124) (by decide)) (pc' := 21) rfl ?_
      refine T_calli (K := fun y10 σ' => (y10 = 0 ∨ y10 = 1) ∧ (fun σ' => IF MR σ σ' ∧ True) σ') (r := []) zk_52_21 rfl rfl rfl rfl rfl rfl (Or.inr ⟨_, _, _, _, rfl, vd_29, rfl⟩) (fun σ' h => (w_50 124 (by omega) σ' h.1.1 ).le (Nat.le_of_ble_eq_true rfl) (fun v σ2 ⟨y, h1, h2, h3, h4⟩ => ⟨y, h1, h2, h.1.tr h3 (fun _ _ _ _ h => h), trivial⟩)) (pc' := 24) rfl (fun y10 => ?_)
      refine G_ex (fun hy10 => ?_)
      refine T_if_eq zk_52_24 (by omega) (pc' := 27) rfl (fun h11 => ?_) (fun h12 => ?_)
      ·
        refine T_ld zk_52_48 rfl rfl rfl (pc' := 49) rfl ?_
        exact T_zret zk_52_49 rfl (by omega) (fun σ' h => ⟨_, rfl, (by omega), h.1, trivial⟩)
      ·
        refine T_ld zk_52_27 rfl rfl rfl (pc' := 28) rfl ?_
        refine T_ld zk_52_28 rfl rfl rfl (pc' := 29) rfl ?_
        refine T_calli (K := fun y13 σ' => (y13 = 0 ∨ y13 = 1) ∧ (fun σ' => IF MR σ σ' ∧ True) σ') (r := []) zk_52_29 rfl rfl rfl rfl rfl rfl (Or.inr ⟨_, _, _, _, rfl, vd_29, rfl⟩) (fun σ' h => (w_53_19   σ' h.1.1 ).le (Nat.le_of_ble_eq_true rfl) (fun v σ2 ⟨y, h1, h2, h3, h4⟩ => ⟨y, h1, h2, h.1.tr h3 (fun _ _ _ _ h => h), trivial⟩)) (pc' := 32) rfl (fun y13 => ?_)
        refine G_ex (fun hy13 => ?_)
        refine T_st (L' := [(0, av 29 0 0), (1, iv 19), (2, iv y13), (3, iv x3)]) zk_52_32 (nL := 4) rfl rfl rfl rfl rfl (pc' := 33) rfl ?_
        refine T_ld zk_52_33 rfl rfl rfl (pc' := 34) rfl ?_
        refine T_getR (t' := 30) (i' := 0) (k' := 0) zk_52_34 rfl rfl rfl vd_29 (pc' := 37) rfl ?_
        refine T_op zk_52_37 rfl (X_bi (v := -3) (by decide)) (pc' := 39) rfl ?_
        refine T_callv (J' := (fun σ' => IF MR σ σ' ∧ True)) (r := []) zk_52_39 rfl rfl rfl rfl rfl rfl (Or.inr ⟨_, _, _, _, rfl, vd_30, rfl⟩) (fun σ' h => (w_42 ((-3)) (by omega) σ' h.1.1 ).le (Nat.le_of_ble_eq_true rfl) (fun v σ2 ⟨h1, h3, h4⟩ => ⟨h1, h.1.tr h3 (fun _ _ _ _ h => h), trivial⟩)) (pc' := 42) rfl ?_
        refine T_iinc (L' := [(0, av 29 0 0), (1, iv 19), (2, iv y13), (3, iv (x3 + 1))]) zk_52_42 (nL := 4) rfl rfl rfl rfl (pc' := 45) rfl ?_
        refine T_goto zk_52_45 ?_
        exact ih4 y13 (x3 + 1) (by omega) (by omega)
/-- W$LawReader.readPart -/
theorem w_54_18 {xs : Nat × (Nat → Int32)}   (σ : ZS) (hI : Inv σ)   : CT xs 10 54 [av 29 0 0, iv 18] σ (fun v σ' => ∃ y, v = some (iv y) ∧ (y = 0 ∨ y = 1) ∧ IF MR σ σ' ∧ (True)) := by
  refine G_ct (J := (fun σ' => IF MR σ σ' ∧ True)) (L := [(0, av 29 0 0), (1, iv 18)]) (nL := 3) rfl rfl rfl ⟨IF.rf hI, trivial⟩ ?_
  refine T_ld zk_54_0 rfl rfl rfl (pc' := 1) rfl ?_
  refine T_calli (K := fun y1 σ' => (-2147483648 ≤ y1 ∧ y1 ≤ 2147483647) ∧ (fun σ' => IF MR σ σ' ∧ True) σ') (r := []) zk_54_1 rfl rfl rfl rfl rfl rfl (Or.inr ⟨_, _, _, _, rfl, vd_29, rfl⟩) (fun σ' h => (w_49   σ' h.1.1 ).le (Nat.le_of_ble_eq_true rfl) (fun v σ2 ⟨y, h1, h2, h3, h4⟩ => ⟨y, h1, h2, h.1.tr h3 MN_sub, trivial⟩)) (pc' := 4) rfl (fun y1 => ?_)
  refine G_ex (fun hy1 => ?_)
  refine T_op zk_54_4 rfl (X_bi (v := 33) (by decide)) (pc' := 6) rfl ?_
  refine T_icmp_eq zk_54_6 (by omega) (by omega) (pc' := 9) rfl (fun h2 => ?_) (fun h3 => ?_)
  ·
    refine T_ld zk_54_23 rfl rfl rfl (pc' := 24) rfl ?_
    refine T_op zk_54_24 rfl (X_bi (v := 20) (by decide)) (pc' := 26) rfl ?_
    refine T_icmp_lt zk_54_26 (by omega) (by omega) (pc' := 29) rfl (fun h4 => ?_) (fun h5 => ?_)
    ·
      refine T_ld zk_54_31 rfl rfl rfl (pc' := 32) rfl ?_
      refine T_op zk_54_32 rfl (X_bi (v := 40) (by decide)) (pc' := 34) rfl ?_
      refine T_calli (K := fun y6 σ' => (y6 = 0 ∨ y6 = 1) ∧ (fun σ' => IF MR σ σ' ∧ True) σ') (r := []) zk_54_34 rfl rfl rfl rfl rfl rfl (Or.inr ⟨_, _, _, _, rfl, vd_29, rfl⟩) (fun σ' h => (w_50 40 (by omega) σ' h.1.1 ).le (Nat.le_of_ble_eq_true rfl) (fun v σ2 ⟨y, h1, h2, h3, h4⟩ => ⟨y, h1, h2, h.1.tr h3 (fun _ _ _ _ h => h), trivial⟩)) (pc' := 37) rfl (fun y6 => ?_)
      refine G_ex (fun hy6 => ?_)
      refine T_if_eq zk_54_37 (by omega) (pc' := 40) rfl (fun h7 => ?_) (fun h8 => ?_)
      ·
        refine T_ld zk_54_65 rfl rfl rfl (pc' := 66) rfl ?_
        refine T_op (st' := [av 29 0 0, av 29 0 0]) zk_54_66 rfl rfl (pc' := 67) rfl ?_
        refine G_getf (lo := -2147483648) (hi := 2147483647) zk_54_67 rfl vd_29 (fun σ' h => h.1.1) (fun _ h => (by have q := h.1; omega)) (pc' := 70) rfl (fun y9 hy9 hy9' => ?_)
        refine T_op zk_54_70 rfl X_ic (pc' := 71) rfl ?_
        refine G_unk zk_54_71 rfl (pc' := 72) rfl (fun y10 hy10 hy10' => ?_)
        refine T_putf (J' := (fun σ' => IF MR σ σ' ∧ σ' 29 0 0 3 = y10 ∧ True)) zk_54_72 rfl rfl vd_29 (fun σ' h => ⟨h.1.up (by simp only [rgP] <;> omega) (by first | exact pMR rfl | (unfold MR; omega)), up_eq, trivial⟩) (pc' := 75) rfl ?_
        refine T_ld zk_54_75 rfl rfl rfl (pc' := 76) rfl ?_
        refine T_ld zk_54_76 rfl rfl rfl (pc' := 77) rfl ?_
        refine T_op zk_54_77 rfl X_ic (pc' := 78) rfl ?_
        refine T_opc (w := 19) zk_54_78 rfl X_add (by omega) (pc' := 79) rfl ?_
        refine T_calli (K := fun y11 σ' => (y11 = 0 ∨ y11 = 1) ∧ (fun σ' => IF MR σ σ' ∧ True) σ') (r := []) zk_54_79 rfl rfl rfl rfl rfl rfl (Or.inr ⟨_, _, _, _, rfl, vd_29, rfl⟩) (fun σ' h => (w_54_19   σ' h.1.1 ).le (Nat.le_of_ble_eq_true rfl) (fun v σ2 ⟨y, h1, h2, h3, h4⟩ => ⟨y, h1, h2, h.1.tr h3 (fun _ _ _ _ h => h), trivial⟩)) (pc' := 82) rfl (fun y11 => ?_)
        refine G_ex (fun hy11 => ?_)
        refine T_st (L' := [(0, av 29 0 0), (1, iv 18), (2, iv y11)]) zk_54_82 (nL := 3) rfl rfl rfl rfl rfl (pc' := 83) rfl ?_
        refine T_ld zk_54_83 rfl rfl rfl (pc' := 84) rfl ?_
        refine T_getR (t' := 30) (i' := 0) (k' := 0) zk_54_84 rfl rfl rfl vd_29 (pc' := 87) rfl ?_
        refine T_op zk_54_87 rfl X_ic (pc' := 88) rfl ?_
        refine T_callv (J' := (fun σ' => IF MR σ σ' ∧ True)) (r := []) zk_54_88 rfl rfl rfl rfl rfl rfl (Or.inr ⟨_, _, _, _, rfl, vd_30, rfl⟩) (fun σ' h => (w_42 ((-1)) (by omega) σ' h.1.1 ).le (Nat.le_of_ble_eq_true rfl) (fun v σ2 ⟨h1, h3, h4⟩ => ⟨h1, h.1.tr h3 (fun _ _ _ _ h => h), trivial⟩)) (pc' := 91) rfl ?_
        refine T_ld zk_54_91 rfl rfl rfl (pc' := 92) rfl ?_
        exact T_zret zk_54_92 rfl (by omega) (fun σ' h => ⟨_, rfl, (by omega), h.1, trivial⟩)
      ·
        refine T_ld zk_54_40 rfl rfl rfl (pc' := 41) rfl ?_
        refine T_ld zk_54_41 rfl rfl rfl (pc' := 42) rfl ?_
        refine T_op zk_54_42 rfl X_ic (pc' := 43) rfl ?_
        refine T_opc (w := 19) zk_54_43 rfl X_add (by omega) (pc' := 44) rfl ?_
        refine T_calli (K := fun y13 σ' => (y13 = 0 ∨ y13 = 1) ∧ (fun σ' => IF MR σ σ' ∧ True) σ') (r := []) zk_54_44 rfl rfl rfl rfl rfl rfl (Or.inr ⟨_, _, _, _, rfl, vd_29, rfl⟩) (fun σ' h => (w_52_19   σ' h.1.1 ).le (Nat.le_of_ble_eq_true rfl) (fun v σ2 ⟨y, h1, h2, h3, h4⟩ => ⟨y, h1, h2, h.1.tr h3 (fun _ _ _ _ h => h), trivial⟩)) (pc' := 47) rfl (fun y13 => ?_)
        refine G_ex (fun hy13 => ?_)
        refine T_if_eq zk_54_47 (by omega) (pc' := 50) rfl (fun h14 => ?_) (fun h15 => ?_)
        ·
          refine T_op zk_54_63 rfl X_ic (pc' := 64) rfl ?_
          exact T_zret zk_54_64 rfl (by omega) (fun σ' h => ⟨_, rfl, (by omega), h.1, trivial⟩)
        ·
          refine T_ld zk_54_50 rfl rfl rfl (pc' := 51) rfl ?_
          refine T_op zk_54_51 rfl (X_bi (v := 41) (by decide)) (pc' := 53) rfl ?_
          refine T_calli (K := fun y16 σ' => (y16 = 0 ∨ y16 = 1) ∧ (fun σ' => IF MR σ σ' ∧ True) σ') (r := []) zk_54_53 rfl rfl rfl rfl rfl rfl (Or.inr ⟨_, _, _, _, rfl, vd_29, rfl⟩) (fun σ' h => (w_50 41 (by omega) σ' h.1.1 ).le (Nat.le_of_ble_eq_true rfl) (fun v σ2 ⟨y, h1, h2, h3, h4⟩ => ⟨y, h1, h2, h.1.tr h3 (fun _ _ _ _ h => h), trivial⟩)) (pc' := 56) rfl (fun y16 => ?_)
          refine G_ex (fun hy16 => ?_)
          refine T_if_eq zk_54_56 (by omega) (pc' := 59) rfl (fun h17 => ?_) (fun h18 => ?_)
          ·
            refine T_op zk_54_63 rfl X_ic (pc' := 64) rfl ?_
            exact T_zret zk_54_64 rfl (by omega) (fun σ' h => ⟨_, rfl, (by omega), h.1, trivial⟩)
          ·
            refine T_op zk_54_59 rfl X_ic (pc' := 60) rfl ?_
            refine T_goto zk_54_60 ?_
            exact T_zret zk_54_64 rfl (by omega) (fun σ' h => ⟨_, rfl, (by omega), h.1, trivial⟩)
    · exfalso; omega
  ·
    refine T_ld zk_54_9 rfl rfl rfl (pc' := 10) rfl ?_
    refine T_calli (K := fun y19 σ' => (-2147483648 ≤ y19 ∧ y19 ≤ 2147483647) ∧ (fun σ' => IF MR σ σ' ∧ True) σ') (r := []) zk_54_10 rfl rfl rfl rfl rfl rfl (Or.inr ⟨_, _, _, _, rfl, vd_29, rfl⟩) (fun σ' h => (w_49   σ' h.1.1 ).le (Nat.le_of_ble_eq_true rfl) (fun v σ2 ⟨y, h1, h2, h3, h4⟩ => ⟨y, h1, h2, h.1.tr h3 MN_sub, trivial⟩)) (pc' := 13) rfl (fun y19 => ?_)
    refine G_ex (fun hy19 => ?_)
    refine T_op zk_54_13 rfl (X_bi (v := 40) (by decide)) (pc' := 15) rfl ?_
    refine T_icmp_eq zk_54_15 (by omega) (by omega) (pc' := 18) rfl (fun h20 => ?_) (fun h21 => ?_)
    ·
      refine T_ld zk_54_23 rfl rfl rfl (pc' := 24) rfl ?_
      refine T_op zk_54_24 rfl (X_bi (v := 20) (by decide)) (pc' := 26) rfl ?_
      refine T_icmp_lt zk_54_26 (by omega) (by omega) (pc' := 29) rfl (fun h22 => ?_) (fun h23 => ?_)
      ·
        refine T_ld zk_54_31 rfl rfl rfl (pc' := 32) rfl ?_
        refine T_op zk_54_32 rfl (X_bi (v := 40) (by decide)) (pc' := 34) rfl ?_
        refine T_calli (K := fun y24 σ' => (y24 = 0 ∨ y24 = 1) ∧ (fun σ' => IF MR σ σ' ∧ True) σ') (r := []) zk_54_34 rfl rfl rfl rfl rfl rfl (Or.inr ⟨_, _, _, _, rfl, vd_29, rfl⟩) (fun σ' h => (w_50 40 (by omega) σ' h.1.1 ).le (Nat.le_of_ble_eq_true rfl) (fun v σ2 ⟨y, h1, h2, h3, h4⟩ => ⟨y, h1, h2, h.1.tr h3 (fun _ _ _ _ h => h), trivial⟩)) (pc' := 37) rfl (fun y24 => ?_)
        refine G_ex (fun hy24 => ?_)
        refine T_if_eq zk_54_37 (by omega) (pc' := 40) rfl (fun h25 => ?_) (fun h26 => ?_)
        ·
          refine T_ld zk_54_65 rfl rfl rfl (pc' := 66) rfl ?_
          refine T_op (st' := [av 29 0 0, av 29 0 0]) zk_54_66 rfl rfl (pc' := 67) rfl ?_
          refine G_getf (lo := -2147483648) (hi := 2147483647) zk_54_67 rfl vd_29 (fun σ' h => h.1.1) (fun _ h => (by have q := h.1; omega)) (pc' := 70) rfl (fun y27 hy27 hy27' => ?_)
          refine T_op zk_54_70 rfl X_ic (pc' := 71) rfl ?_
          refine G_unk zk_54_71 rfl (pc' := 72) rfl (fun y28 hy28 hy28' => ?_)
          refine T_putf (J' := (fun σ' => IF MR σ σ' ∧ σ' 29 0 0 3 = y28 ∧ True)) zk_54_72 rfl rfl vd_29 (fun σ' h => ⟨h.1.up (by simp only [rgP] <;> omega) (by first | exact pMR rfl | (unfold MR; omega)), up_eq, trivial⟩) (pc' := 75) rfl ?_
          refine T_ld zk_54_75 rfl rfl rfl (pc' := 76) rfl ?_
          refine T_ld zk_54_76 rfl rfl rfl (pc' := 77) rfl ?_
          refine T_op zk_54_77 rfl X_ic (pc' := 78) rfl ?_
          refine T_opc (w := 19) zk_54_78 rfl X_add (by omega) (pc' := 79) rfl ?_
          refine T_calli (K := fun y29 σ' => (y29 = 0 ∨ y29 = 1) ∧ (fun σ' => IF MR σ σ' ∧ True) σ') (r := []) zk_54_79 rfl rfl rfl rfl rfl rfl (Or.inr ⟨_, _, _, _, rfl, vd_29, rfl⟩) (fun σ' h => (w_54_19   σ' h.1.1 ).le (Nat.le_of_ble_eq_true rfl) (fun v σ2 ⟨y, h1, h2, h3, h4⟩ => ⟨y, h1, h2, h.1.tr h3 (fun _ _ _ _ h => h), trivial⟩)) (pc' := 82) rfl (fun y29 => ?_)
          refine G_ex (fun hy29 => ?_)
          refine T_st (L' := [(0, av 29 0 0), (1, iv 18), (2, iv y29)]) zk_54_82 (nL := 3) rfl rfl rfl rfl rfl (pc' := 83) rfl ?_
          refine T_ld zk_54_83 rfl rfl rfl (pc' := 84) rfl ?_
          refine T_getR (t' := 30) (i' := 0) (k' := 0) zk_54_84 rfl rfl rfl vd_29 (pc' := 87) rfl ?_
          refine T_op zk_54_87 rfl X_ic (pc' := 88) rfl ?_
          refine T_callv (J' := (fun σ' => IF MR σ σ' ∧ True)) (r := []) zk_54_88 rfl rfl rfl rfl rfl rfl (Or.inr ⟨_, _, _, _, rfl, vd_30, rfl⟩) (fun σ' h => (w_42 ((-1)) (by omega) σ' h.1.1 ).le (Nat.le_of_ble_eq_true rfl) (fun v σ2 ⟨h1, h3, h4⟩ => ⟨h1, h.1.tr h3 (fun _ _ _ _ h => h), trivial⟩)) (pc' := 91) rfl ?_
          refine T_ld zk_54_91 rfl rfl rfl (pc' := 92) rfl ?_
          exact T_zret zk_54_92 rfl (by omega) (fun σ' h => ⟨_, rfl, (by omega), h.1, trivial⟩)
        ·
          refine T_ld zk_54_40 rfl rfl rfl (pc' := 41) rfl ?_
          refine T_ld zk_54_41 rfl rfl rfl (pc' := 42) rfl ?_
          refine T_op zk_54_42 rfl X_ic (pc' := 43) rfl ?_
          refine T_opc (w := 19) zk_54_43 rfl X_add (by omega) (pc' := 44) rfl ?_
          refine T_calli (K := fun y31 σ' => (y31 = 0 ∨ y31 = 1) ∧ (fun σ' => IF MR σ σ' ∧ True) σ') (r := []) zk_54_44 rfl rfl rfl rfl rfl rfl (Or.inr ⟨_, _, _, _, rfl, vd_29, rfl⟩) (fun σ' h => (w_52_19   σ' h.1.1 ).le (Nat.le_of_ble_eq_true rfl) (fun v σ2 ⟨y, h1, h2, h3, h4⟩ => ⟨y, h1, h2, h.1.tr h3 (fun _ _ _ _ h => h), trivial⟩)) (pc' := 47) rfl (fun y31 => ?_)
          refine G_ex (fun hy31 => ?_)
          refine T_if_eq zk_54_47 (by omega) (pc' := 50) rfl (fun h32 => ?_) (fun h33 => ?_)
          ·
            refine T_op zk_54_63 rfl X_ic (pc' := 64) rfl ?_
            exact T_zret zk_54_64 rfl (by omega) (fun σ' h => ⟨_, rfl, (by omega), h.1, trivial⟩)
          ·
            refine T_ld zk_54_50 rfl rfl rfl (pc' := 51) rfl ?_
            refine T_op zk_54_51 rfl (X_bi (v := 41) (by decide)) (pc' := 53) rfl ?_
            refine T_calli (K := fun y34 σ' => (y34 = 0 ∨ y34 = 1) ∧ (fun σ' => IF MR σ σ' ∧ True) σ') (r := []) zk_54_53 rfl rfl rfl rfl rfl rfl (Or.inr ⟨_, _, _, _, rfl, vd_29, rfl⟩) (fun σ' h => (w_50 41 (by omega) σ' h.1.1 ).le (Nat.le_of_ble_eq_true rfl) (fun v σ2 ⟨y, h1, h2, h3, h4⟩ => ⟨y, h1, h2, h.1.tr h3 (fun _ _ _ _ h => h), trivial⟩)) (pc' := 56) rfl (fun y34 => ?_)
            refine G_ex (fun hy34 => ?_)
            refine T_if_eq zk_54_56 (by omega) (pc' := 59) rfl (fun h35 => ?_) (fun h36 => ?_)
            ·
              refine T_op zk_54_63 rfl X_ic (pc' := 64) rfl ?_
              exact T_zret zk_54_64 rfl (by omega) (fun σ' h => ⟨_, rfl, (by omega), h.1, trivial⟩)
            ·
              refine T_op zk_54_59 rfl X_ic (pc' := 60) rfl ?_
              refine T_goto zk_54_60 ?_
              exact T_zret zk_54_64 rfl (by omega) (fun σ' h => ⟨_, rfl, (by omega), h.1, trivial⟩)
      · exfalso; omega
    ·
      refine T_ld zk_54_18 rfl rfl rfl (pc' := 19) rfl ?_
      refine T_calli (K := fun y37 σ' => (y37 = 0 ∨ y37 = 1) ∧ (fun σ' => IF MR σ σ' ∧ True) σ') (r := []) zk_54_19 rfl rfl rfl rfl rfl rfl (Or.inr ⟨_, _, _, _, rfl, vd_29, rfl⟩) (fun σ' h => (w_55   σ' h.1.1 ).le (Nat.le_of_ble_eq_true rfl) (fun v σ2 ⟨y, h1, h2, h3, h4⟩ => ⟨y, h1, h2, h.1.tr h3 (fun _ _ _ _ h => h), trivial⟩)) (pc' := 22) rfl (fun y37 => ?_)
      refine G_ex (fun hy37 => ?_)
      exact T_zret zk_54_22 rfl (by omega) (fun σ' h => ⟨_, rfl, (by omega), h.1, trivial⟩)
/-- W$LawReader.readBoth -/
theorem w_53_18 {xs : Nat × (Nat → Int32)}   (σ : ZS) (hI : Inv σ)   : CT xs 11 53 [av 29 0 0, iv 18] σ (fun v σ' => ∃ y, v = some (iv y) ∧ (y = 0 ∨ y = 1) ∧ IF MR σ σ' ∧ (True)) := by
  refine G_ct (J := (fun σ' => IF MR σ σ' ∧ True)) (L := [(0, av 29 0 0), (1, iv 18)]) (nL := 4) rfl rfl rfl ⟨IF.rf hI, trivial⟩ ?_
  refine T_ld zk_53_0 rfl rfl rfl (pc' := 1) rfl ?_
  refine T_ld zk_53_1 rfl rfl rfl (pc' := 2) rfl ?_
  refine T_calli (K := fun y1 σ' => (y1 = 0 ∨ y1 = 1) ∧ (fun σ' => IF MR σ σ' ∧ True) σ') (r := []) zk_53_2 rfl rfl rfl rfl rfl rfl (Or.inr ⟨_, _, _, _, rfl, vd_29, rfl⟩) (fun σ' h => (w_54_18   σ' h.1.1 ).le (Nat.le_of_ble_eq_true rfl) (fun v σ2 ⟨y, h1, h2, h3, h4⟩ => ⟨y, h1, h2, h.1.tr h3 (fun _ _ _ _ h => h), trivial⟩)) (pc' := 5) rfl (fun y1 => ?_)
  refine G_ex (fun hy1 => ?_)
  refine T_st (L' := [(0, av 29 0 0), (1, iv 18), (2, iv y1)]) zk_53_5 (nL := 4) rfl rfl rfl rfl rfl (pc' := 6) rfl ?_
  refine T_op zk_53_6 rfl X_ic (pc' := 7) rfl ?_
  refine T_st (L' := [(0, av 29 0 0), (1, iv 18), (2, iv y1), (3, iv 0)]) zk_53_7 (nL := 4) rfl rfl rfl rfl rfl (pc' := 8) rfl ?_
  refine T_loop2 (fun x2 x3 => ((96 - x3 : Int)).toNat) (fun x2 x3 => (0 ≤ x2 ∧ x2 ≤ 1) ∧ (0 ≤ x3 ∧ x3 ≤ 96)) (fun x2 x3 => TJ xs (fun σ' => IF MR σ σ' ∧ True) 10 53 8 [(0, av 29 0 0), (1, iv 18), (2, iv x2), (3, iv x3)] [] _) ?_ y1 0 (by omega)
  intro x2 x3 hp5 ih4
  refine T_ld zk_53_8 rfl rfl rfl (pc' := 9) rfl ?_
  refine T_op zk_53_9 rfl (X_bi (v := 96) (by decide)) (pc' := 11) rfl ?_
  refine T_icmp_ge zk_53_11 (by omega) (by omega) (pc' := 14) rfl (fun h6 => ?_) (fun h7 => ?_)
  ·
    refine T_ld zk_53_48 rfl rfl rfl (pc' := 49) rfl ?_
    exact T_zret zk_53_49 rfl (by omega) (fun σ' h => ⟨_, rfl, (by omega), h.1, trivial⟩)
  ·
    refine T_ld zk_53_14 rfl rfl rfl (pc' := 15) rfl ?_
    refine T_if_eq zk_53_15 (by omega) (pc' := 18) rfl (fun h8 => ?_) (fun h9 => ?_)
    ·
      refine T_ld zk_53_48 rfl rfl rfl (pc' := 49) rfl ?_
      exact T_zret zk_53_49 rfl (by omega) (fun σ' h => ⟨_, rfl, (by omega), h.1, trivial⟩)
    ·
      refine T_ld zk_53_18 rfl rfl rfl (pc' := 19) rfl ?_
      refine T_op zk_53_19 rfl (X_bi (v := 38) (by decide)) (pc' := 21) rfl ?_
      refine T_calli (K := fun y10 σ' => (y10 = 0 ∨ y10 = 1) ∧ (fun σ' => IF MR σ σ' ∧ True) σ') (r := []) zk_53_21 rfl rfl rfl rfl rfl rfl (Or.inr ⟨_, _, _, _, rfl, vd_29, rfl⟩) (fun σ' h => (w_50 38 (by omega) σ' h.1.1 ).le (Nat.le_of_ble_eq_true rfl) (fun v σ2 ⟨y, h1, h2, h3, h4⟩ => ⟨y, h1, h2, h.1.tr h3 (fun _ _ _ _ h => h), trivial⟩)) (pc' := 24) rfl (fun y10 => ?_)
      refine G_ex (fun hy10 => ?_)
      refine T_if_eq zk_53_24 (by omega) (pc' := 27) rfl (fun h11 => ?_) (fun h12 => ?_)
      ·
        refine T_ld zk_53_48 rfl rfl rfl (pc' := 49) rfl ?_
        exact T_zret zk_53_49 rfl (by omega) (fun σ' h => ⟨_, rfl, (by omega), h.1, trivial⟩)
      ·
        refine T_ld zk_53_27 rfl rfl rfl (pc' := 28) rfl ?_
        refine T_ld zk_53_28 rfl rfl rfl (pc' := 29) rfl ?_
        refine T_calli (K := fun y13 σ' => (y13 = 0 ∨ y13 = 1) ∧ (fun σ' => IF MR σ σ' ∧ True) σ') (r := []) zk_53_29 rfl rfl rfl rfl rfl rfl (Or.inr ⟨_, _, _, _, rfl, vd_29, rfl⟩) (fun σ' h => (w_54_18   σ' h.1.1 ).le (Nat.le_of_ble_eq_true rfl) (fun v σ2 ⟨y, h1, h2, h3, h4⟩ => ⟨y, h1, h2, h.1.tr h3 (fun _ _ _ _ h => h), trivial⟩)) (pc' := 32) rfl (fun y13 => ?_)
        refine G_ex (fun hy13 => ?_)
        refine T_st (L' := [(0, av 29 0 0), (1, iv 18), (2, iv y13), (3, iv x3)]) zk_53_32 (nL := 4) rfl rfl rfl rfl rfl (pc' := 33) rfl ?_
        refine T_ld zk_53_33 rfl rfl rfl (pc' := 34) rfl ?_
        refine T_getR (t' := 30) (i' := 0) (k' := 0) zk_53_34 rfl rfl rfl vd_29 (pc' := 37) rfl ?_
        refine T_op zk_53_37 rfl (X_bi (v := -2) (by decide)) (pc' := 39) rfl ?_
        refine T_callv (J' := (fun σ' => IF MR σ σ' ∧ True)) (r := []) zk_53_39 rfl rfl rfl rfl rfl rfl (Or.inr ⟨_, _, _, _, rfl, vd_30, rfl⟩) (fun σ' h => (w_42 ((-2)) (by omega) σ' h.1.1 ).le (Nat.le_of_ble_eq_true rfl) (fun v σ2 ⟨h1, h3, h4⟩ => ⟨h1, h.1.tr h3 (fun _ _ _ _ h => h), trivial⟩)) (pc' := 42) rfl ?_
        refine T_iinc (L' := [(0, av 29 0 0), (1, iv 18), (2, iv y13), (3, iv (x3 + 1))]) zk_53_42 (nL := 4) rfl rfl rfl rfl (pc' := 45) rfl ?_
        refine T_goto zk_53_45 ?_
        exact ih4 y13 (x3 + 1) (by omega) (by omega)
/-- W$LawReader.readEither -/
theorem w_52_18 {xs : Nat × (Nat → Int32)}   (σ : ZS) (hI : Inv σ)   : CT xs 12 52 [av 29 0 0, iv 18] σ (fun v σ' => ∃ y, v = some (iv y) ∧ (y = 0 ∨ y = 1) ∧ IF MR σ σ' ∧ (True)) := by
  refine G_ct (J := (fun σ' => IF MR σ σ' ∧ True)) (L := [(0, av 29 0 0), (1, iv 18)]) (nL := 4) rfl rfl rfl ⟨IF.rf hI, trivial⟩ ?_
  refine T_ld zk_52_0 rfl rfl rfl (pc' := 1) rfl ?_
  refine T_ld zk_52_1 rfl rfl rfl (pc' := 2) rfl ?_
  refine T_calli (K := fun y1 σ' => (y1 = 0 ∨ y1 = 1) ∧ (fun σ' => IF MR σ σ' ∧ True) σ') (r := []) zk_52_2 rfl rfl rfl rfl rfl rfl (Or.inr ⟨_, _, _, _, rfl, vd_29, rfl⟩) (fun σ' h => (w_53_18   σ' h.1.1 ).le (Nat.le_of_ble_eq_true rfl) (fun v σ2 ⟨y, h1, h2, h3, h4⟩ => ⟨y, h1, h2, h.1.tr h3 (fun _ _ _ _ h => h), trivial⟩)) (pc' := 5) rfl (fun y1 => ?_)
  refine G_ex (fun hy1 => ?_)
  refine T_st (L' := [(0, av 29 0 0), (1, iv 18), (2, iv y1)]) zk_52_5 (nL := 4) rfl rfl rfl rfl rfl (pc' := 6) rfl ?_
  refine T_op zk_52_6 rfl X_ic (pc' := 7) rfl ?_
  refine T_st (L' := [(0, av 29 0 0), (1, iv 18), (2, iv y1), (3, iv 0)]) zk_52_7 (nL := 4) rfl rfl rfl rfl rfl (pc' := 8) rfl ?_
  refine T_loop2 (fun x2 x3 => ((96 - x3 : Int)).toNat) (fun x2 x3 => (0 ≤ x2 ∧ x2 ≤ 1) ∧ (0 ≤ x3 ∧ x3 ≤ 96)) (fun x2 x3 => TJ xs (fun σ' => IF MR σ σ' ∧ True) 11 52 8 [(0, av 29 0 0), (1, iv 18), (2, iv x2), (3, iv x3)] [] _) ?_ y1 0 (by omega)
  intro x2 x3 hp5 ih4
  refine T_ld zk_52_8 rfl rfl rfl (pc' := 9) rfl ?_
  refine T_op zk_52_9 rfl (X_bi (v := 96) (by decide)) (pc' := 11) rfl ?_
  refine T_icmp_ge zk_52_11 (by omega) (by omega) (pc' := 14) rfl (fun h6 => ?_) (fun h7 => ?_)
  ·
    refine T_ld zk_52_48 rfl rfl rfl (pc' := 49) rfl ?_
    exact T_zret zk_52_49 rfl (by omega) (fun σ' h => ⟨_, rfl, (by omega), h.1, trivial⟩)
  ·
    refine T_ld zk_52_14 rfl rfl rfl (pc' := 15) rfl ?_
    refine T_if_eq zk_52_15 (by omega) (pc' := 18) rfl (fun h8 => ?_) (fun h9 => ?_)
    ·
      refine T_ld zk_52_48 rfl rfl rfl (pc' := 49) rfl ?_
      exact T_zret zk_52_49 rfl (by omega) (fun σ' h => ⟨_, rfl, (by omega), h.1, trivial⟩)
    ·
      refine T_ld zk_52_18 rfl rfl rfl (pc' := 19) rfl ?_
      refine T_op zk_52_19 rfl (X_bi (v := 124) (by decide)) (pc' := 21) rfl ?_
      refine T_calli (K := fun y10 σ' => (y10 = 0 ∨ y10 = 1) ∧ (fun σ' => IF MR σ σ' ∧ True) σ') (r := []) zk_52_21 rfl rfl rfl rfl rfl rfl (Or.inr ⟨_, _, _, _, rfl, vd_29, rfl⟩) (fun σ' h => (w_50 124 (by omega) σ' h.1.1 ).le (Nat.le_of_ble_eq_true rfl) (fun v σ2 ⟨y, h1, h2, h3, h4⟩ => ⟨y, h1, h2, h.1.tr h3 (fun _ _ _ _ h => h), trivial⟩)) (pc' := 24) rfl (fun y10 => ?_)
      refine G_ex (fun hy10 => ?_)
      refine T_if_eq zk_52_24 (by omega) (pc' := 27) rfl (fun h11 => ?_) (fun h12 => ?_)
      ·
        refine T_ld zk_52_48 rfl rfl rfl (pc' := 49) rfl ?_
        exact T_zret zk_52_49 rfl (by omega) (fun σ' h => ⟨_, rfl, (by omega), h.1, trivial⟩)
      ·
        refine T_ld zk_52_27 rfl rfl rfl (pc' := 28) rfl ?_
        refine T_ld zk_52_28 rfl rfl rfl (pc' := 29) rfl ?_
        refine T_calli (K := fun y13 σ' => (y13 = 0 ∨ y13 = 1) ∧ (fun σ' => IF MR σ σ' ∧ True) σ') (r := []) zk_52_29 rfl rfl rfl rfl rfl rfl (Or.inr ⟨_, _, _, _, rfl, vd_29, rfl⟩) (fun σ' h => (w_53_18   σ' h.1.1 ).le (Nat.le_of_ble_eq_true rfl) (fun v σ2 ⟨y, h1, h2, h3, h4⟩ => ⟨y, h1, h2, h.1.tr h3 (fun _ _ _ _ h => h), trivial⟩)) (pc' := 32) rfl (fun y13 => ?_)
        refine G_ex (fun hy13 => ?_)
        refine T_st (L' := [(0, av 29 0 0), (1, iv 18), (2, iv y13), (3, iv x3)]) zk_52_32 (nL := 4) rfl rfl rfl rfl rfl (pc' := 33) rfl ?_
        refine T_ld zk_52_33 rfl rfl rfl (pc' := 34) rfl ?_
        refine T_getR (t' := 30) (i' := 0) (k' := 0) zk_52_34 rfl rfl rfl vd_29 (pc' := 37) rfl ?_
        refine T_op zk_52_37 rfl (X_bi (v := -3) (by decide)) (pc' := 39) rfl ?_
        refine T_callv (J' := (fun σ' => IF MR σ σ' ∧ True)) (r := []) zk_52_39 rfl rfl rfl rfl rfl rfl (Or.inr ⟨_, _, _, _, rfl, vd_30, rfl⟩) (fun σ' h => (w_42 ((-3)) (by omega) σ' h.1.1 ).le (Nat.le_of_ble_eq_true rfl) (fun v σ2 ⟨h1, h3, h4⟩ => ⟨h1, h.1.tr h3 (fun _ _ _ _ h => h), trivial⟩)) (pc' := 42) rfl ?_
        refine T_iinc (L' := [(0, av 29 0 0), (1, iv 18), (2, iv y13), (3, iv (x3 + 1))]) zk_52_42 (nL := 4) rfl rfl rfl rfl (pc' := 45) rfl ?_
        refine T_goto zk_52_45 ?_
        exact ih4 y13 (x3 + 1) (by omega) (by omega)
/-- W$LawReader.readPart -/
theorem w_54_17 {xs : Nat × (Nat → Int32)}   (σ : ZS) (hI : Inv σ)   : CT xs 13 54 [av 29 0 0, iv 17] σ (fun v σ' => ∃ y, v = some (iv y) ∧ (y = 0 ∨ y = 1) ∧ IF MR σ σ' ∧ (True)) := by
  refine G_ct (J := (fun σ' => IF MR σ σ' ∧ True)) (L := [(0, av 29 0 0), (1, iv 17)]) (nL := 3) rfl rfl rfl ⟨IF.rf hI, trivial⟩ ?_
  refine T_ld zk_54_0 rfl rfl rfl (pc' := 1) rfl ?_
  refine T_calli (K := fun y1 σ' => (-2147483648 ≤ y1 ∧ y1 ≤ 2147483647) ∧ (fun σ' => IF MR σ σ' ∧ True) σ') (r := []) zk_54_1 rfl rfl rfl rfl rfl rfl (Or.inr ⟨_, _, _, _, rfl, vd_29, rfl⟩) (fun σ' h => (w_49   σ' h.1.1 ).le (Nat.le_of_ble_eq_true rfl) (fun v σ2 ⟨y, h1, h2, h3, h4⟩ => ⟨y, h1, h2, h.1.tr h3 MN_sub, trivial⟩)) (pc' := 4) rfl (fun y1 => ?_)
  refine G_ex (fun hy1 => ?_)
  refine T_op zk_54_4 rfl (X_bi (v := 33) (by decide)) (pc' := 6) rfl ?_
  refine T_icmp_eq zk_54_6 (by omega) (by omega) (pc' := 9) rfl (fun h2 => ?_) (fun h3 => ?_)
  ·
    refine T_ld zk_54_23 rfl rfl rfl (pc' := 24) rfl ?_
    refine T_op zk_54_24 rfl (X_bi (v := 20) (by decide)) (pc' := 26) rfl ?_
    refine T_icmp_lt zk_54_26 (by omega) (by omega) (pc' := 29) rfl (fun h4 => ?_) (fun h5 => ?_)
    ·
      refine T_ld zk_54_31 rfl rfl rfl (pc' := 32) rfl ?_
      refine T_op zk_54_32 rfl (X_bi (v := 40) (by decide)) (pc' := 34) rfl ?_
      refine T_calli (K := fun y6 σ' => (y6 = 0 ∨ y6 = 1) ∧ (fun σ' => IF MR σ σ' ∧ True) σ') (r := []) zk_54_34 rfl rfl rfl rfl rfl rfl (Or.inr ⟨_, _, _, _, rfl, vd_29, rfl⟩) (fun σ' h => (w_50 40 (by omega) σ' h.1.1 ).le (Nat.le_of_ble_eq_true rfl) (fun v σ2 ⟨y, h1, h2, h3, h4⟩ => ⟨y, h1, h2, h.1.tr h3 (fun _ _ _ _ h => h), trivial⟩)) (pc' := 37) rfl (fun y6 => ?_)
      refine G_ex (fun hy6 => ?_)
      refine T_if_eq zk_54_37 (by omega) (pc' := 40) rfl (fun h7 => ?_) (fun h8 => ?_)
      ·
        refine T_ld zk_54_65 rfl rfl rfl (pc' := 66) rfl ?_
        refine T_op (st' := [av 29 0 0, av 29 0 0]) zk_54_66 rfl rfl (pc' := 67) rfl ?_
        refine G_getf (lo := -2147483648) (hi := 2147483647) zk_54_67 rfl vd_29 (fun σ' h => h.1.1) (fun _ h => (by have q := h.1; omega)) (pc' := 70) rfl (fun y9 hy9 hy9' => ?_)
        refine T_op zk_54_70 rfl X_ic (pc' := 71) rfl ?_
        refine G_unk zk_54_71 rfl (pc' := 72) rfl (fun y10 hy10 hy10' => ?_)
        refine T_putf (J' := (fun σ' => IF MR σ σ' ∧ σ' 29 0 0 3 = y10 ∧ True)) zk_54_72 rfl rfl vd_29 (fun σ' h => ⟨h.1.up (by simp only [rgP] <;> omega) (by first | exact pMR rfl | (unfold MR; omega)), up_eq, trivial⟩) (pc' := 75) rfl ?_
        refine T_ld zk_54_75 rfl rfl rfl (pc' := 76) rfl ?_
        refine T_ld zk_54_76 rfl rfl rfl (pc' := 77) rfl ?_
        refine T_op zk_54_77 rfl X_ic (pc' := 78) rfl ?_
        refine T_opc (w := 18) zk_54_78 rfl X_add (by omega) (pc' := 79) rfl ?_
        refine T_calli (K := fun y11 σ' => (y11 = 0 ∨ y11 = 1) ∧ (fun σ' => IF MR σ σ' ∧ True) σ') (r := []) zk_54_79 rfl rfl rfl rfl rfl rfl (Or.inr ⟨_, _, _, _, rfl, vd_29, rfl⟩) (fun σ' h => (w_54_18   σ' h.1.1 ).le (Nat.le_of_ble_eq_true rfl) (fun v σ2 ⟨y, h1, h2, h3, h4⟩ => ⟨y, h1, h2, h.1.tr h3 (fun _ _ _ _ h => h), trivial⟩)) (pc' := 82) rfl (fun y11 => ?_)
        refine G_ex (fun hy11 => ?_)
        refine T_st (L' := [(0, av 29 0 0), (1, iv 17), (2, iv y11)]) zk_54_82 (nL := 3) rfl rfl rfl rfl rfl (pc' := 83) rfl ?_
        refine T_ld zk_54_83 rfl rfl rfl (pc' := 84) rfl ?_
        refine T_getR (t' := 30) (i' := 0) (k' := 0) zk_54_84 rfl rfl rfl vd_29 (pc' := 87) rfl ?_
        refine T_op zk_54_87 rfl X_ic (pc' := 88) rfl ?_
        refine T_callv (J' := (fun σ' => IF MR σ σ' ∧ True)) (r := []) zk_54_88 rfl rfl rfl rfl rfl rfl (Or.inr ⟨_, _, _, _, rfl, vd_30, rfl⟩) (fun σ' h => (w_42 ((-1)) (by omega) σ' h.1.1 ).le (Nat.le_of_ble_eq_true rfl) (fun v σ2 ⟨h1, h3, h4⟩ => ⟨h1, h.1.tr h3 (fun _ _ _ _ h => h), trivial⟩)) (pc' := 91) rfl ?_
        refine T_ld zk_54_91 rfl rfl rfl (pc' := 92) rfl ?_
        exact T_zret zk_54_92 rfl (by omega) (fun σ' h => ⟨_, rfl, (by omega), h.1, trivial⟩)
      ·
        refine T_ld zk_54_40 rfl rfl rfl (pc' := 41) rfl ?_
        refine T_ld zk_54_41 rfl rfl rfl (pc' := 42) rfl ?_
        refine T_op zk_54_42 rfl X_ic (pc' := 43) rfl ?_
        refine T_opc (w := 18) zk_54_43 rfl X_add (by omega) (pc' := 44) rfl ?_
        refine T_calli (K := fun y13 σ' => (y13 = 0 ∨ y13 = 1) ∧ (fun σ' => IF MR σ σ' ∧ True) σ') (r := []) zk_54_44 rfl rfl rfl rfl rfl rfl (Or.inr ⟨_, _, _, _, rfl, vd_29, rfl⟩) (fun σ' h => (w_52_18   σ' h.1.1 ).le (Nat.le_of_ble_eq_true rfl) (fun v σ2 ⟨y, h1, h2, h3, h4⟩ => ⟨y, h1, h2, h.1.tr h3 (fun _ _ _ _ h => h), trivial⟩)) (pc' := 47) rfl (fun y13 => ?_)
        refine G_ex (fun hy13 => ?_)
        refine T_if_eq zk_54_47 (by omega) (pc' := 50) rfl (fun h14 => ?_) (fun h15 => ?_)
        ·
          refine T_op zk_54_63 rfl X_ic (pc' := 64) rfl ?_
          exact T_zret zk_54_64 rfl (by omega) (fun σ' h => ⟨_, rfl, (by omega), h.1, trivial⟩)
        ·
          refine T_ld zk_54_50 rfl rfl rfl (pc' := 51) rfl ?_
          refine T_op zk_54_51 rfl (X_bi (v := 41) (by decide)) (pc' := 53) rfl ?_
          refine T_calli (K := fun y16 σ' => (y16 = 0 ∨ y16 = 1) ∧ (fun σ' => IF MR σ σ' ∧ True) σ') (r := []) zk_54_53 rfl rfl rfl rfl rfl rfl (Or.inr ⟨_, _, _, _, rfl, vd_29, rfl⟩) (fun σ' h => (w_50 41 (by omega) σ' h.1.1 ).le (Nat.le_of_ble_eq_true rfl) (fun v σ2 ⟨y, h1, h2, h3, h4⟩ => ⟨y, h1, h2, h.1.tr h3 (fun _ _ _ _ h => h), trivial⟩)) (pc' := 56) rfl (fun y16 => ?_)
          refine G_ex (fun hy16 => ?_)
          refine T_if_eq zk_54_56 (by omega) (pc' := 59) rfl (fun h17 => ?_) (fun h18 => ?_)
          ·
            refine T_op zk_54_63 rfl X_ic (pc' := 64) rfl ?_
            exact T_zret zk_54_64 rfl (by omega) (fun σ' h => ⟨_, rfl, (by omega), h.1, trivial⟩)
          ·
            refine T_op zk_54_59 rfl X_ic (pc' := 60) rfl ?_
            refine T_goto zk_54_60 ?_
            exact T_zret zk_54_64 rfl (by omega) (fun σ' h => ⟨_, rfl, (by omega), h.1, trivial⟩)
    · exfalso; omega
  ·
    refine T_ld zk_54_9 rfl rfl rfl (pc' := 10) rfl ?_
    refine T_calli (K := fun y19 σ' => (-2147483648 ≤ y19 ∧ y19 ≤ 2147483647) ∧ (fun σ' => IF MR σ σ' ∧ True) σ') (r := []) zk_54_10 rfl rfl rfl rfl rfl rfl (Or.inr ⟨_, _, _, _, rfl, vd_29, rfl⟩) (fun σ' h => (w_49   σ' h.1.1 ).le (Nat.le_of_ble_eq_true rfl) (fun v σ2 ⟨y, h1, h2, h3, h4⟩ => ⟨y, h1, h2, h.1.tr h3 MN_sub, trivial⟩)) (pc' := 13) rfl (fun y19 => ?_)
    refine G_ex (fun hy19 => ?_)
    refine T_op zk_54_13 rfl (X_bi (v := 40) (by decide)) (pc' := 15) rfl ?_
    refine T_icmp_eq zk_54_15 (by omega) (by omega) (pc' := 18) rfl (fun h20 => ?_) (fun h21 => ?_)
    ·
      refine T_ld zk_54_23 rfl rfl rfl (pc' := 24) rfl ?_
      refine T_op zk_54_24 rfl (X_bi (v := 20) (by decide)) (pc' := 26) rfl ?_
      refine T_icmp_lt zk_54_26 (by omega) (by omega) (pc' := 29) rfl (fun h22 => ?_) (fun h23 => ?_)
      ·
        refine T_ld zk_54_31 rfl rfl rfl (pc' := 32) rfl ?_
        refine T_op zk_54_32 rfl (X_bi (v := 40) (by decide)) (pc' := 34) rfl ?_
        refine T_calli (K := fun y24 σ' => (y24 = 0 ∨ y24 = 1) ∧ (fun σ' => IF MR σ σ' ∧ True) σ') (r := []) zk_54_34 rfl rfl rfl rfl rfl rfl (Or.inr ⟨_, _, _, _, rfl, vd_29, rfl⟩) (fun σ' h => (w_50 40 (by omega) σ' h.1.1 ).le (Nat.le_of_ble_eq_true rfl) (fun v σ2 ⟨y, h1, h2, h3, h4⟩ => ⟨y, h1, h2, h.1.tr h3 (fun _ _ _ _ h => h), trivial⟩)) (pc' := 37) rfl (fun y24 => ?_)
        refine G_ex (fun hy24 => ?_)
        refine T_if_eq zk_54_37 (by omega) (pc' := 40) rfl (fun h25 => ?_) (fun h26 => ?_)
        ·
          refine T_ld zk_54_65 rfl rfl rfl (pc' := 66) rfl ?_
          refine T_op (st' := [av 29 0 0, av 29 0 0]) zk_54_66 rfl rfl (pc' := 67) rfl ?_
          refine G_getf (lo := -2147483648) (hi := 2147483647) zk_54_67 rfl vd_29 (fun σ' h => h.1.1) (fun _ h => (by have q := h.1; omega)) (pc' := 70) rfl (fun y27 hy27 hy27' => ?_)
          refine T_op zk_54_70 rfl X_ic (pc' := 71) rfl ?_
          refine G_unk zk_54_71 rfl (pc' := 72) rfl (fun y28 hy28 hy28' => ?_)
          refine T_putf (J' := (fun σ' => IF MR σ σ' ∧ σ' 29 0 0 3 = y28 ∧ True)) zk_54_72 rfl rfl vd_29 (fun σ' h => ⟨h.1.up (by simp only [rgP] <;> omega) (by first | exact pMR rfl | (unfold MR; omega)), up_eq, trivial⟩) (pc' := 75) rfl ?_
          refine T_ld zk_54_75 rfl rfl rfl (pc' := 76) rfl ?_
          refine T_ld zk_54_76 rfl rfl rfl (pc' := 77) rfl ?_
          refine T_op zk_54_77 rfl X_ic (pc' := 78) rfl ?_
          refine T_opc (w := 18) zk_54_78 rfl X_add (by omega) (pc' := 79) rfl ?_
          refine T_calli (K := fun y29 σ' => (y29 = 0 ∨ y29 = 1) ∧ (fun σ' => IF MR σ σ' ∧ True) σ') (r := []) zk_54_79 rfl rfl rfl rfl rfl rfl (Or.inr ⟨_, _, _, _, rfl, vd_29, rfl⟩) (fun σ' h => (w_54_18   σ' h.1.1 ).le (Nat.le_of_ble_eq_true rfl) (fun v σ2 ⟨y, h1, h2, h3, h4⟩ => ⟨y, h1, h2, h.1.tr h3 (fun _ _ _ _ h => h), trivial⟩)) (pc' := 82) rfl (fun y29 => ?_)
          refine G_ex (fun hy29 => ?_)
          refine T_st (L' := [(0, av 29 0 0), (1, iv 17), (2, iv y29)]) zk_54_82 (nL := 3) rfl rfl rfl rfl rfl (pc' := 83) rfl ?_
          refine T_ld zk_54_83 rfl rfl rfl (pc' := 84) rfl ?_
          refine T_getR (t' := 30) (i' := 0) (k' := 0) zk_54_84 rfl rfl rfl vd_29 (pc' := 87) rfl ?_
          refine T_op zk_54_87 rfl X_ic (pc' := 88) rfl ?_
          refine T_callv (J' := (fun σ' => IF MR σ σ' ∧ True)) (r := []) zk_54_88 rfl rfl rfl rfl rfl rfl (Or.inr ⟨_, _, _, _, rfl, vd_30, rfl⟩) (fun σ' h => (w_42 ((-1)) (by omega) σ' h.1.1 ).le (Nat.le_of_ble_eq_true rfl) (fun v σ2 ⟨h1, h3, h4⟩ => ⟨h1, h.1.tr h3 (fun _ _ _ _ h => h), trivial⟩)) (pc' := 91) rfl ?_
          refine T_ld zk_54_91 rfl rfl rfl (pc' := 92) rfl ?_
          exact T_zret zk_54_92 rfl (by omega) (fun σ' h => ⟨_, rfl, (by omega), h.1, trivial⟩)
        ·
          refine T_ld zk_54_40 rfl rfl rfl (pc' := 41) rfl ?_
          refine T_ld zk_54_41 rfl rfl rfl (pc' := 42) rfl ?_
          refine T_op zk_54_42 rfl X_ic (pc' := 43) rfl ?_
          refine T_opc (w := 18) zk_54_43 rfl X_add (by omega) (pc' := 44) rfl ?_
          refine T_calli (K := fun y31 σ' => (y31 = 0 ∨ y31 = 1) ∧ (fun σ' => IF MR σ σ' ∧ True) σ') (r := []) zk_54_44 rfl rfl rfl rfl rfl rfl (Or.inr ⟨_, _, _, _, rfl, vd_29, rfl⟩) (fun σ' h => (w_52_18   σ' h.1.1 ).le (Nat.le_of_ble_eq_true rfl) (fun v σ2 ⟨y, h1, h2, h3, h4⟩ => ⟨y, h1, h2, h.1.tr h3 (fun _ _ _ _ h => h), trivial⟩)) (pc' := 47) rfl (fun y31 => ?_)
          refine G_ex (fun hy31 => ?_)
          refine T_if_eq zk_54_47 (by omega) (pc' := 50) rfl (fun h32 => ?_) (fun h33 => ?_)
          ·
            refine T_op zk_54_63 rfl X_ic (pc' := 64) rfl ?_
            exact T_zret zk_54_64 rfl (by omega) (fun σ' h => ⟨_, rfl, (by omega), h.1, trivial⟩)
          ·
            refine T_ld zk_54_50 rfl rfl rfl (pc' := 51) rfl ?_
            refine T_op zk_54_51 rfl (X_bi (v := 41) (by decide)) (pc' := 53) rfl ?_
            refine T_calli (K := fun y34 σ' => (y34 = 0 ∨ y34 = 1) ∧ (fun σ' => IF MR σ σ' ∧ True) σ') (r := []) zk_54_53 rfl rfl rfl rfl rfl rfl (Or.inr ⟨_, _, _, _, rfl, vd_29, rfl⟩) (fun σ' h => (w_50 41 (by omega) σ' h.1.1 ).le (Nat.le_of_ble_eq_true rfl) (fun v σ2 ⟨y, h1, h2, h3, h4⟩ => ⟨y, h1, h2, h.1.tr h3 (fun _ _ _ _ h => h), trivial⟩)) (pc' := 56) rfl (fun y34 => ?_)
            refine G_ex (fun hy34 => ?_)
            refine T_if_eq zk_54_56 (by omega) (pc' := 59) rfl (fun h35 => ?_) (fun h36 => ?_)
            ·
              refine T_op zk_54_63 rfl X_ic (pc' := 64) rfl ?_
              exact T_zret zk_54_64 rfl (by omega) (fun σ' h => ⟨_, rfl, (by omega), h.1, trivial⟩)
            ·
              refine T_op zk_54_59 rfl X_ic (pc' := 60) rfl ?_
              refine T_goto zk_54_60 ?_
              exact T_zret zk_54_64 rfl (by omega) (fun σ' h => ⟨_, rfl, (by omega), h.1, trivial⟩)
      · exfalso; omega
    ·
      refine T_ld zk_54_18 rfl rfl rfl (pc' := 19) rfl ?_
      refine T_calli (K := fun y37 σ' => (y37 = 0 ∨ y37 = 1) ∧ (fun σ' => IF MR σ σ' ∧ True) σ') (r := []) zk_54_19 rfl rfl rfl rfl rfl rfl (Or.inr ⟨_, _, _, _, rfl, vd_29, rfl⟩) (fun σ' h => (w_55   σ' h.1.1 ).le (Nat.le_of_ble_eq_true rfl) (fun v σ2 ⟨y, h1, h2, h3, h4⟩ => ⟨y, h1, h2, h.1.tr h3 (fun _ _ _ _ h => h), trivial⟩)) (pc' := 22) rfl (fun y37 => ?_)
      refine G_ex (fun hy37 => ?_)
      exact T_zret zk_54_22 rfl (by omega) (fun σ' h => ⟨_, rfl, (by omega), h.1, trivial⟩)
/-- W$LawReader.readBoth -/
theorem w_53_17 {xs : Nat × (Nat → Int32)}   (σ : ZS) (hI : Inv σ)   : CT xs 14 53 [av 29 0 0, iv 17] σ (fun v σ' => ∃ y, v = some (iv y) ∧ (y = 0 ∨ y = 1) ∧ IF MR σ σ' ∧ (True)) := by
  refine G_ct (J := (fun σ' => IF MR σ σ' ∧ True)) (L := [(0, av 29 0 0), (1, iv 17)]) (nL := 4) rfl rfl rfl ⟨IF.rf hI, trivial⟩ ?_
  refine T_ld zk_53_0 rfl rfl rfl (pc' := 1) rfl ?_
  refine T_ld zk_53_1 rfl rfl rfl (pc' := 2) rfl ?_
  refine T_calli (K := fun y1 σ' => (y1 = 0 ∨ y1 = 1) ∧ (fun σ' => IF MR σ σ' ∧ True) σ') (r := []) zk_53_2 rfl rfl rfl rfl rfl rfl (Or.inr ⟨_, _, _, _, rfl, vd_29, rfl⟩) (fun σ' h => (w_54_17   σ' h.1.1 ).le (Nat.le_of_ble_eq_true rfl) (fun v σ2 ⟨y, h1, h2, h3, h4⟩ => ⟨y, h1, h2, h.1.tr h3 (fun _ _ _ _ h => h), trivial⟩)) (pc' := 5) rfl (fun y1 => ?_)
  refine G_ex (fun hy1 => ?_)
  refine T_st (L' := [(0, av 29 0 0), (1, iv 17), (2, iv y1)]) zk_53_5 (nL := 4) rfl rfl rfl rfl rfl (pc' := 6) rfl ?_
  refine T_op zk_53_6 rfl X_ic (pc' := 7) rfl ?_
  refine T_st (L' := [(0, av 29 0 0), (1, iv 17), (2, iv y1), (3, iv 0)]) zk_53_7 (nL := 4) rfl rfl rfl rfl rfl (pc' := 8) rfl ?_
  refine T_loop2 (fun x2 x3 => ((96 - x3 : Int)).toNat) (fun x2 x3 => (0 ≤ x2 ∧ x2 ≤ 1) ∧ (0 ≤ x3 ∧ x3 ≤ 96)) (fun x2 x3 => TJ xs (fun σ' => IF MR σ σ' ∧ True) 13 53 8 [(0, av 29 0 0), (1, iv 17), (2, iv x2), (3, iv x3)] [] _) ?_ y1 0 (by omega)
  intro x2 x3 hp5 ih4
  refine T_ld zk_53_8 rfl rfl rfl (pc' := 9) rfl ?_
  refine T_op zk_53_9 rfl (X_bi (v := 96) (by decide)) (pc' := 11) rfl ?_
  refine T_icmp_ge zk_53_11 (by omega) (by omega) (pc' := 14) rfl (fun h6 => ?_) (fun h7 => ?_)
  ·
    refine T_ld zk_53_48 rfl rfl rfl (pc' := 49) rfl ?_
    exact T_zret zk_53_49 rfl (by omega) (fun σ' h => ⟨_, rfl, (by omega), h.1, trivial⟩)
  ·
    refine T_ld zk_53_14 rfl rfl rfl (pc' := 15) rfl ?_
    refine T_if_eq zk_53_15 (by omega) (pc' := 18) rfl (fun h8 => ?_) (fun h9 => ?_)
    ·
      refine T_ld zk_53_48 rfl rfl rfl (pc' := 49) rfl ?_
      exact T_zret zk_53_49 rfl (by omega) (fun σ' h => ⟨_, rfl, (by omega), h.1, trivial⟩)
    ·
      refine T_ld zk_53_18 rfl rfl rfl (pc' := 19) rfl ?_
      refine T_op zk_53_19 rfl (X_bi (v := 38) (by decide)) (pc' := 21) rfl ?_
      refine T_calli (K := fun y10 σ' => (y10 = 0 ∨ y10 = 1) ∧ (fun σ' => IF MR σ σ' ∧ True) σ') (r := []) zk_53_21 rfl rfl rfl rfl rfl rfl (Or.inr ⟨_, _, _, _, rfl, vd_29, rfl⟩) (fun σ' h => (w_50 38 (by omega) σ' h.1.1 ).le (Nat.le_of_ble_eq_true rfl) (fun v σ2 ⟨y, h1, h2, h3, h4⟩ => ⟨y, h1, h2, h.1.tr h3 (fun _ _ _ _ h => h), trivial⟩)) (pc' := 24) rfl (fun y10 => ?_)
      refine G_ex (fun hy10 => ?_)
      refine T_if_eq zk_53_24 (by omega) (pc' := 27) rfl (fun h11 => ?_) (fun h12 => ?_)
      ·
        refine T_ld zk_53_48 rfl rfl rfl (pc' := 49) rfl ?_
        exact T_zret zk_53_49 rfl (by omega) (fun σ' h => ⟨_, rfl, (by omega), h.1, trivial⟩)
      ·
        refine T_ld zk_53_27 rfl rfl rfl (pc' := 28) rfl ?_
        refine T_ld zk_53_28 rfl rfl rfl (pc' := 29) rfl ?_
        refine T_calli (K := fun y13 σ' => (y13 = 0 ∨ y13 = 1) ∧ (fun σ' => IF MR σ σ' ∧ True) σ') (r := []) zk_53_29 rfl rfl rfl rfl rfl rfl (Or.inr ⟨_, _, _, _, rfl, vd_29, rfl⟩) (fun σ' h => (w_54_17   σ' h.1.1 ).le (Nat.le_of_ble_eq_true rfl) (fun v σ2 ⟨y, h1, h2, h3, h4⟩ => ⟨y, h1, h2, h.1.tr h3 (fun _ _ _ _ h => h), trivial⟩)) (pc' := 32) rfl (fun y13 => ?_)
        refine G_ex (fun hy13 => ?_)
        refine T_st (L' := [(0, av 29 0 0), (1, iv 17), (2, iv y13), (3, iv x3)]) zk_53_32 (nL := 4) rfl rfl rfl rfl rfl (pc' := 33) rfl ?_
        refine T_ld zk_53_33 rfl rfl rfl (pc' := 34) rfl ?_
        refine T_getR (t' := 30) (i' := 0) (k' := 0) zk_53_34 rfl rfl rfl vd_29 (pc' := 37) rfl ?_
        refine T_op zk_53_37 rfl (X_bi (v := -2) (by decide)) (pc' := 39) rfl ?_
        refine T_callv (J' := (fun σ' => IF MR σ σ' ∧ True)) (r := []) zk_53_39 rfl rfl rfl rfl rfl rfl (Or.inr ⟨_, _, _, _, rfl, vd_30, rfl⟩) (fun σ' h => (w_42 ((-2)) (by omega) σ' h.1.1 ).le (Nat.le_of_ble_eq_true rfl) (fun v σ2 ⟨h1, h3, h4⟩ => ⟨h1, h.1.tr h3 (fun _ _ _ _ h => h), trivial⟩)) (pc' := 42) rfl ?_
        refine T_iinc (L' := [(0, av 29 0 0), (1, iv 17), (2, iv y13), (3, iv (x3 + 1))]) zk_53_42 (nL := 4) rfl rfl rfl rfl (pc' := 45) rfl ?_
        refine T_goto zk_53_45 ?_
        exact ih4 y13 (x3 + 1) (by omega) (by omega)
/-- W$LawReader.readEither -/
theorem w_52_17 {xs : Nat × (Nat → Int32)}   (σ : ZS) (hI : Inv σ)   : CT xs 15 52 [av 29 0 0, iv 17] σ (fun v σ' => ∃ y, v = some (iv y) ∧ (y = 0 ∨ y = 1) ∧ IF MR σ σ' ∧ (True)) := by
  refine G_ct (J := (fun σ' => IF MR σ σ' ∧ True)) (L := [(0, av 29 0 0), (1, iv 17)]) (nL := 4) rfl rfl rfl ⟨IF.rf hI, trivial⟩ ?_
  refine T_ld zk_52_0 rfl rfl rfl (pc' := 1) rfl ?_
  refine T_ld zk_52_1 rfl rfl rfl (pc' := 2) rfl ?_
  refine T_calli (K := fun y1 σ' => (y1 = 0 ∨ y1 = 1) ∧ (fun σ' => IF MR σ σ' ∧ True) σ') (r := []) zk_52_2 rfl rfl rfl rfl rfl rfl (Or.inr ⟨_, _, _, _, rfl, vd_29, rfl⟩) (fun σ' h => (w_53_17   σ' h.1.1 ).le (Nat.le_of_ble_eq_true rfl) (fun v σ2 ⟨y, h1, h2, h3, h4⟩ => ⟨y, h1, h2, h.1.tr h3 (fun _ _ _ _ h => h), trivial⟩)) (pc' := 5) rfl (fun y1 => ?_)
  refine G_ex (fun hy1 => ?_)
  refine T_st (L' := [(0, av 29 0 0), (1, iv 17), (2, iv y1)]) zk_52_5 (nL := 4) rfl rfl rfl rfl rfl (pc' := 6) rfl ?_
  refine T_op zk_52_6 rfl X_ic (pc' := 7) rfl ?_
  refine T_st (L' := [(0, av 29 0 0), (1, iv 17), (2, iv y1), (3, iv 0)]) zk_52_7 (nL := 4) rfl rfl rfl rfl rfl (pc' := 8) rfl ?_
  refine T_loop2 (fun x2 x3 => ((96 - x3 : Int)).toNat) (fun x2 x3 => (0 ≤ x2 ∧ x2 ≤ 1) ∧ (0 ≤ x3 ∧ x3 ≤ 96)) (fun x2 x3 => TJ xs (fun σ' => IF MR σ σ' ∧ True) 14 52 8 [(0, av 29 0 0), (1, iv 17), (2, iv x2), (3, iv x3)] [] _) ?_ y1 0 (by omega)
  intro x2 x3 hp5 ih4
  refine T_ld zk_52_8 rfl rfl rfl (pc' := 9) rfl ?_
  refine T_op zk_52_9 rfl (X_bi (v := 96) (by decide)) (pc' := 11) rfl ?_
  refine T_icmp_ge zk_52_11 (by omega) (by omega) (pc' := 14) rfl (fun h6 => ?_) (fun h7 => ?_)
  ·
    refine T_ld zk_52_48 rfl rfl rfl (pc' := 49) rfl ?_
    exact T_zret zk_52_49 rfl (by omega) (fun σ' h => ⟨_, rfl, (by omega), h.1, trivial⟩)
  ·
    refine T_ld zk_52_14 rfl rfl rfl (pc' := 15) rfl ?_
    refine T_if_eq zk_52_15 (by omega) (pc' := 18) rfl (fun h8 => ?_) (fun h9 => ?_)
    ·
      refine T_ld zk_52_48 rfl rfl rfl (pc' := 49) rfl ?_
      exact T_zret zk_52_49 rfl (by omega) (fun σ' h => ⟨_, rfl, (by omega), h.1, trivial⟩)
    ·
      refine T_ld zk_52_18 rfl rfl rfl (pc' := 19) rfl ?_
      refine T_op zk_52_19 rfl (X_bi (v := 124) (by decide)) (pc' := 21) rfl ?_
      refine T_calli (K := fun y10 σ' => (y10 = 0 ∨ y10 = 1) ∧ (fun σ' => IF MR σ σ' ∧ True) σ') (r := []) zk_52_21 rfl rfl rfl rfl rfl rfl (Or.inr ⟨_, _, _, _, rfl, vd_29, rfl⟩) (fun σ' h => (w_50 124 (by omega) σ' h.1.1 ).le (Nat.le_of_ble_eq_true rfl) (fun v σ2 ⟨y, h1, h2, h3, h4⟩ => ⟨y, h1, h2, h.1.tr h3 (fun _ _ _ _ h => h), trivial⟩)) (pc' := 24) rfl (fun y10 => ?_)
      refine G_ex (fun hy10 => ?_)
      refine T_if_eq zk_52_24 (by omega) (pc' := 27) rfl (fun h11 => ?_) (fun h12 => ?_)
      ·
        refine T_ld zk_52_48 rfl rfl rfl (pc' := 49) rfl ?_
        exact T_zret zk_52_49 rfl (by omega) (fun σ' h => ⟨_, rfl, (by omega), h.1, trivial⟩)
      ·
        refine T_ld zk_52_27 rfl rfl rfl (pc' := 28) rfl ?_
        refine T_ld zk_52_28 rfl rfl rfl (pc' := 29) rfl ?_
        refine T_calli (K := fun y13 σ' => (y13 = 0 ∨ y13 = 1) ∧ (fun σ' => IF MR σ σ' ∧ True) σ') (r := []) zk_52_29 rfl rfl rfl rfl rfl rfl (Or.inr ⟨_, _, _, _, rfl, vd_29, rfl⟩) (fun σ' h => (w_53_17   σ' h.1.1 ).le (Nat.le_of_ble_eq_true rfl) (fun v σ2 ⟨y, h1, h2, h3, h4⟩ => ⟨y, h1, h2, h.1.tr h3 (fun _ _ _ _ h => h), trivial⟩)) (pc' := 32) rfl (fun y13 => ?_)
        refine G_ex (fun hy13 => ?_)
        refine T_st (L' := [(0, av 29 0 0), (1, iv 17), (2, iv y13), (3, iv x3)]) zk_52_32 (nL := 4) rfl rfl rfl rfl rfl (pc' := 33) rfl ?_
        refine T_ld zk_52_33 rfl rfl rfl (pc' := 34) rfl ?_
        refine T_getR (t' := 30) (i' := 0) (k' := 0) zk_52_34 rfl rfl rfl vd_29 (pc' := 37) rfl ?_
        refine T_op zk_52_37 rfl (X_bi (v := -3) (by decide)) (pc' := 39) rfl ?_
        refine T_callv (J' := (fun σ' => IF MR σ σ' ∧ True)) (r := []) zk_52_39 rfl rfl rfl rfl rfl rfl (Or.inr ⟨_, _, _, _, rfl, vd_30, rfl⟩) (fun σ' h => (w_42 ((-3)) (by omega) σ' h.1.1 ).le (Nat.le_of_ble_eq_true rfl) (fun v σ2 ⟨h1, h3, h4⟩ => ⟨h1, h.1.tr h3 (fun _ _ _ _ h => h), trivial⟩)) (pc' := 42) rfl ?_
        refine T_iinc (L' := [(0, av 29 0 0), (1, iv 17), (2, iv y13), (3, iv (x3 + 1))]) zk_52_42 (nL := 4) rfl rfl rfl rfl (pc' := 45) rfl ?_
        refine T_goto zk_52_45 ?_
        exact ih4 y13 (x3 + 1) (by omega) (by omega)
/-- W$LawReader.readPart -/
theorem w_54_16 {xs : Nat × (Nat → Int32)}   (σ : ZS) (hI : Inv σ)   : CT xs 16 54 [av 29 0 0, iv 16] σ (fun v σ' => ∃ y, v = some (iv y) ∧ (y = 0 ∨ y = 1) ∧ IF MR σ σ' ∧ (True)) := by
  refine G_ct (J := (fun σ' => IF MR σ σ' ∧ True)) (L := [(0, av 29 0 0), (1, iv 16)]) (nL := 3) rfl rfl rfl ⟨IF.rf hI, trivial⟩ ?_
  refine T_ld zk_54_0 rfl rfl rfl (pc' := 1) rfl ?_
  refine T_calli (K := fun y1 σ' => (-2147483648 ≤ y1 ∧ y1 ≤ 2147483647) ∧ (fun σ' => IF MR σ σ' ∧ True) σ') (r := []) zk_54_1 rfl rfl rfl rfl rfl rfl (Or.inr ⟨_, _, _, _, rfl, vd_29, rfl⟩) (fun σ' h => (w_49   σ' h.1.1 ).le (Nat.le_of_ble_eq_true rfl) (fun v σ2 ⟨y, h1, h2, h3, h4⟩ => ⟨y, h1, h2, h.1.tr h3 MN_sub, trivial⟩)) (pc' := 4) rfl (fun y1 => ?_)
  refine G_ex (fun hy1 => ?_)
  refine T_op zk_54_4 rfl (X_bi (v := 33) (by decide)) (pc' := 6) rfl ?_
  refine T_icmp_eq zk_54_6 (by omega) (by omega) (pc' := 9) rfl (fun h2 => ?_) (fun h3 => ?_)
  ·
    refine T_ld zk_54_23 rfl rfl rfl (pc' := 24) rfl ?_
    refine T_op zk_54_24 rfl (X_bi (v := 20) (by decide)) (pc' := 26) rfl ?_
    refine T_icmp_lt zk_54_26 (by omega) (by omega) (pc' := 29) rfl (fun h4 => ?_) (fun h5 => ?_)
    ·
      refine T_ld zk_54_31 rfl rfl rfl (pc' := 32) rfl ?_
      refine T_op zk_54_32 rfl (X_bi (v := 40) (by decide)) (pc' := 34) rfl ?_
      refine T_calli (K := fun y6 σ' => (y6 = 0 ∨ y6 = 1) ∧ (fun σ' => IF MR σ σ' ∧ True) σ') (r := []) zk_54_34 rfl rfl rfl rfl rfl rfl (Or.inr ⟨_, _, _, _, rfl, vd_29, rfl⟩) (fun σ' h => (w_50 40 (by omega) σ' h.1.1 ).le (Nat.le_of_ble_eq_true rfl) (fun v σ2 ⟨y, h1, h2, h3, h4⟩ => ⟨y, h1, h2, h.1.tr h3 (fun _ _ _ _ h => h), trivial⟩)) (pc' := 37) rfl (fun y6 => ?_)
      refine G_ex (fun hy6 => ?_)
      refine T_if_eq zk_54_37 (by omega) (pc' := 40) rfl (fun h7 => ?_) (fun h8 => ?_)
      ·
        refine T_ld zk_54_65 rfl rfl rfl (pc' := 66) rfl ?_
        refine T_op (st' := [av 29 0 0, av 29 0 0]) zk_54_66 rfl rfl (pc' := 67) rfl ?_
        refine G_getf (lo := -2147483648) (hi := 2147483647) zk_54_67 rfl vd_29 (fun σ' h => h.1.1) (fun _ h => (by have q := h.1; omega)) (pc' := 70) rfl (fun y9 hy9 hy9' => ?_)
        refine T_op zk_54_70 rfl X_ic (pc' := 71) rfl ?_
        refine G_unk zk_54_71 rfl (pc' := 72) rfl (fun y10 hy10 hy10' => ?_)
        refine T_putf (J' := (fun σ' => IF MR σ σ' ∧ σ' 29 0 0 3 = y10 ∧ True)) zk_54_72 rfl rfl vd_29 (fun σ' h => ⟨h.1.up (by simp only [rgP] <;> omega) (by first | exact pMR rfl | (unfold MR; omega)), up_eq, trivial⟩) (pc' := 75) rfl ?_
        refine T_ld zk_54_75 rfl rfl rfl (pc' := 76) rfl ?_
        refine T_ld zk_54_76 rfl rfl rfl (pc' := 77) rfl ?_
        refine T_op zk_54_77 rfl X_ic (pc' := 78) rfl ?_
        refine T_opc (w := 17) zk_54_78 rfl X_add (by omega) (pc' := 79) rfl ?_
        refine T_calli (K := fun y11 σ' => (y11 = 0 ∨ y11 = 1) ∧ (fun σ' => IF MR σ σ' ∧ True) σ') (r := []) zk_54_79 rfl rfl rfl rfl rfl rfl (Or.inr ⟨_, _, _, _, rfl, vd_29, rfl⟩) (fun σ' h => (w_54_17   σ' h.1.1 ).le (Nat.le_of_ble_eq_true rfl) (fun v σ2 ⟨y, h1, h2, h3, h4⟩ => ⟨y, h1, h2, h.1.tr h3 (fun _ _ _ _ h => h), trivial⟩)) (pc' := 82) rfl (fun y11 => ?_)
        refine G_ex (fun hy11 => ?_)
        refine T_st (L' := [(0, av 29 0 0), (1, iv 16), (2, iv y11)]) zk_54_82 (nL := 3) rfl rfl rfl rfl rfl (pc' := 83) rfl ?_
        refine T_ld zk_54_83 rfl rfl rfl (pc' := 84) rfl ?_
        refine T_getR (t' := 30) (i' := 0) (k' := 0) zk_54_84 rfl rfl rfl vd_29 (pc' := 87) rfl ?_
        refine T_op zk_54_87 rfl X_ic (pc' := 88) rfl ?_
        refine T_callv (J' := (fun σ' => IF MR σ σ' ∧ True)) (r := []) zk_54_88 rfl rfl rfl rfl rfl rfl (Or.inr ⟨_, _, _, _, rfl, vd_30, rfl⟩) (fun σ' h => (w_42 ((-1)) (by omega) σ' h.1.1 ).le (Nat.le_of_ble_eq_true rfl) (fun v σ2 ⟨h1, h3, h4⟩ => ⟨h1, h.1.tr h3 (fun _ _ _ _ h => h), trivial⟩)) (pc' := 91) rfl ?_
        refine T_ld zk_54_91 rfl rfl rfl (pc' := 92) rfl ?_
        exact T_zret zk_54_92 rfl (by omega) (fun σ' h => ⟨_, rfl, (by omega), h.1, trivial⟩)
      ·
        refine T_ld zk_54_40 rfl rfl rfl (pc' := 41) rfl ?_
        refine T_ld zk_54_41 rfl rfl rfl (pc' := 42) rfl ?_
        refine T_op zk_54_42 rfl X_ic (pc' := 43) rfl ?_
        refine T_opc (w := 17) zk_54_43 rfl X_add (by omega) (pc' := 44) rfl ?_
        refine T_calli (K := fun y13 σ' => (y13 = 0 ∨ y13 = 1) ∧ (fun σ' => IF MR σ σ' ∧ True) σ') (r := []) zk_54_44 rfl rfl rfl rfl rfl rfl (Or.inr ⟨_, _, _, _, rfl, vd_29, rfl⟩) (fun σ' h => (w_52_17   σ' h.1.1 ).le (Nat.le_of_ble_eq_true rfl) (fun v σ2 ⟨y, h1, h2, h3, h4⟩ => ⟨y, h1, h2, h.1.tr h3 (fun _ _ _ _ h => h), trivial⟩)) (pc' := 47) rfl (fun y13 => ?_)
        refine G_ex (fun hy13 => ?_)
        refine T_if_eq zk_54_47 (by omega) (pc' := 50) rfl (fun h14 => ?_) (fun h15 => ?_)
        ·
          refine T_op zk_54_63 rfl X_ic (pc' := 64) rfl ?_
          exact T_zret zk_54_64 rfl (by omega) (fun σ' h => ⟨_, rfl, (by omega), h.1, trivial⟩)
        ·
          refine T_ld zk_54_50 rfl rfl rfl (pc' := 51) rfl ?_
          refine T_op zk_54_51 rfl (X_bi (v := 41) (by decide)) (pc' := 53) rfl ?_
          refine T_calli (K := fun y16 σ' => (y16 = 0 ∨ y16 = 1) ∧ (fun σ' => IF MR σ σ' ∧ True) σ') (r := []) zk_54_53 rfl rfl rfl rfl rfl rfl (Or.inr ⟨_, _, _, _, rfl, vd_29, rfl⟩) (fun σ' h => (w_50 41 (by omega) σ' h.1.1 ).le (Nat.le_of_ble_eq_true rfl) (fun v σ2 ⟨y, h1, h2, h3, h4⟩ => ⟨y, h1, h2, h.1.tr h3 (fun _ _ _ _ h => h), trivial⟩)) (pc' := 56) rfl (fun y16 => ?_)
          refine G_ex (fun hy16 => ?_)
          refine T_if_eq zk_54_56 (by omega) (pc' := 59) rfl (fun h17 => ?_) (fun h18 => ?_)
          ·
            refine T_op zk_54_63 rfl X_ic (pc' := 64) rfl ?_
            exact T_zret zk_54_64 rfl (by omega) (fun σ' h => ⟨_, rfl, (by omega), h.1, trivial⟩)
          ·
            refine T_op zk_54_59 rfl X_ic (pc' := 60) rfl ?_
            refine T_goto zk_54_60 ?_
            exact T_zret zk_54_64 rfl (by omega) (fun σ' h => ⟨_, rfl, (by omega), h.1, trivial⟩)
    · exfalso; omega
  ·
    refine T_ld zk_54_9 rfl rfl rfl (pc' := 10) rfl ?_
    refine T_calli (K := fun y19 σ' => (-2147483648 ≤ y19 ∧ y19 ≤ 2147483647) ∧ (fun σ' => IF MR σ σ' ∧ True) σ') (r := []) zk_54_10 rfl rfl rfl rfl rfl rfl (Or.inr ⟨_, _, _, _, rfl, vd_29, rfl⟩) (fun σ' h => (w_49   σ' h.1.1 ).le (Nat.le_of_ble_eq_true rfl) (fun v σ2 ⟨y, h1, h2, h3, h4⟩ => ⟨y, h1, h2, h.1.tr h3 MN_sub, trivial⟩)) (pc' := 13) rfl (fun y19 => ?_)
    refine G_ex (fun hy19 => ?_)
    refine T_op zk_54_13 rfl (X_bi (v := 40) (by decide)) (pc' := 15) rfl ?_
    refine T_icmp_eq zk_54_15 (by omega) (by omega) (pc' := 18) rfl (fun h20 => ?_) (fun h21 => ?_)
    ·
      refine T_ld zk_54_23 rfl rfl rfl (pc' := 24) rfl ?_
      refine T_op zk_54_24 rfl (X_bi (v := 20) (by decide)) (pc' := 26) rfl ?_
      refine T_icmp_lt zk_54_26 (by omega) (by omega) (pc' := 29) rfl (fun h22 => ?_) (fun h23 => ?_)
      ·
        refine T_ld zk_54_31 rfl rfl rfl (pc' := 32) rfl ?_
        refine T_op zk_54_32 rfl (X_bi (v := 40) (by decide)) (pc' := 34) rfl ?_
        refine T_calli (K := fun y24 σ' => (y24 = 0 ∨ y24 = 1) ∧ (fun σ' => IF MR σ σ' ∧ True) σ') (r := []) zk_54_34 rfl rfl rfl rfl rfl rfl (Or.inr ⟨_, _, _, _, rfl, vd_29, rfl⟩) (fun σ' h => (w_50 40 (by omega) σ' h.1.1 ).le (Nat.le_of_ble_eq_true rfl) (fun v σ2 ⟨y, h1, h2, h3, h4⟩ => ⟨y, h1, h2, h.1.tr h3 (fun _ _ _ _ h => h), trivial⟩)) (pc' := 37) rfl (fun y24 => ?_)
        refine G_ex (fun hy24 => ?_)
        refine T_if_eq zk_54_37 (by omega) (pc' := 40) rfl (fun h25 => ?_) (fun h26 => ?_)
        ·
          refine T_ld zk_54_65 rfl rfl rfl (pc' := 66) rfl ?_
          refine T_op (st' := [av 29 0 0, av 29 0 0]) zk_54_66 rfl rfl (pc' := 67) rfl ?_
          refine G_getf (lo := -2147483648) (hi := 2147483647) zk_54_67 rfl vd_29 (fun σ' h => h.1.1) (fun _ h => (by have q := h.1; omega)) (pc' := 70) rfl (fun y27 hy27 hy27' => ?_)
          refine T_op zk_54_70 rfl X_ic (pc' := 71) rfl ?_
          refine G_unk zk_54_71 rfl (pc' := 72) rfl (fun y28 hy28 hy28' => ?_)
          refine T_putf (J' := (fun σ' => IF MR σ σ' ∧ σ' 29 0 0 3 = y28 ∧ True)) zk_54_72 rfl rfl vd_29 (fun σ' h => ⟨h.1.up (by simp only [rgP] <;> omega) (by first | exact pMR rfl | (unfold MR; omega)), up_eq, trivial⟩) (pc' := 75) rfl ?_
          refine T_ld zk_54_75 rfl rfl rfl (pc' := 76) rfl ?_
          refine T_ld zk_54_76 rfl rfl rfl (pc' := 77) rfl ?_
          refine T_op zk_54_77 rfl X_ic (pc' := 78) rfl ?_
          refine T_opc (w := 17) zk_54_78 rfl X_add (by omega) (pc' := 79) rfl ?_
          refine T_calli (K := fun y29 σ' => (y29 = 0 ∨ y29 = 1) ∧ (fun σ' => IF MR σ σ' ∧ True) σ') (r := []) zk_54_79 rfl rfl rfl rfl rfl rfl (Or.inr ⟨_, _, _, _, rfl, vd_29, rfl⟩) (fun σ' h => (w_54_17   σ' h.1.1 ).le (Nat.le_of_ble_eq_true rfl) (fun v σ2 ⟨y, h1, h2, h3, h4⟩ => ⟨y, h1, h2, h.1.tr h3 (fun _ _ _ _ h => h), trivial⟩)) (pc' := 82) rfl (fun y29 => ?_)
          refine G_ex (fun hy29 => ?_)
          refine T_st (L' := [(0, av 29 0 0), (1, iv 16), (2, iv y29)]) zk_54_82 (nL := 3) rfl rfl rfl rfl rfl (pc' := 83) rfl ?_
          refine T_ld zk_54_83 rfl rfl rfl (pc' := 84) rfl ?_
          refine T_getR (t' := 30) (i' := 0) (k' := 0) zk_54_84 rfl rfl rfl vd_29 (pc' := 87) rfl ?_
          refine T_op zk_54_87 rfl X_ic (pc' := 88) rfl ?_
          refine T_callv (J' := (fun σ' => IF MR σ σ' ∧ True)) (r := []) zk_54_88 rfl rfl rfl rfl rfl rfl (Or.inr ⟨_, _, _, _, rfl, vd_30, rfl⟩) (fun σ' h => (w_42 ((-1)) (by omega) σ' h.1.1 ).le (Nat.le_of_ble_eq_true rfl) (fun v σ2 ⟨h1, h3, h4⟩ => ⟨h1, h.1.tr h3 (fun _ _ _ _ h => h), trivial⟩)) (pc' := 91) rfl ?_
          refine T_ld zk_54_91 rfl rfl rfl (pc' := 92) rfl ?_
          exact T_zret zk_54_92 rfl (by omega) (fun σ' h => ⟨_, rfl, (by omega), h.1, trivial⟩)
        ·
          refine T_ld zk_54_40 rfl rfl rfl (pc' := 41) rfl ?_
          refine T_ld zk_54_41 rfl rfl rfl (pc' := 42) rfl ?_
          refine T_op zk_54_42 rfl X_ic (pc' := 43) rfl ?_
          refine T_opc (w := 17) zk_54_43 rfl X_add (by omega) (pc' := 44) rfl ?_
          refine T_calli (K := fun y31 σ' => (y31 = 0 ∨ y31 = 1) ∧ (fun σ' => IF MR σ σ' ∧ True) σ') (r := []) zk_54_44 rfl rfl rfl rfl rfl rfl (Or.inr ⟨_, _, _, _, rfl, vd_29, rfl⟩) (fun σ' h => (w_52_17   σ' h.1.1 ).le (Nat.le_of_ble_eq_true rfl) (fun v σ2 ⟨y, h1, h2, h3, h4⟩ => ⟨y, h1, h2, h.1.tr h3 (fun _ _ _ _ h => h), trivial⟩)) (pc' := 47) rfl (fun y31 => ?_)
          refine G_ex (fun hy31 => ?_)
          refine T_if_eq zk_54_47 (by omega) (pc' := 50) rfl (fun h32 => ?_) (fun h33 => ?_)
          ·
            refine T_op zk_54_63 rfl X_ic (pc' := 64) rfl ?_
            exact T_zret zk_54_64 rfl (by omega) (fun σ' h => ⟨_, rfl, (by omega), h.1, trivial⟩)
          ·
            refine T_ld zk_54_50 rfl rfl rfl (pc' := 51) rfl ?_
            refine T_op zk_54_51 rfl (X_bi (v := 41) (by decide)) (pc' := 53) rfl ?_
            refine T_calli (K := fun y34 σ' => (y34 = 0 ∨ y34 = 1) ∧ (fun σ' => IF MR σ σ' ∧ True) σ') (r := []) zk_54_53 rfl rfl rfl rfl rfl rfl (Or.inr ⟨_, _, _, _, rfl, vd_29, rfl⟩) (fun σ' h => (w_50 41 (by omega) σ' h.1.1 ).le (Nat.le_of_ble_eq_true rfl) (fun v σ2 ⟨y, h1, h2, h3, h4⟩ => ⟨y, h1, h2, h.1.tr h3 (fun _ _ _ _ h => h), trivial⟩)) (pc' := 56) rfl (fun y34 => ?_)
            refine G_ex (fun hy34 => ?_)
            refine T_if_eq zk_54_56 (by omega) (pc' := 59) rfl (fun h35 => ?_) (fun h36 => ?_)
            ·
              refine T_op zk_54_63 rfl X_ic (pc' := 64) rfl ?_
              exact T_zret zk_54_64 rfl (by omega) (fun σ' h => ⟨_, rfl, (by omega), h.1, trivial⟩)
            ·
              refine T_op zk_54_59 rfl X_ic (pc' := 60) rfl ?_
              refine T_goto zk_54_60 ?_
              exact T_zret zk_54_64 rfl (by omega) (fun σ' h => ⟨_, rfl, (by omega), h.1, trivial⟩)
      · exfalso; omega
    ·
      refine T_ld zk_54_18 rfl rfl rfl (pc' := 19) rfl ?_
      refine T_calli (K := fun y37 σ' => (y37 = 0 ∨ y37 = 1) ∧ (fun σ' => IF MR σ σ' ∧ True) σ') (r := []) zk_54_19 rfl rfl rfl rfl rfl rfl (Or.inr ⟨_, _, _, _, rfl, vd_29, rfl⟩) (fun σ' h => (w_55   σ' h.1.1 ).le (Nat.le_of_ble_eq_true rfl) (fun v σ2 ⟨y, h1, h2, h3, h4⟩ => ⟨y, h1, h2, h.1.tr h3 (fun _ _ _ _ h => h), trivial⟩)) (pc' := 22) rfl (fun y37 => ?_)
      refine G_ex (fun hy37 => ?_)
      exact T_zret zk_54_22 rfl (by omega) (fun σ' h => ⟨_, rfl, (by omega), h.1, trivial⟩)
/-- W$LawReader.readBoth -/
theorem w_53_16 {xs : Nat × (Nat → Int32)}   (σ : ZS) (hI : Inv σ)   : CT xs 17 53 [av 29 0 0, iv 16] σ (fun v σ' => ∃ y, v = some (iv y) ∧ (y = 0 ∨ y = 1) ∧ IF MR σ σ' ∧ (True)) := by
  refine G_ct (J := (fun σ' => IF MR σ σ' ∧ True)) (L := [(0, av 29 0 0), (1, iv 16)]) (nL := 4) rfl rfl rfl ⟨IF.rf hI, trivial⟩ ?_
  refine T_ld zk_53_0 rfl rfl rfl (pc' := 1) rfl ?_
  refine T_ld zk_53_1 rfl rfl rfl (pc' := 2) rfl ?_
  refine T_calli (K := fun y1 σ' => (y1 = 0 ∨ y1 = 1) ∧ (fun σ' => IF MR σ σ' ∧ True) σ') (r := []) zk_53_2 rfl rfl rfl rfl rfl rfl (Or.inr ⟨_, _, _, _, rfl, vd_29, rfl⟩) (fun σ' h => (w_54_16   σ' h.1.1 ).le (Nat.le_of_ble_eq_true rfl) (fun v σ2 ⟨y, h1, h2, h3, h4⟩ => ⟨y, h1, h2, h.1.tr h3 (fun _ _ _ _ h => h), trivial⟩)) (pc' := 5) rfl (fun y1 => ?_)
  refine G_ex (fun hy1 => ?_)
  refine T_st (L' := [(0, av 29 0 0), (1, iv 16), (2, iv y1)]) zk_53_5 (nL := 4) rfl rfl rfl rfl rfl (pc' := 6) rfl ?_
  refine T_op zk_53_6 rfl X_ic (pc' := 7) rfl ?_
  refine T_st (L' := [(0, av 29 0 0), (1, iv 16), (2, iv y1), (3, iv 0)]) zk_53_7 (nL := 4) rfl rfl rfl rfl rfl (pc' := 8) rfl ?_
  refine T_loop2 (fun x2 x3 => ((96 - x3 : Int)).toNat) (fun x2 x3 => (0 ≤ x2 ∧ x2 ≤ 1) ∧ (0 ≤ x3 ∧ x3 ≤ 96)) (fun x2 x3 => TJ xs (fun σ' => IF MR σ σ' ∧ True) 16 53 8 [(0, av 29 0 0), (1, iv 16), (2, iv x2), (3, iv x3)] [] _) ?_ y1 0 (by omega)
  intro x2 x3 hp5 ih4
  refine T_ld zk_53_8 rfl rfl rfl (pc' := 9) rfl ?_
  refine T_op zk_53_9 rfl (X_bi (v := 96) (by decide)) (pc' := 11) rfl ?_
  refine T_icmp_ge zk_53_11 (by omega) (by omega) (pc' := 14) rfl (fun h6 => ?_) (fun h7 => ?_)
  ·
    refine T_ld zk_53_48 rfl rfl rfl (pc' := 49) rfl ?_
    exact T_zret zk_53_49 rfl (by omega) (fun σ' h => ⟨_, rfl, (by omega), h.1, trivial⟩)
  ·
    refine T_ld zk_53_14 rfl rfl rfl (pc' := 15) rfl ?_
    refine T_if_eq zk_53_15 (by omega) (pc' := 18) rfl (fun h8 => ?_) (fun h9 => ?_)
    ·
      refine T_ld zk_53_48 rfl rfl rfl (pc' := 49) rfl ?_
      exact T_zret zk_53_49 rfl (by omega) (fun σ' h => ⟨_, rfl, (by omega), h.1, trivial⟩)
    ·
      refine T_ld zk_53_18 rfl rfl rfl (pc' := 19) rfl ?_
      refine T_op zk_53_19 rfl (X_bi (v := 38) (by decide)) (pc' := 21) rfl ?_
      refine T_calli (K := fun y10 σ' => (y10 = 0 ∨ y10 = 1) ∧ (fun σ' => IF MR σ σ' ∧ True) σ') (r := []) zk_53_21 rfl rfl rfl rfl rfl rfl (Or.inr ⟨_, _, _, _, rfl, vd_29, rfl⟩) (fun σ' h => (w_50 38 (by omega) σ' h.1.1 ).le (Nat.le_of_ble_eq_true rfl) (fun v σ2 ⟨y, h1, h2, h3, h4⟩ => ⟨y, h1, h2, h.1.tr h3 (fun _ _ _ _ h => h), trivial⟩)) (pc' := 24) rfl (fun y10 => ?_)
      refine G_ex (fun hy10 => ?_)
      refine T_if_eq zk_53_24 (by omega) (pc' := 27) rfl (fun h11 => ?_) (fun h12 => ?_)
      ·
        refine T_ld zk_53_48 rfl rfl rfl (pc' := 49) rfl ?_
        exact T_zret zk_53_49 rfl (by omega) (fun σ' h => ⟨_, rfl, (by omega), h.1, trivial⟩)
      ·
        refine T_ld zk_53_27 rfl rfl rfl (pc' := 28) rfl ?_
        refine T_ld zk_53_28 rfl rfl rfl (pc' := 29) rfl ?_
        refine T_calli (K := fun y13 σ' => (y13 = 0 ∨ y13 = 1) ∧ (fun σ' => IF MR σ σ' ∧ True) σ') (r := []) zk_53_29 rfl rfl rfl rfl rfl rfl (Or.inr ⟨_, _, _, _, rfl, vd_29, rfl⟩) (fun σ' h => (w_54_16   σ' h.1.1 ).le (Nat.le_of_ble_eq_true rfl) (fun v σ2 ⟨y, h1, h2, h3, h4⟩ => ⟨y, h1, h2, h.1.tr h3 (fun _ _ _ _ h => h), trivial⟩)) (pc' := 32) rfl (fun y13 => ?_)
        refine G_ex (fun hy13 => ?_)
        refine T_st (L' := [(0, av 29 0 0), (1, iv 16), (2, iv y13), (3, iv x3)]) zk_53_32 (nL := 4) rfl rfl rfl rfl rfl (pc' := 33) rfl ?_
        refine T_ld zk_53_33 rfl rfl rfl (pc' := 34) rfl ?_
        refine T_getR (t' := 30) (i' := 0) (k' := 0) zk_53_34 rfl rfl rfl vd_29 (pc' := 37) rfl ?_
        refine T_op zk_53_37 rfl (X_bi (v := -2) (by decide)) (pc' := 39) rfl ?_
        refine T_callv (J' := (fun σ' => IF MR σ σ' ∧ True)) (r := []) zk_53_39 rfl rfl rfl rfl rfl rfl (Or.inr ⟨_, _, _, _, rfl, vd_30, rfl⟩) (fun σ' h => (w_42 ((-2)) (by omega) σ' h.1.1 ).le (Nat.le_of_ble_eq_true rfl) (fun v σ2 ⟨h1, h3, h4⟩ => ⟨h1, h.1.tr h3 (fun _ _ _ _ h => h), trivial⟩)) (pc' := 42) rfl ?_
        refine T_iinc (L' := [(0, av 29 0 0), (1, iv 16), (2, iv y13), (3, iv (x3 + 1))]) zk_53_42 (nL := 4) rfl rfl rfl rfl (pc' := 45) rfl ?_
        refine T_goto zk_53_45 ?_
        exact ih4 y13 (x3 + 1) (by omega) (by omega)
/-- W$LawReader.readEither -/
theorem w_52_16 {xs : Nat × (Nat → Int32)}   (σ : ZS) (hI : Inv σ)   : CT xs 18 52 [av 29 0 0, iv 16] σ (fun v σ' => ∃ y, v = some (iv y) ∧ (y = 0 ∨ y = 1) ∧ IF MR σ σ' ∧ (True)) := by
  refine G_ct (J := (fun σ' => IF MR σ σ' ∧ True)) (L := [(0, av 29 0 0), (1, iv 16)]) (nL := 4) rfl rfl rfl ⟨IF.rf hI, trivial⟩ ?_
  refine T_ld zk_52_0 rfl rfl rfl (pc' := 1) rfl ?_
  refine T_ld zk_52_1 rfl rfl rfl (pc' := 2) rfl ?_
  refine T_calli (K := fun y1 σ' => (y1 = 0 ∨ y1 = 1) ∧ (fun σ' => IF MR σ σ' ∧ True) σ') (r := []) zk_52_2 rfl rfl rfl rfl rfl rfl (Or.inr ⟨_, _, _, _, rfl, vd_29, rfl⟩) (fun σ' h => (w_53_16   σ' h.1.1 ).le (Nat.le_of_ble_eq_true rfl) (fun v σ2 ⟨y, h1, h2, h3, h4⟩ => ⟨y, h1, h2, h.1.tr h3 (fun _ _ _ _ h => h), trivial⟩)) (pc' := 5) rfl (fun y1 => ?_)
  refine G_ex (fun hy1 => ?_)
  refine T_st (L' := [(0, av 29 0 0), (1, iv 16), (2, iv y1)]) zk_52_5 (nL := 4) rfl rfl rfl rfl rfl (pc' := 6) rfl ?_
  refine T_op zk_52_6 rfl X_ic (pc' := 7) rfl ?_
  refine T_st (L' := [(0, av 29 0 0), (1, iv 16), (2, iv y1), (3, iv 0)]) zk_52_7 (nL := 4) rfl rfl rfl rfl rfl (pc' := 8) rfl ?_
  refine T_loop2 (fun x2 x3 => ((96 - x3 : Int)).toNat) (fun x2 x3 => (0 ≤ x2 ∧ x2 ≤ 1) ∧ (0 ≤ x3 ∧ x3 ≤ 96)) (fun x2 x3 => TJ xs (fun σ' => IF MR σ σ' ∧ True) 17 52 8 [(0, av 29 0 0), (1, iv 16), (2, iv x2), (3, iv x3)] [] _) ?_ y1 0 (by omega)
  intro x2 x3 hp5 ih4
  refine T_ld zk_52_8 rfl rfl rfl (pc' := 9) rfl ?_
  refine T_op zk_52_9 rfl (X_bi (v := 96) (by decide)) (pc' := 11) rfl ?_
  refine T_icmp_ge zk_52_11 (by omega) (by omega) (pc' := 14) rfl (fun h6 => ?_) (fun h7 => ?_)
  ·
    refine T_ld zk_52_48 rfl rfl rfl (pc' := 49) rfl ?_
    exact T_zret zk_52_49 rfl (by omega) (fun σ' h => ⟨_, rfl, (by omega), h.1, trivial⟩)
  ·
    refine T_ld zk_52_14 rfl rfl rfl (pc' := 15) rfl ?_
    refine T_if_eq zk_52_15 (by omega) (pc' := 18) rfl (fun h8 => ?_) (fun h9 => ?_)
    ·
      refine T_ld zk_52_48 rfl rfl rfl (pc' := 49) rfl ?_
      exact T_zret zk_52_49 rfl (by omega) (fun σ' h => ⟨_, rfl, (by omega), h.1, trivial⟩)
    ·
      refine T_ld zk_52_18 rfl rfl rfl (pc' := 19) rfl ?_
      refine T_op zk_52_19 rfl (X_bi (v := 124) (by decide)) (pc' := 21) rfl ?_
      refine T_calli (K := fun y10 σ' => (y10 = 0 ∨ y10 = 1) ∧ (fun σ' => IF MR σ σ' ∧ True) σ') (r := []) zk_52_21 rfl rfl rfl rfl rfl rfl (Or.inr ⟨_, _, _, _, rfl, vd_29, rfl⟩) (fun σ' h => (w_50 124 (by omega) σ' h.1.1 ).le (Nat.le_of_ble_eq_true rfl) (fun v σ2 ⟨y, h1, h2, h3, h4⟩ => ⟨y, h1, h2, h.1.tr h3 (fun _ _ _ _ h => h), trivial⟩)) (pc' := 24) rfl (fun y10 => ?_)
      refine G_ex (fun hy10 => ?_)
      refine T_if_eq zk_52_24 (by omega) (pc' := 27) rfl (fun h11 => ?_) (fun h12 => ?_)
      ·
        refine T_ld zk_52_48 rfl rfl rfl (pc' := 49) rfl ?_
        exact T_zret zk_52_49 rfl (by omega) (fun σ' h => ⟨_, rfl, (by omega), h.1, trivial⟩)
      ·
        refine T_ld zk_52_27 rfl rfl rfl (pc' := 28) rfl ?_
        refine T_ld zk_52_28 rfl rfl rfl (pc' := 29) rfl ?_
        refine T_calli (K := fun y13 σ' => (y13 = 0 ∨ y13 = 1) ∧ (fun σ' => IF MR σ σ' ∧ True) σ') (r := []) zk_52_29 rfl rfl rfl rfl rfl rfl (Or.inr ⟨_, _, _, _, rfl, vd_29, rfl⟩) (fun σ' h => (w_53_16   σ' h.1.1 ).le (Nat.le_of_ble_eq_true rfl) (fun v σ2 ⟨y, h1, h2, h3, h4⟩ => ⟨y, h1, h2, h.1.tr h3 (fun _ _ _ _ h => h), trivial⟩)) (pc' := 32) rfl (fun y13 => ?_)
        refine G_ex (fun hy13 => ?_)
        refine T_st (L' := [(0, av 29 0 0), (1, iv 16), (2, iv y13), (3, iv x3)]) zk_52_32 (nL := 4) rfl rfl rfl rfl rfl (pc' := 33) rfl ?_
        refine T_ld zk_52_33 rfl rfl rfl (pc' := 34) rfl ?_
        refine T_getR (t' := 30) (i' := 0) (k' := 0) zk_52_34 rfl rfl rfl vd_29 (pc' := 37) rfl ?_
        refine T_op zk_52_37 rfl (X_bi (v := -3) (by decide)) (pc' := 39) rfl ?_
        refine T_callv (J' := (fun σ' => IF MR σ σ' ∧ True)) (r := []) zk_52_39 rfl rfl rfl rfl rfl rfl (Or.inr ⟨_, _, _, _, rfl, vd_30, rfl⟩) (fun σ' h => (w_42 ((-3)) (by omega) σ' h.1.1 ).le (Nat.le_of_ble_eq_true rfl) (fun v σ2 ⟨h1, h3, h4⟩ => ⟨h1, h.1.tr h3 (fun _ _ _ _ h => h), trivial⟩)) (pc' := 42) rfl ?_
        refine T_iinc (L' := [(0, av 29 0 0), (1, iv 16), (2, iv y13), (3, iv (x3 + 1))]) zk_52_42 (nL := 4) rfl rfl rfl rfl (pc' := 45) rfl ?_
        refine T_goto zk_52_45 ?_
        exact ih4 y13 (x3 + 1) (by omega) (by omega)
/-- W$LawReader.readPart -/
theorem w_54_15 {xs : Nat × (Nat → Int32)}   (σ : ZS) (hI : Inv σ)   : CT xs 19 54 [av 29 0 0, iv 15] σ (fun v σ' => ∃ y, v = some (iv y) ∧ (y = 0 ∨ y = 1) ∧ IF MR σ σ' ∧ (True)) := by
  refine G_ct (J := (fun σ' => IF MR σ σ' ∧ True)) (L := [(0, av 29 0 0), (1, iv 15)]) (nL := 3) rfl rfl rfl ⟨IF.rf hI, trivial⟩ ?_
  refine T_ld zk_54_0 rfl rfl rfl (pc' := 1) rfl ?_
  refine T_calli (K := fun y1 σ' => (-2147483648 ≤ y1 ∧ y1 ≤ 2147483647) ∧ (fun σ' => IF MR σ σ' ∧ True) σ') (r := []) zk_54_1 rfl rfl rfl rfl rfl rfl (Or.inr ⟨_, _, _, _, rfl, vd_29, rfl⟩) (fun σ' h => (w_49   σ' h.1.1 ).le (Nat.le_of_ble_eq_true rfl) (fun v σ2 ⟨y, h1, h2, h3, h4⟩ => ⟨y, h1, h2, h.1.tr h3 MN_sub, trivial⟩)) (pc' := 4) rfl (fun y1 => ?_)
  refine G_ex (fun hy1 => ?_)
  refine T_op zk_54_4 rfl (X_bi (v := 33) (by decide)) (pc' := 6) rfl ?_
  refine T_icmp_eq zk_54_6 (by omega) (by omega) (pc' := 9) rfl (fun h2 => ?_) (fun h3 => ?_)
  ·
    refine T_ld zk_54_23 rfl rfl rfl (pc' := 24) rfl ?_
    refine T_op zk_54_24 rfl (X_bi (v := 20) (by decide)) (pc' := 26) rfl ?_
    refine T_icmp_lt zk_54_26 (by omega) (by omega) (pc' := 29) rfl (fun h4 => ?_) (fun h5 => ?_)
    ·
      refine T_ld zk_54_31 rfl rfl rfl (pc' := 32) rfl ?_
      refine T_op zk_54_32 rfl (X_bi (v := 40) (by decide)) (pc' := 34) rfl ?_
      refine T_calli (K := fun y6 σ' => (y6 = 0 ∨ y6 = 1) ∧ (fun σ' => IF MR σ σ' ∧ True) σ') (r := []) zk_54_34 rfl rfl rfl rfl rfl rfl (Or.inr ⟨_, _, _, _, rfl, vd_29, rfl⟩) (fun σ' h => (w_50 40 (by omega) σ' h.1.1 ).le (Nat.le_of_ble_eq_true rfl) (fun v σ2 ⟨y, h1, h2, h3, h4⟩ => ⟨y, h1, h2, h.1.tr h3 (fun _ _ _ _ h => h), trivial⟩)) (pc' := 37) rfl (fun y6 => ?_)
      refine G_ex (fun hy6 => ?_)
      refine T_if_eq zk_54_37 (by omega) (pc' := 40) rfl (fun h7 => ?_) (fun h8 => ?_)
      ·
        refine T_ld zk_54_65 rfl rfl rfl (pc' := 66) rfl ?_
        refine T_op (st' := [av 29 0 0, av 29 0 0]) zk_54_66 rfl rfl (pc' := 67) rfl ?_
        refine G_getf (lo := -2147483648) (hi := 2147483647) zk_54_67 rfl vd_29 (fun σ' h => h.1.1) (fun _ h => (by have q := h.1; omega)) (pc' := 70) rfl (fun y9 hy9 hy9' => ?_)
        refine T_op zk_54_70 rfl X_ic (pc' := 71) rfl ?_
        refine G_unk zk_54_71 rfl (pc' := 72) rfl (fun y10 hy10 hy10' => ?_)
        refine T_putf (J' := (fun σ' => IF MR σ σ' ∧ σ' 29 0 0 3 = y10 ∧ True)) zk_54_72 rfl rfl vd_29 (fun σ' h => ⟨h.1.up (by simp only [rgP] <;> omega) (by first | exact pMR rfl | (unfold MR; omega)), up_eq, trivial⟩) (pc' := 75) rfl ?_
        refine T_ld zk_54_75 rfl rfl rfl (pc' := 76) rfl ?_
        refine T_ld zk_54_76 rfl rfl rfl (pc' := 77) rfl ?_
        refine T_op zk_54_77 rfl X_ic (pc' := 78) rfl ?_
        refine T_opc (w := 16) zk_54_78 rfl X_add (by omega) (pc' := 79) rfl ?_
        refine T_calli (K := fun y11 σ' => (y11 = 0 ∨ y11 = 1) ∧ (fun σ' => IF MR σ σ' ∧ True) σ') (r := []) zk_54_79 rfl rfl rfl rfl rfl rfl (Or.inr ⟨_, _, _, _, rfl, vd_29, rfl⟩) (fun σ' h => (w_54_16   σ' h.1.1 ).le (Nat.le_of_ble_eq_true rfl) (fun v σ2 ⟨y, h1, h2, h3, h4⟩ => ⟨y, h1, h2, h.1.tr h3 (fun _ _ _ _ h => h), trivial⟩)) (pc' := 82) rfl (fun y11 => ?_)
        refine G_ex (fun hy11 => ?_)
        refine T_st (L' := [(0, av 29 0 0), (1, iv 15), (2, iv y11)]) zk_54_82 (nL := 3) rfl rfl rfl rfl rfl (pc' := 83) rfl ?_
        refine T_ld zk_54_83 rfl rfl rfl (pc' := 84) rfl ?_
        refine T_getR (t' := 30) (i' := 0) (k' := 0) zk_54_84 rfl rfl rfl vd_29 (pc' := 87) rfl ?_
        refine T_op zk_54_87 rfl X_ic (pc' := 88) rfl ?_
        refine T_callv (J' := (fun σ' => IF MR σ σ' ∧ True)) (r := []) zk_54_88 rfl rfl rfl rfl rfl rfl (Or.inr ⟨_, _, _, _, rfl, vd_30, rfl⟩) (fun σ' h => (w_42 ((-1)) (by omega) σ' h.1.1 ).le (Nat.le_of_ble_eq_true rfl) (fun v σ2 ⟨h1, h3, h4⟩ => ⟨h1, h.1.tr h3 (fun _ _ _ _ h => h), trivial⟩)) (pc' := 91) rfl ?_
        refine T_ld zk_54_91 rfl rfl rfl (pc' := 92) rfl ?_
        exact T_zret zk_54_92 rfl (by omega) (fun σ' h => ⟨_, rfl, (by omega), h.1, trivial⟩)
      ·
        refine T_ld zk_54_40 rfl rfl rfl (pc' := 41) rfl ?_
        refine T_ld zk_54_41 rfl rfl rfl (pc' := 42) rfl ?_
        refine T_op zk_54_42 rfl X_ic (pc' := 43) rfl ?_
        refine T_opc (w := 16) zk_54_43 rfl X_add (by omega) (pc' := 44) rfl ?_
        refine T_calli (K := fun y13 σ' => (y13 = 0 ∨ y13 = 1) ∧ (fun σ' => IF MR σ σ' ∧ True) σ') (r := []) zk_54_44 rfl rfl rfl rfl rfl rfl (Or.inr ⟨_, _, _, _, rfl, vd_29, rfl⟩) (fun σ' h => (w_52_16   σ' h.1.1 ).le (Nat.le_of_ble_eq_true rfl) (fun v σ2 ⟨y, h1, h2, h3, h4⟩ => ⟨y, h1, h2, h.1.tr h3 (fun _ _ _ _ h => h), trivial⟩)) (pc' := 47) rfl (fun y13 => ?_)
        refine G_ex (fun hy13 => ?_)
        refine T_if_eq zk_54_47 (by omega) (pc' := 50) rfl (fun h14 => ?_) (fun h15 => ?_)
        ·
          refine T_op zk_54_63 rfl X_ic (pc' := 64) rfl ?_
          exact T_zret zk_54_64 rfl (by omega) (fun σ' h => ⟨_, rfl, (by omega), h.1, trivial⟩)
        ·
          refine T_ld zk_54_50 rfl rfl rfl (pc' := 51) rfl ?_
          refine T_op zk_54_51 rfl (X_bi (v := 41) (by decide)) (pc' := 53) rfl ?_
          refine T_calli (K := fun y16 σ' => (y16 = 0 ∨ y16 = 1) ∧ (fun σ' => IF MR σ σ' ∧ True) σ') (r := []) zk_54_53 rfl rfl rfl rfl rfl rfl (Or.inr ⟨_, _, _, _, rfl, vd_29, rfl⟩) (fun σ' h => (w_50 41 (by omega) σ' h.1.1 ).le (Nat.le_of_ble_eq_true rfl) (fun v σ2 ⟨y, h1, h2, h3, h4⟩ => ⟨y, h1, h2, h.1.tr h3 (fun _ _ _ _ h => h), trivial⟩)) (pc' := 56) rfl (fun y16 => ?_)
          refine G_ex (fun hy16 => ?_)
          refine T_if_eq zk_54_56 (by omega) (pc' := 59) rfl (fun h17 => ?_) (fun h18 => ?_)
          ·
            refine T_op zk_54_63 rfl X_ic (pc' := 64) rfl ?_
            exact T_zret zk_54_64 rfl (by omega) (fun σ' h => ⟨_, rfl, (by omega), h.1, trivial⟩)
          ·
            refine T_op zk_54_59 rfl X_ic (pc' := 60) rfl ?_
            refine T_goto zk_54_60 ?_
            exact T_zret zk_54_64 rfl (by omega) (fun σ' h => ⟨_, rfl, (by omega), h.1, trivial⟩)
    · exfalso; omega
  ·
    refine T_ld zk_54_9 rfl rfl rfl (pc' := 10) rfl ?_
    refine T_calli (K := fun y19 σ' => (-2147483648 ≤ y19 ∧ y19 ≤ 2147483647) ∧ (fun σ' => IF MR σ σ' ∧ True) σ') (r := []) zk_54_10 rfl rfl rfl rfl rfl rfl (Or.inr ⟨_, _, _, _, rfl, vd_29, rfl⟩) (fun σ' h => (w_49   σ' h.1.1 ).le (Nat.le_of_ble_eq_true rfl) (fun v σ2 ⟨y, h1, h2, h3, h4⟩ => ⟨y, h1, h2, h.1.tr h3 MN_sub, trivial⟩)) (pc' := 13) rfl (fun y19 => ?_)
    refine G_ex (fun hy19 => ?_)
    refine T_op zk_54_13 rfl (X_bi (v := 40) (by decide)) (pc' := 15) rfl ?_
    refine T_icmp_eq zk_54_15 (by omega) (by omega) (pc' := 18) rfl (fun h20 => ?_) (fun h21 => ?_)
    ·
      refine T_ld zk_54_23 rfl rfl rfl (pc' := 24) rfl ?_
      refine T_op zk_54_24 rfl (X_bi (v := 20) (by decide)) (pc' := 26) rfl ?_
      refine T_icmp_lt zk_54_26 (by omega) (by omega) (pc' := 29) rfl (fun h22 => ?_) (fun h23 => ?_)
      ·
        refine T_ld zk_54_31 rfl rfl rfl (pc' := 32) rfl ?_
        refine T_op zk_54_32 rfl (X_bi (v := 40) (by decide)) (pc' := 34) rfl ?_
        refine T_calli (K := fun y24 σ' => (y24 = 0 ∨ y24 = 1) ∧ (fun σ' => IF MR σ σ' ∧ True) σ') (r := []) zk_54_34 rfl rfl rfl rfl rfl rfl (Or.inr ⟨_, _, _, _, rfl, vd_29, rfl⟩) (fun σ' h => (w_50 40 (by omega) σ' h.1.1 ).le (Nat.le_of_ble_eq_true rfl) (fun v σ2 ⟨y, h1, h2, h3, h4⟩ => ⟨y, h1, h2, h.1.tr h3 (fun _ _ _ _ h => h), trivial⟩)) (pc' := 37) rfl (fun y24 => ?_)
        refine G_ex (fun hy24 => ?_)
        refine T_if_eq zk_54_37 (by omega) (pc' := 40) rfl (fun h25 => ?_) (fun h26 => ?_)
        ·
          refine T_ld zk_54_65 rfl rfl rfl (pc' := 66) rfl ?_
          refine T_op (st' := [av 29 0 0, av 29 0 0]) zk_54_66 rfl rfl (pc' := 67) rfl ?_
          refine G_getf (lo := -2147483648) (hi := 2147483647) zk_54_67 rfl vd_29 (fun σ' h => h.1.1) (fun _ h => (by have q := h.1; omega)) (pc' := 70) rfl (fun y27 hy27 hy27' => ?_)
          refine T_op zk_54_70 rfl X_ic (pc' := 71) rfl ?_
          refine G_unk zk_54_71 rfl (pc' := 72) rfl (fun y28 hy28 hy28' => ?_)
          refine T_putf (J' := (fun σ' => IF MR σ σ' ∧ σ' 29 0 0 3 = y28 ∧ True)) zk_54_72 rfl rfl vd_29 (fun σ' h => ⟨h.1.up (by simp only [rgP] <;> omega) (by first | exact pMR rfl | (unfold MR; omega)), up_eq, trivial⟩) (pc' := 75) rfl ?_
          refine T_ld zk_54_75 rfl rfl rfl (pc' := 76) rfl ?_
          refine T_ld zk_54_76 rfl rfl rfl (pc' := 77) rfl ?_
          refine T_op zk_54_77 rfl X_ic (pc' := 78) rfl ?_
          refine T_opc (w := 16) zk_54_78 rfl X_add (by omega) (pc' := 79) rfl ?_
          refine T_calli (K := fun y29 σ' => (y29 = 0 ∨ y29 = 1) ∧ (fun σ' => IF MR σ σ' ∧ True) σ') (r := []) zk_54_79 rfl rfl rfl rfl rfl rfl (Or.inr ⟨_, _, _, _, rfl, vd_29, rfl⟩) (fun σ' h => (w_54_16   σ' h.1.1 ).le (Nat.le_of_ble_eq_true rfl) (fun v σ2 ⟨y, h1, h2, h3, h4⟩ => ⟨y, h1, h2, h.1.tr h3 (fun _ _ _ _ h => h), trivial⟩)) (pc' := 82) rfl (fun y29 => ?_)
          refine G_ex (fun hy29 => ?_)
          refine T_st (L' := [(0, av 29 0 0), (1, iv 15), (2, iv y29)]) zk_54_82 (nL := 3) rfl rfl rfl rfl rfl (pc' := 83) rfl ?_
          refine T_ld zk_54_83 rfl rfl rfl (pc' := 84) rfl ?_
          refine T_getR (t' := 30) (i' := 0) (k' := 0) zk_54_84 rfl rfl rfl vd_29 (pc' := 87) rfl ?_
          refine T_op zk_54_87 rfl X_ic (pc' := 88) rfl ?_
          refine T_callv (J' := (fun σ' => IF MR σ σ' ∧ True)) (r := []) zk_54_88 rfl rfl rfl rfl rfl rfl (Or.inr ⟨_, _, _, _, rfl, vd_30, rfl⟩) (fun σ' h => (w_42 ((-1)) (by omega) σ' h.1.1 ).le (Nat.le_of_ble_eq_true rfl) (fun v σ2 ⟨h1, h3, h4⟩ => ⟨h1, h.1.tr h3 (fun _ _ _ _ h => h), trivial⟩)) (pc' := 91) rfl ?_
          refine T_ld zk_54_91 rfl rfl rfl (pc' := 92) rfl ?_
          exact T_zret zk_54_92 rfl (by omega) (fun σ' h => ⟨_, rfl, (by omega), h.1, trivial⟩)
        ·
          refine T_ld zk_54_40 rfl rfl rfl (pc' := 41) rfl ?_
          refine T_ld zk_54_41 rfl rfl rfl (pc' := 42) rfl ?_
          refine T_op zk_54_42 rfl X_ic (pc' := 43) rfl ?_
          refine T_opc (w := 16) zk_54_43 rfl X_add (by omega) (pc' := 44) rfl ?_
          refine T_calli (K := fun y31 σ' => (y31 = 0 ∨ y31 = 1) ∧ (fun σ' => IF MR σ σ' ∧ True) σ') (r := []) zk_54_44 rfl rfl rfl rfl rfl rfl (Or.inr ⟨_, _, _, _, rfl, vd_29, rfl⟩) (fun σ' h => (w_52_16   σ' h.1.1 ).le (Nat.le_of_ble_eq_true rfl) (fun v σ2 ⟨y, h1, h2, h3, h4⟩ => ⟨y, h1, h2, h.1.tr h3 (fun _ _ _ _ h => h), trivial⟩)) (pc' := 47) rfl (fun y31 => ?_)
          refine G_ex (fun hy31 => ?_)
          refine T_if_eq zk_54_47 (by omega) (pc' := 50) rfl (fun h32 => ?_) (fun h33 => ?_)
          ·
            refine T_op zk_54_63 rfl X_ic (pc' := 64) rfl ?_
            exact T_zret zk_54_64 rfl (by omega) (fun σ' h => ⟨_, rfl, (by omega), h.1, trivial⟩)
          ·
            refine T_ld zk_54_50 rfl rfl rfl (pc' := 51) rfl ?_
            refine T_op zk_54_51 rfl (X_bi (v := 41) (by decide)) (pc' := 53) rfl ?_
            refine T_calli (K := fun y34 σ' => (y34 = 0 ∨ y34 = 1) ∧ (fun σ' => IF MR σ σ' ∧ True) σ') (r := []) zk_54_53 rfl rfl rfl rfl rfl rfl (Or.inr ⟨_, _, _, _, rfl, vd_29, rfl⟩) (fun σ' h => (w_50 41 (by omega) σ' h.1.1 ).le (Nat.le_of_ble_eq_true rfl) (fun v σ2 ⟨y, h1, h2, h3, h4⟩ => ⟨y, h1, h2, h.1.tr h3 (fun _ _ _ _ h => h), trivial⟩)) (pc' := 56) rfl (fun y34 => ?_)
            refine G_ex (fun hy34 => ?_)
            refine T_if_eq zk_54_56 (by omega) (pc' := 59) rfl (fun h35 => ?_) (fun h36 => ?_)
            ·
              refine T_op zk_54_63 rfl X_ic (pc' := 64) rfl ?_
              exact T_zret zk_54_64 rfl (by omega) (fun σ' h => ⟨_, rfl, (by omega), h.1, trivial⟩)
            ·
              refine T_op zk_54_59 rfl X_ic (pc' := 60) rfl ?_
              refine T_goto zk_54_60 ?_
              exact T_zret zk_54_64 rfl (by omega) (fun σ' h => ⟨_, rfl, (by omega), h.1, trivial⟩)
      · exfalso; omega
    ·
      refine T_ld zk_54_18 rfl rfl rfl (pc' := 19) rfl ?_
      refine T_calli (K := fun y37 σ' => (y37 = 0 ∨ y37 = 1) ∧ (fun σ' => IF MR σ σ' ∧ True) σ') (r := []) zk_54_19 rfl rfl rfl rfl rfl rfl (Or.inr ⟨_, _, _, _, rfl, vd_29, rfl⟩) (fun σ' h => (w_55   σ' h.1.1 ).le (Nat.le_of_ble_eq_true rfl) (fun v σ2 ⟨y, h1, h2, h3, h4⟩ => ⟨y, h1, h2, h.1.tr h3 (fun _ _ _ _ h => h), trivial⟩)) (pc' := 22) rfl (fun y37 => ?_)
      refine G_ex (fun hy37 => ?_)
      exact T_zret zk_54_22 rfl (by omega) (fun σ' h => ⟨_, rfl, (by omega), h.1, trivial⟩)
/-- W$LawReader.readBoth -/
theorem w_53_15 {xs : Nat × (Nat → Int32)}   (σ : ZS) (hI : Inv σ)   : CT xs 20 53 [av 29 0 0, iv 15] σ (fun v σ' => ∃ y, v = some (iv y) ∧ (y = 0 ∨ y = 1) ∧ IF MR σ σ' ∧ (True)) := by
  refine G_ct (J := (fun σ' => IF MR σ σ' ∧ True)) (L := [(0, av 29 0 0), (1, iv 15)]) (nL := 4) rfl rfl rfl ⟨IF.rf hI, trivial⟩ ?_
  refine T_ld zk_53_0 rfl rfl rfl (pc' := 1) rfl ?_
  refine T_ld zk_53_1 rfl rfl rfl (pc' := 2) rfl ?_
  refine T_calli (K := fun y1 σ' => (y1 = 0 ∨ y1 = 1) ∧ (fun σ' => IF MR σ σ' ∧ True) σ') (r := []) zk_53_2 rfl rfl rfl rfl rfl rfl (Or.inr ⟨_, _, _, _, rfl, vd_29, rfl⟩) (fun σ' h => (w_54_15   σ' h.1.1 ).le (Nat.le_of_ble_eq_true rfl) (fun v σ2 ⟨y, h1, h2, h3, h4⟩ => ⟨y, h1, h2, h.1.tr h3 (fun _ _ _ _ h => h), trivial⟩)) (pc' := 5) rfl (fun y1 => ?_)
  refine G_ex (fun hy1 => ?_)
  refine T_st (L' := [(0, av 29 0 0), (1, iv 15), (2, iv y1)]) zk_53_5 (nL := 4) rfl rfl rfl rfl rfl (pc' := 6) rfl ?_
  refine T_op zk_53_6 rfl X_ic (pc' := 7) rfl ?_
  refine T_st (L' := [(0, av 29 0 0), (1, iv 15), (2, iv y1), (3, iv 0)]) zk_53_7 (nL := 4) rfl rfl rfl rfl rfl (pc' := 8) rfl ?_
  refine T_loop2 (fun x2 x3 => ((96 - x3 : Int)).toNat) (fun x2 x3 => (0 ≤ x2 ∧ x2 ≤ 1) ∧ (0 ≤ x3 ∧ x3 ≤ 96)) (fun x2 x3 => TJ xs (fun σ' => IF MR σ σ' ∧ True) 19 53 8 [(0, av 29 0 0), (1, iv 15), (2, iv x2), (3, iv x3)] [] _) ?_ y1 0 (by omega)
  intro x2 x3 hp5 ih4
  refine T_ld zk_53_8 rfl rfl rfl (pc' := 9) rfl ?_
  refine T_op zk_53_9 rfl (X_bi (v := 96) (by decide)) (pc' := 11) rfl ?_
  refine T_icmp_ge zk_53_11 (by omega) (by omega) (pc' := 14) rfl (fun h6 => ?_) (fun h7 => ?_)
  ·
    refine T_ld zk_53_48 rfl rfl rfl (pc' := 49) rfl ?_
    exact T_zret zk_53_49 rfl (by omega) (fun σ' h => ⟨_, rfl, (by omega), h.1, trivial⟩)
  ·
    refine T_ld zk_53_14 rfl rfl rfl (pc' := 15) rfl ?_
    refine T_if_eq zk_53_15 (by omega) (pc' := 18) rfl (fun h8 => ?_) (fun h9 => ?_)
    ·
      refine T_ld zk_53_48 rfl rfl rfl (pc' := 49) rfl ?_
      exact T_zret zk_53_49 rfl (by omega) (fun σ' h => ⟨_, rfl, (by omega), h.1, trivial⟩)
    ·
      refine T_ld zk_53_18 rfl rfl rfl (pc' := 19) rfl ?_
      refine T_op zk_53_19 rfl (X_bi (v := 38) (by decide)) (pc' := 21) rfl ?_
      refine T_calli (K := fun y10 σ' => (y10 = 0 ∨ y10 = 1) ∧ (fun σ' => IF MR σ σ' ∧ True) σ') (r := []) zk_53_21 rfl rfl rfl rfl rfl rfl (Or.inr ⟨_, _, _, _, rfl, vd_29, rfl⟩) (fun σ' h => (w_50 38 (by omega) σ' h.1.1 ).le (Nat.le_of_ble_eq_true rfl) (fun v σ2 ⟨y, h1, h2, h3, h4⟩ => ⟨y, h1, h2, h.1.tr h3 (fun _ _ _ _ h => h), trivial⟩)) (pc' := 24) rfl (fun y10 => ?_)
      refine G_ex (fun hy10 => ?_)
      refine T_if_eq zk_53_24 (by omega) (pc' := 27) rfl (fun h11 => ?_) (fun h12 => ?_)
      ·
        refine T_ld zk_53_48 rfl rfl rfl (pc' := 49) rfl ?_
        exact T_zret zk_53_49 rfl (by omega) (fun σ' h => ⟨_, rfl, (by omega), h.1, trivial⟩)
      ·
        refine T_ld zk_53_27 rfl rfl rfl (pc' := 28) rfl ?_
        refine T_ld zk_53_28 rfl rfl rfl (pc' := 29) rfl ?_
        refine T_calli (K := fun y13 σ' => (y13 = 0 ∨ y13 = 1) ∧ (fun σ' => IF MR σ σ' ∧ True) σ') (r := []) zk_53_29 rfl rfl rfl rfl rfl rfl (Or.inr ⟨_, _, _, _, rfl, vd_29, rfl⟩) (fun σ' h => (w_54_15   σ' h.1.1 ).le (Nat.le_of_ble_eq_true rfl) (fun v σ2 ⟨y, h1, h2, h3, h4⟩ => ⟨y, h1, h2, h.1.tr h3 (fun _ _ _ _ h => h), trivial⟩)) (pc' := 32) rfl (fun y13 => ?_)
        refine G_ex (fun hy13 => ?_)
        refine T_st (L' := [(0, av 29 0 0), (1, iv 15), (2, iv y13), (3, iv x3)]) zk_53_32 (nL := 4) rfl rfl rfl rfl rfl (pc' := 33) rfl ?_
        refine T_ld zk_53_33 rfl rfl rfl (pc' := 34) rfl ?_
        refine T_getR (t' := 30) (i' := 0) (k' := 0) zk_53_34 rfl rfl rfl vd_29 (pc' := 37) rfl ?_
        refine T_op zk_53_37 rfl (X_bi (v := -2) (by decide)) (pc' := 39) rfl ?_
        refine T_callv (J' := (fun σ' => IF MR σ σ' ∧ True)) (r := []) zk_53_39 rfl rfl rfl rfl rfl rfl (Or.inr ⟨_, _, _, _, rfl, vd_30, rfl⟩) (fun σ' h => (w_42 ((-2)) (by omega) σ' h.1.1 ).le (Nat.le_of_ble_eq_true rfl) (fun v σ2 ⟨h1, h3, h4⟩ => ⟨h1, h.1.tr h3 (fun _ _ _ _ h => h), trivial⟩)) (pc' := 42) rfl ?_
        refine T_iinc (L' := [(0, av 29 0 0), (1, iv 15), (2, iv y13), (3, iv (x3 + 1))]) zk_53_42 (nL := 4) rfl rfl rfl rfl (pc' := 45) rfl ?_
        refine T_goto zk_53_45 ?_
        exact ih4 y13 (x3 + 1) (by omega) (by omega)
/-- W$LawReader.readEither -/
theorem w_52_15 {xs : Nat × (Nat → Int32)}   (σ : ZS) (hI : Inv σ)   : CT xs 21 52 [av 29 0 0, iv 15] σ (fun v σ' => ∃ y, v = some (iv y) ∧ (y = 0 ∨ y = 1) ∧ IF MR σ σ' ∧ (True)) := by
  refine G_ct (J := (fun σ' => IF MR σ σ' ∧ True)) (L := [(0, av 29 0 0), (1, iv 15)]) (nL := 4) rfl rfl rfl ⟨IF.rf hI, trivial⟩ ?_
  refine T_ld zk_52_0 rfl rfl rfl (pc' := 1) rfl ?_
  refine T_ld zk_52_1 rfl rfl rfl (pc' := 2) rfl ?_
  refine T_calli (K := fun y1 σ' => (y1 = 0 ∨ y1 = 1) ∧ (fun σ' => IF MR σ σ' ∧ True) σ') (r := []) zk_52_2 rfl rfl rfl rfl rfl rfl (Or.inr ⟨_, _, _, _, rfl, vd_29, rfl⟩) (fun σ' h => (w_53_15   σ' h.1.1 ).le (Nat.le_of_ble_eq_true rfl) (fun v σ2 ⟨y, h1, h2, h3, h4⟩ => ⟨y, h1, h2, h.1.tr h3 (fun _ _ _ _ h => h), trivial⟩)) (pc' := 5) rfl (fun y1 => ?_)
  refine G_ex (fun hy1 => ?_)
  refine T_st (L' := [(0, av 29 0 0), (1, iv 15), (2, iv y1)]) zk_52_5 (nL := 4) rfl rfl rfl rfl rfl (pc' := 6) rfl ?_
  refine T_op zk_52_6 rfl X_ic (pc' := 7) rfl ?_
  refine T_st (L' := [(0, av 29 0 0), (1, iv 15), (2, iv y1), (3, iv 0)]) zk_52_7 (nL := 4) rfl rfl rfl rfl rfl (pc' := 8) rfl ?_
  refine T_loop2 (fun x2 x3 => ((96 - x3 : Int)).toNat) (fun x2 x3 => (0 ≤ x2 ∧ x2 ≤ 1) ∧ (0 ≤ x3 ∧ x3 ≤ 96)) (fun x2 x3 => TJ xs (fun σ' => IF MR σ σ' ∧ True) 20 52 8 [(0, av 29 0 0), (1, iv 15), (2, iv x2), (3, iv x3)] [] _) ?_ y1 0 (by omega)
  intro x2 x3 hp5 ih4
  refine T_ld zk_52_8 rfl rfl rfl (pc' := 9) rfl ?_
  refine T_op zk_52_9 rfl (X_bi (v := 96) (by decide)) (pc' := 11) rfl ?_
  refine T_icmp_ge zk_52_11 (by omega) (by omega) (pc' := 14) rfl (fun h6 => ?_) (fun h7 => ?_)
  ·
    refine T_ld zk_52_48 rfl rfl rfl (pc' := 49) rfl ?_
    exact T_zret zk_52_49 rfl (by omega) (fun σ' h => ⟨_, rfl, (by omega), h.1, trivial⟩)
  ·
    refine T_ld zk_52_14 rfl rfl rfl (pc' := 15) rfl ?_
    refine T_if_eq zk_52_15 (by omega) (pc' := 18) rfl (fun h8 => ?_) (fun h9 => ?_)
    ·
      refine T_ld zk_52_48 rfl rfl rfl (pc' := 49) rfl ?_
      exact T_zret zk_52_49 rfl (by omega) (fun σ' h => ⟨_, rfl, (by omega), h.1, trivial⟩)
    ·
      refine T_ld zk_52_18 rfl rfl rfl (pc' := 19) rfl ?_
      refine T_op zk_52_19 rfl (X_bi (v := 124) (by decide)) (pc' := 21) rfl ?_
      refine T_calli (K := fun y10 σ' => (y10 = 0 ∨ y10 = 1) ∧ (fun σ' => IF MR σ σ' ∧ True) σ') (r := []) zk_52_21 rfl rfl rfl rfl rfl rfl (Or.inr ⟨_, _, _, _, rfl, vd_29, rfl⟩) (fun σ' h => (w_50 124 (by omega) σ' h.1.1 ).le (Nat.le_of_ble_eq_true rfl) (fun v σ2 ⟨y, h1, h2, h3, h4⟩ => ⟨y, h1, h2, h.1.tr h3 (fun _ _ _ _ h => h), trivial⟩)) (pc' := 24) rfl (fun y10 => ?_)
      refine G_ex (fun hy10 => ?_)
      refine T_if_eq zk_52_24 (by omega) (pc' := 27) rfl (fun h11 => ?_) (fun h12 => ?_)
      ·
        refine T_ld zk_52_48 rfl rfl rfl (pc' := 49) rfl ?_
        exact T_zret zk_52_49 rfl (by omega) (fun σ' h => ⟨_, rfl, (by omega), h.1, trivial⟩)
      ·
        refine T_ld zk_52_27 rfl rfl rfl (pc' := 28) rfl ?_
        refine T_ld zk_52_28 rfl rfl rfl (pc' := 29) rfl ?_
        refine T_calli (K := fun y13 σ' => (y13 = 0 ∨ y13 = 1) ∧ (fun σ' => IF MR σ σ' ∧ True) σ') (r := []) zk_52_29 rfl rfl rfl rfl rfl rfl (Or.inr ⟨_, _, _, _, rfl, vd_29, rfl⟩) (fun σ' h => (w_53_15   σ' h.1.1 ).le (Nat.le_of_ble_eq_true rfl) (fun v σ2 ⟨y, h1, h2, h3, h4⟩ => ⟨y, h1, h2, h.1.tr h3 (fun _ _ _ _ h => h), trivial⟩)) (pc' := 32) rfl (fun y13 => ?_)
        refine G_ex (fun hy13 => ?_)
        refine T_st (L' := [(0, av 29 0 0), (1, iv 15), (2, iv y13), (3, iv x3)]) zk_52_32 (nL := 4) rfl rfl rfl rfl rfl (pc' := 33) rfl ?_
        refine T_ld zk_52_33 rfl rfl rfl (pc' := 34) rfl ?_
        refine T_getR (t' := 30) (i' := 0) (k' := 0) zk_52_34 rfl rfl rfl vd_29 (pc' := 37) rfl ?_
        refine T_op zk_52_37 rfl (X_bi (v := -3) (by decide)) (pc' := 39) rfl ?_
        refine T_callv (J' := (fun σ' => IF MR σ σ' ∧ True)) (r := []) zk_52_39 rfl rfl rfl rfl rfl rfl (Or.inr ⟨_, _, _, _, rfl, vd_30, rfl⟩) (fun σ' h => (w_42 ((-3)) (by omega) σ' h.1.1 ).le (Nat.le_of_ble_eq_true rfl) (fun v σ2 ⟨h1, h3, h4⟩ => ⟨h1, h.1.tr h3 (fun _ _ _ _ h => h), trivial⟩)) (pc' := 42) rfl ?_
        refine T_iinc (L' := [(0, av 29 0 0), (1, iv 15), (2, iv y13), (3, iv (x3 + 1))]) zk_52_42 (nL := 4) rfl rfl rfl rfl (pc' := 45) rfl ?_
        refine T_goto zk_52_45 ?_
        exact ih4 y13 (x3 + 1) (by omega) (by omega)
/-- W$LawReader.readPart -/
theorem w_54_14 {xs : Nat × (Nat → Int32)}   (σ : ZS) (hI : Inv σ)   : CT xs 22 54 [av 29 0 0, iv 14] σ (fun v σ' => ∃ y, v = some (iv y) ∧ (y = 0 ∨ y = 1) ∧ IF MR σ σ' ∧ (True)) := by
  refine G_ct (J := (fun σ' => IF MR σ σ' ∧ True)) (L := [(0, av 29 0 0), (1, iv 14)]) (nL := 3) rfl rfl rfl ⟨IF.rf hI, trivial⟩ ?_
  refine T_ld zk_54_0 rfl rfl rfl (pc' := 1) rfl ?_
  refine T_calli (K := fun y1 σ' => (-2147483648 ≤ y1 ∧ y1 ≤ 2147483647) ∧ (fun σ' => IF MR σ σ' ∧ True) σ') (r := []) zk_54_1 rfl rfl rfl rfl rfl rfl (Or.inr ⟨_, _, _, _, rfl, vd_29, rfl⟩) (fun σ' h => (w_49   σ' h.1.1 ).le (Nat.le_of_ble_eq_true rfl) (fun v σ2 ⟨y, h1, h2, h3, h4⟩ => ⟨y, h1, h2, h.1.tr h3 MN_sub, trivial⟩)) (pc' := 4) rfl (fun y1 => ?_)
  refine G_ex (fun hy1 => ?_)
  refine T_op zk_54_4 rfl (X_bi (v := 33) (by decide)) (pc' := 6) rfl ?_
  refine T_icmp_eq zk_54_6 (by omega) (by omega) (pc' := 9) rfl (fun h2 => ?_) (fun h3 => ?_)
  ·
    refine T_ld zk_54_23 rfl rfl rfl (pc' := 24) rfl ?_
    refine T_op zk_54_24 rfl (X_bi (v := 20) (by decide)) (pc' := 26) rfl ?_
    refine T_icmp_lt zk_54_26 (by omega) (by omega) (pc' := 29) rfl (fun h4 => ?_) (fun h5 => ?_)
    ·
      refine T_ld zk_54_31 rfl rfl rfl (pc' := 32) rfl ?_
      refine T_op zk_54_32 rfl (X_bi (v := 40) (by decide)) (pc' := 34) rfl ?_
      refine T_calli (K := fun y6 σ' => (y6 = 0 ∨ y6 = 1) ∧ (fun σ' => IF MR σ σ' ∧ True) σ') (r := []) zk_54_34 rfl rfl rfl rfl rfl rfl (Or.inr ⟨_, _, _, _, rfl, vd_29, rfl⟩) (fun σ' h => (w_50 40 (by omega) σ' h.1.1 ).le (Nat.le_of_ble_eq_true rfl) (fun v σ2 ⟨y, h1, h2, h3, h4⟩ => ⟨y, h1, h2, h.1.tr h3 (fun _ _ _ _ h => h), trivial⟩)) (pc' := 37) rfl (fun y6 => ?_)
      refine G_ex (fun hy6 => ?_)
      refine T_if_eq zk_54_37 (by omega) (pc' := 40) rfl (fun h7 => ?_) (fun h8 => ?_)
      ·
        refine T_ld zk_54_65 rfl rfl rfl (pc' := 66) rfl ?_
        refine T_op (st' := [av 29 0 0, av 29 0 0]) zk_54_66 rfl rfl (pc' := 67) rfl ?_
        refine G_getf (lo := -2147483648) (hi := 2147483647) zk_54_67 rfl vd_29 (fun σ' h => h.1.1) (fun _ h => (by have q := h.1; omega)) (pc' := 70) rfl (fun y9 hy9 hy9' => ?_)
        refine T_op zk_54_70 rfl X_ic (pc' := 71) rfl ?_
        refine G_unk zk_54_71 rfl (pc' := 72) rfl (fun y10 hy10 hy10' => ?_)
        refine T_putf (J' := (fun σ' => IF MR σ σ' ∧ σ' 29 0 0 3 = y10 ∧ True)) zk_54_72 rfl rfl vd_29 (fun σ' h => ⟨h.1.up (by simp only [rgP] <;> omega) (by first | exact pMR rfl | (unfold MR; omega)), up_eq, trivial⟩) (pc' := 75) rfl ?_
        refine T_ld zk_54_75 rfl rfl rfl (pc' := 76) rfl ?_
        refine T_ld zk_54_76 rfl rfl rfl (pc' := 77) rfl ?_
        refine T_op zk_54_77 rfl X_ic (pc' := 78) rfl ?_
        refine T_opc (w := 15) zk_54_78 rfl X_add (by omega) (pc' := 79) rfl ?_
        refine T_calli (K := fun y11 σ' => (y11 = 0 ∨ y11 = 1) ∧ (fun σ' => IF MR σ σ' ∧ True) σ') (r := []) zk_54_79 rfl rfl rfl rfl rfl rfl (Or.inr ⟨_, _, _, _, rfl, vd_29, rfl⟩) (fun σ' h => (w_54_15   σ' h.1.1 ).le (Nat.le_of_ble_eq_true rfl) (fun v σ2 ⟨y, h1, h2, h3, h4⟩ => ⟨y, h1, h2, h.1.tr h3 (fun _ _ _ _ h => h), trivial⟩)) (pc' := 82) rfl (fun y11 => ?_)
        refine G_ex (fun hy11 => ?_)
        refine T_st (L' := [(0, av 29 0 0), (1, iv 14), (2, iv y11)]) zk_54_82 (nL := 3) rfl rfl rfl rfl rfl (pc' := 83) rfl ?_
        refine T_ld zk_54_83 rfl rfl rfl (pc' := 84) rfl ?_
        refine T_getR (t' := 30) (i' := 0) (k' := 0) zk_54_84 rfl rfl rfl vd_29 (pc' := 87) rfl ?_
        refine T_op zk_54_87 rfl X_ic (pc' := 88) rfl ?_
        refine T_callv (J' := (fun σ' => IF MR σ σ' ∧ True)) (r := []) zk_54_88 rfl rfl rfl rfl rfl rfl (Or.inr ⟨_, _, _, _, rfl, vd_30, rfl⟩) (fun σ' h => (w_42 ((-1)) (by omega) σ' h.1.1 ).le (Nat.le_of_ble_eq_true rfl) (fun v σ2 ⟨h1, h3, h4⟩ => ⟨h1, h.1.tr h3 (fun _ _ _ _ h => h), trivial⟩)) (pc' := 91) rfl ?_
        refine T_ld zk_54_91 rfl rfl rfl (pc' := 92) rfl ?_
        exact T_zret zk_54_92 rfl (by omega) (fun σ' h => ⟨_, rfl, (by omega), h.1, trivial⟩)
      ·
        refine T_ld zk_54_40 rfl rfl rfl (pc' := 41) rfl ?_
        refine T_ld zk_54_41 rfl rfl rfl (pc' := 42) rfl ?_
        refine T_op zk_54_42 rfl X_ic (pc' := 43) rfl ?_
        refine T_opc (w := 15) zk_54_43 rfl X_add (by omega) (pc' := 44) rfl ?_
        refine T_calli (K := fun y13 σ' => (y13 = 0 ∨ y13 = 1) ∧ (fun σ' => IF MR σ σ' ∧ True) σ') (r := []) zk_54_44 rfl rfl rfl rfl rfl rfl (Or.inr ⟨_, _, _, _, rfl, vd_29, rfl⟩) (fun σ' h => (w_52_15   σ' h.1.1 ).le (Nat.le_of_ble_eq_true rfl) (fun v σ2 ⟨y, h1, h2, h3, h4⟩ => ⟨y, h1, h2, h.1.tr h3 (fun _ _ _ _ h => h), trivial⟩)) (pc' := 47) rfl (fun y13 => ?_)
        refine G_ex (fun hy13 => ?_)
        refine T_if_eq zk_54_47 (by omega) (pc' := 50) rfl (fun h14 => ?_) (fun h15 => ?_)
        ·
          refine T_op zk_54_63 rfl X_ic (pc' := 64) rfl ?_
          exact T_zret zk_54_64 rfl (by omega) (fun σ' h => ⟨_, rfl, (by omega), h.1, trivial⟩)
        ·
          refine T_ld zk_54_50 rfl rfl rfl (pc' := 51) rfl ?_
          refine T_op zk_54_51 rfl (X_bi (v := 41) (by decide)) (pc' := 53) rfl ?_
          refine T_calli (K := fun y16 σ' => (y16 = 0 ∨ y16 = 1) ∧ (fun σ' => IF MR σ σ' ∧ True) σ') (r := []) zk_54_53 rfl rfl rfl rfl rfl rfl (Or.inr ⟨_, _, _, _, rfl, vd_29, rfl⟩) (fun σ' h => (w_50 41 (by omega) σ' h.1.1 ).le (Nat.le_of_ble_eq_true rfl) (fun v σ2 ⟨y, h1, h2, h3, h4⟩ => ⟨y, h1, h2, h.1.tr h3 (fun _ _ _ _ h => h), trivial⟩)) (pc' := 56) rfl (fun y16 => ?_)
          refine G_ex (fun hy16 => ?_)
          refine T_if_eq zk_54_56 (by omega) (pc' := 59) rfl (fun h17 => ?_) (fun h18 => ?_)
          ·
            refine T_op zk_54_63 rfl X_ic (pc' := 64) rfl ?_
            exact T_zret zk_54_64 rfl (by omega) (fun σ' h => ⟨_, rfl, (by omega), h.1, trivial⟩)
          ·
            refine T_op zk_54_59 rfl X_ic (pc' := 60) rfl ?_
            refine T_goto zk_54_60 ?_
            exact T_zret zk_54_64 rfl (by omega) (fun σ' h => ⟨_, rfl, (by omega), h.1, trivial⟩)
    · exfalso; omega
  ·
    refine T_ld zk_54_9 rfl rfl rfl (pc' := 10) rfl ?_
    refine T_calli (K := fun y19 σ' => (-2147483648 ≤ y19 ∧ y19 ≤ 2147483647) ∧ (fun σ' => IF MR σ σ' ∧ True) σ') (r := []) zk_54_10 rfl rfl rfl rfl rfl rfl (Or.inr ⟨_, _, _, _, rfl, vd_29, rfl⟩) (fun σ' h => (w_49   σ' h.1.1 ).le (Nat.le_of_ble_eq_true rfl) (fun v σ2 ⟨y, h1, h2, h3, h4⟩ => ⟨y, h1, h2, h.1.tr h3 MN_sub, trivial⟩)) (pc' := 13) rfl (fun y19 => ?_)
    refine G_ex (fun hy19 => ?_)
    refine T_op zk_54_13 rfl (X_bi (v := 40) (by decide)) (pc' := 15) rfl ?_
    refine T_icmp_eq zk_54_15 (by omega) (by omega) (pc' := 18) rfl (fun h20 => ?_) (fun h21 => ?_)
    ·
      refine T_ld zk_54_23 rfl rfl rfl (pc' := 24) rfl ?_
      refine T_op zk_54_24 rfl (X_bi (v := 20) (by decide)) (pc' := 26) rfl ?_
      refine T_icmp_lt zk_54_26 (by omega) (by omega) (pc' := 29) rfl (fun h22 => ?_) (fun h23 => ?_)
      ·
        refine T_ld zk_54_31 rfl rfl rfl (pc' := 32) rfl ?_
        refine T_op zk_54_32 rfl (X_bi (v := 40) (by decide)) (pc' := 34) rfl ?_
        refine T_calli (K := fun y24 σ' => (y24 = 0 ∨ y24 = 1) ∧ (fun σ' => IF MR σ σ' ∧ True) σ') (r := []) zk_54_34 rfl rfl rfl rfl rfl rfl (Or.inr ⟨_, _, _, _, rfl, vd_29, rfl⟩) (fun σ' h => (w_50 40 (by omega) σ' h.1.1 ).le (Nat.le_of_ble_eq_true rfl) (fun v σ2 ⟨y, h1, h2, h3, h4⟩ => ⟨y, h1, h2, h.1.tr h3 (fun _ _ _ _ h => h), trivial⟩)) (pc' := 37) rfl (fun y24 => ?_)
        refine G_ex (fun hy24 => ?_)
        refine T_if_eq zk_54_37 (by omega) (pc' := 40) rfl (fun h25 => ?_) (fun h26 => ?_)
        ·
          refine T_ld zk_54_65 rfl rfl rfl (pc' := 66) rfl ?_
          refine T_op (st' := [av 29 0 0, av 29 0 0]) zk_54_66 rfl rfl (pc' := 67) rfl ?_
          refine G_getf (lo := -2147483648) (hi := 2147483647) zk_54_67 rfl vd_29 (fun σ' h => h.1.1) (fun _ h => (by have q := h.1; omega)) (pc' := 70) rfl (fun y27 hy27 hy27' => ?_)
          refine T_op zk_54_70 rfl X_ic (pc' := 71) rfl ?_
          refine G_unk zk_54_71 rfl (pc' := 72) rfl (fun y28 hy28 hy28' => ?_)
          refine T_putf (J' := (fun σ' => IF MR σ σ' ∧ σ' 29 0 0 3 = y28 ∧ True)) zk_54_72 rfl rfl vd_29 (fun σ' h => ⟨h.1.up (by simp only [rgP] <;> omega) (by first | exact pMR rfl | (unfold MR; omega)), up_eq, trivial⟩) (pc' := 75) rfl ?_
          refine T_ld zk_54_75 rfl rfl rfl (pc' := 76) rfl ?_
          refine T_ld zk_54_76 rfl rfl rfl (pc' := 77) rfl ?_
          refine T_op zk_54_77 rfl X_ic (pc' := 78) rfl ?_
          refine T_opc (w := 15) zk_54_78 rfl X_add (by omega) (pc' := 79) rfl ?_
          refine T_calli (K := fun y29 σ' => (y29 = 0 ∨ y29 = 1) ∧ (fun σ' => IF MR σ σ' ∧ True) σ') (r := []) zk_54_79 rfl rfl rfl rfl rfl rfl (Or.inr ⟨_, _, _, _, rfl, vd_29, rfl⟩) (fun σ' h => (w_54_15   σ' h.1.1 ).le (Nat.le_of_ble_eq_true rfl) (fun v σ2 ⟨y, h1, h2, h3, h4⟩ => ⟨y, h1, h2, h.1.tr h3 (fun _ _ _ _ h => h), trivial⟩)) (pc' := 82) rfl (fun y29 => ?_)
          refine G_ex (fun hy29 => ?_)
          refine T_st (L' := [(0, av 29 0 0), (1, iv 14), (2, iv y29)]) zk_54_82 (nL := 3) rfl rfl rfl rfl rfl (pc' := 83) rfl ?_
          refine T_ld zk_54_83 rfl rfl rfl (pc' := 84) rfl ?_
          refine T_getR (t' := 30) (i' := 0) (k' := 0) zk_54_84 rfl rfl rfl vd_29 (pc' := 87) rfl ?_
          refine T_op zk_54_87 rfl X_ic (pc' := 88) rfl ?_
          refine T_callv (J' := (fun σ' => IF MR σ σ' ∧ True)) (r := []) zk_54_88 rfl rfl rfl rfl rfl rfl (Or.inr ⟨_, _, _, _, rfl, vd_30, rfl⟩) (fun σ' h => (w_42 ((-1)) (by omega) σ' h.1.1 ).le (Nat.le_of_ble_eq_true rfl) (fun v σ2 ⟨h1, h3, h4⟩ => ⟨h1, h.1.tr h3 (fun _ _ _ _ h => h), trivial⟩)) (pc' := 91) rfl ?_
          refine T_ld zk_54_91 rfl rfl rfl (pc' := 92) rfl ?_
          exact T_zret zk_54_92 rfl (by omega) (fun σ' h => ⟨_, rfl, (by omega), h.1, trivial⟩)
        ·
          refine T_ld zk_54_40 rfl rfl rfl (pc' := 41) rfl ?_
          refine T_ld zk_54_41 rfl rfl rfl (pc' := 42) rfl ?_
          refine T_op zk_54_42 rfl X_ic (pc' := 43) rfl ?_
          refine T_opc (w := 15) zk_54_43 rfl X_add (by omega) (pc' := 44) rfl ?_
          refine T_calli (K := fun y31 σ' => (y31 = 0 ∨ y31 = 1) ∧ (fun σ' => IF MR σ σ' ∧ True) σ') (r := []) zk_54_44 rfl rfl rfl rfl rfl rfl (Or.inr ⟨_, _, _, _, rfl, vd_29, rfl⟩) (fun σ' h => (w_52_15   σ' h.1.1 ).le (Nat.le_of_ble_eq_true rfl) (fun v σ2 ⟨y, h1, h2, h3, h4⟩ => ⟨y, h1, h2, h.1.tr h3 (fun _ _ _ _ h => h), trivial⟩)) (pc' := 47) rfl (fun y31 => ?_)
          refine G_ex (fun hy31 => ?_)
          refine T_if_eq zk_54_47 (by omega) (pc' := 50) rfl (fun h32 => ?_) (fun h33 => ?_)
          ·
            refine T_op zk_54_63 rfl X_ic (pc' := 64) rfl ?_
            exact T_zret zk_54_64 rfl (by omega) (fun σ' h => ⟨_, rfl, (by omega), h.1, trivial⟩)
          ·
            refine T_ld zk_54_50 rfl rfl rfl (pc' := 51) rfl ?_
            refine T_op zk_54_51 rfl (X_bi (v := 41) (by decide)) (pc' := 53) rfl ?_
            refine T_calli (K := fun y34 σ' => (y34 = 0 ∨ y34 = 1) ∧ (fun σ' => IF MR σ σ' ∧ True) σ') (r := []) zk_54_53 rfl rfl rfl rfl rfl rfl (Or.inr ⟨_, _, _, _, rfl, vd_29, rfl⟩) (fun σ' h => (w_50 41 (by omega) σ' h.1.1 ).le (Nat.le_of_ble_eq_true rfl) (fun v σ2 ⟨y, h1, h2, h3, h4⟩ => ⟨y, h1, h2, h.1.tr h3 (fun _ _ _ _ h => h), trivial⟩)) (pc' := 56) rfl (fun y34 => ?_)
            refine G_ex (fun hy34 => ?_)
            refine T_if_eq zk_54_56 (by omega) (pc' := 59) rfl (fun h35 => ?_) (fun h36 => ?_)
            ·
              refine T_op zk_54_63 rfl X_ic (pc' := 64) rfl ?_
              exact T_zret zk_54_64 rfl (by omega) (fun σ' h => ⟨_, rfl, (by omega), h.1, trivial⟩)
            ·
              refine T_op zk_54_59 rfl X_ic (pc' := 60) rfl ?_
              refine T_goto zk_54_60 ?_
              exact T_zret zk_54_64 rfl (by omega) (fun σ' h => ⟨_, rfl, (by omega), h.1, trivial⟩)
      · exfalso; omega
    ·
      refine T_ld zk_54_18 rfl rfl rfl (pc' := 19) rfl ?_
      refine T_calli (K := fun y37 σ' => (y37 = 0 ∨ y37 = 1) ∧ (fun σ' => IF MR σ σ' ∧ True) σ') (r := []) zk_54_19 rfl rfl rfl rfl rfl rfl (Or.inr ⟨_, _, _, _, rfl, vd_29, rfl⟩) (fun σ' h => (w_55   σ' h.1.1 ).le (Nat.le_of_ble_eq_true rfl) (fun v σ2 ⟨y, h1, h2, h3, h4⟩ => ⟨y, h1, h2, h.1.tr h3 (fun _ _ _ _ h => h), trivial⟩)) (pc' := 22) rfl (fun y37 => ?_)
      refine G_ex (fun hy37 => ?_)
      exact T_zret zk_54_22 rfl (by omega) (fun σ' h => ⟨_, rfl, (by omega), h.1, trivial⟩)
/-- W$LawReader.readBoth -/
theorem w_53_14 {xs : Nat × (Nat → Int32)}   (σ : ZS) (hI : Inv σ)   : CT xs 23 53 [av 29 0 0, iv 14] σ (fun v σ' => ∃ y, v = some (iv y) ∧ (y = 0 ∨ y = 1) ∧ IF MR σ σ' ∧ (True)) := by
  refine G_ct (J := (fun σ' => IF MR σ σ' ∧ True)) (L := [(0, av 29 0 0), (1, iv 14)]) (nL := 4) rfl rfl rfl ⟨IF.rf hI, trivial⟩ ?_
  refine T_ld zk_53_0 rfl rfl rfl (pc' := 1) rfl ?_
  refine T_ld zk_53_1 rfl rfl rfl (pc' := 2) rfl ?_
  refine T_calli (K := fun y1 σ' => (y1 = 0 ∨ y1 = 1) ∧ (fun σ' => IF MR σ σ' ∧ True) σ') (r := []) zk_53_2 rfl rfl rfl rfl rfl rfl (Or.inr ⟨_, _, _, _, rfl, vd_29, rfl⟩) (fun σ' h => (w_54_14   σ' h.1.1 ).le (Nat.le_of_ble_eq_true rfl) (fun v σ2 ⟨y, h1, h2, h3, h4⟩ => ⟨y, h1, h2, h.1.tr h3 (fun _ _ _ _ h => h), trivial⟩)) (pc' := 5) rfl (fun y1 => ?_)
  refine G_ex (fun hy1 => ?_)
  refine T_st (L' := [(0, av 29 0 0), (1, iv 14), (2, iv y1)]) zk_53_5 (nL := 4) rfl rfl rfl rfl rfl (pc' := 6) rfl ?_
  refine T_op zk_53_6 rfl X_ic (pc' := 7) rfl ?_
  refine T_st (L' := [(0, av 29 0 0), (1, iv 14), (2, iv y1), (3, iv 0)]) zk_53_7 (nL := 4) rfl rfl rfl rfl rfl (pc' := 8) rfl ?_
  refine T_loop2 (fun x2 x3 => ((96 - x3 : Int)).toNat) (fun x2 x3 => (0 ≤ x2 ∧ x2 ≤ 1) ∧ (0 ≤ x3 ∧ x3 ≤ 96)) (fun x2 x3 => TJ xs (fun σ' => IF MR σ σ' ∧ True) 22 53 8 [(0, av 29 0 0), (1, iv 14), (2, iv x2), (3, iv x3)] [] _) ?_ y1 0 (by omega)
  intro x2 x3 hp5 ih4
  refine T_ld zk_53_8 rfl rfl rfl (pc' := 9) rfl ?_
  refine T_op zk_53_9 rfl (X_bi (v := 96) (by decide)) (pc' := 11) rfl ?_
  refine T_icmp_ge zk_53_11 (by omega) (by omega) (pc' := 14) rfl (fun h6 => ?_) (fun h7 => ?_)
  ·
    refine T_ld zk_53_48 rfl rfl rfl (pc' := 49) rfl ?_
    exact T_zret zk_53_49 rfl (by omega) (fun σ' h => ⟨_, rfl, (by omega), h.1, trivial⟩)
  ·
    refine T_ld zk_53_14 rfl rfl rfl (pc' := 15) rfl ?_
    refine T_if_eq zk_53_15 (by omega) (pc' := 18) rfl (fun h8 => ?_) (fun h9 => ?_)
    ·
      refine T_ld zk_53_48 rfl rfl rfl (pc' := 49) rfl ?_
      exact T_zret zk_53_49 rfl (by omega) (fun σ' h => ⟨_, rfl, (by omega), h.1, trivial⟩)
    ·
      refine T_ld zk_53_18 rfl rfl rfl (pc' := 19) rfl ?_
      refine T_op zk_53_19 rfl (X_bi (v := 38) (by decide)) (pc' := 21) rfl ?_
      refine T_calli (K := fun y10 σ' => (y10 = 0 ∨ y10 = 1) ∧ (fun σ' => IF MR σ σ' ∧ True) σ') (r := []) zk_53_21 rfl rfl rfl rfl rfl rfl (Or.inr ⟨_, _, _, _, rfl, vd_29, rfl⟩) (fun σ' h => (w_50 38 (by omega) σ' h.1.1 ).le (Nat.le_of_ble_eq_true rfl) (fun v σ2 ⟨y, h1, h2, h3, h4⟩ => ⟨y, h1, h2, h.1.tr h3 (fun _ _ _ _ h => h), trivial⟩)) (pc' := 24) rfl (fun y10 => ?_)
      refine G_ex (fun hy10 => ?_)
      refine T_if_eq zk_53_24 (by omega) (pc' := 27) rfl (fun h11 => ?_) (fun h12 => ?_)
      ·
        refine T_ld zk_53_48 rfl rfl rfl (pc' := 49) rfl ?_
        exact T_zret zk_53_49 rfl (by omega) (fun σ' h => ⟨_, rfl, (by omega), h.1, trivial⟩)
      ·
        refine T_ld zk_53_27 rfl rfl rfl (pc' := 28) rfl ?_
        refine T_ld zk_53_28 rfl rfl rfl (pc' := 29) rfl ?_
        refine T_calli (K := fun y13 σ' => (y13 = 0 ∨ y13 = 1) ∧ (fun σ' => IF MR σ σ' ∧ True) σ') (r := []) zk_53_29 rfl rfl rfl rfl rfl rfl (Or.inr ⟨_, _, _, _, rfl, vd_29, rfl⟩) (fun σ' h => (w_54_14   σ' h.1.1 ).le (Nat.le_of_ble_eq_true rfl) (fun v σ2 ⟨y, h1, h2, h3, h4⟩ => ⟨y, h1, h2, h.1.tr h3 (fun _ _ _ _ h => h), trivial⟩)) (pc' := 32) rfl (fun y13 => ?_)
        refine G_ex (fun hy13 => ?_)
        refine T_st (L' := [(0, av 29 0 0), (1, iv 14), (2, iv y13), (3, iv x3)]) zk_53_32 (nL := 4) rfl rfl rfl rfl rfl (pc' := 33) rfl ?_
        refine T_ld zk_53_33 rfl rfl rfl (pc' := 34) rfl ?_
        refine T_getR (t' := 30) (i' := 0) (k' := 0) zk_53_34 rfl rfl rfl vd_29 (pc' := 37) rfl ?_
        refine T_op zk_53_37 rfl (X_bi (v := -2) (by decide)) (pc' := 39) rfl ?_
        refine T_callv (J' := (fun σ' => IF MR σ σ' ∧ True)) (r := []) zk_53_39 rfl rfl rfl rfl rfl rfl (Or.inr ⟨_, _, _, _, rfl, vd_30, rfl⟩) (fun σ' h => (w_42 ((-2)) (by omega) σ' h.1.1 ).le (Nat.le_of_ble_eq_true rfl) (fun v σ2 ⟨h1, h3, h4⟩ => ⟨h1, h.1.tr h3 (fun _ _ _ _ h => h), trivial⟩)) (pc' := 42) rfl ?_
        refine T_iinc (L' := [(0, av 29 0 0), (1, iv 14), (2, iv y13), (3, iv (x3 + 1))]) zk_53_42 (nL := 4) rfl rfl rfl rfl (pc' := 45) rfl ?_
        refine T_goto zk_53_45 ?_
        exact ih4 y13 (x3 + 1) (by omega) (by omega)
/-- W$LawReader.readEither -/
theorem w_52_14 {xs : Nat × (Nat → Int32)}   (σ : ZS) (hI : Inv σ)   : CT xs 24 52 [av 29 0 0, iv 14] σ (fun v σ' => ∃ y, v = some (iv y) ∧ (y = 0 ∨ y = 1) ∧ IF MR σ σ' ∧ (True)) := by
  refine G_ct (J := (fun σ' => IF MR σ σ' ∧ True)) (L := [(0, av 29 0 0), (1, iv 14)]) (nL := 4) rfl rfl rfl ⟨IF.rf hI, trivial⟩ ?_
  refine T_ld zk_52_0 rfl rfl rfl (pc' := 1) rfl ?_
  refine T_ld zk_52_1 rfl rfl rfl (pc' := 2) rfl ?_
  refine T_calli (K := fun y1 σ' => (y1 = 0 ∨ y1 = 1) ∧ (fun σ' => IF MR σ σ' ∧ True) σ') (r := []) zk_52_2 rfl rfl rfl rfl rfl rfl (Or.inr ⟨_, _, _, _, rfl, vd_29, rfl⟩) (fun σ' h => (w_53_14   σ' h.1.1 ).le (Nat.le_of_ble_eq_true rfl) (fun v σ2 ⟨y, h1, h2, h3, h4⟩ => ⟨y, h1, h2, h.1.tr h3 (fun _ _ _ _ h => h), trivial⟩)) (pc' := 5) rfl (fun y1 => ?_)
  refine G_ex (fun hy1 => ?_)
  refine T_st (L' := [(0, av 29 0 0), (1, iv 14), (2, iv y1)]) zk_52_5 (nL := 4) rfl rfl rfl rfl rfl (pc' := 6) rfl ?_
  refine T_op zk_52_6 rfl X_ic (pc' := 7) rfl ?_
  refine T_st (L' := [(0, av 29 0 0), (1, iv 14), (2, iv y1), (3, iv 0)]) zk_52_7 (nL := 4) rfl rfl rfl rfl rfl (pc' := 8) rfl ?_
  refine T_loop2 (fun x2 x3 => ((96 - x3 : Int)).toNat) (fun x2 x3 => (0 ≤ x2 ∧ x2 ≤ 1) ∧ (0 ≤ x3 ∧ x3 ≤ 96)) (fun x2 x3 => TJ xs (fun σ' => IF MR σ σ' ∧ True) 23 52 8 [(0, av 29 0 0), (1, iv 14), (2, iv x2), (3, iv x3)] [] _) ?_ y1 0 (by omega)
  intro x2 x3 hp5 ih4
  refine T_ld zk_52_8 rfl rfl rfl (pc' := 9) rfl ?_
  refine T_op zk_52_9 rfl (X_bi (v := 96) (by decide)) (pc' := 11) rfl ?_
  refine T_icmp_ge zk_52_11 (by omega) (by omega) (pc' := 14) rfl (fun h6 => ?_) (fun h7 => ?_)
  ·
    refine T_ld zk_52_48 rfl rfl rfl (pc' := 49) rfl ?_
    exact T_zret zk_52_49 rfl (by omega) (fun σ' h => ⟨_, rfl, (by omega), h.1, trivial⟩)
  ·
    refine T_ld zk_52_14 rfl rfl rfl (pc' := 15) rfl ?_
    refine T_if_eq zk_52_15 (by omega) (pc' := 18) rfl (fun h8 => ?_) (fun h9 => ?_)
    ·
      refine T_ld zk_52_48 rfl rfl rfl (pc' := 49) rfl ?_
      exact T_zret zk_52_49 rfl (by omega) (fun σ' h => ⟨_, rfl, (by omega), h.1, trivial⟩)
    ·
      refine T_ld zk_52_18 rfl rfl rfl (pc' := 19) rfl ?_
      refine T_op zk_52_19 rfl (X_bi (v := 124) (by decide)) (pc' := 21) rfl ?_
      refine T_calli (K := fun y10 σ' => (y10 = 0 ∨ y10 = 1) ∧ (fun σ' => IF MR σ σ' ∧ True) σ') (r := []) zk_52_21 rfl rfl rfl rfl rfl rfl (Or.inr ⟨_, _, _, _, rfl, vd_29, rfl⟩) (fun σ' h => (w_50 124 (by omega) σ' h.1.1 ).le (Nat.le_of_ble_eq_true rfl) (fun v σ2 ⟨y, h1, h2, h3, h4⟩ => ⟨y, h1, h2, h.1.tr h3 (fun _ _ _ _ h => h), trivial⟩)) (pc' := 24) rfl (fun y10 => ?_)
      refine G_ex (fun hy10 => ?_)
      refine T_if_eq zk_52_24 (by omega) (pc' := 27) rfl (fun h11 => ?_) (fun h12 => ?_)
      ·
        refine T_ld zk_52_48 rfl rfl rfl (pc' := 49) rfl ?_
        exact T_zret zk_52_49 rfl (by omega) (fun σ' h => ⟨_, rfl, (by omega), h.1, trivial⟩)
      ·
        refine T_ld zk_52_27 rfl rfl rfl (pc' := 28) rfl ?_
        refine T_ld zk_52_28 rfl rfl rfl (pc' := 29) rfl ?_
        refine T_calli (K := fun y13 σ' => (y13 = 0 ∨ y13 = 1) ∧ (fun σ' => IF MR σ σ' ∧ True) σ') (r := []) zk_52_29 rfl rfl rfl rfl rfl rfl (Or.inr ⟨_, _, _, _, rfl, vd_29, rfl⟩) (fun σ' h => (w_53_14   σ' h.1.1 ).le (Nat.le_of_ble_eq_true rfl) (fun v σ2 ⟨y, h1, h2, h3, h4⟩ => ⟨y, h1, h2, h.1.tr h3 (fun _ _ _ _ h => h), trivial⟩)) (pc' := 32) rfl (fun y13 => ?_)
        refine G_ex (fun hy13 => ?_)
        refine T_st (L' := [(0, av 29 0 0), (1, iv 14), (2, iv y13), (3, iv x3)]) zk_52_32 (nL := 4) rfl rfl rfl rfl rfl (pc' := 33) rfl ?_
        refine T_ld zk_52_33 rfl rfl rfl (pc' := 34) rfl ?_
        refine T_getR (t' := 30) (i' := 0) (k' := 0) zk_52_34 rfl rfl rfl vd_29 (pc' := 37) rfl ?_
        refine T_op zk_52_37 rfl (X_bi (v := -3) (by decide)) (pc' := 39) rfl ?_
        refine T_callv (J' := (fun σ' => IF MR σ σ' ∧ True)) (r := []) zk_52_39 rfl rfl rfl rfl rfl rfl (Or.inr ⟨_, _, _, _, rfl, vd_30, rfl⟩) (fun σ' h => (w_42 ((-3)) (by omega) σ' h.1.1 ).le (Nat.le_of_ble_eq_true rfl) (fun v σ2 ⟨h1, h3, h4⟩ => ⟨h1, h.1.tr h3 (fun _ _ _ _ h => h), trivial⟩)) (pc' := 42) rfl ?_
        refine T_iinc (L' := [(0, av 29 0 0), (1, iv 14), (2, iv y13), (3, iv (x3 + 1))]) zk_52_42 (nL := 4) rfl rfl rfl rfl (pc' := 45) rfl ?_
        refine T_goto zk_52_45 ?_
        exact ih4 y13 (x3 + 1) (by omega) (by omega)
/-- W$LawReader.readPart -/
theorem w_54_13 {xs : Nat × (Nat → Int32)}   (σ : ZS) (hI : Inv σ)   : CT xs 25 54 [av 29 0 0, iv 13] σ (fun v σ' => ∃ y, v = some (iv y) ∧ (y = 0 ∨ y = 1) ∧ IF MR σ σ' ∧ (True)) := by
  refine G_ct (J := (fun σ' => IF MR σ σ' ∧ True)) (L := [(0, av 29 0 0), (1, iv 13)]) (nL := 3) rfl rfl rfl ⟨IF.rf hI, trivial⟩ ?_
  refine T_ld zk_54_0 rfl rfl rfl (pc' := 1) rfl ?_
  refine T_calli (K := fun y1 σ' => (-2147483648 ≤ y1 ∧ y1 ≤ 2147483647) ∧ (fun σ' => IF MR σ σ' ∧ True) σ') (r := []) zk_54_1 rfl rfl rfl rfl rfl rfl (Or.inr ⟨_, _, _, _, rfl, vd_29, rfl⟩) (fun σ' h => (w_49   σ' h.1.1 ).le (Nat.le_of_ble_eq_true rfl) (fun v σ2 ⟨y, h1, h2, h3, h4⟩ => ⟨y, h1, h2, h.1.tr h3 MN_sub, trivial⟩)) (pc' := 4) rfl (fun y1 => ?_)
  refine G_ex (fun hy1 => ?_)
  refine T_op zk_54_4 rfl (X_bi (v := 33) (by decide)) (pc' := 6) rfl ?_
  refine T_icmp_eq zk_54_6 (by omega) (by omega) (pc' := 9) rfl (fun h2 => ?_) (fun h3 => ?_)
  ·
    refine T_ld zk_54_23 rfl rfl rfl (pc' := 24) rfl ?_
    refine T_op zk_54_24 rfl (X_bi (v := 20) (by decide)) (pc' := 26) rfl ?_
    refine T_icmp_lt zk_54_26 (by omega) (by omega) (pc' := 29) rfl (fun h4 => ?_) (fun h5 => ?_)
    ·
      refine T_ld zk_54_31 rfl rfl rfl (pc' := 32) rfl ?_
      refine T_op zk_54_32 rfl (X_bi (v := 40) (by decide)) (pc' := 34) rfl ?_
      refine T_calli (K := fun y6 σ' => (y6 = 0 ∨ y6 = 1) ∧ (fun σ' => IF MR σ σ' ∧ True) σ') (r := []) zk_54_34 rfl rfl rfl rfl rfl rfl (Or.inr ⟨_, _, _, _, rfl, vd_29, rfl⟩) (fun σ' h => (w_50 40 (by omega) σ' h.1.1 ).le (Nat.le_of_ble_eq_true rfl) (fun v σ2 ⟨y, h1, h2, h3, h4⟩ => ⟨y, h1, h2, h.1.tr h3 (fun _ _ _ _ h => h), trivial⟩)) (pc' := 37) rfl (fun y6 => ?_)
      refine G_ex (fun hy6 => ?_)
      refine T_if_eq zk_54_37 (by omega) (pc' := 40) rfl (fun h7 => ?_) (fun h8 => ?_)
      ·
        refine T_ld zk_54_65 rfl rfl rfl (pc' := 66) rfl ?_
        refine T_op (st' := [av 29 0 0, av 29 0 0]) zk_54_66 rfl rfl (pc' := 67) rfl ?_
        refine G_getf (lo := -2147483648) (hi := 2147483647) zk_54_67 rfl vd_29 (fun σ' h => h.1.1) (fun _ h => (by have q := h.1; omega)) (pc' := 70) rfl (fun y9 hy9 hy9' => ?_)
        refine T_op zk_54_70 rfl X_ic (pc' := 71) rfl ?_
        refine G_unk zk_54_71 rfl (pc' := 72) rfl (fun y10 hy10 hy10' => ?_)
        refine T_putf (J' := (fun σ' => IF MR σ σ' ∧ σ' 29 0 0 3 = y10 ∧ True)) zk_54_72 rfl rfl vd_29 (fun σ' h => ⟨h.1.up (by simp only [rgP] <;> omega) (by first | exact pMR rfl | (unfold MR; omega)), up_eq, trivial⟩) (pc' := 75) rfl ?_
        refine T_ld zk_54_75 rfl rfl rfl (pc' := 76) rfl ?_
        refine T_ld zk_54_76 rfl rfl rfl (pc' := 77) rfl ?_
        refine T_op zk_54_77 rfl X_ic (pc' := 78) rfl ?_
        refine T_opc (w := 14) zk_54_78 rfl X_add (by omega) (pc' := 79) rfl ?_
        refine T_calli (K := fun y11 σ' => (y11 = 0 ∨ y11 = 1) ∧ (fun σ' => IF MR σ σ' ∧ True) σ') (r := []) zk_54_79 rfl rfl rfl rfl rfl rfl (Or.inr ⟨_, _, _, _, rfl, vd_29, rfl⟩) (fun σ' h => (w_54_14   σ' h.1.1 ).le (Nat.le_of_ble_eq_true rfl) (fun v σ2 ⟨y, h1, h2, h3, h4⟩ => ⟨y, h1, h2, h.1.tr h3 (fun _ _ _ _ h => h), trivial⟩)) (pc' := 82) rfl (fun y11 => ?_)
        refine G_ex (fun hy11 => ?_)
        refine T_st (L' := [(0, av 29 0 0), (1, iv 13), (2, iv y11)]) zk_54_82 (nL := 3) rfl rfl rfl rfl rfl (pc' := 83) rfl ?_
        refine T_ld zk_54_83 rfl rfl rfl (pc' := 84) rfl ?_
        refine T_getR (t' := 30) (i' := 0) (k' := 0) zk_54_84 rfl rfl rfl vd_29 (pc' := 87) rfl ?_
        refine T_op zk_54_87 rfl X_ic (pc' := 88) rfl ?_
        refine T_callv (J' := (fun σ' => IF MR σ σ' ∧ True)) (r := []) zk_54_88 rfl rfl rfl rfl rfl rfl (Or.inr ⟨_, _, _, _, rfl, vd_30, rfl⟩) (fun σ' h => (w_42 ((-1)) (by omega) σ' h.1.1 ).le (Nat.le_of_ble_eq_true rfl) (fun v σ2 ⟨h1, h3, h4⟩ => ⟨h1, h.1.tr h3 (fun _ _ _ _ h => h), trivial⟩)) (pc' := 91) rfl ?_
        refine T_ld zk_54_91 rfl rfl rfl (pc' := 92) rfl ?_
        exact T_zret zk_54_92 rfl (by omega) (fun σ' h => ⟨_, rfl, (by omega), h.1, trivial⟩)
      ·
        refine T_ld zk_54_40 rfl rfl rfl (pc' := 41) rfl ?_
        refine T_ld zk_54_41 rfl rfl rfl (pc' := 42) rfl ?_
        refine T_op zk_54_42 rfl X_ic (pc' := 43) rfl ?_
        refine T_opc (w := 14) zk_54_43 rfl X_add (by omega) (pc' := 44) rfl ?_
        refine T_calli (K := fun y13 σ' => (y13 = 0 ∨ y13 = 1) ∧ (fun σ' => IF MR σ σ' ∧ True) σ') (r := []) zk_54_44 rfl rfl rfl rfl rfl rfl (Or.inr ⟨_, _, _, _, rfl, vd_29, rfl⟩) (fun σ' h => (w_52_14   σ' h.1.1 ).le (Nat.le_of_ble_eq_true rfl) (fun v σ2 ⟨y, h1, h2, h3, h4⟩ => ⟨y, h1, h2, h.1.tr h3 (fun _ _ _ _ h => h), trivial⟩)) (pc' := 47) rfl (fun y13 => ?_)
        refine G_ex (fun hy13 => ?_)
        refine T_if_eq zk_54_47 (by omega) (pc' := 50) rfl (fun h14 => ?_) (fun h15 => ?_)
        ·
          refine T_op zk_54_63 rfl X_ic (pc' := 64) rfl ?_
          exact T_zret zk_54_64 rfl (by omega) (fun σ' h => ⟨_, rfl, (by omega), h.1, trivial⟩)
        ·
          refine T_ld zk_54_50 rfl rfl rfl (pc' := 51) rfl ?_
          refine T_op zk_54_51 rfl (X_bi (v := 41) (by decide)) (pc' := 53) rfl ?_
          refine T_calli (K := fun y16 σ' => (y16 = 0 ∨ y16 = 1) ∧ (fun σ' => IF MR σ σ' ∧ True) σ') (r := []) zk_54_53 rfl rfl rfl rfl rfl rfl (Or.inr ⟨_, _, _, _, rfl, vd_29, rfl⟩) (fun σ' h => (w_50 41 (by omega) σ' h.1.1 ).le (Nat.le_of_ble_eq_true rfl) (fun v σ2 ⟨y, h1, h2, h3, h4⟩ => ⟨y, h1, h2, h.1.tr h3 (fun _ _ _ _ h => h), trivial⟩)) (pc' := 56) rfl (fun y16 => ?_)
          refine G_ex (fun hy16 => ?_)
          refine T_if_eq zk_54_56 (by omega) (pc' := 59) rfl (fun h17 => ?_) (fun h18 => ?_)
          ·
            refine T_op zk_54_63 rfl X_ic (pc' := 64) rfl ?_
            exact T_zret zk_54_64 rfl (by omega) (fun σ' h => ⟨_, rfl, (by omega), h.1, trivial⟩)
          ·
            refine T_op zk_54_59 rfl X_ic (pc' := 60) rfl ?_
            refine T_goto zk_54_60 ?_
            exact T_zret zk_54_64 rfl (by omega) (fun σ' h => ⟨_, rfl, (by omega), h.1, trivial⟩)
    · exfalso; omega
  ·
    refine T_ld zk_54_9 rfl rfl rfl (pc' := 10) rfl ?_
    refine T_calli (K := fun y19 σ' => (-2147483648 ≤ y19 ∧ y19 ≤ 2147483647) ∧ (fun σ' => IF MR σ σ' ∧ True) σ') (r := []) zk_54_10 rfl rfl rfl rfl rfl rfl (Or.inr ⟨_, _, _, _, rfl, vd_29, rfl⟩) (fun σ' h => (w_49   σ' h.1.1 ).le (Nat.le_of_ble_eq_true rfl) (fun v σ2 ⟨y, h1, h2, h3, h4⟩ => ⟨y, h1, h2, h.1.tr h3 MN_sub, trivial⟩)) (pc' := 13) rfl (fun y19 => ?_)
    refine G_ex (fun hy19 => ?_)
    refine T_op zk_54_13 rfl (X_bi (v := 40) (by decide)) (pc' := 15) rfl ?_
    refine T_icmp_eq zk_54_15 (by omega) (by omega) (pc' := 18) rfl (fun h20 => ?_) (fun h21 => ?_)
    ·
      refine T_ld zk_54_23 rfl rfl rfl (pc' := 24) rfl ?_
      refine T_op zk_54_24 rfl (X_bi (v := 20) (by decide)) (pc' := 26) rfl ?_
      refine T_icmp_lt zk_54_26 (by omega) (by omega) (pc' := 29) rfl (fun h22 => ?_) (fun h23 => ?_)
      ·
        refine T_ld zk_54_31 rfl rfl rfl (pc' := 32) rfl ?_
        refine T_op zk_54_32 rfl (X_bi (v := 40) (by decide)) (pc' := 34) rfl ?_
        refine T_calli (K := fun y24 σ' => (y24 = 0 ∨ y24 = 1) ∧ (fun σ' => IF MR σ σ' ∧ True) σ') (r := []) zk_54_34 rfl rfl rfl rfl rfl rfl (Or.inr ⟨_, _, _, _, rfl, vd_29, rfl⟩) (fun σ' h => (w_50 40 (by omega) σ' h.1.1 ).le (Nat.le_of_ble_eq_true rfl) (fun v σ2 ⟨y, h1, h2, h3, h4⟩ => ⟨y, h1, h2, h.1.tr h3 (fun _ _ _ _ h => h), trivial⟩)) (pc' := 37) rfl (fun y24 => ?_)
        refine G_ex (fun hy24 => ?_)
        refine T_if_eq zk_54_37 (by omega) (pc' := 40) rfl (fun h25 => ?_) (fun h26 => ?_)
        ·
          refine T_ld zk_54_65 rfl rfl rfl (pc' := 66) rfl ?_
          refine T_op (st' := [av 29 0 0, av 29 0 0]) zk_54_66 rfl rfl (pc' := 67) rfl ?_
          refine G_getf (lo := -2147483648) (hi := 2147483647) zk_54_67 rfl vd_29 (fun σ' h => h.1.1) (fun _ h => (by have q := h.1; omega)) (pc' := 70) rfl (fun y27 hy27 hy27' => ?_)
          refine T_op zk_54_70 rfl X_ic (pc' := 71) rfl ?_
          refine G_unk zk_54_71 rfl (pc' := 72) rfl (fun y28 hy28 hy28' => ?_)
          refine T_putf (J' := (fun σ' => IF MR σ σ' ∧ σ' 29 0 0 3 = y28 ∧ True)) zk_54_72 rfl rfl vd_29 (fun σ' h => ⟨h.1.up (by simp only [rgP] <;> omega) (by first | exact pMR rfl | (unfold MR; omega)), up_eq, trivial⟩) (pc' := 75) rfl ?_
          refine T_ld zk_54_75 rfl rfl rfl (pc' := 76) rfl ?_
          refine T_ld zk_54_76 rfl rfl rfl (pc' := 77) rfl ?_
          refine T_op zk_54_77 rfl X_ic (pc' := 78) rfl ?_
          refine T_opc (w := 14) zk_54_78 rfl X_add (by omega) (pc' := 79) rfl ?_
          refine T_calli (K := fun y29 σ' => (y29 = 0 ∨ y29 = 1) ∧ (fun σ' => IF MR σ σ' ∧ True) σ') (r := []) zk_54_79 rfl rfl rfl rfl rfl rfl (Or.inr ⟨_, _, _, _, rfl, vd_29, rfl⟩) (fun σ' h => (w_54_14   σ' h.1.1 ).le (Nat.le_of_ble_eq_true rfl) (fun v σ2 ⟨y, h1, h2, h3, h4⟩ => ⟨y, h1, h2, h.1.tr h3 (fun _ _ _ _ h => h), trivial⟩)) (pc' := 82) rfl (fun y29 => ?_)
          refine G_ex (fun hy29 => ?_)
          refine T_st (L' := [(0, av 29 0 0), (1, iv 13), (2, iv y29)]) zk_54_82 (nL := 3) rfl rfl rfl rfl rfl (pc' := 83) rfl ?_
          refine T_ld zk_54_83 rfl rfl rfl (pc' := 84) rfl ?_
          refine T_getR (t' := 30) (i' := 0) (k' := 0) zk_54_84 rfl rfl rfl vd_29 (pc' := 87) rfl ?_
          refine T_op zk_54_87 rfl X_ic (pc' := 88) rfl ?_
          refine T_callv (J' := (fun σ' => IF MR σ σ' ∧ True)) (r := []) zk_54_88 rfl rfl rfl rfl rfl rfl (Or.inr ⟨_, _, _, _, rfl, vd_30, rfl⟩) (fun σ' h => (w_42 ((-1)) (by omega) σ' h.1.1 ).le (Nat.le_of_ble_eq_true rfl) (fun v σ2 ⟨h1, h3, h4⟩ => ⟨h1, h.1.tr h3 (fun _ _ _ _ h => h), trivial⟩)) (pc' := 91) rfl ?_
          refine T_ld zk_54_91 rfl rfl rfl (pc' := 92) rfl ?_
          exact T_zret zk_54_92 rfl (by omega) (fun σ' h => ⟨_, rfl, (by omega), h.1, trivial⟩)
        ·
          refine T_ld zk_54_40 rfl rfl rfl (pc' := 41) rfl ?_
          refine T_ld zk_54_41 rfl rfl rfl (pc' := 42) rfl ?_
          refine T_op zk_54_42 rfl X_ic (pc' := 43) rfl ?_
          refine T_opc (w := 14) zk_54_43 rfl X_add (by omega) (pc' := 44) rfl ?_
          refine T_calli (K := fun y31 σ' => (y31 = 0 ∨ y31 = 1) ∧ (fun σ' => IF MR σ σ' ∧ True) σ') (r := []) zk_54_44 rfl rfl rfl rfl rfl rfl (Or.inr ⟨_, _, _, _, rfl, vd_29, rfl⟩) (fun σ' h => (w_52_14   σ' h.1.1 ).le (Nat.le_of_ble_eq_true rfl) (fun v σ2 ⟨y, h1, h2, h3, h4⟩ => ⟨y, h1, h2, h.1.tr h3 (fun _ _ _ _ h => h), trivial⟩)) (pc' := 47) rfl (fun y31 => ?_)
          refine G_ex (fun hy31 => ?_)
          refine T_if_eq zk_54_47 (by omega) (pc' := 50) rfl (fun h32 => ?_) (fun h33 => ?_)
          ·
            refine T_op zk_54_63 rfl X_ic (pc' := 64) rfl ?_
            exact T_zret zk_54_64 rfl (by omega) (fun σ' h => ⟨_, rfl, (by omega), h.1, trivial⟩)
          ·
            refine T_ld zk_54_50 rfl rfl rfl (pc' := 51) rfl ?_
            refine T_op zk_54_51 rfl (X_bi (v := 41) (by decide)) (pc' := 53) rfl ?_
            refine T_calli (K := fun y34 σ' => (y34 = 0 ∨ y34 = 1) ∧ (fun σ' => IF MR σ σ' ∧ True) σ') (r := []) zk_54_53 rfl rfl rfl rfl rfl rfl (Or.inr ⟨_, _, _, _, rfl, vd_29, rfl⟩) (fun σ' h => (w_50 41 (by omega) σ' h.1.1 ).le (Nat.le_of_ble_eq_true rfl) (fun v σ2 ⟨y, h1, h2, h3, h4⟩ => ⟨y, h1, h2, h.1.tr h3 (fun _ _ _ _ h => h), trivial⟩)) (pc' := 56) rfl (fun y34 => ?_)
            refine G_ex (fun hy34 => ?_)
            refine T_if_eq zk_54_56 (by omega) (pc' := 59) rfl (fun h35 => ?_) (fun h36 => ?_)
            ·
              refine T_op zk_54_63 rfl X_ic (pc' := 64) rfl ?_
              exact T_zret zk_54_64 rfl (by omega) (fun σ' h => ⟨_, rfl, (by omega), h.1, trivial⟩)
            ·
              refine T_op zk_54_59 rfl X_ic (pc' := 60) rfl ?_
              refine T_goto zk_54_60 ?_
              exact T_zret zk_54_64 rfl (by omega) (fun σ' h => ⟨_, rfl, (by omega), h.1, trivial⟩)
      · exfalso; omega
    ·
      refine T_ld zk_54_18 rfl rfl rfl (pc' := 19) rfl ?_
      refine T_calli (K := fun y37 σ' => (y37 = 0 ∨ y37 = 1) ∧ (fun σ' => IF MR σ σ' ∧ True) σ') (r := []) zk_54_19 rfl rfl rfl rfl rfl rfl (Or.inr ⟨_, _, _, _, rfl, vd_29, rfl⟩) (fun σ' h => (w_55   σ' h.1.1 ).le (Nat.le_of_ble_eq_true rfl) (fun v σ2 ⟨y, h1, h2, h3, h4⟩ => ⟨y, h1, h2, h.1.tr h3 (fun _ _ _ _ h => h), trivial⟩)) (pc' := 22) rfl (fun y37 => ?_)
      refine G_ex (fun hy37 => ?_)
      exact T_zret zk_54_22 rfl (by omega) (fun σ' h => ⟨_, rfl, (by omega), h.1, trivial⟩)
/-- W$LawReader.readBoth -/
theorem w_53_13 {xs : Nat × (Nat → Int32)}   (σ : ZS) (hI : Inv σ)   : CT xs 26 53 [av 29 0 0, iv 13] σ (fun v σ' => ∃ y, v = some (iv y) ∧ (y = 0 ∨ y = 1) ∧ IF MR σ σ' ∧ (True)) := by
  refine G_ct (J := (fun σ' => IF MR σ σ' ∧ True)) (L := [(0, av 29 0 0), (1, iv 13)]) (nL := 4) rfl rfl rfl ⟨IF.rf hI, trivial⟩ ?_
  refine T_ld zk_53_0 rfl rfl rfl (pc' := 1) rfl ?_
  refine T_ld zk_53_1 rfl rfl rfl (pc' := 2) rfl ?_
  refine T_calli (K := fun y1 σ' => (y1 = 0 ∨ y1 = 1) ∧ (fun σ' => IF MR σ σ' ∧ True) σ') (r := []) zk_53_2 rfl rfl rfl rfl rfl rfl (Or.inr ⟨_, _, _, _, rfl, vd_29, rfl⟩) (fun σ' h => (w_54_13   σ' h.1.1 ).le (Nat.le_of_ble_eq_true rfl) (fun v σ2 ⟨y, h1, h2, h3, h4⟩ => ⟨y, h1, h2, h.1.tr h3 (fun _ _ _ _ h => h), trivial⟩)) (pc' := 5) rfl (fun y1 => ?_)
  refine G_ex (fun hy1 => ?_)
  refine T_st (L' := [(0, av 29 0 0), (1, iv 13), (2, iv y1)]) zk_53_5 (nL := 4) rfl rfl rfl rfl rfl (pc' := 6) rfl ?_
  refine T_op zk_53_6 rfl X_ic (pc' := 7) rfl ?_
  refine T_st (L' := [(0, av 29 0 0), (1, iv 13), (2, iv y1), (3, iv 0)]) zk_53_7 (nL := 4) rfl rfl rfl rfl rfl (pc' := 8) rfl ?_
  refine T_loop2 (fun x2 x3 => ((96 - x3 : Int)).toNat) (fun x2 x3 => (0 ≤ x2 ∧ x2 ≤ 1) ∧ (0 ≤ x3 ∧ x3 ≤ 96)) (fun x2 x3 => TJ xs (fun σ' => IF MR σ σ' ∧ True) 25 53 8 [(0, av 29 0 0), (1, iv 13), (2, iv x2), (3, iv x3)] [] _) ?_ y1 0 (by omega)
  intro x2 x3 hp5 ih4
  refine T_ld zk_53_8 rfl rfl rfl (pc' := 9) rfl ?_
  refine T_op zk_53_9 rfl (X_bi (v := 96) (by decide)) (pc' := 11) rfl ?_
  refine T_icmp_ge zk_53_11 (by omega) (by omega) (pc' := 14) rfl (fun h6 => ?_) (fun h7 => ?_)
  ·
    refine T_ld zk_53_48 rfl rfl rfl (pc' := 49) rfl ?_
    exact T_zret zk_53_49 rfl (by omega) (fun σ' h => ⟨_, rfl, (by omega), h.1, trivial⟩)
  ·
    refine T_ld zk_53_14 rfl rfl rfl (pc' := 15) rfl ?_
    refine T_if_eq zk_53_15 (by omega) (pc' := 18) rfl (fun h8 => ?_) (fun h9 => ?_)
    ·
      refine T_ld zk_53_48 rfl rfl rfl (pc' := 49) rfl ?_
      exact T_zret zk_53_49 rfl (by omega) (fun σ' h => ⟨_, rfl, (by omega), h.1, trivial⟩)
    ·
      refine T_ld zk_53_18 rfl rfl rfl (pc' := 19) rfl ?_
      refine T_op zk_53_19 rfl (X_bi (v := 38) (by decide)) (pc' := 21) rfl ?_
      refine T_calli (K := fun y10 σ' => (y10 = 0 ∨ y10 = 1) ∧ (fun σ' => IF MR σ σ' ∧ True) σ') (r := []) zk_53_21 rfl rfl rfl rfl rfl rfl (Or.inr ⟨_, _, _, _, rfl, vd_29, rfl⟩) (fun σ' h => (w_50 38 (by omega) σ' h.1.1 ).le (Nat.le_of_ble_eq_true rfl) (fun v σ2 ⟨y, h1, h2, h3, h4⟩ => ⟨y, h1, h2, h.1.tr h3 (fun _ _ _ _ h => h), trivial⟩)) (pc' := 24) rfl (fun y10 => ?_)
      refine G_ex (fun hy10 => ?_)
      refine T_if_eq zk_53_24 (by omega) (pc' := 27) rfl (fun h11 => ?_) (fun h12 => ?_)
      ·
        refine T_ld zk_53_48 rfl rfl rfl (pc' := 49) rfl ?_
        exact T_zret zk_53_49 rfl (by omega) (fun σ' h => ⟨_, rfl, (by omega), h.1, trivial⟩)
      ·
        refine T_ld zk_53_27 rfl rfl rfl (pc' := 28) rfl ?_
        refine T_ld zk_53_28 rfl rfl rfl (pc' := 29) rfl ?_
        refine T_calli (K := fun y13 σ' => (y13 = 0 ∨ y13 = 1) ∧ (fun σ' => IF MR σ σ' ∧ True) σ') (r := []) zk_53_29 rfl rfl rfl rfl rfl rfl (Or.inr ⟨_, _, _, _, rfl, vd_29, rfl⟩) (fun σ' h => (w_54_13   σ' h.1.1 ).le (Nat.le_of_ble_eq_true rfl) (fun v σ2 ⟨y, h1, h2, h3, h4⟩ => ⟨y, h1, h2, h.1.tr h3 (fun _ _ _ _ h => h), trivial⟩)) (pc' := 32) rfl (fun y13 => ?_)
        refine G_ex (fun hy13 => ?_)
        refine T_st (L' := [(0, av 29 0 0), (1, iv 13), (2, iv y13), (3, iv x3)]) zk_53_32 (nL := 4) rfl rfl rfl rfl rfl (pc' := 33) rfl ?_
        refine T_ld zk_53_33 rfl rfl rfl (pc' := 34) rfl ?_
        refine T_getR (t' := 30) (i' := 0) (k' := 0) zk_53_34 rfl rfl rfl vd_29 (pc' := 37) rfl ?_
        refine T_op zk_53_37 rfl (X_bi (v := -2) (by decide)) (pc' := 39) rfl ?_
        refine T_callv (J' := (fun σ' => IF MR σ σ' ∧ True)) (r := []) zk_53_39 rfl rfl rfl rfl rfl rfl (Or.inr ⟨_, _, _, _, rfl, vd_30, rfl⟩) (fun σ' h => (w_42 ((-2)) (by omega) σ' h.1.1 ).le (Nat.le_of_ble_eq_true rfl) (fun v σ2 ⟨h1, h3, h4⟩ => ⟨h1, h.1.tr h3 (fun _ _ _ _ h => h), trivial⟩)) (pc' := 42) rfl ?_
        refine T_iinc (L' := [(0, av 29 0 0), (1, iv 13), (2, iv y13), (3, iv (x3 + 1))]) zk_53_42 (nL := 4) rfl rfl rfl rfl (pc' := 45) rfl ?_
        refine T_goto zk_53_45 ?_
        exact ih4 y13 (x3 + 1) (by omega) (by omega)
/-- W$LawReader.readEither -/
theorem w_52_13 {xs : Nat × (Nat → Int32)}   (σ : ZS) (hI : Inv σ)   : CT xs 27 52 [av 29 0 0, iv 13] σ (fun v σ' => ∃ y, v = some (iv y) ∧ (y = 0 ∨ y = 1) ∧ IF MR σ σ' ∧ (True)) := by
  refine G_ct (J := (fun σ' => IF MR σ σ' ∧ True)) (L := [(0, av 29 0 0), (1, iv 13)]) (nL := 4) rfl rfl rfl ⟨IF.rf hI, trivial⟩ ?_
  refine T_ld zk_52_0 rfl rfl rfl (pc' := 1) rfl ?_
  refine T_ld zk_52_1 rfl rfl rfl (pc' := 2) rfl ?_
  refine T_calli (K := fun y1 σ' => (y1 = 0 ∨ y1 = 1) ∧ (fun σ' => IF MR σ σ' ∧ True) σ') (r := []) zk_52_2 rfl rfl rfl rfl rfl rfl (Or.inr ⟨_, _, _, _, rfl, vd_29, rfl⟩) (fun σ' h => (w_53_13   σ' h.1.1 ).le (Nat.le_of_ble_eq_true rfl) (fun v σ2 ⟨y, h1, h2, h3, h4⟩ => ⟨y, h1, h2, h.1.tr h3 (fun _ _ _ _ h => h), trivial⟩)) (pc' := 5) rfl (fun y1 => ?_)
  refine G_ex (fun hy1 => ?_)
  refine T_st (L' := [(0, av 29 0 0), (1, iv 13), (2, iv y1)]) zk_52_5 (nL := 4) rfl rfl rfl rfl rfl (pc' := 6) rfl ?_
  refine T_op zk_52_6 rfl X_ic (pc' := 7) rfl ?_
  refine T_st (L' := [(0, av 29 0 0), (1, iv 13), (2, iv y1), (3, iv 0)]) zk_52_7 (nL := 4) rfl rfl rfl rfl rfl (pc' := 8) rfl ?_
  refine T_loop2 (fun x2 x3 => ((96 - x3 : Int)).toNat) (fun x2 x3 => (0 ≤ x2 ∧ x2 ≤ 1) ∧ (0 ≤ x3 ∧ x3 ≤ 96)) (fun x2 x3 => TJ xs (fun σ' => IF MR σ σ' ∧ True) 26 52 8 [(0, av 29 0 0), (1, iv 13), (2, iv x2), (3, iv x3)] [] _) ?_ y1 0 (by omega)
  intro x2 x3 hp5 ih4
  refine T_ld zk_52_8 rfl rfl rfl (pc' := 9) rfl ?_
  refine T_op zk_52_9 rfl (X_bi (v := 96) (by decide)) (pc' := 11) rfl ?_
  refine T_icmp_ge zk_52_11 (by omega) (by omega) (pc' := 14) rfl (fun h6 => ?_) (fun h7 => ?_)
  ·
    refine T_ld zk_52_48 rfl rfl rfl (pc' := 49) rfl ?_
    exact T_zret zk_52_49 rfl (by omega) (fun σ' h => ⟨_, rfl, (by omega), h.1, trivial⟩)
  ·
    refine T_ld zk_52_14 rfl rfl rfl (pc' := 15) rfl ?_
    refine T_if_eq zk_52_15 (by omega) (pc' := 18) rfl (fun h8 => ?_) (fun h9 => ?_)
    ·
      refine T_ld zk_52_48 rfl rfl rfl (pc' := 49) rfl ?_
      exact T_zret zk_52_49 rfl (by omega) (fun σ' h => ⟨_, rfl, (by omega), h.1, trivial⟩)
    ·
      refine T_ld zk_52_18 rfl rfl rfl (pc' := 19) rfl ?_
      refine T_op zk_52_19 rfl (X_bi (v := 124) (by decide)) (pc' := 21) rfl ?_
      refine T_calli (K := fun y10 σ' => (y10 = 0 ∨ y10 = 1) ∧ (fun σ' => IF MR σ σ' ∧ True) σ') (r := []) zk_52_21 rfl rfl rfl rfl rfl rfl (Or.inr ⟨_, _, _, _, rfl, vd_29, rfl⟩) (fun σ' h => (w_50 124 (by omega) σ' h.1.1 ).le (Nat.le_of_ble_eq_true rfl) (fun v σ2 ⟨y, h1, h2, h3, h4⟩ => ⟨y, h1, h2, h.1.tr h3 (fun _ _ _ _ h => h), trivial⟩)) (pc' := 24) rfl (fun y10 => ?_)
      refine G_ex (fun hy10 => ?_)
      refine T_if_eq zk_52_24 (by omega) (pc' := 27) rfl (fun h11 => ?_) (fun h12 => ?_)
      ·
        refine T_ld zk_52_48 rfl rfl rfl (pc' := 49) rfl ?_
        exact T_zret zk_52_49 rfl (by omega) (fun σ' h => ⟨_, rfl, (by omega), h.1, trivial⟩)
      ·
        refine T_ld zk_52_27 rfl rfl rfl (pc' := 28) rfl ?_
        refine T_ld zk_52_28 rfl rfl rfl (pc' := 29) rfl ?_
        refine T_calli (K := fun y13 σ' => (y13 = 0 ∨ y13 = 1) ∧ (fun σ' => IF MR σ σ' ∧ True) σ') (r := []) zk_52_29 rfl rfl rfl rfl rfl rfl (Or.inr ⟨_, _, _, _, rfl, vd_29, rfl⟩) (fun σ' h => (w_53_13   σ' h.1.1 ).le (Nat.le_of_ble_eq_true rfl) (fun v σ2 ⟨y, h1, h2, h3, h4⟩ => ⟨y, h1, h2, h.1.tr h3 (fun _ _ _ _ h => h), trivial⟩)) (pc' := 32) rfl (fun y13 => ?_)
        refine G_ex (fun hy13 => ?_)
        refine T_st (L' := [(0, av 29 0 0), (1, iv 13), (2, iv y13), (3, iv x3)]) zk_52_32 (nL := 4) rfl rfl rfl rfl rfl (pc' := 33) rfl ?_
        refine T_ld zk_52_33 rfl rfl rfl (pc' := 34) rfl ?_
        refine T_getR (t' := 30) (i' := 0) (k' := 0) zk_52_34 rfl rfl rfl vd_29 (pc' := 37) rfl ?_
        refine T_op zk_52_37 rfl (X_bi (v := -3) (by decide)) (pc' := 39) rfl ?_
        refine T_callv (J' := (fun σ' => IF MR σ σ' ∧ True)) (r := []) zk_52_39 rfl rfl rfl rfl rfl rfl (Or.inr ⟨_, _, _, _, rfl, vd_30, rfl⟩) (fun σ' h => (w_42 ((-3)) (by omega) σ' h.1.1 ).le (Nat.le_of_ble_eq_true rfl) (fun v σ2 ⟨h1, h3, h4⟩ => ⟨h1, h.1.tr h3 (fun _ _ _ _ h => h), trivial⟩)) (pc' := 42) rfl ?_
        refine T_iinc (L' := [(0, av 29 0 0), (1, iv 13), (2, iv y13), (3, iv (x3 + 1))]) zk_52_42 (nL := 4) rfl rfl rfl rfl (pc' := 45) rfl ?_
        refine T_goto zk_52_45 ?_
        exact ih4 y13 (x3 + 1) (by omega) (by omega)
/-- W$LawReader.readPart -/
theorem w_54_12 {xs : Nat × (Nat → Int32)}   (σ : ZS) (hI : Inv σ)   : CT xs 28 54 [av 29 0 0, iv 12] σ (fun v σ' => ∃ y, v = some (iv y) ∧ (y = 0 ∨ y = 1) ∧ IF MR σ σ' ∧ (True)) := by
  refine G_ct (J := (fun σ' => IF MR σ σ' ∧ True)) (L := [(0, av 29 0 0), (1, iv 12)]) (nL := 3) rfl rfl rfl ⟨IF.rf hI, trivial⟩ ?_
  refine T_ld zk_54_0 rfl rfl rfl (pc' := 1) rfl ?_
  refine T_calli (K := fun y1 σ' => (-2147483648 ≤ y1 ∧ y1 ≤ 2147483647) ∧ (fun σ' => IF MR σ σ' ∧ True) σ') (r := []) zk_54_1 rfl rfl rfl rfl rfl rfl (Or.inr ⟨_, _, _, _, rfl, vd_29, rfl⟩) (fun σ' h => (w_49   σ' h.1.1 ).le (Nat.le_of_ble_eq_true rfl) (fun v σ2 ⟨y, h1, h2, h3, h4⟩ => ⟨y, h1, h2, h.1.tr h3 MN_sub, trivial⟩)) (pc' := 4) rfl (fun y1 => ?_)
  refine G_ex (fun hy1 => ?_)
  refine T_op zk_54_4 rfl (X_bi (v := 33) (by decide)) (pc' := 6) rfl ?_
  refine T_icmp_eq zk_54_6 (by omega) (by omega) (pc' := 9) rfl (fun h2 => ?_) (fun h3 => ?_)
  ·
    refine T_ld zk_54_23 rfl rfl rfl (pc' := 24) rfl ?_
    refine T_op zk_54_24 rfl (X_bi (v := 20) (by decide)) (pc' := 26) rfl ?_
    refine T_icmp_lt zk_54_26 (by omega) (by omega) (pc' := 29) rfl (fun h4 => ?_) (fun h5 => ?_)
    ·
      refine T_ld zk_54_31 rfl rfl rfl (pc' := 32) rfl ?_
      refine T_op zk_54_32 rfl (X_bi (v := 40) (by decide)) (pc' := 34) rfl ?_
      refine T_calli (K := fun y6 σ' => (y6 = 0 ∨ y6 = 1) ∧ (fun σ' => IF MR σ σ' ∧ True) σ') (r := []) zk_54_34 rfl rfl rfl rfl rfl rfl (Or.inr ⟨_, _, _, _, rfl, vd_29, rfl⟩) (fun σ' h => (w_50 40 (by omega) σ' h.1.1 ).le (Nat.le_of_ble_eq_true rfl) (fun v σ2 ⟨y, h1, h2, h3, h4⟩ => ⟨y, h1, h2, h.1.tr h3 (fun _ _ _ _ h => h), trivial⟩)) (pc' := 37) rfl (fun y6 => ?_)
      refine G_ex (fun hy6 => ?_)
      refine T_if_eq zk_54_37 (by omega) (pc' := 40) rfl (fun h7 => ?_) (fun h8 => ?_)
      ·
        refine T_ld zk_54_65 rfl rfl rfl (pc' := 66) rfl ?_
        refine T_op (st' := [av 29 0 0, av 29 0 0]) zk_54_66 rfl rfl (pc' := 67) rfl ?_
        refine G_getf (lo := -2147483648) (hi := 2147483647) zk_54_67 rfl vd_29 (fun σ' h => h.1.1) (fun _ h => (by have q := h.1; omega)) (pc' := 70) rfl (fun y9 hy9 hy9' => ?_)
        refine T_op zk_54_70 rfl X_ic (pc' := 71) rfl ?_
        refine G_unk zk_54_71 rfl (pc' := 72) rfl (fun y10 hy10 hy10' => ?_)
        refine T_putf (J' := (fun σ' => IF MR σ σ' ∧ σ' 29 0 0 3 = y10 ∧ True)) zk_54_72 rfl rfl vd_29 (fun σ' h => ⟨h.1.up (by simp only [rgP] <;> omega) (by first | exact pMR rfl | (unfold MR; omega)), up_eq, trivial⟩) (pc' := 75) rfl ?_
        refine T_ld zk_54_75 rfl rfl rfl (pc' := 76) rfl ?_
        refine T_ld zk_54_76 rfl rfl rfl (pc' := 77) rfl ?_
        refine T_op zk_54_77 rfl X_ic (pc' := 78) rfl ?_
        refine T_opc (w := 13) zk_54_78 rfl X_add (by omega) (pc' := 79) rfl ?_
        refine T_calli (K := fun y11 σ' => (y11 = 0 ∨ y11 = 1) ∧ (fun σ' => IF MR σ σ' ∧ True) σ') (r := []) zk_54_79 rfl rfl rfl rfl rfl rfl (Or.inr ⟨_, _, _, _, rfl, vd_29, rfl⟩) (fun σ' h => (w_54_13   σ' h.1.1 ).le (Nat.le_of_ble_eq_true rfl) (fun v σ2 ⟨y, h1, h2, h3, h4⟩ => ⟨y, h1, h2, h.1.tr h3 (fun _ _ _ _ h => h), trivial⟩)) (pc' := 82) rfl (fun y11 => ?_)
        refine G_ex (fun hy11 => ?_)
        refine T_st (L' := [(0, av 29 0 0), (1, iv 12), (2, iv y11)]) zk_54_82 (nL := 3) rfl rfl rfl rfl rfl (pc' := 83) rfl ?_
        refine T_ld zk_54_83 rfl rfl rfl (pc' := 84) rfl ?_
        refine T_getR (t' := 30) (i' := 0) (k' := 0) zk_54_84 rfl rfl rfl vd_29 (pc' := 87) rfl ?_
        refine T_op zk_54_87 rfl X_ic (pc' := 88) rfl ?_
        refine T_callv (J' := (fun σ' => IF MR σ σ' ∧ True)) (r := []) zk_54_88 rfl rfl rfl rfl rfl rfl (Or.inr ⟨_, _, _, _, rfl, vd_30, rfl⟩) (fun σ' h => (w_42 ((-1)) (by omega) σ' h.1.1 ).le (Nat.le_of_ble_eq_true rfl) (fun v σ2 ⟨h1, h3, h4⟩ => ⟨h1, h.1.tr h3 (fun _ _ _ _ h => h), trivial⟩)) (pc' := 91) rfl ?_
        refine T_ld zk_54_91 rfl rfl rfl (pc' := 92) rfl ?_
        exact T_zret zk_54_92 rfl (by omega) (fun σ' h => ⟨_, rfl, (by omega), h.1, trivial⟩)
      ·
        refine T_ld zk_54_40 rfl rfl rfl (pc' := 41) rfl ?_
        refine T_ld zk_54_41 rfl rfl rfl (pc' := 42) rfl ?_
        refine T_op zk_54_42 rfl X_ic (pc' := 43) rfl ?_
        refine T_opc (w := 13) zk_54_43 rfl X_add (by omega) (pc' := 44) rfl ?_
        refine T_calli (K := fun y13 σ' => (y13 = 0 ∨ y13 = 1) ∧ (fun σ' => IF MR σ σ' ∧ True) σ') (r := []) zk_54_44 rfl rfl rfl rfl rfl rfl (Or.inr ⟨_, _, _, _, rfl, vd_29, rfl⟩) (fun σ' h => (w_52_13   σ' h.1.1 ).le (Nat.le_of_ble_eq_true rfl) (fun v σ2 ⟨y, h1, h2, h3, h4⟩ => ⟨y, h1, h2, h.1.tr h3 (fun _ _ _ _ h => h), trivial⟩)) (pc' := 47) rfl (fun y13 => ?_)
        refine G_ex (fun hy13 => ?_)
        refine T_if_eq zk_54_47 (by omega) (pc' := 50) rfl (fun h14 => ?_) (fun h15 => ?_)
        ·
          refine T_op zk_54_63 rfl X_ic (pc' := 64) rfl ?_
          exact T_zret zk_54_64 rfl (by omega) (fun σ' h => ⟨_, rfl, (by omega), h.1, trivial⟩)
        ·
          refine T_ld zk_54_50 rfl rfl rfl (pc' := 51) rfl ?_
          refine T_op zk_54_51 rfl (X_bi (v := 41) (by decide)) (pc' := 53) rfl ?_
          refine T_calli (K := fun y16 σ' => (y16 = 0 ∨ y16 = 1) ∧ (fun σ' => IF MR σ σ' ∧ True) σ') (r := []) zk_54_53 rfl rfl rfl rfl rfl rfl (Or.inr ⟨_, _, _, _, rfl, vd_29, rfl⟩) (fun σ' h => (w_50 41 (by omega) σ' h.1.1 ).le (Nat.le_of_ble_eq_true rfl) (fun v σ2 ⟨y, h1, h2, h3, h4⟩ => ⟨y, h1, h2, h.1.tr h3 (fun _ _ _ _ h => h), trivial⟩)) (pc' := 56) rfl (fun y16 => ?_)
          refine G_ex (fun hy16 => ?_)
          refine T_if_eq zk_54_56 (by omega) (pc' := 59) rfl (fun h17 => ?_) (fun h18 => ?_)
          ·
            refine T_op zk_54_63 rfl X_ic (pc' := 64) rfl ?_
            exact T_zret zk_54_64 rfl (by omega) (fun σ' h => ⟨_, rfl, (by omega), h.1, trivial⟩)
          ·
            refine T_op zk_54_59 rfl X_ic (pc' := 60) rfl ?_
            refine T_goto zk_54_60 ?_
            exact T_zret zk_54_64 rfl (by omega) (fun σ' h => ⟨_, rfl, (by omega), h.1, trivial⟩)
    · exfalso; omega
  ·
    refine T_ld zk_54_9 rfl rfl rfl (pc' := 10) rfl ?_
    refine T_calli (K := fun y19 σ' => (-2147483648 ≤ y19 ∧ y19 ≤ 2147483647) ∧ (fun σ' => IF MR σ σ' ∧ True) σ') (r := []) zk_54_10 rfl rfl rfl rfl rfl rfl (Or.inr ⟨_, _, _, _, rfl, vd_29, rfl⟩) (fun σ' h => (w_49   σ' h.1.1 ).le (Nat.le_of_ble_eq_true rfl) (fun v σ2 ⟨y, h1, h2, h3, h4⟩ => ⟨y, h1, h2, h.1.tr h3 MN_sub, trivial⟩)) (pc' := 13) rfl (fun y19 => ?_)
    refine G_ex (fun hy19 => ?_)
    refine T_op zk_54_13 rfl (X_bi (v := 40) (by decide)) (pc' := 15) rfl ?_
    refine T_icmp_eq zk_54_15 (by omega) (by omega) (pc' := 18) rfl (fun h20 => ?_) (fun h21 => ?_)
    ·
      refine T_ld zk_54_23 rfl rfl rfl (pc' := 24) rfl ?_
      refine T_op zk_54_24 rfl (X_bi (v := 20) (by decide)) (pc' := 26) rfl ?_
      refine T_icmp_lt zk_54_26 (by omega) (by omega) (pc' := 29) rfl (fun h22 => ?_) (fun h23 => ?_)
      ·
        refine T_ld zk_54_31 rfl rfl rfl (pc' := 32) rfl ?_
        refine T_op zk_54_32 rfl (X_bi (v := 40) (by decide)) (pc' := 34) rfl ?_
        refine T_calli (K := fun y24 σ' => (y24 = 0 ∨ y24 = 1) ∧ (fun σ' => IF MR σ σ' ∧ True) σ') (r := []) zk_54_34 rfl rfl rfl rfl rfl rfl (Or.inr ⟨_, _, _, _, rfl, vd_29, rfl⟩) (fun σ' h => (w_50 40 (by omega) σ' h.1.1 ).le (Nat.le_of_ble_eq_true rfl) (fun v σ2 ⟨y, h1, h2, h3, h4⟩ => ⟨y, h1, h2, h.1.tr h3 (fun _ _ _ _ h => h), trivial⟩)) (pc' := 37) rfl (fun y24 => ?_)
        refine G_ex (fun hy24 => ?_)
        refine T_if_eq zk_54_37 (by omega) (pc' := 40) rfl (fun h25 => ?_) (fun h26 => ?_)
        ·
          refine T_ld zk_54_65 rfl rfl rfl (pc' := 66) rfl ?_
          refine T_op (st' := [av 29 0 0, av 29 0 0]) zk_54_66 rfl rfl (pc' := 67) rfl ?_
          refine G_getf (lo := -2147483648) (hi := 2147483647) zk_54_67 rfl vd_29 (fun σ' h => h.1.1) (fun _ h => (by have q := h.1; omega)) (pc' := 70) rfl (fun y27 hy27 hy27' => ?_)
          refine T_op zk_54_70 rfl X_ic (pc' := 71) rfl ?_
          refine G_unk zk_54_71 rfl (pc' := 72) rfl (fun y28 hy28 hy28' => ?_)
          refine T_putf (J' := (fun σ' => IF MR σ σ' ∧ σ' 29 0 0 3 = y28 ∧ True)) zk_54_72 rfl rfl vd_29 (fun σ' h => ⟨h.1.up (by simp only [rgP] <;> omega) (by first | exact pMR rfl | (unfold MR; omega)), up_eq, trivial⟩) (pc' := 75) rfl ?_
          refine T_ld zk_54_75 rfl rfl rfl (pc' := 76) rfl ?_
          refine T_ld zk_54_76 rfl rfl rfl (pc' := 77) rfl ?_
          refine T_op zk_54_77 rfl X_ic (pc' := 78) rfl ?_
          refine T_opc (w := 13) zk_54_78 rfl X_add (by omega) (pc' := 79) rfl ?_
          refine T_calli (K := fun y29 σ' => (y29 = 0 ∨ y29 = 1) ∧ (fun σ' => IF MR σ σ' ∧ True) σ') (r := []) zk_54_79 rfl rfl rfl rfl rfl rfl (Or.inr ⟨_, _, _, _, rfl, vd_29, rfl⟩) (fun σ' h => (w_54_13   σ' h.1.1 ).le (Nat.le_of_ble_eq_true rfl) (fun v σ2 ⟨y, h1, h2, h3, h4⟩ => ⟨y, h1, h2, h.1.tr h3 (fun _ _ _ _ h => h), trivial⟩)) (pc' := 82) rfl (fun y29 => ?_)
          refine G_ex (fun hy29 => ?_)
          refine T_st (L' := [(0, av 29 0 0), (1, iv 12), (2, iv y29)]) zk_54_82 (nL := 3) rfl rfl rfl rfl rfl (pc' := 83) rfl ?_
          refine T_ld zk_54_83 rfl rfl rfl (pc' := 84) rfl ?_
          refine T_getR (t' := 30) (i' := 0) (k' := 0) zk_54_84 rfl rfl rfl vd_29 (pc' := 87) rfl ?_
          refine T_op zk_54_87 rfl X_ic (pc' := 88) rfl ?_
          refine T_callv (J' := (fun σ' => IF MR σ σ' ∧ True)) (r := []) zk_54_88 rfl rfl rfl rfl rfl rfl (Or.inr ⟨_, _, _, _, rfl, vd_30, rfl⟩) (fun σ' h => (w_42 ((-1)) (by omega) σ' h.1.1 ).le (Nat.le_of_ble_eq_true rfl) (fun v σ2 ⟨h1, h3, h4⟩ => ⟨h1, h.1.tr h3 (fun _ _ _ _ h => h), trivial⟩)) (pc' := 91) rfl ?_
          refine T_ld zk_54_91 rfl rfl rfl (pc' := 92) rfl ?_
          exact T_zret zk_54_92 rfl (by omega) (fun σ' h => ⟨_, rfl, (by omega), h.1, trivial⟩)
        ·
          refine T_ld zk_54_40 rfl rfl rfl (pc' := 41) rfl ?_
          refine T_ld zk_54_41 rfl rfl rfl (pc' := 42) rfl ?_
          refine T_op zk_54_42 rfl X_ic (pc' := 43) rfl ?_
          refine T_opc (w := 13) zk_54_43 rfl X_add (by omega) (pc' := 44) rfl ?_
          refine T_calli (K := fun y31 σ' => (y31 = 0 ∨ y31 = 1) ∧ (fun σ' => IF MR σ σ' ∧ True) σ') (r := []) zk_54_44 rfl rfl rfl rfl rfl rfl (Or.inr ⟨_, _, _, _, rfl, vd_29, rfl⟩) (fun σ' h => (w_52_13   σ' h.1.1 ).le (Nat.le_of_ble_eq_true rfl) (fun v σ2 ⟨y, h1, h2, h3, h4⟩ => ⟨y, h1, h2, h.1.tr h3 (fun _ _ _ _ h => h), trivial⟩)) (pc' := 47) rfl (fun y31 => ?_)
          refine G_ex (fun hy31 => ?_)
          refine T_if_eq zk_54_47 (by omega) (pc' := 50) rfl (fun h32 => ?_) (fun h33 => ?_)
          ·
            refine T_op zk_54_63 rfl X_ic (pc' := 64) rfl ?_
            exact T_zret zk_54_64 rfl (by omega) (fun σ' h => ⟨_, rfl, (by omega), h.1, trivial⟩)
          ·
            refine T_ld zk_54_50 rfl rfl rfl (pc' := 51) rfl ?_
            refine T_op zk_54_51 rfl (X_bi (v := 41) (by decide)) (pc' := 53) rfl ?_
            refine T_calli (K := fun y34 σ' => (y34 = 0 ∨ y34 = 1) ∧ (fun σ' => IF MR σ σ' ∧ True) σ') (r := []) zk_54_53 rfl rfl rfl rfl rfl rfl (Or.inr ⟨_, _, _, _, rfl, vd_29, rfl⟩) (fun σ' h => (w_50 41 (by omega) σ' h.1.1 ).le (Nat.le_of_ble_eq_true rfl) (fun v σ2 ⟨y, h1, h2, h3, h4⟩ => ⟨y, h1, h2, h.1.tr h3 (fun _ _ _ _ h => h), trivial⟩)) (pc' := 56) rfl (fun y34 => ?_)
            refine G_ex (fun hy34 => ?_)
            refine T_if_eq zk_54_56 (by omega) (pc' := 59) rfl (fun h35 => ?_) (fun h36 => ?_)
            ·
              refine T_op zk_54_63 rfl X_ic (pc' := 64) rfl ?_
              exact T_zret zk_54_64 rfl (by omega) (fun σ' h => ⟨_, rfl, (by omega), h.1, trivial⟩)
            ·
              refine T_op zk_54_59 rfl X_ic (pc' := 60) rfl ?_
              refine T_goto zk_54_60 ?_
              exact T_zret zk_54_64 rfl (by omega) (fun σ' h => ⟨_, rfl, (by omega), h.1, trivial⟩)
      · exfalso; omega
    ·
      refine T_ld zk_54_18 rfl rfl rfl (pc' := 19) rfl ?_
      refine T_calli (K := fun y37 σ' => (y37 = 0 ∨ y37 = 1) ∧ (fun σ' => IF MR σ σ' ∧ True) σ') (r := []) zk_54_19 rfl rfl rfl rfl rfl rfl (Or.inr ⟨_, _, _, _, rfl, vd_29, rfl⟩) (fun σ' h => (w_55   σ' h.1.1 ).le (Nat.le_of_ble_eq_true rfl) (fun v σ2 ⟨y, h1, h2, h3, h4⟩ => ⟨y, h1, h2, h.1.tr h3 (fun _ _ _ _ h => h), trivial⟩)) (pc' := 22) rfl (fun y37 => ?_)
      refine G_ex (fun hy37 => ?_)
      exact T_zret zk_54_22 rfl (by omega) (fun σ' h => ⟨_, rfl, (by omega), h.1, trivial⟩)
/-- W$LawReader.readBoth -/
theorem w_53_12 {xs : Nat × (Nat → Int32)}   (σ : ZS) (hI : Inv σ)   : CT xs 29 53 [av 29 0 0, iv 12] σ (fun v σ' => ∃ y, v = some (iv y) ∧ (y = 0 ∨ y = 1) ∧ IF MR σ σ' ∧ (True)) := by
  refine G_ct (J := (fun σ' => IF MR σ σ' ∧ True)) (L := [(0, av 29 0 0), (1, iv 12)]) (nL := 4) rfl rfl rfl ⟨IF.rf hI, trivial⟩ ?_
  refine T_ld zk_53_0 rfl rfl rfl (pc' := 1) rfl ?_
  refine T_ld zk_53_1 rfl rfl rfl (pc' := 2) rfl ?_
  refine T_calli (K := fun y1 σ' => (y1 = 0 ∨ y1 = 1) ∧ (fun σ' => IF MR σ σ' ∧ True) σ') (r := []) zk_53_2 rfl rfl rfl rfl rfl rfl (Or.inr ⟨_, _, _, _, rfl, vd_29, rfl⟩) (fun σ' h => (w_54_12   σ' h.1.1 ).le (Nat.le_of_ble_eq_true rfl) (fun v σ2 ⟨y, h1, h2, h3, h4⟩ => ⟨y, h1, h2, h.1.tr h3 (fun _ _ _ _ h => h), trivial⟩)) (pc' := 5) rfl (fun y1 => ?_)
  refine G_ex (fun hy1 => ?_)
  refine T_st (L' := [(0, av 29 0 0), (1, iv 12), (2, iv y1)]) zk_53_5 (nL := 4) rfl rfl rfl rfl rfl (pc' := 6) rfl ?_
  refine T_op zk_53_6 rfl X_ic (pc' := 7) rfl ?_
  refine T_st (L' := [(0, av 29 0 0), (1, iv 12), (2, iv y1), (3, iv 0)]) zk_53_7 (nL := 4) rfl rfl rfl rfl rfl (pc' := 8) rfl ?_
  refine T_loop2 (fun x2 x3 => ((96 - x3 : Int)).toNat) (fun x2 x3 => (0 ≤ x2 ∧ x2 ≤ 1) ∧ (0 ≤ x3 ∧ x3 ≤ 96)) (fun x2 x3 => TJ xs (fun σ' => IF MR σ σ' ∧ True) 28 53 8 [(0, av 29 0 0), (1, iv 12), (2, iv x2), (3, iv x3)] [] _) ?_ y1 0 (by omega)
  intro x2 x3 hp5 ih4
  refine T_ld zk_53_8 rfl rfl rfl (pc' := 9) rfl ?_
  refine T_op zk_53_9 rfl (X_bi (v := 96) (by decide)) (pc' := 11) rfl ?_
  refine T_icmp_ge zk_53_11 (by omega) (by omega) (pc' := 14) rfl (fun h6 => ?_) (fun h7 => ?_)
  ·
    refine T_ld zk_53_48 rfl rfl rfl (pc' := 49) rfl ?_
    exact T_zret zk_53_49 rfl (by omega) (fun σ' h => ⟨_, rfl, (by omega), h.1, trivial⟩)
  ·
    refine T_ld zk_53_14 rfl rfl rfl (pc' := 15) rfl ?_
    refine T_if_eq zk_53_15 (by omega) (pc' := 18) rfl (fun h8 => ?_) (fun h9 => ?_)
    ·
      refine T_ld zk_53_48 rfl rfl rfl (pc' := 49) rfl ?_
      exact T_zret zk_53_49 rfl (by omega) (fun σ' h => ⟨_, rfl, (by omega), h.1, trivial⟩)
    ·
      refine T_ld zk_53_18 rfl rfl rfl (pc' := 19) rfl ?_
      refine T_op zk_53_19 rfl (X_bi (v := 38) (by decide)) (pc' := 21) rfl ?_
      refine T_calli (K := fun y10 σ' => (y10 = 0 ∨ y10 = 1) ∧ (fun σ' => IF MR σ σ' ∧ True) σ') (r := []) zk_53_21 rfl rfl rfl rfl rfl rfl (Or.inr ⟨_, _, _, _, rfl, vd_29, rfl⟩) (fun σ' h => (w_50 38 (by omega) σ' h.1.1 ).le (Nat.le_of_ble_eq_true rfl) (fun v σ2 ⟨y, h1, h2, h3, h4⟩ => ⟨y, h1, h2, h.1.tr h3 (fun _ _ _ _ h => h), trivial⟩)) (pc' := 24) rfl (fun y10 => ?_)
      refine G_ex (fun hy10 => ?_)
      refine T_if_eq zk_53_24 (by omega) (pc' := 27) rfl (fun h11 => ?_) (fun h12 => ?_)
      ·
        refine T_ld zk_53_48 rfl rfl rfl (pc' := 49) rfl ?_
        exact T_zret zk_53_49 rfl (by omega) (fun σ' h => ⟨_, rfl, (by omega), h.1, trivial⟩)
      ·
        refine T_ld zk_53_27 rfl rfl rfl (pc' := 28) rfl ?_
        refine T_ld zk_53_28 rfl rfl rfl (pc' := 29) rfl ?_
        refine T_calli (K := fun y13 σ' => (y13 = 0 ∨ y13 = 1) ∧ (fun σ' => IF MR σ σ' ∧ True) σ') (r := []) zk_53_29 rfl rfl rfl rfl rfl rfl (Or.inr ⟨_, _, _, _, rfl, vd_29, rfl⟩) (fun σ' h => (w_54_12   σ' h.1.1 ).le (Nat.le_of_ble_eq_true rfl) (fun v σ2 ⟨y, h1, h2, h3, h4⟩ => ⟨y, h1, h2, h.1.tr h3 (fun _ _ _ _ h => h), trivial⟩)) (pc' := 32) rfl (fun y13 => ?_)
        refine G_ex (fun hy13 => ?_)
        refine T_st (L' := [(0, av 29 0 0), (1, iv 12), (2, iv y13), (3, iv x3)]) zk_53_32 (nL := 4) rfl rfl rfl rfl rfl (pc' := 33) rfl ?_
        refine T_ld zk_53_33 rfl rfl rfl (pc' := 34) rfl ?_
        refine T_getR (t' := 30) (i' := 0) (k' := 0) zk_53_34 rfl rfl rfl vd_29 (pc' := 37) rfl ?_
        refine T_op zk_53_37 rfl (X_bi (v := -2) (by decide)) (pc' := 39) rfl ?_
        refine T_callv (J' := (fun σ' => IF MR σ σ' ∧ True)) (r := []) zk_53_39 rfl rfl rfl rfl rfl rfl (Or.inr ⟨_, _, _, _, rfl, vd_30, rfl⟩) (fun σ' h => (w_42 ((-2)) (by omega) σ' h.1.1 ).le (Nat.le_of_ble_eq_true rfl) (fun v σ2 ⟨h1, h3, h4⟩ => ⟨h1, h.1.tr h3 (fun _ _ _ _ h => h), trivial⟩)) (pc' := 42) rfl ?_
        refine T_iinc (L' := [(0, av 29 0 0), (1, iv 12), (2, iv y13), (3, iv (x3 + 1))]) zk_53_42 (nL := 4) rfl rfl rfl rfl (pc' := 45) rfl ?_
        refine T_goto zk_53_45 ?_
        exact ih4 y13 (x3 + 1) (by omega) (by omega)
/-- W$LawReader.readEither -/
theorem w_52_12 {xs : Nat × (Nat → Int32)}   (σ : ZS) (hI : Inv σ)   : CT xs 30 52 [av 29 0 0, iv 12] σ (fun v σ' => ∃ y, v = some (iv y) ∧ (y = 0 ∨ y = 1) ∧ IF MR σ σ' ∧ (True)) := by
  refine G_ct (J := (fun σ' => IF MR σ σ' ∧ True)) (L := [(0, av 29 0 0), (1, iv 12)]) (nL := 4) rfl rfl rfl ⟨IF.rf hI, trivial⟩ ?_
  refine T_ld zk_52_0 rfl rfl rfl (pc' := 1) rfl ?_
  refine T_ld zk_52_1 rfl rfl rfl (pc' := 2) rfl ?_
  refine T_calli (K := fun y1 σ' => (y1 = 0 ∨ y1 = 1) ∧ (fun σ' => IF MR σ σ' ∧ True) σ') (r := []) zk_52_2 rfl rfl rfl rfl rfl rfl (Or.inr ⟨_, _, _, _, rfl, vd_29, rfl⟩) (fun σ' h => (w_53_12   σ' h.1.1 ).le (Nat.le_of_ble_eq_true rfl) (fun v σ2 ⟨y, h1, h2, h3, h4⟩ => ⟨y, h1, h2, h.1.tr h3 (fun _ _ _ _ h => h), trivial⟩)) (pc' := 5) rfl (fun y1 => ?_)
  refine G_ex (fun hy1 => ?_)
  refine T_st (L' := [(0, av 29 0 0), (1, iv 12), (2, iv y1)]) zk_52_5 (nL := 4) rfl rfl rfl rfl rfl (pc' := 6) rfl ?_
  refine T_op zk_52_6 rfl X_ic (pc' := 7) rfl ?_
  refine T_st (L' := [(0, av 29 0 0), (1, iv 12), (2, iv y1), (3, iv 0)]) zk_52_7 (nL := 4) rfl rfl rfl rfl rfl (pc' := 8) rfl ?_
  refine T_loop2 (fun x2 x3 => ((96 - x3 : Int)).toNat) (fun x2 x3 => (0 ≤ x2 ∧ x2 ≤ 1) ∧ (0 ≤ x3 ∧ x3 ≤ 96)) (fun x2 x3 => TJ xs (fun σ' => IF MR σ σ' ∧ True) 29 52 8 [(0, av 29 0 0), (1, iv 12), (2, iv x2), (3, iv x3)] [] _) ?_ y1 0 (by omega)
  intro x2 x3 hp5 ih4
  refine T_ld zk_52_8 rfl rfl rfl (pc' := 9) rfl ?_
  refine T_op zk_52_9 rfl (X_bi (v := 96) (by decide)) (pc' := 11) rfl ?_
  refine T_icmp_ge zk_52_11 (by omega) (by omega) (pc' := 14) rfl (fun h6 => ?_) (fun h7 => ?_)
  ·
    refine T_ld zk_52_48 rfl rfl rfl (pc' := 49) rfl ?_
    exact T_zret zk_52_49 rfl (by omega) (fun σ' h => ⟨_, rfl, (by omega), h.1, trivial⟩)
  ·
    refine T_ld zk_52_14 rfl rfl rfl (pc' := 15) rfl ?_
    refine T_if_eq zk_52_15 (by omega) (pc' := 18) rfl (fun h8 => ?_) (fun h9 => ?_)
    ·
      refine T_ld zk_52_48 rfl rfl rfl (pc' := 49) rfl ?_
      exact T_zret zk_52_49 rfl (by omega) (fun σ' h => ⟨_, rfl, (by omega), h.1, trivial⟩)
    ·
      refine T_ld zk_52_18 rfl rfl rfl (pc' := 19) rfl ?_
      refine T_op zk_52_19 rfl (X_bi (v := 124) (by decide)) (pc' := 21) rfl ?_
      refine T_calli (K := fun y10 σ' => (y10 = 0 ∨ y10 = 1) ∧ (fun σ' => IF MR σ σ' ∧ True) σ') (r := []) zk_52_21 rfl rfl rfl rfl rfl rfl (Or.inr ⟨_, _, _, _, rfl, vd_29, rfl⟩) (fun σ' h => (w_50 124 (by omega) σ' h.1.1 ).le (Nat.le_of_ble_eq_true rfl) (fun v σ2 ⟨y, h1, h2, h3, h4⟩ => ⟨y, h1, h2, h.1.tr h3 (fun _ _ _ _ h => h), trivial⟩)) (pc' := 24) rfl (fun y10 => ?_)
      refine G_ex (fun hy10 => ?_)
      refine T_if_eq zk_52_24 (by omega) (pc' := 27) rfl (fun h11 => ?_) (fun h12 => ?_)
      ·
        refine T_ld zk_52_48 rfl rfl rfl (pc' := 49) rfl ?_
        exact T_zret zk_52_49 rfl (by omega) (fun σ' h => ⟨_, rfl, (by omega), h.1, trivial⟩)
      ·
        refine T_ld zk_52_27 rfl rfl rfl (pc' := 28) rfl ?_
        refine T_ld zk_52_28 rfl rfl rfl (pc' := 29) rfl ?_
        refine T_calli (K := fun y13 σ' => (y13 = 0 ∨ y13 = 1) ∧ (fun σ' => IF MR σ σ' ∧ True) σ') (r := []) zk_52_29 rfl rfl rfl rfl rfl rfl (Or.inr ⟨_, _, _, _, rfl, vd_29, rfl⟩) (fun σ' h => (w_53_12   σ' h.1.1 ).le (Nat.le_of_ble_eq_true rfl) (fun v σ2 ⟨y, h1, h2, h3, h4⟩ => ⟨y, h1, h2, h.1.tr h3 (fun _ _ _ _ h => h), trivial⟩)) (pc' := 32) rfl (fun y13 => ?_)
        refine G_ex (fun hy13 => ?_)
        refine T_st (L' := [(0, av 29 0 0), (1, iv 12), (2, iv y13), (3, iv x3)]) zk_52_32 (nL := 4) rfl rfl rfl rfl rfl (pc' := 33) rfl ?_
        refine T_ld zk_52_33 rfl rfl rfl (pc' := 34) rfl ?_
        refine T_getR (t' := 30) (i' := 0) (k' := 0) zk_52_34 rfl rfl rfl vd_29 (pc' := 37) rfl ?_
        refine T_op zk_52_37 rfl (X_bi (v := -3) (by decide)) (pc' := 39) rfl ?_
        refine T_callv (J' := (fun σ' => IF MR σ σ' ∧ True)) (r := []) zk_52_39 rfl rfl rfl rfl rfl rfl (Or.inr ⟨_, _, _, _, rfl, vd_30, rfl⟩) (fun σ' h => (w_42 ((-3)) (by omega) σ' h.1.1 ).le (Nat.le_of_ble_eq_true rfl) (fun v σ2 ⟨h1, h3, h4⟩ => ⟨h1, h.1.tr h3 (fun _ _ _ _ h => h), trivial⟩)) (pc' := 42) rfl ?_
        refine T_iinc (L' := [(0, av 29 0 0), (1, iv 12), (2, iv y13), (3, iv (x3 + 1))]) zk_52_42 (nL := 4) rfl rfl rfl rfl (pc' := 45) rfl ?_
        refine T_goto zk_52_45 ?_
        exact ih4 y13 (x3 + 1) (by omega) (by omega)
/-- W$LawReader.readPart -/
theorem w_54_11 {xs : Nat × (Nat → Int32)}   (σ : ZS) (hI : Inv σ)   : CT xs 31 54 [av 29 0 0, iv 11] σ (fun v σ' => ∃ y, v = some (iv y) ∧ (y = 0 ∨ y = 1) ∧ IF MR σ σ' ∧ (True)) := by
  refine G_ct (J := (fun σ' => IF MR σ σ' ∧ True)) (L := [(0, av 29 0 0), (1, iv 11)]) (nL := 3) rfl rfl rfl ⟨IF.rf hI, trivial⟩ ?_
  refine T_ld zk_54_0 rfl rfl rfl (pc' := 1) rfl ?_
  refine T_calli (K := fun y1 σ' => (-2147483648 ≤ y1 ∧ y1 ≤ 2147483647) ∧ (fun σ' => IF MR σ σ' ∧ True) σ') (r := []) zk_54_1 rfl rfl rfl rfl rfl rfl (Or.inr ⟨_, _, _, _, rfl, vd_29, rfl⟩) (fun σ' h => (w_49   σ' h.1.1 ).le (Nat.le_of_ble_eq_true rfl) (fun v σ2 ⟨y, h1, h2, h3, h4⟩ => ⟨y, h1, h2, h.1.tr h3 MN_sub, trivial⟩)) (pc' := 4) rfl (fun y1 => ?_)
  refine G_ex (fun hy1 => ?_)
  refine T_op zk_54_4 rfl (X_bi (v := 33) (by decide)) (pc' := 6) rfl ?_
  refine T_icmp_eq zk_54_6 (by omega) (by omega) (pc' := 9) rfl (fun h2 => ?_) (fun h3 => ?_)
  ·
    refine T_ld zk_54_23 rfl rfl rfl (pc' := 24) rfl ?_
    refine T_op zk_54_24 rfl (X_bi (v := 20) (by decide)) (pc' := 26) rfl ?_
    refine T_icmp_lt zk_54_26 (by omega) (by omega) (pc' := 29) rfl (fun h4 => ?_) (fun h5 => ?_)
    ·
      refine T_ld zk_54_31 rfl rfl rfl (pc' := 32) rfl ?_
      refine T_op zk_54_32 rfl (X_bi (v := 40) (by decide)) (pc' := 34) rfl ?_
      refine T_calli (K := fun y6 σ' => (y6 = 0 ∨ y6 = 1) ∧ (fun σ' => IF MR σ σ' ∧ True) σ') (r := []) zk_54_34 rfl rfl rfl rfl rfl rfl (Or.inr ⟨_, _, _, _, rfl, vd_29, rfl⟩) (fun σ' h => (w_50 40 (by omega) σ' h.1.1 ).le (Nat.le_of_ble_eq_true rfl) (fun v σ2 ⟨y, h1, h2, h3, h4⟩ => ⟨y, h1, h2, h.1.tr h3 (fun _ _ _ _ h => h), trivial⟩)) (pc' := 37) rfl (fun y6 => ?_)
      refine G_ex (fun hy6 => ?_)
      refine T_if_eq zk_54_37 (by omega) (pc' := 40) rfl (fun h7 => ?_) (fun h8 => ?_)
      ·
        refine T_ld zk_54_65 rfl rfl rfl (pc' := 66) rfl ?_
        refine T_op (st' := [av 29 0 0, av 29 0 0]) zk_54_66 rfl rfl (pc' := 67) rfl ?_
        refine G_getf (lo := -2147483648) (hi := 2147483647) zk_54_67 rfl vd_29 (fun σ' h => h.1.1) (fun _ h => (by have q := h.1; omega)) (pc' := 70) rfl (fun y9 hy9 hy9' => ?_)
        refine T_op zk_54_70 rfl X_ic (pc' := 71) rfl ?_
        refine G_unk zk_54_71 rfl (pc' := 72) rfl (fun y10 hy10 hy10' => ?_)
        refine T_putf (J' := (fun σ' => IF MR σ σ' ∧ σ' 29 0 0 3 = y10 ∧ True)) zk_54_72 rfl rfl vd_29 (fun σ' h => ⟨h.1.up (by simp only [rgP] <;> omega) (by first | exact pMR rfl | (unfold MR; omega)), up_eq, trivial⟩) (pc' := 75) rfl ?_
        refine T_ld zk_54_75 rfl rfl rfl (pc' := 76) rfl ?_
        refine T_ld zk_54_76 rfl rfl rfl (pc' := 77) rfl ?_
        refine T_op zk_54_77 rfl X_ic (pc' := 78) rfl ?_
        refine T_opc (w := 12) zk_54_78 rfl X_add (by omega) (pc' := 79) rfl ?_
        refine T_calli (K := fun y11 σ' => (y11 = 0 ∨ y11 = 1) ∧ (fun σ' => IF MR σ σ' ∧ True) σ') (r := []) zk_54_79 rfl rfl rfl rfl rfl rfl (Or.inr ⟨_, _, _, _, rfl, vd_29, rfl⟩) (fun σ' h => (w_54_12   σ' h.1.1 ).le (Nat.le_of_ble_eq_true rfl) (fun v σ2 ⟨y, h1, h2, h3, h4⟩ => ⟨y, h1, h2, h.1.tr h3 (fun _ _ _ _ h => h), trivial⟩)) (pc' := 82) rfl (fun y11 => ?_)
        refine G_ex (fun hy11 => ?_)
        refine T_st (L' := [(0, av 29 0 0), (1, iv 11), (2, iv y11)]) zk_54_82 (nL := 3) rfl rfl rfl rfl rfl (pc' := 83) rfl ?_
        refine T_ld zk_54_83 rfl rfl rfl (pc' := 84) rfl ?_
        refine T_getR (t' := 30) (i' := 0) (k' := 0) zk_54_84 rfl rfl rfl vd_29 (pc' := 87) rfl ?_
        refine T_op zk_54_87 rfl X_ic (pc' := 88) rfl ?_
        refine T_callv (J' := (fun σ' => IF MR σ σ' ∧ True)) (r := []) zk_54_88 rfl rfl rfl rfl rfl rfl (Or.inr ⟨_, _, _, _, rfl, vd_30, rfl⟩) (fun σ' h => (w_42 ((-1)) (by omega) σ' h.1.1 ).le (Nat.le_of_ble_eq_true rfl) (fun v σ2 ⟨h1, h3, h4⟩ => ⟨h1, h.1.tr h3 (fun _ _ _ _ h => h), trivial⟩)) (pc' := 91) rfl ?_
        refine T_ld zk_54_91 rfl rfl rfl (pc' := 92) rfl ?_
        exact T_zret zk_54_92 rfl (by omega) (fun σ' h => ⟨_, rfl, (by omega), h.1, trivial⟩)
      ·
        refine T_ld zk_54_40 rfl rfl rfl (pc' := 41) rfl ?_
        refine T_ld zk_54_41 rfl rfl rfl (pc' := 42) rfl ?_
        refine T_op zk_54_42 rfl X_ic (pc' := 43) rfl ?_
        refine T_opc (w := 12) zk_54_43 rfl X_add (by omega) (pc' := 44) rfl ?_
        refine T_calli (K := fun y13 σ' => (y13 = 0 ∨ y13 = 1) ∧ (fun σ' => IF MR σ σ' ∧ True) σ') (r := []) zk_54_44 rfl rfl rfl rfl rfl rfl (Or.inr ⟨_, _, _, _, rfl, vd_29, rfl⟩) (fun σ' h => (w_52_12   σ' h.1.1 ).le (Nat.le_of_ble_eq_true rfl) (fun v σ2 ⟨y, h1, h2, h3, h4⟩ => ⟨y, h1, h2, h.1.tr h3 (fun _ _ _ _ h => h), trivial⟩)) (pc' := 47) rfl (fun y13 => ?_)
        refine G_ex (fun hy13 => ?_)
        refine T_if_eq zk_54_47 (by omega) (pc' := 50) rfl (fun h14 => ?_) (fun h15 => ?_)
        ·
          refine T_op zk_54_63 rfl X_ic (pc' := 64) rfl ?_
          exact T_zret zk_54_64 rfl (by omega) (fun σ' h => ⟨_, rfl, (by omega), h.1, trivial⟩)
        ·
          refine T_ld zk_54_50 rfl rfl rfl (pc' := 51) rfl ?_
          refine T_op zk_54_51 rfl (X_bi (v := 41) (by decide)) (pc' := 53) rfl ?_
          refine T_calli (K := fun y16 σ' => (y16 = 0 ∨ y16 = 1) ∧ (fun σ' => IF MR σ σ' ∧ True) σ') (r := []) zk_54_53 rfl rfl rfl rfl rfl rfl (Or.inr ⟨_, _, _, _, rfl, vd_29, rfl⟩) (fun σ' h => (w_50 41 (by omega) σ' h.1.1 ).le (Nat.le_of_ble_eq_true rfl) (fun v σ2 ⟨y, h1, h2, h3, h4⟩ => ⟨y, h1, h2, h.1.tr h3 (fun _ _ _ _ h => h), trivial⟩)) (pc' := 56) rfl (fun y16 => ?_)
          refine G_ex (fun hy16 => ?_)
          refine T_if_eq zk_54_56 (by omega) (pc' := 59) rfl (fun h17 => ?_) (fun h18 => ?_)
          ·
            refine T_op zk_54_63 rfl X_ic (pc' := 64) rfl ?_
            exact T_zret zk_54_64 rfl (by omega) (fun σ' h => ⟨_, rfl, (by omega), h.1, trivial⟩)
          ·
            refine T_op zk_54_59 rfl X_ic (pc' := 60) rfl ?_
            refine T_goto zk_54_60 ?_
            exact T_zret zk_54_64 rfl (by omega) (fun σ' h => ⟨_, rfl, (by omega), h.1, trivial⟩)
    · exfalso; omega
  ·
    refine T_ld zk_54_9 rfl rfl rfl (pc' := 10) rfl ?_
    refine T_calli (K := fun y19 σ' => (-2147483648 ≤ y19 ∧ y19 ≤ 2147483647) ∧ (fun σ' => IF MR σ σ' ∧ True) σ') (r := []) zk_54_10 rfl rfl rfl rfl rfl rfl (Or.inr ⟨_, _, _, _, rfl, vd_29, rfl⟩) (fun σ' h => (w_49   σ' h.1.1 ).le (Nat.le_of_ble_eq_true rfl) (fun v σ2 ⟨y, h1, h2, h3, h4⟩ => ⟨y, h1, h2, h.1.tr h3 MN_sub, trivial⟩)) (pc' := 13) rfl (fun y19 => ?_)
    refine G_ex (fun hy19 => ?_)
    refine T_op zk_54_13 rfl (X_bi (v := 40) (by decide)) (pc' := 15) rfl ?_
    refine T_icmp_eq zk_54_15 (by omega) (by omega) (pc' := 18) rfl (fun h20 => ?_) (fun h21 => ?_)
    ·
      refine T_ld zk_54_23 rfl rfl rfl (pc' := 24) rfl ?_
      refine T_op zk_54_24 rfl (X_bi (v := 20) (by decide)) (pc' := 26) rfl ?_
      refine T_icmp_lt zk_54_26 (by omega) (by omega) (pc' := 29) rfl (fun h22 => ?_) (fun h23 => ?_)
      ·
        refine T_ld zk_54_31 rfl rfl rfl (pc' := 32) rfl ?_
        refine T_op zk_54_32 rfl (X_bi (v := 40) (by decide)) (pc' := 34) rfl ?_
        refine T_calli (K := fun y24 σ' => (y24 = 0 ∨ y24 = 1) ∧ (fun σ' => IF MR σ σ' ∧ True) σ') (r := []) zk_54_34 rfl rfl rfl rfl rfl rfl (Or.inr ⟨_, _, _, _, rfl, vd_29, rfl⟩) (fun σ' h => (w_50 40 (by omega) σ' h.1.1 ).le (Nat.le_of_ble_eq_true rfl) (fun v σ2 ⟨y, h1, h2, h3, h4⟩ => ⟨y, h1, h2, h.1.tr h3 (fun _ _ _ _ h => h), trivial⟩)) (pc' := 37) rfl (fun y24 => ?_)
        refine G_ex (fun hy24 => ?_)
        refine T_if_eq zk_54_37 (by omega) (pc' := 40) rfl (fun h25 => ?_) (fun h26 => ?_)
        ·
          refine T_ld zk_54_65 rfl rfl rfl (pc' := 66) rfl ?_
          refine T_op (st' := [av 29 0 0, av 29 0 0]) zk_54_66 rfl rfl (pc' := 67) rfl ?_
          refine G_getf (lo := -2147483648) (hi := 2147483647) zk_54_67 rfl vd_29 (fun σ' h => h.1.1) (fun _ h => (by have q := h.1; omega)) (pc' := 70) rfl (fun y27 hy27 hy27' => ?_)
          refine T_op zk_54_70 rfl X_ic (pc' := 71) rfl ?_
          refine G_unk zk_54_71 rfl (pc' := 72) rfl (fun y28 hy28 hy28' => ?_)
          refine T_putf (J' := (fun σ' => IF MR σ σ' ∧ σ' 29 0 0 3 = y28 ∧ True)) zk_54_72 rfl rfl vd_29 (fun σ' h => ⟨h.1.up (by simp only [rgP] <;> omega) (by first | exact pMR rfl | (unfold MR; omega)), up_eq, trivial⟩) (pc' := 75) rfl ?_
          refine T_ld zk_54_75 rfl rfl rfl (pc' := 76) rfl ?_
          refine T_ld zk_54_76 rfl rfl rfl (pc' := 77) rfl ?_
          refine T_op zk_54_77 rfl X_ic (pc' := 78) rfl ?_
          refine T_opc (w := 12) zk_54_78 rfl X_add (by omega) (pc' := 79) rfl ?_
          refine T_calli (K := fun y29 σ' => (y29 = 0 ∨ y29 = 1) ∧ (fun σ' => IF MR σ σ' ∧ True) σ') (r := []) zk_54_79 rfl rfl rfl rfl rfl rfl (Or.inr ⟨_, _, _, _, rfl, vd_29, rfl⟩) (fun σ' h => (w_54_12   σ' h.1.1 ).le (Nat.le_of_ble_eq_true rfl) (fun v σ2 ⟨y, h1, h2, h3, h4⟩ => ⟨y, h1, h2, h.1.tr h3 (fun _ _ _ _ h => h), trivial⟩)) (pc' := 82) rfl (fun y29 => ?_)
          refine G_ex (fun hy29 => ?_)
          refine T_st (L' := [(0, av 29 0 0), (1, iv 11), (2, iv y29)]) zk_54_82 (nL := 3) rfl rfl rfl rfl rfl (pc' := 83) rfl ?_
          refine T_ld zk_54_83 rfl rfl rfl (pc' := 84) rfl ?_
          refine T_getR (t' := 30) (i' := 0) (k' := 0) zk_54_84 rfl rfl rfl vd_29 (pc' := 87) rfl ?_
          refine T_op zk_54_87 rfl X_ic (pc' := 88) rfl ?_
          refine T_callv (J' := (fun σ' => IF MR σ σ' ∧ True)) (r := []) zk_54_88 rfl rfl rfl rfl rfl rfl (Or.inr ⟨_, _, _, _, rfl, vd_30, rfl⟩) (fun σ' h => (w_42 ((-1)) (by omega) σ' h.1.1 ).le (Nat.le_of_ble_eq_true rfl) (fun v σ2 ⟨h1, h3, h4⟩ => ⟨h1, h.1.tr h3 (fun _ _ _ _ h => h), trivial⟩)) (pc' := 91) rfl ?_
          refine T_ld zk_54_91 rfl rfl rfl (pc' := 92) rfl ?_
          exact T_zret zk_54_92 rfl (by omega) (fun σ' h => ⟨_, rfl, (by omega), h.1, trivial⟩)
        ·
          refine T_ld zk_54_40 rfl rfl rfl (pc' := 41) rfl ?_
          refine T_ld zk_54_41 rfl rfl rfl (pc' := 42) rfl ?_
          refine T_op zk_54_42 rfl X_ic (pc' := 43) rfl ?_
          refine T_opc (w := 12) zk_54_43 rfl X_add (by omega) (pc' := 44) rfl ?_
          refine T_calli (K := fun y31 σ' => (y31 = 0 ∨ y31 = 1) ∧ (fun σ' => IF MR σ σ' ∧ True) σ') (r := []) zk_54_44 rfl rfl rfl rfl rfl rfl (Or.inr ⟨_, _, _, _, rfl, vd_29, rfl⟩) (fun σ' h => (w_52_12   σ' h.1.1 ).le (Nat.le_of_ble_eq_true rfl) (fun v σ2 ⟨y, h1, h2, h3, h4⟩ => ⟨y, h1, h2, h.1.tr h3 (fun _ _ _ _ h => h), trivial⟩)) (pc' := 47) rfl (fun y31 => ?_)
          refine G_ex (fun hy31 => ?_)
          refine T_if_eq zk_54_47 (by omega) (pc' := 50) rfl (fun h32 => ?_) (fun h33 => ?_)
          ·
            refine T_op zk_54_63 rfl X_ic (pc' := 64) rfl ?_
            exact T_zret zk_54_64 rfl (by omega) (fun σ' h => ⟨_, rfl, (by omega), h.1, trivial⟩)
          ·
            refine T_ld zk_54_50 rfl rfl rfl (pc' := 51) rfl ?_
            refine T_op zk_54_51 rfl (X_bi (v := 41) (by decide)) (pc' := 53) rfl ?_
            refine T_calli (K := fun y34 σ' => (y34 = 0 ∨ y34 = 1) ∧ (fun σ' => IF MR σ σ' ∧ True) σ') (r := []) zk_54_53 rfl rfl rfl rfl rfl rfl (Or.inr ⟨_, _, _, _, rfl, vd_29, rfl⟩) (fun σ' h => (w_50 41 (by omega) σ' h.1.1 ).le (Nat.le_of_ble_eq_true rfl) (fun v σ2 ⟨y, h1, h2, h3, h4⟩ => ⟨y, h1, h2, h.1.tr h3 (fun _ _ _ _ h => h), trivial⟩)) (pc' := 56) rfl (fun y34 => ?_)
            refine G_ex (fun hy34 => ?_)
            refine T_if_eq zk_54_56 (by omega) (pc' := 59) rfl (fun h35 => ?_) (fun h36 => ?_)
            ·
              refine T_op zk_54_63 rfl X_ic (pc' := 64) rfl ?_
              exact T_zret zk_54_64 rfl (by omega) (fun σ' h => ⟨_, rfl, (by omega), h.1, trivial⟩)
            ·
              refine T_op zk_54_59 rfl X_ic (pc' := 60) rfl ?_
              refine T_goto zk_54_60 ?_
              exact T_zret zk_54_64 rfl (by omega) (fun σ' h => ⟨_, rfl, (by omega), h.1, trivial⟩)
      · exfalso; omega
    ·
      refine T_ld zk_54_18 rfl rfl rfl (pc' := 19) rfl ?_
      refine T_calli (K := fun y37 σ' => (y37 = 0 ∨ y37 = 1) ∧ (fun σ' => IF MR σ σ' ∧ True) σ') (r := []) zk_54_19 rfl rfl rfl rfl rfl rfl (Or.inr ⟨_, _, _, _, rfl, vd_29, rfl⟩) (fun σ' h => (w_55   σ' h.1.1 ).le (Nat.le_of_ble_eq_true rfl) (fun v σ2 ⟨y, h1, h2, h3, h4⟩ => ⟨y, h1, h2, h.1.tr h3 (fun _ _ _ _ h => h), trivial⟩)) (pc' := 22) rfl (fun y37 => ?_)
      refine G_ex (fun hy37 => ?_)
      exact T_zret zk_54_22 rfl (by omega) (fun σ' h => ⟨_, rfl, (by omega), h.1, trivial⟩)
/-- W$LawReader.readBoth -/
theorem w_53_11 {xs : Nat × (Nat → Int32)}   (σ : ZS) (hI : Inv σ)   : CT xs 32 53 [av 29 0 0, iv 11] σ (fun v σ' => ∃ y, v = some (iv y) ∧ (y = 0 ∨ y = 1) ∧ IF MR σ σ' ∧ (True)) := by
  refine G_ct (J := (fun σ' => IF MR σ σ' ∧ True)) (L := [(0, av 29 0 0), (1, iv 11)]) (nL := 4) rfl rfl rfl ⟨IF.rf hI, trivial⟩ ?_
  refine T_ld zk_53_0 rfl rfl rfl (pc' := 1) rfl ?_
  refine T_ld zk_53_1 rfl rfl rfl (pc' := 2) rfl ?_
  refine T_calli (K := fun y1 σ' => (y1 = 0 ∨ y1 = 1) ∧ (fun σ' => IF MR σ σ' ∧ True) σ') (r := []) zk_53_2 rfl rfl rfl rfl rfl rfl (Or.inr ⟨_, _, _, _, rfl, vd_29, rfl⟩) (fun σ' h => (w_54_11   σ' h.1.1 ).le (Nat.le_of_ble_eq_true rfl) (fun v σ2 ⟨y, h1, h2, h3, h4⟩ => ⟨y, h1, h2, h.1.tr h3 (fun _ _ _ _ h => h), trivial⟩)) (pc' := 5) rfl (fun y1 => ?_)
  refine G_ex (fun hy1 => ?_)
  refine T_st (L' := [(0, av 29 0 0), (1, iv 11), (2, iv y1)]) zk_53_5 (nL := 4) rfl rfl rfl rfl rfl (pc' := 6) rfl ?_
  refine T_op zk_53_6 rfl X_ic (pc' := 7) rfl ?_
  refine T_st (L' := [(0, av 29 0 0), (1, iv 11), (2, iv y1), (3, iv 0)]) zk_53_7 (nL := 4) rfl rfl rfl rfl rfl (pc' := 8) rfl ?_
  refine T_loop2 (fun x2 x3 => ((96 - x3 : Int)).toNat) (fun x2 x3 => (0 ≤ x2 ∧ x2 ≤ 1) ∧ (0 ≤ x3 ∧ x3 ≤ 96)) (fun x2 x3 => TJ xs (fun σ' => IF MR σ σ' ∧ True) 31 53 8 [(0, av 29 0 0), (1, iv 11), (2, iv x2), (3, iv x3)] [] _) ?_ y1 0 (by omega)
  intro x2 x3 hp5 ih4
  refine T_ld zk_53_8 rfl rfl rfl (pc' := 9) rfl ?_
  refine T_op zk_53_9 rfl (X_bi (v := 96) (by decide)) (pc' := 11) rfl ?_
  refine T_icmp_ge zk_53_11 (by omega) (by omega) (pc' := 14) rfl (fun h6 => ?_) (fun h7 => ?_)
  ·
    refine T_ld zk_53_48 rfl rfl rfl (pc' := 49) rfl ?_
    exact T_zret zk_53_49 rfl (by omega) (fun σ' h => ⟨_, rfl, (by omega), h.1, trivial⟩)
  ·
    refine T_ld zk_53_14 rfl rfl rfl (pc' := 15) rfl ?_
    refine T_if_eq zk_53_15 (by omega) (pc' := 18) rfl (fun h8 => ?_) (fun h9 => ?_)
    ·
      refine T_ld zk_53_48 rfl rfl rfl (pc' := 49) rfl ?_
      exact T_zret zk_53_49 rfl (by omega) (fun σ' h => ⟨_, rfl, (by omega), h.1, trivial⟩)
    ·
      refine T_ld zk_53_18 rfl rfl rfl (pc' := 19) rfl ?_
      refine T_op zk_53_19 rfl (X_bi (v := 38) (by decide)) (pc' := 21) rfl ?_
      refine T_calli (K := fun y10 σ' => (y10 = 0 ∨ y10 = 1) ∧ (fun σ' => IF MR σ σ' ∧ True) σ') (r := []) zk_53_21 rfl rfl rfl rfl rfl rfl (Or.inr ⟨_, _, _, _, rfl, vd_29, rfl⟩) (fun σ' h => (w_50 38 (by omega) σ' h.1.1 ).le (Nat.le_of_ble_eq_true rfl) (fun v σ2 ⟨y, h1, h2, h3, h4⟩ => ⟨y, h1, h2, h.1.tr h3 (fun _ _ _ _ h => h), trivial⟩)) (pc' := 24) rfl (fun y10 => ?_)
      refine G_ex (fun hy10 => ?_)
      refine T_if_eq zk_53_24 (by omega) (pc' := 27) rfl (fun h11 => ?_) (fun h12 => ?_)
      ·
        refine T_ld zk_53_48 rfl rfl rfl (pc' := 49) rfl ?_
        exact T_zret zk_53_49 rfl (by omega) (fun σ' h => ⟨_, rfl, (by omega), h.1, trivial⟩)
      ·
        refine T_ld zk_53_27 rfl rfl rfl (pc' := 28) rfl ?_
        refine T_ld zk_53_28 rfl rfl rfl (pc' := 29) rfl ?_
        refine T_calli (K := fun y13 σ' => (y13 = 0 ∨ y13 = 1) ∧ (fun σ' => IF MR σ σ' ∧ True) σ') (r := []) zk_53_29 rfl rfl rfl rfl rfl rfl (Or.inr ⟨_, _, _, _, rfl, vd_29, rfl⟩) (fun σ' h => (w_54_11   σ' h.1.1 ).le (Nat.le_of_ble_eq_true rfl) (fun v σ2 ⟨y, h1, h2, h3, h4⟩ => ⟨y, h1, h2, h.1.tr h3 (fun _ _ _ _ h => h), trivial⟩)) (pc' := 32) rfl (fun y13 => ?_)
        refine G_ex (fun hy13 => ?_)
        refine T_st (L' := [(0, av 29 0 0), (1, iv 11), (2, iv y13), (3, iv x3)]) zk_53_32 (nL := 4) rfl rfl rfl rfl rfl (pc' := 33) rfl ?_
        refine T_ld zk_53_33 rfl rfl rfl (pc' := 34) rfl ?_
        refine T_getR (t' := 30) (i' := 0) (k' := 0) zk_53_34 rfl rfl rfl vd_29 (pc' := 37) rfl ?_
        refine T_op zk_53_37 rfl (X_bi (v := -2) (by decide)) (pc' := 39) rfl ?_
        refine T_callv (J' := (fun σ' => IF MR σ σ' ∧ True)) (r := []) zk_53_39 rfl rfl rfl rfl rfl rfl (Or.inr ⟨_, _, _, _, rfl, vd_30, rfl⟩) (fun σ' h => (w_42 ((-2)) (by omega) σ' h.1.1 ).le (Nat.le_of_ble_eq_true rfl) (fun v σ2 ⟨h1, h3, h4⟩ => ⟨h1, h.1.tr h3 (fun _ _ _ _ h => h), trivial⟩)) (pc' := 42) rfl ?_
        refine T_iinc (L' := [(0, av 29 0 0), (1, iv 11), (2, iv y13), (3, iv (x3 + 1))]) zk_53_42 (nL := 4) rfl rfl rfl rfl (pc' := 45) rfl ?_
        refine T_goto zk_53_45 ?_
        exact ih4 y13 (x3 + 1) (by omega) (by omega)
/-- W$LawReader.readEither -/
theorem w_52_11 {xs : Nat × (Nat → Int32)}   (σ : ZS) (hI : Inv σ)   : CT xs 33 52 [av 29 0 0, iv 11] σ (fun v σ' => ∃ y, v = some (iv y) ∧ (y = 0 ∨ y = 1) ∧ IF MR σ σ' ∧ (True)) := by
  refine G_ct (J := (fun σ' => IF MR σ σ' ∧ True)) (L := [(0, av 29 0 0), (1, iv 11)]) (nL := 4) rfl rfl rfl ⟨IF.rf hI, trivial⟩ ?_
  refine T_ld zk_52_0 rfl rfl rfl (pc' := 1) rfl ?_
  refine T_ld zk_52_1 rfl rfl rfl (pc' := 2) rfl ?_
  refine T_calli (K := fun y1 σ' => (y1 = 0 ∨ y1 = 1) ∧ (fun σ' => IF MR σ σ' ∧ True) σ') (r := []) zk_52_2 rfl rfl rfl rfl rfl rfl (Or.inr ⟨_, _, _, _, rfl, vd_29, rfl⟩) (fun σ' h => (w_53_11   σ' h.1.1 ).le (Nat.le_of_ble_eq_true rfl) (fun v σ2 ⟨y, h1, h2, h3, h4⟩ => ⟨y, h1, h2, h.1.tr h3 (fun _ _ _ _ h => h), trivial⟩)) (pc' := 5) rfl (fun y1 => ?_)
  refine G_ex (fun hy1 => ?_)
  refine T_st (L' := [(0, av 29 0 0), (1, iv 11), (2, iv y1)]) zk_52_5 (nL := 4) rfl rfl rfl rfl rfl (pc' := 6) rfl ?_
  refine T_op zk_52_6 rfl X_ic (pc' := 7) rfl ?_
  refine T_st (L' := [(0, av 29 0 0), (1, iv 11), (2, iv y1), (3, iv 0)]) zk_52_7 (nL := 4) rfl rfl rfl rfl rfl (pc' := 8) rfl ?_
  refine T_loop2 (fun x2 x3 => ((96 - x3 : Int)).toNat) (fun x2 x3 => (0 ≤ x2 ∧ x2 ≤ 1) ∧ (0 ≤ x3 ∧ x3 ≤ 96)) (fun x2 x3 => TJ xs (fun σ' => IF MR σ σ' ∧ True) 32 52 8 [(0, av 29 0 0), (1, iv 11), (2, iv x2), (3, iv x3)] [] _) ?_ y1 0 (by omega)
  intro x2 x3 hp5 ih4
  refine T_ld zk_52_8 rfl rfl rfl (pc' := 9) rfl ?_
  refine T_op zk_52_9 rfl (X_bi (v := 96) (by decide)) (pc' := 11) rfl ?_
  refine T_icmp_ge zk_52_11 (by omega) (by omega) (pc' := 14) rfl (fun h6 => ?_) (fun h7 => ?_)
  ·
    refine T_ld zk_52_48 rfl rfl rfl (pc' := 49) rfl ?_
    exact T_zret zk_52_49 rfl (by omega) (fun σ' h => ⟨_, rfl, (by omega), h.1, trivial⟩)
  ·
    refine T_ld zk_52_14 rfl rfl rfl (pc' := 15) rfl ?_
    refine T_if_eq zk_52_15 (by omega) (pc' := 18) rfl (fun h8 => ?_) (fun h9 => ?_)
    ·
      refine T_ld zk_52_48 rfl rfl rfl (pc' := 49) rfl ?_
      exact T_zret zk_52_49 rfl (by omega) (fun σ' h => ⟨_, rfl, (by omega), h.1, trivial⟩)
    ·
      refine T_ld zk_52_18 rfl rfl rfl (pc' := 19) rfl ?_
      refine T_op zk_52_19 rfl (X_bi (v := 124) (by decide)) (pc' := 21) rfl ?_
      refine T_calli (K := fun y10 σ' => (y10 = 0 ∨ y10 = 1) ∧ (fun σ' => IF MR σ σ' ∧ True) σ') (r := []) zk_52_21 rfl rfl rfl rfl rfl rfl (Or.inr ⟨_, _, _, _, rfl, vd_29, rfl⟩) (fun σ' h => (w_50 124 (by omega) σ' h.1.1 ).le (Nat.le_of_ble_eq_true rfl) (fun v σ2 ⟨y, h1, h2, h3, h4⟩ => ⟨y, h1, h2, h.1.tr h3 (fun _ _ _ _ h => h), trivial⟩)) (pc' := 24) rfl (fun y10 => ?_)
      refine G_ex (fun hy10 => ?_)
      refine T_if_eq zk_52_24 (by omega) (pc' := 27) rfl (fun h11 => ?_) (fun h12 => ?_)
      ·
        refine T_ld zk_52_48 rfl rfl rfl (pc' := 49) rfl ?_
        exact T_zret zk_52_49 rfl (by omega) (fun σ' h => ⟨_, rfl, (by omega), h.1, trivial⟩)
      ·
        refine T_ld zk_52_27 rfl rfl rfl (pc' := 28) rfl ?_
        refine T_ld zk_52_28 rfl rfl rfl (pc' := 29) rfl ?_
        refine T_calli (K := fun y13 σ' => (y13 = 0 ∨ y13 = 1) ∧ (fun σ' => IF MR σ σ' ∧ True) σ') (r := []) zk_52_29 rfl rfl rfl rfl rfl rfl (Or.inr ⟨_, _, _, _, rfl, vd_29, rfl⟩) (fun σ' h => (w_53_11   σ' h.1.1 ).le (Nat.le_of_ble_eq_true rfl) (fun v σ2 ⟨y, h1, h2, h3, h4⟩ => ⟨y, h1, h2, h.1.tr h3 (fun _ _ _ _ h => h), trivial⟩)) (pc' := 32) rfl (fun y13 => ?_)
        refine G_ex (fun hy13 => ?_)
        refine T_st (L' := [(0, av 29 0 0), (1, iv 11), (2, iv y13), (3, iv x3)]) zk_52_32 (nL := 4) rfl rfl rfl rfl rfl (pc' := 33) rfl ?_
        refine T_ld zk_52_33 rfl rfl rfl (pc' := 34) rfl ?_
        refine T_getR (t' := 30) (i' := 0) (k' := 0) zk_52_34 rfl rfl rfl vd_29 (pc' := 37) rfl ?_
        refine T_op zk_52_37 rfl (X_bi (v := -3) (by decide)) (pc' := 39) rfl ?_
        refine T_callv (J' := (fun σ' => IF MR σ σ' ∧ True)) (r := []) zk_52_39 rfl rfl rfl rfl rfl rfl (Or.inr ⟨_, _, _, _, rfl, vd_30, rfl⟩) (fun σ' h => (w_42 ((-3)) (by omega) σ' h.1.1 ).le (Nat.le_of_ble_eq_true rfl) (fun v σ2 ⟨h1, h3, h4⟩ => ⟨h1, h.1.tr h3 (fun _ _ _ _ h => h), trivial⟩)) (pc' := 42) rfl ?_
        refine T_iinc (L' := [(0, av 29 0 0), (1, iv 11), (2, iv y13), (3, iv (x3 + 1))]) zk_52_42 (nL := 4) rfl rfl rfl rfl (pc' := 45) rfl ?_
        refine T_goto zk_52_45 ?_
        exact ih4 y13 (x3 + 1) (by omega) (by omega)
/-- W$LawReader.readPart -/
theorem w_54_10 {xs : Nat × (Nat → Int32)}   (σ : ZS) (hI : Inv σ)   : CT xs 34 54 [av 29 0 0, iv 10] σ (fun v σ' => ∃ y, v = some (iv y) ∧ (y = 0 ∨ y = 1) ∧ IF MR σ σ' ∧ (True)) := by
  refine G_ct (J := (fun σ' => IF MR σ σ' ∧ True)) (L := [(0, av 29 0 0), (1, iv 10)]) (nL := 3) rfl rfl rfl ⟨IF.rf hI, trivial⟩ ?_
  refine T_ld zk_54_0 rfl rfl rfl (pc' := 1) rfl ?_
  refine T_calli (K := fun y1 σ' => (-2147483648 ≤ y1 ∧ y1 ≤ 2147483647) ∧ (fun σ' => IF MR σ σ' ∧ True) σ') (r := []) zk_54_1 rfl rfl rfl rfl rfl rfl (Or.inr ⟨_, _, _, _, rfl, vd_29, rfl⟩) (fun σ' h => (w_49   σ' h.1.1 ).le (Nat.le_of_ble_eq_true rfl) (fun v σ2 ⟨y, h1, h2, h3, h4⟩ => ⟨y, h1, h2, h.1.tr h3 MN_sub, trivial⟩)) (pc' := 4) rfl (fun y1 => ?_)
  refine G_ex (fun hy1 => ?_)
  refine T_op zk_54_4 rfl (X_bi (v := 33) (by decide)) (pc' := 6) rfl ?_
  refine T_icmp_eq zk_54_6 (by omega) (by omega) (pc' := 9) rfl (fun h2 => ?_) (fun h3 => ?_)
  ·
    refine T_ld zk_54_23 rfl rfl rfl (pc' := 24) rfl ?_
    refine T_op zk_54_24 rfl (X_bi (v := 20) (by decide)) (pc' := 26) rfl ?_
    refine T_icmp_lt zk_54_26 (by omega) (by omega) (pc' := 29) rfl (fun h4 => ?_) (fun h5 => ?_)
    ·
      refine T_ld zk_54_31 rfl rfl rfl (pc' := 32) rfl ?_
      refine T_op zk_54_32 rfl (X_bi (v := 40) (by decide)) (pc' := 34) rfl ?_
      refine T_calli (K := fun y6 σ' => (y6 = 0 ∨ y6 = 1) ∧ (fun σ' => IF MR σ σ' ∧ True) σ') (r := []) zk_54_34 rfl rfl rfl rfl rfl rfl (Or.inr ⟨_, _, _, _, rfl, vd_29, rfl⟩) (fun σ' h => (w_50 40 (by omega) σ' h.1.1 ).le (Nat.le_of_ble_eq_true rfl) (fun v σ2 ⟨y, h1, h2, h3, h4⟩ => ⟨y, h1, h2, h.1.tr h3 (fun _ _ _ _ h => h), trivial⟩)) (pc' := 37) rfl (fun y6 => ?_)
      refine G_ex (fun hy6 => ?_)
      refine T_if_eq zk_54_37 (by omega) (pc' := 40) rfl (fun h7 => ?_) (fun h8 => ?_)
      ·
        refine T_ld zk_54_65 rfl rfl rfl (pc' := 66) rfl ?_
        refine T_op (st' := [av 29 0 0, av 29 0 0]) zk_54_66 rfl rfl (pc' := 67) rfl ?_
        refine G_getf (lo := -2147483648) (hi := 2147483647) zk_54_67 rfl vd_29 (fun σ' h => h.1.1) (fun _ h => (by have q := h.1; omega)) (pc' := 70) rfl (fun y9 hy9 hy9' => ?_)
        refine T_op zk_54_70 rfl X_ic (pc' := 71) rfl ?_
        refine G_unk zk_54_71 rfl (pc' := 72) rfl (fun y10 hy10 hy10' => ?_)
        refine T_putf (J' := (fun σ' => IF MR σ σ' ∧ σ' 29 0 0 3 = y10 ∧ True)) zk_54_72 rfl rfl vd_29 (fun σ' h => ⟨h.1.up (by simp only [rgP] <;> omega) (by first | exact pMR rfl | (unfold MR; omega)), up_eq, trivial⟩) (pc' := 75) rfl ?_
        refine T_ld zk_54_75 rfl rfl rfl (pc' := 76) rfl ?_
        refine T_ld zk_54_76 rfl rfl rfl (pc' := 77) rfl ?_
        refine T_op zk_54_77 rfl X_ic (pc' := 78) rfl ?_
        refine T_opc (w := 11) zk_54_78 rfl X_add (by omega) (pc' := 79) rfl ?_
        refine T_calli (K := fun y11 σ' => (y11 = 0 ∨ y11 = 1) ∧ (fun σ' => IF MR σ σ' ∧ True) σ') (r := []) zk_54_79 rfl rfl rfl rfl rfl rfl (Or.inr ⟨_, _, _, _, rfl, vd_29, rfl⟩) (fun σ' h => (w_54_11   σ' h.1.1 ).le (Nat.le_of_ble_eq_true rfl) (fun v σ2 ⟨y, h1, h2, h3, h4⟩ => ⟨y, h1, h2, h.1.tr h3 (fun _ _ _ _ h => h), trivial⟩)) (pc' := 82) rfl (fun y11 => ?_)
        refine G_ex (fun hy11 => ?_)
        refine T_st (L' := [(0, av 29 0 0), (1, iv 10), (2, iv y11)]) zk_54_82 (nL := 3) rfl rfl rfl rfl rfl (pc' := 83) rfl ?_
        refine T_ld zk_54_83 rfl rfl rfl (pc' := 84) rfl ?_
        refine T_getR (t' := 30) (i' := 0) (k' := 0) zk_54_84 rfl rfl rfl vd_29 (pc' := 87) rfl ?_
        refine T_op zk_54_87 rfl X_ic (pc' := 88) rfl ?_
        refine T_callv (J' := (fun σ' => IF MR σ σ' ∧ True)) (r := []) zk_54_88 rfl rfl rfl rfl rfl rfl (Or.inr ⟨_, _, _, _, rfl, vd_30, rfl⟩) (fun σ' h => (w_42 ((-1)) (by omega) σ' h.1.1 ).le (Nat.le_of_ble_eq_true rfl) (fun v σ2 ⟨h1, h3, h4⟩ => ⟨h1, h.1.tr h3 (fun _ _ _ _ h => h), trivial⟩)) (pc' := 91) rfl ?_
        refine T_ld zk_54_91 rfl rfl rfl (pc' := 92) rfl ?_
        exact T_zret zk_54_92 rfl (by omega) (fun σ' h => ⟨_, rfl, (by omega), h.1, trivial⟩)
      ·
        refine T_ld zk_54_40 rfl rfl rfl (pc' := 41) rfl ?_
        refine T_ld zk_54_41 rfl rfl rfl (pc' := 42) rfl ?_
        refine T_op zk_54_42 rfl X_ic (pc' := 43) rfl ?_
        refine T_opc (w := 11) zk_54_43 rfl X_add (by omega) (pc' := 44) rfl ?_
        refine T_calli (K := fun y13 σ' => (y13 = 0 ∨ y13 = 1) ∧ (fun σ' => IF MR σ σ' ∧ True) σ') (r := []) zk_54_44 rfl rfl rfl rfl rfl rfl (Or.inr ⟨_, _, _, _, rfl, vd_29, rfl⟩) (fun σ' h => (w_52_11   σ' h.1.1 ).le (Nat.le_of_ble_eq_true rfl) (fun v σ2 ⟨y, h1, h2, h3, h4⟩ => ⟨y, h1, h2, h.1.tr h3 (fun _ _ _ _ h => h), trivial⟩)) (pc' := 47) rfl (fun y13 => ?_)
        refine G_ex (fun hy13 => ?_)
        refine T_if_eq zk_54_47 (by omega) (pc' := 50) rfl (fun h14 => ?_) (fun h15 => ?_)
        ·
          refine T_op zk_54_63 rfl X_ic (pc' := 64) rfl ?_
          exact T_zret zk_54_64 rfl (by omega) (fun σ' h => ⟨_, rfl, (by omega), h.1, trivial⟩)
        ·
          refine T_ld zk_54_50 rfl rfl rfl (pc' := 51) rfl ?_
          refine T_op zk_54_51 rfl (X_bi (v := 41) (by decide)) (pc' := 53) rfl ?_
          refine T_calli (K := fun y16 σ' => (y16 = 0 ∨ y16 = 1) ∧ (fun σ' => IF MR σ σ' ∧ True) σ') (r := []) zk_54_53 rfl rfl rfl rfl rfl rfl (Or.inr ⟨_, _, _, _, rfl, vd_29, rfl⟩) (fun σ' h => (w_50 41 (by omega) σ' h.1.1 ).le (Nat.le_of_ble_eq_true rfl) (fun v σ2 ⟨y, h1, h2, h3, h4⟩ => ⟨y, h1, h2, h.1.tr h3 (fun _ _ _ _ h => h), trivial⟩)) (pc' := 56) rfl (fun y16 => ?_)
          refine G_ex (fun hy16 => ?_)
          refine T_if_eq zk_54_56 (by omega) (pc' := 59) rfl (fun h17 => ?_) (fun h18 => ?_)
          ·
            refine T_op zk_54_63 rfl X_ic (pc' := 64) rfl ?_
            exact T_zret zk_54_64 rfl (by omega) (fun σ' h => ⟨_, rfl, (by omega), h.1, trivial⟩)
          ·
            refine T_op zk_54_59 rfl X_ic (pc' := 60) rfl ?_
            refine T_goto zk_54_60 ?_
            exact T_zret zk_54_64 rfl (by omega) (fun σ' h => ⟨_, rfl, (by omega), h.1, trivial⟩)
    · exfalso; omega
  ·
    refine T_ld zk_54_9 rfl rfl rfl (pc' := 10) rfl ?_
    refine T_calli (K := fun y19 σ' => (-2147483648 ≤ y19 ∧ y19 ≤ 2147483647) ∧ (fun σ' => IF MR σ σ' ∧ True) σ') (r := []) zk_54_10 rfl rfl rfl rfl rfl rfl (Or.inr ⟨_, _, _, _, rfl, vd_29, rfl⟩) (fun σ' h => (w_49   σ' h.1.1 ).le (Nat.le_of_ble_eq_true rfl) (fun v σ2 ⟨y, h1, h2, h3, h4⟩ => ⟨y, h1, h2, h.1.tr h3 MN_sub, trivial⟩)) (pc' := 13) rfl (fun y19 => ?_)
    refine G_ex (fun hy19 => ?_)
    refine T_op zk_54_13 rfl (X_bi (v := 40) (by decide)) (pc' := 15) rfl ?_
    refine T_icmp_eq zk_54_15 (by omega) (by omega) (pc' := 18) rfl (fun h20 => ?_) (fun h21 => ?_)
    ·
      refine T_ld zk_54_23 rfl rfl rfl (pc' := 24) rfl ?_
      refine T_op zk_54_24 rfl (X_bi (v := 20) (by decide)) (pc' := 26) rfl ?_
      refine T_icmp_lt zk_54_26 (by omega) (by omega) (pc' := 29) rfl (fun h22 => ?_) (fun h23 => ?_)
      ·
        refine T_ld zk_54_31 rfl rfl rfl (pc' := 32) rfl ?_
        refine T_op zk_54_32 rfl (X_bi (v := 40) (by decide)) (pc' := 34) rfl ?_
        refine T_calli (K := fun y24 σ' => (y24 = 0 ∨ y24 = 1) ∧ (fun σ' => IF MR σ σ' ∧ True) σ') (r := []) zk_54_34 rfl rfl rfl rfl rfl rfl (Or.inr ⟨_, _, _, _, rfl, vd_29, rfl⟩) (fun σ' h => (w_50 40 (by omega) σ' h.1.1 ).le (Nat.le_of_ble_eq_true rfl) (fun v σ2 ⟨y, h1, h2, h3, h4⟩ => ⟨y, h1, h2, h.1.tr h3 (fun _ _ _ _ h => h), trivial⟩)) (pc' := 37) rfl (fun y24 => ?_)
        refine G_ex (fun hy24 => ?_)
        refine T_if_eq zk_54_37 (by omega) (pc' := 40) rfl (fun h25 => ?_) (fun h26 => ?_)
        ·
          refine T_ld zk_54_65 rfl rfl rfl (pc' := 66) rfl ?_
          refine T_op (st' := [av 29 0 0, av 29 0 0]) zk_54_66 rfl rfl (pc' := 67) rfl ?_
          refine G_getf (lo := -2147483648) (hi := 2147483647) zk_54_67 rfl vd_29 (fun σ' h => h.1.1) (fun _ h => (by have q := h.1; omega)) (pc' := 70) rfl (fun y27 hy27 hy27' => ?_)
          refine T_op zk_54_70 rfl X_ic (pc' := 71) rfl ?_
          refine G_unk zk_54_71 rfl (pc' := 72) rfl (fun y28 hy28 hy28' => ?_)
          refine T_putf (J' := (fun σ' => IF MR σ σ' ∧ σ' 29 0 0 3 = y28 ∧ True)) zk_54_72 rfl rfl vd_29 (fun σ' h => ⟨h.1.up (by simp only [rgP] <;> omega) (by first | exact pMR rfl | (unfold MR; omega)), up_eq, trivial⟩) (pc' := 75) rfl ?_
          refine T_ld zk_54_75 rfl rfl rfl (pc' := 76) rfl ?_
          refine T_ld zk_54_76 rfl rfl rfl (pc' := 77) rfl ?_
          refine T_op zk_54_77 rfl X_ic (pc' := 78) rfl ?_
          refine T_opc (w := 11) zk_54_78 rfl X_add (by omega) (pc' := 79) rfl ?_
          refine T_calli (K := fun y29 σ' => (y29 = 0 ∨ y29 = 1) ∧ (fun σ' => IF MR σ σ' ∧ True) σ') (r := []) zk_54_79 rfl rfl rfl rfl rfl rfl (Or.inr ⟨_, _, _, _, rfl, vd_29, rfl⟩) (fun σ' h => (w_54_11   σ' h.1.1 ).le (Nat.le_of_ble_eq_true rfl) (fun v σ2 ⟨y, h1, h2, h3, h4⟩ => ⟨y, h1, h2, h.1.tr h3 (fun _ _ _ _ h => h), trivial⟩)) (pc' := 82) rfl (fun y29 => ?_)
          refine G_ex (fun hy29 => ?_)
          refine T_st (L' := [(0, av 29 0 0), (1, iv 10), (2, iv y29)]) zk_54_82 (nL := 3) rfl rfl rfl rfl rfl (pc' := 83) rfl ?_
          refine T_ld zk_54_83 rfl rfl rfl (pc' := 84) rfl ?_
          refine T_getR (t' := 30) (i' := 0) (k' := 0) zk_54_84 rfl rfl rfl vd_29 (pc' := 87) rfl ?_
          refine T_op zk_54_87 rfl X_ic (pc' := 88) rfl ?_
          refine T_callv (J' := (fun σ' => IF MR σ σ' ∧ True)) (r := []) zk_54_88 rfl rfl rfl rfl rfl rfl (Or.inr ⟨_, _, _, _, rfl, vd_30, rfl⟩) (fun σ' h => (w_42 ((-1)) (by omega) σ' h.1.1 ).le (Nat.le_of_ble_eq_true rfl) (fun v σ2 ⟨h1, h3, h4⟩ => ⟨h1, h.1.tr h3 (fun _ _ _ _ h => h), trivial⟩)) (pc' := 91) rfl ?_
          refine T_ld zk_54_91 rfl rfl rfl (pc' := 92) rfl ?_
          exact T_zret zk_54_92 rfl (by omega) (fun σ' h => ⟨_, rfl, (by omega), h.1, trivial⟩)
        ·
          refine T_ld zk_54_40 rfl rfl rfl (pc' := 41) rfl ?_
          refine T_ld zk_54_41 rfl rfl rfl (pc' := 42) rfl ?_
          refine T_op zk_54_42 rfl X_ic (pc' := 43) rfl ?_
          refine T_opc (w := 11) zk_54_43 rfl X_add (by omega) (pc' := 44) rfl ?_
          refine T_calli (K := fun y31 σ' => (y31 = 0 ∨ y31 = 1) ∧ (fun σ' => IF MR σ σ' ∧ True) σ') (r := []) zk_54_44 rfl rfl rfl rfl rfl rfl (Or.inr ⟨_, _, _, _, rfl, vd_29, rfl⟩) (fun σ' h => (w_52_11   σ' h.1.1 ).le (Nat.le_of_ble_eq_true rfl) (fun v σ2 ⟨y, h1, h2, h3, h4⟩ => ⟨y, h1, h2, h.1.tr h3 (fun _ _ _ _ h => h), trivial⟩)) (pc' := 47) rfl (fun y31 => ?_)
          refine G_ex (fun hy31 => ?_)
          refine T_if_eq zk_54_47 (by omega) (pc' := 50) rfl (fun h32 => ?_) (fun h33 => ?_)
          ·
            refine T_op zk_54_63 rfl X_ic (pc' := 64) rfl ?_
            exact T_zret zk_54_64 rfl (by omega) (fun σ' h => ⟨_, rfl, (by omega), h.1, trivial⟩)
          ·
            refine T_ld zk_54_50 rfl rfl rfl (pc' := 51) rfl ?_
            refine T_op zk_54_51 rfl (X_bi (v := 41) (by decide)) (pc' := 53) rfl ?_
            refine T_calli (K := fun y34 σ' => (y34 = 0 ∨ y34 = 1) ∧ (fun σ' => IF MR σ σ' ∧ True) σ') (r := []) zk_54_53 rfl rfl rfl rfl rfl rfl (Or.inr ⟨_, _, _, _, rfl, vd_29, rfl⟩) (fun σ' h => (w_50 41 (by omega) σ' h.1.1 ).le (Nat.le_of_ble_eq_true rfl) (fun v σ2 ⟨y, h1, h2, h3, h4⟩ => ⟨y, h1, h2, h.1.tr h3 (fun _ _ _ _ h => h), trivial⟩)) (pc' := 56) rfl (fun y34 => ?_)
            refine G_ex (fun hy34 => ?_)
            refine T_if_eq zk_54_56 (by omega) (pc' := 59) rfl (fun h35 => ?_) (fun h36 => ?_)
            ·
              refine T_op zk_54_63 rfl X_ic (pc' := 64) rfl ?_
              exact T_zret zk_54_64 rfl (by omega) (fun σ' h => ⟨_, rfl, (by omega), h.1, trivial⟩)
            ·
              refine T_op zk_54_59 rfl X_ic (pc' := 60) rfl ?_
              refine T_goto zk_54_60 ?_
              exact T_zret zk_54_64 rfl (by omega) (fun σ' h => ⟨_, rfl, (by omega), h.1, trivial⟩)
      · exfalso; omega
    ·
      refine T_ld zk_54_18 rfl rfl rfl (pc' := 19) rfl ?_
      refine T_calli (K := fun y37 σ' => (y37 = 0 ∨ y37 = 1) ∧ (fun σ' => IF MR σ σ' ∧ True) σ') (r := []) zk_54_19 rfl rfl rfl rfl rfl rfl (Or.inr ⟨_, _, _, _, rfl, vd_29, rfl⟩) (fun σ' h => (w_55   σ' h.1.1 ).le (Nat.le_of_ble_eq_true rfl) (fun v σ2 ⟨y, h1, h2, h3, h4⟩ => ⟨y, h1, h2, h.1.tr h3 (fun _ _ _ _ h => h), trivial⟩)) (pc' := 22) rfl (fun y37 => ?_)
      refine G_ex (fun hy37 => ?_)
      exact T_zret zk_54_22 rfl (by omega) (fun σ' h => ⟨_, rfl, (by omega), h.1, trivial⟩)
/-- W$LawReader.readBoth -/
theorem w_53_10 {xs : Nat × (Nat → Int32)}   (σ : ZS) (hI : Inv σ)   : CT xs 35 53 [av 29 0 0, iv 10] σ (fun v σ' => ∃ y, v = some (iv y) ∧ (y = 0 ∨ y = 1) ∧ IF MR σ σ' ∧ (True)) := by
  refine G_ct (J := (fun σ' => IF MR σ σ' ∧ True)) (L := [(0, av 29 0 0), (1, iv 10)]) (nL := 4) rfl rfl rfl ⟨IF.rf hI, trivial⟩ ?_
  refine T_ld zk_53_0 rfl rfl rfl (pc' := 1) rfl ?_
  refine T_ld zk_53_1 rfl rfl rfl (pc' := 2) rfl ?_
  refine T_calli (K := fun y1 σ' => (y1 = 0 ∨ y1 = 1) ∧ (fun σ' => IF MR σ σ' ∧ True) σ') (r := []) zk_53_2 rfl rfl rfl rfl rfl rfl (Or.inr ⟨_, _, _, _, rfl, vd_29, rfl⟩) (fun σ' h => (w_54_10   σ' h.1.1 ).le (Nat.le_of_ble_eq_true rfl) (fun v σ2 ⟨y, h1, h2, h3, h4⟩ => ⟨y, h1, h2, h.1.tr h3 (fun _ _ _ _ h => h), trivial⟩)) (pc' := 5) rfl (fun y1 => ?_)
  refine G_ex (fun hy1 => ?_)
  refine T_st (L' := [(0, av 29 0 0), (1, iv 10), (2, iv y1)]) zk_53_5 (nL := 4) rfl rfl rfl rfl rfl (pc' := 6) rfl ?_
  refine T_op zk_53_6 rfl X_ic (pc' := 7) rfl ?_
  refine T_st (L' := [(0, av 29 0 0), (1, iv 10), (2, iv y1), (3, iv 0)]) zk_53_7 (nL := 4) rfl rfl rfl rfl rfl (pc' := 8) rfl ?_
  refine T_loop2 (fun x2 x3 => ((96 - x3 : Int)).toNat) (fun x2 x3 => (0 ≤ x2 ∧ x2 ≤ 1) ∧ (0 ≤ x3 ∧ x3 ≤ 96)) (fun x2 x3 => TJ xs (fun σ' => IF MR σ σ' ∧ True) 34 53 8 [(0, av 29 0 0), (1, iv 10), (2, iv x2), (3, iv x3)] [] _) ?_ y1 0 (by omega)
  intro x2 x3 hp5 ih4
  refine T_ld zk_53_8 rfl rfl rfl (pc' := 9) rfl ?_
  refine T_op zk_53_9 rfl (X_bi (v := 96) (by decide)) (pc' := 11) rfl ?_
  refine T_icmp_ge zk_53_11 (by omega) (by omega) (pc' := 14) rfl (fun h6 => ?_) (fun h7 => ?_)
  ·
    refine T_ld zk_53_48 rfl rfl rfl (pc' := 49) rfl ?_
    exact T_zret zk_53_49 rfl (by omega) (fun σ' h => ⟨_, rfl, (by omega), h.1, trivial⟩)
  ·
    refine T_ld zk_53_14 rfl rfl rfl (pc' := 15) rfl ?_
    refine T_if_eq zk_53_15 (by omega) (pc' := 18) rfl (fun h8 => ?_) (fun h9 => ?_)
    ·
      refine T_ld zk_53_48 rfl rfl rfl (pc' := 49) rfl ?_
      exact T_zret zk_53_49 rfl (by omega) (fun σ' h => ⟨_, rfl, (by omega), h.1, trivial⟩)
    ·
      refine T_ld zk_53_18 rfl rfl rfl (pc' := 19) rfl ?_
      refine T_op zk_53_19 rfl (X_bi (v := 38) (by decide)) (pc' := 21) rfl ?_
      refine T_calli (K := fun y10 σ' => (y10 = 0 ∨ y10 = 1) ∧ (fun σ' => IF MR σ σ' ∧ True) σ') (r := []) zk_53_21 rfl rfl rfl rfl rfl rfl (Or.inr ⟨_, _, _, _, rfl, vd_29, rfl⟩) (fun σ' h => (w_50 38 (by omega) σ' h.1.1 ).le (Nat.le_of_ble_eq_true rfl) (fun v σ2 ⟨y, h1, h2, h3, h4⟩ => ⟨y, h1, h2, h.1.tr h3 (fun _ _ _ _ h => h), trivial⟩)) (pc' := 24) rfl (fun y10 => ?_)
      refine G_ex (fun hy10 => ?_)
      refine T_if_eq zk_53_24 (by omega) (pc' := 27) rfl (fun h11 => ?_) (fun h12 => ?_)
      ·
        refine T_ld zk_53_48 rfl rfl rfl (pc' := 49) rfl ?_
        exact T_zret zk_53_49 rfl (by omega) (fun σ' h => ⟨_, rfl, (by omega), h.1, trivial⟩)
      ·
        refine T_ld zk_53_27 rfl rfl rfl (pc' := 28) rfl ?_
        refine T_ld zk_53_28 rfl rfl rfl (pc' := 29) rfl ?_
        refine T_calli (K := fun y13 σ' => (y13 = 0 ∨ y13 = 1) ∧ (fun σ' => IF MR σ σ' ∧ True) σ') (r := []) zk_53_29 rfl rfl rfl rfl rfl rfl (Or.inr ⟨_, _, _, _, rfl, vd_29, rfl⟩) (fun σ' h => (w_54_10   σ' h.1.1 ).le (Nat.le_of_ble_eq_true rfl) (fun v σ2 ⟨y, h1, h2, h3, h4⟩ => ⟨y, h1, h2, h.1.tr h3 (fun _ _ _ _ h => h), trivial⟩)) (pc' := 32) rfl (fun y13 => ?_)
        refine G_ex (fun hy13 => ?_)
        refine T_st (L' := [(0, av 29 0 0), (1, iv 10), (2, iv y13), (3, iv x3)]) zk_53_32 (nL := 4) rfl rfl rfl rfl rfl (pc' := 33) rfl ?_
        refine T_ld zk_53_33 rfl rfl rfl (pc' := 34) rfl ?_
        refine T_getR (t' := 30) (i' := 0) (k' := 0) zk_53_34 rfl rfl rfl vd_29 (pc' := 37) rfl ?_
        refine T_op zk_53_37 rfl (X_bi (v := -2) (by decide)) (pc' := 39) rfl ?_
        refine T_callv (J' := (fun σ' => IF MR σ σ' ∧ True)) (r := []) zk_53_39 rfl rfl rfl rfl rfl rfl (Or.inr ⟨_, _, _, _, rfl, vd_30, rfl⟩) (fun σ' h => (w_42 ((-2)) (by omega) σ' h.1.1 ).le (Nat.le_of_ble_eq_true rfl) (fun v σ2 ⟨h1, h3, h4⟩ => ⟨h1, h.1.tr h3 (fun _ _ _ _ h => h), trivial⟩)) (pc' := 42) rfl ?_
        refine T_iinc (L' := [(0, av 29 0 0), (1, iv 10), (2, iv y13), (3, iv (x3 + 1))]) zk_53_42 (nL := 4) rfl rfl rfl rfl (pc' := 45) rfl ?_
        refine T_goto zk_53_45 ?_
        exact ih4 y13 (x3 + 1) (by omega) (by omega)
/-- W$LawReader.readEither -/
theorem w_52_10 {xs : Nat × (Nat → Int32)}   (σ : ZS) (hI : Inv σ)   : CT xs 36 52 [av 29 0 0, iv 10] σ (fun v σ' => ∃ y, v = some (iv y) ∧ (y = 0 ∨ y = 1) ∧ IF MR σ σ' ∧ (True)) := by
  refine G_ct (J := (fun σ' => IF MR σ σ' ∧ True)) (L := [(0, av 29 0 0), (1, iv 10)]) (nL := 4) rfl rfl rfl ⟨IF.rf hI, trivial⟩ ?_
  refine T_ld zk_52_0 rfl rfl rfl (pc' := 1) rfl ?_
  refine T_ld zk_52_1 rfl rfl rfl (pc' := 2) rfl ?_
  refine T_calli (K := fun y1 σ' => (y1 = 0 ∨ y1 = 1) ∧ (fun σ' => IF MR σ σ' ∧ True) σ') (r := []) zk_52_2 rfl rfl rfl rfl rfl rfl (Or.inr ⟨_, _, _, _, rfl, vd_29, rfl⟩) (fun σ' h => (w_53_10   σ' h.1.1 ).le (Nat.le_of_ble_eq_true rfl) (fun v σ2 ⟨y, h1, h2, h3, h4⟩ => ⟨y, h1, h2, h.1.tr h3 (fun _ _ _ _ h => h), trivial⟩)) (pc' := 5) rfl (fun y1 => ?_)
  refine G_ex (fun hy1 => ?_)
  refine T_st (L' := [(0, av 29 0 0), (1, iv 10), (2, iv y1)]) zk_52_5 (nL := 4) rfl rfl rfl rfl rfl (pc' := 6) rfl ?_
  refine T_op zk_52_6 rfl X_ic (pc' := 7) rfl ?_
  refine T_st (L' := [(0, av 29 0 0), (1, iv 10), (2, iv y1), (3, iv 0)]) zk_52_7 (nL := 4) rfl rfl rfl rfl rfl (pc' := 8) rfl ?_
  refine T_loop2 (fun x2 x3 => ((96 - x3 : Int)).toNat) (fun x2 x3 => (0 ≤ x2 ∧ x2 ≤ 1) ∧ (0 ≤ x3 ∧ x3 ≤ 96)) (fun x2 x3 => TJ xs (fun σ' => IF MR σ σ' ∧ True) 35 52 8 [(0, av 29 0 0), (1, iv 10), (2, iv x2), (3, iv x3)] [] _) ?_ y1 0 (by omega)
  intro x2 x3 hp5 ih4
  refine T_ld zk_52_8 rfl rfl rfl (pc' := 9) rfl ?_
  refine T_op zk_52_9 rfl (X_bi (v := 96) (by decide)) (pc' := 11) rfl ?_
  refine T_icmp_ge zk_52_11 (by omega) (by omega) (pc' := 14) rfl (fun h6 => ?_) (fun h7 => ?_)
  ·
    refine T_ld zk_52_48 rfl rfl rfl (pc' := 49) rfl ?_
    exact T_zret zk_52_49 rfl (by omega) (fun σ' h => ⟨_, rfl, (by omega), h.1, trivial⟩)
  ·
    refine T_ld zk_52_14 rfl rfl rfl (pc' := 15) rfl ?_
    refine T_if_eq zk_52_15 (by omega) (pc' := 18) rfl (fun h8 => ?_) (fun h9 => ?_)
    ·
      refine T_ld zk_52_48 rfl rfl rfl (pc' := 49) rfl ?_
      exact T_zret zk_52_49 rfl (by omega) (fun σ' h => ⟨_, rfl, (by omega), h.1, trivial⟩)
    ·
      refine T_ld zk_52_18 rfl rfl rfl (pc' := 19) rfl ?_
      refine T_op zk_52_19 rfl (X_bi (v := 124) (by decide)) (pc' := 21) rfl ?_
      refine T_calli (K := fun y10 σ' => (y10 = 0 ∨ y10 = 1) ∧ (fun σ' => IF MR σ σ' ∧ True) σ') (r := []) zk_52_21 rfl rfl rfl rfl rfl rfl (Or.inr ⟨_, _, _, _, rfl, vd_29, rfl⟩) (fun σ' h => (w_50 124 (by omega) σ' h.1.1 ).le (Nat.le_of_ble_eq_true rfl) (fun v σ2 ⟨y, h1, h2, h3, h4⟩ => ⟨y, h1, h2, h.1.tr h3 (fun _ _ _ _ h => h), trivial⟩)) (pc' := 24) rfl (fun y10 => ?_)
      refine G_ex (fun hy10 => ?_)
      refine T_if_eq zk_52_24 (by omega) (pc' := 27) rfl (fun h11 => ?_) (fun h12 => ?_)
      ·
        refine T_ld zk_52_48 rfl rfl rfl (pc' := 49) rfl ?_
        exact T_zret zk_52_49 rfl (by omega) (fun σ' h => ⟨_, rfl, (by omega), h.1, trivial⟩)
      ·
        refine T_ld zk_52_27 rfl rfl rfl (pc' := 28) rfl ?_
        refine T_ld zk_52_28 rfl rfl rfl (pc' := 29) rfl ?_
        refine T_calli (K := fun y13 σ' => (y13 = 0 ∨ y13 = 1) ∧ (fun σ' => IF MR σ σ' ∧ True) σ') (r := []) zk_52_29 rfl rfl rfl rfl rfl rfl (Or.inr ⟨_, _, _, _, rfl, vd_29, rfl⟩) (fun σ' h => (w_53_10   σ' h.1.1 ).le (Nat.le_of_ble_eq_true rfl) (fun v σ2 ⟨y, h1, h2, h3, h4⟩ => ⟨y, h1, h2, h.1.tr h3 (fun _ _ _ _ h => h), trivial⟩)) (pc' := 32) rfl (fun y13 => ?_)
        refine G_ex (fun hy13 => ?_)
        refine T_st (L' := [(0, av 29 0 0), (1, iv 10), (2, iv y13), (3, iv x3)]) zk_52_32 (nL := 4) rfl rfl rfl rfl rfl (pc' := 33) rfl ?_
        refine T_ld zk_52_33 rfl rfl rfl (pc' := 34) rfl ?_
        refine T_getR (t' := 30) (i' := 0) (k' := 0) zk_52_34 rfl rfl rfl vd_29 (pc' := 37) rfl ?_
        refine T_op zk_52_37 rfl (X_bi (v := -3) (by decide)) (pc' := 39) rfl ?_
        refine T_callv (J' := (fun σ' => IF MR σ σ' ∧ True)) (r := []) zk_52_39 rfl rfl rfl rfl rfl rfl (Or.inr ⟨_, _, _, _, rfl, vd_30, rfl⟩) (fun σ' h => (w_42 ((-3)) (by omega) σ' h.1.1 ).le (Nat.le_of_ble_eq_true rfl) (fun v σ2 ⟨h1, h3, h4⟩ => ⟨h1, h.1.tr h3 (fun _ _ _ _ h => h), trivial⟩)) (pc' := 42) rfl ?_
        refine T_iinc (L' := [(0, av 29 0 0), (1, iv 10), (2, iv y13), (3, iv (x3 + 1))]) zk_52_42 (nL := 4) rfl rfl rfl rfl (pc' := 45) rfl ?_
        refine T_goto zk_52_45 ?_
        exact ih4 y13 (x3 + 1) (by omega) (by omega)
/-- W$LawReader.readPart -/
theorem w_54_9 {xs : Nat × (Nat → Int32)}   (σ : ZS) (hI : Inv σ)   : CT xs 37 54 [av 29 0 0, iv 9] σ (fun v σ' => ∃ y, v = some (iv y) ∧ (y = 0 ∨ y = 1) ∧ IF MR σ σ' ∧ (True)) := by
  refine G_ct (J := (fun σ' => IF MR σ σ' ∧ True)) (L := [(0, av 29 0 0), (1, iv 9)]) (nL := 3) rfl rfl rfl ⟨IF.rf hI, trivial⟩ ?_
  refine T_ld zk_54_0 rfl rfl rfl (pc' := 1) rfl ?_
  refine T_calli (K := fun y1 σ' => (-2147483648 ≤ y1 ∧ y1 ≤ 2147483647) ∧ (fun σ' => IF MR σ σ' ∧ True) σ') (r := []) zk_54_1 rfl rfl rfl rfl rfl rfl (Or.inr ⟨_, _, _, _, rfl, vd_29, rfl⟩) (fun σ' h => (w_49   σ' h.1.1 ).le (Nat.le_of_ble_eq_true rfl) (fun v σ2 ⟨y, h1, h2, h3, h4⟩ => ⟨y, h1, h2, h.1.tr h3 MN_sub, trivial⟩)) (pc' := 4) rfl (fun y1 => ?_)
  refine G_ex (fun hy1 => ?_)
  refine T_op zk_54_4 rfl (X_bi (v := 33) (by decide)) (pc' := 6) rfl ?_
  refine T_icmp_eq zk_54_6 (by omega) (by omega) (pc' := 9) rfl (fun h2 => ?_) (fun h3 => ?_)
  ·
    refine T_ld zk_54_23 rfl rfl rfl (pc' := 24) rfl ?_
    refine T_op zk_54_24 rfl (X_bi (v := 20) (by decide)) (pc' := 26) rfl ?_
    refine T_icmp_lt zk_54_26 (by omega) (by omega) (pc' := 29) rfl (fun h4 => ?_) (fun h5 => ?_)
    ·
      refine T_ld zk_54_31 rfl rfl rfl (pc' := 32) rfl ?_
      refine T_op zk_54_32 rfl (X_bi (v := 40) (by decide)) (pc' := 34) rfl ?_
      refine T_calli (K := fun y6 σ' => (y6 = 0 ∨ y6 = 1) ∧ (fun σ' => IF MR σ σ' ∧ True) σ') (r := []) zk_54_34 rfl rfl rfl rfl rfl rfl (Or.inr ⟨_, _, _, _, rfl, vd_29, rfl⟩) (fun σ' h => (w_50 40 (by omega) σ' h.1.1 ).le (Nat.le_of_ble_eq_true rfl) (fun v σ2 ⟨y, h1, h2, h3, h4⟩ => ⟨y, h1, h2, h.1.tr h3 (fun _ _ _ _ h => h), trivial⟩)) (pc' := 37) rfl (fun y6 => ?_)
      refine G_ex (fun hy6 => ?_)
      refine T_if_eq zk_54_37 (by omega) (pc' := 40) rfl (fun h7 => ?_) (fun h8 => ?_)
      ·
        refine T_ld zk_54_65 rfl rfl rfl (pc' := 66) rfl ?_
        refine T_op (st' := [av 29 0 0, av 29 0 0]) zk_54_66 rfl rfl (pc' := 67) rfl ?_
        refine G_getf (lo := -2147483648) (hi := 2147483647) zk_54_67 rfl vd_29 (fun σ' h => h.1.1) (fun _ h => (by have q := h.1; omega)) (pc' := 70) rfl (fun y9 hy9 hy9' => ?_)
        refine T_op zk_54_70 rfl X_ic (pc' := 71) rfl ?_
        refine G_unk zk_54_71 rfl (pc' := 72) rfl (fun y10 hy10 hy10' => ?_)
        refine T_putf (J' := (fun σ' => IF MR σ σ' ∧ σ' 29 0 0 3 = y10 ∧ True)) zk_54_72 rfl rfl vd_29 (fun σ' h => ⟨h.1.up (by simp only [rgP] <;> omega) (by first | exact pMR rfl | (unfold MR; omega)), up_eq, trivial⟩) (pc' := 75) rfl ?_
        refine T_ld zk_54_75 rfl rfl rfl (pc' := 76) rfl ?_
        refine T_ld zk_54_76 rfl rfl rfl (pc' := 77) rfl ?_
        refine T_op zk_54_77 rfl X_ic (pc' := 78) rfl ?_
        refine T_opc (w := 10) zk_54_78 rfl X_add (by omega) (pc' := 79) rfl ?_
        refine T_calli (K := fun y11 σ' => (y11 = 0 ∨ y11 = 1) ∧ (fun σ' => IF MR σ σ' ∧ True) σ') (r := []) zk_54_79 rfl rfl rfl rfl rfl rfl (Or.inr ⟨_, _, _, _, rfl, vd_29, rfl⟩) (fun σ' h => (w_54_10   σ' h.1.1 ).le (Nat.le_of_ble_eq_true rfl) (fun v σ2 ⟨y, h1, h2, h3, h4⟩ => ⟨y, h1, h2, h.1.tr h3 (fun _ _ _ _ h => h), trivial⟩)) (pc' := 82) rfl (fun y11 => ?_)
        refine G_ex (fun hy11 => ?_)
        refine T_st (L' := [(0, av 29 0 0), (1, iv 9), (2, iv y11)]) zk_54_82 (nL := 3) rfl rfl rfl rfl rfl (pc' := 83) rfl ?_
        refine T_ld zk_54_83 rfl rfl rfl (pc' := 84) rfl ?_
        refine T_getR (t' := 30) (i' := 0) (k' := 0) zk_54_84 rfl rfl rfl vd_29 (pc' := 87) rfl ?_
        refine T_op zk_54_87 rfl X_ic (pc' := 88) rfl ?_
        refine T_callv (J' := (fun σ' => IF MR σ σ' ∧ True)) (r := []) zk_54_88 rfl rfl rfl rfl rfl rfl (Or.inr ⟨_, _, _, _, rfl, vd_30, rfl⟩) (fun σ' h => (w_42 ((-1)) (by omega) σ' h.1.1 ).le (Nat.le_of_ble_eq_true rfl) (fun v σ2 ⟨h1, h3, h4⟩ => ⟨h1, h.1.tr h3 (fun _ _ _ _ h => h), trivial⟩)) (pc' := 91) rfl ?_
        refine T_ld zk_54_91 rfl rfl rfl (pc' := 92) rfl ?_
        exact T_zret zk_54_92 rfl (by omega) (fun σ' h => ⟨_, rfl, (by omega), h.1, trivial⟩)
      ·
        refine T_ld zk_54_40 rfl rfl rfl (pc' := 41) rfl ?_
        refine T_ld zk_54_41 rfl rfl rfl (pc' := 42) rfl ?_
        refine T_op zk_54_42 rfl X_ic (pc' := 43) rfl ?_
        refine T_opc (w := 10) zk_54_43 rfl X_add (by omega) (pc' := 44) rfl ?_
        refine T_calli (K := fun y13 σ' => (y13 = 0 ∨ y13 = 1) ∧ (fun σ' => IF MR σ σ' ∧ True) σ') (r := []) zk_54_44 rfl rfl rfl rfl rfl rfl (Or.inr ⟨_, _, _, _, rfl, vd_29, rfl⟩) (fun σ' h => (w_52_10   σ' h.1.1 ).le (Nat.le_of_ble_eq_true rfl) (fun v σ2 ⟨y, h1, h2, h3, h4⟩ => ⟨y, h1, h2, h.1.tr h3 (fun _ _ _ _ h => h), trivial⟩)) (pc' := 47) rfl (fun y13 => ?_)
        refine G_ex (fun hy13 => ?_)
        refine T_if_eq zk_54_47 (by omega) (pc' := 50) rfl (fun h14 => ?_) (fun h15 => ?_)
        ·
          refine T_op zk_54_63 rfl X_ic (pc' := 64) rfl ?_
          exact T_zret zk_54_64 rfl (by omega) (fun σ' h => ⟨_, rfl, (by omega), h.1, trivial⟩)
        ·
          refine T_ld zk_54_50 rfl rfl rfl (pc' := 51) rfl ?_
          refine T_op zk_54_51 rfl (X_bi (v := 41) (by decide)) (pc' := 53) rfl ?_
          refine T_calli (K := fun y16 σ' => (y16 = 0 ∨ y16 = 1) ∧ (fun σ' => IF MR σ σ' ∧ True) σ') (r := []) zk_54_53 rfl rfl rfl rfl rfl rfl (Or.inr ⟨_, _, _, _, rfl, vd_29, rfl⟩) (fun σ' h => (w_50 41 (by omega) σ' h.1.1 ).le (Nat.le_of_ble_eq_true rfl) (fun v σ2 ⟨y, h1, h2, h3, h4⟩ => ⟨y, h1, h2, h.1.tr h3 (fun _ _ _ _ h => h), trivial⟩)) (pc' := 56) rfl (fun y16 => ?_)
          refine G_ex (fun hy16 => ?_)
          refine T_if_eq zk_54_56 (by omega) (pc' := 59) rfl (fun h17 => ?_) (fun h18 => ?_)
          ·
            refine T_op zk_54_63 rfl X_ic (pc' := 64) rfl ?_
            exact T_zret zk_54_64 rfl (by omega) (fun σ' h => ⟨_, rfl, (by omega), h.1, trivial⟩)
          ·
            refine T_op zk_54_59 rfl X_ic (pc' := 60) rfl ?_
            refine T_goto zk_54_60 ?_
            exact T_zret zk_54_64 rfl (by omega) (fun σ' h => ⟨_, rfl, (by omega), h.1, trivial⟩)
    · exfalso; omega
  ·
    refine T_ld zk_54_9 rfl rfl rfl (pc' := 10) rfl ?_
    refine T_calli (K := fun y19 σ' => (-2147483648 ≤ y19 ∧ y19 ≤ 2147483647) ∧ (fun σ' => IF MR σ σ' ∧ True) σ') (r := []) zk_54_10 rfl rfl rfl rfl rfl rfl (Or.inr ⟨_, _, _, _, rfl, vd_29, rfl⟩) (fun σ' h => (w_49   σ' h.1.1 ).le (Nat.le_of_ble_eq_true rfl) (fun v σ2 ⟨y, h1, h2, h3, h4⟩ => ⟨y, h1, h2, h.1.tr h3 MN_sub, trivial⟩)) (pc' := 13) rfl (fun y19 => ?_)
    refine G_ex (fun hy19 => ?_)
    refine T_op zk_54_13 rfl (X_bi (v := 40) (by decide)) (pc' := 15) rfl ?_
    refine T_icmp_eq zk_54_15 (by omega) (by omega) (pc' := 18) rfl (fun h20 => ?_) (fun h21 => ?_)
    ·
      refine T_ld zk_54_23 rfl rfl rfl (pc' := 24) rfl ?_
      refine T_op zk_54_24 rfl (X_bi (v := 20) (by decide)) (pc' := 26) rfl ?_
      refine T_icmp_lt zk_54_26 (by omega) (by omega) (pc' := 29) rfl (fun h22 => ?_) (fun h23 => ?_)
      ·
        refine T_ld zk_54_31 rfl rfl rfl (pc' := 32) rfl ?_
        refine T_op zk_54_32 rfl (X_bi (v := 40) (by decide)) (pc' := 34) rfl ?_
        refine T_calli (K := fun y24 σ' => (y24 = 0 ∨ y24 = 1) ∧ (fun σ' => IF MR σ σ' ∧ True) σ') (r := []) zk_54_34 rfl rfl rfl rfl rfl rfl (Or.inr ⟨_, _, _, _, rfl, vd_29, rfl⟩) (fun σ' h => (w_50 40 (by omega) σ' h.1.1 ).le (Nat.le_of_ble_eq_true rfl) (fun v σ2 ⟨y, h1, h2, h3, h4⟩ => ⟨y, h1, h2, h.1.tr h3 (fun _ _ _ _ h => h), trivial⟩)) (pc' := 37) rfl (fun y24 => ?_)
        refine G_ex (fun hy24 => ?_)
        refine T_if_eq zk_54_37 (by omega) (pc' := 40) rfl (fun h25 => ?_) (fun h26 => ?_)
        ·
          refine T_ld zk_54_65 rfl rfl rfl (pc' := 66) rfl ?_
          refine T_op (st' := [av 29 0 0, av 29 0 0]) zk_54_66 rfl rfl (pc' := 67) rfl ?_
          refine G_getf (lo := -2147483648) (hi := 2147483647) zk_54_67 rfl vd_29 (fun σ' h => h.1.1) (fun _ h => (by have q := h.1; omega)) (pc' := 70) rfl (fun y27 hy27 hy27' => ?_)
          refine T_op zk_54_70 rfl X_ic (pc' := 71) rfl ?_
          refine G_unk zk_54_71 rfl (pc' := 72) rfl (fun y28 hy28 hy28' => ?_)
          refine T_putf (J' := (fun σ' => IF MR σ σ' ∧ σ' 29 0 0 3 = y28 ∧ True)) zk_54_72 rfl rfl vd_29 (fun σ' h => ⟨h.1.up (by simp only [rgP] <;> omega) (by first | exact pMR rfl | (unfold MR; omega)), up_eq, trivial⟩) (pc' := 75) rfl ?_
          refine T_ld zk_54_75 rfl rfl rfl (pc' := 76) rfl ?_
          refine T_ld zk_54_76 rfl rfl rfl (pc' := 77) rfl ?_
          refine T_op zk_54_77 rfl X_ic (pc' := 78) rfl ?_
          refine T_opc (w := 10) zk_54_78 rfl X_add (by omega) (pc' := 79) rfl ?_
          refine T_calli (K := fun y29 σ' => (y29 = 0 ∨ y29 = 1) ∧ (fun σ' => IF MR σ σ' ∧ True) σ') (r := []) zk_54_79 rfl rfl rfl rfl rfl rfl (Or.inr ⟨_, _, _, _, rfl, vd_29, rfl⟩) (fun σ' h => (w_54_10   σ' h.1.1 ).le (Nat.le_of_ble_eq_true rfl) (fun v σ2 ⟨y, h1, h2, h3, h4⟩ => ⟨y, h1, h2, h.1.tr h3 (fun _ _ _ _ h => h), trivial⟩)) (pc' := 82) rfl (fun y29 => ?_)
          refine G_ex (fun hy29 => ?_)
          refine T_st (L' := [(0, av 29 0 0), (1, iv 9), (2, iv y29)]) zk_54_82 (nL := 3) rfl rfl rfl rfl rfl (pc' := 83) rfl ?_
          refine T_ld zk_54_83 rfl rfl rfl (pc' := 84) rfl ?_
          refine T_getR (t' := 30) (i' := 0) (k' := 0) zk_54_84 rfl rfl rfl vd_29 (pc' := 87) rfl ?_
          refine T_op zk_54_87 rfl X_ic (pc' := 88) rfl ?_
          refine T_callv (J' := (fun σ' => IF MR σ σ' ∧ True)) (r := []) zk_54_88 rfl rfl rfl rfl rfl rfl (Or.inr ⟨_, _, _, _, rfl, vd_30, rfl⟩) (fun σ' h => (w_42 ((-1)) (by omega) σ' h.1.1 ).le (Nat.le_of_ble_eq_true rfl) (fun v σ2 ⟨h1, h3, h4⟩ => ⟨h1, h.1.tr h3 (fun _ _ _ _ h => h), trivial⟩)) (pc' := 91) rfl ?_
          refine T_ld zk_54_91 rfl rfl rfl (pc' := 92) rfl ?_
          exact T_zret zk_54_92 rfl (by omega) (fun σ' h => ⟨_, rfl, (by omega), h.1, trivial⟩)
        ·
          refine T_ld zk_54_40 rfl rfl rfl (pc' := 41) rfl ?_
          refine T_ld zk_54_41 rfl rfl rfl (pc' := 42) rfl ?_
          refine T_op zk_54_42 rfl X_ic (pc' := 43) rfl ?_
          refine T_opc (w := 10) zk_54_43 rfl X_add (by omega) (pc' := 44) rfl ?_
          refine T_calli (K := fun y31 σ' => (y31 = 0 ∨ y31 = 1) ∧ (fun σ' => IF MR σ σ' ∧ True) σ') (r := []) zk_54_44 rfl rfl rfl rfl rfl rfl (Or.inr ⟨_, _, _, _, rfl, vd_29, rfl⟩) (fun σ' h => (w_52_10   σ' h.1.1 ).le (Nat.le_of_ble_eq_true rfl) (fun v σ2 ⟨y, h1, h2, h3, h4⟩ => ⟨y, h1, h2, h.1.tr h3 (fun _ _ _ _ h => h), trivial⟩)) (pc' := 47) rfl (fun y31 => ?_)
          refine G_ex (fun hy31 => ?_)
          refine T_if_eq zk_54_47 (by omega) (pc' := 50) rfl (fun h32 => ?_) (fun h33 => ?_)
          ·
            refine T_op zk_54_63 rfl X_ic (pc' := 64) rfl ?_
            exact T_zret zk_54_64 rfl (by omega) (fun σ' h => ⟨_, rfl, (by omega), h.1, trivial⟩)
          ·
            refine T_ld zk_54_50 rfl rfl rfl (pc' := 51) rfl ?_
            refine T_op zk_54_51 rfl (X_bi (v := 41) (by decide)) (pc' := 53) rfl ?_
            refine T_calli (K := fun y34 σ' => (y34 = 0 ∨ y34 = 1) ∧ (fun σ' => IF MR σ σ' ∧ True) σ') (r := []) zk_54_53 rfl rfl rfl rfl rfl rfl (Or.inr ⟨_, _, _, _, rfl, vd_29, rfl⟩) (fun σ' h => (w_50 41 (by omega) σ' h.1.1 ).le (Nat.le_of_ble_eq_true rfl) (fun v σ2 ⟨y, h1, h2, h3, h4⟩ => ⟨y, h1, h2, h.1.tr h3 (fun _ _ _ _ h => h), trivial⟩)) (pc' := 56) rfl (fun y34 => ?_)
            refine G_ex (fun hy34 => ?_)
            refine T_if_eq zk_54_56 (by omega) (pc' := 59) rfl (fun h35 => ?_) (fun h36 => ?_)
            ·
              refine T_op zk_54_63 rfl X_ic (pc' := 64) rfl ?_
              exact T_zret zk_54_64 rfl (by omega) (fun σ' h => ⟨_, rfl, (by omega), h.1, trivial⟩)
            ·
              refine T_op zk_54_59 rfl X_ic (pc' := 60) rfl ?_
              refine T_goto zk_54_60 ?_
              exact T_zret zk_54_64 rfl (by omega) (fun σ' h => ⟨_, rfl, (by omega), h.1, trivial⟩)
      · exfalso; omega
    ·
      refine T_ld zk_54_18 rfl rfl rfl (pc' := 19) rfl ?_
      refine T_calli (K := fun y37 σ' => (y37 = 0 ∨ y37 = 1) ∧ (fun σ' => IF MR σ σ' ∧ True) σ') (r := []) zk_54_19 rfl rfl rfl rfl rfl rfl (Or.inr ⟨_, _, _, _, rfl, vd_29, rfl⟩) (fun σ' h => (w_55   σ' h.1.1 ).le (Nat.le_of_ble_eq_true rfl) (fun v σ2 ⟨y, h1, h2, h3, h4⟩ => ⟨y, h1, h2, h.1.tr h3 (fun _ _ _ _ h => h), trivial⟩)) (pc' := 22) rfl (fun y37 => ?_)
      refine G_ex (fun hy37 => ?_)
      exact T_zret zk_54_22 rfl (by omega) (fun σ' h => ⟨_, rfl, (by omega), h.1, trivial⟩)
/-- W$LawReader.readBoth -/
theorem w_53_9 {xs : Nat × (Nat → Int32)}   (σ : ZS) (hI : Inv σ)   : CT xs 38 53 [av 29 0 0, iv 9] σ (fun v σ' => ∃ y, v = some (iv y) ∧ (y = 0 ∨ y = 1) ∧ IF MR σ σ' ∧ (True)) := by
  refine G_ct (J := (fun σ' => IF MR σ σ' ∧ True)) (L := [(0, av 29 0 0), (1, iv 9)]) (nL := 4) rfl rfl rfl ⟨IF.rf hI, trivial⟩ ?_
  refine T_ld zk_53_0 rfl rfl rfl (pc' := 1) rfl ?_
  refine T_ld zk_53_1 rfl rfl rfl (pc' := 2) rfl ?_
  refine T_calli (K := fun y1 σ' => (y1 = 0 ∨ y1 = 1) ∧ (fun σ' => IF MR σ σ' ∧ True) σ') (r := []) zk_53_2 rfl rfl rfl rfl rfl rfl (Or.inr ⟨_, _, _, _, rfl, vd_29, rfl⟩) (fun σ' h => (w_54_9   σ' h.1.1 ).le (Nat.le_of_ble_eq_true rfl) (fun v σ2 ⟨y, h1, h2, h3, h4⟩ => ⟨y, h1, h2, h.1.tr h3 (fun _ _ _ _ h => h), trivial⟩)) (pc' := 5) rfl (fun y1 => ?_)
  refine G_ex (fun hy1 => ?_)
  refine T_st (L' := [(0, av 29 0 0), (1, iv 9), (2, iv y1)]) zk_53_5 (nL := 4) rfl rfl rfl rfl rfl (pc' := 6) rfl ?_
  refine T_op zk_53_6 rfl X_ic (pc' := 7) rfl ?_
  refine T_st (L' := [(0, av 29 0 0), (1, iv 9), (2, iv y1), (3, iv 0)]) zk_53_7 (nL := 4) rfl rfl rfl rfl rfl (pc' := 8) rfl ?_
  refine T_loop2 (fun x2 x3 => ((96 - x3 : Int)).toNat) (fun x2 x3 => (0 ≤ x2 ∧ x2 ≤ 1) ∧ (0 ≤ x3 ∧ x3 ≤ 96)) (fun x2 x3 => TJ xs (fun σ' => IF MR σ σ' ∧ True) 37 53 8 [(0, av 29 0 0), (1, iv 9), (2, iv x2), (3, iv x3)] [] _) ?_ y1 0 (by omega)
  intro x2 x3 hp5 ih4
  refine T_ld zk_53_8 rfl rfl rfl (pc' := 9) rfl ?_
  refine T_op zk_53_9 rfl (X_bi (v := 96) (by decide)) (pc' := 11) rfl ?_
  refine T_icmp_ge zk_53_11 (by omega) (by omega) (pc' := 14) rfl (fun h6 => ?_) (fun h7 => ?_)
  ·
    refine T_ld zk_53_48 rfl rfl rfl (pc' := 49) rfl ?_
    exact T_zret zk_53_49 rfl (by omega) (fun σ' h => ⟨_, rfl, (by omega), h.1, trivial⟩)
  ·
    refine T_ld zk_53_14 rfl rfl rfl (pc' := 15) rfl ?_
    refine T_if_eq zk_53_15 (by omega) (pc' := 18) rfl (fun h8 => ?_) (fun h9 => ?_)
    ·
      refine T_ld zk_53_48 rfl rfl rfl (pc' := 49) rfl ?_
      exact T_zret zk_53_49 rfl (by omega) (fun σ' h => ⟨_, rfl, (by omega), h.1, trivial⟩)
    ·
      refine T_ld zk_53_18 rfl rfl rfl (pc' := 19) rfl ?_
      refine T_op zk_53_19 rfl (X_bi (v := 38) (by decide)) (pc' := 21) rfl ?_
      refine T_calli (K := fun y10 σ' => (y10 = 0 ∨ y10 = 1) ∧ (fun σ' => IF MR σ σ' ∧ True) σ') (r := []) zk_53_21 rfl rfl rfl rfl rfl rfl (Or.inr ⟨_, _, _, _, rfl, vd_29, rfl⟩) (fun σ' h => (w_50 38 (by omega) σ' h.1.1 ).le (Nat.le_of_ble_eq_true rfl) (fun v σ2 ⟨y, h1, h2, h3, h4⟩ => ⟨y, h1, h2, h.1.tr h3 (fun _ _ _ _ h => h), trivial⟩)) (pc' := 24) rfl (fun y10 => ?_)
      refine G_ex (fun hy10 => ?_)
      refine T_if_eq zk_53_24 (by omega) (pc' := 27) rfl (fun h11 => ?_) (fun h12 => ?_)
      ·
        refine T_ld zk_53_48 rfl rfl rfl (pc' := 49) rfl ?_
        exact T_zret zk_53_49 rfl (by omega) (fun σ' h => ⟨_, rfl, (by omega), h.1, trivial⟩)
      ·
        refine T_ld zk_53_27 rfl rfl rfl (pc' := 28) rfl ?_
        refine T_ld zk_53_28 rfl rfl rfl (pc' := 29) rfl ?_
        refine T_calli (K := fun y13 σ' => (y13 = 0 ∨ y13 = 1) ∧ (fun σ' => IF MR σ σ' ∧ True) σ') (r := []) zk_53_29 rfl rfl rfl rfl rfl rfl (Or.inr ⟨_, _, _, _, rfl, vd_29, rfl⟩) (fun σ' h => (w_54_9   σ' h.1.1 ).le (Nat.le_of_ble_eq_true rfl) (fun v σ2 ⟨y, h1, h2, h3, h4⟩ => ⟨y, h1, h2, h.1.tr h3 (fun _ _ _ _ h => h), trivial⟩)) (pc' := 32) rfl (fun y13 => ?_)
        refine G_ex (fun hy13 => ?_)
        refine T_st (L' := [(0, av 29 0 0), (1, iv 9), (2, iv y13), (3, iv x3)]) zk_53_32 (nL := 4) rfl rfl rfl rfl rfl (pc' := 33) rfl ?_
        refine T_ld zk_53_33 rfl rfl rfl (pc' := 34) rfl ?_
        refine T_getR (t' := 30) (i' := 0) (k' := 0) zk_53_34 rfl rfl rfl vd_29 (pc' := 37) rfl ?_
        refine T_op zk_53_37 rfl (X_bi (v := -2) (by decide)) (pc' := 39) rfl ?_
        refine T_callv (J' := (fun σ' => IF MR σ σ' ∧ True)) (r := []) zk_53_39 rfl rfl rfl rfl rfl rfl (Or.inr ⟨_, _, _, _, rfl, vd_30, rfl⟩) (fun σ' h => (w_42 ((-2)) (by omega) σ' h.1.1 ).le (Nat.le_of_ble_eq_true rfl) (fun v σ2 ⟨h1, h3, h4⟩ => ⟨h1, h.1.tr h3 (fun _ _ _ _ h => h), trivial⟩)) (pc' := 42) rfl ?_
        refine T_iinc (L' := [(0, av 29 0 0), (1, iv 9), (2, iv y13), (3, iv (x3 + 1))]) zk_53_42 (nL := 4) rfl rfl rfl rfl (pc' := 45) rfl ?_
        refine T_goto zk_53_45 ?_
        exact ih4 y13 (x3 + 1) (by omega) (by omega)
/-- W$LawReader.readEither -/
theorem w_52_9 {xs : Nat × (Nat → Int32)}   (σ : ZS) (hI : Inv σ)   : CT xs 39 52 [av 29 0 0, iv 9] σ (fun v σ' => ∃ y, v = some (iv y) ∧ (y = 0 ∨ y = 1) ∧ IF MR σ σ' ∧ (True)) := by
  refine G_ct (J := (fun σ' => IF MR σ σ' ∧ True)) (L := [(0, av 29 0 0), (1, iv 9)]) (nL := 4) rfl rfl rfl ⟨IF.rf hI, trivial⟩ ?_
  refine T_ld zk_52_0 rfl rfl rfl (pc' := 1) rfl ?_
  refine T_ld zk_52_1 rfl rfl rfl (pc' := 2) rfl ?_
  refine T_calli (K := fun y1 σ' => (y1 = 0 ∨ y1 = 1) ∧ (fun σ' => IF MR σ σ' ∧ True) σ') (r := []) zk_52_2 rfl rfl rfl rfl rfl rfl (Or.inr ⟨_, _, _, _, rfl, vd_29, rfl⟩) (fun σ' h => (w_53_9   σ' h.1.1 ).le (Nat.le_of_ble_eq_true rfl) (fun v σ2 ⟨y, h1, h2, h3, h4⟩ => ⟨y, h1, h2, h.1.tr h3 (fun _ _ _ _ h => h), trivial⟩)) (pc' := 5) rfl (fun y1 => ?_)
  refine G_ex (fun hy1 => ?_)
  refine T_st (L' := [(0, av 29 0 0), (1, iv 9), (2, iv y1)]) zk_52_5 (nL := 4) rfl rfl rfl rfl rfl (pc' := 6) rfl ?_
  refine T_op zk_52_6 rfl X_ic (pc' := 7) rfl ?_
  refine T_st (L' := [(0, av 29 0 0), (1, iv 9), (2, iv y1), (3, iv 0)]) zk_52_7 (nL := 4) rfl rfl rfl rfl rfl (pc' := 8) rfl ?_
  refine T_loop2 (fun x2 x3 => ((96 - x3 : Int)).toNat) (fun x2 x3 => (0 ≤ x2 ∧ x2 ≤ 1) ∧ (0 ≤ x3 ∧ x3 ≤ 96)) (fun x2 x3 => TJ xs (fun σ' => IF MR σ σ' ∧ True) 38 52 8 [(0, av 29 0 0), (1, iv 9), (2, iv x2), (3, iv x3)] [] _) ?_ y1 0 (by omega)
  intro x2 x3 hp5 ih4
  refine T_ld zk_52_8 rfl rfl rfl (pc' := 9) rfl ?_
  refine T_op zk_52_9 rfl (X_bi (v := 96) (by decide)) (pc' := 11) rfl ?_
  refine T_icmp_ge zk_52_11 (by omega) (by omega) (pc' := 14) rfl (fun h6 => ?_) (fun h7 => ?_)
  ·
    refine T_ld zk_52_48 rfl rfl rfl (pc' := 49) rfl ?_
    exact T_zret zk_52_49 rfl (by omega) (fun σ' h => ⟨_, rfl, (by omega), h.1, trivial⟩)
  ·
    refine T_ld zk_52_14 rfl rfl rfl (pc' := 15) rfl ?_
    refine T_if_eq zk_52_15 (by omega) (pc' := 18) rfl (fun h8 => ?_) (fun h9 => ?_)
    ·
      refine T_ld zk_52_48 rfl rfl rfl (pc' := 49) rfl ?_
      exact T_zret zk_52_49 rfl (by omega) (fun σ' h => ⟨_, rfl, (by omega), h.1, trivial⟩)
    ·
      refine T_ld zk_52_18 rfl rfl rfl (pc' := 19) rfl ?_
      refine T_op zk_52_19 rfl (X_bi (v := 124) (by decide)) (pc' := 21) rfl ?_
      refine T_calli (K := fun y10 σ' => (y10 = 0 ∨ y10 = 1) ∧ (fun σ' => IF MR σ σ' ∧ True) σ') (r := []) zk_52_21 rfl rfl rfl rfl rfl rfl (Or.inr ⟨_, _, _, _, rfl, vd_29, rfl⟩) (fun σ' h => (w_50 124 (by omega) σ' h.1.1 ).le (Nat.le_of_ble_eq_true rfl) (fun v σ2 ⟨y, h1, h2, h3, h4⟩ => ⟨y, h1, h2, h.1.tr h3 (fun _ _ _ _ h => h), trivial⟩)) (pc' := 24) rfl (fun y10 => ?_)
      refine G_ex (fun hy10 => ?_)
      refine T_if_eq zk_52_24 (by omega) (pc' := 27) rfl (fun h11 => ?_) (fun h12 => ?_)
      ·
        refine T_ld zk_52_48 rfl rfl rfl (pc' := 49) rfl ?_
        exact T_zret zk_52_49 rfl (by omega) (fun σ' h => ⟨_, rfl, (by omega), h.1, trivial⟩)
      ·
        refine T_ld zk_52_27 rfl rfl rfl (pc' := 28) rfl ?_
        refine T_ld zk_52_28 rfl rfl rfl (pc' := 29) rfl ?_
        refine T_calli (K := fun y13 σ' => (y13 = 0 ∨ y13 = 1) ∧ (fun σ' => IF MR σ σ' ∧ True) σ') (r := []) zk_52_29 rfl rfl rfl rfl rfl rfl (Or.inr ⟨_, _, _, _, rfl, vd_29, rfl⟩) (fun σ' h => (w_53_9   σ' h.1.1 ).le (Nat.le_of_ble_eq_true rfl) (fun v σ2 ⟨y, h1, h2, h3, h4⟩ => ⟨y, h1, h2, h.1.tr h3 (fun _ _ _ _ h => h), trivial⟩)) (pc' := 32) rfl (fun y13 => ?_)
        refine G_ex (fun hy13 => ?_)
        refine T_st (L' := [(0, av 29 0 0), (1, iv 9), (2, iv y13), (3, iv x3)]) zk_52_32 (nL := 4) rfl rfl rfl rfl rfl (pc' := 33) rfl ?_
        refine T_ld zk_52_33 rfl rfl rfl (pc' := 34) rfl ?_
        refine T_getR (t' := 30) (i' := 0) (k' := 0) zk_52_34 rfl rfl rfl vd_29 (pc' := 37) rfl ?_
        refine T_op zk_52_37 rfl (X_bi (v := -3) (by decide)) (pc' := 39) rfl ?_
        refine T_callv (J' := (fun σ' => IF MR σ σ' ∧ True)) (r := []) zk_52_39 rfl rfl rfl rfl rfl rfl (Or.inr ⟨_, _, _, _, rfl, vd_30, rfl⟩) (fun σ' h => (w_42 ((-3)) (by omega) σ' h.1.1 ).le (Nat.le_of_ble_eq_true rfl) (fun v σ2 ⟨h1, h3, h4⟩ => ⟨h1, h.1.tr h3 (fun _ _ _ _ h => h), trivial⟩)) (pc' := 42) rfl ?_
        refine T_iinc (L' := [(0, av 29 0 0), (1, iv 9), (2, iv y13), (3, iv (x3 + 1))]) zk_52_42 (nL := 4) rfl rfl rfl rfl (pc' := 45) rfl ?_
        refine T_goto zk_52_45 ?_
        exact ih4 y13 (x3 + 1) (by omega) (by omega)
/-- W$LawReader.readPart -/
theorem w_54_8 {xs : Nat × (Nat → Int32)}   (σ : ZS) (hI : Inv σ)   : CT xs 40 54 [av 29 0 0, iv 8] σ (fun v σ' => ∃ y, v = some (iv y) ∧ (y = 0 ∨ y = 1) ∧ IF MR σ σ' ∧ (True)) := by
  refine G_ct (J := (fun σ' => IF MR σ σ' ∧ True)) (L := [(0, av 29 0 0), (1, iv 8)]) (nL := 3) rfl rfl rfl ⟨IF.rf hI, trivial⟩ ?_
  refine T_ld zk_54_0 rfl rfl rfl (pc' := 1) rfl ?_
  refine T_calli (K := fun y1 σ' => (-2147483648 ≤ y1 ∧ y1 ≤ 2147483647) ∧ (fun σ' => IF MR σ σ' ∧ True) σ') (r := []) zk_54_1 rfl rfl rfl rfl rfl rfl (Or.inr ⟨_, _, _, _, rfl, vd_29, rfl⟩) (fun σ' h => (w_49   σ' h.1.1 ).le (Nat.le_of_ble_eq_true rfl) (fun v σ2 ⟨y, h1, h2, h3, h4⟩ => ⟨y, h1, h2, h.1.tr h3 MN_sub, trivial⟩)) (pc' := 4) rfl (fun y1 => ?_)
  refine G_ex (fun hy1 => ?_)
  refine T_op zk_54_4 rfl (X_bi (v := 33) (by decide)) (pc' := 6) rfl ?_
  refine T_icmp_eq zk_54_6 (by omega) (by omega) (pc' := 9) rfl (fun h2 => ?_) (fun h3 => ?_)
  ·
    refine T_ld zk_54_23 rfl rfl rfl (pc' := 24) rfl ?_
    refine T_op zk_54_24 rfl (X_bi (v := 20) (by decide)) (pc' := 26) rfl ?_
    refine T_icmp_lt zk_54_26 (by omega) (by omega) (pc' := 29) rfl (fun h4 => ?_) (fun h5 => ?_)
    ·
      refine T_ld zk_54_31 rfl rfl rfl (pc' := 32) rfl ?_
      refine T_op zk_54_32 rfl (X_bi (v := 40) (by decide)) (pc' := 34) rfl ?_
      refine T_calli (K := fun y6 σ' => (y6 = 0 ∨ y6 = 1) ∧ (fun σ' => IF MR σ σ' ∧ True) σ') (r := []) zk_54_34 rfl rfl rfl rfl rfl rfl (Or.inr ⟨_, _, _, _, rfl, vd_29, rfl⟩) (fun σ' h => (w_50 40 (by omega) σ' h.1.1 ).le (Nat.le_of_ble_eq_true rfl) (fun v σ2 ⟨y, h1, h2, h3, h4⟩ => ⟨y, h1, h2, h.1.tr h3 (fun _ _ _ _ h => h), trivial⟩)) (pc' := 37) rfl (fun y6 => ?_)
      refine G_ex (fun hy6 => ?_)
      refine T_if_eq zk_54_37 (by omega) (pc' := 40) rfl (fun h7 => ?_) (fun h8 => ?_)
      ·
        refine T_ld zk_54_65 rfl rfl rfl (pc' := 66) rfl ?_
        refine T_op (st' := [av 29 0 0, av 29 0 0]) zk_54_66 rfl rfl (pc' := 67) rfl ?_
        refine G_getf (lo := -2147483648) (hi := 2147483647) zk_54_67 rfl vd_29 (fun σ' h => h.1.1) (fun _ h => (by have q := h.1; omega)) (pc' := 70) rfl (fun y9 hy9 hy9' => ?_)
        refine T_op zk_54_70 rfl X_ic (pc' := 71) rfl ?_
        refine G_unk zk_54_71 rfl (pc' := 72) rfl (fun y10 hy10 hy10' => ?_)
        refine T_putf (J' := (fun σ' => IF MR σ σ' ∧ σ' 29 0 0 3 = y10 ∧ True)) zk_54_72 rfl rfl vd_29 (fun σ' h => ⟨h.1.up (by simp only [rgP] <;> omega) (by first | exact pMR rfl | (unfold MR; omega)), up_eq, trivial⟩) (pc' := 75) rfl ?_
        refine T_ld zk_54_75 rfl rfl rfl (pc' := 76) rfl ?_
        refine T_ld zk_54_76 rfl rfl rfl (pc' := 77) rfl ?_
        refine T_op zk_54_77 rfl X_ic (pc' := 78) rfl ?_
        refine T_opc (w := 9) zk_54_78 rfl X_add (by omega) (pc' := 79) rfl ?_
        refine T_calli (K := fun y11 σ' => (y11 = 0 ∨ y11 = 1) ∧ (fun σ' => IF MR σ σ' ∧ True) σ') (r := []) zk_54_79 rfl rfl rfl rfl rfl rfl (Or.inr ⟨_, _, _, _, rfl, vd_29, rfl⟩) (fun σ' h => (w_54_9   σ' h.1.1 ).le (Nat.le_of_ble_eq_true rfl) (fun v σ2 ⟨y, h1, h2, h3, h4⟩ => ⟨y, h1, h2, h.1.tr h3 (fun _ _ _ _ h => h), trivial⟩)) (pc' := 82) rfl (fun y11 => ?_)
        refine G_ex (fun hy11 => ?_)
        refine T_st (L' := [(0, av 29 0 0), (1, iv 8), (2, iv y11)]) zk_54_82 (nL := 3) rfl rfl rfl rfl rfl (pc' := 83) rfl ?_
        refine T_ld zk_54_83 rfl rfl rfl (pc' := 84) rfl ?_
        refine T_getR (t' := 30) (i' := 0) (k' := 0) zk_54_84 rfl rfl rfl vd_29 (pc' := 87) rfl ?_
        refine T_op zk_54_87 rfl X_ic (pc' := 88) rfl ?_
        refine T_callv (J' := (fun σ' => IF MR σ σ' ∧ True)) (r := []) zk_54_88 rfl rfl rfl rfl rfl rfl (Or.inr ⟨_, _, _, _, rfl, vd_30, rfl⟩) (fun σ' h => (w_42 ((-1)) (by omega) σ' h.1.1 ).le (Nat.le_of_ble_eq_true rfl) (fun v σ2 ⟨h1, h3, h4⟩ => ⟨h1, h.1.tr h3 (fun _ _ _ _ h => h), trivial⟩)) (pc' := 91) rfl ?_
        refine T_ld zk_54_91 rfl rfl rfl (pc' := 92) rfl ?_
        exact T_zret zk_54_92 rfl (by omega) (fun σ' h => ⟨_, rfl, (by omega), h.1, trivial⟩)
      ·
        refine T_ld zk_54_40 rfl rfl rfl (pc' := 41) rfl ?_
        refine T_ld zk_54_41 rfl rfl rfl (pc' := 42) rfl ?_
        refine T_op zk_54_42 rfl X_ic (pc' := 43) rfl ?_
        refine T_opc (w := 9) zk_54_43 rfl X_add (by omega) (pc' := 44) rfl ?_
        refine T_calli (K := fun y13 σ' => (y13 = 0 ∨ y13 = 1) ∧ (fun σ' => IF MR σ σ' ∧ True) σ') (r := []) zk_54_44 rfl rfl rfl rfl rfl rfl (Or.inr ⟨_, _, _, _, rfl, vd_29, rfl⟩) (fun σ' h => (w_52_9   σ' h.1.1 ).le (Nat.le_of_ble_eq_true rfl) (fun v σ2 ⟨y, h1, h2, h3, h4⟩ => ⟨y, h1, h2, h.1.tr h3 (fun _ _ _ _ h => h), trivial⟩)) (pc' := 47) rfl (fun y13 => ?_)
        refine G_ex (fun hy13 => ?_)
        refine T_if_eq zk_54_47 (by omega) (pc' := 50) rfl (fun h14 => ?_) (fun h15 => ?_)
        ·
          refine T_op zk_54_63 rfl X_ic (pc' := 64) rfl ?_
          exact T_zret zk_54_64 rfl (by omega) (fun σ' h => ⟨_, rfl, (by omega), h.1, trivial⟩)
        ·
          refine T_ld zk_54_50 rfl rfl rfl (pc' := 51) rfl ?_
          refine T_op zk_54_51 rfl (X_bi (v := 41) (by decide)) (pc' := 53) rfl ?_
          refine T_calli (K := fun y16 σ' => (y16 = 0 ∨ y16 = 1) ∧ (fun σ' => IF MR σ σ' ∧ True) σ') (r := []) zk_54_53 rfl rfl rfl rfl rfl rfl (Or.inr ⟨_, _, _, _, rfl, vd_29, rfl⟩) (fun σ' h => (w_50 41 (by omega) σ' h.1.1 ).le (Nat.le_of_ble_eq_true rfl) (fun v σ2 ⟨y, h1, h2, h3, h4⟩ => ⟨y, h1, h2, h.1.tr h3 (fun _ _ _ _ h => h), trivial⟩)) (pc' := 56) rfl (fun y16 => ?_)
          refine G_ex (fun hy16 => ?_)
          refine T_if_eq zk_54_56 (by omega) (pc' := 59) rfl (fun h17 => ?_) (fun h18 => ?_)
          ·
            refine T_op zk_54_63 rfl X_ic (pc' := 64) rfl ?_
            exact T_zret zk_54_64 rfl (by omega) (fun σ' h => ⟨_, rfl, (by omega), h.1, trivial⟩)
          ·
            refine T_op zk_54_59 rfl X_ic (pc' := 60) rfl ?_
            refine T_goto zk_54_60 ?_
            exact T_zret zk_54_64 rfl (by omega) (fun σ' h => ⟨_, rfl, (by omega), h.1, trivial⟩)
    · exfalso; omega
  ·
    refine T_ld zk_54_9 rfl rfl rfl (pc' := 10) rfl ?_
    refine T_calli (K := fun y19 σ' => (-2147483648 ≤ y19 ∧ y19 ≤ 2147483647) ∧ (fun σ' => IF MR σ σ' ∧ True) σ') (r := []) zk_54_10 rfl rfl rfl rfl rfl rfl (Or.inr ⟨_, _, _, _, rfl, vd_29, rfl⟩) (fun σ' h => (w_49   σ' h.1.1 ).le (Nat.le_of_ble_eq_true rfl) (fun v σ2 ⟨y, h1, h2, h3, h4⟩ => ⟨y, h1, h2, h.1.tr h3 MN_sub, trivial⟩)) (pc' := 13) rfl (fun y19 => ?_)
    refine G_ex (fun hy19 => ?_)
    refine T_op zk_54_13 rfl (X_bi (v := 40) (by decide)) (pc' := 15) rfl ?_
    refine T_icmp_eq zk_54_15 (by omega) (by omega) (pc' := 18) rfl (fun h20 => ?_) (fun h21 => ?_)
    ·
      refine T_ld zk_54_23 rfl rfl rfl (pc' := 24) rfl ?_
      refine T_op zk_54_24 rfl (X_bi (v := 20) (by decide)) (pc' := 26) rfl ?_
      refine T_icmp_lt zk_54_26 (by omega) (by omega) (pc' := 29) rfl (fun h22 => ?_) (fun h23 => ?_)
      ·
        refine T_ld zk_54_31 rfl rfl rfl (pc' := 32) rfl ?_
        refine T_op zk_54_32 rfl (X_bi (v := 40) (by decide)) (pc' := 34) rfl ?_
        refine T_calli (K := fun y24 σ' => (y24 = 0 ∨ y24 = 1) ∧ (fun σ' => IF MR σ σ' ∧ True) σ') (r := []) zk_54_34 rfl rfl rfl rfl rfl rfl (Or.inr ⟨_, _, _, _, rfl, vd_29, rfl⟩) (fun σ' h => (w_50 40 (by omega) σ' h.1.1 ).le (Nat.le_of_ble_eq_true rfl) (fun v σ2 ⟨y, h1, h2, h3, h4⟩ => ⟨y, h1, h2, h.1.tr h3 (fun _ _ _ _ h => h), trivial⟩)) (pc' := 37) rfl (fun y24 => ?_)
        refine G_ex (fun hy24 => ?_)
        refine T_if_eq zk_54_37 (by omega) (pc' := 40) rfl (fun h25 => ?_) (fun h26 => ?_)
        ·
          refine T_ld zk_54_65 rfl rfl rfl (pc' := 66) rfl ?_
          refine T_op (st' := [av 29 0 0, av 29 0 0]) zk_54_66 rfl rfl (pc' := 67) rfl ?_
          refine G_getf (lo := -2147483648) (hi := 2147483647) zk_54_67 rfl vd_29 (fun σ' h => h.1.1) (fun _ h => (by have q := h.1; omega)) (pc' := 70) rfl (fun y27 hy27 hy27' => ?_)
          refine T_op zk_54_70 rfl X_ic (pc' := 71) rfl ?_
          refine G_unk zk_54_71 rfl (pc' := 72) rfl (fun y28 hy28 hy28' => ?_)
          refine T_putf (J' := (fun σ' => IF MR σ σ' ∧ σ' 29 0 0 3 = y28 ∧ True)) zk_54_72 rfl rfl vd_29 (fun σ' h => ⟨h.1.up (by simp only [rgP] <;> omega) (by first | exact pMR rfl | (unfold MR; omega)), up_eq, trivial⟩) (pc' := 75) rfl ?_
          refine T_ld zk_54_75 rfl rfl rfl (pc' := 76) rfl ?_
          refine T_ld zk_54_76 rfl rfl rfl (pc' := 77) rfl ?_
          refine T_op zk_54_77 rfl X_ic (pc' := 78) rfl ?_
          refine T_opc (w := 9) zk_54_78 rfl X_add (by omega) (pc' := 79) rfl ?_
          refine T_calli (K := fun y29 σ' => (y29 = 0 ∨ y29 = 1) ∧ (fun σ' => IF MR σ σ' ∧ True) σ') (r := []) zk_54_79 rfl rfl rfl rfl rfl rfl (Or.inr ⟨_, _, _, _, rfl, vd_29, rfl⟩) (fun σ' h => (w_54_9   σ' h.1.1 ).le (Nat.le_of_ble_eq_true rfl) (fun v σ2 ⟨y, h1, h2, h3, h4⟩ => ⟨y, h1, h2, h.1.tr h3 (fun _ _ _ _ h => h), trivial⟩)) (pc' := 82) rfl (fun y29 => ?_)
          refine G_ex (fun hy29 => ?_)
          refine T_st (L' := [(0, av 29 0 0), (1, iv 8), (2, iv y29)]) zk_54_82 (nL := 3) rfl rfl rfl rfl rfl (pc' := 83) rfl ?_
          refine T_ld zk_54_83 rfl rfl rfl (pc' := 84) rfl ?_
          refine T_getR (t' := 30) (i' := 0) (k' := 0) zk_54_84 rfl rfl rfl vd_29 (pc' := 87) rfl ?_
          refine T_op zk_54_87 rfl X_ic (pc' := 88) rfl ?_
          refine T_callv (J' := (fun σ' => IF MR σ σ' ∧ True)) (r := []) zk_54_88 rfl rfl rfl rfl rfl rfl (Or.inr ⟨_, _, _, _, rfl, vd_30, rfl⟩) (fun σ' h => (w_42 ((-1)) (by omega) σ' h.1.1 ).le (Nat.le_of_ble_eq_true rfl) (fun v σ2 ⟨h1, h3, h4⟩ => ⟨h1, h.1.tr h3 (fun _ _ _ _ h => h), trivial⟩)) (pc' := 91) rfl ?_
          refine T_ld zk_54_91 rfl rfl rfl (pc' := 92) rfl ?_
          exact T_zret zk_54_92 rfl (by omega) (fun σ' h => ⟨_, rfl, (by omega), h.1, trivial⟩)
        ·
          refine T_ld zk_54_40 rfl rfl rfl (pc' := 41) rfl ?_
          refine T_ld zk_54_41 rfl rfl rfl (pc' := 42) rfl ?_
          refine T_op zk_54_42 rfl X_ic (pc' := 43) rfl ?_
          refine T_opc (w := 9) zk_54_43 rfl X_add (by omega) (pc' := 44) rfl ?_
          refine T_calli (K := fun y31 σ' => (y31 = 0 ∨ y31 = 1) ∧ (fun σ' => IF MR σ σ' ∧ True) σ') (r := []) zk_54_44 rfl rfl rfl rfl rfl rfl (Or.inr ⟨_, _, _, _, rfl, vd_29, rfl⟩) (fun σ' h => (w_52_9   σ' h.1.1 ).le (Nat.le_of_ble_eq_true rfl) (fun v σ2 ⟨y, h1, h2, h3, h4⟩ => ⟨y, h1, h2, h.1.tr h3 (fun _ _ _ _ h => h), trivial⟩)) (pc' := 47) rfl (fun y31 => ?_)
          refine G_ex (fun hy31 => ?_)
          refine T_if_eq zk_54_47 (by omega) (pc' := 50) rfl (fun h32 => ?_) (fun h33 => ?_)
          ·
            refine T_op zk_54_63 rfl X_ic (pc' := 64) rfl ?_
            exact T_zret zk_54_64 rfl (by omega) (fun σ' h => ⟨_, rfl, (by omega), h.1, trivial⟩)
          ·
            refine T_ld zk_54_50 rfl rfl rfl (pc' := 51) rfl ?_
            refine T_op zk_54_51 rfl (X_bi (v := 41) (by decide)) (pc' := 53) rfl ?_
            refine T_calli (K := fun y34 σ' => (y34 = 0 ∨ y34 = 1) ∧ (fun σ' => IF MR σ σ' ∧ True) σ') (r := []) zk_54_53 rfl rfl rfl rfl rfl rfl (Or.inr ⟨_, _, _, _, rfl, vd_29, rfl⟩) (fun σ' h => (w_50 41 (by omega) σ' h.1.1 ).le (Nat.le_of_ble_eq_true rfl) (fun v σ2 ⟨y, h1, h2, h3, h4⟩ => ⟨y, h1, h2, h.1.tr h3 (fun _ _ _ _ h => h), trivial⟩)) (pc' := 56) rfl (fun y34 => ?_)
            refine G_ex (fun hy34 => ?_)
            refine T_if_eq zk_54_56 (by omega) (pc' := 59) rfl (fun h35 => ?_) (fun h36 => ?_)
            ·
              refine T_op zk_54_63 rfl X_ic (pc' := 64) rfl ?_
              exact T_zret zk_54_64 rfl (by omega) (fun σ' h => ⟨_, rfl, (by omega), h.1, trivial⟩)
            ·
              refine T_op zk_54_59 rfl X_ic (pc' := 60) rfl ?_
              refine T_goto zk_54_60 ?_
              exact T_zret zk_54_64 rfl (by omega) (fun σ' h => ⟨_, rfl, (by omega), h.1, trivial⟩)
      · exfalso; omega
    ·
      refine T_ld zk_54_18 rfl rfl rfl (pc' := 19) rfl ?_
      refine T_calli (K := fun y37 σ' => (y37 = 0 ∨ y37 = 1) ∧ (fun σ' => IF MR σ σ' ∧ True) σ') (r := []) zk_54_19 rfl rfl rfl rfl rfl rfl (Or.inr ⟨_, _, _, _, rfl, vd_29, rfl⟩) (fun σ' h => (w_55   σ' h.1.1 ).le (Nat.le_of_ble_eq_true rfl) (fun v σ2 ⟨y, h1, h2, h3, h4⟩ => ⟨y, h1, h2, h.1.tr h3 (fun _ _ _ _ h => h), trivial⟩)) (pc' := 22) rfl (fun y37 => ?_)
      refine G_ex (fun hy37 => ?_)
      exact T_zret zk_54_22 rfl (by omega) (fun σ' h => ⟨_, rfl, (by omega), h.1, trivial⟩)
/-- W$LawReader.readBoth -/
theorem w_53_8 {xs : Nat × (Nat → Int32)}   (σ : ZS) (hI : Inv σ)   : CT xs 41 53 [av 29 0 0, iv 8] σ (fun v σ' => ∃ y, v = some (iv y) ∧ (y = 0 ∨ y = 1) ∧ IF MR σ σ' ∧ (True)) := by
  refine G_ct (J := (fun σ' => IF MR σ σ' ∧ True)) (L := [(0, av 29 0 0), (1, iv 8)]) (nL := 4) rfl rfl rfl ⟨IF.rf hI, trivial⟩ ?_
  refine T_ld zk_53_0 rfl rfl rfl (pc' := 1) rfl ?_
  refine T_ld zk_53_1 rfl rfl rfl (pc' := 2) rfl ?_
  refine T_calli (K := fun y1 σ' => (y1 = 0 ∨ y1 = 1) ∧ (fun σ' => IF MR σ σ' ∧ True) σ') (r := []) zk_53_2 rfl rfl rfl rfl rfl rfl (Or.inr ⟨_, _, _, _, rfl, vd_29, rfl⟩) (fun σ' h => (w_54_8   σ' h.1.1 ).le (Nat.le_of_ble_eq_true rfl) (fun v σ2 ⟨y, h1, h2, h3, h4⟩ => ⟨y, h1, h2, h.1.tr h3 (fun _ _ _ _ h => h), trivial⟩)) (pc' := 5) rfl (fun y1 => ?_)
  refine G_ex (fun hy1 => ?_)
  refine T_st (L' := [(0, av 29 0 0), (1, iv 8), (2, iv y1)]) zk_53_5 (nL := 4) rfl rfl rfl rfl rfl (pc' := 6) rfl ?_
  refine T_op zk_53_6 rfl X_ic (pc' := 7) rfl ?_
  refine T_st (L' := [(0, av 29 0 0), (1, iv 8), (2, iv y1), (3, iv 0)]) zk_53_7 (nL := 4) rfl rfl rfl rfl rfl (pc' := 8) rfl ?_
  refine T_loop2 (fun x2 x3 => ((96 - x3 : Int)).toNat) (fun x2 x3 => (0 ≤ x2 ∧ x2 ≤ 1) ∧ (0 ≤ x3 ∧ x3 ≤ 96)) (fun x2 x3 => TJ xs (fun σ' => IF MR σ σ' ∧ True) 40 53 8 [(0, av 29 0 0), (1, iv 8), (2, iv x2), (3, iv x3)] [] _) ?_ y1 0 (by omega)
  intro x2 x3 hp5 ih4
  refine T_ld zk_53_8 rfl rfl rfl (pc' := 9) rfl ?_
  refine T_op zk_53_9 rfl (X_bi (v := 96) (by decide)) (pc' := 11) rfl ?_
  refine T_icmp_ge zk_53_11 (by omega) (by omega) (pc' := 14) rfl (fun h6 => ?_) (fun h7 => ?_)
  ·
    refine T_ld zk_53_48 rfl rfl rfl (pc' := 49) rfl ?_
    exact T_zret zk_53_49 rfl (by omega) (fun σ' h => ⟨_, rfl, (by omega), h.1, trivial⟩)
  ·
    refine T_ld zk_53_14 rfl rfl rfl (pc' := 15) rfl ?_
    refine T_if_eq zk_53_15 (by omega) (pc' := 18) rfl (fun h8 => ?_) (fun h9 => ?_)
    ·
      refine T_ld zk_53_48 rfl rfl rfl (pc' := 49) rfl ?_
      exact T_zret zk_53_49 rfl (by omega) (fun σ' h => ⟨_, rfl, (by omega), h.1, trivial⟩)
    ·
      refine T_ld zk_53_18 rfl rfl rfl (pc' := 19) rfl ?_
      refine T_op zk_53_19 rfl (X_bi (v := 38) (by decide)) (pc' := 21) rfl ?_
      refine T_calli (K := fun y10 σ' => (y10 = 0 ∨ y10 = 1) ∧ (fun σ' => IF MR σ σ' ∧ True) σ') (r := []) zk_53_21 rfl rfl rfl rfl rfl rfl (Or.inr ⟨_, _, _, _, rfl, vd_29, rfl⟩) (fun σ' h => (w_50 38 (by omega) σ' h.1.1 ).le (Nat.le_of_ble_eq_true rfl) (fun v σ2 ⟨y, h1, h2, h3, h4⟩ => ⟨y, h1, h2, h.1.tr h3 (fun _ _ _ _ h => h), trivial⟩)) (pc' := 24) rfl (fun y10 => ?_)
      refine G_ex (fun hy10 => ?_)
      refine T_if_eq zk_53_24 (by omega) (pc' := 27) rfl (fun h11 => ?_) (fun h12 => ?_)
      ·
        refine T_ld zk_53_48 rfl rfl rfl (pc' := 49) rfl ?_
        exact T_zret zk_53_49 rfl (by omega) (fun σ' h => ⟨_, rfl, (by omega), h.1, trivial⟩)
      ·
        refine T_ld zk_53_27 rfl rfl rfl (pc' := 28) rfl ?_
        refine T_ld zk_53_28 rfl rfl rfl (pc' := 29) rfl ?_
        refine T_calli (K := fun y13 σ' => (y13 = 0 ∨ y13 = 1) ∧ (fun σ' => IF MR σ σ' ∧ True) σ') (r := []) zk_53_29 rfl rfl rfl rfl rfl rfl (Or.inr ⟨_, _, _, _, rfl, vd_29, rfl⟩) (fun σ' h => (w_54_8   σ' h.1.1 ).le (Nat.le_of_ble_eq_true rfl) (fun v σ2 ⟨y, h1, h2, h3, h4⟩ => ⟨y, h1, h2, h.1.tr h3 (fun _ _ _ _ h => h), trivial⟩)) (pc' := 32) rfl (fun y13 => ?_)
        refine G_ex (fun hy13 => ?_)
        refine T_st (L' := [(0, av 29 0 0), (1, iv 8), (2, iv y13), (3, iv x3)]) zk_53_32 (nL := 4) rfl rfl rfl rfl rfl (pc' := 33) rfl ?_
        refine T_ld zk_53_33 rfl rfl rfl (pc' := 34) rfl ?_
        refine T_getR (t' := 30) (i' := 0) (k' := 0) zk_53_34 rfl rfl rfl vd_29 (pc' := 37) rfl ?_
        refine T_op zk_53_37 rfl (X_bi (v := -2) (by decide)) (pc' := 39) rfl ?_
        refine T_callv (J' := (fun σ' => IF MR σ σ' ∧ True)) (r := []) zk_53_39 rfl rfl rfl rfl rfl rfl (Or.inr ⟨_, _, _, _, rfl, vd_30, rfl⟩) (fun σ' h => (w_42 ((-2)) (by omega) σ' h.1.1 ).le (Nat.le_of_ble_eq_true rfl) (fun v σ2 ⟨h1, h3, h4⟩ => ⟨h1, h.1.tr h3 (fun _ _ _ _ h => h), trivial⟩)) (pc' := 42) rfl ?_
        refine T_iinc (L' := [(0, av 29 0 0), (1, iv 8), (2, iv y13), (3, iv (x3 + 1))]) zk_53_42 (nL := 4) rfl rfl rfl rfl (pc' := 45) rfl ?_
        refine T_goto zk_53_45 ?_
        exact ih4 y13 (x3 + 1) (by omega) (by omega)
/-- W$LawReader.readEither -/
theorem w_52_8 {xs : Nat × (Nat → Int32)}   (σ : ZS) (hI : Inv σ)   : CT xs 42 52 [av 29 0 0, iv 8] σ (fun v σ' => ∃ y, v = some (iv y) ∧ (y = 0 ∨ y = 1) ∧ IF MR σ σ' ∧ (True)) := by
  refine G_ct (J := (fun σ' => IF MR σ σ' ∧ True)) (L := [(0, av 29 0 0), (1, iv 8)]) (nL := 4) rfl rfl rfl ⟨IF.rf hI, trivial⟩ ?_
  refine T_ld zk_52_0 rfl rfl rfl (pc' := 1) rfl ?_
  refine T_ld zk_52_1 rfl rfl rfl (pc' := 2) rfl ?_
  refine T_calli (K := fun y1 σ' => (y1 = 0 ∨ y1 = 1) ∧ (fun σ' => IF MR σ σ' ∧ True) σ') (r := []) zk_52_2 rfl rfl rfl rfl rfl rfl (Or.inr ⟨_, _, _, _, rfl, vd_29, rfl⟩) (fun σ' h => (w_53_8   σ' h.1.1 ).le (Nat.le_of_ble_eq_true rfl) (fun v σ2 ⟨y, h1, h2, h3, h4⟩ => ⟨y, h1, h2, h.1.tr h3 (fun _ _ _ _ h => h), trivial⟩)) (pc' := 5) rfl (fun y1 => ?_)
  refine G_ex (fun hy1 => ?_)
  refine T_st (L' := [(0, av 29 0 0), (1, iv 8), (2, iv y1)]) zk_52_5 (nL := 4) rfl rfl rfl rfl rfl (pc' := 6) rfl ?_
  refine T_op zk_52_6 rfl X_ic (pc' := 7) rfl ?_
  refine T_st (L' := [(0, av 29 0 0), (1, iv 8), (2, iv y1), (3, iv 0)]) zk_52_7 (nL := 4) rfl rfl rfl rfl rfl (pc' := 8) rfl ?_
  refine T_loop2 (fun x2 x3 => ((96 - x3 : Int)).toNat) (fun x2 x3 => (0 ≤ x2 ∧ x2 ≤ 1) ∧ (0 ≤ x3 ∧ x3 ≤ 96)) (fun x2 x3 => TJ xs (fun σ' => IF MR σ σ' ∧ True) 41 52 8 [(0, av 29 0 0), (1, iv 8), (2, iv x2), (3, iv x3)] [] _) ?_ y1 0 (by omega)
  intro x2 x3 hp5 ih4
  refine T_ld zk_52_8 rfl rfl rfl (pc' := 9) rfl ?_
  refine T_op zk_52_9 rfl (X_bi (v := 96) (by decide)) (pc' := 11) rfl ?_
  refine T_icmp_ge zk_52_11 (by omega) (by omega) (pc' := 14) rfl (fun h6 => ?_) (fun h7 => ?_)
  ·
    refine T_ld zk_52_48 rfl rfl rfl (pc' := 49) rfl ?_
    exact T_zret zk_52_49 rfl (by omega) (fun σ' h => ⟨_, rfl, (by omega), h.1, trivial⟩)
  ·
    refine T_ld zk_52_14 rfl rfl rfl (pc' := 15) rfl ?_
    refine T_if_eq zk_52_15 (by omega) (pc' := 18) rfl (fun h8 => ?_) (fun h9 => ?_)
    ·
      refine T_ld zk_52_48 rfl rfl rfl (pc' := 49) rfl ?_
      exact T_zret zk_52_49 rfl (by omega) (fun σ' h => ⟨_, rfl, (by omega), h.1, trivial⟩)
    ·
      refine T_ld zk_52_18 rfl rfl rfl (pc' := 19) rfl ?_
      refine T_op zk_52_19 rfl (X_bi (v := 124) (by decide)) (pc' := 21) rfl ?_
      refine T_calli (K := fun y10 σ' => (y10 = 0 ∨ y10 = 1) ∧ (fun σ' => IF MR σ σ' ∧ True) σ') (r := []) zk_52_21 rfl rfl rfl rfl rfl rfl (Or.inr ⟨_, _, _, _, rfl, vd_29, rfl⟩) (fun σ' h => (w_50 124 (by omega) σ' h.1.1 ).le (Nat.le_of_ble_eq_true rfl) (fun v σ2 ⟨y, h1, h2, h3, h4⟩ => ⟨y, h1, h2, h.1.tr h3 (fun _ _ _ _ h => h), trivial⟩)) (pc' := 24) rfl (fun y10 => ?_)
      refine G_ex (fun hy10 => ?_)
      refine T_if_eq zk_52_24 (by omega) (pc' := 27) rfl (fun h11 => ?_) (fun h12 => ?_)
      ·
        refine T_ld zk_52_48 rfl rfl rfl (pc' := 49) rfl ?_
        exact T_zret zk_52_49 rfl (by omega) (fun σ' h => ⟨_, rfl, (by omega), h.1, trivial⟩)
      ·
        refine T_ld zk_52_27 rfl rfl rfl (pc' := 28) rfl ?_
        refine T_ld zk_52_28 rfl rfl rfl (pc' := 29) rfl ?_
        refine T_calli (K := fun y13 σ' => (y13 = 0 ∨ y13 = 1) ∧ (fun σ' => IF MR σ σ' ∧ True) σ') (r := []) zk_52_29 rfl rfl rfl rfl rfl rfl (Or.inr ⟨_, _, _, _, rfl, vd_29, rfl⟩) (fun σ' h => (w_53_8   σ' h.1.1 ).le (Nat.le_of_ble_eq_true rfl) (fun v σ2 ⟨y, h1, h2, h3, h4⟩ => ⟨y, h1, h2, h.1.tr h3 (fun _ _ _ _ h => h), trivial⟩)) (pc' := 32) rfl (fun y13 => ?_)
        refine G_ex (fun hy13 => ?_)
        refine T_st (L' := [(0, av 29 0 0), (1, iv 8), (2, iv y13), (3, iv x3)]) zk_52_32 (nL := 4) rfl rfl rfl rfl rfl (pc' := 33) rfl ?_
        refine T_ld zk_52_33 rfl rfl rfl (pc' := 34) rfl ?_
        refine T_getR (t' := 30) (i' := 0) (k' := 0) zk_52_34 rfl rfl rfl vd_29 (pc' := 37) rfl ?_
        refine T_op zk_52_37 rfl (X_bi (v := -3) (by decide)) (pc' := 39) rfl ?_
        refine T_callv (J' := (fun σ' => IF MR σ σ' ∧ True)) (r := []) zk_52_39 rfl rfl rfl rfl rfl rfl (Or.inr ⟨_, _, _, _, rfl, vd_30, rfl⟩) (fun σ' h => (w_42 ((-3)) (by omega) σ' h.1.1 ).le (Nat.le_of_ble_eq_true rfl) (fun v σ2 ⟨h1, h3, h4⟩ => ⟨h1, h.1.tr h3 (fun _ _ _ _ h => h), trivial⟩)) (pc' := 42) rfl ?_
        refine T_iinc (L' := [(0, av 29 0 0), (1, iv 8), (2, iv y13), (3, iv (x3 + 1))]) zk_52_42 (nL := 4) rfl rfl rfl rfl (pc' := 45) rfl ?_
        refine T_goto zk_52_45 ?_
        exact ih4 y13 (x3 + 1) (by omega) (by omega)
/-- W$LawReader.readPart -/
theorem w_54_7 {xs : Nat × (Nat → Int32)}   (σ : ZS) (hI : Inv σ)   : CT xs 43 54 [av 29 0 0, iv 7] σ (fun v σ' => ∃ y, v = some (iv y) ∧ (y = 0 ∨ y = 1) ∧ IF MR σ σ' ∧ (True)) := by
  refine G_ct (J := (fun σ' => IF MR σ σ' ∧ True)) (L := [(0, av 29 0 0), (1, iv 7)]) (nL := 3) rfl rfl rfl ⟨IF.rf hI, trivial⟩ ?_
  refine T_ld zk_54_0 rfl rfl rfl (pc' := 1) rfl ?_
  refine T_calli (K := fun y1 σ' => (-2147483648 ≤ y1 ∧ y1 ≤ 2147483647) ∧ (fun σ' => IF MR σ σ' ∧ True) σ') (r := []) zk_54_1 rfl rfl rfl rfl rfl rfl (Or.inr ⟨_, _, _, _, rfl, vd_29, rfl⟩) (fun σ' h => (w_49   σ' h.1.1 ).le (Nat.le_of_ble_eq_true rfl) (fun v σ2 ⟨y, h1, h2, h3, h4⟩ => ⟨y, h1, h2, h.1.tr h3 MN_sub, trivial⟩)) (pc' := 4) rfl (fun y1 => ?_)
  refine G_ex (fun hy1 => ?_)
  refine T_op zk_54_4 rfl (X_bi (v := 33) (by decide)) (pc' := 6) rfl ?_
  refine T_icmp_eq zk_54_6 (by omega) (by omega) (pc' := 9) rfl (fun h2 => ?_) (fun h3 => ?_)
  ·
    refine T_ld zk_54_23 rfl rfl rfl (pc' := 24) rfl ?_
    refine T_op zk_54_24 rfl (X_bi (v := 20) (by decide)) (pc' := 26) rfl ?_
    refine T_icmp_lt zk_54_26 (by omega) (by omega) (pc' := 29) rfl (fun h4 => ?_) (fun h5 => ?_)
    ·
      refine T_ld zk_54_31 rfl rfl rfl (pc' := 32) rfl ?_
      refine T_op zk_54_32 rfl (X_bi (v := 40) (by decide)) (pc' := 34) rfl ?_
      refine T_calli (K := fun y6 σ' => (y6 = 0 ∨ y6 = 1) ∧ (fun σ' => IF MR σ σ' ∧ True) σ') (r := []) zk_54_34 rfl rfl rfl rfl rfl rfl (Or.inr ⟨_, _, _, _, rfl, vd_29, rfl⟩) (fun σ' h => (w_50 40 (by omega) σ' h.1.1 ).le (Nat.le_of_ble_eq_true rfl) (fun v σ2 ⟨y, h1, h2, h3, h4⟩ => ⟨y, h1, h2, h.1.tr h3 (fun _ _ _ _ h => h), trivial⟩)) (pc' := 37) rfl (fun y6 => ?_)
      refine G_ex (fun hy6 => ?_)
      refine T_if_eq zk_54_37 (by omega) (pc' := 40) rfl (fun h7 => ?_) (fun h8 => ?_)
      ·
        refine T_ld zk_54_65 rfl rfl rfl (pc' := 66) rfl ?_
        refine T_op (st' := [av 29 0 0, av 29 0 0]) zk_54_66 rfl rfl (pc' := 67) rfl ?_
        refine G_getf (lo := -2147483648) (hi := 2147483647) zk_54_67 rfl vd_29 (fun σ' h => h.1.1) (fun _ h => (by have q := h.1; omega)) (pc' := 70) rfl (fun y9 hy9 hy9' => ?_)
        refine T_op zk_54_70 rfl X_ic (pc' := 71) rfl ?_
        refine G_unk zk_54_71 rfl (pc' := 72) rfl (fun y10 hy10 hy10' => ?_)
        refine T_putf (J' := (fun σ' => IF MR σ σ' ∧ σ' 29 0 0 3 = y10 ∧ True)) zk_54_72 rfl rfl vd_29 (fun σ' h => ⟨h.1.up (by simp only [rgP] <;> omega) (by first | exact pMR rfl | (unfold MR; omega)), up_eq, trivial⟩) (pc' := 75) rfl ?_
        refine T_ld zk_54_75 rfl rfl rfl (pc' := 76) rfl ?_
        refine T_ld zk_54_76 rfl rfl rfl (pc' := 77) rfl ?_
        refine T_op zk_54_77 rfl X_ic (pc' := 78) rfl ?_
        refine T_opc (w := 8) zk_54_78 rfl X_add (by omega) (pc' := 79) rfl ?_
        refine T_calli (K := fun y11 σ' => (y11 = 0 ∨ y11 = 1) ∧ (fun σ' => IF MR σ σ' ∧ True) σ') (r := []) zk_54_79 rfl rfl rfl rfl rfl rfl (Or.inr ⟨_, _, _, _, rfl, vd_29, rfl⟩) (fun σ' h => (w_54_8   σ' h.1.1 ).le (Nat.le_of_ble_eq_true rfl) (fun v σ2 ⟨y, h1, h2, h3, h4⟩ => ⟨y, h1, h2, h.1.tr h3 (fun _ _ _ _ h => h), trivial⟩)) (pc' := 82) rfl (fun y11 => ?_)
        refine G_ex (fun hy11 => ?_)
        refine T_st (L' := [(0, av 29 0 0), (1, iv 7), (2, iv y11)]) zk_54_82 (nL := 3) rfl rfl rfl rfl rfl (pc' := 83) rfl ?_
        refine T_ld zk_54_83 rfl rfl rfl (pc' := 84) rfl ?_
        refine T_getR (t' := 30) (i' := 0) (k' := 0) zk_54_84 rfl rfl rfl vd_29 (pc' := 87) rfl ?_
        refine T_op zk_54_87 rfl X_ic (pc' := 88) rfl ?_
        refine T_callv (J' := (fun σ' => IF MR σ σ' ∧ True)) (r := []) zk_54_88 rfl rfl rfl rfl rfl rfl (Or.inr ⟨_, _, _, _, rfl, vd_30, rfl⟩) (fun σ' h => (w_42 ((-1)) (by omega) σ' h.1.1 ).le (Nat.le_of_ble_eq_true rfl) (fun v σ2 ⟨h1, h3, h4⟩ => ⟨h1, h.1.tr h3 (fun _ _ _ _ h => h), trivial⟩)) (pc' := 91) rfl ?_
        refine T_ld zk_54_91 rfl rfl rfl (pc' := 92) rfl ?_
        exact T_zret zk_54_92 rfl (by omega) (fun σ' h => ⟨_, rfl, (by omega), h.1, trivial⟩)
      ·
        refine T_ld zk_54_40 rfl rfl rfl (pc' := 41) rfl ?_
        refine T_ld zk_54_41 rfl rfl rfl (pc' := 42) rfl ?_
        refine T_op zk_54_42 rfl X_ic (pc' := 43) rfl ?_
        refine T_opc (w := 8) zk_54_43 rfl X_add (by omega) (pc' := 44) rfl ?_
        refine T_calli (K := fun y13 σ' => (y13 = 0 ∨ y13 = 1) ∧ (fun σ' => IF MR σ σ' ∧ True) σ') (r := []) zk_54_44 rfl rfl rfl rfl rfl rfl (Or.inr ⟨_, _, _, _, rfl, vd_29, rfl⟩) (fun σ' h => (w_52_8   σ' h.1.1 ).le (Nat.le_of_ble_eq_true rfl) (fun v σ2 ⟨y, h1, h2, h3, h4⟩ => ⟨y, h1, h2, h.1.tr h3 (fun _ _ _ _ h => h), trivial⟩)) (pc' := 47) rfl (fun y13 => ?_)
        refine G_ex (fun hy13 => ?_)
        refine T_if_eq zk_54_47 (by omega) (pc' := 50) rfl (fun h14 => ?_) (fun h15 => ?_)
        ·
          refine T_op zk_54_63 rfl X_ic (pc' := 64) rfl ?_
          exact T_zret zk_54_64 rfl (by omega) (fun σ' h => ⟨_, rfl, (by omega), h.1, trivial⟩)
        ·
          refine T_ld zk_54_50 rfl rfl rfl (pc' := 51) rfl ?_
          refine T_op zk_54_51 rfl (X_bi (v := 41) (by decide)) (pc' := 53) rfl ?_
          refine T_calli (K := fun y16 σ' => (y16 = 0 ∨ y16 = 1) ∧ (fun σ' => IF MR σ σ' ∧ True) σ') (r := []) zk_54_53 rfl rfl rfl rfl rfl rfl (Or.inr ⟨_, _, _, _, rfl, vd_29, rfl⟩) (fun σ' h => (w_50 41 (by omega) σ' h.1.1 ).le (Nat.le_of_ble_eq_true rfl) (fun v σ2 ⟨y, h1, h2, h3, h4⟩ => ⟨y, h1, h2, h.1.tr h3 (fun _ _ _ _ h => h), trivial⟩)) (pc' := 56) rfl (fun y16 => ?_)
          refine G_ex (fun hy16 => ?_)
          refine T_if_eq zk_54_56 (by omega) (pc' := 59) rfl (fun h17 => ?_) (fun h18 => ?_)
          ·
            refine T_op zk_54_63 rfl X_ic (pc' := 64) rfl ?_
            exact T_zret zk_54_64 rfl (by omega) (fun σ' h => ⟨_, rfl, (by omega), h.1, trivial⟩)
          ·
            refine T_op zk_54_59 rfl X_ic (pc' := 60) rfl ?_
            refine T_goto zk_54_60 ?_
            exact T_zret zk_54_64 rfl (by omega) (fun σ' h => ⟨_, rfl, (by omega), h.1, trivial⟩)
    · exfalso; omega
  ·
    refine T_ld zk_54_9 rfl rfl rfl (pc' := 10) rfl ?_
    refine T_calli (K := fun y19 σ' => (-2147483648 ≤ y19 ∧ y19 ≤ 2147483647) ∧ (fun σ' => IF MR σ σ' ∧ True) σ') (r := []) zk_54_10 rfl rfl rfl rfl rfl rfl (Or.inr ⟨_, _, _, _, rfl, vd_29, rfl⟩) (fun σ' h => (w_49   σ' h.1.1 ).le (Nat.le_of_ble_eq_true rfl) (fun v σ2 ⟨y, h1, h2, h3, h4⟩ => ⟨y, h1, h2, h.1.tr h3 MN_sub, trivial⟩)) (pc' := 13) rfl (fun y19 => ?_)
    refine G_ex (fun hy19 => ?_)
    refine T_op zk_54_13 rfl (X_bi (v := 40) (by decide)) (pc' := 15) rfl ?_
    refine T_icmp_eq zk_54_15 (by omega) (by omega) (pc' := 18) rfl (fun h20 => ?_) (fun h21 => ?_)
    ·
      refine T_ld zk_54_23 rfl rfl rfl (pc' := 24) rfl ?_
      refine T_op zk_54_24 rfl (X_bi (v := 20) (by decide)) (pc' := 26) rfl ?_
      refine T_icmp_lt zk_54_26 (by omega) (by omega) (pc' := 29) rfl (fun h22 => ?_) (fun h23 => ?_)
      ·
        refine T_ld zk_54_31 rfl rfl rfl (pc' := 32) rfl ?_
        refine T_op zk_54_32 rfl (X_bi (v := 40) (by decide)) (pc' := 34) rfl ?_
        refine T_calli (K := fun y24 σ' => (y24 = 0 ∨ y24 = 1) ∧ (fun σ' => IF MR σ σ' ∧ True) σ') (r := []) zk_54_34 rfl rfl rfl rfl rfl rfl (Or.inr ⟨_, _, _, _, rfl, vd_29, rfl⟩) (fun σ' h => (w_50 40 (by omega) σ' h.1.1 ).le (Nat.le_of_ble_eq_true rfl) (fun v σ2 ⟨y, h1, h2, h3, h4⟩ => ⟨y, h1, h2, h.1.tr h3 (fun _ _ _ _ h => h), trivial⟩)) (pc' := 37) rfl (fun y24 => ?_)
        refine G_ex (fun hy24 => ?_)
        refine T_if_eq zk_54_37 (by omega) (pc' := 40) rfl (fun h25 => ?_) (fun h26 => ?_)
        ·
          refine T_ld zk_54_65 rfl rfl rfl (pc' := 66) rfl ?_
          refine T_op (st' := [av 29 0 0, av 29 0 0]) zk_54_66 rfl rfl (pc' := 67) rfl ?_
          refine G_getf (lo := -2147483648) (hi := 2147483647) zk_54_67 rfl vd_29 (fun σ' h => h.1.1) (fun _ h => (by have q := h.1; omega)) (pc' := 70) rfl (fun y27 hy27 hy27' => ?_)
          refine T_op zk_54_70 rfl X_ic (pc' := 71) rfl ?_
          refine G_unk zk_54_71 rfl (pc' := 72) rfl (fun y28 hy28 hy28' => ?_)
          refine T_putf (J' := (fun σ' => IF MR σ σ' ∧ σ' 29 0 0 3 = y28 ∧ True)) zk_54_72 rfl rfl vd_29 (fun σ' h => ⟨h.1.up (by simp only [rgP] <;> omega) (by first | exact pMR rfl | (unfold MR; omega)), up_eq, trivial⟩) (pc' := 75) rfl ?_
          refine T_ld zk_54_75 rfl rfl rfl (pc' := 76) rfl ?_
          refine T_ld zk_54_76 rfl rfl rfl (pc' := 77) rfl ?_
          refine T_op zk_54_77 rfl X_ic (pc' := 78) rfl ?_
          refine T_opc (w := 8) zk_54_78 rfl X_add (by omega) (pc' := 79) rfl ?_
          refine T_calli (K := fun y29 σ' => (y29 = 0 ∨ y29 = 1) ∧ (fun σ' => IF MR σ σ' ∧ True) σ') (r := []) zk_54_79 rfl rfl rfl rfl rfl rfl (Or.inr ⟨_, _, _, _, rfl, vd_29, rfl⟩) (fun σ' h => (w_54_8   σ' h.1.1 ).le (Nat.le_of_ble_eq_true rfl) (fun v σ2 ⟨y, h1, h2, h3, h4⟩ => ⟨y, h1, h2, h.1.tr h3 (fun _ _ _ _ h => h), trivial⟩)) (pc' := 82) rfl (fun y29 => ?_)
          refine G_ex (fun hy29 => ?_)
          refine T_st (L' := [(0, av 29 0 0), (1, iv 7), (2, iv y29)]) zk_54_82 (nL := 3) rfl rfl rfl rfl rfl (pc' := 83) rfl ?_
          refine T_ld zk_54_83 rfl rfl rfl (pc' := 84) rfl ?_
          refine T_getR (t' := 30) (i' := 0) (k' := 0) zk_54_84 rfl rfl rfl vd_29 (pc' := 87) rfl ?_
          refine T_op zk_54_87 rfl X_ic (pc' := 88) rfl ?_
          refine T_callv (J' := (fun σ' => IF MR σ σ' ∧ True)) (r := []) zk_54_88 rfl rfl rfl rfl rfl rfl (Or.inr ⟨_, _, _, _, rfl, vd_30, rfl⟩) (fun σ' h => (w_42 ((-1)) (by omega) σ' h.1.1 ).le (Nat.le_of_ble_eq_true rfl) (fun v σ2 ⟨h1, h3, h4⟩ => ⟨h1, h.1.tr h3 (fun _ _ _ _ h => h), trivial⟩)) (pc' := 91) rfl ?_
          refine T_ld zk_54_91 rfl rfl rfl (pc' := 92) rfl ?_
          exact T_zret zk_54_92 rfl (by omega) (fun σ' h => ⟨_, rfl, (by omega), h.1, trivial⟩)
        ·
          refine T_ld zk_54_40 rfl rfl rfl (pc' := 41) rfl ?_
          refine T_ld zk_54_41 rfl rfl rfl (pc' := 42) rfl ?_
          refine T_op zk_54_42 rfl X_ic (pc' := 43) rfl ?_
          refine T_opc (w := 8) zk_54_43 rfl X_add (by omega) (pc' := 44) rfl ?_
          refine T_calli (K := fun y31 σ' => (y31 = 0 ∨ y31 = 1) ∧ (fun σ' => IF MR σ σ' ∧ True) σ') (r := []) zk_54_44 rfl rfl rfl rfl rfl rfl (Or.inr ⟨_, _, _, _, rfl, vd_29, rfl⟩) (fun σ' h => (w_52_8   σ' h.1.1 ).le (Nat.le_of_ble_eq_true rfl) (fun v σ2 ⟨y, h1, h2, h3, h4⟩ => ⟨y, h1, h2, h.1.tr h3 (fun _ _ _ _ h => h), trivial⟩)) (pc' := 47) rfl (fun y31 => ?_)
          refine G_ex (fun hy31 => ?_)
          refine T_if_eq zk_54_47 (by omega) (pc' := 50) rfl (fun h32 => ?_) (fun h33 => ?_)
          ·
            refine T_op zk_54_63 rfl X_ic (pc' := 64) rfl ?_
            exact T_zret zk_54_64 rfl (by omega) (fun σ' h => ⟨_, rfl, (by omega), h.1, trivial⟩)
          ·
            refine T_ld zk_54_50 rfl rfl rfl (pc' := 51) rfl ?_
            refine T_op zk_54_51 rfl (X_bi (v := 41) (by decide)) (pc' := 53) rfl ?_
            refine T_calli (K := fun y34 σ' => (y34 = 0 ∨ y34 = 1) ∧ (fun σ' => IF MR σ σ' ∧ True) σ') (r := []) zk_54_53 rfl rfl rfl rfl rfl rfl (Or.inr ⟨_, _, _, _, rfl, vd_29, rfl⟩) (fun σ' h => (w_50 41 (by omega) σ' h.1.1 ).le (Nat.le_of_ble_eq_true rfl) (fun v σ2 ⟨y, h1, h2, h3, h4⟩ => ⟨y, h1, h2, h.1.tr h3 (fun _ _ _ _ h => h), trivial⟩)) (pc' := 56) rfl (fun y34 => ?_)
            refine G_ex (fun hy34 => ?_)
            refine T_if_eq zk_54_56 (by omega) (pc' := 59) rfl (fun h35 => ?_) (fun h36 => ?_)
            ·
              refine T_op zk_54_63 rfl X_ic (pc' := 64) rfl ?_
              exact T_zret zk_54_64 rfl (by omega) (fun σ' h => ⟨_, rfl, (by omega), h.1, trivial⟩)
            ·
              refine T_op zk_54_59 rfl X_ic (pc' := 60) rfl ?_
              refine T_goto zk_54_60 ?_
              exact T_zret zk_54_64 rfl (by omega) (fun σ' h => ⟨_, rfl, (by omega), h.1, trivial⟩)
      · exfalso; omega
    ·
      refine T_ld zk_54_18 rfl rfl rfl (pc' := 19) rfl ?_
      refine T_calli (K := fun y37 σ' => (y37 = 0 ∨ y37 = 1) ∧ (fun σ' => IF MR σ σ' ∧ True) σ') (r := []) zk_54_19 rfl rfl rfl rfl rfl rfl (Or.inr ⟨_, _, _, _, rfl, vd_29, rfl⟩) (fun σ' h => (w_55   σ' h.1.1 ).le (Nat.le_of_ble_eq_true rfl) (fun v σ2 ⟨y, h1, h2, h3, h4⟩ => ⟨y, h1, h2, h.1.tr h3 (fun _ _ _ _ h => h), trivial⟩)) (pc' := 22) rfl (fun y37 => ?_)
      refine G_ex (fun hy37 => ?_)
      exact T_zret zk_54_22 rfl (by omega) (fun σ' h => ⟨_, rfl, (by omega), h.1, trivial⟩)
/-- W$LawReader.readBoth -/
theorem w_53_7 {xs : Nat × (Nat → Int32)}   (σ : ZS) (hI : Inv σ)   : CT xs 44 53 [av 29 0 0, iv 7] σ (fun v σ' => ∃ y, v = some (iv y) ∧ (y = 0 ∨ y = 1) ∧ IF MR σ σ' ∧ (True)) := by
  refine G_ct (J := (fun σ' => IF MR σ σ' ∧ True)) (L := [(0, av 29 0 0), (1, iv 7)]) (nL := 4) rfl rfl rfl ⟨IF.rf hI, trivial⟩ ?_
  refine T_ld zk_53_0 rfl rfl rfl (pc' := 1) rfl ?_
  refine T_ld zk_53_1 rfl rfl rfl (pc' := 2) rfl ?_
  refine T_calli (K := fun y1 σ' => (y1 = 0 ∨ y1 = 1) ∧ (fun σ' => IF MR σ σ' ∧ True) σ') (r := []) zk_53_2 rfl rfl rfl rfl rfl rfl (Or.inr ⟨_, _, _, _, rfl, vd_29, rfl⟩) (fun σ' h => (w_54_7   σ' h.1.1 ).le (Nat.le_of_ble_eq_true rfl) (fun v σ2 ⟨y, h1, h2, h3, h4⟩ => ⟨y, h1, h2, h.1.tr h3 (fun _ _ _ _ h => h), trivial⟩)) (pc' := 5) rfl (fun y1 => ?_)
  refine G_ex (fun hy1 => ?_)
  refine T_st (L' := [(0, av 29 0 0), (1, iv 7), (2, iv y1)]) zk_53_5 (nL := 4) rfl rfl rfl rfl rfl (pc' := 6) rfl ?_
  refine T_op zk_53_6 rfl X_ic (pc' := 7) rfl ?_
  refine T_st (L' := [(0, av 29 0 0), (1, iv 7), (2, iv y1), (3, iv 0)]) zk_53_7 (nL := 4) rfl rfl rfl rfl rfl (pc' := 8) rfl ?_
  refine T_loop2 (fun x2 x3 => ((96 - x3 : Int)).toNat) (fun x2 x3 => (0 ≤ x2 ∧ x2 ≤ 1) ∧ (0 ≤ x3 ∧ x3 ≤ 96)) (fun x2 x3 => TJ xs (fun σ' => IF MR σ σ' ∧ True) 43 53 8 [(0, av 29 0 0), (1, iv 7), (2, iv x2), (3, iv x3)] [] _) ?_ y1 0 (by omega)
  intro x2 x3 hp5 ih4
  refine T_ld zk_53_8 rfl rfl rfl (pc' := 9) rfl ?_
  refine T_op zk_53_9 rfl (X_bi (v := 96) (by decide)) (pc' := 11) rfl ?_
  refine T_icmp_ge zk_53_11 (by omega) (by omega) (pc' := 14) rfl (fun h6 => ?_) (fun h7 => ?_)
  ·
    refine T_ld zk_53_48 rfl rfl rfl (pc' := 49) rfl ?_
    exact T_zret zk_53_49 rfl (by omega) (fun σ' h => ⟨_, rfl, (by omega), h.1, trivial⟩)
  ·
    refine T_ld zk_53_14 rfl rfl rfl (pc' := 15) rfl ?_
    refine T_if_eq zk_53_15 (by omega) (pc' := 18) rfl (fun h8 => ?_) (fun h9 => ?_)
    ·
      refine T_ld zk_53_48 rfl rfl rfl (pc' := 49) rfl ?_
      exact T_zret zk_53_49 rfl (by omega) (fun σ' h => ⟨_, rfl, (by omega), h.1, trivial⟩)
    ·
      refine T_ld zk_53_18 rfl rfl rfl (pc' := 19) rfl ?_
      refine T_op zk_53_19 rfl (X_bi (v := 38) (by decide)) (pc' := 21) rfl ?_
      refine T_calli (K := fun y10 σ' => (y10 = 0 ∨ y10 = 1) ∧ (fun σ' => IF MR σ σ' ∧ True) σ') (r := []) zk_53_21 rfl rfl rfl rfl rfl rfl (Or.inr ⟨_, _, _, _, rfl, vd_29, rfl⟩) (fun σ' h => (w_50 38 (by omega) σ' h.1.1 ).le (Nat.le_of_ble_eq_true rfl) (fun v σ2 ⟨y, h1, h2, h3, h4⟩ => ⟨y, h1, h2, h.1.tr h3 (fun _ _ _ _ h => h), trivial⟩)) (pc' := 24) rfl (fun y10 => ?_)
      refine G_ex (fun hy10 => ?_)
      refine T_if_eq zk_53_24 (by omega) (pc' := 27) rfl (fun h11 => ?_) (fun h12 => ?_)
      ·
        refine T_ld zk_53_48 rfl rfl rfl (pc' := 49) rfl ?_
        exact T_zret zk_53_49 rfl (by omega) (fun σ' h => ⟨_, rfl, (by omega), h.1, trivial⟩)
      ·
        refine T_ld zk_53_27 rfl rfl rfl (pc' := 28) rfl ?_
        refine T_ld zk_53_28 rfl rfl rfl (pc' := 29) rfl ?_
        refine T_calli (K := fun y13 σ' => (y13 = 0 ∨ y13 = 1) ∧ (fun σ' => IF MR σ σ' ∧ True) σ') (r := []) zk_53_29 rfl rfl rfl rfl rfl rfl (Or.inr ⟨_, _, _, _, rfl, vd_29, rfl⟩) (fun σ' h => (w_54_7   σ' h.1.1 ).le (Nat.le_of_ble_eq_true rfl) (fun v σ2 ⟨y, h1, h2, h3, h4⟩ => ⟨y, h1, h2, h.1.tr h3 (fun _ _ _ _ h => h), trivial⟩)) (pc' := 32) rfl (fun y13 => ?_)
        refine G_ex (fun hy13 => ?_)
        refine T_st (L' := [(0, av 29 0 0), (1, iv 7), (2, iv y13), (3, iv x3)]) zk_53_32 (nL := 4) rfl rfl rfl rfl rfl (pc' := 33) rfl ?_
        refine T_ld zk_53_33 rfl rfl rfl (pc' := 34) rfl ?_
        refine T_getR (t' := 30) (i' := 0) (k' := 0) zk_53_34 rfl rfl rfl vd_29 (pc' := 37) rfl ?_
        refine T_op zk_53_37 rfl (X_bi (v := -2) (by decide)) (pc' := 39) rfl ?_
        refine T_callv (J' := (fun σ' => IF MR σ σ' ∧ True)) (r := []) zk_53_39 rfl rfl rfl rfl rfl rfl (Or.inr ⟨_, _, _, _, rfl, vd_30, rfl⟩) (fun σ' h => (w_42 ((-2)) (by omega) σ' h.1.1 ).le (Nat.le_of_ble_eq_true rfl) (fun v σ2 ⟨h1, h3, h4⟩ => ⟨h1, h.1.tr h3 (fun _ _ _ _ h => h), trivial⟩)) (pc' := 42) rfl ?_
        refine T_iinc (L' := [(0, av 29 0 0), (1, iv 7), (2, iv y13), (3, iv (x3 + 1))]) zk_53_42 (nL := 4) rfl rfl rfl rfl (pc' := 45) rfl ?_
        refine T_goto zk_53_45 ?_
        exact ih4 y13 (x3 + 1) (by omega) (by omega)
/-- W$LawReader.readEither -/
theorem w_52_7 {xs : Nat × (Nat → Int32)}   (σ : ZS) (hI : Inv σ)   : CT xs 45 52 [av 29 0 0, iv 7] σ (fun v σ' => ∃ y, v = some (iv y) ∧ (y = 0 ∨ y = 1) ∧ IF MR σ σ' ∧ (True)) := by
  refine G_ct (J := (fun σ' => IF MR σ σ' ∧ True)) (L := [(0, av 29 0 0), (1, iv 7)]) (nL := 4) rfl rfl rfl ⟨IF.rf hI, trivial⟩ ?_
  refine T_ld zk_52_0 rfl rfl rfl (pc' := 1) rfl ?_
  refine T_ld zk_52_1 rfl rfl rfl (pc' := 2) rfl ?_
  refine T_calli (K := fun y1 σ' => (y1 = 0 ∨ y1 = 1) ∧ (fun σ' => IF MR σ σ' ∧ True) σ') (r := []) zk_52_2 rfl rfl rfl rfl rfl rfl (Or.inr ⟨_, _, _, _, rfl, vd_29, rfl⟩) (fun σ' h => (w_53_7   σ' h.1.1 ).le (Nat.le_of_ble_eq_true rfl) (fun v σ2 ⟨y, h1, h2, h3, h4⟩ => ⟨y, h1, h2, h.1.tr h3 (fun _ _ _ _ h => h), trivial⟩)) (pc' := 5) rfl (fun y1 => ?_)
  refine G_ex (fun hy1 => ?_)
  refine T_st (L' := [(0, av 29 0 0), (1, iv 7), (2, iv y1)]) zk_52_5 (nL := 4) rfl rfl rfl rfl rfl (pc' := 6) rfl ?_
  refine T_op zk_52_6 rfl X_ic (pc' := 7) rfl ?_
  refine T_st (L' := [(0, av 29 0 0), (1, iv 7), (2, iv y1), (3, iv 0)]) zk_52_7 (nL := 4) rfl rfl rfl rfl rfl (pc' := 8) rfl ?_
  refine T_loop2 (fun x2 x3 => ((96 - x3 : Int)).toNat) (fun x2 x3 => (0 ≤ x2 ∧ x2 ≤ 1) ∧ (0 ≤ x3 ∧ x3 ≤ 96)) (fun x2 x3 => TJ xs (fun σ' => IF MR σ σ' ∧ True) 44 52 8 [(0, av 29 0 0), (1, iv 7), (2, iv x2), (3, iv x3)] [] _) ?_ y1 0 (by omega)
  intro x2 x3 hp5 ih4
  refine T_ld zk_52_8 rfl rfl rfl (pc' := 9) rfl ?_
  refine T_op zk_52_9 rfl (X_bi (v := 96) (by decide)) (pc' := 11) rfl ?_
  refine T_icmp_ge zk_52_11 (by omega) (by omega) (pc' := 14) rfl (fun h6 => ?_) (fun h7 => ?_)
  ·
    refine T_ld zk_52_48 rfl rfl rfl (pc' := 49) rfl ?_
    exact T_zret zk_52_49 rfl (by omega) (fun σ' h => ⟨_, rfl, (by omega), h.1, trivial⟩)
  ·
    refine T_ld zk_52_14 rfl rfl rfl (pc' := 15) rfl ?_
    refine T_if_eq zk_52_15 (by omega) (pc' := 18) rfl (fun h8 => ?_) (fun h9 => ?_)
    ·
      refine T_ld zk_52_48 rfl rfl rfl (pc' := 49) rfl ?_
      exact T_zret zk_52_49 rfl (by omega) (fun σ' h => ⟨_, rfl, (by omega), h.1, trivial⟩)
    ·
      refine T_ld zk_52_18 rfl rfl rfl (pc' := 19) rfl ?_
      refine T_op zk_52_19 rfl (X_bi (v := 124) (by decide)) (pc' := 21) rfl ?_
      refine T_calli (K := fun y10 σ' => (y10 = 0 ∨ y10 = 1) ∧ (fun σ' => IF MR σ σ' ∧ True) σ') (r := []) zk_52_21 rfl rfl rfl rfl rfl rfl (Or.inr ⟨_, _, _, _, rfl, vd_29, rfl⟩) (fun σ' h => (w_50 124 (by omega) σ' h.1.1 ).le (Nat.le_of_ble_eq_true rfl) (fun v σ2 ⟨y, h1, h2, h3, h4⟩ => ⟨y, h1, h2, h.1.tr h3 (fun _ _ _ _ h => h), trivial⟩)) (pc' := 24) rfl (fun y10 => ?_)
      refine G_ex (fun hy10 => ?_)
      refine T_if_eq zk_52_24 (by omega) (pc' := 27) rfl (fun h11 => ?_) (fun h12 => ?_)
      ·
        refine T_ld zk_52_48 rfl rfl rfl (pc' := 49) rfl ?_
        exact T_zret zk_52_49 rfl (by omega) (fun σ' h => ⟨_, rfl, (by omega), h.1, trivial⟩)
      ·
        refine T_ld zk_52_27 rfl rfl rfl (pc' := 28) rfl ?_
        refine T_ld zk_52_28 rfl rfl rfl (pc' := 29) rfl ?_
        refine T_calli (K := fun y13 σ' => (y13 = 0 ∨ y13 = 1) ∧ (fun σ' => IF MR σ σ' ∧ True) σ') (r := []) zk_52_29 rfl rfl rfl rfl rfl rfl (Or.inr ⟨_, _, _, _, rfl, vd_29, rfl⟩) (fun σ' h => (w_53_7   σ' h.1.1 ).le (Nat.le_of_ble_eq_true rfl) (fun v σ2 ⟨y, h1, h2, h3, h4⟩ => ⟨y, h1, h2, h.1.tr h3 (fun _ _ _ _ h => h), trivial⟩)) (pc' := 32) rfl (fun y13 => ?_)
        refine G_ex (fun hy13 => ?_)
        refine T_st (L' := [(0, av 29 0 0), (1, iv 7), (2, iv y13), (3, iv x3)]) zk_52_32 (nL := 4) rfl rfl rfl rfl rfl (pc' := 33) rfl ?_
        refine T_ld zk_52_33 rfl rfl rfl (pc' := 34) rfl ?_
        refine T_getR (t' := 30) (i' := 0) (k' := 0) zk_52_34 rfl rfl rfl vd_29 (pc' := 37) rfl ?_
        refine T_op zk_52_37 rfl (X_bi (v := -3) (by decide)) (pc' := 39) rfl ?_
        refine T_callv (J' := (fun σ' => IF MR σ σ' ∧ True)) (r := []) zk_52_39 rfl rfl rfl rfl rfl rfl (Or.inr ⟨_, _, _, _, rfl, vd_30, rfl⟩) (fun σ' h => (w_42 ((-3)) (by omega) σ' h.1.1 ).le (Nat.le_of_ble_eq_true rfl) (fun v σ2 ⟨h1, h3, h4⟩ => ⟨h1, h.1.tr h3 (fun _ _ _ _ h => h), trivial⟩)) (pc' := 42) rfl ?_
        refine T_iinc (L' := [(0, av 29 0 0), (1, iv 7), (2, iv y13), (3, iv (x3 + 1))]) zk_52_42 (nL := 4) rfl rfl rfl rfl (pc' := 45) rfl ?_
        refine T_goto zk_52_45 ?_
        exact ih4 y13 (x3 + 1) (by omega) (by omega)
/-- W$LawReader.readPart -/
theorem w_54_6 {xs : Nat × (Nat → Int32)}   (σ : ZS) (hI : Inv σ)   : CT xs 46 54 [av 29 0 0, iv 6] σ (fun v σ' => ∃ y, v = some (iv y) ∧ (y = 0 ∨ y = 1) ∧ IF MR σ σ' ∧ (True)) := by
  refine G_ct (J := (fun σ' => IF MR σ σ' ∧ True)) (L := [(0, av 29 0 0), (1, iv 6)]) (nL := 3) rfl rfl rfl ⟨IF.rf hI, trivial⟩ ?_
  refine T_ld zk_54_0 rfl rfl rfl (pc' := 1) rfl ?_
  refine T_calli (K := fun y1 σ' => (-2147483648 ≤ y1 ∧ y1 ≤ 2147483647) ∧ (fun σ' => IF MR σ σ' ∧ True) σ') (r := []) zk_54_1 rfl rfl rfl rfl rfl rfl (Or.inr ⟨_, _, _, _, rfl, vd_29, rfl⟩) (fun σ' h => (w_49   σ' h.1.1 ).le (Nat.le_of_ble_eq_true rfl) (fun v σ2 ⟨y, h1, h2, h3, h4⟩ => ⟨y, h1, h2, h.1.tr h3 MN_sub, trivial⟩)) (pc' := 4) rfl (fun y1 => ?_)
  refine G_ex (fun hy1 => ?_)
  refine T_op zk_54_4 rfl (X_bi (v := 33) (by decide)) (pc' := 6) rfl ?_
  refine T_icmp_eq zk_54_6 (by omega) (by omega) (pc' := 9) rfl (fun h2 => ?_) (fun h3 => ?_)
  ·
    refine T_ld zk_54_23 rfl rfl rfl (pc' := 24) rfl ?_
    refine T_op zk_54_24 rfl (X_bi (v := 20) (by decide)) (pc' := 26) rfl ?_
    refine T_icmp_lt zk_54_26 (by omega) (by omega) (pc' := 29) rfl (fun h4 => ?_) (fun h5 => ?_)
    ·
      refine T_ld zk_54_31 rfl rfl rfl (pc' := 32) rfl ?_
      refine T_op zk_54_32 rfl (X_bi (v := 40) (by decide)) (pc' := 34) rfl ?_
      refine T_calli (K := fun y6 σ' => (y6 = 0 ∨ y6 = 1) ∧ (fun σ' => IF MR σ σ' ∧ True) σ') (r := []) zk_54_34 rfl rfl rfl rfl rfl rfl (Or.inr ⟨_, _, _, _, rfl, vd_29, rfl⟩) (fun σ' h => (w_50 40 (by omega) σ' h.1.1 ).le (Nat.le_of_ble_eq_true rfl) (fun v σ2 ⟨y, h1, h2, h3, h4⟩ => ⟨y, h1, h2, h.1.tr h3 (fun _ _ _ _ h => h), trivial⟩)) (pc' := 37) rfl (fun y6 => ?_)
      refine G_ex (fun hy6 => ?_)
      refine T_if_eq zk_54_37 (by omega) (pc' := 40) rfl (fun h7 => ?_) (fun h8 => ?_)
      ·
        refine T_ld zk_54_65 rfl rfl rfl (pc' := 66) rfl ?_
        refine T_op (st' := [av 29 0 0, av 29 0 0]) zk_54_66 rfl rfl (pc' := 67) rfl ?_
        refine G_getf (lo := -2147483648) (hi := 2147483647) zk_54_67 rfl vd_29 (fun σ' h => h.1.1) (fun _ h => (by have q := h.1; omega)) (pc' := 70) rfl (fun y9 hy9 hy9' => ?_)
        refine T_op zk_54_70 rfl X_ic (pc' := 71) rfl ?_
        refine G_unk zk_54_71 rfl (pc' := 72) rfl (fun y10 hy10 hy10' => ?_)
        refine T_putf (J' := (fun σ' => IF MR σ σ' ∧ σ' 29 0 0 3 = y10 ∧ True)) zk_54_72 rfl rfl vd_29 (fun σ' h => ⟨h.1.up (by simp only [rgP] <;> omega) (by first | exact pMR rfl | (unfold MR; omega)), up_eq, trivial⟩) (pc' := 75) rfl ?_
        refine T_ld zk_54_75 rfl rfl rfl (pc' := 76) rfl ?_
        refine T_ld zk_54_76 rfl rfl rfl (pc' := 77) rfl ?_
        refine T_op zk_54_77 rfl X_ic (pc' := 78) rfl ?_
        refine T_opc (w := 7) zk_54_78 rfl X_add (by omega) (pc' := 79) rfl ?_
        refine T_calli (K := fun y11 σ' => (y11 = 0 ∨ y11 = 1) ∧ (fun σ' => IF MR σ σ' ∧ True) σ') (r := []) zk_54_79 rfl rfl rfl rfl rfl rfl (Or.inr ⟨_, _, _, _, rfl, vd_29, rfl⟩) (fun σ' h => (w_54_7   σ' h.1.1 ).le (Nat.le_of_ble_eq_true rfl) (fun v σ2 ⟨y, h1, h2, h3, h4⟩ => ⟨y, h1, h2, h.1.tr h3 (fun _ _ _ _ h => h), trivial⟩)) (pc' := 82) rfl (fun y11 => ?_)
        refine G_ex (fun hy11 => ?_)
        refine T_st (L' := [(0, av 29 0 0), (1, iv 6), (2, iv y11)]) zk_54_82 (nL := 3) rfl rfl rfl rfl rfl (pc' := 83) rfl ?_
        refine T_ld zk_54_83 rfl rfl rfl (pc' := 84) rfl ?_
        refine T_getR (t' := 30) (i' := 0) (k' := 0) zk_54_84 rfl rfl rfl vd_29 (pc' := 87) rfl ?_
        refine T_op zk_54_87 rfl X_ic (pc' := 88) rfl ?_
        refine T_callv (J' := (fun σ' => IF MR σ σ' ∧ True)) (r := []) zk_54_88 rfl rfl rfl rfl rfl rfl (Or.inr ⟨_, _, _, _, rfl, vd_30, rfl⟩) (fun σ' h => (w_42 ((-1)) (by omega) σ' h.1.1 ).le (Nat.le_of_ble_eq_true rfl) (fun v σ2 ⟨h1, h3, h4⟩ => ⟨h1, h.1.tr h3 (fun _ _ _ _ h => h), trivial⟩)) (pc' := 91) rfl ?_
        refine T_ld zk_54_91 rfl rfl rfl (pc' := 92) rfl ?_
        exact T_zret zk_54_92 rfl (by omega) (fun σ' h => ⟨_, rfl, (by omega), h.1, trivial⟩)
      ·
        refine T_ld zk_54_40 rfl rfl rfl (pc' := 41) rfl ?_
        refine T_ld zk_54_41 rfl rfl rfl (pc' := 42) rfl ?_
        refine T_op zk_54_42 rfl X_ic (pc' := 43) rfl ?_
        refine T_opc (w := 7) zk_54_43 rfl X_add (by omega) (pc' := 44) rfl ?_
        refine T_calli (K := fun y13 σ' => (y13 = 0 ∨ y13 = 1) ∧ (fun σ' => IF MR σ σ' ∧ True) σ') (r := []) zk_54_44 rfl rfl rfl rfl rfl rfl (Or.inr ⟨_, _, _, _, rfl, vd_29, rfl⟩) (fun σ' h => (w_52_7   σ' h.1.1 ).le (Nat.le_of_ble_eq_true rfl) (fun v σ2 ⟨y, h1, h2, h3, h4⟩ => ⟨y, h1, h2, h.1.tr h3 (fun _ _ _ _ h => h), trivial⟩)) (pc' := 47) rfl (fun y13 => ?_)
        refine G_ex (fun hy13 => ?_)
        refine T_if_eq zk_54_47 (by omega) (pc' := 50) rfl (fun h14 => ?_) (fun h15 => ?_)
        ·
          refine T_op zk_54_63 rfl X_ic (pc' := 64) rfl ?_
          exact T_zret zk_54_64 rfl (by omega) (fun σ' h => ⟨_, rfl, (by omega), h.1, trivial⟩)
        ·
          refine T_ld zk_54_50 rfl rfl rfl (pc' := 51) rfl ?_
          refine T_op zk_54_51 rfl (X_bi (v := 41) (by decide)) (pc' := 53) rfl ?_
          refine T_calli (K := fun y16 σ' => (y16 = 0 ∨ y16 = 1) ∧ (fun σ' => IF MR σ σ' ∧ True) σ') (r := []) zk_54_53 rfl rfl rfl rfl rfl rfl (Or.inr ⟨_, _, _, _, rfl, vd_29, rfl⟩) (fun σ' h => (w_50 41 (by omega) σ' h.1.1 ).le (Nat.le_of_ble_eq_true rfl) (fun v σ2 ⟨y, h1, h2, h3, h4⟩ => ⟨y, h1, h2, h.1.tr h3 (fun _ _ _ _ h => h), trivial⟩)) (pc' := 56) rfl (fun y16 => ?_)
          refine G_ex (fun hy16 => ?_)
          refine T_if_eq zk_54_56 (by omega) (pc' := 59) rfl (fun h17 => ?_) (fun h18 => ?_)
          ·
            refine T_op zk_54_63 rfl X_ic (pc' := 64) rfl ?_
            exact T_zret zk_54_64 rfl (by omega) (fun σ' h => ⟨_, rfl, (by omega), h.1, trivial⟩)
          ·
            refine T_op zk_54_59 rfl X_ic (pc' := 60) rfl ?_
            refine T_goto zk_54_60 ?_
            exact T_zret zk_54_64 rfl (by omega) (fun σ' h => ⟨_, rfl, (by omega), h.1, trivial⟩)
    · exfalso; omega
  ·
    refine T_ld zk_54_9 rfl rfl rfl (pc' := 10) rfl ?_
    refine T_calli (K := fun y19 σ' => (-2147483648 ≤ y19 ∧ y19 ≤ 2147483647) ∧ (fun σ' => IF MR σ σ' ∧ True) σ') (r := []) zk_54_10 rfl rfl rfl rfl rfl rfl (Or.inr ⟨_, _, _, _, rfl, vd_29, rfl⟩) (fun σ' h => (w_49   σ' h.1.1 ).le (Nat.le_of_ble_eq_true rfl) (fun v σ2 ⟨y, h1, h2, h3, h4⟩ => ⟨y, h1, h2, h.1.tr h3 MN_sub, trivial⟩)) (pc' := 13) rfl (fun y19 => ?_)
    refine G_ex (fun hy19 => ?_)
    refine T_op zk_54_13 rfl (X_bi (v := 40) (by decide)) (pc' := 15) rfl ?_
    refine T_icmp_eq zk_54_15 (by omega) (by omega) (pc' := 18) rfl (fun h20 => ?_) (fun h21 => ?_)
    ·
      refine T_ld zk_54_23 rfl rfl rfl (pc' := 24) rfl ?_
      refine T_op zk_54_24 rfl (X_bi (v := 20) (by decide)) (pc' := 26) rfl ?_
      refine T_icmp_lt zk_54_26 (by omega) (by omega) (pc' := 29) rfl (fun h22 => ?_) (fun h23 => ?_)
      ·
        refine T_ld zk_54_31 rfl rfl rfl (pc' := 32) rfl ?_
        refine T_op zk_54_32 rfl (X_bi (v := 40) (by decide)) (pc' := 34) rfl ?_
        refine T_calli (K := fun y24 σ' => (y24 = 0 ∨ y24 = 1) ∧ (fun σ' => IF MR σ σ' ∧ True) σ') (r := []) zk_54_34 rfl rfl rfl rfl rfl rfl (Or.inr ⟨_, _, _, _, rfl, vd_29, rfl⟩) (fun σ' h => (w_50 40 (by omega) σ' h.1.1 ).le (Nat.le_of_ble_eq_true rfl) (fun v σ2 ⟨y, h1, h2, h3, h4⟩ => ⟨y, h1, h2, h.1.tr h3 (fun _ _ _ _ h => h), trivial⟩)) (pc' := 37) rfl (fun y24 => ?_)
        refine G_ex (fun hy24 => ?_)
        refine T_if_eq zk_54_37 (by omega) (pc' := 40) rfl (fun h25 => ?_) (fun h26 => ?_)
        ·
          refine T_ld zk_54_65 rfl rfl rfl (pc' := 66) rfl ?_
          refine T_op (st' := [av 29 0 0, av 29 0 0]) zk_54_66 rfl rfl (pc' := 67) rfl ?_
          refine G_getf (lo := -2147483648) (hi := 2147483647) zk_54_67 rfl vd_29 (fun σ' h => h.1.1) (fun _ h => (by have q := h.1; omega)) (pc' := 70) rfl (fun y27 hy27 hy27' => ?_)
          refine T_op zk_54_70 rfl X_ic (pc' := 71) rfl ?_
          refine G_unk zk_54_71 rfl (pc' := 72) rfl (fun y28 hy28 hy28' => ?_)
          refine T_putf (J' := (fun σ' => IF MR σ σ' ∧ σ' 29 0 0 3 = y28 ∧ True)) zk_54_72 rfl rfl vd_29 (fun σ' h => ⟨h.1.up (by simp only [rgP] <;> omega) (by first | exact pMR rfl | (unfold MR; omega)), up_eq, trivial⟩) (pc' := 75) rfl ?_
          refine T_ld zk_54_75 rfl rfl rfl (pc' := 76) rfl ?_
          refine T_ld zk_54_76 rfl rfl rfl (pc' := 77) rfl ?_
          refine T_op zk_54_77 rfl X_ic (pc' := 78) rfl ?_
          refine T_opc (w := 7) zk_54_78 rfl X_add (by omega) (pc' := 79) rfl ?_
          refine T_calli (K := fun y29 σ' => (y29 = 0 ∨ y29 = 1) ∧ (fun σ' => IF MR σ σ' ∧ True) σ') (r := []) zk_54_79 rfl rfl rfl rfl rfl rfl (Or.inr ⟨_, _, _, _, rfl, vd_29, rfl⟩) (fun σ' h => (w_54_7   σ' h.1.1 ).le (Nat.le_of_ble_eq_true rfl) (fun v σ2 ⟨y, h1, h2, h3, h4⟩ => ⟨y, h1, h2, h.1.tr h3 (fun _ _ _ _ h => h), trivial⟩)) (pc' := 82) rfl (fun y29 => ?_)
          refine G_ex (fun hy29 => ?_)
          refine T_st (L' := [(0, av 29 0 0), (1, iv 6), (2, iv y29)]) zk_54_82 (nL := 3) rfl rfl rfl rfl rfl (pc' := 83) rfl ?_
          refine T_ld zk_54_83 rfl rfl rfl (pc' := 84) rfl ?_
          refine T_getR (t' := 30) (i' := 0) (k' := 0) zk_54_84 rfl rfl rfl vd_29 (pc' := 87) rfl ?_
          refine T_op zk_54_87 rfl X_ic (pc' := 88) rfl ?_
          refine T_callv (J' := (fun σ' => IF MR σ σ' ∧ True)) (r := []) zk_54_88 rfl rfl rfl rfl rfl rfl (Or.inr ⟨_, _, _, _, rfl, vd_30, rfl⟩) (fun σ' h => (w_42 ((-1)) (by omega) σ' h.1.1 ).le (Nat.le_of_ble_eq_true rfl) (fun v σ2 ⟨h1, h3, h4⟩ => ⟨h1, h.1.tr h3 (fun _ _ _ _ h => h), trivial⟩)) (pc' := 91) rfl ?_
          refine T_ld zk_54_91 rfl rfl rfl (pc' := 92) rfl ?_
          exact T_zret zk_54_92 rfl (by omega) (fun σ' h => ⟨_, rfl, (by omega), h.1, trivial⟩)
        ·
          refine T_ld zk_54_40 rfl rfl rfl (pc' := 41) rfl ?_
          refine T_ld zk_54_41 rfl rfl rfl (pc' := 42) rfl ?_
          refine T_op zk_54_42 rfl X_ic (pc' := 43) rfl ?_
          refine T_opc (w := 7) zk_54_43 rfl X_add (by omega) (pc' := 44) rfl ?_
          refine T_calli (K := fun y31 σ' => (y31 = 0 ∨ y31 = 1) ∧ (fun σ' => IF MR σ σ' ∧ True) σ') (r := []) zk_54_44 rfl rfl rfl rfl rfl rfl (Or.inr ⟨_, _, _, _, rfl, vd_29, rfl⟩) (fun σ' h => (w_52_7   σ' h.1.1 ).le (Nat.le_of_ble_eq_true rfl) (fun v σ2 ⟨y, h1, h2, h3, h4⟩ => ⟨y, h1, h2, h.1.tr h3 (fun _ _ _ _ h => h), trivial⟩)) (pc' := 47) rfl (fun y31 => ?_)
          refine G_ex (fun hy31 => ?_)
          refine T_if_eq zk_54_47 (by omega) (pc' := 50) rfl (fun h32 => ?_) (fun h33 => ?_)
          ·
            refine T_op zk_54_63 rfl X_ic (pc' := 64) rfl ?_
            exact T_zret zk_54_64 rfl (by omega) (fun σ' h => ⟨_, rfl, (by omega), h.1, trivial⟩)
          ·
            refine T_ld zk_54_50 rfl rfl rfl (pc' := 51) rfl ?_
            refine T_op zk_54_51 rfl (X_bi (v := 41) (by decide)) (pc' := 53) rfl ?_
            refine T_calli (K := fun y34 σ' => (y34 = 0 ∨ y34 = 1) ∧ (fun σ' => IF MR σ σ' ∧ True) σ') (r := []) zk_54_53 rfl rfl rfl rfl rfl rfl (Or.inr ⟨_, _, _, _, rfl, vd_29, rfl⟩) (fun σ' h => (w_50 41 (by omega) σ' h.1.1 ).le (Nat.le_of_ble_eq_true rfl) (fun v σ2 ⟨y, h1, h2, h3, h4⟩ => ⟨y, h1, h2, h.1.tr h3 (fun _ _ _ _ h => h), trivial⟩)) (pc' := 56) rfl (fun y34 => ?_)
            refine G_ex (fun hy34 => ?_)
            refine T_if_eq zk_54_56 (by omega) (pc' := 59) rfl (fun h35 => ?_) (fun h36 => ?_)
            ·
              refine T_op zk_54_63 rfl X_ic (pc' := 64) rfl ?_
              exact T_zret zk_54_64 rfl (by omega) (fun σ' h => ⟨_, rfl, (by omega), h.1, trivial⟩)
            ·
              refine T_op zk_54_59 rfl X_ic (pc' := 60) rfl ?_
              refine T_goto zk_54_60 ?_
              exact T_zret zk_54_64 rfl (by omega) (fun σ' h => ⟨_, rfl, (by omega), h.1, trivial⟩)
      · exfalso; omega
    ·
      refine T_ld zk_54_18 rfl rfl rfl (pc' := 19) rfl ?_
      refine T_calli (K := fun y37 σ' => (y37 = 0 ∨ y37 = 1) ∧ (fun σ' => IF MR σ σ' ∧ True) σ') (r := []) zk_54_19 rfl rfl rfl rfl rfl rfl (Or.inr ⟨_, _, _, _, rfl, vd_29, rfl⟩) (fun σ' h => (w_55   σ' h.1.1 ).le (Nat.le_of_ble_eq_true rfl) (fun v σ2 ⟨y, h1, h2, h3, h4⟩ => ⟨y, h1, h2, h.1.tr h3 (fun _ _ _ _ h => h), trivial⟩)) (pc' := 22) rfl (fun y37 => ?_)
      refine G_ex (fun hy37 => ?_)
      exact T_zret zk_54_22 rfl (by omega) (fun σ' h => ⟨_, rfl, (by omega), h.1, trivial⟩)
/-- W$LawReader.readBoth -/
theorem w_53_6 {xs : Nat × (Nat → Int32)}   (σ : ZS) (hI : Inv σ)   : CT xs 47 53 [av 29 0 0, iv 6] σ (fun v σ' => ∃ y, v = some (iv y) ∧ (y = 0 ∨ y = 1) ∧ IF MR σ σ' ∧ (True)) := by
  refine G_ct (J := (fun σ' => IF MR σ σ' ∧ True)) (L := [(0, av 29 0 0), (1, iv 6)]) (nL := 4) rfl rfl rfl ⟨IF.rf hI, trivial⟩ ?_
  refine T_ld zk_53_0 rfl rfl rfl (pc' := 1) rfl ?_
  refine T_ld zk_53_1 rfl rfl rfl (pc' := 2) rfl ?_
  refine T_calli (K := fun y1 σ' => (y1 = 0 ∨ y1 = 1) ∧ (fun σ' => IF MR σ σ' ∧ True) σ') (r := []) zk_53_2 rfl rfl rfl rfl rfl rfl (Or.inr ⟨_, _, _, _, rfl, vd_29, rfl⟩) (fun σ' h => (w_54_6   σ' h.1.1 ).le (Nat.le_of_ble_eq_true rfl) (fun v σ2 ⟨y, h1, h2, h3, h4⟩ => ⟨y, h1, h2, h.1.tr h3 (fun _ _ _ _ h => h), trivial⟩)) (pc' := 5) rfl (fun y1 => ?_)
  refine G_ex (fun hy1 => ?_)
  refine T_st (L' := [(0, av 29 0 0), (1, iv 6), (2, iv y1)]) zk_53_5 (nL := 4) rfl rfl rfl rfl rfl (pc' := 6) rfl ?_
  refine T_op zk_53_6 rfl X_ic (pc' := 7) rfl ?_
  refine T_st (L' := [(0, av 29 0 0), (1, iv 6), (2, iv y1), (3, iv 0)]) zk_53_7 (nL := 4) rfl rfl rfl rfl rfl (pc' := 8) rfl ?_
  refine T_loop2 (fun x2 x3 => ((96 - x3 : Int)).toNat) (fun x2 x3 => (0 ≤ x2 ∧ x2 ≤ 1) ∧ (0 ≤ x3 ∧ x3 ≤ 96)) (fun x2 x3 => TJ xs (fun σ' => IF MR σ σ' ∧ True) 46 53 8 [(0, av 29 0 0), (1, iv 6), (2, iv x2), (3, iv x3)] [] _) ?_ y1 0 (by omega)
  intro x2 x3 hp5 ih4
  refine T_ld zk_53_8 rfl rfl rfl (pc' := 9) rfl ?_
  refine T_op zk_53_9 rfl (X_bi (v := 96) (by decide)) (pc' := 11) rfl ?_
  refine T_icmp_ge zk_53_11 (by omega) (by omega) (pc' := 14) rfl (fun h6 => ?_) (fun h7 => ?_)
  ·
    refine T_ld zk_53_48 rfl rfl rfl (pc' := 49) rfl ?_
    exact T_zret zk_53_49 rfl (by omega) (fun σ' h => ⟨_, rfl, (by omega), h.1, trivial⟩)
  ·
    refine T_ld zk_53_14 rfl rfl rfl (pc' := 15) rfl ?_
    refine T_if_eq zk_53_15 (by omega) (pc' := 18) rfl (fun h8 => ?_) (fun h9 => ?_)
    ·
      refine T_ld zk_53_48 rfl rfl rfl (pc' := 49) rfl ?_
      exact T_zret zk_53_49 rfl (by omega) (fun σ' h => ⟨_, rfl, (by omega), h.1, trivial⟩)
    ·
      refine T_ld zk_53_18 rfl rfl rfl (pc' := 19) rfl ?_
      refine T_op zk_53_19 rfl (X_bi (v := 38) (by decide)) (pc' := 21) rfl ?_
      refine T_calli (K := fun y10 σ' => (y10 = 0 ∨ y10 = 1) ∧ (fun σ' => IF MR σ σ' ∧ True) σ') (r := []) zk_53_21 rfl rfl rfl rfl rfl rfl (Or.inr ⟨_, _, _, _, rfl, vd_29, rfl⟩) (fun σ' h => (w_50 38 (by omega) σ' h.1.1 ).le (Nat.le_of_ble_eq_true rfl) (fun v σ2 ⟨y, h1, h2, h3, h4⟩ => ⟨y, h1, h2, h.1.tr h3 (fun _ _ _ _ h => h), trivial⟩)) (pc' := 24) rfl (fun y10 => ?_)
      refine G_ex (fun hy10 => ?_)
      refine T_if_eq zk_53_24 (by omega) (pc' := 27) rfl (fun h11 => ?_) (fun h12 => ?_)
      ·
        refine T_ld zk_53_48 rfl rfl rfl (pc' := 49) rfl ?_
        exact T_zret zk_53_49 rfl (by omega) (fun σ' h => ⟨_, rfl, (by omega), h.1, trivial⟩)
      ·
        refine T_ld zk_53_27 rfl rfl rfl (pc' := 28) rfl ?_
        refine T_ld zk_53_28 rfl rfl rfl (pc' := 29) rfl ?_
        refine T_calli (K := fun y13 σ' => (y13 = 0 ∨ y13 = 1) ∧ (fun σ' => IF MR σ σ' ∧ True) σ') (r := []) zk_53_29 rfl rfl rfl rfl rfl rfl (Or.inr ⟨_, _, _, _, rfl, vd_29, rfl⟩) (fun σ' h => (w_54_6   σ' h.1.1 ).le (Nat.le_of_ble_eq_true rfl) (fun v σ2 ⟨y, h1, h2, h3, h4⟩ => ⟨y, h1, h2, h.1.tr h3 (fun _ _ _ _ h => h), trivial⟩)) (pc' := 32) rfl (fun y13 => ?_)
        refine G_ex (fun hy13 => ?_)
        refine T_st (L' := [(0, av 29 0 0), (1, iv 6), (2, iv y13), (3, iv x3)]) zk_53_32 (nL := 4) rfl rfl rfl rfl rfl (pc' := 33) rfl ?_
        refine T_ld zk_53_33 rfl rfl rfl (pc' := 34) rfl ?_
        refine T_getR (t' := 30) (i' := 0) (k' := 0) zk_53_34 rfl rfl rfl vd_29 (pc' := 37) rfl ?_
        refine T_op zk_53_37 rfl (X_bi (v := -2) (by decide)) (pc' := 39) rfl ?_
        refine T_callv (J' := (fun σ' => IF MR σ σ' ∧ True)) (r := []) zk_53_39 rfl rfl rfl rfl rfl rfl (Or.inr ⟨_, _, _, _, rfl, vd_30, rfl⟩) (fun σ' h => (w_42 ((-2)) (by omega) σ' h.1.1 ).le (Nat.le_of_ble_eq_true rfl) (fun v σ2 ⟨h1, h3, h4⟩ => ⟨h1, h.1.tr h3 (fun _ _ _ _ h => h), trivial⟩)) (pc' := 42) rfl ?_
        refine T_iinc (L' := [(0, av 29 0 0), (1, iv 6), (2, iv y13), (3, iv (x3 + 1))]) zk_53_42 (nL := 4) rfl rfl rfl rfl (pc' := 45) rfl ?_
        refine T_goto zk_53_45 ?_
        exact ih4 y13 (x3 + 1) (by omega) (by omega)
/-- W$LawReader.readEither -/
theorem w_52_6 {xs : Nat × (Nat → Int32)}   (σ : ZS) (hI : Inv σ)   : CT xs 48 52 [av 29 0 0, iv 6] σ (fun v σ' => ∃ y, v = some (iv y) ∧ (y = 0 ∨ y = 1) ∧ IF MR σ σ' ∧ (True)) := by
  refine G_ct (J := (fun σ' => IF MR σ σ' ∧ True)) (L := [(0, av 29 0 0), (1, iv 6)]) (nL := 4) rfl rfl rfl ⟨IF.rf hI, trivial⟩ ?_
  refine T_ld zk_52_0 rfl rfl rfl (pc' := 1) rfl ?_
  refine T_ld zk_52_1 rfl rfl rfl (pc' := 2) rfl ?_
  refine T_calli (K := fun y1 σ' => (y1 = 0 ∨ y1 = 1) ∧ (fun σ' => IF MR σ σ' ∧ True) σ') (r := []) zk_52_2 rfl rfl rfl rfl rfl rfl (Or.inr ⟨_, _, _, _, rfl, vd_29, rfl⟩) (fun σ' h => (w_53_6   σ' h.1.1 ).le (Nat.le_of_ble_eq_true rfl) (fun v σ2 ⟨y, h1, h2, h3, h4⟩ => ⟨y, h1, h2, h.1.tr h3 (fun _ _ _ _ h => h), trivial⟩)) (pc' := 5) rfl (fun y1 => ?_)
  refine G_ex (fun hy1 => ?_)
  refine T_st (L' := [(0, av 29 0 0), (1, iv 6), (2, iv y1)]) zk_52_5 (nL := 4) rfl rfl rfl rfl rfl (pc' := 6) rfl ?_
  refine T_op zk_52_6 rfl X_ic (pc' := 7) rfl ?_
  refine T_st (L' := [(0, av 29 0 0), (1, iv 6), (2, iv y1), (3, iv 0)]) zk_52_7 (nL := 4) rfl rfl rfl rfl rfl (pc' := 8) rfl ?_
  refine T_loop2 (fun x2 x3 => ((96 - x3 : Int)).toNat) (fun x2 x3 => (0 ≤ x2 ∧ x2 ≤ 1) ∧ (0 ≤ x3 ∧ x3 ≤ 96)) (fun x2 x3 => TJ xs (fun σ' => IF MR σ σ' ∧ True) 47 52 8 [(0, av 29 0 0), (1, iv 6), (2, iv x2), (3, iv x3)] [] _) ?_ y1 0 (by omega)
  intro x2 x3 hp5 ih4
  refine T_ld zk_52_8 rfl rfl rfl (pc' := 9) rfl ?_
  refine T_op zk_52_9 rfl (X_bi (v := 96) (by decide)) (pc' := 11) rfl ?_
  refine T_icmp_ge zk_52_11 (by omega) (by omega) (pc' := 14) rfl (fun h6 => ?_) (fun h7 => ?_)
  ·
    refine T_ld zk_52_48 rfl rfl rfl (pc' := 49) rfl ?_
    exact T_zret zk_52_49 rfl (by omega) (fun σ' h => ⟨_, rfl, (by omega), h.1, trivial⟩)
  ·
    refine T_ld zk_52_14 rfl rfl rfl (pc' := 15) rfl ?_
    refine T_if_eq zk_52_15 (by omega) (pc' := 18) rfl (fun h8 => ?_) (fun h9 => ?_)
    ·
      refine T_ld zk_52_48 rfl rfl rfl (pc' := 49) rfl ?_
      exact T_zret zk_52_49 rfl (by omega) (fun σ' h => ⟨_, rfl, (by omega), h.1, trivial⟩)
    ·
      refine T_ld zk_52_18 rfl rfl rfl (pc' := 19) rfl ?_
      refine T_op zk_52_19 rfl (X_bi (v := 124) (by decide)) (pc' := 21) rfl ?_
      refine T_calli (K := fun y10 σ' => (y10 = 0 ∨ y10 = 1) ∧ (fun σ' => IF MR σ σ' ∧ True) σ') (r := []) zk_52_21 rfl rfl rfl rfl rfl rfl (Or.inr ⟨_, _, _, _, rfl, vd_29, rfl⟩) (fun σ' h => (w_50 124 (by omega) σ' h.1.1 ).le (Nat.le_of_ble_eq_true rfl) (fun v σ2 ⟨y, h1, h2, h3, h4⟩ => ⟨y, h1, h2, h.1.tr h3 (fun _ _ _ _ h => h), trivial⟩)) (pc' := 24) rfl (fun y10 => ?_)
      refine G_ex (fun hy10 => ?_)
      refine T_if_eq zk_52_24 (by omega) (pc' := 27) rfl (fun h11 => ?_) (fun h12 => ?_)
      ·
        refine T_ld zk_52_48 rfl rfl rfl (pc' := 49) rfl ?_
        exact T_zret zk_52_49 rfl (by omega) (fun σ' h => ⟨_, rfl, (by omega), h.1, trivial⟩)
      ·
        refine T_ld zk_52_27 rfl rfl rfl (pc' := 28) rfl ?_
        refine T_ld zk_52_28 rfl rfl rfl (pc' := 29) rfl ?_
        refine T_calli (K := fun y13 σ' => (y13 = 0 ∨ y13 = 1) ∧ (fun σ' => IF MR σ σ' ∧ True) σ') (r := []) zk_52_29 rfl rfl rfl rfl rfl rfl (Or.inr ⟨_, _, _, _, rfl, vd_29, rfl⟩) (fun σ' h => (w_53_6   σ' h.1.1 ).le (Nat.le_of_ble_eq_true rfl) (fun v σ2 ⟨y, h1, h2, h3, h4⟩ => ⟨y, h1, h2, h.1.tr h3 (fun _ _ _ _ h => h), trivial⟩)) (pc' := 32) rfl (fun y13 => ?_)
        refine G_ex (fun hy13 => ?_)
        refine T_st (L' := [(0, av 29 0 0), (1, iv 6), (2, iv y13), (3, iv x3)]) zk_52_32 (nL := 4) rfl rfl rfl rfl rfl (pc' := 33) rfl ?_
        refine T_ld zk_52_33 rfl rfl rfl (pc' := 34) rfl ?_
        refine T_getR (t' := 30) (i' := 0) (k' := 0) zk_52_34 rfl rfl rfl vd_29 (pc' := 37) rfl ?_
        refine T_op zk_52_37 rfl (X_bi (v := -3) (by decide)) (pc' := 39) rfl ?_
        refine T_callv (J' := (fun σ' => IF MR σ σ' ∧ True)) (r := []) zk_52_39 rfl rfl rfl rfl rfl rfl (Or.inr ⟨_, _, _, _, rfl, vd_30, rfl⟩) (fun σ' h => (w_42 ((-3)) (by omega) σ' h.1.1 ).le (Nat.le_of_ble_eq_true rfl) (fun v σ2 ⟨h1, h3, h4⟩ => ⟨h1, h.1.tr h3 (fun _ _ _ _ h => h), trivial⟩)) (pc' := 42) rfl ?_
        refine T_iinc (L' := [(0, av 29 0 0), (1, iv 6), (2, iv y13), (3, iv (x3 + 1))]) zk_52_42 (nL := 4) rfl rfl rfl rfl (pc' := 45) rfl ?_
        refine T_goto zk_52_45 ?_
        exact ih4 y13 (x3 + 1) (by omega) (by omega)
/-- W$LawReader.readPart -/
theorem w_54_5 {xs : Nat × (Nat → Int32)}   (σ : ZS) (hI : Inv σ)   : CT xs 49 54 [av 29 0 0, iv 5] σ (fun v σ' => ∃ y, v = some (iv y) ∧ (y = 0 ∨ y = 1) ∧ IF MR σ σ' ∧ (True)) := by
  refine G_ct (J := (fun σ' => IF MR σ σ' ∧ True)) (L := [(0, av 29 0 0), (1, iv 5)]) (nL := 3) rfl rfl rfl ⟨IF.rf hI, trivial⟩ ?_
  refine T_ld zk_54_0 rfl rfl rfl (pc' := 1) rfl ?_
  refine T_calli (K := fun y1 σ' => (-2147483648 ≤ y1 ∧ y1 ≤ 2147483647) ∧ (fun σ' => IF MR σ σ' ∧ True) σ') (r := []) zk_54_1 rfl rfl rfl rfl rfl rfl (Or.inr ⟨_, _, _, _, rfl, vd_29, rfl⟩) (fun σ' h => (w_49   σ' h.1.1 ).le (Nat.le_of_ble_eq_true rfl) (fun v σ2 ⟨y, h1, h2, h3, h4⟩ => ⟨y, h1, h2, h.1.tr h3 MN_sub, trivial⟩)) (pc' := 4) rfl (fun y1 => ?_)
  refine G_ex (fun hy1 => ?_)
  refine T_op zk_54_4 rfl (X_bi (v := 33) (by decide)) (pc' := 6) rfl ?_
  refine T_icmp_eq zk_54_6 (by omega) (by omega) (pc' := 9) rfl (fun h2 => ?_) (fun h3 => ?_)
  ·
    refine T_ld zk_54_23 rfl rfl rfl (pc' := 24) rfl ?_
    refine T_op zk_54_24 rfl (X_bi (v := 20) (by decide)) (pc' := 26) rfl ?_
    refine T_icmp_lt zk_54_26 (by omega) (by omega) (pc' := 29) rfl (fun h4 => ?_) (fun h5 => ?_)
    ·
      refine T_ld zk_54_31 rfl rfl rfl (pc' := 32) rfl ?_
      refine T_op zk_54_32 rfl (X_bi (v := 40) (by decide)) (pc' := 34) rfl ?_
      refine T_calli (K := fun y6 σ' => (y6 = 0 ∨ y6 = 1) ∧ (fun σ' => IF MR σ σ' ∧ True) σ') (r := []) zk_54_34 rfl rfl rfl rfl rfl rfl (Or.inr ⟨_, _, _, _, rfl, vd_29, rfl⟩) (fun σ' h => (w_50 40 (by omega) σ' h.1.1 ).le (Nat.le_of_ble_eq_true rfl) (fun v σ2 ⟨y, h1, h2, h3, h4⟩ => ⟨y, h1, h2, h.1.tr h3 (fun _ _ _ _ h => h), trivial⟩)) (pc' := 37) rfl (fun y6 => ?_)
      refine G_ex (fun hy6 => ?_)
      refine T_if_eq zk_54_37 (by omega) (pc' := 40) rfl (fun h7 => ?_) (fun h8 => ?_)
      ·
        refine T_ld zk_54_65 rfl rfl rfl (pc' := 66) rfl ?_
        refine T_op (st' := [av 29 0 0, av 29 0 0]) zk_54_66 rfl rfl (pc' := 67) rfl ?_
        refine G_getf (lo := -2147483648) (hi := 2147483647) zk_54_67 rfl vd_29 (fun σ' h => h.1.1) (fun _ h => (by have q := h.1; omega)) (pc' := 70) rfl (fun y9 hy9 hy9' => ?_)
        refine T_op zk_54_70 rfl X_ic (pc' := 71) rfl ?_
        refine G_unk zk_54_71 rfl (pc' := 72) rfl (fun y10 hy10 hy10' => ?_)
        refine T_putf (J' := (fun σ' => IF MR σ σ' ∧ σ' 29 0 0 3 = y10 ∧ True)) zk_54_72 rfl rfl vd_29 (fun σ' h => ⟨h.1.up (by simp only [rgP] <;> omega) (by first | exact pMR rfl | (unfold MR; omega)), up_eq, trivial⟩) (pc' := 75) rfl ?_
        refine T_ld zk_54_75 rfl rfl rfl (pc' := 76) rfl ?_
        refine T_ld zk_54_76 rfl rfl rfl (pc' := 77) rfl ?_
        refine T_op zk_54_77 rfl X_ic (pc' := 78) rfl ?_
        refine T_opc (w := 6) zk_54_78 rfl X_add (by omega) (pc' := 79) rfl ?_
        refine T_calli (K := fun y11 σ' => (y11 = 0 ∨ y11 = 1) ∧ (fun σ' => IF MR σ σ' ∧ True) σ') (r := []) zk_54_79 rfl rfl rfl rfl rfl rfl (Or.inr ⟨_, _, _, _, rfl, vd_29, rfl⟩) (fun σ' h => (w_54_6   σ' h.1.1 ).le (Nat.le_of_ble_eq_true rfl) (fun v σ2 ⟨y, h1, h2, h3, h4⟩ => ⟨y, h1, h2, h.1.tr h3 (fun _ _ _ _ h => h), trivial⟩)) (pc' := 82) rfl (fun y11 => ?_)
        refine G_ex (fun hy11 => ?_)
        refine T_st (L' := [(0, av 29 0 0), (1, iv 5), (2, iv y11)]) zk_54_82 (nL := 3) rfl rfl rfl rfl rfl (pc' := 83) rfl ?_
        refine T_ld zk_54_83 rfl rfl rfl (pc' := 84) rfl ?_
        refine T_getR (t' := 30) (i' := 0) (k' := 0) zk_54_84 rfl rfl rfl vd_29 (pc' := 87) rfl ?_
        refine T_op zk_54_87 rfl X_ic (pc' := 88) rfl ?_
        refine T_callv (J' := (fun σ' => IF MR σ σ' ∧ True)) (r := []) zk_54_88 rfl rfl rfl rfl rfl rfl (Or.inr ⟨_, _, _, _, rfl, vd_30, rfl⟩) (fun σ' h => (w_42 ((-1)) (by omega) σ' h.1.1 ).le (Nat.le_of_ble_eq_true rfl) (fun v σ2 ⟨h1, h3, h4⟩ => ⟨h1, h.1.tr h3 (fun _ _ _ _ h => h), trivial⟩)) (pc' := 91) rfl ?_
        refine T_ld zk_54_91 rfl rfl rfl (pc' := 92) rfl ?_
        exact T_zret zk_54_92 rfl (by omega) (fun σ' h => ⟨_, rfl, (by omega), h.1, trivial⟩)
      ·
        refine T_ld zk_54_40 rfl rfl rfl (pc' := 41) rfl ?_
        refine T_ld zk_54_41 rfl rfl rfl (pc' := 42) rfl ?_
        refine T_op zk_54_42 rfl X_ic (pc' := 43) rfl ?_
        refine T_opc (w := 6) zk_54_43 rfl X_add (by omega) (pc' := 44) rfl ?_
        refine T_calli (K := fun y13 σ' => (y13 = 0 ∨ y13 = 1) ∧ (fun σ' => IF MR σ σ' ∧ True) σ') (r := []) zk_54_44 rfl rfl rfl rfl rfl rfl (Or.inr ⟨_, _, _, _, rfl, vd_29, rfl⟩) (fun σ' h => (w_52_6   σ' h.1.1 ).le (Nat.le_of_ble_eq_true rfl) (fun v σ2 ⟨y, h1, h2, h3, h4⟩ => ⟨y, h1, h2, h.1.tr h3 (fun _ _ _ _ h => h), trivial⟩)) (pc' := 47) rfl (fun y13 => ?_)
        refine G_ex (fun hy13 => ?_)
        refine T_if_eq zk_54_47 (by omega) (pc' := 50) rfl (fun h14 => ?_) (fun h15 => ?_)
        ·
          refine T_op zk_54_63 rfl X_ic (pc' := 64) rfl ?_
          exact T_zret zk_54_64 rfl (by omega) (fun σ' h => ⟨_, rfl, (by omega), h.1, trivial⟩)
        ·
          refine T_ld zk_54_50 rfl rfl rfl (pc' := 51) rfl ?_
          refine T_op zk_54_51 rfl (X_bi (v := 41) (by decide)) (pc' := 53) rfl ?_
          refine T_calli (K := fun y16 σ' => (y16 = 0 ∨ y16 = 1) ∧ (fun σ' => IF MR σ σ' ∧ True) σ') (r := []) zk_54_53 rfl rfl rfl rfl rfl rfl (Or.inr ⟨_, _, _, _, rfl, vd_29, rfl⟩) (fun σ' h => (w_50 41 (by omega) σ' h.1.1 ).le (Nat.le_of_ble_eq_true rfl) (fun v σ2 ⟨y, h1, h2, h3, h4⟩ => ⟨y, h1, h2, h.1.tr h3 (fun _ _ _ _ h => h), trivial⟩)) (pc' := 56) rfl (fun y16 => ?_)
          refine G_ex (fun hy16 => ?_)
          refine T_if_eq zk_54_56 (by omega) (pc' := 59) rfl (fun h17 => ?_) (fun h18 => ?_)
          ·
            refine T_op zk_54_63 rfl X_ic (pc' := 64) rfl ?_
            exact T_zret zk_54_64 rfl (by omega) (fun σ' h => ⟨_, rfl, (by omega), h.1, trivial⟩)
          ·
            refine T_op zk_54_59 rfl X_ic (pc' := 60) rfl ?_
            refine T_goto zk_54_60 ?_
            exact T_zret zk_54_64 rfl (by omega) (fun σ' h => ⟨_, rfl, (by omega), h.1, trivial⟩)
    · exfalso; omega
  ·
    refine T_ld zk_54_9 rfl rfl rfl (pc' := 10) rfl ?_
    refine T_calli (K := fun y19 σ' => (-2147483648 ≤ y19 ∧ y19 ≤ 2147483647) ∧ (fun σ' => IF MR σ σ' ∧ True) σ') (r := []) zk_54_10 rfl rfl rfl rfl rfl rfl (Or.inr ⟨_, _, _, _, rfl, vd_29, rfl⟩) (fun σ' h => (w_49   σ' h.1.1 ).le (Nat.le_of_ble_eq_true rfl) (fun v σ2 ⟨y, h1, h2, h3, h4⟩ => ⟨y, h1, h2, h.1.tr h3 MN_sub, trivial⟩)) (pc' := 13) rfl (fun y19 => ?_)
    refine G_ex (fun hy19 => ?_)
    refine T_op zk_54_13 rfl (X_bi (v := 40) (by decide)) (pc' := 15) rfl ?_
    refine T_icmp_eq zk_54_15 (by omega) (by omega) (pc' := 18) rfl (fun h20 => ?_) (fun h21 => ?_)
    ·
      refine T_ld zk_54_23 rfl rfl rfl (pc' := 24) rfl ?_
      refine T_op zk_54_24 rfl (X_bi (v := 20) (by decide)) (pc' := 26) rfl ?_
      refine T_icmp_lt zk_54_26 (by omega) (by omega) (pc' := 29) rfl (fun h22 => ?_) (fun h23 => ?_)
      ·
        refine T_ld zk_54_31 rfl rfl rfl (pc' := 32) rfl ?_
        refine T_op zk_54_32 rfl (X_bi (v := 40) (by decide)) (pc' := 34) rfl ?_
        refine T_calli (K := fun y24 σ' => (y24 = 0 ∨ y24 = 1) ∧ (fun σ' => IF MR σ σ' ∧ True) σ') (r := []) zk_54_34 rfl rfl rfl rfl rfl rfl (Or.inr ⟨_, _, _, _, rfl, vd_29, rfl⟩) (fun σ' h => (w_50 40 (by omega) σ' h.1.1 ).le (Nat.le_of_ble_eq_true rfl) (fun v σ2 ⟨y, h1, h2, h3, h4⟩ => ⟨y, h1, h2, h.1.tr h3 (fun _ _ _ _ h => h), trivial⟩)) (pc' := 37) rfl (fun y24 => ?_)
        refine G_ex (fun hy24 => ?_)
        refine T_if_eq zk_54_37 (by omega) (pc' := 40) rfl (fun h25 => ?_) (fun h26 => ?_)
        ·
          refine T_ld zk_54_65 rfl rfl rfl (pc' := 66) rfl ?_
          refine T_op (st' := [av 29 0 0, av 29 0 0]) zk_54_66 rfl rfl (pc' := 67) rfl ?_
          refine G_getf (lo := -2147483648) (hi := 2147483647) zk_54_67 rfl vd_29 (fun σ' h => h.1.1) (fun _ h => (by have q := h.1; omega)) (pc' := 70) rfl (fun y27 hy27 hy27' => ?_)
          refine T_op zk_54_70 rfl X_ic (pc' := 71) rfl ?_
          refine G_unk zk_54_71 rfl (pc' := 72) rfl (fun y28 hy28 hy28' => ?_)
          refine T_putf (J' := (fun σ' => IF MR σ σ' ∧ σ' 29 0 0 3 = y28 ∧ True)) zk_54_72 rfl rfl vd_29 (fun σ' h => ⟨h.1.up (by simp only [rgP] <;> omega) (by first | exact pMR rfl | (unfold MR; omega)), up_eq, trivial⟩) (pc' := 75) rfl ?_
          refine T_ld zk_54_75 rfl rfl rfl (pc' := 76) rfl ?_
          refine T_ld zk_54_76 rfl rfl rfl (pc' := 77) rfl ?_
          refine T_op zk_54_77 rfl X_ic (pc' := 78) rfl ?_
          refine T_opc (w := 6) zk_54_78 rfl X_add (by omega) (pc' := 79) rfl ?_
          refine T_calli (K := fun y29 σ' => (y29 = 0 ∨ y29 = 1) ∧ (fun σ' => IF MR σ σ' ∧ True) σ') (r := []) zk_54_79 rfl rfl rfl rfl rfl rfl (Or.inr ⟨_, _, _, _, rfl, vd_29, rfl⟩) (fun σ' h => (w_54_6   σ' h.1.1 ).le (Nat.le_of_ble_eq_true rfl) (fun v σ2 ⟨y, h1, h2, h3, h4⟩ => ⟨y, h1, h2, h.1.tr h3 (fun _ _ _ _ h => h), trivial⟩)) (pc' := 82) rfl (fun y29 => ?_)
          refine G_ex (fun hy29 => ?_)
          refine T_st (L' := [(0, av 29 0 0), (1, iv 5), (2, iv y29)]) zk_54_82 (nL := 3) rfl rfl rfl rfl rfl (pc' := 83) rfl ?_
          refine T_ld zk_54_83 rfl rfl rfl (pc' := 84) rfl ?_
          refine T_getR (t' := 30) (i' := 0) (k' := 0) zk_54_84 rfl rfl rfl vd_29 (pc' := 87) rfl ?_
          refine T_op zk_54_87 rfl X_ic (pc' := 88) rfl ?_
          refine T_callv (J' := (fun σ' => IF MR σ σ' ∧ True)) (r := []) zk_54_88 rfl rfl rfl rfl rfl rfl (Or.inr ⟨_, _, _, _, rfl, vd_30, rfl⟩) (fun σ' h => (w_42 ((-1)) (by omega) σ' h.1.1 ).le (Nat.le_of_ble_eq_true rfl) (fun v σ2 ⟨h1, h3, h4⟩ => ⟨h1, h.1.tr h3 (fun _ _ _ _ h => h), trivial⟩)) (pc' := 91) rfl ?_
          refine T_ld zk_54_91 rfl rfl rfl (pc' := 92) rfl ?_
          exact T_zret zk_54_92 rfl (by omega) (fun σ' h => ⟨_, rfl, (by omega), h.1, trivial⟩)
        ·
          refine T_ld zk_54_40 rfl rfl rfl (pc' := 41) rfl ?_
          refine T_ld zk_54_41 rfl rfl rfl (pc' := 42) rfl ?_
          refine T_op zk_54_42 rfl X_ic (pc' := 43) rfl ?_
          refine T_opc (w := 6) zk_54_43 rfl X_add (by omega) (pc' := 44) rfl ?_
          refine T_calli (K := fun y31 σ' => (y31 = 0 ∨ y31 = 1) ∧ (fun σ' => IF MR σ σ' ∧ True) σ') (r := []) zk_54_44 rfl rfl rfl rfl rfl rfl (Or.inr ⟨_, _, _, _, rfl, vd_29, rfl⟩) (fun σ' h => (w_52_6   σ' h.1.1 ).le (Nat.le_of_ble_eq_true rfl) (fun v σ2 ⟨y, h1, h2, h3, h4⟩ => ⟨y, h1, h2, h.1.tr h3 (fun _ _ _ _ h => h), trivial⟩)) (pc' := 47) rfl (fun y31 => ?_)
          refine G_ex (fun hy31 => ?_)
          refine T_if_eq zk_54_47 (by omega) (pc' := 50) rfl (fun h32 => ?_) (fun h33 => ?_)
          ·
            refine T_op zk_54_63 rfl X_ic (pc' := 64) rfl ?_
            exact T_zret zk_54_64 rfl (by omega) (fun σ' h => ⟨_, rfl, (by omega), h.1, trivial⟩)
          ·
            refine T_ld zk_54_50 rfl rfl rfl (pc' := 51) rfl ?_
            refine T_op zk_54_51 rfl (X_bi (v := 41) (by decide)) (pc' := 53) rfl ?_
            refine T_calli (K := fun y34 σ' => (y34 = 0 ∨ y34 = 1) ∧ (fun σ' => IF MR σ σ' ∧ True) σ') (r := []) zk_54_53 rfl rfl rfl rfl rfl rfl (Or.inr ⟨_, _, _, _, rfl, vd_29, rfl⟩) (fun σ' h => (w_50 41 (by omega) σ' h.1.1 ).le (Nat.le_of_ble_eq_true rfl) (fun v σ2 ⟨y, h1, h2, h3, h4⟩ => ⟨y, h1, h2, h.1.tr h3 (fun _ _ _ _ h => h), trivial⟩)) (pc' := 56) rfl (fun y34 => ?_)
            refine G_ex (fun hy34 => ?_)
            refine T_if_eq zk_54_56 (by omega) (pc' := 59) rfl (fun h35 => ?_) (fun h36 => ?_)
            ·
              refine T_op zk_54_63 rfl X_ic (pc' := 64) rfl ?_
              exact T_zret zk_54_64 rfl (by omega) (fun σ' h => ⟨_, rfl, (by omega), h.1, trivial⟩)
            ·
              refine T_op zk_54_59 rfl X_ic (pc' := 60) rfl ?_
              refine T_goto zk_54_60 ?_
              exact T_zret zk_54_64 rfl (by omega) (fun σ' h => ⟨_, rfl, (by omega), h.1, trivial⟩)
      · exfalso; omega
    ·
      refine T_ld zk_54_18 rfl rfl rfl (pc' := 19) rfl ?_
      refine T_calli (K := fun y37 σ' => (y37 = 0 ∨ y37 = 1) ∧ (fun σ' => IF MR σ σ' ∧ True) σ') (r := []) zk_54_19 rfl rfl rfl rfl rfl rfl (Or.inr ⟨_, _, _, _, rfl, vd_29, rfl⟩) (fun σ' h => (w_55   σ' h.1.1 ).le (Nat.le_of_ble_eq_true rfl) (fun v σ2 ⟨y, h1, h2, h3, h4⟩ => ⟨y, h1, h2, h.1.tr h3 (fun _ _ _ _ h => h), trivial⟩)) (pc' := 22) rfl (fun y37 => ?_)
      refine G_ex (fun hy37 => ?_)
      exact T_zret zk_54_22 rfl (by omega) (fun σ' h => ⟨_, rfl, (by omega), h.1, trivial⟩)
/-- W$LawReader.readBoth -/
theorem w_53_5 {xs : Nat × (Nat → Int32)}   (σ : ZS) (hI : Inv σ)   : CT xs 50 53 [av 29 0 0, iv 5] σ (fun v σ' => ∃ y, v = some (iv y) ∧ (y = 0 ∨ y = 1) ∧ IF MR σ σ' ∧ (True)) := by
  refine G_ct (J := (fun σ' => IF MR σ σ' ∧ True)) (L := [(0, av 29 0 0), (1, iv 5)]) (nL := 4) rfl rfl rfl ⟨IF.rf hI, trivial⟩ ?_
  refine T_ld zk_53_0 rfl rfl rfl (pc' := 1) rfl ?_
  refine T_ld zk_53_1 rfl rfl rfl (pc' := 2) rfl ?_
  refine T_calli (K := fun y1 σ' => (y1 = 0 ∨ y1 = 1) ∧ (fun σ' => IF MR σ σ' ∧ True) σ') (r := []) zk_53_2 rfl rfl rfl rfl rfl rfl (Or.inr ⟨_, _, _, _, rfl, vd_29, rfl⟩) (fun σ' h => (w_54_5   σ' h.1.1 ).le (Nat.le_of_ble_eq_true rfl) (fun v σ2 ⟨y, h1, h2, h3, h4⟩ => ⟨y, h1, h2, h.1.tr h3 (fun _ _ _ _ h => h), trivial⟩)) (pc' := 5) rfl (fun y1 => ?_)
  refine G_ex (fun hy1 => ?_)
  refine T_st (L' := [(0, av 29 0 0), (1, iv 5), (2, iv y1)]) zk_53_5 (nL := 4) rfl rfl rfl rfl rfl (pc' := 6) rfl ?_
  refine T_op zk_53_6 rfl X_ic (pc' := 7) rfl ?_
  refine T_st (L' := [(0, av 29 0 0), (1, iv 5), (2, iv y1), (3, iv 0)]) zk_53_7 (nL := 4) rfl rfl rfl rfl rfl (pc' := 8) rfl ?_
  refine T_loop2 (fun x2 x3 => ((96 - x3 : Int)).toNat) (fun x2 x3 => (0 ≤ x2 ∧ x2 ≤ 1) ∧ (0 ≤ x3 ∧ x3 ≤ 96)) (fun x2 x3 => TJ xs (fun σ' => IF MR σ σ' ∧ True) 49 53 8 [(0, av 29 0 0), (1, iv 5), (2, iv x2), (3, iv x3)] [] _) ?_ y1 0 (by omega)
  intro x2 x3 hp5 ih4
  refine T_ld zk_53_8 rfl rfl rfl (pc' := 9) rfl ?_
  refine T_op zk_53_9 rfl (X_bi (v := 96) (by decide)) (pc' := 11) rfl ?_
  refine T_icmp_ge zk_53_11 (by omega) (by omega) (pc' := 14) rfl (fun h6 => ?_) (fun h7 => ?_)
  ·
    refine T_ld zk_53_48 rfl rfl rfl (pc' := 49) rfl ?_
    exact T_zret zk_53_49 rfl (by omega) (fun σ' h => ⟨_, rfl, (by omega), h.1, trivial⟩)
  ·
    refine T_ld zk_53_14 rfl rfl rfl (pc' := 15) rfl ?_
    refine T_if_eq zk_53_15 (by omega) (pc' := 18) rfl (fun h8 => ?_) (fun h9 => ?_)
    ·
      refine T_ld zk_53_48 rfl rfl rfl (pc' := 49) rfl ?_
      exact T_zret zk_53_49 rfl (by omega) (fun σ' h => ⟨_, rfl, (by omega), h.1, trivial⟩)
    ·
      refine T_ld zk_53_18 rfl rfl rfl (pc' := 19) rfl ?_
      refine T_op zk_53_19 rfl (X_bi (v := 38) (by decide)) (pc' := 21) rfl ?_
      refine T_calli (K := fun y10 σ' => (y10 = 0 ∨ y10 = 1) ∧ (fun σ' => IF MR σ σ' ∧ True) σ') (r := []) zk_53_21 rfl rfl rfl rfl rfl rfl (Or.inr ⟨_, _, _, _, rfl, vd_29, rfl⟩) (fun σ' h => (w_50 38 (by omega) σ' h.1.1 ).le (Nat.le_of_ble_eq_true rfl) (fun v σ2 ⟨y, h1, h2, h3, h4⟩ => ⟨y, h1, h2, h.1.tr h3 (fun _ _ _ _ h => h), trivial⟩)) (pc' := 24) rfl (fun y10 => ?_)
      refine G_ex (fun hy10 => ?_)
      refine T_if_eq zk_53_24 (by omega) (pc' := 27) rfl (fun h11 => ?_) (fun h12 => ?_)
      ·
        refine T_ld zk_53_48 rfl rfl rfl (pc' := 49) rfl ?_
        exact T_zret zk_53_49 rfl (by omega) (fun σ' h => ⟨_, rfl, (by omega), h.1, trivial⟩)
      ·
        refine T_ld zk_53_27 rfl rfl rfl (pc' := 28) rfl ?_
        refine T_ld zk_53_28 rfl rfl rfl (pc' := 29) rfl ?_
        refine T_calli (K := fun y13 σ' => (y13 = 0 ∨ y13 = 1) ∧ (fun σ' => IF MR σ σ' ∧ True) σ') (r := []) zk_53_29 rfl rfl rfl rfl rfl rfl (Or.inr ⟨_, _, _, _, rfl, vd_29, rfl⟩) (fun σ' h => (w_54_5   σ' h.1.1 ).le (Nat.le_of_ble_eq_true rfl) (fun v σ2 ⟨y, h1, h2, h3, h4⟩ => ⟨y, h1, h2, h.1.tr h3 (fun _ _ _ _ h => h), trivial⟩)) (pc' := 32) rfl (fun y13 => ?_)
        refine G_ex (fun hy13 => ?_)
        refine T_st (L' := [(0, av 29 0 0), (1, iv 5), (2, iv y13), (3, iv x3)]) zk_53_32 (nL := 4) rfl rfl rfl rfl rfl (pc' := 33) rfl ?_
        refine T_ld zk_53_33 rfl rfl rfl (pc' := 34) rfl ?_
        refine T_getR (t' := 30) (i' := 0) (k' := 0) zk_53_34 rfl rfl rfl vd_29 (pc' := 37) rfl ?_
        refine T_op zk_53_37 rfl (X_bi (v := -2) (by decide)) (pc' := 39) rfl ?_
        refine T_callv (J' := (fun σ' => IF MR σ σ' ∧ True)) (r := []) zk_53_39 rfl rfl rfl rfl rfl rfl (Or.inr ⟨_, _, _, _, rfl, vd_30, rfl⟩) (fun σ' h => (w_42 ((-2)) (by omega) σ' h.1.1 ).le (Nat.le_of_ble_eq_true rfl) (fun v σ2 ⟨h1, h3, h4⟩ => ⟨h1, h.1.tr h3 (fun _ _ _ _ h => h), trivial⟩)) (pc' := 42) rfl ?_
        refine T_iinc (L' := [(0, av 29 0 0), (1, iv 5), (2, iv y13), (3, iv (x3 + 1))]) zk_53_42 (nL := 4) rfl rfl rfl rfl (pc' := 45) rfl ?_
        refine T_goto zk_53_45 ?_
        exact ih4 y13 (x3 + 1) (by omega) (by omega)
/-- W$LawReader.readEither -/
theorem w_52_5 {xs : Nat × (Nat → Int32)}   (σ : ZS) (hI : Inv σ)   : CT xs 51 52 [av 29 0 0, iv 5] σ (fun v σ' => ∃ y, v = some (iv y) ∧ (y = 0 ∨ y = 1) ∧ IF MR σ σ' ∧ (True)) := by
  refine G_ct (J := (fun σ' => IF MR σ σ' ∧ True)) (L := [(0, av 29 0 0), (1, iv 5)]) (nL := 4) rfl rfl rfl ⟨IF.rf hI, trivial⟩ ?_
  refine T_ld zk_52_0 rfl rfl rfl (pc' := 1) rfl ?_
  refine T_ld zk_52_1 rfl rfl rfl (pc' := 2) rfl ?_
  refine T_calli (K := fun y1 σ' => (y1 = 0 ∨ y1 = 1) ∧ (fun σ' => IF MR σ σ' ∧ True) σ') (r := []) zk_52_2 rfl rfl rfl rfl rfl rfl (Or.inr ⟨_, _, _, _, rfl, vd_29, rfl⟩) (fun σ' h => (w_53_5   σ' h.1.1 ).le (Nat.le_of_ble_eq_true rfl) (fun v σ2 ⟨y, h1, h2, h3, h4⟩ => ⟨y, h1, h2, h.1.tr h3 (fun _ _ _ _ h => h), trivial⟩)) (pc' := 5) rfl (fun y1 => ?_)
  refine G_ex (fun hy1 => ?_)
  refine T_st (L' := [(0, av 29 0 0), (1, iv 5), (2, iv y1)]) zk_52_5 (nL := 4) rfl rfl rfl rfl rfl (pc' := 6) rfl ?_
  refine T_op zk_52_6 rfl X_ic (pc' := 7) rfl ?_
  refine T_st (L' := [(0, av 29 0 0), (1, iv 5), (2, iv y1), (3, iv 0)]) zk_52_7 (nL := 4) rfl rfl rfl rfl rfl (pc' := 8) rfl ?_
  refine T_loop2 (fun x2 x3 => ((96 - x3 : Int)).toNat) (fun x2 x3 => (0 ≤ x2 ∧ x2 ≤ 1) ∧ (0 ≤ x3 ∧ x3 ≤ 96)) (fun x2 x3 => TJ xs (fun σ' => IF MR σ σ' ∧ True) 50 52 8 [(0, av 29 0 0), (1, iv 5), (2, iv x2), (3, iv x3)] [] _) ?_ y1 0 (by omega)
  intro x2 x3 hp5 ih4
  refine T_ld zk_52_8 rfl rfl rfl (pc' := 9) rfl ?_
  refine T_op zk_52_9 rfl (X_bi (v := 96) (by decide)) (pc' := 11) rfl ?_
  refine T_icmp_ge zk_52_11 (by omega) (by omega) (pc' := 14) rfl (fun h6 => ?_) (fun h7 => ?_)
  ·
    refine T_ld zk_52_48 rfl rfl rfl (pc' := 49) rfl ?_
    exact T_zret zk_52_49 rfl (by omega) (fun σ' h => ⟨_, rfl, (by omega), h.1, trivial⟩)
  ·
    refine T_ld zk_52_14 rfl rfl rfl (pc' := 15) rfl ?_
    refine T_if_eq zk_52_15 (by omega) (pc' := 18) rfl (fun h8 => ?_) (fun h9 => ?_)
    ·
      refine T_ld zk_52_48 rfl rfl rfl (pc' := 49) rfl ?_
      exact T_zret zk_52_49 rfl (by omega) (fun σ' h => ⟨_, rfl, (by omega), h.1, trivial⟩)
    ·
      refine T_ld zk_52_18 rfl rfl rfl (pc' := 19) rfl ?_
      refine T_op zk_52_19 rfl (X_bi (v := 124) (by decide)) (pc' := 21) rfl ?_
      refine T_calli (K := fun y10 σ' => (y10 = 0 ∨ y10 = 1) ∧ (fun σ' => IF MR σ σ' ∧ True) σ') (r := []) zk_52_21 rfl rfl rfl rfl rfl rfl (Or.inr ⟨_, _, _, _, rfl, vd_29, rfl⟩) (fun σ' h => (w_50 124 (by omega) σ' h.1.1 ).le (Nat.le_of_ble_eq_true rfl) (fun v σ2 ⟨y, h1, h2, h3, h4⟩ => ⟨y, h1, h2, h.1.tr h3 (fun _ _ _ _ h => h), trivial⟩)) (pc' := 24) rfl (fun y10 => ?_)
      refine G_ex (fun hy10 => ?_)
      refine T_if_eq zk_52_24 (by omega) (pc' := 27) rfl (fun h11 => ?_) (fun h12 => ?_)
      ·
        refine T_ld zk_52_48 rfl rfl rfl (pc' := 49) rfl ?_
        exact T_zret zk_52_49 rfl (by omega) (fun σ' h => ⟨_, rfl, (by omega), h.1, trivial⟩)
      ·
        refine T_ld zk_52_27 rfl rfl rfl (pc' := 28) rfl ?_
        refine T_ld zk_52_28 rfl rfl rfl (pc' := 29) rfl ?_
        refine T_calli (K := fun y13 σ' => (y13 = 0 ∨ y13 = 1) ∧ (fun σ' => IF MR σ σ' ∧ True) σ') (r := []) zk_52_29 rfl rfl rfl rfl rfl rfl (Or.inr ⟨_, _, _, _, rfl, vd_29, rfl⟩) (fun σ' h => (w_53_5   σ' h.1.1 ).le (Nat.le_of_ble_eq_true rfl) (fun v σ2 ⟨y, h1, h2, h3, h4⟩ => ⟨y, h1, h2, h.1.tr h3 (fun _ _ _ _ h => h), trivial⟩)) (pc' := 32) rfl (fun y13 => ?_)
        refine G_ex (fun hy13 => ?_)
        refine T_st (L' := [(0, av 29 0 0), (1, iv 5), (2, iv y13), (3, iv x3)]) zk_52_32 (nL := 4) rfl rfl rfl rfl rfl (pc' := 33) rfl ?_
        refine T_ld zk_52_33 rfl rfl rfl (pc' := 34) rfl ?_
        refine T_getR (t' := 30) (i' := 0) (k' := 0) zk_52_34 rfl rfl rfl vd_29 (pc' := 37) rfl ?_
        refine T_op zk_52_37 rfl (X_bi (v := -3) (by decide)) (pc' := 39) rfl ?_
        refine T_callv (J' := (fun σ' => IF MR σ σ' ∧ True)) (r := []) zk_52_39 rfl rfl rfl rfl rfl rfl (Or.inr ⟨_, _, _, _, rfl, vd_30, rfl⟩) (fun σ' h => (w_42 ((-3)) (by omega) σ' h.1.1 ).le (Nat.le_of_ble_eq_true rfl) (fun v σ2 ⟨h1, h3, h4⟩ => ⟨h1, h.1.tr h3 (fun _ _ _ _ h => h), trivial⟩)) (pc' := 42) rfl ?_
        refine T_iinc (L' := [(0, av 29 0 0), (1, iv 5), (2, iv y13), (3, iv (x3 + 1))]) zk_52_42 (nL := 4) rfl rfl rfl rfl (pc' := 45) rfl ?_
        refine T_goto zk_52_45 ?_
        exact ih4 y13 (x3 + 1) (by omega) (by omega)
/-- W$LawReader.readPart -/
theorem w_54_4 {xs : Nat × (Nat → Int32)}   (σ : ZS) (hI : Inv σ)   : CT xs 52 54 [av 29 0 0, iv 4] σ (fun v σ' => ∃ y, v = some (iv y) ∧ (y = 0 ∨ y = 1) ∧ IF MR σ σ' ∧ (True)) := by
  refine G_ct (J := (fun σ' => IF MR σ σ' ∧ True)) (L := [(0, av 29 0 0), (1, iv 4)]) (nL := 3) rfl rfl rfl ⟨IF.rf hI, trivial⟩ ?_
  refine T_ld zk_54_0 rfl rfl rfl (pc' := 1) rfl ?_
  refine T_calli (K := fun y1 σ' => (-2147483648 ≤ y1 ∧ y1 ≤ 2147483647) ∧ (fun σ' => IF MR σ σ' ∧ True) σ') (r := []) zk_54_1 rfl rfl rfl rfl rfl rfl (Or.inr ⟨_, _, _, _, rfl, vd_29, rfl⟩) (fun σ' h => (w_49   σ' h.1.1 ).le (Nat.le_of_ble_eq_true rfl) (fun v σ2 ⟨y, h1, h2, h3, h4⟩ => ⟨y, h1, h2, h.1.tr h3 MN_sub, trivial⟩)) (pc' := 4) rfl (fun y1 => ?_)
  refine G_ex (fun hy1 => ?_)
  refine T_op zk_54_4 rfl (X_bi (v := 33) (by decide)) (pc' := 6) rfl ?_
  refine T_icmp_eq zk_54_6 (by omega) (by omega) (pc' := 9) rfl (fun h2 => ?_) (fun h3 => ?_)
  ·
    refine T_ld zk_54_23 rfl rfl rfl (pc' := 24) rfl ?_
    refine T_op zk_54_24 rfl (X_bi (v := 20) (by decide)) (pc' := 26) rfl ?_
    refine T_icmp_lt zk_54_26 (by omega) (by omega) (pc' := 29) rfl (fun h4 => ?_) (fun h5 => ?_)
    ·
      refine T_ld zk_54_31 rfl rfl rfl (pc' := 32) rfl ?_
      refine T_op zk_54_32 rfl (X_bi (v := 40) (by decide)) (pc' := 34) rfl ?_
      refine T_calli (K := fun y6 σ' => (y6 = 0 ∨ y6 = 1) ∧ (fun σ' => IF MR σ σ' ∧ True) σ') (r := []) zk_54_34 rfl rfl rfl rfl rfl rfl (Or.inr ⟨_, _, _, _, rfl, vd_29, rfl⟩) (fun σ' h => (w_50 40 (by omega) σ' h.1.1 ).le (Nat.le_of_ble_eq_true rfl) (fun v σ2 ⟨y, h1, h2, h3, h4⟩ => ⟨y, h1, h2, h.1.tr h3 (fun _ _ _ _ h => h), trivial⟩)) (pc' := 37) rfl (fun y6 => ?_)
      refine G_ex (fun hy6 => ?_)
      refine T_if_eq zk_54_37 (by omega) (pc' := 40) rfl (fun h7 => ?_) (fun h8 => ?_)
      ·
        refine T_ld zk_54_65 rfl rfl rfl (pc' := 66) rfl ?_
        refine T_op (st' := [av 29 0 0, av 29 0 0]) zk_54_66 rfl rfl (pc' := 67) rfl ?_
        refine G_getf (lo := -2147483648) (hi := 2147483647) zk_54_67 rfl vd_29 (fun σ' h => h.1.1) (fun _ h => (by have q := h.1; omega)) (pc' := 70) rfl (fun y9 hy9 hy9' => ?_)
        refine T_op zk_54_70 rfl X_ic (pc' := 71) rfl ?_
        refine G_unk zk_54_71 rfl (pc' := 72) rfl (fun y10 hy10 hy10' => ?_)
        refine T_putf (J' := (fun σ' => IF MR σ σ' ∧ σ' 29 0 0 3 = y10 ∧ True)) zk_54_72 rfl rfl vd_29 (fun σ' h => ⟨h.1.up (by simp only [rgP] <;> omega) (by first | exact pMR rfl | (unfold MR; omega)), up_eq, trivial⟩) (pc' := 75) rfl ?_
        refine T_ld zk_54_75 rfl rfl rfl (pc' := 76) rfl ?_
        refine T_ld zk_54_76 rfl rfl rfl (pc' := 77) rfl ?_
        refine T_op zk_54_77 rfl X_ic (pc' := 78) rfl ?_
        refine T_opc (w := 5) zk_54_78 rfl X_add (by omega) (pc' := 79) rfl ?_
        refine T_calli (K := fun y11 σ' => (y11 = 0 ∨ y11 = 1) ∧ (fun σ' => IF MR σ σ' ∧ True) σ') (r := []) zk_54_79 rfl rfl rfl rfl rfl rfl (Or.inr ⟨_, _, _, _, rfl, vd_29, rfl⟩) (fun σ' h => (w_54_5   σ' h.1.1 ).le (Nat.le_of_ble_eq_true rfl) (fun v σ2 ⟨y, h1, h2, h3, h4⟩ => ⟨y, h1, h2, h.1.tr h3 (fun _ _ _ _ h => h), trivial⟩)) (pc' := 82) rfl (fun y11 => ?_)
        refine G_ex (fun hy11 => ?_)
        refine T_st (L' := [(0, av 29 0 0), (1, iv 4), (2, iv y11)]) zk_54_82 (nL := 3) rfl rfl rfl rfl rfl (pc' := 83) rfl ?_
        refine T_ld zk_54_83 rfl rfl rfl (pc' := 84) rfl ?_
        refine T_getR (t' := 30) (i' := 0) (k' := 0) zk_54_84 rfl rfl rfl vd_29 (pc' := 87) rfl ?_
        refine T_op zk_54_87 rfl X_ic (pc' := 88) rfl ?_
        refine T_callv (J' := (fun σ' => IF MR σ σ' ∧ True)) (r := []) zk_54_88 rfl rfl rfl rfl rfl rfl (Or.inr ⟨_, _, _, _, rfl, vd_30, rfl⟩) (fun σ' h => (w_42 ((-1)) (by omega) σ' h.1.1 ).le (Nat.le_of_ble_eq_true rfl) (fun v σ2 ⟨h1, h3, h4⟩ => ⟨h1, h.1.tr h3 (fun _ _ _ _ h => h), trivial⟩)) (pc' := 91) rfl ?_
        refine T_ld zk_54_91 rfl rfl rfl (pc' := 92) rfl ?_
        exact T_zret zk_54_92 rfl (by omega) (fun σ' h => ⟨_, rfl, (by omega), h.1, trivial⟩)
      ·
        refine T_ld zk_54_40 rfl rfl rfl (pc' := 41) rfl ?_
        refine T_ld zk_54_41 rfl rfl rfl (pc' := 42) rfl ?_
        refine T_op zk_54_42 rfl X_ic (pc' := 43) rfl ?_
        refine T_opc (w := 5) zk_54_43 rfl X_add (by omega) (pc' := 44) rfl ?_
        refine T_calli (K := fun y13 σ' => (y13 = 0 ∨ y13 = 1) ∧ (fun σ' => IF MR σ σ' ∧ True) σ') (r := []) zk_54_44 rfl rfl rfl rfl rfl rfl (Or.inr ⟨_, _, _, _, rfl, vd_29, rfl⟩) (fun σ' h => (w_52_5   σ' h.1.1 ).le (Nat.le_of_ble_eq_true rfl) (fun v σ2 ⟨y, h1, h2, h3, h4⟩ => ⟨y, h1, h2, h.1.tr h3 (fun _ _ _ _ h => h), trivial⟩)) (pc' := 47) rfl (fun y13 => ?_)
        refine G_ex (fun hy13 => ?_)
        refine T_if_eq zk_54_47 (by omega) (pc' := 50) rfl (fun h14 => ?_) (fun h15 => ?_)
        ·
          refine T_op zk_54_63 rfl X_ic (pc' := 64) rfl ?_
          exact T_zret zk_54_64 rfl (by omega) (fun σ' h => ⟨_, rfl, (by omega), h.1, trivial⟩)
        ·
          refine T_ld zk_54_50 rfl rfl rfl (pc' := 51) rfl ?_
          refine T_op zk_54_51 rfl (X_bi (v := 41) (by decide)) (pc' := 53) rfl ?_
          refine T_calli (K := fun y16 σ' => (y16 = 0 ∨ y16 = 1) ∧ (fun σ' => IF MR σ σ' ∧ True) σ') (r := []) zk_54_53 rfl rfl rfl rfl rfl rfl (Or.inr ⟨_, _, _, _, rfl, vd_29, rfl⟩) (fun σ' h => (w_50 41 (by omega) σ' h.1.1 ).le (Nat.le_of_ble_eq_true rfl) (fun v σ2 ⟨y, h1, h2, h3, h4⟩ => ⟨y, h1, h2, h.1.tr h3 (fun _ _ _ _ h => h), trivial⟩)) (pc' := 56) rfl (fun y16 => ?_)
          refine G_ex (fun hy16 => ?_)
          refine T_if_eq zk_54_56 (by omega) (pc' := 59) rfl (fun h17 => ?_) (fun h18 => ?_)
          ·
            refine T_op zk_54_63 rfl X_ic (pc' := 64) rfl ?_
            exact T_zret zk_54_64 rfl (by omega) (fun σ' h => ⟨_, rfl, (by omega), h.1, trivial⟩)
          ·
            refine T_op zk_54_59 rfl X_ic (pc' := 60) rfl ?_
            refine T_goto zk_54_60 ?_
            exact T_zret zk_54_64 rfl (by omega) (fun σ' h => ⟨_, rfl, (by omega), h.1, trivial⟩)
    · exfalso; omega
  ·
    refine T_ld zk_54_9 rfl rfl rfl (pc' := 10) rfl ?_
    refine T_calli (K := fun y19 σ' => (-2147483648 ≤ y19 ∧ y19 ≤ 2147483647) ∧ (fun σ' => IF MR σ σ' ∧ True) σ') (r := []) zk_54_10 rfl rfl rfl rfl rfl rfl (Or.inr ⟨_, _, _, _, rfl, vd_29, rfl⟩) (fun σ' h => (w_49   σ' h.1.1 ).le (Nat.le_of_ble_eq_true rfl) (fun v σ2 ⟨y, h1, h2, h3, h4⟩ => ⟨y, h1, h2, h.1.tr h3 MN_sub, trivial⟩)) (pc' := 13) rfl (fun y19 => ?_)
    refine G_ex (fun hy19 => ?_)
    refine T_op zk_54_13 rfl (X_bi (v := 40) (by decide)) (pc' := 15) rfl ?_
    refine T_icmp_eq zk_54_15 (by omega) (by omega) (pc' := 18) rfl (fun h20 => ?_) (fun h21 => ?_)
    ·
      refine T_ld zk_54_23 rfl rfl rfl (pc' := 24) rfl ?_
      refine T_op zk_54_24 rfl (X_bi (v := 20) (by decide)) (pc' := 26) rfl ?_
      refine T_icmp_lt zk_54_26 (by omega) (by omega) (pc' := 29) rfl (fun h22 => ?_) (fun h23 => ?_)
      ·
        refine T_ld zk_54_31 rfl rfl rfl (pc' := 32) rfl ?_
        refine T_op zk_54_32 rfl (X_bi (v := 40) (by decide)) (pc' := 34) rfl ?_
        refine T_calli (K := fun y24 σ' => (y24 = 0 ∨ y24 = 1) ∧ (fun σ' => IF MR σ σ' ∧ True) σ') (r := []) zk_54_34 rfl rfl rfl rfl rfl rfl (Or.inr ⟨_, _, _, _, rfl, vd_29, rfl⟩) (fun σ' h => (w_50 40 (by omega) σ' h.1.1 ).le (Nat.le_of_ble_eq_true rfl) (fun v σ2 ⟨y, h1, h2, h3, h4⟩ => ⟨y, h1, h2, h.1.tr h3 (fun _ _ _ _ h => h), trivial⟩)) (pc' := 37) rfl (fun y24 => ?_)
        refine G_ex (fun hy24 => ?_)
        refine T_if_eq zk_54_37 (by omega) (pc' := 40) rfl (fun h25 => ?_) (fun h26 => ?_)
        ·
          refine T_ld zk_54_65 rfl rfl rfl (pc' := 66) rfl ?_
          refine T_op (st' := [av 29 0 0, av 29 0 0]) zk_54_66 rfl rfl (pc' := 67) rfl ?_
          refine G_getf (lo := -2147483648) (hi := 2147483647) zk_54_67 rfl vd_29 (fun σ' h => h.1.1) (fun _ h => (by have q := h.1; omega)) (pc' := 70) rfl (fun y27 hy27 hy27' => ?_)
          refine T_op zk_54_70 rfl X_ic (pc' := 71) rfl ?_
          refine G_unk zk_54_71 rfl (pc' := 72) rfl (fun y28 hy28 hy28' => ?_)
          refine T_putf (J' := (fun σ' => IF MR σ σ' ∧ σ' 29 0 0 3 = y28 ∧ True)) zk_54_72 rfl rfl vd_29 (fun σ' h => ⟨h.1.up (by simp only [rgP] <;> omega) (by first | exact pMR rfl | (unfold MR; omega)), up_eq, trivial⟩) (pc' := 75) rfl ?_
          refine T_ld zk_54_75 rfl rfl rfl (pc' := 76) rfl ?_
          refine T_ld zk_54_76 rfl rfl rfl (pc' := 77) rfl ?_
          refine T_op zk_54_77 rfl X_ic (pc' := 78) rfl ?_
          refine T_opc (w := 5) zk_54_78 rfl X_add (by omega) (pc' := 79) rfl ?_
          refine T_calli (K := fun y29 σ' => (y29 = 0 ∨ y29 = 1) ∧ (fun σ' => IF MR σ σ' ∧ True) σ') (r := []) zk_54_79 rfl rfl rfl rfl rfl rfl (Or.inr ⟨_, _, _, _, rfl, vd_29, rfl⟩) (fun σ' h => (w_54_5   σ' h.1.1 ).le (Nat.le_of_ble_eq_true rfl) (fun v σ2 ⟨y, h1, h2, h3, h4⟩ => ⟨y, h1, h2, h.1.tr h3 (fun _ _ _ _ h => h), trivial⟩)) (pc' := 82) rfl (fun y29 => ?_)
          refine G_ex (fun hy29 => ?_)
          refine T_st (L' := [(0, av 29 0 0), (1, iv 4), (2, iv y29)]) zk_54_82 (nL := 3) rfl rfl rfl rfl rfl (pc' := 83) rfl ?_
          refine T_ld zk_54_83 rfl rfl rfl (pc' := 84) rfl ?_
          refine T_getR (t' := 30) (i' := 0) (k' := 0) zk_54_84 rfl rfl rfl vd_29 (pc' := 87) rfl ?_
          refine T_op zk_54_87 rfl X_ic (pc' := 88) rfl ?_
          refine T_callv (J' := (fun σ' => IF MR σ σ' ∧ True)) (r := []) zk_54_88 rfl rfl rfl rfl rfl rfl (Or.inr ⟨_, _, _, _, rfl, vd_30, rfl⟩) (fun σ' h => (w_42 ((-1)) (by omega) σ' h.1.1 ).le (Nat.le_of_ble_eq_true rfl) (fun v σ2 ⟨h1, h3, h4⟩ => ⟨h1, h.1.tr h3 (fun _ _ _ _ h => h), trivial⟩)) (pc' := 91) rfl ?_
          refine T_ld zk_54_91 rfl rfl rfl (pc' := 92) rfl ?_
          exact T_zret zk_54_92 rfl (by omega) (fun σ' h => ⟨_, rfl, (by omega), h.1, trivial⟩)
        ·
          refine T_ld zk_54_40 rfl rfl rfl (pc' := 41) rfl ?_
          refine T_ld zk_54_41 rfl rfl rfl (pc' := 42) rfl ?_
          refine T_op zk_54_42 rfl X_ic (pc' := 43) rfl ?_
          refine T_opc (w := 5) zk_54_43 rfl X_add (by omega) (pc' := 44) rfl ?_
          refine T_calli (K := fun y31 σ' => (y31 = 0 ∨ y31 = 1) ∧ (fun σ' => IF MR σ σ' ∧ True) σ') (r := []) zk_54_44 rfl rfl rfl rfl rfl rfl (Or.inr ⟨_, _, _, _, rfl, vd_29, rfl⟩) (fun σ' h => (w_52_5   σ' h.1.1 ).le (Nat.le_of_ble_eq_true rfl) (fun v σ2 ⟨y, h1, h2, h3, h4⟩ => ⟨y, h1, h2, h.1.tr h3 (fun _ _ _ _ h => h), trivial⟩)) (pc' := 47) rfl (fun y31 => ?_)
          refine G_ex (fun hy31 => ?_)
          refine T_if_eq zk_54_47 (by omega) (pc' := 50) rfl (fun h32 => ?_) (fun h33 => ?_)
          ·
            refine T_op zk_54_63 rfl X_ic (pc' := 64) rfl ?_
            exact T_zret zk_54_64 rfl (by omega) (fun σ' h => ⟨_, rfl, (by omega), h.1, trivial⟩)
          ·
            refine T_ld zk_54_50 rfl rfl rfl (pc' := 51) rfl ?_
            refine T_op zk_54_51 rfl (X_bi (v := 41) (by decide)) (pc' := 53) rfl ?_
            refine T_calli (K := fun y34 σ' => (y34 = 0 ∨ y34 = 1) ∧ (fun σ' => IF MR σ σ' ∧ True) σ') (r := []) zk_54_53 rfl rfl rfl rfl rfl rfl (Or.inr ⟨_, _, _, _, rfl, vd_29, rfl⟩) (fun σ' h => (w_50 41 (by omega) σ' h.1.1 ).le (Nat.le_of_ble_eq_true rfl) (fun v σ2 ⟨y, h1, h2, h3, h4⟩ => ⟨y, h1, h2, h.1.tr h3 (fun _ _ _ _ h => h), trivial⟩)) (pc' := 56) rfl (fun y34 => ?_)
            refine G_ex (fun hy34 => ?_)
            refine T_if_eq zk_54_56 (by omega) (pc' := 59) rfl (fun h35 => ?_) (fun h36 => ?_)
            ·
              refine T_op zk_54_63 rfl X_ic (pc' := 64) rfl ?_
              exact T_zret zk_54_64 rfl (by omega) (fun σ' h => ⟨_, rfl, (by omega), h.1, trivial⟩)
            ·
              refine T_op zk_54_59 rfl X_ic (pc' := 60) rfl ?_
              refine T_goto zk_54_60 ?_
              exact T_zret zk_54_64 rfl (by omega) (fun σ' h => ⟨_, rfl, (by omega), h.1, trivial⟩)
      · exfalso; omega
    ·
      refine T_ld zk_54_18 rfl rfl rfl (pc' := 19) rfl ?_
      refine T_calli (K := fun y37 σ' => (y37 = 0 ∨ y37 = 1) ∧ (fun σ' => IF MR σ σ' ∧ True) σ') (r := []) zk_54_19 rfl rfl rfl rfl rfl rfl (Or.inr ⟨_, _, _, _, rfl, vd_29, rfl⟩) (fun σ' h => (w_55   σ' h.1.1 ).le (Nat.le_of_ble_eq_true rfl) (fun v σ2 ⟨y, h1, h2, h3, h4⟩ => ⟨y, h1, h2, h.1.tr h3 (fun _ _ _ _ h => h), trivial⟩)) (pc' := 22) rfl (fun y37 => ?_)
      refine G_ex (fun hy37 => ?_)
      exact T_zret zk_54_22 rfl (by omega) (fun σ' h => ⟨_, rfl, (by omega), h.1, trivial⟩)
/-- W$LawReader.readBoth -/
theorem w_53_4 {xs : Nat × (Nat → Int32)}   (σ : ZS) (hI : Inv σ)   : CT xs 53 53 [av 29 0 0, iv 4] σ (fun v σ' => ∃ y, v = some (iv y) ∧ (y = 0 ∨ y = 1) ∧ IF MR σ σ' ∧ (True)) := by
  refine G_ct (J := (fun σ' => IF MR σ σ' ∧ True)) (L := [(0, av 29 0 0), (1, iv 4)]) (nL := 4) rfl rfl rfl ⟨IF.rf hI, trivial⟩ ?_
  refine T_ld zk_53_0 rfl rfl rfl (pc' := 1) rfl ?_
  refine T_ld zk_53_1 rfl rfl rfl (pc' := 2) rfl ?_
  refine T_calli (K := fun y1 σ' => (y1 = 0 ∨ y1 = 1) ∧ (fun σ' => IF MR σ σ' ∧ True) σ') (r := []) zk_53_2 rfl rfl rfl rfl rfl rfl (Or.inr ⟨_, _, _, _, rfl, vd_29, rfl⟩) (fun σ' h => (w_54_4   σ' h.1.1 ).le (Nat.le_of_ble_eq_true rfl) (fun v σ2 ⟨y, h1, h2, h3, h4⟩ => ⟨y, h1, h2, h.1.tr h3 (fun _ _ _ _ h => h), trivial⟩)) (pc' := 5) rfl (fun y1 => ?_)
  refine G_ex (fun hy1 => ?_)
  refine T_st (L' := [(0, av 29 0 0), (1, iv 4), (2, iv y1)]) zk_53_5 (nL := 4) rfl rfl rfl rfl rfl (pc' := 6) rfl ?_
  refine T_op zk_53_6 rfl X_ic (pc' := 7) rfl ?_
  refine T_st (L' := [(0, av 29 0 0), (1, iv 4), (2, iv y1), (3, iv 0)]) zk_53_7 (nL := 4) rfl rfl rfl rfl rfl (pc' := 8) rfl ?_
  refine T_loop2 (fun x2 x3 => ((96 - x3 : Int)).toNat) (fun x2 x3 => (0 ≤ x2 ∧ x2 ≤ 1) ∧ (0 ≤ x3 ∧ x3 ≤ 96)) (fun x2 x3 => TJ xs (fun σ' => IF MR σ σ' ∧ True) 52 53 8 [(0, av 29 0 0), (1, iv 4), (2, iv x2), (3, iv x3)] [] _) ?_ y1 0 (by omega)
  intro x2 x3 hp5 ih4
  refine T_ld zk_53_8 rfl rfl rfl (pc' := 9) rfl ?_
  refine T_op zk_53_9 rfl (X_bi (v := 96) (by decide)) (pc' := 11) rfl ?_
  refine T_icmp_ge zk_53_11 (by omega) (by omega) (pc' := 14) rfl (fun h6 => ?_) (fun h7 => ?_)
  ·
    refine T_ld zk_53_48 rfl rfl rfl (pc' := 49) rfl ?_
    exact T_zret zk_53_49 rfl (by omega) (fun σ' h => ⟨_, rfl, (by omega), h.1, trivial⟩)
  ·
    refine T_ld zk_53_14 rfl rfl rfl (pc' := 15) rfl ?_
    refine T_if_eq zk_53_15 (by omega) (pc' := 18) rfl (fun h8 => ?_) (fun h9 => ?_)
    ·
      refine T_ld zk_53_48 rfl rfl rfl (pc' := 49) rfl ?_
      exact T_zret zk_53_49 rfl (by omega) (fun σ' h => ⟨_, rfl, (by omega), h.1, trivial⟩)
    ·
      refine T_ld zk_53_18 rfl rfl rfl (pc' := 19) rfl ?_
      refine T_op zk_53_19 rfl (X_bi (v := 38) (by decide)) (pc' := 21) rfl ?_
      refine T_calli (K := fun y10 σ' => (y10 = 0 ∨ y10 = 1) ∧ (fun σ' => IF MR σ σ' ∧ True) σ') (r := []) zk_53_21 rfl rfl rfl rfl rfl rfl (Or.inr ⟨_, _, _, _, rfl, vd_29, rfl⟩) (fun σ' h => (w_50 38 (by omega) σ' h.1.1 ).le (Nat.le_of_ble_eq_true rfl) (fun v σ2 ⟨y, h1, h2, h3, h4⟩ => ⟨y, h1, h2, h.1.tr h3 (fun _ _ _ _ h => h), trivial⟩)) (pc' := 24) rfl (fun y10 => ?_)
      refine G_ex (fun hy10 => ?_)
      refine T_if_eq zk_53_24 (by omega) (pc' := 27) rfl (fun h11 => ?_) (fun h12 => ?_)
      ·
        refine T_ld zk_53_48 rfl rfl rfl (pc' := 49) rfl ?_
        exact T_zret zk_53_49 rfl (by omega) (fun σ' h => ⟨_, rfl, (by omega), h.1, trivial⟩)
      ·
        refine T_ld zk_53_27 rfl rfl rfl (pc' := 28) rfl ?_
        refine T_ld zk_53_28 rfl rfl rfl (pc' := 29) rfl ?_
        refine T_calli (K := fun y13 σ' => (y13 = 0 ∨ y13 = 1) ∧ (fun σ' => IF MR σ σ' ∧ True) σ') (r := []) zk_53_29 rfl rfl rfl rfl rfl rfl (Or.inr ⟨_, _, _, _, rfl, vd_29, rfl⟩) (fun σ' h => (w_54_4   σ' h.1.1 ).le (Nat.le_of_ble_eq_true rfl) (fun v σ2 ⟨y, h1, h2, h3, h4⟩ => ⟨y, h1, h2, h.1.tr h3 (fun _ _ _ _ h => h), trivial⟩)) (pc' := 32) rfl (fun y13 => ?_)
        refine G_ex (fun hy13 => ?_)
        refine T_st (L' := [(0, av 29 0 0), (1, iv 4), (2, iv y13), (3, iv x3)]) zk_53_32 (nL := 4) rfl rfl rfl rfl rfl (pc' := 33) rfl ?_
        refine T_ld zk_53_33 rfl rfl rfl (pc' := 34) rfl ?_
        refine T_getR (t' := 30) (i' := 0) (k' := 0) zk_53_34 rfl rfl rfl vd_29 (pc' := 37) rfl ?_
        refine T_op zk_53_37 rfl (X_bi (v := -2) (by decide)) (pc' := 39) rfl ?_
        refine T_callv (J' := (fun σ' => IF MR σ σ' ∧ True)) (r := []) zk_53_39 rfl rfl rfl rfl rfl rfl (Or.inr ⟨_, _, _, _, rfl, vd_30, rfl⟩) (fun σ' h => (w_42 ((-2)) (by omega) σ' h.1.1 ).le (Nat.le_of_ble_eq_true rfl) (fun v σ2 ⟨h1, h3, h4⟩ => ⟨h1, h.1.tr h3 (fun _ _ _ _ h => h), trivial⟩)) (pc' := 42) rfl ?_
        refine T_iinc (L' := [(0, av 29 0 0), (1, iv 4), (2, iv y13), (3, iv (x3 + 1))]) zk_53_42 (nL := 4) rfl rfl rfl rfl (pc' := 45) rfl ?_
        refine T_goto zk_53_45 ?_
        exact ih4 y13 (x3 + 1) (by omega) (by omega)
/-- W$LawReader.readEither -/
theorem w_52_4 {xs : Nat × (Nat → Int32)}   (σ : ZS) (hI : Inv σ)   : CT xs 54 52 [av 29 0 0, iv 4] σ (fun v σ' => ∃ y, v = some (iv y) ∧ (y = 0 ∨ y = 1) ∧ IF MR σ σ' ∧ (True)) := by
  refine G_ct (J := (fun σ' => IF MR σ σ' ∧ True)) (L := [(0, av 29 0 0), (1, iv 4)]) (nL := 4) rfl rfl rfl ⟨IF.rf hI, trivial⟩ ?_
  refine T_ld zk_52_0 rfl rfl rfl (pc' := 1) rfl ?_
  refine T_ld zk_52_1 rfl rfl rfl (pc' := 2) rfl ?_
  refine T_calli (K := fun y1 σ' => (y1 = 0 ∨ y1 = 1) ∧ (fun σ' => IF MR σ σ' ∧ True) σ') (r := []) zk_52_2 rfl rfl rfl rfl rfl rfl (Or.inr ⟨_, _, _, _, rfl, vd_29, rfl⟩) (fun σ' h => (w_53_4   σ' h.1.1 ).le (Nat.le_of_ble_eq_true rfl) (fun v σ2 ⟨y, h1, h2, h3, h4⟩ => ⟨y, h1, h2, h.1.tr h3 (fun _ _ _ _ h => h), trivial⟩)) (pc' := 5) rfl (fun y1 => ?_)
  refine G_ex (fun hy1 => ?_)
  refine T_st (L' := [(0, av 29 0 0), (1, iv 4), (2, iv y1)]) zk_52_5 (nL := 4) rfl rfl rfl rfl rfl (pc' := 6) rfl ?_
  refine T_op zk_52_6 rfl X_ic (pc' := 7) rfl ?_
  refine T_st (L' := [(0, av 29 0 0), (1, iv 4), (2, iv y1), (3, iv 0)]) zk_52_7 (nL := 4) rfl rfl rfl rfl rfl (pc' := 8) rfl ?_
  refine T_loop2 (fun x2 x3 => ((96 - x3 : Int)).toNat) (fun x2 x3 => (0 ≤ x2 ∧ x2 ≤ 1) ∧ (0 ≤ x3 ∧ x3 ≤ 96)) (fun x2 x3 => TJ xs (fun σ' => IF MR σ σ' ∧ True) 53 52 8 [(0, av 29 0 0), (1, iv 4), (2, iv x2), (3, iv x3)] [] _) ?_ y1 0 (by omega)
  intro x2 x3 hp5 ih4
  refine T_ld zk_52_8 rfl rfl rfl (pc' := 9) rfl ?_
  refine T_op zk_52_9 rfl (X_bi (v := 96) (by decide)) (pc' := 11) rfl ?_
  refine T_icmp_ge zk_52_11 (by omega) (by omega) (pc' := 14) rfl (fun h6 => ?_) (fun h7 => ?_)
  ·
    refine T_ld zk_52_48 rfl rfl rfl (pc' := 49) rfl ?_
    exact T_zret zk_52_49 rfl (by omega) (fun σ' h => ⟨_, rfl, (by omega), h.1, trivial⟩)
  ·
    refine T_ld zk_52_14 rfl rfl rfl (pc' := 15) rfl ?_
    refine T_if_eq zk_52_15 (by omega) (pc' := 18) rfl (fun h8 => ?_) (fun h9 => ?_)
    ·
      refine T_ld zk_52_48 rfl rfl rfl (pc' := 49) rfl ?_
      exact T_zret zk_52_49 rfl (by omega) (fun σ' h => ⟨_, rfl, (by omega), h.1, trivial⟩)
    ·
      refine T_ld zk_52_18 rfl rfl rfl (pc' := 19) rfl ?_
      refine T_op zk_52_19 rfl (X_bi (v := 124) (by decide)) (pc' := 21) rfl ?_
      refine T_calli (K := fun y10 σ' => (y10 = 0 ∨ y10 = 1) ∧ (fun σ' => IF MR σ σ' ∧ True) σ') (r := []) zk_52_21 rfl rfl rfl rfl rfl rfl (Or.inr ⟨_, _, _, _, rfl, vd_29, rfl⟩) (fun σ' h => (w_50 124 (by omega) σ' h.1.1 ).le (Nat.le_of_ble_eq_true rfl) (fun v σ2 ⟨y, h1, h2, h3, h4⟩ => ⟨y, h1, h2, h.1.tr h3 (fun _ _ _ _ h => h), trivial⟩)) (pc' := 24) rfl (fun y10 => ?_)
      refine G_ex (fun hy10 => ?_)
      refine T_if_eq zk_52_24 (by omega) (pc' := 27) rfl (fun h11 => ?_) (fun h12 => ?_)
      ·
        refine T_ld zk_52_48 rfl rfl rfl (pc' := 49) rfl ?_
        exact T_zret zk_52_49 rfl (by omega) (fun σ' h => ⟨_, rfl, (by omega), h.1, trivial⟩)
      ·
        refine T_ld zk_52_27 rfl rfl rfl (pc' := 28) rfl ?_
        refine T_ld zk_52_28 rfl rfl rfl (pc' := 29) rfl ?_
        refine T_calli (K := fun y13 σ' => (y13 = 0 ∨ y13 = 1) ∧ (fun σ' => IF MR σ σ' ∧ True) σ') (r := []) zk_52_29 rfl rfl rfl rfl rfl rfl (Or.inr ⟨_, _, _, _, rfl, vd_29, rfl⟩) (fun σ' h => (w_53_4   σ' h.1.1 ).le (Nat.le_of_ble_eq_true rfl) (fun v σ2 ⟨y, h1, h2, h3, h4⟩ => ⟨y, h1, h2, h.1.tr h3 (fun _ _ _ _ h => h), trivial⟩)) (pc' := 32) rfl (fun y13 => ?_)
        refine G_ex (fun hy13 => ?_)
        refine T_st (L' := [(0, av 29 0 0), (1, iv 4), (2, iv y13), (3, iv x3)]) zk_52_32 (nL := 4) rfl rfl rfl rfl rfl (pc' := 33) rfl ?_
        refine T_ld zk_52_33 rfl rfl rfl (pc' := 34) rfl ?_
        refine T_getR (t' := 30) (i' := 0) (k' := 0) zk_52_34 rfl rfl rfl vd_29 (pc' := 37) rfl ?_
        refine T_op zk_52_37 rfl (X_bi (v := -3) (by decide)) (pc' := 39) rfl ?_
        refine T_callv (J' := (fun σ' => IF MR σ σ' ∧ True)) (r := []) zk_52_39 rfl rfl rfl rfl rfl rfl (Or.inr ⟨_, _, _, _, rfl, vd_30, rfl⟩) (fun σ' h => (w_42 ((-3)) (by omega) σ' h.1.1 ).le (Nat.le_of_ble_eq_true rfl) (fun v σ2 ⟨h1, h3, h4⟩ => ⟨h1, h.1.tr h3 (fun _ _ _ _ h => h), trivial⟩)) (pc' := 42) rfl ?_
        refine T_iinc (L' := [(0, av 29 0 0), (1, iv 4), (2, iv y13), (3, iv (x3 + 1))]) zk_52_42 (nL := 4) rfl rfl rfl rfl (pc' := 45) rfl ?_
        refine T_goto zk_52_45 ?_
        exact ih4 y13 (x3 + 1) (by omega) (by omega)
/-- W$LawReader.readPart -/
theorem w_54_3 {xs : Nat × (Nat → Int32)}   (σ : ZS) (hI : Inv σ)   : CT xs 55 54 [av 29 0 0, iv 3] σ (fun v σ' => ∃ y, v = some (iv y) ∧ (y = 0 ∨ y = 1) ∧ IF MR σ σ' ∧ (True)) := by
  refine G_ct (J := (fun σ' => IF MR σ σ' ∧ True)) (L := [(0, av 29 0 0), (1, iv 3)]) (nL := 3) rfl rfl rfl ⟨IF.rf hI, trivial⟩ ?_
  refine T_ld zk_54_0 rfl rfl rfl (pc' := 1) rfl ?_
  refine T_calli (K := fun y1 σ' => (-2147483648 ≤ y1 ∧ y1 ≤ 2147483647) ∧ (fun σ' => IF MR σ σ' ∧ True) σ') (r := []) zk_54_1 rfl rfl rfl rfl rfl rfl (Or.inr ⟨_, _, _, _, rfl, vd_29, rfl⟩) (fun σ' h => (w_49   σ' h.1.1 ).le (Nat.le_of_ble_eq_true rfl) (fun v σ2 ⟨y, h1, h2, h3, h4⟩ => ⟨y, h1, h2, h.1.tr h3 MN_sub, trivial⟩)) (pc' := 4) rfl (fun y1 => ?_)
  refine G_ex (fun hy1 => ?_)
  refine T_op zk_54_4 rfl (X_bi (v := 33) (by decide)) (pc' := 6) rfl ?_
  refine T_icmp_eq zk_54_6 (by omega) (by omega) (pc' := 9) rfl (fun h2 => ?_) (fun h3 => ?_)
  ·
    refine T_ld zk_54_23 rfl rfl rfl (pc' := 24) rfl ?_
    refine T_op zk_54_24 rfl (X_bi (v := 20) (by decide)) (pc' := 26) rfl ?_
    refine T_icmp_lt zk_54_26 (by omega) (by omega) (pc' := 29) rfl (fun h4 => ?_) (fun h5 => ?_)
    ·
      refine T_ld zk_54_31 rfl rfl rfl (pc' := 32) rfl ?_
      refine T_op zk_54_32 rfl (X_bi (v := 40) (by decide)) (pc' := 34) rfl ?_
      refine T_calli (K := fun y6 σ' => (y6 = 0 ∨ y6 = 1) ∧ (fun σ' => IF MR σ σ' ∧ True) σ') (r := []) zk_54_34 rfl rfl rfl rfl rfl rfl (Or.inr ⟨_, _, _, _, rfl, vd_29, rfl⟩) (fun σ' h => (w_50 40 (by omega) σ' h.1.1 ).le (Nat.le_of_ble_eq_true rfl) (fun v σ2 ⟨y, h1, h2, h3, h4⟩ => ⟨y, h1, h2, h.1.tr h3 (fun _ _ _ _ h => h), trivial⟩)) (pc' := 37) rfl (fun y6 => ?_)
      refine G_ex (fun hy6 => ?_)
      refine T_if_eq zk_54_37 (by omega) (pc' := 40) rfl (fun h7 => ?_) (fun h8 => ?_)
      ·
        refine T_ld zk_54_65 rfl rfl rfl (pc' := 66) rfl ?_
        refine T_op (st' := [av 29 0 0, av 29 0 0]) zk_54_66 rfl rfl (pc' := 67) rfl ?_
        refine G_getf (lo := -2147483648) (hi := 2147483647) zk_54_67 rfl vd_29 (fun σ' h => h.1.1) (fun _ h => (by have q := h.1; omega)) (pc' := 70) rfl (fun y9 hy9 hy9' => ?_)
        refine T_op zk_54_70 rfl X_ic (pc' := 71) rfl ?_
        refine G_unk zk_54_71 rfl (pc' := 72) rfl (fun y10 hy10 hy10' => ?_)
        refine T_putf (J' := (fun σ' => IF MR σ σ' ∧ σ' 29 0 0 3 = y10 ∧ True)) zk_54_72 rfl rfl vd_29 (fun σ' h => ⟨h.1.up (by simp only [rgP] <;> omega) (by first | exact pMR rfl | (unfold MR; omega)), up_eq, trivial⟩) (pc' := 75) rfl ?_
        refine T_ld zk_54_75 rfl rfl rfl (pc' := 76) rfl ?_
        refine T_ld zk_54_76 rfl rfl rfl (pc' := 77) rfl ?_
        refine T_op zk_54_77 rfl X_ic (pc' := 78) rfl ?_
        refine T_opc (w := 4) zk_54_78 rfl X_add (by omega) (pc' := 79) rfl ?_
        refine T_calli (K := fun y11 σ' => (y11 = 0 ∨ y11 = 1) ∧ (fun σ' => IF MR σ σ' ∧ True) σ') (r := []) zk_54_79 rfl rfl rfl rfl rfl rfl (Or.inr ⟨_, _, _, _, rfl, vd_29, rfl⟩) (fun σ' h => (w_54_4   σ' h.1.1 ).le (Nat.le_of_ble_eq_true rfl) (fun v σ2 ⟨y, h1, h2, h3, h4⟩ => ⟨y, h1, h2, h.1.tr h3 (fun _ _ _ _ h => h), trivial⟩)) (pc' := 82) rfl (fun y11 => ?_)
        refine G_ex (fun hy11 => ?_)
        refine T_st (L' := [(0, av 29 0 0), (1, iv 3), (2, iv y11)]) zk_54_82 (nL := 3) rfl rfl rfl rfl rfl (pc' := 83) rfl ?_
        refine T_ld zk_54_83 rfl rfl rfl (pc' := 84) rfl ?_
        refine T_getR (t' := 30) (i' := 0) (k' := 0) zk_54_84 rfl rfl rfl vd_29 (pc' := 87) rfl ?_
        refine T_op zk_54_87 rfl X_ic (pc' := 88) rfl ?_
        refine T_callv (J' := (fun σ' => IF MR σ σ' ∧ True)) (r := []) zk_54_88 rfl rfl rfl rfl rfl rfl (Or.inr ⟨_, _, _, _, rfl, vd_30, rfl⟩) (fun σ' h => (w_42 ((-1)) (by omega) σ' h.1.1 ).le (Nat.le_of_ble_eq_true rfl) (fun v σ2 ⟨h1, h3, h4⟩ => ⟨h1, h.1.tr h3 (fun _ _ _ _ h => h), trivial⟩)) (pc' := 91) rfl ?_
        refine T_ld zk_54_91 rfl rfl rfl (pc' := 92) rfl ?_
        exact T_zret zk_54_92 rfl (by omega) (fun σ' h => ⟨_, rfl, (by omega), h.1, trivial⟩)
      ·
        refine T_ld zk_54_40 rfl rfl rfl (pc' := 41) rfl ?_
        refine T_ld zk_54_41 rfl rfl rfl (pc' := 42) rfl ?_
        refine T_op zk_54_42 rfl X_ic (pc' := 43) rfl ?_
        refine T_opc (w := 4) zk_54_43 rfl X_add (by omega) (pc' := 44) rfl ?_
        refine T_calli (K := fun y13 σ' => (y13 = 0 ∨ y13 = 1) ∧ (fun σ' => IF MR σ σ' ∧ True) σ') (r := []) zk_54_44 rfl rfl rfl rfl rfl rfl (Or.inr ⟨_, _, _, _, rfl, vd_29, rfl⟩) (fun σ' h => (w_52_4   σ' h.1.1 ).le (Nat.le_of_ble_eq_true rfl) (fun v σ2 ⟨y, h1, h2, h3, h4⟩ => ⟨y, h1, h2, h.1.tr h3 (fun _ _ _ _ h => h), trivial⟩)) (pc' := 47) rfl (fun y13 => ?_)
        refine G_ex (fun hy13 => ?_)
        refine T_if_eq zk_54_47 (by omega) (pc' := 50) rfl (fun h14 => ?_) (fun h15 => ?_)
        ·
          refine T_op zk_54_63 rfl X_ic (pc' := 64) rfl ?_
          exact T_zret zk_54_64 rfl (by omega) (fun σ' h => ⟨_, rfl, (by omega), h.1, trivial⟩)
        ·
          refine T_ld zk_54_50 rfl rfl rfl (pc' := 51) rfl ?_
          refine T_op zk_54_51 rfl (X_bi (v := 41) (by decide)) (pc' := 53) rfl ?_
          refine T_calli (K := fun y16 σ' => (y16 = 0 ∨ y16 = 1) ∧ (fun σ' => IF MR σ σ' ∧ True) σ') (r := []) zk_54_53 rfl rfl rfl rfl rfl rfl (Or.inr ⟨_, _, _, _, rfl, vd_29, rfl⟩) (fun σ' h => (w_50 41 (by omega) σ' h.1.1 ).le (Nat.le_of_ble_eq_true rfl) (fun v σ2 ⟨y, h1, h2, h3, h4⟩ => ⟨y, h1, h2, h.1.tr h3 (fun _ _ _ _ h => h), trivial⟩)) (pc' := 56) rfl (fun y16 => ?_)
          refine G_ex (fun hy16 => ?_)
          refine T_if_eq zk_54_56 (by omega) (pc' := 59) rfl (fun h17 => ?_) (fun h18 => ?_)
          ·
            refine T_op zk_54_63 rfl X_ic (pc' := 64) rfl ?_
            exact T_zret zk_54_64 rfl (by omega) (fun σ' h => ⟨_, rfl, (by omega), h.1, trivial⟩)
          ·
            refine T_op zk_54_59 rfl X_ic (pc' := 60) rfl ?_
            refine T_goto zk_54_60 ?_
            exact T_zret zk_54_64 rfl (by omega) (fun σ' h => ⟨_, rfl, (by omega), h.1, trivial⟩)
    · exfalso; omega
  ·
    refine T_ld zk_54_9 rfl rfl rfl (pc' := 10) rfl ?_
    refine T_calli (K := fun y19 σ' => (-2147483648 ≤ y19 ∧ y19 ≤ 2147483647) ∧ (fun σ' => IF MR σ σ' ∧ True) σ') (r := []) zk_54_10 rfl rfl rfl rfl rfl rfl (Or.inr ⟨_, _, _, _, rfl, vd_29, rfl⟩) (fun σ' h => (w_49   σ' h.1.1 ).le (Nat.le_of_ble_eq_true rfl) (fun v σ2 ⟨y, h1, h2, h3, h4⟩ => ⟨y, h1, h2, h.1.tr h3 MN_sub, trivial⟩)) (pc' := 13) rfl (fun y19 => ?_)
    refine G_ex (fun hy19 => ?_)
    refine T_op zk_54_13 rfl (X_bi (v := 40) (by decide)) (pc' := 15) rfl ?_
    refine T_icmp_eq zk_54_15 (by omega) (by omega) (pc' := 18) rfl (fun h20 => ?_) (fun h21 => ?_)
    ·
      refine T_ld zk_54_23 rfl rfl rfl (pc' := 24) rfl ?_
      refine T_op zk_54_24 rfl (X_bi (v := 20) (by decide)) (pc' := 26) rfl ?_
      refine T_icmp_lt zk_54_26 (by omega) (by omega) (pc' := 29) rfl (fun h22 => ?_) (fun h23 => ?_)
      ·
        refine T_ld zk_54_31 rfl rfl rfl (pc' := 32) rfl ?_
        refine T_op zk_54_32 rfl (X_bi (v := 40) (by decide)) (pc' := 34) rfl ?_
        refine T_calli (K := fun y24 σ' => (y24 = 0 ∨ y24 = 1) ∧ (fun σ' => IF MR σ σ' ∧ True) σ') (r := []) zk_54_34 rfl rfl rfl rfl rfl rfl (Or.inr ⟨_, _, _, _, rfl, vd_29, rfl⟩) (fun σ' h => (w_50 40 (by omega) σ' h.1.1 ).le (Nat.le_of_ble_eq_true rfl) (fun v σ2 ⟨y, h1, h2, h3, h4⟩ => ⟨y, h1, h2, h.1.tr h3 (fun _ _ _ _ h => h), trivial⟩)) (pc' := 37) rfl (fun y24 => ?_)
        refine G_ex (fun hy24 => ?_)
        refine T_if_eq zk_54_37 (by omega) (pc' := 40) rfl (fun h25 => ?_) (fun h26 => ?_)
        ·
          refine T_ld zk_54_65 rfl rfl rfl (pc' := 66) rfl ?_
          refine T_op (st' := [av 29 0 0, av 29 0 0]) zk_54_66 rfl rfl (pc' := 67) rfl ?_
          refine G_getf (lo := -2147483648) (hi := 2147483647) zk_54_67 rfl vd_29 (fun σ' h => h.1.1) (fun _ h => (by have q := h.1; omega)) (pc' := 70) rfl (fun y27 hy27 hy27' => ?_)
          refine T_op zk_54_70 rfl X_ic (pc' := 71) rfl ?_
          refine G_unk zk_54_71 rfl (pc' := 72) rfl (fun y28 hy28 hy28' => ?_)
          refine T_putf (J' := (fun σ' => IF MR σ σ' ∧ σ' 29 0 0 3 = y28 ∧ True)) zk_54_72 rfl rfl vd_29 (fun σ' h => ⟨h.1.up (by simp only [rgP] <;> omega) (by first | exact pMR rfl | (unfold MR; omega)), up_eq, trivial⟩) (pc' := 75) rfl ?_
          refine T_ld zk_54_75 rfl rfl rfl (pc' := 76) rfl ?_
          refine T_ld zk_54_76 rfl rfl rfl (pc' := 77) rfl ?_
          refine T_op zk_54_77 rfl X_ic (pc' := 78) rfl ?_
          refine T_opc (w := 4) zk_54_78 rfl X_add (by omega) (pc' := 79) rfl ?_
          refine T_calli (K := fun y29 σ' => (y29 = 0 ∨ y29 = 1) ∧ (fun σ' => IF MR σ σ' ∧ True) σ') (r := []) zk_54_79 rfl rfl rfl rfl rfl rfl (Or.inr ⟨_, _, _, _, rfl, vd_29, rfl⟩) (fun σ' h => (w_54_4   σ' h.1.1 ).le (Nat.le_of_ble_eq_true rfl) (fun v σ2 ⟨y, h1, h2, h3, h4⟩ => ⟨y, h1, h2, h.1.tr h3 (fun _ _ _ _ h => h), trivial⟩)) (pc' := 82) rfl (fun y29 => ?_)
          refine G_ex (fun hy29 => ?_)
          refine T_st (L' := [(0, av 29 0 0), (1, iv 3), (2, iv y29)]) zk_54_82 (nL := 3) rfl rfl rfl rfl rfl (pc' := 83) rfl ?_
          refine T_ld zk_54_83 rfl rfl rfl (pc' := 84) rfl ?_
          refine T_getR (t' := 30) (i' := 0) (k' := 0) zk_54_84 rfl rfl rfl vd_29 (pc' := 87) rfl ?_
          refine T_op zk_54_87 rfl X_ic (pc' := 88) rfl ?_
          refine T_callv (J' := (fun σ' => IF MR σ σ' ∧ True)) (r := []) zk_54_88 rfl rfl rfl rfl rfl rfl (Or.inr ⟨_, _, _, _, rfl, vd_30, rfl⟩) (fun σ' h => (w_42 ((-1)) (by omega) σ' h.1.1 ).le (Nat.le_of_ble_eq_true rfl) (fun v σ2 ⟨h1, h3, h4⟩ => ⟨h1, h.1.tr h3 (fun _ _ _ _ h => h), trivial⟩)) (pc' := 91) rfl ?_
          refine T_ld zk_54_91 rfl rfl rfl (pc' := 92) rfl ?_
          exact T_zret zk_54_92 rfl (by omega) (fun σ' h => ⟨_, rfl, (by omega), h.1, trivial⟩)
        ·
          refine T_ld zk_54_40 rfl rfl rfl (pc' := 41) rfl ?_
          refine T_ld zk_54_41 rfl rfl rfl (pc' := 42) rfl ?_
          refine T_op zk_54_42 rfl X_ic (pc' := 43) rfl ?_
          refine T_opc (w := 4) zk_54_43 rfl X_add (by omega) (pc' := 44) rfl ?_
          refine T_calli (K := fun y31 σ' => (y31 = 0 ∨ y31 = 1) ∧ (fun σ' => IF MR σ σ' ∧ True) σ') (r := []) zk_54_44 rfl rfl rfl rfl rfl rfl (Or.inr ⟨_, _, _, _, rfl, vd_29, rfl⟩) (fun σ' h => (w_52_4   σ' h.1.1 ).le (Nat.le_of_ble_eq_true rfl) (fun v σ2 ⟨y, h1, h2, h3, h4⟩ => ⟨y, h1, h2, h.1.tr h3 (fun _ _ _ _ h => h), trivial⟩)) (pc' := 47) rfl (fun y31 => ?_)
          refine G_ex (fun hy31 => ?_)
          refine T_if_eq zk_54_47 (by omega) (pc' := 50) rfl (fun h32 => ?_) (fun h33 => ?_)
          ·
            refine T_op zk_54_63 rfl X_ic (pc' := 64) rfl ?_
            exact T_zret zk_54_64 rfl (by omega) (fun σ' h => ⟨_, rfl, (by omega), h.1, trivial⟩)
          ·
            refine T_ld zk_54_50 rfl rfl rfl (pc' := 51) rfl ?_
            refine T_op zk_54_51 rfl (X_bi (v := 41) (by decide)) (pc' := 53) rfl ?_
            refine T_calli (K := fun y34 σ' => (y34 = 0 ∨ y34 = 1) ∧ (fun σ' => IF MR σ σ' ∧ True) σ') (r := []) zk_54_53 rfl rfl rfl rfl rfl rfl (Or.inr ⟨_, _, _, _, rfl, vd_29, rfl⟩) (fun σ' h => (w_50 41 (by omega) σ' h.1.1 ).le (Nat.le_of_ble_eq_true rfl) (fun v σ2 ⟨y, h1, h2, h3, h4⟩ => ⟨y, h1, h2, h.1.tr h3 (fun _ _ _ _ h => h), trivial⟩)) (pc' := 56) rfl (fun y34 => ?_)
            refine G_ex (fun hy34 => ?_)
            refine T_if_eq zk_54_56 (by omega) (pc' := 59) rfl (fun h35 => ?_) (fun h36 => ?_)
            ·
              refine T_op zk_54_63 rfl X_ic (pc' := 64) rfl ?_
              exact T_zret zk_54_64 rfl (by omega) (fun σ' h => ⟨_, rfl, (by omega), h.1, trivial⟩)
            ·
              refine T_op zk_54_59 rfl X_ic (pc' := 60) rfl ?_
              refine T_goto zk_54_60 ?_
              exact T_zret zk_54_64 rfl (by omega) (fun σ' h => ⟨_, rfl, (by omega), h.1, trivial⟩)
      · exfalso; omega
    ·
      refine T_ld zk_54_18 rfl rfl rfl (pc' := 19) rfl ?_
      refine T_calli (K := fun y37 σ' => (y37 = 0 ∨ y37 = 1) ∧ (fun σ' => IF MR σ σ' ∧ True) σ') (r := []) zk_54_19 rfl rfl rfl rfl rfl rfl (Or.inr ⟨_, _, _, _, rfl, vd_29, rfl⟩) (fun σ' h => (w_55   σ' h.1.1 ).le (Nat.le_of_ble_eq_true rfl) (fun v σ2 ⟨y, h1, h2, h3, h4⟩ => ⟨y, h1, h2, h.1.tr h3 (fun _ _ _ _ h => h), trivial⟩)) (pc' := 22) rfl (fun y37 => ?_)
      refine G_ex (fun hy37 => ?_)
      exact T_zret zk_54_22 rfl (by omega) (fun σ' h => ⟨_, rfl, (by omega), h.1, trivial⟩)
/-- W$LawReader.readBoth -/
theorem w_53_3 {xs : Nat × (Nat → Int32)}   (σ : ZS) (hI : Inv σ)   : CT xs 56 53 [av 29 0 0, iv 3] σ (fun v σ' => ∃ y, v = some (iv y) ∧ (y = 0 ∨ y = 1) ∧ IF MR σ σ' ∧ (True)) := by
  refine G_ct (J := (fun σ' => IF MR σ σ' ∧ True)) (L := [(0, av 29 0 0), (1, iv 3)]) (nL := 4) rfl rfl rfl ⟨IF.rf hI, trivial⟩ ?_
  refine T_ld zk_53_0 rfl rfl rfl (pc' := 1) rfl ?_
  refine T_ld zk_53_1 rfl rfl rfl (pc' := 2) rfl ?_
  refine T_calli (K := fun y1 σ' => (y1 = 0 ∨ y1 = 1) ∧ (fun σ' => IF MR σ σ' ∧ True) σ') (r := []) zk_53_2 rfl rfl rfl rfl rfl rfl (Or.inr ⟨_, _, _, _, rfl, vd_29, rfl⟩) (fun σ' h => (w_54_3   σ' h.1.1 ).le (Nat.le_of_ble_eq_true rfl) (fun v σ2 ⟨y, h1, h2, h3, h4⟩ => ⟨y, h1, h2, h.1.tr h3 (fun _ _ _ _ h => h), trivial⟩)) (pc' := 5) rfl (fun y1 => ?_)
  refine G_ex (fun hy1 => ?_)
  refine T_st (L' := [(0, av 29 0 0), (1, iv 3), (2, iv y1)]) zk_53_5 (nL := 4) rfl rfl rfl rfl rfl (pc' := 6) rfl ?_
  refine T_op zk_53_6 rfl X_ic (pc' := 7) rfl ?_
  refine T_st (L' := [(0, av 29 0 0), (1, iv 3), (2, iv y1), (3, iv 0)]) zk_53_7 (nL := 4) rfl rfl rfl rfl rfl (pc' := 8) rfl ?_
  refine T_loop2 (fun x2 x3 => ((96 - x3 : Int)).toNat) (fun x2 x3 => (0 ≤ x2 ∧ x2 ≤ 1) ∧ (0 ≤ x3 ∧ x3 ≤ 96)) (fun x2 x3 => TJ xs (fun σ' => IF MR σ σ' ∧ True) 55 53 8 [(0, av 29 0 0), (1, iv 3), (2, iv x2), (3, iv x3)] [] _) ?_ y1 0 (by omega)
  intro x2 x3 hp5 ih4
  refine T_ld zk_53_8 rfl rfl rfl (pc' := 9) rfl ?_
  refine T_op zk_53_9 rfl (X_bi (v := 96) (by decide)) (pc' := 11) rfl ?_
  refine T_icmp_ge zk_53_11 (by omega) (by omega) (pc' := 14) rfl (fun h6 => ?_) (fun h7 => ?_)
  ·
    refine T_ld zk_53_48 rfl rfl rfl (pc' := 49) rfl ?_
    exact T_zret zk_53_49 rfl (by omega) (fun σ' h => ⟨_, rfl, (by omega), h.1, trivial⟩)
  ·
    refine T_ld zk_53_14 rfl rfl rfl (pc' := 15) rfl ?_
    refine T_if_eq zk_53_15 (by omega) (pc' := 18) rfl (fun h8 => ?_) (fun h9 => ?_)
    ·
      refine T_ld zk_53_48 rfl rfl rfl (pc' := 49) rfl ?_
      exact T_zret zk_53_49 rfl (by omega) (fun σ' h => ⟨_, rfl, (by omega), h.1, trivial⟩)
    ·
      refine T_ld zk_53_18 rfl rfl rfl (pc' := 19) rfl ?_
      refine T_op zk_53_19 rfl (X_bi (v := 38) (by decide)) (pc' := 21) rfl ?_
      refine T_calli (K := fun y10 σ' => (y10 = 0 ∨ y10 = 1) ∧ (fun σ' => IF MR σ σ' ∧ True) σ') (r := []) zk_53_21 rfl rfl rfl rfl rfl rfl (Or.inr ⟨_, _, _, _, rfl, vd_29, rfl⟩) (fun σ' h => (w_50 38 (by omega) σ' h.1.1 ).le (Nat.le_of_ble_eq_true rfl) (fun v σ2 ⟨y, h1, h2, h3, h4⟩ => ⟨y, h1, h2, h.1.tr h3 (fun _ _ _ _ h => h), trivial⟩)) (pc' := 24) rfl (fun y10 => ?_)
      refine G_ex (fun hy10 => ?_)
      refine T_if_eq zk_53_24 (by omega) (pc' := 27) rfl (fun h11 => ?_) (fun h12 => ?_)
      ·
        refine T_ld zk_53_48 rfl rfl rfl (pc' := 49) rfl ?_
        exact T_zret zk_53_49 rfl (by omega) (fun σ' h => ⟨_, rfl, (by omega), h.1, trivial⟩)
      ·
        refine T_ld zk_53_27 rfl rfl rfl (pc' := 28) rfl ?_
        refine T_ld zk_53_28 rfl rfl rfl (pc' := 29) rfl ?_
        refine T_calli (K := fun y13 σ' => (y13 = 0 ∨ y13 = 1) ∧ (fun σ' => IF MR σ σ' ∧ True) σ') (r := []) zk_53_29 rfl rfl rfl rfl rfl rfl (Or.inr ⟨_, _, _, _, rfl, vd_29, rfl⟩) (fun σ' h => (w_54_3   σ' h.1.1 ).le (Nat.le_of_ble_eq_true rfl) (fun v σ2 ⟨y, h1, h2, h3, h4⟩ => ⟨y, h1, h2, h.1.tr h3 (fun _ _ _ _ h => h), trivial⟩)) (pc' := 32) rfl (fun y13 => ?_)
        refine G_ex (fun hy13 => ?_)
        refine T_st (L' := [(0, av 29 0 0), (1, iv 3), (2, iv y13), (3, iv x3)]) zk_53_32 (nL := 4) rfl rfl rfl rfl rfl (pc' := 33) rfl ?_
        refine T_ld zk_53_33 rfl rfl rfl (pc' := 34) rfl ?_
        refine T_getR (t' := 30) (i' := 0) (k' := 0) zk_53_34 rfl rfl rfl vd_29 (pc' := 37) rfl ?_
        refine T_op zk_53_37 rfl (X_bi (v := -2) (by decide)) (pc' := 39) rfl ?_
        refine T_callv (J' := (fun σ' => IF MR σ σ' ∧ True)) (r := []) zk_53_39 rfl rfl rfl rfl rfl rfl (Or.inr ⟨_, _, _, _, rfl, vd_30, rfl⟩) (fun σ' h => (w_42 ((-2)) (by omega) σ' h.1.1 ).le (Nat.le_of_ble_eq_true rfl) (fun v σ2 ⟨h1, h3, h4⟩ => ⟨h1, h.1.tr h3 (fun _ _ _ _ h => h), trivial⟩)) (pc' := 42) rfl ?_
        refine T_iinc (L' := [(0, av 29 0 0), (1, iv 3), (2, iv y13), (3, iv (x3 + 1))]) zk_53_42 (nL := 4) rfl rfl rfl rfl (pc' := 45) rfl ?_
        refine T_goto zk_53_45 ?_
        exact ih4 y13 (x3 + 1) (by omega) (by omega)
/-- W$LawReader.readEither -/
theorem w_52_3 {xs : Nat × (Nat → Int32)}   (σ : ZS) (hI : Inv σ)   : CT xs 57 52 [av 29 0 0, iv 3] σ (fun v σ' => ∃ y, v = some (iv y) ∧ (y = 0 ∨ y = 1) ∧ IF MR σ σ' ∧ (True)) := by
  refine G_ct (J := (fun σ' => IF MR σ σ' ∧ True)) (L := [(0, av 29 0 0), (1, iv 3)]) (nL := 4) rfl rfl rfl ⟨IF.rf hI, trivial⟩ ?_
  refine T_ld zk_52_0 rfl rfl rfl (pc' := 1) rfl ?_
  refine T_ld zk_52_1 rfl rfl rfl (pc' := 2) rfl ?_
  refine T_calli (K := fun y1 σ' => (y1 = 0 ∨ y1 = 1) ∧ (fun σ' => IF MR σ σ' ∧ True) σ') (r := []) zk_52_2 rfl rfl rfl rfl rfl rfl (Or.inr ⟨_, _, _, _, rfl, vd_29, rfl⟩) (fun σ' h => (w_53_3   σ' h.1.1 ).le (Nat.le_of_ble_eq_true rfl) (fun v σ2 ⟨y, h1, h2, h3, h4⟩ => ⟨y, h1, h2, h.1.tr h3 (fun _ _ _ _ h => h), trivial⟩)) (pc' := 5) rfl (fun y1 => ?_)
  refine G_ex (fun hy1 => ?_)
  refine T_st (L' := [(0, av 29 0 0), (1, iv 3), (2, iv y1)]) zk_52_5 (nL := 4) rfl rfl rfl rfl rfl (pc' := 6) rfl ?_
  refine T_op zk_52_6 rfl X_ic (pc' := 7) rfl ?_
  refine T_st (L' := [(0, av 29 0 0), (1, iv 3), (2, iv y1), (3, iv 0)]) zk_52_7 (nL := 4) rfl rfl rfl rfl rfl (pc' := 8) rfl ?_
  refine T_loop2 (fun x2 x3 => ((96 - x3 : Int)).toNat) (fun x2 x3 => (0 ≤ x2 ∧ x2 ≤ 1) ∧ (0 ≤ x3 ∧ x3 ≤ 96)) (fun x2 x3 => TJ xs (fun σ' => IF MR σ σ' ∧ True) 56 52 8 [(0, av 29 0 0), (1, iv 3), (2, iv x2), (3, iv x3)] [] _) ?_ y1 0 (by omega)
  intro x2 x3 hp5 ih4
  refine T_ld zk_52_8 rfl rfl rfl (pc' := 9) rfl ?_
  refine T_op zk_52_9 rfl (X_bi (v := 96) (by decide)) (pc' := 11) rfl ?_
  refine T_icmp_ge zk_52_11 (by omega) (by omega) (pc' := 14) rfl (fun h6 => ?_) (fun h7 => ?_)
  ·
    refine T_ld zk_52_48 rfl rfl rfl (pc' := 49) rfl ?_
    exact T_zret zk_52_49 rfl (by omega) (fun σ' h => ⟨_, rfl, (by omega), h.1, trivial⟩)
  ·
    refine T_ld zk_52_14 rfl rfl rfl (pc' := 15) rfl ?_
    refine T_if_eq zk_52_15 (by omega) (pc' := 18) rfl (fun h8 => ?_) (fun h9 => ?_)
    ·
      refine T_ld zk_52_48 rfl rfl rfl (pc' := 49) rfl ?_
      exact T_zret zk_52_49 rfl (by omega) (fun σ' h => ⟨_, rfl, (by omega), h.1, trivial⟩)
    ·
      refine T_ld zk_52_18 rfl rfl rfl (pc' := 19) rfl ?_
      refine T_op zk_52_19 rfl (X_bi (v := 124) (by decide)) (pc' := 21) rfl ?_
      refine T_calli (K := fun y10 σ' => (y10 = 0 ∨ y10 = 1) ∧ (fun σ' => IF MR σ σ' ∧ True) σ') (r := []) zk_52_21 rfl rfl rfl rfl rfl rfl (Or.inr ⟨_, _, _, _, rfl, vd_29, rfl⟩) (fun σ' h => (w_50 124 (by omega) σ' h.1.1 ).le (Nat.le_of_ble_eq_true rfl) (fun v σ2 ⟨y, h1, h2, h3, h4⟩ => ⟨y, h1, h2, h.1.tr h3 (fun _ _ _ _ h => h), trivial⟩)) (pc' := 24) rfl (fun y10 => ?_)
      refine G_ex (fun hy10 => ?_)
      refine T_if_eq zk_52_24 (by omega) (pc' := 27) rfl (fun h11 => ?_) (fun h12 => ?_)
      ·
        refine T_ld zk_52_48 rfl rfl rfl (pc' := 49) rfl ?_
        exact T_zret zk_52_49 rfl (by omega) (fun σ' h => ⟨_, rfl, (by omega), h.1, trivial⟩)
      ·
        refine T_ld zk_52_27 rfl rfl rfl (pc' := 28) rfl ?_
        refine T_ld zk_52_28 rfl rfl rfl (pc' := 29) rfl ?_
        refine T_calli (K := fun y13 σ' => (y13 = 0 ∨ y13 = 1) ∧ (fun σ' => IF MR σ σ' ∧ True) σ') (r := []) zk_52_29 rfl rfl rfl rfl rfl rfl (Or.inr ⟨_, _, _, _, rfl, vd_29, rfl⟩) (fun σ' h => (w_53_3   σ' h.1.1 ).le (Nat.le_of_ble_eq_true rfl) (fun v σ2 ⟨y, h1, h2, h3, h4⟩ => ⟨y, h1, h2, h.1.tr h3 (fun _ _ _ _ h => h), trivial⟩)) (pc' := 32) rfl (fun y13 => ?_)
        refine G_ex (fun hy13 => ?_)
        refine T_st (L' := [(0, av 29 0 0), (1, iv 3), (2, iv y13), (3, iv x3)]) zk_52_32 (nL := 4) rfl rfl rfl rfl rfl (pc' := 33) rfl ?_
        refine T_ld zk_52_33 rfl rfl rfl (pc' := 34) rfl ?_
        refine T_getR (t' := 30) (i' := 0) (k' := 0) zk_52_34 rfl rfl rfl vd_29 (pc' := 37) rfl ?_
        refine T_op zk_52_37 rfl (X_bi (v := -3) (by decide)) (pc' := 39) rfl ?_
        refine T_callv (J' := (fun σ' => IF MR σ σ' ∧ True)) (r := []) zk_52_39 rfl rfl rfl rfl rfl rfl (Or.inr ⟨_, _, _, _, rfl, vd_30, rfl⟩) (fun σ' h => (w_42 ((-3)) (by omega) σ' h.1.1 ).le (Nat.le_of_ble_eq_true rfl) (fun v σ2 ⟨h1, h3, h4⟩ => ⟨h1, h.1.tr h3 (fun _ _ _ _ h => h), trivial⟩)) (pc' := 42) rfl ?_
        refine T_iinc (L' := [(0, av 29 0 0), (1, iv 3), (2, iv y13), (3, iv (x3 + 1))]) zk_52_42 (nL := 4) rfl rfl rfl rfl (pc' := 45) rfl ?_
        refine T_goto zk_52_45 ?_
        exact ih4 y13 (x3 + 1) (by omega) (by omega)
/-- W$LawReader.readPart -/
theorem w_54_2 {xs : Nat × (Nat → Int32)}   (σ : ZS) (hI : Inv σ)   : CT xs 58 54 [av 29 0 0, iv 2] σ (fun v σ' => ∃ y, v = some (iv y) ∧ (y = 0 ∨ y = 1) ∧ IF MR σ σ' ∧ (True)) := by
  refine G_ct (J := (fun σ' => IF MR σ σ' ∧ True)) (L := [(0, av 29 0 0), (1, iv 2)]) (nL := 3) rfl rfl rfl ⟨IF.rf hI, trivial⟩ ?_
  refine T_ld zk_54_0 rfl rfl rfl (pc' := 1) rfl ?_
  refine T_calli (K := fun y1 σ' => (-2147483648 ≤ y1 ∧ y1 ≤ 2147483647) ∧ (fun σ' => IF MR σ σ' ∧ True) σ') (r := []) zk_54_1 rfl rfl rfl rfl rfl rfl (Or.inr ⟨_, _, _, _, rfl, vd_29, rfl⟩) (fun σ' h => (w_49   σ' h.1.1 ).le (Nat.le_of_ble_eq_true rfl) (fun v σ2 ⟨y, h1, h2, h3, h4⟩ => ⟨y, h1, h2, h.1.tr h3 MN_sub, trivial⟩)) (pc' := 4) rfl (fun y1 => ?_)
  refine G_ex (fun hy1 => ?_)
  refine T_op zk_54_4 rfl (X_bi (v := 33) (by decide)) (pc' := 6) rfl ?_
  refine T_icmp_eq zk_54_6 (by omega) (by omega) (pc' := 9) rfl (fun h2 => ?_) (fun h3 => ?_)
  ·
    refine T_ld zk_54_23 rfl rfl rfl (pc' := 24) rfl ?_
    refine T_op zk_54_24 rfl (X_bi (v := 20) (by decide)) (pc' := 26) rfl ?_
    refine T_icmp_lt zk_54_26 (by omega) (by omega) (pc' := 29) rfl (fun h4 => ?_) (fun h5 => ?_)
    ·
      refine T_ld zk_54_31 rfl rfl rfl (pc' := 32) rfl ?_
      refine T_op zk_54_32 rfl (X_bi (v := 40) (by decide)) (pc' := 34) rfl ?_
      refine T_calli (K := fun y6 σ' => (y6 = 0 ∨ y6 = 1) ∧ (fun σ' => IF MR σ σ' ∧ True) σ') (r := []) zk_54_34 rfl rfl rfl rfl rfl rfl (Or.inr ⟨_, _, _, _, rfl, vd_29, rfl⟩) (fun σ' h => (w_50 40 (by omega) σ' h.1.1 ).le (Nat.le_of_ble_eq_true rfl) (fun v σ2 ⟨y, h1, h2, h3, h4⟩ => ⟨y, h1, h2, h.1.tr h3 (fun _ _ _ _ h => h), trivial⟩)) (pc' := 37) rfl (fun y6 => ?_)
      refine G_ex (fun hy6 => ?_)
      refine T_if_eq zk_54_37 (by omega) (pc' := 40) rfl (fun h7 => ?_) (fun h8 => ?_)
      ·
        refine T_ld zk_54_65 rfl rfl rfl (pc' := 66) rfl ?_
        refine T_op (st' := [av 29 0 0, av 29 0 0]) zk_54_66 rfl rfl (pc' := 67) rfl ?_
        refine G_getf (lo := -2147483648) (hi := 2147483647) zk_54_67 rfl vd_29 (fun σ' h => h.1.1) (fun _ h => (by have q := h.1; omega)) (pc' := 70) rfl (fun y9 hy9 hy9' => ?_)
        refine T_op zk_54_70 rfl X_ic (pc' := 71) rfl ?_
        refine G_unk zk_54_71 rfl (pc' := 72) rfl (fun y10 hy10 hy10' => ?_)
        refine T_putf (J' := (fun σ' => IF MR σ σ' ∧ σ' 29 0 0 3 = y10 ∧ True)) zk_54_72 rfl rfl vd_29 (fun σ' h => ⟨h.1.up (by simp only [rgP] <;> omega) (by first | exact pMR rfl | (unfold MR; omega)), up_eq, trivial⟩) (pc' := 75) rfl ?_
        refine T_ld zk_54_75 rfl rfl rfl (pc' := 76) rfl ?_
        refine T_ld zk_54_76 rfl rfl rfl (pc' := 77) rfl ?_
        refine T_op zk_54_77 rfl X_ic (pc' := 78) rfl ?_
        refine T_opc (w := 3) zk_54_78 rfl X_add (by omega) (pc' := 79) rfl ?_
        refine T_calli (K := fun y11 σ' => (y11 = 0 ∨ y11 = 1) ∧ (fun σ' => IF MR σ σ' ∧ True) σ') (r := []) zk_54_79 rfl rfl rfl rfl rfl rfl (Or.inr ⟨_, _, _, _, rfl, vd_29, rfl⟩) (fun σ' h => (w_54_3   σ' h.1.1 ).le (Nat.le_of_ble_eq_true rfl) (fun v σ2 ⟨y, h1, h2, h3, h4⟩ => ⟨y, h1, h2, h.1.tr h3 (fun _ _ _ _ h => h), trivial⟩)) (pc' := 82) rfl (fun y11 => ?_)
        refine G_ex (fun hy11 => ?_)
        refine T_st (L' := [(0, av 29 0 0), (1, iv 2), (2, iv y11)]) zk_54_82 (nL := 3) rfl rfl rfl rfl rfl (pc' := 83) rfl ?_
        refine T_ld zk_54_83 rfl rfl rfl (pc' := 84) rfl ?_
        refine T_getR (t' := 30) (i' := 0) (k' := 0) zk_54_84 rfl rfl rfl vd_29 (pc' := 87) rfl ?_
        refine T_op zk_54_87 rfl X_ic (pc' := 88) rfl ?_
        refine T_callv (J' := (fun σ' => IF MR σ σ' ∧ True)) (r := []) zk_54_88 rfl rfl rfl rfl rfl rfl (Or.inr ⟨_, _, _, _, rfl, vd_30, rfl⟩) (fun σ' h => (w_42 ((-1)) (by omega) σ' h.1.1 ).le (Nat.le_of_ble_eq_true rfl) (fun v σ2 ⟨h1, h3, h4⟩ => ⟨h1, h.1.tr h3 (fun _ _ _ _ h => h), trivial⟩)) (pc' := 91) rfl ?_
        refine T_ld zk_54_91 rfl rfl rfl (pc' := 92) rfl ?_
        exact T_zret zk_54_92 rfl (by omega) (fun σ' h => ⟨_, rfl, (by omega), h.1, trivial⟩)
      ·
        refine T_ld zk_54_40 rfl rfl rfl (pc' := 41) rfl ?_
        refine T_ld zk_54_41 rfl rfl rfl (pc' := 42) rfl ?_
        refine T_op zk_54_42 rfl X_ic (pc' := 43) rfl ?_
        refine T_opc (w := 3) zk_54_43 rfl X_add (by omega) (pc' := 44) rfl ?_
        refine T_calli (K := fun y13 σ' => (y13 = 0 ∨ y13 = 1) ∧ (fun σ' => IF MR σ σ' ∧ True) σ') (r := []) zk_54_44 rfl rfl rfl rfl rfl rfl (Or.inr ⟨_, _, _, _, rfl, vd_29, rfl⟩) (fun σ' h => (w_52_3   σ' h.1.1 ).le (Nat.le_of_ble_eq_true rfl) (fun v σ2 ⟨y, h1, h2, h3, h4⟩ => ⟨y, h1, h2, h.1.tr h3 (fun _ _ _ _ h => h), trivial⟩)) (pc' := 47) rfl (fun y13 => ?_)
        refine G_ex (fun hy13 => ?_)
        refine T_if_eq zk_54_47 (by omega) (pc' := 50) rfl (fun h14 => ?_) (fun h15 => ?_)
        ·
          refine T_op zk_54_63 rfl X_ic (pc' := 64) rfl ?_
          exact T_zret zk_54_64 rfl (by omega) (fun σ' h => ⟨_, rfl, (by omega), h.1, trivial⟩)
        ·
          refine T_ld zk_54_50 rfl rfl rfl (pc' := 51) rfl ?_
          refine T_op zk_54_51 rfl (X_bi (v := 41) (by decide)) (pc' := 53) rfl ?_
          refine T_calli (K := fun y16 σ' => (y16 = 0 ∨ y16 = 1) ∧ (fun σ' => IF MR σ σ' ∧ True) σ') (r := []) zk_54_53 rfl rfl rfl rfl rfl rfl (Or.inr ⟨_, _, _, _, rfl, vd_29, rfl⟩) (fun σ' h => (w_50 41 (by omega) σ' h.1.1 ).le (Nat.le_of_ble_eq_true rfl) (fun v σ2 ⟨y, h1, h2, h3, h4⟩ => ⟨y, h1, h2, h.1.tr h3 (fun _ _ _ _ h => h), trivial⟩)) (pc' := 56) rfl (fun y16 => ?_)
          refine G_ex (fun hy16 => ?_)
          refine T_if_eq zk_54_56 (by omega) (pc' := 59) rfl (fun h17 => ?_) (fun h18 => ?_)
          ·
            refine T_op zk_54_63 rfl X_ic (pc' := 64) rfl ?_
            exact T_zret zk_54_64 rfl (by omega) (fun σ' h => ⟨_, rfl, (by omega), h.1, trivial⟩)
          ·
            refine T_op zk_54_59 rfl X_ic (pc' := 60) rfl ?_
            refine T_goto zk_54_60 ?_
            exact T_zret zk_54_64 rfl (by omega) (fun σ' h => ⟨_, rfl, (by omega), h.1, trivial⟩)
    · exfalso; omega
  ·
    refine T_ld zk_54_9 rfl rfl rfl (pc' := 10) rfl ?_
    refine T_calli (K := fun y19 σ' => (-2147483648 ≤ y19 ∧ y19 ≤ 2147483647) ∧ (fun σ' => IF MR σ σ' ∧ True) σ') (r := []) zk_54_10 rfl rfl rfl rfl rfl rfl (Or.inr ⟨_, _, _, _, rfl, vd_29, rfl⟩) (fun σ' h => (w_49   σ' h.1.1 ).le (Nat.le_of_ble_eq_true rfl) (fun v σ2 ⟨y, h1, h2, h3, h4⟩ => ⟨y, h1, h2, h.1.tr h3 MN_sub, trivial⟩)) (pc' := 13) rfl (fun y19 => ?_)
    refine G_ex (fun hy19 => ?_)
    refine T_op zk_54_13 rfl (X_bi (v := 40) (by decide)) (pc' := 15) rfl ?_
    refine T_icmp_eq zk_54_15 (by omega) (by omega) (pc' := 18) rfl (fun h20 => ?_) (fun h21 => ?_)
    ·
      refine T_ld zk_54_23 rfl rfl rfl (pc' := 24) rfl ?_
      refine T_op zk_54_24 rfl (X_bi (v := 20) (by decide)) (pc' := 26) rfl ?_
      refine T_icmp_lt zk_54_26 (by omega) (by omega) (pc' := 29) rfl (fun h22 => ?_) (fun h23 => ?_)
      ·
        refine T_ld zk_54_31 rfl rfl rfl (pc' := 32) rfl ?_
        refine T_op zk_54_32 rfl (X_bi (v := 40) (by decide)) (pc' := 34) rfl ?_
        refine T_calli (K := fun y24 σ' => (y24 = 0 ∨ y24 = 1) ∧ (fun σ' => IF MR σ σ' ∧ True) σ') (r := []) zk_54_34 rfl rfl rfl rfl rfl rfl (Or.inr ⟨_, _, _, _, rfl, vd_29, rfl⟩) (fun σ' h => (w_50 40 (by omega) σ' h.1.1 ).le (Nat.le_of_ble_eq_true rfl) (fun v σ2 ⟨y, h1, h2, h3, h4⟩ => ⟨y, h1, h2, h.1.tr h3 (fun _ _ _ _ h => h), trivial⟩)) (pc' := 37) rfl (fun y24 => ?_)
        refine G_ex (fun hy24 => ?_)
        refine T_if_eq zk_54_37 (by omega) (pc' := 40) rfl (fun h25 => ?_) (fun h26 => ?_)
        ·
          refine T_ld zk_54_65 rfl rfl rfl (pc' := 66) rfl ?_
          refine T_op (st' := [av 29 0 0, av 29 0 0]) zk_54_66 rfl rfl (pc' := 67) rfl ?_
          refine G_getf (lo := -2147483648) (hi := 2147483647) zk_54_67 rfl vd_29 (fun σ' h => h.1.1) (fun _ h => (by have q := h.1; omega)) (pc' := 70) rfl (fun y27 hy27 hy27' => ?_)
          refine T_op zk_54_70 rfl X_ic (pc' := 71) rfl ?_
          refine G_unk zk_54_71 rfl (pc' := 72) rfl (fun y28 hy28 hy28' => ?_)
          refine T_putf (J' := (fun σ' => IF MR σ σ' ∧ σ' 29 0 0 3 = y28 ∧ True)) zk_54_72 rfl rfl vd_29 (fun σ' h => ⟨h.1.up (by simp only [rgP] <;> omega) (by first | exact pMR rfl | (unfold MR; omega)), up_eq, trivial⟩) (pc' := 75) rfl ?_
          refine T_ld zk_54_75 rfl rfl rfl (pc' := 76) rfl ?_
          refine T_ld zk_54_76 rfl rfl rfl (pc' := 77) rfl ?_
          refine T_op zk_54_77 rfl X_ic (pc' := 78) rfl ?_
          refine T_opc (w := 3) zk_54_78 rfl X_add (by omega) (pc' := 79) rfl ?_
          refine T_calli (K := fun y29 σ' => (y29 = 0 ∨ y29 = 1) ∧ (fun σ' => IF MR σ σ' ∧ True) σ') (r := []) zk_54_79 rfl rfl rfl rfl rfl rfl (Or.inr ⟨_, _, _, _, rfl, vd_29, rfl⟩) (fun σ' h => (w_54_3   σ' h.1.1 ).le (Nat.le_of_ble_eq_true rfl) (fun v σ2 ⟨y, h1, h2, h3, h4⟩ => ⟨y, h1, h2, h.1.tr h3 (fun _ _ _ _ h => h), trivial⟩)) (pc' := 82) rfl (fun y29 => ?_)
          refine G_ex (fun hy29 => ?_)
          refine T_st (L' := [(0, av 29 0 0), (1, iv 2), (2, iv y29)]) zk_54_82 (nL := 3) rfl rfl rfl rfl rfl (pc' := 83) rfl ?_
          refine T_ld zk_54_83 rfl rfl rfl (pc' := 84) rfl ?_
          refine T_getR (t' := 30) (i' := 0) (k' := 0) zk_54_84 rfl rfl rfl vd_29 (pc' := 87) rfl ?_
          refine T_op zk_54_87 rfl X_ic (pc' := 88) rfl ?_
          refine T_callv (J' := (fun σ' => IF MR σ σ' ∧ True)) (r := []) zk_54_88 rfl rfl rfl rfl rfl rfl (Or.inr ⟨_, _, _, _, rfl, vd_30, rfl⟩) (fun σ' h => (w_42 ((-1)) (by omega) σ' h.1.1 ).le (Nat.le_of_ble_eq_true rfl) (fun v σ2 ⟨h1, h3, h4⟩ => ⟨h1, h.1.tr h3 (fun _ _ _ _ h => h), trivial⟩)) (pc' := 91) rfl ?_
          refine T_ld zk_54_91 rfl rfl rfl (pc' := 92) rfl ?_
          exact T_zret zk_54_92 rfl (by omega) (fun σ' h => ⟨_, rfl, (by omega), h.1, trivial⟩)
        ·
          refine T_ld zk_54_40 rfl rfl rfl (pc' := 41) rfl ?_
          refine T_ld zk_54_41 rfl rfl rfl (pc' := 42) rfl ?_
          refine T_op zk_54_42 rfl X_ic (pc' := 43) rfl ?_
          refine T_opc (w := 3) zk_54_43 rfl X_add (by omega) (pc' := 44) rfl ?_
          refine T_calli (K := fun y31 σ' => (y31 = 0 ∨ y31 = 1) ∧ (fun σ' => IF MR σ σ' ∧ True) σ') (r := []) zk_54_44 rfl rfl rfl rfl rfl rfl (Or.inr ⟨_, _, _, _, rfl, vd_29, rfl⟩) (fun σ' h => (w_52_3   σ' h.1.1 ).le (Nat.le_of_ble_eq_true rfl) (fun v σ2 ⟨y, h1, h2, h3, h4⟩ => ⟨y, h1, h2, h.1.tr h3 (fun _ _ _ _ h => h), trivial⟩)) (pc' := 47) rfl (fun y31 => ?_)
          refine G_ex (fun hy31 => ?_)
          refine T_if_eq zk_54_47 (by omega) (pc' := 50) rfl (fun h32 => ?_) (fun h33 => ?_)
          ·
            refine T_op zk_54_63 rfl X_ic (pc' := 64) rfl ?_
            exact T_zret zk_54_64 rfl (by omega) (fun σ' h => ⟨_, rfl, (by omega), h.1, trivial⟩)
          ·
            refine T_ld zk_54_50 rfl rfl rfl (pc' := 51) rfl ?_
            refine T_op zk_54_51 rfl (X_bi (v := 41) (by decide)) (pc' := 53) rfl ?_
            refine T_calli (K := fun y34 σ' => (y34 = 0 ∨ y34 = 1) ∧ (fun σ' => IF MR σ σ' ∧ True) σ') (r := []) zk_54_53 rfl rfl rfl rfl rfl rfl (Or.inr ⟨_, _, _, _, rfl, vd_29, rfl⟩) (fun σ' h => (w_50 41 (by omega) σ' h.1.1 ).le (Nat.le_of_ble_eq_true rfl) (fun v σ2 ⟨y, h1, h2, h3, h4⟩ => ⟨y, h1, h2, h.1.tr h3 (fun _ _ _ _ h => h), trivial⟩)) (pc' := 56) rfl (fun y34 => ?_)
            refine G_ex (fun hy34 => ?_)
            refine T_if_eq zk_54_56 (by omega) (pc' := 59) rfl (fun h35 => ?_) (fun h36 => ?_)
            ·
              refine T_op zk_54_63 rfl X_ic (pc' := 64) rfl ?_
              exact T_zret zk_54_64 rfl (by omega) (fun σ' h => ⟨_, rfl, (by omega), h.1, trivial⟩)
            ·
              refine T_op zk_54_59 rfl X_ic (pc' := 60) rfl ?_
              refine T_goto zk_54_60 ?_
              exact T_zret zk_54_64 rfl (by omega) (fun σ' h => ⟨_, rfl, (by omega), h.1, trivial⟩)
      · exfalso; omega
    ·
      refine T_ld zk_54_18 rfl rfl rfl (pc' := 19) rfl ?_
      refine T_calli (K := fun y37 σ' => (y37 = 0 ∨ y37 = 1) ∧ (fun σ' => IF MR σ σ' ∧ True) σ') (r := []) zk_54_19 rfl rfl rfl rfl rfl rfl (Or.inr ⟨_, _, _, _, rfl, vd_29, rfl⟩) (fun σ' h => (w_55   σ' h.1.1 ).le (Nat.le_of_ble_eq_true rfl) (fun v σ2 ⟨y, h1, h2, h3, h4⟩ => ⟨y, h1, h2, h.1.tr h3 (fun _ _ _ _ h => h), trivial⟩)) (pc' := 22) rfl (fun y37 => ?_)
      refine G_ex (fun hy37 => ?_)
      exact T_zret zk_54_22 rfl (by omega) (fun σ' h => ⟨_, rfl, (by omega), h.1, trivial⟩)
/-- W$LawReader.readBoth -/
theorem w_53_2 {xs : Nat × (Nat → Int32)}   (σ : ZS) (hI : Inv σ)   : CT xs 59 53 [av 29 0 0, iv 2] σ (fun v σ' => ∃ y, v = some (iv y) ∧ (y = 0 ∨ y = 1) ∧ IF MR σ σ' ∧ (True)) := by
  refine G_ct (J := (fun σ' => IF MR σ σ' ∧ True)) (L := [(0, av 29 0 0), (1, iv 2)]) (nL := 4) rfl rfl rfl ⟨IF.rf hI, trivial⟩ ?_
  refine T_ld zk_53_0 rfl rfl rfl (pc' := 1) rfl ?_
  refine T_ld zk_53_1 rfl rfl rfl (pc' := 2) rfl ?_
  refine T_calli (K := fun y1 σ' => (y1 = 0 ∨ y1 = 1) ∧ (fun σ' => IF MR σ σ' ∧ True) σ') (r := []) zk_53_2 rfl rfl rfl rfl rfl rfl (Or.inr ⟨_, _, _, _, rfl, vd_29, rfl⟩) (fun σ' h => (w_54_2   σ' h.1.1 ).le (Nat.le_of_ble_eq_true rfl) (fun v σ2 ⟨y, h1, h2, h3, h4⟩ => ⟨y, h1, h2, h.1.tr h3 (fun _ _ _ _ h => h), trivial⟩)) (pc' := 5) rfl (fun y1 => ?_)
  refine G_ex (fun hy1 => ?_)
  refine T_st (L' := [(0, av 29 0 0), (1, iv 2), (2, iv y1)]) zk_53_5 (nL := 4) rfl rfl rfl rfl rfl (pc' := 6) rfl ?_
  refine T_op zk_53_6 rfl X_ic (pc' := 7) rfl ?_
  refine T_st (L' := [(0, av 29 0 0), (1, iv 2), (2, iv y1), (3, iv 0)]) zk_53_7 (nL := 4) rfl rfl rfl rfl rfl (pc' := 8) rfl ?_
  refine T_loop2 (fun x2 x3 => ((96 - x3 : Int)).toNat) (fun x2 x3 => (0 ≤ x2 ∧ x2 ≤ 1) ∧ (0 ≤ x3 ∧ x3 ≤ 96)) (fun x2 x3 => TJ xs (fun σ' => IF MR σ σ' ∧ True) 58 53 8 [(0, av 29 0 0), (1, iv 2), (2, iv x2), (3, iv x3)] [] _) ?_ y1 0 (by omega)
  intro x2 x3 hp5 ih4
  refine T_ld zk_53_8 rfl rfl rfl (pc' := 9) rfl ?_
  refine T_op zk_53_9 rfl (X_bi (v := 96) (by decide)) (pc' := 11) rfl ?_
  refine T_icmp_ge zk_53_11 (by omega) (by omega) (pc' := 14) rfl (fun h6 => ?_) (fun h7 => ?_)
  ·
    refine T_ld zk_53_48 rfl rfl rfl (pc' := 49) rfl ?_
    exact T_zret zk_53_49 rfl (by omega) (fun σ' h => ⟨_, rfl, (by omega), h.1, trivial⟩)
  ·
    refine T_ld zk_53_14 rfl rfl rfl (pc' := 15) rfl ?_
    refine T_if_eq zk_53_15 (by omega) (pc' := 18) rfl (fun h8 => ?_) (fun h9 => ?_)
    ·
      refine T_ld zk_53_48 rfl rfl rfl (pc' := 49) rfl ?_
      exact T_zret zk_53_49 rfl (by omega) (fun σ' h => ⟨_, rfl, (by omega), h.1, trivial⟩)
    ·
      refine T_ld zk_53_18 rfl rfl rfl (pc' := 19) rfl ?_
      refine T_op zk_53_19 rfl (X_bi (v := 38) (by decide)) (pc' := 21) rfl ?_
      refine T_calli (K := fun y10 σ' => (y10 = 0 ∨ y10 = 1) ∧ (fun σ' => IF MR σ σ' ∧ True) σ') (r := []) zk_53_21 rfl rfl rfl rfl rfl rfl (Or.inr ⟨_, _, _, _, rfl, vd_29, rfl⟩) (fun σ' h => (w_50 38 (by omega) σ' h.1.1 ).le (Nat.le_of_ble_eq_true rfl) (fun v σ2 ⟨y, h1, h2, h3, h4⟩ => ⟨y, h1, h2, h.1.tr h3 (fun _ _ _ _ h => h), trivial⟩)) (pc' := 24) rfl (fun y10 => ?_)
      refine G_ex (fun hy10 => ?_)
      refine T_if_eq zk_53_24 (by omega) (pc' := 27) rfl (fun h11 => ?_) (fun h12 => ?_)
      ·
        refine T_ld zk_53_48 rfl rfl rfl (pc' := 49) rfl ?_
        exact T_zret zk_53_49 rfl (by omega) (fun σ' h => ⟨_, rfl, (by omega), h.1, trivial⟩)
      ·
        refine T_ld zk_53_27 rfl rfl rfl (pc' := 28) rfl ?_
        refine T_ld zk_53_28 rfl rfl rfl (pc' := 29) rfl ?_
        refine T_calli (K := fun y13 σ' => (y13 = 0 ∨ y13 = 1) ∧ (fun σ' => IF MR σ σ' ∧ True) σ') (r := []) zk_53_29 rfl rfl rfl rfl rfl rfl (Or.inr ⟨_, _, _, _, rfl, vd_29, rfl⟩) (fun σ' h => (w_54_2   σ' h.1.1 ).le (Nat.le_of_ble_eq_true rfl) (fun v σ2 ⟨y, h1, h2, h3, h4⟩ => ⟨y, h1, h2, h.1.tr h3 (fun _ _ _ _ h => h), trivial⟩)) (pc' := 32) rfl (fun y13 => ?_)
        refine G_ex (fun hy13 => ?_)
        refine T_st (L' := [(0, av 29 0 0), (1, iv 2), (2, iv y13), (3, iv x3)]) zk_53_32 (nL := 4) rfl rfl rfl rfl rfl (pc' := 33) rfl ?_
        refine T_ld zk_53_33 rfl rfl rfl (pc' := 34) rfl ?_
        refine T_getR (t' := 30) (i' := 0) (k' := 0) zk_53_34 rfl rfl rfl vd_29 (pc' := 37) rfl ?_
        refine T_op zk_53_37 rfl (X_bi (v := -2) (by decide)) (pc' := 39) rfl ?_
        refine T_callv (J' := (fun σ' => IF MR σ σ' ∧ True)) (r := []) zk_53_39 rfl rfl rfl rfl rfl rfl (Or.inr ⟨_, _, _, _, rfl, vd_30, rfl⟩) (fun σ' h => (w_42 ((-2)) (by omega) σ' h.1.1 ).le (Nat.le_of_ble_eq_true rfl) (fun v σ2 ⟨h1, h3, h4⟩ => ⟨h1, h.1.tr h3 (fun _ _ _ _ h => h), trivial⟩)) (pc' := 42) rfl ?_
        refine T_iinc (L' := [(0, av 29 0 0), (1, iv 2), (2, iv y13), (3, iv (x3 + 1))]) zk_53_42 (nL := 4) rfl rfl rfl rfl (pc' := 45) rfl ?_
        refine T_goto zk_53_45 ?_
        exact ih4 y13 (x3 + 1) (by omega) (by omega)
/-- W$LawReader.readEither -/
theorem w_52_2 {xs : Nat × (Nat → Int32)}   (σ : ZS) (hI : Inv σ)   : CT xs 60 52 [av 29 0 0, iv 2] σ (fun v σ' => ∃ y, v = some (iv y) ∧ (y = 0 ∨ y = 1) ∧ IF MR σ σ' ∧ (True)) := by
  refine G_ct (J := (fun σ' => IF MR σ σ' ∧ True)) (L := [(0, av 29 0 0), (1, iv 2)]) (nL := 4) rfl rfl rfl ⟨IF.rf hI, trivial⟩ ?_
  refine T_ld zk_52_0 rfl rfl rfl (pc' := 1) rfl ?_
  refine T_ld zk_52_1 rfl rfl rfl (pc' := 2) rfl ?_
  refine T_calli (K := fun y1 σ' => (y1 = 0 ∨ y1 = 1) ∧ (fun σ' => IF MR σ σ' ∧ True) σ') (r := []) zk_52_2 rfl rfl rfl rfl rfl rfl (Or.inr ⟨_, _, _, _, rfl, vd_29, rfl⟩) (fun σ' h => (w_53_2   σ' h.1.1 ).le (Nat.le_of_ble_eq_true rfl) (fun v σ2 ⟨y, h1, h2, h3, h4⟩ => ⟨y, h1, h2, h.1.tr h3 (fun _ _ _ _ h => h), trivial⟩)) (pc' := 5) rfl (fun y1 => ?_)
  refine G_ex (fun hy1 => ?_)
  refine T_st (L' := [(0, av 29 0 0), (1, iv 2), (2, iv y1)]) zk_52_5 (nL := 4) rfl rfl rfl rfl rfl (pc' := 6) rfl ?_
  refine T_op zk_52_6 rfl X_ic (pc' := 7) rfl ?_
  refine T_st (L' := [(0, av 29 0 0), (1, iv 2), (2, iv y1), (3, iv 0)]) zk_52_7 (nL := 4) rfl rfl rfl rfl rfl (pc' := 8) rfl ?_
  refine T_loop2 (fun x2 x3 => ((96 - x3 : Int)).toNat) (fun x2 x3 => (0 ≤ x2 ∧ x2 ≤ 1) ∧ (0 ≤ x3 ∧ x3 ≤ 96)) (fun x2 x3 => TJ xs (fun σ' => IF MR σ σ' ∧ True) 59 52 8 [(0, av 29 0 0), (1, iv 2), (2, iv x2), (3, iv x3)] [] _) ?_ y1 0 (by omega)
  intro x2 x3 hp5 ih4
  refine T_ld zk_52_8 rfl rfl rfl (pc' := 9) rfl ?_
  refine T_op zk_52_9 rfl (X_bi (v := 96) (by decide)) (pc' := 11) rfl ?_
  refine T_icmp_ge zk_52_11 (by omega) (by omega) (pc' := 14) rfl (fun h6 => ?_) (fun h7 => ?_)
  ·
    refine T_ld zk_52_48 rfl rfl rfl (pc' := 49) rfl ?_
    exact T_zret zk_52_49 rfl (by omega) (fun σ' h => ⟨_, rfl, (by omega), h.1, trivial⟩)
  ·
    refine T_ld zk_52_14 rfl rfl rfl (pc' := 15) rfl ?_
    refine T_if_eq zk_52_15 (by omega) (pc' := 18) rfl (fun h8 => ?_) (fun h9 => ?_)
    ·
      refine T_ld zk_52_48 rfl rfl rfl (pc' := 49) rfl ?_
      exact T_zret zk_52_49 rfl (by omega) (fun σ' h => ⟨_, rfl, (by omega), h.1, trivial⟩)
    ·
      refine T_ld zk_52_18 rfl rfl rfl (pc' := 19) rfl ?_
      refine T_op zk_52_19 rfl (X_bi (v := 124) (by decide)) (pc' := 21) rfl ?_
      refine T_calli (K := fun y10 σ' => (y10 = 0 ∨ y10 = 1) ∧ (fun σ' => IF MR σ σ' ∧ True) σ') (r := []) zk_52_21 rfl rfl rfl rfl rfl rfl (Or.inr ⟨_, _, _, _, rfl, vd_29, rfl⟩) (fun σ' h => (w_50 124 (by omega) σ' h.1.1 ).le (Nat.le_of_ble_eq_true rfl) (fun v σ2 ⟨y, h1, h2, h3, h4⟩ => ⟨y, h1, h2, h.1.tr h3 (fun _ _ _ _ h => h), trivial⟩)) (pc' := 24) rfl (fun y10 => ?_)
      refine G_ex (fun hy10 => ?_)
      refine T_if_eq zk_52_24 (by omega) (pc' := 27) rfl (fun h11 => ?_) (fun h12 => ?_)
      ·
        refine T_ld zk_52_48 rfl rfl rfl (pc' := 49) rfl ?_
        exact T_zret zk_52_49 rfl (by omega) (fun σ' h => ⟨_, rfl, (by omega), h.1, trivial⟩)
      ·
        refine T_ld zk_52_27 rfl rfl rfl (pc' := 28) rfl ?_
        refine T_ld zk_52_28 rfl rfl rfl (pc' := 29) rfl ?_
        refine T_calli (K := fun y13 σ' => (y13 = 0 ∨ y13 = 1) ∧ (fun σ' => IF MR σ σ' ∧ True) σ') (r := []) zk_52_29 rfl rfl rfl rfl rfl rfl (Or.inr ⟨_, _, _, _, rfl, vd_29, rfl⟩) (fun σ' h => (w_53_2   σ' h.1.1 ).le (Nat.le_of_ble_eq_true rfl) (fun v σ2 ⟨y, h1, h2, h3, h4⟩ => ⟨y, h1, h2, h.1.tr h3 (fun _ _ _ _ h => h), trivial⟩)) (pc' := 32) rfl (fun y13 => ?_)
        refine G_ex (fun hy13 => ?_)
        refine T_st (L' := [(0, av 29 0 0), (1, iv 2), (2, iv y13), (3, iv x3)]) zk_52_32 (nL := 4) rfl rfl rfl rfl rfl (pc' := 33) rfl ?_
        refine T_ld zk_52_33 rfl rfl rfl (pc' := 34) rfl ?_
        refine T_getR (t' := 30) (i' := 0) (k' := 0) zk_52_34 rfl rfl rfl vd_29 (pc' := 37) rfl ?_
        refine T_op zk_52_37 rfl (X_bi (v := -3) (by decide)) (pc' := 39) rfl ?_
        refine T_callv (J' := (fun σ' => IF MR σ σ' ∧ True)) (r := []) zk_52_39 rfl rfl rfl rfl rfl rfl (Or.inr ⟨_, _, _, _, rfl, vd_30, rfl⟩) (fun σ' h => (w_42 ((-3)) (by omega) σ' h.1.1 ).le (Nat.le_of_ble_eq_true rfl) (fun v σ2 ⟨h1, h3, h4⟩ => ⟨h1, h.1.tr h3 (fun _ _ _ _ h => h), trivial⟩)) (pc' := 42) rfl ?_
        refine T_iinc (L' := [(0, av 29 0 0), (1, iv 2), (2, iv y13), (3, iv (x3 + 1))]) zk_52_42 (nL := 4) rfl rfl rfl rfl (pc' := 45) rfl ?_
        refine T_goto zk_52_45 ?_
        exact ih4 y13 (x3 + 1) (by omega) (by omega)
/-- W$LawReader.readPart -/
theorem w_54_1 {xs : Nat × (Nat → Int32)}   (σ : ZS) (hI : Inv σ)   : CT xs 61 54 [av 29 0 0, iv 1] σ (fun v σ' => ∃ y, v = some (iv y) ∧ (y = 0 ∨ y = 1) ∧ IF MR σ σ' ∧ (True)) := by
  refine G_ct (J := (fun σ' => IF MR σ σ' ∧ True)) (L := [(0, av 29 0 0), (1, iv 1)]) (nL := 3) rfl rfl rfl ⟨IF.rf hI, trivial⟩ ?_
  refine T_ld zk_54_0 rfl rfl rfl (pc' := 1) rfl ?_
  refine T_calli (K := fun y1 σ' => (-2147483648 ≤ y1 ∧ y1 ≤ 2147483647) ∧ (fun σ' => IF MR σ σ' ∧ True) σ') (r := []) zk_54_1 rfl rfl rfl rfl rfl rfl (Or.inr ⟨_, _, _, _, rfl, vd_29, rfl⟩) (fun σ' h => (w_49   σ' h.1.1 ).le (Nat.le_of_ble_eq_true rfl) (fun v σ2 ⟨y, h1, h2, h3, h4⟩ => ⟨y, h1, h2, h.1.tr h3 MN_sub, trivial⟩)) (pc' := 4) rfl (fun y1 => ?_)
  refine G_ex (fun hy1 => ?_)
  refine T_op zk_54_4 rfl (X_bi (v := 33) (by decide)) (pc' := 6) rfl ?_
  refine T_icmp_eq zk_54_6 (by omega) (by omega) (pc' := 9) rfl (fun h2 => ?_) (fun h3 => ?_)
  ·
    refine T_ld zk_54_23 rfl rfl rfl (pc' := 24) rfl ?_
    refine T_op zk_54_24 rfl (X_bi (v := 20) (by decide)) (pc' := 26) rfl ?_
    refine T_icmp_lt zk_54_26 (by omega) (by omega) (pc' := 29) rfl (fun h4 => ?_) (fun h5 => ?_)
    ·
      refine T_ld zk_54_31 rfl rfl rfl (pc' := 32) rfl ?_
      refine T_op zk_54_32 rfl (X_bi (v := 40) (by decide)) (pc' := 34) rfl ?_
      refine T_calli (K := fun y6 σ' => (y6 = 0 ∨ y6 = 1) ∧ (fun σ' => IF MR σ σ' ∧ True) σ') (r := []) zk_54_34 rfl rfl rfl rfl rfl rfl (Or.inr ⟨_, _, _, _, rfl, vd_29, rfl⟩) (fun σ' h => (w_50 40 (by omega) σ' h.1.1 ).le (Nat.le_of_ble_eq_true rfl) (fun v σ2 ⟨y, h1, h2, h3, h4⟩ => ⟨y, h1, h2, h.1.tr h3 (fun _ _ _ _ h => h), trivial⟩)) (pc' := 37) rfl (fun y6 => ?_)
      refine G_ex (fun hy6 => ?_)
      refine T_if_eq zk_54_37 (by omega) (pc' := 40) rfl (fun h7 => ?_) (fun h8 => ?_)
      ·
        refine T_ld zk_54_65 rfl rfl rfl (pc' := 66) rfl ?_
        refine T_op (st' := [av 29 0 0, av 29 0 0]) zk_54_66 rfl rfl (pc' := 67) rfl ?_
        refine G_getf (lo := -2147483648) (hi := 2147483647) zk_54_67 rfl vd_29 (fun σ' h => h.1.1) (fun _ h => (by have q := h.1; omega)) (pc' := 70) rfl (fun y9 hy9 hy9' => ?_)
        refine T_op zk_54_70 rfl X_ic (pc' := 71) rfl ?_
        refine G_unk zk_54_71 rfl (pc' := 72) rfl (fun y10 hy10 hy10' => ?_)
        refine T_putf (J' := (fun σ' => IF MR σ σ' ∧ σ' 29 0 0 3 = y10 ∧ True)) zk_54_72 rfl rfl vd_29 (fun σ' h => ⟨h.1.up (by simp only [rgP] <;> omega) (by first | exact pMR rfl | (unfold MR; omega)), up_eq, trivial⟩) (pc' := 75) rfl ?_
        refine T_ld zk_54_75 rfl rfl rfl (pc' := 76) rfl ?_
        refine T_ld zk_54_76 rfl rfl rfl (pc' := 77) rfl ?_
        refine T_op zk_54_77 rfl X_ic (pc' := 78) rfl ?_
        refine T_opc (w := 2) zk_54_78 rfl X_add (by omega) (pc' := 79) rfl ?_
        refine T_calli (K := fun y11 σ' => (y11 = 0 ∨ y11 = 1) ∧ (fun σ' => IF MR σ σ' ∧ True) σ') (r := []) zk_54_79 rfl rfl rfl rfl rfl rfl (Or.inr ⟨_, _, _, _, rfl, vd_29, rfl⟩) (fun σ' h => (w_54_2   σ' h.1.1 ).le (Nat.le_of_ble_eq_true rfl) (fun v σ2 ⟨y, h1, h2, h3, h4⟩ => ⟨y, h1, h2, h.1.tr h3 (fun _ _ _ _ h => h), trivial⟩)) (pc' := 82) rfl (fun y11 => ?_)
        refine G_ex (fun hy11 => ?_)
        refine T_st (L' := [(0, av 29 0 0), (1, iv 1), (2, iv y11)]) zk_54_82 (nL := 3) rfl rfl rfl rfl rfl (pc' := 83) rfl ?_
        refine T_ld zk_54_83 rfl rfl rfl (pc' := 84) rfl ?_
        refine T_getR (t' := 30) (i' := 0) (k' := 0) zk_54_84 rfl rfl rfl vd_29 (pc' := 87) rfl ?_
        refine T_op zk_54_87 rfl X_ic (pc' := 88) rfl ?_
        refine T_callv (J' := (fun σ' => IF MR σ σ' ∧ True)) (r := []) zk_54_88 rfl rfl rfl rfl rfl rfl (Or.inr ⟨_, _, _, _, rfl, vd_30, rfl⟩) (fun σ' h => (w_42 ((-1)) (by omega) σ' h.1.1 ).le (Nat.le_of_ble_eq_true rfl) (fun v σ2 ⟨h1, h3, h4⟩ => ⟨h1, h.1.tr h3 (fun _ _ _ _ h => h), trivial⟩)) (pc' := 91) rfl ?_
        refine T_ld zk_54_91 rfl rfl rfl (pc' := 92) rfl ?_
        exact T_zret zk_54_92 rfl (by omega) (fun σ' h => ⟨_, rfl, (by omega), h.1, trivial⟩)
      ·
        refine T_ld zk_54_40 rfl rfl rfl (pc' := 41) rfl ?_
        refine T_ld zk_54_41 rfl rfl rfl (pc' := 42) rfl ?_
        refine T_op zk_54_42 rfl X_ic (pc' := 43) rfl ?_
        refine T_opc (w := 2) zk_54_43 rfl X_add (by omega) (pc' := 44) rfl ?_
        refine T_calli (K := fun y13 σ' => (y13 = 0 ∨ y13 = 1) ∧ (fun σ' => IF MR σ σ' ∧ True) σ') (r := []) zk_54_44 rfl rfl rfl rfl rfl rfl (Or.inr ⟨_, _, _, _, rfl, vd_29, rfl⟩) (fun σ' h => (w_52_2   σ' h.1.1 ).le (Nat.le_of_ble_eq_true rfl) (fun v σ2 ⟨y, h1, h2, h3, h4⟩ => ⟨y, h1, h2, h.1.tr h3 (fun _ _ _ _ h => h), trivial⟩)) (pc' := 47) rfl (fun y13 => ?_)
        refine G_ex (fun hy13 => ?_)
        refine T_if_eq zk_54_47 (by omega) (pc' := 50) rfl (fun h14 => ?_) (fun h15 => ?_)
        ·
          refine T_op zk_54_63 rfl X_ic (pc' := 64) rfl ?_
          exact T_zret zk_54_64 rfl (by omega) (fun σ' h => ⟨_, rfl, (by omega), h.1, trivial⟩)
        ·
          refine T_ld zk_54_50 rfl rfl rfl (pc' := 51) rfl ?_
          refine T_op zk_54_51 rfl (X_bi (v := 41) (by decide)) (pc' := 53) rfl ?_
          refine T_calli (K := fun y16 σ' => (y16 = 0 ∨ y16 = 1) ∧ (fun σ' => IF MR σ σ' ∧ True) σ') (r := []) zk_54_53 rfl rfl rfl rfl rfl rfl (Or.inr ⟨_, _, _, _, rfl, vd_29, rfl⟩) (fun σ' h => (w_50 41 (by omega) σ' h.1.1 ).le (Nat.le_of_ble_eq_true rfl) (fun v σ2 ⟨y, h1, h2, h3, h4⟩ => ⟨y, h1, h2, h.1.tr h3 (fun _ _ _ _ h => h), trivial⟩)) (pc' := 56) rfl (fun y16 => ?_)
          refine G_ex (fun hy16 => ?_)
          refine T_if_eq zk_54_56 (by omega) (pc' := 59) rfl (fun h17 => ?_) (fun h18 => ?_)
          ·
            refine T_op zk_54_63 rfl X_ic (pc' := 64) rfl ?_
            exact T_zret zk_54_64 rfl (by omega) (fun σ' h => ⟨_, rfl, (by omega), h.1, trivial⟩)
          ·
            refine T_op zk_54_59 rfl X_ic (pc' := 60) rfl ?_
            refine T_goto zk_54_60 ?_
            exact T_zret zk_54_64 rfl (by omega) (fun σ' h => ⟨_, rfl, (by omega), h.1, trivial⟩)
    · exfalso; omega
  ·
    refine T_ld zk_54_9 rfl rfl rfl (pc' := 10) rfl ?_
    refine T_calli (K := fun y19 σ' => (-2147483648 ≤ y19 ∧ y19 ≤ 2147483647) ∧ (fun σ' => IF MR σ σ' ∧ True) σ') (r := []) zk_54_10 rfl rfl rfl rfl rfl rfl (Or.inr ⟨_, _, _, _, rfl, vd_29, rfl⟩) (fun σ' h => (w_49   σ' h.1.1 ).le (Nat.le_of_ble_eq_true rfl) (fun v σ2 ⟨y, h1, h2, h3, h4⟩ => ⟨y, h1, h2, h.1.tr h3 MN_sub, trivial⟩)) (pc' := 13) rfl (fun y19 => ?_)
    refine G_ex (fun hy19 => ?_)
    refine T_op zk_54_13 rfl (X_bi (v := 40) (by decide)) (pc' := 15) rfl ?_
    refine T_icmp_eq zk_54_15 (by omega) (by omega) (pc' := 18) rfl (fun h20 => ?_) (fun h21 => ?_)
    ·
      refine T_ld zk_54_23 rfl rfl rfl (pc' := 24) rfl ?_
      refine T_op zk_54_24 rfl (X_bi (v := 20) (by decide)) (pc' := 26) rfl ?_
      refine T_icmp_lt zk_54_26 (by omega) (by omega) (pc' := 29) rfl (fun h22 => ?_) (fun h23 => ?_)
      ·
        refine T_ld zk_54_31 rfl rfl rfl (pc' := 32) rfl ?_
        refine T_op zk_54_32 rfl (X_bi (v := 40) (by decide)) (pc' := 34) rfl ?_
        refine T_calli (K := fun y24 σ' => (y24 = 0 ∨ y24 = 1) ∧ (fun σ' => IF MR σ σ' ∧ True) σ') (r := []) zk_54_34 rfl rfl rfl rfl rfl rfl (Or.inr ⟨_, _, _, _, rfl, vd_29, rfl⟩) (fun σ' h => (w_50 40 (by omega) σ' h.1.1 ).le (Nat.le_of_ble_eq_true rfl) (fun v σ2 ⟨y, h1, h2, h3, h4⟩ => ⟨y, h1, h2, h.1.tr h3 (fun _ _ _ _ h => h), trivial⟩)) (pc' := 37) rfl (fun y24 => ?_)
        refine G_ex (fun hy24 => ?_)
        refine T_if_eq zk_54_37 (by omega) (pc' := 40) rfl (fun h25 => ?_) (fun h26 => ?_)
        ·
          refine T_ld zk_54_65 rfl rfl rfl (pc' := 66) rfl ?_
          refine T_op (st' := [av 29 0 0, av 29 0 0]) zk_54_66 rfl rfl (pc' := 67) rfl ?_
          refine G_getf (lo := -2147483648) (hi := 2147483647) zk_54_67 rfl vd_29 (fun σ' h => h.1.1) (fun _ h => (by have q := h.1; omega)) (pc' := 70) rfl (fun y27 hy27 hy27' => ?_)
          refine T_op zk_54_70 rfl X_ic (pc' := 71) rfl ?_
          refine G_unk zk_54_71 rfl (pc' := 72) rfl (fun y28 hy28 hy28' => ?_)
          refine T_putf (J' := (fun σ' => IF MR σ σ' ∧ σ' 29 0 0 3 = y28 ∧ True)) zk_54_72 rfl rfl vd_29 (fun σ' h => ⟨h.1.up (by simp only [rgP] <;> omega) (by first | exact pMR rfl | (unfold MR; omega)), up_eq, trivial⟩) (pc' := 75) rfl ?_
          refine T_ld zk_54_75 rfl rfl rfl (pc' := 76) rfl ?_
          refine T_ld zk_54_76 rfl rfl rfl (pc' := 77) rfl ?_
          refine T_op zk_54_77 rfl X_ic (pc' := 78) rfl ?_
          refine T_opc (w := 2) zk_54_78 rfl X_add (by omega) (pc' := 79) rfl ?_
          refine T_calli (K := fun y29 σ' => (y29 = 0 ∨ y29 = 1) ∧ (fun σ' => IF MR σ σ' ∧ True) σ') (r := []) zk_54_79 rfl rfl rfl rfl rfl rfl (Or.inr ⟨_, _, _, _, rfl, vd_29, rfl⟩) (fun σ' h => (w_54_2   σ' h.1.1 ).le (Nat.le_of_ble_eq_true rfl) (fun v σ2 ⟨y, h1, h2, h3, h4⟩ => ⟨y, h1, h2, h.1.tr h3 (fun _ _ _ _ h => h), trivial⟩)) (pc' := 82) rfl (fun y29 => ?_)
          refine G_ex (fun hy29 => ?_)
          refine T_st (L' := [(0, av 29 0 0), (1, iv 1), (2, iv y29)]) zk_54_82 (nL := 3) rfl rfl rfl rfl rfl (pc' := 83) rfl ?_
          refine T_ld zk_54_83 rfl rfl rfl (pc' := 84) rfl ?_
          refine T_getR (t' := 30) (i' := 0) (k' := 0) zk_54_84 rfl rfl rfl vd_29 (pc' := 87) rfl ?_
          refine T_op zk_54_87 rfl X_ic (pc' := 88) rfl ?_
          refine T_callv (J' := (fun σ' => IF MR σ σ' ∧ True)) (r := []) zk_54_88 rfl rfl rfl rfl rfl rfl (Or.inr ⟨_, _, _, _, rfl, vd_30, rfl⟩) (fun σ' h => (w_42 ((-1)) (by omega) σ' h.1.1 ).le (Nat.le_of_ble_eq_true rfl) (fun v σ2 ⟨h1, h3, h4⟩ => ⟨h1, h.1.tr h3 (fun _ _ _ _ h => h), trivial⟩)) (pc' := 91) rfl ?_
          refine T_ld zk_54_91 rfl rfl rfl (pc' := 92) rfl ?_
          exact T_zret zk_54_92 rfl (by omega) (fun σ' h => ⟨_, rfl, (by omega), h.1, trivial⟩)
        ·
          refine T_ld zk_54_40 rfl rfl rfl (pc' := 41) rfl ?_
          refine T_ld zk_54_41 rfl rfl rfl (pc' := 42) rfl ?_
          refine T_op zk_54_42 rfl X_ic (pc' := 43) rfl ?_
          refine T_opc (w := 2) zk_54_43 rfl X_add (by omega) (pc' := 44) rfl ?_
          refine T_calli (K := fun y31 σ' => (y31 = 0 ∨ y31 = 1) ∧ (fun σ' => IF MR σ σ' ∧ True) σ') (r := []) zk_54_44 rfl rfl rfl rfl rfl rfl (Or.inr ⟨_, _, _, _, rfl, vd_29, rfl⟩) (fun σ' h => (w_52_2   σ' h.1.1 ).le (Nat.le_of_ble_eq_true rfl) (fun v σ2 ⟨y, h1, h2, h3, h4⟩ => ⟨y, h1, h2, h.1.tr h3 (fun _ _ _ _ h => h), trivial⟩)) (pc' := 47) rfl (fun y31 => ?_)
          refine G_ex (fun hy31 => ?_)
          refine T_if_eq zk_54_47 (by omega) (pc' := 50) rfl (fun h32 => ?_) (fun h33 => ?_)
          ·
            refine T_op zk_54_63 rfl X_ic (pc' := 64) rfl ?_
            exact T_zret zk_54_64 rfl (by omega) (fun σ' h => ⟨_, rfl, (by omega), h.1, trivial⟩)
          ·
            refine T_ld zk_54_50 rfl rfl rfl (pc' := 51) rfl ?_
            refine T_op zk_54_51 rfl (X_bi (v := 41) (by decide)) (pc' := 53) rfl ?_
            refine T_calli (K := fun y34 σ' => (y34 = 0 ∨ y34 = 1) ∧ (fun σ' => IF MR σ σ' ∧ True) σ') (r := []) zk_54_53 rfl rfl rfl rfl rfl rfl (Or.inr ⟨_, _, _, _, rfl, vd_29, rfl⟩) (fun σ' h => (w_50 41 (by omega) σ' h.1.1 ).le (Nat.le_of_ble_eq_true rfl) (fun v σ2 ⟨y, h1, h2, h3, h4⟩ => ⟨y, h1, h2, h.1.tr h3 (fun _ _ _ _ h => h), trivial⟩)) (pc' := 56) rfl (fun y34 => ?_)
            refine G_ex (fun hy34 => ?_)
            refine T_if_eq zk_54_56 (by omega) (pc' := 59) rfl (fun h35 => ?_) (fun h36 => ?_)
            ·
              refine T_op zk_54_63 rfl X_ic (pc' := 64) rfl ?_
              exact T_zret zk_54_64 rfl (by omega) (fun σ' h => ⟨_, rfl, (by omega), h.1, trivial⟩)
            ·
              refine T_op zk_54_59 rfl X_ic (pc' := 60) rfl ?_
              refine T_goto zk_54_60 ?_
              exact T_zret zk_54_64 rfl (by omega) (fun σ' h => ⟨_, rfl, (by omega), h.1, trivial⟩)
      · exfalso; omega
    ·
      refine T_ld zk_54_18 rfl rfl rfl (pc' := 19) rfl ?_
      refine T_calli (K := fun y37 σ' => (y37 = 0 ∨ y37 = 1) ∧ (fun σ' => IF MR σ σ' ∧ True) σ') (r := []) zk_54_19 rfl rfl rfl rfl rfl rfl (Or.inr ⟨_, _, _, _, rfl, vd_29, rfl⟩) (fun σ' h => (w_55   σ' h.1.1 ).le (Nat.le_of_ble_eq_true rfl) (fun v σ2 ⟨y, h1, h2, h3, h4⟩ => ⟨y, h1, h2, h.1.tr h3 (fun _ _ _ _ h => h), trivial⟩)) (pc' := 22) rfl (fun y37 => ?_)
      refine G_ex (fun hy37 => ?_)
      exact T_zret zk_54_22 rfl (by omega) (fun σ' h => ⟨_, rfl, (by omega), h.1, trivial⟩)
/-- W$LawReader.readBoth -/
theorem w_53_1 {xs : Nat × (Nat → Int32)}   (σ : ZS) (hI : Inv σ)   : CT xs 62 53 [av 29 0 0, iv 1] σ (fun v σ' => ∃ y, v = some (iv y) ∧ (y = 0 ∨ y = 1) ∧ IF MR σ σ' ∧ (True)) := by
  refine G_ct (J := (fun σ' => IF MR σ σ' ∧ True)) (L := [(0, av 29 0 0), (1, iv 1)]) (nL := 4) rfl rfl rfl ⟨IF.rf hI, trivial⟩ ?_
  refine T_ld zk_53_0 rfl rfl rfl (pc' := 1) rfl ?_
  refine T_ld zk_53_1 rfl rfl rfl (pc' := 2) rfl ?_
  refine T_calli (K := fun y1 σ' => (y1 = 0 ∨ y1 = 1) ∧ (fun σ' => IF MR σ σ' ∧ True) σ') (r := []) zk_53_2 rfl rfl rfl rfl rfl rfl (Or.inr ⟨_, _, _, _, rfl, vd_29, rfl⟩) (fun σ' h => (w_54_1   σ' h.1.1 ).le (Nat.le_of_ble_eq_true rfl) (fun v σ2 ⟨y, h1, h2, h3, h4⟩ => ⟨y, h1, h2, h.1.tr h3 (fun _ _ _ _ h => h), trivial⟩)) (pc' := 5) rfl (fun y1 => ?_)
  refine G_ex (fun hy1 => ?_)
  refine T_st (L' := [(0, av 29 0 0), (1, iv 1), (2, iv y1)]) zk_53_5 (nL := 4) rfl rfl rfl rfl rfl (pc' := 6) rfl ?_
  refine T_op zk_53_6 rfl X_ic (pc' := 7) rfl ?_
  refine T_st (L' := [(0, av 29 0 0), (1, iv 1), (2, iv y1), (3, iv 0)]) zk_53_7 (nL := 4) rfl rfl rfl rfl rfl (pc' := 8) rfl ?_
  refine T_loop2 (fun x2 x3 => ((96 - x3 : Int)).toNat) (fun x2 x3 => (0 ≤ x2 ∧ x2 ≤ 1) ∧ (0 ≤ x3 ∧ x3 ≤ 96)) (fun x2 x3 => TJ xs (fun σ' => IF MR σ σ' ∧ True) 61 53 8 [(0, av 29 0 0), (1, iv 1), (2, iv x2), (3, iv x3)] [] _) ?_ y1 0 (by omega)
  intro x2 x3 hp5 ih4
  refine T_ld zk_53_8 rfl rfl rfl (pc' := 9) rfl ?_
  refine T_op zk_53_9 rfl (X_bi (v := 96) (by decide)) (pc' := 11) rfl ?_
  refine T_icmp_ge zk_53_11 (by omega) (by omega) (pc' := 14) rfl (fun h6 => ?_) (fun h7 => ?_)
  ·
    refine T_ld zk_53_48 rfl rfl rfl (pc' := 49) rfl ?_
    exact T_zret zk_53_49 rfl (by omega) (fun σ' h => ⟨_, rfl, (by omega), h.1, trivial⟩)
  ·
    refine T_ld zk_53_14 rfl rfl rfl (pc' := 15) rfl ?_
    refine T_if_eq zk_53_15 (by omega) (pc' := 18) rfl (fun h8 => ?_) (fun h9 => ?_)
    ·
      refine T_ld zk_53_48 rfl rfl rfl (pc' := 49) rfl ?_
      exact T_zret zk_53_49 rfl (by omega) (fun σ' h => ⟨_, rfl, (by omega), h.1, trivial⟩)
    ·
      refine T_ld zk_53_18 rfl rfl rfl (pc' := 19) rfl ?_
      refine T_op zk_53_19 rfl (X_bi (v := 38) (by decide)) (pc' := 21) rfl ?_
      refine T_calli (K := fun y10 σ' => (y10 = 0 ∨ y10 = 1) ∧ (fun σ' => IF MR σ σ' ∧ True) σ') (r := []) zk_53_21 rfl rfl rfl rfl rfl rfl (Or.inr ⟨_, _, _, _, rfl, vd_29, rfl⟩) (fun σ' h => (w_50 38 (by omega) σ' h.1.1 ).le (Nat.le_of_ble_eq_true rfl) (fun v σ2 ⟨y, h1, h2, h3, h4⟩ => ⟨y, h1, h2, h.1.tr h3 (fun _ _ _ _ h => h), trivial⟩)) (pc' := 24) rfl (fun y10 => ?_)
      refine G_ex (fun hy10 => ?_)
      refine T_if_eq zk_53_24 (by omega) (pc' := 27) rfl (fun h11 => ?_) (fun h12 => ?_)
      ·
        refine T_ld zk_53_48 rfl rfl rfl (pc' := 49) rfl ?_
        exact T_zret zk_53_49 rfl (by omega) (fun σ' h => ⟨_, rfl, (by omega), h.1, trivial⟩)
      ·
        refine T_ld zk_53_27 rfl rfl rfl (pc' := 28) rfl ?_
        refine T_ld zk_53_28 rfl rfl rfl (pc' := 29) rfl ?_
        refine T_calli (K := fun y13 σ' => (y13 = 0 ∨ y13 = 1) ∧ (fun σ' => IF MR σ σ' ∧ True) σ') (r := []) zk_53_29 rfl rfl rfl rfl rfl rfl (Or.inr ⟨_, _, _, _, rfl, vd_29, rfl⟩) (fun σ' h => (w_54_1   σ' h.1.1 ).le (Nat.le_of_ble_eq_true rfl) (fun v σ2 ⟨y, h1, h2, h3, h4⟩ => ⟨y, h1, h2, h.1.tr h3 (fun _ _ _ _ h => h), trivial⟩)) (pc' := 32) rfl (fun y13 => ?_)
        refine G_ex (fun hy13 => ?_)
        refine T_st (L' := [(0, av 29 0 0), (1, iv 1), (2, iv y13), (3, iv x3)]) zk_53_32 (nL := 4) rfl rfl rfl rfl rfl (pc' := 33) rfl ?_
        refine T_ld zk_53_33 rfl rfl rfl (pc' := 34) rfl ?_
        refine T_getR (t' := 30) (i' := 0) (k' := 0) zk_53_34 rfl rfl rfl vd_29 (pc' := 37) rfl ?_
        refine T_op zk_53_37 rfl (X_bi (v := -2) (by decide)) (pc' := 39) rfl ?_
        refine T_callv (J' := (fun σ' => IF MR σ σ' ∧ True)) (r := []) zk_53_39 rfl rfl rfl rfl rfl rfl (Or.inr ⟨_, _, _, _, rfl, vd_30, rfl⟩) (fun σ' h => (w_42 ((-2)) (by omega) σ' h.1.1 ).le (Nat.le_of_ble_eq_true rfl) (fun v σ2 ⟨h1, h3, h4⟩ => ⟨h1, h.1.tr h3 (fun _ _ _ _ h => h), trivial⟩)) (pc' := 42) rfl ?_
        refine T_iinc (L' := [(0, av 29 0 0), (1, iv 1), (2, iv y13), (3, iv (x3 + 1))]) zk_53_42 (nL := 4) rfl rfl rfl rfl (pc' := 45) rfl ?_
        refine T_goto zk_53_45 ?_
        exact ih4 y13 (x3 + 1) (by omega) (by omega)
/-- W$LawReader.readEither -/
theorem w_52_1 {xs : Nat × (Nat → Int32)}   (σ : ZS) (hI : Inv σ)   : CT xs 63 52 [av 29 0 0, iv 1] σ (fun v σ' => ∃ y, v = some (iv y) ∧ (y = 0 ∨ y = 1) ∧ IF MR σ σ' ∧ (True)) := by
  refine G_ct (J := (fun σ' => IF MR σ σ' ∧ True)) (L := [(0, av 29 0 0), (1, iv 1)]) (nL := 4) rfl rfl rfl ⟨IF.rf hI, trivial⟩ ?_
  refine T_ld zk_52_0 rfl rfl rfl (pc' := 1) rfl ?_
  refine T_ld zk_52_1 rfl rfl rfl (pc' := 2) rfl ?_
  refine T_calli (K := fun y1 σ' => (y1 = 0 ∨ y1 = 1) ∧ (fun σ' => IF MR σ σ' ∧ True) σ') (r := []) zk_52_2 rfl rfl rfl rfl rfl rfl (Or.inr ⟨_, _, _, _, rfl, vd_29, rfl⟩) (fun σ' h => (w_53_1   σ' h.1.1 ).le (Nat.le_of_ble_eq_true rfl) (fun v σ2 ⟨y, h1, h2, h3, h4⟩ => ⟨y, h1, h2, h.1.tr h3 (fun _ _ _ _ h => h), trivial⟩)) (pc' := 5) rfl (fun y1 => ?_)
  refine G_ex (fun hy1 => ?_)
  refine T_st (L' := [(0, av 29 0 0), (1, iv 1), (2, iv y1)]) zk_52_5 (nL := 4) rfl rfl rfl rfl rfl (pc' := 6) rfl ?_
  refine T_op zk_52_6 rfl X_ic (pc' := 7) rfl ?_
  refine T_st (L' := [(0, av 29 0 0), (1, iv 1), (2, iv y1), (3, iv 0)]) zk_52_7 (nL := 4) rfl rfl rfl rfl rfl (pc' := 8) rfl ?_
  refine T_loop2 (fun x2 x3 => ((96 - x3 : Int)).toNat) (fun x2 x3 => (0 ≤ x2 ∧ x2 ≤ 1) ∧ (0 ≤ x3 ∧ x3 ≤ 96)) (fun x2 x3 => TJ xs (fun σ' => IF MR σ σ' ∧ True) 62 52 8 [(0, av 29 0 0), (1, iv 1), (2, iv x2), (3, iv x3)] [] _) ?_ y1 0 (by omega)
  intro x2 x3 hp5 ih4
  refine T_ld zk_52_8 rfl rfl rfl (pc' := 9) rfl ?_
  refine T_op zk_52_9 rfl (X_bi (v := 96) (by decide)) (pc' := 11) rfl ?_
  refine T_icmp_ge zk_52_11 (by omega) (by omega) (pc' := 14) rfl (fun h6 => ?_) (fun h7 => ?_)
  ·
    refine T_ld zk_52_48 rfl rfl rfl (pc' := 49) rfl ?_
    exact T_zret zk_52_49 rfl (by omega) (fun σ' h => ⟨_, rfl, (by omega), h.1, trivial⟩)
  ·
    refine T_ld zk_52_14 rfl rfl rfl (pc' := 15) rfl ?_
    refine T_if_eq zk_52_15 (by omega) (pc' := 18) rfl (fun h8 => ?_) (fun h9 => ?_)
    ·
      refine T_ld zk_52_48 rfl rfl rfl (pc' := 49) rfl ?_
      exact T_zret zk_52_49 rfl (by omega) (fun σ' h => ⟨_, rfl, (by omega), h.1, trivial⟩)
    ·
      refine T_ld zk_52_18 rfl rfl rfl (pc' := 19) rfl ?_
      refine T_op zk_52_19 rfl (X_bi (v := 124) (by decide)) (pc' := 21) rfl ?_
      refine T_calli (K := fun y10 σ' => (y10 = 0 ∨ y10 = 1) ∧ (fun σ' => IF MR σ σ' ∧ True) σ') (r := []) zk_52_21 rfl rfl rfl rfl rfl rfl (Or.inr ⟨_, _, _, _, rfl, vd_29, rfl⟩) (fun σ' h => (w_50 124 (by omega) σ' h.1.1 ).le (Nat.le_of_ble_eq_true rfl) (fun v σ2 ⟨y, h1, h2, h3, h4⟩ => ⟨y, h1, h2, h.1.tr h3 (fun _ _ _ _ h => h), trivial⟩)) (pc' := 24) rfl (fun y10 => ?_)
      refine G_ex (fun hy10 => ?_)
      refine T_if_eq zk_52_24 (by omega) (pc' := 27) rfl (fun h11 => ?_) (fun h12 => ?_)
      ·
        refine T_ld zk_52_48 rfl rfl rfl (pc' := 49) rfl ?_
        exact T_zret zk_52_49 rfl (by omega) (fun σ' h => ⟨_, rfl, (by omega), h.1, trivial⟩)
      ·
        refine T_ld zk_52_27 rfl rfl rfl (pc' := 28) rfl ?_
        refine T_ld zk_52_28 rfl rfl rfl (pc' := 29) rfl ?_
        refine T_calli (K := fun y13 σ' => (y13 = 0 ∨ y13 = 1) ∧ (fun σ' => IF MR σ σ' ∧ True) σ') (r := []) zk_52_29 rfl rfl rfl rfl rfl rfl (Or.inr ⟨_, _, _, _, rfl, vd_29, rfl⟩) (fun σ' h => (w_53_1   σ' h.1.1 ).le (Nat.le_of_ble_eq_true rfl) (fun v σ2 ⟨y, h1, h2, h3, h4⟩ => ⟨y, h1, h2, h.1.tr h3 (fun _ _ _ _ h => h), trivial⟩)) (pc' := 32) rfl (fun y13 => ?_)
        refine G_ex (fun hy13 => ?_)
        refine T_st (L' := [(0, av 29 0 0), (1, iv 1), (2, iv y13), (3, iv x3)]) zk_52_32 (nL := 4) rfl rfl rfl rfl rfl (pc' := 33) rfl ?_
        refine T_ld zk_52_33 rfl rfl rfl (pc' := 34) rfl ?_
        refine T_getR (t' := 30) (i' := 0) (k' := 0) zk_52_34 rfl rfl rfl vd_29 (pc' := 37) rfl ?_
        refine T_op zk_52_37 rfl (X_bi (v := -3) (by decide)) (pc' := 39) rfl ?_
        refine T_callv (J' := (fun σ' => IF MR σ σ' ∧ True)) (r := []) zk_52_39 rfl rfl rfl rfl rfl rfl (Or.inr ⟨_, _, _, _, rfl, vd_30, rfl⟩) (fun σ' h => (w_42 ((-3)) (by omega) σ' h.1.1 ).le (Nat.le_of_ble_eq_true rfl) (fun v σ2 ⟨h1, h3, h4⟩ => ⟨h1, h.1.tr h3 (fun _ _ _ _ h => h), trivial⟩)) (pc' := 42) rfl ?_
        refine T_iinc (L' := [(0, av 29 0 0), (1, iv 1), (2, iv y13), (3, iv (x3 + 1))]) zk_52_42 (nL := 4) rfl rfl rfl rfl (pc' := 45) rfl ?_
        refine T_goto zk_52_45 ?_
        exact ih4 y13 (x3 + 1) (by omega) (by omega)
/-- W$LawReader.readPart -/
theorem w_54_0 {xs : Nat × (Nat → Int32)}   (σ : ZS) (hI : Inv σ)   : CT xs 64 54 [av 29 0 0, iv 0] σ (fun v σ' => ∃ y, v = some (iv y) ∧ (y = 0 ∨ y = 1) ∧ IF MR σ σ' ∧ (True)) := by
  refine G_ct (J := (fun σ' => IF MR σ σ' ∧ True)) (L := [(0, av 29 0 0), (1, iv 0)]) (nL := 3) rfl rfl rfl ⟨IF.rf hI, trivial⟩ ?_
  refine T_ld zk_54_0 rfl rfl rfl (pc' := 1) rfl ?_
  refine T_calli (K := fun y1 σ' => (-2147483648 ≤ y1 ∧ y1 ≤ 2147483647) ∧ (fun σ' => IF MR σ σ' ∧ True) σ') (r := []) zk_54_1 rfl rfl rfl rfl rfl rfl (Or.inr ⟨_, _, _, _, rfl, vd_29, rfl⟩) (fun σ' h => (w_49   σ' h.1.1 ).le (Nat.le_of_ble_eq_true rfl) (fun v σ2 ⟨y, h1, h2, h3, h4⟩ => ⟨y, h1, h2, h.1.tr h3 MN_sub, trivial⟩)) (pc' := 4) rfl (fun y1 => ?_)
  refine G_ex (fun hy1 => ?_)
  refine T_op zk_54_4 rfl (X_bi (v := 33) (by decide)) (pc' := 6) rfl ?_
  refine T_icmp_eq zk_54_6 (by omega) (by omega) (pc' := 9) rfl (fun h2 => ?_) (fun h3 => ?_)
  ·
    refine T_ld zk_54_23 rfl rfl rfl (pc' := 24) rfl ?_
    refine T_op zk_54_24 rfl (X_bi (v := 20) (by decide)) (pc' := 26) rfl ?_
    refine T_icmp_lt zk_54_26 (by omega) (by omega) (pc' := 29) rfl (fun h4 => ?_) (fun h5 => ?_)
    ·
      refine T_ld zk_54_31 rfl rfl rfl (pc' := 32) rfl ?_
      refine T_op zk_54_32 rfl (X_bi (v := 40) (by decide)) (pc' := 34) rfl ?_
      refine T_calli (K := fun y6 σ' => (y6 = 0 ∨ y6 = 1) ∧ (fun σ' => IF MR σ σ' ∧ True) σ') (r := []) zk_54_34 rfl rfl rfl rfl rfl rfl (Or.inr ⟨_, _, _, _, rfl, vd_29, rfl⟩) (fun σ' h => (w_50 40 (by omega) σ' h.1.1 ).le (Nat.le_of_ble_eq_true rfl) (fun v σ2 ⟨y, h1, h2, h3, h4⟩ => ⟨y, h1, h2, h.1.tr h3 (fun _ _ _ _ h => h), trivial⟩)) (pc' := 37) rfl (fun y6 => ?_)
      refine G_ex (fun hy6 => ?_)
      refine T_if_eq zk_54_37 (by omega) (pc' := 40) rfl (fun h7 => ?_) (fun h8 => ?_)
      ·
        refine T_ld zk_54_65 rfl rfl rfl (pc' := 66) rfl ?_
        refine T_op (st' := [av 29 0 0, av 29 0 0]) zk_54_66 rfl rfl (pc' := 67) rfl ?_
        refine G_getf (lo := -2147483648) (hi := 2147483647) zk_54_67 rfl vd_29 (fun σ' h => h.1.1) (fun _ h => (by have q := h.1; omega)) (pc' := 70) rfl (fun y9 hy9 hy9' => ?_)
        refine T_op zk_54_70 rfl X_ic (pc' := 71) rfl ?_
        refine G_unk zk_54_71 rfl (pc' := 72) rfl (fun y10 hy10 hy10' => ?_)
        refine T_putf (J' := (fun σ' => IF MR σ σ' ∧ σ' 29 0 0 3 = y10 ∧ True)) zk_54_72 rfl rfl vd_29 (fun σ' h => ⟨h.1.up (by simp only [rgP] <;> omega) (by first | exact pMR rfl | (unfold MR; omega)), up_eq, trivial⟩) (pc' := 75) rfl ?_
        refine T_ld zk_54_75 rfl rfl rfl (pc' := 76) rfl ?_
        refine T_ld zk_54_76 rfl rfl rfl (pc' := 77) rfl ?_
        refine T_op zk_54_77 rfl X_ic (pc' := 78) rfl ?_
        refine T_opc (w := 1) zk_54_78 rfl X_add (by omega) (pc' := 79) rfl ?_
        refine T_calli (K := fun y11 σ' => (y11 = 0 ∨ y11 = 1) ∧ (fun σ' => IF MR σ σ' ∧ True) σ') (r := []) zk_54_79 rfl rfl rfl rfl rfl rfl (Or.inr ⟨_, _, _, _, rfl, vd_29, rfl⟩) (fun σ' h => (w_54_1   σ' h.1.1 ).le (Nat.le_of_ble_eq_true rfl) (fun v σ2 ⟨y, h1, h2, h3, h4⟩ => ⟨y, h1, h2, h.1.tr h3 (fun _ _ _ _ h => h), trivial⟩)) (pc' := 82) rfl (fun y11 => ?_)
        refine G_ex (fun hy11 => ?_)
        refine T_st (L' := [(0, av 29 0 0), (1, iv 0), (2, iv y11)]) zk_54_82 (nL := 3) rfl rfl rfl rfl rfl (pc' := 83) rfl ?_
        refine T_ld zk_54_83 rfl rfl rfl (pc' := 84) rfl ?_
        refine T_getR (t' := 30) (i' := 0) (k' := 0) zk_54_84 rfl rfl rfl vd_29 (pc' := 87) rfl ?_
        refine T_op zk_54_87 rfl X_ic (pc' := 88) rfl ?_
        refine T_callv (J' := (fun σ' => IF MR σ σ' ∧ True)) (r := []) zk_54_88 rfl rfl rfl rfl rfl rfl (Or.inr ⟨_, _, _, _, rfl, vd_30, rfl⟩) (fun σ' h => (w_42 ((-1)) (by omega) σ' h.1.1 ).le (Nat.le_of_ble_eq_true rfl) (fun v σ2 ⟨h1, h3, h4⟩ => ⟨h1, h.1.tr h3 (fun _ _ _ _ h => h), trivial⟩)) (pc' := 91) rfl ?_
        refine T_ld zk_54_91 rfl rfl rfl (pc' := 92) rfl ?_
        exact T_zret zk_54_92 rfl (by omega) (fun σ' h => ⟨_, rfl, (by omega), h.1, trivial⟩)
      ·
        refine T_ld zk_54_40 rfl rfl rfl (pc' := 41) rfl ?_
        refine T_ld zk_54_41 rfl rfl rfl (pc' := 42) rfl ?_
        refine T_op zk_54_42 rfl X_ic (pc' := 43) rfl ?_
        refine T_opc (w := 1) zk_54_43 rfl X_add (by omega) (pc' := 44) rfl ?_
        refine T_calli (K := fun y13 σ' => (y13 = 0 ∨ y13 = 1) ∧ (fun σ' => IF MR σ σ' ∧ True) σ') (r := []) zk_54_44 rfl rfl rfl rfl rfl rfl (Or.inr ⟨_, _, _, _, rfl, vd_29, rfl⟩) (fun σ' h => (w_52_1   σ' h.1.1 ).le (Nat.le_of_ble_eq_true rfl) (fun v σ2 ⟨y, h1, h2, h3, h4⟩ => ⟨y, h1, h2, h.1.tr h3 (fun _ _ _ _ h => h), trivial⟩)) (pc' := 47) rfl (fun y13 => ?_)
        refine G_ex (fun hy13 => ?_)
        refine T_if_eq zk_54_47 (by omega) (pc' := 50) rfl (fun h14 => ?_) (fun h15 => ?_)
        ·
          refine T_op zk_54_63 rfl X_ic (pc' := 64) rfl ?_
          exact T_zret zk_54_64 rfl (by omega) (fun σ' h => ⟨_, rfl, (by omega), h.1, trivial⟩)
        ·
          refine T_ld zk_54_50 rfl rfl rfl (pc' := 51) rfl ?_
          refine T_op zk_54_51 rfl (X_bi (v := 41) (by decide)) (pc' := 53) rfl ?_
          refine T_calli (K := fun y16 σ' => (y16 = 0 ∨ y16 = 1) ∧ (fun σ' => IF MR σ σ' ∧ True) σ') (r := []) zk_54_53 rfl rfl rfl rfl rfl rfl (Or.inr ⟨_, _, _, _, rfl, vd_29, rfl⟩) (fun σ' h => (w_50 41 (by omega) σ' h.1.1 ).le (Nat.le_of_ble_eq_true rfl) (fun v σ2 ⟨y, h1, h2, h3, h4⟩ => ⟨y, h1, h2, h.1.tr h3 (fun _ _ _ _ h => h), trivial⟩)) (pc' := 56) rfl (fun y16 => ?_)
          refine G_ex (fun hy16 => ?_)
          refine T_if_eq zk_54_56 (by omega) (pc' := 59) rfl (fun h17 => ?_) (fun h18 => ?_)
          ·
            refine T_op zk_54_63 rfl X_ic (pc' := 64) rfl ?_
            exact T_zret zk_54_64 rfl (by omega) (fun σ' h => ⟨_, rfl, (by omega), h.1, trivial⟩)
          ·
            refine T_op zk_54_59 rfl X_ic (pc' := 60) rfl ?_
            refine T_goto zk_54_60 ?_
            exact T_zret zk_54_64 rfl (by omega) (fun σ' h => ⟨_, rfl, (by omega), h.1, trivial⟩)
    · exfalso; omega
  ·
    refine T_ld zk_54_9 rfl rfl rfl (pc' := 10) rfl ?_
    refine T_calli (K := fun y19 σ' => (-2147483648 ≤ y19 ∧ y19 ≤ 2147483647) ∧ (fun σ' => IF MR σ σ' ∧ True) σ') (r := []) zk_54_10 rfl rfl rfl rfl rfl rfl (Or.inr ⟨_, _, _, _, rfl, vd_29, rfl⟩) (fun σ' h => (w_49   σ' h.1.1 ).le (Nat.le_of_ble_eq_true rfl) (fun v σ2 ⟨y, h1, h2, h3, h4⟩ => ⟨y, h1, h2, h.1.tr h3 MN_sub, trivial⟩)) (pc' := 13) rfl (fun y19 => ?_)
    refine G_ex (fun hy19 => ?_)
    refine T_op zk_54_13 rfl (X_bi (v := 40) (by decide)) (pc' := 15) rfl ?_
    refine T_icmp_eq zk_54_15 (by omega) (by omega) (pc' := 18) rfl (fun h20 => ?_) (fun h21 => ?_)
    ·
      refine T_ld zk_54_23 rfl rfl rfl (pc' := 24) rfl ?_
      refine T_op zk_54_24 rfl (X_bi (v := 20) (by decide)) (pc' := 26) rfl ?_
      refine T_icmp_lt zk_54_26 (by omega) (by omega) (pc' := 29) rfl (fun h22 => ?_) (fun h23 => ?_)
      ·
        refine T_ld zk_54_31 rfl rfl rfl (pc' := 32) rfl ?_
        refine T_op zk_54_32 rfl (X_bi (v := 40) (by decide)) (pc' := 34) rfl ?_
        refine T_calli (K := fun y24 σ' => (y24 = 0 ∨ y24 = 1) ∧ (fun σ' => IF MR σ σ' ∧ True) σ') (r := []) zk_54_34 rfl rfl rfl rfl rfl rfl (Or.inr ⟨_, _, _, _, rfl, vd_29, rfl⟩) (fun σ' h => (w_50 40 (by omega) σ' h.1.1 ).le (Nat.le_of_ble_eq_true rfl) (fun v σ2 ⟨y, h1, h2, h3, h4⟩ => ⟨y, h1, h2, h.1.tr h3 (fun _ _ _ _ h => h), trivial⟩)) (pc' := 37) rfl (fun y24 => ?_)
        refine G_ex (fun hy24 => ?_)
        refine T_if_eq zk_54_37 (by omega) (pc' := 40) rfl (fun h25 => ?_) (fun h26 => ?_)
        ·
          refine T_ld zk_54_65 rfl rfl rfl (pc' := 66) rfl ?_
          refine T_op (st' := [av 29 0 0, av 29 0 0]) zk_54_66 rfl rfl (pc' := 67) rfl ?_
          refine G_getf (lo := -2147483648) (hi := 2147483647) zk_54_67 rfl vd_29 (fun σ' h => h.1.1) (fun _ h => (by have q := h.1; omega)) (pc' := 70) rfl (fun y27 hy27 hy27' => ?_)
          refine T_op zk_54_70 rfl X_ic (pc' := 71) rfl ?_
          refine G_unk zk_54_71 rfl (pc' := 72) rfl (fun y28 hy28 hy28' => ?_)
          refine T_putf (J' := (fun σ' => IF MR σ σ' ∧ σ' 29 0 0 3 = y28 ∧ True)) zk_54_72 rfl rfl vd_29 (fun σ' h => ⟨h.1.up (by simp only [rgP] <;> omega) (by first | exact pMR rfl | (unfold MR; omega)), up_eq, trivial⟩) (pc' := 75) rfl ?_
          refine T_ld zk_54_75 rfl rfl rfl (pc' := 76) rfl ?_
          refine T_ld zk_54_76 rfl rfl rfl (pc' := 77) rfl ?_
          refine T_op zk_54_77 rfl X_ic (pc' := 78) rfl ?_
          refine T_opc (w := 1) zk_54_78 rfl X_add (by omega) (pc' := 79) rfl ?_
          refine T_calli (K := fun y29 σ' => (y29 = 0 ∨ y29 = 1) ∧ (fun σ' => IF MR σ σ' ∧ True) σ') (r := []) zk_54_79 rfl rfl rfl rfl rfl rfl (Or.inr ⟨_, _, _, _, rfl, vd_29, rfl⟩) (fun σ' h => (w_54_1   σ' h.1.1 ).le (Nat.le_of_ble_eq_true rfl) (fun v σ2 ⟨y, h1, h2, h3, h4⟩ => ⟨y, h1, h2, h.1.tr h3 (fun _ _ _ _ h => h), trivial⟩)) (pc' := 82) rfl (fun y29 => ?_)
          refine G_ex (fun hy29 => ?_)
          refine T_st (L' := [(0, av 29 0 0), (1, iv 0), (2, iv y29)]) zk_54_82 (nL := 3) rfl rfl rfl rfl rfl (pc' := 83) rfl ?_
          refine T_ld zk_54_83 rfl rfl rfl (pc' := 84) rfl ?_
          refine T_getR (t' := 30) (i' := 0) (k' := 0) zk_54_84 rfl rfl rfl vd_29 (pc' := 87) rfl ?_
          refine T_op zk_54_87 rfl X_ic (pc' := 88) rfl ?_
          refine T_callv (J' := (fun σ' => IF MR σ σ' ∧ True)) (r := []) zk_54_88 rfl rfl rfl rfl rfl rfl (Or.inr ⟨_, _, _, _, rfl, vd_30, rfl⟩) (fun σ' h => (w_42 ((-1)) (by omega) σ' h.1.1 ).le (Nat.le_of_ble_eq_true rfl) (fun v σ2 ⟨h1, h3, h4⟩ => ⟨h1, h.1.tr h3 (fun _ _ _ _ h => h), trivial⟩)) (pc' := 91) rfl ?_
          refine T_ld zk_54_91 rfl rfl rfl (pc' := 92) rfl ?_
          exact T_zret zk_54_92 rfl (by omega) (fun σ' h => ⟨_, rfl, (by omega), h.1, trivial⟩)
        ·
          refine T_ld zk_54_40 rfl rfl rfl (pc' := 41) rfl ?_
          refine T_ld zk_54_41 rfl rfl rfl (pc' := 42) rfl ?_
          refine T_op zk_54_42 rfl X_ic (pc' := 43) rfl ?_
          refine T_opc (w := 1) zk_54_43 rfl X_add (by omega) (pc' := 44) rfl ?_
          refine T_calli (K := fun y31 σ' => (y31 = 0 ∨ y31 = 1) ∧ (fun σ' => IF MR σ σ' ∧ True) σ') (r := []) zk_54_44 rfl rfl rfl rfl rfl rfl (Or.inr ⟨_, _, _, _, rfl, vd_29, rfl⟩) (fun σ' h => (w_52_1   σ' h.1.1 ).le (Nat.le_of_ble_eq_true rfl) (fun v σ2 ⟨y, h1, h2, h3, h4⟩ => ⟨y, h1, h2, h.1.tr h3 (fun _ _ _ _ h => h), trivial⟩)) (pc' := 47) rfl (fun y31 => ?_)
          refine G_ex (fun hy31 => ?_)
          refine T_if_eq zk_54_47 (by omega) (pc' := 50) rfl (fun h32 => ?_) (fun h33 => ?_)
          ·
            refine T_op zk_54_63 rfl X_ic (pc' := 64) rfl ?_
            exact T_zret zk_54_64 rfl (by omega) (fun σ' h => ⟨_, rfl, (by omega), h.1, trivial⟩)
          ·
            refine T_ld zk_54_50 rfl rfl rfl (pc' := 51) rfl ?_
            refine T_op zk_54_51 rfl (X_bi (v := 41) (by decide)) (pc' := 53) rfl ?_
            refine T_calli (K := fun y34 σ' => (y34 = 0 ∨ y34 = 1) ∧ (fun σ' => IF MR σ σ' ∧ True) σ') (r := []) zk_54_53 rfl rfl rfl rfl rfl rfl (Or.inr ⟨_, _, _, _, rfl, vd_29, rfl⟩) (fun σ' h => (w_50 41 (by omega) σ' h.1.1 ).le (Nat.le_of_ble_eq_true rfl) (fun v σ2 ⟨y, h1, h2, h3, h4⟩ => ⟨y, h1, h2, h.1.tr h3 (fun _ _ _ _ h => h), trivial⟩)) (pc' := 56) rfl (fun y34 => ?_)
            refine G_ex (fun hy34 => ?_)
            refine T_if_eq zk_54_56 (by omega) (pc' := 59) rfl (fun h35 => ?_) (fun h36 => ?_)
            ·
              refine T_op zk_54_63 rfl X_ic (pc' := 64) rfl ?_
              exact T_zret zk_54_64 rfl (by omega) (fun σ' h => ⟨_, rfl, (by omega), h.1, trivial⟩)
            ·
              refine T_op zk_54_59 rfl X_ic (pc' := 60) rfl ?_
              refine T_goto zk_54_60 ?_
              exact T_zret zk_54_64 rfl (by omega) (fun σ' h => ⟨_, rfl, (by omega), h.1, trivial⟩)
      · exfalso; omega
    ·
      refine T_ld zk_54_18 rfl rfl rfl (pc' := 19) rfl ?_
      refine T_calli (K := fun y37 σ' => (y37 = 0 ∨ y37 = 1) ∧ (fun σ' => IF MR σ σ' ∧ True) σ') (r := []) zk_54_19 rfl rfl rfl rfl rfl rfl (Or.inr ⟨_, _, _, _, rfl, vd_29, rfl⟩) (fun σ' h => (w_55   σ' h.1.1 ).le (Nat.le_of_ble_eq_true rfl) (fun v σ2 ⟨y, h1, h2, h3, h4⟩ => ⟨y, h1, h2, h.1.tr h3 (fun _ _ _ _ h => h), trivial⟩)) (pc' := 22) rfl (fun y37 => ?_)
      refine G_ex (fun hy37 => ?_)
      exact T_zret zk_54_22 rfl (by omega) (fun σ' h => ⟨_, rfl, (by omega), h.1, trivial⟩)
/-- W$LawReader.readBoth -/
theorem w_53_0 {xs : Nat × (Nat → Int32)}   (σ : ZS) (hI : Inv σ)   : CT xs 65 53 [av 29 0 0, iv 0] σ (fun v σ' => ∃ y, v = some (iv y) ∧ (y = 0 ∨ y = 1) ∧ IF MR σ σ' ∧ (True)) := by
  refine G_ct (J := (fun σ' => IF MR σ σ' ∧ True)) (L := [(0, av 29 0 0), (1, iv 0)]) (nL := 4) rfl rfl rfl ⟨IF.rf hI, trivial⟩ ?_
  refine T_ld zk_53_0 rfl rfl rfl (pc' := 1) rfl ?_
  refine T_ld zk_53_1 rfl rfl rfl (pc' := 2) rfl ?_
  refine T_calli (K := fun y1 σ' => (y1 = 0 ∨ y1 = 1) ∧ (fun σ' => IF MR σ σ' ∧ True) σ') (r := []) zk_53_2 rfl rfl rfl rfl rfl rfl (Or.inr ⟨_, _, _, _, rfl, vd_29, rfl⟩) (fun σ' h => (w_54_0   σ' h.1.1 ).le (Nat.le_of_ble_eq_true rfl) (fun v σ2 ⟨y, h1, h2, h3, h4⟩ => ⟨y, h1, h2, h.1.tr h3 (fun _ _ _ _ h => h), trivial⟩)) (pc' := 5) rfl (fun y1 => ?_)
  refine G_ex (fun hy1 => ?_)
  refine T_st (L' := [(0, av 29 0 0), (1, iv 0), (2, iv y1)]) zk_53_5 (nL := 4) rfl rfl rfl rfl rfl (pc' := 6) rfl ?_
  refine T_op zk_53_6 rfl X_ic (pc' := 7) rfl ?_
  refine T_st (L' := [(0, av 29 0 0), (1, iv 0), (2, iv y1), (3, iv 0)]) zk_53_7 (nL := 4) rfl rfl rfl rfl rfl (pc' := 8) rfl ?_
  refine T_loop2 (fun x2 x3 => ((96 - x3 : Int)).toNat) (fun x2 x3 => (0 ≤ x2 ∧ x2 ≤ 1) ∧ (0 ≤ x3 ∧ x3 ≤ 96)) (fun x2 x3 => TJ xs (fun σ' => IF MR σ σ' ∧ True) 64 53 8 [(0, av 29 0 0), (1, iv 0), (2, iv x2), (3, iv x3)] [] _) ?_ y1 0 (by omega)
  intro x2 x3 hp5 ih4
  refine T_ld zk_53_8 rfl rfl rfl (pc' := 9) rfl ?_
  refine T_op zk_53_9 rfl (X_bi (v := 96) (by decide)) (pc' := 11) rfl ?_
  refine T_icmp_ge zk_53_11 (by omega) (by omega) (pc' := 14) rfl (fun h6 => ?_) (fun h7 => ?_)
  ·
    refine T_ld zk_53_48 rfl rfl rfl (pc' := 49) rfl ?_
    exact T_zret zk_53_49 rfl (by omega) (fun σ' h => ⟨_, rfl, (by omega), h.1, trivial⟩)
  ·
    refine T_ld zk_53_14 rfl rfl rfl (pc' := 15) rfl ?_
    refine T_if_eq zk_53_15 (by omega) (pc' := 18) rfl (fun h8 => ?_) (fun h9 => ?_)
    ·
      refine T_ld zk_53_48 rfl rfl rfl (pc' := 49) rfl ?_
      exact T_zret zk_53_49 rfl (by omega) (fun σ' h => ⟨_, rfl, (by omega), h.1, trivial⟩)
    ·
      refine T_ld zk_53_18 rfl rfl rfl (pc' := 19) rfl ?_
      refine T_op zk_53_19 rfl (X_bi (v := 38) (by decide)) (pc' := 21) rfl ?_
      refine T_calli (K := fun y10 σ' => (y10 = 0 ∨ y10 = 1) ∧ (fun σ' => IF MR σ σ' ∧ True) σ') (r := []) zk_53_21 rfl rfl rfl rfl rfl rfl (Or.inr ⟨_, _, _, _, rfl, vd_29, rfl⟩) (fun σ' h => (w_50 38 (by omega) σ' h.1.1 ).le (Nat.le_of_ble_eq_true rfl) (fun v σ2 ⟨y, h1, h2, h3, h4⟩ => ⟨y, h1, h2, h.1.tr h3 (fun _ _ _ _ h => h), trivial⟩)) (pc' := 24) rfl (fun y10 => ?_)
      refine G_ex (fun hy10 => ?_)
      refine T_if_eq zk_53_24 (by omega) (pc' := 27) rfl (fun h11 => ?_) (fun h12 => ?_)
      ·
        refine T_ld zk_53_48 rfl rfl rfl (pc' := 49) rfl ?_
        exact T_zret zk_53_49 rfl (by omega) (fun σ' h => ⟨_, rfl, (by omega), h.1, trivial⟩)
      ·
        refine T_ld zk_53_27 rfl rfl rfl (pc' := 28) rfl ?_
        refine T_ld zk_53_28 rfl rfl rfl (pc' := 29) rfl ?_
        refine T_calli (K := fun y13 σ' => (y13 = 0 ∨ y13 = 1) ∧ (fun σ' => IF MR σ σ' ∧ True) σ') (r := []) zk_53_29 rfl rfl rfl rfl rfl rfl (Or.inr ⟨_, _, _, _, rfl, vd_29, rfl⟩) (fun σ' h => (w_54_0   σ' h.1.1 ).le (Nat.le_of_ble_eq_true rfl) (fun v σ2 ⟨y, h1, h2, h3, h4⟩ => ⟨y, h1, h2, h.1.tr h3 (fun _ _ _ _ h => h), trivial⟩)) (pc' := 32) rfl (fun y13 => ?_)
        refine G_ex (fun hy13 => ?_)
        refine T_st (L' := [(0, av 29 0 0), (1, iv 0), (2, iv y13), (3, iv x3)]) zk_53_32 (nL := 4) rfl rfl rfl rfl rfl (pc' := 33) rfl ?_
        refine T_ld zk_53_33 rfl rfl rfl (pc' := 34) rfl ?_
        refine T_getR (t' := 30) (i' := 0) (k' := 0) zk_53_34 rfl rfl rfl vd_29 (pc' := 37) rfl ?_
        refine T_op zk_53_37 rfl (X_bi (v := -2) (by decide)) (pc' := 39) rfl ?_
        refine T_callv (J' := (fun σ' => IF MR σ σ' ∧ True)) (r := []) zk_53_39 rfl rfl rfl rfl rfl rfl (Or.inr ⟨_, _, _, _, rfl, vd_30, rfl⟩) (fun σ' h => (w_42 ((-2)) (by omega) σ' h.1.1 ).le (Nat.le_of_ble_eq_true rfl) (fun v σ2 ⟨h1, h3, h4⟩ => ⟨h1, h.1.tr h3 (fun _ _ _ _ h => h), trivial⟩)) (pc' := 42) rfl ?_
        refine T_iinc (L' := [(0, av 29 0 0), (1, iv 0), (2, iv y13), (3, iv (x3 + 1))]) zk_53_42 (nL := 4) rfl rfl rfl rfl (pc' := 45) rfl ?_
        refine T_goto zk_53_45 ?_
        exact ih4 y13 (x3 + 1) (by omega) (by omega)
/-- W$LawReader.readEither -/
theorem w_52_0 {xs : Nat × (Nat → Int32)}   (σ : ZS) (hI : Inv σ)   : CT xs 66 52 [av 29 0 0, iv 0] σ (fun v σ' => ∃ y, v = some (iv y) ∧ (y = 0 ∨ y = 1) ∧ IF MR σ σ' ∧ (True)) := by
  refine G_ct (J := (fun σ' => IF MR σ σ' ∧ True)) (L := [(0, av 29 0 0), (1, iv 0)]) (nL := 4) rfl rfl rfl ⟨IF.rf hI, trivial⟩ ?_
  refine T_ld zk_52_0 rfl rfl rfl (pc' := 1) rfl ?_
  refine T_ld zk_52_1 rfl rfl rfl (pc' := 2) rfl ?_
  refine T_calli (K := fun y1 σ' => (y1 = 0 ∨ y1 = 1) ∧ (fun σ' => IF MR σ σ' ∧ True) σ') (r := []) zk_52_2 rfl rfl rfl rfl rfl rfl (Or.inr ⟨_, _, _, _, rfl, vd_29, rfl⟩) (fun σ' h => (w_53_0   σ' h.1.1 ).le (Nat.le_of_ble_eq_true rfl) (fun v σ2 ⟨y, h1, h2, h3, h4⟩ => ⟨y, h1, h2, h.1.tr h3 (fun _ _ _ _ h => h), trivial⟩)) (pc' := 5) rfl (fun y1 => ?_)
  refine G_ex (fun hy1 => ?_)
  refine T_st (L' := [(0, av 29 0 0), (1, iv 0), (2, iv y1)]) zk_52_5 (nL := 4) rfl rfl rfl rfl rfl (pc' := 6) rfl ?_
  refine T_op zk_52_6 rfl X_ic (pc' := 7) rfl ?_
  refine T_st (L' := [(0, av 29 0 0), (1, iv 0), (2, iv y1), (3, iv 0)]) zk_52_7 (nL := 4) rfl rfl rfl rfl rfl (pc' := 8) rfl ?_
  refine T_loop2 (fun x2 x3 => ((96 - x3 : Int)).toNat) (fun x2 x3 => (0 ≤ x2 ∧ x2 ≤ 1) ∧ (0 ≤ x3 ∧ x3 ≤ 96)) (fun x2 x3 => TJ xs (fun σ' => IF MR σ σ' ∧ True) 65 52 8 [(0, av 29 0 0), (1, iv 0), (2, iv x2), (3, iv x3)] [] _) ?_ y1 0 (by omega)
  intro x2 x3 hp5 ih4
  refine T_ld zk_52_8 rfl rfl rfl (pc' := 9) rfl ?_
  refine T_op zk_52_9 rfl (X_bi (v := 96) (by decide)) (pc' := 11) rfl ?_
  refine T_icmp_ge zk_52_11 (by omega) (by omega) (pc' := 14) rfl (fun h6 => ?_) (fun h7 => ?_)
  ·
    refine T_ld zk_52_48 rfl rfl rfl (pc' := 49) rfl ?_
    exact T_zret zk_52_49 rfl (by omega) (fun σ' h => ⟨_, rfl, (by omega), h.1, trivial⟩)
  ·
    refine T_ld zk_52_14 rfl rfl rfl (pc' := 15) rfl ?_
    refine T_if_eq zk_52_15 (by omega) (pc' := 18) rfl (fun h8 => ?_) (fun h9 => ?_)
    ·
      refine T_ld zk_52_48 rfl rfl rfl (pc' := 49) rfl ?_
      exact T_zret zk_52_49 rfl (by omega) (fun σ' h => ⟨_, rfl, (by omega), h.1, trivial⟩)
    ·
      refine T_ld zk_52_18 rfl rfl rfl (pc' := 19) rfl ?_
      refine T_op zk_52_19 rfl (X_bi (v := 124) (by decide)) (pc' := 21) rfl ?_
      refine T_calli (K := fun y10 σ' => (y10 = 0 ∨ y10 = 1) ∧ (fun σ' => IF MR σ σ' ∧ True) σ') (r := []) zk_52_21 rfl rfl rfl rfl rfl rfl (Or.inr ⟨_, _, _, _, rfl, vd_29, rfl⟩) (fun σ' h => (w_50 124 (by omega) σ' h.1.1 ).le (Nat.le_of_ble_eq_true rfl) (fun v σ2 ⟨y, h1, h2, h3, h4⟩ => ⟨y, h1, h2, h.1.tr h3 (fun _ _ _ _ h => h), trivial⟩)) (pc' := 24) rfl (fun y10 => ?_)
      refine G_ex (fun hy10 => ?_)
      refine T_if_eq zk_52_24 (by omega) (pc' := 27) rfl (fun h11 => ?_) (fun h12 => ?_)
      ·
        refine T_ld zk_52_48 rfl rfl rfl (pc' := 49) rfl ?_
        exact T_zret zk_52_49 rfl (by omega) (fun σ' h => ⟨_, rfl, (by omega), h.1, trivial⟩)
      ·
        refine T_ld zk_52_27 rfl rfl rfl (pc' := 28) rfl ?_
        refine T_ld zk_52_28 rfl rfl rfl (pc' := 29) rfl ?_
        refine T_calli (K := fun y13 σ' => (y13 = 0 ∨ y13 = 1) ∧ (fun σ' => IF MR σ σ' ∧ True) σ') (r := []) zk_52_29 rfl rfl rfl rfl rfl rfl (Or.inr ⟨_, _, _, _, rfl, vd_29, rfl⟩) (fun σ' h => (w_53_0   σ' h.1.1 ).le (Nat.le_of_ble_eq_true rfl) (fun v σ2 ⟨y, h1, h2, h3, h4⟩ => ⟨y, h1, h2, h.1.tr h3 (fun _ _ _ _ h => h), trivial⟩)) (pc' := 32) rfl (fun y13 => ?_)
        refine G_ex (fun hy13 => ?_)
        refine T_st (L' := [(0, av 29 0 0), (1, iv 0), (2, iv y13), (3, iv x3)]) zk_52_32 (nL := 4) rfl rfl rfl rfl rfl (pc' := 33) rfl ?_
        refine T_ld zk_52_33 rfl rfl rfl (pc' := 34) rfl ?_
        refine T_getR (t' := 30) (i' := 0) (k' := 0) zk_52_34 rfl rfl rfl vd_29 (pc' := 37) rfl ?_
        refine T_op zk_52_37 rfl (X_bi (v := -3) (by decide)) (pc' := 39) rfl ?_
        refine T_callv (J' := (fun σ' => IF MR σ σ' ∧ True)) (r := []) zk_52_39 rfl rfl rfl rfl rfl rfl (Or.inr ⟨_, _, _, _, rfl, vd_30, rfl⟩) (fun σ' h => (w_42 ((-3)) (by omega) σ' h.1.1 ).le (Nat.le_of_ble_eq_true rfl) (fun v σ2 ⟨h1, h3, h4⟩ => ⟨h1, h.1.tr h3 (fun _ _ _ _ h => h), trivial⟩)) (pc' := 42) rfl ?_
        refine T_iinc (L' := [(0, av 29 0 0), (1, iv 0), (2, iv y13), (3, iv (x3 + 1))]) zk_52_42 (nL := 4) rfl rfl rfl rfl (pc' := 45) rfl ?_
        refine T_goto zk_52_45 ?_
        exact ih4 y13 (x3 + 1) (by omega) (by omega)
/-- W$LawReader.read -/
theorem w_48 {xs : Nat × (Nat → Int32)} (k : Nat) (hk : k < 8) (σ : ZS) (hI : Inv σ)   : CT xs 67 48 [av 29 0 0, av 33 0 k] σ (fun v σ' => ∃ y, v = some (iv y) ∧ (-2147483648 ≤ y ∧ y ≤ 2147483647) ∧ IF MR σ σ' ∧ (True)) := by
  refine G_ct (J := (fun σ' => IF MR σ σ' ∧ True)) (L := [(0, av 29 0 0), (1, av 33 0 k)]) (nL := 3) rfl rfl rfl ⟨IF.rf hI, trivial⟩ ?_
  refine T_ld zk_48_0 rfl rfl rfl (pc' := 1) rfl ?_
  refine T_ld zk_48_1 rfl rfl rfl (pc' := 2) rfl ?_
  refine G_getf (lo := 0) (hi := 96) zk_48_2 rfl (vd_33 (by omega)) (fun σ' h => h.1.1) (fun _ h => h.2 (by omega) (by omega)) (pc' := 5) rfl (fun y1 hy1 hy1' => ?_)
  refine T_putf (J' := (fun σ' => IF MR σ σ' ∧ σ' 29 0 0 2 = y1 ∧ True)) zk_48_5 rfl rfl vd_29 (fun σ' h => ⟨h.1.up (by simp only [rgP] <;> omega) (by first | exact pMR rfl | (unfold MR; omega)), up_eq, trivial⟩) (pc' := 8) rfl ?_
  refine T_op zk_48_8 rfl X_ic (pc' := 9) rfl ?_
  refine T_st (L' := [(0, av 29 0 0), (1, av 33 0 k), (2, iv 0)]) zk_48_9 (nL := 3) rfl rfl rfl rfl rfl (pc' := 10) rfl ?_
  refine G_know (J' := (fun σ' => IF MR σ σ' ∧ True)) (fun σ' h => ⟨h.1, trivial⟩) ?_
  refine T_loop1 (fun x2 => ((96 - x2 : Int)).toNat) (fun x2 => (0 ≤ x2 ∧ x2 ≤ 96)) (fun x2 => TJ xs (fun σ' => IF MR σ σ' ∧ True) 66 48 10 [(0, av 29 0 0), (1, av 33 0 k), (2, iv x2)] [] _) ?_ 0 (by omega)
  intro x2 hp4 ih3
  refine T_ld zk_48_10 rfl rfl rfl (pc' := 11) rfl ?_
  refine T_ld zk_48_11 rfl rfl rfl (pc' := 12) rfl ?_
  refine G_getf (lo := 0) (hi := 96) zk_48_12 rfl vd_29 (fun σ' h => h.1.1) (fun _ h => h.2 (by omega) (by omega)) (pc' := 15) rfl (fun y5 hy5 hy5' => ?_)
  refine T_icmp_ge zk_48_15 (by omega) (by omega) (pc' := 18) rfl (fun h6 => ?_) (fun h7 => ?_)
  ·
    refine T_ld zk_48_37 rfl rfl rfl (pc' := 38) rfl ?_
    refine T_op zk_48_38 rfl X_ic (pc' := 39) rfl ?_
    refine T_putf (J' := (fun σ' => IF MR σ σ' ∧ σ' 29 0 0 3 = 0 ∧ True)) zk_48_39 rfl rfl vd_29 (fun σ' h => ⟨h.1.up (by simp only [rgP] <;> omega) (by first | exact pMR rfl | (unfold MR; omega)), up_eq, trivial⟩) (pc' := 42) rfl ?_
    refine T_ld zk_48_42 rfl rfl rfl (pc' := 43) rfl ?_
    refine T_getR (t' := 30) (i' := 0) (k' := 0) zk_48_43 rfl rfl rfl vd_29 (pc' := 46) rfl ?_
    refine T_callv (J' := (fun σ' => IF MR σ σ' ∧ True)) (r := []) zk_48_46 rfl rfl rfl rfl rfl rfl (Or.inr ⟨_, _, _, _, rfl, vd_30, rfl⟩) (fun σ' h => (w_41   σ' h.1.1 ).le (Nat.le_of_ble_eq_true rfl) (fun v σ2 ⟨h1, h3, h4⟩ => ⟨h1, h.1.tr h3 (fun _ _ _ _ h => h), trivial⟩)) (pc' := 49) rfl ?_
    refine T_ld zk_48_49 rfl rfl rfl (pc' := 50) rfl ?_
    refine T_calli (K := fun y9 σ' => (y9 = 0 ∨ y9 = 1) ∧ (fun σ' => IF MR σ σ' ∧ True) σ') (r := []) zk_48_50 rfl rfl rfl rfl rfl rfl (Or.inr ⟨_, _, _, _, rfl, vd_29, rfl⟩) (fun σ' h => (w_51   σ' h.1.1 ).le (Nat.le_of_ble_eq_true rfl) (fun v σ2 ⟨y, h1, h2, h3, h4⟩ => ⟨y, h1, h2, h.1.tr h3 (fun _ _ _ _ h => h), trivial⟩)) (pc' := 53) rfl (fun y9 => ?_)
    refine G_ex (fun hy9 => ?_)
    refine T_if_eq zk_48_53 (by omega) (pc' := 56) rfl (fun h10 => ?_) (fun h11 => ?_)
    ·
      refine T_op zk_48_79 rfl X_ic (pc' := 80) rfl ?_
      refine T_st (L' := [(0, av 29 0 0), (1, av 33 0 k), (2, iv 0)]) zk_48_80 (nL := 3) rfl rfl rfl rfl rfl (pc' := 81) rfl ?_
      refine T_ld zk_48_81 rfl rfl rfl (pc' := 82) rfl ?_
      refine T_if_eq zk_48_82 (by omega) (pc' := 85) rfl (fun h12 => ?_) (fun h13 => ?_)
      ·
        refine T_ld zk_48_89 rfl rfl rfl (pc' := 90) rfl ?_
        refine G_getf (lo := -2147483648) (hi := 2147483647) zk_48_90 rfl vd_29 (fun σ' h => h.1.1) (fun _ h => (by have q := h.1; omega)) (pc' := 93) rfl (fun y14 hy14 hy14' => ?_)
        exact T_iret zk_48_93 rfl (fun σ' h => ⟨_, rfl, (by omega), h.1, trivial⟩)
      · exfalso; omega
    ·
      refine T_ld zk_48_56 rfl rfl rfl (pc' := 57) rfl ?_
      refine T_op zk_48_57 rfl X_ic (pc' := 58) rfl ?_
      refine T_calli (K := fun y15 σ' => (y15 = 0 ∨ y15 = 1) ∧ (fun σ' => IF MR σ σ' ∧ True) σ') (r := []) zk_48_58 rfl rfl rfl rfl rfl rfl (Or.inr ⟨_, _, _, _, rfl, vd_29, rfl⟩) (fun σ' h => (w_52_0   σ' h.1.1 ).le (Nat.le_of_ble_eq_true rfl) (fun v σ2 ⟨y, h1, h2, h3, h4⟩ => ⟨y, h1, h2, h.1.tr h3 (fun _ _ _ _ h => h), trivial⟩)) (pc' := 61) rfl (fun y15 => ?_)
      refine G_ex (fun hy15 => ?_)
      refine T_if_eq zk_48_61 (by omega) (pc' := 64) rfl (fun h16 => ?_) (fun h17 => ?_)
      ·
        refine T_op zk_48_79 rfl X_ic (pc' := 80) rfl ?_
        refine T_st (L' := [(0, av 29 0 0), (1, av 33 0 k), (2, iv 0)]) zk_48_80 (nL := 3) rfl rfl rfl rfl rfl (pc' := 81) rfl ?_
        refine T_ld zk_48_81 rfl rfl rfl (pc' := 82) rfl ?_
        refine T_if_eq zk_48_82 (by omega) (pc' := 85) rfl (fun h18 => ?_) (fun h19 => ?_)
        ·
          refine T_ld zk_48_89 rfl rfl rfl (pc' := 90) rfl ?_
          refine G_getf (lo := -2147483648) (hi := 2147483647) zk_48_90 rfl vd_29 (fun σ' h => h.1.1) (fun _ h => (by have q := h.1; omega)) (pc' := 93) rfl (fun y20 hy20 hy20' => ?_)
          exact T_iret zk_48_93 rfl (fun σ' h => ⟨_, rfl, (by omega), h.1, trivial⟩)
        · exfalso; omega
      ·
        refine T_ld zk_48_64 rfl rfl rfl (pc' := 65) rfl ?_
        refine G_getf (lo := -2147483648) (hi := 2147483647) zk_48_65 rfl vd_29 (fun σ' h => h.1.1) (fun _ h => (by have q := h.1; omega)) (pc' := 68) rfl (fun y21 hy21 hy21' => ?_)
        refine T_ld zk_48_68 rfl rfl rfl (pc' := 69) rfl ?_
        refine G_getf (lo := 0) (hi := 96) zk_48_69 rfl vd_29 (fun σ' h => h.1.1) (fun _ h => h.2 (by omega) (by omega)) (pc' := 72) rfl (fun y22 hy22 hy22' => ?_)
        refine T_icmp_ne zk_48_72 (by omega) (by omega) (pc' := 75) rfl (fun h23 => ?_) (fun h24 => ?_)
        ·
          refine T_op zk_48_79 rfl X_ic (pc' := 80) rfl ?_
          refine T_st (L' := [(0, av 29 0 0), (1, av 33 0 k), (2, iv 0)]) zk_48_80 (nL := 3) rfl rfl rfl rfl rfl (pc' := 81) rfl ?_
          refine T_ld zk_48_81 rfl rfl rfl (pc' := 82) rfl ?_
          refine T_if_eq zk_48_82 (by omega) (pc' := 85) rfl (fun h25 => ?_) (fun h26 => ?_)
          ·
            refine T_ld zk_48_89 rfl rfl rfl (pc' := 90) rfl ?_
            refine G_getf (lo := -2147483648) (hi := 2147483647) zk_48_90 rfl vd_29 (fun σ' h => h.1.1) (fun _ h => (by have q := h.1; omega)) (pc' := 93) rfl (fun y27 hy27 hy27' => ?_)
            exact T_iret zk_48_93 rfl (fun σ' h => ⟨_, rfl, (by omega), h.1, trivial⟩)
          · exfalso; omega
        ·
          refine T_op zk_48_75 rfl X_ic (pc' := 76) rfl ?_
          refine T_goto zk_48_76 ?_
          refine T_st (L' := [(0, av 29 0 0), (1, av 33 0 k), (2, iv 1)]) zk_48_80 (nL := 3) rfl rfl rfl rfl rfl (pc' := 81) rfl ?_
          refine T_ld zk_48_81 rfl rfl rfl (pc' := 82) rfl ?_
          refine T_if_eq zk_48_82 (by omega) (pc' := 85) rfl (fun h28 => ?_) (fun h29 => ?_)
          · exfalso; omega
          ·
            refine T_op zk_48_85 rfl X_ic (pc' := 86) rfl ?_
            refine T_goto zk_48_86 ?_
            exact T_iret zk_48_93 rfl (fun σ' h => ⟨_, rfl, (by omega), h.1, trivial⟩)
  ·
    refine T_ld zk_48_18 rfl rfl rfl (pc' := 19) rfl ?_
    refine T_getR (t' := 32) (i' := 0) (k' := 0) zk_48_19 rfl rfl rfl vd_29 (pc' := 22) rfl ?_
    refine T_ld zk_48_22 rfl rfl rfl (pc' := 23) rfl ?_
    refine T_ld zk_48_23 rfl rfl rfl (pc' := 24) rfl ?_
    refine T_getR (t' := 34) (i' := 0) (k' := k) zk_48_24 rfl rfl rfl (vd_33 (by omega)) (pc' := 27) rfl ?_
    refine T_ld zk_48_27 rfl rfl rfl (pc' := 28) rfl ?_
    refine G_lald (ln := 96) zk_48_28 rfl rfl (vd_34 (by omega)) (by omega) (by omega) (by omega) (pc' := 29) rfl (fun y30 => ?_)
    refine T_l2iU zk_48_29 (fun y31 hy31 hy31' _ => ?_)
    refine G_iast (J' := (fun σ' => IF MR σ σ' ∧ True)) (ln := 96) zk_48_30 rfl rfl vd_32 (by omega) (by omega) (by omega) (fun σ' h => ⟨h.1.up ⟨by omega, trivial⟩ (by first | exact pMR rfl | (unfold MR; omega)), trivial⟩) (pc' := 31) rfl ?_
    refine T_iinc (L' := [(0, av 29 0 0), (1, av 33 0 k), (2, iv (x2 + 1))]) zk_48_31 (nL := 3) rfl rfl rfl rfl (pc' := 34) rfl ?_
    refine T_goto zk_48_34 ?_
    exact ih3 (x2 + 1) (by omega) (by omega)
