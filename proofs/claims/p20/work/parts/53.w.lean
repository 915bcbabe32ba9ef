theorem zk_41_0 : zc 41 0 = some (.aload_n 0, 0, 0, 0, 0) := rfl
theorem zk_41_1 : zc 41 1 = some (.iconst 1, 0, 0, 0, 0) := rfl
theorem zk_41_2 : zc 41 2 = some (.putfield 15, 5, 1, 0, 70) := rfl
theorem zk_41_5 : zc 41 5 = some (.aload_n 0, 0, 0, 0, 0) := rfl
theorem zk_41_6 : zc 41 6 = some (.iconst 0, 0, 0, 0, 0) := rfl
theorem zk_41_7 : zc 41 7 = some (.putfield 19, 5, 2, 0, 71) := rfl
theorem zk_41_10 : zc 41 10 = some (.return_, 0, 0, 0, 0) := rfl
theorem zk_42_0 : zc 42 0 = some (.aload_n 0, 0, 0, 0, 0) := rfl
theorem zk_42_1 : zc 42 1 = some (.getfield 19, 5, 2, 0, 71) := rfl
theorem zk_42_4 : zc 42 4 = some (.bipush 96, 0, 0, 0, 0) := rfl
theorem zk_42_6 : zc 42 6 = some (.if_icmp .ge 23, 29, 0, 0, 0) := rfl
theorem zk_42_9 : zc 42 9 = some (.aload_n 0, 0, 0, 0, 0) := rfl
theorem zk_42_10 : zc 42 10 = some (.getfield 9, 5, 3, 0, 69) := rfl
theorem zk_42_13 : zc 42 13 = some (.aload_n 0, 0, 0, 0, 0) := rfl
theorem zk_42_14 : zc 42 14 = some (.getfield 19, 5, 2, 0, 71) := rfl
theorem zk_42_17 : zc 42 17 = some (.iload_n 1, 0, 0, 0, 0) := rfl
theorem zk_42_18 : zc 42 18 = some (.iastore, 0, 0, 0, 0) := rfl
theorem zk_42_19 : zc 42 19 = some (.aload_n 0, 0, 0, 0, 0) := rfl
theorem zk_42_20 : zc 42 20 = some (.dup, 0, 0, 0, 0) := rfl
theorem zk_42_21 : zc 42 21 = some (.getfield 19, 5, 2, 0, 71) := rfl
theorem zk_42_24 : zc 42 24 = some (.iconst 1, 0, 0, 0, 0) := rfl
theorem zk_42_25 : zc 42 25 = some (.iadd, 0, 0, 0, 0) := rfl
theorem zk_42_26 : zc 42 26 = some (.putfield 19, 5, 2, 0, 71) := rfl
theorem zk_42_29 : zc 42 29 = some (.return_, 0, 0, 0, 0) := rfl
theorem zk_43_0 : zc 43 0 = some (.aload_n 0, 0, 0, 0, 0) := rfl
theorem zk_43_1 : zc 43 1 = some (.iload_n 1, 0, 0, 0, 0) := rfl
theorem zk_43_2 : zc 43 2 = some (.iconst 3, 0, 0, 0, 0) := rfl
theorem zk_43_3 : zc 43 3 = some (.imul, 0, 0, 0, 0) := rfl
theorem zk_43_4 : zc 43 4 = some (.iload_n 2, 0, 0, 0, 0) := rfl
theorem zk_43_5 : zc 43 5 = some (.iadd, 0, 0, 0, 0) := rfl
theorem zk_43_6 : zc 43 6 = some (.sipush 1000, 0, 0, 0, 0) := rfl
theorem zk_43_9 : zc 43 9 = some (.imul, 0, 0, 0, 0) := rfl
theorem zk_43_10 : zc 43 10 = some (.iload_n 3, 0, 0, 0, 0) := rfl
theorem zk_43_11 : zc 43 11 = some (.iadd, 0, 0, 0, 0) := rfl
theorem zk_43_12 : zc 43 12 = some (.invokevirtual 23, 42, 0, 2, 56) := rfl
theorem zk_43_15 : zc 43 15 = some (.return_, 0, 0, 0, 0) := rfl
theorem zk_49_0 : zc 49 0 = some (.aload_n 0, 0, 0, 0, 0) := rfl
theorem zk_49_1 : zc 49 1 = some (.getfield 33, 6, 3, 0, 78) := rfl
theorem zk_49_4 : zc 49 4 = some (.ifCond .lt 26, 30, 0, 0, 0) := rfl
theorem zk_49_7 : zc 49 7 = some (.aload_n 0, 0, 0, 0, 0) := rfl
theorem zk_49_8 : zc 49 8 = some (.getfield 33, 6, 3, 0, 78) := rfl
theorem zk_49_11 : zc 49 11 = some (.aload_n 0, 0, 0, 0, 0) := rfl
theorem zk_49_12 : zc 49 12 = some (.getfield 28, 6, 2, 0, 76) := rfl
theorem zk_49_15 : zc 49 15 = some (.if_icmp .ge 15, 30, 0, 0, 0) := rfl
theorem zk_49_18 : zc 49 18 = some (.aload_n 0, 0, 0, 0, 0) := rfl
theorem zk_49_19 : zc 49 19 = some (.getfield 18, 6, 1, 0, 74) := rfl
theorem zk_49_22 : zc 49 22 = some (.aload_n 0, 0, 0, 0, 0) := rfl
theorem zk_49_23 : zc 49 23 = some (.getfield 33, 6, 3, 0, 78) := rfl
theorem zk_49_26 : zc 49 26 = some (.iaload, 0, 0, 0, 0) := rfl
theorem zk_49_27 : zc 49 27 = some (.goto 4, 31, 0, 0, 0) := rfl
theorem zk_49_30 : zc 49 30 = some (.iconst (-1), 0, 0, 0, 0) := rfl
theorem zk_49_31 : zc 49 31 = some (.ireturn, 0, 0, 0, 0) := rfl
theorem zk_50_0 : zc 50 0 = some (.aload_n 0, 0, 0, 0, 0) := rfl
theorem zk_50_1 : zc 50 1 = some (.invokevirtual 47, 49, 0, 1, 64) := rfl
theorem zk_50_4 : zc 50 4 = some (.iload_n 1, 0, 0, 0, 0) := rfl
theorem zk_50_5 : zc 50 5 = some (.if_icmp .eq 5, 10, 0, 0, 0) := rfl
theorem zk_50_8 : zc 50 8 = some (.iconst 0, 0, 0, 0, 0) := rfl
theorem zk_50_9 : zc 50 9 = some (.ireturn, 0, 0, 0, 0) := rfl
theorem zk_50_10 : zc 50 10 = some (.aload_n 0, 0, 0, 0, 0) := rfl
theorem zk_50_11 : zc 50 11 = some (.dup, 0, 0, 0, 0) := rfl
theorem zk_50_12 : zc 50 12 = some (.getfield 33, 6, 3, 0, 78) := rfl
theorem zk_50_15 : zc 50 15 = some (.iconst 1, 0, 0, 0, 0) := rfl
theorem zk_50_16 : zc 50 16 = some (.iadd, 0, 0, 0, 0) := rfl
theorem zk_50_17 : zc 50 17 = some (.putfield 33, 6, 3, 0, 78) := rfl
theorem zk_50_20 : zc 50 20 = some (.iconst 1, 0, 0, 0, 0) := rfl
theorem zk_50_21 : zc 50 21 = some (.ireturn, 0, 0, 0, 0) := rfl
theorem zk_51_0 : zc 51 0 = some (.aload_n 0, 0, 0, 0, 0) := rfl
theorem zk_51_1 : zc 51 1 = some (.bipush 103, 0, 0, 0, 0) := rfl
theorem zk_51_3 : zc 51 3 = some (.invokevirtual 51, 50, 0, 2, 65) := rfl
theorem zk_51_6 : zc 51 6 = some (.ifCond .ne 5, 11, 0, 0, 0) := rfl
theorem zk_51_9 : zc 51 9 = some (.iconst 0, 0, 0, 0, 0) := rfl
theorem zk_51_10 : zc 51 10 = some (.ireturn, 0, 0, 0, 0) := rfl
theorem zk_51_11 : zc 51 11 = some (.aload_n 0, 0, 0, 0, 0) := rfl
theorem zk_51_12 : zc 51 12 = some (.invokevirtual 47, 49, 0, 1, 64) := rfl
theorem zk_51_15 : zc 51 15 = some (.bipush 48, 0, 0, 0, 0) := rfl
theorem zk_51_17 : zc 51 17 = some (.if_icmp .lt 12, 29, 0, 0, 0) := rfl
theorem zk_51_20 : zc 51 20 = some (.aload_n 0, 0, 0, 0, 0) := rfl
theorem zk_51_21 : zc 51 21 = some (.invokevirtual 47, 49, 0, 1, 64) := rfl
theorem zk_51_24 : zc 51 24 = some (.bipush 50, 0, 0, 0, 0) := rfl
theorem zk_51_26 : zc 51 26 = some (.if_icmp .le 5, 31, 0, 0, 0) := rfl
theorem zk_51_29 : zc 51 29 = some (.iconst 0, 0, 0, 0, 0) := rfl
theorem zk_51_30 : zc 51 30 = some (.ireturn, 0, 0, 0, 0) := rfl
theorem zk_51_31 : zc 51 31 = some (.aload_n 0, 0, 0, 0, 0) := rfl
theorem zk_51_32 : zc 51 32 = some (.getfield 12, 6, 0, 0, 73) := rfl
theorem zk_51_35 : zc 51 35 = some (.aload_n 0, 0, 0, 0, 0) := rfl
theorem zk_51_36 : zc 51 36 = some (.invokevirtual 47, 49, 0, 1, 64) := rfl
theorem zk_51_39 : zc 51 39 = some (.bipush 48, 0, 0, 0, 0) := rfl
theorem zk_51_41 : zc 51 41 = some (.isub, 0, 0, 0, 0) := rfl
theorem zk_51_42 : zc 51 42 = some (.putfield 54, 5, 0, 0, 79) := rfl
theorem zk_51_45 : zc 51 45 = some (.aload_n 0, 0, 0, 0, 0) := rfl
theorem zk_51_46 : zc 51 46 = some (.dup, 0, 0, 0, 0) := rfl
theorem zk_51_47 : zc 51 47 = some (.getfield 33, 6, 3, 0, 78) := rfl
theorem zk_51_50 : zc 51 50 = some (.iconst 1, 0, 0, 0, 0) := rfl
theorem zk_51_51 : zc 51 51 = some (.iadd, 0, 0, 0, 0) := rfl
theorem zk_51_52 : zc 51 52 = some (.putfield 33, 6, 3, 0, 78) := rfl
theorem zk_51_55 : zc 51 55 = some (.aload_n 0, 0, 0, 0, 0) := rfl
theorem zk_51_56 : zc 51 56 = some (.bipush 58, 0, 0, 0, 0) := rfl
theorem zk_51_58 : zc 51 58 = some (.invokevirtual 51, 50, 0, 2, 65) := rfl
theorem zk_51_61 : zc 51 61 = some (.ireturn, 0, 0, 0, 0) := rfl
theorem zk_55_0 : zc 55 0 = some (.aload_n 0, 0, 0, 0, 0) := rfl
theorem zk_55_1 : zc 55 1 = some (.invokevirtual 47, 49, 0, 1, 64) := rfl
theorem zk_55_4 : zc 55 4 = some (.invokestatic 70, 58, 1, 1, 70) := rfl
theorem zk_55_7 : zc 55 7 = some (.istore_n 1, 0, 0, 0, 0) := rfl
theorem zk_55_8 : zc 55 8 = some (.iload_n 1, 0, 0, 0, 0) := rfl
theorem zk_55_9 : zc 55 9 = some (.iconst (-1), 0, 0, 0, 0) := rfl
theorem zk_55_10 : zc 55 10 = some (.if_icmp .ne 5, 15, 0, 0, 0) := rfl
theorem zk_55_13 : zc 55 13 = some (.iconst 0, 0, 0, 0, 0) := rfl
theorem zk_55_14 : zc 55 14 = some (.ireturn, 0, 0, 0, 0) := rfl
theorem zk_55_15 : zc 55 15 = some (.aload_n 0, 0, 0, 0, 0) := rfl
theorem zk_55_16 : zc 55 16 = some (.dup, 0, 0, 0, 0) := rfl
theorem zk_55_17 : zc 55 17 = some (.getfield 33, 6, 3, 0, 78) := rfl
theorem zk_55_20 : zc 55 20 = some (.iconst 1, 0, 0, 0, 0) := rfl
theorem zk_55_21 : zc 55 21 = some (.iadd, 0, 0, 0, 0) := rfl
theorem zk_55_22 : zc 55 22 = some (.putfield 33, 6, 3, 0, 78) := rfl
theorem zk_55_25 : zc 55 25 = some (.aload_n 0, 0, 0, 0, 0) := rfl
theorem zk_55_26 : zc 55 26 = some (.invokevirtual 47, 49, 0, 1, 64) := rfl
theorem zk_55_29 : zc 55 29 = some (.invokestatic 74, 59, 1, 1, 71) := rfl
theorem zk_55_32 : zc 55 32 = some (.istore_n 2, 0, 0, 0, 0) := rfl
theorem zk_55_33 : zc 55 33 = some (.iload_n 2, 0, 0, 0, 0) := rfl
theorem zk_55_34 : zc 55 34 = some (.iconst (-1), 0, 0, 0, 0) := rfl
theorem zk_55_35 : zc 55 35 = some (.if_icmp .ne 5, 40, 0, 0, 0) := rfl
theorem zk_55_38 : zc 55 38 = some (.iconst 0, 0, 0, 0, 0) := rfl
theorem zk_55_39 : zc 55 39 = some (.ireturn, 0, 0, 0, 0) := rfl
theorem zk_55_40 : zc 55 40 = some (.aload_n 0, 0, 0, 0, 0) := rfl
theorem zk_55_41 : zc 55 41 = some (.dup, 0, 0, 0, 0) := rfl
theorem zk_55_42 : zc 55 42 = some (.getfield 33, 6, 3, 0, 78) := rfl
theorem zk_55_45 : zc 55 45 = some (.iconst 1, 0, 0, 0, 0) := rfl
theorem zk_55_46 : zc 55 46 = some (.iadd, 0, 0, 0, 0) := rfl
theorem zk_55_47 : zc 55 47 = some (.putfield 33, 6, 3, 0, 78) := rfl
theorem zk_55_50 : zc 55 50 = some (.aload_n 0, 0, 0, 0, 0) := rfl
theorem zk_55_51 : zc 55 51 = some (.invokevirtual 77, 56, 0, 1, 72) := rfl
theorem zk_55_54 : zc 55 54 = some (.istore_n 3, 0, 0, 0, 0) := rfl
theorem zk_55_55 : zc 55 55 = some (.iload_n 3, 0, 0, 0, 0) := rfl
theorem zk_55_56 : zc 55 56 = some (.iconst (-1), 0, 0, 0, 0) := rfl
theorem zk_55_57 : zc 55 57 = some (.if_icmp .ne 5, 62, 0, 0, 0) := rfl
theorem zk_55_60 : zc 55 60 = some (.iconst 0, 0, 0, 0, 0) := rfl
theorem zk_55_61 : zc 55 61 = some (.ireturn, 0, 0, 0, 0) := rfl
theorem zk_55_62 : zc 55 62 = some (.aload_n 0, 0, 0, 0, 0) := rfl
theorem zk_55_63 : zc 55 63 = some (.getfield 12, 6, 0, 0, 73) := rfl
theorem zk_55_66 : zc 55 66 = some (.iload_n 1, 0, 0, 0, 0) := rfl
theorem zk_55_67 : zc 55 67 = some (.iload_n 2, 0, 0, 0, 0) := rfl
theorem zk_55_68 : zc 55 68 = some (.iload_n 3, 0, 0, 0, 0) := rfl
theorem zk_55_69 : zc 55 69 = some (.invokevirtual 80, 43, 0, 4, 73) := rfl
theorem zk_55_72 : zc 55 72 = some (.iconst 1, 0, 0, 0, 0) := rfl
theorem zk_55_73 : zc 55 73 = some (.ireturn, 0, 0, 0, 0) := rfl
theorem zk_56_0 : zc 56 0 = some (.aload_n 0, 0, 0, 0, 0) := rfl
theorem zk_56_1 : zc 56 1 = some (.invokevirtual 47, 49, 0, 1, 64) := rfl
theorem zk_56_4 : zc 56 4 = some (.invokestatic 84, 57, 1, 1, 74) := rfl
theorem zk_56_7 : zc 56 7 = some (.ifCond .ne 5, 12, 0, 0, 0) := rfl
theorem zk_56_10 : zc 56 10 = some (.iconst (-1), 0, 0, 0, 0) := rfl
theorem zk_56_11 : zc 56 11 = some (.ireturn, 0, 0, 0, 0) := rfl
theorem zk_56_12 : zc 56 12 = some (.aload_n 0, 0, 0, 0, 0) := rfl
theorem zk_56_13 : zc 56 13 = some (.invokevirtual 47, 49, 0, 1, 64) := rfl
theorem zk_56_16 : zc 56 16 = some (.bipush 48, 0, 0, 0, 0) := rfl
theorem zk_56_18 : zc 56 18 = some (.isub, 0, 0, 0, 0) := rfl
theorem zk_56_19 : zc 56 19 = some (.istore_n 1, 0, 0, 0, 0) := rfl
theorem zk_56_20 : zc 56 20 = some (.aload_n 0, 0, 0, 0, 0) := rfl
theorem zk_56_21 : zc 56 21 = some (.dup, 0, 0, 0, 0) := rfl
theorem zk_56_22 : zc 56 22 = some (.getfield 33, 6, 3, 0, 78) := rfl
theorem zk_56_25 : zc 56 25 = some (.iconst 1, 0, 0, 0, 0) := rfl
theorem zk_56_26 : zc 56 26 = some (.iadd, 0, 0, 0, 0) := rfl
theorem zk_56_27 : zc 56 27 = some (.putfield 33, 6, 3, 0, 78) := rfl
theorem zk_56_30 : zc 56 30 = some (.iconst 1, 0, 0, 0, 0) := rfl
theorem zk_56_31 : zc 56 31 = some (.istore_n 2, 0, 0, 0, 0) := rfl
theorem zk_56_32 : zc 56 32 = some (.iload_n 2, 0, 0, 0, 0) := rfl
theorem zk_56_33 : zc 56 33 = some (.iconst 3, 0, 0, 0, 0) := rfl
theorem zk_56_34 : zc 56 34 = some (.if_icmp .ge 46, 80, 0, 0, 0) := rfl
theorem zk_56_37 : zc 56 37 = some (.iload_n 1, 0, 0, 0, 0) := rfl
theorem zk_56_38 : zc 56 38 = some (.ifCond .le 42, 80, 0, 0, 0) := rfl
theorem zk_56_41 : zc 56 41 = some (.aload_n 0, 0, 0, 0, 0) := rfl
theorem zk_56_42 : zc 56 42 = some (.invokevirtual 47, 49, 0, 1, 64) := rfl
theorem zk_56_45 : zc 56 45 = some (.invokestatic 84, 57, 1, 1, 74) := rfl
theorem zk_56_48 : zc 56 48 = some (.ifCond .eq 32, 80, 0, 0, 0) := rfl
theorem zk_56_51 : zc 56 51 = some (.iload_n 1, 0, 0, 0, 0) := rfl
theorem zk_56_52 : zc 56 52 = some (.bipush 10, 0, 0, 0, 0) := rfl
theorem zk_56_54 : zc 56 54 = some (.imul, 0, 0, 0, 0) := rfl
theorem zk_56_55 : zc 56 55 = some (.aload_n 0, 0, 0, 0, 0) := rfl
theorem zk_56_56 : zc 56 56 = some (.invokevirtual 47, 49, 0, 1, 64) := rfl
theorem zk_56_59 : zc 56 59 = some (.iadd, 0, 0, 0, 0) := rfl
theorem zk_56_60 : zc 56 60 = some (.bipush 48, 0, 0, 0, 0) := rfl
theorem zk_56_62 : zc 56 62 = some (.isub, 0, 0, 0, 0) := rfl
theorem zk_56_63 : zc 56 63 = some (.istore_n 1, 0, 0, 0, 0) := rfl
theorem zk_56_64 : zc 56 64 = some (.aload_n 0, 0, 0, 0, 0) := rfl
theorem zk_56_65 : zc 56 65 = some (.dup, 0, 0, 0, 0) := rfl
theorem zk_56_66 : zc 56 66 = some (.getfield 33, 6, 3, 0, 78) := rfl
theorem zk_56_69 : zc 56 69 = some (.iconst 1, 0, 0, 0, 0) := rfl
theorem zk_56_70 : zc 56 70 = some (.iadd, 0, 0, 0, 0) := rfl
theorem zk_56_71 : zc 56 71 = some (.putfield 33, 6, 3, 0, 78) := rfl
theorem zk_56_74 : zc 56 74 = some (.iinc 2 1, 0, 0, 0, 0) := rfl
theorem zk_56_77 : zc 56 77 = some (.goto (-45), 32, 0, 0, 0) := rfl
theorem zk_56_80 : zc 56 80 = some (.iload_n 1, 0, 0, 0, 0) := rfl
theorem zk_56_81 : zc 56 81 = some (.ireturn, 0, 0, 0, 0) := rfl
theorem zk_57_0 : zc 57 0 = some (.iload_n 0, 0, 0, 0, 0) := rfl
theorem zk_57_1 : zc 57 1 = some (.bipush 48, 0, 0, 0, 0) := rfl
theorem zk_57_3 : zc 57 3 = some (.if_icmp .lt 13, 16, 0, 0, 0) := rfl
theorem zk_57_6 : zc 57 6 = some (.iload_n 0, 0, 0, 0, 0) := rfl
theorem zk_57_7 : zc 57 7 = some (.bipush 57, 0, 0, 0, 0) := rfl
theorem zk_57_9 : zc 57 9 = some (.if_icmp .gt 7, 16, 0, 0, 0) := rfl
theorem zk_57_12 : zc 57 12 = some (.iconst 1, 0, 0, 0, 0) := rfl
theorem zk_57_13 : zc 57 13 = some (.goto 4, 17, 0, 0, 0) := rfl
theorem zk_57_16 : zc 57 16 = some (.iconst 0, 0, 0, 0, 0) := rfl
theorem zk_57_17 : zc 57 17 = some (.ireturn, 0, 0, 0, 0) := rfl
theorem zk_58_0 : zc 58 0 = some (.iload_n 0, 0, 0, 0, 0) := rfl
theorem zk_58_1 : zc 58 1 = some (.tableswitch 107 100 119 #[105, 107, 95, 107, 101, 107, 107, 107, 99, 107, 107, 107, 107, 107, 107, 97, 107, 107, 107, 103], 0, 0, 0, 0) := rfl
theorem zk_58_96 : zc 58 96 = some (.iconst 0, 0, 0, 0, 0) := rfl
theorem zk_58_97 : zc 58 97 = some (.ireturn, 0, 0, 0, 0) := rfl
theorem zk_58_98 : zc 58 98 = some (.iconst 1, 0, 0, 0, 0) := rfl
theorem zk_58_99 : zc 58 99 = some (.ireturn, 0, 0, 0, 0) := rfl
theorem zk_58_100 : zc 58 100 = some (.iconst 2, 0, 0, 0, 0) := rfl
theorem zk_58_101 : zc 58 101 = some (.ireturn, 0, 0, 0, 0) := rfl
theorem zk_58_102 : zc 58 102 = some (.iconst 3, 0, 0, 0, 0) := rfl
theorem zk_58_103 : zc 58 103 = some (.ireturn, 0, 0, 0, 0) := rfl
theorem zk_58_104 : zc 58 104 = some (.iconst 4, 0, 0, 0, 0) := rfl
theorem zk_58_105 : zc 58 105 = some (.ireturn, 0, 0, 0, 0) := rfl
theorem zk_58_106 : zc 58 106 = some (.iconst 5, 0, 0, 0, 0) := rfl
theorem zk_58_107 : zc 58 107 = some (.ireturn, 0, 0, 0, 0) := rfl
theorem zk_58_108 : zc 58 108 = some (.iconst (-1), 0, 0, 0, 0) := rfl
theorem zk_58_109 : zc 58 109 = some (.ireturn, 0, 0, 0, 0) := rfl
theorem zk_59_0 : zc 59 0 = some (.iload_n 0, 0, 0, 0, 0) := rfl
theorem zk_59_1 : zc 59 1 = some (.tableswitch 33 60 62 #[27, 31, 29], 0, 0, 0, 0) := rfl
theorem zk_59_28 : zc 59 28 = some (.iconst 0, 0, 0, 0, 0) := rfl
theorem zk_59_29 : zc 59 29 = some (.ireturn, 0, 0, 0, 0) := rfl
theorem zk_59_30 : zc 59 30 = some (.iconst 1, 0, 0, 0, 0) := rfl
theorem zk_59_31 : zc 59 31 = some (.ireturn, 0, 0, 0, 0) := rfl
theorem zk_59_32 : zc 59 32 = some (.iconst 2, 0, 0, 0, 0) := rfl
theorem zk_59_33 : zc 59 33 = some (.ireturn, 0, 0, 0, 0) := rfl
theorem zk_59_34 : zc 59 34 = some (.iconst (-1), 0, 0, 0, 0) := rfl
theorem zk_59_35 : zc 59 35 = some (.ireturn, 0, 0, 0, 0) := rfl
