theorem zk_41_0 : zc 41 0 = some (.aload_n 0, 0, 0, 0, 0) := rfl
theorem zk_41_1 : zc 41 1 = some (.iconst 1, 0, 0, 0, 0) := rfl
theorem zk_41_2 : zc 41 2 = some (.putfield 15, 5, 1, 0, 70) := rfl
theorem zk_41_5 : zc 41 5 = some (.aload_n 0, 0, 0, 0, 0) := rfl
theorem zk_41_6 : zc 41 6 = some (.iconst 0, 0, 0, 0, 0) := rfl
theorem zk_41_7 : zc 41 7 = some (.putfield 19, 5, 2, 0, 71) := rfl
theorem zk_41_10 : zc 41 10 = some (.return_, 0, 0, 0, 0) := rfl
theorem zk_42_0 : zc 42 0 = some (.aload_n 0, 0, 0, 0, 0) := rfl
theorem zk_42_1 : zc 42 1 = some (.getfield 19, 5, 2, 0, 71) := rfl
theorem zk_42_4 : zc 42 4 = some (.bipush 96, 0, 0, 0, 0) := rfl
theorem zk_42_6 : zc 42 6 = some (.if_icmp .ge 23, 29, 0, 0, 0) := rfl
theorem zk_42_9 : zc 42 9 = some (.aload_n 0, 0, 0, 0, 0) := rfl
theorem zk_42_10 : zc 42 10 = some (.getfield 9, 5, 3, 0, 69) := rfl
theorem zk_42_13 : zc 42 13 = some (.aload_n 0, 0, 0, 0, 0) := rfl
theorem zk_42_14 : zc 42 14 = some (.getfield 19, 5, 2, 0, 71) := rfl
theorem zk_42_17 : zc 42 17 = some (.iload_n 1, 0, 0, 0, 0) := rfl
theorem zk_42_18 : zc 42 18 = some (.iastore, 0, 0, 0, 0) := rfl
theorem zk_42_19 : zc 42 19 = some (.aload_n 0, 0, 0, 0, 0) := rfl
theorem zk_42_20 : zc 42 20 = some (.dup, 0, 0, 0, 0) := rfl
theorem zk_42_21 : zc 42 21 = some (.getfield 19, 5, 2, 0, 71) := rfl
theorem zk_42_24 : zc 42 24 = some (.iconst 1, 0, 0, 0, 0) := rfl
theorem zk_42_25 : zc 42 25 = some (.iadd, 0, 0, 0, 0) := rfl
theorem zk_42_26 : zc 42 26 = some (.putfield 19, 5, 2, 0, 71) := rfl
theorem zk_42_29 : zc 42 29 = some (.return_, 0, 0, 0, 0) := rfl
theorem zk_43_0 : zc 43 0 = some (.aload_n 0, 0, 0, 0, 0) := rfl
theorem zk_43_1 : zc 43 1 = some (.iload_n 1, 0, 0, 0, 0) := rfl
theorem zk_43_2 : zc 43 2 = some (.iconst 3, 0, 0, 0, 0) := rfl
theorem zk_43_3 : zc 43 3 = some (.imul, 0, 0, 0, 0) := rfl
theorem zk_43_4 : zc 43 4 = some (.iload_n 2, 0, 0, 0, 0) := rfl
theorem zk_43_5 : zc 43 5 = some (.iadd, 0, 0, 0, 0) := rfl
theorem zk_43_6 : zc 43 6 = some (.sipush 1000, 0, 0, 0, 0) := rfl
theorem zk_43_9 : zc 43 9 = some (.imul, 0, 0, 0, 0) := rfl
theorem zk_43_10 : zc 43 10 = some (.iload_n 3, 0, 0, 0, 0) := rfl
theorem zk_43_11 : zc 43 11 = some (.iadd, 0, 0, 0, 0) := rfl
theorem zk_43_12 : zc 43 12 = some (.invokevirtual 23, 42, 0, 2, 56) := rfl
theorem zk_43_15 : zc 43 15 = some (.return_, 0, 0, 0, 0) := rfl
theorem zk_49_0 : zc 49 0 = some (.aload_n 0, 0, 0, 0, 0) := rfl
theorem zk_49_1 : zc 49 1 = some (.getfield 33, 6, 3, 0, 78) := rfl
theorem zk_49_4 : zc 49 4 = some (.ifCond .lt 26, 30, 0, 0, 0) := rfl
theorem zk_49_7 : zc 49 7 = some (.aload_n 0, 0, 0, 0, 0) := rfl
theorem zk_49_8 : zc 49 8 = some (.getfield 33, 6, 3, 0, 78) := rfl
theorem zk_49_11 : zc 49 11 = some (.aload_n 0, 0, 0, 0, 0) := rfl
theorem zk_49_12 : zc 49 12 = some (.getfield 28, 6, 2, 0, 76) := rfl
theorem zk_49_15 : zc 49 15 = some (.if_icmp .ge 15, 30, 0, 0, 0) := rfl
theorem zk_49_18 : zc 49 18 = some (.aload_n 0, 0, 0, 0, 0) := rfl
theorem zk_49_19 : zc 49 19 = some (.getfield 18, 6, 1, 0, 74) := rfl
theorem zk_49_22 : zc 49 22 = some (.aload_n 0, 0, 0, 0, 0) := rfl
theorem zk_49_23 : zc 49 23 = some (.getfield 33, 6, 3, 0, 78) := rfl
theorem zk_49_26 : zc 49 26 = some (.iaload, 0, 0, 0, 0) := rfl
theorem zk_49_27 : zc 49 27 = some (.goto 4, 31, 0, 0, 0) := rfl
theorem zk_49_30 : zc 49 30 = some (.iconst (-1), 0, 0, 0, 0) := rfl
theorem zk_49_31 : zc 49 31 = some (.ireturn, 0, 0, 0, 0) := rfl
theorem zk_50_0 : zc 50 0 = some (.aload_n 0, 0, 0, 0, 0) := rfl
theorem zk_50_1 : zc 50 1 = some (.invokevirtual 47, 49, 0, 1, 64) := rfl
theorem zk_50_4 : zc 50 4 = some (.iload_n 1, 0, 0, 0, 0) := rfl
theorem zk_50_5 : zc 50 5 = some (.if_icmp .eq 5, 10, 0, 0, 0) := rfl
theorem zk_50_8 : zc 50 8 = some (.iconst 0, 0, 0, 0, 0) := rfl
theorem zk_50_9 : zc 50 9 = some (.ireturn, 0, 0, 0, 0) := rfl
theorem zk_50_10 : zc 50 10 = some (.aload_n 0, 0, 0, 0, 0) := rfl
theorem zk_50_11 : zc 50 11 = some (.dup, 0, 0, 0, 0) := rfl
theorem zk_50_12 : zc 50 12 = some (.getfield 33, 6, 3, 0, 78) := rfl
theorem zk_50_15 : zc 50 15 = some (.iconst 1, 0, 0, 0, 0) := rfl
theorem zk_50_16 : zc 50 16 = some (.iadd, 0, 0, 0, 0) := rfl
theorem zk_50_17 : zc 50 17 = some (.putfield 33, 6, 3, 0, 78) := rfl
theorem zk_50_20 : zc 50 20 = some (.iconst 1, 0, 0, 0, 0) := rfl
theorem zk_50_21 : zc 50 21 = some (.ireturn, 0, 0, 0, 0) := rfl
theorem zk_51_0 : zc 51 0 = some (.aload_n 0, 0, 0, 0, 0) := rfl
theorem zk_51_1 : zc 51 1 = some (.bipush 103, 0, 0, 0, 0) := rfl
theorem zk_51_3 : zc 51 3 = some (.invokevirtual 51, 50, 0, 2, 65) := rfl
theorem zk_51_6 : zc 51 6 = some (.ifCond .ne 5, 11, 0, 0, 0) := rfl
theorem zk_51_9 : zc 51 9 = some (.iconst 0, 0, 0, 0, 0) := rfl
theorem zk_51_10 : zc 51 10 = some (.ireturn, 0, 0, 0, 0) := rfl
theorem zk_51_11 : zc 51 11 = some (.aload_n 0, 0, 0, 0, 0) := rfl
theorem zk_51_12 : zc 51 12 = some (.invokevirtual 47, 49, 0, 1, 64) := rfl
theorem zk_51_15 : zc 51 15 = some (.bipush 48, 0, 0, 0, 0) := rfl
theorem zk_51_17 : zc 51 17 = some (.if_icmp .lt 12, 29, 0, 0, 0) := rfl
theorem zk_51_20 : zc 51 20 = some (.aload_n 0, 0, 0, 0, 0) := rfl
theorem zk_51_21 : zc 51 21 = some (.invokevirtual 47, 49, 0, 1, 64) := rfl
theorem zk_51_24 : zc 51 24 = some (.bipush 50, 0, 0, 0, 0) := rfl
theorem zk_51_26 : zc 51 26 = some (.if_icmp .le 5, 31, 0, 0, 0) := rfl
theorem zk_51_29 : zc 51 29 = some (.iconst 0, 0, 0, 0, 0) := rfl
theorem zk_51_30 : zc 51 30 = some (.ireturn, 0, 0, 0, 0) := rfl
theorem zk_51_31 : zc 51 31 = some (.aload_n 0, 0, 0, 0, 0) := rfl
theorem zk_51_32 : zc 51 32 = some (.getfield 12, 6, 0, 0, 73) := rfl
theorem zk_51_35 : zc 51 35 = some (.aload_n 0, 0, 0, 0, 0) := rfl
theorem zk_51_36 : zc 51 36 = some (.invokevirtual 47, 49, 0, 1, 64) := rfl
theorem zk_51_39 : zc 51 39 = some (.bipush 48, 0, 0, 0, 0) := rfl
theorem zk_51_41 : zc 51 41 = some (.isub, 0, 0, 0, 0) := rfl
theorem zk_51_42 : zc 51 42 = some (.putfield 54, 5, 0, 0, 79) := rfl
theorem zk_51_45 : zc 51 45 = some (.aload_n 0, 0, 0, 0, 0) := rfl
theorem zk_51_46 : zc 51 46 = some (.dup, 0, 0, 0, 0) := rfl
theorem zk_51_47 : zc 51 47 = some (.getfield 33, 6, 3, 0, 78) := rfl
theorem zk_51_50 : zc 51 50 = some (.iconst 1, 0, 0, 0, 0) := rfl
theorem zk_51_51 : zc 51 51 = some (.iadd, 0, 0, 0, 0) := rfl
theorem zk_51_52 : zc 51 52 = some (.putfield 33, 6, 3, 0, 78) := rfl
theorem zk_51_55 : zc 51 55 = some (.aload_n 0, 0, 0, 0, 0) := rfl
theorem zk_51_56 : zc 51 56 = some (.bipush 58, 0, 0, 0, 0) := rfl
theorem zk_51_58 : zc 51 58 = some (.invokevirtual 51, 50, 0, 2, 65) := rfl
theorem zk_51_61 : zc 51 61 = some (.ireturn, 0, 0, 0, 0) := rfl
theorem zk_55_0 : zc 55 0 = some (.aload_n 0, 0, 0, 0, 0) := rfl
theorem zk_55_1 : zc 55 1 = some (.invokevirtual 47, 49, 0, 1, 64) := rfl
theorem zk_55_4 : zc 55 4 = some (.invokestatic 70, 58, 1, 1, 70) := rfl
theorem zk_55_7 : zc 55 7 = some (.istore_n 1, 0, 0, 0, 0) := rfl
theorem zk_55_8 : zc 55 8 = some (.iload_n 1, 0, 0, 0, 0) := rfl
theorem zk_55_9 : zc 55 9 = some (.iconst (-1), 0, 0, 0, 0) := rfl
theorem zk_55_10 : zc 55 10 = some (.if_icmp .ne 5, 15, 0, 0, 0) := rfl
theorem zk_55_13 : zc 55 13 = some (.iconst 0, 0, 0, 0, 0) := rfl
theorem zk_55_14 : zc 55 14 = some (.ireturn, 0, 0, 0, 0) := rfl
theorem zk_55_15 : zc 55 15 = some (.aload_n 0, 0, 0, 0, 0) := rfl
theorem zk_55_16 : zc 55 16 = some (.dup, 0, 0, 0, 0) := rfl
theorem zk_55_17 : zc 55 17 = some (.getfield 33, 6, 3, 0, 78) := rfl
theorem zk_55_20 : zc 55 20 = some (.iconst 1, 0, 0, 0, 0) := rfl
theorem zk_55_21 : zc 55 21 = some (.iadd, 0, 0, 0, 0) := rfl
theorem zk_55_22 : zc 55 22 = some (.putfield 33, 6, 3, 0, 78) := rfl
theorem zk_55_25 : zc 55 25 = some (.aload_n 0, 0, 0, 0, 0) := rfl
theorem zk_55_26 : zc 55 26 = some (.invokevirtual 47, 49, 0, 1, 64) := rfl
theorem zk_55_29 : zc 55 29 = some (.invokestatic 74, 59, 1, 1, 71) := rfl
theorem zk_55_32 : zc 55 32 = some (.istore_n 2, 0, 0, 0, 0) := rfl
theorem zk_55_33 : zc 55 33 = some (.iload_n 2, 0, 0, 0, 0) := rfl
theorem zk_55_34 : zc 55 34 = some (.iconst (-1), 0, 0, 0, 0) := rfl
theorem zk_55_35 : zc 55 35 = some (.if_icmp .ne 5, 40, 0, 0, 0) := rfl
theorem zk_55_38 : zc 55 38 = some (.iconst 0, 0, 0, 0, 0) := rfl
theorem zk_55_39 : zc 55 39 = some (.ireturn, 0, 0, 0, 0) := rfl
theorem zk_55_40 : zc 55 40 = some (.aload_n 0, 0, 0, 0, 0) := rfl
theorem zk_55_41 : zc 55 41 = some (.dup, 0, 0, 0, 0) := rfl
theorem zk_55_42 : zc 55 42 = some (.getfield 33, 6, 3, 0, 78) := rfl
theorem zk_55_45 : zc 55 45 = some (.iconst 1, 0, 0, 0, 0) := rfl
theorem zk_55_46 : zc 55 46 = some (.iadd, 0, 0, 0, 0) := rfl
theorem zk_55_47 : zc 55 47 = some (.putfield 33, 6, 3, 0, 78) := rfl
theorem zk_55_50 : zc 55 50 = some (.aload_n 0, 0, 0, 0, 0) := rfl
theorem zk_55_51 : zc 55 51 = some (.invokevirtual 77, 56, 0, 1, 72) := rfl
theorem zk_55_54 : zc 55 54 = some (.istore_n 3, 0, 0, 0, 0) := rfl
theorem zk_55_55 : zc 55 55 = some (.iload_n 3, 0, 0, 0, 0) := rfl
theorem zk_55_56 : zc 55 56 = some (.iconst (-1), 0, 0, 0, 0) := rfl
theorem zk_55_57 : zc 55 57 = some (.if_icmp .ne 5, 62, 0, 0, 0) := rfl
theorem zk_55_60 : zc 55 60 = some (.iconst 0, 0, 0, 0, 0) := rfl
theorem zk_55_61 : zc 55 61 = some (.ireturn, 0, 0, 0, 0) := rfl
theorem zk_55_62 : zc 55 62 = some (.aload_n 0, 0, 0, 0, 0) := rfl
theorem zk_55_63 : zc 55 63 = some (.getfield 12, 6, 0, 0, 73) := rfl
theorem zk_55_66 : zc 55 66 = some (.iload_n 1, 0, 0, 0, 0) := rfl
theorem zk_55_67 : zc 55 67 = some (.iload_n 2, 0, 0, 0, 0) := rfl
theorem zk_55_68 : zc 55 68 = some (.iload_n 3, 0, 0, 0, 0) := rfl
theorem zk_55_69 : zc 55 69 = some (.invokevirtual 80, 43, 0, 4, 73) := rfl
theorem zk_55_72 : zc 55 72 = some (.iconst 1, 0, 0, 0, 0) := rfl
theorem zk_55_73 : zc 55 73 = some (.ireturn, 0, 0, 0, 0) := rfl
theorem zk_56_0 : zc 56 0 = some (.aload_n 0, 0, 0, 0, 0) := rfl
theorem zk_56_1 : zc 56 1 = some (.invokevirtual 47, 49, 0, 1, 64) := rfl
theorem zk_56_4 : zc 56 4 = some (.invokestatic 84, 57, 1, 1, 74) := rfl
theorem zk_56_7 : zc 56 7 = some (.ifCond .ne 5, 12, 0, 0, 0) := rfl
theorem zk_56_10 : zc 56 10 = some (.iconst (-1), 0, 0, 0, 0) := rfl
theorem zk_56_11 : zc 56 11 = some (.ireturn, 0, 0, 0, 0) := rfl
theorem zk_56_12 : zc 56 12 = some (.aload_n 0, 0, 0, 0, 0) := rfl
theorem zk_56_13 : zc 56 13 = some (.invokevirtual 47, 49, 0, 1, 64) := rfl
theorem zk_56_16 : zc 56 16 = some (.bipush 48, 0, 0, 0, 0) := rfl
theorem zk_56_18 : zc 56 18 = some (.isub, 0, 0, 0, 0) := rfl
theorem zk_56_19 : zc 56 19 = some (.istore_n 1, 0, 0, 0, 0) := rfl
theorem zk_56_20 : zc 56 20 = some (.aload_n 0, 0, 0, 0, 0) := rfl
theorem zk_56_21 : zc 56 21 = some (.dup, 0, 0, 0, 0) := rfl
theorem zk_56_22 : zc 56 22 = some (.getfield 33, 6, 3, 0, 78) := rfl
theorem zk_56_25 : zc 56 25 = some (.iconst 1, 0, 0, 0, 0) := rfl
theorem zk_56_26 : zc 56 26 = some (.iadd, 0, 0, 0, 0) := rfl
theorem zk_56_27 : zc 56 27 = some (.putfield 33, 6, 3, 0, 78) := rfl
theorem zk_56_30 : zc 56 30 = some (.iconst 1, 0, 0, 0, 0) := rfl
theorem zk_56_31 : zc 56 31 = some (.istore_n 2, 0, 0, 0, 0) := rfl
theorem zk_56_32 : zc 56 32 = some (.iload_n 2, 0, 0, 0, 0) := rfl
theorem zk_56_33 : zc 56 33 = some (.iconst 3, 0, 0, 0, 0) := rfl
theorem zk_56_34 : zc 56 34 = some (.if_icmp .ge 46, 80, 0, 0, 0) := rfl
theorem zk_56_37 : zc 56 37 = some (.iload_n 1, 0, 0, 0, 0) := rfl
theorem zk_56_38 : zc 56 38 = some (.ifCond .le 42, 80, 0, 0, 0) := rfl
theorem zk_56_41 : zc 56 41 = some (.aload_n 0, 0, 0, 0, 0) := rfl
theorem zk_56_42 : zc 56 42 = some (.invokevirtual 47, 49, 0, 1, 64) := rfl
theorem zk_56_45 : zc 56 45 = some (.invokestatic 84, 57, 1, 1, 74) := rfl
theorem zk_56_48 : zc 56 48 = some (.ifCond .eq 32, 80, 0, 0, 0) := rfl
theorem zk_56_51 : zc 56 51 = some (.iload_n 1, 0, 0, 0, 0) := rfl
theorem zk_56_52 : zc 56 52 = some (.bipush 10, 0, 0, 0, 0) := rfl
theorem zk_56_54 : zc 56 54 = some (.imul, 0, 0, 0, 0) := rfl
theorem zk_56_55 : zc 56 55 = some (.aload_n 0, 0, 0, 0, 0) := rfl
theorem zk_56_56 : zc 56 56 = some (.invokevirtual 47, 49, 0, 1, 64) := rfl
theorem zk_56_59 : zc 56 59 = some (.iadd, 0, 0, 0, 0) := rfl
theorem zk_56_60 : zc 56 60 = some (.bipush 48, 0, 0, 0, 0) := rfl
theorem zk_56_62 : zc 56 62 = some (.isub, 0, 0, 0, 0) := rfl
theorem zk_56_63 : zc 56 63 = some (.istore_n 1, 0, 0, 0, 0) := rfl
theorem zk_56_64 : zc 56 64 = some (.aload_n 0, 0, 0, 0, 0) := rfl
theorem zk_56_65 : zc 56 65 = some (.dup, 0, 0, 0, 0) := rfl
theorem zk_56_66 : zc 56 66 = some (.getfield 33, 6, 3, 0, 78) := rfl
theorem zk_56_69 : zc 56 69 = some (.iconst 1, 0, 0, 0, 0) := rfl
theorem zk_56_70 : zc 56 70 = some (.iadd, 0, 0, 0, 0) := rfl
theorem zk_56_71 : zc 56 71 = some (.putfield 33, 6, 3, 0, 78) := rfl
theorem zk_56_74 : zc 56 74 = some (.iinc 2 1, 0, 0, 0, 0) := rfl
theorem zk_56_77 : zc 56 77 = some (.goto (-45), 32, 0, 0, 0) := rfl
theorem zk_56_80 : zc 56 80 = some (.iload_n 1, 0, 0, 0, 0) := rfl
theorem zk_56_81 : zc 56 81 = some (.ireturn, 0, 0, 0, 0) := rfl
theorem zk_57_0 : zc 57 0 = some (.iload_n 0, 0, 0, 0, 0) := rfl
theorem zk_57_1 : zc 57 1 = some (.bipush 48, 0, 0, 0, 0) := rfl
theorem zk_57_3 : zc 57 3 = some (.if_icmp .lt 13, 16, 0, 0, 0) := rfl
theorem zk_57_6 : zc 57 6 = some (.iload_n 0, 0, 0, 0, 0) := rfl
theorem zk_57_7 : zc 57 7 = some (.bipush 57, 0, 0, 0, 0) := rfl
theorem zk_57_9 : zc 57 9 = some (.if_icmp .gt 7, 16, 0, 0, 0) := rfl
theorem zk_57_12 : zc 57 12 = some (.iconst 1, 0, 0, 0, 0) := rfl
theorem zk_57_13 : zc 57 13 = some (.goto 4, 17, 0, 0, 0) := rfl
theorem zk_57_16 : zc 57 16 = some (.iconst 0, 0, 0, 0, 0) := rfl
theorem zk_57_17 : zc 57 17 = some (.ireturn, 0, 0, 0, 0) := rfl
theorem zk_58_0 : zc 58 0 = some (.iload_n 0, 0, 0, 0, 0) := rfl
theorem zk_58_1 : zc 58 1 = some (.tableswitch 107 100 119 #[105, 107, 95, 107, 101, 107, 107, 107, 99, 107, 107, 107, 107, 107, 107, 97, 107, 107, 107, 103], 0, 0, 0, 0) := rfl
theorem zk_58_96 : zc 58 96 = some (.iconst 0, 0, 0, 0, 0) := rfl
theorem zk_58_97 : zc 58 97 = some (.ireturn, 0, 0, 0, 0) := rfl
theorem zk_58_98 : zc 58 98 = some (.iconst 1, 0, 0, 0, 0) := rfl
theorem zk_58_99 : zc 58 99 = some (.ireturn, 0, 0, 0, 0) := rfl
theorem zk_58_100 : zc 58 100 = some (.iconst 2, 0, 0, 0, 0) := rfl
theorem zk_58_101 : zc 58 101 = some (.ireturn, 0, 0, 0, 0) := rfl
theorem zk_58_102 : zc 58 102 = some (.iconst 3, 0, 0, 0, 0) := rfl
theorem zk_58_103 : zc 58 103 = some (.ireturn, 0, 0, 0, 0) := rfl
theorem zk_58_104 : zc 58 104 = some (.iconst 4, 0, 0, 0, 0) := rfl
theorem zk_58_105 : zc 58 105 = some (.ireturn, 0, 0, 0, 0) := rfl
theorem zk_58_106 : zc 58 106 = some (.iconst 5, 0, 0, 0, 0) := rfl
theorem zk_58_107 : zc 58 107 = some (.ireturn, 0, 0, 0, 0) := rfl
theorem zk_58_108 : zc 58 108 = some (.iconst (-1), 0, 0, 0, 0) := rfl
theorem zk_58_109 : zc 58 109 = some (.ireturn, 0, 0, 0, 0) := rfl
theorem zk_59_0 : zc 59 0 = some (.iload_n 0, 0, 0, 0, 0) := rfl
theorem zk_59_1 : zc 59 1 = some (.tableswitch 33 60 62 #[27, 31, 29], 0, 0, 0, 0) := rfl
theorem zk_59_28 : zc 59 28 = some (.iconst 0, 0, 0, 0, 0) := rfl
theorem zk_59_29 : zc 59 29 = some (.ireturn, 0, 0, 0, 0) := rfl
theorem zk_59_30 : zc 59 30 = some (.iconst 1, 0, 0, 0, 0) := rfl
theorem zk_59_31 : zc 59 31 = some (.ireturn, 0, 0, 0, 0) := rfl
theorem zk_59_32 : zc 59 32 = some (.iconst 2, 0, 0, 0, 0) := rfl
theorem zk_59_33 : zc 59 33 = some (.ireturn, 0, 0, 0, 0) := rfl
theorem zk_59_34 : zc 59 34 = some (.iconst (-1), 0, 0, 0, 0) := rfl
theorem zk_59_35 : zc 59 35 = some (.ireturn, 0, 0, 0, 0) := rfl
/-- W$Law.begin -/
theorem w_41 {xs : Nat × (Nat → Int32)}   (σ : ZS) (hI : Inv σ)   : CT xs 1 41 [av 30 0 0] σ (fun v σ' => v = none ∧ IF MR σ σ' ∧ (True)) := by
  refine G_ct (J := (fun σ' => IF MR σ σ' ∧ True)) (L := [(0, av 30 0 0)]) (nL := 1) rfl rfl rfl ⟨IF.rf hI, trivial⟩ ?_
  refine T_ld zk_41_0 rfl rfl rfl (pc' := 1) rfl ?_
  refine T_op zk_41_1 rfl X_ic (pc' := 2) rfl ?_
  refine T_putz (J' := (fun σ' => IF MR σ σ' ∧ True)) zk_41_2 rfl rfl (by omega) vd_30 (fun σ' h => ⟨h.1.up (by simp only [rgP] <;> omega) (by first | exact pMR rfl | (unfold MR; omega)), trivial⟩) (pc' := 5) rfl ?_
  refine T_ld zk_41_5 rfl rfl rfl (pc' := 6) rfl ?_
  refine T_op zk_41_6 rfl X_ic (pc' := 7) rfl ?_
  refine T_putf (J' := (fun σ' => IF MR σ σ' ∧ True)) zk_41_7 rfl rfl vd_30 (fun σ' h => ⟨h.1.up (by simp only [rgP] <;> omega) (by first | exact pMR rfl | (unfold MR; omega)), trivial⟩) (pc' := 10) rfl ?_
  exact T_vret zk_41_10 rfl (fun σ' h => ⟨rfl, h.1, trivial⟩)
/-- W$Law.write -/
theorem w_42 {xs : Nat × (Nat → Int32)} (p0 : Int) (hp0 : -2147483648 ≤ p0 ∧ p0 ≤ 2147483647) (σ : ZS) (hI : Inv σ)   : CT xs 1 42 [av 30 0 0, iv p0] σ (fun v σ' => v = none ∧ IF MR σ σ' ∧ (True)) := by
  refine G_ct (J := (fun σ' => IF MR σ σ' ∧ True)) (L := [(0, av 30 0 0), (1, iv p0)]) (nL := 2) rfl rfl rfl ⟨IF.rf hI, trivial⟩ ?_
  refine T_ld zk_42_0 rfl rfl rfl (pc' := 1) rfl ?_
  refine G_learn (t := 30) (i := 0) (k := 0) (j := 2) (lo := 0) (hi := 96) (J2 := fun y1 => (fun σ' => IF MR σ σ' ∧ σ' 30 0 0 2 = y1 ∧ True)) vd_30 (fun σ' h => h.1.1) (fun _ h => h.2.1 (by omega) (by omega)) (fun σ' y h hy => ⟨h.1, hy, trivial⟩) (fun y1 hy1 hy1' => ?_)
  refine G_getX (w := y1) zk_42_1 rfl vd_30 (fun σ' h => h.2.1) (pc' := 4) rfl ?_
  refine T_op zk_42_4 rfl (X_bi (v := 96) (by decide)) (pc' := 6) rfl ?_
  refine T_icmp_ge zk_42_6 (by omega) (by omega) (pc' := 9) rfl (fun h2 => ?_) (fun h3 => ?_)
  ·
    exact T_vret zk_42_29 rfl (fun σ' h => ⟨rfl, h.1, trivial⟩)
  ·
    refine T_ld zk_42_9 rfl rfl rfl (pc' := 10) rfl ?_
    refine T_getR (t' := 31) (i' := 0) (k' := 0) zk_42_10 rfl rfl rfl vd_30 (pc' := 13) rfl ?_
    refine T_ld zk_42_13 rfl rfl rfl (pc' := 14) rfl ?_
    refine G_getX (w := y1) zk_42_14 rfl vd_30 (fun σ' h => h.2.1) (pc' := 17) rfl ?_
    refine T_ld zk_42_17 rfl rfl rfl (pc' := 18) rfl ?_
    refine G_iast (J' := (fun σ' => IF MR σ σ' ∧ σ' 30 0 0 2 = y1 ∧ True)) (ln := 96) zk_42_18 rfl rfl vd_31 (by omega) (by omega) (by omega) (fun σ' h => ⟨h.1.up ⟨by omega, trivial⟩ (by first | exact pMR rfl | (unfold MR; omega)), (up_ne (by omega)).trans (h.2.1), trivial⟩) (pc' := 19) rfl ?_
    refine T_ld zk_42_19 rfl rfl rfl (pc' := 20) rfl ?_
    refine T_op (st' := [av 30 0 0, av 30 0 0]) zk_42_20 rfl rfl (pc' := 21) rfl ?_
    refine G_getX (w := y1) zk_42_21 rfl vd_30 (fun σ' h => h.2.1) (pc' := 24) rfl ?_
    refine T_op zk_42_24 rfl X_ic (pc' := 25) rfl ?_
    refine T_op zk_42_25 rfl X_add (pc' := 26) rfl ?_
    refine T_putf (J' := (fun σ' => IF MR σ σ' ∧ σ' 30 0 0 2 = y1 + 1 ∧ True)) zk_42_26 rfl rfl vd_30 (fun σ' h => ⟨h.1.up (by simp only [rgP] <;> omega) (by first | exact pMR rfl | (unfold MR; omega)), up_eq, trivial⟩) (pc' := 29) rfl ?_
    exact T_vret zk_42_29 rfl (fun σ' h => ⟨rfl, h.1, trivial⟩)
/-- W$Law.writeTest -/
theorem w_43 {xs : Nat × (Nat → Int32)} (p0 : Int) (p1 : Int) (p2 : Int) (hp0 : -10 ≤ p0 ∧ p0 ≤ 10) (hp1 : -10 ≤ p1 ∧ p1 ≤ 10) (hp2 : -2147483648 ≤ p2 ∧ p2 ≤ 2147483647) (σ : ZS) (hI : Inv σ)   : CT xs 2 43 [av 30 0 0, iv p0, iv p1, iv p2] σ (fun v σ' => v = none ∧ IF MR σ σ' ∧ (True)) := by
  refine G_ct (J := (fun σ' => IF MR σ σ' ∧ True)) (L := [(0, av 30 0 0), (1, iv p0), (2, iv p1), (3, iv p2)]) (nL := 4) rfl rfl rfl ⟨IF.rf hI, trivial⟩ ?_
  refine T_ld zk_43_0 rfl rfl rfl (pc' := 1) rfl ?_
  refine T_ld zk_43_1 rfl rfl rfl (pc' := 2) rfl ?_
  refine T_op zk_43_2 rfl X_ic (pc' := 3) rfl ?_
  refine T_op zk_43_3 rfl X_mul (pc' := 4) rfl ?_
  refine T_ld zk_43_4 rfl rfl rfl (pc' := 5) rfl ?_
  refine T_op zk_43_5 rfl X_add (pc' := 6) rfl ?_
  refine T_op zk_43_6 rfl (X_si (v := 1000) (by decide)) (pc' := 9) rfl ?_
  refine T_op zk_43_9 rfl X_mul (pc' := 10) rfl ?_
  refine T_ld zk_43_10 rfl rfl rfl (pc' := 11) rfl ?_
  refine G_unk zk_43_11 rfl (pc' := 12) rfl (fun y1 hy1 hy1' => ?_)
  refine T_callv (J' := (fun σ' => IF MR σ σ' ∧ True)) (r := []) zk_43_12 rfl rfl rfl rfl rfl rfl (Or.inr ⟨_, _, _, _, rfl, vd_30, rfl⟩) (fun σ' h => (w_42 y1 (by omega) σ' h.1.1 ).le (Nat.le_of_ble_eq_true rfl) (fun v σ2 ⟨h1, h3, h4⟩ => ⟨h1, h.1.tr h3 (fun _ _ _ _ h => h), trivial⟩)) (pc' := 15) rfl ?_
  exact T_vret zk_43_15 rfl (fun σ' h => ⟨rfl, h.1, trivial⟩)
/-- W$LawReader.here -/
theorem w_49 {xs : Nat × (Nat → Int32)}   (σ : ZS) (hI : Inv σ)   : CT xs 1 49 [av 29 0 0] σ (fun v σ' => ∃ y, v = some (iv y) ∧ (-2147483648 ≤ y ∧ y ≤ 2147483647) ∧ IF MN σ σ' ∧ (True)) := by
  refine G_ct (J := (fun σ' => IF MN σ σ' ∧ True)) (L := [(0, av 29 0 0)]) (nL := 1) rfl rfl rfl ⟨IF.rf hI, trivial⟩ ?_
  refine T_ld zk_49_0 rfl rfl rfl (pc' := 1) rfl ?_
  refine G_learn (t := 29) (i := 0) (k := 0) (j := 3) (lo := -2147483648) (hi := 2147483647) (J2 := fun y1 => (fun σ' => IF MN σ σ' ∧ σ' 29 0 0 3 = y1 ∧ True)) vd_29 (fun σ' h => h.1.1) (fun _ h => (by have q := h.1; omega)) (fun σ' y h hy => ⟨h.1, hy, trivial⟩) (fun y1 hy1 hy1' => ?_)
  refine G_getX (w := y1) zk_49_1 rfl vd_29 (fun σ' h => h.2.1) (pc' := 4) rfl ?_
  refine T_if_lt zk_49_4 (by omega) (pc' := 7) rfl (fun h2 => ?_) (fun h3 => ?_)
  ·
    refine T_op zk_49_30 rfl X_ic (pc' := 31) rfl ?_
    exact T_iret zk_49_31 rfl (fun σ' h => ⟨_, rfl, (by omega), h.1, trivial⟩)
  ·
    refine T_ld zk_49_7 rfl rfl rfl (pc' := 8) rfl ?_
    refine G_getX (w := y1) zk_49_8 rfl vd_29 (fun σ' h => h.2.1) (pc' := 11) rfl ?_
    refine T_ld zk_49_11 rfl rfl rfl (pc' := 12) rfl ?_
    refine G_getf (lo := 0) (hi := 96) zk_49_12 rfl vd_29 (fun σ' h => h.1.1) (fun _ h => h.2 (by omega) (by omega)) (pc' := 15) rfl (fun y4 hy4 hy4' => ?_)
    refine T_icmp_ge zk_49_15 (by omega) (by omega) (pc' := 18) rfl (fun h5 => ?_) (fun h6 => ?_)
    ·
      refine T_op zk_49_30 rfl X_ic (pc' := 31) rfl ?_
      exact T_iret zk_49_31 rfl (fun σ' h => ⟨_, rfl, (by omega), h.1, trivial⟩)
    ·
      refine T_ld zk_49_18 rfl rfl rfl (pc' := 19) rfl ?_
      refine T_getR (t' := 32) (i' := 0) (k' := 0) zk_49_19 rfl rfl rfl vd_29 (pc' := 22) rfl ?_
      refine T_ld zk_49_22 rfl rfl rfl (pc' := 23) rfl ?_
      refine G_getX (w := y1) zk_49_23 rfl vd_29 (fun σ' h => h.2.1) (pc' := 26) rfl ?_
      refine G_iald (lo := -2147483648) (hi := 2147483647) (ln := 96) zk_49_26 rfl rfl vd_32 (by omega) (by omega) (by omega) (fun σ' h => h.1.1) (fun _ h => (by have q := h.1; omega)) (pc' := 27) rfl (fun y7 hy7 hy7' => ?_)
      refine T_goto zk_49_27 ?_
      exact T_iret zk_49_31 rfl (fun σ' h => ⟨_, rfl, (by omega), h.1, trivial⟩)
/-- W$LawReader.step -/
theorem w_50 {xs : Nat × (Nat → Int32)} (p0 : Int) (hp0 : -2147483648 ≤ p0 ∧ p0 ≤ 2147483647) (σ : ZS) (hI : Inv σ)   : CT xs 2 50 [av 29 0 0, iv p0] σ (fun v σ' => ∃ y, v = some (iv y) ∧ (y = 0 ∨ y = 1) ∧ IF MR σ σ' ∧ (True)) := by
  refine G_ct (J := (fun σ' => IF MR σ σ' ∧ True)) (L := [(0, av 29 0 0), (1, iv p0)]) (nL := 2) rfl rfl rfl ⟨IF.rf hI, trivial⟩ ?_
  refine T_ld zk_50_0 rfl rfl rfl (pc' := 1) rfl ?_
  refine T_calli (K := fun y1 σ' => (-2147483648 ≤ y1 ∧ y1 ≤ 2147483647) ∧ (fun σ' => IF MR σ σ' ∧ True) σ') (r := []) zk_50_1 rfl rfl rfl rfl rfl rfl (Or.inr ⟨_, _, _, _, rfl, vd_29, rfl⟩) (fun σ' h => (w_49   σ' h.1.1 ).le (Nat.le_of_ble_eq_true rfl) (fun v σ2 ⟨y, h1, h2, h3, h4⟩ => ⟨y, h1, h2, h.1.tr h3 MN_sub, trivial⟩)) (pc' := 4) rfl (fun y1 => ?_)
  refine G_ex (fun hy1 => ?_)
  refine T_ld zk_50_4 rfl rfl rfl (pc' := 5) rfl ?_
  refine T_icmp_eq zk_50_5 (by omega) (by omega) (pc' := 8) rfl (fun h2 => ?_) (fun h3 => ?_)
  ·
    refine T_ld zk_50_10 rfl rfl rfl (pc' := 11) rfl ?_
    refine T_op (st' := [av 29 0 0, av 29 0 0]) zk_50_11 rfl rfl (pc' := 12) rfl ?_
    refine G_getf (lo := -2147483648) (hi := 2147483647) zk_50_12 rfl vd_29 (fun σ' h => h.1.1) (fun _ h => (by have q := h.1; omega)) (pc' := 15) rfl (fun y4 hy4 hy4' => ?_)
    refine T_op zk_50_15 rfl X_ic (pc' := 16) rfl ?_
    refine G_unk zk_50_16 rfl (pc' := 17) rfl (fun y5 hy5 hy5' => ?_)
    refine T_putf (J' := (fun σ' => IF MR σ σ' ∧ σ' 29 0 0 3 = y5 ∧ True)) zk_50_17 rfl rfl vd_29 (fun σ' h => ⟨h.1.up (by simp only [rgP] <;> omega) (by first | exact pMR rfl | (unfold MR; omega)), up_eq, trivial⟩) (pc' := 20) rfl ?_
    refine T_op zk_50_20 rfl X_ic (pc' := 21) rfl ?_
    exact T_zret zk_50_21 rfl (by omega) (fun σ' h => ⟨_, rfl, (by omega), h.1, trivial⟩)
  ·
    refine T_op zk_50_8 rfl X_ic (pc' := 9) rfl ?_
    exact T_zret zk_50_9 rfl (by omega) (fun σ' h => ⟨_, rfl, (by omega), h.1, trivial⟩)
/-- W$LawReader.isDigit -/
theorem w_57 {xs : Nat × (Nat → Int32)} (p0 : Int) (hp0 : -2147483648 ≤ p0 ∧ p0 ≤ 2147483647) (σ : ZS) (hI : Inv σ)   : CT xs 1 57 [iv p0] σ (fun v σ' => ∃ y, v = some (iv y) ∧ (y = 0 ∨ y = 1) ∧ IF MN σ σ' ∧ (True)) := by
  refine G_ct (J := (fun σ' => IF MN σ σ' ∧ True)) (L := [(0, iv p0)]) (nL := 1) rfl rfl rfl ⟨IF.rf hI, trivial⟩ ?_
  refine T_ld zk_57_0 rfl rfl rfl (pc' := 1) rfl ?_
  refine T_op zk_57_1 rfl (X_bi (v := 48) (by decide)) (pc' := 3) rfl ?_
  refine T_icmp_lt zk_57_3 (by omega) (by omega) (pc' := 6) rfl (fun h1 => ?_) (fun h2 => ?_)
  ·
    refine T_op zk_57_16 rfl X_ic (pc' := 17) rfl ?_
    exact T_zret zk_57_17 rfl (by omega) (fun σ' h => ⟨_, rfl, (by omega), h.1, trivial⟩)
  ·
    refine T_ld zk_57_6 rfl rfl rfl (pc' := 7) rfl ?_
    refine T_op zk_57_7 rfl (X_bi (v := 57) (by decide)) (pc' := 9) rfl ?_
    refine T_icmp_gt zk_57_9 (by omega) (by omega) (pc' := 12) rfl (fun h3 => ?_) (fun h4 => ?_)
    ·
      refine T_op zk_57_16 rfl X_ic (pc' := 17) rfl ?_
      exact T_zret zk_57_17 rfl (by omega) (fun σ' h => ⟨_, rfl, (by omega), h.1, trivial⟩)
    ·
      refine T_op zk_57_12 rfl X_ic (pc' := 13) rfl ?_
      refine T_goto zk_57_13 ?_
      exact T_zret zk_57_17 rfl (by omega) (fun σ' h => ⟨_, rfl, (by omega), h.1, trivial⟩)
/-- W$LawReader.readNumber -/
theorem w_56 {xs : Nat × (Nat → Int32)}   (σ : ZS) (hI : Inv σ)   : CT xs 2 56 [av 29 0 0] σ (fun v σ' => ∃ y, v = some (iv y) ∧ (-2147483648 ≤ y ∧ y ≤ 2147483647) ∧ IF MR σ σ' ∧ (True)) := by
  refine G_ct (J := (fun σ' => IF MR σ σ' ∧ True)) (L := [(0, av 29 0 0)]) (nL := 3) rfl rfl rfl ⟨IF.rf hI, trivial⟩ ?_
  refine T_ld zk_56_0 rfl rfl rfl (pc' := 1) rfl ?_
  refine T_calli (K := fun y1 σ' => (-2147483648 ≤ y1 ∧ y1 ≤ 2147483647) ∧ (fun σ' => IF MR σ σ' ∧ True) σ') (r := []) zk_56_1 rfl rfl rfl rfl rfl rfl (Or.inr ⟨_, _, _, _, rfl, vd_29, rfl⟩) (fun σ' h => (w_49   σ' h.1.1 ).le (Nat.le_of_ble_eq_true rfl) (fun v σ2 ⟨y, h1, h2, h3, h4⟩ => ⟨y, h1, h2, h.1.tr h3 MN_sub, trivial⟩)) (pc' := 4) rfl (fun y1 => ?_)
  refine G_ex (fun hy1 => ?_)
  refine T_calli (K := fun y2 σ' => (y2 = 0 ∨ y2 = 1) ∧ (fun σ' => IF MR σ σ' ∧ True) σ') (r := []) zk_56_4 rfl rfl rfl rfl rfl rfl (Or.inl (Or.inl rfl)) (fun σ' h => (w_57 y1 (by omega) σ' h.1.1 ).le (Nat.le_of_ble_eq_true rfl) (fun v σ2 ⟨y, h1, h2, h3, h4⟩ => ⟨y, h1, h2, h.1.tr h3 MN_sub, trivial⟩)) (pc' := 7) rfl (fun y2 => ?_)
  refine G_ex (fun hy2 => ?_)
  refine T_if_ne zk_56_7 (by omega) (pc' := 10) rfl (fun h3 => ?_) (fun h4 => ?_)
  ·
    refine T_ld zk_56_12 rfl rfl rfl (pc' := 13) rfl ?_
    refine T_calli (K := fun y5 σ' => (-2147483648 ≤ y5 ∧ y5 ≤ 2147483647) ∧ (fun σ' => IF MR σ σ' ∧ True) σ') (r := []) zk_56_13 rfl rfl rfl rfl rfl rfl (Or.inr ⟨_, _, _, _, rfl, vd_29, rfl⟩) (fun σ' h => (w_49   σ' h.1.1 ).le (Nat.le_of_ble_eq_true rfl) (fun v σ2 ⟨y, h1, h2, h3, h4⟩ => ⟨y, h1, h2, h.1.tr h3 MN_sub, trivial⟩)) (pc' := 16) rfl (fun y5 => ?_)
    refine G_ex (fun hy5 => ?_)
    refine T_op zk_56_16 rfl (X_bi (v := 48) (by decide)) (pc' := 18) rfl ?_
    refine G_unk zk_56_18 rfl (pc' := 19) rfl (fun y6 hy6 hy6' => ?_)
    refine T_st (L' := [(0, av 29 0 0), (1, iv y6)]) zk_56_19 (nL := 3) rfl rfl rfl rfl rfl (pc' := 20) rfl ?_
    refine T_ld zk_56_20 rfl rfl rfl (pc' := 21) rfl ?_
    refine T_op (st' := [av 29 0 0, av 29 0 0]) zk_56_21 rfl rfl (pc' := 22) rfl ?_
    refine G_getf (lo := -2147483648) (hi := 2147483647) zk_56_22 rfl vd_29 (fun σ' h => h.1.1) (fun _ h => (by have q := h.1; omega)) (pc' := 25) rfl (fun y7 hy7 hy7' => ?_)
    refine T_op zk_56_25 rfl X_ic (pc' := 26) rfl ?_
    refine G_unk zk_56_26 rfl (pc' := 27) rfl (fun y8 hy8 hy8' => ?_)
    refine T_putf (J' := (fun σ' => IF MR σ σ' ∧ σ' 29 0 0 3 = y8 ∧ True)) zk_56_27 rfl rfl vd_29 (fun σ' h => ⟨h.1.up (by simp only [rgP] <;> omega) (by first | exact pMR rfl | (unfold MR; omega)), up_eq, trivial⟩) (pc' := 30) rfl ?_
    refine T_op zk_56_30 rfl X_ic (pc' := 31) rfl ?_
    refine T_st (L' := [(0, av 29 0 0), (1, iv y6), (2, iv 1)]) zk_56_31 (nL := 3) rfl rfl rfl rfl rfl (pc' := 32) rfl ?_
    refine G_know (J' := (fun σ' => IF MR σ σ' ∧ True)) (fun σ' h => ⟨h.1, trivial⟩) ?_
    refine T_loop2 (fun x9 x10 => ((3 - x10 : Int)).toNat) (fun x9 x10 => (-2147483648 ≤ x9 ∧ x9 ≤ 2147483647) ∧ (1 ≤ x10 ∧ x10 ≤ 3)) (fun x9 x10 => TJ xs (fun σ' => IF MR σ σ' ∧ True) 1 56 32 [(0, av 29 0 0), (1, iv x9), (2, iv x10)] [] _) ?_ y6 1 (by omega)
    intro x9 x10 hp12 ih11
    refine T_ld zk_56_32 rfl rfl rfl (pc' := 33) rfl ?_
    refine T_op zk_56_33 rfl X_ic (pc' := 34) rfl ?_
    refine T_icmp_ge zk_56_34 (by omega) (by omega) (pc' := 37) rfl (fun h13 => ?_) (fun h14 => ?_)
    ·
      refine T_ld zk_56_80 rfl rfl rfl (pc' := 81) rfl ?_
      exact T_iret zk_56_81 rfl (fun σ' h => ⟨_, rfl, (by omega), h.1, trivial⟩)
    ·
      refine T_ld zk_56_37 rfl rfl rfl (pc' := 38) rfl ?_
      refine T_if_le zk_56_38 (by omega) (pc' := 41) rfl (fun h15 => ?_) (fun h16 => ?_)
      ·
        refine T_ld zk_56_80 rfl rfl rfl (pc' := 81) rfl ?_
        exact T_iret zk_56_81 rfl (fun σ' h => ⟨_, rfl, (by omega), h.1, trivial⟩)
      ·
        refine T_ld zk_56_41 rfl rfl rfl (pc' := 42) rfl ?_
        refine T_calli (K := fun y17 σ' => (-2147483648 ≤ y17 ∧ y17 ≤ 2147483647) ∧ (fun σ' => IF MR σ σ' ∧ True) σ') (r := []) zk_56_42 rfl rfl rfl rfl rfl rfl (Or.inr ⟨_, _, _, _, rfl, vd_29, rfl⟩) (fun σ' h => (w_49   σ' h.1.1 ).le (Nat.le_of_ble_eq_true rfl) (fun v σ2 ⟨y, h1, h2, h3, h4⟩ => ⟨y, h1, h2, h.1.tr h3 MN_sub, trivial⟩)) (pc' := 45) rfl (fun y17 => ?_)
        refine G_ex (fun hy17 => ?_)
        refine T_calli (K := fun y18 σ' => (y18 = 0 ∨ y18 = 1) ∧ (fun σ' => IF MR σ σ' ∧ True) σ') (r := []) zk_56_45 rfl rfl rfl rfl rfl rfl (Or.inl (Or.inl rfl)) (fun σ' h => (w_57 y17 (by omega) σ' h.1.1 ).le (Nat.le_of_ble_eq_true rfl) (fun v σ2 ⟨y, h1, h2, h3, h4⟩ => ⟨y, h1, h2, h.1.tr h3 MN_sub, trivial⟩)) (pc' := 48) rfl (fun y18 => ?_)
        refine G_ex (fun hy18 => ?_)
        refine T_if_eq zk_56_48 (by omega) (pc' := 51) rfl (fun h19 => ?_) (fun h20 => ?_)
        ·
          refine T_ld zk_56_80 rfl rfl rfl (pc' := 81) rfl ?_
          exact T_iret zk_56_81 rfl (fun σ' h => ⟨_, rfl, (by omega), h.1, trivial⟩)
        ·
          refine T_ld zk_56_51 rfl rfl rfl (pc' := 52) rfl ?_
          refine T_op zk_56_52 rfl (X_bi (v := 10) (by decide)) (pc' := 54) rfl ?_
          refine G_unk zk_56_54 rfl (pc' := 55) rfl (fun y21 hy21 hy21' => ?_)
          refine T_ld zk_56_55 rfl rfl rfl (pc' := 56) rfl ?_
          refine T_calli (K := fun y22 σ' => (-2147483648 ≤ y22 ∧ y22 ≤ 2147483647) ∧ (fun σ' => IF MR σ σ' ∧ True) σ') (r := [iv y21]) zk_56_56 rfl rfl rfl rfl rfl rfl (Or.inr ⟨_, _, _, _, rfl, vd_29, rfl⟩) (fun σ' h => (w_49   σ' h.1.1 ).le (Nat.le_of_ble_eq_true rfl) (fun v σ2 ⟨y, h1, h2, h3, h4⟩ => ⟨y, h1, h2, h.1.tr h3 MN_sub, trivial⟩)) (pc' := 59) rfl (fun y22 => ?_)
          refine G_ex (fun hy22 => ?_)
          refine G_unk zk_56_59 rfl (pc' := 60) rfl (fun y23 hy23 hy23' => ?_)
          refine T_op zk_56_60 rfl (X_bi (v := 48) (by decide)) (pc' := 62) rfl ?_
          refine G_unk zk_56_62 rfl (pc' := 63) rfl (fun y24 hy24 hy24' => ?_)
          refine T_st (L' := [(0, av 29 0 0), (1, iv y24), (2, iv x10)]) zk_56_63 (nL := 3) rfl rfl rfl rfl rfl (pc' := 64) rfl ?_
          refine T_ld zk_56_64 rfl rfl rfl (pc' := 65) rfl ?_
          refine T_op (st' := [av 29 0 0, av 29 0 0]) zk_56_65 rfl rfl (pc' := 66) rfl ?_
          refine G_getf (lo := -2147483648) (hi := 2147483647) zk_56_66 rfl vd_29 (fun σ' h => h.1.1) (fun _ h => (by have q := h.1; omega)) (pc' := 69) rfl (fun y25 hy25 hy25' => ?_)
          refine T_op zk_56_69 rfl X_ic (pc' := 70) rfl ?_
          refine G_unk zk_56_70 rfl (pc' := 71) rfl (fun y26 hy26 hy26' => ?_)
          refine T_putf (J' := (fun σ' => IF MR σ σ' ∧ σ' 29 0 0 3 = y26 ∧ True)) zk_56_71 rfl rfl vd_29 (fun σ' h => ⟨h.1.up (by simp only [rgP] <;> omega) (by first | exact pMR rfl | (unfold MR; omega)), up_eq, trivial⟩) (pc' := 74) rfl ?_
          refine T_iinc (L' := [(0, av 29 0 0), (1, iv y24), (2, iv (x10 + 1))]) zk_56_74 (nL := 3) rfl rfl rfl rfl (pc' := 77) rfl ?_
          refine T_goto zk_56_77 ?_
          refine G_know (J' := (fun σ' => IF MR σ σ' ∧ True)) (fun σ' h => ⟨h.1, trivial⟩) ?_
          exact ih11 y24 (x10 + 1) (by omega) (by omega)
  ·
    refine T_op zk_56_10 rfl X_ic (pc' := 11) rfl ?_
    exact T_iret zk_56_11 rfl (fun σ' h => ⟨_, rfl, (by omega), h.1, trivial⟩)
/-- W$LawReader.fieldOf -/
theorem w_58 {xs : Nat × (Nat → Int32)} (p0 : Int) (hp0 : -2147483648 ≤ p0 ∧ p0 ≤ 2147483647) (σ : ZS) (hI : Inv σ)   : CT xs 1 58 [iv p0] σ (fun v σ' => ∃ y, v = some (iv y) ∧ (-1 ≤ y ∧ y ≤ 5) ∧ IF MN σ σ' ∧ (True)) := by
  refine G_ct (J := (fun σ' => IF MN σ σ' ∧ True)) (L := [(0, iv p0)]) (nL := 1) rfl rfl rfl ⟨IF.rf hI, trivial⟩ ?_
  refine T_ld zk_58_0 rfl rfl rfl (pc' := 1) rfl ?_
  by_cases h1 : p0 = 100
  · subst h1
    refine T_br (t := 106) zk_58_1 rfl rfl rfl (fun _ => rfl) rfl ?_
    refine T_op zk_58_106 rfl X_ic (pc' := 107) rfl ?_
    exact T_iret zk_58_107 rfl (fun σ' h => ⟨_, rfl, (by omega), h.1, trivial⟩)
  by_cases h2 : p0 = 101
  · subst h2
    refine T_br (t := 108) zk_58_1 rfl rfl rfl (fun _ => rfl) rfl ?_
    refine T_op zk_58_108 rfl X_ic (pc' := 109) rfl ?_
    exact T_iret zk_58_109 rfl (fun σ' h => ⟨_, rfl, (by omega), h.1, trivial⟩)
  by_cases h3 : p0 = 102
  · subst h3
    refine T_br (t := 96) zk_58_1 rfl rfl rfl (fun _ => rfl) rfl ?_
    refine T_op zk_58_96 rfl X_ic (pc' := 97) rfl ?_
    exact T_iret zk_58_97 rfl (fun σ' h => ⟨_, rfl, (by omega), h.1, trivial⟩)
  by_cases h4 : p0 = 103
  · subst h4
    refine T_br (t := 108) zk_58_1 rfl rfl rfl (fun _ => rfl) rfl ?_
    refine T_op zk_58_108 rfl X_ic (pc' := 109) rfl ?_
    exact T_iret zk_58_109 rfl (fun σ' h => ⟨_, rfl, (by omega), h.1, trivial⟩)
  by_cases h5 : p0 = 104
  · subst h5
    refine T_br (t := 102) zk_58_1 rfl rfl rfl (fun _ => rfl) rfl ?_
    refine T_op zk_58_102 rfl X_ic (pc' := 103) rfl ?_
    exact T_iret zk_58_103 rfl (fun σ' h => ⟨_, rfl, (by omega), h.1, trivial⟩)
  by_cases h6 : p0 = 105
  · subst h6
    refine T_br (t := 108) zk_58_1 rfl rfl rfl (fun _ => rfl) rfl ?_
    refine T_op zk_58_108 rfl X_ic (pc' := 109) rfl ?_
    exact T_iret zk_58_109 rfl (fun σ' h => ⟨_, rfl, (by omega), h.1, trivial⟩)
  by_cases h7 : p0 = 106
  · subst h7
    refine T_br (t := 108) zk_58_1 rfl rfl rfl (fun _ => rfl) rfl ?_
    refine T_op zk_58_108 rfl X_ic (pc' := 109) rfl ?_
    exact T_iret zk_58_109 rfl (fun σ' h => ⟨_, rfl, (by omega), h.1, trivial⟩)
  by_cases h8 : p0 = 107
  · subst h8
    refine T_br (t := 108) zk_58_1 rfl rfl rfl (fun _ => rfl) rfl ?_
    refine T_op zk_58_108 rfl X_ic (pc' := 109) rfl ?_
    exact T_iret zk_58_109 rfl (fun σ' h => ⟨_, rfl, (by omega), h.1, trivial⟩)
  by_cases h9 : p0 = 108
  · subst h9
    refine T_br (t := 100) zk_58_1 rfl rfl rfl (fun _ => rfl) rfl ?_
    refine T_op zk_58_100 rfl X_ic (pc' := 101) rfl ?_
    exact T_iret zk_58_101 rfl (fun σ' h => ⟨_, rfl, (by omega), h.1, trivial⟩)
  by_cases h10 : p0 = 109
  · subst h10
    refine T_br (t := 108) zk_58_1 rfl rfl rfl (fun _ => rfl) rfl ?_
    refine T_op zk_58_108 rfl X_ic (pc' := 109) rfl ?_
    exact T_iret zk_58_109 rfl (fun σ' h => ⟨_, rfl, (by omega), h.1, trivial⟩)
  by_cases h11 : p0 = 110
  · subst h11
    refine T_br (t := 108) zk_58_1 rfl rfl rfl (fun _ => rfl) rfl ?_
    refine T_op zk_58_108 rfl X_ic (pc' := 109) rfl ?_
    exact T_iret zk_58_109 rfl (fun σ' h => ⟨_, rfl, (by omega), h.1, trivial⟩)
  by_cases h12 : p0 = 111
  · subst h12
    refine T_br (t := 108) zk_58_1 rfl rfl rfl (fun _ => rfl) rfl ?_
    refine T_op zk_58_108 rfl X_ic (pc' := 109) rfl ?_
    exact T_iret zk_58_109 rfl (fun σ' h => ⟨_, rfl, (by omega), h.1, trivial⟩)
  by_cases h13 : p0 = 112
  · subst h13
    refine T_br (t := 108) zk_58_1 rfl rfl rfl (fun _ => rfl) rfl ?_
    refine T_op zk_58_108 rfl X_ic (pc' := 109) rfl ?_
    exact T_iret zk_58_109 rfl (fun σ' h => ⟨_, rfl, (by omega), h.1, trivial⟩)
  by_cases h14 : p0 = 113
  · subst h14
    refine T_br (t := 108) zk_58_1 rfl rfl rfl (fun _ => rfl) rfl ?_
    refine T_op zk_58_108 rfl X_ic (pc' := 109) rfl ?_
    exact T_iret zk_58_109 rfl (fun σ' h => ⟨_, rfl, (by omega), h.1, trivial⟩)
  by_cases h15 : p0 = 114
  · subst h15
    refine T_br (t := 108) zk_58_1 rfl rfl rfl (fun _ => rfl) rfl ?_
    refine T_op zk_58_108 rfl X_ic (pc' := 109) rfl ?_
    exact T_iret zk_58_109 rfl (fun σ' h => ⟨_, rfl, (by omega), h.1, trivial⟩)
  by_cases h16 : p0 = 115
  · subst h16
    refine T_br (t := 98) zk_58_1 rfl rfl rfl (fun _ => rfl) rfl ?_
    refine T_op zk_58_98 rfl X_ic (pc' := 99) rfl ?_
    exact T_iret zk_58_99 rfl (fun σ' h => ⟨_, rfl, (by omega), h.1, trivial⟩)
  by_cases h17 : p0 = 116
  · subst h17
    refine T_br (t := 108) zk_58_1 rfl rfl rfl (fun _ => rfl) rfl ?_
    refine T_op zk_58_108 rfl X_ic (pc' := 109) rfl ?_
    exact T_iret zk_58_109 rfl (fun σ' h => ⟨_, rfl, (by omega), h.1, trivial⟩)
  by_cases h18 : p0 = 117
  · subst h18
    refine T_br (t := 108) zk_58_1 rfl rfl rfl (fun _ => rfl) rfl ?_
    refine T_op zk_58_108 rfl X_ic (pc' := 109) rfl ?_
    exact T_iret zk_58_109 rfl (fun σ' h => ⟨_, rfl, (by omega), h.1, trivial⟩)
  by_cases h19 : p0 = 118
  · subst h19
    refine T_br (t := 108) zk_58_1 rfl rfl rfl (fun _ => rfl) rfl ?_
    refine T_op zk_58_108 rfl X_ic (pc' := 109) rfl ?_
    exact T_iret zk_58_109 rfl (fun σ' h => ⟨_, rfl, (by omega), h.1, trivial⟩)
  by_cases h20 : p0 = 119
  · subst h20
    refine T_br (t := 104) zk_58_1 rfl rfl rfl (fun _ => rfl) rfl ?_
    refine T_op zk_58_104 rfl X_ic (pc' := 105) rfl ?_
    exact T_iret zk_58_105 rfl (fun σ' h => ⟨_, rfl, (by omega), h.1, trivial⟩)
  refine T_tso (t := 108) zk_58_1 (by omega) (by omega) (by omega) ?_
  refine T_op zk_58_108 rfl X_ic (pc' := 109) rfl ?_
  exact T_iret zk_58_109 rfl (fun σ' h => ⟨_, rfl, (by omega), h.1, trivial⟩)
/-- W$LawReader.signOf -/
theorem w_59 {xs : Nat × (Nat → Int32)} (p0 : Int) (hp0 : -2147483648 ≤ p0 ∧ p0 ≤ 2147483647) (σ : ZS) (hI : Inv σ)   : CT xs 1 59 [iv p0] σ (fun v σ' => ∃ y, v = some (iv y) ∧ (-1 ≤ y ∧ y ≤ 2) ∧ IF MN σ σ' ∧ (True)) := by
  refine G_ct (J := (fun σ' => IF MN σ σ' ∧ True)) (L := [(0, iv p0)]) (nL := 1) rfl rfl rfl ⟨IF.rf hI, trivial⟩ ?_
  refine T_ld zk_59_0 rfl rfl rfl (pc' := 1) rfl ?_
  by_cases h1 : p0 = 60
  · subst h1
    refine T_br (t := 28) zk_59_1 rfl rfl rfl (fun _ => rfl) rfl ?_
    refine T_op zk_59_28 rfl X_ic (pc' := 29) rfl ?_
    exact T_iret zk_59_29 rfl (fun σ' h => ⟨_, rfl, (by omega), h.1, trivial⟩)
  by_cases h2 : p0 = 61
  · subst h2
    refine T_br (t := 32) zk_59_1 rfl rfl rfl (fun _ => rfl) rfl ?_
    refine T_op zk_59_32 rfl X_ic (pc' := 33) rfl ?_
    exact T_iret zk_59_33 rfl (fun σ' h => ⟨_, rfl, (by omega), h.1, trivial⟩)
  by_cases h3 : p0 = 62
  · subst h3
    refine T_br (t := 30) zk_59_1 rfl rfl rfl (fun _ => rfl) rfl ?_
    refine T_op zk_59_30 rfl X_ic (pc' := 31) rfl ?_
    exact T_iret zk_59_31 rfl (fun σ' h => ⟨_, rfl, (by omega), h.1, trivial⟩)
  refine T_tso (t := 34) zk_59_1 (by omega) (by omega) (by omega) ?_
  refine T_op zk_59_34 rfl X_ic (pc' := 35) rfl ?_
  exact T_iret zk_59_35 rfl (fun σ' h => ⟨_, rfl, (by omega), h.1, trivial⟩)
/-- W$LawReader.readTest -/
theorem w_55 {xs : Nat × (Nat → Int32)}   (σ : ZS) (hI : Inv σ)   : CT xs 3 55 [av 29 0 0] σ (fun v σ' => ∃ y, v = some (iv y) ∧ (y = 0 ∨ y = 1) ∧ IF MR σ σ' ∧ (True)) := by
  refine G_ct (J := (fun σ' => IF MR σ σ' ∧ True)) (L := [(0, av 29 0 0)]) (nL := 4) rfl rfl rfl ⟨IF.rf hI, trivial⟩ ?_
  refine T_ld zk_55_0 rfl rfl rfl (pc' := 1) rfl ?_
  refine T_calli (K := fun y1 σ' => (-2147483648 ≤ y1 ∧ y1 ≤ 2147483647) ∧ (fun σ' => IF MR σ σ' ∧ True) σ') (r := []) zk_55_1 rfl rfl rfl rfl rfl rfl (Or.inr ⟨_, _, _, _, rfl, vd_29, rfl⟩) (fun σ' h => (w_49   σ' h.1.1 ).le (Nat.le_of_ble_eq_true rfl) (fun v σ2 ⟨y, h1, h2, h3, h4⟩ => ⟨y, h1, h2, h.1.tr h3 MN_sub, trivial⟩)) (pc' := 4) rfl (fun y1 => ?_)
  refine G_ex (fun hy1 => ?_)
  refine T_calli (K := fun y2 σ' => (-1 ≤ y2 ∧ y2 ≤ 5) ∧ (fun σ' => IF MR σ σ' ∧ True) σ') (r := []) zk_55_4 rfl rfl rfl rfl rfl rfl (Or.inl (Or.inl rfl)) (fun σ' h => (w_58 y1 (by omega) σ' h.1.1 ).le (Nat.le_of_ble_eq_true rfl) (fun v σ2 ⟨y, h1, h2, h3, h4⟩ => ⟨y, h1, h2, h.1.tr h3 MN_sub, trivial⟩)) (pc' := 7) rfl (fun y2 => ?_)
  refine G_ex (fun hy2 => ?_)
  refine T_st (L' := [(0, av 29 0 0), (1, iv y2)]) zk_55_7 (nL := 4) rfl rfl rfl rfl rfl (pc' := 8) rfl ?_
  refine T_ld zk_55_8 rfl rfl rfl (pc' := 9) rfl ?_
  refine T_op zk_55_9 rfl X_ic (pc' := 10) rfl ?_
  refine T_icmp_ne zk_55_10 (by omega) (by omega) (pc' := 13) rfl (fun h3 => ?_) (fun h4 => ?_)
  ·
    refine T_ld zk_55_15 rfl rfl rfl (pc' := 16) rfl ?_
    refine T_op (st' := [av 29 0 0, av 29 0 0]) zk_55_16 rfl rfl (pc' := 17) rfl ?_
    refine G_getf (lo := -2147483648) (hi := 2147483647) zk_55_17 rfl vd_29 (fun σ' h => h.1.1) (fun _ h => (by have q := h.1; omega)) (pc' := 20) rfl (fun y5 hy5 hy5' => ?_)
    refine T_op zk_55_20 rfl X_ic (pc' := 21) rfl ?_
    refine G_unk zk_55_21 rfl (pc' := 22) rfl (fun y6 hy6 hy6' => ?_)
    refine T_putf (J' := (fun σ' => IF MR σ σ' ∧ σ' 29 0 0 3 = y6 ∧ True)) zk_55_22 rfl rfl vd_29 (fun σ' h => ⟨h.1.up (by simp only [rgP] <;> omega) (by first | exact pMR rfl | (unfold MR; omega)), up_eq, trivial⟩) (pc' := 25) rfl ?_
    refine T_ld zk_55_25 rfl rfl rfl (pc' := 26) rfl ?_
    refine T_calli (K := fun y7 σ' => (-2147483648 ≤ y7 ∧ y7 ≤ 2147483647) ∧ (fun σ' => IF MR σ σ' ∧ σ' 29 0 0 3 = y6 ∧ True) σ') (r := []) zk_55_26 rfl rfl rfl rfl rfl rfl (Or.inr ⟨_, _, _, _, rfl, vd_29, rfl⟩) (fun σ' h => (w_49   σ' h.1.1 ).le (Nat.le_of_ble_eq_true rfl) (fun v σ2 ⟨y, h1, h2, h3, h4⟩ => ⟨y, h1, h2, h.1.tr h3 MN_sub, (h3.2 _ _ _ _ (fun q => q)).trans (h.2.1), trivial⟩)) (pc' := 29) rfl (fun y7 => ?_)
    refine G_ex (fun hy7 => ?_)
    refine T_calli (K := fun y8 σ' => (-1 ≤ y8 ∧ y8 ≤ 2) ∧ (fun σ' => IF MR σ σ' ∧ σ' 29 0 0 3 = y6 ∧ True) σ') (r := []) zk_55_29 rfl rfl rfl rfl rfl rfl (Or.inl (Or.inl rfl)) (fun σ' h => (w_59 y7 (by omega) σ' h.1.1 ).le (Nat.le_of_ble_eq_true rfl) (fun v σ2 ⟨y, h1, h2, h3, h4⟩ => ⟨y, h1, h2, h.1.tr h3 MN_sub, (h3.2 _ _ _ _ (fun q => q)).trans (h.2.1), trivial⟩)) (pc' := 32) rfl (fun y8 => ?_)
    refine G_ex (fun hy8 => ?_)
    refine T_st (L' := [(0, av 29 0 0), (1, iv y2), (2, iv y8)]) zk_55_32 (nL := 4) rfl rfl rfl rfl rfl (pc' := 33) rfl ?_
    refine T_ld zk_55_33 rfl rfl rfl (pc' := 34) rfl ?_
    refine T_op zk_55_34 rfl X_ic (pc' := 35) rfl ?_
    refine T_icmp_ne zk_55_35 (by omega) (by omega) (pc' := 38) rfl (fun h9 => ?_) (fun h10 => ?_)
    ·
      refine T_ld zk_55_40 rfl rfl rfl (pc' := 41) rfl ?_
      refine T_op (st' := [av 29 0 0, av 29 0 0]) zk_55_41 rfl rfl (pc' := 42) rfl ?_
      refine G_getX (w := y6) zk_55_42 rfl vd_29 (fun σ' h => h.2.1) (pc' := 45) rfl ?_
      refine T_op zk_55_45 rfl X_ic (pc' := 46) rfl ?_
      refine G_unk zk_55_46 rfl (pc' := 47) rfl (fun y11 hy11 hy11' => ?_)
      refine T_putf (J' := (fun σ' => IF MR σ σ' ∧ σ' 29 0 0 3 = y11 ∧ True)) zk_55_47 rfl rfl vd_29 (fun σ' h => ⟨h.1.up (by simp only [rgP] <;> omega) (by first | exact pMR rfl | (unfold MR; omega)), up_eq, trivial⟩) (pc' := 50) rfl ?_
      refine T_ld zk_55_50 rfl rfl rfl (pc' := 51) rfl ?_
      refine T_calli (K := fun y12 σ' => (-2147483648 ≤ y12 ∧ y12 ≤ 2147483647) ∧ (fun σ' => IF MR σ σ' ∧ True) σ') (r := []) zk_55_51 rfl rfl rfl rfl rfl rfl (Or.inr ⟨_, _, _, _, rfl, vd_29, rfl⟩) (fun σ' h => (w_56   σ' h.1.1 ).le (Nat.le_of_ble_eq_true rfl) (fun v σ2 ⟨y, h1, h2, h3, h4⟩ => ⟨y, h1, h2, h.1.tr h3 (fun _ _ _ _ h => h), trivial⟩)) (pc' := 54) rfl (fun y12 => ?_)
      refine G_ex (fun hy12 => ?_)
      refine T_st (L' := [(0, av 29 0 0), (1, iv y2), (2, iv y8), (3, iv y12)]) zk_55_54 (nL := 4) rfl rfl rfl rfl rfl (pc' := 55) rfl ?_
      refine T_ld zk_55_55 rfl rfl rfl (pc' := 56) rfl ?_
      refine T_op zk_55_56 rfl X_ic (pc' := 57) rfl ?_
      refine T_icmp_ne zk_55_57 (by omega) (by omega) (pc' := 60) rfl (fun h13 => ?_) (fun h14 => ?_)
      ·
        refine T_ld zk_55_62 rfl rfl rfl (pc' := 63) rfl ?_
        refine T_getR (t' := 30) (i' := 0) (k' := 0) zk_55_63 rfl rfl rfl vd_29 (pc' := 66) rfl ?_
        refine T_ld zk_55_66 rfl rfl rfl (pc' := 67) rfl ?_
        refine T_ld zk_55_67 rfl rfl rfl (pc' := 68) rfl ?_
        refine T_ld zk_55_68 rfl rfl rfl (pc' := 69) rfl ?_
        refine T_callv (J' := (fun σ' => IF MR σ σ' ∧ True)) (r := []) zk_55_69 rfl rfl rfl rfl rfl rfl (Or.inr ⟨_, _, _, _, rfl, vd_30, rfl⟩) (fun σ' h => (w_43 y2 y8 y12 (by omega) (by omega) (by omega) σ' h.1.1 ).le (Nat.le_of_ble_eq_true rfl) (fun v σ2 ⟨h1, h3, h4⟩ => ⟨h1, h.1.tr h3 (fun _ _ _ _ h => h), trivial⟩)) (pc' := 72) rfl ?_
        refine T_op zk_55_72 rfl X_ic (pc' := 73) rfl ?_
        exact T_zret zk_55_73 rfl (by omega) (fun σ' h => ⟨_, rfl, (by omega), h.1, trivial⟩)
      ·
        refine T_op zk_55_60 rfl X_ic (pc' := 61) rfl ?_
        exact T_zret zk_55_61 rfl (by omega) (fun σ' h => ⟨_, rfl, (by omega), h.1, trivial⟩)
    ·
      refine T_op zk_55_38 rfl X_ic (pc' := 39) rfl ?_
      exact T_zret zk_55_39 rfl (by omega) (fun σ' h => ⟨_, rfl, (by omega), h.1, trivial⟩)
  ·
    refine T_op zk_55_13 rfl X_ic (pc' := 14) rfl ?_
    exact T_zret zk_55_14 rfl (by omega) (fun σ' h => ⟨_, rfl, (by omega), h.1, trivial⟩)
/-- W$LawReader.readMouth -/
theorem w_51 {xs : Nat × (Nat → Int32)}   (σ : ZS) (hI : Inv σ)   : CT xs 3 51 [av 29 0 0] σ (fun v σ' => ∃ y, v = some (iv y) ∧ (y = 0 ∨ y = 1) ∧ IF MR σ σ' ∧ (True)) := by
  refine G_ct (J := (fun σ' => IF MR σ σ' ∧ True)) (L := [(0, av 29 0 0)]) (nL := 1) rfl rfl rfl ⟨IF.rf hI, trivial⟩ ?_
  refine T_ld zk_51_0 rfl rfl rfl (pc' := 1) rfl ?_
  refine T_op zk_51_1 rfl (X_bi (v := 103) (by decide)) (pc' := 3) rfl ?_
  refine T_calli (K := fun y1 σ' => (y1 = 0 ∨ y1 = 1) ∧ (fun σ' => IF MR σ σ' ∧ True) σ') (r := []) zk_51_3 rfl rfl rfl rfl rfl rfl (Or.inr ⟨_, _, _, _, rfl, vd_29, rfl⟩) (fun σ' h => (w_50 103 (by omega) σ' h.1.1 ).le (Nat.le_of_ble_eq_true rfl) (fun v σ2 ⟨y, h1, h2, h3, h4⟩ => ⟨y, h1, h2, h.1.tr h3 (fun _ _ _ _ h => h), trivial⟩)) (pc' := 6) rfl (fun y1 => ?_)
  refine G_ex (fun hy1 => ?_)
  refine T_if_ne zk_51_6 (by omega) (pc' := 9) rfl (fun h2 => ?_) (fun h3 => ?_)
  ·
    refine T_ld zk_51_11 rfl rfl rfl (pc' := 12) rfl ?_
    refine T_calli (K := fun y4 σ' => (-2147483648 ≤ y4 ∧ y4 ≤ 2147483647) ∧ (fun σ' => IF MR σ σ' ∧ True) σ') (r := []) zk_51_12 rfl rfl rfl rfl rfl rfl (Or.inr ⟨_, _, _, _, rfl, vd_29, rfl⟩) (fun σ' h => (w_49   σ' h.1.1 ).le (Nat.le_of_ble_eq_true rfl) (fun v σ2 ⟨y, h1, h2, h3, h4⟩ => ⟨y, h1, h2, h.1.tr h3 MN_sub, trivial⟩)) (pc' := 15) rfl (fun y4 => ?_)
    refine G_ex (fun hy4 => ?_)
    refine T_op zk_51_15 rfl (X_bi (v := 48) (by decide)) (pc' := 17) rfl ?_
    refine T_icmp_lt zk_51_17 (by omega) (by omega) (pc' := 20) rfl (fun h5 => ?_) (fun h6 => ?_)
    ·
      refine T_op zk_51_29 rfl X_ic (pc' := 30) rfl ?_
      exact T_zret zk_51_30 rfl (by omega) (fun σ' h => ⟨_, rfl, (by omega), h.1, trivial⟩)
    ·
      refine T_ld zk_51_20 rfl rfl rfl (pc' := 21) rfl ?_
      refine T_calli (K := fun y7 σ' => (-2147483648 ≤ y7 ∧ y7 ≤ 2147483647) ∧ (fun σ' => IF MR σ σ' ∧ True) σ') (r := []) zk_51_21 rfl rfl rfl rfl rfl rfl (Or.inr ⟨_, _, _, _, rfl, vd_29, rfl⟩) (fun σ' h => (w_49   σ' h.1.1 ).le (Nat.le_of_ble_eq_true rfl) (fun v σ2 ⟨y, h1, h2, h3, h4⟩ => ⟨y, h1, h2, h.1.tr h3 MN_sub, trivial⟩)) (pc' := 24) rfl (fun y7 => ?_)
      refine G_ex (fun hy7 => ?_)
      refine T_op zk_51_24 rfl (X_bi (v := 50) (by decide)) (pc' := 26) rfl ?_
      refine T_icmp_le zk_51_26 (by omega) (by omega) (pc' := 29) rfl (fun h8 => ?_) (fun h9 => ?_)
      ·
        refine T_ld zk_51_31 rfl rfl rfl (pc' := 32) rfl ?_
        refine T_getR (t' := 30) (i' := 0) (k' := 0) zk_51_32 rfl rfl rfl vd_29 (pc' := 35) rfl ?_
        refine T_ld zk_51_35 rfl rfl rfl (pc' := 36) rfl ?_
        refine T_calli (K := fun y10 σ' => (-2147483648 ≤ y10 ∧ y10 ≤ 2147483647) ∧ (fun σ' => IF MR σ σ' ∧ True) σ') (r := [av 30 0 0]) zk_51_36 rfl rfl rfl rfl rfl rfl (Or.inr ⟨_, _, _, _, rfl, vd_29, rfl⟩) (fun σ' h => (w_49   σ' h.1.1 ).le (Nat.le_of_ble_eq_true rfl) (fun v σ2 ⟨y, h1, h2, h3, h4⟩ => ⟨y, h1, h2, h.1.tr h3 MN_sub, trivial⟩)) (pc' := 39) rfl (fun y10 => ?_)
        refine G_ex (fun hy10 => ?_)
        refine T_op zk_51_39 rfl (X_bi (v := 48) (by decide)) (pc' := 41) rfl ?_
        refine G_unk zk_51_41 rfl (pc' := 42) rfl (fun y11 hy11 hy11' => ?_)
        refine T_putf (J' := (fun σ' => IF MR σ σ' ∧ True)) zk_51_42 rfl rfl vd_30 (fun σ' h => ⟨h.1.up (by simp only [rgP] <;> omega) (by first | exact pMR rfl | (unfold MR; omega)), trivial⟩) (pc' := 45) rfl ?_
        refine T_ld zk_51_45 rfl rfl rfl (pc' := 46) rfl ?_
        refine T_op (st' := [av 29 0 0, av 29 0 0]) zk_51_46 rfl rfl (pc' := 47) rfl ?_
        refine G_getf (lo := -2147483648) (hi := 2147483647) zk_51_47 rfl vd_29 (fun σ' h => h.1.1) (fun _ h => (by have q := h.1; omega)) (pc' := 50) rfl (fun y12 hy12 hy12' => ?_)
        refine T_op zk_51_50 rfl X_ic (pc' := 51) rfl ?_
        refine G_unk zk_51_51 rfl (pc' := 52) rfl (fun y13 hy13 hy13' => ?_)
        refine T_putf (J' := (fun σ' => IF MR σ σ' ∧ σ' 29 0 0 3 = y13 ∧ True)) zk_51_52 rfl rfl vd_29 (fun σ' h => ⟨h.1.up (by simp only [rgP] <;> omega) (by first | exact pMR rfl | (unfold MR; omega)), up_eq, trivial⟩) (pc' := 55) rfl ?_
        refine T_ld zk_51_55 rfl rfl rfl (pc' := 56) rfl ?_
        refine T_op zk_51_56 rfl (X_bi (v := 58) (by decide)) (pc' := 58) rfl ?_
        refine T_calli (K := fun y14 σ' => (y14 = 0 ∨ y14 = 1) ∧ (fun σ' => IF MR σ σ' ∧ True) σ') (r := []) zk_51_58 rfl rfl rfl rfl rfl rfl (Or.inr ⟨_, _, _, _, rfl, vd_29, rfl⟩) (fun σ' h => (w_50 58 (by omega) σ' h.1.1 ).le (Nat.le_of_ble_eq_true rfl) (fun v σ2 ⟨y, h1, h2, h3, h4⟩ => ⟨y, h1, h2, h.1.tr h3 (fun _ _ _ _ h => h), trivial⟩)) (pc' := 61) rfl (fun y14 => ?_)
        refine G_ex (fun hy14 => ?_)
        exact T_zret zk_51_61 rfl (by omega) (fun σ' h => ⟨_, rfl, (by omega), h.1, trivial⟩)
      ·
        refine T_op zk_51_29 rfl X_ic (pc' := 30) rfl ?_
        exact T_zret zk_51_30 rfl (by omega) (fun σ' h => ⟨_, rfl, (by omega), h.1, trivial⟩)
  ·
    refine T_op zk_51_9 rfl X_ic (pc' := 10) rfl ?_
    exact T_zret zk_51_10 rfl (by omega) (fun σ' h => ⟨_, rfl, (by omega), h.1, trivial⟩)
