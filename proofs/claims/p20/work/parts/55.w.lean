theorem zk_75_0 : zc 75 0 = some (.iload_n 1, 0, 0, 0, 0) := rfl
theorem zk_75_1 : zc 75 1 = some (.invokestatic 44, 115, 1, 1, 87) := rfl
theorem zk_75_4 : zc 75 4 = some (.ifCond .ne 9, 13, 0, 0, 0) := rfl
theorem zk_75_7 : zc 75 7 = some (.aload_n 0, 0, 0, 0, 0) := rfl
theorem zk_75_8 : zc 75 8 = some (.iconst (-1), 0, 0, 0, 0) := rfl
theorem zk_75_9 : zc 75 9 = some (.invokevirtual 48, 113, 0, 2, 88) := rfl
theorem zk_75_12 : zc 75 12 = some (.ireturn, 0, 0, 0, 0) := rfl
theorem zk_75_13 : zc 75 13 = some (.iload_n 2, 0, 0, 0, 0) := rfl
theorem zk_75_14 : zc 75 14 = some (.iconst 0, 0, 0, 0, 0) := rfl
theorem zk_75_15 : zc 75 15 = some (.bipush 60, 0, 0, 0, 0) := rfl
theorem zk_75_17 : zc 75 17 = some (.invokestatic 52, 114, 1, 3, 89) := rfl
theorem zk_75_20 : zc 75 20 = some (.ifCond .ne 10, 30, 0, 0, 0) := rfl
theorem zk_75_23 : zc 75 23 = some (.aload_n 0, 0, 0, 0, 0) := rfl
theorem zk_75_24 : zc 75 24 = some (.bipush (-6), 0, 0, 0, 0) := rfl
theorem zk_75_26 : zc 75 26 = some (.invokevirtual 48, 113, 0, 2, 88) := rfl
theorem zk_75_29 : zc 75 29 = some (.ireturn, 0, 0, 0, 0) := rfl
theorem zk_75_30 : zc 75 30 = some (.aload_n 0, 0, 0, 0, 0) := rfl
theorem zk_75_31 : zc 75 31 = some (.getfield 10, 10, 0, 0, 91) := rfl
theorem zk_75_34 : zc 75 34 = some (.getfield 56, 2, 0, 0, 98) := rfl
theorem zk_75_37 : zc 75 37 = some (.getfield 60, 4, 0, 0, 99) := rfl
theorem zk_75_40 : zc 75 40 = some (.iload_n 1, 0, 0, 0, 0) := rfl
theorem zk_75_41 : zc 75 41 = some (.iaload, 0, 0, 0, 0) := rfl
theorem zk_75_42 : zc 75 42 = some (.istore_n 3, 0, 0, 0, 0) := rfl
theorem zk_75_43 : zc 75 43 = some (.aload_n 0, 0, 0, 0, 0) := rfl
theorem zk_75_44 : zc 75 44 = some (.getfield 10, 10, 0, 0, 91) := rfl
theorem zk_75_47 : zc 75 47 = some (.getfield 56, 2, 0, 0, 98) := rfl
theorem zk_75_50 : zc 75 50 = some (.getfield 60, 4, 0, 0, 99) := rfl
theorem zk_75_53 : zc 75 53 = some (.iload_n 1, 0, 0, 0, 0) := rfl
theorem zk_75_54 : zc 75 54 = some (.iload_n 2, 0, 0, 0, 0) := rfl
theorem zk_75_55 : zc 75 55 = some (.iastore, 0, 0, 0, 0) := rfl
theorem zk_75_56 : zc 75 56 = some (.iload_n 3, 0, 0, 0, 0) := rfl
theorem zk_75_57 : zc 75 57 = some (.ireturn, 0, 0, 0, 0) := rfl
theorem zk_76_0 : zc 76 0 = some (.iload_n 1, 0, 0, 0, 0) := rfl
theorem zk_76_1 : zc 76 1 = some (.invokestatic 44, 115, 1, 1, 87) := rfl
theorem zk_76_4 : zc 76 4 = some (.ifCond .ne 9, 13, 0, 0, 0) := rfl
theorem zk_76_7 : zc 76 7 = some (.aload_n 0, 0, 0, 0, 0) := rfl
theorem zk_76_8 : zc 76 8 = some (.iconst (-1), 0, 0, 0, 0) := rfl
theorem zk_76_9 : zc 76 9 = some (.invokevirtual 48, 113, 0, 2, 88) := rfl
theorem zk_76_12 : zc 76 12 = some (.ireturn, 0, 0, 0, 0) := rfl
theorem zk_76_13 : zc 76 13 = some (.iload_n 2, 0, 0, 0, 0) := rfl
theorem zk_76_14 : zc 76 14 = some (.sipush (-300), 0, 0, 0, 0) := rfl
theorem zk_76_17 : zc 76 17 = some (.sipush 300, 0, 0, 0, 0) := rfl
theorem zk_76_20 : zc 76 20 = some (.invokestatic 52, 114, 1, 3, 89) := rfl
theorem zk_76_23 : zc 76 23 = some (.ifCond .ne 10, 33, 0, 0, 0) := rfl
theorem zk_76_26 : zc 76 26 = some (.aload_n 0, 0, 0, 0, 0) := rfl
theorem zk_76_27 : zc 76 27 = some (.bipush (-6), 0, 0, 0, 0) := rfl
theorem zk_76_29 : zc 76 29 = some (.invokevirtual 48, 113, 0, 2, 88) := rfl
theorem zk_76_32 : zc 76 32 = some (.ireturn, 0, 0, 0, 0) := rfl
theorem zk_76_33 : zc 76 33 = some (.aload_n 0, 0, 0, 0, 0) := rfl
theorem zk_76_34 : zc 76 34 = some (.getfield 10, 10, 0, 0, 91) := rfl
theorem zk_76_37 : zc 76 37 = some (.getfield 56, 2, 0, 0, 98) := rfl
theorem zk_76_40 : zc 76 40 = some (.getfield 65, 4, 1, 0, 100) := rfl
theorem zk_76_43 : zc 76 43 = some (.iload_n 1, 0, 0, 0, 0) := rfl
theorem zk_76_44 : zc 76 44 = some (.iaload, 0, 0, 0, 0) := rfl
theorem zk_76_45 : zc 76 45 = some (.istore_n 3, 0, 0, 0, 0) := rfl
theorem zk_76_46 : zc 76 46 = some (.aload_n 0, 0, 0, 0, 0) := rfl
theorem zk_76_47 : zc 76 47 = some (.getfield 10, 10, 0, 0, 91) := rfl
theorem zk_76_50 : zc 76 50 = some (.getfield 56, 2, 0, 0, 98) := rfl
theorem zk_76_53 : zc 76 53 = some (.getfield 65, 4, 1, 0, 100) := rfl
theorem zk_76_56 : zc 76 56 = some (.iload_n 1, 0, 0, 0, 0) := rfl
theorem zk_76_57 : zc 76 57 = some (.iload_n 2, 0, 0, 0, 0) := rfl
theorem zk_76_58 : zc 76 58 = some (.iastore, 0, 0, 0, 0) := rfl
theorem zk_76_59 : zc 76 59 = some (.aload_n 0, 0, 0, 0, 0) := rfl
theorem zk_76_60 : zc 76 60 = some (.getfield 10, 10, 0, 0, 91) := rfl
theorem zk_76_63 : zc 76 63 = some (.dup, 0, 0, 0, 0) := rfl
theorem zk_76_64 : zc 76 64 = some (.getfield 68, 2, 16, 0, 101) := rfl
theorem zk_76_67 : zc 76 67 = some (.iload_n 2, 0, 0, 0, 0) := rfl
theorem zk_76_68 : zc 76 68 = some (.iload_n 3, 0, 0, 0, 0) := rfl
theorem zk_76_69 : zc 76 69 = some (.isub, 0, 0, 0, 0) := rfl
theorem zk_76_70 : zc 76 70 = some (.iadd, 0, 0, 0, 0) := rfl
theorem zk_76_71 : zc 76 71 = some (.putfield 68, 2, 16, 0, 101) := rfl
theorem zk_76_74 : zc 76 74 = some (.iload_n 3, 0, 0, 0, 0) := rfl
theorem zk_76_75 : zc 76 75 = some (.ireturn, 0, 0, 0, 0) := rfl
theorem zk_77_0 : zc 77 0 = some (.iload_n 1, 0, 0, 0, 0) := rfl
theorem zk_77_1 : zc 77 1 = some (.iload_n 2, 0, 0, 0, 0) := rfl
theorem zk_77_2 : zc 77 2 = some (.invokestatic 71, 30, 1, 2, 90) := rfl
theorem zk_77_5 : zc 77 5 = some (.istore 4, 0, 0, 0, 0) := rfl
theorem zk_77_7 : zc 77 7 = some (.iload 4, 0, 0, 0, 0) := rfl
theorem zk_77_9 : zc 77 9 = some (.iconst (-1), 0, 0, 0, 0) := rfl
theorem zk_77_10 : zc 77 10 = some (.if_icmp .ne 9, 19, 0, 0, 0) := rfl
theorem zk_77_13 : zc 77 13 = some (.aload_n 0, 0, 0, 0, 0) := rfl
theorem zk_77_14 : zc 77 14 = some (.iconst (-1), 0, 0, 0, 0) := rfl
theorem zk_77_15 : zc 77 15 = some (.invokevirtual 48, 113, 0, 2, 88) := rfl
theorem zk_77_18 : zc 77 18 = some (.ireturn, 0, 0, 0, 0) := rfl
theorem zk_77_19 : zc 77 19 = some (.aload_n 0, 0, 0, 0, 0) := rfl
theorem zk_77_20 : zc 77 20 = some (.getfield 10, 10, 0, 0, 91) := rfl
theorem zk_77_23 : zc 77 23 = some (.getfield 56, 2, 0, 0, 98) := rfl
theorem zk_77_26 : zc 77 26 = some (.getfield 75, 4, 5, 0, 102) := rfl
theorem zk_77_29 : zc 77 29 = some (.iload 4, 0, 0, 0, 0) := rfl
theorem zk_77_31 : zc 77 31 = some (.iload_n 3, 0, 0, 0, 0) := rfl
theorem zk_77_32 : zc 77 32 = some (.invokestatic 79, 121, 1, 3, 91) := rfl
theorem zk_77_35 : zc 77 35 = some (.ireturn, 0, 0, 0, 0) := rfl
theorem zk_78_0 : zc 78 0 = some (.iload_n 1, 0, 0, 0, 0) := rfl
theorem zk_78_1 : zc 78 1 = some (.iload_n 2, 0, 0, 0, 0) := rfl
theorem zk_78_2 : zc 78 2 = some (.invokestatic 71, 30, 1, 2, 90) := rfl
theorem zk_78_5 : zc 78 5 = some (.istore 4, 0, 0, 0, 0) := rfl
theorem zk_78_7 : zc 78 7 = some (.iload 4, 0, 0, 0, 0) := rfl
theorem zk_78_9 : zc 78 9 = some (.iconst (-1), 0, 0, 0, 0) := rfl
theorem zk_78_10 : zc 78 10 = some (.if_icmp .ne 9, 19, 0, 0, 0) := rfl
theorem zk_78_13 : zc 78 13 = some (.aload_n 0, 0, 0, 0, 0) := rfl
theorem zk_78_14 : zc 78 14 = some (.iconst (-1), 0, 0, 0, 0) := rfl
theorem zk_78_15 : zc 78 15 = some (.invokevirtual 48, 113, 0, 2, 88) := rfl
theorem zk_78_18 : zc 78 18 = some (.ireturn, 0, 0, 0, 0) := rfl
theorem zk_78_19 : zc 78 19 = some (.aload_n 0, 0, 0, 0, 0) := rfl
theorem zk_78_20 : zc 78 20 = some (.getfield 10, 10, 0, 0, 91) := rfl
theorem zk_78_23 : zc 78 23 = some (.getfield 56, 2, 0, 0, 98) := rfl
theorem zk_78_26 : zc 78 26 = some (.getfield 83, 4, 6, 0, 103) := rfl
theorem zk_78_29 : zc 78 29 = some (.iload 4, 0, 0, 0, 0) := rfl
theorem zk_78_31 : zc 78 31 = some (.iload_n 3, 0, 0, 0, 0) := rfl
theorem zk_78_32 : zc 78 32 = some (.invokestatic 79, 121, 1, 3, 91) := rfl
theorem zk_78_35 : zc 78 35 = some (.ireturn, 0, 0, 0, 0) := rfl
theorem zk_79_0 : zc 79 0 = some (.iload_n 1, 0, 0, 0, 0) := rfl
theorem zk_79_1 : zc 79 1 = some (.iload_n 2, 0, 0, 0, 0) := rfl
theorem zk_79_2 : zc 79 2 = some (.invokestatic 71, 30, 1, 2, 90) := rfl
theorem zk_79_5 : zc 79 5 = some (.istore 4, 0, 0, 0, 0) := rfl
theorem zk_79_7 : zc 79 7 = some (.iload 4, 0, 0, 0, 0) := rfl
theorem zk_79_9 : zc 79 9 = some (.iconst (-1), 0, 0, 0, 0) := rfl
theorem zk_79_10 : zc 79 10 = some (.if_icmp .ne 9, 19, 0, 0, 0) := rfl
theorem zk_79_13 : zc 79 13 = some (.aload_n 0, 0, 0, 0, 0) := rfl
theorem zk_79_14 : zc 79 14 = some (.iconst (-1), 0, 0, 0, 0) := rfl
theorem zk_79_15 : zc 79 15 = some (.invokevirtual 48, 113, 0, 2, 88) := rfl
theorem zk_79_18 : zc 79 18 = some (.ireturn, 0, 0, 0, 0) := rfl
theorem zk_79_19 : zc 79 19 = some (.iload_n 3, 0, 0, 0, 0) := rfl
theorem zk_79_20 : zc 79 20 = some (.iconst (-1), 0, 0, 0, 0) := rfl
theorem zk_79_21 : zc 79 21 = some (.bipush 99, 0, 0, 0, 0) := rfl
theorem zk_79_23 : zc 79 23 = some (.invokestatic 52, 114, 1, 3, 89) := rfl
theorem zk_79_26 : zc 79 26 = some (.ifCond .ne 10, 36, 0, 0, 0) := rfl
theorem zk_79_29 : zc 79 29 = some (.aload_n 0, 0, 0, 0, 0) := rfl
theorem zk_79_30 : zc 79 30 = some (.bipush (-6), 0, 0, 0, 0) := rfl
theorem zk_79_32 : zc 79 32 = some (.invokevirtual 48, 113, 0, 2, 88) := rfl
theorem zk_79_35 : zc 79 35 = some (.ireturn, 0, 0, 0, 0) := rfl
theorem zk_79_36 : zc 79 36 = some (.aload_n 0, 0, 0, 0, 0) := rfl
theorem zk_79_37 : zc 79 37 = some (.getfield 10, 10, 0, 0, 91) := rfl
theorem zk_79_40 : zc 79 40 = some (.getfield 56, 2, 0, 0, 98) := rfl
theorem zk_79_43 : zc 79 43 = some (.getfield 86, 4, 4, 0, 104) := rfl
theorem zk_79_46 : zc 79 46 = some (.iload 4, 0, 0, 0, 0) := rfl
theorem zk_79_48 : zc 79 48 = some (.iaload, 0, 0, 0, 0) := rfl
theorem zk_79_49 : zc 79 49 = some (.istore 5, 0, 0, 0, 0) := rfl
theorem zk_79_51 : zc 79 51 = some (.aload_n 0, 0, 0, 0, 0) := rfl
theorem zk_79_52 : zc 79 52 = some (.getfield 10, 10, 0, 0, 91) := rfl
theorem zk_79_55 : zc 79 55 = some (.getfield 56, 2, 0, 0, 98) := rfl
theorem zk_79_58 : zc 79 58 = some (.getfield 86, 4, 4, 0, 104) := rfl
theorem zk_79_61 : zc 79 61 = some (.iload 4, 0, 0, 0, 0) := rfl
theorem zk_79_63 : zc 79 63 = some (.iload_n 3, 0, 0, 0, 0) := rfl
theorem zk_79_64 : zc 79 64 = some (.iastore, 0, 0, 0, 0) := rfl
theorem zk_79_65 : zc 79 65 = some (.iload 5, 0, 0, 0, 0) := rfl
theorem zk_79_67 : zc 79 67 = some (.ireturn, 0, 0, 0, 0) := rfl
theorem zk_80_0 : zc 80 0 = some (.iload_n 1, 0, 0, 0, 0) := rfl
theorem zk_80_1 : zc 80 1 = some (.invokestatic 44, 115, 1, 1, 87) := rfl
theorem zk_80_4 : zc 80 4 = some (.ifCond .ne 9, 13, 0, 0, 0) := rfl
theorem zk_80_7 : zc 80 7 = some (.aload_n 0, 0, 0, 0, 0) := rfl
theorem zk_80_8 : zc 80 8 = some (.iconst (-1), 0, 0, 0, 0) := rfl
theorem zk_80_9 : zc 80 9 = some (.invokevirtual 48, 113, 0, 2, 88) := rfl
theorem zk_80_12 : zc 80 12 = some (.ireturn, 0, 0, 0, 0) := rfl
theorem zk_80_13 : zc 80 13 = some (.iload_n 2, 0, 0, 0, 0) := rfl
theorem zk_80_14 : zc 80 14 = some (.iconst 1, 0, 0, 0, 0) := rfl
theorem zk_80_15 : zc 80 15 = some (.bipush 20, 0, 0, 0, 0) := rfl
theorem zk_80_17 : zc 80 17 = some (.invokestatic 52, 114, 1, 3, 89) := rfl
theorem zk_80_20 : zc 80 20 = some (.ifCond .ne 10, 30, 0, 0, 0) := rfl
theorem zk_80_23 : zc 80 23 = some (.aload_n 0, 0, 0, 0, 0) := rfl
theorem zk_80_24 : zc 80 24 = some (.bipush (-6), 0, 0, 0, 0) := rfl
theorem zk_80_26 : zc 80 26 = some (.invokevirtual 48, 113, 0, 2, 88) := rfl
theorem zk_80_29 : zc 80 29 = some (.ireturn, 0, 0, 0, 0) := rfl
theorem zk_80_30 : zc 80 30 = some (.aload_n 0, 0, 0, 0, 0) := rfl
theorem zk_80_31 : zc 80 31 = some (.getfield 10, 10, 0, 0, 91) := rfl
theorem zk_80_34 : zc 80 34 = some (.getfield 56, 2, 0, 0, 98) := rfl
theorem zk_80_37 : zc 80 37 = some (.getfield 60, 4, 0, 0, 99) := rfl
theorem zk_80_40 : zc 80 40 = some (.iload_n 1, 0, 0, 0, 0) := rfl
theorem zk_80_41 : zc 80 41 = some (.bipush 60, 0, 0, 0, 0) := rfl
theorem zk_80_43 : zc 80 43 = some (.aload_n 0, 0, 0, 0, 0) := rfl
theorem zk_80_44 : zc 80 44 = some (.getfield 10, 10, 0, 0, 91) := rfl
theorem zk_80_47 : zc 80 47 = some (.getfield 56, 2, 0, 0, 98) := rfl
theorem zk_80_50 : zc 80 50 = some (.getfield 60, 4, 0, 0, 99) := rfl
theorem zk_80_53 : zc 80 53 = some (.iload_n 1, 0, 0, 0, 0) := rfl
theorem zk_80_54 : zc 80 54 = some (.iaload, 0, 0, 0, 0) := rfl
theorem zk_80_55 : zc 80 55 = some (.iload_n 2, 0, 0, 0, 0) := rfl
theorem zk_80_56 : zc 80 56 = some (.iadd, 0, 0, 0, 0) := rfl
theorem zk_80_57 : zc 80 57 = some (.invokestatic 89, 0, 8, 0, 92) := rfl
theorem zk_80_60 : zc 80 60 = some (.iastore, 0, 0, 0, 0) := rfl
theorem zk_80_61 : zc 80 61 = some (.aload_n 0, 0, 0, 0, 0) := rfl
theorem zk_80_62 : zc 80 62 = some (.getfield 10, 10, 0, 0, 91) := rfl
theorem zk_80_65 : zc 80 65 = some (.getfield 56, 2, 0, 0, 98) := rfl
theorem zk_80_68 : zc 80 68 = some (.getfield 60, 4, 0, 0, 99) := rfl
theorem zk_80_71 : zc 80 71 = some (.iload_n 1, 0, 0, 0, 0) := rfl
theorem zk_80_72 : zc 80 72 = some (.iaload, 0, 0, 0, 0) := rfl
theorem zk_80_73 : zc 80 73 = some (.ireturn, 0, 0, 0, 0) := rfl
theorem zk_81_0 : zc 81 0 = some (.iload_n 1, 0, 0, 0, 0) := rfl
theorem zk_81_1 : zc 81 1 = some (.invokestatic 44, 115, 1, 1, 87) := rfl
theorem zk_81_4 : zc 81 4 = some (.ifCond .ne 9, 13, 0, 0, 0) := rfl
theorem zk_81_7 : zc 81 7 = some (.aload_n 0, 0, 0, 0, 0) := rfl
theorem zk_81_8 : zc 81 8 = some (.iconst (-1), 0, 0, 0, 0) := rfl
theorem zk_81_9 : zc 81 9 = some (.invokevirtual 48, 113, 0, 2, 88) := rfl
theorem zk_81_12 : zc 81 12 = some (.ireturn, 0, 0, 0, 0) := rfl
theorem zk_81_13 : zc 81 13 = some (.aload_n 0, 0, 0, 0, 0) := rfl
theorem zk_81_14 : zc 81 14 = some (.getfield 10, 10, 0, 0, 91) := rfl
theorem zk_81_17 : zc 81 17 = some (.getfield 94, 2, 1, 0, 105) := rfl
theorem zk_81_20 : zc 81 20 = some (.iload_n 1, 0, 0, 0, 0) := rfl
theorem zk_81_21 : zc 81 21 = some (.invokevirtual 98, 62, 0, 2, 93) := rfl
theorem zk_81_24 : zc 81 24 = some (.iconst (-1), 0, 0, 0, 0) := rfl
theorem zk_81_25 : zc 81 25 = some (.if_icmp .eq 10, 35, 0, 0, 0) := rfl
theorem zk_81_28 : zc 81 28 = some (.aload_n 0, 0, 0, 0, 0) := rfl
theorem zk_81_29 : zc 81 29 = some (.bipush (-6), 0, 0, 0, 0) := rfl
theorem zk_81_31 : zc 81 31 = some (.invokevirtual 48, 113, 0, 2, 88) := rfl
theorem zk_81_34 : zc 81 34 = some (.ireturn, 0, 0, 0, 0) := rfl
theorem zk_81_35 : zc 81 35 = some (.aload_n 0, 0, 0, 0, 0) := rfl
theorem zk_81_36 : zc 81 36 = some (.getfield 10, 10, 0, 0, 91) := rfl
theorem zk_81_39 : zc 81 39 = some (.getfield 94, 2, 1, 0, 105) := rfl
theorem zk_81_42 : zc 81 42 = some (.getfield 103, 7, 0, 0, 106) := rfl
theorem zk_81_45 : zc 81 45 = some (.iconst 3, 0, 0, 0, 0) := rfl
theorem zk_81_46 : zc 81 46 = some (.if_icmp .lt 10, 56, 0, 0, 0) := rfl
theorem zk_81_49 : zc 81 49 = some (.aload_n 0, 0, 0, 0, 0) := rfl
theorem zk_81_50 : zc 81 50 = some (.bipush (-7), 0, 0, 0, 0) := rfl
theorem zk_81_52 : zc 81 52 = some (.invokevirtual 48, 113, 0, 2, 88) := rfl
theorem zk_81_55 : zc 81 55 = some (.ireturn, 0, 0, 0, 0) := rfl
theorem zk_81_56 : zc 81 56 = some (.aload_n 0, 0, 0, 0, 0) := rfl
theorem zk_81_57 : zc 81 57 = some (.getfield 10, 10, 0, 0, 91) := rfl
theorem zk_81_60 : zc 81 60 = some (.getfield 94, 2, 1, 0, 105) := rfl
theorem zk_81_63 : zc 81 63 = some (.iload_n 1, 0, 0, 0, 0) := rfl
theorem zk_81_64 : zc 81 64 = some (.invokevirtual 106, 61, 0, 2, 94) := rfl
theorem zk_81_67 : zc 81 67 = some (.ireturn, 0, 0, 0, 0) := rfl
theorem zk_82_0 : zc 82 0 = some (.iload_n 1, 0, 0, 0, 0) := rfl
theorem zk_82_1 : zc 82 1 = some (.iconst 0, 0, 0, 0, 0) := rfl
theorem zk_82_2 : zc 82 2 = some (.aload_n 0, 0, 0, 0, 0) := rfl
theorem zk_82_3 : zc 82 3 = some (.getfield 10, 10, 0, 0, 91) := rfl
theorem zk_82_6 : zc 82 6 = some (.getfield 94, 2, 1, 0, 105) := rfl
theorem zk_82_9 : zc 82 9 = some (.getfield 103, 7, 0, 0, 106) := rfl
theorem zk_82_12 : zc 82 12 = some (.iconst 1, 0, 0, 0, 0) := rfl
theorem zk_82_13 : zc 82 13 = some (.isub, 0, 0, 0, 0) := rfl
theorem zk_82_14 : zc 82 14 = some (.invokestatic 52, 114, 1, 3, 89) := rfl
theorem zk_82_17 : zc 82 17 = some (.ifCond .ne 9, 26, 0, 0, 0) := rfl
theorem zk_82_20 : zc 82 20 = some (.aload_n 0, 0, 0, 0, 0) := rfl
theorem zk_82_21 : zc 82 21 = some (.iconst (-1), 0, 0, 0, 0) := rfl
theorem zk_82_22 : zc 82 22 = some (.invokevirtual 48, 113, 0, 2, 88) := rfl
theorem zk_82_25 : zc 82 25 = some (.ireturn, 0, 0, 0, 0) := rfl
theorem zk_82_26 : zc 82 26 = some (.aload_n 0, 0, 0, 0, 0) := rfl
theorem zk_82_27 : zc 82 27 = some (.getfield 10, 10, 0, 0, 91) := rfl
theorem zk_82_30 : zc 82 30 = some (.getfield 94, 2, 1, 0, 105) := rfl
theorem zk_82_33 : zc 82 33 = some (.getfield 109, 7, 2, 0, 107) := rfl
theorem zk_82_36 : zc 82 36 = some (.iload_n 1, 0, 0, 0, 0) := rfl
theorem zk_82_37 : zc 82 37 = some (.iload_n 2, 0, 0, 0, 0) := rfl
theorem zk_82_38 : zc 82 38 = some (.invokestatic 79, 121, 1, 3, 91) := rfl
theorem zk_82_41 : zc 82 41 = some (.ireturn, 0, 0, 0, 0) := rfl
theorem zk_83_0 : zc 83 0 = some (.iload_n 1, 0, 0, 0, 0) := rfl
theorem zk_83_1 : zc 83 1 = some (.invokestatic 112, 116, 1, 1, 95) := rfl
theorem zk_83_4 : zc 83 4 = some (.ifCond .ne 9, 13, 0, 0, 0) := rfl
theorem zk_83_7 : zc 83 7 = some (.aload_n 0, 0, 0, 0, 0) := rfl
theorem zk_83_8 : zc 83 8 = some (.iconst (-1), 0, 0, 0, 0) := rfl
theorem zk_83_9 : zc 83 9 = some (.invokevirtual 48, 113, 0, 2, 88) := rfl
theorem zk_83_12 : zc 83 12 = some (.ireturn, 0, 0, 0, 0) := rfl
theorem zk_83_13 : zc 83 13 = some (.iload_n 3, 0, 0, 0, 0) := rfl
theorem zk_83_14 : zc 83 14 = some (.ifCond .ge 10, 24, 0, 0, 0) := rfl
theorem zk_83_17 : zc 83 17 = some (.aload_n 0, 0, 0, 0, 0) := rfl
theorem zk_83_18 : zc 83 18 = some (.bipush (-4), 0, 0, 0, 0) := rfl
theorem zk_83_20 : zc 83 20 = some (.invokevirtual 48, 113, 0, 2, 88) := rfl
theorem zk_83_23 : zc 83 23 = some (.ireturn, 0, 0, 0, 0) := rfl
theorem zk_83_24 : zc 83 24 = some (.iload_n 2, 0, 0, 0, 0) := rfl
theorem zk_83_25 : zc 83 25 = some (.iconst 0, 0, 0, 0, 0) := rfl
theorem zk_83_26 : zc 83 26 = some (.iconst 3, 0, 0, 0, 0) := rfl
theorem zk_83_27 : zc 83 27 = some (.invokestatic 52, 114, 1, 3, 89) := rfl
theorem zk_83_30 : zc 83 30 = some (.ifCond .ne 10, 40, 0, 0, 0) := rfl
theorem zk_83_33 : zc 83 33 = some (.aload_n 0, 0, 0, 0, 0) := rfl
theorem zk_83_34 : zc 83 34 = some (.bipush (-6), 0, 0, 0, 0) := rfl
theorem zk_83_36 : zc 83 36 = some (.invokevirtual 48, 113, 0, 2, 88) := rfl
theorem zk_83_39 : zc 83 39 = some (.ireturn, 0, 0, 0, 0) := rfl
theorem zk_83_40 : zc 83 40 = some (.iload_n 3, 0, 0, 0, 0) := rfl
theorem zk_83_41 : zc 83 41 = some (.bipush 96, 0, 0, 0, 0) := rfl
theorem zk_83_43 : zc 83 43 = some (.if_icmp .le 10, 53, 0, 0, 0) := rfl
theorem zk_83_46 : zc 83 46 = some (.aload_n 0, 0, 0, 0, 0) := rfl
theorem zk_83_47 : zc 83 47 = some (.bipush (-7), 0, 0, 0, 0) := rfl
theorem zk_83_49 : zc 83 49 = some (.invokevirtual 48, 113, 0, 2, 88) := rfl
theorem zk_83_52 : zc 83 52 = some (.ireturn, 0, 0, 0, 0) := rfl
theorem zk_83_53 : zc 83 53 = some (.aload_n 0, 0, 0, 0, 0) := rfl
theorem zk_83_54 : zc 83 54 = some (.getfield 24, 10, 4, 0, 94) := rfl
theorem zk_83_57 : zc 83 57 = some (.iload_n 1, 0, 0, 0, 0) := rfl
theorem zk_83_58 : zc 83 58 = some (.aaload, 0, 0, 0, 0) := rfl
theorem zk_83_59 : zc 83 59 = some (.iload_n 2, 0, 0, 0, 0) := rfl
theorem zk_83_60 : zc 83 60 = some (.iload_n 3, 0, 0, 0, 0) := rfl
theorem zk_83_61 : zc 83 61 = some (.invokevirtual 115, 66, 0, 3, 96) := rfl
theorem zk_83_64 : zc 83 64 = some (.iconst 1, 0, 0, 0, 0) := rfl
theorem zk_83_65 : zc 83 65 = some (.ireturn, 0, 0, 0, 0) := rfl
theorem zk_84_0 : zc 84 0 = some (.aload_n 0, 0, 0, 0, 0) := rfl
theorem zk_84_1 : zc 84 1 = some (.iload_n 1, 0, 0, 0, 0) := rfl
theorem zk_84_2 : zc 84 2 = some (.invokevirtual 119, 119, 0, 2, 97) := rfl
theorem zk_84_5 : zc 84 5 = some (.istore 5, 0, 0, 0, 0) := rfl
theorem zk_84_7 : zc 84 7 = some (.iload 5, 0, 0, 0, 0) := rfl
theorem zk_84_9 : zc 84 9 = some (.ifCond .eq 10, 19, 0, 0, 0) := rfl
theorem zk_84_12 : zc 84 12 = some (.aload_n 0, 0, 0, 0, 0) := rfl
theorem zk_84_13 : zc 84 13 = some (.iload 5, 0, 0, 0, 0) := rfl
theorem zk_84_15 : zc 84 15 = some (.invokevirtual 48, 113, 0, 2, 88) := rfl
theorem zk_84_18 : zc 84 18 = some (.ireturn, 0, 0, 0, 0) := rfl
theorem zk_84_19 : zc 84 19 = some (.iload_n 2, 0, 0, 0, 0) := rfl
theorem zk_84_20 : zc 84 20 = some (.iconst 0, 0, 0, 0, 0) := rfl
theorem zk_84_21 : zc 84 21 = some (.aload_n 0, 0, 0, 0, 0) := rfl
theorem zk_84_22 : zc 84 22 = some (.getfield 24, 10, 4, 0, 94) := rfl
theorem zk_84_25 : zc 84 25 = some (.iload_n 1, 0, 0, 0, 0) := rfl
theorem zk_84_26 : zc 84 26 = some (.aaload, 0, 0, 0, 0) := rfl
theorem zk_84_27 : zc 84 27 = some (.getfield 122, 8, 2, 0, 108) := rfl
theorem zk_84_30 : zc 84 30 = some (.iconst 1, 0, 0, 0, 0) := rfl
theorem zk_84_31 : zc 84 31 = some (.isub, 0, 0, 0, 0) := rfl
theorem zk_84_32 : zc 84 32 = some (.invokestatic 52, 114, 1, 3, 89) := rfl
theorem zk_84_35 : zc 84 35 = some (.ifCond .ne 10, 45, 0, 0, 0) := rfl
theorem zk_84_38 : zc 84 38 = some (.aload_n 0, 0, 0, 0, 0) := rfl
theorem zk_84_39 : zc 84 39 = some (.bipush (-5), 0, 0, 0, 0) := rfl
theorem zk_84_41 : zc 84 41 = some (.invokevirtual 48, 113, 0, 2, 88) := rfl
theorem zk_84_44 : zc 84 44 = some (.ireturn, 0, 0, 0, 0) := rfl
theorem zk_84_45 : zc 84 45 = some (.aload_n 0, 0, 0, 0, 0) := rfl
theorem zk_84_46 : zc 84 46 = some (.getfield 24, 10, 4, 0, 94) := rfl
theorem zk_84_49 : zc 84 49 = some (.iload_n 1, 0, 0, 0, 0) := rfl
theorem zk_84_50 : zc 84 50 = some (.aaload, 0, 0, 0, 0) := rfl
theorem zk_84_51 : zc 84 51 = some (.iload_n 2, 0, 0, 0, 0) := rfl
theorem zk_84_52 : zc 84 52 = some (.lload_n 3, 0, 0, 0, 0) := rfl
theorem zk_84_53 : zc 84 53 = some (.invokevirtual 125, 67, 0, 3, 98) := rfl
theorem zk_84_56 : zc 84 56 = some (.iconst 1, 0, 0, 0, 0) := rfl
theorem zk_84_57 : zc 84 57 = some (.ireturn, 0, 0, 0, 0) := rfl
theorem zk_85_0 : zc 85 0 = some (.aload_n 0, 0, 0, 0, 0) := rfl
theorem zk_85_1 : zc 85 1 = some (.iload_n 1, 0, 0, 0, 0) := rfl
theorem zk_85_2 : zc 85 2 = some (.iload_n 2, 0, 0, 0, 0) := rfl
theorem zk_85_3 : zc 85 3 = some (.invokevirtual 129, 120, 0, 3, 99) := rfl
theorem zk_85_6 : zc 85 6 = some (.istore 6, 0, 0, 0, 0) := rfl
theorem zk_85_8 : zc 85 8 = some (.iload 6, 0, 0, 0, 0) := rfl
theorem zk_85_10 : zc 85 10 = some (.ifCond .eq 10, 20, 0, 0, 0) := rfl
theorem zk_85_13 : zc 85 13 = some (.aload_n 0, 0, 0, 0, 0) := rfl
theorem zk_85_14 : zc 85 14 = some (.iload 6, 0, 0, 0, 0) := rfl
theorem zk_85_16 : zc 85 16 = some (.invokevirtual 48, 113, 0, 2, 88) := rfl
theorem zk_85_19 : zc 85 19 = some (.ireturn, 0, 0, 0, 0) := rfl
theorem zk_85_20 : zc 85 20 = some (.iload 5, 0, 0, 0, 0) := rfl
theorem zk_85_22 : zc 85 22 = some (.ifCond .ge 10, 32, 0, 0, 0) := rfl
theorem zk_85_25 : zc 85 25 = some (.aload_n 0, 0, 0, 0, 0) := rfl
theorem zk_85_26 : zc 85 26 = some (.bipush (-4), 0, 0, 0, 0) := rfl
theorem zk_85_28 : zc 85 28 = some (.invokevirtual 48, 113, 0, 2, 88) := rfl
theorem zk_85_31 : zc 85 31 = some (.ireturn, 0, 0, 0, 0) := rfl
theorem zk_85_32 : zc 85 32 = some (.aload_n 0, 0, 0, 0, 0) := rfl
theorem zk_85_33 : zc 85 33 = some (.getfield 24, 10, 4, 0, 94) := rfl
theorem zk_85_36 : zc 85 36 = some (.iload_n 1, 0, 0, 0, 0) := rfl
theorem zk_85_37 : zc 85 37 = some (.aaload, 0, 0, 0, 0) := rfl
theorem zk_85_38 : zc 85 38 = some (.iload_n 3, 0, 0, 0, 0) := rfl
theorem zk_85_39 : zc 85 39 = some (.iload 5, 0, 0, 0, 0) := rfl
theorem zk_85_41 : zc 85 41 = some (.invokevirtual 132, 68, 0, 3, 100) := rfl
theorem zk_85_44 : zc 85 44 = some (.ifCond .eq 19, 63, 0, 0, 0) := rfl
theorem zk_85_47 : zc 85 47 = some (.aload_n 0, 0, 0, 0, 0) := rfl
theorem zk_85_48 : zc 85 48 = some (.getfield 24, 10, 4, 0, 94) := rfl
theorem zk_85_51 : zc 85 51 = some (.iload_n 2, 0, 0, 0, 0) := rfl
theorem zk_85_52 : zc 85 52 = some (.aaload, 0, 0, 0, 0) := rfl
theorem zk_85_53 : zc 85 53 = some (.iload 4, 0, 0, 0, 0) := rfl
theorem zk_85_55 : zc 85 55 = some (.iload 5, 0, 0, 0, 0) := rfl
theorem zk_85_57 : zc 85 57 = some (.invokevirtual 132, 68, 0, 3, 100) := rfl
theorem zk_85_60 : zc 85 60 = some (.ifCond .ne 10, 70, 0, 0, 0) := rfl
theorem zk_85_63 : zc 85 63 = some (.aload_n 0, 0, 0, 0, 0) := rfl
theorem zk_85_64 : zc 85 64 = some (.bipush (-5), 0, 0, 0, 0) := rfl
theorem zk_85_66 : zc 85 66 = some (.invokevirtual 48, 113, 0, 2, 88) := rfl
theorem zk_85_69 : zc 85 69 = some (.ireturn, 0, 0, 0, 0) := rfl
theorem zk_85_70 : zc 85 70 = some (.aload_n 0, 0, 0, 0, 0) := rfl
theorem zk_85_71 : zc 85 71 = some (.getfield 24, 10, 4, 0, 94) := rfl
theorem zk_85_74 : zc 85 74 = some (.iload_n 1, 0, 0, 0, 0) := rfl
theorem zk_85_75 : zc 85 75 = some (.aaload, 0, 0, 0, 0) := rfl
theorem zk_85_76 : zc 85 76 = some (.getfield 136, 8, 4, 0, 109) := rfl
theorem zk_85_79 : zc 85 79 = some (.iload_n 3, 0, 0, 0, 0) := rfl
theorem zk_85_80 : zc 85 80 = some (.aload_n 0, 0, 0, 0, 0) := rfl
theorem zk_85_81 : zc 85 81 = some (.getfield 24, 10, 4, 0, 94) := rfl
theorem zk_85_84 : zc 85 84 = some (.iload_n 2, 0, 0, 0, 0) := rfl
theorem zk_85_85 : zc 85 85 = some (.aaload, 0, 0, 0, 0) := rfl
theorem zk_85_86 : zc 85 86 = some (.getfield 136, 8, 4, 0, 109) := rfl
theorem zk_85_89 : zc 85 89 = some (.iload 4, 0, 0, 0, 0) := rfl
theorem zk_85_91 : zc 85 91 = some (.iload 5, 0, 0, 0, 0) := rfl
theorem zk_85_93 : zc 85 93 = some (.invokestatic 140, 0, 6, 0, 101) := rfl
theorem zk_85_96 : zc 85 96 = some (.iconst 1, 0, 0, 0, 0) := rfl
theorem zk_85_97 : zc 85 97 = some (.ireturn, 0, 0, 0, 0) := rfl
theorem zk_86_0 : zc 86 0 = some (.iload_n 1, 0, 0, 0, 0) := rfl
theorem zk_86_1 : zc 86 1 = some (.invokestatic 112, 116, 1, 1, 95) := rfl
theorem zk_86_4 : zc 86 4 = some (.ifCond .eq 35, 39, 0, 0, 0) := rfl
theorem zk_86_7 : zc 86 7 = some (.aload_n 0, 0, 0, 0, 0) := rfl
theorem zk_86_8 : zc 86 8 = some (.getfield 24, 10, 4, 0, 94) := rfl
theorem zk_86_11 : zc 86 11 = some (.iload_n 1, 0, 0, 0, 0) := rfl
theorem zk_86_12 : zc 86 12 = some (.aaload, 0, 0, 0, 0) := rfl
theorem zk_86_13 : zc 86 13 = some (.getfield 146, 8, 0, 0, 110) := rfl
theorem zk_86_16 : zc 86 16 = some (.iconst 1, 0, 0, 0, 0) := rfl
theorem zk_86_17 : zc 86 17 = some (.if_icmp .ne 22, 39, 0, 0, 0) := rfl
theorem zk_86_20 : zc 86 20 = some (.iload_n 2, 0, 0, 0, 0) := rfl
theorem zk_86_21 : zc 86 21 = some (.iconst 0, 0, 0, 0, 0) := rfl
theorem zk_86_22 : zc 86 22 = some (.aload_n 0, 0, 0, 0, 0) := rfl
theorem zk_86_23 : zc 86 23 = some (.getfield 24, 10, 4, 0, 94) := rfl
theorem zk_86_26 : zc 86 26 = some (.iload_n 1, 0, 0, 0, 0) := rfl
theorem zk_86_27 : zc 86 27 = some (.aaload, 0, 0, 0, 0) := rfl
theorem zk_86_28 : zc 86 28 = some (.getfield 122, 8, 2, 0, 108) := rfl
theorem zk_86_31 : zc 86 31 = some (.iconst 1, 0, 0, 0, 0) := rfl
theorem zk_86_32 : zc 86 32 = some (.isub, 0, 0, 0, 0) := rfl
theorem zk_86_33 : zc 86 33 = some (.invokestatic 52, 114, 1, 3, 89) := rfl
theorem zk_86_36 : zc 86 36 = some (.ifCond .ne 5, 41, 0, 0, 0) := rfl
theorem zk_86_39 : zc 86 39 = some (.lconst 0, 0, 0, 0, 0) := rfl
theorem zk_86_40 : zc 86 40 = some (.lreturn, 0, 0, 0, 0) := rfl
theorem zk_86_41 : zc 86 41 = some (.aload_n 0, 0, 0, 0, 0) := rfl
theorem zk_86_42 : zc 86 42 = some (.getfield 24, 10, 4, 0, 94) := rfl
theorem zk_86_45 : zc 86 45 = some (.iload_n 1, 0, 0, 0, 0) := rfl
theorem zk_86_46 : zc 86 46 = some (.aaload, 0, 0, 0, 0) := rfl
theorem zk_86_47 : zc 86 47 = some (.getfield 136, 8, 4, 0, 109) := rfl
theorem zk_86_50 : zc 86 50 = some (.iload_n 2, 0, 0, 0, 0) := rfl
theorem zk_86_51 : zc 86 51 = some (.laload, 0, 0, 0, 0) := rfl
theorem zk_86_52 : zc 86 52 = some (.lreturn, 0, 0, 0, 0) := rfl
theorem zk_87_0 : zc 87 0 = some (.iload_n 1, 0, 0, 0, 0) := rfl
theorem zk_87_1 : zc 87 1 = some (.invokestatic 112, 116, 1, 1, 95) := rfl
theorem zk_87_4 : zc 87 4 = some (.ifCond .eq 16, 20, 0, 0, 0) := rfl
theorem zk_87_7 : zc 87 7 = some (.iload_n 2, 0, 0, 0, 0) := rfl
theorem zk_87_8 : zc 87 8 = some (.iconst (-1), 0, 0, 0, 0) := rfl
theorem zk_87_9 : zc 87 9 = some (.if_icmp .eq 17, 26, 0, 0, 0) := rfl
theorem zk_87_12 : zc 87 12 = some (.aload_n 0, 0, 0, 0, 0) := rfl
theorem zk_87_13 : zc 87 13 = some (.iload_n 2, 0, 0, 0, 0) := rfl
theorem zk_87_14 : zc 87 14 = some (.invokevirtual 149, 117, 0, 2, 102) := rfl
theorem zk_87_17 : zc 87 17 = some (.ifCond .ne 9, 26, 0, 0, 0) := rfl
theorem zk_87_20 : zc 87 20 = some (.aload_n 0, 0, 0, 0, 0) := rfl
theorem zk_87_21 : zc 87 21 = some (.iconst (-1), 0, 0, 0, 0) := rfl
theorem zk_87_22 : zc 87 22 = some (.invokevirtual 48, 113, 0, 2, 88) := rfl
theorem zk_87_25 : zc 87 25 = some (.ireturn, 0, 0, 0, 0) := rfl
theorem zk_87_26 : zc 87 26 = some (.iload_n 2, 0, 0, 0, 0) := rfl
theorem zk_87_27 : zc 87 27 = some (.iconst (-1), 0, 0, 0, 0) := rfl
theorem zk_87_28 : zc 87 28 = some (.if_icmp .ne 15, 43, 0, 0, 0) := rfl
theorem zk_87_31 : zc 87 31 = some (.aload_n 0, 0, 0, 0, 0) := rfl
theorem zk_87_32 : zc 87 32 = some (.getfield 24, 10, 4, 0, 94) := rfl
theorem zk_87_35 : zc 87 35 = some (.iload_n 1, 0, 0, 0, 0) := rfl
theorem zk_87_36 : zc 87 36 = some (.aaload, 0, 0, 0, 0) := rfl
theorem zk_87_37 : zc 87 37 = some (.iconst 0, 0, 0, 0, 0) := rfl
theorem zk_87_38 : zc 87 38 = some (.putfield 146, 8, 0, 0, 110) := rfl
theorem zk_87_41 : zc 87 41 = some (.iconst 0, 0, 0, 0, 0) := rfl
theorem zk_87_42 : zc 87 42 = some (.ireturn, 0, 0, 0, 0) := rfl
theorem zk_87_43 : zc 87 43 = some (.aload_n 0, 0, 0, 0, 0) := rfl
theorem zk_87_44 : zc 87 44 = some (.getfield 24, 10, 4, 0, 94) := rfl
theorem zk_87_47 : zc 87 47 = some (.iload_n 1, 0, 0, 0, 0) := rfl
theorem zk_87_48 : zc 87 48 = some (.aaload, 0, 0, 0, 0) := rfl
theorem zk_87_49 : zc 87 49 = some (.iconst 2, 0, 0, 0, 0) := rfl
theorem zk_87_50 : zc 87 50 = some (.putfield 146, 8, 0, 0, 110) := rfl
theorem zk_87_53 : zc 87 53 = some (.aload_n 0, 0, 0, 0, 0) := rfl
theorem zk_87_54 : zc 87 54 = some (.getfield 24, 10, 4, 0, 94) := rfl
theorem zk_87_57 : zc 87 57 = some (.iload_n 1, 0, 0, 0, 0) := rfl
theorem zk_87_58 : zc 87 58 = some (.aaload, 0, 0, 0, 0) := rfl
theorem zk_87_59 : zc 87 59 = some (.iload_n 2, 0, 0, 0, 0) := rfl
theorem zk_87_60 : zc 87 60 = some (.putfield 152, 8, 3, 0, 111) := rfl
theorem zk_87_63 : zc 87 63 = some (.iconst 1, 0, 0, 0, 0) := rfl
theorem zk_87_64 : zc 87 64 = some (.ireturn, 0, 0, 0, 0) := rfl
theorem zk_88_0 : zc 88 0 = some (.iload_n 1, 0, 0, 0, 0) := rfl
theorem zk_88_1 : zc 88 1 = some (.invokestatic 112, 116, 1, 1, 95) := rfl
theorem zk_88_4 : zc 88 4 = some (.ifCond .eq 15, 19, 0, 0, 0) := rfl
theorem zk_88_7 : zc 88 7 = some (.aload_n 0, 0, 0, 0, 0) := rfl
theorem zk_88_8 : zc 88 8 = some (.getfield 24, 10, 4, 0, 94) := rfl
theorem zk_88_11 : zc 88 11 = some (.iload_n 1, 0, 0, 0, 0) := rfl
theorem zk_88_12 : zc 88 12 = some (.aaload, 0, 0, 0, 0) := rfl
theorem zk_88_13 : zc 88 13 = some (.getfield 146, 8, 0, 0, 110) := rfl
theorem zk_88_16 : zc 88 16 = some (.ifCond .ne 5, 21, 0, 0, 0) := rfl
theorem zk_88_19 : zc 88 19 = some (.iconst (-1), 0, 0, 0, 0) := rfl
theorem zk_88_20 : zc 88 20 = some (.ireturn, 0, 0, 0, 0) := rfl
theorem zk_88_21 : zc 88 21 = some (.aload_n 0, 0, 0, 0, 0) := rfl
theorem zk_88_22 : zc 88 22 = some (.getfield 24, 10, 4, 0, 94) := rfl
theorem zk_88_25 : zc 88 25 = some (.iload_n 1, 0, 0, 0, 0) := rfl
theorem zk_88_26 : zc 88 26 = some (.aaload, 0, 0, 0, 0) := rfl
theorem zk_88_27 : zc 88 27 = some (.getfield 146, 8, 0, 0, 110) := rfl
theorem zk_88_30 : zc 88 30 = some (.iconst 2, 0, 0, 0, 0) := rfl
theorem zk_88_31 : zc 88 31 = some (.if_icmp .ne 15, 46, 0, 0, 0) := rfl
theorem zk_88_34 : zc 88 34 = some (.aload_n 0, 0, 0, 0, 0) := rfl
theorem zk_88_35 : zc 88 35 = some (.getfield 24, 10, 4, 0, 94) := rfl
theorem zk_88_38 : zc 88 38 = some (.iload_n 1, 0, 0, 0, 0) := rfl
theorem zk_88_39 : zc 88 39 = some (.aaload, 0, 0, 0, 0) := rfl
theorem zk_88_40 : zc 88 40 = some (.getfield 152, 8, 3, 0, 111) := rfl
theorem zk_88_43 : zc 88 43 = some (.goto 15, 58, 0, 0, 0) := rfl
theorem zk_88_46 : zc 88 46 = some (.bipush 100, 0, 0, 0, 0) := rfl
theorem zk_88_48 : zc 88 48 = some (.aload_n 0, 0, 0, 0, 0) := rfl
theorem zk_88_49 : zc 88 49 = some (.getfield 24, 10, 4, 0, 94) := rfl
theorem zk_88_52 : zc 88 52 = some (.iload_n 1, 0, 0, 0, 0) := rfl
theorem zk_88_53 : zc 88 53 = some (.aaload, 0, 0, 0, 0) := rfl
theorem zk_88_54 : zc 88 54 = some (.getfield 155, 8, 1, 0, 112) := rfl
theorem zk_88_57 : zc 88 57 = some (.iadd, 0, 0, 0, 0) := rfl
theorem zk_88_58 : zc 88 58 = some (.ireturn, 0, 0, 0, 0) := rfl
theorem zk_89_0 : zc 89 0 = some (.iload_n 1, 0, 0, 0, 0) := rfl
theorem zk_89_1 : zc 89 1 = some (.invokestatic 112, 116, 1, 1, 95) := rfl
theorem zk_89_4 : zc 89 4 = some (.ifCond .eq 12, 16, 0, 0, 0) := rfl
theorem zk_89_7 : zc 89 7 = some (.iload_n 2, 0, 0, 0, 0) := rfl
theorem zk_89_8 : zc 89 8 = some (.iconst 0, 0, 0, 0, 0) := rfl
theorem zk_89_9 : zc 89 9 = some (.iconst 2, 0, 0, 0, 0) := rfl
theorem zk_89_10 : zc 89 10 = some (.invokestatic 52, 114, 1, 3, 89) := rfl
theorem zk_89_13 : zc 89 13 = some (.ifCond .ne 9, 22, 0, 0, 0) := rfl
theorem zk_89_16 : zc 89 16 = some (.aload_n 0, 0, 0, 0, 0) := rfl
theorem zk_89_17 : zc 89 17 = some (.iconst (-1), 0, 0, 0, 0) := rfl
theorem zk_89_18 : zc 89 18 = some (.invokevirtual 48, 113, 0, 2, 88) := rfl
theorem zk_89_21 : zc 89 21 = some (.ireturn, 0, 0, 0, 0) := rfl
theorem zk_89_22 : zc 89 22 = some (.aload_n 0, 0, 0, 0, 0) := rfl
theorem zk_89_23 : zc 89 23 = some (.getfield 24, 10, 4, 0, 94) := rfl
theorem zk_89_26 : zc 89 26 = some (.iload_n 1, 0, 0, 0, 0) := rfl
theorem zk_89_27 : zc 89 27 = some (.aaload, 0, 0, 0, 0) := rfl
theorem zk_89_28 : zc 89 28 = some (.getfield 146, 8, 0, 0, 110) := rfl
theorem zk_89_31 : zc 89 31 = some (.iconst 1, 0, 0, 0, 0) := rfl
theorem zk_89_32 : zc 89 32 = some (.if_icmp .ne 10, 42, 0, 0, 0) := rfl
theorem zk_89_35 : zc 89 35 = some (.aload_n 0, 0, 0, 0, 0) := rfl
theorem zk_89_36 : zc 89 36 = some (.bipush (-2), 0, 0, 0, 0) := rfl
theorem zk_89_38 : zc 89 38 = some (.invokevirtual 48, 113, 0, 2, 88) := rfl
theorem zk_89_41 : zc 89 41 = some (.ireturn, 0, 0, 0, 0) := rfl
theorem zk_89_42 : zc 89 42 = some (.aload_n 0, 0, 0, 0, 0) := rfl
theorem zk_89_43 : zc 89 43 = some (.getfield 24, 10, 4, 0, 94) := rfl
theorem zk_89_46 : zc 89 46 = some (.iload_n 1, 0, 0, 0, 0) := rfl
theorem zk_89_47 : zc 89 47 = some (.aaload, 0, 0, 0, 0) := rfl
theorem zk_89_48 : zc 89 48 = some (.getfield 146, 8, 0, 0, 110) := rfl
theorem zk_89_51 : zc 89 51 = some (.ifCond .eq 19, 70, 0, 0, 0) := rfl
theorem zk_89_54 : zc 89 54 = some (.aload_n 0, 0, 0, 0, 0) := rfl
theorem zk_89_55 : zc 89 55 = some (.aload_n 0, 0, 0, 0, 0) := rfl
theorem zk_89_56 : zc 89 56 = some (.getfield 24, 10, 4, 0, 94) := rfl
theorem zk_89_59 : zc 89 59 = some (.iload_n 1, 0, 0, 0, 0) := rfl
theorem zk_89_60 : zc 89 60 = some (.aaload, 0, 0, 0, 0) := rfl
theorem zk_89_61 : zc 89 61 = some (.getfield 152, 8, 3, 0, 111) := rfl
theorem zk_89_64 : zc 89 64 = some (.invokevirtual 149, 117, 0, 2, 102) := rfl
theorem zk_89_67 : zc 89 67 = some (.ifCond .ne 10, 77, 0, 0, 0) := rfl
theorem zk_89_70 : zc 89 70 = some (.aload_n 0, 0, 0, 0, 0) := rfl
theorem zk_89_71 : zc 89 71 = some (.bipush (-3), 0, 0, 0, 0) := rfl
theorem zk_89_73 : zc 89 73 = some (.invokevirtual 48, 113, 0, 2, 88) := rfl
theorem zk_89_76 : zc 89 76 = some (.ireturn, 0, 0, 0, 0) := rfl
theorem zk_89_77 : zc 89 77 = some (.aload_n 0, 0, 0, 0, 0) := rfl
theorem zk_89_78 : zc 89 78 = some (.getfield 10, 10, 0, 0, 91) := rfl
theorem zk_89_81 : zc 89 81 = some (.getfield 158, 2, 3, 0, 113) := rfl
theorem zk_89_84 : zc 89 84 = some (.aload_n 0, 0, 0, 0, 0) := rfl
theorem zk_89_85 : zc 89 85 = some (.getfield 24, 10, 4, 0, 94) := rfl
theorem zk_89_88 : zc 89 88 = some (.iload_n 1, 0, 0, 0, 0) := rfl
theorem zk_89_89 : zc 89 89 = some (.aaload, 0, 0, 0, 0) := rfl
theorem zk_89_90 : zc 89 90 = some (.getfield 152, 8, 3, 0, 111) := rfl
theorem zk_89_93 : zc 89 93 = some (.aaload, 0, 0, 0, 0) := rfl
theorem zk_89_94 : zc 89 94 = some (.astore_n 3, 0, 0, 0, 0) := rfl
theorem zk_89_95 : zc 89 95 = some (.iload_n 2, 0, 0, 0, 0) := rfl
theorem zk_89_96 : zc 89 96 = some (.ifCond .eq 18, 114, 0, 0, 0) := rfl
theorem zk_89_99 : zc 89 99 = some (.iload_n 2, 0, 0, 0, 0) := rfl
theorem zk_89_100 : zc 89 100 = some (.aload_n 3, 0, 0, 0, 0) := rfl
theorem zk_89_101 : zc 89 101 = some (.getfield 162, 3, 0, 0, 114) := rfl
theorem zk_89_104 : zc 89 104 = some (.if_icmp .eq 10, 114, 0, 0, 0) := rfl
theorem zk_89_107 : zc 89 107 = some (.aload_n 0, 0, 0, 0, 0) := rfl
theorem zk_89_108 : zc 89 108 = some (.bipush (-2), 0, 0, 0, 0) := rfl
theorem zk_89_110 : zc 89 110 = some (.invokevirtual 48, 113, 0, 2, 88) := rfl
theorem zk_89_113 : zc 89 113 = some (.ireturn, 0, 0, 0, 0) := rfl
theorem zk_89_114 : zc 89 114 = some (.iload_n 2, 0, 0, 0, 0) := rfl
theorem zk_89_115 : zc 89 115 = some (.iconst 1, 0, 0, 0, 0) := rfl
theorem zk_89_116 : zc 89 116 = some (.if_icmp .ne 10, 126, 0, 0, 0) := rfl
theorem zk_89_119 : zc 89 119 = some (.aload_n 3, 0, 0, 0, 0) := rfl
theorem zk_89_120 : zc 89 120 = some (.getfield 167, 3, 7, 0, 115) := rfl
theorem zk_89_123 : zc 89 123 = some (.goto 19, 142, 0, 0, 0) := rfl
theorem zk_89_126 : zc 89 126 = some (.iload_n 2, 0, 0, 0, 0) := rfl
theorem zk_89_127 : zc 89 127 = some (.iconst 2, 0, 0, 0, 0) := rfl
theorem zk_89_128 : zc 89 128 = some (.if_icmp .ne 10, 138, 0, 0, 0) := rfl
theorem zk_89_131 : zc 89 131 = some (.aload_n 3, 0, 0, 0, 0) := rfl
theorem zk_89_132 : zc 89 132 = some (.getfield 170, 3, 8, 0, 116) := rfl
theorem zk_89_135 : zc 89 135 = some (.goto 7, 142, 0, 0, 0) := rfl
theorem zk_89_138 : zc 89 138 = some (.aload_n 3, 0, 0, 0, 0) := rfl
theorem zk_89_139 : zc 89 139 = some (.getfield 173, 3, 6, 0, 117) := rfl
theorem zk_89_142 : zc 89 142 = some (.ireturn, 0, 0, 0, 0) := rfl
theorem zk_90_0 : zc 90 0 = some (.aload_n 0, 0, 0, 0, 0) := rfl
theorem zk_90_1 : zc 90 1 = some (.iload_n 1, 0, 0, 0, 0) := rfl
theorem zk_90_2 : zc 90 2 = some (.invokevirtual 119, 119, 0, 2, 97) := rfl
theorem zk_90_5 : zc 90 5 = some (.istore_n 3, 0, 0, 0, 0) := rfl
theorem zk_90_6 : zc 90 6 = some (.iload_n 3, 0, 0, 0, 0) := rfl
theorem zk_90_7 : zc 90 7 = some (.ifCond .eq 9, 16, 0, 0, 0) := rfl
theorem zk_90_10 : zc 90 10 = some (.aload_n 0, 0, 0, 0, 0) := rfl
theorem zk_90_11 : zc 90 11 = some (.iload_n 3, 0, 0, 0, 0) := rfl
theorem zk_90_12 : zc 90 12 = some (.invokevirtual 48, 113, 0, 2, 88) := rfl
theorem zk_90_15 : zc 90 15 = some (.ireturn, 0, 0, 0, 0) := rfl
theorem zk_90_16 : zc 90 16 = some (.aload_n 0, 0, 0, 0, 0) := rfl
theorem zk_90_17 : zc 90 17 = some (.getfield 10, 10, 0, 0, 91) := rfl
theorem zk_90_20 : zc 90 20 = some (.iload_n 2, 0, 0, 0, 0) := rfl
theorem zk_90_21 : zc 90 21 = some (.invokevirtual 176, 10, 0, 2, 103) := rfl
theorem zk_90_24 : zc 90 24 = some (.aload_n 0, 0, 0, 0, 0) := rfl
theorem zk_90_25 : zc 90 25 = some (.getfield 24, 10, 4, 0, 94) := rfl
theorem zk_90_28 : zc 90 28 = some (.iload_n 1, 0, 0, 0, 0) := rfl
theorem zk_90_29 : zc 90 29 = some (.aaload, 0, 0, 0, 0) := rfl
theorem zk_90_30 : zc 90 30 = some (.invokevirtual 180, 71, 0, 2, 104) := rfl
theorem zk_90_33 : zc 90 33 = some (.aload_n 0, 0, 0, 0, 0) := rfl
theorem zk_90_34 : zc 90 34 = some (.getfield 24, 10, 4, 0, 94) := rfl
theorem zk_90_37 : zc 90 37 = some (.iload_n 1, 0, 0, 0, 0) := rfl
theorem zk_90_38 : zc 90 38 = some (.aaload, 0, 0, 0, 0) := rfl
theorem zk_90_39 : zc 90 39 = some (.getfield 122, 8, 2, 0, 108) := rfl
theorem zk_90_42 : zc 90 42 = some (.ireturn, 0, 0, 0, 0) := rfl
theorem zk_91_0 : zc 91 0 = some (.iload_n 1, 0, 0, 0, 0) := rfl
theorem zk_91_1 : zc 91 1 = some (.ifCond .ge 9, 10, 0, 0, 0) := rfl
theorem zk_91_4 : zc 91 4 = some (.sipush 1000, 0, 0, 0, 0) := rfl
theorem zk_91_7 : zc 91 7 = some (.goto 15, 22, 0, 0, 0) := rfl
theorem zk_91_10 : zc 91 10 = some (.aload_n 0, 0, 0, 0, 0) := rfl
theorem zk_91_11 : zc 91 11 = some (.getfield 10, 10, 0, 0, 91) := rfl
theorem zk_91_14 : zc 91 14 = some (.iload_n 2, 0, 0, 0, 0) := rfl
theorem zk_91_15 : zc 91 15 = some (.invokevirtual 176, 10, 0, 2, 103) := rfl
theorem zk_91_18 : zc 91 18 = some (.iload_n 1, 0, 0, 0, 0) := rfl
theorem zk_91_19 : zc 91 19 = some (.invokevirtual 186, 73, 0, 2, 105) := rfl
theorem zk_91_22 : zc 91 22 = some (.ireturn, 0, 0, 0, 0) := rfl
theorem zk_92_0 : zc 92 0 = some (.iload_n 1, 0, 0, 0, 0) := rfl
theorem zk_92_1 : zc 92 1 = some (.ifCond .ne 32, 33, 0, 0, 0) := rfl
theorem zk_92_4 : zc 92 4 = some (.iload_n 2, 0, 0, 0, 0) := rfl
theorem zk_92_5 : zc 92 5 = some (.iconst 0, 0, 0, 0, 0) := rfl
theorem zk_92_6 : zc 92 6 = some (.bipush 99, 0, 0, 0, 0) := rfl
theorem zk_92_8 : zc 92 8 = some (.invokestatic 52, 114, 1, 3, 89) := rfl
theorem zk_92_11 : zc 92 11 = some (.ifCond .eq 22, 33, 0, 0, 0) := rfl
theorem zk_92_14 : zc 92 14 = some (.aload_n 0, 0, 0, 0, 0) := rfl
theorem zk_92_15 : zc 92 15 = some (.getfield 10, 10, 0, 0, 91) := rfl
theorem zk_92_18 : zc 92 18 = some (.getfield 189, 2, 10, 0, 118) := rfl
theorem zk_92_21 : zc 92 21 = some (.istore_n 3, 0, 0, 0, 0) := rfl
theorem zk_92_22 : zc 92 22 = some (.aload_n 0, 0, 0, 0, 0) := rfl
theorem zk_92_23 : zc 92 23 = some (.getfield 10, 10, 0, 0, 91) := rfl
theorem zk_92_26 : zc 92 26 = some (.iload_n 2, 0, 0, 0, 0) := rfl
theorem zk_92_27 : zc 92 27 = some (.putfield 189, 2, 10, 0, 118) := rfl
theorem zk_92_30 : zc 92 30 = some (.goto 79, 109, 0, 0, 0) := rfl
theorem zk_92_33 : zc 92 33 = some (.iload_n 1, 0, 0, 0, 0) := rfl
theorem zk_92_34 : zc 92 34 = some (.iconst 1, 0, 0, 0, 0) := rfl
theorem zk_92_35 : zc 92 35 = some (.if_icmp .ne 32, 67, 0, 0, 0) := rfl
theorem zk_92_38 : zc 92 38 = some (.iload_n 2, 0, 0, 0, 0) := rfl
theorem zk_92_39 : zc 92 39 = some (.iconst 1, 0, 0, 0, 0) := rfl
theorem zk_92_40 : zc 92 40 = some (.bipush 9, 0, 0, 0, 0) := rfl
theorem zk_92_42 : zc 92 42 = some (.invokestatic 52, 114, 1, 3, 89) := rfl
theorem zk_92_45 : zc 92 45 = some (.ifCond .eq 22, 67, 0, 0, 0) := rfl
theorem zk_92_48 : zc 92 48 = some (.aload_n 0, 0, 0, 0, 0) := rfl
theorem zk_92_49 : zc 92 49 = some (.getfield 10, 10, 0, 0, 91) := rfl
theorem zk_92_52 : zc 92 52 = some (.getfield 192, 2, 11, 0, 119) := rfl
theorem zk_92_55 : zc 92 55 = some (.istore_n 3, 0, 0, 0, 0) := rfl
theorem zk_92_56 : zc 92 56 = some (.aload_n 0, 0, 0, 0, 0) := rfl
theorem zk_92_57 : zc 92 57 = some (.getfield 10, 10, 0, 0, 91) := rfl
theorem zk_92_60 : zc 92 60 = some (.iload_n 2, 0, 0, 0, 0) := rfl
theorem zk_92_61 : zc 92 61 = some (.putfield 192, 2, 11, 0, 119) := rfl
theorem zk_92_64 : zc 92 64 = some (.goto 45, 109, 0, 0, 0) := rfl
theorem zk_92_67 : zc 92 67 = some (.iload_n 1, 0, 0, 0, 0) := rfl
theorem zk_92_68 : zc 92 68 = some (.iconst 2, 0, 0, 0, 0) := rfl
theorem zk_92_69 : zc 92 69 = some (.if_icmp .ne 33, 102, 0, 0, 0) := rfl
theorem zk_92_72 : zc 92 72 = some (.iload_n 2, 0, 0, 0, 0) := rfl
theorem zk_92_73 : zc 92 73 = some (.iconst 0, 0, 0, 0, 0) := rfl
theorem zk_92_74 : zc 92 74 = some (.sipush 9999, 0, 0, 0, 0) := rfl
theorem zk_92_77 : zc 92 77 = some (.invokestatic 52, 114, 1, 3, 89) := rfl
theorem zk_92_80 : zc 92 80 = some (.ifCond .eq 22, 102, 0, 0, 0) := rfl
theorem zk_92_83 : zc 92 83 = some (.aload_n 0, 0, 0, 0, 0) := rfl
theorem zk_92_84 : zc 92 84 = some (.getfield 10, 10, 0, 0, 91) := rfl
theorem zk_92_87 : zc 92 87 = some (.getfield 195, 2, 12, 0, 120) := rfl
theorem zk_92_90 : zc 92 90 = some (.istore_n 3, 0, 0, 0, 0) := rfl
theorem zk_92_91 : zc 92 91 = some (.aload_n 0, 0, 0, 0, 0) := rfl
theorem zk_92_92 : zc 92 92 = some (.getfield 10, 10, 0, 0, 91) := rfl
theorem zk_92_95 : zc 92 95 = some (.iload_n 2, 0, 0, 0, 0) := rfl
theorem zk_92_96 : zc 92 96 = some (.putfield 195, 2, 12, 0, 120) := rfl
theorem zk_92_99 : zc 92 99 = some (.goto 10, 109, 0, 0, 0) := rfl
theorem zk_92_102 : zc 92 102 = some (.aload_n 0, 0, 0, 0, 0) := rfl
theorem zk_92_103 : zc 92 103 = some (.bipush (-6), 0, 0, 0, 0) := rfl
theorem zk_92_105 : zc 92 105 = some (.invokevirtual 48, 113, 0, 2, 88) := rfl
theorem zk_92_108 : zc 92 108 = some (.ireturn, 0, 0, 0, 0) := rfl
theorem zk_92_109 : zc 92 109 = some (.iload_n 3, 0, 0, 0, 0) := rfl
theorem zk_92_110 : zc 92 110 = some (.ireturn, 0, 0, 0, 0) := rfl
theorem zk_93_0 : zc 93 0 = some (.aload_n 0, 0, 0, 0, 0) := rfl
theorem zk_93_1 : zc 93 1 = some (.iload_n 1, 0, 0, 0, 0) := rfl
theorem zk_93_2 : zc 93 2 = some (.invokevirtual 119, 119, 0, 2, 97) := rfl
theorem zk_93_5 : zc 93 5 = some (.istore_n 2, 0, 0, 0, 0) := rfl
theorem zk_93_6 : zc 93 6 = some (.iload_n 2, 0, 0, 0, 0) := rfl
theorem zk_93_7 : zc 93 7 = some (.ifCond .eq 9, 16, 0, 0, 0) := rfl
theorem zk_93_10 : zc 93 10 = some (.aload_n 0, 0, 0, 0, 0) := rfl
theorem zk_93_11 : zc 93 11 = some (.iload_n 2, 0, 0, 0, 0) := rfl
theorem zk_93_12 : zc 93 12 = some (.invokevirtual 48, 113, 0, 2, 88) := rfl
theorem zk_93_15 : zc 93 15 = some (.ireturn, 0, 0, 0, 0) := rfl
theorem zk_93_16 : zc 93 16 = some (.aload_n 0, 0, 0, 0, 0) := rfl
theorem zk_93_17 : zc 93 17 = some (.aload_n 0, 0, 0, 0, 0) := rfl
theorem zk_93_18 : zc 93 18 = some (.getfield 35, 10, 6, 0, 96) := rfl
theorem zk_93_21 : zc 93 21 = some (.aload_n 0, 0, 0, 0, 0) := rfl
theorem zk_93_22 : zc 93 22 = some (.getfield 24, 10, 4, 0, 94) := rfl
theorem zk_93_25 : zc 93 25 = some (.iload_n 1, 0, 0, 0, 0) := rfl
theorem zk_93_26 : zc 93 26 = some (.aaload, 0, 0, 0, 0) := rfl
theorem zk_93_27 : zc 93 27 = some (.invokevirtual 198, 48, 0, 2, 106) := rfl
theorem zk_93_30 : zc 93 30 = some (.putfield 39, 10, 7, 0, 97) := rfl
theorem zk_93_33 : zc 93 33 = some (.aload_n 0, 0, 0, 0, 0) := rfl
theorem zk_93_34 : zc 93 34 = some (.getfield 39, 10, 7, 0, 97) := rfl
theorem zk_93_37 : zc 93 37 = some (.iconst (-1), 0, 0, 0, 0) := rfl
theorem zk_93_38 : zc 93 38 = some (.if_icmp .eq 10, 48, 0, 0, 0) := rfl
theorem zk_93_41 : zc 93 41 = some (.aload_n 0, 0, 0, 0, 0) := rfl
theorem zk_93_42 : zc 93 42 = some (.bipush (-6), 0, 0, 0, 0) := rfl
theorem zk_93_44 : zc 93 44 = some (.invokevirtual 48, 113, 0, 2, 88) := rfl
theorem zk_93_47 : zc 93 47 = some (.ireturn, 0, 0, 0, 0) := rfl
theorem zk_93_48 : zc 93 48 = some (.aload_n 0, 0, 0, 0, 0) := rfl
theorem zk_93_49 : zc 93 49 = some (.getfield 10, 10, 0, 0, 91) := rfl
theorem zk_93_52 : zc 93 52 = some (.getfield 202, 2, 5, 0, 121) := rfl
theorem zk_93_55 : zc 93 55 = some (.iconst 5, 0, 0, 0, 0) := rfl
theorem zk_93_56 : zc 93 56 = some (.if_icmp .lt 10, 66, 0, 0, 0) := rfl
theorem zk_93_59 : zc 93 59 = some (.aload_n 0, 0, 0, 0, 0) := rfl
theorem zk_93_60 : zc 93 60 = some (.bipush (-7), 0, 0, 0, 0) := rfl
theorem zk_93_62 : zc 93 62 = some (.invokevirtual 48, 113, 0, 2, 88) := rfl
theorem zk_93_65 : zc 93 65 = some (.ireturn, 0, 0, 0, 0) := rfl
theorem zk_93_66 : zc 93 66 = some (.aload_n 0, 0, 0, 0, 0) := rfl
theorem zk_93_67 : zc 93 67 = some (.getfield 10, 10, 0, 0, 91) := rfl
theorem zk_93_70 : zc 93 70 = some (.getfield 205, 2, 2, 0, 122) := rfl
theorem zk_93_73 : zc 93 73 = some (.aload_n 0, 0, 0, 0, 0) := rfl
theorem zk_93_74 : zc 93 74 = some (.getfield 10, 10, 0, 0, 91) := rfl
theorem zk_93_77 : zc 93 77 = some (.getfield 202, 2, 5, 0, 121) := rfl
theorem zk_93_80 : zc 93 80 = some (.aaload, 0, 0, 0, 0) := rfl
theorem zk_93_81 : zc 93 81 = some (.aload_n 0, 0, 0, 0, 0) := rfl
theorem zk_93_82 : zc 93 82 = some (.getfield 35, 10, 6, 0, 96) := rfl
theorem zk_93_85 : zc 93 85 = some (.getfield 209, 6, 0, 0, 123) := rfl
theorem zk_93_88 : zc 93 88 = some (.invokevirtual 213, 46, 0, 2, 107) := rfl
theorem zk_93_91 : zc 93 91 = some (.aload_n 0, 0, 0, 0, 0) := rfl
theorem zk_93_92 : zc 93 92 = some (.getfield 10, 10, 0, 0, 91) := rfl
theorem zk_93_95 : zc 93 95 = some (.dup, 0, 0, 0, 0) := rfl
theorem zk_93_96 : zc 93 96 = some (.getfield 202, 2, 5, 0, 121) := rfl
theorem zk_93_99 : zc 93 99 = some (.iconst 1, 0, 0, 0, 0) := rfl
theorem zk_93_100 : zc 93 100 = some (.iadd, 0, 0, 0, 0) := rfl
theorem zk_93_101 : zc 93 101 = some (.putfield 202, 2, 5, 0, 121) := rfl
theorem zk_93_104 : zc 93 104 = some (.aload_n 0, 0, 0, 0, 0) := rfl
theorem zk_93_105 : zc 93 105 = some (.getfield 10, 10, 0, 0, 91) := rfl
theorem zk_93_108 : zc 93 108 = some (.getfield 202, 2, 5, 0, 121) := rfl
theorem zk_93_111 : zc 93 111 = some (.iconst 1, 0, 0, 0, 0) := rfl
theorem zk_93_112 : zc 93 112 = some (.isub, 0, 0, 0, 0) := rfl
theorem zk_93_113 : zc 93 113 = some (.ireturn, 0, 0, 0, 0) := rfl
theorem zk_94_0 : zc 94 0 = some (.aload_n 0, 0, 0, 0, 0) := rfl
theorem zk_94_1 : zc 94 1 = some (.getfield 39, 10, 7, 0, 97) := rfl
theorem zk_94_4 : zc 94 4 = some (.ireturn, 0, 0, 0, 0) := rfl
theorem zk_95_0 : zc 95 0 = some (.iload_n 1, 0, 0, 0, 0) := rfl
theorem zk_95_1 : zc 95 1 = some (.iconst 0, 0, 0, 0, 0) := rfl
theorem zk_95_2 : zc 95 2 = some (.aload_n 0, 0, 0, 0, 0) := rfl
theorem zk_95_3 : zc 95 3 = some (.getfield 10, 10, 0, 0, 91) := rfl
theorem zk_95_6 : zc 95 6 = some (.getfield 202, 2, 5, 0, 121) := rfl
theorem zk_95_9 : zc 95 9 = some (.iconst 1, 0, 0, 0, 0) := rfl
theorem zk_95_10 : zc 95 10 = some (.isub, 0, 0, 0, 0) := rfl
theorem zk_95_11 : zc 95 11 = some (.invokestatic 52, 114, 1, 3, 89) := rfl
theorem zk_95_14 : zc 95 14 = some (.ifCond .ne 9, 23, 0, 0, 0) := rfl
theorem zk_95_17 : zc 95 17 = some (.aload_n 0, 0, 0, 0, 0) := rfl
theorem zk_95_18 : zc 95 18 = some (.iconst (-1), 0, 0, 0, 0) := rfl
theorem zk_95_19 : zc 95 19 = some (.invokevirtual 48, 113, 0, 2, 88) := rfl
theorem zk_95_22 : zc 95 22 = some (.ireturn, 0, 0, 0, 0) := rfl
theorem zk_95_23 : zc 95 23 = some (.aload_n 0, 0, 0, 0, 0) := rfl
theorem zk_95_24 : zc 95 24 = some (.getfield 10, 10, 0, 0, 91) := rfl
theorem zk_95_27 : zc 95 27 = some (.getfield 205, 2, 2, 0, 122) := rfl
theorem zk_95_30 : zc 95 30 = some (.iload_n 1, 0, 0, 0, 0) := rfl
theorem zk_95_31 : zc 95 31 = some (.aaload, 0, 0, 0, 0) := rfl
theorem zk_95_32 : zc 95 32 = some (.getfield 219, 5, 1, 0, 124) := rfl
theorem zk_95_35 : zc 95 35 = some (.istore_n 3, 0, 0, 0, 0) := rfl
theorem zk_95_36 : zc 95 36 = some (.aload_n 0, 0, 0, 0, 0) := rfl
theorem zk_95_37 : zc 95 37 = some (.getfield 10, 10, 0, 0, 91) := rfl
theorem zk_95_40 : zc 95 40 = some (.getfield 205, 2, 2, 0, 122) := rfl
theorem zk_95_43 : zc 95 43 = some (.iload_n 1, 0, 0, 0, 0) := rfl
theorem zk_95_44 : zc 95 44 = some (.aaload, 0, 0, 0, 0) := rfl
theorem zk_95_45 : zc 95 45 = some (.iload_n 2, 0, 0, 0, 0) := rfl
theorem zk_95_46 : zc 95 46 = some (.putfield 219, 5, 1, 0, 124) := rfl
theorem zk_95_49 : zc 95 49 = some (.iload_n 3, 0, 0, 0, 0) := rfl
theorem zk_95_50 : zc 95 50 = some (.iload_n 2, 0, 0, 0, 0) := rfl
theorem zk_95_51 : zc 95 51 = some (.if_icmp .ne 7, 58, 0, 0, 0) := rfl
theorem zk_95_54 : zc 95 54 = some (.iconst 0, 0, 0, 0, 0) := rfl
theorem zk_95_55 : zc 95 55 = some (.goto 4, 59, 0, 0, 0) := rfl
theorem zk_95_58 : zc 95 58 = some (.iconst 1, 0, 0, 0, 0) := rfl
theorem zk_95_59 : zc 95 59 = some (.ireturn, 0, 0, 0, 0) := rfl
theorem zk_96_0 : zc 96 0 = some (.iload_n 1, 0, 0, 0, 0) := rfl
theorem zk_96_1 : zc 96 1 = some (.iconst 0, 0, 0, 0, 0) := rfl
theorem zk_96_2 : zc 96 2 = some (.aload_n 0, 0, 0, 0, 0) := rfl
theorem zk_96_3 : zc 96 3 = some (.getfield 10, 10, 0, 0, 91) := rfl
theorem zk_96_6 : zc 96 6 = some (.getfield 202, 2, 5, 0, 121) := rfl
theorem zk_96_9 : zc 96 9 = some (.iconst 1, 0, 0, 0, 0) := rfl
theorem zk_96_10 : zc 96 10 = some (.isub, 0, 0, 0, 0) := rfl
theorem zk_96_11 : zc 96 11 = some (.invokestatic 52, 114, 1, 3, 89) := rfl
theorem zk_96_14 : zc 96 14 = some (.ifCond .ne 5, 19, 0, 0, 0) := rfl
theorem zk_96_17 : zc 96 17 = some (.iconst (-1), 0, 0, 0, 0) := rfl
theorem zk_96_18 : zc 96 18 = some (.ireturn, 0, 0, 0, 0) := rfl
theorem zk_96_19 : zc 96 19 = some (.aload_n 0, 0, 0, 0, 0) := rfl
theorem zk_96_20 : zc 96 20 = some (.getfield 10, 10, 0, 0, 91) := rfl
theorem zk_96_23 : zc 96 23 = some (.invokevirtual 223, 11, 0, 1, 108) := rfl
theorem zk_96_26 : zc 96 26 = some (.aload_n 0, 0, 0, 0, 0) := rfl
theorem zk_96_27 : zc 96 27 = some (.getfield 10, 10, 0, 0, 91) := rfl
theorem zk_96_30 : zc 96 30 = some (.getfield 205, 2, 2, 0, 122) := rfl
theorem zk_96_33 : zc 96 33 = some (.iload_n 1, 0, 0, 0, 0) := rfl
theorem zk_96_34 : zc 96 34 = some (.aaload, 0, 0, 0, 0) := rfl
theorem zk_96_35 : zc 96 35 = some (.aload_n 0, 0, 0, 0, 0) := rfl
theorem zk_96_36 : zc 96 36 = some (.getfield 10, 10, 0, 0, 91) := rfl
theorem zk_96_39 : zc 96 39 = some (.getfield 226, 2, 18, 0, 125) := rfl
theorem zk_96_42 : zc 96 42 = some (.invokevirtual 229, 44, 0, 2, 109) := rfl
theorem zk_96_45 : zc 96 45 = some (.ifCond .eq 7, 52, 0, 0, 0) := rfl
theorem zk_96_48 : zc 96 48 = some (.iconst 1, 0, 0, 0, 0) := rfl
theorem zk_96_49 : zc 96 49 = some (.goto 4, 53, 0, 0, 0) := rfl
theorem zk_96_52 : zc 96 52 = some (.iconst 0, 0, 0, 0, 0) := rfl
theorem zk_96_53 : zc 96 53 = some (.ireturn, 0, 0, 0, 0) := rfl
def MLw (t i k j : Nat) : Prop := (29 ≤ t ∧ t ≤ 32) ∨ t = 28 ∨ (t = 0 ∧ j = 7) ∨ (i = 0 ∧ t = 1 ∧ j = 5) ∨ (i = 0 ∧ (t = 23 ∨ t = 24))
theorem nMLw { t i k j : Nat} (hb : decide (((29 ≤ t ∧ t ≤ 32) ∨ t = 28 ∨ (t = 0 ∧ j = 7) ∨ (t = 1 ∧ j = 5) ∨ (t = 23 ∨ t = 24))) = false) : ¬ MLw  t i k j := fun h => of_decide_eq_false hb (by unfold MLw at h; omega)
theorem pMLw { t i k j : Nat} (hb : decide (((29 ≤ t ∧ t ≤ 32) ∨ t = 28 ∨ (t = 0 ∧ j = 7))) = true) : MLw  t i k j := by
  have h := of_decide_eq_true hb
  unfold MLw
  omega
def MIg (t i k j : Nat) : Prop := (i = 1 ∧ 1 ≤ t ∧ t ≤ 26) ∨ (t = 0 ∧ j = 3)
theorem nMIg { t i k j : Nat} (hb : decide (((1 ≤ t ∧ t ≤ 26) ∨ (t = 0 ∧ j = 3))) = false) : ¬ MIg  t i k j := fun h => of_decide_eq_false hb (by unfold MIg at h; omega)
theorem pMIg { t i k j : Nat} (hb : decide ((t = 0 ∧ j = 3)) = true) : MIg  t i k j := by
  have h := of_decide_eq_true hb
  unfold MIg
  omega
theorem sb55_1cb7d30 : ∀ t i k j, MI 0 28 28 28 28 t i k j → MI 0 3 28 28 28 t i k j := by
  intro t i k j h
  unfold MI at h
  unfold MI
  omega
/-- W.depth -/
theorem w_75 {xs : Nat × (Nat → Int32)} (p0 : Int) (p1 : Int) (hp0 : -2147483648 ≤ p0 ∧ p0 ≤ 2147483647) (hp1 : -2147483648 ≤ p1 ∧ p1 ≤ 2147483647) (σ : ZS) (hI : Inv σ)   : CT xs 3 75 [av 0 0 0, iv p0, iv p1] σ (fun v σ' => ∃ y, v = some (iv y) ∧ (-2147483648 ≤ y ∧ y ≤ 2147483647) ∧ IF (MI 0 3 28 28 28) σ σ' ∧ (True)) := by
  refine G_ct (J := (fun σ' => IF (MI 0 3 28 28 28) σ σ' ∧ True)) (L := [(0, av 0 0 0), (1, iv p0), (2, iv p1)]) (nL := 4) rfl rfl rfl ⟨IF.rf hI, trivial⟩ ?_
  refine T_ld zk_75_0 rfl rfl rfl (pc' := 1) rfl ?_
  refine T_calli (K := fun y1 σ' => ((y1 = 0 ∧ (p0 < 0 ∨ 24 < p0)) ∨ (y1 = 1 ∧ 0 ≤ p0 ∧ p0 ≤ 24)) ∧ (fun σ' => IF (MI 0 3 28 28 28) σ σ' ∧ True) σ') (r := []) zk_75_1 rfl rfl rfl rfl rfl rfl (Or.inl (Or.inl rfl)) (fun σ' h => (w_115 p0 (by omega) σ' h.1.1 ).le (Nat.le_of_ble_eq_true rfl) (fun v σ2 ⟨y, h1, h2, h3, h4⟩ => ⟨y, h1, h2, h.1.tr h3 MN_sub, trivial⟩)) (pc' := 4) rfl (fun y1 => ?_)
  refine G_ex (fun hy1 => ?_)
  refine T_if_ne zk_75_4 (by omega) (pc' := 7) rfl (fun h2 => ?_) (fun h3 => ?_)
  ·
    refine T_ld zk_75_13 rfl rfl rfl (pc' := 14) rfl ?_
    refine T_op zk_75_14 rfl X_ic (pc' := 15) rfl ?_
    refine T_op zk_75_15 rfl (X_bi (v := 60) (by decide)) (pc' := 17) rfl ?_
    refine T_calli (K := fun y4 σ' => ((y4 = 0 ∧ (p1 < 0 ∨ 60 < p1)) ∨ (y4 = 1 ∧ 0 ≤ p1 ∧ p1 ≤ 60)) ∧ (fun σ' => IF (MI 0 3 28 28 28) σ σ' ∧ True) σ') (r := []) zk_75_17 rfl rfl rfl rfl rfl rfl (Or.inl (Or.inl rfl)) (fun σ' h => (w_114 p1 0 60 (by omega) (by omega) (by omega) σ' h.1.1 ).le (Nat.le_of_ble_eq_true rfl) (fun v σ2 ⟨y, h1, h2, h3, h4⟩ => ⟨y, h1, h2, h.1.tr h3 MN_sub, trivial⟩)) (pc' := 20) rfl (fun y4 => ?_)
    refine G_ex (fun hy4 => ?_)
    refine T_if_ne zk_75_20 (by omega) (pc' := 23) rfl (fun h5 => ?_) (fun h6 => ?_)
    ·
      refine T_ld zk_75_30 rfl rfl rfl (pc' := 31) rfl ?_
      refine T_getR (t' := 1) (i' := 0) (k' := 0) zk_75_31 rfl rfl rfl vd_0 (pc' := 34) rfl ?_
      refine T_getR (t' := 2) (i' := 0) (k' := 0) zk_75_34 rfl rfl rfl (vd_1 (by omega)) (pc' := 37) rfl ?_
      refine T_getR (t' := 3) (i' := 0) (k' := 0) zk_75_37 rfl rfl rfl (vd_2 (by omega)) (pc' := 40) rfl ?_
      refine T_ld zk_75_40 rfl rfl rfl (pc' := 41) rfl ?_
      refine G_iald (lo := -2147483648) (hi := 2147483647) (ln := 25) zk_75_41 rfl rfl (vd_3 (by omega)) (by omega) (by omega) (by omega) (fun σ' h => h.1.1) (fun _ h => (by have q := h.1; omega)) (pc' := 42) rfl (fun y7 hy7 hy7' => ?_)
      refine T_st (L' := [(0, av 0 0 0), (1, iv p0), (2, iv p1), (3, iv y7)]) zk_75_42 (nL := 4) rfl rfl rfl rfl rfl (pc' := 43) rfl ?_
      refine T_ld zk_75_43 rfl rfl rfl (pc' := 44) rfl ?_
      refine T_getR (t' := 1) (i' := 0) (k' := 0) zk_75_44 rfl rfl rfl vd_0 (pc' := 47) rfl ?_
      refine T_getR (t' := 2) (i' := 0) (k' := 0) zk_75_47 rfl rfl rfl (vd_1 (by omega)) (pc' := 50) rfl ?_
      refine T_getR (t' := 3) (i' := 0) (k' := 0) zk_75_50 rfl rfl rfl (vd_2 (by omega)) (pc' := 53) rfl ?_
      refine T_ld zk_75_53 rfl rfl rfl (pc' := 54) rfl ?_
      refine T_ld zk_75_54 rfl rfl rfl (pc' := 55) rfl ?_
      refine G_iast (J' := (fun σ' => IF (MI 0 3 28 28 28) σ σ' ∧ True)) (ln := 25) zk_75_55 rfl rfl (vd_3 (by omega)) (by omega) (by omega) (by omega) (fun σ' h => ⟨h.1.up ⟨by omega, trivial⟩ (by unfold MI; omega), trivial⟩) (pc' := 56) rfl ?_
      refine T_ld zk_75_56 rfl rfl rfl (pc' := 57) rfl ?_
      exact T_iret zk_75_57 rfl (fun σ' h => ⟨_, rfl, (by omega), h.1, trivial⟩)
    ·
      refine T_ld zk_75_23 rfl rfl rfl (pc' := 24) rfl ?_
      refine T_op zk_75_24 rfl (X_bi (v := -6) (by decide)) (pc' := 26) rfl ?_
      refine T_calli (K := fun y8 σ' => (y8 = (-6)) ∧ (fun σ' => IF (MI 0 3 28 28 28) σ σ' ∧ True) σ') (r := []) zk_75_26 rfl rfl rfl rfl rfl rfl (Or.inr ⟨_, _, _, _, rfl, vd_0, rfl⟩) (fun σ' h => (w_113 ((-6)) (by omega) σ' h.1.1 ).le (Nat.le_of_ble_eq_true rfl) (fun v σ2 ⟨y, h1, h2, h3, h4⟩ => ⟨y, h1, h2, h.1.tr h3 sb55_1cb7d30, trivial⟩)) (pc' := 29) rfl (fun y8 => ?_)
      refine G_ex (fun hy8 => ?_)
      obtain rfl : y8 = (-6) := by omega
      exact T_iret zk_75_29 rfl (fun σ' h => ⟨_, rfl, (by omega), h.1, trivial⟩)
  ·
    refine T_ld zk_75_7 rfl rfl rfl (pc' := 8) rfl ?_
    refine T_op zk_75_8 rfl X_ic (pc' := 9) rfl ?_
    refine T_calli (K := fun y9 σ' => (y9 = (-1)) ∧ (fun σ' => IF (MI 0 3 28 28 28) σ σ' ∧ True) σ') (r := []) zk_75_9 rfl rfl rfl rfl rfl rfl (Or.inr ⟨_, _, _, _, rfl, vd_0, rfl⟩) (fun σ' h => (w_113 ((-1)) (by omega) σ' h.1.1 ).le (Nat.le_of_ble_eq_true rfl) (fun v σ2 ⟨y, h1, h2, h3, h4⟩ => ⟨y, h1, h2, h.1.tr h3 sb55_1cb7d30, trivial⟩)) (pc' := 12) rfl (fun y9 => ?_)
    refine G_ex (fun hy9 => ?_)
    obtain rfl : y9 = (-1) := by omega
    exact T_iret zk_75_12 rfl (fun σ' h => ⟨_, rfl, (by omega), h.1, trivial⟩)
theorem sb55_4df5ca2 : ∀ t i k j, MI 0 28 28 28 28 t i k j → MC 16 17 4 t i k j := by
  intro t i k j h
  unfold MI at h
  unfold MC
  omega
/-- W.level -/
theorem w_76 {xs : Nat × (Nat → Int32)} (p0 : Int) (p1 : Int) (hp0 : -2147483648 ≤ p0 ∧ p0 ≤ 2147483647) (hp1 : -2147483648 ≤ p1 ∧ p1 ≤ 2147483647) (σ : ZS) (hI : Inv σ)   : CT xs 3 76 [av 0 0 0, iv p0, iv p1] σ (fun v σ' => ∃ y, v = some (iv y) ∧ (-2147483648 ≤ y ∧ y ≤ 2147483647) ∧ IF (MC 16 17 4) σ σ' ∧ (True)) := by
  refine G_ct (J := (fun σ' => IF (MC 16 17 4) σ σ' ∧ True)) (L := [(0, av 0 0 0), (1, iv p0), (2, iv p1)]) (nL := 4) rfl rfl rfl ⟨IF.rf hI, trivial⟩ ?_
  refine T_ld zk_76_0 rfl rfl rfl (pc' := 1) rfl ?_
  refine T_calli (K := fun y1 σ' => ((y1 = 0 ∧ (p0 < 0 ∨ 24 < p0)) ∨ (y1 = 1 ∧ 0 ≤ p0 ∧ p0 ≤ 24)) ∧ (fun σ' => IF (MC 16 17 4) σ σ' ∧ True) σ') (r := []) zk_76_1 rfl rfl rfl rfl rfl rfl (Or.inl (Or.inl rfl)) (fun σ' h => (w_115 p0 (by omega) σ' h.1.1 ).le (Nat.le_of_ble_eq_true rfl) (fun v σ2 ⟨y, h1, h2, h3, h4⟩ => ⟨y, h1, h2, h.1.tr h3 MN_sub, trivial⟩)) (pc' := 4) rfl (fun y1 => ?_)
  refine G_ex (fun hy1 => ?_)
  refine T_if_ne zk_76_4 (by omega) (pc' := 7) rfl (fun h2 => ?_) (fun h3 => ?_)
  ·
    refine T_ld zk_76_13 rfl rfl rfl (pc' := 14) rfl ?_
    refine T_op zk_76_14 rfl (X_si (v := -300) (by decide)) (pc' := 17) rfl ?_
    refine T_op zk_76_17 rfl (X_si (v := 300) (by decide)) (pc' := 20) rfl ?_
    refine T_calli (K := fun y4 σ' => ((y4 = 0 ∧ (p1 < (-300) ∨ 300 < p1)) ∨ (y4 = 1 ∧ (-300) ≤ p1 ∧ p1 ≤ 300)) ∧ (fun σ' => IF (MC 16 17 4) σ σ' ∧ True) σ') (r := []) zk_76_20 rfl rfl rfl rfl rfl rfl (Or.inl (Or.inl rfl)) (fun σ' h => (w_114 p1 ((-300)) 300 (by omega) (by omega) (by omega) σ' h.1.1 ).le (Nat.le_of_ble_eq_true rfl) (fun v σ2 ⟨y, h1, h2, h3, h4⟩ => ⟨y, h1, h2, h.1.tr h3 MN_sub, trivial⟩)) (pc' := 23) rfl (fun y4 => ?_)
    refine G_ex (fun hy4 => ?_)
    refine T_if_ne zk_76_23 (by omega) (pc' := 26) rfl (fun h5 => ?_) (fun h6 => ?_)
    ·
      refine T_ld zk_76_33 rfl rfl rfl (pc' := 34) rfl ?_
      refine T_getR (t' := 1) (i' := 0) (k' := 0) zk_76_34 rfl rfl rfl vd_0 (pc' := 37) rfl ?_
      refine T_getR (t' := 2) (i' := 0) (k' := 0) zk_76_37 rfl rfl rfl (vd_1 (by omega)) (pc' := 40) rfl ?_
      refine T_getR (t' := 4) (i' := 0) (k' := 0) zk_76_40 rfl rfl rfl (vd_2 (by omega)) (pc' := 43) rfl ?_
      refine T_ld zk_76_43 rfl rfl rfl (pc' := 44) rfl ?_
      refine G_iald (lo := -2147483648) (hi := 2147483647) (ln := 25) zk_76_44 rfl rfl (vd_4 (by omega)) (by omega) (by omega) (by omega) (fun σ' h => h.1.1) (fun _ h => (by have q := h.1; omega)) (pc' := 45) rfl (fun y7 hy7 hy7' => ?_)
      refine T_st (L' := [(0, av 0 0 0), (1, iv p0), (2, iv p1), (3, iv y7)]) zk_76_45 (nL := 4) rfl rfl rfl rfl rfl (pc' := 46) rfl ?_
      refine T_ld zk_76_46 rfl rfl rfl (pc' := 47) rfl ?_
      refine T_getR (t' := 1) (i' := 0) (k' := 0) zk_76_47 rfl rfl rfl vd_0 (pc' := 50) rfl ?_
      refine T_getR (t' := 2) (i' := 0) (k' := 0) zk_76_50 rfl rfl rfl (vd_1 (by omega)) (pc' := 53) rfl ?_
      refine T_getR (t' := 4) (i' := 0) (k' := 0) zk_76_53 rfl rfl rfl (vd_2 (by omega)) (pc' := 56) rfl ?_
      refine T_ld zk_76_56 rfl rfl rfl (pc' := 57) rfl ?_
      refine T_ld zk_76_57 rfl rfl rfl (pc' := 58) rfl ?_
      refine G_iast (J' := (fun σ' => IF (MC 16 17 4) σ σ' ∧ True)) (ln := 25) zk_76_58 rfl rfl (vd_4 (by omega)) (by omega) (by omega) (by omega) (fun σ' h => ⟨h.1.up ⟨by omega, trivial⟩ (by first | exact pMC rfl | (unfold MC; omega)), trivial⟩) (pc' := 59) rfl ?_
      refine T_ld zk_76_59 rfl rfl rfl (pc' := 60) rfl ?_
      refine T_getR (t' := 1) (i' := 0) (k' := 0) zk_76_60 rfl rfl rfl vd_0 (pc' := 63) rfl ?_
      refine T_op (st' := [av 1 0 0, av 1 0 0]) zk_76_63 rfl rfl (pc' := 64) rfl ?_
      refine G_getf (lo := -2147483648) (hi := 2147483647) zk_76_64 rfl (vd_1 (by omega)) (fun σ' h => h.1.1) (fun _ h => (by have q := h.1; omega)) (pc' := 67) rfl (fun y8 hy8 hy8' => ?_)
      refine T_ld zk_76_67 rfl rfl rfl (pc' := 68) rfl ?_
      refine T_ld zk_76_68 rfl rfl rfl (pc' := 69) rfl ?_
      refine G_unk zk_76_69 rfl (pc' := 70) rfl (fun y9 hy9 hy9' => ?_)
      refine G_unk zk_76_70 rfl (pc' := 71) rfl (fun y10 hy10 hy10' => ?_)
      refine T_putf (J' := (fun σ' => IF (MC 16 17 4) σ σ' ∧ σ' 1 0 0 16 = y10 ∧ True)) zk_76_71 rfl rfl (vd_1 (by omega)) (fun σ' h => ⟨h.1.up (by simp only [rgP] <;> omega) (by first | exact pMC rfl | (unfold MC; omega)), up_eq, trivial⟩) (pc' := 74) rfl ?_
      refine T_ld zk_76_74 rfl rfl rfl (pc' := 75) rfl ?_
      exact T_iret zk_76_75 rfl (fun σ' h => ⟨_, rfl, (by omega), h.1, trivial⟩)
    ·
      refine T_ld zk_76_26 rfl rfl rfl (pc' := 27) rfl ?_
      refine T_op zk_76_27 rfl (X_bi (v := -6) (by decide)) (pc' := 29) rfl ?_
      refine T_calli (K := fun y11 σ' => (y11 = (-6)) ∧ (fun σ' => IF (MC 16 17 4) σ σ' ∧ True) σ') (r := []) zk_76_29 rfl rfl rfl rfl rfl rfl (Or.inr ⟨_, _, _, _, rfl, vd_0, rfl⟩) (fun σ' h => (w_113 ((-6)) (by omega) σ' h.1.1 ).le (Nat.le_of_ble_eq_true rfl) (fun v σ2 ⟨y, h1, h2, h3, h4⟩ => ⟨y, h1, h2, h.1.tr h3 sb55_4df5ca2, trivial⟩)) (pc' := 32) rfl (fun y11 => ?_)
      refine G_ex (fun hy11 => ?_)
      obtain rfl : y11 = (-6) := by omega
      exact T_iret zk_76_32 rfl (fun σ' h => ⟨_, rfl, (by omega), h.1, trivial⟩)
  ·
    refine T_ld zk_76_7 rfl rfl rfl (pc' := 8) rfl ?_
    refine T_op zk_76_8 rfl X_ic (pc' := 9) rfl ?_
    refine T_calli (K := fun y12 σ' => (y12 = (-1)) ∧ (fun σ' => IF (MC 16 17 4) σ σ' ∧ True) σ') (r := []) zk_76_9 rfl rfl rfl rfl rfl rfl (Or.inr ⟨_, _, _, _, rfl, vd_0, rfl⟩) (fun σ' h => (w_113 ((-1)) (by omega) σ' h.1.1 ).le (Nat.le_of_ble_eq_true rfl) (fun v σ2 ⟨y, h1, h2, h3, h4⟩ => ⟨y, h1, h2, h.1.tr h3 sb55_4df5ca2, trivial⟩)) (pc' := 12) rfl (fun y12 => ?_)
    refine G_ex (fun hy12 => ?_)
    obtain rfl : y12 = (-1) := by omega
    exact T_iret zk_76_12 rfl (fun σ' h => ⟨_, rfl, (by omega), h.1, trivial⟩)
theorem sb55_60a95d4 : ∀ t i k j, MI 0 8 8 8 8 t i k j → MI 0 8 28 28 28 t i k j := by
  intro t i k j h
  unfold MI at h
  unfold MI
  omega
theorem sb55_9cdd6ba : ∀ t i k j, MI 0 28 28 28 28 t i k j → MI 0 8 28 28 28 t i k j := by
  intro t i k j h
  unfold MI at h
  unfold MI
  omega
/-- W.close -/
theorem w_77 {xs : Nat × (Nat → Int32)} (p0 : Int) (p1 : Int) (p2 : Int) (hp0 : -2147483648 ≤ p0 ∧ p0 ≤ 2147483647) (hp1 : -2147483648 ≤ p1 ∧ p1 ≤ 2147483647) (hp2 : 0 ≤ p2 ∧ p2 ≤ 1) (σ : ZS) (hI : Inv σ)   : CT xs 3 77 [av 0 0 0, iv p0, iv p1, iv p2] σ (fun v σ' => ∃ y, v = some (iv y) ∧ (-2147483648 ≤ y ∧ y ≤ 2147483647) ∧ IF (MI 0 8 28 28 28) σ σ' ∧ (True)) := by
  refine G_ct (J := (fun σ' => IF (MI 0 8 28 28 28) σ σ' ∧ True)) (L := [(0, av 0 0 0), (1, iv p0), (2, iv p1), (3, iv p2)]) (nL := 5) rfl rfl rfl ⟨IF.rf hI, trivial⟩ ?_
  refine T_ld zk_77_0 rfl rfl rfl (pc' := 1) rfl ?_
  refine T_ld zk_77_1 rfl rfl rfl (pc' := 2) rfl ?_
  refine T_calli (K := fun y1 σ' => ((y1 = -1 ∧ ¬ (0 ≤ p0 ∧ p0 ≤ 24 ∧ 0 ≤ p1 ∧ p1 ≤ 24 ∧ (p1 = p0 + 5 ∨ p0 = p1 + 5 ∨ (p1 = p0 + 1 ∧ p0 % 5 < 4) ∨ (p0 = p1 + 1 ∧ p1 % 5 < 4)))) ∨ (0 ≤ y1 ∧ y1 ≤ 39 ∧ (0 ≤ p0 ∧ p0 ≤ 24 ∧ 0 ≤ p1 ∧ p1 ≤ 24 ∧ (p1 = p0 + 5 ∨ p0 = p1 + 5 ∨ (p1 = p0 + 1 ∧ p0 % 5 < 4) ∨ (p0 = p1 + 1 ∧ p1 % 5 < 4))))) ∧ (fun σ' => IF (MI 0 8 28 28 28) σ σ' ∧ True) σ') (r := []) zk_77_2 rfl rfl rfl rfl rfl rfl (Or.inl (Or.inl rfl)) (fun σ' h => (w_30 p0 p1 (by omega) (by omega) σ' h.1.1 ).le (Nat.le_of_ble_eq_true rfl) (fun v σ2 ⟨y, h1, h2, h3, h4⟩ => ⟨y, h1, h2, h.1.tr h3 MN_sub, trivial⟩)) (pc' := 5) rfl (fun y1 => ?_)
  refine G_ex (fun hy1 => ?_)
  refine T_st (L' := [(0, av 0 0 0), (1, iv p0), (2, iv p1), (3, iv p2), (4, iv y1)]) zk_77_5 (nL := 5) rfl rfl rfl rfl rfl (pc' := 7) rfl ?_
  refine T_ld zk_77_7 rfl rfl rfl (pc' := 9) rfl ?_
  refine T_op zk_77_9 rfl X_ic (pc' := 10) rfl ?_
  refine T_icmp_ne zk_77_10 (by omega) (by omega) (pc' := 13) rfl (fun h2 => ?_) (fun h3 => ?_)
  ·
    refine T_ld zk_77_19 rfl rfl rfl (pc' := 20) rfl ?_
    refine T_getR (t' := 1) (i' := 0) (k' := 0) zk_77_20 rfl rfl rfl vd_0 (pc' := 23) rfl ?_
    refine T_getR (t' := 2) (i' := 0) (k' := 0) zk_77_23 rfl rfl rfl (vd_1 (by omega)) (pc' := 26) rfl ?_
    refine T_getR (t' := 8) (i' := 0) (k' := 0) zk_77_26 rfl rfl rfl (vd_2 (by omega)) (pc' := 29) rfl ?_
    refine T_ld zk_77_29 rfl rfl rfl (pc' := 31) rfl ?_
    refine T_ld zk_77_31 rfl rfl rfl (pc' := 32) rfl ?_
    refine T_calli (K := fun y4 σ' => (y4 = 0 ∨ y4 = 1) ∧ (fun σ' => IF (MI 0 8 28 28 28) σ σ' ∧ True) σ') (r := []) zk_77_32 rfl rfl rfl rfl rfl rfl (Or.inl (Or.inl rfl)) (fun σ' h => (w_121_8 y1 p2 (by omega) (by omega) σ' h.1.1 ).le (Nat.le_of_ble_eq_true rfl) (fun v σ2 ⟨y, h1, h2, h3, h4⟩ => ⟨y, h1, h2, h.1.tr h3 sb55_60a95d4, trivial⟩)) (pc' := 35) rfl (fun y4 => ?_)
    refine G_ex (fun hy4 => ?_)
    exact T_iret zk_77_35 rfl (fun σ' h => ⟨_, rfl, (by omega), h.1, trivial⟩)
  ·
    refine T_ld zk_77_13 rfl rfl rfl (pc' := 14) rfl ?_
    refine T_op zk_77_14 rfl X_ic (pc' := 15) rfl ?_
    refine T_calli (K := fun y5 σ' => (y5 = (-1)) ∧ (fun σ' => IF (MI 0 8 28 28 28) σ σ' ∧ True) σ') (r := []) zk_77_15 rfl rfl rfl rfl rfl rfl (Or.inr ⟨_, _, _, _, rfl, vd_0, rfl⟩) (fun σ' h => (w_113 ((-1)) (by omega) σ' h.1.1 ).le (Nat.le_of_ble_eq_true rfl) (fun v σ2 ⟨y, h1, h2, h3, h4⟩ => ⟨y, h1, h2, h.1.tr h3 sb55_9cdd6ba, trivial⟩)) (pc' := 18) rfl (fun y5 => ?_)
    refine G_ex (fun hy5 => ?_)
    obtain rfl : y5 = (-1) := by omega
    exact T_iret zk_77_18 rfl (fun σ' h => ⟨_, rfl, (by omega), h.1, trivial⟩)
theorem sb55_a0bf510 : ∀ t i k j, MI 0 9 9 9 9 t i k j → MI 0 9 28 28 28 t i k j := by
  intro t i k j h
  unfold MI at h
  unfold MI
  omega
theorem sb55_3844ba7 : ∀ t i k j, MI 0 28 28 28 28 t i k j → MI 0 9 28 28 28 t i k j := by
  intro t i k j h
  unfold MI at h
  unfold MI
  omega
/-- W.narrow -/
theorem w_78 {xs : Nat × (Nat → Int32)} (p0 : Int) (p1 : Int) (p2 : Int) (hp0 : -2147483648 ≤ p0 ∧ p0 ≤ 2147483647) (hp1 : -2147483648 ≤ p1 ∧ p1 ≤ 2147483647) (hp2 : 0 ≤ p2 ∧ p2 ≤ 1) (σ : ZS) (hI : Inv σ)   : CT xs 3 78 [av 0 0 0, iv p0, iv p1, iv p2] σ (fun v σ' => ∃ y, v = some (iv y) ∧ (-2147483648 ≤ y ∧ y ≤ 2147483647) ∧ IF (MI 0 9 28 28 28) σ σ' ∧ (True)) := by
  refine G_ct (J := (fun σ' => IF (MI 0 9 28 28 28) σ σ' ∧ True)) (L := [(0, av 0 0 0), (1, iv p0), (2, iv p1), (3, iv p2)]) (nL := 5) rfl rfl rfl ⟨IF.rf hI, trivial⟩ ?_
  refine T_ld zk_78_0 rfl rfl rfl (pc' := 1) rfl ?_
  refine T_ld zk_78_1 rfl rfl rfl (pc' := 2) rfl ?_
  refine T_calli (K := fun y1 σ' => ((y1 = -1 ∧ ¬ (0 ≤ p0 ∧ p0 ≤ 24 ∧ 0 ≤ p1 ∧ p1 ≤ 24 ∧ (p1 = p0 + 5 ∨ p0 = p1 + 5 ∨ (p1 = p0 + 1 ∧ p0 % 5 < 4) ∨ (p0 = p1 + 1 ∧ p1 % 5 < 4)))) ∨ (0 ≤ y1 ∧ y1 ≤ 39 ∧ (0 ≤ p0 ∧ p0 ≤ 24 ∧ 0 ≤ p1 ∧ p1 ≤ 24 ∧ (p1 = p0 + 5 ∨ p0 = p1 + 5 ∨ (p1 = p0 + 1 ∧ p0 % 5 < 4) ∨ (p0 = p1 + 1 ∧ p1 % 5 < 4))))) ∧ (fun σ' => IF (MI 0 9 28 28 28) σ σ' ∧ True) σ') (r := []) zk_78_2 rfl rfl rfl rfl rfl rfl (Or.inl (Or.inl rfl)) (fun σ' h => (w_30 p0 p1 (by omega) (by omega) σ' h.1.1 ).le (Nat.le_of_ble_eq_true rfl) (fun v σ2 ⟨y, h1, h2, h3, h4⟩ => ⟨y, h1, h2, h.1.tr h3 MN_sub, trivial⟩)) (pc' := 5) rfl (fun y1 => ?_)
  refine G_ex (fun hy1 => ?_)
  refine T_st (L' := [(0, av 0 0 0), (1, iv p0), (2, iv p1), (3, iv p2), (4, iv y1)]) zk_78_5 (nL := 5) rfl rfl rfl rfl rfl (pc' := 7) rfl ?_
  refine T_ld zk_78_7 rfl rfl rfl (pc' := 9) rfl ?_
  refine T_op zk_78_9 rfl X_ic (pc' := 10) rfl ?_
  refine T_icmp_ne zk_78_10 (by omega) (by omega) (pc' := 13) rfl (fun h2 => ?_) (fun h3 => ?_)
  ·
    refine T_ld zk_78_19 rfl rfl rfl (pc' := 20) rfl ?_
    refine T_getR (t' := 1) (i' := 0) (k' := 0) zk_78_20 rfl rfl rfl vd_0 (pc' := 23) rfl ?_
    refine T_getR (t' := 2) (i' := 0) (k' := 0) zk_78_23 rfl rfl rfl (vd_1 (by omega)) (pc' := 26) rfl ?_
    refine T_getR (t' := 9) (i' := 0) (k' := 0) zk_78_26 rfl rfl rfl (vd_2 (by omega)) (pc' := 29) rfl ?_
    refine T_ld zk_78_29 rfl rfl rfl (pc' := 31) rfl ?_
    refine T_ld zk_78_31 rfl rfl rfl (pc' := 32) rfl ?_
    refine T_calli (K := fun y4 σ' => (y4 = 0 ∨ y4 = 1) ∧ (fun σ' => IF (MI 0 9 28 28 28) σ σ' ∧ True) σ') (r := []) zk_78_32 rfl rfl rfl rfl rfl rfl (Or.inl (Or.inl rfl)) (fun σ' h => (w_121_9 y1 p2 (by omega) (by omega) σ' h.1.1 ).le (Nat.le_of_ble_eq_true rfl) (fun v σ2 ⟨y, h1, h2, h3, h4⟩ => ⟨y, h1, h2, h.1.tr h3 sb55_a0bf510, trivial⟩)) (pc' := 35) rfl (fun y4 => ?_)
    refine G_ex (fun hy4 => ?_)
    exact T_iret zk_78_35 rfl (fun σ' h => ⟨_, rfl, (by omega), h.1, trivial⟩)
  ·
    refine T_ld zk_78_13 rfl rfl rfl (pc' := 14) rfl ?_
    refine T_op zk_78_14 rfl X_ic (pc' := 15) rfl ?_
    refine T_calli (K := fun y5 σ' => (y5 = (-1)) ∧ (fun σ' => IF (MI 0 9 28 28 28) σ σ' ∧ True) σ') (r := []) zk_78_15 rfl rfl rfl rfl rfl rfl (Or.inr ⟨_, _, _, _, rfl, vd_0, rfl⟩) (fun σ' h => (w_113 ((-1)) (by omega) σ' h.1.1 ).le (Nat.le_of_ble_eq_true rfl) (fun v σ2 ⟨y, h1, h2, h3, h4⟩ => ⟨y, h1, h2, h.1.tr h3 sb55_3844ba7, trivial⟩)) (pc' := 18) rfl (fun y5 => ?_)
    refine G_ex (fun hy5 => ?_)
    obtain rfl : y5 = (-1) := by omega
    exact T_iret zk_78_18 rfl (fun σ' h => ⟨_, rfl, (by omega), h.1, trivial⟩)
theorem sb55_9250bf0 : ∀ t i k j, MI 0 28 28 28 28 t i k j → MI 0 7 28 28 28 t i k j := by
  intro t i k j h
  unfold MI at h
  unfold MI
  omega
/-- W.bridge -/
theorem w_79 {xs : Nat × (Nat → Int32)} (p0 : Int) (p1 : Int) (p2 : Int) (hp0 : -2147483648 ≤ p0 ∧ p0 ≤ 2147483647) (hp1 : -2147483648 ≤ p1 ∧ p1 ≤ 2147483647) (hp2 : -2147483648 ≤ p2 ∧ p2 ≤ 2147483647) (σ : ZS) (hI : Inv σ)   : CT xs 3 79 [av 0 0 0, iv p0, iv p1, iv p2] σ (fun v σ' => ∃ y, v = some (iv y) ∧ (-2147483648 ≤ y ∧ y ≤ 2147483647) ∧ IF (MI 0 7 28 28 28) σ σ' ∧ (True)) := by
  refine G_ct (J := (fun σ' => IF (MI 0 7 28 28 28) σ σ' ∧ True)) (L := [(0, av 0 0 0), (1, iv p0), (2, iv p1), (3, iv p2)]) (nL := 6) rfl rfl rfl ⟨IF.rf hI, trivial⟩ ?_
  refine T_ld zk_79_0 rfl rfl rfl (pc' := 1) rfl ?_
  refine T_ld zk_79_1 rfl rfl rfl (pc' := 2) rfl ?_
  refine T_calli (K := fun y1 σ' => ((y1 = -1 ∧ ¬ (0 ≤ p0 ∧ p0 ≤ 24 ∧ 0 ≤ p1 ∧ p1 ≤ 24 ∧ (p1 = p0 + 5 ∨ p0 = p1 + 5 ∨ (p1 = p0 + 1 ∧ p0 % 5 < 4) ∨ (p0 = p1 + 1 ∧ p1 % 5 < 4)))) ∨ (0 ≤ y1 ∧ y1 ≤ 39 ∧ (0 ≤ p0 ∧ p0 ≤ 24 ∧ 0 ≤ p1 ∧ p1 ≤ 24 ∧ (p1 = p0 + 5 ∨ p0 = p1 + 5 ∨ (p1 = p0 + 1 ∧ p0 % 5 < 4) ∨ (p0 = p1 + 1 ∧ p1 % 5 < 4))))) ∧ (fun σ' => IF (MI 0 7 28 28 28) σ σ' ∧ True) σ') (r := []) zk_79_2 rfl rfl rfl rfl rfl rfl (Or.inl (Or.inl rfl)) (fun σ' h => (w_30 p0 p1 (by omega) (by omega) σ' h.1.1 ).le (Nat.le_of_ble_eq_true rfl) (fun v σ2 ⟨y, h1, h2, h3, h4⟩ => ⟨y, h1, h2, h.1.tr h3 MN_sub, trivial⟩)) (pc' := 5) rfl (fun y1 => ?_)
  refine G_ex (fun hy1 => ?_)
  refine T_st (L' := [(0, av 0 0 0), (1, iv p0), (2, iv p1), (3, iv p2), (4, iv y1)]) zk_79_5 (nL := 6) rfl rfl rfl rfl rfl (pc' := 7) rfl ?_
  refine T_ld zk_79_7 rfl rfl rfl (pc' := 9) rfl ?_
  refine T_op zk_79_9 rfl X_ic (pc' := 10) rfl ?_
  refine T_icmp_ne zk_79_10 (by omega) (by omega) (pc' := 13) rfl (fun h2 => ?_) (fun h3 => ?_)
  ·
    refine T_ld zk_79_19 rfl rfl rfl (pc' := 20) rfl ?_
    refine T_op zk_79_20 rfl X_ic (pc' := 21) rfl ?_
    refine T_op zk_79_21 rfl (X_bi (v := 99) (by decide)) (pc' := 23) rfl ?_
    refine T_calli (K := fun y4 σ' => ((y4 = 0 ∧ (p2 < (-1) ∨ 99 < p2)) ∨ (y4 = 1 ∧ (-1) ≤ p2 ∧ p2 ≤ 99)) ∧ (fun σ' => IF (MI 0 7 28 28 28) σ σ' ∧ True) σ') (r := []) zk_79_23 rfl rfl rfl rfl rfl rfl (Or.inl (Or.inl rfl)) (fun σ' h => (w_114 p2 ((-1)) 99 (by omega) (by omega) (by omega) σ' h.1.1 ).le (Nat.le_of_ble_eq_true rfl) (fun v σ2 ⟨y, h1, h2, h3, h4⟩ => ⟨y, h1, h2, h.1.tr h3 MN_sub, trivial⟩)) (pc' := 26) rfl (fun y4 => ?_)
    refine G_ex (fun hy4 => ?_)
    refine T_if_ne zk_79_26 (by omega) (pc' := 29) rfl (fun h5 => ?_) (fun h6 => ?_)
    ·
      refine T_ld zk_79_36 rfl rfl rfl (pc' := 37) rfl ?_
      refine T_getR (t' := 1) (i' := 0) (k' := 0) zk_79_37 rfl rfl rfl vd_0 (pc' := 40) rfl ?_
      refine T_getR (t' := 2) (i' := 0) (k' := 0) zk_79_40 rfl rfl rfl (vd_1 (by omega)) (pc' := 43) rfl ?_
      refine T_getR (t' := 7) (i' := 0) (k' := 0) zk_79_43 rfl rfl rfl (vd_2 (by omega)) (pc' := 46) rfl ?_
      refine T_ld zk_79_46 rfl rfl rfl (pc' := 48) rfl ?_
      refine G_iald (lo := -2147483648) (hi := 2147483647) (ln := 40) zk_79_48 rfl rfl (vd_7 (by omega)) (by omega) (by omega) (by omega) (fun σ' h => h.1.1) (fun _ h => (by have q := h.1; omega)) (pc' := 49) rfl (fun y7 hy7 hy7' => ?_)
      refine T_st (L' := [(0, av 0 0 0), (1, iv p0), (2, iv p1), (3, iv p2), (4, iv y1), (5, iv y7)]) zk_79_49 (nL := 6) rfl rfl rfl rfl rfl (pc' := 51) rfl ?_
      refine T_ld zk_79_51 rfl rfl rfl (pc' := 52) rfl ?_
      refine T_getR (t' := 1) (i' := 0) (k' := 0) zk_79_52 rfl rfl rfl vd_0 (pc' := 55) rfl ?_
      refine T_getR (t' := 2) (i' := 0) (k' := 0) zk_79_55 rfl rfl rfl (vd_1 (by omega)) (pc' := 58) rfl ?_
      refine T_getR (t' := 7) (i' := 0) (k' := 0) zk_79_58 rfl rfl rfl (vd_2 (by omega)) (pc' := 61) rfl ?_
      refine T_ld zk_79_61 rfl rfl rfl (pc' := 63) rfl ?_
      refine T_ld zk_79_63 rfl rfl rfl (pc' := 64) rfl ?_
      refine G_iast (J' := (fun σ' => IF (MI 0 7 28 28 28) σ σ' ∧ True)) (ln := 40) zk_79_64 rfl rfl (vd_7 (by omega)) (by omega) (by omega) (by omega) (fun σ' h => ⟨h.1.up ⟨by omega, trivial⟩ (by unfold MI; omega), trivial⟩) (pc' := 65) rfl ?_
      refine T_ld zk_79_65 rfl rfl rfl (pc' := 67) rfl ?_
      exact T_iret zk_79_67 rfl (fun σ' h => ⟨_, rfl, (by omega), h.1, trivial⟩)
    ·
      refine T_ld zk_79_29 rfl rfl rfl (pc' := 30) rfl ?_
      refine T_op zk_79_30 rfl (X_bi (v := -6) (by decide)) (pc' := 32) rfl ?_
      refine T_calli (K := fun y8 σ' => (y8 = (-6)) ∧ (fun σ' => IF (MI 0 7 28 28 28) σ σ' ∧ True) σ') (r := []) zk_79_32 rfl rfl rfl rfl rfl rfl (Or.inr ⟨_, _, _, _, rfl, vd_0, rfl⟩) (fun σ' h => (w_113 ((-6)) (by omega) σ' h.1.1 ).le (Nat.le_of_ble_eq_true rfl) (fun v σ2 ⟨y, h1, h2, h3, h4⟩ => ⟨y, h1, h2, h.1.tr h3 sb55_9250bf0, trivial⟩)) (pc' := 35) rfl (fun y8 => ?_)
      refine G_ex (fun hy8 => ?_)
      obtain rfl : y8 = (-6) := by omega
      exact T_iret zk_79_35 rfl (fun σ' h => ⟨_, rfl, (by omega), h.1, trivial⟩)
  ·
    refine T_ld zk_79_13 rfl rfl rfl (pc' := 14) rfl ?_
    refine T_op zk_79_14 rfl X_ic (pc' := 15) rfl ?_
    refine T_calli (K := fun y9 σ' => (y9 = (-1)) ∧ (fun σ' => IF (MI 0 7 28 28 28) σ σ' ∧ True) σ') (r := []) zk_79_15 rfl rfl rfl rfl rfl rfl (Or.inr ⟨_, _, _, _, rfl, vd_0, rfl⟩) (fun σ' h => (w_113 ((-1)) (by omega) σ' h.1.1 ).le (Nat.le_of_ble_eq_true rfl) (fun v σ2 ⟨y, h1, h2, h3, h4⟩ => ⟨y, h1, h2, h.1.tr h3 sb55_9250bf0, trivial⟩)) (pc' := 18) rfl (fun y9 => ?_)
    refine G_ex (fun hy9 => ?_)
    obtain rfl : y9 = (-1) := by omega
    exact T_iret zk_79_18 rfl (fun σ' h => ⟨_, rfl, (by omega), h.1, trivial⟩)
/-- W.dredge -/
theorem w_80 {xs : Nat × (Nat → Int32)} (p0 : Int) (p1 : Int) (hp0 : -2147483648 ≤ p0 ∧ p0 ≤ 2147483647) (hp1 : -2147483648 ≤ p1 ∧ p1 ≤ 2147483647) (σ : ZS) (hI : Inv σ)   : CT xs 3 80 [av 0 0 0, iv p0, iv p1] σ (fun v σ' => ∃ y, v = some (iv y) ∧ (-2147483648 ≤ y ∧ y ≤ 2147483647) ∧ IF (MI 0 3 28 28 28) σ σ' ∧ (True)) := by
  refine G_ct (J := (fun σ' => IF (MI 0 3 28 28 28) σ σ' ∧ True)) (L := [(0, av 0 0 0), (1, iv p0), (2, iv p1)]) (nL := 3) rfl rfl rfl ⟨IF.rf hI, trivial⟩ ?_
  refine T_ld zk_80_0 rfl rfl rfl (pc' := 1) rfl ?_
  refine T_calli (K := fun y1 σ' => ((y1 = 0 ∧ (p0 < 0 ∨ 24 < p0)) ∨ (y1 = 1 ∧ 0 ≤ p0 ∧ p0 ≤ 24)) ∧ (fun σ' => IF (MI 0 3 28 28 28) σ σ' ∧ True) σ') (r := []) zk_80_1 rfl rfl rfl rfl rfl rfl (Or.inl (Or.inl rfl)) (fun σ' h => (w_115 p0 (by omega) σ' h.1.1 ).le (Nat.le_of_ble_eq_true rfl) (fun v σ2 ⟨y, h1, h2, h3, h4⟩ => ⟨y, h1, h2, h.1.tr h3 MN_sub, trivial⟩)) (pc' := 4) rfl (fun y1 => ?_)
  refine G_ex (fun hy1 => ?_)
  refine T_if_ne zk_80_4 (by omega) (pc' := 7) rfl (fun h2 => ?_) (fun h3 => ?_)
  ·
    refine T_ld zk_80_13 rfl rfl rfl (pc' := 14) rfl ?_
    refine T_op zk_80_14 rfl X_ic (pc' := 15) rfl ?_
    refine T_op zk_80_15 rfl (X_bi (v := 20) (by decide)) (pc' := 17) rfl ?_
    refine T_calli (K := fun y4 σ' => ((y4 = 0 ∧ (p1 < 1 ∨ 20 < p1)) ∨ (y4 = 1 ∧ 1 ≤ p1 ∧ p1 ≤ 20)) ∧ (fun σ' => IF (MI 0 3 28 28 28) σ σ' ∧ True) σ') (r := []) zk_80_17 rfl rfl rfl rfl rfl rfl (Or.inl (Or.inl rfl)) (fun σ' h => (w_114 p1 1 20 (by omega) (by omega) (by omega) σ' h.1.1 ).le (Nat.le_of_ble_eq_true rfl) (fun v σ2 ⟨y, h1, h2, h3, h4⟩ => ⟨y, h1, h2, h.1.tr h3 MN_sub, trivial⟩)) (pc' := 20) rfl (fun y4 => ?_)
    refine G_ex (fun hy4 => ?_)
    refine T_if_ne zk_80_20 (by omega) (pc' := 23) rfl (fun h5 => ?_) (fun h6 => ?_)
    ·
      refine T_ld zk_80_30 rfl rfl rfl (pc' := 31) rfl ?_
      refine T_getR (t' := 1) (i' := 0) (k' := 0) zk_80_31 rfl rfl rfl vd_0 (pc' := 34) rfl ?_
      refine T_getR (t' := 2) (i' := 0) (k' := 0) zk_80_34 rfl rfl rfl (vd_1 (by omega)) (pc' := 37) rfl ?_
      refine T_getR (t' := 3) (i' := 0) (k' := 0) zk_80_37 rfl rfl rfl (vd_2 (by omega)) (pc' := 40) rfl ?_
      refine T_ld zk_80_40 rfl rfl rfl (pc' := 41) rfl ?_
      refine T_op zk_80_41 rfl (X_bi (v := 60) (by decide)) (pc' := 43) rfl ?_
      refine T_ld zk_80_43 rfl rfl rfl (pc' := 44) rfl ?_
      refine T_getR (t' := 1) (i' := 0) (k' := 0) zk_80_44 rfl rfl rfl vd_0 (pc' := 47) rfl ?_
      refine T_getR (t' := 2) (i' := 0) (k' := 0) zk_80_47 rfl rfl rfl (vd_1 (by omega)) (pc' := 50) rfl ?_
      refine T_getR (t' := 3) (i' := 0) (k' := 0) zk_80_50 rfl rfl rfl (vd_2 (by omega)) (pc' := 53) rfl ?_
      refine T_ld zk_80_53 rfl rfl rfl (pc' := 54) rfl ?_
      refine G_iald (lo := -2147483648) (hi := 2147483647) (ln := 25) zk_80_54 rfl rfl (vd_3 (by omega)) (by omega) (by omega) (by omega) (fun σ' h => h.1.1) (fun _ h => (by have q := h.1; omega)) (pc' := 55) rfl (fun y7 hy7 hy7' => ?_)
      refine T_ld zk_80_55 rfl rfl rfl (pc' := 56) rfl ?_
      refine G_unk zk_80_56 rfl (pc' := 57) rfl (fun y8 hy8 hy8' => ?_)
      refine T_min zk_80_57 rfl (by omega) (by omega) rfl (pc' := 60) rfl (fun y9 hy9 hy9' ey9 => ?_)
      refine G_iast (J' := (fun σ' => IF (MI 0 3 28 28 28) σ σ' ∧ True)) (ln := 25) zk_80_60 rfl rfl (vd_3 (by omega)) (by omega) (by omega) (by omega) (fun σ' h => ⟨h.1.up ⟨by omega, trivial⟩ (by unfold MI; omega), trivial⟩) (pc' := 61) rfl ?_
      refine T_ld zk_80_61 rfl rfl rfl (pc' := 62) rfl ?_
      refine T_getR (t' := 1) (i' := 0) (k' := 0) zk_80_62 rfl rfl rfl vd_0 (pc' := 65) rfl ?_
      refine T_getR (t' := 2) (i' := 0) (k' := 0) zk_80_65 rfl rfl rfl (vd_1 (by omega)) (pc' := 68) rfl ?_
      refine T_getR (t' := 3) (i' := 0) (k' := 0) zk_80_68 rfl rfl rfl (vd_2 (by omega)) (pc' := 71) rfl ?_
      refine T_ld zk_80_71 rfl rfl rfl (pc' := 72) rfl ?_
      refine G_iald (lo := -2147483648) (hi := 2147483647) (ln := 25) zk_80_72 rfl rfl (vd_3 (by omega)) (by omega) (by omega) (by omega) (fun σ' h => h.1.1) (fun _ h => (by have q := h.1; omega)) (pc' := 73) rfl (fun y10 hy10 hy10' => ?_)
      exact T_iret zk_80_73 rfl (fun σ' h => ⟨_, rfl, (by omega), h.1, trivial⟩)
    ·
      refine T_ld zk_80_23 rfl rfl rfl (pc' := 24) rfl ?_
      refine T_op zk_80_24 rfl (X_bi (v := -6) (by decide)) (pc' := 26) rfl ?_
      refine T_calli (K := fun y11 σ' => (y11 = (-6)) ∧ (fun σ' => IF (MI 0 3 28 28 28) σ σ' ∧ True) σ') (r := []) zk_80_26 rfl rfl rfl rfl rfl rfl (Or.inr ⟨_, _, _, _, rfl, vd_0, rfl⟩) (fun σ' h => (w_113 ((-6)) (by omega) σ' h.1.1 ).le (Nat.le_of_ble_eq_true rfl) (fun v σ2 ⟨y, h1, h2, h3, h4⟩ => ⟨y, h1, h2, h.1.tr h3 sb55_1cb7d30, trivial⟩)) (pc' := 29) rfl (fun y11 => ?_)
      refine G_ex (fun hy11 => ?_)
      obtain rfl : y11 = (-6) := by omega
      exact T_iret zk_80_29 rfl (fun σ' h => ⟨_, rfl, (by omega), h.1, trivial⟩)
  ·
    refine T_ld zk_80_7 rfl rfl rfl (pc' := 8) rfl ?_
    refine T_op zk_80_8 rfl X_ic (pc' := 9) rfl ?_
    refine T_calli (K := fun y12 σ' => (y12 = (-1)) ∧ (fun σ' => IF (MI 0 3 28 28 28) σ σ' ∧ True) σ') (r := []) zk_80_9 rfl rfl rfl rfl rfl rfl (Or.inr ⟨_, _, _, _, rfl, vd_0, rfl⟩) (fun σ' h => (w_113 ((-1)) (by omega) σ' h.1.1 ).le (Nat.le_of_ble_eq_true rfl) (fun v σ2 ⟨y, h1, h2, h3, h4⟩ => ⟨y, h1, h2, h.1.tr h3 sb55_1cb7d30, trivial⟩)) (pc' := 12) rfl (fun y12 => ?_)
    refine G_ex (fun hy12 => ?_)
    obtain rfl : y12 = (-1) := by omega
    exact T_iret zk_80_12 rfl (fun σ' h => ⟨_, rfl, (by omega), h.1, trivial⟩)
theorem sb55_9df35c0 : ∀ t i k j, MI 0 11 12 13 13 t i k j → MI 0 11 12 13 28 t i k j := by
  intro t i k j h
  unfold MI at h
  unfold MI
  omega
theorem sb55_8ed72e3 : ∀ t i k j, MI 0 28 28 28 28 t i k j → MI 0 11 12 13 28 t i k j := by
  intro t i k j h
  unfold MI at h
  unfold MI
  omega
/-- W.mouth -/
theorem w_81 {xs : Nat × (Nat → Int32)} (p0 : Int) (hp0 : -2147483648 ≤ p0 ∧ p0 ≤ 2147483647) (σ : ZS) (hI : Inv σ)   : CT xs 3 81 [av 0 0 0, iv p0] σ (fun v σ' => ∃ y, v = some (iv y) ∧ (-2147483648 ≤ y ∧ y ≤ 2147483647) ∧ IF (MI 0 11 12 13 28) σ σ' ∧ (True)) := by
  refine G_ct (J := (fun σ' => IF (MI 0 11 12 13 28) σ σ' ∧ True)) (L := [(0, av 0 0 0), (1, iv p0)]) (nL := 2) rfl rfl rfl ⟨IF.rf hI, trivial⟩ ?_
  refine T_ld zk_81_0 rfl rfl rfl (pc' := 1) rfl ?_
  refine T_calli (K := fun y1 σ' => ((y1 = 0 ∧ (p0 < 0 ∨ 24 < p0)) ∨ (y1 = 1 ∧ 0 ≤ p0 ∧ p0 ≤ 24)) ∧ (fun σ' => IF (MI 0 11 12 13 28) σ σ' ∧ True) σ') (r := []) zk_81_1 rfl rfl rfl rfl rfl rfl (Or.inl (Or.inl rfl)) (fun σ' h => (w_115 p0 (by omega) σ' h.1.1 ).le (Nat.le_of_ble_eq_true rfl) (fun v σ2 ⟨y, h1, h2, h3, h4⟩ => ⟨y, h1, h2, h.1.tr h3 MN_sub, trivial⟩)) (pc' := 4) rfl (fun y1 => ?_)
  refine G_ex (fun hy1 => ?_)
  refine T_if_ne zk_81_4 (by omega) (pc' := 7) rfl (fun h2 => ?_) (fun h3 => ?_)
  ·
    refine T_ld zk_81_13 rfl rfl rfl (pc' := 14) rfl ?_
    refine T_getR (t' := 1) (i' := 0) (k' := 0) zk_81_14 rfl rfl rfl vd_0 (pc' := 17) rfl ?_
    refine T_getR (t' := 11) (i' := 0) (k' := 0) zk_81_17 rfl rfl rfl (vd_1 (by omega)) (pc' := 20) rfl ?_
    refine T_ld zk_81_20 rfl rfl rfl (pc' := 21) rfl ?_
    refine T_calli (K := fun y4 σ' => (-1 ≤ y4 ∧ y4 ≤ 2) ∧ (fun σ' => IF (MI 0 11 12 13 28) σ σ' ∧ True) σ') (r := []) zk_81_21 rfl rfl rfl rfl rfl rfl (Or.inr ⟨_, _, _, _, rfl, (vd_11 (by omega)), rfl⟩) (fun σ' h => (w_62 0 p0 (by omega) (by omega) σ' h.1.1 ).le (Nat.le_of_ble_eq_true rfl) (fun v σ2 ⟨y, h1, h2, h3, h4⟩ => ⟨y, h1, h2, h.1.tr h3 MN_sub, trivial⟩)) (pc' := 24) rfl (fun y4 => ?_)
    refine G_ex (fun hy4 => ?_)
    refine T_op zk_81_24 rfl X_ic (pc' := 25) rfl ?_
    refine T_icmp_eq zk_81_25 (by omega) (by omega) (pc' := 28) rfl (fun h5 => ?_) (fun h6 => ?_)
    ·
      refine T_ld zk_81_35 rfl rfl rfl (pc' := 36) rfl ?_
      refine T_getR (t' := 1) (i' := 0) (k' := 0) zk_81_36 rfl rfl rfl vd_0 (pc' := 39) rfl ?_
      refine T_getR (t' := 11) (i' := 0) (k' := 0) zk_81_39 rfl rfl rfl (vd_1 (by omega)) (pc' := 42) rfl ?_
      refine G_learn (t := 11) (i := 0) (k := 0) (j := 0) (lo := 0) (hi := 3) (J2 := fun y7 => (fun σ' => IF (MI 0 11 12 13 28) σ σ' ∧ σ' 11 0 0 0 = y7 ∧ True)) (vd_11 (by omega)) (fun σ' h => h.1.1) (fun _ h => h.2 (by omega) (by omega)) (fun σ' y h hy => ⟨h.1, hy, trivial⟩) (fun y7 hy7 hy7' => ?_)
      refine G_getX (w := y7) zk_81_42 rfl (vd_11 (by omega)) (fun σ' h => h.2.1) (pc' := 45) rfl ?_
      refine T_op zk_81_45 rfl X_ic (pc' := 46) rfl ?_
      refine T_icmp_lt zk_81_46 (by omega) (by omega) (pc' := 49) rfl (fun h8 => ?_) (fun h9 => ?_)
      ·
        refine T_ld zk_81_56 rfl rfl rfl (pc' := 57) rfl ?_
        refine T_getR (t' := 1) (i' := 0) (k' := 0) zk_81_57 rfl rfl rfl vd_0 (pc' := 60) rfl ?_
        refine T_getR (t' := 11) (i' := 0) (k' := 0) zk_81_60 rfl rfl rfl (vd_1 (by omega)) (pc' := 63) rfl ?_
        refine T_ld zk_81_63 rfl rfl rfl (pc' := 64) rfl ?_
        refine T_calli (K := fun y10 σ' => (y10 = y7) ∧ (fun σ' => IF (MI 0 11 12 13 28) σ σ' ∧ True) σ') (r := []) zk_81_64 rfl rfl rfl rfl rfl rfl (Or.inr ⟨_, _, _, _, rfl, (vd_11 (by omega)), rfl⟩) (fun σ' h => (w_61 p0 y7 (by omega) (by omega) σ' h.1.1 (h.2.1)).le (Nat.le_of_ble_eq_true rfl) (fun v σ2 ⟨y, h1, h2, h3, h4⟩ => ⟨y, h1, h2, h.1.tr h3 sb55_9df35c0, trivial⟩)) (pc' := 67) rfl (fun y10 => ?_)
        refine G_ex (fun hy10 => ?_)
        obtain rfl : y10 = y7 := by omega
        exact T_iret zk_81_67 rfl (fun σ' h => ⟨_, rfl, (by omega), h.1, trivial⟩)
      ·
        refine T_ld zk_81_49 rfl rfl rfl (pc' := 50) rfl ?_
        refine T_op zk_81_50 rfl (X_bi (v := -7) (by decide)) (pc' := 52) rfl ?_
        refine T_calli (K := fun y11 σ' => (y11 = (-7)) ∧ (fun σ' => IF (MI 0 11 12 13 28) σ σ' ∧ σ' 11 0 0 0 = y7 ∧ True) σ') (r := []) zk_81_52 rfl rfl rfl rfl rfl rfl (Or.inr ⟨_, _, _, _, rfl, vd_0, rfl⟩) (fun σ' h => (w_113 ((-7)) (by omega) σ' h.1.1 ).le (Nat.le_of_ble_eq_true rfl) (fun v σ2 ⟨y, h1, h2, h3, h4⟩ => ⟨y, h1, h2, h.1.tr h3 sb55_8ed72e3, (h3.2 _ _ _ _ (by first | exact nMI rfl | (unfold MI; omega))).trans (h.2.1), trivial⟩)) (pc' := 55) rfl (fun y11 => ?_)
        refine G_ex (fun hy11 => ?_)
        obtain rfl : y11 = (-7) := by omega
        exact T_iret zk_81_55 rfl (fun σ' h => ⟨_, rfl, (by omega), h.1, trivial⟩)
    ·
      refine T_ld zk_81_28 rfl rfl rfl (pc' := 29) rfl ?_
      refine T_op zk_81_29 rfl (X_bi (v := -6) (by decide)) (pc' := 31) rfl ?_
      refine T_calli (K := fun y12 σ' => (y12 = (-6)) ∧ (fun σ' => IF (MI 0 11 12 13 28) σ σ' ∧ True) σ') (r := []) zk_81_31 rfl rfl rfl rfl rfl rfl (Or.inr ⟨_, _, _, _, rfl, vd_0, rfl⟩) (fun σ' h => (w_113 ((-6)) (by omega) σ' h.1.1 ).le (Nat.le_of_ble_eq_true rfl) (fun v σ2 ⟨y, h1, h2, h3, h4⟩ => ⟨y, h1, h2, h.1.tr h3 sb55_8ed72e3, trivial⟩)) (pc' := 34) rfl (fun y12 => ?_)
      refine G_ex (fun hy12 => ?_)
      obtain rfl : y12 = (-6) := by omega
      exact T_iret zk_81_34 rfl (fun σ' h => ⟨_, rfl, (by omega), h.1, trivial⟩)
  ·
    refine T_ld zk_81_7 rfl rfl rfl (pc' := 8) rfl ?_
    refine T_op zk_81_8 rfl X_ic (pc' := 9) rfl ?_
    refine T_calli (K := fun y13 σ' => (y13 = (-1)) ∧ (fun σ' => IF (MI 0 11 12 13 28) σ σ' ∧ True) σ') (r := []) zk_81_9 rfl rfl rfl rfl rfl rfl (Or.inr ⟨_, _, _, _, rfl, vd_0, rfl⟩) (fun σ' h => (w_113 ((-1)) (by omega) σ' h.1.1 ).le (Nat.le_of_ble_eq_true rfl) (fun v σ2 ⟨y, h1, h2, h3, h4⟩ => ⟨y, h1, h2, h.1.tr h3 sb55_8ed72e3, trivial⟩)) (pc' := 12) rfl (fun y13 => ?_)
    refine G_ex (fun hy13 => ?_)
    obtain rfl : y13 = (-1) := by omega
    exact T_iret zk_81_12 rfl (fun σ' h => ⟨_, rfl, (by omega), h.1, trivial⟩)
theorem sb55_1ae58e8 : ∀ t i k j, MI 0 13 13 13 13 t i k j → MI 0 13 28 28 28 t i k j := by
  intro t i k j h
  unfold MI at h
  unfold MI
  omega
theorem sb55_645d7c3 : ∀ t i k j, MI 0 28 28 28 28 t i k j → MI 0 13 28 28 28 t i k j := by
  intro t i k j h
  unfold MI at h
  unfold MI
  omega
/-- W.gate -/
theorem w_82 {xs : Nat × (Nat → Int32)} (p0 : Int) (p1 : Int) (hp0 : -2147483648 ≤ p0 ∧ p0 ≤ 2147483647) (hp1 : 0 ≤ p1 ∧ p1 ≤ 1) (σ : ZS) (hI : Inv σ)   : CT xs 3 82 [av 0 0 0, iv p0, iv p1] σ (fun v σ' => ∃ y, v = some (iv y) ∧ (-2147483648 ≤ y ∧ y ≤ 2147483647) ∧ IF (MI 0 13 28 28 28) σ σ' ∧ (True)) := by
  refine G_ct (J := (fun σ' => IF (MI 0 13 28 28 28) σ σ' ∧ True)) (L := [(0, av 0 0 0), (1, iv p0), (2, iv p1)]) (nL := 3) rfl rfl rfl ⟨IF.rf hI, trivial⟩ ?_
  refine T_ld zk_82_0 rfl rfl rfl (pc' := 1) rfl ?_
  refine T_op zk_82_1 rfl X_ic (pc' := 2) rfl ?_
  refine T_ld zk_82_2 rfl rfl rfl (pc' := 3) rfl ?_
  refine T_getR (t' := 1) (i' := 0) (k' := 0) zk_82_3 rfl rfl rfl vd_0 (pc' := 6) rfl ?_
  refine T_getR (t' := 11) (i' := 0) (k' := 0) zk_82_6 rfl rfl rfl (vd_1 (by omega)) (pc' := 9) rfl ?_
  refine G_getf (lo := 0) (hi := 3) zk_82_9 rfl (vd_11 (by omega)) (fun σ' h => h.1.1) (fun _ h => h.2 (by omega) (by omega)) (pc' := 12) rfl (fun y1 hy1 hy1' => ?_)
  refine T_op zk_82_12 rfl X_ic (pc' := 13) rfl ?_
  refine T_op zk_82_13 rfl X_sub (pc' := 14) rfl ?_
  refine T_calli (K := fun y2 σ' => ((y2 = 0 ∧ (p0 < 0 ∨ y1 - 1 < p0)) ∨ (y2 = 1 ∧ 0 ≤ p0 ∧ p0 ≤ y1 - 1)) ∧ (fun σ' => IF (MI 0 13 28 28 28) σ σ' ∧ True) σ') (r := []) zk_82_14 rfl rfl rfl rfl rfl rfl (Or.inl (Or.inl rfl)) (fun σ' h => (w_114 p0 0 (y1 - 1) (by omega) (by omega) (by omega) σ' h.1.1 ).le (Nat.le_of_ble_eq_true rfl) (fun v σ2 ⟨y, h1, h2, h3, h4⟩ => ⟨y, h1, h2, h.1.tr h3 MN_sub, trivial⟩)) (pc' := 17) rfl (fun y2 => ?_)
  refine G_ex (fun hy2 => ?_)
  refine T_if_ne zk_82_17 (by omega) (pc' := 20) rfl (fun h3 => ?_) (fun h4 => ?_)
  ·
    refine T_ld zk_82_26 rfl rfl rfl (pc' := 27) rfl ?_
    refine T_getR (t' := 1) (i' := 0) (k' := 0) zk_82_27 rfl rfl rfl vd_0 (pc' := 30) rfl ?_
    refine T_getR (t' := 11) (i' := 0) (k' := 0) zk_82_30 rfl rfl rfl (vd_1 (by omega)) (pc' := 33) rfl ?_
    refine T_getR (t' := 13) (i' := 0) (k' := 0) zk_82_33 rfl rfl rfl (vd_11 (by omega)) (pc' := 36) rfl ?_
    refine T_ld zk_82_36 rfl rfl rfl (pc' := 37) rfl ?_
    refine T_ld zk_82_37 rfl rfl rfl (pc' := 38) rfl ?_
    refine T_calli (K := fun y5 σ' => (y5 = 0 ∨ y5 = 1) ∧ (fun σ' => IF (MI 0 13 28 28 28) σ σ' ∧ True) σ') (r := []) zk_82_38 rfl rfl rfl rfl rfl rfl (Or.inl (Or.inl rfl)) (fun σ' h => (w_121_13 p0 p1 (by omega) (by omega) σ' h.1.1 ).le (Nat.le_of_ble_eq_true rfl) (fun v σ2 ⟨y, h1, h2, h3, h4⟩ => ⟨y, h1, h2, h.1.tr h3 sb55_1ae58e8, trivial⟩)) (pc' := 41) rfl (fun y5 => ?_)
    refine G_ex (fun hy5 => ?_)
    exact T_iret zk_82_41 rfl (fun σ' h => ⟨_, rfl, (by omega), h.1, trivial⟩)
  ·
    refine T_ld zk_82_20 rfl rfl rfl (pc' := 21) rfl ?_
    refine T_op zk_82_21 rfl X_ic (pc' := 22) rfl ?_
    refine T_calli (K := fun y6 σ' => (y6 = (-1)) ∧ (fun σ' => IF (MI 0 13 28 28 28) σ σ' ∧ True) σ') (r := []) zk_82_22 rfl rfl rfl rfl rfl rfl (Or.inr ⟨_, _, _, _, rfl, vd_0, rfl⟩) (fun σ' h => (w_113 ((-1)) (by omega) σ' h.1.1 ).le (Nat.le_of_ble_eq_true rfl) (fun v σ2 ⟨y, h1, h2, h3, h4⟩ => ⟨y, h1, h2, h.1.tr h3 sb55_645d7c3, trivial⟩)) (pc' := 25) rfl (fun y6 => ?_)
    refine G_ex (fun hy6 => ?_)
    obtain rfl : y6 = (-1) := by omega
    exact T_iret zk_82_25 rfl (fun σ' h => ⟨_, rfl, (by omega), h.1, trivial⟩)
/-- W.element -/
theorem w_86 {xs : Nat × (Nat → Int32)} (p0 : Int) (p1 : Int) (hp0 : -2147483648 ≤ p0 ∧ p0 ≤ 2147483647) (hp1 : -2147483648 ≤ p1 ∧ p1 ≤ 2147483647) (σ : ZS) (hI : Inv σ)   : CT xs 2 86 [av 0 0 0, iv p0, iv p1] σ (fun v σ' => ∃ y, v = some (jv y) ∧ (True) ∧ IF MN σ σ' ∧ (True)) := by
  refine G_ct (J := (fun σ' => IF MN σ σ' ∧ True)) (L := [(0, av 0 0 0), (1, iv p0), (2, iv p1)]) (nL := 3) rfl rfl rfl ⟨IF.rf hI, trivial⟩ ?_
  refine T_ld zk_86_0 rfl rfl rfl (pc' := 1) rfl ?_
  refine T_calli (K := fun y1 σ' => ((y1 = 0 ∧ (p0 < 0 ∨ 7 < p0)) ∨ (y1 = 1 ∧ 0 ≤ p0 ∧ p0 ≤ 7)) ∧ (fun σ' => IF MN σ σ' ∧ True) σ') (r := []) zk_86_1 rfl rfl rfl rfl rfl rfl (Or.inl (Or.inl rfl)) (fun σ' h => (w_116 p0 (by omega) σ' h.1.1 ).le (Nat.le_of_ble_eq_true rfl) (fun v σ2 ⟨y, h1, h2, h3, h4⟩ => ⟨y, h1, h2, h.1.tr h3 MN_sub, trivial⟩)) (pc' := 4) rfl (fun y1 => ?_)
  refine G_ex (fun hy1 => ?_)
  refine T_if_eq zk_86_4 (by omega) (pc' := 7) rfl (fun h2 => ?_) (fun h3 => ?_)
  ·
    refine T_op zk_86_39 rfl (X_lc (v := 0) (by decide)) (pc' := 40) rfl ?_
    exact T_lret zk_86_40 rfl (fun σ' h => ⟨_, rfl, trivial, h.1, trivial⟩)
  ·
    refine T_ld zk_86_7 rfl rfl rfl (pc' := 8) rfl ?_
    refine T_getR (t' := 27) (i' := 0) (k' := 0) zk_86_8 rfl rfl rfl vd_0 (pc' := 11) rfl ?_
    refine T_ld zk_86_11 rfl rfl rfl (pc' := 12) rfl ?_
    refine G_aald (t' := 33) (im := 0) (i' := 0) (ln := 8) zk_86_12 rfl rfl rfl vd_27 (by omega) (by omega) (by omega) (pc' := 13) rfl ?_
    refine G_getf (lo := -2147483648) (hi := 2147483647) zk_86_13 rfl (vd_33 (by omega)) (fun σ' h => h.1.1) (fun _ h => (by have q := h.1; omega)) (pc' := 16) rfl (fun y4 hy4 hy4' => ?_)
    refine T_op zk_86_16 rfl X_ic (pc' := 17) rfl ?_
    refine T_icmp_ne zk_86_17 (by omega) (by omega) (pc' := 20) rfl (fun h5 => ?_) (fun h6 => ?_)
    ·
      refine T_op zk_86_39 rfl (X_lc (v := 0) (by decide)) (pc' := 40) rfl ?_
      exact T_lret zk_86_40 rfl (fun σ' h => ⟨_, rfl, trivial, h.1, trivial⟩)
    ·
      refine T_ld zk_86_20 rfl rfl rfl (pc' := 21) rfl ?_
      refine T_op zk_86_21 rfl X_ic (pc' := 22) rfl ?_
      refine T_ld zk_86_22 rfl rfl rfl (pc' := 23) rfl ?_
      refine T_getR (t' := 27) (i' := 0) (k' := 0) zk_86_23 rfl rfl rfl vd_0 (pc' := 26) rfl ?_
      refine T_ld zk_86_26 rfl rfl rfl (pc' := 27) rfl ?_
      refine G_aald (t' := 33) (im := 0) (i' := 0) (ln := 8) zk_86_27 rfl rfl rfl vd_27 (by omega) (by omega) (by omega) (pc' := 28) rfl ?_
      refine G_getf (lo := 0) (hi := 96) zk_86_28 rfl (vd_33 (by omega)) (fun σ' h => h.1.1) (fun _ h => h.2 (by omega) (by omega)) (pc' := 31) rfl (fun y7 hy7 hy7' => ?_)
      refine T_op zk_86_31 rfl X_ic (pc' := 32) rfl ?_
      refine T_op zk_86_32 rfl X_sub (pc' := 33) rfl ?_
      refine T_calli (K := fun y8 σ' => ((y8 = 0 ∧ (p1 < 0 ∨ y7 - 1 < p1)) ∨ (y8 = 1 ∧ 0 ≤ p1 ∧ p1 ≤ y7 - 1)) ∧ (fun σ' => IF MN σ σ' ∧ True) σ') (r := []) zk_86_33 rfl rfl rfl rfl rfl rfl (Or.inl (Or.inl rfl)) (fun σ' h => (w_114 p1 0 (y7 - 1) (by omega) (by omega) (by omega) σ' h.1.1 ).le (Nat.le_of_ble_eq_true rfl) (fun v σ2 ⟨y, h1, h2, h3, h4⟩ => ⟨y, h1, h2, h.1.tr h3 MN_sub, trivial⟩)) (pc' := 36) rfl (fun y8 => ?_)
      refine G_ex (fun hy8 => ?_)
      refine T_if_ne zk_86_36 (by omega) (pc' := 39) rfl (fun h9 => ?_) (fun h10 => ?_)
      ·
        refine T_ld zk_86_41 rfl rfl rfl (pc' := 42) rfl ?_
        refine T_getR (t' := 27) (i' := 0) (k' := 0) zk_86_42 rfl rfl rfl vd_0 (pc' := 45) rfl ?_
        refine T_ld zk_86_45 rfl rfl rfl (pc' := 46) rfl ?_
        refine G_aald (t' := 33) (im := 0) (i' := 0) (ln := 8) zk_86_46 rfl rfl rfl vd_27 (by omega) (by omega) (by omega) (pc' := 47) rfl ?_
        refine T_getR (t' := 34) (i' := 0) (k' := (Int.toNat p0)) zk_86_47 rfl rfl rfl (vd_33 (by omega)) (pc' := 50) rfl ?_
        refine T_ld zk_86_50 rfl rfl rfl (pc' := 51) rfl ?_
        refine G_lald (ln := 96) zk_86_51 rfl rfl (vd_34 (by omega)) (by omega) (by omega) (by omega) (pc' := 52) rfl (fun y11 => ?_)
        exact T_lret zk_86_52 rfl (fun σ' h => ⟨_, rfl, trivial, h.1, trivial⟩)
      ·
        refine T_op zk_86_39 rfl (X_lc (v := 0) (by decide)) (pc' := 40) rfl ?_
        exact T_lret zk_86_40 rfl (fun σ' h => ⟨_, rfl, trivial, h.1, trivial⟩)
/-- W.holds -/
theorem w_88 {xs : Nat × (Nat → Int32)} (p0 : Int) (hp0 : -2147483648 ≤ p0 ∧ p0 ≤ 2147483647) (σ : ZS) (hI : Inv σ)   : CT xs 2 88 [av 0 0 0, iv p0] σ (fun v σ' => ∃ y, v = some (iv y) ∧ (-2147483648 ≤ y ∧ y ≤ 2147483647) ∧ IF MN σ σ' ∧ (True)) := by
  refine G_ct (J := (fun σ' => IF MN σ σ' ∧ True)) (L := [(0, av 0 0 0), (1, iv p0)]) (nL := 2) rfl rfl rfl ⟨IF.rf hI, trivial⟩ ?_
  refine T_ld zk_88_0 rfl rfl rfl (pc' := 1) rfl ?_
  refine T_calli (K := fun y1 σ' => ((y1 = 0 ∧ (p0 < 0 ∨ 7 < p0)) ∨ (y1 = 1 ∧ 0 ≤ p0 ∧ p0 ≤ 7)) ∧ (fun σ' => IF MN σ σ' ∧ True) σ') (r := []) zk_88_1 rfl rfl rfl rfl rfl rfl (Or.inl (Or.inl rfl)) (fun σ' h => (w_116 p0 (by omega) σ' h.1.1 ).le (Nat.le_of_ble_eq_true rfl) (fun v σ2 ⟨y, h1, h2, h3, h4⟩ => ⟨y, h1, h2, h.1.tr h3 MN_sub, trivial⟩)) (pc' := 4) rfl (fun y1 => ?_)
  refine G_ex (fun hy1 => ?_)
  refine T_if_eq zk_88_4 (by omega) (pc' := 7) rfl (fun h2 => ?_) (fun h3 => ?_)
  ·
    refine T_op zk_88_19 rfl X_ic (pc' := 20) rfl ?_
    exact T_iret zk_88_20 rfl (fun σ' h => ⟨_, rfl, (by omega), h.1, trivial⟩)
  ·
    refine T_ld zk_88_7 rfl rfl rfl (pc' := 8) rfl ?_
    refine T_getR (t' := 27) (i' := 0) (k' := 0) zk_88_8 rfl rfl rfl vd_0 (pc' := 11) rfl ?_
    refine T_ld zk_88_11 rfl rfl rfl (pc' := 12) rfl ?_
    refine G_aald (t' := 33) (im := 0) (i' := 0) (ln := 8) zk_88_12 rfl rfl rfl vd_27 (by omega) (by omega) (by omega) (pc' := 13) rfl ?_
    refine G_getf (lo := -2147483648) (hi := 2147483647) zk_88_13 rfl (vd_33 (by omega)) (fun σ' h => h.1.1) (fun _ h => (by have q := h.1; omega)) (pc' := 16) rfl (fun y4 hy4 hy4' => ?_)
    refine T_if_ne zk_88_16 (by omega) (pc' := 19) rfl (fun h5 => ?_) (fun h6 => ?_)
    ·
      refine T_ld zk_88_21 rfl rfl rfl (pc' := 22) rfl ?_
      refine T_getR (t' := 27) (i' := 0) (k' := 0) zk_88_22 rfl rfl rfl vd_0 (pc' := 25) rfl ?_
      refine T_ld zk_88_25 rfl rfl rfl (pc' := 26) rfl ?_
      refine G_aald (t' := 33) (im := 0) (i' := 0) (ln := 8) zk_88_26 rfl rfl rfl vd_27 (by omega) (by omega) (by omega) (pc' := 27) rfl ?_
      refine G_getf (lo := -2147483648) (hi := 2147483647) zk_88_27 rfl (vd_33 (by omega)) (fun σ' h => h.1.1) (fun _ h => (by have q := h.1; omega)) (pc' := 30) rfl (fun y7 hy7 hy7' => ?_)
      refine T_op zk_88_30 rfl X_ic (pc' := 31) rfl ?_
      refine T_icmp_ne zk_88_31 (by omega) (by omega) (pc' := 34) rfl (fun h8 => ?_) (fun h9 => ?_)
      ·
        refine T_op zk_88_46 rfl (X_bi (v := 100) (by decide)) (pc' := 48) rfl ?_
        refine T_ld zk_88_48 rfl rfl rfl (pc' := 49) rfl ?_
        refine T_getR (t' := 27) (i' := 0) (k' := 0) zk_88_49 rfl rfl rfl vd_0 (pc' := 52) rfl ?_
        refine T_ld zk_88_52 rfl rfl rfl (pc' := 53) rfl ?_
        refine G_aald (t' := 33) (im := 0) (i' := 0) (ln := 8) zk_88_53 rfl rfl rfl vd_27 (by omega) (by omega) (by omega) (pc' := 54) rfl ?_
        refine G_getf (lo := -2147483648) (hi := 2147483647) zk_88_54 rfl (vd_33 (by omega)) (fun σ' h => h.1.1) (fun _ h => (by have q := h.1; omega)) (pc' := 57) rfl (fun y10 hy10 hy10' => ?_)
        refine G_unk zk_88_57 rfl (pc' := 58) rfl (fun y11 hy11 hy11' => ?_)
        exact T_iret zk_88_58 rfl (fun σ' h => ⟨_, rfl, (by omega), h.1, trivial⟩)
      ·
        refine T_ld zk_88_34 rfl rfl rfl (pc' := 35) rfl ?_
        refine T_getR (t' := 27) (i' := 0) (k' := 0) zk_88_35 rfl rfl rfl vd_0 (pc' := 38) rfl ?_
        refine T_ld zk_88_38 rfl rfl rfl (pc' := 39) rfl ?_
        refine G_aald (t' := 33) (im := 0) (i' := 0) (ln := 8) zk_88_39 rfl rfl rfl vd_27 (by omega) (by omega) (by omega) (pc' := 40) rfl ?_
        refine G_getf (lo := -2147483648) (hi := 2147483647) zk_88_40 rfl (vd_33 (by omega)) (fun σ' h => h.1.1) (fun _ h => (by have q := h.1; omega)) (pc' := 43) rfl (fun y12 hy12 hy12' => ?_)
        refine T_goto zk_88_43 ?_
        exact T_iret zk_88_58 rfl (fun σ' h => ⟨_, rfl, (by omega), h.1, trivial⟩)
    ·
      refine T_op zk_88_19 rfl X_ic (pc' := 20) rfl ?_
      exact T_iret zk_88_20 rfl (fun σ' h => ⟨_, rfl, (by omega), h.1, trivial⟩)
theorem sb55_63b81e7 : ∀ t i k j, MI 0 28 28 28 28 t i k j → MT 28 28 28 28 t i k j := by
  intro t i k j h
  unfold MI at h
  unfold MT
  omega
/-- W.harm -/
theorem w_89 {xs : Nat × (Nat → Int32)} (p0 : Int) (p1 : Int) (hp0 : -2147483648 ≤ p0 ∧ p0 ≤ 2147483647) (hp1 : -2147483648 ≤ p1 ∧ p1 ≤ 2147483647) (σ : ZS) (hI : Inv σ)   : CT xs 3 89 [av 0 0 0, iv p0, iv p1] σ (fun v σ' => ∃ y, v = some (iv y) ∧ (-2147483648 ≤ y ∧ y ≤ 2147483647) ∧ IF (MT 28 28 28 28) σ σ' ∧ (True)) := by
  refine G_ct (J := (fun σ' => IF (MT 28 28 28 28) σ σ' ∧ True)) (L := [(0, av 0 0 0), (1, iv p0), (2, iv p1)]) (nL := 4) rfl rfl rfl ⟨IF.rf hI, trivial⟩ ?_
  refine T_ld zk_89_0 rfl rfl rfl (pc' := 1) rfl ?_
  refine T_calli (K := fun y1 σ' => ((y1 = 0 ∧ (p0 < 0 ∨ 7 < p0)) ∨ (y1 = 1 ∧ 0 ≤ p0 ∧ p0 ≤ 7)) ∧ (fun σ' => IF (MT 28 28 28 28) σ σ' ∧ True) σ') (r := []) zk_89_1 rfl rfl rfl rfl rfl rfl (Or.inl (Or.inl rfl)) (fun σ' h => (w_116 p0 (by omega) σ' h.1.1 ).le (Nat.le_of_ble_eq_true rfl) (fun v σ2 ⟨y, h1, h2, h3, h4⟩ => ⟨y, h1, h2, h.1.tr h3 MN_sub, trivial⟩)) (pc' := 4) rfl (fun y1 => ?_)
  refine G_ex (fun hy1 => ?_)
  refine T_if_eq zk_89_4 (by omega) (pc' := 7) rfl (fun h2 => ?_) (fun h3 => ?_)
  ·
    refine T_ld zk_89_16 rfl rfl rfl (pc' := 17) rfl ?_
    refine T_op zk_89_17 rfl X_ic (pc' := 18) rfl ?_
    refine T_calli (K := fun y4 σ' => (y4 = (-1)) ∧ (fun σ' => IF (MT 28 28 28 28) σ σ' ∧ True) σ') (r := []) zk_89_18 rfl rfl rfl rfl rfl rfl (Or.inr ⟨_, _, _, _, rfl, vd_0, rfl⟩) (fun σ' h => (w_113 ((-1)) (by omega) σ' h.1.1 ).le (Nat.le_of_ble_eq_true rfl) (fun v σ2 ⟨y, h1, h2, h3, h4⟩ => ⟨y, h1, h2, h.1.tr h3 sb55_63b81e7, trivial⟩)) (pc' := 21) rfl (fun y4 => ?_)
    refine G_ex (fun hy4 => ?_)
    obtain rfl : y4 = (-1) := by omega
    exact T_iret zk_89_21 rfl (fun σ' h => ⟨_, rfl, (by omega), h.1, trivial⟩)
  ·
    refine T_ld zk_89_7 rfl rfl rfl (pc' := 8) rfl ?_
    refine T_op zk_89_8 rfl X_ic (pc' := 9) rfl ?_
    refine T_op zk_89_9 rfl X_ic (pc' := 10) rfl ?_
    refine T_calli (K := fun y5 σ' => ((y5 = 0 ∧ (p1 < 0 ∨ 2 < p1)) ∨ (y5 = 1 ∧ 0 ≤ p1 ∧ p1 ≤ 2)) ∧ (fun σ' => IF (MT 28 28 28 28) σ σ' ∧ True) σ') (r := []) zk_89_10 rfl rfl rfl rfl rfl rfl (Or.inl (Or.inl rfl)) (fun σ' h => (w_114 p1 0 2 (by omega) (by omega) (by omega) σ' h.1.1 ).le (Nat.le_of_ble_eq_true rfl) (fun v σ2 ⟨y, h1, h2, h3, h4⟩ => ⟨y, h1, h2, h.1.tr h3 MN_sub, trivial⟩)) (pc' := 13) rfl (fun y5 => ?_)
    refine G_ex (fun hy5 => ?_)
    refine T_if_ne zk_89_13 (by omega) (pc' := 16) rfl (fun h6 => ?_) (fun h7 => ?_)
    ·
      refine T_ld zk_89_22 rfl rfl rfl (pc' := 23) rfl ?_
      refine T_getR (t' := 27) (i' := 0) (k' := 0) zk_89_23 rfl rfl rfl vd_0 (pc' := 26) rfl ?_
      refine T_ld zk_89_26 rfl rfl rfl (pc' := 27) rfl ?_
      refine G_aald (t' := 33) (im := 0) (i' := 0) (ln := 8) zk_89_27 rfl rfl rfl vd_27 (by omega) (by omega) (by omega) (pc' := 28) rfl ?_
      refine G_getf (lo := -2147483648) (hi := 2147483647) zk_89_28 rfl (vd_33 (by omega)) (fun σ' h => h.1.1) (fun _ h => (by have q := h.1; omega)) (pc' := 31) rfl (fun y8 hy8 hy8' => ?_)
      refine T_op zk_89_31 rfl X_ic (pc' := 32) rfl ?_
      refine T_icmp_ne zk_89_32 (by omega) (by omega) (pc' := 35) rfl (fun h9 => ?_) (fun h10 => ?_)
      ·
        refine T_ld zk_89_42 rfl rfl rfl (pc' := 43) rfl ?_
        refine T_getR (t' := 27) (i' := 0) (k' := 0) zk_89_43 rfl rfl rfl vd_0 (pc' := 46) rfl ?_
        refine T_ld zk_89_46 rfl rfl rfl (pc' := 47) rfl ?_
        refine G_aald (t' := 33) (im := 0) (i' := 0) (ln := 8) zk_89_47 rfl rfl rfl vd_27 (by omega) (by omega) (by omega) (pc' := 48) rfl ?_
        refine G_getf (lo := -2147483648) (hi := 2147483647) zk_89_48 rfl (vd_33 (by omega)) (fun σ' h => h.1.1) (fun _ h => (by have q := h.1; omega)) (pc' := 51) rfl (fun y11 hy11 hy11' => ?_)
        refine T_if_eq zk_89_51 (by omega) (pc' := 54) rfl (fun h12 => ?_) (fun h13 => ?_)
        ·
          refine T_ld zk_89_70 rfl rfl rfl (pc' := 71) rfl ?_
          refine T_op zk_89_71 rfl (X_bi (v := -3) (by decide)) (pc' := 73) rfl ?_
          refine T_calli (K := fun y14 σ' => (y14 = (-3)) ∧ (fun σ' => IF (MT 28 28 28 28) σ σ' ∧ True) σ') (r := []) zk_89_73 rfl rfl rfl rfl rfl rfl (Or.inr ⟨_, _, _, _, rfl, vd_0, rfl⟩) (fun σ' h => (w_113 ((-3)) (by omega) σ' h.1.1 ).le (Nat.le_of_ble_eq_true rfl) (fun v σ2 ⟨y, h1, h2, h3, h4⟩ => ⟨y, h1, h2, h.1.tr h3 sb55_63b81e7, trivial⟩)) (pc' := 76) rfl (fun y14 => ?_)
          refine G_ex (fun hy14 => ?_)
          obtain rfl : y14 = (-3) := by omega
          exact T_iret zk_89_76 rfl (fun σ' h => ⟨_, rfl, (by omega), h.1, trivial⟩)
        ·
          refine T_ld zk_89_54 rfl rfl rfl (pc' := 55) rfl ?_
          refine T_ld zk_89_55 rfl rfl rfl (pc' := 56) rfl ?_
          refine T_getR (t' := 27) (i' := 0) (k' := 0) zk_89_56 rfl rfl rfl vd_0 (pc' := 59) rfl ?_
          refine T_ld zk_89_59 rfl rfl rfl (pc' := 60) rfl ?_
          refine G_aald (t' := 33) (im := 0) (i' := 0) (ln := 8) zk_89_60 rfl rfl rfl vd_27 (by omega) (by omega) (by omega) (pc' := 61) rfl ?_
          refine G_learn (t := 33) (i := 0) (k := (Int.toNat p0)) (j := 3) (lo := -2147483648) (hi := 2147483647) (J2 := fun y15 => (fun σ' => IF (MT 28 28 28 28) σ σ' ∧ σ' 33 0 (Int.toNat p0) 3 = y15 ∧ True)) (vd_33 (by omega)) (fun σ' h => h.1.1) (fun _ h => (by have q := h.1; omega)) (fun σ' y h hy => ⟨h.1, hy, trivial⟩) (fun y15 hy15 hy15' => ?_)
          refine G_getX (w := y15) zk_89_61 rfl (vd_33 (by omega)) (fun σ' h => h.2.1) (pc' := 64) rfl ?_
          refine G_learn (t := 1) (i := 0) (k := 0) (j := 6) (lo := 0) (hi := 12) (J2 := fun y16 => (fun σ' => IF (MT 28 28 28 28) σ σ' ∧ σ' 33 0 (Int.toNat p0) 3 = y15 ∧ σ' 1 0 0 6 = y16 ∧ True)) (vd_1 (by omega)) (fun σ' h => h.1.1) (fun _ h => h.2.2.1 (by omega) (by omega)) (fun σ' y h hy => ⟨h.1, h.2.1, hy, trivial⟩) (fun y16 hy16 hy16' => ?_)
          refine T_calli (K := fun y17 σ' => ((y17 = 0 ∧ (y15 < 0 ∨ y16 ≤ y15)) ∨ (y17 = 1 ∧ 0 ≤ y15 ∧ y15 < y16)) ∧ (fun σ' => IF (MT 28 28 28 28) σ σ' ∧ σ' 33 0 (Int.toNat p0) 3 = y15 ∧ σ' 1 0 0 6 = y16 ∧ True) σ') (r := []) zk_89_64 rfl rfl rfl rfl rfl rfl (Or.inr ⟨_, _, _, _, rfl, vd_0, rfl⟩) (fun σ' h => (w_117 y15 y16 (by omega) (by omega) σ' h.1.1 (h.2.2.1)).le (Nat.le_of_ble_eq_true rfl) (fun v σ2 ⟨y, h1, h2, h3, h4⟩ => ⟨y, h1, h2, h.1.tr h3 MN_sub, (h3.2 _ _ _ _ (fun q => q)).trans (h.2.1), (h3.2 _ _ _ _ (fun q => q)).trans (h.2.2.1), trivial⟩)) (pc' := 67) rfl (fun y17 => ?_)
          refine G_ex (fun hy17 => ?_)
          refine T_if_ne zk_89_67 (by omega) (pc' := 70) rfl (fun h18 => ?_) (fun h19 => ?_)
          ·
            refine T_ld zk_89_77 rfl rfl rfl (pc' := 78) rfl ?_
            refine T_getR (t' := 1) (i' := 0) (k' := 0) zk_89_78 rfl rfl rfl vd_0 (pc' := 81) rfl ?_
            refine T_getR (t' := 15) (i' := 0) (k' := 0) zk_89_81 rfl rfl rfl (vd_1 (by omega)) (pc' := 84) rfl ?_
            refine T_ld zk_89_84 rfl rfl rfl (pc' := 85) rfl ?_
            refine T_getR (t' := 27) (i' := 0) (k' := 0) zk_89_85 rfl rfl rfl vd_0 (pc' := 88) rfl ?_
            refine T_ld zk_89_88 rfl rfl rfl (pc' := 89) rfl ?_
            refine G_aald (t' := 33) (im := 0) (i' := 0) (ln := 8) zk_89_89 rfl rfl rfl vd_27 (by omega) (by omega) (by omega) (pc' := 90) rfl ?_
            refine G_getX (w := y15) zk_89_90 rfl (vd_33 (by omega)) (fun σ' h => h.2.1) (pc' := 93) rfl ?_
            refine G_aald (t' := 25) (im := 9) (i' := 0) (ln := 12) zk_89_93 rfl rfl rfl (vd_15 (by omega)) (by omega) (by omega) (by omega) (pc' := 94) rfl ?_
            refine T_st (L' := [(0, av 0 0 0), (1, iv p0), (2, iv p1), (3, av 25 0 (Int.toNat y15))]) zk_89_94 (nL := 4) rfl rfl rfl rfl rfl (pc' := 95) rfl ?_
            refine T_ld zk_89_95 rfl rfl rfl (pc' := 96) rfl ?_
            refine T_if_eq zk_89_96 (by omega) (pc' := 99) rfl (fun h20 => ?_) (fun h21 => ?_)
            ·
              refine T_ld zk_89_114 rfl rfl rfl (pc' := 115) rfl ?_
              refine T_op zk_89_115 rfl X_ic (pc' := 116) rfl ?_
              refine T_icmp_ne zk_89_116 (by omega) (by omega) (pc' := 119) rfl (fun h22 => ?_) (fun h23 => ?_)
              ·
                refine T_ld zk_89_126 rfl rfl rfl (pc' := 127) rfl ?_
                refine T_op zk_89_127 rfl X_ic (pc' := 128) rfl ?_
                refine T_icmp_ne zk_89_128 (by omega) (by omega) (pc' := 131) rfl (fun h24 => ?_) (fun h25 => ?_)
                ·
                  refine T_ld zk_89_138 rfl rfl rfl (pc' := 139) rfl ?_
                  refine G_getf (lo := -2147483648) (hi := 2147483647) zk_89_139 rfl (vd_25 (by omega) (by omega)) (fun σ' h => h.1.1) (fun _ h => (by have q := h.1; omega)) (pc' := 142) rfl (fun y26 hy26 hy26' => ?_)
                  exact T_iret zk_89_142 rfl (fun σ' h => ⟨_, rfl, (by omega), h.1, trivial⟩)
                · exfalso; omega
              · exfalso; omega
            ·
              refine T_ld zk_89_99 rfl rfl rfl (pc' := 100) rfl ?_
              refine T_ld zk_89_100 rfl rfl rfl (pc' := 101) rfl ?_
              refine G_getf (lo := -2147483648) (hi := 2147483647) zk_89_101 rfl (vd_25 (by omega) (by omega)) (fun σ' h => h.1.1) (fun _ h => (by have q := h.1; omega)) (pc' := 104) rfl (fun y27 hy27 hy27' => ?_)
              refine T_icmp_eq zk_89_104 (by omega) (by omega) (pc' := 107) rfl (fun h28 => ?_) (fun h29 => ?_)
              ·
                refine T_ld zk_89_114 rfl rfl rfl (pc' := 115) rfl ?_
                refine T_op zk_89_115 rfl X_ic (pc' := 116) rfl ?_
                refine T_icmp_ne zk_89_116 (by omega) (by omega) (pc' := 119) rfl (fun h30 => ?_) (fun h31 => ?_)
                ·
                  refine T_ld zk_89_126 rfl rfl rfl (pc' := 127) rfl ?_
                  refine T_op zk_89_127 rfl X_ic (pc' := 128) rfl ?_
                  refine T_icmp_ne zk_89_128 (by omega) (by omega) (pc' := 131) rfl (fun h32 => ?_) (fun h33 => ?_)
                  · exfalso; omega
                  ·
                    refine T_ld zk_89_131 rfl rfl rfl (pc' := 132) rfl ?_
                    refine G_getf (lo := -2147483648) (hi := 2147483647) zk_89_132 rfl (vd_25 (by omega) (by omega)) (fun σ' h => h.1.1) (fun _ h => (by have q := h.1; omega)) (pc' := 135) rfl (fun y34 hy34 hy34' => ?_)
                    refine T_goto zk_89_135 ?_
                    exact T_iret zk_89_142 rfl (fun σ' h => ⟨_, rfl, (by omega), h.1, trivial⟩)
                ·
                  refine T_ld zk_89_119 rfl rfl rfl (pc' := 120) rfl ?_
                  refine G_getf (lo := -2147483648) (hi := 2147483647) zk_89_120 rfl (vd_25 (by omega) (by omega)) (fun σ' h => h.1.1) (fun _ h => (by have q := h.1; omega)) (pc' := 123) rfl (fun y35 hy35 hy35' => ?_)
                  refine T_goto zk_89_123 ?_
                  exact T_iret zk_89_142 rfl (fun σ' h => ⟨_, rfl, (by omega), h.1, trivial⟩)
              ·
                refine T_ld zk_89_107 rfl rfl rfl (pc' := 108) rfl ?_
                refine T_op zk_89_108 rfl (X_bi (v := -2) (by decide)) (pc' := 110) rfl ?_
                refine T_calli (K := fun y36 σ' => (y36 = (-2)) ∧ (fun σ' => IF (MT 28 28 28 28) σ σ' ∧ σ' 33 0 (Int.toNat p0) 3 = y15 ∧ σ' 1 0 0 6 = y16 ∧ True) σ') (r := []) zk_89_110 rfl rfl rfl rfl rfl rfl (Or.inr ⟨_, _, _, _, rfl, vd_0, rfl⟩) (fun σ' h => (w_113 ((-2)) (by omega) σ' h.1.1 ).le (Nat.le_of_ble_eq_true rfl) (fun v σ2 ⟨y, h1, h2, h3, h4⟩ => ⟨y, h1, h2, h.1.tr h3 sb55_63b81e7, (h3.2 _ _ _ _ (by first | exact nMI rfl | (unfold MI; omega))).trans (h.2.1), (h3.2 _ _ _ _ (by first | exact nMI rfl | (unfold MI; omega))).trans (h.2.2.1), trivial⟩)) (pc' := 113) rfl (fun y36 => ?_)
                refine G_ex (fun hy36 => ?_)
                obtain rfl : y36 = (-2) := by omega
                exact T_iret zk_89_113 rfl (fun σ' h => ⟨_, rfl, (by omega), h.1, trivial⟩)
          ·
            refine T_ld zk_89_70 rfl rfl rfl (pc' := 71) rfl ?_
            refine T_op zk_89_71 rfl (X_bi (v := -3) (by decide)) (pc' := 73) rfl ?_
            refine T_calli (K := fun y37 σ' => (y37 = (-3)) ∧ (fun σ' => IF (MT 28 28 28 28) σ σ' ∧ σ' 33 0 (Int.toNat p0) 3 = y15 ∧ σ' 1 0 0 6 = y16 ∧ True) σ') (r := []) zk_89_73 rfl rfl rfl rfl rfl rfl (Or.inr ⟨_, _, _, _, rfl, vd_0, rfl⟩) (fun σ' h => (w_113 ((-3)) (by omega) σ' h.1.1 ).le (Nat.le_of_ble_eq_true rfl) (fun v σ2 ⟨y, h1, h2, h3, h4⟩ => ⟨y, h1, h2, h.1.tr h3 sb55_63b81e7, (h3.2 _ _ _ _ (by first | exact nMI rfl | (unfold MI; omega))).trans (h.2.1), (h3.2 _ _ _ _ (by first | exact nMI rfl | (unfold MI; omega))).trans (h.2.2.1), trivial⟩)) (pc' := 76) rfl (fun y37 => ?_)
            refine G_ex (fun hy37 => ?_)
            obtain rfl : y37 = (-3) := by omega
            exact T_iret zk_89_76 rfl (fun σ' h => ⟨_, rfl, (by omega), h.1, trivial⟩)
      ·
        refine T_ld zk_89_35 rfl rfl rfl (pc' := 36) rfl ?_
        refine T_op zk_89_36 rfl (X_bi (v := -2) (by decide)) (pc' := 38) rfl ?_
        refine T_calli (K := fun y38 σ' => (y38 = (-2)) ∧ (fun σ' => IF (MT 28 28 28 28) σ σ' ∧ True) σ') (r := []) zk_89_38 rfl rfl rfl rfl rfl rfl (Or.inr ⟨_, _, _, _, rfl, vd_0, rfl⟩) (fun σ' h => (w_113 ((-2)) (by omega) σ' h.1.1 ).le (Nat.le_of_ble_eq_true rfl) (fun v σ2 ⟨y, h1, h2, h3, h4⟩ => ⟨y, h1, h2, h.1.tr h3 sb55_63b81e7, trivial⟩)) (pc' := 41) rfl (fun y38 => ?_)
        refine G_ex (fun hy38 => ?_)
        obtain rfl : y38 = (-2) := by omega
        exact T_iret zk_89_41 rfl (fun σ' h => ⟨_, rfl, (by omega), h.1, trivial⟩)
    ·
      refine T_ld zk_89_16 rfl rfl rfl (pc' := 17) rfl ?_
      refine T_op zk_89_17 rfl X_ic (pc' := 18) rfl ?_
      refine T_calli (K := fun y39 σ' => (y39 = (-1)) ∧ (fun σ' => IF (MT 28 28 28 28) σ σ' ∧ True) σ') (r := []) zk_89_18 rfl rfl rfl rfl rfl rfl (Or.inr ⟨_, _, _, _, rfl, vd_0, rfl⟩) (fun σ' h => (w_113 ((-1)) (by omega) σ' h.1.1 ).le (Nat.le_of_ble_eq_true rfl) (fun v σ2 ⟨y, h1, h2, h3, h4⟩ => ⟨y, h1, h2, h.1.tr h3 sb55_63b81e7, trivial⟩)) (pc' := 21) rfl (fun y39 => ?_)
      refine G_ex (fun hy39 => ?_)
      obtain rfl : y39 = (-1) := by omega
      exact T_iret zk_89_21 rfl (fun σ' h => ⟨_, rfl, (by omega), h.1, trivial⟩)
theorem sb55_713855c (v0 : Nat) : ∀ t i k j, MYt 0 v0 t i k j → MI 0 17 18 28 28 t i k j := by
  intro t i k j h
  unfold MYt at h
  unfold MI
  omega
theorem sb55_139e28b : ∀ t i k j, MI 0 28 28 28 28 t i k j → MI 0 17 18 28 28 t i k j := by
  intro t i k j h
  unfold MI at h
  unfold MI
  omega
/-- W.sea -/
theorem w_90 {xs : Nat × (Nat → Int32)} (p0 : Int) (p1 : Int) (hp0 : -2147483648 ≤ p0 ∧ p0 ≤ 2147483647) (hp1 : 0 ≤ p1 ∧ p1 ≤ 1) (σ : ZS) (hI : Inv σ)   : CT xs 3 90 [av 0 0 0, iv p0, iv p1] σ (fun v σ' => ∃ y, v = some (iv y) ∧ (-2147483648 ≤ y ∧ y ≤ 2147483647) ∧ IF (MI 0 17 18 28 28) σ σ' ∧ (True)) := by
  refine G_ct (J := (fun σ' => IF (MI 0 17 18 28 28) σ σ' ∧ True)) (L := [(0, av 0 0 0), (1, iv p0), (2, iv p1)]) (nL := 4) rfl rfl rfl ⟨IF.rf hI, trivial⟩ ?_
  refine T_ld zk_90_0 rfl rfl rfl (pc' := 1) rfl ?_
  refine T_ld zk_90_1 rfl rfl rfl (pc' := 2) rfl ?_
  refine T_calli (K := fun y1 σ' => ((y1 = -1 ∧ (p0 < 0 ∨ 7 < p0)) ∨ ((y1 = -3 ∨ y1 = -2 ∨ y1 = 0) ∧ 0 ≤ p0 ∧ p0 ≤ 7)) ∧ (fun σ' => IF (MI 0 17 18 28 28) σ σ' ∧ True) σ') (r := []) zk_90_2 rfl rfl rfl rfl rfl rfl (Or.inr ⟨_, _, _, _, rfl, vd_0, rfl⟩) (fun σ' h => (w_119 p0 (by omega) σ' h.1.1 ).le (Nat.le_of_ble_eq_true rfl) (fun v σ2 ⟨y, h1, h2, h3, h4⟩ => ⟨y, h1, h2, h.1.tr h3 MN_sub, trivial⟩)) (pc' := 5) rfl (fun y1 => ?_)
  refine G_ex (fun hy1 => ?_)
  refine T_st (L' := [(0, av 0 0 0), (1, iv p0), (2, iv p1), (3, iv y1)]) zk_90_5 (nL := 4) rfl rfl rfl rfl rfl (pc' := 6) rfl ?_
  refine T_ld zk_90_6 rfl rfl rfl (pc' := 7) rfl ?_
  refine T_if_eq zk_90_7 (by omega) (pc' := 10) rfl (fun h2 => ?_) (fun h3 => ?_)
  ·
    refine T_ld zk_90_16 rfl rfl rfl (pc' := 17) rfl ?_
    refine T_getR (t' := 1) (i' := 0) (k' := 0) zk_90_17 rfl rfl rfl vd_0 (pc' := 20) rfl ?_
    refine T_ld zk_90_20 rfl rfl rfl (pc' := 21) rfl ?_
    refine T_callr (t := 17) (i := 0) (k := (Int.toNat p1)) (J' := (fun σ' => IF (MI 0 17 18 28 28) σ σ' ∧ True)) (r := []) zk_90_21 rfl rfl rfl rfl rfl rfl (Or.inr ⟨_, _, _, _, rfl, (vd_1 (by omega)), rfl⟩) (fun σ' h => (w_10 0 p1 (by omega) (by omega) σ' h.1.1 ).le (Nat.le_of_ble_eq_true rfl) (fun v σ2 ⟨h1, h3, h4⟩ => ⟨h1, h.1.tr h3 MN_sub, trivial⟩)) (pc' := 24) rfl ?_
    refine T_ld zk_90_24 rfl rfl rfl (pc' := 25) rfl ?_
    refine T_getR (t' := 27) (i' := 0) (k' := 0) zk_90_25 rfl rfl rfl vd_0 (pc' := 28) rfl ?_
    refine T_ld zk_90_28 rfl rfl rfl (pc' := 29) rfl ?_
    refine G_aald (t' := 33) (im := 0) (i' := 0) (ln := 8) zk_90_29 rfl rfl rfl vd_27 (by omega) (by omega) (by omega) (pc' := 30) rfl ?_
    refine T_callv (J' := (fun σ' => IF (MI 0 17 18 28 28) σ σ' ∧ True)) (r := []) zk_90_30 rfl rfl rfl rfl rfl rfl (Or.inr ⟨_, _, _, _, rfl, (vd_17 (by omega) (by omega)), rfl⟩) (fun σ' h => (w_71 0 (Int.toNat p1) (Int.toNat p0) (by omega) (by omega) (by omega) σ' h.1.1 ).le (Nat.le_of_ble_eq_true rfl) (fun v σ2 ⟨h1, h3, h4⟩ => ⟨h1, h.1.tr h3 (sb55_713855c (Int.toNat p1)), trivial⟩)) (pc' := 33) rfl ?_
    refine T_ld zk_90_33 rfl rfl rfl (pc' := 34) rfl ?_
    refine T_getR (t' := 27) (i' := 0) (k' := 0) zk_90_34 rfl rfl rfl vd_0 (pc' := 37) rfl ?_
    refine T_ld zk_90_37 rfl rfl rfl (pc' := 38) rfl ?_
    refine G_aald (t' := 33) (im := 0) (i' := 0) (ln := 8) zk_90_38 rfl rfl rfl vd_27 (by omega) (by omega) (by omega) (pc' := 39) rfl ?_
    refine G_getf (lo := 0) (hi := 96) zk_90_39 rfl (vd_33 (by omega)) (fun σ' h => h.1.1) (fun _ h => h.2 (by omega) (by omega)) (pc' := 42) rfl (fun y6 hy6 hy6' => ?_)
    exact T_iret zk_90_42 rfl (fun σ' h => ⟨_, rfl, (by omega), h.1, trivial⟩)
  ·
    refine T_ld zk_90_10 rfl rfl rfl (pc' := 11) rfl ?_
    refine T_ld zk_90_11 rfl rfl rfl (pc' := 12) rfl ?_
    refine T_calli (K := fun y7 σ' => (y7 = y1) ∧ (fun σ' => IF (MI 0 17 18 28 28) σ σ' ∧ True) σ') (r := []) zk_90_12 rfl rfl rfl rfl rfl rfl (Or.inr ⟨_, _, _, _, rfl, vd_0, rfl⟩) (fun σ' h => (w_113 y1 (by omega) σ' h.1.1 ).le (Nat.le_of_ble_eq_true rfl) (fun v σ2 ⟨y, h1, h2, h3, h4⟩ => ⟨y, h1, h2, h.1.tr h3 sb55_139e28b, trivial⟩)) (pc' := 15) rfl (fun y7 => ?_)
    refine G_ex (fun hy7 => ?_)
    obtain rfl : y7 = y1 := by omega
    exact T_iret zk_90_15 rfl (fun σ' h => ⟨_, rfl, (by omega), h.1, trivial⟩)
/-- W.seaAt -/
theorem w_91 {xs : Nat × (Nat → Int32)} (p0 : Int) (p1 : Int) (hp0 : -2147483648 ≤ p0 ∧ p0 ≤ 2147483647) (hp1 : 0 ≤ p1 ∧ p1 ≤ 1) (σ : ZS) (hI : Inv σ)   : CT xs 2 91 [av 0 0 0, iv p0, iv p1] σ (fun v σ' => ∃ y, v = some (iv y) ∧ (-2147483648 ≤ y ∧ y ≤ 2147483647) ∧ IF MN σ σ' ∧ (True)) := by
  refine G_ct (J := (fun σ' => IF MN σ σ' ∧ True)) (L := [(0, av 0 0 0), (1, iv p0), (2, iv p1)]) (nL := 3) rfl rfl rfl ⟨IF.rf hI, trivial⟩ ?_
  refine T_ld zk_91_0 rfl rfl rfl (pc' := 1) rfl ?_
  refine T_if_ge zk_91_1 (by omega) (pc' := 4) rfl (fun h1 => ?_) (fun h2 => ?_)
  ·
    refine T_ld zk_91_10 rfl rfl rfl (pc' := 11) rfl ?_
    refine T_getR (t' := 1) (i' := 0) (k' := 0) zk_91_11 rfl rfl rfl vd_0 (pc' := 14) rfl ?_
    refine T_ld zk_91_14 rfl rfl rfl (pc' := 15) rfl ?_
    refine T_callr (t := 17) (i := 0) (k := (Int.toNat p1)) (J' := (fun σ' => IF MN σ σ' ∧ True)) (r := []) zk_91_15 rfl rfl rfl rfl rfl rfl (Or.inr ⟨_, _, _, _, rfl, (vd_1 (by omega)), rfl⟩) (fun σ' h => (w_10 0 p1 (by omega) (by omega) σ' h.1.1 ).le (Nat.le_of_ble_eq_true rfl) (fun v σ2 ⟨h1, h3, h4⟩ => ⟨h1, h.1.tr h3 MN_sub, trivial⟩)) (pc' := 18) rfl ?_
    refine T_ld zk_91_18 rfl rfl rfl (pc' := 19) rfl ?_
    refine T_calli (K := fun y4 σ' => (-300 ≤ y4 ∧ y4 ≤ 300) ∧ (fun σ' => IF MN σ σ' ∧ True) σ') (r := []) zk_91_19 rfl rfl rfl rfl rfl rfl (Or.inr ⟨_, _, _, _, rfl, (vd_17 (by omega) (by omega)), rfl⟩) (fun σ' h => (w_73 0 (Int.toNat p1) p0 (by omega) (by omega) (by omega) σ' h.1.1 ).le (Nat.le_of_ble_eq_true rfl) (fun v σ2 ⟨y, h1, h2, h3, h4⟩ => ⟨y, h1, h2, h.1.tr h3 MN_sub, trivial⟩)) (pc' := 22) rfl (fun y4 => ?_)
    refine G_ex (fun hy4 => ?_)
    exact T_iret zk_91_22 rfl (fun σ' h => ⟨_, rfl, (by omega), h.1, trivial⟩)
  ·
    refine T_op zk_91_4 rfl (X_si (v := 1000) (by decide)) (pc' := 7) rfl ?_
    refine T_goto zk_91_7 ?_
    exact T_iret zk_91_22 rfl (fun σ' h => ⟨_, rfl, (by omega), h.1, trivial⟩)
theorem sb55_3ed9bfa : ∀ t i k j, MI 0 28 28 28 28 t i k j → MC 10 13 28 t i k j := by
  intro t i k j h
  unfold MI at h
  unfold MC
  omega
/-- W.rule -/
theorem w_92 {xs : Nat × (Nat → Int32)} (p0 : Int) (p1 : Int) (hp0 : -2147483648 ≤ p0 ∧ p0 ≤ 2147483647) (hp1 : -2147483648 ≤ p1 ∧ p1 ≤ 2147483647) (σ : ZS) (hI : Inv σ)   : CT xs 3 92 [av 0 0 0, iv p0, iv p1] σ (fun v σ' => ∃ y, v = some (iv y) ∧ (-2147483648 ≤ y ∧ y ≤ 2147483647) ∧ IF (MC 10 13 28) σ σ' ∧ (True)) := by
  refine G_ct (J := (fun σ' => IF (MC 10 13 28) σ σ' ∧ True)) (L := [(0, av 0 0 0), (1, iv p0), (2, iv p1)]) (nL := 4) rfl rfl rfl ⟨IF.rf hI, trivial⟩ ?_
  refine T_ld zk_92_0 rfl rfl rfl (pc' := 1) rfl ?_
  refine T_if_ne zk_92_1 (by omega) (pc' := 4) rfl (fun h1 => ?_) (fun h2 => ?_)
  ·
    refine T_ld zk_92_33 rfl rfl rfl (pc' := 34) rfl ?_
    refine T_op zk_92_34 rfl X_ic (pc' := 35) rfl ?_
    refine T_icmp_ne zk_92_35 (by omega) (by omega) (pc' := 38) rfl (fun h3 => ?_) (fun h4 => ?_)
    ·
      refine T_ld zk_92_67 rfl rfl rfl (pc' := 68) rfl ?_
      refine T_op zk_92_68 rfl X_ic (pc' := 69) rfl ?_
      refine T_icmp_ne zk_92_69 (by omega) (by omega) (pc' := 72) rfl (fun h5 => ?_) (fun h6 => ?_)
      ·
        refine T_ld zk_92_102 rfl rfl rfl (pc' := 103) rfl ?_
        refine T_op zk_92_103 rfl (X_bi (v := -6) (by decide)) (pc' := 105) rfl ?_
        refine T_calli (K := fun y7 σ' => (y7 = (-6)) ∧ (fun σ' => IF (MC 10 13 28) σ σ' ∧ True) σ') (r := []) zk_92_105 rfl rfl rfl rfl rfl rfl (Or.inr ⟨_, _, _, _, rfl, vd_0, rfl⟩) (fun σ' h => (w_113 ((-6)) (by omega) σ' h.1.1 ).le (Nat.le_of_ble_eq_true rfl) (fun v σ2 ⟨y, h1, h2, h3, h4⟩ => ⟨y, h1, h2, h.1.tr h3 sb55_3ed9bfa, trivial⟩)) (pc' := 108) rfl (fun y7 => ?_)
        refine G_ex (fun hy7 => ?_)
        obtain rfl : y7 = (-6) := by omega
        exact T_iret zk_92_108 rfl (fun σ' h => ⟨_, rfl, (by omega), h.1, trivial⟩)
      ·
        refine T_ld zk_92_72 rfl rfl rfl (pc' := 73) rfl ?_
        refine T_op zk_92_73 rfl X_ic (pc' := 74) rfl ?_
        refine T_op zk_92_74 rfl (X_si (v := 9999) (by decide)) (pc' := 77) rfl ?_
        refine T_calli (K := fun y8 σ' => ((y8 = 0 ∧ (p1 < 0 ∨ 9999 < p1)) ∨ (y8 = 1 ∧ 0 ≤ p1 ∧ p1 ≤ 9999)) ∧ (fun σ' => IF (MC 10 13 28) σ σ' ∧ True) σ') (r := []) zk_92_77 rfl rfl rfl rfl rfl rfl (Or.inl (Or.inl rfl)) (fun σ' h => (w_114 p1 0 9999 (by omega) (by omega) (by omega) σ' h.1.1 ).le (Nat.le_of_ble_eq_true rfl) (fun v σ2 ⟨y, h1, h2, h3, h4⟩ => ⟨y, h1, h2, h.1.tr h3 MN_sub, trivial⟩)) (pc' := 80) rfl (fun y8 => ?_)
        refine G_ex (fun hy8 => ?_)
        refine T_if_eq zk_92_80 (by omega) (pc' := 83) rfl (fun h9 => ?_) (fun h10 => ?_)
        ·
          refine T_ld zk_92_102 rfl rfl rfl (pc' := 103) rfl ?_
          refine T_op zk_92_103 rfl (X_bi (v := -6) (by decide)) (pc' := 105) rfl ?_
          refine T_calli (K := fun y11 σ' => (y11 = (-6)) ∧ (fun σ' => IF (MC 10 13 28) σ σ' ∧ True) σ') (r := []) zk_92_105 rfl rfl rfl rfl rfl rfl (Or.inr ⟨_, _, _, _, rfl, vd_0, rfl⟩) (fun σ' h => (w_113 ((-6)) (by omega) σ' h.1.1 ).le (Nat.le_of_ble_eq_true rfl) (fun v σ2 ⟨y, h1, h2, h3, h4⟩ => ⟨y, h1, h2, h.1.tr h3 sb55_3ed9bfa, trivial⟩)) (pc' := 108) rfl (fun y11 => ?_)
          refine G_ex (fun hy11 => ?_)
          obtain rfl : y11 = (-6) := by omega
          exact T_iret zk_92_108 rfl (fun σ' h => ⟨_, rfl, (by omega), h.1, trivial⟩)
        ·
          refine T_ld zk_92_83 rfl rfl rfl (pc' := 84) rfl ?_
          refine T_getR (t' := 1) (i' := 0) (k' := 0) zk_92_84 rfl rfl rfl vd_0 (pc' := 87) rfl ?_
          refine G_getf (lo := 0) (hi := 9999) zk_92_87 rfl (vd_1 (by omega)) (fun σ' h => h.1.1) (fun _ h => h.2.2.2.2.2.2 (by omega) (by omega)) (pc' := 90) rfl (fun y12 hy12 hy12' => ?_)
          refine T_st (L' := [(0, av 0 0 0), (1, iv p0), (2, iv p1), (3, iv y12)]) zk_92_90 (nL := 4) rfl rfl rfl rfl rfl (pc' := 91) rfl ?_
          refine T_ld zk_92_91 rfl rfl rfl (pc' := 92) rfl ?_
          refine T_getR (t' := 1) (i' := 0) (k' := 0) zk_92_92 rfl rfl rfl vd_0 (pc' := 95) rfl ?_
          refine T_ld zk_92_95 rfl rfl rfl (pc' := 96) rfl ?_
          refine T_putf (J' := (fun σ' => IF (MC 10 13 28) σ σ' ∧ σ' 1 0 0 12 = p1 ∧ True)) zk_92_96 rfl rfl (vd_1 (by omega)) (fun σ' h => ⟨h.1.up (by simp only [rgP] <;> omega) (by first | exact pMC rfl | (unfold MC; omega)), up_eq, trivial⟩) (pc' := 99) rfl ?_
          refine T_goto zk_92_99 ?_
          refine T_ld zk_92_109 rfl rfl rfl (pc' := 110) rfl ?_
          exact T_iret zk_92_110 rfl (fun σ' h => ⟨_, rfl, (by omega), h.1, trivial⟩)
    ·
      refine T_ld zk_92_38 rfl rfl rfl (pc' := 39) rfl ?_
      refine T_op zk_92_39 rfl X_ic (pc' := 40) rfl ?_
      refine T_op zk_92_40 rfl (X_bi (v := 9) (by decide)) (pc' := 42) rfl ?_
      refine T_calli (K := fun y13 σ' => ((y13 = 0 ∧ (p1 < 1 ∨ 9 < p1)) ∨ (y13 = 1 ∧ 1 ≤ p1 ∧ p1 ≤ 9)) ∧ (fun σ' => IF (MC 10 13 28) σ σ' ∧ True) σ') (r := []) zk_92_42 rfl rfl rfl rfl rfl rfl (Or.inl (Or.inl rfl)) (fun σ' h => (w_114 p1 1 9 (by omega) (by omega) (by omega) σ' h.1.1 ).le (Nat.le_of_ble_eq_true rfl) (fun v σ2 ⟨y, h1, h2, h3, h4⟩ => ⟨y, h1, h2, h.1.tr h3 MN_sub, trivial⟩)) (pc' := 45) rfl (fun y13 => ?_)
      refine G_ex (fun hy13 => ?_)
      refine T_if_eq zk_92_45 (by omega) (pc' := 48) rfl (fun h14 => ?_) (fun h15 => ?_)
      ·
        refine T_ld zk_92_67 rfl rfl rfl (pc' := 68) rfl ?_
        refine T_op zk_92_68 rfl X_ic (pc' := 69) rfl ?_
        refine T_icmp_ne zk_92_69 (by omega) (by omega) (pc' := 72) rfl (fun h16 => ?_) (fun h17 => ?_)
        ·
          refine T_ld zk_92_102 rfl rfl rfl (pc' := 103) rfl ?_
          refine T_op zk_92_103 rfl (X_bi (v := -6) (by decide)) (pc' := 105) rfl ?_
          refine T_calli (K := fun y18 σ' => (y18 = (-6)) ∧ (fun σ' => IF (MC 10 13 28) σ σ' ∧ True) σ') (r := []) zk_92_105 rfl rfl rfl rfl rfl rfl (Or.inr ⟨_, _, _, _, rfl, vd_0, rfl⟩) (fun σ' h => (w_113 ((-6)) (by omega) σ' h.1.1 ).le (Nat.le_of_ble_eq_true rfl) (fun v σ2 ⟨y, h1, h2, h3, h4⟩ => ⟨y, h1, h2, h.1.tr h3 sb55_3ed9bfa, trivial⟩)) (pc' := 108) rfl (fun y18 => ?_)
          refine G_ex (fun hy18 => ?_)
          obtain rfl : y18 = (-6) := by omega
          exact T_iret zk_92_108 rfl (fun σ' h => ⟨_, rfl, (by omega), h.1, trivial⟩)
        · exfalso; omega
      ·
        refine T_ld zk_92_48 rfl rfl rfl (pc' := 49) rfl ?_
        refine T_getR (t' := 1) (i' := 0) (k' := 0) zk_92_49 rfl rfl rfl vd_0 (pc' := 52) rfl ?_
        refine G_getf (lo := 1) (hi := 9) zk_92_52 rfl (vd_1 (by omega)) (fun σ' h => h.1.1) (fun _ h => h.2.2.2.2.2.1 (by omega) (by omega)) (pc' := 55) rfl (fun y19 hy19 hy19' => ?_)
        refine T_st (L' := [(0, av 0 0 0), (1, iv p0), (2, iv p1), (3, iv y19)]) zk_92_55 (nL := 4) rfl rfl rfl rfl rfl (pc' := 56) rfl ?_
        refine T_ld zk_92_56 rfl rfl rfl (pc' := 57) rfl ?_
        refine T_getR (t' := 1) (i' := 0) (k' := 0) zk_92_57 rfl rfl rfl vd_0 (pc' := 60) rfl ?_
        refine T_ld zk_92_60 rfl rfl rfl (pc' := 61) rfl ?_
        refine T_putf (J' := (fun σ' => IF (MC 10 13 28) σ σ' ∧ σ' 1 0 0 11 = p1 ∧ True)) zk_92_61 rfl rfl (vd_1 (by omega)) (fun σ' h => ⟨h.1.up (by simp only [rgP] <;> omega) (by first | exact pMC rfl | (unfold MC; omega)), up_eq, trivial⟩) (pc' := 64) rfl ?_
        refine T_goto zk_92_64 ?_
        refine T_ld zk_92_109 rfl rfl rfl (pc' := 110) rfl ?_
        exact T_iret zk_92_110 rfl (fun σ' h => ⟨_, rfl, (by omega), h.1, trivial⟩)
  ·
    refine T_ld zk_92_4 rfl rfl rfl (pc' := 5) rfl ?_
    refine T_op zk_92_5 rfl X_ic (pc' := 6) rfl ?_
    refine T_op zk_92_6 rfl (X_bi (v := 99) (by decide)) (pc' := 8) rfl ?_
    refine T_calli (K := fun y20 σ' => ((y20 = 0 ∧ (p1 < 0 ∨ 99 < p1)) ∨ (y20 = 1 ∧ 0 ≤ p1 ∧ p1 ≤ 99)) ∧ (fun σ' => IF (MC 10 13 28) σ σ' ∧ True) σ') (r := []) zk_92_8 rfl rfl rfl rfl rfl rfl (Or.inl (Or.inl rfl)) (fun σ' h => (w_114 p1 0 99 (by omega) (by omega) (by omega) σ' h.1.1 ).le (Nat.le_of_ble_eq_true rfl) (fun v σ2 ⟨y, h1, h2, h3, h4⟩ => ⟨y, h1, h2, h.1.tr h3 MN_sub, trivial⟩)) (pc' := 11) rfl (fun y20 => ?_)
    refine G_ex (fun hy20 => ?_)
    refine T_if_eq zk_92_11 (by omega) (pc' := 14) rfl (fun h21 => ?_) (fun h22 => ?_)
    ·
      refine T_ld zk_92_33 rfl rfl rfl (pc' := 34) rfl ?_
      refine T_op zk_92_34 rfl X_ic (pc' := 35) rfl ?_
      refine T_icmp_ne zk_92_35 (by omega) (by omega) (pc' := 38) rfl (fun h23 => ?_) (fun h24 => ?_)
      ·
        refine T_ld zk_92_67 rfl rfl rfl (pc' := 68) rfl ?_
        refine T_op zk_92_68 rfl X_ic (pc' := 69) rfl ?_
        refine T_icmp_ne zk_92_69 (by omega) (by omega) (pc' := 72) rfl (fun h25 => ?_) (fun h26 => ?_)
        ·
          refine T_ld zk_92_102 rfl rfl rfl (pc' := 103) rfl ?_
          refine T_op zk_92_103 rfl (X_bi (v := -6) (by decide)) (pc' := 105) rfl ?_
          refine T_calli (K := fun y27 σ' => (y27 = (-6)) ∧ (fun σ' => IF (MC 10 13 28) σ σ' ∧ True) σ') (r := []) zk_92_105 rfl rfl rfl rfl rfl rfl (Or.inr ⟨_, _, _, _, rfl, vd_0, rfl⟩) (fun σ' h => (w_113 ((-6)) (by omega) σ' h.1.1 ).le (Nat.le_of_ble_eq_true rfl) (fun v σ2 ⟨y, h1, h2, h3, h4⟩ => ⟨y, h1, h2, h.1.tr h3 sb55_3ed9bfa, trivial⟩)) (pc' := 108) rfl (fun y27 => ?_)
          refine G_ex (fun hy27 => ?_)
          obtain rfl : y27 = (-6) := by omega
          exact T_iret zk_92_108 rfl (fun σ' h => ⟨_, rfl, (by omega), h.1, trivial⟩)
        · exfalso; omega
      · exfalso; omega
    ·
      refine T_ld zk_92_14 rfl rfl rfl (pc' := 15) rfl ?_
      refine T_getR (t' := 1) (i' := 0) (k' := 0) zk_92_15 rfl rfl rfl vd_0 (pc' := 18) rfl ?_
      refine G_getf (lo := 0) (hi := 99) zk_92_18 rfl (vd_1 (by omega)) (fun σ' h => h.1.1) (fun _ h => h.2.2.2.2.1 (by omega) (by omega)) (pc' := 21) rfl (fun y28 hy28 hy28' => ?_)
      refine T_st (L' := [(0, av 0 0 0), (1, iv p0), (2, iv p1), (3, iv y28)]) zk_92_21 (nL := 4) rfl rfl rfl rfl rfl (pc' := 22) rfl ?_
      refine T_ld zk_92_22 rfl rfl rfl (pc' := 23) rfl ?_
      refine T_getR (t' := 1) (i' := 0) (k' := 0) zk_92_23 rfl rfl rfl vd_0 (pc' := 26) rfl ?_
      refine T_ld zk_92_26 rfl rfl rfl (pc' := 27) rfl ?_
      refine T_putf (J' := (fun σ' => IF (MC 10 13 28) σ σ' ∧ σ' 1 0 0 10 = p1 ∧ True)) zk_92_27 rfl rfl (vd_1 (by omega)) (fun σ' h => ⟨h.1.up (by simp only [rgP] <;> omega) (by first | exact pMC rfl | (unfold MC; omega)), up_eq, trivial⟩) (pc' := 30) rfl ?_
      refine T_goto zk_92_30 ?_
      refine T_ld zk_92_109 rfl rfl rfl (pc' := 110) rfl ?_
      exact T_iret zk_92_110 rfl (fun σ' h => ⟨_, rfl, (by omega), h.1, trivial⟩)
theorem sb55_973b360 : ∀ t i k j, MR t i k j → MLw t i k j := by
  intro t i k j h
  unfold MR at h
  unfold MLw
  omega
theorem sb55_19a476b : ∀ t i k j, MI 0 23 24 24 24 t i k j → MLw t i k j := by
  intro t i k j h
  unfold MI at h
  unfold MLw
  omega
theorem sb55_cdeb806 : ∀ t i k j, MI 0 28 28 28 28 t i k j → MLw t i k j := by
  intro t i k j h
  unfold MI at h
  unfold MLw
  omega
theorem sb55_4f5664c : ∀ t i k j, MI 0 28 28 28 28 t i k j → MI 0 23 28 28 28 t i k j := by
  intro t i k j h
  unfold MI at h
  unfold MI
  omega
/-- W.force -/
theorem w_95 {xs : Nat × (Nat → Int32)} (p0 : Int) (p1 : Int) (hp0 : -2147483648 ≤ p0 ∧ p0 ≤ 2147483647) (hp1 : 0 ≤ p1 ∧ p1 ≤ 1) (σ : ZS) (hI : Inv σ)   : CT xs 3 95 [av 0 0 0, iv p0, iv p1] σ (fun v σ' => ∃ y, v = some (iv y) ∧ (-2147483648 ≤ y ∧ y ≤ 2147483647) ∧ IF (MI 0 23 28 28 28) σ σ' ∧ (True)) := by
  refine G_ct (J := (fun σ' => IF (MI 0 23 28 28 28) σ σ' ∧ True)) (L := [(0, av 0 0 0), (1, iv p0), (2, iv p1)]) (nL := 4) rfl rfl rfl ⟨IF.rf hI, trivial⟩ ?_
  refine T_ld zk_95_0 rfl rfl rfl (pc' := 1) rfl ?_
  refine T_op zk_95_1 rfl X_ic (pc' := 2) rfl ?_
  refine T_ld zk_95_2 rfl rfl rfl (pc' := 3) rfl ?_
  refine T_getR (t' := 1) (i' := 0) (k' := 0) zk_95_3 rfl rfl rfl vd_0 (pc' := 6) rfl ?_
  refine G_getf (lo := 0) (hi := 5) zk_95_6 rfl (vd_1 (by omega)) (fun σ' h => h.1.1) (fun _ h => h.2.1 (by omega) (by omega)) (pc' := 9) rfl (fun y1 hy1 hy1' => ?_)
  refine T_op zk_95_9 rfl X_ic (pc' := 10) rfl ?_
  refine T_op zk_95_10 rfl X_sub (pc' := 11) rfl ?_
  refine T_calli (K := fun y2 σ' => ((y2 = 0 ∧ (p0 < 0 ∨ y1 - 1 < p0)) ∨ (y2 = 1 ∧ 0 ≤ p0 ∧ p0 ≤ y1 - 1)) ∧ (fun σ' => IF (MI 0 23 28 28 28) σ σ' ∧ True) σ') (r := []) zk_95_11 rfl rfl rfl rfl rfl rfl (Or.inl (Or.inl rfl)) (fun σ' h => (w_114 p0 0 (y1 - 1) (by omega) (by omega) (by omega) σ' h.1.1 ).le (Nat.le_of_ble_eq_true rfl) (fun v σ2 ⟨y, h1, h2, h3, h4⟩ => ⟨y, h1, h2, h.1.tr h3 MN_sub, trivial⟩)) (pc' := 14) rfl (fun y2 => ?_)
  refine G_ex (fun hy2 => ?_)
  refine T_if_ne zk_95_14 (by omega) (pc' := 17) rfl (fun h3 => ?_) (fun h4 => ?_)
  ·
    refine T_ld zk_95_23 rfl rfl rfl (pc' := 24) rfl ?_
    refine T_getR (t' := 1) (i' := 0) (k' := 0) zk_95_24 rfl rfl rfl vd_0 (pc' := 27) rfl ?_
    refine T_getR (t' := 14) (i' := 0) (k' := 0) zk_95_27 rfl rfl rfl (vd_1 (by omega)) (pc' := 30) rfl ?_
    refine T_ld zk_95_30 rfl rfl rfl (pc' := 31) rfl ?_
    refine G_aald (t' := 23) (im := 9) (i' := 0) (ln := 5) zk_95_31 rfl rfl rfl (vd_14 (by omega)) (by omega) (by omega) (by omega) (pc' := 32) rfl ?_
    refine G_getf (lo := 0) (hi := 1) zk_95_32 rfl (vd_23 (by omega) (by omega)) (fun σ' h => h.1.1) (fun _ h => h.2.2 (by omega) (by omega)) (pc' := 35) rfl (fun y5 hy5 hy5' => ?_)
    refine T_st (L' := [(0, av 0 0 0), (1, iv p0), (2, iv p1), (3, iv y5)]) zk_95_35 (nL := 4) rfl rfl rfl rfl rfl (pc' := 36) rfl ?_
    refine T_ld zk_95_36 rfl rfl rfl (pc' := 37) rfl ?_
    refine T_getR (t' := 1) (i' := 0) (k' := 0) zk_95_37 rfl rfl rfl vd_0 (pc' := 40) rfl ?_
    refine T_getR (t' := 14) (i' := 0) (k' := 0) zk_95_40 rfl rfl rfl (vd_1 (by omega)) (pc' := 43) rfl ?_
    refine T_ld zk_95_43 rfl rfl rfl (pc' := 44) rfl ?_
    refine G_aald (t' := 23) (im := 9) (i' := 0) (ln := 5) zk_95_44 rfl rfl rfl (vd_14 (by omega)) (by omega) (by omega) (by omega) (pc' := 45) rfl ?_
    refine T_ld zk_95_45 rfl rfl rfl (pc' := 46) rfl ?_
    refine T_putz (J' := (fun σ' => IF (MI 0 23 28 28 28) σ σ' ∧ σ' 23 0 (Int.toNat p0) 1 = p1 ∧ True)) zk_95_46 rfl rfl (by omega) (vd_23 (by omega) (by omega)) (fun σ' h => ⟨h.1.up (by simp only [rgP] <;> omega) (by unfold MI; omega), up_eq, trivial⟩) (pc' := 49) rfl ?_
    refine T_ld zk_95_49 rfl rfl rfl (pc' := 50) rfl ?_
    refine T_ld zk_95_50 rfl rfl rfl (pc' := 51) rfl ?_
    refine T_icmp_ne zk_95_51 (by omega) (by omega) (pc' := 54) rfl (fun h6 => ?_) (fun h7 => ?_)
    ·
      refine T_op zk_95_58 rfl X_ic (pc' := 59) rfl ?_
      exact T_iret zk_95_59 rfl (fun σ' h => ⟨_, rfl, (by omega), h.1, trivial⟩)
    ·
      refine T_op zk_95_54 rfl X_ic (pc' := 55) rfl ?_
      refine T_goto zk_95_55 ?_
      exact T_iret zk_95_59 rfl (fun σ' h => ⟨_, rfl, (by omega), h.1, trivial⟩)
  ·
    refine T_ld zk_95_17 rfl rfl rfl (pc' := 18) rfl ?_
    refine T_op zk_95_18 rfl X_ic (pc' := 19) rfl ?_
    refine T_calli (K := fun y8 σ' => (y8 = (-1)) ∧ (fun σ' => IF (MI 0 23 28 28 28) σ σ' ∧ True) σ') (r := []) zk_95_19 rfl rfl rfl rfl rfl rfl (Or.inr ⟨_, _, _, _, rfl, vd_0, rfl⟩) (fun σ' h => (w_113 ((-1)) (by omega) σ' h.1.1 ).le (Nat.le_of_ble_eq_true rfl) (fun v σ2 ⟨y, h1, h2, h3, h4⟩ => ⟨y, h1, h2, h.1.tr h3 sb55_4f5664c, trivial⟩)) (pc' := 22) rfl (fun y8 => ?_)
    refine G_ex (fun hy8 => ?_)
    obtain rfl : y8 = (-1) := by omega
    exact T_iret zk_95_22 rfl (fun σ' h => ⟨_, rfl, (by omega), h.1, trivial⟩)
theorem sb55_4dd3314 : ∀ t i k j, MI 0 21 21 21 21 t i k j → MI 0 21 28 28 28 t i k j := by
  intro t i k j h
  unfold MI at h
  unfold MI
  omega
/-- W.says -/
theorem w_96 {xs : Nat × (Nat → Int32)} (p0 : Int) (hp0 : -2147483648 ≤ p0 ∧ p0 ≤ 2147483647) (σ : ZS) (hI : Inv σ)   : CT xs 3 96 [av 0 0 0, iv p0] σ (fun v σ' => ∃ y, v = some (iv y) ∧ (-2147483648 ≤ y ∧ y ≤ 2147483647) ∧ IF (MI 0 21 28 28 28) σ σ' ∧ (True)) := by
  refine G_ct (J := (fun σ' => IF (MI 0 21 28 28 28) σ σ' ∧ True)) (L := [(0, av 0 0 0), (1, iv p0)]) (nL := 2) rfl rfl rfl ⟨IF.rf hI, trivial⟩ ?_
  refine T_ld zk_96_0 rfl rfl rfl (pc' := 1) rfl ?_
  refine T_op zk_96_1 rfl X_ic (pc' := 2) rfl ?_
  refine T_ld zk_96_2 rfl rfl rfl (pc' := 3) rfl ?_
  refine T_getR (t' := 1) (i' := 0) (k' := 0) zk_96_3 rfl rfl rfl vd_0 (pc' := 6) rfl ?_
  refine G_getf (lo := 0) (hi := 5) zk_96_6 rfl (vd_1 (by omega)) (fun σ' h => h.1.1) (fun _ h => h.2.1 (by omega) (by omega)) (pc' := 9) rfl (fun y1 hy1 hy1' => ?_)
  refine T_op zk_96_9 rfl X_ic (pc' := 10) rfl ?_
  refine T_op zk_96_10 rfl X_sub (pc' := 11) rfl ?_
  refine T_calli (K := fun y2 σ' => ((y2 = 0 ∧ (p0 < 0 ∨ y1 - 1 < p0)) ∨ (y2 = 1 ∧ 0 ≤ p0 ∧ p0 ≤ y1 - 1)) ∧ (fun σ' => IF (MI 0 21 28 28 28) σ σ' ∧ True) σ') (r := []) zk_96_11 rfl rfl rfl rfl rfl rfl (Or.inl (Or.inl rfl)) (fun σ' h => (w_114 p0 0 (y1 - 1) (by omega) (by omega) (by omega) σ' h.1.1 ).le (Nat.le_of_ble_eq_true rfl) (fun v σ2 ⟨y, h1, h2, h3, h4⟩ => ⟨y, h1, h2, h.1.tr h3 MN_sub, trivial⟩)) (pc' := 14) rfl (fun y2 => ?_)
  refine G_ex (fun hy2 => ?_)
  refine T_if_ne zk_96_14 (by omega) (pc' := 17) rfl (fun h3 => ?_) (fun h4 => ?_)
  ·
    refine T_ld zk_96_19 rfl rfl rfl (pc' := 20) rfl ?_
    refine T_getR (t' := 1) (i' := 0) (k' := 0) zk_96_20 rfl rfl rfl vd_0 (pc' := 23) rfl ?_
    refine T_callv (J' := (fun σ' => IF (MI 0 21 28 28 28) σ σ' ∧ True)) (r := []) zk_96_23 rfl rfl rfl rfl rfl rfl (Or.inr ⟨_, _, _, _, rfl, (vd_1 (by omega)), rfl⟩) (fun σ' h => (w_11 0 (by omega) σ' h.1.1 ).le (Nat.le_of_ble_eq_true rfl) (fun v σ2 ⟨h1, h3, h4⟩ => ⟨h1, h.1.tr h3 sb55_4dd3314, trivial⟩)) (pc' := 26) rfl ?_
    refine T_ld zk_96_26 rfl rfl rfl (pc' := 27) rfl ?_
    refine T_getR (t' := 1) (i' := 0) (k' := 0) zk_96_27 rfl rfl rfl vd_0 (pc' := 30) rfl ?_
    refine T_getR (t' := 14) (i' := 0) (k' := 0) zk_96_30 rfl rfl rfl (vd_1 (by omega)) (pc' := 33) rfl ?_
    refine T_ld zk_96_33 rfl rfl rfl (pc' := 34) rfl ?_
    refine G_aald (t' := 23) (im := 9) (i' := 0) (ln := 5) zk_96_34 rfl rfl rfl (vd_14 (by omega)) (by omega) (by omega) (by omega) (pc' := 35) rfl ?_
    refine T_ld zk_96_35 rfl rfl rfl (pc' := 36) rfl ?_
    refine T_getR (t' := 1) (i' := 0) (k' := 0) zk_96_36 rfl rfl rfl vd_0 (pc' := 39) rfl ?_
    refine T_getR (t' := 21) (i' := 0) (k' := 0) zk_96_39 rfl rfl rfl (vd_1 (by omega)) (pc' := 42) rfl ?_
    refine T_calli (K := fun y6 σ' => (y6 = 0 ∨ y6 = 1) ∧ (fun σ' => IF (MI 0 21 28 28 28) σ σ' ∧ True) σ') (r := []) zk_96_42 rfl rfl rfl rfl rfl rfl (Or.inr ⟨_, _, _, _, rfl, (vd_23 (by omega) (by omega)), rfl⟩) (fun σ' h => (w_44 0 (Int.toNat p0) (by omega) (by omega) σ' h.1.1 ).le (Nat.le_of_ble_eq_true rfl) (fun v σ2 ⟨y, h1, h2, h3, h4⟩ => ⟨y, h1, h2, h.1.tr h3 MN_sub, trivial⟩)) (pc' := 45) rfl (fun y6 => ?_)
    refine G_ex (fun hy6 => ?_)
    refine T_if_eq zk_96_45 (by omega) (pc' := 48) rfl (fun h7 => ?_) (fun h8 => ?_)
    ·
      refine T_op zk_96_52 rfl X_ic (pc' := 53) rfl ?_
      exact T_iret zk_96_53 rfl (fun σ' h => ⟨_, rfl, (by omega), h.1, trivial⟩)
    ·
      refine T_op zk_96_48 rfl X_ic (pc' := 49) rfl ?_
      refine T_goto zk_96_49 ?_
      exact T_iret zk_96_53 rfl (fun σ' h => ⟨_, rfl, (by omega), h.1, trivial⟩)
  ·
    refine T_op zk_96_17 rfl X_ic (pc' := 18) rfl ?_
    exact T_iret zk_96_18 rfl (fun σ' h => ⟨_, rfl, (by omega), h.1, trivial⟩)
