theorem zk_75_0 : zc 75 0 = some (.iload_n 1, 0, 0, 0, 0) := rfl
theorem zk_75_1 : zc 75 1 = some (.invokestatic 44, 115, 1, 1, 87) := rfl
theorem zk_75_4 : zc 75 4 = some (.ifCond .ne 9, 13, 0, 0, 0) := rfl
theorem zk_75_7 : zc 75 7 = some (.aload_n 0, 0, 0, 0, 0) := rfl
theorem zk_75_8 : zc 75 8 = some (.iconst (-1), 0, 0, 0, 0) := rfl
theorem zk_75_9 : zc 75 9 = some (.invokevirtual 48, 113, 0, 2, 88) := rfl
theorem zk_75_12 : zc 75 12 = some (.ireturn, 0, 0, 0, 0) := rfl
theorem zk_75_13 : zc 75 13 = some (.iload_n 2, 0, 0, 0, 0) := rfl
theorem zk_75_14 : zc 75 14 = some (.iconst 0, 0, 0, 0, 0) := rfl
theorem zk_75_15 : zc 75 15 = some (.bipush 60, 0, 0, 0, 0) := rfl
theorem zk_75_17 : zc 75 17 = some (.invokestatic 52, 114, 1, 3, 89) := rfl
theorem zk_75_20 : zc 75 20 = some (.ifCond .ne 10, 30, 0, 0, 0) := rfl
theorem zk_75_23 : zc 75 23 = some (.aload_n 0, 0, 0, 0, 0) := rfl
theorem zk_75_24 : zc 75 24 = some (.bipush (-6), 0, 0, 0, 0) := rfl
theorem zk_75_26 : zc 75 26 = some (.invokevirtual 48, 113, 0, 2, 88) := rfl
theorem zk_75_29 : zc 75 29 = some (.ireturn, 0, 0, 0, 0) := rfl
theorem zk_75_30 : zc 75 30 = some (.aload_n 0, 0, 0, 0, 0) := rfl
theorem zk_75_31 : zc 75 31 = some (.getfield 10, 10, 0, 0, 91) := rfl
theorem zk_75_34 : zc 75 34 = some (.getfield 56, 2, 0, 0, 98) := rfl
theorem zk_75_37 : zc 75 37 = some (.getfield 60, 4, 0, 0, 99) := rfl
theorem zk_75_40 : zc 75 40 = some (.iload_n 1, 0, 0, 0, 0) := rfl
theorem zk_75_41 : zc 75 41 = some (.iaload, 0, 0, 0, 0) := rfl
theorem zk_75_42 : zc 75 42 = some (.istore_n 3, 0, 0, 0, 0) := rfl
theorem zk_75_43 : zc 75 43 = some (.aload_n 0, 0, 0, 0, 0) := rfl
theorem zk_75_44 : zc 75 44 = some (.getfield 10, 10, 0, 0, 91) := rfl
theorem zk_75_47 : zc 75 47 = some (.getfield 56, 2, 0, 0, 98) := rfl
theorem zk_75_50 : zc 75 50 = some (.getfield 60, 4, 0, 0, 99) := rfl
theorem zk_75_53 : zc 75 53 = some (.iload_n 1, 0, 0, 0, 0) := rfl
theorem zk_75_54 : zc 75 54 = some (.iload_n 2, 0, 0, 0, 0) := rfl
theorem zk_75_55 : zc 75 55 = some (.iastore, 0, 0, 0, 0) := rfl
theorem zk_75_56 : zc 75 56 = some (.iload_n 3, 0, 0, 0, 0) := rfl
theorem zk_75_57 : zc 75 57 = some (.ireturn, 0, 0, 0, 0) := rfl
theorem zk_76_0 : zc 76 0 = some (.iload_n 1, 0, 0, 0, 0) := rfl
theorem zk_76_1 : zc 76 1 = some (.invokestatic 44, 115, 1, 1, 87) := rfl
theorem zk_76_4 : zc 76 4 = some (.ifCond .ne 9, 13, 0, 0, 0) := rfl
theorem zk_76_7 : zc 76 7 = some (.aload_n 0, 0, 0, 0, 0) := rfl
theorem zk_76_8 : zc 76 8 = some (.iconst (-1), 0, 0, 0, 0) := rfl
theorem zk_76_9 : zc 76 9 = some (.invokevirtual 48, 113, 0, 2, 88) := rfl
theorem zk_76_12 : zc 76 12 = some (.ireturn, 0, 0, 0, 0) := rfl
theorem zk_76_13 : zc 76 13 = some (.iload_n 2, 0, 0, 0, 0) := rfl
theorem zk_76_14 : zc 76 14 = some (.sipush (-300), 0, 0, 0, 0) := rfl
theorem zk_76_17 : zc 76 17 = some (.sipush 300, 0, 0, 0, 0) := rfl
theorem zk_76_20 : zc 76 20 = some (.invokestatic 52, 114, 1, 3, 89) := rfl
theorem zk_76_23 : zc 76 23 = some (.ifCond .ne 10, 33, 0, 0, 0) := rfl
theorem zk_76_26 : zc 76 26 = some (.aload_n 0, 0, 0, 0, 0) := rfl
theorem zk_76_27 : zc 76 27 = some (.bipush (-6), 0, 0, 0, 0) := rfl
theorem zk_76_29 : zc 76 29 = some (.invokevirtual 48, 113, 0, 2, 88) := rfl
theorem zk_76_32 : zc 76 32 = some (.ireturn, 0, 0, 0, 0) := rfl
theorem zk_76_33 : zc 76 33 = some (.aload_n 0, 0, 0, 0, 0) := rfl
theorem zk_76_34 : zc 76 34 = some (.getfield 10, 10, 0, 0, 91) := rfl
theorem zk_76_37 : zc 76 37 = some (.getfield 56, 2, 0, 0, 98) := rfl
theorem zk_76_40 : zc 76 40 = some (.getfield 65, 4, 1, 0, 100) := rfl
theorem zk_76_43 : zc 76 43 = some (.iload_n 1, 0, 0, 0, 0) := rfl
theorem zk_76_44 : zc 76 44 = some (.iaload, 0, 0, 0, 0) := rfl
theorem zk_76_45 : zc 76 45 = some (.istore_n 3, 0, 0, 0, 0) := rfl
theorem zk_76_46 : zc 76 46 = some (.aload_n 0, 0, 0, 0, 0) := rfl
theorem zk_76_47 : zc 76 47 = some (.getfield 10, 10, 0, 0, 91) := rfl
theorem zk_76_50 : zc 76 50 = some (.getfield 56, 2, 0, 0, 98) := rfl
theorem zk_76_53 : zc 76 53 = some (.getfield 65, 4, 1, 0, 100) := rfl
theorem zk_76_56 : zc 76 56 = some (.iload_n 1, 0, 0, 0, 0) := rfl
theorem zk_76_57 : zc 76 57 = some (.iload_n 2, 0, 0, 0, 0) := rfl
theorem zk_76_58 : zc 76 58 = some (.iastore, 0, 0, 0, 0) := rfl
theorem zk_76_59 : zc 76 59 = some (.aload_n 0, 0, 0, 0, 0) := rfl
theorem zk_76_60 : zc 76 60 = some (.getfield 10, 10, 0, 0, 91) := rfl
theorem zk_76_63 : zc 76 63 = some (.dup, 0, 0, 0, 0) := rfl
theorem zk_76_64 : zc 76 64 = some (.getfield 68, 2, 16, 0, 101) := rfl
theorem zk_76_67 : zc 76 67 = some (.iload_n 2, 0, 0, 0, 0) := rfl
theorem zk_76_68 : zc 76 68 = some (.iload_n 3, 0, 0, 0, 0) := rfl
theorem zk_76_69 : zc 76 69 = some (.isub, 0, 0, 0, 0) := rfl
theorem zk_76_70 : zc 76 70 = some (.iadd, 0, 0, 0, 0) := rfl
theorem zk_76_71 : zc 76 71 = some (.putfield 68, 2, 16, 0, 101) := rfl
theorem zk_76_74 : zc 76 74 = some (.iload_n 3, 0, 0, 0, 0) := rfl
theorem zk_76_75 : zc 76 75 = some (.ireturn, 0, 0, 0, 0) := rfl
theorem zk_77_0 : zc 77 0 = some (.iload_n 1, 0, 0, 0, 0) := rfl
theorem zk_77_1 : zc 77 1 = some (.iload_n 2, 0, 0, 0, 0) := rfl
theorem zk_77_2 : zc 77 2 = some (.invokestatic 71, 30, 1, 2, 90) := rfl
theorem zk_77_5 : zc 77 5 = some (.istore 4, 0, 0, 0, 0) := rfl
theorem zk_77_7 : zc 77 7 = some (.iload 4, 0, 0, 0, 0) := rfl
theorem zk_77_9 : zc 77 9 = some (.iconst (-1), 0, 0, 0, 0) := rfl
theorem zk_77_10 : zc 77 10 = some (.if_icmp .ne 9, 19, 0, 0, 0) := rfl
theorem zk_77_13 : zc 77 13 = some (.aload_n 0, 0, 0, 0, 0) := rfl
theorem zk_77_14 : zc 77 14 = some (.iconst (-1), 0, 0, 0, 0) := rfl
theorem zk_77_15 : zc 77 15 = some (.invokevirtual 48, 113, 0, 2, 88) := rfl
theorem zk_77_18 : zc 77 18 = some (.ireturn, 0, 0, 0, 0) := rfl
theorem zk_77_19 : zc 77 19 = some (.aload_n 0, 0, 0, 0, 0) := rfl
theorem zk_77_20 : zc 77 20 = some (.getfield 10, 10, 0, 0, 91) := rfl
theorem zk_77_23 : zc 77 23 = some (.getfield 56, 2, 0, 0, 98) := rfl
theorem zk_77_26 : zc 77 26 = some (.getfield 75, 4, 5, 0, 102) := rfl
theorem zk_77_29 : zc 77 29 = some (.iload 4, 0, 0, 0, 0) := rfl
theorem zk_77_31 : zc 77 31 = some (.iload_n 3, 0, 0, 0, 0) := rfl
theorem zk_77_32 : zc 77 32 = some (.invokestatic 79, 121, 1, 3, 91) := rfl
theorem zk_77_35 : zc 77 35 = some (.ireturn, 0, 0, 0, 0) := rfl
theorem zk_78_0 : zc 78 0 = some (.iload_n 1, 0, 0, 0, 0) := rfl
theorem zk_78_1 : zc 78 1 = some (.iload_n 2, 0, 0, 0, 0) := rfl
theorem zk_78_2 : zc 78 2 = some (.invokestatic 71, 30, 1, 2, 90) := rfl
theorem zk_78_5 : zc 78 5 = some (.istore 4, 0, 0, 0, 0) := rfl
theorem zk_78_7 : zc 78 7 = some (.iload 4, 0, 0, 0, 0) := rfl
theorem zk_78_9 : zc 78 9 = some (.iconst (-1), 0, 0, 0, 0) := rfl
theorem zk_78_10 : zc 78 10 = some (.if_icmp .ne 9, 19, 0, 0, 0) := rfl
theorem zk_78_13 : zc 78 13 = some (.aload_n 0, 0, 0, 0, 0) := rfl
theorem zk_78_14 : zc 78 14 = some (.iconst (-1), 0, 0, 0, 0) := rfl
theorem zk_78_15 : zc 78 15 = some (.invokevirtual 48, 113, 0, 2, 88) := rfl
theorem zk_78_18 : zc 78 18 = some (.ireturn, 0, 0, 0, 0) := rfl
theorem zk_78_19 : zc 78 19 = some (.aload_n 0, 0, 0, 0, 0) := rfl
theorem zk_78_20 : zc 78 20 = some (.getfield 10, 10, 0, 0, 91) := rfl
theorem zk_78_23 : zc 78 23 = some (.getfield 56, 2, 0, 0, 98) := rfl
theorem zk_78_26 : zc 78 26 = some (.getfield 83, 4, 6, 0, 103) := rfl
theorem zk_78_29 : zc 78 29 = some (.iload 4, 0, 0, 0, 0) := rfl
theorem zk_78_31 : zc 78 31 = some (.iload_n 3, 0, 0, 0, 0) := rfl
theorem zk_78_32 : zc 78 32 = some (.invokestatic 79, 121, 1, 3, 91) := rfl
theorem zk_78_35 : zc 78 35 = some (.ireturn, 0, 0, 0, 0) := rfl
theorem zk_79_0 : zc 79 0 = some (.iload_n 1, 0, 0, 0, 0) := rfl
theorem zk_79_1 : zc 79 1 = some (.iload_n 2, 0, 0, 0, 0) := rfl
theorem zk_79_2 : zc 79 2 = some (.invokestatic 71, 30, 1, 2, 90) := rfl
theorem zk_79_5 : zc 79 5 = some (.istore 4, 0, 0, 0, 0) := rfl
theorem zk_79_7 : zc 79 7 = some (.iload 4, 0, 0, 0, 0) := rfl
theorem zk_79_9 : zc 79 9 = some (.iconst (-1), 0, 0, 0, 0) := rfl
theorem zk_79_10 : zc 79 10 = some (.if_icmp .ne 9, 19, 0, 0, 0) := rfl
theorem zk_79_13 : zc 79 13 = some (.aload_n 0, 0, 0, 0, 0) := rfl
theorem zk_79_14 : zc 79 14 = some (.iconst (-1), 0, 0, 0, 0) := rfl
theorem zk_79_15 : zc 79 15 = some (.invokevirtual 48, 113, 0, 2, 88) := rfl
theorem zk_79_18 : zc 79 18 = some (.ireturn, 0, 0, 0, 0) := rfl
theorem zk_79_19 : zc 79 19 = some (.iload_n 3, 0, 0, 0, 0) := rfl
theorem zk_79_20 : zc 79 20 = some (.iconst (-1), 0, 0, 0, 0) := rfl
theorem zk_79_21 : zc 79 21 = some (.bipush 99, 0, 0, 0, 0) := rfl
theorem zk_79_23 : zc 79 23 = some (.invokestatic 52, 114, 1, 3, 89) := rfl
theorem zk_79_26 : zc 79 26 = some (.ifCond .ne 10, 36, 0, 0, 0) := rfl
theorem zk_79_29 : zc 79 29 = some (.aload_n 0, 0, 0, 0, 0) := rfl
theorem zk_79_30 : zc 79 30 = some (.bipush (-6), 0, 0, 0, 0) := rfl
theorem zk_79_32 : zc 79 32 = some (.invokevirtual 48, 113, 0, 2, 88) := rfl
theorem zk_79_35 : zc 79 35 = some (.ireturn, 0, 0, 0, 0) := rfl
theorem zk_79_36 : zc 79 36 = some (.aload_n 0, 0, 0, 0, 0) := rfl
theorem zk_79_37 : zc 79 37 = some (.getfield 10, 10, 0, 0, 91) := rfl
theorem zk_79_40 : zc 79 40 = some (.getfield 56, 2, 0, 0, 98) := rfl
theorem zk_79_43 : zc 79 43 = some (.getfield 86, 4, 4, 0, 104) := rfl
theorem zk_79_46 : zc 79 46 = some (.iload 4, 0, 0, 0, 0) := rfl
theorem zk_79_48 : zc 79 48 = some (.iaload, 0, 0, 0, 0) := rfl
theorem zk_79_49 : zc 79 49 = some (.istore 5, 0, 0, 0, 0) := rfl
theorem zk_79_51 : zc 79 51 = some (.aload_n 0, 0, 0, 0, 0) := rfl
theorem zk_79_52 : zc 79 52 = some (.getfield 10, 10, 0, 0, 91) := rfl
theorem zk_79_55 : zc 79 55 = some (.getfield 56, 2, 0, 0, 98) := rfl
theorem zk_79_58 : zc 79 58 = some (.getfield 86, 4, 4, 0, 104) := rfl
theorem zk_79_61 : zc 79 61 = some (.iload 4, 0, 0, 0, 0) := rfl
theorem zk_79_63 : zc 79 63 = some (.iload_n 3, 0, 0, 0, 0) := rfl
theorem zk_79_64 : zc 79 64 = some (.iastore, 0, 0, 0, 0) := rfl
theorem zk_79_65 : zc 79 65 = some (.iload 5, 0, 0, 0, 0) := rfl
theorem zk_79_67 : zc 79 67 = some (.ireturn, 0, 0, 0, 0) := rfl
theorem zk_80_0 : zc 80 0 = some (.iload_n 1, 0, 0, 0, 0) := rfl
theorem zk_80_1 : zc 80 1 = some (.invokestatic 44, 115, 1, 1, 87) := rfl
theorem zk_80_4 : zc 80 4 = some (.ifCond .ne 9, 13, 0, 0, 0) := rfl
theorem zk_80_7 : zc 80 7 = some (.aload_n 0, 0, 0, 0, 0) := rfl
theorem zk_80_8 : zc 80 8 = some (.iconst (-1), 0, 0, 0, 0) := rfl
theorem zk_80_9 : zc 80 9 = some (.invokevirtual 48, 113, 0, 2, 88) := rfl
theorem zk_80_12 : zc 80 12 = some (.ireturn, 0, 0, 0, 0) := rfl
theorem zk_80_13 : zc 80 13 = some (.iload_n 2, 0, 0, 0, 0) := rfl
theorem zk_80_14 : zc 80 14 = some (.iconst 1, 0, 0, 0, 0) := rfl
theorem zk_80_15 : zc 80 15 = some (.bipush 20, 0, 0, 0, 0) := rfl
theorem zk_80_17 : zc 80 17 = some (.invokestatic 52, 114, 1, 3, 89) := rfl
theorem zk_80_20 : zc 80 20 = some (.ifCond .ne 10, 30, 0, 0, 0) := rfl
theorem zk_80_23 : zc 80 23 = some (.aload_n 0, 0, 0, 0, 0) := rfl
theorem zk_80_24 : zc 80 24 = some (.bipush (-6), 0, 0, 0, 0) := rfl
theorem zk_80_26 : zc 80 26 = some (.invokevirtual 48, 113, 0, 2, 88) := rfl
theorem zk_80_29 : zc 80 29 = some (.ireturn, 0, 0, 0, 0) := rfl
theorem zk_80_30 : zc 80 30 = some (.aload_n 0, 0, 0, 0, 0) := rfl
theorem zk_80_31 : zc 80 31 = some (.getfield 10, 10, 0, 0, 91) := rfl
theorem zk_80_34 : zc 80 34 = some (.getfield 56, 2, 0, 0, 98) := rfl
theorem zk_80_37 : zc 80 37 = some (.getfield 60, 4, 0, 0, 99) := rfl
theorem zk_80_40 : zc 80 40 = some (.iload_n 1, 0, 0, 0, 0) := rfl
theorem zk_80_41 : zc 80 41 = some (.bipush 60, 0, 0, 0, 0) := rfl
theorem zk_80_43 : zc 80 43 = some (.aload_n 0, 0, 0, 0, 0) := rfl
theorem zk_80_44 : zc 80 44 = some (.getfield 10, 10, 0, 0, 91) := rfl
theorem zk_80_47 : zc 80 47 = some (.getfield 56, 2, 0, 0, 98) := rfl
theorem zk_80_50 : zc 80 50 = some (.getfield 60, 4, 0, 0, 99) := rfl
theorem zk_80_53 : zc 80 53 = some (.iload_n 1, 0, 0, 0, 0) := rfl
theorem zk_80_54 : zc 80 54 = some (.iaload, 0, 0, 0, 0) := rfl
theorem zk_80_55 : zc 80 55 = some (.iload_n 2, 0, 0, 0, 0) := rfl
theorem zk_80_56 : zc 80 56 = some (.iadd, 0, 0, 0, 0) := rfl
theorem zk_80_57 : zc 80 57 = some (.invokestatic 89, 0, 8, 0, 92) := rfl
theorem zk_80_60 : zc 80 60 = some (.iastore, 0, 0, 0, 0) := rfl
theorem zk_80_61 : zc 80 61 = some (.aload_n 0, 0, 0, 0, 0) := rfl
theorem zk_80_62 : zc 80 62 = some (.getfield 10, 10, 0, 0, 91) := rfl
theorem zk_80_65 : zc 80 65 = some (.getfield 56, 2, 0, 0, 98) := rfl
theorem zk_80_68 : zc 80 68 = some (.getfield 60, 4, 0, 0, 99) := rfl
theorem zk_80_71 : zc 80 71 = some (.iload_n 1, 0, 0, 0, 0) := rfl
theorem zk_80_72 : zc 80 72 = some (.iaload, 0, 0, 0, 0) := rfl
theorem zk_80_73 : zc 80 73 = some (.ireturn, 0, 0, 0, 0) := rfl
theorem zk_81_0 : zc 81 0 = some (.iload_n 1, 0, 0, 0, 0) := rfl
theorem zk_81_1 : zc 81 1 = some (.invokestatic 44, 115, 1, 1, 87) := rfl
theorem zk_81_4 : zc 81 4 = some (.ifCond .ne 9, 13, 0, 0, 0) := rfl
theorem zk_81_7 : zc 81 7 = some (.aload_n 0, 0, 0, 0, 0) := rfl
theorem zk_81_8 : zc 81 8 = some (.iconst (-1), 0, 0, 0, 0) := rfl
theorem zk_81_9 : zc 81 9 = some (.invokevirtual 48, 113, 0, 2, 88) := rfl
theorem zk_81_12 : zc 81 12 = some (.ireturn, 0, 0, 0, 0) := rfl
theorem zk_81_13 : zc 81 13 = some (.aload_n 0, 0, 0, 0, 0) := rfl
theorem zk_81_14 : zc 81 14 = some (.getfield 10, 10, 0, 0, 91) := rfl
theorem zk_81_17 : zc 81 17 = some (.getfield 94, 2, 1, 0, 105) := rfl
theorem zk_81_20 : zc 81 20 = some (.iload_n 1, 0, 0, 0, 0) := rfl
theorem zk_81_21 : zc 81 21 = some (.invokevirtual 98, 62, 0, 2, 93) := rfl
theorem zk_81_24 : zc 81 24 = some (.iconst (-1), 0, 0, 0, 0) := rfl
theorem zk_81_25 : zc 81 25 = some (.if_icmp .eq 10, 35, 0, 0, 0) := rfl
theorem zk_81_35 : zc 81 35 = some (.aload_n 0, 0, 0, 0, 0) := rfl
theorem zk_81_36 : zc 81 36 = some (.getfield 10, 10, 0, 0, 91) := rfl
theorem zk_81_39 : zc 81 39 = some (.getfield 94, 2, 1, 0, 105) := rfl
theorem zk_81_42 : zc 81 42 = some (.getfield 103, 7, 0, 0, 106) := rfl
theorem zk_81_45 : zc 81 45 = some (.iconst 3, 0, 0, 0, 0) := rfl
theorem zk_81_46 : zc 81 46 = some (.if_icmp .lt 10, 56, 0, 0, 0) := rfl
theorem zk_81_56 : zc 81 56 = some (.aload_n 0, 0, 0, 0, 0) := rfl
theorem zk_81_57 : zc 81 57 = some (.getfield 10, 10, 0, 0, 91) := rfl
theorem zk_81_60 : zc 81 60 = some (.getfield 94, 2, 1, 0, 105) := rfl
theorem zk_81_63 : zc 81 63 = some (.iload_n 1, 0, 0, 0, 0) := rfl
theorem zk_81_64 : zc 81 64 = some (.invokevirtual 106, 61, 0, 2, 94) := rfl
theorem zk_81_67 : zc 81 67 = some (.ireturn, 0, 0, 0, 0) := rfl
theorem zk_82_0 : zc 82 0 = some (.iload_n 1, 0, 0, 0, 0) := rfl
theorem zk_82_1 : zc 82 1 = some (.iconst 0, 0, 0, 0, 0) := rfl
theorem zk_82_2 : zc 82 2 = some (.aload_n 0, 0, 0, 0, 0) := rfl
theorem zk_82_3 : zc 82 3 = some (.getfield 10, 10, 0, 0, 91) := rfl
theorem zk_82_6 : zc 82 6 = some (.getfield 94, 2, 1, 0, 105) := rfl
theorem zk_82_9 : zc 82 9 = some (.getfield 103, 7, 0, 0, 106) := rfl
theorem zk_82_12 : zc 82 12 = some (.iconst 1, 0, 0, 0, 0) := rfl
theorem zk_82_13 : zc 82 13 = some (.isub, 0, 0, 0, 0) := rfl
theorem zk_82_14 : zc 82 14 = some (.invokestatic 52, 114, 1, 3, 89) := rfl
theorem zk_82_17 : zc 82 17 = some (.ifCond .ne 9, 26, 0, 0, 0) := rfl
theorem zk_82_20 : zc 82 20 = some (.aload_n 0, 0, 0, 0, 0) := rfl
theorem zk_82_21 : zc 82 21 = some (.iconst (-1), 0, 0, 0, 0) := rfl
theorem zk_82_22 : zc 82 22 = some (.invokevirtual 48, 113, 0, 2, 88) := rfl
theorem zk_82_25 : zc 82 25 = some (.ireturn, 0, 0, 0, 0) := rfl
theorem zk_83_0 : zc 83 0 = some (.iload_n 1, 0, 0, 0, 0) := rfl
theorem zk_83_1 : zc 83 1 = some (.invokestatic 112, 116, 1, 1, 95) := rfl
theorem zk_83_4 : zc 83 4 = some (.ifCond .ne 9, 13, 0, 0, 0) := rfl
theorem zk_83_7 : zc 83 7 = some (.aload_n 0, 0, 0, 0, 0) := rfl
theorem zk_83_8 : zc 83 8 = some (.iconst (-1), 0, 0, 0, 0) := rfl
theorem zk_83_9 : zc 83 9 = some (.invokevirtual 48, 113, 0, 2, 88) := rfl
theorem zk_83_12 : zc 83 12 = some (.ireturn, 0, 0, 0, 0) := rfl
theorem zk_83_13 : zc 83 13 = some (.iload_n 3, 0, 0, 0, 0) := rfl
theorem zk_83_14 : zc 83 14 = some (.ifCond .ge 10, 24, 0, 0, 0) := rfl
theorem zk_83_17 : zc 83 17 = some (.aload_n 0, 0, 0, 0, 0) := rfl
theorem zk_83_18 : zc 83 18 = some (.bipush (-4), 0, 0, 0, 0) := rfl
theorem zk_83_20 : zc 83 20 = some (.invokevirtual 48, 113, 0, 2, 88) := rfl
theorem zk_83_23 : zc 83 23 = some (.ireturn, 0, 0, 0, 0) := rfl
theorem zk_83_24 : zc 83 24 = some (.iload_n 2, 0, 0, 0, 0) := rfl
theorem zk_83_25 : zc 83 25 = some (.iconst 0, 0, 0, 0, 0) := rfl
theorem zk_83_26 : zc 83 26 = some (.iconst 3, 0, 0, 0, 0) := rfl
theorem zk_83_27 : zc 83 27 = some (.invokestatic 52, 114, 1, 3, 89) := rfl
theorem zk_83_30 : zc 83 30 = some (.ifCond .ne 10, 40, 0, 0, 0) := rfl
theorem zk_83_33 : zc 83 33 = some (.aload_n 0, 0, 0, 0, 0) := rfl
theorem zk_83_34 : zc 83 34 = some (.bipush (-6), 0, 0, 0, 0) := rfl
theorem zk_83_36 : zc 83 36 = some (.invokevirtual 48, 113, 0, 2, 88) := rfl
theorem zk_83_39 : zc 83 39 = some (.ireturn, 0, 0, 0, 0) := rfl
theorem zk_83_40 : zc 83 40 = some (.iload_n 3, 0, 0, 0, 0) := rfl
theorem zk_83_41 : zc 83 41 = some (.bipush 96, 0, 0, 0, 0) := rfl
theorem zk_83_43 : zc 83 43 = some (.if_icmp .le 10, 53, 0, 0, 0) := rfl
theorem zk_83_46 : zc 83 46 = some (.aload_n 0, 0, 0, 0, 0) := rfl
theorem zk_83_47 : zc 83 47 = some (.bipush (-7), 0, 0, 0, 0) := rfl
theorem zk_83_49 : zc 83 49 = some (.invokevirtual 48, 113, 0, 2, 88) := rfl
theorem zk_83_52 : zc 83 52 = some (.ireturn, 0, 0, 0, 0) := rfl
theorem zk_83_53 : zc 83 53 = some (.aload_n 0, 0, 0, 0, 0) := rfl
theorem zk_83_54 : zc 83 54 = some (.getfield 24, 10, 4, 0, 94) := rfl
theorem zk_83_57 : zc 83 57 = some (.iload_n 1, 0, 0, 0, 0) := rfl
theorem zk_83_58 : zc 83 58 = some (.aaload, 0, 0, 0, 0) := rfl
theorem zk_83_59 : zc 83 59 = some (.iload_n 2, 0, 0, 0, 0) := rfl
theorem zk_83_60 : zc 83 60 = some (.iload_n 3, 0, 0, 0, 0) := rfl
theorem zk_83_61 : zc 83 61 = some (.invokevirtual 115, 66, 0, 3, 96) := rfl
theorem zk_83_64 : zc 83 64 = some (.iconst 1, 0, 0, 0, 0) := rfl
theorem zk_83_65 : zc 83 65 = some (.ireturn, 0, 0, 0, 0) := rfl
theorem zk_84_0 : zc 84 0 = some (.aload_n 0, 0, 0, 0, 0) := rfl
theorem zk_84_1 : zc 84 1 = some (.iload_n 1, 0, 0, 0, 0) := rfl
theorem zk_84_2 : zc 84 2 = some (.invokevirtual 119, 119, 0, 2, 97) := rfl
theorem zk_84_5 : zc 84 5 = some (.istore 5, 0, 0, 0, 0) := rfl
theorem zk_84_7 : zc 84 7 = some (.iload 5, 0, 0, 0, 0) := rfl
theorem zk_84_9 : zc 84 9 = some (.ifCond .eq 10, 19, 0, 0, 0) := rfl
theorem zk_84_12 : zc 84 12 = some (.aload_n 0, 0, 0, 0, 0) := rfl
theorem zk_84_13 : zc 84 13 = some (.iload 5, 0, 0, 0, 0) := rfl
theorem zk_84_15 : zc 84 15 = some (.invokevirtual 48, 113, 0, 2, 88) := rfl
theorem zk_84_18 : zc 84 18 = some (.ireturn, 0, 0, 0, 0) := rfl
theorem zk_85_0 : zc 85 0 = some (.aload_n 0, 0, 0, 0, 0) := rfl
theorem zk_85_1 : zc 85 1 = some (.iload_n 1, 0, 0, 0, 0) := rfl
theorem zk_85_2 : zc 85 2 = some (.iload_n 2, 0, 0, 0, 0) := rfl
theorem zk_85_3 : zc 85 3 = some (.invokevirtual 129, 120, 0, 3, 99) := rfl
theorem zk_85_6 : zc 85 6 = some (.istore 6, 0, 0, 0, 0) := rfl
theorem zk_85_8 : zc 85 8 = some (.iload 6, 0, 0, 0, 0) := rfl
theorem zk_85_10 : zc 85 10 = some (.ifCond .eq 10, 20, 0, 0, 0) := rfl
theorem zk_85_13 : zc 85 13 = some (.aload_n 0, 0, 0, 0, 0) := rfl
theorem zk_85_14 : zc 85 14 = some (.iload 6, 0, 0, 0, 0) := rfl
theorem zk_85_16 : zc 85 16 = some (.invokevirtual 48, 113, 0, 2, 88) := rfl
theorem zk_85_19 : zc 85 19 = some (.ireturn, 0, 0, 0, 0) := rfl
theorem zk_86_0 : zc 86 0 = some (.iload_n 1, 0, 0, 0, 0) := rfl
theorem zk_86_1 : zc 86 1 = some (.invokestatic 112, 116, 1, 1, 95) := rfl
theorem zk_86_4 : zc 86 4 = some (.ifCond .eq 35, 39, 0, 0, 0) := rfl
theorem zk_86_7 : zc 86 7 = some (.aload_n 0, 0, 0, 0, 0) := rfl
theorem zk_86_8 : zc 86 8 = some (.getfield 24, 10, 4, 0, 94) := rfl
theorem zk_86_11 : zc 86 11 = some (.iload_n 1, 0, 0, 0, 0) := rfl
theorem zk_86_12 : zc 86 12 = some (.aaload, 0, 0, 0, 0) := rfl
theorem zk_86_13 : zc 86 13 = some (.getfield 146, 8, 0, 0, 110) := rfl
theorem zk_86_16 : zc 86 16 = some (.iconst 1, 0, 0, 0, 0) := rfl
theorem zk_86_17 : zc 86 17 = some (.if_icmp .ne 22, 39, 0, 0, 0) := rfl
theorem zk_86_39 : zc 86 39 = some (.lconst 0, 0, 0, 0, 0) := rfl
theorem zk_86_40 : zc 86 40 = some (.lreturn, 0, 0, 0, 0) := rfl
theorem zk_87_0 : zc 87 0 = some (.iload_n 1, 0, 0, 0, 0) := rfl
theorem zk_87_1 : zc 87 1 = some (.invokestatic 112, 116, 1, 1, 95) := rfl
theorem zk_87_4 : zc 87 4 = some (.ifCond .eq 16, 20, 0, 0, 0) := rfl
theorem zk_87_7 : zc 87 7 = some (.iload_n 2, 0, 0, 0, 0) := rfl
theorem zk_87_8 : zc 87 8 = some (.iconst (-1), 0, 0, 0, 0) := rfl
theorem zk_87_9 : zc 87 9 = some (.if_icmp .eq 17, 26, 0, 0, 0) := rfl
theorem zk_87_12 : zc 87 12 = some (.aload_n 0, 0, 0, 0, 0) := rfl
theorem zk_87_13 : zc 87 13 = some (.iload_n 2, 0, 0, 0, 0) := rfl
theorem zk_87_14 : zc 87 14 = some (.invokevirtual 149, 117, 0, 2, 102) := rfl
theorem zk_87_17 : zc 87 17 = some (.ifCond .ne 9, 26, 0, 0, 0) := rfl
theorem zk_87_20 : zc 87 20 = some (.aload_n 0, 0, 0, 0, 0) := rfl
theorem zk_87_21 : zc 87 21 = some (.iconst (-1), 0, 0, 0, 0) := rfl
theorem zk_87_22 : zc 87 22 = some (.invokevirtual 48, 113, 0, 2, 88) := rfl
theorem zk_87_25 : zc 87 25 = some (.ireturn, 0, 0, 0, 0) := rfl
theorem zk_87_26 : zc 87 26 = some (.iload_n 2, 0, 0, 0, 0) := rfl
theorem zk_87_27 : zc 87 27 = some (.iconst (-1), 0, 0, 0, 0) := rfl
theorem zk_87_28 : zc 87 28 = some (.if_icmp .ne 15, 43, 0, 0, 0) := rfl
theorem zk_87_31 : zc 87 31 = some (.aload_n 0, 0, 0, 0, 0) := rfl
theorem zk_87_32 : zc 87 32 = some (.getfield 24, 10, 4, 0, 94) := rfl
theorem zk_87_35 : zc 87 35 = some (.iload_n 1, 0, 0, 0, 0) := rfl
theorem zk_87_36 : zc 87 36 = some (.aaload, 0, 0, 0, 0) := rfl
theorem zk_87_37 : zc 87 37 = some (.iconst 0, 0, 0, 0, 0) := rfl
theorem zk_87_38 : zc 87 38 = some (.putfield 146, 8, 0, 0, 110) := rfl
theorem zk_87_41 : zc 87 41 = some (.iconst 0, 0, 0, 0, 0) := rfl
theorem zk_87_42 : zc 87 42 = some (.ireturn, 0, 0, 0, 0) := rfl
theorem zk_88_0 : zc 88 0 = some (.iload_n 1, 0, 0, 0, 0) := rfl
theorem zk_88_1 : zc 88 1 = some (.invokestatic 112, 116, 1, 1, 95) := rfl
theorem zk_88_4 : zc 88 4 = some (.ifCond .eq 15, 19, 0, 0, 0) := rfl
theorem zk_88_7 : zc 88 7 = some (.aload_n 0, 0, 0, 0, 0) := rfl
theorem zk_88_8 : zc 88 8 = some (.getfield 24, 10, 4, 0, 94) := rfl
theorem zk_88_11 : zc 88 11 = some (.iload_n 1, 0, 0, 0, 0) := rfl
theorem zk_88_12 : zc 88 12 = some (.aaload, 0, 0, 0, 0) := rfl
theorem zk_88_13 : zc 88 13 = some (.getfield 146, 8, 0, 0, 110) := rfl
theorem zk_88_16 : zc 88 16 = some (.ifCond .ne 5, 21, 0, 0, 0) := rfl
theorem zk_88_19 : zc 88 19 = some (.iconst (-1), 0, 0, 0, 0) := rfl
theorem zk_88_20 : zc 88 20 = some (.ireturn, 0, 0, 0, 0) := rfl
theorem zk_89_0 : zc 89 0 = some (.iload_n 1, 0, 0, 0, 0) := rfl
theorem zk_89_1 : zc 89 1 = some (.invokestatic 112, 116, 1, 1, 95) := rfl
theorem zk_89_4 : zc 89 4 = some (.ifCond .eq 12, 16, 0, 0, 0) := rfl
theorem zk_89_7 : zc 89 7 = some (.iload_n 2, 0, 0, 0, 0) := rfl
theorem zk_89_8 : zc 89 8 = some (.iconst 0, 0, 0, 0, 0) := rfl
theorem zk_89_9 : zc 89 9 = some (.iconst 2, 0, 0, 0, 0) := rfl
theorem zk_89_10 : zc 89 10 = some (.invokestatic 52, 114, 1, 3, 89) := rfl
theorem zk_89_13 : zc 89 13 = some (.ifCond .ne 9, 22, 0, 0, 0) := rfl
theorem zk_89_16 : zc 89 16 = some (.aload_n 0, 0, 0, 0, 0) := rfl
theorem zk_89_17 : zc 89 17 = some (.iconst (-1), 0, 0, 0, 0) := rfl
theorem zk_89_18 : zc 89 18 = some (.invokevirtual 48, 113, 0, 2, 88) := rfl
theorem zk_89_21 : zc 89 21 = some (.ireturn, 0, 0, 0, 0) := rfl
theorem zk_89_22 : zc 89 22 = some (.aload_n 0, 0, 0, 0, 0) := rfl
theorem zk_89_23 : zc 89 23 = some (.getfield 24, 10, 4, 0, 94) := rfl
theorem zk_89_26 : zc 89 26 = some (.iload_n 1, 0, 0, 0, 0) := rfl
theorem zk_89_27 : zc 89 27 = some (.aaload, 0, 0, 0, 0) := rfl
theorem zk_89_28 : zc 89 28 = some (.getfield 146, 8, 0, 0, 110) := rfl
theorem zk_89_31 : zc 89 31 = some (.iconst 1, 0, 0, 0, 0) := rfl
theorem zk_89_32 : zc 89 32 = some (.if_icmp .ne 10, 42, 0, 0, 0) := rfl
theorem zk_89_42 : zc 89 42 = some (.aload_n 0, 0, 0, 0, 0) := rfl
theorem zk_89_43 : zc 89 43 = some (.getfield 24, 10, 4, 0, 94) := rfl
theorem zk_89_46 : zc 89 46 = some (.iload_n 1, 0, 0, 0, 0) := rfl
theorem zk_89_47 : zc 89 47 = some (.aaload, 0, 0, 0, 0) := rfl
theorem zk_89_48 : zc 89 48 = some (.getfield 146, 8, 0, 0, 110) := rfl
theorem zk_89_51 : zc 89 51 = some (.ifCond .eq 19, 70, 0, 0, 0) := rfl
theorem zk_89_70 : zc 89 70 = some (.aload_n 0, 0, 0, 0, 0) := rfl
theorem zk_89_71 : zc 89 71 = some (.bipush (-3), 0, 0, 0, 0) := rfl
theorem zk_89_73 : zc 89 73 = some (.invokevirtual 48, 113, 0, 2, 88) := rfl
theorem zk_89_76 : zc 89 76 = some (.ireturn, 0, 0, 0, 0) := rfl
theorem zk_90_0 : zc 90 0 = some (.aload_n 0, 0, 0, 0, 0) := rfl
theorem zk_90_1 : zc 90 1 = some (.iload_n 1, 0, 0, 0, 0) := rfl
theorem zk_90_2 : zc 90 2 = some (.invokevirtual 119, 119, 0, 2, 97) := rfl
theorem zk_90_5 : zc 90 5 = some (.istore_n 3, 0, 0, 0, 0) := rfl
theorem zk_90_6 : zc 90 6 = some (.iload_n 3, 0, 0, 0, 0) := rfl
theorem zk_90_7 : zc 90 7 = some (.ifCond .eq 9, 16, 0, 0, 0) := rfl
theorem zk_90_10 : zc 90 10 = some (.aload_n 0, 0, 0, 0, 0) := rfl
theorem zk_90_11 : zc 90 11 = some (.iload_n 3, 0, 0, 0, 0) := rfl
theorem zk_90_12 : zc 90 12 = some (.invokevirtual 48, 113, 0, 2, 88) := rfl
theorem zk_90_15 : zc 90 15 = some (.ireturn, 0, 0, 0, 0) := rfl
theorem zk_91_0 : zc 91 0 = some (.iload_n 1, 0, 0, 0, 0) := rfl
theorem zk_91_1 : zc 91 1 = some (.ifCond .ge 9, 10, 0, 0, 0) := rfl
theorem zk_91_4 : zc 91 4 = some (.sipush 1000, 0, 0, 0, 0) := rfl
theorem zk_91_7 : zc 91 7 = some (.goto 15, 22, 0, 0, 0) := rfl
theorem zk_91_10 : zc 91 10 = some (.aload_n 0, 0, 0, 0, 0) := rfl
theorem zk_91_11 : zc 91 11 = some (.getfield 10, 10, 0, 0, 91) := rfl
theorem zk_91_14 : zc 91 14 = some (.iload_n 2, 0, 0, 0, 0) := rfl
theorem zk_91_15 : zc 91 15 = some (.invokevirtual 176, 10, 0, 2, 103) := rfl
theorem zk_91_18 : zc 91 18 = some (.iload_n 1, 0, 0, 0, 0) := rfl
theorem zk_91_19 : zc 91 19 = some (.invokevirtual 186, 73, 0, 2, 105) := rfl
theorem zk_91_22 : zc 91 22 = some (.ireturn, 0, 0, 0, 0) := rfl
theorem zk_92_0 : zc 92 0 = some (.iload_n 1, 0, 0, 0, 0) := rfl
theorem zk_92_1 : zc 92 1 = some (.ifCond .ne 32, 33, 0, 0, 0) := rfl
theorem zk_92_4 : zc 92 4 = some (.iload_n 2, 0, 0, 0, 0) := rfl
theorem zk_92_5 : zc 92 5 = some (.iconst 0, 0, 0, 0, 0) := rfl
theorem zk_92_6 : zc 92 6 = some (.bipush 99, 0, 0, 0, 0) := rfl
theorem zk_92_8 : zc 92 8 = some (.invokestatic 52, 114, 1, 3, 89) := rfl
theorem zk_92_11 : zc 92 11 = some (.ifCond .eq 22, 33, 0, 0, 0) := rfl
theorem zk_92_14 : zc 92 14 = some (.aload_n 0, 0, 0, 0, 0) := rfl
theorem zk_92_15 : zc 92 15 = some (.getfield 10, 10, 0, 0, 91) := rfl
theorem zk_92_18 : zc 92 18 = some (.getfield 189, 2, 10, 0, 118) := rfl
theorem zk_92_21 : zc 92 21 = some (.istore_n 3, 0, 0, 0, 0) := rfl
theorem zk_92_22 : zc 92 22 = some (.aload_n 0, 0, 0, 0, 0) := rfl
theorem zk_92_23 : zc 92 23 = some (.getfield 10, 10, 0, 0, 91) := rfl
theorem zk_92_26 : zc 92 26 = some (.iload_n 2, 0, 0, 0, 0) := rfl
theorem zk_92_27 : zc 92 27 = some (.putfield 189, 2, 10, 0, 118) := rfl
theorem zk_92_30 : zc 92 30 = some (.goto 79, 109, 0, 0, 0) := rfl
theorem zk_92_33 : zc 92 33 = some (.iload_n 1, 0, 0, 0, 0) := rfl
theorem zk_92_34 : zc 92 34 = some (.iconst 1, 0, 0, 0, 0) := rfl
theorem zk_92_35 : zc 92 35 = some (.if_icmp .ne 32, 67, 0, 0, 0) := rfl
theorem zk_92_38 : zc 92 38 = some (.iload_n 2, 0, 0, 0, 0) := rfl
theorem zk_92_39 : zc 92 39 = some (.iconst 1, 0, 0, 0, 0) := rfl
theorem zk_92_40 : zc 92 40 = some (.bipush 9, 0, 0, 0, 0) := rfl
theorem zk_92_42 : zc 92 42 = some (.invokestatic 52, 114, 1, 3, 89) := rfl
theorem zk_92_45 : zc 92 45 = some (.ifCond .eq 22, 67, 0, 0, 0) := rfl
theorem zk_92_48 : zc 92 48 = some (.aload_n 0, 0, 0, 0, 0) := rfl
theorem zk_92_49 : zc 92 49 = some (.getfield 10, 10, 0, 0, 91) := rfl
theorem zk_92_52 : zc 92 52 = some (.getfield 192, 2, 11, 0, 119) := rfl
theorem zk_92_55 : zc 92 55 = some (.istore_n 3, 0, 0, 0, 0) := rfl
theorem zk_92_56 : zc 92 56 = some (.aload_n 0, 0, 0, 0, 0) := rfl
theorem zk_92_57 : zc 92 57 = some (.getfield 10, 10, 0, 0, 91) := rfl
theorem zk_92_60 : zc 92 60 = some (.iload_n 2, 0, 0, 0, 0) := rfl
theorem zk_92_61 : zc 92 61 = some (.putfield 192, 2, 11, 0, 119) := rfl
theorem zk_92_64 : zc 92 64 = some (.goto 45, 109, 0, 0, 0) := rfl
theorem zk_92_67 : zc 92 67 = some (.iload_n 1, 0, 0, 0, 0) := rfl
theorem zk_92_68 : zc 92 68 = some (.iconst 2, 0, 0, 0, 0) := rfl
theorem zk_92_69 : zc 92 69 = some (.if_icmp .ne 33, 102, 0, 0, 0) := rfl
theorem zk_92_72 : zc 92 72 = some (.iload_n 2, 0, 0, 0, 0) := rfl
theorem zk_92_73 : zc 92 73 = some (.iconst 0, 0, 0, 0, 0) := rfl
theorem zk_92_74 : zc 92 74 = some (.sipush 9999, 0, 0, 0, 0) := rfl
theorem zk_92_77 : zc 92 77 = some (.invokestatic 52, 114, 1, 3, 89) := rfl
theorem zk_92_80 : zc 92 80 = some (.ifCond .eq 22, 102, 0, 0, 0) := rfl
theorem zk_92_83 : zc 92 83 = some (.aload_n 0, 0, 0, 0, 0) := rfl
theorem zk_92_84 : zc 92 84 = some (.getfield 10, 10, 0, 0, 91) := rfl
theorem zk_92_87 : zc 92 87 = some (.getfield 195, 2, 12, 0, 120) := rfl
theorem zk_92_90 : zc 92 90 = some (.istore_n 3, 0, 0, 0, 0) := rfl
theorem zk_92_91 : zc 92 91 = some (.aload_n 0, 0, 0, 0, 0) := rfl
theorem zk_92_92 : zc 92 92 = some (.getfield 10, 10, 0, 0, 91) := rfl
theorem zk_92_95 : zc 92 95 = some (.iload_n 2, 0, 0, 0, 0) := rfl
theorem zk_92_96 : zc 92 96 = some (.putfield 195, 2, 12, 0, 120) := rfl
theorem zk_92_99 : zc 92 99 = some (.goto 10, 109, 0, 0, 0) := rfl
theorem zk_92_102 : zc 92 102 = some (.aload_n 0, 0, 0, 0, 0) := rfl
theorem zk_92_103 : zc 92 103 = some (.bipush (-6), 0, 0, 0, 0) := rfl
theorem zk_92_105 : zc 92 105 = some (.invokevirtual 48, 113, 0, 2, 88) := rfl
theorem zk_92_108 : zc 92 108 = some (.ireturn, 0, 0, 0, 0) := rfl
theorem zk_92_109 : zc 92 109 = some (.iload_n 3, 0, 0, 0, 0) := rfl
theorem zk_92_110 : zc 92 110 = some (.ireturn, 0, 0, 0, 0) := rfl
theorem zk_93_0 : zc 93 0 = some (.aload_n 0, 0, 0, 0, 0) := rfl
theorem zk_93_1 : zc 93 1 = some (.iload_n 1, 0, 0, 0, 0) := rfl
theorem zk_93_2 : zc 93 2 = some (.invokevirtual 119, 119, 0, 2, 97) := rfl
theorem zk_93_5 : zc 93 5 = some (.istore_n 2, 0, 0, 0, 0) := rfl
theorem zk_93_6 : zc 93 6 = some (.iload_n 2, 0, 0, 0, 0) := rfl
theorem zk_93_7 : zc 93 7 = some (.ifCond .eq 9, 16, 0, 0, 0) := rfl
theorem zk_93_10 : zc 93 10 = some (.aload_n 0, 0, 0, 0, 0) := rfl
theorem zk_93_11 : zc 93 11 = some (.iload_n 2, 0, 0, 0, 0) := rfl
theorem zk_93_12 : zc 93 12 = some (.invokevirtual 48, 113, 0, 2, 88) := rfl
theorem zk_93_15 : zc 93 15 = some (.ireturn, 0, 0, 0, 0) := rfl
theorem zk_94_0 : zc 94 0 = some (.aload_n 0, 0, 0, 0, 0) := rfl
theorem zk_94_1 : zc 94 1 = some (.getfield 39, 10, 7, 0, 97) := rfl
theorem zk_94_4 : zc 94 4 = some (.ireturn, 0, 0, 0, 0) := rfl
theorem zk_95_0 : zc 95 0 = some (.iload_n 1, 0, 0, 0, 0) := rfl
theorem zk_95_1 : zc 95 1 = some (.iconst 0, 0, 0, 0, 0) := rfl
theorem zk_95_2 : zc 95 2 = some (.aload_n 0, 0, 0, 0, 0) := rfl
theorem zk_95_3 : zc 95 3 = some (.getfield 10, 10, 0, 0, 91) := rfl
theorem zk_95_6 : zc 95 6 = some (.getfield 202, 2, 5, 0, 121) := rfl
theorem zk_95_9 : zc 95 9 = some (.iconst 1, 0, 0, 0, 0) := rfl
theorem zk_95_10 : zc 95 10 = some (.isub, 0, 0, 0, 0) := rfl
theorem zk_95_11 : zc 95 11 = some (.invokestatic 52, 114, 1, 3, 89) := rfl
theorem zk_95_14 : zc 95 14 = some (.ifCond .ne 9, 23, 0, 0, 0) := rfl
theorem zk_95_17 : zc 95 17 = some (.aload_n 0, 0, 0, 0, 0) := rfl
theorem zk_95_18 : zc 95 18 = some (.iconst (-1), 0, 0, 0, 0) := rfl
theorem zk_95_19 : zc 95 19 = some (.invokevirtual 48, 113, 0, 2, 88) := rfl
theorem zk_95_22 : zc 95 22 = some (.ireturn, 0, 0, 0, 0) := rfl
theorem zk_96_0 : zc 96 0 = some (.iload_n 1, 0, 0, 0, 0) := rfl
theorem zk_96_1 : zc 96 1 = some (.iconst 0, 0, 0, 0, 0) := rfl
theorem zk_96_2 : zc 96 2 = some (.aload_n 0, 0, 0, 0, 0) := rfl
theorem zk_96_3 : zc 96 3 = some (.getfield 10, 10, 0, 0, 91) := rfl
theorem zk_96_6 : zc 96 6 = some (.getfield 202, 2, 5, 0, 121) := rfl
theorem zk_96_9 : zc 96 9 = some (.iconst 1, 0, 0, 0, 0) := rfl
theorem zk_96_10 : zc 96 10 = some (.isub, 0, 0, 0, 0) := rfl
theorem zk_96_11 : zc 96 11 = some (.invokestatic 52, 114, 1, 3, 89) := rfl
theorem zk_96_14 : zc 96 14 = some (.ifCond .ne 5, 19, 0, 0, 0) := rfl
theorem zk_96_17 : zc 96 17 = some (.iconst (-1), 0, 0, 0, 0) := rfl
theorem zk_96_18 : zc 96 18 = some (.ireturn, 0, 0, 0, 0) := rfl
theorem zk_97_0 : zc 97 0 = some (.iload_n 1, 0, 0, 0, 0) := rfl
theorem zk_97_1 : zc 97 1 = some (.iconst 1, 0, 0, 0, 0) := rfl
theorem zk_97_2 : zc 97 2 = some (.bipush 48, 0, 0, 0, 0) := rfl
theorem zk_97_4 : zc 97 4 = some (.invokestatic 52, 114, 1, 3, 89) := rfl
theorem zk_97_7 : zc 97 7 = some (.ifCond .eq 12, 19, 0, 0, 0) := rfl
theorem zk_97_10 : zc 97 10 = some (.iload_n 2, 0, 0, 0, 0) := rfl
theorem zk_97_11 : zc 97 11 = some (.iconst 0, 0, 0, 0, 0) := rfl
theorem zk_97_12 : zc 97 12 = some (.iconst 1, 0, 0, 0, 0) := rfl
theorem zk_97_13 : zc 97 13 = some (.invokestatic 52, 114, 1, 3, 89) := rfl
theorem zk_97_16 : zc 97 16 = some (.ifCond .ne 10, 26, 0, 0, 0) := rfl
theorem zk_97_19 : zc 97 19 = some (.aload_n 0, 0, 0, 0, 0) := rfl
theorem zk_97_20 : zc 97 20 = some (.bipush (-6), 0, 0, 0, 0) := rfl
theorem zk_97_22 : zc 97 22 = some (.invokevirtual 48, 113, 0, 2, 88) := rfl
theorem zk_97_25 : zc 97 25 = some (.ireturn, 0, 0, 0, 0) := rfl
theorem zk_97_26 : zc 97 26 = some (.iconst 0, 0, 0, 0, 0) := rfl
theorem zk_97_27 : zc 97 27 = some (.istore_n 3, 0, 0, 0, 0) := rfl
theorem zk_97_28 : zc 97 28 = some (.iconst 0, 0, 0, 0, 0) := rfl
theorem zk_97_29 : zc 97 29 = some (.istore 4, 0, 0, 0, 0) := rfl
theorem zk_97_31 : zc 97 31 = some (.iconst 0, 0, 0, 0, 0) := rfl
theorem zk_97_32 : zc 97 32 = some (.istore 5, 0, 0, 0, 0) := rfl
theorem zk_97_34 : zc 97 34 = some (.iload 5, 0, 0, 0, 0) := rfl
theorem zk_97_36 : zc 97 36 = some (.iconst 1, 0, 0, 0, 0) := rfl
theorem zk_97_37 : zc 97 37 = some (.aload_n 0, 0, 0, 0, 0) := rfl
theorem zk_97_38 : zc 97 38 = some (.getfield 10, 10, 0, 0, 91) := rfl
theorem zk_97_41 : zc 97 41 = some (.getfield 202, 2, 5, 0, 121) := rfl
theorem zk_97_44 : zc 97 44 = some (.ishl, 0, 0, 0, 0) := rfl
theorem zk_97_45 : zc 97 45 = some (.if_icmp .ge 95, 140, 0, 0, 0) := rfl
theorem zk_97_48 : zc 97 48 = some (.aload_n 0, 0, 0, 0, 0) := rfl
theorem zk_97_49 : zc 97 49 = some (.getfield 19, 10, 2, 0, 93) := rfl
theorem zk_97_52 : zc 97 52 = some (.aload_n 0, 0, 0, 0, 0) := rfl
theorem zk_97_53 : zc 97 53 = some (.getfield 10, 10, 0, 0, 91) := rfl
theorem zk_97_56 : zc 97 56 = some (.invokevirtual 233, 22, 0, 2, 110) := rfl
theorem zk_97_59 : zc 97 59 = some (.aload_n 0, 0, 0, 0, 0) := rfl
theorem zk_97_60 : zc 97 60 = some (.getfield 19, 10, 2, 0, 93) := rfl
theorem zk_97_63 : zc 97 63 = some (.iload 5, 0, 0, 0, 0) := rfl
theorem zk_97_65 : zc 97 65 = some (.invokevirtual 237, 20, 0, 2, 111) := rfl
theorem zk_97_68 : zc 97 68 = some (.iconst 0, 0, 0, 0, 0) := rfl
theorem zk_97_69 : zc 97 69 = some (.istore 6, 0, 0, 0, 0) := rfl
theorem zk_97_71 : zc 97 71 = some (.iload 6, 0, 0, 0, 0) := rfl
theorem zk_97_73 : zc 97 73 = some (.iload_n 1, 0, 0, 0, 0) := rfl
theorem zk_97_74 : zc 97 74 = some (.if_icmp .ge 24, 98, 0, 0, 0) := rfl
theorem zk_97_77 : zc 97 77 = some (.aload_n 0, 0, 0, 0, 0) := rfl
theorem zk_97_78 : zc 97 78 = some (.getfield 19, 10, 2, 0, 93) := rfl
theorem zk_97_81 : zc 97 81 = some (.iconst 1, 0, 0, 0, 0) := rfl
theorem zk_97_82 : zc 97 82 = some (.invokevirtual 241, 12, 0, 2, 112) := rfl
theorem zk_97_85 : zc 97 85 = some (.aload_n 0, 0, 0, 0, 0) := rfl
theorem zk_97_86 : zc 97 86 = some (.getfield 19, 10, 2, 0, 93) := rfl
theorem zk_97_89 : zc 97 89 = some (.invokevirtual 245, 13, 0, 1, 113) := rfl
theorem zk_97_92 : zc 97 92 = some (.iinc 6 1, 0, 0, 0, 0) := rfl
theorem zk_97_95 : zc 97 95 = some (.goto (-24), 71, 0, 0, 0) := rfl
theorem zk_97_98 : zc 97 98 = some (.aload_n 0, 0, 0, 0, 0) := rfl
theorem zk_97_99 : zc 97 99 = some (.getfield 19, 10, 2, 0, 93) := rfl
theorem zk_97_102 : zc 97 102 = some (.invokevirtual 248, 21, 0, 1, 114) := rfl
theorem zk_97_105 : zc 97 105 = some (.aload_n 0, 0, 0, 0, 0) := rfl
theorem zk_97_106 : zc 97 106 = some (.getfield 10, 10, 0, 0, 91) := rfl
theorem zk_97_109 : zc 97 109 = some (.invokevirtual 248, 21, 0, 1, 114) := rfl
theorem zk_97_112 : zc 97 112 = some (.isub, 0, 0, 0, 0) := rfl
theorem zk_97_113 : zc 97 113 = some (.istore 6, 0, 0, 0, 0) := rfl
theorem zk_97_115 : zc 97 115 = some (.iload 5, 0, 0, 0, 0) := rfl
theorem zk_97_117 : zc 97 117 = some (.ifCond .eq 10, 127, 0, 0, 0) := rfl
theorem zk_97_127 : zc 97 127 = some (.iload 6, 0, 0, 0, 0) := rfl
theorem zk_97_129 : zc 97 129 = some (.istore 4, 0, 0, 0, 0) := rfl
theorem zk_97_131 : zc 97 131 = some (.iload 5, 0, 0, 0, 0) := rfl
theorem zk_97_133 : zc 97 133 = some (.istore_n 3, 0, 0, 0, 0) := rfl
theorem zk_97_134 : zc 97 134 = some (.iinc 5 1, 0, 0, 0, 0) := rfl
theorem zk_97_137 : zc 97 137 = some (.goto (-103), 34, 0, 0, 0) := rfl
theorem zk_97_140 : zc 97 140 = some (.iload_n 2, 0, 0, 0, 0) := rfl
theorem zk_97_141 : zc 97 141 = some (.ifCond .ne 7, 148, 0, 0, 0) := rfl
theorem zk_97_144 : zc 97 144 = some (.iload_n 3, 0, 0, 0, 0) := rfl
theorem zk_97_145 : zc 97 145 = some (.goto 5, 150, 0, 0, 0) := rfl
theorem zk_97_148 : zc 97 148 = some (.iload 4, 0, 0, 0, 0) := rfl
theorem zk_97_150 : zc 97 150 = some (.ireturn, 0, 0, 0, 0) := rfl
theorem zk_98_0 : zc 98 0 = some (.iload_n 1, 0, 0, 0, 0) := rfl
theorem zk_98_1 : zc 98 1 = some (.iconst 0, 0, 0, 0, 0) := rfl
theorem zk_98_2 : zc 98 2 = some (.iconst 2, 0, 0, 0, 0) := rfl
theorem zk_98_3 : zc 98 3 = some (.invokestatic 52, 114, 1, 3, 89) := rfl
theorem zk_98_6 : zc 98 6 = some (.ifCond .eq 10, 16, 0, 0, 0) := rfl
theorem zk_98_9 : zc 98 9 = some (.iload_n 2, 0, 0, 0, 0) := rfl
theorem zk_98_10 : zc 98 10 = some (.invokestatic 44, 115, 1, 1, 87) := rfl
theorem zk_98_13 : zc 98 13 = some (.ifCond .ne 9, 22, 0, 0, 0) := rfl
theorem zk_98_16 : zc 98 16 = some (.aload_n 0, 0, 0, 0, 0) := rfl
theorem zk_98_17 : zc 98 17 = some (.iconst (-1), 0, 0, 0, 0) := rfl
theorem zk_98_18 : zc 98 18 = some (.invokevirtual 48, 113, 0, 2, 88) := rfl
theorem zk_98_21 : zc 98 21 = some (.ireturn, 0, 0, 0, 0) := rfl
theorem zk_98_22 : zc 98 22 = some (.iload_n 3, 0, 0, 0, 0) := rfl
theorem zk_98_23 : zc 98 23 = some (.iconst 0, 0, 0, 0, 0) := rfl
theorem zk_98_24 : zc 98 24 = some (.sipush 200, 0, 0, 0, 0) := rfl
theorem zk_98_27 : zc 98 27 = some (.invokestatic 52, 114, 1, 3, 89) := rfl
theorem zk_98_30 : zc 98 30 = some (.ifCond .eq 25, 55, 0, 0, 0) := rfl
theorem zk_98_33 : zc 98 33 = some (.iload 4, 0, 0, 0, 0) := rfl
theorem zk_98_35 : zc 98 35 = some (.iconst 0, 0, 0, 0, 0) := rfl
theorem zk_98_36 : zc 98 36 = some (.bipush 99, 0, 0, 0, 0) := rfl
theorem zk_98_38 : zc 98 38 = some (.invokestatic 52, 114, 1, 3, 89) := rfl
theorem zk_98_41 : zc 98 41 = some (.ifCond .eq 14, 55, 0, 0, 0) := rfl
theorem zk_98_44 : zc 98 44 = some (.iload 5, 0, 0, 0, 0) := rfl
theorem zk_98_46 : zc 98 46 = some (.iconst 0, 0, 0, 0, 0) := rfl
theorem zk_98_47 : zc 98 47 = some (.bipush 99, 0, 0, 0, 0) := rfl
theorem zk_98_49 : zc 98 49 = some (.invokestatic 52, 114, 1, 3, 89) := rfl
theorem zk_98_52 : zc 98 52 = some (.ifCond .ne 10, 62, 0, 0, 0) := rfl
theorem zk_98_55 : zc 98 55 = some (.aload_n 0, 0, 0, 0, 0) := rfl
theorem zk_98_56 : zc 98 56 = some (.bipush (-6), 0, 0, 0, 0) := rfl
theorem zk_98_58 : zc 98 58 = some (.invokevirtual 48, 113, 0, 2, 88) := rfl
theorem zk_98_61 : zc 98 61 = some (.ireturn, 0, 0, 0, 0) := rfl
theorem zk_98_62 : zc 98 62 = some (.aload_n 0, 0, 0, 0, 0) := rfl
theorem zk_98_63 : zc 98 63 = some (.getfield 10, 10, 0, 0, 91) := rfl
theorem zk_98_66 : zc 98 66 = some (.getfield 252, 2, 6, 0, 126) := rfl
theorem zk_98_69 : zc 98 69 = some (.bipush 12, 0, 0, 0, 0) := rfl
theorem zk_98_71 : zc 98 71 = some (.if_icmp .lt 10, 81, 0, 0, 0) := rfl
theorem zk_98_81 : zc 98 81 = some (.aload_n 0, 0, 0, 0, 0) := rfl
theorem zk_98_82 : zc 98 82 = some (.getfield 10, 10, 0, 0, 91) := rfl
theorem zk_98_85 : zc 98 85 = some (.getfield 158, 2, 3, 0, 113) := rfl
theorem zk_98_88 : zc 98 88 = some (.aload_n 0, 0, 0, 0, 0) := rfl
theorem zk_98_89 : zc 98 89 = some (.getfield 10, 10, 0, 0, 91) := rfl
theorem zk_98_92 : zc 98 92 = some (.getfield 252, 2, 6, 0, 126) := rfl
theorem zk_98_95 : zc 98 95 = some (.aaload, 0, 0, 0, 0) := rfl
theorem zk_98_96 : zc 98 96 = some (.astore 6, 0, 0, 0, 0) := rfl
theorem zk_98_98 : zc 98 98 = some (.aload 6, 0, 0, 0, 0) := rfl
theorem zk_98_100 : zc 98 100 = some (.iload_n 1, 0, 0, 0, 0) := rfl
theorem zk_98_101 : zc 98 101 = some (.iload_n 2, 0, 0, 0, 0) := rfl
theorem zk_98_102 : zc 98 102 = some (.iload_n 3, 0, 0, 0, 0) := rfl
theorem zk_98_103 : zc 98 103 = some (.iload 4, 0, 0, 0, 0) := rfl
theorem zk_98_105 : zc 98 105 = some (.iload 5, 0, 0, 0, 0) := rfl
theorem zk_98_107 : zc 98 107 = some (.invokevirtual 255, 24, 0, 6, 115) := rfl
theorem zk_98_110 : zc 98 110 = some (.aload_n 0, 0, 0, 0, 0) := rfl
theorem zk_98_111 : zc 98 111 = some (.getfield 10, 10, 0, 0, 91) := rfl
theorem zk_98_114 : zc 98 114 = some (.dup, 0, 0, 0, 0) := rfl
theorem zk_98_115 : zc 98 115 = some (.getfield 252, 2, 6, 0, 126) := rfl
theorem zk_98_118 : zc 98 118 = some (.iconst 1, 0, 0, 0, 0) := rfl
theorem zk_98_119 : zc 98 119 = some (.iadd, 0, 0, 0, 0) := rfl
theorem zk_98_120 : zc 98 120 = some (.putfield 252, 2, 6, 0, 126) := rfl
theorem zk_98_123 : zc 98 123 = some (.aload_n 0, 0, 0, 0, 0) := rfl
theorem zk_98_124 : zc 98 124 = some (.getfield 10, 10, 0, 0, 91) := rfl
theorem zk_98_127 : zc 98 127 = some (.getfield 252, 2, 6, 0, 126) := rfl
theorem zk_98_130 : zc 98 130 = some (.iconst 1, 0, 0, 0, 0) := rfl
theorem zk_98_131 : zc 98 131 = some (.isub, 0, 0, 0, 0) := rfl
theorem zk_98_132 : zc 98 132 = some (.ireturn, 0, 0, 0, 0) := rfl
theorem zk_99_0 : zc 99 0 = some (.aload_n 0, 0, 0, 0, 0) := rfl
theorem zk_99_1 : zc 99 1 = some (.iload_n 1, 0, 0, 0, 0) := rfl
theorem zk_99_2 : zc 99 2 = some (.invokevirtual 149, 117, 0, 2, 102) := rfl
theorem zk_99_5 : zc 99 5 = some (.ifCond .ne 9, 14, 0, 0, 0) := rfl
theorem zk_99_8 : zc 99 8 = some (.aload_n 0, 0, 0, 0, 0) := rfl
theorem zk_99_9 : zc 99 9 = some (.iconst (-1), 0, 0, 0, 0) := rfl
theorem zk_99_10 : zc 99 10 = some (.invokevirtual 48, 113, 0, 2, 88) := rfl
theorem zk_99_13 : zc 99 13 = some (.ireturn, 0, 0, 0, 0) := rfl
theorem zk_100_0 : zc 100 0 = some (.aload_n 0, 0, 0, 0, 0) := rfl
theorem zk_100_1 : zc 100 1 = some (.iload_n 1, 0, 0, 0, 0) := rfl
theorem zk_100_2 : zc 100 2 = some (.invokevirtual 149, 117, 0, 2, 102) := rfl
theorem zk_100_5 : zc 100 5 = some (.ifCond .eq 19, 24, 0, 0, 0) := rfl
theorem zk_100_24 : zc 100 24 = some (.iconst (-1), 0, 0, 0, 0) := rfl
theorem zk_100_25 : zc 100 25 = some (.ireturn, 0, 0, 0, 0) := rfl
theorem zk_101_0 : zc 101 0 = some (.iload_n 1, 0, 0, 0, 0) := rfl
theorem zk_101_1 : zc 101 1 = some (.invokestatic 44, 115, 1, 1, 87) := rfl
theorem zk_101_4 : zc 101 4 = some (.ifCond .ne 9, 13, 0, 0, 0) := rfl
theorem zk_101_7 : zc 101 7 = some (.aload_n 0, 0, 0, 0, 0) := rfl
theorem zk_101_8 : zc 101 8 = some (.iconst (-1), 0, 0, 0, 0) := rfl
theorem zk_101_9 : zc 101 9 = some (.invokevirtual 48, 113, 0, 2, 88) := rfl
theorem zk_101_12 : zc 101 12 = some (.ireturn, 0, 0, 0, 0) := rfl
theorem zk_101_13 : zc 101 13 = some (.iload_n 2, 0, 0, 0, 0) := rfl
theorem zk_101_14 : zc 101 14 = some (.iconst 1, 0, 0, 0, 0) := rfl
theorem zk_101_15 : zc 101 15 = some (.bipush 60, 0, 0, 0, 0) := rfl
theorem zk_101_17 : zc 101 17 = some (.invokestatic 52, 114, 1, 3, 89) := rfl
theorem zk_101_20 : zc 101 20 = some (.ifCond .eq 13, 33, 0, 0, 0) := rfl
theorem zk_101_23 : zc 101 23 = some (.iload_n 3, 0, 0, 0, 0) := rfl
theorem zk_101_24 : zc 101 24 = some (.iconst 1, 0, 0, 0, 0) := rfl
theorem zk_101_25 : zc 101 25 = some (.bipush 99, 0, 0, 0, 0) := rfl
theorem zk_101_27 : zc 101 27 = some (.invokestatic 52, 114, 1, 3, 89) := rfl
theorem zk_101_30 : zc 101 30 = some (.ifCond .ne 10, 40, 0, 0, 0) := rfl
theorem zk_101_33 : zc 101 33 = some (.aload_n 0, 0, 0, 0, 0) := rfl
theorem zk_101_34 : zc 101 34 = some (.bipush (-6), 0, 0, 0, 0) := rfl
theorem zk_101_36 : zc 101 36 = some (.invokevirtual 48, 113, 0, 2, 88) := rfl
theorem zk_101_39 : zc 101 39 = some (.ireturn, 0, 0, 0, 0) := rfl
theorem zk_101_40 : zc 101 40 = some (.iload 4, 0, 0, 0, 0) := rfl
theorem zk_101_42 : zc 101 42 = some (.iconst 1, 0, 0, 0, 0) := rfl
theorem zk_101_43 : zc 101 43 = some (.bipush 9, 0, 0, 0, 0) := rfl
theorem zk_101_45 : zc 101 45 = some (.invokestatic 52, 114, 1, 3, 89) := rfl
theorem zk_101_48 : zc 101 48 = some (.ifCond .eq 14, 62, 0, 0, 0) := rfl
theorem zk_101_51 : zc 101 51 = some (.iload 5, 0, 0, 0, 0) := rfl
theorem zk_101_53 : zc 101 53 = some (.iconst 0, 0, 0, 0, 0) := rfl
theorem zk_101_54 : zc 101 54 = some (.bipush 9, 0, 0, 0, 0) := rfl
theorem zk_101_56 : zc 101 56 = some (.invokestatic 52, 114, 1, 3, 89) := rfl
theorem zk_101_59 : zc 101 59 = some (.ifCond .ne 10, 69, 0, 0, 0) := rfl
theorem zk_101_62 : zc 101 62 = some (.aload_n 0, 0, 0, 0, 0) := rfl
theorem zk_101_63 : zc 101 63 = some (.bipush (-6), 0, 0, 0, 0) := rfl
theorem zk_101_65 : zc 101 65 = some (.invokevirtual 48, 113, 0, 2, 88) := rfl
theorem zk_101_68 : zc 101 68 = some (.ireturn, 0, 0, 0, 0) := rfl
theorem zk_101_69 : zc 101 69 = some (.aload_n 0, 0, 0, 0, 0) := rfl
theorem zk_101_70 : zc 101 70 = some (.getfield 10, 10, 0, 0, 91) := rfl
theorem zk_101_73 : zc 101 73 = some (.getfield 265, 2, 7, 0, 128) := rfl
theorem zk_101_76 : zc 101 76 = some (.bipush 6, 0, 0, 0, 0) := rfl
theorem zk_101_78 : zc 101 78 = some (.if_icmp .lt 10, 88, 0, 0, 0) := rfl
theorem zk_101_88 : zc 101 88 = some (.aload_n 0, 0, 0, 0, 0) := rfl
theorem zk_101_89 : zc 101 89 = some (.getfield 10, 10, 0, 0, 91) := rfl
theorem zk_101_92 : zc 101 92 = some (.getfield 268, 2, 4, 0, 129) := rfl
theorem zk_101_95 : zc 101 95 = some (.aload_n 0, 0, 0, 0, 0) := rfl
theorem zk_101_96 : zc 101 96 = some (.getfield 10, 10, 0, 0, 91) := rfl
theorem zk_101_99 : zc 101 99 = some (.getfield 265, 2, 7, 0, 128) := rfl
theorem zk_101_102 : zc 101 102 = some (.aaload, 0, 0, 0, 0) := rfl
theorem zk_101_103 : zc 101 103 = some (.iload_n 1, 0, 0, 0, 0) := rfl
theorem zk_101_104 : zc 101 104 = some (.iload_n 2, 0, 0, 0, 0) := rfl
theorem zk_101_105 : zc 101 105 = some (.iload_n 3, 0, 0, 0, 0) := rfl
theorem zk_101_106 : zc 101 106 = some (.iload 4, 0, 0, 0, 0) := rfl
theorem zk_101_108 : zc 101 108 = some (.iload 5, 0, 0, 0, 0) := rfl
theorem zk_101_110 : zc 101 110 = some (.invokevirtual 272, 1, 0, 6, 117) := rfl
theorem zk_101_113 : zc 101 113 = some (.aload_n 0, 0, 0, 0, 0) := rfl
theorem zk_101_114 : zc 101 114 = some (.getfield 10, 10, 0, 0, 91) := rfl
theorem zk_101_117 : zc 101 117 = some (.dup, 0, 0, 0, 0) := rfl
theorem zk_101_118 : zc 101 118 = some (.getfield 265, 2, 7, 0, 128) := rfl
theorem zk_101_121 : zc 101 121 = some (.iconst 1, 0, 0, 0, 0) := rfl
theorem zk_101_122 : zc 101 122 = some (.iadd, 0, 0, 0, 0) := rfl
theorem zk_101_123 : zc 101 123 = some (.putfield 265, 2, 7, 0, 128) := rfl
theorem zk_101_126 : zc 101 126 = some (.aload_n 0, 0, 0, 0, 0) := rfl
theorem zk_101_127 : zc 101 127 = some (.getfield 10, 10, 0, 0, 91) := rfl
theorem zk_101_130 : zc 101 130 = some (.getfield 265, 2, 7, 0, 128) := rfl
theorem zk_101_133 : zc 101 133 = some (.iconst 1, 0, 0, 0, 0) := rfl
theorem zk_101_134 : zc 101 134 = some (.isub, 0, 0, 0, 0) := rfl
theorem zk_101_135 : zc 101 135 = some (.ireturn, 0, 0, 0, 0) := rfl
theorem zk_102_0 : zc 102 0 = some (.aload_n 0, 0, 0, 0, 0) := rfl
theorem zk_102_1 : zc 102 1 = some (.iload_n 1, 0, 0, 0, 0) := rfl
theorem zk_102_2 : zc 102 2 = some (.invokevirtual 277, 118, 0, 2, 118) := rfl
theorem zk_102_5 : zc 102 5 = some (.ifCond .eq 15, 20, 0, 0, 0) := rfl
theorem zk_102_20 : zc 102 20 = some (.aload_n 0, 0, 0, 0, 0) := rfl
theorem zk_102_21 : zc 102 21 = some (.iconst (-1), 0, 0, 0, 0) := rfl
theorem zk_102_22 : zc 102 22 = some (.invokevirtual 48, 113, 0, 2, 88) := rfl
theorem zk_102_25 : zc 102 25 = some (.ireturn, 0, 0, 0, 0) := rfl
theorem zk_103_0 : zc 103 0 = some (.aload_n 0, 0, 0, 0, 0) := rfl
theorem zk_103_1 : zc 103 1 = some (.iload_n 1, 0, 0, 0, 0) := rfl
theorem zk_103_2 : zc 103 2 = some (.invokevirtual 277, 118, 0, 2, 118) := rfl
theorem zk_103_5 : zc 103 5 = some (.ifCond .eq 22, 27, 0, 0, 0) := rfl
theorem zk_103_27 : zc 103 27 = some (.iconst (-1), 0, 0, 0, 0) := rfl
theorem zk_103_28 : zc 103 28 = some (.ireturn, 0, 0, 0, 0) := rfl
theorem zk_104_0 : zc 104 0 = some (.aload_n 0, 0, 0, 0, 0) := rfl
theorem zk_104_1 : zc 104 1 = some (.iload_n 1, 0, 0, 0, 0) := rfl
theorem zk_104_2 : zc 104 2 = some (.invokevirtual 277, 118, 0, 2, 118) := rfl
theorem zk_104_5 : zc 104 5 = some (.ifCond .eq 10, 15, 0, 0, 0) := rfl
theorem zk_104_15 : zc 104 15 = some (.iconst (-1), 0, 0, 0, 0) := rfl
theorem zk_104_16 : zc 104 16 = some (.ireturn, 0, 0, 0, 0) := rfl
theorem zk_105_0 : zc 105 0 = some (.aload_n 0, 0, 0, 0, 0) := rfl
theorem zk_105_1 : zc 105 1 = some (.iload_n 1, 0, 0, 0, 0) := rfl
theorem zk_105_2 : zc 105 2 = some (.invokevirtual 277, 118, 0, 2, 118) := rfl
theorem zk_105_5 : zc 105 5 = some (.ifCond .eq 19, 24, 0, 0, 0) := rfl
theorem zk_105_24 : zc 105 24 = some (.iconst (-1), 0, 0, 0, 0) := rfl
theorem zk_105_25 : zc 105 25 = some (.ireturn, 0, 0, 0, 0) := rfl
theorem zk_106_0 : zc 106 0 = some (.iload_n 1, 0, 0, 0, 0) := rfl
theorem zk_106_1 : zc 106 1 = some (.iconst 1, 0, 0, 0, 0) := rfl
theorem zk_106_2 : zc 106 2 = some (.sipush 200, 0, 0, 0, 0) := rfl
theorem zk_106_5 : zc 106 5 = some (.invokestatic 52, 114, 1, 3, 89) := rfl
theorem zk_106_8 : zc 106 8 = some (.ifCond .ne 10, 18, 0, 0, 0) := rfl
theorem zk_106_11 : zc 106 11 = some (.aload_n 0, 0, 0, 0, 0) := rfl
theorem zk_106_12 : zc 106 12 = some (.bipush (-6), 0, 0, 0, 0) := rfl
theorem zk_106_14 : zc 106 14 = some (.invokevirtual 48, 113, 0, 2, 88) := rfl
theorem zk_106_17 : zc 106 17 = some (.ireturn, 0, 0, 0, 0) := rfl
theorem zk_106_18 : zc 106 18 = some (.aload_n 0, 0, 0, 0, 0) := rfl
theorem zk_106_19 : zc 106 19 = some (.getfield 10, 10, 0, 0, 91) := rfl
theorem zk_106_22 : zc 106 22 = some (.getfield 304, 2, 13, 0, 133) := rfl
theorem zk_106_25 : zc 106 25 = some (.iload_n 1, 0, 0, 0, 0) := rfl
theorem zk_106_26 : zc 106 26 = some (.iadd, 0, 0, 0, 0) := rfl
theorem zk_106_27 : zc 106 27 = some (.sipush 20000, 0, 0, 0, 0) := rfl
theorem zk_106_30 : zc 106 30 = some (.if_icmp .le 10, 40, 0, 0, 0) := rfl
theorem zk_106_40 : zc 106 40 = some (.iconst 0, 0, 0, 0, 0) := rfl
theorem zk_106_41 : zc 106 41 = some (.istore_n 2, 0, 0, 0, 0) := rfl
theorem zk_106_42 : zc 106 42 = some (.iload_n 2, 0, 0, 0, 0) := rfl
theorem zk_106_43 : zc 106 43 = some (.iload_n 1, 0, 0, 0, 0) := rfl
theorem zk_106_44 : zc 106 44 = some (.if_icmp .ge 24, 68, 0, 0, 0) := rfl
theorem zk_106_47 : zc 106 47 = some (.aload_n 0, 0, 0, 0, 0) := rfl
theorem zk_106_48 : zc 106 48 = some (.getfield 10, 10, 0, 0, 91) := rfl
theorem zk_106_51 : zc 106 51 = some (.iconst 0, 0, 0, 0, 0) := rfl
theorem zk_106_52 : zc 106 52 = some (.invokevirtual 241, 12, 0, 2, 112) := rfl
theorem zk_106_55 : zc 106 55 = some (.aload_n 0, 0, 0, 0, 0) := rfl
theorem zk_106_56 : zc 106 56 = some (.getfield 10, 10, 0, 0, 91) := rfl
theorem zk_106_59 : zc 106 59 = some (.invokevirtual 245, 13, 0, 1, 113) := rfl
theorem zk_106_62 : zc 106 62 = some (.iinc 2 1, 0, 0, 0, 0) := rfl
theorem zk_106_65 : zc 106 65 = some (.goto (-23), 42, 0, 0, 0) := rfl
theorem zk_106_68 : zc 106 68 = some (.aload_n 0, 0, 0, 0, 0) := rfl
theorem zk_106_69 : zc 106 69 = some (.getfield 10, 10, 0, 0, 91) := rfl
theorem zk_106_72 : zc 106 72 = some (.getfield 304, 2, 13, 0, 133) := rfl
theorem zk_106_75 : zc 106 75 = some (.ireturn, 0, 0, 0, 0) := rfl
theorem zk_107_0 : zc 107 0 = some (.iload_n 1, 0, 0, 0, 0) := rfl
theorem zk_107_1 : zc 107 1 = some (.invokestatic 44, 115, 1, 1, 87) := rfl
theorem zk_107_4 : zc 107 4 = some (.ifCond .eq 14, 18, 0, 0, 0) := rfl
theorem zk_107_7 : zc 107 7 = some (.iload_n 2, 0, 0, 0, 0) := rfl
theorem zk_107_8 : zc 107 8 = some (.iconst 0, 0, 0, 0, 0) := rfl
theorem zk_107_9 : zc 107 9 = some (.sipush 200, 0, 0, 0, 0) := rfl
theorem zk_107_12 : zc 107 12 = some (.invokestatic 52, 114, 1, 3, 89) := rfl
theorem zk_107_15 : zc 107 15 = some (.ifCond .ne 7, 22, 0, 0, 0) := rfl
theorem zk_107_18 : zc 107 18 = some (.sipush 1000, 0, 0, 0, 0) := rfl
theorem zk_107_21 : zc 107 21 = some (.ireturn, 0, 0, 0, 0) := rfl
theorem zk_107_22 : zc 107 22 = some (.aload_n 0, 0, 0, 0, 0) := rfl
theorem zk_107_23 : zc 107 23 = some (.getfield 19, 10, 2, 0, 93) := rfl
theorem zk_107_26 : zc 107 26 = some (.aload_n 0, 0, 0, 0, 0) := rfl
theorem zk_107_27 : zc 107 27 = some (.getfield 10, 10, 0, 0, 91) := rfl
theorem zk_107_30 : zc 107 30 = some (.invokevirtual 233, 22, 0, 2, 110) := rfl
theorem zk_107_33 : zc 107 33 = some (.iconst 0, 0, 0, 0, 0) := rfl
theorem zk_107_34 : zc 107 34 = some (.istore_n 3, 0, 0, 0, 0) := rfl
theorem zk_107_35 : zc 107 35 = some (.iload_n 3, 0, 0, 0, 0) := rfl
theorem zk_107_36 : zc 107 36 = some (.iload_n 2, 0, 0, 0, 0) := rfl
theorem zk_107_37 : zc 107 37 = some (.if_icmp .ge 24, 61, 0, 0, 0) := rfl
theorem zk_107_40 : zc 107 40 = some (.aload_n 0, 0, 0, 0, 0) := rfl
theorem zk_107_41 : zc 107 41 = some (.getfield 19, 10, 2, 0, 93) := rfl
theorem zk_107_44 : zc 107 44 = some (.iconst 1, 0, 0, 0, 0) := rfl
theorem zk_107_45 : zc 107 45 = some (.invokevirtual 241, 12, 0, 2, 112) := rfl
theorem zk_107_48 : zc 107 48 = some (.aload_n 0, 0, 0, 0, 0) := rfl
theorem zk_107_49 : zc 107 49 = some (.getfield 19, 10, 2, 0, 93) := rfl
theorem zk_107_52 : zc 107 52 = some (.invokevirtual 245, 13, 0, 1, 113) := rfl
theorem zk_107_55 : zc 107 55 = some (.iinc 3 1, 0, 0, 0, 0) := rfl
theorem zk_107_58 : zc 107 58 = some (.goto (-23), 35, 0, 0, 0) := rfl
theorem zk_107_61 : zc 107 61 = some (.aload_n 0, 0, 0, 0, 0) := rfl
theorem zk_107_62 : zc 107 62 = some (.getfield 19, 10, 2, 0, 93) := rfl
theorem zk_107_65 : zc 107 65 = some (.getfield 56, 2, 0, 0, 98) := rfl
theorem zk_107_68 : zc 107 68 = some (.getfield 65, 4, 1, 0, 100) := rfl
theorem zk_107_71 : zc 107 71 = some (.iload_n 1, 0, 0, 0, 0) := rfl
theorem zk_107_72 : zc 107 72 = some (.iaload, 0, 0, 0, 0) := rfl
theorem zk_107_73 : zc 107 73 = some (.ireturn, 0, 0, 0, 0) := rfl
theorem zk_108_0 : zc 108 0 = some (.aload_n 0, 0, 0, 0, 0) := rfl
theorem zk_108_1 : zc 108 1 = some (.getfield 16, 10, 1, 0, 92) := rfl
theorem zk_108_4 : zc 108 4 = some (.aload_n 0, 0, 0, 0, 0) := rfl
theorem zk_108_5 : zc 108 5 = some (.getfield 10, 10, 0, 0, 91) := rfl
theorem zk_108_8 : zc 108 8 = some (.invokevirtual 233, 22, 0, 2, 110) := rfl
theorem zk_108_11 : zc 108 11 = some (.aload_n 0, 0, 0, 0, 0) := rfl
theorem zk_108_12 : zc 108 12 = some (.iconst 1, 0, 0, 0, 0) := rfl
theorem zk_108_13 : zc 108 13 = some (.putfield 307, 10, 3, 0, 134) := rfl
theorem zk_108_16 : zc 108 16 = some (.aload_n 0, 0, 0, 0, 0) := rfl
theorem zk_108_17 : zc 108 17 = some (.getfield 10, 10, 0, 0, 91) := rfl
theorem zk_108_20 : zc 108 20 = some (.getfield 304, 2, 13, 0, 133) := rfl
theorem zk_108_23 : zc 108 23 = some (.ireturn, 0, 0, 0, 0) := rfl
theorem zk_109_0 : zc 109 0 = some (.aload_n 0, 0, 0, 0, 0) := rfl
theorem zk_109_1 : zc 109 1 = some (.getfield 307, 10, 3, 0, 134) := rfl
theorem zk_109_4 : zc 109 4 = some (.ifCond .ne 10, 14, 0, 0, 0) := rfl
theorem zk_109_7 : zc 109 7 = some (.aload_n 0, 0, 0, 0, 0) := rfl
theorem zk_109_8 : zc 109 8 = some (.bipush (-6), 0, 0, 0, 0) := rfl
theorem zk_109_10 : zc 109 10 = some (.invokevirtual 48, 113, 0, 2, 88) := rfl
theorem zk_109_13 : zc 109 13 = some (.ireturn, 0, 0, 0, 0) := rfl
theorem zk_110_0 : zc 110 0 = some (.iload_n 1, 0, 0, 0, 0) := rfl
theorem zk_110_1 : zc 110 1 = some (.invokestatic 44, 115, 1, 1, 87) := rfl
theorem zk_110_4 : zc 110 4 = some (.ifCond .ne 7, 11, 0, 0, 0) := rfl
theorem zk_110_7 : zc 110 7 = some (.ldc_w 310, 0, 0, 1000000, 0) := rfl
theorem zk_110_10 : zc 110 10 = some (.ireturn, 0, 0, 0, 0) := rfl
theorem zk_110_11 : zc 110 11 = some (.iload_n 2, 0, 0, 0, 0) := rfl
theorem zk_110_12 : zc 110 12 = some (.tableswitch 100 0 4 #[36, 49, 62, 75, 88], 0, 0, 0, 0) := rfl
theorem zk_110_48 : zc 110 48 = some (.aload_n 0, 0, 0, 0, 0) := rfl
theorem zk_110_49 : zc 110 49 = some (.getfield 10, 10, 0, 0, 91) := rfl
theorem zk_110_52 : zc 110 52 = some (.getfield 56, 2, 0, 0, 98) := rfl
theorem zk_110_55 : zc 110 55 = some (.getfield 60, 4, 0, 0, 99) := rfl
theorem zk_110_58 : zc 110 58 = some (.iload_n 1, 0, 0, 0, 0) := rfl
theorem zk_110_59 : zc 110 59 = some (.iaload, 0, 0, 0, 0) := rfl
theorem zk_110_60 : zc 110 60 = some (.ireturn, 0, 0, 0, 0) := rfl
theorem zk_110_61 : zc 110 61 = some (.aload_n 0, 0, 0, 0, 0) := rfl
theorem zk_110_62 : zc 110 62 = some (.getfield 10, 10, 0, 0, 91) := rfl
theorem zk_110_65 : zc 110 65 = some (.getfield 56, 2, 0, 0, 98) := rfl
theorem zk_110_68 : zc 110 68 = some (.getfield 65, 4, 1, 0, 100) := rfl
theorem zk_110_71 : zc 110 71 = some (.iload_n 1, 0, 0, 0, 0) := rfl
theorem zk_110_72 : zc 110 72 = some (.iaload, 0, 0, 0, 0) := rfl
theorem zk_110_73 : zc 110 73 = some (.ireturn, 0, 0, 0, 0) := rfl
theorem zk_110_74 : zc 110 74 = some (.aload_n 0, 0, 0, 0, 0) := rfl
theorem zk_110_75 : zc 110 75 = some (.getfield 10, 10, 0, 0, 91) := rfl
theorem zk_110_78 : zc 110 78 = some (.getfield 56, 2, 0, 0, 98) := rfl
theorem zk_110_81 : zc 110 81 = some (.getfield 311, 4, 2, 0, 135) := rfl
theorem zk_110_84 : zc 110 84 = some (.iload_n 1, 0, 0, 0, 0) := rfl
theorem zk_110_85 : zc 110 85 = some (.iaload, 0, 0, 0, 0) := rfl
theorem zk_110_86 : zc 110 86 = some (.ireturn, 0, 0, 0, 0) := rfl
theorem zk_110_87 : zc 110 87 = some (.aload_n 0, 0, 0, 0, 0) := rfl
theorem zk_110_88 : zc 110 88 = some (.getfield 10, 10, 0, 0, 91) := rfl
theorem zk_110_91 : zc 110 91 = some (.getfield 56, 2, 0, 0, 98) := rfl
theorem zk_110_94 : zc 110 94 = some (.getfield 314, 4, 3, 0, 136) := rfl
theorem zk_110_97 : zc 110 97 = some (.iload_n 1, 0, 0, 0, 0) := rfl
theorem zk_110_98 : zc 110 98 = some (.iaload, 0, 0, 0, 0) := rfl
theorem zk_110_99 : zc 110 99 = some (.ireturn, 0, 0, 0, 0) := rfl
theorem zk_110_100 : zc 110 100 = some (.aload_n 0, 0, 0, 0, 0) := rfl
theorem zk_110_101 : zc 110 101 = some (.getfield 10, 10, 0, 0, 91) := rfl
theorem zk_110_104 : zc 110 104 = some (.getfield 94, 2, 1, 0, 105) := rfl
theorem zk_110_107 : zc 110 107 = some (.iload_n 1, 0, 0, 0, 0) := rfl
theorem zk_110_108 : zc 110 108 = some (.invokevirtual 98, 62, 0, 2, 93) := rfl
theorem zk_110_111 : zc 110 111 = some (.ireturn, 0, 0, 0, 0) := rfl
theorem zk_110_112 : zc 110 112 = some (.ldc_w 310, 0, 0, 1000000, 0) := rfl
theorem zk_110_115 : zc 110 115 = some (.ireturn, 0, 0, 0, 0) := rfl
theorem zk_111_0 : zc 111 0 = some (.iload_n 1, 0, 0, 0, 0) := rfl
theorem zk_111_1 : zc 111 1 = some (.iload_n 2, 0, 0, 0, 0) := rfl
theorem zk_111_2 : zc 111 2 = some (.invokestatic 71, 30, 1, 2, 90) := rfl
theorem zk_111_5 : zc 111 5 = some (.istore 4, 0, 0, 0, 0) := rfl
theorem zk_111_7 : zc 111 7 = some (.iload 4, 0, 0, 0, 0) := rfl
theorem zk_111_9 : zc 111 9 = some (.iconst (-1), 0, 0, 0, 0) := rfl
theorem zk_111_10 : zc 111 10 = some (.if_icmp .ne 5, 15, 0, 0, 0) := rfl
theorem zk_111_13 : zc 111 13 = some (.iconst (-1), 0, 0, 0, 0) := rfl
theorem zk_111_14 : zc 111 14 = some (.ireturn, 0, 0, 0, 0) := rfl
theorem zk_111_15 : zc 111 15 = some (.iload_n 3, 0, 0, 0, 0) := rfl
theorem zk_111_16 : zc 111 16 = some (.tableswitch 86 0 2 #[28, 50, 72], 0, 0, 0, 0) := rfl
theorem zk_111_44 : zc 111 44 = some (.aload_n 0, 0, 0, 0, 0) := rfl
theorem zk_111_45 : zc 111 45 = some (.getfield 10, 10, 0, 0, 91) := rfl
theorem zk_111_48 : zc 111 48 = some (.getfield 56, 2, 0, 0, 98) := rfl
theorem zk_111_51 : zc 111 51 = some (.getfield 75, 4, 5, 0, 102) := rfl
theorem zk_111_54 : zc 111 54 = some (.iload 4, 0, 0, 0, 0) := rfl
theorem zk_111_56 : zc 111 56 = some (.baload, 0, 0, 0, 0) := rfl
theorem zk_111_57 : zc 111 57 = some (.ifCond .eq 7, 64, 0, 0, 0) := rfl
theorem zk_111_64 : zc 111 64 = some (.iconst 0, 0, 0, 0, 0) := rfl
theorem zk_111_65 : zc 111 65 = some (.ireturn, 0, 0, 0, 0) := rfl
theorem zk_111_66 : zc 111 66 = some (.aload_n 0, 0, 0, 0, 0) := rfl
theorem zk_111_67 : zc 111 67 = some (.getfield 10, 10, 0, 0, 91) := rfl
theorem zk_111_70 : zc 111 70 = some (.getfield 56, 2, 0, 0, 98) := rfl
theorem zk_111_73 : zc 111 73 = some (.getfield 83, 4, 6, 0, 103) := rfl
theorem zk_111_76 : zc 111 76 = some (.iload 4, 0, 0, 0, 0) := rfl
theorem zk_111_78 : zc 111 78 = some (.baload, 0, 0, 0, 0) := rfl
theorem zk_111_79 : zc 111 79 = some (.ifCond .eq 7, 86, 0, 0, 0) := rfl
theorem zk_111_86 : zc 111 86 = some (.iconst 0, 0, 0, 0, 0) := rfl
theorem zk_111_87 : zc 111 87 = some (.ireturn, 0, 0, 0, 0) := rfl
theorem zk_111_88 : zc 111 88 = some (.aload_n 0, 0, 0, 0, 0) := rfl
theorem zk_111_89 : zc 111 89 = some (.getfield 10, 10, 0, 0, 91) := rfl
theorem zk_111_92 : zc 111 92 = some (.getfield 56, 2, 0, 0, 98) := rfl
theorem zk_111_95 : zc 111 95 = some (.getfield 86, 4, 4, 0, 104) := rfl
theorem zk_111_98 : zc 111 98 = some (.iload 4, 0, 0, 0, 0) := rfl
theorem zk_111_100 : zc 111 100 = some (.iaload, 0, 0, 0, 0) := rfl
theorem zk_111_101 : zc 111 101 = some (.ireturn, 0, 0, 0, 0) := rfl
theorem zk_111_102 : zc 111 102 = some (.iconst (-1), 0, 0, 0, 0) := rfl
theorem zk_111_103 : zc 111 103 = some (.ireturn, 0, 0, 0, 0) := rfl
theorem zk_112_0 : zc 112 0 = some (.iload_n 1, 0, 0, 0, 0) := rfl
theorem zk_112_1 : zc 112 1 = some (.tableswitch 196 0 18 #[91, 102, 113, 121, 129, 137, 145, 153, 161, 169, 177, 196, 196, 196, 196, 196, 196, 196, 188], 0, 0, 0, 0) := rfl
theorem zk_112_92 : zc 112 92 = some (.aload_n 0, 0, 0, 0, 0) := rfl
theorem zk_112_93 : zc 112 93 = some (.getfield 10, 10, 0, 0, 91) := rfl
theorem zk_112_96 : zc 112 96 = some (.getfield 94, 2, 1, 0, 105) := rfl
theorem zk_112_99 : zc 112 99 = some (.getfield 103, 7, 0, 0, 106) := rfl
theorem zk_112_102 : zc 112 102 = some (.ireturn, 0, 0, 0, 0) := rfl
theorem zk_112_103 : zc 112 103 = some (.aload_n 0, 0, 0, 0, 0) := rfl
theorem zk_112_104 : zc 112 104 = some (.getfield 10, 10, 0, 0, 91) := rfl
theorem zk_112_107 : zc 112 107 = some (.getfield 94, 2, 1, 0, 105) := rfl
theorem zk_112_110 : zc 112 110 = some (.invokevirtual 317, 63, 0, 1, 123) := rfl
theorem zk_112_113 : zc 112 113 = some (.ireturn, 0, 0, 0, 0) := rfl
theorem zk_112_114 : zc 112 114 = some (.aload_n 0, 0, 0, 0, 0) := rfl
theorem zk_112_115 : zc 112 115 = some (.getfield 10, 10, 0, 0, 91) := rfl
theorem zk_112_118 : zc 112 118 = some (.getfield 202, 2, 5, 0, 121) := rfl
theorem zk_112_121 : zc 112 121 = some (.ireturn, 0, 0, 0, 0) := rfl
theorem zk_112_122 : zc 112 122 = some (.aload_n 0, 0, 0, 0, 0) := rfl
theorem zk_112_123 : zc 112 123 = some (.getfield 10, 10, 0, 0, 91) := rfl
theorem zk_112_126 : zc 112 126 = some (.invokevirtual 320, 19, 0, 1, 124) := rfl
theorem zk_112_129 : zc 112 129 = some (.ireturn, 0, 0, 0, 0) := rfl
theorem zk_112_130 : zc 112 130 = some (.aload_n 0, 0, 0, 0, 0) := rfl
theorem zk_112_131 : zc 112 131 = some (.getfield 10, 10, 0, 0, 91) := rfl
theorem zk_112_134 : zc 112 134 = some (.getfield 252, 2, 6, 0, 126) := rfl
theorem zk_112_137 : zc 112 137 = some (.ireturn, 0, 0, 0, 0) := rfl
theorem zk_112_138 : zc 112 138 = some (.aload_n 0, 0, 0, 0, 0) := rfl
theorem zk_112_139 : zc 112 139 = some (.getfield 10, 10, 0, 0, 91) := rfl
theorem zk_112_142 : zc 112 142 = some (.getfield 265, 2, 7, 0, 128) := rfl
theorem zk_112_145 : zc 112 145 = some (.ireturn, 0, 0, 0, 0) := rfl
theorem zk_112_146 : zc 112 146 = some (.aload_n 0, 0, 0, 0, 0) := rfl
theorem zk_112_147 : zc 112 147 = some (.getfield 10, 10, 0, 0, 91) := rfl
theorem zk_112_150 : zc 112 150 = some (.invokevirtual 323, 18, 0, 1, 125) := rfl
theorem zk_112_153 : zc 112 153 = some (.ireturn, 0, 0, 0, 0) := rfl
theorem zk_112_154 : zc 112 154 = some (.aload_n 0, 0, 0, 0, 0) := rfl
theorem zk_112_155 : zc 112 155 = some (.getfield 10, 10, 0, 0, 91) := rfl
theorem zk_112_158 : zc 112 158 = some (.getfield 304, 2, 13, 0, 133) := rfl
theorem zk_112_161 : zc 112 161 = some (.ireturn, 0, 0, 0, 0) := rfl
theorem zk_112_162 : zc 112 162 = some (.aload_n 0, 0, 0, 0, 0) := rfl
theorem zk_112_163 : zc 112 163 = some (.getfield 10, 10, 0, 0, 91) := rfl
theorem zk_112_166 : zc 112 166 = some (.getfield 326, 2, 14, 0, 137) := rfl
theorem zk_112_169 : zc 112 169 = some (.ireturn, 0, 0, 0, 0) := rfl
theorem zk_112_170 : zc 112 170 = some (.aload_n 0, 0, 0, 0, 0) := rfl
theorem zk_112_171 : zc 112 171 = some (.getfield 10, 10, 0, 0, 91) := rfl
theorem zk_112_174 : zc 112 174 = some (.getfield 329, 2, 15, 0, 138) := rfl
theorem zk_112_177 : zc 112 177 = some (.ireturn, 0, 0, 0, 0) := rfl
theorem zk_112_178 : zc 112 178 = some (.aload_n 0, 0, 0, 0, 0) := rfl
theorem zk_112_179 : zc 112 179 = some (.getfield 10, 10, 0, 0, 91) := rfl
theorem zk_112_182 : zc 112 182 = some (.getfield 56, 2, 0, 0, 98) := rfl
theorem zk_112_185 : zc 112 185 = some (.invokevirtual 332, 34, 0, 1, 126) := rfl
theorem zk_112_188 : zc 112 188 = some (.ireturn, 0, 0, 0, 0) := rfl
theorem zk_112_189 : zc 112 189 = some (.aload_n 0, 0, 0, 0, 0) := rfl
theorem zk_112_190 : zc 112 190 = some (.getfield 10, 10, 0, 0, 91) := rfl
theorem zk_112_193 : zc 112 193 = some (.getfield 68, 2, 16, 0, 101) := rfl
theorem zk_112_196 : zc 112 196 = some (.ireturn, 0, 0, 0, 0) := rfl
theorem zk_112_197 : zc 112 197 = some (.iload_n 1, 0, 0, 0, 0) := rfl
theorem zk_112_198 : zc 112 198 = some (.bipush 11, 0, 0, 0, 0) := rfl
theorem zk_112_200 : zc 112 200 = some (.bipush 17, 0, 0, 0, 0) := rfl
theorem zk_112_202 : zc 112 202 = some (.invokestatic 52, 114, 1, 3, 89) := rfl
theorem zk_112_205 : zc 112 205 = some (.ifCond .eq 15, 220, 0, 0, 0) := rfl
theorem zk_112_208 : zc 112 208 = some (.aload_n 0, 0, 0, 0, 0) := rfl
theorem zk_112_209 : zc 112 209 = some (.getfield 28, 10, 5, 0, 95) := rfl
theorem zk_112_212 : zc 112 212 = some (.iload_n 1, 0, 0, 0, 0) := rfl
theorem zk_112_213 : zc 112 213 = some (.bipush 10, 0, 0, 0, 0) := rfl
theorem zk_112_215 : zc 112 215 = some (.isub, 0, 0, 0, 0) := rfl
theorem zk_112_216 : zc 112 216 = some (.iaload, 0, 0, 0, 0) := rfl
theorem zk_112_217 : zc 112 217 = some (.goto 6, 223, 0, 0, 0) := rfl
theorem zk_112_220 : zc 112 220 = some (.ldc_w 335, 0, 0, -1000001, 1) := rfl
theorem zk_112_223 : zc 112 223 = some (.ireturn, 0, 0, 0, 0) := rfl
def M1 (a b : Nat) (t i k j : Nat) : Prop := t = 1 ∨ t = a ∨ t = b ∨ t = 28
def MYR (c : Nat) (t i k j : Nat) : Prop := (i = c ∧ 1 ≤ t ∧ t ≤ 26) ∨ t = 28 ∨ t = 0
def MDr (c : Nat) (t i k j : Nat) : Prop := (i = c ∧ (t = 3 ∨ t = 4 ∨ t = 6 ∨ t = 10 ∨ t = 21 ∨ t = 22 ∨ (t = 1 ∧ j = 13))) ∨ t = 28
def MM (t i k j : Nat) : Prop := t = 11 ∨ t = 12 ∨ t = 13 ∨ t = 28
def MS (t i k j : Nat) : Prop := t = 28 ∨ t = 33 ∨ t = 34
/-- W.depth -/
theorem x_depth {xs : Nat × (Nat → Int32)} (p0 : Int) (p1 : Int) (h0 : -2147483648 ≤ p0 ∧ p0 ≤ 2147483647) (h1 : -2147483648 ≤ p1 ∧ p1 ≤ 2147483647) (σ : ZS) (hI : Inv σ) (hf : ∀ t i k j, t < 35 → σ t i k j = σ0 t i k j)  : CT xs 3 75 [av 0 0 0, iv p0, iv p1] σ (fun v σ' => ∃ y, v = some (iv y) ∧ ((y = -1 ∧ (¬ (0 ≤ p0 ∧ p0 ≤ 24))) ∨ (y = -6 ∧ ¬ (¬ (0 ≤ p0 ∧ p0 ≤ 24)) ∧ (¬ (0 ≤ p1 ∧ p1 ≤ 60))) ∨ (y = 20 ∧ ¬ (¬ (0 ≤ p0 ∧ p0 ≤ 24)) ∧ ¬ (¬ (0 ≤ p1 ∧ p1 ≤ 60)))) ∧ IF (MT 3 28 28 28) σ σ' ∧ (True)) := by
  refine G_ct (J := (fun σ' => IF (MT 3 28 28 28) σ σ' ∧ (∀ j, 0 ≤ j → j < 25 → σ' 3 0 0 j = 20) ∧ True)) (L := [(0, av 0 0 0), (1, iv p0), (2, iv p1)]) (nL := 4) rfl rfl rfl ⟨IF.rf hI, (fun j _ _ => hf _ _ _ _ (by decide)), trivial⟩ ?_
  refine T_ld zk_75_0 rfl rfl rfl (pc' := 1) rfl ?_
  refine T_calli (K := fun y1 σ' => ((y1 = 0 ∧ (p0 < 0 ∨ 24 < p0)) ∨ (y1 = 1 ∧ 0 ≤ p0 ∧ p0 ≤ 24)) ∧ (fun σ' => IF (MT 3 28 28 28) σ σ' ∧ (∀ j, 0 ≤ j → j < 25 → σ' 3 0 0 j = 20) ∧ True) σ') (r := []) zk_75_1 rfl rfl rfl rfl rfl rfl (Or.inl (Or.inl rfl)) (fun σ' h => (c_115 p0 (by omega) σ' h.1.1 ).le (Nat.le_of_ble_eq_true rfl) (fun v σ2 ⟨y, h1, h2, h3, h4⟩ => ⟨y, h1, h2, h.1.tr h3 MN_sub, fun j a b => (h3.2 _ _ _ _ (fun q => q)).trans (h.2.1 j a b), trivial⟩)) (pc' := 4) rfl (fun y1 => ?_)
  refine G_ex (fun hy1 => ?_)
  refine T_if_ne zk_75_4 (by omega) (pc' := 7) rfl (fun h2 => ?_) (fun h3 => ?_)
  ·
    refine T_ld zk_75_13 rfl rfl rfl (pc' := 14) rfl ?_
    refine T_op zk_75_14 rfl X_ic (pc' := 15) rfl ?_
    refine T_op zk_75_15 rfl (X_bi (v := 60) (by decide)) (pc' := 17) rfl ?_
    refine T_calli (K := fun y4 σ' => ((y4 = 0 ∧ (p1 < 0 ∨ 60 < p1)) ∨ (y4 = 1 ∧ 0 ≤ p1 ∧ p1 ≤ 60)) ∧ (fun σ' => IF (MT 3 28 28 28) σ σ' ∧ (∀ j, 0 ≤ j → j < 25 → σ' 3 0 0 j = 20) ∧ True) σ') (r := []) zk_75_17 rfl rfl rfl rfl rfl rfl (Or.inl (Or.inl rfl)) (fun σ' h => (c_114 p1 0 60 (by omega) (by omega) (by omega) σ' h.1.1 ).le (Nat.le_of_ble_eq_true rfl) (fun v σ2 ⟨y, h1, h2, h3, h4⟩ => ⟨y, h1, h2, h.1.tr h3 MN_sub, fun j a b => (h3.2 _ _ _ _ (fun q => q)).trans (h.2.1 j a b), trivial⟩)) (pc' := 20) rfl (fun y4 => ?_)
    refine G_ex (fun hy4 => ?_)
    refine T_if_ne zk_75_20 (by omega) (pc' := 23) rfl (fun h5 => ?_) (fun h6 => ?_)
    ·
      refine T_ld zk_75_30 rfl rfl rfl (pc' := 31) rfl ?_
      refine T_getR (t' := 1) (i' := 0) (k' := 0) zk_75_31 rfl rfl rfl vd_0 (pc' := 34) rfl ?_
      refine T_getR (t' := 2) (i' := 0) (k' := 0) zk_75_34 rfl rfl rfl (vd_1 (by omega)) (pc' := 37) rfl ?_
      refine T_getR (t' := 3) (i' := 0) (k' := 0) zk_75_37 rfl rfl rfl (vd_2 (by omega)) (pc' := 40) rfl ?_
      refine T_ld zk_75_40 rfl rfl rfl (pc' := 41) rfl ?_
      refine G_ialdX (w := 20) (ln := 25) zk_75_41 rfl rfl (vd_3 (by omega)) (by omega) (by omega) (by omega) (fun σ' h => h.2.1 _ (by omega) (by omega)) (pc' := 42) rfl ?_
      refine T_st (L' := [(0, av 0 0 0), (1, iv p0), (2, iv p1), (3, iv 20)]) zk_75_42 (nL := 4) rfl rfl rfl rfl rfl (pc' := 43) rfl ?_
      refine T_ld zk_75_43 rfl rfl rfl (pc' := 44) rfl ?_
      refine T_getR (t' := 1) (i' := 0) (k' := 0) zk_75_44 rfl rfl rfl vd_0 (pc' := 47) rfl ?_
      refine T_getR (t' := 2) (i' := 0) (k' := 0) zk_75_47 rfl rfl rfl (vd_1 (by omega)) (pc' := 50) rfl ?_
      refine T_getR (t' := 3) (i' := 0) (k' := 0) zk_75_50 rfl rfl rfl (vd_2 (by omega)) (pc' := 53) rfl ?_
      refine T_ld zk_75_53 rfl rfl rfl (pc' := 54) rfl ?_
      refine T_ld zk_75_54 rfl rfl rfl (pc' := 55) rfl ?_
      refine G_iast (J' := (fun σ' => IF (MT 3 28 28 28) σ σ' ∧ True)) (ln := 25) zk_75_55 rfl rfl (vd_3 (by omega)) (by omega) (by omega) (by omega) (fun σ' h => ⟨h.1.up ⟨by omega, trivial⟩ (by unfold MT; omega), trivial⟩) (pc' := 56) rfl ?_
      refine T_ld zk_75_56 rfl rfl rfl (pc' := 57) rfl ?_
      exact T_iret zk_75_57 rfl (fun σ' h => ⟨_, rfl, (by omega), h.1, trivial⟩)
    ·
      refine T_ld zk_75_23 rfl rfl rfl (pc' := 24) rfl ?_
      refine T_op zk_75_24 rfl (X_bi (v := -6) (by decide)) (pc' := 26) rfl ?_
      refine T_calli (K := fun y7 σ' => (y7 = (-6)) ∧ (fun σ' => IF (MT 3 28 28 28) σ σ' ∧ (∀ j, 0 ≤ j → j < 25 → σ' 3 0 0 j = 20) ∧ True) σ') (r := []) zk_75_26 rfl rfl rfl rfl rfl rfl (Or.inr ⟨_, _, _, _, rfl, vd_0, rfl⟩) (fun σ' h => (c_113 ((-6)) (by omega) σ' h.1.1 ).le (Nat.le_of_ble_eq_true rfl) (fun v σ2 ⟨y, h1, h2, h3, h4⟩ => ⟨y, h1, h2, h.1.tr h3 (fun t i k j h => by unfold MT at h; unfold MT; omega), fun j a b => (h3.2 _ _ _ _ (by unfold MT; omega)).trans (h.2.1 j a b), trivial⟩)) (pc' := 29) rfl (fun y7 => ?_)
      refine G_ex (fun hy7 => ?_)
      obtain rfl : y7 = (-6) := by omega
      exact T_iret zk_75_29 rfl (fun σ' h => ⟨_, rfl, (by omega), h.1, trivial⟩)
  ·
    refine T_ld zk_75_7 rfl rfl rfl (pc' := 8) rfl ?_
    refine T_op zk_75_8 rfl X_ic (pc' := 9) rfl ?_
    refine T_calli (K := fun y8 σ' => (y8 = (-1)) ∧ (fun σ' => IF (MT 3 28 28 28) σ σ' ∧ (∀ j, 0 ≤ j → j < 25 → σ' 3 0 0 j = 20) ∧ True) σ') (r := []) zk_75_9 rfl rfl rfl rfl rfl rfl (Or.inr ⟨_, _, _, _, rfl, vd_0, rfl⟩) (fun σ' h => (c_113 ((-1)) (by omega) σ' h.1.1 ).le (Nat.le_of_ble_eq_true rfl) (fun v σ2 ⟨y, h1, h2, h3, h4⟩ => ⟨y, h1, h2, h.1.tr h3 (fun t i k j h => by unfold MT at h; unfold MT; omega), fun j a b => (h3.2 _ _ _ _ (by unfold MT; omega)).trans (h.2.1 j a b), trivial⟩)) (pc' := 12) rfl (fun y8 => ?_)
    refine G_ex (fun hy8 => ?_)
    obtain rfl : y8 = (-1) := by omega
    exact T_iret zk_75_12 rfl (fun σ' h => ⟨_, rfl, (by omega), h.1, trivial⟩)
/-- W.level -/
theorem x_level {xs : Nat × (Nat → Int32)} (p0 : Int) (p1 : Int) (h0 : -2147483648 ≤ p0 ∧ p0 ≤ 2147483647) (h1 : -2147483648 ≤ p1 ∧ p1 ≤ 2147483647) (σ : ZS) (hI : Inv σ) (hf : ∀ t i k j, t < 35 → σ t i k j = σ0 t i k j)  : CT xs 3 76 [av 0 0 0, iv p0, iv p1] σ (fun v σ' => ∃ y, v = some (iv y) ∧ ((y = -1 ∧ (¬ (0 ≤ p0 ∧ p0 ≤ 24))) ∨ (y = -6 ∧ ¬ (¬ (0 ≤ p0 ∧ p0 ≤ 24)) ∧ (¬ (-300 ≤ p1 ∧ p1 ≤ 300))) ∨ (y = 0 ∧ ¬ (¬ (0 ≤ p0 ∧ p0 ≤ 24)) ∧ ¬ (¬ (-300 ≤ p1 ∧ p1 ≤ 300)))) ∧ IF (M1 4 4) σ σ' ∧ (True)) := by
  refine G_ct (J := (fun σ' => IF (M1 4 4) σ σ' ∧ (∀ j, 0 ≤ j → j < 25 → σ' 4 0 0 j = 0) ∧ True)) (L := [(0, av 0 0 0), (1, iv p0), (2, iv p1)]) (nL := 4) rfl rfl rfl ⟨IF.rf hI, (fun j _ _ => hf _ _ _ _ (by decide)), trivial⟩ ?_
  refine T_ld zk_76_0 rfl rfl rfl (pc' := 1) rfl ?_
  refine T_calli (K := fun y1 σ' => ((y1 = 0 ∧ (p0 < 0 ∨ 24 < p0)) ∨ (y1 = 1 ∧ 0 ≤ p0 ∧ p0 ≤ 24)) ∧ (fun σ' => IF (M1 4 4) σ σ' ∧ (∀ j, 0 ≤ j → j < 25 → σ' 4 0 0 j = 0) ∧ True) σ') (r := []) zk_76_1 rfl rfl rfl rfl rfl rfl (Or.inl (Or.inl rfl)) (fun σ' h => (c_115 p0 (by omega) σ' h.1.1 ).le (Nat.le_of_ble_eq_true rfl) (fun v σ2 ⟨y, h1, h2, h3, h4⟩ => ⟨y, h1, h2, h.1.tr h3 MN_sub, fun j a b => (h3.2 _ _ _ _ (fun q => q)).trans (h.2.1 j a b), trivial⟩)) (pc' := 4) rfl (fun y1 => ?_)
  refine G_ex (fun hy1 => ?_)
  refine T_if_ne zk_76_4 (by omega) (pc' := 7) rfl (fun h2 => ?_) (fun h3 => ?_)
  ·
    refine T_ld zk_76_13 rfl rfl rfl (pc' := 14) rfl ?_
    refine T_op zk_76_14 rfl (X_si (v := -300) (by decide)) (pc' := 17) rfl ?_
    refine T_op zk_76_17 rfl (X_si (v := 300) (by decide)) (pc' := 20) rfl ?_
    refine T_calli (K := fun y4 σ' => ((y4 = 0 ∧ (p1 < (-300) ∨ 300 < p1)) ∨ (y4 = 1 ∧ (-300) ≤ p1 ∧ p1 ≤ 300)) ∧ (fun σ' => IF (M1 4 4) σ σ' ∧ (∀ j, 0 ≤ j → j < 25 → σ' 4 0 0 j = 0) ∧ True) σ') (r := []) zk_76_20 rfl rfl rfl rfl rfl rfl (Or.inl (Or.inl rfl)) (fun σ' h => (c_114 p1 ((-300)) 300 (by omega) (by omega) (by omega) σ' h.1.1 ).le (Nat.le_of_ble_eq_true rfl) (fun v σ2 ⟨y, h1, h2, h3, h4⟩ => ⟨y, h1, h2, h.1.tr h3 MN_sub, fun j a b => (h3.2 _ _ _ _ (fun q => q)).trans (h.2.1 j a b), trivial⟩)) (pc' := 23) rfl (fun y4 => ?_)
    refine G_ex (fun hy4 => ?_)
    refine T_if_ne zk_76_23 (by omega) (pc' := 26) rfl (fun h5 => ?_) (fun h6 => ?_)
    ·
      refine T_ld zk_76_33 rfl rfl rfl (pc' := 34) rfl ?_
      refine T_getR (t' := 1) (i' := 0) (k' := 0) zk_76_34 rfl rfl rfl vd_0 (pc' := 37) rfl ?_
      refine T_getR (t' := 2) (i' := 0) (k' := 0) zk_76_37 rfl rfl rfl (vd_1 (by omega)) (pc' := 40) rfl ?_
      refine T_getR (t' := 4) (i' := 0) (k' := 0) zk_76_40 rfl rfl rfl (vd_2 (by omega)) (pc' := 43) rfl ?_
      refine T_ld zk_76_43 rfl rfl rfl (pc' := 44) rfl ?_
      refine G_ialdX (w := 0) (ln := 25) zk_76_44 rfl rfl (vd_4 (by omega)) (by omega) (by omega) (by omega) (fun σ' h => h.2.1 _ (by omega) (by omega)) (pc' := 45) rfl ?_
      refine T_st (L' := [(0, av 0 0 0), (1, iv p0), (2, iv p1), (3, iv 0)]) zk_76_45 (nL := 4) rfl rfl rfl rfl rfl (pc' := 46) rfl ?_
      refine T_ld zk_76_46 rfl rfl rfl (pc' := 47) rfl ?_
      refine T_getR (t' := 1) (i' := 0) (k' := 0) zk_76_47 rfl rfl rfl vd_0 (pc' := 50) rfl ?_
      refine T_getR (t' := 2) (i' := 0) (k' := 0) zk_76_50 rfl rfl rfl (vd_1 (by omega)) (pc' := 53) rfl ?_
      refine T_getR (t' := 4) (i' := 0) (k' := 0) zk_76_53 rfl rfl rfl (vd_2 (by omega)) (pc' := 56) rfl ?_
      refine T_ld zk_76_56 rfl rfl rfl (pc' := 57) rfl ?_
      refine T_ld zk_76_57 rfl rfl rfl (pc' := 58) rfl ?_
      refine G_iast (J' := (fun σ' => IF (M1 4 4) σ σ' ∧ True)) (ln := 25) zk_76_58 rfl rfl (vd_4 (by omega)) (by omega) (by omega) (by omega) (fun σ' h => ⟨h.1.up ⟨by omega, trivial⟩ (by unfold M1; omega), trivial⟩) (pc' := 59) rfl ?_
      refine T_ld zk_76_59 rfl rfl rfl (pc' := 60) rfl ?_
      refine T_getR (t' := 1) (i' := 0) (k' := 0) zk_76_60 rfl rfl rfl vd_0 (pc' := 63) rfl ?_
      refine T_op (st' := [av 1 0 0, av 1 0 0]) zk_76_63 rfl rfl (pc' := 64) rfl ?_
      refine G_getf (lo := -2147483648) (hi := 2147483647) zk_76_64 rfl (vd_1 (by omega)) (fun σ' h => h.1.1) (fun _ h => h.1) (pc' := 67) rfl (fun y7 hy7 hy7' => ?_)
      refine T_ld zk_76_67 rfl rfl rfl (pc' := 68) rfl ?_
      refine T_ld zk_76_68 rfl rfl rfl (pc' := 69) rfl ?_
      refine T_op zk_76_69 rfl X_sub (pc' := 70) rfl ?_
      refine G_unk zk_76_70 rfl (pc' := 71) rfl (fun y8 hy8 hy8' => ?_)
      refine T_putf (J' := (fun σ' => IF (M1 4 4) σ σ' ∧ σ' 1 0 0 16 = y8 ∧ True)) zk_76_71 rfl rfl (vd_1 (by omega)) (fun σ' h => ⟨h.1.up (by simp only [rgP] <;> omega) (by unfold M1; omega), up_eq, trivial⟩) (pc' := 74) rfl ?_
      refine T_ld zk_76_74 rfl rfl rfl (pc' := 75) rfl ?_
      exact T_iret zk_76_75 rfl (fun σ' h => ⟨_, rfl, (by omega), h.1, trivial⟩)
    ·
      refine T_ld zk_76_26 rfl rfl rfl (pc' := 27) rfl ?_
      refine T_op zk_76_27 rfl (X_bi (v := -6) (by decide)) (pc' := 29) rfl ?_
      refine T_calli (K := fun y9 σ' => (y9 = (-6)) ∧ (fun σ' => IF (M1 4 4) σ σ' ∧ (∀ j, 0 ≤ j → j < 25 → σ' 4 0 0 j = 0) ∧ True) σ') (r := []) zk_76_29 rfl rfl rfl rfl rfl rfl (Or.inr ⟨_, _, _, _, rfl, vd_0, rfl⟩) (fun σ' h => (c_113 ((-6)) (by omega) σ' h.1.1 ).le (Nat.le_of_ble_eq_true rfl) (fun v σ2 ⟨y, h1, h2, h3, h4⟩ => ⟨y, h1, h2, h.1.tr h3 (fun t i k j h => by unfold MT at h; unfold M1; omega), fun j a b => (h3.2 _ _ _ _ (by unfold MT; omega)).trans (h.2.1 j a b), trivial⟩)) (pc' := 32) rfl (fun y9 => ?_)
      refine G_ex (fun hy9 => ?_)
      obtain rfl : y9 = (-6) := by omega
      exact T_iret zk_76_32 rfl (fun σ' h => ⟨_, rfl, (by omega), h.1, trivial⟩)
  ·
    refine T_ld zk_76_7 rfl rfl rfl (pc' := 8) rfl ?_
    refine T_op zk_76_8 rfl X_ic (pc' := 9) rfl ?_
    refine T_calli (K := fun y10 σ' => (y10 = (-1)) ∧ (fun σ' => IF (M1 4 4) σ σ' ∧ (∀ j, 0 ≤ j → j < 25 → σ' 4 0 0 j = 0) ∧ True) σ') (r := []) zk_76_9 rfl rfl rfl rfl rfl rfl (Or.inr ⟨_, _, _, _, rfl, vd_0, rfl⟩) (fun σ' h => (c_113 ((-1)) (by omega) σ' h.1.1 ).le (Nat.le_of_ble_eq_true rfl) (fun v σ2 ⟨y, h1, h2, h3, h4⟩ => ⟨y, h1, h2, h.1.tr h3 (fun t i k j h => by unfold MT at h; unfold M1; omega), fun j a b => (h3.2 _ _ _ _ (by unfold MT; omega)).trans (h.2.1 j a b), trivial⟩)) (pc' := 12) rfl (fun y10 => ?_)
    refine G_ex (fun hy10 => ?_)
    obtain rfl : y10 = (-1) := by omega
    exact T_iret zk_76_12 rfl (fun σ' h => ⟨_, rfl, (by omega), h.1, trivial⟩)
/-- W.close -/
theorem x_close {xs : Nat × (Nat → Int32)} (p0 : Int) (p1 : Int) (p2 : Int) (h0 : -2147483648 ≤ p0 ∧ p0 ≤ 2147483647) (h1 : -2147483648 ≤ p1 ∧ p1 ≤ 2147483647) (h2 : 0 ≤ p2 ∧ p2 ≤ 1) (σ : ZS) (hI : Inv σ) (hf : ∀ t i k j, t < 35 → σ t i k j = σ0 t i k j)  : CT xs 3 77 [av 0 0 0, iv p0, iv p1, iv p2] σ (fun v σ' => ∃ y, v = some (iv y) ∧ ((y = -1 ∧ (¬ (0 ≤ p0 ∧ p0 ≤ 24 ∧ 0 ≤ p1 ∧ p1 ≤ 24 ∧ (p1 = p0 + 5 ∨ p0 = p1 + 5 ∨ (p1 = p0 + 1 ∧ p0 % 5 < 4) ∨ (p0 = p1 + 1 ∧ p1 % 5 < 4))))) ∨ (y = p2 ∧ ¬ (¬ (0 ≤ p0 ∧ p0 ≤ 24 ∧ 0 ≤ p1 ∧ p1 ≤ 24 ∧ (p1 = p0 + 5 ∨ p0 = p1 + 5 ∨ (p1 = p0 + 1 ∧ p0 % 5 < 4) ∨ (p0 = p1 + 1 ∧ p1 % 5 < 4)))))) ∧ IF (MT 8 28 28 28) σ σ' ∧ (True)) := by
  refine G_ct (J := (fun σ' => IF (MT 8 28 28 28) σ σ' ∧ (∀ j, 0 ≤ j → j < 40 → σ' 8 0 0 j = 0) ∧ True)) (L := [(0, av 0 0 0), (1, iv p0), (2, iv p1), (3, iv p2)]) (nL := 5) rfl rfl rfl ⟨IF.rf hI, (fun j _ _ => hf _ _ _ _ (by decide)), trivial⟩ ?_
  refine T_ld zk_77_0 rfl rfl rfl (pc' := 1) rfl ?_
  refine T_ld zk_77_1 rfl rfl rfl (pc' := 2) rfl ?_
  refine T_calli (K := fun y1 σ' => ((y1 = -1 ∧ ¬ (0 ≤ p0 ∧ p0 ≤ 24 ∧ 0 ≤ p1 ∧ p1 ≤ 24 ∧ (p1 = p0 + 5 ∨ p0 = p1 + 5 ∨ (p1 = p0 + 1 ∧ p0 % 5 < 4) ∨ (p0 = p1 + 1 ∧ p1 % 5 < 4)))) ∨ (0 ≤ y1 ∧ y1 ≤ 39 ∧ (0 ≤ p0 ∧ p0 ≤ 24 ∧ 0 ≤ p1 ∧ p1 ≤ 24 ∧ (p1 = p0 + 5 ∨ p0 = p1 + 5 ∨ (p1 = p0 + 1 ∧ p0 % 5 < 4) ∨ (p0 = p1 + 1 ∧ p1 % 5 < 4))))) ∧ (fun σ' => IF (MT 8 28 28 28) σ σ' ∧ (∀ j, 0 ≤ j → j < 40 → σ' 8 0 0 j = 0) ∧ True) σ') (r := []) zk_77_2 rfl rfl rfl rfl rfl rfl (Or.inl (Or.inl rfl)) (fun σ' h => (c_30 p0 p1 (by omega) (by omega) σ' h.1.1 ).le (Nat.le_of_ble_eq_true rfl) (fun v σ2 ⟨y, h1, h2, h3, h4⟩ => ⟨y, h1, h2, h.1.tr h3 MN_sub, fun j a b => (h3.2 _ _ _ _ (fun q => q)).trans (h.2.1 j a b), trivial⟩)) (pc' := 5) rfl (fun y1 => ?_)
  refine G_ex (fun hy1 => ?_)
  refine T_st (L' := [(0, av 0 0 0), (1, iv p0), (2, iv p1), (3, iv p2), (4, iv y1)]) zk_77_5 (nL := 5) rfl rfl rfl rfl rfl (pc' := 7) rfl ?_
  refine T_ld zk_77_7 rfl rfl rfl (pc' := 9) rfl ?_
  refine T_op zk_77_9 rfl X_ic (pc' := 10) rfl ?_
  refine T_icmp_ne zk_77_10 (by omega) (by omega) (pc' := 13) rfl (fun h2 => ?_) (fun h3 => ?_)
  ·
    refine T_ld zk_77_19 rfl rfl rfl (pc' := 20) rfl ?_
    refine T_getR (t' := 1) (i' := 0) (k' := 0) zk_77_20 rfl rfl rfl vd_0 (pc' := 23) rfl ?_
    refine T_getR (t' := 2) (i' := 0) (k' := 0) zk_77_23 rfl rfl rfl (vd_1 (by omega)) (pc' := 26) rfl ?_
    refine T_getR (t' := 8) (i' := 0) (k' := 0) zk_77_26 rfl rfl rfl (vd_2 (by omega)) (pc' := 29) rfl ?_
    refine T_ld zk_77_29 rfl rfl rfl (pc' := 31) rfl ?_
    refine T_ld zk_77_31 rfl rfl rfl (pc' := 32) rfl ?_
    refine T_calli (K := fun y4 σ' => (y4 = p2) ∧ (fun σ' => IF (MT 8 28 28 28) σ σ' ∧ True) σ') (r := []) zk_77_32 rfl rfl rfl rfl rfl rfl (Or.inl (Or.inl rfl)) (fun σ' h => (c_121_8 y1 p2 (by omega) (by omega) σ' h.1.1 (fun j a b => h.2.1 j (by omega) (by omega))).le (Nat.le_of_ble_eq_true rfl) (fun v σ2 ⟨y, h1, h2, h3, h4⟩ => ⟨y, h1, h2, h.1.tr h3 (fun t i k j h => by unfold MT at h; unfold MT; omega), trivial⟩)) (pc' := 35) rfl (fun y4 => ?_)
    refine G_ex (fun hy4 => ?_)
    exact T_iret zk_77_35 rfl (fun σ' h => ⟨_, rfl, (by omega), h.1, trivial⟩)
  ·
    refine T_ld zk_77_13 rfl rfl rfl (pc' := 14) rfl ?_
    refine T_op zk_77_14 rfl X_ic (pc' := 15) rfl ?_
    refine T_calli (K := fun y5 σ' => (y5 = (-1)) ∧ (fun σ' => IF (MT 8 28 28 28) σ σ' ∧ (∀ j, 0 ≤ j → j < 40 → σ' 8 0 0 j = 0) ∧ True) σ') (r := []) zk_77_15 rfl rfl rfl rfl rfl rfl (Or.inr ⟨_, _, _, _, rfl, vd_0, rfl⟩) (fun σ' h => (c_113 ((-1)) (by omega) σ' h.1.1 ).le (Nat.le_of_ble_eq_true rfl) (fun v σ2 ⟨y, h1, h2, h3, h4⟩ => ⟨y, h1, h2, h.1.tr h3 (fun t i k j h => by unfold MT at h; unfold MT; omega), fun j a b => (h3.2 _ _ _ _ (by unfold MT; omega)).trans (h.2.1 j a b), trivial⟩)) (pc' := 18) rfl (fun y5 => ?_)
    refine G_ex (fun hy5 => ?_)
    obtain rfl : y5 = (-1) := by omega
    exact T_iret zk_77_18 rfl (fun σ' h => ⟨_, rfl, (by omega), h.1, trivial⟩)
/-- W.narrow -/
theorem x_narrow {xs : Nat × (Nat → Int32)} (p0 : Int) (p1 : Int) (p2 : Int) (h0 : -2147483648 ≤ p0 ∧ p0 ≤ 2147483647) (h1 : -2147483648 ≤ p1 ∧ p1 ≤ 2147483647) (h2 : 0 ≤ p2 ∧ p2 ≤ 1) (σ : ZS) (hI : Inv σ) (hf : ∀ t i k j, t < 35 → σ t i k j = σ0 t i k j)  : CT xs 3 78 [av 0 0 0, iv p0, iv p1, iv p2] σ (fun v σ' => ∃ y, v = some (iv y) ∧ ((y = -1 ∧ (¬ (0 ≤ p0 ∧ p0 ≤ 24 ∧ 0 ≤ p1 ∧ p1 ≤ 24 ∧ (p1 = p0 + 5 ∨ p0 = p1 + 5 ∨ (p1 = p0 + 1 ∧ p0 % 5 < 4) ∨ (p0 = p1 + 1 ∧ p1 % 5 < 4))))) ∨ (y = p2 ∧ ¬ (¬ (0 ≤ p0 ∧ p0 ≤ 24 ∧ 0 ≤ p1 ∧ p1 ≤ 24 ∧ (p1 = p0 + 5 ∨ p0 = p1 + 5 ∨ (p1 = p0 + 1 ∧ p0 % 5 < 4) ∨ (p0 = p1 + 1 ∧ p1 % 5 < 4)))))) ∧ IF (MT 9 28 28 28) σ σ' ∧ (True)) := by
  refine G_ct (J := (fun σ' => IF (MT 9 28 28 28) σ σ' ∧ (∀ j, 0 ≤ j → j < 40 → σ' 9 0 0 j = 0) ∧ True)) (L := [(0, av 0 0 0), (1, iv p0), (2, iv p1), (3, iv p2)]) (nL := 5) rfl rfl rfl ⟨IF.rf hI, (fun j _ _ => hf _ _ _ _ (by decide)), trivial⟩ ?_
  refine T_ld zk_78_0 rfl rfl rfl (pc' := 1) rfl ?_
  refine T_ld zk_78_1 rfl rfl rfl (pc' := 2) rfl ?_
  refine T_calli (K := fun y1 σ' => ((y1 = -1 ∧ ¬ (0 ≤ p0 ∧ p0 ≤ 24 ∧ 0 ≤ p1 ∧ p1 ≤ 24 ∧ (p1 = p0 + 5 ∨ p0 = p1 + 5 ∨ (p1 = p0 + 1 ∧ p0 % 5 < 4) ∨ (p0 = p1 + 1 ∧ p1 % 5 < 4)))) ∨ (0 ≤ y1 ∧ y1 ≤ 39 ∧ (0 ≤ p0 ∧ p0 ≤ 24 ∧ 0 ≤ p1 ∧ p1 ≤ 24 ∧ (p1 = p0 + 5 ∨ p0 = p1 + 5 ∨ (p1 = p0 + 1 ∧ p0 % 5 < 4) ∨ (p0 = p1 + 1 ∧ p1 % 5 < 4))))) ∧ (fun σ' => IF (MT 9 28 28 28) σ σ' ∧ (∀ j, 0 ≤ j → j < 40 → σ' 9 0 0 j = 0) ∧ True) σ') (r := []) zk_78_2 rfl rfl rfl rfl rfl rfl (Or.inl (Or.inl rfl)) (fun σ' h => (c_30 p0 p1 (by omega) (by omega) σ' h.1.1 ).le (Nat.le_of_ble_eq_true rfl) (fun v σ2 ⟨y, h1, h2, h3, h4⟩ => ⟨y, h1, h2, h.1.tr h3 MN_sub, fun j a b => (h3.2 _ _ _ _ (fun q => q)).trans (h.2.1 j a b), trivial⟩)) (pc' := 5) rfl (fun y1 => ?_)
  refine G_ex (fun hy1 => ?_)
  refine T_st (L' := [(0, av 0 0 0), (1, iv p0), (2, iv p1), (3, iv p2), (4, iv y1)]) zk_78_5 (nL := 5) rfl rfl rfl rfl rfl (pc' := 7) rfl ?_
  refine T_ld zk_78_7 rfl rfl rfl (pc' := 9) rfl ?_
  refine T_op zk_78_9 rfl X_ic (pc' := 10) rfl ?_
  refine T_icmp_ne zk_78_10 (by omega) (by omega) (pc' := 13) rfl (fun h2 => ?_) (fun h3 => ?_)
  ·
    refine T_ld zk_78_19 rfl rfl rfl (pc' := 20) rfl ?_
    refine T_getR (t' := 1) (i' := 0) (k' := 0) zk_78_20 rfl rfl rfl vd_0 (pc' := 23) rfl ?_
    refine T_getR (t' := 2) (i' := 0) (k' := 0) zk_78_23 rfl rfl rfl (vd_1 (by omega)) (pc' := 26) rfl ?_
    refine T_getR (t' := 9) (i' := 0) (k' := 0) zk_78_26 rfl rfl rfl (vd_2 (by omega)) (pc' := 29) rfl ?_
    refine T_ld zk_78_29 rfl rfl rfl (pc' := 31) rfl ?_
    refine T_ld zk_78_31 rfl rfl rfl (pc' := 32) rfl ?_
    refine T_calli (K := fun y4 σ' => (y4 = p2) ∧ (fun σ' => IF (MT 9 28 28 28) σ σ' ∧ True) σ') (r := []) zk_78_32 rfl rfl rfl rfl rfl rfl (Or.inl (Or.inl rfl)) (fun σ' h => (c_121_9 y1 p2 (by omega) (by omega) σ' h.1.1 (fun j a b => h.2.1 j (by omega) (by omega))).le (Nat.le_of_ble_eq_true rfl) (fun v σ2 ⟨y, h1, h2, h3, h4⟩ => ⟨y, h1, h2, h.1.tr h3 (fun t i k j h => by unfold MT at h; unfold MT; omega), trivial⟩)) (pc' := 35) rfl (fun y4 => ?_)
    refine G_ex (fun hy4 => ?_)
    exact T_iret zk_78_35 rfl (fun σ' h => ⟨_, rfl, (by omega), h.1, trivial⟩)
  ·
    refine T_ld zk_78_13 rfl rfl rfl (pc' := 14) rfl ?_
    refine T_op zk_78_14 rfl X_ic (pc' := 15) rfl ?_
    refine T_calli (K := fun y5 σ' => (y5 = (-1)) ∧ (fun σ' => IF (MT 9 28 28 28) σ σ' ∧ (∀ j, 0 ≤ j → j < 40 → σ' 9 0 0 j = 0) ∧ True) σ') (r := []) zk_78_15 rfl rfl rfl rfl rfl rfl (Or.inr ⟨_, _, _, _, rfl, vd_0, rfl⟩) (fun σ' h => (c_113 ((-1)) (by omega) σ' h.1.1 ).le (Nat.le_of_ble_eq_true rfl) (fun v σ2 ⟨y, h1, h2, h3, h4⟩ => ⟨y, h1, h2, h.1.tr h3 (fun t i k j h => by unfold MT at h; unfold MT; omega), fun j a b => (h3.2 _ _ _ _ (by unfold MT; omega)).trans (h.2.1 j a b), trivial⟩)) (pc' := 18) rfl (fun y5 => ?_)
    refine G_ex (fun hy5 => ?_)
    obtain rfl : y5 = (-1) := by omega
    exact T_iret zk_78_18 rfl (fun σ' h => ⟨_, rfl, (by omega), h.1, trivial⟩)
/-- W.bridge -/
theorem x_bridge {xs : Nat × (Nat → Int32)} (p0 : Int) (p1 : Int) (p2 : Int) (h0 : -2147483648 ≤ p0 ∧ p0 ≤ 2147483647) (h1 : -2147483648 ≤ p1 ∧ p1 ≤ 2147483647) (h2 : -2147483648 ≤ p2 ∧ p2 ≤ 2147483647) (σ : ZS) (hI : Inv σ) (hf : ∀ t i k j, t < 35 → σ t i k j = σ0 t i k j)  : CT xs 3 79 [av 0 0 0, iv p0, iv p1, iv p2] σ (fun v σ' => ∃ y, v = some (iv y) ∧ ((y = -1 ∧ (¬ (0 ≤ p0 ∧ p0 ≤ 24 ∧ 0 ≤ p1 ∧ p1 ≤ 24 ∧ (p1 = p0 + 5 ∨ p0 = p1 + 5 ∨ (p1 = p0 + 1 ∧ p0 % 5 < 4) ∨ (p0 = p1 + 1 ∧ p1 % 5 < 4))))) ∨ (y = -6 ∧ ¬ (¬ (0 ≤ p0 ∧ p0 ≤ 24 ∧ 0 ≤ p1 ∧ p1 ≤ 24 ∧ (p1 = p0 + 5 ∨ p0 = p1 + 5 ∨ (p1 = p0 + 1 ∧ p0 % 5 < 4) ∨ (p0 = p1 + 1 ∧ p1 % 5 < 4)))) ∧ (¬ (-1 ≤ p2 ∧ p2 ≤ 99))) ∨ (y = -1 ∧ ¬ (¬ (0 ≤ p0 ∧ p0 ≤ 24 ∧ 0 ≤ p1 ∧ p1 ≤ 24 ∧ (p1 = p0 + 5 ∨ p0 = p1 + 5 ∨ (p1 = p0 + 1 ∧ p0 % 5 < 4) ∨ (p0 = p1 + 1 ∧ p1 % 5 < 4)))) ∧ ¬ (¬ (-1 ≤ p2 ∧ p2 ≤ 99)))) ∧ IF (MT 7 28 28 28) σ σ' ∧ (True)) := by
  refine G_ct (J := (fun σ' => IF (MT 7 28 28 28) σ σ' ∧ (∀ j, 0 ≤ j → j < 40 → σ' 7 0 0 j = (-1)) ∧ True)) (L := [(0, av 0 0 0), (1, iv p0), (2, iv p1), (3, iv p2)]) (nL := 6) rfl rfl rfl ⟨IF.rf hI, (fun j _ _ => hf _ _ _ _ (by decide)), trivial⟩ ?_
  refine T_ld zk_79_0 rfl rfl rfl (pc' := 1) rfl ?_
  refine T_ld zk_79_1 rfl rfl rfl (pc' := 2) rfl ?_
  refine T_calli (K := fun y1 σ' => ((y1 = -1 ∧ ¬ (0 ≤ p0 ∧ p0 ≤ 24 ∧ 0 ≤ p1 ∧ p1 ≤ 24 ∧ (p1 = p0 + 5 ∨ p0 = p1 + 5 ∨ (p1 = p0 + 1 ∧ p0 % 5 < 4) ∨ (p0 = p1 + 1 ∧ p1 % 5 < 4)))) ∨ (0 ≤ y1 ∧ y1 ≤ 39 ∧ (0 ≤ p0 ∧ p0 ≤ 24 ∧ 0 ≤ p1 ∧ p1 ≤ 24 ∧ (p1 = p0 + 5 ∨ p0 = p1 + 5 ∨ (p1 = p0 + 1 ∧ p0 % 5 < 4) ∨ (p0 = p1 + 1 ∧ p1 % 5 < 4))))) ∧ (fun σ' => IF (MT 7 28 28 28) σ σ' ∧ (∀ j, 0 ≤ j → j < 40 → σ' 7 0 0 j = (-1)) ∧ True) σ') (r := []) zk_79_2 rfl rfl rfl rfl rfl rfl (Or.inl (Or.inl rfl)) (fun σ' h => (c_30 p0 p1 (by omega) (by omega) σ' h.1.1 ).le (Nat.le_of_ble_eq_true rfl) (fun v σ2 ⟨y, h1, h2, h3, h4⟩ => ⟨y, h1, h2, h.1.tr h3 MN_sub, fun j a b => (h3.2 _ _ _ _ (fun q => q)).trans (h.2.1 j a b), trivial⟩)) (pc' := 5) rfl (fun y1 => ?_)
  refine G_ex (fun hy1 => ?_)
  refine T_st (L' := [(0, av 0 0 0), (1, iv p0), (2, iv p1), (3, iv p2), (4, iv y1)]) zk_79_5 (nL := 6) rfl rfl rfl rfl rfl (pc' := 7) rfl ?_
  refine T_ld zk_79_7 rfl rfl rfl (pc' := 9) rfl ?_
  refine T_op zk_79_9 rfl X_ic (pc' := 10) rfl ?_
  refine T_icmp_ne zk_79_10 (by omega) (by omega) (pc' := 13) rfl (fun h2 => ?_) (fun h3 => ?_)
  ·
    refine T_ld zk_79_19 rfl rfl rfl (pc' := 20) rfl ?_
    refine T_op zk_79_20 rfl X_ic (pc' := 21) rfl ?_
    refine T_op zk_79_21 rfl (X_bi (v := 99) (by decide)) (pc' := 23) rfl ?_
    refine T_calli (K := fun y4 σ' => ((y4 = 0 ∧ (p2 < (-1) ∨ 99 < p2)) ∨ (y4 = 1 ∧ (-1) ≤ p2 ∧ p2 ≤ 99)) ∧ (fun σ' => IF (MT 7 28 28 28) σ σ' ∧ (∀ j, 0 ≤ j → j < 40 → σ' 7 0 0 j = (-1)) ∧ True) σ') (r := []) zk_79_23 rfl rfl rfl rfl rfl rfl (Or.inl (Or.inl rfl)) (fun σ' h => (c_114 p2 ((-1)) 99 (by omega) (by omega) (by omega) σ' h.1.1 ).le (Nat.le_of_ble_eq_true rfl) (fun v σ2 ⟨y, h1, h2, h3, h4⟩ => ⟨y, h1, h2, h.1.tr h3 MN_sub, fun j a b => (h3.2 _ _ _ _ (fun q => q)).trans (h.2.1 j a b), trivial⟩)) (pc' := 26) rfl (fun y4 => ?_)
    refine G_ex (fun hy4 => ?_)
    refine T_if_ne zk_79_26 (by omega) (pc' := 29) rfl (fun h5 => ?_) (fun h6 => ?_)
    ·
      refine T_ld zk_79_36 rfl rfl rfl (pc' := 37) rfl ?_
      refine T_getR (t' := 1) (i' := 0) (k' := 0) zk_79_37 rfl rfl rfl vd_0 (pc' := 40) rfl ?_
      refine T_getR (t' := 2) (i' := 0) (k' := 0) zk_79_40 rfl rfl rfl (vd_1 (by omega)) (pc' := 43) rfl ?_
      refine T_getR (t' := 7) (i' := 0) (k' := 0) zk_79_43 rfl rfl rfl (vd_2 (by omega)) (pc' := 46) rfl ?_
      refine T_ld zk_79_46 rfl rfl rfl (pc' := 48) rfl ?_
      refine G_ialdX (w := (-1)) (ln := 40) zk_79_48 rfl rfl (vd_7 (by omega)) (by omega) (by omega) (by omega) (fun σ' h => h.2.1 _ (by omega) (by omega)) (pc' := 49) rfl ?_
      refine T_st (L' := [(0, av 0 0 0), (1, iv p0), (2, iv p1), (3, iv p2), (4, iv y1), (5, iv (-1))]) zk_79_49 (nL := 6) rfl rfl rfl rfl rfl (pc' := 51) rfl ?_
      refine T_ld zk_79_51 rfl rfl rfl (pc' := 52) rfl ?_
      refine T_getR (t' := 1) (i' := 0) (k' := 0) zk_79_52 rfl rfl rfl vd_0 (pc' := 55) rfl ?_
      refine T_getR (t' := 2) (i' := 0) (k' := 0) zk_79_55 rfl rfl rfl (vd_1 (by omega)) (pc' := 58) rfl ?_
      refine T_getR (t' := 7) (i' := 0) (k' := 0) zk_79_58 rfl rfl rfl (vd_2 (by omega)) (pc' := 61) rfl ?_
      refine T_ld zk_79_61 rfl rfl rfl (pc' := 63) rfl ?_
      refine T_ld zk_79_63 rfl rfl rfl (pc' := 64) rfl ?_
      refine G_iast (J' := (fun σ' => IF (MT 7 28 28 28) σ σ' ∧ True)) (ln := 40) zk_79_64 rfl rfl (vd_7 (by omega)) (by omega) (by omega) (by omega) (fun σ' h => ⟨h.1.up ⟨by omega, trivial⟩ (by unfold MT; omega), trivial⟩) (pc' := 65) rfl ?_
      refine T_ld zk_79_65 rfl rfl rfl (pc' := 67) rfl ?_
      exact T_iret zk_79_67 rfl (fun σ' h => ⟨_, rfl, (by omega), h.1, trivial⟩)
    ·
      refine T_ld zk_79_29 rfl rfl rfl (pc' := 30) rfl ?_
      refine T_op zk_79_30 rfl (X_bi (v := -6) (by decide)) (pc' := 32) rfl ?_
      refine T_calli (K := fun y7 σ' => (y7 = (-6)) ∧ (fun σ' => IF (MT 7 28 28 28) σ σ' ∧ (∀ j, 0 ≤ j → j < 40 → σ' 7 0 0 j = (-1)) ∧ True) σ') (r := []) zk_79_32 rfl rfl rfl rfl rfl rfl (Or.inr ⟨_, _, _, _, rfl, vd_0, rfl⟩) (fun σ' h => (c_113 ((-6)) (by omega) σ' h.1.1 ).le (Nat.le_of_ble_eq_true rfl) (fun v σ2 ⟨y, h1, h2, h3, h4⟩ => ⟨y, h1, h2, h.1.tr h3 (fun t i k j h => by unfold MT at h; unfold MT; omega), fun j a b => (h3.2 _ _ _ _ (by unfold MT; omega)).trans (h.2.1 j a b), trivial⟩)) (pc' := 35) rfl (fun y7 => ?_)
      refine G_ex (fun hy7 => ?_)
      obtain rfl : y7 = (-6) := by omega
      exact T_iret zk_79_35 rfl (fun σ' h => ⟨_, rfl, (by omega), h.1, trivial⟩)
  ·
    refine T_ld zk_79_13 rfl rfl rfl (pc' := 14) rfl ?_
    refine T_op zk_79_14 rfl X_ic (pc' := 15) rfl ?_
    refine T_calli (K := fun y8 σ' => (y8 = (-1)) ∧ (fun σ' => IF (MT 7 28 28 28) σ σ' ∧ (∀ j, 0 ≤ j → j < 40 → σ' 7 0 0 j = (-1)) ∧ True) σ') (r := []) zk_79_15 rfl rfl rfl rfl rfl rfl (Or.inr ⟨_, _, _, _, rfl, vd_0, rfl⟩) (fun σ' h => (c_113 ((-1)) (by omega) σ' h.1.1 ).le (Nat.le_of_ble_eq_true rfl) (fun v σ2 ⟨y, h1, h2, h3, h4⟩ => ⟨y, h1, h2, h.1.tr h3 (fun t i k j h => by unfold MT at h; unfold MT; omega), fun j a b => (h3.2 _ _ _ _ (by unfold MT; omega)).trans (h.2.1 j a b), trivial⟩)) (pc' := 18) rfl (fun y8 => ?_)
    refine G_ex (fun hy8 => ?_)
    obtain rfl : y8 = (-1) := by omega
    exact T_iret zk_79_18 rfl (fun σ' h => ⟨_, rfl, (by omega), h.1, trivial⟩)
/-- W.dredge -/
theorem x_dredge {xs : Nat × (Nat → Int32)} (p0 : Int) (p1 : Int) (h0 : -2147483648 ≤ p0 ∧ p0 ≤ 2147483647) (h1 : -2147483648 ≤ p1 ∧ p1 ≤ 2147483647) (σ : ZS) (hI : Inv σ) (hf : ∀ t i k j, t < 35 → σ t i k j = σ0 t i k j)  : CT xs 3 80 [av 0 0 0, iv p0, iv p1] σ (fun v σ' => ∃ y, v = some (iv y) ∧ ((y = -1 ∧ (¬ (0 ≤ p0 ∧ p0 ≤ 24))) ∨ (y = -6 ∧ ¬ (¬ (0 ≤ p0 ∧ p0 ≤ 24)) ∧ (¬ (1 ≤ p1 ∧ p1 ≤ 20))) ∨ (y = 20 + p1 ∧ ¬ (¬ (0 ≤ p0 ∧ p0 ≤ 24)) ∧ ¬ (¬ (1 ≤ p1 ∧ p1 ≤ 20)))) ∧ IF (MT 3 28 28 28) σ σ' ∧ (True)) := by
  refine G_ct (J := (fun σ' => IF (MT 3 28 28 28) σ σ' ∧ (∀ j, 0 ≤ j → j < 25 → σ' 3 0 0 j = 20) ∧ True)) (L := [(0, av 0 0 0), (1, iv p0), (2, iv p1)]) (nL := 3) rfl rfl rfl ⟨IF.rf hI, (fun j _ _ => hf _ _ _ _ (by decide)), trivial⟩ ?_
  refine T_ld zk_80_0 rfl rfl rfl (pc' := 1) rfl ?_
  refine T_calli (K := fun y1 σ' => ((y1 = 0 ∧ (p0 < 0 ∨ 24 < p0)) ∨ (y1 = 1 ∧ 0 ≤ p0 ∧ p0 ≤ 24)) ∧ (fun σ' => IF (MT 3 28 28 28) σ σ' ∧ (∀ j, 0 ≤ j → j < 25 → σ' 3 0 0 j = 20) ∧ True) σ') (r := []) zk_80_1 rfl rfl rfl rfl rfl rfl (Or.inl (Or.inl rfl)) (fun σ' h => (c_115 p0 (by omega) σ' h.1.1 ).le (Nat.le_of_ble_eq_true rfl) (fun v σ2 ⟨y, h1, h2, h3, h4⟩ => ⟨y, h1, h2, h.1.tr h3 MN_sub, fun j a b => (h3.2 _ _ _ _ (fun q => q)).trans (h.2.1 j a b), trivial⟩)) (pc' := 4) rfl (fun y1 => ?_)
  refine G_ex (fun hy1 => ?_)
  refine T_if_ne zk_80_4 (by omega) (pc' := 7) rfl (fun h2 => ?_) (fun h3 => ?_)
  ·
    refine T_ld zk_80_13 rfl rfl rfl (pc' := 14) rfl ?_
    refine T_op zk_80_14 rfl X_ic (pc' := 15) rfl ?_
    refine T_op zk_80_15 rfl (X_bi (v := 20) (by decide)) (pc' := 17) rfl ?_
    refine T_calli (K := fun y4 σ' => ((y4 = 0 ∧ (p1 < 1 ∨ 20 < p1)) ∨ (y4 = 1 ∧ 1 ≤ p1 ∧ p1 ≤ 20)) ∧ (fun σ' => IF (MT 3 28 28 28) σ σ' ∧ (∀ j, 0 ≤ j → j < 25 → σ' 3 0 0 j = 20) ∧ True) σ') (r := []) zk_80_17 rfl rfl rfl rfl rfl rfl (Or.inl (Or.inl rfl)) (fun σ' h => (c_114 p1 1 20 (by omega) (by omega) (by omega) σ' h.1.1 ).le (Nat.le_of_ble_eq_true rfl) (fun v σ2 ⟨y, h1, h2, h3, h4⟩ => ⟨y, h1, h2, h.1.tr h3 MN_sub, fun j a b => (h3.2 _ _ _ _ (fun q => q)).trans (h.2.1 j a b), trivial⟩)) (pc' := 20) rfl (fun y4 => ?_)
    refine G_ex (fun hy4 => ?_)
    refine T_if_ne zk_80_20 (by omega) (pc' := 23) rfl (fun h5 => ?_) (fun h6 => ?_)
    ·
      refine T_ld zk_80_30 rfl rfl rfl (pc' := 31) rfl ?_
      refine T_getR (t' := 1) (i' := 0) (k' := 0) zk_80_31 rfl rfl rfl vd_0 (pc' := 34) rfl ?_
      refine T_getR (t' := 2) (i' := 0) (k' := 0) zk_80_34 rfl rfl rfl (vd_1 (by omega)) (pc' := 37) rfl ?_
      refine T_getR (t' := 3) (i' := 0) (k' := 0) zk_80_37 rfl rfl rfl (vd_2 (by omega)) (pc' := 40) rfl ?_
      refine T_ld zk_80_40 rfl rfl rfl (pc' := 41) rfl ?_
      refine T_op zk_80_41 rfl (X_bi (v := 60) (by decide)) (pc' := 43) rfl ?_
      refine T_ld zk_80_43 rfl rfl rfl (pc' := 44) rfl ?_
      refine T_getR (t' := 1) (i' := 0) (k' := 0) zk_80_44 rfl rfl rfl vd_0 (pc' := 47) rfl ?_
      refine T_getR (t' := 2) (i' := 0) (k' := 0) zk_80_47 rfl rfl rfl (vd_1 (by omega)) (pc' := 50) rfl ?_
      refine T_getR (t' := 3) (i' := 0) (k' := 0) zk_80_50 rfl rfl rfl (vd_2 (by omega)) (pc' := 53) rfl ?_
      refine T_ld zk_80_53 rfl rfl rfl (pc' := 54) rfl ?_
      refine G_ialdX (w := 20) (ln := 25) zk_80_54 rfl rfl (vd_3 (by omega)) (by omega) (by omega) (by omega) (fun σ' h => h.2.1 _ (by omega) (by omega)) (pc' := 55) rfl ?_
      refine T_ld zk_80_55 rfl rfl rfl (pc' := 56) rfl ?_
      refine T_op zk_80_56 rfl X_add (pc' := 57) rfl ?_
      refine T_min zk_80_57 rfl (by omega) (by omega) rfl (pc' := 60) rfl (fun y7 hy7 hy7' ey7 => ?_)
      refine G_iast (J' := (fun σ' => IF (MT 3 28 28 28) σ σ' ∧ σ' 3 0 0 (Int.toNat p0) = y7 ∧ True)) (ln := 25) zk_80_60 rfl rfl (vd_3 (by omega)) (by omega) (by omega) (by omega) (fun σ' h => ⟨h.1.up ⟨by omega, trivial⟩ (by unfold MT; omega), up_eq, trivial⟩) (pc' := 61) rfl ?_
      refine T_ld zk_80_61 rfl rfl rfl (pc' := 62) rfl ?_
      refine T_getR (t' := 1) (i' := 0) (k' := 0) zk_80_62 rfl rfl rfl vd_0 (pc' := 65) rfl ?_
      refine T_getR (t' := 2) (i' := 0) (k' := 0) zk_80_65 rfl rfl rfl (vd_1 (by omega)) (pc' := 68) rfl ?_
      refine T_getR (t' := 3) (i' := 0) (k' := 0) zk_80_68 rfl rfl rfl (vd_2 (by omega)) (pc' := 71) rfl ?_
      refine T_ld zk_80_71 rfl rfl rfl (pc' := 72) rfl ?_
      refine G_ialdX (w := y7) (ln := 25) zk_80_72 rfl rfl (vd_3 (by omega)) (by omega) (by omega) (by omega) (fun σ' h => h.2.1) (pc' := 73) rfl ?_
      exact T_iret zk_80_73 rfl (fun σ' h => ⟨_, rfl, (by omega), h.1, trivial⟩)
    ·
      refine T_ld zk_80_23 rfl rfl rfl (pc' := 24) rfl ?_
      refine T_op zk_80_24 rfl (X_bi (v := -6) (by decide)) (pc' := 26) rfl ?_
      refine T_calli (K := fun y8 σ' => (y8 = (-6)) ∧ (fun σ' => IF (MT 3 28 28 28) σ σ' ∧ (∀ j, 0 ≤ j → j < 25 → σ' 3 0 0 j = 20) ∧ True) σ') (r := []) zk_80_26 rfl rfl rfl rfl rfl rfl (Or.inr ⟨_, _, _, _, rfl, vd_0, rfl⟩) (fun σ' h => (c_113 ((-6)) (by omega) σ' h.1.1 ).le (Nat.le_of_ble_eq_true rfl) (fun v σ2 ⟨y, h1, h2, h3, h4⟩ => ⟨y, h1, h2, h.1.tr h3 (fun t i k j h => by unfold MT at h; unfold MT; omega), fun j a b => (h3.2 _ _ _ _ (by unfold MT; omega)).trans (h.2.1 j a b), trivial⟩)) (pc' := 29) rfl (fun y8 => ?_)
      refine G_ex (fun hy8 => ?_)
      obtain rfl : y8 = (-6) := by omega
      exact T_iret zk_80_29 rfl (fun σ' h => ⟨_, rfl, (by omega), h.1, trivial⟩)
  ·
    refine T_ld zk_80_7 rfl rfl rfl (pc' := 8) rfl ?_
    refine T_op zk_80_8 rfl X_ic (pc' := 9) rfl ?_
    refine T_calli (K := fun y9 σ' => (y9 = (-1)) ∧ (fun σ' => IF (MT 3 28 28 28) σ σ' ∧ (∀ j, 0 ≤ j → j < 25 → σ' 3 0 0 j = 20) ∧ True) σ') (r := []) zk_80_9 rfl rfl rfl rfl rfl rfl (Or.inr ⟨_, _, _, _, rfl, vd_0, rfl⟩) (fun σ' h => (c_113 ((-1)) (by omega) σ' h.1.1 ).le (Nat.le_of_ble_eq_true rfl) (fun v σ2 ⟨y, h1, h2, h3, h4⟩ => ⟨y, h1, h2, h.1.tr h3 (fun t i k j h => by unfold MT at h; unfold MT; omega), fun j a b => (h3.2 _ _ _ _ (by unfold MT; omega)).trans (h.2.1 j a b), trivial⟩)) (pc' := 12) rfl (fun y9 => ?_)
    refine G_ex (fun hy9 => ?_)
    obtain rfl : y9 = (-1) := by omega
    exact T_iret zk_80_12 rfl (fun σ' h => ⟨_, rfl, (by omega), h.1, trivial⟩)
/-- W.mouth -/
theorem x_mouth {xs : Nat × (Nat → Int32)} (p0 : Int) (h0 : -2147483648 ≤ p0 ∧ p0 ≤ 2147483647) (σ : ZS) (hI : Inv σ) (hf : ∀ t i k j, t < 35 → σ t i k j = σ0 t i k j)  : CT xs 3 81 [av 0 0 0, iv p0] σ (fun v σ' => ∃ y, v = some (iv y) ∧ ((y = -1 ∧ (¬ (0 ≤ p0 ∧ p0 ≤ 24))) ∨ (y = 0 ∧ ¬ (¬ (0 ≤ p0 ∧ p0 ≤ 24)))) ∧ IF MM σ σ' ∧ (True)) := by
  refine G_ct (J := (fun σ' => IF MM σ σ' ∧ σ' 11 0 0 0 = 0 ∧ True)) (L := [(0, av 0 0 0), (1, iv p0)]) (nL := 2) rfl rfl rfl ⟨IF.rf hI, hf _ _ _ _ (by decide), trivial⟩ ?_
  refine T_ld zk_81_0 rfl rfl rfl (pc' := 1) rfl ?_
  refine T_calli (K := fun y1 σ' => ((y1 = 0 ∧ (p0 < 0 ∨ 24 < p0)) ∨ (y1 = 1 ∧ 0 ≤ p0 ∧ p0 ≤ 24)) ∧ (fun σ' => IF MM σ σ' ∧ σ' 11 0 0 0 = 0 ∧ True) σ') (r := []) zk_81_1 rfl rfl rfl rfl rfl rfl (Or.inl (Or.inl rfl)) (fun σ' h => (c_115 p0 (by omega) σ' h.1.1 ).le (Nat.le_of_ble_eq_true rfl) (fun v σ2 ⟨y, h1, h2, h3, h4⟩ => ⟨y, h1, h2, h.1.tr h3 MN_sub, (h3.2 _ _ _ _ (fun q => q)).trans (h.2.1), trivial⟩)) (pc' := 4) rfl (fun y1 => ?_)
  refine G_ex (fun hy1 => ?_)
  refine T_if_ne zk_81_4 (by omega) (pc' := 7) rfl (fun h2 => ?_) (fun h3 => ?_)
  ·
    refine T_ld zk_81_13 rfl rfl rfl (pc' := 14) rfl ?_
    refine T_getR (t' := 1) (i' := 0) (k' := 0) zk_81_14 rfl rfl rfl vd_0 (pc' := 17) rfl ?_
    refine T_getR (t' := 11) (i' := 0) (k' := 0) zk_81_17 rfl rfl rfl (vd_1 (by omega)) (pc' := 20) rfl ?_
    refine T_ld zk_81_20 rfl rfl rfl (pc' := 21) rfl ?_
    refine T_calli (K := fun y4 σ' => (y4 = -1) ∧ (fun σ' => IF MM σ σ' ∧ σ' 11 0 0 0 = 0 ∧ True) σ') (r := []) zk_81_21 rfl rfl rfl rfl rfl rfl (Or.inr ⟨_, _, _, _, rfl, (vd_11 (by omega)), rfl⟩) (fun σ' h => (c_62e 0 p0 (by omega) (by omega) σ' h.1.1 (h.2.1)).le (Nat.le_of_ble_eq_true rfl) (fun v σ2 ⟨y, h1, h2, h3, h4⟩ => ⟨y, h1, h2, h.1.tr h3 MN_sub, (h3.2 _ _ _ _ (fun q => q)).trans (h.2.1), trivial⟩)) (pc' := 24) rfl (fun y4 => ?_)
    refine G_ex (fun hy4 => ?_)
    obtain rfl : y4 = (-1) := by omega
    refine T_op zk_81_24 rfl X_ic (pc' := 25) rfl ?_
    refine T_icmp_eq zk_81_25 (by omega) (by omega) (pc' := 28) rfl (fun h5 => ?_) (fun h6 => ?_)
    ·
      refine T_ld zk_81_35 rfl rfl rfl (pc' := 36) rfl ?_
      refine T_getR (t' := 1) (i' := 0) (k' := 0) zk_81_36 rfl rfl rfl vd_0 (pc' := 39) rfl ?_
      refine T_getR (t' := 11) (i' := 0) (k' := 0) zk_81_39 rfl rfl rfl (vd_1 (by omega)) (pc' := 42) rfl ?_
      refine G_getX (w := 0) zk_81_42 rfl (vd_11 (by omega)) (fun σ' h => h.2.1) (pc' := 45) rfl ?_
      refine T_op zk_81_45 rfl X_ic (pc' := 46) rfl ?_
      refine T_icmp_lt zk_81_46 (by omega) (by omega) (pc' := 49) rfl (fun h7 => ?_) (fun h8 => ?_)
      ·
        refine T_ld zk_81_56 rfl rfl rfl (pc' := 57) rfl ?_
        refine T_getR (t' := 1) (i' := 0) (k' := 0) zk_81_57 rfl rfl rfl vd_0 (pc' := 60) rfl ?_
        refine T_getR (t' := 11) (i' := 0) (k' := 0) zk_81_60 rfl rfl rfl (vd_1 (by omega)) (pc' := 63) rfl ?_
        refine T_ld zk_81_63 rfl rfl rfl (pc' := 64) rfl ?_
        refine T_calli (K := fun y9 σ' => (y9 = 0) ∧ (fun σ' => IF MM σ σ' ∧ True) σ') (r := []) zk_81_64 rfl rfl rfl rfl rfl rfl (Or.inr ⟨_, _, _, _, rfl, (vd_11 (by omega)), rfl⟩) (fun σ' h => (c_61e p0 (by omega) σ' h.1.1 (h.2.1)).le (Nat.le_of_ble_eq_true rfl) (fun v σ2 ⟨y, h1, h2, h3, h4⟩ => ⟨y, h1, h2, h.1.tr h3 (fun t i k j h => by unfold MT at h; unfold MM; omega), trivial⟩)) (pc' := 67) rfl (fun y9 => ?_)
        refine G_ex (fun hy9 => ?_)
        obtain rfl : y9 = 0 := by omega
        exact T_iret zk_81_67 rfl (fun σ' h => ⟨_, rfl, (by omega), h.1, trivial⟩)
      · exfalso; omega
    · exfalso; omega
  ·
    refine T_ld zk_81_7 rfl rfl rfl (pc' := 8) rfl ?_
    refine T_op zk_81_8 rfl X_ic (pc' := 9) rfl ?_
    refine T_calli (K := fun y10 σ' => (y10 = (-1)) ∧ (fun σ' => IF MM σ σ' ∧ σ' 11 0 0 0 = 0 ∧ True) σ') (r := []) zk_81_9 rfl rfl rfl rfl rfl rfl (Or.inr ⟨_, _, _, _, rfl, vd_0, rfl⟩) (fun σ' h => (c_113 ((-1)) (by omega) σ' h.1.1 ).le (Nat.le_of_ble_eq_true rfl) (fun v σ2 ⟨y, h1, h2, h3, h4⟩ => ⟨y, h1, h2, h.1.tr h3 (fun t i k j h => by unfold MT at h; unfold MM; omega), (h3.2 _ _ _ _ (by unfold MT; omega)).trans (h.2.1), trivial⟩)) (pc' := 12) rfl (fun y10 => ?_)
    refine G_ex (fun hy10 => ?_)
    obtain rfl : y10 = (-1) := by omega
    exact T_iret zk_81_12 rfl (fun σ' h => ⟨_, rfl, (by omega), h.1, trivial⟩)
/-- W.gate -/
theorem x_gate {xs : Nat × (Nat → Int32)} (p0 : Int) (p1 : Int) (h0 : -2147483648 ≤ p0 ∧ p0 ≤ 2147483647) (h1 : 0 ≤ p1 ∧ p1 ≤ 1) (σ : ZS) (hI : Inv σ) (hf : ∀ t i k j, t < 35 → σ t i k j = σ0 t i k j)  : CT xs 3 82 [av 0 0 0, iv p0, iv p1] σ (fun v σ' => ∃ y, v = some (iv y) ∧ (y = -1) ∧ IF (MT 28 28 28 28) σ σ' ∧ (True)) := by
  refine G_ct (J := (fun σ' => IF (MT 28 28 28 28) σ σ' ∧ True)) (L := [(0, av 0 0 0), (1, iv p0), (2, iv p1)]) (nL := 3) rfl rfl rfl ⟨IF.rf hI, trivial⟩ ?_
  refine T_ld zk_82_0 rfl rfl rfl (pc' := 1) rfl ?_
  refine T_op zk_82_1 rfl X_ic (pc' := 2) rfl ?_
  refine T_ld zk_82_2 rfl rfl rfl (pc' := 3) rfl ?_
  refine T_getR (t' := 1) (i' := 0) (k' := 0) zk_82_3 rfl rfl rfl vd_0 (pc' := 6) rfl ?_
  refine T_getR (t' := 11) (i' := 0) (k' := 0) zk_82_6 rfl rfl rfl (vd_1 (by omega)) (pc' := 9) rfl ?_
  refine G_getX (w := 0) zk_82_9 rfl (vd_11 (by omega)) (fun σ' h => (h.1.2 _ _ _ _ (by unfold MT; omega)).trans (hf _ _ _ _ (by decide))) (pc' := 12) rfl ?_
  refine T_op zk_82_12 rfl X_ic (pc' := 13) rfl ?_
  refine T_opc (w := (-1)) zk_82_13 rfl X_sub (by omega) (pc' := 14) rfl ?_
  refine T_calli (K := fun y1 σ' => ((y1 = 0 ∧ (p0 < 0 ∨ (-1) < p0)) ∨ (y1 = 1 ∧ 0 ≤ p0 ∧ p0 ≤ (-1))) ∧ (fun σ' => IF (MT 28 28 28 28) σ σ' ∧ True) σ') (r := []) zk_82_14 rfl rfl rfl rfl rfl rfl (Or.inl (Or.inl rfl)) (fun σ' h => (c_114 p0 0 ((-1)) (by omega) (by omega) (by omega) σ' h.1.1 ).le (Nat.le_of_ble_eq_true rfl) (fun v σ2 ⟨y, h1, h2, h3, h4⟩ => ⟨y, h1, h2, h.1.tr h3 MN_sub, trivial⟩)) (pc' := 17) rfl (fun y1 => ?_)
  refine G_ex (fun hy1 => ?_)
  refine T_if_ne zk_82_17 (by omega) (pc' := 20) rfl (fun h2 => ?_) (fun h3 => ?_)
  · exfalso; omega
  ·
    refine T_ld zk_82_20 rfl rfl rfl (pc' := 21) rfl ?_
    refine T_op zk_82_21 rfl X_ic (pc' := 22) rfl ?_
    refine T_calli (K := fun y4 σ' => (y4 = (-1)) ∧ (fun σ' => IF (MT 28 28 28 28) σ σ' ∧ True) σ') (r := []) zk_82_22 rfl rfl rfl rfl rfl rfl (Or.inr ⟨_, _, _, _, rfl, vd_0, rfl⟩) (fun σ' h => (c_113 ((-1)) (by omega) σ' h.1.1 ).le (Nat.le_of_ble_eq_true rfl) (fun v σ2 ⟨y, h1, h2, h3, h4⟩ => ⟨y, h1, h2, h.1.tr h3 (fun _ _ _ _ h => h), trivial⟩)) (pc' := 25) rfl (fun y4 => ?_)
    refine G_ex (fun hy4 => ?_)
    obtain rfl : y4 = (-1) := by omega
    exact T_iret zk_82_25 rfl (fun σ' h => ⟨_, rfl, (by omega), h.1, trivial⟩)
/-- W.row -/
theorem x_row {xs : Nat × (Nat → Int32)} (p0 : Int) (p1 : Int) (p2 : Int) (h0 : -2147483648 ≤ p0 ∧ p0 ≤ 2147483647) (h1 : -2147483648 ≤ p1 ∧ p1 ≤ 2147483647) (h2 : -2147483648 ≤ p2 ∧ p2 ≤ 2147483647) (σ : ZS) (hI : Inv σ) (hf : ∀ t i k j, t < 35 → σ t i k j = σ0 t i k j)  : CT xs 3 83 [av 0 0 0, iv p0, iv p1, iv p2] σ (fun v σ' => ∃ y, v = some (iv y) ∧ ((y = -1 ∧ (¬ (0 ≤ p0 ∧ p0 ≤ 7))) ∨ (y = -4 ∧ ¬ (¬ (0 ≤ p0 ∧ p0 ≤ 7)) ∧ (p2 < 0)) ∨ (y = -6 ∧ ¬ (¬ (0 ≤ p0 ∧ p0 ≤ 7)) ∧ ¬ (p2 < 0) ∧ (¬ (0 ≤ p1 ∧ p1 ≤ 3))) ∨ (y = -7 ∧ ¬ (¬ (0 ≤ p0 ∧ p0 ≤ 7)) ∧ ¬ (p2 < 0) ∧ ¬ (¬ (0 ≤ p1 ∧ p1 ≤ 3)) ∧ (96 < p2)) ∨ (y = 1 ∧ ¬ (¬ (0 ≤ p0 ∧ p0 ≤ 7)) ∧ ¬ (p2 < 0) ∧ ¬ (¬ (0 ≤ p1 ∧ p1 ≤ 3)) ∧ ¬ (96 < p2))) ∧ IF MS σ σ' ∧ (True)) := by
  refine G_ct (J := (fun σ' => IF MS σ σ' ∧ True)) (L := [(0, av 0 0 0), (1, iv p0), (2, iv p1), (3, iv p2)]) (nL := 4) rfl rfl rfl ⟨IF.rf hI, trivial⟩ ?_
  refine T_ld zk_83_0 rfl rfl rfl (pc' := 1) rfl ?_
  refine T_calli (K := fun y1 σ' => ((y1 = 0 ∧ (p0 < 0 ∨ 7 < p0)) ∨ (y1 = 1 ∧ 0 ≤ p0 ∧ p0 ≤ 7)) ∧ (fun σ' => IF MS σ σ' ∧ True) σ') (r := []) zk_83_1 rfl rfl rfl rfl rfl rfl (Or.inl (Or.inl rfl)) (fun σ' h => (c_116 p0 (by omega) σ' h.1.1 ).le (Nat.le_of_ble_eq_true rfl) (fun v σ2 ⟨y, h1, h2, h3, h4⟩ => ⟨y, h1, h2, h.1.tr h3 MN_sub, trivial⟩)) (pc' := 4) rfl (fun y1 => ?_)
  refine G_ex (fun hy1 => ?_)
  refine T_if_ne zk_83_4 (by omega) (pc' := 7) rfl (fun h2 => ?_) (fun h3 => ?_)
  ·
    refine T_ld zk_83_13 rfl rfl rfl (pc' := 14) rfl ?_
    refine T_if_ge zk_83_14 (by omega) (pc' := 17) rfl (fun h4 => ?_) (fun h5 => ?_)
    ·
      refine T_ld zk_83_24 rfl rfl rfl (pc' := 25) rfl ?_
      refine T_op zk_83_25 rfl X_ic (pc' := 26) rfl ?_
      refine T_op zk_83_26 rfl X_ic (pc' := 27) rfl ?_
      refine T_calli (K := fun y6 σ' => ((y6 = 0 ∧ (p1 < 0 ∨ 3 < p1)) ∨ (y6 = 1 ∧ 0 ≤ p1 ∧ p1 ≤ 3)) ∧ (fun σ' => IF MS σ σ' ∧ True) σ') (r := []) zk_83_27 rfl rfl rfl rfl rfl rfl (Or.inl (Or.inl rfl)) (fun σ' h => (c_114 p1 0 3 (by omega) (by omega) (by omega) σ' h.1.1 ).le (Nat.le_of_ble_eq_true rfl) (fun v σ2 ⟨y, h1, h2, h3, h4⟩ => ⟨y, h1, h2, h.1.tr h3 MN_sub, trivial⟩)) (pc' := 30) rfl (fun y6 => ?_)
      refine G_ex (fun hy6 => ?_)
      refine T_if_ne zk_83_30 (by omega) (pc' := 33) rfl (fun h7 => ?_) (fun h8 => ?_)
      ·
        refine T_ld zk_83_40 rfl rfl rfl (pc' := 41) rfl ?_
        refine T_op zk_83_41 rfl (X_bi (v := 96) (by decide)) (pc' := 43) rfl ?_
        refine T_icmp_le zk_83_43 (by omega) (by omega) (pc' := 46) rfl (fun h9 => ?_) (fun h10 => ?_)
        ·
          refine T_ld zk_83_53 rfl rfl rfl (pc' := 54) rfl ?_
          refine T_getR (t' := 27) (i' := 0) (k' := 0) zk_83_54 rfl rfl rfl vd_0 (pc' := 57) rfl ?_
          refine T_ld zk_83_57 rfl rfl rfl (pc' := 58) rfl ?_
          refine G_aald (t' := 33) (im := 0) (i' := 0) (ln := 8) zk_83_58 rfl rfl rfl vd_27 (by omega) (by omega) (by omega) (pc' := 59) rfl ?_
          refine T_ld zk_83_59 rfl rfl rfl (pc' := 60) rfl ?_
          refine T_ld zk_83_60 rfl rfl rfl (pc' := 61) rfl ?_
          refine T_callv (J' := (fun σ' => IF MS σ σ' ∧ True)) (r := []) zk_83_61 rfl rfl rfl rfl rfl rfl (Or.inr ⟨_, _, _, _, rfl, (vd_33 (by omega)), rfl⟩) (fun σ' h => (c_66 (Int.toNat p0) p1 p2 (by omega) (by omega) (by omega) σ' h.1.1 ).le (Nat.le_of_ble_eq_true rfl) (fun v σ2 ⟨h1, h3, h4⟩ => ⟨h1, h.1.tr h3 (fun t i k j h => by unfold MT at h; unfold MS; omega), trivial⟩)) (pc' := 64) rfl ?_
          refine T_op zk_83_64 rfl X_ic (pc' := 65) rfl ?_
          exact T_iret zk_83_65 rfl (fun σ' h => ⟨_, rfl, (by omega), h.1, trivial⟩)
        ·
          refine T_ld zk_83_46 rfl rfl rfl (pc' := 47) rfl ?_
          refine T_op zk_83_47 rfl (X_bi (v := -7) (by decide)) (pc' := 49) rfl ?_
          refine T_calli (K := fun y12 σ' => (y12 = (-7)) ∧ (fun σ' => IF MS σ σ' ∧ True) σ') (r := []) zk_83_49 rfl rfl rfl rfl rfl rfl (Or.inr ⟨_, _, _, _, rfl, vd_0, rfl⟩) (fun σ' h => (c_113 ((-7)) (by omega) σ' h.1.1 ).le (Nat.le_of_ble_eq_true rfl) (fun v σ2 ⟨y, h1, h2, h3, h4⟩ => ⟨y, h1, h2, h.1.tr h3 (fun t i k j h => by unfold MT at h; unfold MS; omega), trivial⟩)) (pc' := 52) rfl (fun y12 => ?_)
          refine G_ex (fun hy12 => ?_)
          obtain rfl : y12 = (-7) := by omega
          exact T_iret zk_83_52 rfl (fun σ' h => ⟨_, rfl, (by omega), h.1, trivial⟩)
      ·
        refine T_ld zk_83_33 rfl rfl rfl (pc' := 34) rfl ?_
        refine T_op zk_83_34 rfl (X_bi (v := -6) (by decide)) (pc' := 36) rfl ?_
        refine T_calli (K := fun y13 σ' => (y13 = (-6)) ∧ (fun σ' => IF MS σ σ' ∧ True) σ') (r := []) zk_83_36 rfl rfl rfl rfl rfl rfl (Or.inr ⟨_, _, _, _, rfl, vd_0, rfl⟩) (fun σ' h => (c_113 ((-6)) (by omega) σ' h.1.1 ).le (Nat.le_of_ble_eq_true rfl) (fun v σ2 ⟨y, h1, h2, h3, h4⟩ => ⟨y, h1, h2, h.1.tr h3 (fun t i k j h => by unfold MT at h; unfold MS; omega), trivial⟩)) (pc' := 39) rfl (fun y13 => ?_)
        refine G_ex (fun hy13 => ?_)
        obtain rfl : y13 = (-6) := by omega
        exact T_iret zk_83_39 rfl (fun σ' h => ⟨_, rfl, (by omega), h.1, trivial⟩)
    ·
      refine T_ld zk_83_17 rfl rfl rfl (pc' := 18) rfl ?_
      refine T_op zk_83_18 rfl (X_bi (v := -4) (by decide)) (pc' := 20) rfl ?_
      refine T_calli (K := fun y14 σ' => (y14 = (-4)) ∧ (fun σ' => IF MS σ σ' ∧ True) σ') (r := []) zk_83_20 rfl rfl rfl rfl rfl rfl (Or.inr ⟨_, _, _, _, rfl, vd_0, rfl⟩) (fun σ' h => (c_113 ((-4)) (by omega) σ' h.1.1 ).le (Nat.le_of_ble_eq_true rfl) (fun v σ2 ⟨y, h1, h2, h3, h4⟩ => ⟨y, h1, h2, h.1.tr h3 (fun t i k j h => by unfold MT at h; unfold MS; omega), trivial⟩)) (pc' := 23) rfl (fun y14 => ?_)
      refine G_ex (fun hy14 => ?_)
      obtain rfl : y14 = (-4) := by omega
      exact T_iret zk_83_23 rfl (fun σ' h => ⟨_, rfl, (by omega), h.1, trivial⟩)
  ·
    refine T_ld zk_83_7 rfl rfl rfl (pc' := 8) rfl ?_
    refine T_op zk_83_8 rfl X_ic (pc' := 9) rfl ?_
    refine T_calli (K := fun y15 σ' => (y15 = (-1)) ∧ (fun σ' => IF MS σ σ' ∧ True) σ') (r := []) zk_83_9 rfl rfl rfl rfl rfl rfl (Or.inr ⟨_, _, _, _, rfl, vd_0, rfl⟩) (fun σ' h => (c_113 ((-1)) (by omega) σ' h.1.1 ).le (Nat.le_of_ble_eq_true rfl) (fun v σ2 ⟨y, h1, h2, h3, h4⟩ => ⟨y, h1, h2, h.1.tr h3 (fun t i k j h => by unfold MT at h; unfold MS; omega), trivial⟩)) (pc' := 12) rfl (fun y15 => ?_)
    refine G_ex (fun hy15 => ?_)
    obtain rfl : y15 = (-1) := by omega
    exact T_iret zk_83_12 rfl (fun σ' h => ⟨_, rfl, (by omega), h.1, trivial⟩)
/-- W.set -/
theorem x_set {xs : Nat × (Nat → Int32)} (p0 : Int) (p1 : Int) (p2 : Int) (h0 : -2147483648 ≤ p0 ∧ p0 ≤ 2147483647) (h1 : -2147483648 ≤ p1 ∧ p1 ≤ 2147483647) (σ : ZS) (hI : Inv σ) (hf : ∀ t i k j, t < 35 → σ t i k j = σ0 t i k j)  : CT xs 3 84 [av 0 0 0, iv p0, iv p1, jv p2] σ (fun v σ' => ∃ y, v = some (iv y) ∧ ((y = -1 ∧ (¬ (0 ≤ p0 ∧ p0 ≤ 7))) ∨ (y = -3 ∧ ¬ (¬ (0 ≤ p0 ∧ p0 ≤ 7)))) ∧ IF (MT 28 28 28 28) σ σ' ∧ (True)) := by
  refine G_ct (J := (fun σ' => IF (MT 28 28 28 28) σ σ' ∧ True)) (L := [(0, av 0 0 0), (1, iv p0), (2, iv p1), (3, jv p2)]) (nL := 6) rfl rfl rfl ⟨IF.rf hI, trivial⟩ ?_
  refine T_ld zk_84_0 rfl rfl rfl (pc' := 1) rfl ?_
  refine T_ld zk_84_1 rfl rfl rfl (pc' := 2) rfl ?_
  refine T_calli (K := fun y1 σ' => ((y1 = -1 ∧ (p0 < 0 ∨ 7 < p0)) ∨ (y1 = -3 ∧ 0 ≤ p0 ∧ p0 ≤ 7)) ∧ (fun σ' => IF (MT 28 28 28 28) σ σ' ∧ True) σ') (r := []) zk_84_2 rfl rfl rfl rfl rfl rfl (Or.inr ⟨_, _, _, _, rfl, vd_0, rfl⟩) (fun σ' h => (c_119e p0 (by omega) σ' h.1.1 ((h.1.2 _ _ _ _ (by unfold MT; omega)).trans (hf _ _ _ _ (by decide)))).le (Nat.le_of_ble_eq_true rfl) (fun v σ2 ⟨y, h1, h2, h3, h4⟩ => ⟨y, h1, h2, h.1.tr h3 MN_sub, trivial⟩)) (pc' := 5) rfl (fun y1 => ?_)
  refine G_ex (fun hy1 => ?_)
  refine T_st (L' := [(0, av 0 0 0), (1, iv p0), (2, iv p1), (3, jv p2), (5, iv y1)]) zk_84_5 (nL := 6) rfl rfl rfl rfl rfl (pc' := 7) rfl ?_
  refine T_ld zk_84_7 rfl rfl rfl (pc' := 9) rfl ?_
  refine T_if_eq zk_84_9 (by omega) (pc' := 12) rfl (fun h2 => ?_) (fun h3 => ?_)
  · exfalso; omega
  ·
    refine T_ld zk_84_12 rfl rfl rfl (pc' := 13) rfl ?_
    refine T_ld zk_84_13 rfl rfl rfl (pc' := 15) rfl ?_
    refine T_calli (K := fun y4 σ' => (y4 = y1) ∧ (fun σ' => IF (MT 28 28 28 28) σ σ' ∧ True) σ') (r := []) zk_84_15 rfl rfl rfl rfl rfl rfl (Or.inr ⟨_, _, _, _, rfl, vd_0, rfl⟩) (fun σ' h => (c_113 y1 (by omega) σ' h.1.1 ).le (Nat.le_of_ble_eq_true rfl) (fun v σ2 ⟨y, h1, h2, h3, h4⟩ => ⟨y, h1, h2, h.1.tr h3 (fun _ _ _ _ h => h), trivial⟩)) (pc' := 18) rfl (fun y4 => ?_)
    refine G_ex (fun hy4 => ?_)
    obtain rfl : y4 = y1 := by omega
    exact T_iret zk_84_18 rfl (fun σ' h => ⟨_, rfl, (by omega), h.1, trivial⟩)
/-- W.copy -/
theorem x_copy {xs : Nat × (Nat → Int32)} (p0 : Int) (p1 : Int) (p2 : Int) (p3 : Int) (p4 : Int) (h0 : -2147483648 ≤ p0 ∧ p0 ≤ 2147483647) (h1 : -2147483648 ≤ p1 ∧ p1 ≤ 2147483647) (h2 : -2147483648 ≤ p2 ∧ p2 ≤ 2147483647) (h3 : -2147483648 ≤ p3 ∧ p3 ≤ 2147483647) (h4 : -2147483648 ≤ p4 ∧ p4 ≤ 2147483647) (σ : ZS) (hI : Inv σ) (hf : ∀ t i k j, t < 35 → σ t i k j = σ0 t i k j)  : CT xs 4 85 [av 0 0 0, iv p0, iv p1, iv p2, iv p3, iv p4] σ (fun v σ' => ∃ y, v = some (iv y) ∧ ((y = -1 ∧ (¬ (0 ≤ p0 ∧ p0 ≤ 7) ∨ ¬ (0 ≤ p1 ∧ p1 ≤ 7))) ∨ (y = -3 ∧ ¬ (¬ (0 ≤ p0 ∧ p0 ≤ 7) ∨ ¬ (0 ≤ p1 ∧ p1 ≤ 7)))) ∧ IF (MT 28 28 28 28) σ σ' ∧ (True)) := by
  refine G_ct (J := (fun σ' => IF (MT 28 28 28 28) σ σ' ∧ True)) (L := [(0, av 0 0 0), (1, iv p0), (2, iv p1), (3, iv p2), (4, iv p3), (5, iv p4)]) (nL := 7) rfl rfl rfl ⟨IF.rf hI, trivial⟩ ?_
  refine T_ld zk_85_0 rfl rfl rfl (pc' := 1) rfl ?_
  refine T_ld zk_85_1 rfl rfl rfl (pc' := 2) rfl ?_
  refine T_ld zk_85_2 rfl rfl rfl (pc' := 3) rfl ?_
  refine T_calli (K := fun y1 σ' => ((y1 = -1 ∧ (p0 < 0 ∨ 7 < p0 ∨ p1 < 0 ∨ 7 < p1)) ∨ (y1 = -3 ∧ 0 ≤ p0 ∧ p0 ≤ 7 ∧ 0 ≤ p1 ∧ p1 ≤ 7)) ∧ (fun σ' => IF (MT 28 28 28 28) σ σ' ∧ True) σ') (r := []) zk_85_3 rfl rfl rfl rfl rfl rfl (Or.inr ⟨_, _, _, _, rfl, vd_0, rfl⟩) (fun σ' h => (c_120e p0 p1 (by omega) (by omega) σ' h.1.1 ((h.1.2 _ _ _ _ (by unfold MT; omega)).trans (hf _ _ _ _ (by decide))) ((h.1.2 _ _ _ _ (by unfold MT; omega)).trans (hf _ _ _ _ (by decide)))).le (Nat.le_of_ble_eq_true rfl) (fun v σ2 ⟨y, h1, h2, h3, h4⟩ => ⟨y, h1, h2, h.1.tr h3 MN_sub, trivial⟩)) (pc' := 6) rfl (fun y1 => ?_)
  refine G_ex (fun hy1 => ?_)
  refine T_st (L' := [(0, av 0 0 0), (1, iv p0), (2, iv p1), (3, iv p2), (4, iv p3), (5, iv p4), (6, iv y1)]) zk_85_6 (nL := 7) rfl rfl rfl rfl rfl (pc' := 8) rfl ?_
  refine T_ld zk_85_8 rfl rfl rfl (pc' := 10) rfl ?_
  refine T_if_eq zk_85_10 (by omega) (pc' := 13) rfl (fun h2 => ?_) (fun h3 => ?_)
  · exfalso; omega
  ·
    refine T_ld zk_85_13 rfl rfl rfl (pc' := 14) rfl ?_
    refine T_ld zk_85_14 rfl rfl rfl (pc' := 16) rfl ?_
    refine T_calli (K := fun y4 σ' => (y4 = y1) ∧ (fun σ' => IF (MT 28 28 28 28) σ σ' ∧ True) σ') (r := []) zk_85_16 rfl rfl rfl rfl rfl rfl (Or.inr ⟨_, _, _, _, rfl, vd_0, rfl⟩) (fun σ' h => (c_113 y1 (by omega) σ' h.1.1 ).le (Nat.le_of_ble_eq_true rfl) (fun v σ2 ⟨y, h1, h2, h3, h4⟩ => ⟨y, h1, h2, h.1.tr h3 (fun _ _ _ _ h => h), trivial⟩)) (pc' := 19) rfl (fun y4 => ?_)
    refine G_ex (fun hy4 => ?_)
    obtain rfl : y4 = y1 := by omega
    exact T_iret zk_85_19 rfl (fun σ' h => ⟨_, rfl, (by omega), h.1, trivial⟩)
/-- W.element -/
theorem x_element {xs : Nat × (Nat → Int32)} (p0 : Int) (p1 : Int) (h0 : -2147483648 ≤ p0 ∧ p0 ≤ 2147483647) (h1 : -2147483648 ≤ p1 ∧ p1 ≤ 2147483647) (σ : ZS) (hI : Inv σ) (hf : ∀ t i k j, t < 35 → σ t i k j = σ0 t i k j)  : CT xs 2 86 [av 0 0 0, iv p0, iv p1] σ (fun v σ' => ∃ y, v = some (jv y) ∧ (y = 0) ∧ IF MN σ σ' ∧ (True)) := by
  refine G_ct (J := (fun σ' => IF MN σ σ' ∧ True)) (L := [(0, av 0 0 0), (1, iv p0), (2, iv p1)]) (nL := 3) rfl rfl rfl ⟨IF.rf hI, trivial⟩ ?_
  refine T_ld zk_86_0 rfl rfl rfl (pc' := 1) rfl ?_
  refine T_calli (K := fun y1 σ' => ((y1 = 0 ∧ (p0 < 0 ∨ 7 < p0)) ∨ (y1 = 1 ∧ 0 ≤ p0 ∧ p0 ≤ 7)) ∧ (fun σ' => IF MN σ σ' ∧ True) σ') (r := []) zk_86_1 rfl rfl rfl rfl rfl rfl (Or.inl (Or.inl rfl)) (fun σ' h => (c_116 p0 (by omega) σ' h.1.1 ).le (Nat.le_of_ble_eq_true rfl) (fun v σ2 ⟨y, h1, h2, h3, h4⟩ => ⟨y, h1, h2, h.1.tr h3 MN_sub, trivial⟩)) (pc' := 4) rfl (fun y1 => ?_)
  refine G_ex (fun hy1 => ?_)
  refine T_if_eq zk_86_4 (by omega) (pc' := 7) rfl (fun h2 => ?_) (fun h3 => ?_)
  ·
    refine T_op zk_86_39 rfl (X_lc (v := 0) (by decide)) (pc' := 40) rfl ?_
    exact T_lret zk_86_40 rfl (fun σ' h => ⟨_, rfl, (by omega), h.1, trivial⟩)
  ·
    refine T_ld zk_86_7 rfl rfl rfl (pc' := 8) rfl ?_
    refine T_getR (t' := 27) (i' := 0) (k' := 0) zk_86_8 rfl rfl rfl vd_0 (pc' := 11) rfl ?_
    refine T_ld zk_86_11 rfl rfl rfl (pc' := 12) rfl ?_
    refine G_aald (t' := 33) (im := 0) (i' := 0) (ln := 8) zk_86_12 rfl rfl rfl vd_27 (by omega) (by omega) (by omega) (pc' := 13) rfl ?_
    refine G_getX (w := 0) zk_86_13 rfl (vd_33 (by omega)) (fun σ' h => (h.1.2 _ _ _ _ (fun q => q)).trans (hf _ _ _ _ (by decide))) (pc' := 16) rfl ?_
    refine T_op zk_86_16 rfl X_ic (pc' := 17) rfl ?_
    refine T_icmp_ne zk_86_17 (by omega) (by omega) (pc' := 20) rfl (fun h4 => ?_) (fun h5 => ?_)
    ·
      refine T_op zk_86_39 rfl (X_lc (v := 0) (by decide)) (pc' := 40) rfl ?_
      exact T_lret zk_86_40 rfl (fun σ' h => ⟨_, rfl, (by omega), h.1, trivial⟩)
    · exfalso; omega
/-- W.show -/
theorem x_show {xs : Nat × (Nat → Int32)} (p0 : Int) (p1 : Int) (h0 : -2147483648 ≤ p0 ∧ p0 ≤ 2147483647) (h1 : -2147483648 ≤ p1 ∧ p1 ≤ 2147483647) (σ : ZS) (hI : Inv σ) (hf : ∀ t i k j, t < 35 → σ t i k j = σ0 t i k j)  : CT xs 3 87 [av 0 0 0, iv p0, iv p1] σ (fun v σ' => ∃ y, v = some (iv y) ∧ ((y = -1 ∧ (¬ (0 ≤ p0 ∧ p0 ≤ 7) ∨ ¬ (p1 = -1))) ∨ (y = 0 ∧ ¬ (¬ (0 ≤ p0 ∧ p0 ≤ 7) ∨ ¬ (p1 = -1)))) ∧ IF MS σ σ' ∧ (True)) := by
  refine G_ct (J := (fun σ' => IF MS σ σ' ∧ True)) (L := [(0, av 0 0 0), (1, iv p0), (2, iv p1)]) (nL := 3) rfl rfl rfl ⟨IF.rf hI, trivial⟩ ?_
  refine T_ld zk_87_0 rfl rfl rfl (pc' := 1) rfl ?_
  refine T_calli (K := fun y1 σ' => ((y1 = 0 ∧ (p0 < 0 ∨ 7 < p0)) ∨ (y1 = 1 ∧ 0 ≤ p0 ∧ p0 ≤ 7)) ∧ (fun σ' => IF MS σ σ' ∧ True) σ') (r := []) zk_87_1 rfl rfl rfl rfl rfl rfl (Or.inl (Or.inl rfl)) (fun σ' h => (c_116 p0 (by omega) σ' h.1.1 ).le (Nat.le_of_ble_eq_true rfl) (fun v σ2 ⟨y, h1, h2, h3, h4⟩ => ⟨y, h1, h2, h.1.tr h3 MN_sub, trivial⟩)) (pc' := 4) rfl (fun y1 => ?_)
  refine G_ex (fun hy1 => ?_)
  refine T_if_eq zk_87_4 (by omega) (pc' := 7) rfl (fun h2 => ?_) (fun h3 => ?_)
  ·
    refine T_ld zk_87_20 rfl rfl rfl (pc' := 21) rfl ?_
    refine T_op zk_87_21 rfl X_ic (pc' := 22) rfl ?_
    refine T_calli (K := fun y4 σ' => (y4 = (-1)) ∧ (fun σ' => IF MS σ σ' ∧ True) σ') (r := []) zk_87_22 rfl rfl rfl rfl rfl rfl (Or.inr ⟨_, _, _, _, rfl, vd_0, rfl⟩) (fun σ' h => (c_113 ((-1)) (by omega) σ' h.1.1 ).le (Nat.le_of_ble_eq_true rfl) (fun v σ2 ⟨y, h1, h2, h3, h4⟩ => ⟨y, h1, h2, h.1.tr h3 (fun t i k j h => by unfold MT at h; unfold MS; omega), trivial⟩)) (pc' := 25) rfl (fun y4 => ?_)
    refine G_ex (fun hy4 => ?_)
    obtain rfl : y4 = (-1) := by omega
    exact T_iret zk_87_25 rfl (fun σ' h => ⟨_, rfl, (by omega), h.1, trivial⟩)
  ·
    refine T_ld zk_87_7 rfl rfl rfl (pc' := 8) rfl ?_
    refine T_op zk_87_8 rfl X_ic (pc' := 9) rfl ?_
    refine T_icmp_eq zk_87_9 (by omega) (by omega) (pc' := 12) rfl (fun h5 => ?_) (fun h6 => ?_)
    ·
      refine T_ld zk_87_26 rfl rfl rfl (pc' := 27) rfl ?_
      refine T_op zk_87_27 rfl X_ic (pc' := 28) rfl ?_
      refine T_icmp_ne zk_87_28 (by omega) (by omega) (pc' := 31) rfl (fun h7 => ?_) (fun h8 => ?_)
      · exfalso; omega
      ·
        refine T_ld zk_87_31 rfl rfl rfl (pc' := 32) rfl ?_
        refine T_getR (t' := 27) (i' := 0) (k' := 0) zk_87_32 rfl rfl rfl vd_0 (pc' := 35) rfl ?_
        refine T_ld zk_87_35 rfl rfl rfl (pc' := 36) rfl ?_
        refine G_aald (t' := 33) (im := 0) (i' := 0) (ln := 8) zk_87_36 rfl rfl rfl vd_27 (by omega) (by omega) (by omega) (pc' := 37) rfl ?_
        refine T_op zk_87_37 rfl X_ic (pc' := 38) rfl ?_
        refine T_putf (J' := (fun σ' => IF MS σ σ' ∧ True)) zk_87_38 rfl rfl (vd_33 (by omega)) (fun σ' h => ⟨h.1.up (by simp only [rgP] <;> omega) (by unfold MS; omega), trivial⟩) (pc' := 41) rfl ?_
        refine T_op zk_87_41 rfl X_ic (pc' := 42) rfl ?_
        exact T_iret zk_87_42 rfl (fun σ' h => ⟨_, rfl, (by omega), h.1, trivial⟩)
    ·
      refine T_ld zk_87_12 rfl rfl rfl (pc' := 13) rfl ?_
      refine T_ld zk_87_13 rfl rfl rfl (pc' := 14) rfl ?_
      refine T_calli (K := fun y9 σ' => (y9 = 0) ∧ (fun σ' => IF MS σ σ' ∧ True) σ') (r := []) zk_87_14 rfl rfl rfl rfl rfl rfl (Or.inr ⟨_, _, _, _, rfl, vd_0, rfl⟩) (fun σ' h => (c_117e p1 (by omega) σ' h.1.1 ((h.1.2 _ _ _ _ (by unfold MS; omega)).trans (hf _ _ _ _ (by decide)))).le (Nat.le_of_ble_eq_true rfl) (fun v σ2 ⟨y, h1, h2, h3, h4⟩ => ⟨y, h1, h2, h.1.tr h3 MN_sub, trivial⟩)) (pc' := 17) rfl (fun y9 => ?_)
      refine G_ex (fun hy9 => ?_)
      obtain rfl : y9 = 0 := by omega
      refine T_if_ne zk_87_17 (by omega) (pc' := 20) rfl (fun h10 => ?_) (fun h11 => ?_)
      · exfalso; omega
      ·
        refine T_ld zk_87_20 rfl rfl rfl (pc' := 21) rfl ?_
        refine T_op zk_87_21 rfl X_ic (pc' := 22) rfl ?_
        refine T_calli (K := fun y12 σ' => (y12 = (-1)) ∧ (fun σ' => IF MS σ σ' ∧ True) σ') (r := []) zk_87_22 rfl rfl rfl rfl rfl rfl (Or.inr ⟨_, _, _, _, rfl, vd_0, rfl⟩) (fun σ' h => (c_113 ((-1)) (by omega) σ' h.1.1 ).le (Nat.le_of_ble_eq_true rfl) (fun v σ2 ⟨y, h1, h2, h3, h4⟩ => ⟨y, h1, h2, h.1.tr h3 (fun t i k j h => by unfold MT at h; unfold MS; omega), trivial⟩)) (pc' := 25) rfl (fun y12 => ?_)
        refine G_ex (fun hy12 => ?_)
        obtain rfl : y12 = (-1) := by omega
        exact T_iret zk_87_25 rfl (fun σ' h => ⟨_, rfl, (by omega), h.1, trivial⟩)
/-- W.holds -/
theorem x_holds {xs : Nat × (Nat → Int32)} (p0 : Int) (h0 : -2147483648 ≤ p0 ∧ p0 ≤ 2147483647) (σ : ZS) (hI : Inv σ) (hf : ∀ t i k j, t < 35 → σ t i k j = σ0 t i k j)  : CT xs 2 88 [av 0 0 0, iv p0] σ (fun v σ' => ∃ y, v = some (iv y) ∧ (y = -1) ∧ IF MN σ σ' ∧ (True)) := by
  refine G_ct (J := (fun σ' => IF MN σ σ' ∧ True)) (L := [(0, av 0 0 0), (1, iv p0)]) (nL := 2) rfl rfl rfl ⟨IF.rf hI, trivial⟩ ?_
  refine T_ld zk_88_0 rfl rfl rfl (pc' := 1) rfl ?_
  refine T_calli (K := fun y1 σ' => ((y1 = 0 ∧ (p0 < 0 ∨ 7 < p0)) ∨ (y1 = 1 ∧ 0 ≤ p0 ∧ p0 ≤ 7)) ∧ (fun σ' => IF MN σ σ' ∧ True) σ') (r := []) zk_88_1 rfl rfl rfl rfl rfl rfl (Or.inl (Or.inl rfl)) (fun σ' h => (c_116 p0 (by omega) σ' h.1.1 ).le (Nat.le_of_ble_eq_true rfl) (fun v σ2 ⟨y, h1, h2, h3, h4⟩ => ⟨y, h1, h2, h.1.tr h3 MN_sub, trivial⟩)) (pc' := 4) rfl (fun y1 => ?_)
  refine G_ex (fun hy1 => ?_)
  refine T_if_eq zk_88_4 (by omega) (pc' := 7) rfl (fun h2 => ?_) (fun h3 => ?_)
  ·
    refine T_op zk_88_19 rfl X_ic (pc' := 20) rfl ?_
    exact T_iret zk_88_20 rfl (fun σ' h => ⟨_, rfl, (by omega), h.1, trivial⟩)
  ·
    refine T_ld zk_88_7 rfl rfl rfl (pc' := 8) rfl ?_
    refine T_getR (t' := 27) (i' := 0) (k' := 0) zk_88_8 rfl rfl rfl vd_0 (pc' := 11) rfl ?_
    refine T_ld zk_88_11 rfl rfl rfl (pc' := 12) rfl ?_
    refine G_aald (t' := 33) (im := 0) (i' := 0) (ln := 8) zk_88_12 rfl rfl rfl vd_27 (by omega) (by omega) (by omega) (pc' := 13) rfl ?_
    refine G_getX (w := 0) zk_88_13 rfl (vd_33 (by omega)) (fun σ' h => (h.1.2 _ _ _ _ (fun q => q)).trans (hf _ _ _ _ (by decide))) (pc' := 16) rfl ?_
    refine T_if_ne zk_88_16 (by omega) (pc' := 19) rfl (fun h4 => ?_) (fun h5 => ?_)
    · exfalso; omega
    ·
      refine T_op zk_88_19 rfl X_ic (pc' := 20) rfl ?_
      exact T_iret zk_88_20 rfl (fun σ' h => ⟨_, rfl, (by omega), h.1, trivial⟩)
/-- W.harm -/
theorem x_harm {xs : Nat × (Nat → Int32)} (p0 : Int) (p1 : Int) (h0 : -2147483648 ≤ p0 ∧ p0 ≤ 2147483647) (h1 : -2147483648 ≤ p1 ∧ p1 ≤ 2147483647) (σ : ZS) (hI : Inv σ) (hf : ∀ t i k j, t < 35 → σ t i k j = σ0 t i k j)  : CT xs 3 89 [av 0 0 0, iv p0, iv p1] σ (fun v σ' => ∃ y, v = some (iv y) ∧ ((y = -1 ∧ (¬ (0 ≤ p0 ∧ p0 ≤ 7) ∨ ¬ (0 ≤ p1 ∧ p1 ≤ 2))) ∨ (y = -3 ∧ ¬ (¬ (0 ≤ p0 ∧ p0 ≤ 7) ∨ ¬ (0 ≤ p1 ∧ p1 ≤ 2)))) ∧ IF (MT 28 28 28 28) σ σ' ∧ (True)) := by
  refine G_ct (J := (fun σ' => IF (MT 28 28 28 28) σ σ' ∧ True)) (L := [(0, av 0 0 0), (1, iv p0), (2, iv p1)]) (nL := 4) rfl rfl rfl ⟨IF.rf hI, trivial⟩ ?_
  refine T_ld zk_89_0 rfl rfl rfl (pc' := 1) rfl ?_
  refine T_calli (K := fun y1 σ' => ((y1 = 0 ∧ (p0 < 0 ∨ 7 < p0)) ∨ (y1 = 1 ∧ 0 ≤ p0 ∧ p0 ≤ 7)) ∧ (fun σ' => IF (MT 28 28 28 28) σ σ' ∧ True) σ') (r := []) zk_89_1 rfl rfl rfl rfl rfl rfl (Or.inl (Or.inl rfl)) (fun σ' h => (c_116 p0 (by omega) σ' h.1.1 ).le (Nat.le_of_ble_eq_true rfl) (fun v σ2 ⟨y, h1, h2, h3, h4⟩ => ⟨y, h1, h2, h.1.tr h3 MN_sub, trivial⟩)) (pc' := 4) rfl (fun y1 => ?_)
  refine G_ex (fun hy1 => ?_)
  refine T_if_eq zk_89_4 (by omega) (pc' := 7) rfl (fun h2 => ?_) (fun h3 => ?_)
  ·
    refine T_ld zk_89_16 rfl rfl rfl (pc' := 17) rfl ?_
    refine T_op zk_89_17 rfl X_ic (pc' := 18) rfl ?_
    refine T_calli (K := fun y4 σ' => (y4 = (-1)) ∧ (fun σ' => IF (MT 28 28 28 28) σ σ' ∧ True) σ') (r := []) zk_89_18 rfl rfl rfl rfl rfl rfl (Or.inr ⟨_, _, _, _, rfl, vd_0, rfl⟩) (fun σ' h => (c_113 ((-1)) (by omega) σ' h.1.1 ).le (Nat.le_of_ble_eq_true rfl) (fun v σ2 ⟨y, h1, h2, h3, h4⟩ => ⟨y, h1, h2, h.1.tr h3 (fun _ _ _ _ h => h), trivial⟩)) (pc' := 21) rfl (fun y4 => ?_)
    refine G_ex (fun hy4 => ?_)
    obtain rfl : y4 = (-1) := by omega
    exact T_iret zk_89_21 rfl (fun σ' h => ⟨_, rfl, (by omega), h.1, trivial⟩)
  ·
    refine T_ld zk_89_7 rfl rfl rfl (pc' := 8) rfl ?_
    refine T_op zk_89_8 rfl X_ic (pc' := 9) rfl ?_
    refine T_op zk_89_9 rfl X_ic (pc' := 10) rfl ?_
    refine T_calli (K := fun y5 σ' => ((y5 = 0 ∧ (p1 < 0 ∨ 2 < p1)) ∨ (y5 = 1 ∧ 0 ≤ p1 ∧ p1 ≤ 2)) ∧ (fun σ' => IF (MT 28 28 28 28) σ σ' ∧ True) σ') (r := []) zk_89_10 rfl rfl rfl rfl rfl rfl (Or.inl (Or.inl rfl)) (fun σ' h => (c_114 p1 0 2 (by omega) (by omega) (by omega) σ' h.1.1 ).le (Nat.le_of_ble_eq_true rfl) (fun v σ2 ⟨y, h1, h2, h3, h4⟩ => ⟨y, h1, h2, h.1.tr h3 MN_sub, trivial⟩)) (pc' := 13) rfl (fun y5 => ?_)
    refine G_ex (fun hy5 => ?_)
    refine T_if_ne zk_89_13 (by omega) (pc' := 16) rfl (fun h6 => ?_) (fun h7 => ?_)
    ·
      refine T_ld zk_89_22 rfl rfl rfl (pc' := 23) rfl ?_
      refine T_getR (t' := 27) (i' := 0) (k' := 0) zk_89_23 rfl rfl rfl vd_0 (pc' := 26) rfl ?_
      refine T_ld zk_89_26 rfl rfl rfl (pc' := 27) rfl ?_
      refine G_aald (t' := 33) (im := 0) (i' := 0) (ln := 8) zk_89_27 rfl rfl rfl vd_27 (by omega) (by omega) (by omega) (pc' := 28) rfl ?_
      refine G_getX (w := 0) zk_89_28 rfl (vd_33 (by omega)) (fun σ' h => (h.1.2 _ _ _ _ (by unfold MT; omega)).trans (hf _ _ _ _ (by decide))) (pc' := 31) rfl ?_
      refine T_op zk_89_31 rfl X_ic (pc' := 32) rfl ?_
      refine T_icmp_ne zk_89_32 (by omega) (by omega) (pc' := 35) rfl (fun h8 => ?_) (fun h9 => ?_)
      ·
        refine T_ld zk_89_42 rfl rfl rfl (pc' := 43) rfl ?_
        refine T_getR (t' := 27) (i' := 0) (k' := 0) zk_89_43 rfl rfl rfl vd_0 (pc' := 46) rfl ?_
        refine T_ld zk_89_46 rfl rfl rfl (pc' := 47) rfl ?_
        refine G_aald (t' := 33) (im := 0) (i' := 0) (ln := 8) zk_89_47 rfl rfl rfl vd_27 (by omega) (by omega) (by omega) (pc' := 48) rfl ?_
        refine G_getX (w := 0) zk_89_48 rfl (vd_33 (by omega)) (fun σ' h => (h.1.2 _ _ _ _ (by unfold MT; omega)).trans (hf _ _ _ _ (by decide))) (pc' := 51) rfl ?_
        refine T_if_eq zk_89_51 (by omega) (pc' := 54) rfl (fun h10 => ?_) (fun h11 => ?_)
        ·
          refine T_ld zk_89_70 rfl rfl rfl (pc' := 71) rfl ?_
          refine T_op zk_89_71 rfl (X_bi (v := -3) (by decide)) (pc' := 73) rfl ?_
          refine T_calli (K := fun y12 σ' => (y12 = (-3)) ∧ (fun σ' => IF (MT 28 28 28 28) σ σ' ∧ True) σ') (r := []) zk_89_73 rfl rfl rfl rfl rfl rfl (Or.inr ⟨_, _, _, _, rfl, vd_0, rfl⟩) (fun σ' h => (c_113 ((-3)) (by omega) σ' h.1.1 ).le (Nat.le_of_ble_eq_true rfl) (fun v σ2 ⟨y, h1, h2, h3, h4⟩ => ⟨y, h1, h2, h.1.tr h3 (fun _ _ _ _ h => h), trivial⟩)) (pc' := 76) rfl (fun y12 => ?_)
          refine G_ex (fun hy12 => ?_)
          obtain rfl : y12 = (-3) := by omega
          exact T_iret zk_89_76 rfl (fun σ' h => ⟨_, rfl, (by omega), h.1, trivial⟩)
        · exfalso; omega
      · exfalso; omega
    ·
      refine T_ld zk_89_16 rfl rfl rfl (pc' := 17) rfl ?_
      refine T_op zk_89_17 rfl X_ic (pc' := 18) rfl ?_
      refine T_calli (K := fun y13 σ' => (y13 = (-1)) ∧ (fun σ' => IF (MT 28 28 28 28) σ σ' ∧ True) σ') (r := []) zk_89_18 rfl rfl rfl rfl rfl rfl (Or.inr ⟨_, _, _, _, rfl, vd_0, rfl⟩) (fun σ' h => (c_113 ((-1)) (by omega) σ' h.1.1 ).le (Nat.le_of_ble_eq_true rfl) (fun v σ2 ⟨y, h1, h2, h3, h4⟩ => ⟨y, h1, h2, h.1.tr h3 (fun _ _ _ _ h => h), trivial⟩)) (pc' := 21) rfl (fun y13 => ?_)
      refine G_ex (fun hy13 => ?_)
      obtain rfl : y13 = (-1) := by omega
      exact T_iret zk_89_21 rfl (fun σ' h => ⟨_, rfl, (by omega), h.1, trivial⟩)
/-- W.sea -/
theorem x_sea {xs : Nat × (Nat → Int32)} (p0 : Int) (p1 : Int) (h0 : -2147483648 ≤ p0 ∧ p0 ≤ 2147483647) (h1 : 0 ≤ p1 ∧ p1 ≤ 1) (σ : ZS) (hI : Inv σ) (hf : ∀ t i k j, t < 35 → σ t i k j = σ0 t i k j)  : CT xs 3 90 [av 0 0 0, iv p0, iv p1] σ (fun v σ' => ∃ y, v = some (iv y) ∧ ((y = -1 ∧ (¬ (0 ≤ p0 ∧ p0 ≤ 7))) ∨ (y = -3 ∧ ¬ (¬ (0 ≤ p0 ∧ p0 ≤ 7)))) ∧ IF (MT 28 28 28 28) σ σ' ∧ (True)) := by
  refine G_ct (J := (fun σ' => IF (MT 28 28 28 28) σ σ' ∧ True)) (L := [(0, av 0 0 0), (1, iv p0), (2, iv p1)]) (nL := 4) rfl rfl rfl ⟨IF.rf hI, trivial⟩ ?_
  refine T_ld zk_90_0 rfl rfl rfl (pc' := 1) rfl ?_
  refine T_ld zk_90_1 rfl rfl rfl (pc' := 2) rfl ?_
  refine T_calli (K := fun y1 σ' => ((y1 = -1 ∧ (p0 < 0 ∨ 7 < p0)) ∨ (y1 = -3 ∧ 0 ≤ p0 ∧ p0 ≤ 7)) ∧ (fun σ' => IF (MT 28 28 28 28) σ σ' ∧ True) σ') (r := []) zk_90_2 rfl rfl rfl rfl rfl rfl (Or.inr ⟨_, _, _, _, rfl, vd_0, rfl⟩) (fun σ' h => (c_119e p0 (by omega) σ' h.1.1 ((h.1.2 _ _ _ _ (by unfold MT; omega)).trans (hf _ _ _ _ (by decide)))).le (Nat.le_of_ble_eq_true rfl) (fun v σ2 ⟨y, h1, h2, h3, h4⟩ => ⟨y, h1, h2, h.1.tr h3 MN_sub, trivial⟩)) (pc' := 5) rfl (fun y1 => ?_)
  refine G_ex (fun hy1 => ?_)
  refine T_st (L' := [(0, av 0 0 0), (1, iv p0), (2, iv p1), (3, iv y1)]) zk_90_5 (nL := 4) rfl rfl rfl rfl rfl (pc' := 6) rfl ?_
  refine T_ld zk_90_6 rfl rfl rfl (pc' := 7) rfl ?_
  refine T_if_eq zk_90_7 (by omega) (pc' := 10) rfl (fun h2 => ?_) (fun h3 => ?_)
  · exfalso; omega
  ·
    refine T_ld zk_90_10 rfl rfl rfl (pc' := 11) rfl ?_
    refine T_ld zk_90_11 rfl rfl rfl (pc' := 12) rfl ?_
    refine T_calli (K := fun y4 σ' => (y4 = y1) ∧ (fun σ' => IF (MT 28 28 28 28) σ σ' ∧ True) σ') (r := []) zk_90_12 rfl rfl rfl rfl rfl rfl (Or.inr ⟨_, _, _, _, rfl, vd_0, rfl⟩) (fun σ' h => (c_113 y1 (by omega) σ' h.1.1 ).le (Nat.le_of_ble_eq_true rfl) (fun v σ2 ⟨y, h1, h2, h3, h4⟩ => ⟨y, h1, h2, h.1.tr h3 (fun _ _ _ _ h => h), trivial⟩)) (pc' := 15) rfl (fun y4 => ?_)
    refine G_ex (fun hy4 => ?_)
    obtain rfl : y4 = y1 := by omega
    exact T_iret zk_90_15 rfl (fun σ' h => ⟨_, rfl, (by omega), h.1, trivial⟩)
/-- W.seaAt -/
theorem x_seaAt {xs : Nat × (Nat → Int32)} (p0 : Int) (p1 : Int) (h0 : -2147483648 ≤ p0 ∧ p0 ≤ 2147483647) (h1 : 0 ≤ p1 ∧ p1 ≤ 1) (σ : ZS) (hI : Inv σ) (hf : ∀ t i k j, t < 35 → σ t i k j = σ0 t i k j)  : CT xs 2 91 [av 0 0 0, iv p0, iv p1] σ (fun v σ' => ∃ y, v = some (iv y) ∧ ((y = 1000 ∧ (p0 < 0)) ∨ (y = 0 ∧ ¬ (p0 < 0))) ∧ IF MN σ σ' ∧ (True)) := by
  refine G_ct (J := (fun σ' => IF MN σ σ' ∧ True)) (L := [(0, av 0 0 0), (1, iv p0), (2, iv p1)]) (nL := 3) rfl rfl rfl ⟨IF.rf hI, trivial⟩ ?_
  refine T_ld zk_91_0 rfl rfl rfl (pc' := 1) rfl ?_
  refine T_if_ge zk_91_1 (by omega) (pc' := 4) rfl (fun h1 => ?_) (fun h2 => ?_)
  ·
    refine T_ld zk_91_10 rfl rfl rfl (pc' := 11) rfl ?_
    refine T_getR (t' := 1) (i' := 0) (k' := 0) zk_91_11 rfl rfl rfl vd_0 (pc' := 14) rfl ?_
    refine T_ld zk_91_14 rfl rfl rfl (pc' := 15) rfl ?_
    refine T_callr (t := 17) (i := 0) (k := (Int.toNat p1)) (J' := (fun σ' => IF MN σ σ' ∧ True)) (r := []) zk_91_15 rfl rfl rfl rfl rfl rfl (Or.inr ⟨_, _, _, _, rfl, (vd_1 (by omega)), rfl⟩) (fun σ' h => (c_10 0 p1 (by omega) (by omega) σ' h.1.1 ).le (Nat.le_of_ble_eq_true rfl) (fun v σ2 ⟨h1, h3, h4⟩ => ⟨h1, h.1.tr h3 MN_sub, trivial⟩)) (pc' := 18) rfl ?_
    refine T_ld zk_91_18 rfl rfl rfl (pc' := 19) rfl ?_
    refine T_calli (K := fun y4 σ' => (y4 = 0) ∧ (fun σ' => IF MN σ σ' ∧ True) σ') (r := []) zk_91_19 rfl rfl rfl rfl rfl rfl (Or.inr ⟨_, _, _, _, rfl, (vd_17 (by omega) (by omega)), rfl⟩) (fun σ' h => (c_73e 0 (Int.toNat p1) p0 (by omega) (by omega) (by omega) σ' h.1.1 ((h.1.2 _ _ _ _ (fun q => q)).trans (hf _ _ _ _ (by decide)))).le (Nat.le_of_ble_eq_true rfl) (fun v σ2 ⟨y, h1, h2, h3, h4⟩ => ⟨y, h1, h2, h.1.tr h3 MN_sub, trivial⟩)) (pc' := 22) rfl (fun y4 => ?_)
    refine G_ex (fun hy4 => ?_)
    obtain rfl : y4 = 0 := by omega
    exact T_iret zk_91_22 rfl (fun σ' h => ⟨_, rfl, (by omega), h.1, trivial⟩)
  ·
    refine T_op zk_91_4 rfl (X_si (v := 1000) (by decide)) (pc' := 7) rfl ?_
    refine T_goto zk_91_7 ?_
    exact T_iret zk_91_22 rfl (fun σ' h => ⟨_, rfl, (by omega), h.1, trivial⟩)
/-- W.rule -/
theorem x_rule {xs : Nat × (Nat → Int32)} (p0 : Int) (p1 : Int) (h0 : -2147483648 ≤ p0 ∧ p0 ≤ 2147483647) (h1 : -2147483648 ≤ p1 ∧ p1 ≤ 2147483647) (σ : ZS) (hI : Inv σ) (hf : ∀ t i k j, t < 35 → σ t i k j = σ0 t i k j)  : CT xs 3 92 [av 0 0 0, iv p0, iv p1] σ (fun v σ' => ∃ y, v = some (iv y) ∧ ((y = 0 ∧ (p0 = 0 ∧ 0 ≤ p1 ∧ p1 ≤ 99)) ∨ (y = 9 ∧ ¬ (p0 = 0 ∧ 0 ≤ p1 ∧ p1 ≤ 99) ∧ (p0 = 1 ∧ 1 ≤ p1 ∧ p1 ≤ 9)) ∨ (y = 0 ∧ ¬ (p0 = 0 ∧ 0 ≤ p1 ∧ p1 ≤ 99) ∧ ¬ (p0 = 1 ∧ 1 ≤ p1 ∧ p1 ≤ 9) ∧ (p0 = 2 ∧ 0 ≤ p1 ∧ p1 ≤ 9999)) ∨ (y = -6 ∧ ¬ (p0 = 0 ∧ 0 ≤ p1 ∧ p1 ≤ 99) ∧ ¬ (p0 = 1 ∧ 1 ≤ p1 ∧ p1 ≤ 9) ∧ ¬ (p0 = 2 ∧ 0 ≤ p1 ∧ p1 ≤ 9999))) ∧ IF (M1 28 28) σ σ' ∧ (True)) := by
  refine G_ct (J := (fun σ' => IF (M1 28 28) σ σ' ∧ σ' 1 0 0 10 = 0 ∧ σ' 1 0 0 11 = 9 ∧ σ' 1 0 0 12 = 0 ∧ True)) (L := [(0, av 0 0 0), (1, iv p0), (2, iv p1)]) (nL := 4) rfl rfl rfl ⟨IF.rf hI, hf _ _ _ _ (by decide), hf _ _ _ _ (by decide), hf _ _ _ _ (by decide), trivial⟩ ?_
  refine T_ld zk_92_0 rfl rfl rfl (pc' := 1) rfl ?_
  refine T_if_ne zk_92_1 (by omega) (pc' := 4) rfl (fun h1 => ?_) (fun h2 => ?_)
  ·
    refine T_ld zk_92_33 rfl rfl rfl (pc' := 34) rfl ?_
    refine T_op zk_92_34 rfl X_ic (pc' := 35) rfl ?_
    refine T_icmp_ne zk_92_35 (by omega) (by omega) (pc' := 38) rfl (fun h3 => ?_) (fun h4 => ?_)
    ·
      refine T_ld zk_92_67 rfl rfl rfl (pc' := 68) rfl ?_
      refine T_op zk_92_68 rfl X_ic (pc' := 69) rfl ?_
      refine T_icmp_ne zk_92_69 (by omega) (by omega) (pc' := 72) rfl (fun h5 => ?_) (fun h6 => ?_)
      ·
        refine T_ld zk_92_102 rfl rfl rfl (pc' := 103) rfl ?_
        refine T_op zk_92_103 rfl (X_bi (v := -6) (by decide)) (pc' := 105) rfl ?_
        refine T_calli (K := fun y7 σ' => (y7 = (-6)) ∧ (fun σ' => IF (M1 28 28) σ σ' ∧ σ' 1 0 0 10 = 0 ∧ σ' 1 0 0 11 = 9 ∧ σ' 1 0 0 12 = 0 ∧ True) σ') (r := []) zk_92_105 rfl rfl rfl rfl rfl rfl (Or.inr ⟨_, _, _, _, rfl, vd_0, rfl⟩) (fun σ' h => (c_113 ((-6)) (by omega) σ' h.1.1 ).le (Nat.le_of_ble_eq_true rfl) (fun v σ2 ⟨y, h1, h2, h3, h4⟩ => ⟨y, h1, h2, h.1.tr h3 (fun t i k j h => by unfold MT at h; unfold M1; omega), (h3.2 _ _ _ _ (by unfold MT; omega)).trans (h.2.1), (h3.2 _ _ _ _ (by unfold MT; omega)).trans (h.2.2.1), (h3.2 _ _ _ _ (by unfold MT; omega)).trans (h.2.2.2.1), trivial⟩)) (pc' := 108) rfl (fun y7 => ?_)
        refine G_ex (fun hy7 => ?_)
        obtain rfl : y7 = (-6) := by omega
        exact T_iret zk_92_108 rfl (fun σ' h => ⟨_, rfl, (by omega), h.1, trivial⟩)
      ·
        refine T_ld zk_92_72 rfl rfl rfl (pc' := 73) rfl ?_
        refine T_op zk_92_73 rfl X_ic (pc' := 74) rfl ?_
        refine T_op zk_92_74 rfl (X_si (v := 9999) (by decide)) (pc' := 77) rfl ?_
        refine T_calli (K := fun y8 σ' => ((y8 = 0 ∧ (p1 < 0 ∨ 9999 < p1)) ∨ (y8 = 1 ∧ 0 ≤ p1 ∧ p1 ≤ 9999)) ∧ (fun σ' => IF (M1 28 28) σ σ' ∧ σ' 1 0 0 10 = 0 ∧ σ' 1 0 0 11 = 9 ∧ σ' 1 0 0 12 = 0 ∧ True) σ') (r := []) zk_92_77 rfl rfl rfl rfl rfl rfl (Or.inl (Or.inl rfl)) (fun σ' h => (c_114 p1 0 9999 (by omega) (by omega) (by omega) σ' h.1.1 ).le (Nat.le_of_ble_eq_true rfl) (fun v σ2 ⟨y, h1, h2, h3, h4⟩ => ⟨y, h1, h2, h.1.tr h3 MN_sub, (h3.2 _ _ _ _ (fun q => q)).trans (h.2.1), (h3.2 _ _ _ _ (fun q => q)).trans (h.2.2.1), (h3.2 _ _ _ _ (fun q => q)).trans (h.2.2.2.1), trivial⟩)) (pc' := 80) rfl (fun y8 => ?_)
        refine G_ex (fun hy8 => ?_)
        refine T_if_eq zk_92_80 (by omega) (pc' := 83) rfl (fun h9 => ?_) (fun h10 => ?_)
        ·
          refine T_ld zk_92_102 rfl rfl rfl (pc' := 103) rfl ?_
          refine T_op zk_92_103 rfl (X_bi (v := -6) (by decide)) (pc' := 105) rfl ?_
          refine T_calli (K := fun y11 σ' => (y11 = (-6)) ∧ (fun σ' => IF (M1 28 28) σ σ' ∧ σ' 1 0 0 10 = 0 ∧ σ' 1 0 0 11 = 9 ∧ σ' 1 0 0 12 = 0 ∧ True) σ') (r := []) zk_92_105 rfl rfl rfl rfl rfl rfl (Or.inr ⟨_, _, _, _, rfl, vd_0, rfl⟩) (fun σ' h => (c_113 ((-6)) (by omega) σ' h.1.1 ).le (Nat.le_of_ble_eq_true rfl) (fun v σ2 ⟨y, h1, h2, h3, h4⟩ => ⟨y, h1, h2, h.1.tr h3 (fun t i k j h => by unfold MT at h; unfold M1; omega), (h3.2 _ _ _ _ (by unfold MT; omega)).trans (h.2.1), (h3.2 _ _ _ _ (by unfold MT; omega)).trans (h.2.2.1), (h3.2 _ _ _ _ (by unfold MT; omega)).trans (h.2.2.2.1), trivial⟩)) (pc' := 108) rfl (fun y11 => ?_)
          refine G_ex (fun hy11 => ?_)
          obtain rfl : y11 = (-6) := by omega
          exact T_iret zk_92_108 rfl (fun σ' h => ⟨_, rfl, (by omega), h.1, trivial⟩)
        ·
          refine T_ld zk_92_83 rfl rfl rfl (pc' := 84) rfl ?_
          refine T_getR (t' := 1) (i' := 0) (k' := 0) zk_92_84 rfl rfl rfl vd_0 (pc' := 87) rfl ?_
          refine G_getX (w := 0) zk_92_87 rfl (vd_1 (by omega)) (fun σ' h => h.2.2.2.1) (pc' := 90) rfl ?_
          refine T_st (L' := [(0, av 0 0 0), (1, iv p0), (2, iv p1), (3, iv 0)]) zk_92_90 (nL := 4) rfl rfl rfl rfl rfl (pc' := 91) rfl ?_
          refine T_ld zk_92_91 rfl rfl rfl (pc' := 92) rfl ?_
          refine T_getR (t' := 1) (i' := 0) (k' := 0) zk_92_92 rfl rfl rfl vd_0 (pc' := 95) rfl ?_
          refine T_ld zk_92_95 rfl rfl rfl (pc' := 96) rfl ?_
          refine T_putf (J' := (fun σ' => IF (M1 28 28) σ σ' ∧ σ' 1 0 0 10 = 0 ∧ σ' 1 0 0 11 = 9 ∧ σ' 1 0 0 12 = p1 ∧ True)) zk_92_96 rfl rfl (vd_1 (by omega)) (fun σ' h => ⟨h.1.up (by simp only [rgP] <;> omega) (by unfold M1; omega), (up_ne (by omega)).trans (h.2.1), (up_ne (by omega)).trans (h.2.2.1), up_eq, trivial⟩) (pc' := 99) rfl ?_
          refine T_goto zk_92_99 ?_
          refine T_ld zk_92_109 rfl rfl rfl (pc' := 110) rfl ?_
          exact T_iret zk_92_110 rfl (fun σ' h => ⟨_, rfl, (by omega), h.1, trivial⟩)
    ·
      refine T_ld zk_92_38 rfl rfl rfl (pc' := 39) rfl ?_
      refine T_op zk_92_39 rfl X_ic (pc' := 40) rfl ?_
      refine T_op zk_92_40 rfl (X_bi (v := 9) (by decide)) (pc' := 42) rfl ?_
      refine T_calli (K := fun y12 σ' => ((y12 = 0 ∧ (p1 < 1 ∨ 9 < p1)) ∨ (y12 = 1 ∧ 1 ≤ p1 ∧ p1 ≤ 9)) ∧ (fun σ' => IF (M1 28 28) σ σ' ∧ σ' 1 0 0 10 = 0 ∧ σ' 1 0 0 11 = 9 ∧ σ' 1 0 0 12 = 0 ∧ True) σ') (r := []) zk_92_42 rfl rfl rfl rfl rfl rfl (Or.inl (Or.inl rfl)) (fun σ' h => (c_114 p1 1 9 (by omega) (by omega) (by omega) σ' h.1.1 ).le (Nat.le_of_ble_eq_true rfl) (fun v σ2 ⟨y, h1, h2, h3, h4⟩ => ⟨y, h1, h2, h.1.tr h3 MN_sub, (h3.2 _ _ _ _ (fun q => q)).trans (h.2.1), (h3.2 _ _ _ _ (fun q => q)).trans (h.2.2.1), (h3.2 _ _ _ _ (fun q => q)).trans (h.2.2.2.1), trivial⟩)) (pc' := 45) rfl (fun y12 => ?_)
      refine G_ex (fun hy12 => ?_)
      refine T_if_eq zk_92_45 (by omega) (pc' := 48) rfl (fun h13 => ?_) (fun h14 => ?_)
      ·
        refine T_ld zk_92_67 rfl rfl rfl (pc' := 68) rfl ?_
        refine T_op zk_92_68 rfl X_ic (pc' := 69) rfl ?_
        refine T_icmp_ne zk_92_69 (by omega) (by omega) (pc' := 72) rfl (fun h15 => ?_) (fun h16 => ?_)
        ·
          refine T_ld zk_92_102 rfl rfl rfl (pc' := 103) rfl ?_
          refine T_op zk_92_103 rfl (X_bi (v := -6) (by decide)) (pc' := 105) rfl ?_
          refine T_calli (K := fun y17 σ' => (y17 = (-6)) ∧ (fun σ' => IF (M1 28 28) σ σ' ∧ σ' 1 0 0 10 = 0 ∧ σ' 1 0 0 11 = 9 ∧ σ' 1 0 0 12 = 0 ∧ True) σ') (r := []) zk_92_105 rfl rfl rfl rfl rfl rfl (Or.inr ⟨_, _, _, _, rfl, vd_0, rfl⟩) (fun σ' h => (c_113 ((-6)) (by omega) σ' h.1.1 ).le (Nat.le_of_ble_eq_true rfl) (fun v σ2 ⟨y, h1, h2, h3, h4⟩ => ⟨y, h1, h2, h.1.tr h3 (fun t i k j h => by unfold MT at h; unfold M1; omega), (h3.2 _ _ _ _ (by unfold MT; omega)).trans (h.2.1), (h3.2 _ _ _ _ (by unfold MT; omega)).trans (h.2.2.1), (h3.2 _ _ _ _ (by unfold MT; omega)).trans (h.2.2.2.1), trivial⟩)) (pc' := 108) rfl (fun y17 => ?_)
          refine G_ex (fun hy17 => ?_)
          obtain rfl : y17 = (-6) := by omega
          exact T_iret zk_92_108 rfl (fun σ' h => ⟨_, rfl, (by omega), h.1, trivial⟩)
        · exfalso; omega
      ·
        refine T_ld zk_92_48 rfl rfl rfl (pc' := 49) rfl ?_
        refine T_getR (t' := 1) (i' := 0) (k' := 0) zk_92_49 rfl rfl rfl vd_0 (pc' := 52) rfl ?_
        refine G_getX (w := 9) zk_92_52 rfl (vd_1 (by omega)) (fun σ' h => h.2.2.1) (pc' := 55) rfl ?_
        refine T_st (L' := [(0, av 0 0 0), (1, iv p0), (2, iv p1), (3, iv 9)]) zk_92_55 (nL := 4) rfl rfl rfl rfl rfl (pc' := 56) rfl ?_
        refine T_ld zk_92_56 rfl rfl rfl (pc' := 57) rfl ?_
        refine T_getR (t' := 1) (i' := 0) (k' := 0) zk_92_57 rfl rfl rfl vd_0 (pc' := 60) rfl ?_
        refine T_ld zk_92_60 rfl rfl rfl (pc' := 61) rfl ?_
        refine T_putf (J' := (fun σ' => IF (M1 28 28) σ σ' ∧ σ' 1 0 0 10 = 0 ∧ σ' 1 0 0 12 = 0 ∧ σ' 1 0 0 11 = p1 ∧ True)) zk_92_61 rfl rfl (vd_1 (by omega)) (fun σ' h => ⟨h.1.up (by simp only [rgP] <;> omega) (by unfold M1; omega), (up_ne (by omega)).trans (h.2.1), (up_ne (by omega)).trans (h.2.2.2.1), up_eq, trivial⟩) (pc' := 64) rfl ?_
        refine T_goto zk_92_64 ?_
        refine T_ld zk_92_109 rfl rfl rfl (pc' := 110) rfl ?_
        exact T_iret zk_92_110 rfl (fun σ' h => ⟨_, rfl, (by omega), h.1, trivial⟩)
  ·
    refine T_ld zk_92_4 rfl rfl rfl (pc' := 5) rfl ?_
    refine T_op zk_92_5 rfl X_ic (pc' := 6) rfl ?_
    refine T_op zk_92_6 rfl (X_bi (v := 99) (by decide)) (pc' := 8) rfl ?_
    refine T_calli (K := fun y18 σ' => ((y18 = 0 ∧ (p1 < 0 ∨ 99 < p1)) ∨ (y18 = 1 ∧ 0 ≤ p1 ∧ p1 ≤ 99)) ∧ (fun σ' => IF (M1 28 28) σ σ' ∧ σ' 1 0 0 10 = 0 ∧ σ' 1 0 0 11 = 9 ∧ σ' 1 0 0 12 = 0 ∧ True) σ') (r := []) zk_92_8 rfl rfl rfl rfl rfl rfl (Or.inl (Or.inl rfl)) (fun σ' h => (c_114 p1 0 99 (by omega) (by omega) (by omega) σ' h.1.1 ).le (Nat.le_of_ble_eq_true rfl) (fun v σ2 ⟨y, h1, h2, h3, h4⟩ => ⟨y, h1, h2, h.1.tr h3 MN_sub, (h3.2 _ _ _ _ (fun q => q)).trans (h.2.1), (h3.2 _ _ _ _ (fun q => q)).trans (h.2.2.1), (h3.2 _ _ _ _ (fun q => q)).trans (h.2.2.2.1), trivial⟩)) (pc' := 11) rfl (fun y18 => ?_)
    refine G_ex (fun hy18 => ?_)
    refine T_if_eq zk_92_11 (by omega) (pc' := 14) rfl (fun h19 => ?_) (fun h20 => ?_)
    ·
      refine T_ld zk_92_33 rfl rfl rfl (pc' := 34) rfl ?_
      refine T_op zk_92_34 rfl X_ic (pc' := 35) rfl ?_
      refine T_icmp_ne zk_92_35 (by omega) (by omega) (pc' := 38) rfl (fun h21 => ?_) (fun h22 => ?_)
      ·
        refine T_ld zk_92_67 rfl rfl rfl (pc' := 68) rfl ?_
        refine T_op zk_92_68 rfl X_ic (pc' := 69) rfl ?_
        refine T_icmp_ne zk_92_69 (by omega) (by omega) (pc' := 72) rfl (fun h23 => ?_) (fun h24 => ?_)
        ·
          refine T_ld zk_92_102 rfl rfl rfl (pc' := 103) rfl ?_
          refine T_op zk_92_103 rfl (X_bi (v := -6) (by decide)) (pc' := 105) rfl ?_
          refine T_calli (K := fun y25 σ' => (y25 = (-6)) ∧ (fun σ' => IF (M1 28 28) σ σ' ∧ σ' 1 0 0 10 = 0 ∧ σ' 1 0 0 11 = 9 ∧ σ' 1 0 0 12 = 0 ∧ True) σ') (r := []) zk_92_105 rfl rfl rfl rfl rfl rfl (Or.inr ⟨_, _, _, _, rfl, vd_0, rfl⟩) (fun σ' h => (c_113 ((-6)) (by omega) σ' h.1.1 ).le (Nat.le_of_ble_eq_true rfl) (fun v σ2 ⟨y, h1, h2, h3, h4⟩ => ⟨y, h1, h2, h.1.tr h3 (fun t i k j h => by unfold MT at h; unfold M1; omega), (h3.2 _ _ _ _ (by unfold MT; omega)).trans (h.2.1), (h3.2 _ _ _ _ (by unfold MT; omega)).trans (h.2.2.1), (h3.2 _ _ _ _ (by unfold MT; omega)).trans (h.2.2.2.1), trivial⟩)) (pc' := 108) rfl (fun y25 => ?_)
          refine G_ex (fun hy25 => ?_)
          obtain rfl : y25 = (-6) := by omega
          exact T_iret zk_92_108 rfl (fun σ' h => ⟨_, rfl, (by omega), h.1, trivial⟩)
        · exfalso; omega
      · exfalso; omega
    ·
      refine T_ld zk_92_14 rfl rfl rfl (pc' := 15) rfl ?_
      refine T_getR (t' := 1) (i' := 0) (k' := 0) zk_92_15 rfl rfl rfl vd_0 (pc' := 18) rfl ?_
      refine G_getX (w := 0) zk_92_18 rfl (vd_1 (by omega)) (fun σ' h => h.2.1) (pc' := 21) rfl ?_
      refine T_st (L' := [(0, av 0 0 0), (1, iv p0), (2, iv p1), (3, iv 0)]) zk_92_21 (nL := 4) rfl rfl rfl rfl rfl (pc' := 22) rfl ?_
      refine T_ld zk_92_22 rfl rfl rfl (pc' := 23) rfl ?_
      refine T_getR (t' := 1) (i' := 0) (k' := 0) zk_92_23 rfl rfl rfl vd_0 (pc' := 26) rfl ?_
      refine T_ld zk_92_26 rfl rfl rfl (pc' := 27) rfl ?_
      refine T_putf (J' := (fun σ' => IF (M1 28 28) σ σ' ∧ σ' 1 0 0 11 = 9 ∧ σ' 1 0 0 12 = 0 ∧ σ' 1 0 0 10 = p1 ∧ True)) zk_92_27 rfl rfl (vd_1 (by omega)) (fun σ' h => ⟨h.1.up (by simp only [rgP] <;> omega) (by unfold M1; omega), (up_ne (by omega)).trans (h.2.2.1), (up_ne (by omega)).trans (h.2.2.2.1), up_eq, trivial⟩) (pc' := 30) rfl ?_
      refine T_goto zk_92_30 ?_
      refine T_ld zk_92_109 rfl rfl rfl (pc' := 110) rfl ?_
      exact T_iret zk_92_110 rfl (fun σ' h => ⟨_, rfl, (by omega), h.1, trivial⟩)
/-- W.law -/
theorem x_law {xs : Nat × (Nat → Int32)} (p0 : Int) (h0 : -2147483648 ≤ p0 ∧ p0 ≤ 2147483647) (σ : ZS) (hI : Inv σ) (hf : ∀ t i k j, t < 35 → σ t i k j = σ0 t i k j)  : CT xs 3 93 [av 0 0 0, iv p0] σ (fun v σ' => ∃ y, v = some (iv y) ∧ ((y = -1 ∧ (¬ (0 ≤ p0 ∧ p0 ≤ 7))) ∨ (y = -3 ∧ ¬ (¬ (0 ≤ p0 ∧ p0 ≤ 7)))) ∧ IF (MT 28 28 28 28) σ σ' ∧ (True)) := by
  refine G_ct (J := (fun σ' => IF (MT 28 28 28 28) σ σ' ∧ True)) (L := [(0, av 0 0 0), (1, iv p0)]) (nL := 3) rfl rfl rfl ⟨IF.rf hI, trivial⟩ ?_
  refine T_ld zk_93_0 rfl rfl rfl (pc' := 1) rfl ?_
  refine T_ld zk_93_1 rfl rfl rfl (pc' := 2) rfl ?_
  refine T_calli (K := fun y1 σ' => ((y1 = -1 ∧ (p0 < 0 ∨ 7 < p0)) ∨ (y1 = -3 ∧ 0 ≤ p0 ∧ p0 ≤ 7)) ∧ (fun σ' => IF (MT 28 28 28 28) σ σ' ∧ True) σ') (r := []) zk_93_2 rfl rfl rfl rfl rfl rfl (Or.inr ⟨_, _, _, _, rfl, vd_0, rfl⟩) (fun σ' h => (c_119e p0 (by omega) σ' h.1.1 ((h.1.2 _ _ _ _ (by unfold MT; omega)).trans (hf _ _ _ _ (by decide)))).le (Nat.le_of_ble_eq_true rfl) (fun v σ2 ⟨y, h1, h2, h3, h4⟩ => ⟨y, h1, h2, h.1.tr h3 MN_sub, trivial⟩)) (pc' := 5) rfl (fun y1 => ?_)
  refine G_ex (fun hy1 => ?_)
  refine T_st (L' := [(0, av 0 0 0), (1, iv p0), (2, iv y1)]) zk_93_5 (nL := 3) rfl rfl rfl rfl rfl (pc' := 6) rfl ?_
  refine T_ld zk_93_6 rfl rfl rfl (pc' := 7) rfl ?_
  refine T_if_eq zk_93_7 (by omega) (pc' := 10) rfl (fun h2 => ?_) (fun h3 => ?_)
  · exfalso; omega
  ·
    refine T_ld zk_93_10 rfl rfl rfl (pc' := 11) rfl ?_
    refine T_ld zk_93_11 rfl rfl rfl (pc' := 12) rfl ?_
    refine T_calli (K := fun y4 σ' => (y4 = y1) ∧ (fun σ' => IF (MT 28 28 28 28) σ σ' ∧ True) σ') (r := []) zk_93_12 rfl rfl rfl rfl rfl rfl (Or.inr ⟨_, _, _, _, rfl, vd_0, rfl⟩) (fun σ' h => (c_113 y1 (by omega) σ' h.1.1 ).le (Nat.le_of_ble_eq_true rfl) (fun v σ2 ⟨y, h1, h2, h3, h4⟩ => ⟨y, h1, h2, h.1.tr h3 (fun _ _ _ _ h => h), trivial⟩)) (pc' := 15) rfl (fun y4 => ?_)
    refine G_ex (fun hy4 => ?_)
    obtain rfl : y4 = y1 := by omega
    exact T_iret zk_93_15 rfl (fun σ' h => ⟨_, rfl, (by omega), h.1, trivial⟩)
/-- W.fault -/
theorem x_fault {xs : Nat × (Nat → Int32)}   (σ : ZS) (hI : Inv σ) (hf : ∀ t i k j, t < 35 → σ t i k j = σ0 t i k j)  : CT xs 1 94 [av 0 0 0] σ (fun v σ' => ∃ y, v = some (iv y) ∧ (y = -1) ∧ IF MN σ σ' ∧ (True)) := by
  refine G_ct (J := (fun σ' => IF MN σ σ' ∧ True)) (L := [(0, av 0 0 0)]) (nL := 1) rfl rfl rfl ⟨IF.rf hI, trivial⟩ ?_
  refine T_ld zk_94_0 rfl rfl rfl (pc' := 1) rfl ?_
  refine G_getX (w := (-1)) zk_94_1 rfl vd_0 (fun σ' h => (h.1.2 _ _ _ _ (fun q => q)).trans (hf _ _ _ _ (by decide))) (pc' := 4) rfl ?_
  exact T_iret zk_94_4 rfl (fun σ' h => ⟨_, rfl, (by omega), h.1, trivial⟩)
/-- W.force -/
theorem x_force {xs : Nat × (Nat → Int32)} (p0 : Int) (p1 : Int) (h0 : -2147483648 ≤ p0 ∧ p0 ≤ 2147483647) (h1 : 0 ≤ p1 ∧ p1 ≤ 1) (σ : ZS) (hI : Inv σ) (hf : ∀ t i k j, t < 35 → σ t i k j = σ0 t i k j)  : CT xs 3 95 [av 0 0 0, iv p0, iv p1] σ (fun v σ' => ∃ y, v = some (iv y) ∧ (y = -1) ∧ IF (MT 28 28 28 28) σ σ' ∧ (True)) := by
  refine G_ct (J := (fun σ' => IF (MT 28 28 28 28) σ σ' ∧ True)) (L := [(0, av 0 0 0), (1, iv p0), (2, iv p1)]) (nL := 4) rfl rfl rfl ⟨IF.rf hI, trivial⟩ ?_
  refine T_ld zk_95_0 rfl rfl rfl (pc' := 1) rfl ?_
  refine T_op zk_95_1 rfl X_ic (pc' := 2) rfl ?_
  refine T_ld zk_95_2 rfl rfl rfl (pc' := 3) rfl ?_
  refine T_getR (t' := 1) (i' := 0) (k' := 0) zk_95_3 rfl rfl rfl vd_0 (pc' := 6) rfl ?_
  refine G_getX (w := 0) zk_95_6 rfl (vd_1 (by omega)) (fun σ' h => (h.1.2 _ _ _ _ (by unfold MT; omega)).trans (hf _ _ _ _ (by decide))) (pc' := 9) rfl ?_
  refine T_op zk_95_9 rfl X_ic (pc' := 10) rfl ?_
  refine T_opc (w := (-1)) zk_95_10 rfl X_sub (by omega) (pc' := 11) rfl ?_
  refine T_calli (K := fun y1 σ' => ((y1 = 0 ∧ (p0 < 0 ∨ (-1) < p0)) ∨ (y1 = 1 ∧ 0 ≤ p0 ∧ p0 ≤ (-1))) ∧ (fun σ' => IF (MT 28 28 28 28) σ σ' ∧ True) σ') (r := []) zk_95_11 rfl rfl rfl rfl rfl rfl (Or.inl (Or.inl rfl)) (fun σ' h => (c_114 p0 0 ((-1)) (by omega) (by omega) (by omega) σ' h.1.1 ).le (Nat.le_of_ble_eq_true rfl) (fun v σ2 ⟨y, h1, h2, h3, h4⟩ => ⟨y, h1, h2, h.1.tr h3 MN_sub, trivial⟩)) (pc' := 14) rfl (fun y1 => ?_)
  refine G_ex (fun hy1 => ?_)
  refine T_if_ne zk_95_14 (by omega) (pc' := 17) rfl (fun h2 => ?_) (fun h3 => ?_)
  · exfalso; omega
  ·
    refine T_ld zk_95_17 rfl rfl rfl (pc' := 18) rfl ?_
    refine T_op zk_95_18 rfl X_ic (pc' := 19) rfl ?_
    refine T_calli (K := fun y4 σ' => (y4 = (-1)) ∧ (fun σ' => IF (MT 28 28 28 28) σ σ' ∧ True) σ') (r := []) zk_95_19 rfl rfl rfl rfl rfl rfl (Or.inr ⟨_, _, _, _, rfl, vd_0, rfl⟩) (fun σ' h => (c_113 ((-1)) (by omega) σ' h.1.1 ).le (Nat.le_of_ble_eq_true rfl) (fun v σ2 ⟨y, h1, h2, h3, h4⟩ => ⟨y, h1, h2, h.1.tr h3 (fun _ _ _ _ h => h), trivial⟩)) (pc' := 22) rfl (fun y4 => ?_)
    refine G_ex (fun hy4 => ?_)
    obtain rfl : y4 = (-1) := by omega
    exact T_iret zk_95_22 rfl (fun σ' h => ⟨_, rfl, (by omega), h.1, trivial⟩)
/-- W.says -/
theorem x_says {xs : Nat × (Nat → Int32)} (p0 : Int) (h0 : -2147483648 ≤ p0 ∧ p0 ≤ 2147483647) (σ : ZS) (hI : Inv σ) (hf : ∀ t i k j, t < 35 → σ t i k j = σ0 t i k j)  : CT xs 2 96 [av 0 0 0, iv p0] σ (fun v σ' => ∃ y, v = some (iv y) ∧ (y = -1) ∧ IF MN σ σ' ∧ (True)) := by
  refine G_ct (J := (fun σ' => IF MN σ σ' ∧ True)) (L := [(0, av 0 0 0), (1, iv p0)]) (nL := 2) rfl rfl rfl ⟨IF.rf hI, trivial⟩ ?_
  refine T_ld zk_96_0 rfl rfl rfl (pc' := 1) rfl ?_
  refine T_op zk_96_1 rfl X_ic (pc' := 2) rfl ?_
  refine T_ld zk_96_2 rfl rfl rfl (pc' := 3) rfl ?_
  refine T_getR (t' := 1) (i' := 0) (k' := 0) zk_96_3 rfl rfl rfl vd_0 (pc' := 6) rfl ?_
  refine G_getX (w := 0) zk_96_6 rfl (vd_1 (by omega)) (fun σ' h => (h.1.2 _ _ _ _ (fun q => q)).trans (hf _ _ _ _ (by decide))) (pc' := 9) rfl ?_
  refine T_op zk_96_9 rfl X_ic (pc' := 10) rfl ?_
  refine T_opc (w := (-1)) zk_96_10 rfl X_sub (by omega) (pc' := 11) rfl ?_
  refine T_calli (K := fun y1 σ' => ((y1 = 0 ∧ (p0 < 0 ∨ (-1) < p0)) ∨ (y1 = 1 ∧ 0 ≤ p0 ∧ p0 ≤ (-1))) ∧ (fun σ' => IF MN σ σ' ∧ True) σ') (r := []) zk_96_11 rfl rfl rfl rfl rfl rfl (Or.inl (Or.inl rfl)) (fun σ' h => (c_114 p0 0 ((-1)) (by omega) (by omega) (by omega) σ' h.1.1 ).le (Nat.le_of_ble_eq_true rfl) (fun v σ2 ⟨y, h1, h2, h3, h4⟩ => ⟨y, h1, h2, h.1.tr h3 MN_sub, trivial⟩)) (pc' := 14) rfl (fun y1 => ?_)
  refine G_ex (fun hy1 => ?_)
  refine T_if_ne zk_96_14 (by omega) (pc' := 17) rfl (fun h2 => ?_) (fun h3 => ?_)
  · exfalso; omega
  ·
    refine T_op zk_96_17 rfl X_ic (pc' := 18) rfl ?_
    exact T_iret zk_96_18 rfl (fun σ' h => ⟨_, rfl, (by omega), h.1, trivial⟩)
/-- W.best -/
theorem x_best {xs : Nat × (Nat → Int32)} (p0 : Int) (p1 : Int) (h0 : -2147483648 ≤ p0 ∧ p0 ≤ 2147483647) (h1 : -2147483648 ≤ p1 ∧ p1 ≤ 2147483647) (σ : ZS) (hI : Inv σ) (hf : ∀ t i k j, t < 35 → σ t i k j = σ0 t i k j)  : CT xs 4 97 [av 0 0 0, iv p0, iv p1] σ (fun v σ' => ∃ y, v = some (iv y) ∧ ((y = -6 ∧ (¬ (1 ≤ p0 ∧ p0 ≤ 48) ∨ ¬ (0 ≤ p1 ∧ p1 ≤ 1))) ∨ (y = 0 ∧ ¬ (¬ (1 ≤ p0 ∧ p0 ≤ 48) ∨ ¬ (0 ≤ p1 ∧ p1 ≤ 1)))) ∧ IF (MYR 2) σ σ' ∧ (True)) := by
  refine G_ct (J := (fun σ' => IF (MYR 2) σ σ' ∧ True)) (L := [(0, av 0 0 0), (1, iv p0), (2, iv p1)]) (nL := 7) rfl rfl rfl ⟨IF.rf hI, trivial⟩ ?_
  refine T_ld zk_97_0 rfl rfl rfl (pc' := 1) rfl ?_
  refine T_op zk_97_1 rfl X_ic (pc' := 2) rfl ?_
  refine T_op zk_97_2 rfl (X_bi (v := 48) (by decide)) (pc' := 4) rfl ?_
  refine T_calli (K := fun y1 σ' => ((y1 = 0 ∧ (p0 < 1 ∨ 48 < p0)) ∨ (y1 = 1 ∧ 1 ≤ p0 ∧ p0 ≤ 48)) ∧ (fun σ' => IF (MYR 2) σ σ' ∧ True) σ') (r := []) zk_97_4 rfl rfl rfl rfl rfl rfl (Or.inl (Or.inl rfl)) (fun σ' h => (c_114 p0 1 48 (by omega) (by omega) (by omega) σ' h.1.1 ).le (Nat.le_of_ble_eq_true rfl) (fun v σ2 ⟨y, h1, h2, h3, h4⟩ => ⟨y, h1, h2, h.1.tr h3 MN_sub, trivial⟩)) (pc' := 7) rfl (fun y1 => ?_)
  refine G_ex (fun hy1 => ?_)
  refine T_if_eq zk_97_7 (by omega) (pc' := 10) rfl (fun h2 => ?_) (fun h3 => ?_)
  ·
    refine T_ld zk_97_19 rfl rfl rfl (pc' := 20) rfl ?_
    refine T_op zk_97_20 rfl (X_bi (v := -6) (by decide)) (pc' := 22) rfl ?_
    refine T_calli (K := fun y4 σ' => (y4 = (-6)) ∧ (fun σ' => IF (MYR 2) σ σ' ∧ True) σ') (r := []) zk_97_22 rfl rfl rfl rfl rfl rfl (Or.inr ⟨_, _, _, _, rfl, vd_0, rfl⟩) (fun σ' h => (c_113 ((-6)) (by omega) σ' h.1.1 ).le (Nat.le_of_ble_eq_true rfl) (fun v σ2 ⟨y, h1, h2, h3, h4⟩ => ⟨y, h1, h2, h.1.tr h3 (fun t i k j h => by unfold MT at h; unfold MYR; omega), trivial⟩)) (pc' := 25) rfl (fun y4 => ?_)
    refine G_ex (fun hy4 => ?_)
    obtain rfl : y4 = (-6) := by omega
    exact T_iret zk_97_25 rfl (fun σ' h => ⟨_, rfl, (by omega), h.1, trivial⟩)
  ·
    refine T_ld zk_97_10 rfl rfl rfl (pc' := 11) rfl ?_
    refine T_op zk_97_11 rfl X_ic (pc' := 12) rfl ?_
    refine T_op zk_97_12 rfl X_ic (pc' := 13) rfl ?_
    refine T_calli (K := fun y5 σ' => ((y5 = 0 ∧ (p1 < 0 ∨ 1 < p1)) ∨ (y5 = 1 ∧ 0 ≤ p1 ∧ p1 ≤ 1)) ∧ (fun σ' => IF (MYR 2) σ σ' ∧ True) σ') (r := []) zk_97_13 rfl rfl rfl rfl rfl rfl (Or.inl (Or.inl rfl)) (fun σ' h => (c_114 p1 0 1 (by omega) (by omega) (by omega) σ' h.1.1 ).le (Nat.le_of_ble_eq_true rfl) (fun v σ2 ⟨y, h1, h2, h3, h4⟩ => ⟨y, h1, h2, h.1.tr h3 MN_sub, trivial⟩)) (pc' := 16) rfl (fun y5 => ?_)
    refine G_ex (fun hy5 => ?_)
    refine T_if_ne zk_97_16 (by omega) (pc' := 19) rfl (fun h6 => ?_) (fun h7 => ?_)
    ·
      refine T_op zk_97_26 rfl X_ic (pc' := 27) rfl ?_
      refine T_st (L' := [(0, av 0 0 0), (1, iv p0), (2, iv p1), (3, iv 0)]) zk_97_27 (nL := 7) rfl rfl rfl rfl rfl (pc' := 28) rfl ?_
      refine T_op zk_97_28 rfl X_ic (pc' := 29) rfl ?_
      refine T_st (L' := [(0, av 0 0 0), (1, iv p0), (2, iv p1), (3, iv 0), (4, iv 0)]) zk_97_29 (nL := 7) rfl rfl rfl rfl rfl (pc' := 31) rfl ?_
      refine T_op zk_97_31 rfl X_ic (pc' := 32) rfl ?_
      refine T_st (L' := [(0, av 0 0 0), (1, iv p0), (2, iv p1), (3, iv 0), (4, iv 0), (5, iv 0)]) zk_97_32 (nL := 7) rfl rfl rfl rfl rfl (pc' := 34) rfl ?_
      refine T_loop3 (fun x8 x9 x10 => ((1 - x10 : Int)).toNat) (fun x8 x9 x10 => (0 ≤ x8 ∧ x8 ≤ 0) ∧ (0 ≤ x9 ∧ x9 ≤ 0) ∧ (0 ≤ x10 ∧ x10 ≤ 1)) (fun x8 x9 x10 => TJ xs (fun σ' => IF (MYR 2) σ σ' ∧ True) 3 97 34 [(0, av 0 0 0), (1, iv p0), (2, iv p1), (3, iv x8), (4, iv x9), (5, iv x10)] [] _) ?_ 0 0 0 (by omega)
      intro x8 x9 x10 hp12 ih11
      refine T_ld zk_97_34 rfl rfl rfl (pc' := 36) rfl ?_
      refine T_op zk_97_36 rfl X_ic (pc' := 37) rfl ?_
      refine T_ld zk_97_37 rfl rfl rfl (pc' := 38) rfl ?_
      refine T_getR (t' := 1) (i' := 0) (k' := 0) zk_97_38 rfl rfl rfl vd_0 (pc' := 41) rfl ?_
      refine G_getX (w := 0) zk_97_41 rfl (vd_1 (by omega)) (fun σ' h => (h.1.2 _ _ _ _ (by unfold MYR; omega)).trans (hf _ _ _ _ (by decide))) (pc' := 44) rfl ?_
      refine T_op (st' := [iv 1, iv x10]) zk_97_44 rfl rfl (pc' := 45) rfl ?_
      refine T_icmp_ge zk_97_45 (by omega) (by omega) (pc' := 48) rfl (fun h13 => ?_) (fun h14 => ?_)
      ·
        refine T_ld zk_97_140 rfl rfl rfl (pc' := 141) rfl ?_
        refine T_if_ne zk_97_141 (by omega) (pc' := 144) rfl (fun h15 => ?_) (fun h16 => ?_)
        ·
          refine T_ld zk_97_148 rfl rfl rfl (pc' := 150) rfl ?_
          exact T_iret zk_97_150 rfl (fun σ' h => ⟨_, rfl, (by omega), h.1, trivial⟩)
        ·
          refine T_ld zk_97_144 rfl rfl rfl (pc' := 145) rfl ?_
          refine T_goto zk_97_145 ?_
          exact T_iret zk_97_150 rfl (fun σ' h => ⟨_, rfl, (by omega), h.1, trivial⟩)
      ·
        refine T_ld zk_97_48 rfl rfl rfl (pc' := 49) rfl ?_
        refine T_getR (t' := 1) (i' := 2) (k' := 0) zk_97_49 rfl rfl rfl vd_0 (pc' := 52) rfl ?_
        refine T_ld zk_97_52 rfl rfl rfl (pc' := 53) rfl ?_
        refine T_getR (t' := 1) (i' := 0) (k' := 0) zk_97_53 rfl rfl rfl vd_0 (pc' := 56) rfl ?_
        refine T_callv (J' := (fun σ' => IF (MYR 2) σ σ' ∧ (∀ j, 0 ≤ j → j < 25 → σ' 4 2 0 j = 0) ∧ σ' 11 2 0 0 = 0 ∧ σ' 17 2 0 0 = 0 ∧ σ' 17 2 1 0 = 0 ∧ σ' 1 2 0 5 = 0 ∧ σ' 1 2 0 6 = 0 ∧ σ' 1 2 0 7 = 0 ∧ σ' 1 2 0 13 = 0 ∧ True)) (r := []) zk_97_56 rfl rfl rfl rfl rfl rfl (Or.inr ⟨_, _, _, _, rfl, (vd_1 (by omega)), rfl⟩) (fun σ' h => (c_22_2   σ' h.1.1 (fun j a b => (h.1.2 _ _ _ _ (by unfold MYR; omega)).trans (hf _ _ _ _ (by decide))) ((h.1.2 _ _ _ _ (by unfold MYR; omega)).trans (hf _ _ _ _ (by decide))) ((h.1.2 _ _ _ _ (by unfold MYR; omega)).trans (hf _ _ _ _ (by decide))) ((h.1.2 _ _ _ _ (by unfold MYR; omega)).trans (hf _ _ _ _ (by decide))) ((h.1.2 _ _ _ _ (by unfold MYR; omega)).trans (hf _ _ _ _ (by decide))) ((h.1.2 _ _ _ _ (by unfold MYR; omega)).trans (hf _ _ _ _ (by decide))) ((h.1.2 _ _ _ _ (by unfold MYR; omega)).trans (hf _ _ _ _ (by decide))) ((h.1.2 _ _ _ _ (by unfold MYR; omega)).trans (hf _ _ _ _ (by decide)))).le (Nat.le_of_ble_eq_true rfl) (fun v σ2 ⟨h1, h3, h4⟩ => ⟨h1, h.1.tr h3 (fun t i k j h => by unfold MY at h; unfold MYR; omega), h4.1, h4.2.1, h4.2.2.1, h4.2.2.2.1, h4.2.2.2.2.1, h4.2.2.2.2.2.1, h4.2.2.2.2.2.2.1, h4.2.2.2.2.2.2.2.1, trivial⟩)) (pc' := 59) rfl ?_
        refine T_ld zk_97_59 rfl rfl rfl (pc' := 60) rfl ?_
        refine T_getR (t' := 1) (i' := 2) (k' := 0) zk_97_60 rfl rfl rfl vd_0 (pc' := 63) rfl ?_
        refine T_ld zk_97_63 rfl rfl rfl (pc' := 65) rfl ?_
        refine T_callv (J' := (fun σ' => IF (MYR 2) σ σ' ∧ (∀ j, 0 ≤ j → j < 25 → σ' 4 2 0 j = 0) ∧ σ' 11 2 0 0 = 0 ∧ σ' 17 2 0 0 = 0 ∧ σ' 17 2 1 0 = 0 ∧ σ' 1 2 0 5 = 0 ∧ σ' 1 2 0 6 = 0 ∧ σ' 1 2 0 7 = 0 ∧ σ' 1 2 0 13 = 0 ∧ True)) (r := []) zk_97_65 rfl rfl rfl rfl rfl rfl (Or.inr ⟨_, _, _, _, rfl, (vd_1 (by omega)), rfl⟩) (fun σ' h => (c_20e 2 x10 (by omega) (by omega) σ' h.1.1 (h.2.2.2.2.2.1)).le (Nat.le_of_ble_eq_true rfl) (fun v σ2 ⟨h1, h3, h4⟩ => ⟨h1, h.1.tr h3 MN_sub, fun j a b => (h3.2 _ _ _ _ (fun q => q)).trans (h.2.1 j a b), (h3.2 _ _ _ _ (fun q => q)).trans (h.2.2.1), (h3.2 _ _ _ _ (fun q => q)).trans (h.2.2.2.1), (h3.2 _ _ _ _ (fun q => q)).trans (h.2.2.2.2.1), (h3.2 _ _ _ _ (fun q => q)).trans (h.2.2.2.2.2.1), (h3.2 _ _ _ _ (fun q => q)).trans (h.2.2.2.2.2.2.1), (h3.2 _ _ _ _ (fun q => q)).trans (h.2.2.2.2.2.2.2.1), (h3.2 _ _ _ _ (fun q => q)).trans (h.2.2.2.2.2.2.2.2.1), trivial⟩)) (pc' := 68) rfl ?_
        refine T_op zk_97_68 rfl X_ic (pc' := 69) rfl ?_
        refine T_st (L' := [(0, av 0 0 0), (1, iv p0), (2, iv p1), (3, iv x8), (4, iv x9), (5, iv x10), (6, iv 0)]) zk_97_69 (nL := 7) rfl rfl rfl rfl rfl (pc' := 71) rfl ?_
        refine T_loop1 (fun x19 => ((48 - x19 : Int)).toNat) (fun x19 => (0 ≤ x19 ∧ x19 ≤ 48)) (fun x19 => TJ xs (fun σ' => IF (MYR 2) σ σ' ∧ (∀ j, 0 ≤ j → j < 25 → σ' 4 2 0 j = 0) ∧ σ' 11 2 0 0 = 0 ∧ σ' 17 2 0 0 = 0 ∧ σ' 17 2 1 0 = 0 ∧ σ' 1 2 0 5 = 0 ∧ σ' 1 2 0 6 = 0 ∧ σ' 1 2 0 7 = 0 ∧ σ' 1 2 0 13 = x19 ∧ True) 3 97 71 [(0, av 0 0 0), (1, iv p0), (2, iv p1), (3, iv x8), (4, iv x9), (5, iv x10), (6, iv x19)] [] _) ?_ 0 (by omega)
        intro x19 hp21 ih20
        refine T_ld zk_97_71 rfl rfl rfl (pc' := 73) rfl ?_
        refine T_ld zk_97_73 rfl rfl rfl (pc' := 74) rfl ?_
        refine T_icmp_ge zk_97_74 (by omega) (by omega) (pc' := 77) rfl (fun h22 => ?_) (fun h23 => ?_)
        ·
          refine T_ld zk_97_98 rfl rfl rfl (pc' := 99) rfl ?_
          refine T_getR (t' := 1) (i' := 2) (k' := 0) zk_97_99 rfl rfl rfl vd_0 (pc' := 102) rfl ?_
          refine T_calli (K := fun y24 σ' => (y24 = 0) ∧ (fun σ' => IF (MYR 2) σ σ' ∧ (∀ j, 0 ≤ j → j < 25 → σ' 4 2 0 j = 0) ∧ σ' 11 2 0 0 = 0 ∧ σ' 17 2 0 0 = 0 ∧ σ' 17 2 1 0 = 0 ∧ σ' 1 2 0 5 = 0 ∧ σ' 1 2 0 6 = 0 ∧ σ' 1 2 0 7 = 0 ∧ σ' 1 2 0 13 = x19 ∧ True) σ') (r := []) zk_97_102 rfl rfl rfl rfl rfl rfl (Or.inr ⟨_, _, _, _, rfl, (vd_1 (by omega)), rfl⟩) (fun σ' h => (c_21e 2 (by omega) σ' h.1.1 (h.2.2.2.2.2.2.1) (h.2.2.2.2.2.2.2.1)).le (Nat.le_of_ble_eq_true rfl) (fun v σ2 ⟨y, h1, h2, h3, h4⟩ => ⟨y, h1, h2, h.1.tr h3 MN_sub, fun j a b => (h3.2 _ _ _ _ (fun q => q)).trans (h.2.1 j a b), (h3.2 _ _ _ _ (fun q => q)).trans (h.2.2.1), (h3.2 _ _ _ _ (fun q => q)).trans (h.2.2.2.1), (h3.2 _ _ _ _ (fun q => q)).trans (h.2.2.2.2.1), (h3.2 _ _ _ _ (fun q => q)).trans (h.2.2.2.2.2.1), (h3.2 _ _ _ _ (fun q => q)).trans (h.2.2.2.2.2.2.1), (h3.2 _ _ _ _ (fun q => q)).trans (h.2.2.2.2.2.2.2.1), (h3.2 _ _ _ _ (fun q => q)).trans (h.2.2.2.2.2.2.2.2.1), trivial⟩)) (pc' := 105) rfl (fun y24 => ?_)
          refine G_ex (fun hy24 => ?_)
          obtain rfl : y24 = 0 := by omega
          refine T_ld zk_97_105 rfl rfl rfl (pc' := 106) rfl ?_
          refine T_getR (t' := 1) (i' := 0) (k' := 0) zk_97_106 rfl rfl rfl vd_0 (pc' := 109) rfl ?_
          refine T_calli (K := fun y25 σ' => (y25 = 0) ∧ (fun σ' => IF (MYR 2) σ σ' ∧ (∀ j, 0 ≤ j → j < 25 → σ' 4 2 0 j = 0) ∧ σ' 11 2 0 0 = 0 ∧ σ' 17 2 0 0 = 0 ∧ σ' 17 2 1 0 = 0 ∧ σ' 1 2 0 5 = 0 ∧ σ' 1 2 0 6 = 0 ∧ σ' 1 2 0 7 = 0 ∧ σ' 1 2 0 13 = x19 ∧ True) σ') (r := [iv 0]) zk_97_109 rfl rfl rfl rfl rfl rfl (Or.inr ⟨_, _, _, _, rfl, (vd_1 (by omega)), rfl⟩) (fun σ' h => (c_21e 0 (by omega) σ' h.1.1 ((h.1.2 _ _ _ _ (by unfold MYR; omega)).trans (hf _ _ _ _ (by decide))) ((h.1.2 _ _ _ _ (by unfold MYR; omega)).trans (hf _ _ _ _ (by decide)))).le (Nat.le_of_ble_eq_true rfl) (fun v σ2 ⟨y, h1, h2, h3, h4⟩ => ⟨y, h1, h2, h.1.tr h3 MN_sub, fun j a b => (h3.2 _ _ _ _ (fun q => q)).trans (h.2.1 j a b), (h3.2 _ _ _ _ (fun q => q)).trans (h.2.2.1), (h3.2 _ _ _ _ (fun q => q)).trans (h.2.2.2.1), (h3.2 _ _ _ _ (fun q => q)).trans (h.2.2.2.2.1), (h3.2 _ _ _ _ (fun q => q)).trans (h.2.2.2.2.2.1), (h3.2 _ _ _ _ (fun q => q)).trans (h.2.2.2.2.2.2.1), (h3.2 _ _ _ _ (fun q => q)).trans (h.2.2.2.2.2.2.2.1), (h3.2 _ _ _ _ (fun q => q)).trans (h.2.2.2.2.2.2.2.2.1), trivial⟩)) (pc' := 112) rfl (fun y25 => ?_)
          refine G_ex (fun hy25 => ?_)
          obtain rfl : y25 = 0 := by omega
          refine T_opc (w := 0) zk_97_112 rfl X_sub (by omega) (pc' := 113) rfl ?_
          refine T_st (L' := [(0, av 0 0 0), (1, iv p0), (2, iv p1), (3, iv x8), (4, iv x9), (5, iv x10), (6, iv 0)]) zk_97_113 (nL := 7) rfl rfl rfl rfl rfl (pc' := 115) rfl ?_
          refine T_ld zk_97_115 rfl rfl rfl (pc' := 117) rfl ?_
          refine T_if_eq zk_97_117 (by omega) (pc' := 120) rfl (fun h26 => ?_) (fun h27 => ?_)
          ·
            refine T_ld zk_97_127 rfl rfl rfl (pc' := 129) rfl ?_
            refine T_st (L' := [(0, av 0 0 0), (1, iv p0), (2, iv p1), (3, iv x8), (4, iv 0), (5, iv x10), (6, iv 0)]) zk_97_129 (nL := 7) rfl rfl rfl rfl rfl (pc' := 131) rfl ?_
            refine T_ld zk_97_131 rfl rfl rfl (pc' := 133) rfl ?_
            refine T_st (L' := [(0, av 0 0 0), (1, iv p0), (2, iv p1), (3, iv x10), (4, iv 0), (5, iv x10), (6, iv 0)]) zk_97_133 (nL := 7) rfl rfl rfl rfl rfl (pc' := 134) rfl ?_
            refine T_iinc (L' := [(0, av 0 0 0), (1, iv p0), (2, iv p1), (3, iv x10), (4, iv 0), (5, iv (x10 + 1)), (6, iv 0)]) zk_97_134 (nL := 7) rfl rfl rfl rfl (pc' := 137) rfl ?_
            refine T_goto zk_97_137 ?_
            refine G_know (J' := (fun σ' => IF (MYR 2) σ σ' ∧ True)) (fun σ' h => ⟨h.1, trivial⟩) ?_
            refine T_loc (L := [(0, av 0 0 0), (1, iv p0), (2, iv p1), (3, iv x10), (4, iv 0), (5, iv (x10 + 1))]) (E := [(6, iv 0)]) rfl ?_
            exact ih11 x10 0 (x10 + 1) (by omega) (by omega)
          · exfalso; omega
        ·
          refine T_ld zk_97_77 rfl rfl rfl (pc' := 78) rfl ?_
          refine T_getR (t' := 1) (i' := 2) (k' := 0) zk_97_78 rfl rfl rfl vd_0 (pc' := 81) rfl ?_
          refine T_op zk_97_81 rfl X_ic (pc' := 82) rfl ?_
          refine T_callv (J' := (fun σ' => IF (MYR 2) σ σ' ∧ σ' 11 2 0 0 = 0 ∧ σ' 17 2 0 0 = 0 ∧ σ' 17 2 1 0 = 0 ∧ σ' 1 2 0 5 = 0 ∧ σ' 1 2 0 6 = 0 ∧ σ' 1 2 0 7 = 0 ∧ σ' 1 2 0 13 = x19 ∧ (∀ j, 0 ≤ j → j < 25 → σ' 4 2 0 j = 0) ∧ True)) (r := []) zk_97_82 rfl rfl rfl rfl rfl rfl (Or.inr ⟨_, _, _, _, rfl, (vd_1 (by omega)), rfl⟩) (fun σ' h => (c_12e 2 1 (by omega) (by omega) σ' h.1.1 (h.2.2.2.2.1) (h.2.2.2.2.2.2.2.1) (h.2.2.1) (fun j a b => h.2.1 j (by omega) (by omega)) (h.2.2.2.2.1)).le (Nat.le_of_ble_eq_true rfl) (fun v σ2 ⟨h1, h3, h4⟩ => ⟨h1, h.1.tr h3 (fun t i k j h => by unfold MI at h; unfold MYR; omega), (h3.2 _ _ _ _ (by unfold MI; omega)).trans (h.2.2.1), (h3.2 _ _ _ _ (by unfold MI; omega)).trans (h.2.2.2.1), (h3.2 _ _ _ _ (by unfold MI; omega)).trans (h.2.2.2.2.1), (h3.2 _ _ _ _ (by unfold MI; omega)).trans (h.2.2.2.2.2.1), (h3.2 _ _ _ _ (by unfold MI; omega)).trans (h.2.2.2.2.2.2.1), (h3.2 _ _ _ _ (by unfold MI; omega)).trans (h.2.2.2.2.2.2.2.1), (h3.2 _ _ _ _ (by unfold MI; omega)).trans (h.2.2.2.2.2.2.2.2.1), h4.1, trivial⟩)) (pc' := 85) rfl ?_
          refine T_ld zk_97_85 rfl rfl rfl (pc' := 86) rfl ?_
          refine T_getR (t' := 1) (i' := 2) (k' := 0) zk_97_86 rfl rfl rfl vd_0 (pc' := 89) rfl ?_
          refine T_callv (J' := (fun σ' => IF (MYR 2) σ σ' ∧ σ' 11 2 0 0 = 0 ∧ σ' 17 2 0 0 = 0 ∧ σ' 17 2 1 0 = 0 ∧ σ' 1 2 0 5 = 0 ∧ σ' 1 2 0 6 = 0 ∧ σ' 1 2 0 7 = 0 ∧ (∀ j, 0 ≤ j → j < 25 → σ' 4 2 0 j = 0) ∧ σ' 1 2 0 13 = x19 + 1 ∧ True)) (r := []) zk_97_89 rfl rfl rfl rfl rfl rfl (Or.inr ⟨_, _, _, _, rfl, (vd_1 (by omega)), rfl⟩) (fun σ' h => (c_13e 2 x19 (by omega) (by omega) σ' h.1.1 (h.2.2.2.2.2.2.1) (h.2.2.2.2.2.1) (h.2.1) (h.2.2.2.2.2.2.2.1)).le (Nat.le_of_ble_eq_true rfl) (fun v σ2 ⟨h1, h3, h4⟩ => ⟨h1, h.1.tr h3 (fun t i k j h => by unfold MP at h; unfold MYR; omega), (h3.2 _ _ _ _ (by unfold MP; omega)).trans (h.2.1), (h3.2 _ _ _ _ (by unfold MP; omega)).trans (h.2.2.1), (h3.2 _ _ _ _ (by unfold MP; omega)).trans (h.2.2.2.1), (h3.2 _ _ _ _ (by unfold MP; omega)).trans (h.2.2.2.2.1), (h3.2 _ _ _ _ (by unfold MP; omega)).trans (h.2.2.2.2.2.1), (h3.2 _ _ _ _ (by unfold MP; omega)).trans (h.2.2.2.2.2.2.1), fun j a b => (h3.2 _ _ _ _ (by unfold MP; omega)).trans (h.2.2.2.2.2.2.2.2.1 j a b), h4.1, trivial⟩)) (pc' := 92) rfl ?_
          refine T_iinc (L' := [(0, av 0 0 0), (1, iv p0), (2, iv p1), (3, iv x8), (4, iv x9), (5, iv x10), (6, iv (x19 + 1))]) zk_97_92 (nL := 7) rfl rfl rfl rfl (pc' := 95) rfl ?_
          refine T_goto zk_97_95 ?_
          refine G_know (J' := (fun σ' => IF (MYR 2) σ σ' ∧ (∀ j, 0 ≤ j → j < 25 → σ' 4 2 0 j = 0) ∧ σ' 11 2 0 0 = 0 ∧ σ' 17 2 0 0 = 0 ∧ σ' 17 2 1 0 = 0 ∧ σ' 1 2 0 5 = 0 ∧ σ' 1 2 0 6 = 0 ∧ σ' 1 2 0 7 = 0 ∧ σ' 1 2 0 13 = (x19 + 1) ∧ True)) (fun σ' h => ⟨h.1, h.2.2.2.2.2.2.2.1, h.2.1, h.2.2.1, h.2.2.2.1, h.2.2.2.2.1, h.2.2.2.2.2.1, h.2.2.2.2.2.2.1, (h.2.2.2.2.2.2.2.2.1).trans (by omega), trivial⟩) ?_
          exact ih20 (x19 + 1) (by omega) (by omega)
    ·
      refine T_ld zk_97_19 rfl rfl rfl (pc' := 20) rfl ?_
      refine T_op zk_97_20 rfl (X_bi (v := -6) (by decide)) (pc' := 22) rfl ?_
      refine T_calli (K := fun y30 σ' => (y30 = (-6)) ∧ (fun σ' => IF (MYR 2) σ σ' ∧ True) σ') (r := []) zk_97_22 rfl rfl rfl rfl rfl rfl (Or.inr ⟨_, _, _, _, rfl, vd_0, rfl⟩) (fun σ' h => (c_113 ((-6)) (by omega) σ' h.1.1 ).le (Nat.le_of_ble_eq_true rfl) (fun v σ2 ⟨y, h1, h2, h3, h4⟩ => ⟨y, h1, h2, h.1.tr h3 (fun t i k j h => by unfold MT at h; unfold MYR; omega), trivial⟩)) (pc' := 25) rfl (fun y30 => ?_)
      refine G_ex (fun hy30 => ?_)
      obtain rfl : y30 = (-6) := by omega
      exact T_iret zk_97_25 rfl (fun σ' h => ⟨_, rfl, (by omega), h.1, trivial⟩)
/-- W.house -/
theorem x_house {xs : Nat × (Nat → Int32)} (p0 : Int) (p1 : Int) (p2 : Int) (p3 : Int) (p4 : Int) (h0 : -2147483648 ≤ p0 ∧ p0 ≤ 2147483647) (h1 : -2147483648 ≤ p1 ∧ p1 ≤ 2147483647) (h2 : -2147483648 ≤ p2 ∧ p2 ≤ 2147483647) (h3 : -2147483648 ≤ p3 ∧ p3 ≤ 2147483647) (h4 : -2147483648 ≤ p4 ∧ p4 ≤ 2147483647) (σ : ZS) (hI : Inv σ) (hf : ∀ t i k j, t < 35 → σ t i k j = σ0 t i k j)  : CT xs 3 98 [av 0 0 0, iv p0, iv p1, iv p2, iv p3, iv p4] σ (fun v σ' => ∃ y, v = some (iv y) ∧ ((y = -1 ∧ (¬ (0 ≤ p0 ∧ p0 ≤ 2) ∨ ¬ (0 ≤ p1 ∧ p1 ≤ 24))) ∨ (y = -6 ∧ ¬ (¬ (0 ≤ p0 ∧ p0 ≤ 2) ∨ ¬ (0 ≤ p1 ∧ p1 ≤ 24)) ∧ (¬ (0 ≤ p2 ∧ p2 ≤ 200) ∨ ¬ (0 ≤ p3 ∧ p3 ≤ 99) ∨ ¬ (0 ≤ p4 ∧ p4 ≤ 99))) ∨ (y = 0 ∧ ¬ (¬ (0 ≤ p0 ∧ p0 ≤ 2) ∨ ¬ (0 ≤ p1 ∧ p1 ≤ 24)) ∧ ¬ (¬ (0 ≤ p2 ∧ p2 ≤ 200) ∨ ¬ (0 ≤ p3 ∧ p3 ≤ 99) ∨ ¬ (0 ≤ p4 ∧ p4 ≤ 99)))) ∧ IF (M1 25 25) σ σ' ∧ (True)) := by
  refine G_ct (J := (fun σ' => IF (M1 25 25) σ σ' ∧ σ' 1 0 0 6 = 0 ∧ True)) (L := [(0, av 0 0 0), (1, iv p0), (2, iv p1), (3, iv p2), (4, iv p3), (5, iv p4)]) (nL := 7) rfl rfl rfl ⟨IF.rf hI, hf _ _ _ _ (by decide), trivial⟩ ?_
  refine T_ld zk_98_0 rfl rfl rfl (pc' := 1) rfl ?_
  refine T_op zk_98_1 rfl X_ic (pc' := 2) rfl ?_
  refine T_op zk_98_2 rfl X_ic (pc' := 3) rfl ?_
  refine T_calli (K := fun y1 σ' => ((y1 = 0 ∧ (p0 < 0 ∨ 2 < p0)) ∨ (y1 = 1 ∧ 0 ≤ p0 ∧ p0 ≤ 2)) ∧ (fun σ' => IF (M1 25 25) σ σ' ∧ σ' 1 0 0 6 = 0 ∧ True) σ') (r := []) zk_98_3 rfl rfl rfl rfl rfl rfl (Or.inl (Or.inl rfl)) (fun σ' h => (c_114 p0 0 2 (by omega) (by omega) (by omega) σ' h.1.1 ).le (Nat.le_of_ble_eq_true rfl) (fun v σ2 ⟨y, h1, h2, h3, h4⟩ => ⟨y, h1, h2, h.1.tr h3 MN_sub, (h3.2 _ _ _ _ (fun q => q)).trans (h.2.1), trivial⟩)) (pc' := 6) rfl (fun y1 => ?_)
  refine G_ex (fun hy1 => ?_)
  refine T_if_eq zk_98_6 (by omega) (pc' := 9) rfl (fun h2 => ?_) (fun h3 => ?_)
  ·
    refine T_ld zk_98_16 rfl rfl rfl (pc' := 17) rfl ?_
    refine T_op zk_98_17 rfl X_ic (pc' := 18) rfl ?_
    refine T_calli (K := fun y4 σ' => (y4 = (-1)) ∧ (fun σ' => IF (M1 25 25) σ σ' ∧ σ' 1 0 0 6 = 0 ∧ True) σ') (r := []) zk_98_18 rfl rfl rfl rfl rfl rfl (Or.inr ⟨_, _, _, _, rfl, vd_0, rfl⟩) (fun σ' h => (c_113 ((-1)) (by omega) σ' h.1.1 ).le (Nat.le_of_ble_eq_true rfl) (fun v σ2 ⟨y, h1, h2, h3, h4⟩ => ⟨y, h1, h2, h.1.tr h3 (fun t i k j h => by unfold MT at h; unfold M1; omega), (h3.2 _ _ _ _ (by unfold MT; omega)).trans (h.2.1), trivial⟩)) (pc' := 21) rfl (fun y4 => ?_)
    refine G_ex (fun hy4 => ?_)
    obtain rfl : y4 = (-1) := by omega
    exact T_iret zk_98_21 rfl (fun σ' h => ⟨_, rfl, (by omega), h.1, trivial⟩)
  ·
    refine T_ld zk_98_9 rfl rfl rfl (pc' := 10) rfl ?_
    refine T_calli (K := fun y5 σ' => ((y5 = 0 ∧ (p1 < 0 ∨ 24 < p1)) ∨ (y5 = 1 ∧ 0 ≤ p1 ∧ p1 ≤ 24)) ∧ (fun σ' => IF (M1 25 25) σ σ' ∧ σ' 1 0 0 6 = 0 ∧ True) σ') (r := []) zk_98_10 rfl rfl rfl rfl rfl rfl (Or.inl (Or.inl rfl)) (fun σ' h => (c_115 p1 (by omega) σ' h.1.1 ).le (Nat.le_of_ble_eq_true rfl) (fun v σ2 ⟨y, h1, h2, h3, h4⟩ => ⟨y, h1, h2, h.1.tr h3 MN_sub, (h3.2 _ _ _ _ (fun q => q)).trans (h.2.1), trivial⟩)) (pc' := 13) rfl (fun y5 => ?_)
    refine G_ex (fun hy5 => ?_)
    refine T_if_ne zk_98_13 (by omega) (pc' := 16) rfl (fun h6 => ?_) (fun h7 => ?_)
    ·
      refine T_ld zk_98_22 rfl rfl rfl (pc' := 23) rfl ?_
      refine T_op zk_98_23 rfl X_ic (pc' := 24) rfl ?_
      refine T_op zk_98_24 rfl (X_si (v := 200) (by decide)) (pc' := 27) rfl ?_
      refine T_calli (K := fun y8 σ' => ((y8 = 0 ∧ (p2 < 0 ∨ 200 < p2)) ∨ (y8 = 1 ∧ 0 ≤ p2 ∧ p2 ≤ 200)) ∧ (fun σ' => IF (M1 25 25) σ σ' ∧ σ' 1 0 0 6 = 0 ∧ True) σ') (r := []) zk_98_27 rfl rfl rfl rfl rfl rfl (Or.inl (Or.inl rfl)) (fun σ' h => (c_114 p2 0 200 (by omega) (by omega) (by omega) σ' h.1.1 ).le (Nat.le_of_ble_eq_true rfl) (fun v σ2 ⟨y, h1, h2, h3, h4⟩ => ⟨y, h1, h2, h.1.tr h3 MN_sub, (h3.2 _ _ _ _ (fun q => q)).trans (h.2.1), trivial⟩)) (pc' := 30) rfl (fun y8 => ?_)
      refine G_ex (fun hy8 => ?_)
      refine T_if_eq zk_98_30 (by omega) (pc' := 33) rfl (fun h9 => ?_) (fun h10 => ?_)
      ·
        refine T_ld zk_98_55 rfl rfl rfl (pc' := 56) rfl ?_
        refine T_op zk_98_56 rfl (X_bi (v := -6) (by decide)) (pc' := 58) rfl ?_
        refine T_calli (K := fun y11 σ' => (y11 = (-6)) ∧ (fun σ' => IF (M1 25 25) σ σ' ∧ σ' 1 0 0 6 = 0 ∧ True) σ') (r := []) zk_98_58 rfl rfl rfl rfl rfl rfl (Or.inr ⟨_, _, _, _, rfl, vd_0, rfl⟩) (fun σ' h => (c_113 ((-6)) (by omega) σ' h.1.1 ).le (Nat.le_of_ble_eq_true rfl) (fun v σ2 ⟨y, h1, h2, h3, h4⟩ => ⟨y, h1, h2, h.1.tr h3 (fun t i k j h => by unfold MT at h; unfold M1; omega), (h3.2 _ _ _ _ (by unfold MT; omega)).trans (h.2.1), trivial⟩)) (pc' := 61) rfl (fun y11 => ?_)
        refine G_ex (fun hy11 => ?_)
        obtain rfl : y11 = (-6) := by omega
        exact T_iret zk_98_61 rfl (fun σ' h => ⟨_, rfl, (by omega), h.1, trivial⟩)
      ·
        refine T_ld zk_98_33 rfl rfl rfl (pc' := 35) rfl ?_
        refine T_op zk_98_35 rfl X_ic (pc' := 36) rfl ?_
        refine T_op zk_98_36 rfl (X_bi (v := 99) (by decide)) (pc' := 38) rfl ?_
        refine T_calli (K := fun y12 σ' => ((y12 = 0 ∧ (p3 < 0 ∨ 99 < p3)) ∨ (y12 = 1 ∧ 0 ≤ p3 ∧ p3 ≤ 99)) ∧ (fun σ' => IF (M1 25 25) σ σ' ∧ σ' 1 0 0 6 = 0 ∧ True) σ') (r := []) zk_98_38 rfl rfl rfl rfl rfl rfl (Or.inl (Or.inl rfl)) (fun σ' h => (c_114 p3 0 99 (by omega) (by omega) (by omega) σ' h.1.1 ).le (Nat.le_of_ble_eq_true rfl) (fun v σ2 ⟨y, h1, h2, h3, h4⟩ => ⟨y, h1, h2, h.1.tr h3 MN_sub, (h3.2 _ _ _ _ (fun q => q)).trans (h.2.1), trivial⟩)) (pc' := 41) rfl (fun y12 => ?_)
        refine G_ex (fun hy12 => ?_)
        refine T_if_eq zk_98_41 (by omega) (pc' := 44) rfl (fun h13 => ?_) (fun h14 => ?_)
        ·
          refine T_ld zk_98_55 rfl rfl rfl (pc' := 56) rfl ?_
          refine T_op zk_98_56 rfl (X_bi (v := -6) (by decide)) (pc' := 58) rfl ?_
          refine T_calli (K := fun y15 σ' => (y15 = (-6)) ∧ (fun σ' => IF (M1 25 25) σ σ' ∧ σ' 1 0 0 6 = 0 ∧ True) σ') (r := []) zk_98_58 rfl rfl rfl rfl rfl rfl (Or.inr ⟨_, _, _, _, rfl, vd_0, rfl⟩) (fun σ' h => (c_113 ((-6)) (by omega) σ' h.1.1 ).le (Nat.le_of_ble_eq_true rfl) (fun v σ2 ⟨y, h1, h2, h3, h4⟩ => ⟨y, h1, h2, h.1.tr h3 (fun t i k j h => by unfold MT at h; unfold M1; omega), (h3.2 _ _ _ _ (by unfold MT; omega)).trans (h.2.1), trivial⟩)) (pc' := 61) rfl (fun y15 => ?_)
          refine G_ex (fun hy15 => ?_)
          obtain rfl : y15 = (-6) := by omega
          exact T_iret zk_98_61 rfl (fun σ' h => ⟨_, rfl, (by omega), h.1, trivial⟩)
        ·
          refine T_ld zk_98_44 rfl rfl rfl (pc' := 46) rfl ?_
          refine T_op zk_98_46 rfl X_ic (pc' := 47) rfl ?_
          refine T_op zk_98_47 rfl (X_bi (v := 99) (by decide)) (pc' := 49) rfl ?_
          refine T_calli (K := fun y16 σ' => ((y16 = 0 ∧ (p4 < 0 ∨ 99 < p4)) ∨ (y16 = 1 ∧ 0 ≤ p4 ∧ p4 ≤ 99)) ∧ (fun σ' => IF (M1 25 25) σ σ' ∧ σ' 1 0 0 6 = 0 ∧ True) σ') (r := []) zk_98_49 rfl rfl rfl rfl rfl rfl (Or.inl (Or.inl rfl)) (fun σ' h => (c_114 p4 0 99 (by omega) (by omega) (by omega) σ' h.1.1 ).le (Nat.le_of_ble_eq_true rfl) (fun v σ2 ⟨y, h1, h2, h3, h4⟩ => ⟨y, h1, h2, h.1.tr h3 MN_sub, (h3.2 _ _ _ _ (fun q => q)).trans (h.2.1), trivial⟩)) (pc' := 52) rfl (fun y16 => ?_)
          refine G_ex (fun hy16 => ?_)
          refine T_if_ne zk_98_52 (by omega) (pc' := 55) rfl (fun h17 => ?_) (fun h18 => ?_)
          ·
            refine T_ld zk_98_62 rfl rfl rfl (pc' := 63) rfl ?_
            refine T_getR (t' := 1) (i' := 0) (k' := 0) zk_98_63 rfl rfl rfl vd_0 (pc' := 66) rfl ?_
            refine G_getX (w := 0) zk_98_66 rfl (vd_1 (by omega)) (fun σ' h => h.2.1) (pc' := 69) rfl ?_
            refine T_op zk_98_69 rfl (X_bi (v := 12) (by decide)) (pc' := 71) rfl ?_
            refine T_icmp_lt zk_98_71 (by omega) (by omega) (pc' := 74) rfl (fun h19 => ?_) (fun h20 => ?_)
            ·
              refine T_ld zk_98_81 rfl rfl rfl (pc' := 82) rfl ?_
              refine T_getR (t' := 1) (i' := 0) (k' := 0) zk_98_82 rfl rfl rfl vd_0 (pc' := 85) rfl ?_
              refine T_getR (t' := 15) (i' := 0) (k' := 0) zk_98_85 rfl rfl rfl (vd_1 (by omega)) (pc' := 88) rfl ?_
              refine T_ld zk_98_88 rfl rfl rfl (pc' := 89) rfl ?_
              refine T_getR (t' := 1) (i' := 0) (k' := 0) zk_98_89 rfl rfl rfl vd_0 (pc' := 92) rfl ?_
              refine G_getX (w := 0) zk_98_92 rfl (vd_1 (by omega)) (fun σ' h => h.2.1) (pc' := 95) rfl ?_
              refine G_aald (t' := 25) (im := 9) (i' := 0) (ln := 12) zk_98_95 rfl rfl rfl (vd_15 (by omega)) (by omega) (by omega) (by omega) (pc' := 96) rfl ?_
              refine T_st (L' := [(0, av 0 0 0), (1, iv p0), (2, iv p1), (3, iv p2), (4, iv p3), (5, iv p4), (6, av 25 0 0)]) zk_98_96 (nL := 7) rfl rfl rfl rfl rfl (pc' := 98) rfl ?_
              refine T_ld zk_98_98 rfl rfl rfl (pc' := 100) rfl ?_
              refine T_ld zk_98_100 rfl rfl rfl (pc' := 101) rfl ?_
              refine T_ld zk_98_101 rfl rfl rfl (pc' := 102) rfl ?_
              refine T_ld zk_98_102 rfl rfl rfl (pc' := 103) rfl ?_
              refine T_ld zk_98_103 rfl rfl rfl (pc' := 105) rfl ?_
              refine T_ld zk_98_105 rfl rfl rfl (pc' := 107) rfl ?_
              refine T_callv (J' := (fun σ' => IF (M1 25 25) σ σ' ∧ σ' 1 0 0 6 = 0 ∧ True)) (r := []) zk_98_107 rfl rfl rfl rfl rfl rfl (Or.inr ⟨_, _, _, _, rfl, (vd_25 (by omega) (by omega)), rfl⟩) (fun σ' h => (c_24 p0 p1 p2 p3 p4 (by omega) (by omega) (by omega) (by omega) (by omega) σ' h.1.1 ).le (Nat.le_of_ble_eq_true rfl) (fun v σ2 ⟨h1, h3, h4⟩ => ⟨h1, h.1.tr h3 (fun t i k j h => by unfold MT at h; unfold M1; omega), (h3.2 _ _ _ _ (by unfold MT; omega)).trans (h.2.1), trivial⟩)) (pc' := 110) rfl ?_
              refine T_ld zk_98_110 rfl rfl rfl (pc' := 111) rfl ?_
              refine T_getR (t' := 1) (i' := 0) (k' := 0) zk_98_111 rfl rfl rfl vd_0 (pc' := 114) rfl ?_
              refine T_op (st' := [av 1 0 0, av 1 0 0]) zk_98_114 rfl rfl (pc' := 115) rfl ?_
              refine G_getX (w := 0) zk_98_115 rfl (vd_1 (by omega)) (fun σ' h => h.2.1) (pc' := 118) rfl ?_
              refine T_op zk_98_118 rfl X_ic (pc' := 119) rfl ?_
              refine T_opc (w := 1) zk_98_119 rfl X_add (by omega) (pc' := 120) rfl ?_
              refine T_putf (J' := (fun σ' => IF (M1 25 25) σ σ' ∧ σ' 1 0 0 6 = 1 ∧ True)) zk_98_120 rfl rfl (vd_1 (by omega)) (fun σ' h => ⟨h.1.up (by simp only [rgP] <;> omega) (by unfold M1; omega), up_eq, trivial⟩) (pc' := 123) rfl ?_
              refine T_ld zk_98_123 rfl rfl rfl (pc' := 124) rfl ?_
              refine T_getR (t' := 1) (i' := 0) (k' := 0) zk_98_124 rfl rfl rfl vd_0 (pc' := 127) rfl ?_
              refine G_getX (w := 1) zk_98_127 rfl (vd_1 (by omega)) (fun σ' h => h.2.1) (pc' := 130) rfl ?_
              refine T_op zk_98_130 rfl X_ic (pc' := 131) rfl ?_
              refine T_opc (w := 0) zk_98_131 rfl X_sub (by omega) (pc' := 132) rfl ?_
              exact T_iret zk_98_132 rfl (fun σ' h => ⟨_, rfl, (by omega), h.1, trivial⟩)
            · exfalso; omega
          ·
            refine T_ld zk_98_55 rfl rfl rfl (pc' := 56) rfl ?_
            refine T_op zk_98_56 rfl (X_bi (v := -6) (by decide)) (pc' := 58) rfl ?_
            refine T_calli (K := fun y22 σ' => (y22 = (-6)) ∧ (fun σ' => IF (M1 25 25) σ σ' ∧ σ' 1 0 0 6 = 0 ∧ True) σ') (r := []) zk_98_58 rfl rfl rfl rfl rfl rfl (Or.inr ⟨_, _, _, _, rfl, vd_0, rfl⟩) (fun σ' h => (c_113 ((-6)) (by omega) σ' h.1.1 ).le (Nat.le_of_ble_eq_true rfl) (fun v σ2 ⟨y, h1, h2, h3, h4⟩ => ⟨y, h1, h2, h.1.tr h3 (fun t i k j h => by unfold MT at h; unfold M1; omega), (h3.2 _ _ _ _ (by unfold MT; omega)).trans (h.2.1), trivial⟩)) (pc' := 61) rfl (fun y22 => ?_)
            refine G_ex (fun hy22 => ?_)
            obtain rfl : y22 = (-6) := by omega
            exact T_iret zk_98_61 rfl (fun σ' h => ⟨_, rfl, (by omega), h.1, trivial⟩)
    ·
      refine T_ld zk_98_16 rfl rfl rfl (pc' := 17) rfl ?_
      refine T_op zk_98_17 rfl X_ic (pc' := 18) rfl ?_
      refine T_calli (K := fun y23 σ' => (y23 = (-1)) ∧ (fun σ' => IF (M1 25 25) σ σ' ∧ σ' 1 0 0 6 = 0 ∧ True) σ') (r := []) zk_98_18 rfl rfl rfl rfl rfl rfl (Or.inr ⟨_, _, _, _, rfl, vd_0, rfl⟩) (fun σ' h => (c_113 ((-1)) (by omega) σ' h.1.1 ).le (Nat.le_of_ble_eq_true rfl) (fun v σ2 ⟨y, h1, h2, h3, h4⟩ => ⟨y, h1, h2, h.1.tr h3 (fun t i k j h => by unfold MT at h; unfold M1; omega), (h3.2 _ _ _ _ (by unfold MT; omega)).trans (h.2.1), trivial⟩)) (pc' := 21) rfl (fun y23 => ?_)
      refine G_ex (fun hy23 => ?_)
      obtain rfl : y23 = (-1) := by omega
      exact T_iret zk_98_21 rfl (fun σ' h => ⟨_, rfl, (by omega), h.1, trivial⟩)
/-- W.raise -/
theorem x_raise {xs : Nat × (Nat → Int32)} (p0 : Int) (p1 : Int) (h0 : -2147483648 ≤ p0 ∧ p0 ≤ 2147483647) (h1 : -2147483648 ≤ p1 ∧ p1 ≤ 2147483647) (σ : ZS) (hI : Inv σ) (hf : ∀ t i k j, t < 35 → σ t i k j = σ0 t i k j)  : CT xs 3 99 [av 0 0 0, iv p0, iv p1] σ (fun v σ' => ∃ y, v = some (iv y) ∧ (y = -1) ∧ IF (MT 28 28 28 28) σ σ' ∧ (True)) := by
  refine G_ct (J := (fun σ' => IF (MT 28 28 28 28) σ σ' ∧ True)) (L := [(0, av 0 0 0), (1, iv p0), (2, iv p1)]) (nL := 3) rfl rfl rfl ⟨IF.rf hI, trivial⟩ ?_
  refine T_ld zk_99_0 rfl rfl rfl (pc' := 1) rfl ?_
  refine T_ld zk_99_1 rfl rfl rfl (pc' := 2) rfl ?_
  refine T_calli (K := fun y1 σ' => (y1 = 0) ∧ (fun σ' => IF (MT 28 28 28 28) σ σ' ∧ True) σ') (r := []) zk_99_2 rfl rfl rfl rfl rfl rfl (Or.inr ⟨_, _, _, _, rfl, vd_0, rfl⟩) (fun σ' h => (c_117e p0 (by omega) σ' h.1.1 ((h.1.2 _ _ _ _ (by unfold MT; omega)).trans (hf _ _ _ _ (by decide)))).le (Nat.le_of_ble_eq_true rfl) (fun v σ2 ⟨y, h1, h2, h3, h4⟩ => ⟨y, h1, h2, h.1.tr h3 MN_sub, trivial⟩)) (pc' := 5) rfl (fun y1 => ?_)
  refine G_ex (fun hy1 => ?_)
  obtain rfl : y1 = 0 := by omega
  refine T_if_ne zk_99_5 (by omega) (pc' := 8) rfl (fun h2 => ?_) (fun h3 => ?_)
  · exfalso; omega
  ·
    refine T_ld zk_99_8 rfl rfl rfl (pc' := 9) rfl ?_
    refine T_op zk_99_9 rfl X_ic (pc' := 10) rfl ?_
    refine T_calli (K := fun y4 σ' => (y4 = (-1)) ∧ (fun σ' => IF (MT 28 28 28 28) σ σ' ∧ True) σ') (r := []) zk_99_10 rfl rfl rfl rfl rfl rfl (Or.inr ⟨_, _, _, _, rfl, vd_0, rfl⟩) (fun σ' h => (c_113 ((-1)) (by omega) σ' h.1.1 ).le (Nat.le_of_ble_eq_true rfl) (fun v σ2 ⟨y, h1, h2, h3, h4⟩ => ⟨y, h1, h2, h.1.tr h3 (fun _ _ _ _ h => h), trivial⟩)) (pc' := 13) rfl (fun y4 => ?_)
    refine G_ex (fun hy4 => ?_)
    obtain rfl : y4 = (-1) := by omega
    exact T_iret zk_99_13 rfl (fun σ' h => ⟨_, rfl, (by omega), h.1, trivial⟩)
/-- W.about -/
theorem x_about {xs : Nat × (Nat → Int32)} (p0 : Int) (p1 : Int) (h0 : -2147483648 ≤ p0 ∧ p0 ≤ 2147483647) (h1 : -2147483648 ≤ p1 ∧ p1 ≤ 2147483647) (σ : ZS) (hI : Inv σ) (hf : ∀ t i k j, t < 35 → σ t i k j = σ0 t i k j)  : CT xs 2 100 [av 0 0 0, iv p0, iv p1] σ (fun v σ' => ∃ y, v = some (iv y) ∧ (y = -1) ∧ IF MN σ σ' ∧ (True)) := by
  refine G_ct (J := (fun σ' => IF MN σ σ' ∧ True)) (L := [(0, av 0 0 0), (1, iv p0), (2, iv p1)]) (nL := 3) rfl rfl rfl ⟨IF.rf hI, trivial⟩ ?_
  refine T_ld zk_100_0 rfl rfl rfl (pc' := 1) rfl ?_
  refine T_ld zk_100_1 rfl rfl rfl (pc' := 2) rfl ?_
  refine T_calli (K := fun y1 σ' => (y1 = 0) ∧ (fun σ' => IF MN σ σ' ∧ True) σ') (r := []) zk_100_2 rfl rfl rfl rfl rfl rfl (Or.inr ⟨_, _, _, _, rfl, vd_0, rfl⟩) (fun σ' h => (c_117e p0 (by omega) σ' h.1.1 ((h.1.2 _ _ _ _ (fun q => q)).trans (hf _ _ _ _ (by decide)))).le (Nat.le_of_ble_eq_true rfl) (fun v σ2 ⟨y, h1, h2, h3, h4⟩ => ⟨y, h1, h2, h.1.tr h3 MN_sub, trivial⟩)) (pc' := 5) rfl (fun y1 => ?_)
  refine G_ex (fun hy1 => ?_)
  obtain rfl : y1 = 0 := by omega
  refine T_if_eq zk_100_5 (by omega) (pc' := 8) rfl (fun h2 => ?_) (fun h3 => ?_)
  ·
    refine T_op zk_100_24 rfl X_ic (pc' := 25) rfl ?_
    exact T_iret zk_100_25 rfl (fun σ' h => ⟨_, rfl, (by omega), h.1, trivial⟩)
  · exfalso; omega
/-- W.boat -/
theorem x_boat {xs : Nat × (Nat → Int32)} (p0 : Int) (p1 : Int) (p2 : Int) (p3 : Int) (p4 : Int) (h0 : -2147483648 ≤ p0 ∧ p0 ≤ 2147483647) (h1 : -2147483648 ≤ p1 ∧ p1 ≤ 2147483647) (h2 : -2147483648 ≤ p2 ∧ p2 ≤ 2147483647) (h3 : -2147483648 ≤ p3 ∧ p3 ≤ 2147483647) (h4 : -2147483648 ≤ p4 ∧ p4 ≤ 2147483647) (σ : ZS) (hI : Inv σ) (hf : ∀ t i k j, t < 35 → σ t i k j = σ0 t i k j)  : CT xs 3 101 [av 0 0 0, iv p0, iv p1, iv p2, iv p3, iv p4] σ (fun v σ' => ∃ y, v = some (iv y) ∧ ((y = -1 ∧ (¬ (0 ≤ p0 ∧ p0 ≤ 24))) ∨ (y = -6 ∧ ¬ (¬ (0 ≤ p0 ∧ p0 ≤ 24)) ∧ (¬ (1 ≤ p1 ∧ p1 ≤ 60) ∨ ¬ (1 ≤ p2 ∧ p2 ≤ 99) ∨ ¬ (1 ≤ p3 ∧ p3 ≤ 9) ∨ ¬ (0 ≤ p4 ∧ p4 ≤ 9))) ∨ (y = 0 ∧ ¬ (¬ (0 ≤ p0 ∧ p0 ≤ 24)) ∧ ¬ (¬ (1 ≤ p1 ∧ p1 ≤ 60) ∨ ¬ (1 ≤ p2 ∧ p2 ≤ 99) ∨ ¬ (1 ≤ p3 ∧ p3 ≤ 9) ∨ ¬ (0 ≤ p4 ∧ p4 ≤ 9)))) ∧ IF (M1 26 26) σ σ' ∧ (True)) := by
  refine G_ct (J := (fun σ' => IF (M1 26 26) σ σ' ∧ σ' 1 0 0 7 = 0 ∧ True)) (L := [(0, av 0 0 0), (1, iv p0), (2, iv p1), (3, iv p2), (4, iv p3), (5, iv p4)]) (nL := 6) rfl rfl rfl ⟨IF.rf hI, hf _ _ _ _ (by decide), trivial⟩ ?_
  refine T_ld zk_101_0 rfl rfl rfl (pc' := 1) rfl ?_
  refine T_calli (K := fun y1 σ' => ((y1 = 0 ∧ (p0 < 0 ∨ 24 < p0)) ∨ (y1 = 1 ∧ 0 ≤ p0 ∧ p0 ≤ 24)) ∧ (fun σ' => IF (M1 26 26) σ σ' ∧ σ' 1 0 0 7 = 0 ∧ True) σ') (r := []) zk_101_1 rfl rfl rfl rfl rfl rfl (Or.inl (Or.inl rfl)) (fun σ' h => (c_115 p0 (by omega) σ' h.1.1 ).le (Nat.le_of_ble_eq_true rfl) (fun v σ2 ⟨y, h1, h2, h3, h4⟩ => ⟨y, h1, h2, h.1.tr h3 MN_sub, (h3.2 _ _ _ _ (fun q => q)).trans (h.2.1), trivial⟩)) (pc' := 4) rfl (fun y1 => ?_)
  refine G_ex (fun hy1 => ?_)
  refine T_if_ne zk_101_4 (by omega) (pc' := 7) rfl (fun h2 => ?_) (fun h3 => ?_)
  ·
    refine T_ld zk_101_13 rfl rfl rfl (pc' := 14) rfl ?_
    refine T_op zk_101_14 rfl X_ic (pc' := 15) rfl ?_
    refine T_op zk_101_15 rfl (X_bi (v := 60) (by decide)) (pc' := 17) rfl ?_
    refine T_calli (K := fun y4 σ' => ((y4 = 0 ∧ (p1 < 1 ∨ 60 < p1)) ∨ (y4 = 1 ∧ 1 ≤ p1 ∧ p1 ≤ 60)) ∧ (fun σ' => IF (M1 26 26) σ σ' ∧ σ' 1 0 0 7 = 0 ∧ True) σ') (r := []) zk_101_17 rfl rfl rfl rfl rfl rfl (Or.inl (Or.inl rfl)) (fun σ' h => (c_114 p1 1 60 (by omega) (by omega) (by omega) σ' h.1.1 ).le (Nat.le_of_ble_eq_true rfl) (fun v σ2 ⟨y, h1, h2, h3, h4⟩ => ⟨y, h1, h2, h.1.tr h3 MN_sub, (h3.2 _ _ _ _ (fun q => q)).trans (h.2.1), trivial⟩)) (pc' := 20) rfl (fun y4 => ?_)
    refine G_ex (fun hy4 => ?_)
    refine T_if_eq zk_101_20 (by omega) (pc' := 23) rfl (fun h5 => ?_) (fun h6 => ?_)
    ·
      refine T_ld zk_101_33 rfl rfl rfl (pc' := 34) rfl ?_
      refine T_op zk_101_34 rfl (X_bi (v := -6) (by decide)) (pc' := 36) rfl ?_
      refine T_calli (K := fun y7 σ' => (y7 = (-6)) ∧ (fun σ' => IF (M1 26 26) σ σ' ∧ σ' 1 0 0 7 = 0 ∧ True) σ') (r := []) zk_101_36 rfl rfl rfl rfl rfl rfl (Or.inr ⟨_, _, _, _, rfl, vd_0, rfl⟩) (fun σ' h => (c_113 ((-6)) (by omega) σ' h.1.1 ).le (Nat.le_of_ble_eq_true rfl) (fun v σ2 ⟨y, h1, h2, h3, h4⟩ => ⟨y, h1, h2, h.1.tr h3 (fun t i k j h => by unfold MT at h; unfold M1; omega), (h3.2 _ _ _ _ (by unfold MT; omega)).trans (h.2.1), trivial⟩)) (pc' := 39) rfl (fun y7 => ?_)
      refine G_ex (fun hy7 => ?_)
      obtain rfl : y7 = (-6) := by omega
      exact T_iret zk_101_39 rfl (fun σ' h => ⟨_, rfl, (by omega), h.1, trivial⟩)
    ·
      refine T_ld zk_101_23 rfl rfl rfl (pc' := 24) rfl ?_
      refine T_op zk_101_24 rfl X_ic (pc' := 25) rfl ?_
      refine T_op zk_101_25 rfl (X_bi (v := 99) (by decide)) (pc' := 27) rfl ?_
      refine T_calli (K := fun y8 σ' => ((y8 = 0 ∧ (p2 < 1 ∨ 99 < p2)) ∨ (y8 = 1 ∧ 1 ≤ p2 ∧ p2 ≤ 99)) ∧ (fun σ' => IF (M1 26 26) σ σ' ∧ σ' 1 0 0 7 = 0 ∧ True) σ') (r := []) zk_101_27 rfl rfl rfl rfl rfl rfl (Or.inl (Or.inl rfl)) (fun σ' h => (c_114 p2 1 99 (by omega) (by omega) (by omega) σ' h.1.1 ).le (Nat.le_of_ble_eq_true rfl) (fun v σ2 ⟨y, h1, h2, h3, h4⟩ => ⟨y, h1, h2, h.1.tr h3 MN_sub, (h3.2 _ _ _ _ (fun q => q)).trans (h.2.1), trivial⟩)) (pc' := 30) rfl (fun y8 => ?_)
      refine G_ex (fun hy8 => ?_)
      refine T_if_ne zk_101_30 (by omega) (pc' := 33) rfl (fun h9 => ?_) (fun h10 => ?_)
      ·
        refine T_ld zk_101_40 rfl rfl rfl (pc' := 42) rfl ?_
        refine T_op zk_101_42 rfl X_ic (pc' := 43) rfl ?_
        refine T_op zk_101_43 rfl (X_bi (v := 9) (by decide)) (pc' := 45) rfl ?_
        refine T_calli (K := fun y11 σ' => ((y11 = 0 ∧ (p3 < 1 ∨ 9 < p3)) ∨ (y11 = 1 ∧ 1 ≤ p3 ∧ p3 ≤ 9)) ∧ (fun σ' => IF (M1 26 26) σ σ' ∧ σ' 1 0 0 7 = 0 ∧ True) σ') (r := []) zk_101_45 rfl rfl rfl rfl rfl rfl (Or.inl (Or.inl rfl)) (fun σ' h => (c_114 p3 1 9 (by omega) (by omega) (by omega) σ' h.1.1 ).le (Nat.le_of_ble_eq_true rfl) (fun v σ2 ⟨y, h1, h2, h3, h4⟩ => ⟨y, h1, h2, h.1.tr h3 MN_sub, (h3.2 _ _ _ _ (fun q => q)).trans (h.2.1), trivial⟩)) (pc' := 48) rfl (fun y11 => ?_)
        refine G_ex (fun hy11 => ?_)
        refine T_if_eq zk_101_48 (by omega) (pc' := 51) rfl (fun h12 => ?_) (fun h13 => ?_)
        ·
          refine T_ld zk_101_62 rfl rfl rfl (pc' := 63) rfl ?_
          refine T_op zk_101_63 rfl (X_bi (v := -6) (by decide)) (pc' := 65) rfl ?_
          refine T_calli (K := fun y14 σ' => (y14 = (-6)) ∧ (fun σ' => IF (M1 26 26) σ σ' ∧ σ' 1 0 0 7 = 0 ∧ True) σ') (r := []) zk_101_65 rfl rfl rfl rfl rfl rfl (Or.inr ⟨_, _, _, _, rfl, vd_0, rfl⟩) (fun σ' h => (c_113 ((-6)) (by omega) σ' h.1.1 ).le (Nat.le_of_ble_eq_true rfl) (fun v σ2 ⟨y, h1, h2, h3, h4⟩ => ⟨y, h1, h2, h.1.tr h3 (fun t i k j h => by unfold MT at h; unfold M1; omega), (h3.2 _ _ _ _ (by unfold MT; omega)).trans (h.2.1), trivial⟩)) (pc' := 68) rfl (fun y14 => ?_)
          refine G_ex (fun hy14 => ?_)
          obtain rfl : y14 = (-6) := by omega
          exact T_iret zk_101_68 rfl (fun σ' h => ⟨_, rfl, (by omega), h.1, trivial⟩)
        ·
          refine T_ld zk_101_51 rfl rfl rfl (pc' := 53) rfl ?_
          refine T_op zk_101_53 rfl X_ic (pc' := 54) rfl ?_
          refine T_op zk_101_54 rfl (X_bi (v := 9) (by decide)) (pc' := 56) rfl ?_
          refine T_calli (K := fun y15 σ' => ((y15 = 0 ∧ (p4 < 0 ∨ 9 < p4)) ∨ (y15 = 1 ∧ 0 ≤ p4 ∧ p4 ≤ 9)) ∧ (fun σ' => IF (M1 26 26) σ σ' ∧ σ' 1 0 0 7 = 0 ∧ True) σ') (r := []) zk_101_56 rfl rfl rfl rfl rfl rfl (Or.inl (Or.inl rfl)) (fun σ' h => (c_114 p4 0 9 (by omega) (by omega) (by omega) σ' h.1.1 ).le (Nat.le_of_ble_eq_true rfl) (fun v σ2 ⟨y, h1, h2, h3, h4⟩ => ⟨y, h1, h2, h.1.tr h3 MN_sub, (h3.2 _ _ _ _ (fun q => q)).trans (h.2.1), trivial⟩)) (pc' := 59) rfl (fun y15 => ?_)
          refine G_ex (fun hy15 => ?_)
          refine T_if_ne zk_101_59 (by omega) (pc' := 62) rfl (fun h16 => ?_) (fun h17 => ?_)
          ·
            refine T_ld zk_101_69 rfl rfl rfl (pc' := 70) rfl ?_
            refine T_getR (t' := 1) (i' := 0) (k' := 0) zk_101_70 rfl rfl rfl vd_0 (pc' := 73) rfl ?_
            refine G_getX (w := 0) zk_101_73 rfl (vd_1 (by omega)) (fun σ' h => h.2.1) (pc' := 76) rfl ?_
            refine T_op zk_101_76 rfl (X_bi (v := 6) (by decide)) (pc' := 78) rfl ?_
            refine T_icmp_lt zk_101_78 (by omega) (by omega) (pc' := 81) rfl (fun h18 => ?_) (fun h19 => ?_)
            ·
              refine T_ld zk_101_88 rfl rfl rfl (pc' := 89) rfl ?_
              refine T_getR (t' := 1) (i' := 0) (k' := 0) zk_101_89 rfl rfl rfl vd_0 (pc' := 92) rfl ?_
              refine T_getR (t' := 16) (i' := 0) (k' := 0) zk_101_92 rfl rfl rfl (vd_1 (by omega)) (pc' := 95) rfl ?_
              refine T_ld zk_101_95 rfl rfl rfl (pc' := 96) rfl ?_
              refine T_getR (t' := 1) (i' := 0) (k' := 0) zk_101_96 rfl rfl rfl vd_0 (pc' := 99) rfl ?_
              refine G_getX (w := 0) zk_101_99 rfl (vd_1 (by omega)) (fun σ' h => h.2.1) (pc' := 102) rfl ?_
              refine G_aald (t' := 26) (im := 9) (i' := 0) (ln := 6) zk_101_102 rfl rfl rfl (vd_16 (by omega)) (by omega) (by omega) (by omega) (pc' := 103) rfl ?_
              refine T_ld zk_101_103 rfl rfl rfl (pc' := 104) rfl ?_
              refine T_ld zk_101_104 rfl rfl rfl (pc' := 105) rfl ?_
              refine T_ld zk_101_105 rfl rfl rfl (pc' := 106) rfl ?_
              refine T_ld zk_101_106 rfl rfl rfl (pc' := 108) rfl ?_
              refine T_ld zk_101_108 rfl rfl rfl (pc' := 110) rfl ?_
              refine T_callv (J' := (fun σ' => IF (M1 26 26) σ σ' ∧ σ' 1 0 0 7 = 0 ∧ True)) (r := []) zk_101_110 rfl rfl rfl rfl rfl rfl (Or.inr ⟨_, _, _, _, rfl, (vd_26 (by omega) (by omega)), rfl⟩) (fun σ' h => (c_1 p0 p1 p2 p3 p4 (by omega) (by omega) (by omega) (by omega) (by omega) σ' h.1.1 ).le (Nat.le_of_ble_eq_true rfl) (fun v σ2 ⟨h1, h3, h4⟩ => ⟨h1, h.1.tr h3 (fun t i k j h => by unfold MT at h; unfold M1; omega), (h3.2 _ _ _ _ (by unfold MT; omega)).trans (h.2.1), trivial⟩)) (pc' := 113) rfl ?_
              refine T_ld zk_101_113 rfl rfl rfl (pc' := 114) rfl ?_
              refine T_getR (t' := 1) (i' := 0) (k' := 0) zk_101_114 rfl rfl rfl vd_0 (pc' := 117) rfl ?_
              refine T_op (st' := [av 1 0 0, av 1 0 0]) zk_101_117 rfl rfl (pc' := 118) rfl ?_
              refine G_getX (w := 0) zk_101_118 rfl (vd_1 (by omega)) (fun σ' h => h.2.1) (pc' := 121) rfl ?_
              refine T_op zk_101_121 rfl X_ic (pc' := 122) rfl ?_
              refine T_opc (w := 1) zk_101_122 rfl X_add (by omega) (pc' := 123) rfl ?_
              refine T_putf (J' := (fun σ' => IF (M1 26 26) σ σ' ∧ σ' 1 0 0 7 = 1 ∧ True)) zk_101_123 rfl rfl (vd_1 (by omega)) (fun σ' h => ⟨h.1.up (by simp only [rgP] <;> omega) (by unfold M1; omega), up_eq, trivial⟩) (pc' := 126) rfl ?_
              refine T_ld zk_101_126 rfl rfl rfl (pc' := 127) rfl ?_
              refine T_getR (t' := 1) (i' := 0) (k' := 0) zk_101_127 rfl rfl rfl vd_0 (pc' := 130) rfl ?_
              refine G_getX (w := 1) zk_101_130 rfl (vd_1 (by omega)) (fun σ' h => h.2.1) (pc' := 133) rfl ?_
              refine T_op zk_101_133 rfl X_ic (pc' := 134) rfl ?_
              refine T_opc (w := 0) zk_101_134 rfl X_sub (by omega) (pc' := 135) rfl ?_
              exact T_iret zk_101_135 rfl (fun σ' h => ⟨_, rfl, (by omega), h.1, trivial⟩)
            · exfalso; omega
          ·
            refine T_ld zk_101_62 rfl rfl rfl (pc' := 63) rfl ?_
            refine T_op zk_101_63 rfl (X_bi (v := -6) (by decide)) (pc' := 65) rfl ?_
            refine T_calli (K := fun y21 σ' => (y21 = (-6)) ∧ (fun σ' => IF (M1 26 26) σ σ' ∧ σ' 1 0 0 7 = 0 ∧ True) σ') (r := []) zk_101_65 rfl rfl rfl rfl rfl rfl (Or.inr ⟨_, _, _, _, rfl, vd_0, rfl⟩) (fun σ' h => (c_113 ((-6)) (by omega) σ' h.1.1 ).le (Nat.le_of_ble_eq_true rfl) (fun v σ2 ⟨y, h1, h2, h3, h4⟩ => ⟨y, h1, h2, h.1.tr h3 (fun t i k j h => by unfold MT at h; unfold M1; omega), (h3.2 _ _ _ _ (by unfold MT; omega)).trans (h.2.1), trivial⟩)) (pc' := 68) rfl (fun y21 => ?_)
            refine G_ex (fun hy21 => ?_)
            obtain rfl : y21 = (-6) := by omega
            exact T_iret zk_101_68 rfl (fun σ' h => ⟨_, rfl, (by omega), h.1, trivial⟩)
      ·
        refine T_ld zk_101_33 rfl rfl rfl (pc' := 34) rfl ?_
        refine T_op zk_101_34 rfl (X_bi (v := -6) (by decide)) (pc' := 36) rfl ?_
        refine T_calli (K := fun y22 σ' => (y22 = (-6)) ∧ (fun σ' => IF (M1 26 26) σ σ' ∧ σ' 1 0 0 7 = 0 ∧ True) σ') (r := []) zk_101_36 rfl rfl rfl rfl rfl rfl (Or.inr ⟨_, _, _, _, rfl, vd_0, rfl⟩) (fun σ' h => (c_113 ((-6)) (by omega) σ' h.1.1 ).le (Nat.le_of_ble_eq_true rfl) (fun v σ2 ⟨y, h1, h2, h3, h4⟩ => ⟨y, h1, h2, h.1.tr h3 (fun t i k j h => by unfold MT at h; unfold M1; omega), (h3.2 _ _ _ _ (by unfold MT; omega)).trans (h.2.1), trivial⟩)) (pc' := 39) rfl (fun y22 => ?_)
        refine G_ex (fun hy22 => ?_)
        obtain rfl : y22 = (-6) := by omega
        exact T_iret zk_101_39 rfl (fun σ' h => ⟨_, rfl, (by omega), h.1, trivial⟩)
  ·
    refine T_ld zk_101_7 rfl rfl rfl (pc' := 8) rfl ?_
    refine T_op zk_101_8 rfl X_ic (pc' := 9) rfl ?_
    refine T_calli (K := fun y23 σ' => (y23 = (-1)) ∧ (fun σ' => IF (M1 26 26) σ σ' ∧ σ' 1 0 0 7 = 0 ∧ True) σ') (r := []) zk_101_9 rfl rfl rfl rfl rfl rfl (Or.inr ⟨_, _, _, _, rfl, vd_0, rfl⟩) (fun σ' h => (c_113 ((-1)) (by omega) σ' h.1.1 ).le (Nat.le_of_ble_eq_true rfl) (fun v σ2 ⟨y, h1, h2, h3, h4⟩ => ⟨y, h1, h2, h.1.tr h3 (fun t i k j h => by unfold MT at h; unfold M1; omega), (h3.2 _ _ _ _ (by unfold MT; omega)).trans (h.2.1), trivial⟩)) (pc' := 12) rfl (fun y23 => ?_)
    refine G_ex (fun hy23 => ?_)
    obtain rfl : y23 = (-1) := by omega
    exact T_iret zk_101_12 rfl (fun σ' h => ⟨_, rfl, (by omega), h.1, trivial⟩)
/-- W.goal -/
theorem x_goal {xs : Nat × (Nat → Int32)} (p0 : Int) (p1 : Int) (h0 : -2147483648 ≤ p0 ∧ p0 ≤ 2147483647) (h1 : -2147483648 ≤ p1 ∧ p1 ≤ 2147483647) (σ : ZS) (hI : Inv σ) (hf : ∀ t i k j, t < 35 → σ t i k j = σ0 t i k j)  : CT xs 3 102 [av 0 0 0, iv p0, iv p1] σ (fun v σ' => ∃ y, v = some (iv y) ∧ (y = -1) ∧ IF (MT 28 28 28 28) σ σ' ∧ (True)) := by
  refine G_ct (J := (fun σ' => IF (MT 28 28 28 28) σ σ' ∧ True)) (L := [(0, av 0 0 0), (1, iv p0), (2, iv p1)]) (nL := 4) rfl rfl rfl ⟨IF.rf hI, trivial⟩ ?_
  refine T_ld zk_102_0 rfl rfl rfl (pc' := 1) rfl ?_
  refine T_ld zk_102_1 rfl rfl rfl (pc' := 2) rfl ?_
  refine T_calli (K := fun y1 σ' => (y1 = 0) ∧ (fun σ' => IF (MT 28 28 28 28) σ σ' ∧ True) σ') (r := []) zk_102_2 rfl rfl rfl rfl rfl rfl (Or.inr ⟨_, _, _, _, rfl, vd_0, rfl⟩) (fun σ' h => (c_118e p0 (by omega) σ' h.1.1 ((h.1.2 _ _ _ _ (by unfold MT; omega)).trans (hf _ _ _ _ (by decide)))).le (Nat.le_of_ble_eq_true rfl) (fun v σ2 ⟨y, h1, h2, h3, h4⟩ => ⟨y, h1, h2, h.1.tr h3 MN_sub, trivial⟩)) (pc' := 5) rfl (fun y1 => ?_)
  refine G_ex (fun hy1 => ?_)
  obtain rfl : y1 = 0 := by omega
  refine T_if_eq zk_102_5 (by omega) (pc' := 8) rfl (fun h2 => ?_) (fun h3 => ?_)
  ·
    refine T_ld zk_102_20 rfl rfl rfl (pc' := 21) rfl ?_
    refine T_op zk_102_21 rfl X_ic (pc' := 22) rfl ?_
    refine T_calli (K := fun y4 σ' => (y4 = (-1)) ∧ (fun σ' => IF (MT 28 28 28 28) σ σ' ∧ True) σ') (r := []) zk_102_22 rfl rfl rfl rfl rfl rfl (Or.inr ⟨_, _, _, _, rfl, vd_0, rfl⟩) (fun σ' h => (c_113 ((-1)) (by omega) σ' h.1.1 ).le (Nat.le_of_ble_eq_true rfl) (fun v σ2 ⟨y, h1, h2, h3, h4⟩ => ⟨y, h1, h2, h.1.tr h3 (fun _ _ _ _ h => h), trivial⟩)) (pc' := 25) rfl (fun y4 => ?_)
    refine G_ex (fun hy4 => ?_)
    obtain rfl : y4 = (-1) := by omega
    exact T_iret zk_102_25 rfl (fun σ' h => ⟨_, rfl, (by omega), h.1, trivial⟩)
  · exfalso; omega
/-- W.stepOf -/
theorem x_stepOf {xs : Nat × (Nat → Int32)} (p0 : Int) (h0 : -2147483648 ≤ p0 ∧ p0 ≤ 2147483647) (σ : ZS) (hI : Inv σ) (hf : ∀ t i k j, t < 35 → σ t i k j = σ0 t i k j)  : CT xs 2 103 [av 0 0 0, iv p0] σ (fun v σ' => ∃ y, v = some (iv y) ∧ (y = -1) ∧ IF MN σ σ' ∧ (True)) := by
  refine G_ct (J := (fun σ' => IF MN σ σ' ∧ True)) (L := [(0, av 0 0 0), (1, iv p0)]) (nL := 2) rfl rfl rfl ⟨IF.rf hI, trivial⟩ ?_
  refine T_ld zk_103_0 rfl rfl rfl (pc' := 1) rfl ?_
  refine T_ld zk_103_1 rfl rfl rfl (pc' := 2) rfl ?_
  refine T_calli (K := fun y1 σ' => (y1 = 0) ∧ (fun σ' => IF MN σ σ' ∧ True) σ') (r := []) zk_103_2 rfl rfl rfl rfl rfl rfl (Or.inr ⟨_, _, _, _, rfl, vd_0, rfl⟩) (fun σ' h => (c_118e p0 (by omega) σ' h.1.1 ((h.1.2 _ _ _ _ (fun q => q)).trans (hf _ _ _ _ (by decide)))).le (Nat.le_of_ble_eq_true rfl) (fun v σ2 ⟨y, h1, h2, h3, h4⟩ => ⟨y, h1, h2, h.1.tr h3 MN_sub, trivial⟩)) (pc' := 5) rfl (fun y1 => ?_)
  refine G_ex (fun hy1 => ?_)
  obtain rfl : y1 = 0 := by omega
  refine T_if_eq zk_103_5 (by omega) (pc' := 8) rfl (fun h2 => ?_) (fun h3 => ?_)
  ·
    refine T_op zk_103_27 rfl X_ic (pc' := 28) rfl ?_
    exact T_iret zk_103_28 rfl (fun σ' h => ⟨_, rfl, (by omega), h.1, trivial⟩)
  · exfalso; omega
/-- W.route -/
theorem x_route {xs : Nat × (Nat → Int32)} (p0 : Int) (p1 : Int) (p2 : Int) (h0 : -2147483648 ≤ p0 ∧ p0 ≤ 2147483647) (h1 : -2147483648 ≤ p1 ∧ p1 ≤ 2147483647) (h2 : -2147483648 ≤ p2 ∧ p2 ≤ 2147483647) (σ : ZS) (hI : Inv σ) (hf : ∀ t i k j, t < 35 → σ t i k j = σ0 t i k j)  : CT xs 2 104 [av 0 0 0, iv p0, iv p1, iv p2] σ (fun v σ' => ∃ y, v = some (iv y) ∧ (y = -1) ∧ IF MN σ σ' ∧ (True)) := by
  refine G_ct (J := (fun σ' => IF MN σ σ' ∧ True)) (L := [(0, av 0 0 0), (1, iv p0), (2, iv p1), (3, iv p2)]) (nL := 7) rfl rfl rfl ⟨IF.rf hI, trivial⟩ ?_
  refine T_ld zk_104_0 rfl rfl rfl (pc' := 1) rfl ?_
  refine T_ld zk_104_1 rfl rfl rfl (pc' := 2) rfl ?_
  refine T_calli (K := fun y1 σ' => (y1 = 0) ∧ (fun σ' => IF MN σ σ' ∧ True) σ') (r := []) zk_104_2 rfl rfl rfl rfl rfl rfl (Or.inr ⟨_, _, _, _, rfl, vd_0, rfl⟩) (fun σ' h => (c_118e p0 (by omega) σ' h.1.1 ((h.1.2 _ _ _ _ (fun q => q)).trans (hf _ _ _ _ (by decide)))).le (Nat.le_of_ble_eq_true rfl) (fun v σ2 ⟨y, h1, h2, h3, h4⟩ => ⟨y, h1, h2, h.1.tr h3 MN_sub, trivial⟩)) (pc' := 5) rfl (fun y1 => ?_)
  refine G_ex (fun hy1 => ?_)
  obtain rfl : y1 = 0 := by omega
  refine T_if_eq zk_104_5 (by omega) (pc' := 8) rfl (fun h2 => ?_) (fun h3 => ?_)
  ·
    refine T_op zk_104_15 rfl X_ic (pc' := 16) rfl ?_
    exact T_iret zk_104_16 rfl (fun σ' h => ⟨_, rfl, (by omega), h.1, trivial⟩)
  · exfalso; omega
/-- W.sails -/
theorem x_sails {xs : Nat × (Nat → Int32)} (p0 : Int) (p1 : Int) (h0 : -2147483648 ≤ p0 ∧ p0 ≤ 2147483647) (h1 : -2147483648 ≤ p1 ∧ p1 ≤ 2147483647) (σ : ZS) (hI : Inv σ) (hf : ∀ t i k j, t < 35 → σ t i k j = σ0 t i k j)  : CT xs 2 105 [av 0 0 0, iv p0, iv p1] σ (fun v σ' => ∃ y, v = some (iv y) ∧ (y = -1) ∧ IF MN σ σ' ∧ (True)) := by
  refine G_ct (J := (fun σ' => IF MN σ σ' ∧ True)) (L := [(0, av 0 0 0), (1, iv p0), (2, iv p1)]) (nL := 3) rfl rfl rfl ⟨IF.rf hI, trivial⟩ ?_
  refine T_ld zk_105_0 rfl rfl rfl (pc' := 1) rfl ?_
  refine T_ld zk_105_1 rfl rfl rfl (pc' := 2) rfl ?_
  refine T_calli (K := fun y1 σ' => (y1 = 0) ∧ (fun σ' => IF MN σ σ' ∧ True) σ') (r := []) zk_105_2 rfl rfl rfl rfl rfl rfl (Or.inr ⟨_, _, _, _, rfl, vd_0, rfl⟩) (fun σ' h => (c_118e p0 (by omega) σ' h.1.1 ((h.1.2 _ _ _ _ (fun q => q)).trans (hf _ _ _ _ (by decide)))).le (Nat.le_of_ble_eq_true rfl) (fun v σ2 ⟨y, h1, h2, h3, h4⟩ => ⟨y, h1, h2, h.1.tr h3 MN_sub, trivial⟩)) (pc' := 5) rfl (fun y1 => ?_)
  refine G_ex (fun hy1 => ?_)
  obtain rfl : y1 = 0 := by omega
  refine T_if_eq zk_105_5 (by omega) (pc' := 8) rfl (fun h2 => ?_) (fun h3 => ?_)
  ·
    refine T_op zk_105_24 rfl X_ic (pc' := 25) rfl ?_
    exact T_iret zk_105_25 rfl (fun σ' h => ⟨_, rfl, (by omega), h.1, trivial⟩)
  · exfalso; omega
/-- W.quarters -/
theorem x_quarters {xs : Nat × (Nat → Int32)} (p0 : Int) (h0 : -2147483648 ≤ p0 ∧ p0 ≤ 2147483647) (σ : ZS) (hI : Inv σ) (hf : ∀ t i k j, t < 35 → σ t i k j = σ0 t i k j)  : CT xs 4 106 [av 0 0 0, iv p0] σ (fun v σ' => ∃ y, v = some (iv y) ∧ ((y = -6 ∧ (¬ (1 ≤ p0 ∧ p0 ≤ 200))) ∨ (y = p0 ∧ ¬ (¬ (1 ≤ p0 ∧ p0 ≤ 200)))) ∧ IF (MDr 0) σ σ' ∧ (True)) := by
  refine G_ct (J := (fun σ' => IF (MDr 0) σ σ' ∧ (∀ j, 0 ≤ j → j < 25 → σ' 4 0 0 j = 0) ∧ σ' 1 0 0 13 = 0 ∧ True)) (L := [(0, av 0 0 0), (1, iv p0)]) (nL := 3) rfl rfl rfl ⟨IF.rf hI, (fun j _ _ => hf _ _ _ _ (by decide)), hf _ _ _ _ (by decide), trivial⟩ ?_
  refine T_ld zk_106_0 rfl rfl rfl (pc' := 1) rfl ?_
  refine T_op zk_106_1 rfl X_ic (pc' := 2) rfl ?_
  refine T_op zk_106_2 rfl (X_si (v := 200) (by decide)) (pc' := 5) rfl ?_
  refine T_calli (K := fun y1 σ' => ((y1 = 0 ∧ (p0 < 1 ∨ 200 < p0)) ∨ (y1 = 1 ∧ 1 ≤ p0 ∧ p0 ≤ 200)) ∧ (fun σ' => IF (MDr 0) σ σ' ∧ (∀ j, 0 ≤ j → j < 25 → σ' 4 0 0 j = 0) ∧ σ' 1 0 0 13 = 0 ∧ True) σ') (r := []) zk_106_5 rfl rfl rfl rfl rfl rfl (Or.inl (Or.inl rfl)) (fun σ' h => (c_114 p0 1 200 (by omega) (by omega) (by omega) σ' h.1.1 ).le (Nat.le_of_ble_eq_true rfl) (fun v σ2 ⟨y, h1, h2, h3, h4⟩ => ⟨y, h1, h2, h.1.tr h3 MN_sub, fun j a b => (h3.2 _ _ _ _ (fun q => q)).trans (h.2.1 j a b), (h3.2 _ _ _ _ (fun q => q)).trans (h.2.2.1), trivial⟩)) (pc' := 8) rfl (fun y1 => ?_)
  refine G_ex (fun hy1 => ?_)
  refine T_if_ne zk_106_8 (by omega) (pc' := 11) rfl (fun h2 => ?_) (fun h3 => ?_)
  ·
    refine T_ld zk_106_18 rfl rfl rfl (pc' := 19) rfl ?_
    refine T_getR (t' := 1) (i' := 0) (k' := 0) zk_106_19 rfl rfl rfl vd_0 (pc' := 22) rfl ?_
    refine G_getX (w := 0) zk_106_22 rfl (vd_1 (by omega)) (fun σ' h => h.2.2.1) (pc' := 25) rfl ?_
    refine T_ld zk_106_25 rfl rfl rfl (pc' := 26) rfl ?_
    refine T_op zk_106_26 rfl X_add (pc' := 27) rfl ?_
    refine T_op zk_106_27 rfl (X_si (v := 20000) (by decide)) (pc' := 30) rfl ?_
    refine T_icmp_le zk_106_30 (by omega) (by omega) (pc' := 33) rfl (fun h4 => ?_) (fun h5 => ?_)
    ·
      refine T_op zk_106_40 rfl X_ic (pc' := 41) rfl ?_
      refine T_st (L' := [(0, av 0 0 0), (1, iv p0), (2, iv 0)]) zk_106_41 (nL := 3) rfl rfl rfl rfl rfl (pc' := 42) rfl ?_
      refine T_loop1 (fun x6 => ((200 - x6 : Int)).toNat) (fun x6 => (0 ≤ x6 ∧ x6 ≤ 200) ∧ x6 ≤ p0) (fun x6 => TJ xs (fun σ' => IF (MDr 0) σ σ' ∧ (∀ j, 0 ≤ j → j < 25 → σ' 4 0 0 j = 0) ∧ σ' 1 0 0 13 = x6 ∧ True) 3 106 42 [(0, av 0 0 0), (1, iv p0), (2, iv x6)] [] _) ?_ 0 (by omega)
      intro x6 hp8 ih7
      refine T_ld zk_106_42 rfl rfl rfl (pc' := 43) rfl ?_
      refine T_ld zk_106_43 rfl rfl rfl (pc' := 44) rfl ?_
      refine T_icmp_ge zk_106_44 (by omega) (by omega) (pc' := 47) rfl (fun h9 => ?_) (fun h10 => ?_)
      ·
        refine T_ld zk_106_68 rfl rfl rfl (pc' := 69) rfl ?_
        refine T_getR (t' := 1) (i' := 0) (k' := 0) zk_106_69 rfl rfl rfl vd_0 (pc' := 72) rfl ?_
        refine G_getX (w := x6) zk_106_72 rfl (vd_1 (by omega)) (fun σ' h => h.2.2.1) (pc' := 75) rfl ?_
        exact T_iret zk_106_75 rfl (fun σ' h => ⟨_, rfl, (by omega), h.1, trivial⟩)
      ·
        refine T_ld zk_106_47 rfl rfl rfl (pc' := 48) rfl ?_
        refine T_getR (t' := 1) (i' := 0) (k' := 0) zk_106_48 rfl rfl rfl vd_0 (pc' := 51) rfl ?_
        refine T_op zk_106_51 rfl X_ic (pc' := 52) rfl ?_
        refine T_callv (J' := (fun σ' => IF (MDr 0) σ σ' ∧ σ' 1 0 0 13 = x6 ∧ (∀ j, 0 ≤ j → j < 25 → σ' 4 0 0 j = 0) ∧ True)) (r := []) zk_106_52 rfl rfl rfl rfl rfl rfl (Or.inr ⟨_, _, _, _, rfl, (vd_1 (by omega)), rfl⟩) (fun σ' h => (c_12e 0 0 (by omega) (by omega) σ' h.1.1 ((h.1.2 _ _ _ _ (by unfold MDr; omega)).trans (hf _ _ _ _ (by decide))) ((h.1.2 _ _ _ _ (by unfold MDr; omega)).trans (hf _ _ _ _ (by decide))) ((h.1.2 _ _ _ _ (by unfold MDr; omega)).trans (hf _ _ _ _ (by decide))) (fun j a b => h.2.1 j (by omega) (by omega)) ((h.1.2 _ _ _ _ (by unfold MDr; omega)).trans (hf _ _ _ _ (by decide)))).le (Nat.le_of_ble_eq_true rfl) (fun v σ2 ⟨h1, h3, h4⟩ => ⟨h1, h.1.tr h3 (fun t i k j h => by unfold MI at h; unfold MDr; omega), (h3.2 _ _ _ _ (by unfold MI; omega)).trans (h.2.2.1), h4.1, trivial⟩)) (pc' := 55) rfl ?_
        refine T_ld zk_106_55 rfl rfl rfl (pc' := 56) rfl ?_
        refine T_getR (t' := 1) (i' := 0) (k' := 0) zk_106_56 rfl rfl rfl vd_0 (pc' := 59) rfl ?_
        refine T_callv (J' := (fun σ' => IF (MDr 0) σ σ' ∧ (∀ j, 0 ≤ j → j < 25 → σ' 4 0 0 j = 0) ∧ σ' 1 0 0 13 = x6 + 1 ∧ True)) (r := []) zk_106_59 rfl rfl rfl rfl rfl rfl (Or.inr ⟨_, _, _, _, rfl, (vd_1 (by omega)), rfl⟩) (fun σ' h => (c_13e 0 x6 (by omega) (by omega) σ' h.1.1 ((h.1.2 _ _ _ _ (by unfold MDr; omega)).trans (hf _ _ _ _ (by decide))) ((h.1.2 _ _ _ _ (by unfold MDr; omega)).trans (hf _ _ _ _ (by decide))) ((h.1.2 _ _ _ _ (by unfold MDr; omega)).trans (hf _ _ _ _ (by decide))) (h.2.1)).le (Nat.le_of_ble_eq_true rfl) (fun v σ2 ⟨h1, h3, h4⟩ => ⟨h1, h.1.tr h3 (fun t i k j h => by unfold MP at h; unfold MDr; omega), fun j a b => (h3.2 _ _ _ _ (by unfold MP; omega)).trans (h.2.2.1 j a b), h4.1, trivial⟩)) (pc' := 62) rfl ?_
        refine T_iinc (L' := [(0, av 0 0 0), (1, iv p0), (2, iv (x6 + 1))]) zk_106_62 (nL := 3) rfl rfl rfl rfl (pc' := 65) rfl ?_
        refine T_goto zk_106_65 ?_
        refine G_know (J' := (fun σ' => IF (MDr 0) σ σ' ∧ (∀ j, 0 ≤ j → j < 25 → σ' 4 0 0 j = 0) ∧ σ' 1 0 0 13 = (x6 + 1) ∧ True)) (fun σ' h => ⟨h.1, h.2.1, (h.2.2.1).trans (by omega), trivial⟩) ?_
        exact ih7 (x6 + 1) (by omega) (by omega)
    · exfalso; omega
  ·
    refine T_ld zk_106_11 rfl rfl rfl (pc' := 12) rfl ?_
    refine T_op zk_106_12 rfl (X_bi (v := -6) (by decide)) (pc' := 14) rfl ?_
    refine T_calli (K := fun y13 σ' => (y13 = (-6)) ∧ (fun σ' => IF (MDr 0) σ σ' ∧ (∀ j, 0 ≤ j → j < 25 → σ' 4 0 0 j = 0) ∧ σ' 1 0 0 13 = 0 ∧ True) σ') (r := []) zk_106_14 rfl rfl rfl rfl rfl rfl (Or.inr ⟨_, _, _, _, rfl, vd_0, rfl⟩) (fun σ' h => (c_113 ((-6)) (by omega) σ' h.1.1 ).le (Nat.le_of_ble_eq_true rfl) (fun v σ2 ⟨y, h1, h2, h3, h4⟩ => ⟨y, h1, h2, h.1.tr h3 (fun t i k j h => by unfold MT at h; unfold MDr; omega), fun j a b => (h3.2 _ _ _ _ (by unfold MT; omega)).trans (h.2.1 j a b), (h3.2 _ _ _ _ (by unfold MT; omega)).trans (h.2.2.1), trivial⟩)) (pc' := 17) rfl (fun y13 => ?_)
    refine G_ex (fun hy13 => ?_)
    obtain rfl : y13 = (-6) := by omega
    exact T_iret zk_106_17 rfl (fun σ' h => ⟨_, rfl, (by omega), h.1, trivial⟩)
/-- W.foretold -/
theorem x_foretold {xs : Nat × (Nat → Int32)} (p0 : Int) (p1 : Int) (h0 : -2147483648 ≤ p0 ∧ p0 ≤ 2147483647) (h1 : -2147483648 ≤ p1 ∧ p1 ≤ 2147483647) (σ : ZS) (hI : Inv σ) (hf : ∀ t i k j, t < 35 → σ t i k j = σ0 t i k j)  : CT xs 4 107 [av 0 0 0, iv p0, iv p1] σ (fun v σ' => ∃ y, v = some (iv y) ∧ ((y = 1000 ∧ (¬ (0 ≤ p0 ∧ p0 ≤ 24) ∨ ¬ (0 ≤ p1 ∧ p1 ≤ 200))) ∨ (y = 0 ∧ ¬ (¬ (0 ≤ p0 ∧ p0 ≤ 24) ∨ ¬ (0 ≤ p1 ∧ p1 ≤ 200)))) ∧ IF (MYR 2) σ σ' ∧ (True)) := by
  refine G_ct (J := (fun σ' => IF (MYR 2) σ σ' ∧ True)) (L := [(0, av 0 0 0), (1, iv p0), (2, iv p1)]) (nL := 4) rfl rfl rfl ⟨IF.rf hI, trivial⟩ ?_
  refine T_ld zk_107_0 rfl rfl rfl (pc' := 1) rfl ?_
  refine T_calli (K := fun y1 σ' => ((y1 = 0 ∧ (p0 < 0 ∨ 24 < p0)) ∨ (y1 = 1 ∧ 0 ≤ p0 ∧ p0 ≤ 24)) ∧ (fun σ' => IF (MYR 2) σ σ' ∧ True) σ') (r := []) zk_107_1 rfl rfl rfl rfl rfl rfl (Or.inl (Or.inl rfl)) (fun σ' h => (c_115 p0 (by omega) σ' h.1.1 ).le (Nat.le_of_ble_eq_true rfl) (fun v σ2 ⟨y, h1, h2, h3, h4⟩ => ⟨y, h1, h2, h.1.tr h3 MN_sub, trivial⟩)) (pc' := 4) rfl (fun y1 => ?_)
  refine G_ex (fun hy1 => ?_)
  refine T_if_eq zk_107_4 (by omega) (pc' := 7) rfl (fun h2 => ?_) (fun h3 => ?_)
  ·
    refine T_op zk_107_18 rfl (X_si (v := 1000) (by decide)) (pc' := 21) rfl ?_
    exact T_iret zk_107_21 rfl (fun σ' h => ⟨_, rfl, (by omega), h.1, trivial⟩)
  ·
    refine T_ld zk_107_7 rfl rfl rfl (pc' := 8) rfl ?_
    refine T_op zk_107_8 rfl X_ic (pc' := 9) rfl ?_
    refine T_op zk_107_9 rfl (X_si (v := 200) (by decide)) (pc' := 12) rfl ?_
    refine T_calli (K := fun y4 σ' => ((y4 = 0 ∧ (p1 < 0 ∨ 200 < p1)) ∨ (y4 = 1 ∧ 0 ≤ p1 ∧ p1 ≤ 200)) ∧ (fun σ' => IF (MYR 2) σ σ' ∧ True) σ') (r := []) zk_107_12 rfl rfl rfl rfl rfl rfl (Or.inl (Or.inl rfl)) (fun σ' h => (c_114 p1 0 200 (by omega) (by omega) (by omega) σ' h.1.1 ).le (Nat.le_of_ble_eq_true rfl) (fun v σ2 ⟨y, h1, h2, h3, h4⟩ => ⟨y, h1, h2, h.1.tr h3 MN_sub, trivial⟩)) (pc' := 15) rfl (fun y4 => ?_)
    refine G_ex (fun hy4 => ?_)
    refine T_if_ne zk_107_15 (by omega) (pc' := 18) rfl (fun h5 => ?_) (fun h6 => ?_)
    ·
      refine T_ld zk_107_22 rfl rfl rfl (pc' := 23) rfl ?_
      refine T_getR (t' := 1) (i' := 2) (k' := 0) zk_107_23 rfl rfl rfl vd_0 (pc' := 26) rfl ?_
      refine T_ld zk_107_26 rfl rfl rfl (pc' := 27) rfl ?_
      refine T_getR (t' := 1) (i' := 0) (k' := 0) zk_107_27 rfl rfl rfl vd_0 (pc' := 30) rfl ?_
      refine T_callv (J' := (fun σ' => IF (MYR 2) σ σ' ∧ (∀ j, 0 ≤ j → j < 25 → σ' 4 2 0 j = 0) ∧ σ' 11 2 0 0 = 0 ∧ σ' 17 2 0 0 = 0 ∧ σ' 17 2 1 0 = 0 ∧ σ' 1 2 0 5 = 0 ∧ σ' 1 2 0 6 = 0 ∧ σ' 1 2 0 7 = 0 ∧ σ' 1 2 0 13 = 0 ∧ True)) (r := []) zk_107_30 rfl rfl rfl rfl rfl rfl (Or.inr ⟨_, _, _, _, rfl, (vd_1 (by omega)), rfl⟩) (fun σ' h => (c_22_2   σ' h.1.1 (fun j a b => (h.1.2 _ _ _ _ (by unfold MYR; omega)).trans (hf _ _ _ _ (by decide))) ((h.1.2 _ _ _ _ (by unfold MYR; omega)).trans (hf _ _ _ _ (by decide))) ((h.1.2 _ _ _ _ (by unfold MYR; omega)).trans (hf _ _ _ _ (by decide))) ((h.1.2 _ _ _ _ (by unfold MYR; omega)).trans (hf _ _ _ _ (by decide))) ((h.1.2 _ _ _ _ (by unfold MYR; omega)).trans (hf _ _ _ _ (by decide))) ((h.1.2 _ _ _ _ (by unfold MYR; omega)).trans (hf _ _ _ _ (by decide))) ((h.1.2 _ _ _ _ (by unfold MYR; omega)).trans (hf _ _ _ _ (by decide))) ((h.1.2 _ _ _ _ (by unfold MYR; omega)).trans (hf _ _ _ _ (by decide)))).le (Nat.le_of_ble_eq_true rfl) (fun v σ2 ⟨h1, h3, h4⟩ => ⟨h1, h.1.tr h3 (fun t i k j h => by unfold MY at h; unfold MYR; omega), h4.1, h4.2.1, h4.2.2.1, h4.2.2.2.1, h4.2.2.2.2.1, h4.2.2.2.2.2.1, h4.2.2.2.2.2.2.1, h4.2.2.2.2.2.2.2.1, trivial⟩)) (pc' := 33) rfl ?_
      refine T_op zk_107_33 rfl X_ic (pc' := 34) rfl ?_
      refine T_st (L' := [(0, av 0 0 0), (1, iv p0), (2, iv p1), (3, iv 0)]) zk_107_34 (nL := 4) rfl rfl rfl rfl rfl (pc' := 35) rfl ?_
      refine T_loop1 (fun x8 => ((200 - x8 : Int)).toNat) (fun x8 => (0 ≤ x8 ∧ x8 ≤ 200)) (fun x8 => TJ xs (fun σ' => IF (MYR 2) σ σ' ∧ (∀ j, 0 ≤ j → j < 25 → σ' 4 2 0 j = 0) ∧ σ' 11 2 0 0 = 0 ∧ σ' 17 2 0 0 = 0 ∧ σ' 17 2 1 0 = 0 ∧ σ' 1 2 0 5 = 0 ∧ σ' 1 2 0 6 = 0 ∧ σ' 1 2 0 7 = 0 ∧ σ' 1 2 0 13 = x8 ∧ True) 3 107 35 [(0, av 0 0 0), (1, iv p0), (2, iv p1), (3, iv x8)] [] _) ?_ 0 (by omega)
      intro x8 hp10 ih9
      refine T_ld zk_107_35 rfl rfl rfl (pc' := 36) rfl ?_
      refine T_ld zk_107_36 rfl rfl rfl (pc' := 37) rfl ?_
      refine T_icmp_ge zk_107_37 (by omega) (by omega) (pc' := 40) rfl (fun h11 => ?_) (fun h12 => ?_)
      ·
        refine T_ld zk_107_61 rfl rfl rfl (pc' := 62) rfl ?_
        refine T_getR (t' := 1) (i' := 2) (k' := 0) zk_107_62 rfl rfl rfl vd_0 (pc' := 65) rfl ?_
        refine T_getR (t' := 2) (i' := 2) (k' := 0) zk_107_65 rfl rfl rfl (vd_1 (by omega)) (pc' := 68) rfl ?_
        refine T_getR (t' := 4) (i' := 2) (k' := 0) zk_107_68 rfl rfl rfl (vd_2 (by omega)) (pc' := 71) rfl ?_
        refine T_ld zk_107_71 rfl rfl rfl (pc' := 72) rfl ?_
        refine G_ialdX (w := 0) (ln := 25) zk_107_72 rfl rfl (vd_4 (by omega)) (by omega) (by omega) (by omega) (fun σ' h => h.2.1 _ (by omega) (by omega)) (pc' := 73) rfl ?_
        exact T_iret zk_107_73 rfl (fun σ' h => ⟨_, rfl, (by omega), h.1, trivial⟩)
      ·
        refine T_ld zk_107_40 rfl rfl rfl (pc' := 41) rfl ?_
        refine T_getR (t' := 1) (i' := 2) (k' := 0) zk_107_41 rfl rfl rfl vd_0 (pc' := 44) rfl ?_
        refine T_op zk_107_44 rfl X_ic (pc' := 45) rfl ?_
        refine T_callv (J' := (fun σ' => IF (MYR 2) σ σ' ∧ σ' 11 2 0 0 = 0 ∧ σ' 17 2 0 0 = 0 ∧ σ' 17 2 1 0 = 0 ∧ σ' 1 2 0 5 = 0 ∧ σ' 1 2 0 6 = 0 ∧ σ' 1 2 0 7 = 0 ∧ σ' 1 2 0 13 = x8 ∧ (∀ j, 0 ≤ j → j < 25 → σ' 4 2 0 j = 0) ∧ True)) (r := []) zk_107_45 rfl rfl rfl rfl rfl rfl (Or.inr ⟨_, _, _, _, rfl, (vd_1 (by omega)), rfl⟩) (fun σ' h => (c_12e 2 1 (by omega) (by omega) σ' h.1.1 (h.2.2.2.2.1) (h.2.2.2.2.2.2.2.1) (h.2.2.1) (fun j a b => h.2.1 j (by omega) (by omega)) (h.2.2.2.2.1)).le (Nat.le_of_ble_eq_true rfl) (fun v σ2 ⟨h1, h3, h4⟩ => ⟨h1, h.1.tr h3 (fun t i k j h => by unfold MI at h; unfold MYR; omega), (h3.2 _ _ _ _ (by unfold MI; omega)).trans (h.2.2.1), (h3.2 _ _ _ _ (by unfold MI; omega)).trans (h.2.2.2.1), (h3.2 _ _ _ _ (by unfold MI; omega)).trans (h.2.2.2.2.1), (h3.2 _ _ _ _ (by unfold MI; omega)).trans (h.2.2.2.2.2.1), (h3.2 _ _ _ _ (by unfold MI; omega)).trans (h.2.2.2.2.2.2.1), (h3.2 _ _ _ _ (by unfold MI; omega)).trans (h.2.2.2.2.2.2.2.1), (h3.2 _ _ _ _ (by unfold MI; omega)).trans (h.2.2.2.2.2.2.2.2.1), h4.1, trivial⟩)) (pc' := 48) rfl ?_
        refine T_ld zk_107_48 rfl rfl rfl (pc' := 49) rfl ?_
        refine T_getR (t' := 1) (i' := 2) (k' := 0) zk_107_49 rfl rfl rfl vd_0 (pc' := 52) rfl ?_
        refine T_callv (J' := (fun σ' => IF (MYR 2) σ σ' ∧ σ' 11 2 0 0 = 0 ∧ σ' 17 2 0 0 = 0 ∧ σ' 17 2 1 0 = 0 ∧ σ' 1 2 0 5 = 0 ∧ σ' 1 2 0 6 = 0 ∧ σ' 1 2 0 7 = 0 ∧ (∀ j, 0 ≤ j → j < 25 → σ' 4 2 0 j = 0) ∧ σ' 1 2 0 13 = x8 + 1 ∧ True)) (r := []) zk_107_52 rfl rfl rfl rfl rfl rfl (Or.inr ⟨_, _, _, _, rfl, (vd_1 (by omega)), rfl⟩) (fun σ' h => (c_13e 2 x8 (by omega) (by omega) σ' h.1.1 (h.2.2.2.2.2.2.1) (h.2.2.2.2.2.1) (h.2.1) (h.2.2.2.2.2.2.2.1)).le (Nat.le_of_ble_eq_true rfl) (fun v σ2 ⟨h1, h3, h4⟩ => ⟨h1, h.1.tr h3 (fun t i k j h => by unfold MP at h; unfold MYR; omega), (h3.2 _ _ _ _ (by unfold MP; omega)).trans (h.2.1), (h3.2 _ _ _ _ (by unfold MP; omega)).trans (h.2.2.1), (h3.2 _ _ _ _ (by unfold MP; omega)).trans (h.2.2.2.1), (h3.2 _ _ _ _ (by unfold MP; omega)).trans (h.2.2.2.2.1), (h3.2 _ _ _ _ (by unfold MP; omega)).trans (h.2.2.2.2.2.1), (h3.2 _ _ _ _ (by unfold MP; omega)).trans (h.2.2.2.2.2.2.1), fun j a b => (h3.2 _ _ _ _ (by unfold MP; omega)).trans (h.2.2.2.2.2.2.2.2.1 j a b), h4.1, trivial⟩)) (pc' := 55) rfl ?_
        refine T_iinc (L' := [(0, av 0 0 0), (1, iv p0), (2, iv p1), (3, iv (x8 + 1))]) zk_107_55 (nL := 4) rfl rfl rfl rfl (pc' := 58) rfl ?_
        refine T_goto zk_107_58 ?_
        refine G_know (J' := (fun σ' => IF (MYR 2) σ σ' ∧ (∀ j, 0 ≤ j → j < 25 → σ' 4 2 0 j = 0) ∧ σ' 11 2 0 0 = 0 ∧ σ' 17 2 0 0 = 0 ∧ σ' 17 2 1 0 = 0 ∧ σ' 1 2 0 5 = 0 ∧ σ' 1 2 0 6 = 0 ∧ σ' 1 2 0 7 = 0 ∧ σ' 1 2 0 13 = (x8 + 1) ∧ True)) (fun σ' h => ⟨h.1, h.2.2.2.2.2.2.2.1, h.2.1, h.2.2.1, h.2.2.2.1, h.2.2.2.2.1, h.2.2.2.2.2.1, h.2.2.2.2.2.2.1, (h.2.2.2.2.2.2.2.2.1).trans (by omega), trivial⟩) ?_
        exact ih9 (x8 + 1) (by omega) (by omega)
    ·
      refine T_op zk_107_18 rfl (X_si (v := 1000) (by decide)) (pc' := 21) rfl ?_
      exact T_iret zk_107_21 rfl (fun σ' h => ⟨_, rfl, (by omega), h.1, trivial⟩)
/-- W.image -/
theorem x_image {xs : Nat × (Nat → Int32)}   (σ : ZS) (hI : Inv σ) (hf : ∀ t i k j, t < 35 → σ t i k j = σ0 t i k j)  : CT xs 3 108 [av 0 0 0] σ (fun v σ' => ∃ y, v = some (iv y) ∧ (y = 0) ∧ IF (MYR 1) σ σ' ∧ (True)) := by
  refine G_ct (J := (fun σ' => IF (MYR 1) σ σ' ∧ True)) (L := [(0, av 0 0 0)]) (nL := 1) rfl rfl rfl ⟨IF.rf hI, trivial⟩ ?_
  refine T_ld zk_108_0 rfl rfl rfl (pc' := 1) rfl ?_
  refine T_getR (t' := 1) (i' := 1) (k' := 0) zk_108_1 rfl rfl rfl vd_0 (pc' := 4) rfl ?_
  refine T_ld zk_108_4 rfl rfl rfl (pc' := 5) rfl ?_
  refine T_getR (t' := 1) (i' := 0) (k' := 0) zk_108_5 rfl rfl rfl vd_0 (pc' := 8) rfl ?_
  refine T_callv (J' := (fun σ' => IF (MYR 1) σ σ' ∧ (∀ j, 0 ≤ j → j < 25 → σ' 4 1 0 j = 0) ∧ σ' 11 1 0 0 = 0 ∧ σ' 17 1 0 0 = 0 ∧ σ' 17 1 1 0 = 0 ∧ σ' 1 1 0 5 = 0 ∧ σ' 1 1 0 6 = 0 ∧ σ' 1 1 0 7 = 0 ∧ σ' 1 1 0 13 = 0 ∧ True)) (r := []) zk_108_8 rfl rfl rfl rfl rfl rfl (Or.inr ⟨_, _, _, _, rfl, (vd_1 (by omega)), rfl⟩) (fun σ' h => (c_22_1   σ' h.1.1 (fun j a b => (h.1.2 _ _ _ _ (by unfold MYR; omega)).trans (hf _ _ _ _ (by decide))) ((h.1.2 _ _ _ _ (by unfold MYR; omega)).trans (hf _ _ _ _ (by decide))) ((h.1.2 _ _ _ _ (by unfold MYR; omega)).trans (hf _ _ _ _ (by decide))) ((h.1.2 _ _ _ _ (by unfold MYR; omega)).trans (hf _ _ _ _ (by decide))) ((h.1.2 _ _ _ _ (by unfold MYR; omega)).trans (hf _ _ _ _ (by decide))) ((h.1.2 _ _ _ _ (by unfold MYR; omega)).trans (hf _ _ _ _ (by decide))) ((h.1.2 _ _ _ _ (by unfold MYR; omega)).trans (hf _ _ _ _ (by decide))) ((h.1.2 _ _ _ _ (by unfold MYR; omega)).trans (hf _ _ _ _ (by decide)))).le (Nat.le_of_ble_eq_true rfl) (fun v σ2 ⟨h1, h3, h4⟩ => ⟨h1, h.1.tr h3 (fun t i k j h => by unfold MY at h; unfold MYR; omega), h4.1, h4.2.1, h4.2.2.1, h4.2.2.2.1, h4.2.2.2.2.1, h4.2.2.2.2.2.1, h4.2.2.2.2.2.2.1, h4.2.2.2.2.2.2.2.1, trivial⟩)) (pc' := 11) rfl ?_
  refine T_ld zk_108_11 rfl rfl rfl (pc' := 12) rfl ?_
  refine T_op zk_108_12 rfl X_ic (pc' := 13) rfl ?_
  refine T_putz (J' := (fun σ' => IF (MYR 1) σ σ' ∧ (∀ j, 0 ≤ j → j < 25 → σ' 4 1 0 j = 0) ∧ σ' 11 1 0 0 = 0 ∧ σ' 17 1 0 0 = 0 ∧ σ' 17 1 1 0 = 0 ∧ σ' 1 1 0 5 = 0 ∧ σ' 1 1 0 6 = 0 ∧ σ' 1 1 0 7 = 0 ∧ σ' 1 1 0 13 = 0 ∧ True)) zk_108_13 rfl rfl (by omega) vd_0 (fun σ' h => ⟨h.1.up (by simp only [rgP] <;> omega) (by unfold MYR; omega), up_rngn (h.2.1) (by omega), (up_ne (by omega)).trans (h.2.2.1), (up_ne (by omega)).trans (h.2.2.2.1), (up_ne (by omega)).trans (h.2.2.2.2.1), (up_ne (by omega)).trans (h.2.2.2.2.2.1), (up_ne (by omega)).trans (h.2.2.2.2.2.2.1), (up_ne (by omega)).trans (h.2.2.2.2.2.2.2.1), (up_ne (by omega)).trans (h.2.2.2.2.2.2.2.2.1), trivial⟩) (pc' := 16) rfl ?_
  refine T_ld zk_108_16 rfl rfl rfl (pc' := 17) rfl ?_
  refine T_getR (t' := 1) (i' := 0) (k' := 0) zk_108_17 rfl rfl rfl vd_0 (pc' := 20) rfl ?_
  refine G_getX (w := 0) zk_108_20 rfl (vd_1 (by omega)) (fun σ' h => (h.1.2 _ _ _ _ (by unfold MYR; omega)).trans (hf _ _ _ _ (by decide))) (pc' := 23) rfl ?_
  exact T_iret zk_108_23 rfl (fun σ' h => ⟨_, rfl, (by omega), h.1, trivial⟩)
/-- W.restore -/
theorem x_restore {xs : Nat × (Nat → Int32)}   (σ : ZS) (hI : Inv σ) (hf : ∀ t i k j, t < 35 → σ t i k j = σ0 t i k j)  : CT xs 3 109 [av 0 0 0] σ (fun v σ' => ∃ y, v = some (iv y) ∧ (y = -6) ∧ IF (MT 28 28 28 28) σ σ' ∧ (True)) := by
  refine G_ct (J := (fun σ' => IF (MT 28 28 28 28) σ σ' ∧ True)) (L := [(0, av 0 0 0)]) (nL := 2) rfl rfl rfl ⟨IF.rf hI, trivial⟩ ?_
  refine T_ld zk_109_0 rfl rfl rfl (pc' := 1) rfl ?_
  refine G_getX (w := 0) zk_109_1 rfl vd_0 (fun σ' h => (h.1.2 _ _ _ _ (by unfold MT; omega)).trans (hf _ _ _ _ (by decide))) (pc' := 4) rfl ?_
  refine T_if_ne zk_109_4 (by omega) (pc' := 7) rfl (fun h1 => ?_) (fun h2 => ?_)
  · exfalso; omega
  ·
    refine T_ld zk_109_7 rfl rfl rfl (pc' := 8) rfl ?_
    refine T_op zk_109_8 rfl (X_bi (v := -6) (by decide)) (pc' := 10) rfl ?_
    refine T_calli (K := fun y3 σ' => (y3 = (-6)) ∧ (fun σ' => IF (MT 28 28 28 28) σ σ' ∧ True) σ') (r := []) zk_109_10 rfl rfl rfl rfl rfl rfl (Or.inr ⟨_, _, _, _, rfl, vd_0, rfl⟩) (fun σ' h => (c_113 ((-6)) (by omega) σ' h.1.1 ).le (Nat.le_of_ble_eq_true rfl) (fun v σ2 ⟨y, h1, h2, h3, h4⟩ => ⟨y, h1, h2, h.1.tr h3 (fun _ _ _ _ h => h), trivial⟩)) (pc' := 13) rfl (fun y3 => ?_)
    refine G_ex (fun hy3 => ?_)
    obtain rfl : y3 = (-6) := by omega
    exact T_iret zk_109_13 rfl (fun σ' h => ⟨_, rfl, (by omega), h.1, trivial⟩)
