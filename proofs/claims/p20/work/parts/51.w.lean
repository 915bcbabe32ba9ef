theorem zk_5_0 : zc 5 0 = some (.aload_n 0, 0, 0, 0, 0) := rfl
theorem zk_5_1 : zc 5 1 = some (.getfield 9, 1, 0, 0, 10) := rfl
theorem zk_5_4 : zc 5 4 = some (.iconst 0, 0, 0, 0, 0) := rfl
theorem zk_5_5 : zc 5 5 = some (.invokestatic 15, 190, 1, 2, 3) := rfl
theorem zk_5_8 : zc 5 8 = some (.iconst 0, 0, 0, 0, 0) := rfl
theorem zk_5_9 : zc 5 9 = some (.istore_n 3, 0, 0, 0, 0) := rfl
theorem zk_5_10 : zc 5 10 = some (.iload_n 3, 0, 0, 0, 0) := rfl
theorem zk_5_11 : zc 5 11 = some (.bipush 40, 0, 0, 0, 0) := rfl
theorem zk_5_13 : zc 5 13 = some (.if_icmp .ge 58, 71, 0, 0, 0) := rfl
theorem zk_5_16 : zc 5 16 = some (.aload_n 1, 0, 0, 0, 0) := rfl
theorem zk_5_17 : zc 5 17 = some (.aload_n 2, 0, 0, 0, 0) := rfl
theorem zk_5_18 : zc 5 18 = some (.iload_n 3, 0, 0, 0, 0) := rfl
theorem zk_5_19 : zc 5 19 = some (.invokevirtual 21, 36, 0, 3, 4) := rfl
theorem zk_5_22 : zc 5 22 = some (.ifCond .eq 43, 65, 0, 0, 0) := rfl
theorem zk_5_25 : zc 5 25 = some (.iload_n 3, 0, 0, 0, 0) := rfl
theorem zk_5_26 : zc 5 26 = some (.invokestatic 27, 31, 1, 1, 5) := rfl
theorem zk_5_29 : zc 5 29 = some (.istore 4, 0, 0, 0, 0) := rfl
theorem zk_5_31 : zc 5 31 = some (.iload_n 3, 0, 0, 0, 0) := rfl
theorem zk_5_32 : zc 5 32 = some (.invokestatic 31, 32, 1, 1, 6) := rfl
theorem zk_5_35 : zc 5 35 = some (.istore 5, 0, 0, 0, 0) := rfl
theorem zk_5_37 : zc 5 37 = some (.aload_n 0, 0, 0, 0, 0) := rfl
theorem zk_5_38 : zc 5 38 = some (.getfield 9, 1, 0, 0, 10) := rfl
theorem zk_5_41 : zc 5 41 = some (.iload 4, 0, 0, 0, 0) := rfl
theorem zk_5_43 : zc 5 43 = some (.dup2, 0, 0, 0, 0) := rfl
theorem zk_5_44 : zc 5 44 = some (.iaload, 0, 0, 0, 0) := rfl
theorem zk_5_45 : zc 5 45 = some (.iconst 1, 0, 0, 0, 0) := rfl
theorem zk_5_46 : zc 5 46 = some (.iload 5, 0, 0, 0, 0) := rfl
theorem zk_5_48 : zc 5 48 = some (.ishl, 0, 0, 0, 0) := rfl
theorem zk_5_49 : zc 5 49 = some (.ior, 0, 0, 0, 0) := rfl
theorem zk_5_50 : zc 5 50 = some (.iastore, 0, 0, 0, 0) := rfl
theorem zk_5_51 : zc 5 51 = some (.aload_n 0, 0, 0, 0, 0) := rfl
theorem zk_5_52 : zc 5 52 = some (.getfield 9, 1, 0, 0, 10) := rfl
theorem zk_5_55 : zc 5 55 = some (.iload 5, 0, 0, 0, 0) := rfl
theorem zk_5_57 : zc 5 57 = some (.dup2, 0, 0, 0, 0) := rfl
theorem zk_5_58 : zc 5 58 = some (.iaload, 0, 0, 0, 0) := rfl
theorem zk_5_59 : zc 5 59 = some (.iconst 1, 0, 0, 0, 0) := rfl
theorem zk_5_60 : zc 5 60 = some (.iload 4, 0, 0, 0, 0) := rfl
theorem zk_5_62 : zc 5 62 = some (.ishl, 0, 0, 0, 0) := rfl
theorem zk_5_63 : zc 5 63 = some (.ior, 0, 0, 0, 0) := rfl
theorem zk_5_64 : zc 5 64 = some (.iastore, 0, 0, 0, 0) := rfl
theorem zk_5_65 : zc 5 65 = some (.iinc 3 1, 0, 0, 0, 0) := rfl
theorem zk_5_68 : zc 5 68 = some (.goto (-58), 10, 0, 0, 0) := rfl
theorem zk_5_71 : zc 5 71 = some (.return_, 0, 0, 0, 0) := rfl
theorem zk_6_0 : zc 6 0 = some (.iload_n 1, 0, 0, 0, 0) := rfl
theorem zk_6_1 : zc 6 1 = some (.istore_n 2, 0, 0, 0, 0) := rfl
theorem zk_6_2 : zc 6 2 = some (.iconst 0, 0, 0, 0, 0) := rfl
theorem zk_6_3 : zc 6 3 = some (.istore_n 3, 0, 0, 0, 0) := rfl
theorem zk_6_4 : zc 6 4 = some (.iload_n 3, 0, 0, 0, 0) := rfl
theorem zk_6_5 : zc 6 5 = some (.bipush 25, 0, 0, 0, 0) := rfl
theorem zk_6_7 : zc 6 7 = some (.if_icmp .ge 27, 34, 0, 0, 0) := rfl
theorem zk_6_10 : zc 6 10 = some (.iload_n 1, 0, 0, 0, 0) := rfl
theorem zk_6_11 : zc 6 11 = some (.iload_n 3, 0, 0, 0, 0) := rfl
theorem zk_6_12 : zc 6 12 = some (.ishr, 0, 0, 0, 0) := rfl
theorem zk_6_13 : zc 6 13 = some (.iconst 1, 0, 0, 0, 0) := rfl
theorem zk_6_14 : zc 6 14 = some (.iand, 0, 0, 0, 0) := rfl
theorem zk_6_15 : zc 6 15 = some (.iconst 1, 0, 0, 0, 0) := rfl
theorem zk_6_16 : zc 6 16 = some (.if_icmp .ne 12, 28, 0, 0, 0) := rfl
theorem zk_6_19 : zc 6 19 = some (.iload_n 2, 0, 0, 0, 0) := rfl
theorem zk_6_20 : zc 6 20 = some (.aload_n 0, 0, 0, 0, 0) := rfl
theorem zk_6_21 : zc 6 21 = some (.getfield 9, 1, 0, 0, 10) := rfl
theorem zk_6_24 : zc 6 24 = some (.iload_n 3, 0, 0, 0, 0) := rfl
theorem zk_6_25 : zc 6 25 = some (.iaload, 0, 0, 0, 0) := rfl
theorem zk_6_26 : zc 6 26 = some (.ior, 0, 0, 0, 0) := rfl
theorem zk_6_27 : zc 6 27 = some (.istore_n 2, 0, 0, 0, 0) := rfl
theorem zk_6_28 : zc 6 28 = some (.iinc 3 1, 0, 0, 0, 0) := rfl
theorem zk_6_31 : zc 6 31 = some (.goto (-27), 4, 0, 0, 0) := rfl
theorem zk_6_34 : zc 6 34 = some (.iload_n 2, 0, 0, 0, 0) := rfl
theorem zk_6_35 : zc 6 35 = some (.ireturn, 0, 0, 0, 0) := rfl
theorem zk_7_0 : zc 7 0 = some (.iconst 1, 0, 0, 0, 0) := rfl
theorem zk_7_1 : zc 7 1 = some (.iload_n 2, 0, 0, 0, 0) := rfl
theorem zk_7_2 : zc 7 2 = some (.ishl, 0, 0, 0, 0) := rfl
theorem zk_7_3 : zc 7 3 = some (.istore_n 3, 0, 0, 0, 0) := rfl
theorem zk_7_4 : zc 7 4 = some (.iconst 1, 0, 0, 0, 0) := rfl
theorem zk_7_5 : zc 7 5 = some (.istore 4, 0, 0, 0, 0) := rfl
theorem zk_7_7 : zc 7 7 = some (.iload 4, 0, 0, 0, 0) := rfl
theorem zk_7_9 : zc 7 9 = some (.bipush 25, 0, 0, 0, 0) := rfl
theorem zk_7_11 : zc 7 11 = some (.if_icmp .ge 48, 59, 0, 0, 0) := rfl
theorem zk_7_14 : zc 7 14 = some (.aload_n 0, 0, 0, 0, 0) := rfl
theorem zk_7_15 : zc 7 15 = some (.getfield 9, 1, 0, 0, 10) := rfl
theorem zk_7_18 : zc 7 18 = some (.iload_n 1, 0, 0, 0, 0) := rfl
theorem zk_7_19 : zc 7 19 = some (.iaload, 0, 0, 0, 0) := rfl
theorem zk_7_20 : zc 7 20 = some (.iload_n 3, 0, 0, 0, 0) := rfl
theorem zk_7_21 : zc 7 21 = some (.iand, 0, 0, 0, 0) := rfl
theorem zk_7_22 : zc 7 22 = some (.istore 5, 0, 0, 0, 0) := rfl
theorem zk_7_24 : zc 7 24 = some (.iload 5, 0, 0, 0, 0) := rfl
theorem zk_7_26 : zc 7 26 = some (.ifCond .eq 9, 35, 0, 0, 0) := rfl
theorem zk_7_29 : zc 7 29 = some (.iload 5, 0, 0, 0, 0) := rfl
theorem zk_7_31 : zc 7 31 = some (.invokestatic 34, 8, 1, 1, 7) := rfl
theorem zk_7_34 : zc 7 34 = some (.ireturn, 0, 0, 0, 0) := rfl
theorem zk_7_35 : zc 7 35 = some (.aload_n 0, 0, 0, 0, 0) := rfl
theorem zk_7_36 : zc 7 36 = some (.iload_n 3, 0, 0, 0, 0) := rfl
theorem zk_7_37 : zc 7 37 = some (.invokevirtual 37, 6, 0, 2, 8) := rfl
theorem zk_7_40 : zc 7 40 = some (.istore 6, 0, 0, 0, 0) := rfl
theorem zk_7_42 : zc 7 42 = some (.iload 6, 0, 0, 0, 0) := rfl
theorem zk_7_44 : zc 7 44 = some (.iload_n 3, 0, 0, 0, 0) := rfl
theorem zk_7_45 : zc 7 45 = some (.if_icmp .ne 5, 50, 0, 0, 0) := rfl
theorem zk_7_48 : zc 7 48 = some (.iconst (-1), 0, 0, 0, 0) := rfl
theorem zk_7_49 : zc 7 49 = some (.ireturn, 0, 0, 0, 0) := rfl
theorem zk_7_50 : zc 7 50 = some (.iload 6, 0, 0, 0, 0) := rfl
theorem zk_7_52 : zc 7 52 = some (.istore_n 3, 0, 0, 0, 0) := rfl
theorem zk_7_53 : zc 7 53 = some (.iinc 4 1, 0, 0, 0, 0) := rfl
theorem zk_7_56 : zc 7 56 = some (.goto (-49), 7, 0, 0, 0) := rfl
theorem zk_7_59 : zc 7 59 = some (.iconst (-1), 0, 0, 0, 0) := rfl
theorem zk_7_60 : zc 7 60 = some (.ireturn, 0, 0, 0, 0) := rfl
theorem zk_8_0 : zc 8 0 = some (.iconst 0, 0, 0, 0, 0) := rfl
theorem zk_8_1 : zc 8 1 = some (.istore_n 1, 0, 0, 0, 0) := rfl
theorem zk_8_2 : zc 8 2 = some (.iload_n 1, 0, 0, 0, 0) := rfl
theorem zk_8_3 : zc 8 3 = some (.bipush 25, 0, 0, 0, 0) := rfl
theorem zk_8_5 : zc 8 5 = some (.if_icmp .ge 20, 25, 0, 0, 0) := rfl
theorem zk_8_8 : zc 8 8 = some (.iload_n 0, 0, 0, 0, 0) := rfl
theorem zk_8_9 : zc 8 9 = some (.iload_n 1, 0, 0, 0, 0) := rfl
theorem zk_8_10 : zc 8 10 = some (.ishr, 0, 0, 0, 0) := rfl
theorem zk_8_11 : zc 8 11 = some (.iconst 1, 0, 0, 0, 0) := rfl
theorem zk_8_12 : zc 8 12 = some (.iand, 0, 0, 0, 0) := rfl
theorem zk_8_13 : zc 8 13 = some (.iconst 1, 0, 0, 0, 0) := rfl
theorem zk_8_14 : zc 8 14 = some (.if_icmp .ne 5, 19, 0, 0, 0) := rfl
theorem zk_8_17 : zc 8 17 = some (.iload_n 1, 0, 0, 0, 0) := rfl
theorem zk_8_18 : zc 8 18 = some (.ireturn, 0, 0, 0, 0) := rfl
theorem zk_8_19 : zc 8 19 = some (.iinc 1 1, 0, 0, 0, 0) := rfl
theorem zk_8_22 : zc 8 22 = some (.goto (-20), 2, 0, 0, 0) := rfl
theorem zk_8_25 : zc 8 25 = some (.iconst (-1), 0, 0, 0, 0) := rfl
theorem zk_8_26 : zc 8 26 = some (.ireturn, 0, 0, 0, 0) := rfl
theorem zk_11_0 : zc 11 0 = some (.aload_n 0, 0, 0, 0, 0) := rfl
theorem zk_11_1 : zc 11 1 = some (.getfield 50, 2, 9, 0, 17) := rfl
theorem zk_11_4 : zc 11 4 = some (.aload_n 0, 0, 0, 0, 0) := rfl
theorem zk_11_5 : zc 11 5 = some (.getfield 75, 2, 13, 0, 22) := rfl
theorem zk_11_8 : zc 11 8 = some (.invokevirtual 78, 73, 0, 2, 17) := rfl
theorem zk_11_11 : zc 11 11 = some (.istore_n 1, 0, 0, 0, 0) := rfl
theorem zk_11_12 : zc 11 12 = some (.iconst 1, 0, 0, 0, 0) := rfl
theorem zk_11_13 : zc 11 13 = some (.istore_n 2, 0, 0, 0, 0) := rfl
theorem zk_11_14 : zc 11 14 = some (.iload_n 2, 0, 0, 0, 0) := rfl
theorem zk_11_15 : zc 11 15 = some (.bipush 8, 0, 0, 0, 0) := rfl
theorem zk_11_17 : zc 11 17 = some (.if_icmp .ge 27, 44, 0, 0, 0) := rfl
theorem zk_11_20 : zc 11 20 = some (.iload_n 1, 0, 0, 0, 0) := rfl
theorem zk_11_21 : zc 11 21 = some (.aload_n 0, 0, 0, 0, 0) := rfl
theorem zk_11_22 : zc 11 22 = some (.getfield 50, 2, 9, 0, 17) := rfl
theorem zk_11_25 : zc 11 25 = some (.aload_n 0, 0, 0, 0, 0) := rfl
theorem zk_11_26 : zc 11 26 = some (.getfield 75, 2, 13, 0, 22) := rfl
theorem zk_11_29 : zc 11 29 = some (.iload_n 2, 0, 0, 0, 0) := rfl
theorem zk_11_30 : zc 11 30 = some (.iadd, 0, 0, 0, 0) := rfl
theorem zk_11_31 : zc 11 31 = some (.invokevirtual 78, 73, 0, 2, 17) := rfl
theorem zk_11_34 : zc 11 34 = some (.invokestatic 82, 0, 7, 0, 18) := rfl
theorem zk_11_37 : zc 11 37 = some (.istore_n 1, 0, 0, 0, 0) := rfl
theorem zk_11_38 : zc 11 38 = some (.iinc 2 1, 0, 0, 0, 0) := rfl
theorem zk_11_41 : zc 11 41 = some (.goto (-27), 14, 0, 0, 0) := rfl
theorem zk_11_44 : zc 11 44 = some (.aload_n 0, 0, 0, 0, 0) := rfl
theorem zk_11_45 : zc 11 45 = some (.getfield 64, 2, 18, 0, 20) := rfl
theorem zk_11_48 : zc 11 48 = some (.iconst 0, 0, 0, 0, 0) := rfl
theorem zk_11_49 : zc 11 49 = some (.iload_n 1, 0, 0, 0, 0) := rfl
theorem zk_11_50 : zc 11 50 = some (.aload_n 0, 0, 0, 0, 0) := rfl
theorem zk_11_51 : zc 11 51 = some (.getfield 88, 2, 10, 0, 23) := rfl
theorem zk_11_54 : zc 11 54 = some (.iadd, 0, 0, 0, 0) := rfl
theorem zk_11_55 : zc 11 55 = some (.iastore, 0, 0, 0, 0) := rfl
theorem zk_11_56 : zc 11 56 = some (.aload_n 0, 0, 0, 0, 0) := rfl
theorem zk_11_57 : zc 11 57 = some (.getfield 64, 2, 18, 0, 20) := rfl
theorem zk_11_60 : zc 11 60 = some (.iconst 1, 0, 0, 0, 0) := rfl
theorem zk_11_61 : zc 11 61 = some (.aload_n 0, 0, 0, 0, 0) := rfl
theorem zk_11_62 : zc 11 62 = some (.getfield 50, 2, 9, 0, 17) := rfl
theorem zk_11_65 : zc 11 65 = some (.aload_n 0, 0, 0, 0, 0) := rfl
theorem zk_11_66 : zc 11 66 = some (.getfield 75, 2, 13, 0, 22) := rfl
theorem zk_11_69 : zc 11 69 = some (.invokevirtual 78, 73, 0, 2, 17) := rfl
theorem zk_11_72 : zc 11 72 = some (.iastore, 0, 0, 0, 0) := rfl
theorem zk_11_73 : zc 11 73 = some (.aload_n 0, 0, 0, 0, 0) := rfl
theorem zk_11_74 : zc 11 74 = some (.getfield 64, 2, 18, 0, 20) := rfl
theorem zk_11_77 : zc 11 77 = some (.iconst 2, 0, 0, 0, 0) := rfl
theorem zk_11_78 : zc 11 78 = some (.aload_n 0, 0, 0, 0, 0) := rfl
theorem zk_11_79 : zc 11 79 = some (.getfield 12, 2, 0, 0, 11) := rfl
theorem zk_11_82 : zc 11 82 = some (.invokevirtual 91, 33, 0, 1, 19) := rfl
theorem zk_11_85 : zc 11 85 = some (.iastore, 0, 0, 0, 0) := rfl
theorem zk_11_86 : zc 11 86 = some (.aload_n 0, 0, 0, 0, 0) := rfl
theorem zk_11_87 : zc 11 87 = some (.getfield 64, 2, 18, 0, 20) := rfl
theorem zk_11_90 : zc 11 90 = some (.iconst 3, 0, 0, 0, 0) := rfl
theorem zk_11_91 : zc 11 91 = some (.aload_n 0, 0, 0, 0, 0) := rfl
theorem zk_11_92 : zc 11 92 = some (.getfield 75, 2, 13, 0, 22) := rfl
theorem zk_11_95 : zc 11 95 = some (.iconst 4, 0, 0, 0, 0) := rfl
theorem zk_11_96 : zc 11 96 = some (.idiv, 0, 0, 0, 0) := rfl
theorem zk_11_97 : zc 11 97 = some (.bipush 24, 0, 0, 0, 0) := rfl
theorem zk_11_99 : zc 11 99 = some (.irem, 0, 0, 0, 0) := rfl
theorem zk_11_100 : zc 11 100 = some (.iastore, 0, 0, 0, 0) := rfl
theorem zk_11_101 : zc 11 101 = some (.aload_n 0, 0, 0, 0, 0) := rfl
theorem zk_11_102 : zc 11 102 = some (.getfield 64, 2, 18, 0, 20) := rfl
theorem zk_11_105 : zc 11 105 = some (.iconst 4, 0, 0, 0, 0) := rfl
theorem zk_11_106 : zc 11 106 = some (.aload_n 0, 0, 0, 0, 0) := rfl
theorem zk_11_107 : zc 11 107 = some (.invokevirtual 95, 18, 0, 1, 20) := rfl
theorem zk_11_110 : zc 11 110 = some (.iastore, 0, 0, 0, 0) := rfl
theorem zk_11_111 : zc 11 111 = some (.aload_n 0, 0, 0, 0, 0) := rfl
theorem zk_11_112 : zc 11 112 = some (.getfield 64, 2, 18, 0, 20) := rfl
theorem zk_11_115 : zc 11 115 = some (.iconst 5, 0, 0, 0, 0) := rfl
theorem zk_11_116 : zc 11 116 = some (.aload_n 0, 0, 0, 0, 0) := rfl
theorem zk_11_117 : zc 11 117 = some (.getfield 75, 2, 13, 0, 22) := rfl
theorem zk_11_120 : zc 11 120 = some (.bipush 96, 0, 0, 0, 0) := rfl
theorem zk_11_122 : zc 11 122 = some (.idiv, 0, 0, 0, 0) := rfl
theorem zk_11_123 : zc 11 123 = some (.iastore, 0, 0, 0, 0) := rfl
theorem zk_11_124 : zc 11 124 = some (.return_, 0, 0, 0, 0) := rfl
theorem zk_12_0 : zc 12 0 = some (.aload_n 0, 0, 0, 0, 0) := rfl
theorem zk_12_1 : zc 12 1 = some (.invokevirtual 98, 11, 0, 1, 21) := rfl
theorem zk_12_4 : zc 12 4 = some (.aload_n 0, 0, 0, 0, 0) := rfl
theorem zk_12_5 : zc 12 5 = some (.invokevirtual 101, 14, 0, 1, 22) := rfl
theorem zk_12_8 : zc 12 8 = some (.aload_n 0, 0, 0, 0, 0) := rfl
theorem zk_12_9 : zc 12 9 = some (.iload_n 1, 0, 0, 0, 0) := rfl
theorem zk_12_10 : zc 12 10 = some (.invokevirtual 104, 10, 0, 2, 23) := rfl
theorem zk_12_13 : zc 12 13 = some (.aload_n 0, 0, 0, 0, 0) := rfl
theorem zk_12_14 : zc 12 14 = some (.getfield 75, 2, 13, 0, 22) := rfl
theorem zk_12_17 : zc 12 17 = some (.invokevirtual 78, 73, 0, 2, 17) := rfl
theorem zk_12_20 : zc 12 20 = some (.istore_n 2, 0, 0, 0, 0) := rfl
theorem zk_12_21 : zc 12 21 = some (.aload_n 0, 0, 0, 0, 0) := rfl
theorem zk_12_22 : zc 12 22 = some (.getfield 21, 2, 1, 0, 12) := rfl
theorem zk_12_25 : zc 12 25 = some (.invokevirtual 108, 63, 0, 1, 24) := rfl
theorem zk_12_28 : zc 12 28 = some (.ifCond .le 23, 51, 0, 0, 0) := rfl
theorem zk_12_31 : zc 12 31 = some (.iload_n 2, 0, 0, 0, 0) := rfl
theorem zk_12_32 : zc 12 32 = some (.aload_n 0, 0, 0, 0, 0) := rfl
theorem zk_12_33 : zc 12 33 = some (.getfield 64, 2, 18, 0, 20) := rfl
theorem zk_12_36 : zc 12 36 = some (.iconst 2, 0, 0, 0, 0) := rfl
theorem zk_12_37 : zc 12 37 = some (.iaload, 0, 0, 0, 0) := rfl
theorem zk_12_38 : zc 12 38 = some (.if_icmp .gt 13, 51, 0, 0, 0) := rfl
theorem zk_12_41 : zc 12 41 = some (.aload_n 0, 0, 0, 0, 0) := rfl
theorem zk_12_42 : zc 12 42 = some (.dup, 0, 0, 0, 0) := rfl
theorem zk_12_43 : zc 12 43 = some (.getfield 111, 2, 15, 0, 24) := rfl
theorem zk_12_46 : zc 12 46 = some (.iconst 1, 0, 0, 0, 0) := rfl
theorem zk_12_47 : zc 12 47 = some (.iadd, 0, 0, 0, 0) := rfl
theorem zk_12_48 : zc 12 48 = some (.putfield 111, 2, 15, 0, 24) := rfl
theorem zk_12_51 : zc 12 51 = some (.iconst 0, 0, 0, 0, 0) := rfl
theorem zk_12_52 : zc 12 52 = some (.istore_n 3, 0, 0, 0, 0) := rfl
theorem zk_12_53 : zc 12 53 = some (.iload_n 3, 0, 0, 0, 0) := rfl
theorem zk_12_54 : zc 12 54 = some (.aload_n 0, 0, 0, 0, 0) := rfl
theorem zk_12_55 : zc 12 55 = some (.getfield 21, 2, 1, 0, 12) := rfl
theorem zk_12_58 : zc 12 58 = some (.getfield 114, 7, 0, 0, 25) := rfl
theorem zk_12_61 : zc 12 61 = some (.if_icmp .ge 74, 135, 0, 0, 0) := rfl
theorem zk_12_64 : zc 12 64 = some (.aload_n 0, 0, 0, 0, 0) := rfl
theorem zk_12_65 : zc 12 65 = some (.getfield 21, 2, 1, 0, 12) := rfl
theorem zk_12_68 : zc 12 68 = some (.getfield 117, 7, 2, 0, 26) := rfl
theorem zk_12_71 : zc 12 71 = some (.iload_n 3, 0, 0, 0, 0) := rfl
theorem zk_12_72 : zc 12 72 = some (.baload, 0, 0, 0, 0) := rfl
theorem zk_12_73 : zc 12 73 = some (.ifCond .ne 56, 129, 0, 0, 0) := rfl
theorem zk_12_76 : zc 12 76 = some (.aload_n 0, 0, 0, 0, 0) := rfl
theorem zk_12_77 : zc 12 77 = some (.getfield 21, 2, 1, 0, 12) := rfl
theorem zk_12_80 : zc 12 80 = some (.getfield 120, 7, 1, 0, 27) := rfl
theorem zk_12_83 : zc 12 83 = some (.iload_n 3, 0, 0, 0, 0) := rfl
theorem zk_12_84 : zc 12 84 = some (.iaload, 0, 0, 0, 0) := rfl
theorem zk_12_85 : zc 12 85 = some (.istore 4, 0, 0, 0, 0) := rfl
theorem zk_12_87 : zc 12 87 = some (.iload_n 2, 0, 0, 0, 0) := rfl
theorem zk_12_88 : zc 12 88 = some (.aload_n 0, 0, 0, 0, 0) := rfl
theorem zk_12_89 : zc 12 89 = some (.getfield 12, 2, 0, 0, 11) := rfl
theorem zk_12_92 : zc 12 92 = some (.getfield 123, 4, 1, 0, 28) := rfl
theorem zk_12_95 : zc 12 95 = some (.iload 4, 0, 0, 0, 0) := rfl
theorem zk_12_97 : zc 12 97 = some (.iaload, 0, 0, 0, 0) := rfl
theorem zk_12_98 : zc 12 98 = some (.isub, 0, 0, 0, 0) := rfl
theorem zk_12_99 : zc 12 99 = some (.iconst 2, 0, 0, 0, 0) := rfl
theorem zk_12_100 : zc 12 100 = some (.idiv, 0, 0, 0, 0) := rfl
theorem zk_12_101 : zc 12 101 = some (.istore 5, 0, 0, 0, 0) := rfl
theorem zk_12_103 : zc 12 103 = some (.aload_n 0, 0, 0, 0, 0) := rfl
theorem zk_12_104 : zc 12 104 = some (.getfield 12, 2, 0, 0, 11) := rfl
theorem zk_12_107 : zc 12 107 = some (.getfield 123, 4, 1, 0, 28) := rfl
theorem zk_12_110 : zc 12 110 = some (.iload 4, 0, 0, 0, 0) := rfl
theorem zk_12_112 : zc 12 112 = some (.dup2, 0, 0, 0, 0) := rfl
theorem zk_12_113 : zc 12 113 = some (.iaload, 0, 0, 0, 0) := rfl
theorem zk_12_114 : zc 12 114 = some (.iload 5, 0, 0, 0, 0) := rfl
theorem zk_12_116 : zc 12 116 = some (.iadd, 0, 0, 0, 0) := rfl
theorem zk_12_117 : zc 12 117 = some (.iastore, 0, 0, 0, 0) := rfl
theorem zk_12_118 : zc 12 118 = some (.aload_n 0, 0, 0, 0, 0) := rfl
theorem zk_12_119 : zc 12 119 = some (.dup, 0, 0, 0, 0) := rfl
theorem zk_12_120 : zc 12 120 = some (.getfield 126, 2, 16, 0, 29) := rfl
theorem zk_12_123 : zc 12 123 = some (.iload 5, 0, 0, 0, 0) := rfl
theorem zk_12_125 : zc 12 125 = some (.iadd, 0, 0, 0, 0) := rfl
theorem zk_12_126 : zc 12 126 = some (.putfield 126, 2, 16, 0, 29) := rfl
theorem zk_12_129 : zc 12 129 = some (.iinc 3 1, 0, 0, 0, 0) := rfl
theorem zk_12_132 : zc 12 132 = some (.goto (-79), 53, 0, 0, 0) := rfl
theorem zk_12_135 : zc 12 135 = some (.aload_n 0, 0, 0, 0, 0) := rfl
theorem zk_12_136 : zc 12 136 = some (.getfield 12, 2, 0, 0, 11) := rfl
theorem zk_12_139 : zc 12 139 = some (.invokevirtual 129, 35, 0, 1, 25) := rfl
theorem zk_12_142 : zc 12 142 = some (.return_, 0, 0, 0, 0) := rfl
theorem zk_13_0 : zc 13 0 = some (.aload_n 0, 0, 0, 0, 0) := rfl
theorem zk_13_1 : zc 13 1 = some (.invokevirtual 132, 15, 0, 1, 26) := rfl
theorem zk_13_4 : zc 13 4 = some (.iconst 0, 0, 0, 0, 0) := rfl
theorem zk_13_5 : zc 13 5 = some (.istore_n 1, 0, 0, 0, 0) := rfl
theorem zk_13_6 : zc 13 6 = some (.iconst 0, 0, 0, 0, 0) := rfl
theorem zk_13_7 : zc 13 7 = some (.istore_n 2, 0, 0, 0, 0) := rfl
theorem zk_13_8 : zc 13 8 = some (.iload_n 2, 0, 0, 0, 0) := rfl
theorem zk_13_9 : zc 13 9 = some (.aload_n 0, 0, 0, 0, 0) := rfl
theorem zk_13_10 : zc 13 10 = some (.getfield 135, 2, 6, 0, 30) := rfl
theorem zk_13_13 : zc 13 13 = some (.if_icmp .ge 57, 70, 0, 0, 0) := rfl
theorem zk_13_16 : zc 13 16 = some (.aload_n 0, 0, 0, 0, 0) := rfl
theorem zk_13_17 : zc 13 17 = some (.getfield 33, 2, 3, 0, 14) := rfl
theorem zk_13_20 : zc 13 20 = some (.iload_n 2, 0, 0, 0, 0) := rfl
theorem zk_13_21 : zc 13 21 = some (.aaload, 0, 0, 0, 0) := rfl
theorem zk_13_22 : zc 13 22 = some (.aload_n 0, 0, 0, 0, 0) := rfl
theorem zk_13_23 : zc 13 23 = some (.getfield 12, 2, 0, 0, 11) := rfl
theorem zk_13_26 : zc 13 26 = some (.getfield 123, 4, 1, 0, 28) := rfl
theorem zk_13_29 : zc 13 29 = some (.aload_n 0, 0, 0, 0, 0) := rfl
theorem zk_13_30 : zc 13 30 = some (.getfield 33, 2, 3, 0, 14) := rfl
theorem zk_13_33 : zc 13 33 = some (.iload_n 2, 0, 0, 0, 0) := rfl
theorem zk_13_34 : zc 13 34 = some (.aaload, 0, 0, 0, 0) := rfl
theorem zk_13_35 : zc 13 35 = some (.getfield 138, 3, 1, 0, 31) := rfl
theorem zk_13_38 : zc 13 38 = some (.iaload, 0, 0, 0, 0) := rfl
theorem zk_13_39 : zc 13 39 = some (.invokevirtual 141, 25, 0, 2, 27) := rfl
theorem zk_13_42 : zc 13 42 = some (.iload_n 1, 0, 0, 0, 0) := rfl
theorem zk_13_43 : zc 13 43 = some (.ifCond .ne 15, 58, 0, 0, 0) := rfl
theorem zk_13_46 : zc 13 46 = some (.aload_n 0, 0, 0, 0, 0) := rfl
theorem zk_13_47 : zc 13 47 = some (.getfield 33, 2, 3, 0, 14) := rfl
theorem zk_13_50 : zc 13 50 = some (.iload_n 2, 0, 0, 0, 0) := rfl
theorem zk_13_51 : zc 13 51 = some (.aaload, 0, 0, 0, 0) := rfl
theorem zk_13_52 : zc 13 52 = some (.getfield 145, 3, 9, 0, 32) := rfl
theorem zk_13_55 : zc 13 55 = some (.ifCond .eq 7, 62, 0, 0, 0) := rfl
theorem zk_13_58 : zc 13 58 = some (.iconst 1, 0, 0, 0, 0) := rfl
theorem zk_13_59 : zc 13 59 = some (.goto 4, 63, 0, 0, 0) := rfl
theorem zk_13_62 : zc 13 62 = some (.iconst 0, 0, 0, 0, 0) := rfl
theorem zk_13_63 : zc 13 63 = some (.istore_n 1, 0, 0, 0, 0) := rfl
theorem zk_13_64 : zc 13 64 = some (.iinc 2 1, 0, 0, 0, 0) := rfl
theorem zk_13_67 : zc 13 67 = some (.goto (-59), 8, 0, 0, 0) := rfl
theorem zk_13_70 : zc 13 70 = some (.iload_n 1, 0, 0, 0, 0) := rfl
theorem zk_13_71 : zc 13 71 = some (.ifCond .eq 23, 94, 0, 0, 0) := rfl
theorem zk_13_74 : zc 13 74 = some (.aload_n 0, 0, 0, 0, 0) := rfl
theorem zk_13_75 : zc 13 75 = some (.getfield 21, 2, 1, 0, 12) := rfl
theorem zk_13_78 : zc 13 78 = some (.invokevirtual 108, 63, 0, 1, 24) := rfl
theorem zk_13_81 : zc 13 81 = some (.ifCond .ne 13, 94, 0, 0, 0) := rfl
theorem zk_13_84 : zc 13 84 = some (.aload_n 0, 0, 0, 0, 0) := rfl
theorem zk_13_85 : zc 13 85 = some (.dup, 0, 0, 0, 0) := rfl
theorem zk_13_86 : zc 13 86 = some (.getfield 149, 2, 14, 0, 33) := rfl
theorem zk_13_89 : zc 13 89 = some (.iconst 1, 0, 0, 0, 0) := rfl
theorem zk_13_90 : zc 13 90 = some (.iadd, 0, 0, 0, 0) := rfl
theorem zk_13_91 : zc 13 91 = some (.putfield 149, 2, 14, 0, 33) := rfl
theorem zk_13_94 : zc 13 94 = some (.aload_n 0, 0, 0, 0, 0) := rfl
theorem zk_13_95 : zc 13 95 = some (.dup, 0, 0, 0, 0) := rfl
theorem zk_13_96 : zc 13 96 = some (.getfield 75, 2, 13, 0, 22) := rfl
theorem zk_13_99 : zc 13 99 = some (.iconst 1, 0, 0, 0, 0) := rfl
theorem zk_13_100 : zc 13 100 = some (.iadd, 0, 0, 0, 0) := rfl
theorem zk_13_101 : zc 13 101 = some (.putfield 75, 2, 13, 0, 22) := rfl
theorem zk_13_104 : zc 13 104 = some (.aload_n 0, 0, 0, 0, 0) := rfl
theorem zk_13_105 : zc 13 105 = some (.getfield 75, 2, 13, 0, 22) := rfl
theorem zk_13_108 : zc 13 108 = some (.bipush 96, 0, 0, 0, 0) := rfl
theorem zk_13_110 : zc 13 110 = some (.irem, 0, 0, 0, 0) := rfl
theorem zk_13_111 : zc 13 111 = some (.ifCond .ne 46, 157, 0, 0, 0) := rfl
theorem zk_13_114 : zc 13 114 = some (.aload_n 0, 0, 0, 0, 0) := rfl
theorem zk_13_115 : zc 13 115 = some (.getfield 12, 2, 0, 0, 11) := rfl
theorem zk_13_118 : zc 13 118 = some (.aload_n 0, 0, 0, 0, 0) := rfl
theorem zk_13_119 : zc 13 119 = some (.getfield 152, 2, 12, 0, 34) := rfl
theorem zk_13_122 : zc 13 122 = some (.invokevirtual 155, 38, 0, 2, 28) := rfl
theorem zk_13_125 : zc 13 125 = some (.iconst 0, 0, 0, 0, 0) := rfl
theorem zk_13_126 : zc 13 126 = some (.istore_n 2, 0, 0, 0, 0) := rfl
theorem zk_13_127 : zc 13 127 = some (.iload_n 2, 0, 0, 0, 0) := rfl
theorem zk_13_128 : zc 13 128 = some (.aload_n 0, 0, 0, 0, 0) := rfl
theorem zk_13_129 : zc 13 129 = some (.getfield 135, 2, 6, 0, 30) := rfl
theorem zk_13_132 : zc 13 132 = some (.if_icmp .ge 25, 157, 0, 0, 0) := rfl
theorem zk_13_135 : zc 13 135 = some (.aload_n 0, 0, 0, 0, 0) := rfl
theorem zk_13_136 : zc 13 136 = some (.getfield 33, 2, 3, 0, 14) := rfl
theorem zk_13_139 : zc 13 139 = some (.iload_n 2, 0, 0, 0, 0) := rfl
theorem zk_13_140 : zc 13 140 = some (.aaload, 0, 0, 0, 0) := rfl
theorem zk_13_141 : zc 13 141 = some (.aload_n 0, 0, 0, 0, 0) := rfl
theorem zk_13_142 : zc 13 142 = some (.getfield 75, 2, 13, 0, 22) := rfl
theorem zk_13_145 : zc 13 145 = some (.bipush 96, 0, 0, 0, 0) := rfl
theorem zk_13_147 : zc 13 147 = some (.idiv, 0, 0, 0, 0) := rfl
theorem zk_13_148 : zc 13 148 = some (.invokevirtual 158, 26, 0, 2, 29) := rfl
theorem zk_13_151 : zc 13 151 = some (.iinc 2 1, 0, 0, 0, 0) := rfl
theorem zk_13_154 : zc 13 154 = some (.goto (-27), 127, 0, 0, 0) := rfl
theorem zk_13_157 : zc 13 157 = some (.return_, 0, 0, 0, 0) := rfl
theorem zk_14_0 : zc 14 0 = some (.iconst 0, 0, 0, 0, 0) := rfl
theorem zk_14_1 : zc 14 1 = some (.istore_n 1, 0, 0, 0, 0) := rfl
theorem zk_14_2 : zc 14 2 = some (.iload_n 1, 0, 0, 0, 0) := rfl
theorem zk_14_3 : zc 14 3 = some (.aload_n 0, 0, 0, 0, 0) := rfl
theorem zk_14_4 : zc 14 4 = some (.getfield 21, 2, 1, 0, 12) := rfl
theorem zk_14_7 : zc 14 7 = some (.getfield 114, 7, 0, 0, 25) := rfl
theorem zk_14_10 : zc 14 10 = some (.if_icmp .ge 101, 111, 0, 0, 0) := rfl
theorem zk_14_13 : zc 14 13 = some (.iconst 0, 0, 0, 0, 0) := rfl
theorem zk_14_14 : zc 14 14 = some (.istore_n 2, 0, 0, 0, 0) := rfl
theorem zk_14_15 : zc 14 15 = some (.iconst 0, 0, 0, 0, 0) := rfl
theorem zk_14_16 : zc 14 16 = some (.istore_n 3, 0, 0, 0, 0) := rfl
theorem zk_14_17 : zc 14 17 = some (.iconst 0, 0, 0, 0, 0) := rfl
theorem zk_14_18 : zc 14 18 = some (.istore 4, 0, 0, 0, 0) := rfl
theorem zk_14_20 : zc 14 20 = some (.iload 4, 0, 0, 0, 0) := rfl
theorem zk_14_22 : zc 14 22 = some (.aload_n 0, 0, 0, 0, 0) := rfl
theorem zk_14_23 : zc 14 23 = some (.getfield 159, 2, 5, 0, 35) := rfl
theorem zk_14_26 : zc 14 26 = some (.if_icmp .ge 65, 91, 0, 0, 0) := rfl
theorem zk_14_29 : zc 14 29 = some (.aload_n 0, 0, 0, 0, 0) := rfl
theorem zk_14_30 : zc 14 30 = some (.getfield 27, 2, 2, 0, 13) := rfl
theorem zk_14_33 : zc 14 33 = some (.iload 4, 0, 0, 0, 0) := rfl
theorem zk_14_35 : zc 14 35 = some (.aaload, 0, 0, 0, 0) := rfl
theorem zk_14_36 : zc 14 36 = some (.getfield 162, 5, 1, 0, 36) := rfl
theorem zk_14_39 : zc 14 39 = some (.ifCond .eq 46, 85, 0, 0, 0) := rfl
theorem zk_14_42 : zc 14 42 = some (.aload_n 0, 0, 0, 0, 0) := rfl
theorem zk_14_43 : zc 14 43 = some (.getfield 27, 2, 2, 0, 13) := rfl
theorem zk_14_46 : zc 14 46 = some (.iload 4, 0, 0, 0, 0) := rfl
theorem zk_14_48 : zc 14 48 = some (.aaload, 0, 0, 0, 0) := rfl
theorem zk_14_49 : zc 14 49 = some (.getfield 165, 5, 0, 0, 37) := rfl
theorem zk_14_52 : zc 14 52 = some (.iload_n 1, 0, 0, 0, 0) := rfl
theorem zk_14_53 : zc 14 53 = some (.if_icmp .ne 32, 85, 0, 0, 0) := rfl
theorem zk_14_56 : zc 14 56 = some (.iconst 1, 0, 0, 0, 0) := rfl
theorem zk_14_57 : zc 14 57 = some (.istore_n 2, 0, 0, 0, 0) := rfl
theorem zk_14_58 : zc 14 58 = some (.iload_n 3, 0, 0, 0, 0) := rfl
theorem zk_14_59 : zc 14 59 = some (.ifCond .ne 20, 79, 0, 0, 0) := rfl
theorem zk_14_62 : zc 14 62 = some (.aload_n 0, 0, 0, 0, 0) := rfl
theorem zk_14_63 : zc 14 63 = some (.getfield 27, 2, 2, 0, 13) := rfl
theorem zk_14_66 : zc 14 66 = some (.iload 4, 0, 0, 0, 0) := rfl
theorem zk_14_68 : zc 14 68 = some (.aaload, 0, 0, 0, 0) := rfl
theorem zk_14_69 : zc 14 69 = some (.aload_n 0, 0, 0, 0, 0) := rfl
theorem zk_14_70 : zc 14 70 = some (.getfield 64, 2, 18, 0, 20) := rfl
theorem zk_14_73 : zc 14 73 = some (.invokevirtual 168, 44, 0, 2, 30) := rfl
theorem zk_14_76 : zc 14 76 = some (.ifCond .eq 7, 83, 0, 0, 0) := rfl
theorem zk_14_79 : zc 14 79 = some (.iconst 1, 0, 0, 0, 0) := rfl
theorem zk_14_80 : zc 14 80 = some (.goto 4, 84, 0, 0, 0) := rfl
theorem zk_14_83 : zc 14 83 = some (.iconst 0, 0, 0, 0, 0) := rfl
theorem zk_14_84 : zc 14 84 = some (.istore_n 3, 0, 0, 0, 0) := rfl
theorem zk_14_85 : zc 14 85 = some (.iinc 4 1, 0, 0, 0, 0) := rfl
theorem zk_14_88 : zc 14 88 = some (.goto (-68), 20, 0, 0, 0) := rfl
theorem zk_14_91 : zc 14 91 = some (.iload_n 2, 0, 0, 0, 0) := rfl
theorem zk_14_92 : zc 14 92 = some (.ifCond .eq 13, 105, 0, 0, 0) := rfl
theorem zk_14_95 : zc 14 95 = some (.aload_n 0, 0, 0, 0, 0) := rfl
theorem zk_14_96 : zc 14 96 = some (.getfield 21, 2, 1, 0, 12) := rfl
theorem zk_14_99 : zc 14 99 = some (.getfield 117, 7, 2, 0, 26) := rfl
theorem zk_14_102 : zc 14 102 = some (.iload_n 1, 0, 0, 0, 0) := rfl
theorem zk_14_103 : zc 14 103 = some (.iload_n 3, 0, 0, 0, 0) := rfl
theorem zk_14_104 : zc 14 104 = some (.bastore, 0, 0, 0, 0) := rfl
theorem zk_14_105 : zc 14 105 = some (.iinc 1 1, 0, 0, 0, 0) := rfl
theorem zk_14_108 : zc 14 108 = some (.goto (-106), 2, 0, 0, 0) := rfl
theorem zk_14_111 : zc 14 111 = some (.return_, 0, 0, 0, 0) := rfl
theorem zk_15_0 : zc 15 0 = some (.iconst 0, 0, 0, 0, 0) := rfl
theorem zk_15_1 : zc 15 1 = some (.istore_n 1, 0, 0, 0, 0) := rfl
theorem zk_15_2 : zc 15 2 = some (.iload_n 1, 0, 0, 0, 0) := rfl
theorem zk_15_3 : zc 15 3 = some (.bipush 40, 0, 0, 0, 0) := rfl
theorem zk_15_5 : zc 15 5 = some (.if_icmp .ge 16, 21, 0, 0, 0) := rfl
theorem zk_15_8 : zc 15 8 = some (.aload_n 0, 0, 0, 0, 0) := rfl
theorem zk_15_9 : zc 15 9 = some (.getfield 68, 2, 19, 0, 21) := rfl
theorem zk_15_12 : zc 15 12 = some (.iload_n 1, 0, 0, 0, 0) := rfl
theorem zk_15_13 : zc 15 13 = some (.iconst 0, 0, 0, 0, 0) := rfl
theorem zk_15_14 : zc 15 14 = some (.bastore, 0, 0, 0, 0) := rfl
theorem zk_15_15 : zc 15 15 = some (.iinc 1 1, 0, 0, 0, 0) := rfl
theorem zk_15_18 : zc 15 18 = some (.goto (-16), 2, 0, 0, 0) := rfl
theorem zk_15_21 : zc 15 21 = some (.bipush 9, 0, 0, 0, 0) := rfl
theorem zk_15_23 : zc 15 23 = some (.istore_n 1, 0, 0, 0, 0) := rfl
theorem zk_15_24 : zc 15 24 = some (.iload_n 1, 0, 0, 0, 0) := rfl
theorem zk_15_25 : zc 15 25 = some (.ifCond .lt 61, 86, 0, 0, 0) := rfl
theorem zk_15_28 : zc 15 28 = some (.iconst 0, 0, 0, 0, 0) := rfl
theorem zk_15_29 : zc 15 29 = some (.istore_n 2, 0, 0, 0, 0) := rfl
theorem zk_15_30 : zc 15 30 = some (.iload_n 2, 0, 0, 0, 0) := rfl
theorem zk_15_31 : zc 15 31 = some (.aload_n 0, 0, 0, 0, 0) := rfl
theorem zk_15_32 : zc 15 32 = some (.getfield 172, 2, 7, 0, 38) := rfl
theorem zk_15_35 : zc 15 35 = some (.if_icmp .ge 45, 80, 0, 0, 0) := rfl
theorem zk_15_38 : zc 15 38 = some (.aload_n 0, 0, 0, 0, 0) := rfl
theorem zk_15_39 : zc 15 39 = some (.getfield 39, 2, 4, 0, 15) := rfl
theorem zk_15_42 : zc 15 42 = some (.iload_n 2, 0, 0, 0, 0) := rfl
theorem zk_15_43 : zc 15 43 = some (.aaload, 0, 0, 0, 0) := rfl
theorem zk_15_44 : zc 15 44 = some (.getfield 175, 0, 4, 0, 39) := rfl
theorem zk_15_47 : zc 15 47 = some (.iload_n 1, 0, 0, 0, 0) := rfl
theorem zk_15_48 : zc 15 48 = some (.if_icmp .ne 26, 74, 0, 0, 0) := rfl
theorem zk_15_51 : zc 15 51 = some (.aload_n 0, 0, 0, 0, 0) := rfl
theorem zk_15_52 : zc 15 52 = some (.getfield 39, 2, 4, 0, 15) := rfl
theorem zk_15_55 : zc 15 55 = some (.iload_n 2, 0, 0, 0, 0) := rfl
theorem zk_15_56 : zc 15 56 = some (.aaload, 0, 0, 0, 0) := rfl
theorem zk_15_57 : zc 15 57 = some (.getfield 178, 0, 5, 0, 40) := rfl
theorem zk_15_60 : zc 15 60 = some (.iconst (-1), 0, 0, 0, 0) := rfl
theorem zk_15_61 : zc 15 61 = some (.if_icmp .eq 13, 74, 0, 0, 0) := rfl
theorem zk_15_64 : zc 15 64 = some (.aload_n 0, 0, 0, 0, 0) := rfl
theorem zk_15_65 : zc 15 65 = some (.aload_n 0, 0, 0, 0, 0) := rfl
theorem zk_15_66 : zc 15 66 = some (.getfield 39, 2, 4, 0, 15) := rfl
theorem zk_15_69 : zc 15 69 = some (.iload_n 2, 0, 0, 0, 0) := rfl
theorem zk_15_70 : zc 15 70 = some (.aaload, 0, 0, 0, 0) := rfl
theorem zk_15_71 : zc 15 71 = some (.invokevirtual 181, 16, 0, 2, 31) := rfl
theorem zk_15_74 : zc 15 74 = some (.iinc 2 1, 0, 0, 0, 0) := rfl
theorem zk_15_77 : zc 15 77 = some (.goto (-47), 30, 0, 0, 0) := rfl
theorem zk_15_80 : zc 15 80 = some (.iinc 1 (-1), 0, 0, 0, 0) := rfl
theorem zk_15_83 : zc 15 83 = some (.goto (-59), 24, 0, 0, 0) := rfl
theorem zk_15_86 : zc 15 86 = some (.return_, 0, 0, 0, 0) := rfl
theorem zk_16_0 : zc 16 0 = some (.aload_n 0, 0, 0, 0, 0) := rfl
theorem zk_16_1 : zc 16 1 = some (.aload_n 1, 0, 0, 0, 0) := rfl
theorem zk_16_2 : zc 16 2 = some (.invokevirtual 185, 17, 0, 2, 32) := rfl
theorem zk_16_5 : zc 16 5 = some (.istore_n 2, 0, 0, 0, 0) := rfl
theorem zk_16_6 : zc 16 6 = some (.aload_n 1, 0, 0, 0, 0) := rfl
theorem zk_16_7 : zc 16 7 = some (.getfield 189, 0, 0, 0, 41) := rfl
theorem zk_16_10 : zc 16 10 = some (.iload_n 2, 0, 0, 0, 0) := rfl
theorem zk_16_11 : zc 16 11 = some (.invokestatic 190, 30, 1, 2, 33) := rfl
theorem zk_16_14 : zc 16 14 = some (.istore_n 3, 0, 0, 0, 0) := rfl
theorem zk_16_15 : zc 16 15 = some (.iload_n 3, 0, 0, 0, 0) := rfl
theorem zk_16_16 : zc 16 16 = some (.iconst (-1), 0, 0, 0, 0) := rfl
theorem zk_16_17 : zc 16 17 = some (.if_icmp .eq 24, 41, 0, 0, 0) := rfl
theorem zk_16_20 : zc 16 20 = some (.aload_n 0, 0, 0, 0, 0) := rfl
theorem zk_16_21 : zc 16 21 = some (.getfield 12, 2, 0, 0, 11) := rfl
theorem zk_16_24 : zc 16 24 = some (.getfield 193, 4, 6, 0, 42) := rfl
theorem zk_16_27 : zc 16 27 = some (.iload_n 3, 0, 0, 0, 0) := rfl
theorem zk_16_28 : zc 16 28 = some (.baload, 0, 0, 0, 0) := rfl
theorem zk_16_29 : zc 16 29 = some (.ifCond .eq 23, 52, 0, 0, 0) := rfl
theorem zk_16_32 : zc 16 32 = some (.aload_n 0, 0, 0, 0, 0) := rfl
theorem zk_16_33 : zc 16 33 = some (.getfield 68, 2, 19, 0, 21) := rfl
theorem zk_16_36 : zc 16 36 = some (.iload_n 3, 0, 0, 0, 0) := rfl
theorem zk_16_37 : zc 16 37 = some (.baload, 0, 0, 0, 0) := rfl
theorem zk_16_38 : zc 16 38 = some (.ifCond .eq 14, 52, 0, 0, 0) := rfl
theorem zk_16_41 : zc 16 41 = some (.aload_n 1, 0, 0, 0, 0) := rfl
theorem zk_16_42 : zc 16 42 = some (.dup, 0, 0, 0, 0) := rfl
theorem zk_16_43 : zc 16 43 = some (.getfield 196, 0, 6, 0, 43) := rfl
theorem zk_16_46 : zc 16 46 = some (.iconst 1, 0, 0, 0, 0) := rfl
theorem zk_16_47 : zc 16 47 = some (.iadd, 0, 0, 0, 0) := rfl
theorem zk_16_48 : zc 16 48 = some (.putfield 196, 0, 6, 0, 43) := rfl
theorem zk_16_51 : zc 16 51 = some (.return_, 0, 0, 0, 0) := rfl
theorem zk_16_52 : zc 16 52 = some (.aload_n 0, 0, 0, 0, 0) := rfl
theorem zk_16_53 : zc 16 53 = some (.getfield 68, 2, 19, 0, 21) := rfl
theorem zk_16_56 : zc 16 56 = some (.iload_n 3, 0, 0, 0, 0) := rfl
theorem zk_16_57 : zc 16 57 = some (.iconst 1, 0, 0, 0, 0) := rfl
theorem zk_16_58 : zc 16 58 = some (.bastore, 0, 0, 0, 0) := rfl
theorem zk_16_59 : zc 16 59 = some (.aload_n 1, 0, 0, 0, 0) := rfl
theorem zk_16_60 : zc 16 60 = some (.iload_n 2, 0, 0, 0, 0) := rfl
theorem zk_16_61 : zc 16 61 = some (.putfield 189, 0, 0, 0, 41) := rfl
theorem zk_16_64 : zc 16 64 = some (.aload_n 1, 0, 0, 0, 0) := rfl
theorem zk_16_65 : zc 16 65 = some (.dup, 0, 0, 0, 0) := rfl
theorem zk_16_66 : zc 16 66 = some (.getfield 199, 0, 9, 0, 44) := rfl
theorem zk_16_69 : zc 16 69 = some (.iconst 1, 0, 0, 0, 0) := rfl
theorem zk_16_70 : zc 16 70 = some (.iadd, 0, 0, 0, 0) := rfl
theorem zk_16_71 : zc 16 71 = some (.putfield 199, 0, 9, 0, 44) := rfl
theorem zk_16_74 : zc 16 74 = some (.aload_n 1, 0, 0, 0, 0) := rfl
theorem zk_16_75 : zc 16 75 = some (.dup, 0, 0, 0, 0) := rfl
theorem zk_16_76 : zc 16 76 = some (.getfield 202, 0, 8, 0, 45) := rfl
theorem zk_16_79 : zc 16 79 = some (.aload_n 0, 0, 0, 0, 0) := rfl
theorem zk_16_80 : zc 16 80 = some (.getfield 12, 2, 0, 0, 11) := rfl
theorem zk_16_83 : zc 16 83 = some (.iload_n 2, 0, 0, 0, 0) := rfl
theorem zk_16_84 : zc 16 84 = some (.aload_n 1, 0, 0, 0, 0) := rfl
theorem zk_16_85 : zc 16 85 = some (.getfield 205, 0, 3, 0, 46) := rfl
theorem zk_16_88 : zc 16 88 = some (.aload_n 0, 0, 0, 0, 0) := rfl
theorem zk_16_89 : zc 16 89 = some (.getfield 53, 2, 11, 0, 18) := rfl
theorem zk_16_92 : zc 16 92 = some (.invokestatic 208, 0, 8, 0, 34) := rfl
theorem zk_16_95 : zc 16 95 = some (.invokevirtual 211, 37, 0, 3, 35) := rfl
theorem zk_16_98 : zc 16 98 = some (.iadd, 0, 0, 0, 0) := rfl
theorem zk_16_99 : zc 16 99 = some (.putfield 202, 0, 8, 0, 45) := rfl
theorem zk_16_102 : zc 16 102 = some (.iload_n 2, 0, 0, 0, 0) := rfl
theorem zk_16_103 : zc 16 103 = some (.aload_n 1, 0, 0, 0, 0) := rfl
theorem zk_16_104 : zc 16 104 = some (.getfield 178, 0, 5, 0, 40) := rfl
theorem zk_16_107 : zc 16 107 = some (.if_icmp .ne 18, 125, 0, 0, 0) := rfl
theorem zk_16_110 : zc 16 110 = some (.aload_n 1, 0, 0, 0, 0) := rfl
theorem zk_16_111 : zc 16 111 = some (.iconst (-1), 0, 0, 0, 0) := rfl
theorem zk_16_112 : zc 16 112 = some (.putfield 178, 0, 5, 0, 40) := rfl
theorem zk_16_115 : zc 16 115 = some (.aload_n 1, 0, 0, 0, 0) := rfl
theorem zk_16_116 : zc 16 116 = some (.dup, 0, 0, 0, 0) := rfl
theorem zk_16_117 : zc 16 117 = some (.getfield 214, 0, 7, 0, 47) := rfl
theorem zk_16_120 : zc 16 120 = some (.iconst 1, 0, 0, 0, 0) := rfl
theorem zk_16_121 : zc 16 121 = some (.iadd, 0, 0, 0, 0) := rfl
theorem zk_16_122 : zc 16 122 = some (.putfield 214, 0, 7, 0, 47) := rfl
theorem zk_16_125 : zc 16 125 = some (.return_, 0, 0, 0, 0) := rfl
theorem zk_17_0 : zc 17 0 = some (.aload_n 1, 0, 0, 0, 0) := rfl
theorem zk_17_1 : zc 17 1 = some (.getfield 178, 0, 5, 0, 40) := rfl
theorem zk_17_4 : zc 17 4 = some (.iconst (-1), 0, 0, 0, 0) := rfl
theorem zk_17_5 : zc 17 5 = some (.if_icmp .ne 5, 10, 0, 0, 0) := rfl
theorem zk_17_8 : zc 17 8 = some (.iconst (-1), 0, 0, 0, 0) := rfl
theorem zk_17_9 : zc 17 9 = some (.ireturn, 0, 0, 0, 0) := rfl
theorem zk_17_10 : zc 17 10 = some (.aload_n 0, 0, 0, 0, 0) := rfl
theorem zk_17_11 : zc 17 11 = some (.getfield 60, 2, 17, 0, 19) := rfl
theorem zk_17_14 : zc 17 14 = some (.aload_n 0, 0, 0, 0, 0) := rfl
theorem zk_17_15 : zc 17 15 = some (.getfield 12, 2, 0, 0, 11) := rfl
theorem zk_17_18 : zc 17 18 = some (.aload_n 1, 0, 0, 0, 0) := rfl
theorem zk_17_19 : zc 17 19 = some (.invokevirtual 217, 5, 0, 3, 36) := rfl
theorem zk_17_22 : zc 17 22 = some (.aload_n 0, 0, 0, 0, 0) := rfl
theorem zk_17_23 : zc 17 23 = some (.getfield 60, 2, 17, 0, 19) := rfl
theorem zk_17_26 : zc 17 26 = some (.aload_n 1, 0, 0, 0, 0) := rfl
theorem zk_17_27 : zc 17 27 = some (.getfield 189, 0, 0, 0, 41) := rfl
theorem zk_17_30 : zc 17 30 = some (.aload_n 1, 0, 0, 0, 0) := rfl
theorem zk_17_31 : zc 17 31 = some (.getfield 178, 0, 5, 0, 40) := rfl
theorem zk_17_34 : zc 17 34 = some (.invokevirtual 221, 7, 0, 3, 37) := rfl
theorem zk_17_37 : zc 17 37 = some (.ireturn, 0, 0, 0, 0) := rfl
theorem zk_25_0 : zc 25 0 = some (.aload_n 0, 0, 0, 0, 0) := rfl
theorem zk_25_1 : zc 25 1 = some (.iload_n 1, 0, 0, 0, 0) := rfl
theorem zk_25_2 : zc 25 2 = some (.aload_n 0, 0, 0, 0, 0) := rfl
theorem zk_25_3 : zc 25 3 = some (.getfield 18, 3, 2, 0, 51) := rfl
theorem zk_25_6 : zc 25 6 = some (.aload_n 0, 0, 0, 0, 0) := rfl
theorem zk_25_7 : zc 25 7 = some (.getfield 27, 3, 5, 0, 54) := rfl
theorem zk_25_10 : zc 25 10 = some (.isub, 0, 0, 0, 0) := rfl
theorem zk_25_11 : zc 25 11 = some (.if_icmp .le 7, 18, 0, 0, 0) := rfl
theorem zk_25_14 : zc 25 14 = some (.iconst 1, 0, 0, 0, 0) := rfl
theorem zk_25_15 : zc 25 15 = some (.goto 4, 19, 0, 0, 0) := rfl
theorem zk_25_18 : zc 25 18 = some (.iconst 0, 0, 0, 0, 0) := rfl
theorem zk_25_19 : zc 25 19 = some (.putfield 39, 3, 9, 0, 58) := rfl
theorem zk_25_22 : zc 25 22 = some (.aload_n 0, 0, 0, 0, 0) := rfl
theorem zk_25_23 : zc 25 23 = some (.getfield 39, 3, 9, 0, 58) := rfl
theorem zk_25_26 : zc 25 26 = some (.ifCond .eq 63, 89, 0, 0, 0) := rfl
theorem zk_25_29 : zc 25 29 = some (.aload_n 0, 0, 0, 0, 0) := rfl
theorem zk_25_30 : zc 25 30 = some (.dup, 0, 0, 0, 0) := rfl
theorem zk_25_31 : zc 25 31 = some (.getfield 30, 3, 6, 0, 55) := rfl
theorem zk_25_34 : zc 25 34 = some (.iconst 1, 0, 0, 0, 0) := rfl
theorem zk_25_35 : zc 25 35 = some (.iadd, 0, 0, 0, 0) := rfl
theorem zk_25_36 : zc 25 36 = some (.putfield 30, 3, 6, 0, 55) := rfl
theorem zk_25_39 : zc 25 39 = some (.aload_n 0, 0, 0, 0, 0) := rfl
theorem zk_25_40 : zc 25 40 = some (.dup, 0, 0, 0, 0) := rfl
theorem zk_25_41 : zc 25 41 = some (.getfield 33, 3, 7, 0, 56) := rfl
theorem zk_25_44 : zc 25 44 = some (.aload_n 0, 0, 0, 0, 0) := rfl
theorem zk_25_45 : zc 25 45 = some (.getfield 9, 3, 0, 0, 49) := rfl
theorem zk_25_48 : zc 25 48 = some (.iconst 1, 0, 0, 0, 0) := rfl
theorem zk_25_49 : zc 25 49 = some (.if_icmp .ne 10, 59, 0, 0, 0) := rfl
theorem zk_25_52 : zc 25 52 = some (.aload_n 0, 0, 0, 0, 0) := rfl
theorem zk_25_53 : zc 25 53 = some (.getfield 24, 3, 4, 0, 53) := rfl
theorem zk_25_56 : zc 25 56 = some (.goto 4, 60, 0, 0, 0) := rfl
theorem zk_25_59 : zc 25 59 = some (.iconst 0, 0, 0, 0, 0) := rfl
theorem zk_25_60 : zc 25 60 = some (.iadd, 0, 0, 0, 0) := rfl
theorem zk_25_61 : zc 25 61 = some (.putfield 33, 3, 7, 0, 56) := rfl
theorem zk_25_64 : zc 25 64 = some (.aload_n 0, 0, 0, 0, 0) := rfl
theorem zk_25_65 : zc 25 65 = some (.dup, 0, 0, 0, 0) := rfl
theorem zk_25_66 : zc 25 66 = some (.getfield 36, 3, 8, 0, 57) := rfl
theorem zk_25_69 : zc 25 69 = some (.aload_n 0, 0, 0, 0, 0) := rfl
theorem zk_25_70 : zc 25 70 = some (.getfield 9, 3, 0, 0, 49) := rfl
theorem zk_25_73 : zc 25 73 = some (.iconst 2, 0, 0, 0, 0) := rfl
theorem zk_25_74 : zc 25 74 = some (.if_icmp .ne 7, 81, 0, 0, 0) := rfl
theorem zk_25_77 : zc 25 77 = some (.iconst 2, 0, 0, 0, 0) := rfl
theorem zk_25_78 : zc 25 78 = some (.goto 4, 82, 0, 0, 0) := rfl
theorem zk_25_81 : zc 25 81 = some (.iconst 0, 0, 0, 0, 0) := rfl
theorem zk_25_82 : zc 25 82 = some (.iadd, 0, 0, 0, 0) := rfl
theorem zk_25_83 : zc 25 83 = some (.putfield 36, 3, 8, 0, 57) := rfl
theorem zk_25_86 : zc 25 86 = some (.goto 20, 106, 0, 0, 0) := rfl
theorem zk_25_89 : zc 25 89 = some (.aload_n 0, 0, 0, 0, 0) := rfl
theorem zk_25_90 : zc 25 90 = some (.getfield 36, 3, 8, 0, 57) := rfl
theorem zk_25_93 : zc 25 93 = some (.ifCond .le 13, 106, 0, 0, 0) := rfl
theorem zk_25_96 : zc 25 96 = some (.aload_n 0, 0, 0, 0, 0) := rfl
theorem zk_25_97 : zc 25 97 = some (.dup, 0, 0, 0, 0) := rfl
theorem zk_25_98 : zc 25 98 = some (.getfield 36, 3, 8, 0, 57) := rfl
theorem zk_25_101 : zc 25 101 = some (.iconst 1, 0, 0, 0, 0) := rfl
theorem zk_25_102 : zc 25 102 = some (.isub, 0, 0, 0, 0) := rfl
theorem zk_25_103 : zc 25 103 = some (.putfield 36, 3, 8, 0, 57) := rfl
theorem zk_25_106 : zc 25 106 = some (.return_, 0, 0, 0, 0) := rfl
theorem zk_26_0 : zc 26 0 = some (.aload_n 0, 0, 0, 0, 0) := rfl
theorem zk_26_1 : zc 26 1 = some (.getfield 21, 3, 3, 0, 52) := rfl
theorem zk_26_4 : zc 26 4 = some (.ifCond .le 22, 26, 0, 0, 0) := rfl
theorem zk_26_7 : zc 26 7 = some (.iload_n 1, 0, 0, 0, 0) := rfl
theorem zk_26_8 : zc 26 8 = some (.aload_n 0, 0, 0, 0, 0) := rfl
theorem zk_26_9 : zc 26 9 = some (.getfield 21, 3, 3, 0, 52) := rfl
theorem zk_26_12 : zc 26 12 = some (.irem, 0, 0, 0, 0) := rfl
theorem zk_26_13 : zc 26 13 = some (.ifCond .ne 13, 26, 0, 0, 0) := rfl
theorem zk_26_16 : zc 26 16 = some (.aload_n 0, 0, 0, 0, 0) := rfl
theorem zk_26_17 : zc 26 17 = some (.dup, 0, 0, 0, 0) := rfl
theorem zk_26_18 : zc 26 18 = some (.getfield 27, 3, 5, 0, 54) := rfl
theorem zk_26_21 : zc 26 21 = some (.iconst 1, 0, 0, 0, 0) := rfl
theorem zk_26_22 : zc 26 22 = some (.iadd, 0, 0, 0, 0) := rfl
theorem zk_26_23 : zc 26 23 = some (.putfield 27, 3, 5, 0, 54) := rfl
theorem zk_26_26 : zc 26 26 = some (.return_, 0, 0, 0, 0) := rfl
theorem zk_35_0 : zc 35 0 = some (.aload_n 0, 0, 0, 0, 0) := rfl
theorem zk_35_1 : zc 35 1 = some (.getfield 15, 4, 1, 0, 60) := rfl
theorem zk_35_4 : zc 35 4 = some (.iconst 0, 0, 0, 0, 0) := rfl
theorem zk_35_5 : zc 35 5 = some (.aload_n 0, 0, 0, 0, 0) := rfl
theorem zk_35_6 : zc 35 6 = some (.getfield 34, 4, 7, 0, 66) := rfl
theorem zk_35_9 : zc 35 9 = some (.iconst 0, 0, 0, 0, 0) := rfl
theorem zk_35_10 : zc 35 10 = some (.bipush 25, 0, 0, 0, 0) := rfl
theorem zk_35_12 : zc 35 12 = some (.invokestatic 56, 0, 6, 0, 51) := rfl
theorem zk_35_15 : zc 35 15 = some (.iconst 0, 0, 0, 0, 0) := rfl
theorem zk_35_16 : zc 35 16 = some (.istore_n 1, 0, 0, 0, 0) := rfl
theorem zk_35_17 : zc 35 17 = some (.iload_n 1, 0, 0, 0, 0) := rfl
theorem zk_35_18 : zc 35 18 = some (.bipush 40, 0, 0, 0, 0) := rfl
theorem zk_35_20 : zc 35 20 = some (.if_icmp .ge 95, 115, 0, 0, 0) := rfl
theorem zk_35_23 : zc 35 23 = some (.aload_n 0, 0, 0, 0, 0) := rfl
theorem zk_35_24 : zc 35 24 = some (.getfield 27, 4, 5, 0, 64) := rfl
theorem zk_35_27 : zc 35 27 = some (.iload_n 1, 0, 0, 0, 0) := rfl
theorem zk_35_28 : zc 35 28 = some (.baload, 0, 0, 0, 0) := rfl
theorem zk_35_29 : zc 35 29 = some (.ifCond .ne 80, 109, 0, 0, 0) := rfl
theorem zk_35_32 : zc 35 32 = some (.iload_n 1, 0, 0, 0, 0) := rfl
theorem zk_35_33 : zc 35 33 = some (.invokestatic 62, 31, 1, 1, 52) := rfl
theorem zk_35_36 : zc 35 36 = some (.istore_n 2, 0, 0, 0, 0) := rfl
theorem zk_35_37 : zc 35 37 = some (.iload_n 1, 0, 0, 0, 0) := rfl
theorem zk_35_38 : zc 35 38 = some (.invokestatic 66, 32, 1, 1, 53) := rfl
theorem zk_35_41 : zc 35 41 = some (.istore_n 3, 0, 0, 0, 0) := rfl
theorem zk_35_42 : zc 35 42 = some (.aload_n 0, 0, 0, 0, 0) := rfl
theorem zk_35_43 : zc 35 43 = some (.getfield 34, 4, 7, 0, 66) := rfl
theorem zk_35_46 : zc 35 46 = some (.iload_n 2, 0, 0, 0, 0) := rfl
theorem zk_35_47 : zc 35 47 = some (.iaload, 0, 0, 0, 0) := rfl
theorem zk_35_48 : zc 35 48 = some (.aload_n 0, 0, 0, 0, 0) := rfl
theorem zk_35_49 : zc 35 49 = some (.getfield 34, 4, 7, 0, 66) := rfl
theorem zk_35_52 : zc 35 52 = some (.iload_n 3, 0, 0, 0, 0) := rfl
theorem zk_35_53 : zc 35 53 = some (.iaload, 0, 0, 0, 0) := rfl
theorem zk_35_54 : zc 35 54 = some (.isub, 0, 0, 0, 0) := rfl
theorem zk_35_55 : zc 35 55 = some (.iconst 4, 0, 0, 0, 0) := rfl
theorem zk_35_56 : zc 35 56 = some (.idiv, 0, 0, 0, 0) := rfl
theorem zk_35_57 : zc 35 57 = some (.istore 4, 0, 0, 0, 0) := rfl
theorem zk_35_59 : zc 35 59 = some (.aload_n 0, 0, 0, 0, 0) := rfl
theorem zk_35_60 : zc 35 60 = some (.getfield 15, 4, 1, 0, 60) := rfl
theorem zk_35_63 : zc 35 63 = some (.iload_n 2, 0, 0, 0, 0) := rfl
theorem zk_35_64 : zc 35 64 = some (.dup2, 0, 0, 0, 0) := rfl
theorem zk_35_65 : zc 35 65 = some (.iaload, 0, 0, 0, 0) := rfl
theorem zk_35_66 : zc 35 66 = some (.iload 4, 0, 0, 0, 0) := rfl
theorem zk_35_68 : zc 35 68 = some (.isub, 0, 0, 0, 0) := rfl
theorem zk_35_69 : zc 35 69 = some (.iastore, 0, 0, 0, 0) := rfl
theorem zk_35_70 : zc 35 70 = some (.aload_n 0, 0, 0, 0, 0) := rfl
theorem zk_35_71 : zc 35 71 = some (.getfield 15, 4, 1, 0, 60) := rfl
theorem zk_35_74 : zc 35 74 = some (.iload_n 3, 0, 0, 0, 0) := rfl
theorem zk_35_75 : zc 35 75 = some (.dup2, 0, 0, 0, 0) := rfl
theorem zk_35_76 : zc 35 76 = some (.iaload, 0, 0, 0, 0) := rfl
theorem zk_35_77 : zc 35 77 = some (.iload 4, 0, 0, 0, 0) := rfl
theorem zk_35_79 : zc 35 79 = some (.iadd, 0, 0, 0, 0) := rfl
theorem zk_35_80 : zc 35 80 = some (.iastore, 0, 0, 0, 0) := rfl
theorem zk_35_81 : zc 35 81 = some (.aload_n 0, 0, 0, 0, 0) := rfl
theorem zk_35_82 : zc 35 82 = some (.getfield 21, 4, 3, 0, 62) := rfl
theorem zk_35_85 : zc 35 85 = some (.iload_n 2, 0, 0, 0, 0) := rfl
theorem zk_35_86 : zc 35 86 = some (.dup2, 0, 0, 0, 0) := rfl
theorem zk_35_87 : zc 35 87 = some (.iaload, 0, 0, 0, 0) := rfl
theorem zk_35_88 : zc 35 88 = some (.iload 4, 0, 0, 0, 0) := rfl
theorem zk_35_90 : zc 35 90 = some (.invokestatic 69, 0, 9, 0, 54) := rfl
theorem zk_35_93 : zc 35 93 = some (.iadd, 0, 0, 0, 0) := rfl
theorem zk_35_94 : zc 35 94 = some (.iastore, 0, 0, 0, 0) := rfl
theorem zk_35_95 : zc 35 95 = some (.aload_n 0, 0, 0, 0, 0) := rfl
theorem zk_35_96 : zc 35 96 = some (.getfield 21, 4, 3, 0, 62) := rfl
theorem zk_35_99 : zc 35 99 = some (.iload_n 3, 0, 0, 0, 0) := rfl
theorem zk_35_100 : zc 35 100 = some (.dup2, 0, 0, 0, 0) := rfl
theorem zk_35_101 : zc 35 101 = some (.iaload, 0, 0, 0, 0) := rfl
theorem zk_35_102 : zc 35 102 = some (.iload 4, 0, 0, 0, 0) := rfl
theorem zk_35_104 : zc 35 104 = some (.invokestatic 69, 0, 9, 0, 54) := rfl
theorem zk_35_107 : zc 35 107 = some (.iadd, 0, 0, 0, 0) := rfl
theorem zk_35_108 : zc 35 108 = some (.iastore, 0, 0, 0, 0) := rfl
theorem zk_35_109 : zc 35 109 = some (.iinc 1 1, 0, 0, 0, 0) := rfl
theorem zk_35_112 : zc 35 112 = some (.goto (-95), 17, 0, 0, 0) := rfl
theorem zk_35_115 : zc 35 115 = some (.return_, 0, 0, 0, 0) := rfl
theorem zk_36_0 : zc 36 0 = some (.iload_n 2, 0, 0, 0, 0) := rfl
theorem zk_36_1 : zc 36 1 = some (.invokestatic 62, 31, 1, 1, 52) := rfl
theorem zk_36_4 : zc 36 4 = some (.istore_n 3, 0, 0, 0, 0) := rfl
theorem zk_36_5 : zc 36 5 = some (.iload_n 2, 0, 0, 0, 0) := rfl
theorem zk_36_6 : zc 36 6 = some (.invokestatic 66, 32, 1, 1, 53) := rfl
theorem zk_36_9 : zc 36 9 = some (.istore 4, 0, 0, 0, 0) := rfl
theorem zk_36_11 : zc 36 11 = some (.aload_n 0, 0, 0, 0, 0) := rfl
theorem zk_36_12 : zc 36 12 = some (.getfield 27, 4, 5, 0, 64) := rfl
theorem zk_36_15 : zc 36 15 = some (.iload_n 2, 0, 0, 0, 0) := rfl
theorem zk_36_16 : zc 36 16 = some (.baload, 0, 0, 0, 0) := rfl
theorem zk_36_17 : zc 36 17 = some (.ifCond .ne 45, 62, 0, 0, 0) := rfl
theorem zk_36_20 : zc 36 20 = some (.aload_n 0, 0, 0, 0, 0) := rfl
theorem zk_36_21 : zc 36 21 = some (.getfield 15, 4, 1, 0, 60) := rfl
theorem zk_36_24 : zc 36 24 = some (.iload_n 3, 0, 0, 0, 0) := rfl
theorem zk_36_25 : zc 36 25 = some (.iaload, 0, 0, 0, 0) := rfl
theorem zk_36_26 : zc 36 26 = some (.aload_n 0, 0, 0, 0, 0) := rfl
theorem zk_36_27 : zc 36 27 = some (.getfield 9, 4, 0, 0, 59) := rfl
theorem zk_36_30 : zc 36 30 = some (.iload_n 3, 0, 0, 0, 0) := rfl
theorem zk_36_31 : zc 36 31 = some (.iaload, 0, 0, 0, 0) := rfl
theorem zk_36_32 : zc 36 32 = some (.iadd, 0, 0, 0, 0) := rfl
theorem zk_36_33 : zc 36 33 = some (.aload_n 1, 0, 0, 0, 0) := rfl
theorem zk_36_34 : zc 36 34 = some (.getfield 72, 0, 1, 0, 67) := rfl
theorem zk_36_37 : zc 36 37 = some (.if_icmp .lt 25, 62, 0, 0, 0) := rfl
theorem zk_36_40 : zc 36 40 = some (.aload_n 0, 0, 0, 0, 0) := rfl
theorem zk_36_41 : zc 36 41 = some (.getfield 15, 4, 1, 0, 60) := rfl
theorem zk_36_44 : zc 36 44 = some (.iload 4, 0, 0, 0, 0) := rfl
theorem zk_36_46 : zc 36 46 = some (.iaload, 0, 0, 0, 0) := rfl
theorem zk_36_47 : zc 36 47 = some (.aload_n 0, 0, 0, 0, 0) := rfl
theorem zk_36_48 : zc 36 48 = some (.getfield 9, 4, 0, 0, 59) := rfl
theorem zk_36_51 : zc 36 51 = some (.iload 4, 0, 0, 0, 0) := rfl
theorem zk_36_53 : zc 36 53 = some (.iaload, 0, 0, 0, 0) := rfl
theorem zk_36_54 : zc 36 54 = some (.iadd, 0, 0, 0, 0) := rfl
theorem zk_36_55 : zc 36 55 = some (.aload_n 1, 0, 0, 0, 0) := rfl
theorem zk_36_56 : zc 36 56 = some (.getfield 72, 0, 1, 0, 67) := rfl
theorem zk_36_59 : zc 36 59 = some (.if_icmp .ge 5, 64, 0, 0, 0) := rfl
theorem zk_36_62 : zc 36 62 = some (.iconst 0, 0, 0, 0, 0) := rfl
theorem zk_36_63 : zc 36 63 = some (.ireturn, 0, 0, 0, 0) := rfl
theorem zk_36_64 : zc 36 64 = some (.aload_n 0, 0, 0, 0, 0) := rfl
theorem zk_36_65 : zc 36 65 = some (.getfield 24, 4, 4, 0, 63) := rfl
theorem zk_36_68 : zc 36 68 = some (.iload_n 2, 0, 0, 0, 0) := rfl
theorem zk_36_69 : zc 36 69 = some (.iaload, 0, 0, 0, 0) := rfl
theorem zk_36_70 : zc 36 70 = some (.iconst (-1), 0, 0, 0, 0) := rfl
theorem zk_36_71 : zc 36 71 = some (.if_icmp .eq 33, 104, 0, 0, 0) := rfl
theorem zk_36_74 : zc 36 74 = some (.aload_n 1, 0, 0, 0, 0) := rfl
theorem zk_36_75 : zc 36 75 = some (.getfield 78, 0, 2, 0, 68) := rfl
theorem zk_36_78 : zc 36 78 = some (.aload_n 0, 0, 0, 0, 0) := rfl
theorem zk_36_79 : zc 36 79 = some (.getfield 15, 4, 1, 0, 60) := rfl
theorem zk_36_82 : zc 36 82 = some (.iload_n 3, 0, 0, 0, 0) := rfl
theorem zk_36_83 : zc 36 83 = some (.iaload, 0, 0, 0, 0) := rfl
theorem zk_36_84 : zc 36 84 = some (.aload_n 0, 0, 0, 0, 0) := rfl
theorem zk_36_85 : zc 36 85 = some (.getfield 15, 4, 1, 0, 60) := rfl
theorem zk_36_88 : zc 36 88 = some (.iload 4, 0, 0, 0, 0) := rfl
theorem zk_36_90 : zc 36 90 = some (.iaload, 0, 0, 0, 0) := rfl
theorem zk_36_91 : zc 36 91 = some (.invokestatic 53, 0, 7, 0, 50) := rfl
theorem zk_36_94 : zc 36 94 = some (.iadd, 0, 0, 0, 0) := rfl
theorem zk_36_95 : zc 36 95 = some (.aload_n 0, 0, 0, 0, 0) := rfl
theorem zk_36_96 : zc 36 96 = some (.getfield 24, 4, 4, 0, 63) := rfl
theorem zk_36_99 : zc 36 99 = some (.iload_n 2, 0, 0, 0, 0) := rfl
theorem zk_36_100 : zc 36 100 = some (.iaload, 0, 0, 0, 0) := rfl
theorem zk_36_101 : zc 36 101 = some (.if_icmp .gt 7, 108, 0, 0, 0) := rfl
theorem zk_36_104 : zc 36 104 = some (.iconst 1, 0, 0, 0, 0) := rfl
theorem zk_36_105 : zc 36 105 = some (.goto 4, 109, 0, 0, 0) := rfl
theorem zk_36_108 : zc 36 108 = some (.iconst 0, 0, 0, 0, 0) := rfl
theorem zk_36_109 : zc 36 109 = some (.ireturn, 0, 0, 0, 0) := rfl
theorem zk_37_0 : zc 37 0 = some (.aload_n 0, 0, 0, 0, 0) := rfl
theorem zk_37_1 : zc 37 1 = some (.getfield 18, 4, 2, 0, 61) := rfl
theorem zk_37_4 : zc 37 4 = some (.iload_n 1, 0, 0, 0, 0) := rfl
theorem zk_37_5 : zc 37 5 = some (.iaload, 0, 0, 0, 0) := rfl
theorem zk_37_6 : zc 37 6 = some (.iload_n 2, 0, 0, 0, 0) := rfl
theorem zk_37_7 : zc 37 7 = some (.iload_n 2, 0, 0, 0, 0) := rfl
theorem zk_37_8 : zc 37 8 = some (.imul, 0, 0, 0, 0) := rfl
theorem zk_37_9 : zc 37 9 = some (.iconst 4, 0, 0, 0, 0) := rfl
theorem zk_37_10 : zc 37 10 = some (.idiv, 0, 0, 0, 0) := rfl
theorem zk_37_11 : zc 37 11 = some (.invokestatic 47, 0, 8, 0, 49) := rfl
theorem zk_37_14 : zc 37 14 = some (.istore_n 3, 0, 0, 0, 0) := rfl
theorem zk_37_15 : zc 37 15 = some (.aload_n 0, 0, 0, 0, 0) := rfl
theorem zk_37_16 : zc 37 16 = some (.getfield 18, 4, 2, 0, 61) := rfl
theorem zk_37_19 : zc 37 19 = some (.iload_n 1, 0, 0, 0, 0) := rfl
theorem zk_37_20 : zc 37 20 = some (.dup2, 0, 0, 0, 0) := rfl
theorem zk_37_21 : zc 37 21 = some (.iaload, 0, 0, 0, 0) := rfl
theorem zk_37_22 : zc 37 22 = some (.iload_n 3, 0, 0, 0, 0) := rfl
theorem zk_37_23 : zc 37 23 = some (.isub, 0, 0, 0, 0) := rfl
theorem zk_37_24 : zc 37 24 = some (.iastore, 0, 0, 0, 0) := rfl
theorem zk_37_25 : zc 37 25 = some (.iload_n 3, 0, 0, 0, 0) := rfl
theorem zk_37_26 : zc 37 26 = some (.ireturn, 0, 0, 0, 0) := rfl
theorem zk_38_0 : zc 38 0 = some (.iconst 0, 0, 0, 0, 0) := rfl
theorem zk_38_1 : zc 38 1 = some (.istore_n 2, 0, 0, 0, 0) := rfl
theorem zk_38_2 : zc 38 2 = some (.iload_n 2, 0, 0, 0, 0) := rfl
theorem zk_38_3 : zc 38 3 = some (.bipush 25, 0, 0, 0, 0) := rfl
theorem zk_38_5 : zc 38 5 = some (.if_icmp .ge 45, 50, 0, 0, 0) := rfl
theorem zk_38_8 : zc 38 8 = some (.aload_n 0, 0, 0, 0, 0) := rfl
theorem zk_38_9 : zc 38 9 = some (.getfield 21, 4, 3, 0, 62) := rfl
theorem zk_38_12 : zc 38 12 = some (.iload_n 2, 0, 0, 0, 0) := rfl
theorem zk_38_13 : zc 38 13 = some (.iaload, 0, 0, 0, 0) := rfl
theorem zk_38_14 : zc 38 14 = some (.iload_n 1, 0, 0, 0, 0) := rfl
theorem zk_38_15 : zc 38 15 = some (.if_icmp .ge 22, 37, 0, 0, 0) := rfl
theorem zk_38_18 : zc 38 18 = some (.aload_n 0, 0, 0, 0, 0) := rfl
theorem zk_38_19 : zc 38 19 = some (.getfield 9, 4, 0, 0, 59) := rfl
theorem zk_38_22 : zc 38 22 = some (.iload_n 2, 0, 0, 0, 0) := rfl
theorem zk_38_23 : zc 38 23 = some (.iaload, 0, 0, 0, 0) := rfl
theorem zk_38_24 : zc 38 24 = some (.ifCond .le 13, 37, 0, 0, 0) := rfl
theorem zk_38_27 : zc 38 27 = some (.aload_n 0, 0, 0, 0, 0) := rfl
theorem zk_38_28 : zc 38 28 = some (.getfield 9, 4, 0, 0, 59) := rfl
theorem zk_38_31 : zc 38 31 = some (.iload_n 2, 0, 0, 0, 0) := rfl
theorem zk_38_32 : zc 38 32 = some (.dup2, 0, 0, 0, 0) := rfl
theorem zk_38_33 : zc 38 33 = some (.iaload, 0, 0, 0, 0) := rfl
theorem zk_38_34 : zc 38 34 = some (.iconst 1, 0, 0, 0, 0) := rfl
theorem zk_38_35 : zc 38 35 = some (.isub, 0, 0, 0, 0) := rfl
theorem zk_38_36 : zc 38 36 = some (.iastore, 0, 0, 0, 0) := rfl
theorem zk_38_37 : zc 38 37 = some (.aload_n 0, 0, 0, 0, 0) := rfl
theorem zk_38_38 : zc 38 38 = some (.getfield 21, 4, 3, 0, 62) := rfl
theorem zk_38_41 : zc 38 41 = some (.iload_n 2, 0, 0, 0, 0) := rfl
theorem zk_38_42 : zc 38 42 = some (.iconst 0, 0, 0, 0, 0) := rfl
theorem zk_38_43 : zc 38 43 = some (.iastore, 0, 0, 0, 0) := rfl
theorem zk_38_44 : zc 38 44 = some (.iinc 2 1, 0, 0, 0, 0) := rfl
theorem zk_38_47 : zc 38 47 = some (.goto (-45), 2, 0, 0, 0) := rfl
theorem zk_38_50 : zc 38 50 = some (.return_, 0, 0, 0, 0) := rfl
theorem zk_44_0 : zc 44 0 = some (.lconst 0, 0, 0, 0, 0) := rfl
theorem zk_44_1 : zc 44 1 = some (.lstore_n 2, 0, 0, 0, 0) := rfl
theorem zk_44_2 : zc 44 2 = some (.iconst 0, 0, 0, 0, 0) := rfl
theorem zk_44_3 : zc 44 3 = some (.istore 4, 0, 0, 0, 0) := rfl
theorem zk_44_5 : zc 44 5 = some (.iload 4, 0, 0, 0, 0) := rfl
theorem zk_44_7 : zc 44 7 = some (.aload_n 0, 0, 0, 0, 0) := rfl
theorem zk_44_8 : zc 44 8 = some (.getfield 19, 5, 2, 0, 71) := rfl
theorem zk_44_11 : zc 44 11 = some (.if_icmp .ge 102, 113, 0, 0, 0) := rfl
theorem zk_44_14 : zc 44 14 = some (.lload_n 2, 0, 0, 0, 0) := rfl
theorem zk_44_15 : zc 44 15 = some (.lconst 1, 0, 0, 0, 0) := rfl
theorem zk_44_16 : zc 44 16 = some (.land, 0, 0, 0, 0) := rfl
theorem zk_44_17 : zc 44 17 = some (.lstore 5, 0, 0, 0, 0) := rfl
theorem zk_44_19 : zc 44 19 = some (.aload_n 0, 0, 0, 0, 0) := rfl
theorem zk_44_20 : zc 44 20 = some (.getfield 9, 5, 3, 0, 69) := rfl
theorem zk_44_23 : zc 44 23 = some (.iload 4, 0, 0, 0, 0) := rfl
theorem zk_44_25 : zc 44 25 = some (.iaload, 0, 0, 0, 0) := rfl
theorem zk_44_26 : zc 44 26 = some (.ifCond .lt 30, 56, 0, 0, 0) := rfl
theorem zk_44_29 : zc 44 29 = some (.lload_n 2, 0, 0, 0, 0) := rfl
theorem zk_44_30 : zc 44 30 = some (.iconst 1, 0, 0, 0, 0) := rfl
theorem zk_44_31 : zc 44 31 = some (.lshl, 0, 0, 0, 0) := rfl
theorem zk_44_32 : zc 44 32 = some (.aload_n 0, 0, 0, 0, 0) := rfl
theorem zk_44_33 : zc 44 33 = some (.getfield 9, 5, 3, 0, 69) := rfl
theorem zk_44_36 : zc 44 36 = some (.iload 4, 0, 0, 0, 0) := rfl
theorem zk_44_38 : zc 44 38 = some (.iaload, 0, 0, 0, 0) := rfl
theorem zk_44_39 : zc 44 39 = some (.aload_n 1, 0, 0, 0, 0) := rfl
theorem zk_44_40 : zc 44 40 = some (.invokestatic 27, 45, 1, 2, 57) := rfl
theorem zk_44_43 : zc 44 43 = some (.ifCond .eq 7, 50, 0, 0, 0) := rfl
theorem zk_44_46 : zc 44 46 = some (.lconst 1, 0, 0, 0, 0) := rfl
theorem zk_44_47 : zc 44 47 = some (.goto 4, 51, 0, 0, 0) := rfl
theorem zk_44_50 : zc 44 50 = some (.lconst 0, 0, 0, 0, 0) := rfl
theorem zk_44_51 : zc 44 51 = some (.lor, 0, 0, 0, 0) := rfl
theorem zk_44_52 : zc 44 52 = some (.lstore_n 2, 0, 0, 0, 0) := rfl
theorem zk_44_53 : zc 44 53 = some (.goto 54, 107, 0, 0, 0) := rfl
theorem zk_44_56 : zc 44 56 = some (.aload_n 0, 0, 0, 0, 0) := rfl
theorem zk_44_57 : zc 44 57 = some (.getfield 9, 5, 3, 0, 69) := rfl
theorem zk_44_60 : zc 44 60 = some (.iload 4, 0, 0, 0, 0) := rfl
theorem zk_44_62 : zc 44 62 = some (.iaload, 0, 0, 0, 0) := rfl
theorem zk_44_63 : zc 44 63 = some (.iconst (-1), 0, 0, 0, 0) := rfl
theorem zk_44_64 : zc 44 64 = some (.if_icmp .ne 10, 74, 0, 0, 0) := rfl
theorem zk_44_67 : zc 44 67 = some (.lload_n 2, 0, 0, 0, 0) := rfl
theorem zk_44_68 : zc 44 68 = some (.lconst 1, 0, 0, 0, 0) := rfl
theorem zk_44_69 : zc 44 69 = some (.lxor, 0, 0, 0, 0) := rfl
theorem zk_44_70 : zc 44 70 = some (.lstore_n 2, 0, 0, 0, 0) := rfl
theorem zk_44_71 : zc 44 71 = some (.goto 36, 107, 0, 0, 0) := rfl
theorem zk_44_74 : zc 44 74 = some (.aload_n 0, 0, 0, 0, 0) := rfl
theorem zk_44_75 : zc 44 75 = some (.getfield 9, 5, 3, 0, 69) := rfl
theorem zk_44_78 : zc 44 78 = some (.iload 4, 0, 0, 0, 0) := rfl
theorem zk_44_80 : zc 44 80 = some (.iaload, 0, 0, 0, 0) := rfl
theorem zk_44_81 : zc 44 81 = some (.bipush (-2), 0, 0, 0, 0) := rfl
theorem zk_44_83 : zc 44 83 = some (.if_icmp .ne 17, 100, 0, 0, 0) := rfl
theorem zk_44_86 : zc 44 86 = some (.lload_n 2, 0, 0, 0, 0) := rfl
theorem zk_44_87 : zc 44 87 = some (.iconst 1, 0, 0, 0, 0) := rfl
theorem zk_44_88 : zc 44 88 = some (.lushr, 0, 0, 0, 0) := rfl
theorem zk_44_89 : zc 44 89 = some (.lload 5, 0, 0, 0, 0) := rfl
theorem zk_44_91 : zc 44 91 = some (.ldc2_w 31, 0, 0, -2, 0) := rfl
theorem zk_44_94 : zc 44 94 = some (.lor, 0, 0, 0, 0) := rfl
theorem zk_44_95 : zc 44 95 = some (.land, 0, 0, 0, 0) := rfl
theorem zk_44_96 : zc 44 96 = some (.lstore_n 2, 0, 0, 0, 0) := rfl
theorem zk_44_97 : zc 44 97 = some (.goto 10, 107, 0, 0, 0) := rfl
theorem zk_44_100 : zc 44 100 = some (.lload_n 2, 0, 0, 0, 0) := rfl
theorem zk_44_101 : zc 44 101 = some (.iconst 1, 0, 0, 0, 0) := rfl
theorem zk_44_102 : zc 44 102 = some (.lushr, 0, 0, 0, 0) := rfl
theorem zk_44_103 : zc 44 103 = some (.lload 5, 0, 0, 0, 0) := rfl
theorem zk_44_105 : zc 44 105 = some (.lor, 0, 0, 0, 0) := rfl
theorem zk_44_106 : zc 44 106 = some (.lstore_n 2, 0, 0, 0, 0) := rfl
theorem zk_44_107 : zc 44 107 = some (.iinc 4 1, 0, 0, 0, 0) := rfl
theorem zk_44_110 : zc 44 110 = some (.goto (-105), 5, 0, 0, 0) := rfl
theorem zk_44_113 : zc 44 113 = some (.lload_n 2, 0, 0, 0, 0) := rfl
theorem zk_44_114 : zc 44 114 = some (.lconst 1, 0, 0, 0, 0) := rfl
theorem zk_44_115 : zc 44 115 = some (.land, 0, 0, 0, 0) := rfl
theorem zk_44_116 : zc 44 116 = some (.lconst 1, 0, 0, 0, 0) := rfl
theorem zk_44_117 : zc 44 117 = some (.lcmp, 0, 0, 0, 0) := rfl
theorem zk_44_118 : zc 44 118 = some (.ifCond .ne 7, 125, 0, 0, 0) := rfl
theorem zk_44_121 : zc 44 121 = some (.iconst 1, 0, 0, 0, 0) := rfl
theorem zk_44_122 : zc 44 122 = some (.goto 4, 126, 0, 0, 0) := rfl
theorem zk_44_125 : zc 44 125 = some (.iconst 0, 0, 0, 0, 0) := rfl
theorem zk_44_126 : zc 44 126 = some (.ireturn, 0, 0, 0, 0) := rfl
theorem zk_45_0 : zc 45 0 = some (.iload_n 0, 0, 0, 0, 0) := rfl
theorem zk_45_1 : zc 45 1 = some (.sipush 1000, 0, 0, 0, 0) := rfl
theorem zk_45_4 : zc 45 4 = some (.idiv, 0, 0, 0, 0) := rfl
theorem zk_45_5 : zc 45 5 = some (.iconst 3, 0, 0, 0, 0) := rfl
theorem zk_45_6 : zc 45 6 = some (.idiv, 0, 0, 0, 0) := rfl
theorem zk_45_7 : zc 45 7 = some (.istore_n 2, 0, 0, 0, 0) := rfl
theorem zk_45_8 : zc 45 8 = some (.iload_n 2, 0, 0, 0, 0) := rfl
theorem zk_45_9 : zc 45 9 = some (.ifCond .lt 9, 18, 0, 0, 0) := rfl
theorem zk_45_12 : zc 45 12 = some (.iload_n 2, 0, 0, 0, 0) := rfl
theorem zk_45_13 : zc 45 13 = some (.aload_n 1, 0, 0, 0, 0) := rfl
theorem zk_45_14 : zc 45 14 = some (.arraylength, 0, 0, 0, 0) := rfl
theorem zk_45_15 : zc 45 15 = some (.if_icmp .lt 5, 20, 0, 0, 0) := rfl
theorem zk_45_18 : zc 45 18 = some (.iconst 0, 0, 0, 0, 0) := rfl
theorem zk_45_19 : zc 45 19 = some (.ireturn, 0, 0, 0, 0) := rfl
theorem zk_45_20 : zc 45 20 = some (.iload_n 0, 0, 0, 0, 0) := rfl
theorem zk_45_21 : zc 45 21 = some (.sipush 1000, 0, 0, 0, 0) := rfl
theorem zk_45_24 : zc 45 24 = some (.irem, 0, 0, 0, 0) := rfl
theorem zk_45_25 : zc 45 25 = some (.istore_n 3, 0, 0, 0, 0) := rfl
theorem zk_45_26 : zc 45 26 = some (.iload_n 0, 0, 0, 0, 0) := rfl
theorem zk_45_27 : zc 45 27 = some (.sipush 1000, 0, 0, 0, 0) := rfl
theorem zk_45_30 : zc 45 30 = some (.idiv, 0, 0, 0, 0) := rfl
theorem zk_45_31 : zc 45 31 = some (.iconst 3, 0, 0, 0, 0) := rfl
theorem zk_45_32 : zc 45 32 = some (.irem, 0, 0, 0, 0) := rfl
theorem zk_45_33 : zc 45 33 = some (.lookupswitch 53 #[(0, 27), (1, 40)], 0, 0, 0, 0) := rfl
theorem zk_45_60 : zc 45 60 = some (.aload_n 1, 0, 0, 0, 0) := rfl
theorem zk_45_61 : zc 45 61 = some (.iload_n 2, 0, 0, 0, 0) := rfl
theorem zk_45_62 : zc 45 62 = some (.iaload, 0, 0, 0, 0) := rfl
theorem zk_45_63 : zc 45 63 = some (.iload_n 3, 0, 0, 0, 0) := rfl
theorem zk_45_64 : zc 45 64 = some (.if_icmp .ge 7, 71, 0, 0, 0) := rfl
theorem zk_45_67 : zc 45 67 = some (.iconst 1, 0, 0, 0, 0) := rfl
theorem zk_45_68 : zc 45 68 = some (.goto 4, 72, 0, 0, 0) := rfl
theorem zk_45_71 : zc 45 71 = some (.iconst 0, 0, 0, 0, 0) := rfl
theorem zk_45_72 : zc 45 72 = some (.ireturn, 0, 0, 0, 0) := rfl
theorem zk_45_73 : zc 45 73 = some (.aload_n 1, 0, 0, 0, 0) := rfl
theorem zk_45_74 : zc 45 74 = some (.iload_n 2, 0, 0, 0, 0) := rfl
theorem zk_45_75 : zc 45 75 = some (.iaload, 0, 0, 0, 0) := rfl
theorem zk_45_76 : zc 45 76 = some (.iload_n 3, 0, 0, 0, 0) := rfl
theorem zk_45_77 : zc 45 77 = some (.if_icmp .le 7, 84, 0, 0, 0) := rfl
theorem zk_45_80 : zc 45 80 = some (.iconst 1, 0, 0, 0, 0) := rfl
theorem zk_45_81 : zc 45 81 = some (.goto 4, 85, 0, 0, 0) := rfl
theorem zk_45_84 : zc 45 84 = some (.iconst 0, 0, 0, 0, 0) := rfl
theorem zk_45_85 : zc 45 85 = some (.ireturn, 0, 0, 0, 0) := rfl
theorem zk_45_86 : zc 45 86 = some (.aload_n 1, 0, 0, 0, 0) := rfl
theorem zk_45_87 : zc 45 87 = some (.iload_n 2, 0, 0, 0, 0) := rfl
theorem zk_45_88 : zc 45 88 = some (.iaload, 0, 0, 0, 0) := rfl
theorem zk_45_89 : zc 45 89 = some (.iload_n 3, 0, 0, 0, 0) := rfl
theorem zk_45_90 : zc 45 90 = some (.if_icmp .ne 7, 97, 0, 0, 0) := rfl
theorem zk_45_93 : zc 45 93 = some (.iconst 1, 0, 0, 0, 0) := rfl
theorem zk_45_94 : zc 45 94 = some (.goto 4, 98, 0, 0, 0) := rfl
theorem zk_45_97 : zc 45 97 = some (.iconst 0, 0, 0, 0, 0) := rfl
theorem zk_45_98 : zc 45 98 = some (.ireturn, 0, 0, 0, 0) := rfl
/-- W$City.lookAround -/
theorem w_11 {xs : Nat × (Nat → Int32)} (c : Nat) (hc : c < 3) (σ : ZS) (hI : Inv σ)   : CT xs 2 11 [av 1 c 0] σ (fun v σ' => v = none ∧ IF (MI c 21 21 21 21) σ σ' ∧ (True)) := by
  refine G_ct (J := (fun σ' => IF (MI c 21 21 21 21) σ σ' ∧ True)) (L := [(0, av 1 c 0)]) (nL := 3) rfl rfl rfl ⟨IF.rf hI, trivial⟩ ?_
  refine T_ld zk_11_0 rfl rfl rfl (pc' := 1) rfl ?_
  refine T_getR (t' := 17) (i' := c) (k' := 1) zk_11_1 rfl rfl rfl (vd_1 hc) (pc' := 4) rfl ?_
  refine T_ld zk_11_4 rfl rfl rfl (pc' := 5) rfl ?_
  refine G_getf (lo := -2147483648) (hi := 2147483647) zk_11_5 rfl (vd_1 hc) (fun σ' h => h.1.1) (fun _ h => (by have q := h.1; omega)) (pc' := 8) rfl (fun y1 hy1 hy1' => ?_)
  refine T_calli (K := fun y2 σ' => (-300 ≤ y2 ∧ y2 ≤ 300) ∧ (fun σ' => IF (MI c 21 21 21 21) σ σ' ∧ True) σ') (r := []) zk_11_8 rfl rfl rfl rfl rfl rfl (Or.inr ⟨_, _, _, _, rfl, (vd_17 hc (by omega)), rfl⟩) (fun σ' h => (w_73 c 1 y1 hc (by omega) (by omega) σ' h.1.1 ).le (Nat.le_of_ble_eq_true rfl) (fun v σ2 ⟨y, h1, h2, h3, h4⟩ => ⟨y, h1, h2, h.1.tr h3 MN_sub, trivial⟩)) (pc' := 11) rfl (fun y2 => ?_)
  refine G_ex (fun hy2 => ?_)
  refine T_st (L' := [(0, av 1 c 0), (1, iv y2)]) zk_11_11 (nL := 3) rfl rfl rfl rfl rfl (pc' := 12) rfl ?_
  refine T_op zk_11_12 rfl X_ic (pc' := 13) rfl ?_
  refine T_st (L' := [(0, av 1 c 0), (1, iv y2), (2, iv 1)]) zk_11_13 (nL := 3) rfl rfl rfl rfl rfl (pc' := 14) rfl ?_
  refine T_loop2 (fun x3 x4 => ((8 - x4 : Int)).toNat) (fun x3 x4 => (-300 ≤ x3 ∧ x3 ≤ 300) ∧ (1 ≤ x4 ∧ x4 ≤ 8)) (fun x3 x4 => TJ xs (fun σ' => IF (MI c 21 21 21 21) σ σ' ∧ True) 1 11 14 [(0, av 1 c 0), (1, iv x3), (2, iv x4)] [] _) ?_ y2 1 (by omega)
  intro x3 x4 hp6 ih5
  refine T_ld zk_11_14 rfl rfl rfl (pc' := 15) rfl ?_
  refine T_op zk_11_15 rfl (X_bi (v := 8) (by decide)) (pc' := 17) rfl ?_
  refine T_icmp_ge zk_11_17 (by omega) (by omega) (pc' := 20) rfl (fun h7 => ?_) (fun h8 => ?_)
  ·
    refine T_ld zk_11_44 rfl rfl rfl (pc' := 45) rfl ?_
    refine T_getR (t' := 21) (i' := c) (k' := 0) zk_11_45 rfl rfl rfl (vd_1 hc) (pc' := 48) rfl ?_
    refine T_op zk_11_48 rfl X_ic (pc' := 49) rfl ?_
    refine T_ld zk_11_49 rfl rfl rfl (pc' := 50) rfl ?_
    refine T_ld zk_11_50 rfl rfl rfl (pc' := 51) rfl ?_
    refine G_getf (lo := 0) (hi := 99) zk_11_51 rfl (vd_1 hc) (fun σ' h => h.1.1) (fun _ h => h.2.2.2.2.1 (by omega) (by omega)) (pc' := 54) rfl (fun y9 hy9 hy9' => ?_)
    refine T_op zk_11_54 rfl X_add (pc' := 55) rfl ?_
    refine G_iast (J' := (fun σ' => IF (MI c 21 21 21 21) σ σ' ∧ True)) (ln := 6) zk_11_55 rfl rfl (vd_21 hc) (by omega) (by omega) (by omega) (fun σ' h => ⟨h.1.up ⟨by omega, trivial⟩ (by unfold MI; omega), trivial⟩) (pc' := 56) rfl ?_
    refine T_ld zk_11_56 rfl rfl rfl (pc' := 57) rfl ?_
    refine T_getR (t' := 21) (i' := c) (k' := 0) zk_11_57 rfl rfl rfl (vd_1 hc) (pc' := 60) rfl ?_
    refine T_op zk_11_60 rfl X_ic (pc' := 61) rfl ?_
    refine T_ld zk_11_61 rfl rfl rfl (pc' := 62) rfl ?_
    refine T_getR (t' := 17) (i' := c) (k' := 1) zk_11_62 rfl rfl rfl (vd_1 hc) (pc' := 65) rfl ?_
    refine T_ld zk_11_65 rfl rfl rfl (pc' := 66) rfl ?_
    refine G_getf (lo := -2147483648) (hi := 2147483647) zk_11_66 rfl (vd_1 hc) (fun σ' h => h.1.1) (fun _ h => (by have q := h.1; omega)) (pc' := 69) rfl (fun y10 hy10 hy10' => ?_)
    refine T_calli (K := fun y11 σ' => (-300 ≤ y11 ∧ y11 ≤ 300) ∧ (fun σ' => IF (MI c 21 21 21 21) σ σ' ∧ True) σ') (r := [iv 1, av 21 c 0]) zk_11_69 rfl rfl rfl rfl rfl rfl (Or.inr ⟨_, _, _, _, rfl, (vd_17 hc (by omega)), rfl⟩) (fun σ' h => (w_73 c 1 y10 hc (by omega) (by omega) σ' h.1.1 ).le (Nat.le_of_ble_eq_true rfl) (fun v σ2 ⟨y, h1, h2, h3, h4⟩ => ⟨y, h1, h2, h.1.tr h3 MN_sub, trivial⟩)) (pc' := 72) rfl (fun y11 => ?_)
    refine G_ex (fun hy11 => ?_)
    refine G_iast (J' := (fun σ' => IF (MI c 21 21 21 21) σ σ' ∧ True)) (ln := 6) zk_11_72 rfl rfl (vd_21 hc) (by omega) (by omega) (by omega) (fun σ' h => ⟨h.1.up ⟨by omega, trivial⟩ (by unfold MI; omega), trivial⟩) (pc' := 73) rfl ?_
    refine T_ld zk_11_73 rfl rfl rfl (pc' := 74) rfl ?_
    refine T_getR (t' := 21) (i' := c) (k' := 0) zk_11_74 rfl rfl rfl (vd_1 hc) (pc' := 77) rfl ?_
    refine T_op zk_11_77 rfl X_ic (pc' := 78) rfl ?_
    refine T_ld zk_11_78 rfl rfl rfl (pc' := 79) rfl ?_
    refine T_getR (t' := 2) (i' := c) (k' := 0) zk_11_79 rfl rfl rfl (vd_1 hc) (pc' := 82) rfl ?_
    refine T_calli (K := fun y12 σ' => (-2147483648 ≤ y12 ∧ y12 ≤ 2147483647) ∧ (fun σ' => IF (MI c 21 21 21 21) σ σ' ∧ True) σ') (r := [iv 2, av 21 c 0]) zk_11_82 rfl rfl rfl rfl rfl rfl (Or.inr ⟨_, _, _, _, rfl, (vd_2 hc), rfl⟩) (fun σ' h => (w_33 c hc σ' h.1.1 ).le (Nat.le_of_ble_eq_true rfl) (fun v σ2 ⟨y, h1, h2, h3, h4⟩ => ⟨y, h1, h2, h.1.tr h3 MN_sub, trivial⟩)) (pc' := 85) rfl (fun y12 => ?_)
    refine G_ex (fun hy12 => ?_)
    refine G_iast (J' := (fun σ' => IF (MI c 21 21 21 21) σ σ' ∧ True)) (ln := 6) zk_11_85 rfl rfl (vd_21 hc) (by omega) (by omega) (by omega) (fun σ' h => ⟨h.1.up ⟨by omega, trivial⟩ (by unfold MI; omega), trivial⟩) (pc' := 86) rfl ?_
    refine T_ld zk_11_86 rfl rfl rfl (pc' := 87) rfl ?_
    refine T_getR (t' := 21) (i' := c) (k' := 0) zk_11_87 rfl rfl rfl (vd_1 hc) (pc' := 90) rfl ?_
    refine T_op zk_11_90 rfl X_ic (pc' := 91) rfl ?_
    refine T_ld zk_11_91 rfl rfl rfl (pc' := 92) rfl ?_
    refine G_getf (lo := -2147483648) (hi := 2147483647) zk_11_92 rfl (vd_1 hc) (fun σ' h => h.1.1) (fun _ h => (by have q := h.1; omega)) (pc' := 95) rfl (fun y13 hy13 hy13' => ?_)
    refine T_op zk_11_95 rfl X_ic (pc' := 96) rfl ?_
    refine G_unkD zk_11_96 (by first | exact Or.inl rfl | exact Or.inr rfl) (by omega) (pc' := 97) rfl (fun y14 hy14 hy14' => ?_)
    refine T_op zk_11_97 rfl (X_bi (v := 24) (by decide)) (pc' := 99) rfl ?_
    refine G_unkD zk_11_99 (by first | exact Or.inl rfl | exact Or.inr rfl) (by omega) (pc' := 100) rfl (fun y15 hy15 hy15' => ?_)
    refine G_iast (J' := (fun σ' => IF (MI c 21 21 21 21) σ σ' ∧ True)) (ln := 6) zk_11_100 rfl rfl (vd_21 hc) (by omega) (by omega) (by omega) (fun σ' h => ⟨h.1.up ⟨by omega, trivial⟩ (by unfold MI; omega), trivial⟩) (pc' := 101) rfl ?_
    refine T_ld zk_11_101 rfl rfl rfl (pc' := 102) rfl ?_
    refine T_getR (t' := 21) (i' := c) (k' := 0) zk_11_102 rfl rfl rfl (vd_1 hc) (pc' := 105) rfl ?_
    refine T_op zk_11_105 rfl X_ic (pc' := 106) rfl ?_
    refine T_ld zk_11_106 rfl rfl rfl (pc' := 107) rfl ?_
    refine T_calli (K := fun y16 σ' => (0 ≤ y16 ∧ y16 ≤ 6) ∧ (fun σ' => IF (MI c 21 21 21 21) σ σ' ∧ True) σ') (r := [iv 4, av 21 c 0]) zk_11_107 rfl rfl rfl rfl rfl rfl (Or.inr ⟨_, _, _, _, rfl, (vd_1 hc), rfl⟩) (fun σ' h => (w_18 c hc σ' h.1.1 ).le (Nat.le_of_ble_eq_true rfl) (fun v σ2 ⟨y, h1, h2, h3, h4⟩ => ⟨y, h1, h2, h.1.tr h3 MN_sub, trivial⟩)) (pc' := 110) rfl (fun y16 => ?_)
    refine G_ex (fun hy16 => ?_)
    refine G_iast (J' := (fun σ' => IF (MI c 21 21 21 21) σ σ' ∧ True)) (ln := 6) zk_11_110 rfl rfl (vd_21 hc) (by omega) (by omega) (by omega) (fun σ' h => ⟨h.1.up ⟨by omega, trivial⟩ (by unfold MI; omega), trivial⟩) (pc' := 111) rfl ?_
    refine T_ld zk_11_111 rfl rfl rfl (pc' := 112) rfl ?_
    refine T_getR (t' := 21) (i' := c) (k' := 0) zk_11_112 rfl rfl rfl (vd_1 hc) (pc' := 115) rfl ?_
    refine T_op zk_11_115 rfl X_ic (pc' := 116) rfl ?_
    refine T_ld zk_11_116 rfl rfl rfl (pc' := 117) rfl ?_
    refine G_getf (lo := -2147483648) (hi := 2147483647) zk_11_117 rfl (vd_1 hc) (fun σ' h => h.1.1) (fun _ h => (by have q := h.1; omega)) (pc' := 120) rfl (fun y17 hy17 hy17' => ?_)
    refine T_op zk_11_120 rfl (X_bi (v := 96) (by decide)) (pc' := 122) rfl ?_
    refine G_unkD zk_11_122 (by first | exact Or.inl rfl | exact Or.inr rfl) (by omega) (pc' := 123) rfl (fun y18 hy18 hy18' => ?_)
    refine G_iast (J' := (fun σ' => IF (MI c 21 21 21 21) σ σ' ∧ True)) (ln := 6) zk_11_123 rfl rfl (vd_21 hc) (by omega) (by omega) (by omega) (fun σ' h => ⟨h.1.up ⟨by omega, trivial⟩ (by unfold MI; omega), trivial⟩) (pc' := 124) rfl ?_
    exact T_vret zk_11_124 rfl (fun σ' h => ⟨rfl, h.1, trivial⟩)
  ·
    refine T_ld zk_11_20 rfl rfl rfl (pc' := 21) rfl ?_
    refine T_ld zk_11_21 rfl rfl rfl (pc' := 22) rfl ?_
    refine T_getR (t' := 17) (i' := c) (k' := 1) zk_11_22 rfl rfl rfl (vd_1 hc) (pc' := 25) rfl ?_
    refine T_ld zk_11_25 rfl rfl rfl (pc' := 26) rfl ?_
    refine G_getf (lo := -2147483648) (hi := 2147483647) zk_11_26 rfl (vd_1 hc) (fun σ' h => h.1.1) (fun _ h => (by have q := h.1; omega)) (pc' := 29) rfl (fun y19 hy19 hy19' => ?_)
    refine T_ld zk_11_29 rfl rfl rfl (pc' := 30) rfl ?_
    refine G_unk zk_11_30 rfl (pc' := 31) rfl (fun y20 hy20 hy20' => ?_)
    refine T_calli (K := fun y21 σ' => (-300 ≤ y21 ∧ y21 ≤ 300) ∧ (fun σ' => IF (MI c 21 21 21 21) σ σ' ∧ True) σ') (r := [iv x3]) zk_11_31 rfl rfl rfl rfl rfl rfl (Or.inr ⟨_, _, _, _, rfl, (vd_17 hc (by omega)), rfl⟩) (fun σ' h => (w_73 c 1 y20 hc (by omega) (by omega) σ' h.1.1 ).le (Nat.le_of_ble_eq_true rfl) (fun v σ2 ⟨y, h1, h2, h3, h4⟩ => ⟨y, h1, h2, h.1.tr h3 MN_sub, trivial⟩)) (pc' := 34) rfl (fun y21 => ?_)
    refine G_ex (fun hy21 => ?_)
    refine T_max zk_11_34 rfl (by omega) (by omega) rfl (pc' := 37) rfl (fun y22 hy22 hy22' ey22 => ?_)
    refine T_st (L' := [(0, av 1 c 0), (1, iv y22), (2, iv x4)]) zk_11_37 (nL := 3) rfl rfl rfl rfl rfl (pc' := 38) rfl ?_
    refine T_iinc (L' := [(0, av 1 c 0), (1, iv y22), (2, iv (x4 + 1))]) zk_11_38 (nL := 3) rfl rfl rfl rfl (pc' := 41) rfl ?_
    refine T_goto zk_11_41 ?_
    exact ih5 y22 (x4 + 1) (by omega) (by omega)
/-- W$Law.testHolds -/
theorem w_45 {xs : Nat × (Nat → Int32)} (p0 : Int) (c : Nat) (hp0 : -2147483648 ≤ p0 ∧ p0 ≤ 2147483647) (hc : c < 3) (σ : ZS) (hI : Inv σ)   : CT xs 1 45 [iv p0, av 21 c 0] σ (fun v σ' => ∃ y, v = some (iv y) ∧ (y = 0 ∨ y = 1) ∧ IF MN σ σ' ∧ (True)) := by
  refine G_ct (J := (fun σ' => IF MN σ σ' ∧ True)) (L := [(0, iv p0), (1, av 21 c 0)]) (nL := 4) rfl rfl rfl ⟨IF.rf hI, trivial⟩ ?_
  refine T_ld zk_45_0 rfl rfl rfl (pc' := 1) rfl ?_
  refine T_op zk_45_1 rfl (X_si (v := 1000) (by decide)) (pc' := 4) rfl ?_
  refine G_unkD zk_45_4 (by first | exact Or.inl rfl | exact Or.inr rfl) (by omega) (pc' := 5) rfl (fun y1 hy1 hy1' => ?_)
  refine T_op zk_45_5 rfl X_ic (pc' := 6) rfl ?_
  refine G_unkD zk_45_6 (by first | exact Or.inl rfl | exact Or.inr rfl) (by omega) (pc' := 7) rfl (fun y2 hy2 hy2' => ?_)
  refine T_st (L' := [(0, iv p0), (1, av 21 c 0), (2, iv y2)]) zk_45_7 (nL := 4) rfl rfl rfl rfl rfl (pc' := 8) rfl ?_
  refine T_ld zk_45_8 rfl rfl rfl (pc' := 9) rfl ?_
  refine T_if_lt zk_45_9 (by omega) (pc' := 12) rfl (fun h3 => ?_) (fun h4 => ?_)
  ·
    refine T_op zk_45_18 rfl X_ic (pc' := 19) rfl ?_
    exact T_zret zk_45_19 rfl (by omega) (fun σ' h => ⟨_, rfl, (by omega), h.1, trivial⟩)
  ·
    refine T_ld zk_45_12 rfl rfl rfl (pc' := 13) rfl ?_
    refine T_ld zk_45_13 rfl rfl rfl (pc' := 14) rfl ?_
    refine T_alen (n := 6) zk_45_14 rfl rfl (vd_21 hc) (pc' := 15) rfl ?_
    refine T_icmp_lt zk_45_15 (by omega) (by omega) (pc' := 18) rfl (fun h5 => ?_) (fun h6 => ?_)
    ·
      refine T_ld zk_45_20 rfl rfl rfl (pc' := 21) rfl ?_
      refine T_op zk_45_21 rfl (X_si (v := 1000) (by decide)) (pc' := 24) rfl ?_
      refine G_unkD zk_45_24 (by first | exact Or.inl rfl | exact Or.inr rfl) (by omega) (pc' := 25) rfl (fun y7 hy7 hy7' => ?_)
      refine T_st (L' := [(0, iv p0), (1, av 21 c 0), (2, iv y2), (3, iv y7)]) zk_45_25 (nL := 4) rfl rfl rfl rfl rfl (pc' := 26) rfl ?_
      refine T_ld zk_45_26 rfl rfl rfl (pc' := 27) rfl ?_
      refine T_op zk_45_27 rfl (X_si (v := 1000) (by decide)) (pc' := 30) rfl ?_
      refine G_unkD zk_45_30 (by first | exact Or.inl rfl | exact Or.inr rfl) (by omega) (pc' := 31) rfl (fun y8 hy8 hy8' => ?_)
      refine T_op zk_45_31 rfl X_ic (pc' := 32) rfl ?_
      refine G_unkD zk_45_32 (by first | exact Or.inl rfl | exact Or.inr rfl) (by omega) (pc' := 33) rfl (fun y9 hy9 hy9' => ?_)
      by_cases h10 : y9 = 0
      · subst h10
        refine T_br (t := 60) zk_45_33 rfl rfl rfl (fun _ => rfl) rfl ?_
        refine T_ld zk_45_60 rfl rfl rfl (pc' := 61) rfl ?_
        refine T_ld zk_45_61 rfl rfl rfl (pc' := 62) rfl ?_
        refine G_iald (lo := -2147483648) (hi := 2147483647) (ln := 6) zk_45_62 rfl rfl (vd_21 hc) (by omega) (by omega) (by omega) (fun σ' h => h.1.1) (fun _ h => (by have q := h.1; omega)) (pc' := 63) rfl (fun y11 hy11 hy11' => ?_)
        refine T_ld zk_45_63 rfl rfl rfl (pc' := 64) rfl ?_
        refine T_icmp_ge zk_45_64 (by omega) (by omega) (pc' := 67) rfl (fun h12 => ?_) (fun h13 => ?_)
        ·
          refine T_op zk_45_71 rfl X_ic (pc' := 72) rfl ?_
          exact T_zret zk_45_72 rfl (by omega) (fun σ' h => ⟨_, rfl, (by omega), h.1, trivial⟩)
        ·
          refine T_op zk_45_67 rfl X_ic (pc' := 68) rfl ?_
          refine T_goto zk_45_68 ?_
          exact T_zret zk_45_72 rfl (by omega) (fun σ' h => ⟨_, rfl, (by omega), h.1, trivial⟩)
      by_cases h14 : y9 = 1
      · subst h14
        refine T_br (t := 73) zk_45_33 rfl rfl rfl (fun _ => rfl) rfl ?_
        refine T_ld zk_45_73 rfl rfl rfl (pc' := 74) rfl ?_
        refine T_ld zk_45_74 rfl rfl rfl (pc' := 75) rfl ?_
        refine G_iald (lo := -2147483648) (hi := 2147483647) (ln := 6) zk_45_75 rfl rfl (vd_21 hc) (by omega) (by omega) (by omega) (fun σ' h => h.1.1) (fun _ h => (by have q := h.1; omega)) (pc' := 76) rfl (fun y15 hy15 hy15' => ?_)
        refine T_ld zk_45_76 rfl rfl rfl (pc' := 77) rfl ?_
        refine T_icmp_le zk_45_77 (by omega) (by omega) (pc' := 80) rfl (fun h16 => ?_) (fun h17 => ?_)
        ·
          refine T_op zk_45_84 rfl X_ic (pc' := 85) rfl ?_
          exact T_zret zk_45_85 rfl (by omega) (fun σ' h => ⟨_, rfl, (by omega), h.1, trivial⟩)
        ·
          refine T_op zk_45_80 rfl X_ic (pc' := 81) rfl ?_
          refine T_goto zk_45_81 ?_
          exact T_zret zk_45_85 rfl (by omega) (fun σ' h => ⟨_, rfl, (by omega), h.1, trivial⟩)
      refine T_lso (t := 86) zk_45_33 (by omega) (by simp only [List.mem_cons, List.not_mem_nil, or_false]; rintro q (rfl | rfl) <;> omega) (by omega) ?_
      refine T_ld zk_45_86 rfl rfl rfl (pc' := 87) rfl ?_
      refine T_ld zk_45_87 rfl rfl rfl (pc' := 88) rfl ?_
      refine G_iald (lo := -2147483648) (hi := 2147483647) (ln := 6) zk_45_88 rfl rfl (vd_21 hc) (by omega) (by omega) (by omega) (fun σ' h => h.1.1) (fun _ h => (by have q := h.1; omega)) (pc' := 89) rfl (fun y18 hy18 hy18' => ?_)
      refine T_ld zk_45_89 rfl rfl rfl (pc' := 90) rfl ?_
      refine T_icmp_ne zk_45_90 (by omega) (by omega) (pc' := 93) rfl (fun h19 => ?_) (fun h20 => ?_)
      ·
        refine T_op zk_45_97 rfl X_ic (pc' := 98) rfl ?_
        exact T_zret zk_45_98 rfl (by omega) (fun σ' h => ⟨_, rfl, (by omega), h.1, trivial⟩)
      ·
        refine T_op zk_45_93 rfl X_ic (pc' := 94) rfl ?_
        refine T_goto zk_45_94 ?_
        exact T_zret zk_45_98 rfl (by omega) (fun σ' h => ⟨_, rfl, (by omega), h.1, trivial⟩)
    ·
      refine T_op zk_45_18 rfl X_ic (pc' := 19) rfl ?_
      exact T_zret zk_45_19 rfl (by omega) (fun σ' h => ⟨_, rfl, (by omega), h.1, trivial⟩)
/-- W$Law.holdsFor -/
theorem w_44 {xs : Nat × (Nat → Int32)} (c : Nat) (k : Nat) (hc : c < 3) (hk : k < 5) (σ : ZS) (hI : Inv σ)   : CT xs 2 44 [av 23 c k, av 21 c 0] σ (fun v σ' => ∃ y, v = some (iv y) ∧ (y = 0 ∨ y = 1) ∧ IF MN σ σ' ∧ (True)) := by
  refine G_ct (J := (fun σ' => IF MN σ σ' ∧ True)) (L := [(0, av 23 c k), (1, av 21 c 0)]) (nL := 7) rfl rfl rfl ⟨IF.rf hI, trivial⟩ ?_
  refine T_op zk_44_0 rfl (X_lc (v := 0) (by decide)) (pc' := 1) rfl ?_
  refine T_st (L' := [(0, av 23 c k), (1, av 21 c 0), (2, jv 0)]) zk_44_1 (nL := 7) rfl rfl rfl rfl rfl (pc' := 2) rfl ?_
  refine T_op zk_44_2 rfl X_ic (pc' := 3) rfl ?_
  refine T_st (L' := [(0, av 23 c k), (1, av 21 c 0), (2, jv 0), (4, iv 0)]) zk_44_3 (nL := 7) rfl rfl rfl rfl rfl (pc' := 5) rfl ?_
  refine T_loop2 (fun x1 x2 => ((96 - x2 : Int)).toNat) (fun x1 x2 => (0 ≤ x2 ∧ x2 ≤ 96)) (fun x1 x2 => TJ xs (fun σ' => IF MN σ σ' ∧ True) 1 44 5 [(0, av 23 c k), (1, av 21 c 0), (2, jv x1), (4, iv x2)] [] _) ?_ 0 0 (by omega)
  intro x1 x2 hp4 ih3
  refine T_ld zk_44_5 rfl rfl rfl (pc' := 7) rfl ?_
  refine T_ld zk_44_7 rfl rfl rfl (pc' := 8) rfl ?_
  refine G_getf (lo := 0) (hi := 96) zk_44_8 rfl (vd_23 hc (by omega)) (fun σ' h => h.1.1) (fun _ h => h.2.1 (by omega) (by omega)) (pc' := 11) rfl (fun y5 hy5 hy5' => ?_)
  refine T_icmp_ge zk_44_11 (by omega) (by omega) (pc' := 14) rfl (fun h6 => ?_) (fun h7 => ?_)
  ·
    refine T_ld zk_44_113 rfl rfl rfl (pc' := 114) rfl ?_
    refine T_op zk_44_114 rfl (X_lc (v := 1) (by decide)) (pc' := 115) rfl ?_
    refine T_unkL zk_44_115 rfl (fun y8 => ?_)
    refine T_op zk_44_116 rfl (X_lc (v := 1) (by decide)) (pc' := 117) rfl ?_
    refine T_lcmp zk_44_117 (fun y9 hy9 hy9' ey9 => ?_)
    refine T_if_ne zk_44_118 (by omega) (pc' := 121) rfl (fun h10 => ?_) (fun h11 => ?_)
    ·
      refine T_op zk_44_125 rfl X_ic (pc' := 126) rfl ?_
      exact T_zret zk_44_126 rfl (by omega) (fun σ' h => ⟨_, rfl, (by omega), h.1, trivial⟩)
    ·
      refine T_op zk_44_121 rfl X_ic (pc' := 122) rfl ?_
      refine T_goto zk_44_122 ?_
      exact T_zret zk_44_126 rfl (by omega) (fun σ' h => ⟨_, rfl, (by omega), h.1, trivial⟩)
  ·
    refine T_ld zk_44_14 rfl rfl rfl (pc' := 15) rfl ?_
    refine T_op zk_44_15 rfl (X_lc (v := 1) (by decide)) (pc' := 16) rfl ?_
    refine T_unkL zk_44_16 rfl (fun y12 => ?_)
    refine T_st (L' := [(0, av 23 c k), (1, av 21 c 0), (2, jv x1), (4, iv x2), (5, jv y12)]) zk_44_17 (nL := 7) rfl rfl rfl rfl rfl (pc' := 19) rfl ?_
    refine T_ld zk_44_19 rfl rfl rfl (pc' := 20) rfl ?_
    refine T_getR (t' := 24) (i' := c) (k' := k) zk_44_20 rfl rfl rfl (vd_23 hc (by omega)) (pc' := 23) rfl ?_
    refine T_ld zk_44_23 rfl rfl rfl (pc' := 25) rfl ?_
    refine G_iald (lo := -2147483648) (hi := 2147483647) (ln := 96) zk_44_25 rfl rfl (vd_24 hc (by omega)) (by omega) (by omega) (by omega) (fun σ' h => h.1.1) (fun _ h => (by have q := h.1; omega)) (pc' := 26) rfl (fun y13 hy13 hy13' => ?_)
    refine T_if_lt zk_44_26 (by omega) (pc' := 29) rfl (fun h14 => ?_) (fun h15 => ?_)
    ·
      refine T_ld zk_44_56 rfl rfl rfl (pc' := 57) rfl ?_
      refine T_getR (t' := 24) (i' := c) (k' := k) zk_44_57 rfl rfl rfl (vd_23 hc (by omega)) (pc' := 60) rfl ?_
      refine T_ld zk_44_60 rfl rfl rfl (pc' := 62) rfl ?_
      refine G_iald (lo := -2147483648) (hi := 2147483647) (ln := 96) zk_44_62 rfl rfl (vd_24 hc (by omega)) (by omega) (by omega) (by omega) (fun σ' h => h.1.1) (fun _ h => (by have q := h.1; omega)) (pc' := 63) rfl (fun y16 hy16 hy16' => ?_)
      refine T_op zk_44_63 rfl X_ic (pc' := 64) rfl ?_
      refine T_icmp_ne zk_44_64 (by omega) (by omega) (pc' := 67) rfl (fun h17 => ?_) (fun h18 => ?_)
      ·
        refine T_ld zk_44_74 rfl rfl rfl (pc' := 75) rfl ?_
        refine T_getR (t' := 24) (i' := c) (k' := k) zk_44_75 rfl rfl rfl (vd_23 hc (by omega)) (pc' := 78) rfl ?_
        refine T_ld zk_44_78 rfl rfl rfl (pc' := 80) rfl ?_
        refine G_iald (lo := -2147483648) (hi := 2147483647) (ln := 96) zk_44_80 rfl rfl (vd_24 hc (by omega)) (by omega) (by omega) (by omega) (fun σ' h => h.1.1) (fun _ h => (by have q := h.1; omega)) (pc' := 81) rfl (fun y19 hy19 hy19' => ?_)
        refine T_op zk_44_81 rfl (X_bi (v := -2) (by decide)) (pc' := 83) rfl ?_
        refine T_icmp_ne zk_44_83 (by omega) (by omega) (pc' := 86) rfl (fun h20 => ?_) (fun h21 => ?_)
        ·
          refine T_ld zk_44_100 rfl rfl rfl (pc' := 101) rfl ?_
          refine T_op zk_44_101 rfl X_ic (pc' := 102) rfl ?_
          refine T_unkS zk_44_102 rfl (fun y22 => ?_)
          refine T_ld zk_44_103 rfl rfl rfl (pc' := 105) rfl ?_
          refine T_unkL zk_44_105 rfl (fun y23 => ?_)
          refine T_st (L' := [(0, av 23 c k), (1, av 21 c 0), (2, jv y23), (4, iv x2), (5, jv y12)]) zk_44_106 (nL := 7) rfl rfl rfl rfl rfl (pc' := 107) rfl ?_
          refine T_iinc (L' := [(0, av 23 c k), (1, av 21 c 0), (2, jv y23), (4, iv (x2 + 1)), (5, jv y12)]) zk_44_107 (nL := 7) rfl rfl rfl rfl (pc' := 110) rfl ?_
          refine T_goto zk_44_110 ?_
          refine T_loc (L := [(0, av 23 c k), (1, av 21 c 0), (2, jv y23), (4, iv (x2 + 1))]) (E := [(5, jv y12)]) rfl ?_
          exact ih3 y23 (x2 + 1) (by omega) (by omega)
        ·
          refine T_ld zk_44_86 rfl rfl rfl (pc' := 87) rfl ?_
          refine T_op zk_44_87 rfl X_ic (pc' := 88) rfl ?_
          refine T_unkS zk_44_88 rfl (fun y24 => ?_)
          refine T_ld zk_44_89 rfl rfl rfl (pc' := 91) rfl ?_
          refine T_ldc2 zk_44_91 (pc' := 94) rfl ?_
          refine T_unkL zk_44_94 rfl (fun y25 => ?_)
          refine T_unkL zk_44_95 rfl (fun y26 => ?_)
          refine T_st (L' := [(0, av 23 c k), (1, av 21 c 0), (2, jv y26), (4, iv x2), (5, jv y12)]) zk_44_96 (nL := 7) rfl rfl rfl rfl rfl (pc' := 97) rfl ?_
          refine T_goto zk_44_97 ?_
          refine T_iinc (L' := [(0, av 23 c k), (1, av 21 c 0), (2, jv y26), (4, iv (x2 + 1)), (5, jv y12)]) zk_44_107 (nL := 7) rfl rfl rfl rfl (pc' := 110) rfl ?_
          refine T_goto zk_44_110 ?_
          refine T_loc (L := [(0, av 23 c k), (1, av 21 c 0), (2, jv y26), (4, iv (x2 + 1))]) (E := [(5, jv y12)]) rfl ?_
          exact ih3 y26 (x2 + 1) (by omega) (by omega)
      ·
        refine T_ld zk_44_67 rfl rfl rfl (pc' := 68) rfl ?_
        refine T_op zk_44_68 rfl (X_lc (v := 1) (by decide)) (pc' := 69) rfl ?_
        refine T_unkL zk_44_69 rfl (fun y27 => ?_)
        refine T_st (L' := [(0, av 23 c k), (1, av 21 c 0), (2, jv y27), (4, iv x2), (5, jv y12)]) zk_44_70 (nL := 7) rfl rfl rfl rfl rfl (pc' := 71) rfl ?_
        refine T_goto zk_44_71 ?_
        refine T_iinc (L' := [(0, av 23 c k), (1, av 21 c 0), (2, jv y27), (4, iv (x2 + 1)), (5, jv y12)]) zk_44_107 (nL := 7) rfl rfl rfl rfl (pc' := 110) rfl ?_
        refine T_goto zk_44_110 ?_
        refine T_loc (L := [(0, av 23 c k), (1, av 21 c 0), (2, jv y27), (4, iv (x2 + 1))]) (E := [(5, jv y12)]) rfl ?_
        exact ih3 y27 (x2 + 1) (by omega) (by omega)
    ·
      refine T_ld zk_44_29 rfl rfl rfl (pc' := 30) rfl ?_
      refine T_op zk_44_30 rfl X_ic (pc' := 31) rfl ?_
      refine T_unkS zk_44_31 rfl (fun y28 => ?_)
      refine T_ld zk_44_32 rfl rfl rfl (pc' := 33) rfl ?_
      refine T_getR (t' := 24) (i' := c) (k' := k) zk_44_33 rfl rfl rfl (vd_23 hc (by omega)) (pc' := 36) rfl ?_
      refine T_ld zk_44_36 rfl rfl rfl (pc' := 38) rfl ?_
      refine G_iald (lo := -2147483648) (hi := 2147483647) (ln := 96) zk_44_38 rfl rfl (vd_24 hc (by omega)) (by omega) (by omega) (by omega) (fun σ' h => h.1.1) (fun _ h => (by have q := h.1; omega)) (pc' := 39) rfl (fun y29 hy29 hy29' => ?_)
      refine T_ld zk_44_39 rfl rfl rfl (pc' := 40) rfl ?_
      refine T_calli (K := fun y30 σ' => (y30 = 0 ∨ y30 = 1) ∧ (fun σ' => IF MN σ σ' ∧ True) σ') (r := [jv y28]) zk_44_40 rfl rfl rfl rfl rfl rfl (Or.inl (Or.inl rfl)) (fun σ' h => (w_45 y29 c (by omega) hc σ' h.1.1 ).le (Nat.le_of_ble_eq_true rfl) (fun v σ2 ⟨y, h1, h2, h3, h4⟩ => ⟨y, h1, h2, h.1.tr h3 MN_sub, trivial⟩)) (pc' := 43) rfl (fun y30 => ?_)
      refine G_ex (fun hy30 => ?_)
      refine T_if_eq zk_44_43 (by omega) (pc' := 46) rfl (fun h31 => ?_) (fun h32 => ?_)
      ·
        refine T_op zk_44_50 rfl (X_lc (v := 0) (by decide)) (pc' := 51) rfl ?_
        refine T_unkL zk_44_51 rfl (fun y33 => ?_)
        refine T_st (L' := [(0, av 23 c k), (1, av 21 c 0), (2, jv y33), (4, iv x2), (5, jv y12)]) zk_44_52 (nL := 7) rfl rfl rfl rfl rfl (pc' := 53) rfl ?_
        refine T_goto zk_44_53 ?_
        refine T_iinc (L' := [(0, av 23 c k), (1, av 21 c 0), (2, jv y33), (4, iv (x2 + 1)), (5, jv y12)]) zk_44_107 (nL := 7) rfl rfl rfl rfl (pc' := 110) rfl ?_
        refine T_goto zk_44_110 ?_
        refine T_loc (L := [(0, av 23 c k), (1, av 21 c 0), (2, jv y33), (4, iv (x2 + 1))]) (E := [(5, jv y12)]) rfl ?_
        exact ih3 y33 (x2 + 1) (by omega) (by omega)
      ·
        refine T_op zk_44_46 rfl (X_lc (v := 1) (by decide)) (pc' := 47) rfl ?_
        refine T_goto zk_44_47 ?_
        refine T_unkL zk_44_51 rfl (fun y34 => ?_)
        refine T_st (L' := [(0, av 23 c k), (1, av 21 c 0), (2, jv y34), (4, iv x2), (5, jv y12)]) zk_44_52 (nL := 7) rfl rfl rfl rfl rfl (pc' := 53) rfl ?_
        refine T_goto zk_44_53 ?_
        refine T_iinc (L' := [(0, av 23 c k), (1, av 21 c 0), (2, jv y34), (4, iv (x2 + 1)), (5, jv y12)]) zk_44_107 (nL := 7) rfl rfl rfl rfl (pc' := 110) rfl ?_
        refine T_goto zk_44_110 ?_
        refine T_loc (L := [(0, av 23 c k), (1, av 21 c 0), (2, jv y34), (4, iv (x2 + 1))]) (E := [(5, jv y12)]) rfl ?_
        exact ih3 y34 (x2 + 1) (by omega) (by omega)
/-- W$City.keepLaws -/
theorem w_14 {xs : Nat × (Nat → Int32)} (c : Nat) (hc : c < 3) (σ : ZS) (hI : Inv σ)   : CT xs 3 14 [av 1 c 0] σ (fun v σ' => v = none ∧ IF (MI c 13 13 13 13) σ σ' ∧ (True)) := by
  refine G_ct (J := (fun σ' => IF (MI c 13 13 13 13) σ σ' ∧ True)) (L := [(0, av 1 c 0)]) (nL := 5) rfl rfl rfl ⟨IF.rf hI, trivial⟩ ?_
  refine T_op zk_14_0 rfl X_ic (pc' := 1) rfl ?_
  refine T_st (L' := [(0, av 1 c 0), (1, iv 0)]) zk_14_1 (nL := 5) rfl rfl rfl rfl rfl (pc' := 2) rfl ?_
  refine T_loop1 (fun x1 => ((3 - x1 : Int)).toNat) (fun x1 => (0 ≤ x1 ∧ x1 ≤ 3)) (fun x1 => TJ xs (fun σ' => IF (MI c 13 13 13 13) σ σ' ∧ True) 2 14 2 [(0, av 1 c 0), (1, iv x1)] [] _) ?_ 0 (by omega)
  intro x1 hp3 ih2
  refine T_ld zk_14_2 rfl rfl rfl (pc' := 3) rfl ?_
  refine T_ld zk_14_3 rfl rfl rfl (pc' := 4) rfl ?_
  refine T_getR (t' := 11) (i' := c) (k' := 0) zk_14_4 rfl rfl rfl (vd_1 hc) (pc' := 7) rfl ?_
  refine G_getf (lo := 0) (hi := 3) zk_14_7 rfl (vd_11 hc) (fun σ' h => h.1.1) (fun _ h => h.2 (by omega) (by omega)) (pc' := 10) rfl (fun y4 hy4 hy4' => ?_)
  refine T_icmp_ge zk_14_10 (by omega) (by omega) (pc' := 13) rfl (fun h5 => ?_) (fun h6 => ?_)
  ·
    exact T_vret zk_14_111 rfl (fun σ' h => ⟨rfl, h.1, trivial⟩)
  ·
    refine T_op zk_14_13 rfl X_ic (pc' := 14) rfl ?_
    refine T_st (L' := [(0, av 1 c 0), (1, iv x1), (2, iv 0)]) zk_14_14 (nL := 5) rfl rfl rfl rfl rfl (pc' := 15) rfl ?_
    refine T_op zk_14_15 rfl X_ic (pc' := 16) rfl ?_
    refine T_st (L' := [(0, av 1 c 0), (1, iv x1), (2, iv 0), (3, iv 0)]) zk_14_16 (nL := 5) rfl rfl rfl rfl rfl (pc' := 17) rfl ?_
    refine T_op zk_14_17 rfl X_ic (pc' := 18) rfl ?_
    refine T_st (L' := [(0, av 1 c 0), (1, iv x1), (2, iv 0), (3, iv 0), (4, iv 0)]) zk_14_18 (nL := 5) rfl rfl rfl rfl rfl (pc' := 20) rfl ?_
    refine T_loop3 (fun x7 x8 x9 => ((5 - x9 : Int)).toNat) (fun x7 x8 x9 => (0 ≤ x7 ∧ x7 ≤ 1) ∧ (0 ≤ x8 ∧ x8 ≤ 1) ∧ (0 ≤ x9 ∧ x9 ≤ 5)) (fun x7 x8 x9 => TJ xs (fun σ' => IF (MI c 13 13 13 13) σ σ' ∧ True) 2 14 20 [(0, av 1 c 0), (1, iv x1), (2, iv x7), (3, iv x8), (4, iv x9)] [] _) ?_ 0 0 0 (by omega)
    intro x7 x8 x9 hp11 ih10
    refine T_ld zk_14_20 rfl rfl rfl (pc' := 22) rfl ?_
    refine T_ld zk_14_22 rfl rfl rfl (pc' := 23) rfl ?_
    refine G_getf (lo := 0) (hi := 5) zk_14_23 rfl (vd_1 hc) (fun σ' h => h.1.1) (fun _ h => h.2.1 (by omega) (by omega)) (pc' := 26) rfl (fun y12 hy12 hy12' => ?_)
    refine T_icmp_ge zk_14_26 (by omega) (by omega) (pc' := 29) rfl (fun h13 => ?_) (fun h14 => ?_)
    ·
      refine T_ld zk_14_91 rfl rfl rfl (pc' := 92) rfl ?_
      refine T_if_eq zk_14_92 (by omega) (pc' := 95) rfl (fun h15 => ?_) (fun h16 => ?_)
      ·
        refine T_iinc (L' := [(0, av 1 c 0), (1, iv (x1 + 1)), (2, iv x7), (3, iv x8), (4, iv x9)]) zk_14_105 (nL := 5) rfl rfl rfl rfl (pc' := 108) rfl ?_
        refine T_goto zk_14_108 ?_
        refine T_loc (L := [(0, av 1 c 0), (1, iv (x1 + 1))]) (E := [(2, iv x7), (3, iv x8), (4, iv x9)]) rfl ?_
        exact ih2 (x1 + 1) (by omega) (by omega)
      ·
        refine T_ld zk_14_95 rfl rfl rfl (pc' := 96) rfl ?_
        refine T_getR (t' := 11) (i' := c) (k' := 0) zk_14_96 rfl rfl rfl (vd_1 hc) (pc' := 99) rfl ?_
        refine T_getR (t' := 13) (i' := c) (k' := 0) zk_14_99 rfl rfl rfl (vd_11 hc) (pc' := 102) rfl ?_
        refine T_ld zk_14_102 rfl rfl rfl (pc' := 103) rfl ?_
        refine T_ld zk_14_103 rfl rfl rfl (pc' := 104) rfl ?_
        refine G_bast (J' := (fun σ' => IF (MI c 13 13 13 13) σ σ' ∧ True)) (ln := 3) zk_14_104 rfl rfl (by omega) (vd_13 hc) (by omega) (by omega) (by omega) (fun σ' h => ⟨h.1.up (by simp only [rgP] <;> omega) (by unfold MI; omega), trivial⟩) (pc' := 105) rfl ?_
        refine T_iinc (L' := [(0, av 1 c 0), (1, iv (x1 + 1)), (2, iv x7), (3, iv x8), (4, iv x9)]) zk_14_105 (nL := 5) rfl rfl rfl rfl (pc' := 108) rfl ?_
        refine T_goto zk_14_108 ?_
        refine T_loc (L := [(0, av 1 c 0), (1, iv (x1 + 1))]) (E := [(2, iv x7), (3, iv x8), (4, iv x9)]) rfl ?_
        exact ih2 (x1 + 1) (by omega) (by omega)
    ·
      refine T_ld zk_14_29 rfl rfl rfl (pc' := 30) rfl ?_
      refine T_getR (t' := 14) (i' := c) (k' := 0) zk_14_30 rfl rfl rfl (vd_1 hc) (pc' := 33) rfl ?_
      refine T_ld zk_14_33 rfl rfl rfl (pc' := 35) rfl ?_
      refine G_aald (t' := 23) (im := 9) (i' := c) (ln := 5) zk_14_35 rfl rfl rfl (vd_14 hc) (by omega) (by omega) (by omega) (pc' := 36) rfl ?_
      refine G_getf (lo := 0) (hi := 1) zk_14_36 rfl (vd_23 hc (by omega)) (fun σ' h => h.1.1) (fun _ h => h.2.2 (by omega) (by omega)) (pc' := 39) rfl (fun y17 hy17 hy17' => ?_)
      refine T_if_eq zk_14_39 (by omega) (pc' := 42) rfl (fun h18 => ?_) (fun h19 => ?_)
      ·
        refine T_iinc (L' := [(0, av 1 c 0), (1, iv x1), (2, iv x7), (3, iv x8), (4, iv (x9 + 1))]) zk_14_85 (nL := 5) rfl rfl rfl rfl (pc' := 88) rfl ?_
        refine T_goto zk_14_88 ?_
        exact ih10 x7 x8 (x9 + 1) (by omega) (by omega)
      ·
        refine T_ld zk_14_42 rfl rfl rfl (pc' := 43) rfl ?_
        refine T_getR (t' := 14) (i' := c) (k' := 0) zk_14_43 rfl rfl rfl (vd_1 hc) (pc' := 46) rfl ?_
        refine T_ld zk_14_46 rfl rfl rfl (pc' := 48) rfl ?_
        refine G_aald (t' := 23) (im := 9) (i' := c) (ln := 5) zk_14_48 rfl rfl rfl (vd_14 hc) (by omega) (by omega) (by omega) (pc' := 49) rfl ?_
        refine G_getf (lo := -2147483648) (hi := 2147483647) zk_14_49 rfl (vd_23 hc (by omega)) (fun σ' h => h.1.1) (fun _ h => (by have q := h.1; omega)) (pc' := 52) rfl (fun y20 hy20 hy20' => ?_)
        refine T_ld zk_14_52 rfl rfl rfl (pc' := 53) rfl ?_
        refine T_icmp_ne zk_14_53 (by omega) (by omega) (pc' := 56) rfl (fun h21 => ?_) (fun h22 => ?_)
        ·
          refine T_iinc (L' := [(0, av 1 c 0), (1, iv x1), (2, iv x7), (3, iv x8), (4, iv (x9 + 1))]) zk_14_85 (nL := 5) rfl rfl rfl rfl (pc' := 88) rfl ?_
          refine T_goto zk_14_88 ?_
          exact ih10 x7 x8 (x9 + 1) (by omega) (by omega)
        ·
          refine T_op zk_14_56 rfl X_ic (pc' := 57) rfl ?_
          refine T_st (L' := [(0, av 1 c 0), (1, iv x1), (2, iv 1), (3, iv x8), (4, iv x9)]) zk_14_57 (nL := 5) rfl rfl rfl rfl rfl (pc' := 58) rfl ?_
          refine T_ld zk_14_58 rfl rfl rfl (pc' := 59) rfl ?_
          refine T_if_ne zk_14_59 (by omega) (pc' := 62) rfl (fun h23 => ?_) (fun h24 => ?_)
          ·
            refine T_op zk_14_79 rfl X_ic (pc' := 80) rfl ?_
            refine T_goto zk_14_80 ?_
            refine T_st (L' := [(0, av 1 c 0), (1, iv x1), (2, iv 1), (3, iv 1), (4, iv x9)]) zk_14_84 (nL := 5) rfl rfl rfl rfl rfl (pc' := 85) rfl ?_
            refine T_iinc (L' := [(0, av 1 c 0), (1, iv x1), (2, iv 1), (3, iv 1), (4, iv (x9 + 1))]) zk_14_85 (nL := 5) rfl rfl rfl rfl (pc' := 88) rfl ?_
            refine T_goto zk_14_88 ?_
            exact ih10 1 1 (x9 + 1) (by omega) (by omega)
          ·
            refine T_ld zk_14_62 rfl rfl rfl (pc' := 63) rfl ?_
            refine T_getR (t' := 14) (i' := c) (k' := 0) zk_14_63 rfl rfl rfl (vd_1 hc) (pc' := 66) rfl ?_
            refine T_ld zk_14_66 rfl rfl rfl (pc' := 68) rfl ?_
            refine G_aald (t' := 23) (im := 9) (i' := c) (ln := 5) zk_14_68 rfl rfl rfl (vd_14 hc) (by omega) (by omega) (by omega) (pc' := 69) rfl ?_
            refine T_ld zk_14_69 rfl rfl rfl (pc' := 70) rfl ?_
            refine T_getR (t' := 21) (i' := c) (k' := 0) zk_14_70 rfl rfl rfl (vd_1 hc) (pc' := 73) rfl ?_
            refine T_calli (K := fun y25 σ' => (y25 = 0 ∨ y25 = 1) ∧ (fun σ' => IF (MI c 13 13 13 13) σ σ' ∧ True) σ') (r := []) zk_14_73 rfl rfl rfl rfl rfl rfl (Or.inr ⟨_, _, _, _, rfl, (vd_23 hc (by omega)), rfl⟩) (fun σ' h => (w_44 c (Int.toNat x9) hc (by omega) σ' h.1.1 ).le (Nat.le_of_ble_eq_true rfl) (fun v σ2 ⟨y, h1, h2, h3, h4⟩ => ⟨y, h1, h2, h.1.tr h3 MN_sub, trivial⟩)) (pc' := 76) rfl (fun y25 => ?_)
            refine G_ex (fun hy25 => ?_)
            refine T_if_eq zk_14_76 (by omega) (pc' := 79) rfl (fun h26 => ?_) (fun h27 => ?_)
            ·
              refine T_op zk_14_83 rfl X_ic (pc' := 84) rfl ?_
              refine T_st (L' := [(0, av 1 c 0), (1, iv x1), (2, iv 1), (3, iv 0), (4, iv x9)]) zk_14_84 (nL := 5) rfl rfl rfl rfl rfl (pc' := 85) rfl ?_
              refine T_iinc (L' := [(0, av 1 c 0), (1, iv x1), (2, iv 1), (3, iv 0), (4, iv (x9 + 1))]) zk_14_85 (nL := 5) rfl rfl rfl rfl (pc' := 88) rfl ?_
              refine T_goto zk_14_88 ?_
              exact ih10 1 0 (x9 + 1) (by omega) (by omega)
            ·
              refine T_op zk_14_79 rfl X_ic (pc' := 80) rfl ?_
              refine T_goto zk_14_80 ?_
              refine T_st (L' := [(0, av 1 c 0), (1, iv x1), (2, iv 1), (3, iv 1), (4, iv x9)]) zk_14_84 (nL := 5) rfl rfl rfl rfl rfl (pc' := 85) rfl ?_
              refine T_iinc (L' := [(0, av 1 c 0), (1, iv x1), (2, iv 1), (3, iv 1), (4, iv (x9 + 1))]) zk_14_85 (nL := 5) rfl rfl rfl rfl (pc' := 88) rfl ?_
              refine T_goto zk_14_88 ?_
              exact ih10 1 1 (x9 + 1) (by omega) (by omega)
/-- W$Lagoon.flow -/
theorem w_35 {xs : Nat × (Nat → Int32)} (c : Nat) (hc : c < 3) (σ : ZS) (hI : Inv σ)   : CT xs 2 35 [av 2 c 0] σ (fun v σ' => v = none ∧ IF (MI c 4 6 10 10) σ σ' ∧ (True)) := by
  refine G_ct (J := (fun σ' => IF (MI c 4 6 10 10) σ σ' ∧ True)) (L := [(0, av 2 c 0)]) (nL := 5) rfl rfl rfl ⟨IF.rf hI, trivial⟩ ?_
  refine T_ld zk_35_0 rfl rfl rfl (pc' := 1) rfl ?_
  refine T_getR (t' := 4) (i' := c) (k' := 0) zk_35_1 rfl rfl rfl (vd_2 hc) (pc' := 4) rfl ?_
  refine T_op zk_35_4 rfl X_ic (pc' := 5) rfl ?_
  refine T_ld zk_35_5 rfl rfl rfl (pc' := 6) rfl ?_
  refine T_getR (t' := 10) (i' := c) (k' := 0) zk_35_6 rfl rfl rfl (vd_2 hc) (pc' := 9) rfl ?_
  refine T_op zk_35_9 rfl X_ic (pc' := 10) rfl ?_
  refine T_op zk_35_10 rfl (X_bi (v := 25) (by decide)) (pc' := 12) rfl ?_
  refine G_copy (J' := (fun σ' => IF (MI c 4 6 10 10) σ σ' ∧ True)) (l0 := 25) (l1 := 25) (kk := 12) zk_35_12 rfl rfl (by decide) rfl rfl rfl rfl (vd_4 hc) (vd_10 hc) (by omega) (by omega) (by omega) (by omega) (by omega) (fun σ' h => ⟨h.1.cp (rg_cp0 rfl (fun _ _ h => ⟨by have q := h.1; omega, trivial⟩) (fun j => h.1.1 4 c 0 j (vd_4 hc)) (fun j => h.1.1 10 c 0 j (vd_10 hc))) (fun j => (by unfold MI; omega)), trivial⟩) (pc' := 15) rfl ?_
  refine T_op zk_35_15 rfl X_ic (pc' := 16) rfl ?_
  refine T_st (L' := [(0, av 2 c 0), (1, iv 0)]) zk_35_16 (nL := 5) rfl rfl rfl rfl rfl (pc' := 17) rfl ?_
  refine T_loop1 (fun x1 => ((40 - x1 : Int)).toNat) (fun x1 => (0 ≤ x1 ∧ x1 ≤ 40)) (fun x1 => TJ xs (fun σ' => IF (MI c 4 6 10 10) σ σ' ∧ True) 1 35 17 [(0, av 2 c 0), (1, iv x1)] [] _) ?_ 0 (by omega)
  intro x1 hp3 ih2
  refine T_ld zk_35_17 rfl rfl rfl (pc' := 18) rfl ?_
  refine T_op zk_35_18 rfl (X_bi (v := 40) (by decide)) (pc' := 20) rfl ?_
  refine T_icmp_ge zk_35_20 (by omega) (by omega) (pc' := 23) rfl (fun h4 => ?_) (fun h5 => ?_)
  ·
    exact T_vret zk_35_115 rfl (fun σ' h => ⟨rfl, h.1, trivial⟩)
  ·
    refine T_ld zk_35_23 rfl rfl rfl (pc' := 24) rfl ?_
    refine T_getR (t' := 8) (i' := c) (k' := 0) zk_35_24 rfl rfl rfl (vd_2 hc) (pc' := 27) rfl ?_
    refine T_ld zk_35_27 rfl rfl rfl (pc' := 28) rfl ?_
    refine G_bald (lo := 0) (hi := 1) (ln := 40) zk_35_28 rfl rfl (vd_8 hc) (by omega) (by omega) (by omega) (fun σ' h => h.1.1) (fun _ h => h.2 (by omega) (by omega)) (pc' := 29) rfl (fun y6 hy6 hy6' => ?_)
    refine T_if_ne zk_35_29 (by omega) (pc' := 32) rfl (fun h7 => ?_) (fun h8 => ?_)
    ·
      refine T_iinc (L' := [(0, av 2 c 0), (1, iv (x1 + 1))]) zk_35_109 (nL := 5) rfl rfl rfl rfl (pc' := 112) rfl ?_
      refine T_goto zk_35_112 ?_
      exact ih2 (x1 + 1) (by omega) (by omega)
    ·
      refine T_ld zk_35_32 rfl rfl rfl (pc' := 33) rfl ?_
      refine T_calli (K := fun y9 σ' => (0 ≤ y9 ∧ y9 ≤ 24) ∧ (fun σ' => IF (MI c 4 6 10 10) σ σ' ∧ True) σ') (r := []) zk_35_33 rfl rfl rfl rfl rfl rfl (Or.inl (Or.inl rfl)) (fun σ' h => (w_31 x1 (by omega) σ' h.1.1 ).le (Nat.le_of_ble_eq_true rfl) (fun v σ2 ⟨y, h1, h2, h3, h4⟩ => ⟨y, h1, h2, h.1.tr h3 MN_sub, trivial⟩)) (pc' := 36) rfl (fun y9 => ?_)
      refine G_ex (fun hy9 => ?_)
      refine T_st (L' := [(0, av 2 c 0), (1, iv x1), (2, iv y9)]) zk_35_36 (nL := 5) rfl rfl rfl rfl rfl (pc' := 37) rfl ?_
      refine T_ld zk_35_37 rfl rfl rfl (pc' := 38) rfl ?_
      refine T_calli (K := fun y10 σ' => (0 ≤ y10 ∧ y10 ≤ 24) ∧ (fun σ' => IF (MI c 4 6 10 10) σ σ' ∧ True) σ') (r := []) zk_35_38 rfl rfl rfl rfl rfl rfl (Or.inl (Or.inl rfl)) (fun σ' h => (w_32 x1 (by omega) σ' h.1.1 ).le (Nat.le_of_ble_eq_true rfl) (fun v σ2 ⟨y, h1, h2, h3, h4⟩ => ⟨y, h1, h2, h.1.tr h3 MN_sub, trivial⟩)) (pc' := 41) rfl (fun y10 => ?_)
      refine G_ex (fun hy10 => ?_)
      refine T_st (L' := [(0, av 2 c 0), (1, iv x1), (2, iv y9), (3, iv y10)]) zk_35_41 (nL := 5) rfl rfl rfl rfl rfl (pc' := 42) rfl ?_
      refine T_ld zk_35_42 rfl rfl rfl (pc' := 43) rfl ?_
      refine T_getR (t' := 10) (i' := c) (k' := 0) zk_35_43 rfl rfl rfl (vd_2 hc) (pc' := 46) rfl ?_
      refine T_ld zk_35_46 rfl rfl rfl (pc' := 47) rfl ?_
      refine G_iald (lo := -2147483648) (hi := 2147483647) (ln := 25) zk_35_47 rfl rfl (vd_10 hc) (by omega) (by omega) (by omega) (fun σ' h => h.1.1) (fun _ h => (by have q := h.1; omega)) (pc' := 48) rfl (fun y11 hy11 hy11' => ?_)
      refine T_ld zk_35_48 rfl rfl rfl (pc' := 49) rfl ?_
      refine T_getR (t' := 10) (i' := c) (k' := 0) zk_35_49 rfl rfl rfl (vd_2 hc) (pc' := 52) rfl ?_
      refine T_ld zk_35_52 rfl rfl rfl (pc' := 53) rfl ?_
      refine G_iald (lo := -2147483648) (hi := 2147483647) (ln := 25) zk_35_53 rfl rfl (vd_10 hc) (by omega) (by omega) (by omega) (fun σ' h => h.1.1) (fun _ h => (by have q := h.1; omega)) (pc' := 54) rfl (fun y12 hy12 hy12' => ?_)
      refine G_unk zk_35_54 rfl (pc' := 55) rfl (fun y13 hy13 hy13' => ?_)
      refine T_op zk_35_55 rfl X_ic (pc' := 56) rfl ?_
      refine G_unkD zk_35_56 (by first | exact Or.inl rfl | exact Or.inr rfl) (by omega) (pc' := 57) rfl (fun y14 hy14 hy14' => ?_)
      refine T_st (L' := [(0, av 2 c 0), (1, iv x1), (2, iv y9), (3, iv y10), (4, iv y14)]) zk_35_57 (nL := 5) rfl rfl rfl rfl rfl (pc' := 59) rfl ?_
      refine T_ld zk_35_59 rfl rfl rfl (pc' := 60) rfl ?_
      refine T_getR (t' := 4) (i' := c) (k' := 0) zk_35_60 rfl rfl rfl (vd_2 hc) (pc' := 63) rfl ?_
      refine T_ld zk_35_63 rfl rfl rfl (pc' := 64) rfl ?_
      refine T_op (st' := [iv y9, av 4 c 0, iv y9, av 4 c 0]) zk_35_64 rfl rfl (pc' := 65) rfl ?_
      refine G_iald (lo := -2147483648) (hi := 2147483647) (ln := 25) zk_35_65 rfl rfl (vd_4 hc) (by omega) (by omega) (by omega) (fun σ' h => h.1.1) (fun _ h => (by have q := h.1; omega)) (pc' := 66) rfl (fun y15 hy15 hy15' => ?_)
      refine T_ld zk_35_66 rfl rfl rfl (pc' := 68) rfl ?_
      refine G_unk zk_35_68 rfl (pc' := 69) rfl (fun y16 hy16 hy16' => ?_)
      refine G_iast (J' := (fun σ' => IF (MI c 4 6 10 10) σ σ' ∧ True)) (ln := 25) zk_35_69 rfl rfl (vd_4 hc) (by omega) (by omega) (by omega) (fun σ' h => ⟨h.1.up ⟨by omega, trivial⟩ (by unfold MI; omega), trivial⟩) (pc' := 70) rfl ?_
      refine T_ld zk_35_70 rfl rfl rfl (pc' := 71) rfl ?_
      refine T_getR (t' := 4) (i' := c) (k' := 0) zk_35_71 rfl rfl rfl (vd_2 hc) (pc' := 74) rfl ?_
      refine T_ld zk_35_74 rfl rfl rfl (pc' := 75) rfl ?_
      refine T_op (st' := [iv y10, av 4 c 0, iv y10, av 4 c 0]) zk_35_75 rfl rfl (pc' := 76) rfl ?_
      refine G_iald (lo := -2147483648) (hi := 2147483647) (ln := 25) zk_35_76 rfl rfl (vd_4 hc) (by omega) (by omega) (by omega) (fun σ' h => h.1.1) (fun _ h => (by have q := h.1; omega)) (pc' := 77) rfl (fun y17 hy17 hy17' => ?_)
      refine T_ld zk_35_77 rfl rfl rfl (pc' := 79) rfl ?_
      refine G_unk zk_35_79 rfl (pc' := 80) rfl (fun y18 hy18 hy18' => ?_)
      refine G_iast (J' := (fun σ' => IF (MI c 4 6 10 10) σ σ' ∧ True)) (ln := 25) zk_35_80 rfl rfl (vd_4 hc) (by omega) (by omega) (by omega) (fun σ' h => ⟨h.1.up ⟨by omega, trivial⟩ (by unfold MI; omega), trivial⟩) (pc' := 81) rfl ?_
      refine T_ld zk_35_81 rfl rfl rfl (pc' := 82) rfl ?_
      refine T_getR (t' := 6) (i' := c) (k' := 0) zk_35_82 rfl rfl rfl (vd_2 hc) (pc' := 85) rfl ?_
      refine T_ld zk_35_85 rfl rfl rfl (pc' := 86) rfl ?_
      refine T_op (st' := [iv y9, av 6 c 0, iv y9, av 6 c 0]) zk_35_86 rfl rfl (pc' := 87) rfl ?_
      refine G_iald (lo := -2147483648) (hi := 2147483647) (ln := 25) zk_35_87 rfl rfl (vd_6 hc) (by omega) (by omega) (by omega) (fun σ' h => h.1.1) (fun _ h => (by have q := h.1; omega)) (pc' := 88) rfl (fun y19 hy19 hy19' => ?_)
      refine T_ld zk_35_88 rfl rfl rfl (pc' := 90) rfl ?_
      refine T_absU zk_35_90 rfl rfl (pc' := 93) rfl (fun y20 ey20 => ?_)
      refine G_norm (fun y21 hy21 hy21' => ?_)
      refine G_unk zk_35_93 rfl (pc' := 94) rfl (fun y22 hy22 hy22' => ?_)
      refine G_iast (J' := (fun σ' => IF (MI c 4 6 10 10) σ σ' ∧ True)) (ln := 25) zk_35_94 rfl rfl (vd_6 hc) (by omega) (by omega) (by omega) (fun σ' h => ⟨h.1.up ⟨by omega, trivial⟩ (by unfold MI; omega), trivial⟩) (pc' := 95) rfl ?_
      refine T_ld zk_35_95 rfl rfl rfl (pc' := 96) rfl ?_
      refine T_getR (t' := 6) (i' := c) (k' := 0) zk_35_96 rfl rfl rfl (vd_2 hc) (pc' := 99) rfl ?_
      refine T_ld zk_35_99 rfl rfl rfl (pc' := 100) rfl ?_
      refine T_op (st' := [iv y10, av 6 c 0, iv y10, av 6 c 0]) zk_35_100 rfl rfl (pc' := 101) rfl ?_
      refine G_iald (lo := -2147483648) (hi := 2147483647) (ln := 25) zk_35_101 rfl rfl (vd_6 hc) (by omega) (by omega) (by omega) (fun σ' h => h.1.1) (fun _ h => (by have q := h.1; omega)) (pc' := 102) rfl (fun y23 hy23 hy23' => ?_)
      refine T_ld zk_35_102 rfl rfl rfl (pc' := 104) rfl ?_
      refine T_absU zk_35_104 rfl rfl (pc' := 107) rfl (fun y24 ey24 => ?_)
      refine G_norm (fun y25 hy25 hy25' => ?_)
      refine G_unk zk_35_107 rfl (pc' := 108) rfl (fun y26 hy26 hy26' => ?_)
      refine G_iast (J' := (fun σ' => IF (MI c 4 6 10 10) σ σ' ∧ True)) (ln := 25) zk_35_108 rfl rfl (vd_6 hc) (by omega) (by omega) (by omega) (fun σ' h => ⟨h.1.up ⟨by omega, trivial⟩ (by unfold MI; omega), trivial⟩) (pc' := 109) rfl ?_
      refine T_iinc (L' := [(0, av 2 c 0), (1, iv (x1 + 1)), (2, iv y9), (3, iv y10), (4, iv y14)]) zk_35_109 (nL := 5) rfl rfl rfl rfl (pc' := 112) rfl ?_
      refine T_goto zk_35_112 ?_
      refine T_loc (L := [(0, av 2 c 0), (1, iv (x1 + 1))]) (E := [(2, iv y9), (3, iv y10), (4, iv y14)]) rfl ?_
      exact ih2 (x1 + 1) (by omega) (by omega)
theorem sb51_9ca7732 (v0 : Nat) : ∀ t i k j, MI v0 21 21 21 21 t i k j → ML v0 t i k j := by
  intro t i k j h
  unfold MI at h
  unfold ML
  omega
theorem sb51_817917f (v0 : Nat) : ∀ t i k j, MI v0 13 13 13 13 t i k j → ML v0 t i k j := by
  intro t i k j h
  unfold MI at h
  unfold ML
  omega
theorem sb51_d26ee5f (v0 : Nat) : ∀ t i k j, MI v0 4 6 10 10 t i k j → ML v0 t i k j := by
  intro t i k j h
  unfold MI at h
  unfold ML
  omega
/-- W$City.liveWaters -/
theorem w_12 {xs : Nat × (Nat → Int32)} (c : Nat) (p0 : Int) (hc : c < 3) (hp0 : 0 ≤ p0 ∧ p0 ≤ 1) (σ : ZS) (hI : Inv σ)   : CT xs 4 12 [av 1 c 0, iv p0] σ (fun v σ' => v = none ∧ IF (ML c) σ σ' ∧ (True)) := by
  refine G_ct (J := (fun σ' => IF (ML c) σ σ' ∧ True)) (L := [(0, av 1 c 0), (1, iv p0)]) (nL := 6) rfl rfl rfl ⟨IF.rf hI, trivial⟩ ?_
  refine T_ld zk_12_0 rfl rfl rfl (pc' := 1) rfl ?_
  refine T_callv (J' := (fun σ' => IF (ML c) σ σ' ∧ True)) (r := []) zk_12_1 rfl rfl rfl rfl rfl rfl (Or.inr ⟨_, _, _, _, rfl, (vd_1 hc), rfl⟩) (fun σ' h => (w_11 c hc σ' h.1.1 ).le (Nat.le_of_ble_eq_true rfl) (fun v σ2 ⟨h1, h3, h4⟩ => ⟨h1, h.1.tr h3 (sb51_9ca7732 c), trivial⟩)) (pc' := 4) rfl ?_
  refine T_ld zk_12_4 rfl rfl rfl (pc' := 5) rfl ?_
  refine T_callv (J' := (fun σ' => IF (ML c) σ σ' ∧ True)) (r := []) zk_12_5 rfl rfl rfl rfl rfl rfl (Or.inr ⟨_, _, _, _, rfl, (vd_1 hc), rfl⟩) (fun σ' h => (w_14 c hc σ' h.1.1 ).le (Nat.le_of_ble_eq_true rfl) (fun v σ2 ⟨h1, h3, h4⟩ => ⟨h1, h.1.tr h3 (sb51_817917f c), trivial⟩)) (pc' := 8) rfl ?_
  refine T_ld zk_12_8 rfl rfl rfl (pc' := 9) rfl ?_
  refine T_ld zk_12_9 rfl rfl rfl (pc' := 10) rfl ?_
  refine T_callr (t := 17) (i := c) (k := (Int.toNat p0)) (J' := (fun σ' => IF (ML c) σ σ' ∧ True)) (r := []) zk_12_10 rfl rfl rfl rfl rfl rfl (Or.inr ⟨_, _, _, _, rfl, (vd_1 hc), rfl⟩) (fun σ' h => (w_10 c p0 hc (by omega) σ' h.1.1 ).le (Nat.le_of_ble_eq_true rfl) (fun v σ2 ⟨h1, h3, h4⟩ => ⟨h1, h.1.tr h3 MN_sub, trivial⟩)) (pc' := 13) rfl ?_
  refine T_ld zk_12_13 rfl rfl rfl (pc' := 14) rfl ?_
  refine G_getf (lo := -2147483648) (hi := 2147483647) zk_12_14 rfl (vd_1 hc) (fun σ' h => h.1.1) (fun _ h => (by have q := h.1; omega)) (pc' := 17) rfl (fun y4 hy4 hy4' => ?_)
  refine T_calli (K := fun y5 σ' => (-300 ≤ y5 ∧ y5 ≤ 300) ∧ (fun σ' => IF (ML c) σ σ' ∧ True) σ') (r := []) zk_12_17 rfl rfl rfl rfl rfl rfl (Or.inr ⟨_, _, _, _, rfl, (vd_17 hc (by omega)), rfl⟩) (fun σ' h => (w_73 c (Int.toNat p0) y4 hc (by omega) (by omega) σ' h.1.1 ).le (Nat.le_of_ble_eq_true rfl) (fun v σ2 ⟨y, h1, h2, h3, h4⟩ => ⟨y, h1, h2, h.1.tr h3 MN_sub, trivial⟩)) (pc' := 20) rfl (fun y5 => ?_)
  refine G_ex (fun hy5 => ?_)
  refine T_st (L' := [(0, av 1 c 0), (1, iv p0), (2, iv y5)]) zk_12_20 (nL := 6) rfl rfl rfl rfl rfl (pc' := 21) rfl ?_
  refine T_ld zk_12_21 rfl rfl rfl (pc' := 22) rfl ?_
  refine T_getR (t' := 11) (i' := c) (k' := 0) zk_12_22 rfl rfl rfl (vd_1 hc) (pc' := 25) rfl ?_
  refine T_calli (K := fun y6 σ' => (0 ≤ y6 ∧ y6 ≤ 3) ∧ (fun σ' => IF (ML c) σ σ' ∧ True) σ') (r := []) zk_12_25 rfl rfl rfl rfl rfl rfl (Or.inr ⟨_, _, _, _, rfl, (vd_11 hc), rfl⟩) (fun σ' h => (w_63 c hc σ' h.1.1 ).le (Nat.le_of_ble_eq_true rfl) (fun v σ2 ⟨y, h1, h2, h3, h4⟩ => ⟨y, h1, h2, h.1.tr h3 MN_sub, trivial⟩)) (pc' := 28) rfl (fun y6 => ?_)
  refine G_ex (fun hy6 => ?_)
  refine T_if_le zk_12_28 (by omega) (pc' := 31) rfl (fun h7 => ?_) (fun h8 => ?_)
  ·
    refine T_op zk_12_51 rfl X_ic (pc' := 52) rfl ?_
    refine T_st (L' := [(0, av 1 c 0), (1, iv p0), (2, iv y5), (3, iv 0)]) zk_12_52 (nL := 6) rfl rfl rfl rfl rfl (pc' := 53) rfl ?_
    refine T_loop1 (fun x9 => ((3 - x9 : Int)).toNat) (fun x9 => (0 ≤ x9 ∧ x9 ≤ 3)) (fun x9 => TJ xs (fun σ' => IF (ML c) σ σ' ∧ True) 3 12 53 [(0, av 1 c 0), (1, iv p0), (2, iv y5), (3, iv x9)] [] _) ?_ 0 (by omega)
    intro x9 hp11 ih10
    refine T_ld zk_12_53 rfl rfl rfl (pc' := 54) rfl ?_
    refine T_ld zk_12_54 rfl rfl rfl (pc' := 55) rfl ?_
    refine T_getR (t' := 11) (i' := c) (k' := 0) zk_12_55 rfl rfl rfl (vd_1 hc) (pc' := 58) rfl ?_
    refine G_getf (lo := 0) (hi := 3) zk_12_58 rfl (vd_11 hc) (fun σ' h => h.1.1) (fun _ h => h.2 (by omega) (by omega)) (pc' := 61) rfl (fun y12 hy12 hy12' => ?_)
    refine T_icmp_ge zk_12_61 (by omega) (by omega) (pc' := 64) rfl (fun h13 => ?_) (fun h14 => ?_)
    ·
      refine T_ld zk_12_135 rfl rfl rfl (pc' := 136) rfl ?_
      refine T_getR (t' := 2) (i' := c) (k' := 0) zk_12_136 rfl rfl rfl (vd_1 hc) (pc' := 139) rfl ?_
      refine T_callv (J' := (fun σ' => IF (ML c) σ σ' ∧ True)) (r := []) zk_12_139 rfl rfl rfl rfl rfl rfl (Or.inr ⟨_, _, _, _, rfl, (vd_2 hc), rfl⟩) (fun σ' h => (w_35 c hc σ' h.1.1 ).le (Nat.le_of_ble_eq_true rfl) (fun v σ2 ⟨h1, h3, h4⟩ => ⟨h1, h.1.tr h3 (sb51_d26ee5f c), trivial⟩)) (pc' := 142) rfl ?_
      exact T_vret zk_12_142 rfl (fun σ' h => ⟨rfl, h.1, trivial⟩)
    ·
      refine T_ld zk_12_64 rfl rfl rfl (pc' := 65) rfl ?_
      refine T_getR (t' := 11) (i' := c) (k' := 0) zk_12_65 rfl rfl rfl (vd_1 hc) (pc' := 68) rfl ?_
      refine T_getR (t' := 13) (i' := c) (k' := 0) zk_12_68 rfl rfl rfl (vd_11 hc) (pc' := 71) rfl ?_
      refine T_ld zk_12_71 rfl rfl rfl (pc' := 72) rfl ?_
      refine G_bald (lo := 0) (hi := 1) (ln := 3) zk_12_72 rfl rfl (vd_13 hc) (by omega) (by omega) (by omega) (fun σ' h => h.1.1) (fun _ h => h.2 (by omega) (by omega)) (pc' := 73) rfl (fun y16 hy16 hy16' => ?_)
      refine T_if_ne zk_12_73 (by omega) (pc' := 76) rfl (fun h17 => ?_) (fun h18 => ?_)
      ·
        refine T_iinc (L' := [(0, av 1 c 0), (1, iv p0), (2, iv y5), (3, iv (x9 + 1))]) zk_12_129 (nL := 6) rfl rfl rfl rfl (pc' := 132) rfl ?_
        refine T_goto zk_12_132 ?_
        exact ih10 (x9 + 1) (by omega) (by omega)
      ·
        refine T_ld zk_12_76 rfl rfl rfl (pc' := 77) rfl ?_
        refine T_getR (t' := 11) (i' := c) (k' := 0) zk_12_77 rfl rfl rfl (vd_1 hc) (pc' := 80) rfl ?_
        refine T_getR (t' := 12) (i' := c) (k' := 0) zk_12_80 rfl rfl rfl (vd_11 hc) (pc' := 83) rfl ?_
        refine T_ld zk_12_83 rfl rfl rfl (pc' := 84) rfl ?_
        refine G_iald (lo := 0) (hi := 24) (ln := 3) zk_12_84 rfl rfl (vd_12 hc) (by omega) (by omega) (by omega) (fun σ' h => h.1.1) (fun _ h => h.2 (by omega) (by omega)) (pc' := 85) rfl (fun y19 hy19 hy19' => ?_)
        refine T_st (L' := [(0, av 1 c 0), (1, iv p0), (2, iv y5), (3, iv x9), (4, iv y19)]) zk_12_85 (nL := 6) rfl rfl rfl rfl rfl (pc' := 87) rfl ?_
        refine T_ld zk_12_87 rfl rfl rfl (pc' := 88) rfl ?_
        refine T_ld zk_12_88 rfl rfl rfl (pc' := 89) rfl ?_
        refine T_getR (t' := 2) (i' := c) (k' := 0) zk_12_89 rfl rfl rfl (vd_1 hc) (pc' := 92) rfl ?_
        refine T_getR (t' := 4) (i' := c) (k' := 0) zk_12_92 rfl rfl rfl (vd_2 hc) (pc' := 95) rfl ?_
        refine T_ld zk_12_95 rfl rfl rfl (pc' := 97) rfl ?_
        refine G_iald (lo := -2147483648) (hi := 2147483647) (ln := 25) zk_12_97 rfl rfl (vd_4 hc) (by omega) (by omega) (by omega) (fun σ' h => h.1.1) (fun _ h => (by have q := h.1; omega)) (pc' := 98) rfl (fun y20 hy20 hy20' => ?_)
        refine G_unk zk_12_98 rfl (pc' := 99) rfl (fun y21 hy21 hy21' => ?_)
        refine T_op zk_12_99 rfl X_ic (pc' := 100) rfl ?_
        refine G_unkD zk_12_100 (by first | exact Or.inl rfl | exact Or.inr rfl) (by omega) (pc' := 101) rfl (fun y22 hy22 hy22' => ?_)
        refine T_st (L' := [(0, av 1 c 0), (1, iv p0), (2, iv y5), (3, iv x9), (4, iv y19), (5, iv y22)]) zk_12_101 (nL := 6) rfl rfl rfl rfl rfl (pc' := 103) rfl ?_
        refine T_ld zk_12_103 rfl rfl rfl (pc' := 104) rfl ?_
        refine T_getR (t' := 2) (i' := c) (k' := 0) zk_12_104 rfl rfl rfl (vd_1 hc) (pc' := 107) rfl ?_
        refine T_getR (t' := 4) (i' := c) (k' := 0) zk_12_107 rfl rfl rfl (vd_2 hc) (pc' := 110) rfl ?_
        refine T_ld zk_12_110 rfl rfl rfl (pc' := 112) rfl ?_
        refine T_op (st' := [iv y19, av 4 c 0, iv y19, av 4 c 0]) zk_12_112 rfl rfl (pc' := 113) rfl ?_
        refine G_iald (lo := -2147483648) (hi := 2147483647) (ln := 25) zk_12_113 rfl rfl (vd_4 hc) (by omega) (by omega) (by omega) (fun σ' h => h.1.1) (fun _ h => (by have q := h.1; omega)) (pc' := 114) rfl (fun y23 hy23 hy23' => ?_)
        refine T_ld zk_12_114 rfl rfl rfl (pc' := 116) rfl ?_
        refine G_unk zk_12_116 rfl (pc' := 117) rfl (fun y24 hy24 hy24' => ?_)
        refine G_iast (J' := (fun σ' => IF (ML c) σ σ' ∧ True)) (ln := 25) zk_12_117 rfl rfl (vd_4 hc) (by omega) (by omega) (by omega) (fun σ' h => ⟨h.1.up ⟨by omega, trivial⟩ (by unfold ML; omega), trivial⟩) (pc' := 118) rfl ?_
        refine T_ld zk_12_118 rfl rfl rfl (pc' := 119) rfl ?_
        refine T_op (st' := [av 1 c 0, av 1 c 0]) zk_12_119 rfl rfl (pc' := 120) rfl ?_
        refine G_getf (lo := -2147483648) (hi := 2147483647) zk_12_120 rfl (vd_1 hc) (fun σ' h => h.1.1) (fun _ h => (by have q := h.1; omega)) (pc' := 123) rfl (fun y25 hy25 hy25' => ?_)
        refine T_ld zk_12_123 rfl rfl rfl (pc' := 125) rfl ?_
        refine G_unk zk_12_125 rfl (pc' := 126) rfl (fun y26 hy26 hy26' => ?_)
        refine T_putf (J' := (fun σ' => IF (ML c) σ σ' ∧ σ' 1 c 0 16 = y26 ∧ True)) zk_12_126 rfl rfl (vd_1 hc) (fun σ' h => ⟨h.1.up (by simp only [rgP] <;> omega) (by unfold ML; omega), up_eq, trivial⟩) (pc' := 129) rfl ?_
        refine T_iinc (L' := [(0, av 1 c 0), (1, iv p0), (2, iv y5), (3, iv (x9 + 1)), (4, iv y19), (5, iv y22)]) zk_12_129 (nL := 6) rfl rfl rfl rfl (pc' := 132) rfl ?_
        refine T_goto zk_12_132 ?_
        refine G_know (J' := (fun σ' => IF (ML c) σ σ' ∧ True)) (fun σ' h => ⟨h.1, trivial⟩) ?_
        refine T_loc (L := [(0, av 1 c 0), (1, iv p0), (2, iv y5), (3, iv (x9 + 1))]) (E := [(4, iv y19), (5, iv y22)]) rfl ?_
        exact ih10 (x9 + 1) (by omega) (by omega)
  ·
    refine T_ld zk_12_31 rfl rfl rfl (pc' := 32) rfl ?_
    refine T_ld zk_12_32 rfl rfl rfl (pc' := 33) rfl ?_
    refine T_getR (t' := 21) (i' := c) (k' := 0) zk_12_33 rfl rfl rfl (vd_1 hc) (pc' := 36) rfl ?_
    refine T_op zk_12_36 rfl X_ic (pc' := 37) rfl ?_
    refine G_iald (lo := -2147483648) (hi := 2147483647) (ln := 6) zk_12_37 rfl rfl (vd_21 hc) (by omega) (by omega) (by omega) (fun σ' h => h.1.1) (fun _ h => (by have q := h.1; omega)) (pc' := 38) rfl (fun y27 hy27 hy27' => ?_)
    refine T_icmp_gt zk_12_38 (by omega) (by omega) (pc' := 41) rfl (fun h28 => ?_) (fun h29 => ?_)
    ·
      refine T_op zk_12_51 rfl X_ic (pc' := 52) rfl ?_
      refine T_st (L' := [(0, av 1 c 0), (1, iv p0), (2, iv y5), (3, iv 0)]) zk_12_52 (nL := 6) rfl rfl rfl rfl rfl (pc' := 53) rfl ?_
      refine T_loop1 (fun x30 => ((3 - x30 : Int)).toNat) (fun x30 => (0 ≤ x30 ∧ x30 ≤ 3)) (fun x30 => TJ xs (fun σ' => IF (ML c) σ σ' ∧ True) 3 12 53 [(0, av 1 c 0), (1, iv p0), (2, iv y5), (3, iv x30)] [] _) ?_ 0 (by omega)
      intro x30 hp32 ih31
      refine T_ld zk_12_53 rfl rfl rfl (pc' := 54) rfl ?_
      refine T_ld zk_12_54 rfl rfl rfl (pc' := 55) rfl ?_
      refine T_getR (t' := 11) (i' := c) (k' := 0) zk_12_55 rfl rfl rfl (vd_1 hc) (pc' := 58) rfl ?_
      refine G_getf (lo := 0) (hi := 3) zk_12_58 rfl (vd_11 hc) (fun σ' h => h.1.1) (fun _ h => h.2 (by omega) (by omega)) (pc' := 61) rfl (fun y33 hy33 hy33' => ?_)
      refine T_icmp_ge zk_12_61 (by omega) (by omega) (pc' := 64) rfl (fun h34 => ?_) (fun h35 => ?_)
      ·
        refine T_ld zk_12_135 rfl rfl rfl (pc' := 136) rfl ?_
        refine T_getR (t' := 2) (i' := c) (k' := 0) zk_12_136 rfl rfl rfl (vd_1 hc) (pc' := 139) rfl ?_
        refine T_callv (J' := (fun σ' => IF (ML c) σ σ' ∧ True)) (r := []) zk_12_139 rfl rfl rfl rfl rfl rfl (Or.inr ⟨_, _, _, _, rfl, (vd_2 hc), rfl⟩) (fun σ' h => (w_35 c hc σ' h.1.1 ).le (Nat.le_of_ble_eq_true rfl) (fun v σ2 ⟨h1, h3, h4⟩ => ⟨h1, h.1.tr h3 (sb51_d26ee5f c), trivial⟩)) (pc' := 142) rfl ?_
        exact T_vret zk_12_142 rfl (fun σ' h => ⟨rfl, h.1, trivial⟩)
      ·
        refine T_ld zk_12_64 rfl rfl rfl (pc' := 65) rfl ?_
        refine T_getR (t' := 11) (i' := c) (k' := 0) zk_12_65 rfl rfl rfl (vd_1 hc) (pc' := 68) rfl ?_
        refine T_getR (t' := 13) (i' := c) (k' := 0) zk_12_68 rfl rfl rfl (vd_11 hc) (pc' := 71) rfl ?_
        refine T_ld zk_12_71 rfl rfl rfl (pc' := 72) rfl ?_
        refine G_bald (lo := 0) (hi := 1) (ln := 3) zk_12_72 rfl rfl (vd_13 hc) (by omega) (by omega) (by omega) (fun σ' h => h.1.1) (fun _ h => h.2 (by omega) (by omega)) (pc' := 73) rfl (fun y37 hy37 hy37' => ?_)
        refine T_if_ne zk_12_73 (by omega) (pc' := 76) rfl (fun h38 => ?_) (fun h39 => ?_)
        ·
          refine T_iinc (L' := [(0, av 1 c 0), (1, iv p0), (2, iv y5), (3, iv (x30 + 1))]) zk_12_129 (nL := 6) rfl rfl rfl rfl (pc' := 132) rfl ?_
          refine T_goto zk_12_132 ?_
          exact ih31 (x30 + 1) (by omega) (by omega)
        ·
          refine T_ld zk_12_76 rfl rfl rfl (pc' := 77) rfl ?_
          refine T_getR (t' := 11) (i' := c) (k' := 0) zk_12_77 rfl rfl rfl (vd_1 hc) (pc' := 80) rfl ?_
          refine T_getR (t' := 12) (i' := c) (k' := 0) zk_12_80 rfl rfl rfl (vd_11 hc) (pc' := 83) rfl ?_
          refine T_ld zk_12_83 rfl rfl rfl (pc' := 84) rfl ?_
          refine G_iald (lo := 0) (hi := 24) (ln := 3) zk_12_84 rfl rfl (vd_12 hc) (by omega) (by omega) (by omega) (fun σ' h => h.1.1) (fun _ h => h.2 (by omega) (by omega)) (pc' := 85) rfl (fun y40 hy40 hy40' => ?_)
          refine T_st (L' := [(0, av 1 c 0), (1, iv p0), (2, iv y5), (3, iv x30), (4, iv y40)]) zk_12_85 (nL := 6) rfl rfl rfl rfl rfl (pc' := 87) rfl ?_
          refine T_ld zk_12_87 rfl rfl rfl (pc' := 88) rfl ?_
          refine T_ld zk_12_88 rfl rfl rfl (pc' := 89) rfl ?_
          refine T_getR (t' := 2) (i' := c) (k' := 0) zk_12_89 rfl rfl rfl (vd_1 hc) (pc' := 92) rfl ?_
          refine T_getR (t' := 4) (i' := c) (k' := 0) zk_12_92 rfl rfl rfl (vd_2 hc) (pc' := 95) rfl ?_
          refine T_ld zk_12_95 rfl rfl rfl (pc' := 97) rfl ?_
          refine G_iald (lo := -2147483648) (hi := 2147483647) (ln := 25) zk_12_97 rfl rfl (vd_4 hc) (by omega) (by omega) (by omega) (fun σ' h => h.1.1) (fun _ h => (by have q := h.1; omega)) (pc' := 98) rfl (fun y41 hy41 hy41' => ?_)
          refine G_unk zk_12_98 rfl (pc' := 99) rfl (fun y42 hy42 hy42' => ?_)
          refine T_op zk_12_99 rfl X_ic (pc' := 100) rfl ?_
          refine G_unkD zk_12_100 (by first | exact Or.inl rfl | exact Or.inr rfl) (by omega) (pc' := 101) rfl (fun y43 hy43 hy43' => ?_)
          refine T_st (L' := [(0, av 1 c 0), (1, iv p0), (2, iv y5), (3, iv x30), (4, iv y40), (5, iv y43)]) zk_12_101 (nL := 6) rfl rfl rfl rfl rfl (pc' := 103) rfl ?_
          refine T_ld zk_12_103 rfl rfl rfl (pc' := 104) rfl ?_
          refine T_getR (t' := 2) (i' := c) (k' := 0) zk_12_104 rfl rfl rfl (vd_1 hc) (pc' := 107) rfl ?_
          refine T_getR (t' := 4) (i' := c) (k' := 0) zk_12_107 rfl rfl rfl (vd_2 hc) (pc' := 110) rfl ?_
          refine T_ld zk_12_110 rfl rfl rfl (pc' := 112) rfl ?_
          refine T_op (st' := [iv y40, av 4 c 0, iv y40, av 4 c 0]) zk_12_112 rfl rfl (pc' := 113) rfl ?_
          refine G_iald (lo := -2147483648) (hi := 2147483647) (ln := 25) zk_12_113 rfl rfl (vd_4 hc) (by omega) (by omega) (by omega) (fun σ' h => h.1.1) (fun _ h => (by have q := h.1; omega)) (pc' := 114) rfl (fun y44 hy44 hy44' => ?_)
          refine T_ld zk_12_114 rfl rfl rfl (pc' := 116) rfl ?_
          refine G_unk zk_12_116 rfl (pc' := 117) rfl (fun y45 hy45 hy45' => ?_)
          refine G_iast (J' := (fun σ' => IF (ML c) σ σ' ∧ True)) (ln := 25) zk_12_117 rfl rfl (vd_4 hc) (by omega) (by omega) (by omega) (fun σ' h => ⟨h.1.up ⟨by omega, trivial⟩ (by unfold ML; omega), trivial⟩) (pc' := 118) rfl ?_
          refine T_ld zk_12_118 rfl rfl rfl (pc' := 119) rfl ?_
          refine T_op (st' := [av 1 c 0, av 1 c 0]) zk_12_119 rfl rfl (pc' := 120) rfl ?_
          refine G_getf (lo := -2147483648) (hi := 2147483647) zk_12_120 rfl (vd_1 hc) (fun σ' h => h.1.1) (fun _ h => (by have q := h.1; omega)) (pc' := 123) rfl (fun y46 hy46 hy46' => ?_)
          refine T_ld zk_12_123 rfl rfl rfl (pc' := 125) rfl ?_
          refine G_unk zk_12_125 rfl (pc' := 126) rfl (fun y47 hy47 hy47' => ?_)
          refine T_putf (J' := (fun σ' => IF (ML c) σ σ' ∧ σ' 1 c 0 16 = y47 ∧ True)) zk_12_126 rfl rfl (vd_1 hc) (fun σ' h => ⟨h.1.up (by simp only [rgP] <;> omega) (by unfold ML; omega), up_eq, trivial⟩) (pc' := 129) rfl ?_
          refine T_iinc (L' := [(0, av 1 c 0), (1, iv p0), (2, iv y5), (3, iv (x30 + 1)), (4, iv y40), (5, iv y43)]) zk_12_129 (nL := 6) rfl rfl rfl rfl (pc' := 132) rfl ?_
          refine T_goto zk_12_132 ?_
          refine G_know (J' := (fun σ' => IF (ML c) σ σ' ∧ True)) (fun σ' h => ⟨h.1, trivial⟩) ?_
          refine T_loc (L := [(0, av 1 c 0), (1, iv p0), (2, iv y5), (3, iv (x30 + 1))]) (E := [(4, iv y40), (5, iv y43)]) rfl ?_
          exact ih31 (x30 + 1) (by omega) (by omega)
    ·
      refine T_ld zk_12_41 rfl rfl rfl (pc' := 42) rfl ?_
      refine T_op (st' := [av 1 c 0, av 1 c 0]) zk_12_42 rfl rfl (pc' := 43) rfl ?_
      refine G_getf (lo := -2147483648) (hi := 2147483647) zk_12_43 rfl (vd_1 hc) (fun σ' h => h.1.1) (fun _ h => (by have q := h.1; omega)) (pc' := 46) rfl (fun y48 hy48 hy48' => ?_)
      refine T_op zk_12_46 rfl X_ic (pc' := 47) rfl ?_
      refine G_unk zk_12_47 rfl (pc' := 48) rfl (fun y49 hy49 hy49' => ?_)
      refine T_putf (J' := (fun σ' => IF (ML c) σ σ' ∧ σ' 1 c 0 15 = y49 ∧ True)) zk_12_48 rfl rfl (vd_1 hc) (fun σ' h => ⟨h.1.up (by simp only [rgP] <;> omega) (by unfold ML; omega), up_eq, trivial⟩) (pc' := 51) rfl ?_
      refine T_op zk_12_51 rfl X_ic (pc' := 52) rfl ?_
      refine T_st (L' := [(0, av 1 c 0), (1, iv p0), (2, iv y5), (3, iv 0)]) zk_12_52 (nL := 6) rfl rfl rfl rfl rfl (pc' := 53) rfl ?_
      refine G_know (J' := (fun σ' => IF (ML c) σ σ' ∧ True)) (fun σ' h => ⟨h.1, trivial⟩) ?_
      refine T_loop1 (fun x50 => ((3 - x50 : Int)).toNat) (fun x50 => (0 ≤ x50 ∧ x50 ≤ 3)) (fun x50 => TJ xs (fun σ' => IF (ML c) σ σ' ∧ True) 3 12 53 [(0, av 1 c 0), (1, iv p0), (2, iv y5), (3, iv x50)] [] _) ?_ 0 (by omega)
      intro x50 hp52 ih51
      refine T_ld zk_12_53 rfl rfl rfl (pc' := 54) rfl ?_
      refine T_ld zk_12_54 rfl rfl rfl (pc' := 55) rfl ?_
      refine T_getR (t' := 11) (i' := c) (k' := 0) zk_12_55 rfl rfl rfl (vd_1 hc) (pc' := 58) rfl ?_
      refine G_getf (lo := 0) (hi := 3) zk_12_58 rfl (vd_11 hc) (fun σ' h => h.1.1) (fun _ h => h.2 (by omega) (by omega)) (pc' := 61) rfl (fun y53 hy53 hy53' => ?_)
      refine T_icmp_ge zk_12_61 (by omega) (by omega) (pc' := 64) rfl (fun h54 => ?_) (fun h55 => ?_)
      ·
        refine T_ld zk_12_135 rfl rfl rfl (pc' := 136) rfl ?_
        refine T_getR (t' := 2) (i' := c) (k' := 0) zk_12_136 rfl rfl rfl (vd_1 hc) (pc' := 139) rfl ?_
        refine T_callv (J' := (fun σ' => IF (ML c) σ σ' ∧ True)) (r := []) zk_12_139 rfl rfl rfl rfl rfl rfl (Or.inr ⟨_, _, _, _, rfl, (vd_2 hc), rfl⟩) (fun σ' h => (w_35 c hc σ' h.1.1 ).le (Nat.le_of_ble_eq_true rfl) (fun v σ2 ⟨h1, h3, h4⟩ => ⟨h1, h.1.tr h3 (sb51_d26ee5f c), trivial⟩)) (pc' := 142) rfl ?_
        exact T_vret zk_12_142 rfl (fun σ' h => ⟨rfl, h.1, trivial⟩)
      ·
        refine T_ld zk_12_64 rfl rfl rfl (pc' := 65) rfl ?_
        refine T_getR (t' := 11) (i' := c) (k' := 0) zk_12_65 rfl rfl rfl (vd_1 hc) (pc' := 68) rfl ?_
        refine T_getR (t' := 13) (i' := c) (k' := 0) zk_12_68 rfl rfl rfl (vd_11 hc) (pc' := 71) rfl ?_
        refine T_ld zk_12_71 rfl rfl rfl (pc' := 72) rfl ?_
        refine G_bald (lo := 0) (hi := 1) (ln := 3) zk_12_72 rfl rfl (vd_13 hc) (by omega) (by omega) (by omega) (fun σ' h => h.1.1) (fun _ h => h.2 (by omega) (by omega)) (pc' := 73) rfl (fun y57 hy57 hy57' => ?_)
        refine T_if_ne zk_12_73 (by omega) (pc' := 76) rfl (fun h58 => ?_) (fun h59 => ?_)
        ·
          refine T_iinc (L' := [(0, av 1 c 0), (1, iv p0), (2, iv y5), (3, iv (x50 + 1))]) zk_12_129 (nL := 6) rfl rfl rfl rfl (pc' := 132) rfl ?_
          refine T_goto zk_12_132 ?_
          exact ih51 (x50 + 1) (by omega) (by omega)
        ·
          refine T_ld zk_12_76 rfl rfl rfl (pc' := 77) rfl ?_
          refine T_getR (t' := 11) (i' := c) (k' := 0) zk_12_77 rfl rfl rfl (vd_1 hc) (pc' := 80) rfl ?_
          refine T_getR (t' := 12) (i' := c) (k' := 0) zk_12_80 rfl rfl rfl (vd_11 hc) (pc' := 83) rfl ?_
          refine T_ld zk_12_83 rfl rfl rfl (pc' := 84) rfl ?_
          refine G_iald (lo := 0) (hi := 24) (ln := 3) zk_12_84 rfl rfl (vd_12 hc) (by omega) (by omega) (by omega) (fun σ' h => h.1.1) (fun _ h => h.2 (by omega) (by omega)) (pc' := 85) rfl (fun y60 hy60 hy60' => ?_)
          refine T_st (L' := [(0, av 1 c 0), (1, iv p0), (2, iv y5), (3, iv x50), (4, iv y60)]) zk_12_85 (nL := 6) rfl rfl rfl rfl rfl (pc' := 87) rfl ?_
          refine T_ld zk_12_87 rfl rfl rfl (pc' := 88) rfl ?_
          refine T_ld zk_12_88 rfl rfl rfl (pc' := 89) rfl ?_
          refine T_getR (t' := 2) (i' := c) (k' := 0) zk_12_89 rfl rfl rfl (vd_1 hc) (pc' := 92) rfl ?_
          refine T_getR (t' := 4) (i' := c) (k' := 0) zk_12_92 rfl rfl rfl (vd_2 hc) (pc' := 95) rfl ?_
          refine T_ld zk_12_95 rfl rfl rfl (pc' := 97) rfl ?_
          refine G_iald (lo := -2147483648) (hi := 2147483647) (ln := 25) zk_12_97 rfl rfl (vd_4 hc) (by omega) (by omega) (by omega) (fun σ' h => h.1.1) (fun _ h => (by have q := h.1; omega)) (pc' := 98) rfl (fun y61 hy61 hy61' => ?_)
          refine G_unk zk_12_98 rfl (pc' := 99) rfl (fun y62 hy62 hy62' => ?_)
          refine T_op zk_12_99 rfl X_ic (pc' := 100) rfl ?_
          refine G_unkD zk_12_100 (by first | exact Or.inl rfl | exact Or.inr rfl) (by omega) (pc' := 101) rfl (fun y63 hy63 hy63' => ?_)
          refine T_st (L' := [(0, av 1 c 0), (1, iv p0), (2, iv y5), (3, iv x50), (4, iv y60), (5, iv y63)]) zk_12_101 (nL := 6) rfl rfl rfl rfl rfl (pc' := 103) rfl ?_
          refine T_ld zk_12_103 rfl rfl rfl (pc' := 104) rfl ?_
          refine T_getR (t' := 2) (i' := c) (k' := 0) zk_12_104 rfl rfl rfl (vd_1 hc) (pc' := 107) rfl ?_
          refine T_getR (t' := 4) (i' := c) (k' := 0) zk_12_107 rfl rfl rfl (vd_2 hc) (pc' := 110) rfl ?_
          refine T_ld zk_12_110 rfl rfl rfl (pc' := 112) rfl ?_
          refine T_op (st' := [iv y60, av 4 c 0, iv y60, av 4 c 0]) zk_12_112 rfl rfl (pc' := 113) rfl ?_
          refine G_iald (lo := -2147483648) (hi := 2147483647) (ln := 25) zk_12_113 rfl rfl (vd_4 hc) (by omega) (by omega) (by omega) (fun σ' h => h.1.1) (fun _ h => (by have q := h.1; omega)) (pc' := 114) rfl (fun y64 hy64 hy64' => ?_)
          refine T_ld zk_12_114 rfl rfl rfl (pc' := 116) rfl ?_
          refine G_unk zk_12_116 rfl (pc' := 117) rfl (fun y65 hy65 hy65' => ?_)
          refine G_iast (J' := (fun σ' => IF (ML c) σ σ' ∧ True)) (ln := 25) zk_12_117 rfl rfl (vd_4 hc) (by omega) (by omega) (by omega) (fun σ' h => ⟨h.1.up ⟨by omega, trivial⟩ (by unfold ML; omega), trivial⟩) (pc' := 118) rfl ?_
          refine T_ld zk_12_118 rfl rfl rfl (pc' := 119) rfl ?_
          refine T_op (st' := [av 1 c 0, av 1 c 0]) zk_12_119 rfl rfl (pc' := 120) rfl ?_
          refine G_getf (lo := -2147483648) (hi := 2147483647) zk_12_120 rfl (vd_1 hc) (fun σ' h => h.1.1) (fun _ h => (by have q := h.1; omega)) (pc' := 123) rfl (fun y66 hy66 hy66' => ?_)
          refine T_ld zk_12_123 rfl rfl rfl (pc' := 125) rfl ?_
          refine G_unk zk_12_125 rfl (pc' := 126) rfl (fun y67 hy67 hy67' => ?_)
          refine T_putf (J' := (fun σ' => IF (ML c) σ σ' ∧ σ' 1 c 0 16 = y67 ∧ True)) zk_12_126 rfl rfl (vd_1 hc) (fun σ' h => ⟨h.1.up (by simp only [rgP] <;> omega) (by unfold ML; omega), up_eq, trivial⟩) (pc' := 129) rfl ?_
          refine T_iinc (L' := [(0, av 1 c 0), (1, iv p0), (2, iv y5), (3, iv (x50 + 1)), (4, iv y60), (5, iv y63)]) zk_12_129 (nL := 6) rfl rfl rfl rfl (pc' := 132) rfl ?_
          refine T_goto zk_12_132 ?_
          refine G_know (J' := (fun σ' => IF (ML c) σ σ' ∧ True)) (fun σ' h => ⟨h.1, trivial⟩) ?_
          refine T_loc (L := [(0, av 1 c 0), (1, iv p0), (2, iv y5), (3, iv (x50 + 1))]) (E := [(4, iv y60), (5, iv y63)]) rfl ?_
          exact ih51 (x50 + 1) (by omega) (by omega)
/-- W$Lagoon.passes -/
theorem w_36 {xs : Nat × (Nat → Int32)} (c : Nat) (c2 : Nat) (k : Nat) (p0 : Int) (hc : c < 3) (hc2 : c2 < 3) (hk : k < 6) (hp0 : 0 ≤ p0 ∧ p0 ≤ 39) (σ : ZS) (hI : Inv σ)   : CT xs 2 36 [av 2 c 0, av 26 c2 k, iv p0] σ (fun v σ' => ∃ y, v = some (iv y) ∧ (y = 0 ∨ y = 1) ∧ IF MN σ σ' ∧ (True)) := by
  refine G_ct (J := (fun σ' => IF MN σ σ' ∧ True)) (L := [(0, av 2 c 0), (1, av 26 c2 k), (2, iv p0)]) (nL := 5) rfl rfl rfl ⟨IF.rf hI, trivial⟩ ?_
  refine T_ld zk_36_0 rfl rfl rfl (pc' := 1) rfl ?_
  refine T_calli (K := fun y1 σ' => (0 ≤ y1 ∧ y1 ≤ 24) ∧ (fun σ' => IF MN σ σ' ∧ True) σ') (r := []) zk_36_1 rfl rfl rfl rfl rfl rfl (Or.inl (Or.inl rfl)) (fun σ' h => (w_31 p0 (by omega) σ' h.1.1 ).le (Nat.le_of_ble_eq_true rfl) (fun v σ2 ⟨y, h1, h2, h3, h4⟩ => ⟨y, h1, h2, h.1.tr h3 MN_sub, trivial⟩)) (pc' := 4) rfl (fun y1 => ?_)
  refine G_ex (fun hy1 => ?_)
  refine T_st (L' := [(0, av 2 c 0), (1, av 26 c2 k), (2, iv p0), (3, iv y1)]) zk_36_4 (nL := 5) rfl rfl rfl rfl rfl (pc' := 5) rfl ?_
  refine T_ld zk_36_5 rfl rfl rfl (pc' := 6) rfl ?_
  refine T_calli (K := fun y2 σ' => (0 ≤ y2 ∧ y2 ≤ 24) ∧ (fun σ' => IF MN σ σ' ∧ True) σ') (r := []) zk_36_6 rfl rfl rfl rfl rfl rfl (Or.inl (Or.inl rfl)) (fun σ' h => (w_32 p0 (by omega) σ' h.1.1 ).le (Nat.le_of_ble_eq_true rfl) (fun v σ2 ⟨y, h1, h2, h3, h4⟩ => ⟨y, h1, h2, h.1.tr h3 MN_sub, trivial⟩)) (pc' := 9) rfl (fun y2 => ?_)
  refine G_ex (fun hy2 => ?_)
  refine T_st (L' := [(0, av 2 c 0), (1, av 26 c2 k), (2, iv p0), (3, iv y1), (4, iv y2)]) zk_36_9 (nL := 5) rfl rfl rfl rfl rfl (pc' := 11) rfl ?_
  refine T_ld zk_36_11 rfl rfl rfl (pc' := 12) rfl ?_
  refine T_getR (t' := 8) (i' := c) (k' := 0) zk_36_12 rfl rfl rfl (vd_2 hc) (pc' := 15) rfl ?_
  refine T_ld zk_36_15 rfl rfl rfl (pc' := 16) rfl ?_
  refine G_bald (lo := 0) (hi := 1) (ln := 40) zk_36_16 rfl rfl (vd_8 hc) (by omega) (by omega) (by omega) (fun σ' h => h.1.1) (fun _ h => h.2 (by omega) (by omega)) (pc' := 17) rfl (fun y3 hy3 hy3' => ?_)
  refine T_if_ne zk_36_17 (by omega) (pc' := 20) rfl (fun h4 => ?_) (fun h5 => ?_)
  ·
    refine T_op zk_36_62 rfl X_ic (pc' := 63) rfl ?_
    exact T_zret zk_36_63 rfl (by omega) (fun σ' h => ⟨_, rfl, (by omega), h.1, trivial⟩)
  ·
    refine T_ld zk_36_20 rfl rfl rfl (pc' := 21) rfl ?_
    refine T_getR (t' := 4) (i' := c) (k' := 0) zk_36_21 rfl rfl rfl (vd_2 hc) (pc' := 24) rfl ?_
    refine T_ld zk_36_24 rfl rfl rfl (pc' := 25) rfl ?_
    refine G_iald (lo := -2147483648) (hi := 2147483647) (ln := 25) zk_36_25 rfl rfl (vd_4 hc) (by omega) (by omega) (by omega) (fun σ' h => h.1.1) (fun _ h => (by have q := h.1; omega)) (pc' := 26) rfl (fun y6 hy6 hy6' => ?_)
    refine T_ld zk_36_26 rfl rfl rfl (pc' := 27) rfl ?_
    refine T_getR (t' := 3) (i' := c) (k' := 0) zk_36_27 rfl rfl rfl (vd_2 hc) (pc' := 30) rfl ?_
    refine T_ld zk_36_30 rfl rfl rfl (pc' := 31) rfl ?_
    refine G_iald (lo := -2147483648) (hi := 2147483647) (ln := 25) zk_36_31 rfl rfl (vd_3 hc) (by omega) (by omega) (by omega) (fun σ' h => h.1.1) (fun _ h => (by have q := h.1; omega)) (pc' := 32) rfl (fun y7 hy7 hy7' => ?_)
    refine G_unk zk_36_32 rfl (pc' := 33) rfl (fun y8 hy8 hy8' => ?_)
    refine T_ld zk_36_33 rfl rfl rfl (pc' := 34) rfl ?_
    refine G_getf (lo := -2147483648) (hi := 2147483647) zk_36_34 rfl (vd_26 hc2 (by omega)) (fun σ' h => h.1.1) (fun _ h => (by have q := h.1; omega)) (pc' := 37) rfl (fun y9 hy9 hy9' => ?_)
    refine T_icmp_lt zk_36_37 (by omega) (by omega) (pc' := 40) rfl (fun h10 => ?_) (fun h11 => ?_)
    ·
      refine T_op zk_36_62 rfl X_ic (pc' := 63) rfl ?_
      exact T_zret zk_36_63 rfl (by omega) (fun σ' h => ⟨_, rfl, (by omega), h.1, trivial⟩)
    ·
      refine T_ld zk_36_40 rfl rfl rfl (pc' := 41) rfl ?_
      refine T_getR (t' := 4) (i' := c) (k' := 0) zk_36_41 rfl rfl rfl (vd_2 hc) (pc' := 44) rfl ?_
      refine T_ld zk_36_44 rfl rfl rfl (pc' := 46) rfl ?_
      refine G_iald (lo := -2147483648) (hi := 2147483647) (ln := 25) zk_36_46 rfl rfl (vd_4 hc) (by omega) (by omega) (by omega) (fun σ' h => h.1.1) (fun _ h => (by have q := h.1; omega)) (pc' := 47) rfl (fun y12 hy12 hy12' => ?_)
      refine T_ld zk_36_47 rfl rfl rfl (pc' := 48) rfl ?_
      refine T_getR (t' := 3) (i' := c) (k' := 0) zk_36_48 rfl rfl rfl (vd_2 hc) (pc' := 51) rfl ?_
      refine T_ld zk_36_51 rfl rfl rfl (pc' := 53) rfl ?_
      refine G_iald (lo := -2147483648) (hi := 2147483647) (ln := 25) zk_36_53 rfl rfl (vd_3 hc) (by omega) (by omega) (by omega) (fun σ' h => h.1.1) (fun _ h => (by have q := h.1; omega)) (pc' := 54) rfl (fun y13 hy13 hy13' => ?_)
      refine G_unk zk_36_54 rfl (pc' := 55) rfl (fun y14 hy14 hy14' => ?_)
      refine T_ld zk_36_55 rfl rfl rfl (pc' := 56) rfl ?_
      refine G_getf (lo := -2147483648) (hi := 2147483647) zk_36_56 rfl (vd_26 hc2 (by omega)) (fun σ' h => h.1.1) (fun _ h => (by have q := h.1; omega)) (pc' := 59) rfl (fun y15 hy15 hy15' => ?_)
      refine T_icmp_ge zk_36_59 (by omega) (by omega) (pc' := 62) rfl (fun h16 => ?_) (fun h17 => ?_)
      ·
        refine T_ld zk_36_64 rfl rfl rfl (pc' := 65) rfl ?_
        refine T_getR (t' := 7) (i' := c) (k' := 0) zk_36_65 rfl rfl rfl (vd_2 hc) (pc' := 68) rfl ?_
        refine T_ld zk_36_68 rfl rfl rfl (pc' := 69) rfl ?_
        refine G_iald (lo := -2147483648) (hi := 2147483647) (ln := 40) zk_36_69 rfl rfl (vd_7 hc) (by omega) (by omega) (by omega) (fun σ' h => h.1.1) (fun _ h => (by have q := h.1; omega)) (pc' := 70) rfl (fun y18 hy18 hy18' => ?_)
        refine T_op zk_36_70 rfl X_ic (pc' := 71) rfl ?_
        refine T_icmp_eq zk_36_71 (by omega) (by omega) (pc' := 74) rfl (fun h19 => ?_) (fun h20 => ?_)
        ·
          refine T_op zk_36_104 rfl X_ic (pc' := 105) rfl ?_
          refine T_goto zk_36_105 ?_
          exact T_zret zk_36_109 rfl (by omega) (fun σ' h => ⟨_, rfl, (by omega), h.1, trivial⟩)
        ·
          refine T_ld zk_36_74 rfl rfl rfl (pc' := 75) rfl ?_
          refine G_getf (lo := -2147483648) (hi := 2147483647) zk_36_75 rfl (vd_26 hc2 (by omega)) (fun σ' h => h.1.1) (fun _ h => (by have q := h.1; omega)) (pc' := 78) rfl (fun y21 hy21 hy21' => ?_)
          refine T_ld zk_36_78 rfl rfl rfl (pc' := 79) rfl ?_
          refine T_getR (t' := 4) (i' := c) (k' := 0) zk_36_79 rfl rfl rfl (vd_2 hc) (pc' := 82) rfl ?_
          refine T_ld zk_36_82 rfl rfl rfl (pc' := 83) rfl ?_
          refine G_iald (lo := -2147483648) (hi := 2147483647) (ln := 25) zk_36_83 rfl rfl (vd_4 hc) (by omega) (by omega) (by omega) (fun σ' h => h.1.1) (fun _ h => (by have q := h.1; omega)) (pc' := 84) rfl (fun y22 hy22 hy22' => ?_)
          refine T_ld zk_36_84 rfl rfl rfl (pc' := 85) rfl ?_
          refine T_getR (t' := 4) (i' := c) (k' := 0) zk_36_85 rfl rfl rfl (vd_2 hc) (pc' := 88) rfl ?_
          refine T_ld zk_36_88 rfl rfl rfl (pc' := 90) rfl ?_
          refine G_iald (lo := -2147483648) (hi := 2147483647) (ln := 25) zk_36_90 rfl rfl (vd_4 hc) (by omega) (by omega) (by omega) (fun σ' h => h.1.1) (fun _ h => (by have q := h.1; omega)) (pc' := 91) rfl (fun y23 hy23 hy23' => ?_)
          refine T_max zk_36_91 rfl (by omega) (by omega) rfl (pc' := 94) rfl (fun y24 hy24 hy24' ey24 => ?_)
          refine G_unk zk_36_94 rfl (pc' := 95) rfl (fun y25 hy25 hy25' => ?_)
          refine T_ld zk_36_95 rfl rfl rfl (pc' := 96) rfl ?_
          refine T_getR (t' := 7) (i' := c) (k' := 0) zk_36_96 rfl rfl rfl (vd_2 hc) (pc' := 99) rfl ?_
          refine T_ld zk_36_99 rfl rfl rfl (pc' := 100) rfl ?_
          refine G_iald (lo := -2147483648) (hi := 2147483647) (ln := 40) zk_36_100 rfl rfl (vd_7 hc) (by omega) (by omega) (by omega) (fun σ' h => h.1.1) (fun _ h => (by have q := h.1; omega)) (pc' := 101) rfl (fun y26 hy26 hy26' => ?_)
          refine T_icmp_gt zk_36_101 (by omega) (by omega) (pc' := 104) rfl (fun h27 => ?_) (fun h28 => ?_)
          ·
            refine T_op zk_36_108 rfl X_ic (pc' := 109) rfl ?_
            exact T_zret zk_36_109 rfl (by omega) (fun σ' h => ⟨_, rfl, (by omega), h.1, trivial⟩)
          ·
            refine T_op zk_36_104 rfl X_ic (pc' := 105) rfl ?_
            refine T_goto zk_36_105 ?_
            exact T_zret zk_36_109 rfl (by omega) (fun σ' h => ⟨_, rfl, (by omega), h.1, trivial⟩)
      ·
        refine T_op zk_36_62 rfl X_ic (pc' := 63) rfl ?_
        exact T_zret zk_36_63 rfl (by omega) (fun σ' h => ⟨_, rfl, (by omega), h.1, trivial⟩)
/-- W$Chart.draw -/
theorem w_5 {xs : Nat × (Nat → Int32)} (c : Nat) (c2 : Nat) (k : Nat) (hc : c < 3) (hc2 : c2 < 3) (hk : k < 6) (σ : ZS) (hI : Inv σ)   : CT xs 3 5 [av 19 c 0, av 2 c 0, av 26 c2 k] σ (fun v σ' => v = none ∧ IF (MI c 20 20 20 20) σ σ' ∧ (True)) := by
  refine G_ct (J := (fun σ' => IF (MI c 20 20 20 20) σ σ' ∧ True)) (L := [(0, av 19 c 0), (1, av 2 c 0), (2, av 26 c2 k)]) (nL := 6) rfl rfl rfl ⟨IF.rf hI, trivial⟩ ?_
  refine T_ld zk_5_0 rfl rfl rfl (pc' := 1) rfl ?_
  refine T_getR (t' := 20) (i' := c) (k' := 0) zk_5_1 rfl rfl rfl (vd_19 hc) (pc' := 4) rfl ?_
  refine T_op zk_5_4 rfl X_ic (pc' := 5) rfl ?_
  refine T_callv (J' := (fun σ' => IF (MI c 20 20 20 20) σ σ' ∧ True)) (r := []) zk_5_5 rfl rfl rfl rfl rfl rfl (Or.inl (Or.inl rfl)) (fun σ' h => (w_190 c 0 hc (by omega) σ' h.1.1 ).le (Nat.le_of_ble_eq_true rfl) (fun v σ2 ⟨h1, h3, h4⟩ => ⟨h1, h.1.tr h3 (fun _ _ _ _ h => h), trivial⟩)) (pc' := 8) rfl ?_
  refine T_op zk_5_8 rfl X_ic (pc' := 9) rfl ?_
  refine T_st (L' := [(0, av 19 c 0), (1, av 2 c 0), (2, av 26 c2 k), (3, iv 0)]) zk_5_9 (nL := 6) rfl rfl rfl rfl rfl (pc' := 10) rfl ?_
  refine T_loop1 (fun x2 => ((40 - x2 : Int)).toNat) (fun x2 => (0 ≤ x2 ∧ x2 ≤ 40)) (fun x2 => TJ xs (fun σ' => IF (MI c 20 20 20 20) σ σ' ∧ True) 2 5 10 [(0, av 19 c 0), (1, av 2 c 0), (2, av 26 c2 k), (3, iv x2)] [] _) ?_ 0 (by omega)
  intro x2 hp4 ih3
  refine T_ld zk_5_10 rfl rfl rfl (pc' := 11) rfl ?_
  refine T_op zk_5_11 rfl (X_bi (v := 40) (by decide)) (pc' := 13) rfl ?_
  refine T_icmp_ge zk_5_13 (by omega) (by omega) (pc' := 16) rfl (fun h5 => ?_) (fun h6 => ?_)
  ·
    exact T_vret zk_5_71 rfl (fun σ' h => ⟨rfl, h.1, trivial⟩)
  ·
    refine T_ld zk_5_16 rfl rfl rfl (pc' := 17) rfl ?_
    refine T_ld zk_5_17 rfl rfl rfl (pc' := 18) rfl ?_
    refine T_ld zk_5_18 rfl rfl rfl (pc' := 19) rfl ?_
    refine T_calli (K := fun y7 σ' => (y7 = 0 ∨ y7 = 1) ∧ (fun σ' => IF (MI c 20 20 20 20) σ σ' ∧ True) σ') (r := []) zk_5_19 rfl rfl rfl rfl rfl rfl (Or.inr ⟨_, _, _, _, rfl, (vd_2 hc), rfl⟩) (fun σ' h => (w_36 c c2 k x2 hc hc2 (by omega) (by omega) σ' h.1.1 ).le (Nat.le_of_ble_eq_true rfl) (fun v σ2 ⟨y, h1, h2, h3, h4⟩ => ⟨y, h1, h2, h.1.tr h3 MN_sub, trivial⟩)) (pc' := 22) rfl (fun y7 => ?_)
    refine G_ex (fun hy7 => ?_)
    refine T_if_eq zk_5_22 (by omega) (pc' := 25) rfl (fun h8 => ?_) (fun h9 => ?_)
    ·
      refine T_iinc (L' := [(0, av 19 c 0), (1, av 2 c 0), (2, av 26 c2 k), (3, iv (x2 + 1))]) zk_5_65 (nL := 6) rfl rfl rfl rfl (pc' := 68) rfl ?_
      refine T_goto zk_5_68 ?_
      exact ih3 (x2 + 1) (by omega) (by omega)
    ·
      refine T_ld zk_5_25 rfl rfl rfl (pc' := 26) rfl ?_
      refine T_calli (K := fun y10 σ' => (0 ≤ y10 ∧ y10 ≤ 24) ∧ (fun σ' => IF (MI c 20 20 20 20) σ σ' ∧ True) σ') (r := []) zk_5_26 rfl rfl rfl rfl rfl rfl (Or.inl (Or.inl rfl)) (fun σ' h => (w_31 x2 (by omega) σ' h.1.1 ).le (Nat.le_of_ble_eq_true rfl) (fun v σ2 ⟨y, h1, h2, h3, h4⟩ => ⟨y, h1, h2, h.1.tr h3 MN_sub, trivial⟩)) (pc' := 29) rfl (fun y10 => ?_)
      refine G_ex (fun hy10 => ?_)
      refine T_st (L' := [(0, av 19 c 0), (1, av 2 c 0), (2, av 26 c2 k), (3, iv x2), (4, iv y10)]) zk_5_29 (nL := 6) rfl rfl rfl rfl rfl (pc' := 31) rfl ?_
      refine T_ld zk_5_31 rfl rfl rfl (pc' := 32) rfl ?_
      refine T_calli (K := fun y11 σ' => (0 ≤ y11 ∧ y11 ≤ 24) ∧ (fun σ' => IF (MI c 20 20 20 20) σ σ' ∧ True) σ') (r := []) zk_5_32 rfl rfl rfl rfl rfl rfl (Or.inl (Or.inl rfl)) (fun σ' h => (w_32 x2 (by omega) σ' h.1.1 ).le (Nat.le_of_ble_eq_true rfl) (fun v σ2 ⟨y, h1, h2, h3, h4⟩ => ⟨y, h1, h2, h.1.tr h3 MN_sub, trivial⟩)) (pc' := 35) rfl (fun y11 => ?_)
      refine G_ex (fun hy11 => ?_)
      refine T_st (L' := [(0, av 19 c 0), (1, av 2 c 0), (2, av 26 c2 k), (3, iv x2), (4, iv y10), (5, iv y11)]) zk_5_35 (nL := 6) rfl rfl rfl rfl rfl (pc' := 37) rfl ?_
      refine T_ld zk_5_37 rfl rfl rfl (pc' := 38) rfl ?_
      refine T_getR (t' := 20) (i' := c) (k' := 0) zk_5_38 rfl rfl rfl (vd_19 hc) (pc' := 41) rfl ?_
      refine T_ld zk_5_41 rfl rfl rfl (pc' := 43) rfl ?_
      refine T_op (st' := [iv y10, av 20 c 0, iv y10, av 20 c 0]) zk_5_43 rfl rfl (pc' := 44) rfl ?_
      refine G_iald (lo := -2147483648) (hi := 2147483647) (ln := 25) zk_5_44 rfl rfl (vd_20 hc) (by omega) (by omega) (by omega) (fun σ' h => h.1.1) (fun _ h => (by have q := h.1; omega)) (pc' := 45) rfl (fun y12 hy12 hy12' => ?_)
      refine T_op zk_5_45 rfl X_ic (pc' := 46) rfl ?_
      refine T_ld zk_5_46 rfl rfl rfl (pc' := 48) rfl ?_
      refine G_unk zk_5_48 rfl (pc' := 49) rfl (fun y13 hy13 hy13' => ?_)
      refine G_unk zk_5_49 rfl (pc' := 50) rfl (fun y14 hy14 hy14' => ?_)
      refine G_iast (J' := (fun σ' => IF (MI c 20 20 20 20) σ σ' ∧ True)) (ln := 25) zk_5_50 rfl rfl (vd_20 hc) (by omega) (by omega) (by omega) (fun σ' h => ⟨h.1.up ⟨by omega, trivial⟩ (by unfold MI; omega), trivial⟩) (pc' := 51) rfl ?_
      refine T_ld zk_5_51 rfl rfl rfl (pc' := 52) rfl ?_
      refine T_getR (t' := 20) (i' := c) (k' := 0) zk_5_52 rfl rfl rfl (vd_19 hc) (pc' := 55) rfl ?_
      refine T_ld zk_5_55 rfl rfl rfl (pc' := 57) rfl ?_
      refine T_op (st' := [iv y11, av 20 c 0, iv y11, av 20 c 0]) zk_5_57 rfl rfl (pc' := 58) rfl ?_
      refine G_iald (lo := -2147483648) (hi := 2147483647) (ln := 25) zk_5_58 rfl rfl (vd_20 hc) (by omega) (by omega) (by omega) (fun σ' h => h.1.1) (fun _ h => (by have q := h.1; omega)) (pc' := 59) rfl (fun y15 hy15 hy15' => ?_)
      refine T_op zk_5_59 rfl X_ic (pc' := 60) rfl ?_
      refine T_ld zk_5_60 rfl rfl rfl (pc' := 62) rfl ?_
      refine G_unk zk_5_62 rfl (pc' := 63) rfl (fun y16 hy16 hy16' => ?_)
      refine G_unk zk_5_63 rfl (pc' := 64) rfl (fun y17 hy17 hy17' => ?_)
      refine G_iast (J' := (fun σ' => IF (MI c 20 20 20 20) σ σ' ∧ True)) (ln := 25) zk_5_64 rfl rfl (vd_20 hc) (by omega) (by omega) (by omega) (fun σ' h => ⟨h.1.up ⟨by omega, trivial⟩ (by unfold MI; omega), trivial⟩) (pc' := 65) rfl ?_
      refine T_iinc (L' := [(0, av 19 c 0), (1, av 2 c 0), (2, av 26 c2 k), (3, iv (x2 + 1)), (4, iv y10), (5, iv y11)]) zk_5_65 (nL := 6) rfl rfl rfl rfl (pc' := 68) rfl ?_
      refine T_goto zk_5_68 ?_
      refine T_loc (L := [(0, av 19 c 0), (1, av 2 c 0), (2, av 26 c2 k), (3, iv (x2 + 1))]) (E := [(4, iv y10), (5, iv y11)]) rfl ?_
      exact ih3 (x2 + 1) (by omega) (by omega)
/-- W$Chart.spread -/
theorem w_6 {xs : Nat × (Nat → Int32)} (c : Nat) (p0 : Int) (hc : c < 3) (hp0 : -2147483648 ≤ p0 ∧ p0 ≤ 2147483647) (σ : ZS) (hI : Inv σ)   : CT xs 1 6 [av 19 c 0, iv p0] σ (fun v σ' => ∃ y, v = some (iv y) ∧ (-2147483648 ≤ y ∧ y ≤ 2147483647) ∧ IF MN σ σ' ∧ (True)) := by
  refine G_ct (J := (fun σ' => IF MN σ σ' ∧ True)) (L := [(0, av 19 c 0), (1, iv p0)]) (nL := 4) rfl rfl rfl ⟨IF.rf hI, trivial⟩ ?_
  refine T_ld zk_6_0 rfl rfl rfl (pc' := 1) rfl ?_
  refine T_st (L' := [(0, av 19 c 0), (1, iv p0), (2, iv p0)]) zk_6_1 (nL := 4) rfl rfl rfl rfl rfl (pc' := 2) rfl ?_
  refine T_op zk_6_2 rfl X_ic (pc' := 3) rfl ?_
  refine T_st (L' := [(0, av 19 c 0), (1, iv p0), (2, iv p0), (3, iv 0)]) zk_6_3 (nL := 4) rfl rfl rfl rfl rfl (pc' := 4) rfl ?_
  refine T_loop2 (fun x1 x2 => ((25 - x2 : Int)).toNat) (fun x1 x2 => (-2147483648 ≤ x1 ∧ x1 ≤ 2147483647) ∧ (0 ≤ x2 ∧ x2 ≤ 25)) (fun x1 x2 => TJ xs (fun σ' => IF MN σ σ' ∧ True) 0 6 4 [(0, av 19 c 0), (1, iv p0), (2, iv x1), (3, iv x2)] [] _) ?_ p0 0 (by omega)
  intro x1 x2 hp4 ih3
  refine T_ld zk_6_4 rfl rfl rfl (pc' := 5) rfl ?_
  refine T_op zk_6_5 rfl (X_bi (v := 25) (by decide)) (pc' := 7) rfl ?_
  refine T_icmp_ge zk_6_7 (by omega) (by omega) (pc' := 10) rfl (fun h5 => ?_) (fun h6 => ?_)
  ·
    refine T_ld zk_6_34 rfl rfl rfl (pc' := 35) rfl ?_
    exact T_iret zk_6_35 rfl (fun σ' h => ⟨_, rfl, (by omega), h.1, trivial⟩)
  ·
    refine T_ld zk_6_10 rfl rfl rfl (pc' := 11) rfl ?_
    refine T_ld zk_6_11 rfl rfl rfl (pc' := 12) rfl ?_
    refine G_unk zk_6_12 rfl (pc' := 13) rfl (fun y7 hy7 hy7' => ?_)
    refine T_op zk_6_13 rfl X_ic (pc' := 14) rfl ?_
    refine G_unk zk_6_14 rfl (pc' := 15) rfl (fun y8 hy8 hy8' => ?_)
    refine T_op zk_6_15 rfl X_ic (pc' := 16) rfl ?_
    refine T_icmp_ne zk_6_16 (by omega) (by omega) (pc' := 19) rfl (fun h9 => ?_) (fun h10 => ?_)
    ·
      refine T_iinc (L' := [(0, av 19 c 0), (1, iv p0), (2, iv x1), (3, iv (x2 + 1))]) zk_6_28 (nL := 4) rfl rfl rfl rfl (pc' := 31) rfl ?_
      refine T_goto zk_6_31 ?_
      exact ih3 x1 (x2 + 1) (by omega) (by omega)
    ·
      refine T_ld zk_6_19 rfl rfl rfl (pc' := 20) rfl ?_
      refine T_ld zk_6_20 rfl rfl rfl (pc' := 21) rfl ?_
      refine T_getR (t' := 20) (i' := c) (k' := 0) zk_6_21 rfl rfl rfl (vd_19 hc) (pc' := 24) rfl ?_
      refine T_ld zk_6_24 rfl rfl rfl (pc' := 25) rfl ?_
      refine G_iald (lo := -2147483648) (hi := 2147483647) (ln := 25) zk_6_25 rfl rfl (vd_20 hc) (by omega) (by omega) (by omega) (fun σ' h => h.1.1) (fun _ h => (by have q := h.1; omega)) (pc' := 26) rfl (fun y11 hy11 hy11' => ?_)
      refine G_unk zk_6_26 rfl (pc' := 27) rfl (fun y12 hy12 hy12' => ?_)
      refine T_st (L' := [(0, av 19 c 0), (1, iv p0), (2, iv y12), (3, iv x2)]) zk_6_27 (nL := 4) rfl rfl rfl rfl rfl (pc' := 28) rfl ?_
      refine T_iinc (L' := [(0, av 19 c 0), (1, iv p0), (2, iv y12), (3, iv (x2 + 1))]) zk_6_28 (nL := 4) rfl rfl rfl rfl (pc' := 31) rfl ?_
      refine T_goto zk_6_31 ?_
      exact ih3 y12 (x2 + 1) (by omega) (by omega)
/-- W$Chart.leastOf -/
theorem w_8 {xs : Nat × (Nat → Int32)} (p0 : Int) (hp0 : -2147483648 ≤ p0 ∧ p0 ≤ 2147483647) (σ : ZS) (hI : Inv σ)   : CT xs 1 8 [iv p0] σ (fun v σ' => ∃ y, v = some (iv y) ∧ (-1 ≤ y ∧ y ≤ 24) ∧ IF MN σ σ' ∧ (True)) := by
  refine G_ct (J := (fun σ' => IF MN σ σ' ∧ True)) (L := [(0, iv p0)]) (nL := 2) rfl rfl rfl ⟨IF.rf hI, trivial⟩ ?_
  refine T_op zk_8_0 rfl X_ic (pc' := 1) rfl ?_
  refine T_st (L' := [(0, iv p0), (1, iv 0)]) zk_8_1 (nL := 2) rfl rfl rfl rfl rfl (pc' := 2) rfl ?_
  refine T_loop1 (fun x1 => ((25 - x1 : Int)).toNat) (fun x1 => (0 ≤ x1 ∧ x1 ≤ 25)) (fun x1 => TJ xs (fun σ' => IF MN σ σ' ∧ True) 0 8 2 [(0, iv p0), (1, iv x1)] [] _) ?_ 0 (by omega)
  intro x1 hp3 ih2
  refine T_ld zk_8_2 rfl rfl rfl (pc' := 3) rfl ?_
  refine T_op zk_8_3 rfl (X_bi (v := 25) (by decide)) (pc' := 5) rfl ?_
  refine T_icmp_ge zk_8_5 (by omega) (by omega) (pc' := 8) rfl (fun h4 => ?_) (fun h5 => ?_)
  ·
    refine T_op zk_8_25 rfl X_ic (pc' := 26) rfl ?_
    exact T_iret zk_8_26 rfl (fun σ' h => ⟨_, rfl, (by omega), h.1, trivial⟩)
  ·
    refine T_ld zk_8_8 rfl rfl rfl (pc' := 9) rfl ?_
    refine T_ld zk_8_9 rfl rfl rfl (pc' := 10) rfl ?_
    refine G_unk zk_8_10 rfl (pc' := 11) rfl (fun y6 hy6 hy6' => ?_)
    refine T_op zk_8_11 rfl X_ic (pc' := 12) rfl ?_
    refine G_unk zk_8_12 rfl (pc' := 13) rfl (fun y7 hy7 hy7' => ?_)
    refine T_op zk_8_13 rfl X_ic (pc' := 14) rfl ?_
    refine T_icmp_ne zk_8_14 (by omega) (by omega) (pc' := 17) rfl (fun h8 => ?_) (fun h9 => ?_)
    ·
      refine T_iinc (L' := [(0, iv p0), (1, iv (x1 + 1))]) zk_8_19 (nL := 2) rfl rfl rfl rfl (pc' := 22) rfl ?_
      refine T_goto zk_8_22 ?_
      exact ih2 (x1 + 1) (by omega) (by omega)
    ·
      refine T_ld zk_8_17 rfl rfl rfl (pc' := 18) rfl ?_
      exact T_iret zk_8_18 rfl (fun σ' h => ⟨_, rfl, (by omega), h.1, trivial⟩)
/-- W$Chart.firstStep -/
theorem w_7 {xs : Nat × (Nat → Int32)} (c : Nat) (p0 : Int) (p1 : Int) (hc : c < 3) (hp0 : 0 ≤ p0 ∧ p0 ≤ 24) (hp1 : -1 ≤ p1 ∧ p1 ≤ 24) (σ : ZS) (hI : Inv σ)   : CT xs 2 7 [av 19 c 0, iv p0, iv p1] σ (fun v σ' => ∃ y, v = some (iv y) ∧ (-1 ≤ y ∧ y ≤ 24) ∧ IF MN σ σ' ∧ (True)) := by
  refine G_ct (J := (fun σ' => IF MN σ σ' ∧ True)) (L := [(0, av 19 c 0), (1, iv p0), (2, iv p1)]) (nL := 7) rfl rfl rfl ⟨IF.rf hI, trivial⟩ ?_
  refine T_op zk_7_0 rfl X_ic (pc' := 1) rfl ?_
  refine T_ld zk_7_1 rfl rfl rfl (pc' := 2) rfl ?_
  refine G_unk zk_7_2 rfl (pc' := 3) rfl (fun y1 hy1 hy1' => ?_)
  refine T_st (L' := [(0, av 19 c 0), (1, iv p0), (2, iv p1), (3, iv y1)]) zk_7_3 (nL := 7) rfl rfl rfl rfl rfl (pc' := 4) rfl ?_
  refine T_op zk_7_4 rfl X_ic (pc' := 5) rfl ?_
  refine T_st (L' := [(0, av 19 c 0), (1, iv p0), (2, iv p1), (3, iv y1), (4, iv 1)]) zk_7_5 (nL := 7) rfl rfl rfl rfl rfl (pc' := 7) rfl ?_
  refine T_loop2 (fun x2 x3 => ((25 - x3 : Int)).toNat) (fun x2 x3 => (-2147483648 ≤ x2 ∧ x2 ≤ 2147483647) ∧ (1 ≤ x3 ∧ x3 ≤ 25)) (fun x2 x3 => TJ xs (fun σ' => IF MN σ σ' ∧ True) 1 7 7 [(0, av 19 c 0), (1, iv p0), (2, iv p1), (3, iv x2), (4, iv x3)] [] _) ?_ y1 1 (by omega)
  intro x2 x3 hp5 ih4
  refine T_ld zk_7_7 rfl rfl rfl (pc' := 9) rfl ?_
  refine T_op zk_7_9 rfl (X_bi (v := 25) (by decide)) (pc' := 11) rfl ?_
  refine T_icmp_ge zk_7_11 (by omega) (by omega) (pc' := 14) rfl (fun h6 => ?_) (fun h7 => ?_)
  ·
    refine T_op zk_7_59 rfl X_ic (pc' := 60) rfl ?_
    exact T_iret zk_7_60 rfl (fun σ' h => ⟨_, rfl, (by omega), h.1, trivial⟩)
  ·
    refine T_ld zk_7_14 rfl rfl rfl (pc' := 15) rfl ?_
    refine T_getR (t' := 20) (i' := c) (k' := 0) zk_7_15 rfl rfl rfl (vd_19 hc) (pc' := 18) rfl ?_
    refine T_ld zk_7_18 rfl rfl rfl (pc' := 19) rfl ?_
    refine G_iald (lo := -2147483648) (hi := 2147483647) (ln := 25) zk_7_19 rfl rfl (vd_20 hc) (by omega) (by omega) (by omega) (fun σ' h => h.1.1) (fun _ h => (by have q := h.1; omega)) (pc' := 20) rfl (fun y8 hy8 hy8' => ?_)
    refine T_ld zk_7_20 rfl rfl rfl (pc' := 21) rfl ?_
    refine G_unk zk_7_21 rfl (pc' := 22) rfl (fun y9 hy9 hy9' => ?_)
    refine T_st (L' := [(0, av 19 c 0), (1, iv p0), (2, iv p1), (3, iv x2), (4, iv x3), (5, iv y9)]) zk_7_22 (nL := 7) rfl rfl rfl rfl rfl (pc' := 24) rfl ?_
    refine T_ld zk_7_24 rfl rfl rfl (pc' := 26) rfl ?_
    refine T_if_eq zk_7_26 (by omega) (pc' := 29) rfl (fun h10 => ?_) (fun h11 => ?_)
    ·
      refine T_ld zk_7_35 rfl rfl rfl (pc' := 36) rfl ?_
      refine T_ld zk_7_36 rfl rfl rfl (pc' := 37) rfl ?_
      refine T_calli (K := fun y12 σ' => (-2147483648 ≤ y12 ∧ y12 ≤ 2147483647) ∧ (fun σ' => IF MN σ σ' ∧ True) σ') (r := []) zk_7_37 rfl rfl rfl rfl rfl rfl (Or.inr ⟨_, _, _, _, rfl, (vd_19 hc), rfl⟩) (fun σ' h => (w_6 c x2 hc (by omega) σ' h.1.1 ).le (Nat.le_of_ble_eq_true rfl) (fun v σ2 ⟨y, h1, h2, h3, h4⟩ => ⟨y, h1, h2, h.1.tr h3 MN_sub, trivial⟩)) (pc' := 40) rfl (fun y12 => ?_)
      refine G_ex (fun hy12 => ?_)
      refine T_st (L' := [(0, av 19 c 0), (1, iv p0), (2, iv p1), (3, iv x2), (4, iv x3), (5, iv y9), (6, iv y12)]) zk_7_40 (nL := 7) rfl rfl rfl rfl rfl (pc' := 42) rfl ?_
      refine T_ld zk_7_42 rfl rfl rfl (pc' := 44) rfl ?_
      refine T_ld zk_7_44 rfl rfl rfl (pc' := 45) rfl ?_
      refine T_icmp_ne zk_7_45 (by omega) (by omega) (pc' := 48) rfl (fun h13 => ?_) (fun h14 => ?_)
      ·
        refine T_ld zk_7_50 rfl rfl rfl (pc' := 52) rfl ?_
        refine T_st (L' := [(0, av 19 c 0), (1, iv p0), (2, iv p1), (3, iv y12), (4, iv x3), (5, iv y9), (6, iv y12)]) zk_7_52 (nL := 7) rfl rfl rfl rfl rfl (pc' := 53) rfl ?_
        refine T_iinc (L' := [(0, av 19 c 0), (1, iv p0), (2, iv p1), (3, iv y12), (4, iv (x3 + 1)), (5, iv y9), (6, iv y12)]) zk_7_53 (nL := 7) rfl rfl rfl rfl (pc' := 56) rfl ?_
        refine T_goto zk_7_56 ?_
        refine T_loc (L := [(0, av 19 c 0), (1, iv p0), (2, iv p1), (3, iv y12), (4, iv (x3 + 1))]) (E := [(5, iv y9), (6, iv y12)]) rfl ?_
        exact ih4 y12 (x3 + 1) (by omega) (by omega)
      ·
        refine T_op zk_7_48 rfl X_ic (pc' := 49) rfl ?_
        exact T_iret zk_7_49 rfl (fun σ' h => ⟨_, rfl, (by omega), h.1, trivial⟩)
    ·
      refine T_ld zk_7_29 rfl rfl rfl (pc' := 31) rfl ?_
      refine T_calli (K := fun y15 σ' => (-1 ≤ y15 ∧ y15 ≤ 24) ∧ (fun σ' => IF MN σ σ' ∧ True) σ') (r := []) zk_7_31 rfl rfl rfl rfl rfl rfl (Or.inl (Or.inl rfl)) (fun σ' h => (w_8 y9 (by omega) σ' h.1.1 ).le (Nat.le_of_ble_eq_true rfl) (fun v σ2 ⟨y, h1, h2, h3, h4⟩ => ⟨y, h1, h2, h.1.tr h3 MN_sub, trivial⟩)) (pc' := 34) rfl (fun y15 => ?_)
      refine G_ex (fun hy15 => ?_)
      exact T_iret zk_7_34 rfl (fun σ' h => ⟨_, rfl, (by omega), h.1, trivial⟩)
/-- W$City.nextCell -/
theorem w_17 {xs : Nat × (Nat → Int32)} (c : Nat) (k : Nat) (hc : c < 3) (hk : k < 6) (σ : ZS) (hI : Inv σ)   : CT xs 4 17 [av 1 c 0, av 26 c k] σ (fun v σ' => ∃ y, v = some (iv y) ∧ (-1 ≤ y ∧ y ≤ 24) ∧ IF (MI c 20 20 20 20) σ σ' ∧ (True)) := by
  refine G_ct (J := (fun σ' => IF (MI c 20 20 20 20) σ σ' ∧ True)) (L := [(0, av 1 c 0), (1, av 26 c k)]) (nL := 2) rfl rfl rfl ⟨IF.rf hI, trivial⟩ ?_
  refine T_ld zk_17_0 rfl rfl rfl (pc' := 1) rfl ?_
  refine G_getf (lo := -1) (hi := 24) zk_17_1 rfl (vd_26 hc (by omega)) (fun σ' h => h.1.1) (fun _ h => h.2.2 (by omega) (by omega)) (pc' := 4) rfl (fun y1 hy1 hy1' => ?_)
  refine T_op zk_17_4 rfl X_ic (pc' := 5) rfl ?_
  refine T_icmp_ne zk_17_5 (by omega) (by omega) (pc' := 8) rfl (fun h2 => ?_) (fun h3 => ?_)
  ·
    refine T_ld zk_17_10 rfl rfl rfl (pc' := 11) rfl ?_
    refine T_getR (t' := 19) (i' := c) (k' := 0) zk_17_11 rfl rfl rfl (vd_1 hc) (pc' := 14) rfl ?_
    refine T_ld zk_17_14 rfl rfl rfl (pc' := 15) rfl ?_
    refine T_getR (t' := 2) (i' := c) (k' := 0) zk_17_15 rfl rfl rfl (vd_1 hc) (pc' := 18) rfl ?_
    refine T_ld zk_17_18 rfl rfl rfl (pc' := 19) rfl ?_
    refine T_callv (J' := (fun σ' => IF (MI c 20 20 20 20) σ σ' ∧ True)) (r := []) zk_17_19 rfl rfl rfl rfl rfl rfl (Or.inr ⟨_, _, _, _, rfl, (vd_19 hc), rfl⟩) (fun σ' h => (w_5 c c k hc hc (by omega) σ' h.1.1 ).le (Nat.le_of_ble_eq_true rfl) (fun v σ2 ⟨h1, h3, h4⟩ => ⟨h1, h.1.tr h3 (fun _ _ _ _ h => h), trivial⟩)) (pc' := 22) rfl ?_
    refine T_ld zk_17_22 rfl rfl rfl (pc' := 23) rfl ?_
    refine T_getR (t' := 19) (i' := c) (k' := 0) zk_17_23 rfl rfl rfl (vd_1 hc) (pc' := 26) rfl ?_
    refine T_ld zk_17_26 rfl rfl rfl (pc' := 27) rfl ?_
    refine G_getf (lo := 0) (hi := 24) zk_17_27 rfl (vd_26 hc (by omega)) (fun σ' h => h.1.1) (fun _ h => h.2.1 (by omega) (by omega)) (pc' := 30) rfl (fun y5 hy5 hy5' => ?_)
    refine T_ld zk_17_30 rfl rfl rfl (pc' := 31) rfl ?_
    refine G_getf (lo := -1) (hi := 24) zk_17_31 rfl (vd_26 hc (by omega)) (fun σ' h => h.1.1) (fun _ h => h.2.2 (by omega) (by omega)) (pc' := 34) rfl (fun y6 hy6 hy6' => ?_)
    refine T_calli (K := fun y7 σ' => (-1 ≤ y7 ∧ y7 ≤ 24) ∧ (fun σ' => IF (MI c 20 20 20 20) σ σ' ∧ True) σ') (r := []) zk_17_34 rfl rfl rfl rfl rfl rfl (Or.inr ⟨_, _, _, _, rfl, (vd_19 hc), rfl⟩) (fun σ' h => (w_7 c y5 y6 hc (by omega) (by omega) σ' h.1.1 ).le (Nat.le_of_ble_eq_true rfl) (fun v σ2 ⟨y, h1, h2, h3, h4⟩ => ⟨y, h1, h2, h.1.tr h3 MN_sub, trivial⟩)) (pc' := 37) rfl (fun y7 => ?_)
    refine G_ex (fun hy7 => ?_)
    exact T_iret zk_17_37 rfl (fun σ' h => ⟨_, rfl, (by omega), h.1, trivial⟩)
  ·
    refine T_op zk_17_8 rfl X_ic (pc' := 9) rfl ?_
    exact T_iret zk_17_9 rfl (fun σ' h => ⟨_, rfl, (by omega), h.1, trivial⟩)
/-- W$Lagoon.wear -/
theorem w_37 {xs : Nat × (Nat → Int32)} (c : Nat) (p0 : Int) (p1 : Int) (hc : c < 3) (hp0 : 0 ≤ p0 ∧ p0 ≤ 24) (hp1 : -2147483648 ≤ p1 ∧ p1 ≤ 2147483647) (σ : ZS) (hI : Inv σ)   : CT xs 1 37 [av 2 c 0, iv p0, iv p1] σ (fun v σ' => ∃ y, v = some (iv y) ∧ (-2147483648 ≤ y ∧ y ≤ 2147483647) ∧ IF (MI c 5 5 5 5) σ σ' ∧ (True)) := by
  refine G_ct (J := (fun σ' => IF (MI c 5 5 5 5) σ σ' ∧ True)) (L := [(0, av 2 c 0), (1, iv p0), (2, iv p1)]) (nL := 4) rfl rfl rfl ⟨IF.rf hI, trivial⟩ ?_
  refine T_ld zk_37_0 rfl rfl rfl (pc' := 1) rfl ?_
  refine T_getR (t' := 5) (i' := c) (k' := 0) zk_37_1 rfl rfl rfl (vd_2 hc) (pc' := 4) rfl ?_
  refine T_ld zk_37_4 rfl rfl rfl (pc' := 5) rfl ?_
  refine G_iald (lo := -2147483648) (hi := 2147483647) (ln := 25) zk_37_5 rfl rfl (vd_5 hc) (by omega) (by omega) (by omega) (fun σ' h => h.1.1) (fun _ h => (by have q := h.1; omega)) (pc' := 6) rfl (fun y1 hy1 hy1' => ?_)
  refine T_ld zk_37_6 rfl rfl rfl (pc' := 7) rfl ?_
  refine T_ld zk_37_7 rfl rfl rfl (pc' := 8) rfl ?_
  refine G_unk zk_37_8 rfl (pc' := 9) rfl (fun y2 hy2 hy2' => ?_)
  refine T_op zk_37_9 rfl X_ic (pc' := 10) rfl ?_
  refine G_unkD zk_37_10 (by first | exact Or.inl rfl | exact Or.inr rfl) (by omega) (pc' := 11) rfl (fun y3 hy3 hy3' => ?_)
  refine T_min zk_37_11 rfl (by omega) (by omega) rfl (pc' := 14) rfl (fun y4 hy4 hy4' ey4 => ?_)
  refine T_st (L' := [(0, av 2 c 0), (1, iv p0), (2, iv p1), (3, iv y4)]) zk_37_14 (nL := 4) rfl rfl rfl rfl rfl (pc' := 15) rfl ?_
  refine T_ld zk_37_15 rfl rfl rfl (pc' := 16) rfl ?_
  refine T_getR (t' := 5) (i' := c) (k' := 0) zk_37_16 rfl rfl rfl (vd_2 hc) (pc' := 19) rfl ?_
  refine T_ld zk_37_19 rfl rfl rfl (pc' := 20) rfl ?_
  refine T_op (st' := [iv p0, av 5 c 0, iv p0, av 5 c 0]) zk_37_20 rfl rfl (pc' := 21) rfl ?_
  refine G_iald (lo := -2147483648) (hi := 2147483647) (ln := 25) zk_37_21 rfl rfl (vd_5 hc) (by omega) (by omega) (by omega) (fun σ' h => h.1.1) (fun _ h => (by have q := h.1; omega)) (pc' := 22) rfl (fun y5 hy5 hy5' => ?_)
  refine T_ld zk_37_22 rfl rfl rfl (pc' := 23) rfl ?_
  refine G_unk zk_37_23 rfl (pc' := 24) rfl (fun y6 hy6 hy6' => ?_)
  refine G_iast (J' := (fun σ' => IF (MI c 5 5 5 5) σ σ' ∧ True)) (ln := 25) zk_37_24 rfl rfl (vd_5 hc) (by omega) (by omega) (by omega) (fun σ' h => ⟨h.1.up ⟨by omega, trivial⟩ (by unfold MI; omega), trivial⟩) (pc' := 25) rfl ?_
  refine T_ld zk_37_25 rfl rfl rfl (pc' := 26) rfl ?_
  exact T_iret zk_37_26 rfl (fun σ' h => ⟨_, rfl, (by omega), h.1, trivial⟩)
theorem sb51_a5f30c7 (v0 : Nat) : ∀ t i k j, MI v0 20 20 20 20 t i k j → ML v0 t i k j := by
  intro t i k j h
  unfold MI at h
  unfold ML
  omega
theorem sb51_0503f7a (v0 : Nat) : ∀ t i k j, MI v0 5 5 5 5 t i k j → ML v0 t i k j := by
  intro t i k j h
  unfold MI at h
  unfold ML
  omega
/-- W$City.sailOne -/
theorem w_16 {xs : Nat × (Nat → Int32)} (c : Nat) (k : Nat) (hc : c < 3) (hk : k < 6) (σ : ZS) (hI : Inv σ)   : CT xs 5 16 [av 1 c 0, av 26 c k] σ (fun v σ' => v = none ∧ IF (ML c) σ σ' ∧ (True)) := by
  refine G_ct (J := (fun σ' => IF (ML c) σ σ' ∧ True)) (L := [(0, av 1 c 0), (1, av 26 c k)]) (nL := 4) rfl rfl rfl ⟨IF.rf hI, trivial⟩ ?_
  refine T_ld zk_16_0 rfl rfl rfl (pc' := 1) rfl ?_
  refine T_ld zk_16_1 rfl rfl rfl (pc' := 2) rfl ?_
  refine T_calli (K := fun y1 σ' => (-1 ≤ y1 ∧ y1 ≤ 24) ∧ (fun σ' => IF (ML c) σ σ' ∧ True) σ') (r := []) zk_16_2 rfl rfl rfl rfl rfl rfl (Or.inr ⟨_, _, _, _, rfl, (vd_1 hc), rfl⟩) (fun σ' h => (w_17 c k hc (by omega) σ' h.1.1 ).le (Nat.le_of_ble_eq_true rfl) (fun v σ2 ⟨y, h1, h2, h3, h4⟩ => ⟨y, h1, h2, h.1.tr h3 (sb51_a5f30c7 c), trivial⟩)) (pc' := 5) rfl (fun y1 => ?_)
  refine G_ex (fun hy1 => ?_)
  refine T_st (L' := [(0, av 1 c 0), (1, av 26 c k), (2, iv y1)]) zk_16_5 (nL := 4) rfl rfl rfl rfl rfl (pc' := 6) rfl ?_
  refine T_ld zk_16_6 rfl rfl rfl (pc' := 7) rfl ?_
  refine G_getf (lo := 0) (hi := 24) zk_16_7 rfl (vd_26 hc (by omega)) (fun σ' h => h.1.1) (fun _ h => h.2.1 (by omega) (by omega)) (pc' := 10) rfl (fun y2 hy2 hy2' => ?_)
  refine T_ld zk_16_10 rfl rfl rfl (pc' := 11) rfl ?_
  refine T_calli (K := fun y3 σ' => ((y3 = -1 ∧ ¬ (0 ≤ y2 ∧ y2 ≤ 24 ∧ 0 ≤ y1 ∧ y1 ≤ 24 ∧ (y1 = y2 + 5 ∨ y2 = y1 + 5 ∨ (y1 = y2 + 1 ∧ y2 % 5 < 4) ∨ (y2 = y1 + 1 ∧ y1 % 5 < 4)))) ∨ (0 ≤ y3 ∧ y3 ≤ 39 ∧ (0 ≤ y2 ∧ y2 ≤ 24 ∧ 0 ≤ y1 ∧ y1 ≤ 24 ∧ (y1 = y2 + 5 ∨ y2 = y1 + 5 ∨ (y1 = y2 + 1 ∧ y2 % 5 < 4) ∨ (y2 = y1 + 1 ∧ y1 % 5 < 4))))) ∧ (fun σ' => IF (ML c) σ σ' ∧ True) σ') (r := []) zk_16_11 rfl rfl rfl rfl rfl rfl (Or.inl (Or.inl rfl)) (fun σ' h => (w_30 y2 y1 (by omega) (by omega) σ' h.1.1 ).le (Nat.le_of_ble_eq_true rfl) (fun v σ2 ⟨y, h1, h2, h3, h4⟩ => ⟨y, h1, h2, h.1.tr h3 MN_sub, trivial⟩)) (pc' := 14) rfl (fun y3 => ?_)
  refine G_ex (fun hy3 => ?_)
  refine T_st (L' := [(0, av 1 c 0), (1, av 26 c k), (2, iv y1), (3, iv y3)]) zk_16_14 (nL := 4) rfl rfl rfl rfl rfl (pc' := 15) rfl ?_
  refine T_ld zk_16_15 rfl rfl rfl (pc' := 16) rfl ?_
  refine T_op zk_16_16 rfl X_ic (pc' := 17) rfl ?_
  refine T_icmp_eq zk_16_17 (by omega) (by omega) (pc' := 20) rfl (fun h4 => ?_) (fun h5 => ?_)
  ·
    refine T_ld zk_16_41 rfl rfl rfl (pc' := 42) rfl ?_
    refine T_op (st' := [av 26 c k, av 26 c k]) zk_16_42 rfl rfl (pc' := 43) rfl ?_
    refine G_getf (lo := -2147483648) (hi := 2147483647) zk_16_43 rfl (vd_26 hc (by omega)) (fun σ' h => h.1.1) (fun _ h => (by have q := h.1; omega)) (pc' := 46) rfl (fun y6 hy6 hy6' => ?_)
    refine T_op zk_16_46 rfl X_ic (pc' := 47) rfl ?_
    refine G_unk zk_16_47 rfl (pc' := 48) rfl (fun y7 hy7 hy7' => ?_)
    refine T_putf (J' := (fun σ' => IF (ML c) σ σ' ∧ σ' 26 c k 6 = y7 ∧ True)) zk_16_48 rfl rfl (vd_26 hc (by omega)) (fun σ' h => ⟨h.1.up (by simp only [rgP] <;> omega) (by unfold ML; omega), up_eq, trivial⟩) (pc' := 51) rfl ?_
    exact T_vret zk_16_51 rfl (fun σ' h => ⟨rfl, h.1, trivial⟩)
  ·
    refine T_ld zk_16_20 rfl rfl rfl (pc' := 21) rfl ?_
    refine T_getR (t' := 2) (i' := c) (k' := 0) zk_16_21 rfl rfl rfl (vd_1 hc) (pc' := 24) rfl ?_
    refine T_getR (t' := 9) (i' := c) (k' := 0) zk_16_24 rfl rfl rfl (vd_2 hc) (pc' := 27) rfl ?_
    refine T_ld zk_16_27 rfl rfl rfl (pc' := 28) rfl ?_
    refine G_bald (lo := 0) (hi := 1) (ln := 40) zk_16_28 rfl rfl (vd_9 hc) (by omega) (by omega) (by omega) (fun σ' h => h.1.1) (fun _ h => h.2 (by omega) (by omega)) (pc' := 29) rfl (fun y8 hy8 hy8' => ?_)
    refine T_if_eq zk_16_29 (by omega) (pc' := 32) rfl (fun h9 => ?_) (fun h10 => ?_)
    ·
      refine T_ld zk_16_52 rfl rfl rfl (pc' := 53) rfl ?_
      refine T_getR (t' := 22) (i' := c) (k' := 0) zk_16_53 rfl rfl rfl (vd_1 hc) (pc' := 56) rfl ?_
      refine T_ld zk_16_56 rfl rfl rfl (pc' := 57) rfl ?_
      refine T_op zk_16_57 rfl X_ic (pc' := 58) rfl ?_
      refine G_bast (J' := (fun σ' => IF (ML c) σ σ' ∧ True)) (ln := 40) zk_16_58 rfl rfl (by omega) (vd_22 hc) (by omega) (by omega) (by omega) (fun σ' h => ⟨h.1.up (by simp only [rgP] <;> omega) (by unfold ML; omega), trivial⟩) (pc' := 59) rfl ?_
      refine T_ld zk_16_59 rfl rfl rfl (pc' := 60) rfl ?_
      refine T_ld zk_16_60 rfl rfl rfl (pc' := 61) rfl ?_
      refine T_putf (J' := (fun σ' => IF (ML c) σ σ' ∧ σ' 26 c k 0 = y1 ∧ True)) zk_16_61 rfl rfl (vd_26 hc (by omega)) (fun σ' h => ⟨h.1.up (by simp only [rgP] <;> omega) (by unfold ML; omega), up_eq, trivial⟩) (pc' := 64) rfl ?_
      refine T_ld zk_16_64 rfl rfl rfl (pc' := 65) rfl ?_
      refine T_op (st' := [av 26 c k, av 26 c k]) zk_16_65 rfl rfl (pc' := 66) rfl ?_
      refine G_getf (lo := -2147483648) (hi := 2147483647) zk_16_66 rfl (vd_26 hc (by omega)) (fun σ' h => h.1.1) (fun _ h => (by have q := h.1; omega)) (pc' := 69) rfl (fun y11 hy11 hy11' => ?_)
      refine T_op zk_16_69 rfl X_ic (pc' := 70) rfl ?_
      refine G_unk zk_16_70 rfl (pc' := 71) rfl (fun y12 hy12 hy12' => ?_)
      refine T_putf (J' := (fun σ' => IF (ML c) σ σ' ∧ σ' 26 c k 0 = y1 ∧ σ' 26 c k 9 = y12 ∧ True)) zk_16_71 rfl rfl (vd_26 hc (by omega)) (fun σ' h => ⟨h.1.up (by simp only [rgP] <;> omega) (by unfold ML; omega), (up_ne (by omega)).trans (h.2.1), up_eq, trivial⟩) (pc' := 74) rfl ?_
      refine T_ld zk_16_74 rfl rfl rfl (pc' := 75) rfl ?_
      refine T_op (st' := [av 26 c k, av 26 c k]) zk_16_75 rfl rfl (pc' := 76) rfl ?_
      refine G_getf (lo := -2147483648) (hi := 2147483647) zk_16_76 rfl (vd_26 hc (by omega)) (fun σ' h => h.1.1) (fun _ h => (by have q := h.1; omega)) (pc' := 79) rfl (fun y13 hy13 hy13' => ?_)
      refine T_ld zk_16_79 rfl rfl rfl (pc' := 80) rfl ?_
      refine T_getR (t' := 2) (i' := c) (k' := 0) zk_16_80 rfl rfl rfl (vd_1 hc) (pc' := 83) rfl ?_
      refine T_ld zk_16_83 rfl rfl rfl (pc' := 84) rfl ?_
      refine T_ld zk_16_84 rfl rfl rfl (pc' := 85) rfl ?_
      refine G_getf (lo := -2147483648) (hi := 2147483647) zk_16_85 rfl (vd_26 hc (by omega)) (fun σ' h => h.1.1) (fun _ h => (by have q := h.1; omega)) (pc' := 88) rfl (fun y14 hy14 hy14' => ?_)
      refine T_ld zk_16_88 rfl rfl rfl (pc' := 89) rfl ?_
      refine G_getf (lo := 1) (hi := 9) zk_16_89 rfl (vd_1 hc) (fun σ' h => h.1.1) (fun _ h => h.2.2.2.2.2.1 (by omega) (by omega)) (pc' := 92) rfl (fun y15 hy15 hy15' => ?_)
      refine T_min zk_16_92 rfl (by omega) (by omega) rfl (pc' := 95) rfl (fun y16 hy16 hy16' ey16 => ?_)
      refine T_calli (K := fun y17 σ' => (-2147483648 ≤ y17 ∧ y17 ≤ 2147483647) ∧ (fun σ' => IF (ML c) σ σ' ∧ σ' 26 c k 0 = y1 ∧ σ' 26 c k 9 = y12 ∧ True) σ') (r := [iv y13, av 26 c k]) zk_16_95 rfl rfl rfl rfl rfl rfl (Or.inr ⟨_, _, _, _, rfl, (vd_2 hc), rfl⟩) (fun σ' h => (w_37 c y1 y16 hc (by omega) (by omega) σ' h.1.1 ).le (Nat.le_of_ble_eq_true rfl) (fun v σ2 ⟨y, h1, h2, h3, h4⟩ => ⟨y, h1, h2, h.1.tr h3 (sb51_0503f7a c), (h3.2 _ _ _ _ (by first | exact nMI rfl | (unfold MI; omega))).trans (h.2.1), (h3.2 _ _ _ _ (by first | exact nMI rfl | (unfold MI; omega))).trans (h.2.2.1), trivial⟩)) (pc' := 98) rfl (fun y17 => ?_)
      refine G_ex (fun hy17 => ?_)
      refine G_unk zk_16_98 rfl (pc' := 99) rfl (fun y18 hy18 hy18' => ?_)
      refine T_putf (J' := (fun σ' => IF (ML c) σ σ' ∧ σ' 26 c k 0 = y1 ∧ σ' 26 c k 9 = y12 ∧ σ' 26 c k 8 = y18 ∧ True)) zk_16_99 rfl rfl (vd_26 hc (by omega)) (fun σ' h => ⟨h.1.up (by simp only [rgP] <;> omega) (by unfold ML; omega), (up_ne (by omega)).trans (h.2.1), (up_ne (by omega)).trans (h.2.2.1), up_eq, trivial⟩) (pc' := 102) rfl ?_
      refine T_ld zk_16_102 rfl rfl rfl (pc' := 103) rfl ?_
      refine T_ld zk_16_103 rfl rfl rfl (pc' := 104) rfl ?_
      refine G_getf (lo := -1) (hi := 24) zk_16_104 rfl (vd_26 hc (by omega)) (fun σ' h => h.1.1) (fun _ h => h.2.2 (by omega) (by omega)) (pc' := 107) rfl (fun y19 hy19 hy19' => ?_)
      refine T_icmp_ne zk_16_107 (by omega) (by omega) (pc' := 110) rfl (fun h20 => ?_) (fun h21 => ?_)
      ·
        exact T_vret zk_16_125 rfl (fun σ' h => ⟨rfl, h.1, trivial⟩)
      ·
        refine T_ld zk_16_110 rfl rfl rfl (pc' := 111) rfl ?_
        refine T_op zk_16_111 rfl X_ic (pc' := 112) rfl ?_
        refine T_putf (J' := (fun σ' => IF (ML c) σ σ' ∧ σ' 26 c k 0 = y1 ∧ σ' 26 c k 9 = y12 ∧ σ' 26 c k 8 = y18 ∧ σ' 26 c k 5 = (-1) ∧ True)) zk_16_112 rfl rfl (vd_26 hc (by omega)) (fun σ' h => ⟨h.1.up (by simp only [rgP] <;> omega) (by unfold ML; omega), (up_ne (by omega)).trans (h.2.1), (up_ne (by omega)).trans (h.2.2.1), (up_ne (by omega)).trans (h.2.2.2.1), up_eq, trivial⟩) (pc' := 115) rfl ?_
        refine T_ld zk_16_115 rfl rfl rfl (pc' := 116) rfl ?_
        refine T_op (st' := [av 26 c k, av 26 c k]) zk_16_116 rfl rfl (pc' := 117) rfl ?_
        refine G_getf (lo := -2147483648) (hi := 2147483647) zk_16_117 rfl (vd_26 hc (by omega)) (fun σ' h => h.1.1) (fun _ h => (by have q := h.1; omega)) (pc' := 120) rfl (fun y22 hy22 hy22' => ?_)
        refine T_op zk_16_120 rfl X_ic (pc' := 121) rfl ?_
        refine G_unk zk_16_121 rfl (pc' := 122) rfl (fun y23 hy23 hy23' => ?_)
        refine T_putf (J' := (fun σ' => IF (ML c) σ σ' ∧ σ' 26 c k 0 = y1 ∧ σ' 26 c k 9 = y12 ∧ σ' 26 c k 8 = y18 ∧ σ' 26 c k 5 = (-1) ∧ σ' 26 c k 7 = y23 ∧ True)) zk_16_122 rfl rfl (vd_26 hc (by omega)) (fun σ' h => ⟨h.1.up (by simp only [rgP] <;> omega) (by unfold ML; omega), (up_ne (by omega)).trans (h.2.1), (up_ne (by omega)).trans (h.2.2.1), (up_ne (by omega)).trans (h.2.2.2.1), (up_ne (by omega)).trans (h.2.2.2.2.1), up_eq, trivial⟩) (pc' := 125) rfl ?_
        exact T_vret zk_16_125 rfl (fun σ' h => ⟨rfl, h.1, trivial⟩)
    ·
      refine T_ld zk_16_32 rfl rfl rfl (pc' := 33) rfl ?_
      refine T_getR (t' := 22) (i' := c) (k' := 0) zk_16_33 rfl rfl rfl (vd_1 hc) (pc' := 36) rfl ?_
      refine T_ld zk_16_36 rfl rfl rfl (pc' := 37) rfl ?_
      refine G_bald (lo := 0) (hi := 1) (ln := 40) zk_16_37 rfl rfl (vd_22 hc) (by omega) (by omega) (by omega) (fun σ' h => h.1.1) (fun _ h => h.2 (by omega) (by omega)) (pc' := 38) rfl (fun y24 hy24 hy24' => ?_)
      refine T_if_eq zk_16_38 (by omega) (pc' := 41) rfl (fun h25 => ?_) (fun h26 => ?_)
      ·
        refine T_ld zk_16_52 rfl rfl rfl (pc' := 53) rfl ?_
        refine T_getR (t' := 22) (i' := c) (k' := 0) zk_16_53 rfl rfl rfl (vd_1 hc) (pc' := 56) rfl ?_
        refine T_ld zk_16_56 rfl rfl rfl (pc' := 57) rfl ?_
        refine T_op zk_16_57 rfl X_ic (pc' := 58) rfl ?_
        refine G_bast (J' := (fun σ' => IF (ML c) σ σ' ∧ True)) (ln := 40) zk_16_58 rfl rfl (by omega) (vd_22 hc) (by omega) (by omega) (by omega) (fun σ' h => ⟨h.1.up (by simp only [rgP] <;> omega) (by unfold ML; omega), trivial⟩) (pc' := 59) rfl ?_
        refine T_ld zk_16_59 rfl rfl rfl (pc' := 60) rfl ?_
        refine T_ld zk_16_60 rfl rfl rfl (pc' := 61) rfl ?_
        refine T_putf (J' := (fun σ' => IF (ML c) σ σ' ∧ σ' 26 c k 0 = y1 ∧ True)) zk_16_61 rfl rfl (vd_26 hc (by omega)) (fun σ' h => ⟨h.1.up (by simp only [rgP] <;> omega) (by unfold ML; omega), up_eq, trivial⟩) (pc' := 64) rfl ?_
        refine T_ld zk_16_64 rfl rfl rfl (pc' := 65) rfl ?_
        refine T_op (st' := [av 26 c k, av 26 c k]) zk_16_65 rfl rfl (pc' := 66) rfl ?_
        refine G_getf (lo := -2147483648) (hi := 2147483647) zk_16_66 rfl (vd_26 hc (by omega)) (fun σ' h => h.1.1) (fun _ h => (by have q := h.1; omega)) (pc' := 69) rfl (fun y27 hy27 hy27' => ?_)
        refine T_op zk_16_69 rfl X_ic (pc' := 70) rfl ?_
        refine G_unk zk_16_70 rfl (pc' := 71) rfl (fun y28 hy28 hy28' => ?_)
        refine T_putf (J' := (fun σ' => IF (ML c) σ σ' ∧ σ' 26 c k 0 = y1 ∧ σ' 26 c k 9 = y28 ∧ True)) zk_16_71 rfl rfl (vd_26 hc (by omega)) (fun σ' h => ⟨h.1.up (by simp only [rgP] <;> omega) (by unfold ML; omega), (up_ne (by omega)).trans (h.2.1), up_eq, trivial⟩) (pc' := 74) rfl ?_
        refine T_ld zk_16_74 rfl rfl rfl (pc' := 75) rfl ?_
        refine T_op (st' := [av 26 c k, av 26 c k]) zk_16_75 rfl rfl (pc' := 76) rfl ?_
        refine G_getf (lo := -2147483648) (hi := 2147483647) zk_16_76 rfl (vd_26 hc (by omega)) (fun σ' h => h.1.1) (fun _ h => (by have q := h.1; omega)) (pc' := 79) rfl (fun y29 hy29 hy29' => ?_)
        refine T_ld zk_16_79 rfl rfl rfl (pc' := 80) rfl ?_
        refine T_getR (t' := 2) (i' := c) (k' := 0) zk_16_80 rfl rfl rfl (vd_1 hc) (pc' := 83) rfl ?_
        refine T_ld zk_16_83 rfl rfl rfl (pc' := 84) rfl ?_
        refine T_ld zk_16_84 rfl rfl rfl (pc' := 85) rfl ?_
        refine G_getf (lo := -2147483648) (hi := 2147483647) zk_16_85 rfl (vd_26 hc (by omega)) (fun σ' h => h.1.1) (fun _ h => (by have q := h.1; omega)) (pc' := 88) rfl (fun y30 hy30 hy30' => ?_)
        refine T_ld zk_16_88 rfl rfl rfl (pc' := 89) rfl ?_
        refine G_getf (lo := 1) (hi := 9) zk_16_89 rfl (vd_1 hc) (fun σ' h => h.1.1) (fun _ h => h.2.2.2.2.2.1 (by omega) (by omega)) (pc' := 92) rfl (fun y31 hy31 hy31' => ?_)
        refine T_min zk_16_92 rfl (by omega) (by omega) rfl (pc' := 95) rfl (fun y32 hy32 hy32' ey32 => ?_)
        refine T_calli (K := fun y33 σ' => (-2147483648 ≤ y33 ∧ y33 ≤ 2147483647) ∧ (fun σ' => IF (ML c) σ σ' ∧ σ' 26 c k 0 = y1 ∧ σ' 26 c k 9 = y28 ∧ True) σ') (r := [iv y29, av 26 c k]) zk_16_95 rfl rfl rfl rfl rfl rfl (Or.inr ⟨_, _, _, _, rfl, (vd_2 hc), rfl⟩) (fun σ' h => (w_37 c y1 y32 hc (by omega) (by omega) σ' h.1.1 ).le (Nat.le_of_ble_eq_true rfl) (fun v σ2 ⟨y, h1, h2, h3, h4⟩ => ⟨y, h1, h2, h.1.tr h3 (sb51_0503f7a c), (h3.2 _ _ _ _ (by first | exact nMI rfl | (unfold MI; omega))).trans (h.2.1), (h3.2 _ _ _ _ (by first | exact nMI rfl | (unfold MI; omega))).trans (h.2.2.1), trivial⟩)) (pc' := 98) rfl (fun y33 => ?_)
        refine G_ex (fun hy33 => ?_)
        refine G_unk zk_16_98 rfl (pc' := 99) rfl (fun y34 hy34 hy34' => ?_)
        refine T_putf (J' := (fun σ' => IF (ML c) σ σ' ∧ σ' 26 c k 0 = y1 ∧ σ' 26 c k 9 = y28 ∧ σ' 26 c k 8 = y34 ∧ True)) zk_16_99 rfl rfl (vd_26 hc (by omega)) (fun σ' h => ⟨h.1.up (by simp only [rgP] <;> omega) (by unfold ML; omega), (up_ne (by omega)).trans (h.2.1), (up_ne (by omega)).trans (h.2.2.1), up_eq, trivial⟩) (pc' := 102) rfl ?_
        refine T_ld zk_16_102 rfl rfl rfl (pc' := 103) rfl ?_
        refine T_ld zk_16_103 rfl rfl rfl (pc' := 104) rfl ?_
        refine G_getf (lo := -1) (hi := 24) zk_16_104 rfl (vd_26 hc (by omega)) (fun σ' h => h.1.1) (fun _ h => h.2.2 (by omega) (by omega)) (pc' := 107) rfl (fun y35 hy35 hy35' => ?_)
        refine T_icmp_ne zk_16_107 (by omega) (by omega) (pc' := 110) rfl (fun h36 => ?_) (fun h37 => ?_)
        ·
          exact T_vret zk_16_125 rfl (fun σ' h => ⟨rfl, h.1, trivial⟩)
        ·
          refine T_ld zk_16_110 rfl rfl rfl (pc' := 111) rfl ?_
          refine T_op zk_16_111 rfl X_ic (pc' := 112) rfl ?_
          refine T_putf (J' := (fun σ' => IF (ML c) σ σ' ∧ σ' 26 c k 0 = y1 ∧ σ' 26 c k 9 = y28 ∧ σ' 26 c k 8 = y34 ∧ σ' 26 c k 5 = (-1) ∧ True)) zk_16_112 rfl rfl (vd_26 hc (by omega)) (fun σ' h => ⟨h.1.up (by simp only [rgP] <;> omega) (by unfold ML; omega), (up_ne (by omega)).trans (h.2.1), (up_ne (by omega)).trans (h.2.2.1), (up_ne (by omega)).trans (h.2.2.2.1), up_eq, trivial⟩) (pc' := 115) rfl ?_
          refine T_ld zk_16_115 rfl rfl rfl (pc' := 116) rfl ?_
          refine T_op (st' := [av 26 c k, av 26 c k]) zk_16_116 rfl rfl (pc' := 117) rfl ?_
          refine G_getf (lo := -2147483648) (hi := 2147483647) zk_16_117 rfl (vd_26 hc (by omega)) (fun σ' h => h.1.1) (fun _ h => (by have q := h.1; omega)) (pc' := 120) rfl (fun y38 hy38 hy38' => ?_)
          refine T_op zk_16_120 rfl X_ic (pc' := 121) rfl ?_
          refine G_unk zk_16_121 rfl (pc' := 122) rfl (fun y39 hy39 hy39' => ?_)
          refine T_putf (J' := (fun σ' => IF (ML c) σ σ' ∧ σ' 26 c k 0 = y1 ∧ σ' 26 c k 9 = y28 ∧ σ' 26 c k 8 = y34 ∧ σ' 26 c k 5 = (-1) ∧ σ' 26 c k 7 = y39 ∧ True)) zk_16_122 rfl rfl (vd_26 hc (by omega)) (fun σ' h => ⟨h.1.up (by simp only [rgP] <;> omega) (by unfold ML; omega), (up_ne (by omega)).trans (h.2.1), (up_ne (by omega)).trans (h.2.2.1), (up_ne (by omega)).trans (h.2.2.2.1), (up_ne (by omega)).trans (h.2.2.2.2.1), up_eq, trivial⟩) (pc' := 125) rfl ?_
          exact T_vret zk_16_125 rfl (fun σ' h => ⟨rfl, h.1, trivial⟩)
      ·
        refine T_ld zk_16_41 rfl rfl rfl (pc' := 42) rfl ?_
        refine T_op (st' := [av 26 c k, av 26 c k]) zk_16_42 rfl rfl (pc' := 43) rfl ?_
        refine G_getf (lo := -2147483648) (hi := 2147483647) zk_16_43 rfl (vd_26 hc (by omega)) (fun σ' h => h.1.1) (fun _ h => (by have q := h.1; omega)) (pc' := 46) rfl (fun y40 hy40 hy40' => ?_)
        refine T_op zk_16_46 rfl X_ic (pc' := 47) rfl ?_
        refine G_unk zk_16_47 rfl (pc' := 48) rfl (fun y41 hy41 hy41' => ?_)
        refine T_putf (J' := (fun σ' => IF (ML c) σ σ' ∧ σ' 26 c k 6 = y41 ∧ True)) zk_16_48 rfl rfl (vd_26 hc (by omega)) (fun σ' h => ⟨h.1.up (by simp only [rgP] <;> omega) (by unfold ML; omega), up_eq, trivial⟩) (pc' := 51) rfl ?_
        exact T_vret zk_16_51 rfl (fun σ' h => ⟨rfl, h.1, trivial⟩)
/-- W$City.sailAll -/
theorem w_15 {xs : Nat × (Nat → Int32)} (c : Nat) (hc : c < 3) (σ : ZS) (hI : Inv σ)   : CT xs 6 15 [av 1 c 0] σ (fun v σ' => v = none ∧ IF (ML c) σ σ' ∧ (True)) := by
  refine G_ct (J := (fun σ' => IF (ML c) σ σ' ∧ True)) (L := [(0, av 1 c 0)]) (nL := 3) rfl rfl rfl ⟨IF.rf hI, trivial⟩ ?_
  refine T_op zk_15_0 rfl X_ic (pc' := 1) rfl ?_
  refine T_st (L' := [(0, av 1 c 0), (1, iv 0)]) zk_15_1 (nL := 3) rfl rfl rfl rfl rfl (pc' := 2) rfl ?_
  refine T_loop1 (fun x1 => ((40 - x1 : Int)).toNat) (fun x1 => (0 ≤ x1 ∧ x1 ≤ 40)) (fun x1 => TJ xs (fun σ' => IF (ML c) σ σ' ∧ True) 5 15 2 [(0, av 1 c 0), (1, iv x1)] [] _) ?_ 0 (by omega)
  intro x1 hp3 ih2
  refine T_ld zk_15_2 rfl rfl rfl (pc' := 3) rfl ?_
  refine T_op zk_15_3 rfl (X_bi (v := 40) (by decide)) (pc' := 5) rfl ?_
  refine T_icmp_ge zk_15_5 (by omega) (by omega) (pc' := 8) rfl (fun h4 => ?_) (fun h5 => ?_)
  ·
    refine T_op zk_15_21 rfl (X_bi (v := 9) (by decide)) (pc' := 23) rfl ?_
    refine T_st (L' := [(0, av 1 c 0), (1, iv 9)]) zk_15_23 (nL := 3) rfl rfl rfl rfl rfl (pc' := 24) rfl ?_
    refine T_loop1 (fun x6 => ((x6 + 1 : Int)).toNat) (fun x6 => (-1 ≤ x6 ∧ x6 ≤ 9)) (fun x6 => TJ xs (fun σ' => IF (ML c) σ σ' ∧ True) 5 15 24 [(0, av 1 c 0), (1, iv x6)] [] _) ?_ 9 (by omega)
    intro x6 hp8 ih7
    refine T_ld zk_15_24 rfl rfl rfl (pc' := 25) rfl ?_
    refine T_if_lt zk_15_25 (by omega) (pc' := 28) rfl (fun h9 => ?_) (fun h10 => ?_)
    ·
      exact T_vret zk_15_86 rfl (fun σ' h => ⟨rfl, h.1, trivial⟩)
    ·
      refine T_op zk_15_28 rfl X_ic (pc' := 29) rfl ?_
      refine T_st (L' := [(0, av 1 c 0), (1, iv x6), (2, iv 0)]) zk_15_29 (nL := 3) rfl rfl rfl rfl rfl (pc' := 30) rfl ?_
      refine T_loop1 (fun x11 => ((6 - x11 : Int)).toNat) (fun x11 => (0 ≤ x11 ∧ x11 ≤ 6)) (fun x11 => TJ xs (fun σ' => IF (ML c) σ σ' ∧ True) 5 15 30 [(0, av 1 c 0), (1, iv x6), (2, iv x11)] [] _) ?_ 0 (by omega)
      intro x11 hp13 ih12
      refine T_ld zk_15_30 rfl rfl rfl (pc' := 31) rfl ?_
      refine T_ld zk_15_31 rfl rfl rfl (pc' := 32) rfl ?_
      refine G_getf (lo := 0) (hi := 6) zk_15_32 rfl (vd_1 hc) (fun σ' h => h.1.1) (fun _ h => h.2.2.2.1 (by omega) (by omega)) (pc' := 35) rfl (fun y14 hy14 hy14' => ?_)
      refine T_icmp_ge zk_15_35 (by omega) (by omega) (pc' := 38) rfl (fun h15 => ?_) (fun h16 => ?_)
      ·
        refine T_iinc (L' := [(0, av 1 c 0), (1, iv (x6 + (-1))), (2, iv x11)]) zk_15_80 (nL := 3) rfl rfl rfl rfl (pc' := 83) rfl ?_
        refine T_goto zk_15_83 ?_
        refine T_loc (L := [(0, av 1 c 0), (1, iv (x6 + (-1)))]) (E := [(2, iv x11)]) rfl ?_
        exact ih7 (x6 + (-1)) (by omega) (by omega)
      ·
        refine T_ld zk_15_38 rfl rfl rfl (pc' := 39) rfl ?_
        refine T_getR (t' := 16) (i' := c) (k' := 0) zk_15_39 rfl rfl rfl (vd_1 hc) (pc' := 42) rfl ?_
        refine T_ld zk_15_42 rfl rfl rfl (pc' := 43) rfl ?_
        refine G_aald (t' := 26) (im := 9) (i' := c) (ln := 6) zk_15_43 rfl rfl rfl (vd_16 hc) (by omega) (by omega) (by omega) (pc' := 44) rfl ?_
        refine G_getf (lo := -2147483648) (hi := 2147483647) zk_15_44 rfl (vd_26 hc (by omega)) (fun σ' h => h.1.1) (fun _ h => (by have q := h.1; omega)) (pc' := 47) rfl (fun y17 hy17 hy17' => ?_)
        refine T_ld zk_15_47 rfl rfl rfl (pc' := 48) rfl ?_
        refine T_icmp_ne zk_15_48 (by omega) (by omega) (pc' := 51) rfl (fun h18 => ?_) (fun h19 => ?_)
        ·
          refine T_iinc (L' := [(0, av 1 c 0), (1, iv x6), (2, iv (x11 + 1))]) zk_15_74 (nL := 3) rfl rfl rfl rfl (pc' := 77) rfl ?_
          refine T_goto zk_15_77 ?_
          exact ih12 (x11 + 1) (by omega) (by omega)
        ·
          refine T_ld zk_15_51 rfl rfl rfl (pc' := 52) rfl ?_
          refine T_getR (t' := 16) (i' := c) (k' := 0) zk_15_52 rfl rfl rfl (vd_1 hc) (pc' := 55) rfl ?_
          refine T_ld zk_15_55 rfl rfl rfl (pc' := 56) rfl ?_
          refine G_aald (t' := 26) (im := 9) (i' := c) (ln := 6) zk_15_56 rfl rfl rfl (vd_16 hc) (by omega) (by omega) (by omega) (pc' := 57) rfl ?_
          refine G_getf (lo := -1) (hi := 24) zk_15_57 rfl (vd_26 hc (by omega)) (fun σ' h => h.1.1) (fun _ h => h.2.2 (by omega) (by omega)) (pc' := 60) rfl (fun y20 hy20 hy20' => ?_)
          refine T_op zk_15_60 rfl X_ic (pc' := 61) rfl ?_
          refine T_icmp_eq zk_15_61 (by omega) (by omega) (pc' := 64) rfl (fun h21 => ?_) (fun h22 => ?_)
          ·
            refine T_iinc (L' := [(0, av 1 c 0), (1, iv x6), (2, iv (x11 + 1))]) zk_15_74 (nL := 3) rfl rfl rfl rfl (pc' := 77) rfl ?_
            refine T_goto zk_15_77 ?_
            exact ih12 (x11 + 1) (by omega) (by omega)
          ·
            refine T_ld zk_15_64 rfl rfl rfl (pc' := 65) rfl ?_
            refine T_ld zk_15_65 rfl rfl rfl (pc' := 66) rfl ?_
            refine T_getR (t' := 16) (i' := c) (k' := 0) zk_15_66 rfl rfl rfl (vd_1 hc) (pc' := 69) rfl ?_
            refine T_ld zk_15_69 rfl rfl rfl (pc' := 70) rfl ?_
            refine G_aald (t' := 26) (im := 9) (i' := c) (ln := 6) zk_15_70 rfl rfl rfl (vd_16 hc) (by omega) (by omega) (by omega) (pc' := 71) rfl ?_
            refine T_callv (J' := (fun σ' => IF (ML c) σ σ' ∧ True)) (r := []) zk_15_71 rfl rfl rfl rfl rfl rfl (Or.inr ⟨_, _, _, _, rfl, (vd_1 hc), rfl⟩) (fun σ' h => (w_16 c (Int.toNat x11) hc (by omega) σ' h.1.1 ).le (Nat.le_of_ble_eq_true rfl) (fun v σ2 ⟨h1, h3, h4⟩ => ⟨h1, h.1.tr h3 (fun _ _ _ _ h => h), trivial⟩)) (pc' := 74) rfl ?_
            refine T_iinc (L' := [(0, av 1 c 0), (1, iv x6), (2, iv (x11 + 1))]) zk_15_74 (nL := 3) rfl rfl rfl rfl (pc' := 77) rfl ?_
            refine T_goto zk_15_77 ?_
            exact ih12 (x11 + 1) (by omega) (by omega)
  ·
    refine T_ld zk_15_8 rfl rfl rfl (pc' := 9) rfl ?_
    refine T_getR (t' := 22) (i' := c) (k' := 0) zk_15_9 rfl rfl rfl (vd_1 hc) (pc' := 12) rfl ?_
    refine T_ld zk_15_12 rfl rfl rfl (pc' := 13) rfl ?_
    refine T_op zk_15_13 rfl X_ic (pc' := 14) rfl ?_
    refine G_bast (J' := (fun σ' => IF (ML c) σ σ' ∧ True)) (ln := 40) zk_15_14 rfl rfl (by omega) (vd_22 hc) (by omega) (by omega) (by omega) (fun σ' h => ⟨h.1.up (by simp only [rgP] <;> omega) (by unfold ML; omega), trivial⟩) (pc' := 15) rfl ?_
    refine T_iinc (L' := [(0, av 1 c 0), (1, iv (x1 + 1))]) zk_15_15 (nL := 3) rfl rfl rfl rfl (pc' := 18) rfl ?_
    refine T_goto zk_15_18 ?_
    exact ih2 (x1 + 1) (by omega) (by omega)
/-- W$House.meet -/
theorem w_25 {xs : Nat × (Nat → Int32)} (c : Nat) (k : Nat) (p0 : Int) (hc : c < 3) (hk : k < 12) (hp0 : -2147483648 ≤ p0 ∧ p0 ≤ 2147483647) (σ : ZS) (hI : Inv σ)   : CT xs 1 25 [av 25 c k, iv p0] σ (fun v σ' => v = none ∧ IF (MI c 25 25 25 25) σ σ' ∧ (True)) := by
  refine G_ct (J := (fun σ' => IF (MI c 25 25 25 25) σ σ' ∧ True)) (L := [(0, av 25 c k), (1, iv p0)]) (nL := 2) rfl rfl rfl ⟨IF.rf hI, trivial⟩ ?_
  refine T_ld zk_25_0 rfl rfl rfl (pc' := 1) rfl ?_
  refine T_ld zk_25_1 rfl rfl rfl (pc' := 2) rfl ?_
  refine T_ld zk_25_2 rfl rfl rfl (pc' := 3) rfl ?_
  refine G_getf (lo := -2147483648) (hi := 2147483647) zk_25_3 rfl (vd_25 hc (by omega)) (fun σ' h => h.1.1) (fun _ h => (by have q := h.1; omega)) (pc' := 6) rfl (fun y1 hy1 hy1' => ?_)
  refine T_ld zk_25_6 rfl rfl rfl (pc' := 7) rfl ?_
  refine G_getf (lo := -2147483648) (hi := 2147483647) zk_25_7 rfl (vd_25 hc (by omega)) (fun σ' h => h.1.1) (fun _ h => (by have q := h.1; omega)) (pc' := 10) rfl (fun y2 hy2 hy2' => ?_)
  refine G_unk zk_25_10 rfl (pc' := 11) rfl (fun y3 hy3 hy3' => ?_)
  refine T_icmp_le zk_25_11 (by omega) (by omega) (pc' := 14) rfl (fun h4 => ?_) (fun h5 => ?_)
  ·
    refine T_op zk_25_18 rfl X_ic (pc' := 19) rfl ?_
    refine T_putz (J' := (fun σ' => IF (MI c 25 25 25 25) σ σ' ∧ σ' 25 c k 9 = 0 ∧ True)) zk_25_19 rfl rfl (by omega) (vd_25 hc (by omega)) (fun σ' h => ⟨h.1.up (by simp only [rgP] <;> omega) (by unfold MI; omega), up_eq, trivial⟩) (pc' := 22) rfl ?_
    refine T_ld zk_25_22 rfl rfl rfl (pc' := 23) rfl ?_
    refine G_getX (w := 0) zk_25_23 rfl (vd_25 hc (by omega)) (fun σ' h => h.2.1) (pc' := 26) rfl ?_
    refine T_if_eq zk_25_26 (by omega) (pc' := 29) rfl (fun h6 => ?_) (fun h7 => ?_)
    ·
      refine T_ld zk_25_89 rfl rfl rfl (pc' := 90) rfl ?_
      refine G_getf (lo := -2147483648) (hi := 2147483647) zk_25_90 rfl (vd_25 hc (by omega)) (fun σ' h => h.1.1) (fun _ h => (by have q := h.1; omega)) (pc' := 93) rfl (fun y8 hy8 hy8' => ?_)
      refine T_if_le zk_25_93 (by omega) (pc' := 96) rfl (fun h9 => ?_) (fun h10 => ?_)
      ·
        exact T_vret zk_25_106 rfl (fun σ' h => ⟨rfl, h.1, trivial⟩)
      ·
        refine T_ld zk_25_96 rfl rfl rfl (pc' := 97) rfl ?_
        refine T_op (st' := [av 25 c k, av 25 c k]) zk_25_97 rfl rfl (pc' := 98) rfl ?_
        refine G_getf (lo := -2147483648) (hi := 2147483647) zk_25_98 rfl (vd_25 hc (by omega)) (fun σ' h => h.1.1) (fun _ h => (by have q := h.1; omega)) (pc' := 101) rfl (fun y11 hy11 hy11' => ?_)
        refine T_op zk_25_101 rfl X_ic (pc' := 102) rfl ?_
        refine G_unk zk_25_102 rfl (pc' := 103) rfl (fun y12 hy12 hy12' => ?_)
        refine T_putf (J' := (fun σ' => IF (MI c 25 25 25 25) σ σ' ∧ σ' 25 c k 9 = 0 ∧ σ' 25 c k 8 = y12 ∧ True)) zk_25_103 rfl rfl (vd_25 hc (by omega)) (fun σ' h => ⟨h.1.up (by simp only [rgP] <;> omega) (by unfold MI; omega), (up_ne (by omega)).trans (h.2.1), up_eq, trivial⟩) (pc' := 106) rfl ?_
        exact T_vret zk_25_106 rfl (fun σ' h => ⟨rfl, h.1, trivial⟩)
    · exfalso; omega
  ·
    refine T_op zk_25_14 rfl X_ic (pc' := 15) rfl ?_
    refine T_goto zk_25_15 ?_
    refine T_putz (J' := (fun σ' => IF (MI c 25 25 25 25) σ σ' ∧ σ' 25 c k 9 = 1 ∧ True)) zk_25_19 rfl rfl (by omega) (vd_25 hc (by omega)) (fun σ' h => ⟨h.1.up (by simp only [rgP] <;> omega) (by unfold MI; omega), up_eq, trivial⟩) (pc' := 22) rfl ?_
    refine T_ld zk_25_22 rfl rfl rfl (pc' := 23) rfl ?_
    refine G_getX (w := 1) zk_25_23 rfl (vd_25 hc (by omega)) (fun σ' h => h.2.1) (pc' := 26) rfl ?_
    refine T_if_eq zk_25_26 (by omega) (pc' := 29) rfl (fun h13 => ?_) (fun h14 => ?_)
    · exfalso; omega
    ·
      refine T_ld zk_25_29 rfl rfl rfl (pc' := 30) rfl ?_
      refine T_op (st' := [av 25 c k, av 25 c k]) zk_25_30 rfl rfl (pc' := 31) rfl ?_
      refine G_getf (lo := -2147483648) (hi := 2147483647) zk_25_31 rfl (vd_25 hc (by omega)) (fun σ' h => h.1.1) (fun _ h => (by have q := h.1; omega)) (pc' := 34) rfl (fun y15 hy15 hy15' => ?_)
      refine T_op zk_25_34 rfl X_ic (pc' := 35) rfl ?_
      refine G_unk zk_25_35 rfl (pc' := 36) rfl (fun y16 hy16 hy16' => ?_)
      refine T_putf (J' := (fun σ' => IF (MI c 25 25 25 25) σ σ' ∧ σ' 25 c k 9 = 1 ∧ σ' 25 c k 6 = y16 ∧ True)) zk_25_36 rfl rfl (vd_25 hc (by omega)) (fun σ' h => ⟨h.1.up (by simp only [rgP] <;> omega) (by unfold MI; omega), (up_ne (by omega)).trans (h.2.1), up_eq, trivial⟩) (pc' := 39) rfl ?_
      refine T_ld zk_25_39 rfl rfl rfl (pc' := 40) rfl ?_
      refine T_op (st' := [av 25 c k, av 25 c k]) zk_25_40 rfl rfl (pc' := 41) rfl ?_
      refine G_getf (lo := -2147483648) (hi := 2147483647) zk_25_41 rfl (vd_25 hc (by omega)) (fun σ' h => h.1.1) (fun _ h => (by have q := h.1; omega)) (pc' := 44) rfl (fun y17 hy17 hy17' => ?_)
      refine T_ld zk_25_44 rfl rfl rfl (pc' := 45) rfl ?_
      refine G_getf (lo := -2147483648) (hi := 2147483647) zk_25_45 rfl (vd_25 hc (by omega)) (fun σ' h => h.1.1) (fun _ h => (by have q := h.1; omega)) (pc' := 48) rfl (fun y18 hy18 hy18' => ?_)
      refine T_op zk_25_48 rfl X_ic (pc' := 49) rfl ?_
      refine T_icmp_ne zk_25_49 (by omega) (by omega) (pc' := 52) rfl (fun h19 => ?_) (fun h20 => ?_)
      ·
        refine T_op zk_25_59 rfl X_ic (pc' := 60) rfl ?_
        refine T_op zk_25_60 rfl X_add (pc' := 61) rfl ?_
        refine T_putf (J' := (fun σ' => IF (MI c 25 25 25 25) σ σ' ∧ σ' 25 c k 9 = 1 ∧ σ' 25 c k 6 = y16 ∧ σ' 25 c k 7 = y17 + 0 ∧ True)) zk_25_61 rfl rfl (vd_25 hc (by omega)) (fun σ' h => ⟨h.1.up (by simp only [rgP] <;> omega) (by unfold MI; omega), (up_ne (by omega)).trans (h.2.1), (up_ne (by omega)).trans (h.2.2.1), up_eq, trivial⟩) (pc' := 64) rfl ?_
        refine T_ld zk_25_64 rfl rfl rfl (pc' := 65) rfl ?_
        refine T_op (st' := [av 25 c k, av 25 c k]) zk_25_65 rfl rfl (pc' := 66) rfl ?_
        refine G_getf (lo := -2147483648) (hi := 2147483647) zk_25_66 rfl (vd_25 hc (by omega)) (fun σ' h => h.1.1) (fun _ h => (by have q := h.1; omega)) (pc' := 69) rfl (fun y21 hy21 hy21' => ?_)
        refine T_ld zk_25_69 rfl rfl rfl (pc' := 70) rfl ?_
        refine G_getf (lo := -2147483648) (hi := 2147483647) zk_25_70 rfl (vd_25 hc (by omega)) (fun σ' h => h.1.1) (fun _ h => (by have q := h.1; omega)) (pc' := 73) rfl (fun y22 hy22 hy22' => ?_)
        refine T_op zk_25_73 rfl X_ic (pc' := 74) rfl ?_
        refine T_icmp_ne zk_25_74 (by omega) (by omega) (pc' := 77) rfl (fun h23 => ?_) (fun h24 => ?_)
        ·
          refine T_op zk_25_81 rfl X_ic (pc' := 82) rfl ?_
          refine T_op zk_25_82 rfl X_add (pc' := 83) rfl ?_
          refine T_putf (J' := (fun σ' => IF (MI c 25 25 25 25) σ σ' ∧ σ' 25 c k 9 = 1 ∧ σ' 25 c k 6 = y16 ∧ σ' 25 c k 7 = y17 + 0 ∧ σ' 25 c k 8 = y21 + 0 ∧ True)) zk_25_83 rfl rfl (vd_25 hc (by omega)) (fun σ' h => ⟨h.1.up (by simp only [rgP] <;> omega) (by unfold MI; omega), (up_ne (by omega)).trans (h.2.1), (up_ne (by omega)).trans (h.2.2.1), (up_ne (by omega)).trans (h.2.2.2.1), up_eq, trivial⟩) (pc' := 86) rfl ?_
          refine T_goto zk_25_86 ?_
          exact T_vret zk_25_106 rfl (fun σ' h => ⟨rfl, h.1, trivial⟩)
        ·
          refine T_op zk_25_77 rfl X_ic (pc' := 78) rfl ?_
          refine T_goto zk_25_78 ?_
          refine G_unk zk_25_82 rfl (pc' := 83) rfl (fun y25 hy25 hy25' => ?_)
          refine T_putf (J' := (fun σ' => IF (MI c 25 25 25 25) σ σ' ∧ σ' 25 c k 9 = 1 ∧ σ' 25 c k 6 = y16 ∧ σ' 25 c k 7 = y17 + 0 ∧ σ' 25 c k 8 = y25 ∧ True)) zk_25_83 rfl rfl (vd_25 hc (by omega)) (fun σ' h => ⟨h.1.up (by simp only [rgP] <;> omega) (by unfold MI; omega), (up_ne (by omega)).trans (h.2.1), (up_ne (by omega)).trans (h.2.2.1), (up_ne (by omega)).trans (h.2.2.2.1), up_eq, trivial⟩) (pc' := 86) rfl ?_
          refine T_goto zk_25_86 ?_
          exact T_vret zk_25_106 rfl (fun σ' h => ⟨rfl, h.1, trivial⟩)
      ·
        refine T_ld zk_25_52 rfl rfl rfl (pc' := 53) rfl ?_
        refine G_getf (lo := -2147483648) (hi := 2147483647) zk_25_53 rfl (vd_25 hc (by omega)) (fun σ' h => h.1.1) (fun _ h => (by have q := h.1; omega)) (pc' := 56) rfl (fun y26 hy26 hy26' => ?_)
        refine T_goto zk_25_56 ?_
        refine G_unk zk_25_60 rfl (pc' := 61) rfl (fun y27 hy27 hy27' => ?_)
        refine T_putf (J' := (fun σ' => IF (MI c 25 25 25 25) σ σ' ∧ σ' 25 c k 9 = 1 ∧ σ' 25 c k 6 = y16 ∧ σ' 25 c k 7 = y27 ∧ True)) zk_25_61 rfl rfl (vd_25 hc (by omega)) (fun σ' h => ⟨h.1.up (by simp only [rgP] <;> omega) (by unfold MI; omega), (up_ne (by omega)).trans (h.2.1), (up_ne (by omega)).trans (h.2.2.1), up_eq, trivial⟩) (pc' := 64) rfl ?_
        refine T_ld zk_25_64 rfl rfl rfl (pc' := 65) rfl ?_
        refine T_op (st' := [av 25 c k, av 25 c k]) zk_25_65 rfl rfl (pc' := 66) rfl ?_
        refine G_getf (lo := -2147483648) (hi := 2147483647) zk_25_66 rfl (vd_25 hc (by omega)) (fun σ' h => h.1.1) (fun _ h => (by have q := h.1; omega)) (pc' := 69) rfl (fun y28 hy28 hy28' => ?_)
        refine T_ld zk_25_69 rfl rfl rfl (pc' := 70) rfl ?_
        refine G_getf (lo := -2147483648) (hi := 2147483647) zk_25_70 rfl (vd_25 hc (by omega)) (fun σ' h => h.1.1) (fun _ h => (by have q := h.1; omega)) (pc' := 73) rfl (fun y29 hy29 hy29' => ?_)
        refine T_op zk_25_73 rfl X_ic (pc' := 74) rfl ?_
        refine T_icmp_ne zk_25_74 (by omega) (by omega) (pc' := 77) rfl (fun h30 => ?_) (fun h31 => ?_)
        ·
          refine T_op zk_25_81 rfl X_ic (pc' := 82) rfl ?_
          refine T_op zk_25_82 rfl X_add (pc' := 83) rfl ?_
          refine T_putf (J' := (fun σ' => IF (MI c 25 25 25 25) σ σ' ∧ σ' 25 c k 9 = 1 ∧ σ' 25 c k 6 = y16 ∧ σ' 25 c k 7 = y27 ∧ σ' 25 c k 8 = y28 + 0 ∧ True)) zk_25_83 rfl rfl (vd_25 hc (by omega)) (fun σ' h => ⟨h.1.up (by simp only [rgP] <;> omega) (by unfold MI; omega), (up_ne (by omega)).trans (h.2.1), (up_ne (by omega)).trans (h.2.2.1), (up_ne (by omega)).trans (h.2.2.2.1), up_eq, trivial⟩) (pc' := 86) rfl ?_
          refine T_goto zk_25_86 ?_
          exact T_vret zk_25_106 rfl (fun σ' h => ⟨rfl, h.1, trivial⟩)
        ·
          refine T_op zk_25_77 rfl X_ic (pc' := 78) rfl ?_
          refine T_goto zk_25_78 ?_
          refine G_unk zk_25_82 rfl (pc' := 83) rfl (fun y32 hy32 hy32' => ?_)
          refine T_putf (J' := (fun σ' => IF (MI c 25 25 25 25) σ σ' ∧ σ' 25 c k 9 = 1 ∧ σ' 25 c k 6 = y16 ∧ σ' 25 c k 7 = y27 ∧ σ' 25 c k 8 = y32 ∧ True)) zk_25_83 rfl rfl (vd_25 hc (by omega)) (fun σ' h => ⟨h.1.up (by simp only [rgP] <;> omega) (by unfold MI; omega), (up_ne (by omega)).trans (h.2.1), (up_ne (by omega)).trans (h.2.2.1), (up_ne (by omega)).trans (h.2.2.2.1), up_eq, trivial⟩) (pc' := 86) rfl ?_
          refine T_goto zk_25_86 ?_
          exact T_vret zk_25_106 rfl (fun σ' h => ⟨rfl, h.1, trivial⟩)
/-- W$House.endDay -/
theorem w_26 {xs : Nat × (Nat → Int32)} (c : Nat) (k : Nat) (p0 : Int) (hc : c < 3) (hk : k < 12) (hp0 : -2147483648 ≤ p0 ∧ p0 ≤ 2147483647) (σ : ZS) (hI : Inv σ)   : CT xs 1 26 [av 25 c k, iv p0] σ (fun v σ' => v = none ∧ IF (MI c 25 25 25 25) σ σ' ∧ (True)) := by
  refine G_ct (J := (fun σ' => IF (MI c 25 25 25 25) σ σ' ∧ True)) (L := [(0, av 25 c k), (1, iv p0)]) (nL := 2) rfl rfl rfl ⟨IF.rf hI, trivial⟩ ?_
  refine T_ld zk_26_0 rfl rfl rfl (pc' := 1) rfl ?_
  refine G_learn (t := 25) (i := c) (k := k) (j := 3) (lo := -2147483648) (hi := 2147483647) (J2 := fun y1 => (fun σ' => IF (MI c 25 25 25 25) σ σ' ∧ σ' 25 c k 3 = y1 ∧ True)) (vd_25 hc (by omega)) (fun σ' h => h.1.1) (fun _ h => (by have q := h.1; omega)) (fun σ' y h hy => ⟨h.1, hy, trivial⟩) (fun y1 hy1 hy1' => ?_)
  refine G_getX (w := y1) zk_26_1 rfl (vd_25 hc (by omega)) (fun σ' h => h.2.1) (pc' := 4) rfl ?_
  refine T_if_le zk_26_4 (by omega) (pc' := 7) rfl (fun h2 => ?_) (fun h3 => ?_)
  ·
    exact T_vret zk_26_26 rfl (fun σ' h => ⟨rfl, h.1, trivial⟩)
  ·
    refine T_ld zk_26_7 rfl rfl rfl (pc' := 8) rfl ?_
    refine T_ld zk_26_8 rfl rfl rfl (pc' := 9) rfl ?_
    refine G_getX (w := y1) zk_26_9 rfl (vd_25 hc (by omega)) (fun σ' h => h.2.1) (pc' := 12) rfl ?_
    refine G_unkD zk_26_12 (by first | exact Or.inl rfl | exact Or.inr rfl) (by omega) (pc' := 13) rfl (fun y4 hy4 hy4' => ?_)
    refine T_if_ne zk_26_13 (by omega) (pc' := 16) rfl (fun h5 => ?_) (fun h6 => ?_)
    ·
      exact T_vret zk_26_26 rfl (fun σ' h => ⟨rfl, h.1, trivial⟩)
    ·
      refine T_ld zk_26_16 rfl rfl rfl (pc' := 17) rfl ?_
      refine T_op (st' := [av 25 c k, av 25 c k]) zk_26_17 rfl rfl (pc' := 18) rfl ?_
      refine G_getf (lo := -2147483648) (hi := 2147483647) zk_26_18 rfl (vd_25 hc (by omega)) (fun σ' h => h.1.1) (fun _ h => (by have q := h.1; omega)) (pc' := 21) rfl (fun y7 hy7 hy7' => ?_)
      refine T_op zk_26_21 rfl X_ic (pc' := 22) rfl ?_
      refine G_unk zk_26_22 rfl (pc' := 23) rfl (fun y8 hy8 hy8' => ?_)
      refine T_putf (J' := (fun σ' => IF (MI c 25 25 25 25) σ σ' ∧ σ' 25 c k 3 = y1 ∧ σ' 25 c k 5 = y8 ∧ True)) zk_26_23 rfl rfl (vd_25 hc (by omega)) (fun σ' h => ⟨h.1.up (by simp only [rgP] <;> omega) (by unfold MI; omega), (up_ne (by omega)).trans (h.2.1), up_eq, trivial⟩) (pc' := 26) rfl ?_
      exact T_vret zk_26_26 rfl (fun σ' h => ⟨rfl, h.1, trivial⟩)
/-- W$Lagoon.endDay -/
theorem w_38 {xs : Nat × (Nat → Int32)} (c : Nat) (p0 : Int) (hc : c < 3) (hp0 : -2147483648 ≤ p0 ∧ p0 ≤ 2147483647) (σ : ZS) (hI : Inv σ)   : CT xs 1 38 [av 2 c 0, iv p0] σ (fun v σ' => v = none ∧ IF (MI c 3 6 6 6) σ σ' ∧ (True)) := by
  refine G_ct (J := (fun σ' => IF (MI c 3 6 6 6) σ σ' ∧ True)) (L := [(0, av 2 c 0), (1, iv p0)]) (nL := 3) rfl rfl rfl ⟨IF.rf hI, trivial⟩ ?_
  refine T_op zk_38_0 rfl X_ic (pc' := 1) rfl ?_
  refine T_st (L' := [(0, av 2 c 0), (1, iv p0), (2, iv 0)]) zk_38_1 (nL := 3) rfl rfl rfl rfl rfl (pc' := 2) rfl ?_
  refine T_loop1 (fun x1 => ((25 - x1 : Int)).toNat) (fun x1 => (0 ≤ x1 ∧ x1 ≤ 25)) (fun x1 => TJ xs (fun σ' => IF (MI c 3 6 6 6) σ σ' ∧ True) 0 38 2 [(0, av 2 c 0), (1, iv p0), (2, iv x1)] [] _) ?_ 0 (by omega)
  intro x1 hp3 ih2
  refine T_ld zk_38_2 rfl rfl rfl (pc' := 3) rfl ?_
  refine T_op zk_38_3 rfl (X_bi (v := 25) (by decide)) (pc' := 5) rfl ?_
  refine T_icmp_ge zk_38_5 (by omega) (by omega) (pc' := 8) rfl (fun h4 => ?_) (fun h5 => ?_)
  ·
    exact T_vret zk_38_50 rfl (fun σ' h => ⟨rfl, h.1, trivial⟩)
  ·
    refine T_ld zk_38_8 rfl rfl rfl (pc' := 9) rfl ?_
    refine T_getR (t' := 6) (i' := c) (k' := 0) zk_38_9 rfl rfl rfl (vd_2 hc) (pc' := 12) rfl ?_
    refine T_ld zk_38_12 rfl rfl rfl (pc' := 13) rfl ?_
    refine G_iald (lo := -2147483648) (hi := 2147483647) (ln := 25) zk_38_13 rfl rfl (vd_6 hc) (by omega) (by omega) (by omega) (fun σ' h => h.1.1) (fun _ h => (by have q := h.1; omega)) (pc' := 14) rfl (fun y6 hy6 hy6' => ?_)
    refine T_ld zk_38_14 rfl rfl rfl (pc' := 15) rfl ?_
    refine T_icmp_ge zk_38_15 (by omega) (by omega) (pc' := 18) rfl (fun h7 => ?_) (fun h8 => ?_)
    ·
      refine T_ld zk_38_37 rfl rfl rfl (pc' := 38) rfl ?_
      refine T_getR (t' := 6) (i' := c) (k' := 0) zk_38_38 rfl rfl rfl (vd_2 hc) (pc' := 41) rfl ?_
      refine T_ld zk_38_41 rfl rfl rfl (pc' := 42) rfl ?_
      refine T_op zk_38_42 rfl X_ic (pc' := 43) rfl ?_
      refine G_iast (J' := (fun σ' => IF (MI c 3 6 6 6) σ σ' ∧ True)) (ln := 25) zk_38_43 rfl rfl (vd_6 hc) (by omega) (by omega) (by omega) (fun σ' h => ⟨h.1.up ⟨by omega, trivial⟩ (by unfold MI; omega), trivial⟩) (pc' := 44) rfl ?_
      refine T_iinc (L' := [(0, av 2 c 0), (1, iv p0), (2, iv (x1 + 1))]) zk_38_44 (nL := 3) rfl rfl rfl rfl (pc' := 47) rfl ?_
      refine T_goto zk_38_47 ?_
      exact ih2 (x1 + 1) (by omega) (by omega)
    ·
      refine T_ld zk_38_18 rfl rfl rfl (pc' := 19) rfl ?_
      refine T_getR (t' := 3) (i' := c) (k' := 0) zk_38_19 rfl rfl rfl (vd_2 hc) (pc' := 22) rfl ?_
      refine T_ld zk_38_22 rfl rfl rfl (pc' := 23) rfl ?_
      refine G_iald (lo := -2147483648) (hi := 2147483647) (ln := 25) zk_38_23 rfl rfl (vd_3 hc) (by omega) (by omega) (by omega) (fun σ' h => h.1.1) (fun _ h => (by have q := h.1; omega)) (pc' := 24) rfl (fun y9 hy9 hy9' => ?_)
      refine T_if_le zk_38_24 (by omega) (pc' := 27) rfl (fun h10 => ?_) (fun h11 => ?_)
      ·
        refine T_ld zk_38_37 rfl rfl rfl (pc' := 38) rfl ?_
        refine T_getR (t' := 6) (i' := c) (k' := 0) zk_38_38 rfl rfl rfl (vd_2 hc) (pc' := 41) rfl ?_
        refine T_ld zk_38_41 rfl rfl rfl (pc' := 42) rfl ?_
        refine T_op zk_38_42 rfl X_ic (pc' := 43) rfl ?_
        refine G_iast (J' := (fun σ' => IF (MI c 3 6 6 6) σ σ' ∧ True)) (ln := 25) zk_38_43 rfl rfl (vd_6 hc) (by omega) (by omega) (by omega) (fun σ' h => ⟨h.1.up ⟨by omega, trivial⟩ (by unfold MI; omega), trivial⟩) (pc' := 44) rfl ?_
        refine T_iinc (L' := [(0, av 2 c 0), (1, iv p0), (2, iv (x1 + 1))]) zk_38_44 (nL := 3) rfl rfl rfl rfl (pc' := 47) rfl ?_
        refine T_goto zk_38_47 ?_
        exact ih2 (x1 + 1) (by omega) (by omega)
      ·
        refine T_ld zk_38_27 rfl rfl rfl (pc' := 28) rfl ?_
        refine T_getR (t' := 3) (i' := c) (k' := 0) zk_38_28 rfl rfl rfl (vd_2 hc) (pc' := 31) rfl ?_
        refine T_ld zk_38_31 rfl rfl rfl (pc' := 32) rfl ?_
        refine T_op (st' := [iv x1, av 3 c 0, iv x1, av 3 c 0]) zk_38_32 rfl rfl (pc' := 33) rfl ?_
        refine G_iald (lo := -2147483648) (hi := 2147483647) (ln := 25) zk_38_33 rfl rfl (vd_3 hc) (by omega) (by omega) (by omega) (fun σ' h => h.1.1) (fun _ h => (by have q := h.1; omega)) (pc' := 34) rfl (fun y12 hy12 hy12' => ?_)
        refine T_op zk_38_34 rfl X_ic (pc' := 35) rfl ?_
        refine G_unk zk_38_35 rfl (pc' := 36) rfl (fun y13 hy13 hy13' => ?_)
        refine G_iast (J' := (fun σ' => IF (MI c 3 6 6 6) σ σ' ∧ True)) (ln := 25) zk_38_36 rfl rfl (vd_3 hc) (by omega) (by omega) (by omega) (fun σ' h => ⟨h.1.up ⟨by omega, trivial⟩ (by unfold MI; omega), trivial⟩) (pc' := 37) rfl ?_
        refine T_ld zk_38_37 rfl rfl rfl (pc' := 38) rfl ?_
        refine T_getR (t' := 6) (i' := c) (k' := 0) zk_38_38 rfl rfl rfl (vd_2 hc) (pc' := 41) rfl ?_
        refine T_ld zk_38_41 rfl rfl rfl (pc' := 42) rfl ?_
        refine T_op zk_38_42 rfl X_ic (pc' := 43) rfl ?_
        refine G_iast (J' := (fun σ' => IF (MI c 3 6 6 6) σ σ' ∧ True)) (ln := 25) zk_38_43 rfl rfl (vd_6 hc) (by omega) (by omega) (by omega) (fun σ' h => ⟨h.1.up ⟨by omega, trivial⟩ (by unfold MI; omega), trivial⟩) (pc' := 44) rfl ?_
        refine T_iinc (L' := [(0, av 2 c 0), (1, iv p0), (2, iv (x1 + 1))]) zk_38_44 (nL := 3) rfl rfl rfl rfl (pc' := 47) rfl ?_
        refine T_goto zk_38_47 ?_
        exact ih2 (x1 + 1) (by omega) (by omega)
theorem sb51_7d5ee1e (v0 : Nat) : ∀ t i k j, MI v0 3 6 6 6 t i k j → ML v0 t i k j := by
  intro t i k j h
  unfold MI at h
  unfold ML
  omega
theorem sb51_384f93d (v0 : Nat) : ∀ t i k j, MI v0 25 25 25 25 t i k j → ML v0 t i k j := by
  intro t i k j h
  unfold MI at h
  unfold ML
  omega
/-- W$City.livePeople -/
theorem w_13 {xs : Nat × (Nat → Int32)} (c : Nat) (hc : c < 3) (σ : ZS) (hI : Inv σ)   : CT xs 7 13 [av 1 c 0] σ (fun v σ' => v = none ∧ IF (ML c) σ σ' ∧ (True)) := by
  refine G_ct (J := (fun σ' => IF (ML c) σ σ' ∧ True)) (L := [(0, av 1 c 0)]) (nL := 3) rfl rfl rfl ⟨IF.rf hI, trivial⟩ ?_
  refine T_ld zk_13_0 rfl rfl rfl (pc' := 1) rfl ?_
  refine T_callv (J' := (fun σ' => IF (ML c) σ σ' ∧ True)) (r := []) zk_13_1 rfl rfl rfl rfl rfl rfl (Or.inr ⟨_, _, _, _, rfl, (vd_1 hc), rfl⟩) (fun σ' h => (w_15 c hc σ' h.1.1 ).le (Nat.le_of_ble_eq_true rfl) (fun v σ2 ⟨h1, h3, h4⟩ => ⟨h1, h.1.tr h3 (fun _ _ _ _ h => h), trivial⟩)) (pc' := 4) rfl ?_
  refine T_op zk_13_4 rfl X_ic (pc' := 5) rfl ?_
  refine T_st (L' := [(0, av 1 c 0), (1, iv 0)]) zk_13_5 (nL := 3) rfl rfl rfl rfl rfl (pc' := 6) rfl ?_
  refine T_op zk_13_6 rfl X_ic (pc' := 7) rfl ?_
  refine T_st (L' := [(0, av 1 c 0), (1, iv 0), (2, iv 0)]) zk_13_7 (nL := 3) rfl rfl rfl rfl rfl (pc' := 8) rfl ?_
  refine T_loop2 (fun x2 x3 => ((12 - x3 : Int)).toNat) (fun x2 x3 => (0 ≤ x2 ∧ x2 ≤ 1) ∧ (0 ≤ x3 ∧ x3 ≤ 12)) (fun x2 x3 => TJ xs (fun σ' => IF (ML c) σ σ' ∧ True) 6 13 8 [(0, av 1 c 0), (1, iv x2), (2, iv x3)] [] _) ?_ 0 0 (by omega)
  intro x2 x3 hp5 ih4
  refine T_ld zk_13_8 rfl rfl rfl (pc' := 9) rfl ?_
  refine T_ld zk_13_9 rfl rfl rfl (pc' := 10) rfl ?_
  refine G_getf (lo := 0) (hi := 12) zk_13_10 rfl (vd_1 hc) (fun σ' h => h.1.1) (fun _ h => h.2.2.1 (by omega) (by omega)) (pc' := 13) rfl (fun y6 hy6 hy6' => ?_)
  refine T_icmp_ge zk_13_13 (by omega) (by omega) (pc' := 16) rfl (fun h7 => ?_) (fun h8 => ?_)
  ·
    refine T_ld zk_13_70 rfl rfl rfl (pc' := 71) rfl ?_
    refine T_if_eq zk_13_71 (by omega) (pc' := 74) rfl (fun h9 => ?_) (fun h10 => ?_)
    ·
      refine T_ld zk_13_94 rfl rfl rfl (pc' := 95) rfl ?_
      refine T_op (st' := [av 1 c 0, av 1 c 0]) zk_13_95 rfl rfl (pc' := 96) rfl ?_
      refine G_getf (lo := -2147483648) (hi := 2147483647) zk_13_96 rfl (vd_1 hc) (fun σ' h => h.1.1) (fun _ h => (by have q := h.1; omega)) (pc' := 99) rfl (fun y11 hy11 hy11' => ?_)
      refine T_op zk_13_99 rfl X_ic (pc' := 100) rfl ?_
      refine G_unk zk_13_100 rfl (pc' := 101) rfl (fun y12 hy12 hy12' => ?_)
      refine T_putf (J' := (fun σ' => IF (ML c) σ σ' ∧ σ' 1 c 0 13 = y12 ∧ True)) zk_13_101 rfl rfl (vd_1 hc) (fun σ' h => ⟨h.1.up (by simp only [rgP] <;> omega) (by unfold ML; omega), up_eq, trivial⟩) (pc' := 104) rfl ?_
      refine T_ld zk_13_104 rfl rfl rfl (pc' := 105) rfl ?_
      refine G_getX (w := y12) zk_13_105 rfl (vd_1 hc) (fun σ' h => h.2.1) (pc' := 108) rfl ?_
      refine T_op zk_13_108 rfl (X_bi (v := 96) (by decide)) (pc' := 110) rfl ?_
      refine G_unkD zk_13_110 (by first | exact Or.inl rfl | exact Or.inr rfl) (by omega) (pc' := 111) rfl (fun y13 hy13 hy13' => ?_)
      refine T_if_ne zk_13_111 (by omega) (pc' := 114) rfl (fun h14 => ?_) (fun h15 => ?_)
      ·
        exact T_vret zk_13_157 rfl (fun σ' h => ⟨rfl, h.1, trivial⟩)
      ·
        refine T_ld zk_13_114 rfl rfl rfl (pc' := 115) rfl ?_
        refine T_getR (t' := 2) (i' := c) (k' := 0) zk_13_115 rfl rfl rfl (vd_1 hc) (pc' := 118) rfl ?_
        refine T_ld zk_13_118 rfl rfl rfl (pc' := 119) rfl ?_
        refine G_getf (lo := 0) (hi := 9999) zk_13_119 rfl (vd_1 hc) (fun σ' h => h.1.1) (fun _ h => h.2.2.2.2.2.2 (by omega) (by omega)) (pc' := 122) rfl (fun y16 hy16 hy16' => ?_)
        refine T_callv (J' := (fun σ' => IF (ML c) σ σ' ∧ σ' 1 c 0 13 = y12 ∧ True)) (r := []) zk_13_122 rfl rfl rfl rfl rfl rfl (Or.inr ⟨_, _, _, _, rfl, (vd_2 hc), rfl⟩) (fun σ' h => (w_38 c y16 hc (by omega) σ' h.1.1 ).le (Nat.le_of_ble_eq_true rfl) (fun v σ2 ⟨h1, h3, h4⟩ => ⟨h1, h.1.tr h3 (sb51_7d5ee1e c), (h3.2 _ _ _ _ (by first | exact nMI rfl | (unfold MI; omega))).trans (h.2.1), trivial⟩)) (pc' := 125) rfl ?_
        refine T_op zk_13_125 rfl X_ic (pc' := 126) rfl ?_
        refine T_st (L' := [(0, av 1 c 0), (1, iv x2), (2, iv 0)]) zk_13_126 (nL := 3) rfl rfl rfl rfl rfl (pc' := 127) rfl ?_
        refine G_know (J' := (fun σ' => IF (ML c) σ σ' ∧ True)) (fun σ' h => ⟨h.1, trivial⟩) ?_
        refine T_loop1 (fun x18 => ((12 - x18 : Int)).toNat) (fun x18 => (0 ≤ x18 ∧ x18 ≤ 12)) (fun x18 => TJ xs (fun σ' => IF (ML c) σ σ' ∧ True) 6 13 127 [(0, av 1 c 0), (1, iv x2), (2, iv x18)] [] _) ?_ 0 (by omega)
        intro x18 hp20 ih19
        refine T_ld zk_13_127 rfl rfl rfl (pc' := 128) rfl ?_
        refine T_ld zk_13_128 rfl rfl rfl (pc' := 129) rfl ?_
        refine G_getf (lo := 0) (hi := 12) zk_13_129 rfl (vd_1 hc) (fun σ' h => h.1.1) (fun _ h => h.2.2.1 (by omega) (by omega)) (pc' := 132) rfl (fun y21 hy21 hy21' => ?_)
        refine T_icmp_ge zk_13_132 (by omega) (by omega) (pc' := 135) rfl (fun h22 => ?_) (fun h23 => ?_)
        ·
          exact T_vret zk_13_157 rfl (fun σ' h => ⟨rfl, h.1, trivial⟩)
        ·
          refine T_ld zk_13_135 rfl rfl rfl (pc' := 136) rfl ?_
          refine T_getR (t' := 15) (i' := c) (k' := 0) zk_13_136 rfl rfl rfl (vd_1 hc) (pc' := 139) rfl ?_
          refine T_ld zk_13_139 rfl rfl rfl (pc' := 140) rfl ?_
          refine G_aald (t' := 25) (im := 9) (i' := c) (ln := 12) zk_13_140 rfl rfl rfl (vd_15 hc) (by omega) (by omega) (by omega) (pc' := 141) rfl ?_
          refine T_ld zk_13_141 rfl rfl rfl (pc' := 142) rfl ?_
          refine G_getf (lo := -2147483648) (hi := 2147483647) zk_13_142 rfl (vd_1 hc) (fun σ' h => h.1.1) (fun _ h => (by have q := h.1; omega)) (pc' := 145) rfl (fun y24 hy24 hy24' => ?_)
          refine T_op zk_13_145 rfl (X_bi (v := 96) (by decide)) (pc' := 147) rfl ?_
          refine G_unkD zk_13_147 (by first | exact Or.inl rfl | exact Or.inr rfl) (by omega) (pc' := 148) rfl (fun y25 hy25 hy25' => ?_)
          refine T_callv (J' := (fun σ' => IF (ML c) σ σ' ∧ True)) (r := []) zk_13_148 rfl rfl rfl rfl rfl rfl (Or.inr ⟨_, _, _, _, rfl, (vd_25 hc (by omega)), rfl⟩) (fun σ' h => (w_26 c (Int.toNat x18) y25 hc (by omega) (by omega) σ' h.1.1 ).le (Nat.le_of_ble_eq_true rfl) (fun v σ2 ⟨h1, h3, h4⟩ => ⟨h1, h.1.tr h3 (sb51_384f93d c), trivial⟩)) (pc' := 151) rfl ?_
          refine T_iinc (L' := [(0, av 1 c 0), (1, iv x2), (2, iv (x18 + 1))]) zk_13_151 (nL := 3) rfl rfl rfl rfl (pc' := 154) rfl ?_
          refine T_goto zk_13_154 ?_
          exact ih19 (x18 + 1) (by omega) (by omega)
    ·
      refine T_ld zk_13_74 rfl rfl rfl (pc' := 75) rfl ?_
      refine T_getR (t' := 11) (i' := c) (k' := 0) zk_13_75 rfl rfl rfl (vd_1 hc) (pc' := 78) rfl ?_
      refine T_calli (K := fun y27 σ' => (0 ≤ y27 ∧ y27 ≤ 3) ∧ (fun σ' => IF (ML c) σ σ' ∧ True) σ') (r := []) zk_13_78 rfl rfl rfl rfl rfl rfl (Or.inr ⟨_, _, _, _, rfl, (vd_11 hc), rfl⟩) (fun σ' h => (w_63 c hc σ' h.1.1 ).le (Nat.le_of_ble_eq_true rfl) (fun v σ2 ⟨y, h1, h2, h3, h4⟩ => ⟨y, h1, h2, h.1.tr h3 MN_sub, trivial⟩)) (pc' := 81) rfl (fun y27 => ?_)
      refine G_ex (fun hy27 => ?_)
      refine T_if_ne zk_13_81 (by omega) (pc' := 84) rfl (fun h28 => ?_) (fun h29 => ?_)
      ·
        refine T_ld zk_13_94 rfl rfl rfl (pc' := 95) rfl ?_
        refine T_op (st' := [av 1 c 0, av 1 c 0]) zk_13_95 rfl rfl (pc' := 96) rfl ?_
        refine G_getf (lo := -2147483648) (hi := 2147483647) zk_13_96 rfl (vd_1 hc) (fun σ' h => h.1.1) (fun _ h => (by have q := h.1; omega)) (pc' := 99) rfl (fun y30 hy30 hy30' => ?_)
        refine T_op zk_13_99 rfl X_ic (pc' := 100) rfl ?_
        refine G_unk zk_13_100 rfl (pc' := 101) rfl (fun y31 hy31 hy31' => ?_)
        refine T_putf (J' := (fun σ' => IF (ML c) σ σ' ∧ σ' 1 c 0 13 = y31 ∧ True)) zk_13_101 rfl rfl (vd_1 hc) (fun σ' h => ⟨h.1.up (by simp only [rgP] <;> omega) (by unfold ML; omega), up_eq, trivial⟩) (pc' := 104) rfl ?_
        refine T_ld zk_13_104 rfl rfl rfl (pc' := 105) rfl ?_
        refine G_getX (w := y31) zk_13_105 rfl (vd_1 hc) (fun σ' h => h.2.1) (pc' := 108) rfl ?_
        refine T_op zk_13_108 rfl (X_bi (v := 96) (by decide)) (pc' := 110) rfl ?_
        refine G_unkD zk_13_110 (by first | exact Or.inl rfl | exact Or.inr rfl) (by omega) (pc' := 111) rfl (fun y32 hy32 hy32' => ?_)
        refine T_if_ne zk_13_111 (by omega) (pc' := 114) rfl (fun h33 => ?_) (fun h34 => ?_)
        ·
          exact T_vret zk_13_157 rfl (fun σ' h => ⟨rfl, h.1, trivial⟩)
        ·
          refine T_ld zk_13_114 rfl rfl rfl (pc' := 115) rfl ?_
          refine T_getR (t' := 2) (i' := c) (k' := 0) zk_13_115 rfl rfl rfl (vd_1 hc) (pc' := 118) rfl ?_
          refine T_ld zk_13_118 rfl rfl rfl (pc' := 119) rfl ?_
          refine G_getf (lo := 0) (hi := 9999) zk_13_119 rfl (vd_1 hc) (fun σ' h => h.1.1) (fun _ h => h.2.2.2.2.2.2 (by omega) (by omega)) (pc' := 122) rfl (fun y35 hy35 hy35' => ?_)
          refine T_callv (J' := (fun σ' => IF (ML c) σ σ' ∧ σ' 1 c 0 13 = y31 ∧ True)) (r := []) zk_13_122 rfl rfl rfl rfl rfl rfl (Or.inr ⟨_, _, _, _, rfl, (vd_2 hc), rfl⟩) (fun σ' h => (w_38 c y35 hc (by omega) σ' h.1.1 ).le (Nat.le_of_ble_eq_true rfl) (fun v σ2 ⟨h1, h3, h4⟩ => ⟨h1, h.1.tr h3 (sb51_7d5ee1e c), (h3.2 _ _ _ _ (by first | exact nMI rfl | (unfold MI; omega))).trans (h.2.1), trivial⟩)) (pc' := 125) rfl ?_
          refine T_op zk_13_125 rfl X_ic (pc' := 126) rfl ?_
          refine T_st (L' := [(0, av 1 c 0), (1, iv x2), (2, iv 0)]) zk_13_126 (nL := 3) rfl rfl rfl rfl rfl (pc' := 127) rfl ?_
          refine G_know (J' := (fun σ' => IF (ML c) σ σ' ∧ True)) (fun σ' h => ⟨h.1, trivial⟩) ?_
          refine T_loop1 (fun x37 => ((12 - x37 : Int)).toNat) (fun x37 => (0 ≤ x37 ∧ x37 ≤ 12)) (fun x37 => TJ xs (fun σ' => IF (ML c) σ σ' ∧ True) 6 13 127 [(0, av 1 c 0), (1, iv x2), (2, iv x37)] [] _) ?_ 0 (by omega)
          intro x37 hp39 ih38
          refine T_ld zk_13_127 rfl rfl rfl (pc' := 128) rfl ?_
          refine T_ld zk_13_128 rfl rfl rfl (pc' := 129) rfl ?_
          refine G_getf (lo := 0) (hi := 12) zk_13_129 rfl (vd_1 hc) (fun σ' h => h.1.1) (fun _ h => h.2.2.1 (by omega) (by omega)) (pc' := 132) rfl (fun y40 hy40 hy40' => ?_)
          refine T_icmp_ge zk_13_132 (by omega) (by omega) (pc' := 135) rfl (fun h41 => ?_) (fun h42 => ?_)
          ·
            exact T_vret zk_13_157 rfl (fun σ' h => ⟨rfl, h.1, trivial⟩)
          ·
            refine T_ld zk_13_135 rfl rfl rfl (pc' := 136) rfl ?_
            refine T_getR (t' := 15) (i' := c) (k' := 0) zk_13_136 rfl rfl rfl (vd_1 hc) (pc' := 139) rfl ?_
            refine T_ld zk_13_139 rfl rfl rfl (pc' := 140) rfl ?_
            refine G_aald (t' := 25) (im := 9) (i' := c) (ln := 12) zk_13_140 rfl rfl rfl (vd_15 hc) (by omega) (by omega) (by omega) (pc' := 141) rfl ?_
            refine T_ld zk_13_141 rfl rfl rfl (pc' := 142) rfl ?_
            refine G_getf (lo := -2147483648) (hi := 2147483647) zk_13_142 rfl (vd_1 hc) (fun σ' h => h.1.1) (fun _ h => (by have q := h.1; omega)) (pc' := 145) rfl (fun y43 hy43 hy43' => ?_)
            refine T_op zk_13_145 rfl (X_bi (v := 96) (by decide)) (pc' := 147) rfl ?_
            refine G_unkD zk_13_147 (by first | exact Or.inl rfl | exact Or.inr rfl) (by omega) (pc' := 148) rfl (fun y44 hy44 hy44' => ?_)
            refine T_callv (J' := (fun σ' => IF (ML c) σ σ' ∧ True)) (r := []) zk_13_148 rfl rfl rfl rfl rfl rfl (Or.inr ⟨_, _, _, _, rfl, (vd_25 hc (by omega)), rfl⟩) (fun σ' h => (w_26 c (Int.toNat x37) y44 hc (by omega) (by omega) σ' h.1.1 ).le (Nat.le_of_ble_eq_true rfl) (fun v σ2 ⟨h1, h3, h4⟩ => ⟨h1, h.1.tr h3 (sb51_384f93d c), trivial⟩)) (pc' := 151) rfl ?_
            refine T_iinc (L' := [(0, av 1 c 0), (1, iv x2), (2, iv (x37 + 1))]) zk_13_151 (nL := 3) rfl rfl rfl rfl (pc' := 154) rfl ?_
            refine T_goto zk_13_154 ?_
            exact ih38 (x37 + 1) (by omega) (by omega)
      ·
        refine T_ld zk_13_84 rfl rfl rfl (pc' := 85) rfl ?_
        refine T_op (st' := [av 1 c 0, av 1 c 0]) zk_13_85 rfl rfl (pc' := 86) rfl ?_
        refine G_getf (lo := -2147483648) (hi := 2147483647) zk_13_86 rfl (vd_1 hc) (fun σ' h => h.1.1) (fun _ h => (by have q := h.1; omega)) (pc' := 89) rfl (fun y46 hy46 hy46' => ?_)
        refine T_op zk_13_89 rfl X_ic (pc' := 90) rfl ?_
        refine G_unk zk_13_90 rfl (pc' := 91) rfl (fun y47 hy47 hy47' => ?_)
        refine T_putf (J' := (fun σ' => IF (ML c) σ σ' ∧ σ' 1 c 0 14 = y47 ∧ True)) zk_13_91 rfl rfl (vd_1 hc) (fun σ' h => ⟨h.1.up (by simp only [rgP] <;> omega) (by unfold ML; omega), up_eq, trivial⟩) (pc' := 94) rfl ?_
        refine T_ld zk_13_94 rfl rfl rfl (pc' := 95) rfl ?_
        refine T_op (st' := [av 1 c 0, av 1 c 0]) zk_13_95 rfl rfl (pc' := 96) rfl ?_
        refine G_getf (lo := -2147483648) (hi := 2147483647) zk_13_96 rfl (vd_1 hc) (fun σ' h => h.1.1) (fun _ h => (by have q := h.1; omega)) (pc' := 99) rfl (fun y48 hy48 hy48' => ?_)
        refine T_op zk_13_99 rfl X_ic (pc' := 100) rfl ?_
        refine G_unk zk_13_100 rfl (pc' := 101) rfl (fun y49 hy49 hy49' => ?_)
        refine T_putf (J' := (fun σ' => IF (ML c) σ σ' ∧ σ' 1 c 0 14 = y47 ∧ σ' 1 c 0 13 = y49 ∧ True)) zk_13_101 rfl rfl (vd_1 hc) (fun σ' h => ⟨h.1.up (by simp only [rgP] <;> omega) (by unfold ML; omega), (up_ne (by omega)).trans (h.2.1), up_eq, trivial⟩) (pc' := 104) rfl ?_
        refine T_ld zk_13_104 rfl rfl rfl (pc' := 105) rfl ?_
        refine G_getX (w := y49) zk_13_105 rfl (vd_1 hc) (fun σ' h => h.2.2.1) (pc' := 108) rfl ?_
        refine T_op zk_13_108 rfl (X_bi (v := 96) (by decide)) (pc' := 110) rfl ?_
        refine G_unkD zk_13_110 (by first | exact Or.inl rfl | exact Or.inr rfl) (by omega) (pc' := 111) rfl (fun y50 hy50 hy50' => ?_)
        refine T_if_ne zk_13_111 (by omega) (pc' := 114) rfl (fun h51 => ?_) (fun h52 => ?_)
        ·
          exact T_vret zk_13_157 rfl (fun σ' h => ⟨rfl, h.1, trivial⟩)
        ·
          refine T_ld zk_13_114 rfl rfl rfl (pc' := 115) rfl ?_
          refine T_getR (t' := 2) (i' := c) (k' := 0) zk_13_115 rfl rfl rfl (vd_1 hc) (pc' := 118) rfl ?_
          refine T_ld zk_13_118 rfl rfl rfl (pc' := 119) rfl ?_
          refine G_getf (lo := 0) (hi := 9999) zk_13_119 rfl (vd_1 hc) (fun σ' h => h.1.1) (fun _ h => h.2.2.2.2.2.2 (by omega) (by omega)) (pc' := 122) rfl (fun y53 hy53 hy53' => ?_)
          refine T_callv (J' := (fun σ' => IF (ML c) σ σ' ∧ σ' 1 c 0 14 = y47 ∧ σ' 1 c 0 13 = y49 ∧ True)) (r := []) zk_13_122 rfl rfl rfl rfl rfl rfl (Or.inr ⟨_, _, _, _, rfl, (vd_2 hc), rfl⟩) (fun σ' h => (w_38 c y53 hc (by omega) σ' h.1.1 ).le (Nat.le_of_ble_eq_true rfl) (fun v σ2 ⟨h1, h3, h4⟩ => ⟨h1, h.1.tr h3 (sb51_7d5ee1e c), (h3.2 _ _ _ _ (by first | exact nMI rfl | (unfold MI; omega))).trans (h.2.1), (h3.2 _ _ _ _ (by first | exact nMI rfl | (unfold MI; omega))).trans (h.2.2.1), trivial⟩)) (pc' := 125) rfl ?_
          refine T_op zk_13_125 rfl X_ic (pc' := 126) rfl ?_
          refine T_st (L' := [(0, av 1 c 0), (1, iv x2), (2, iv 0)]) zk_13_126 (nL := 3) rfl rfl rfl rfl rfl (pc' := 127) rfl ?_
          refine G_know (J' := (fun σ' => IF (ML c) σ σ' ∧ True)) (fun σ' h => ⟨h.1, trivial⟩) ?_
          refine T_loop1 (fun x55 => ((12 - x55 : Int)).toNat) (fun x55 => (0 ≤ x55 ∧ x55 ≤ 12)) (fun x55 => TJ xs (fun σ' => IF (ML c) σ σ' ∧ True) 6 13 127 [(0, av 1 c 0), (1, iv x2), (2, iv x55)] [] _) ?_ 0 (by omega)
          intro x55 hp57 ih56
          refine T_ld zk_13_127 rfl rfl rfl (pc' := 128) rfl ?_
          refine T_ld zk_13_128 rfl rfl rfl (pc' := 129) rfl ?_
          refine G_getf (lo := 0) (hi := 12) zk_13_129 rfl (vd_1 hc) (fun σ' h => h.1.1) (fun _ h => h.2.2.1 (by omega) (by omega)) (pc' := 132) rfl (fun y58 hy58 hy58' => ?_)
          refine T_icmp_ge zk_13_132 (by omega) (by omega) (pc' := 135) rfl (fun h59 => ?_) (fun h60 => ?_)
          ·
            exact T_vret zk_13_157 rfl (fun σ' h => ⟨rfl, h.1, trivial⟩)
          ·
            refine T_ld zk_13_135 rfl rfl rfl (pc' := 136) rfl ?_
            refine T_getR (t' := 15) (i' := c) (k' := 0) zk_13_136 rfl rfl rfl (vd_1 hc) (pc' := 139) rfl ?_
            refine T_ld zk_13_139 rfl rfl rfl (pc' := 140) rfl ?_
            refine G_aald (t' := 25) (im := 9) (i' := c) (ln := 12) zk_13_140 rfl rfl rfl (vd_15 hc) (by omega) (by omega) (by omega) (pc' := 141) rfl ?_
            refine T_ld zk_13_141 rfl rfl rfl (pc' := 142) rfl ?_
            refine G_getf (lo := -2147483648) (hi := 2147483647) zk_13_142 rfl (vd_1 hc) (fun σ' h => h.1.1) (fun _ h => (by have q := h.1; omega)) (pc' := 145) rfl (fun y61 hy61 hy61' => ?_)
            refine T_op zk_13_145 rfl (X_bi (v := 96) (by decide)) (pc' := 147) rfl ?_
            refine G_unkD zk_13_147 (by first | exact Or.inl rfl | exact Or.inr rfl) (by omega) (pc' := 148) rfl (fun y62 hy62 hy62' => ?_)
            refine T_callv (J' := (fun σ' => IF (ML c) σ σ' ∧ True)) (r := []) zk_13_148 rfl rfl rfl rfl rfl rfl (Or.inr ⟨_, _, _, _, rfl, (vd_25 hc (by omega)), rfl⟩) (fun σ' h => (w_26 c (Int.toNat x55) y62 hc (by omega) (by omega) σ' h.1.1 ).le (Nat.le_of_ble_eq_true rfl) (fun v σ2 ⟨h1, h3, h4⟩ => ⟨h1, h.1.tr h3 (sb51_384f93d c), trivial⟩)) (pc' := 151) rfl ?_
            refine T_iinc (L' := [(0, av 1 c 0), (1, iv x2), (2, iv (x55 + 1))]) zk_13_151 (nL := 3) rfl rfl rfl rfl (pc' := 154) rfl ?_
            refine T_goto zk_13_154 ?_
            exact ih56 (x55 + 1) (by omega) (by omega)
  ·
    refine T_ld zk_13_16 rfl rfl rfl (pc' := 17) rfl ?_
    refine T_getR (t' := 15) (i' := c) (k' := 0) zk_13_17 rfl rfl rfl (vd_1 hc) (pc' := 20) rfl ?_
    refine T_ld zk_13_20 rfl rfl rfl (pc' := 21) rfl ?_
    refine G_aald (t' := 25) (im := 9) (i' := c) (ln := 12) zk_13_21 rfl rfl rfl (vd_15 hc) (by omega) (by omega) (by omega) (pc' := 22) rfl ?_
    refine T_ld zk_13_22 rfl rfl rfl (pc' := 23) rfl ?_
    refine T_getR (t' := 2) (i' := c) (k' := 0) zk_13_23 rfl rfl rfl (vd_1 hc) (pc' := 26) rfl ?_
    refine T_getR (t' := 4) (i' := c) (k' := 0) zk_13_26 rfl rfl rfl (vd_2 hc) (pc' := 29) rfl ?_
    refine T_ld zk_13_29 rfl rfl rfl (pc' := 30) rfl ?_
    refine T_getR (t' := 15) (i' := c) (k' := 0) zk_13_30 rfl rfl rfl (vd_1 hc) (pc' := 33) rfl ?_
    refine T_ld zk_13_33 rfl rfl rfl (pc' := 34) rfl ?_
    refine G_aald (t' := 25) (im := 9) (i' := c) (ln := 12) zk_13_34 rfl rfl rfl (vd_15 hc) (by omega) (by omega) (by omega) (pc' := 35) rfl ?_
    refine G_getf (lo := 0) (hi := 24) zk_13_35 rfl (vd_25 hc (by omega)) (fun σ' h => h.1.1) (fun _ h => h.2.1 (by omega) (by omega)) (pc' := 38) rfl (fun y64 hy64 hy64' => ?_)
    refine G_iald (lo := -2147483648) (hi := 2147483647) (ln := 25) zk_13_38 rfl rfl (vd_4 hc) (by omega) (by omega) (by omega) (fun σ' h => h.1.1) (fun _ h => (by have q := h.1; omega)) (pc' := 39) rfl (fun y65 hy65 hy65' => ?_)
    refine T_callv (J' := (fun σ' => IF (ML c) σ σ' ∧ True)) (r := []) zk_13_39 rfl rfl rfl rfl rfl rfl (Or.inr ⟨_, _, _, _, rfl, (vd_25 hc (by omega)), rfl⟩) (fun σ' h => (w_25 c (Int.toNat x3) y65 hc (by omega) (by omega) σ' h.1.1 ).le (Nat.le_of_ble_eq_true rfl) (fun v σ2 ⟨h1, h3, h4⟩ => ⟨h1, h.1.tr h3 (sb51_384f93d c), trivial⟩)) (pc' := 42) rfl ?_
    refine T_ld zk_13_42 rfl rfl rfl (pc' := 43) rfl ?_
    refine T_if_ne zk_13_43 (by omega) (pc' := 46) rfl (fun h67 => ?_) (fun h68 => ?_)
    ·
      refine T_op zk_13_58 rfl X_ic (pc' := 59) rfl ?_
      refine T_goto zk_13_59 ?_
      refine T_st (L' := [(0, av 1 c 0), (1, iv 1), (2, iv x3)]) zk_13_63 (nL := 3) rfl rfl rfl rfl rfl (pc' := 64) rfl ?_
      refine T_iinc (L' := [(0, av 1 c 0), (1, iv 1), (2, iv (x3 + 1))]) zk_13_64 (nL := 3) rfl rfl rfl rfl (pc' := 67) rfl ?_
      refine T_goto zk_13_67 ?_
      exact ih4 1 (x3 + 1) (by omega) (by omega)
    ·
      refine T_ld zk_13_46 rfl rfl rfl (pc' := 47) rfl ?_
      refine T_getR (t' := 15) (i' := c) (k' := 0) zk_13_47 rfl rfl rfl (vd_1 hc) (pc' := 50) rfl ?_
      refine T_ld zk_13_50 rfl rfl rfl (pc' := 51) rfl ?_
      refine G_aald (t' := 25) (im := 9) (i' := c) (ln := 12) zk_13_51 rfl rfl rfl (vd_15 hc) (by omega) (by omega) (by omega) (pc' := 52) rfl ?_
      refine G_getf (lo := 0) (hi := 1) zk_13_52 rfl (vd_25 hc (by omega)) (fun σ' h => h.1.1) (fun _ h => h.2.2 (by omega) (by omega)) (pc' := 55) rfl (fun y69 hy69 hy69' => ?_)
      refine T_if_eq zk_13_55 (by omega) (pc' := 58) rfl (fun h70 => ?_) (fun h71 => ?_)
      ·
        refine T_op zk_13_62 rfl X_ic (pc' := 63) rfl ?_
        refine T_st (L' := [(0, av 1 c 0), (1, iv 0), (2, iv x3)]) zk_13_63 (nL := 3) rfl rfl rfl rfl rfl (pc' := 64) rfl ?_
        refine T_iinc (L' := [(0, av 1 c 0), (1, iv 0), (2, iv (x3 + 1))]) zk_13_64 (nL := 3) rfl rfl rfl rfl (pc' := 67) rfl ?_
        refine T_goto zk_13_67 ?_
        exact ih4 0 (x3 + 1) (by omega) (by omega)
      ·
        refine T_op zk_13_58 rfl X_ic (pc' := 59) rfl ?_
        refine T_goto zk_13_59 ?_
        refine T_st (L' := [(0, av 1 c 0), (1, iv 1), (2, iv x3)]) zk_13_63 (nL := 3) rfl rfl rfl rfl rfl (pc' := 64) rfl ?_
        refine T_iinc (L' := [(0, av 1 c 0), (1, iv 1), (2, iv (x3 + 1))]) zk_13_64 (nL := 3) rfl rfl rfl rfl (pc' := 67) rfl ?_
        refine T_goto zk_13_67 ?_
        exact ih4 1 (x3 + 1) (by omega) (by omega)
