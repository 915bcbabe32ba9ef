theorem zk_1_0 : zc 1 0 = some (.aload_n 0, 0, 0, 0, 0) := rfl
theorem zk_1_1 : zc 1 1 = some (.iload_n 1, 0, 0, 0, 0) := rfl
theorem zk_1_2 : zc 1 2 = some (.putfield 15, 0, 0, 0, 1) := rfl
theorem zk_1_5 : zc 1 5 = some (.aload_n 0, 0, 0, 0, 0) := rfl
theorem zk_1_6 : zc 1 6 = some (.iload_n 2, 0, 0, 0, 0) := rfl
theorem zk_1_7 : zc 1 7 = some (.putfield 18, 0, 1, 0, 2) := rfl
theorem zk_1_10 : zc 1 10 = some (.aload_n 0, 0, 0, 0, 0) := rfl
theorem zk_1_11 : zc 1 11 = some (.iload_n 3, 0, 0, 0, 0) := rfl
theorem zk_1_12 : zc 1 12 = some (.putfield 21, 0, 2, 0, 3) := rfl
theorem zk_1_15 : zc 1 15 = some (.aload_n 0, 0, 0, 0, 0) := rfl
theorem zk_1_16 : zc 1 16 = some (.iload 4, 0, 0, 0, 0) := rfl
theorem zk_1_18 : zc 1 18 = some (.putfield 24, 0, 3, 0, 4) := rfl
theorem zk_1_21 : zc 1 21 = some (.aload_n 0, 0, 0, 0, 0) := rfl
theorem zk_1_22 : zc 1 22 = some (.iload 5, 0, 0, 0, 0) := rfl
theorem zk_1_24 : zc 1 24 = some (.putfield 27, 0, 4, 0, 5) := rfl
theorem zk_1_27 : zc 1 27 = some (.aload_n 0, 0, 0, 0, 0) := rfl
theorem zk_1_28 : zc 1 28 = some (.iconst (-1), 0, 0, 0, 0) := rfl
theorem zk_1_29 : zc 1 29 = some (.putfield 9, 0, 5, 0, 0) := rfl
theorem zk_1_32 : zc 1 32 = some (.aload_n 0, 0, 0, 0, 0) := rfl
theorem zk_1_33 : zc 1 33 = some (.iconst 0, 0, 0, 0, 0) := rfl
theorem zk_1_34 : zc 1 34 = some (.putfield 30, 0, 6, 0, 6) := rfl
theorem zk_1_37 : zc 1 37 = some (.aload_n 0, 0, 0, 0, 0) := rfl
theorem zk_1_38 : zc 1 38 = some (.iconst 0, 0, 0, 0, 0) := rfl
theorem zk_1_39 : zc 1 39 = some (.putfield 33, 0, 7, 0, 7) := rfl
theorem zk_1_42 : zc 1 42 = some (.aload_n 0, 0, 0, 0, 0) := rfl
theorem zk_1_43 : zc 1 43 = some (.iconst 0, 0, 0, 0, 0) := rfl
theorem zk_1_44 : zc 1 44 = some (.putfield 36, 0, 8, 0, 8) := rfl
theorem zk_1_47 : zc 1 47 = some (.aload_n 0, 0, 0, 0, 0) := rfl
theorem zk_1_48 : zc 1 48 = some (.iconst 0, 0, 0, 0, 0) := rfl
theorem zk_1_49 : zc 1 49 = some (.putfield 39, 0, 9, 0, 9) := rfl
theorem zk_1_52 : zc 1 52 = some (.return_, 0, 0, 0, 0) := rfl
theorem zk_10_0 : zc 10 0 = some (.iload_n 1, 0, 0, 0, 0) := rfl
theorem zk_10_1 : zc 10 1 = some (.ifCond .eq 10, 11, 0, 0, 0) := rfl
theorem zk_10_4 : zc 10 4 = some (.aload_n 0, 0, 0, 0, 0) := rfl
theorem zk_10_5 : zc 10 5 = some (.getfield 50, 2, 9, 0, 17) := rfl
theorem zk_10_8 : zc 10 8 = some (.goto 7, 15, 0, 0, 0) := rfl
theorem zk_10_11 : zc 10 11 = some (.aload_n 0, 0, 0, 0, 0) := rfl
theorem zk_10_12 : zc 10 12 = some (.getfield 46, 2, 8, 0, 16) := rfl
theorem zk_10_15 : zc 10 15 = some (.areturn, 0, 0, 0, 0) := rfl
theorem zk_11_0 : zc 11 0 = some (.aload_n 0, 0, 0, 0, 0) := rfl
theorem zk_11_1 : zc 11 1 = some (.getfield 50, 2, 9, 0, 17) := rfl
theorem zk_11_4 : zc 11 4 = some (.aload_n 0, 0, 0, 0, 0) := rfl
theorem zk_11_5 : zc 11 5 = some (.getfield 75, 2, 13, 0, 22) := rfl
theorem zk_11_8 : zc 11 8 = some (.invokevirtual 78, 73, 0, 2, 17) := rfl
theorem zk_11_11 : zc 11 11 = some (.istore_n 1, 0, 0, 0, 0) := rfl
theorem zk_11_12 : zc 11 12 = some (.iconst 1, 0, 0, 0, 0) := rfl
theorem zk_11_13 : zc 11 13 = some (.istore_n 2, 0, 0, 0, 0) := rfl
theorem zk_11_14 : zc 11 14 = some (.iload_n 2, 0, 0, 0, 0) := rfl
theorem zk_11_15 : zc 11 15 = some (.bipush 8, 0, 0, 0, 0) := rfl
theorem zk_11_17 : zc 11 17 = some (.if_icmp .ge 27, 44, 0, 0, 0) := rfl
theorem zk_11_20 : zc 11 20 = some (.iload_n 1, 0, 0, 0, 0) := rfl
theorem zk_11_21 : zc 11 21 = some (.aload_n 0, 0, 0, 0, 0) := rfl
theorem zk_11_22 : zc 11 22 = some (.getfield 50, 2, 9, 0, 17) := rfl
theorem zk_11_25 : zc 11 25 = some (.aload_n 0, 0, 0, 0, 0) := rfl
theorem zk_11_26 : zc 11 26 = some (.getfield 75, 2, 13, 0, 22) := rfl
theorem zk_11_29 : zc 11 29 = some (.iload_n 2, 0, 0, 0, 0) := rfl
theorem zk_11_30 : zc 11 30 = some (.iadd, 0, 0, 0, 0) := rfl
theorem zk_11_31 : zc 11 31 = some (.invokevirtual 78, 73, 0, 2, 17) := rfl
theorem zk_11_34 : zc 11 34 = some (.invokestatic 82, 0, 7, 0, 18) := rfl
theorem zk_11_37 : zc 11 37 = some (.istore_n 1, 0, 0, 0, 0) := rfl
theorem zk_11_38 : zc 11 38 = some (.iinc 2 1, 0, 0, 0, 0) := rfl
theorem zk_11_41 : zc 11 41 = some (.goto (-27), 14, 0, 0, 0) := rfl
theorem zk_11_44 : zc 11 44 = some (.aload_n 0, 0, 0, 0, 0) := rfl
theorem zk_11_45 : zc 11 45 = some (.getfield 64, 2, 18, 0, 20) := rfl
theorem zk_11_48 : zc 11 48 = some (.iconst 0, 0, 0, 0, 0) := rfl
theorem zk_11_49 : zc 11 49 = some (.iload_n 1, 0, 0, 0, 0) := rfl
theorem zk_11_50 : zc 11 50 = some (.aload_n 0, 0, 0, 0, 0) := rfl
theorem zk_11_51 : zc 11 51 = some (.getfield 88, 2, 10, 0, 23) := rfl
theorem zk_11_54 : zc 11 54 = some (.iadd, 0, 0, 0, 0) := rfl
theorem zk_11_55 : zc 11 55 = some (.iastore, 0, 0, 0, 0) := rfl
theorem zk_11_56 : zc 11 56 = some (.aload_n 0, 0, 0, 0, 0) := rfl
theorem zk_11_57 : zc 11 57 = some (.getfield 64, 2, 18, 0, 20) := rfl
theorem zk_11_60 : zc 11 60 = some (.iconst 1, 0, 0, 0, 0) := rfl
theorem zk_11_61 : zc 11 61 = some (.aload_n 0, 0, 0, 0, 0) := rfl
theorem zk_11_62 : zc 11 62 = some (.getfield 50, 2, 9, 0, 17) := rfl
theorem zk_11_65 : zc 11 65 = some (.aload_n 0, 0, 0, 0, 0) := rfl
theorem zk_11_66 : zc 11 66 = some (.getfield 75, 2, 13, 0, 22) := rfl
theorem zk_11_69 : zc 11 69 = some (.invokevirtual 78, 73, 0, 2, 17) := rfl
theorem zk_11_72 : zc 11 72 = some (.iastore, 0, 0, 0, 0) := rfl
theorem zk_11_73 : zc 11 73 = some (.aload_n 0, 0, 0, 0, 0) := rfl
theorem zk_11_74 : zc 11 74 = some (.getfield 64, 2, 18, 0, 20) := rfl
theorem zk_11_77 : zc 11 77 = some (.iconst 2, 0, 0, 0, 0) := rfl
theorem zk_11_78 : zc 11 78 = some (.aload_n 0, 0, 0, 0, 0) := rfl
theorem zk_11_79 : zc 11 79 = some (.getfield 12, 2, 0, 0, 11) := rfl
theorem zk_11_82 : zc 11 82 = some (.invokevirtual 91, 33, 0, 1, 19) := rfl
theorem zk_11_85 : zc 11 85 = some (.iastore, 0, 0, 0, 0) := rfl
theorem zk_11_86 : zc 11 86 = some (.aload_n 0, 0, 0, 0, 0) := rfl
theorem zk_11_87 : zc 11 87 = some (.getfield 64, 2, 18, 0, 20) := rfl
theorem zk_11_90 : zc 11 90 = some (.iconst 3, 0, 0, 0, 0) := rfl
theorem zk_11_91 : zc 11 91 = some (.aload_n 0, 0, 0, 0, 0) := rfl
theorem zk_11_92 : zc 11 92 = some (.getfield 75, 2, 13, 0, 22) := rfl
theorem zk_11_95 : zc 11 95 = some (.iconst 4, 0, 0, 0, 0) := rfl
theorem zk_11_96 : zc 11 96 = some (.idiv, 0, 0, 0, 0) := rfl
theorem zk_11_97 : zc 11 97 = some (.bipush 24, 0, 0, 0, 0) := rfl
theorem zk_11_99 : zc 11 99 = some (.irem, 0, 0, 0, 0) := rfl
theorem zk_11_100 : zc 11 100 = some (.iastore, 0, 0, 0, 0) := rfl
theorem zk_11_101 : zc 11 101 = some (.aload_n 0, 0, 0, 0, 0) := rfl
theorem zk_11_102 : zc 11 102 = some (.getfield 64, 2, 18, 0, 20) := rfl
theorem zk_11_105 : zc 11 105 = some (.iconst 4, 0, 0, 0, 0) := rfl
theorem zk_11_106 : zc 11 106 = some (.aload_n 0, 0, 0, 0, 0) := rfl
theorem zk_11_107 : zc 11 107 = some (.invokevirtual 95, 18, 0, 1, 20) := rfl
theorem zk_11_110 : zc 11 110 = some (.iastore, 0, 0, 0, 0) := rfl
theorem zk_11_111 : zc 11 111 = some (.aload_n 0, 0, 0, 0, 0) := rfl
theorem zk_11_112 : zc 11 112 = some (.getfield 64, 2, 18, 0, 20) := rfl
theorem zk_11_115 : zc 11 115 = some (.iconst 5, 0, 0, 0, 0) := rfl
theorem zk_11_116 : zc 11 116 = some (.aload_n 0, 0, 0, 0, 0) := rfl
theorem zk_11_117 : zc 11 117 = some (.getfield 75, 2, 13, 0, 22) := rfl
theorem zk_11_120 : zc 11 120 = some (.bipush 96, 0, 0, 0, 0) := rfl
theorem zk_11_122 : zc 11 122 = some (.idiv, 0, 0, 0, 0) := rfl
theorem zk_11_123 : zc 11 123 = some (.iastore, 0, 0, 0, 0) := rfl
theorem zk_11_124 : zc 11 124 = some (.return_, 0, 0, 0, 0) := rfl
theorem zk_12_0 : zc 12 0 = some (.aload_n 0, 0, 0, 0, 0) := rfl
theorem zk_12_1 : zc 12 1 = some (.invokevirtual 98, 11, 0, 1, 21) := rfl
theorem zk_12_4 : zc 12 4 = some (.aload_n 0, 0, 0, 0, 0) := rfl
theorem zk_12_5 : zc 12 5 = some (.invokevirtual 101, 14, 0, 1, 22) := rfl
theorem zk_12_8 : zc 12 8 = some (.aload_n 0, 0, 0, 0, 0) := rfl
theorem zk_12_9 : zc 12 9 = some (.iload_n 1, 0, 0, 0, 0) := rfl
theorem zk_12_10 : zc 12 10 = some (.invokevirtual 104, 10, 0, 2, 23) := rfl
theorem zk_12_13 : zc 12 13 = some (.aload_n 0, 0, 0, 0, 0) := rfl
theorem zk_12_14 : zc 12 14 = some (.getfield 75, 2, 13, 0, 22) := rfl
theorem zk_12_17 : zc 12 17 = some (.invokevirtual 78, 73, 0, 2, 17) := rfl
theorem zk_12_20 : zc 12 20 = some (.istore_n 2, 0, 0, 0, 0) := rfl
theorem zk_12_21 : zc 12 21 = some (.aload_n 0, 0, 0, 0, 0) := rfl
theorem zk_12_22 : zc 12 22 = some (.getfield 21, 2, 1, 0, 12) := rfl
theorem zk_12_25 : zc 12 25 = some (.invokevirtual 108, 63, 0, 1, 24) := rfl
theorem zk_12_28 : zc 12 28 = some (.ifCond .le 23, 51, 0, 0, 0) := rfl
theorem zk_12_51 : zc 12 51 = some (.iconst 0, 0, 0, 0, 0) := rfl
theorem zk_12_52 : zc 12 52 = some (.istore_n 3, 0, 0, 0, 0) := rfl
theorem zk_12_53 : zc 12 53 = some (.iload_n 3, 0, 0, 0, 0) := rfl
theorem zk_12_54 : zc 12 54 = some (.aload_n 0, 0, 0, 0, 0) := rfl
theorem zk_12_55 : zc 12 55 = some (.getfield 21, 2, 1, 0, 12) := rfl
theorem zk_12_58 : zc 12 58 = some (.getfield 114, 7, 0, 0, 25) := rfl
theorem zk_12_61 : zc 12 61 = some (.if_icmp .ge 74, 135, 0, 0, 0) := rfl
theorem zk_12_135 : zc 12 135 = some (.aload_n 0, 0, 0, 0, 0) := rfl
theorem zk_12_136 : zc 12 136 = some (.getfield 12, 2, 0, 0, 11) := rfl
theorem zk_12_139 : zc 12 139 = some (.invokevirtual 129, 35, 0, 1, 25) := rfl
theorem zk_12_142 : zc 12 142 = some (.return_, 0, 0, 0, 0) := rfl
theorem zk_13_0 : zc 13 0 = some (.aload_n 0, 0, 0, 0, 0) := rfl
theorem zk_13_1 : zc 13 1 = some (.invokevirtual 132, 15, 0, 1, 26) := rfl
theorem zk_13_4 : zc 13 4 = some (.iconst 0, 0, 0, 0, 0) := rfl
theorem zk_13_5 : zc 13 5 = some (.istore_n 1, 0, 0, 0, 0) := rfl
theorem zk_13_6 : zc 13 6 = some (.iconst 0, 0, 0, 0, 0) := rfl
theorem zk_13_7 : zc 13 7 = some (.istore_n 2, 0, 0, 0, 0) := rfl
theorem zk_13_8 : zc 13 8 = some (.iload_n 2, 0, 0, 0, 0) := rfl
theorem zk_13_9 : zc 13 9 = some (.aload_n 0, 0, 0, 0, 0) := rfl
theorem zk_13_10 : zc 13 10 = some (.getfield 135, 2, 6, 0, 30) := rfl
theorem zk_13_13 : zc 13 13 = some (.if_icmp .ge 57, 70, 0, 0, 0) := rfl
theorem zk_13_70 : zc 13 70 = some (.iload_n 1, 0, 0, 0, 0) := rfl
theorem zk_13_71 : zc 13 71 = some (.ifCond .eq 23, 94, 0, 0, 0) := rfl
theorem zk_13_94 : zc 13 94 = some (.aload_n 0, 0, 0, 0, 0) := rfl
theorem zk_13_95 : zc 13 95 = some (.dup, 0, 0, 0, 0) := rfl
theorem zk_13_96 : zc 13 96 = some (.getfield 75, 2, 13, 0, 22) := rfl
theorem zk_13_99 : zc 13 99 = some (.iconst 1, 0, 0, 0, 0) := rfl
theorem zk_13_100 : zc 13 100 = some (.iadd, 0, 0, 0, 0) := rfl
theorem zk_13_101 : zc 13 101 = some (.putfield 75, 2, 13, 0, 22) := rfl
theorem zk_13_104 : zc 13 104 = some (.aload_n 0, 0, 0, 0, 0) := rfl
theorem zk_13_105 : zc 13 105 = some (.getfield 75, 2, 13, 0, 22) := rfl
theorem zk_13_108 : zc 13 108 = some (.bipush 96, 0, 0, 0, 0) := rfl
theorem zk_13_110 : zc 13 110 = some (.irem, 0, 0, 0, 0) := rfl
theorem zk_13_111 : zc 13 111 = some (.ifCond .ne 46, 157, 0, 0, 0) := rfl
theorem zk_13_114 : zc 13 114 = some (.aload_n 0, 0, 0, 0, 0) := rfl
theorem zk_13_115 : zc 13 115 = some (.getfield 12, 2, 0, 0, 11) := rfl
theorem zk_13_118 : zc 13 118 = some (.aload_n 0, 0, 0, 0, 0) := rfl
theorem zk_13_119 : zc 13 119 = some (.getfield 152, 2, 12, 0, 34) := rfl
theorem zk_13_122 : zc 13 122 = some (.invokevirtual 155, 38, 0, 2, 28) := rfl
theorem zk_13_125 : zc 13 125 = some (.iconst 0, 0, 0, 0, 0) := rfl
theorem zk_13_126 : zc 13 126 = some (.istore_n 2, 0, 0, 0, 0) := rfl
theorem zk_13_127 : zc 13 127 = some (.iload_n 2, 0, 0, 0, 0) := rfl
theorem zk_13_128 : zc 13 128 = some (.aload_n 0, 0, 0, 0, 0) := rfl
theorem zk_13_129 : zc 13 129 = some (.getfield 135, 2, 6, 0, 30) := rfl
theorem zk_13_132 : zc 13 132 = some (.if_icmp .ge 25, 157, 0, 0, 0) := rfl
theorem zk_13_157 : zc 13 157 = some (.return_, 0, 0, 0, 0) := rfl
theorem zk_14_0 : zc 14 0 = some (.iconst 0, 0, 0, 0, 0) := rfl
theorem zk_14_1 : zc 14 1 = some (.istore_n 1, 0, 0, 0, 0) := rfl
theorem zk_14_2 : zc 14 2 = some (.iload_n 1, 0, 0, 0, 0) := rfl
theorem zk_14_3 : zc 14 3 = some (.aload_n 0, 0, 0, 0, 0) := rfl
theorem zk_14_4 : zc 14 4 = some (.getfield 21, 2, 1, 0, 12) := rfl
theorem zk_14_7 : zc 14 7 = some (.getfield 114, 7, 0, 0, 25) := rfl
theorem zk_14_10 : zc 14 10 = some (.if_icmp .ge 101, 111, 0, 0, 0) := rfl
theorem zk_14_111 : zc 14 111 = some (.return_, 0, 0, 0, 0) := rfl
theorem zk_15_0 : zc 15 0 = some (.iconst 0, 0, 0, 0, 0) := rfl
theorem zk_15_1 : zc 15 1 = some (.istore_n 1, 0, 0, 0, 0) := rfl
theorem zk_15_2 : zc 15 2 = some (.iload_n 1, 0, 0, 0, 0) := rfl
theorem zk_15_3 : zc 15 3 = some (.bipush 40, 0, 0, 0, 0) := rfl
theorem zk_15_5 : zc 15 5 = some (.if_icmp .ge 16, 21, 0, 0, 0) := rfl
theorem zk_15_8 : zc 15 8 = some (.aload_n 0, 0, 0, 0, 0) := rfl
theorem zk_15_9 : zc 15 9 = some (.getfield 68, 2, 19, 0, 21) := rfl
theorem zk_15_12 : zc 15 12 = some (.iload_n 1, 0, 0, 0, 0) := rfl
theorem zk_15_13 : zc 15 13 = some (.iconst 0, 0, 0, 0, 0) := rfl
theorem zk_15_14 : zc 15 14 = some (.bastore, 0, 0, 0, 0) := rfl
theorem zk_15_15 : zc 15 15 = some (.iinc 1 1, 0, 0, 0, 0) := rfl
theorem zk_15_18 : zc 15 18 = some (.goto (-16), 2, 0, 0, 0) := rfl
theorem zk_15_21 : zc 15 21 = some (.bipush 9, 0, 0, 0, 0) := rfl
theorem zk_15_23 : zc 15 23 = some (.istore_n 1, 0, 0, 0, 0) := rfl
theorem zk_15_24 : zc 15 24 = some (.iload_n 1, 0, 0, 0, 0) := rfl
theorem zk_15_25 : zc 15 25 = some (.ifCond .lt 61, 86, 0, 0, 0) := rfl
theorem zk_15_28 : zc 15 28 = some (.iconst 0, 0, 0, 0, 0) := rfl
theorem zk_15_29 : zc 15 29 = some (.istore_n 2, 0, 0, 0, 0) := rfl
theorem zk_15_30 : zc 15 30 = some (.iload_n 2, 0, 0, 0, 0) := rfl
theorem zk_15_31 : zc 15 31 = some (.aload_n 0, 0, 0, 0, 0) := rfl
theorem zk_15_32 : zc 15 32 = some (.getfield 172, 2, 7, 0, 38) := rfl
theorem zk_15_35 : zc 15 35 = some (.if_icmp .ge 45, 80, 0, 0, 0) := rfl
theorem zk_15_80 : zc 15 80 = some (.iinc 1 (-1), 0, 0, 0, 0) := rfl
theorem zk_15_83 : zc 15 83 = some (.goto (-59), 24, 0, 0, 0) := rfl
theorem zk_15_86 : zc 15 86 = some (.return_, 0, 0, 0, 0) := rfl
theorem zk_22_0 : zc 22 0 = some (.aload_n 0, 0, 0, 0, 0) := rfl
theorem zk_22_1 : zc 22 1 = some (.getfield 12, 2, 0, 0, 11) := rfl
theorem zk_22_4 : zc 22 4 = some (.aload_n 1, 0, 0, 0, 0) := rfl
theorem zk_22_5 : zc 22 5 = some (.getfield 12, 2, 0, 0, 11) := rfl
theorem zk_22_8 : zc 22 8 = some (.invokevirtual 227, 39, 0, 2, 38) := rfl
theorem zk_22_11 : zc 22 11 = some (.aload_n 0, 0, 0, 0, 0) := rfl
theorem zk_22_12 : zc 22 12 = some (.getfield 21, 2, 1, 0, 12) := rfl
theorem zk_22_15 : zc 22 15 = some (.aload_n 1, 0, 0, 0, 0) := rfl
theorem zk_22_16 : zc 22 16 = some (.getfield 21, 2, 1, 0, 12) := rfl
theorem zk_22_19 : zc 22 19 = some (.invokevirtual 231, 64, 0, 2, 39) := rfl
theorem zk_22_22 : zc 22 22 = some (.aload_n 0, 0, 0, 0, 0) := rfl
theorem zk_22_23 : zc 22 23 = some (.getfield 46, 2, 8, 0, 16) := rfl
theorem zk_22_26 : zc 22 26 = some (.aload_n 1, 0, 0, 0, 0) := rfl
theorem zk_22_27 : zc 22 27 = some (.getfield 46, 2, 8, 0, 16) := rfl
theorem zk_22_30 : zc 22 30 = some (.invokevirtual 235, 72, 0, 2, 40) := rfl
theorem zk_22_33 : zc 22 33 = some (.aload_n 0, 0, 0, 0, 0) := rfl
theorem zk_22_34 : zc 22 34 = some (.getfield 50, 2, 9, 0, 17) := rfl
theorem zk_22_37 : zc 22 37 = some (.aload_n 1, 0, 0, 0, 0) := rfl
theorem zk_22_38 : zc 22 38 = some (.getfield 50, 2, 9, 0, 17) := rfl
theorem zk_22_41 : zc 22 41 = some (.invokevirtual 235, 72, 0, 2, 40) := rfl
theorem zk_22_44 : zc 22 44 = some (.aload_n 0, 0, 0, 0, 0) := rfl
theorem zk_22_45 : zc 22 45 = some (.aload_n 1, 0, 0, 0, 0) := rfl
theorem zk_22_46 : zc 22 46 = some (.getfield 159, 2, 5, 0, 35) := rfl
theorem zk_22_49 : zc 22 49 = some (.putfield 159, 2, 5, 0, 35) := rfl
theorem zk_22_52 : zc 22 52 = some (.iconst 0, 0, 0, 0, 0) := rfl
theorem zk_22_53 : zc 22 53 = some (.istore_n 2, 0, 0, 0, 0) := rfl
theorem zk_22_54 : zc 22 54 = some (.iload_n 2, 0, 0, 0, 0) := rfl
theorem zk_22_55 : zc 22 55 = some (.aload_n 0, 0, 0, 0, 0) := rfl
theorem zk_22_56 : zc 22 56 = some (.getfield 159, 2, 5, 0, 35) := rfl
theorem zk_22_59 : zc 22 59 = some (.if_icmp .ge 24, 83, 0, 0, 0) := rfl
theorem zk_22_83 : zc 22 83 = some (.aload_n 0, 0, 0, 0, 0) := rfl
theorem zk_22_84 : zc 22 84 = some (.aload_n 1, 0, 0, 0, 0) := rfl
theorem zk_22_85 : zc 22 85 = some (.getfield 135, 2, 6, 0, 30) := rfl
theorem zk_22_88 : zc 22 88 = some (.putfield 135, 2, 6, 0, 30) := rfl
theorem zk_22_91 : zc 22 91 = some (.iconst 0, 0, 0, 0, 0) := rfl
theorem zk_22_92 : zc 22 92 = some (.istore_n 2, 0, 0, 0, 0) := rfl
theorem zk_22_93 : zc 22 93 = some (.iload_n 2, 0, 0, 0, 0) := rfl
theorem zk_22_94 : zc 22 94 = some (.aload_n 0, 0, 0, 0, 0) := rfl
theorem zk_22_95 : zc 22 95 = some (.getfield 135, 2, 6, 0, 30) := rfl
theorem zk_22_98 : zc 22 98 = some (.if_icmp .ge 24, 122, 0, 0, 0) := rfl
theorem zk_22_122 : zc 22 122 = some (.aload_n 0, 0, 0, 0, 0) := rfl
theorem zk_22_123 : zc 22 123 = some (.aload_n 1, 0, 0, 0, 0) := rfl
theorem zk_22_124 : zc 22 124 = some (.getfield 172, 2, 7, 0, 38) := rfl
theorem zk_22_127 : zc 22 127 = some (.putfield 172, 2, 7, 0, 38) := rfl
theorem zk_22_130 : zc 22 130 = some (.iconst 0, 0, 0, 0, 0) := rfl
theorem zk_22_131 : zc 22 131 = some (.istore_n 2, 0, 0, 0, 0) := rfl
theorem zk_22_132 : zc 22 132 = some (.iload_n 2, 0, 0, 0, 0) := rfl
theorem zk_22_133 : zc 22 133 = some (.aload_n 0, 0, 0, 0, 0) := rfl
theorem zk_22_134 : zc 22 134 = some (.getfield 172, 2, 7, 0, 38) := rfl
theorem zk_22_137 : zc 22 137 = some (.if_icmp .ge 24, 161, 0, 0, 0) := rfl
theorem zk_22_161 : zc 22 161 = some (.aload_n 0, 0, 0, 0, 0) := rfl
theorem zk_22_162 : zc 22 162 = some (.aload_n 1, 0, 0, 0, 0) := rfl
theorem zk_22_163 : zc 22 163 = some (.getfield 88, 2, 10, 0, 23) := rfl
theorem zk_22_166 : zc 22 166 = some (.putfield 88, 2, 10, 0, 23) := rfl
theorem zk_22_169 : zc 22 169 = some (.aload_n 0, 0, 0, 0, 0) := rfl
theorem zk_22_170 : zc 22 170 = some (.aload_n 1, 0, 0, 0, 0) := rfl
theorem zk_22_171 : zc 22 171 = some (.getfield 53, 2, 11, 0, 18) := rfl
theorem zk_22_174 : zc 22 174 = some (.putfield 53, 2, 11, 0, 18) := rfl
theorem zk_22_177 : zc 22 177 = some (.aload_n 0, 0, 0, 0, 0) := rfl
theorem zk_22_178 : zc 22 178 = some (.aload_n 1, 0, 0, 0, 0) := rfl
theorem zk_22_179 : zc 22 179 = some (.getfield 152, 2, 12, 0, 34) := rfl
theorem zk_22_182 : zc 22 182 = some (.putfield 152, 2, 12, 0, 34) := rfl
theorem zk_22_185 : zc 22 185 = some (.aload_n 0, 0, 0, 0, 0) := rfl
theorem zk_22_186 : zc 22 186 = some (.aload_n 1, 0, 0, 0, 0) := rfl
theorem zk_22_187 : zc 22 187 = some (.getfield 75, 2, 13, 0, 22) := rfl
theorem zk_22_190 : zc 22 190 = some (.putfield 75, 2, 13, 0, 22) := rfl
theorem zk_22_193 : zc 22 193 = some (.aload_n 0, 0, 0, 0, 0) := rfl
theorem zk_22_194 : zc 22 194 = some (.aload_n 1, 0, 0, 0, 0) := rfl
theorem zk_22_195 : zc 22 195 = some (.getfield 149, 2, 14, 0, 33) := rfl
theorem zk_22_198 : zc 22 198 = some (.putfield 149, 2, 14, 0, 33) := rfl
theorem zk_22_201 : zc 22 201 = some (.aload_n 0, 0, 0, 0, 0) := rfl
theorem zk_22_202 : zc 22 202 = some (.aload_n 1, 0, 0, 0, 0) := rfl
theorem zk_22_203 : zc 22 203 = some (.getfield 111, 2, 15, 0, 24) := rfl
theorem zk_22_206 : zc 22 206 = some (.putfield 111, 2, 15, 0, 24) := rfl
theorem zk_22_209 : zc 22 209 = some (.aload_n 0, 0, 0, 0, 0) := rfl
theorem zk_22_210 : zc 22 210 = some (.aload_n 1, 0, 0, 0, 0) := rfl
theorem zk_22_211 : zc 22 211 = some (.getfield 126, 2, 16, 0, 29) := rfl
theorem zk_22_214 : zc 22 214 = some (.putfield 126, 2, 16, 0, 29) := rfl
theorem zk_22_217 : zc 22 217 = some (.return_, 0, 0, 0, 0) := rfl
theorem zk_24_0 : zc 24 0 = some (.aload_n 0, 0, 0, 0, 0) := rfl
theorem zk_24_1 : zc 24 1 = some (.iload_n 1, 0, 0, 0, 0) := rfl
theorem zk_24_2 : zc 24 2 = some (.putfield 9, 3, 0, 0, 49) := rfl
theorem zk_24_5 : zc 24 5 = some (.aload_n 0, 0, 0, 0, 0) := rfl
theorem zk_24_6 : zc 24 6 = some (.iload_n 2, 0, 0, 0, 0) := rfl
theorem zk_24_7 : zc 24 7 = some (.putfield 15, 3, 1, 0, 50) := rfl
theorem zk_24_10 : zc 24 10 = some (.aload_n 0, 0, 0, 0, 0) := rfl
theorem zk_24_11 : zc 24 11 = some (.iload_n 3, 0, 0, 0, 0) := rfl
theorem zk_24_12 : zc 24 12 = some (.putfield 18, 3, 2, 0, 51) := rfl
theorem zk_24_15 : zc 24 15 = some (.aload_n 0, 0, 0, 0, 0) := rfl
theorem zk_24_16 : zc 24 16 = some (.iload 4, 0, 0, 0, 0) := rfl
theorem zk_24_18 : zc 24 18 = some (.putfield 21, 3, 3, 0, 52) := rfl
theorem zk_24_21 : zc 24 21 = some (.aload_n 0, 0, 0, 0, 0) := rfl
theorem zk_24_22 : zc 24 22 = some (.iload 5, 0, 0, 0, 0) := rfl
theorem zk_24_24 : zc 24 24 = some (.putfield 24, 3, 4, 0, 53) := rfl
theorem zk_24_27 : zc 24 27 = some (.aload_n 0, 0, 0, 0, 0) := rfl
theorem zk_24_28 : zc 24 28 = some (.iconst 0, 0, 0, 0, 0) := rfl
theorem zk_24_29 : zc 24 29 = some (.putfield 27, 3, 5, 0, 54) := rfl
theorem zk_24_32 : zc 24 32 = some (.aload_n 0, 0, 0, 0, 0) := rfl
theorem zk_24_33 : zc 24 33 = some (.iconst 0, 0, 0, 0, 0) := rfl
theorem zk_24_34 : zc 24 34 = some (.putfield 30, 3, 6, 0, 55) := rfl
theorem zk_24_37 : zc 24 37 = some (.aload_n 0, 0, 0, 0, 0) := rfl
theorem zk_24_38 : zc 24 38 = some (.iconst 0, 0, 0, 0, 0) := rfl
theorem zk_24_39 : zc 24 39 = some (.putfield 33, 3, 7, 0, 56) := rfl
theorem zk_24_42 : zc 24 42 = some (.aload_n 0, 0, 0, 0, 0) := rfl
theorem zk_24_43 : zc 24 43 = some (.iconst 0, 0, 0, 0, 0) := rfl
theorem zk_24_44 : zc 24 44 = some (.putfield 36, 3, 8, 0, 57) := rfl
theorem zk_24_47 : zc 24 47 = some (.aload_n 0, 0, 0, 0, 0) := rfl
theorem zk_24_48 : zc 24 48 = some (.iconst 0, 0, 0, 0, 0) := rfl
theorem zk_24_49 : zc 24 49 = some (.putfield 39, 3, 9, 0, 58) := rfl
theorem zk_24_52 : zc 24 52 = some (.return_, 0, 0, 0, 0) := rfl
theorem zk_35_0 : zc 35 0 = some (.aload_n 0, 0, 0, 0, 0) := rfl
theorem zk_35_1 : zc 35 1 = some (.getfield 15, 4, 1, 0, 60) := rfl
theorem zk_35_4 : zc 35 4 = some (.iconst 0, 0, 0, 0, 0) := rfl
theorem zk_35_5 : zc 35 5 = some (.aload_n 0, 0, 0, 0, 0) := rfl
theorem zk_35_6 : zc 35 6 = some (.getfield 34, 4, 7, 0, 66) := rfl
theorem zk_35_9 : zc 35 9 = some (.iconst 0, 0, 0, 0, 0) := rfl
theorem zk_35_10 : zc 35 10 = some (.bipush 25, 0, 0, 0, 0) := rfl
theorem zk_35_12 : zc 35 12 = some (.invokestatic 56, 0, 6, 0, 51) := rfl
theorem zk_35_15 : zc 35 15 = some (.iconst 0, 0, 0, 0, 0) := rfl
theorem zk_35_16 : zc 35 16 = some (.istore_n 1, 0, 0, 0, 0) := rfl
theorem zk_35_17 : zc 35 17 = some (.iload_n 1, 0, 0, 0, 0) := rfl
theorem zk_35_18 : zc 35 18 = some (.bipush 40, 0, 0, 0, 0) := rfl
theorem zk_35_20 : zc 35 20 = some (.if_icmp .ge 95, 115, 0, 0, 0) := rfl
theorem zk_35_23 : zc 35 23 = some (.aload_n 0, 0, 0, 0, 0) := rfl
theorem zk_35_24 : zc 35 24 = some (.getfield 27, 4, 5, 0, 64) := rfl
theorem zk_35_27 : zc 35 27 = some (.iload_n 1, 0, 0, 0, 0) := rfl
theorem zk_35_28 : zc 35 28 = some (.baload, 0, 0, 0, 0) := rfl
theorem zk_35_29 : zc 35 29 = some (.ifCond .ne 80, 109, 0, 0, 0) := rfl
theorem zk_35_32 : zc 35 32 = some (.iload_n 1, 0, 0, 0, 0) := rfl
theorem zk_35_33 : zc 35 33 = some (.invokestatic 62, 31, 1, 1, 52) := rfl
theorem zk_35_36 : zc 35 36 = some (.istore_n 2, 0, 0, 0, 0) := rfl
theorem zk_35_37 : zc 35 37 = some (.iload_n 1, 0, 0, 0, 0) := rfl
theorem zk_35_38 : zc 35 38 = some (.invokestatic 66, 32, 1, 1, 53) := rfl
theorem zk_35_41 : zc 35 41 = some (.istore_n 3, 0, 0, 0, 0) := rfl
theorem zk_35_42 : zc 35 42 = some (.aload_n 0, 0, 0, 0, 0) := rfl
theorem zk_35_43 : zc 35 43 = some (.getfield 34, 4, 7, 0, 66) := rfl
theorem zk_35_46 : zc 35 46 = some (.iload_n 2, 0, 0, 0, 0) := rfl
theorem zk_35_47 : zc 35 47 = some (.iaload, 0, 0, 0, 0) := rfl
theorem zk_35_48 : zc 35 48 = some (.aload_n 0, 0, 0, 0, 0) := rfl
theorem zk_35_49 : zc 35 49 = some (.getfield 34, 4, 7, 0, 66) := rfl
theorem zk_35_52 : zc 35 52 = some (.iload_n 3, 0, 0, 0, 0) := rfl
theorem zk_35_53 : zc 35 53 = some (.iaload, 0, 0, 0, 0) := rfl
theorem zk_35_54 : zc 35 54 = some (.isub, 0, 0, 0, 0) := rfl
theorem zk_35_55 : zc 35 55 = some (.iconst 4, 0, 0, 0, 0) := rfl
theorem zk_35_56 : zc 35 56 = some (.idiv, 0, 0, 0, 0) := rfl
theorem zk_35_57 : zc 35 57 = some (.istore 4, 0, 0, 0, 0) := rfl
theorem zk_35_59 : zc 35 59 = some (.aload_n 0, 0, 0, 0, 0) := rfl
theorem zk_35_60 : zc 35 60 = some (.getfield 15, 4, 1, 0, 60) := rfl
theorem zk_35_63 : zc 35 63 = some (.iload_n 2, 0, 0, 0, 0) := rfl
theorem zk_35_64 : zc 35 64 = some (.dup2, 0, 0, 0, 0) := rfl
theorem zk_35_65 : zc 35 65 = some (.iaload, 0, 0, 0, 0) := rfl
theorem zk_35_66 : zc 35 66 = some (.iload 4, 0, 0, 0, 0) := rfl
theorem zk_35_68 : zc 35 68 = some (.isub, 0, 0, 0, 0) := rfl
theorem zk_35_69 : zc 35 69 = some (.iastore, 0, 0, 0, 0) := rfl
theorem zk_35_70 : zc 35 70 = some (.aload_n 0, 0, 0, 0, 0) := rfl
theorem zk_35_71 : zc 35 71 = some (.getfield 15, 4, 1, 0, 60) := rfl
theorem zk_35_74 : zc 35 74 = some (.iload_n 3, 0, 0, 0, 0) := rfl
theorem zk_35_75 : zc 35 75 = some (.dup2, 0, 0, 0, 0) := rfl
theorem zk_35_76 : zc 35 76 = some (.iaload, 0, 0, 0, 0) := rfl
theorem zk_35_77 : zc 35 77 = some (.iload 4, 0, 0, 0, 0) := rfl
theorem zk_35_79 : zc 35 79 = some (.iadd, 0, 0, 0, 0) := rfl
theorem zk_35_80 : zc 35 80 = some (.iastore, 0, 0, 0, 0) := rfl
theorem zk_35_81 : zc 35 81 = some (.aload_n 0, 0, 0, 0, 0) := rfl
theorem zk_35_82 : zc 35 82 = some (.getfield 21, 4, 3, 0, 62) := rfl
theorem zk_35_85 : zc 35 85 = some (.iload_n 2, 0, 0, 0, 0) := rfl
theorem zk_35_86 : zc 35 86 = some (.dup2, 0, 0, 0, 0) := rfl
theorem zk_35_87 : zc 35 87 = some (.iaload, 0, 0, 0, 0) := rfl
theorem zk_35_88 : zc 35 88 = some (.iload 4, 0, 0, 0, 0) := rfl
theorem zk_35_90 : zc 35 90 = some (.invokestatic 69, 0, 9, 0, 54) := rfl
theorem zk_35_93 : zc 35 93 = some (.iadd, 0, 0, 0, 0) := rfl
theorem zk_35_94 : zc 35 94 = some (.iastore, 0, 0, 0, 0) := rfl
theorem zk_35_95 : zc 35 95 = some (.aload_n 0, 0, 0, 0, 0) := rfl
theorem zk_35_96 : zc 35 96 = some (.getfield 21, 4, 3, 0, 62) := rfl
theorem zk_35_99 : zc 35 99 = some (.iload_n 3, 0, 0, 0, 0) := rfl
theorem zk_35_100 : zc 35 100 = some (.dup2, 0, 0, 0, 0) := rfl
theorem zk_35_101 : zc 35 101 = some (.iaload, 0, 0, 0, 0) := rfl
theorem zk_35_102 : zc 35 102 = some (.iload 4, 0, 0, 0, 0) := rfl
theorem zk_35_104 : zc 35 104 = some (.invokestatic 69, 0, 9, 0, 54) := rfl
theorem zk_35_107 : zc 35 107 = some (.iadd, 0, 0, 0, 0) := rfl
theorem zk_35_108 : zc 35 108 = some (.iastore, 0, 0, 0, 0) := rfl
theorem zk_35_109 : zc 35 109 = some (.iinc 1 1, 0, 0, 0, 0) := rfl
theorem zk_35_112 : zc 35 112 = some (.goto (-95), 17, 0, 0, 0) := rfl
theorem zk_35_115 : zc 35 115 = some (.return_, 0, 0, 0, 0) := rfl
theorem zk_38_0 : zc 38 0 = some (.iconst 0, 0, 0, 0, 0) := rfl
theorem zk_38_1 : zc 38 1 = some (.istore_n 2, 0, 0, 0, 0) := rfl
theorem zk_38_2 : zc 38 2 = some (.iload_n 2, 0, 0, 0, 0) := rfl
theorem zk_38_3 : zc 38 3 = some (.bipush 25, 0, 0, 0, 0) := rfl
theorem zk_38_5 : zc 38 5 = some (.if_icmp .ge 45, 50, 0, 0, 0) := rfl
theorem zk_38_8 : zc 38 8 = some (.aload_n 0, 0, 0, 0, 0) := rfl
theorem zk_38_9 : zc 38 9 = some (.getfield 21, 4, 3, 0, 62) := rfl
theorem zk_38_12 : zc 38 12 = some (.iload_n 2, 0, 0, 0, 0) := rfl
theorem zk_38_13 : zc 38 13 = some (.iaload, 0, 0, 0, 0) := rfl
theorem zk_38_14 : zc 38 14 = some (.iload_n 1, 0, 0, 0, 0) := rfl
theorem zk_38_15 : zc 38 15 = some (.if_icmp .ge 22, 37, 0, 0, 0) := rfl
theorem zk_38_18 : zc 38 18 = some (.aload_n 0, 0, 0, 0, 0) := rfl
theorem zk_38_19 : zc 38 19 = some (.getfield 9, 4, 0, 0, 59) := rfl
theorem zk_38_22 : zc 38 22 = some (.iload_n 2, 0, 0, 0, 0) := rfl
theorem zk_38_23 : zc 38 23 = some (.iaload, 0, 0, 0, 0) := rfl
theorem zk_38_24 : zc 38 24 = some (.ifCond .le 13, 37, 0, 0, 0) := rfl
theorem zk_38_27 : zc 38 27 = some (.aload_n 0, 0, 0, 0, 0) := rfl
theorem zk_38_28 : zc 38 28 = some (.getfield 9, 4, 0, 0, 59) := rfl
theorem zk_38_31 : zc 38 31 = some (.iload_n 2, 0, 0, 0, 0) := rfl
theorem zk_38_32 : zc 38 32 = some (.dup2, 0, 0, 0, 0) := rfl
theorem zk_38_33 : zc 38 33 = some (.iaload, 0, 0, 0, 0) := rfl
theorem zk_38_34 : zc 38 34 = some (.iconst 1, 0, 0, 0, 0) := rfl
theorem zk_38_35 : zc 38 35 = some (.isub, 0, 0, 0, 0) := rfl
theorem zk_38_36 : zc 38 36 = some (.iastore, 0, 0, 0, 0) := rfl
theorem zk_38_37 : zc 38 37 = some (.aload_n 0, 0, 0, 0, 0) := rfl
theorem zk_38_38 : zc 38 38 = some (.getfield 21, 4, 3, 0, 62) := rfl
theorem zk_38_41 : zc 38 41 = some (.iload_n 2, 0, 0, 0, 0) := rfl
theorem zk_38_42 : zc 38 42 = some (.iconst 0, 0, 0, 0, 0) := rfl
theorem zk_38_43 : zc 38 43 = some (.iastore, 0, 0, 0, 0) := rfl
theorem zk_38_44 : zc 38 44 = some (.iinc 2 1, 0, 0, 0, 0) := rfl
theorem zk_38_47 : zc 38 47 = some (.goto (-45), 2, 0, 0, 0) := rfl
theorem zk_38_50 : zc 38 50 = some (.return_, 0, 0, 0, 0) := rfl
theorem zk_39_0 : zc 39 0 = some (.aload_n 1, 0, 0, 0, 0) := rfl
theorem zk_39_1 : zc 39 1 = some (.getfield 9, 4, 0, 0, 59) := rfl
theorem zk_39_4 : zc 39 4 = some (.iconst 0, 0, 0, 0, 0) := rfl
theorem zk_39_5 : zc 39 5 = some (.aload_n 0, 0, 0, 0, 0) := rfl
theorem zk_39_6 : zc 39 6 = some (.getfield 9, 4, 0, 0, 59) := rfl
theorem zk_39_9 : zc 39 9 = some (.iconst 0, 0, 0, 0, 0) := rfl
theorem zk_39_10 : zc 39 10 = some (.bipush 25, 0, 0, 0, 0) := rfl
theorem zk_39_12 : zc 39 12 = some (.invokestatic 56, 0, 6, 0, 51) := rfl
theorem zk_39_15 : zc 39 15 = some (.aload_n 1, 0, 0, 0, 0) := rfl
theorem zk_39_16 : zc 39 16 = some (.getfield 15, 4, 1, 0, 60) := rfl
theorem zk_39_19 : zc 39 19 = some (.iconst 0, 0, 0, 0, 0) := rfl
theorem zk_39_20 : zc 39 20 = some (.aload_n 0, 0, 0, 0, 0) := rfl
theorem zk_39_21 : zc 39 21 = some (.getfield 15, 4, 1, 0, 60) := rfl
theorem zk_39_24 : zc 39 24 = some (.iconst 0, 0, 0, 0, 0) := rfl
theorem zk_39_25 : zc 39 25 = some (.bipush 25, 0, 0, 0, 0) := rfl
theorem zk_39_27 : zc 39 27 = some (.invokestatic 56, 0, 6, 0, 51) := rfl
theorem zk_39_30 : zc 39 30 = some (.aload_n 1, 0, 0, 0, 0) := rfl
theorem zk_39_31 : zc 39 31 = some (.getfield 18, 4, 2, 0, 61) := rfl
theorem zk_39_34 : zc 39 34 = some (.iconst 0, 0, 0, 0, 0) := rfl
theorem zk_39_35 : zc 39 35 = some (.aload_n 0, 0, 0, 0, 0) := rfl
theorem zk_39_36 : zc 39 36 = some (.getfield 18, 4, 2, 0, 61) := rfl
theorem zk_39_39 : zc 39 39 = some (.iconst 0, 0, 0, 0, 0) := rfl
theorem zk_39_40 : zc 39 40 = some (.bipush 25, 0, 0, 0, 0) := rfl
theorem zk_39_42 : zc 39 42 = some (.invokestatic 56, 0, 6, 0, 51) := rfl
theorem zk_39_45 : zc 39 45 = some (.aload_n 1, 0, 0, 0, 0) := rfl
theorem zk_39_46 : zc 39 46 = some (.getfield 21, 4, 3, 0, 62) := rfl
theorem zk_39_49 : zc 39 49 = some (.iconst 0, 0, 0, 0, 0) := rfl
theorem zk_39_50 : zc 39 50 = some (.aload_n 0, 0, 0, 0, 0) := rfl
theorem zk_39_51 : zc 39 51 = some (.getfield 21, 4, 3, 0, 62) := rfl
theorem zk_39_54 : zc 39 54 = some (.iconst 0, 0, 0, 0, 0) := rfl
theorem zk_39_55 : zc 39 55 = some (.bipush 25, 0, 0, 0, 0) := rfl
theorem zk_39_57 : zc 39 57 = some (.invokestatic 56, 0, 6, 0, 51) := rfl
theorem zk_39_60 : zc 39 60 = some (.aload_n 1, 0, 0, 0, 0) := rfl
theorem zk_39_61 : zc 39 61 = some (.getfield 24, 4, 4, 0, 63) := rfl
theorem zk_39_64 : zc 39 64 = some (.iconst 0, 0, 0, 0, 0) := rfl
theorem zk_39_65 : zc 39 65 = some (.aload_n 0, 0, 0, 0, 0) := rfl
theorem zk_39_66 : zc 39 66 = some (.getfield 24, 4, 4, 0, 63) := rfl
theorem zk_39_69 : zc 39 69 = some (.iconst 0, 0, 0, 0, 0) := rfl
theorem zk_39_70 : zc 39 70 = some (.bipush 40, 0, 0, 0, 0) := rfl
theorem zk_39_72 : zc 39 72 = some (.invokestatic 56, 0, 6, 0, 51) := rfl
theorem zk_39_75 : zc 39 75 = some (.iconst 0, 0, 0, 0, 0) := rfl
theorem zk_39_76 : zc 39 76 = some (.istore_n 2, 0, 0, 0, 0) := rfl
theorem zk_39_77 : zc 39 77 = some (.iload_n 2, 0, 0, 0, 0) := rfl
theorem zk_39_78 : zc 39 78 = some (.bipush 40, 0, 0, 0, 0) := rfl
theorem zk_39_80 : zc 39 80 = some (.if_icmp .ge 33, 113, 0, 0, 0) := rfl
theorem zk_39_83 : zc 39 83 = some (.aload_n 0, 0, 0, 0, 0) := rfl
theorem zk_39_84 : zc 39 84 = some (.getfield 27, 4, 5, 0, 64) := rfl
theorem zk_39_87 : zc 39 87 = some (.iload_n 2, 0, 0, 0, 0) := rfl
theorem zk_39_88 : zc 39 88 = some (.aload_n 1, 0, 0, 0, 0) := rfl
theorem zk_39_89 : zc 39 89 = some (.getfield 27, 4, 5, 0, 64) := rfl
theorem zk_39_92 : zc 39 92 = some (.iload_n 2, 0, 0, 0, 0) := rfl
theorem zk_39_93 : zc 39 93 = some (.baload, 0, 0, 0, 0) := rfl
theorem zk_39_94 : zc 39 94 = some (.bastore, 0, 0, 0, 0) := rfl
theorem zk_39_95 : zc 39 95 = some (.aload_n 0, 0, 0, 0, 0) := rfl
theorem zk_39_96 : zc 39 96 = some (.getfield 31, 4, 6, 0, 65) := rfl
theorem zk_39_99 : zc 39 99 = some (.iload_n 2, 0, 0, 0, 0) := rfl
theorem zk_39_100 : zc 39 100 = some (.aload_n 1, 0, 0, 0, 0) := rfl
theorem zk_39_101 : zc 39 101 = some (.getfield 31, 4, 6, 0, 65) := rfl
theorem zk_39_104 : zc 39 104 = some (.iload_n 2, 0, 0, 0, 0) := rfl
theorem zk_39_105 : zc 39 105 = some (.baload, 0, 0, 0, 0) := rfl
theorem zk_39_106 : zc 39 106 = some (.bastore, 0, 0, 0, 0) := rfl
theorem zk_39_107 : zc 39 107 = some (.iinc 2 1, 0, 0, 0, 0) := rfl
theorem zk_39_110 : zc 39 110 = some (.goto (-33), 77, 0, 0, 0) := rfl
theorem zk_39_113 : zc 39 113 = some (.return_, 0, 0, 0, 0) := rfl
theorem zk_64_0 : zc 64 0 = some (.aload_n 0, 0, 0, 0, 0) := rfl
theorem zk_64_1 : zc 64 1 = some (.aload_n 1, 0, 0, 0, 0) := rfl
theorem zk_64_2 : zc 64 2 = some (.getfield 19, 7, 0, 0, 82) := rfl
theorem zk_64_5 : zc 64 5 = some (.putfield 19, 7, 0, 0, 82) := rfl
theorem zk_64_8 : zc 64 8 = some (.iconst 0, 0, 0, 0, 0) := rfl
theorem zk_64_9 : zc 64 9 = some (.istore_n 2, 0, 0, 0, 0) := rfl
theorem zk_64_10 : zc 64 10 = some (.iload_n 2, 0, 0, 0, 0) := rfl
theorem zk_64_11 : zc 64 11 = some (.aload_n 0, 0, 0, 0, 0) := rfl
theorem zk_64_12 : zc 64 12 = some (.getfield 19, 7, 0, 0, 82) := rfl
theorem zk_64_15 : zc 64 15 = some (.if_icmp .ge 33, 48, 0, 0, 0) := rfl
theorem zk_64_48 : zc 64 48 = some (.return_, 0, 0, 0, 0) := rfl
theorem zk_66_0 : zc 66 0 = some (.aload_n 0, 0, 0, 0, 0) := rfl
theorem zk_66_1 : zc 66 1 = some (.iconst 1, 0, 0, 0, 0) := rfl
theorem zk_66_2 : zc 66 2 = some (.putfield 9, 8, 0, 0, 83) := rfl
theorem zk_66_5 : zc 66 5 = some (.aload_n 0, 0, 0, 0, 0) := rfl
theorem zk_66_6 : zc 66 6 = some (.iload_n 1, 0, 0, 0, 0) := rfl
theorem zk_66_7 : zc 66 7 = some (.putfield 19, 8, 1, 0, 85) := rfl
theorem zk_66_10 : zc 66 10 = some (.aload_n 0, 0, 0, 0, 0) := rfl
theorem zk_66_11 : zc 66 11 = some (.iload_n 2, 0, 0, 0, 0) := rfl
theorem zk_66_12 : zc 66 12 = some (.putfield 22, 8, 2, 0, 86) := rfl
theorem zk_66_15 : zc 66 15 = some (.aload_n 0, 0, 0, 0, 0) := rfl
theorem zk_66_16 : zc 66 16 = some (.getfield 15, 8, 4, 0, 84) := rfl
theorem zk_66_19 : zc 66 19 = some (.lconst 0, 0, 0, 0, 0) := rfl
theorem zk_66_20 : zc 66 20 = some (.invokestatic 25, 189, 1, 2, 77) := rfl
theorem zk_66_23 : zc 66 23 = some (.return_, 0, 0, 0, 0) := rfl
theorem zk_72_0 : zc 72 0 = some (.aload_n 0, 0, 0, 0, 0) := rfl
theorem zk_72_1 : zc 72 1 = some (.aload_n 1, 0, 0, 0, 0) := rfl
theorem zk_72_2 : zc 72 2 = some (.getfield 21, 9, 0, 0, 89) := rfl
theorem zk_72_5 : zc 72 5 = some (.putfield 21, 9, 0, 0, 89) := rfl
theorem zk_72_8 : zc 72 8 = some (.aload_n 1, 0, 0, 0, 0) := rfl
theorem zk_72_9 : zc 72 9 = some (.getfield 9, 9, 1, 0, 87) := rfl
theorem zk_72_12 : zc 72 12 = some (.iconst 0, 0, 0, 0, 0) := rfl
theorem zk_72_13 : zc 72 13 = some (.aload_n 0, 0, 0, 0, 0) := rfl
theorem zk_72_14 : zc 72 14 = some (.getfield 9, 9, 1, 0, 87) := rfl
theorem zk_72_17 : zc 72 17 = some (.iconst 0, 0, 0, 0, 0) := rfl
theorem zk_72_18 : zc 72 18 = some (.bipush 96, 0, 0, 0, 0) := rfl
theorem zk_72_20 : zc 72 20 = some (.invokestatic 39, 0, 6, 0, 82) := rfl
theorem zk_72_23 : zc 72 23 = some (.return_, 0, 0, 0, 0) := rfl
theorem zk_119_0 : zc 119 0 = some (.iload_n 1, 0, 0, 0, 0) := rfl
theorem zk_119_1 : zc 119 1 = some (.invokestatic 112, 116, 1, 1, 95) := rfl
theorem zk_119_4 : zc 119 4 = some (.ifCond .ne 5, 9, 0, 0, 0) := rfl
theorem zk_119_7 : zc 119 7 = some (.iconst (-1), 0, 0, 0, 0) := rfl
theorem zk_119_8 : zc 119 8 = some (.ireturn, 0, 0, 0, 0) := rfl
theorem zk_119_9 : zc 119 9 = some (.aload_n 0, 0, 0, 0, 0) := rfl
theorem zk_119_10 : zc 119 10 = some (.getfield 24, 10, 4, 0, 94) := rfl
theorem zk_119_13 : zc 119 13 = some (.iload_n 1, 0, 0, 0, 0) := rfl
theorem zk_119_14 : zc 119 14 = some (.aaload, 0, 0, 0, 0) := rfl
theorem zk_119_15 : zc 119 15 = some (.getfield 146, 8, 0, 0, 110) := rfl
theorem zk_119_18 : zc 119 18 = some (.iconst 2, 0, 0, 0, 0) := rfl
theorem zk_119_19 : zc 119 19 = some (.if_icmp .ne 6, 25, 0, 0, 0) := rfl
theorem zk_119_25 : zc 119 25 = some (.aload_n 0, 0, 0, 0, 0) := rfl
theorem zk_119_26 : zc 119 26 = some (.getfield 24, 10, 4, 0, 94) := rfl
theorem zk_119_29 : zc 119 29 = some (.iload_n 1, 0, 0, 0, 0) := rfl
theorem zk_119_30 : zc 119 30 = some (.aaload, 0, 0, 0, 0) := rfl
theorem zk_119_31 : zc 119 31 = some (.getfield 146, 8, 0, 0, 110) := rfl
theorem zk_119_34 : zc 119 34 = some (.ifCond .ne 8, 42, 0, 0, 0) := rfl
theorem zk_119_37 : zc 119 37 = some (.bipush (-3), 0, 0, 0, 0) := rfl
theorem zk_119_39 : zc 119 39 = some (.goto 4, 43, 0, 0, 0) := rfl
theorem zk_119_43 : zc 119 43 = some (.ireturn, 0, 0, 0, 0) := rfl
theorem zk_120_0 : zc 120 0 = some (.aload_n 0, 0, 0, 0, 0) := rfl
theorem zk_120_1 : zc 120 1 = some (.iload_n 1, 0, 0, 0, 0) := rfl
theorem zk_120_2 : zc 120 2 = some (.invokevirtual 119, 119, 0, 2, 97) := rfl
theorem zk_120_5 : zc 120 5 = some (.istore_n 3, 0, 0, 0, 0) := rfl
theorem zk_120_6 : zc 120 6 = some (.aload_n 0, 0, 0, 0, 0) := rfl
theorem zk_120_7 : zc 120 7 = some (.iload_n 2, 0, 0, 0, 0) := rfl
theorem zk_120_8 : zc 120 8 = some (.invokevirtual 119, 119, 0, 2, 97) := rfl
theorem zk_120_11 : zc 120 11 = some (.istore 4, 0, 0, 0, 0) := rfl
theorem zk_120_13 : zc 120 13 = some (.iload_n 3, 0, 0, 0, 0) := rfl
theorem zk_120_14 : zc 120 14 = some (.iconst (-1), 0, 0, 0, 0) := rfl
theorem zk_120_15 : zc 120 15 = some (.if_icmp .eq 9, 24, 0, 0, 0) := rfl
theorem zk_120_18 : zc 120 18 = some (.iload 4, 0, 0, 0, 0) := rfl
theorem zk_120_20 : zc 120 20 = some (.iconst (-1), 0, 0, 0, 0) := rfl
theorem zk_120_21 : zc 120 21 = some (.if_icmp .ne 5, 26, 0, 0, 0) := rfl
theorem zk_120_24 : zc 120 24 = some (.iconst (-1), 0, 0, 0, 0) := rfl
theorem zk_120_25 : zc 120 25 = some (.ireturn, 0, 0, 0, 0) := rfl
theorem zk_120_26 : zc 120 26 = some (.iload_n 3, 0, 0, 0, 0) := rfl
theorem zk_120_27 : zc 120 27 = some (.bipush (-2), 0, 0, 0, 0) := rfl
theorem zk_120_29 : zc 120 29 = some (.if_icmp .eq 10, 39, 0, 0, 0) := rfl
theorem zk_120_32 : zc 120 32 = some (.iload 4, 0, 0, 0, 0) := rfl
theorem zk_120_34 : zc 120 34 = some (.bipush (-2), 0, 0, 0, 0) := rfl
theorem zk_120_36 : zc 120 36 = some (.if_icmp .ne 6, 42, 0, 0, 0) := rfl
theorem zk_120_39 : zc 120 39 = some (.bipush (-2), 0, 0, 0, 0) := rfl
theorem zk_120_41 : zc 120 41 = some (.ireturn, 0, 0, 0, 0) := rfl
theorem zk_120_42 : zc 120 42 = some (.iload_n 3, 0, 0, 0, 0) := rfl
theorem zk_120_43 : zc 120 43 = some (.bipush (-3), 0, 0, 0, 0) := rfl
theorem zk_120_45 : zc 120 45 = some (.if_icmp .eq 10, 55, 0, 0, 0) := rfl
theorem zk_120_55 : zc 120 55 = some (.bipush (-3), 0, 0, 0, 0) := rfl
theorem zk_120_57 : zc 120 57 = some (.ireturn, 0, 0, 0, 0) := rfl
theorem zk_189_0 : zc 189 0 = some (.iconst 0, 0, 0, 0, 0) := rfl
theorem zk_189_1 : zc 189 1 = some (.istore_n 3, 0, 0, 0, 0) := rfl
theorem zk_189_2 : zc 189 2 = some (.aload_n 0, 0, 0, 0, 0) := rfl
theorem zk_189_3 : zc 189 3 = some (.arraylength, 0, 0, 0, 0) := rfl
theorem zk_189_4 : zc 189 4 = some (.istore 4, 0, 0, 0, 0) := rfl
theorem zk_189_6 : zc 189 6 = some (.iload_n 3, 0, 0, 0, 0) := rfl
theorem zk_189_7 : zc 189 7 = some (.iload 4, 0, 0, 0, 0) := rfl
theorem zk_189_9 : zc 189 9 = some (.if_icmp .ge 13, 22, 0, 0, 0) := rfl
theorem zk_189_12 : zc 189 12 = some (.aload_n 0, 0, 0, 0, 0) := rfl
theorem zk_189_13 : zc 189 13 = some (.iload_n 3, 0, 0, 0, 0) := rfl
theorem zk_189_14 : zc 189 14 = some (.lload_n 1, 0, 0, 0, 0) := rfl
theorem zk_189_15 : zc 189 15 = some (.lastore, 0, 0, 0, 0) := rfl
theorem zk_189_16 : zc 189 16 = some (.iinc 3 1, 0, 0, 0, 0) := rfl
theorem zk_189_19 : zc 189 19 = some (.goto (-13), 6, 0, 0, 0) := rfl
theorem zk_189_22 : zc 189 22 = some (.return_, 0, 0, 0, 0) := rfl
def MI (c a b d e : Nat) (t i k j : Nat) : Prop := i = c ∧ (t = a ∨ t = b ∨ t = d ∨ t = e)
def MP (c : Nat) (t i k j : Nat) : Prop := i = c ∧ (t = 3 ∨ t = 6 ∨ t = 22 ∨ (t = 1 ∧ j = 13))
def MDy (c : Nat) (t i k j : Nat) : Prop := i = c ∧ (t = 3 ∨ t = 4 ∨ t = 6 ∨ t = 10 ∨ t = 21 ∨ t = 22 ∨ (t = 1 ∧ j = 13))
def MYl (c : Nat) (t i k j : Nat) : Prop := i = c ∧ 3 ≤ t ∧ t ≤ 9
def MYt (c e : Nat) (t i k j : Nat) : Prop := i = c ∧ k = e ∧ (t = 17 ∨ t = 18)
/-- W.rowRefusal -/
theorem c_119e {xs : Nat × (Nat → Int32)} (p0 : Int) (h0 : -2147483648 ≤ p0 ∧ p0 ≤ 2147483647) (σ : ZS) (hI : Inv σ)  (s1 : σ 33 0 (Int.toNat p0) 0 = 0) : CT xs 2 119 [av 0 0 0, iv p0] σ (fun v σ' => ∃ y, v = some (iv y) ∧ ((y = -1 ∧ (p0 < 0 ∨ 7 < p0)) ∨ (y = -3 ∧ 0 ≤ p0 ∧ p0 ≤ 7)) ∧ IF MN σ σ' ∧ (True)) := by
  refine G_ct (J := (fun σ' => IF MN σ σ' ∧ True)) (L := [(0, av 0 0 0), (1, iv p0)]) (nL := 2) rfl rfl rfl ⟨IF.rf hI, trivial⟩ ?_
  refine T_ld zk_119_0 rfl rfl rfl (pc' := 1) rfl ?_
  refine T_calli (K := fun y1 σ' => ((y1 = 0 ∧ (p0 < 0 ∨ 7 < p0)) ∨ (y1 = 1 ∧ 0 ≤ p0 ∧ p0 ≤ 7)) ∧ (fun σ' => IF MN σ σ' ∧ True) σ') (r := []) zk_119_1 rfl rfl rfl rfl rfl rfl (Or.inl (Or.inl rfl)) (fun σ' h => (c_116 p0 (by omega) σ' h.1.1 ).le (Nat.le_of_ble_eq_true rfl) (fun v σ2 ⟨y, h1, h2, h3, h4⟩ => ⟨y, h1, h2, h.1.tr h3 MN_sub, trivial⟩)) (pc' := 4) rfl (fun y1 => ?_)
  refine G_ex (fun hy1 => ?_)
  refine T_if_ne zk_119_4 (by omega) (pc' := 7) rfl (fun h2 => ?_) (fun h3 => ?_)
  ·
    refine T_ld zk_119_9 rfl rfl rfl (pc' := 10) rfl ?_
    refine T_getR (t' := 27) (i' := 0) (k' := 0) zk_119_10 rfl rfl rfl vd_0 (pc' := 13) rfl ?_
    refine T_ld zk_119_13 rfl rfl rfl (pc' := 14) rfl ?_
    refine G_aald (t' := 33) (im := 0) (i' := 0) (ln := 8) zk_119_14 rfl rfl rfl vd_27 (by omega) (by omega) (by omega) (pc' := 15) rfl ?_
    refine G_getX (w := 0) zk_119_15 rfl (vd_33 (by omega)) (fun σ' h => (h.1.2 _ _ _ _ (fun q => q)).trans s1) (pc' := 18) rfl ?_
    refine T_op zk_119_18 rfl X_ic (pc' := 19) rfl ?_
    refine T_icmp_ne zk_119_19 (by omega) (by omega) (pc' := 22) rfl (fun h4 => ?_) (fun h5 => ?_)
    ·
      refine T_ld zk_119_25 rfl rfl rfl (pc' := 26) rfl ?_
      refine T_getR (t' := 27) (i' := 0) (k' := 0) zk_119_26 rfl rfl rfl vd_0 (pc' := 29) rfl ?_
      refine T_ld zk_119_29 rfl rfl rfl (pc' := 30) rfl ?_
      refine G_aald (t' := 33) (im := 0) (i' := 0) (ln := 8) zk_119_30 rfl rfl rfl vd_27 (by omega) (by omega) (by omega) (pc' := 31) rfl ?_
      refine G_getX (w := 0) zk_119_31 rfl (vd_33 (by omega)) (fun σ' h => (h.1.2 _ _ _ _ (fun q => q)).trans s1) (pc' := 34) rfl ?_
      refine T_if_ne zk_119_34 (by omega) (pc' := 37) rfl (fun h6 => ?_) (fun h7 => ?_)
      · exfalso; omega
      ·
        refine T_op zk_119_37 rfl (X_bi (v := -3) (by decide)) (pc' := 39) rfl ?_
        refine T_goto zk_119_39 ?_
        exact T_iret zk_119_43 rfl (fun σ' h => ⟨_, rfl, (by omega), h.1, trivial⟩)
    · exfalso; omega
  ·
    refine T_op zk_119_7 rfl X_ic (pc' := 8) rfl ?_
    exact T_iret zk_119_8 rfl (fun σ' h => ⟨_, rfl, (by omega), h.1, trivial⟩)
/-- W.copyRefusal -/
theorem c_120e {xs : Nat × (Nat → Int32)} (p0 : Int) (p1 : Int) (h0 : -2147483648 ≤ p0 ∧ p0 ≤ 2147483647) (h1 : -2147483648 ≤ p1 ∧ p1 ≤ 2147483647) (σ : ZS) (hI : Inv σ)  (s1 : σ 33 0 (Int.toNat p0) 0 = 0) (s2 : σ 33 0 (Int.toNat p1) 0 = 0) : CT xs 3 120 [av 0 0 0, iv p0, iv p1] σ (fun v σ' => ∃ y, v = some (iv y) ∧ ((y = -1 ∧ (p0 < 0 ∨ 7 < p0 ∨ p1 < 0 ∨ 7 < p1)) ∨ (y = -3 ∧ 0 ≤ p0 ∧ p0 ≤ 7 ∧ 0 ≤ p1 ∧ p1 ≤ 7)) ∧ IF MN σ σ' ∧ (True)) := by
  refine G_ct (J := (fun σ' => IF MN σ σ' ∧ True)) (L := [(0, av 0 0 0), (1, iv p0), (2, iv p1)]) (nL := 5) rfl rfl rfl ⟨IF.rf hI, trivial⟩ ?_
  refine T_ld zk_120_0 rfl rfl rfl (pc' := 1) rfl ?_
  refine T_ld zk_120_1 rfl rfl rfl (pc' := 2) rfl ?_
  refine T_calli (K := fun y1 σ' => ((y1 = -1 ∧ (p0 < 0 ∨ 7 < p0)) ∨ (y1 = -3 ∧ 0 ≤ p0 ∧ p0 ≤ 7)) ∧ (fun σ' => IF MN σ σ' ∧ True) σ') (r := []) zk_120_2 rfl rfl rfl rfl rfl rfl (Or.inr ⟨_, _, _, _, rfl, vd_0, rfl⟩) (fun σ' h => (c_119e p0 (by omega) σ' h.1.1 ((h.1.2 _ _ _ _ (fun q => q)).trans s1)).le (Nat.le_of_ble_eq_true rfl) (fun v σ2 ⟨y, h1, h2, h3, h4⟩ => ⟨y, h1, h2, h.1.tr h3 MN_sub, trivial⟩)) (pc' := 5) rfl (fun y1 => ?_)
  refine G_ex (fun hy1 => ?_)
  refine T_st (L' := [(0, av 0 0 0), (1, iv p0), (2, iv p1), (3, iv y1)]) zk_120_5 (nL := 5) rfl rfl rfl rfl rfl (pc' := 6) rfl ?_
  refine T_ld zk_120_6 rfl rfl rfl (pc' := 7) rfl ?_
  refine T_ld zk_120_7 rfl rfl rfl (pc' := 8) rfl ?_
  refine T_calli (K := fun y2 σ' => ((y2 = -1 ∧ (p1 < 0 ∨ 7 < p1)) ∨ (y2 = -3 ∧ 0 ≤ p1 ∧ p1 ≤ 7)) ∧ (fun σ' => IF MN σ σ' ∧ True) σ') (r := []) zk_120_8 rfl rfl rfl rfl rfl rfl (Or.inr ⟨_, _, _, _, rfl, vd_0, rfl⟩) (fun σ' h => (c_119e p1 (by omega) σ' h.1.1 ((h.1.2 _ _ _ _ (fun q => q)).trans s2)).le (Nat.le_of_ble_eq_true rfl) (fun v σ2 ⟨y, h1, h2, h3, h4⟩ => ⟨y, h1, h2, h.1.tr h3 MN_sub, trivial⟩)) (pc' := 11) rfl (fun y2 => ?_)
  refine G_ex (fun hy2 => ?_)
  refine T_st (L' := [(0, av 0 0 0), (1, iv p0), (2, iv p1), (3, iv y1), (4, iv y2)]) zk_120_11 (nL := 5) rfl rfl rfl rfl rfl (pc' := 13) rfl ?_
  refine T_ld zk_120_13 rfl rfl rfl (pc' := 14) rfl ?_
  refine T_op zk_120_14 rfl X_ic (pc' := 15) rfl ?_
  refine T_icmp_eq zk_120_15 (by omega) (by omega) (pc' := 18) rfl (fun h3 => ?_) (fun h4 => ?_)
  ·
    refine T_op zk_120_24 rfl X_ic (pc' := 25) rfl ?_
    exact T_iret zk_120_25 rfl (fun σ' h => ⟨_, rfl, (by omega), h.1, trivial⟩)
  ·
    refine T_ld zk_120_18 rfl rfl rfl (pc' := 20) rfl ?_
    refine T_op zk_120_20 rfl X_ic (pc' := 21) rfl ?_
    refine T_icmp_ne zk_120_21 (by omega) (by omega) (pc' := 24) rfl (fun h5 => ?_) (fun h6 => ?_)
    ·
      refine T_ld zk_120_26 rfl rfl rfl (pc' := 27) rfl ?_
      refine T_op zk_120_27 rfl (X_bi (v := -2) (by decide)) (pc' := 29) rfl ?_
      refine T_icmp_eq zk_120_29 (by omega) (by omega) (pc' := 32) rfl (fun h7 => ?_) (fun h8 => ?_)
      ·
        refine T_op zk_120_39 rfl (X_bi (v := -2) (by decide)) (pc' := 41) rfl ?_
        exact T_iret zk_120_41 rfl (fun σ' h => ⟨_, rfl, (by omega), h.1, trivial⟩)
      ·
        refine T_ld zk_120_32 rfl rfl rfl (pc' := 34) rfl ?_
        refine T_op zk_120_34 rfl (X_bi (v := -2) (by decide)) (pc' := 36) rfl ?_
        refine T_icmp_ne zk_120_36 (by omega) (by omega) (pc' := 39) rfl (fun h9 => ?_) (fun h10 => ?_)
        ·
          refine T_ld zk_120_42 rfl rfl rfl (pc' := 43) rfl ?_
          refine T_op zk_120_43 rfl (X_bi (v := -3) (by decide)) (pc' := 45) rfl ?_
          refine T_icmp_eq zk_120_45 (by omega) (by omega) (pc' := 48) rfl (fun h11 => ?_) (fun h12 => ?_)
          ·
            refine T_op zk_120_55 rfl (X_bi (v := -3) (by decide)) (pc' := 57) rfl ?_
            exact T_iret zk_120_57 rfl (fun σ' h => ⟨_, rfl, (by omega), h.1, trivial⟩)
          · exfalso; omega
        ·
          refine T_op zk_120_39 rfl (X_bi (v := -2) (by decide)) (pc' := 41) rfl ?_
          exact T_iret zk_120_41 rfl (fun σ' h => ⟨_, rfl, (by omega), h.1, trivial⟩)
    ·
      refine T_op zk_120_24 rfl X_ic (pc' := 25) rfl ?_
      exact T_iret zk_120_25 rfl (fun σ' h => ⟨_, rfl, (by omega), h.1, trivial⟩)
/-- java/util/Arrays.fill -/
theorem c_189z {xs : Nat × (Nat → Int32)} (k : Nat) (hk : k < 8) (σ : ZS) (hI : Inv σ)   : CT xs 1 189 [av 34 0 k, jv 0] σ (fun v σ' => v = none ∧ IF (MT 33 34 34 34) σ σ' ∧ (True)) := by
  refine G_ct (J := (fun σ' => IF (MT 33 34 34 34) σ σ' ∧ True)) (L := [(0, av 34 0 k), (1, jv 0)]) (nL := 5) rfl rfl rfl ⟨IF.rf hI, trivial⟩ ?_
  refine T_op zk_189_0 rfl X_ic (pc' := 1) rfl ?_
  refine T_st (L' := [(0, av 34 0 k), (1, jv 0), (3, iv 0)]) zk_189_1 (nL := 5) rfl rfl rfl rfl rfl (pc' := 2) rfl ?_
  refine T_ld zk_189_2 rfl rfl rfl (pc' := 3) rfl ?_
  refine T_alen (n := 96) zk_189_3 rfl rfl (vd_34 (by omega)) (pc' := 4) rfl ?_
  refine T_st (L' := [(0, av 34 0 k), (1, jv 0), (3, iv 0), (4, iv 96)]) zk_189_4 (nL := 5) rfl rfl rfl rfl rfl (pc' := 6) rfl ?_
  refine T_loop1 (fun x1 => ((96 - x1 : Int)).toNat) (fun x1 => (0 ≤ x1 ∧ x1 ≤ 96)) (fun x1 => TJ xs (fun σ' => IF (MT 33 34 34 34) σ σ' ∧ True) 0 189 6 [(0, av 34 0 k), (1, jv 0), (3, iv x1), (4, iv 96)] [] _) ?_ 0 (by omega)
  intro x1 hp3 ih2
  refine T_ld zk_189_6 rfl rfl rfl (pc' := 7) rfl ?_
  refine T_ld zk_189_7 rfl rfl rfl (pc' := 9) rfl ?_
  refine T_icmp_ge zk_189_9 (by omega) (by omega) (pc' := 12) rfl (fun h4 => ?_) (fun h5 => ?_)
  ·
    exact T_vret zk_189_22 rfl (fun σ' h => ⟨rfl, h.1, trivial⟩)
  ·
    refine T_ld zk_189_12 rfl rfl rfl (pc' := 13) rfl ?_
    refine T_ld zk_189_13 rfl rfl rfl (pc' := 14) rfl ?_
    refine T_ld zk_189_14 rfl rfl rfl (pc' := 15) rfl ?_
    refine G_last (J' := (fun σ' => IF (MT 33 34 34 34) σ σ' ∧ True)) (ln := 96) zk_189_15 rfl rfl (vd_34 (by omega)) (by omega) (by omega) (by omega) (fun σ' h => ⟨h.1.up ⟨by omega, trivial⟩ (by unfold MT; omega), trivial⟩) (pc' := 16) rfl ?_
    refine T_iinc (L' := [(0, av 34 0 k), (1, jv 0), (3, iv (x1 + 1)), (4, iv 96)]) zk_189_16 (nL := 5) rfl rfl rfl rfl (pc' := 19) rfl ?_
    refine T_goto zk_189_19 ?_
    exact ih2 (x1 + 1) (by omega) (by omega)
/-- W$Shelf.putRow -/
theorem c_66 {xs : Nat × (Nat → Int32)} (k : Nat) (p0 : Int) (p1 : Int) (hk : k < 8) (h0 : -2147483648 ≤ p0 ∧ p0 ≤ 2147483647) (h1 : 0 ≤ p1 ∧ p1 ≤ 96) (σ : ZS) (hI : Inv σ)   : CT xs 2 66 [av 33 0 k, iv p0, iv p1] σ (fun v σ' => v = none ∧ IF (MT 33 34 34 34) σ σ' ∧ (True)) := by
  refine G_ct (J := (fun σ' => IF (MT 33 34 34 34) σ σ' ∧ True)) (L := [(0, av 33 0 k), (1, iv p0), (2, iv p1)]) (nL := 3) rfl rfl rfl ⟨IF.rf hI, trivial⟩ ?_
  refine T_ld zk_66_0 rfl rfl rfl (pc' := 1) rfl ?_
  refine T_op zk_66_1 rfl X_ic (pc' := 2) rfl ?_
  refine T_putf (J' := (fun σ' => IF (MT 33 34 34 34) σ σ' ∧ True)) zk_66_2 rfl rfl (vd_33 (by omega)) (fun σ' h => ⟨h.1.up (by simp only [rgP] <;> omega) (by unfold MT; omega), trivial⟩) (pc' := 5) rfl ?_
  refine T_ld zk_66_5 rfl rfl rfl (pc' := 6) rfl ?_
  refine T_ld zk_66_6 rfl rfl rfl (pc' := 7) rfl ?_
  refine T_putf (J' := (fun σ' => IF (MT 33 34 34 34) σ σ' ∧ True)) zk_66_7 rfl rfl (vd_33 (by omega)) (fun σ' h => ⟨h.1.up (by simp only [rgP] <;> omega) (by unfold MT; omega), trivial⟩) (pc' := 10) rfl ?_
  refine T_ld zk_66_10 rfl rfl rfl (pc' := 11) rfl ?_
  refine T_ld zk_66_11 rfl rfl rfl (pc' := 12) rfl ?_
  refine T_putf (J' := (fun σ' => IF (MT 33 34 34 34) σ σ' ∧ True)) zk_66_12 rfl rfl (vd_33 (by omega)) (fun σ' h => ⟨h.1.up (by simp only [rgP] <;> omega) (by unfold MT; omega), trivial⟩) (pc' := 15) rfl ?_
  refine T_ld zk_66_15 rfl rfl rfl (pc' := 16) rfl ?_
  refine T_getR (t' := 34) (i' := 0) (k' := k) zk_66_16 rfl rfl rfl (vd_33 (by omega)) (pc' := 19) rfl ?_
  refine T_op zk_66_19 rfl (X_lc (v := 0) (by decide)) (pc' := 20) rfl ?_
  refine T_callv (J' := (fun σ' => IF (MT 33 34 34 34) σ σ' ∧ True)) (r := []) zk_66_20 rfl rfl rfl rfl rfl rfl (Or.inl (Or.inl rfl)) (fun σ' h => (c_189z k (by omega) σ' h.1.1 ).le (Nat.le_of_ble_eq_true rfl) (fun v σ2 ⟨h1, h3, h4⟩ => ⟨h1, h.1.tr h3 (fun _ _ _ _ h => h), trivial⟩)) (pc' := 23) rfl ?_
  exact T_vret zk_66_23 rfl (fun σ' h => ⟨rfl, h.1, trivial⟩)
/-- W$City.tide -/
theorem c_10 {xs : Nat × (Nat → Int32)} (c : Nat) (p0 : Int) (hc : c < 3) (h0 : 0 ≤ p0 ∧ p0 ≤ 1) (σ : ZS) (hI : Inv σ)   : CT xs 1 10 [av 1 c 0, iv p0] σ (fun v σ' => v = some (av 17 c (Int.toNat p0)) ∧ IF MN σ σ' ∧ (True)) := by
  refine G_ct (J := (fun σ' => IF MN σ σ' ∧ True)) (L := [(0, av 1 c 0), (1, iv p0)]) (nL := 2) rfl rfl rfl ⟨IF.rf hI, trivial⟩ ?_
  refine T_ld zk_10_0 rfl rfl rfl (pc' := 1) rfl ?_
  refine T_if_eq zk_10_1 (by omega) (pc' := 4) rfl (fun h1 => ?_) (fun h2 => ?_)
  ·
    refine T_ld zk_10_11 rfl rfl rfl (pc' := 12) rfl ?_
    refine T_getR (t' := 17) (i' := c) (k' := 0) zk_10_12 rfl rfl rfl (vd_1 hc) (pc' := 15) rfl ?_
    exact T_aret zk_10_15 rfl (fun σ' h => ⟨(by rw [show (Int.toNat p0 : Nat) = 0 from by omega]), h.1, trivial⟩)
  ·
    refine T_ld zk_10_4 rfl rfl rfl (pc' := 5) rfl ?_
    refine T_getR (t' := 17) (i' := c) (k' := 1) zk_10_5 rfl rfl rfl (vd_1 hc) (pc' := 8) rfl ?_
    refine T_goto zk_10_8 ?_
    exact T_aret zk_10_15 rfl (fun σ' h => ⟨(by rw [show (Int.toNat p0 : Nat) = 1 from by omega]), h.1, trivial⟩)
/-- W$City.lookAround -/
theorem c_11e {xs : Nat × (Nat → Int32)} (c : Nat) (hc : c < 3) (σ : ZS) (hI : Inv σ)  (s1 : σ 17 c 1 0 = 0) (s2 : σ 1 c 0 7 = 0) : CT xs 2 11 [av 1 c 0] σ (fun v σ' => v = none ∧ IF (MI c 21 21 21 21) σ σ' ∧ (True)) := by
  refine G_ct (J := (fun σ' => IF (MI c 21 21 21 21) σ σ' ∧ True)) (L := [(0, av 1 c 0)]) (nL := 3) rfl rfl rfl ⟨IF.rf hI, trivial⟩ ?_
  refine T_ld zk_11_0 rfl rfl rfl (pc' := 1) rfl ?_
  refine T_getR (t' := 17) (i' := c) (k' := 1) zk_11_1 rfl rfl rfl (vd_1 hc) (pc' := 4) rfl ?_
  refine T_ld zk_11_4 rfl rfl rfl (pc' := 5) rfl ?_
  refine G_getf (lo := -2147483648) (hi := 2147483647) zk_11_5 rfl (vd_1 hc) (fun σ' h => h.1.1) (fun _ h => h.1) (pc' := 8) rfl (fun y1 hy1 hy1' => ?_)
  refine T_calli (K := fun y2 σ' => (y2 = 0) ∧ (fun σ' => IF (MI c 21 21 21 21) σ σ' ∧ True) σ') (r := []) zk_11_8 rfl rfl rfl rfl rfl rfl (Or.inr ⟨_, _, _, _, rfl, (vd_17 hc (by omega)), rfl⟩) (fun σ' h => (c_73e c 1 y1 hc (by omega) (by omega) σ' h.1.1 ((h.1.2 _ _ _ _ (by unfold MI; omega)).trans s1)).le (Nat.le_of_ble_eq_true rfl) (fun v σ2 ⟨y, h1, h2, h3, h4⟩ => ⟨y, h1, h2, h.1.tr h3 MN_sub, trivial⟩)) (pc' := 11) rfl (fun y2 => ?_)
  refine G_ex (fun hy2 => ?_)
  obtain rfl : y2 = 0 := by omega
  refine T_st (L' := [(0, av 1 c 0), (1, iv 0)]) zk_11_11 (nL := 3) rfl rfl rfl rfl rfl (pc' := 12) rfl ?_
  refine T_op zk_11_12 rfl X_ic (pc' := 13) rfl ?_
  refine T_st (L' := [(0, av 1 c 0), (1, iv 0), (2, iv 1)]) zk_11_13 (nL := 3) rfl rfl rfl rfl rfl (pc' := 14) rfl ?_
  refine T_loop2 (fun x3 x4 => ((8 - x4 : Int)).toNat) (fun x3 x4 => (0 ≤ x3 ∧ x3 ≤ 0) ∧ (1 ≤ x4 ∧ x4 ≤ 8)) (fun x3 x4 => TJ xs (fun σ' => IF (MI c 21 21 21 21) σ σ' ∧ True) 1 11 14 [(0, av 1 c 0), (1, iv x3), (2, iv x4)] [] _) ?_ 0 1 (by omega)
  intro x3 x4 hp6 ih5
  refine T_ld zk_11_14 rfl rfl rfl (pc' := 15) rfl ?_
  refine T_op zk_11_15 rfl (X_bi (v := 8) (by decide)) (pc' := 17) rfl ?_
  refine T_icmp_ge zk_11_17 (by omega) (by omega) (pc' := 20) rfl (fun h7 => ?_) (fun h8 => ?_)
  ·
    refine T_ld zk_11_44 rfl rfl rfl (pc' := 45) rfl ?_
    refine T_getR (t' := 21) (i' := c) (k' := 0) zk_11_45 rfl rfl rfl (vd_1 hc) (pc' := 48) rfl ?_
    refine T_op zk_11_48 rfl X_ic (pc' := 49) rfl ?_
    refine T_ld zk_11_49 rfl rfl rfl (pc' := 50) rfl ?_
    refine T_ld zk_11_50 rfl rfl rfl (pc' := 51) rfl ?_
    refine G_getf (lo := 0) (hi := 99) zk_11_51 rfl (vd_1 hc) (fun σ' h => h.1.1) (fun _ h => h.2.2.2.2.1 (by omega) (by omega)) (pc' := 54) rfl (fun y9 hy9 hy9' => ?_)
    refine T_op zk_11_54 rfl X_add (pc' := 55) rfl ?_
    refine G_iast (J' := (fun σ' => IF (MI c 21 21 21 21) σ σ' ∧ True)) (ln := 6) zk_11_55 rfl rfl (vd_21 hc) (by omega) (by omega) (by omega) (fun σ' h => ⟨h.1.up ⟨by omega, trivial⟩ (by unfold MI; omega), trivial⟩) (pc' := 56) rfl ?_
    refine T_ld zk_11_56 rfl rfl rfl (pc' := 57) rfl ?_
    refine T_getR (t' := 21) (i' := c) (k' := 0) zk_11_57 rfl rfl rfl (vd_1 hc) (pc' := 60) rfl ?_
    refine T_op zk_11_60 rfl X_ic (pc' := 61) rfl ?_
    refine T_ld zk_11_61 rfl rfl rfl (pc' := 62) rfl ?_
    refine T_getR (t' := 17) (i' := c) (k' := 1) zk_11_62 rfl rfl rfl (vd_1 hc) (pc' := 65) rfl ?_
    refine T_ld zk_11_65 rfl rfl rfl (pc' := 66) rfl ?_
    refine G_getf (lo := -2147483648) (hi := 2147483647) zk_11_66 rfl (vd_1 hc) (fun σ' h => h.1.1) (fun _ h => h.1) (pc' := 69) rfl (fun y10 hy10 hy10' => ?_)
    refine T_calli (K := fun y11 σ' => (y11 = 0) ∧ (fun σ' => IF (MI c 21 21 21 21) σ σ' ∧ True) σ') (r := [iv 1, av 21 c 0]) zk_11_69 rfl rfl rfl rfl rfl rfl (Or.inr ⟨_, _, _, _, rfl, (vd_17 hc (by omega)), rfl⟩) (fun σ' h => (c_73e c 1 y10 hc (by omega) (by omega) σ' h.1.1 ((h.1.2 _ _ _ _ (by unfold MI; omega)).trans s1)).le (Nat.le_of_ble_eq_true rfl) (fun v σ2 ⟨y, h1, h2, h3, h4⟩ => ⟨y, h1, h2, h.1.tr h3 MN_sub, trivial⟩)) (pc' := 72) rfl (fun y11 => ?_)
    refine G_ex (fun hy11 => ?_)
    obtain rfl : y11 = 0 := by omega
    refine G_iast (J' := (fun σ' => IF (MI c 21 21 21 21) σ σ' ∧ True)) (ln := 6) zk_11_72 rfl rfl (vd_21 hc) (by omega) (by omega) (by omega) (fun σ' h => ⟨h.1.up ⟨by omega, trivial⟩ (by unfold MI; omega), trivial⟩) (pc' := 73) rfl ?_
    refine T_ld zk_11_73 rfl rfl rfl (pc' := 74) rfl ?_
    refine T_getR (t' := 21) (i' := c) (k' := 0) zk_11_74 rfl rfl rfl (vd_1 hc) (pc' := 77) rfl ?_
    refine T_op zk_11_77 rfl X_ic (pc' := 78) rfl ?_
    refine T_ld zk_11_78 rfl rfl rfl (pc' := 79) rfl ?_
    refine T_getR (t' := 2) (i' := c) (k' := 0) zk_11_79 rfl rfl rfl (vd_1 hc) (pc' := 82) rfl ?_
    refine T_calli (K := fun y12 σ' => (-2147483648 ≤ y12 ∧ y12 ≤ 2147483647) ∧ (fun σ' => IF (MI c 21 21 21 21) σ σ' ∧ True) σ') (r := [iv 2, av 21 c 0]) zk_11_82 rfl rfl rfl rfl rfl rfl (Or.inr ⟨_, _, _, _, rfl, (vd_2 hc), rfl⟩) (fun σ' h => (c_33 c hc σ' h.1.1 ).le (Nat.le_of_ble_eq_true rfl) (fun v σ2 ⟨y, h1, h2, h3, h4⟩ => ⟨y, h1, h2, h.1.tr h3 MN_sub, trivial⟩)) (pc' := 85) rfl (fun y12 => ?_)
    refine G_ex (fun hy12 => ?_)
    refine G_iast (J' := (fun σ' => IF (MI c 21 21 21 21) σ σ' ∧ True)) (ln := 6) zk_11_85 rfl rfl (vd_21 hc) (by omega) (by omega) (by omega) (fun σ' h => ⟨h.1.up ⟨by omega, trivial⟩ (by unfold MI; omega), trivial⟩) (pc' := 86) rfl ?_
    refine T_ld zk_11_86 rfl rfl rfl (pc' := 87) rfl ?_
    refine T_getR (t' := 21) (i' := c) (k' := 0) zk_11_87 rfl rfl rfl (vd_1 hc) (pc' := 90) rfl ?_
    refine T_op zk_11_90 rfl X_ic (pc' := 91) rfl ?_
    refine T_ld zk_11_91 rfl rfl rfl (pc' := 92) rfl ?_
    refine G_getf (lo := -2147483648) (hi := 2147483647) zk_11_92 rfl (vd_1 hc) (fun σ' h => h.1.1) (fun _ h => h.1) (pc' := 95) rfl (fun y13 hy13 hy13' => ?_)
    refine T_op zk_11_95 rfl X_ic (pc' := 96) rfl ?_
    refine G_unkD zk_11_96 (by first | exact Or.inl rfl | exact Or.inr rfl) (by omega) (pc' := 97) rfl (fun y14 hy14 hy14' => ?_)
    refine T_op zk_11_97 rfl (X_bi (v := 24) (by decide)) (pc' := 99) rfl ?_
    refine G_unkD zk_11_99 (by first | exact Or.inl rfl | exact Or.inr rfl) (by omega) (pc' := 100) rfl (fun y15 hy15 hy15' => ?_)
    refine G_iast (J' := (fun σ' => IF (MI c 21 21 21 21) σ σ' ∧ True)) (ln := 6) zk_11_100 rfl rfl (vd_21 hc) (by omega) (by omega) (by omega) (fun σ' h => ⟨h.1.up ⟨by omega, trivial⟩ (by unfold MI; omega), trivial⟩) (pc' := 101) rfl ?_
    refine T_ld zk_11_101 rfl rfl rfl (pc' := 102) rfl ?_
    refine T_getR (t' := 21) (i' := c) (k' := 0) zk_11_102 rfl rfl rfl (vd_1 hc) (pc' := 105) rfl ?_
    refine T_op zk_11_105 rfl X_ic (pc' := 106) rfl ?_
    refine T_ld zk_11_106 rfl rfl rfl (pc' := 107) rfl ?_
    refine T_calli (K := fun y16 σ' => (y16 = 0) ∧ (fun σ' => IF (MI c 21 21 21 21) σ σ' ∧ True) σ') (r := [iv 4, av 21 c 0]) zk_11_107 rfl rfl rfl rfl rfl rfl (Or.inr ⟨_, _, _, _, rfl, (vd_1 hc), rfl⟩) (fun σ' h => (c_18e c hc σ' h.1.1 ((h.1.2 _ _ _ _ (by unfold MI; omega)).trans s2)).le (Nat.le_of_ble_eq_true rfl) (fun v σ2 ⟨y, h1, h2, h3, h4⟩ => ⟨y, h1, h2, h.1.tr h3 MN_sub, trivial⟩)) (pc' := 110) rfl (fun y16 => ?_)
    refine G_ex (fun hy16 => ?_)
    obtain rfl : y16 = 0 := by omega
    refine G_iast (J' := (fun σ' => IF (MI c 21 21 21 21) σ σ' ∧ True)) (ln := 6) zk_11_110 rfl rfl (vd_21 hc) (by omega) (by omega) (by omega) (fun σ' h => ⟨h.1.up ⟨by omega, trivial⟩ (by unfold MI; omega), trivial⟩) (pc' := 111) rfl ?_
    refine T_ld zk_11_111 rfl rfl rfl (pc' := 112) rfl ?_
    refine T_getR (t' := 21) (i' := c) (k' := 0) zk_11_112 rfl rfl rfl (vd_1 hc) (pc' := 115) rfl ?_
    refine T_op zk_11_115 rfl X_ic (pc' := 116) rfl ?_
    refine T_ld zk_11_116 rfl rfl rfl (pc' := 117) rfl ?_
    refine G_getf (lo := -2147483648) (hi := 2147483647) zk_11_117 rfl (vd_1 hc) (fun σ' h => h.1.1) (fun _ h => h.1) (pc' := 120) rfl (fun y17 hy17 hy17' => ?_)
    refine T_op zk_11_120 rfl (X_bi (v := 96) (by decide)) (pc' := 122) rfl ?_
    refine G_unkD zk_11_122 (by first | exact Or.inl rfl | exact Or.inr rfl) (by omega) (pc' := 123) rfl (fun y18 hy18 hy18' => ?_)
    refine G_iast (J' := (fun σ' => IF (MI c 21 21 21 21) σ σ' ∧ True)) (ln := 6) zk_11_123 rfl rfl (vd_21 hc) (by omega) (by omega) (by omega) (fun σ' h => ⟨h.1.up ⟨by omega, trivial⟩ (by unfold MI; omega), trivial⟩) (pc' := 124) rfl ?_
    exact T_vret zk_11_124 rfl (fun σ' h => ⟨rfl, h.1, trivial⟩)
  ·
    refine T_ld zk_11_20 rfl rfl rfl (pc' := 21) rfl ?_
    refine T_ld zk_11_21 rfl rfl rfl (pc' := 22) rfl ?_
    refine T_getR (t' := 17) (i' := c) (k' := 1) zk_11_22 rfl rfl rfl (vd_1 hc) (pc' := 25) rfl ?_
    refine T_ld zk_11_25 rfl rfl rfl (pc' := 26) rfl ?_
    refine G_getf (lo := -2147483648) (hi := 2147483647) zk_11_26 rfl (vd_1 hc) (fun σ' h => h.1.1) (fun _ h => h.1) (pc' := 29) rfl (fun y19 hy19 hy19' => ?_)
    refine T_ld zk_11_29 rfl rfl rfl (pc' := 30) rfl ?_
    refine G_unk zk_11_30 rfl (pc' := 31) rfl (fun y20 hy20 hy20' => ?_)
    refine T_calli (K := fun y21 σ' => (y21 = 0) ∧ (fun σ' => IF (MI c 21 21 21 21) σ σ' ∧ True) σ') (r := [iv x3]) zk_11_31 rfl rfl rfl rfl rfl rfl (Or.inr ⟨_, _, _, _, rfl, (vd_17 hc (by omega)), rfl⟩) (fun σ' h => (c_73e c 1 y20 hc (by omega) (by omega) σ' h.1.1 ((h.1.2 _ _ _ _ (by unfold MI; omega)).trans s1)).le (Nat.le_of_ble_eq_true rfl) (fun v σ2 ⟨y, h1, h2, h3, h4⟩ => ⟨y, h1, h2, h.1.tr h3 MN_sub, trivial⟩)) (pc' := 34) rfl (fun y21 => ?_)
    refine G_ex (fun hy21 => ?_)
    obtain rfl : y21 = 0 := by omega
    refine T_max zk_11_34 rfl (by omega) (by omega) rfl (pc' := 37) rfl (fun y22 hy22 hy22' ey22 => ?_)
    refine T_st (L' := [(0, av 1 c 0), (1, iv y22), (2, iv x4)]) zk_11_37 (nL := 3) rfl rfl rfl rfl rfl (pc' := 38) rfl ?_
    refine T_iinc (L' := [(0, av 1 c 0), (1, iv y22), (2, iv (x4 + 1))]) zk_11_38 (nL := 3) rfl rfl rfl rfl (pc' := 41) rfl ?_
    refine T_goto zk_11_41 ?_
    exact ih5 y22 (x4 + 1) (by omega) (by omega)
/-- W$City.keepLaws -/
theorem c_14e {xs : Nat × (Nat → Int32)} (c : Nat) (hc : c < 3) (σ : ZS) (hI : Inv σ)  (s1 : σ 11 c 0 0 = 0) : CT xs 1 14 [av 1 c 0] σ (fun v σ' => v = none ∧ IF MN σ σ' ∧ (True)) := by
  refine G_ct (J := (fun σ' => IF MN σ σ' ∧ True)) (L := [(0, av 1 c 0)]) (nL := 5) rfl rfl rfl ⟨IF.rf hI, trivial⟩ ?_
  refine T_op zk_14_0 rfl X_ic (pc' := 1) rfl ?_
  refine T_st (L' := [(0, av 1 c 0), (1, iv 0)]) zk_14_1 (nL := 5) rfl rfl rfl rfl rfl (pc' := 2) rfl ?_
  refine T_loop1 (fun x1 => ((0 : Int)).toNat) (fun x1 => (0 ≤ x1 ∧ x1 ≤ 0)) (fun x1 => TJ xs (fun σ' => IF MN σ σ' ∧ True) 0 14 2 [(0, av 1 c 0), (1, iv x1)] [] _) ?_ 0 (by omega)
  intro x1 hp3 ih2
  refine T_ld zk_14_2 rfl rfl rfl (pc' := 3) rfl ?_
  refine T_ld zk_14_3 rfl rfl rfl (pc' := 4) rfl ?_
  refine T_getR (t' := 11) (i' := c) (k' := 0) zk_14_4 rfl rfl rfl (vd_1 hc) (pc' := 7) rfl ?_
  refine G_getX (w := 0) zk_14_7 rfl (vd_11 hc) (fun σ' h => (h.1.2 _ _ _ _ (fun q => q)).trans s1) (pc' := 10) rfl ?_
  refine T_icmp_ge zk_14_10 (by omega) (by omega) (pc' := 13) rfl (fun h4 => ?_) (fun h5 => ?_)
  ·
    exact T_vret zk_14_111 rfl (fun σ' h => ⟨rfl, h.1, trivial⟩)
  · exfalso; omega
/-- W$Lagoon.flow -/
theorem c_35z {xs : Nat × (Nat → Int32)} (c : Nat) (hc : c < 3) (σ : ZS) (hI : Inv σ)  (s1 : (∀ j, 0 ≤ j → j < 25 → σ 4 c 0 j = 0)) : CT xs 2 35 [av 2 c 0] σ (fun v σ' => v = none ∧ IF (MI c 4 6 10 10) σ σ' ∧ ((∀ j, 0 ≤ j → j < 25 → σ' 4 c 0 j = 0) ∧ True)) := by
  refine G_ct (J := (fun σ' => IF (MI c 4 6 10 10) σ σ' ∧ (∀ j, 0 ≤ j → j < 25 → σ' 4 c 0 j = 0) ∧ True)) (L := [(0, av 2 c 0)]) (nL := 5) rfl rfl rfl ⟨IF.rf hI, s1, trivial⟩ ?_
  refine T_ld zk_35_0 rfl rfl rfl (pc' := 1) rfl ?_
  refine T_getR (t' := 4) (i' := c) (k' := 0) zk_35_1 rfl rfl rfl (vd_2 hc) (pc' := 4) rfl ?_
  refine T_op zk_35_4 rfl X_ic (pc' := 5) rfl ?_
  refine T_ld zk_35_5 rfl rfl rfl (pc' := 6) rfl ?_
  refine T_getR (t' := 10) (i' := c) (k' := 0) zk_35_6 rfl rfl rfl (vd_2 hc) (pc' := 9) rfl ?_
  refine T_op zk_35_9 rfl X_ic (pc' := 10) rfl ?_
  refine T_op zk_35_10 rfl (X_bi (v := 25) (by decide)) (pc' := 12) rfl ?_
  refine G_copy (J' := (fun σ' => IF (MI c 4 6 10 10) σ σ' ∧ (∀ j, 0 ≤ j → j < 25 → σ' 4 c 0 j = 0) ∧ (∀ j, 0 ≤ j → j < 25 → σ' 10 c 0 j = 0) ∧ True)) (l0 := 25) (l1 := 25) (kk := 12) zk_35_12 rfl rfl (by decide) rfl rfl rfl rfl (vd_4 hc) (vd_10 hc) (by omega) (by omega) (by omega) (by omega) (by omega) (fun σ' h => ⟨h.1.cp (rg_cp0 rfl (fun _ _ h => h) (fun j => h.1.1 4 c 0 j (vd_4 hc)) (fun j => h.1.1 10 c 0 j (vd_10 hc))) (fun j => (by unfold MI; omega)), fun j a b => (congrFun (upr_oth _ _ _ (by omega)) j).trans (h.2.1 j a b), upr_cp0 (h.2.1) (by omega) (by omega), trivial⟩) (pc' := 15) rfl ?_
  refine T_op zk_35_15 rfl X_ic (pc' := 16) rfl ?_
  refine T_st (L' := [(0, av 2 c 0), (1, iv 0)]) zk_35_16 (nL := 5) rfl rfl rfl rfl rfl (pc' := 17) rfl ?_
  refine T_loop1 (fun x1 => ((40 - x1 : Int)).toNat) (fun x1 => (0 ≤ x1 ∧ x1 ≤ 40)) (fun x1 => TJ xs (fun σ' => IF (MI c 4 6 10 10) σ σ' ∧ (∀ j, 0 ≤ j → j < 25 → σ' 4 c 0 j = 0) ∧ (∀ j, 0 ≤ j → j < 25 → σ' 10 c 0 j = 0) ∧ True) 1 35 17 [(0, av 2 c 0), (1, iv x1)] [] _) ?_ 0 (by omega)
  intro x1 hp3 ih2
  refine T_ld zk_35_17 rfl rfl rfl (pc' := 18) rfl ?_
  refine T_op zk_35_18 rfl (X_bi (v := 40) (by decide)) (pc' := 20) rfl ?_
  refine T_icmp_ge zk_35_20 (by omega) (by omega) (pc' := 23) rfl (fun h4 => ?_) (fun h5 => ?_)
  ·
    exact T_vret zk_35_115 rfl (fun σ' h => ⟨rfl, h.1, ⟨h.2.1, trivial⟩⟩)
  ·
    refine T_ld zk_35_23 rfl rfl rfl (pc' := 24) rfl ?_
    refine T_getR (t' := 8) (i' := c) (k' := 0) zk_35_24 rfl rfl rfl (vd_2 hc) (pc' := 27) rfl ?_
    refine T_ld zk_35_27 rfl rfl rfl (pc' := 28) rfl ?_
    refine G_bald (lo := 0) (hi := 1) (ln := 40) zk_35_28 rfl rfl (vd_8 hc) (by omega) (by omega) (by omega) (fun σ' h => h.1.1) (fun _ h => h.2 (by omega) (by omega)) (pc' := 29) rfl (fun y6 hy6 hy6' => ?_)
    refine T_if_ne zk_35_29 (by omega) (pc' := 32) rfl (fun h7 => ?_) (fun h8 => ?_)
    ·
      refine T_iinc (L' := [(0, av 2 c 0), (1, iv (x1 + 1))]) zk_35_109 (nL := 5) rfl rfl rfl rfl (pc' := 112) rfl ?_
      refine T_goto zk_35_112 ?_
      exact ih2 (x1 + 1) (by omega) (by omega)
    ·
      refine T_ld zk_35_32 rfl rfl rfl (pc' := 33) rfl ?_
      refine T_calli (K := fun y9 σ' => (0 ≤ y9 ∧ y9 ≤ 24) ∧ (fun σ' => IF (MI c 4 6 10 10) σ σ' ∧ (∀ j, 0 ≤ j → j < 25 → σ' 4 c 0 j = 0) ∧ (∀ j, 0 ≤ j → j < 25 → σ' 10 c 0 j = 0) ∧ True) σ') (r := []) zk_35_33 rfl rfl rfl rfl rfl rfl (Or.inl (Or.inl rfl)) (fun σ' h => (c_31 x1 (by omega) σ' h.1.1 ).le (Nat.le_of_ble_eq_true rfl) (fun v σ2 ⟨y, h1, h2, h3, h4⟩ => ⟨y, h1, h2, h.1.tr h3 MN_sub, fun j a b => (h3.2 _ _ _ _ (fun q => q)).trans (h.2.1 j a b), fun j a b => (h3.2 _ _ _ _ (fun q => q)).trans (h.2.2.1 j a b), trivial⟩)) (pc' := 36) rfl (fun y9 => ?_)
      refine G_ex (fun hy9 => ?_)
      refine T_st (L' := [(0, av 2 c 0), (1, iv x1), (2, iv y9)]) zk_35_36 (nL := 5) rfl rfl rfl rfl rfl (pc' := 37) rfl ?_
      refine T_ld zk_35_37 rfl rfl rfl (pc' := 38) rfl ?_
      refine T_calli (K := fun y10 σ' => (0 ≤ y10 ∧ y10 ≤ 24) ∧ (fun σ' => IF (MI c 4 6 10 10) σ σ' ∧ (∀ j, 0 ≤ j → j < 25 → σ' 4 c 0 j = 0) ∧ (∀ j, 0 ≤ j → j < 25 → σ' 10 c 0 j = 0) ∧ True) σ') (r := []) zk_35_38 rfl rfl rfl rfl rfl rfl (Or.inl (Or.inl rfl)) (fun σ' h => (c_32 x1 (by omega) σ' h.1.1 ).le (Nat.le_of_ble_eq_true rfl) (fun v σ2 ⟨y, h1, h2, h3, h4⟩ => ⟨y, h1, h2, h.1.tr h3 MN_sub, fun j a b => (h3.2 _ _ _ _ (fun q => q)).trans (h.2.1 j a b), fun j a b => (h3.2 _ _ _ _ (fun q => q)).trans (h.2.2.1 j a b), trivial⟩)) (pc' := 41) rfl (fun y10 => ?_)
      refine G_ex (fun hy10 => ?_)
      refine T_st (L' := [(0, av 2 c 0), (1, iv x1), (2, iv y9), (3, iv y10)]) zk_35_41 (nL := 5) rfl rfl rfl rfl rfl (pc' := 42) rfl ?_
      refine T_ld zk_35_42 rfl rfl rfl (pc' := 43) rfl ?_
      refine T_getR (t' := 10) (i' := c) (k' := 0) zk_35_43 rfl rfl rfl (vd_2 hc) (pc' := 46) rfl ?_
      refine T_ld zk_35_46 rfl rfl rfl (pc' := 47) rfl ?_
      refine G_ialdX (w := 0) (ln := 25) zk_35_47 rfl rfl (vd_10 hc) (by omega) (by omega) (by omega) (fun σ' h => h.2.2.1 _ (by omega) (by omega)) (pc' := 48) rfl ?_
      refine T_ld zk_35_48 rfl rfl rfl (pc' := 49) rfl ?_
      refine T_getR (t' := 10) (i' := c) (k' := 0) zk_35_49 rfl rfl rfl (vd_2 hc) (pc' := 52) rfl ?_
      refine T_ld zk_35_52 rfl rfl rfl (pc' := 53) rfl ?_
      refine G_ialdX (w := 0) (ln := 25) zk_35_53 rfl rfl (vd_10 hc) (by omega) (by omega) (by omega) (fun σ' h => h.2.2.1 _ (by omega) (by omega)) (pc' := 54) rfl ?_
      refine T_opc (w := 0) zk_35_54 rfl X_sub (by omega) (pc' := 55) rfl ?_
      refine T_op zk_35_55 rfl X_ic (pc' := 56) rfl ?_
      refine T_opc (w := 0) zk_35_56 rfl (X_div (by omega) (by omega)) (by omega) (pc' := 57) rfl ?_
      refine T_st (L' := [(0, av 2 c 0), (1, iv x1), (2, iv y9), (3, iv y10), (4, iv 0)]) zk_35_57 (nL := 5) rfl rfl rfl rfl rfl (pc' := 59) rfl ?_
      refine T_ld zk_35_59 rfl rfl rfl (pc' := 60) rfl ?_
      refine T_getR (t' := 4) (i' := c) (k' := 0) zk_35_60 rfl rfl rfl (vd_2 hc) (pc' := 63) rfl ?_
      refine T_ld zk_35_63 rfl rfl rfl (pc' := 64) rfl ?_
      refine T_op (st' := [iv y9, av 4 c 0, iv y9, av 4 c 0]) zk_35_64 rfl rfl (pc' := 65) rfl ?_
      refine G_ialdX (w := 0) (ln := 25) zk_35_65 rfl rfl (vd_4 hc) (by omega) (by omega) (by omega) (fun σ' h => h.2.1 _ (by omega) (by omega)) (pc' := 66) rfl ?_
      refine T_ld zk_35_66 rfl rfl rfl (pc' := 68) rfl ?_
      refine T_opc (w := 0) zk_35_68 rfl X_sub (by omega) (pc' := 69) rfl ?_
      refine G_iast (J' := (fun σ' => IF (MI c 4 6 10 10) σ σ' ∧ (∀ j, 0 ≤ j → j < 25 → σ' 4 c 0 j = 0) ∧ (∀ j, 0 ≤ j → j < 25 → σ' 10 c 0 j = 0) ∧ True)) (ln := 25) zk_35_69 rfl rfl (vd_4 hc) (by omega) (by omega) (by omega) (fun σ' h => ⟨h.1.up ⟨by omega, trivial⟩ (by unfold MI; omega), up_rng (h.2.1) (by omega), up_rngn (h.2.2.1) (by omega), trivial⟩) (pc' := 70) rfl ?_
      refine T_ld zk_35_70 rfl rfl rfl (pc' := 71) rfl ?_
      refine T_getR (t' := 4) (i' := c) (k' := 0) zk_35_71 rfl rfl rfl (vd_2 hc) (pc' := 74) rfl ?_
      refine T_ld zk_35_74 rfl rfl rfl (pc' := 75) rfl ?_
      refine T_op (st' := [iv y10, av 4 c 0, iv y10, av 4 c 0]) zk_35_75 rfl rfl (pc' := 76) rfl ?_
      refine G_ialdX (w := 0) (ln := 25) zk_35_76 rfl rfl (vd_4 hc) (by omega) (by omega) (by omega) (fun σ' h => h.2.1 _ (by omega) (by omega)) (pc' := 77) rfl ?_
      refine T_ld zk_35_77 rfl rfl rfl (pc' := 79) rfl ?_
      refine T_opc (w := 0) zk_35_79 rfl X_add (by omega) (pc' := 80) rfl ?_
      refine G_iast (J' := (fun σ' => IF (MI c 4 6 10 10) σ σ' ∧ (∀ j, 0 ≤ j → j < 25 → σ' 4 c 0 j = 0) ∧ (∀ j, 0 ≤ j → j < 25 → σ' 10 c 0 j = 0) ∧ True)) (ln := 25) zk_35_80 rfl rfl (vd_4 hc) (by omega) (by omega) (by omega) (fun σ' h => ⟨h.1.up ⟨by omega, trivial⟩ (by unfold MI; omega), up_rng (h.2.1) (by omega), up_rngn (h.2.2.1) (by omega), trivial⟩) (pc' := 81) rfl ?_
      refine T_ld zk_35_81 rfl rfl rfl (pc' := 82) rfl ?_
      refine T_getR (t' := 6) (i' := c) (k' := 0) zk_35_82 rfl rfl rfl (vd_2 hc) (pc' := 85) rfl ?_
      refine T_ld zk_35_85 rfl rfl rfl (pc' := 86) rfl ?_
      refine T_op (st' := [iv y9, av 6 c 0, iv y9, av 6 c 0]) zk_35_86 rfl rfl (pc' := 87) rfl ?_
      refine G_iald (lo := -2147483648) (hi := 2147483647) (ln := 25) zk_35_87 rfl rfl (vd_6 hc) (by omega) (by omega) (by omega) (fun σ' h => h.1.1) (fun _ h => h.1) (pc' := 88) rfl (fun y11 hy11 hy11' => ?_)
      refine T_ld zk_35_88 rfl rfl rfl (pc' := 90) rfl ?_
      refine T_absU zk_35_90 rfl rfl (pc' := 93) rfl (fun y12 ey12 => ?_)
      obtain rfl : y12 = 0 := ey12 rfl
      refine T_op zk_35_93 rfl X_add (pc' := 94) rfl ?_
      refine G_iast (J' := (fun σ' => IF (MI c 4 6 10 10) σ σ' ∧ (∀ j, 0 ≤ j → j < 25 → σ' 4 c 0 j = 0) ∧ (∀ j, 0 ≤ j → j < 25 → σ' 10 c 0 j = 0) ∧ True)) (ln := 25) zk_35_94 rfl rfl (vd_6 hc) (by omega) (by omega) (by omega) (fun σ' h => ⟨h.1.up ⟨by omega, trivial⟩ (by unfold MI; omega), up_rngn (h.2.1) (by omega), up_rngn (h.2.2.1) (by omega), trivial⟩) (pc' := 95) rfl ?_
      refine T_ld zk_35_95 rfl rfl rfl (pc' := 96) rfl ?_
      refine T_getR (t' := 6) (i' := c) (k' := 0) zk_35_96 rfl rfl rfl (vd_2 hc) (pc' := 99) rfl ?_
      refine T_ld zk_35_99 rfl rfl rfl (pc' := 100) rfl ?_
      refine T_op (st' := [iv y10, av 6 c 0, iv y10, av 6 c 0]) zk_35_100 rfl rfl (pc' := 101) rfl ?_
      refine G_iald (lo := -2147483648) (hi := 2147483647) (ln := 25) zk_35_101 rfl rfl (vd_6 hc) (by omega) (by omega) (by omega) (fun σ' h => h.1.1) (fun _ h => h.1) (pc' := 102) rfl (fun y13 hy13 hy13' => ?_)
      refine T_ld zk_35_102 rfl rfl rfl (pc' := 104) rfl ?_
      refine T_absU zk_35_104 rfl rfl (pc' := 107) rfl (fun y14 ey14 => ?_)
      obtain rfl : y14 = 0 := ey14 rfl
      refine T_op zk_35_107 rfl X_add (pc' := 108) rfl ?_
      refine G_iast (J' := (fun σ' => IF (MI c 4 6 10 10) σ σ' ∧ (∀ j, 0 ≤ j → j < 25 → σ' 4 c 0 j = 0) ∧ (∀ j, 0 ≤ j → j < 25 → σ' 10 c 0 j = 0) ∧ True)) (ln := 25) zk_35_108 rfl rfl (vd_6 hc) (by omega) (by omega) (by omega) (fun σ' h => ⟨h.1.up ⟨by omega, trivial⟩ (by unfold MI; omega), up_rngn (h.2.1) (by omega), up_rngn (h.2.2.1) (by omega), trivial⟩) (pc' := 109) rfl ?_
      refine T_iinc (L' := [(0, av 2 c 0), (1, iv (x1 + 1)), (2, iv y9), (3, iv y10), (4, iv 0)]) zk_35_109 (nL := 5) rfl rfl rfl rfl (pc' := 112) rfl ?_
      refine T_goto zk_35_112 ?_
      refine T_loc (L := [(0, av 2 c 0), (1, iv (x1 + 1))]) (E := [(2, iv y9), (3, iv y10), (4, iv 0)]) rfl ?_
      exact ih2 (x1 + 1) (by omega) (by omega)
/-- W$City.liveWaters -/
theorem c_12e {xs : Nat × (Nat → Int32)} (c : Nat) (p0 : Int) (hc : c < 3) (h0 : 0 ≤ p0 ∧ p0 ≤ 1) (σ : ZS) (hI : Inv σ)  (s1 : σ 17 c 1 0 = 0) (s2 : σ 1 c 0 7 = 0) (s3 : σ 11 c 0 0 = 0) (s4 : (∀ j, 0 ≤ j → j < 25 → σ 4 c 0 j = 0)) (s5 : σ 17 c (Int.toNat p0) 0 = 0) : CT xs 3 12 [av 1 c 0, iv p0] σ (fun v σ' => v = none ∧ IF (MI c 4 6 10 21) σ σ' ∧ ((∀ j, 0 ≤ j → j < 25 → σ' 4 c 0 j = 0) ∧ True)) := by
  refine G_ct (J := (fun σ' => IF (MI c 4 6 10 21) σ σ' ∧ (∀ j, 0 ≤ j → j < 25 → σ' 4 c 0 j = 0) ∧ True)) (L := [(0, av 1 c 0), (1, iv p0)]) (nL := 6) rfl rfl rfl ⟨IF.rf hI, s4, trivial⟩ ?_
  refine T_ld zk_12_0 rfl rfl rfl (pc' := 1) rfl ?_
  refine T_callv (J' := (fun σ' => IF (MI c 4 6 10 21) σ σ' ∧ (∀ j, 0 ≤ j → j < 25 → σ' 4 c 0 j = 0) ∧ True)) (r := []) zk_12_1 rfl rfl rfl rfl rfl rfl (Or.inr ⟨_, _, _, _, rfl, (vd_1 hc), rfl⟩) (fun σ' h => (c_11e c hc σ' h.1.1 ((h.1.2 _ _ _ _ (by unfold MI; omega)).trans s1) ((h.1.2 _ _ _ _ (by unfold MI; omega)).trans s2)).le (Nat.le_of_ble_eq_true rfl) (fun v σ2 ⟨h1, h3, h4⟩ => ⟨h1, h.1.tr h3 (fun t i k j h => by unfold MI at h; unfold MI; omega), fun j a b => (h3.2 _ _ _ _ (by unfold MI; omega)).trans (h.2.1 j a b), trivial⟩)) (pc' := 4) rfl ?_
  refine T_ld zk_12_4 rfl rfl rfl (pc' := 5) rfl ?_
  refine T_callv (J' := (fun σ' => IF (MI c 4 6 10 21) σ σ' ∧ (∀ j, 0 ≤ j → j < 25 → σ' 4 c 0 j = 0) ∧ True)) (r := []) zk_12_5 rfl rfl rfl rfl rfl rfl (Or.inr ⟨_, _, _, _, rfl, (vd_1 hc), rfl⟩) (fun σ' h => (c_14e c hc σ' h.1.1 ((h.1.2 _ _ _ _ (by unfold MI; omega)).trans s3)).le (Nat.le_of_ble_eq_true rfl) (fun v σ2 ⟨h1, h3, h4⟩ => ⟨h1, h.1.tr h3 MN_sub, fun j a b => (h3.2 _ _ _ _ (fun q => q)).trans (h.2.1 j a b), trivial⟩)) (pc' := 8) rfl ?_
  refine T_ld zk_12_8 rfl rfl rfl (pc' := 9) rfl ?_
  refine T_ld zk_12_9 rfl rfl rfl (pc' := 10) rfl ?_
  refine T_callr (t := 17) (i := c) (k := (Int.toNat p0)) (J' := (fun σ' => IF (MI c 4 6 10 21) σ σ' ∧ (∀ j, 0 ≤ j → j < 25 → σ' 4 c 0 j = 0) ∧ True)) (r := []) zk_12_10 rfl rfl rfl rfl rfl rfl (Or.inr ⟨_, _, _, _, rfl, (vd_1 hc), rfl⟩) (fun σ' h => (c_10 c p0 hc (by omega) σ' h.1.1 ).le (Nat.le_of_ble_eq_true rfl) (fun v σ2 ⟨h1, h3, h4⟩ => ⟨h1, h.1.tr h3 MN_sub, fun j a b => (h3.2 _ _ _ _ (fun q => q)).trans (h.2.1 j a b), trivial⟩)) (pc' := 13) rfl ?_
  refine T_ld zk_12_13 rfl rfl rfl (pc' := 14) rfl ?_
  refine G_getf (lo := -2147483648) (hi := 2147483647) zk_12_14 rfl (vd_1 hc) (fun σ' h => h.1.1) (fun _ h => h.1) (pc' := 17) rfl (fun y4 hy4 hy4' => ?_)
  refine T_calli (K := fun y5 σ' => (y5 = 0) ∧ (fun σ' => IF (MI c 4 6 10 21) σ σ' ∧ (∀ j, 0 ≤ j → j < 25 → σ' 4 c 0 j = 0) ∧ True) σ') (r := []) zk_12_17 rfl rfl rfl rfl rfl rfl (Or.inr ⟨_, _, _, _, rfl, (vd_17 hc (by omega)), rfl⟩) (fun σ' h => (c_73e c (Int.toNat p0) y4 hc (by omega) (by omega) σ' h.1.1 ((h.1.2 _ _ _ _ (by unfold MI; omega)).trans s5)).le (Nat.le_of_ble_eq_true rfl) (fun v σ2 ⟨y, h1, h2, h3, h4⟩ => ⟨y, h1, h2, h.1.tr h3 MN_sub, fun j a b => (h3.2 _ _ _ _ (fun q => q)).trans (h.2.1 j a b), trivial⟩)) (pc' := 20) rfl (fun y5 => ?_)
  refine G_ex (fun hy5 => ?_)
  obtain rfl : y5 = 0 := by omega
  refine T_st (L' := [(0, av 1 c 0), (1, iv p0), (2, iv 0)]) zk_12_20 (nL := 6) rfl rfl rfl rfl rfl (pc' := 21) rfl ?_
  refine T_ld zk_12_21 rfl rfl rfl (pc' := 22) rfl ?_
  refine T_getR (t' := 11) (i' := c) (k' := 0) zk_12_22 rfl rfl rfl (vd_1 hc) (pc' := 25) rfl ?_
  refine T_calli (K := fun y6 σ' => (y6 = 0) ∧ (fun σ' => IF (MI c 4 6 10 21) σ σ' ∧ (∀ j, 0 ≤ j → j < 25 → σ' 4 c 0 j = 0) ∧ True) σ') (r := []) zk_12_25 rfl rfl rfl rfl rfl rfl (Or.inr ⟨_, _, _, _, rfl, (vd_11 hc), rfl⟩) (fun σ' h => (c_63e c hc σ' h.1.1 ((h.1.2 _ _ _ _ (by unfold MI; omega)).trans s3)).le (Nat.le_of_ble_eq_true rfl) (fun v σ2 ⟨y, h1, h2, h3, h4⟩ => ⟨y, h1, h2, h.1.tr h3 MN_sub, fun j a b => (h3.2 _ _ _ _ (fun q => q)).trans (h.2.1 j a b), trivial⟩)) (pc' := 28) rfl (fun y6 => ?_)
  refine G_ex (fun hy6 => ?_)
  obtain rfl : y6 = 0 := by omega
  refine T_if_le zk_12_28 (by omega) (pc' := 31) rfl (fun h7 => ?_) (fun h8 => ?_)
  ·
    refine T_op zk_12_51 rfl X_ic (pc' := 52) rfl ?_
    refine T_st (L' := [(0, av 1 c 0), (1, iv p0), (2, iv 0), (3, iv 0)]) zk_12_52 (nL := 6) rfl rfl rfl rfl rfl (pc' := 53) rfl ?_
    refine T_loop1 (fun x9 => ((0 : Int)).toNat) (fun x9 => (0 ≤ x9 ∧ x9 ≤ 0)) (fun x9 => TJ xs (fun σ' => IF (MI c 4 6 10 21) σ σ' ∧ (∀ j, 0 ≤ j → j < 25 → σ' 4 c 0 j = 0) ∧ True) 2 12 53 [(0, av 1 c 0), (1, iv p0), (2, iv 0), (3, iv x9)] [] _) ?_ 0 (by omega)
    intro x9 hp11 ih10
    refine T_ld zk_12_53 rfl rfl rfl (pc' := 54) rfl ?_
    refine T_ld zk_12_54 rfl rfl rfl (pc' := 55) rfl ?_
    refine T_getR (t' := 11) (i' := c) (k' := 0) zk_12_55 rfl rfl rfl (vd_1 hc) (pc' := 58) rfl ?_
    refine G_getX (w := 0) zk_12_58 rfl (vd_11 hc) (fun σ' h => (h.1.2 _ _ _ _ (by unfold MI; omega)).trans s3) (pc' := 61) rfl ?_
    refine T_icmp_ge zk_12_61 (by omega) (by omega) (pc' := 64) rfl (fun h12 => ?_) (fun h13 => ?_)
    ·
      refine T_ld zk_12_135 rfl rfl rfl (pc' := 136) rfl ?_
      refine T_getR (t' := 2) (i' := c) (k' := 0) zk_12_136 rfl rfl rfl (vd_1 hc) (pc' := 139) rfl ?_
      refine T_callv (J' := (fun σ' => IF (MI c 4 6 10 21) σ σ' ∧ (∀ j, 0 ≤ j → j < 25 → σ' 4 c 0 j = 0) ∧ True)) (r := []) zk_12_139 rfl rfl rfl rfl rfl rfl (Or.inr ⟨_, _, _, _, rfl, (vd_2 hc), rfl⟩) (fun σ' h => (c_35z c hc σ' h.1.1 (fun j a b => h.2.1 j (by omega) (by omega))).le (Nat.le_of_ble_eq_true rfl) (fun v σ2 ⟨h1, h3, h4⟩ => ⟨h1, h.1.tr h3 (fun t i k j h => by unfold MI at h; unfold MI; omega), h4.1, trivial⟩)) (pc' := 142) rfl ?_
      exact T_vret zk_12_142 rfl (fun σ' h => ⟨rfl, h.1, ⟨h.2.1, trivial⟩⟩)
    · exfalso; omega
  · exfalso; omega
/-- W$City.sailAll -/
theorem c_15e {xs : Nat × (Nat → Int32)} (c : Nat) (hc : c < 3) (σ : ZS) (hI : Inv σ)  (s1 : σ 1 c 0 7 = 0) : CT xs 1 15 [av 1 c 0] σ (fun v σ' => v = none ∧ IF (MI c 22 22 22 22) σ σ' ∧ (True)) := by
  refine G_ct (J := (fun σ' => IF (MI c 22 22 22 22) σ σ' ∧ True)) (L := [(0, av 1 c 0)]) (nL := 3) rfl rfl rfl ⟨IF.rf hI, trivial⟩ ?_
  refine T_op zk_15_0 rfl X_ic (pc' := 1) rfl ?_
  refine T_st (L' := [(0, av 1 c 0), (1, iv 0)]) zk_15_1 (nL := 3) rfl rfl rfl rfl rfl (pc' := 2) rfl ?_
  refine T_loop1 (fun x1 => ((40 - x1 : Int)).toNat) (fun x1 => (0 ≤ x1 ∧ x1 ≤ 40)) (fun x1 => TJ xs (fun σ' => IF (MI c 22 22 22 22) σ σ' ∧ True) 0 15 2 [(0, av 1 c 0), (1, iv x1)] [] _) ?_ 0 (by omega)
  intro x1 hp3 ih2
  refine T_ld zk_15_2 rfl rfl rfl (pc' := 3) rfl ?_
  refine T_op zk_15_3 rfl (X_bi (v := 40) (by decide)) (pc' := 5) rfl ?_
  refine T_icmp_ge zk_15_5 (by omega) (by omega) (pc' := 8) rfl (fun h4 => ?_) (fun h5 => ?_)
  ·
    refine T_op zk_15_21 rfl (X_bi (v := 9) (by decide)) (pc' := 23) rfl ?_
    refine T_st (L' := [(0, av 1 c 0), (1, iv 9)]) zk_15_23 (nL := 3) rfl rfl rfl rfl rfl (pc' := 24) rfl ?_
    refine T_loop1 (fun x6 => ((x6 + 1 : Int)).toNat) (fun x6 => (-1 ≤ x6 ∧ x6 ≤ 9)) (fun x6 => TJ xs (fun σ' => IF (MI c 22 22 22 22) σ σ' ∧ True) 0 15 24 [(0, av 1 c 0), (1, iv x6)] [] _) ?_ 9 (by omega)
    intro x6 hp8 ih7
    refine T_ld zk_15_24 rfl rfl rfl (pc' := 25) rfl ?_
    refine T_if_lt zk_15_25 (by omega) (pc' := 28) rfl (fun h9 => ?_) (fun h10 => ?_)
    ·
      exact T_vret zk_15_86 rfl (fun σ' h => ⟨rfl, h.1, trivial⟩)
    ·
      refine T_op zk_15_28 rfl X_ic (pc' := 29) rfl ?_
      refine T_st (L' := [(0, av 1 c 0), (1, iv x6), (2, iv 0)]) zk_15_29 (nL := 3) rfl rfl rfl rfl rfl (pc' := 30) rfl ?_
      refine T_loop1 (fun x11 => ((0 : Int)).toNat) (fun x11 => (0 ≤ x11 ∧ x11 ≤ 0)) (fun x11 => TJ xs (fun σ' => IF (MI c 22 22 22 22) σ σ' ∧ True) 0 15 30 [(0, av 1 c 0), (1, iv x6), (2, iv x11)] [] _) ?_ 0 (by omega)
      intro x11 hp13 ih12
      refine T_ld zk_15_30 rfl rfl rfl (pc' := 31) rfl ?_
      refine T_ld zk_15_31 rfl rfl rfl (pc' := 32) rfl ?_
      refine G_getX (w := 0) zk_15_32 rfl (vd_1 hc) (fun σ' h => (h.1.2 _ _ _ _ (by unfold MI; omega)).trans s1) (pc' := 35) rfl ?_
      refine T_icmp_ge zk_15_35 (by omega) (by omega) (pc' := 38) rfl (fun h14 => ?_) (fun h15 => ?_)
      ·
        refine T_iinc (L' := [(0, av 1 c 0), (1, iv (x6 + (-1))), (2, iv x11)]) zk_15_80 (nL := 3) rfl rfl rfl rfl (pc' := 83) rfl ?_
        refine T_goto zk_15_83 ?_
        refine T_loc (L := [(0, av 1 c 0), (1, iv (x6 + (-1)))]) (E := [(2, iv x11)]) rfl ?_
        exact ih7 (x6 + (-1)) (by omega) (by omega)
      · exfalso; omega
  ·
    refine T_ld zk_15_8 rfl rfl rfl (pc' := 9) rfl ?_
    refine T_getR (t' := 22) (i' := c) (k' := 0) zk_15_9 rfl rfl rfl (vd_1 hc) (pc' := 12) rfl ?_
    refine T_ld zk_15_12 rfl rfl rfl (pc' := 13) rfl ?_
    refine T_op zk_15_13 rfl X_ic (pc' := 14) rfl ?_
    refine G_bast (J' := (fun σ' => IF (MI c 22 22 22 22) σ σ' ∧ True)) (ln := 40) zk_15_14 rfl rfl (by omega) (vd_22 hc) (by omega) (by omega) (by omega) (fun σ' h => ⟨h.1.up (by simp only [rgP] <;> omega) (by unfold MI; omega), trivial⟩) (pc' := 15) rfl ?_
    refine T_iinc (L' := [(0, av 1 c 0), (1, iv (x1 + 1))]) zk_15_15 (nL := 3) rfl rfl rfl rfl (pc' := 18) rfl ?_
    refine T_goto zk_15_18 ?_
    exact ih2 (x1 + 1) (by omega) (by omega)
/-- W$Lagoon.endDay -/
theorem c_38 {xs : Nat × (Nat → Int32)} (c : Nat) (p0 : Int) (hc : c < 3) (h0 : -2147483648 ≤ p0 ∧ p0 ≤ 2147483647) (σ : ZS) (hI : Inv σ)   : CT xs 1 38 [av 2 c 0, iv p0] σ (fun v σ' => v = none ∧ IF (MI c 3 6 6 6) σ σ' ∧ (True)) := by
  refine G_ct (J := (fun σ' => IF (MI c 3 6 6 6) σ σ' ∧ True)) (L := [(0, av 2 c 0), (1, iv p0)]) (nL := 3) rfl rfl rfl ⟨IF.rf hI, trivial⟩ ?_
  refine T_op zk_38_0 rfl X_ic (pc' := 1) rfl ?_
  refine T_st (L' := [(0, av 2 c 0), (1, iv p0), (2, iv 0)]) zk_38_1 (nL := 3) rfl rfl rfl rfl rfl (pc' := 2) rfl ?_
  refine T_loop1 (fun x1 => ((25 - x1 : Int)).toNat) (fun x1 => (0 ≤ x1 ∧ x1 ≤ 25)) (fun x1 => TJ xs (fun σ' => IF (MI c 3 6 6 6) σ σ' ∧ True) 0 38 2 [(0, av 2 c 0), (1, iv p0), (2, iv x1)] [] _) ?_ 0 (by omega)
  intro x1 hp3 ih2
  refine T_ld zk_38_2 rfl rfl rfl (pc' := 3) rfl ?_
  refine T_op zk_38_3 rfl (X_bi (v := 25) (by decide)) (pc' := 5) rfl ?_
  refine T_icmp_ge zk_38_5 (by omega) (by omega) (pc' := 8) rfl (fun h4 => ?_) (fun h5 => ?_)
  ·
    exact T_vret zk_38_50 rfl (fun σ' h => ⟨rfl, h.1, trivial⟩)
  ·
    refine T_ld zk_38_8 rfl rfl rfl (pc' := 9) rfl ?_
    refine T_getR (t' := 6) (i' := c) (k' := 0) zk_38_9 rfl rfl rfl (vd_2 hc) (pc' := 12) rfl ?_
    refine T_ld zk_38_12 rfl rfl rfl (pc' := 13) rfl ?_
    refine G_iald (lo := -2147483648) (hi := 2147483647) (ln := 25) zk_38_13 rfl rfl (vd_6 hc) (by omega) (by omega) (by omega) (fun σ' h => h.1.1) (fun _ h => h.1) (pc' := 14) rfl (fun y6 hy6 hy6' => ?_)
    refine T_ld zk_38_14 rfl rfl rfl (pc' := 15) rfl ?_
    refine T_icmp_ge zk_38_15 (by omega) (by omega) (pc' := 18) rfl (fun h7 => ?_) (fun h8 => ?_)
    ·
      refine T_ld zk_38_37 rfl rfl rfl (pc' := 38) rfl ?_
      refine T_getR (t' := 6) (i' := c) (k' := 0) zk_38_38 rfl rfl rfl (vd_2 hc) (pc' := 41) rfl ?_
      refine T_ld zk_38_41 rfl rfl rfl (pc' := 42) rfl ?_
      refine T_op zk_38_42 rfl X_ic (pc' := 43) rfl ?_
      refine G_iast (J' := (fun σ' => IF (MI c 3 6 6 6) σ σ' ∧ True)) (ln := 25) zk_38_43 rfl rfl (vd_6 hc) (by omega) (by omega) (by omega) (fun σ' h => ⟨h.1.up ⟨by omega, trivial⟩ (by unfold MI; omega), trivial⟩) (pc' := 44) rfl ?_
      refine T_iinc (L' := [(0, av 2 c 0), (1, iv p0), (2, iv (x1 + 1))]) zk_38_44 (nL := 3) rfl rfl rfl rfl (pc' := 47) rfl ?_
      refine T_goto zk_38_47 ?_
      exact ih2 (x1 + 1) (by omega) (by omega)
    ·
      refine T_ld zk_38_18 rfl rfl rfl (pc' := 19) rfl ?_
      refine T_getR (t' := 3) (i' := c) (k' := 0) zk_38_19 rfl rfl rfl (vd_2 hc) (pc' := 22) rfl ?_
      refine T_ld zk_38_22 rfl rfl rfl (pc' := 23) rfl ?_
      refine G_iald (lo := -2147483648) (hi := 2147483647) (ln := 25) zk_38_23 rfl rfl (vd_3 hc) (by omega) (by omega) (by omega) (fun σ' h => h.1.1) (fun _ h => h.1) (pc' := 24) rfl (fun y9 hy9 hy9' => ?_)
      refine T_if_le zk_38_24 (by omega) (pc' := 27) rfl (fun h10 => ?_) (fun h11 => ?_)
      ·
        refine T_ld zk_38_37 rfl rfl rfl (pc' := 38) rfl ?_
        refine T_getR (t' := 6) (i' := c) (k' := 0) zk_38_38 rfl rfl rfl (vd_2 hc) (pc' := 41) rfl ?_
        refine T_ld zk_38_41 rfl rfl rfl (pc' := 42) rfl ?_
        refine T_op zk_38_42 rfl X_ic (pc' := 43) rfl ?_
        refine G_iast (J' := (fun σ' => IF (MI c 3 6 6 6) σ σ' ∧ True)) (ln := 25) zk_38_43 rfl rfl (vd_6 hc) (by omega) (by omega) (by omega) (fun σ' h => ⟨h.1.up ⟨by omega, trivial⟩ (by unfold MI; omega), trivial⟩) (pc' := 44) rfl ?_
        refine T_iinc (L' := [(0, av 2 c 0), (1, iv p0), (2, iv (x1 + 1))]) zk_38_44 (nL := 3) rfl rfl rfl rfl (pc' := 47) rfl ?_
        refine T_goto zk_38_47 ?_
        exact ih2 (x1 + 1) (by omega) (by omega)
      ·
        refine T_ld zk_38_27 rfl rfl rfl (pc' := 28) rfl ?_
        refine T_getR (t' := 3) (i' := c) (k' := 0) zk_38_28 rfl rfl rfl (vd_2 hc) (pc' := 31) rfl ?_
        refine T_ld zk_38_31 rfl rfl rfl (pc' := 32) rfl ?_
        refine T_op (st' := [iv x1, av 3 c 0, iv x1, av 3 c 0]) zk_38_32 rfl rfl (pc' := 33) rfl ?_
        refine G_iald (lo := -2147483648) (hi := 2147483647) (ln := 25) zk_38_33 rfl rfl (vd_3 hc) (by omega) (by omega) (by omega) (fun σ' h => h.1.1) (fun _ h => h.1) (pc' := 34) rfl (fun y12 hy12 hy12' => ?_)
        refine T_op zk_38_34 rfl X_ic (pc' := 35) rfl ?_
        refine G_unk zk_38_35 rfl (pc' := 36) rfl (fun y13 hy13 hy13' => ?_)
        refine G_iast (J' := (fun σ' => IF (MI c 3 6 6 6) σ σ' ∧ True)) (ln := 25) zk_38_36 rfl rfl (vd_3 hc) (by omega) (by omega) (by omega) (fun σ' h => ⟨h.1.up ⟨by omega, trivial⟩ (by unfold MI; omega), trivial⟩) (pc' := 37) rfl ?_
        refine T_ld zk_38_37 rfl rfl rfl (pc' := 38) rfl ?_
        refine T_getR (t' := 6) (i' := c) (k' := 0) zk_38_38 rfl rfl rfl (vd_2 hc) (pc' := 41) rfl ?_
        refine T_ld zk_38_41 rfl rfl rfl (pc' := 42) rfl ?_
        refine T_op zk_38_42 rfl X_ic (pc' := 43) rfl ?_
        refine G_iast (J' := (fun σ' => IF (MI c 3 6 6 6) σ σ' ∧ True)) (ln := 25) zk_38_43 rfl rfl (vd_6 hc) (by omega) (by omega) (by omega) (fun σ' h => ⟨h.1.up ⟨by omega, trivial⟩ (by unfold MI; omega), trivial⟩) (pc' := 44) rfl ?_
        refine T_iinc (L' := [(0, av 2 c 0), (1, iv p0), (2, iv (x1 + 1))]) zk_38_44 (nL := 3) rfl rfl rfl rfl (pc' := 47) rfl ?_
        refine T_goto zk_38_47 ?_
        exact ih2 (x1 + 1) (by omega) (by omega)
/-- W$City.livePeople -/
theorem c_13e {xs : Nat × (Nat → Int32)} (c : Nat) (n : Int) (hc : c < 3) (hn : 0 ≤ n ∧ n ≤ 29999) (σ : ZS) (hI : Inv σ)  (s1 : σ 1 c 0 7 = 0) (s2 : σ 1 c 0 6 = 0) (s3 : σ 11 c 0 0 = 0) (s4 : σ 1 c 0 13 = n) : CT xs 2 13 [av 1 c 0] σ (fun v σ' => v = none ∧ IF (MP c) σ σ' ∧ (σ' 1 c 0 13 = n + 1 ∧ True)) := by
  refine G_ct (J := (fun σ' => IF (MP c) σ σ' ∧ σ' 1 c 0 13 = n ∧ True)) (L := [(0, av 1 c 0)]) (nL := 3) rfl rfl rfl ⟨IF.rf hI, s4, trivial⟩ ?_
  refine T_ld zk_13_0 rfl rfl rfl (pc' := 1) rfl ?_
  refine T_callv (J' := (fun σ' => IF (MP c) σ σ' ∧ σ' 1 c 0 13 = n ∧ True)) (r := []) zk_13_1 rfl rfl rfl rfl rfl rfl (Or.inr ⟨_, _, _, _, rfl, (vd_1 hc), rfl⟩) (fun σ' h => (c_15e c hc σ' h.1.1 ((h.1.2 _ _ _ _ (by unfold MP; omega)).trans s1)).le (Nat.le_of_ble_eq_true rfl) (fun v σ2 ⟨h1, h3, h4⟩ => ⟨h1, h.1.tr h3 (fun t i k j h => by unfold MI at h; unfold MP; omega), (h3.2 _ _ _ _ (by unfold MI; omega)).trans (h.2.1), trivial⟩)) (pc' := 4) rfl ?_
  refine T_op zk_13_4 rfl X_ic (pc' := 5) rfl ?_
  refine T_st (L' := [(0, av 1 c 0), (1, iv 0)]) zk_13_5 (nL := 3) rfl rfl rfl rfl rfl (pc' := 6) rfl ?_
  refine T_op zk_13_6 rfl X_ic (pc' := 7) rfl ?_
  refine T_st (L' := [(0, av 1 c 0), (1, iv 0), (2, iv 0)]) zk_13_7 (nL := 3) rfl rfl rfl rfl rfl (pc' := 8) rfl ?_
  refine T_loop1 (fun x2 => ((0 : Int)).toNat) (fun x2 => (0 ≤ x2 ∧ x2 ≤ 0)) (fun x2 => TJ xs (fun σ' => IF (MP c) σ σ' ∧ σ' 1 c 0 13 = n ∧ True) 1 13 8 [(0, av 1 c 0), (1, iv 0), (2, iv x2)] [] _) ?_ 0 (by omega)
  intro x2 hp4 ih3
  refine T_ld zk_13_8 rfl rfl rfl (pc' := 9) rfl ?_
  refine T_ld zk_13_9 rfl rfl rfl (pc' := 10) rfl ?_
  refine G_getX (w := 0) zk_13_10 rfl (vd_1 hc) (fun σ' h => (h.1.2 _ _ _ _ (by unfold MP; omega)).trans s2) (pc' := 13) rfl ?_
  refine T_icmp_ge zk_13_13 (by omega) (by omega) (pc' := 16) rfl (fun h5 => ?_) (fun h6 => ?_)
  ·
    refine T_ld zk_13_70 rfl rfl rfl (pc' := 71) rfl ?_
    refine T_if_eq zk_13_71 (by omega) (pc' := 74) rfl (fun h7 => ?_) (fun h8 => ?_)
    ·
      refine T_ld zk_13_94 rfl rfl rfl (pc' := 95) rfl ?_
      refine T_op (st' := [av 1 c 0, av 1 c 0]) zk_13_95 rfl rfl (pc' := 96) rfl ?_
      refine G_getX (w := n) zk_13_96 rfl (vd_1 hc) (fun σ' h => h.2.1) (pc' := 99) rfl ?_
      refine T_op zk_13_99 rfl X_ic (pc' := 100) rfl ?_
      refine T_op zk_13_100 rfl X_add (pc' := 101) rfl ?_
      refine T_putf (J' := (fun σ' => IF (MP c) σ σ' ∧ σ' 1 c 0 13 = n + 1 ∧ True)) zk_13_101 rfl rfl (vd_1 hc) (fun σ' h => ⟨h.1.up (by simp only [rgP] <;> omega) (by unfold MP; omega), up_eq, trivial⟩) (pc' := 104) rfl ?_
      refine T_ld zk_13_104 rfl rfl rfl (pc' := 105) rfl ?_
      refine G_getX (w := n + 1) zk_13_105 rfl (vd_1 hc) (fun σ' h => h.2.1) (pc' := 108) rfl ?_
      refine T_op zk_13_108 rfl (X_bi (v := 96) (by decide)) (pc' := 110) rfl ?_
      refine G_unkD zk_13_110 (by first | exact Or.inl rfl | exact Or.inr rfl) (by omega) (pc' := 111) rfl (fun y9 hy9 hy9' => ?_)
      refine T_if_ne zk_13_111 (by omega) (pc' := 114) rfl (fun h10 => ?_) (fun h11 => ?_)
      ·
        exact T_vret zk_13_157 rfl (fun σ' h => ⟨rfl, h.1, ⟨h.2.1, trivial⟩⟩)
      ·
        refine T_ld zk_13_114 rfl rfl rfl (pc' := 115) rfl ?_
        refine T_getR (t' := 2) (i' := c) (k' := 0) zk_13_115 rfl rfl rfl (vd_1 hc) (pc' := 118) rfl ?_
        refine T_ld zk_13_118 rfl rfl rfl (pc' := 119) rfl ?_
        refine G_getf (lo := 0) (hi := 9999) zk_13_119 rfl (vd_1 hc) (fun σ' h => h.1.1) (fun _ h => h.2.2.2.2.2.2 (by omega) (by omega)) (pc' := 122) rfl (fun y12 hy12 hy12' => ?_)
        refine T_callv (J' := (fun σ' => IF (MP c) σ σ' ∧ σ' 1 c 0 13 = n + 1 ∧ True)) (r := []) zk_13_122 rfl rfl rfl rfl rfl rfl (Or.inr ⟨_, _, _, _, rfl, (vd_2 hc), rfl⟩) (fun σ' h => (c_38 c y12 hc (by omega) σ' h.1.1 ).le (Nat.le_of_ble_eq_true rfl) (fun v σ2 ⟨h1, h3, h4⟩ => ⟨h1, h.1.tr h3 (fun t i k j h => by unfold MI at h; unfold MP; omega), (h3.2 _ _ _ _ (by unfold MI; omega)).trans (h.2.1), trivial⟩)) (pc' := 125) rfl ?_
        refine T_op zk_13_125 rfl X_ic (pc' := 126) rfl ?_
        refine T_st (L' := [(0, av 1 c 0), (1, iv 0), (2, iv 0)]) zk_13_126 (nL := 3) rfl rfl rfl rfl rfl (pc' := 127) rfl ?_
        refine T_loop1 (fun x14 => ((0 : Int)).toNat) (fun x14 => (0 ≤ x14 ∧ x14 ≤ 0)) (fun x14 => TJ xs (fun σ' => IF (MP c) σ σ' ∧ σ' 1 c 0 13 = n + 1 ∧ True) 1 13 127 [(0, av 1 c 0), (1, iv 0), (2, iv x14)] [] _) ?_ 0 (by omega)
        intro x14 hp16 ih15
        refine T_ld zk_13_127 rfl rfl rfl (pc' := 128) rfl ?_
        refine T_ld zk_13_128 rfl rfl rfl (pc' := 129) rfl ?_
        refine G_getX (w := 0) zk_13_129 rfl (vd_1 hc) (fun σ' h => (h.1.2 _ _ _ _ (by unfold MP; omega)).trans s2) (pc' := 132) rfl ?_
        refine T_icmp_ge zk_13_132 (by omega) (by omega) (pc' := 135) rfl (fun h17 => ?_) (fun h18 => ?_)
        ·
          exact T_vret zk_13_157 rfl (fun σ' h => ⟨rfl, h.1, ⟨h.2.1, trivial⟩⟩)
        · exfalso; omega
    · exfalso; omega
  · exfalso; omega
/-- W$House.build -/
theorem c_24 {xs : Nat × (Nat → Int32)} (p0 : Int) (p1 : Int) (p2 : Int) (p3 : Int) (p4 : Int) (h0 : -2147483648 ≤ p0 ∧ p0 ≤ 2147483647) (h1 : 0 ≤ p1 ∧ p1 ≤ 24) (h2 : -2147483648 ≤ p2 ∧ p2 ≤ 2147483647) (h3 : -2147483648 ≤ p3 ∧ p3 ≤ 2147483647) (h4 : -2147483648 ≤ p4 ∧ p4 ≤ 2147483647) (σ : ZS) (hI : Inv σ)   : CT xs 1 24 [av 25 0 0, iv p0, iv p1, iv p2, iv p3, iv p4] σ (fun v σ' => v = none ∧ IF (MT 25 25 25 25) σ σ' ∧ (True)) := by
  refine G_ct (J := (fun σ' => IF (MT 25 25 25 25) σ σ' ∧ True)) (L := [(0, av 25 0 0), (1, iv p0), (2, iv p1), (3, iv p2), (4, iv p3), (5, iv p4)]) (nL := 6) rfl rfl rfl ⟨IF.rf hI, trivial⟩ ?_
  refine T_ld zk_24_0 rfl rfl rfl (pc' := 1) rfl ?_
  refine T_ld zk_24_1 rfl rfl rfl (pc' := 2) rfl ?_
  refine T_putf (J' := (fun σ' => IF (MT 25 25 25 25) σ σ' ∧ True)) zk_24_2 rfl rfl (vd_25 (by omega) (by omega)) (fun σ' h => ⟨h.1.up (by simp only [rgP] <;> omega) (by unfold MT; omega), trivial⟩) (pc' := 5) rfl ?_
  refine T_ld zk_24_5 rfl rfl rfl (pc' := 6) rfl ?_
  refine T_ld zk_24_6 rfl rfl rfl (pc' := 7) rfl ?_
  refine T_putf (J' := (fun σ' => IF (MT 25 25 25 25) σ σ' ∧ True)) zk_24_7 rfl rfl (vd_25 (by omega) (by omega)) (fun σ' h => ⟨h.1.up (by simp only [rgP] <;> omega) (by unfold MT; omega), trivial⟩) (pc' := 10) rfl ?_
  refine T_ld zk_24_10 rfl rfl rfl (pc' := 11) rfl ?_
  refine T_ld zk_24_11 rfl rfl rfl (pc' := 12) rfl ?_
  refine T_putf (J' := (fun σ' => IF (MT 25 25 25 25) σ σ' ∧ True)) zk_24_12 rfl rfl (vd_25 (by omega) (by omega)) (fun σ' h => ⟨h.1.up (by simp only [rgP] <;> omega) (by unfold MT; omega), trivial⟩) (pc' := 15) rfl ?_
  refine T_ld zk_24_15 rfl rfl rfl (pc' := 16) rfl ?_
  refine T_ld zk_24_16 rfl rfl rfl (pc' := 18) rfl ?_
  refine T_putf (J' := (fun σ' => IF (MT 25 25 25 25) σ σ' ∧ True)) zk_24_18 rfl rfl (vd_25 (by omega) (by omega)) (fun σ' h => ⟨h.1.up (by simp only [rgP] <;> omega) (by unfold MT; omega), trivial⟩) (pc' := 21) rfl ?_
  refine T_ld zk_24_21 rfl rfl rfl (pc' := 22) rfl ?_
  refine T_ld zk_24_22 rfl rfl rfl (pc' := 24) rfl ?_
  refine T_putf (J' := (fun σ' => IF (MT 25 25 25 25) σ σ' ∧ True)) zk_24_24 rfl rfl (vd_25 (by omega) (by omega)) (fun σ' h => ⟨h.1.up (by simp only [rgP] <;> omega) (by unfold MT; omega), trivial⟩) (pc' := 27) rfl ?_
  refine T_ld zk_24_27 rfl rfl rfl (pc' := 28) rfl ?_
  refine T_op zk_24_28 rfl X_ic (pc' := 29) rfl ?_
  refine T_putf (J' := (fun σ' => IF (MT 25 25 25 25) σ σ' ∧ True)) zk_24_29 rfl rfl (vd_25 (by omega) (by omega)) (fun σ' h => ⟨h.1.up (by simp only [rgP] <;> omega) (by unfold MT; omega), trivial⟩) (pc' := 32) rfl ?_
  refine T_ld zk_24_32 rfl rfl rfl (pc' := 33) rfl ?_
  refine T_op zk_24_33 rfl X_ic (pc' := 34) rfl ?_
  refine T_putf (J' := (fun σ' => IF (MT 25 25 25 25) σ σ' ∧ True)) zk_24_34 rfl rfl (vd_25 (by omega) (by omega)) (fun σ' h => ⟨h.1.up (by simp only [rgP] <;> omega) (by unfold MT; omega), trivial⟩) (pc' := 37) rfl ?_
  refine T_ld zk_24_37 rfl rfl rfl (pc' := 38) rfl ?_
  refine T_op zk_24_38 rfl X_ic (pc' := 39) rfl ?_
  refine T_putf (J' := (fun σ' => IF (MT 25 25 25 25) σ σ' ∧ True)) zk_24_39 rfl rfl (vd_25 (by omega) (by omega)) (fun σ' h => ⟨h.1.up (by simp only [rgP] <;> omega) (by unfold MT; omega), trivial⟩) (pc' := 42) rfl ?_
  refine T_ld zk_24_42 rfl rfl rfl (pc' := 43) rfl ?_
  refine T_op zk_24_43 rfl X_ic (pc' := 44) rfl ?_
  refine T_putf (J' := (fun σ' => IF (MT 25 25 25 25) σ σ' ∧ True)) zk_24_44 rfl rfl (vd_25 (by omega) (by omega)) (fun σ' h => ⟨h.1.up (by simp only [rgP] <;> omega) (by unfold MT; omega), trivial⟩) (pc' := 47) rfl ?_
  refine T_ld zk_24_47 rfl rfl rfl (pc' := 48) rfl ?_
  refine T_op zk_24_48 rfl X_ic (pc' := 49) rfl ?_
  refine T_putz (J' := (fun σ' => IF (MT 25 25 25 25) σ σ' ∧ True)) zk_24_49 rfl rfl (by omega) (vd_25 (by omega) (by omega)) (fun σ' h => ⟨h.1.up (by simp only [rgP] <;> omega) (by unfold MT; omega), trivial⟩) (pc' := 52) rfl ?_
  exact T_vret zk_24_52 rfl (fun σ' h => ⟨rfl, h.1, trivial⟩)
/-- W$Boat.launch -/
theorem c_1 {xs : Nat × (Nat → Int32)} (p0 : Int) (p1 : Int) (p2 : Int) (p3 : Int) (p4 : Int) (h0 : 0 ≤ p0 ∧ p0 ≤ 24) (h1 : -2147483648 ≤ p1 ∧ p1 ≤ 2147483647) (h2 : -2147483648 ≤ p2 ∧ p2 ≤ 2147483647) (h3 : -2147483648 ≤ p3 ∧ p3 ≤ 2147483647) (h4 : -2147483648 ≤ p4 ∧ p4 ≤ 2147483647) (σ : ZS) (hI : Inv σ)   : CT xs 1 1 [av 26 0 0, iv p0, iv p1, iv p2, iv p3, iv p4] σ (fun v σ' => v = none ∧ IF (MT 26 26 26 26) σ σ' ∧ (True)) := by
  refine G_ct (J := (fun σ' => IF (MT 26 26 26 26) σ σ' ∧ True)) (L := [(0, av 26 0 0), (1, iv p0), (2, iv p1), (3, iv p2), (4, iv p3), (5, iv p4)]) (nL := 6) rfl rfl rfl ⟨IF.rf hI, trivial⟩ ?_
  refine T_ld zk_1_0 rfl rfl rfl (pc' := 1) rfl ?_
  refine T_ld zk_1_1 rfl rfl rfl (pc' := 2) rfl ?_
  refine T_putf (J' := (fun σ' => IF (MT 26 26 26 26) σ σ' ∧ True)) zk_1_2 rfl rfl (vd_26 (by omega) (by omega)) (fun σ' h => ⟨h.1.up (by simp only [rgP] <;> omega) (by unfold MT; omega), trivial⟩) (pc' := 5) rfl ?_
  refine T_ld zk_1_5 rfl rfl rfl (pc' := 6) rfl ?_
  refine T_ld zk_1_6 rfl rfl rfl (pc' := 7) rfl ?_
  refine T_putf (J' := (fun σ' => IF (MT 26 26 26 26) σ σ' ∧ True)) zk_1_7 rfl rfl (vd_26 (by omega) (by omega)) (fun σ' h => ⟨h.1.up (by simp only [rgP] <;> omega) (by unfold MT; omega), trivial⟩) (pc' := 10) rfl ?_
  refine T_ld zk_1_10 rfl rfl rfl (pc' := 11) rfl ?_
  refine T_ld zk_1_11 rfl rfl rfl (pc' := 12) rfl ?_
  refine T_putf (J' := (fun σ' => IF (MT 26 26 26 26) σ σ' ∧ True)) zk_1_12 rfl rfl (vd_26 (by omega) (by omega)) (fun σ' h => ⟨h.1.up (by simp only [rgP] <;> omega) (by unfold MT; omega), trivial⟩) (pc' := 15) rfl ?_
  refine T_ld zk_1_15 rfl rfl rfl (pc' := 16) rfl ?_
  refine T_ld zk_1_16 rfl rfl rfl (pc' := 18) rfl ?_
  refine T_putf (J' := (fun σ' => IF (MT 26 26 26 26) σ σ' ∧ True)) zk_1_18 rfl rfl (vd_26 (by omega) (by omega)) (fun σ' h => ⟨h.1.up (by simp only [rgP] <;> omega) (by unfold MT; omega), trivial⟩) (pc' := 21) rfl ?_
  refine T_ld zk_1_21 rfl rfl rfl (pc' := 22) rfl ?_
  refine T_ld zk_1_22 rfl rfl rfl (pc' := 24) rfl ?_
  refine T_putf (J' := (fun σ' => IF (MT 26 26 26 26) σ σ' ∧ True)) zk_1_24 rfl rfl (vd_26 (by omega) (by omega)) (fun σ' h => ⟨h.1.up (by simp only [rgP] <;> omega) (by unfold MT; omega), trivial⟩) (pc' := 27) rfl ?_
  refine T_ld zk_1_27 rfl rfl rfl (pc' := 28) rfl ?_
  refine T_op zk_1_28 rfl X_ic (pc' := 29) rfl ?_
  refine T_putf (J' := (fun σ' => IF (MT 26 26 26 26) σ σ' ∧ True)) zk_1_29 rfl rfl (vd_26 (by omega) (by omega)) (fun σ' h => ⟨h.1.up (by simp only [rgP] <;> omega) (by unfold MT; omega), trivial⟩) (pc' := 32) rfl ?_
  refine T_ld zk_1_32 rfl rfl rfl (pc' := 33) rfl ?_
  refine T_op zk_1_33 rfl X_ic (pc' := 34) rfl ?_
  refine T_putf (J' := (fun σ' => IF (MT 26 26 26 26) σ σ' ∧ True)) zk_1_34 rfl rfl (vd_26 (by omega) (by omega)) (fun σ' h => ⟨h.1.up (by simp only [rgP] <;> omega) (by unfold MT; omega), trivial⟩) (pc' := 37) rfl ?_
  refine T_ld zk_1_37 rfl rfl rfl (pc' := 38) rfl ?_
  refine T_op zk_1_38 rfl X_ic (pc' := 39) rfl ?_
  refine T_putf (J' := (fun σ' => IF (MT 26 26 26 26) σ σ' ∧ True)) zk_1_39 rfl rfl (vd_26 (by omega) (by omega)) (fun σ' h => ⟨h.1.up (by simp only [rgP] <;> omega) (by unfold MT; omega), trivial⟩) (pc' := 42) rfl ?_
  refine T_ld zk_1_42 rfl rfl rfl (pc' := 43) rfl ?_
  refine T_op zk_1_43 rfl X_ic (pc' := 44) rfl ?_
  refine T_putf (J' := (fun σ' => IF (MT 26 26 26 26) σ σ' ∧ True)) zk_1_44 rfl rfl (vd_26 (by omega) (by omega)) (fun σ' h => ⟨h.1.up (by simp only [rgP] <;> omega) (by unfold MT; omega), trivial⟩) (pc' := 47) rfl ?_
  refine T_ld zk_1_47 rfl rfl rfl (pc' := 48) rfl ?_
  refine T_op zk_1_48 rfl X_ic (pc' := 49) rfl ?_
  refine T_putf (J' := (fun σ' => IF (MT 26 26 26 26) σ σ' ∧ True)) zk_1_49 rfl rfl (vd_26 (by omega) (by omega)) (fun σ' h => ⟨h.1.up (by simp only [rgP] <;> omega) (by unfold MT; omega), trivial⟩) (pc' := 52) rfl ?_
  exact T_vret zk_1_52 rfl (fun σ' h => ⟨rfl, h.1, trivial⟩)
/-- W$Lagoon.takeLagoon -/
theorem c_39_2 {xs : Nat × (Nat → Int32)}   (σ : ZS) (hI : Inv σ)  (s1 : (∀ j, 0 ≤ j → j < 25 → σ 4 0 0 j = 0)) : CT xs 1 39 [av 2 2 0, av 2 0 0] σ (fun v σ' => v = none ∧ IF (MYl 2) σ σ' ∧ ((∀ j, 0 ≤ j → j < 25 → σ' 4 2 0 j = 0) ∧ True)) := by
  refine G_ct (J := (fun σ' => IF (MYl 2) σ σ' ∧ True)) (L := [(0, av 2 2 0), (1, av 2 0 0)]) (nL := 3) rfl rfl rfl ⟨IF.rf hI, trivial⟩ ?_
  refine T_ld zk_39_0 rfl rfl rfl (pc' := 1) rfl ?_
  refine T_getR (t' := 3) (i' := 0) (k' := 0) zk_39_1 rfl rfl rfl (vd_2 (by omega)) (pc' := 4) rfl ?_
  refine T_op zk_39_4 rfl X_ic (pc' := 5) rfl ?_
  refine T_ld zk_39_5 rfl rfl rfl (pc' := 6) rfl ?_
  refine T_getR (t' := 3) (i' := 2) (k' := 0) zk_39_6 rfl rfl rfl (vd_2 (by omega)) (pc' := 9) rfl ?_
  refine T_op zk_39_9 rfl X_ic (pc' := 10) rfl ?_
  refine T_op zk_39_10 rfl (X_bi (v := 25) (by decide)) (pc' := 12) rfl ?_
  refine G_copy (J' := (fun σ' => IF (MYl 2) σ σ' ∧ True)) (l0 := 25) (l1 := 25) (kk := 12) zk_39_12 rfl rfl (by decide) rfl rfl rfl rfl (vd_3 (by omega)) (vd_3 (by omega)) (by omega) (by omega) (by omega) (by omega) (by omega) (fun σ' h => ⟨h.1.cp (rg_cp0 rfl (fun _ _ h => h) (fun j => h.1.1 3 0 0 j (vd_3 (by omega))) (fun j => h.1.1 3 2 0 j (vd_3 (by omega)))) (fun j => (by unfold MYl; omega)), trivial⟩) (pc' := 15) rfl ?_
  refine T_ld zk_39_15 rfl rfl rfl (pc' := 16) rfl ?_
  refine T_getR (t' := 4) (i' := 0) (k' := 0) zk_39_16 rfl rfl rfl (vd_2 (by omega)) (pc' := 19) rfl ?_
  refine T_op zk_39_19 rfl X_ic (pc' := 20) rfl ?_
  refine T_ld zk_39_20 rfl rfl rfl (pc' := 21) rfl ?_
  refine T_getR (t' := 4) (i' := 2) (k' := 0) zk_39_21 rfl rfl rfl (vd_2 (by omega)) (pc' := 24) rfl ?_
  refine T_op zk_39_24 rfl X_ic (pc' := 25) rfl ?_
  refine T_op zk_39_25 rfl (X_bi (v := 25) (by decide)) (pc' := 27) rfl ?_
  refine G_copy (J' := (fun σ' => IF (MYl 2) σ σ' ∧ (∀ j, 0 ≤ j → j < 25 → σ' 4 2 0 j = 0) ∧ True)) (l0 := 25) (l1 := 25) (kk := 12) zk_39_27 rfl rfl (by decide) rfl rfl rfl rfl (vd_4 (by omega)) (vd_4 (by omega)) (by omega) (by omega) (by omega) (by omega) (by omega) (fun σ' h => ⟨h.1.cp (rg_cp0 rfl (fun _ _ h => h) (fun j => h.1.1 4 0 0 j (vd_4 (by omega))) (fun j => h.1.1 4 2 0 j (vd_4 (by omega)))) (fun j => (by unfold MYl; omega)), upr_cp0 ((fun j a b => (h.1.2 _ _ _ _ (by unfold MYl; omega)).trans (s1 j a b))) (by omega) (by omega), trivial⟩) (pc' := 30) rfl ?_
  refine T_ld zk_39_30 rfl rfl rfl (pc' := 31) rfl ?_
  refine T_getR (t' := 5) (i' := 0) (k' := 0) zk_39_31 rfl rfl rfl (vd_2 (by omega)) (pc' := 34) rfl ?_
  refine T_op zk_39_34 rfl X_ic (pc' := 35) rfl ?_
  refine T_ld zk_39_35 rfl rfl rfl (pc' := 36) rfl ?_
  refine T_getR (t' := 5) (i' := 2) (k' := 0) zk_39_36 rfl rfl rfl (vd_2 (by omega)) (pc' := 39) rfl ?_
  refine T_op zk_39_39 rfl X_ic (pc' := 40) rfl ?_
  refine T_op zk_39_40 rfl (X_bi (v := 25) (by decide)) (pc' := 42) rfl ?_
  refine G_copy (J' := (fun σ' => IF (MYl 2) σ σ' ∧ (∀ j, 0 ≤ j → j < 25 → σ' 4 2 0 j = 0) ∧ True)) (l0 := 25) (l1 := 25) (kk := 12) zk_39_42 rfl rfl (by decide) rfl rfl rfl rfl (vd_5 (by omega)) (vd_5 (by omega)) (by omega) (by omega) (by omega) (by omega) (by omega) (fun σ' h => ⟨h.1.cp (rg_cp0 rfl (fun _ _ h => h) (fun j => h.1.1 5 0 0 j (vd_5 (by omega))) (fun j => h.1.1 5 2 0 j (vd_5 (by omega)))) (fun j => (by unfold MYl; omega)), fun j a b => (congrFun (upr_oth _ _ _ (by omega)) j).trans (h.2.1 j a b), trivial⟩) (pc' := 45) rfl ?_
  refine T_ld zk_39_45 rfl rfl rfl (pc' := 46) rfl ?_
  refine T_getR (t' := 6) (i' := 0) (k' := 0) zk_39_46 rfl rfl rfl (vd_2 (by omega)) (pc' := 49) rfl ?_
  refine T_op zk_39_49 rfl X_ic (pc' := 50) rfl ?_
  refine T_ld zk_39_50 rfl rfl rfl (pc' := 51) rfl ?_
  refine T_getR (t' := 6) (i' := 2) (k' := 0) zk_39_51 rfl rfl rfl (vd_2 (by omega)) (pc' := 54) rfl ?_
  refine T_op zk_39_54 rfl X_ic (pc' := 55) rfl ?_
  refine T_op zk_39_55 rfl (X_bi (v := 25) (by decide)) (pc' := 57) rfl ?_
  refine G_copy (J' := (fun σ' => IF (MYl 2) σ σ' ∧ (∀ j, 0 ≤ j → j < 25 → σ' 4 2 0 j = 0) ∧ True)) (l0 := 25) (l1 := 25) (kk := 12) zk_39_57 rfl rfl (by decide) rfl rfl rfl rfl (vd_6 (by omega)) (vd_6 (by omega)) (by omega) (by omega) (by omega) (by omega) (by omega) (fun σ' h => ⟨h.1.cp (rg_cp0 rfl (fun _ _ h => h) (fun j => h.1.1 6 0 0 j (vd_6 (by omega))) (fun j => h.1.1 6 2 0 j (vd_6 (by omega)))) (fun j => (by unfold MYl; omega)), fun j a b => (congrFun (upr_oth _ _ _ (by omega)) j).trans (h.2.1 j a b), trivial⟩) (pc' := 60) rfl ?_
  refine T_ld zk_39_60 rfl rfl rfl (pc' := 61) rfl ?_
  refine T_getR (t' := 7) (i' := 0) (k' := 0) zk_39_61 rfl rfl rfl (vd_2 (by omega)) (pc' := 64) rfl ?_
  refine T_op zk_39_64 rfl X_ic (pc' := 65) rfl ?_
  refine T_ld zk_39_65 rfl rfl rfl (pc' := 66) rfl ?_
  refine T_getR (t' := 7) (i' := 2) (k' := 0) zk_39_66 rfl rfl rfl (vd_2 (by omega)) (pc' := 69) rfl ?_
  refine T_op zk_39_69 rfl X_ic (pc' := 70) rfl ?_
  refine T_op zk_39_70 rfl (X_bi (v := 40) (by decide)) (pc' := 72) rfl ?_
  refine G_copy (J' := (fun σ' => IF (MYl 2) σ σ' ∧ (∀ j, 0 ≤ j → j < 25 → σ' 4 2 0 j = 0) ∧ True)) (l0 := 40) (l1 := 40) (kk := 12) zk_39_72 rfl rfl (by decide) rfl rfl rfl rfl (vd_7 (by omega)) (vd_7 (by omega)) (by omega) (by omega) (by omega) (by omega) (by omega) (fun σ' h => ⟨h.1.cp (rg_cp0 rfl (fun _ _ h => h) (fun j => h.1.1 7 0 0 j (vd_7 (by omega))) (fun j => h.1.1 7 2 0 j (vd_7 (by omega)))) (fun j => (by unfold MYl; omega)), fun j a b => (congrFun (upr_oth _ _ _ (by omega)) j).trans (h.2.1 j a b), trivial⟩) (pc' := 75) rfl ?_
  refine T_op zk_39_75 rfl X_ic (pc' := 76) rfl ?_
  refine T_st (L' := [(0, av 2 2 0), (1, av 2 0 0), (2, iv 0)]) zk_39_76 (nL := 3) rfl rfl rfl rfl rfl (pc' := 77) rfl ?_
  refine T_loop1 (fun x1 => ((40 - x1 : Int)).toNat) (fun x1 => (0 ≤ x1 ∧ x1 ≤ 40)) (fun x1 => TJ xs (fun σ' => IF (MYl 2) σ σ' ∧ (∀ j, 0 ≤ j → j < 25 → σ' 4 2 0 j = 0) ∧ True) 0 39 77 [(0, av 2 2 0), (1, av 2 0 0), (2, iv x1)] [] _) ?_ 0 (by omega)
  intro x1 hp3 ih2
  refine T_ld zk_39_77 rfl rfl rfl (pc' := 78) rfl ?_
  refine T_op zk_39_78 rfl (X_bi (v := 40) (by decide)) (pc' := 80) rfl ?_
  refine T_icmp_ge zk_39_80 (by omega) (by omega) (pc' := 83) rfl (fun h4 => ?_) (fun h5 => ?_)
  ·
    exact T_vret zk_39_113 rfl (fun σ' h => ⟨rfl, h.1, ⟨h.2.1, trivial⟩⟩)
  ·
    refine T_ld zk_39_83 rfl rfl rfl (pc' := 84) rfl ?_
    refine T_getR (t' := 8) (i' := 2) (k' := 0) zk_39_84 rfl rfl rfl (vd_2 (by omega)) (pc' := 87) rfl ?_
    refine T_ld zk_39_87 rfl rfl rfl (pc' := 88) rfl ?_
    refine T_ld zk_39_88 rfl rfl rfl (pc' := 89) rfl ?_
    refine T_getR (t' := 8) (i' := 0) (k' := 0) zk_39_89 rfl rfl rfl (vd_2 (by omega)) (pc' := 92) rfl ?_
    refine T_ld zk_39_92 rfl rfl rfl (pc' := 93) rfl ?_
    refine G_bald (lo := 0) (hi := 1) (ln := 40) zk_39_93 rfl rfl (vd_8 (by omega)) (by omega) (by omega) (by omega) (fun σ' h => h.1.1) (fun _ h => h.2 (by omega) (by omega)) (pc' := 94) rfl (fun y6 hy6 hy6' => ?_)
    refine G_bast (J' := (fun σ' => IF (MYl 2) σ σ' ∧ (∀ j, 0 ≤ j → j < 25 → σ' 4 2 0 j = 0) ∧ True)) (ln := 40) zk_39_94 rfl rfl (by omega) (vd_8 (by omega)) (by omega) (by omega) (by omega) (fun σ' h => ⟨h.1.up (by simp only [rgP] <;> omega) (by unfold MYl; omega), up_rngn (h.2.1) (by omega), trivial⟩) (pc' := 95) rfl ?_
    refine T_ld zk_39_95 rfl rfl rfl (pc' := 96) rfl ?_
    refine T_getR (t' := 9) (i' := 2) (k' := 0) zk_39_96 rfl rfl rfl (vd_2 (by omega)) (pc' := 99) rfl ?_
    refine T_ld zk_39_99 rfl rfl rfl (pc' := 100) rfl ?_
    refine T_ld zk_39_100 rfl rfl rfl (pc' := 101) rfl ?_
    refine T_getR (t' := 9) (i' := 0) (k' := 0) zk_39_101 rfl rfl rfl (vd_2 (by omega)) (pc' := 104) rfl ?_
    refine T_ld zk_39_104 rfl rfl rfl (pc' := 105) rfl ?_
    refine G_bald (lo := 0) (hi := 1) (ln := 40) zk_39_105 rfl rfl (vd_9 (by omega)) (by omega) (by omega) (by omega) (fun σ' h => h.1.1) (fun _ h => h.2 (by omega) (by omega)) (pc' := 106) rfl (fun y7 hy7 hy7' => ?_)
    refine G_bast (J' := (fun σ' => IF (MYl 2) σ σ' ∧ (∀ j, 0 ≤ j → j < 25 → σ' 4 2 0 j = 0) ∧ True)) (ln := 40) zk_39_106 rfl rfl (by omega) (vd_9 (by omega)) (by omega) (by omega) (by omega) (fun σ' h => ⟨h.1.up (by simp only [rgP] <;> omega) (by unfold MYl; omega), up_rngn (h.2.1) (by omega), trivial⟩) (pc' := 107) rfl ?_
    refine T_iinc (L' := [(0, av 2 2 0), (1, av 2 0 0), (2, iv (x1 + 1))]) zk_39_107 (nL := 3) rfl rfl rfl rfl (pc' := 110) rfl ?_
    refine T_goto zk_39_110 ?_
    exact ih2 (x1 + 1) (by omega) (by omega)
/-- W$Mouths.takeMouths -/
theorem c_64_2 {xs : Nat × (Nat → Int32)}   (σ : ZS) (hI : Inv σ)  (s1 : σ 11 0 0 0 = 0) : CT xs 1 64 [av 11 2 0, av 11 0 0] σ (fun v σ' => v = none ∧ IF (MI 2 11 12 13 13) σ σ' ∧ (σ' 11 2 0 0 = 0 ∧ True)) := by
  refine G_ct (J := (fun σ' => IF (MI 2 11 12 13 13) σ σ' ∧ True)) (L := [(0, av 11 2 0), (1, av 11 0 0)]) (nL := 3) rfl rfl rfl ⟨IF.rf hI, trivial⟩ ?_
  refine T_ld zk_64_0 rfl rfl rfl (pc' := 1) rfl ?_
  refine T_ld zk_64_1 rfl rfl rfl (pc' := 2) rfl ?_
  refine G_getX (w := 0) zk_64_2 rfl (vd_11 (by omega)) (fun σ' h => (h.1.2 _ _ _ _ (by unfold MI; omega)).trans s1) (pc' := 5) rfl ?_
  refine T_putf (J' := (fun σ' => IF (MI 2 11 12 13 13) σ σ' ∧ σ' 11 2 0 0 = 0 ∧ True)) zk_64_5 rfl rfl (vd_11 (by omega)) (fun σ' h => ⟨h.1.up (by simp only [rgP] <;> omega) (by unfold MI; omega), up_eq, trivial⟩) (pc' := 8) rfl ?_
  refine T_op zk_64_8 rfl X_ic (pc' := 9) rfl ?_
  refine T_st (L' := [(0, av 11 2 0), (1, av 11 0 0), (2, iv 0)]) zk_64_9 (nL := 3) rfl rfl rfl rfl rfl (pc' := 10) rfl ?_
  refine T_loop1 (fun x1 => ((0 : Int)).toNat) (fun x1 => (0 ≤ x1 ∧ x1 ≤ 0)) (fun x1 => TJ xs (fun σ' => IF (MI 2 11 12 13 13) σ σ' ∧ σ' 11 2 0 0 = 0 ∧ True) 0 64 10 [(0, av 11 2 0), (1, av 11 0 0), (2, iv x1)] [] _) ?_ 0 (by omega)
  intro x1 hp3 ih2
  refine T_ld zk_64_10 rfl rfl rfl (pc' := 11) rfl ?_
  refine T_ld zk_64_11 rfl rfl rfl (pc' := 12) rfl ?_
  refine G_getX (w := 0) zk_64_12 rfl (vd_11 (by omega)) (fun σ' h => h.2.1) (pc' := 15) rfl ?_
  refine T_icmp_ge zk_64_15 (by omega) (by omega) (pc' := 18) rfl (fun h4 => ?_) (fun h5 => ?_)
  ·
    exact T_vret zk_64_48 rfl (fun σ' h => ⟨rfl, h.1, ⟨h.2.1, trivial⟩⟩)
  · exfalso; omega
/-- W$Tide.takeTide -/
theorem c_72_20 {xs : Nat × (Nat → Int32)}   (σ : ZS) (hI : Inv σ)  (s1 : σ 17 0 0 0 = 0) : CT xs 1 72 [av 17 2 0, av 17 0 0] σ (fun v σ' => v = none ∧ IF (MYt 2 0) σ σ' ∧ (σ' 17 2 0 0 = 0 ∧ True)) := by
  refine G_ct (J := (fun σ' => IF (MYt 2 0) σ σ' ∧ True)) (L := [(0, av 17 2 0), (1, av 17 0 0)]) (nL := 2) rfl rfl rfl ⟨IF.rf hI, trivial⟩ ?_
  refine T_ld zk_72_0 rfl rfl rfl (pc' := 1) rfl ?_
  refine T_ld zk_72_1 rfl rfl rfl (pc' := 2) rfl ?_
  refine G_getX (w := 0) zk_72_2 rfl (vd_17 (by omega) (by omega)) (fun σ' h => (h.1.2 _ _ _ _ (by unfold MYt; omega)).trans s1) (pc' := 5) rfl ?_
  refine T_putf (J' := (fun σ' => IF (MYt 2 0) σ σ' ∧ σ' 17 2 0 0 = 0 ∧ True)) zk_72_5 rfl rfl (vd_17 (by omega) (by omega)) (fun σ' h => ⟨h.1.up (by simp only [rgP] <;> omega) (by unfold MYt; omega), up_eq, trivial⟩) (pc' := 8) rfl ?_
  refine T_ld zk_72_8 rfl rfl rfl (pc' := 9) rfl ?_
  refine T_getR (t' := 18) (i' := 0) (k' := 0) zk_72_9 rfl rfl rfl (vd_17 (by omega) (by omega)) (pc' := 12) rfl ?_
  refine T_op zk_72_12 rfl X_ic (pc' := 13) rfl ?_
  refine T_ld zk_72_13 rfl rfl rfl (pc' := 14) rfl ?_
  refine T_getR (t' := 18) (i' := 2) (k' := 0) zk_72_14 rfl rfl rfl (vd_17 (by omega) (by omega)) (pc' := 17) rfl ?_
  refine T_op zk_72_17 rfl X_ic (pc' := 18) rfl ?_
  refine T_op zk_72_18 rfl (X_bi (v := 96) (by decide)) (pc' := 20) rfl ?_
  refine G_copy (J' := (fun σ' => IF (MYt 2 0) σ σ' ∧ σ' 17 2 0 0 = 0 ∧ True)) (l0 := 96) (l1 := 96) (kk := 12) zk_72_20 rfl rfl (by decide) rfl rfl rfl rfl (vd_18 (by omega) (by omega)) (vd_18 (by omega) (by omega)) (by omega) (by omega) (by omega) (by omega) (by omega) (fun σ' h => ⟨h.1.cp (rg_cp0 rfl (fun _ _ h => h) (fun j => h.1.1 18 0 0 j (vd_18 (by omega) (by omega))) (fun j => h.1.1 18 2 0 j (vd_18 (by omega) (by omega)))) (fun j => (by unfold MYt; omega)), (congrFun (upr_oth _ _ _ (by omega)) _).trans (h.2.1), trivial⟩) (pc' := 23) rfl ?_
  exact T_vret zk_72_23 rfl (fun σ' h => ⟨rfl, h.1, ⟨h.2.1, trivial⟩⟩)
/-- W$Tide.takeTide -/
theorem c_72_21 {xs : Nat × (Nat → Int32)}   (σ : ZS) (hI : Inv σ)  (s1 : σ 17 0 1 0 = 0) : CT xs 1 72 [av 17 2 1, av 17 0 1] σ (fun v σ' => v = none ∧ IF (MYt 2 1) σ σ' ∧ (σ' 17 2 1 0 = 0 ∧ True)) := by
  refine G_ct (J := (fun σ' => IF (MYt 2 1) σ σ' ∧ True)) (L := [(0, av 17 2 1), (1, av 17 0 1)]) (nL := 2) rfl rfl rfl ⟨IF.rf hI, trivial⟩ ?_
  refine T_ld zk_72_0 rfl rfl rfl (pc' := 1) rfl ?_
  refine T_ld zk_72_1 rfl rfl rfl (pc' := 2) rfl ?_
  refine G_getX (w := 0) zk_72_2 rfl (vd_17 (by omega) (by omega)) (fun σ' h => (h.1.2 _ _ _ _ (by unfold MYt; omega)).trans s1) (pc' := 5) rfl ?_
  refine T_putf (J' := (fun σ' => IF (MYt 2 1) σ σ' ∧ σ' 17 2 1 0 = 0 ∧ True)) zk_72_5 rfl rfl (vd_17 (by omega) (by omega)) (fun σ' h => ⟨h.1.up (by simp only [rgP] <;> omega) (by unfold MYt; omega), up_eq, trivial⟩) (pc' := 8) rfl ?_
  refine T_ld zk_72_8 rfl rfl rfl (pc' := 9) rfl ?_
  refine T_getR (t' := 18) (i' := 0) (k' := 1) zk_72_9 rfl rfl rfl (vd_17 (by omega) (by omega)) (pc' := 12) rfl ?_
  refine T_op zk_72_12 rfl X_ic (pc' := 13) rfl ?_
  refine T_ld zk_72_13 rfl rfl rfl (pc' := 14) rfl ?_
  refine T_getR (t' := 18) (i' := 2) (k' := 1) zk_72_14 rfl rfl rfl (vd_17 (by omega) (by omega)) (pc' := 17) rfl ?_
  refine T_op zk_72_17 rfl X_ic (pc' := 18) rfl ?_
  refine T_op zk_72_18 rfl (X_bi (v := 96) (by decide)) (pc' := 20) rfl ?_
  refine G_copy (J' := (fun σ' => IF (MYt 2 1) σ σ' ∧ σ' 17 2 1 0 = 0 ∧ True)) (l0 := 96) (l1 := 96) (kk := 12) zk_72_20 rfl rfl (by decide) rfl rfl rfl rfl (vd_18 (by omega) (by omega)) (vd_18 (by omega) (by omega)) (by omega) (by omega) (by omega) (by omega) (by omega) (fun σ' h => ⟨h.1.cp (rg_cp0 rfl (fun _ _ h => h) (fun j => h.1.1 18 0 1 j (vd_18 (by omega) (by omega))) (fun j => h.1.1 18 2 1 j (vd_18 (by omega) (by omega)))) (fun j => (by unfold MYt; omega)), (congrFun (upr_oth _ _ _ (by omega)) _).trans (h.2.1), trivial⟩) (pc' := 23) rfl ?_
  exact T_vret zk_72_23 rfl (fun σ' h => ⟨rfl, h.1, ⟨h.2.1, trivial⟩⟩)
/-- W$City.takeCity -/
theorem c_22_2 {xs : Nat × (Nat → Int32)}   (σ : ZS) (hI : Inv σ)  (s0 : (∀ j, 0 ≤ j → j < 25 → σ 4 0 0 j = 0)) (s1 : σ 11 0 0 0 = 0) (s2 : σ 17 0 0 0 = 0) (s3 : σ 17 0 1 0 = 0) (s4 : σ 1 0 0 5 = 0) (s5 : σ 1 0 0 6 = 0) (s6 : σ 1 0 0 7 = 0) (s7 : σ 1 0 0 13 = 0) : CT xs 2 22 [av 1 2 0, av 1 0 0] σ (fun v σ' => v = none ∧ IF (MY 2) σ σ' ∧ ((∀ j, 0 ≤ j → j < 25 → σ' 4 2 0 j = 0) ∧ σ' 11 2 0 0 = 0 ∧ σ' 17 2 0 0 = 0 ∧ σ' 17 2 1 0 = 0 ∧ σ' 1 2 0 5 = 0 ∧ σ' 1 2 0 6 = 0 ∧ σ' 1 2 0 7 = 0 ∧ σ' 1 2 0 13 = 0 ∧ True)) := by
  refine G_ct (J := (fun σ' => IF (MY 2) σ σ' ∧ True)) (L := [(0, av 1 2 0), (1, av 1 0 0)]) (nL := 3) rfl rfl rfl ⟨IF.rf hI, trivial⟩ ?_
  refine T_ld zk_22_0 rfl rfl rfl (pc' := 1) rfl ?_
  refine T_getR (t' := 2) (i' := 2) (k' := 0) zk_22_1 rfl rfl rfl (vd_1 (by omega)) (pc' := 4) rfl ?_
  refine T_ld zk_22_4 rfl rfl rfl (pc' := 5) rfl ?_
  refine T_getR (t' := 2) (i' := 0) (k' := 0) zk_22_5 rfl rfl rfl (vd_1 (by omega)) (pc' := 8) rfl ?_
  refine T_callv (J' := (fun σ' => IF (MY 2) σ σ' ∧ (∀ j, 0 ≤ j → j < 25 → σ' 4 2 0 j = 0) ∧ True)) (r := []) zk_22_8 rfl rfl rfl rfl rfl rfl (Or.inr ⟨_, _, _, _, rfl, (vd_2 (by omega)), rfl⟩) (fun σ' h => (c_39_2   σ' h.1.1 (fun j a b => (h.1.2 _ _ _ _ (by unfold MY; omega)).trans (s0 j (by omega) (by omega)))).le (Nat.le_of_ble_eq_true rfl) (fun v σ2 ⟨h1, h3, h4⟩ => ⟨h1, h.1.tr h3 (fun t i k j h => by unfold MYl at h; unfold MY; omega), h4.1, trivial⟩)) (pc' := 11) rfl ?_
  refine T_ld zk_22_11 rfl rfl rfl (pc' := 12) rfl ?_
  refine T_getR (t' := 11) (i' := 2) (k' := 0) zk_22_12 rfl rfl rfl (vd_1 (by omega)) (pc' := 15) rfl ?_
  refine T_ld zk_22_15 rfl rfl rfl (pc' := 16) rfl ?_
  refine T_getR (t' := 11) (i' := 0) (k' := 0) zk_22_16 rfl rfl rfl (vd_1 (by omega)) (pc' := 19) rfl ?_
  refine T_callv (J' := (fun σ' => IF (MY 2) σ σ' ∧ (∀ j, 0 ≤ j → j < 25 → σ' 4 2 0 j = 0) ∧ σ' 11 2 0 0 = 0 ∧ True)) (r := []) zk_22_19 rfl rfl rfl rfl rfl rfl (Or.inr ⟨_, _, _, _, rfl, (vd_11 (by omega)), rfl⟩) (fun σ' h => (c_64_2   σ' h.1.1 ((h.1.2 _ _ _ _ (by unfold MY; omega)).trans s1)).le (Nat.le_of_ble_eq_true rfl) (fun v σ2 ⟨h1, h3, h4⟩ => ⟨h1, h.1.tr h3 (fun t i k j h => by unfold MI at h; unfold MY; omega), fun j a b => (h3.2 _ _ _ _ (by unfold MI; omega)).trans (h.2.1 j a b), h4.1, trivial⟩)) (pc' := 22) rfl ?_
  refine T_ld zk_22_22 rfl rfl rfl (pc' := 23) rfl ?_
  refine T_getR (t' := 17) (i' := 2) (k' := 0) zk_22_23 rfl rfl rfl (vd_1 (by omega)) (pc' := 26) rfl ?_
  refine T_ld zk_22_26 rfl rfl rfl (pc' := 27) rfl ?_
  refine T_getR (t' := 17) (i' := 0) (k' := 0) zk_22_27 rfl rfl rfl (vd_1 (by omega)) (pc' := 30) rfl ?_
  refine T_callv (J' := (fun σ' => IF (MY 2) σ σ' ∧ (∀ j, 0 ≤ j → j < 25 → σ' 4 2 0 j = 0) ∧ σ' 11 2 0 0 = 0 ∧ σ' 17 2 0 0 = 0 ∧ True)) (r := []) zk_22_30 rfl rfl rfl rfl rfl rfl (Or.inr ⟨_, _, _, _, rfl, (vd_17 (by omega) (by omega)), rfl⟩) (fun σ' h => (c_72_20   σ' h.1.1 ((h.1.2 _ _ _ _ (by unfold MY; omega)).trans s2)).le (Nat.le_of_ble_eq_true rfl) (fun v σ2 ⟨h1, h3, h4⟩ => ⟨h1, h.1.tr h3 (fun t i k j h => by unfold MYt at h; unfold MY; omega), fun j a b => (h3.2 _ _ _ _ (by unfold MYt; omega)).trans (h.2.1 j a b), (h3.2 _ _ _ _ (by unfold MYt; omega)).trans (h.2.2.1), h4.1, trivial⟩)) (pc' := 33) rfl ?_
  refine T_ld zk_22_33 rfl rfl rfl (pc' := 34) rfl ?_
  refine T_getR (t' := 17) (i' := 2) (k' := 1) zk_22_34 rfl rfl rfl (vd_1 (by omega)) (pc' := 37) rfl ?_
  refine T_ld zk_22_37 rfl rfl rfl (pc' := 38) rfl ?_
  refine T_getR (t' := 17) (i' := 0) (k' := 1) zk_22_38 rfl rfl rfl (vd_1 (by omega)) (pc' := 41) rfl ?_
  refine T_callv (J' := (fun σ' => IF (MY 2) σ σ' ∧ (∀ j, 0 ≤ j → j < 25 → σ' 4 2 0 j = 0) ∧ σ' 11 2 0 0 = 0 ∧ σ' 17 2 0 0 = 0 ∧ σ' 17 2 1 0 = 0 ∧ True)) (r := []) zk_22_41 rfl rfl rfl rfl rfl rfl (Or.inr ⟨_, _, _, _, rfl, (vd_17 (by omega) (by omega)), rfl⟩) (fun σ' h => (c_72_21   σ' h.1.1 ((h.1.2 _ _ _ _ (by unfold MY; omega)).trans s3)).le (Nat.le_of_ble_eq_true rfl) (fun v σ2 ⟨h1, h3, h4⟩ => ⟨h1, h.1.tr h3 (fun t i k j h => by unfold MYt at h; unfold MY; omega), fun j a b => (h3.2 _ _ _ _ (by unfold MYt; omega)).trans (h.2.1 j a b), (h3.2 _ _ _ _ (by unfold MYt; omega)).trans (h.2.2.1), (h3.2 _ _ _ _ (by unfold MYt; omega)).trans (h.2.2.2.1), h4.1, trivial⟩)) (pc' := 44) rfl ?_
  refine T_ld zk_22_44 rfl rfl rfl (pc' := 45) rfl ?_
  refine T_ld zk_22_45 rfl rfl rfl (pc' := 46) rfl ?_
  refine G_getX (w := 0) zk_22_46 rfl (vd_1 (by omega)) (fun σ' h => (h.1.2 _ _ _ _ (by unfold MY; omega)).trans s4) (pc' := 49) rfl ?_
  refine T_putf (J' := (fun σ' => IF (MY 2) σ σ' ∧ (∀ j, 0 ≤ j → j < 25 → σ' 4 2 0 j = 0) ∧ σ' 11 2 0 0 = 0 ∧ σ' 17 2 0 0 = 0 ∧ σ' 17 2 1 0 = 0 ∧ σ' 1 2 0 5 = 0 ∧ True)) zk_22_49 rfl rfl (vd_1 (by omega)) (fun σ' h => ⟨h.1.up (by simp only [rgP] <;> omega) (by unfold MY; omega), up_rngn (h.2.1) (by omega), (up_ne (by omega)).trans (h.2.2.1), (up_ne (by omega)).trans (h.2.2.2.1), (up_ne (by omega)).trans (h.2.2.2.2.1), up_eq, trivial⟩) (pc' := 52) rfl ?_
  refine T_op zk_22_52 rfl X_ic (pc' := 53) rfl ?_
  refine T_st (L' := [(0, av 1 2 0), (1, av 1 0 0), (2, iv 0)]) zk_22_53 (nL := 3) rfl rfl rfl rfl rfl (pc' := 54) rfl ?_
  refine T_loop1 (fun x5 => ((0 : Int)).toNat) (fun x5 => (0 ≤ x5 ∧ x5 ≤ 0)) (fun x5 => TJ xs (fun σ' => IF (MY 2) σ σ' ∧ (∀ j, 0 ≤ j → j < 25 → σ' 4 2 0 j = 0) ∧ σ' 11 2 0 0 = 0 ∧ σ' 17 2 0 0 = 0 ∧ σ' 17 2 1 0 = 0 ∧ σ' 1 2 0 5 = 0 ∧ True) 1 22 54 [(0, av 1 2 0), (1, av 1 0 0), (2, iv x5)] [] _) ?_ 0 (by omega)
  intro x5 hp7 ih6
  refine T_ld zk_22_54 rfl rfl rfl (pc' := 55) rfl ?_
  refine T_ld zk_22_55 rfl rfl rfl (pc' := 56) rfl ?_
  refine G_getX (w := 0) zk_22_56 rfl (vd_1 (by omega)) (fun σ' h => h.2.2.2.2.2.1) (pc' := 59) rfl ?_
  refine T_icmp_ge zk_22_59 (by omega) (by omega) (pc' := 62) rfl (fun h8 => ?_) (fun h9 => ?_)
  ·
    refine T_ld zk_22_83 rfl rfl rfl (pc' := 84) rfl ?_
    refine T_ld zk_22_84 rfl rfl rfl (pc' := 85) rfl ?_
    refine G_getX (w := 0) zk_22_85 rfl (vd_1 (by omega)) (fun σ' h => (h.1.2 _ _ _ _ (by unfold MY; omega)).trans s5) (pc' := 88) rfl ?_
    refine T_putf (J' := (fun σ' => IF (MY 2) σ σ' ∧ (∀ j, 0 ≤ j → j < 25 → σ' 4 2 0 j = 0) ∧ σ' 11 2 0 0 = 0 ∧ σ' 17 2 0 0 = 0 ∧ σ' 17 2 1 0 = 0 ∧ σ' 1 2 0 5 = 0 ∧ σ' 1 2 0 6 = 0 ∧ True)) zk_22_88 rfl rfl (vd_1 (by omega)) (fun σ' h => ⟨h.1.up (by simp only [rgP] <;> omega) (by unfold MY; omega), up_rngn (h.2.1) (by omega), (up_ne (by omega)).trans (h.2.2.1), (up_ne (by omega)).trans (h.2.2.2.1), (up_ne (by omega)).trans (h.2.2.2.2.1), (up_ne (by omega)).trans (h.2.2.2.2.2.1), up_eq, trivial⟩) (pc' := 91) rfl ?_
    refine T_op zk_22_91 rfl X_ic (pc' := 92) rfl ?_
    refine T_st (L' := [(0, av 1 2 0), (1, av 1 0 0), (2, iv 0)]) zk_22_92 (nL := 3) rfl rfl rfl rfl rfl (pc' := 93) rfl ?_
    refine T_loop1 (fun x10 => ((0 : Int)).toNat) (fun x10 => (0 ≤ x10 ∧ x10 ≤ 0)) (fun x10 => TJ xs (fun σ' => IF (MY 2) σ σ' ∧ (∀ j, 0 ≤ j → j < 25 → σ' 4 2 0 j = 0) ∧ σ' 11 2 0 0 = 0 ∧ σ' 17 2 0 0 = 0 ∧ σ' 17 2 1 0 = 0 ∧ σ' 1 2 0 5 = 0 ∧ σ' 1 2 0 6 = 0 ∧ True) 1 22 93 [(0, av 1 2 0), (1, av 1 0 0), (2, iv x10)] [] _) ?_ 0 (by omega)
    intro x10 hp12 ih11
    refine T_ld zk_22_93 rfl rfl rfl (pc' := 94) rfl ?_
    refine T_ld zk_22_94 rfl rfl rfl (pc' := 95) rfl ?_
    refine G_getX (w := 0) zk_22_95 rfl (vd_1 (by omega)) (fun σ' h => h.2.2.2.2.2.2.1) (pc' := 98) rfl ?_
    refine T_icmp_ge zk_22_98 (by omega) (by omega) (pc' := 101) rfl (fun h13 => ?_) (fun h14 => ?_)
    ·
      refine T_ld zk_22_122 rfl rfl rfl (pc' := 123) rfl ?_
      refine T_ld zk_22_123 rfl rfl rfl (pc' := 124) rfl ?_
      refine G_getX (w := 0) zk_22_124 rfl (vd_1 (by omega)) (fun σ' h => (h.1.2 _ _ _ _ (by unfold MY; omega)).trans s6) (pc' := 127) rfl ?_
      refine T_putf (J' := (fun σ' => IF (MY 2) σ σ' ∧ (∀ j, 0 ≤ j → j < 25 → σ' 4 2 0 j = 0) ∧ σ' 11 2 0 0 = 0 ∧ σ' 17 2 0 0 = 0 ∧ σ' 17 2 1 0 = 0 ∧ σ' 1 2 0 5 = 0 ∧ σ' 1 2 0 6 = 0 ∧ σ' 1 2 0 7 = 0 ∧ True)) zk_22_127 rfl rfl (vd_1 (by omega)) (fun σ' h => ⟨h.1.up (by simp only [rgP] <;> omega) (by unfold MY; omega), up_rngn (h.2.1) (by omega), (up_ne (by omega)).trans (h.2.2.1), (up_ne (by omega)).trans (h.2.2.2.1), (up_ne (by omega)).trans (h.2.2.2.2.1), (up_ne (by omega)).trans (h.2.2.2.2.2.1), (up_ne (by omega)).trans (h.2.2.2.2.2.2.1), up_eq, trivial⟩) (pc' := 130) rfl ?_
      refine T_op zk_22_130 rfl X_ic (pc' := 131) rfl ?_
      refine T_st (L' := [(0, av 1 2 0), (1, av 1 0 0), (2, iv 0)]) zk_22_131 (nL := 3) rfl rfl rfl rfl rfl (pc' := 132) rfl ?_
      refine T_loop1 (fun x15 => ((0 : Int)).toNat) (fun x15 => (0 ≤ x15 ∧ x15 ≤ 0)) (fun x15 => TJ xs (fun σ' => IF (MY 2) σ σ' ∧ (∀ j, 0 ≤ j → j < 25 → σ' 4 2 0 j = 0) ∧ σ' 11 2 0 0 = 0 ∧ σ' 17 2 0 0 = 0 ∧ σ' 17 2 1 0 = 0 ∧ σ' 1 2 0 5 = 0 ∧ σ' 1 2 0 6 = 0 ∧ σ' 1 2 0 7 = 0 ∧ True) 1 22 132 [(0, av 1 2 0), (1, av 1 0 0), (2, iv x15)] [] _) ?_ 0 (by omega)
      intro x15 hp17 ih16
      refine T_ld zk_22_132 rfl rfl rfl (pc' := 133) rfl ?_
      refine T_ld zk_22_133 rfl rfl rfl (pc' := 134) rfl ?_
      refine G_getX (w := 0) zk_22_134 rfl (vd_1 (by omega)) (fun σ' h => h.2.2.2.2.2.2.2.1) (pc' := 137) rfl ?_
      refine T_icmp_ge zk_22_137 (by omega) (by omega) (pc' := 140) rfl (fun h18 => ?_) (fun h19 => ?_)
      ·
        refine T_ld zk_22_161 rfl rfl rfl (pc' := 162) rfl ?_
        refine T_ld zk_22_162 rfl rfl rfl (pc' := 163) rfl ?_
        refine G_getf (lo := 0) (hi := 99) zk_22_163 rfl (vd_1 (by omega)) (fun σ' h => h.1.1) (fun _ h => h.2.2.2.2.1 (by omega) (by omega)) (pc' := 166) rfl (fun y20 hy20 hy20' => ?_)
        refine T_putf (J' := (fun σ' => IF (MY 2) σ σ' ∧ (∀ j, 0 ≤ j → j < 25 → σ' 4 2 0 j = 0) ∧ σ' 11 2 0 0 = 0 ∧ σ' 17 2 0 0 = 0 ∧ σ' 17 2 1 0 = 0 ∧ σ' 1 2 0 5 = 0 ∧ σ' 1 2 0 6 = 0 ∧ σ' 1 2 0 7 = 0 ∧ σ' 1 2 0 10 = y20 ∧ True)) zk_22_166 rfl rfl (vd_1 (by omega)) (fun σ' h => ⟨h.1.up (by simp only [rgP] <;> omega) (by unfold MY; omega), up_rngn (h.2.1) (by omega), (up_ne (by omega)).trans (h.2.2.1), (up_ne (by omega)).trans (h.2.2.2.1), (up_ne (by omega)).trans (h.2.2.2.2.1), (up_ne (by omega)).trans (h.2.2.2.2.2.1), (up_ne (by omega)).trans (h.2.2.2.2.2.2.1), (up_ne (by omega)).trans (h.2.2.2.2.2.2.2.1), up_eq, trivial⟩) (pc' := 169) rfl ?_
        refine T_ld zk_22_169 rfl rfl rfl (pc' := 170) rfl ?_
        refine T_ld zk_22_170 rfl rfl rfl (pc' := 171) rfl ?_
        refine G_getf (lo := 1) (hi := 9) zk_22_171 rfl (vd_1 (by omega)) (fun σ' h => h.1.1) (fun _ h => h.2.2.2.2.2.1 (by omega) (by omega)) (pc' := 174) rfl (fun y21 hy21 hy21' => ?_)
        refine T_putf (J' := (fun σ' => IF (MY 2) σ σ' ∧ (∀ j, 0 ≤ j → j < 25 → σ' 4 2 0 j = 0) ∧ σ' 11 2 0 0 = 0 ∧ σ' 17 2 0 0 = 0 ∧ σ' 17 2 1 0 = 0 ∧ σ' 1 2 0 5 = 0 ∧ σ' 1 2 0 6 = 0 ∧ σ' 1 2 0 7 = 0 ∧ σ' 1 2 0 10 = y20 ∧ σ' 1 2 0 11 = y21 ∧ True)) zk_22_174 rfl rfl (vd_1 (by omega)) (fun σ' h => ⟨h.1.up (by simp only [rgP] <;> omega) (by unfold MY; omega), up_rngn (h.2.1) (by omega), (up_ne (by omega)).trans (h.2.2.1), (up_ne (by omega)).trans (h.2.2.2.1), (up_ne (by omega)).trans (h.2.2.2.2.1), (up_ne (by omega)).trans (h.2.2.2.2.2.1), (up_ne (by omega)).trans (h.2.2.2.2.2.2.1), (up_ne (by omega)).trans (h.2.2.2.2.2.2.2.1), (up_ne (by omega)).trans (h.2.2.2.2.2.2.2.2.1), up_eq, trivial⟩) (pc' := 177) rfl ?_
        refine T_ld zk_22_177 rfl rfl rfl (pc' := 178) rfl ?_
        refine T_ld zk_22_178 rfl rfl rfl (pc' := 179) rfl ?_
        refine G_getf (lo := 0) (hi := 9999) zk_22_179 rfl (vd_1 (by omega)) (fun σ' h => h.1.1) (fun _ h => h.2.2.2.2.2.2 (by omega) (by omega)) (pc' := 182) rfl (fun y22 hy22 hy22' => ?_)
        refine T_putf (J' := (fun σ' => IF (MY 2) σ σ' ∧ (∀ j, 0 ≤ j → j < 25 → σ' 4 2 0 j = 0) ∧ σ' 11 2 0 0 = 0 ∧ σ' 17 2 0 0 = 0 ∧ σ' 17 2 1 0 = 0 ∧ σ' 1 2 0 5 = 0 ∧ σ' 1 2 0 6 = 0 ∧ σ' 1 2 0 7 = 0 ∧ σ' 1 2 0 10 = y20 ∧ σ' 1 2 0 11 = y21 ∧ σ' 1 2 0 12 = y22 ∧ True)) zk_22_182 rfl rfl (vd_1 (by omega)) (fun σ' h => ⟨h.1.up (by simp only [rgP] <;> omega) (by unfold MY; omega), up_rngn (h.2.1) (by omega), (up_ne (by omega)).trans (h.2.2.1), (up_ne (by omega)).trans (h.2.2.2.1), (up_ne (by omega)).trans (h.2.2.2.2.1), (up_ne (by omega)).trans (h.2.2.2.2.2.1), (up_ne (by omega)).trans (h.2.2.2.2.2.2.1), (up_ne (by omega)).trans (h.2.2.2.2.2.2.2.1), (up_ne (by omega)).trans (h.2.2.2.2.2.2.2.2.1), (up_ne (by omega)).trans (h.2.2.2.2.2.2.2.2.2.1), up_eq, trivial⟩) (pc' := 185) rfl ?_
        refine T_ld zk_22_185 rfl rfl rfl (pc' := 186) rfl ?_
        refine T_ld zk_22_186 rfl rfl rfl (pc' := 187) rfl ?_
        refine G_getX (w := 0) zk_22_187 rfl (vd_1 (by omega)) (fun σ' h => (h.1.2 _ _ _ _ (by unfold MY; omega)).trans s7) (pc' := 190) rfl ?_
        refine T_putf (J' := (fun σ' => IF (MY 2) σ σ' ∧ (∀ j, 0 ≤ j → j < 25 → σ' 4 2 0 j = 0) ∧ σ' 11 2 0 0 = 0 ∧ σ' 17 2 0 0 = 0 ∧ σ' 17 2 1 0 = 0 ∧ σ' 1 2 0 5 = 0 ∧ σ' 1 2 0 6 = 0 ∧ σ' 1 2 0 7 = 0 ∧ σ' 1 2 0 10 = y20 ∧ σ' 1 2 0 11 = y21 ∧ σ' 1 2 0 12 = y22 ∧ σ' 1 2 0 13 = 0 ∧ True)) zk_22_190 rfl rfl (vd_1 (by omega)) (fun σ' h => ⟨h.1.up (by simp only [rgP] <;> omega) (by unfold MY; omega), up_rngn (h.2.1) (by omega), (up_ne (by omega)).trans (h.2.2.1), (up_ne (by omega)).trans (h.2.2.2.1), (up_ne (by omega)).trans (h.2.2.2.2.1), (up_ne (by omega)).trans (h.2.2.2.2.2.1), (up_ne (by omega)).trans (h.2.2.2.2.2.2.1), (up_ne (by omega)).trans (h.2.2.2.2.2.2.2.1), (up_ne (by omega)).trans (h.2.2.2.2.2.2.2.2.1), (up_ne (by omega)).trans (h.2.2.2.2.2.2.2.2.2.1), (up_ne (by omega)).trans (h.2.2.2.2.2.2.2.2.2.2.1), up_eq, trivial⟩) (pc' := 193) rfl ?_
        refine T_ld zk_22_193 rfl rfl rfl (pc' := 194) rfl ?_
        refine T_ld zk_22_194 rfl rfl rfl (pc' := 195) rfl ?_
        refine G_getf (lo := -2147483648) (hi := 2147483647) zk_22_195 rfl (vd_1 (by omega)) (fun σ' h => h.1.1) (fun _ h => h.1) (pc' := 198) rfl (fun y23 hy23 hy23' => ?_)
        refine T_putf (J' := (fun σ' => IF (MY 2) σ σ' ∧ (∀ j, 0 ≤ j → j < 25 → σ' 4 2 0 j = 0) ∧ σ' 11 2 0 0 = 0 ∧ σ' 17 2 0 0 = 0 ∧ σ' 17 2 1 0 = 0 ∧ σ' 1 2 0 5 = 0 ∧ σ' 1 2 0 6 = 0 ∧ σ' 1 2 0 7 = 0 ∧ σ' 1 2 0 10 = y20 ∧ σ' 1 2 0 11 = y21 ∧ σ' 1 2 0 12 = y22 ∧ σ' 1 2 0 13 = 0 ∧ σ' 1 2 0 14 = y23 ∧ True)) zk_22_198 rfl rfl (vd_1 (by omega)) (fun σ' h => ⟨h.1.up (by simp only [rgP] <;> omega) (by unfold MY; omega), up_rngn (h.2.1) (by omega), (up_ne (by omega)).trans (h.2.2.1), (up_ne (by omega)).trans (h.2.2.2.1), (up_ne (by omega)).trans (h.2.2.2.2.1), (up_ne (by omega)).trans (h.2.2.2.2.2.1), (up_ne (by omega)).trans (h.2.2.2.2.2.2.1), (up_ne (by omega)).trans (h.2.2.2.2.2.2.2.1), (up_ne (by omega)).trans (h.2.2.2.2.2.2.2.2.1), (up_ne (by omega)).trans (h.2.2.2.2.2.2.2.2.2.1), (up_ne (by omega)).trans (h.2.2.2.2.2.2.2.2.2.2.1), (up_ne (by omega)).trans (h.2.2.2.2.2.2.2.2.2.2.2.1), up_eq, trivial⟩) (pc' := 201) rfl ?_
        refine T_ld zk_22_201 rfl rfl rfl (pc' := 202) rfl ?_
        refine T_ld zk_22_202 rfl rfl rfl (pc' := 203) rfl ?_
        refine G_getf (lo := -2147483648) (hi := 2147483647) zk_22_203 rfl (vd_1 (by omega)) (fun σ' h => h.1.1) (fun _ h => h.1) (pc' := 206) rfl (fun y24 hy24 hy24' => ?_)
        refine T_putf (J' := (fun σ' => IF (MY 2) σ σ' ∧ (∀ j, 0 ≤ j → j < 25 → σ' 4 2 0 j = 0) ∧ σ' 11 2 0 0 = 0 ∧ σ' 17 2 0 0 = 0 ∧ σ' 17 2 1 0 = 0 ∧ σ' 1 2 0 5 = 0 ∧ σ' 1 2 0 6 = 0 ∧ σ' 1 2 0 7 = 0 ∧ σ' 1 2 0 10 = y20 ∧ σ' 1 2 0 11 = y21 ∧ σ' 1 2 0 12 = y22 ∧ σ' 1 2 0 13 = 0 ∧ σ' 1 2 0 14 = y23 ∧ σ' 1 2 0 15 = y24 ∧ True)) zk_22_206 rfl rfl (vd_1 (by omega)) (fun σ' h => ⟨h.1.up (by simp only [rgP] <;> omega) (by unfold MY; omega), up_rngn (h.2.1) (by omega), (up_ne (by omega)).trans (h.2.2.1), (up_ne (by omega)).trans (h.2.2.2.1), (up_ne (by omega)).trans (h.2.2.2.2.1), (up_ne (by omega)).trans (h.2.2.2.2.2.1), (up_ne (by omega)).trans (h.2.2.2.2.2.2.1), (up_ne (by omega)).trans (h.2.2.2.2.2.2.2.1), (up_ne (by omega)).trans (h.2.2.2.2.2.2.2.2.1), (up_ne (by omega)).trans (h.2.2.2.2.2.2.2.2.2.1), (up_ne (by omega)).trans (h.2.2.2.2.2.2.2.2.2.2.1), (up_ne (by omega)).trans (h.2.2.2.2.2.2.2.2.2.2.2.1), (up_ne (by omega)).trans (h.2.2.2.2.2.2.2.2.2.2.2.2.1), up_eq, trivial⟩) (pc' := 209) rfl ?_
        refine T_ld zk_22_209 rfl rfl rfl (pc' := 210) rfl ?_
        refine T_ld zk_22_210 rfl rfl rfl (pc' := 211) rfl ?_
        refine G_getf (lo := -2147483648) (hi := 2147483647) zk_22_211 rfl (vd_1 (by omega)) (fun σ' h => h.1.1) (fun _ h => h.1) (pc' := 214) rfl (fun y25 hy25 hy25' => ?_)
        refine T_putf (J' := (fun σ' => IF (MY 2) σ σ' ∧ (∀ j, 0 ≤ j → j < 25 → σ' 4 2 0 j = 0) ∧ σ' 11 2 0 0 = 0 ∧ σ' 17 2 0 0 = 0 ∧ σ' 17 2 1 0 = 0 ∧ σ' 1 2 0 5 = 0 ∧ σ' 1 2 0 6 = 0 ∧ σ' 1 2 0 7 = 0 ∧ σ' 1 2 0 10 = y20 ∧ σ' 1 2 0 11 = y21 ∧ σ' 1 2 0 12 = y22 ∧ σ' 1 2 0 13 = 0 ∧ σ' 1 2 0 14 = y23 ∧ σ' 1 2 0 15 = y24 ∧ σ' 1 2 0 16 = y25 ∧ True)) zk_22_214 rfl rfl (vd_1 (by omega)) (fun σ' h => ⟨h.1.up (by simp only [rgP] <;> omega) (by unfold MY; omega), up_rngn (h.2.1) (by omega), (up_ne (by omega)).trans (h.2.2.1), (up_ne (by omega)).trans (h.2.2.2.1), (up_ne (by omega)).trans (h.2.2.2.2.1), (up_ne (by omega)).trans (h.2.2.2.2.2.1), (up_ne (by omega)).trans (h.2.2.2.2.2.2.1), (up_ne (by omega)).trans (h.2.2.2.2.2.2.2.1), (up_ne (by omega)).trans (h.2.2.2.2.2.2.2.2.1), (up_ne (by omega)).trans (h.2.2.2.2.2.2.2.2.2.1), (up_ne (by omega)).trans (h.2.2.2.2.2.2.2.2.2.2.1), (up_ne (by omega)).trans (h.2.2.2.2.2.2.2.2.2.2.2.1), (up_ne (by omega)).trans (h.2.2.2.2.2.2.2.2.2.2.2.2.1), (up_ne (by omega)).trans (h.2.2.2.2.2.2.2.2.2.2.2.2.2.1), up_eq, trivial⟩) (pc' := 217) rfl ?_
        exact T_vret zk_22_217 rfl (fun σ' h => ⟨rfl, h.1, ⟨h.2.1, h.2.2.1, h.2.2.2.1, h.2.2.2.2.1, h.2.2.2.2.2.1, h.2.2.2.2.2.2.1, h.2.2.2.2.2.2.2.1, h.2.2.2.2.2.2.2.2.2.2.2.1, trivial⟩⟩)
      · exfalso; omega
    · exfalso; omega
  · exfalso; omega
/-- W$Lagoon.takeLagoon -/
theorem c_39_1 {xs : Nat × (Nat → Int32)}   (σ : ZS) (hI : Inv σ)  (s1 : (∀ j, 0 ≤ j → j < 25 → σ 4 0 0 j = 0)) : CT xs 1 39 [av 2 1 0, av 2 0 0] σ (fun v σ' => v = none ∧ IF (MYl 1) σ σ' ∧ ((∀ j, 0 ≤ j → j < 25 → σ' 4 1 0 j = 0) ∧ True)) := by
  refine G_ct (J := (fun σ' => IF (MYl 1) σ σ' ∧ True)) (L := [(0, av 2 1 0), (1, av 2 0 0)]) (nL := 3) rfl rfl rfl ⟨IF.rf hI, trivial⟩ ?_
  refine T_ld zk_39_0 rfl rfl rfl (pc' := 1) rfl ?_
  refine T_getR (t' := 3) (i' := 0) (k' := 0) zk_39_1 rfl rfl rfl (vd_2 (by omega)) (pc' := 4) rfl ?_
  refine T_op zk_39_4 rfl X_ic (pc' := 5) rfl ?_
  refine T_ld zk_39_5 rfl rfl rfl (pc' := 6) rfl ?_
  refine T_getR (t' := 3) (i' := 1) (k' := 0) zk_39_6 rfl rfl rfl (vd_2 (by omega)) (pc' := 9) rfl ?_
  refine T_op zk_39_9 rfl X_ic (pc' := 10) rfl ?_
  refine T_op zk_39_10 rfl (X_bi (v := 25) (by decide)) (pc' := 12) rfl ?_
  refine G_copy (J' := (fun σ' => IF (MYl 1) σ σ' ∧ True)) (l0 := 25) (l1 := 25) (kk := 12) zk_39_12 rfl rfl (by decide) rfl rfl rfl rfl (vd_3 (by omega)) (vd_3 (by omega)) (by omega) (by omega) (by omega) (by omega) (by omega) (fun σ' h => ⟨h.1.cp (rg_cp0 rfl (fun _ _ h => h) (fun j => h.1.1 3 0 0 j (vd_3 (by omega))) (fun j => h.1.1 3 1 0 j (vd_3 (by omega)))) (fun j => (by unfold MYl; omega)), trivial⟩) (pc' := 15) rfl ?_
  refine T_ld zk_39_15 rfl rfl rfl (pc' := 16) rfl ?_
  refine T_getR (t' := 4) (i' := 0) (k' := 0) zk_39_16 rfl rfl rfl (vd_2 (by omega)) (pc' := 19) rfl ?_
  refine T_op zk_39_19 rfl X_ic (pc' := 20) rfl ?_
  refine T_ld zk_39_20 rfl rfl rfl (pc' := 21) rfl ?_
  refine T_getR (t' := 4) (i' := 1) (k' := 0) zk_39_21 rfl rfl rfl (vd_2 (by omega)) (pc' := 24) rfl ?_
  refine T_op zk_39_24 rfl X_ic (pc' := 25) rfl ?_
  refine T_op zk_39_25 rfl (X_bi (v := 25) (by decide)) (pc' := 27) rfl ?_
  refine G_copy (J' := (fun σ' => IF (MYl 1) σ σ' ∧ (∀ j, 0 ≤ j → j < 25 → σ' 4 1 0 j = 0) ∧ True)) (l0 := 25) (l1 := 25) (kk := 12) zk_39_27 rfl rfl (by decide) rfl rfl rfl rfl (vd_4 (by omega)) (vd_4 (by omega)) (by omega) (by omega) (by omega) (by omega) (by omega) (fun σ' h => ⟨h.1.cp (rg_cp0 rfl (fun _ _ h => h) (fun j => h.1.1 4 0 0 j (vd_4 (by omega))) (fun j => h.1.1 4 1 0 j (vd_4 (by omega)))) (fun j => (by unfold MYl; omega)), upr_cp0 ((fun j a b => (h.1.2 _ _ _ _ (by unfold MYl; omega)).trans (s1 j a b))) (by omega) (by omega), trivial⟩) (pc' := 30) rfl ?_
  refine T_ld zk_39_30 rfl rfl rfl (pc' := 31) rfl ?_
  refine T_getR (t' := 5) (i' := 0) (k' := 0) zk_39_31 rfl rfl rfl (vd_2 (by omega)) (pc' := 34) rfl ?_
  refine T_op zk_39_34 rfl X_ic (pc' := 35) rfl ?_
  refine T_ld zk_39_35 rfl rfl rfl (pc' := 36) rfl ?_
  refine T_getR (t' := 5) (i' := 1) (k' := 0) zk_39_36 rfl rfl rfl (vd_2 (by omega)) (pc' := 39) rfl ?_
  refine T_op zk_39_39 rfl X_ic (pc' := 40) rfl ?_
  refine T_op zk_39_40 rfl (X_bi (v := 25) (by decide)) (pc' := 42) rfl ?_
  refine G_copy (J' := (fun σ' => IF (MYl 1) σ σ' ∧ (∀ j, 0 ≤ j → j < 25 → σ' 4 1 0 j = 0) ∧ True)) (l0 := 25) (l1 := 25) (kk := 12) zk_39_42 rfl rfl (by decide) rfl rfl rfl rfl (vd_5 (by omega)) (vd_5 (by omega)) (by omega) (by omega) (by omega) (by omega) (by omega) (fun σ' h => ⟨h.1.cp (rg_cp0 rfl (fun _ _ h => h) (fun j => h.1.1 5 0 0 j (vd_5 (by omega))) (fun j => h.1.1 5 1 0 j (vd_5 (by omega)))) (fun j => (by unfold MYl; omega)), fun j a b => (congrFun (upr_oth _ _ _ (by omega)) j).trans (h.2.1 j a b), trivial⟩) (pc' := 45) rfl ?_
  refine T_ld zk_39_45 rfl rfl rfl (pc' := 46) rfl ?_
  refine T_getR (t' := 6) (i' := 0) (k' := 0) zk_39_46 rfl rfl rfl (vd_2 (by omega)) (pc' := 49) rfl ?_
  refine T_op zk_39_49 rfl X_ic (pc' := 50) rfl ?_
  refine T_ld zk_39_50 rfl rfl rfl (pc' := 51) rfl ?_
  refine T_getR (t' := 6) (i' := 1) (k' := 0) zk_39_51 rfl rfl rfl (vd_2 (by omega)) (pc' := 54) rfl ?_
  refine T_op zk_39_54 rfl X_ic (pc' := 55) rfl ?_
  refine T_op zk_39_55 rfl (X_bi (v := 25) (by decide)) (pc' := 57) rfl ?_
  refine G_copy (J' := (fun σ' => IF (MYl 1) σ σ' ∧ (∀ j, 0 ≤ j → j < 25 → σ' 4 1 0 j = 0) ∧ True)) (l0 := 25) (l1 := 25) (kk := 12) zk_39_57 rfl rfl (by decide) rfl rfl rfl rfl (vd_6 (by omega)) (vd_6 (by omega)) (by omega) (by omega) (by omega) (by omega) (by omega) (fun σ' h => ⟨h.1.cp (rg_cp0 rfl (fun _ _ h => h) (fun j => h.1.1 6 0 0 j (vd_6 (by omega))) (fun j => h.1.1 6 1 0 j (vd_6 (by omega)))) (fun j => (by unfold MYl; omega)), fun j a b => (congrFun (upr_oth _ _ _ (by omega)) j).trans (h.2.1 j a b), trivial⟩) (pc' := 60) rfl ?_
  refine T_ld zk_39_60 rfl rfl rfl (pc' := 61) rfl ?_
  refine T_getR (t' := 7) (i' := 0) (k' := 0) zk_39_61 rfl rfl rfl (vd_2 (by omega)) (pc' := 64) rfl ?_
  refine T_op zk_39_64 rfl X_ic (pc' := 65) rfl ?_
  refine T_ld zk_39_65 rfl rfl rfl (pc' := 66) rfl ?_
  refine T_getR (t' := 7) (i' := 1) (k' := 0) zk_39_66 rfl rfl rfl (vd_2 (by omega)) (pc' := 69) rfl ?_
  refine T_op zk_39_69 rfl X_ic (pc' := 70) rfl ?_
  refine T_op zk_39_70 rfl (X_bi (v := 40) (by decide)) (pc' := 72) rfl ?_
  refine G_copy (J' := (fun σ' => IF (MYl 1) σ σ' ∧ (∀ j, 0 ≤ j → j < 25 → σ' 4 1 0 j = 0) ∧ True)) (l0 := 40) (l1 := 40) (kk := 12) zk_39_72 rfl rfl (by decide) rfl rfl rfl rfl (vd_7 (by omega)) (vd_7 (by omega)) (by omega) (by omega) (by omega) (by omega) (by omega) (fun σ' h => ⟨h.1.cp (rg_cp0 rfl (fun _ _ h => h) (fun j => h.1.1 7 0 0 j (vd_7 (by omega))) (fun j => h.1.1 7 1 0 j (vd_7 (by omega)))) (fun j => (by unfold MYl; omega)), fun j a b => (congrFun (upr_oth _ _ _ (by omega)) j).trans (h.2.1 j a b), trivial⟩) (pc' := 75) rfl ?_
  refine T_op zk_39_75 rfl X_ic (pc' := 76) rfl ?_
  refine T_st (L' := [(0, av 2 1 0), (1, av 2 0 0), (2, iv 0)]) zk_39_76 (nL := 3) rfl rfl rfl rfl rfl (pc' := 77) rfl ?_
  refine T_loop1 (fun x1 => ((40 - x1 : Int)).toNat) (fun x1 => (0 ≤ x1 ∧ x1 ≤ 40)) (fun x1 => TJ xs (fun σ' => IF (MYl 1) σ σ' ∧ (∀ j, 0 ≤ j → j < 25 → σ' 4 1 0 j = 0) ∧ True) 0 39 77 [(0, av 2 1 0), (1, av 2 0 0), (2, iv x1)] [] _) ?_ 0 (by omega)
  intro x1 hp3 ih2
  refine T_ld zk_39_77 rfl rfl rfl (pc' := 78) rfl ?_
  refine T_op zk_39_78 rfl (X_bi (v := 40) (by decide)) (pc' := 80) rfl ?_
  refine T_icmp_ge zk_39_80 (by omega) (by omega) (pc' := 83) rfl (fun h4 => ?_) (fun h5 => ?_)
  ·
    exact T_vret zk_39_113 rfl (fun σ' h => ⟨rfl, h.1, ⟨h.2.1, trivial⟩⟩)
  ·
    refine T_ld zk_39_83 rfl rfl rfl (pc' := 84) rfl ?_
    refine T_getR (t' := 8) (i' := 1) (k' := 0) zk_39_84 rfl rfl rfl (vd_2 (by omega)) (pc' := 87) rfl ?_
    refine T_ld zk_39_87 rfl rfl rfl (pc' := 88) rfl ?_
    refine T_ld zk_39_88 rfl rfl rfl (pc' := 89) rfl ?_
    refine T_getR (t' := 8) (i' := 0) (k' := 0) zk_39_89 rfl rfl rfl (vd_2 (by omega)) (pc' := 92) rfl ?_
    refine T_ld zk_39_92 rfl rfl rfl (pc' := 93) rfl ?_
    refine G_bald (lo := 0) (hi := 1) (ln := 40) zk_39_93 rfl rfl (vd_8 (by omega)) (by omega) (by omega) (by omega) (fun σ' h => h.1.1) (fun _ h => h.2 (by omega) (by omega)) (pc' := 94) rfl (fun y6 hy6 hy6' => ?_)
    refine G_bast (J' := (fun σ' => IF (MYl 1) σ σ' ∧ (∀ j, 0 ≤ j → j < 25 → σ' 4 1 0 j = 0) ∧ True)) (ln := 40) zk_39_94 rfl rfl (by omega) (vd_8 (by omega)) (by omega) (by omega) (by omega) (fun σ' h => ⟨h.1.up (by simp only [rgP] <;> omega) (by unfold MYl; omega), up_rngn (h.2.1) (by omega), trivial⟩) (pc' := 95) rfl ?_
    refine T_ld zk_39_95 rfl rfl rfl (pc' := 96) rfl ?_
    refine T_getR (t' := 9) (i' := 1) (k' := 0) zk_39_96 rfl rfl rfl (vd_2 (by omega)) (pc' := 99) rfl ?_
    refine T_ld zk_39_99 rfl rfl rfl (pc' := 100) rfl ?_
    refine T_ld zk_39_100 rfl rfl rfl (pc' := 101) rfl ?_
    refine T_getR (t' := 9) (i' := 0) (k' := 0) zk_39_101 rfl rfl rfl (vd_2 (by omega)) (pc' := 104) rfl ?_
    refine T_ld zk_39_104 rfl rfl rfl (pc' := 105) rfl ?_
    refine G_bald (lo := 0) (hi := 1) (ln := 40) zk_39_105 rfl rfl (vd_9 (by omega)) (by omega) (by omega) (by omega) (fun σ' h => h.1.1) (fun _ h => h.2 (by omega) (by omega)) (pc' := 106) rfl (fun y7 hy7 hy7' => ?_)
    refine G_bast (J' := (fun σ' => IF (MYl 1) σ σ' ∧ (∀ j, 0 ≤ j → j < 25 → σ' 4 1 0 j = 0) ∧ True)) (ln := 40) zk_39_106 rfl rfl (by omega) (vd_9 (by omega)) (by omega) (by omega) (by omega) (fun σ' h => ⟨h.1.up (by simp only [rgP] <;> omega) (by unfold MYl; omega), up_rngn (h.2.1) (by omega), trivial⟩) (pc' := 107) rfl ?_
    refine T_iinc (L' := [(0, av 2 1 0), (1, av 2 0 0), (2, iv (x1 + 1))]) zk_39_107 (nL := 3) rfl rfl rfl rfl (pc' := 110) rfl ?_
    refine T_goto zk_39_110 ?_
    exact ih2 (x1 + 1) (by omega) (by omega)
/-- W$Mouths.takeMouths -/
theorem c_64_1 {xs : Nat × (Nat → Int32)}   (σ : ZS) (hI : Inv σ)  (s1 : σ 11 0 0 0 = 0) : CT xs 1 64 [av 11 1 0, av 11 0 0] σ (fun v σ' => v = none ∧ IF (MI 1 11 12 13 13) σ σ' ∧ (σ' 11 1 0 0 = 0 ∧ True)) := by
  refine G_ct (J := (fun σ' => IF (MI 1 11 12 13 13) σ σ' ∧ True)) (L := [(0, av 11 1 0), (1, av 11 0 0)]) (nL := 3) rfl rfl rfl ⟨IF.rf hI, trivial⟩ ?_
  refine T_ld zk_64_0 rfl rfl rfl (pc' := 1) rfl ?_
  refine T_ld zk_64_1 rfl rfl rfl (pc' := 2) rfl ?_
  refine G_getX (w := 0) zk_64_2 rfl (vd_11 (by omega)) (fun σ' h => (h.1.2 _ _ _ _ (by unfold MI; omega)).trans s1) (pc' := 5) rfl ?_
  refine T_putf (J' := (fun σ' => IF (MI 1 11 12 13 13) σ σ' ∧ σ' 11 1 0 0 = 0 ∧ True)) zk_64_5 rfl rfl (vd_11 (by omega)) (fun σ' h => ⟨h.1.up (by simp only [rgP] <;> omega) (by unfold MI; omega), up_eq, trivial⟩) (pc' := 8) rfl ?_
  refine T_op zk_64_8 rfl X_ic (pc' := 9) rfl ?_
  refine T_st (L' := [(0, av 11 1 0), (1, av 11 0 0), (2, iv 0)]) zk_64_9 (nL := 3) rfl rfl rfl rfl rfl (pc' := 10) rfl ?_
  refine T_loop1 (fun x1 => ((0 : Int)).toNat) (fun x1 => (0 ≤ x1 ∧ x1 ≤ 0)) (fun x1 => TJ xs (fun σ' => IF (MI 1 11 12 13 13) σ σ' ∧ σ' 11 1 0 0 = 0 ∧ True) 0 64 10 [(0, av 11 1 0), (1, av 11 0 0), (2, iv x1)] [] _) ?_ 0 (by omega)
  intro x1 hp3 ih2
  refine T_ld zk_64_10 rfl rfl rfl (pc' := 11) rfl ?_
  refine T_ld zk_64_11 rfl rfl rfl (pc' := 12) rfl ?_
  refine G_getX (w := 0) zk_64_12 rfl (vd_11 (by omega)) (fun σ' h => h.2.1) (pc' := 15) rfl ?_
  refine T_icmp_ge zk_64_15 (by omega) (by omega) (pc' := 18) rfl (fun h4 => ?_) (fun h5 => ?_)
  ·
    exact T_vret zk_64_48 rfl (fun σ' h => ⟨rfl, h.1, ⟨h.2.1, trivial⟩⟩)
  · exfalso; omega
/-- W$Tide.takeTide -/
theorem c_72_10 {xs : Nat × (Nat → Int32)}   (σ : ZS) (hI : Inv σ)  (s1 : σ 17 0 0 0 = 0) : CT xs 1 72 [av 17 1 0, av 17 0 0] σ (fun v σ' => v = none ∧ IF (MYt 1 0) σ σ' ∧ (σ' 17 1 0 0 = 0 ∧ True)) := by
  refine G_ct (J := (fun σ' => IF (MYt 1 0) σ σ' ∧ True)) (L := [(0, av 17 1 0), (1, av 17 0 0)]) (nL := 2) rfl rfl rfl ⟨IF.rf hI, trivial⟩ ?_
  refine T_ld zk_72_0 rfl rfl rfl (pc' := 1) rfl ?_
  refine T_ld zk_72_1 rfl rfl rfl (pc' := 2) rfl ?_
  refine G_getX (w := 0) zk_72_2 rfl (vd_17 (by omega) (by omega)) (fun σ' h => (h.1.2 _ _ _ _ (by unfold MYt; omega)).trans s1) (pc' := 5) rfl ?_
  refine T_putf (J' := (fun σ' => IF (MYt 1 0) σ σ' ∧ σ' 17 1 0 0 = 0 ∧ True)) zk_72_5 rfl rfl (vd_17 (by omega) (by omega)) (fun σ' h => ⟨h.1.up (by simp only [rgP] <;> omega) (by unfold MYt; omega), up_eq, trivial⟩) (pc' := 8) rfl ?_
  refine T_ld zk_72_8 rfl rfl rfl (pc' := 9) rfl ?_
  refine T_getR (t' := 18) (i' := 0) (k' := 0) zk_72_9 rfl rfl rfl (vd_17 (by omega) (by omega)) (pc' := 12) rfl ?_
  refine T_op zk_72_12 rfl X_ic (pc' := 13) rfl ?_
  refine T_ld zk_72_13 rfl rfl rfl (pc' := 14) rfl ?_
  refine T_getR (t' := 18) (i' := 1) (k' := 0) zk_72_14 rfl rfl rfl (vd_17 (by omega) (by omega)) (pc' := 17) rfl ?_
  refine T_op zk_72_17 rfl X_ic (pc' := 18) rfl ?_
  refine T_op zk_72_18 rfl (X_bi (v := 96) (by decide)) (pc' := 20) rfl ?_
  refine G_copy (J' := (fun σ' => IF (MYt 1 0) σ σ' ∧ σ' 17 1 0 0 = 0 ∧ True)) (l0 := 96) (l1 := 96) (kk := 12) zk_72_20 rfl rfl (by decide) rfl rfl rfl rfl (vd_18 (by omega) (by omega)) (vd_18 (by omega) (by omega)) (by omega) (by omega) (by omega) (by omega) (by omega) (fun σ' h => ⟨h.1.cp (rg_cp0 rfl (fun _ _ h => h) (fun j => h.1.1 18 0 0 j (vd_18 (by omega) (by omega))) (fun j => h.1.1 18 1 0 j (vd_18 (by omega) (by omega)))) (fun j => (by unfold MYt; omega)), (congrFun (upr_oth _ _ _ (by omega)) _).trans (h.2.1), trivial⟩) (pc' := 23) rfl ?_
  exact T_vret zk_72_23 rfl (fun σ' h => ⟨rfl, h.1, ⟨h.2.1, trivial⟩⟩)
/-- W$Tide.takeTide -/
theorem c_72_11 {xs : Nat × (Nat → Int32)}   (σ : ZS) (hI : Inv σ)  (s1 : σ 17 0 1 0 = 0) : CT xs 1 72 [av 17 1 1, av 17 0 1] σ (fun v σ' => v = none ∧ IF (MYt 1 1) σ σ' ∧ (σ' 17 1 1 0 = 0 ∧ True)) := by
  refine G_ct (J := (fun σ' => IF (MYt 1 1) σ σ' ∧ True)) (L := [(0, av 17 1 1), (1, av 17 0 1)]) (nL := 2) rfl rfl rfl ⟨IF.rf hI, trivial⟩ ?_
  refine T_ld zk_72_0 rfl rfl rfl (pc' := 1) rfl ?_
  refine T_ld zk_72_1 rfl rfl rfl (pc' := 2) rfl ?_
  refine G_getX (w := 0) zk_72_2 rfl (vd_17 (by omega) (by omega)) (fun σ' h => (h.1.2 _ _ _ _ (by unfold MYt; omega)).trans s1) (pc' := 5) rfl ?_
  refine T_putf (J' := (fun σ' => IF (MYt 1 1) σ σ' ∧ σ' 17 1 1 0 = 0 ∧ True)) zk_72_5 rfl rfl (vd_17 (by omega) (by omega)) (fun σ' h => ⟨h.1.up (by simp only [rgP] <;> omega) (by unfold MYt; omega), up_eq, trivial⟩) (pc' := 8) rfl ?_
  refine T_ld zk_72_8 rfl rfl rfl (pc' := 9) rfl ?_
  refine T_getR (t' := 18) (i' := 0) (k' := 1) zk_72_9 rfl rfl rfl (vd_17 (by omega) (by omega)) (pc' := 12) rfl ?_
  refine T_op zk_72_12 rfl X_ic (pc' := 13) rfl ?_
  refine T_ld zk_72_13 rfl rfl rfl (pc' := 14) rfl ?_
  refine T_getR (t' := 18) (i' := 1) (k' := 1) zk_72_14 rfl rfl rfl (vd_17 (by omega) (by omega)) (pc' := 17) rfl ?_
  refine T_op zk_72_17 rfl X_ic (pc' := 18) rfl ?_
  refine T_op zk_72_18 rfl (X_bi (v := 96) (by decide)) (pc' := 20) rfl ?_
  refine G_copy (J' := (fun σ' => IF (MYt 1 1) σ σ' ∧ σ' 17 1 1 0 = 0 ∧ True)) (l0 := 96) (l1 := 96) (kk := 12) zk_72_20 rfl rfl (by decide) rfl rfl rfl rfl (vd_18 (by omega) (by omega)) (vd_18 (by omega) (by omega)) (by omega) (by omega) (by omega) (by omega) (by omega) (fun σ' h => ⟨h.1.cp (rg_cp0 rfl (fun _ _ h => h) (fun j => h.1.1 18 0 1 j (vd_18 (by omega) (by omega))) (fun j => h.1.1 18 1 1 j (vd_18 (by omega) (by omega)))) (fun j => (by unfold MYt; omega)), (congrFun (upr_oth _ _ _ (by omega)) _).trans (h.2.1), trivial⟩) (pc' := 23) rfl ?_
  exact T_vret zk_72_23 rfl (fun σ' h => ⟨rfl, h.1, ⟨h.2.1, trivial⟩⟩)
/-- W$City.takeCity -/
theorem c_22_1 {xs : Nat × (Nat → Int32)}   (σ : ZS) (hI : Inv σ)  (s0 : (∀ j, 0 ≤ j → j < 25 → σ 4 0 0 j = 0)) (s1 : σ 11 0 0 0 = 0) (s2 : σ 17 0 0 0 = 0) (s3 : σ 17 0 1 0 = 0) (s4 : σ 1 0 0 5 = 0) (s5 : σ 1 0 0 6 = 0) (s6 : σ 1 0 0 7 = 0) (s7 : σ 1 0 0 13 = 0) : CT xs 2 22 [av 1 1 0, av 1 0 0] σ (fun v σ' => v = none ∧ IF (MY 1) σ σ' ∧ ((∀ j, 0 ≤ j → j < 25 → σ' 4 1 0 j = 0) ∧ σ' 11 1 0 0 = 0 ∧ σ' 17 1 0 0 = 0 ∧ σ' 17 1 1 0 = 0 ∧ σ' 1 1 0 5 = 0 ∧ σ' 1 1 0 6 = 0 ∧ σ' 1 1 0 7 = 0 ∧ σ' 1 1 0 13 = 0 ∧ True)) := by
  refine G_ct (J := (fun σ' => IF (MY 1) σ σ' ∧ True)) (L := [(0, av 1 1 0), (1, av 1 0 0)]) (nL := 3) rfl rfl rfl ⟨IF.rf hI, trivial⟩ ?_
  refine T_ld zk_22_0 rfl rfl rfl (pc' := 1) rfl ?_
  refine T_getR (t' := 2) (i' := 1) (k' := 0) zk_22_1 rfl rfl rfl (vd_1 (by omega)) (pc' := 4) rfl ?_
  refine T_ld zk_22_4 rfl rfl rfl (pc' := 5) rfl ?_
  refine T_getR (t' := 2) (i' := 0) (k' := 0) zk_22_5 rfl rfl rfl (vd_1 (by omega)) (pc' := 8) rfl ?_
  refine T_callv (J' := (fun σ' => IF (MY 1) σ σ' ∧ (∀ j, 0 ≤ j → j < 25 → σ' 4 1 0 j = 0) ∧ True)) (r := []) zk_22_8 rfl rfl rfl rfl rfl rfl (Or.inr ⟨_, _, _, _, rfl, (vd_2 (by omega)), rfl⟩) (fun σ' h => (c_39_1   σ' h.1.1 (fun j a b => (h.1.2 _ _ _ _ (by unfold MY; omega)).trans (s0 j (by omega) (by omega)))).le (Nat.le_of_ble_eq_true rfl) (fun v σ2 ⟨h1, h3, h4⟩ => ⟨h1, h.1.tr h3 (fun t i k j h => by unfold MYl at h; unfold MY; omega), h4.1, trivial⟩)) (pc' := 11) rfl ?_
  refine T_ld zk_22_11 rfl rfl rfl (pc' := 12) rfl ?_
  refine T_getR (t' := 11) (i' := 1) (k' := 0) zk_22_12 rfl rfl rfl (vd_1 (by omega)) (pc' := 15) rfl ?_
  refine T_ld zk_22_15 rfl rfl rfl (pc' := 16) rfl ?_
  refine T_getR (t' := 11) (i' := 0) (k' := 0) zk_22_16 rfl rfl rfl (vd_1 (by omega)) (pc' := 19) rfl ?_
  refine T_callv (J' := (fun σ' => IF (MY 1) σ σ' ∧ (∀ j, 0 ≤ j → j < 25 → σ' 4 1 0 j = 0) ∧ σ' 11 1 0 0 = 0 ∧ True)) (r := []) zk_22_19 rfl rfl rfl rfl rfl rfl (Or.inr ⟨_, _, _, _, rfl, (vd_11 (by omega)), rfl⟩) (fun σ' h => (c_64_1   σ' h.1.1 ((h.1.2 _ _ _ _ (by unfold MY; omega)).trans s1)).le (Nat.le_of_ble_eq_true rfl) (fun v σ2 ⟨h1, h3, h4⟩ => ⟨h1, h.1.tr h3 (fun t i k j h => by unfold MI at h; unfold MY; omega), fun j a b => (h3.2 _ _ _ _ (by unfold MI; omega)).trans (h.2.1 j a b), h4.1, trivial⟩)) (pc' := 22) rfl ?_
  refine T_ld zk_22_22 rfl rfl rfl (pc' := 23) rfl ?_
  refine T_getR (t' := 17) (i' := 1) (k' := 0) zk_22_23 rfl rfl rfl (vd_1 (by omega)) (pc' := 26) rfl ?_
  refine T_ld zk_22_26 rfl rfl rfl (pc' := 27) rfl ?_
  refine T_getR (t' := 17) (i' := 0) (k' := 0) zk_22_27 rfl rfl rfl (vd_1 (by omega)) (pc' := 30) rfl ?_
  refine T_callv (J' := (fun σ' => IF (MY 1) σ σ' ∧ (∀ j, 0 ≤ j → j < 25 → σ' 4 1 0 j = 0) ∧ σ' 11 1 0 0 = 0 ∧ σ' 17 1 0 0 = 0 ∧ True)) (r := []) zk_22_30 rfl rfl rfl rfl rfl rfl (Or.inr ⟨_, _, _, _, rfl, (vd_17 (by omega) (by omega)), rfl⟩) (fun σ' h => (c_72_10   σ' h.1.1 ((h.1.2 _ _ _ _ (by unfold MY; omega)).trans s2)).le (Nat.le_of_ble_eq_true rfl) (fun v σ2 ⟨h1, h3, h4⟩ => ⟨h1, h.1.tr h3 (fun t i k j h => by unfold MYt at h; unfold MY; omega), fun j a b => (h3.2 _ _ _ _ (by unfold MYt; omega)).trans (h.2.1 j a b), (h3.2 _ _ _ _ (by unfold MYt; omega)).trans (h.2.2.1), h4.1, trivial⟩)) (pc' := 33) rfl ?_
  refine T_ld zk_22_33 rfl rfl rfl (pc' := 34) rfl ?_
  refine T_getR (t' := 17) (i' := 1) (k' := 1) zk_22_34 rfl rfl rfl (vd_1 (by omega)) (pc' := 37) rfl ?_
  refine T_ld zk_22_37 rfl rfl rfl (pc' := 38) rfl ?_
  refine T_getR (t' := 17) (i' := 0) (k' := 1) zk_22_38 rfl rfl rfl (vd_1 (by omega)) (pc' := 41) rfl ?_
  refine T_callv (J' := (fun σ' => IF (MY 1) σ σ' ∧ (∀ j, 0 ≤ j → j < 25 → σ' 4 1 0 j = 0) ∧ σ' 11 1 0 0 = 0 ∧ σ' 17 1 0 0 = 0 ∧ σ' 17 1 1 0 = 0 ∧ True)) (r := []) zk_22_41 rfl rfl rfl rfl rfl rfl (Or.inr ⟨_, _, _, _, rfl, (vd_17 (by omega) (by omega)), rfl⟩) (fun σ' h => (c_72_11   σ' h.1.1 ((h.1.2 _ _ _ _ (by unfold MY; omega)).trans s3)).le (Nat.le_of_ble_eq_true rfl) (fun v σ2 ⟨h1, h3, h4⟩ => ⟨h1, h.1.tr h3 (fun t i k j h => by unfold MYt at h; unfold MY; omega), fun j a b => (h3.2 _ _ _ _ (by unfold MYt; omega)).trans (h.2.1 j a b), (h3.2 _ _ _ _ (by unfold MYt; omega)).trans (h.2.2.1), (h3.2 _ _ _ _ (by unfold MYt; omega)).trans (h.2.2.2.1), h4.1, trivial⟩)) (pc' := 44) rfl ?_
  refine T_ld zk_22_44 rfl rfl rfl (pc' := 45) rfl ?_
  refine T_ld zk_22_45 rfl rfl rfl (pc' := 46) rfl ?_
  refine G_getX (w := 0) zk_22_46 rfl (vd_1 (by omega)) (fun σ' h => (h.1.2 _ _ _ _ (by unfold MY; omega)).trans s4) (pc' := 49) rfl ?_
  refine T_putf (J' := (fun σ' => IF (MY 1) σ σ' ∧ (∀ j, 0 ≤ j → j < 25 → σ' 4 1 0 j = 0) ∧ σ' 11 1 0 0 = 0 ∧ σ' 17 1 0 0 = 0 ∧ σ' 17 1 1 0 = 0 ∧ σ' 1 1 0 5 = 0 ∧ True)) zk_22_49 rfl rfl (vd_1 (by omega)) (fun σ' h => ⟨h.1.up (by simp only [rgP] <;> omega) (by unfold MY; omega), up_rngn (h.2.1) (by omega), (up_ne (by omega)).trans (h.2.2.1), (up_ne (by omega)).trans (h.2.2.2.1), (up_ne (by omega)).trans (h.2.2.2.2.1), up_eq, trivial⟩) (pc' := 52) rfl ?_
  refine T_op zk_22_52 rfl X_ic (pc' := 53) rfl ?_
  refine T_st (L' := [(0, av 1 1 0), (1, av 1 0 0), (2, iv 0)]) zk_22_53 (nL := 3) rfl rfl rfl rfl rfl (pc' := 54) rfl ?_
  refine T_loop1 (fun x5 => ((0 : Int)).toNat) (fun x5 => (0 ≤ x5 ∧ x5 ≤ 0)) (fun x5 => TJ xs (fun σ' => IF (MY 1) σ σ' ∧ (∀ j, 0 ≤ j → j < 25 → σ' 4 1 0 j = 0) ∧ σ' 11 1 0 0 = 0 ∧ σ' 17 1 0 0 = 0 ∧ σ' 17 1 1 0 = 0 ∧ σ' 1 1 0 5 = 0 ∧ True) 1 22 54 [(0, av 1 1 0), (1, av 1 0 0), (2, iv x5)] [] _) ?_ 0 (by omega)
  intro x5 hp7 ih6
  refine T_ld zk_22_54 rfl rfl rfl (pc' := 55) rfl ?_
  refine T_ld zk_22_55 rfl rfl rfl (pc' := 56) rfl ?_
  refine G_getX (w := 0) zk_22_56 rfl (vd_1 (by omega)) (fun σ' h => h.2.2.2.2.2.1) (pc' := 59) rfl ?_
  refine T_icmp_ge zk_22_59 (by omega) (by omega) (pc' := 62) rfl (fun h8 => ?_) (fun h9 => ?_)
  ·
    refine T_ld zk_22_83 rfl rfl rfl (pc' := 84) rfl ?_
    refine T_ld zk_22_84 rfl rfl rfl (pc' := 85) rfl ?_
    refine G_getX (w := 0) zk_22_85 rfl (vd_1 (by omega)) (fun σ' h => (h.1.2 _ _ _ _ (by unfold MY; omega)).trans s5) (pc' := 88) rfl ?_
    refine T_putf (J' := (fun σ' => IF (MY 1) σ σ' ∧ (∀ j, 0 ≤ j → j < 25 → σ' 4 1 0 j = 0) ∧ σ' 11 1 0 0 = 0 ∧ σ' 17 1 0 0 = 0 ∧ σ' 17 1 1 0 = 0 ∧ σ' 1 1 0 5 = 0 ∧ σ' 1 1 0 6 = 0 ∧ True)) zk_22_88 rfl rfl (vd_1 (by omega)) (fun σ' h => ⟨h.1.up (by simp only [rgP] <;> omega) (by unfold MY; omega), up_rngn (h.2.1) (by omega), (up_ne (by omega)).trans (h.2.2.1), (up_ne (by omega)).trans (h.2.2.2.1), (up_ne (by omega)).trans (h.2.2.2.2.1), (up_ne (by omega)).trans (h.2.2.2.2.2.1), up_eq, trivial⟩) (pc' := 91) rfl ?_
    refine T_op zk_22_91 rfl X_ic (pc' := 92) rfl ?_
    refine T_st (L' := [(0, av 1 1 0), (1, av 1 0 0), (2, iv 0)]) zk_22_92 (nL := 3) rfl rfl rfl rfl rfl (pc' := 93) rfl ?_
    refine T_loop1 (fun x10 => ((0 : Int)).toNat) (fun x10 => (0 ≤ x10 ∧ x10 ≤ 0)) (fun x10 => TJ xs (fun σ' => IF (MY 1) σ σ' ∧ (∀ j, 0 ≤ j → j < 25 → σ' 4 1 0 j = 0) ∧ σ' 11 1 0 0 = 0 ∧ σ' 17 1 0 0 = 0 ∧ σ' 17 1 1 0 = 0 ∧ σ' 1 1 0 5 = 0 ∧ σ' 1 1 0 6 = 0 ∧ True) 1 22 93 [(0, av 1 1 0), (1, av 1 0 0), (2, iv x10)] [] _) ?_ 0 (by omega)
    intro x10 hp12 ih11
    refine T_ld zk_22_93 rfl rfl rfl (pc' := 94) rfl ?_
    refine T_ld zk_22_94 rfl rfl rfl (pc' := 95) rfl ?_
    refine G_getX (w := 0) zk_22_95 rfl (vd_1 (by omega)) (fun σ' h => h.2.2.2.2.2.2.1) (pc' := 98) rfl ?_
    refine T_icmp_ge zk_22_98 (by omega) (by omega) (pc' := 101) rfl (fun h13 => ?_) (fun h14 => ?_)
    ·
      refine T_ld zk_22_122 rfl rfl rfl (pc' := 123) rfl ?_
      refine T_ld zk_22_123 rfl rfl rfl (pc' := 124) rfl ?_
      refine G_getX (w := 0) zk_22_124 rfl (vd_1 (by omega)) (fun σ' h => (h.1.2 _ _ _ _ (by unfold MY; omega)).trans s6) (pc' := 127) rfl ?_
      refine T_putf (J' := (fun σ' => IF (MY 1) σ σ' ∧ (∀ j, 0 ≤ j → j < 25 → σ' 4 1 0 j = 0) ∧ σ' 11 1 0 0 = 0 ∧ σ' 17 1 0 0 = 0 ∧ σ' 17 1 1 0 = 0 ∧ σ' 1 1 0 5 = 0 ∧ σ' 1 1 0 6 = 0 ∧ σ' 1 1 0 7 = 0 ∧ True)) zk_22_127 rfl rfl (vd_1 (by omega)) (fun σ' h => ⟨h.1.up (by simp only [rgP] <;> omega) (by unfold MY; omega), up_rngn (h.2.1) (by omega), (up_ne (by omega)).trans (h.2.2.1), (up_ne (by omega)).trans (h.2.2.2.1), (up_ne (by omega)).trans (h.2.2.2.2.1), (up_ne (by omega)).trans (h.2.2.2.2.2.1), (up_ne (by omega)).trans (h.2.2.2.2.2.2.1), up_eq, trivial⟩) (pc' := 130) rfl ?_
      refine T_op zk_22_130 rfl X_ic (pc' := 131) rfl ?_
      refine T_st (L' := [(0, av 1 1 0), (1, av 1 0 0), (2, iv 0)]) zk_22_131 (nL := 3) rfl rfl rfl rfl rfl (pc' := 132) rfl ?_
      refine T_loop1 (fun x15 => ((0 : Int)).toNat) (fun x15 => (0 ≤ x15 ∧ x15 ≤ 0)) (fun x15 => TJ xs (fun σ' => IF (MY 1) σ σ' ∧ (∀ j, 0 ≤ j → j < 25 → σ' 4 1 0 j = 0) ∧ σ' 11 1 0 0 = 0 ∧ σ' 17 1 0 0 = 0 ∧ σ' 17 1 1 0 = 0 ∧ σ' 1 1 0 5 = 0 ∧ σ' 1 1 0 6 = 0 ∧ σ' 1 1 0 7 = 0 ∧ True) 1 22 132 [(0, av 1 1 0), (1, av 1 0 0), (2, iv x15)] [] _) ?_ 0 (by omega)
      intro x15 hp17 ih16
      refine T_ld zk_22_132 rfl rfl rfl (pc' := 133) rfl ?_
      refine T_ld zk_22_133 rfl rfl rfl (pc' := 134) rfl ?_
      refine G_getX (w := 0) zk_22_134 rfl (vd_1 (by omega)) (fun σ' h => h.2.2.2.2.2.2.2.1) (pc' := 137) rfl ?_
      refine T_icmp_ge zk_22_137 (by omega) (by omega) (pc' := 140) rfl (fun h18 => ?_) (fun h19 => ?_)
      ·
        refine T_ld zk_22_161 rfl rfl rfl (pc' := 162) rfl ?_
        refine T_ld zk_22_162 rfl rfl rfl (pc' := 163) rfl ?_
        refine G_getf (lo := 0) (hi := 99) zk_22_163 rfl (vd_1 (by omega)) (fun σ' h => h.1.1) (fun _ h => h.2.2.2.2.1 (by omega) (by omega)) (pc' := 166) rfl (fun y20 hy20 hy20' => ?_)
        refine T_putf (J' := (fun σ' => IF (MY 1) σ σ' ∧ (∀ j, 0 ≤ j → j < 25 → σ' 4 1 0 j = 0) ∧ σ' 11 1 0 0 = 0 ∧ σ' 17 1 0 0 = 0 ∧ σ' 17 1 1 0 = 0 ∧ σ' 1 1 0 5 = 0 ∧ σ' 1 1 0 6 = 0 ∧ σ' 1 1 0 7 = 0 ∧ σ' 1 1 0 10 = y20 ∧ True)) zk_22_166 rfl rfl (vd_1 (by omega)) (fun σ' h => ⟨h.1.up (by simp only [rgP] <;> omega) (by unfold MY; omega), up_rngn (h.2.1) (by omega), (up_ne (by omega)).trans (h.2.2.1), (up_ne (by omega)).trans (h.2.2.2.1), (up_ne (by omega)).trans (h.2.2.2.2.1), (up_ne (by omega)).trans (h.2.2.2.2.2.1), (up_ne (by omega)).trans (h.2.2.2.2.2.2.1), (up_ne (by omega)).trans (h.2.2.2.2.2.2.2.1), up_eq, trivial⟩) (pc' := 169) rfl ?_
        refine T_ld zk_22_169 rfl rfl rfl (pc' := 170) rfl ?_
        refine T_ld zk_22_170 rfl rfl rfl (pc' := 171) rfl ?_
        refine G_getf (lo := 1) (hi := 9) zk_22_171 rfl (vd_1 (by omega)) (fun σ' h => h.1.1) (fun _ h => h.2.2.2.2.2.1 (by omega) (by omega)) (pc' := 174) rfl (fun y21 hy21 hy21' => ?_)
        refine T_putf (J' := (fun σ' => IF (MY 1) σ σ' ∧ (∀ j, 0 ≤ j → j < 25 → σ' 4 1 0 j = 0) ∧ σ' 11 1 0 0 = 0 ∧ σ' 17 1 0 0 = 0 ∧ σ' 17 1 1 0 = 0 ∧ σ' 1 1 0 5 = 0 ∧ σ' 1 1 0 6 = 0 ∧ σ' 1 1 0 7 = 0 ∧ σ' 1 1 0 10 = y20 ∧ σ' 1 1 0 11 = y21 ∧ True)) zk_22_174 rfl rfl (vd_1 (by omega)) (fun σ' h => ⟨h.1.up (by simp only [rgP] <;> omega) (by unfold MY; omega), up_rngn (h.2.1) (by omega), (up_ne (by omega)).trans (h.2.2.1), (up_ne (by omega)).trans (h.2.2.2.1), (up_ne (by omega)).trans (h.2.2.2.2.1), (up_ne (by omega)).trans (h.2.2.2.2.2.1), (up_ne (by omega)).trans (h.2.2.2.2.2.2.1), (up_ne (by omega)).trans (h.2.2.2.2.2.2.2.1), (up_ne (by omega)).trans (h.2.2.2.2.2.2.2.2.1), up_eq, trivial⟩) (pc' := 177) rfl ?_
        refine T_ld zk_22_177 rfl rfl rfl (pc' := 178) rfl ?_
        refine T_ld zk_22_178 rfl rfl rfl (pc' := 179) rfl ?_
        refine G_getf (lo := 0) (hi := 9999) zk_22_179 rfl (vd_1 (by omega)) (fun σ' h => h.1.1) (fun _ h => h.2.2.2.2.2.2 (by omega) (by omega)) (pc' := 182) rfl (fun y22 hy22 hy22' => ?_)
        refine T_putf (J' := (fun σ' => IF (MY 1) σ σ' ∧ (∀ j, 0 ≤ j → j < 25 → σ' 4 1 0 j = 0) ∧ σ' 11 1 0 0 = 0 ∧ σ' 17 1 0 0 = 0 ∧ σ' 17 1 1 0 = 0 ∧ σ' 1 1 0 5 = 0 ∧ σ' 1 1 0 6 = 0 ∧ σ' 1 1 0 7 = 0 ∧ σ' 1 1 0 10 = y20 ∧ σ' 1 1 0 11 = y21 ∧ σ' 1 1 0 12 = y22 ∧ True)) zk_22_182 rfl rfl (vd_1 (by omega)) (fun σ' h => ⟨h.1.up (by simp only [rgP] <;> omega) (by unfold MY; omega), up_rngn (h.2.1) (by omega), (up_ne (by omega)).trans (h.2.2.1), (up_ne (by omega)).trans (h.2.2.2.1), (up_ne (by omega)).trans (h.2.2.2.2.1), (up_ne (by omega)).trans (h.2.2.2.2.2.1), (up_ne (by omega)).trans (h.2.2.2.2.2.2.1), (up_ne (by omega)).trans (h.2.2.2.2.2.2.2.1), (up_ne (by omega)).trans (h.2.2.2.2.2.2.2.2.1), (up_ne (by omega)).trans (h.2.2.2.2.2.2.2.2.2.1), up_eq, trivial⟩) (pc' := 185) rfl ?_
        refine T_ld zk_22_185 rfl rfl rfl (pc' := 186) rfl ?_
        refine T_ld zk_22_186 rfl rfl rfl (pc' := 187) rfl ?_
        refine G_getX (w := 0) zk_22_187 rfl (vd_1 (by omega)) (fun σ' h => (h.1.2 _ _ _ _ (by unfold MY; omega)).trans s7) (pc' := 190) rfl ?_
        refine T_putf (J' := (fun σ' => IF (MY 1) σ σ' ∧ (∀ j, 0 ≤ j → j < 25 → σ' 4 1 0 j = 0) ∧ σ' 11 1 0 0 = 0 ∧ σ' 17 1 0 0 = 0 ∧ σ' 17 1 1 0 = 0 ∧ σ' 1 1 0 5 = 0 ∧ σ' 1 1 0 6 = 0 ∧ σ' 1 1 0 7 = 0 ∧ σ' 1 1 0 10 = y20 ∧ σ' 1 1 0 11 = y21 ∧ σ' 1 1 0 12 = y22 ∧ σ' 1 1 0 13 = 0 ∧ True)) zk_22_190 rfl rfl (vd_1 (by omega)) (fun σ' h => ⟨h.1.up (by simp only [rgP] <;> omega) (by unfold MY; omega), up_rngn (h.2.1) (by omega), (up_ne (by omega)).trans (h.2.2.1), (up_ne (by omega)).trans (h.2.2.2.1), (up_ne (by omega)).trans (h.2.2.2.2.1), (up_ne (by omega)).trans (h.2.2.2.2.2.1), (up_ne (by omega)).trans (h.2.2.2.2.2.2.1), (up_ne (by omega)).trans (h.2.2.2.2.2.2.2.1), (up_ne (by omega)).trans (h.2.2.2.2.2.2.2.2.1), (up_ne (by omega)).trans (h.2.2.2.2.2.2.2.2.2.1), (up_ne (by omega)).trans (h.2.2.2.2.2.2.2.2.2.2.1), up_eq, trivial⟩) (pc' := 193) rfl ?_
        refine T_ld zk_22_193 rfl rfl rfl (pc' := 194) rfl ?_
        refine T_ld zk_22_194 rfl rfl rfl (pc' := 195) rfl ?_
        refine G_getf (lo := -2147483648) (hi := 2147483647) zk_22_195 rfl (vd_1 (by omega)) (fun σ' h => h.1.1) (fun _ h => h.1) (pc' := 198) rfl (fun y23 hy23 hy23' => ?_)
        refine T_putf (J' := (fun σ' => IF (MY 1) σ σ' ∧ (∀ j, 0 ≤ j → j < 25 → σ' 4 1 0 j = 0) ∧ σ' 11 1 0 0 = 0 ∧ σ' 17 1 0 0 = 0 ∧ σ' 17 1 1 0 = 0 ∧ σ' 1 1 0 5 = 0 ∧ σ' 1 1 0 6 = 0 ∧ σ' 1 1 0 7 = 0 ∧ σ' 1 1 0 10 = y20 ∧ σ' 1 1 0 11 = y21 ∧ σ' 1 1 0 12 = y22 ∧ σ' 1 1 0 13 = 0 ∧ σ' 1 1 0 14 = y23 ∧ True)) zk_22_198 rfl rfl (vd_1 (by omega)) (fun σ' h => ⟨h.1.up (by simp only [rgP] <;> omega) (by unfold MY; omega), up_rngn (h.2.1) (by omega), (up_ne (by omega)).trans (h.2.2.1), (up_ne (by omega)).trans (h.2.2.2.1), (up_ne (by omega)).trans (h.2.2.2.2.1), (up_ne (by omega)).trans (h.2.2.2.2.2.1), (up_ne (by omega)).trans (h.2.2.2.2.2.2.1), (up_ne (by omega)).trans (h.2.2.2.2.2.2.2.1), (up_ne (by omega)).trans (h.2.2.2.2.2.2.2.2.1), (up_ne (by omega)).trans (h.2.2.2.2.2.2.2.2.2.1), (up_ne (by omega)).trans (h.2.2.2.2.2.2.2.2.2.2.1), (up_ne (by omega)).trans (h.2.2.2.2.2.2.2.2.2.2.2.1), up_eq, trivial⟩) (pc' := 201) rfl ?_
        refine T_ld zk_22_201 rfl rfl rfl (pc' := 202) rfl ?_
        refine T_ld zk_22_202 rfl rfl rfl (pc' := 203) rfl ?_
        refine G_getf (lo := -2147483648) (hi := 2147483647) zk_22_203 rfl (vd_1 (by omega)) (fun σ' h => h.1.1) (fun _ h => h.1) (pc' := 206) rfl (fun y24 hy24 hy24' => ?_)
        refine T_putf (J' := (fun σ' => IF (MY 1) σ σ' ∧ (∀ j, 0 ≤ j → j < 25 → σ' 4 1 0 j = 0) ∧ σ' 11 1 0 0 = 0 ∧ σ' 17 1 0 0 = 0 ∧ σ' 17 1 1 0 = 0 ∧ σ' 1 1 0 5 = 0 ∧ σ' 1 1 0 6 = 0 ∧ σ' 1 1 0 7 = 0 ∧ σ' 1 1 0 10 = y20 ∧ σ' 1 1 0 11 = y21 ∧ σ' 1 1 0 12 = y22 ∧ σ' 1 1 0 13 = 0 ∧ σ' 1 1 0 14 = y23 ∧ σ' 1 1 0 15 = y24 ∧ True)) zk_22_206 rfl rfl (vd_1 (by omega)) (fun σ' h => ⟨h.1.up (by simp only [rgP] <;> omega) (by unfold MY; omega), up_rngn (h.2.1) (by omega), (up_ne (by omega)).trans (h.2.2.1), (up_ne (by omega)).trans (h.2.2.2.1), (up_ne (by omega)).trans (h.2.2.2.2.1), (up_ne (by omega)).trans (h.2.2.2.2.2.1), (up_ne (by omega)).trans (h.2.2.2.2.2.2.1), (up_ne (by omega)).trans (h.2.2.2.2.2.2.2.1), (up_ne (by omega)).trans (h.2.2.2.2.2.2.2.2.1), (up_ne (by omega)).trans (h.2.2.2.2.2.2.2.2.2.1), (up_ne (by omega)).trans (h.2.2.2.2.2.2.2.2.2.2.1), (up_ne (by omega)).trans (h.2.2.2.2.2.2.2.2.2.2.2.1), (up_ne (by omega)).trans (h.2.2.2.2.2.2.2.2.2.2.2.2.1), up_eq, trivial⟩) (pc' := 209) rfl ?_
        refine T_ld zk_22_209 rfl rfl rfl (pc' := 210) rfl ?_
        refine T_ld zk_22_210 rfl rfl rfl (pc' := 211) rfl ?_
        refine G_getf (lo := -2147483648) (hi := 2147483647) zk_22_211 rfl (vd_1 (by omega)) (fun σ' h => h.1.1) (fun _ h => h.1) (pc' := 214) rfl (fun y25 hy25 hy25' => ?_)
        refine T_putf (J' := (fun σ' => IF (MY 1) σ σ' ∧ (∀ j, 0 ≤ j → j < 25 → σ' 4 1 0 j = 0) ∧ σ' 11 1 0 0 = 0 ∧ σ' 17 1 0 0 = 0 ∧ σ' 17 1 1 0 = 0 ∧ σ' 1 1 0 5 = 0 ∧ σ' 1 1 0 6 = 0 ∧ σ' 1 1 0 7 = 0 ∧ σ' 1 1 0 10 = y20 ∧ σ' 1 1 0 11 = y21 ∧ σ' 1 1 0 12 = y22 ∧ σ' 1 1 0 13 = 0 ∧ σ' 1 1 0 14 = y23 ∧ σ' 1 1 0 15 = y24 ∧ σ' 1 1 0 16 = y25 ∧ True)) zk_22_214 rfl rfl (vd_1 (by omega)) (fun σ' h => ⟨h.1.up (by simp only [rgP] <;> omega) (by unfold MY; omega), up_rngn (h.2.1) (by omega), (up_ne (by omega)).trans (h.2.2.1), (up_ne (by omega)).trans (h.2.2.2.1), (up_ne (by omega)).trans (h.2.2.2.2.1), (up_ne (by omega)).trans (h.2.2.2.2.2.1), (up_ne (by omega)).trans (h.2.2.2.2.2.2.1), (up_ne (by omega)).trans (h.2.2.2.2.2.2.2.1), (up_ne (by omega)).trans (h.2.2.2.2.2.2.2.2.1), (up_ne (by omega)).trans (h.2.2.2.2.2.2.2.2.2.1), (up_ne (by omega)).trans (h.2.2.2.2.2.2.2.2.2.2.1), (up_ne (by omega)).trans (h.2.2.2.2.2.2.2.2.2.2.2.1), (up_ne (by omega)).trans (h.2.2.2.2.2.2.2.2.2.2.2.2.1), (up_ne (by omega)).trans (h.2.2.2.2.2.2.2.2.2.2.2.2.2.1), up_eq, trivial⟩) (pc' := 217) rfl ?_
        exact T_vret zk_22_217 rfl (fun σ' h => ⟨rfl, h.1, ⟨h.2.1, h.2.2.1, h.2.2.2.1, h.2.2.2.2.1, h.2.2.2.2.2.1, h.2.2.2.2.2.2.1, h.2.2.2.2.2.2.2.1, h.2.2.2.2.2.2.2.2.2.2.2.1, trivial⟩⟩)
      · exfalso; omega
    · exfalso; omega
  · exfalso; omega
