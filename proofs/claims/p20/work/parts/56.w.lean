theorem zk_97_0 : zc 97 0 = some (.iload_n 1, 0, 0, 0, 0) := rfl
theorem zk_97_1 : zc 97 1 = some (.iconst 1, 0, 0, 0, 0) := rfl
theorem zk_97_2 : zc 97 2 = some (.bipush 48, 0, 0, 0, 0) := rfl
theorem zk_97_4 : zc 97 4 = some (.invokestatic 52, 114, 1, 3, 89) := rfl
theorem zk_97_7 : zc 97 7 = some (.ifCond .eq 12, 19, 0, 0, 0) := rfl
theorem zk_97_10 : zc 97 10 = some (.iload_n 2, 0, 0, 0, 0) := rfl
theorem zk_97_11 : zc 97 11 = some (.iconst 0, 0, 0, 0, 0) := rfl
theorem zk_97_12 : zc 97 12 = some (.iconst 1, 0, 0, 0, 0) := rfl
theorem zk_97_13 : zc 97 13 = some (.invokestatic 52, 114, 1, 3, 89) := rfl
theorem zk_97_16 : zc 97 16 = some (.ifCond .ne 10, 26, 0, 0, 0) := rfl
theorem zk_97_19 : zc 97 19 = some (.aload_n 0, 0, 0, 0, 0) := rfl
theorem zk_97_20 : zc 97 20 = some (.bipush (-6), 0, 0, 0, 0) := rfl
theorem zk_97_22 : zc 97 22 = some (.invokevirtual 48, 113, 0, 2, 88) := rfl
theorem zk_97_25 : zc 97 25 = some (.ireturn, 0, 0, 0, 0) := rfl
theorem zk_97_26 : zc 97 26 = some (.iconst 0, 0, 0, 0, 0) := rfl
theorem zk_97_27 : zc 97 27 = some (.istore_n 3, 0, 0, 0, 0) := rfl
theorem zk_97_28 : zc 97 28 = some (.iconst 0, 0, 0, 0, 0) := rfl
theorem zk_97_29 : zc 97 29 = some (.istore 4, 0, 0, 0, 0) := rfl
theorem zk_97_31 : zc 97 31 = some (.iconst 0, 0, 0, 0, 0) := rfl
theorem zk_97_32 : zc 97 32 = some (.istore 5, 0, 0, 0, 0) := rfl
theorem zk_97_34 : zc 97 34 = some (.iload 5, 0, 0, 0, 0) := rfl
theorem zk_97_36 : zc 97 36 = some (.iconst 1, 0, 0, 0, 0) := rfl
theorem zk_97_37 : zc 97 37 = some (.aload_n 0, 0, 0, 0, 0) := rfl
theorem zk_97_38 : zc 97 38 = some (.getfield 10, 10, 0, 0, 91) := rfl
theorem zk_97_41 : zc 97 41 = some (.getfield 202, 2, 5, 0, 121) := rfl
theorem zk_97_44 : zc 97 44 = some (.ishl, 0, 0, 0, 0) := rfl
theorem zk_97_45 : zc 97 45 = some (.if_icmp .ge 95, 140, 0, 0, 0) := rfl
theorem zk_97_48 : zc 97 48 = some (.aload_n 0, 0, 0, 0, 0) := rfl
theorem zk_97_49 : zc 97 49 = some (.getfield 19, 10, 2, 0, 93) := rfl
theorem zk_97_52 : zc 97 52 = some (.aload_n 0, 0, 0, 0, 0) := rfl
theorem zk_97_53 : zc 97 53 = some (.getfield 10, 10, 0, 0, 91) := rfl
theorem zk_97_56 : zc 97 56 = some (.invokevirtual 233, 22, 0, 2, 110) := rfl
theorem zk_97_59 : zc 97 59 = some (.aload_n 0, 0, 0, 0, 0) := rfl
theorem zk_97_60 : zc 97 60 = some (.getfield 19, 10, 2, 0, 93) := rfl
theorem zk_97_63 : zc 97 63 = some (.iload 5, 0, 0, 0, 0) := rfl
theorem zk_97_65 : zc 97 65 = some (.invokevirtual 237, 20, 0, 2, 111) := rfl
theorem zk_97_68 : zc 97 68 = some (.iconst 0, 0, 0, 0, 0) := rfl
theorem zk_97_69 : zc 97 69 = some (.istore 6, 0, 0, 0, 0) := rfl
theorem zk_97_71 : zc 97 71 = some (.iload 6, 0, 0, 0, 0) := rfl
theorem zk_97_73 : zc 97 73 = some (.iload_n 1, 0, 0, 0, 0) := rfl
theorem zk_97_74 : zc 97 74 = some (.if_icmp .ge 24, 98, 0, 0, 0) := rfl
theorem zk_97_77 : zc 97 77 = some (.aload_n 0, 0, 0, 0, 0) := rfl
theorem zk_97_78 : zc 97 78 = some (.getfield 19, 10, 2, 0, 93) := rfl
theorem zk_97_81 : zc 97 81 = some (.iconst 1, 0, 0, 0, 0) := rfl
theorem zk_97_82 : zc 97 82 = some (.invokevirtual 241, 12, 0, 2, 112) := rfl
theorem zk_97_85 : zc 97 85 = some (.aload_n 0, 0, 0, 0, 0) := rfl
theorem zk_97_86 : zc 97 86 = some (.getfield 19, 10, 2, 0, 93) := rfl
theorem zk_97_89 : zc 97 89 = some (.invokevirtual 245, 13, 0, 1, 113) := rfl
theorem zk_97_92 : zc 97 92 = some (.iinc 6 1, 0, 0, 0, 0) := rfl
theorem zk_97_95 : zc 97 95 = some (.goto (-24), 71, 0, 0, 0) := rfl
theorem zk_97_98 : zc 97 98 = some (.aload_n 0, 0, 0, 0, 0) := rfl
theorem zk_97_99 : zc 97 99 = some (.getfield 19, 10, 2, 0, 93) := rfl
theorem zk_97_102 : zc 97 102 = some (.invokevirtual 248, 21, 0, 1, 114) := rfl
theorem zk_97_105 : zc 97 105 = some (.aload_n 0, 0, 0, 0, 0) := rfl
theorem zk_97_106 : zc 97 106 = some (.getfield 10, 10, 0, 0, 91) := rfl
theorem zk_97_109 : zc 97 109 = some (.invokevirtual 248, 21, 0, 1, 114) := rfl
theorem zk_97_112 : zc 97 112 = some (.isub, 0, 0, 0, 0) := rfl
theorem zk_97_113 : zc 97 113 = some (.istore 6, 0, 0, 0, 0) := rfl
theorem zk_97_115 : zc 97 115 = some (.iload 5, 0, 0, 0, 0) := rfl
theorem zk_97_117 : zc 97 117 = some (.ifCond .eq 10, 127, 0, 0, 0) := rfl
theorem zk_97_120 : zc 97 120 = some (.iload 6, 0, 0, 0, 0) := rfl
theorem zk_97_122 : zc 97 122 = some (.iload 4, 0, 0, 0, 0) := rfl
theorem zk_97_124 : zc 97 124 = some (.if_icmp .ge 10, 134, 0, 0, 0) := rfl
theorem zk_97_127 : zc 97 127 = some (.iload 6, 0, 0, 0, 0) := rfl
theorem zk_97_129 : zc 97 129 = some (.istore 4, 0, 0, 0, 0) := rfl
theorem zk_97_131 : zc 97 131 = some (.iload 5, 0, 0, 0, 0) := rfl
theorem zk_97_133 : zc 97 133 = some (.istore_n 3, 0, 0, 0, 0) := rfl
theorem zk_97_134 : zc 97 134 = some (.iinc 5 1, 0, 0, 0, 0) := rfl
theorem zk_97_137 : zc 97 137 = some (.goto (-103), 34, 0, 0, 0) := rfl
theorem zk_97_140 : zc 97 140 = some (.iload_n 2, 0, 0, 0, 0) := rfl
theorem zk_97_141 : zc 97 141 = some (.ifCond .ne 7, 148, 0, 0, 0) := rfl
theorem zk_97_144 : zc 97 144 = some (.iload_n 3, 0, 0, 0, 0) := rfl
theorem zk_97_145 : zc 97 145 = some (.goto 5, 150, 0, 0, 0) := rfl
theorem zk_97_148 : zc 97 148 = some (.iload 4, 0, 0, 0, 0) := rfl
theorem zk_97_150 : zc 97 150 = some (.ireturn, 0, 0, 0, 0) := rfl
theorem zk_98_0 : zc 98 0 = some (.iload_n 1, 0, 0, 0, 0) := rfl
theorem zk_98_1 : zc 98 1 = some (.iconst 0, 0, 0, 0, 0) := rfl
theorem zk_98_2 : zc 98 2 = some (.iconst 2, 0, 0, 0, 0) := rfl
theorem zk_98_3 : zc 98 3 = some (.invokestatic 52, 114, 1, 3, 89) := rfl
theorem zk_98_6 : zc 98 6 = some (.ifCond .eq 10, 16, 0, 0, 0) := rfl
theorem zk_98_9 : zc 98 9 = some (.iload_n 2, 0, 0, 0, 0) := rfl
theorem zk_98_10 : zc 98 10 = some (.invokestatic 44, 115, 1, 1, 87) := rfl
theorem zk_98_13 : zc 98 13 = some (.ifCond .ne 9, 22, 0, 0, 0) := rfl
theorem zk_98_16 : zc 98 16 = some (.aload_n 0, 0, 0, 0, 0) := rfl
theorem zk_98_17 : zc 98 17 = some (.iconst (-1), 0, 0, 0, 0) := rfl
theorem zk_98_18 : zc 98 18 = some (.invokevirtual 48, 113, 0, 2, 88) := rfl
theorem zk_98_21 : zc 98 21 = some (.ireturn, 0, 0, 0, 0) := rfl
theorem zk_98_22 : zc 98 22 = some (.iload_n 3, 0, 0, 0, 0) := rfl
theorem zk_98_23 : zc 98 23 = some (.iconst 0, 0, 0, 0, 0) := rfl
theorem zk_98_24 : zc 98 24 = some (.sipush 200, 0, 0, 0, 0) := rfl
theorem zk_98_27 : zc 98 27 = some (.invokestatic 52, 114, 1, 3, 89) := rfl
theorem zk_98_30 : zc 98 30 = some (.ifCond .eq 25, 55, 0, 0, 0) := rfl
theorem zk_98_33 : zc 98 33 = some (.iload 4, 0, 0, 0, 0) := rfl
theorem zk_98_35 : zc 98 35 = some (.iconst 0, 0, 0, 0, 0) := rfl
theorem zk_98_36 : zc 98 36 = some (.bipush 99, 0, 0, 0, 0) := rfl
theorem zk_98_38 : zc 98 38 = some (.invokestatic 52, 114, 1, 3, 89) := rfl
theorem zk_98_41 : zc 98 41 = some (.ifCond .eq 14, 55, 0, 0, 0) := rfl
theorem zk_98_44 : zc 98 44 = some (.iload 5, 0, 0, 0, 0) := rfl
theorem zk_98_46 : zc 98 46 = some (.iconst 0, 0, 0, 0, 0) := rfl
theorem zk_98_47 : zc 98 47 = some (.bipush 99, 0, 0, 0, 0) := rfl
theorem zk_98_49 : zc 98 49 = some (.invokestatic 52, 114, 1, 3, 89) := rfl
theorem zk_98_52 : zc 98 52 = some (.ifCond .ne 10, 62, 0, 0, 0) := rfl
theorem zk_98_55 : zc 98 55 = some (.aload_n 0, 0, 0, 0, 0) := rfl
theorem zk_98_56 : zc 98 56 = some (.bipush (-6), 0, 0, 0, 0) := rfl
theorem zk_98_58 : zc 98 58 = some (.invokevirtual 48, 113, 0, 2, 88) := rfl
theorem zk_98_61 : zc 98 61 = some (.ireturn, 0, 0, 0, 0) := rfl
theorem zk_98_62 : zc 98 62 = some (.aload_n 0, 0, 0, 0, 0) := rfl
theorem zk_98_63 : zc 98 63 = some (.getfield 10, 10, 0, 0, 91) := rfl
theorem zk_98_66 : zc 98 66 = some (.getfield 252, 2, 6, 0, 126) := rfl
theorem zk_98_69 : zc 98 69 = some (.bipush 12, 0, 0, 0, 0) := rfl
theorem zk_98_71 : zc 98 71 = some (.if_icmp .lt 10, 81, 0, 0, 0) := rfl
theorem zk_98_74 : zc 98 74 = some (.aload_n 0, 0, 0, 0, 0) := rfl
theorem zk_98_75 : zc 98 75 = some (.bipush (-7), 0, 0, 0, 0) := rfl
theorem zk_98_77 : zc 98 77 = some (.invokevirtual 48, 113, 0, 2, 88) := rfl
theorem zk_98_80 : zc 98 80 = some (.ireturn, 0, 0, 0, 0) := rfl
theorem zk_98_81 : zc 98 81 = some (.aload_n 0, 0, 0, 0, 0) := rfl
theorem zk_98_82 : zc 98 82 = some (.getfield 10, 10, 0, 0, 91) := rfl
theorem zk_98_85 : zc 98 85 = some (.getfield 158, 2, 3, 0, 113) := rfl
theorem zk_98_88 : zc 98 88 = some (.aload_n 0, 0, 0, 0, 0) := rfl
theorem zk_98_89 : zc 98 89 = some (.getfield 10, 10, 0, 0, 91) := rfl
theorem zk_98_92 : zc 98 92 = some (.getfield 252, 2, 6, 0, 126) := rfl
theorem zk_98_95 : zc 98 95 = some (.aaload, 0, 0, 0, 0) := rfl
theorem zk_98_96 : zc 98 96 = some (.astore 6, 0, 0, 0, 0) := rfl
theorem zk_98_98 : zc 98 98 = some (.aload 6, 0, 0, 0, 0) := rfl
theorem zk_98_100 : zc 98 100 = some (.iload_n 1, 0, 0, 0, 0) := rfl
theorem zk_98_101 : zc 98 101 = some (.iload_n 2, 0, 0, 0, 0) := rfl
theorem zk_98_102 : zc 98 102 = some (.iload_n 3, 0, 0, 0, 0) := rfl
theorem zk_98_103 : zc 98 103 = some (.iload 4, 0, 0, 0, 0) := rfl
theorem zk_98_105 : zc 98 105 = some (.iload 5, 0, 0, 0, 0) := rfl
theorem zk_98_107 : zc 98 107 = some (.invokevirtual 255, 24, 0, 6, 115) := rfl
theorem zk_98_110 : zc 98 110 = some (.aload_n 0, 0, 0, 0, 0) := rfl
theorem zk_98_111 : zc 98 111 = some (.getfield 10, 10, 0, 0, 91) := rfl
theorem zk_98_114 : zc 98 114 = some (.dup, 0, 0, 0, 0) := rfl
theorem zk_98_115 : zc 98 115 = some (.getfield 252, 2, 6, 0, 126) := rfl
theorem zk_98_118 : zc 98 118 = some (.iconst 1, 0, 0, 0, 0) := rfl
theorem zk_98_119 : zc 98 119 = some (.iadd, 0, 0, 0, 0) := rfl
theorem zk_98_120 : zc 98 120 = some (.putfield 252, 2, 6, 0, 126) := rfl
theorem zk_98_123 : zc 98 123 = some (.aload_n 0, 0, 0, 0, 0) := rfl
theorem zk_98_124 : zc 98 124 = some (.getfield 10, 10, 0, 0, 91) := rfl
theorem zk_98_127 : zc 98 127 = some (.getfield 252, 2, 6, 0, 126) := rfl
theorem zk_98_130 : zc 98 130 = some (.iconst 1, 0, 0, 0, 0) := rfl
theorem zk_98_131 : zc 98 131 = some (.isub, 0, 0, 0, 0) := rfl
theorem zk_98_132 : zc 98 132 = some (.ireturn, 0, 0, 0, 0) := rfl
theorem zk_99_0 : zc 99 0 = some (.aload_n 0, 0, 0, 0, 0) := rfl
theorem zk_99_1 : zc 99 1 = some (.iload_n 1, 0, 0, 0, 0) := rfl
theorem zk_99_2 : zc 99 2 = some (.invokevirtual 149, 117, 0, 2, 102) := rfl
theorem zk_99_5 : zc 99 5 = some (.ifCond .ne 9, 14, 0, 0, 0) := rfl
theorem zk_99_8 : zc 99 8 = some (.aload_n 0, 0, 0, 0, 0) := rfl
theorem zk_99_9 : zc 99 9 = some (.iconst (-1), 0, 0, 0, 0) := rfl
theorem zk_99_10 : zc 99 10 = some (.invokevirtual 48, 113, 0, 2, 88) := rfl
theorem zk_99_13 : zc 99 13 = some (.ireturn, 0, 0, 0, 0) := rfl
theorem zk_99_14 : zc 99 14 = some (.iload_n 2, 0, 0, 0, 0) := rfl
theorem zk_99_15 : zc 99 15 = some (.iconst 1, 0, 0, 0, 0) := rfl
theorem zk_99_16 : zc 99 16 = some (.bipush 50, 0, 0, 0, 0) := rfl
theorem zk_99_18 : zc 99 18 = some (.invokestatic 52, 114, 1, 3, 89) := rfl
theorem zk_99_21 : zc 99 21 = some (.ifCond .ne 10, 31, 0, 0, 0) := rfl
theorem zk_99_24 : zc 99 24 = some (.aload_n 0, 0, 0, 0, 0) := rfl
theorem zk_99_25 : zc 99 25 = some (.bipush (-6), 0, 0, 0, 0) := rfl
theorem zk_99_27 : zc 99 27 = some (.invokevirtual 48, 113, 0, 2, 88) := rfl
theorem zk_99_30 : zc 99 30 = some (.ireturn, 0, 0, 0, 0) := rfl
theorem zk_99_31 : zc 99 31 = some (.aload_n 0, 0, 0, 0, 0) := rfl
theorem zk_99_32 : zc 99 32 = some (.getfield 10, 10, 0, 0, 91) := rfl
theorem zk_99_35 : zc 99 35 = some (.getfield 158, 2, 3, 0, 113) := rfl
theorem zk_99_38 : zc 99 38 = some (.iload_n 1, 0, 0, 0, 0) := rfl
theorem zk_99_39 : zc 99 39 = some (.aaload, 0, 0, 0, 0) := rfl
theorem zk_99_40 : zc 99 40 = some (.sipush 300, 0, 0, 0, 0) := rfl
theorem zk_99_43 : zc 99 43 = some (.aload_n 0, 0, 0, 0, 0) := rfl
theorem zk_99_44 : zc 99 44 = some (.getfield 10, 10, 0, 0, 91) := rfl
theorem zk_99_47 : zc 99 47 = some (.getfield 158, 2, 3, 0, 113) := rfl
theorem zk_99_50 : zc 99 50 = some (.iload_n 1, 0, 0, 0, 0) := rfl
theorem zk_99_51 : zc 99 51 = some (.aaload, 0, 0, 0, 0) := rfl
theorem zk_99_52 : zc 99 52 = some (.getfield 259, 3, 2, 0, 127) := rfl
theorem zk_99_55 : zc 99 55 = some (.iload_n 2, 0, 0, 0, 0) := rfl
theorem zk_99_56 : zc 99 56 = some (.iadd, 0, 0, 0, 0) := rfl
theorem zk_99_57 : zc 99 57 = some (.invokestatic 89, 0, 8, 0, 92) := rfl
theorem zk_99_60 : zc 99 60 = some (.putfield 259, 3, 2, 0, 127) := rfl
theorem zk_99_63 : zc 99 63 = some (.aload_n 0, 0, 0, 0, 0) := rfl
theorem zk_99_64 : zc 99 64 = some (.getfield 10, 10, 0, 0, 91) := rfl
theorem zk_99_67 : zc 99 67 = some (.getfield 158, 2, 3, 0, 113) := rfl
theorem zk_99_70 : zc 99 70 = some (.iload_n 1, 0, 0, 0, 0) := rfl
theorem zk_99_71 : zc 99 71 = some (.aaload, 0, 0, 0, 0) := rfl
theorem zk_99_72 : zc 99 72 = some (.getfield 259, 3, 2, 0, 127) := rfl
theorem zk_99_75 : zc 99 75 = some (.ireturn, 0, 0, 0, 0) := rfl
theorem zk_100_0 : zc 100 0 = some (.aload_n 0, 0, 0, 0, 0) := rfl
theorem zk_100_1 : zc 100 1 = some (.iload_n 1, 0, 0, 0, 0) := rfl
theorem zk_100_2 : zc 100 2 = some (.invokevirtual 149, 117, 0, 2, 102) := rfl
theorem zk_100_5 : zc 100 5 = some (.ifCond .eq 19, 24, 0, 0, 0) := rfl
theorem zk_100_8 : zc 100 8 = some (.aload_n 0, 0, 0, 0, 0) := rfl
theorem zk_100_9 : zc 100 9 = some (.getfield 10, 10, 0, 0, 91) := rfl
theorem zk_100_12 : zc 100 12 = some (.getfield 158, 2, 3, 0, 113) := rfl
theorem zk_100_15 : zc 100 15 = some (.iload_n 1, 0, 0, 0, 0) := rfl
theorem zk_100_16 : zc 100 16 = some (.aaload, 0, 0, 0, 0) := rfl
theorem zk_100_17 : zc 100 17 = some (.iload_n 2, 0, 0, 0, 0) := rfl
theorem zk_100_18 : zc 100 18 = some (.invokevirtual 262, 27, 0, 2, 116) := rfl
theorem zk_100_21 : zc 100 21 = some (.goto 4, 25, 0, 0, 0) := rfl
theorem zk_100_24 : zc 100 24 = some (.iconst (-1), 0, 0, 0, 0) := rfl
theorem zk_100_25 : zc 100 25 = some (.ireturn, 0, 0, 0, 0) := rfl
theorem zk_101_0 : zc 101 0 = some (.iload_n 1, 0, 0, 0, 0) := rfl
theorem zk_101_1 : zc 101 1 = some (.invokestatic 44, 115, 1, 1, 87) := rfl
theorem zk_101_4 : zc 101 4 = some (.ifCond .ne 9, 13, 0, 0, 0) := rfl
theorem zk_101_7 : zc 101 7 = some (.aload_n 0, 0, 0, 0, 0) := rfl
theorem zk_101_8 : zc 101 8 = some (.iconst (-1), 0, 0, 0, 0) := rfl
theorem zk_101_9 : zc 101 9 = some (.invokevirtual 48, 113, 0, 2, 88) := rfl
theorem zk_101_12 : zc 101 12 = some (.ireturn, 0, 0, 0, 0) := rfl
theorem zk_101_13 : zc 101 13 = some (.iload_n 2, 0, 0, 0, 0) := rfl
theorem zk_101_14 : zc 101 14 = some (.iconst 1, 0, 0, 0, 0) := rfl
theorem zk_101_15 : zc 101 15 = some (.bipush 60, 0, 0, 0, 0) := rfl
theorem zk_101_17 : zc 101 17 = some (.invokestatic 52, 114, 1, 3, 89) := rfl
theorem zk_101_20 : zc 101 20 = some (.ifCond .eq 13, 33, 0, 0, 0) := rfl
theorem zk_101_23 : zc 101 23 = some (.iload_n 3, 0, 0, 0, 0) := rfl
theorem zk_101_24 : zc 101 24 = some (.iconst 1, 0, 0, 0, 0) := rfl
theorem zk_101_25 : zc 101 25 = some (.bipush 99, 0, 0, 0, 0) := rfl
theorem zk_101_27 : zc 101 27 = some (.invokestatic 52, 114, 1, 3, 89) := rfl
theorem zk_101_30 : zc 101 30 = some (.ifCond .ne 10, 40, 0, 0, 0) := rfl
theorem zk_101_33 : zc 101 33 = some (.aload_n 0, 0, 0, 0, 0) := rfl
theorem zk_101_34 : zc 101 34 = some (.bipush (-6), 0, 0, 0, 0) := rfl
theorem zk_101_36 : zc 101 36 = some (.invokevirtual 48, 113, 0, 2, 88) := rfl
theorem zk_101_39 : zc 101 39 = some (.ireturn, 0, 0, 0, 0) := rfl
theorem zk_101_40 : zc 101 40 = some (.iload 4, 0, 0, 0, 0) := rfl
theorem zk_101_42 : zc 101 42 = some (.iconst 1, 0, 0, 0, 0) := rfl
theorem zk_101_43 : zc 101 43 = some (.bipush 9, 0, 0, 0, 0) := rfl
theorem zk_101_45 : zc 101 45 = some (.invokestatic 52, 114, 1, 3, 89) := rfl
theorem zk_101_48 : zc 101 48 = some (.ifCond .eq 14, 62, 0, 0, 0) := rfl
theorem zk_101_51 : zc 101 51 = some (.iload 5, 0, 0, 0, 0) := rfl
theorem zk_101_53 : zc 101 53 = some (.iconst 0, 0, 0, 0, 0) := rfl
theorem zk_101_54 : zc 101 54 = some (.bipush 9, 0, 0, 0, 0) := rfl
theorem zk_101_56 : zc 101 56 = some (.invokestatic 52, 114, 1, 3, 89) := rfl
theorem zk_101_59 : zc 101 59 = some (.ifCond .ne 10, 69, 0, 0, 0) := rfl
theorem zk_101_62 : zc 101 62 = some (.aload_n 0, 0, 0, 0, 0) := rfl
theorem zk_101_63 : zc 101 63 = some (.bipush (-6), 0, 0, 0, 0) := rfl
theorem zk_101_65 : zc 101 65 = some (.invokevirtual 48, 113, 0, 2, 88) := rfl
theorem zk_101_68 : zc 101 68 = some (.ireturn, 0, 0, 0, 0) := rfl
theorem zk_101_69 : zc 101 69 = some (.aload_n 0, 0, 0, 0, 0) := rfl
theorem zk_101_70 : zc 101 70 = some (.getfield 10, 10, 0, 0, 91) := rfl
theorem zk_101_73 : zc 101 73 = some (.getfield 265, 2, 7, 0, 128) := rfl
theorem zk_101_76 : zc 101 76 = some (.bipush 6, 0, 0, 0, 0) := rfl
theorem zk_101_78 : zc 101 78 = some (.if_icmp .lt 10, 88, 0, 0, 0) := rfl
theorem zk_101_81 : zc 101 81 = some (.aload_n 0, 0, 0, 0, 0) := rfl
theorem zk_101_82 : zc 101 82 = some (.bipush (-7), 0, 0, 0, 0) := rfl
theorem zk_101_84 : zc 101 84 = some (.invokevirtual 48, 113, 0, 2, 88) := rfl
theorem zk_101_87 : zc 101 87 = some (.ireturn, 0, 0, 0, 0) := rfl
theorem zk_101_88 : zc 101 88 = some (.aload_n 0, 0, 0, 0, 0) := rfl
theorem zk_101_89 : zc 101 89 = some (.getfield 10, 10, 0, 0, 91) := rfl
theorem zk_101_92 : zc 101 92 = some (.getfield 268, 2, 4, 0, 129) := rfl
theorem zk_101_95 : zc 101 95 = some (.aload_n 0, 0, 0, 0, 0) := rfl
theorem zk_101_96 : zc 101 96 = some (.getfield 10, 10, 0, 0, 91) := rfl
theorem zk_101_99 : zc 101 99 = some (.getfield 265, 2, 7, 0, 128) := rfl
theorem zk_101_102 : zc 101 102 = some (.aaload, 0, 0, 0, 0) := rfl
theorem zk_101_103 : zc 101 103 = some (.iload_n 1, 0, 0, 0, 0) := rfl
theorem zk_101_104 : zc 101 104 = some (.iload_n 2, 0, 0, 0, 0) := rfl
theorem zk_101_105 : zc 101 105 = some (.iload_n 3, 0, 0, 0, 0) := rfl
theorem zk_101_106 : zc 101 106 = some (.iload 4, 0, 0, 0, 0) := rfl
theorem zk_101_108 : zc 101 108 = some (.iload 5, 0, 0, 0, 0) := rfl
theorem zk_101_110 : zc 101 110 = some (.invokevirtual 272, 1, 0, 6, 117) := rfl
theorem zk_101_113 : zc 101 113 = some (.aload_n 0, 0, 0, 0, 0) := rfl
theorem zk_101_114 : zc 101 114 = some (.getfield 10, 10, 0, 0, 91) := rfl
theorem zk_101_117 : zc 101 117 = some (.dup, 0, 0, 0, 0) := rfl
theorem zk_101_118 : zc 101 118 = some (.getfield 265, 2, 7, 0, 128) := rfl
theorem zk_101_121 : zc 101 121 = some (.iconst 1, 0, 0, 0, 0) := rfl
theorem zk_101_122 : zc 101 122 = some (.iadd, 0, 0, 0, 0) := rfl
theorem zk_101_123 : zc 101 123 = some (.putfield 265, 2, 7, 0, 128) := rfl
theorem zk_101_126 : zc 101 126 = some (.aload_n 0, 0, 0, 0, 0) := rfl
theorem zk_101_127 : zc 101 127 = some (.getfield 10, 10, 0, 0, 91) := rfl
theorem zk_101_130 : zc 101 130 = some (.getfield 265, 2, 7, 0, 128) := rfl
theorem zk_101_133 : zc 101 133 = some (.iconst 1, 0, 0, 0, 0) := rfl
theorem zk_101_134 : zc 101 134 = some (.isub, 0, 0, 0, 0) := rfl
theorem zk_101_135 : zc 101 135 = some (.ireturn, 0, 0, 0, 0) := rfl
theorem zk_102_0 : zc 102 0 = some (.aload_n 0, 0, 0, 0, 0) := rfl
theorem zk_102_1 : zc 102 1 = some (.iload_n 1, 0, 0, 0, 0) := rfl
theorem zk_102_2 : zc 102 2 = some (.invokevirtual 277, 118, 0, 2, 118) := rfl
theorem zk_102_5 : zc 102 5 = some (.ifCond .eq 15, 20, 0, 0, 0) := rfl
theorem zk_102_8 : zc 102 8 = some (.iload_n 2, 0, 0, 0, 0) := rfl
theorem zk_102_9 : zc 102 9 = some (.iconst (-1), 0, 0, 0, 0) := rfl
theorem zk_102_10 : zc 102 10 = some (.if_icmp .eq 16, 26, 0, 0, 0) := rfl
theorem zk_102_13 : zc 102 13 = some (.iload_n 2, 0, 0, 0, 0) := rfl
theorem zk_102_14 : zc 102 14 = some (.invokestatic 44, 115, 1, 1, 87) := rfl
theorem zk_102_17 : zc 102 17 = some (.ifCond .ne 9, 26, 0, 0, 0) := rfl
theorem zk_102_20 : zc 102 20 = some (.aload_n 0, 0, 0, 0, 0) := rfl
theorem zk_102_21 : zc 102 21 = some (.iconst (-1), 0, 0, 0, 0) := rfl
theorem zk_102_22 : zc 102 22 = some (.invokevirtual 48, 113, 0, 2, 88) := rfl
theorem zk_102_25 : zc 102 25 = some (.ireturn, 0, 0, 0, 0) := rfl
theorem zk_102_26 : zc 102 26 = some (.aload_n 0, 0, 0, 0, 0) := rfl
theorem zk_102_27 : zc 102 27 = some (.getfield 10, 10, 0, 0, 91) := rfl
theorem zk_102_30 : zc 102 30 = some (.getfield 268, 2, 4, 0, 129) := rfl
theorem zk_102_33 : zc 102 33 = some (.iload_n 1, 0, 0, 0, 0) := rfl
theorem zk_102_34 : zc 102 34 = some (.aaload, 0, 0, 0, 0) := rfl
theorem zk_102_35 : zc 102 35 = some (.getfield 280, 0, 5, 0, 130) := rfl
theorem zk_102_38 : zc 102 38 = some (.istore_n 3, 0, 0, 0, 0) := rfl
theorem zk_102_39 : zc 102 39 = some (.aload_n 0, 0, 0, 0, 0) := rfl
theorem zk_102_40 : zc 102 40 = some (.getfield 10, 10, 0, 0, 91) := rfl
theorem zk_102_43 : zc 102 43 = some (.getfield 268, 2, 4, 0, 129) := rfl
theorem zk_102_46 : zc 102 46 = some (.iload_n 1, 0, 0, 0, 0) := rfl
theorem zk_102_47 : zc 102 47 = some (.aaload, 0, 0, 0, 0) := rfl
theorem zk_102_48 : zc 102 48 = some (.iload_n 2, 0, 0, 0, 0) := rfl
theorem zk_102_49 : zc 102 49 = some (.aload_n 0, 0, 0, 0, 0) := rfl
theorem zk_102_50 : zc 102 50 = some (.getfield 10, 10, 0, 0, 91) := rfl
theorem zk_102_53 : zc 102 53 = some (.getfield 268, 2, 4, 0, 129) := rfl
theorem zk_102_56 : zc 102 56 = some (.iload_n 1, 0, 0, 0, 0) := rfl
theorem zk_102_57 : zc 102 57 = some (.aaload, 0, 0, 0, 0) := rfl
theorem zk_102_58 : zc 102 58 = some (.getfield 283, 0, 0, 0, 131) := rfl
theorem zk_102_61 : zc 102 61 = some (.if_icmp .ne 7, 68, 0, 0, 0) := rfl
theorem zk_102_64 : zc 102 64 = some (.iconst (-1), 0, 0, 0, 0) := rfl
theorem zk_102_65 : zc 102 65 = some (.goto 4, 69, 0, 0, 0) := rfl
theorem zk_102_68 : zc 102 68 = some (.iload_n 2, 0, 0, 0, 0) := rfl
theorem zk_102_69 : zc 102 69 = some (.putfield 280, 0, 5, 0, 130) := rfl
theorem zk_102_72 : zc 102 72 = some (.iload_n 3, 0, 0, 0, 0) := rfl
theorem zk_102_73 : zc 102 73 = some (.ireturn, 0, 0, 0, 0) := rfl
theorem zk_103_0 : zc 103 0 = some (.aload_n 0, 0, 0, 0, 0) := rfl
theorem zk_103_1 : zc 103 1 = some (.iload_n 1, 0, 0, 0, 0) := rfl
theorem zk_103_2 : zc 103 2 = some (.invokevirtual 277, 118, 0, 2, 118) := rfl
theorem zk_103_5 : zc 103 5 = some (.ifCond .eq 22, 27, 0, 0, 0) := rfl
theorem zk_103_8 : zc 103 8 = some (.aload_n 0, 0, 0, 0, 0) := rfl
theorem zk_103_9 : zc 103 9 = some (.getfield 10, 10, 0, 0, 91) := rfl
theorem zk_103_12 : zc 103 12 = some (.aload_n 0, 0, 0, 0, 0) := rfl
theorem zk_103_13 : zc 103 13 = some (.getfield 10, 10, 0, 0, 91) := rfl
theorem zk_103_16 : zc 103 16 = some (.getfield 268, 2, 4, 0, 129) := rfl
theorem zk_103_19 : zc 103 19 = some (.iload_n 1, 0, 0, 0, 0) := rfl
theorem zk_103_20 : zc 103 20 = some (.aaload, 0, 0, 0, 0) := rfl
theorem zk_103_21 : zc 103 21 = some (.invokevirtual 286, 17, 0, 2, 119) := rfl
theorem zk_103_24 : zc 103 24 = some (.goto 4, 28, 0, 0, 0) := rfl
theorem zk_103_27 : zc 103 27 = some (.iconst (-1), 0, 0, 0, 0) := rfl
theorem zk_103_28 : zc 103 28 = some (.ireturn, 0, 0, 0, 0) := rfl
theorem zk_104_0 : zc 104 0 = some (.aload_n 0, 0, 0, 0, 0) := rfl
theorem zk_104_1 : zc 104 1 = some (.iload_n 1, 0, 0, 0, 0) := rfl
theorem zk_104_2 : zc 104 2 = some (.invokevirtual 277, 118, 0, 2, 118) := rfl
theorem zk_104_5 : zc 104 5 = some (.ifCond .eq 10, 15, 0, 0, 0) := rfl
theorem zk_104_8 : zc 104 8 = some (.iload_n 2, 0, 0, 0, 0) := rfl
theorem zk_104_9 : zc 104 9 = some (.invokestatic 44, 115, 1, 1, 87) := rfl
theorem zk_104_12 : zc 104 12 = some (.ifCond .ne 5, 17, 0, 0, 0) := rfl
theorem zk_104_15 : zc 104 15 = some (.iconst (-1), 0, 0, 0, 0) := rfl
theorem zk_104_16 : zc 104 16 = some (.ireturn, 0, 0, 0, 0) := rfl
theorem zk_104_17 : zc 104 17 = some (.iload_n 3, 0, 0, 0, 0) := rfl
theorem zk_104_18 : zc 104 18 = some (.iconst 1, 0, 0, 0, 0) := rfl
theorem zk_104_19 : zc 104 19 = some (.bipush 96, 0, 0, 0, 0) := rfl
theorem zk_104_21 : zc 104 21 = some (.invokestatic 52, 114, 1, 3, 89) := rfl
theorem zk_104_24 : zc 104 24 = some (.ifCond .ne 10, 34, 0, 0, 0) := rfl
theorem zk_104_27 : zc 104 27 = some (.aload_n 0, 0, 0, 0, 0) := rfl
theorem zk_104_28 : zc 104 28 = some (.bipush (-6), 0, 0, 0, 0) := rfl
theorem zk_104_30 : zc 104 30 = some (.invokevirtual 48, 113, 0, 2, 88) := rfl
theorem zk_104_33 : zc 104 33 = some (.ireturn, 0, 0, 0, 0) := rfl
theorem zk_104_34 : zc 104 34 = some (.aload_n 0, 0, 0, 0, 0) := rfl
theorem zk_104_35 : zc 104 35 = some (.getfield 10, 10, 0, 0, 91) := rfl
theorem zk_104_38 : zc 104 38 = some (.getfield 268, 2, 4, 0, 129) := rfl
theorem zk_104_41 : zc 104 41 = some (.iload_n 1, 0, 0, 0, 0) := rfl
theorem zk_104_42 : zc 104 42 = some (.aaload, 0, 0, 0, 0) := rfl
theorem zk_104_43 : zc 104 43 = some (.astore 4, 0, 0, 0, 0) := rfl
theorem zk_104_45 : zc 104 45 = some (.aload 4, 0, 0, 0, 0) := rfl
theorem zk_104_47 : zc 104 47 = some (.getfield 283, 0, 0, 0, 131) := rfl
theorem zk_104_50 : zc 104 50 = some (.iload_n 2, 0, 0, 0, 0) := rfl
theorem zk_104_51 : zc 104 51 = some (.if_icmp .ne 5, 56, 0, 0, 0) := rfl
theorem zk_104_54 : zc 104 54 = some (.iconst 0, 0, 0, 0, 0) := rfl
theorem zk_104_55 : zc 104 55 = some (.ireturn, 0, 0, 0, 0) := rfl
theorem zk_104_56 : zc 104 56 = some (.aload_n 0, 0, 0, 0, 0) := rfl
theorem zk_104_57 : zc 104 57 = some (.getfield 19, 10, 2, 0, 93) := rfl
theorem zk_104_60 : zc 104 60 = some (.aload_n 0, 0, 0, 0, 0) := rfl
theorem zk_104_61 : zc 104 61 = some (.getfield 10, 10, 0, 0, 91) := rfl
theorem zk_104_64 : zc 104 64 = some (.invokevirtual 233, 22, 0, 2, 110) := rfl
theorem zk_104_67 : zc 104 67 = some (.iconst 1, 0, 0, 0, 0) := rfl
theorem zk_104_68 : zc 104 68 = some (.aload 4, 0, 0, 0, 0) := rfl
theorem zk_104_70 : zc 104 70 = some (.getfield 283, 0, 0, 0, 131) := rfl
theorem zk_104_73 : zc 104 73 = some (.ishl, 0, 0, 0, 0) := rfl
theorem zk_104_74 : zc 104 74 = some (.istore 5, 0, 0, 0, 0) := rfl
theorem zk_104_76 : zc 104 76 = some (.iconst 1, 0, 0, 0, 0) := rfl
theorem zk_104_77 : zc 104 77 = some (.istore 6, 0, 0, 0, 0) := rfl
theorem zk_104_79 : zc 104 79 = some (.iload 6, 0, 0, 0, 0) := rfl
theorem zk_104_81 : zc 104 81 = some (.iload_n 3, 0, 0, 0, 0) := rfl
theorem zk_104_82 : zc 104 82 = some (.if_icmp .gt 70, 152, 0, 0, 0) := rfl
theorem zk_104_85 : zc 104 85 = some (.aload_n 0, 0, 0, 0, 0) := rfl
theorem zk_104_86 : zc 104 86 = some (.getfield 19, 10, 2, 0, 93) := rfl
theorem zk_104_89 : zc 104 89 = some (.iconst 1, 0, 0, 0, 0) := rfl
theorem zk_104_90 : zc 104 90 = some (.invokevirtual 241, 12, 0, 2, 112) := rfl
theorem zk_104_93 : zc 104 93 = some (.aload_n 0, 0, 0, 0, 0) := rfl
theorem zk_104_94 : zc 104 94 = some (.getfield 19, 10, 2, 0, 93) := rfl
theorem zk_104_97 : zc 104 97 = some (.getfield 290, 2, 17, 0, 132) := rfl
theorem zk_104_100 : zc 104 100 = some (.aload_n 0, 0, 0, 0, 0) := rfl
theorem zk_104_101 : zc 104 101 = some (.getfield 19, 10, 2, 0, 93) := rfl
theorem zk_104_104 : zc 104 104 = some (.getfield 56, 2, 0, 0, 98) := rfl
theorem zk_104_107 : zc 104 107 = some (.aload 4, 0, 0, 0, 0) := rfl
theorem zk_104_109 : zc 104 109 = some (.invokevirtual 294, 5, 0, 3, 120) := rfl
theorem zk_104_112 : zc 104 112 = some (.aload_n 0, 0, 0, 0, 0) := rfl
theorem zk_104_113 : zc 104 113 = some (.getfield 19, 10, 2, 0, 93) := rfl
theorem zk_104_116 : zc 104 116 = some (.getfield 290, 2, 17, 0, 132) := rfl
theorem zk_104_119 : zc 104 119 = some (.iload 5, 0, 0, 0, 0) := rfl
theorem zk_104_121 : zc 104 121 = some (.invokevirtual 300, 6, 0, 2, 121) := rfl
theorem zk_104_124 : zc 104 124 = some (.istore 5, 0, 0, 0, 0) := rfl
theorem zk_104_126 : zc 104 126 = some (.iload 5, 0, 0, 0, 0) := rfl
theorem zk_104_128 : zc 104 128 = some (.iload_n 2, 0, 0, 0, 0) := rfl
theorem zk_104_129 : zc 104 129 = some (.ishr, 0, 0, 0, 0) := rfl
theorem zk_104_130 : zc 104 130 = some (.iconst 1, 0, 0, 0, 0) := rfl
theorem zk_104_131 : zc 104 131 = some (.iand, 0, 0, 0, 0) := rfl
theorem zk_104_132 : zc 104 132 = some (.iconst 1, 0, 0, 0, 0) := rfl
theorem zk_104_133 : zc 104 133 = some (.if_icmp .ne 6, 139, 0, 0, 0) := rfl
theorem zk_104_136 : zc 104 136 = some (.iload 6, 0, 0, 0, 0) := rfl
theorem zk_104_138 : zc 104 138 = some (.ireturn, 0, 0, 0, 0) := rfl
theorem zk_104_139 : zc 104 139 = some (.aload_n 0, 0, 0, 0, 0) := rfl
theorem zk_104_140 : zc 104 140 = some (.getfield 19, 10, 2, 0, 93) := rfl
theorem zk_104_143 : zc 104 143 = some (.invokevirtual 245, 13, 0, 1, 113) := rfl
theorem zk_104_146 : zc 104 146 = some (.iinc 6 1, 0, 0, 0, 0) := rfl
theorem zk_104_149 : zc 104 149 = some (.goto (-70), 79, 0, 0, 0) := rfl
theorem zk_104_152 : zc 104 152 = some (.iconst (-1), 0, 0, 0, 0) := rfl
theorem zk_104_153 : zc 104 153 = some (.ireturn, 0, 0, 0, 0) := rfl
theorem zk_105_0 : zc 105 0 = some (.aload_n 0, 0, 0, 0, 0) := rfl
theorem zk_105_1 : zc 105 1 = some (.iload_n 1, 0, 0, 0, 0) := rfl
theorem zk_105_2 : zc 105 2 = some (.invokevirtual 277, 118, 0, 2, 118) := rfl
theorem zk_105_5 : zc 105 5 = some (.ifCond .eq 19, 24, 0, 0, 0) := rfl
theorem zk_105_8 : zc 105 8 = some (.aload_n 0, 0, 0, 0, 0) := rfl
theorem zk_105_9 : zc 105 9 = some (.getfield 10, 10, 0, 0, 91) := rfl
theorem zk_105_12 : zc 105 12 = some (.getfield 268, 2, 4, 0, 129) := rfl
theorem zk_105_15 : zc 105 15 = some (.iload_n 1, 0, 0, 0, 0) := rfl
theorem zk_105_16 : zc 105 16 = some (.aaload, 0, 0, 0, 0) := rfl
theorem zk_105_17 : zc 105 17 = some (.iload_n 2, 0, 0, 0, 0) := rfl
theorem zk_105_18 : zc 105 18 = some (.invokevirtual 303, 2, 0, 2, 122) := rfl
theorem zk_105_21 : zc 105 21 = some (.goto 4, 25, 0, 0, 0) := rfl
theorem zk_105_24 : zc 105 24 = some (.iconst (-1), 0, 0, 0, 0) := rfl
theorem zk_105_25 : zc 105 25 = some (.ireturn, 0, 0, 0, 0) := rfl
theorem zk_106_0 : zc 106 0 = some (.iload_n 1, 0, 0, 0, 0) := rfl
theorem zk_106_1 : zc 106 1 = some (.iconst 1, 0, 0, 0, 0) := rfl
theorem zk_106_2 : zc 106 2 = some (.sipush 200, 0, 0, 0, 0) := rfl
theorem zk_106_5 : zc 106 5 = some (.invokestatic 52, 114, 1, 3, 89) := rfl
theorem zk_106_8 : zc 106 8 = some (.ifCond .ne 10, 18, 0, 0, 0) := rfl
theorem zk_106_11 : zc 106 11 = some (.aload_n 0, 0, 0, 0, 0) := rfl
theorem zk_106_12 : zc 106 12 = some (.bipush (-6), 0, 0, 0, 0) := rfl
theorem zk_106_14 : zc 106 14 = some (.invokevirtual 48, 113, 0, 2, 88) := rfl
theorem zk_106_17 : zc 106 17 = some (.ireturn, 0, 0, 0, 0) := rfl
theorem zk_106_18 : zc 106 18 = some (.aload_n 0, 0, 0, 0, 0) := rfl
theorem zk_106_19 : zc 106 19 = some (.getfield 10, 10, 0, 0, 91) := rfl
theorem zk_106_22 : zc 106 22 = some (.getfield 304, 2, 13, 0, 133) := rfl
theorem zk_106_25 : zc 106 25 = some (.iload_n 1, 0, 0, 0, 0) := rfl
theorem zk_106_26 : zc 106 26 = some (.iadd, 0, 0, 0, 0) := rfl
theorem zk_106_27 : zc 106 27 = some (.sipush 20000, 0, 0, 0, 0) := rfl
theorem zk_106_30 : zc 106 30 = some (.if_icmp .le 10, 40, 0, 0, 0) := rfl
theorem zk_106_33 : zc 106 33 = some (.aload_n 0, 0, 0, 0, 0) := rfl
theorem zk_106_34 : zc 106 34 = some (.bipush (-7), 0, 0, 0, 0) := rfl
theorem zk_106_36 : zc 106 36 = some (.invokevirtual 48, 113, 0, 2, 88) := rfl
theorem zk_106_39 : zc 106 39 = some (.ireturn, 0, 0, 0, 0) := rfl
theorem zk_106_40 : zc 106 40 = some (.iconst 0, 0, 0, 0, 0) := rfl
theorem zk_106_41 : zc 106 41 = some (.istore_n 2, 0, 0, 0, 0) := rfl
theorem zk_106_42 : zc 106 42 = some (.iload_n 2, 0, 0, 0, 0) := rfl
theorem zk_106_43 : zc 106 43 = some (.iload_n 1, 0, 0, 0, 0) := rfl
theorem zk_106_44 : zc 106 44 = some (.if_icmp .ge 24, 68, 0, 0, 0) := rfl
theorem zk_106_47 : zc 106 47 = some (.aload_n 0, 0, 0, 0, 0) := rfl
theorem zk_106_48 : zc 106 48 = some (.getfield 10, 10, 0, 0, 91) := rfl
theorem zk_106_51 : zc 106 51 = some (.iconst 0, 0, 0, 0, 0) := rfl
theorem zk_106_52 : zc 106 52 = some (.invokevirtual 241, 12, 0, 2, 112) := rfl
theorem zk_106_55 : zc 106 55 = some (.aload_n 0, 0, 0, 0, 0) := rfl
theorem zk_106_56 : zc 106 56 = some (.getfield 10, 10, 0, 0, 91) := rfl
theorem zk_106_59 : zc 106 59 = some (.invokevirtual 245, 13, 0, 1, 113) := rfl
theorem zk_106_62 : zc 106 62 = some (.iinc 2 1, 0, 0, 0, 0) := rfl
theorem zk_106_65 : zc 106 65 = some (.goto (-23), 42, 0, 0, 0) := rfl
theorem zk_106_68 : zc 106 68 = some (.aload_n 0, 0, 0, 0, 0) := rfl
theorem zk_106_69 : zc 106 69 = some (.getfield 10, 10, 0, 0, 91) := rfl
theorem zk_106_72 : zc 106 72 = some (.getfield 304, 2, 13, 0, 133) := rfl
theorem zk_106_75 : zc 106 75 = some (.ireturn, 0, 0, 0, 0) := rfl
theorem zk_107_0 : zc 107 0 = some (.iload_n 1, 0, 0, 0, 0) := rfl
theorem zk_107_1 : zc 107 1 = some (.invokestatic 44, 115, 1, 1, 87) := rfl
theorem zk_107_4 : zc 107 4 = some (.ifCond .eq 14, 18, 0, 0, 0) := rfl
theorem zk_107_7 : zc 107 7 = some (.iload_n 2, 0, 0, 0, 0) := rfl
theorem zk_107_8 : zc 107 8 = some (.iconst 0, 0, 0, 0, 0) := rfl
theorem zk_107_9 : zc 107 9 = some (.sipush 200, 0, 0, 0, 0) := rfl
theorem zk_107_12 : zc 107 12 = some (.invokestatic 52, 114, 1, 3, 89) := rfl
theorem zk_107_15 : zc 107 15 = some (.ifCond .ne 7, 22, 0, 0, 0) := rfl
theorem zk_107_18 : zc 107 18 = some (.sipush 1000, 0, 0, 0, 0) := rfl
theorem zk_107_21 : zc 107 21 = some (.ireturn, 0, 0, 0, 0) := rfl
theorem zk_107_22 : zc 107 22 = some (.aload_n 0, 0, 0, 0, 0) := rfl
theorem zk_107_23 : zc 107 23 = some (.getfield 19, 10, 2, 0, 93) := rfl
theorem zk_107_26 : zc 107 26 = some (.aload_n 0, 0, 0, 0, 0) := rfl
theorem zk_107_27 : zc 107 27 = some (.getfield 10, 10, 0, 0, 91) := rfl
theorem zk_107_30 : zc 107 30 = some (.invokevirtual 233, 22, 0, 2, 110) := rfl
theorem zk_107_33 : zc 107 33 = some (.iconst 0, 0, 0, 0, 0) := rfl
theorem zk_107_34 : zc 107 34 = some (.istore_n 3, 0, 0, 0, 0) := rfl
theorem zk_107_35 : zc 107 35 = some (.iload_n 3, 0, 0, 0, 0) := rfl
theorem zk_107_36 : zc 107 36 = some (.iload_n 2, 0, 0, 0, 0) := rfl
theorem zk_107_37 : zc 107 37 = some (.if_icmp .ge 24, 61, 0, 0, 0) := rfl
theorem zk_107_40 : zc 107 40 = some (.aload_n 0, 0, 0, 0, 0) := rfl
theorem zk_107_41 : zc 107 41 = some (.getfield 19, 10, 2, 0, 93) := rfl
theorem zk_107_44 : zc 107 44 = some (.iconst 1, 0, 0, 0, 0) := rfl
theorem zk_107_45 : zc 107 45 = some (.invokevirtual 241, 12, 0, 2, 112) := rfl
theorem zk_107_48 : zc 107 48 = some (.aload_n 0, 0, 0, 0, 0) := rfl
theorem zk_107_49 : zc 107 49 = some (.getfield 19, 10, 2, 0, 93) := rfl
theorem zk_107_52 : zc 107 52 = some (.invokevirtual 245, 13, 0, 1, 113) := rfl
theorem zk_107_55 : zc 107 55 = some (.iinc 3 1, 0, 0, 0, 0) := rfl
theorem zk_107_58 : zc 107 58 = some (.goto (-23), 35, 0, 0, 0) := rfl
theorem zk_107_61 : zc 107 61 = some (.aload_n 0, 0, 0, 0, 0) := rfl
theorem zk_107_62 : zc 107 62 = some (.getfield 19, 10, 2, 0, 93) := rfl
theorem zk_107_65 : zc 107 65 = some (.getfield 56, 2, 0, 0, 98) := rfl
theorem zk_107_68 : zc 107 68 = some (.getfield 65, 4, 1, 0, 100) := rfl
theorem zk_107_71 : zc 107 71 = some (.iload_n 1, 0, 0, 0, 0) := rfl
theorem zk_107_72 : zc 107 72 = some (.iaload, 0, 0, 0, 0) := rfl
theorem zk_107_73 : zc 107 73 = some (.ireturn, 0, 0, 0, 0) := rfl
theorem zk_108_0 : zc 108 0 = some (.aload_n 0, 0, 0, 0, 0) := rfl
theorem zk_108_1 : zc 108 1 = some (.getfield 16, 10, 1, 0, 92) := rfl
theorem zk_108_4 : zc 108 4 = some (.aload_n 0, 0, 0, 0, 0) := rfl
theorem zk_108_5 : zc 108 5 = some (.getfield 10, 10, 0, 0, 91) := rfl
theorem zk_108_8 : zc 108 8 = some (.invokevirtual 233, 22, 0, 2, 110) := rfl
theorem zk_108_11 : zc 108 11 = some (.aload_n 0, 0, 0, 0, 0) := rfl
theorem zk_108_12 : zc 108 12 = some (.iconst 1, 0, 0, 0, 0) := rfl
theorem zk_108_13 : zc 108 13 = some (.putfield 307, 10, 3, 0, 134) := rfl
theorem zk_108_16 : zc 108 16 = some (.aload_n 0, 0, 0, 0, 0) := rfl
theorem zk_108_17 : zc 108 17 = some (.getfield 10, 10, 0, 0, 91) := rfl
theorem zk_108_20 : zc 108 20 = some (.getfield 304, 2, 13, 0, 133) := rfl
theorem zk_108_23 : zc 108 23 = some (.ireturn, 0, 0, 0, 0) := rfl
theorem zk_109_0 : zc 109 0 = some (.aload_n 0, 0, 0, 0, 0) := rfl
theorem zk_109_1 : zc 109 1 = some (.getfield 307, 10, 3, 0, 134) := rfl
theorem zk_109_4 : zc 109 4 = some (.ifCond .ne 10, 14, 0, 0, 0) := rfl
theorem zk_109_7 : zc 109 7 = some (.aload_n 0, 0, 0, 0, 0) := rfl
theorem zk_109_8 : zc 109 8 = some (.bipush (-6), 0, 0, 0, 0) := rfl
theorem zk_109_10 : zc 109 10 = some (.invokevirtual 48, 113, 0, 2, 88) := rfl
theorem zk_109_13 : zc 109 13 = some (.ireturn, 0, 0, 0, 0) := rfl
theorem zk_109_14 : zc 109 14 = some (.aload_n 0, 0, 0, 0, 0) := rfl
theorem zk_109_15 : zc 109 15 = some (.getfield 10, 10, 0, 0, 91) := rfl
theorem zk_109_18 : zc 109 18 = some (.aload_n 0, 0, 0, 0, 0) := rfl
theorem zk_109_19 : zc 109 19 = some (.getfield 16, 10, 1, 0, 92) := rfl
theorem zk_109_22 : zc 109 22 = some (.invokevirtual 233, 22, 0, 2, 110) := rfl
theorem zk_109_25 : zc 109 25 = some (.iconst 0, 0, 0, 0, 0) := rfl
theorem zk_109_26 : zc 109 26 = some (.istore_n 1, 0, 0, 0, 0) := rfl
theorem zk_109_27 : zc 109 27 = some (.iload_n 1, 0, 0, 0, 0) := rfl
theorem zk_109_28 : zc 109 28 = some (.bipush 8, 0, 0, 0, 0) := rfl
theorem zk_109_30 : zc 109 30 = some (.if_icmp .ge 48, 78, 0, 0, 0) := rfl
theorem zk_109_33 : zc 109 33 = some (.aload_n 0, 0, 0, 0, 0) := rfl
theorem zk_109_34 : zc 109 34 = some (.getfield 24, 10, 4, 0, 94) := rfl
theorem zk_109_37 : zc 109 37 = some (.iload_n 1, 0, 0, 0, 0) := rfl
theorem zk_109_38 : zc 109 38 = some (.aaload, 0, 0, 0, 0) := rfl
theorem zk_109_39 : zc 109 39 = some (.getfield 146, 8, 0, 0, 110) := rfl
theorem zk_109_42 : zc 109 42 = some (.iconst 2, 0, 0, 0, 0) := rfl
theorem zk_109_43 : zc 109 43 = some (.if_icmp .ne 29, 72, 0, 0, 0) := rfl
theorem zk_109_46 : zc 109 46 = some (.aload_n 0, 0, 0, 0, 0) := rfl
theorem zk_109_47 : zc 109 47 = some (.aload_n 0, 0, 0, 0, 0) := rfl
theorem zk_109_48 : zc 109 48 = some (.getfield 24, 10, 4, 0, 94) := rfl
theorem zk_109_51 : zc 109 51 = some (.iload_n 1, 0, 0, 0, 0) := rfl
theorem zk_109_52 : zc 109 52 = some (.aaload, 0, 0, 0, 0) := rfl
theorem zk_109_53 : zc 109 53 = some (.getfield 152, 8, 3, 0, 111) := rfl
theorem zk_109_56 : zc 109 56 = some (.invokevirtual 149, 117, 0, 2, 102) := rfl
theorem zk_109_59 : zc 109 59 = some (.ifCond .ne 13, 72, 0, 0, 0) := rfl
theorem zk_109_62 : zc 109 62 = some (.aload_n 0, 0, 0, 0, 0) := rfl
theorem zk_109_63 : zc 109 63 = some (.getfield 24, 10, 4, 0, 94) := rfl
theorem zk_109_66 : zc 109 66 = some (.iload_n 1, 0, 0, 0, 0) := rfl
theorem zk_109_67 : zc 109 67 = some (.aaload, 0, 0, 0, 0) := rfl
theorem zk_109_68 : zc 109 68 = some (.iconst 0, 0, 0, 0, 0) := rfl
theorem zk_109_69 : zc 109 69 = some (.putfield 146, 8, 0, 0, 110) := rfl
theorem zk_109_72 : zc 109 72 = some (.iinc 1 1, 0, 0, 0, 0) := rfl
theorem zk_109_75 : zc 109 75 = some (.goto (-48), 27, 0, 0, 0) := rfl
theorem zk_109_78 : zc 109 78 = some (.aload_n 0, 0, 0, 0, 0) := rfl
theorem zk_109_79 : zc 109 79 = some (.getfield 10, 10, 0, 0, 91) := rfl
theorem zk_109_82 : zc 109 82 = some (.getfield 304, 2, 13, 0, 133) := rfl
theorem zk_109_85 : zc 109 85 = some (.ireturn, 0, 0, 0, 0) := rfl
theorem zk_110_0 : zc 110 0 = some (.iload_n 1, 0, 0, 0, 0) := rfl
theorem zk_110_1 : zc 110 1 = some (.invokestatic 44, 115, 1, 1, 87) := rfl
theorem zk_110_4 : zc 110 4 = some (.ifCond .ne 7, 11, 0, 0, 0) := rfl
theorem zk_110_7 : zc 110 7 = some (.ldc_w 310, 0, 0, 1000000, 0) := rfl
theorem zk_110_10 : zc 110 10 = some (.ireturn, 0, 0, 0, 0) := rfl
theorem zk_110_11 : zc 110 11 = some (.iload_n 2, 0, 0, 0, 0) := rfl
theorem zk_110_12 : zc 110 12 = some (.tableswitch 100 0 4 #[36, 49, 62, 75, 88], 0, 0, 0, 0) := rfl
theorem zk_110_48 : zc 110 48 = some (.aload_n 0, 0, 0, 0, 0) := rfl
theorem zk_110_49 : zc 110 49 = some (.getfield 10, 10, 0, 0, 91) := rfl
theorem zk_110_52 : zc 110 52 = some (.getfield 56, 2, 0, 0, 98) := rfl
theorem zk_110_55 : zc 110 55 = some (.getfield 60, 4, 0, 0, 99) := rfl
theorem zk_110_58 : zc 110 58 = some (.iload_n 1, 0, 0, 0, 0) := rfl
theorem zk_110_59 : zc 110 59 = some (.iaload, 0, 0, 0, 0) := rfl
theorem zk_110_60 : zc 110 60 = some (.ireturn, 0, 0, 0, 0) := rfl
theorem zk_110_61 : zc 110 61 = some (.aload_n 0, 0, 0, 0, 0) := rfl
theorem zk_110_62 : zc 110 62 = some (.getfield 10, 10, 0, 0, 91) := rfl
theorem zk_110_65 : zc 110 65 = some (.getfield 56, 2, 0, 0, 98) := rfl
theorem zk_110_68 : zc 110 68 = some (.getfield 65, 4, 1, 0, 100) := rfl
theorem zk_110_71 : zc 110 71 = some (.iload_n 1, 0, 0, 0, 0) := rfl
theorem zk_110_72 : zc 110 72 = some (.iaload, 0, 0, 0, 0) := rfl
theorem zk_110_73 : zc 110 73 = some (.ireturn, 0, 0, 0, 0) := rfl
theorem zk_110_74 : zc 110 74 = some (.aload_n 0, 0, 0, 0, 0) := rfl
theorem zk_110_75 : zc 110 75 = some (.getfield 10, 10, 0, 0, 91) := rfl
theorem zk_110_78 : zc 110 78 = some (.getfield 56, 2, 0, 0, 98) := rfl
theorem zk_110_81 : zc 110 81 = some (.getfield 311, 4, 2, 0, 135) := rfl
theorem zk_110_84 : zc 110 84 = some (.iload_n 1, 0, 0, 0, 0) := rfl
theorem zk_110_85 : zc 110 85 = some (.iaload, 0, 0, 0, 0) := rfl
theorem zk_110_86 : zc 110 86 = some (.ireturn, 0, 0, 0, 0) := rfl
theorem zk_110_87 : zc 110 87 = some (.aload_n 0, 0, 0, 0, 0) := rfl
theorem zk_110_88 : zc 110 88 = some (.getfield 10, 10, 0, 0, 91) := rfl
theorem zk_110_91 : zc 110 91 = some (.getfield 56, 2, 0, 0, 98) := rfl
theorem zk_110_94 : zc 110 94 = some (.getfield 314, 4, 3, 0, 136) := rfl
theorem zk_110_97 : zc 110 97 = some (.iload_n 1, 0, 0, 0, 0) := rfl
theorem zk_110_98 : zc 110 98 = some (.iaload, 0, 0, 0, 0) := rfl
theorem zk_110_99 : zc 110 99 = some (.ireturn, 0, 0, 0, 0) := rfl
theorem zk_110_100 : zc 110 100 = some (.aload_n 0, 0, 0, 0, 0) := rfl
theorem zk_110_101 : zc 110 101 = some (.getfield 10, 10, 0, 0, 91) := rfl
theorem zk_110_104 : zc 110 104 = some (.getfield 94, 2, 1, 0, 105) := rfl
theorem zk_110_107 : zc 110 107 = some (.iload_n 1, 0, 0, 0, 0) := rfl
theorem zk_110_108 : zc 110 108 = some (.invokevirtual 98, 62, 0, 2, 93) := rfl
theorem zk_110_111 : zc 110 111 = some (.ireturn, 0, 0, 0, 0) := rfl
theorem zk_110_112 : zc 110 112 = some (.ldc_w 310, 0, 0, 1000000, 0) := rfl
theorem zk_110_115 : zc 110 115 = some (.ireturn, 0, 0, 0, 0) := rfl
theorem zk_111_0 : zc 111 0 = some (.iload_n 1, 0, 0, 0, 0) := rfl
theorem zk_111_1 : zc 111 1 = some (.iload_n 2, 0, 0, 0, 0) := rfl
theorem zk_111_2 : zc 111 2 = some (.invokestatic 71, 30, 1, 2, 90) := rfl
theorem zk_111_5 : zc 111 5 = some (.istore 4, 0, 0, 0, 0) := rfl
theorem zk_111_7 : zc 111 7 = some (.iload 4, 0, 0, 0, 0) := rfl
theorem zk_111_9 : zc 111 9 = some (.iconst (-1), 0, 0, 0, 0) := rfl
theorem zk_111_10 : zc 111 10 = some (.if_icmp .ne 5, 15, 0, 0, 0) := rfl
theorem zk_111_13 : zc 111 13 = some (.iconst (-1), 0, 0, 0, 0) := rfl
theorem zk_111_14 : zc 111 14 = some (.ireturn, 0, 0, 0, 0) := rfl
theorem zk_111_15 : zc 111 15 = some (.iload_n 3, 0, 0, 0, 0) := rfl
theorem zk_111_16 : zc 111 16 = some (.tableswitch 86 0 2 #[28, 50, 72], 0, 0, 0, 0) := rfl
theorem zk_111_44 : zc 111 44 = some (.aload_n 0, 0, 0, 0, 0) := rfl
theorem zk_111_45 : zc 111 45 = some (.getfield 10, 10, 0, 0, 91) := rfl
theorem zk_111_48 : zc 111 48 = some (.getfield 56, 2, 0, 0, 98) := rfl
theorem zk_111_51 : zc 111 51 = some (.getfield 75, 4, 5, 0, 102) := rfl
theorem zk_111_54 : zc 111 54 = some (.iload 4, 0, 0, 0, 0) := rfl
theorem zk_111_56 : zc 111 56 = some (.baload, 0, 0, 0, 0) := rfl
theorem zk_111_57 : zc 111 57 = some (.ifCond .eq 7, 64, 0, 0, 0) := rfl
theorem zk_111_60 : zc 111 60 = some (.iconst 1, 0, 0, 0, 0) := rfl
theorem zk_111_61 : zc 111 61 = some (.goto 4, 65, 0, 0, 0) := rfl
theorem zk_111_64 : zc 111 64 = some (.iconst 0, 0, 0, 0, 0) := rfl
theorem zk_111_65 : zc 111 65 = some (.ireturn, 0, 0, 0, 0) := rfl
theorem zk_111_66 : zc 111 66 = some (.aload_n 0, 0, 0, 0, 0) := rfl
theorem zk_111_67 : zc 111 67 = some (.getfield 10, 10, 0, 0, 91) := rfl
theorem zk_111_70 : zc 111 70 = some (.getfield 56, 2, 0, 0, 98) := rfl
theorem zk_111_73 : zc 111 73 = some (.getfield 83, 4, 6, 0, 103) := rfl
theorem zk_111_76 : zc 111 76 = some (.iload 4, 0, 0, 0, 0) := rfl
theorem zk_111_78 : zc 111 78 = some (.baload, 0, 0, 0, 0) := rfl
theorem zk_111_79 : zc 111 79 = some (.ifCond .eq 7, 86, 0, 0, 0) := rfl
theorem zk_111_82 : zc 111 82 = some (.iconst 1, 0, 0, 0, 0) := rfl
theorem zk_111_83 : zc 111 83 = some (.goto 4, 87, 0, 0, 0) := rfl
theorem zk_111_86 : zc 111 86 = some (.iconst 0, 0, 0, 0, 0) := rfl
theorem zk_111_87 : zc 111 87 = some (.ireturn, 0, 0, 0, 0) := rfl
theorem zk_111_88 : zc 111 88 = some (.aload_n 0, 0, 0, 0, 0) := rfl
theorem zk_111_89 : zc 111 89 = some (.getfield 10, 10, 0, 0, 91) := rfl
theorem zk_111_92 : zc 111 92 = some (.getfield 56, 2, 0, 0, 98) := rfl
theorem zk_111_95 : zc 111 95 = some (.getfield 86, 4, 4, 0, 104) := rfl
theorem zk_111_98 : zc 111 98 = some (.iload 4, 0, 0, 0, 0) := rfl
theorem zk_111_100 : zc 111 100 = some (.iaload, 0, 0, 0, 0) := rfl
theorem zk_111_101 : zc 111 101 = some (.ireturn, 0, 0, 0, 0) := rfl
theorem zk_111_102 : zc 111 102 = some (.iconst (-1), 0, 0, 0, 0) := rfl
theorem zk_111_103 : zc 111 103 = some (.ireturn, 0, 0, 0, 0) := rfl
theorem zk_112_0 : zc 112 0 = some (.iload_n 1, 0, 0, 0, 0) := rfl
theorem zk_112_1 : zc 112 1 = some (.tableswitch 196 0 18 #[91, 102, 113, 121, 129, 137, 145, 153, 161, 169, 177, 196, 196, 196, 196, 196, 196, 196, 188], 0, 0, 0, 0) := rfl
theorem zk_112_92 : zc 112 92 = some (.aload_n 0, 0, 0, 0, 0) := rfl
theorem zk_112_93 : zc 112 93 = some (.getfield 10, 10, 0, 0, 91) := rfl
theorem zk_112_96 : zc 112 96 = some (.getfield 94, 2, 1, 0, 105) := rfl
theorem zk_112_99 : zc 112 99 = some (.getfield 103, 7, 0, 0, 106) := rfl
theorem zk_112_102 : zc 112 102 = some (.ireturn, 0, 0, 0, 0) := rfl
theorem zk_112_103 : zc 112 103 = some (.aload_n 0, 0, 0, 0, 0) := rfl
theorem zk_112_104 : zc 112 104 = some (.getfield 10, 10, 0, 0, 91) := rfl
theorem zk_112_107 : zc 112 107 = some (.getfield 94, 2, 1, 0, 105) := rfl
theorem zk_112_110 : zc 112 110 = some (.invokevirtual 317, 63, 0, 1, 123) := rfl
theorem zk_112_113 : zc 112 113 = some (.ireturn, 0, 0, 0, 0) := rfl
theorem zk_112_114 : zc 112 114 = some (.aload_n 0, 0, 0, 0, 0) := rfl
theorem zk_112_115 : zc 112 115 = some (.getfield 10, 10, 0, 0, 91) := rfl
theorem zk_112_118 : zc 112 118 = some (.getfield 202, 2, 5, 0, 121) := rfl
theorem zk_112_121 : zc 112 121 = some (.ireturn, 0, 0, 0, 0) := rfl
theorem zk_112_122 : zc 112 122 = some (.aload_n 0, 0, 0, 0, 0) := rfl
theorem zk_112_123 : zc 112 123 = some (.getfield 10, 10, 0, 0, 91) := rfl
theorem zk_112_126 : zc 112 126 = some (.invokevirtual 320, 19, 0, 1, 124) := rfl
theorem zk_112_129 : zc 112 129 = some (.ireturn, 0, 0, 0, 0) := rfl
theorem zk_112_130 : zc 112 130 = some (.aload_n 0, 0, 0, 0, 0) := rfl
theorem zk_112_131 : zc 112 131 = some (.getfield 10, 10, 0, 0, 91) := rfl
theorem zk_112_134 : zc 112 134 = some (.getfield 252, 2, 6, 0, 126) := rfl
theorem zk_112_137 : zc 112 137 = some (.ireturn, 0, 0, 0, 0) := rfl
theorem zk_112_138 : zc 112 138 = some (.aload_n 0, 0, 0, 0, 0) := rfl
theorem zk_112_139 : zc 112 139 = some (.getfield 10, 10, 0, 0, 91) := rfl
theorem zk_112_142 : zc 112 142 = some (.getfield 265, 2, 7, 0, 128) := rfl
theorem zk_112_145 : zc 112 145 = some (.ireturn, 0, 0, 0, 0) := rfl
theorem zk_112_146 : zc 112 146 = some (.aload_n 0, 0, 0, 0, 0) := rfl
theorem zk_112_147 : zc 112 147 = some (.getfield 10, 10, 0, 0, 91) := rfl
theorem zk_112_150 : zc 112 150 = some (.invokevirtual 323, 18, 0, 1, 125) := rfl
theorem zk_112_153 : zc 112 153 = some (.ireturn, 0, 0, 0, 0) := rfl
theorem zk_112_154 : zc 112 154 = some (.aload_n 0, 0, 0, 0, 0) := rfl
theorem zk_112_155 : zc 112 155 = some (.getfield 10, 10, 0, 0, 91) := rfl
theorem zk_112_158 : zc 112 158 = some (.getfield 304, 2, 13, 0, 133) := rfl
theorem zk_112_161 : zc 112 161 = some (.ireturn, 0, 0, 0, 0) := rfl
theorem zk_112_162 : zc 112 162 = some (.aload_n 0, 0, 0, 0, 0) := rfl
theorem zk_112_163 : zc 112 163 = some (.getfield 10, 10, 0, 0, 91) := rfl
theorem zk_112_166 : zc 112 166 = some (.getfield 326, 2, 14, 0, 137) := rfl
theorem zk_112_169 : zc 112 169 = some (.ireturn, 0, 0, 0, 0) := rfl
theorem zk_112_170 : zc 112 170 = some (.aload_n 0, 0, 0, 0, 0) := rfl
theorem zk_112_171 : zc 112 171 = some (.getfield 10, 10, 0, 0, 91) := rfl
theorem zk_112_174 : zc 112 174 = some (.getfield 329, 2, 15, 0, 138) := rfl
theorem zk_112_177 : zc 112 177 = some (.ireturn, 0, 0, 0, 0) := rfl
theorem zk_112_178 : zc 112 178 = some (.aload_n 0, 0, 0, 0, 0) := rfl
theorem zk_112_179 : zc 112 179 = some (.getfield 10, 10, 0, 0, 91) := rfl
theorem zk_112_182 : zc 112 182 = some (.getfield 56, 2, 0, 0, 98) := rfl
theorem zk_112_185 : zc 112 185 = some (.invokevirtual 332, 34, 0, 1, 126) := rfl
theorem zk_112_188 : zc 112 188 = some (.ireturn, 0, 0, 0, 0) := rfl
theorem zk_112_189 : zc 112 189 = some (.aload_n 0, 0, 0, 0, 0) := rfl
theorem zk_112_190 : zc 112 190 = some (.getfield 10, 10, 0, 0, 91) := rfl
theorem zk_112_193 : zc 112 193 = some (.getfield 68, 2, 16, 0, 101) := rfl
theorem zk_112_196 : zc 112 196 = some (.ireturn, 0, 0, 0, 0) := rfl
theorem zk_112_197 : zc 112 197 = some (.iload_n 1, 0, 0, 0, 0) := rfl
theorem zk_112_198 : zc 112 198 = some (.bipush 11, 0, 0, 0, 0) := rfl
theorem zk_112_200 : zc 112 200 = some (.bipush 17, 0, 0, 0, 0) := rfl
theorem zk_112_202 : zc 112 202 = some (.invokestatic 52, 114, 1, 3, 89) := rfl
theorem zk_112_205 : zc 112 205 = some (.ifCond .eq 15, 220, 0, 0, 0) := rfl
theorem zk_112_208 : zc 112 208 = some (.aload_n 0, 0, 0, 0, 0) := rfl
theorem zk_112_209 : zc 112 209 = some (.getfield 28, 10, 5, 0, 95) := rfl
theorem zk_112_212 : zc 112 212 = some (.iload_n 1, 0, 0, 0, 0) := rfl
theorem zk_112_213 : zc 112 213 = some (.bipush 10, 0, 0, 0, 0) := rfl
theorem zk_112_215 : zc 112 215 = some (.isub, 0, 0, 0, 0) := rfl
theorem zk_112_216 : zc 112 216 = some (.iaload, 0, 0, 0, 0) := rfl
theorem zk_112_217 : zc 112 217 = some (.goto 6, 223, 0, 0, 0) := rfl
theorem zk_112_220 : zc 112 220 = some (.ldc_w 335, 0, 0, -1000001, 1) := rfl
theorem zk_112_223 : zc 112 223 = some (.ireturn, 0, 0, 0, 0) := rfl
theorem sb56_dd03e80 : ∀ t i k j, MI 0 28 28 28 28 t i k j → MYr 2 t i k j := by
  intro t i k j h
  unfold MI at h
  unfold MYr
  omega
theorem sb56_b124c78 : ∀ t i k j, MY 2 t i k j → MYr 2 t i k j := by
  intro t i k j h
  unfold MY at h
  unfold MYr
  omega
theorem sb56_ee950d1 : ∀ t i k j, MI 2 23 23 23 23 t i k j → MYr 2 t i k j := by
  intro t i k j h
  unfold MI at h
  unfold MYr
  omega
theorem sb56_ce9295f : ∀ t i k j, ML 2 t i k j → MYr 2 t i k j := by
  intro t i k j h
  unfold ML at h
  unfold MYr
  omega
/-- W.best -/
theorem w_97 {xs : Nat × (Nat → Int32)} (p0 : Int) (p1 : Int) (hp0 : -2147483648 ≤ p0 ∧ p0 ≤ 2147483647) (hp1 : -2147483648 ≤ p1 ∧ p1 ≤ 2147483647) (σ : ZS) (hI : Inv σ)   : CT xs 8 97 [av 0 0 0, iv p0, iv p1] σ (fun v σ' => ∃ y, v = some (iv y) ∧ (-2147483648 ≤ y ∧ y ≤ 2147483647) ∧ IF (MYr 2) σ σ' ∧ (True)) := by
  refine G_ct (J := (fun σ' => IF (MYr 2) σ σ' ∧ True)) (L := [(0, av 0 0 0), (1, iv p0), (2, iv p1)]) (nL := 7) rfl rfl rfl ⟨IF.rf hI, trivial⟩ ?_
  refine T_ld zk_97_0 rfl rfl rfl (pc' := 1) rfl ?_
  refine T_op zk_97_1 rfl X_ic (pc' := 2) rfl ?_
  refine T_op zk_97_2 rfl (X_bi (v := 48) (by decide)) (pc' := 4) rfl ?_
  refine T_calli (K := fun y1 σ' => ((y1 = 0 ∧ (p0 < 1 ∨ 48 < p0)) ∨ (y1 = 1 ∧ 1 ≤ p0 ∧ p0 ≤ 48)) ∧ (fun σ' => IF (MYr 2) σ σ' ∧ True) σ') (r := []) zk_97_4 rfl rfl rfl rfl rfl rfl (Or.inl (Or.inl rfl)) (fun σ' h => (w_114 p0 1 48 (by omega) (by omega) (by omega) σ' h.1.1 ).le (Nat.le_of_ble_eq_true rfl) (fun v σ2 ⟨y, h1, h2, h3, h4⟩ => ⟨y, h1, h2, h.1.tr h3 MN_sub, trivial⟩)) (pc' := 7) rfl (fun y1 => ?_)
  refine G_ex (fun hy1 => ?_)
  refine T_if_eq zk_97_7 (by omega) (pc' := 10) rfl (fun h2 => ?_) (fun h3 => ?_)
  ·
    refine T_ld zk_97_19 rfl rfl rfl (pc' := 20) rfl ?_
    refine T_op zk_97_20 rfl (X_bi (v := -6) (by decide)) (pc' := 22) rfl ?_
    refine T_calli (K := fun y4 σ' => (y4 = (-6)) ∧ (fun σ' => IF (MYr 2) σ σ' ∧ True) σ') (r := []) zk_97_22 rfl rfl rfl rfl rfl rfl (Or.inr ⟨_, _, _, _, rfl, vd_0, rfl⟩) (fun σ' h => (w_113 ((-6)) (by omega) σ' h.1.1 ).le (Nat.le_of_ble_eq_true rfl) (fun v σ2 ⟨y, h1, h2, h3, h4⟩ => ⟨y, h1, h2, h.1.tr h3 sb56_dd03e80, trivial⟩)) (pc' := 25) rfl (fun y4 => ?_)
    refine G_ex (fun hy4 => ?_)
    obtain rfl : y4 = (-6) := by omega
    exact T_iret zk_97_25 rfl (fun σ' h => ⟨_, rfl, (by omega), h.1, trivial⟩)
  ·
    refine T_ld zk_97_10 rfl rfl rfl (pc' := 11) rfl ?_
    refine T_op zk_97_11 rfl X_ic (pc' := 12) rfl ?_
    refine T_op zk_97_12 rfl X_ic (pc' := 13) rfl ?_
    refine T_calli (K := fun y5 σ' => ((y5 = 0 ∧ (p1 < 0 ∨ 1 < p1)) ∨ (y5 = 1 ∧ 0 ≤ p1 ∧ p1 ≤ 1)) ∧ (fun σ' => IF (MYr 2) σ σ' ∧ True) σ') (r := []) zk_97_13 rfl rfl rfl rfl rfl rfl (Or.inl (Or.inl rfl)) (fun σ' h => (w_114 p1 0 1 (by omega) (by omega) (by omega) σ' h.1.1 ).le (Nat.le_of_ble_eq_true rfl) (fun v σ2 ⟨y, h1, h2, h3, h4⟩ => ⟨y, h1, h2, h.1.tr h3 MN_sub, trivial⟩)) (pc' := 16) rfl (fun y5 => ?_)
    refine G_ex (fun hy5 => ?_)
    refine T_if_ne zk_97_16 (by omega) (pc' := 19) rfl (fun h6 => ?_) (fun h7 => ?_)
    ·
      refine T_op zk_97_26 rfl X_ic (pc' := 27) rfl ?_
      refine T_st (L' := [(0, av 0 0 0), (1, iv p0), (2, iv p1), (3, iv 0)]) zk_97_27 (nL := 7) rfl rfl rfl rfl rfl (pc' := 28) rfl ?_
      refine T_op zk_97_28 rfl X_ic (pc' := 29) rfl ?_
      refine T_st (L' := [(0, av 0 0 0), (1, iv p0), (2, iv p1), (3, iv 0), (4, iv 0)]) zk_97_29 (nL := 7) rfl rfl rfl rfl rfl (pc' := 31) rfl ?_
      refine T_op zk_97_31 rfl X_ic (pc' := 32) rfl ?_
      refine T_st (L' := [(0, av 0 0 0), (1, iv p0), (2, iv p1), (3, iv 0), (4, iv 0), (5, iv 0)]) zk_97_32 (nL := 7) rfl rfl rfl rfl rfl (pc' := 34) rfl ?_
      refine T_loop3 (fun x8 x9 x10 => ((2147483647 - x10 : Int)).toNat) (fun x8 x9 x10 => (-2147483648 ≤ x8 ∧ x8 ≤ 2147483647) ∧ (-2147483648 ≤ x9 ∧ x9 ≤ 2147483647) ∧ (0 ≤ x10 ∧ x10 ≤ 2147483647)) (fun x8 x9 x10 => TJ xs (fun σ' => IF (MYr 2) σ σ' ∧ True) 7 97 34 [(0, av 0 0 0), (1, iv p0), (2, iv p1), (3, iv x8), (4, iv x9), (5, iv x10)] [] _) ?_ 0 0 0 (by omega)
      intro x8 x9 x10 hp12 ih11
      refine T_ld zk_97_34 rfl rfl rfl (pc' := 36) rfl ?_
      refine T_op zk_97_36 rfl X_ic (pc' := 37) rfl ?_
      refine T_ld zk_97_37 rfl rfl rfl (pc' := 38) rfl ?_
      refine T_getR (t' := 1) (i' := 0) (k' := 0) zk_97_38 rfl rfl rfl vd_0 (pc' := 41) rfl ?_
      refine G_getf (lo := 0) (hi := 5) zk_97_41 rfl (vd_1 (by omega)) (fun σ' h => h.1.1) (fun _ h => h.2.1 (by omega) (by omega)) (pc' := 44) rfl (fun y13 hy13 hy13' => ?_)
      refine G_unk zk_97_44 rfl (pc' := 45) rfl (fun y14 hy14 hy14' => ?_)
      refine T_icmp_ge zk_97_45 (by omega) (by omega) (pc' := 48) rfl (fun h15 => ?_) (fun h16 => ?_)
      ·
        refine T_ld zk_97_140 rfl rfl rfl (pc' := 141) rfl ?_
        refine T_if_ne zk_97_141 (by omega) (pc' := 144) rfl (fun h17 => ?_) (fun h18 => ?_)
        ·
          refine T_ld zk_97_148 rfl rfl rfl (pc' := 150) rfl ?_
          exact T_iret zk_97_150 rfl (fun σ' h => ⟨_, rfl, (by omega), h.1, trivial⟩)
        ·
          refine T_ld zk_97_144 rfl rfl rfl (pc' := 145) rfl ?_
          refine T_goto zk_97_145 ?_
          exact T_iret zk_97_150 rfl (fun σ' h => ⟨_, rfl, (by omega), h.1, trivial⟩)
      ·
        refine T_ld zk_97_48 rfl rfl rfl (pc' := 49) rfl ?_
        refine T_getR (t' := 1) (i' := 2) (k' := 0) zk_97_49 rfl rfl rfl vd_0 (pc' := 52) rfl ?_
        refine T_ld zk_97_52 rfl rfl rfl (pc' := 53) rfl ?_
        refine T_getR (t' := 1) (i' := 0) (k' := 0) zk_97_53 rfl rfl rfl vd_0 (pc' := 56) rfl ?_
        refine T_callv (J' := (fun σ' => IF (MYr 2) σ σ' ∧ True)) (r := []) zk_97_56 rfl rfl rfl rfl rfl rfl (Or.inr ⟨_, _, _, _, rfl, (vd_1 (by omega)), rfl⟩) (fun σ' h => (w_22 2 0 (by omega) (by omega) σ' h.1.1 ).le (Nat.le_of_ble_eq_true rfl) (fun v σ2 ⟨h1, h3, h4⟩ => ⟨h1, h.1.tr h3 sb56_b124c78, trivial⟩)) (pc' := 59) rfl ?_
        refine T_ld zk_97_59 rfl rfl rfl (pc' := 60) rfl ?_
        refine T_getR (t' := 1) (i' := 2) (k' := 0) zk_97_60 rfl rfl rfl vd_0 (pc' := 63) rfl ?_
        refine T_ld zk_97_63 rfl rfl rfl (pc' := 65) rfl ?_
        refine T_callv (J' := (fun σ' => IF (MYr 2) σ σ' ∧ True)) (r := []) zk_97_65 rfl rfl rfl rfl rfl rfl (Or.inr ⟨_, _, _, _, rfl, (vd_1 (by omega)), rfl⟩) (fun σ' h => (w_20 2 x10 (by omega) (by omega) σ' h.1.1 ).le (Nat.le_of_ble_eq_true rfl) (fun v σ2 ⟨h1, h3, h4⟩ => ⟨h1, h.1.tr h3 sb56_ee950d1, trivial⟩)) (pc' := 68) rfl ?_
        refine T_op zk_97_68 rfl X_ic (pc' := 69) rfl ?_
        refine T_st (L' := [(0, av 0 0 0), (1, iv p0), (2, iv p1), (3, iv x8), (4, iv x9), (5, iv x10), (6, iv 0)]) zk_97_69 (nL := 7) rfl rfl rfl rfl rfl (pc' := 71) rfl ?_
        refine T_loop1 (fun x21 => ((48 - x21 : Int)).toNat) (fun x21 => (0 ≤ x21 ∧ x21 ≤ 48)) (fun x21 => TJ xs (fun σ' => IF (MYr 2) σ σ' ∧ True) 7 97 71 [(0, av 0 0 0), (1, iv p0), (2, iv p1), (3, iv x8), (4, iv x9), (5, iv x10), (6, iv x21)] [] _) ?_ 0 (by omega)
        intro x21 hp23 ih22
        refine T_ld zk_97_71 rfl rfl rfl (pc' := 73) rfl ?_
        refine T_ld zk_97_73 rfl rfl rfl (pc' := 74) rfl ?_
        refine T_icmp_ge zk_97_74 (by omega) (by omega) (pc' := 77) rfl (fun h24 => ?_) (fun h25 => ?_)
        ·
          refine T_ld zk_97_98 rfl rfl rfl (pc' := 99) rfl ?_
          refine T_getR (t' := 1) (i' := 2) (k' := 0) zk_97_99 rfl rfl rfl vd_0 (pc' := 102) rfl ?_
          refine T_calli (K := fun y26 σ' => (-2147483648 ≤ y26 ∧ y26 ≤ 2147483647) ∧ (fun σ' => IF (MYr 2) σ σ' ∧ True) σ') (r := []) zk_97_102 rfl rfl rfl rfl rfl rfl (Or.inr ⟨_, _, _, _, rfl, (vd_1 (by omega)), rfl⟩) (fun σ' h => (w_21 2 (by omega) σ' h.1.1 ).le (Nat.le_of_ble_eq_true rfl) (fun v σ2 ⟨y, h1, h2, h3, h4⟩ => ⟨y, h1, h2, h.1.tr h3 MN_sub, trivial⟩)) (pc' := 105) rfl (fun y26 => ?_)
          refine G_ex (fun hy26 => ?_)
          refine T_ld zk_97_105 rfl rfl rfl (pc' := 106) rfl ?_
          refine T_getR (t' := 1) (i' := 0) (k' := 0) zk_97_106 rfl rfl rfl vd_0 (pc' := 109) rfl ?_
          refine T_calli (K := fun y27 σ' => (-2147483648 ≤ y27 ∧ y27 ≤ 2147483647) ∧ (fun σ' => IF (MYr 2) σ σ' ∧ True) σ') (r := [iv y26]) zk_97_109 rfl rfl rfl rfl rfl rfl (Or.inr ⟨_, _, _, _, rfl, (vd_1 (by omega)), rfl⟩) (fun σ' h => (w_21 0 (by omega) σ' h.1.1 ).le (Nat.le_of_ble_eq_true rfl) (fun v σ2 ⟨y, h1, h2, h3, h4⟩ => ⟨y, h1, h2, h.1.tr h3 MN_sub, trivial⟩)) (pc' := 112) rfl (fun y27 => ?_)
          refine G_ex (fun hy27 => ?_)
          refine G_unk zk_97_112 rfl (pc' := 113) rfl (fun y28 hy28 hy28' => ?_)
          refine T_st (L' := [(0, av 0 0 0), (1, iv p0), (2, iv p1), (3, iv x8), (4, iv x9), (5, iv x10), (6, iv y28)]) zk_97_113 (nL := 7) rfl rfl rfl rfl rfl (pc' := 115) rfl ?_
          refine T_ld zk_97_115 rfl rfl rfl (pc' := 117) rfl ?_
          refine T_if_eq zk_97_117 (by omega) (pc' := 120) rfl (fun h29 => ?_) (fun h30 => ?_)
          ·
            refine T_ld zk_97_127 rfl rfl rfl (pc' := 129) rfl ?_
            refine T_st (L' := [(0, av 0 0 0), (1, iv p0), (2, iv p1), (3, iv x8), (4, iv y28), (5, iv x10), (6, iv y28)]) zk_97_129 (nL := 7) rfl rfl rfl rfl rfl (pc' := 131) rfl ?_
            refine T_ld zk_97_131 rfl rfl rfl (pc' := 133) rfl ?_
            refine T_st (L' := [(0, av 0 0 0), (1, iv p0), (2, iv p1), (3, iv x10), (4, iv y28), (5, iv x10), (6, iv y28)]) zk_97_133 (nL := 7) rfl rfl rfl rfl rfl (pc' := 134) rfl ?_
            refine T_iinc (L' := [(0, av 0 0 0), (1, iv p0), (2, iv p1), (3, iv x10), (4, iv y28), (5, iv (x10 + 1)), (6, iv y28)]) zk_97_134 (nL := 7) rfl rfl rfl rfl (pc' := 137) rfl ?_
            refine T_goto zk_97_137 ?_
            refine T_loc (L := [(0, av 0 0 0), (1, iv p0), (2, iv p1), (3, iv x10), (4, iv y28), (5, iv (x10 + 1))]) (E := [(6, iv y28)]) rfl ?_
            exact ih11 x10 y28 (x10 + 1) (by omega) (by omega)
          ·
            refine T_ld zk_97_120 rfl rfl rfl (pc' := 122) rfl ?_
            refine T_ld zk_97_122 rfl rfl rfl (pc' := 124) rfl ?_
            refine T_icmp_ge zk_97_124 (by omega) (by omega) (pc' := 127) rfl (fun h31 => ?_) (fun h32 => ?_)
            ·
              refine T_iinc (L' := [(0, av 0 0 0), (1, iv p0), (2, iv p1), (3, iv x8), (4, iv x9), (5, iv (x10 + 1)), (6, iv y28)]) zk_97_134 (nL := 7) rfl rfl rfl rfl (pc' := 137) rfl ?_
              refine T_goto zk_97_137 ?_
              refine T_loc (L := [(0, av 0 0 0), (1, iv p0), (2, iv p1), (3, iv x8), (4, iv x9), (5, iv (x10 + 1))]) (E := [(6, iv y28)]) rfl ?_
              exact ih11 x8 x9 (x10 + 1) (by omega) (by omega)
            ·
              refine T_ld zk_97_127 rfl rfl rfl (pc' := 129) rfl ?_
              refine T_st (L' := [(0, av 0 0 0), (1, iv p0), (2, iv p1), (3, iv x8), (4, iv y28), (5, iv x10), (6, iv y28)]) zk_97_129 (nL := 7) rfl rfl rfl rfl rfl (pc' := 131) rfl ?_
              refine T_ld zk_97_131 rfl rfl rfl (pc' := 133) rfl ?_
              refine T_st (L' := [(0, av 0 0 0), (1, iv p0), (2, iv p1), (3, iv x10), (4, iv y28), (5, iv x10), (6, iv y28)]) zk_97_133 (nL := 7) rfl rfl rfl rfl rfl (pc' := 134) rfl ?_
              refine T_iinc (L' := [(0, av 0 0 0), (1, iv p0), (2, iv p1), (3, iv x10), (4, iv y28), (5, iv (x10 + 1)), (6, iv y28)]) zk_97_134 (nL := 7) rfl rfl rfl rfl (pc' := 137) rfl ?_
              refine T_goto zk_97_137 ?_
              refine T_loc (L := [(0, av 0 0 0), (1, iv p0), (2, iv p1), (3, iv x10), (4, iv y28), (5, iv (x10 + 1))]) (E := [(6, iv y28)]) rfl ?_
              exact ih11 x10 y28 (x10 + 1) (by omega) (by omega)
        ·
          refine T_ld zk_97_77 rfl rfl rfl (pc' := 78) rfl ?_
          refine T_getR (t' := 1) (i' := 2) (k' := 0) zk_97_78 rfl rfl rfl vd_0 (pc' := 81) rfl ?_
          refine T_op zk_97_81 rfl X_ic (pc' := 82) rfl ?_
          refine T_callv (J' := (fun σ' => IF (MYr 2) σ σ' ∧ True)) (r := []) zk_97_82 rfl rfl rfl rfl rfl rfl (Or.inr ⟨_, _, _, _, rfl, (vd_1 (by omega)), rfl⟩) (fun σ' h => (w_12 2 1 (by omega) (by omega) σ' h.1.1 ).le (Nat.le_of_ble_eq_true rfl) (fun v σ2 ⟨h1, h3, h4⟩ => ⟨h1, h.1.tr h3 sb56_ce9295f, trivial⟩)) (pc' := 85) rfl ?_
          refine T_ld zk_97_85 rfl rfl rfl (pc' := 86) rfl ?_
          refine T_getR (t' := 1) (i' := 2) (k' := 0) zk_97_86 rfl rfl rfl vd_0 (pc' := 89) rfl ?_
          refine T_callv (J' := (fun σ' => IF (MYr 2) σ σ' ∧ True)) (r := []) zk_97_89 rfl rfl rfl rfl rfl rfl (Or.inr ⟨_, _, _, _, rfl, (vd_1 (by omega)), rfl⟩) (fun σ' h => (w_13 2 (by omega) σ' h.1.1 ).le (Nat.le_of_ble_eq_true rfl) (fun v σ2 ⟨h1, h3, h4⟩ => ⟨h1, h.1.tr h3 sb56_ce9295f, trivial⟩)) (pc' := 92) rfl ?_
          refine T_iinc (L' := [(0, av 0 0 0), (1, iv p0), (2, iv p1), (3, iv x8), (4, iv x9), (5, iv x10), (6, iv (x21 + 1))]) zk_97_92 (nL := 7) rfl rfl rfl rfl (pc' := 95) rfl ?_
          refine T_goto zk_97_95 ?_
          exact ih22 (x21 + 1) (by omega) (by omega)
    ·
      refine T_ld zk_97_19 rfl rfl rfl (pc' := 20) rfl ?_
      refine T_op zk_97_20 rfl (X_bi (v := -6) (by decide)) (pc' := 22) rfl ?_
      refine T_calli (K := fun y35 σ' => (y35 = (-6)) ∧ (fun σ' => IF (MYr 2) σ σ' ∧ True) σ') (r := []) zk_97_22 rfl rfl rfl rfl rfl rfl (Or.inr ⟨_, _, _, _, rfl, vd_0, rfl⟩) (fun σ' h => (w_113 ((-6)) (by omega) σ' h.1.1 ).le (Nat.le_of_ble_eq_true rfl) (fun v σ2 ⟨y, h1, h2, h3, h4⟩ => ⟨y, h1, h2, h.1.tr h3 sb56_dd03e80, trivial⟩)) (pc' := 25) rfl (fun y35 => ?_)
      refine G_ex (fun hy35 => ?_)
      obtain rfl : y35 = (-6) := by omega
      exact T_iret zk_97_25 rfl (fun σ' h => ⟨_, rfl, (by omega), h.1, trivial⟩)
theorem sb56_42dc7be : ∀ t i k j, MI 0 28 28 28 28 t i k j → MC 6 7 25 t i k j := by
  intro t i k j h
  unfold MI at h
  unfold MC
  omega
theorem sb56_cf6fa6c : ∀ t i k j, MI 0 25 25 25 25 t i k j → MC 6 7 25 t i k j := by
  intro t i k j h
  unfold MI at h
  unfold MC
  omega
theorem sb56_a27a080 : ∀ t i k j, MI 0 28 28 28 28 t i k j → MI 0 25 28 28 28 t i k j := by
  intro t i k j h
  unfold MI at h
  unfold MI
  omega
/-- W.raise -/
theorem w_99 {xs : Nat × (Nat → Int32)} (p0 : Int) (p1 : Int) (hp0 : -2147483648 ≤ p0 ∧ p0 ≤ 2147483647) (hp1 : -2147483648 ≤ p1 ∧ p1 ≤ 2147483647) (σ : ZS) (hI : Inv σ)   : CT xs 3 99 [av 0 0 0, iv p0, iv p1] σ (fun v σ' => ∃ y, v = some (iv y) ∧ (-2147483648 ≤ y ∧ y ≤ 2147483647) ∧ IF (MI 0 25 28 28 28) σ σ' ∧ (True)) := by
  refine G_ct (J := (fun σ' => IF (MI 0 25 28 28 28) σ σ' ∧ True)) (L := [(0, av 0 0 0), (1, iv p0), (2, iv p1)]) (nL := 3) rfl rfl rfl ⟨IF.rf hI, trivial⟩ ?_
  refine T_ld zk_99_0 rfl rfl rfl (pc' := 1) rfl ?_
  refine T_ld zk_99_1 rfl rfl rfl (pc' := 2) rfl ?_
  refine G_learn (t := 1) (i := 0) (k := 0) (j := 6) (lo := 0) (hi := 12) (J2 := fun y1 => (fun σ' => IF (MI 0 25 28 28 28) σ σ' ∧ σ' 1 0 0 6 = y1 ∧ True)) (vd_1 (by omega)) (fun σ' h => h.1.1) (fun _ h => h.2.2.1 (by omega) (by omega)) (fun σ' y h hy => ⟨h.1, hy, trivial⟩) (fun y1 hy1 hy1' => ?_)
  refine T_calli (K := fun y2 σ' => ((y2 = 0 ∧ (p0 < 0 ∨ y1 ≤ p0)) ∨ (y2 = 1 ∧ 0 ≤ p0 ∧ p0 < y1)) ∧ (fun σ' => IF (MI 0 25 28 28 28) σ σ' ∧ σ' 1 0 0 6 = y1 ∧ True) σ') (r := []) zk_99_2 rfl rfl rfl rfl rfl rfl (Or.inr ⟨_, _, _, _, rfl, vd_0, rfl⟩) (fun σ' h => (w_117 p0 y1 (by omega) (by omega) σ' h.1.1 (h.2.1)).le (Nat.le_of_ble_eq_true rfl) (fun v σ2 ⟨y, h1, h2, h3, h4⟩ => ⟨y, h1, h2, h.1.tr h3 MN_sub, (h3.2 _ _ _ _ (fun q => q)).trans (h.2.1), trivial⟩)) (pc' := 5) rfl (fun y2 => ?_)
  refine G_ex (fun hy2 => ?_)
  refine T_if_ne zk_99_5 (by omega) (pc' := 8) rfl (fun h3 => ?_) (fun h4 => ?_)
  ·
    refine T_ld zk_99_14 rfl rfl rfl (pc' := 15) rfl ?_
    refine T_op zk_99_15 rfl X_ic (pc' := 16) rfl ?_
    refine T_op zk_99_16 rfl (X_bi (v := 50) (by decide)) (pc' := 18) rfl ?_
    refine T_calli (K := fun y5 σ' => ((y5 = 0 ∧ (p1 < 1 ∨ 50 < p1)) ∨ (y5 = 1 ∧ 1 ≤ p1 ∧ p1 ≤ 50)) ∧ (fun σ' => IF (MI 0 25 28 28 28) σ σ' ∧ σ' 1 0 0 6 = y1 ∧ True) σ') (r := []) zk_99_18 rfl rfl rfl rfl rfl rfl (Or.inl (Or.inl rfl)) (fun σ' h => (w_114 p1 1 50 (by omega) (by omega) (by omega) σ' h.1.1 ).le (Nat.le_of_ble_eq_true rfl) (fun v σ2 ⟨y, h1, h2, h3, h4⟩ => ⟨y, h1, h2, h.1.tr h3 MN_sub, (h3.2 _ _ _ _ (fun q => q)).trans (h.2.1), trivial⟩)) (pc' := 21) rfl (fun y5 => ?_)
    refine G_ex (fun hy5 => ?_)
    refine T_if_ne zk_99_21 (by omega) (pc' := 24) rfl (fun h6 => ?_) (fun h7 => ?_)
    ·
      refine T_ld zk_99_31 rfl rfl rfl (pc' := 32) rfl ?_
      refine T_getR (t' := 1) (i' := 0) (k' := 0) zk_99_32 rfl rfl rfl vd_0 (pc' := 35) rfl ?_
      refine T_getR (t' := 15) (i' := 0) (k' := 0) zk_99_35 rfl rfl rfl (vd_1 (by omega)) (pc' := 38) rfl ?_
      refine T_ld zk_99_38 rfl rfl rfl (pc' := 39) rfl ?_
      refine G_aald (t' := 25) (im := 9) (i' := 0) (ln := 12) zk_99_39 rfl rfl rfl (vd_15 (by omega)) (by omega) (by omega) (by omega) (pc' := 40) rfl ?_
      refine T_op zk_99_40 rfl (X_si (v := 300) (by decide)) (pc' := 43) rfl ?_
      refine T_ld zk_99_43 rfl rfl rfl (pc' := 44) rfl ?_
      refine T_getR (t' := 1) (i' := 0) (k' := 0) zk_99_44 rfl rfl rfl vd_0 (pc' := 47) rfl ?_
      refine T_getR (t' := 15) (i' := 0) (k' := 0) zk_99_47 rfl rfl rfl (vd_1 (by omega)) (pc' := 50) rfl ?_
      refine T_ld zk_99_50 rfl rfl rfl (pc' := 51) rfl ?_
      refine G_aald (t' := 25) (im := 9) (i' := 0) (ln := 12) zk_99_51 rfl rfl rfl (vd_15 (by omega)) (by omega) (by omega) (by omega) (pc' := 52) rfl ?_
      refine G_getf (lo := -2147483648) (hi := 2147483647) zk_99_52 rfl (vd_25 (by omega) (by omega)) (fun σ' h => h.1.1) (fun _ h => (by have q := h.1; omega)) (pc' := 55) rfl (fun y8 hy8 hy8' => ?_)
      refine T_ld zk_99_55 rfl rfl rfl (pc' := 56) rfl ?_
      refine G_unk zk_99_56 rfl (pc' := 57) rfl (fun y9 hy9 hy9' => ?_)
      refine T_min zk_99_57 rfl (by omega) (by omega) rfl (pc' := 60) rfl (fun y10 hy10 hy10' ey10 => ?_)
      refine T_putf (J' := (fun σ' => IF (MI 0 25 28 28 28) σ σ' ∧ σ' 1 0 0 6 = y1 ∧ σ' 25 0 (Int.toNat p0) 2 = y10 ∧ True)) zk_99_60 rfl rfl (vd_25 (by omega) (by omega)) (fun σ' h => ⟨h.1.up (by simp only [rgP] <;> omega) (by unfold MI; omega), (up_ne (by omega)).trans (h.2.1), up_eq, trivial⟩) (pc' := 63) rfl ?_
      refine T_ld zk_99_63 rfl rfl rfl (pc' := 64) rfl ?_
      refine T_getR (t' := 1) (i' := 0) (k' := 0) zk_99_64 rfl rfl rfl vd_0 (pc' := 67) rfl ?_
      refine T_getR (t' := 15) (i' := 0) (k' := 0) zk_99_67 rfl rfl rfl (vd_1 (by omega)) (pc' := 70) rfl ?_
      refine T_ld zk_99_70 rfl rfl rfl (pc' := 71) rfl ?_
      refine G_aald (t' := 25) (im := 9) (i' := 0) (ln := 12) zk_99_71 rfl rfl rfl (vd_15 (by omega)) (by omega) (by omega) (by omega) (pc' := 72) rfl ?_
      refine G_getX (w := y10) zk_99_72 rfl (vd_25 (by omega) (by omega)) (fun σ' h => h.2.2.1) (pc' := 75) rfl ?_
      exact T_iret zk_99_75 rfl (fun σ' h => ⟨_, rfl, (by omega), h.1, trivial⟩)
    ·
      refine T_ld zk_99_24 rfl rfl rfl (pc' := 25) rfl ?_
      refine T_op zk_99_25 rfl (X_bi (v := -6) (by decide)) (pc' := 27) rfl ?_
      refine T_calli (K := fun y11 σ' => (y11 = (-6)) ∧ (fun σ' => IF (MI 0 25 28 28 28) σ σ' ∧ σ' 1 0 0 6 = y1 ∧ True) σ') (r := []) zk_99_27 rfl rfl rfl rfl rfl rfl (Or.inr ⟨_, _, _, _, rfl, vd_0, rfl⟩) (fun σ' h => (w_113 ((-6)) (by omega) σ' h.1.1 ).le (Nat.le_of_ble_eq_true rfl) (fun v σ2 ⟨y, h1, h2, h3, h4⟩ => ⟨y, h1, h2, h.1.tr h3 sb56_a27a080, (h3.2 _ _ _ _ (by first | exact nMI rfl | (unfold MI; omega))).trans (h.2.1), trivial⟩)) (pc' := 30) rfl (fun y11 => ?_)
      refine G_ex (fun hy11 => ?_)
      obtain rfl : y11 = (-6) := by omega
      exact T_iret zk_99_30 rfl (fun σ' h => ⟨_, rfl, (by omega), h.1, trivial⟩)
  ·
    refine T_ld zk_99_8 rfl rfl rfl (pc' := 9) rfl ?_
    refine T_op zk_99_9 rfl X_ic (pc' := 10) rfl ?_
    refine T_calli (K := fun y12 σ' => (y12 = (-1)) ∧ (fun σ' => IF (MI 0 25 28 28 28) σ σ' ∧ σ' 1 0 0 6 = y1 ∧ True) σ') (r := []) zk_99_10 rfl rfl rfl rfl rfl rfl (Or.inr ⟨_, _, _, _, rfl, vd_0, rfl⟩) (fun σ' h => (w_113 ((-1)) (by omega) σ' h.1.1 ).le (Nat.le_of_ble_eq_true rfl) (fun v σ2 ⟨y, h1, h2, h3, h4⟩ => ⟨y, h1, h2, h.1.tr h3 sb56_a27a080, (h3.2 _ _ _ _ (by first | exact nMI rfl | (unfold MI; omega))).trans (h.2.1), trivial⟩)) (pc' := 13) rfl (fun y12 => ?_)
    refine G_ex (fun hy12 => ?_)
    obtain rfl : y12 = (-1) := by omega
    exact T_iret zk_99_13 rfl (fun σ' h => ⟨_, rfl, (by omega), h.1, trivial⟩)
/-- W.about -/
theorem w_100 {xs : Nat × (Nat → Int32)} (p0 : Int) (p1 : Int) (hp0 : -2147483648 ≤ p0 ∧ p0 ≤ 2147483647) (hp1 : -2147483648 ≤ p1 ∧ p1 ≤ 2147483647) (σ : ZS) (hI : Inv σ)   : CT xs 2 100 [av 0 0 0, iv p0, iv p1] σ (fun v σ' => ∃ y, v = some (iv y) ∧ (-2147483648 ≤ y ∧ y ≤ 2147483647) ∧ IF MN σ σ' ∧ (True)) := by
  refine G_ct (J := (fun σ' => IF MN σ σ' ∧ True)) (L := [(0, av 0 0 0), (1, iv p0), (2, iv p1)]) (nL := 3) rfl rfl rfl ⟨IF.rf hI, trivial⟩ ?_
  refine T_ld zk_100_0 rfl rfl rfl (pc' := 1) rfl ?_
  refine T_ld zk_100_1 rfl rfl rfl (pc' := 2) rfl ?_
  refine G_learn (t := 1) (i := 0) (k := 0) (j := 6) (lo := 0) (hi := 12) (J2 := fun y1 => (fun σ' => IF MN σ σ' ∧ σ' 1 0 0 6 = y1 ∧ True)) (vd_1 (by omega)) (fun σ' h => h.1.1) (fun _ h => h.2.2.1 (by omega) (by omega)) (fun σ' y h hy => ⟨h.1, hy, trivial⟩) (fun y1 hy1 hy1' => ?_)
  refine T_calli (K := fun y2 σ' => ((y2 = 0 ∧ (p0 < 0 ∨ y1 ≤ p0)) ∨ (y2 = 1 ∧ 0 ≤ p0 ∧ p0 < y1)) ∧ (fun σ' => IF MN σ σ' ∧ σ' 1 0 0 6 = y1 ∧ True) σ') (r := []) zk_100_2 rfl rfl rfl rfl rfl rfl (Or.inr ⟨_, _, _, _, rfl, vd_0, rfl⟩) (fun σ' h => (w_117 p0 y1 (by omega) (by omega) σ' h.1.1 (h.2.1)).le (Nat.le_of_ble_eq_true rfl) (fun v σ2 ⟨y, h1, h2, h3, h4⟩ => ⟨y, h1, h2, h.1.tr h3 MN_sub, (h3.2 _ _ _ _ (fun q => q)).trans (h.2.1), trivial⟩)) (pc' := 5) rfl (fun y2 => ?_)
  refine G_ex (fun hy2 => ?_)
  refine T_if_eq zk_100_5 (by omega) (pc' := 8) rfl (fun h3 => ?_) (fun h4 => ?_)
  ·
    refine T_op zk_100_24 rfl X_ic (pc' := 25) rfl ?_
    exact T_iret zk_100_25 rfl (fun σ' h => ⟨_, rfl, (by omega), h.1, trivial⟩)
  ·
    refine T_ld zk_100_8 rfl rfl rfl (pc' := 9) rfl ?_
    refine T_getR (t' := 1) (i' := 0) (k' := 0) zk_100_9 rfl rfl rfl vd_0 (pc' := 12) rfl ?_
    refine T_getR (t' := 15) (i' := 0) (k' := 0) zk_100_12 rfl rfl rfl (vd_1 (by omega)) (pc' := 15) rfl ?_
    refine T_ld zk_100_15 rfl rfl rfl (pc' := 16) rfl ?_
    refine G_aald (t' := 25) (im := 9) (i' := 0) (ln := 12) zk_100_16 rfl rfl rfl (vd_15 (by omega)) (by omega) (by omega) (by omega) (pc' := 17) rfl ?_
    refine T_ld zk_100_17 rfl rfl rfl (pc' := 18) rfl ?_
    refine T_calli (K := fun y5 σ' => (-2147483648 ≤ y5 ∧ y5 ≤ 2147483647) ∧ (fun σ' => IF MN σ σ' ∧ σ' 1 0 0 6 = y1 ∧ True) σ') (r := []) zk_100_18 rfl rfl rfl rfl rfl rfl (Or.inr ⟨_, _, _, _, rfl, (vd_25 (by omega) (by omega)), rfl⟩) (fun σ' h => (w_27 (Int.toNat p0) p1 (by omega) (by omega) σ' h.1.1 ).le (Nat.le_of_ble_eq_true rfl) (fun v σ2 ⟨y, h1, h2, h3, h4⟩ => ⟨y, h1, h2, h.1.tr h3 MN_sub, (h3.2 _ _ _ _ (fun q => q)).trans (h.2.1), trivial⟩)) (pc' := 21) rfl (fun y5 => ?_)
    refine G_ex (fun hy5 => ?_)
    refine T_goto zk_100_21 ?_
    exact T_iret zk_100_25 rfl (fun σ' h => ⟨_, rfl, (by omega), h.1, trivial⟩)
theorem sb56_b2f6b41 : ∀ t i k j, MI 0 28 28 28 28 t i k j → MC 7 8 26 t i k j := by
  intro t i k j h
  unfold MI at h
  unfold MC
  omega
theorem sb56_dbc76e2 : ∀ t i k j, MI 0 26 26 26 26 t i k j → MC 7 8 26 t i k j := by
  intro t i k j h
  unfold MI at h
  unfold MC
  omega
/-- W.boat -/
theorem w_101 {xs : Nat × (Nat → Int32)} (p0 : Int) (p1 : Int) (p2 : Int) (p3 : Int) (p4 : Int) (hp0 : -2147483648 ≤ p0 ∧ p0 ≤ 2147483647) (hp1 : -2147483648 ≤ p1 ∧ p1 ≤ 2147483647) (hp2 : -2147483648 ≤ p2 ∧ p2 ≤ 2147483647) (hp3 : -2147483648 ≤ p3 ∧ p3 ≤ 2147483647) (hp4 : -2147483648 ≤ p4 ∧ p4 ≤ 2147483647) (σ : ZS) (hI : Inv σ)   : CT xs 3 101 [av 0 0 0, iv p0, iv p1, iv p2, iv p3, iv p4] σ (fun v σ' => ∃ y, v = some (iv y) ∧ (-2147483648 ≤ y ∧ y ≤ 2147483647) ∧ IF (MC 7 8 26) σ σ' ∧ (True)) := by
  refine G_ct (J := (fun σ' => IF (MC 7 8 26) σ σ' ∧ True)) (L := [(0, av 0 0 0), (1, iv p0), (2, iv p1), (3, iv p2), (4, iv p3), (5, iv p4)]) (nL := 6) rfl rfl rfl ⟨IF.rf hI, trivial⟩ ?_
  refine T_ld zk_101_0 rfl rfl rfl (pc' := 1) rfl ?_
  refine T_calli (K := fun y1 σ' => ((y1 = 0 ∧ (p0 < 0 ∨ 24 < p0)) ∨ (y1 = 1 ∧ 0 ≤ p0 ∧ p0 ≤ 24)) ∧ (fun σ' => IF (MC 7 8 26) σ σ' ∧ True) σ') (r := []) zk_101_1 rfl rfl rfl rfl rfl rfl (Or.inl (Or.inl rfl)) (fun σ' h => (w_115 p0 (by omega) σ' h.1.1 ).le (Nat.le_of_ble_eq_true rfl) (fun v σ2 ⟨y, h1, h2, h3, h4⟩ => ⟨y, h1, h2, h.1.tr h3 MN_sub, trivial⟩)) (pc' := 4) rfl (fun y1 => ?_)
  refine G_ex (fun hy1 => ?_)
  refine T_if_ne zk_101_4 (by omega) (pc' := 7) rfl (fun h2 => ?_) (fun h3 => ?_)
  ·
    refine T_ld zk_101_13 rfl rfl rfl (pc' := 14) rfl ?_
    refine T_op zk_101_14 rfl X_ic (pc' := 15) rfl ?_
    refine T_op zk_101_15 rfl (X_bi (v := 60) (by decide)) (pc' := 17) rfl ?_
    refine T_calli (K := fun y4 σ' => ((y4 = 0 ∧ (p1 < 1 ∨ 60 < p1)) ∨ (y4 = 1 ∧ 1 ≤ p1 ∧ p1 ≤ 60)) ∧ (fun σ' => IF (MC 7 8 26) σ σ' ∧ True) σ') (r := []) zk_101_17 rfl rfl rfl rfl rfl rfl (Or.inl (Or.inl rfl)) (fun σ' h => (w_114 p1 1 60 (by omega) (by omega) (by omega) σ' h.1.1 ).le (Nat.le_of_ble_eq_true rfl) (fun v σ2 ⟨y, h1, h2, h3, h4⟩ => ⟨y, h1, h2, h.1.tr h3 MN_sub, trivial⟩)) (pc' := 20) rfl (fun y4 => ?_)
    refine G_ex (fun hy4 => ?_)
    refine T_if_eq zk_101_20 (by omega) (pc' := 23) rfl (fun h5 => ?_) (fun h6 => ?_)
    ·
      refine T_ld zk_101_33 rfl rfl rfl (pc' := 34) rfl ?_
      refine T_op zk_101_34 rfl (X_bi (v := -6) (by decide)) (pc' := 36) rfl ?_
      refine T_calli (K := fun y7 σ' => (y7 = (-6)) ∧ (fun σ' => IF (MC 7 8 26) σ σ' ∧ True) σ') (r := []) zk_101_36 rfl rfl rfl rfl rfl rfl (Or.inr ⟨_, _, _, _, rfl, vd_0, rfl⟩) (fun σ' h => (w_113 ((-6)) (by omega) σ' h.1.1 ).le (Nat.le_of_ble_eq_true rfl) (fun v σ2 ⟨y, h1, h2, h3, h4⟩ => ⟨y, h1, h2, h.1.tr h3 sb56_b2f6b41, trivial⟩)) (pc' := 39) rfl (fun y7 => ?_)
      refine G_ex (fun hy7 => ?_)
      obtain rfl : y7 = (-6) := by omega
      exact T_iret zk_101_39 rfl (fun σ' h => ⟨_, rfl, (by omega), h.1, trivial⟩)
    ·
      refine T_ld zk_101_23 rfl rfl rfl (pc' := 24) rfl ?_
      refine T_op zk_101_24 rfl X_ic (pc' := 25) rfl ?_
      refine T_op zk_101_25 rfl (X_bi (v := 99) (by decide)) (pc' := 27) rfl ?_
      refine T_calli (K := fun y8 σ' => ((y8 = 0 ∧ (p2 < 1 ∨ 99 < p2)) ∨ (y8 = 1 ∧ 1 ≤ p2 ∧ p2 ≤ 99)) ∧ (fun σ' => IF (MC 7 8 26) σ σ' ∧ True) σ') (r := []) zk_101_27 rfl rfl rfl rfl rfl rfl (Or.inl (Or.inl rfl)) (fun σ' h => (w_114 p2 1 99 (by omega) (by omega) (by omega) σ' h.1.1 ).le (Nat.le_of_ble_eq_true rfl) (fun v σ2 ⟨y, h1, h2, h3, h4⟩ => ⟨y, h1, h2, h.1.tr h3 MN_sub, trivial⟩)) (pc' := 30) rfl (fun y8 => ?_)
      refine G_ex (fun hy8 => ?_)
      refine T_if_ne zk_101_30 (by omega) (pc' := 33) rfl (fun h9 => ?_) (fun h10 => ?_)
      ·
        refine T_ld zk_101_40 rfl rfl rfl (pc' := 42) rfl ?_
        refine T_op zk_101_42 rfl X_ic (pc' := 43) rfl ?_
        refine T_op zk_101_43 rfl (X_bi (v := 9) (by decide)) (pc' := 45) rfl ?_
        refine T_calli (K := fun y11 σ' => ((y11 = 0 ∧ (p3 < 1 ∨ 9 < p3)) ∨ (y11 = 1 ∧ 1 ≤ p3 ∧ p3 ≤ 9)) ∧ (fun σ' => IF (MC 7 8 26) σ σ' ∧ True) σ') (r := []) zk_101_45 rfl rfl rfl rfl rfl rfl (Or.inl (Or.inl rfl)) (fun σ' h => (w_114 p3 1 9 (by omega) (by omega) (by omega) σ' h.1.1 ).le (Nat.le_of_ble_eq_true rfl) (fun v σ2 ⟨y, h1, h2, h3, h4⟩ => ⟨y, h1, h2, h.1.tr h3 MN_sub, trivial⟩)) (pc' := 48) rfl (fun y11 => ?_)
        refine G_ex (fun hy11 => ?_)
        refine T_if_eq zk_101_48 (by omega) (pc' := 51) rfl (fun h12 => ?_) (fun h13 => ?_)
        ·
          refine T_ld zk_101_62 rfl rfl rfl (pc' := 63) rfl ?_
          refine T_op zk_101_63 rfl (X_bi (v := -6) (by decide)) (pc' := 65) rfl ?_
          refine T_calli (K := fun y14 σ' => (y14 = (-6)) ∧ (fun σ' => IF (MC 7 8 26) σ σ' ∧ True) σ') (r := []) zk_101_65 rfl rfl rfl rfl rfl rfl (Or.inr ⟨_, _, _, _, rfl, vd_0, rfl⟩) (fun σ' h => (w_113 ((-6)) (by omega) σ' h.1.1 ).le (Nat.le_of_ble_eq_true rfl) (fun v σ2 ⟨y, h1, h2, h3, h4⟩ => ⟨y, h1, h2, h.1.tr h3 sb56_b2f6b41, trivial⟩)) (pc' := 68) rfl (fun y14 => ?_)
          refine G_ex (fun hy14 => ?_)
          obtain rfl : y14 = (-6) := by omega
          exact T_iret zk_101_68 rfl (fun σ' h => ⟨_, rfl, (by omega), h.1, trivial⟩)
        ·
          refine T_ld zk_101_51 rfl rfl rfl (pc' := 53) rfl ?_
          refine T_op zk_101_53 rfl X_ic (pc' := 54) rfl ?_
          refine T_op zk_101_54 rfl (X_bi (v := 9) (by decide)) (pc' := 56) rfl ?_
          refine T_calli (K := fun y15 σ' => ((y15 = 0 ∧ (p4 < 0 ∨ 9 < p4)) ∨ (y15 = 1 ∧ 0 ≤ p4 ∧ p4 ≤ 9)) ∧ (fun σ' => IF (MC 7 8 26) σ σ' ∧ True) σ') (r := []) zk_101_56 rfl rfl rfl rfl rfl rfl (Or.inl (Or.inl rfl)) (fun σ' h => (w_114 p4 0 9 (by omega) (by omega) (by omega) σ' h.1.1 ).le (Nat.le_of_ble_eq_true rfl) (fun v σ2 ⟨y, h1, h2, h3, h4⟩ => ⟨y, h1, h2, h.1.tr h3 MN_sub, trivial⟩)) (pc' := 59) rfl (fun y15 => ?_)
          refine G_ex (fun hy15 => ?_)
          refine T_if_ne zk_101_59 (by omega) (pc' := 62) rfl (fun h16 => ?_) (fun h17 => ?_)
          ·
            refine T_ld zk_101_69 rfl rfl rfl (pc' := 70) rfl ?_
            refine T_getR (t' := 1) (i' := 0) (k' := 0) zk_101_70 rfl rfl rfl vd_0 (pc' := 73) rfl ?_
            refine G_learn (t := 1) (i := 0) (k := 0) (j := 7) (lo := 0) (hi := 6) (J2 := fun y18 => (fun σ' => IF (MC 7 8 26) σ σ' ∧ σ' 1 0 0 7 = y18 ∧ True)) (vd_1 (by omega)) (fun σ' h => h.1.1) (fun _ h => h.2.2.2.1 (by omega) (by omega)) (fun σ' y h hy => ⟨h.1, hy, trivial⟩) (fun y18 hy18 hy18' => ?_)
            refine G_getX (w := y18) zk_101_73 rfl (vd_1 (by omega)) (fun σ' h => h.2.1) (pc' := 76) rfl ?_
            refine T_op zk_101_76 rfl (X_bi (v := 6) (by decide)) (pc' := 78) rfl ?_
            refine T_icmp_lt zk_101_78 (by omega) (by omega) (pc' := 81) rfl (fun h19 => ?_) (fun h20 => ?_)
            ·
              refine T_ld zk_101_88 rfl rfl rfl (pc' := 89) rfl ?_
              refine T_getR (t' := 1) (i' := 0) (k' := 0) zk_101_89 rfl rfl rfl vd_0 (pc' := 92) rfl ?_
              refine T_getR (t' := 16) (i' := 0) (k' := 0) zk_101_92 rfl rfl rfl (vd_1 (by omega)) (pc' := 95) rfl ?_
              refine T_ld zk_101_95 rfl rfl rfl (pc' := 96) rfl ?_
              refine T_getR (t' := 1) (i' := 0) (k' := 0) zk_101_96 rfl rfl rfl vd_0 (pc' := 99) rfl ?_
              refine G_getX (w := y18) zk_101_99 rfl (vd_1 (by omega)) (fun σ' h => h.2.1) (pc' := 102) rfl ?_
              refine G_aald (t' := 26) (im := 9) (i' := 0) (ln := 6) zk_101_102 rfl rfl rfl (vd_16 (by omega)) (by omega) (by omega) (by omega) (pc' := 103) rfl ?_
              refine T_ld zk_101_103 rfl rfl rfl (pc' := 104) rfl ?_
              refine T_ld zk_101_104 rfl rfl rfl (pc' := 105) rfl ?_
              refine T_ld zk_101_105 rfl rfl rfl (pc' := 106) rfl ?_
              refine T_ld zk_101_106 rfl rfl rfl (pc' := 108) rfl ?_
              refine T_ld zk_101_108 rfl rfl rfl (pc' := 110) rfl ?_
              refine T_callv (J' := (fun σ' => IF (MC 7 8 26) σ σ' ∧ σ' 1 0 0 7 = y18 ∧ True)) (r := []) zk_101_110 rfl rfl rfl rfl rfl rfl (Or.inr ⟨_, _, _, _, rfl, (vd_26 (by omega) (by omega)), rfl⟩) (fun σ' h => (w_1 0 (Int.toNat y18) p0 p1 p2 p3 p4 (by omega) (by omega) (by omega) (by omega) (by omega) (by omega) (by omega) σ' h.1.1 ).le (Nat.le_of_ble_eq_true rfl) (fun v σ2 ⟨h1, h3, h4⟩ => ⟨h1, h.1.tr h3 sb56_dbc76e2, (h3.2 _ _ _ _ (by first | exact nMI rfl | (unfold MI; omega))).trans (h.2.1), trivial⟩)) (pc' := 113) rfl ?_
              refine T_ld zk_101_113 rfl rfl rfl (pc' := 114) rfl ?_
              refine T_getR (t' := 1) (i' := 0) (k' := 0) zk_101_114 rfl rfl rfl vd_0 (pc' := 117) rfl ?_
              refine T_op (st' := [av 1 0 0, av 1 0 0]) zk_101_117 rfl rfl (pc' := 118) rfl ?_
              refine G_getX (w := y18) zk_101_118 rfl (vd_1 (by omega)) (fun σ' h => h.2.1) (pc' := 121) rfl ?_
              refine T_op zk_101_121 rfl X_ic (pc' := 122) rfl ?_
              refine T_op zk_101_122 rfl X_add (pc' := 123) rfl ?_
              refine T_putf (J' := (fun σ' => IF (MC 7 8 26) σ σ' ∧ σ' 1 0 0 7 = y18 + 1 ∧ True)) zk_101_123 rfl rfl (vd_1 (by omega)) (fun σ' h => ⟨h.1.up (by simp only [rgP] <;> omega) (by first | exact pMC rfl | (unfold MC; omega)), up_eq, trivial⟩) (pc' := 126) rfl ?_
              refine T_ld zk_101_126 rfl rfl rfl (pc' := 127) rfl ?_
              refine T_getR (t' := 1) (i' := 0) (k' := 0) zk_101_127 rfl rfl rfl vd_0 (pc' := 130) rfl ?_
              refine G_getX (w := y18 + 1) zk_101_130 rfl (vd_1 (by omega)) (fun σ' h => h.2.1) (pc' := 133) rfl ?_
              refine T_op zk_101_133 rfl X_ic (pc' := 134) rfl ?_
              refine T_op zk_101_134 rfl X_sub (pc' := 135) rfl ?_
              exact T_iret zk_101_135 rfl (fun σ' h => ⟨_, rfl, (by omega), h.1, trivial⟩)
            ·
              refine T_ld zk_101_81 rfl rfl rfl (pc' := 82) rfl ?_
              refine T_op zk_101_82 rfl (X_bi (v := -7) (by decide)) (pc' := 84) rfl ?_
              refine T_calli (K := fun y22 σ' => (y22 = (-7)) ∧ (fun σ' => IF (MC 7 8 26) σ σ' ∧ σ' 1 0 0 7 = y18 ∧ True) σ') (r := []) zk_101_84 rfl rfl rfl rfl rfl rfl (Or.inr ⟨_, _, _, _, rfl, vd_0, rfl⟩) (fun σ' h => (w_113 ((-7)) (by omega) σ' h.1.1 ).le (Nat.le_of_ble_eq_true rfl) (fun v σ2 ⟨y, h1, h2, h3, h4⟩ => ⟨y, h1, h2, h.1.tr h3 sb56_b2f6b41, (h3.2 _ _ _ _ (by first | exact nMI rfl | (unfold MI; omega))).trans (h.2.1), trivial⟩)) (pc' := 87) rfl (fun y22 => ?_)
              refine G_ex (fun hy22 => ?_)
              obtain rfl : y22 = (-7) := by omega
              exact T_iret zk_101_87 rfl (fun σ' h => ⟨_, rfl, (by omega), h.1, trivial⟩)
          ·
            refine T_ld zk_101_62 rfl rfl rfl (pc' := 63) rfl ?_
            refine T_op zk_101_63 rfl (X_bi (v := -6) (by decide)) (pc' := 65) rfl ?_
            refine T_calli (K := fun y23 σ' => (y23 = (-6)) ∧ (fun σ' => IF (MC 7 8 26) σ σ' ∧ True) σ') (r := []) zk_101_65 rfl rfl rfl rfl rfl rfl (Or.inr ⟨_, _, _, _, rfl, vd_0, rfl⟩) (fun σ' h => (w_113 ((-6)) (by omega) σ' h.1.1 ).le (Nat.le_of_ble_eq_true rfl) (fun v σ2 ⟨y, h1, h2, h3, h4⟩ => ⟨y, h1, h2, h.1.tr h3 sb56_b2f6b41, trivial⟩)) (pc' := 68) rfl (fun y23 => ?_)
            refine G_ex (fun hy23 => ?_)
            obtain rfl : y23 = (-6) := by omega
            exact T_iret zk_101_68 rfl (fun σ' h => ⟨_, rfl, (by omega), h.1, trivial⟩)
      ·
        refine T_ld zk_101_33 rfl rfl rfl (pc' := 34) rfl ?_
        refine T_op zk_101_34 rfl (X_bi (v := -6) (by decide)) (pc' := 36) rfl ?_
        refine T_calli (K := fun y24 σ' => (y24 = (-6)) ∧ (fun σ' => IF (MC 7 8 26) σ σ' ∧ True) σ') (r := []) zk_101_36 rfl rfl rfl rfl rfl rfl (Or.inr ⟨_, _, _, _, rfl, vd_0, rfl⟩) (fun σ' h => (w_113 ((-6)) (by omega) σ' h.1.1 ).le (Nat.le_of_ble_eq_true rfl) (fun v σ2 ⟨y, h1, h2, h3, h4⟩ => ⟨y, h1, h2, h.1.tr h3 sb56_b2f6b41, trivial⟩)) (pc' := 39) rfl (fun y24 => ?_)
        refine G_ex (fun hy24 => ?_)
        obtain rfl : y24 = (-6) := by omega
        exact T_iret zk_101_39 rfl (fun σ' h => ⟨_, rfl, (by omega), h.1, trivial⟩)
  ·
    refine T_ld zk_101_7 rfl rfl rfl (pc' := 8) rfl ?_
    refine T_op zk_101_8 rfl X_ic (pc' := 9) rfl ?_
    refine T_calli (K := fun y25 σ' => (y25 = (-1)) ∧ (fun σ' => IF (MC 7 8 26) σ σ' ∧ True) σ') (r := []) zk_101_9 rfl rfl rfl rfl rfl rfl (Or.inr ⟨_, _, _, _, rfl, vd_0, rfl⟩) (fun σ' h => (w_113 ((-1)) (by omega) σ' h.1.1 ).le (Nat.le_of_ble_eq_true rfl) (fun v σ2 ⟨y, h1, h2, h3, h4⟩ => ⟨y, h1, h2, h.1.tr h3 sb56_b2f6b41, trivial⟩)) (pc' := 12) rfl (fun y25 => ?_)
    refine G_ex (fun hy25 => ?_)
    obtain rfl : y25 = (-1) := by omega
    exact T_iret zk_101_12 rfl (fun σ' h => ⟨_, rfl, (by omega), h.1, trivial⟩)
theorem sb56_ef0e2d9 : ∀ t i k j, MI 0 28 28 28 28 t i k j → MI 0 26 28 28 28 t i k j := by
  intro t i k j h
  unfold MI at h
  unfold MI
  omega
/-- W.goal -/
theorem w_102 {xs : Nat × (Nat → Int32)} (p0 : Int) (p1 : Int) (hp0 : -2147483648 ≤ p0 ∧ p0 ≤ 2147483647) (hp1 : -2147483648 ≤ p1 ∧ p1 ≤ 2147483647) (σ : ZS) (hI : Inv σ)   : CT xs 3 102 [av 0 0 0, iv p0, iv p1] σ (fun v σ' => ∃ y, v = some (iv y) ∧ (-2147483648 ≤ y ∧ y ≤ 2147483647) ∧ IF (MI 0 26 28 28 28) σ σ' ∧ (True)) := by
  refine G_ct (J := (fun σ' => IF (MI 0 26 28 28 28) σ σ' ∧ True)) (L := [(0, av 0 0 0), (1, iv p0), (2, iv p1)]) (nL := 4) rfl rfl rfl ⟨IF.rf hI, trivial⟩ ?_
  refine T_ld zk_102_0 rfl rfl rfl (pc' := 1) rfl ?_
  refine T_ld zk_102_1 rfl rfl rfl (pc' := 2) rfl ?_
  refine G_learn (t := 1) (i := 0) (k := 0) (j := 7) (lo := 0) (hi := 6) (J2 := fun y1 => (fun σ' => IF (MI 0 26 28 28 28) σ σ' ∧ σ' 1 0 0 7 = y1 ∧ True)) (vd_1 (by omega)) (fun σ' h => h.1.1) (fun _ h => h.2.2.2.1 (by omega) (by omega)) (fun σ' y h hy => ⟨h.1, hy, trivial⟩) (fun y1 hy1 hy1' => ?_)
  refine T_calli (K := fun y2 σ' => ((y2 = 0 ∧ (p0 < 0 ∨ y1 ≤ p0)) ∨ (y2 = 1 ∧ 0 ≤ p0 ∧ p0 < y1)) ∧ (fun σ' => IF (MI 0 26 28 28 28) σ σ' ∧ σ' 1 0 0 7 = y1 ∧ True) σ') (r := []) zk_102_2 rfl rfl rfl rfl rfl rfl (Or.inr ⟨_, _, _, _, rfl, vd_0, rfl⟩) (fun σ' h => (w_118 p0 y1 (by omega) (by omega) σ' h.1.1 (h.2.1)).le (Nat.le_of_ble_eq_true rfl) (fun v σ2 ⟨y, h1, h2, h3, h4⟩ => ⟨y, h1, h2, h.1.tr h3 MN_sub, (h3.2 _ _ _ _ (fun q => q)).trans (h.2.1), trivial⟩)) (pc' := 5) rfl (fun y2 => ?_)
  refine G_ex (fun hy2 => ?_)
  refine T_if_eq zk_102_5 (by omega) (pc' := 8) rfl (fun h3 => ?_) (fun h4 => ?_)
  ·
    refine T_ld zk_102_20 rfl rfl rfl (pc' := 21) rfl ?_
    refine T_op zk_102_21 rfl X_ic (pc' := 22) rfl ?_
    refine T_calli (K := fun y5 σ' => (y5 = (-1)) ∧ (fun σ' => IF (MI 0 26 28 28 28) σ σ' ∧ σ' 1 0 0 7 = y1 ∧ True) σ') (r := []) zk_102_22 rfl rfl rfl rfl rfl rfl (Or.inr ⟨_, _, _, _, rfl, vd_0, rfl⟩) (fun σ' h => (w_113 ((-1)) (by omega) σ' h.1.1 ).le (Nat.le_of_ble_eq_true rfl) (fun v σ2 ⟨y, h1, h2, h3, h4⟩ => ⟨y, h1, h2, h.1.tr h3 sb56_ef0e2d9, (h3.2 _ _ _ _ (by first | exact nMI rfl | (unfold MI; omega))).trans (h.2.1), trivial⟩)) (pc' := 25) rfl (fun y5 => ?_)
    refine G_ex (fun hy5 => ?_)
    obtain rfl : y5 = (-1) := by omega
    exact T_iret zk_102_25 rfl (fun σ' h => ⟨_, rfl, (by omega), h.1, trivial⟩)
  ·
    refine T_ld zk_102_8 rfl rfl rfl (pc' := 9) rfl ?_
    refine T_op zk_102_9 rfl X_ic (pc' := 10) rfl ?_
    refine T_icmp_eq zk_102_10 (by omega) (by omega) (pc' := 13) rfl (fun h6 => ?_) (fun h7 => ?_)
    ·
      refine T_ld zk_102_26 rfl rfl rfl (pc' := 27) rfl ?_
      refine T_getR (t' := 1) (i' := 0) (k' := 0) zk_102_27 rfl rfl rfl vd_0 (pc' := 30) rfl ?_
      refine T_getR (t' := 16) (i' := 0) (k' := 0) zk_102_30 rfl rfl rfl (vd_1 (by omega)) (pc' := 33) rfl ?_
      refine T_ld zk_102_33 rfl rfl rfl (pc' := 34) rfl ?_
      refine G_aald (t' := 26) (im := 9) (i' := 0) (ln := 6) zk_102_34 rfl rfl rfl (vd_16 (by omega)) (by omega) (by omega) (by omega) (pc' := 35) rfl ?_
      refine G_getf (lo := -1) (hi := 24) zk_102_35 rfl (vd_26 (by omega) (by omega)) (fun σ' h => h.1.1) (fun _ h => h.2.2 (by omega) (by omega)) (pc' := 38) rfl (fun y8 hy8 hy8' => ?_)
      refine T_st (L' := [(0, av 0 0 0), (1, iv p0), (2, iv p1), (3, iv y8)]) zk_102_38 (nL := 4) rfl rfl rfl rfl rfl (pc' := 39) rfl ?_
      refine T_ld zk_102_39 rfl rfl rfl (pc' := 40) rfl ?_
      refine T_getR (t' := 1) (i' := 0) (k' := 0) zk_102_40 rfl rfl rfl vd_0 (pc' := 43) rfl ?_
      refine T_getR (t' := 16) (i' := 0) (k' := 0) zk_102_43 rfl rfl rfl (vd_1 (by omega)) (pc' := 46) rfl ?_
      refine T_ld zk_102_46 rfl rfl rfl (pc' := 47) rfl ?_
      refine G_aald (t' := 26) (im := 9) (i' := 0) (ln := 6) zk_102_47 rfl rfl rfl (vd_16 (by omega)) (by omega) (by omega) (by omega) (pc' := 48) rfl ?_
      refine T_ld zk_102_48 rfl rfl rfl (pc' := 49) rfl ?_
      refine T_ld zk_102_49 rfl rfl rfl (pc' := 50) rfl ?_
      refine T_getR (t' := 1) (i' := 0) (k' := 0) zk_102_50 rfl rfl rfl vd_0 (pc' := 53) rfl ?_
      refine T_getR (t' := 16) (i' := 0) (k' := 0) zk_102_53 rfl rfl rfl (vd_1 (by omega)) (pc' := 56) rfl ?_
      refine T_ld zk_102_56 rfl rfl rfl (pc' := 57) rfl ?_
      refine G_aald (t' := 26) (im := 9) (i' := 0) (ln := 6) zk_102_57 rfl rfl rfl (vd_16 (by omega)) (by omega) (by omega) (by omega) (pc' := 58) rfl ?_
      refine G_getf (lo := 0) (hi := 24) zk_102_58 rfl (vd_26 (by omega) (by omega)) (fun σ' h => h.1.1) (fun _ h => h.2.1 (by omega) (by omega)) (pc' := 61) rfl (fun y9 hy9 hy9' => ?_)
      refine T_icmp_ne zk_102_61 (by omega) (by omega) (pc' := 64) rfl (fun h10 => ?_) (fun h11 => ?_)
      ·
        refine T_ld zk_102_68 rfl rfl rfl (pc' := 69) rfl ?_
        refine T_putf (J' := (fun σ' => IF (MI 0 26 28 28 28) σ σ' ∧ σ' 1 0 0 7 = y1 ∧ σ' 26 0 (Int.toNat p0) 5 = p1 ∧ True)) zk_102_69 rfl rfl (vd_26 (by omega) (by omega)) (fun σ' h => ⟨h.1.up (by simp only [rgP] <;> omega) (by unfold MI; omega), (up_ne (by omega)).trans (h.2.1), up_eq, trivial⟩) (pc' := 72) rfl ?_
        refine T_ld zk_102_72 rfl rfl rfl (pc' := 73) rfl ?_
        exact T_iret zk_102_73 rfl (fun σ' h => ⟨_, rfl, (by omega), h.1, trivial⟩)
      · exfalso; omega
    ·
      refine T_ld zk_102_13 rfl rfl rfl (pc' := 14) rfl ?_
      refine T_calli (K := fun y12 σ' => ((y12 = 0 ∧ (p1 < 0 ∨ 24 < p1)) ∨ (y12 = 1 ∧ 0 ≤ p1 ∧ p1 ≤ 24)) ∧ (fun σ' => IF (MI 0 26 28 28 28) σ σ' ∧ σ' 1 0 0 7 = y1 ∧ True) σ') (r := []) zk_102_14 rfl rfl rfl rfl rfl rfl (Or.inl (Or.inl rfl)) (fun σ' h => (w_115 p1 (by omega) σ' h.1.1 ).le (Nat.le_of_ble_eq_true rfl) (fun v σ2 ⟨y, h1, h2, h3, h4⟩ => ⟨y, h1, h2, h.1.tr h3 MN_sub, (h3.2 _ _ _ _ (fun q => q)).trans (h.2.1), trivial⟩)) (pc' := 17) rfl (fun y12 => ?_)
      refine G_ex (fun hy12 => ?_)
      refine T_if_ne zk_102_17 (by omega) (pc' := 20) rfl (fun h13 => ?_) (fun h14 => ?_)
      ·
        refine T_ld zk_102_26 rfl rfl rfl (pc' := 27) rfl ?_
        refine T_getR (t' := 1) (i' := 0) (k' := 0) zk_102_27 rfl rfl rfl vd_0 (pc' := 30) rfl ?_
        refine T_getR (t' := 16) (i' := 0) (k' := 0) zk_102_30 rfl rfl rfl (vd_1 (by omega)) (pc' := 33) rfl ?_
        refine T_ld zk_102_33 rfl rfl rfl (pc' := 34) rfl ?_
        refine G_aald (t' := 26) (im := 9) (i' := 0) (ln := 6) zk_102_34 rfl rfl rfl (vd_16 (by omega)) (by omega) (by omega) (by omega) (pc' := 35) rfl ?_
        refine G_getf (lo := -1) (hi := 24) zk_102_35 rfl (vd_26 (by omega) (by omega)) (fun σ' h => h.1.1) (fun _ h => h.2.2 (by omega) (by omega)) (pc' := 38) rfl (fun y15 hy15 hy15' => ?_)
        refine T_st (L' := [(0, av 0 0 0), (1, iv p0), (2, iv p1), (3, iv y15)]) zk_102_38 (nL := 4) rfl rfl rfl rfl rfl (pc' := 39) rfl ?_
        refine T_ld zk_102_39 rfl rfl rfl (pc' := 40) rfl ?_
        refine T_getR (t' := 1) (i' := 0) (k' := 0) zk_102_40 rfl rfl rfl vd_0 (pc' := 43) rfl ?_
        refine T_getR (t' := 16) (i' := 0) (k' := 0) zk_102_43 rfl rfl rfl (vd_1 (by omega)) (pc' := 46) rfl ?_
        refine T_ld zk_102_46 rfl rfl rfl (pc' := 47) rfl ?_
        refine G_aald (t' := 26) (im := 9) (i' := 0) (ln := 6) zk_102_47 rfl rfl rfl (vd_16 (by omega)) (by omega) (by omega) (by omega) (pc' := 48) rfl ?_
        refine T_ld zk_102_48 rfl rfl rfl (pc' := 49) rfl ?_
        refine T_ld zk_102_49 rfl rfl rfl (pc' := 50) rfl ?_
        refine T_getR (t' := 1) (i' := 0) (k' := 0) zk_102_50 rfl rfl rfl vd_0 (pc' := 53) rfl ?_
        refine T_getR (t' := 16) (i' := 0) (k' := 0) zk_102_53 rfl rfl rfl (vd_1 (by omega)) (pc' := 56) rfl ?_
        refine T_ld zk_102_56 rfl rfl rfl (pc' := 57) rfl ?_
        refine G_aald (t' := 26) (im := 9) (i' := 0) (ln := 6) zk_102_57 rfl rfl rfl (vd_16 (by omega)) (by omega) (by omega) (by omega) (pc' := 58) rfl ?_
        refine G_getf (lo := 0) (hi := 24) zk_102_58 rfl (vd_26 (by omega) (by omega)) (fun σ' h => h.1.1) (fun _ h => h.2.1 (by omega) (by omega)) (pc' := 61) rfl (fun y16 hy16 hy16' => ?_)
        refine T_icmp_ne zk_102_61 (by omega) (by omega) (pc' := 64) rfl (fun h17 => ?_) (fun h18 => ?_)
        ·
          refine T_ld zk_102_68 rfl rfl rfl (pc' := 69) rfl ?_
          refine T_putf (J' := (fun σ' => IF (MI 0 26 28 28 28) σ σ' ∧ σ' 1 0 0 7 = y1 ∧ σ' 26 0 (Int.toNat p0) 5 = p1 ∧ True)) zk_102_69 rfl rfl (vd_26 (by omega) (by omega)) (fun σ' h => ⟨h.1.up (by simp only [rgP] <;> omega) (by unfold MI; omega), (up_ne (by omega)).trans (h.2.1), up_eq, trivial⟩) (pc' := 72) rfl ?_
          refine T_ld zk_102_72 rfl rfl rfl (pc' := 73) rfl ?_
          exact T_iret zk_102_73 rfl (fun σ' h => ⟨_, rfl, (by omega), h.1, trivial⟩)
        ·
          refine T_op zk_102_64 rfl X_ic (pc' := 65) rfl ?_
          refine T_goto zk_102_65 ?_
          refine T_putf (J' := (fun σ' => IF (MI 0 26 28 28 28) σ σ' ∧ σ' 1 0 0 7 = y1 ∧ σ' 26 0 (Int.toNat p0) 5 = (-1) ∧ True)) zk_102_69 rfl rfl (vd_26 (by omega) (by omega)) (fun σ' h => ⟨h.1.up (by simp only [rgP] <;> omega) (by unfold MI; omega), (up_ne (by omega)).trans (h.2.1), up_eq, trivial⟩) (pc' := 72) rfl ?_
          refine T_ld zk_102_72 rfl rfl rfl (pc' := 73) rfl ?_
          exact T_iret zk_102_73 rfl (fun σ' h => ⟨_, rfl, (by omega), h.1, trivial⟩)
      ·
        refine T_ld zk_102_20 rfl rfl rfl (pc' := 21) rfl ?_
        refine T_op zk_102_21 rfl X_ic (pc' := 22) rfl ?_
        refine T_calli (K := fun y19 σ' => (y19 = (-1)) ∧ (fun σ' => IF (MI 0 26 28 28 28) σ σ' ∧ σ' 1 0 0 7 = y1 ∧ True) σ') (r := []) zk_102_22 rfl rfl rfl rfl rfl rfl (Or.inr ⟨_, _, _, _, rfl, vd_0, rfl⟩) (fun σ' h => (w_113 ((-1)) (by omega) σ' h.1.1 ).le (Nat.le_of_ble_eq_true rfl) (fun v σ2 ⟨y, h1, h2, h3, h4⟩ => ⟨y, h1, h2, h.1.tr h3 sb56_ef0e2d9, (h3.2 _ _ _ _ (by first | exact nMI rfl | (unfold MI; omega))).trans (h.2.1), trivial⟩)) (pc' := 25) rfl (fun y19 => ?_)
        refine G_ex (fun hy19 => ?_)
        obtain rfl : y19 = (-1) := by omega
        exact T_iret zk_102_25 rfl (fun σ' h => ⟨_, rfl, (by omega), h.1, trivial⟩)
/-- W.stepOf -/
theorem w_103 {xs : Nat × (Nat → Int32)} (p0 : Int) (hp0 : -2147483648 ≤ p0 ∧ p0 ≤ 2147483647) (σ : ZS) (hI : Inv σ)   : CT xs 5 103 [av 0 0 0, iv p0] σ (fun v σ' => ∃ y, v = some (iv y) ∧ (-2147483648 ≤ y ∧ y ≤ 2147483647) ∧ IF (MI 0 20 20 20 20) σ σ' ∧ (True)) := by
  refine G_ct (J := (fun σ' => IF (MI 0 20 20 20 20) σ σ' ∧ True)) (L := [(0, av 0 0 0), (1, iv p0)]) (nL := 2) rfl rfl rfl ⟨IF.rf hI, trivial⟩ ?_
  refine T_ld zk_103_0 rfl rfl rfl (pc' := 1) rfl ?_
  refine T_ld zk_103_1 rfl rfl rfl (pc' := 2) rfl ?_
  refine G_learn (t := 1) (i := 0) (k := 0) (j := 7) (lo := 0) (hi := 6) (J2 := fun y1 => (fun σ' => IF (MI 0 20 20 20 20) σ σ' ∧ σ' 1 0 0 7 = y1 ∧ True)) (vd_1 (by omega)) (fun σ' h => h.1.1) (fun _ h => h.2.2.2.1 (by omega) (by omega)) (fun σ' y h hy => ⟨h.1, hy, trivial⟩) (fun y1 hy1 hy1' => ?_)
  refine T_calli (K := fun y2 σ' => ((y2 = 0 ∧ (p0 < 0 ∨ y1 ≤ p0)) ∨ (y2 = 1 ∧ 0 ≤ p0 ∧ p0 < y1)) ∧ (fun σ' => IF (MI 0 20 20 20 20) σ σ' ∧ σ' 1 0 0 7 = y1 ∧ True) σ') (r := []) zk_103_2 rfl rfl rfl rfl rfl rfl (Or.inr ⟨_, _, _, _, rfl, vd_0, rfl⟩) (fun σ' h => (w_118 p0 y1 (by omega) (by omega) σ' h.1.1 (h.2.1)).le (Nat.le_of_ble_eq_true rfl) (fun v σ2 ⟨y, h1, h2, h3, h4⟩ => ⟨y, h1, h2, h.1.tr h3 MN_sub, (h3.2 _ _ _ _ (fun q => q)).trans (h.2.1), trivial⟩)) (pc' := 5) rfl (fun y2 => ?_)
  refine G_ex (fun hy2 => ?_)
  refine T_if_eq zk_103_5 (by omega) (pc' := 8) rfl (fun h3 => ?_) (fun h4 => ?_)
  ·
    refine T_op zk_103_27 rfl X_ic (pc' := 28) rfl ?_
    exact T_iret zk_103_28 rfl (fun σ' h => ⟨_, rfl, (by omega), h.1, trivial⟩)
  ·
    refine T_ld zk_103_8 rfl rfl rfl (pc' := 9) rfl ?_
    refine T_getR (t' := 1) (i' := 0) (k' := 0) zk_103_9 rfl rfl rfl vd_0 (pc' := 12) rfl ?_
    refine T_ld zk_103_12 rfl rfl rfl (pc' := 13) rfl ?_
    refine T_getR (t' := 1) (i' := 0) (k' := 0) zk_103_13 rfl rfl rfl vd_0 (pc' := 16) rfl ?_
    refine T_getR (t' := 16) (i' := 0) (k' := 0) zk_103_16 rfl rfl rfl (vd_1 (by omega)) (pc' := 19) rfl ?_
    refine T_ld zk_103_19 rfl rfl rfl (pc' := 20) rfl ?_
    refine G_aald (t' := 26) (im := 9) (i' := 0) (ln := 6) zk_103_20 rfl rfl rfl (vd_16 (by omega)) (by omega) (by omega) (by omega) (pc' := 21) rfl ?_
    refine T_calli (K := fun y5 σ' => (-1 ≤ y5 ∧ y5 ≤ 24) ∧ (fun σ' => IF (MI 0 20 20 20 20) σ σ' ∧ σ' 1 0 0 7 = y1 ∧ True) σ') (r := []) zk_103_21 rfl rfl rfl rfl rfl rfl (Or.inr ⟨_, _, _, _, rfl, (vd_1 (by omega)), rfl⟩) (fun σ' h => (w_17 0 (Int.toNat p0) (by omega) (by omega) σ' h.1.1 ).le (Nat.le_of_ble_eq_true rfl) (fun v σ2 ⟨y, h1, h2, h3, h4⟩ => ⟨y, h1, h2, h.1.tr h3 (fun _ _ _ _ h => h), (h3.2 _ _ _ _ (by first | exact nMI rfl | (unfold MI; omega))).trans (h.2.1), trivial⟩)) (pc' := 24) rfl (fun y5 => ?_)
    refine G_ex (fun hy5 => ?_)
    refine T_goto zk_103_24 ?_
    exact T_iret zk_103_28 rfl (fun σ' h => ⟨_, rfl, (by omega), h.1, trivial⟩)
theorem sb56_b85eb82 : ∀ t i k j, MI 2 20 20 20 20 t i k j → MYr 2 t i k j := by
  intro t i k j h
  unfold MI at h
  unfold MYr
  omega
/-- W.route -/
theorem w_104 {xs : Nat × (Nat → Int32)} (p0 : Int) (p1 : Int) (p2 : Int) (hp0 : -2147483648 ≤ p0 ∧ p0 ≤ 2147483647) (hp1 : -2147483648 ≤ p1 ∧ p1 ≤ 2147483647) (hp2 : -2147483648 ≤ p2 ∧ p2 ≤ 2147483647) (σ : ZS) (hI : Inv σ)   : CT xs 8 104 [av 0 0 0, iv p0, iv p1, iv p2] σ (fun v σ' => ∃ y, v = some (iv y) ∧ (-2147483648 ≤ y ∧ y ≤ 2147483647) ∧ IF (MYr 2) σ σ' ∧ (True)) := by
  refine G_ct (J := (fun σ' => IF (MYr 2) σ σ' ∧ True)) (L := [(0, av 0 0 0), (1, iv p0), (2, iv p1), (3, iv p2)]) (nL := 7) rfl rfl rfl ⟨IF.rf hI, trivial⟩ ?_
  refine T_ld zk_104_0 rfl rfl rfl (pc' := 1) rfl ?_
  refine T_ld zk_104_1 rfl rfl rfl (pc' := 2) rfl ?_
  refine G_learn (t := 1) (i := 0) (k := 0) (j := 7) (lo := 0) (hi := 6) (J2 := fun y1 => (fun σ' => IF (MYr 2) σ σ' ∧ σ' 1 0 0 7 = y1 ∧ True)) (vd_1 (by omega)) (fun σ' h => h.1.1) (fun _ h => h.2.2.2.1 (by omega) (by omega)) (fun σ' y h hy => ⟨h.1, hy, trivial⟩) (fun y1 hy1 hy1' => ?_)
  refine T_calli (K := fun y2 σ' => ((y2 = 0 ∧ (p0 < 0 ∨ y1 ≤ p0)) ∨ (y2 = 1 ∧ 0 ≤ p0 ∧ p0 < y1)) ∧ (fun σ' => IF (MYr 2) σ σ' ∧ σ' 1 0 0 7 = y1 ∧ True) σ') (r := []) zk_104_2 rfl rfl rfl rfl rfl rfl (Or.inr ⟨_, _, _, _, rfl, vd_0, rfl⟩) (fun σ' h => (w_118 p0 y1 (by omega) (by omega) σ' h.1.1 (h.2.1)).le (Nat.le_of_ble_eq_true rfl) (fun v σ2 ⟨y, h1, h2, h3, h4⟩ => ⟨y, h1, h2, h.1.tr h3 MN_sub, (h3.2 _ _ _ _ (fun q => q)).trans (h.2.1), trivial⟩)) (pc' := 5) rfl (fun y2 => ?_)
  refine G_ex (fun hy2 => ?_)
  refine T_if_eq zk_104_5 (by omega) (pc' := 8) rfl (fun h3 => ?_) (fun h4 => ?_)
  ·
    refine T_op zk_104_15 rfl X_ic (pc' := 16) rfl ?_
    exact T_iret zk_104_16 rfl (fun σ' h => ⟨_, rfl, (by omega), h.1, trivial⟩)
  ·
    refine T_ld zk_104_8 rfl rfl rfl (pc' := 9) rfl ?_
    refine T_calli (K := fun y5 σ' => ((y5 = 0 ∧ (p1 < 0 ∨ 24 < p1)) ∨ (y5 = 1 ∧ 0 ≤ p1 ∧ p1 ≤ 24)) ∧ (fun σ' => IF (MYr 2) σ σ' ∧ σ' 1 0 0 7 = y1 ∧ True) σ') (r := []) zk_104_9 rfl rfl rfl rfl rfl rfl (Or.inl (Or.inl rfl)) (fun σ' h => (w_115 p1 (by omega) σ' h.1.1 ).le (Nat.le_of_ble_eq_true rfl) (fun v σ2 ⟨y, h1, h2, h3, h4⟩ => ⟨y, h1, h2, h.1.tr h3 MN_sub, (h3.2 _ _ _ _ (fun q => q)).trans (h.2.1), trivial⟩)) (pc' := 12) rfl (fun y5 => ?_)
    refine G_ex (fun hy5 => ?_)
    refine T_if_ne zk_104_12 (by omega) (pc' := 15) rfl (fun h6 => ?_) (fun h7 => ?_)
    ·
      refine T_ld zk_104_17 rfl rfl rfl (pc' := 18) rfl ?_
      refine T_op zk_104_18 rfl X_ic (pc' := 19) rfl ?_
      refine T_op zk_104_19 rfl (X_bi (v := 96) (by decide)) (pc' := 21) rfl ?_
      refine T_calli (K := fun y8 σ' => ((y8 = 0 ∧ (p2 < 1 ∨ 96 < p2)) ∨ (y8 = 1 ∧ 1 ≤ p2 ∧ p2 ≤ 96)) ∧ (fun σ' => IF (MYr 2) σ σ' ∧ σ' 1 0 0 7 = y1 ∧ True) σ') (r := []) zk_104_21 rfl rfl rfl rfl rfl rfl (Or.inl (Or.inl rfl)) (fun σ' h => (w_114 p2 1 96 (by omega) (by omega) (by omega) σ' h.1.1 ).le (Nat.le_of_ble_eq_true rfl) (fun v σ2 ⟨y, h1, h2, h3, h4⟩ => ⟨y, h1, h2, h.1.tr h3 MN_sub, (h3.2 _ _ _ _ (fun q => q)).trans (h.2.1), trivial⟩)) (pc' := 24) rfl (fun y8 => ?_)
      refine G_ex (fun hy8 => ?_)
      refine T_if_ne zk_104_24 (by omega) (pc' := 27) rfl (fun h9 => ?_) (fun h10 => ?_)
      ·
        refine T_ld zk_104_34 rfl rfl rfl (pc' := 35) rfl ?_
        refine T_getR (t' := 1) (i' := 0) (k' := 0) zk_104_35 rfl rfl rfl vd_0 (pc' := 38) rfl ?_
        refine T_getR (t' := 16) (i' := 0) (k' := 0) zk_104_38 rfl rfl rfl (vd_1 (by omega)) (pc' := 41) rfl ?_
        refine T_ld zk_104_41 rfl rfl rfl (pc' := 42) rfl ?_
        refine G_aald (t' := 26) (im := 9) (i' := 0) (ln := 6) zk_104_42 rfl rfl rfl (vd_16 (by omega)) (by omega) (by omega) (by omega) (pc' := 43) rfl ?_
        refine T_st (L' := [(0, av 0 0 0), (1, iv p0), (2, iv p1), (3, iv p2), (4, av 26 0 (Int.toNat p0))]) zk_104_43 (nL := 7) rfl rfl rfl rfl rfl (pc' := 45) rfl ?_
        refine T_ld zk_104_45 rfl rfl rfl (pc' := 47) rfl ?_
        refine G_getf (lo := 0) (hi := 24) zk_104_47 rfl (vd_26 (by omega) (by omega)) (fun σ' h => h.1.1) (fun _ h => h.2.1 (by omega) (by omega)) (pc' := 50) rfl (fun y11 hy11 hy11' => ?_)
        refine T_ld zk_104_50 rfl rfl rfl (pc' := 51) rfl ?_
        refine T_icmp_ne zk_104_51 (by omega) (by omega) (pc' := 54) rfl (fun h12 => ?_) (fun h13 => ?_)
        ·
          refine T_ld zk_104_56 rfl rfl rfl (pc' := 57) rfl ?_
          refine T_getR (t' := 1) (i' := 2) (k' := 0) zk_104_57 rfl rfl rfl vd_0 (pc' := 60) rfl ?_
          refine T_ld zk_104_60 rfl rfl rfl (pc' := 61) rfl ?_
          refine T_getR (t' := 1) (i' := 0) (k' := 0) zk_104_61 rfl rfl rfl vd_0 (pc' := 64) rfl ?_
          refine T_callv (J' := (fun σ' => IF (MYr 2) σ σ' ∧ σ' 1 0 0 7 = y1 ∧ True)) (r := []) zk_104_64 rfl rfl rfl rfl rfl rfl (Or.inr ⟨_, _, _, _, rfl, (vd_1 (by omega)), rfl⟩) (fun σ' h => (w_22 2 0 (by omega) (by omega) σ' h.1.1 ).le (Nat.le_of_ble_eq_true rfl) (fun v σ2 ⟨h1, h3, h4⟩ => ⟨h1, h.1.tr h3 sb56_b124c78, (h3.2 _ _ _ _ (by first | exact nMY rfl | (unfold MY; omega))).trans (h.2.1), trivial⟩)) (pc' := 67) rfl ?_
          refine T_op zk_104_67 rfl X_ic (pc' := 68) rfl ?_
          refine T_ld zk_104_68 rfl rfl rfl (pc' := 70) rfl ?_
          refine G_getf (lo := 0) (hi := 24) zk_104_70 rfl (vd_26 (by omega) (by omega)) (fun σ' h => h.1.1) (fun _ h => h.2.1 (by omega) (by omega)) (pc' := 73) rfl (fun y15 hy15 hy15' => ?_)
          refine G_unk zk_104_73 rfl (pc' := 74) rfl (fun y16 hy16 hy16' => ?_)
          refine T_st (L' := [(0, av 0 0 0), (1, iv p0), (2, iv p1), (3, iv p2), (4, av 26 0 (Int.toNat p0)), (5, iv y16)]) zk_104_74 (nL := 7) rfl rfl rfl rfl rfl (pc' := 76) rfl ?_
          refine T_op zk_104_76 rfl X_ic (pc' := 77) rfl ?_
          refine T_st (L' := [(0, av 0 0 0), (1, iv p0), (2, iv p1), (3, iv p2), (4, av 26 0 (Int.toNat p0)), (5, iv y16), (6, iv 1)]) zk_104_77 (nL := 7) rfl rfl rfl rfl rfl (pc' := 79) rfl ?_
          refine T_loop2 (fun x17 x18 => ((97 - x18 : Int)).toNat) (fun x17 x18 => (-2147483648 ≤ x17 ∧ x17 ≤ 2147483647) ∧ (1 ≤ x18 ∧ x18 ≤ 97)) (fun x17 x18 => TJ xs (fun σ' => IF (MYr 2) σ σ' ∧ σ' 1 0 0 7 = y1 ∧ True) 7 104 79 [(0, av 0 0 0), (1, iv p0), (2, iv p1), (3, iv p2), (4, av 26 0 (Int.toNat p0)), (5, iv x17), (6, iv x18)] [] _) ?_ y16 1 (by omega)
          intro x17 x18 hp20 ih19
          refine T_ld zk_104_79 rfl rfl rfl (pc' := 81) rfl ?_
          refine T_ld zk_104_81 rfl rfl rfl (pc' := 82) rfl ?_
          refine T_icmp_gt zk_104_82 (by omega) (by omega) (pc' := 85) rfl (fun h21 => ?_) (fun h22 => ?_)
          ·
            refine T_op zk_104_152 rfl X_ic (pc' := 153) rfl ?_
            exact T_iret zk_104_153 rfl (fun σ' h => ⟨_, rfl, (by omega), h.1, trivial⟩)
          ·
            refine T_ld zk_104_85 rfl rfl rfl (pc' := 86) rfl ?_
            refine T_getR (t' := 1) (i' := 2) (k' := 0) zk_104_86 rfl rfl rfl vd_0 (pc' := 89) rfl ?_
            refine T_op zk_104_89 rfl X_ic (pc' := 90) rfl ?_
            refine T_callv (J' := (fun σ' => IF (MYr 2) σ σ' ∧ σ' 1 0 0 7 = y1 ∧ True)) (r := []) zk_104_90 rfl rfl rfl rfl rfl rfl (Or.inr ⟨_, _, _, _, rfl, (vd_1 (by omega)), rfl⟩) (fun σ' h => (w_12 2 1 (by omega) (by omega) σ' h.1.1 ).le (Nat.le_of_ble_eq_true rfl) (fun v σ2 ⟨h1, h3, h4⟩ => ⟨h1, h.1.tr h3 sb56_ce9295f, (h3.2 _ _ _ _ (by first | exact nML rfl | (unfold ML; omega))).trans (h.2.1), trivial⟩)) (pc' := 93) rfl ?_
            refine T_ld zk_104_93 rfl rfl rfl (pc' := 94) rfl ?_
            refine T_getR (t' := 1) (i' := 2) (k' := 0) zk_104_94 rfl rfl rfl vd_0 (pc' := 97) rfl ?_
            refine T_getR (t' := 19) (i' := 2) (k' := 0) zk_104_97 rfl rfl rfl (vd_1 (by omega)) (pc' := 100) rfl ?_
            refine T_ld zk_104_100 rfl rfl rfl (pc' := 101) rfl ?_
            refine T_getR (t' := 1) (i' := 2) (k' := 0) zk_104_101 rfl rfl rfl vd_0 (pc' := 104) rfl ?_
            refine T_getR (t' := 2) (i' := 2) (k' := 0) zk_104_104 rfl rfl rfl (vd_1 (by omega)) (pc' := 107) rfl ?_
            refine T_ld zk_104_107 rfl rfl rfl (pc' := 109) rfl ?_
            refine T_callv (J' := (fun σ' => IF (MYr 2) σ σ' ∧ σ' 1 0 0 7 = y1 ∧ True)) (r := []) zk_104_109 rfl rfl rfl rfl rfl rfl (Or.inr ⟨_, _, _, _, rfl, (vd_19 (by omega)), rfl⟩) (fun σ' h => (w_5 2 0 (Int.toNat p0) (by omega) (by omega) (by omega) σ' h.1.1 ).le (Nat.le_of_ble_eq_true rfl) (fun v σ2 ⟨h1, h3, h4⟩ => ⟨h1, h.1.tr h3 sb56_b85eb82, (h3.2 _ _ _ _ (by first | exact nMI rfl | (unfold MI; omega))).trans (h.2.1), trivial⟩)) (pc' := 112) rfl ?_
            refine T_ld zk_104_112 rfl rfl rfl (pc' := 113) rfl ?_
            refine T_getR (t' := 1) (i' := 2) (k' := 0) zk_104_113 rfl rfl rfl vd_0 (pc' := 116) rfl ?_
            refine T_getR (t' := 19) (i' := 2) (k' := 0) zk_104_116 rfl rfl rfl (vd_1 (by omega)) (pc' := 119) rfl ?_
            refine T_ld zk_104_119 rfl rfl rfl (pc' := 121) rfl ?_
            refine T_calli (K := fun y25 σ' => (-2147483648 ≤ y25 ∧ y25 ≤ 2147483647) ∧ (fun σ' => IF (MYr 2) σ σ' ∧ σ' 1 0 0 7 = y1 ∧ True) σ') (r := []) zk_104_121 rfl rfl rfl rfl rfl rfl (Or.inr ⟨_, _, _, _, rfl, (vd_19 (by omega)), rfl⟩) (fun σ' h => (w_6 2 x17 (by omega) (by omega) σ' h.1.1 ).le (Nat.le_of_ble_eq_true rfl) (fun v σ2 ⟨y, h1, h2, h3, h4⟩ => ⟨y, h1, h2, h.1.tr h3 MN_sub, (h3.2 _ _ _ _ (fun q => q)).trans (h.2.1), trivial⟩)) (pc' := 124) rfl (fun y25 => ?_)
            refine G_ex (fun hy25 => ?_)
            refine T_st (L' := [(0, av 0 0 0), (1, iv p0), (2, iv p1), (3, iv p2), (4, av 26 0 (Int.toNat p0)), (5, iv y25), (6, iv x18)]) zk_104_124 (nL := 7) rfl rfl rfl rfl rfl (pc' := 126) rfl ?_
            refine T_ld zk_104_126 rfl rfl rfl (pc' := 128) rfl ?_
            refine T_ld zk_104_128 rfl rfl rfl (pc' := 129) rfl ?_
            refine G_unk zk_104_129 rfl (pc' := 130) rfl (fun y26 hy26 hy26' => ?_)
            refine T_op zk_104_130 rfl X_ic (pc' := 131) rfl ?_
            refine G_unk zk_104_131 rfl (pc' := 132) rfl (fun y27 hy27 hy27' => ?_)
            refine T_op zk_104_132 rfl X_ic (pc' := 133) rfl ?_
            refine T_icmp_ne zk_104_133 (by omega) (by omega) (pc' := 136) rfl (fun h28 => ?_) (fun h29 => ?_)
            ·
              refine T_ld zk_104_139 rfl rfl rfl (pc' := 140) rfl ?_
              refine T_getR (t' := 1) (i' := 2) (k' := 0) zk_104_140 rfl rfl rfl vd_0 (pc' := 143) rfl ?_
              refine T_callv (J' := (fun σ' => IF (MYr 2) σ σ' ∧ σ' 1 0 0 7 = y1 ∧ True)) (r := []) zk_104_143 rfl rfl rfl rfl rfl rfl (Or.inr ⟨_, _, _, _, rfl, (vd_1 (by omega)), rfl⟩) (fun σ' h => (w_13 2 (by omega) σ' h.1.1 ).le (Nat.le_of_ble_eq_true rfl) (fun v σ2 ⟨h1, h3, h4⟩ => ⟨h1, h.1.tr h3 sb56_ce9295f, (h3.2 _ _ _ _ (by first | exact nML rfl | (unfold ML; omega))).trans (h.2.1), trivial⟩)) (pc' := 146) rfl ?_
              refine T_iinc (L' := [(0, av 0 0 0), (1, iv p0), (2, iv p1), (3, iv p2), (4, av 26 0 (Int.toNat p0)), (5, iv y25), (6, iv (x18 + 1))]) zk_104_146 (nL := 7) rfl rfl rfl rfl (pc' := 149) rfl ?_
              refine T_goto zk_104_149 ?_
              exact ih19 y25 (x18 + 1) (by omega) (by omega)
            ·
              refine T_ld zk_104_136 rfl rfl rfl (pc' := 138) rfl ?_
              exact T_iret zk_104_138 rfl (fun σ' h => ⟨_, rfl, (by omega), h.1, trivial⟩)
        ·
          refine T_op zk_104_54 rfl X_ic (pc' := 55) rfl ?_
          exact T_iret zk_104_55 rfl (fun σ' h => ⟨_, rfl, (by omega), h.1, trivial⟩)
      ·
        refine T_ld zk_104_27 rfl rfl rfl (pc' := 28) rfl ?_
        refine T_op zk_104_28 rfl (X_bi (v := -6) (by decide)) (pc' := 30) rfl ?_
        refine T_calli (K := fun y31 σ' => (y31 = (-6)) ∧ (fun σ' => IF (MYr 2) σ σ' ∧ σ' 1 0 0 7 = y1 ∧ True) σ') (r := []) zk_104_30 rfl rfl rfl rfl rfl rfl (Or.inr ⟨_, _, _, _, rfl, vd_0, rfl⟩) (fun σ' h => (w_113 ((-6)) (by omega) σ' h.1.1 ).le (Nat.le_of_ble_eq_true rfl) (fun v σ2 ⟨y, h1, h2, h3, h4⟩ => ⟨y, h1, h2, h.1.tr h3 sb56_dd03e80, (h3.2 _ _ _ _ (by first | exact nMI rfl | (unfold MI; omega))).trans (h.2.1), trivial⟩)) (pc' := 33) rfl (fun y31 => ?_)
        refine G_ex (fun hy31 => ?_)
        obtain rfl : y31 = (-6) := by omega
        exact T_iret zk_104_33 rfl (fun σ' h => ⟨_, rfl, (by omega), h.1, trivial⟩)
    ·
      refine T_op zk_104_15 rfl X_ic (pc' := 16) rfl ?_
      exact T_iret zk_104_16 rfl (fun σ' h => ⟨_, rfl, (by omega), h.1, trivial⟩)
/-- W.sails -/
theorem w_105 {xs : Nat × (Nat → Int32)} (p0 : Int) (p1 : Int) (hp0 : -2147483648 ≤ p0 ∧ p0 ≤ 2147483647) (hp1 : -2147483648 ≤ p1 ∧ p1 ≤ 2147483647) (σ : ZS) (hI : Inv σ)   : CT xs 2 105 [av 0 0 0, iv p0, iv p1] σ (fun v σ' => ∃ y, v = some (iv y) ∧ (-2147483648 ≤ y ∧ y ≤ 2147483647) ∧ IF MN σ σ' ∧ (True)) := by
  refine G_ct (J := (fun σ' => IF MN σ σ' ∧ True)) (L := [(0, av 0 0 0), (1, iv p0), (2, iv p1)]) (nL := 3) rfl rfl rfl ⟨IF.rf hI, trivial⟩ ?_
  refine T_ld zk_105_0 rfl rfl rfl (pc' := 1) rfl ?_
  refine T_ld zk_105_1 rfl rfl rfl (pc' := 2) rfl ?_
  refine G_learn (t := 1) (i := 0) (k := 0) (j := 7) (lo := 0) (hi := 6) (J2 := fun y1 => (fun σ' => IF MN σ σ' ∧ σ' 1 0 0 7 = y1 ∧ True)) (vd_1 (by omega)) (fun σ' h => h.1.1) (fun _ h => h.2.2.2.1 (by omega) (by omega)) (fun σ' y h hy => ⟨h.1, hy, trivial⟩) (fun y1 hy1 hy1' => ?_)
  refine T_calli (K := fun y2 σ' => ((y2 = 0 ∧ (p0 < 0 ∨ y1 ≤ p0)) ∨ (y2 = 1 ∧ 0 ≤ p0 ∧ p0 < y1)) ∧ (fun σ' => IF MN σ σ' ∧ σ' 1 0 0 7 = y1 ∧ True) σ') (r := []) zk_105_2 rfl rfl rfl rfl rfl rfl (Or.inr ⟨_, _, _, _, rfl, vd_0, rfl⟩) (fun σ' h => (w_118 p0 y1 (by omega) (by omega) σ' h.1.1 (h.2.1)).le (Nat.le_of_ble_eq_true rfl) (fun v σ2 ⟨y, h1, h2, h3, h4⟩ => ⟨y, h1, h2, h.1.tr h3 MN_sub, (h3.2 _ _ _ _ (fun q => q)).trans (h.2.1), trivial⟩)) (pc' := 5) rfl (fun y2 => ?_)
  refine G_ex (fun hy2 => ?_)
  refine T_if_eq zk_105_5 (by omega) (pc' := 8) rfl (fun h3 => ?_) (fun h4 => ?_)
  ·
    refine T_op zk_105_24 rfl X_ic (pc' := 25) rfl ?_
    exact T_iret zk_105_25 rfl (fun σ' h => ⟨_, rfl, (by omega), h.1, trivial⟩)
  ·
    refine T_ld zk_105_8 rfl rfl rfl (pc' := 9) rfl ?_
    refine T_getR (t' := 1) (i' := 0) (k' := 0) zk_105_9 rfl rfl rfl vd_0 (pc' := 12) rfl ?_
    refine T_getR (t' := 16) (i' := 0) (k' := 0) zk_105_12 rfl rfl rfl (vd_1 (by omega)) (pc' := 15) rfl ?_
    refine T_ld zk_105_15 rfl rfl rfl (pc' := 16) rfl ?_
    refine G_aald (t' := 26) (im := 9) (i' := 0) (ln := 6) zk_105_16 rfl rfl rfl (vd_16 (by omega)) (by omega) (by omega) (by omega) (pc' := 17) rfl ?_
    refine T_ld zk_105_17 rfl rfl rfl (pc' := 18) rfl ?_
    refine T_calli (K := fun y5 σ' => (-2147483648 ≤ y5 ∧ y5 ≤ 2147483647) ∧ (fun σ' => IF MN σ σ' ∧ σ' 1 0 0 7 = y1 ∧ True) σ') (r := []) zk_105_18 rfl rfl rfl rfl rfl rfl (Or.inr ⟨_, _, _, _, rfl, (vd_26 (by omega) (by omega)), rfl⟩) (fun σ' h => (w_2 (Int.toNat p0) p1 (by omega) (by omega) σ' h.1.1 ).le (Nat.le_of_ble_eq_true rfl) (fun v σ2 ⟨y, h1, h2, h3, h4⟩ => ⟨y, h1, h2, h.1.tr h3 MN_sub, (h3.2 _ _ _ _ (fun q => q)).trans (h.2.1), trivial⟩)) (pc' := 21) rfl (fun y5 => ?_)
    refine G_ex (fun hy5 => ?_)
    refine T_goto zk_105_21 ?_
    exact T_iret zk_105_25 rfl (fun σ' h => ⟨_, rfl, (by omega), h.1, trivial⟩)
theorem sb56_3ce2b2e : ∀ t i k j, ML 0 t i k j → MLr 0 t i k j := by
  intro t i k j h
  unfold ML at h
  unfold MLr
  omega
theorem sb56_59a9b6f : ∀ t i k j, MI 0 28 28 28 28 t i k j → MLr 0 t i k j := by
  intro t i k j h
  unfold MI at h
  unfold MLr
  omega
/-- W.quarters -/
theorem w_106 {xs : Nat × (Nat → Int32)} (p0 : Int) (hp0 : -2147483648 ≤ p0 ∧ p0 ≤ 2147483647) (σ : ZS) (hI : Inv σ)   : CT xs 8 106 [av 0 0 0, iv p0] σ (fun v σ' => ∃ y, v = some (iv y) ∧ (-2147483648 ≤ y ∧ y ≤ 2147483647) ∧ IF (MLr 0) σ σ' ∧ (True)) := by
  refine G_ct (J := (fun σ' => IF (MLr 0) σ σ' ∧ True)) (L := [(0, av 0 0 0), (1, iv p0)]) (nL := 3) rfl rfl rfl ⟨IF.rf hI, trivial⟩ ?_
  refine T_ld zk_106_0 rfl rfl rfl (pc' := 1) rfl ?_
  refine T_op zk_106_1 rfl X_ic (pc' := 2) rfl ?_
  refine T_op zk_106_2 rfl (X_si (v := 200) (by decide)) (pc' := 5) rfl ?_
  refine T_calli (K := fun y1 σ' => ((y1 = 0 ∧ (p0 < 1 ∨ 200 < p0)) ∨ (y1 = 1 ∧ 1 ≤ p0 ∧ p0 ≤ 200)) ∧ (fun σ' => IF (MLr 0) σ σ' ∧ True) σ') (r := []) zk_106_5 rfl rfl rfl rfl rfl rfl (Or.inl (Or.inl rfl)) (fun σ' h => (w_114 p0 1 200 (by omega) (by omega) (by omega) σ' h.1.1 ).le (Nat.le_of_ble_eq_true rfl) (fun v σ2 ⟨y, h1, h2, h3, h4⟩ => ⟨y, h1, h2, h.1.tr h3 MN_sub, trivial⟩)) (pc' := 8) rfl (fun y1 => ?_)
  refine G_ex (fun hy1 => ?_)
  refine T_if_ne zk_106_8 (by omega) (pc' := 11) rfl (fun h2 => ?_) (fun h3 => ?_)
  ·
    refine T_ld zk_106_18 rfl rfl rfl (pc' := 19) rfl ?_
    refine T_getR (t' := 1) (i' := 0) (k' := 0) zk_106_19 rfl rfl rfl vd_0 (pc' := 22) rfl ?_
    refine G_getf (lo := -2147483648) (hi := 2147483647) zk_106_22 rfl (vd_1 (by omega)) (fun σ' h => h.1.1) (fun _ h => (by have q := h.1; omega)) (pc' := 25) rfl (fun y4 hy4 hy4' => ?_)
    refine T_ld zk_106_25 rfl rfl rfl (pc' := 26) rfl ?_
    refine G_unk zk_106_26 rfl (pc' := 27) rfl (fun y5 hy5 hy5' => ?_)
    refine T_op zk_106_27 rfl (X_si (v := 20000) (by decide)) (pc' := 30) rfl ?_
    refine T_icmp_le zk_106_30 (by omega) (by omega) (pc' := 33) rfl (fun h6 => ?_) (fun h7 => ?_)
    ·
      refine T_op zk_106_40 rfl X_ic (pc' := 41) rfl ?_
      refine T_st (L' := [(0, av 0 0 0), (1, iv p0), (2, iv 0)]) zk_106_41 (nL := 3) rfl rfl rfl rfl rfl (pc' := 42) rfl ?_
      refine T_loop1 (fun x8 => ((200 - x8 : Int)).toNat) (fun x8 => (0 ≤ x8 ∧ x8 ≤ 200)) (fun x8 => TJ xs (fun σ' => IF (MLr 0) σ σ' ∧ True) 7 106 42 [(0, av 0 0 0), (1, iv p0), (2, iv x8)] [] _) ?_ 0 (by omega)
      intro x8 hp10 ih9
      refine T_ld zk_106_42 rfl rfl rfl (pc' := 43) rfl ?_
      refine T_ld zk_106_43 rfl rfl rfl (pc' := 44) rfl ?_
      refine T_icmp_ge zk_106_44 (by omega) (by omega) (pc' := 47) rfl (fun h11 => ?_) (fun h12 => ?_)
      ·
        refine T_ld zk_106_68 rfl rfl rfl (pc' := 69) rfl ?_
        refine T_getR (t' := 1) (i' := 0) (k' := 0) zk_106_69 rfl rfl rfl vd_0 (pc' := 72) rfl ?_
        refine G_getf (lo := -2147483648) (hi := 2147483647) zk_106_72 rfl (vd_1 (by omega)) (fun σ' h => h.1.1) (fun _ h => (by have q := h.1; omega)) (pc' := 75) rfl (fun y13 hy13 hy13' => ?_)
        exact T_iret zk_106_75 rfl (fun σ' h => ⟨_, rfl, (by omega), h.1, trivial⟩)
      ·
        refine T_ld zk_106_47 rfl rfl rfl (pc' := 48) rfl ?_
        refine T_getR (t' := 1) (i' := 0) (k' := 0) zk_106_48 rfl rfl rfl vd_0 (pc' := 51) rfl ?_
        refine T_op zk_106_51 rfl X_ic (pc' := 52) rfl ?_
        refine T_callv (J' := (fun σ' => IF (MLr 0) σ σ' ∧ True)) (r := []) zk_106_52 rfl rfl rfl rfl rfl rfl (Or.inr ⟨_, _, _, _, rfl, (vd_1 (by omega)), rfl⟩) (fun σ' h => (w_12 0 0 (by omega) (by omega) σ' h.1.1 ).le (Nat.le_of_ble_eq_true rfl) (fun v σ2 ⟨h1, h3, h4⟩ => ⟨h1, h.1.tr h3 sb56_3ce2b2e, trivial⟩)) (pc' := 55) rfl ?_
        refine T_ld zk_106_55 rfl rfl rfl (pc' := 56) rfl ?_
        refine T_getR (t' := 1) (i' := 0) (k' := 0) zk_106_56 rfl rfl rfl vd_0 (pc' := 59) rfl ?_
        refine T_callv (J' := (fun σ' => IF (MLr 0) σ σ' ∧ True)) (r := []) zk_106_59 rfl rfl rfl rfl rfl rfl (Or.inr ⟨_, _, _, _, rfl, (vd_1 (by omega)), rfl⟩) (fun σ' h => (w_13 0 (by omega) σ' h.1.1 ).le (Nat.le_of_ble_eq_true rfl) (fun v σ2 ⟨h1, h3, h4⟩ => ⟨h1, h.1.tr h3 sb56_3ce2b2e, trivial⟩)) (pc' := 62) rfl ?_
        refine T_iinc (L' := [(0, av 0 0 0), (1, iv p0), (2, iv (x8 + 1))]) zk_106_62 (nL := 3) rfl rfl rfl rfl (pc' := 65) rfl ?_
        refine T_goto zk_106_65 ?_
        exact ih9 (x8 + 1) (by omega) (by omega)
    ·
      refine T_ld zk_106_33 rfl rfl rfl (pc' := 34) rfl ?_
      refine T_op zk_106_34 rfl (X_bi (v := -7) (by decide)) (pc' := 36) rfl ?_
      refine T_calli (K := fun y16 σ' => (y16 = (-7)) ∧ (fun σ' => IF (MLr 0) σ σ' ∧ True) σ') (r := []) zk_106_36 rfl rfl rfl rfl rfl rfl (Or.inr ⟨_, _, _, _, rfl, vd_0, rfl⟩) (fun σ' h => (w_113 ((-7)) (by omega) σ' h.1.1 ).le (Nat.le_of_ble_eq_true rfl) (fun v σ2 ⟨y, h1, h2, h3, h4⟩ => ⟨y, h1, h2, h.1.tr h3 sb56_59a9b6f, trivial⟩)) (pc' := 39) rfl (fun y16 => ?_)
      refine G_ex (fun hy16 => ?_)
      obtain rfl : y16 = (-7) := by omega
      exact T_iret zk_106_39 rfl (fun σ' h => ⟨_, rfl, (by omega), h.1, trivial⟩)
  ·
    refine T_ld zk_106_11 rfl rfl rfl (pc' := 12) rfl ?_
    refine T_op zk_106_12 rfl (X_bi (v := -6) (by decide)) (pc' := 14) rfl ?_
    refine T_calli (K := fun y17 σ' => (y17 = (-6)) ∧ (fun σ' => IF (MLr 0) σ σ' ∧ True) σ') (r := []) zk_106_14 rfl rfl rfl rfl rfl rfl (Or.inr ⟨_, _, _, _, rfl, vd_0, rfl⟩) (fun σ' h => (w_113 ((-6)) (by omega) σ' h.1.1 ).le (Nat.le_of_ble_eq_true rfl) (fun v σ2 ⟨y, h1, h2, h3, h4⟩ => ⟨y, h1, h2, h.1.tr h3 sb56_59a9b6f, trivial⟩)) (pc' := 17) rfl (fun y17 => ?_)
    refine G_ex (fun hy17 => ?_)
    obtain rfl : y17 = (-6) := by omega
    exact T_iret zk_106_17 rfl (fun σ' h => ⟨_, rfl, (by omega), h.1, trivial⟩)
theorem sb56_78804e0 : ∀ t i k j, ML 2 t i k j → MY 2 t i k j := by
  intro t i k j h
  unfold ML at h
  unfold MY
  omega
/-- W.foretold -/
theorem w_107 {xs : Nat × (Nat → Int32)} (p0 : Int) (p1 : Int) (hp0 : -2147483648 ≤ p0 ∧ p0 ≤ 2147483647) (hp1 : -2147483648 ≤ p1 ∧ p1 ≤ 2147483647) (σ : ZS) (hI : Inv σ)   : CT xs 8 107 [av 0 0 0, iv p0, iv p1] σ (fun v σ' => ∃ y, v = some (iv y) ∧ (-2147483648 ≤ y ∧ y ≤ 2147483647) ∧ IF (MY 2) σ σ' ∧ (True)) := by
  refine G_ct (J := (fun σ' => IF (MY 2) σ σ' ∧ True)) (L := [(0, av 0 0 0), (1, iv p0), (2, iv p1)]) (nL := 4) rfl rfl rfl ⟨IF.rf hI, trivial⟩ ?_
  refine T_ld zk_107_0 rfl rfl rfl (pc' := 1) rfl ?_
  refine T_calli (K := fun y1 σ' => ((y1 = 0 ∧ (p0 < 0 ∨ 24 < p0)) ∨ (y1 = 1 ∧ 0 ≤ p0 ∧ p0 ≤ 24)) ∧ (fun σ' => IF (MY 2) σ σ' ∧ True) σ') (r := []) zk_107_1 rfl rfl rfl rfl rfl rfl (Or.inl (Or.inl rfl)) (fun σ' h => (w_115 p0 (by omega) σ' h.1.1 ).le (Nat.le_of_ble_eq_true rfl) (fun v σ2 ⟨y, h1, h2, h3, h4⟩ => ⟨y, h1, h2, h.1.tr h3 MN_sub, trivial⟩)) (pc' := 4) rfl (fun y1 => ?_)
  refine G_ex (fun hy1 => ?_)
  refine T_if_eq zk_107_4 (by omega) (pc' := 7) rfl (fun h2 => ?_) (fun h3 => ?_)
  ·
    refine T_op zk_107_18 rfl (X_si (v := 1000) (by decide)) (pc' := 21) rfl ?_
    exact T_iret zk_107_21 rfl (fun σ' h => ⟨_, rfl, (by omega), h.1, trivial⟩)
  ·
    refine T_ld zk_107_7 rfl rfl rfl (pc' := 8) rfl ?_
    refine T_op zk_107_8 rfl X_ic (pc' := 9) rfl ?_
    refine T_op zk_107_9 rfl (X_si (v := 200) (by decide)) (pc' := 12) rfl ?_
    refine T_calli (K := fun y4 σ' => ((y4 = 0 ∧ (p1 < 0 ∨ 200 < p1)) ∨ (y4 = 1 ∧ 0 ≤ p1 ∧ p1 ≤ 200)) ∧ (fun σ' => IF (MY 2) σ σ' ∧ True) σ') (r := []) zk_107_12 rfl rfl rfl rfl rfl rfl (Or.inl (Or.inl rfl)) (fun σ' h => (w_114 p1 0 200 (by omega) (by omega) (by omega) σ' h.1.1 ).le (Nat.le_of_ble_eq_true rfl) (fun v σ2 ⟨y, h1, h2, h3, h4⟩ => ⟨y, h1, h2, h.1.tr h3 MN_sub, trivial⟩)) (pc' := 15) rfl (fun y4 => ?_)
    refine G_ex (fun hy4 => ?_)
    refine T_if_ne zk_107_15 (by omega) (pc' := 18) rfl (fun h5 => ?_) (fun h6 => ?_)
    ·
      refine T_ld zk_107_22 rfl rfl rfl (pc' := 23) rfl ?_
      refine T_getR (t' := 1) (i' := 2) (k' := 0) zk_107_23 rfl rfl rfl vd_0 (pc' := 26) rfl ?_
      refine T_ld zk_107_26 rfl rfl rfl (pc' := 27) rfl ?_
      refine T_getR (t' := 1) (i' := 0) (k' := 0) zk_107_27 rfl rfl rfl vd_0 (pc' := 30) rfl ?_
      refine T_callv (J' := (fun σ' => IF (MY 2) σ σ' ∧ True)) (r := []) zk_107_30 rfl rfl rfl rfl rfl rfl (Or.inr ⟨_, _, _, _, rfl, (vd_1 (by omega)), rfl⟩) (fun σ' h => (w_22 2 0 (by omega) (by omega) σ' h.1.1 ).le (Nat.le_of_ble_eq_true rfl) (fun v σ2 ⟨h1, h3, h4⟩ => ⟨h1, h.1.tr h3 (fun _ _ _ _ h => h), trivial⟩)) (pc' := 33) rfl ?_
      refine T_op zk_107_33 rfl X_ic (pc' := 34) rfl ?_
      refine T_st (L' := [(0, av 0 0 0), (1, iv p0), (2, iv p1), (3, iv 0)]) zk_107_34 (nL := 4) rfl rfl rfl rfl rfl (pc' := 35) rfl ?_
      refine T_loop1 (fun x8 => ((200 - x8 : Int)).toNat) (fun x8 => (0 ≤ x8 ∧ x8 ≤ 200)) (fun x8 => TJ xs (fun σ' => IF (MY 2) σ σ' ∧ True) 7 107 35 [(0, av 0 0 0), (1, iv p0), (2, iv p1), (3, iv x8)] [] _) ?_ 0 (by omega)
      intro x8 hp10 ih9
      refine T_ld zk_107_35 rfl rfl rfl (pc' := 36) rfl ?_
      refine T_ld zk_107_36 rfl rfl rfl (pc' := 37) rfl ?_
      refine T_icmp_ge zk_107_37 (by omega) (by omega) (pc' := 40) rfl (fun h11 => ?_) (fun h12 => ?_)
      ·
        refine T_ld zk_107_61 rfl rfl rfl (pc' := 62) rfl ?_
        refine T_getR (t' := 1) (i' := 2) (k' := 0) zk_107_62 rfl rfl rfl vd_0 (pc' := 65) rfl ?_
        refine T_getR (t' := 2) (i' := 2) (k' := 0) zk_107_65 rfl rfl rfl (vd_1 (by omega)) (pc' := 68) rfl ?_
        refine T_getR (t' := 4) (i' := 2) (k' := 0) zk_107_68 rfl rfl rfl (vd_2 (by omega)) (pc' := 71) rfl ?_
        refine T_ld zk_107_71 rfl rfl rfl (pc' := 72) rfl ?_
        refine G_iald (lo := -2147483648) (hi := 2147483647) (ln := 25) zk_107_72 rfl rfl (vd_4 (by omega)) (by omega) (by omega) (by omega) (fun σ' h => h.1.1) (fun _ h => (by have q := h.1; omega)) (pc' := 73) rfl (fun y13 hy13 hy13' => ?_)
        exact T_iret zk_107_73 rfl (fun σ' h => ⟨_, rfl, (by omega), h.1, trivial⟩)
      ·
        refine T_ld zk_107_40 rfl rfl rfl (pc' := 41) rfl ?_
        refine T_getR (t' := 1) (i' := 2) (k' := 0) zk_107_41 rfl rfl rfl vd_0 (pc' := 44) rfl ?_
        refine T_op zk_107_44 rfl X_ic (pc' := 45) rfl ?_
        refine T_callv (J' := (fun σ' => IF (MY 2) σ σ' ∧ True)) (r := []) zk_107_45 rfl rfl rfl rfl rfl rfl (Or.inr ⟨_, _, _, _, rfl, (vd_1 (by omega)), rfl⟩) (fun σ' h => (w_12 2 1 (by omega) (by omega) σ' h.1.1 ).le (Nat.le_of_ble_eq_true rfl) (fun v σ2 ⟨h1, h3, h4⟩ => ⟨h1, h.1.tr h3 sb56_78804e0, trivial⟩)) (pc' := 48) rfl ?_
        refine T_ld zk_107_48 rfl rfl rfl (pc' := 49) rfl ?_
        refine T_getR (t' := 1) (i' := 2) (k' := 0) zk_107_49 rfl rfl rfl vd_0 (pc' := 52) rfl ?_
        refine T_callv (J' := (fun σ' => IF (MY 2) σ σ' ∧ True)) (r := []) zk_107_52 rfl rfl rfl rfl rfl rfl (Or.inr ⟨_, _, _, _, rfl, (vd_1 (by omega)), rfl⟩) (fun σ' h => (w_13 2 (by omega) σ' h.1.1 ).le (Nat.le_of_ble_eq_true rfl) (fun v σ2 ⟨h1, h3, h4⟩ => ⟨h1, h.1.tr h3 sb56_78804e0, trivial⟩)) (pc' := 55) rfl ?_
        refine T_iinc (L' := [(0, av 0 0 0), (1, iv p0), (2, iv p1), (3, iv (x8 + 1))]) zk_107_55 (nL := 4) rfl rfl rfl rfl (pc' := 58) rfl ?_
        refine T_goto zk_107_58 ?_
        exact ih9 (x8 + 1) (by omega) (by omega)
    ·
      refine T_op zk_107_18 rfl (X_si (v := 1000) (by decide)) (pc' := 21) rfl ?_
      exact T_iret zk_107_21 rfl (fun σ' h => ⟨_, rfl, (by omega), h.1, trivial⟩)
theorem sb56_a084065 : ∀ t i k j, MY 1 t i k j → MIg t i k j := by
  intro t i k j h
  unfold MY at h
  unfold MIg
  omega
/-- W.cell -/
theorem w_110 {xs : Nat × (Nat → Int32)} (p0 : Int) (p1 : Int) (hp0 : -2147483648 ≤ p0 ∧ p0 ≤ 2147483647) (hp1 : -2147483648 ≤ p1 ∧ p1 ≤ 2147483647) (σ : ZS) (hI : Inv σ)   : CT xs 2 110 [av 0 0 0, iv p0, iv p1] σ (fun v σ' => ∃ y, v = some (iv y) ∧ (-2147483648 ≤ y ∧ y ≤ 2147483647) ∧ IF MN σ σ' ∧ (True)) := by
  refine G_ct (J := (fun σ' => IF MN σ σ' ∧ True)) (L := [(0, av 0 0 0), (1, iv p0), (2, iv p1)]) (nL := 3) rfl rfl rfl ⟨IF.rf hI, trivial⟩ ?_
  refine T_ld zk_110_0 rfl rfl rfl (pc' := 1) rfl ?_
  refine T_calli (K := fun y1 σ' => ((y1 = 0 ∧ (p0 < 0 ∨ 24 < p0)) ∨ (y1 = 1 ∧ 0 ≤ p0 ∧ p0 ≤ 24)) ∧ (fun σ' => IF MN σ σ' ∧ True) σ') (r := []) zk_110_1 rfl rfl rfl rfl rfl rfl (Or.inl (Or.inl rfl)) (fun σ' h => (w_115 p0 (by omega) σ' h.1.1 ).le (Nat.le_of_ble_eq_true rfl) (fun v σ2 ⟨y, h1, h2, h3, h4⟩ => ⟨y, h1, h2, h.1.tr h3 MN_sub, trivial⟩)) (pc' := 4) rfl (fun y1 => ?_)
  refine G_ex (fun hy1 => ?_)
  refine T_if_ne zk_110_4 (by omega) (pc' := 7) rfl (fun h2 => ?_) (fun h3 => ?_)
  ·
    refine T_ld zk_110_11 rfl rfl rfl (pc' := 12) rfl ?_
    by_cases h4 : p1 = 0
    · subst h4
      refine T_br (t := 48) zk_110_12 rfl rfl rfl (fun _ => rfl) rfl ?_
      refine T_ld zk_110_48 rfl rfl rfl (pc' := 49) rfl ?_
      refine T_getR (t' := 1) (i' := 0) (k' := 0) zk_110_49 rfl rfl rfl vd_0 (pc' := 52) rfl ?_
      refine T_getR (t' := 2) (i' := 0) (k' := 0) zk_110_52 rfl rfl rfl (vd_1 (by omega)) (pc' := 55) rfl ?_
      refine T_getR (t' := 3) (i' := 0) (k' := 0) zk_110_55 rfl rfl rfl (vd_2 (by omega)) (pc' := 58) rfl ?_
      refine T_ld zk_110_58 rfl rfl rfl (pc' := 59) rfl ?_
      refine G_iald (lo := -2147483648) (hi := 2147483647) (ln := 25) zk_110_59 rfl rfl (vd_3 (by omega)) (by omega) (by omega) (by omega) (fun σ' h => h.1.1) (fun _ h => (by have q := h.1; omega)) (pc' := 60) rfl (fun y5 hy5 hy5' => ?_)
      exact T_iret zk_110_60 rfl (fun σ' h => ⟨_, rfl, (by omega), h.1, trivial⟩)
    by_cases h6 : p1 = 1
    · subst h6
      refine T_br (t := 61) zk_110_12 rfl rfl rfl (fun _ => rfl) rfl ?_
      refine T_ld zk_110_61 rfl rfl rfl (pc' := 62) rfl ?_
      refine T_getR (t' := 1) (i' := 0) (k' := 0) zk_110_62 rfl rfl rfl vd_0 (pc' := 65) rfl ?_
      refine T_getR (t' := 2) (i' := 0) (k' := 0) zk_110_65 rfl rfl rfl (vd_1 (by omega)) (pc' := 68) rfl ?_
      refine T_getR (t' := 4) (i' := 0) (k' := 0) zk_110_68 rfl rfl rfl (vd_2 (by omega)) (pc' := 71) rfl ?_
      refine T_ld zk_110_71 rfl rfl rfl (pc' := 72) rfl ?_
      refine G_iald (lo := -2147483648) (hi := 2147483647) (ln := 25) zk_110_72 rfl rfl (vd_4 (by omega)) (by omega) (by omega) (by omega) (fun σ' h => h.1.1) (fun _ h => (by have q := h.1; omega)) (pc' := 73) rfl (fun y7 hy7 hy7' => ?_)
      exact T_iret zk_110_73 rfl (fun σ' h => ⟨_, rfl, (by omega), h.1, trivial⟩)
    by_cases h8 : p1 = 2
    · subst h8
      refine T_br (t := 74) zk_110_12 rfl rfl rfl (fun _ => rfl) rfl ?_
      refine T_ld zk_110_74 rfl rfl rfl (pc' := 75) rfl ?_
      refine T_getR (t' := 1) (i' := 0) (k' := 0) zk_110_75 rfl rfl rfl vd_0 (pc' := 78) rfl ?_
      refine T_getR (t' := 2) (i' := 0) (k' := 0) zk_110_78 rfl rfl rfl (vd_1 (by omega)) (pc' := 81) rfl ?_
      refine T_getR (t' := 5) (i' := 0) (k' := 0) zk_110_81 rfl rfl rfl (vd_2 (by omega)) (pc' := 84) rfl ?_
      refine T_ld zk_110_84 rfl rfl rfl (pc' := 85) rfl ?_
      refine G_iald (lo := -2147483648) (hi := 2147483647) (ln := 25) zk_110_85 rfl rfl (vd_5 (by omega)) (by omega) (by omega) (by omega) (fun σ' h => h.1.1) (fun _ h => (by have q := h.1; omega)) (pc' := 86) rfl (fun y9 hy9 hy9' => ?_)
      exact T_iret zk_110_86 rfl (fun σ' h => ⟨_, rfl, (by omega), h.1, trivial⟩)
    by_cases h10 : p1 = 3
    · subst h10
      refine T_br (t := 87) zk_110_12 rfl rfl rfl (fun _ => rfl) rfl ?_
      refine T_ld zk_110_87 rfl rfl rfl (pc' := 88) rfl ?_
      refine T_getR (t' := 1) (i' := 0) (k' := 0) zk_110_88 rfl rfl rfl vd_0 (pc' := 91) rfl ?_
      refine T_getR (t' := 2) (i' := 0) (k' := 0) zk_110_91 rfl rfl rfl (vd_1 (by omega)) (pc' := 94) rfl ?_
      refine T_getR (t' := 6) (i' := 0) (k' := 0) zk_110_94 rfl rfl rfl (vd_2 (by omega)) (pc' := 97) rfl ?_
      refine T_ld zk_110_97 rfl rfl rfl (pc' := 98) rfl ?_
      refine G_iald (lo := -2147483648) (hi := 2147483647) (ln := 25) zk_110_98 rfl rfl (vd_6 (by omega)) (by omega) (by omega) (by omega) (fun σ' h => h.1.1) (fun _ h => (by have q := h.1; omega)) (pc' := 99) rfl (fun y11 hy11 hy11' => ?_)
      exact T_iret zk_110_99 rfl (fun σ' h => ⟨_, rfl, (by omega), h.1, trivial⟩)
    by_cases h12 : p1 = 4
    · subst h12
      refine T_br (t := 100) zk_110_12 rfl rfl rfl (fun _ => rfl) rfl ?_
      refine T_ld zk_110_100 rfl rfl rfl (pc' := 101) rfl ?_
      refine T_getR (t' := 1) (i' := 0) (k' := 0) zk_110_101 rfl rfl rfl vd_0 (pc' := 104) rfl ?_
      refine T_getR (t' := 11) (i' := 0) (k' := 0) zk_110_104 rfl rfl rfl (vd_1 (by omega)) (pc' := 107) rfl ?_
      refine T_ld zk_110_107 rfl rfl rfl (pc' := 108) rfl ?_
      refine T_calli (K := fun y13 σ' => (-1 ≤ y13 ∧ y13 ≤ 2) ∧ (fun σ' => IF MN σ σ' ∧ True) σ') (r := []) zk_110_108 rfl rfl rfl rfl rfl rfl (Or.inr ⟨_, _, _, _, rfl, (vd_11 (by omega)), rfl⟩) (fun σ' h => (w_62 0 p0 (by omega) (by omega) σ' h.1.1 ).le (Nat.le_of_ble_eq_true rfl) (fun v σ2 ⟨y, h1, h2, h3, h4⟩ => ⟨y, h1, h2, h.1.tr h3 MN_sub, trivial⟩)) (pc' := 111) rfl (fun y13 => ?_)
      refine G_ex (fun hy13 => ?_)
      exact T_iret zk_110_111 rfl (fun σ' h => ⟨_, rfl, (by omega), h.1, trivial⟩)
    refine T_tso (t := 112) zk_110_12 (by omega) (by omega) (by omega) ?_
    refine T_ldcw zk_110_112 (pc' := 115) rfl ?_
    exact T_iret zk_110_115 rfl (fun σ' h => ⟨_, rfl, (by omega), h.1, trivial⟩)
  ·
    refine T_ldcw zk_110_7 (pc' := 10) rfl ?_
    exact T_iret zk_110_10 rfl (fun σ' h => ⟨_, rfl, (by omega), h.1, trivial⟩)
/-- W.way -/
theorem w_111 {xs : Nat × (Nat → Int32)} (p0 : Int) (p1 : Int) (p2 : Int) (hp0 : -2147483648 ≤ p0 ∧ p0 ≤ 2147483647) (hp1 : -2147483648 ≤ p1 ∧ p1 ≤ 2147483647) (hp2 : -2147483648 ≤ p2 ∧ p2 ≤ 2147483647) (σ : ZS) (hI : Inv σ)   : CT xs 3 111 [av 0 0 0, iv p0, iv p1, iv p2] σ (fun v σ' => ∃ y, v = some (iv y) ∧ (-2147483648 ≤ y ∧ y ≤ 2147483647) ∧ IF MN σ σ' ∧ (True)) := by
  refine G_ct (J := (fun σ' => IF MN σ σ' ∧ True)) (L := [(0, av 0 0 0), (1, iv p0), (2, iv p1), (3, iv p2)]) (nL := 5) rfl rfl rfl ⟨IF.rf hI, trivial⟩ ?_
  refine T_ld zk_111_0 rfl rfl rfl (pc' := 1) rfl ?_
  refine T_ld zk_111_1 rfl rfl rfl (pc' := 2) rfl ?_
  refine T_calli (K := fun y1 σ' => ((y1 = -1 ∧ ¬ (0 ≤ p0 ∧ p0 ≤ 24 ∧ 0 ≤ p1 ∧ p1 ≤ 24 ∧ (p1 = p0 + 5 ∨ p0 = p1 + 5 ∨ (p1 = p0 + 1 ∧ p0 % 5 < 4) ∨ (p0 = p1 + 1 ∧ p1 % 5 < 4)))) ∨ (0 ≤ y1 ∧ y1 ≤ 39 ∧ (0 ≤ p0 ∧ p0 ≤ 24 ∧ 0 ≤ p1 ∧ p1 ≤ 24 ∧ (p1 = p0 + 5 ∨ p0 = p1 + 5 ∨ (p1 = p0 + 1 ∧ p0 % 5 < 4) ∨ (p0 = p1 + 1 ∧ p1 % 5 < 4))))) ∧ (fun σ' => IF MN σ σ' ∧ True) σ') (r := []) zk_111_2 rfl rfl rfl rfl rfl rfl (Or.inl (Or.inl rfl)) (fun σ' h => (w_30 p0 p1 (by omega) (by omega) σ' h.1.1 ).le (Nat.le_of_ble_eq_true rfl) (fun v σ2 ⟨y, h1, h2, h3, h4⟩ => ⟨y, h1, h2, h.1.tr h3 MN_sub, trivial⟩)) (pc' := 5) rfl (fun y1 => ?_)
  refine G_ex (fun hy1 => ?_)
  refine T_st (L' := [(0, av 0 0 0), (1, iv p0), (2, iv p1), (3, iv p2), (4, iv y1)]) zk_111_5 (nL := 5) rfl rfl rfl rfl rfl (pc' := 7) rfl ?_
  refine T_ld zk_111_7 rfl rfl rfl (pc' := 9) rfl ?_
  refine T_op zk_111_9 rfl X_ic (pc' := 10) rfl ?_
  refine T_icmp_ne zk_111_10 (by omega) (by omega) (pc' := 13) rfl (fun h2 => ?_) (fun h3 => ?_)
  ·
    refine T_ld zk_111_15 rfl rfl rfl (pc' := 16) rfl ?_
    by_cases h4 : p2 = 0
    · subst h4
      refine T_br (t := 44) zk_111_16 rfl rfl rfl (fun _ => rfl) rfl ?_
      refine T_ld zk_111_44 rfl rfl rfl (pc' := 45) rfl ?_
      refine T_getR (t' := 1) (i' := 0) (k' := 0) zk_111_45 rfl rfl rfl vd_0 (pc' := 48) rfl ?_
      refine T_getR (t' := 2) (i' := 0) (k' := 0) zk_111_48 rfl rfl rfl (vd_1 (by omega)) (pc' := 51) rfl ?_
      refine T_getR (t' := 8) (i' := 0) (k' := 0) zk_111_51 rfl rfl rfl (vd_2 (by omega)) (pc' := 54) rfl ?_
      refine T_ld zk_111_54 rfl rfl rfl (pc' := 56) rfl ?_
      refine G_bald (lo := 0) (hi := 1) (ln := 40) zk_111_56 rfl rfl (vd_8 (by omega)) (by omega) (by omega) (by omega) (fun σ' h => h.1.1) (fun _ h => h.2 (by omega) (by omega)) (pc' := 57) rfl (fun y5 hy5 hy5' => ?_)
      refine T_if_eq zk_111_57 (by omega) (pc' := 60) rfl (fun h6 => ?_) (fun h7 => ?_)
      ·
        refine T_op zk_111_64 rfl X_ic (pc' := 65) rfl ?_
        exact T_iret zk_111_65 rfl (fun σ' h => ⟨_, rfl, (by omega), h.1, trivial⟩)
      ·
        refine T_op zk_111_60 rfl X_ic (pc' := 61) rfl ?_
        refine T_goto zk_111_61 ?_
        exact T_iret zk_111_65 rfl (fun σ' h => ⟨_, rfl, (by omega), h.1, trivial⟩)
    by_cases h8 : p2 = 1
    · subst h8
      refine T_br (t := 66) zk_111_16 rfl rfl rfl (fun _ => rfl) rfl ?_
      refine T_ld zk_111_66 rfl rfl rfl (pc' := 67) rfl ?_
      refine T_getR (t' := 1) (i' := 0) (k' := 0) zk_111_67 rfl rfl rfl vd_0 (pc' := 70) rfl ?_
      refine T_getR (t' := 2) (i' := 0) (k' := 0) zk_111_70 rfl rfl rfl (vd_1 (by omega)) (pc' := 73) rfl ?_
      refine T_getR (t' := 9) (i' := 0) (k' := 0) zk_111_73 rfl rfl rfl (vd_2 (by omega)) (pc' := 76) rfl ?_
      refine T_ld zk_111_76 rfl rfl rfl (pc' := 78) rfl ?_
      refine G_bald (lo := 0) (hi := 1) (ln := 40) zk_111_78 rfl rfl (vd_9 (by omega)) (by omega) (by omega) (by omega) (fun σ' h => h.1.1) (fun _ h => h.2 (by omega) (by omega)) (pc' := 79) rfl (fun y9 hy9 hy9' => ?_)
      refine T_if_eq zk_111_79 (by omega) (pc' := 82) rfl (fun h10 => ?_) (fun h11 => ?_)
      ·
        refine T_op zk_111_86 rfl X_ic (pc' := 87) rfl ?_
        exact T_iret zk_111_87 rfl (fun σ' h => ⟨_, rfl, (by omega), h.1, trivial⟩)
      ·
        refine T_op zk_111_82 rfl X_ic (pc' := 83) rfl ?_
        refine T_goto zk_111_83 ?_
        exact T_iret zk_111_87 rfl (fun σ' h => ⟨_, rfl, (by omega), h.1, trivial⟩)
    by_cases h12 : p2 = 2
    · subst h12
      refine T_br (t := 88) zk_111_16 rfl rfl rfl (fun _ => rfl) rfl ?_
      refine T_ld zk_111_88 rfl rfl rfl (pc' := 89) rfl ?_
      refine T_getR (t' := 1) (i' := 0) (k' := 0) zk_111_89 rfl rfl rfl vd_0 (pc' := 92) rfl ?_
      refine T_getR (t' := 2) (i' := 0) (k' := 0) zk_111_92 rfl rfl rfl (vd_1 (by omega)) (pc' := 95) rfl ?_
      refine T_getR (t' := 7) (i' := 0) (k' := 0) zk_111_95 rfl rfl rfl (vd_2 (by omega)) (pc' := 98) rfl ?_
      refine T_ld zk_111_98 rfl rfl rfl (pc' := 100) rfl ?_
      refine G_iald (lo := -2147483648) (hi := 2147483647) (ln := 40) zk_111_100 rfl rfl (vd_7 (by omega)) (by omega) (by omega) (by omega) (fun σ' h => h.1.1) (fun _ h => (by have q := h.1; omega)) (pc' := 101) rfl (fun y13 hy13 hy13' => ?_)
      exact T_iret zk_111_101 rfl (fun σ' h => ⟨_, rfl, (by omega), h.1, trivial⟩)
    refine T_tso (t := 102) zk_111_16 (by omega) (by omega) (by omega) ?_
    refine T_op zk_111_102 rfl X_ic (pc' := 103) rfl ?_
    exact T_iret zk_111_103 rfl (fun σ' h => ⟨_, rfl, (by omega), h.1, trivial⟩)
  ·
    refine T_op zk_111_13 rfl X_ic (pc' := 14) rfl ?_
    exact T_iret zk_111_14 rfl (fun σ' h => ⟨_, rfl, (by omega), h.1, trivial⟩)
/-- W.status -/
theorem w_112 {xs : Nat × (Nat → Int32)} (p0 : Int) (hp0 : -2147483648 ≤ p0 ∧ p0 ≤ 2147483647) (σ : ZS) (hI : Inv σ)   : CT xs 2 112 [av 0 0 0, iv p0] σ (fun v σ' => ∃ y, v = some (iv y) ∧ (-2147483648 ≤ y ∧ y ≤ 2147483647) ∧ IF MN σ σ' ∧ (True)) := by
  refine G_ct (J := (fun σ' => IF MN σ σ' ∧ True)) (L := [(0, av 0 0 0), (1, iv p0)]) (nL := 2) rfl rfl rfl ⟨IF.rf hI, trivial⟩ ?_
  refine T_ld zk_112_0 rfl rfl rfl (pc' := 1) rfl ?_
  by_cases h1 : p0 = 0
  · subst h1
    refine T_br (t := 92) zk_112_1 rfl rfl rfl (fun _ => rfl) rfl ?_
    refine T_ld zk_112_92 rfl rfl rfl (pc' := 93) rfl ?_
    refine T_getR (t' := 1) (i' := 0) (k' := 0) zk_112_93 rfl rfl rfl vd_0 (pc' := 96) rfl ?_
    refine T_getR (t' := 11) (i' := 0) (k' := 0) zk_112_96 rfl rfl rfl (vd_1 (by omega)) (pc' := 99) rfl ?_
    refine G_getf (lo := 0) (hi := 3) zk_112_99 rfl (vd_11 (by omega)) (fun σ' h => h.1.1) (fun _ h => h.2 (by omega) (by omega)) (pc' := 102) rfl (fun y2 hy2 hy2' => ?_)
    exact T_iret zk_112_102 rfl (fun σ' h => ⟨_, rfl, (by omega), h.1, trivial⟩)
  by_cases h3 : p0 = 1
  · subst h3
    refine T_br (t := 103) zk_112_1 rfl rfl rfl (fun _ => rfl) rfl ?_
    refine T_ld zk_112_103 rfl rfl rfl (pc' := 104) rfl ?_
    refine T_getR (t' := 1) (i' := 0) (k' := 0) zk_112_104 rfl rfl rfl vd_0 (pc' := 107) rfl ?_
    refine T_getR (t' := 11) (i' := 0) (k' := 0) zk_112_107 rfl rfl rfl (vd_1 (by omega)) (pc' := 110) rfl ?_
    refine T_calli (K := fun y4 σ' => (0 ≤ y4 ∧ y4 ≤ 3) ∧ (fun σ' => IF MN σ σ' ∧ True) σ') (r := []) zk_112_110 rfl rfl rfl rfl rfl rfl (Or.inr ⟨_, _, _, _, rfl, (vd_11 (by omega)), rfl⟩) (fun σ' h => (w_63 0 (by omega) σ' h.1.1 ).le (Nat.le_of_ble_eq_true rfl) (fun v σ2 ⟨y, h1, h2, h3, h4⟩ => ⟨y, h1, h2, h.1.tr h3 MN_sub, trivial⟩)) (pc' := 113) rfl (fun y4 => ?_)
    refine G_ex (fun hy4 => ?_)
    exact T_iret zk_112_113 rfl (fun σ' h => ⟨_, rfl, (by omega), h.1, trivial⟩)
  by_cases h5 : p0 = 2
  · subst h5
    refine T_br (t := 114) zk_112_1 rfl rfl rfl (fun _ => rfl) rfl ?_
    refine T_ld zk_112_114 rfl rfl rfl (pc' := 115) rfl ?_
    refine T_getR (t' := 1) (i' := 0) (k' := 0) zk_112_115 rfl rfl rfl vd_0 (pc' := 118) rfl ?_
    refine G_getf (lo := 0) (hi := 5) zk_112_118 rfl (vd_1 (by omega)) (fun σ' h => h.1.1) (fun _ h => h.2.1 (by omega) (by omega)) (pc' := 121) rfl (fun y6 hy6 hy6' => ?_)
    exact T_iret zk_112_121 rfl (fun σ' h => ⟨_, rfl, (by omega), h.1, trivial⟩)
  by_cases h7 : p0 = 3
  · subst h7
    refine T_br (t := 122) zk_112_1 rfl rfl rfl (fun _ => rfl) rfl ?_
    refine T_ld zk_112_122 rfl rfl rfl (pc' := 123) rfl ?_
    refine T_getR (t' := 1) (i' := 0) (k' := 0) zk_112_123 rfl rfl rfl vd_0 (pc' := 126) rfl ?_
    refine T_calli (K := fun y8 σ' => (0 ≤ y8 ∧ y8 ≤ 5) ∧ (fun σ' => IF MN σ σ' ∧ True) σ') (r := []) zk_112_126 rfl rfl rfl rfl rfl rfl (Or.inr ⟨_, _, _, _, rfl, (vd_1 (by omega)), rfl⟩) (fun σ' h => (w_19 0 (by omega) σ' h.1.1 ).le (Nat.le_of_ble_eq_true rfl) (fun v σ2 ⟨y, h1, h2, h3, h4⟩ => ⟨y, h1, h2, h.1.tr h3 MN_sub, trivial⟩)) (pc' := 129) rfl (fun y8 => ?_)
    refine G_ex (fun hy8 => ?_)
    exact T_iret zk_112_129 rfl (fun σ' h => ⟨_, rfl, (by omega), h.1, trivial⟩)
  by_cases h9 : p0 = 4
  · subst h9
    refine T_br (t := 130) zk_112_1 rfl rfl rfl (fun _ => rfl) rfl ?_
    refine T_ld zk_112_130 rfl rfl rfl (pc' := 131) rfl ?_
    refine T_getR (t' := 1) (i' := 0) (k' := 0) zk_112_131 rfl rfl rfl vd_0 (pc' := 134) rfl ?_
    refine G_getf (lo := 0) (hi := 12) zk_112_134 rfl (vd_1 (by omega)) (fun σ' h => h.1.1) (fun _ h => h.2.2.1 (by omega) (by omega)) (pc' := 137) rfl (fun y10 hy10 hy10' => ?_)
    exact T_iret zk_112_137 rfl (fun σ' h => ⟨_, rfl, (by omega), h.1, trivial⟩)
  by_cases h11 : p0 = 5
  · subst h11
    refine T_br (t := 138) zk_112_1 rfl rfl rfl (fun _ => rfl) rfl ?_
    refine T_ld zk_112_138 rfl rfl rfl (pc' := 139) rfl ?_
    refine T_getR (t' := 1) (i' := 0) (k' := 0) zk_112_139 rfl rfl rfl vd_0 (pc' := 142) rfl ?_
    refine G_getf (lo := 0) (hi := 6) zk_112_142 rfl (vd_1 (by omega)) (fun σ' h => h.1.1) (fun _ h => h.2.2.2.1 (by omega) (by omega)) (pc' := 145) rfl (fun y12 hy12 hy12' => ?_)
    exact T_iret zk_112_145 rfl (fun σ' h => ⟨_, rfl, (by omega), h.1, trivial⟩)
  by_cases h13 : p0 = 6
  · subst h13
    refine T_br (t := 146) zk_112_1 rfl rfl rfl (fun _ => rfl) rfl ?_
    refine T_ld zk_112_146 rfl rfl rfl (pc' := 147) rfl ?_
    refine T_getR (t' := 1) (i' := 0) (k' := 0) zk_112_147 rfl rfl rfl vd_0 (pc' := 150) rfl ?_
    refine T_calli (K := fun y14 σ' => (0 ≤ y14 ∧ y14 ≤ 6) ∧ (fun σ' => IF MN σ σ' ∧ True) σ') (r := []) zk_112_150 rfl rfl rfl rfl rfl rfl (Or.inr ⟨_, _, _, _, rfl, (vd_1 (by omega)), rfl⟩) (fun σ' h => (w_18 0 (by omega) σ' h.1.1 ).le (Nat.le_of_ble_eq_true rfl) (fun v σ2 ⟨y, h1, h2, h3, h4⟩ => ⟨y, h1, h2, h.1.tr h3 MN_sub, trivial⟩)) (pc' := 153) rfl (fun y14 => ?_)
    refine G_ex (fun hy14 => ?_)
    exact T_iret zk_112_153 rfl (fun σ' h => ⟨_, rfl, (by omega), h.1, trivial⟩)
  by_cases h15 : p0 = 7
  · subst h15
    refine T_br (t := 154) zk_112_1 rfl rfl rfl (fun _ => rfl) rfl ?_
    refine T_ld zk_112_154 rfl rfl rfl (pc' := 155) rfl ?_
    refine T_getR (t' := 1) (i' := 0) (k' := 0) zk_112_155 rfl rfl rfl vd_0 (pc' := 158) rfl ?_
    refine G_getf (lo := -2147483648) (hi := 2147483647) zk_112_158 rfl (vd_1 (by omega)) (fun σ' h => h.1.1) (fun _ h => (by have q := h.1; omega)) (pc' := 161) rfl (fun y16 hy16 hy16' => ?_)
    exact T_iret zk_112_161 rfl (fun σ' h => ⟨_, rfl, (by omega), h.1, trivial⟩)
  by_cases h17 : p0 = 8
  · subst h17
    refine T_br (t := 162) zk_112_1 rfl rfl rfl (fun _ => rfl) rfl ?_
    refine T_ld zk_112_162 rfl rfl rfl (pc' := 163) rfl ?_
    refine T_getR (t' := 1) (i' := 0) (k' := 0) zk_112_163 rfl rfl rfl vd_0 (pc' := 166) rfl ?_
    refine G_getf (lo := -2147483648) (hi := 2147483647) zk_112_166 rfl (vd_1 (by omega)) (fun σ' h => h.1.1) (fun _ h => (by have q := h.1; omega)) (pc' := 169) rfl (fun y18 hy18 hy18' => ?_)
    exact T_iret zk_112_169 rfl (fun σ' h => ⟨_, rfl, (by omega), h.1, trivial⟩)
  by_cases h19 : p0 = 9
  · subst h19
    refine T_br (t := 170) zk_112_1 rfl rfl rfl (fun _ => rfl) rfl ?_
    refine T_ld zk_112_170 rfl rfl rfl (pc' := 171) rfl ?_
    refine T_getR (t' := 1) (i' := 0) (k' := 0) zk_112_171 rfl rfl rfl vd_0 (pc' := 174) rfl ?_
    refine G_getf (lo := -2147483648) (hi := 2147483647) zk_112_174 rfl (vd_1 (by omega)) (fun σ' h => h.1.1) (fun _ h => (by have q := h.1; omega)) (pc' := 177) rfl (fun y20 hy20 hy20' => ?_)
    exact T_iret zk_112_177 rfl (fun σ' h => ⟨_, rfl, (by omega), h.1, trivial⟩)
  by_cases h21 : p0 = 10
  · subst h21
    refine T_br (t := 178) zk_112_1 rfl rfl rfl (fun _ => rfl) rfl ?_
    refine T_ld zk_112_178 rfl rfl rfl (pc' := 179) rfl ?_
    refine T_getR (t' := 1) (i' := 0) (k' := 0) zk_112_179 rfl rfl rfl vd_0 (pc' := 182) rfl ?_
    refine T_getR (t' := 2) (i' := 0) (k' := 0) zk_112_182 rfl rfl rfl (vd_1 (by omega)) (pc' := 185) rfl ?_
    refine T_calli (K := fun y22 σ' => (-2147483648 ≤ y22 ∧ y22 ≤ 2147483647) ∧ (fun σ' => IF MN σ σ' ∧ True) σ') (r := []) zk_112_185 rfl rfl rfl rfl rfl rfl (Or.inr ⟨_, _, _, _, rfl, (vd_2 (by omega)), rfl⟩) (fun σ' h => (w_34 0 (by omega) σ' h.1.1 ).le (Nat.le_of_ble_eq_true rfl) (fun v σ2 ⟨y, h1, h2, h3, h4⟩ => ⟨y, h1, h2, h.1.tr h3 MN_sub, trivial⟩)) (pc' := 188) rfl (fun y22 => ?_)
    refine G_ex (fun hy22 => ?_)
    exact T_iret zk_112_188 rfl (fun σ' h => ⟨_, rfl, (by omega), h.1, trivial⟩)
  by_cases h23 : p0 = 11
  · subst h23
    refine T_br (t := 197) zk_112_1 rfl rfl rfl (fun _ => rfl) rfl ?_
    refine T_ld zk_112_197 rfl rfl rfl (pc' := 198) rfl ?_
    refine T_op zk_112_198 rfl (X_bi (v := 11) (by decide)) (pc' := 200) rfl ?_
    refine T_op zk_112_200 rfl (X_bi (v := 17) (by decide)) (pc' := 202) rfl ?_
    refine T_calli (K := fun y24 σ' => ((y24 = 0 ∧ (11 < 11 ∨ 17 < 11)) ∨ (y24 = 1 ∧ 11 ≤ 11 ∧ 11 ≤ 17)) ∧ (fun σ' => IF MN σ σ' ∧ True) σ') (r := []) zk_112_202 rfl rfl rfl rfl rfl rfl (Or.inl (Or.inl rfl)) (fun σ' h => (w_114 11 11 17 (by omega) (by omega) (by omega) σ' h.1.1 ).le (Nat.le_of_ble_eq_true rfl) (fun v σ2 ⟨y, h1, h2, h3, h4⟩ => ⟨y, h1, h2, h.1.tr h3 MN_sub, trivial⟩)) (pc' := 205) rfl (fun y24 => ?_)
    refine G_ex (fun hy24 => ?_)
    refine T_if_eq zk_112_205 (by omega) (pc' := 208) rfl (fun h25 => ?_) (fun h26 => ?_)
    ·
      refine T_ldcw zk_112_220 (pc' := 223) rfl ?_
      exact T_iret zk_112_223 rfl (fun σ' h => ⟨_, rfl, (by omega), h.1, trivial⟩)
    ·
      refine T_ld zk_112_208 rfl rfl rfl (pc' := 209) rfl ?_
      refine T_getR (t' := 28) (i' := 0) (k' := 0) zk_112_209 rfl rfl rfl vd_0 (pc' := 212) rfl ?_
      refine T_ld zk_112_212 rfl rfl rfl (pc' := 213) rfl ?_
      refine T_op zk_112_213 rfl (X_bi (v := 10) (by decide)) (pc' := 215) rfl ?_
      refine T_opc (w := 1) zk_112_215 rfl X_sub (by omega) (pc' := 216) rfl ?_
      refine G_iald (lo := -2147483648) (hi := 2147483647) (ln := 8) zk_112_216 rfl rfl vd_28 (by omega) (by omega) (by omega) (fun σ' h => h.1.1) (fun _ h => (by have q := h.1; omega)) (pc' := 217) rfl (fun y27 hy27 hy27' => ?_)
      refine T_goto zk_112_217 ?_
      exact T_iret zk_112_223 rfl (fun σ' h => ⟨_, rfl, (by omega), h.1, trivial⟩)
  by_cases h28 : p0 = 12
  · subst h28
    refine T_br (t := 197) zk_112_1 rfl rfl rfl (fun _ => rfl) rfl ?_
    refine T_ld zk_112_197 rfl rfl rfl (pc' := 198) rfl ?_
    refine T_op zk_112_198 rfl (X_bi (v := 11) (by decide)) (pc' := 200) rfl ?_
    refine T_op zk_112_200 rfl (X_bi (v := 17) (by decide)) (pc' := 202) rfl ?_
    refine T_calli (K := fun y29 σ' => ((y29 = 0 ∧ (12 < 11 ∨ 17 < 12)) ∨ (y29 = 1 ∧ 11 ≤ 12 ∧ 12 ≤ 17)) ∧ (fun σ' => IF MN σ σ' ∧ True) σ') (r := []) zk_112_202 rfl rfl rfl rfl rfl rfl (Or.inl (Or.inl rfl)) (fun σ' h => (w_114 12 11 17 (by omega) (by omega) (by omega) σ' h.1.1 ).le (Nat.le_of_ble_eq_true rfl) (fun v σ2 ⟨y, h1, h2, h3, h4⟩ => ⟨y, h1, h2, h.1.tr h3 MN_sub, trivial⟩)) (pc' := 205) rfl (fun y29 => ?_)
    refine G_ex (fun hy29 => ?_)
    refine T_if_eq zk_112_205 (by omega) (pc' := 208) rfl (fun h30 => ?_) (fun h31 => ?_)
    ·
      refine T_ldcw zk_112_220 (pc' := 223) rfl ?_
      exact T_iret zk_112_223 rfl (fun σ' h => ⟨_, rfl, (by omega), h.1, trivial⟩)
    ·
      refine T_ld zk_112_208 rfl rfl rfl (pc' := 209) rfl ?_
      refine T_getR (t' := 28) (i' := 0) (k' := 0) zk_112_209 rfl rfl rfl vd_0 (pc' := 212) rfl ?_
      refine T_ld zk_112_212 rfl rfl rfl (pc' := 213) rfl ?_
      refine T_op zk_112_213 rfl (X_bi (v := 10) (by decide)) (pc' := 215) rfl ?_
      refine T_opc (w := 2) zk_112_215 rfl X_sub (by omega) (pc' := 216) rfl ?_
      refine G_iald (lo := -2147483648) (hi := 2147483647) (ln := 8) zk_112_216 rfl rfl vd_28 (by omega) (by omega) (by omega) (fun σ' h => h.1.1) (fun _ h => (by have q := h.1; omega)) (pc' := 217) rfl (fun y32 hy32 hy32' => ?_)
      refine T_goto zk_112_217 ?_
      exact T_iret zk_112_223 rfl (fun σ' h => ⟨_, rfl, (by omega), h.1, trivial⟩)
  by_cases h33 : p0 = 13
  · subst h33
    refine T_br (t := 197) zk_112_1 rfl rfl rfl (fun _ => rfl) rfl ?_
    refine T_ld zk_112_197 rfl rfl rfl (pc' := 198) rfl ?_
    refine T_op zk_112_198 rfl (X_bi (v := 11) (by decide)) (pc' := 200) rfl ?_
    refine T_op zk_112_200 rfl (X_bi (v := 17) (by decide)) (pc' := 202) rfl ?_
    refine T_calli (K := fun y34 σ' => ((y34 = 0 ∧ (13 < 11 ∨ 17 < 13)) ∨ (y34 = 1 ∧ 11 ≤ 13 ∧ 13 ≤ 17)) ∧ (fun σ' => IF MN σ σ' ∧ True) σ') (r := []) zk_112_202 rfl rfl rfl rfl rfl rfl (Or.inl (Or.inl rfl)) (fun σ' h => (w_114 13 11 17 (by omega) (by omega) (by omega) σ' h.1.1 ).le (Nat.le_of_ble_eq_true rfl) (fun v σ2 ⟨y, h1, h2, h3, h4⟩ => ⟨y, h1, h2, h.1.tr h3 MN_sub, trivial⟩)) (pc' := 205) rfl (fun y34 => ?_)
    refine G_ex (fun hy34 => ?_)
    refine T_if_eq zk_112_205 (by omega) (pc' := 208) rfl (fun h35 => ?_) (fun h36 => ?_)
    ·
      refine T_ldcw zk_112_220 (pc' := 223) rfl ?_
      exact T_iret zk_112_223 rfl (fun σ' h => ⟨_, rfl, (by omega), h.1, trivial⟩)
    ·
      refine T_ld zk_112_208 rfl rfl rfl (pc' := 209) rfl ?_
      refine T_getR (t' := 28) (i' := 0) (k' := 0) zk_112_209 rfl rfl rfl vd_0 (pc' := 212) rfl ?_
      refine T_ld zk_112_212 rfl rfl rfl (pc' := 213) rfl ?_
      refine T_op zk_112_213 rfl (X_bi (v := 10) (by decide)) (pc' := 215) rfl ?_
      refine T_opc (w := 3) zk_112_215 rfl X_sub (by omega) (pc' := 216) rfl ?_
      refine G_iald (lo := -2147483648) (hi := 2147483647) (ln := 8) zk_112_216 rfl rfl vd_28 (by omega) (by omega) (by omega) (fun σ' h => h.1.1) (fun _ h => (by have q := h.1; omega)) (pc' := 217) rfl (fun y37 hy37 hy37' => ?_)
      refine T_goto zk_112_217 ?_
      exact T_iret zk_112_223 rfl (fun σ' h => ⟨_, rfl, (by omega), h.1, trivial⟩)
  by_cases h38 : p0 = 14
  · subst h38
    refine T_br (t := 197) zk_112_1 rfl rfl rfl (fun _ => rfl) rfl ?_
    refine T_ld zk_112_197 rfl rfl rfl (pc' := 198) rfl ?_
    refine T_op zk_112_198 rfl (X_bi (v := 11) (by decide)) (pc' := 200) rfl ?_
    refine T_op zk_112_200 rfl (X_bi (v := 17) (by decide)) (pc' := 202) rfl ?_
    refine T_calli (K := fun y39 σ' => ((y39 = 0 ∧ (14 < 11 ∨ 17 < 14)) ∨ (y39 = 1 ∧ 11 ≤ 14 ∧ 14 ≤ 17)) ∧ (fun σ' => IF MN σ σ' ∧ True) σ') (r := []) zk_112_202 rfl rfl rfl rfl rfl rfl (Or.inl (Or.inl rfl)) (fun σ' h => (w_114 14 11 17 (by omega) (by omega) (by omega) σ' h.1.1 ).le (Nat.le_of_ble_eq_true rfl) (fun v σ2 ⟨y, h1, h2, h3, h4⟩ => ⟨y, h1, h2, h.1.tr h3 MN_sub, trivial⟩)) (pc' := 205) rfl (fun y39 => ?_)
    refine G_ex (fun hy39 => ?_)
    refine T_if_eq zk_112_205 (by omega) (pc' := 208) rfl (fun h40 => ?_) (fun h41 => ?_)
    ·
      refine T_ldcw zk_112_220 (pc' := 223) rfl ?_
      exact T_iret zk_112_223 rfl (fun σ' h => ⟨_, rfl, (by omega), h.1, trivial⟩)
    ·
      refine T_ld zk_112_208 rfl rfl rfl (pc' := 209) rfl ?_
      refine T_getR (t' := 28) (i' := 0) (k' := 0) zk_112_209 rfl rfl rfl vd_0 (pc' := 212) rfl ?_
      refine T_ld zk_112_212 rfl rfl rfl (pc' := 213) rfl ?_
      refine T_op zk_112_213 rfl (X_bi (v := 10) (by decide)) (pc' := 215) rfl ?_
      refine T_opc (w := 4) zk_112_215 rfl X_sub (by omega) (pc' := 216) rfl ?_
      refine G_iald (lo := -2147483648) (hi := 2147483647) (ln := 8) zk_112_216 rfl rfl vd_28 (by omega) (by omega) (by omega) (fun σ' h => h.1.1) (fun _ h => (by have q := h.1; omega)) (pc' := 217) rfl (fun y42 hy42 hy42' => ?_)
      refine T_goto zk_112_217 ?_
      exact T_iret zk_112_223 rfl (fun σ' h => ⟨_, rfl, (by omega), h.1, trivial⟩)
  by_cases h43 : p0 = 15
  · subst h43
    refine T_br (t := 197) zk_112_1 rfl rfl rfl (fun _ => rfl) rfl ?_
    refine T_ld zk_112_197 rfl rfl rfl (pc' := 198) rfl ?_
    refine T_op zk_112_198 rfl (X_bi (v := 11) (by decide)) (pc' := 200) rfl ?_
    refine T_op zk_112_200 rfl (X_bi (v := 17) (by decide)) (pc' := 202) rfl ?_
    refine T_calli (K := fun y44 σ' => ((y44 = 0 ∧ (15 < 11 ∨ 17 < 15)) ∨ (y44 = 1 ∧ 11 ≤ 15 ∧ 15 ≤ 17)) ∧ (fun σ' => IF MN σ σ' ∧ True) σ') (r := []) zk_112_202 rfl rfl rfl rfl rfl rfl (Or.inl (Or.inl rfl)) (fun σ' h => (w_114 15 11 17 (by omega) (by omega) (by omega) σ' h.1.1 ).le (Nat.le_of_ble_eq_true rfl) (fun v σ2 ⟨y, h1, h2, h3, h4⟩ => ⟨y, h1, h2, h.1.tr h3 MN_sub, trivial⟩)) (pc' := 205) rfl (fun y44 => ?_)
    refine G_ex (fun hy44 => ?_)
    refine T_if_eq zk_112_205 (by omega) (pc' := 208) rfl (fun h45 => ?_) (fun h46 => ?_)
    ·
      refine T_ldcw zk_112_220 (pc' := 223) rfl ?_
      exact T_iret zk_112_223 rfl (fun σ' h => ⟨_, rfl, (by omega), h.1, trivial⟩)
    ·
      refine T_ld zk_112_208 rfl rfl rfl (pc' := 209) rfl ?_
      refine T_getR (t' := 28) (i' := 0) (k' := 0) zk_112_209 rfl rfl rfl vd_0 (pc' := 212) rfl ?_
      refine T_ld zk_112_212 rfl rfl rfl (pc' := 213) rfl ?_
      refine T_op zk_112_213 rfl (X_bi (v := 10) (by decide)) (pc' := 215) rfl ?_
      refine T_opc (w := 5) zk_112_215 rfl X_sub (by omega) (pc' := 216) rfl ?_
      refine G_iald (lo := -2147483648) (hi := 2147483647) (ln := 8) zk_112_216 rfl rfl vd_28 (by omega) (by omega) (by omega) (fun σ' h => h.1.1) (fun _ h => (by have q := h.1; omega)) (pc' := 217) rfl (fun y47 hy47 hy47' => ?_)
      refine T_goto zk_112_217 ?_
      exact T_iret zk_112_223 rfl (fun σ' h => ⟨_, rfl, (by omega), h.1, trivial⟩)
  by_cases h48 : p0 = 16
  · subst h48
    refine T_br (t := 197) zk_112_1 rfl rfl rfl (fun _ => rfl) rfl ?_
    refine T_ld zk_112_197 rfl rfl rfl (pc' := 198) rfl ?_
    refine T_op zk_112_198 rfl (X_bi (v := 11) (by decide)) (pc' := 200) rfl ?_
    refine T_op zk_112_200 rfl (X_bi (v := 17) (by decide)) (pc' := 202) rfl ?_
    refine T_calli (K := fun y49 σ' => ((y49 = 0 ∧ (16 < 11 ∨ 17 < 16)) ∨ (y49 = 1 ∧ 11 ≤ 16 ∧ 16 ≤ 17)) ∧ (fun σ' => IF MN σ σ' ∧ True) σ') (r := []) zk_112_202 rfl rfl rfl rfl rfl rfl (Or.inl (Or.inl rfl)) (fun σ' h => (w_114 16 11 17 (by omega) (by omega) (by omega) σ' h.1.1 ).le (Nat.le_of_ble_eq_true rfl) (fun v σ2 ⟨y, h1, h2, h3, h4⟩ => ⟨y, h1, h2, h.1.tr h3 MN_sub, trivial⟩)) (pc' := 205) rfl (fun y49 => ?_)
    refine G_ex (fun hy49 => ?_)
    refine T_if_eq zk_112_205 (by omega) (pc' := 208) rfl (fun h50 => ?_) (fun h51 => ?_)
    ·
      refine T_ldcw zk_112_220 (pc' := 223) rfl ?_
      exact T_iret zk_112_223 rfl (fun σ' h => ⟨_, rfl, (by omega), h.1, trivial⟩)
    ·
      refine T_ld zk_112_208 rfl rfl rfl (pc' := 209) rfl ?_
      refine T_getR (t' := 28) (i' := 0) (k' := 0) zk_112_209 rfl rfl rfl vd_0 (pc' := 212) rfl ?_
      refine T_ld zk_112_212 rfl rfl rfl (pc' := 213) rfl ?_
      refine T_op zk_112_213 rfl (X_bi (v := 10) (by decide)) (pc' := 215) rfl ?_
      refine T_opc (w := 6) zk_112_215 rfl X_sub (by omega) (pc' := 216) rfl ?_
      refine G_iald (lo := -2147483648) (hi := 2147483647) (ln := 8) zk_112_216 rfl rfl vd_28 (by omega) (by omega) (by omega) (fun σ' h => h.1.1) (fun _ h => (by have q := h.1; omega)) (pc' := 217) rfl (fun y52 hy52 hy52' => ?_)
      refine T_goto zk_112_217 ?_
      exact T_iret zk_112_223 rfl (fun σ' h => ⟨_, rfl, (by omega), h.1, trivial⟩)
  by_cases h53 : p0 = 17
  · subst h53
    refine T_br (t := 197) zk_112_1 rfl rfl rfl (fun _ => rfl) rfl ?_
    refine T_ld zk_112_197 rfl rfl rfl (pc' := 198) rfl ?_
    refine T_op zk_112_198 rfl (X_bi (v := 11) (by decide)) (pc' := 200) rfl ?_
    refine T_op zk_112_200 rfl (X_bi (v := 17) (by decide)) (pc' := 202) rfl ?_
    refine T_calli (K := fun y54 σ' => ((y54 = 0 ∧ (17 < 11 ∨ 17 < 17)) ∨ (y54 = 1 ∧ 11 ≤ 17 ∧ 17 ≤ 17)) ∧ (fun σ' => IF MN σ σ' ∧ True) σ') (r := []) zk_112_202 rfl rfl rfl rfl rfl rfl (Or.inl (Or.inl rfl)) (fun σ' h => (w_114 17 11 17 (by omega) (by omega) (by omega) σ' h.1.1 ).le (Nat.le_of_ble_eq_true rfl) (fun v σ2 ⟨y, h1, h2, h3, h4⟩ => ⟨y, h1, h2, h.1.tr h3 MN_sub, trivial⟩)) (pc' := 205) rfl (fun y54 => ?_)
    refine G_ex (fun hy54 => ?_)
    refine T_if_eq zk_112_205 (by omega) (pc' := 208) rfl (fun h55 => ?_) (fun h56 => ?_)
    ·
      refine T_ldcw zk_112_220 (pc' := 223) rfl ?_
      exact T_iret zk_112_223 rfl (fun σ' h => ⟨_, rfl, (by omega), h.1, trivial⟩)
    ·
      refine T_ld zk_112_208 rfl rfl rfl (pc' := 209) rfl ?_
      refine T_getR (t' := 28) (i' := 0) (k' := 0) zk_112_209 rfl rfl rfl vd_0 (pc' := 212) rfl ?_
      refine T_ld zk_112_212 rfl rfl rfl (pc' := 213) rfl ?_
      refine T_op zk_112_213 rfl (X_bi (v := 10) (by decide)) (pc' := 215) rfl ?_
      refine T_opc (w := 7) zk_112_215 rfl X_sub (by omega) (pc' := 216) rfl ?_
      refine G_iald (lo := -2147483648) (hi := 2147483647) (ln := 8) zk_112_216 rfl rfl vd_28 (by omega) (by omega) (by omega) (fun σ' h => h.1.1) (fun _ h => (by have q := h.1; omega)) (pc' := 217) rfl (fun y57 hy57 hy57' => ?_)
      refine T_goto zk_112_217 ?_
      exact T_iret zk_112_223 rfl (fun σ' h => ⟨_, rfl, (by omega), h.1, trivial⟩)
  by_cases h58 : p0 = 18
  · subst h58
    refine T_br (t := 189) zk_112_1 rfl rfl rfl (fun _ => rfl) rfl ?_
    refine T_ld zk_112_189 rfl rfl rfl (pc' := 190) rfl ?_
    refine T_getR (t' := 1) (i' := 0) (k' := 0) zk_112_190 rfl rfl rfl vd_0 (pc' := 193) rfl ?_
    refine G_getf (lo := -2147483648) (hi := 2147483647) zk_112_193 rfl (vd_1 (by omega)) (fun σ' h => h.1.1) (fun _ h => (by have q := h.1; omega)) (pc' := 196) rfl (fun y59 hy59 hy59' => ?_)
    exact T_iret zk_112_196 rfl (fun σ' h => ⟨_, rfl, (by omega), h.1, trivial⟩)
  refine T_tso (t := 197) zk_112_1 (by omega) (by omega) (by omega) ?_
  refine T_ld zk_112_197 rfl rfl rfl (pc' := 198) rfl ?_
  refine T_op zk_112_198 rfl (X_bi (v := 11) (by decide)) (pc' := 200) rfl ?_
  refine T_op zk_112_200 rfl (X_bi (v := 17) (by decide)) (pc' := 202) rfl ?_
  refine T_calli (K := fun y60 σ' => ((y60 = 0 ∧ (p0 < 11 ∨ 17 < p0)) ∨ (y60 = 1 ∧ 11 ≤ p0 ∧ p0 ≤ 17)) ∧ (fun σ' => IF MN σ σ' ∧ True) σ') (r := []) zk_112_202 rfl rfl rfl rfl rfl rfl (Or.inl (Or.inl rfl)) (fun σ' h => (w_114 p0 11 17 (by omega) (by omega) (by omega) σ' h.1.1 ).le (Nat.le_of_ble_eq_true rfl) (fun v σ2 ⟨y, h1, h2, h3, h4⟩ => ⟨y, h1, h2, h.1.tr h3 MN_sub, trivial⟩)) (pc' := 205) rfl (fun y60 => ?_)
  refine G_ex (fun hy60 => ?_)
  refine T_if_eq zk_112_205 (by omega) (pc' := 208) rfl (fun h61 => ?_) (fun h62 => ?_)
  ·
    refine T_ldcw zk_112_220 (pc' := 223) rfl ?_
    exact T_iret zk_112_223 rfl (fun σ' h => ⟨_, rfl, (by omega), h.1, trivial⟩)
  ·
    refine T_ld zk_112_208 rfl rfl rfl (pc' := 209) rfl ?_
    refine T_getR (t' := 28) (i' := 0) (k' := 0) zk_112_209 rfl rfl rfl vd_0 (pc' := 212) rfl ?_
    refine T_ld zk_112_212 rfl rfl rfl (pc' := 213) rfl ?_
    refine T_op zk_112_213 rfl (X_bi (v := 10) (by decide)) (pc' := 215) rfl ?_
    refine T_op zk_112_215 rfl X_sub (pc' := 216) rfl ?_
    refine G_iald (lo := -2147483648) (hi := 2147483647) (ln := 8) zk_112_216 rfl rfl vd_28 (by omega) (by omega) (by omega) (fun σ' h => h.1.1) (fun _ h => (by have q := h.1; omega)) (pc' := 217) rfl (fun y63 hy63 hy63' => ?_)
    refine T_goto zk_112_217 ?_
    exact T_iret zk_112_223 rfl (fun σ' h => ⟨_, rfl, (by omega), h.1, trivial⟩)
