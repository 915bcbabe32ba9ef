theorem zk_127_0 : zc 127 0 = some (.iload_n 1, 0, 0, 0, 0) := rfl
theorem zk_127_1 : zc 127 1 = some (.invokestatic 99, 124, 1, 1, 128) := rfl
theorem zk_127_4 : zc 127 4 = some (.ifCond .ne 9, 13, 0, 0, 0) := rfl
theorem zk_127_7 : zc 127 7 = some (.aload_n 0, 0, 0, 0, 0) := rfl
theorem zk_127_8 : zc 127 8 = some (.iconst (-1), 0, 0, 0, 0) := rfl
theorem zk_127_9 : zc 127 9 = some (.invokevirtual 103, 123, 0, 2, 129) := rfl
theorem zk_127_12 : zc 127 12 = some (.ireturn, 0, 0, 0, 0) := rfl
theorem zk_127_13 : zc 127 13 = some (.iload_n 2, 0, 0, 0, 0) := rfl
theorem zk_127_14 : zc 127 14 = some (.ifCond .lt 9, 23, 0, 0, 0) := rfl
theorem zk_127_17 : zc 127 17 = some (.iload_n 2, 0, 0, 0, 0) := rfl
theorem zk_127_18 : zc 127 18 = some (.bipush 60, 0, 0, 0, 0) := rfl
theorem zk_127_20 : zc 127 20 = some (.if_icmp .le 10, 30, 0, 0, 0) := rfl
theorem zk_127_23 : zc 127 23 = some (.aload_n 0, 0, 0, 0, 0) := rfl
theorem zk_127_24 : zc 127 24 = some (.bipush (-6), 0, 0, 0, 0) := rfl
theorem zk_127_26 : zc 127 26 = some (.invokevirtual 103, 123, 0, 2, 129) := rfl
theorem zk_127_29 : zc 127 29 = some (.ireturn, 0, 0, 0, 0) := rfl
theorem zk_127_30 : zc 127 30 = some (.aload_n 0, 0, 0, 0, 0) := rfl
theorem zk_127_31 : zc 127 31 = some (.getfield 7, 11, 0, 0, 139) := rfl
theorem zk_127_34 : zc 127 34 = some (.iconst 0, 0, 0, 0, 0) := rfl
theorem zk_127_35 : zc 127 35 = some (.iload_n 1, 0, 0, 0, 0) := rfl
theorem zk_127_36 : zc 127 36 = some (.iadd, 0, 0, 0, 0) := rfl
theorem zk_127_37 : zc 127 37 = some (.iaload, 0, 0, 0, 0) := rfl
theorem zk_127_38 : zc 127 38 = some (.istore_n 3, 0, 0, 0, 0) := rfl
theorem zk_127_39 : zc 127 39 = some (.aload_n 0, 0, 0, 0, 0) := rfl
theorem zk_127_40 : zc 127 40 = some (.getfield 7, 11, 0, 0, 139) := rfl
theorem zk_127_43 : zc 127 43 = some (.iconst 0, 0, 0, 0, 0) := rfl
theorem zk_127_44 : zc 127 44 = some (.iload_n 1, 0, 0, 0, 0) := rfl
theorem zk_127_45 : zc 127 45 = some (.iadd, 0, 0, 0, 0) := rfl
theorem zk_127_46 : zc 127 46 = some (.iload_n 2, 0, 0, 0, 0) := rfl
theorem zk_127_47 : zc 127 47 = some (.iastore, 0, 0, 0, 0) := rfl
theorem zk_127_48 : zc 127 48 = some (.iload_n 3, 0, 0, 0, 0) := rfl
theorem zk_127_49 : zc 127 49 = some (.ireturn, 0, 0, 0, 0) := rfl
theorem zk_128_0 : zc 128 0 = some (.iload_n 1, 0, 0, 0, 0) := rfl
theorem zk_128_1 : zc 128 1 = some (.invokestatic 99, 124, 1, 1, 128) := rfl
theorem zk_128_4 : zc 128 4 = some (.ifCond .ne 9, 13, 0, 0, 0) := rfl
theorem zk_128_7 : zc 128 7 = some (.aload_n 0, 0, 0, 0, 0) := rfl
theorem zk_128_8 : zc 128 8 = some (.iconst (-1), 0, 0, 0, 0) := rfl
theorem zk_128_9 : zc 128 9 = some (.invokevirtual 103, 123, 0, 2, 129) := rfl
theorem zk_128_12 : zc 128 12 = some (.ireturn, 0, 0, 0, 0) := rfl
theorem zk_128_13 : zc 128 13 = some (.iload_n 2, 0, 0, 0, 0) := rfl
theorem zk_128_14 : zc 128 14 = some (.sipush (-300), 0, 0, 0, 0) := rfl
theorem zk_128_17 : zc 128 17 = some (.if_icmp .lt 10, 27, 0, 0, 0) := rfl
theorem zk_128_20 : zc 128 20 = some (.iload_n 2, 0, 0, 0, 0) := rfl
theorem zk_128_21 : zc 128 21 = some (.sipush 300, 0, 0, 0, 0) := rfl
theorem zk_128_24 : zc 128 24 = some (.if_icmp .le 10, 34, 0, 0, 0) := rfl
theorem zk_128_27 : zc 128 27 = some (.aload_n 0, 0, 0, 0, 0) := rfl
theorem zk_128_28 : zc 128 28 = some (.bipush (-6), 0, 0, 0, 0) := rfl
theorem zk_128_30 : zc 128 30 = some (.invokevirtual 103, 123, 0, 2, 129) := rfl
theorem zk_128_33 : zc 128 33 = some (.ireturn, 0, 0, 0, 0) := rfl
theorem zk_128_34 : zc 128 34 = some (.aload_n 0, 0, 0, 0, 0) := rfl
theorem zk_128_35 : zc 128 35 = some (.getfield 7, 11, 0, 0, 139) := rfl
theorem zk_128_38 : zc 128 38 = some (.bipush 25, 0, 0, 0, 0) := rfl
theorem zk_128_40 : zc 128 40 = some (.iload_n 1, 0, 0, 0, 0) := rfl
theorem zk_128_41 : zc 128 41 = some (.iadd, 0, 0, 0, 0) := rfl
theorem zk_128_42 : zc 128 42 = some (.iaload, 0, 0, 0, 0) := rfl
theorem zk_128_43 : zc 128 43 = some (.istore_n 3, 0, 0, 0, 0) := rfl
theorem zk_128_44 : zc 128 44 = some (.aload_n 0, 0, 0, 0, 0) := rfl
theorem zk_128_45 : zc 128 45 = some (.getfield 7, 11, 0, 0, 139) := rfl
theorem zk_128_48 : zc 128 48 = some (.bipush 25, 0, 0, 0, 0) := rfl
theorem zk_128_50 : zc 128 50 = some (.iload_n 1, 0, 0, 0, 0) := rfl
theorem zk_128_51 : zc 128 51 = some (.iadd, 0, 0, 0, 0) := rfl
theorem zk_128_52 : zc 128 52 = some (.iload_n 2, 0, 0, 0, 0) := rfl
theorem zk_128_53 : zc 128 53 = some (.iastore, 0, 0, 0, 0) := rfl
theorem zk_128_54 : zc 128 54 = some (.aload_n 0, 0, 0, 0, 0) := rfl
theorem zk_128_55 : zc 128 55 = some (.getfield 7, 11, 0, 0, 139) := rfl
theorem zk_128_58 : zc 128 58 = some (.sipush 645, 0, 0, 0, 0) := rfl
theorem zk_128_61 : zc 128 61 = some (.dup2, 0, 0, 0, 0) := rfl
theorem zk_128_62 : zc 128 62 = some (.iaload, 0, 0, 0, 0) := rfl
theorem zk_128_63 : zc 128 63 = some (.iload_n 2, 0, 0, 0, 0) := rfl
theorem zk_128_64 : zc 128 64 = some (.iload_n 3, 0, 0, 0, 0) := rfl
theorem zk_128_65 : zc 128 65 = some (.isub, 0, 0, 0, 0) := rfl
theorem zk_128_66 : zc 128 66 = some (.iadd, 0, 0, 0, 0) := rfl
theorem zk_128_67 : zc 128 67 = some (.iastore, 0, 0, 0, 0) := rfl
theorem zk_128_68 : zc 128 68 = some (.iload_n 3, 0, 0, 0, 0) := rfl
theorem zk_128_69 : zc 128 69 = some (.ireturn, 0, 0, 0, 0) := rfl
theorem zk_130_0 : zc 130 0 = some (.iload_n 1, 0, 0, 0, 0) := rfl
theorem zk_130_1 : zc 130 1 = some (.iload_n 2, 0, 0, 0, 0) := rfl
theorem zk_130_2 : zc 130 2 = some (.invokestatic 107, 126, 1, 2, 130) := rfl
theorem zk_130_5 : zc 130 5 = some (.istore 4, 0, 0, 0, 0) := rfl
theorem zk_130_7 : zc 130 7 = some (.iload 4, 0, 0, 0, 0) := rfl
theorem zk_130_9 : zc 130 9 = some (.iconst (-1), 0, 0, 0, 0) := rfl
theorem zk_130_10 : zc 130 10 = some (.if_icmp .ne 11, 21, 0, 0, 0) := rfl
theorem zk_130_13 : zc 130 13 = some (.aload_n 0, 0, 0, 0, 0) := rfl
theorem zk_130_14 : zc 130 14 = some (.iconst (-1), 0, 0, 0, 0) := rfl
theorem zk_130_15 : zc 130 15 = some (.invokevirtual 103, 123, 0, 2, 129) := rfl
theorem zk_130_18 : zc 130 18 = some (.goto 13, 31, 0, 0, 0) := rfl
theorem zk_130_21 : zc 130 21 = some (.aload_n 0, 0, 0, 0, 0) := rfl
theorem zk_130_22 : zc 130 22 = some (.bipush 100, 0, 0, 0, 0) := rfl
theorem zk_130_24 : zc 130 24 = some (.iload 4, 0, 0, 0, 0) := rfl
theorem zk_130_26 : zc 130 26 = some (.iadd, 0, 0, 0, 0) := rfl
theorem zk_130_27 : zc 130 27 = some (.iload_n 3, 0, 0, 0, 0) := rfl
theorem zk_130_28 : zc 130 28 = some (.invokevirtual 111, 129, 0, 3, 131) := rfl
theorem zk_130_31 : zc 130 31 = some (.ireturn, 0, 0, 0, 0) := rfl
theorem zk_131_0 : zc 131 0 = some (.iload_n 1, 0, 0, 0, 0) := rfl
theorem zk_131_1 : zc 131 1 = some (.iload_n 2, 0, 0, 0, 0) := rfl
theorem zk_131_2 : zc 131 2 = some (.invokestatic 107, 126, 1, 2, 130) := rfl
theorem zk_131_5 : zc 131 5 = some (.istore 4, 0, 0, 0, 0) := rfl
theorem zk_131_7 : zc 131 7 = some (.iload 4, 0, 0, 0, 0) := rfl
theorem zk_131_9 : zc 131 9 = some (.iconst (-1), 0, 0, 0, 0) := rfl
theorem zk_131_10 : zc 131 10 = some (.if_icmp .ne 11, 21, 0, 0, 0) := rfl
theorem zk_131_13 : zc 131 13 = some (.aload_n 0, 0, 0, 0, 0) := rfl
theorem zk_131_14 : zc 131 14 = some (.iconst (-1), 0, 0, 0, 0) := rfl
theorem zk_131_15 : zc 131 15 = some (.invokevirtual 103, 123, 0, 2, 129) := rfl
theorem zk_131_18 : zc 131 18 = some (.goto 14, 32, 0, 0, 0) := rfl
theorem zk_131_21 : zc 131 21 = some (.aload_n 0, 0, 0, 0, 0) := rfl
theorem zk_131_22 : zc 131 22 = some (.sipush 150, 0, 0, 0, 0) := rfl
theorem zk_131_25 : zc 131 25 = some (.iload 4, 0, 0, 0, 0) := rfl
theorem zk_131_27 : zc 131 27 = some (.iadd, 0, 0, 0, 0) := rfl
theorem zk_131_28 : zc 131 28 = some (.iload_n 3, 0, 0, 0, 0) := rfl
theorem zk_131_29 : zc 131 29 = some (.invokevirtual 111, 129, 0, 3, 131) := rfl
theorem zk_131_32 : zc 131 32 = some (.ireturn, 0, 0, 0, 0) := rfl
theorem zk_132_0 : zc 132 0 = some (.iload_n 1, 0, 0, 0, 0) := rfl
theorem zk_132_1 : zc 132 1 = some (.iload_n 2, 0, 0, 0, 0) := rfl
theorem zk_132_2 : zc 132 2 = some (.invokestatic 107, 126, 1, 2, 130) := rfl
theorem zk_132_5 : zc 132 5 = some (.istore 4, 0, 0, 0, 0) := rfl
theorem zk_132_7 : zc 132 7 = some (.iload 4, 0, 0, 0, 0) := rfl
theorem zk_132_9 : zc 132 9 = some (.iconst (-1), 0, 0, 0, 0) := rfl
theorem zk_132_10 : zc 132 10 = some (.if_icmp .ne 9, 19, 0, 0, 0) := rfl
theorem zk_132_13 : zc 132 13 = some (.aload_n 0, 0, 0, 0, 0) := rfl
theorem zk_132_14 : zc 132 14 = some (.iconst (-1), 0, 0, 0, 0) := rfl
theorem zk_132_15 : zc 132 15 = some (.invokevirtual 103, 123, 0, 2, 129) := rfl
theorem zk_132_18 : zc 132 18 = some (.ireturn, 0, 0, 0, 0) := rfl
theorem zk_132_19 : zc 132 19 = some (.iload_n 3, 0, 0, 0, 0) := rfl
theorem zk_132_20 : zc 132 20 = some (.iconst (-1), 0, 0, 0, 0) := rfl
theorem zk_132_21 : zc 132 21 = some (.if_icmp .lt 9, 30, 0, 0, 0) := rfl
theorem zk_132_24 : zc 132 24 = some (.iload_n 3, 0, 0, 0, 0) := rfl
theorem zk_132_25 : zc 132 25 = some (.bipush 99, 0, 0, 0, 0) := rfl
theorem zk_132_27 : zc 132 27 = some (.if_icmp .le 10, 37, 0, 0, 0) := rfl
theorem zk_132_30 : zc 132 30 = some (.aload_n 0, 0, 0, 0, 0) := rfl
theorem zk_132_31 : zc 132 31 = some (.bipush (-6), 0, 0, 0, 0) := rfl
theorem zk_132_33 : zc 132 33 = some (.invokevirtual 103, 123, 0, 2, 129) := rfl
theorem zk_132_36 : zc 132 36 = some (.ireturn, 0, 0, 0, 0) := rfl
theorem zk_132_37 : zc 132 37 = some (.aload_n 0, 0, 0, 0, 0) := rfl
theorem zk_132_38 : zc 132 38 = some (.getfield 7, 11, 0, 0, 139) := rfl
theorem zk_132_41 : zc 132 41 = some (.sipush 200, 0, 0, 0, 0) := rfl
theorem zk_132_44 : zc 132 44 = some (.iload 4, 0, 0, 0, 0) := rfl
theorem zk_132_46 : zc 132 46 = some (.iadd, 0, 0, 0, 0) := rfl
theorem zk_132_47 : zc 132 47 = some (.iaload, 0, 0, 0, 0) := rfl
theorem zk_132_48 : zc 132 48 = some (.istore 5, 0, 0, 0, 0) := rfl
theorem zk_132_50 : zc 132 50 = some (.aload_n 0, 0, 0, 0, 0) := rfl
theorem zk_132_51 : zc 132 51 = some (.getfield 7, 11, 0, 0, 139) := rfl
theorem zk_132_54 : zc 132 54 = some (.sipush 200, 0, 0, 0, 0) := rfl
theorem zk_132_57 : zc 132 57 = some (.iload 4, 0, 0, 0, 0) := rfl
theorem zk_132_59 : zc 132 59 = some (.iadd, 0, 0, 0, 0) := rfl
theorem zk_132_60 : zc 132 60 = some (.iload_n 3, 0, 0, 0, 0) := rfl
theorem zk_132_61 : zc 132 61 = some (.iastore, 0, 0, 0, 0) := rfl
theorem zk_132_62 : zc 132 62 = some (.iload 5, 0, 0, 0, 0) := rfl
theorem zk_132_64 : zc 132 64 = some (.ireturn, 0, 0, 0, 0) := rfl
theorem zk_133_0 : zc 133 0 = some (.iload_n 1, 0, 0, 0, 0) := rfl
theorem zk_133_1 : zc 133 1 = some (.invokestatic 99, 124, 1, 1, 128) := rfl
theorem zk_133_4 : zc 133 4 = some (.ifCond .ne 9, 13, 0, 0, 0) := rfl
theorem zk_133_7 : zc 133 7 = some (.aload_n 0, 0, 0, 0, 0) := rfl
theorem zk_133_8 : zc 133 8 = some (.iconst (-1), 0, 0, 0, 0) := rfl
theorem zk_133_9 : zc 133 9 = some (.invokevirtual 103, 123, 0, 2, 129) := rfl
theorem zk_133_12 : zc 133 12 = some (.ireturn, 0, 0, 0, 0) := rfl
theorem zk_133_13 : zc 133 13 = some (.iconst 0, 0, 0, 0, 0) := rfl
theorem zk_133_14 : zc 133 14 = some (.istore_n 2, 0, 0, 0, 0) := rfl
theorem zk_133_15 : zc 133 15 = some (.iload_n 2, 0, 0, 0, 0) := rfl
theorem zk_133_16 : zc 133 16 = some (.aload_n 0, 0, 0, 0, 0) := rfl
theorem zk_133_17 : zc 133 17 = some (.getfield 7, 11, 0, 0, 139) := rfl
theorem zk_133_20 : zc 133 20 = some (.sipush 633, 0, 0, 0, 0) := rfl
theorem zk_133_23 : zc 133 23 = some (.iaload, 0, 0, 0, 0) := rfl
theorem zk_133_24 : zc 133 24 = some (.if_icmp .ge 30, 54, 0, 0, 0) := rfl
theorem zk_133_54 : zc 133 54 = some (.aload_n 0, 0, 0, 0, 0) := rfl
theorem zk_133_55 : zc 133 55 = some (.getfield 7, 11, 0, 0, 139) := rfl
theorem zk_133_58 : zc 133 58 = some (.sipush 633, 0, 0, 0, 0) := rfl
theorem zk_133_61 : zc 133 61 = some (.iaload, 0, 0, 0, 0) := rfl
theorem zk_133_62 : zc 133 62 = some (.iconst 3, 0, 0, 0, 0) := rfl
theorem zk_133_63 : zc 133 63 = some (.if_icmp .ne 10, 73, 0, 0, 0) := rfl
theorem zk_133_73 : zc 133 73 = some (.aload_n 0, 0, 0, 0, 0) := rfl
theorem zk_133_74 : zc 133 74 = some (.getfield 7, 11, 0, 0, 139) := rfl
theorem zk_133_77 : zc 133 77 = some (.sipush 250, 0, 0, 0, 0) := rfl
theorem zk_133_80 : zc 133 80 = some (.aload_n 0, 0, 0, 0, 0) := rfl
theorem zk_133_81 : zc 133 81 = some (.getfield 7, 11, 0, 0, 139) := rfl
theorem zk_133_84 : zc 133 84 = some (.sipush 633, 0, 0, 0, 0) := rfl
theorem zk_133_87 : zc 133 87 = some (.iaload, 0, 0, 0, 0) := rfl
theorem zk_133_88 : zc 133 88 = some (.iadd, 0, 0, 0, 0) := rfl
theorem zk_133_89 : zc 133 89 = some (.iload_n 1, 0, 0, 0, 0) := rfl
theorem zk_133_90 : zc 133 90 = some (.iastore, 0, 0, 0, 0) := rfl
theorem zk_133_91 : zc 133 91 = some (.aload_n 0, 0, 0, 0, 0) := rfl
theorem zk_133_92 : zc 133 92 = some (.getfield 7, 11, 0, 0, 139) := rfl
theorem zk_133_95 : zc 133 95 = some (.sipush 253, 0, 0, 0, 0) := rfl
theorem zk_133_98 : zc 133 98 = some (.aload_n 0, 0, 0, 0, 0) := rfl
theorem zk_133_99 : zc 133 99 = some (.getfield 7, 11, 0, 0, 139) := rfl
theorem zk_133_102 : zc 133 102 = some (.sipush 633, 0, 0, 0, 0) := rfl
theorem zk_133_105 : zc 133 105 = some (.iaload, 0, 0, 0, 0) := rfl
theorem zk_133_106 : zc 133 106 = some (.iadd, 0, 0, 0, 0) := rfl
theorem zk_133_107 : zc 133 107 = some (.iconst 0, 0, 0, 0, 0) := rfl
theorem zk_133_108 : zc 133 108 = some (.iastore, 0, 0, 0, 0) := rfl
theorem zk_133_109 : zc 133 109 = some (.aload_n 0, 0, 0, 0, 0) := rfl
theorem zk_133_110 : zc 133 110 = some (.getfield 7, 11, 0, 0, 139) := rfl
theorem zk_133_113 : zc 133 113 = some (.sipush 633, 0, 0, 0, 0) := rfl
theorem zk_133_116 : zc 133 116 = some (.dup2, 0, 0, 0, 0) := rfl
theorem zk_133_117 : zc 133 117 = some (.iaload, 0, 0, 0, 0) := rfl
theorem zk_133_118 : zc 133 118 = some (.dup_x2, 0, 0, 0, 0) := rfl
theorem zk_133_119 : zc 133 119 = some (.iconst 1, 0, 0, 0, 0) := rfl
theorem zk_133_120 : zc 133 120 = some (.iadd, 0, 0, 0, 0) := rfl
theorem zk_133_121 : zc 133 121 = some (.iastore, 0, 0, 0, 0) := rfl
theorem zk_133_122 : zc 133 122 = some (.ireturn, 0, 0, 0, 0) := rfl
theorem zk_134_0 : zc 134 0 = some (.iload_n 1, 0, 0, 0, 0) := rfl
theorem zk_134_1 : zc 134 1 = some (.ifCond .lt 15, 16, 0, 0, 0) := rfl
theorem zk_134_4 : zc 134 4 = some (.iload_n 1, 0, 0, 0, 0) := rfl
theorem zk_134_5 : zc 134 5 = some (.aload_n 0, 0, 0, 0, 0) := rfl
theorem zk_134_6 : zc 134 6 = some (.getfield 7, 11, 0, 0, 139) := rfl
theorem zk_134_9 : zc 134 9 = some (.sipush 633, 0, 0, 0, 0) := rfl
theorem zk_134_12 : zc 134 12 = some (.iaload, 0, 0, 0, 0) := rfl
theorem zk_134_13 : zc 134 13 = some (.if_icmp .lt 11, 24, 0, 0, 0) := rfl
theorem zk_134_16 : zc 134 16 = some (.aload_n 0, 0, 0, 0, 0) := rfl
theorem zk_134_17 : zc 134 17 = some (.iconst (-1), 0, 0, 0, 0) := rfl
theorem zk_134_18 : zc 134 18 = some (.invokevirtual 103, 123, 0, 2, 129) := rfl
theorem zk_134_21 : zc 134 21 = some (.goto 13, 34, 0, 0, 0) := rfl
theorem zk_134_34 : zc 134 34 = some (.ireturn, 0, 0, 0, 0) := rfl
theorem zk_135_0 : zc 135 0 = some (.iload_n 1, 0, 0, 0, 0) := rfl
theorem zk_135_1 : zc 135 1 = some (.invokestatic 115, 125, 1, 1, 132) := rfl
theorem zk_135_4 : zc 135 4 = some (.ifCond .ne 9, 13, 0, 0, 0) := rfl
theorem zk_135_7 : zc 135 7 = some (.aload_n 0, 0, 0, 0, 0) := rfl
theorem zk_135_8 : zc 135 8 = some (.iconst (-1), 0, 0, 0, 0) := rfl
theorem zk_135_9 : zc 135 9 = some (.invokevirtual 103, 123, 0, 2, 129) := rfl
theorem zk_135_12 : zc 135 12 = some (.ireturn, 0, 0, 0, 0) := rfl
theorem zk_135_13 : zc 135 13 = some (.iload_n 3, 0, 0, 0, 0) := rfl
theorem zk_135_14 : zc 135 14 = some (.ifCond .ge 10, 24, 0, 0, 0) := rfl
theorem zk_135_17 : zc 135 17 = some (.aload_n 0, 0, 0, 0, 0) := rfl
theorem zk_135_18 : zc 135 18 = some (.bipush (-4), 0, 0, 0, 0) := rfl
theorem zk_135_20 : zc 135 20 = some (.invokevirtual 103, 123, 0, 2, 129) := rfl
theorem zk_135_23 : zc 135 23 = some (.ireturn, 0, 0, 0, 0) := rfl
theorem zk_135_24 : zc 135 24 = some (.iload_n 2, 0, 0, 0, 0) := rfl
theorem zk_135_25 : zc 135 25 = some (.ifCond .lt 8, 33, 0, 0, 0) := rfl
theorem zk_135_28 : zc 135 28 = some (.iload_n 2, 0, 0, 0, 0) := rfl
theorem zk_135_29 : zc 135 29 = some (.iconst 3, 0, 0, 0, 0) := rfl
theorem zk_135_30 : zc 135 30 = some (.if_icmp .le 10, 40, 0, 0, 0) := rfl
theorem zk_135_33 : zc 135 33 = some (.aload_n 0, 0, 0, 0, 0) := rfl
theorem zk_135_34 : zc 135 34 = some (.bipush (-6), 0, 0, 0, 0) := rfl
theorem zk_135_36 : zc 135 36 = some (.invokevirtual 103, 123, 0, 2, 129) := rfl
theorem zk_135_39 : zc 135 39 = some (.ireturn, 0, 0, 0, 0) := rfl
theorem zk_135_40 : zc 135 40 = some (.iload_n 3, 0, 0, 0, 0) := rfl
theorem zk_135_41 : zc 135 41 = some (.bipush 96, 0, 0, 0, 0) := rfl
theorem zk_135_43 : zc 135 43 = some (.if_icmp .le 10, 53, 0, 0, 0) := rfl
theorem zk_135_46 : zc 135 46 = some (.aload_n 0, 0, 0, 0, 0) := rfl
theorem zk_135_47 : zc 135 47 = some (.bipush (-7), 0, 0, 0, 0) := rfl
theorem zk_135_49 : zc 135 49 = some (.invokevirtual 103, 123, 0, 2, 129) := rfl
theorem zk_135_52 : zc 135 52 = some (.ireturn, 0, 0, 0, 0) := rfl
theorem zk_135_53 : zc 135 53 = some (.aload_n 0, 0, 0, 0, 0) := rfl
theorem zk_135_54 : zc 135 54 = some (.getfield 19, 11, 4, 0, 142) := rfl
theorem zk_135_57 : zc 135 57 = some (.iload_n 1, 0, 0, 0, 0) := rfl
theorem zk_135_58 : zc 135 58 = some (.iconst 1, 0, 0, 0, 0) := rfl
theorem zk_135_59 : zc 135 59 = some (.iastore, 0, 0, 0, 0) := rfl
theorem zk_135_60 : zc 135 60 = some (.aload_n 0, 0, 0, 0, 0) := rfl
theorem zk_135_61 : zc 135 61 = some (.getfield 22, 11, 5, 0, 143) := rfl
theorem zk_135_64 : zc 135 64 = some (.iload_n 1, 0, 0, 0, 0) := rfl
theorem zk_135_65 : zc 135 65 = some (.iload_n 2, 0, 0, 0, 0) := rfl
theorem zk_135_66 : zc 135 66 = some (.iastore, 0, 0, 0, 0) := rfl
theorem zk_135_67 : zc 135 67 = some (.aload_n 0, 0, 0, 0, 0) := rfl
theorem zk_135_68 : zc 135 68 = some (.getfield 25, 11, 6, 0, 144) := rfl
theorem zk_135_71 : zc 135 71 = some (.iload_n 1, 0, 0, 0, 0) := rfl
theorem zk_135_72 : zc 135 72 = some (.iload_n 3, 0, 0, 0, 0) := rfl
theorem zk_135_73 : zc 135 73 = some (.iastore, 0, 0, 0, 0) := rfl
theorem zk_135_74 : zc 135 74 = some (.iconst 0, 0, 0, 0, 0) := rfl
theorem zk_135_75 : zc 135 75 = some (.istore 4, 0, 0, 0, 0) := rfl
theorem zk_135_77 : zc 135 77 = some (.iload 4, 0, 0, 0, 0) := rfl
theorem zk_135_79 : zc 135 79 = some (.bipush 96, 0, 0, 0, 0) := rfl
theorem zk_135_81 : zc 135 81 = some (.if_icmp .ge 22, 103, 0, 0, 0) := rfl
theorem zk_135_84 : zc 135 84 = some (.aload_n 0, 0, 0, 0, 0) := rfl
theorem zk_135_85 : zc 135 85 = some (.getfield 31, 11, 8, 0, 146) := rfl
theorem zk_135_88 : zc 135 88 = some (.bipush 96, 0, 0, 0, 0) := rfl
theorem zk_135_90 : zc 135 90 = some (.iload_n 1, 0, 0, 0, 0) := rfl
theorem zk_135_91 : zc 135 91 = some (.imul, 0, 0, 0, 0) := rfl
theorem zk_135_92 : zc 135 92 = some (.iload 4, 0, 0, 0, 0) := rfl
theorem zk_135_94 : zc 135 94 = some (.iadd, 0, 0, 0, 0) := rfl
theorem zk_135_95 : zc 135 95 = some (.lconst 0, 0, 0, 0, 0) := rfl
theorem zk_135_96 : zc 135 96 = some (.lastore, 0, 0, 0, 0) := rfl
theorem zk_135_97 : zc 135 97 = some (.iinc 4 1, 0, 0, 0, 0) := rfl
theorem zk_135_100 : zc 135 100 = some (.goto (-23), 77, 0, 0, 0) := rfl
theorem zk_135_103 : zc 135 103 = some (.iconst 1, 0, 0, 0, 0) := rfl
theorem zk_135_104 : zc 135 104 = some (.ireturn, 0, 0, 0, 0) := rfl
theorem zk_136_0 : zc 136 0 = some (.iload_n 1, 0, 0, 0, 0) := rfl
theorem zk_136_1 : zc 136 1 = some (.invokestatic 115, 125, 1, 1, 132) := rfl
theorem zk_136_4 : zc 136 4 = some (.ifCond .ne 9, 13, 0, 0, 0) := rfl
theorem zk_136_7 : zc 136 7 = some (.aload_n 0, 0, 0, 0, 0) := rfl
theorem zk_136_8 : zc 136 8 = some (.iconst (-1), 0, 0, 0, 0) := rfl
theorem zk_136_9 : zc 136 9 = some (.invokevirtual 103, 123, 0, 2, 129) := rfl
theorem zk_136_12 : zc 136 12 = some (.ireturn, 0, 0, 0, 0) := rfl
theorem zk_136_13 : zc 136 13 = some (.aload_n 0, 0, 0, 0, 0) := rfl
theorem zk_136_14 : zc 136 14 = some (.getfield 19, 11, 4, 0, 142) := rfl
theorem zk_136_17 : zc 136 17 = some (.iload_n 1, 0, 0, 0, 0) := rfl
theorem zk_136_18 : zc 136 18 = some (.iaload, 0, 0, 0, 0) := rfl
theorem zk_136_19 : zc 136 19 = some (.iconst 2, 0, 0, 0, 0) := rfl
theorem zk_136_20 : zc 136 20 = some (.if_icmp .ne 10, 30, 0, 0, 0) := rfl
theorem zk_136_30 : zc 136 30 = some (.aload_n 0, 0, 0, 0, 0) := rfl
theorem zk_136_31 : zc 136 31 = some (.getfield 19, 11, 4, 0, 142) := rfl
theorem zk_136_34 : zc 136 34 = some (.iload_n 1, 0, 0, 0, 0) := rfl
theorem zk_136_35 : zc 136 35 = some (.iaload, 0, 0, 0, 0) := rfl
theorem zk_136_36 : zc 136 36 = some (.ifCond .ne 10, 46, 0, 0, 0) := rfl
theorem zk_136_39 : zc 136 39 = some (.aload_n 0, 0, 0, 0, 0) := rfl
theorem zk_136_40 : zc 136 40 = some (.bipush (-3), 0, 0, 0, 0) := rfl
theorem zk_136_42 : zc 136 42 = some (.invokevirtual 103, 123, 0, 2, 129) := rfl
theorem zk_136_45 : zc 136 45 = some (.ireturn, 0, 0, 0, 0) := rfl
theorem zk_137_0 : zc 137 0 = some (.iload_n 1, 0, 0, 0, 0) := rfl
theorem zk_137_1 : zc 137 1 = some (.invokestatic 115, 125, 1, 1, 132) := rfl
theorem zk_137_4 : zc 137 4 = some (.ifCond .eq 10, 14, 0, 0, 0) := rfl
theorem zk_137_7 : zc 137 7 = some (.iload_n 2, 0, 0, 0, 0) := rfl
theorem zk_137_8 : zc 137 8 = some (.invokestatic 115, 125, 1, 1, 132) := rfl
theorem zk_137_11 : zc 137 11 = some (.ifCond .ne 9, 20, 0, 0, 0) := rfl
theorem zk_137_14 : zc 137 14 = some (.aload_n 0, 0, 0, 0, 0) := rfl
theorem zk_137_15 : zc 137 15 = some (.iconst (-1), 0, 0, 0, 0) := rfl
theorem zk_137_16 : zc 137 16 = some (.invokevirtual 103, 123, 0, 2, 129) := rfl
theorem zk_137_19 : zc 137 19 = some (.ireturn, 0, 0, 0, 0) := rfl
theorem zk_137_20 : zc 137 20 = some (.aload_n 0, 0, 0, 0, 0) := rfl
theorem zk_137_21 : zc 137 21 = some (.getfield 19, 11, 4, 0, 142) := rfl
theorem zk_137_24 : zc 137 24 = some (.iload_n 1, 0, 0, 0, 0) := rfl
theorem zk_137_25 : zc 137 25 = some (.iaload, 0, 0, 0, 0) := rfl
theorem zk_137_26 : zc 137 26 = some (.iconst 2, 0, 0, 0, 0) := rfl
theorem zk_137_27 : zc 137 27 = some (.if_icmp .eq 48, 75, 0, 0, 0) := rfl
theorem zk_137_30 : zc 137 30 = some (.aload_n 0, 0, 0, 0, 0) := rfl
theorem zk_137_31 : zc 137 31 = some (.getfield 19, 11, 4, 0, 142) := rfl
theorem zk_137_34 : zc 137 34 = some (.iload_n 2, 0, 0, 0, 0) := rfl
theorem zk_137_35 : zc 137 35 = some (.iaload, 0, 0, 0, 0) := rfl
theorem zk_137_36 : zc 137 36 = some (.iconst 2, 0, 0, 0, 0) := rfl
theorem zk_137_37 : zc 137 37 = some (.if_icmp .eq 38, 75, 0, 0, 0) := rfl
theorem zk_137_40 : zc 137 40 = some (.aload_n 0, 0, 0, 0, 0) := rfl
theorem zk_137_41 : zc 137 41 = some (.getfield 19, 11, 4, 0, 142) := rfl
theorem zk_137_44 : zc 137 44 = some (.iload_n 1, 0, 0, 0, 0) := rfl
theorem zk_137_45 : zc 137 45 = some (.iaload, 0, 0, 0, 0) := rfl
theorem zk_137_46 : zc 137 46 = some (.iconst 1, 0, 0, 0, 0) := rfl
theorem zk_137_47 : zc 137 47 = some (.if_icmp .ne 35, 82, 0, 0, 0) := rfl
theorem zk_137_82 : zc 137 82 = some (.aload_n 0, 0, 0, 0, 0) := rfl
theorem zk_137_83 : zc 137 83 = some (.getfield 19, 11, 4, 0, 142) := rfl
theorem zk_137_86 : zc 137 86 = some (.iload_n 1, 0, 0, 0, 0) := rfl
theorem zk_137_87 : zc 137 87 = some (.iaload, 0, 0, 0, 0) := rfl
theorem zk_137_88 : zc 137 88 = some (.ifCond .eq 12, 100, 0, 0, 0) := rfl
theorem zk_137_100 : zc 137 100 = some (.aload_n 0, 0, 0, 0, 0) := rfl
theorem zk_137_101 : zc 137 101 = some (.bipush (-3), 0, 0, 0, 0) := rfl
theorem zk_137_103 : zc 137 103 = some (.invokevirtual 103, 123, 0, 2, 129) := rfl
theorem zk_137_106 : zc 137 106 = some (.ireturn, 0, 0, 0, 0) := rfl
theorem zk_138_0 : zc 138 0 = some (.iload_n 1, 0, 0, 0, 0) := rfl
theorem zk_138_1 : zc 138 1 = some (.invokestatic 115, 125, 1, 1, 132) := rfl
theorem zk_138_4 : zc 138 4 = some (.ifCond .eq 41, 45, 0, 0, 0) := rfl
theorem zk_138_7 : zc 138 7 = some (.aload_n 0, 0, 0, 0, 0) := rfl
theorem zk_138_8 : zc 138 8 = some (.getfield 19, 11, 4, 0, 142) := rfl
theorem zk_138_11 : zc 138 11 = some (.iload_n 1, 0, 0, 0, 0) := rfl
theorem zk_138_12 : zc 138 12 = some (.iaload, 0, 0, 0, 0) := rfl
theorem zk_138_13 : zc 138 13 = some (.iconst 1, 0, 0, 0, 0) := rfl
theorem zk_138_14 : zc 138 14 = some (.if_icmp .ne 31, 45, 0, 0, 0) := rfl
theorem zk_138_45 : zc 138 45 = some (.lconst 0, 0, 0, 0, 0) := rfl
theorem zk_138_46 : zc 138 46 = some (.lreturn, 0, 0, 0, 0) := rfl
theorem zk_140_0 : zc 140 0 = some (.iload_n 1, 0, 0, 0, 0) := rfl
theorem zk_140_1 : zc 140 1 = some (.invokestatic 115, 125, 1, 1, 132) := rfl
theorem zk_140_4 : zc 140 4 = some (.ifCond .eq 16, 20, 0, 0, 0) := rfl
theorem zk_140_7 : zc 140 7 = some (.iload_n 2, 0, 0, 0, 0) := rfl
theorem zk_140_8 : zc 140 8 = some (.iconst (-1), 0, 0, 0, 0) := rfl
theorem zk_140_9 : zc 140 9 = some (.if_icmp .eq 17, 26, 0, 0, 0) := rfl
theorem zk_140_12 : zc 140 12 = some (.aload_n 0, 0, 0, 0, 0) := rfl
theorem zk_140_13 : zc 140 13 = some (.iload_n 2, 0, 0, 0, 0) := rfl
theorem zk_140_14 : zc 140 14 = some (.invokevirtual 118, 139, 0, 2, 133) := rfl
theorem zk_140_17 : zc 140 17 = some (.ifCond .ne 9, 26, 0, 0, 0) := rfl
theorem zk_140_20 : zc 140 20 = some (.aload_n 0, 0, 0, 0, 0) := rfl
theorem zk_140_21 : zc 140 21 = some (.iconst (-1), 0, 0, 0, 0) := rfl
theorem zk_140_22 : zc 140 22 = some (.invokevirtual 103, 123, 0, 2, 129) := rfl
theorem zk_140_25 : zc 140 25 = some (.ireturn, 0, 0, 0, 0) := rfl
theorem zk_140_26 : zc 140 26 = some (.aload_n 0, 0, 0, 0, 0) := rfl
theorem zk_140_27 : zc 140 27 = some (.getfield 19, 11, 4, 0, 142) := rfl
theorem zk_140_30 : zc 140 30 = some (.iload_n 1, 0, 0, 0, 0) := rfl
theorem zk_140_31 : zc 140 31 = some (.iload_n 2, 0, 0, 0, 0) := rfl
theorem zk_140_32 : zc 140 32 = some (.iconst (-1), 0, 0, 0, 0) := rfl
theorem zk_140_33 : zc 140 33 = some (.if_icmp .ne 7, 40, 0, 0, 0) := rfl
theorem zk_140_36 : zc 140 36 = some (.iconst 0, 0, 0, 0, 0) := rfl
theorem zk_140_37 : zc 140 37 = some (.goto 4, 41, 0, 0, 0) := rfl
theorem zk_140_41 : zc 140 41 = some (.iastore, 0, 0, 0, 0) := rfl
theorem zk_140_42 : zc 140 42 = some (.aload_n 0, 0, 0, 0, 0) := rfl
theorem zk_140_43 : zc 140 43 = some (.getfield 28, 11, 7, 0, 145) := rfl
theorem zk_140_46 : zc 140 46 = some (.iload_n 1, 0, 0, 0, 0) := rfl
theorem zk_140_47 : zc 140 47 = some (.iload_n 2, 0, 0, 0, 0) := rfl
theorem zk_140_48 : zc 140 48 = some (.iastore, 0, 0, 0, 0) := rfl
theorem zk_140_49 : zc 140 49 = some (.iload_n 2, 0, 0, 0, 0) := rfl
theorem zk_140_50 : zc 140 50 = some (.iconst (-1), 0, 0, 0, 0) := rfl
theorem zk_140_51 : zc 140 51 = some (.if_icmp .ne 7, 58, 0, 0, 0) := rfl
theorem zk_140_54 : zc 140 54 = some (.iconst 0, 0, 0, 0, 0) := rfl
theorem zk_140_55 : zc 140 55 = some (.goto 4, 59, 0, 0, 0) := rfl
theorem zk_140_59 : zc 140 59 = some (.ireturn, 0, 0, 0, 0) := rfl
theorem zk_141_0 : zc 141 0 = some (.iload_n 1, 0, 0, 0, 0) := rfl
theorem zk_141_1 : zc 141 1 = some (.invokestatic 115, 125, 1, 1, 132) := rfl
theorem zk_141_4 : zc 141 4 = some (.ifCond .eq 12, 16, 0, 0, 0) := rfl
theorem zk_141_7 : zc 141 7 = some (.aload_n 0, 0, 0, 0, 0) := rfl
theorem zk_141_8 : zc 141 8 = some (.getfield 19, 11, 4, 0, 142) := rfl
theorem zk_141_11 : zc 141 11 = some (.iload_n 1, 0, 0, 0, 0) := rfl
theorem zk_141_12 : zc 141 12 = some (.iaload, 0, 0, 0, 0) := rfl
theorem zk_141_13 : zc 141 13 = some (.ifCond .ne 5, 18, 0, 0, 0) := rfl
theorem zk_141_16 : zc 141 16 = some (.iconst (-1), 0, 0, 0, 0) := rfl
theorem zk_141_17 : zc 141 17 = some (.ireturn, 0, 0, 0, 0) := rfl
/-- WModel.depth -/
theorem m_depth {xs : Nat × (Nat → Int32)} (p0 : Int) (p1 : Int) (h0 : -2147483648 ≤ p0 ∧ p0 ≤ 2147483647) (h1 : -2147483648 ≤ p1 ∧ p1 ≤ 2147483647) (σ : ZS) (hI : Inv σ) (hm : ∀ t i k j, 35 ≤ t → σ t i k j = σ0 t i k j)  : CT xs 2 127 [av 35 0 0, iv p0, iv p1] σ (fun v σ' => ∃ y, v = some (iv y) ∧ ((y = -1 ∧ (¬ (0 ≤ p0 ∧ p0 ≤ 24))) ∨ (y = -6 ∧ ¬ (¬ (0 ≤ p0 ∧ p0 ≤ 24)) ∧ (¬ (0 ≤ p1 ∧ p1 ≤ 60))) ∨ (y = 20 ∧ ¬ (¬ (0 ≤ p0 ∧ p0 ≤ 24)) ∧ ¬ (¬ (0 ≤ p1 ∧ p1 ≤ 60)))) ∧ IF (MJ 0 25) σ σ' ∧ (True)) := by
  refine G_ct (J := (fun σ' => IF (MJ 0 25) σ σ' ∧ (∀ j, 0 ≤ j → j < 25 → σ' 36 0 0 j = 20) ∧ True)) (L := [(0, av 35 0 0), (1, iv p0), (2, iv p1)]) (nL := 4) rfl rfl rfl ⟨IF.rf hI, (fun j a b => ((hm _ _ _ _ (by decide)).trans (s0_a (by omega)))), trivial⟩ ?_
  refine T_ld zk_127_0 rfl rfl rfl (pc' := 1) rfl ?_
  refine T_calli (K := fun y1 σ' => ((y1 = 0 ∧ (p0 < 0 ∨ 24 < p0)) ∨ (y1 = 1 ∧ 0 ≤ p0 ∧ p0 ≤ 24)) ∧ (fun σ' => IF (MJ 0 25) σ σ' ∧ (∀ j, 0 ≤ j → j < 25 → σ' 36 0 0 j = 20) ∧ True) σ') (r := []) zk_127_1 rfl rfl rfl rfl rfl rfl (Or.inl (Or.inl rfl)) (fun σ' h => (m_124 p0 (by omega) σ' h.1.1 ).le (Nat.le_of_ble_eq_true rfl) (fun v σ2 ⟨y, h1, h2, h3, h4⟩ => ⟨y, h1, h2, h.1.tr h3 MN_sub, fun j a b => (h3.2 _ _ _ _ (fun q => q)).trans (h.2.1 j a b), trivial⟩)) (pc' := 4) rfl (fun y1 => ?_)
  refine G_ex (fun hy1 => ?_)
  refine T_if_ne zk_127_4 (by omega) (pc' := 7) rfl (fun h2 => ?_) (fun h3 => ?_)
  ·
    refine T_ld zk_127_13 rfl rfl rfl (pc' := 14) rfl ?_
    refine T_if_lt zk_127_14 (by omega) (pc' := 17) rfl (fun h4 => ?_) (fun h5 => ?_)
    ·
      refine T_ld zk_127_23 rfl rfl rfl (pc' := 24) rfl ?_
      refine T_op zk_127_24 rfl (X_bi (v := -6) (by decide)) (pc' := 26) rfl ?_
      refine T_calli (K := fun y6 σ' => (y6 = (-6)) ∧ (fun σ' => IF (MJ 0 25) σ σ' ∧ (∀ j, 0 ≤ j → j < 25 → σ' 36 0 0 j = 20) ∧ True) σ') (r := []) zk_127_26 rfl rfl rfl rfl rfl rfl (Or.inr ⟨_, _, _, _, rfl, vd_35, rfl⟩) (fun σ' h => (m_123 ((-6)) (by omega) σ' h.1.1 ).le (Nat.le_of_ble_eq_true rfl) (fun v σ2 ⟨y, h1, h2, h3, h4⟩ => ⟨y, h1, h2, h.1.tr h3 (fun t i k j h => by unfold MT at h; unfold MJ; omega), fun j a b => (h3.2 _ _ _ _ (by unfold MT; omega)).trans (h.2.1 j a b), trivial⟩)) (pc' := 29) rfl (fun y6 => ?_)
      refine G_ex (fun hy6 => ?_)
      obtain rfl : y6 = (-6) := by omega
      exact T_iret zk_127_29 rfl (fun σ' h => ⟨_, rfl, (by omega), h.1, trivial⟩)
    ·
      refine T_ld zk_127_17 rfl rfl rfl (pc' := 18) rfl ?_
      refine T_op zk_127_18 rfl (X_bi (v := 60) (by decide)) (pc' := 20) rfl ?_
      refine T_icmp_le zk_127_20 (by omega) (by omega) (pc' := 23) rfl (fun h7 => ?_) (fun h8 => ?_)
      ·
        refine T_ld zk_127_30 rfl rfl rfl (pc' := 31) rfl ?_
        refine T_getR (t' := 36) (i' := 0) (k' := 0) zk_127_31 rfl rfl rfl vd_35 (pc' := 34) rfl ?_
        refine T_op zk_127_34 rfl X_ic (pc' := 35) rfl ?_
        refine T_ld zk_127_35 rfl rfl rfl (pc' := 36) rfl ?_
        refine T_op zk_127_36 rfl X_add (pc' := 37) rfl ?_
        refine G_ialdX (w := 20) (ln := 646) zk_127_37 rfl rfl (vd_36 (by omega)) (by omega) (by omega) (by omega) (fun σ' h => h.2.1 _ (by omega) (by omega)) (pc' := 38) rfl ?_
        refine T_st (L' := [(0, av 35 0 0), (1, iv p0), (2, iv p1), (3, iv 20)]) zk_127_38 (nL := 4) rfl rfl rfl rfl rfl (pc' := 39) rfl ?_
        refine T_ld zk_127_39 rfl rfl rfl (pc' := 40) rfl ?_
        refine T_getR (t' := 36) (i' := 0) (k' := 0) zk_127_40 rfl rfl rfl vd_35 (pc' := 43) rfl ?_
        refine T_op zk_127_43 rfl X_ic (pc' := 44) rfl ?_
        refine T_ld zk_127_44 rfl rfl rfl (pc' := 45) rfl ?_
        refine T_op zk_127_45 rfl X_add (pc' := 46) rfl ?_
        refine T_ld zk_127_46 rfl rfl rfl (pc' := 47) rfl ?_
        refine G_iast (J' := (fun σ' => IF (MJ 0 25) σ σ' ∧ True)) (ln := 646) zk_127_47 rfl rfl (vd_36 (by omega)) (by omega) (by omega) (by omega) (fun σ' h => ⟨h.1.up (by simp only [rgP] <;> omega) (by unfold MJ; omega), trivial⟩) (pc' := 48) rfl ?_
        refine T_ld zk_127_48 rfl rfl rfl (pc' := 49) rfl ?_
        exact T_iret zk_127_49 rfl (fun σ' h => ⟨_, rfl, (by omega), h.1, trivial⟩)
      ·
        refine T_ld zk_127_23 rfl rfl rfl (pc' := 24) rfl ?_
        refine T_op zk_127_24 rfl (X_bi (v := -6) (by decide)) (pc' := 26) rfl ?_
        refine T_calli (K := fun y9 σ' => (y9 = (-6)) ∧ (fun σ' => IF (MJ 0 25) σ σ' ∧ (∀ j, 0 ≤ j → j < 25 → σ' 36 0 0 j = 20) ∧ True) σ') (r := []) zk_127_26 rfl rfl rfl rfl rfl rfl (Or.inr ⟨_, _, _, _, rfl, vd_35, rfl⟩) (fun σ' h => (m_123 ((-6)) (by omega) σ' h.1.1 ).le (Nat.le_of_ble_eq_true rfl) (fun v σ2 ⟨y, h1, h2, h3, h4⟩ => ⟨y, h1, h2, h.1.tr h3 (fun t i k j h => by unfold MT at h; unfold MJ; omega), fun j a b => (h3.2 _ _ _ _ (by unfold MT; omega)).trans (h.2.1 j a b), trivial⟩)) (pc' := 29) rfl (fun y9 => ?_)
        refine G_ex (fun hy9 => ?_)
        obtain rfl : y9 = (-6) := by omega
        exact T_iret zk_127_29 rfl (fun σ' h => ⟨_, rfl, (by omega), h.1, trivial⟩)
  ·
    refine T_ld zk_127_7 rfl rfl rfl (pc' := 8) rfl ?_
    refine T_op zk_127_8 rfl X_ic (pc' := 9) rfl ?_
    refine T_calli (K := fun y10 σ' => (y10 = (-1)) ∧ (fun σ' => IF (MJ 0 25) σ σ' ∧ (∀ j, 0 ≤ j → j < 25 → σ' 36 0 0 j = 20) ∧ True) σ') (r := []) zk_127_9 rfl rfl rfl rfl rfl rfl (Or.inr ⟨_, _, _, _, rfl, vd_35, rfl⟩) (fun σ' h => (m_123 ((-1)) (by omega) σ' h.1.1 ).le (Nat.le_of_ble_eq_true rfl) (fun v σ2 ⟨y, h1, h2, h3, h4⟩ => ⟨y, h1, h2, h.1.tr h3 (fun t i k j h => by unfold MT at h; unfold MJ; omega), fun j a b => (h3.2 _ _ _ _ (by unfold MT; omega)).trans (h.2.1 j a b), trivial⟩)) (pc' := 12) rfl (fun y10 => ?_)
    refine G_ex (fun hy10 => ?_)
    obtain rfl : y10 = (-1) := by omega
    exact T_iret zk_127_12 rfl (fun σ' h => ⟨_, rfl, (by omega), h.1, trivial⟩)
/-- WModel.level -/
theorem m_level {xs : Nat × (Nat → Int32)} (p0 : Int) (p1 : Int) (h0 : -2147483648 ≤ p0 ∧ p0 ≤ 2147483647) (h1 : -2147483648 ≤ p1 ∧ p1 ≤ 2147483647) (σ : ZS) (hI : Inv σ) (hm : ∀ t i k j, 35 ≤ t → σ t i k j = σ0 t i k j)  : CT xs 2 128 [av 35 0 0, iv p0, iv p1] σ (fun v σ' => ∃ y, v = some (iv y) ∧ ((y = -1 ∧ (¬ (0 ≤ p0 ∧ p0 ≤ 24))) ∨ (y = -6 ∧ ¬ (¬ (0 ≤ p0 ∧ p0 ≤ 24)) ∧ (¬ (-300 ≤ p1 ∧ p1 ≤ 300))) ∨ (y = 0 ∧ ¬ (¬ (0 ≤ p0 ∧ p0 ≤ 24)) ∧ ¬ (¬ (-300 ≤ p1 ∧ p1 ≤ 300)))) ∧ IF (MK 25 50 645 646) σ σ' ∧ (True)) := by
  refine G_ct (J := (fun σ' => IF (MK 25 50 645 646) σ σ' ∧ (∀ j, 25 ≤ j → j < 50 → σ' 36 0 0 j = 0) ∧ True)) (L := [(0, av 35 0 0), (1, iv p0), (2, iv p1)]) (nL := 4) rfl rfl rfl ⟨IF.rf hI, (fun j a b => ((hm _ _ _ _ (by decide)).trans (s0_z (by omega)))), trivial⟩ ?_
  refine T_ld zk_128_0 rfl rfl rfl (pc' := 1) rfl ?_
  refine T_calli (K := fun y1 σ' => ((y1 = 0 ∧ (p0 < 0 ∨ 24 < p0)) ∨ (y1 = 1 ∧ 0 ≤ p0 ∧ p0 ≤ 24)) ∧ (fun σ' => IF (MK 25 50 645 646) σ σ' ∧ (∀ j, 25 ≤ j → j < 50 → σ' 36 0 0 j = 0) ∧ True) σ') (r := []) zk_128_1 rfl rfl rfl rfl rfl rfl (Or.inl (Or.inl rfl)) (fun σ' h => (m_124 p0 (by omega) σ' h.1.1 ).le (Nat.le_of_ble_eq_true rfl) (fun v σ2 ⟨y, h1, h2, h3, h4⟩ => ⟨y, h1, h2, h.1.tr h3 MN_sub, fun j a b => (h3.2 _ _ _ _ (fun q => q)).trans (h.2.1 j a b), trivial⟩)) (pc' := 4) rfl (fun y1 => ?_)
  refine G_ex (fun hy1 => ?_)
  refine T_if_ne zk_128_4 (by omega) (pc' := 7) rfl (fun h2 => ?_) (fun h3 => ?_)
  ·
    refine T_ld zk_128_13 rfl rfl rfl (pc' := 14) rfl ?_
    refine T_op zk_128_14 rfl (X_si (v := -300) (by decide)) (pc' := 17) rfl ?_
    refine T_icmp_lt zk_128_17 (by omega) (by omega) (pc' := 20) rfl (fun h4 => ?_) (fun h5 => ?_)
    ·
      refine T_ld zk_128_27 rfl rfl rfl (pc' := 28) rfl ?_
      refine T_op zk_128_28 rfl (X_bi (v := -6) (by decide)) (pc' := 30) rfl ?_
      refine T_calli (K := fun y6 σ' => (y6 = (-6)) ∧ (fun σ' => IF (MK 25 50 645 646) σ σ' ∧ (∀ j, 25 ≤ j → j < 50 → σ' 36 0 0 j = 0) ∧ True) σ') (r := []) zk_128_30 rfl rfl rfl rfl rfl rfl (Or.inr ⟨_, _, _, _, rfl, vd_35, rfl⟩) (fun σ' h => (m_123 ((-6)) (by omega) σ' h.1.1 ).le (Nat.le_of_ble_eq_true rfl) (fun v σ2 ⟨y, h1, h2, h3, h4⟩ => ⟨y, h1, h2, h.1.tr h3 (fun t i k j h => by unfold MT at h; unfold MK; omega), fun j a b => (h3.2 _ _ _ _ (by unfold MT; omega)).trans (h.2.1 j a b), trivial⟩)) (pc' := 33) rfl (fun y6 => ?_)
      refine G_ex (fun hy6 => ?_)
      obtain rfl : y6 = (-6) := by omega
      exact T_iret zk_128_33 rfl (fun σ' h => ⟨_, rfl, (by omega), h.1, trivial⟩)
    ·
      refine T_ld zk_128_20 rfl rfl rfl (pc' := 21) rfl ?_
      refine T_op zk_128_21 rfl (X_si (v := 300) (by decide)) (pc' := 24) rfl ?_
      refine T_icmp_le zk_128_24 (by omega) (by omega) (pc' := 27) rfl (fun h7 => ?_) (fun h8 => ?_)
      ·
        refine T_ld zk_128_34 rfl rfl rfl (pc' := 35) rfl ?_
        refine T_getR (t' := 36) (i' := 0) (k' := 0) zk_128_35 rfl rfl rfl vd_35 (pc' := 38) rfl ?_
        refine T_op zk_128_38 rfl (X_bi (v := 25) (by decide)) (pc' := 40) rfl ?_
        refine T_ld zk_128_40 rfl rfl rfl (pc' := 41) rfl ?_
        refine T_op zk_128_41 rfl X_add (pc' := 42) rfl ?_
        refine G_ialdX (w := 0) (ln := 646) zk_128_42 rfl rfl (vd_36 (by omega)) (by omega) (by omega) (by omega) (fun σ' h => h.2.1 _ (by omega) (by omega)) (pc' := 43) rfl ?_
        refine T_st (L' := [(0, av 35 0 0), (1, iv p0), (2, iv p1), (3, iv 0)]) zk_128_43 (nL := 4) rfl rfl rfl rfl rfl (pc' := 44) rfl ?_
        refine T_ld zk_128_44 rfl rfl rfl (pc' := 45) rfl ?_
        refine T_getR (t' := 36) (i' := 0) (k' := 0) zk_128_45 rfl rfl rfl vd_35 (pc' := 48) rfl ?_
        refine T_op zk_128_48 rfl (X_bi (v := 25) (by decide)) (pc' := 50) rfl ?_
        refine T_ld zk_128_50 rfl rfl rfl (pc' := 51) rfl ?_
        refine T_op zk_128_51 rfl X_add (pc' := 52) rfl ?_
        refine T_ld zk_128_52 rfl rfl rfl (pc' := 53) rfl ?_
        refine G_iast (J' := (fun σ' => IF (MK 25 50 645 646) σ σ' ∧ True)) (ln := 646) zk_128_53 rfl rfl (vd_36 (by omega)) (by omega) (by omega) (by omega) (fun σ' h => ⟨h.1.up (by simp only [rgP] <;> omega) (by unfold MK; omega), trivial⟩) (pc' := 54) rfl ?_
        refine T_ld zk_128_54 rfl rfl rfl (pc' := 55) rfl ?_
        refine T_getR (t' := 36) (i' := 0) (k' := 0) zk_128_55 rfl rfl rfl vd_35 (pc' := 58) rfl ?_
        refine T_op zk_128_58 rfl (X_si (v := 645) (by decide)) (pc' := 61) rfl ?_
        refine T_op (st' := [iv 645, av 36 0 0, iv 645, av 36 0 0]) zk_128_61 rfl rfl (pc' := 62) rfl ?_
        refine G_iald (lo := -2147483648) (hi := 2147483647) (ln := 646) zk_128_62 rfl rfl (vd_36 (by omega)) (by omega) (by omega) (by omega) (fun σ' h => h.1.1) (fun _ h => h.1) (pc' := 63) rfl (fun y9 hy9 hy9' => ?_)
        refine T_ld zk_128_63 rfl rfl rfl (pc' := 64) rfl ?_
        refine T_ld zk_128_64 rfl rfl rfl (pc' := 65) rfl ?_
        refine T_op zk_128_65 rfl X_sub (pc' := 66) rfl ?_
        refine G_unk zk_128_66 rfl (pc' := 67) rfl (fun y10 hy10 hy10' => ?_)
        refine G_iast (J' := (fun σ' => IF (MK 25 50 645 646) σ σ' ∧ True)) (ln := 646) zk_128_67 rfl rfl (vd_36 (by omega)) (by omega) (by omega) (by omega) (fun σ' h => ⟨h.1.up (by simp only [rgP] <;> omega) (by unfold MK; omega), trivial⟩) (pc' := 68) rfl ?_
        refine T_ld zk_128_68 rfl rfl rfl (pc' := 69) rfl ?_
        exact T_iret zk_128_69 rfl (fun σ' h => ⟨_, rfl, (by omega), h.1, trivial⟩)
      ·
        refine T_ld zk_128_27 rfl rfl rfl (pc' := 28) rfl ?_
        refine T_op zk_128_28 rfl (X_bi (v := -6) (by decide)) (pc' := 30) rfl ?_
        refine T_calli (K := fun y11 σ' => (y11 = (-6)) ∧ (fun σ' => IF (MK 25 50 645 646) σ σ' ∧ (∀ j, 25 ≤ j → j < 50 → σ' 36 0 0 j = 0) ∧ True) σ') (r := []) zk_128_30 rfl rfl rfl rfl rfl rfl (Or.inr ⟨_, _, _, _, rfl, vd_35, rfl⟩) (fun σ' h => (m_123 ((-6)) (by omega) σ' h.1.1 ).le (Nat.le_of_ble_eq_true rfl) (fun v σ2 ⟨y, h1, h2, h3, h4⟩ => ⟨y, h1, h2, h.1.tr h3 (fun t i k j h => by unfold MT at h; unfold MK; omega), fun j a b => (h3.2 _ _ _ _ (by unfold MT; omega)).trans (h.2.1 j a b), trivial⟩)) (pc' := 33) rfl (fun y11 => ?_)
        refine G_ex (fun hy11 => ?_)
        obtain rfl : y11 = (-6) := by omega
        exact T_iret zk_128_33 rfl (fun σ' h => ⟨_, rfl, (by omega), h.1, trivial⟩)
  ·
    refine T_ld zk_128_7 rfl rfl rfl (pc' := 8) rfl ?_
    refine T_op zk_128_8 rfl X_ic (pc' := 9) rfl ?_
    refine T_calli (K := fun y12 σ' => (y12 = (-1)) ∧ (fun σ' => IF (MK 25 50 645 646) σ σ' ∧ (∀ j, 25 ≤ j → j < 50 → σ' 36 0 0 j = 0) ∧ True) σ') (r := []) zk_128_9 rfl rfl rfl rfl rfl rfl (Or.inr ⟨_, _, _, _, rfl, vd_35, rfl⟩) (fun σ' h => (m_123 ((-1)) (by omega) σ' h.1.1 ).le (Nat.le_of_ble_eq_true rfl) (fun v σ2 ⟨y, h1, h2, h3, h4⟩ => ⟨y, h1, h2, h.1.tr h3 (fun t i k j h => by unfold MT at h; unfold MK; omega), fun j a b => (h3.2 _ _ _ _ (by unfold MT; omega)).trans (h.2.1 j a b), trivial⟩)) (pc' := 12) rfl (fun y12 => ?_)
    refine G_ex (fun hy12 => ?_)
    obtain rfl : y12 = (-1) := by omega
    exact T_iret zk_128_12 rfl (fun σ' h => ⟨_, rfl, (by omega), h.1, trivial⟩)
/-- WModel.close -/
theorem m_close {xs : Nat × (Nat → Int32)} (p0 : Int) (p1 : Int) (p2 : Int) (h0 : -2147483648 ≤ p0 ∧ p0 ≤ 2147483647) (h1 : -2147483648 ≤ p1 ∧ p1 ≤ 2147483647) (h2 : 0 ≤ p2 ∧ p2 ≤ 1) (σ : ZS) (hI : Inv σ) (hm : ∀ t i k j, 35 ≤ t → σ t i k j = σ0 t i k j)  : CT xs 3 130 [av 35 0 0, iv p0, iv p1, iv p2] σ (fun v σ' => ∃ y, v = some (iv y) ∧ ((y = -1 ∧ (¬ (0 ≤ p0 ∧ p0 ≤ 24 ∧ 0 ≤ p1 ∧ p1 ≤ 24 ∧ (p1 = p0 + 5 ∨ p0 = p1 + 5 ∨ (p1 = p0 + 1 ∧ p0 % 5 < 4) ∨ (p0 = p1 + 1 ∧ p1 % 5 < 4))))) ∨ (y = p2 ∧ ¬ (¬ (0 ≤ p0 ∧ p0 ≤ 24 ∧ 0 ≤ p1 ∧ p1 ≤ 24 ∧ (p1 = p0 + 5 ∨ p0 = p1 + 5 ∨ (p1 = p0 + 1 ∧ p0 % 5 < 4) ∨ (p0 = p1 + 1 ∧ p1 % 5 < 4)))))) ∧ IF (MJ 100 200) σ σ' ∧ (True)) := by
  refine G_ct (J := (fun σ' => IF (MJ 100 200) σ σ' ∧ (∀ j, 100 ≤ j → j < 200 → σ' 36 0 0 j = 0) ∧ True)) (L := [(0, av 35 0 0), (1, iv p0), (2, iv p1), (3, iv p2)]) (nL := 5) rfl rfl rfl ⟨IF.rf hI, (fun j a b => ((hm _ _ _ _ (by decide)).trans (s0_z (by omega)))), trivial⟩ ?_
  refine T_ld zk_130_0 rfl rfl rfl (pc' := 1) rfl ?_
  refine T_ld zk_130_1 rfl rfl rfl (pc' := 2) rfl ?_
  refine T_calli (K := fun y1 σ' => ((y1 = -1 ∧ ¬ (0 ≤ p0 ∧ p0 ≤ 24 ∧ 0 ≤ p1 ∧ p1 ≤ 24 ∧ (p1 = p0 + 5 ∨ p0 = p1 + 5 ∨ (p1 = p0 + 1 ∧ p0 % 5 < 4) ∨ (p0 = p1 + 1 ∧ p1 % 5 < 4)))) ∨ (0 ≤ y1 ∧ y1 ≤ 49 ∧ (0 ≤ p0 ∧ p0 ≤ 24 ∧ 0 ≤ p1 ∧ p1 ≤ 24 ∧ (p1 = p0 + 5 ∨ p0 = p1 + 5 ∨ (p1 = p0 + 1 ∧ p0 % 5 < 4) ∨ (p0 = p1 + 1 ∧ p1 % 5 < 4))))) ∧ (fun σ' => IF (MJ 100 200) σ σ' ∧ (∀ j, 100 ≤ j → j < 200 → σ' 36 0 0 j = 0) ∧ True) σ') (r := []) zk_130_2 rfl rfl rfl rfl rfl rfl (Or.inl (Or.inl rfl)) (fun σ' h => (m_126 p0 p1 (by omega) (by omega) σ' h.1.1 ).le (Nat.le_of_ble_eq_true rfl) (fun v σ2 ⟨y, h1, h2, h3, h4⟩ => ⟨y, h1, h2, h.1.tr h3 MN_sub, fun j a b => (h3.2 _ _ _ _ (fun q => q)).trans (h.2.1 j a b), trivial⟩)) (pc' := 5) rfl (fun y1 => ?_)
  refine G_ex (fun hy1 => ?_)
  refine T_st (L' := [(0, av 35 0 0), (1, iv p0), (2, iv p1), (3, iv p2), (4, iv y1)]) zk_130_5 (nL := 5) rfl rfl rfl rfl rfl (pc' := 7) rfl ?_
  refine T_ld zk_130_7 rfl rfl rfl (pc' := 9) rfl ?_
  refine T_op zk_130_9 rfl X_ic (pc' := 10) rfl ?_
  refine T_icmp_ne zk_130_10 (by omega) (by omega) (pc' := 13) rfl (fun h2 => ?_) (fun h3 => ?_)
  ·
    refine T_ld zk_130_21 rfl rfl rfl (pc' := 22) rfl ?_
    refine T_op zk_130_22 rfl (X_bi (v := 100) (by decide)) (pc' := 24) rfl ?_
    refine T_ld zk_130_24 rfl rfl rfl (pc' := 26) rfl ?_
    refine T_op zk_130_26 rfl X_add (pc' := 27) rfl ?_
    refine T_ld zk_130_27 rfl rfl rfl (pc' := 28) rfl ?_
    refine T_calli (K := fun y4 σ' => (y4 = p2) ∧ (fun σ' => IF (MJ 100 200) σ σ' ∧ True) σ') (r := []) zk_130_28 rfl rfl rfl rfl rfl rfl (Or.inr ⟨_, _, _, _, rfl, vd_35, rfl⟩) (fun σ' h => (m_129 (100 + y1) p2 (by omega) (by omega) σ' h.1.1 (fun j a b => h.2.1 j (by omega) (by omega))).le (Nat.le_of_ble_eq_true rfl) (fun v σ2 ⟨y, h1, h2, h3, h4⟩ => ⟨y, h1, h2, h.1.tr h3 (fun _ _ _ _ h => h), trivial⟩)) (pc' := 31) rfl (fun y4 => ?_)
    refine G_ex (fun hy4 => ?_)
    exact T_iret zk_130_31 rfl (fun σ' h => ⟨_, rfl, (by omega), h.1, trivial⟩)
  ·
    refine T_ld zk_130_13 rfl rfl rfl (pc' := 14) rfl ?_
    refine T_op zk_130_14 rfl X_ic (pc' := 15) rfl ?_
    refine T_calli (K := fun y5 σ' => (y5 = (-1)) ∧ (fun σ' => IF (MJ 100 200) σ σ' ∧ (∀ j, 100 ≤ j → j < 200 → σ' 36 0 0 j = 0) ∧ True) σ') (r := []) zk_130_15 rfl rfl rfl rfl rfl rfl (Or.inr ⟨_, _, _, _, rfl, vd_35, rfl⟩) (fun σ' h => (m_123 ((-1)) (by omega) σ' h.1.1 ).le (Nat.le_of_ble_eq_true rfl) (fun v σ2 ⟨y, h1, h2, h3, h4⟩ => ⟨y, h1, h2, h.1.tr h3 (fun t i k j h => by unfold MT at h; unfold MJ; omega), fun j a b => (h3.2 _ _ _ _ (by unfold MT; omega)).trans (h.2.1 j a b), trivial⟩)) (pc' := 18) rfl (fun y5 => ?_)
    refine G_ex (fun hy5 => ?_)
    obtain rfl : y5 = (-1) := by omega
    refine T_goto zk_130_18 ?_
    exact T_iret zk_130_31 rfl (fun σ' h => ⟨_, rfl, (by omega), h.1, trivial⟩)
/-- WModel.narrow -/
theorem m_narrow {xs : Nat × (Nat → Int32)} (p0 : Int) (p1 : Int) (p2 : Int) (h0 : -2147483648 ≤ p0 ∧ p0 ≤ 2147483647) (h1 : -2147483648 ≤ p1 ∧ p1 ≤ 2147483647) (h2 : 0 ≤ p2 ∧ p2 ≤ 1) (σ : ZS) (hI : Inv σ) (hm : ∀ t i k j, 35 ≤ t → σ t i k j = σ0 t i k j)  : CT xs 3 131 [av 35 0 0, iv p0, iv p1, iv p2] σ (fun v σ' => ∃ y, v = some (iv y) ∧ ((y = -1 ∧ (¬ (0 ≤ p0 ∧ p0 ≤ 24 ∧ 0 ≤ p1 ∧ p1 ≤ 24 ∧ (p1 = p0 + 5 ∨ p0 = p1 + 5 ∨ (p1 = p0 + 1 ∧ p0 % 5 < 4) ∨ (p0 = p1 + 1 ∧ p1 % 5 < 4))))) ∨ (y = p2 ∧ ¬ (¬ (0 ≤ p0 ∧ p0 ≤ 24 ∧ 0 ≤ p1 ∧ p1 ≤ 24 ∧ (p1 = p0 + 5 ∨ p0 = p1 + 5 ∨ (p1 = p0 + 1 ∧ p0 % 5 < 4) ∨ (p0 = p1 + 1 ∧ p1 % 5 < 4)))))) ∧ IF (MJ 100 200) σ σ' ∧ (True)) := by
  refine G_ct (J := (fun σ' => IF (MJ 100 200) σ σ' ∧ (∀ j, 100 ≤ j → j < 200 → σ' 36 0 0 j = 0) ∧ True)) (L := [(0, av 35 0 0), (1, iv p0), (2, iv p1), (3, iv p2)]) (nL := 5) rfl rfl rfl ⟨IF.rf hI, (fun j a b => ((hm _ _ _ _ (by decide)).trans (s0_z (by omega)))), trivial⟩ ?_
  refine T_ld zk_131_0 rfl rfl rfl (pc' := 1) rfl ?_
  refine T_ld zk_131_1 rfl rfl rfl (pc' := 2) rfl ?_
  refine T_calli (K := fun y1 σ' => ((y1 = -1 ∧ ¬ (0 ≤ p0 ∧ p0 ≤ 24 ∧ 0 ≤ p1 ∧ p1 ≤ 24 ∧ (p1 = p0 + 5 ∨ p0 = p1 + 5 ∨ (p1 = p0 + 1 ∧ p0 % 5 < 4) ∨ (p0 = p1 + 1 ∧ p1 % 5 < 4)))) ∨ (0 ≤ y1 ∧ y1 ≤ 49 ∧ (0 ≤ p0 ∧ p0 ≤ 24 ∧ 0 ≤ p1 ∧ p1 ≤ 24 ∧ (p1 = p0 + 5 ∨ p0 = p1 + 5 ∨ (p1 = p0 + 1 ∧ p0 % 5 < 4) ∨ (p0 = p1 + 1 ∧ p1 % 5 < 4))))) ∧ (fun σ' => IF (MJ 100 200) σ σ' ∧ (∀ j, 100 ≤ j → j < 200 → σ' 36 0 0 j = 0) ∧ True) σ') (r := []) zk_131_2 rfl rfl rfl rfl rfl rfl (Or.inl (Or.inl rfl)) (fun σ' h => (m_126 p0 p1 (by omega) (by omega) σ' h.1.1 ).le (Nat.le_of_ble_eq_true rfl) (fun v σ2 ⟨y, h1, h2, h3, h4⟩ => ⟨y, h1, h2, h.1.tr h3 MN_sub, fun j a b => (h3.2 _ _ _ _ (fun q => q)).trans (h.2.1 j a b), trivial⟩)) (pc' := 5) rfl (fun y1 => ?_)
  refine G_ex (fun hy1 => ?_)
  refine T_st (L' := [(0, av 35 0 0), (1, iv p0), (2, iv p1), (3, iv p2), (4, iv y1)]) zk_131_5 (nL := 5) rfl rfl rfl rfl rfl (pc' := 7) rfl ?_
  refine T_ld zk_131_7 rfl rfl rfl (pc' := 9) rfl ?_
  refine T_op zk_131_9 rfl X_ic (pc' := 10) rfl ?_
  refine T_icmp_ne zk_131_10 (by omega) (by omega) (pc' := 13) rfl (fun h2 => ?_) (fun h3 => ?_)
  ·
    refine T_ld zk_131_21 rfl rfl rfl (pc' := 22) rfl ?_
    refine T_op zk_131_22 rfl (X_si (v := 150) (by decide)) (pc' := 25) rfl ?_
    refine T_ld zk_131_25 rfl rfl rfl (pc' := 27) rfl ?_
    refine T_op zk_131_27 rfl X_add (pc' := 28) rfl ?_
    refine T_ld zk_131_28 rfl rfl rfl (pc' := 29) rfl ?_
    refine T_calli (K := fun y4 σ' => (y4 = p2) ∧ (fun σ' => IF (MJ 100 200) σ σ' ∧ True) σ') (r := []) zk_131_29 rfl rfl rfl rfl rfl rfl (Or.inr ⟨_, _, _, _, rfl, vd_35, rfl⟩) (fun σ' h => (m_129 (150 + y1) p2 (by omega) (by omega) σ' h.1.1 (fun j a b => h.2.1 j (by omega) (by omega))).le (Nat.le_of_ble_eq_true rfl) (fun v σ2 ⟨y, h1, h2, h3, h4⟩ => ⟨y, h1, h2, h.1.tr h3 (fun _ _ _ _ h => h), trivial⟩)) (pc' := 32) rfl (fun y4 => ?_)
    refine G_ex (fun hy4 => ?_)
    exact T_iret zk_131_32 rfl (fun σ' h => ⟨_, rfl, (by omega), h.1, trivial⟩)
  ·
    refine T_ld zk_131_13 rfl rfl rfl (pc' := 14) rfl ?_
    refine T_op zk_131_14 rfl X_ic (pc' := 15) rfl ?_
    refine T_calli (K := fun y5 σ' => (y5 = (-1)) ∧ (fun σ' => IF (MJ 100 200) σ σ' ∧ (∀ j, 100 ≤ j → j < 200 → σ' 36 0 0 j = 0) ∧ True) σ') (r := []) zk_131_15 rfl rfl rfl rfl rfl rfl (Or.inr ⟨_, _, _, _, rfl, vd_35, rfl⟩) (fun σ' h => (m_123 ((-1)) (by omega) σ' h.1.1 ).le (Nat.le_of_ble_eq_true rfl) (fun v σ2 ⟨y, h1, h2, h3, h4⟩ => ⟨y, h1, h2, h.1.tr h3 (fun t i k j h => by unfold MT at h; unfold MJ; omega), fun j a b => (h3.2 _ _ _ _ (by unfold MT; omega)).trans (h.2.1 j a b), trivial⟩)) (pc' := 18) rfl (fun y5 => ?_)
    refine G_ex (fun hy5 => ?_)
    obtain rfl : y5 = (-1) := by omega
    refine T_goto zk_131_18 ?_
    exact T_iret zk_131_32 rfl (fun σ' h => ⟨_, rfl, (by omega), h.1, trivial⟩)
/-- WModel.bridge -/
theorem m_bridge {xs : Nat × (Nat → Int32)} (p0 : Int) (p1 : Int) (p2 : Int) (h0 : -2147483648 ≤ p0 ∧ p0 ≤ 2147483647) (h1 : -2147483648 ≤ p1 ∧ p1 ≤ 2147483647) (h2 : -2147483648 ≤ p2 ∧ p2 ≤ 2147483647) (σ : ZS) (hI : Inv σ) (hm : ∀ t i k j, 35 ≤ t → σ t i k j = σ0 t i k j)  : CT xs 3 132 [av 35 0 0, iv p0, iv p1, iv p2] σ (fun v σ' => ∃ y, v = some (iv y) ∧ ((y = -1 ∧ (¬ (0 ≤ p0 ∧ p0 ≤ 24 ∧ 0 ≤ p1 ∧ p1 ≤ 24 ∧ (p1 = p0 + 5 ∨ p0 = p1 + 5 ∨ (p1 = p0 + 1 ∧ p0 % 5 < 4) ∨ (p0 = p1 + 1 ∧ p1 % 5 < 4))))) ∨ (y = -6 ∧ ¬ (¬ (0 ≤ p0 ∧ p0 ≤ 24 ∧ 0 ≤ p1 ∧ p1 ≤ 24 ∧ (p1 = p0 + 5 ∨ p0 = p1 + 5 ∨ (p1 = p0 + 1 ∧ p0 % 5 < 4) ∨ (p0 = p1 + 1 ∧ p1 % 5 < 4)))) ∧ (¬ (-1 ≤ p2 ∧ p2 ≤ 99))) ∨ (y = -1 ∧ ¬ (¬ (0 ≤ p0 ∧ p0 ≤ 24 ∧ 0 ≤ p1 ∧ p1 ≤ 24 ∧ (p1 = p0 + 5 ∨ p0 = p1 + 5 ∨ (p1 = p0 + 1 ∧ p0 % 5 < 4) ∨ (p0 = p1 + 1 ∧ p1 % 5 < 4)))) ∧ ¬ (¬ (-1 ≤ p2 ∧ p2 ≤ 99)))) ∧ IF (MJ 200 250) σ σ' ∧ (True)) := by
  refine G_ct (J := (fun σ' => IF (MJ 200 250) σ σ' ∧ (∀ j, 200 ≤ j → j < 250 → σ' 36 0 0 j = (-1)) ∧ True)) (L := [(0, av 35 0 0), (1, iv p0), (2, iv p1), (3, iv p2)]) (nL := 6) rfl rfl rfl ⟨IF.rf hI, (fun j a b => ((hm _ _ _ _ (by decide)).trans (s0_c (by omega)))), trivial⟩ ?_
  refine T_ld zk_132_0 rfl rfl rfl (pc' := 1) rfl ?_
  refine T_ld zk_132_1 rfl rfl rfl (pc' := 2) rfl ?_
  refine T_calli (K := fun y1 σ' => ((y1 = -1 ∧ ¬ (0 ≤ p0 ∧ p0 ≤ 24 ∧ 0 ≤ p1 ∧ p1 ≤ 24 ∧ (p1 = p0 + 5 ∨ p0 = p1 + 5 ∨ (p1 = p0 + 1 ∧ p0 % 5 < 4) ∨ (p0 = p1 + 1 ∧ p1 % 5 < 4)))) ∨ (0 ≤ y1 ∧ y1 ≤ 49 ∧ (0 ≤ p0 ∧ p0 ≤ 24 ∧ 0 ≤ p1 ∧ p1 ≤ 24 ∧ (p1 = p0 + 5 ∨ p0 = p1 + 5 ∨ (p1 = p0 + 1 ∧ p0 % 5 < 4) ∨ (p0 = p1 + 1 ∧ p1 % 5 < 4))))) ∧ (fun σ' => IF (MJ 200 250) σ σ' ∧ (∀ j, 200 ≤ j → j < 250 → σ' 36 0 0 j = (-1)) ∧ True) σ') (r := []) zk_132_2 rfl rfl rfl rfl rfl rfl (Or.inl (Or.inl rfl)) (fun σ' h => (m_126 p0 p1 (by omega) (by omega) σ' h.1.1 ).le (Nat.le_of_ble_eq_true rfl) (fun v σ2 ⟨y, h1, h2, h3, h4⟩ => ⟨y, h1, h2, h.1.tr h3 MN_sub, fun j a b => (h3.2 _ _ _ _ (fun q => q)).trans (h.2.1 j a b), trivial⟩)) (pc' := 5) rfl (fun y1 => ?_)
  refine G_ex (fun hy1 => ?_)
  refine T_st (L' := [(0, av 35 0 0), (1, iv p0), (2, iv p1), (3, iv p2), (4, iv y1)]) zk_132_5 (nL := 6) rfl rfl rfl rfl rfl (pc' := 7) rfl ?_
  refine T_ld zk_132_7 rfl rfl rfl (pc' := 9) rfl ?_
  refine T_op zk_132_9 rfl X_ic (pc' := 10) rfl ?_
  refine T_icmp_ne zk_132_10 (by omega) (by omega) (pc' := 13) rfl (fun h2 => ?_) (fun h3 => ?_)
  ·
    refine T_ld zk_132_19 rfl rfl rfl (pc' := 20) rfl ?_
    refine T_op zk_132_20 rfl X_ic (pc' := 21) rfl ?_
    refine T_icmp_lt zk_132_21 (by omega) (by omega) (pc' := 24) rfl (fun h4 => ?_) (fun h5 => ?_)
    ·
      refine T_ld zk_132_30 rfl rfl rfl (pc' := 31) rfl ?_
      refine T_op zk_132_31 rfl (X_bi (v := -6) (by decide)) (pc' := 33) rfl ?_
      refine T_calli (K := fun y6 σ' => (y6 = (-6)) ∧ (fun σ' => IF (MJ 200 250) σ σ' ∧ (∀ j, 200 ≤ j → j < 250 → σ' 36 0 0 j = (-1)) ∧ True) σ') (r := []) zk_132_33 rfl rfl rfl rfl rfl rfl (Or.inr ⟨_, _, _, _, rfl, vd_35, rfl⟩) (fun σ' h => (m_123 ((-6)) (by omega) σ' h.1.1 ).le (Nat.le_of_ble_eq_true rfl) (fun v σ2 ⟨y, h1, h2, h3, h4⟩ => ⟨y, h1, h2, h.1.tr h3 (fun t i k j h => by unfold MT at h; unfold MJ; omega), fun j a b => (h3.2 _ _ _ _ (by unfold MT; omega)).trans (h.2.1 j a b), trivial⟩)) (pc' := 36) rfl (fun y6 => ?_)
      refine G_ex (fun hy6 => ?_)
      obtain rfl : y6 = (-6) := by omega
      exact T_iret zk_132_36 rfl (fun σ' h => ⟨_, rfl, (by omega), h.1, trivial⟩)
    ·
      refine T_ld zk_132_24 rfl rfl rfl (pc' := 25) rfl ?_
      refine T_op zk_132_25 rfl (X_bi (v := 99) (by decide)) (pc' := 27) rfl ?_
      refine T_icmp_le zk_132_27 (by omega) (by omega) (pc' := 30) rfl (fun h7 => ?_) (fun h8 => ?_)
      ·
        refine T_ld zk_132_37 rfl rfl rfl (pc' := 38) rfl ?_
        refine T_getR (t' := 36) (i' := 0) (k' := 0) zk_132_38 rfl rfl rfl vd_35 (pc' := 41) rfl ?_
        refine T_op zk_132_41 rfl (X_si (v := 200) (by decide)) (pc' := 44) rfl ?_
        refine T_ld zk_132_44 rfl rfl rfl (pc' := 46) rfl ?_
        refine T_op zk_132_46 rfl X_add (pc' := 47) rfl ?_
        refine G_ialdX (w := (-1)) (ln := 646) zk_132_47 rfl rfl (vd_36 (by omega)) (by omega) (by omega) (by omega) (fun σ' h => h.2.1 _ (by omega) (by omega)) (pc' := 48) rfl ?_
        refine T_st (L' := [(0, av 35 0 0), (1, iv p0), (2, iv p1), (3, iv p2), (4, iv y1), (5, iv (-1))]) zk_132_48 (nL := 6) rfl rfl rfl rfl rfl (pc' := 50) rfl ?_
        refine T_ld zk_132_50 rfl rfl rfl (pc' := 51) rfl ?_
        refine T_getR (t' := 36) (i' := 0) (k' := 0) zk_132_51 rfl rfl rfl vd_35 (pc' := 54) rfl ?_
        refine T_op zk_132_54 rfl (X_si (v := 200) (by decide)) (pc' := 57) rfl ?_
        refine T_ld zk_132_57 rfl rfl rfl (pc' := 59) rfl ?_
        refine T_op zk_132_59 rfl X_add (pc' := 60) rfl ?_
        refine T_ld zk_132_60 rfl rfl rfl (pc' := 61) rfl ?_
        refine G_iast (J' := (fun σ' => IF (MJ 200 250) σ σ' ∧ True)) (ln := 646) zk_132_61 rfl rfl (vd_36 (by omega)) (by omega) (by omega) (by omega) (fun σ' h => ⟨h.1.up (by simp only [rgP] <;> omega) (by unfold MJ; omega), trivial⟩) (pc' := 62) rfl ?_
        refine T_ld zk_132_62 rfl rfl rfl (pc' := 64) rfl ?_
        exact T_iret zk_132_64 rfl (fun σ' h => ⟨_, rfl, (by omega), h.1, trivial⟩)
      ·
        refine T_ld zk_132_30 rfl rfl rfl (pc' := 31) rfl ?_
        refine T_op zk_132_31 rfl (X_bi (v := -6) (by decide)) (pc' := 33) rfl ?_
        refine T_calli (K := fun y9 σ' => (y9 = (-6)) ∧ (fun σ' => IF (MJ 200 250) σ σ' ∧ (∀ j, 200 ≤ j → j < 250 → σ' 36 0 0 j = (-1)) ∧ True) σ') (r := []) zk_132_33 rfl rfl rfl rfl rfl rfl (Or.inr ⟨_, _, _, _, rfl, vd_35, rfl⟩) (fun σ' h => (m_123 ((-6)) (by omega) σ' h.1.1 ).le (Nat.le_of_ble_eq_true rfl) (fun v σ2 ⟨y, h1, h2, h3, h4⟩ => ⟨y, h1, h2, h.1.tr h3 (fun t i k j h => by unfold MT at h; unfold MJ; omega), fun j a b => (h3.2 _ _ _ _ (by unfold MT; omega)).trans (h.2.1 j a b), trivial⟩)) (pc' := 36) rfl (fun y9 => ?_)
        refine G_ex (fun hy9 => ?_)
        obtain rfl : y9 = (-6) := by omega
        exact T_iret zk_132_36 rfl (fun σ' h => ⟨_, rfl, (by omega), h.1, trivial⟩)
  ·
    refine T_ld zk_132_13 rfl rfl rfl (pc' := 14) rfl ?_
    refine T_op zk_132_14 rfl X_ic (pc' := 15) rfl ?_
    refine T_calli (K := fun y10 σ' => (y10 = (-1)) ∧ (fun σ' => IF (MJ 200 250) σ σ' ∧ (∀ j, 200 ≤ j → j < 250 → σ' 36 0 0 j = (-1)) ∧ True) σ') (r := []) zk_132_15 rfl rfl rfl rfl rfl rfl (Or.inr ⟨_, _, _, _, rfl, vd_35, rfl⟩) (fun σ' h => (m_123 ((-1)) (by omega) σ' h.1.1 ).le (Nat.le_of_ble_eq_true rfl) (fun v σ2 ⟨y, h1, h2, h3, h4⟩ => ⟨y, h1, h2, h.1.tr h3 (fun t i k j h => by unfold MT at h; unfold MJ; omega), fun j a b => (h3.2 _ _ _ _ (by unfold MT; omega)).trans (h.2.1 j a b), trivial⟩)) (pc' := 18) rfl (fun y10 => ?_)
    refine G_ex (fun hy10 => ?_)
    obtain rfl : y10 = (-1) := by omega
    exact T_iret zk_132_18 rfl (fun σ' h => ⟨_, rfl, (by omega), h.1, trivial⟩)
/-- WModel.mouth -/
theorem m_mouth {xs : Nat × (Nat → Int32)} (p0 : Int) (h0 : -2147483648 ≤ p0 ∧ p0 ≤ 2147483647) (σ : ZS) (hI : Inv σ) (hm : ∀ t i k j, 35 ≤ t → σ t i k j = σ0 t i k j)  : CT xs 2 133 [av 35 0 0, iv p0] σ (fun v σ' => ∃ y, v = some (iv y) ∧ ((y = -1 ∧ (¬ (0 ≤ p0 ∧ p0 ≤ 24))) ∨ (y = 0 ∧ ¬ (¬ (0 ≤ p0 ∧ p0 ≤ 24)))) ∧ IF (MK 250 256 633 634) σ σ' ∧ (True)) := by
  refine G_ct (J := (fun σ' => IF (MK 250 256 633 634) σ σ' ∧ σ' 36 0 0 633 = 0 ∧ True)) (L := [(0, av 35 0 0), (1, iv p0)]) (nL := 3) rfl rfl rfl ⟨IF.rf hI, ((hm _ _ _ _ (by decide)).trans (s0_z (by omega))), trivial⟩ ?_
  refine T_ld zk_133_0 rfl rfl rfl (pc' := 1) rfl ?_
  refine T_calli (K := fun y1 σ' => ((y1 = 0 ∧ (p0 < 0 ∨ 24 < p0)) ∨ (y1 = 1 ∧ 0 ≤ p0 ∧ p0 ≤ 24)) ∧ (fun σ' => IF (MK 250 256 633 634) σ σ' ∧ σ' 36 0 0 633 = 0 ∧ True) σ') (r := []) zk_133_1 rfl rfl rfl rfl rfl rfl (Or.inl (Or.inl rfl)) (fun σ' h => (m_124 p0 (by omega) σ' h.1.1 ).le (Nat.le_of_ble_eq_true rfl) (fun v σ2 ⟨y, h1, h2, h3, h4⟩ => ⟨y, h1, h2, h.1.tr h3 MN_sub, (h3.2 _ _ _ _ (fun q => q)).trans (h.2.1), trivial⟩)) (pc' := 4) rfl (fun y1 => ?_)
  refine G_ex (fun hy1 => ?_)
  refine T_if_ne zk_133_4 (by omega) (pc' := 7) rfl (fun h2 => ?_) (fun h3 => ?_)
  ·
    refine T_op zk_133_13 rfl X_ic (pc' := 14) rfl ?_
    refine T_st (L' := [(0, av 35 0 0), (1, iv p0), (2, iv 0)]) zk_133_14 (nL := 3) rfl rfl rfl rfl rfl (pc' := 15) rfl ?_
    refine T_loop1 (fun x4 => ((0 : Int)).toNat) (fun x4 => (0 ≤ x4 ∧ x4 ≤ 0)) (fun x4 => TJ xs (fun σ' => IF (MK 250 256 633 634) σ σ' ∧ σ' 36 0 0 633 = 0 ∧ True) 1 133 15 [(0, av 35 0 0), (1, iv p0), (2, iv x4)] [] _) ?_ 0 (by omega)
    intro x4 hp6 ih5
    refine T_ld zk_133_15 rfl rfl rfl (pc' := 16) rfl ?_
    refine T_ld zk_133_16 rfl rfl rfl (pc' := 17) rfl ?_
    refine T_getR (t' := 36) (i' := 0) (k' := 0) zk_133_17 rfl rfl rfl vd_35 (pc' := 20) rfl ?_
    refine T_op zk_133_20 rfl (X_si (v := 633) (by decide)) (pc' := 23) rfl ?_
    refine G_ialdX (w := 0) (ln := 646) zk_133_23 rfl rfl (vd_36 (by omega)) (by omega) (by omega) (by omega) (fun σ' h => h.2.1) (pc' := 24) rfl ?_
    refine T_icmp_ge zk_133_24 (by omega) (by omega) (pc' := 27) rfl (fun h7 => ?_) (fun h8 => ?_)
    ·
      refine T_ld zk_133_54 rfl rfl rfl (pc' := 55) rfl ?_
      refine T_getR (t' := 36) (i' := 0) (k' := 0) zk_133_55 rfl rfl rfl vd_35 (pc' := 58) rfl ?_
      refine T_op zk_133_58 rfl (X_si (v := 633) (by decide)) (pc' := 61) rfl ?_
      refine G_ialdX (w := 0) (ln := 646) zk_133_61 rfl rfl (vd_36 (by omega)) (by omega) (by omega) (by omega) (fun σ' h => h.2.1) (pc' := 62) rfl ?_
      refine T_op zk_133_62 rfl X_ic (pc' := 63) rfl ?_
      refine T_icmp_ne zk_133_63 (by omega) (by omega) (pc' := 66) rfl (fun h9 => ?_) (fun h10 => ?_)
      ·
        refine T_ld zk_133_73 rfl rfl rfl (pc' := 74) rfl ?_
        refine T_getR (t' := 36) (i' := 0) (k' := 0) zk_133_74 rfl rfl rfl vd_35 (pc' := 77) rfl ?_
        refine T_op zk_133_77 rfl (X_si (v := 250) (by decide)) (pc' := 80) rfl ?_
        refine T_ld zk_133_80 rfl rfl rfl (pc' := 81) rfl ?_
        refine T_getR (t' := 36) (i' := 0) (k' := 0) zk_133_81 rfl rfl rfl vd_35 (pc' := 84) rfl ?_
        refine T_op zk_133_84 rfl (X_si (v := 633) (by decide)) (pc' := 87) rfl ?_
        refine G_ialdX (w := 0) (ln := 646) zk_133_87 rfl rfl (vd_36 (by omega)) (by omega) (by omega) (by omega) (fun σ' h => h.2.1) (pc' := 88) rfl ?_
        refine T_opc (w := 250) zk_133_88 rfl X_add (by omega) (pc' := 89) rfl ?_
        refine T_ld zk_133_89 rfl rfl rfl (pc' := 90) rfl ?_
        refine G_iast (J' := (fun σ' => IF (MK 250 256 633 634) σ σ' ∧ σ' 36 0 0 633 = 0 ∧ σ' 36 0 0 250 = p0 ∧ True)) (ln := 646) zk_133_90 rfl rfl (vd_36 (by omega)) (by omega) (by omega) (by omega) (fun σ' h => ⟨h.1.up (by simp only [rgP] <;> omega) (by unfold MK; omega), (up_ne (by omega)).trans (h.2.1), up_eq, trivial⟩) (pc' := 91) rfl ?_
        refine T_ld zk_133_91 rfl rfl rfl (pc' := 92) rfl ?_
        refine T_getR (t' := 36) (i' := 0) (k' := 0) zk_133_92 rfl rfl rfl vd_35 (pc' := 95) rfl ?_
        refine T_op zk_133_95 rfl (X_si (v := 253) (by decide)) (pc' := 98) rfl ?_
        refine T_ld zk_133_98 rfl rfl rfl (pc' := 99) rfl ?_
        refine T_getR (t' := 36) (i' := 0) (k' := 0) zk_133_99 rfl rfl rfl vd_35 (pc' := 102) rfl ?_
        refine T_op zk_133_102 rfl (X_si (v := 633) (by decide)) (pc' := 105) rfl ?_
        refine G_ialdX (w := 0) (ln := 646) zk_133_105 rfl rfl (vd_36 (by omega)) (by omega) (by omega) (by omega) (fun σ' h => h.2.1) (pc' := 106) rfl ?_
        refine T_opc (w := 253) zk_133_106 rfl X_add (by omega) (pc' := 107) rfl ?_
        refine T_op zk_133_107 rfl X_ic (pc' := 108) rfl ?_
        refine G_iast (J' := (fun σ' => IF (MK 250 256 633 634) σ σ' ∧ σ' 36 0 0 633 = 0 ∧ σ' 36 0 0 250 = p0 ∧ σ' 36 0 0 253 = 0 ∧ True)) (ln := 646) zk_133_108 rfl rfl (vd_36 (by omega)) (by omega) (by omega) (by omega) (fun σ' h => ⟨h.1.up (by simp only [rgP] <;> omega) (by unfold MK; omega), (up_ne (by omega)).trans (h.2.1), (up_ne (by omega)).trans (h.2.2.1), up_eq, trivial⟩) (pc' := 109) rfl ?_
        refine T_ld zk_133_109 rfl rfl rfl (pc' := 110) rfl ?_
        refine T_getR (t' := 36) (i' := 0) (k' := 0) zk_133_110 rfl rfl rfl vd_35 (pc' := 113) rfl ?_
        refine T_op zk_133_113 rfl (X_si (v := 633) (by decide)) (pc' := 116) rfl ?_
        refine T_op (st' := [iv 633, av 36 0 0, iv 633, av 36 0 0]) zk_133_116 rfl rfl (pc' := 117) rfl ?_
        refine G_ialdX (w := 0) (ln := 646) zk_133_117 rfl rfl (vd_36 (by omega)) (by omega) (by omega) (by omega) (fun σ' h => h.2.1) (pc' := 118) rfl ?_
        refine T_op (st' := [iv 0, iv 633, av 36 0 0, iv 0]) zk_133_118 rfl rfl (pc' := 119) rfl ?_
        refine T_op zk_133_119 rfl X_ic (pc' := 120) rfl ?_
        refine T_opc (w := 1) zk_133_120 rfl X_add (by omega) (pc' := 121) rfl ?_
        refine G_iast (J' := (fun σ' => IF (MK 250 256 633 634) σ σ' ∧ σ' 36 0 0 250 = p0 ∧ σ' 36 0 0 253 = 0 ∧ σ' 36 0 0 633 = 1 ∧ True)) (ln := 646) zk_133_121 rfl rfl (vd_36 (by omega)) (by omega) (by omega) (by omega) (fun σ' h => ⟨h.1.up (by simp only [rgP] <;> omega) (by unfold MK; omega), (up_ne (by omega)).trans (h.2.2.1), (up_ne (by omega)).trans (h.2.2.2.1), up_eq, trivial⟩) (pc' := 122) rfl ?_
        exact T_iret zk_133_122 rfl (fun σ' h => ⟨_, rfl, (by omega), h.1, trivial⟩)
      · exfalso; omega
    · exfalso; omega
  ·
    refine T_ld zk_133_7 rfl rfl rfl (pc' := 8) rfl ?_
    refine T_op zk_133_8 rfl X_ic (pc' := 9) rfl ?_
    refine T_calli (K := fun y11 σ' => (y11 = (-1)) ∧ (fun σ' => IF (MK 250 256 633 634) σ σ' ∧ σ' 36 0 0 633 = 0 ∧ True) σ') (r := []) zk_133_9 rfl rfl rfl rfl rfl rfl (Or.inr ⟨_, _, _, _, rfl, vd_35, rfl⟩) (fun σ' h => (m_123 ((-1)) (by omega) σ' h.1.1 ).le (Nat.le_of_ble_eq_true rfl) (fun v σ2 ⟨y, h1, h2, h3, h4⟩ => ⟨y, h1, h2, h.1.tr h3 (fun t i k j h => by unfold MT at h; unfold MK; omega), (h3.2 _ _ _ _ (by unfold MT; omega)).trans (h.2.1), trivial⟩)) (pc' := 12) rfl (fun y11 => ?_)
    refine G_ex (fun hy11 => ?_)
    obtain rfl : y11 = (-1) := by omega
    exact T_iret zk_133_12 rfl (fun σ' h => ⟨_, rfl, (by omega), h.1, trivial⟩)
/-- WModel.gate -/
theorem m_gate {xs : Nat × (Nat → Int32)} (p0 : Int) (p1 : Int) (h0 : -2147483648 ≤ p0 ∧ p0 ≤ 2147483647) (h1 : 0 ≤ p1 ∧ p1 ≤ 1) (σ : ZS) (hI : Inv σ) (hm : ∀ t i k j, 35 ≤ t → σ t i k j = σ0 t i k j)  : CT xs 2 134 [av 35 0 0, iv p0, iv p1] σ (fun v σ' => ∃ y, v = some (iv y) ∧ (y = -1) ∧ IF (MT 49 49 49 49) σ σ' ∧ (True)) := by
  refine G_ct (J := (fun σ' => IF (MT 49 49 49 49) σ σ' ∧ True)) (L := [(0, av 35 0 0), (1, iv p0), (2, iv p1)]) (nL := 3) rfl rfl rfl ⟨IF.rf hI, trivial⟩ ?_
  refine T_ld zk_134_0 rfl rfl rfl (pc' := 1) rfl ?_
  refine T_if_lt zk_134_1 (by omega) (pc' := 4) rfl (fun h1 => ?_) (fun h2 => ?_)
  ·
    refine T_ld zk_134_16 rfl rfl rfl (pc' := 17) rfl ?_
    refine T_op zk_134_17 rfl X_ic (pc' := 18) rfl ?_
    refine T_calli (K := fun y3 σ' => (y3 = (-1)) ∧ (fun σ' => IF (MT 49 49 49 49) σ σ' ∧ True) σ') (r := []) zk_134_18 rfl rfl rfl rfl rfl rfl (Or.inr ⟨_, _, _, _, rfl, vd_35, rfl⟩) (fun σ' h => (m_123 ((-1)) (by omega) σ' h.1.1 ).le (Nat.le_of_ble_eq_true rfl) (fun v σ2 ⟨y, h1, h2, h3, h4⟩ => ⟨y, h1, h2, h.1.tr h3 (fun _ _ _ _ h => h), trivial⟩)) (pc' := 21) rfl (fun y3 => ?_)
    refine G_ex (fun hy3 => ?_)
    obtain rfl : y3 = (-1) := by omega
    refine T_goto zk_134_21 ?_
    exact T_iret zk_134_34 rfl (fun σ' h => ⟨_, rfl, (by omega), h.1, trivial⟩)
  ·
    refine T_ld zk_134_4 rfl rfl rfl (pc' := 5) rfl ?_
    refine T_ld zk_134_5 rfl rfl rfl (pc' := 6) rfl ?_
    refine T_getR (t' := 36) (i' := 0) (k' := 0) zk_134_6 rfl rfl rfl vd_35 (pc' := 9) rfl ?_
    refine T_op zk_134_9 rfl (X_si (v := 633) (by decide)) (pc' := 12) rfl ?_
    refine G_ialdX (w := 0) (ln := 646) zk_134_12 rfl rfl (vd_36 (by omega)) (by omega) (by omega) (by omega) (fun σ' h => (h.1.2 _ _ _ _ (by unfold MT; omega)).trans ((hm _ _ _ _ (by decide)).trans (s0_z (by omega)))) (pc' := 13) rfl ?_
    refine T_icmp_lt zk_134_13 (by omega) (by omega) (pc' := 16) rfl (fun h4 => ?_) (fun h5 => ?_)
    · exfalso; omega
    ·
      refine T_ld zk_134_16 rfl rfl rfl (pc' := 17) rfl ?_
      refine T_op zk_134_17 rfl X_ic (pc' := 18) rfl ?_
      refine T_calli (K := fun y6 σ' => (y6 = (-1)) ∧ (fun σ' => IF (MT 49 49 49 49) σ σ' ∧ True) σ') (r := []) zk_134_18 rfl rfl rfl rfl rfl rfl (Or.inr ⟨_, _, _, _, rfl, vd_35, rfl⟩) (fun σ' h => (m_123 ((-1)) (by omega) σ' h.1.1 ).le (Nat.le_of_ble_eq_true rfl) (fun v σ2 ⟨y, h1, h2, h3, h4⟩ => ⟨y, h1, h2, h.1.tr h3 (fun _ _ _ _ h => h), trivial⟩)) (pc' := 21) rfl (fun y6 => ?_)
      refine G_ex (fun hy6 => ?_)
      obtain rfl : y6 = (-1) := by omega
      refine T_goto zk_134_21 ?_
      exact T_iret zk_134_34 rfl (fun σ' h => ⟨_, rfl, (by omega), h.1, trivial⟩)
/-- WModel.row -/
theorem m_row {xs : Nat × (Nat → Int32)} (p0 : Int) (p1 : Int) (p2 : Int) (h0 : -2147483648 ≤ p0 ∧ p0 ≤ 2147483647) (h1 : -2147483648 ≤ p1 ∧ p1 ≤ 2147483647) (h2 : -2147483648 ≤ p2 ∧ p2 ≤ 2147483647) (σ : ZS) (hI : Inv σ) (hm : ∀ t i k j, 35 ≤ t → σ t i k j = σ0 t i k j)  : CT xs 2 135 [av 35 0 0, iv p0, iv p1, iv p2] σ (fun v σ' => ∃ y, v = some (iv y) ∧ ((y = -1 ∧ (¬ (0 ≤ p0 ∧ p0 ≤ 7))) ∨ (y = -4 ∧ ¬ (¬ (0 ≤ p0 ∧ p0 ≤ 7)) ∧ (p2 < 0)) ∨ (y = -6 ∧ ¬ (¬ (0 ≤ p0 ∧ p0 ≤ 7)) ∧ ¬ (p2 < 0) ∧ (¬ (0 ≤ p1 ∧ p1 ≤ 3))) ∨ (y = -7 ∧ ¬ (¬ (0 ≤ p0 ∧ p0 ≤ 7)) ∧ ¬ (p2 < 0) ∧ ¬ (¬ (0 ≤ p1 ∧ p1 ≤ 3)) ∧ (96 < p2)) ∨ (y = 1 ∧ ¬ (¬ (0 ≤ p0 ∧ p0 ≤ 7)) ∧ ¬ (p2 < 0) ∧ ¬ (¬ (0 ≤ p1 ∧ p1 ≤ 3)) ∧ ¬ (96 < p2))) ∧ IF MB σ σ' ∧ (True)) := by
  refine G_ct (J := (fun σ' => IF MB σ σ' ∧ True)) (L := [(0, av 35 0 0), (1, iv p0), (2, iv p1), (3, iv p2)]) (nL := 5) rfl rfl rfl ⟨IF.rf hI, trivial⟩ ?_
  refine T_ld zk_135_0 rfl rfl rfl (pc' := 1) rfl ?_
  refine T_calli (K := fun y1 σ' => ((y1 = 0 ∧ (p0 < 0 ∨ 7 < p0)) ∨ (y1 = 1 ∧ 0 ≤ p0 ∧ p0 ≤ 7)) ∧ (fun σ' => IF MB σ σ' ∧ True) σ') (r := []) zk_135_1 rfl rfl rfl rfl rfl rfl (Or.inl (Or.inl rfl)) (fun σ' h => (m_125 p0 (by omega) σ' h.1.1 ).le (Nat.le_of_ble_eq_true rfl) (fun v σ2 ⟨y, h1, h2, h3, h4⟩ => ⟨y, h1, h2, h.1.tr h3 MN_sub, trivial⟩)) (pc' := 4) rfl (fun y1 => ?_)
  refine G_ex (fun hy1 => ?_)
  refine T_if_ne zk_135_4 (by omega) (pc' := 7) rfl (fun h2 => ?_) (fun h3 => ?_)
  ·
    refine T_ld zk_135_13 rfl rfl rfl (pc' := 14) rfl ?_
    refine T_if_ge zk_135_14 (by omega) (pc' := 17) rfl (fun h4 => ?_) (fun h5 => ?_)
    ·
      refine T_ld zk_135_24 rfl rfl rfl (pc' := 25) rfl ?_
      refine T_if_lt zk_135_25 (by omega) (pc' := 28) rfl (fun h6 => ?_) (fun h7 => ?_)
      ·
        refine T_ld zk_135_33 rfl rfl rfl (pc' := 34) rfl ?_
        refine T_op zk_135_34 rfl (X_bi (v := -6) (by decide)) (pc' := 36) rfl ?_
        refine T_calli (K := fun y8 σ' => (y8 = (-6)) ∧ (fun σ' => IF MB σ σ' ∧ True) σ') (r := []) zk_135_36 rfl rfl rfl rfl rfl rfl (Or.inr ⟨_, _, _, _, rfl, vd_35, rfl⟩) (fun σ' h => (m_123 ((-6)) (by omega) σ' h.1.1 ).le (Nat.le_of_ble_eq_true rfl) (fun v σ2 ⟨y, h1, h2, h3, h4⟩ => ⟨y, h1, h2, h.1.tr h3 (fun t i k j h => by unfold MT at h; unfold MB; omega), trivial⟩)) (pc' := 39) rfl (fun y8 => ?_)
        refine G_ex (fun hy8 => ?_)
        obtain rfl : y8 = (-6) := by omega
        exact T_iret zk_135_39 rfl (fun σ' h => ⟨_, rfl, (by omega), h.1, trivial⟩)
      ·
        refine T_ld zk_135_28 rfl rfl rfl (pc' := 29) rfl ?_
        refine T_op zk_135_29 rfl X_ic (pc' := 30) rfl ?_
        refine T_icmp_le zk_135_30 (by omega) (by omega) (pc' := 33) rfl (fun h9 => ?_) (fun h10 => ?_)
        ·
          refine T_ld zk_135_40 rfl rfl rfl (pc' := 41) rfl ?_
          refine T_op zk_135_41 rfl (X_bi (v := 96) (by decide)) (pc' := 43) rfl ?_
          refine T_icmp_le zk_135_43 (by omega) (by omega) (pc' := 46) rfl (fun h11 => ?_) (fun h12 => ?_)
          ·
            refine T_ld zk_135_53 rfl rfl rfl (pc' := 54) rfl ?_
            refine T_getR (t' := 37) (i' := 0) (k' := 0) zk_135_54 rfl rfl rfl vd_35 (pc' := 57) rfl ?_
            refine T_ld zk_135_57 rfl rfl rfl (pc' := 58) rfl ?_
            refine T_op zk_135_58 rfl X_ic (pc' := 59) rfl ?_
            refine G_iast (J' := (fun σ' => IF MB σ σ' ∧ True)) (ln := 8) zk_135_59 rfl rfl vd_37 (by omega) (by omega) (by omega) (fun σ' h => ⟨h.1.up (by simp only [rgP] <;> omega) (by unfold MB; omega), trivial⟩) (pc' := 60) rfl ?_
            refine T_ld zk_135_60 rfl rfl rfl (pc' := 61) rfl ?_
            refine T_getR (t' := 38) (i' := 0) (k' := 0) zk_135_61 rfl rfl rfl vd_35 (pc' := 64) rfl ?_
            refine T_ld zk_135_64 rfl rfl rfl (pc' := 65) rfl ?_
            refine T_ld zk_135_65 rfl rfl rfl (pc' := 66) rfl ?_
            refine G_iast (J' := (fun σ' => IF MB σ σ' ∧ True)) (ln := 8) zk_135_66 rfl rfl vd_38 (by omega) (by omega) (by omega) (fun σ' h => ⟨h.1.up (by simp only [rgP] <;> omega) (by unfold MB; omega), trivial⟩) (pc' := 67) rfl ?_
            refine T_ld zk_135_67 rfl rfl rfl (pc' := 68) rfl ?_
            refine T_getR (t' := 39) (i' := 0) (k' := 0) zk_135_68 rfl rfl rfl vd_35 (pc' := 71) rfl ?_
            refine T_ld zk_135_71 rfl rfl rfl (pc' := 72) rfl ?_
            refine T_ld zk_135_72 rfl rfl rfl (pc' := 73) rfl ?_
            refine G_iast (J' := (fun σ' => IF MB σ σ' ∧ True)) (ln := 8) zk_135_73 rfl rfl vd_39 (by omega) (by omega) (by omega) (fun σ' h => ⟨h.1.up (by simp only [rgP] <;> omega) (by unfold MB; omega), trivial⟩) (pc' := 74) rfl ?_
            refine T_op zk_135_74 rfl X_ic (pc' := 75) rfl ?_
            refine T_st (L' := [(0, av 35 0 0), (1, iv p0), (2, iv p1), (3, iv p2), (4, iv 0)]) zk_135_75 (nL := 5) rfl rfl rfl rfl rfl (pc' := 77) rfl ?_
            refine T_loop1 (fun x13 => ((96 - x13 : Int)).toNat) (fun x13 => (0 ≤ x13 ∧ x13 ≤ 96)) (fun x13 => TJ xs (fun σ' => IF MB σ σ' ∧ True) 1 135 77 [(0, av 35 0 0), (1, iv p0), (2, iv p1), (3, iv p2), (4, iv x13)] [] _) ?_ 0 (by omega)
            intro x13 hp15 ih14
            refine T_ld zk_135_77 rfl rfl rfl (pc' := 79) rfl ?_
            refine T_op zk_135_79 rfl (X_bi (v := 96) (by decide)) (pc' := 81) rfl ?_
            refine T_icmp_ge zk_135_81 (by omega) (by omega) (pc' := 84) rfl (fun h16 => ?_) (fun h17 => ?_)
            ·
              refine T_op zk_135_103 rfl X_ic (pc' := 104) rfl ?_
              exact T_iret zk_135_104 rfl (fun σ' h => ⟨_, rfl, (by omega), h.1, trivial⟩)
            ·
              refine T_ld zk_135_84 rfl rfl rfl (pc' := 85) rfl ?_
              refine T_getR (t' := 41) (i' := 0) (k' := 0) zk_135_85 rfl rfl rfl vd_35 (pc' := 88) rfl ?_
              refine T_op zk_135_88 rfl (X_bi (v := 96) (by decide)) (pc' := 90) rfl ?_
              refine T_ld zk_135_90 rfl rfl rfl (pc' := 91) rfl ?_
              refine T_op zk_135_91 rfl X_mul (pc' := 92) rfl ?_
              refine T_ld zk_135_92 rfl rfl rfl (pc' := 94) rfl ?_
              refine T_op zk_135_94 rfl X_add (pc' := 95) rfl ?_
              refine T_op zk_135_95 rfl (X_lc (v := 0) (by decide)) (pc' := 96) rfl ?_
              refine G_last (J' := (fun σ' => IF MB σ σ' ∧ True)) (ln := 768) zk_135_96 rfl rfl vd_41 (by omega) (by omega) (by omega) (fun σ' h => ⟨h.1.up ⟨by omega, trivial⟩ (by unfold MB; omega), trivial⟩) (pc' := 97) rfl ?_
              refine T_iinc (L' := [(0, av 35 0 0), (1, iv p0), (2, iv p1), (3, iv p2), (4, iv (x13 + 1))]) zk_135_97 (nL := 5) rfl rfl rfl rfl (pc' := 100) rfl ?_
              refine T_goto zk_135_100 ?_
              exact ih14 (x13 + 1) (by omega) (by omega)
          ·
            refine T_ld zk_135_46 rfl rfl rfl (pc' := 47) rfl ?_
            refine T_op zk_135_47 rfl (X_bi (v := -7) (by decide)) (pc' := 49) rfl ?_
            refine T_calli (K := fun y18 σ' => (y18 = (-7)) ∧ (fun σ' => IF MB σ σ' ∧ True) σ') (r := []) zk_135_49 rfl rfl rfl rfl rfl rfl (Or.inr ⟨_, _, _, _, rfl, vd_35, rfl⟩) (fun σ' h => (m_123 ((-7)) (by omega) σ' h.1.1 ).le (Nat.le_of_ble_eq_true rfl) (fun v σ2 ⟨y, h1, h2, h3, h4⟩ => ⟨y, h1, h2, h.1.tr h3 (fun t i k j h => by unfold MT at h; unfold MB; omega), trivial⟩)) (pc' := 52) rfl (fun y18 => ?_)
            refine G_ex (fun hy18 => ?_)
            obtain rfl : y18 = (-7) := by omega
            exact T_iret zk_135_52 rfl (fun σ' h => ⟨_, rfl, (by omega), h.1, trivial⟩)
        ·
          refine T_ld zk_135_33 rfl rfl rfl (pc' := 34) rfl ?_
          refine T_op zk_135_34 rfl (X_bi (v := -6) (by decide)) (pc' := 36) rfl ?_
          refine T_calli (K := fun y19 σ' => (y19 = (-6)) ∧ (fun σ' => IF MB σ σ' ∧ True) σ') (r := []) zk_135_36 rfl rfl rfl rfl rfl rfl (Or.inr ⟨_, _, _, _, rfl, vd_35, rfl⟩) (fun σ' h => (m_123 ((-6)) (by omega) σ' h.1.1 ).le (Nat.le_of_ble_eq_true rfl) (fun v σ2 ⟨y, h1, h2, h3, h4⟩ => ⟨y, h1, h2, h.1.tr h3 (fun t i k j h => by unfold MT at h; unfold MB; omega), trivial⟩)) (pc' := 39) rfl (fun y19 => ?_)
          refine G_ex (fun hy19 => ?_)
          obtain rfl : y19 = (-6) := by omega
          exact T_iret zk_135_39 rfl (fun σ' h => ⟨_, rfl, (by omega), h.1, trivial⟩)
    ·
      refine T_ld zk_135_17 rfl rfl rfl (pc' := 18) rfl ?_
      refine T_op zk_135_18 rfl (X_bi (v := -4) (by decide)) (pc' := 20) rfl ?_
      refine T_calli (K := fun y20 σ' => (y20 = (-4)) ∧ (fun σ' => IF MB σ σ' ∧ True) σ') (r := []) zk_135_20 rfl rfl rfl rfl rfl rfl (Or.inr ⟨_, _, _, _, rfl, vd_35, rfl⟩) (fun σ' h => (m_123 ((-4)) (by omega) σ' h.1.1 ).le (Nat.le_of_ble_eq_true rfl) (fun v σ2 ⟨y, h1, h2, h3, h4⟩ => ⟨y, h1, h2, h.1.tr h3 (fun t i k j h => by unfold MT at h; unfold MB; omega), trivial⟩)) (pc' := 23) rfl (fun y20 => ?_)
      refine G_ex (fun hy20 => ?_)
      obtain rfl : y20 = (-4) := by omega
      exact T_iret zk_135_23 rfl (fun σ' h => ⟨_, rfl, (by omega), h.1, trivial⟩)
  ·
    refine T_ld zk_135_7 rfl rfl rfl (pc' := 8) rfl ?_
    refine T_op zk_135_8 rfl X_ic (pc' := 9) rfl ?_
    refine T_calli (K := fun y21 σ' => (y21 = (-1)) ∧ (fun σ' => IF MB σ σ' ∧ True) σ') (r := []) zk_135_9 rfl rfl rfl rfl rfl rfl (Or.inr ⟨_, _, _, _, rfl, vd_35, rfl⟩) (fun σ' h => (m_123 ((-1)) (by omega) σ' h.1.1 ).le (Nat.le_of_ble_eq_true rfl) (fun v σ2 ⟨y, h1, h2, h3, h4⟩ => ⟨y, h1, h2, h.1.tr h3 (fun t i k j h => by unfold MT at h; unfold MB; omega), trivial⟩)) (pc' := 12) rfl (fun y21 => ?_)
    refine G_ex (fun hy21 => ?_)
    obtain rfl : y21 = (-1) := by omega
    exact T_iret zk_135_12 rfl (fun σ' h => ⟨_, rfl, (by omega), h.1, trivial⟩)
/-- WModel.set -/
theorem m_set {xs : Nat × (Nat → Int32)} (p0 : Int) (p1 : Int) (p2 : Int) (h0 : -2147483648 ≤ p0 ∧ p0 ≤ 2147483647) (h1 : -2147483648 ≤ p1 ∧ p1 ≤ 2147483647) (σ : ZS) (hI : Inv σ) (hm : ∀ t i k j, 35 ≤ t → σ t i k j = σ0 t i k j)  : CT xs 2 136 [av 35 0 0, iv p0, iv p1, jv p2] σ (fun v σ' => ∃ y, v = some (iv y) ∧ ((y = -1 ∧ (¬ (0 ≤ p0 ∧ p0 ≤ 7))) ∨ (y = -3 ∧ ¬ (¬ (0 ≤ p0 ∧ p0 ≤ 7)))) ∧ IF (MT 49 49 49 49) σ σ' ∧ (True)) := by
  refine G_ct (J := (fun σ' => IF (MT 49 49 49 49) σ σ' ∧ True)) (L := [(0, av 35 0 0), (1, iv p0), (2, iv p1), (3, jv p2)]) (nL := 5) rfl rfl rfl ⟨IF.rf hI, trivial⟩ ?_
  refine T_ld zk_136_0 rfl rfl rfl (pc' := 1) rfl ?_
  refine T_calli (K := fun y1 σ' => ((y1 = 0 ∧ (p0 < 0 ∨ 7 < p0)) ∨ (y1 = 1 ∧ 0 ≤ p0 ∧ p0 ≤ 7)) ∧ (fun σ' => IF (MT 49 49 49 49) σ σ' ∧ True) σ') (r := []) zk_136_1 rfl rfl rfl rfl rfl rfl (Or.inl (Or.inl rfl)) (fun σ' h => (m_125 p0 (by omega) σ' h.1.1 ).le (Nat.le_of_ble_eq_true rfl) (fun v σ2 ⟨y, h1, h2, h3, h4⟩ => ⟨y, h1, h2, h.1.tr h3 MN_sub, trivial⟩)) (pc' := 4) rfl (fun y1 => ?_)
  refine G_ex (fun hy1 => ?_)
  refine T_if_ne zk_136_4 (by omega) (pc' := 7) rfl (fun h2 => ?_) (fun h3 => ?_)
  ·
    refine T_ld zk_136_13 rfl rfl rfl (pc' := 14) rfl ?_
    refine T_getR (t' := 37) (i' := 0) (k' := 0) zk_136_14 rfl rfl rfl vd_35 (pc' := 17) rfl ?_
    refine T_ld zk_136_17 rfl rfl rfl (pc' := 18) rfl ?_
    refine G_ialdX (w := 0) (ln := 8) zk_136_18 rfl rfl vd_37 (by omega) (by omega) (by omega) (fun σ' h => (h.1.2 _ _ _ _ (by unfold MT; omega)).trans (hm _ _ _ _ (by decide))) (pc' := 19) rfl ?_
    refine T_op zk_136_19 rfl X_ic (pc' := 20) rfl ?_
    refine T_icmp_ne zk_136_20 (by omega) (by omega) (pc' := 23) rfl (fun h4 => ?_) (fun h5 => ?_)
    ·
      refine T_ld zk_136_30 rfl rfl rfl (pc' := 31) rfl ?_
      refine T_getR (t' := 37) (i' := 0) (k' := 0) zk_136_31 rfl rfl rfl vd_35 (pc' := 34) rfl ?_
      refine T_ld zk_136_34 rfl rfl rfl (pc' := 35) rfl ?_
      refine G_ialdX (w := 0) (ln := 8) zk_136_35 rfl rfl vd_37 (by omega) (by omega) (by omega) (fun σ' h => (h.1.2 _ _ _ _ (by unfold MT; omega)).trans (hm _ _ _ _ (by decide))) (pc' := 36) rfl ?_
      refine T_if_ne zk_136_36 (by omega) (pc' := 39) rfl (fun h6 => ?_) (fun h7 => ?_)
      · exfalso; omega
      ·
        refine T_ld zk_136_39 rfl rfl rfl (pc' := 40) rfl ?_
        refine T_op zk_136_40 rfl (X_bi (v := -3) (by decide)) (pc' := 42) rfl ?_
        refine T_calli (K := fun y8 σ' => (y8 = (-3)) ∧ (fun σ' => IF (MT 49 49 49 49) σ σ' ∧ True) σ') (r := []) zk_136_42 rfl rfl rfl rfl rfl rfl (Or.inr ⟨_, _, _, _, rfl, vd_35, rfl⟩) (fun σ' h => (m_123 ((-3)) (by omega) σ' h.1.1 ).le (Nat.le_of_ble_eq_true rfl) (fun v σ2 ⟨y, h1, h2, h3, h4⟩ => ⟨y, h1, h2, h.1.tr h3 (fun _ _ _ _ h => h), trivial⟩)) (pc' := 45) rfl (fun y8 => ?_)
        refine G_ex (fun hy8 => ?_)
        obtain rfl : y8 = (-3) := by omega
        exact T_iret zk_136_45 rfl (fun σ' h => ⟨_, rfl, (by omega), h.1, trivial⟩)
    · exfalso; omega
  ·
    refine T_ld zk_136_7 rfl rfl rfl (pc' := 8) rfl ?_
    refine T_op zk_136_8 rfl X_ic (pc' := 9) rfl ?_
    refine T_calli (K := fun y9 σ' => (y9 = (-1)) ∧ (fun σ' => IF (MT 49 49 49 49) σ σ' ∧ True) σ') (r := []) zk_136_9 rfl rfl rfl rfl rfl rfl (Or.inr ⟨_, _, _, _, rfl, vd_35, rfl⟩) (fun σ' h => (m_123 ((-1)) (by omega) σ' h.1.1 ).le (Nat.le_of_ble_eq_true rfl) (fun v σ2 ⟨y, h1, h2, h3, h4⟩ => ⟨y, h1, h2, h.1.tr h3 (fun _ _ _ _ h => h), trivial⟩)) (pc' := 12) rfl (fun y9 => ?_)
    refine G_ex (fun hy9 => ?_)
    obtain rfl : y9 = (-1) := by omega
    exact T_iret zk_136_12 rfl (fun σ' h => ⟨_, rfl, (by omega), h.1, trivial⟩)
/-- WModel.copy -/
theorem m_copy {xs : Nat × (Nat → Int32)} (p0 : Int) (p1 : Int) (p2 : Int) (p3 : Int) (p4 : Int) (h0 : -2147483648 ≤ p0 ∧ p0 ≤ 2147483647) (h1 : -2147483648 ≤ p1 ∧ p1 ≤ 2147483647) (h2 : -2147483648 ≤ p2 ∧ p2 ≤ 2147483647) (h3 : -2147483648 ≤ p3 ∧ p3 ≤ 2147483647) (h4 : -2147483648 ≤ p4 ∧ p4 ≤ 2147483647) (σ : ZS) (hI : Inv σ) (hm : ∀ t i k j, 35 ≤ t → σ t i k j = σ0 t i k j)  : CT xs 2 137 [av 35 0 0, iv p0, iv p1, iv p2, iv p3, iv p4] σ (fun v σ' => ∃ y, v = some (iv y) ∧ ((y = -1 ∧ (¬ (0 ≤ p0 ∧ p0 ≤ 7) ∨ ¬ (0 ≤ p1 ∧ p1 ≤ 7))) ∨ (y = -3 ∧ ¬ (¬ (0 ≤ p0 ∧ p0 ≤ 7) ∨ ¬ (0 ≤ p1 ∧ p1 ≤ 7)))) ∧ IF (MT 49 49 49 49) σ σ' ∧ (True)) := by
  refine G_ct (J := (fun σ' => IF (MT 49 49 49 49) σ σ' ∧ True)) (L := [(0, av 35 0 0), (1, iv p0), (2, iv p1), (3, iv p2), (4, iv p3), (5, iv p4)]) (nL := 7) rfl rfl rfl ⟨IF.rf hI, trivial⟩ ?_
  refine T_ld zk_137_0 rfl rfl rfl (pc' := 1) rfl ?_
  refine T_calli (K := fun y1 σ' => ((y1 = 0 ∧ (p0 < 0 ∨ 7 < p0)) ∨ (y1 = 1 ∧ 0 ≤ p0 ∧ p0 ≤ 7)) ∧ (fun σ' => IF (MT 49 49 49 49) σ σ' ∧ True) σ') (r := []) zk_137_1 rfl rfl rfl rfl rfl rfl (Or.inl (Or.inl rfl)) (fun σ' h => (m_125 p0 (by omega) σ' h.1.1 ).le (Nat.le_of_ble_eq_true rfl) (fun v σ2 ⟨y, h1, h2, h3, h4⟩ => ⟨y, h1, h2, h.1.tr h3 MN_sub, trivial⟩)) (pc' := 4) rfl (fun y1 => ?_)
  refine G_ex (fun hy1 => ?_)
  refine T_if_eq zk_137_4 (by omega) (pc' := 7) rfl (fun h2 => ?_) (fun h3 => ?_)
  ·
    refine T_ld zk_137_14 rfl rfl rfl (pc' := 15) rfl ?_
    refine T_op zk_137_15 rfl X_ic (pc' := 16) rfl ?_
    refine T_calli (K := fun y4 σ' => (y4 = (-1)) ∧ (fun σ' => IF (MT 49 49 49 49) σ σ' ∧ True) σ') (r := []) zk_137_16 rfl rfl rfl rfl rfl rfl (Or.inr ⟨_, _, _, _, rfl, vd_35, rfl⟩) (fun σ' h => (m_123 ((-1)) (by omega) σ' h.1.1 ).le (Nat.le_of_ble_eq_true rfl) (fun v σ2 ⟨y, h1, h2, h3, h4⟩ => ⟨y, h1, h2, h.1.tr h3 (fun _ _ _ _ h => h), trivial⟩)) (pc' := 19) rfl (fun y4 => ?_)
    refine G_ex (fun hy4 => ?_)
    obtain rfl : y4 = (-1) := by omega
    exact T_iret zk_137_19 rfl (fun σ' h => ⟨_, rfl, (by omega), h.1, trivial⟩)
  ·
    refine T_ld zk_137_7 rfl rfl rfl (pc' := 8) rfl ?_
    refine T_calli (K := fun y5 σ' => ((y5 = 0 ∧ (p1 < 0 ∨ 7 < p1)) ∨ (y5 = 1 ∧ 0 ≤ p1 ∧ p1 ≤ 7)) ∧ (fun σ' => IF (MT 49 49 49 49) σ σ' ∧ True) σ') (r := []) zk_137_8 rfl rfl rfl rfl rfl rfl (Or.inl (Or.inl rfl)) (fun σ' h => (m_125 p1 (by omega) σ' h.1.1 ).le (Nat.le_of_ble_eq_true rfl) (fun v σ2 ⟨y, h1, h2, h3, h4⟩ => ⟨y, h1, h2, h.1.tr h3 MN_sub, trivial⟩)) (pc' := 11) rfl (fun y5 => ?_)
    refine G_ex (fun hy5 => ?_)
    refine T_if_ne zk_137_11 (by omega) (pc' := 14) rfl (fun h6 => ?_) (fun h7 => ?_)
    ·
      refine T_ld zk_137_20 rfl rfl rfl (pc' := 21) rfl ?_
      refine T_getR (t' := 37) (i' := 0) (k' := 0) zk_137_21 rfl rfl rfl vd_35 (pc' := 24) rfl ?_
      refine T_ld zk_137_24 rfl rfl rfl (pc' := 25) rfl ?_
      refine G_ialdX (w := 0) (ln := 8) zk_137_25 rfl rfl vd_37 (by omega) (by omega) (by omega) (fun σ' h => (h.1.2 _ _ _ _ (by unfold MT; omega)).trans (hm _ _ _ _ (by decide))) (pc' := 26) rfl ?_
      refine T_op zk_137_26 rfl X_ic (pc' := 27) rfl ?_
      refine T_icmp_eq zk_137_27 (by omega) (by omega) (pc' := 30) rfl (fun h8 => ?_) (fun h9 => ?_)
      · exfalso; omega
      ·
        refine T_ld zk_137_30 rfl rfl rfl (pc' := 31) rfl ?_
        refine T_getR (t' := 37) (i' := 0) (k' := 0) zk_137_31 rfl rfl rfl vd_35 (pc' := 34) rfl ?_
        refine T_ld zk_137_34 rfl rfl rfl (pc' := 35) rfl ?_
        refine G_ialdX (w := 0) (ln := 8) zk_137_35 rfl rfl vd_37 (by omega) (by omega) (by omega) (fun σ' h => (h.1.2 _ _ _ _ (by unfold MT; omega)).trans (hm _ _ _ _ (by decide))) (pc' := 36) rfl ?_
        refine T_op zk_137_36 rfl X_ic (pc' := 37) rfl ?_
        refine T_icmp_eq zk_137_37 (by omega) (by omega) (pc' := 40) rfl (fun h10 => ?_) (fun h11 => ?_)
        · exfalso; omega
        ·
          refine T_ld zk_137_40 rfl rfl rfl (pc' := 41) rfl ?_
          refine T_getR (t' := 37) (i' := 0) (k' := 0) zk_137_41 rfl rfl rfl vd_35 (pc' := 44) rfl ?_
          refine T_ld zk_137_44 rfl rfl rfl (pc' := 45) rfl ?_
          refine G_ialdX (w := 0) (ln := 8) zk_137_45 rfl rfl vd_37 (by omega) (by omega) (by omega) (fun σ' h => (h.1.2 _ _ _ _ (by unfold MT; omega)).trans (hm _ _ _ _ (by decide))) (pc' := 46) rfl ?_
          refine T_op zk_137_46 rfl X_ic (pc' := 47) rfl ?_
          refine T_icmp_ne zk_137_47 (by omega) (by omega) (pc' := 50) rfl (fun h12 => ?_) (fun h13 => ?_)
          ·
            refine T_ld zk_137_82 rfl rfl rfl (pc' := 83) rfl ?_
            refine T_getR (t' := 37) (i' := 0) (k' := 0) zk_137_83 rfl rfl rfl vd_35 (pc' := 86) rfl ?_
            refine T_ld zk_137_86 rfl rfl rfl (pc' := 87) rfl ?_
            refine G_ialdX (w := 0) (ln := 8) zk_137_87 rfl rfl vd_37 (by omega) (by omega) (by omega) (fun σ' h => (h.1.2 _ _ _ _ (by unfold MT; omega)).trans (hm _ _ _ _ (by decide))) (pc' := 88) rfl ?_
            refine T_if_eq zk_137_88 (by omega) (pc' := 91) rfl (fun h14 => ?_) (fun h15 => ?_)
            ·
              refine T_ld zk_137_100 rfl rfl rfl (pc' := 101) rfl ?_
              refine T_op zk_137_101 rfl (X_bi (v := -3) (by decide)) (pc' := 103) rfl ?_
              refine T_calli (K := fun y16 σ' => (y16 = (-3)) ∧ (fun σ' => IF (MT 49 49 49 49) σ σ' ∧ True) σ') (r := []) zk_137_103 rfl rfl rfl rfl rfl rfl (Or.inr ⟨_, _, _, _, rfl, vd_35, rfl⟩) (fun σ' h => (m_123 ((-3)) (by omega) σ' h.1.1 ).le (Nat.le_of_ble_eq_true rfl) (fun v σ2 ⟨y, h1, h2, h3, h4⟩ => ⟨y, h1, h2, h.1.tr h3 (fun _ _ _ _ h => h), trivial⟩)) (pc' := 106) rfl (fun y16 => ?_)
              refine G_ex (fun hy16 => ?_)
              obtain rfl : y16 = (-3) := by omega
              exact T_iret zk_137_106 rfl (fun σ' h => ⟨_, rfl, (by omega), h.1, trivial⟩)
            · exfalso; omega
          · exfalso; omega
    ·
      refine T_ld zk_137_14 rfl rfl rfl (pc' := 15) rfl ?_
      refine T_op zk_137_15 rfl X_ic (pc' := 16) rfl ?_
      refine T_calli (K := fun y17 σ' => (y17 = (-1)) ∧ (fun σ' => IF (MT 49 49 49 49) σ σ' ∧ True) σ') (r := []) zk_137_16 rfl rfl rfl rfl rfl rfl (Or.inr ⟨_, _, _, _, rfl, vd_35, rfl⟩) (fun σ' h => (m_123 ((-1)) (by omega) σ' h.1.1 ).le (Nat.le_of_ble_eq_true rfl) (fun v σ2 ⟨y, h1, h2, h3, h4⟩ => ⟨y, h1, h2, h.1.tr h3 (fun _ _ _ _ h => h), trivial⟩)) (pc' := 19) rfl (fun y17 => ?_)
      refine G_ex (fun hy17 => ?_)
      obtain rfl : y17 = (-1) := by omega
      exact T_iret zk_137_19 rfl (fun σ' h => ⟨_, rfl, (by omega), h.1, trivial⟩)
/-- WModel.element -/
theorem m_element {xs : Nat × (Nat → Int32)} (p0 : Int) (p1 : Int) (h0 : -2147483648 ≤ p0 ∧ p0 ≤ 2147483647) (h1 : -2147483648 ≤ p1 ∧ p1 ≤ 2147483647) (σ : ZS) (hI : Inv σ) (hm : ∀ t i k j, 35 ≤ t → σ t i k j = σ0 t i k j)  : CT xs 2 138 [av 35 0 0, iv p0, iv p1] σ (fun v σ' => ∃ y, v = some (jv y) ∧ (y = 0) ∧ IF MN σ σ' ∧ (True)) := by
  refine G_ct (J := (fun σ' => IF MN σ σ' ∧ True)) (L := [(0, av 35 0 0), (1, iv p0), (2, iv p1)]) (nL := 3) rfl rfl rfl ⟨IF.rf hI, trivial⟩ ?_
  refine T_ld zk_138_0 rfl rfl rfl (pc' := 1) rfl ?_
  refine T_calli (K := fun y1 σ' => ((y1 = 0 ∧ (p0 < 0 ∨ 7 < p0)) ∨ (y1 = 1 ∧ 0 ≤ p0 ∧ p0 ≤ 7)) ∧ (fun σ' => IF MN σ σ' ∧ True) σ') (r := []) zk_138_1 rfl rfl rfl rfl rfl rfl (Or.inl (Or.inl rfl)) (fun σ' h => (m_125 p0 (by omega) σ' h.1.1 ).le (Nat.le_of_ble_eq_true rfl) (fun v σ2 ⟨y, h1, h2, h3, h4⟩ => ⟨y, h1, h2, h.1.tr h3 MN_sub, trivial⟩)) (pc' := 4) rfl (fun y1 => ?_)
  refine G_ex (fun hy1 => ?_)
  refine T_if_eq zk_138_4 (by omega) (pc' := 7) rfl (fun h2 => ?_) (fun h3 => ?_)
  ·
    refine T_op zk_138_45 rfl (X_lc (v := 0) (by decide)) (pc' := 46) rfl ?_
    exact T_lret zk_138_46 rfl (fun σ' h => ⟨_, rfl, (by omega), h.1, trivial⟩)
  ·
    refine T_ld zk_138_7 rfl rfl rfl (pc' := 8) rfl ?_
    refine T_getR (t' := 37) (i' := 0) (k' := 0) zk_138_8 rfl rfl rfl vd_35 (pc' := 11) rfl ?_
    refine T_ld zk_138_11 rfl rfl rfl (pc' := 12) rfl ?_
    refine G_ialdX (w := 0) (ln := 8) zk_138_12 rfl rfl vd_37 (by omega) (by omega) (by omega) (fun σ' h => (h.1.2 _ _ _ _ (fun q => q)).trans (hm _ _ _ _ (by decide))) (pc' := 13) rfl ?_
    refine T_op zk_138_13 rfl X_ic (pc' := 14) rfl ?_
    refine T_icmp_ne zk_138_14 (by omega) (by omega) (pc' := 17) rfl (fun h4 => ?_) (fun h5 => ?_)
    ·
      refine T_op zk_138_45 rfl (X_lc (v := 0) (by decide)) (pc' := 46) rfl ?_
      exact T_lret zk_138_46 rfl (fun σ' h => ⟨_, rfl, (by omega), h.1, trivial⟩)
    · exfalso; omega
/-- WModel.show -/
theorem m_show {xs : Nat × (Nat → Int32)} (p0 : Int) (p1 : Int) (h0 : -2147483648 ≤ p0 ∧ p0 ≤ 2147483647) (h1 : -2147483648 ≤ p1 ∧ p1 ≤ 2147483647) (σ : ZS) (hI : Inv σ) (hm : ∀ t i k j, 35 ≤ t → σ t i k j = σ0 t i k j)  : CT xs 2 140 [av 35 0 0, iv p0, iv p1] σ (fun v σ' => ∃ y, v = some (iv y) ∧ ((y = -1 ∧ (¬ (0 ≤ p0 ∧ p0 ≤ 7) ∨ ¬ (p1 = -1))) ∨ (y = 0 ∧ ¬ (¬ (0 ≤ p0 ∧ p0 ≤ 7) ∨ ¬ (p1 = -1)))) ∧ IF MB σ σ' ∧ (True)) := by
  refine G_ct (J := (fun σ' => IF MB σ σ' ∧ True)) (L := [(0, av 35 0 0), (1, iv p0), (2, iv p1)]) (nL := 3) rfl rfl rfl ⟨IF.rf hI, trivial⟩ ?_
  refine T_ld zk_140_0 rfl rfl rfl (pc' := 1) rfl ?_
  refine T_calli (K := fun y1 σ' => ((y1 = 0 ∧ (p0 < 0 ∨ 7 < p0)) ∨ (y1 = 1 ∧ 0 ≤ p0 ∧ p0 ≤ 7)) ∧ (fun σ' => IF MB σ σ' ∧ True) σ') (r := []) zk_140_1 rfl rfl rfl rfl rfl rfl (Or.inl (Or.inl rfl)) (fun σ' h => (m_125 p0 (by omega) σ' h.1.1 ).le (Nat.le_of_ble_eq_true rfl) (fun v σ2 ⟨y, h1, h2, h3, h4⟩ => ⟨y, h1, h2, h.1.tr h3 MN_sub, trivial⟩)) (pc' := 4) rfl (fun y1 => ?_)
  refine G_ex (fun hy1 => ?_)
  refine T_if_eq zk_140_4 (by omega) (pc' := 7) rfl (fun h2 => ?_) (fun h3 => ?_)
  ·
    refine T_ld zk_140_20 rfl rfl rfl (pc' := 21) rfl ?_
    refine T_op zk_140_21 rfl X_ic (pc' := 22) rfl ?_
    refine T_calli (K := fun y4 σ' => (y4 = (-1)) ∧ (fun σ' => IF MB σ σ' ∧ True) σ') (r := []) zk_140_22 rfl rfl rfl rfl rfl rfl (Or.inr ⟨_, _, _, _, rfl, vd_35, rfl⟩) (fun σ' h => (m_123 ((-1)) (by omega) σ' h.1.1 ).le (Nat.le_of_ble_eq_true rfl) (fun v σ2 ⟨y, h1, h2, h3, h4⟩ => ⟨y, h1, h2, h.1.tr h3 (fun t i k j h => by unfold MT at h; unfold MB; omega), trivial⟩)) (pc' := 25) rfl (fun y4 => ?_)
    refine G_ex (fun hy4 => ?_)
    obtain rfl : y4 = (-1) := by omega
    exact T_iret zk_140_25 rfl (fun σ' h => ⟨_, rfl, (by omega), h.1, trivial⟩)
  ·
    refine T_ld zk_140_7 rfl rfl rfl (pc' := 8) rfl ?_
    refine T_op zk_140_8 rfl X_ic (pc' := 9) rfl ?_
    refine T_icmp_eq zk_140_9 (by omega) (by omega) (pc' := 12) rfl (fun h5 => ?_) (fun h6 => ?_)
    ·
      refine T_ld zk_140_26 rfl rfl rfl (pc' := 27) rfl ?_
      refine T_getR (t' := 37) (i' := 0) (k' := 0) zk_140_27 rfl rfl rfl vd_35 (pc' := 30) rfl ?_
      refine T_ld zk_140_30 rfl rfl rfl (pc' := 31) rfl ?_
      refine T_ld zk_140_31 rfl rfl rfl (pc' := 32) rfl ?_
      refine T_op zk_140_32 rfl X_ic (pc' := 33) rfl ?_
      refine T_icmp_ne zk_140_33 (by omega) (by omega) (pc' := 36) rfl (fun h7 => ?_) (fun h8 => ?_)
      · exfalso; omega
      ·
        refine T_op zk_140_36 rfl X_ic (pc' := 37) rfl ?_
        refine T_goto zk_140_37 ?_
        refine G_iast (J' := (fun σ' => IF MB σ σ' ∧ True)) (ln := 8) zk_140_41 rfl rfl vd_37 (by omega) (by omega) (by omega) (fun σ' h => ⟨h.1.up (by simp only [rgP] <;> omega) (by unfold MB; omega), trivial⟩) (pc' := 42) rfl ?_
        refine T_ld zk_140_42 rfl rfl rfl (pc' := 43) rfl ?_
        refine T_getR (t' := 40) (i' := 0) (k' := 0) zk_140_43 rfl rfl rfl vd_35 (pc' := 46) rfl ?_
        refine T_ld zk_140_46 rfl rfl rfl (pc' := 47) rfl ?_
        refine T_ld zk_140_47 rfl rfl rfl (pc' := 48) rfl ?_
        refine G_iast (J' := (fun σ' => IF MB σ σ' ∧ True)) (ln := 8) zk_140_48 rfl rfl vd_40 (by omega) (by omega) (by omega) (fun σ' h => ⟨h.1.up (by simp only [rgP] <;> omega) (by unfold MB; omega), trivial⟩) (pc' := 49) rfl ?_
        refine T_ld zk_140_49 rfl rfl rfl (pc' := 50) rfl ?_
        refine T_op zk_140_50 rfl X_ic (pc' := 51) rfl ?_
        refine T_icmp_ne zk_140_51 (by omega) (by omega) (pc' := 54) rfl (fun h9 => ?_) (fun h10 => ?_)
        · exfalso; omega
        ·
          refine T_op zk_140_54 rfl X_ic (pc' := 55) rfl ?_
          refine T_goto zk_140_55 ?_
          exact T_iret zk_140_59 rfl (fun σ' h => ⟨_, rfl, (by omega), h.1, trivial⟩)
    ·
      refine T_ld zk_140_12 rfl rfl rfl (pc' := 13) rfl ?_
      refine T_ld zk_140_13 rfl rfl rfl (pc' := 14) rfl ?_
      refine T_calli (K := fun y11 σ' => (y11 = 0) ∧ (fun σ' => IF MB σ σ' ∧ True) σ') (r := []) zk_140_14 rfl rfl rfl rfl rfl rfl (Or.inr ⟨_, _, _, _, rfl, vd_35, rfl⟩) (fun σ' h => (m_139e p1 (by omega) σ' h.1.1 ((h.1.2 _ _ _ _ (by unfold MB; omega)).trans ((hm _ _ _ _ (by decide)).trans (s0_z (by omega))))).le (Nat.le_of_ble_eq_true rfl) (fun v σ2 ⟨y, h1, h2, h3, h4⟩ => ⟨y, h1, h2, h.1.tr h3 MN_sub, trivial⟩)) (pc' := 17) rfl (fun y11 => ?_)
      refine G_ex (fun hy11 => ?_)
      obtain rfl : y11 = 0 := by omega
      refine T_if_ne zk_140_17 (by omega) (pc' := 20) rfl (fun h12 => ?_) (fun h13 => ?_)
      · exfalso; omega
      ·
        refine T_ld zk_140_20 rfl rfl rfl (pc' := 21) rfl ?_
        refine T_op zk_140_21 rfl X_ic (pc' := 22) rfl ?_
        refine T_calli (K := fun y14 σ' => (y14 = (-1)) ∧ (fun σ' => IF MB σ σ' ∧ True) σ') (r := []) zk_140_22 rfl rfl rfl rfl rfl rfl (Or.inr ⟨_, _, _, _, rfl, vd_35, rfl⟩) (fun σ' h => (m_123 ((-1)) (by omega) σ' h.1.1 ).le (Nat.le_of_ble_eq_true rfl) (fun v σ2 ⟨y, h1, h2, h3, h4⟩ => ⟨y, h1, h2, h.1.tr h3 (fun t i k j h => by unfold MT at h; unfold MB; omega), trivial⟩)) (pc' := 25) rfl (fun y14 => ?_)
        refine G_ex (fun hy14 => ?_)
        obtain rfl : y14 = (-1) := by omega
        exact T_iret zk_140_25 rfl (fun σ' h => ⟨_, rfl, (by omega), h.1, trivial⟩)
/-- WModel.holds -/
theorem m_holds {xs : Nat × (Nat → Int32)} (p0 : Int) (h0 : -2147483648 ≤ p0 ∧ p0 ≤ 2147483647) (σ : ZS) (hI : Inv σ) (hm : ∀ t i k j, 35 ≤ t → σ t i k j = σ0 t i k j)  : CT xs 2 141 [av 35 0 0, iv p0] σ (fun v σ' => ∃ y, v = some (iv y) ∧ (y = -1) ∧ IF MN σ σ' ∧ (True)) := by
  refine G_ct (J := (fun σ' => IF MN σ σ' ∧ True)) (L := [(0, av 35 0 0), (1, iv p0)]) (nL := 2) rfl rfl rfl ⟨IF.rf hI, trivial⟩ ?_
  refine T_ld zk_141_0 rfl rfl rfl (pc' := 1) rfl ?_
  refine T_calli (K := fun y1 σ' => ((y1 = 0 ∧ (p0 < 0 ∨ 7 < p0)) ∨ (y1 = 1 ∧ 0 ≤ p0 ∧ p0 ≤ 7)) ∧ (fun σ' => IF MN σ σ' ∧ True) σ') (r := []) zk_141_1 rfl rfl rfl rfl rfl rfl (Or.inl (Or.inl rfl)) (fun σ' h => (m_125 p0 (by omega) σ' h.1.1 ).le (Nat.le_of_ble_eq_true rfl) (fun v σ2 ⟨y, h1, h2, h3, h4⟩ => ⟨y, h1, h2, h.1.tr h3 MN_sub, trivial⟩)) (pc' := 4) rfl (fun y1 => ?_)
  refine G_ex (fun hy1 => ?_)
  refine T_if_eq zk_141_4 (by omega) (pc' := 7) rfl (fun h2 => ?_) (fun h3 => ?_)
  ·
    refine T_op zk_141_16 rfl X_ic (pc' := 17) rfl ?_
    exact T_iret zk_141_17 rfl (fun σ' h => ⟨_, rfl, (by omega), h.1, trivial⟩)
  ·
    refine T_ld zk_141_7 rfl rfl rfl (pc' := 8) rfl ?_
    refine T_getR (t' := 37) (i' := 0) (k' := 0) zk_141_8 rfl rfl rfl vd_35 (pc' := 11) rfl ?_
    refine T_ld zk_141_11 rfl rfl rfl (pc' := 12) rfl ?_
    refine G_ialdX (w := 0) (ln := 8) zk_141_12 rfl rfl vd_37 (by omega) (by omega) (by omega) (fun σ' h => (h.1.2 _ _ _ _ (fun q => q)).trans (hm _ _ _ _ (by decide))) (pc' := 13) rfl ?_
    refine T_if_ne zk_141_13 (by omega) (pc' := 16) rfl (fun h4 => ?_) (fun h5 => ?_)
    · exfalso; omega
    ·
      refine T_op zk_141_16 rfl X_ic (pc' := 17) rfl ?_
      exact T_iret zk_141_17 rfl (fun σ' h => ⟨_, rfl, (by omega), h.1, trivial⟩)
