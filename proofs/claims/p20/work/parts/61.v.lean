theorem zk_127_0 : zc 127 0 = some (.iload_n 1, 0, 0, 0, 0) := rfl
theorem zk_127_1 : zc 127 1 = some (.invokestatic 99, 124, 1, 1, 128) := rfl
theorem zk_127_4 : zc 127 4 = some (.ifCond .ne 9, 13, 0, 0, 0) := rfl
theorem zk_127_7 : zc 127 7 = some (.aload_n 0, 0, 0, 0, 0) := rfl
theorem zk_127_8 : zc 127 8 = some (.iconst (-1), 0, 0, 0, 0) := rfl
theorem zk_127_9 : zc 127 9 = some (.invokevirtual 103, 123, 0, 2, 129) := rfl
theorem zk_127_12 : zc 127 12 = some (.ireturn, 0, 0, 0, 0) := rfl
theorem zk_127_13 : zc 127 13 = some (.iload_n 2, 0, 0, 0, 0) := rfl
theorem zk_127_14 : zc 127 14 = some (.ifCond .lt 9, 23, 0, 0, 0) := rfl
theorem zk_127_17 : zc 127 17 = some (.iload_n 2, 0, 0, 0, 0) := rfl
theorem zk_127_18 : zc 127 18 = some (.bipush 60, 0, 0, 0, 0) := rfl
theorem zk_127_20 : zc 127 20 = some (.if_icmp .le 10, 30, 0, 0, 0) := rfl
theorem zk_127_23 : zc 127 23 = some (.aload_n 0, 0, 0, 0, 0) := rfl
theorem zk_127_24 : zc 127 24 = some (.bipush (-6), 0, 0, 0, 0) := rfl
theorem zk_127_26 : zc 127 26 = some (.invokevirtual 103, 123, 0, 2, 129) := rfl
theorem zk_127_29 : zc 127 29 = some (.ireturn, 0, 0, 0, 0) := rfl
theorem zk_127_30 : zc 127 30 = some (.aload_n 0, 0, 0, 0, 0) := rfl
theorem zk_127_31 : zc 127 31 = some (.getfield 7, 11, 0, 0, 139) := rfl
theorem zk_127_34 : zc 127 34 = some (.iconst 0, 0, 0, 0, 0) := rfl
theorem zk_127_35 : zc 127 35 = some (.iload_n 1, 0, 0, 0, 0) := rfl
theorem zk_127_36 : zc 127 36 = some (.iadd, 0, 0, 0, 0) := rfl
theorem zk_127_37 : zc 127 37 = some (.iaload, 0, 0, 0, 0) := rfl
theorem zk_127_38 : zc 127 38 = some (.istore_n 3, 0, 0, 0, 0) := rfl
theorem zk_127_39 : zc 127 39 = some (.aload_n 0, 0, 0, 0, 0) := rfl
theorem zk_127_40 : zc 127 40 = some (.getfield 7, 11, 0, 0, 139) := rfl
theorem zk_127_43 : zc 127 43 = some (.iconst 0, 0, 0, 0, 0) := rfl
theorem zk_127_44 : zc 127 44 = some (.iload_n 1, 0, 0, 0, 0) := rfl
theorem zk_127_45 : zc 127 45 = some (.iadd, 0, 0, 0, 0) := rfl
theorem zk_127_46 : zc 127 46 = some (.iload_n 2, 0, 0, 0, 0) := rfl
theorem zk_127_47 : zc 127 47 = some (.iastore, 0, 0, 0, 0) := rfl
theorem zk_127_48 : zc 127 48 = some (.iload_n 3, 0, 0, 0, 0) := rfl
theorem zk_127_49 : zc 127 49 = some (.ireturn, 0, 0, 0, 0) := rfl
theorem zk_128_0 : zc 128 0 = some (.iload_n 1, 0, 0, 0, 0) := rfl
theorem zk_128_1 : zc 128 1 = some (.invokestatic 99, 124, 1, 1, 128) := rfl
theorem zk_128_4 : zc 128 4 = some (.ifCond .ne 9, 13, 0, 0, 0) := rfl
theorem zk_128_7 : zc 128 7 = some (.aload_n 0, 0, 0, 0, 0) := rfl
theorem zk_128_8 : zc 128 8 = some (.iconst (-1), 0, 0, 0, 0) := rfl
theorem zk_128_9 : zc 128 9 = some (.invokevirtual 103, 123, 0, 2, 129) := rfl
theorem zk_128_12 : zc 128 12 = some (.ireturn, 0, 0, 0, 0) := rfl
theorem zk_128_13 : zc 128 13 = some (.iload_n 2, 0, 0, 0, 0) := rfl
theorem zk_128_14 : zc 128 14 = some (.sipush (-300), 0, 0, 0, 0) := rfl
theorem zk_128_17 : zc 128 17 = some (.if_icmp .lt 10, 27, 0, 0, 0) := rfl
theorem zk_128_20 : zc 128 20 = some (.iload_n 2, 0, 0, 0, 0) := rfl
theorem zk_128_21 : zc 128 21 = some (.sipush 300, 0, 0, 0, 0) := rfl
theorem zk_128_24 : zc 128 24 = some (.if_icmp .le 10, 34, 0, 0, 0) := rfl
theorem zk_128_27 : zc 128 27 = some (.aload_n 0, 0, 0, 0, 0) := rfl
theorem zk_128_28 : zc 128 28 = some (.bipush (-6), 0, 0, 0, 0) := rfl
theorem zk_128_30 : zc 128 30 = some (.invokevirtual 103, 123, 0, 2, 129) := rfl
theorem zk_128_33 : zc 128 33 = some (.ireturn, 0, 0, 0, 0) := rfl
theorem zk_128_34 : zc 128 34 = some (.aload_n 0, 0, 0, 0, 0) := rfl
theorem zk_128_35 : zc 128 35 = some (.getfield 7, 11, 0, 0, 139) := rfl
theorem zk_128_38 : zc 128 38 = some (.bipush 25, 0, 0, 0, 0) := rfl
theorem zk_128_40 : zc 128 40 = some (.iload_n 1, 0, 0, 0, 0) := rfl
theorem zk_128_41 : zc 128 41 = some (.iadd, 0, 0, 0, 0) := rfl
theorem zk_128_42 : zc 128 42 = some (.iaload, 0, 0, 0, 0) := rfl
theorem zk_128_43 : zc 128 43 = some (.istore_n 3, 0, 0, 0, 0) := rfl
theorem zk_128_44 : zc 128 44 = some (.aload_n 0, 0, 0, 0, 0) := rfl
theorem zk_128_45 : zc 128 45 = some (.getfield 7, 11, 0, 0, 139) := rfl
theorem zk_128_48 : zc 128 48 = some (.bipush 25, 0, 0, 0, 0) := rfl
theorem zk_128_50 : zc 128 50 = some (.iload_n 1, 0, 0, 0, 0) := rfl
theorem zk_128_51 : zc 128 51 = some (.iadd, 0, 0, 0, 0) := rfl
theorem zk_128_52 : zc 128 52 = some (.iload_n 2, 0, 0, 0, 0) := rfl
theorem zk_128_53 : zc 128 53 = some (.iastore, 0, 0, 0, 0) := rfl
theorem zk_128_54 : zc 128 54 = some (.aload_n 0, 0, 0, 0, 0) := rfl
theorem zk_128_55 : zc 128 55 = some (.getfield 7, 11, 0, 0, 139) := rfl
theorem zk_128_58 : zc 128 58 = some (.sipush 645, 0, 0, 0, 0) := rfl
theorem zk_128_61 : zc 128 61 = some (.dup2, 0, 0, 0, 0) := rfl
theorem zk_128_62 : zc 128 62 = some (.iaload, 0, 0, 0, 0) := rfl
theorem zk_128_63 : zc 128 63 = some (.iload_n 2, 0, 0, 0, 0) := rfl
theorem zk_128_64 : zc 128 64 = some (.iload_n 3, 0, 0, 0, 0) := rfl
theorem zk_128_65 : zc 128 65 = some (.isub, 0, 0, 0, 0) := rfl
theorem zk_128_66 : zc 128 66 = some (.iadd, 0, 0, 0, 0) := rfl
theorem zk_128_67 : zc 128 67 = some (.iastore, 0, 0, 0, 0) := rfl
theorem zk_128_68 : zc 128 68 = some (.iload_n 3, 0, 0, 0, 0) := rfl
theorem zk_128_69 : zc 128 69 = some (.ireturn, 0, 0, 0, 0) := rfl
theorem zk_130_0 : zc 130 0 = some (.iload_n 1, 0, 0, 0, 0) := rfl
theorem zk_130_1 : zc 130 1 = some (.iload_n 2, 0, 0, 0, 0) := rfl
theorem zk_130_2 : zc 130 2 = some (.invokestatic 107, 126, 1, 2, 130) := rfl
theorem zk_130_5 : zc 130 5 = some (.istore 4, 0, 0, 0, 0) := rfl
theorem zk_130_7 : zc 130 7 = some (.iload 4, 0, 0, 0, 0) := rfl
theorem zk_130_9 : zc 130 9 = some (.iconst (-1), 0, 0, 0, 0) := rfl
theorem zk_130_10 : zc 130 10 = some (.if_icmp .ne 11, 21, 0, 0, 0) := rfl
theorem zk_130_13 : zc 130 13 = some (.aload_n 0, 0, 0, 0, 0) := rfl
theorem zk_130_14 : zc 130 14 = some (.iconst (-1), 0, 0, 0, 0) := rfl
theorem zk_130_15 : zc 130 15 = some (.invokevirtual 103, 123, 0, 2, 129) := rfl
theorem zk_130_18 : zc 130 18 = some (.goto 13, 31, 0, 0, 0) := rfl
theorem zk_130_21 : zc 130 21 = some (.aload_n 0, 0, 0, 0, 0) := rfl
theorem zk_130_22 : zc 130 22 = some (.bipush 100, 0, 0, 0, 0) := rfl
theorem zk_130_24 : zc 130 24 = some (.iload 4, 0, 0, 0, 0) := rfl
theorem zk_130_26 : zc 130 26 = some (.iadd, 0, 0, 0, 0) := rfl
theorem zk_130_27 : zc 130 27 = some (.iload_n 3, 0, 0, 0, 0) := rfl
theorem zk_130_28 : zc 130 28 = some (.invokevirtual 111, 129, 0, 3, 131) := rfl
theorem zk_130_31 : zc 130 31 = some (.ireturn, 0, 0, 0, 0) := rfl
theorem zk_131_0 : zc 131 0 = some (.iload_n 1, 0, 0, 0, 0) := rfl
theorem zk_131_1 : zc 131 1 = some (.iload_n 2, 0, 0, 0, 0) := rfl
theorem zk_131_2 : zc 131 2 = some (.invokestatic 107, 126, 1, 2, 130) := rfl
theorem zk_131_5 : zc 131 5 = some (.istore 4, 0, 0, 0, 0) := rfl
theorem zk_131_7 : zc 131 7 = some (.iload 4, 0, 0, 0, 0) := rfl
theorem zk_131_9 : zc 131 9 = some (.iconst (-1), 0, 0, 0, 0) := rfl
theorem zk_131_10 : zc 131 10 = some (.if_icmp .ne 11, 21, 0, 0, 0) := rfl
theorem zk_131_13 : zc 131 13 = some (.aload_n 0, 0, 0, 0, 0) := rfl
theorem zk_131_14 : zc 131 14 = some (.iconst (-1), 0, 0, 0, 0) := rfl
theorem zk_131_15 : zc 131 15 = some (.invokevirtual 103, 123, 0, 2, 129) := rfl
theorem zk_131_18 : zc 131 18 = some (.goto 14, 32, 0, 0, 0) := rfl
theorem zk_131_21 : zc 131 21 = some (.aload_n 0, 0, 0, 0, 0) := rfl
theorem zk_131_22 : zc 131 22 = some (.sipush 150, 0, 0, 0, 0) := rfl
theorem zk_131_25 : zc 131 25 = some (.iload 4, 0, 0, 0, 0) := rfl
theorem zk_131_27 : zc 131 27 = some (.iadd, 0, 0, 0, 0) := rfl
theorem zk_131_28 : zc 131 28 = some (.iload_n 3, 0, 0, 0, 0) := rfl
theorem zk_131_29 : zc 131 29 = some (.invokevirtual 111, 129, 0, 3, 131) := rfl
theorem zk_131_32 : zc 131 32 = some (.ireturn, 0, 0, 0, 0) := rfl
theorem zk_132_0 : zc 132 0 = some (.iload_n 1, 0, 0, 0, 0) := rfl
theorem zk_132_1 : zc 132 1 = some (.iload_n 2, 0, 0, 0, 0) := rfl
theorem zk_132_2 : zc 132 2 = some (.invokestatic 107, 126, 1, 2, 130) := rfl
theorem zk_132_5 : zc 132 5 = some (.istore 4, 0, 0, 0, 0) := rfl
theorem zk_132_7 : zc 132 7 = some (.iload 4, 0, 0, 0, 0) := rfl
theorem zk_132_9 : zc 132 9 = some (.iconst (-1), 0, 0, 0, 0) := rfl
theorem zk_132_10 : zc 132 10 = some (.if_icmp .ne 9, 19, 0, 0, 0) := rfl
theorem zk_132_13 : zc 132 13 = some (.aload_n 0, 0, 0, 0, 0) := rfl
theorem zk_132_14 : zc 132 14 = some (.iconst (-1), 0, 0, 0, 0) := rfl
theorem zk_132_15 : zc 132 15 = some (.invokevirtual 103, 123, 0, 2, 129) := rfl
theorem zk_132_18 : zc 132 18 = some (.ireturn, 0, 0, 0, 0) := rfl
theorem zk_132_19 : zc 132 19 = some (.iload_n 3, 0, 0, 0, 0) := rfl
theorem zk_132_20 : zc 132 20 = some (.iconst (-1), 0, 0, 0, 0) := rfl
theorem zk_132_21 : zc 132 21 = some (.if_icmp .lt 9, 30, 0, 0, 0) := rfl
theorem zk_132_24 : zc 132 24 = some (.iload_n 3, 0, 0, 0, 0) := rfl
theorem zk_132_25 : zc 132 25 = some (.bipush 99, 0, 0, 0, 0) := rfl
theorem zk_132_27 : zc 132 27 = some (.if_icmp .le 10, 37, 0, 0, 0) := rfl
theorem zk_132_30 : zc 132 30 = some (.aload_n 0, 0, 0, 0, 0) := rfl
theorem zk_132_31 : zc 132 31 = some (.bipush (-6), 0, 0, 0, 0) := rfl
theorem zk_132_33 : zc 132 33 = some (.invokevirtual 103, 123, 0, 2, 129) := rfl
theorem zk_132_36 : zc 132 36 = some (.ireturn, 0, 0, 0, 0) := rfl
theorem zk_132_37 : zc 132 37 = some (.aload_n 0, 0, 0, 0, 0) := rfl
theorem zk_132_38 : zc 132 38 = some (.getfield 7, 11, 0, 0, 139) := rfl
theorem zk_132_41 : zc 132 41 = some (.sipush 200, 0, 0, 0, 0) := rfl
theorem zk_132_44 : zc 132 44 = some (.iload 4, 0, 0, 0, 0) := rfl
theorem zk_132_46 : zc 132 46 = some (.iadd, 0, 0, 0, 0) := rfl
theorem zk_132_47 : zc 132 47 = some (.iaload, 0, 0, 0, 0) := rfl
theorem zk_132_48 : zc 132 48 = some (.istore 5, 0, 0, 0, 0) := rfl
theorem zk_132_50 : zc 132 50 = some (.aload_n 0, 0, 0, 0, 0) := rfl
theorem zk_132_51 : zc 132 51 = some (.getfield 7, 11, 0, 0, 139) := rfl
theorem zk_132_54 : zc 132 54 = some (.sipush 200, 0, 0, 0, 0) := rfl
theorem zk_132_57 : zc 132 57 = some (.iload 4, 0, 0, 0, 0) := rfl
theorem zk_132_59 : zc 132 59 = some (.iadd, 0, 0, 0, 0) := rfl
theorem zk_132_60 : zc 132 60 = some (.iload_n 3, 0, 0, 0, 0) := rfl
theorem zk_132_61 : zc 132 61 = some (.iastore, 0, 0, 0, 0) := rfl
theorem zk_132_62 : zc 132 62 = some (.iload 5, 0, 0, 0, 0) := rfl
theorem zk_132_64 : zc 132 64 = some (.ireturn, 0, 0, 0, 0) := rfl
theorem zk_133_0 : zc 133 0 = some (.iload_n 1, 0, 0, 0, 0) := rfl
theorem zk_133_1 : zc 133 1 = some (.invokestatic 99, 124, 1, 1, 128) := rfl
theorem zk_133_4 : zc 133 4 = some (.ifCond .ne 9, 13, 0, 0, 0) := rfl
theorem zk_133_7 : zc 133 7 = some (.aload_n 0, 0, 0, 0, 0) := rfl
theorem zk_133_8 : zc 133 8 = some (.iconst (-1), 0, 0, 0, 0) := rfl
theorem zk_133_9 : zc 133 9 = some (.invokevirtual 103, 123, 0, 2, 129) := rfl
theorem zk_133_12 : zc 133 12 = some (.ireturn, 0, 0, 0, 0) := rfl
theorem zk_133_13 : zc 133 13 = some (.iconst 0, 0, 0, 0, 0) := rfl
theorem zk_133_14 : zc 133 14 = some (.istore_n 2, 0, 0, 0, 0) := rfl
theorem zk_133_15 : zc 133 15 = some (.iload_n 2, 0, 0, 0, 0) := rfl
theorem zk_133_16 : zc 133 16 = some (.aload_n 0, 0, 0, 0, 0) := rfl
theorem zk_133_17 : zc 133 17 = some (.getfield 7, 11, 0, 0, 139) := rfl
theorem zk_133_20 : zc 133 20 = some (.sipush 633, 0, 0, 0, 0) := rfl
theorem zk_133_23 : zc 133 23 = some (.iaload, 0, 0, 0, 0) := rfl
theorem zk_133_24 : zc 133 24 = some (.if_icmp .ge 30, 54, 0, 0, 0) := rfl
theorem zk_133_27 : zc 133 27 = some (.aload_n 0, 0, 0, 0, 0) := rfl
theorem zk_133_28 : zc 133 28 = some (.getfield 7, 11, 0, 0, 139) := rfl
theorem zk_133_31 : zc 133 31 = some (.sipush 250, 0, 0, 0, 0) := rfl
theorem zk_133_34 : zc 133 34 = some (.iload_n 2, 0, 0, 0, 0) := rfl
theorem zk_133_35 : zc 133 35 = some (.iadd, 0, 0, 0, 0) := rfl
theorem zk_133_36 : zc 133 36 = some (.iaload, 0, 0, 0, 0) := rfl
theorem zk_133_37 : zc 133 37 = some (.iload_n 1, 0, 0, 0, 0) := rfl
theorem zk_133_38 : zc 133 38 = some (.if_icmp .ne 10, 48, 0, 0, 0) := rfl
theorem zk_133_41 : zc 133 41 = some (.aload_n 0, 0, 0, 0, 0) := rfl
theorem zk_133_42 : zc 133 42 = some (.bipush (-6), 0, 0, 0, 0) := rfl
theorem zk_133_44 : zc 133 44 = some (.invokevirtual 103, 123, 0, 2, 129) := rfl
theorem zk_133_47 : zc 133 47 = some (.ireturn, 0, 0, 0, 0) := rfl
theorem zk_133_48 : zc 133 48 = some (.iinc 2 1, 0, 0, 0, 0) := rfl
theorem zk_133_51 : zc 133 51 = some (.goto (-36), 15, 0, 0, 0) := rfl
theorem zk_133_54 : zc 133 54 = some (.aload_n 0, 0, 0, 0, 0) := rfl
theorem zk_133_55 : zc 133 55 = some (.getfield 7, 11, 0, 0, 139) := rfl
theorem zk_133_58 : zc 133 58 = some (.sipush 633, 0, 0, 0, 0) := rfl
theorem zk_133_61 : zc 133 61 = some (.iaload, 0, 0, 0, 0) := rfl
theorem zk_133_62 : zc 133 62 = some (.iconst 3, 0, 0, 0, 0) := rfl
theorem zk_133_63 : zc 133 63 = some (.if_icmp .ne 10, 73, 0, 0, 0) := rfl
theorem zk_133_66 : zc 133 66 = some (.aload_n 0, 0, 0, 0, 0) := rfl
theorem zk_133_67 : zc 133 67 = some (.bipush (-7), 0, 0, 0, 0) := rfl
theorem zk_133_69 : zc 133 69 = some (.invokevirtual 103, 123, 0, 2, 129) := rfl
theorem zk_133_72 : zc 133 72 = some (.ireturn, 0, 0, 0, 0) := rfl
theorem zk_133_73 : zc 133 73 = some (.aload_n 0, 0, 0, 0, 0) := rfl
theorem zk_133_74 : zc 133 74 = some (.getfield 7, 11, 0, 0, 139) := rfl
theorem zk_133_77 : zc 133 77 = some (.sipush 250, 0, 0, 0, 0) := rfl
theorem zk_133_80 : zc 133 80 = some (.aload_n 0, 0, 0, 0, 0) := rfl
theorem zk_133_81 : zc 133 81 = some (.getfield 7, 11, 0, 0, 139) := rfl
theorem zk_133_84 : zc 133 84 = some (.sipush 633, 0, 0, 0, 0) := rfl
theorem zk_133_87 : zc 133 87 = some (.iaload, 0, 0, 0, 0) := rfl
theorem zk_133_88 : zc 133 88 = some (.iadd, 0, 0, 0, 0) := rfl
theorem zk_133_89 : zc 133 89 = some (.iload_n 1, 0, 0, 0, 0) := rfl
theorem zk_133_90 : zc 133 90 = some (.iastore, 0, 0, 0, 0) := rfl
theorem zk_133_91 : zc 133 91 = some (.aload_n 0, 0, 0, 0, 0) := rfl
theorem zk_133_92 : zc 133 92 = some (.getfield 7, 11, 0, 0, 139) := rfl
theorem zk_133_95 : zc 133 95 = some (.sipush 253, 0, 0, 0, 0) := rfl
theorem zk_133_98 : zc 133 98 = some (.aload_n 0, 0, 0, 0, 0) := rfl
theorem zk_133_99 : zc 133 99 = some (.getfield 7, 11, 0, 0, 139) := rfl
theorem zk_133_102 : zc 133 102 = some (.sipush 633, 0, 0, 0, 0) := rfl
theorem zk_133_105 : zc 133 105 = some (.iaload, 0, 0, 0, 0) := rfl
theorem zk_133_106 : zc 133 106 = some (.iadd, 0, 0, 0, 0) := rfl
theorem zk_133_107 : zc 133 107 = some (.iconst 0, 0, 0, 0, 0) := rfl
theorem zk_133_108 : zc 133 108 = some (.iastore, 0, 0, 0, 0) := rfl
theorem zk_133_109 : zc 133 109 = some (.aload_n 0, 0, 0, 0, 0) := rfl
theorem zk_133_110 : zc 133 110 = some (.getfield 7, 11, 0, 0, 139) := rfl
theorem zk_133_113 : zc 133 113 = some (.sipush 633, 0, 0, 0, 0) := rfl
theorem zk_133_116 : zc 133 116 = some (.dup2, 0, 0, 0, 0) := rfl
theorem zk_133_117 : zc 133 117 = some (.iaload, 0, 0, 0, 0) := rfl
theorem zk_133_118 : zc 133 118 = some (.dup_x2, 0, 0, 0, 0) := rfl
theorem zk_133_119 : zc 133 119 = some (.iconst 1, 0, 0, 0, 0) := rfl
theorem zk_133_120 : zc 133 120 = some (.iadd, 0, 0, 0, 0) := rfl
theorem zk_133_121 : zc 133 121 = some (.iastore, 0, 0, 0, 0) := rfl
theorem zk_133_122 : zc 133 122 = some (.ireturn, 0, 0, 0, 0) := rfl
theorem zk_134_0 : zc 134 0 = some (.iload_n 1, 0, 0, 0, 0) := rfl
theorem zk_134_1 : zc 134 1 = some (.ifCond .lt 15, 16, 0, 0, 0) := rfl
theorem zk_134_4 : zc 134 4 = some (.iload_n 1, 0, 0, 0, 0) := rfl
theorem zk_134_5 : zc 134 5 = some (.aload_n 0, 0, 0, 0, 0) := rfl
theorem zk_134_6 : zc 134 6 = some (.getfield 7, 11, 0, 0, 139) := rfl
theorem zk_134_9 : zc 134 9 = some (.sipush 633, 0, 0, 0, 0) := rfl
theorem zk_134_12 : zc 134 12 = some (.iaload, 0, 0, 0, 0) := rfl
theorem zk_134_13 : zc 134 13 = some (.if_icmp .lt 11, 24, 0, 0, 0) := rfl
theorem zk_134_16 : zc 134 16 = some (.aload_n 0, 0, 0, 0, 0) := rfl
theorem zk_134_17 : zc 134 17 = some (.iconst (-1), 0, 0, 0, 0) := rfl
theorem zk_134_18 : zc 134 18 = some (.invokevirtual 103, 123, 0, 2, 129) := rfl
theorem zk_134_21 : zc 134 21 = some (.goto 13, 34, 0, 0, 0) := rfl
theorem zk_134_24 : zc 134 24 = some (.aload_n 0, 0, 0, 0, 0) := rfl
theorem zk_134_25 : zc 134 25 = some (.sipush 253, 0, 0, 0, 0) := rfl
theorem zk_134_28 : zc 134 28 = some (.iload_n 1, 0, 0, 0, 0) := rfl
theorem zk_134_29 : zc 134 29 = some (.iadd, 0, 0, 0, 0) := rfl
theorem zk_134_30 : zc 134 30 = some (.iload_n 2, 0, 0, 0, 0) := rfl
theorem zk_134_31 : zc 134 31 = some (.invokevirtual 111, 129, 0, 3, 131) := rfl
theorem zk_134_34 : zc 134 34 = some (.ireturn, 0, 0, 0, 0) := rfl
theorem zk_135_0 : zc 135 0 = some (.iload_n 1, 0, 0, 0, 0) := rfl
theorem zk_135_1 : zc 135 1 = some (.invokestatic 115, 125, 1, 1, 132) := rfl
theorem zk_135_4 : zc 135 4 = some (.ifCond .ne 9, 13, 0, 0, 0) := rfl
theorem zk_135_7 : zc 135 7 = some (.aload_n 0, 0, 0, 0, 0) := rfl
theorem zk_135_8 : zc 135 8 = some (.iconst (-1), 0, 0, 0, 0) := rfl
theorem zk_135_9 : zc 135 9 = some (.invokevirtual 103, 123, 0, 2, 129) := rfl
theorem zk_135_12 : zc 135 12 = some (.ireturn, 0, 0, 0, 0) := rfl
theorem zk_135_13 : zc 135 13 = some (.iload_n 3, 0, 0, 0, 0) := rfl
theorem zk_135_14 : zc 135 14 = some (.ifCond .ge 10, 24, 0, 0, 0) := rfl
theorem zk_135_17 : zc 135 17 = some (.aload_n 0, 0, 0, 0, 0) := rfl
theorem zk_135_18 : zc 135 18 = some (.bipush (-4), 0, 0, 0, 0) := rfl
theorem zk_135_20 : zc 135 20 = some (.invokevirtual 103, 123, 0, 2, 129) := rfl
theorem zk_135_23 : zc 135 23 = some (.ireturn, 0, 0, 0, 0) := rfl
theorem zk_135_24 : zc 135 24 = some (.iload_n 2, 0, 0, 0, 0) := rfl
theorem zk_135_25 : zc 135 25 = some (.ifCond .lt 8, 33, 0, 0, 0) := rfl
theorem zk_135_28 : zc 135 28 = some (.iload_n 2, 0, 0, 0, 0) := rfl
theorem zk_135_29 : zc 135 29 = some (.iconst 3, 0, 0, 0, 0) := rfl
theorem zk_135_30 : zc 135 30 = some (.if_icmp .le 10, 40, 0, 0, 0) := rfl
theorem zk_135_33 : zc 135 33 = some (.aload_n 0, 0, 0, 0, 0) := rfl
theorem zk_135_34 : zc 135 34 = some (.bipush (-6), 0, 0, 0, 0) := rfl
theorem zk_135_36 : zc 135 36 = some (.invokevirtual 103, 123, 0, 2, 129) := rfl
theorem zk_135_39 : zc 135 39 = some (.ireturn, 0, 0, 0, 0) := rfl
theorem zk_135_40 : zc 135 40 = some (.iload_n 3, 0, 0, 0, 0) := rfl
theorem zk_135_41 : zc 135 41 = some (.bipush 96, 0, 0, 0, 0) := rfl
theorem zk_135_43 : zc 135 43 = some (.if_icmp .le 10, 53, 0, 0, 0) := rfl
theorem zk_135_46 : zc 135 46 = some (.aload_n 0, 0, 0, 0, 0) := rfl
theorem zk_135_47 : zc 135 47 = some (.bipush (-7), 0, 0, 0, 0) := rfl
theorem zk_135_49 : zc 135 49 = some (.invokevirtual 103, 123, 0, 2, 129) := rfl
theorem zk_135_52 : zc 135 52 = some (.ireturn, 0, 0, 0, 0) := rfl
theorem zk_135_53 : zc 135 53 = some (.aload_n 0, 0, 0, 0, 0) := rfl
theorem zk_135_54 : zc 135 54 = some (.getfield 19, 11, 4, 0, 142) := rfl
theorem zk_135_57 : zc 135 57 = some (.iload_n 1, 0, 0, 0, 0) := rfl
theorem zk_135_58 : zc 135 58 = some (.iconst 1, 0, 0, 0, 0) := rfl
theorem zk_135_59 : zc 135 59 = some (.iastore, 0, 0, 0, 0) := rfl
theorem zk_135_60 : zc 135 60 = some (.aload_n 0, 0, 0, 0, 0) := rfl
theorem zk_135_61 : zc 135 61 = some (.getfield 22, 11, 5, 0, 143) := rfl
theorem zk_135_64 : zc 135 64 = some (.iload_n 1, 0, 0, 0, 0) := rfl
theorem zk_135_65 : zc 135 65 = some (.iload_n 2, 0, 0, 0, 0) := rfl
theorem zk_135_66 : zc 135 66 = some (.iastore, 0, 0, 0, 0) := rfl
theorem zk_135_67 : zc 135 67 = some (.aload_n 0, 0, 0, 0, 0) := rfl
theorem zk_135_68 : zc 135 68 = some (.getfield 25, 11, 6, 0, 144) := rfl
theorem zk_135_71 : zc 135 71 = some (.iload_n 1, 0, 0, 0, 0) := rfl
theorem zk_135_72 : zc 135 72 = some (.iload_n 3, 0, 0, 0, 0) := rfl
theorem zk_135_73 : zc 135 73 = some (.iastore, 0, 0, 0, 0) := rfl
theorem zk_135_74 : zc 135 74 = some (.iconst 0, 0, 0, 0, 0) := rfl
theorem zk_135_75 : zc 135 75 = some (.istore 4, 0, 0, 0, 0) := rfl
theorem zk_135_77 : zc 135 77 = some (.iload 4, 0, 0, 0, 0) := rfl
theorem zk_135_79 : zc 135 79 = some (.bipush 96, 0, 0, 0, 0) := rfl
theorem zk_135_81 : zc 135 81 = some (.if_icmp .ge 22, 103, 0, 0, 0) := rfl
theorem zk_135_84 : zc 135 84 = some (.aload_n 0, 0, 0, 0, 0) := rfl
theorem zk_135_85 : zc 135 85 = some (.getfield 31, 11, 8, 0, 146) := rfl
theorem zk_135_88 : zc 135 88 = some (.bipush 96, 0, 0, 0, 0) := rfl
theorem zk_135_90 : zc 135 90 = some (.iload_n 1, 0, 0, 0, 0) := rfl
theorem zk_135_91 : zc 135 91 = some (.imul, 0, 0, 0, 0) := rfl
theorem zk_135_92 : zc 135 92 = some (.iload 4, 0, 0, 0, 0) := rfl
theorem zk_135_94 : zc 135 94 = some (.iadd, 0, 0, 0, 0) := rfl
theorem zk_135_95 : zc 135 95 = some (.lconst 0, 0, 0, 0, 0) := rfl
theorem zk_135_96 : zc 135 96 = some (.lastore, 0, 0, 0, 0) := rfl
theorem zk_135_97 : zc 135 97 = some (.iinc 4 1, 0, 0, 0, 0) := rfl
theorem zk_135_100 : zc 135 100 = some (.goto (-23), 77, 0, 0, 0) := rfl
theorem zk_135_103 : zc 135 103 = some (.iconst 1, 0, 0, 0, 0) := rfl
theorem zk_135_104 : zc 135 104 = some (.ireturn, 0, 0, 0, 0) := rfl
theorem zk_136_0 : zc 136 0 = some (.iload_n 1, 0, 0, 0, 0) := rfl
theorem zk_136_1 : zc 136 1 = some (.invokestatic 115, 125, 1, 1, 132) := rfl
theorem zk_136_4 : zc 136 4 = some (.ifCond .ne 9, 13, 0, 0, 0) := rfl
theorem zk_136_7 : zc 136 7 = some (.aload_n 0, 0, 0, 0, 0) := rfl
theorem zk_136_8 : zc 136 8 = some (.iconst (-1), 0, 0, 0, 0) := rfl
theorem zk_136_9 : zc 136 9 = some (.invokevirtual 103, 123, 0, 2, 129) := rfl
theorem zk_136_12 : zc 136 12 = some (.ireturn, 0, 0, 0, 0) := rfl
theorem zk_136_13 : zc 136 13 = some (.aload_n 0, 0, 0, 0, 0) := rfl
theorem zk_136_14 : zc 136 14 = some (.getfield 19, 11, 4, 0, 142) := rfl
theorem zk_136_17 : zc 136 17 = some (.iload_n 1, 0, 0, 0, 0) := rfl
theorem zk_136_18 : zc 136 18 = some (.iaload, 0, 0, 0, 0) := rfl
theorem zk_136_19 : zc 136 19 = some (.iconst 2, 0, 0, 0, 0) := rfl
theorem zk_136_20 : zc 136 20 = some (.if_icmp .ne 10, 30, 0, 0, 0) := rfl
theorem zk_136_23 : zc 136 23 = some (.aload_n 0, 0, 0, 0, 0) := rfl
theorem zk_136_24 : zc 136 24 = some (.bipush (-2), 0, 0, 0, 0) := rfl
theorem zk_136_26 : zc 136 26 = some (.invokevirtual 103, 123, 0, 2, 129) := rfl
theorem zk_136_29 : zc 136 29 = some (.ireturn, 0, 0, 0, 0) := rfl
theorem zk_136_30 : zc 136 30 = some (.aload_n 0, 0, 0, 0, 0) := rfl
theorem zk_136_31 : zc 136 31 = some (.getfield 19, 11, 4, 0, 142) := rfl
theorem zk_136_34 : zc 136 34 = some (.iload_n 1, 0, 0, 0, 0) := rfl
theorem zk_136_35 : zc 136 35 = some (.iaload, 0, 0, 0, 0) := rfl
theorem zk_136_36 : zc 136 36 = some (.ifCond .ne 10, 46, 0, 0, 0) := rfl
theorem zk_136_39 : zc 136 39 = some (.aload_n 0, 0, 0, 0, 0) := rfl
theorem zk_136_40 : zc 136 40 = some (.bipush (-3), 0, 0, 0, 0) := rfl
theorem zk_136_42 : zc 136 42 = some (.invokevirtual 103, 123, 0, 2, 129) := rfl
theorem zk_136_45 : zc 136 45 = some (.ireturn, 0, 0, 0, 0) := rfl
theorem zk_136_46 : zc 136 46 = some (.iload_n 2, 0, 0, 0, 0) := rfl
theorem zk_136_47 : zc 136 47 = some (.ifCond .lt 13, 60, 0, 0, 0) := rfl
theorem zk_136_50 : zc 136 50 = some (.iload_n 2, 0, 0, 0, 0) := rfl
theorem zk_136_51 : zc 136 51 = some (.aload_n 0, 0, 0, 0, 0) := rfl
theorem zk_136_52 : zc 136 52 = some (.getfield 25, 11, 6, 0, 144) := rfl
theorem zk_136_55 : zc 136 55 = some (.iload_n 1, 0, 0, 0, 0) := rfl
theorem zk_136_56 : zc 136 56 = some (.iaload, 0, 0, 0, 0) := rfl
theorem zk_136_57 : zc 136 57 = some (.if_icmp .lt 10, 67, 0, 0, 0) := rfl
theorem zk_136_60 : zc 136 60 = some (.aload_n 0, 0, 0, 0, 0) := rfl
theorem zk_136_61 : zc 136 61 = some (.bipush (-5), 0, 0, 0, 0) := rfl
theorem zk_136_63 : zc 136 63 = some (.invokevirtual 103, 123, 0, 2, 129) := rfl
theorem zk_136_66 : zc 136 66 = some (.ireturn, 0, 0, 0, 0) := rfl
theorem zk_136_67 : zc 136 67 = some (.aload_n 0, 0, 0, 0, 0) := rfl
theorem zk_136_68 : zc 136 68 = some (.getfield 31, 11, 8, 0, 146) := rfl
theorem zk_136_71 : zc 136 71 = some (.bipush 96, 0, 0, 0, 0) := rfl
theorem zk_136_73 : zc 136 73 = some (.iload_n 1, 0, 0, 0, 0) := rfl
theorem zk_136_74 : zc 136 74 = some (.imul, 0, 0, 0, 0) := rfl
theorem zk_136_75 : zc 136 75 = some (.iload_n 2, 0, 0, 0, 0) := rfl
theorem zk_136_76 : zc 136 76 = some (.iadd, 0, 0, 0, 0) := rfl
theorem zk_136_77 : zc 136 77 = some (.aload_n 0, 0, 0, 0, 0) := rfl
theorem zk_136_78 : zc 136 78 = some (.getfield 22, 11, 5, 0, 143) := rfl
theorem zk_136_81 : zc 136 81 = some (.iload_n 1, 0, 0, 0, 0) := rfl
theorem zk_136_82 : zc 136 82 = some (.iaload, 0, 0, 0, 0) := rfl
theorem zk_136_83 : zc 136 83 = some (.ifCond .ne 10, 93, 0, 0, 0) := rfl
theorem zk_136_86 : zc 136 86 = some (.lload_n 3, 0, 0, 0, 0) := rfl
theorem zk_136_87 : zc 136 87 = some (.l2i, 0, 0, 0, 0) := rfl
theorem zk_136_88 : zc 136 88 = some (.i2b, 0, 0, 0, 0) := rfl
theorem zk_136_89 : zc 136 89 = some (.i2l, 0, 0, 0, 0) := rfl
theorem zk_136_90 : zc 136 90 = some (.goto 37, 127, 0, 0, 0) := rfl
theorem zk_136_93 : zc 136 93 = some (.aload_n 0, 0, 0, 0, 0) := rfl
theorem zk_136_94 : zc 136 94 = some (.getfield 22, 11, 5, 0, 143) := rfl
theorem zk_136_97 : zc 136 97 = some (.iload_n 1, 0, 0, 0, 0) := rfl
theorem zk_136_98 : zc 136 98 = some (.iaload, 0, 0, 0, 0) := rfl
theorem zk_136_99 : zc 136 99 = some (.iconst 1, 0, 0, 0, 0) := rfl
theorem zk_136_100 : zc 136 100 = some (.if_icmp .ne 10, 110, 0, 0, 0) := rfl
theorem zk_136_103 : zc 136 103 = some (.lload_n 3, 0, 0, 0, 0) := rfl
theorem zk_136_104 : zc 136 104 = some (.l2i, 0, 0, 0, 0) := rfl
theorem zk_136_105 : zc 136 105 = some (.i2s, 0, 0, 0, 0) := rfl
theorem zk_136_106 : zc 136 106 = some (.i2l, 0, 0, 0, 0) := rfl
theorem zk_136_107 : zc 136 107 = some (.goto 20, 127, 0, 0, 0) := rfl
theorem zk_136_110 : zc 136 110 = some (.aload_n 0, 0, 0, 0, 0) := rfl
theorem zk_136_111 : zc 136 111 = some (.getfield 22, 11, 5, 0, 143) := rfl
theorem zk_136_114 : zc 136 114 = some (.iload_n 1, 0, 0, 0, 0) := rfl
theorem zk_136_115 : zc 136 115 = some (.iaload, 0, 0, 0, 0) := rfl
theorem zk_136_116 : zc 136 116 = some (.iconst 2, 0, 0, 0, 0) := rfl
theorem zk_136_117 : zc 136 117 = some (.if_icmp .ne 9, 126, 0, 0, 0) := rfl
theorem zk_136_120 : zc 136 120 = some (.lload_n 3, 0, 0, 0, 0) := rfl
theorem zk_136_121 : zc 136 121 = some (.l2i, 0, 0, 0, 0) := rfl
theorem zk_136_122 : zc 136 122 = some (.i2l, 0, 0, 0, 0) := rfl
theorem zk_136_123 : zc 136 123 = some (.goto 4, 127, 0, 0, 0) := rfl
theorem zk_136_126 : zc 136 126 = some (.lload_n 3, 0, 0, 0, 0) := rfl
theorem zk_136_127 : zc 136 127 = some (.lastore, 0, 0, 0, 0) := rfl
theorem zk_136_128 : zc 136 128 = some (.iconst 1, 0, 0, 0, 0) := rfl
theorem zk_136_129 : zc 136 129 = some (.ireturn, 0, 0, 0, 0) := rfl
theorem zk_137_0 : zc 137 0 = some (.iload_n 1, 0, 0, 0, 0) := rfl
theorem zk_137_1 : zc 137 1 = some (.invokestatic 115, 125, 1, 1, 132) := rfl
theorem zk_137_4 : zc 137 4 = some (.ifCond .eq 10, 14, 0, 0, 0) := rfl
theorem zk_137_7 : zc 137 7 = some (.iload_n 2, 0, 0, 0, 0) := rfl
theorem zk_137_8 : zc 137 8 = some (.invokestatic 115, 125, 1, 1, 132) := rfl
theorem zk_137_11 : zc 137 11 = some (.ifCond .ne 9, 20, 0, 0, 0) := rfl
theorem zk_137_14 : zc 137 14 = some (.aload_n 0, 0, 0, 0, 0) := rfl
theorem zk_137_15 : zc 137 15 = some (.iconst (-1), 0, 0, 0, 0) := rfl
theorem zk_137_16 : zc 137 16 = some (.invokevirtual 103, 123, 0, 2, 129) := rfl
theorem zk_137_19 : zc 137 19 = some (.ireturn, 0, 0, 0, 0) := rfl
theorem zk_137_20 : zc 137 20 = some (.aload_n 0, 0, 0, 0, 0) := rfl
theorem zk_137_21 : zc 137 21 = some (.getfield 19, 11, 4, 0, 142) := rfl
theorem zk_137_24 : zc 137 24 = some (.iload_n 1, 0, 0, 0, 0) := rfl
theorem zk_137_25 : zc 137 25 = some (.iaload, 0, 0, 0, 0) := rfl
theorem zk_137_26 : zc 137 26 = some (.iconst 2, 0, 0, 0, 0) := rfl
theorem zk_137_27 : zc 137 27 = some (.if_icmp .eq 48, 75, 0, 0, 0) := rfl
theorem zk_137_30 : zc 137 30 = some (.aload_n 0, 0, 0, 0, 0) := rfl
theorem zk_137_31 : zc 137 31 = some (.getfield 19, 11, 4, 0, 142) := rfl
theorem zk_137_34 : zc 137 34 = some (.iload_n 2, 0, 0, 0, 0) := rfl
theorem zk_137_35 : zc 137 35 = some (.iaload, 0, 0, 0, 0) := rfl
theorem zk_137_36 : zc 137 36 = some (.iconst 2, 0, 0, 0, 0) := rfl
theorem zk_137_37 : zc 137 37 = some (.if_icmp .eq 38, 75, 0, 0, 0) := rfl
theorem zk_137_40 : zc 137 40 = some (.aload_n 0, 0, 0, 0, 0) := rfl
theorem zk_137_41 : zc 137 41 = some (.getfield 19, 11, 4, 0, 142) := rfl
theorem zk_137_44 : zc 137 44 = some (.iload_n 1, 0, 0, 0, 0) := rfl
theorem zk_137_45 : zc 137 45 = some (.iaload, 0, 0, 0, 0) := rfl
theorem zk_137_46 : zc 137 46 = some (.iconst 1, 0, 0, 0, 0) := rfl
theorem zk_137_47 : zc 137 47 = some (.if_icmp .ne 35, 82, 0, 0, 0) := rfl
theorem zk_137_50 : zc 137 50 = some (.aload_n 0, 0, 0, 0, 0) := rfl
theorem zk_137_51 : zc 137 51 = some (.getfield 19, 11, 4, 0, 142) := rfl
theorem zk_137_54 : zc 137 54 = some (.iload_n 2, 0, 0, 0, 0) := rfl
theorem zk_137_55 : zc 137 55 = some (.iaload, 0, 0, 0, 0) := rfl
theorem zk_137_56 : zc 137 56 = some (.iconst 1, 0, 0, 0, 0) := rfl
theorem zk_137_57 : zc 137 57 = some (.if_icmp .ne 25, 82, 0, 0, 0) := rfl
theorem zk_137_60 : zc 137 60 = some (.aload_n 0, 0, 0, 0, 0) := rfl
theorem zk_137_61 : zc 137 61 = some (.getfield 22, 11, 5, 0, 143) := rfl
theorem zk_137_64 : zc 137 64 = some (.iload_n 1, 0, 0, 0, 0) := rfl
theorem zk_137_65 : zc 137 65 = some (.iaload, 0, 0, 0, 0) := rfl
theorem zk_137_66 : zc 137 66 = some (.aload_n 0, 0, 0, 0, 0) := rfl
theorem zk_137_67 : zc 137 67 = some (.getfield 22, 11, 5, 0, 143) := rfl
theorem zk_137_70 : zc 137 70 = some (.iload_n 2, 0, 0, 0, 0) := rfl
theorem zk_137_71 : zc 137 71 = some (.iaload, 0, 0, 0, 0) := rfl
theorem zk_137_72 : zc 137 72 = some (.if_icmp .eq 10, 82, 0, 0, 0) := rfl
theorem zk_137_75 : zc 137 75 = some (.aload_n 0, 0, 0, 0, 0) := rfl
theorem zk_137_76 : zc 137 76 = some (.bipush (-2), 0, 0, 0, 0) := rfl
theorem zk_137_78 : zc 137 78 = some (.invokevirtual 103, 123, 0, 2, 129) := rfl
theorem zk_137_81 : zc 137 81 = some (.ireturn, 0, 0, 0, 0) := rfl
theorem zk_137_82 : zc 137 82 = some (.aload_n 0, 0, 0, 0, 0) := rfl
theorem zk_137_83 : zc 137 83 = some (.getfield 19, 11, 4, 0, 142) := rfl
theorem zk_137_86 : zc 137 86 = some (.iload_n 1, 0, 0, 0, 0) := rfl
theorem zk_137_87 : zc 137 87 = some (.iaload, 0, 0, 0, 0) := rfl
theorem zk_137_88 : zc 137 88 = some (.ifCond .eq 12, 100, 0, 0, 0) := rfl
theorem zk_137_91 : zc 137 91 = some (.aload_n 0, 0, 0, 0, 0) := rfl
theorem zk_137_92 : zc 137 92 = some (.getfield 19, 11, 4, 0, 142) := rfl
theorem zk_137_95 : zc 137 95 = some (.iload_n 2, 0, 0, 0, 0) := rfl
theorem zk_137_96 : zc 137 96 = some (.iaload, 0, 0, 0, 0) := rfl
theorem zk_137_97 : zc 137 97 = some (.ifCond .ne 10, 107, 0, 0, 0) := rfl
theorem zk_137_100 : zc 137 100 = some (.aload_n 0, 0, 0, 0, 0) := rfl
theorem zk_137_101 : zc 137 101 = some (.bipush (-3), 0, 0, 0, 0) := rfl
theorem zk_137_103 : zc 137 103 = some (.invokevirtual 103, 123, 0, 2, 129) := rfl
theorem zk_137_106 : zc 137 106 = some (.ireturn, 0, 0, 0, 0) := rfl
theorem zk_137_107 : zc 137 107 = some (.iload 5, 0, 0, 0, 0) := rfl
theorem zk_137_109 : zc 137 109 = some (.ifCond .ge 10, 119, 0, 0, 0) := rfl
theorem zk_137_112 : zc 137 112 = some (.aload_n 0, 0, 0, 0, 0) := rfl
theorem zk_137_113 : zc 137 113 = some (.bipush (-4), 0, 0, 0, 0) := rfl
theorem zk_137_115 : zc 137 115 = some (.invokevirtual 103, 123, 0, 2, 129) := rfl
theorem zk_137_118 : zc 137 118 = some (.ireturn, 0, 0, 0, 0) := rfl
theorem zk_137_119 : zc 137 119 = some (.iload_n 3, 0, 0, 0, 0) := rfl
theorem zk_137_120 : zc 137 120 = some (.ifCond .lt 35, 155, 0, 0, 0) := rfl
theorem zk_137_123 : zc 137 123 = some (.iload 4, 0, 0, 0, 0) := rfl
theorem zk_137_125 : zc 137 125 = some (.ifCond .lt 30, 155, 0, 0, 0) := rfl
theorem zk_137_128 : zc 137 128 = some (.iload_n 3, 0, 0, 0, 0) := rfl
theorem zk_137_129 : zc 137 129 = some (.aload_n 0, 0, 0, 0, 0) := rfl
theorem zk_137_130 : zc 137 130 = some (.getfield 25, 11, 6, 0, 144) := rfl
theorem zk_137_133 : zc 137 133 = some (.iload_n 1, 0, 0, 0, 0) := rfl
theorem zk_137_134 : zc 137 134 = some (.iaload, 0, 0, 0, 0) := rfl
theorem zk_137_135 : zc 137 135 = some (.iload 5, 0, 0, 0, 0) := rfl
theorem zk_137_137 : zc 137 137 = some (.isub, 0, 0, 0, 0) := rfl
theorem zk_137_138 : zc 137 138 = some (.if_icmp .gt 17, 155, 0, 0, 0) := rfl
theorem zk_137_141 : zc 137 141 = some (.iload 4, 0, 0, 0, 0) := rfl
theorem zk_137_143 : zc 137 143 = some (.aload_n 0, 0, 0, 0, 0) := rfl
theorem zk_137_144 : zc 137 144 = some (.getfield 25, 11, 6, 0, 144) := rfl
theorem zk_137_147 : zc 137 147 = some (.iload_n 2, 0, 0, 0, 0) := rfl
theorem zk_137_148 : zc 137 148 = some (.iaload, 0, 0, 0, 0) := rfl
theorem zk_137_149 : zc 137 149 = some (.iload 5, 0, 0, 0, 0) := rfl
theorem zk_137_151 : zc 137 151 = some (.isub, 0, 0, 0, 0) := rfl
theorem zk_137_152 : zc 137 152 = some (.if_icmp .le 10, 162, 0, 0, 0) := rfl
theorem zk_137_155 : zc 137 155 = some (.aload_n 0, 0, 0, 0, 0) := rfl
theorem zk_137_156 : zc 137 156 = some (.bipush (-5), 0, 0, 0, 0) := rfl
theorem zk_137_158 : zc 137 158 = some (.invokevirtual 103, 123, 0, 2, 129) := rfl
theorem zk_137_161 : zc 137 161 = some (.ireturn, 0, 0, 0, 0) := rfl
theorem zk_137_162 : zc 137 162 = some (.iconst 0, 0, 0, 0, 0) := rfl
theorem zk_137_163 : zc 137 163 = some (.istore 6, 0, 0, 0, 0) := rfl
theorem zk_137_165 : zc 137 165 = some (.iload 6, 0, 0, 0, 0) := rfl
theorem zk_137_167 : zc 137 167 = some (.iload 5, 0, 0, 0, 0) := rfl
theorem zk_137_169 : zc 137 169 = some (.if_icmp .ge 30, 199, 0, 0, 0) := rfl
theorem zk_137_172 : zc 137 172 = some (.aload_n 0, 0, 0, 0, 0) := rfl
theorem zk_137_173 : zc 137 173 = some (.getfield 35, 11, 9, 0, 147) := rfl
theorem zk_137_176 : zc 137 176 = some (.iload 6, 0, 0, 0, 0) := rfl
theorem zk_137_178 : zc 137 178 = some (.aload_n 0, 0, 0, 0, 0) := rfl
theorem zk_137_179 : zc 137 179 = some (.getfield 31, 11, 8, 0, 146) := rfl
theorem zk_137_182 : zc 137 182 = some (.bipush 96, 0, 0, 0, 0) := rfl
theorem zk_137_184 : zc 137 184 = some (.iload_n 1, 0, 0, 0, 0) := rfl
theorem zk_137_185 : zc 137 185 = some (.imul, 0, 0, 0, 0) := rfl
theorem zk_137_186 : zc 137 186 = some (.iload_n 3, 0, 0, 0, 0) := rfl
theorem zk_137_187 : zc 137 187 = some (.iadd, 0, 0, 0, 0) := rfl
theorem zk_137_188 : zc 137 188 = some (.iload 6, 0, 0, 0, 0) := rfl
theorem zk_137_190 : zc 137 190 = some (.iadd, 0, 0, 0, 0) := rfl
theorem zk_137_191 : zc 137 191 = some (.laload, 0, 0, 0, 0) := rfl
theorem zk_137_192 : zc 137 192 = some (.lastore, 0, 0, 0, 0) := rfl
theorem zk_137_193 : zc 137 193 = some (.iinc 6 1, 0, 0, 0, 0) := rfl
theorem zk_137_196 : zc 137 196 = some (.goto (-31), 165, 0, 0, 0) := rfl
theorem zk_137_199 : zc 137 199 = some (.iconst 0, 0, 0, 0, 0) := rfl
theorem zk_137_200 : zc 137 200 = some (.istore 6, 0, 0, 0, 0) := rfl
theorem zk_137_202 : zc 137 202 = some (.iload 6, 0, 0, 0, 0) := rfl
theorem zk_137_204 : zc 137 204 = some (.iload 5, 0, 0, 0, 0) := rfl
theorem zk_137_206 : zc 137 206 = some (.if_icmp .ge 31, 237, 0, 0, 0) := rfl
theorem zk_137_209 : zc 137 209 = some (.aload_n 0, 0, 0, 0, 0) := rfl
theorem zk_137_210 : zc 137 210 = some (.getfield 31, 11, 8, 0, 146) := rfl
theorem zk_137_213 : zc 137 213 = some (.bipush 96, 0, 0, 0, 0) := rfl
theorem zk_137_215 : zc 137 215 = some (.iload_n 2, 0, 0, 0, 0) := rfl
theorem zk_137_216 : zc 137 216 = some (.imul, 0, 0, 0, 0) := rfl
theorem zk_137_217 : zc 137 217 = some (.iload 4, 0, 0, 0, 0) := rfl
theorem zk_137_219 : zc 137 219 = some (.iadd, 0, 0, 0, 0) := rfl
theorem zk_137_220 : zc 137 220 = some (.iload 6, 0, 0, 0, 0) := rfl
theorem zk_137_222 : zc 137 222 = some (.iadd, 0, 0, 0, 0) := rfl
theorem zk_137_223 : zc 137 223 = some (.aload_n 0, 0, 0, 0, 0) := rfl
theorem zk_137_224 : zc 137 224 = some (.getfield 35, 11, 9, 0, 147) := rfl
theorem zk_137_227 : zc 137 227 = some (.iload 6, 0, 0, 0, 0) := rfl
theorem zk_137_229 : zc 137 229 = some (.laload, 0, 0, 0, 0) := rfl
theorem zk_137_230 : zc 137 230 = some (.lastore, 0, 0, 0, 0) := rfl
theorem zk_137_231 : zc 137 231 = some (.iinc 6 1, 0, 0, 0, 0) := rfl
theorem zk_137_234 : zc 137 234 = some (.goto (-32), 202, 0, 0, 0) := rfl
theorem zk_137_237 : zc 137 237 = some (.iconst 1, 0, 0, 0, 0) := rfl
theorem zk_137_238 : zc 137 238 = some (.ireturn, 0, 0, 0, 0) := rfl
theorem zk_138_0 : zc 138 0 = some (.iload_n 1, 0, 0, 0, 0) := rfl
theorem zk_138_1 : zc 138 1 = some (.invokestatic 115, 125, 1, 1, 132) := rfl
theorem zk_138_4 : zc 138 4 = some (.ifCond .eq 41, 45, 0, 0, 0) := rfl
theorem zk_138_7 : zc 138 7 = some (.aload_n 0, 0, 0, 0, 0) := rfl
theorem zk_138_8 : zc 138 8 = some (.getfield 19, 11, 4, 0, 142) := rfl
theorem zk_138_11 : zc 138 11 = some (.iload_n 1, 0, 0, 0, 0) := rfl
theorem zk_138_12 : zc 138 12 = some (.iaload, 0, 0, 0, 0) := rfl
theorem zk_138_13 : zc 138 13 = some (.iconst 1, 0, 0, 0, 0) := rfl
theorem zk_138_14 : zc 138 14 = some (.if_icmp .ne 31, 45, 0, 0, 0) := rfl
theorem zk_138_17 : zc 138 17 = some (.iload_n 2, 0, 0, 0, 0) := rfl
theorem zk_138_18 : zc 138 18 = some (.ifCond .lt 27, 45, 0, 0, 0) := rfl
theorem zk_138_21 : zc 138 21 = some (.iload_n 2, 0, 0, 0, 0) := rfl
theorem zk_138_22 : zc 138 22 = some (.aload_n 0, 0, 0, 0, 0) := rfl
theorem zk_138_23 : zc 138 23 = some (.getfield 25, 11, 6, 0, 144) := rfl
theorem zk_138_26 : zc 138 26 = some (.iload_n 1, 0, 0, 0, 0) := rfl
theorem zk_138_27 : zc 138 27 = some (.iaload, 0, 0, 0, 0) := rfl
theorem zk_138_28 : zc 138 28 = some (.if_icmp .ge 17, 45, 0, 0, 0) := rfl
theorem zk_138_31 : zc 138 31 = some (.aload_n 0, 0, 0, 0, 0) := rfl
theorem zk_138_32 : zc 138 32 = some (.getfield 31, 11, 8, 0, 146) := rfl
theorem zk_138_35 : zc 138 35 = some (.bipush 96, 0, 0, 0, 0) := rfl
theorem zk_138_37 : zc 138 37 = some (.iload_n 1, 0, 0, 0, 0) := rfl
theorem zk_138_38 : zc 138 38 = some (.imul, 0, 0, 0, 0) := rfl
theorem zk_138_39 : zc 138 39 = some (.iload_n 2, 0, 0, 0, 0) := rfl
theorem zk_138_40 : zc 138 40 = some (.iadd, 0, 0, 0, 0) := rfl
theorem zk_138_41 : zc 138 41 = some (.laload, 0, 0, 0, 0) := rfl
theorem zk_138_42 : zc 138 42 = some (.goto 4, 46, 0, 0, 0) := rfl
theorem zk_138_45 : zc 138 45 = some (.lconst 0, 0, 0, 0, 0) := rfl
theorem zk_138_46 : zc 138 46 = some (.lreturn, 0, 0, 0, 0) := rfl
theorem zk_140_0 : zc 140 0 = some (.iload_n 1, 0, 0, 0, 0) := rfl
theorem zk_140_1 : zc 140 1 = some (.invokestatic 115, 125, 1, 1, 132) := rfl
theorem zk_140_4 : zc 140 4 = some (.ifCond .eq 16, 20, 0, 0, 0) := rfl
theorem zk_140_7 : zc 140 7 = some (.iload_n 2, 0, 0, 0, 0) := rfl
theorem zk_140_8 : zc 140 8 = some (.iconst (-1), 0, 0, 0, 0) := rfl
theorem zk_140_9 : zc 140 9 = some (.if_icmp .eq 17, 26, 0, 0, 0) := rfl
theorem zk_140_12 : zc 140 12 = some (.aload_n 0, 0, 0, 0, 0) := rfl
theorem zk_140_13 : zc 140 13 = some (.iload_n 2, 0, 0, 0, 0) := rfl
theorem zk_140_14 : zc 140 14 = some (.invokevirtual 118, 139, 0, 2, 133) := rfl
theorem zk_140_17 : zc 140 17 = some (.ifCond .ne 9, 26, 0, 0, 0) := rfl
theorem zk_140_20 : zc 140 20 = some (.aload_n 0, 0, 0, 0, 0) := rfl
theorem zk_140_21 : zc 140 21 = some (.iconst (-1), 0, 0, 0, 0) := rfl
theorem zk_140_22 : zc 140 22 = some (.invokevirtual 103, 123, 0, 2, 129) := rfl
theorem zk_140_25 : zc 140 25 = some (.ireturn, 0, 0, 0, 0) := rfl
theorem zk_140_26 : zc 140 26 = some (.aload_n 0, 0, 0, 0, 0) := rfl
theorem zk_140_27 : zc 140 27 = some (.getfield 19, 11, 4, 0, 142) := rfl
theorem zk_140_30 : zc 140 30 = some (.iload_n 1, 0, 0, 0, 0) := rfl
theorem zk_140_31 : zc 140 31 = some (.iload_n 2, 0, 0, 0, 0) := rfl
theorem zk_140_32 : zc 140 32 = some (.iconst (-1), 0, 0, 0, 0) := rfl
theorem zk_140_33 : zc 140 33 = some (.if_icmp .ne 7, 40, 0, 0, 0) := rfl
theorem zk_140_36 : zc 140 36 = some (.iconst 0, 0, 0, 0, 0) := rfl
theorem zk_140_37 : zc 140 37 = some (.goto 4, 41, 0, 0, 0) := rfl
theorem zk_140_40 : zc 140 40 = some (.iconst 2, 0, 0, 0, 0) := rfl
theorem zk_140_41 : zc 140 41 = some (.iastore, 0, 0, 0, 0) := rfl
theorem zk_140_42 : zc 140 42 = some (.aload_n 0, 0, 0, 0, 0) := rfl
theorem zk_140_43 : zc 140 43 = some (.getfield 28, 11, 7, 0, 145) := rfl
theorem zk_140_46 : zc 140 46 = some (.iload_n 1, 0, 0, 0, 0) := rfl
theorem zk_140_47 : zc 140 47 = some (.iload_n 2, 0, 0, 0, 0) := rfl
theorem zk_140_48 : zc 140 48 = some (.iastore, 0, 0, 0, 0) := rfl
theorem zk_140_49 : zc 140 49 = some (.iload_n 2, 0, 0, 0, 0) := rfl
theorem zk_140_50 : zc 140 50 = some (.iconst (-1), 0, 0, 0, 0) := rfl
theorem zk_140_51 : zc 140 51 = some (.if_icmp .ne 7, 58, 0, 0, 0) := rfl
theorem zk_140_54 : zc 140 54 = some (.iconst 0, 0, 0, 0, 0) := rfl
theorem zk_140_55 : zc 140 55 = some (.goto 4, 59, 0, 0, 0) := rfl
theorem zk_140_58 : zc 140 58 = some (.iconst 1, 0, 0, 0, 0) := rfl
theorem zk_140_59 : zc 140 59 = some (.ireturn, 0, 0, 0, 0) := rfl
theorem zk_141_0 : zc 141 0 = some (.iload_n 1, 0, 0, 0, 0) := rfl
theorem zk_141_1 : zc 141 1 = some (.invokestatic 115, 125, 1, 1, 132) := rfl
theorem zk_141_4 : zc 141 4 = some (.ifCond .eq 12, 16, 0, 0, 0) := rfl
theorem zk_141_7 : zc 141 7 = some (.aload_n 0, 0, 0, 0, 0) := rfl
theorem zk_141_8 : zc 141 8 = some (.getfield 19, 11, 4, 0, 142) := rfl
theorem zk_141_11 : zc 141 11 = some (.iload_n 1, 0, 0, 0, 0) := rfl
theorem zk_141_12 : zc 141 12 = some (.iaload, 0, 0, 0, 0) := rfl
theorem zk_141_13 : zc 141 13 = some (.ifCond .ne 5, 18, 0, 0, 0) := rfl
theorem zk_141_16 : zc 141 16 = some (.iconst (-1), 0, 0, 0, 0) := rfl
theorem zk_141_17 : zc 141 17 = some (.ireturn, 0, 0, 0, 0) := rfl
theorem zk_141_18 : zc 141 18 = some (.aload_n 0, 0, 0, 0, 0) := rfl
theorem zk_141_19 : zc 141 19 = some (.getfield 19, 11, 4, 0, 142) := rfl
theorem zk_141_22 : zc 141 22 = some (.iload_n 1, 0, 0, 0, 0) := rfl
theorem zk_141_23 : zc 141 23 = some (.iaload, 0, 0, 0, 0) := rfl
theorem zk_141_24 : zc 141 24 = some (.iconst 1, 0, 0, 0, 0) := rfl
theorem zk_141_25 : zc 141 25 = some (.if_icmp .ne 15, 40, 0, 0, 0) := rfl
theorem zk_141_28 : zc 141 28 = some (.bipush 100, 0, 0, 0, 0) := rfl
theorem zk_141_30 : zc 141 30 = some (.aload_n 0, 0, 0, 0, 0) := rfl
theorem zk_141_31 : zc 141 31 = some (.getfield 22, 11, 5, 0, 143) := rfl
theorem zk_141_34 : zc 141 34 = some (.iload_n 1, 0, 0, 0, 0) := rfl
theorem zk_141_35 : zc 141 35 = some (.iaload, 0, 0, 0, 0) := rfl
theorem zk_141_36 : zc 141 36 = some (.iadd, 0, 0, 0, 0) := rfl
theorem zk_141_37 : zc 141 37 = some (.goto 9, 46, 0, 0, 0) := rfl
theorem zk_141_40 : zc 141 40 = some (.aload_n 0, 0, 0, 0, 0) := rfl
theorem zk_141_41 : zc 141 41 = some (.getfield 28, 11, 7, 0, 145) := rfl
theorem zk_141_44 : zc 141 44 = some (.iload_n 1, 0, 0, 0, 0) := rfl
theorem zk_141_45 : zc 141 45 = some (.iaload, 0, 0, 0, 0) := rfl
theorem zk_141_46 : zc 141 46 = some (.ireturn, 0, 0, 0, 0) := rfl
theorem zk_142_0 : zc 142 0 = some (.iload_n 1, 0, 0, 0, 0) := rfl
theorem zk_142_1 : zc 142 1 = some (.invokestatic 115, 125, 1, 1, 132) := rfl
theorem zk_142_4 : zc 142 4 = some (.ifCond .eq 12, 16, 0, 0, 0) := rfl
theorem zk_142_7 : zc 142 7 = some (.iload_n 2, 0, 0, 0, 0) := rfl
theorem zk_142_8 : zc 142 8 = some (.ifCond .lt 8, 16, 0, 0, 0) := rfl
theorem zk_142_11 : zc 142 11 = some (.iload_n 2, 0, 0, 0, 0) := rfl
theorem zk_142_12 : zc 142 12 = some (.iconst 2, 0, 0, 0, 0) := rfl
theorem zk_142_13 : zc 142 13 = some (.if_icmp .le 9, 22, 0, 0, 0) := rfl
theorem zk_142_16 : zc 142 16 = some (.aload_n 0, 0, 0, 0, 0) := rfl
theorem zk_142_17 : zc 142 17 = some (.iconst (-1), 0, 0, 0, 0) := rfl
theorem zk_142_18 : zc 142 18 = some (.invokevirtual 103, 123, 0, 2, 129) := rfl
theorem zk_142_21 : zc 142 21 = some (.ireturn, 0, 0, 0, 0) := rfl
theorem zk_142_22 : zc 142 22 = some (.aload_n 0, 0, 0, 0, 0) := rfl
theorem zk_142_23 : zc 142 23 = some (.getfield 19, 11, 4, 0, 142) := rfl
theorem zk_142_26 : zc 142 26 = some (.iload_n 1, 0, 0, 0, 0) := rfl
theorem zk_142_27 : zc 142 27 = some (.iaload, 0, 0, 0, 0) := rfl
theorem zk_142_28 : zc 142 28 = some (.iconst 1, 0, 0, 0, 0) := rfl
theorem zk_142_29 : zc 142 29 = some (.if_icmp .eq 36, 65, 0, 0, 0) := rfl
theorem zk_142_32 : zc 142 32 = some (.aload_n 0, 0, 0, 0, 0) := rfl
theorem zk_142_33 : zc 142 33 = some (.getfield 19, 11, 4, 0, 142) := rfl
theorem zk_142_36 : zc 142 36 = some (.iload_n 1, 0, 0, 0, 0) := rfl
theorem zk_142_37 : zc 142 37 = some (.iaload, 0, 0, 0, 0) := rfl
theorem zk_142_38 : zc 142 38 = some (.iconst 2, 0, 0, 0, 0) := rfl
theorem zk_142_39 : zc 142 39 = some (.if_icmp .ne 33, 72, 0, 0, 0) := rfl
theorem zk_142_42 : zc 142 42 = some (.iload_n 2, 0, 0, 0, 0) := rfl
theorem zk_142_43 : zc 142 43 = some (.ifCond .eq 29, 72, 0, 0, 0) := rfl
theorem zk_142_46 : zc 142 46 = some (.aload_n 0, 0, 0, 0, 0) := rfl
theorem zk_142_47 : zc 142 47 = some (.getfield 7, 11, 0, 0, 139) := rfl
theorem zk_142_50 : zc 142 50 = some (.sipush 448, 0, 0, 0, 0) := rfl
theorem zk_142_53 : zc 142 53 = some (.aload_n 0, 0, 0, 0, 0) := rfl
theorem zk_142_54 : zc 142 54 = some (.getfield 28, 11, 7, 0, 145) := rfl
theorem zk_142_57 : zc 142 57 = some (.iload_n 1, 0, 0, 0, 0) := rfl
theorem zk_142_58 : zc 142 58 = some (.iaload, 0, 0, 0, 0) := rfl
theorem zk_142_59 : zc 142 59 = some (.iadd, 0, 0, 0, 0) := rfl
theorem zk_142_60 : zc 142 60 = some (.iaload, 0, 0, 0, 0) := rfl
theorem zk_142_61 : zc 142 61 = some (.iload_n 2, 0, 0, 0, 0) := rfl
theorem zk_142_62 : zc 142 62 = some (.if_icmp .eq 10, 72, 0, 0, 0) := rfl
theorem zk_142_65 : zc 142 65 = some (.aload_n 0, 0, 0, 0, 0) := rfl
theorem zk_142_66 : zc 142 66 = some (.bipush (-2), 0, 0, 0, 0) := rfl
theorem zk_142_68 : zc 142 68 = some (.invokevirtual 103, 123, 0, 2, 129) := rfl
theorem zk_142_71 : zc 142 71 = some (.ireturn, 0, 0, 0, 0) := rfl
theorem zk_142_72 : zc 142 72 = some (.aload_n 0, 0, 0, 0, 0) := rfl
theorem zk_142_73 : zc 142 73 = some (.getfield 19, 11, 4, 0, 142) := rfl
theorem zk_142_76 : zc 142 76 = some (.iload_n 1, 0, 0, 0, 0) := rfl
theorem zk_142_77 : zc 142 77 = some (.iaload, 0, 0, 0, 0) := rfl
theorem zk_142_78 : zc 142 78 = some (.ifCond .ne 10, 88, 0, 0, 0) := rfl
theorem zk_142_81 : zc 142 81 = some (.aload_n 0, 0, 0, 0, 0) := rfl
theorem zk_142_82 : zc 142 82 = some (.bipush (-3), 0, 0, 0, 0) := rfl
theorem zk_142_84 : zc 142 84 = some (.invokevirtual 103, 123, 0, 2, 129) := rfl
theorem zk_142_87 : zc 142 87 = some (.ireturn, 0, 0, 0, 0) := rfl
theorem zk_142_88 : zc 142 88 = some (.aload_n 0, 0, 0, 0, 0) := rfl
theorem zk_142_89 : zc 142 89 = some (.getfield 7, 11, 0, 0, 139) := rfl
theorem zk_142_92 : zc 142 92 = some (.iload_n 2, 0, 0, 0, 0) := rfl
theorem zk_142_93 : zc 142 93 = some (.ifCond .ne 9, 102, 0, 0, 0) := rfl
theorem zk_142_96 : zc 142 96 = some (.sipush 520, 0, 0, 0, 0) := rfl
theorem zk_142_99 : zc 142 99 = some (.goto 17, 116, 0, 0, 0) := rfl
theorem zk_142_102 : zc 142 102 = some (.iload_n 2, 0, 0, 0, 0) := rfl
theorem zk_142_103 : zc 142 103 = some (.iconst 1, 0, 0, 0, 0) := rfl
theorem zk_142_104 : zc 142 104 = some (.if_icmp .ne 9, 113, 0, 0, 0) := rfl
theorem zk_142_107 : zc 142 107 = some (.sipush 532, 0, 0, 0, 0) := rfl
theorem zk_142_110 : zc 142 110 = some (.goto 6, 116, 0, 0, 0) := rfl
theorem zk_142_113 : zc 142 113 = some (.sipush 544, 0, 0, 0, 0) := rfl
theorem zk_142_116 : zc 142 116 = some (.aload_n 0, 0, 0, 0, 0) := rfl
theorem zk_142_117 : zc 142 117 = some (.getfield 28, 11, 7, 0, 145) := rfl
theorem zk_142_120 : zc 142 120 = some (.iload_n 1, 0, 0, 0, 0) := rfl
theorem zk_142_121 : zc 142 121 = some (.iaload, 0, 0, 0, 0) := rfl
theorem zk_142_122 : zc 142 122 = some (.iadd, 0, 0, 0, 0) := rfl
theorem zk_142_123 : zc 142 123 = some (.iaload, 0, 0, 0, 0) := rfl
theorem zk_142_124 : zc 142 124 = some (.ireturn, 0, 0, 0, 0) := rfl
theorem zk_144_0 : zc 144 0 = some (.aload_n 0, 0, 0, 0, 0) := rfl
theorem zk_144_1 : zc 144 1 = some (.iload_n 1, 0, 0, 0, 0) := rfl
theorem zk_144_2 : zc 144 2 = some (.invokevirtual 121, 143, 0, 2, 134) := rfl
theorem zk_144_5 : zc 144 5 = some (.istore_n 3, 0, 0, 0, 0) := rfl
theorem zk_144_6 : zc 144 6 = some (.iload_n 3, 0, 0, 0, 0) := rfl
theorem zk_144_7 : zc 144 7 = some (.ifCond .eq 9, 16, 0, 0, 0) := rfl
theorem zk_144_10 : zc 144 10 = some (.aload_n 0, 0, 0, 0, 0) := rfl
theorem zk_144_11 : zc 144 11 = some (.iload_n 3, 0, 0, 0, 0) := rfl
theorem zk_144_12 : zc 144 12 = some (.invokevirtual 103, 123, 0, 2, 129) := rfl
theorem zk_144_15 : zc 144 15 = some (.ireturn, 0, 0, 0, 0) := rfl
theorem zk_144_16 : zc 144 16 = some (.iload_n 2, 0, 0, 0, 0) := rfl
theorem zk_144_17 : zc 144 17 = some (.ifCond .eq 9, 26, 0, 0, 0) := rfl
theorem zk_144_20 : zc 144 20 = some (.sipush 352, 0, 0, 0, 0) := rfl
theorem zk_144_23 : zc 144 23 = some (.goto 6, 29, 0, 0, 0) := rfl
theorem zk_144_26 : zc 144 26 = some (.sipush 256, 0, 0, 0, 0) := rfl
theorem zk_144_29 : zc 144 29 = some (.istore 4, 0, 0, 0, 0) := rfl
theorem zk_144_31 : zc 144 31 = some (.aload_n 0, 0, 0, 0, 0) := rfl
theorem zk_144_32 : zc 144 32 = some (.getfield 7, 11, 0, 0, 139) := rfl
theorem zk_144_35 : zc 144 35 = some (.iload_n 2, 0, 0, 0, 0) := rfl
theorem zk_144_36 : zc 144 36 = some (.ifCond .eq 9, 45, 0, 0, 0) := rfl
theorem zk_144_39 : zc 144 39 = some (.sipush 636, 0, 0, 0, 0) := rfl
theorem zk_144_42 : zc 144 42 = some (.goto 6, 48, 0, 0, 0) := rfl
theorem zk_144_45 : zc 144 45 = some (.sipush 635, 0, 0, 0, 0) := rfl
theorem zk_144_48 : zc 144 48 = some (.aload_n 0, 0, 0, 0, 0) := rfl
theorem zk_144_49 : zc 144 49 = some (.getfield 25, 11, 6, 0, 144) := rfl
theorem zk_144_52 : zc 144 52 = some (.iload_n 1, 0, 0, 0, 0) := rfl
theorem zk_144_53 : zc 144 53 = some (.iaload, 0, 0, 0, 0) := rfl
theorem zk_144_54 : zc 144 54 = some (.iastore, 0, 0, 0, 0) := rfl
theorem zk_144_55 : zc 144 55 = some (.iconst 0, 0, 0, 0, 0) := rfl
theorem zk_144_56 : zc 144 56 = some (.istore 5, 0, 0, 0, 0) := rfl
theorem zk_144_58 : zc 144 58 = some (.iload 5, 0, 0, 0, 0) := rfl
theorem zk_144_60 : zc 144 60 = some (.aload_n 0, 0, 0, 0, 0) := rfl
theorem zk_144_61 : zc 144 61 = some (.getfield 25, 11, 6, 0, 144) := rfl
theorem zk_144_64 : zc 144 64 = some (.iload_n 1, 0, 0, 0, 0) := rfl
theorem zk_144_65 : zc 144 65 = some (.iaload, 0, 0, 0, 0) := rfl
theorem zk_144_66 : zc 144 66 = some (.if_icmp .ge 141, 207, 0, 0, 0) := rfl
theorem zk_144_69 : zc 144 69 = some (.aload_n 0, 0, 0, 0, 0) := rfl
theorem zk_144_70 : zc 144 70 = some (.getfield 31, 11, 8, 0, 146) := rfl
theorem zk_144_73 : zc 144 73 = some (.bipush 96, 0, 0, 0, 0) := rfl
theorem zk_144_75 : zc 144 75 = some (.iload_n 1, 0, 0, 0, 0) := rfl
theorem zk_144_76 : zc 144 76 = some (.imul, 0, 0, 0, 0) := rfl
theorem zk_144_77 : zc 144 77 = some (.iload 5, 0, 0, 0, 0) := rfl
theorem zk_144_79 : zc 144 79 = some (.iadd, 0, 0, 0, 0) := rfl
theorem zk_144_80 : zc 144 80 = some (.laload, 0, 0, 0, 0) := rfl
theorem zk_144_81 : zc 144 81 = some (.lstore 6, 0, 0, 0, 0) := rfl
theorem zk_144_83 : zc 144 83 = some (.lload 6, 0, 0, 0, 0) := rfl
theorem zk_144_85 : zc 144 85 = some (.aload_n 0, 0, 0, 0, 0) := rfl
theorem zk_144_86 : zc 144 86 = some (.getfield 22, 11, 5, 0, 143) := rfl
theorem zk_144_89 : zc 144 89 = some (.iload_n 1, 0, 0, 0, 0) := rfl
theorem zk_144_90 : zc 144 90 = some (.iaload, 0, 0, 0, 0) := rfl
theorem zk_144_91 : zc 144 91 = some (.ifCond .ne 9, 100, 0, 0, 0) := rfl
theorem zk_144_94 : zc 144 94 = some (.ldc2_w 124, 0, 0, -128, 5) := rfl
theorem zk_144_97 : zc 144 97 = some (.goto 38, 135, 0, 0, 0) := rfl
theorem zk_144_100 : zc 144 100 = some (.aload_n 0, 0, 0, 0, 0) := rfl
theorem zk_144_101 : zc 144 101 = some (.getfield 22, 11, 5, 0, 143) := rfl
theorem zk_144_104 : zc 144 104 = some (.iload_n 1, 0, 0, 0, 0) := rfl
theorem zk_144_105 : zc 144 105 = some (.iaload, 0, 0, 0, 0) := rfl
theorem zk_144_106 : zc 144 106 = some (.iconst 1, 0, 0, 0, 0) := rfl
theorem zk_144_107 : zc 144 107 = some (.if_icmp .ne 9, 116, 0, 0, 0) := rfl
theorem zk_144_110 : zc 144 110 = some (.ldc2_w 126, 0, 0, -32768, 6) := rfl
theorem zk_144_113 : zc 144 113 = some (.goto 22, 135, 0, 0, 0) := rfl
theorem zk_144_116 : zc 144 116 = some (.aload_n 0, 0, 0, 0, 0) := rfl
theorem zk_144_117 : zc 144 117 = some (.getfield 22, 11, 5, 0, 143) := rfl
theorem zk_144_120 : zc 144 120 = some (.iload_n 1, 0, 0, 0, 0) := rfl
theorem zk_144_121 : zc 144 121 = some (.iaload, 0, 0, 0, 0) := rfl
theorem zk_144_122 : zc 144 122 = some (.iconst 2, 0, 0, 0, 0) := rfl
theorem zk_144_123 : zc 144 123 = some (.if_icmp .ne 9, 132, 0, 0, 0) := rfl
theorem zk_144_126 : zc 144 126 = some (.ldc2_w 128, 0, 0, -2147483648, 7) := rfl
theorem zk_144_129 : zc 144 129 = some (.goto 6, 135, 0, 0, 0) := rfl
theorem zk_144_132 : zc 144 132 = some (.ldc2_w 132, 0, 0, -9223372036854775808, 8) := rfl
theorem zk_144_135 : zc 144 135 = some (.lcmp, 0, 0, 0, 0) := rfl
theorem zk_144_136 : zc 144 136 = some (.ifCond .ne 7, 143, 0, 0, 0) := rfl
theorem zk_144_139 : zc 144 139 = some (.iconst 1, 0, 0, 0, 0) := rfl
theorem zk_144_140 : zc 144 140 = some (.goto 4, 144, 0, 0, 0) := rfl
theorem zk_144_143 : zc 144 143 = some (.iconst 0, 0, 0, 0, 0) := rfl
theorem zk_144_144 : zc 144 144 = some (.istore 8, 0, 0, 0, 0) := rfl
theorem zk_144_146 : zc 144 146 = some (.lload 6, 0, 0, 0, 0) := rfl
theorem zk_144_148 : zc 144 148 = some (.l2i, 0, 0, 0, 0) := rfl
theorem zk_144_149 : zc 144 149 = some (.istore 9, 0, 0, 0, 0) := rfl
theorem zk_144_151 : zc 144 151 = some (.aload_n 0, 0, 0, 0, 0) := rfl
theorem zk_144_152 : zc 144 152 = some (.getfield 7, 11, 0, 0, 139) := rfl
theorem zk_144_155 : zc 144 155 = some (.iload 4, 0, 0, 0, 0) := rfl
theorem zk_144_157 : zc 144 157 = some (.iload 5, 0, 0, 0, 0) := rfl
theorem zk_144_159 : zc 144 159 = some (.iadd, 0, 0, 0, 0) := rfl
theorem zk_144_160 : zc 144 160 = some (.iload 8, 0, 0, 0, 0) := rfl
theorem zk_144_162 : zc 144 162 = some (.ifCond .eq 8, 170, 0, 0, 0) := rfl
theorem zk_144_165 : zc 144 165 = some (.bipush 30, 0, 0, 0, 0) := rfl
theorem zk_144_167 : zc 144 167 = some (.goto 33, 200, 0, 0, 0) := rfl
theorem zk_144_170 : zc 144 170 = some (.iload 9, 0, 0, 0, 0) := rfl
theorem zk_144_172 : zc 144 172 = some (.sipush (-300), 0, 0, 0, 0) := rfl
theorem zk_144_175 : zc 144 175 = some (.if_icmp .ge 9, 184, 0, 0, 0) := rfl
theorem zk_144_178 : zc 144 178 = some (.sipush (-300), 0, 0, 0, 0) := rfl
theorem zk_144_181 : zc 144 181 = some (.goto 19, 200, 0, 0, 0) := rfl
theorem zk_144_184 : zc 144 184 = some (.iload 9, 0, 0, 0, 0) := rfl
theorem zk_144_186 : zc 144 186 = some (.sipush 300, 0, 0, 0, 0) := rfl
theorem zk_144_189 : zc 144 189 = some (.if_icmp .le 9, 198, 0, 0, 0) := rfl
theorem zk_144_192 : zc 144 192 = some (.sipush 300, 0, 0, 0, 0) := rfl
theorem zk_144_195 : zc 144 195 = some (.goto 5, 200, 0, 0, 0) := rfl
theorem zk_144_198 : zc 144 198 = some (.iload 9, 0, 0, 0, 0) := rfl
theorem zk_144_200 : zc 144 200 = some (.iastore, 0, 0, 0, 0) := rfl
theorem zk_144_201 : zc 144 201 = some (.iinc 5 1, 0, 0, 0, 0) := rfl
theorem zk_144_204 : zc 144 204 = some (.goto (-146), 58, 0, 0, 0) := rfl
theorem zk_144_207 : zc 144 207 = some (.aload_n 0, 0, 0, 0, 0) := rfl
theorem zk_144_208 : zc 144 208 = some (.getfield 25, 11, 6, 0, 144) := rfl
theorem zk_144_211 : zc 144 211 = some (.iload_n 1, 0, 0, 0, 0) := rfl
theorem zk_144_212 : zc 144 212 = some (.iaload, 0, 0, 0, 0) := rfl
theorem zk_144_213 : zc 144 213 = some (.ireturn, 0, 0, 0, 0) := rfl
theorem zk_146_0 : zc 146 0 = some (.iload_n 1, 0, 0, 0, 0) := rfl
theorem zk_146_1 : zc 146 1 = some (.ifCond .ge 9, 10, 0, 0, 0) := rfl
theorem zk_146_4 : zc 146 4 = some (.sipush 1000, 0, 0, 0, 0) := rfl
theorem zk_146_7 : zc 146 7 = some (.goto 9, 16, 0, 0, 0) := rfl
theorem zk_146_10 : zc 146 10 = some (.aload_n 0, 0, 0, 0, 0) := rfl
theorem zk_146_11 : zc 146 11 = some (.iload_n 1, 0, 0, 0, 0) := rfl
theorem zk_146_12 : zc 146 12 = some (.iload_n 2, 0, 0, 0, 0) := rfl
theorem zk_146_13 : zc 146 13 = some (.invokevirtual 134, 145, 0, 3, 135) := rfl
theorem zk_146_16 : zc 146 16 = some (.ireturn, 0, 0, 0, 0) := rfl
theorem zk_147_0 : zc 147 0 = some (.iload_n 1, 0, 0, 0, 0) := rfl
theorem zk_147_1 : zc 147 1 = some (.ifCond .lt 48, 49, 0, 0, 0) := rfl
theorem zk_147_4 : zc 147 4 = some (.iload_n 1, 0, 0, 0, 0) := rfl
theorem zk_147_5 : zc 147 5 = some (.iconst 2, 0, 0, 0, 0) := rfl
theorem zk_147_6 : zc 147 6 = some (.if_icmp .gt 43, 49, 0, 0, 0) := rfl
theorem zk_147_9 : zc 147 9 = some (.iload_n 2, 0, 0, 0, 0) := rfl
theorem zk_147_10 : zc 147 10 = some (.iload_n 1, 0, 0, 0, 0) := rfl
theorem zk_147_11 : zc 147 11 = some (.iconst 1, 0, 0, 0, 0) := rfl
theorem zk_147_12 : zc 147 12 = some (.if_icmp .ne 7, 19, 0, 0, 0) := rfl
theorem zk_147_15 : zc 147 15 = some (.iconst 1, 0, 0, 0, 0) := rfl
theorem zk_147_16 : zc 147 16 = some (.goto 4, 20, 0, 0, 0) := rfl
theorem zk_147_19 : zc 147 19 = some (.iconst 0, 0, 0, 0, 0) := rfl
theorem zk_147_20 : zc 147 20 = some (.if_icmp .lt 29, 49, 0, 0, 0) := rfl
theorem zk_147_23 : zc 147 23 = some (.iload_n 2, 0, 0, 0, 0) := rfl
theorem zk_147_24 : zc 147 24 = some (.iload_n 1, 0, 0, 0, 0) := rfl
theorem zk_147_25 : zc 147 25 = some (.ifCond .ne 8, 33, 0, 0, 0) := rfl
theorem zk_147_28 : zc 147 28 = some (.bipush 99, 0, 0, 0, 0) := rfl
theorem zk_147_30 : zc 147 30 = some (.goto 16, 46, 0, 0, 0) := rfl
theorem zk_147_33 : zc 147 33 = some (.iload_n 1, 0, 0, 0, 0) := rfl
theorem zk_147_34 : zc 147 34 = some (.iconst 1, 0, 0, 0, 0) := rfl
theorem zk_147_35 : zc 147 35 = some (.if_icmp .ne 8, 43, 0, 0, 0) := rfl
theorem zk_147_38 : zc 147 38 = some (.bipush 9, 0, 0, 0, 0) := rfl
theorem zk_147_40 : zc 147 40 = some (.goto 6, 46, 0, 0, 0) := rfl
theorem zk_147_43 : zc 147 43 = some (.sipush 9999, 0, 0, 0, 0) := rfl
theorem zk_147_46 : zc 147 46 = some (.if_icmp .le 10, 56, 0, 0, 0) := rfl
theorem zk_147_49 : zc 147 49 = some (.aload_n 0, 0, 0, 0, 0) := rfl
theorem zk_147_50 : zc 147 50 = some (.bipush (-6), 0, 0, 0, 0) := rfl
theorem zk_147_52 : zc 147 52 = some (.invokevirtual 103, 123, 0, 2, 129) := rfl
theorem zk_147_55 : zc 147 55 = some (.ireturn, 0, 0, 0, 0) := rfl
theorem zk_147_56 : zc 147 56 = some (.aload_n 0, 0, 0, 0, 0) := rfl
theorem zk_147_57 : zc 147 57 = some (.getfield 7, 11, 0, 0, 139) := rfl
theorem zk_147_60 : zc 147 60 = some (.sipush 637, 0, 0, 0, 0) := rfl
theorem zk_147_63 : zc 147 63 = some (.iload_n 1, 0, 0, 0, 0) := rfl
theorem zk_147_64 : zc 147 64 = some (.iadd, 0, 0, 0, 0) := rfl
theorem zk_147_65 : zc 147 65 = some (.iaload, 0, 0, 0, 0) := rfl
theorem zk_147_66 : zc 147 66 = some (.istore_n 3, 0, 0, 0, 0) := rfl
theorem zk_147_67 : zc 147 67 = some (.aload_n 0, 0, 0, 0, 0) := rfl
theorem zk_147_68 : zc 147 68 = some (.getfield 7, 11, 0, 0, 139) := rfl
theorem zk_147_71 : zc 147 71 = some (.sipush 637, 0, 0, 0, 0) := rfl
theorem zk_147_74 : zc 147 74 = some (.iload_n 1, 0, 0, 0, 0) := rfl
theorem zk_147_75 : zc 147 75 = some (.iadd, 0, 0, 0, 0) := rfl
theorem zk_147_76 : zc 147 76 = some (.iload_n 2, 0, 0, 0, 0) := rfl
theorem zk_147_77 : zc 147 77 = some (.iastore, 0, 0, 0, 0) := rfl
theorem zk_147_78 : zc 147 78 = some (.iload_n 3, 0, 0, 0, 0) := rfl
theorem zk_147_79 : zc 147 79 = some (.ireturn, 0, 0, 0, 0) := rfl
theorem zk_156_0 : zc 156 0 = some (.aload_n 0, 0, 0, 0, 0) := rfl
theorem zk_156_1 : zc 156 1 = some (.getfield 56, 11, 16, 0, 154) := rfl
theorem zk_156_4 : zc 156 4 = some (.ireturn, 0, 0, 0, 0) := rfl
theorem zk_158_0 : zc 158 0 = some (.aload_n 0, 0, 0, 0, 0) := rfl
theorem zk_158_1 : zc 158 1 = some (.iload_n 1, 0, 0, 0, 0) := rfl
theorem zk_158_2 : zc 158 2 = some (.invokevirtual 183, 157, 0, 2, 143) := rfl
theorem zk_158_5 : zc 158 5 = some (.ifCond .eq 16, 21, 0, 0, 0) := rfl
theorem zk_158_8 : zc 158 8 = some (.aload_n 0, 0, 0, 0, 0) := rfl
theorem zk_158_9 : zc 158 9 = some (.sipush 628, 0, 0, 0, 0) := rfl
theorem zk_158_12 : zc 158 12 = some (.iload_n 1, 0, 0, 0, 0) := rfl
theorem zk_158_13 : zc 158 13 = some (.iadd, 0, 0, 0, 0) := rfl
theorem zk_158_14 : zc 158 14 = some (.iload_n 2, 0, 0, 0, 0) := rfl
theorem zk_158_15 : zc 158 15 = some (.invokevirtual 111, 129, 0, 3, 131) := rfl
theorem zk_158_18 : zc 158 18 = some (.goto 8, 26, 0, 0, 0) := rfl
theorem zk_158_21 : zc 158 21 = some (.aload_n 0, 0, 0, 0, 0) := rfl
theorem zk_158_22 : zc 158 22 = some (.iconst (-1), 0, 0, 0, 0) := rfl
theorem zk_158_23 : zc 158 23 = some (.invokevirtual 103, 123, 0, 2, 129) := rfl
theorem zk_158_26 : zc 158 26 = some (.ireturn, 0, 0, 0, 0) := rfl
theorem sb61_c45851f : ∀ t i k j, MT 49 49 49 49 t i k j → MJ 0 25 t i k j := by
  intro t i k j h
  unfold MT at h
  unfold MJ
  omega
/-- WModel.depth -/
theorem m_127 {xs : Nat × (Nat → Int32)} (p0 : Int) (p1 : Int) (hp0 : -2147483648 ≤ p0 ∧ p0 ≤ 2147483647) (hp1 : -2147483648 ≤ p1 ∧ p1 ≤ 2147483647) (σ : ZS) (hI : Inv σ)   : CT xs 2 127 [av 35 0 0, iv p0, iv p1] σ (fun v σ' => ∃ y, v = some (iv y) ∧ (-2147483648 ≤ y ∧ y ≤ 2147483647) ∧ IF (MJ 0 25) σ σ' ∧ (True)) := by
  refine G_ct (J := (fun σ' => IF (MJ 0 25) σ σ' ∧ True)) (L := [(0, av 35 0 0), (1, iv p0), (2, iv p1)]) (nL := 4) rfl rfl rfl ⟨IF.rf hI, trivial⟩ ?_
  refine T_ld zk_127_0 rfl rfl rfl (pc' := 1) rfl ?_
  refine T_calli (K := fun y1 σ' => ((y1 = 0 ∧ (p0 < 0 ∨ 24 < p0)) ∨ (y1 = 1 ∧ 0 ≤ p0 ∧ p0 ≤ 24)) ∧ (fun σ' => IF (MJ 0 25) σ σ' ∧ True) σ') (r := []) zk_127_1 rfl rfl rfl rfl rfl rfl (Or.inl (Or.inl rfl)) (fun σ' h => (m_124 p0 (by omega) σ' h.1.1 ).le (Nat.le_of_ble_eq_true rfl) (fun v σ2 ⟨y, h1, h2, h3, h4⟩ => ⟨y, h1, h2, h.1.tr h3 MN_sub, trivial⟩)) (pc' := 4) rfl (fun y1 => ?_)
  refine G_ex (fun hy1 => ?_)
  refine T_if_ne zk_127_4 (by omega) (pc' := 7) rfl (fun h2 => ?_) (fun h3 => ?_)
  ·
    refine T_ld zk_127_13 rfl rfl rfl (pc' := 14) rfl ?_
    refine T_if_lt zk_127_14 (by omega) (pc' := 17) rfl (fun h4 => ?_) (fun h5 => ?_)
    ·
      refine T_ld zk_127_23 rfl rfl rfl (pc' := 24) rfl ?_
      refine T_op zk_127_24 rfl (X_bi (v := -6) (by decide)) (pc' := 26) rfl ?_
      refine T_calli (K := fun y6 σ' => (y6 = (-6)) ∧ (fun σ' => IF (MJ 0 25) σ σ' ∧ True) σ') (r := []) zk_127_26 rfl rfl rfl rfl rfl rfl (Or.inr ⟨_, _, _, _, rfl, vd_35, rfl⟩) (fun σ' h => (m_123 ((-6)) (by omega) σ' h.1.1 ).le (Nat.le_of_ble_eq_true rfl) (fun v σ2 ⟨y, h1, h2, h3, h4⟩ => ⟨y, h1, h2, h.1.tr h3 sb61_c45851f, trivial⟩)) (pc' := 29) rfl (fun y6 => ?_)
      refine G_ex (fun hy6 => ?_)
      obtain rfl : y6 = (-6) := by omega
      exact T_iret zk_127_29 rfl (fun σ' h => ⟨_, rfl, (by omega), h.1, trivial⟩)
    ·
      refine T_ld zk_127_17 rfl rfl rfl (pc' := 18) rfl ?_
      refine T_op zk_127_18 rfl (X_bi (v := 60) (by decide)) (pc' := 20) rfl ?_
      refine T_icmp_le zk_127_20 (by omega) (by omega) (pc' := 23) rfl (fun h7 => ?_) (fun h8 => ?_)
      ·
        refine T_ld zk_127_30 rfl rfl rfl (pc' := 31) rfl ?_
        refine T_getR (t' := 36) (i' := 0) (k' := 0) zk_127_31 rfl rfl rfl vd_35 (pc' := 34) rfl ?_
        refine T_op zk_127_34 rfl X_ic (pc' := 35) rfl ?_
        refine T_ld zk_127_35 rfl rfl rfl (pc' := 36) rfl ?_
        refine T_op zk_127_36 rfl X_add (pc' := 37) rfl ?_
        refine G_iald (lo := -2147483648) (hi := 2147483647) (ln := 646) zk_127_37 rfl rfl (vd_36 (by omega)) (by omega) (by omega) (by omega) (fun σ' h => h.1.1) (fun _ h => (by have q := h.1; omega)) (pc' := 38) rfl (fun y9 hy9 hy9' => ?_)
        refine T_st (L' := [(0, av 35 0 0), (1, iv p0), (2, iv p1), (3, iv y9)]) zk_127_38 (nL := 4) rfl rfl rfl rfl rfl (pc' := 39) rfl ?_
        refine T_ld zk_127_39 rfl rfl rfl (pc' := 40) rfl ?_
        refine T_getR (t' := 36) (i' := 0) (k' := 0) zk_127_40 rfl rfl rfl vd_35 (pc' := 43) rfl ?_
        refine T_op zk_127_43 rfl X_ic (pc' := 44) rfl ?_
        refine T_ld zk_127_44 rfl rfl rfl (pc' := 45) rfl ?_
        refine T_op zk_127_45 rfl X_add (pc' := 46) rfl ?_
        refine T_ld zk_127_46 rfl rfl rfl (pc' := 47) rfl ?_
        refine G_iast (J' := (fun σ' => IF (MJ 0 25) σ σ' ∧ True)) (ln := 646) zk_127_47 rfl rfl (vd_36 (by omega)) (by omega) (by omega) (by omega) (fun σ' h => ⟨h.1.up (by simp only [rgP] <;> omega) (by first | exact pMJ rfl | (unfold MJ; omega)), trivial⟩) (pc' := 48) rfl ?_
        refine T_ld zk_127_48 rfl rfl rfl (pc' := 49) rfl ?_
        exact T_iret zk_127_49 rfl (fun σ' h => ⟨_, rfl, (by omega), h.1, trivial⟩)
      ·
        refine T_ld zk_127_23 rfl rfl rfl (pc' := 24) rfl ?_
        refine T_op zk_127_24 rfl (X_bi (v := -6) (by decide)) (pc' := 26) rfl ?_
        refine T_calli (K := fun y10 σ' => (y10 = (-6)) ∧ (fun σ' => IF (MJ 0 25) σ σ' ∧ True) σ') (r := []) zk_127_26 rfl rfl rfl rfl rfl rfl (Or.inr ⟨_, _, _, _, rfl, vd_35, rfl⟩) (fun σ' h => (m_123 ((-6)) (by omega) σ' h.1.1 ).le (Nat.le_of_ble_eq_true rfl) (fun v σ2 ⟨y, h1, h2, h3, h4⟩ => ⟨y, h1, h2, h.1.tr h3 sb61_c45851f, trivial⟩)) (pc' := 29) rfl (fun y10 => ?_)
        refine G_ex (fun hy10 => ?_)
        obtain rfl : y10 = (-6) := by omega
        exact T_iret zk_127_29 rfl (fun σ' h => ⟨_, rfl, (by omega), h.1, trivial⟩)
  ·
    refine T_ld zk_127_7 rfl rfl rfl (pc' := 8) rfl ?_
    refine T_op zk_127_8 rfl X_ic (pc' := 9) rfl ?_
    refine T_calli (K := fun y11 σ' => (y11 = (-1)) ∧ (fun σ' => IF (MJ 0 25) σ σ' ∧ True) σ') (r := []) zk_127_9 rfl rfl rfl rfl rfl rfl (Or.inr ⟨_, _, _, _, rfl, vd_35, rfl⟩) (fun σ' h => (m_123 ((-1)) (by omega) σ' h.1.1 ).le (Nat.le_of_ble_eq_true rfl) (fun v σ2 ⟨y, h1, h2, h3, h4⟩ => ⟨y, h1, h2, h.1.tr h3 sb61_c45851f, trivial⟩)) (pc' := 12) rfl (fun y11 => ?_)
    refine G_ex (fun hy11 => ?_)
    obtain rfl : y11 = (-1) := by omega
    exact T_iret zk_127_12 rfl (fun σ' h => ⟨_, rfl, (by omega), h.1, trivial⟩)
theorem sb61_d88faf5 : ∀ t i k j, MT 49 49 49 49 t i k j → MK 25 50 645 646 t i k j := by
  intro t i k j h
  unfold MT at h
  unfold MK
  omega
/-- WModel.level -/
theorem m_128 {xs : Nat × (Nat → Int32)} (p0 : Int) (p1 : Int) (hp0 : -2147483648 ≤ p0 ∧ p0 ≤ 2147483647) (hp1 : -2147483648 ≤ p1 ∧ p1 ≤ 2147483647) (σ : ZS) (hI : Inv σ)   : CT xs 2 128 [av 35 0 0, iv p0, iv p1] σ (fun v σ' => ∃ y, v = some (iv y) ∧ (-2147483648 ≤ y ∧ y ≤ 2147483647) ∧ IF (MK 25 50 645 646) σ σ' ∧ (True)) := by
  refine G_ct (J := (fun σ' => IF (MK 25 50 645 646) σ σ' ∧ True)) (L := [(0, av 35 0 0), (1, iv p0), (2, iv p1)]) (nL := 4) rfl rfl rfl ⟨IF.rf hI, trivial⟩ ?_
  refine T_ld zk_128_0 rfl rfl rfl (pc' := 1) rfl ?_
  refine T_calli (K := fun y1 σ' => ((y1 = 0 ∧ (p0 < 0 ∨ 24 < p0)) ∨ (y1 = 1 ∧ 0 ≤ p0 ∧ p0 ≤ 24)) ∧ (fun σ' => IF (MK 25 50 645 646) σ σ' ∧ True) σ') (r := []) zk_128_1 rfl rfl rfl rfl rfl rfl (Or.inl (Or.inl rfl)) (fun σ' h => (m_124 p0 (by omega) σ' h.1.1 ).le (Nat.le_of_ble_eq_true rfl) (fun v σ2 ⟨y, h1, h2, h3, h4⟩ => ⟨y, h1, h2, h.1.tr h3 MN_sub, trivial⟩)) (pc' := 4) rfl (fun y1 => ?_)
  refine G_ex (fun hy1 => ?_)
  refine T_if_ne zk_128_4 (by omega) (pc' := 7) rfl (fun h2 => ?_) (fun h3 => ?_)
  ·
    refine T_ld zk_128_13 rfl rfl rfl (pc' := 14) rfl ?_
    refine T_op zk_128_14 rfl (X_si (v := -300) (by decide)) (pc' := 17) rfl ?_
    refine T_icmp_lt zk_128_17 (by omega) (by omega) (pc' := 20) rfl (fun h4 => ?_) (fun h5 => ?_)
    ·
      refine T_ld zk_128_27 rfl rfl rfl (pc' := 28) rfl ?_
      refine T_op zk_128_28 rfl (X_bi (v := -6) (by decide)) (pc' := 30) rfl ?_
      refine T_calli (K := fun y6 σ' => (y6 = (-6)) ∧ (fun σ' => IF (MK 25 50 645 646) σ σ' ∧ True) σ') (r := []) zk_128_30 rfl rfl rfl rfl rfl rfl (Or.inr ⟨_, _, _, _, rfl, vd_35, rfl⟩) (fun σ' h => (m_123 ((-6)) (by omega) σ' h.1.1 ).le (Nat.le_of_ble_eq_true rfl) (fun v σ2 ⟨y, h1, h2, h3, h4⟩ => ⟨y, h1, h2, h.1.tr h3 sb61_d88faf5, trivial⟩)) (pc' := 33) rfl (fun y6 => ?_)
      refine G_ex (fun hy6 => ?_)
      obtain rfl : y6 = (-6) := by omega
      exact T_iret zk_128_33 rfl (fun σ' h => ⟨_, rfl, (by omega), h.1, trivial⟩)
    ·
      refine T_ld zk_128_20 rfl rfl rfl (pc' := 21) rfl ?_
      refine T_op zk_128_21 rfl (X_si (v := 300) (by decide)) (pc' := 24) rfl ?_
      refine T_icmp_le zk_128_24 (by omega) (by omega) (pc' := 27) rfl (fun h7 => ?_) (fun h8 => ?_)
      ·
        refine T_ld zk_128_34 rfl rfl rfl (pc' := 35) rfl ?_
        refine T_getR (t' := 36) (i' := 0) (k' := 0) zk_128_35 rfl rfl rfl vd_35 (pc' := 38) rfl ?_
        refine T_op zk_128_38 rfl (X_bi (v := 25) (by decide)) (pc' := 40) rfl ?_
        refine T_ld zk_128_40 rfl rfl rfl (pc' := 41) rfl ?_
        refine T_op zk_128_41 rfl X_add (pc' := 42) rfl ?_
        refine G_iald (lo := -2147483648) (hi := 2147483647) (ln := 646) zk_128_42 rfl rfl (vd_36 (by omega)) (by omega) (by omega) (by omega) (fun σ' h => h.1.1) (fun _ h => (by have q := h.1; omega)) (pc' := 43) rfl (fun y9 hy9 hy9' => ?_)
        refine T_st (L' := [(0, av 35 0 0), (1, iv p0), (2, iv p1), (3, iv y9)]) zk_128_43 (nL := 4) rfl rfl rfl rfl rfl (pc' := 44) rfl ?_
        refine T_ld zk_128_44 rfl rfl rfl (pc' := 45) rfl ?_
        refine T_getR (t' := 36) (i' := 0) (k' := 0) zk_128_45 rfl rfl rfl vd_35 (pc' := 48) rfl ?_
        refine T_op zk_128_48 rfl (X_bi (v := 25) (by decide)) (pc' := 50) rfl ?_
        refine T_ld zk_128_50 rfl rfl rfl (pc' := 51) rfl ?_
        refine T_op zk_128_51 rfl X_add (pc' := 52) rfl ?_
        refine T_ld zk_128_52 rfl rfl rfl (pc' := 53) rfl ?_
        refine G_iast (J' := (fun σ' => IF (MK 25 50 645 646) σ σ' ∧ True)) (ln := 646) zk_128_53 rfl rfl (vd_36 (by omega)) (by omega) (by omega) (by omega) (fun σ' h => ⟨h.1.up (by simp only [rgP] <;> omega) (by first | exact pMK rfl | (unfold MK; omega)), trivial⟩) (pc' := 54) rfl ?_
        refine T_ld zk_128_54 rfl rfl rfl (pc' := 55) rfl ?_
        refine T_getR (t' := 36) (i' := 0) (k' := 0) zk_128_55 rfl rfl rfl vd_35 (pc' := 58) rfl ?_
        refine T_op zk_128_58 rfl (X_si (v := 645) (by decide)) (pc' := 61) rfl ?_
        refine T_op (st' := [iv 645, av 36 0 0, iv 645, av 36 0 0]) zk_128_61 rfl rfl (pc' := 62) rfl ?_
        refine G_iald (lo := -2147483648) (hi := 2147483647) (ln := 646) zk_128_62 rfl rfl (vd_36 (by omega)) (by omega) (by omega) (by omega) (fun σ' h => h.1.1) (fun _ h => (by have q := h.1; omega)) (pc' := 63) rfl (fun y10 hy10 hy10' => ?_)
        refine T_ld zk_128_63 rfl rfl rfl (pc' := 64) rfl ?_
        refine T_ld zk_128_64 rfl rfl rfl (pc' := 65) rfl ?_
        refine G_unk zk_128_65 rfl (pc' := 66) rfl (fun y11 hy11 hy11' => ?_)
        refine G_unk zk_128_66 rfl (pc' := 67) rfl (fun y12 hy12 hy12' => ?_)
        refine G_iast (J' := (fun σ' => IF (MK 25 50 645 646) σ σ' ∧ True)) (ln := 646) zk_128_67 rfl rfl (vd_36 (by omega)) (by omega) (by omega) (by omega) (fun σ' h => ⟨h.1.up (by simp only [rgP] <;> omega) (by first | exact pMK rfl | (unfold MK; omega)), trivial⟩) (pc' := 68) rfl ?_
        refine T_ld zk_128_68 rfl rfl rfl (pc' := 69) rfl ?_
        exact T_iret zk_128_69 rfl (fun σ' h => ⟨_, rfl, (by omega), h.1, trivial⟩)
      ·
        refine T_ld zk_128_27 rfl rfl rfl (pc' := 28) rfl ?_
        refine T_op zk_128_28 rfl (X_bi (v := -6) (by decide)) (pc' := 30) rfl ?_
        refine T_calli (K := fun y13 σ' => (y13 = (-6)) ∧ (fun σ' => IF (MK 25 50 645 646) σ σ' ∧ True) σ') (r := []) zk_128_30 rfl rfl rfl rfl rfl rfl (Or.inr ⟨_, _, _, _, rfl, vd_35, rfl⟩) (fun σ' h => (m_123 ((-6)) (by omega) σ' h.1.1 ).le (Nat.le_of_ble_eq_true rfl) (fun v σ2 ⟨y, h1, h2, h3, h4⟩ => ⟨y, h1, h2, h.1.tr h3 sb61_d88faf5, trivial⟩)) (pc' := 33) rfl (fun y13 => ?_)
        refine G_ex (fun hy13 => ?_)
        obtain rfl : y13 = (-6) := by omega
        exact T_iret zk_128_33 rfl (fun σ' h => ⟨_, rfl, (by omega), h.1, trivial⟩)
  ·
    refine T_ld zk_128_7 rfl rfl rfl (pc' := 8) rfl ?_
    refine T_op zk_128_8 rfl X_ic (pc' := 9) rfl ?_
    refine T_calli (K := fun y14 σ' => (y14 = (-1)) ∧ (fun σ' => IF (MK 25 50 645 646) σ σ' ∧ True) σ') (r := []) zk_128_9 rfl rfl rfl rfl rfl rfl (Or.inr ⟨_, _, _, _, rfl, vd_35, rfl⟩) (fun σ' h => (m_123 ((-1)) (by omega) σ' h.1.1 ).le (Nat.le_of_ble_eq_true rfl) (fun v σ2 ⟨y, h1, h2, h3, h4⟩ => ⟨y, h1, h2, h.1.tr h3 sb61_d88faf5, trivial⟩)) (pc' := 12) rfl (fun y14 => ?_)
    refine G_ex (fun hy14 => ?_)
    obtain rfl : y14 = (-1) := by omega
    exact T_iret zk_128_12 rfl (fun σ' h => ⟨_, rfl, (by omega), h.1, trivial⟩)
theorem sb61_0fd356f : ∀ t i k j, MT 49 49 49 49 t i k j → MJ 100 150 t i k j := by
  intro t i k j h
  unfold MT at h
  unfold MJ
  omega
/-- WModel.close -/
theorem m_130 {xs : Nat × (Nat → Int32)} (p0 : Int) (p1 : Int) (p2 : Int) (hp0 : -2147483648 ≤ p0 ∧ p0 ≤ 2147483647) (hp1 : -2147483648 ≤ p1 ∧ p1 ≤ 2147483647) (hp2 : 0 ≤ p2 ∧ p2 ≤ 1) (σ : ZS) (hI : Inv σ)   : CT xs 3 130 [av 35 0 0, iv p0, iv p1, iv p2] σ (fun v σ' => ∃ y, v = some (iv y) ∧ (-2147483648 ≤ y ∧ y ≤ 2147483647) ∧ IF (MJ 100 150) σ σ' ∧ (True)) := by
  refine G_ct (J := (fun σ' => IF (MJ 100 150) σ σ' ∧ True)) (L := [(0, av 35 0 0), (1, iv p0), (2, iv p1), (3, iv p2)]) (nL := 5) rfl rfl rfl ⟨IF.rf hI, trivial⟩ ?_
  refine T_ld zk_130_0 rfl rfl rfl (pc' := 1) rfl ?_
  refine T_ld zk_130_1 rfl rfl rfl (pc' := 2) rfl ?_
  refine T_calli (K := fun y1 σ' => ((y1 = -1 ∧ ¬ (0 ≤ p0 ∧ p0 ≤ 24 ∧ 0 ≤ p1 ∧ p1 ≤ 24 ∧ (p1 = p0 + 5 ∨ p0 = p1 + 5 ∨ (p1 = p0 + 1 ∧ p0 % 5 < 4) ∨ (p0 = p1 + 1 ∧ p1 % 5 < 4)))) ∨ (0 ≤ y1 ∧ y1 ≤ 49 ∧ (0 ≤ p0 ∧ p0 ≤ 24 ∧ 0 ≤ p1 ∧ p1 ≤ 24 ∧ (p1 = p0 + 5 ∨ p0 = p1 + 5 ∨ (p1 = p0 + 1 ∧ p0 % 5 < 4) ∨ (p0 = p1 + 1 ∧ p1 % 5 < 4))))) ∧ (fun σ' => IF (MJ 100 150) σ σ' ∧ True) σ') (r := []) zk_130_2 rfl rfl rfl rfl rfl rfl (Or.inl (Or.inl rfl)) (fun σ' h => (m_126 p0 p1 (by omega) (by omega) σ' h.1.1 ).le (Nat.le_of_ble_eq_true rfl) (fun v σ2 ⟨y, h1, h2, h3, h4⟩ => ⟨y, h1, h2, h.1.tr h3 MN_sub, trivial⟩)) (pc' := 5) rfl (fun y1 => ?_)
  refine G_ex (fun hy1 => ?_)
  refine T_st (L' := [(0, av 35 0 0), (1, iv p0), (2, iv p1), (3, iv p2), (4, iv y1)]) zk_130_5 (nL := 5) rfl rfl rfl rfl rfl (pc' := 7) rfl ?_
  refine T_ld zk_130_7 rfl rfl rfl (pc' := 9) rfl ?_
  refine T_op zk_130_9 rfl X_ic (pc' := 10) rfl ?_
  refine T_icmp_ne zk_130_10 (by omega) (by omega) (pc' := 13) rfl (fun h2 => ?_) (fun h3 => ?_)
  ·
    refine T_ld zk_130_21 rfl rfl rfl (pc' := 22) rfl ?_
    refine T_op zk_130_22 rfl (X_bi (v := 100) (by decide)) (pc' := 24) rfl ?_
    refine T_ld zk_130_24 rfl rfl rfl (pc' := 26) rfl ?_
    refine T_op zk_130_26 rfl X_add (pc' := 27) rfl ?_
    refine T_ld zk_130_27 rfl rfl rfl (pc' := 28) rfl ?_
    refine T_calli (K := fun y4 σ' => (y4 = 0 ∨ y4 = 1) ∧ (fun σ' => IF (MJ 100 150) σ σ' ∧ True) σ') (r := []) zk_130_28 rfl rfl rfl rfl rfl rfl (Or.inr ⟨_, _, _, _, rfl, vd_35, rfl⟩) (fun σ' h => (m_129_100 (100 + y1) p2 (by omega) (by omega) σ' h.1.1 ).le (Nat.le_of_ble_eq_true rfl) (fun v σ2 ⟨y, h1, h2, h3, h4⟩ => ⟨y, h1, h2, h.1.tr h3 (fun _ _ _ _ h => h), trivial⟩)) (pc' := 31) rfl (fun y4 => ?_)
    refine G_ex (fun hy4 => ?_)
    exact T_iret zk_130_31 rfl (fun σ' h => ⟨_, rfl, (by omega), h.1, trivial⟩)
  ·
    refine T_ld zk_130_13 rfl rfl rfl (pc' := 14) rfl ?_
    refine T_op zk_130_14 rfl X_ic (pc' := 15) rfl ?_
    refine T_calli (K := fun y5 σ' => (y5 = (-1)) ∧ (fun σ' => IF (MJ 100 150) σ σ' ∧ True) σ') (r := []) zk_130_15 rfl rfl rfl rfl rfl rfl (Or.inr ⟨_, _, _, _, rfl, vd_35, rfl⟩) (fun σ' h => (m_123 ((-1)) (by omega) σ' h.1.1 ).le (Nat.le_of_ble_eq_true rfl) (fun v σ2 ⟨y, h1, h2, h3, h4⟩ => ⟨y, h1, h2, h.1.tr h3 sb61_0fd356f, trivial⟩)) (pc' := 18) rfl (fun y5 => ?_)
    refine G_ex (fun hy5 => ?_)
    obtain rfl : y5 = (-1) := by omega
    refine T_goto zk_130_18 ?_
    exact T_iret zk_130_31 rfl (fun σ' h => ⟨_, rfl, (by omega), h.1, trivial⟩)
theorem sb61_1bd2fb6 : ∀ t i k j, MT 49 49 49 49 t i k j → MJ 150 200 t i k j := by
  intro t i k j h
  unfold MT at h
  unfold MJ
  omega
/-- WModel.narrow -/
theorem m_131 {xs : Nat × (Nat → Int32)} (p0 : Int) (p1 : Int) (p2 : Int) (hp0 : -2147483648 ≤ p0 ∧ p0 ≤ 2147483647) (hp1 : -2147483648 ≤ p1 ∧ p1 ≤ 2147483647) (hp2 : 0 ≤ p2 ∧ p2 ≤ 1) (σ : ZS) (hI : Inv σ)   : CT xs 3 131 [av 35 0 0, iv p0, iv p1, iv p2] σ (fun v σ' => ∃ y, v = some (iv y) ∧ (-2147483648 ≤ y ∧ y ≤ 2147483647) ∧ IF (MJ 150 200) σ σ' ∧ (True)) := by
  refine G_ct (J := (fun σ' => IF (MJ 150 200) σ σ' ∧ True)) (L := [(0, av 35 0 0), (1, iv p0), (2, iv p1), (3, iv p2)]) (nL := 5) rfl rfl rfl ⟨IF.rf hI, trivial⟩ ?_
  refine T_ld zk_131_0 rfl rfl rfl (pc' := 1) rfl ?_
  refine T_ld zk_131_1 rfl rfl rfl (pc' := 2) rfl ?_
  refine T_calli (K := fun y1 σ' => ((y1 = -1 ∧ ¬ (0 ≤ p0 ∧ p0 ≤ 24 ∧ 0 ≤ p1 ∧ p1 ≤ 24 ∧ (p1 = p0 + 5 ∨ p0 = p1 + 5 ∨ (p1 = p0 + 1 ∧ p0 % 5 < 4) ∨ (p0 = p1 + 1 ∧ p1 % 5 < 4)))) ∨ (0 ≤ y1 ∧ y1 ≤ 49 ∧ (0 ≤ p0 ∧ p0 ≤ 24 ∧ 0 ≤ p1 ∧ p1 ≤ 24 ∧ (p1 = p0 + 5 ∨ p0 = p1 + 5 ∨ (p1 = p0 + 1 ∧ p0 % 5 < 4) ∨ (p0 = p1 + 1 ∧ p1 % 5 < 4))))) ∧ (fun σ' => IF (MJ 150 200) σ σ' ∧ True) σ') (r := []) zk_131_2 rfl rfl rfl rfl rfl rfl (Or.inl (Or.inl rfl)) (fun σ' h => (m_126 p0 p1 (by omega) (by omega) σ' h.1.1 ).le (Nat.le_of_ble_eq_true rfl) (fun v σ2 ⟨y, h1, h2, h3, h4⟩ => ⟨y, h1, h2, h.1.tr h3 MN_sub, trivial⟩)) (pc' := 5) rfl (fun y1 => ?_)
  refine G_ex (fun hy1 => ?_)
  refine T_st (L' := [(0, av 35 0 0), (1, iv p0), (2, iv p1), (3, iv p2), (4, iv y1)]) zk_131_5 (nL := 5) rfl rfl rfl rfl rfl (pc' := 7) rfl ?_
  refine T_ld zk_131_7 rfl rfl rfl (pc' := 9) rfl ?_
  refine T_op zk_131_9 rfl X_ic (pc' := 10) rfl ?_
  refine T_icmp_ne zk_131_10 (by omega) (by omega) (pc' := 13) rfl (fun h2 => ?_) (fun h3 => ?_)
  ·
    refine T_ld zk_131_21 rfl rfl rfl (pc' := 22) rfl ?_
    refine T_op zk_131_22 rfl (X_si (v := 150) (by decide)) (pc' := 25) rfl ?_
    refine T_ld zk_131_25 rfl rfl rfl (pc' := 27) rfl ?_
    refine T_op zk_131_27 rfl X_add (pc' := 28) rfl ?_
    refine T_ld zk_131_28 rfl rfl rfl (pc' := 29) rfl ?_
    refine T_calli (K := fun y4 σ' => (y4 = 0 ∨ y4 = 1) ∧ (fun σ' => IF (MJ 150 200) σ σ' ∧ True) σ') (r := []) zk_131_29 rfl rfl rfl rfl rfl rfl (Or.inr ⟨_, _, _, _, rfl, vd_35, rfl⟩) (fun σ' h => (m_129_150 (150 + y1) p2 (by omega) (by omega) σ' h.1.1 ).le (Nat.le_of_ble_eq_true rfl) (fun v σ2 ⟨y, h1, h2, h3, h4⟩ => ⟨y, h1, h2, h.1.tr h3 (fun _ _ _ _ h => h), trivial⟩)) (pc' := 32) rfl (fun y4 => ?_)
    refine G_ex (fun hy4 => ?_)
    exact T_iret zk_131_32 rfl (fun σ' h => ⟨_, rfl, (by omega), h.1, trivial⟩)
  ·
    refine T_ld zk_131_13 rfl rfl rfl (pc' := 14) rfl ?_
    refine T_op zk_131_14 rfl X_ic (pc' := 15) rfl ?_
    refine T_calli (K := fun y5 σ' => (y5 = (-1)) ∧ (fun σ' => IF (MJ 150 200) σ σ' ∧ True) σ') (r := []) zk_131_15 rfl rfl rfl rfl rfl rfl (Or.inr ⟨_, _, _, _, rfl, vd_35, rfl⟩) (fun σ' h => (m_123 ((-1)) (by omega) σ' h.1.1 ).le (Nat.le_of_ble_eq_true rfl) (fun v σ2 ⟨y, h1, h2, h3, h4⟩ => ⟨y, h1, h2, h.1.tr h3 sb61_1bd2fb6, trivial⟩)) (pc' := 18) rfl (fun y5 => ?_)
    refine G_ex (fun hy5 => ?_)
    obtain rfl : y5 = (-1) := by omega
    refine T_goto zk_131_18 ?_
    exact T_iret zk_131_32 rfl (fun σ' h => ⟨_, rfl, (by omega), h.1, trivial⟩)
theorem sb61_b9f21ac : ∀ t i k j, MT 49 49 49 49 t i k j → MJ 200 250 t i k j := by
  intro t i k j h
  unfold MT at h
  unfold MJ
  omega
/-- WModel.bridge -/
theorem m_132 {xs : Nat × (Nat → Int32)} (p0 : Int) (p1 : Int) (p2 : Int) (hp0 : -2147483648 ≤ p0 ∧ p0 ≤ 2147483647) (hp1 : -2147483648 ≤ p1 ∧ p1 ≤ 2147483647) (hp2 : -2147483648 ≤ p2 ∧ p2 ≤ 2147483647) (σ : ZS) (hI : Inv σ)   : CT xs 3 132 [av 35 0 0, iv p0, iv p1, iv p2] σ (fun v σ' => ∃ y, v = some (iv y) ∧ (-2147483648 ≤ y ∧ y ≤ 2147483647) ∧ IF (MJ 200 250) σ σ' ∧ (True)) := by
  refine G_ct (J := (fun σ' => IF (MJ 200 250) σ σ' ∧ True)) (L := [(0, av 35 0 0), (1, iv p0), (2, iv p1), (3, iv p2)]) (nL := 6) rfl rfl rfl ⟨IF.rf hI, trivial⟩ ?_
  refine T_ld zk_132_0 rfl rfl rfl (pc' := 1) rfl ?_
  refine T_ld zk_132_1 rfl rfl rfl (pc' := 2) rfl ?_
  refine T_calli (K := fun y1 σ' => ((y1 = -1 ∧ ¬ (0 ≤ p0 ∧ p0 ≤ 24 ∧ 0 ≤ p1 ∧ p1 ≤ 24 ∧ (p1 = p0 + 5 ∨ p0 = p1 + 5 ∨ (p1 = p0 + 1 ∧ p0 % 5 < 4) ∨ (p0 = p1 + 1 ∧ p1 % 5 < 4)))) ∨ (0 ≤ y1 ∧ y1 ≤ 49 ∧ (0 ≤ p0 ∧ p0 ≤ 24 ∧ 0 ≤ p1 ∧ p1 ≤ 24 ∧ (p1 = p0 + 5 ∨ p0 = p1 + 5 ∨ (p1 = p0 + 1 ∧ p0 % 5 < 4) ∨ (p0 = p1 + 1 ∧ p1 % 5 < 4))))) ∧ (fun σ' => IF (MJ 200 250) σ σ' ∧ True) σ') (r := []) zk_132_2 rfl rfl rfl rfl rfl rfl (Or.inl (Or.inl rfl)) (fun σ' h => (m_126 p0 p1 (by omega) (by omega) σ' h.1.1 ).le (Nat.le_of_ble_eq_true rfl) (fun v σ2 ⟨y, h1, h2, h3, h4⟩ => ⟨y, h1, h2, h.1.tr h3 MN_sub, trivial⟩)) (pc' := 5) rfl (fun y1 => ?_)
  refine G_ex (fun hy1 => ?_)
  refine T_st (L' := [(0, av 35 0 0), (1, iv p0), (2, iv p1), (3, iv p2), (4, iv y1)]) zk_132_5 (nL := 6) rfl rfl rfl rfl rfl (pc' := 7) rfl ?_
  refine T_ld zk_132_7 rfl rfl rfl (pc' := 9) rfl ?_
  refine T_op zk_132_9 rfl X_ic (pc' := 10) rfl ?_
  refine T_icmp_ne zk_132_10 (by omega) (by omega) (pc' := 13) rfl (fun h2 => ?_) (fun h3 => ?_)
  ·
    refine T_ld zk_132_19 rfl rfl rfl (pc' := 20) rfl ?_
    refine T_op zk_132_20 rfl X_ic (pc' := 21) rfl ?_
    refine T_icmp_lt zk_132_21 (by omega) (by omega) (pc' := 24) rfl (fun h4 => ?_) (fun h5 => ?_)
    ·
      refine T_ld zk_132_30 rfl rfl rfl (pc' := 31) rfl ?_
      refine T_op zk_132_31 rfl (X_bi (v := -6) (by decide)) (pc' := 33) rfl ?_
      refine T_calli (K := fun y6 σ' => (y6 = (-6)) ∧ (fun σ' => IF (MJ 200 250) σ σ' ∧ True) σ') (r := []) zk_132_33 rfl rfl rfl rfl rfl rfl (Or.inr ⟨_, _, _, _, rfl, vd_35, rfl⟩) (fun σ' h => (m_123 ((-6)) (by omega) σ' h.1.1 ).le (Nat.le_of_ble_eq_true rfl) (fun v σ2 ⟨y, h1, h2, h3, h4⟩ => ⟨y, h1, h2, h.1.tr h3 sb61_b9f21ac, trivial⟩)) (pc' := 36) rfl (fun y6 => ?_)
      refine G_ex (fun hy6 => ?_)
      obtain rfl : y6 = (-6) := by omega
      exact T_iret zk_132_36 rfl (fun σ' h => ⟨_, rfl, (by omega), h.1, trivial⟩)
    ·
      refine T_ld zk_132_24 rfl rfl rfl (pc' := 25) rfl ?_
      refine T_op zk_132_25 rfl (X_bi (v := 99) (by decide)) (pc' := 27) rfl ?_
      refine T_icmp_le zk_132_27 (by omega) (by omega) (pc' := 30) rfl (fun h7 => ?_) (fun h8 => ?_)
      ·
        refine T_ld zk_132_37 rfl rfl rfl (pc' := 38) rfl ?_
        refine T_getR (t' := 36) (i' := 0) (k' := 0) zk_132_38 rfl rfl rfl vd_35 (pc' := 41) rfl ?_
        refine T_op zk_132_41 rfl (X_si (v := 200) (by decide)) (pc' := 44) rfl ?_
        refine T_ld zk_132_44 rfl rfl rfl (pc' := 46) rfl ?_
        refine T_op zk_132_46 rfl X_add (pc' := 47) rfl ?_
        refine G_iald (lo := -2147483648) (hi := 2147483647) (ln := 646) zk_132_47 rfl rfl (vd_36 (by omega)) (by omega) (by omega) (by omega) (fun σ' h => h.1.1) (fun _ h => (by have q := h.1; omega)) (pc' := 48) rfl (fun y9 hy9 hy9' => ?_)
        refine T_st (L' := [(0, av 35 0 0), (1, iv p0), (2, iv p1), (3, iv p2), (4, iv y1), (5, iv y9)]) zk_132_48 (nL := 6) rfl rfl rfl rfl rfl (pc' := 50) rfl ?_
        refine T_ld zk_132_50 rfl rfl rfl (pc' := 51) rfl ?_
        refine T_getR (t' := 36) (i' := 0) (k' := 0) zk_132_51 rfl rfl rfl vd_35 (pc' := 54) rfl ?_
        refine T_op zk_132_54 rfl (X_si (v := 200) (by decide)) (pc' := 57) rfl ?_
        refine T_ld zk_132_57 rfl rfl rfl (pc' := 59) rfl ?_
        refine T_op zk_132_59 rfl X_add (pc' := 60) rfl ?_
        refine T_ld zk_132_60 rfl rfl rfl (pc' := 61) rfl ?_
        refine G_iast (J' := (fun σ' => IF (MJ 200 250) σ σ' ∧ True)) (ln := 646) zk_132_61 rfl rfl (vd_36 (by omega)) (by omega) (by omega) (by omega) (fun σ' h => ⟨h.1.up (by simp only [rgP] <;> omega) (by first | exact pMJ rfl | (unfold MJ; omega)), trivial⟩) (pc' := 62) rfl ?_
        refine T_ld zk_132_62 rfl rfl rfl (pc' := 64) rfl ?_
        exact T_iret zk_132_64 rfl (fun σ' h => ⟨_, rfl, (by omega), h.1, trivial⟩)
      ·
        refine T_ld zk_132_30 rfl rfl rfl (pc' := 31) rfl ?_
        refine T_op zk_132_31 rfl (X_bi (v := -6) (by decide)) (pc' := 33) rfl ?_
        refine T_calli (K := fun y10 σ' => (y10 = (-6)) ∧ (fun σ' => IF (MJ 200 250) σ σ' ∧ True) σ') (r := []) zk_132_33 rfl rfl rfl rfl rfl rfl (Or.inr ⟨_, _, _, _, rfl, vd_35, rfl⟩) (fun σ' h => (m_123 ((-6)) (by omega) σ' h.1.1 ).le (Nat.le_of_ble_eq_true rfl) (fun v σ2 ⟨y, h1, h2, h3, h4⟩ => ⟨y, h1, h2, h.1.tr h3 sb61_b9f21ac, trivial⟩)) (pc' := 36) rfl (fun y10 => ?_)
        refine G_ex (fun hy10 => ?_)
        obtain rfl : y10 = (-6) := by omega
        exact T_iret zk_132_36 rfl (fun σ' h => ⟨_, rfl, (by omega), h.1, trivial⟩)
  ·
    refine T_ld zk_132_13 rfl rfl rfl (pc' := 14) rfl ?_
    refine T_op zk_132_14 rfl X_ic (pc' := 15) rfl ?_
    refine T_calli (K := fun y11 σ' => (y11 = (-1)) ∧ (fun σ' => IF (MJ 200 250) σ σ' ∧ True) σ') (r := []) zk_132_15 rfl rfl rfl rfl rfl rfl (Or.inr ⟨_, _, _, _, rfl, vd_35, rfl⟩) (fun σ' h => (m_123 ((-1)) (by omega) σ' h.1.1 ).le (Nat.le_of_ble_eq_true rfl) (fun v σ2 ⟨y, h1, h2, h3, h4⟩ => ⟨y, h1, h2, h.1.tr h3 sb61_b9f21ac, trivial⟩)) (pc' := 18) rfl (fun y11 => ?_)
    refine G_ex (fun hy11 => ?_)
    obtain rfl : y11 = (-1) := by omega
    exact T_iret zk_132_18 rfl (fun σ' h => ⟨_, rfl, (by omega), h.1, trivial⟩)
theorem sb61_d26300f : ∀ t i k j, MT 49 49 49 49 t i k j → MK 250 256 633 634 t i k j := by
  intro t i k j h
  unfold MT at h
  unfold MK
  omega
/-- WModel.mouth -/
theorem m_133 {xs : Nat × (Nat → Int32)} (p0 : Int) (hp0 : -2147483648 ≤ p0 ∧ p0 ≤ 2147483647) (σ : ZS) (hI : Inv σ)   : CT xs 2 133 [av 35 0 0, iv p0] σ (fun v σ' => ∃ y, v = some (iv y) ∧ (-2147483648 ≤ y ∧ y ≤ 2147483647) ∧ IF (MK 250 256 633 634) σ σ' ∧ (True)) := by
  refine G_ct (J := (fun σ' => IF (MK 250 256 633 634) σ σ' ∧ True)) (L := [(0, av 35 0 0), (1, iv p0)]) (nL := 3) rfl rfl rfl ⟨IF.rf hI, trivial⟩ ?_
  refine T_ld zk_133_0 rfl rfl rfl (pc' := 1) rfl ?_
  refine T_calli (K := fun y1 σ' => ((y1 = 0 ∧ (p0 < 0 ∨ 24 < p0)) ∨ (y1 = 1 ∧ 0 ≤ p0 ∧ p0 ≤ 24)) ∧ (fun σ' => IF (MK 250 256 633 634) σ σ' ∧ True) σ') (r := []) zk_133_1 rfl rfl rfl rfl rfl rfl (Or.inl (Or.inl rfl)) (fun σ' h => (m_124 p0 (by omega) σ' h.1.1 ).le (Nat.le_of_ble_eq_true rfl) (fun v σ2 ⟨y, h1, h2, h3, h4⟩ => ⟨y, h1, h2, h.1.tr h3 MN_sub, trivial⟩)) (pc' := 4) rfl (fun y1 => ?_)
  refine G_ex (fun hy1 => ?_)
  refine T_if_ne zk_133_4 (by omega) (pc' := 7) rfl (fun h2 => ?_) (fun h3 => ?_)
  ·
    refine T_op zk_133_13 rfl X_ic (pc' := 14) rfl ?_
    refine T_st (L' := [(0, av 35 0 0), (1, iv p0), (2, iv 0)]) zk_133_14 (nL := 3) rfl rfl rfl rfl rfl (pc' := 15) rfl ?_
    refine T_loop1 (fun x4 => ((3 - x4 : Int)).toNat) (fun x4 => (0 ≤ x4 ∧ x4 ≤ 3)) (fun x4 => TJ xs (fun σ' => IF (MK 250 256 633 634) σ σ' ∧ True) 1 133 15 [(0, av 35 0 0), (1, iv p0), (2, iv x4)] [] _) ?_ 0 (by omega)
    intro x4 hp6 ih5
    refine T_ld zk_133_15 rfl rfl rfl (pc' := 16) rfl ?_
    refine T_ld zk_133_16 rfl rfl rfl (pc' := 17) rfl ?_
    refine T_getR (t' := 36) (i' := 0) (k' := 0) zk_133_17 rfl rfl rfl vd_35 (pc' := 20) rfl ?_
    refine T_op zk_133_20 rfl (X_si (v := 633) (by decide)) (pc' := 23) rfl ?_
    refine G_learn (t := 36) (i := 0) (k := 0) (j := 633) (lo := 0) (hi := 3) (J2 := fun y7 => (fun σ' => IF (MK 250 256 633 634) σ σ' ∧ σ' 36 0 0 633 = y7 ∧ True)) (vd_36 (by omega)) (fun σ' h => h.1.1) (fun _ h => h.2.2.2.2.2.1 (by omega) (by omega)) (fun σ' y h hy => ⟨h.1, hy, trivial⟩) (fun y7 hy7 hy7' => ?_)
    refine G_ialdX (w := y7) (ln := 646) zk_133_23 rfl rfl (vd_36 (by omega)) (by omega) (by omega) (by omega) (fun σ' h => h.2.1) (pc' := 24) rfl ?_
    refine T_icmp_ge zk_133_24 (by omega) (by omega) (pc' := 27) rfl (fun h8 => ?_) (fun h9 => ?_)
    ·
      refine T_ld zk_133_54 rfl rfl rfl (pc' := 55) rfl ?_
      refine T_getR (t' := 36) (i' := 0) (k' := 0) zk_133_55 rfl rfl rfl vd_35 (pc' := 58) rfl ?_
      refine T_op zk_133_58 rfl (X_si (v := 633) (by decide)) (pc' := 61) rfl ?_
      refine G_ialdX (w := y7) (ln := 646) zk_133_61 rfl rfl (vd_36 (by omega)) (by omega) (by omega) (by omega) (fun σ' h => h.2.1) (pc' := 62) rfl ?_
      refine T_op zk_133_62 rfl X_ic (pc' := 63) rfl ?_
      refine T_icmp_ne zk_133_63 (by omega) (by omega) (pc' := 66) rfl (fun h10 => ?_) (fun h11 => ?_)
      ·
        refine T_ld zk_133_73 rfl rfl rfl (pc' := 74) rfl ?_
        refine T_getR (t' := 36) (i' := 0) (k' := 0) zk_133_74 rfl rfl rfl vd_35 (pc' := 77) rfl ?_
        refine T_op zk_133_77 rfl (X_si (v := 250) (by decide)) (pc' := 80) rfl ?_
        refine T_ld zk_133_80 rfl rfl rfl (pc' := 81) rfl ?_
        refine T_getR (t' := 36) (i' := 0) (k' := 0) zk_133_81 rfl rfl rfl vd_35 (pc' := 84) rfl ?_
        refine T_op zk_133_84 rfl (X_si (v := 633) (by decide)) (pc' := 87) rfl ?_
        refine G_ialdX (w := y7) (ln := 646) zk_133_87 rfl rfl (vd_36 (by omega)) (by omega) (by omega) (by omega) (fun σ' h => h.2.1) (pc' := 88) rfl ?_
        refine T_op zk_133_88 rfl X_add (pc' := 89) rfl ?_
        refine T_ld zk_133_89 rfl rfl rfl (pc' := 90) rfl ?_
        refine G_iast (J' := (fun σ' => IF (MK 250 256 633 634) σ σ' ∧ σ' 36 0 0 633 = y7 ∧ True)) (ln := 646) zk_133_90 rfl rfl (vd_36 (by omega)) (by omega) (by omega) (by omega) (fun σ' h => ⟨h.1.up (by simp only [rgP] <;> omega) (by first | exact pMK rfl | (unfold MK; omega)), (up_ne (by omega)).trans (h.2.1), trivial⟩) (pc' := 91) rfl ?_
        refine T_ld zk_133_91 rfl rfl rfl (pc' := 92) rfl ?_
        refine T_getR (t' := 36) (i' := 0) (k' := 0) zk_133_92 rfl rfl rfl vd_35 (pc' := 95) rfl ?_
        refine T_op zk_133_95 rfl (X_si (v := 253) (by decide)) (pc' := 98) rfl ?_
        refine T_ld zk_133_98 rfl rfl rfl (pc' := 99) rfl ?_
        refine T_getR (t' := 36) (i' := 0) (k' := 0) zk_133_99 rfl rfl rfl vd_35 (pc' := 102) rfl ?_
        refine T_op zk_133_102 rfl (X_si (v := 633) (by decide)) (pc' := 105) rfl ?_
        refine G_ialdX (w := y7) (ln := 646) zk_133_105 rfl rfl (vd_36 (by omega)) (by omega) (by omega) (by omega) (fun σ' h => h.2.1) (pc' := 106) rfl ?_
        refine T_op zk_133_106 rfl X_add (pc' := 107) rfl ?_
        refine T_op zk_133_107 rfl X_ic (pc' := 108) rfl ?_
        refine G_iast (J' := (fun σ' => IF (MK 250 256 633 634) σ σ' ∧ σ' 36 0 0 633 = y7 ∧ True)) (ln := 646) zk_133_108 rfl rfl (vd_36 (by omega)) (by omega) (by omega) (by omega) (fun σ' h => ⟨h.1.up (by simp only [rgP] <;> omega) (by first | exact pMK rfl | (unfold MK; omega)), (up_ne (by omega)).trans (h.2.1), trivial⟩) (pc' := 109) rfl ?_
        refine T_ld zk_133_109 rfl rfl rfl (pc' := 110) rfl ?_
        refine T_getR (t' := 36) (i' := 0) (k' := 0) zk_133_110 rfl rfl rfl vd_35 (pc' := 113) rfl ?_
        refine T_op zk_133_113 rfl (X_si (v := 633) (by decide)) (pc' := 116) rfl ?_
        refine T_op (st' := [iv 633, av 36 0 0, iv 633, av 36 0 0]) zk_133_116 rfl rfl (pc' := 117) rfl ?_
        refine G_ialdX (w := y7) (ln := 646) zk_133_117 rfl rfl (vd_36 (by omega)) (by omega) (by omega) (by omega) (fun σ' h => h.2.1) (pc' := 118) rfl ?_
        refine T_op (st' := [iv y7, iv 633, av 36 0 0, iv y7]) zk_133_118 rfl rfl (pc' := 119) rfl ?_
        refine T_op zk_133_119 rfl X_ic (pc' := 120) rfl ?_
        refine T_op zk_133_120 rfl X_add (pc' := 121) rfl ?_
        refine G_iast (J' := (fun σ' => IF (MK 250 256 633 634) σ σ' ∧ True)) (ln := 646) zk_133_121 rfl rfl (vd_36 (by omega)) (by omega) (by omega) (by omega) (fun σ' h => ⟨h.1.up (by simp only [rgP] <;> omega) (by first | exact pMK rfl | (unfold MK; omega)), trivial⟩) (pc' := 122) rfl ?_
        exact T_iret zk_133_122 rfl (fun σ' h => ⟨_, rfl, (by omega), h.1, trivial⟩)
      ·
        refine T_ld zk_133_66 rfl rfl rfl (pc' := 67) rfl ?_
        refine T_op zk_133_67 rfl (X_bi (v := -7) (by decide)) (pc' := 69) rfl ?_
        refine T_calli (K := fun y12 σ' => (y12 = (-7)) ∧ (fun σ' => IF (MK 250 256 633 634) σ σ' ∧ σ' 36 0 0 633 = y7 ∧ True) σ') (r := []) zk_133_69 rfl rfl rfl rfl rfl rfl (Or.inr ⟨_, _, _, _, rfl, vd_35, rfl⟩) (fun σ' h => (m_123 ((-7)) (by omega) σ' h.1.1 ).le (Nat.le_of_ble_eq_true rfl) (fun v σ2 ⟨y, h1, h2, h3, h4⟩ => ⟨y, h1, h2, h.1.tr h3 sb61_d26300f, (h3.2 _ _ _ _ (by first | exact nMT rfl | (unfold MT; omega))).trans (h.2.1), trivial⟩)) (pc' := 72) rfl (fun y12 => ?_)
        refine G_ex (fun hy12 => ?_)
        obtain rfl : y12 = (-7) := by omega
        exact T_iret zk_133_72 rfl (fun σ' h => ⟨_, rfl, (by omega), h.1, trivial⟩)
    ·
      refine T_ld zk_133_27 rfl rfl rfl (pc' := 28) rfl ?_
      refine T_getR (t' := 36) (i' := 0) (k' := 0) zk_133_28 rfl rfl rfl vd_35 (pc' := 31) rfl ?_
      refine T_op zk_133_31 rfl (X_si (v := 250) (by decide)) (pc' := 34) rfl ?_
      refine T_ld zk_133_34 rfl rfl rfl (pc' := 35) rfl ?_
      refine T_op zk_133_35 rfl X_add (pc' := 36) rfl ?_
      refine G_iald (lo := 0) (hi := 24) (ln := 646) zk_133_36 rfl rfl (vd_36 (by omega)) (by omega) (by omega) (by omega) (fun σ' h => h.1.1) (fun _ h => h.2.1 (by omega) (by omega)) (pc' := 37) rfl (fun y13 hy13 hy13' => ?_)
      refine T_ld zk_133_37 rfl rfl rfl (pc' := 38) rfl ?_
      refine T_icmp_ne zk_133_38 (by omega) (by omega) (pc' := 41) rfl (fun h14 => ?_) (fun h15 => ?_)
      ·
        refine T_iinc (L' := [(0, av 35 0 0), (1, iv p0), (2, iv (x4 + 1))]) zk_133_48 (nL := 3) rfl rfl rfl rfl (pc' := 51) rfl ?_
        refine T_goto zk_133_51 ?_
        refine G_know (J' := (fun σ' => IF (MK 250 256 633 634) σ σ' ∧ True)) (fun σ' h => ⟨h.1, trivial⟩) ?_
        exact ih5 (x4 + 1) (by omega) (by omega)
      ·
        refine T_ld zk_133_41 rfl rfl rfl (pc' := 42) rfl ?_
        refine T_op zk_133_42 rfl (X_bi (v := -6) (by decide)) (pc' := 44) rfl ?_
        refine T_calli (K := fun y16 σ' => (y16 = (-6)) ∧ (fun σ' => IF (MK 250 256 633 634) σ σ' ∧ σ' 36 0 0 633 = y7 ∧ True) σ') (r := []) zk_133_44 rfl rfl rfl rfl rfl rfl (Or.inr ⟨_, _, _, _, rfl, vd_35, rfl⟩) (fun σ' h => (m_123 ((-6)) (by omega) σ' h.1.1 ).le (Nat.le_of_ble_eq_true rfl) (fun v σ2 ⟨y, h1, h2, h3, h4⟩ => ⟨y, h1, h2, h.1.tr h3 sb61_d26300f, (h3.2 _ _ _ _ (by first | exact nMT rfl | (unfold MT; omega))).trans (h.2.1), trivial⟩)) (pc' := 47) rfl (fun y16 => ?_)
        refine G_ex (fun hy16 => ?_)
        obtain rfl : y16 = (-6) := by omega
        exact T_iret zk_133_47 rfl (fun σ' h => ⟨_, rfl, (by omega), h.1, trivial⟩)
  ·
    refine T_ld zk_133_7 rfl rfl rfl (pc' := 8) rfl ?_
    refine T_op zk_133_8 rfl X_ic (pc' := 9) rfl ?_
    refine T_calli (K := fun y17 σ' => (y17 = (-1)) ∧ (fun σ' => IF (MK 250 256 633 634) σ σ' ∧ True) σ') (r := []) zk_133_9 rfl rfl rfl rfl rfl rfl (Or.inr ⟨_, _, _, _, rfl, vd_35, rfl⟩) (fun σ' h => (m_123 ((-1)) (by omega) σ' h.1.1 ).le (Nat.le_of_ble_eq_true rfl) (fun v σ2 ⟨y, h1, h2, h3, h4⟩ => ⟨y, h1, h2, h.1.tr h3 sb61_d26300f, trivial⟩)) (pc' := 12) rfl (fun y17 => ?_)
    refine G_ex (fun hy17 => ?_)
    obtain rfl : y17 = (-1) := by omega
    exact T_iret zk_133_12 rfl (fun σ' h => ⟨_, rfl, (by omega), h.1, trivial⟩)
theorem sb61_a644f12 : ∀ t i k j, MT 49 49 49 49 t i k j → MJ 253 256 t i k j := by
  intro t i k j h
  unfold MT at h
  unfold MJ
  omega
/-- WModel.gate -/
theorem m_134 {xs : Nat × (Nat → Int32)} (p0 : Int) (p1 : Int) (hp0 : -2147483648 ≤ p0 ∧ p0 ≤ 2147483647) (hp1 : 0 ≤ p1 ∧ p1 ≤ 1) (σ : ZS) (hI : Inv σ)   : CT xs 2 134 [av 35 0 0, iv p0, iv p1] σ (fun v σ' => ∃ y, v = some (iv y) ∧ (-2147483648 ≤ y ∧ y ≤ 2147483647) ∧ IF (MJ 253 256) σ σ' ∧ (True)) := by
  refine G_ct (J := (fun σ' => IF (MJ 253 256) σ σ' ∧ True)) (L := [(0, av 35 0 0), (1, iv p0), (2, iv p1)]) (nL := 3) rfl rfl rfl ⟨IF.rf hI, trivial⟩ ?_
  refine T_ld zk_134_0 rfl rfl rfl (pc' := 1) rfl ?_
  refine T_if_lt zk_134_1 (by omega) (pc' := 4) rfl (fun h1 => ?_) (fun h2 => ?_)
  ·
    refine T_ld zk_134_16 rfl rfl rfl (pc' := 17) rfl ?_
    refine T_op zk_134_17 rfl X_ic (pc' := 18) rfl ?_
    refine T_calli (K := fun y3 σ' => (y3 = (-1)) ∧ (fun σ' => IF (MJ 253 256) σ σ' ∧ True) σ') (r := []) zk_134_18 rfl rfl rfl rfl rfl rfl (Or.inr ⟨_, _, _, _, rfl, vd_35, rfl⟩) (fun σ' h => (m_123 ((-1)) (by omega) σ' h.1.1 ).le (Nat.le_of_ble_eq_true rfl) (fun v σ2 ⟨y, h1, h2, h3, h4⟩ => ⟨y, h1, h2, h.1.tr h3 sb61_a644f12, trivial⟩)) (pc' := 21) rfl (fun y3 => ?_)
    refine G_ex (fun hy3 => ?_)
    obtain rfl : y3 = (-1) := by omega
    refine T_goto zk_134_21 ?_
    exact T_iret zk_134_34 rfl (fun σ' h => ⟨_, rfl, (by omega), h.1, trivial⟩)
  ·
    refine T_ld zk_134_4 rfl rfl rfl (pc' := 5) rfl ?_
    refine T_ld zk_134_5 rfl rfl rfl (pc' := 6) rfl ?_
    refine T_getR (t' := 36) (i' := 0) (k' := 0) zk_134_6 rfl rfl rfl vd_35 (pc' := 9) rfl ?_
    refine T_op zk_134_9 rfl (X_si (v := 633) (by decide)) (pc' := 12) rfl ?_
    refine G_iald (lo := 0) (hi := 3) (ln := 646) zk_134_12 rfl rfl (vd_36 (by omega)) (by omega) (by omega) (by omega) (fun σ' h => h.1.1) (fun _ h => h.2.2.2.2.2.1 (by omega) (by omega)) (pc' := 13) rfl (fun y4 hy4 hy4' => ?_)
    refine T_icmp_lt zk_134_13 (by omega) (by omega) (pc' := 16) rfl (fun h5 => ?_) (fun h6 => ?_)
    ·
      refine T_ld zk_134_24 rfl rfl rfl (pc' := 25) rfl ?_
      refine T_op zk_134_25 rfl (X_si (v := 253) (by decide)) (pc' := 28) rfl ?_
      refine T_ld zk_134_28 rfl rfl rfl (pc' := 29) rfl ?_
      refine T_op zk_134_29 rfl X_add (pc' := 30) rfl ?_
      refine T_ld zk_134_30 rfl rfl rfl (pc' := 31) rfl ?_
      refine T_calli (K := fun y7 σ' => (y7 = 0 ∨ y7 = 1) ∧ (fun σ' => IF (MJ 253 256) σ σ' ∧ True) σ') (r := []) zk_134_31 rfl rfl rfl rfl rfl rfl (Or.inr ⟨_, _, _, _, rfl, vd_35, rfl⟩) (fun σ' h => (m_129_253 (253 + p0) p1 (by omega) (by omega) σ' h.1.1 ).le (Nat.le_of_ble_eq_true rfl) (fun v σ2 ⟨y, h1, h2, h3, h4⟩ => ⟨y, h1, h2, h.1.tr h3 (fun _ _ _ _ h => h), trivial⟩)) (pc' := 34) rfl (fun y7 => ?_)
      refine G_ex (fun hy7 => ?_)
      exact T_iret zk_134_34 rfl (fun σ' h => ⟨_, rfl, (by omega), h.1, trivial⟩)
    ·
      refine T_ld zk_134_16 rfl rfl rfl (pc' := 17) rfl ?_
      refine T_op zk_134_17 rfl X_ic (pc' := 18) rfl ?_
      refine T_calli (K := fun y8 σ' => (y8 = (-1)) ∧ (fun σ' => IF (MJ 253 256) σ σ' ∧ True) σ') (r := []) zk_134_18 rfl rfl rfl rfl rfl rfl (Or.inr ⟨_, _, _, _, rfl, vd_35, rfl⟩) (fun σ' h => (m_123 ((-1)) (by omega) σ' h.1.1 ).le (Nat.le_of_ble_eq_true rfl) (fun v σ2 ⟨y, h1, h2, h3, h4⟩ => ⟨y, h1, h2, h.1.tr h3 sb61_a644f12, trivial⟩)) (pc' := 21) rfl (fun y8 => ?_)
      refine G_ex (fun hy8 => ?_)
      obtain rfl : y8 = (-1) := by omega
      refine T_goto zk_134_21 ?_
      exact T_iret zk_134_34 rfl (fun σ' h => ⟨_, rfl, (by omega), h.1, trivial⟩)
/-- WModel.element -/
theorem m_138 {xs : Nat × (Nat → Int32)} (p0 : Int) (p1 : Int) (hp0 : -2147483648 ≤ p0 ∧ p0 ≤ 2147483647) (hp1 : -2147483648 ≤ p1 ∧ p1 ≤ 2147483647) (σ : ZS) (hI : Inv σ)   : CT xs 2 138 [av 35 0 0, iv p0, iv p1] σ (fun v σ' => ∃ y, v = some (jv y) ∧ (True) ∧ IF MN σ σ' ∧ (True)) := by
  refine G_ct (J := (fun σ' => IF MN σ σ' ∧ True)) (L := [(0, av 35 0 0), (1, iv p0), (2, iv p1)]) (nL := 3) rfl rfl rfl ⟨IF.rf hI, trivial⟩ ?_
  refine T_ld zk_138_0 rfl rfl rfl (pc' := 1) rfl ?_
  refine T_calli (K := fun y1 σ' => ((y1 = 0 ∧ (p0 < 0 ∨ 7 < p0)) ∨ (y1 = 1 ∧ 0 ≤ p0 ∧ p0 ≤ 7)) ∧ (fun σ' => IF MN σ σ' ∧ True) σ') (r := []) zk_138_1 rfl rfl rfl rfl rfl rfl (Or.inl (Or.inl rfl)) (fun σ' h => (m_125 p0 (by omega) σ' h.1.1 ).le (Nat.le_of_ble_eq_true rfl) (fun v σ2 ⟨y, h1, h2, h3, h4⟩ => ⟨y, h1, h2, h.1.tr h3 MN_sub, trivial⟩)) (pc' := 4) rfl (fun y1 => ?_)
  refine G_ex (fun hy1 => ?_)
  refine T_if_eq zk_138_4 (by omega) (pc' := 7) rfl (fun h2 => ?_) (fun h3 => ?_)
  ·
    refine T_op zk_138_45 rfl (X_lc (v := 0) (by decide)) (pc' := 46) rfl ?_
    exact T_lret zk_138_46 rfl (fun σ' h => ⟨_, rfl, trivial, h.1, trivial⟩)
  ·
    refine T_ld zk_138_7 rfl rfl rfl (pc' := 8) rfl ?_
    refine T_getR (t' := 37) (i' := 0) (k' := 0) zk_138_8 rfl rfl rfl vd_35 (pc' := 11) rfl ?_
    refine T_ld zk_138_11 rfl rfl rfl (pc' := 12) rfl ?_
    refine G_iald (lo := 0) (hi := 2) (ln := 8) zk_138_12 rfl rfl vd_37 (by omega) (by omega) (by omega) (fun σ' h => h.1.1) (fun _ h => h.2 (by omega) (by omega)) (pc' := 13) rfl (fun y4 hy4 hy4' => ?_)
    refine T_op zk_138_13 rfl X_ic (pc' := 14) rfl ?_
    refine T_icmp_ne zk_138_14 (by omega) (by omega) (pc' := 17) rfl (fun h5 => ?_) (fun h6 => ?_)
    ·
      refine T_op zk_138_45 rfl (X_lc (v := 0) (by decide)) (pc' := 46) rfl ?_
      exact T_lret zk_138_46 rfl (fun σ' h => ⟨_, rfl, trivial, h.1, trivial⟩)
    ·
      refine T_ld zk_138_17 rfl rfl rfl (pc' := 18) rfl ?_
      refine T_if_lt zk_138_18 (by omega) (pc' := 21) rfl (fun h7 => ?_) (fun h8 => ?_)
      ·
        refine T_op zk_138_45 rfl (X_lc (v := 0) (by decide)) (pc' := 46) rfl ?_
        exact T_lret zk_138_46 rfl (fun σ' h => ⟨_, rfl, trivial, h.1, trivial⟩)
      ·
        refine T_ld zk_138_21 rfl rfl rfl (pc' := 22) rfl ?_
        refine T_ld zk_138_22 rfl rfl rfl (pc' := 23) rfl ?_
        refine T_getR (t' := 39) (i' := 0) (k' := 0) zk_138_23 rfl rfl rfl vd_35 (pc' := 26) rfl ?_
        refine T_ld zk_138_26 rfl rfl rfl (pc' := 27) rfl ?_
        refine G_iald (lo := 0) (hi := 96) (ln := 8) zk_138_27 rfl rfl vd_39 (by omega) (by omega) (by omega) (fun σ' h => h.1.1) (fun _ h => h.2 (by omega) (by omega)) (pc' := 28) rfl (fun y9 hy9 hy9' => ?_)
        refine T_icmp_ge zk_138_28 (by omega) (by omega) (pc' := 31) rfl (fun h10 => ?_) (fun h11 => ?_)
        ·
          refine T_op zk_138_45 rfl (X_lc (v := 0) (by decide)) (pc' := 46) rfl ?_
          exact T_lret zk_138_46 rfl (fun σ' h => ⟨_, rfl, trivial, h.1, trivial⟩)
        ·
          refine T_ld zk_138_31 rfl rfl rfl (pc' := 32) rfl ?_
          refine T_getR (t' := 41) (i' := 0) (k' := 0) zk_138_32 rfl rfl rfl vd_35 (pc' := 35) rfl ?_
          refine T_op zk_138_35 rfl (X_bi (v := 96) (by decide)) (pc' := 37) rfl ?_
          refine T_ld zk_138_37 rfl rfl rfl (pc' := 38) rfl ?_
          refine T_op zk_138_38 rfl X_mul (pc' := 39) rfl ?_
          refine T_ld zk_138_39 rfl rfl rfl (pc' := 40) rfl ?_
          refine T_op zk_138_40 rfl X_add (pc' := 41) rfl ?_
          refine G_lald (ln := 768) zk_138_41 rfl rfl vd_41 (by omega) (by omega) (by omega) (pc' := 42) rfl (fun y12 => ?_)
          refine T_goto zk_138_42 ?_
          exact T_lret zk_138_46 rfl (fun σ' h => ⟨_, rfl, trivial, h.1, trivial⟩)
/-- WModel.holds -/
theorem m_141 {xs : Nat × (Nat → Int32)} (p0 : Int) (hp0 : -2147483648 ≤ p0 ∧ p0 ≤ 2147483647) (σ : ZS) (hI : Inv σ)   : CT xs 2 141 [av 35 0 0, iv p0] σ (fun v σ' => ∃ y, v = some (iv y) ∧ (-2147483648 ≤ y ∧ y ≤ 2147483647) ∧ IF MN σ σ' ∧ (True)) := by
  refine G_ct (J := (fun σ' => IF MN σ σ' ∧ True)) (L := [(0, av 35 0 0), (1, iv p0)]) (nL := 2) rfl rfl rfl ⟨IF.rf hI, trivial⟩ ?_
  refine T_ld zk_141_0 rfl rfl rfl (pc' := 1) rfl ?_
  refine T_calli (K := fun y1 σ' => ((y1 = 0 ∧ (p0 < 0 ∨ 7 < p0)) ∨ (y1 = 1 ∧ 0 ≤ p0 ∧ p0 ≤ 7)) ∧ (fun σ' => IF MN σ σ' ∧ True) σ') (r := []) zk_141_1 rfl rfl rfl rfl rfl rfl (Or.inl (Or.inl rfl)) (fun σ' h => (m_125 p0 (by omega) σ' h.1.1 ).le (Nat.le_of_ble_eq_true rfl) (fun v σ2 ⟨y, h1, h2, h3, h4⟩ => ⟨y, h1, h2, h.1.tr h3 MN_sub, trivial⟩)) (pc' := 4) rfl (fun y1 => ?_)
  refine G_ex (fun hy1 => ?_)
  refine T_if_eq zk_141_4 (by omega) (pc' := 7) rfl (fun h2 => ?_) (fun h3 => ?_)
  ·
    refine T_op zk_141_16 rfl X_ic (pc' := 17) rfl ?_
    exact T_iret zk_141_17 rfl (fun σ' h => ⟨_, rfl, (by omega), h.1, trivial⟩)
  ·
    refine T_ld zk_141_7 rfl rfl rfl (pc' := 8) rfl ?_
    refine T_getR (t' := 37) (i' := 0) (k' := 0) zk_141_8 rfl rfl rfl vd_35 (pc' := 11) rfl ?_
    refine T_ld zk_141_11 rfl rfl rfl (pc' := 12) rfl ?_
    refine G_iald (lo := 0) (hi := 2) (ln := 8) zk_141_12 rfl rfl vd_37 (by omega) (by omega) (by omega) (fun σ' h => h.1.1) (fun _ h => h.2 (by omega) (by omega)) (pc' := 13) rfl (fun y4 hy4 hy4' => ?_)
    refine T_if_ne zk_141_13 (by omega) (pc' := 16) rfl (fun h5 => ?_) (fun h6 => ?_)
    ·
      refine T_ld zk_141_18 rfl rfl rfl (pc' := 19) rfl ?_
      refine T_getR (t' := 37) (i' := 0) (k' := 0) zk_141_19 rfl rfl rfl vd_35 (pc' := 22) rfl ?_
      refine T_ld zk_141_22 rfl rfl rfl (pc' := 23) rfl ?_
      refine G_iald (lo := 0) (hi := 2) (ln := 8) zk_141_23 rfl rfl vd_37 (by omega) (by omega) (by omega) (fun σ' h => h.1.1) (fun _ h => h.2 (by omega) (by omega)) (pc' := 24) rfl (fun y7 hy7 hy7' => ?_)
      refine T_op zk_141_24 rfl X_ic (pc' := 25) rfl ?_
      refine T_icmp_ne zk_141_25 (by omega) (by omega) (pc' := 28) rfl (fun h8 => ?_) (fun h9 => ?_)
      ·
        refine T_ld zk_141_40 rfl rfl rfl (pc' := 41) rfl ?_
        refine T_getR (t' := 40) (i' := 0) (k' := 0) zk_141_41 rfl rfl rfl vd_35 (pc' := 44) rfl ?_
        refine T_ld zk_141_44 rfl rfl rfl (pc' := 45) rfl ?_
        refine G_iald (lo := -1) (hi := 11) (ln := 8) zk_141_45 rfl rfl vd_40 (by omega) (by omega) (by omega) (fun σ' h => h.1.1) (fun _ h => h.2 (by omega) (by omega)) (pc' := 46) rfl (fun y10 hy10 hy10' => ?_)
        exact T_iret zk_141_46 rfl (fun σ' h => ⟨_, rfl, (by omega), h.1, trivial⟩)
      ·
        refine T_op zk_141_28 rfl (X_bi (v := 100) (by decide)) (pc' := 30) rfl ?_
        refine T_ld zk_141_30 rfl rfl rfl (pc' := 31) rfl ?_
        refine T_getR (t' := 38) (i' := 0) (k' := 0) zk_141_31 rfl rfl rfl vd_35 (pc' := 34) rfl ?_
        refine T_ld zk_141_34 rfl rfl rfl (pc' := 35) rfl ?_
        refine G_iald (lo := 0) (hi := 3) (ln := 8) zk_141_35 rfl rfl vd_38 (by omega) (by omega) (by omega) (fun σ' h => h.1.1) (fun _ h => h.2 (by omega) (by omega)) (pc' := 36) rfl (fun y11 hy11 hy11' => ?_)
        refine T_op zk_141_36 rfl X_add (pc' := 37) rfl ?_
        refine T_goto zk_141_37 ?_
        exact T_iret zk_141_46 rfl (fun σ' h => ⟨_, rfl, (by omega), h.1, trivial⟩)
    ·
      refine T_op zk_141_16 rfl X_ic (pc' := 17) rfl ?_
      exact T_iret zk_141_17 rfl (fun σ' h => ⟨_, rfl, (by omega), h.1, trivial⟩)
/-- WModel.harm -/
theorem m_142 {xs : Nat × (Nat → Int32)} (p0 : Int) (p1 : Int) (hp0 : -2147483648 ≤ p0 ∧ p0 ≤ 2147483647) (hp1 : -2147483648 ≤ p1 ∧ p1 ≤ 2147483647) (σ : ZS) (hI : Inv σ)   : CT xs 2 142 [av 35 0 0, iv p0, iv p1] σ (fun v σ' => ∃ y, v = some (iv y) ∧ (-2147483648 ≤ y ∧ y ≤ 2147483647) ∧ IF (MT 49 49 49 49) σ σ' ∧ (True)) := by
  refine G_ct (J := (fun σ' => IF (MT 49 49 49 49) σ σ' ∧ True)) (L := [(0, av 35 0 0), (1, iv p0), (2, iv p1)]) (nL := 3) rfl rfl rfl ⟨IF.rf hI, trivial⟩ ?_
  refine T_ld zk_142_0 rfl rfl rfl (pc' := 1) rfl ?_
  refine T_calli (K := fun y1 σ' => ((y1 = 0 ∧ (p0 < 0 ∨ 7 < p0)) ∨ (y1 = 1 ∧ 0 ≤ p0 ∧ p0 ≤ 7)) ∧ (fun σ' => IF (MT 49 49 49 49) σ σ' ∧ True) σ') (r := []) zk_142_1 rfl rfl rfl rfl rfl rfl (Or.inl (Or.inl rfl)) (fun σ' h => (m_125 p0 (by omega) σ' h.1.1 ).le (Nat.le_of_ble_eq_true rfl) (fun v σ2 ⟨y, h1, h2, h3, h4⟩ => ⟨y, h1, h2, h.1.tr h3 MN_sub, trivial⟩)) (pc' := 4) rfl (fun y1 => ?_)
  refine G_ex (fun hy1 => ?_)
  refine T_if_eq zk_142_4 (by omega) (pc' := 7) rfl (fun h2 => ?_) (fun h3 => ?_)
  ·
    refine T_ld zk_142_16 rfl rfl rfl (pc' := 17) rfl ?_
    refine T_op zk_142_17 rfl X_ic (pc' := 18) rfl ?_
    refine T_calli (K := fun y4 σ' => (y4 = (-1)) ∧ (fun σ' => IF (MT 49 49 49 49) σ σ' ∧ True) σ') (r := []) zk_142_18 rfl rfl rfl rfl rfl rfl (Or.inr ⟨_, _, _, _, rfl, vd_35, rfl⟩) (fun σ' h => (m_123 ((-1)) (by omega) σ' h.1.1 ).le (Nat.le_of_ble_eq_true rfl) (fun v σ2 ⟨y, h1, h2, h3, h4⟩ => ⟨y, h1, h2, h.1.tr h3 (fun _ _ _ _ h => h), trivial⟩)) (pc' := 21) rfl (fun y4 => ?_)
    refine G_ex (fun hy4 => ?_)
    obtain rfl : y4 = (-1) := by omega
    exact T_iret zk_142_21 rfl (fun σ' h => ⟨_, rfl, (by omega), h.1, trivial⟩)
  ·
    refine T_ld zk_142_7 rfl rfl rfl (pc' := 8) rfl ?_
    refine T_if_lt zk_142_8 (by omega) (pc' := 11) rfl (fun h5 => ?_) (fun h6 => ?_)
    ·
      refine T_ld zk_142_16 rfl rfl rfl (pc' := 17) rfl ?_
      refine T_op zk_142_17 rfl X_ic (pc' := 18) rfl ?_
      refine T_calli (K := fun y7 σ' => (y7 = (-1)) ∧ (fun σ' => IF (MT 49 49 49 49) σ σ' ∧ True) σ') (r := []) zk_142_18 rfl rfl rfl rfl rfl rfl (Or.inr ⟨_, _, _, _, rfl, vd_35, rfl⟩) (fun σ' h => (m_123 ((-1)) (by omega) σ' h.1.1 ).le (Nat.le_of_ble_eq_true rfl) (fun v σ2 ⟨y, h1, h2, h3, h4⟩ => ⟨y, h1, h2, h.1.tr h3 (fun _ _ _ _ h => h), trivial⟩)) (pc' := 21) rfl (fun y7 => ?_)
      refine G_ex (fun hy7 => ?_)
      obtain rfl : y7 = (-1) := by omega
      exact T_iret zk_142_21 rfl (fun σ' h => ⟨_, rfl, (by omega), h.1, trivial⟩)
    ·
      refine T_ld zk_142_11 rfl rfl rfl (pc' := 12) rfl ?_
      refine T_op zk_142_12 rfl X_ic (pc' := 13) rfl ?_
      refine T_icmp_le zk_142_13 (by omega) (by omega) (pc' := 16) rfl (fun h8 => ?_) (fun h9 => ?_)
      ·
        refine T_ld zk_142_22 rfl rfl rfl (pc' := 23) rfl ?_
        refine T_getR (t' := 37) (i' := 0) (k' := 0) zk_142_23 rfl rfl rfl vd_35 (pc' := 26) rfl ?_
        refine T_ld zk_142_26 rfl rfl rfl (pc' := 27) rfl ?_
        refine G_iald (lo := 0) (hi := 2) (ln := 8) zk_142_27 rfl rfl vd_37 (by omega) (by omega) (by omega) (fun σ' h => h.1.1) (fun _ h => h.2 (by omega) (by omega)) (pc' := 28) rfl (fun y10 hy10 hy10' => ?_)
        refine T_op zk_142_28 rfl X_ic (pc' := 29) rfl ?_
        refine T_icmp_eq zk_142_29 (by omega) (by omega) (pc' := 32) rfl (fun h11 => ?_) (fun h12 => ?_)
        ·
          refine T_ld zk_142_65 rfl rfl rfl (pc' := 66) rfl ?_
          refine T_op zk_142_66 rfl (X_bi (v := -2) (by decide)) (pc' := 68) rfl ?_
          refine T_calli (K := fun y13 σ' => (y13 = (-2)) ∧ (fun σ' => IF (MT 49 49 49 49) σ σ' ∧ True) σ') (r := []) zk_142_68 rfl rfl rfl rfl rfl rfl (Or.inr ⟨_, _, _, _, rfl, vd_35, rfl⟩) (fun σ' h => (m_123 ((-2)) (by omega) σ' h.1.1 ).le (Nat.le_of_ble_eq_true rfl) (fun v σ2 ⟨y, h1, h2, h3, h4⟩ => ⟨y, h1, h2, h.1.tr h3 (fun _ _ _ _ h => h), trivial⟩)) (pc' := 71) rfl (fun y13 => ?_)
          refine G_ex (fun hy13 => ?_)
          obtain rfl : y13 = (-2) := by omega
          exact T_iret zk_142_71 rfl (fun σ' h => ⟨_, rfl, (by omega), h.1, trivial⟩)
        ·
          refine T_ld zk_142_32 rfl rfl rfl (pc' := 33) rfl ?_
          refine T_getR (t' := 37) (i' := 0) (k' := 0) zk_142_33 rfl rfl rfl vd_35 (pc' := 36) rfl ?_
          refine T_ld zk_142_36 rfl rfl rfl (pc' := 37) rfl ?_
          refine G_iald (lo := 0) (hi := 2) (ln := 8) zk_142_37 rfl rfl vd_37 (by omega) (by omega) (by omega) (fun σ' h => h.1.1) (fun _ h => h.2 (by omega) (by omega)) (pc' := 38) rfl (fun y14 hy14 hy14' => ?_)
          refine T_op zk_142_38 rfl X_ic (pc' := 39) rfl ?_
          refine T_icmp_ne zk_142_39 (by omega) (by omega) (pc' := 42) rfl (fun h15 => ?_) (fun h16 => ?_)
          ·
            refine T_ld zk_142_72 rfl rfl rfl (pc' := 73) rfl ?_
            refine T_getR (t' := 37) (i' := 0) (k' := 0) zk_142_73 rfl rfl rfl vd_35 (pc' := 76) rfl ?_
            refine T_ld zk_142_76 rfl rfl rfl (pc' := 77) rfl ?_
            refine G_iald (lo := 0) (hi := 2) (ln := 8) zk_142_77 rfl rfl vd_37 (by omega) (by omega) (by omega) (fun σ' h => h.1.1) (fun _ h => h.2 (by omega) (by omega)) (pc' := 78) rfl (fun y17 hy17 hy17' => ?_)
            refine T_if_ne zk_142_78 (by omega) (pc' := 81) rfl (fun h18 => ?_) (fun h19 => ?_)
            ·
              refine T_ld zk_142_88 rfl rfl rfl (pc' := 89) rfl ?_
              refine T_getR (t' := 36) (i' := 0) (k' := 0) zk_142_89 rfl rfl rfl vd_35 (pc' := 92) rfl ?_
              refine T_ld zk_142_92 rfl rfl rfl (pc' := 93) rfl ?_
              refine T_if_ne zk_142_93 (by omega) (pc' := 96) rfl (fun h20 => ?_) (fun h21 => ?_)
              ·
                refine T_ld zk_142_102 rfl rfl rfl (pc' := 103) rfl ?_
                refine T_op zk_142_103 rfl X_ic (pc' := 104) rfl ?_
                refine T_icmp_ne zk_142_104 (by omega) (by omega) (pc' := 107) rfl (fun h22 => ?_) (fun h23 => ?_)
                ·
                  refine T_op zk_142_113 rfl (X_si (v := 544) (by decide)) (pc' := 116) rfl ?_
                  refine T_ld zk_142_116 rfl rfl rfl (pc' := 117) rfl ?_
                  refine T_getR (t' := 40) (i' := 0) (k' := 0) zk_142_117 rfl rfl rfl vd_35 (pc' := 120) rfl ?_
                  refine T_ld zk_142_120 rfl rfl rfl (pc' := 121) rfl ?_
                  refine G_iald (lo := -1) (hi := 11) (ln := 8) zk_142_121 rfl rfl vd_40 (by omega) (by omega) (by omega) (fun σ' h => h.1.1) (fun _ h => h.2 (by omega) (by omega)) (pc' := 122) rfl (fun y24 hy24 hy24' => ?_)
                  refine T_op zk_142_122 rfl X_add (pc' := 123) rfl ?_
                  refine G_iald (lo := -2147483648) (hi := 2147483647) (ln := 646) zk_142_123 rfl rfl (vd_36 (by omega)) (by omega) (by omega) (by omega) (fun σ' h => h.1.1) (fun _ h => (by have q := h.1; omega)) (pc' := 124) rfl (fun y25 hy25 hy25' => ?_)
                  exact T_iret zk_142_124 rfl (fun σ' h => ⟨_, rfl, (by omega), h.1, trivial⟩)
                ·
                  refine T_op zk_142_107 rfl (X_si (v := 532) (by decide)) (pc' := 110) rfl ?_
                  refine T_goto zk_142_110 ?_
                  refine T_ld zk_142_116 rfl rfl rfl (pc' := 117) rfl ?_
                  refine T_getR (t' := 40) (i' := 0) (k' := 0) zk_142_117 rfl rfl rfl vd_35 (pc' := 120) rfl ?_
                  refine T_ld zk_142_120 rfl rfl rfl (pc' := 121) rfl ?_
                  refine G_iald (lo := -1) (hi := 11) (ln := 8) zk_142_121 rfl rfl vd_40 (by omega) (by omega) (by omega) (fun σ' h => h.1.1) (fun _ h => h.2 (by omega) (by omega)) (pc' := 122) rfl (fun y26 hy26 hy26' => ?_)
                  refine T_op zk_142_122 rfl X_add (pc' := 123) rfl ?_
                  refine G_iald (lo := -2147483648) (hi := 2147483647) (ln := 646) zk_142_123 rfl rfl (vd_36 (by omega)) (by omega) (by omega) (by omega) (fun σ' h => h.1.1) (fun _ h => (by have q := h.1; omega)) (pc' := 124) rfl (fun y27 hy27 hy27' => ?_)
                  exact T_iret zk_142_124 rfl (fun σ' h => ⟨_, rfl, (by omega), h.1, trivial⟩)
              ·
                refine T_op zk_142_96 rfl (X_si (v := 520) (by decide)) (pc' := 99) rfl ?_
                refine T_goto zk_142_99 ?_
                refine T_ld zk_142_116 rfl rfl rfl (pc' := 117) rfl ?_
                refine T_getR (t' := 40) (i' := 0) (k' := 0) zk_142_117 rfl rfl rfl vd_35 (pc' := 120) rfl ?_
                refine T_ld zk_142_120 rfl rfl rfl (pc' := 121) rfl ?_
                refine G_iald (lo := -1) (hi := 11) (ln := 8) zk_142_121 rfl rfl vd_40 (by omega) (by omega) (by omega) (fun σ' h => h.1.1) (fun _ h => h.2 (by omega) (by omega)) (pc' := 122) rfl (fun y28 hy28 hy28' => ?_)
                refine T_op zk_142_122 rfl X_add (pc' := 123) rfl ?_
                refine G_iald (lo := -2147483648) (hi := 2147483647) (ln := 646) zk_142_123 rfl rfl (vd_36 (by omega)) (by omega) (by omega) (by omega) (fun σ' h => h.1.1) (fun _ h => (by have q := h.1; omega)) (pc' := 124) rfl (fun y29 hy29 hy29' => ?_)
                exact T_iret zk_142_124 rfl (fun σ' h => ⟨_, rfl, (by omega), h.1, trivial⟩)
            ·
              refine T_ld zk_142_81 rfl rfl rfl (pc' := 82) rfl ?_
              refine T_op zk_142_82 rfl (X_bi (v := -3) (by decide)) (pc' := 84) rfl ?_
              refine T_calli (K := fun y30 σ' => (y30 = (-3)) ∧ (fun σ' => IF (MT 49 49 49 49) σ σ' ∧ True) σ') (r := []) zk_142_84 rfl rfl rfl rfl rfl rfl (Or.inr ⟨_, _, _, _, rfl, vd_35, rfl⟩) (fun σ' h => (m_123 ((-3)) (by omega) σ' h.1.1 ).le (Nat.le_of_ble_eq_true rfl) (fun v σ2 ⟨y, h1, h2, h3, h4⟩ => ⟨y, h1, h2, h.1.tr h3 (fun _ _ _ _ h => h), trivial⟩)) (pc' := 87) rfl (fun y30 => ?_)
              refine G_ex (fun hy30 => ?_)
              obtain rfl : y30 = (-3) := by omega
              exact T_iret zk_142_87 rfl (fun σ' h => ⟨_, rfl, (by omega), h.1, trivial⟩)
          ·
            refine T_ld zk_142_42 rfl rfl rfl (pc' := 43) rfl ?_
            refine T_if_eq zk_142_43 (by omega) (pc' := 46) rfl (fun h31 => ?_) (fun h32 => ?_)
            ·
              refine T_ld zk_142_72 rfl rfl rfl (pc' := 73) rfl ?_
              refine T_getR (t' := 37) (i' := 0) (k' := 0) zk_142_73 rfl rfl rfl vd_35 (pc' := 76) rfl ?_
              refine T_ld zk_142_76 rfl rfl rfl (pc' := 77) rfl ?_
              refine G_iald (lo := 0) (hi := 2) (ln := 8) zk_142_77 rfl rfl vd_37 (by omega) (by omega) (by omega) (fun σ' h => h.1.1) (fun _ h => h.2 (by omega) (by omega)) (pc' := 78) rfl (fun y33 hy33 hy33' => ?_)
              refine T_if_ne zk_142_78 (by omega) (pc' := 81) rfl (fun h34 => ?_) (fun h35 => ?_)
              ·
                refine T_ld zk_142_88 rfl rfl rfl (pc' := 89) rfl ?_
                refine T_getR (t' := 36) (i' := 0) (k' := 0) zk_142_89 rfl rfl rfl vd_35 (pc' := 92) rfl ?_
                refine T_ld zk_142_92 rfl rfl rfl (pc' := 93) rfl ?_
                refine T_if_ne zk_142_93 (by omega) (pc' := 96) rfl (fun h36 => ?_) (fun h37 => ?_)
                · exfalso; omega
                ·
                  refine T_op zk_142_96 rfl (X_si (v := 520) (by decide)) (pc' := 99) rfl ?_
                  refine T_goto zk_142_99 ?_
                  refine T_ld zk_142_116 rfl rfl rfl (pc' := 117) rfl ?_
                  refine T_getR (t' := 40) (i' := 0) (k' := 0) zk_142_117 rfl rfl rfl vd_35 (pc' := 120) rfl ?_
                  refine T_ld zk_142_120 rfl rfl rfl (pc' := 121) rfl ?_
                  refine G_iald (lo := -1) (hi := 11) (ln := 8) zk_142_121 rfl rfl vd_40 (by omega) (by omega) (by omega) (fun σ' h => h.1.1) (fun _ h => h.2 (by omega) (by omega)) (pc' := 122) rfl (fun y38 hy38 hy38' => ?_)
                  refine T_op zk_142_122 rfl X_add (pc' := 123) rfl ?_
                  refine G_iald (lo := -2147483648) (hi := 2147483647) (ln := 646) zk_142_123 rfl rfl (vd_36 (by omega)) (by omega) (by omega) (by omega) (fun σ' h => h.1.1) (fun _ h => (by have q := h.1; omega)) (pc' := 124) rfl (fun y39 hy39 hy39' => ?_)
                  exact T_iret zk_142_124 rfl (fun σ' h => ⟨_, rfl, (by omega), h.1, trivial⟩)
              ·
                refine T_ld zk_142_81 rfl rfl rfl (pc' := 82) rfl ?_
                refine T_op zk_142_82 rfl (X_bi (v := -3) (by decide)) (pc' := 84) rfl ?_
                refine T_calli (K := fun y40 σ' => (y40 = (-3)) ∧ (fun σ' => IF (MT 49 49 49 49) σ σ' ∧ True) σ') (r := []) zk_142_84 rfl rfl rfl rfl rfl rfl (Or.inr ⟨_, _, _, _, rfl, vd_35, rfl⟩) (fun σ' h => (m_123 ((-3)) (by omega) σ' h.1.1 ).le (Nat.le_of_ble_eq_true rfl) (fun v σ2 ⟨y, h1, h2, h3, h4⟩ => ⟨y, h1, h2, h.1.tr h3 (fun _ _ _ _ h => h), trivial⟩)) (pc' := 87) rfl (fun y40 => ?_)
                refine G_ex (fun hy40 => ?_)
                obtain rfl : y40 = (-3) := by omega
                exact T_iret zk_142_87 rfl (fun σ' h => ⟨_, rfl, (by omega), h.1, trivial⟩)
            ·
              refine T_ld zk_142_46 rfl rfl rfl (pc' := 47) rfl ?_
              refine T_getR (t' := 36) (i' := 0) (k' := 0) zk_142_47 rfl rfl rfl vd_35 (pc' := 50) rfl ?_
              refine T_op zk_142_50 rfl (X_si (v := 448) (by decide)) (pc' := 53) rfl ?_
              refine T_ld zk_142_53 rfl rfl rfl (pc' := 54) rfl ?_
              refine T_getR (t' := 40) (i' := 0) (k' := 0) zk_142_54 rfl rfl rfl vd_35 (pc' := 57) rfl ?_
              refine T_ld zk_142_57 rfl rfl rfl (pc' := 58) rfl ?_
              refine G_iald (lo := -1) (hi := 11) (ln := 8) zk_142_58 rfl rfl vd_40 (by omega) (by omega) (by omega) (fun σ' h => h.1.1) (fun _ h => h.2 (by omega) (by omega)) (pc' := 59) rfl (fun y41 hy41 hy41' => ?_)
              refine T_op zk_142_59 rfl X_add (pc' := 60) rfl ?_
              refine G_iald (lo := -2147483648) (hi := 2147483647) (ln := 646) zk_142_60 rfl rfl (vd_36 (by omega)) (by omega) (by omega) (by omega) (fun σ' h => h.1.1) (fun _ h => (by have q := h.1; omega)) (pc' := 61) rfl (fun y42 hy42 hy42' => ?_)
              refine T_ld zk_142_61 rfl rfl rfl (pc' := 62) rfl ?_
              refine T_icmp_eq zk_142_62 (by omega) (by omega) (pc' := 65) rfl (fun h43 => ?_) (fun h44 => ?_)
              ·
                refine T_ld zk_142_72 rfl rfl rfl (pc' := 73) rfl ?_
                refine T_getR (t' := 37) (i' := 0) (k' := 0) zk_142_73 rfl rfl rfl vd_35 (pc' := 76) rfl ?_
                refine T_ld zk_142_76 rfl rfl rfl (pc' := 77) rfl ?_
                refine G_iald (lo := 0) (hi := 2) (ln := 8) zk_142_77 rfl rfl vd_37 (by omega) (by omega) (by omega) (fun σ' h => h.1.1) (fun _ h => h.2 (by omega) (by omega)) (pc' := 78) rfl (fun y45 hy45 hy45' => ?_)
                refine T_if_ne zk_142_78 (by omega) (pc' := 81) rfl (fun h46 => ?_) (fun h47 => ?_)
                ·
                  refine T_ld zk_142_88 rfl rfl rfl (pc' := 89) rfl ?_
                  refine T_getR (t' := 36) (i' := 0) (k' := 0) zk_142_89 rfl rfl rfl vd_35 (pc' := 92) rfl ?_
                  refine T_ld zk_142_92 rfl rfl rfl (pc' := 93) rfl ?_
                  refine T_if_ne zk_142_93 (by omega) (pc' := 96) rfl (fun h48 => ?_) (fun h49 => ?_)
                  ·
                    refine T_ld zk_142_102 rfl rfl rfl (pc' := 103) rfl ?_
                    refine T_op zk_142_103 rfl X_ic (pc' := 104) rfl ?_
                    refine T_icmp_ne zk_142_104 (by omega) (by omega) (pc' := 107) rfl (fun h50 => ?_) (fun h51 => ?_)
                    ·
                      refine T_op zk_142_113 rfl (X_si (v := 544) (by decide)) (pc' := 116) rfl ?_
                      refine T_ld zk_142_116 rfl rfl rfl (pc' := 117) rfl ?_
                      refine T_getR (t' := 40) (i' := 0) (k' := 0) zk_142_117 rfl rfl rfl vd_35 (pc' := 120) rfl ?_
                      refine T_ld zk_142_120 rfl rfl rfl (pc' := 121) rfl ?_
                      refine G_iald (lo := -1) (hi := 11) (ln := 8) zk_142_121 rfl rfl vd_40 (by omega) (by omega) (by omega) (fun σ' h => h.1.1) (fun _ h => h.2 (by omega) (by omega)) (pc' := 122) rfl (fun y52 hy52 hy52' => ?_)
                      refine T_op zk_142_122 rfl X_add (pc' := 123) rfl ?_
                      refine G_iald (lo := -2147483648) (hi := 2147483647) (ln := 646) zk_142_123 rfl rfl (vd_36 (by omega)) (by omega) (by omega) (by omega) (fun σ' h => h.1.1) (fun _ h => (by have q := h.1; omega)) (pc' := 124) rfl (fun y53 hy53 hy53' => ?_)
                      exact T_iret zk_142_124 rfl (fun σ' h => ⟨_, rfl, (by omega), h.1, trivial⟩)
                    ·
                      refine T_op zk_142_107 rfl (X_si (v := 532) (by decide)) (pc' := 110) rfl ?_
                      refine T_goto zk_142_110 ?_
                      refine T_ld zk_142_116 rfl rfl rfl (pc' := 117) rfl ?_
                      refine T_getR (t' := 40) (i' := 0) (k' := 0) zk_142_117 rfl rfl rfl vd_35 (pc' := 120) rfl ?_
                      refine T_ld zk_142_120 rfl rfl rfl (pc' := 121) rfl ?_
                      refine G_iald (lo := -1) (hi := 11) (ln := 8) zk_142_121 rfl rfl vd_40 (by omega) (by omega) (by omega) (fun σ' h => h.1.1) (fun _ h => h.2 (by omega) (by omega)) (pc' := 122) rfl (fun y54 hy54 hy54' => ?_)
                      refine T_op zk_142_122 rfl X_add (pc' := 123) rfl ?_
                      refine G_iald (lo := -2147483648) (hi := 2147483647) (ln := 646) zk_142_123 rfl rfl (vd_36 (by omega)) (by omega) (by omega) (by omega) (fun σ' h => h.1.1) (fun _ h => (by have q := h.1; omega)) (pc' := 124) rfl (fun y55 hy55 hy55' => ?_)
                      exact T_iret zk_142_124 rfl (fun σ' h => ⟨_, rfl, (by omega), h.1, trivial⟩)
                  · exfalso; omega
                ·
                  refine T_ld zk_142_81 rfl rfl rfl (pc' := 82) rfl ?_
                  refine T_op zk_142_82 rfl (X_bi (v := -3) (by decide)) (pc' := 84) rfl ?_
                  refine T_calli (K := fun y56 σ' => (y56 = (-3)) ∧ (fun σ' => IF (MT 49 49 49 49) σ σ' ∧ True) σ') (r := []) zk_142_84 rfl rfl rfl rfl rfl rfl (Or.inr ⟨_, _, _, _, rfl, vd_35, rfl⟩) (fun σ' h => (m_123 ((-3)) (by omega) σ' h.1.1 ).le (Nat.le_of_ble_eq_true rfl) (fun v σ2 ⟨y, h1, h2, h3, h4⟩ => ⟨y, h1, h2, h.1.tr h3 (fun _ _ _ _ h => h), trivial⟩)) (pc' := 87) rfl (fun y56 => ?_)
                  refine G_ex (fun hy56 => ?_)
                  obtain rfl : y56 = (-3) := by omega
                  exact T_iret zk_142_87 rfl (fun σ' h => ⟨_, rfl, (by omega), h.1, trivial⟩)
              ·
                refine T_ld zk_142_65 rfl rfl rfl (pc' := 66) rfl ?_
                refine T_op zk_142_66 rfl (X_bi (v := -2) (by decide)) (pc' := 68) rfl ?_
                refine T_calli (K := fun y57 σ' => (y57 = (-2)) ∧ (fun σ' => IF (MT 49 49 49 49) σ σ' ∧ True) σ') (r := []) zk_142_68 rfl rfl rfl rfl rfl rfl (Or.inr ⟨_, _, _, _, rfl, vd_35, rfl⟩) (fun σ' h => (m_123 ((-2)) (by omega) σ' h.1.1 ).le (Nat.le_of_ble_eq_true rfl) (fun v σ2 ⟨y, h1, h2, h3, h4⟩ => ⟨y, h1, h2, h.1.tr h3 (fun _ _ _ _ h => h), trivial⟩)) (pc' := 71) rfl (fun y57 => ?_)
                refine G_ex (fun hy57 => ?_)
                obtain rfl : y57 = (-2) := by omega
                exact T_iret zk_142_71 rfl (fun σ' h => ⟨_, rfl, (by omega), h.1, trivial⟩)
      ·
        refine T_ld zk_142_16 rfl rfl rfl (pc' := 17) rfl ?_
        refine T_op zk_142_17 rfl X_ic (pc' := 18) rfl ?_
        refine T_calli (K := fun y58 σ' => (y58 = (-1)) ∧ (fun σ' => IF (MT 49 49 49 49) σ σ' ∧ True) σ') (r := []) zk_142_18 rfl rfl rfl rfl rfl rfl (Or.inr ⟨_, _, _, _, rfl, vd_35, rfl⟩) (fun σ' h => (m_123 ((-1)) (by omega) σ' h.1.1 ).le (Nat.le_of_ble_eq_true rfl) (fun v σ2 ⟨y, h1, h2, h3, h4⟩ => ⟨y, h1, h2, h.1.tr h3 (fun _ _ _ _ h => h), trivial⟩)) (pc' := 21) rfl (fun y58 => ?_)
        refine G_ex (fun hy58 => ?_)
        obtain rfl : y58 = (-1) := by omega
        exact T_iret zk_142_21 rfl (fun σ' h => ⟨_, rfl, (by omega), h.1, trivial⟩)
theorem sb61_f0bfd6c : ∀ t i k j, MT 49 49 49 49 t i k j → MK 256 448 635 637 t i k j := by
  intro t i k j h
  unfold MT at h
  unfold MK
  omega
/-- WModel.sea -/
theorem m_144 {xs : Nat × (Nat → Int32)} (p0 : Int) (p1 : Int) (hp0 : -2147483648 ≤ p0 ∧ p0 ≤ 2147483647) (hp1 : 0 ≤ p1 ∧ p1 ≤ 1) (σ : ZS) (hI : Inv σ)   : CT xs 3 144 [av 35 0 0, iv p0, iv p1] σ (fun v σ' => ∃ y, v = some (iv y) ∧ (-2147483648 ≤ y ∧ y ≤ 2147483647) ∧ IF (MK 256 448 635 637) σ σ' ∧ (True)) := by
  refine G_ct (J := (fun σ' => IF (MK 256 448 635 637) σ σ' ∧ True)) (L := [(0, av 35 0 0), (1, iv p0), (2, iv p1)]) (nL := 10) rfl rfl rfl ⟨IF.rf hI, trivial⟩ ?_
  refine T_ld zk_144_0 rfl rfl rfl (pc' := 1) rfl ?_
  refine T_ld zk_144_1 rfl rfl rfl (pc' := 2) rfl ?_
  refine T_calli (K := fun y1 σ' => ((y1 = -1 ∧ (p0 < 0 ∨ 7 < p0)) ∨ ((y1 = -3 ∨ y1 = -2 ∨ y1 = 0) ∧ 0 ≤ p0 ∧ p0 ≤ 7)) ∧ (fun σ' => IF (MK 256 448 635 637) σ σ' ∧ True) σ') (r := []) zk_144_2 rfl rfl rfl rfl rfl rfl (Or.inr ⟨_, _, _, _, rfl, vd_35, rfl⟩) (fun σ' h => (m_143 p0 (by omega) σ' h.1.1 ).le (Nat.le_of_ble_eq_true rfl) (fun v σ2 ⟨y, h1, h2, h3, h4⟩ => ⟨y, h1, h2, h.1.tr h3 MN_sub, trivial⟩)) (pc' := 5) rfl (fun y1 => ?_)
  refine G_ex (fun hy1 => ?_)
  refine T_st (L' := [(0, av 35 0 0), (1, iv p0), (2, iv p1), (3, iv y1)]) zk_144_5 (nL := 10) rfl rfl rfl rfl rfl (pc' := 6) rfl ?_
  refine T_ld zk_144_6 rfl rfl rfl (pc' := 7) rfl ?_
  refine T_if_eq zk_144_7 (by omega) (pc' := 10) rfl (fun h2 => ?_) (fun h3 => ?_)
  ·
    refine T_ld zk_144_16 rfl rfl rfl (pc' := 17) rfl ?_
    refine T_if_eq zk_144_17 (by omega) (pc' := 20) rfl (fun h4 => ?_) (fun h5 => ?_)
    ·
      refine T_op zk_144_26 rfl (X_si (v := 256) (by decide)) (pc' := 29) rfl ?_
      refine T_st (L' := [(0, av 35 0 0), (1, iv p0), (2, iv p1), (3, iv y1), (4, iv 256)]) zk_144_29 (nL := 10) rfl rfl rfl rfl rfl (pc' := 31) rfl ?_
      refine T_ld zk_144_31 rfl rfl rfl (pc' := 32) rfl ?_
      refine T_getR (t' := 36) (i' := 0) (k' := 0) zk_144_32 rfl rfl rfl vd_35 (pc' := 35) rfl ?_
      refine T_ld zk_144_35 rfl rfl rfl (pc' := 36) rfl ?_
      refine T_if_eq zk_144_36 (by omega) (pc' := 39) rfl (fun h6 => ?_) (fun h7 => ?_)
      ·
        refine T_op zk_144_45 rfl (X_si (v := 635) (by decide)) (pc' := 48) rfl ?_
        refine T_ld zk_144_48 rfl rfl rfl (pc' := 49) rfl ?_
        refine T_getR (t' := 39) (i' := 0) (k' := 0) zk_144_49 rfl rfl rfl vd_35 (pc' := 52) rfl ?_
        refine T_ld zk_144_52 rfl rfl rfl (pc' := 53) rfl ?_
        refine G_iald (lo := 0) (hi := 96) (ln := 8) zk_144_53 rfl rfl vd_39 (by omega) (by omega) (by omega) (fun σ' h => h.1.1) (fun _ h => h.2 (by omega) (by omega)) (pc' := 54) rfl (fun y8 hy8 hy8' => ?_)
        refine G_iast (J' := (fun σ' => IF (MK 256 448 635 637) σ σ' ∧ True)) (ln := 646) zk_144_54 rfl rfl (vd_36 (by omega)) (by omega) (by omega) (by omega) (fun σ' h => ⟨h.1.up (by simp only [rgP] <;> omega) (by first | exact pMK rfl | (unfold MK; omega)), trivial⟩) (pc' := 55) rfl ?_
        refine T_op zk_144_55 rfl X_ic (pc' := 56) rfl ?_
        refine T_st (L' := [(0, av 35 0 0), (1, iv p0), (2, iv p1), (3, iv y1), (4, iv 256), (5, iv 0)]) zk_144_56 (nL := 10) rfl rfl rfl rfl rfl (pc' := 58) rfl ?_
        refine T_loop1 (fun x9 => ((96 - x9 : Int)).toNat) (fun x9 => (0 ≤ x9 ∧ x9 ≤ 96)) (fun x9 => TJ xs (fun σ' => IF (MK 256 448 635 637) σ σ' ∧ True) 2 144 58 [(0, av 35 0 0), (1, iv p0), (2, iv p1), (3, iv y1), (4, iv 256), (5, iv x9)] [] _) ?_ 0 (by omega)
        intro x9 hp11 ih10
        refine T_ld zk_144_58 rfl rfl rfl (pc' := 60) rfl ?_
        refine T_ld zk_144_60 rfl rfl rfl (pc' := 61) rfl ?_
        refine T_getR (t' := 39) (i' := 0) (k' := 0) zk_144_61 rfl rfl rfl vd_35 (pc' := 64) rfl ?_
        refine T_ld zk_144_64 rfl rfl rfl (pc' := 65) rfl ?_
        refine G_iald (lo := 0) (hi := 96) (ln := 8) zk_144_65 rfl rfl vd_39 (by omega) (by omega) (by omega) (fun σ' h => h.1.1) (fun _ h => h.2 (by omega) (by omega)) (pc' := 66) rfl (fun y12 hy12 hy12' => ?_)
        refine T_icmp_ge zk_144_66 (by omega) (by omega) (pc' := 69) rfl (fun h13 => ?_) (fun h14 => ?_)
        ·
          refine T_ld zk_144_207 rfl rfl rfl (pc' := 208) rfl ?_
          refine T_getR (t' := 39) (i' := 0) (k' := 0) zk_144_208 rfl rfl rfl vd_35 (pc' := 211) rfl ?_
          refine T_ld zk_144_211 rfl rfl rfl (pc' := 212) rfl ?_
          refine G_iald (lo := 0) (hi := 96) (ln := 8) zk_144_212 rfl rfl vd_39 (by omega) (by omega) (by omega) (fun σ' h => h.1.1) (fun _ h => h.2 (by omega) (by omega)) (pc' := 213) rfl (fun y15 hy15 hy15' => ?_)
          exact T_iret zk_144_213 rfl (fun σ' h => ⟨_, rfl, (by omega), h.1, trivial⟩)
        ·
          refine T_ld zk_144_69 rfl rfl rfl (pc' := 70) rfl ?_
          refine T_getR (t' := 41) (i' := 0) (k' := 0) zk_144_70 rfl rfl rfl vd_35 (pc' := 73) rfl ?_
          refine T_op zk_144_73 rfl (X_bi (v := 96) (by decide)) (pc' := 75) rfl ?_
          refine T_ld zk_144_75 rfl rfl rfl (pc' := 76) rfl ?_
          refine T_op zk_144_76 rfl X_mul (pc' := 77) rfl ?_
          refine T_ld zk_144_77 rfl rfl rfl (pc' := 79) rfl ?_
          refine T_op zk_144_79 rfl X_add (pc' := 80) rfl ?_
          refine G_lald (ln := 768) zk_144_80 rfl rfl vd_41 (by omega) (by omega) (by omega) (pc' := 81) rfl (fun y16 => ?_)
          refine T_st (L' := [(0, av 35 0 0), (1, iv p0), (2, iv p1), (3, iv y1), (4, iv 256), (5, iv x9), (6, jv y16)]) zk_144_81 (nL := 10) rfl rfl rfl rfl rfl (pc' := 83) rfl ?_
          refine T_ld zk_144_83 rfl rfl rfl (pc' := 85) rfl ?_
          refine T_ld zk_144_85 rfl rfl rfl (pc' := 86) rfl ?_
          refine T_getR (t' := 38) (i' := 0) (k' := 0) zk_144_86 rfl rfl rfl vd_35 (pc' := 89) rfl ?_
          refine T_ld zk_144_89 rfl rfl rfl (pc' := 90) rfl ?_
          refine G_iald (lo := 0) (hi := 3) (ln := 8) zk_144_90 rfl rfl vd_38 (by omega) (by omega) (by omega) (fun σ' h => h.1.1) (fun _ h => h.2 (by omega) (by omega)) (pc' := 91) rfl (fun y17 hy17 hy17' => ?_)
          refine T_if_ne zk_144_91 (by omega) (pc' := 94) rfl (fun h18 => ?_) (fun h19 => ?_)
          ·
            refine T_ld zk_144_100 rfl rfl rfl (pc' := 101) rfl ?_
            refine T_getR (t' := 38) (i' := 0) (k' := 0) zk_144_101 rfl rfl rfl vd_35 (pc' := 104) rfl ?_
            refine T_ld zk_144_104 rfl rfl rfl (pc' := 105) rfl ?_
            refine G_iald (lo := 0) (hi := 3) (ln := 8) zk_144_105 rfl rfl vd_38 (by omega) (by omega) (by omega) (fun σ' h => h.1.1) (fun _ h => h.2 (by omega) (by omega)) (pc' := 106) rfl (fun y20 hy20 hy20' => ?_)
            refine T_op zk_144_106 rfl X_ic (pc' := 107) rfl ?_
            refine T_icmp_ne zk_144_107 (by omega) (by omega) (pc' := 110) rfl (fun h21 => ?_) (fun h22 => ?_)
            ·
              refine T_ld zk_144_116 rfl rfl rfl (pc' := 117) rfl ?_
              refine T_getR (t' := 38) (i' := 0) (k' := 0) zk_144_117 rfl rfl rfl vd_35 (pc' := 120) rfl ?_
              refine T_ld zk_144_120 rfl rfl rfl (pc' := 121) rfl ?_
              refine G_iald (lo := 0) (hi := 3) (ln := 8) zk_144_121 rfl rfl vd_38 (by omega) (by omega) (by omega) (fun σ' h => h.1.1) (fun _ h => h.2 (by omega) (by omega)) (pc' := 122) rfl (fun y23 hy23 hy23' => ?_)
              refine T_op zk_144_122 rfl X_ic (pc' := 123) rfl ?_
              refine T_icmp_ne zk_144_123 (by omega) (by omega) (pc' := 126) rfl (fun h24 => ?_) (fun h25 => ?_)
              ·
                refine T_ldc2 zk_144_132 (pc' := 135) rfl ?_
                refine T_lcmp zk_144_135 (fun y26 hy26 hy26' ey26 => ?_)
                refine T_if_ne zk_144_136 (by omega) (pc' := 139) rfl (fun h27 => ?_) (fun h28 => ?_)
                ·
                  refine T_op zk_144_143 rfl X_ic (pc' := 144) rfl ?_
                  refine T_st (L' := [(0, av 35 0 0), (1, iv p0), (2, iv p1), (3, iv y1), (4, iv 256), (5, iv x9), (6, jv y16), (8, iv 0)]) zk_144_144 (nL := 10) rfl rfl rfl rfl rfl (pc' := 146) rfl ?_
                  refine T_ld zk_144_146 rfl rfl rfl (pc' := 148) rfl ?_
                  refine T_l2iU zk_144_148 (fun y29 hy29 hy29' _ => ?_)
                  refine T_st (L' := [(0, av 35 0 0), (1, iv p0), (2, iv p1), (3, iv y1), (4, iv 256), (5, iv x9), (6, jv y16), (8, iv 0), (9, iv y29)]) zk_144_149 (nL := 10) rfl rfl rfl rfl rfl (pc' := 151) rfl ?_
                  refine T_ld zk_144_151 rfl rfl rfl (pc' := 152) rfl ?_
                  refine T_getR (t' := 36) (i' := 0) (k' := 0) zk_144_152 rfl rfl rfl vd_35 (pc' := 155) rfl ?_
                  refine T_ld zk_144_155 rfl rfl rfl (pc' := 157) rfl ?_
                  refine T_ld zk_144_157 rfl rfl rfl (pc' := 159) rfl ?_
                  refine T_op zk_144_159 rfl X_add (pc' := 160) rfl ?_
                  refine T_ld zk_144_160 rfl rfl rfl (pc' := 162) rfl ?_
                  refine T_if_eq zk_144_162 (by omega) (pc' := 165) rfl (fun h30 => ?_) (fun h31 => ?_)
                  ·
                    refine T_ld zk_144_170 rfl rfl rfl (pc' := 172) rfl ?_
                    refine T_op zk_144_172 rfl (X_si (v := -300) (by decide)) (pc' := 175) rfl ?_
                    refine T_icmp_ge zk_144_175 (by omega) (by omega) (pc' := 178) rfl (fun h32 => ?_) (fun h33 => ?_)
                    ·
                      refine T_ld zk_144_184 rfl rfl rfl (pc' := 186) rfl ?_
                      refine T_op zk_144_186 rfl (X_si (v := 300) (by decide)) (pc' := 189) rfl ?_
                      refine T_icmp_le zk_144_189 (by omega) (by omega) (pc' := 192) rfl (fun h34 => ?_) (fun h35 => ?_)
                      ·
                        refine T_ld zk_144_198 rfl rfl rfl (pc' := 200) rfl ?_
                        refine G_iast (J' := (fun σ' => IF (MK 256 448 635 637) σ σ' ∧ True)) (ln := 646) zk_144_200 rfl rfl (vd_36 (by omega)) (by omega) (by omega) (by omega) (fun σ' h => ⟨h.1.up (by simp only [rgP] <;> omega) (by first | exact pMK rfl | (unfold MK; omega)), trivial⟩) (pc' := 201) rfl ?_
                        refine T_iinc (L' := [(0, av 35 0 0), (1, iv p0), (2, iv p1), (3, iv y1), (4, iv 256), (5, iv (x9 + 1)), (6, jv y16), (8, iv 0), (9, iv y29)]) zk_144_201 (nL := 10) rfl rfl rfl rfl (pc' := 204) rfl ?_
                        refine T_goto zk_144_204 ?_
                        refine T_loc (L := [(0, av 35 0 0), (1, iv p0), (2, iv p1), (3, iv y1), (4, iv 256), (5, iv (x9 + 1))]) (E := [(6, jv y16), (8, iv 0), (9, iv y29)]) rfl ?_
                        exact ih10 (x9 + 1) (by omega) (by omega)
                      ·
                        refine T_op zk_144_192 rfl (X_si (v := 300) (by decide)) (pc' := 195) rfl ?_
                        refine T_goto zk_144_195 ?_
                        refine G_iast (J' := (fun σ' => IF (MK 256 448 635 637) σ σ' ∧ True)) (ln := 646) zk_144_200 rfl rfl (vd_36 (by omega)) (by omega) (by omega) (by omega) (fun σ' h => ⟨h.1.up (by simp only [rgP] <;> omega) (by first | exact pMK rfl | (unfold MK; omega)), trivial⟩) (pc' := 201) rfl ?_
                        refine T_iinc (L' := [(0, av 35 0 0), (1, iv p0), (2, iv p1), (3, iv y1), (4, iv 256), (5, iv (x9 + 1)), (6, jv y16), (8, iv 0), (9, iv y29)]) zk_144_201 (nL := 10) rfl rfl rfl rfl (pc' := 204) rfl ?_
                        refine T_goto zk_144_204 ?_
                        refine T_loc (L := [(0, av 35 0 0), (1, iv p0), (2, iv p1), (3, iv y1), (4, iv 256), (5, iv (x9 + 1))]) (E := [(6, jv y16), (8, iv 0), (9, iv y29)]) rfl ?_
                        exact ih10 (x9 + 1) (by omega) (by omega)
                    ·
                      refine T_op zk_144_178 rfl (X_si (v := -300) (by decide)) (pc' := 181) rfl ?_
                      refine T_goto zk_144_181 ?_
                      refine G_iast (J' := (fun σ' => IF (MK 256 448 635 637) σ σ' ∧ True)) (ln := 646) zk_144_200 rfl rfl (vd_36 (by omega)) (by omega) (by omega) (by omega) (fun σ' h => ⟨h.1.up (by simp only [rgP] <;> omega) (by first | exact pMK rfl | (unfold MK; omega)), trivial⟩) (pc' := 201) rfl ?_
                      refine T_iinc (L' := [(0, av 35 0 0), (1, iv p0), (2, iv p1), (3, iv y1), (4, iv 256), (5, iv (x9 + 1)), (6, jv y16), (8, iv 0), (9, iv y29)]) zk_144_201 (nL := 10) rfl rfl rfl rfl (pc' := 204) rfl ?_
                      refine T_goto zk_144_204 ?_
                      refine T_loc (L := [(0, av 35 0 0), (1, iv p0), (2, iv p1), (3, iv y1), (4, iv 256), (5, iv (x9 + 1))]) (E := [(6, jv y16), (8, iv 0), (9, iv y29)]) rfl ?_
                      exact ih10 (x9 + 1) (by omega) (by omega)
                  · exfalso; omega
                ·
                  refine T_op zk_144_139 rfl X_ic (pc' := 140) rfl ?_
                  refine T_goto zk_144_140 ?_
                  refine T_st (L' := [(0, av 35 0 0), (1, iv p0), (2, iv p1), (3, iv y1), (4, iv 256), (5, iv x9), (6, jv y16), (8, iv 1)]) zk_144_144 (nL := 10) rfl rfl rfl rfl rfl (pc' := 146) rfl ?_
                  refine T_ld zk_144_146 rfl rfl rfl (pc' := 148) rfl ?_
                  refine T_l2iU zk_144_148 (fun y36 hy36 hy36' _ => ?_)
                  refine T_st (L' := [(0, av 35 0 0), (1, iv p0), (2, iv p1), (3, iv y1), (4, iv 256), (5, iv x9), (6, jv y16), (8, iv 1), (9, iv y36)]) zk_144_149 (nL := 10) rfl rfl rfl rfl rfl (pc' := 151) rfl ?_
                  refine T_ld zk_144_151 rfl rfl rfl (pc' := 152) rfl ?_
                  refine T_getR (t' := 36) (i' := 0) (k' := 0) zk_144_152 rfl rfl rfl vd_35 (pc' := 155) rfl ?_
                  refine T_ld zk_144_155 rfl rfl rfl (pc' := 157) rfl ?_
                  refine T_ld zk_144_157 rfl rfl rfl (pc' := 159) rfl ?_
                  refine T_op zk_144_159 rfl X_add (pc' := 160) rfl ?_
                  refine T_ld zk_144_160 rfl rfl rfl (pc' := 162) rfl ?_
                  refine T_if_eq zk_144_162 (by omega) (pc' := 165) rfl (fun h37 => ?_) (fun h38 => ?_)
                  · exfalso; omega
                  ·
                    refine T_op zk_144_165 rfl (X_bi (v := 30) (by decide)) (pc' := 167) rfl ?_
                    refine T_goto zk_144_167 ?_
                    refine G_iast (J' := (fun σ' => IF (MK 256 448 635 637) σ σ' ∧ True)) (ln := 646) zk_144_200 rfl rfl (vd_36 (by omega)) (by omega) (by omega) (by omega) (fun σ' h => ⟨h.1.up (by simp only [rgP] <;> omega) (by first | exact pMK rfl | (unfold MK; omega)), trivial⟩) (pc' := 201) rfl ?_
                    refine T_iinc (L' := [(0, av 35 0 0), (1, iv p0), (2, iv p1), (3, iv y1), (4, iv 256), (5, iv (x9 + 1)), (6, jv y16), (8, iv 1), (9, iv y36)]) zk_144_201 (nL := 10) rfl rfl rfl rfl (pc' := 204) rfl ?_
                    refine T_goto zk_144_204 ?_
                    refine T_loc (L := [(0, av 35 0 0), (1, iv p0), (2, iv p1), (3, iv y1), (4, iv 256), (5, iv (x9 + 1))]) (E := [(6, jv y16), (8, iv 1), (9, iv y36)]) rfl ?_
                    exact ih10 (x9 + 1) (by omega) (by omega)
              ·
                refine T_ldc2 zk_144_126 (pc' := 129) rfl ?_
                refine T_goto zk_144_129 ?_
                refine T_lcmp zk_144_135 (fun y39 hy39 hy39' ey39 => ?_)
                refine T_if_ne zk_144_136 (by omega) (pc' := 139) rfl (fun h40 => ?_) (fun h41 => ?_)
                ·
                  refine T_op zk_144_143 rfl X_ic (pc' := 144) rfl ?_
                  refine T_st (L' := [(0, av 35 0 0), (1, iv p0), (2, iv p1), (3, iv y1), (4, iv 256), (5, iv x9), (6, jv y16), (8, iv 0)]) zk_144_144 (nL := 10) rfl rfl rfl rfl rfl (pc' := 146) rfl ?_
                  refine T_ld zk_144_146 rfl rfl rfl (pc' := 148) rfl ?_
                  refine T_l2iU zk_144_148 (fun y42 hy42 hy42' _ => ?_)
                  refine T_st (L' := [(0, av 35 0 0), (1, iv p0), (2, iv p1), (3, iv y1), (4, iv 256), (5, iv x9), (6, jv y16), (8, iv 0), (9, iv y42)]) zk_144_149 (nL := 10) rfl rfl rfl rfl rfl (pc' := 151) rfl ?_
                  refine T_ld zk_144_151 rfl rfl rfl (pc' := 152) rfl ?_
                  refine T_getR (t' := 36) (i' := 0) (k' := 0) zk_144_152 rfl rfl rfl vd_35 (pc' := 155) rfl ?_
                  refine T_ld zk_144_155 rfl rfl rfl (pc' := 157) rfl ?_
                  refine T_ld zk_144_157 rfl rfl rfl (pc' := 159) rfl ?_
                  refine T_op zk_144_159 rfl X_add (pc' := 160) rfl ?_
                  refine T_ld zk_144_160 rfl rfl rfl (pc' := 162) rfl ?_
                  refine T_if_eq zk_144_162 (by omega) (pc' := 165) rfl (fun h43 => ?_) (fun h44 => ?_)
                  ·
                    refine T_ld zk_144_170 rfl rfl rfl (pc' := 172) rfl ?_
                    refine T_op zk_144_172 rfl (X_si (v := -300) (by decide)) (pc' := 175) rfl ?_
                    refine T_icmp_ge zk_144_175 (by omega) (by omega) (pc' := 178) rfl (fun h45 => ?_) (fun h46 => ?_)
                    ·
                      refine T_ld zk_144_184 rfl rfl rfl (pc' := 186) rfl ?_
                      refine T_op zk_144_186 rfl (X_si (v := 300) (by decide)) (pc' := 189) rfl ?_
                      refine T_icmp_le zk_144_189 (by omega) (by omega) (pc' := 192) rfl (fun h47 => ?_) (fun h48 => ?_)
                      ·
                        refine T_ld zk_144_198 rfl rfl rfl (pc' := 200) rfl ?_
                        refine G_iast (J' := (fun σ' => IF (MK 256 448 635 637) σ σ' ∧ True)) (ln := 646) zk_144_200 rfl rfl (vd_36 (by omega)) (by omega) (by omega) (by omega) (fun σ' h => ⟨h.1.up (by simp only [rgP] <;> omega) (by first | exact pMK rfl | (unfold MK; omega)), trivial⟩) (pc' := 201) rfl ?_
                        refine T_iinc (L' := [(0, av 35 0 0), (1, iv p0), (2, iv p1), (3, iv y1), (4, iv 256), (5, iv (x9 + 1)), (6, jv y16), (8, iv 0), (9, iv y42)]) zk_144_201 (nL := 10) rfl rfl rfl rfl (pc' := 204) rfl ?_
                        refine T_goto zk_144_204 ?_
                        refine T_loc (L := [(0, av 35 0 0), (1, iv p0), (2, iv p1), (3, iv y1), (4, iv 256), (5, iv (x9 + 1))]) (E := [(6, jv y16), (8, iv 0), (9, iv y42)]) rfl ?_
                        exact ih10 (x9 + 1) (by omega) (by omega)
                      ·
                        refine T_op zk_144_192 rfl (X_si (v := 300) (by decide)) (pc' := 195) rfl ?_
                        refine T_goto zk_144_195 ?_
                        refine G_iast (J' := (fun σ' => IF (MK 256 448 635 637) σ σ' ∧ True)) (ln := 646) zk_144_200 rfl rfl (vd_36 (by omega)) (by omega) (by omega) (by omega) (fun σ' h => ⟨h.1.up (by simp only [rgP] <;> omega) (by first | exact pMK rfl | (unfold MK; omega)), trivial⟩) (pc' := 201) rfl ?_
                        refine T_iinc (L' := [(0, av 35 0 0), (1, iv p0), (2, iv p1), (3, iv y1), (4, iv 256), (5, iv (x9 + 1)), (6, jv y16), (8, iv 0), (9, iv y42)]) zk_144_201 (nL := 10) rfl rfl rfl rfl (pc' := 204) rfl ?_
                        refine T_goto zk_144_204 ?_
                        refine T_loc (L := [(0, av 35 0 0), (1, iv p0), (2, iv p1), (3, iv y1), (4, iv 256), (5, iv (x9 + 1))]) (E := [(6, jv y16), (8, iv 0), (9, iv y42)]) rfl ?_
                        exact ih10 (x9 + 1) (by omega) (by omega)
                    ·
                      refine T_op zk_144_178 rfl (X_si (v := -300) (by decide)) (pc' := 181) rfl ?_
                      refine T_goto zk_144_181 ?_
                      refine G_iast (J' := (fun σ' => IF (MK 256 448 635 637) σ σ' ∧ True)) (ln := 646) zk_144_200 rfl rfl (vd_36 (by omega)) (by omega) (by omega) (by omega) (fun σ' h => ⟨h.1.up (by simp only [rgP] <;> omega) (by first | exact pMK rfl | (unfold MK; omega)), trivial⟩) (pc' := 201) rfl ?_
                      refine T_iinc (L' := [(0, av 35 0 0), (1, iv p0), (2, iv p1), (3, iv y1), (4, iv 256), (5, iv (x9 + 1)), (6, jv y16), (8, iv 0), (9, iv y42)]) zk_144_201 (nL := 10) rfl rfl rfl rfl (pc' := 204) rfl ?_
                      refine T_goto zk_144_204 ?_
                      refine T_loc (L := [(0, av 35 0 0), (1, iv p0), (2, iv p1), (3, iv y1), (4, iv 256), (5, iv (x9 + 1))]) (E := [(6, jv y16), (8, iv 0), (9, iv y42)]) rfl ?_
                      exact ih10 (x9 + 1) (by omega) (by omega)
                  · exfalso; omega
                ·
                  refine T_op zk_144_139 rfl X_ic (pc' := 140) rfl ?_
                  refine T_goto zk_144_140 ?_
                  refine T_st (L' := [(0, av 35 0 0), (1, iv p0), (2, iv p1), (3, iv y1), (4, iv 256), (5, iv x9), (6, jv y16), (8, iv 1)]) zk_144_144 (nL := 10) rfl rfl rfl rfl rfl (pc' := 146) rfl ?_
                  refine T_ld zk_144_146 rfl rfl rfl (pc' := 148) rfl ?_
                  refine T_l2iU zk_144_148 (fun y49 hy49 hy49' _ => ?_)
                  refine T_st (L' := [(0, av 35 0 0), (1, iv p0), (2, iv p1), (3, iv y1), (4, iv 256), (5, iv x9), (6, jv y16), (8, iv 1), (9, iv y49)]) zk_144_149 (nL := 10) rfl rfl rfl rfl rfl (pc' := 151) rfl ?_
                  refine T_ld zk_144_151 rfl rfl rfl (pc' := 152) rfl ?_
                  refine T_getR (t' := 36) (i' := 0) (k' := 0) zk_144_152 rfl rfl rfl vd_35 (pc' := 155) rfl ?_
                  refine T_ld zk_144_155 rfl rfl rfl (pc' := 157) rfl ?_
                  refine T_ld zk_144_157 rfl rfl rfl (pc' := 159) rfl ?_
                  refine T_op zk_144_159 rfl X_add (pc' := 160) rfl ?_
                  refine T_ld zk_144_160 rfl rfl rfl (pc' := 162) rfl ?_
                  refine T_if_eq zk_144_162 (by omega) (pc' := 165) rfl (fun h50 => ?_) (fun h51 => ?_)
                  · exfalso; omega
                  ·
                    refine T_op zk_144_165 rfl (X_bi (v := 30) (by decide)) (pc' := 167) rfl ?_
                    refine T_goto zk_144_167 ?_
                    refine G_iast (J' := (fun σ' => IF (MK 256 448 635 637) σ σ' ∧ True)) (ln := 646) zk_144_200 rfl rfl (vd_36 (by omega)) (by omega) (by omega) (by omega) (fun σ' h => ⟨h.1.up (by simp only [rgP] <;> omega) (by first | exact pMK rfl | (unfold MK; omega)), trivial⟩) (pc' := 201) rfl ?_
                    refine T_iinc (L' := [(0, av 35 0 0), (1, iv p0), (2, iv p1), (3, iv y1), (4, iv 256), (5, iv (x9 + 1)), (6, jv y16), (8, iv 1), (9, iv y49)]) zk_144_201 (nL := 10) rfl rfl rfl rfl (pc' := 204) rfl ?_
                    refine T_goto zk_144_204 ?_
                    refine T_loc (L := [(0, av 35 0 0), (1, iv p0), (2, iv p1), (3, iv y1), (4, iv 256), (5, iv (x9 + 1))]) (E := [(6, jv y16), (8, iv 1), (9, iv y49)]) rfl ?_
                    exact ih10 (x9 + 1) (by omega) (by omega)
            ·
              refine T_ldc2 zk_144_110 (pc' := 113) rfl ?_
              refine T_goto zk_144_113 ?_
              refine T_lcmp zk_144_135 (fun y52 hy52 hy52' ey52 => ?_)
              refine T_if_ne zk_144_136 (by omega) (pc' := 139) rfl (fun h53 => ?_) (fun h54 => ?_)
              ·
                refine T_op zk_144_143 rfl X_ic (pc' := 144) rfl ?_
                refine T_st (L' := [(0, av 35 0 0), (1, iv p0), (2, iv p1), (3, iv y1), (4, iv 256), (5, iv x9), (6, jv y16), (8, iv 0)]) zk_144_144 (nL := 10) rfl rfl rfl rfl rfl (pc' := 146) rfl ?_
                refine T_ld zk_144_146 rfl rfl rfl (pc' := 148) rfl ?_
                refine T_l2iU zk_144_148 (fun y55 hy55 hy55' _ => ?_)
                refine T_st (L' := [(0, av 35 0 0), (1, iv p0), (2, iv p1), (3, iv y1), (4, iv 256), (5, iv x9), (6, jv y16), (8, iv 0), (9, iv y55)]) zk_144_149 (nL := 10) rfl rfl rfl rfl rfl (pc' := 151) rfl ?_
                refine T_ld zk_144_151 rfl rfl rfl (pc' := 152) rfl ?_
                refine T_getR (t' := 36) (i' := 0) (k' := 0) zk_144_152 rfl rfl rfl vd_35 (pc' := 155) rfl ?_
                refine T_ld zk_144_155 rfl rfl rfl (pc' := 157) rfl ?_
                refine T_ld zk_144_157 rfl rfl rfl (pc' := 159) rfl ?_
                refine T_op zk_144_159 rfl X_add (pc' := 160) rfl ?_
                refine T_ld zk_144_160 rfl rfl rfl (pc' := 162) rfl ?_
                refine T_if_eq zk_144_162 (by omega) (pc' := 165) rfl (fun h56 => ?_) (fun h57 => ?_)
                ·
                  refine T_ld zk_144_170 rfl rfl rfl (pc' := 172) rfl ?_
                  refine T_op zk_144_172 rfl (X_si (v := -300) (by decide)) (pc' := 175) rfl ?_
                  refine T_icmp_ge zk_144_175 (by omega) (by omega) (pc' := 178) rfl (fun h58 => ?_) (fun h59 => ?_)
                  ·
                    refine T_ld zk_144_184 rfl rfl rfl (pc' := 186) rfl ?_
                    refine T_op zk_144_186 rfl (X_si (v := 300) (by decide)) (pc' := 189) rfl ?_
                    refine T_icmp_le zk_144_189 (by omega) (by omega) (pc' := 192) rfl (fun h60 => ?_) (fun h61 => ?_)
                    ·
                      refine T_ld zk_144_198 rfl rfl rfl (pc' := 200) rfl ?_
                      refine G_iast (J' := (fun σ' => IF (MK 256 448 635 637) σ σ' ∧ True)) (ln := 646) zk_144_200 rfl rfl (vd_36 (by omega)) (by omega) (by omega) (by omega) (fun σ' h => ⟨h.1.up (by simp only [rgP] <;> omega) (by first | exact pMK rfl | (unfold MK; omega)), trivial⟩) (pc' := 201) rfl ?_
                      refine T_iinc (L' := [(0, av 35 0 0), (1, iv p0), (2, iv p1), (3, iv y1), (4, iv 256), (5, iv (x9 + 1)), (6, jv y16), (8, iv 0), (9, iv y55)]) zk_144_201 (nL := 10) rfl rfl rfl rfl (pc' := 204) rfl ?_
                      refine T_goto zk_144_204 ?_
                      refine T_loc (L := [(0, av 35 0 0), (1, iv p0), (2, iv p1), (3, iv y1), (4, iv 256), (5, iv (x9 + 1))]) (E := [(6, jv y16), (8, iv 0), (9, iv y55)]) rfl ?_
                      exact ih10 (x9 + 1) (by omega) (by omega)
                    ·
                      refine T_op zk_144_192 rfl (X_si (v := 300) (by decide)) (pc' := 195) rfl ?_
                      refine T_goto zk_144_195 ?_
                      refine G_iast (J' := (fun σ' => IF (MK 256 448 635 637) σ σ' ∧ True)) (ln := 646) zk_144_200 rfl rfl (vd_36 (by omega)) (by omega) (by omega) (by omega) (fun σ' h => ⟨h.1.up (by simp only [rgP] <;> omega) (by first | exact pMK rfl | (unfold MK; omega)), trivial⟩) (pc' := 201) rfl ?_
                      refine T_iinc (L' := [(0, av 35 0 0), (1, iv p0), (2, iv p1), (3, iv y1), (4, iv 256), (5, iv (x9 + 1)), (6, jv y16), (8, iv 0), (9, iv y55)]) zk_144_201 (nL := 10) rfl rfl rfl rfl (pc' := 204) rfl ?_
                      refine T_goto zk_144_204 ?_
                      refine T_loc (L := [(0, av 35 0 0), (1, iv p0), (2, iv p1), (3, iv y1), (4, iv 256), (5, iv (x9 + 1))]) (E := [(6, jv y16), (8, iv 0), (9, iv y55)]) rfl ?_
                      exact ih10 (x9 + 1) (by omega) (by omega)
                  ·
                    refine T_op zk_144_178 rfl (X_si (v := -300) (by decide)) (pc' := 181) rfl ?_
                    refine T_goto zk_144_181 ?_
                    refine G_iast (J' := (fun σ' => IF (MK 256 448 635 637) σ σ' ∧ True)) (ln := 646) zk_144_200 rfl rfl (vd_36 (by omega)) (by omega) (by omega) (by omega) (fun σ' h => ⟨h.1.up (by simp only [rgP] <;> omega) (by first | exact pMK rfl | (unfold MK; omega)), trivial⟩) (pc' := 201) rfl ?_
                    refine T_iinc (L' := [(0, av 35 0 0), (1, iv p0), (2, iv p1), (3, iv y1), (4, iv 256), (5, iv (x9 + 1)), (6, jv y16), (8, iv 0), (9, iv y55)]) zk_144_201 (nL := 10) rfl rfl rfl rfl (pc' := 204) rfl ?_
                    refine T_goto zk_144_204 ?_
                    refine T_loc (L := [(0, av 35 0 0), (1, iv p0), (2, iv p1), (3, iv y1), (4, iv 256), (5, iv (x9 + 1))]) (E := [(6, jv y16), (8, iv 0), (9, iv y55)]) rfl ?_
                    exact ih10 (x9 + 1) (by omega) (by omega)
                · exfalso; omega
              ·
                refine T_op zk_144_139 rfl X_ic (pc' := 140) rfl ?_
                refine T_goto zk_144_140 ?_
                refine T_st (L' := [(0, av 35 0 0), (1, iv p0), (2, iv p1), (3, iv y1), (4, iv 256), (5, iv x9), (6, jv y16), (8, iv 1)]) zk_144_144 (nL := 10) rfl rfl rfl rfl rfl (pc' := 146) rfl ?_
                refine T_ld zk_144_146 rfl rfl rfl (pc' := 148) rfl ?_
                refine T_l2iU zk_144_148 (fun y62 hy62 hy62' _ => ?_)
                refine T_st (L' := [(0, av 35 0 0), (1, iv p0), (2, iv p1), (3, iv y1), (4, iv 256), (5, iv x9), (6, jv y16), (8, iv 1), (9, iv y62)]) zk_144_149 (nL := 10) rfl rfl rfl rfl rfl (pc' := 151) rfl ?_
                refine T_ld zk_144_151 rfl rfl rfl (pc' := 152) rfl ?_
                refine T_getR (t' := 36) (i' := 0) (k' := 0) zk_144_152 rfl rfl rfl vd_35 (pc' := 155) rfl ?_
                refine T_ld zk_144_155 rfl rfl rfl (pc' := 157) rfl ?_
                refine T_ld zk_144_157 rfl rfl rfl (pc' := 159) rfl ?_
                refine T_op zk_144_159 rfl X_add (pc' := 160) rfl ?_
                refine T_ld zk_144_160 rfl rfl rfl (pc' := 162) rfl ?_
                refine T_if_eq zk_144_162 (by omega) (pc' := 165) rfl (fun h63 => ?_) (fun h64 => ?_)
                · exfalso; omega
                ·
                  refine T_op zk_144_165 rfl (X_bi (v := 30) (by decide)) (pc' := 167) rfl ?_
                  refine T_goto zk_144_167 ?_
                  refine G_iast (J' := (fun σ' => IF (MK 256 448 635 637) σ σ' ∧ True)) (ln := 646) zk_144_200 rfl rfl (vd_36 (by omega)) (by omega) (by omega) (by omega) (fun σ' h => ⟨h.1.up (by simp only [rgP] <;> omega) (by first | exact pMK rfl | (unfold MK; omega)), trivial⟩) (pc' := 201) rfl ?_
                  refine T_iinc (L' := [(0, av 35 0 0), (1, iv p0), (2, iv p1), (3, iv y1), (4, iv 256), (5, iv (x9 + 1)), (6, jv y16), (8, iv 1), (9, iv y62)]) zk_144_201 (nL := 10) rfl rfl rfl rfl (pc' := 204) rfl ?_
                  refine T_goto zk_144_204 ?_
                  refine T_loc (L := [(0, av 35 0 0), (1, iv p0), (2, iv p1), (3, iv y1), (4, iv 256), (5, iv (x9 + 1))]) (E := [(6, jv y16), (8, iv 1), (9, iv y62)]) rfl ?_
                  exact ih10 (x9 + 1) (by omega) (by omega)
          ·
            refine T_ldc2 zk_144_94 (pc' := 97) rfl ?_
            refine T_goto zk_144_97 ?_
            refine T_lcmp zk_144_135 (fun y65 hy65 hy65' ey65 => ?_)
            refine T_if_ne zk_144_136 (by omega) (pc' := 139) rfl (fun h66 => ?_) (fun h67 => ?_)
            ·
              refine T_op zk_144_143 rfl X_ic (pc' := 144) rfl ?_
              refine T_st (L' := [(0, av 35 0 0), (1, iv p0), (2, iv p1), (3, iv y1), (4, iv 256), (5, iv x9), (6, jv y16), (8, iv 0)]) zk_144_144 (nL := 10) rfl rfl rfl rfl rfl (pc' := 146) rfl ?_
              refine T_ld zk_144_146 rfl rfl rfl (pc' := 148) rfl ?_
              refine T_l2iU zk_144_148 (fun y68 hy68 hy68' _ => ?_)
              refine T_st (L' := [(0, av 35 0 0), (1, iv p0), (2, iv p1), (3, iv y1), (4, iv 256), (5, iv x9), (6, jv y16), (8, iv 0), (9, iv y68)]) zk_144_149 (nL := 10) rfl rfl rfl rfl rfl (pc' := 151) rfl ?_
              refine T_ld zk_144_151 rfl rfl rfl (pc' := 152) rfl ?_
              refine T_getR (t' := 36) (i' := 0) (k' := 0) zk_144_152 rfl rfl rfl vd_35 (pc' := 155) rfl ?_
              refine T_ld zk_144_155 rfl rfl rfl (pc' := 157) rfl ?_
              refine T_ld zk_144_157 rfl rfl rfl (pc' := 159) rfl ?_
              refine T_op zk_144_159 rfl X_add (pc' := 160) rfl ?_
              refine T_ld zk_144_160 rfl rfl rfl (pc' := 162) rfl ?_
              refine T_if_eq zk_144_162 (by omega) (pc' := 165) rfl (fun h69 => ?_) (fun h70 => ?_)
              ·
                refine T_ld zk_144_170 rfl rfl rfl (pc' := 172) rfl ?_
                refine T_op zk_144_172 rfl (X_si (v := -300) (by decide)) (pc' := 175) rfl ?_
                refine T_icmp_ge zk_144_175 (by omega) (by omega) (pc' := 178) rfl (fun h71 => ?_) (fun h72 => ?_)
                ·
                  refine T_ld zk_144_184 rfl rfl rfl (pc' := 186) rfl ?_
                  refine T_op zk_144_186 rfl (X_si (v := 300) (by decide)) (pc' := 189) rfl ?_
                  refine T_icmp_le zk_144_189 (by omega) (by omega) (pc' := 192) rfl (fun h73 => ?_) (fun h74 => ?_)
                  ·
                    refine T_ld zk_144_198 rfl rfl rfl (pc' := 200) rfl ?_
                    refine G_iast (J' := (fun σ' => IF (MK 256 448 635 637) σ σ' ∧ True)) (ln := 646) zk_144_200 rfl rfl (vd_36 (by omega)) (by omega) (by omega) (by omega) (fun σ' h => ⟨h.1.up (by simp only [rgP] <;> omega) (by first | exact pMK rfl | (unfold MK; omega)), trivial⟩) (pc' := 201) rfl ?_
                    refine T_iinc (L' := [(0, av 35 0 0), (1, iv p0), (2, iv p1), (3, iv y1), (4, iv 256), (5, iv (x9 + 1)), (6, jv y16), (8, iv 0), (9, iv y68)]) zk_144_201 (nL := 10) rfl rfl rfl rfl (pc' := 204) rfl ?_
                    refine T_goto zk_144_204 ?_
                    refine T_loc (L := [(0, av 35 0 0), (1, iv p0), (2, iv p1), (3, iv y1), (4, iv 256), (5, iv (x9 + 1))]) (E := [(6, jv y16), (8, iv 0), (9, iv y68)]) rfl ?_
                    exact ih10 (x9 + 1) (by omega) (by omega)
                  ·
                    refine T_op zk_144_192 rfl (X_si (v := 300) (by decide)) (pc' := 195) rfl ?_
                    refine T_goto zk_144_195 ?_
                    refine G_iast (J' := (fun σ' => IF (MK 256 448 635 637) σ σ' ∧ True)) (ln := 646) zk_144_200 rfl rfl (vd_36 (by omega)) (by omega) (by omega) (by omega) (fun σ' h => ⟨h.1.up (by simp only [rgP] <;> omega) (by first | exact pMK rfl | (unfold MK; omega)), trivial⟩) (pc' := 201) rfl ?_
                    refine T_iinc (L' := [(0, av 35 0 0), (1, iv p0), (2, iv p1), (3, iv y1), (4, iv 256), (5, iv (x9 + 1)), (6, jv y16), (8, iv 0), (9, iv y68)]) zk_144_201 (nL := 10) rfl rfl rfl rfl (pc' := 204) rfl ?_
                    refine T_goto zk_144_204 ?_
                    refine T_loc (L := [(0, av 35 0 0), (1, iv p0), (2, iv p1), (3, iv y1), (4, iv 256), (5, iv (x9 + 1))]) (E := [(6, jv y16), (8, iv 0), (9, iv y68)]) rfl ?_
                    exact ih10 (x9 + 1) (by omega) (by omega)
                ·
                  refine T_op zk_144_178 rfl (X_si (v := -300) (by decide)) (pc' := 181) rfl ?_
                  refine T_goto zk_144_181 ?_
                  refine G_iast (J' := (fun σ' => IF (MK 256 448 635 637) σ σ' ∧ True)) (ln := 646) zk_144_200 rfl rfl (vd_36 (by omega)) (by omega) (by omega) (by omega) (fun σ' h => ⟨h.1.up (by simp only [rgP] <;> omega) (by first | exact pMK rfl | (unfold MK; omega)), trivial⟩) (pc' := 201) rfl ?_
                  refine T_iinc (L' := [(0, av 35 0 0), (1, iv p0), (2, iv p1), (3, iv y1), (4, iv 256), (5, iv (x9 + 1)), (6, jv y16), (8, iv 0), (9, iv y68)]) zk_144_201 (nL := 10) rfl rfl rfl rfl (pc' := 204) rfl ?_
                  refine T_goto zk_144_204 ?_
                  refine T_loc (L := [(0, av 35 0 0), (1, iv p0), (2, iv p1), (3, iv y1), (4, iv 256), (5, iv (x9 + 1))]) (E := [(6, jv y16), (8, iv 0), (9, iv y68)]) rfl ?_
                  exact ih10 (x9 + 1) (by omega) (by omega)
              · exfalso; omega
            ·
              refine T_op zk_144_139 rfl X_ic (pc' := 140) rfl ?_
              refine T_goto zk_144_140 ?_
              refine T_st (L' := [(0, av 35 0 0), (1, iv p0), (2, iv p1), (3, iv y1), (4, iv 256), (5, iv x9), (6, jv y16), (8, iv 1)]) zk_144_144 (nL := 10) rfl rfl rfl rfl rfl (pc' := 146) rfl ?_
              refine T_ld zk_144_146 rfl rfl rfl (pc' := 148) rfl ?_
              refine T_l2iU zk_144_148 (fun y75 hy75 hy75' _ => ?_)
              refine T_st (L' := [(0, av 35 0 0), (1, iv p0), (2, iv p1), (3, iv y1), (4, iv 256), (5, iv x9), (6, jv y16), (8, iv 1), (9, iv y75)]) zk_144_149 (nL := 10) rfl rfl rfl rfl rfl (pc' := 151) rfl ?_
              refine T_ld zk_144_151 rfl rfl rfl (pc' := 152) rfl ?_
              refine T_getR (t' := 36) (i' := 0) (k' := 0) zk_144_152 rfl rfl rfl vd_35 (pc' := 155) rfl ?_
              refine T_ld zk_144_155 rfl rfl rfl (pc' := 157) rfl ?_
              refine T_ld zk_144_157 rfl rfl rfl (pc' := 159) rfl ?_
              refine T_op zk_144_159 rfl X_add (pc' := 160) rfl ?_
              refine T_ld zk_144_160 rfl rfl rfl (pc' := 162) rfl ?_
              refine T_if_eq zk_144_162 (by omega) (pc' := 165) rfl (fun h76 => ?_) (fun h77 => ?_)
              · exfalso; omega
              ·
                refine T_op zk_144_165 rfl (X_bi (v := 30) (by decide)) (pc' := 167) rfl ?_
                refine T_goto zk_144_167 ?_
                refine G_iast (J' := (fun σ' => IF (MK 256 448 635 637) σ σ' ∧ True)) (ln := 646) zk_144_200 rfl rfl (vd_36 (by omega)) (by omega) (by omega) (by omega) (fun σ' h => ⟨h.1.up (by simp only [rgP] <;> omega) (by first | exact pMK rfl | (unfold MK; omega)), trivial⟩) (pc' := 201) rfl ?_
                refine T_iinc (L' := [(0, av 35 0 0), (1, iv p0), (2, iv p1), (3, iv y1), (4, iv 256), (5, iv (x9 + 1)), (6, jv y16), (8, iv 1), (9, iv y75)]) zk_144_201 (nL := 10) rfl rfl rfl rfl (pc' := 204) rfl ?_
                refine T_goto zk_144_204 ?_
                refine T_loc (L := [(0, av 35 0 0), (1, iv p0), (2, iv p1), (3, iv y1), (4, iv 256), (5, iv (x9 + 1))]) (E := [(6, jv y16), (8, iv 1), (9, iv y75)]) rfl ?_
                exact ih10 (x9 + 1) (by omega) (by omega)
      · exfalso; omega
    ·
      refine T_op zk_144_20 rfl (X_si (v := 352) (by decide)) (pc' := 23) rfl ?_
      refine T_goto zk_144_23 ?_
      refine T_st (L' := [(0, av 35 0 0), (1, iv p0), (2, iv p1), (3, iv y1), (4, iv 352)]) zk_144_29 (nL := 10) rfl rfl rfl rfl rfl (pc' := 31) rfl ?_
      refine T_ld zk_144_31 rfl rfl rfl (pc' := 32) rfl ?_
      refine T_getR (t' := 36) (i' := 0) (k' := 0) zk_144_32 rfl rfl rfl vd_35 (pc' := 35) rfl ?_
      refine T_ld zk_144_35 rfl rfl rfl (pc' := 36) rfl ?_
      refine T_if_eq zk_144_36 (by omega) (pc' := 39) rfl (fun h78 => ?_) (fun h79 => ?_)
      · exfalso; omega
      ·
        refine T_op zk_144_39 rfl (X_si (v := 636) (by decide)) (pc' := 42) rfl ?_
        refine T_goto zk_144_42 ?_
        refine T_ld zk_144_48 rfl rfl rfl (pc' := 49) rfl ?_
        refine T_getR (t' := 39) (i' := 0) (k' := 0) zk_144_49 rfl rfl rfl vd_35 (pc' := 52) rfl ?_
        refine T_ld zk_144_52 rfl rfl rfl (pc' := 53) rfl ?_
        refine G_iald (lo := 0) (hi := 96) (ln := 8) zk_144_53 rfl rfl vd_39 (by omega) (by omega) (by omega) (fun σ' h => h.1.1) (fun _ h => h.2 (by omega) (by omega)) (pc' := 54) rfl (fun y80 hy80 hy80' => ?_)
        refine G_iast (J' := (fun σ' => IF (MK 256 448 635 637) σ σ' ∧ True)) (ln := 646) zk_144_54 rfl rfl (vd_36 (by omega)) (by omega) (by omega) (by omega) (fun σ' h => ⟨h.1.up (by simp only [rgP] <;> omega) (by first | exact pMK rfl | (unfold MK; omega)), trivial⟩) (pc' := 55) rfl ?_
        refine T_op zk_144_55 rfl X_ic (pc' := 56) rfl ?_
        refine T_st (L' := [(0, av 35 0 0), (1, iv p0), (2, iv p1), (3, iv y1), (4, iv 352), (5, iv 0)]) zk_144_56 (nL := 10) rfl rfl rfl rfl rfl (pc' := 58) rfl ?_
        refine T_loop1 (fun x81 => ((96 - x81 : Int)).toNat) (fun x81 => (0 ≤ x81 ∧ x81 ≤ 96)) (fun x81 => TJ xs (fun σ' => IF (MK 256 448 635 637) σ σ' ∧ True) 2 144 58 [(0, av 35 0 0), (1, iv p0), (2, iv p1), (3, iv y1), (4, iv 352), (5, iv x81)] [] _) ?_ 0 (by omega)
        intro x81 hp83 ih82
        refine T_ld zk_144_58 rfl rfl rfl (pc' := 60) rfl ?_
        refine T_ld zk_144_60 rfl rfl rfl (pc' := 61) rfl ?_
        refine T_getR (t' := 39) (i' := 0) (k' := 0) zk_144_61 rfl rfl rfl vd_35 (pc' := 64) rfl ?_
        refine T_ld zk_144_64 rfl rfl rfl (pc' := 65) rfl ?_
        refine G_iald (lo := 0) (hi := 96) (ln := 8) zk_144_65 rfl rfl vd_39 (by omega) (by omega) (by omega) (fun σ' h => h.1.1) (fun _ h => h.2 (by omega) (by omega)) (pc' := 66) rfl (fun y84 hy84 hy84' => ?_)
        refine T_icmp_ge zk_144_66 (by omega) (by omega) (pc' := 69) rfl (fun h85 => ?_) (fun h86 => ?_)
        ·
          refine T_ld zk_144_207 rfl rfl rfl (pc' := 208) rfl ?_
          refine T_getR (t' := 39) (i' := 0) (k' := 0) zk_144_208 rfl rfl rfl vd_35 (pc' := 211) rfl ?_
          refine T_ld zk_144_211 rfl rfl rfl (pc' := 212) rfl ?_
          refine G_iald (lo := 0) (hi := 96) (ln := 8) zk_144_212 rfl rfl vd_39 (by omega) (by omega) (by omega) (fun σ' h => h.1.1) (fun _ h => h.2 (by omega) (by omega)) (pc' := 213) rfl (fun y87 hy87 hy87' => ?_)
          exact T_iret zk_144_213 rfl (fun σ' h => ⟨_, rfl, (by omega), h.1, trivial⟩)
        ·
          refine T_ld zk_144_69 rfl rfl rfl (pc' := 70) rfl ?_
          refine T_getR (t' := 41) (i' := 0) (k' := 0) zk_144_70 rfl rfl rfl vd_35 (pc' := 73) rfl ?_
          refine T_op zk_144_73 rfl (X_bi (v := 96) (by decide)) (pc' := 75) rfl ?_
          refine T_ld zk_144_75 rfl rfl rfl (pc' := 76) rfl ?_
          refine T_op zk_144_76 rfl X_mul (pc' := 77) rfl ?_
          refine T_ld zk_144_77 rfl rfl rfl (pc' := 79) rfl ?_
          refine T_op zk_144_79 rfl X_add (pc' := 80) rfl ?_
          refine G_lald (ln := 768) zk_144_80 rfl rfl vd_41 (by omega) (by omega) (by omega) (pc' := 81) rfl (fun y88 => ?_)
          refine T_st (L' := [(0, av 35 0 0), (1, iv p0), (2, iv p1), (3, iv y1), (4, iv 352), (5, iv x81), (6, jv y88)]) zk_144_81 (nL := 10) rfl rfl rfl rfl rfl (pc' := 83) rfl ?_
          refine T_ld zk_144_83 rfl rfl rfl (pc' := 85) rfl ?_
          refine T_ld zk_144_85 rfl rfl rfl (pc' := 86) rfl ?_
          refine T_getR (t' := 38) (i' := 0) (k' := 0) zk_144_86 rfl rfl rfl vd_35 (pc' := 89) rfl ?_
          refine T_ld zk_144_89 rfl rfl rfl (pc' := 90) rfl ?_
          refine G_iald (lo := 0) (hi := 3) (ln := 8) zk_144_90 rfl rfl vd_38 (by omega) (by omega) (by omega) (fun σ' h => h.1.1) (fun _ h => h.2 (by omega) (by omega)) (pc' := 91) rfl (fun y89 hy89 hy89' => ?_)
          refine T_if_ne zk_144_91 (by omega) (pc' := 94) rfl (fun h90 => ?_) (fun h91 => ?_)
          ·
            refine T_ld zk_144_100 rfl rfl rfl (pc' := 101) rfl ?_
            refine T_getR (t' := 38) (i' := 0) (k' := 0) zk_144_101 rfl rfl rfl vd_35 (pc' := 104) rfl ?_
            refine T_ld zk_144_104 rfl rfl rfl (pc' := 105) rfl ?_
            refine G_iald (lo := 0) (hi := 3) (ln := 8) zk_144_105 rfl rfl vd_38 (by omega) (by omega) (by omega) (fun σ' h => h.1.1) (fun _ h => h.2 (by omega) (by omega)) (pc' := 106) rfl (fun y92 hy92 hy92' => ?_)
            refine T_op zk_144_106 rfl X_ic (pc' := 107) rfl ?_
            refine T_icmp_ne zk_144_107 (by omega) (by omega) (pc' := 110) rfl (fun h93 => ?_) (fun h94 => ?_)
            ·
              refine T_ld zk_144_116 rfl rfl rfl (pc' := 117) rfl ?_
              refine T_getR (t' := 38) (i' := 0) (k' := 0) zk_144_117 rfl rfl rfl vd_35 (pc' := 120) rfl ?_
              refine T_ld zk_144_120 rfl rfl rfl (pc' := 121) rfl ?_
              refine G_iald (lo := 0) (hi := 3) (ln := 8) zk_144_121 rfl rfl vd_38 (by omega) (by omega) (by omega) (fun σ' h => h.1.1) (fun _ h => h.2 (by omega) (by omega)) (pc' := 122) rfl (fun y95 hy95 hy95' => ?_)
              refine T_op zk_144_122 rfl X_ic (pc' := 123) rfl ?_
              refine T_icmp_ne zk_144_123 (by omega) (by omega) (pc' := 126) rfl (fun h96 => ?_) (fun h97 => ?_)
              ·
                refine T_ldc2 zk_144_132 (pc' := 135) rfl ?_
                refine T_lcmp zk_144_135 (fun y98 hy98 hy98' ey98 => ?_)
                refine T_if_ne zk_144_136 (by omega) (pc' := 139) rfl (fun h99 => ?_) (fun h100 => ?_)
                ·
                  refine T_op zk_144_143 rfl X_ic (pc' := 144) rfl ?_
                  refine T_st (L' := [(0, av 35 0 0), (1, iv p0), (2, iv p1), (3, iv y1), (4, iv 352), (5, iv x81), (6, jv y88), (8, iv 0)]) zk_144_144 (nL := 10) rfl rfl rfl rfl rfl (pc' := 146) rfl ?_
                  refine T_ld zk_144_146 rfl rfl rfl (pc' := 148) rfl ?_
                  refine T_l2iU zk_144_148 (fun y101 hy101 hy101' _ => ?_)
                  refine T_st (L' := [(0, av 35 0 0), (1, iv p0), (2, iv p1), (3, iv y1), (4, iv 352), (5, iv x81), (6, jv y88), (8, iv 0), (9, iv y101)]) zk_144_149 (nL := 10) rfl rfl rfl rfl rfl (pc' := 151) rfl ?_
                  refine T_ld zk_144_151 rfl rfl rfl (pc' := 152) rfl ?_
                  refine T_getR (t' := 36) (i' := 0) (k' := 0) zk_144_152 rfl rfl rfl vd_35 (pc' := 155) rfl ?_
                  refine T_ld zk_144_155 rfl rfl rfl (pc' := 157) rfl ?_
                  refine T_ld zk_144_157 rfl rfl rfl (pc' := 159) rfl ?_
                  refine T_op zk_144_159 rfl X_add (pc' := 160) rfl ?_
                  refine T_ld zk_144_160 rfl rfl rfl (pc' := 162) rfl ?_
                  refine T_if_eq zk_144_162 (by omega) (pc' := 165) rfl (fun h102 => ?_) (fun h103 => ?_)
                  ·
                    refine T_ld zk_144_170 rfl rfl rfl (pc' := 172) rfl ?_
                    refine T_op zk_144_172 rfl (X_si (v := -300) (by decide)) (pc' := 175) rfl ?_
                    refine T_icmp_ge zk_144_175 (by omega) (by omega) (pc' := 178) rfl (fun h104 => ?_) (fun h105 => ?_)
                    ·
                      refine T_ld zk_144_184 rfl rfl rfl (pc' := 186) rfl ?_
                      refine T_op zk_144_186 rfl (X_si (v := 300) (by decide)) (pc' := 189) rfl ?_
                      refine T_icmp_le zk_144_189 (by omega) (by omega) (pc' := 192) rfl (fun h106 => ?_) (fun h107 => ?_)
                      ·
                        refine T_ld zk_144_198 rfl rfl rfl (pc' := 200) rfl ?_
                        refine G_iast (J' := (fun σ' => IF (MK 256 448 635 637) σ σ' ∧ True)) (ln := 646) zk_144_200 rfl rfl (vd_36 (by omega)) (by omega) (by omega) (by omega) (fun σ' h => ⟨h.1.up (by simp only [rgP] <;> omega) (by first | exact pMK rfl | (unfold MK; omega)), trivial⟩) (pc' := 201) rfl ?_
                        refine T_iinc (L' := [(0, av 35 0 0), (1, iv p0), (2, iv p1), (3, iv y1), (4, iv 352), (5, iv (x81 + 1)), (6, jv y88), (8, iv 0), (9, iv y101)]) zk_144_201 (nL := 10) rfl rfl rfl rfl (pc' := 204) rfl ?_
                        refine T_goto zk_144_204 ?_
                        refine T_loc (L := [(0, av 35 0 0), (1, iv p0), (2, iv p1), (3, iv y1), (4, iv 352), (5, iv (x81 + 1))]) (E := [(6, jv y88), (8, iv 0), (9, iv y101)]) rfl ?_
                        exact ih82 (x81 + 1) (by omega) (by omega)
                      ·
                        refine T_op zk_144_192 rfl (X_si (v := 300) (by decide)) (pc' := 195) rfl ?_
                        refine T_goto zk_144_195 ?_
                        refine G_iast (J' := (fun σ' => IF (MK 256 448 635 637) σ σ' ∧ True)) (ln := 646) zk_144_200 rfl rfl (vd_36 (by omega)) (by omega) (by omega) (by omega) (fun σ' h => ⟨h.1.up (by simp only [rgP] <;> omega) (by first | exact pMK rfl | (unfold MK; omega)), trivial⟩) (pc' := 201) rfl ?_
                        refine T_iinc (L' := [(0, av 35 0 0), (1, iv p0), (2, iv p1), (3, iv y1), (4, iv 352), (5, iv (x81 + 1)), (6, jv y88), (8, iv 0), (9, iv y101)]) zk_144_201 (nL := 10) rfl rfl rfl rfl (pc' := 204) rfl ?_
                        refine T_goto zk_144_204 ?_
                        refine T_loc (L := [(0, av 35 0 0), (1, iv p0), (2, iv p1), (3, iv y1), (4, iv 352), (5, iv (x81 + 1))]) (E := [(6, jv y88), (8, iv 0), (9, iv y101)]) rfl ?_
                        exact ih82 (x81 + 1) (by omega) (by omega)
                    ·
                      refine T_op zk_144_178 rfl (X_si (v := -300) (by decide)) (pc' := 181) rfl ?_
                      refine T_goto zk_144_181 ?_
                      refine G_iast (J' := (fun σ' => IF (MK 256 448 635 637) σ σ' ∧ True)) (ln := 646) zk_144_200 rfl rfl (vd_36 (by omega)) (by omega) (by omega) (by omega) (fun σ' h => ⟨h.1.up (by simp only [rgP] <;> omega) (by first | exact pMK rfl | (unfold MK; omega)), trivial⟩) (pc' := 201) rfl ?_
                      refine T_iinc (L' := [(0, av 35 0 0), (1, iv p0), (2, iv p1), (3, iv y1), (4, iv 352), (5, iv (x81 + 1)), (6, jv y88), (8, iv 0), (9, iv y101)]) zk_144_201 (nL := 10) rfl rfl rfl rfl (pc' := 204) rfl ?_
                      refine T_goto zk_144_204 ?_
                      refine T_loc (L := [(0, av 35 0 0), (1, iv p0), (2, iv p1), (3, iv y1), (4, iv 352), (5, iv (x81 + 1))]) (E := [(6, jv y88), (8, iv 0), (9, iv y101)]) rfl ?_
                      exact ih82 (x81 + 1) (by omega) (by omega)
                  · exfalso; omega
                ·
                  refine T_op zk_144_139 rfl X_ic (pc' := 140) rfl ?_
                  refine T_goto zk_144_140 ?_
                  refine T_st (L' := [(0, av 35 0 0), (1, iv p0), (2, iv p1), (3, iv y1), (4, iv 352), (5, iv x81), (6, jv y88), (8, iv 1)]) zk_144_144 (nL := 10) rfl rfl rfl rfl rfl (pc' := 146) rfl ?_
                  refine T_ld zk_144_146 rfl rfl rfl (pc' := 148) rfl ?_
                  refine T_l2iU zk_144_148 (fun y108 hy108 hy108' _ => ?_)
                  refine T_st (L' := [(0, av 35 0 0), (1, iv p0), (2, iv p1), (3, iv y1), (4, iv 352), (5, iv x81), (6, jv y88), (8, iv 1), (9, iv y108)]) zk_144_149 (nL := 10) rfl rfl rfl rfl rfl (pc' := 151) rfl ?_
                  refine T_ld zk_144_151 rfl rfl rfl (pc' := 152) rfl ?_
                  refine T_getR (t' := 36) (i' := 0) (k' := 0) zk_144_152 rfl rfl rfl vd_35 (pc' := 155) rfl ?_
                  refine T_ld zk_144_155 rfl rfl rfl (pc' := 157) rfl ?_
                  refine T_ld zk_144_157 rfl rfl rfl (pc' := 159) rfl ?_
                  refine T_op zk_144_159 rfl X_add (pc' := 160) rfl ?_
                  refine T_ld zk_144_160 rfl rfl rfl (pc' := 162) rfl ?_
                  refine T_if_eq zk_144_162 (by omega) (pc' := 165) rfl (fun h109 => ?_) (fun h110 => ?_)
                  · exfalso; omega
                  ·
                    refine T_op zk_144_165 rfl (X_bi (v := 30) (by decide)) (pc' := 167) rfl ?_
                    refine T_goto zk_144_167 ?_
                    refine G_iast (J' := (fun σ' => IF (MK 256 448 635 637) σ σ' ∧ True)) (ln := 646) zk_144_200 rfl rfl (vd_36 (by omega)) (by omega) (by omega) (by omega) (fun σ' h => ⟨h.1.up (by simp only [rgP] <;> omega) (by first | exact pMK rfl | (unfold MK; omega)), trivial⟩) (pc' := 201) rfl ?_
                    refine T_iinc (L' := [(0, av 35 0 0), (1, iv p0), (2, iv p1), (3, iv y1), (4, iv 352), (5, iv (x81 + 1)), (6, jv y88), (8, iv 1), (9, iv y108)]) zk_144_201 (nL := 10) rfl rfl rfl rfl (pc' := 204) rfl ?_
                    refine T_goto zk_144_204 ?_
                    refine T_loc (L := [(0, av 35 0 0), (1, iv p0), (2, iv p1), (3, iv y1), (4, iv 352), (5, iv (x81 + 1))]) (E := [(6, jv y88), (8, iv 1), (9, iv y108)]) rfl ?_
                    exact ih82 (x81 + 1) (by omega) (by omega)
              ·
                refine T_ldc2 zk_144_126 (pc' := 129) rfl ?_
                refine T_goto zk_144_129 ?_
                refine T_lcmp zk_144_135 (fun y111 hy111 hy111' ey111 => ?_)
                refine T_if_ne zk_144_136 (by omega) (pc' := 139) rfl (fun h112 => ?_) (fun h113 => ?_)
                ·
                  refine T_op zk_144_143 rfl X_ic (pc' := 144) rfl ?_
                  refine T_st (L' := [(0, av 35 0 0), (1, iv p0), (2, iv p1), (3, iv y1), (4, iv 352), (5, iv x81), (6, jv y88), (8, iv 0)]) zk_144_144 (nL := 10) rfl rfl rfl rfl rfl (pc' := 146) rfl ?_
                  refine T_ld zk_144_146 rfl rfl rfl (pc' := 148) rfl ?_
                  refine T_l2iU zk_144_148 (fun y114 hy114 hy114' _ => ?_)
                  refine T_st (L' := [(0, av 35 0 0), (1, iv p0), (2, iv p1), (3, iv y1), (4, iv 352), (5, iv x81), (6, jv y88), (8, iv 0), (9, iv y114)]) zk_144_149 (nL := 10) rfl rfl rfl rfl rfl (pc' := 151) rfl ?_
                  refine T_ld zk_144_151 rfl rfl rfl (pc' := 152) rfl ?_
                  refine T_getR (t' := 36) (i' := 0) (k' := 0) zk_144_152 rfl rfl rfl vd_35 (pc' := 155) rfl ?_
                  refine T_ld zk_144_155 rfl rfl rfl (pc' := 157) rfl ?_
                  refine T_ld zk_144_157 rfl rfl rfl (pc' := 159) rfl ?_
                  refine T_op zk_144_159 rfl X_add (pc' := 160) rfl ?_
                  refine T_ld zk_144_160 rfl rfl rfl (pc' := 162) rfl ?_
                  refine T_if_eq zk_144_162 (by omega) (pc' := 165) rfl (fun h115 => ?_) (fun h116 => ?_)
                  ·
                    refine T_ld zk_144_170 rfl rfl rfl (pc' := 172) rfl ?_
                    refine T_op zk_144_172 rfl (X_si (v := -300) (by decide)) (pc' := 175) rfl ?_
                    refine T_icmp_ge zk_144_175 (by omega) (by omega) (pc' := 178) rfl (fun h117 => ?_) (fun h118 => ?_)
                    ·
                      refine T_ld zk_144_184 rfl rfl rfl (pc' := 186) rfl ?_
                      refine T_op zk_144_186 rfl (X_si (v := 300) (by decide)) (pc' := 189) rfl ?_
                      refine T_icmp_le zk_144_189 (by omega) (by omega) (pc' := 192) rfl (fun h119 => ?_) (fun h120 => ?_)
                      ·
                        refine T_ld zk_144_198 rfl rfl rfl (pc' := 200) rfl ?_
                        refine G_iast (J' := (fun σ' => IF (MK 256 448 635 637) σ σ' ∧ True)) (ln := 646) zk_144_200 rfl rfl (vd_36 (by omega)) (by omega) (by omega) (by omega) (fun σ' h => ⟨h.1.up (by simp only [rgP] <;> omega) (by first | exact pMK rfl | (unfold MK; omega)), trivial⟩) (pc' := 201) rfl ?_
                        refine T_iinc (L' := [(0, av 35 0 0), (1, iv p0), (2, iv p1), (3, iv y1), (4, iv 352), (5, iv (x81 + 1)), (6, jv y88), (8, iv 0), (9, iv y114)]) zk_144_201 (nL := 10) rfl rfl rfl rfl (pc' := 204) rfl ?_
                        refine T_goto zk_144_204 ?_
                        refine T_loc (L := [(0, av 35 0 0), (1, iv p0), (2, iv p1), (3, iv y1), (4, iv 352), (5, iv (x81 + 1))]) (E := [(6, jv y88), (8, iv 0), (9, iv y114)]) rfl ?_
                        exact ih82 (x81 + 1) (by omega) (by omega)
                      ·
                        refine T_op zk_144_192 rfl (X_si (v := 300) (by decide)) (pc' := 195) rfl ?_
                        refine T_goto zk_144_195 ?_
                        refine G_iast (J' := (fun σ' => IF (MK 256 448 635 637) σ σ' ∧ True)) (ln := 646) zk_144_200 rfl rfl (vd_36 (by omega)) (by omega) (by omega) (by omega) (fun σ' h => ⟨h.1.up (by simp only [rgP] <;> omega) (by first | exact pMK rfl | (unfold MK; omega)), trivial⟩) (pc' := 201) rfl ?_
                        refine T_iinc (L' := [(0, av 35 0 0), (1, iv p0), (2, iv p1), (3, iv y1), (4, iv 352), (5, iv (x81 + 1)), (6, jv y88), (8, iv 0), (9, iv y114)]) zk_144_201 (nL := 10) rfl rfl rfl rfl (pc' := 204) rfl ?_
                        refine T_goto zk_144_204 ?_
                        refine T_loc (L := [(0, av 35 0 0), (1, iv p0), (2, iv p1), (3, iv y1), (4, iv 352), (5, iv (x81 + 1))]) (E := [(6, jv y88), (8, iv 0), (9, iv y114)]) rfl ?_
                        exact ih82 (x81 + 1) (by omega) (by omega)
                    ·
                      refine T_op zk_144_178 rfl (X_si (v := -300) (by decide)) (pc' := 181) rfl ?_
                      refine T_goto zk_144_181 ?_
                      refine G_iast (J' := (fun σ' => IF (MK 256 448 635 637) σ σ' ∧ True)) (ln := 646) zk_144_200 rfl rfl (vd_36 (by omega)) (by omega) (by omega) (by omega) (fun σ' h => ⟨h.1.up (by simp only [rgP] <;> omega) (by first | exact pMK rfl | (unfold MK; omega)), trivial⟩) (pc' := 201) rfl ?_
                      refine T_iinc (L' := [(0, av 35 0 0), (1, iv p0), (2, iv p1), (3, iv y1), (4, iv 352), (5, iv (x81 + 1)), (6, jv y88), (8, iv 0), (9, iv y114)]) zk_144_201 (nL := 10) rfl rfl rfl rfl (pc' := 204) rfl ?_
                      refine T_goto zk_144_204 ?_
                      refine T_loc (L := [(0, av 35 0 0), (1, iv p0), (2, iv p1), (3, iv y1), (4, iv 352), (5, iv (x81 + 1))]) (E := [(6, jv y88), (8, iv 0), (9, iv y114)]) rfl ?_
                      exact ih82 (x81 + 1) (by omega) (by omega)
                  · exfalso; omega
                ·
                  refine T_op zk_144_139 rfl X_ic (pc' := 140) rfl ?_
                  refine T_goto zk_144_140 ?_
                  refine T_st (L' := [(0, av 35 0 0), (1, iv p0), (2, iv p1), (3, iv y1), (4, iv 352), (5, iv x81), (6, jv y88), (8, iv 1)]) zk_144_144 (nL := 10) rfl rfl rfl rfl rfl (pc' := 146) rfl ?_
                  refine T_ld zk_144_146 rfl rfl rfl (pc' := 148) rfl ?_
                  refine T_l2iU zk_144_148 (fun y121 hy121 hy121' _ => ?_)
                  refine T_st (L' := [(0, av 35 0 0), (1, iv p0), (2, iv p1), (3, iv y1), (4, iv 352), (5, iv x81), (6, jv y88), (8, iv 1), (9, iv y121)]) zk_144_149 (nL := 10) rfl rfl rfl rfl rfl (pc' := 151) rfl ?_
                  refine T_ld zk_144_151 rfl rfl rfl (pc' := 152) rfl ?_
                  refine T_getR (t' := 36) (i' := 0) (k' := 0) zk_144_152 rfl rfl rfl vd_35 (pc' := 155) rfl ?_
                  refine T_ld zk_144_155 rfl rfl rfl (pc' := 157) rfl ?_
                  refine T_ld zk_144_157 rfl rfl rfl (pc' := 159) rfl ?_
                  refine T_op zk_144_159 rfl X_add (pc' := 160) rfl ?_
                  refine T_ld zk_144_160 rfl rfl rfl (pc' := 162) rfl ?_
                  refine T_if_eq zk_144_162 (by omega) (pc' := 165) rfl (fun h122 => ?_) (fun h123 => ?_)
                  · exfalso; omega
                  ·
                    refine T_op zk_144_165 rfl (X_bi (v := 30) (by decide)) (pc' := 167) rfl ?_
                    refine T_goto zk_144_167 ?_
                    refine G_iast (J' := (fun σ' => IF (MK 256 448 635 637) σ σ' ∧ True)) (ln := 646) zk_144_200 rfl rfl (vd_36 (by omega)) (by omega) (by omega) (by omega) (fun σ' h => ⟨h.1.up (by simp only [rgP] <;> omega) (by first | exact pMK rfl | (unfold MK; omega)), trivial⟩) (pc' := 201) rfl ?_
                    refine T_iinc (L' := [(0, av 35 0 0), (1, iv p0), (2, iv p1), (3, iv y1), (4, iv 352), (5, iv (x81 + 1)), (6, jv y88), (8, iv 1), (9, iv y121)]) zk_144_201 (nL := 10) rfl rfl rfl rfl (pc' := 204) rfl ?_
                    refine T_goto zk_144_204 ?_
                    refine T_loc (L := [(0, av 35 0 0), (1, iv p0), (2, iv p1), (3, iv y1), (4, iv 352), (5, iv (x81 + 1))]) (E := [(6, jv y88), (8, iv 1), (9, iv y121)]) rfl ?_
                    exact ih82 (x81 + 1) (by omega) (by omega)
            ·
              refine T_ldc2 zk_144_110 (pc' := 113) rfl ?_
              refine T_goto zk_144_113 ?_
              refine T_lcmp zk_144_135 (fun y124 hy124 hy124' ey124 => ?_)
              refine T_if_ne zk_144_136 (by omega) (pc' := 139) rfl (fun h125 => ?_) (fun h126 => ?_)
              ·
                refine T_op zk_144_143 rfl X_ic (pc' := 144) rfl ?_
                refine T_st (L' := [(0, av 35 0 0), (1, iv p0), (2, iv p1), (3, iv y1), (4, iv 352), (5, iv x81), (6, jv y88), (8, iv 0)]) zk_144_144 (nL := 10) rfl rfl rfl rfl rfl (pc' := 146) rfl ?_
                refine T_ld zk_144_146 rfl rfl rfl (pc' := 148) rfl ?_
                refine T_l2iU zk_144_148 (fun y127 hy127 hy127' _ => ?_)
                refine T_st (L' := [(0, av 35 0 0), (1, iv p0), (2, iv p1), (3, iv y1), (4, iv 352), (5, iv x81), (6, jv y88), (8, iv 0), (9, iv y127)]) zk_144_149 (nL := 10) rfl rfl rfl rfl rfl (pc' := 151) rfl ?_
                refine T_ld zk_144_151 rfl rfl rfl (pc' := 152) rfl ?_
                refine T_getR (t' := 36) (i' := 0) (k' := 0) zk_144_152 rfl rfl rfl vd_35 (pc' := 155) rfl ?_
                refine T_ld zk_144_155 rfl rfl rfl (pc' := 157) rfl ?_
                refine T_ld zk_144_157 rfl rfl rfl (pc' := 159) rfl ?_
                refine T_op zk_144_159 rfl X_add (pc' := 160) rfl ?_
                refine T_ld zk_144_160 rfl rfl rfl (pc' := 162) rfl ?_
                refine T_if_eq zk_144_162 (by omega) (pc' := 165) rfl (fun h128 => ?_) (fun h129 => ?_)
                ·
                  refine T_ld zk_144_170 rfl rfl rfl (pc' := 172) rfl ?_
                  refine T_op zk_144_172 rfl (X_si (v := -300) (by decide)) (pc' := 175) rfl ?_
                  refine T_icmp_ge zk_144_175 (by omega) (by omega) (pc' := 178) rfl (fun h130 => ?_) (fun h131 => ?_)
                  ·
                    refine T_ld zk_144_184 rfl rfl rfl (pc' := 186) rfl ?_
                    refine T_op zk_144_186 rfl (X_si (v := 300) (by decide)) (pc' := 189) rfl ?_
                    refine T_icmp_le zk_144_189 (by omega) (by omega) (pc' := 192) rfl (fun h132 => ?_) (fun h133 => ?_)
                    ·
                      refine T_ld zk_144_198 rfl rfl rfl (pc' := 200) rfl ?_
                      refine G_iast (J' := (fun σ' => IF (MK 256 448 635 637) σ σ' ∧ True)) (ln := 646) zk_144_200 rfl rfl (vd_36 (by omega)) (by omega) (by omega) (by omega) (fun σ' h => ⟨h.1.up (by simp only [rgP] <;> omega) (by first | exact pMK rfl | (unfold MK; omega)), trivial⟩) (pc' := 201) rfl ?_
                      refine T_iinc (L' := [(0, av 35 0 0), (1, iv p0), (2, iv p1), (3, iv y1), (4, iv 352), (5, iv (x81 + 1)), (6, jv y88), (8, iv 0), (9, iv y127)]) zk_144_201 (nL := 10) rfl rfl rfl rfl (pc' := 204) rfl ?_
                      refine T_goto zk_144_204 ?_
                      refine T_loc (L := [(0, av 35 0 0), (1, iv p0), (2, iv p1), (3, iv y1), (4, iv 352), (5, iv (x81 + 1))]) (E := [(6, jv y88), (8, iv 0), (9, iv y127)]) rfl ?_
                      exact ih82 (x81 + 1) (by omega) (by omega)
                    ·
                      refine T_op zk_144_192 rfl (X_si (v := 300) (by decide)) (pc' := 195) rfl ?_
                      refine T_goto zk_144_195 ?_
                      refine G_iast (J' := (fun σ' => IF (MK 256 448 635 637) σ σ' ∧ True)) (ln := 646) zk_144_200 rfl rfl (vd_36 (by omega)) (by omega) (by omega) (by omega) (fun σ' h => ⟨h.1.up (by simp only [rgP] <;> omega) (by first | exact pMK rfl | (unfold MK; omega)), trivial⟩) (pc' := 201) rfl ?_
                      refine T_iinc (L' := [(0, av 35 0 0), (1, iv p0), (2, iv p1), (3, iv y1), (4, iv 352), (5, iv (x81 + 1)), (6, jv y88), (8, iv 0), (9, iv y127)]) zk_144_201 (nL := 10) rfl rfl rfl rfl (pc' := 204) rfl ?_
                      refine T_goto zk_144_204 ?_
                      refine T_loc (L := [(0, av 35 0 0), (1, iv p0), (2, iv p1), (3, iv y1), (4, iv 352), (5, iv (x81 + 1))]) (E := [(6, jv y88), (8, iv 0), (9, iv y127)]) rfl ?_
                      exact ih82 (x81 + 1) (by omega) (by omega)
                  ·
                    refine T_op zk_144_178 rfl (X_si (v := -300) (by decide)) (pc' := 181) rfl ?_
                    refine T_goto zk_144_181 ?_
                    refine G_iast (J' := (fun σ' => IF (MK 256 448 635 637) σ σ' ∧ True)) (ln := 646) zk_144_200 rfl rfl (vd_36 (by omega)) (by omega) (by omega) (by omega) (fun σ' h => ⟨h.1.up (by simp only [rgP] <;> omega) (by first | exact pMK rfl | (unfold MK; omega)), trivial⟩) (pc' := 201) rfl ?_
                    refine T_iinc (L' := [(0, av 35 0 0), (1, iv p0), (2, iv p1), (3, iv y1), (4, iv 352), (5, iv (x81 + 1)), (6, jv y88), (8, iv 0), (9, iv y127)]) zk_144_201 (nL := 10) rfl rfl rfl rfl (pc' := 204) rfl ?_
                    refine T_goto zk_144_204 ?_
                    refine T_loc (L := [(0, av 35 0 0), (1, iv p0), (2, iv p1), (3, iv y1), (4, iv 352), (5, iv (x81 + 1))]) (E := [(6, jv y88), (8, iv 0), (9, iv y127)]) rfl ?_
                    exact ih82 (x81 + 1) (by omega) (by omega)
                · exfalso; omega
              ·
                refine T_op zk_144_139 rfl X_ic (pc' := 140) rfl ?_
                refine T_goto zk_144_140 ?_
                refine T_st (L' := [(0, av 35 0 0), (1, iv p0), (2, iv p1), (3, iv y1), (4, iv 352), (5, iv x81), (6, jv y88), (8, iv 1)]) zk_144_144 (nL := 10) rfl rfl rfl rfl rfl (pc' := 146) rfl ?_
                refine T_ld zk_144_146 rfl rfl rfl (pc' := 148) rfl ?_
                refine T_l2iU zk_144_148 (fun y134 hy134 hy134' _ => ?_)
                refine T_st (L' := [(0, av 35 0 0), (1, iv p0), (2, iv p1), (3, iv y1), (4, iv 352), (5, iv x81), (6, jv y88), (8, iv 1), (9, iv y134)]) zk_144_149 (nL := 10) rfl rfl rfl rfl rfl (pc' := 151) rfl ?_
                refine T_ld zk_144_151 rfl rfl rfl (pc' := 152) rfl ?_
                refine T_getR (t' := 36) (i' := 0) (k' := 0) zk_144_152 rfl rfl rfl vd_35 (pc' := 155) rfl ?_
                refine T_ld zk_144_155 rfl rfl rfl (pc' := 157) rfl ?_
                refine T_ld zk_144_157 rfl rfl rfl (pc' := 159) rfl ?_
                refine T_op zk_144_159 rfl X_add (pc' := 160) rfl ?_
                refine T_ld zk_144_160 rfl rfl rfl (pc' := 162) rfl ?_
                refine T_if_eq zk_144_162 (by omega) (pc' := 165) rfl (fun h135 => ?_) (fun h136 => ?_)
                · exfalso; omega
                ·
                  refine T_op zk_144_165 rfl (X_bi (v := 30) (by decide)) (pc' := 167) rfl ?_
                  refine T_goto zk_144_167 ?_
                  refine G_iast (J' := (fun σ' => IF (MK 256 448 635 637) σ σ' ∧ True)) (ln := 646) zk_144_200 rfl rfl (vd_36 (by omega)) (by omega) (by omega) (by omega) (fun σ' h => ⟨h.1.up (by simp only [rgP] <;> omega) (by first | exact pMK rfl | (unfold MK; omega)), trivial⟩) (pc' := 201) rfl ?_
                  refine T_iinc (L' := [(0, av 35 0 0), (1, iv p0), (2, iv p1), (3, iv y1), (4, iv 352), (5, iv (x81 + 1)), (6, jv y88), (8, iv 1), (9, iv y134)]) zk_144_201 (nL := 10) rfl rfl rfl rfl (pc' := 204) rfl ?_
                  refine T_goto zk_144_204 ?_
                  refine T_loc (L := [(0, av 35 0 0), (1, iv p0), (2, iv p1), (3, iv y1), (4, iv 352), (5, iv (x81 + 1))]) (E := [(6, jv y88), (8, iv 1), (9, iv y134)]) rfl ?_
                  exact ih82 (x81 + 1) (by omega) (by omega)
          ·
            refine T_ldc2 zk_144_94 (pc' := 97) rfl ?_
            refine T_goto zk_144_97 ?_
            refine T_lcmp zk_144_135 (fun y137 hy137 hy137' ey137 => ?_)
            refine T_if_ne zk_144_136 (by omega) (pc' := 139) rfl (fun h138 => ?_) (fun h139 => ?_)
            ·
              refine T_op zk_144_143 rfl X_ic (pc' := 144) rfl ?_
              refine T_st (L' := [(0, av 35 0 0), (1, iv p0), (2, iv p1), (3, iv y1), (4, iv 352), (5, iv x81), (6, jv y88), (8, iv 0)]) zk_144_144 (nL := 10) rfl rfl rfl rfl rfl (pc' := 146) rfl ?_
              refine T_ld zk_144_146 rfl rfl rfl (pc' := 148) rfl ?_
              refine T_l2iU zk_144_148 (fun y140 hy140 hy140' _ => ?_)
              refine T_st (L' := [(0, av 35 0 0), (1, iv p0), (2, iv p1), (3, iv y1), (4, iv 352), (5, iv x81), (6, jv y88), (8, iv 0), (9, iv y140)]) zk_144_149 (nL := 10) rfl rfl rfl rfl rfl (pc' := 151) rfl ?_
              refine T_ld zk_144_151 rfl rfl rfl (pc' := 152) rfl ?_
              refine T_getR (t' := 36) (i' := 0) (k' := 0) zk_144_152 rfl rfl rfl vd_35 (pc' := 155) rfl ?_
              refine T_ld zk_144_155 rfl rfl rfl (pc' := 157) rfl ?_
              refine T_ld zk_144_157 rfl rfl rfl (pc' := 159) rfl ?_
              refine T_op zk_144_159 rfl X_add (pc' := 160) rfl ?_
              refine T_ld zk_144_160 rfl rfl rfl (pc' := 162) rfl ?_
              refine T_if_eq zk_144_162 (by omega) (pc' := 165) rfl (fun h141 => ?_) (fun h142 => ?_)
              ·
                refine T_ld zk_144_170 rfl rfl rfl (pc' := 172) rfl ?_
                refine T_op zk_144_172 rfl (X_si (v := -300) (by decide)) (pc' := 175) rfl ?_
                refine T_icmp_ge zk_144_175 (by omega) (by omega) (pc' := 178) rfl (fun h143 => ?_) (fun h144 => ?_)
                ·
                  refine T_ld zk_144_184 rfl rfl rfl (pc' := 186) rfl ?_
                  refine T_op zk_144_186 rfl (X_si (v := 300) (by decide)) (pc' := 189) rfl ?_
                  refine T_icmp_le zk_144_189 (by omega) (by omega) (pc' := 192) rfl (fun h145 => ?_) (fun h146 => ?_)
                  ·
                    refine T_ld zk_144_198 rfl rfl rfl (pc' := 200) rfl ?_
                    refine G_iast (J' := (fun σ' => IF (MK 256 448 635 637) σ σ' ∧ True)) (ln := 646) zk_144_200 rfl rfl (vd_36 (by omega)) (by omega) (by omega) (by omega) (fun σ' h => ⟨h.1.up (by simp only [rgP] <;> omega) (by first | exact pMK rfl | (unfold MK; omega)), trivial⟩) (pc' := 201) rfl ?_
                    refine T_iinc (L' := [(0, av 35 0 0), (1, iv p0), (2, iv p1), (3, iv y1), (4, iv 352), (5, iv (x81 + 1)), (6, jv y88), (8, iv 0), (9, iv y140)]) zk_144_201 (nL := 10) rfl rfl rfl rfl (pc' := 204) rfl ?_
                    refine T_goto zk_144_204 ?_
                    refine T_loc (L := [(0, av 35 0 0), (1, iv p0), (2, iv p1), (3, iv y1), (4, iv 352), (5, iv (x81 + 1))]) (E := [(6, jv y88), (8, iv 0), (9, iv y140)]) rfl ?_
                    exact ih82 (x81 + 1) (by omega) (by omega)
                  ·
                    refine T_op zk_144_192 rfl (X_si (v := 300) (by decide)) (pc' := 195) rfl ?_
                    refine T_goto zk_144_195 ?_
                    refine G_iast (J' := (fun σ' => IF (MK 256 448 635 637) σ σ' ∧ True)) (ln := 646) zk_144_200 rfl rfl (vd_36 (by omega)) (by omega) (by omega) (by omega) (fun σ' h => ⟨h.1.up (by simp only [rgP] <;> omega) (by first | exact pMK rfl | (unfold MK; omega)), trivial⟩) (pc' := 201) rfl ?_
                    refine T_iinc (L' := [(0, av 35 0 0), (1, iv p0), (2, iv p1), (3, iv y1), (4, iv 352), (5, iv (x81 + 1)), (6, jv y88), (8, iv 0), (9, iv y140)]) zk_144_201 (nL := 10) rfl rfl rfl rfl (pc' := 204) rfl ?_
                    refine T_goto zk_144_204 ?_
                    refine T_loc (L := [(0, av 35 0 0), (1, iv p0), (2, iv p1), (3, iv y1), (4, iv 352), (5, iv (x81 + 1))]) (E := [(6, jv y88), (8, iv 0), (9, iv y140)]) rfl ?_
                    exact ih82 (x81 + 1) (by omega) (by omega)
                ·
                  refine T_op zk_144_178 rfl (X_si (v := -300) (by decide)) (pc' := 181) rfl ?_
                  refine T_goto zk_144_181 ?_
                  refine G_iast (J' := (fun σ' => IF (MK 256 448 635 637) σ σ' ∧ True)) (ln := 646) zk_144_200 rfl rfl (vd_36 (by omega)) (by omega) (by omega) (by omega) (fun σ' h => ⟨h.1.up (by simp only [rgP] <;> omega) (by first | exact pMK rfl | (unfold MK; omega)), trivial⟩) (pc' := 201) rfl ?_
                  refine T_iinc (L' := [(0, av 35 0 0), (1, iv p0), (2, iv p1), (3, iv y1), (4, iv 352), (5, iv (x81 + 1)), (6, jv y88), (8, iv 0), (9, iv y140)]) zk_144_201 (nL := 10) rfl rfl rfl rfl (pc' := 204) rfl ?_
                  refine T_goto zk_144_204 ?_
                  refine T_loc (L := [(0, av 35 0 0), (1, iv p0), (2, iv p1), (3, iv y1), (4, iv 352), (5, iv (x81 + 1))]) (E := [(6, jv y88), (8, iv 0), (9, iv y140)]) rfl ?_
                  exact ih82 (x81 + 1) (by omega) (by omega)
              · exfalso; omega
            ·
              refine T_op zk_144_139 rfl X_ic (pc' := 140) rfl ?_
              refine T_goto zk_144_140 ?_
              refine T_st (L' := [(0, av 35 0 0), (1, iv p0), (2, iv p1), (3, iv y1), (4, iv 352), (5, iv x81), (6, jv y88), (8, iv 1)]) zk_144_144 (nL := 10) rfl rfl rfl rfl rfl (pc' := 146) rfl ?_
              refine T_ld zk_144_146 rfl rfl rfl (pc' := 148) rfl ?_
              refine T_l2iU zk_144_148 (fun y147 hy147 hy147' _ => ?_)
              refine T_st (L' := [(0, av 35 0 0), (1, iv p0), (2, iv p1), (3, iv y1), (4, iv 352), (5, iv x81), (6, jv y88), (8, iv 1), (9, iv y147)]) zk_144_149 (nL := 10) rfl rfl rfl rfl rfl (pc' := 151) rfl ?_
              refine T_ld zk_144_151 rfl rfl rfl (pc' := 152) rfl ?_
              refine T_getR (t' := 36) (i' := 0) (k' := 0) zk_144_152 rfl rfl rfl vd_35 (pc' := 155) rfl ?_
              refine T_ld zk_144_155 rfl rfl rfl (pc' := 157) rfl ?_
              refine T_ld zk_144_157 rfl rfl rfl (pc' := 159) rfl ?_
              refine T_op zk_144_159 rfl X_add (pc' := 160) rfl ?_
              refine T_ld zk_144_160 rfl rfl rfl (pc' := 162) rfl ?_
              refine T_if_eq zk_144_162 (by omega) (pc' := 165) rfl (fun h148 => ?_) (fun h149 => ?_)
              · exfalso; omega
              ·
                refine T_op zk_144_165 rfl (X_bi (v := 30) (by decide)) (pc' := 167) rfl ?_
                refine T_goto zk_144_167 ?_
                refine G_iast (J' := (fun σ' => IF (MK 256 448 635 637) σ σ' ∧ True)) (ln := 646) zk_144_200 rfl rfl (vd_36 (by omega)) (by omega) (by omega) (by omega) (fun σ' h => ⟨h.1.up (by simp only [rgP] <;> omega) (by first | exact pMK rfl | (unfold MK; omega)), trivial⟩) (pc' := 201) rfl ?_
                refine T_iinc (L' := [(0, av 35 0 0), (1, iv p0), (2, iv p1), (3, iv y1), (4, iv 352), (5, iv (x81 + 1)), (6, jv y88), (8, iv 1), (9, iv y147)]) zk_144_201 (nL := 10) rfl rfl rfl rfl (pc' := 204) rfl ?_
                refine T_goto zk_144_204 ?_
                refine T_loc (L := [(0, av 35 0 0), (1, iv p0), (2, iv p1), (3, iv y1), (4, iv 352), (5, iv (x81 + 1))]) (E := [(6, jv y88), (8, iv 1), (9, iv y147)]) rfl ?_
                exact ih82 (x81 + 1) (by omega) (by omega)
  ·
    refine T_ld zk_144_10 rfl rfl rfl (pc' := 11) rfl ?_
    refine T_ld zk_144_11 rfl rfl rfl (pc' := 12) rfl ?_
    refine T_calli (K := fun y150 σ' => (y150 = y1) ∧ (fun σ' => IF (MK 256 448 635 637) σ σ' ∧ True) σ') (r := []) zk_144_12 rfl rfl rfl rfl rfl rfl (Or.inr ⟨_, _, _, _, rfl, vd_35, rfl⟩) (fun σ' h => (m_123 y1 (by omega) σ' h.1.1 ).le (Nat.le_of_ble_eq_true rfl) (fun v σ2 ⟨y, h1, h2, h3, h4⟩ => ⟨y, h1, h2, h.1.tr h3 sb61_f0bfd6c, trivial⟩)) (pc' := 15) rfl (fun y150 => ?_)
    refine G_ex (fun hy150 => ?_)
    obtain rfl : y150 = y1 := by omega
    exact T_iret zk_144_15 rfl (fun σ' h => ⟨_, rfl, (by omega), h.1, trivial⟩)
/-- WModel.seaAt -/
theorem m_146 {xs : Nat × (Nat → Int32)} (p0 : Int) (p1 : Int) (hp0 : -2147483648 ≤ p0 ∧ p0 ≤ 2147483647) (hp1 : 0 ≤ p1 ∧ p1 ≤ 1) (σ : ZS) (hI : Inv σ)   : CT xs 2 146 [av 35 0 0, iv p0, iv p1] σ (fun v σ' => ∃ y, v = some (iv y) ∧ (-2147483648 ≤ y ∧ y ≤ 2147483647) ∧ IF MN σ σ' ∧ (True)) := by
  refine G_ct (J := (fun σ' => IF MN σ σ' ∧ True)) (L := [(0, av 35 0 0), (1, iv p0), (2, iv p1)]) (nL := 3) rfl rfl rfl ⟨IF.rf hI, trivial⟩ ?_
  refine T_ld zk_146_0 rfl rfl rfl (pc' := 1) rfl ?_
  refine T_if_ge zk_146_1 (by omega) (pc' := 4) rfl (fun h1 => ?_) (fun h2 => ?_)
  ·
    refine T_ld zk_146_10 rfl rfl rfl (pc' := 11) rfl ?_
    refine T_ld zk_146_11 rfl rfl rfl (pc' := 12) rfl ?_
    refine T_ld zk_146_12 rfl rfl rfl (pc' := 13) rfl ?_
    refine T_calli (K := fun y3 σ' => (-2147483648 ≤ y3 ∧ y3 ≤ 2147483647) ∧ (fun σ' => IF MN σ σ' ∧ True) σ') (r := []) zk_146_13 rfl rfl rfl rfl rfl rfl (Or.inr ⟨_, _, _, _, rfl, vd_35, rfl⟩) (fun σ' h => (m_145 p0 p1 (by omega) (by omega) σ' h.1.1 ).le (Nat.le_of_ble_eq_true rfl) (fun v σ2 ⟨y, h1, h2, h3, h4⟩ => ⟨y, h1, h2, h.1.tr h3 MN_sub, trivial⟩)) (pc' := 16) rfl (fun y3 => ?_)
    refine G_ex (fun hy3 => ?_)
    exact T_iret zk_146_16 rfl (fun σ' h => ⟨_, rfl, (by omega), h.1, trivial⟩)
  ·
    refine T_op zk_146_4 rfl (X_si (v := 1000) (by decide)) (pc' := 7) rfl ?_
    refine T_goto zk_146_7 ?_
    exact T_iret zk_146_16 rfl (fun σ' h => ⟨_, rfl, (by omega), h.1, trivial⟩)
theorem sb61_733dc89 : ∀ t i k j, MT 49 49 49 49 t i k j → MJ 637 640 t i k j := by
  intro t i k j h
  unfold MT at h
  unfold MJ
  omega
/-- WModel.rule -/
theorem m_147 {xs : Nat × (Nat → Int32)} (p0 : Int) (p1 : Int) (hp0 : -2147483648 ≤ p0 ∧ p0 ≤ 2147483647) (hp1 : -2147483648 ≤ p1 ∧ p1 ≤ 2147483647) (σ : ZS) (hI : Inv σ)   : CT xs 2 147 [av 35 0 0, iv p0, iv p1] σ (fun v σ' => ∃ y, v = some (iv y) ∧ (-2147483648 ≤ y ∧ y ≤ 2147483647) ∧ IF (MJ 637 640) σ σ' ∧ (True)) := by
  refine G_ct (J := (fun σ' => IF (MJ 637 640) σ σ' ∧ True)) (L := [(0, av 35 0 0), (1, iv p0), (2, iv p1)]) (nL := 4) rfl rfl rfl ⟨IF.rf hI, trivial⟩ ?_
  refine T_ld zk_147_0 rfl rfl rfl (pc' := 1) rfl ?_
  refine T_if_lt zk_147_1 (by omega) (pc' := 4) rfl (fun h1 => ?_) (fun h2 => ?_)
  ·
    refine T_ld zk_147_49 rfl rfl rfl (pc' := 50) rfl ?_
    refine T_op zk_147_50 rfl (X_bi (v := -6) (by decide)) (pc' := 52) rfl ?_
    refine T_calli (K := fun y3 σ' => (y3 = (-6)) ∧ (fun σ' => IF (MJ 637 640) σ σ' ∧ True) σ') (r := []) zk_147_52 rfl rfl rfl rfl rfl rfl (Or.inr ⟨_, _, _, _, rfl, vd_35, rfl⟩) (fun σ' h => (m_123 ((-6)) (by omega) σ' h.1.1 ).le (Nat.le_of_ble_eq_true rfl) (fun v σ2 ⟨y, h1, h2, h3, h4⟩ => ⟨y, h1, h2, h.1.tr h3 sb61_733dc89, trivial⟩)) (pc' := 55) rfl (fun y3 => ?_)
    refine G_ex (fun hy3 => ?_)
    obtain rfl : y3 = (-6) := by omega
    exact T_iret zk_147_55 rfl (fun σ' h => ⟨_, rfl, (by omega), h.1, trivial⟩)
  ·
    refine T_ld zk_147_4 rfl rfl rfl (pc' := 5) rfl ?_
    refine T_op zk_147_5 rfl X_ic (pc' := 6) rfl ?_
    refine T_icmp_gt zk_147_6 (by omega) (by omega) (pc' := 9) rfl (fun h4 => ?_) (fun h5 => ?_)
    ·
      refine T_ld zk_147_49 rfl rfl rfl (pc' := 50) rfl ?_
      refine T_op zk_147_50 rfl (X_bi (v := -6) (by decide)) (pc' := 52) rfl ?_
      refine T_calli (K := fun y6 σ' => (y6 = (-6)) ∧ (fun σ' => IF (MJ 637 640) σ σ' ∧ True) σ') (r := []) zk_147_52 rfl rfl rfl rfl rfl rfl (Or.inr ⟨_, _, _, _, rfl, vd_35, rfl⟩) (fun σ' h => (m_123 ((-6)) (by omega) σ' h.1.1 ).le (Nat.le_of_ble_eq_true rfl) (fun v σ2 ⟨y, h1, h2, h3, h4⟩ => ⟨y, h1, h2, h.1.tr h3 sb61_733dc89, trivial⟩)) (pc' := 55) rfl (fun y6 => ?_)
      refine G_ex (fun hy6 => ?_)
      obtain rfl : y6 = (-6) := by omega
      exact T_iret zk_147_55 rfl (fun σ' h => ⟨_, rfl, (by omega), h.1, trivial⟩)
    ·
      refine T_ld zk_147_9 rfl rfl rfl (pc' := 10) rfl ?_
      refine T_ld zk_147_10 rfl rfl rfl (pc' := 11) rfl ?_
      refine T_op zk_147_11 rfl X_ic (pc' := 12) rfl ?_
      refine T_icmp_ne zk_147_12 (by omega) (by omega) (pc' := 15) rfl (fun h7 => ?_) (fun h8 => ?_)
      ·
        refine T_op zk_147_19 rfl X_ic (pc' := 20) rfl ?_
        refine T_icmp_lt zk_147_20 (by omega) (by omega) (pc' := 23) rfl (fun h9 => ?_) (fun h10 => ?_)
        ·
          refine T_ld zk_147_49 rfl rfl rfl (pc' := 50) rfl ?_
          refine T_op zk_147_50 rfl (X_bi (v := -6) (by decide)) (pc' := 52) rfl ?_
          refine T_calli (K := fun y11 σ' => (y11 = (-6)) ∧ (fun σ' => IF (MJ 637 640) σ σ' ∧ True) σ') (r := []) zk_147_52 rfl rfl rfl rfl rfl rfl (Or.inr ⟨_, _, _, _, rfl, vd_35, rfl⟩) (fun σ' h => (m_123 ((-6)) (by omega) σ' h.1.1 ).le (Nat.le_of_ble_eq_true rfl) (fun v σ2 ⟨y, h1, h2, h3, h4⟩ => ⟨y, h1, h2, h.1.tr h3 sb61_733dc89, trivial⟩)) (pc' := 55) rfl (fun y11 => ?_)
          refine G_ex (fun hy11 => ?_)
          obtain rfl : y11 = (-6) := by omega
          exact T_iret zk_147_55 rfl (fun σ' h => ⟨_, rfl, (by omega), h.1, trivial⟩)
        ·
          refine T_ld zk_147_23 rfl rfl rfl (pc' := 24) rfl ?_
          refine T_ld zk_147_24 rfl rfl rfl (pc' := 25) rfl ?_
          refine T_if_ne zk_147_25 (by omega) (pc' := 28) rfl (fun h12 => ?_) (fun h13 => ?_)
          ·
            refine T_ld zk_147_33 rfl rfl rfl (pc' := 34) rfl ?_
            refine T_op zk_147_34 rfl X_ic (pc' := 35) rfl ?_
            refine T_icmp_ne zk_147_35 (by omega) (by omega) (pc' := 38) rfl (fun h14 => ?_) (fun h15 => ?_)
            ·
              refine T_op zk_147_43 rfl (X_si (v := 9999) (by decide)) (pc' := 46) rfl ?_
              refine T_icmp_le zk_147_46 (by omega) (by omega) (pc' := 49) rfl (fun h16 => ?_) (fun h17 => ?_)
              ·
                refine T_ld zk_147_56 rfl rfl rfl (pc' := 57) rfl ?_
                refine T_getR (t' := 36) (i' := 0) (k' := 0) zk_147_57 rfl rfl rfl vd_35 (pc' := 60) rfl ?_
                refine T_op zk_147_60 rfl (X_si (v := 637) (by decide)) (pc' := 63) rfl ?_
                refine T_ld zk_147_63 rfl rfl rfl (pc' := 64) rfl ?_
                refine T_opc (w := 639) zk_147_64 rfl X_add (by omega) (pc' := 65) rfl ?_
                refine G_iald (lo := 0) (hi := 9999) (ln := 646) zk_147_65 rfl rfl (vd_36 (by omega)) (by omega) (by omega) (by omega) (fun σ' h => h.1.1) (fun _ h => h.2.2.2.2.2.2.2.2.2.2.1 (by omega) (by omega)) (pc' := 66) rfl (fun y18 hy18 hy18' => ?_)
                refine T_st (L' := [(0, av 35 0 0), (1, iv p0), (2, iv p1), (3, iv y18)]) zk_147_66 (nL := 4) rfl rfl rfl rfl rfl (pc' := 67) rfl ?_
                refine T_ld zk_147_67 rfl rfl rfl (pc' := 68) rfl ?_
                refine T_getR (t' := 36) (i' := 0) (k' := 0) zk_147_68 rfl rfl rfl vd_35 (pc' := 71) rfl ?_
                refine T_op zk_147_71 rfl (X_si (v := 637) (by decide)) (pc' := 74) rfl ?_
                refine T_ld zk_147_74 rfl rfl rfl (pc' := 75) rfl ?_
                refine T_opc (w := 639) zk_147_75 rfl X_add (by omega) (pc' := 76) rfl ?_
                refine T_ld zk_147_76 rfl rfl rfl (pc' := 77) rfl ?_
                refine G_iast (J' := (fun σ' => IF (MJ 637 640) σ σ' ∧ True)) (ln := 646) zk_147_77 rfl rfl (vd_36 (by omega)) (by omega) (by omega) (by omega) (fun σ' h => ⟨h.1.up (by simp only [rgP] <;> omega) (by first | exact pMJ rfl | (unfold MJ; omega)), trivial⟩) (pc' := 78) rfl ?_
                refine T_ld zk_147_78 rfl rfl rfl (pc' := 79) rfl ?_
                exact T_iret zk_147_79 rfl (fun σ' h => ⟨_, rfl, (by omega), h.1, trivial⟩)
              ·
                refine T_ld zk_147_49 rfl rfl rfl (pc' := 50) rfl ?_
                refine T_op zk_147_50 rfl (X_bi (v := -6) (by decide)) (pc' := 52) rfl ?_
                refine T_calli (K := fun y19 σ' => (y19 = (-6)) ∧ (fun σ' => IF (MJ 637 640) σ σ' ∧ True) σ') (r := []) zk_147_52 rfl rfl rfl rfl rfl rfl (Or.inr ⟨_, _, _, _, rfl, vd_35, rfl⟩) (fun σ' h => (m_123 ((-6)) (by omega) σ' h.1.1 ).le (Nat.le_of_ble_eq_true rfl) (fun v σ2 ⟨y, h1, h2, h3, h4⟩ => ⟨y, h1, h2, h.1.tr h3 sb61_733dc89, trivial⟩)) (pc' := 55) rfl (fun y19 => ?_)
                refine G_ex (fun hy19 => ?_)
                obtain rfl : y19 = (-6) := by omega
                exact T_iret zk_147_55 rfl (fun σ' h => ⟨_, rfl, (by omega), h.1, trivial⟩)
            ·
              refine T_op zk_147_38 rfl (X_bi (v := 9) (by decide)) (pc' := 40) rfl ?_
              refine T_goto zk_147_40 ?_
              refine T_icmp_le zk_147_46 (by omega) (by omega) (pc' := 49) rfl (fun h20 => ?_) (fun h21 => ?_)
              ·
                refine T_ld zk_147_56 rfl rfl rfl (pc' := 57) rfl ?_
                refine T_getR (t' := 36) (i' := 0) (k' := 0) zk_147_57 rfl rfl rfl vd_35 (pc' := 60) rfl ?_
                refine T_op zk_147_60 rfl (X_si (v := 637) (by decide)) (pc' := 63) rfl ?_
                refine T_ld zk_147_63 rfl rfl rfl (pc' := 64) rfl ?_
                refine T_opc (w := 638) zk_147_64 rfl X_add (by omega) (pc' := 65) rfl ?_
                refine G_iald (lo := 0) (hi := 9) (ln := 646) zk_147_65 rfl rfl (vd_36 (by omega)) (by omega) (by omega) (by omega) (fun σ' h => h.1.1) (fun _ h => h.2.2.2.2.2.2.2.2.2.1 (by omega) (by omega)) (pc' := 66) rfl (fun y22 hy22 hy22' => ?_)
                refine T_st (L' := [(0, av 35 0 0), (1, iv p0), (2, iv p1), (3, iv y22)]) zk_147_66 (nL := 4) rfl rfl rfl rfl rfl (pc' := 67) rfl ?_
                refine T_ld zk_147_67 rfl rfl rfl (pc' := 68) rfl ?_
                refine T_getR (t' := 36) (i' := 0) (k' := 0) zk_147_68 rfl rfl rfl vd_35 (pc' := 71) rfl ?_
                refine T_op zk_147_71 rfl (X_si (v := 637) (by decide)) (pc' := 74) rfl ?_
                refine T_ld zk_147_74 rfl rfl rfl (pc' := 75) rfl ?_
                refine T_opc (w := 638) zk_147_75 rfl X_add (by omega) (pc' := 76) rfl ?_
                refine T_ld zk_147_76 rfl rfl rfl (pc' := 77) rfl ?_
                refine G_iast (J' := (fun σ' => IF (MJ 637 640) σ σ' ∧ True)) (ln := 646) zk_147_77 rfl rfl (vd_36 (by omega)) (by omega) (by omega) (by omega) (fun σ' h => ⟨h.1.up (by simp only [rgP] <;> omega) (by first | exact pMJ rfl | (unfold MJ; omega)), trivial⟩) (pc' := 78) rfl ?_
                refine T_ld zk_147_78 rfl rfl rfl (pc' := 79) rfl ?_
                exact T_iret zk_147_79 rfl (fun σ' h => ⟨_, rfl, (by omega), h.1, trivial⟩)
              ·
                refine T_ld zk_147_49 rfl rfl rfl (pc' := 50) rfl ?_
                refine T_op zk_147_50 rfl (X_bi (v := -6) (by decide)) (pc' := 52) rfl ?_
                refine T_calli (K := fun y23 σ' => (y23 = (-6)) ∧ (fun σ' => IF (MJ 637 640) σ σ' ∧ True) σ') (r := []) zk_147_52 rfl rfl rfl rfl rfl rfl (Or.inr ⟨_, _, _, _, rfl, vd_35, rfl⟩) (fun σ' h => (m_123 ((-6)) (by omega) σ' h.1.1 ).le (Nat.le_of_ble_eq_true rfl) (fun v σ2 ⟨y, h1, h2, h3, h4⟩ => ⟨y, h1, h2, h.1.tr h3 sb61_733dc89, trivial⟩)) (pc' := 55) rfl (fun y23 => ?_)
                refine G_ex (fun hy23 => ?_)
                obtain rfl : y23 = (-6) := by omega
                exact T_iret zk_147_55 rfl (fun σ' h => ⟨_, rfl, (by omega), h.1, trivial⟩)
          ·
            refine T_op zk_147_28 rfl (X_bi (v := 99) (by decide)) (pc' := 30) rfl ?_
            refine T_goto zk_147_30 ?_
            refine T_icmp_le zk_147_46 (by omega) (by omega) (pc' := 49) rfl (fun h24 => ?_) (fun h25 => ?_)
            ·
              refine T_ld zk_147_56 rfl rfl rfl (pc' := 57) rfl ?_
              refine T_getR (t' := 36) (i' := 0) (k' := 0) zk_147_57 rfl rfl rfl vd_35 (pc' := 60) rfl ?_
              refine T_op zk_147_60 rfl (X_si (v := 637) (by decide)) (pc' := 63) rfl ?_
              refine T_ld zk_147_63 rfl rfl rfl (pc' := 64) rfl ?_
              refine T_opc (w := 637) zk_147_64 rfl X_add (by omega) (pc' := 65) rfl ?_
              refine G_iald (lo := 0) (hi := 99) (ln := 646) zk_147_65 rfl rfl (vd_36 (by omega)) (by omega) (by omega) (by omega) (fun σ' h => h.1.1) (fun _ h => h.2.2.2.2.2.2.2.2.1 (by omega) (by omega)) (pc' := 66) rfl (fun y26 hy26 hy26' => ?_)
              refine T_st (L' := [(0, av 35 0 0), (1, iv p0), (2, iv p1), (3, iv y26)]) zk_147_66 (nL := 4) rfl rfl rfl rfl rfl (pc' := 67) rfl ?_
              refine T_ld zk_147_67 rfl rfl rfl (pc' := 68) rfl ?_
              refine T_getR (t' := 36) (i' := 0) (k' := 0) zk_147_68 rfl rfl rfl vd_35 (pc' := 71) rfl ?_
              refine T_op zk_147_71 rfl (X_si (v := 637) (by decide)) (pc' := 74) rfl ?_
              refine T_ld zk_147_74 rfl rfl rfl (pc' := 75) rfl ?_
              refine T_opc (w := 637) zk_147_75 rfl X_add (by omega) (pc' := 76) rfl ?_
              refine T_ld zk_147_76 rfl rfl rfl (pc' := 77) rfl ?_
              refine G_iast (J' := (fun σ' => IF (MJ 637 640) σ σ' ∧ True)) (ln := 646) zk_147_77 rfl rfl (vd_36 (by omega)) (by omega) (by omega) (by omega) (fun σ' h => ⟨h.1.up (by simp only [rgP] <;> omega) (by first | exact pMJ rfl | (unfold MJ; omega)), trivial⟩) (pc' := 78) rfl ?_
              refine T_ld zk_147_78 rfl rfl rfl (pc' := 79) rfl ?_
              exact T_iret zk_147_79 rfl (fun σ' h => ⟨_, rfl, (by omega), h.1, trivial⟩)
            ·
              refine T_ld zk_147_49 rfl rfl rfl (pc' := 50) rfl ?_
              refine T_op zk_147_50 rfl (X_bi (v := -6) (by decide)) (pc' := 52) rfl ?_
              refine T_calli (K := fun y27 σ' => (y27 = (-6)) ∧ (fun σ' => IF (MJ 637 640) σ σ' ∧ True) σ') (r := []) zk_147_52 rfl rfl rfl rfl rfl rfl (Or.inr ⟨_, _, _, _, rfl, vd_35, rfl⟩) (fun σ' h => (m_123 ((-6)) (by omega) σ' h.1.1 ).le (Nat.le_of_ble_eq_true rfl) (fun v σ2 ⟨y, h1, h2, h3, h4⟩ => ⟨y, h1, h2, h.1.tr h3 sb61_733dc89, trivial⟩)) (pc' := 55) rfl (fun y27 => ?_)
              refine G_ex (fun hy27 => ?_)
              obtain rfl : y27 = (-6) := by omega
              exact T_iret zk_147_55 rfl (fun σ' h => ⟨_, rfl, (by omega), h.1, trivial⟩)
      ·
        refine T_op zk_147_15 rfl X_ic (pc' := 16) rfl ?_
        refine T_goto zk_147_16 ?_
        refine T_icmp_lt zk_147_20 (by omega) (by omega) (pc' := 23) rfl (fun h28 => ?_) (fun h29 => ?_)
        ·
          refine T_ld zk_147_49 rfl rfl rfl (pc' := 50) rfl ?_
          refine T_op zk_147_50 rfl (X_bi (v := -6) (by decide)) (pc' := 52) rfl ?_
          refine T_calli (K := fun y30 σ' => (y30 = (-6)) ∧ (fun σ' => IF (MJ 637 640) σ σ' ∧ True) σ') (r := []) zk_147_52 rfl rfl rfl rfl rfl rfl (Or.inr ⟨_, _, _, _, rfl, vd_35, rfl⟩) (fun σ' h => (m_123 ((-6)) (by omega) σ' h.1.1 ).le (Nat.le_of_ble_eq_true rfl) (fun v σ2 ⟨y, h1, h2, h3, h4⟩ => ⟨y, h1, h2, h.1.tr h3 sb61_733dc89, trivial⟩)) (pc' := 55) rfl (fun y30 => ?_)
          refine G_ex (fun hy30 => ?_)
          obtain rfl : y30 = (-6) := by omega
          exact T_iret zk_147_55 rfl (fun σ' h => ⟨_, rfl, (by omega), h.1, trivial⟩)
        ·
          refine T_ld zk_147_23 rfl rfl rfl (pc' := 24) rfl ?_
          refine T_ld zk_147_24 rfl rfl rfl (pc' := 25) rfl ?_
          refine T_if_ne zk_147_25 (by omega) (pc' := 28) rfl (fun h31 => ?_) (fun h32 => ?_)
          ·
            refine T_ld zk_147_33 rfl rfl rfl (pc' := 34) rfl ?_
            refine T_op zk_147_34 rfl X_ic (pc' := 35) rfl ?_
            refine T_icmp_ne zk_147_35 (by omega) (by omega) (pc' := 38) rfl (fun h33 => ?_) (fun h34 => ?_)
            · exfalso; omega
            ·
              refine T_op zk_147_38 rfl (X_bi (v := 9) (by decide)) (pc' := 40) rfl ?_
              refine T_goto zk_147_40 ?_
              refine T_icmp_le zk_147_46 (by omega) (by omega) (pc' := 49) rfl (fun h35 => ?_) (fun h36 => ?_)
              ·
                refine T_ld zk_147_56 rfl rfl rfl (pc' := 57) rfl ?_
                refine T_getR (t' := 36) (i' := 0) (k' := 0) zk_147_57 rfl rfl rfl vd_35 (pc' := 60) rfl ?_
                refine T_op zk_147_60 rfl (X_si (v := 637) (by decide)) (pc' := 63) rfl ?_
                refine T_ld zk_147_63 rfl rfl rfl (pc' := 64) rfl ?_
                refine T_opc (w := 638) zk_147_64 rfl X_add (by omega) (pc' := 65) rfl ?_
                refine G_iald (lo := 0) (hi := 9) (ln := 646) zk_147_65 rfl rfl (vd_36 (by omega)) (by omega) (by omega) (by omega) (fun σ' h => h.1.1) (fun _ h => h.2.2.2.2.2.2.2.2.2.1 (by omega) (by omega)) (pc' := 66) rfl (fun y37 hy37 hy37' => ?_)
                refine T_st (L' := [(0, av 35 0 0), (1, iv p0), (2, iv p1), (3, iv y37)]) zk_147_66 (nL := 4) rfl rfl rfl rfl rfl (pc' := 67) rfl ?_
                refine T_ld zk_147_67 rfl rfl rfl (pc' := 68) rfl ?_
                refine T_getR (t' := 36) (i' := 0) (k' := 0) zk_147_68 rfl rfl rfl vd_35 (pc' := 71) rfl ?_
                refine T_op zk_147_71 rfl (X_si (v := 637) (by decide)) (pc' := 74) rfl ?_
                refine T_ld zk_147_74 rfl rfl rfl (pc' := 75) rfl ?_
                refine T_opc (w := 638) zk_147_75 rfl X_add (by omega) (pc' := 76) rfl ?_
                refine T_ld zk_147_76 rfl rfl rfl (pc' := 77) rfl ?_
                refine G_iast (J' := (fun σ' => IF (MJ 637 640) σ σ' ∧ True)) (ln := 646) zk_147_77 rfl rfl (vd_36 (by omega)) (by omega) (by omega) (by omega) (fun σ' h => ⟨h.1.up (by simp only [rgP] <;> omega) (by first | exact pMJ rfl | (unfold MJ; omega)), trivial⟩) (pc' := 78) rfl ?_
                refine T_ld zk_147_78 rfl rfl rfl (pc' := 79) rfl ?_
                exact T_iret zk_147_79 rfl (fun σ' h => ⟨_, rfl, (by omega), h.1, trivial⟩)
              ·
                refine T_ld zk_147_49 rfl rfl rfl (pc' := 50) rfl ?_
                refine T_op zk_147_50 rfl (X_bi (v := -6) (by decide)) (pc' := 52) rfl ?_
                refine T_calli (K := fun y38 σ' => (y38 = (-6)) ∧ (fun σ' => IF (MJ 637 640) σ σ' ∧ True) σ') (r := []) zk_147_52 rfl rfl rfl rfl rfl rfl (Or.inr ⟨_, _, _, _, rfl, vd_35, rfl⟩) (fun σ' h => (m_123 ((-6)) (by omega) σ' h.1.1 ).le (Nat.le_of_ble_eq_true rfl) (fun v σ2 ⟨y, h1, h2, h3, h4⟩ => ⟨y, h1, h2, h.1.tr h3 sb61_733dc89, trivial⟩)) (pc' := 55) rfl (fun y38 => ?_)
                refine G_ex (fun hy38 => ?_)
                obtain rfl : y38 = (-6) := by omega
                exact T_iret zk_147_55 rfl (fun σ' h => ⟨_, rfl, (by omega), h.1, trivial⟩)
          · exfalso; omega
theorem sb61_43d6d65 : ∀ t i k j, MT 49 49 49 49 t i k j → MJ 628 633 t i k j := by
  intro t i k j h
  unfold MT at h
  unfold MJ
  omega
/-- WModel.force -/
theorem m_158 {xs : Nat × (Nat → Int32)} (p0 : Int) (p1 : Int) (hp0 : -2147483648 ≤ p0 ∧ p0 ≤ 2147483647) (hp1 : 0 ≤ p1 ∧ p1 ≤ 1) (σ : ZS) (hI : Inv σ)   : CT xs 2 158 [av 35 0 0, iv p0, iv p1] σ (fun v σ' => ∃ y, v = some (iv y) ∧ (-2147483648 ≤ y ∧ y ≤ 2147483647) ∧ IF (MJ 628 633) σ σ' ∧ (True)) := by
  refine G_ct (J := (fun σ' => IF (MJ 628 633) σ σ' ∧ True)) (L := [(0, av 35 0 0), (1, iv p0), (2, iv p1)]) (nL := 3) rfl rfl rfl ⟨IF.rf hI, trivial⟩ ?_
  refine T_ld zk_158_0 rfl rfl rfl (pc' := 1) rfl ?_
  refine T_ld zk_158_1 rfl rfl rfl (pc' := 2) rfl ?_
  refine G_learn (t := 36) (i := 0) (k := 0) (j := 640) (lo := 0) (hi := 5) (J2 := fun y1 => (fun σ' => IF (MJ 628 633) σ σ' ∧ σ' 36 0 0 640 = y1 ∧ True)) (vd_36 (by omega)) (fun σ' h => h.1.1) (fun _ h => h.2.2.2.2.2.2.2.2.2.2.2.1 (by omega) (by omega)) (fun σ' y h hy => ⟨h.1, hy, trivial⟩) (fun y1 hy1 hy1' => ?_)
  refine T_calli (K := fun y2 σ' => ((y2 = 0 ∧ (p0 < 0 ∨ y1 ≤ p0)) ∨ (y2 = 1 ∧ 0 ≤ p0 ∧ p0 < y1)) ∧ (fun σ' => IF (MJ 628 633) σ σ' ∧ σ' 36 0 0 640 = y1 ∧ True) σ') (r := []) zk_158_2 rfl rfl rfl rfl rfl rfl (Or.inr ⟨_, _, _, _, rfl, vd_35, rfl⟩) (fun σ' h => (m_157 p0 y1 (by omega) (by omega) σ' h.1.1 (h.2.1)).le (Nat.le_of_ble_eq_true rfl) (fun v σ2 ⟨y, h1, h2, h3, h4⟩ => ⟨y, h1, h2, h.1.tr h3 MN_sub, (h3.2 _ _ _ _ (fun q => q)).trans (h.2.1), trivial⟩)) (pc' := 5) rfl (fun y2 => ?_)
  refine G_ex (fun hy2 => ?_)
  refine T_if_eq zk_158_5 (by omega) (pc' := 8) rfl (fun h3 => ?_) (fun h4 => ?_)
  ·
    refine T_ld zk_158_21 rfl rfl rfl (pc' := 22) rfl ?_
    refine T_op zk_158_22 rfl X_ic (pc' := 23) rfl ?_
    refine T_calli (K := fun y5 σ' => (y5 = (-1)) ∧ (fun σ' => IF (MJ 628 633) σ σ' ∧ σ' 36 0 0 640 = y1 ∧ True) σ') (r := []) zk_158_23 rfl rfl rfl rfl rfl rfl (Or.inr ⟨_, _, _, _, rfl, vd_35, rfl⟩) (fun σ' h => (m_123 ((-1)) (by omega) σ' h.1.1 ).le (Nat.le_of_ble_eq_true rfl) (fun v σ2 ⟨y, h1, h2, h3, h4⟩ => ⟨y, h1, h2, h.1.tr h3 sb61_43d6d65, (h3.2 _ _ _ _ (by first | exact nMT rfl | (unfold MT; omega))).trans (h.2.1), trivial⟩)) (pc' := 26) rfl (fun y5 => ?_)
    refine G_ex (fun hy5 => ?_)
    obtain rfl : y5 = (-1) := by omega
    exact T_iret zk_158_26 rfl (fun σ' h => ⟨_, rfl, (by omega), h.1, trivial⟩)
  ·
    refine T_ld zk_158_8 rfl rfl rfl (pc' := 9) rfl ?_
    refine T_op zk_158_9 rfl (X_si (v := 628) (by decide)) (pc' := 12) rfl ?_
    refine T_ld zk_158_12 rfl rfl rfl (pc' := 13) rfl ?_
    refine T_op zk_158_13 rfl X_add (pc' := 14) rfl ?_
    refine T_ld zk_158_14 rfl rfl rfl (pc' := 15) rfl ?_
    refine T_calli (K := fun y6 σ' => (y6 = 0 ∨ y6 = 1) ∧ (fun σ' => IF (MJ 628 633) σ σ' ∧ σ' 36 0 0 640 = y1 ∧ True) σ') (r := []) zk_158_15 rfl rfl rfl rfl rfl rfl (Or.inr ⟨_, _, _, _, rfl, vd_35, rfl⟩) (fun σ' h => (m_129_628 (628 + p0) p1 (by omega) (by omega) σ' h.1.1 ).le (Nat.le_of_ble_eq_true rfl) (fun v σ2 ⟨y, h1, h2, h3, h4⟩ => ⟨y, h1, h2, h.1.tr h3 (fun _ _ _ _ h => h), (h3.2 _ _ _ _ (by first | exact nMJ rfl | (unfold MJ; omega))).trans (h.2.1), trivial⟩)) (pc' := 18) rfl (fun y6 => ?_)
    refine G_ex (fun hy6 => ?_)
    refine T_goto zk_158_18 ?_
    exact T_iret zk_158_26 rfl (fun σ' h => ⟨_, rfl, (by omega), h.1, trivial⟩)
