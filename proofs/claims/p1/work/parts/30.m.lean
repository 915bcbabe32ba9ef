theorem zk_123_0 : zc 123 0 = some (.aload_n 0, 0, 0, 0, 0) := rfl
theorem zk_123_1 : zc 123 1 = some (.getfield 60, 11, 17, 0, 155) := rfl
theorem zk_123_4 : zc 123 4 = some (.iload_n 1, 0, 0, 0, 0) := rfl
theorem zk_123_5 : zc 123 5 = some (.ineg, 0, 0, 0, 0) := rfl
theorem zk_123_6 : zc 123 6 = some (.dup2, 0, 0, 0, 0) := rfl
theorem zk_123_7 : zc 123 7 = some (.iaload, 0, 0, 0, 0) := rfl
theorem zk_123_8 : zc 123 8 = some (.iconst 1, 0, 0, 0, 0) := rfl
theorem zk_123_9 : zc 123 9 = some (.iadd, 0, 0, 0, 0) := rfl
theorem zk_123_10 : zc 123 10 = some (.iastore, 0, 0, 0, 0) := rfl
theorem zk_123_11 : zc 123 11 = some (.iload_n 1, 0, 0, 0, 0) := rfl
theorem zk_123_12 : zc 123 12 = some (.ireturn, 0, 0, 0, 0) := rfl
theorem zk_124_0 : zc 124 0 = some (.iload_n 0, 0, 0, 0, 0) := rfl
theorem zk_124_1 : zc 124 1 = some (.ifCond .lt 13, 14, 0, 0, 0) := rfl
theorem zk_124_4 : zc 124 4 = some (.iload_n 0, 0, 0, 0, 0) := rfl
theorem zk_124_5 : zc 124 5 = some (.bipush 25, 0, 0, 0, 0) := rfl
theorem zk_124_7 : zc 124 7 = some (.if_icmp .ge 7, 14, 0, 0, 0) := rfl
theorem zk_124_10 : zc 124 10 = some (.iconst 1, 0, 0, 0, 0) := rfl
theorem zk_124_11 : zc 124 11 = some (.goto 4, 15, 0, 0, 0) := rfl
theorem zk_124_14 : zc 124 14 = some (.iconst 0, 0, 0, 0, 0) := rfl
theorem zk_124_15 : zc 124 15 = some (.ireturn, 0, 0, 0, 0) := rfl
theorem zk_125_0 : zc 125 0 = some (.iload_n 0, 0, 0, 0, 0) := rfl
theorem zk_125_1 : zc 125 1 = some (.ifCond .lt 13, 14, 0, 0, 0) := rfl
theorem zk_125_4 : zc 125 4 = some (.iload_n 0, 0, 0, 0, 0) := rfl
theorem zk_125_5 : zc 125 5 = some (.bipush 8, 0, 0, 0, 0) := rfl
theorem zk_125_7 : zc 125 7 = some (.if_icmp .ge 7, 14, 0, 0, 0) := rfl
theorem zk_125_10 : zc 125 10 = some (.iconst 1, 0, 0, 0, 0) := rfl
theorem zk_125_11 : zc 125 11 = some (.goto 4, 15, 0, 0, 0) := rfl
theorem zk_125_14 : zc 125 14 = some (.iconst 0, 0, 0, 0, 0) := rfl
theorem zk_125_15 : zc 125 15 = some (.ireturn, 0, 0, 0, 0) := rfl
theorem zk_126_0 : zc 126 0 = some (.iload_n 0, 0, 0, 0, 0) := rfl
theorem zk_126_1 : zc 126 1 = some (.invokestatic 99, 124, 1, 1, 128) := rfl
theorem zk_126_4 : zc 126 4 = some (.ifCond .eq 10, 14, 0, 0, 0) := rfl
theorem zk_126_7 : zc 126 7 = some (.iload_n 1, 0, 0, 0, 0) := rfl
theorem zk_126_8 : zc 126 8 = some (.invokestatic 99, 124, 1, 1, 128) := rfl
theorem zk_126_11 : zc 126 11 = some (.ifCond .ne 5, 16, 0, 0, 0) := rfl
theorem zk_126_14 : zc 126 14 = some (.iconst (-1), 0, 0, 0, 0) := rfl
theorem zk_126_15 : zc 126 15 = some (.ireturn, 0, 0, 0, 0) := rfl
theorem zk_126_16 : zc 126 16 = some (.iload_n 0, 0, 0, 0, 0) := rfl
theorem zk_126_17 : zc 126 17 = some (.iload_n 1, 0, 0, 0, 0) := rfl
theorem zk_126_18 : zc 126 18 = some (.if_icmp .ge 7, 25, 0, 0, 0) := rfl
theorem zk_126_21 : zc 126 21 = some (.iload_n 0, 0, 0, 0, 0) := rfl
theorem zk_126_22 : zc 126 22 = some (.goto 4, 26, 0, 0, 0) := rfl
theorem zk_126_25 : zc 126 25 = some (.iload_n 1, 0, 0, 0, 0) := rfl
theorem zk_126_26 : zc 126 26 = some (.istore_n 2, 0, 0, 0, 0) := rfl
theorem zk_126_27 : zc 126 27 = some (.iload_n 0, 0, 0, 0, 0) := rfl
theorem zk_126_28 : zc 126 28 = some (.iload_n 1, 0, 0, 0, 0) := rfl
theorem zk_126_29 : zc 126 29 = some (.if_icmp .ge 7, 36, 0, 0, 0) := rfl
theorem zk_126_32 : zc 126 32 = some (.iload_n 1, 0, 0, 0, 0) := rfl
theorem zk_126_33 : zc 126 33 = some (.goto 4, 37, 0, 0, 0) := rfl
theorem zk_126_36 : zc 126 36 = some (.iload_n 0, 0, 0, 0, 0) := rfl
theorem zk_126_37 : zc 126 37 = some (.istore_n 3, 0, 0, 0, 0) := rfl
theorem zk_126_38 : zc 126 38 = some (.iload_n 3, 0, 0, 0, 0) := rfl
theorem zk_126_39 : zc 126 39 = some (.iload_n 2, 0, 0, 0, 0) := rfl
theorem zk_126_40 : zc 126 40 = some (.iconst 5, 0, 0, 0, 0) := rfl
theorem zk_126_41 : zc 126 41 = some (.iadd, 0, 0, 0, 0) := rfl
theorem zk_126_42 : zc 126 42 = some (.if_icmp .ne 9, 51, 0, 0, 0) := rfl
theorem zk_126_45 : zc 126 45 = some (.iconst 2, 0, 0, 0, 0) := rfl
theorem zk_126_46 : zc 126 46 = some (.iload_n 2, 0, 0, 0, 0) := rfl
theorem zk_126_47 : zc 126 47 = some (.imul, 0, 0, 0, 0) := rfl
theorem zk_126_48 : zc 126 48 = some (.iconst 1, 0, 0, 0, 0) := rfl
theorem zk_126_49 : zc 126 49 = some (.iadd, 0, 0, 0, 0) := rfl
theorem zk_126_50 : zc 126 50 = some (.ireturn, 0, 0, 0, 0) := rfl
theorem zk_126_51 : zc 126 51 = some (.iload_n 3, 0, 0, 0, 0) := rfl
theorem zk_126_52 : zc 126 52 = some (.iload_n 2, 0, 0, 0, 0) := rfl
theorem zk_126_53 : zc 126 53 = some (.iconst 1, 0, 0, 0, 0) := rfl
theorem zk_126_54 : zc 126 54 = some (.iadd, 0, 0, 0, 0) := rfl
theorem zk_126_55 : zc 126 55 = some (.if_icmp .ne 16, 71, 0, 0, 0) := rfl
theorem zk_126_58 : zc 126 58 = some (.iload_n 2, 0, 0, 0, 0) := rfl
theorem zk_126_59 : zc 126 59 = some (.iconst 5, 0, 0, 0, 0) := rfl
theorem zk_126_60 : zc 126 60 = some (.irem, 0, 0, 0, 0) := rfl
theorem zk_126_61 : zc 126 61 = some (.iconst 4, 0, 0, 0, 0) := rfl
theorem zk_126_62 : zc 126 62 = some (.if_icmp .ge 9, 71, 0, 0, 0) := rfl
theorem zk_126_65 : zc 126 65 = some (.iconst 2, 0, 0, 0, 0) := rfl
theorem zk_126_66 : zc 126 66 = some (.iload_n 2, 0, 0, 0, 0) := rfl
theorem zk_126_67 : zc 126 67 = some (.imul, 0, 0, 0, 0) := rfl
theorem zk_126_68 : zc 126 68 = some (.goto 4, 72, 0, 0, 0) := rfl
theorem zk_126_71 : zc 126 71 = some (.iconst (-1), 0, 0, 0, 0) := rfl
theorem zk_126_72 : zc 126 72 = some (.ireturn, 0, 0, 0, 0) := rfl
theorem zk_127_0 : zc 127 0 = some (.iload_n 1, 0, 0, 0, 0) := rfl
theorem zk_127_1 : zc 127 1 = some (.invokestatic 99, 124, 1, 1, 128) := rfl
theorem zk_127_4 : zc 127 4 = some (.ifCond .ne 9, 13, 0, 0, 0) := rfl
theorem zk_127_7 : zc 127 7 = some (.aload_n 0, 0, 0, 0, 0) := rfl
theorem zk_127_8 : zc 127 8 = some (.iconst (-1), 0, 0, 0, 0) := rfl
theorem zk_127_9 : zc 127 9 = some (.invokevirtual 103, 123, 0, 2, 129) := rfl
theorem zk_127_12 : zc 127 12 = some (.ireturn, 0, 0, 0, 0) := rfl
theorem zk_127_13 : zc 127 13 = some (.iload_n 2, 0, 0, 0, 0) := rfl
theorem zk_127_14 : zc 127 14 = some (.ifCond .lt 9, 23, 0, 0, 0) := rfl
theorem zk_127_17 : zc 127 17 = some (.iload_n 2, 0, 0, 0, 0) := rfl
theorem zk_127_18 : zc 127 18 = some (.bipush 60, 0, 0, 0, 0) := rfl
theorem zk_127_20 : zc 127 20 = some (.if_icmp .le 10, 30, 0, 0, 0) := rfl
theorem zk_127_23 : zc 127 23 = some (.aload_n 0, 0, 0, 0, 0) := rfl
theorem zk_127_24 : zc 127 24 = some (.bipush (-6), 0, 0, 0, 0) := rfl
theorem zk_127_26 : zc 127 26 = some (.invokevirtual 103, 123, 0, 2, 129) := rfl
theorem zk_127_29 : zc 127 29 = some (.ireturn, 0, 0, 0, 0) := rfl
theorem zk_127_30 : zc 127 30 = some (.aload_n 0, 0, 0, 0, 0) := rfl
theorem zk_127_31 : zc 127 31 = some (.getfield 7, 11, 0, 0, 139) := rfl
theorem zk_127_34 : zc 127 34 = some (.iconst 0, 0, 0, 0, 0) := rfl
theorem zk_127_35 : zc 127 35 = some (.iload_n 1, 0, 0, 0, 0) := rfl
theorem zk_127_36 : zc 127 36 = some (.iadd, 0, 0, 0, 0) := rfl
theorem zk_127_37 : zc 127 37 = some (.iaload, 0, 0, 0, 0) := rfl
theorem zk_127_38 : zc 127 38 = some (.istore_n 3, 0, 0, 0, 0) := rfl
theorem zk_127_39 : zc 127 39 = some (.aload_n 0, 0, 0, 0, 0) := rfl
theorem zk_127_40 : zc 127 40 = some (.getfield 7, 11, 0, 0, 139) := rfl
theorem zk_127_43 : zc 127 43 = some (.iconst 0, 0, 0, 0, 0) := rfl
theorem zk_127_44 : zc 127 44 = some (.iload_n 1, 0, 0, 0, 0) := rfl
theorem zk_127_45 : zc 127 45 = some (.iadd, 0, 0, 0, 0) := rfl
theorem zk_127_46 : zc 127 46 = some (.iload_n 2, 0, 0, 0, 0) := rfl
theorem zk_127_47 : zc 127 47 = some (.iastore, 0, 0, 0, 0) := rfl
theorem zk_127_48 : zc 127 48 = some (.iload_n 3, 0, 0, 0, 0) := rfl
theorem zk_127_49 : zc 127 49 = some (.ireturn, 0, 0, 0, 0) := rfl
theorem zk_128_0 : zc 128 0 = some (.iload_n 1, 0, 0, 0, 0) := rfl
theorem zk_128_1 : zc 128 1 = some (.invokestatic 99, 124, 1, 1, 128) := rfl
theorem zk_128_4 : zc 128 4 = some (.ifCond .ne 9, 13, 0, 0, 0) := rfl
theorem zk_128_7 : zc 128 7 = some (.aload_n 0, 0, 0, 0, 0) := rfl
theorem zk_128_8 : zc 128 8 = some (.iconst (-1), 0, 0, 0, 0) := rfl
theorem zk_128_9 : zc 128 9 = some (.invokevirtual 103, 123, 0, 2, 129) := rfl
theorem zk_128_12 : zc 128 12 = some (.ireturn, 0, 0, 0, 0) := rfl
theorem zk_128_13 : zc 128 13 = some (.iload_n 2, 0, 0, 0, 0) := rfl
theorem zk_128_14 : zc 128 14 = some (.sipush (-300), 0, 0, 0, 0) := rfl
theorem zk_128_17 : zc 128 17 = some (.if_icmp .lt 10, 27, 0, 0, 0) := rfl
theorem zk_128_20 : zc 128 20 = some (.iload_n 2, 0, 0, 0, 0) := rfl
theorem zk_128_21 : zc 128 21 = some (.sipush 300, 0, 0, 0, 0) := rfl
theorem zk_128_24 : zc 128 24 = some (.if_icmp .le 10, 34, 0, 0, 0) := rfl
theorem zk_128_27 : zc 128 27 = some (.aload_n 0, 0, 0, 0, 0) := rfl
theorem zk_128_28 : zc 128 28 = some (.bipush (-6), 0, 0, 0, 0) := rfl
theorem zk_128_30 : zc 128 30 = some (.invokevirtual 103, 123, 0, 2, 129) := rfl
theorem zk_128_33 : zc 128 33 = some (.ireturn, 0, 0, 0, 0) := rfl
theorem zk_128_34 : zc 128 34 = some (.aload_n 0, 0, 0, 0, 0) := rfl
theorem zk_128_35 : zc 128 35 = some (.getfield 7, 11, 0, 0, 139) := rfl
theorem zk_128_38 : zc 128 38 = some (.bipush 25, 0, 0, 0, 0) := rfl
theorem zk_128_40 : zc 128 40 = some (.iload_n 1, 0, 0, 0, 0) := rfl
theorem zk_128_41 : zc 128 41 = some (.iadd, 0, 0, 0, 0) := rfl
theorem zk_128_42 : zc 128 42 = some (.iaload, 0, 0, 0, 0) := rfl
theorem zk_128_43 : zc 128 43 = some (.istore_n 3, 0, 0, 0, 0) := rfl
theorem zk_128_44 : zc 128 44 = some (.aload_n 0, 0, 0, 0, 0) := rfl
theorem zk_128_45 : zc 128 45 = some (.getfield 7, 11, 0, 0, 139) := rfl
theorem zk_128_48 : zc 128 48 = some (.bipush 25, 0, 0, 0, 0) := rfl
theorem zk_128_50 : zc 128 50 = some (.iload_n 1, 0, 0, 0, 0) := rfl
theorem zk_128_51 : zc 128 51 = some (.iadd, 0, 0, 0, 0) := rfl
theorem zk_128_52 : zc 128 52 = some (.iload_n 2, 0, 0, 0, 0) := rfl
theorem zk_128_53 : zc 128 53 = some (.iastore, 0, 0, 0, 0) := rfl
theorem zk_128_54 : zc 128 54 = some (.aload_n 0, 0, 0, 0, 0) := rfl
theorem zk_128_55 : zc 128 55 = some (.getfield 7, 11, 0, 0, 139) := rfl
theorem zk_128_58 : zc 128 58 = some (.sipush 645, 0, 0, 0, 0) := rfl
theorem zk_128_61 : zc 128 61 = some (.dup2, 0, 0, 0, 0) := rfl
theorem zk_128_62 : zc 128 62 = some (.iaload, 0, 0, 0, 0) := rfl
theorem zk_128_63 : zc 128 63 = some (.iload_n 2, 0, 0, 0, 0) := rfl
theorem zk_128_64 : zc 128 64 = some (.iload_n 3, 0, 0, 0, 0) := rfl
theorem zk_128_65 : zc 128 65 = some (.isub, 0, 0, 0, 0) := rfl
theorem zk_128_66 : zc 128 66 = some (.iadd, 0, 0, 0, 0) := rfl
theorem zk_128_67 : zc 128 67 = some (.iastore, 0, 0, 0, 0) := rfl
theorem zk_128_68 : zc 128 68 = some (.iload_n 3, 0, 0, 0, 0) := rfl
theorem zk_128_69 : zc 128 69 = some (.ireturn, 0, 0, 0, 0) := rfl
theorem zk_129_0 : zc 129 0 = some (.iload_n 2, 0, 0, 0, 0) := rfl
theorem zk_129_1 : zc 129 1 = some (.ifCond .eq 7, 8, 0, 0, 0) := rfl
theorem zk_129_4 : zc 129 4 = some (.iconst 1, 0, 0, 0, 0) := rfl
theorem zk_129_5 : zc 129 5 = some (.goto 4, 9, 0, 0, 0) := rfl
theorem zk_129_8 : zc 129 8 = some (.iconst 0, 0, 0, 0, 0) := rfl
theorem zk_129_9 : zc 129 9 = some (.istore_n 3, 0, 0, 0, 0) := rfl
theorem zk_129_10 : zc 129 10 = some (.aload_n 0, 0, 0, 0, 0) := rfl
theorem zk_129_11 : zc 129 11 = some (.getfield 7, 11, 0, 0, 139) := rfl
theorem zk_129_14 : zc 129 14 = some (.iload_n 1, 0, 0, 0, 0) := rfl
theorem zk_129_15 : zc 129 15 = some (.iaload, 0, 0, 0, 0) := rfl
theorem zk_129_16 : zc 129 16 = some (.iload_n 3, 0, 0, 0, 0) := rfl
theorem zk_129_17 : zc 129 17 = some (.if_icmp .ne 5, 22, 0, 0, 0) := rfl
theorem zk_129_20 : zc 129 20 = some (.iconst 0, 0, 0, 0, 0) := rfl
theorem zk_129_21 : zc 129 21 = some (.ireturn, 0, 0, 0, 0) := rfl
theorem zk_129_22 : zc 129 22 = some (.aload_n 0, 0, 0, 0, 0) := rfl
theorem zk_129_23 : zc 129 23 = some (.getfield 7, 11, 0, 0, 139) := rfl
theorem zk_129_26 : zc 129 26 = some (.iload_n 1, 0, 0, 0, 0) := rfl
theorem zk_129_27 : zc 129 27 = some (.iload_n 3, 0, 0, 0, 0) := rfl
theorem zk_129_28 : zc 129 28 = some (.iastore, 0, 0, 0, 0) := rfl
theorem zk_129_29 : zc 129 29 = some (.iconst 1, 0, 0, 0, 0) := rfl
theorem zk_129_30 : zc 129 30 = some (.ireturn, 0, 0, 0, 0) := rfl
theorem zk_130_0 : zc 130 0 = some (.iload_n 1, 0, 0, 0, 0) := rfl
theorem zk_130_1 : zc 130 1 = some (.iload_n 2, 0, 0, 0, 0) := rfl
theorem zk_130_2 : zc 130 2 = some (.invokestatic 107, 126, 1, 2, 130) := rfl
theorem zk_130_5 : zc 130 5 = some (.istore 4, 0, 0, 0, 0) := rfl
theorem zk_130_7 : zc 130 7 = some (.iload 4, 0, 0, 0, 0) := rfl
theorem zk_130_9 : zc 130 9 = some (.iconst (-1), 0, 0, 0, 0) := rfl
theorem zk_130_10 : zc 130 10 = some (.if_icmp .ne 11, 21, 0, 0, 0) := rfl
theorem zk_130_13 : zc 130 13 = some (.aload_n 0, 0, 0, 0, 0) := rfl
theorem zk_130_14 : zc 130 14 = some (.iconst (-1), 0, 0, 0, 0) := rfl
theorem zk_130_15 : zc 130 15 = some (.invokevirtual 103, 123, 0, 2, 129) := rfl
theorem zk_130_18 : zc 130 18 = some (.goto 13, 31, 0, 0, 0) := rfl
theorem zk_130_21 : zc 130 21 = some (.aload_n 0, 0, 0, 0, 0) := rfl
theorem zk_130_22 : zc 130 22 = some (.bipush 100, 0, 0, 0, 0) := rfl
theorem zk_130_24 : zc 130 24 = some (.iload 4, 0, 0, 0, 0) := rfl
theorem zk_130_26 : zc 130 26 = some (.iadd, 0, 0, 0, 0) := rfl
theorem zk_130_27 : zc 130 27 = some (.iload_n 3, 0, 0, 0, 0) := rfl
theorem zk_130_28 : zc 130 28 = some (.invokevirtual 111, 129, 0, 3, 131) := rfl
theorem zk_130_31 : zc 130 31 = some (.ireturn, 0, 0, 0, 0) := rfl
theorem zk_131_0 : zc 131 0 = some (.iload_n 1, 0, 0, 0, 0) := rfl
theorem zk_131_1 : zc 131 1 = some (.iload_n 2, 0, 0, 0, 0) := rfl
theorem zk_131_2 : zc 131 2 = some (.invokestatic 107, 126, 1, 2, 130) := rfl
theorem zk_131_5 : zc 131 5 = some (.istore 4, 0, 0, 0, 0) := rfl
theorem zk_131_7 : zc 131 7 = some (.iload 4, 0, 0, 0, 0) := rfl
theorem zk_131_9 : zc 131 9 = some (.iconst (-1), 0, 0, 0, 0) := rfl
theorem zk_131_10 : zc 131 10 = some (.if_icmp .ne 11, 21, 0, 0, 0) := rfl
theorem zk_131_13 : zc 131 13 = some (.aload_n 0, 0, 0, 0, 0) := rfl
theorem zk_131_14 : zc 131 14 = some (.iconst (-1), 0, 0, 0, 0) := rfl
theorem zk_131_15 : zc 131 15 = some (.invokevirtual 103, 123, 0, 2, 129) := rfl
theorem zk_131_18 : zc 131 18 = some (.goto 14, 32, 0, 0, 0) := rfl
theorem zk_131_21 : zc 131 21 = some (.aload_n 0, 0, 0, 0, 0) := rfl
theorem zk_131_22 : zc 131 22 = some (.sipush 150, 0, 0, 0, 0) := rfl
theorem zk_131_25 : zc 131 25 = some (.iload 4, 0, 0, 0, 0) := rfl
theorem zk_131_27 : zc 131 27 = some (.iadd, 0, 0, 0, 0) := rfl
theorem zk_131_28 : zc 131 28 = some (.iload_n 3, 0, 0, 0, 0) := rfl
theorem zk_131_29 : zc 131 29 = some (.invokevirtual 111, 129, 0, 3, 131) := rfl
theorem zk_131_32 : zc 131 32 = some (.ireturn, 0, 0, 0, 0) := rfl
theorem zk_132_0 : zc 132 0 = some (.iload_n 1, 0, 0, 0, 0) := rfl
theorem zk_132_1 : zc 132 1 = some (.iload_n 2, 0, 0, 0, 0) := rfl
theorem zk_132_2 : zc 132 2 = some (.invokestatic 107, 126, 1, 2, 130) := rfl
theorem zk_132_5 : zc 132 5 = some (.istore 4, 0, 0, 0, 0) := rfl
theorem zk_132_7 : zc 132 7 = some (.iload 4, 0, 0, 0, 0) := rfl
theorem zk_132_9 : zc 132 9 = some (.iconst (-1), 0, 0, 0, 0) := rfl
theorem zk_132_10 : zc 132 10 = some (.if_icmp .ne 9, 19, 0, 0, 0) := rfl
theorem zk_132_13 : zc 132 13 = some (.aload_n 0, 0, 0, 0, 0) := rfl
theorem zk_132_14 : zc 132 14 = some (.iconst (-1), 0, 0, 0, 0) := rfl
theorem zk_132_15 : zc 132 15 = some (.invokevirtual 103, 123, 0, 2, 129) := rfl
theorem zk_132_18 : zc 132 18 = some (.ireturn, 0, 0, 0, 0) := rfl
theorem zk_132_19 : zc 132 19 = some (.iload_n 3, 0, 0, 0, 0) := rfl
theorem zk_132_20 : zc 132 20 = some (.iconst (-1), 0, 0, 0, 0) := rfl
theorem zk_132_21 : zc 132 21 = some (.if_icmp .lt 9, 30, 0, 0, 0) := rfl
theorem zk_132_24 : zc 132 24 = some (.iload_n 3, 0, 0, 0, 0) := rfl
theorem zk_132_25 : zc 132 25 = some (.bipush 99, 0, 0, 0, 0) := rfl
theorem zk_132_27 : zc 132 27 = some (.if_icmp .le 10, 37, 0, 0, 0) := rfl
theorem zk_132_30 : zc 132 30 = some (.aload_n 0, 0, 0, 0, 0) := rfl
theorem zk_132_31 : zc 132 31 = some (.bipush (-6), 0, 0, 0, 0) := rfl
theorem zk_132_33 : zc 132 33 = some (.invokevirtual 103, 123, 0, 2, 129) := rfl
theorem zk_132_36 : zc 132 36 = some (.ireturn, 0, 0, 0, 0) := rfl
theorem zk_132_37 : zc 132 37 = some (.aload_n 0, 0, 0, 0, 0) := rfl
theorem zk_132_38 : zc 132 38 = some (.getfield 7, 11, 0, 0, 139) := rfl
theorem zk_132_41 : zc 132 41 = some (.sipush 200, 0, 0, 0, 0) := rfl
theorem zk_132_44 : zc 132 44 = some (.iload 4, 0, 0, 0, 0) := rfl
theorem zk_132_46 : zc 132 46 = some (.iadd, 0, 0, 0, 0) := rfl
theorem zk_132_47 : zc 132 47 = some (.iaload, 0, 0, 0, 0) := rfl
theorem zk_132_48 : zc 132 48 = some (.istore 5, 0, 0, 0, 0) := rfl
theorem zk_132_50 : zc 132 50 = some (.aload_n 0, 0, 0, 0, 0) := rfl
theorem zk_132_51 : zc 132 51 = some (.getfield 7, 11, 0, 0, 139) := rfl
theorem zk_132_54 : zc 132 54 = some (.sipush 200, 0, 0, 0, 0) := rfl
theorem zk_132_57 : zc 132 57 = some (.iload 4, 0, 0, 0, 0) := rfl
theorem zk_132_59 : zc 132 59 = some (.iadd, 0, 0, 0, 0) := rfl
theorem zk_132_60 : zc 132 60 = some (.iload_n 3, 0, 0, 0, 0) := rfl
theorem zk_132_61 : zc 132 61 = some (.iastore, 0, 0, 0, 0) := rfl
theorem zk_132_62 : zc 132 62 = some (.iload 5, 0, 0, 0, 0) := rfl
theorem zk_132_64 : zc 132 64 = some (.ireturn, 0, 0, 0, 0) := rfl
theorem zk_133_0 : zc 133 0 = some (.iload_n 1, 0, 0, 0, 0) := rfl
theorem zk_133_1 : zc 133 1 = some (.invokestatic 99, 124, 1, 1, 128) := rfl
theorem zk_133_4 : zc 133 4 = some (.ifCond .ne 9, 13, 0, 0, 0) := rfl
theorem zk_133_13 : zc 133 13 = some (.iconst 0, 0, 0, 0, 0) := rfl
theorem zk_134_0 : zc 134 0 = some (.iload_n 1, 0, 0, 0, 0) := rfl
theorem zk_134_1 : zc 134 1 = some (.ifCond .lt 15, 16, 0, 0, 0) := rfl
theorem zk_134_4 : zc 134 4 = some (.iload_n 1, 0, 0, 0, 0) := rfl
theorem zk_134_5 : zc 134 5 = some (.aload_n 0, 0, 0, 0, 0) := rfl
theorem zk_134_6 : zc 134 6 = some (.getfield 7, 11, 0, 0, 139) := rfl
theorem zk_134_9 : zc 134 9 = some (.sipush 633, 0, 0, 0, 0) := rfl
theorem zk_134_12 : zc 134 12 = some (.iaload, 0, 0, 0, 0) := rfl
theorem zk_134_13 : zc 134 13 = some (.if_icmp .lt 11, 24, 0, 0, 0) := rfl
theorem zk_134_16 : zc 134 16 = some (.aload_n 0, 0, 0, 0, 0) := rfl
theorem zk_134_17 : zc 134 17 = some (.iconst (-1), 0, 0, 0, 0) := rfl
theorem zk_134_18 : zc 134 18 = some (.invokevirtual 103, 123, 0, 2, 129) := rfl
theorem zk_134_21 : zc 134 21 = some (.goto 13, 34, 0, 0, 0) := rfl
theorem zk_134_34 : zc 134 34 = some (.ireturn, 0, 0, 0, 0) := rfl
theorem zk_135_0 : zc 135 0 = some (.iload_n 1, 0, 0, 0, 0) := rfl
theorem zk_135_1 : zc 135 1 = some (.invokestatic 115, 125, 1, 1, 132) := rfl
theorem zk_135_4 : zc 135 4 = some (.ifCond .ne 9, 13, 0, 0, 0) := rfl
theorem zk_135_7 : zc 135 7 = some (.aload_n 0, 0, 0, 0, 0) := rfl
theorem zk_135_8 : zc 135 8 = some (.iconst (-1), 0, 0, 0, 0) := rfl
theorem zk_135_9 : zc 135 9 = some (.invokevirtual 103, 123, 0, 2, 129) := rfl
theorem zk_135_12 : zc 135 12 = some (.ireturn, 0, 0, 0, 0) := rfl
theorem zk_135_13 : zc 135 13 = some (.iload_n 3, 0, 0, 0, 0) := rfl
theorem zk_135_14 : zc 135 14 = some (.ifCond .ge 10, 24, 0, 0, 0) := rfl
theorem zk_135_17 : zc 135 17 = some (.aload_n 0, 0, 0, 0, 0) := rfl
theorem zk_135_18 : zc 135 18 = some (.bipush (-4), 0, 0, 0, 0) := rfl
theorem zk_135_20 : zc 135 20 = some (.invokevirtual 103, 123, 0, 2, 129) := rfl
theorem zk_135_23 : zc 135 23 = some (.ireturn, 0, 0, 0, 0) := rfl
theorem zk_135_24 : zc 135 24 = some (.iload_n 2, 0, 0, 0, 0) := rfl
theorem zk_135_25 : zc 135 25 = some (.ifCond .lt 8, 33, 0, 0, 0) := rfl
theorem zk_135_28 : zc 135 28 = some (.iload_n 2, 0, 0, 0, 0) := rfl
theorem zk_135_29 : zc 135 29 = some (.iconst 3, 0, 0, 0, 0) := rfl
theorem zk_135_30 : zc 135 30 = some (.if_icmp .le 10, 40, 0, 0, 0) := rfl
theorem zk_135_33 : zc 135 33 = some (.aload_n 0, 0, 0, 0, 0) := rfl
theorem zk_135_34 : zc 135 34 = some (.bipush (-6), 0, 0, 0, 0) := rfl
theorem zk_135_36 : zc 135 36 = some (.invokevirtual 103, 123, 0, 2, 129) := rfl
theorem zk_135_39 : zc 135 39 = some (.ireturn, 0, 0, 0, 0) := rfl
theorem zk_135_40 : zc 135 40 = some (.iload_n 3, 0, 0, 0, 0) := rfl
theorem zk_135_41 : zc 135 41 = some (.bipush 96, 0, 0, 0, 0) := rfl
theorem zk_135_43 : zc 135 43 = some (.if_icmp .le 10, 53, 0, 0, 0) := rfl
theorem zk_135_46 : zc 135 46 = some (.aload_n 0, 0, 0, 0, 0) := rfl
theorem zk_135_47 : zc 135 47 = some (.bipush (-7), 0, 0, 0, 0) := rfl
theorem zk_135_49 : zc 135 49 = some (.invokevirtual 103, 123, 0, 2, 129) := rfl
theorem zk_135_52 : zc 135 52 = some (.ireturn, 0, 0, 0, 0) := rfl
theorem zk_135_53 : zc 135 53 = some (.aload_n 0, 0, 0, 0, 0) := rfl
theorem zk_135_54 : zc 135 54 = some (.getfield 19, 11, 4, 0, 142) := rfl
theorem zk_135_57 : zc 135 57 = some (.iload_n 1, 0, 0, 0, 0) := rfl
theorem zk_135_58 : zc 135 58 = some (.iconst 1, 0, 0, 0, 0) := rfl
theorem zk_135_59 : zc 135 59 = some (.iastore, 0, 0, 0, 0) := rfl
theorem zk_135_60 : zc 135 60 = some (.aload_n 0, 0, 0, 0, 0) := rfl
theorem zk_135_61 : zc 135 61 = some (.getfield 22, 11, 5, 0, 143) := rfl
theorem zk_135_64 : zc 135 64 = some (.iload_n 1, 0, 0, 0, 0) := rfl
theorem zk_135_65 : zc 135 65 = some (.iload_n 2, 0, 0, 0, 0) := rfl
theorem zk_135_66 : zc 135 66 = some (.iastore, 0, 0, 0, 0) := rfl
theorem zk_135_67 : zc 135 67 = some (.aload_n 0, 0, 0, 0, 0) := rfl
theorem zk_135_68 : zc 135 68 = some (.getfield 25, 11, 6, 0, 144) := rfl
theorem zk_135_71 : zc 135 71 = some (.iload_n 1, 0, 0, 0, 0) := rfl
theorem zk_135_72 : zc 135 72 = some (.iload_n 3, 0, 0, 0, 0) := rfl
theorem zk_135_73 : zc 135 73 = some (.iastore, 0, 0, 0, 0) := rfl
theorem zk_135_74 : zc 135 74 = some (.iconst 0, 0, 0, 0, 0) := rfl
theorem zk_135_75 : zc 135 75 = some (.istore 4, 0, 0, 0, 0) := rfl
theorem zk_135_77 : zc 135 77 = some (.iload 4, 0, 0, 0, 0) := rfl
theorem zk_135_79 : zc 135 79 = some (.bipush 96, 0, 0, 0, 0) := rfl
theorem zk_135_81 : zc 135 81 = some (.if_icmp .ge 22, 103, 0, 0, 0) := rfl
theorem zk_135_84 : zc 135 84 = some (.aload_n 0, 0, 0, 0, 0) := rfl
theorem zk_135_85 : zc 135 85 = some (.getfield 31, 11, 8, 0, 146) := rfl
theorem zk_135_88 : zc 135 88 = some (.bipush 96, 0, 0, 0, 0) := rfl
theorem zk_135_90 : zc 135 90 = some (.iload_n 1, 0, 0, 0, 0) := rfl
theorem zk_135_91 : zc 135 91 = some (.imul, 0, 0, 0, 0) := rfl
theorem zk_135_92 : zc 135 92 = some (.iload 4, 0, 0, 0, 0) := rfl
theorem zk_135_94 : zc 135 94 = some (.iadd, 0, 0, 0, 0) := rfl
theorem zk_135_95 : zc 135 95 = some (.lconst 0, 0, 0, 0, 0) := rfl
theorem zk_135_96 : zc 135 96 = some (.lastore, 0, 0, 0, 0) := rfl
theorem zk_135_97 : zc 135 97 = some (.iinc 4 1, 0, 0, 0, 0) := rfl
theorem zk_135_100 : zc 135 100 = some (.goto (-23), 77, 0, 0, 0) := rfl
theorem zk_135_103 : zc 135 103 = some (.iconst 1, 0, 0, 0, 0) := rfl
theorem zk_135_104 : zc 135 104 = some (.ireturn, 0, 0, 0, 0) := rfl
theorem zk_136_0 : zc 136 0 = some (.iload_n 1, 0, 0, 0, 0) := rfl
theorem zk_136_1 : zc 136 1 = some (.invokestatic 115, 125, 1, 1, 132) := rfl
theorem zk_136_4 : zc 136 4 = some (.ifCond .ne 9, 13, 0, 0, 0) := rfl
theorem zk_136_7 : zc 136 7 = some (.aload_n 0, 0, 0, 0, 0) := rfl
theorem zk_136_8 : zc 136 8 = some (.iconst (-1), 0, 0, 0, 0) := rfl
theorem zk_136_9 : zc 136 9 = some (.invokevirtual 103, 123, 0, 2, 129) := rfl
theorem zk_136_12 : zc 136 12 = some (.ireturn, 0, 0, 0, 0) := rfl
theorem zk_136_13 : zc 136 13 = some (.aload_n 0, 0, 0, 0, 0) := rfl
theorem zk_136_14 : zc 136 14 = some (.getfield 19, 11, 4, 0, 142) := rfl
theorem zk_136_17 : zc 136 17 = some (.iload_n 1, 0, 0, 0, 0) := rfl
theorem zk_136_18 : zc 136 18 = some (.iaload, 0, 0, 0, 0) := rfl
theorem zk_136_19 : zc 136 19 = some (.iconst 2, 0, 0, 0, 0) := rfl
theorem zk_136_20 : zc 136 20 = some (.if_icmp .ne 10, 30, 0, 0, 0) := rfl
theorem zk_136_30 : zc 136 30 = some (.aload_n 0, 0, 0, 0, 0) := rfl
theorem zk_136_31 : zc 136 31 = some (.getfield 19, 11, 4, 0, 142) := rfl
theorem zk_136_34 : zc 136 34 = some (.iload_n 1, 0, 0, 0, 0) := rfl
theorem zk_136_35 : zc 136 35 = some (.iaload, 0, 0, 0, 0) := rfl
theorem zk_136_36 : zc 136 36 = some (.ifCond .ne 10, 46, 0, 0, 0) := rfl
theorem zk_136_39 : zc 136 39 = some (.aload_n 0, 0, 0, 0, 0) := rfl
theorem zk_136_40 : zc 136 40 = some (.bipush (-3), 0, 0, 0, 0) := rfl
theorem zk_136_42 : zc 136 42 = some (.invokevirtual 103, 123, 0, 2, 129) := rfl
theorem zk_136_45 : zc 136 45 = some (.ireturn, 0, 0, 0, 0) := rfl
theorem zk_137_0 : zc 137 0 = some (.iload_n 1, 0, 0, 0, 0) := rfl
theorem zk_137_1 : zc 137 1 = some (.invokestatic 115, 125, 1, 1, 132) := rfl
theorem zk_137_4 : zc 137 4 = some (.ifCond .eq 10, 14, 0, 0, 0) := rfl
theorem zk_137_7 : zc 137 7 = some (.iload_n 2, 0, 0, 0, 0) := rfl
theorem zk_137_8 : zc 137 8 = some (.invokestatic 115, 125, 1, 1, 132) := rfl
theorem zk_137_11 : zc 137 11 = some (.ifCond .ne 9, 20, 0, 0, 0) := rfl
theorem zk_137_14 : zc 137 14 = some (.aload_n 0, 0, 0, 0, 0) := rfl
theorem zk_137_15 : zc 137 15 = some (.iconst (-1), 0, 0, 0, 0) := rfl
theorem zk_137_16 : zc 137 16 = some (.invokevirtual 103, 123, 0, 2, 129) := rfl
theorem zk_137_19 : zc 137 19 = some (.ireturn, 0, 0, 0, 0) := rfl
theorem zk_137_20 : zc 137 20 = some (.aload_n 0, 0, 0, 0, 0) := rfl
theorem zk_137_21 : zc 137 21 = some (.getfield 19, 11, 4, 0, 142) := rfl
theorem zk_137_24 : zc 137 24 = some (.iload_n 1, 0, 0, 0, 0) := rfl
theorem zk_137_25 : zc 137 25 = some (.iaload, 0, 0, 0, 0) := rfl
theorem zk_137_26 : zc 137 26 = some (.iconst 2, 0, 0, 0, 0) := rfl
theorem zk_137_27 : zc 137 27 = some (.if_icmp .eq 48, 75, 0, 0, 0) := rfl
theorem zk_137_30 : zc 137 30 = some (.aload_n 0, 0, 0, 0, 0) := rfl
theorem zk_137_31 : zc 137 31 = some (.getfield 19, 11, 4, 0, 142) := rfl
theorem zk_137_34 : zc 137 34 = some (.iload_n 2, 0, 0, 0, 0) := rfl
theorem zk_137_35 : zc 137 35 = some (.iaload, 0, 0, 0, 0) := rfl
theorem zk_137_36 : zc 137 36 = some (.iconst 2, 0, 0, 0, 0) := rfl
theorem zk_137_37 : zc 137 37 = some (.if_icmp .eq 38, 75, 0, 0, 0) := rfl
theorem zk_137_40 : zc 137 40 = some (.aload_n 0, 0, 0, 0, 0) := rfl
theorem zk_137_41 : zc 137 41 = some (.getfield 19, 11, 4, 0, 142) := rfl
theorem zk_137_44 : zc 137 44 = some (.iload_n 1, 0, 0, 0, 0) := rfl
theorem zk_137_45 : zc 137 45 = some (.iaload, 0, 0, 0, 0) := rfl
theorem zk_137_46 : zc 137 46 = some (.iconst 1, 0, 0, 0, 0) := rfl
theorem zk_137_47 : zc 137 47 = some (.if_icmp .ne 35, 82, 0, 0, 0) := rfl
theorem zk_137_82 : zc 137 82 = some (.aload_n 0, 0, 0, 0, 0) := rfl
theorem zk_137_83 : zc 137 83 = some (.getfield 19, 11, 4, 0, 142) := rfl
theorem zk_137_86 : zc 137 86 = some (.iload_n 1, 0, 0, 0, 0) := rfl
theorem zk_137_87 : zc 137 87 = some (.iaload, 0, 0, 0, 0) := rfl
theorem zk_137_88 : zc 137 88 = some (.ifCond .eq 12, 100, 0, 0, 0) := rfl
theorem zk_137_100 : zc 137 100 = some (.aload_n 0, 0, 0, 0, 0) := rfl
theorem zk_137_101 : zc 137 101 = some (.bipush (-3), 0, 0, 0, 0) := rfl
theorem zk_137_103 : zc 137 103 = some (.invokevirtual 103, 123, 0, 2, 129) := rfl
theorem zk_137_106 : zc 137 106 = some (.ireturn, 0, 0, 0, 0) := rfl
theorem zk_138_0 : zc 138 0 = some (.iload_n 1, 0, 0, 0, 0) := rfl
theorem zk_138_1 : zc 138 1 = some (.invokestatic 115, 125, 1, 1, 132) := rfl
theorem zk_138_4 : zc 138 4 = some (.ifCond .eq 41, 45, 0, 0, 0) := rfl
theorem zk_138_7 : zc 138 7 = some (.aload_n 0, 0, 0, 0, 0) := rfl
theorem zk_138_8 : zc 138 8 = some (.getfield 19, 11, 4, 0, 142) := rfl
theorem zk_138_11 : zc 138 11 = some (.iload_n 1, 0, 0, 0, 0) := rfl
theorem zk_138_12 : zc 138 12 = some (.iaload, 0, 0, 0, 0) := rfl
theorem zk_138_13 : zc 138 13 = some (.iconst 1, 0, 0, 0, 0) := rfl
theorem zk_138_14 : zc 138 14 = some (.if_icmp .ne 31, 45, 0, 0, 0) := rfl
theorem zk_138_45 : zc 138 45 = some (.lconst 0, 0, 0, 0, 0) := rfl
theorem zk_138_46 : zc 138 46 = some (.lreturn, 0, 0, 0, 0) := rfl
theorem zk_139_0 : zc 139 0 = some (.iload_n 1, 0, 0, 0, 0) := rfl
theorem zk_139_1 : zc 139 1 = some (.ifCond .lt 19, 20, 0, 0, 0) := rfl
theorem zk_139_4 : zc 139 4 = some (.iload_n 1, 0, 0, 0, 0) := rfl
theorem zk_139_5 : zc 139 5 = some (.aload_n 0, 0, 0, 0, 0) := rfl
theorem zk_139_6 : zc 139 6 = some (.getfield 7, 11, 0, 0, 139) := rfl
theorem zk_139_9 : zc 139 9 = some (.sipush 641, 0, 0, 0, 0) := rfl
theorem zk_139_12 : zc 139 12 = some (.iaload, 0, 0, 0, 0) := rfl
theorem zk_139_13 : zc 139 13 = some (.if_icmp .ge 7, 20, 0, 0, 0) := rfl
theorem zk_139_20 : zc 139 20 = some (.iconst 0, 0, 0, 0, 0) := rfl
theorem zk_139_21 : zc 139 21 = some (.ireturn, 0, 0, 0, 0) := rfl
theorem zk_140_0 : zc 140 0 = some (.iload_n 1, 0, 0, 0, 0) := rfl
theorem zk_140_1 : zc 140 1 = some (.invokestatic 115, 125, 1, 1, 132) := rfl
theorem zk_140_4 : zc 140 4 = some (.ifCond .eq 16, 20, 0, 0, 0) := rfl
theorem zk_140_7 : zc 140 7 = some (.iload_n 2, 0, 0, 0, 0) := rfl
theorem zk_140_8 : zc 140 8 = some (.iconst (-1), 0, 0, 0, 0) := rfl
theorem zk_140_9 : zc 140 9 = some (.if_icmp .eq 17, 26, 0, 0, 0) := rfl
theorem zk_140_12 : zc 140 12 = some (.aload_n 0, 0, 0, 0, 0) := rfl
theorem zk_140_13 : zc 140 13 = some (.iload_n 2, 0, 0, 0, 0) := rfl
theorem zk_140_14 : zc 140 14 = some (.invokevirtual 118, 139, 0, 2, 133) := rfl
theorem zk_140_17 : zc 140 17 = some (.ifCond .ne 9, 26, 0, 0, 0) := rfl
theorem zk_140_20 : zc 140 20 = some (.aload_n 0, 0, 0, 0, 0) := rfl
theorem zk_140_21 : zc 140 21 = some (.iconst (-1), 0, 0, 0, 0) := rfl
theorem zk_140_22 : zc 140 22 = some (.invokevirtual 103, 123, 0, 2, 129) := rfl
theorem zk_140_25 : zc 140 25 = some (.ireturn, 0, 0, 0, 0) := rfl
theorem zk_140_26 : zc 140 26 = some (.aload_n 0, 0, 0, 0, 0) := rfl
theorem zk_140_27 : zc 140 27 = some (.getfield 19, 11, 4, 0, 142) := rfl
theorem zk_140_30 : zc 140 30 = some (.iload_n 1, 0, 0, 0, 0) := rfl
theorem zk_140_31 : zc 140 31 = some (.iload_n 2, 0, 0, 0, 0) := rfl
theorem zk_140_32 : zc 140 32 = some (.iconst (-1), 0, 0, 0, 0) := rfl
theorem zk_140_33 : zc 140 33 = some (.if_icmp .ne 7, 40, 0, 0, 0) := rfl
theorem zk_140_36 : zc 140 36 = some (.iconst 0, 0, 0, 0, 0) := rfl
theorem zk_140_37 : zc 140 37 = some (.goto 4, 41, 0, 0, 0) := rfl
theorem zk_140_41 : zc 140 41 = some (.iastore, 0, 0, 0, 0) := rfl
theorem zk_140_42 : zc 140 42 = some (.aload_n 0, 0, 0, 0, 0) := rfl
theorem zk_140_43 : zc 140 43 = some (.getfield 28, 11, 7, 0, 145) := rfl
theorem zk_140_46 : zc 140 46 = some (.iload_n 1, 0, 0, 0, 0) := rfl
theorem zk_140_47 : zc 140 47 = some (.iload_n 2, 0, 0, 0, 0) := rfl
theorem zk_140_48 : zc 140 48 = some (.iastore, 0, 0, 0, 0) := rfl
theorem zk_140_49 : zc 140 49 = some (.iload_n 2, 0, 0, 0, 0) := rfl
theorem zk_140_50 : zc 140 50 = some (.iconst (-1), 0, 0, 0, 0) := rfl
theorem zk_140_51 : zc 140 51 = some (.if_icmp .ne 7, 58, 0, 0, 0) := rfl
theorem zk_140_54 : zc 140 54 = some (.iconst 0, 0, 0, 0, 0) := rfl
theorem zk_140_55 : zc 140 55 = some (.goto 4, 59, 0, 0, 0) := rfl
theorem zk_140_59 : zc 140 59 = some (.ireturn, 0, 0, 0, 0) := rfl
theorem zk_141_0 : zc 141 0 = some (.iload_n 1, 0, 0, 0, 0) := rfl
theorem zk_141_1 : zc 141 1 = some (.invokestatic 115, 125, 1, 1, 132) := rfl
theorem zk_141_4 : zc 141 4 = some (.ifCond .eq 12, 16, 0, 0, 0) := rfl
theorem zk_141_7 : zc 141 7 = some (.aload_n 0, 0, 0, 0, 0) := rfl
theorem zk_141_8 : zc 141 8 = some (.getfield 19, 11, 4, 0, 142) := rfl
theorem zk_141_11 : zc 141 11 = some (.iload_n 1, 0, 0, 0, 0) := rfl
theorem zk_141_12 : zc 141 12 = some (.iaload, 0, 0, 0, 0) := rfl
theorem zk_141_13 : zc 141 13 = some (.ifCond .ne 5, 18, 0, 0, 0) := rfl
theorem zk_141_16 : zc 141 16 = some (.iconst (-1), 0, 0, 0, 0) := rfl
theorem zk_141_17 : zc 141 17 = some (.ireturn, 0, 0, 0, 0) := rfl
theorem zk_142_0 : zc 142 0 = some (.iload_n 1, 0, 0, 0, 0) := rfl
theorem zk_142_1 : zc 142 1 = some (.invokestatic 115, 125, 1, 1, 132) := rfl
theorem zk_142_4 : zc 142 4 = some (.ifCond .eq 12, 16, 0, 0, 0) := rfl
theorem zk_142_7 : zc 142 7 = some (.iload_n 2, 0, 0, 0, 0) := rfl
theorem zk_142_8 : zc 142 8 = some (.ifCond .lt 8, 16, 0, 0, 0) := rfl
theorem zk_142_11 : zc 142 11 = some (.iload_n 2, 0, 0, 0, 0) := rfl
theorem zk_142_12 : zc 142 12 = some (.iconst 2, 0, 0, 0, 0) := rfl
theorem zk_142_13 : zc 142 13 = some (.if_icmp .le 9, 22, 0, 0, 0) := rfl
theorem zk_142_16 : zc 142 16 = some (.aload_n 0, 0, 0, 0, 0) := rfl
theorem zk_142_17 : zc 142 17 = some (.iconst (-1), 0, 0, 0, 0) := rfl
theorem zk_142_18 : zc 142 18 = some (.invokevirtual 103, 123, 0, 2, 129) := rfl
theorem zk_142_21 : zc 142 21 = some (.ireturn, 0, 0, 0, 0) := rfl
theorem zk_142_22 : zc 142 22 = some (.aload_n 0, 0, 0, 0, 0) := rfl
theorem zk_142_23 : zc 142 23 = some (.getfield 19, 11, 4, 0, 142) := rfl
theorem zk_142_26 : zc 142 26 = some (.iload_n 1, 0, 0, 0, 0) := rfl
theorem zk_142_27 : zc 142 27 = some (.iaload, 0, 0, 0, 0) := rfl
theorem zk_142_28 : zc 142 28 = some (.iconst 1, 0, 0, 0, 0) := rfl
theorem zk_142_29 : zc 142 29 = some (.if_icmp .eq 36, 65, 0, 0, 0) := rfl
theorem zk_142_32 : zc 142 32 = some (.aload_n 0, 0, 0, 0, 0) := rfl
theorem zk_142_33 : zc 142 33 = some (.getfield 19, 11, 4, 0, 142) := rfl
theorem zk_142_36 : zc 142 36 = some (.iload_n 1, 0, 0, 0, 0) := rfl
theorem zk_142_37 : zc 142 37 = some (.iaload, 0, 0, 0, 0) := rfl
theorem zk_142_38 : zc 142 38 = some (.iconst 2, 0, 0, 0, 0) := rfl
theorem zk_142_39 : zc 142 39 = some (.if_icmp .ne 33, 72, 0, 0, 0) := rfl
theorem zk_142_72 : zc 142 72 = some (.aload_n 0, 0, 0, 0, 0) := rfl
theorem zk_142_73 : zc 142 73 = some (.getfield 19, 11, 4, 0, 142) := rfl
theorem zk_142_76 : zc 142 76 = some (.iload_n 1, 0, 0, 0, 0) := rfl
theorem zk_142_77 : zc 142 77 = some (.iaload, 0, 0, 0, 0) := rfl
theorem zk_142_78 : zc 142 78 = some (.ifCond .ne 10, 88, 0, 0, 0) := rfl
theorem zk_142_81 : zc 142 81 = some (.aload_n 0, 0, 0, 0, 0) := rfl
theorem zk_142_82 : zc 142 82 = some (.bipush (-3), 0, 0, 0, 0) := rfl
theorem zk_142_84 : zc 142 84 = some (.invokevirtual 103, 123, 0, 2, 129) := rfl
theorem zk_142_87 : zc 142 87 = some (.ireturn, 0, 0, 0, 0) := rfl
theorem zk_143_0 : zc 143 0 = some (.iload_n 1, 0, 0, 0, 0) := rfl
theorem zk_143_1 : zc 143 1 = some (.invokestatic 115, 125, 1, 1, 132) := rfl
theorem zk_143_4 : zc 143 4 = some (.ifCond .ne 7, 11, 0, 0, 0) := rfl
theorem zk_143_7 : zc 143 7 = some (.iconst (-1), 0, 0, 0, 0) := rfl
theorem zk_143_8 : zc 143 8 = some (.goto 33, 41, 0, 0, 0) := rfl
theorem zk_143_11 : zc 143 11 = some (.aload_n 0, 0, 0, 0, 0) := rfl
theorem zk_143_12 : zc 143 12 = some (.getfield 19, 11, 4, 0, 142) := rfl
theorem zk_143_15 : zc 143 15 = some (.iload_n 1, 0, 0, 0, 0) := rfl
theorem zk_143_16 : zc 143 16 = some (.iaload, 0, 0, 0, 0) := rfl
theorem zk_143_17 : zc 143 17 = some (.iconst 2, 0, 0, 0, 0) := rfl
theorem zk_143_18 : zc 143 18 = some (.if_icmp .ne 8, 26, 0, 0, 0) := rfl
theorem zk_143_26 : zc 143 26 = some (.aload_n 0, 0, 0, 0, 0) := rfl
theorem zk_143_27 : zc 143 27 = some (.getfield 19, 11, 4, 0, 142) := rfl
theorem zk_143_30 : zc 143 30 = some (.iload_n 1, 0, 0, 0, 0) := rfl
theorem zk_143_31 : zc 143 31 = some (.iaload, 0, 0, 0, 0) := rfl
theorem zk_143_32 : zc 143 32 = some (.ifCond .ne 8, 40, 0, 0, 0) := rfl
theorem zk_143_35 : zc 143 35 = some (.bipush (-3), 0, 0, 0, 0) := rfl
theorem zk_143_37 : zc 143 37 = some (.goto 4, 41, 0, 0, 0) := rfl
theorem zk_143_41 : zc 143 41 = some (.ireturn, 0, 0, 0, 0) := rfl
theorem zk_144_0 : zc 144 0 = some (.aload_n 0, 0, 0, 0, 0) := rfl
theorem zk_144_1 : zc 144 1 = some (.iload_n 1, 0, 0, 0, 0) := rfl
theorem zk_144_2 : zc 144 2 = some (.invokevirtual 121, 143, 0, 2, 134) := rfl
theorem zk_144_5 : zc 144 5 = some (.istore_n 3, 0, 0, 0, 0) := rfl
theorem zk_144_6 : zc 144 6 = some (.iload_n 3, 0, 0, 0, 0) := rfl
theorem zk_144_7 : zc 144 7 = some (.ifCond .eq 9, 16, 0, 0, 0) := rfl
theorem zk_144_10 : zc 144 10 = some (.aload_n 0, 0, 0, 0, 0) := rfl
theorem zk_144_11 : zc 144 11 = some (.iload_n 3, 0, 0, 0, 0) := rfl
theorem zk_144_12 : zc 144 12 = some (.invokevirtual 103, 123, 0, 2, 129) := rfl
theorem zk_144_15 : zc 144 15 = some (.ireturn, 0, 0, 0, 0) := rfl
theorem zk_145_0 : zc 145 0 = some (.aload_n 0, 0, 0, 0, 0) := rfl
theorem zk_145_1 : zc 145 1 = some (.getfield 7, 11, 0, 0, 139) := rfl
theorem zk_145_4 : zc 145 4 = some (.iload_n 2, 0, 0, 0, 0) := rfl
theorem zk_145_5 : zc 145 5 = some (.ifCond .eq 9, 14, 0, 0, 0) := rfl
theorem zk_145_8 : zc 145 8 = some (.sipush 636, 0, 0, 0, 0) := rfl
theorem zk_145_11 : zc 145 11 = some (.goto 6, 17, 0, 0, 0) := rfl
theorem zk_145_14 : zc 145 14 = some (.sipush 635, 0, 0, 0, 0) := rfl
theorem zk_145_17 : zc 145 17 = some (.iaload, 0, 0, 0, 0) := rfl
theorem zk_145_18 : zc 145 18 = some (.istore_n 3, 0, 0, 0, 0) := rfl
theorem zk_145_19 : zc 145 19 = some (.iload_n 3, 0, 0, 0, 0) := rfl
theorem zk_145_20 : zc 145 20 = some (.ifCond .ne 7, 27, 0, 0, 0) := rfl
theorem zk_145_23 : zc 145 23 = some (.iconst 0, 0, 0, 0, 0) := rfl
theorem zk_145_24 : zc 145 24 = some (.goto 25, 49, 0, 0, 0) := rfl
theorem zk_145_49 : zc 145 49 = some (.ireturn, 0, 0, 0, 0) := rfl
theorem zk_146_0 : zc 146 0 = some (.iload_n 1, 0, 0, 0, 0) := rfl
theorem zk_146_1 : zc 146 1 = some (.ifCond .ge 9, 10, 0, 0, 0) := rfl
theorem zk_146_4 : zc 146 4 = some (.sipush 1000, 0, 0, 0, 0) := rfl
theorem zk_146_7 : zc 146 7 = some (.goto 9, 16, 0, 0, 0) := rfl
theorem zk_146_10 : zc 146 10 = some (.aload_n 0, 0, 0, 0, 0) := rfl
theorem zk_146_11 : zc 146 11 = some (.iload_n 1, 0, 0, 0, 0) := rfl
theorem zk_146_12 : zc 146 12 = some (.iload_n 2, 0, 0, 0, 0) := rfl
theorem zk_146_13 : zc 146 13 = some (.invokevirtual 134, 145, 0, 3, 135) := rfl
theorem zk_146_16 : zc 146 16 = some (.ireturn, 0, 0, 0, 0) := rfl
theorem zk_155_0 : zc 155 0 = some (.aload_n 0, 0, 0, 0, 0) := rfl
theorem zk_155_1 : zc 155 1 = some (.iload_n 1, 0, 0, 0, 0) := rfl
theorem zk_155_2 : zc 155 2 = some (.invokevirtual 121, 143, 0, 2, 134) := rfl
theorem zk_155_5 : zc 155 5 = some (.istore_n 2, 0, 0, 0, 0) := rfl
theorem zk_155_6 : zc 155 6 = some (.iload_n 2, 0, 0, 0, 0) := rfl
theorem zk_155_7 : zc 155 7 = some (.ifCond .eq 9, 16, 0, 0, 0) := rfl
theorem zk_155_10 : zc 155 10 = some (.aload_n 0, 0, 0, 0, 0) := rfl
theorem zk_155_11 : zc 155 11 = some (.iload_n 2, 0, 0, 0, 0) := rfl
theorem zk_155_12 : zc 155 12 = some (.invokevirtual 103, 123, 0, 2, 129) := rfl
theorem zk_155_15 : zc 155 15 = some (.ireturn, 0, 0, 0, 0) := rfl
theorem zk_156_0 : zc 156 0 = some (.aload_n 0, 0, 0, 0, 0) := rfl
theorem zk_156_1 : zc 156 1 = some (.getfield 56, 11, 16, 0, 154) := rfl
theorem zk_156_4 : zc 156 4 = some (.ireturn, 0, 0, 0, 0) := rfl
theorem zk_157_0 : zc 157 0 = some (.iload_n 1, 0, 0, 0, 0) := rfl
theorem zk_157_1 : zc 157 1 = some (.ifCond .lt 19, 20, 0, 0, 0) := rfl
theorem zk_157_4 : zc 157 4 = some (.iload_n 1, 0, 0, 0, 0) := rfl
theorem zk_157_5 : zc 157 5 = some (.aload_n 0, 0, 0, 0, 0) := rfl
theorem zk_157_6 : zc 157 6 = some (.getfield 7, 11, 0, 0, 139) := rfl
theorem zk_157_9 : zc 157 9 = some (.sipush 640, 0, 0, 0, 0) := rfl
theorem zk_157_12 : zc 157 12 = some (.iaload, 0, 0, 0, 0) := rfl
theorem zk_157_13 : zc 157 13 = some (.if_icmp .ge 7, 20, 0, 0, 0) := rfl
theorem zk_157_20 : zc 157 20 = some (.iconst 0, 0, 0, 0, 0) := rfl
theorem zk_157_21 : zc 157 21 = some (.ireturn, 0, 0, 0, 0) := rfl
theorem zk_158_0 : zc 158 0 = some (.aload_n 0, 0, 0, 0, 0) := rfl
theorem zk_158_1 : zc 158 1 = some (.iload_n 1, 0, 0, 0, 0) := rfl
theorem zk_158_2 : zc 158 2 = some (.invokevirtual 183, 157, 0, 2, 143) := rfl
theorem zk_158_5 : zc 158 5 = some (.ifCond .eq 16, 21, 0, 0, 0) := rfl
theorem zk_158_21 : zc 158 21 = some (.aload_n 0, 0, 0, 0, 0) := rfl
theorem zk_158_22 : zc 158 22 = some (.iconst (-1), 0, 0, 0, 0) := rfl
theorem zk_158_23 : zc 158 23 = some (.invokevirtual 103, 123, 0, 2, 129) := rfl
theorem zk_158_26 : zc 158 26 = some (.ireturn, 0, 0, 0, 0) := rfl
theorem zk_159_0 : zc 159 0 = some (.aload_n 0, 0, 0, 0, 0) := rfl
theorem zk_159_1 : zc 159 1 = some (.getfield 7, 11, 0, 0, 139) := rfl
theorem zk_159_4 : zc 159 4 = some (.bipush 25, 0, 0, 0, 0) := rfl
theorem zk_159_6 : zc 159 6 = some (.iaload, 0, 0, 0, 0) := rfl
theorem zk_160_0 : zc 160 0 = some (.iconst 0, 0, 0, 0, 0) := rfl
theorem zk_160_1 : zc 160 1 = some (.istore_n 1, 0, 0, 0, 0) := rfl
theorem zk_160_2 : zc 160 2 = some (.iconst 0, 0, 0, 0, 0) := rfl
theorem zk_160_3 : zc 160 3 = some (.istore_n 2, 0, 0, 0, 0) := rfl
theorem zk_160_4 : zc 160 4 = some (.iload_n 2, 0, 0, 0, 0) := rfl
theorem zk_160_5 : zc 160 5 = some (.aload_n 0, 0, 0, 0, 0) := rfl
theorem zk_160_6 : zc 160 6 = some (.getfield 7, 11, 0, 0, 139) := rfl
theorem zk_160_9 : zc 160 9 = some (.sipush 642, 0, 0, 0, 0) := rfl
theorem zk_160_12 : zc 160 12 = some (.iaload, 0, 0, 0, 0) := rfl
theorem zk_160_13 : zc 160 13 = some (.if_icmp .ge 26, 39, 0, 0, 0) := rfl
theorem zk_160_39 : zc 160 39 = some (.iload_n 1, 0, 0, 0, 0) := rfl
theorem zk_160_40 : zc 160 40 = some (.ireturn, 0, 0, 0, 0) := rfl
theorem zk_163_0 : zc 163 0 = some (.aload_n 0, 0, 0, 0, 0) := rfl
theorem zk_163_1 : zc 163 1 = some (.iload_n 1, 0, 0, 0, 0) := rfl
theorem zk_163_2 : zc 163 2 = some (.invokevirtual 183, 157, 0, 2, 143) := rfl
theorem zk_163_5 : zc 163 5 = some (.ifCond .eq 19, 24, 0, 0, 0) := rfl
theorem zk_163_24 : zc 163 24 = some (.iconst (-1), 0, 0, 0, 0) := rfl
theorem zk_163_25 : zc 163 25 = some (.ireturn, 0, 0, 0, 0) := rfl
theorem zk_164_0 : zc 164 0 = some (.iload_n 1, 0, 0, 0, 0) := rfl
theorem zk_164_1 : zc 164 1 = some (.ifCond .lt 15, 16, 0, 0, 0) := rfl
theorem zk_164_4 : zc 164 4 = some (.iload_n 1, 0, 0, 0, 0) := rfl
theorem zk_164_5 : zc 164 5 = some (.iconst 2, 0, 0, 0, 0) := rfl
theorem zk_164_6 : zc 164 6 = some (.if_icmp .gt 10, 16, 0, 0, 0) := rfl
theorem zk_164_9 : zc 164 9 = some (.iload_n 2, 0, 0, 0, 0) := rfl
theorem zk_164_10 : zc 164 10 = some (.invokestatic 99, 124, 1, 1, 128) := rfl
theorem zk_164_13 : zc 164 13 = some (.ifCond .ne 9, 22, 0, 0, 0) := rfl
theorem zk_164_16 : zc 164 16 = some (.aload_n 0, 0, 0, 0, 0) := rfl
theorem zk_164_17 : zc 164 17 = some (.iconst (-1), 0, 0, 0, 0) := rfl
theorem zk_164_18 : zc 164 18 = some (.invokevirtual 103, 123, 0, 2, 129) := rfl
theorem zk_164_21 : zc 164 21 = some (.ireturn, 0, 0, 0, 0) := rfl
theorem zk_164_22 : zc 164 22 = some (.iload_n 3, 0, 0, 0, 0) := rfl
theorem zk_164_23 : zc 164 23 = some (.ifCond .lt 34, 57, 0, 0, 0) := rfl
theorem zk_164_26 : zc 164 26 = some (.iload_n 3, 0, 0, 0, 0) := rfl
theorem zk_164_27 : zc 164 27 = some (.sipush 200, 0, 0, 0, 0) := rfl
theorem zk_164_30 : zc 164 30 = some (.if_icmp .gt 27, 57, 0, 0, 0) := rfl
theorem zk_164_33 : zc 164 33 = some (.iload 4, 0, 0, 0, 0) := rfl
theorem zk_164_35 : zc 164 35 = some (.ifCond .lt 22, 57, 0, 0, 0) := rfl
theorem zk_164_38 : zc 164 38 = some (.iload 4, 0, 0, 0, 0) := rfl
theorem zk_164_40 : zc 164 40 = some (.bipush 99, 0, 0, 0, 0) := rfl
theorem zk_164_42 : zc 164 42 = some (.if_icmp .gt 15, 57, 0, 0, 0) := rfl
theorem zk_164_45 : zc 164 45 = some (.iload 5, 0, 0, 0, 0) := rfl
theorem zk_164_47 : zc 164 47 = some (.ifCond .lt 10, 57, 0, 0, 0) := rfl
theorem zk_164_50 : zc 164 50 = some (.iload 5, 0, 0, 0, 0) := rfl
theorem zk_164_52 : zc 164 52 = some (.bipush 99, 0, 0, 0, 0) := rfl
theorem zk_164_54 : zc 164 54 = some (.if_icmp .le 10, 64, 0, 0, 0) := rfl
theorem zk_164_57 : zc 164 57 = some (.aload_n 0, 0, 0, 0, 0) := rfl
theorem zk_164_58 : zc 164 58 = some (.bipush (-6), 0, 0, 0, 0) := rfl
theorem zk_164_60 : zc 164 60 = some (.invokevirtual 103, 123, 0, 2, 129) := rfl
theorem zk_164_63 : zc 164 63 = some (.ireturn, 0, 0, 0, 0) := rfl
theorem zk_164_64 : zc 164 64 = some (.aload_n 0, 0, 0, 0, 0) := rfl
theorem zk_164_65 : zc 164 65 = some (.getfield 7, 11, 0, 0, 139) := rfl
theorem zk_164_68 : zc 164 68 = some (.sipush 641, 0, 0, 0, 0) := rfl
theorem zk_164_71 : zc 164 71 = some (.iaload, 0, 0, 0, 0) := rfl
theorem zk_164_72 : zc 164 72 = some (.istore 6, 0, 0, 0, 0) := rfl
theorem zk_164_74 : zc 164 74 = some (.iload 6, 0, 0, 0, 0) := rfl
theorem zk_164_76 : zc 164 76 = some (.bipush 12, 0, 0, 0, 0) := rfl
theorem zk_164_78 : zc 164 78 = some (.if_icmp .ne 10, 88, 0, 0, 0) := rfl
theorem zk_164_88 : zc 164 88 = some (.aload_n 0, 0, 0, 0, 0) := rfl
theorem zk_164_89 : zc 164 89 = some (.getfield 7, 11, 0, 0, 139) := rfl
theorem zk_164_92 : zc 164 92 = some (.sipush 448, 0, 0, 0, 0) := rfl
theorem zk_164_95 : zc 164 95 = some (.iload 6, 0, 0, 0, 0) := rfl
theorem zk_164_97 : zc 164 97 = some (.iadd, 0, 0, 0, 0) := rfl
theorem zk_164_98 : zc 164 98 = some (.iload_n 1, 0, 0, 0, 0) := rfl
theorem zk_164_99 : zc 164 99 = some (.iastore, 0, 0, 0, 0) := rfl
theorem zk_164_100 : zc 164 100 = some (.aload_n 0, 0, 0, 0, 0) := rfl
theorem zk_164_101 : zc 164 101 = some (.getfield 7, 11, 0, 0, 139) := rfl
theorem zk_164_104 : zc 164 104 = some (.sipush 460, 0, 0, 0, 0) := rfl
theorem zk_164_107 : zc 164 107 = some (.iload 6, 0, 0, 0, 0) := rfl
theorem zk_164_109 : zc 164 109 = some (.iadd, 0, 0, 0, 0) := rfl
theorem zk_164_110 : zc 164 110 = some (.iload_n 2, 0, 0, 0, 0) := rfl
theorem zk_164_111 : zc 164 111 = some (.iastore, 0, 0, 0, 0) := rfl
theorem zk_164_112 : zc 164 112 = some (.aload_n 0, 0, 0, 0, 0) := rfl
theorem zk_164_113 : zc 164 113 = some (.getfield 7, 11, 0, 0, 139) := rfl
theorem zk_164_116 : zc 164 116 = some (.sipush 472, 0, 0, 0, 0) := rfl
theorem zk_164_119 : zc 164 119 = some (.iload 6, 0, 0, 0, 0) := rfl
theorem zk_164_121 : zc 164 121 = some (.iadd, 0, 0, 0, 0) := rfl
theorem zk_164_122 : zc 164 122 = some (.iload_n 3, 0, 0, 0, 0) := rfl
theorem zk_164_123 : zc 164 123 = some (.iastore, 0, 0, 0, 0) := rfl
theorem zk_164_124 : zc 164 124 = some (.aload_n 0, 0, 0, 0, 0) := rfl
theorem zk_164_125 : zc 164 125 = some (.getfield 7, 11, 0, 0, 139) := rfl
theorem zk_164_128 : zc 164 128 = some (.sipush 484, 0, 0, 0, 0) := rfl
theorem zk_164_131 : zc 164 131 = some (.iload 6, 0, 0, 0, 0) := rfl
theorem zk_164_133 : zc 164 133 = some (.iadd, 0, 0, 0, 0) := rfl
theorem zk_164_134 : zc 164 134 = some (.iload 4, 0, 0, 0, 0) := rfl
theorem zk_164_136 : zc 164 136 = some (.iastore, 0, 0, 0, 0) := rfl
theorem zk_164_137 : zc 164 137 = some (.aload_n 0, 0, 0, 0, 0) := rfl
theorem zk_164_138 : zc 164 138 = some (.getfield 7, 11, 0, 0, 139) := rfl
theorem zk_164_141 : zc 164 141 = some (.sipush 496, 0, 0, 0, 0) := rfl
theorem zk_164_144 : zc 164 144 = some (.iload 6, 0, 0, 0, 0) := rfl
theorem zk_164_146 : zc 164 146 = some (.iadd, 0, 0, 0, 0) := rfl
theorem zk_164_147 : zc 164 147 = some (.iload 5, 0, 0, 0, 0) := rfl
theorem zk_164_149 : zc 164 149 = some (.iastore, 0, 0, 0, 0) := rfl
theorem zk_164_150 : zc 164 150 = some (.sipush 508, 0, 0, 0, 0) := rfl
theorem zk_164_153 : zc 164 153 = some (.istore 7, 0, 0, 0, 0) := rfl
theorem zk_164_155 : zc 164 155 = some (.iload 7, 0, 0, 0, 0) := rfl
theorem zk_164_157 : zc 164 157 = some (.sipush 556, 0, 0, 0, 0) := rfl
theorem zk_164_160 : zc 164 160 = some (.if_icmp .gt 20, 180, 0, 0, 0) := rfl
theorem zk_164_163 : zc 164 163 = some (.aload_n 0, 0, 0, 0, 0) := rfl
theorem zk_164_164 : zc 164 164 = some (.getfield 7, 11, 0, 0, 139) := rfl
theorem zk_164_167 : zc 164 167 = some (.iload 7, 0, 0, 0, 0) := rfl
theorem zk_164_169 : zc 164 169 = some (.iload 6, 0, 0, 0, 0) := rfl
theorem zk_164_171 : zc 164 171 = some (.iadd, 0, 0, 0, 0) := rfl
theorem zk_164_172 : zc 164 172 = some (.iconst 0, 0, 0, 0, 0) := rfl
theorem zk_164_173 : zc 164 173 = some (.iastore, 0, 0, 0, 0) := rfl
theorem zk_164_174 : zc 164 174 = some (.iinc 7 12, 0, 0, 0, 0) := rfl
theorem zk_164_177 : zc 164 177 = some (.goto (-22), 155, 0, 0, 0) := rfl
theorem zk_164_180 : zc 164 180 = some (.aload_n 0, 0, 0, 0, 0) := rfl
theorem zk_164_181 : zc 164 181 = some (.getfield 7, 11, 0, 0, 139) := rfl
theorem zk_164_184 : zc 164 184 = some (.sipush 641, 0, 0, 0, 0) := rfl
theorem zk_164_187 : zc 164 187 = some (.dup2, 0, 0, 0, 0) := rfl
theorem zk_164_188 : zc 164 188 = some (.iaload, 0, 0, 0, 0) := rfl
theorem zk_164_189 : zc 164 189 = some (.dup_x2, 0, 0, 0, 0) := rfl
theorem zk_164_190 : zc 164 190 = some (.iconst 1, 0, 0, 0, 0) := rfl
theorem zk_164_191 : zc 164 191 = some (.iadd, 0, 0, 0, 0) := rfl
theorem zk_164_192 : zc 164 192 = some (.iastore, 0, 0, 0, 0) := rfl
theorem zk_164_193 : zc 164 193 = some (.ireturn, 0, 0, 0, 0) := rfl
theorem zk_165_0 : zc 165 0 = some (.aload_n 0, 0, 0, 0, 0) := rfl
theorem zk_165_1 : zc 165 1 = some (.iload_n 1, 0, 0, 0, 0) := rfl
theorem zk_165_2 : zc 165 2 = some (.invokevirtual 118, 139, 0, 2, 133) := rfl
theorem zk_165_5 : zc 165 5 = some (.ifCond .ne 9, 14, 0, 0, 0) := rfl
theorem zk_165_8 : zc 165 8 = some (.aload_n 0, 0, 0, 0, 0) := rfl
theorem zk_165_9 : zc 165 9 = some (.iconst (-1), 0, 0, 0, 0) := rfl
theorem zk_165_10 : zc 165 10 = some (.invokevirtual 103, 123, 0, 2, 129) := rfl
theorem zk_165_13 : zc 165 13 = some (.ireturn, 0, 0, 0, 0) := rfl
theorem zk_166_0 : zc 166 0 = some (.aload_n 0, 0, 0, 0, 0) := rfl
theorem zk_166_1 : zc 166 1 = some (.iload_n 1, 0, 0, 0, 0) := rfl
theorem zk_166_2 : zc 166 2 = some (.invokevirtual 118, 139, 0, 2, 133) := rfl
theorem zk_166_5 : zc 166 5 = some (.ifCond .ne 5, 10, 0, 0, 0) := rfl
theorem zk_166_8 : zc 166 8 = some (.iconst (-1), 0, 0, 0, 0) := rfl
theorem zk_166_9 : zc 166 9 = some (.ireturn, 0, 0, 0, 0) := rfl
theorem zk_167_0 : zc 167 0 = some (.iload_n 1, 0, 0, 0, 0) := rfl
theorem zk_167_1 : zc 167 1 = some (.ifCond .lt 19, 20, 0, 0, 0) := rfl
theorem zk_167_4 : zc 167 4 = some (.iload_n 1, 0, 0, 0, 0) := rfl
theorem zk_167_5 : zc 167 5 = some (.aload_n 0, 0, 0, 0, 0) := rfl
theorem zk_167_6 : zc 167 6 = some (.getfield 7, 11, 0, 0, 139) := rfl
theorem zk_167_9 : zc 167 9 = some (.sipush 642, 0, 0, 0, 0) := rfl
theorem zk_167_12 : zc 167 12 = some (.iaload, 0, 0, 0, 0) := rfl
theorem zk_167_13 : zc 167 13 = some (.if_icmp .ge 7, 20, 0, 0, 0) := rfl
theorem zk_167_20 : zc 167 20 = some (.iconst 0, 0, 0, 0, 0) := rfl
theorem zk_167_21 : zc 167 21 = some (.ireturn, 0, 0, 0, 0) := rfl
theorem zk_168_0 : zc 168 0 = some (.iload_n 1, 0, 0, 0, 0) := rfl
theorem zk_168_1 : zc 168 1 = some (.invokestatic 99, 124, 1, 1, 128) := rfl
theorem zk_168_4 : zc 168 4 = some (.ifCond .ne 9, 13, 0, 0, 0) := rfl
theorem zk_168_7 : zc 168 7 = some (.aload_n 0, 0, 0, 0, 0) := rfl
theorem zk_168_8 : zc 168 8 = some (.iconst (-1), 0, 0, 0, 0) := rfl
theorem zk_168_9 : zc 168 9 = some (.invokevirtual 103, 123, 0, 2, 129) := rfl
theorem zk_168_12 : zc 168 12 = some (.ireturn, 0, 0, 0, 0) := rfl
theorem zk_168_13 : zc 168 13 = some (.iload_n 2, 0, 0, 0, 0) := rfl
theorem zk_168_14 : zc 168 14 = some (.iconst 1, 0, 0, 0, 0) := rfl
theorem zk_168_15 : zc 168 15 = some (.if_icmp .lt 45, 60, 0, 0, 0) := rfl
theorem zk_168_18 : zc 168 18 = some (.iload_n 2, 0, 0, 0, 0) := rfl
theorem zk_168_19 : zc 168 19 = some (.bipush 60, 0, 0, 0, 0) := rfl
theorem zk_168_21 : zc 168 21 = some (.if_icmp .gt 39, 60, 0, 0, 0) := rfl
theorem zk_168_24 : zc 168 24 = some (.iload_n 3, 0, 0, 0, 0) := rfl
theorem zk_168_25 : zc 168 25 = some (.iconst 1, 0, 0, 0, 0) := rfl
theorem zk_168_26 : zc 168 26 = some (.if_icmp .lt 34, 60, 0, 0, 0) := rfl
theorem zk_168_29 : zc 168 29 = some (.iload_n 3, 0, 0, 0, 0) := rfl
theorem zk_168_30 : zc 168 30 = some (.bipush 99, 0, 0, 0, 0) := rfl
theorem zk_168_32 : zc 168 32 = some (.if_icmp .gt 28, 60, 0, 0, 0) := rfl
theorem zk_168_35 : zc 168 35 = some (.iload 4, 0, 0, 0, 0) := rfl
theorem zk_168_37 : zc 168 37 = some (.iconst 1, 0, 0, 0, 0) := rfl
theorem zk_168_38 : zc 168 38 = some (.if_icmp .lt 22, 60, 0, 0, 0) := rfl
theorem zk_168_41 : zc 168 41 = some (.iload 4, 0, 0, 0, 0) := rfl
theorem zk_168_43 : zc 168 43 = some (.bipush 9, 0, 0, 0, 0) := rfl
theorem zk_168_45 : zc 168 45 = some (.if_icmp .gt 15, 60, 0, 0, 0) := rfl
theorem zk_168_48 : zc 168 48 = some (.iload 5, 0, 0, 0, 0) := rfl
theorem zk_168_50 : zc 168 50 = some (.ifCond .lt 10, 60, 0, 0, 0) := rfl
theorem zk_168_53 : zc 168 53 = some (.iload 5, 0, 0, 0, 0) := rfl
theorem zk_168_55 : zc 168 55 = some (.bipush 9, 0, 0, 0, 0) := rfl
theorem zk_168_57 : zc 168 57 = some (.if_icmp .le 10, 67, 0, 0, 0) := rfl
theorem zk_168_60 : zc 168 60 = some (.aload_n 0, 0, 0, 0, 0) := rfl
theorem zk_168_61 : zc 168 61 = some (.bipush (-6), 0, 0, 0, 0) := rfl
theorem zk_168_63 : zc 168 63 = some (.invokevirtual 103, 123, 0, 2, 129) := rfl
theorem zk_168_66 : zc 168 66 = some (.ireturn, 0, 0, 0, 0) := rfl
theorem zk_168_67 : zc 168 67 = some (.aload_n 0, 0, 0, 0, 0) := rfl
theorem zk_168_68 : zc 168 68 = some (.getfield 7, 11, 0, 0, 139) := rfl
theorem zk_168_71 : zc 168 71 = some (.sipush 642, 0, 0, 0, 0) := rfl
theorem zk_168_74 : zc 168 74 = some (.iaload, 0, 0, 0, 0) := rfl
theorem zk_168_75 : zc 168 75 = some (.istore 6, 0, 0, 0, 0) := rfl
theorem zk_168_77 : zc 168 77 = some (.iload 6, 0, 0, 0, 0) := rfl
theorem zk_168_79 : zc 168 79 = some (.bipush 6, 0, 0, 0, 0) := rfl
theorem zk_168_81 : zc 168 81 = some (.if_icmp .ne 10, 91, 0, 0, 0) := rfl
theorem zk_168_91 : zc 168 91 = some (.aload_n 0, 0, 0, 0, 0) := rfl
theorem zk_168_92 : zc 168 92 = some (.getfield 7, 11, 0, 0, 139) := rfl
theorem zk_168_95 : zc 168 95 = some (.sipush 568, 0, 0, 0, 0) := rfl
theorem zk_168_98 : zc 168 98 = some (.iload 6, 0, 0, 0, 0) := rfl
theorem zk_168_100 : zc 168 100 = some (.iadd, 0, 0, 0, 0) := rfl
theorem zk_168_101 : zc 168 101 = some (.iload_n 1, 0, 0, 0, 0) := rfl
theorem zk_168_102 : zc 168 102 = some (.iastore, 0, 0, 0, 0) := rfl
theorem zk_168_103 : zc 168 103 = some (.aload_n 0, 0, 0, 0, 0) := rfl
theorem zk_168_104 : zc 168 104 = some (.getfield 7, 11, 0, 0, 139) := rfl
theorem zk_168_107 : zc 168 107 = some (.sipush 574, 0, 0, 0, 0) := rfl
theorem zk_168_110 : zc 168 110 = some (.iload 6, 0, 0, 0, 0) := rfl
theorem zk_168_112 : zc 168 112 = some (.iadd, 0, 0, 0, 0) := rfl
theorem zk_168_113 : zc 168 113 = some (.iload_n 2, 0, 0, 0, 0) := rfl
theorem zk_168_114 : zc 168 114 = some (.iastore, 0, 0, 0, 0) := rfl
theorem zk_168_115 : zc 168 115 = some (.aload_n 0, 0, 0, 0, 0) := rfl
theorem zk_168_116 : zc 168 116 = some (.getfield 7, 11, 0, 0, 139) := rfl
theorem zk_168_119 : zc 168 119 = some (.sipush 580, 0, 0, 0, 0) := rfl
theorem zk_168_122 : zc 168 122 = some (.iload 6, 0, 0, 0, 0) := rfl
theorem zk_168_124 : zc 168 124 = some (.iadd, 0, 0, 0, 0) := rfl
theorem zk_168_125 : zc 168 125 = some (.iload_n 3, 0, 0, 0, 0) := rfl
theorem zk_168_126 : zc 168 126 = some (.iastore, 0, 0, 0, 0) := rfl
theorem zk_168_127 : zc 168 127 = some (.aload_n 0, 0, 0, 0, 0) := rfl
theorem zk_168_128 : zc 168 128 = some (.getfield 7, 11, 0, 0, 139) := rfl
theorem zk_168_131 : zc 168 131 = some (.sipush 586, 0, 0, 0, 0) := rfl
theorem zk_168_134 : zc 168 134 = some (.iload 6, 0, 0, 0, 0) := rfl
theorem zk_168_136 : zc 168 136 = some (.iadd, 0, 0, 0, 0) := rfl
theorem zk_168_137 : zc 168 137 = some (.iload 4, 0, 0, 0, 0) := rfl
theorem zk_168_139 : zc 168 139 = some (.iastore, 0, 0, 0, 0) := rfl
theorem zk_168_140 : zc 168 140 = some (.aload_n 0, 0, 0, 0, 0) := rfl
theorem zk_168_141 : zc 168 141 = some (.getfield 7, 11, 0, 0, 139) := rfl
theorem zk_168_144 : zc 168 144 = some (.sipush 592, 0, 0, 0, 0) := rfl
theorem zk_168_147 : zc 168 147 = some (.iload 6, 0, 0, 0, 0) := rfl
theorem zk_168_149 : zc 168 149 = some (.iadd, 0, 0, 0, 0) := rfl
theorem zk_168_150 : zc 168 150 = some (.iload 5, 0, 0, 0, 0) := rfl
theorem zk_168_152 : zc 168 152 = some (.iastore, 0, 0, 0, 0) := rfl
theorem zk_168_153 : zc 168 153 = some (.aload_n 0, 0, 0, 0, 0) := rfl
theorem zk_168_154 : zc 168 154 = some (.getfield 7, 11, 0, 0, 139) := rfl
theorem zk_168_157 : zc 168 157 = some (.sipush 598, 0, 0, 0, 0) := rfl
theorem zk_168_160 : zc 168 160 = some (.iload 6, 0, 0, 0, 0) := rfl
theorem zk_168_162 : zc 168 162 = some (.iadd, 0, 0, 0, 0) := rfl
theorem zk_168_163 : zc 168 163 = some (.iconst (-1), 0, 0, 0, 0) := rfl
theorem zk_168_164 : zc 168 164 = some (.iastore, 0, 0, 0, 0) := rfl
theorem zk_168_165 : zc 168 165 = some (.sipush 604, 0, 0, 0, 0) := rfl
theorem zk_168_168 : zc 168 168 = some (.istore 7, 0, 0, 0, 0) := rfl
theorem zk_168_170 : zc 168 170 = some (.iload 7, 0, 0, 0, 0) := rfl
theorem zk_168_172 : zc 168 172 = some (.sipush 622, 0, 0, 0, 0) := rfl
theorem zk_168_175 : zc 168 175 = some (.if_icmp .gt 20, 195, 0, 0, 0) := rfl
theorem zk_168_178 : zc 168 178 = some (.aload_n 0, 0, 0, 0, 0) := rfl
theorem zk_168_179 : zc 168 179 = some (.getfield 7, 11, 0, 0, 139) := rfl
theorem zk_168_182 : zc 168 182 = some (.iload 7, 0, 0, 0, 0) := rfl
theorem zk_168_184 : zc 168 184 = some (.iload 6, 0, 0, 0, 0) := rfl
theorem zk_168_186 : zc 168 186 = some (.iadd, 0, 0, 0, 0) := rfl
theorem zk_168_187 : zc 168 187 = some (.iconst 0, 0, 0, 0, 0) := rfl
theorem zk_168_188 : zc 168 188 = some (.iastore, 0, 0, 0, 0) := rfl
theorem zk_168_189 : zc 168 189 = some (.iinc 7 6, 0, 0, 0, 0) := rfl
theorem zk_168_192 : zc 168 192 = some (.goto (-22), 170, 0, 0, 0) := rfl
theorem zk_168_195 : zc 168 195 = some (.aload_n 0, 0, 0, 0, 0) := rfl
theorem zk_168_196 : zc 168 196 = some (.getfield 7, 11, 0, 0, 139) := rfl
theorem zk_168_199 : zc 168 199 = some (.sipush 642, 0, 0, 0, 0) := rfl
theorem zk_168_202 : zc 168 202 = some (.dup2, 0, 0, 0, 0) := rfl
theorem zk_168_203 : zc 168 203 = some (.iaload, 0, 0, 0, 0) := rfl
theorem zk_168_204 : zc 168 204 = some (.dup_x2, 0, 0, 0, 0) := rfl
theorem zk_168_205 : zc 168 205 = some (.iconst 1, 0, 0, 0, 0) := rfl
theorem zk_168_206 : zc 168 206 = some (.iadd, 0, 0, 0, 0) := rfl
theorem zk_168_207 : zc 168 207 = some (.iastore, 0, 0, 0, 0) := rfl
theorem zk_168_208 : zc 168 208 = some (.ireturn, 0, 0, 0, 0) := rfl
theorem zk_169_0 : zc 169 0 = some (.aload_n 0, 0, 0, 0, 0) := rfl
theorem zk_169_1 : zc 169 1 = some (.iload_n 1, 0, 0, 0, 0) := rfl
theorem zk_169_2 : zc 169 2 = some (.invokevirtual 198, 167, 0, 2, 148) := rfl
theorem zk_169_5 : zc 169 5 = some (.ifCond .eq 15, 20, 0, 0, 0) := rfl
theorem zk_169_20 : zc 169 20 = some (.aload_n 0, 0, 0, 0, 0) := rfl
theorem zk_169_21 : zc 169 21 = some (.iconst (-1), 0, 0, 0, 0) := rfl
theorem zk_169_22 : zc 169 22 = some (.invokevirtual 103, 123, 0, 2, 129) := rfl
theorem zk_169_25 : zc 169 25 = some (.ireturn, 0, 0, 0, 0) := rfl
theorem zk_173_0 : zc 173 0 = some (.aload_n 0, 0, 0, 0, 0) := rfl
theorem zk_173_1 : zc 173 1 = some (.iload_n 1, 0, 0, 0, 0) := rfl
theorem zk_173_2 : zc 173 2 = some (.invokevirtual 198, 167, 0, 2, 148) := rfl
theorem zk_173_5 : zc 173 5 = some (.ifCond .eq 11, 16, 0, 0, 0) := rfl
theorem zk_173_16 : zc 173 16 = some (.iconst (-1), 0, 0, 0, 0) := rfl
theorem zk_173_17 : zc 173 17 = some (.ireturn, 0, 0, 0, 0) := rfl
theorem zk_174_0 : zc 174 0 = some (.aload_n 0, 0, 0, 0, 0) := rfl
theorem zk_174_1 : zc 174 1 = some (.iload_n 1, 0, 0, 0, 0) := rfl
theorem zk_174_2 : zc 174 2 = some (.invokevirtual 198, 167, 0, 2, 148) := rfl
theorem zk_174_5 : zc 174 5 = some (.ifCond .ne 5, 10, 0, 0, 0) := rfl
theorem zk_174_8 : zc 174 8 = some (.iconst (-1), 0, 0, 0, 0) := rfl
theorem zk_174_9 : zc 174 9 = some (.ireturn, 0, 0, 0, 0) := rfl
theorem zk_180_0 : zc 180 0 = some (.aload_n 0, 0, 0, 0, 0) := rfl
theorem zk_180_1 : zc 180 1 = some (.iload_n 1, 0, 0, 0, 0) := rfl
theorem zk_180_2 : zc 180 2 = some (.invokevirtual 198, 167, 0, 2, 148) := rfl
theorem zk_180_5 : zc 180 5 = some (.ifCond .eq 10, 15, 0, 0, 0) := rfl
theorem zk_180_15 : zc 180 15 = some (.iconst (-1), 0, 0, 0, 0) := rfl
theorem zk_180_16 : zc 180 16 = some (.ireturn, 0, 0, 0, 0) := rfl
theorem zk_185_0 : zc 185 0 = some (.aload_n 0, 0, 0, 0, 0) := rfl
theorem zk_185_1 : zc 185 1 = some (.getfield 234, 11, 3, 0, 178) := rfl
theorem zk_185_4 : zc 185 4 = some (.ifCond .ne 10, 14, 0, 0, 0) := rfl
theorem zk_185_7 : zc 185 7 = some (.aload_n 0, 0, 0, 0, 0) := rfl
theorem zk_185_8 : zc 185 8 = some (.bipush (-6), 0, 0, 0, 0) := rfl
theorem zk_185_10 : zc 185 10 = some (.invokevirtual 103, 123, 0, 2, 129) := rfl
theorem zk_185_13 : zc 185 13 = some (.ireturn, 0, 0, 0, 0) := rfl
theorem zk_186_0 : zc 186 0 = some (.iload_n 1, 0, 0, 0, 0) := rfl
theorem zk_186_1 : zc 186 1 = some (.invokestatic 99, 124, 1, 1, 128) := rfl
theorem zk_186_4 : zc 186 4 = some (.ifCond .ne 6, 10, 0, 0, 0) := rfl
theorem zk_186_7 : zc 186 7 = some (.ldc 238, 0, 0, 1000000, 2) := rfl
theorem zk_186_9 : zc 186 9 = some (.ireturn, 0, 0, 0, 0) := rfl
theorem zk_186_10 : zc 186 10 = some (.iload_n 2, 0, 0, 0, 0) := rfl
theorem zk_186_11 : zc 186 11 = some (.tableswitch 110 0 4 #[33, 42, 52, 62, 72], 0, 0, 0, 0) := rfl
theorem zk_186_44 : zc 186 44 = some (.aload_n 0, 0, 0, 0, 0) := rfl
theorem zk_186_45 : zc 186 45 = some (.getfield 7, 11, 0, 0, 139) := rfl
theorem zk_186_48 : zc 186 48 = some (.iconst 0, 0, 0, 0, 0) := rfl
theorem zk_186_49 : zc 186 49 = some (.iload_n 1, 0, 0, 0, 0) := rfl
theorem zk_186_50 : zc 186 50 = some (.iadd, 0, 0, 0, 0) := rfl
theorem zk_186_51 : zc 186 51 = some (.iaload, 0, 0, 0, 0) := rfl
theorem zk_186_52 : zc 186 52 = some (.ireturn, 0, 0, 0, 0) := rfl
theorem zk_186_53 : zc 186 53 = some (.aload_n 0, 0, 0, 0, 0) := rfl
theorem zk_186_54 : zc 186 54 = some (.getfield 7, 11, 0, 0, 139) := rfl
theorem zk_186_57 : zc 186 57 = some (.bipush 25, 0, 0, 0, 0) := rfl
theorem zk_186_59 : zc 186 59 = some (.iload_n 1, 0, 0, 0, 0) := rfl
theorem zk_186_60 : zc 186 60 = some (.iadd, 0, 0, 0, 0) := rfl
theorem zk_186_61 : zc 186 61 = some (.iaload, 0, 0, 0, 0) := rfl
theorem zk_186_62 : zc 186 62 = some (.ireturn, 0, 0, 0, 0) := rfl
theorem zk_186_63 : zc 186 63 = some (.aload_n 0, 0, 0, 0, 0) := rfl
theorem zk_186_64 : zc 186 64 = some (.getfield 7, 11, 0, 0, 139) := rfl
theorem zk_186_67 : zc 186 67 = some (.bipush 50, 0, 0, 0, 0) := rfl
theorem zk_186_69 : zc 186 69 = some (.iload_n 1, 0, 0, 0, 0) := rfl
theorem zk_186_70 : zc 186 70 = some (.iadd, 0, 0, 0, 0) := rfl
theorem zk_186_71 : zc 186 71 = some (.iaload, 0, 0, 0, 0) := rfl
theorem zk_186_72 : zc 186 72 = some (.ireturn, 0, 0, 0, 0) := rfl
theorem zk_186_73 : zc 186 73 = some (.aload_n 0, 0, 0, 0, 0) := rfl
theorem zk_186_74 : zc 186 74 = some (.getfield 7, 11, 0, 0, 139) := rfl
theorem zk_186_77 : zc 186 77 = some (.bipush 75, 0, 0, 0, 0) := rfl
theorem zk_186_79 : zc 186 79 = some (.iload_n 1, 0, 0, 0, 0) := rfl
theorem zk_186_80 : zc 186 80 = some (.iadd, 0, 0, 0, 0) := rfl
theorem zk_186_81 : zc 186 81 = some (.iaload, 0, 0, 0, 0) := rfl
theorem zk_186_82 : zc 186 82 = some (.ireturn, 0, 0, 0, 0) := rfl
theorem zk_186_83 : zc 186 83 = some (.iconst 0, 0, 0, 0, 0) := rfl
theorem zk_186_84 : zc 186 84 = some (.istore_n 3, 0, 0, 0, 0) := rfl
theorem zk_186_85 : zc 186 85 = some (.iload_n 3, 0, 0, 0, 0) := rfl
theorem zk_186_86 : zc 186 86 = some (.aload_n 0, 0, 0, 0, 0) := rfl
theorem zk_186_87 : zc 186 87 = some (.getfield 7, 11, 0, 0, 139) := rfl
theorem zk_186_90 : zc 186 90 = some (.sipush 633, 0, 0, 0, 0) := rfl
theorem zk_186_93 : zc 186 93 = some (.iaload, 0, 0, 0, 0) := rfl
theorem zk_186_94 : zc 186 94 = some (.if_icmp .ge 25, 119, 0, 0, 0) := rfl
theorem zk_186_119 : zc 186 119 = some (.iconst (-1), 0, 0, 0, 0) := rfl
theorem zk_186_120 : zc 186 120 = some (.ireturn, 0, 0, 0, 0) := rfl
theorem zk_186_121 : zc 186 121 = some (.ldc 238, 0, 0, 1000000, 2) := rfl
theorem zk_186_123 : zc 186 123 = some (.ireturn, 0, 0, 0, 0) := rfl
theorem zk_187_0 : zc 187 0 = some (.iload_n 1, 0, 0, 0, 0) := rfl
theorem zk_187_1 : zc 187 1 = some (.iload_n 2, 0, 0, 0, 0) := rfl
theorem zk_187_2 : zc 187 2 = some (.invokestatic 107, 126, 1, 2, 130) := rfl
theorem zk_187_5 : zc 187 5 = some (.istore 4, 0, 0, 0, 0) := rfl
theorem zk_187_7 : zc 187 7 = some (.iload 4, 0, 0, 0, 0) := rfl
theorem zk_187_9 : zc 187 9 = some (.iconst (-1), 0, 0, 0, 0) := rfl
theorem zk_187_10 : zc 187 10 = some (.if_icmp .eq 12, 22, 0, 0, 0) := rfl
theorem zk_187_13 : zc 187 13 = some (.iload_n 3, 0, 0, 0, 0) := rfl
theorem zk_187_14 : zc 187 14 = some (.ifCond .lt 8, 22, 0, 0, 0) := rfl
theorem zk_187_17 : zc 187 17 = some (.iload_n 3, 0, 0, 0, 0) := rfl
theorem zk_187_18 : zc 187 18 = some (.iconst 2, 0, 0, 0, 0) := rfl
theorem zk_187_19 : zc 187 19 = some (.if_icmp .le 5, 24, 0, 0, 0) := rfl
theorem zk_187_22 : zc 187 22 = some (.iconst (-1), 0, 0, 0, 0) := rfl
theorem zk_187_23 : zc 187 23 = some (.ireturn, 0, 0, 0, 0) := rfl
theorem zk_187_24 : zc 187 24 = some (.aload_n 0, 0, 0, 0, 0) := rfl
theorem zk_187_25 : zc 187 25 = some (.getfield 7, 11, 0, 0, 139) := rfl
theorem zk_187_28 : zc 187 28 = some (.iload_n 3, 0, 0, 0, 0) := rfl
theorem zk_187_29 : zc 187 29 = some (.ifCond .ne 8, 37, 0, 0, 0) := rfl
theorem zk_187_32 : zc 187 32 = some (.bipush 100, 0, 0, 0, 0) := rfl
theorem zk_187_34 : zc 187 34 = some (.goto 17, 51, 0, 0, 0) := rfl
theorem zk_187_37 : zc 187 37 = some (.iload_n 3, 0, 0, 0, 0) := rfl
theorem zk_187_38 : zc 187 38 = some (.iconst 1, 0, 0, 0, 0) := rfl
theorem zk_187_39 : zc 187 39 = some (.if_icmp .ne 9, 48, 0, 0, 0) := rfl
theorem zk_187_42 : zc 187 42 = some (.sipush 150, 0, 0, 0, 0) := rfl
theorem zk_187_45 : zc 187 45 = some (.goto 6, 51, 0, 0, 0) := rfl
theorem zk_187_48 : zc 187 48 = some (.sipush 200, 0, 0, 0, 0) := rfl
theorem zk_187_51 : zc 187 51 = some (.iload 4, 0, 0, 0, 0) := rfl
theorem zk_187_53 : zc 187 53 = some (.iadd, 0, 0, 0, 0) := rfl
theorem zk_187_54 : zc 187 54 = some (.iaload, 0, 0, 0, 0) := rfl
theorem zk_187_55 : zc 187 55 = some (.ireturn, 0, 0, 0, 0) := rfl
def MJ (a b : Nat) (t i k j : Nat) : Prop := (t = 36 ∧ k = 0 ∧ a ≤ j ∧ j < b) ∨ t = 49
def MK (a b c d : Nat) (t i k j : Nat) : Prop := (t = 36 ∧ k = 0 ∧ ((a ≤ j ∧ j < b) ∨ (c ≤ j ∧ j < d))) ∨ t = 49
def MB (t i k j : Nat) : Prop := t = 37 ∨ t = 38 ∨ t = 39 ∨ t = 40 ∨ t = 41 ∨ t = 49
/-- WModel.no -/
theorem m_123 {xs : Nat × (Nat → Int32)} (p0 : Int) (h0 : -7 ≤ p0 ∧ p0 ≤ -1) (σ : ZS) (hI : Inv σ)   : CT xs 1 123 [av 35 0 0, iv p0] σ (fun v σ' => ∃ y, v = some (iv y) ∧ (y = p0) ∧ IF (MT 49 49 49 49) σ σ' ∧ (True)) := by
  refine G_ct (J := (fun σ' => IF (MT 49 49 49 49) σ σ' ∧ True)) (L := [(0, av 35 0 0), (1, iv p0)]) (nL := 2) rfl rfl rfl ⟨IF.rf hI, trivial⟩ ?_
  refine T_ld zk_123_0 rfl rfl rfl (pc' := 1) rfl ?_
  refine T_getR (t' := 49) (i' := 0) (k' := 0) zk_123_1 rfl rfl rfl vd_35 (pc' := 4) rfl ?_
  refine T_ld zk_123_4 rfl rfl rfl (pc' := 5) rfl ?_
  refine T_op zk_123_5 rfl X_neg (pc' := 6) rfl ?_
  refine T_op (st' := [iv (-p0), av 49 0 0, iv (-p0), av 49 0 0]) zk_123_6 rfl rfl (pc' := 7) rfl ?_
  refine G_iald (lo := -2147483648) (hi := 2147483647) (ln := 8) zk_123_7 rfl rfl vd_49 (by omega) (by omega) (by omega) (fun σ' h => h.1.1) (fun _ h => h.1) (pc' := 8) rfl (fun y1 hy1 hy1' => ?_)
  refine T_op zk_123_8 rfl X_ic (pc' := 9) rfl ?_
  refine G_unk zk_123_9 rfl (pc' := 10) rfl (fun y2 hy2 hy2' => ?_)
  refine G_iast (J' := (fun σ' => IF (MT 49 49 49 49) σ σ' ∧ True)) (ln := 8) zk_123_10 rfl rfl vd_49 (by omega) (by omega) (by omega) (fun σ' h => ⟨h.1.up ⟨by omega, trivial⟩ (by unfold MT; omega), trivial⟩) (pc' := 11) rfl ?_
  refine T_ld zk_123_11 rfl rfl rfl (pc' := 12) rfl ?_
  exact T_iret zk_123_12 rfl (fun σ' h => ⟨_, rfl, (by omega), h.1, trivial⟩)
/-- WModel.isCell -/
theorem m_124 {xs : Nat × (Nat → Int32)} (p0 : Int) (h0 : -2147483648 ≤ p0 ∧ p0 ≤ 2147483647) (σ : ZS) (hI : Inv σ)   : CT xs 1 124 [iv p0] σ (fun v σ' => ∃ y, v = some (iv y) ∧ ((y = 0 ∧ (p0 < 0 ∨ 24 < p0)) ∨ (y = 1 ∧ 0 ≤ p0 ∧ p0 ≤ 24)) ∧ IF MN σ σ' ∧ (True)) := by
  refine G_ct (J := (fun σ' => IF MN σ σ' ∧ True)) (L := [(0, iv p0)]) (nL := 1) rfl rfl rfl ⟨IF.rf hI, trivial⟩ ?_
  refine T_ld zk_124_0 rfl rfl rfl (pc' := 1) rfl ?_
  refine T_if_lt zk_124_1 (by omega) (pc' := 4) rfl (fun h1 => ?_) (fun h2 => ?_)
  ·
    refine T_op zk_124_14 rfl X_ic (pc' := 15) rfl ?_
    exact T_zret zk_124_15 rfl (by omega) (fun σ' h => ⟨_, rfl, (by omega), h.1, trivial⟩)
  ·
    refine T_ld zk_124_4 rfl rfl rfl (pc' := 5) rfl ?_
    refine T_op zk_124_5 rfl (X_bi (v := 25) (by decide)) (pc' := 7) rfl ?_
    refine T_icmp_ge zk_124_7 (by omega) (by omega) (pc' := 10) rfl (fun h3 => ?_) (fun h4 => ?_)
    ·
      refine T_op zk_124_14 rfl X_ic (pc' := 15) rfl ?_
      exact T_zret zk_124_15 rfl (by omega) (fun σ' h => ⟨_, rfl, (by omega), h.1, trivial⟩)
    ·
      refine T_op zk_124_10 rfl X_ic (pc' := 11) rfl ?_
      refine T_goto zk_124_11 ?_
      exact T_zret zk_124_15 rfl (by omega) (fun σ' h => ⟨_, rfl, (by omega), h.1, trivial⟩)
/-- WModel.isShelf -/
theorem m_125 {xs : Nat × (Nat → Int32)} (p0 : Int) (h0 : -2147483648 ≤ p0 ∧ p0 ≤ 2147483647) (σ : ZS) (hI : Inv σ)   : CT xs 1 125 [iv p0] σ (fun v σ' => ∃ y, v = some (iv y) ∧ ((y = 0 ∧ (p0 < 0 ∨ 7 < p0)) ∨ (y = 1 ∧ 0 ≤ p0 ∧ p0 ≤ 7)) ∧ IF MN σ σ' ∧ (True)) := by
  refine G_ct (J := (fun σ' => IF MN σ σ' ∧ True)) (L := [(0, iv p0)]) (nL := 1) rfl rfl rfl ⟨IF.rf hI, trivial⟩ ?_
  refine T_ld zk_125_0 rfl rfl rfl (pc' := 1) rfl ?_
  refine T_if_lt zk_125_1 (by omega) (pc' := 4) rfl (fun h1 => ?_) (fun h2 => ?_)
  ·
    refine T_op zk_125_14 rfl X_ic (pc' := 15) rfl ?_
    exact T_zret zk_125_15 rfl (by omega) (fun σ' h => ⟨_, rfl, (by omega), h.1, trivial⟩)
  ·
    refine T_ld zk_125_4 rfl rfl rfl (pc' := 5) rfl ?_
    refine T_op zk_125_5 rfl (X_bi (v := 8) (by decide)) (pc' := 7) rfl ?_
    refine T_icmp_ge zk_125_7 (by omega) (by omega) (pc' := 10) rfl (fun h3 => ?_) (fun h4 => ?_)
    ·
      refine T_op zk_125_14 rfl X_ic (pc' := 15) rfl ?_
      exact T_zret zk_125_15 rfl (by omega) (fun σ' h => ⟨_, rfl, (by omega), h.1, trivial⟩)
    ·
      refine T_op zk_125_10 rfl X_ic (pc' := 11) rfl ?_
      refine T_goto zk_125_11 ?_
      exact T_zret zk_125_15 rfl (by omega) (fun σ' h => ⟨_, rfl, (by omega), h.1, trivial⟩)
/-- WModel.way -/
theorem m_126 {xs : Nat × (Nat → Int32)} (p0 : Int) (p1 : Int) (h0 : -2147483648 ≤ p0 ∧ p0 ≤ 2147483647) (h1 : -2147483648 ≤ p1 ∧ p1 ≤ 2147483647) (σ : ZS) (hI : Inv σ)   : CT xs 2 126 [iv p0, iv p1] σ (fun v σ' => ∃ y, v = some (iv y) ∧ ((y = -1 ∧ ¬ (0 ≤ p0 ∧ p0 ≤ 24 ∧ 0 ≤ p1 ∧ p1 ≤ 24 ∧ (p1 = p0 + 5 ∨ p0 = p1 + 5 ∨ (p1 = p0 + 1 ∧ p0 % 5 < 4) ∨ (p0 = p1 + 1 ∧ p1 % 5 < 4)))) ∨ (0 ≤ y ∧ y ≤ 49 ∧ (0 ≤ p0 ∧ p0 ≤ 24 ∧ 0 ≤ p1 ∧ p1 ≤ 24 ∧ (p1 = p0 + 5 ∨ p0 = p1 + 5 ∨ (p1 = p0 + 1 ∧ p0 % 5 < 4) ∨ (p0 = p1 + 1 ∧ p1 % 5 < 4))))) ∧ IF MN σ σ' ∧ (True)) := by
  refine G_ct (J := (fun σ' => IF MN σ σ' ∧ True)) (L := [(0, iv p0), (1, iv p1)]) (nL := 4) rfl rfl rfl ⟨IF.rf hI, trivial⟩ ?_
  refine T_ld zk_126_0 rfl rfl rfl (pc' := 1) rfl ?_
  refine T_calli (K := fun y1 σ' => ((y1 = 0 ∧ (p0 < 0 ∨ 24 < p0)) ∨ (y1 = 1 ∧ 0 ≤ p0 ∧ p0 ≤ 24)) ∧ (fun σ' => IF MN σ σ' ∧ True) σ') (r := []) zk_126_1 rfl rfl rfl rfl rfl rfl (Or.inl (Or.inl rfl)) (fun σ' h => (m_124 p0 (by omega) σ' h.1.1 ).le (Nat.le_of_ble_eq_true rfl) (fun v σ2 ⟨y, h1, h2, h3, h4⟩ => ⟨y, h1, h2, h.1.tr h3 MN_sub, trivial⟩)) (pc' := 4) rfl (fun y1 => ?_)
  refine G_ex (fun hy1 => ?_)
  refine T_if_eq zk_126_4 (by omega) (pc' := 7) rfl (fun h2 => ?_) (fun h3 => ?_)
  ·
    refine T_op zk_126_14 rfl X_ic (pc' := 15) rfl ?_
    exact T_iret zk_126_15 rfl (fun σ' h => ⟨_, rfl, (by omega), h.1, trivial⟩)
  ·
    refine T_ld zk_126_7 rfl rfl rfl (pc' := 8) rfl ?_
    refine T_calli (K := fun y4 σ' => ((y4 = 0 ∧ (p1 < 0 ∨ 24 < p1)) ∨ (y4 = 1 ∧ 0 ≤ p1 ∧ p1 ≤ 24)) ∧ (fun σ' => IF MN σ σ' ∧ True) σ') (r := []) zk_126_8 rfl rfl rfl rfl rfl rfl (Or.inl (Or.inl rfl)) (fun σ' h => (m_124 p1 (by omega) σ' h.1.1 ).le (Nat.le_of_ble_eq_true rfl) (fun v σ2 ⟨y, h1, h2, h3, h4⟩ => ⟨y, h1, h2, h.1.tr h3 MN_sub, trivial⟩)) (pc' := 11) rfl (fun y4 => ?_)
    refine G_ex (fun hy4 => ?_)
    refine T_if_ne zk_126_11 (by omega) (pc' := 14) rfl (fun h5 => ?_) (fun h6 => ?_)
    ·
      refine T_ld zk_126_16 rfl rfl rfl (pc' := 17) rfl ?_
      refine T_ld zk_126_17 rfl rfl rfl (pc' := 18) rfl ?_
      refine T_icmp_ge zk_126_18 (by omega) (by omega) (pc' := 21) rfl (fun h7 => ?_) (fun h8 => ?_)
      ·
        refine T_ld zk_126_25 rfl rfl rfl (pc' := 26) rfl ?_
        refine T_st (L' := [(0, iv p0), (1, iv p1), (2, iv p1)]) zk_126_26 (nL := 4) rfl rfl rfl rfl rfl (pc' := 27) rfl ?_
        refine T_ld zk_126_27 rfl rfl rfl (pc' := 28) rfl ?_
        refine T_ld zk_126_28 rfl rfl rfl (pc' := 29) rfl ?_
        refine T_icmp_ge zk_126_29 (by omega) (by omega) (pc' := 32) rfl (fun h9 => ?_) (fun h10 => ?_)
        ·
          refine T_ld zk_126_36 rfl rfl rfl (pc' := 37) rfl ?_
          refine T_st (L' := [(0, iv p0), (1, iv p1), (2, iv p1), (3, iv p0)]) zk_126_37 (nL := 4) rfl rfl rfl rfl rfl (pc' := 38) rfl ?_
          refine T_ld zk_126_38 rfl rfl rfl (pc' := 39) rfl ?_
          refine T_ld zk_126_39 rfl rfl rfl (pc' := 40) rfl ?_
          refine T_op zk_126_40 rfl X_ic (pc' := 41) rfl ?_
          refine T_op zk_126_41 rfl X_add (pc' := 42) rfl ?_
          refine T_icmp_ne zk_126_42 (by omega) (by omega) (pc' := 45) rfl (fun h11 => ?_) (fun h12 => ?_)
          ·
            refine T_ld zk_126_51 rfl rfl rfl (pc' := 52) rfl ?_
            refine T_ld zk_126_52 rfl rfl rfl (pc' := 53) rfl ?_
            refine T_op zk_126_53 rfl X_ic (pc' := 54) rfl ?_
            refine T_op zk_126_54 rfl X_add (pc' := 55) rfl ?_
            refine T_icmp_ne zk_126_55 (by omega) (by omega) (pc' := 58) rfl (fun h13 => ?_) (fun h14 => ?_)
            ·
              refine T_op zk_126_71 rfl X_ic (pc' := 72) rfl ?_
              exact T_iret zk_126_72 rfl (fun σ' h => ⟨_, rfl, (by omega), h.1, trivial⟩)
            ·
              refine T_ld zk_126_58 rfl rfl rfl (pc' := 59) rfl ?_
              refine T_op zk_126_59 rfl X_ic (pc' := 60) rfl ?_
              refine T_op zk_126_60 rfl (X_rem (by omega) (by omega)) (pc' := 61) rfl ?_
              refine T_op zk_126_61 rfl X_ic (pc' := 62) rfl ?_
              refine T_icmp_ge zk_126_62 (by omega) (by omega) (pc' := 65) rfl (fun h15 => ?_) (fun h16 => ?_)
              ·
                refine T_op zk_126_71 rfl X_ic (pc' := 72) rfl ?_
                exact T_iret zk_126_72 rfl (fun σ' h => ⟨_, rfl, (by omega), h.1, trivial⟩)
              ·
                refine T_op zk_126_65 rfl X_ic (pc' := 66) rfl ?_
                refine T_ld zk_126_66 rfl rfl rfl (pc' := 67) rfl ?_
                refine T_op zk_126_67 rfl X_mul (pc' := 68) rfl ?_
                refine T_goto zk_126_68 ?_
                exact T_iret zk_126_72 rfl (fun σ' h => ⟨_, rfl, (by omega), h.1, trivial⟩)
          ·
            refine T_op zk_126_45 rfl X_ic (pc' := 46) rfl ?_
            refine T_ld zk_126_46 rfl rfl rfl (pc' := 47) rfl ?_
            refine T_op zk_126_47 rfl X_mul (pc' := 48) rfl ?_
            refine T_op zk_126_48 rfl X_ic (pc' := 49) rfl ?_
            refine T_op zk_126_49 rfl X_add (pc' := 50) rfl ?_
            exact T_iret zk_126_50 rfl (fun σ' h => ⟨_, rfl, (by omega), h.1, trivial⟩)
        ·
          refine T_ld zk_126_32 rfl rfl rfl (pc' := 33) rfl ?_
          refine T_goto zk_126_33 ?_
          refine T_st (L' := [(0, iv p0), (1, iv p1), (2, iv p1), (3, iv p1)]) zk_126_37 (nL := 4) rfl rfl rfl rfl rfl (pc' := 38) rfl ?_
          refine T_ld zk_126_38 rfl rfl rfl (pc' := 39) rfl ?_
          refine T_ld zk_126_39 rfl rfl rfl (pc' := 40) rfl ?_
          refine T_op zk_126_40 rfl X_ic (pc' := 41) rfl ?_
          refine T_op zk_126_41 rfl X_add (pc' := 42) rfl ?_
          refine T_icmp_ne zk_126_42 (by omega) (by omega) (pc' := 45) rfl (fun h17 => ?_) (fun h18 => ?_)
          ·
            refine T_ld zk_126_51 rfl rfl rfl (pc' := 52) rfl ?_
            refine T_ld zk_126_52 rfl rfl rfl (pc' := 53) rfl ?_
            refine T_op zk_126_53 rfl X_ic (pc' := 54) rfl ?_
            refine T_op zk_126_54 rfl X_add (pc' := 55) rfl ?_
            refine T_icmp_ne zk_126_55 (by omega) (by omega) (pc' := 58) rfl (fun h19 => ?_) (fun h20 => ?_)
            ·
              refine T_op zk_126_71 rfl X_ic (pc' := 72) rfl ?_
              exact T_iret zk_126_72 rfl (fun σ' h => ⟨_, rfl, (by omega), h.1, trivial⟩)
            ·
              refine T_ld zk_126_58 rfl rfl rfl (pc' := 59) rfl ?_
              refine T_op zk_126_59 rfl X_ic (pc' := 60) rfl ?_
              refine T_op zk_126_60 rfl (X_rem (by omega) (by omega)) (pc' := 61) rfl ?_
              refine T_op zk_126_61 rfl X_ic (pc' := 62) rfl ?_
              refine T_icmp_ge zk_126_62 (by omega) (by omega) (pc' := 65) rfl (fun h21 => ?_) (fun h22 => ?_)
              ·
                refine T_op zk_126_71 rfl X_ic (pc' := 72) rfl ?_
                exact T_iret zk_126_72 rfl (fun σ' h => ⟨_, rfl, (by omega), h.1, trivial⟩)
              ·
                refine T_op zk_126_65 rfl X_ic (pc' := 66) rfl ?_
                refine T_ld zk_126_66 rfl rfl rfl (pc' := 67) rfl ?_
                refine T_op zk_126_67 rfl X_mul (pc' := 68) rfl ?_
                refine T_goto zk_126_68 ?_
                exact T_iret zk_126_72 rfl (fun σ' h => ⟨_, rfl, (by omega), h.1, trivial⟩)
          ·
            refine T_op zk_126_45 rfl X_ic (pc' := 46) rfl ?_
            refine T_ld zk_126_46 rfl rfl rfl (pc' := 47) rfl ?_
            refine T_op zk_126_47 rfl X_mul (pc' := 48) rfl ?_
            refine T_op zk_126_48 rfl X_ic (pc' := 49) rfl ?_
            refine T_op zk_126_49 rfl X_add (pc' := 50) rfl ?_
            exact T_iret zk_126_50 rfl (fun σ' h => ⟨_, rfl, (by omega), h.1, trivial⟩)
      ·
        refine T_ld zk_126_21 rfl rfl rfl (pc' := 22) rfl ?_
        refine T_goto zk_126_22 ?_
        refine T_st (L' := [(0, iv p0), (1, iv p1), (2, iv p0)]) zk_126_26 (nL := 4) rfl rfl rfl rfl rfl (pc' := 27) rfl ?_
        refine T_ld zk_126_27 rfl rfl rfl (pc' := 28) rfl ?_
        refine T_ld zk_126_28 rfl rfl rfl (pc' := 29) rfl ?_
        refine T_icmp_ge zk_126_29 (by omega) (by omega) (pc' := 32) rfl (fun h23 => ?_) (fun h24 => ?_)
        ·
          refine T_ld zk_126_36 rfl rfl rfl (pc' := 37) rfl ?_
          refine T_st (L' := [(0, iv p0), (1, iv p1), (2, iv p0), (3, iv p0)]) zk_126_37 (nL := 4) rfl rfl rfl rfl rfl (pc' := 38) rfl ?_
          refine T_ld zk_126_38 rfl rfl rfl (pc' := 39) rfl ?_
          refine T_ld zk_126_39 rfl rfl rfl (pc' := 40) rfl ?_
          refine T_op zk_126_40 rfl X_ic (pc' := 41) rfl ?_
          refine T_op zk_126_41 rfl X_add (pc' := 42) rfl ?_
          refine T_icmp_ne zk_126_42 (by omega) (by omega) (pc' := 45) rfl (fun h25 => ?_) (fun h26 => ?_)
          ·
            refine T_ld zk_126_51 rfl rfl rfl (pc' := 52) rfl ?_
            refine T_ld zk_126_52 rfl rfl rfl (pc' := 53) rfl ?_
            refine T_op zk_126_53 rfl X_ic (pc' := 54) rfl ?_
            refine T_op zk_126_54 rfl X_add (pc' := 55) rfl ?_
            refine T_icmp_ne zk_126_55 (by omega) (by omega) (pc' := 58) rfl (fun h27 => ?_) (fun h28 => ?_)
            ·
              refine T_op zk_126_71 rfl X_ic (pc' := 72) rfl ?_
              exact T_iret zk_126_72 rfl (fun σ' h => ⟨_, rfl, (by omega), h.1, trivial⟩)
            ·
              refine T_ld zk_126_58 rfl rfl rfl (pc' := 59) rfl ?_
              refine T_op zk_126_59 rfl X_ic (pc' := 60) rfl ?_
              refine T_op zk_126_60 rfl (X_rem (by omega) (by omega)) (pc' := 61) rfl ?_
              refine T_op zk_126_61 rfl X_ic (pc' := 62) rfl ?_
              refine T_icmp_ge zk_126_62 (by omega) (by omega) (pc' := 65) rfl (fun h29 => ?_) (fun h30 => ?_)
              ·
                refine T_op zk_126_71 rfl X_ic (pc' := 72) rfl ?_
                exact T_iret zk_126_72 rfl (fun σ' h => ⟨_, rfl, (by omega), h.1, trivial⟩)
              ·
                refine T_op zk_126_65 rfl X_ic (pc' := 66) rfl ?_
                refine T_ld zk_126_66 rfl rfl rfl (pc' := 67) rfl ?_
                refine T_op zk_126_67 rfl X_mul (pc' := 68) rfl ?_
                refine T_goto zk_126_68 ?_
                exact T_iret zk_126_72 rfl (fun σ' h => ⟨_, rfl, (by omega), h.1, trivial⟩)
          ·
            refine T_op zk_126_45 rfl X_ic (pc' := 46) rfl ?_
            refine T_ld zk_126_46 rfl rfl rfl (pc' := 47) rfl ?_
            refine T_op zk_126_47 rfl X_mul (pc' := 48) rfl ?_
            refine T_op zk_126_48 rfl X_ic (pc' := 49) rfl ?_
            refine T_op zk_126_49 rfl X_add (pc' := 50) rfl ?_
            exact T_iret zk_126_50 rfl (fun σ' h => ⟨_, rfl, (by omega), h.1, trivial⟩)
        ·
          refine T_ld zk_126_32 rfl rfl rfl (pc' := 33) rfl ?_
          refine T_goto zk_126_33 ?_
          refine T_st (L' := [(0, iv p0), (1, iv p1), (2, iv p0), (3, iv p1)]) zk_126_37 (nL := 4) rfl rfl rfl rfl rfl (pc' := 38) rfl ?_
          refine T_ld zk_126_38 rfl rfl rfl (pc' := 39) rfl ?_
          refine T_ld zk_126_39 rfl rfl rfl (pc' := 40) rfl ?_
          refine T_op zk_126_40 rfl X_ic (pc' := 41) rfl ?_
          refine T_op zk_126_41 rfl X_add (pc' := 42) rfl ?_
          refine T_icmp_ne zk_126_42 (by omega) (by omega) (pc' := 45) rfl (fun h31 => ?_) (fun h32 => ?_)
          ·
            refine T_ld zk_126_51 rfl rfl rfl (pc' := 52) rfl ?_
            refine T_ld zk_126_52 rfl rfl rfl (pc' := 53) rfl ?_
            refine T_op zk_126_53 rfl X_ic (pc' := 54) rfl ?_
            refine T_op zk_126_54 rfl X_add (pc' := 55) rfl ?_
            refine T_icmp_ne zk_126_55 (by omega) (by omega) (pc' := 58) rfl (fun h33 => ?_) (fun h34 => ?_)
            ·
              refine T_op zk_126_71 rfl X_ic (pc' := 72) rfl ?_
              exact T_iret zk_126_72 rfl (fun σ' h => ⟨_, rfl, (by omega), h.1, trivial⟩)
            ·
              refine T_ld zk_126_58 rfl rfl rfl (pc' := 59) rfl ?_
              refine T_op zk_126_59 rfl X_ic (pc' := 60) rfl ?_
              refine T_op zk_126_60 rfl (X_rem (by omega) (by omega)) (pc' := 61) rfl ?_
              refine T_op zk_126_61 rfl X_ic (pc' := 62) rfl ?_
              refine T_icmp_ge zk_126_62 (by omega) (by omega) (pc' := 65) rfl (fun h35 => ?_) (fun h36 => ?_)
              ·
                refine T_op zk_126_71 rfl X_ic (pc' := 72) rfl ?_
                exact T_iret zk_126_72 rfl (fun σ' h => ⟨_, rfl, (by omega), h.1, trivial⟩)
              ·
                refine T_op zk_126_65 rfl X_ic (pc' := 66) rfl ?_
                refine T_ld zk_126_66 rfl rfl rfl (pc' := 67) rfl ?_
                refine T_op zk_126_67 rfl X_mul (pc' := 68) rfl ?_
                refine T_goto zk_126_68 ?_
                exact T_iret zk_126_72 rfl (fun σ' h => ⟨_, rfl, (by omega), h.1, trivial⟩)
          ·
            refine T_op zk_126_45 rfl X_ic (pc' := 46) rfl ?_
            refine T_ld zk_126_46 rfl rfl rfl (pc' := 47) rfl ?_
            refine T_op zk_126_47 rfl X_mul (pc' := 48) rfl ?_
            refine T_op zk_126_48 rfl X_ic (pc' := 49) rfl ?_
            refine T_op zk_126_49 rfl X_add (pc' := 50) rfl ?_
            exact T_iret zk_126_50 rfl (fun σ' h => ⟨_, rfl, (by omega), h.1, trivial⟩)
    ·
      refine T_op zk_126_14 rfl X_ic (pc' := 15) rfl ?_
      exact T_iret zk_126_15 rfl (fun σ' h => ⟨_, rfl, (by omega), h.1, trivial⟩)
/-- WModel.turns -/
theorem m_129 {xs : Nat × (Nat → Int32)} (p0 : Int) (p1 : Int) (h0 : 100 ≤ p0 ∧ p0 ≤ 199) (h1 : 0 ≤ p1 ∧ p1 ≤ 1) (σ : ZS) (hI : Inv σ)  (s1 : (∀ j, 100 ≤ j → j < 200 → σ 36 0 0 j = 0)) : CT xs 1 129 [av 35 0 0, iv p0, iv p1] σ (fun v σ' => ∃ y, v = some (iv y) ∧ (y = p1) ∧ IF (MJ 100 200) σ σ' ∧ (True)) := by
  refine G_ct (J := (fun σ' => IF (MJ 100 200) σ σ' ∧ (∀ j, 100 ≤ j → j < 200 → σ' 36 0 0 j = 0) ∧ True)) (L := [(0, av 35 0 0), (1, iv p0), (2, iv p1)]) (nL := 4) rfl rfl rfl ⟨IF.rf hI, s1, trivial⟩ ?_
  refine T_ld zk_129_0 rfl rfl rfl (pc' := 1) rfl ?_
  refine T_if_eq zk_129_1 (by omega) (pc' := 4) rfl (fun h1 => ?_) (fun h2 => ?_)
  ·
    refine T_op zk_129_8 rfl X_ic (pc' := 9) rfl ?_
    refine T_st (L' := [(0, av 35 0 0), (1, iv p0), (2, iv p1), (3, iv 0)]) zk_129_9 (nL := 4) rfl rfl rfl rfl rfl (pc' := 10) rfl ?_
    refine T_ld zk_129_10 rfl rfl rfl (pc' := 11) rfl ?_
    refine T_getR (t' := 36) (i' := 0) (k' := 0) zk_129_11 rfl rfl rfl vd_35 (pc' := 14) rfl ?_
    refine T_ld zk_129_14 rfl rfl rfl (pc' := 15) rfl ?_
    refine G_ialdX (w := 0) (ln := 646) zk_129_15 rfl rfl (vd_36 (by omega)) (by omega) (by omega) (by omega) (fun σ' h => h.2.1 _ (by omega) (by omega)) (pc' := 16) rfl ?_
    refine T_ld zk_129_16 rfl rfl rfl (pc' := 17) rfl ?_
    refine T_icmp_ne zk_129_17 (by omega) (by omega) (pc' := 20) rfl (fun h3 => ?_) (fun h4 => ?_)
    · exfalso; omega
    ·
      refine T_op zk_129_20 rfl X_ic (pc' := 21) rfl ?_
      exact T_iret zk_129_21 rfl (fun σ' h => ⟨_, rfl, (by omega), h.1, trivial⟩)
  ·
    refine T_op zk_129_4 rfl X_ic (pc' := 5) rfl ?_
    refine T_goto zk_129_5 ?_
    refine T_st (L' := [(0, av 35 0 0), (1, iv p0), (2, iv p1), (3, iv 1)]) zk_129_9 (nL := 4) rfl rfl rfl rfl rfl (pc' := 10) rfl ?_
    refine T_ld zk_129_10 rfl rfl rfl (pc' := 11) rfl ?_
    refine T_getR (t' := 36) (i' := 0) (k' := 0) zk_129_11 rfl rfl rfl vd_35 (pc' := 14) rfl ?_
    refine T_ld zk_129_14 rfl rfl rfl (pc' := 15) rfl ?_
    refine G_ialdX (w := 0) (ln := 646) zk_129_15 rfl rfl (vd_36 (by omega)) (by omega) (by omega) (by omega) (fun σ' h => h.2.1 _ (by omega) (by omega)) (pc' := 16) rfl ?_
    refine T_ld zk_129_16 rfl rfl rfl (pc' := 17) rfl ?_
    refine T_icmp_ne zk_129_17 (by omega) (by omega) (pc' := 20) rfl (fun h5 => ?_) (fun h6 => ?_)
    ·
      refine T_ld zk_129_22 rfl rfl rfl (pc' := 23) rfl ?_
      refine T_getR (t' := 36) (i' := 0) (k' := 0) zk_129_23 rfl rfl rfl vd_35 (pc' := 26) rfl ?_
      refine T_ld zk_129_26 rfl rfl rfl (pc' := 27) rfl ?_
      refine T_ld zk_129_27 rfl rfl rfl (pc' := 28) rfl ?_
      refine G_iast (J' := (fun σ' => IF (MJ 100 200) σ σ' ∧ True)) (ln := 646) zk_129_28 rfl rfl (vd_36 (by omega)) (by omega) (by omega) (by omega) (fun σ' h => ⟨h.1.up (by simp only [rgP] <;> omega) (by unfold MJ; omega), trivial⟩) (pc' := 29) rfl ?_
      refine T_op zk_129_29 rfl X_ic (pc' := 30) rfl ?_
      exact T_iret zk_129_30 rfl (fun σ' h => ⟨_, rfl, (by omega), h.1, trivial⟩)
    · exfalso; omega
/-- WModel.isHouse -/
theorem m_139e {xs : Nat × (Nat → Int32)} (p0 : Int) (h0 : -2147483648 ≤ p0 ∧ p0 ≤ 2147483647) (σ : ZS) (hI : Inv σ)  (s1 : σ 36 0 0 641 = 0) : CT xs 1 139 [av 35 0 0, iv p0] σ (fun v σ' => ∃ y, v = some (iv y) ∧ (y = 0) ∧ IF MN σ σ' ∧ (True)) := by
  refine G_ct (J := (fun σ' => IF MN σ σ' ∧ True)) (L := [(0, av 35 0 0), (1, iv p0)]) (nL := 2) rfl rfl rfl ⟨IF.rf hI, trivial⟩ ?_
  refine T_ld zk_139_0 rfl rfl rfl (pc' := 1) rfl ?_
  refine T_if_lt zk_139_1 (by omega) (pc' := 4) rfl (fun h1 => ?_) (fun h2 => ?_)
  ·
    refine T_op zk_139_20 rfl X_ic (pc' := 21) rfl ?_
    exact T_zret zk_139_21 rfl (by omega) (fun σ' h => ⟨_, rfl, (by omega), h.1, trivial⟩)
  ·
    refine T_ld zk_139_4 rfl rfl rfl (pc' := 5) rfl ?_
    refine T_ld zk_139_5 rfl rfl rfl (pc' := 6) rfl ?_
    refine T_getR (t' := 36) (i' := 0) (k' := 0) zk_139_6 rfl rfl rfl vd_35 (pc' := 9) rfl ?_
    refine T_op zk_139_9 rfl (X_si (v := 641) (by decide)) (pc' := 12) rfl ?_
    refine G_ialdX (w := 0) (ln := 646) zk_139_12 rfl rfl (vd_36 (by omega)) (by omega) (by omega) (by omega) (fun σ' h => (h.1.2 _ _ _ _ (fun q => q)).trans s1) (pc' := 13) rfl ?_
    refine T_icmp_ge zk_139_13 (by omega) (by omega) (pc' := 16) rfl (fun h3 => ?_) (fun h4 => ?_)
    ·
      refine T_op zk_139_20 rfl X_ic (pc' := 21) rfl ?_
      exact T_zret zk_139_21 rfl (by omega) (fun σ' h => ⟨_, rfl, (by omega), h.1, trivial⟩)
    · exfalso; omega
/-- WModel.isLaw -/
theorem m_157e {xs : Nat × (Nat → Int32)} (p0 : Int) (h0 : -2147483648 ≤ p0 ∧ p0 ≤ 2147483647) (σ : ZS) (hI : Inv σ)  (s1 : σ 36 0 0 640 = 0) : CT xs 1 157 [av 35 0 0, iv p0] σ (fun v σ' => ∃ y, v = some (iv y) ∧ (y = 0) ∧ IF MN σ σ' ∧ (True)) := by
  refine G_ct (J := (fun σ' => IF MN σ σ' ∧ True)) (L := [(0, av 35 0 0), (1, iv p0)]) (nL := 2) rfl rfl rfl ⟨IF.rf hI, trivial⟩ ?_
  refine T_ld zk_157_0 rfl rfl rfl (pc' := 1) rfl ?_
  refine T_if_lt zk_157_1 (by omega) (pc' := 4) rfl (fun h1 => ?_) (fun h2 => ?_)
  ·
    refine T_op zk_157_20 rfl X_ic (pc' := 21) rfl ?_
    exact T_zret zk_157_21 rfl (by omega) (fun σ' h => ⟨_, rfl, (by omega), h.1, trivial⟩)
  ·
    refine T_ld zk_157_4 rfl rfl rfl (pc' := 5) rfl ?_
    refine T_ld zk_157_5 rfl rfl rfl (pc' := 6) rfl ?_
    refine T_getR (t' := 36) (i' := 0) (k' := 0) zk_157_6 rfl rfl rfl vd_35 (pc' := 9) rfl ?_
    refine T_op zk_157_9 rfl (X_si (v := 640) (by decide)) (pc' := 12) rfl ?_
    refine G_ialdX (w := 0) (ln := 646) zk_157_12 rfl rfl (vd_36 (by omega)) (by omega) (by omega) (by omega) (fun σ' h => (h.1.2 _ _ _ _ (fun q => q)).trans s1) (pc' := 13) rfl ?_
    refine T_icmp_ge zk_157_13 (by omega) (by omega) (pc' := 16) rfl (fun h3 => ?_) (fun h4 => ?_)
    ·
      refine T_op zk_157_20 rfl X_ic (pc' := 21) rfl ?_
      exact T_zret zk_157_21 rfl (by omega) (fun σ' h => ⟨_, rfl, (by omega), h.1, trivial⟩)
    · exfalso; omega
/-- WModel.isBoat -/
theorem m_167e {xs : Nat × (Nat → Int32)} (p0 : Int) (h0 : -2147483648 ≤ p0 ∧ p0 ≤ 2147483647) (σ : ZS) (hI : Inv σ)  (s1 : σ 36 0 0 642 = 0) : CT xs 1 167 [av 35 0 0, iv p0] σ (fun v σ' => ∃ y, v = some (iv y) ∧ (y = 0) ∧ IF MN σ σ' ∧ (True)) := by
  refine G_ct (J := (fun σ' => IF MN σ σ' ∧ True)) (L := [(0, av 35 0 0), (1, iv p0)]) (nL := 2) rfl rfl rfl ⟨IF.rf hI, trivial⟩ ?_
  refine T_ld zk_167_0 rfl rfl rfl (pc' := 1) rfl ?_
  refine T_if_lt zk_167_1 (by omega) (pc' := 4) rfl (fun h1 => ?_) (fun h2 => ?_)
  ·
    refine T_op zk_167_20 rfl X_ic (pc' := 21) rfl ?_
    exact T_zret zk_167_21 rfl (by omega) (fun σ' h => ⟨_, rfl, (by omega), h.1, trivial⟩)
  ·
    refine T_ld zk_167_4 rfl rfl rfl (pc' := 5) rfl ?_
    refine T_ld zk_167_5 rfl rfl rfl (pc' := 6) rfl ?_
    refine T_getR (t' := 36) (i' := 0) (k' := 0) zk_167_6 rfl rfl rfl vd_35 (pc' := 9) rfl ?_
    refine T_op zk_167_9 rfl (X_si (v := 642) (by decide)) (pc' := 12) rfl ?_
    refine G_ialdX (w := 0) (ln := 646) zk_167_12 rfl rfl (vd_36 (by omega)) (by omega) (by omega) (by omega) (fun σ' h => (h.1.2 _ _ _ _ (fun q => q)).trans s1) (pc' := 13) rfl ?_
    refine T_icmp_ge zk_167_13 (by omega) (by omega) (pc' := 16) rfl (fun h3 => ?_) (fun h4 => ?_)
    ·
      refine T_op zk_167_20 rfl X_ic (pc' := 21) rfl ?_
      exact T_zret zk_167_21 rfl (by omega) (fun σ' h => ⟨_, rfl, (by omega), h.1, trivial⟩)
    · exfalso; omega
/-- WModel.wants -/
theorem m_143e {xs : Nat × (Nat → Int32)} (p0 : Int) (h0 : -2147483648 ≤ p0 ∧ p0 ≤ 2147483647) (σ : ZS) (hI : Inv σ)  (s1 : (∀ j, 0 ≤ j → j < 8 → σ 37 0 0 j = 0)) : CT xs 2 143 [av 35 0 0, iv p0] σ (fun v σ' => ∃ y, v = some (iv y) ∧ ((y = -1 ∧ (p0 < 0 ∨ 7 < p0)) ∨ (y = -3 ∧ 0 ≤ p0 ∧ p0 ≤ 7)) ∧ IF MN σ σ' ∧ (True)) := by
  refine G_ct (J := (fun σ' => IF MN σ σ' ∧ True)) (L := [(0, av 35 0 0), (1, iv p0)]) (nL := 2) rfl rfl rfl ⟨IF.rf hI, trivial⟩ ?_
  refine T_ld zk_143_0 rfl rfl rfl (pc' := 1) rfl ?_
  refine T_calli (K := fun y1 σ' => ((y1 = 0 ∧ (p0 < 0 ∨ 7 < p0)) ∨ (y1 = 1 ∧ 0 ≤ p0 ∧ p0 ≤ 7)) ∧ (fun σ' => IF MN σ σ' ∧ True) σ') (r := []) zk_143_1 rfl rfl rfl rfl rfl rfl (Or.inl (Or.inl rfl)) (fun σ' h => (m_125 p0 (by omega) σ' h.1.1 ).le (Nat.le_of_ble_eq_true rfl) (fun v σ2 ⟨y, h1, h2, h3, h4⟩ => ⟨y, h1, h2, h.1.tr h3 MN_sub, trivial⟩)) (pc' := 4) rfl (fun y1 => ?_)
  refine G_ex (fun hy1 => ?_)
  refine T_if_ne zk_143_4 (by omega) (pc' := 7) rfl (fun h2 => ?_) (fun h3 => ?_)
  ·
    refine T_ld zk_143_11 rfl rfl rfl (pc' := 12) rfl ?_
    refine T_getR (t' := 37) (i' := 0) (k' := 0) zk_143_12 rfl rfl rfl vd_35 (pc' := 15) rfl ?_
    refine T_ld zk_143_15 rfl rfl rfl (pc' := 16) rfl ?_
    refine G_ialdX (w := 0) (ln := 8) zk_143_16 rfl rfl vd_37 (by omega) (by omega) (by omega) (fun σ' h => (h.1.2 _ _ _ _ (fun q => q)).trans (s1 _ (by omega) (by omega))) (pc' := 17) rfl ?_
    refine T_op zk_143_17 rfl X_ic (pc' := 18) rfl ?_
    refine T_icmp_ne zk_143_18 (by omega) (by omega) (pc' := 21) rfl (fun h4 => ?_) (fun h5 => ?_)
    ·
      refine T_ld zk_143_26 rfl rfl rfl (pc' := 27) rfl ?_
      refine T_getR (t' := 37) (i' := 0) (k' := 0) zk_143_27 rfl rfl rfl vd_35 (pc' := 30) rfl ?_
      refine T_ld zk_143_30 rfl rfl rfl (pc' := 31) rfl ?_
      refine G_ialdX (w := 0) (ln := 8) zk_143_31 rfl rfl vd_37 (by omega) (by omega) (by omega) (fun σ' h => (h.1.2 _ _ _ _ (fun q => q)).trans (s1 _ (by omega) (by omega))) (pc' := 32) rfl ?_
      refine T_if_ne zk_143_32 (by omega) (pc' := 35) rfl (fun h6 => ?_) (fun h7 => ?_)
      · exfalso; omega
      ·
        refine T_op zk_143_35 rfl (X_bi (v := -3) (by decide)) (pc' := 37) rfl ?_
        refine T_goto zk_143_37 ?_
        exact T_iret zk_143_41 rfl (fun σ' h => ⟨_, rfl, (by omega), h.1, trivial⟩)
    · exfalso; omega
  ·
    refine T_op zk_143_7 rfl X_ic (pc' := 8) rfl ?_
    refine T_goto zk_143_8 ?_
    exact T_iret zk_143_41 rfl (fun σ' h => ⟨_, rfl, (by omega), h.1, trivial⟩)
/-- WModel.seaOf -/
theorem m_145e {xs : Nat × (Nat → Int32)} (p0 : Int) (p1 : Int) (h0 : -2147483648 ≤ p0 ∧ p0 ≤ 2147483647) (h1 : 0 ≤ p1 ∧ p1 ≤ 1) (σ : ZS) (hI : Inv σ)  (s1 : σ 36 0 0 635 = 0) (s2 : σ 36 0 0 636 = 0) : CT xs 1 145 [av 35 0 0, iv p0, iv p1] σ (fun v σ' => ∃ y, v = some (iv y) ∧ (y = 0) ∧ IF MN σ σ' ∧ (True)) := by
  refine G_ct (J := (fun σ' => IF MN σ σ' ∧ True)) (L := [(0, av 35 0 0), (1, iv p0), (2, iv p1)]) (nL := 4) rfl rfl rfl ⟨IF.rf hI, trivial⟩ ?_
  refine T_ld zk_145_0 rfl rfl rfl (pc' := 1) rfl ?_
  refine T_getR (t' := 36) (i' := 0) (k' := 0) zk_145_1 rfl rfl rfl vd_35 (pc' := 4) rfl ?_
  refine T_ld zk_145_4 rfl rfl rfl (pc' := 5) rfl ?_
  refine T_if_eq zk_145_5 (by omega) (pc' := 8) rfl (fun h1 => ?_) (fun h2 => ?_)
  ·
    refine T_op zk_145_14 rfl (X_si (v := 635) (by decide)) (pc' := 17) rfl ?_
    refine G_ialdX (w := 0) (ln := 646) zk_145_17 rfl rfl (vd_36 (by omega)) (by omega) (by omega) (by omega) (fun σ' h => (h.1.2 _ _ _ _ (fun q => q)).trans s1) (pc' := 18) rfl ?_
    refine T_st (L' := [(0, av 35 0 0), (1, iv p0), (2, iv p1), (3, iv 0)]) zk_145_18 (nL := 4) rfl rfl rfl rfl rfl (pc' := 19) rfl ?_
    refine T_ld zk_145_19 rfl rfl rfl (pc' := 20) rfl ?_
    refine T_if_ne zk_145_20 (by omega) (pc' := 23) rfl (fun h3 => ?_) (fun h4 => ?_)
    · exfalso; omega
    ·
      refine T_op zk_145_23 rfl X_ic (pc' := 24) rfl ?_
      refine T_goto zk_145_24 ?_
      exact T_iret zk_145_49 rfl (fun σ' h => ⟨_, rfl, (by omega), h.1, trivial⟩)
  ·
    refine T_op zk_145_8 rfl (X_si (v := 636) (by decide)) (pc' := 11) rfl ?_
    refine T_goto zk_145_11 ?_
    refine G_ialdX (w := 0) (ln := 646) zk_145_17 rfl rfl (vd_36 (by omega)) (by omega) (by omega) (by omega) (fun σ' h => (h.1.2 _ _ _ _ (fun q => q)).trans s2) (pc' := 18) rfl ?_
    refine T_st (L' := [(0, av 35 0 0), (1, iv p0), (2, iv p1), (3, iv 0)]) zk_145_18 (nL := 4) rfl rfl rfl rfl rfl (pc' := 19) rfl ?_
    refine T_ld zk_145_19 rfl rfl rfl (pc' := 20) rfl ?_
    refine T_if_ne zk_145_20 (by omega) (pc' := 23) rfl (fun h5 => ?_) (fun h6 => ?_)
    · exfalso; omega
    ·
      refine T_op zk_145_23 rfl X_ic (pc' := 24) rfl ?_
      refine T_goto zk_145_24 ?_
      exact T_iret zk_145_49 rfl (fun σ' h => ⟨_, rfl, (by omega), h.1, trivial⟩)
/-- WModel.goals -/
theorem m_160e {xs : Nat × (Nat → Int32)}   (σ : ZS) (hI : Inv σ)  (s1 : σ 36 0 0 642 = 0) : CT xs 1 160 [av 35 0 0] σ (fun v σ' => ∃ y, v = some (iv y) ∧ (y = 0) ∧ IF MN σ σ' ∧ (True)) := by
  refine G_ct (J := (fun σ' => IF MN σ σ' ∧ True)) (L := [(0, av 35 0 0)]) (nL := 3) rfl rfl rfl ⟨IF.rf hI, trivial⟩ ?_
  refine T_op zk_160_0 rfl X_ic (pc' := 1) rfl ?_
  refine T_st (L' := [(0, av 35 0 0), (1, iv 0)]) zk_160_1 (nL := 3) rfl rfl rfl rfl rfl (pc' := 2) rfl ?_
  refine T_op zk_160_2 rfl X_ic (pc' := 3) rfl ?_
  refine T_st (L' := [(0, av 35 0 0), (1, iv 0), (2, iv 0)]) zk_160_3 (nL := 3) rfl rfl rfl rfl rfl (pc' := 4) rfl ?_
  refine T_loop2 (fun x1 x2 => ((0 : Int)).toNat) (fun x1 x2 => (0 ≤ x1 ∧ x1 ≤ 0) ∧ (0 ≤ x2 ∧ x2 ≤ 0)) (fun x1 x2 => TJ xs (fun σ' => IF MN σ σ' ∧ True) 0 160 4 [(0, av 35 0 0), (1, iv x1), (2, iv x2)] [] _) ?_ 0 0 (by omega)
  intro x1 x2 hp4 ih3
  refine T_ld zk_160_4 rfl rfl rfl (pc' := 5) rfl ?_
  refine T_ld zk_160_5 rfl rfl rfl (pc' := 6) rfl ?_
  refine T_getR (t' := 36) (i' := 0) (k' := 0) zk_160_6 rfl rfl rfl vd_35 (pc' := 9) rfl ?_
  refine T_op zk_160_9 rfl (X_si (v := 642) (by decide)) (pc' := 12) rfl ?_
  refine G_ialdX (w := 0) (ln := 646) zk_160_12 rfl rfl (vd_36 (by omega)) (by omega) (by omega) (by omega) (fun σ' h => (h.1.2 _ _ _ _ (fun q => q)).trans s1) (pc' := 13) rfl ?_
  refine T_icmp_ge zk_160_13 (by omega) (by omega) (pc' := 16) rfl (fun h5 => ?_) (fun h6 => ?_)
  ·
    refine T_ld zk_160_39 rfl rfl rfl (pc' := 40) rfl ?_
    exact T_iret zk_160_40 rfl (fun σ' h => ⟨_, rfl, (by omega), h.1, trivial⟩)
  · exfalso; omega
/-- WModel.depth -/
theorem m_depth {xs : Nat × (Nat → Int32)} (p0 : Int) (p1 : Int) (h0 : -2147483648 ≤ p0 ∧ p0 ≤ 2147483647) (h1 : -2147483648 ≤ p1 ∧ p1 ≤ 2147483647) (σ : ZS) (hI : Inv σ) (hm : ∀ t i k j, 35 ≤ t → σ t i k j = σ0 t i k j)  : CT xs 2 127 [av 35 0 0, iv p0, iv p1] σ (fun v σ' => ∃ y, v = some (iv y) ∧ ((y = -1 ∧ (¬ (0 ≤ p0 ∧ p0 ≤ 24))) ∨ (y = -6 ∧ ¬ (¬ (0 ≤ p0 ∧ p0 ≤ 24)) ∧ (¬ (0 ≤ p1 ∧ p1 ≤ 60))) ∨ (y = 20 ∧ ¬ (¬ (0 ≤ p0 ∧ p0 ≤ 24)) ∧ ¬ (¬ (0 ≤ p1 ∧ p1 ≤ 60)))) ∧ IF (MJ 0 25) σ σ' ∧ (True)) := by
  refine G_ct (J := (fun σ' => IF (MJ 0 25) σ σ' ∧ (∀ j, 0 ≤ j → j < 25 → σ' 36 0 0 j = 20) ∧ True)) (L := [(0, av 35 0 0), (1, iv p0), (2, iv p1)]) (nL := 4) rfl rfl rfl ⟨IF.rf hI, (fun j a b => ((hm _ _ _ _ (by decide)).trans (s0_a (by omega)))), trivial⟩ ?_
  refine T_ld zk_127_0 rfl rfl rfl (pc' := 1) rfl ?_
  refine T_calli (K := fun y1 σ' => ((y1 = 0 ∧ (p0 < 0 ∨ 24 < p0)) ∨ (y1 = 1 ∧ 0 ≤ p0 ∧ p0 ≤ 24)) ∧ (fun σ' => IF (MJ 0 25) σ σ' ∧ (∀ j, 0 ≤ j → j < 25 → σ' 36 0 0 j = 20) ∧ True) σ') (r := []) zk_127_1 rfl rfl rfl rfl rfl rfl (Or.inl (Or.inl rfl)) (fun σ' h => (m_124 p0 (by omega) σ' h.1.1 ).le (Nat.le_of_ble_eq_true rfl) (fun v σ2 ⟨y, h1, h2, h3, h4⟩ => ⟨y, h1, h2, h.1.tr h3 MN_sub, fun j a b => (h3.2 _ _ _ _ (fun q => q)).trans (h.2.1 j a b), trivial⟩)) (pc' := 4) rfl (fun y1 => ?_)
  refine G_ex (fun hy1 => ?_)
  refine T_if_ne zk_127_4 (by omega) (pc' := 7) rfl (fun h2 => ?_) (fun h3 => ?_)
  ·
    refine T_ld zk_127_13 rfl rfl rfl (pc' := 14) rfl ?_
    refine T_if_lt zk_127_14 (by omega) (pc' := 17) rfl (fun h4 => ?_) (fun h5 => ?_)
    ·
      refine T_ld zk_127_23 rfl rfl rfl (pc' := 24) rfl ?_
      refine T_op zk_127_24 rfl (X_bi (v := -6) (by decide)) (pc' := 26) rfl ?_
      refine T_calli (K := fun y6 σ' => (y6 = (-6)) ∧ (fun σ' => IF (MJ 0 25) σ σ' ∧ (∀ j, 0 ≤ j → j < 25 → σ' 36 0 0 j = 20) ∧ True) σ') (r := []) zk_127_26 rfl rfl rfl rfl rfl rfl (Or.inr ⟨_, _, _, _, rfl, vd_35, rfl⟩) (fun σ' h => (m_123 ((-6)) (by omega) σ' h.1.1 ).le (Nat.le_of_ble_eq_true rfl) (fun v σ2 ⟨y, h1, h2, h3, h4⟩ => ⟨y, h1, h2, h.1.tr h3 (fun t i k j h => by unfold MT at h; unfold MJ; omega), fun j a b => (h3.2 _ _ _ _ (by unfold MT; omega)).trans (h.2.1 j a b), trivial⟩)) (pc' := 29) rfl (fun y6 => ?_)
      refine G_ex (fun hy6 => ?_)
      obtain rfl : y6 = (-6) := by omega
      exact T_iret zk_127_29 rfl (fun σ' h => ⟨_, rfl, (by omega), h.1, trivial⟩)
    ·
      refine T_ld zk_127_17 rfl rfl rfl (pc' := 18) rfl ?_
      refine T_op zk_127_18 rfl (X_bi (v := 60) (by decide)) (pc' := 20) rfl ?_
      refine T_icmp_le zk_127_20 (by omega) (by omega) (pc' := 23) rfl (fun h7 => ?_) (fun h8 => ?_)
      ·
        refine T_ld zk_127_30 rfl rfl rfl (pc' := 31) rfl ?_
        refine T_getR (t' := 36) (i' := 0) (k' := 0) zk_127_31 rfl rfl rfl vd_35 (pc' := 34) rfl ?_
        refine T_op zk_127_34 rfl X_ic (pc' := 35) rfl ?_
        refine T_ld zk_127_35 rfl rfl rfl (pc' := 36) rfl ?_
        refine T_op zk_127_36 rfl X_add (pc' := 37) rfl ?_
        refine G_ialdX (w := 20) (ln := 646) zk_127_37 rfl rfl (vd_36 (by omega)) (by omega) (by omega) (by omega) (fun σ' h => h.2.1 _ (by omega) (by omega)) (pc' := 38) rfl ?_
        refine T_st (L' := [(0, av 35 0 0), (1, iv p0), (2, iv p1), (3, iv 20)]) zk_127_38 (nL := 4) rfl rfl rfl rfl rfl (pc' := 39) rfl ?_
        refine T_ld zk_127_39 rfl rfl rfl (pc' := 40) rfl ?_
        refine T_getR (t' := 36) (i' := 0) (k' := 0) zk_127_40 rfl rfl rfl vd_35 (pc' := 43) rfl ?_
        refine T_op zk_127_43 rfl X_ic (pc' := 44) rfl ?_
        refine T_ld zk_127_44 rfl rfl rfl (pc' := 45) rfl ?_
        refine T_op zk_127_45 rfl X_add (pc' := 46) rfl ?_
        refine T_ld zk_127_46 rfl rfl rfl (pc' := 47) rfl ?_
        refine G_iast (J' := (fun σ' => IF (MJ 0 25) σ σ' ∧ True)) (ln := 646) zk_127_47 rfl rfl (vd_36 (by omega)) (by omega) (by omega) (by omega) (fun σ' h => ⟨h.1.up (by simp only [rgP] <;> omega) (by unfold MJ; omega), trivial⟩) (pc' := 48) rfl ?_
        refine T_ld zk_127_48 rfl rfl rfl (pc' := 49) rfl ?_
        exact T_iret zk_127_49 rfl (fun σ' h => ⟨_, rfl, (by omega), h.1, trivial⟩)
      ·
        refine T_ld zk_127_23 rfl rfl rfl (pc' := 24) rfl ?_
        refine T_op zk_127_24 rfl (X_bi (v := -6) (by decide)) (pc' := 26) rfl ?_
        refine T_calli (K := fun y9 σ' => (y9 = (-6)) ∧ (fun σ' => IF (MJ 0 25) σ σ' ∧ (∀ j, 0 ≤ j → j < 25 → σ' 36 0 0 j = 20) ∧ True) σ') (r := []) zk_127_26 rfl rfl rfl rfl rfl rfl (Or.inr ⟨_, _, _, _, rfl, vd_35, rfl⟩) (fun σ' h => (m_123 ((-6)) (by omega) σ' h.1.1 ).le (Nat.le_of_ble_eq_true rfl) (fun v σ2 ⟨y, h1, h2, h3, h4⟩ => ⟨y, h1, h2, h.1.tr h3 (fun t i k j h => by unfold MT at h; unfold MJ; omega), fun j a b => (h3.2 _ _ _ _ (by unfold MT; omega)).trans (h.2.1 j a b), trivial⟩)) (pc' := 29) rfl (fun y9 => ?_)
        refine G_ex (fun hy9 => ?_)
        obtain rfl : y9 = (-6) := by omega
        exact T_iret zk_127_29 rfl (fun σ' h => ⟨_, rfl, (by omega), h.1, trivial⟩)
  ·
    refine T_ld zk_127_7 rfl rfl rfl (pc' := 8) rfl ?_
    refine T_op zk_127_8 rfl X_ic (pc' := 9) rfl ?_
    refine T_calli (K := fun y10 σ' => (y10 = (-1)) ∧ (fun σ' => IF (MJ 0 25) σ σ' ∧ (∀ j, 0 ≤ j → j < 25 → σ' 36 0 0 j = 20) ∧ True) σ') (r := []) zk_127_9 rfl rfl rfl rfl rfl rfl (Or.inr ⟨_, _, _, _, rfl, vd_35, rfl⟩) (fun σ' h => (m_123 ((-1)) (by omega) σ' h.1.1 ).le (Nat.le_of_ble_eq_true rfl) (fun v σ2 ⟨y, h1, h2, h3, h4⟩ => ⟨y, h1, h2, h.1.tr h3 (fun t i k j h => by unfold MT at h; unfold MJ; omega), fun j a b => (h3.2 _ _ _ _ (by unfold MT; omega)).trans (h.2.1 j a b), trivial⟩)) (pc' := 12) rfl (fun y10 => ?_)
    refine G_ex (fun hy10 => ?_)
    obtain rfl : y10 = (-1) := by omega
    exact T_iret zk_127_12 rfl (fun σ' h => ⟨_, rfl, (by omega), h.1, trivial⟩)
/-- WModel.level -/
theorem m_level {xs : Nat × (Nat → Int32)} (p0 : Int) (p1 : Int) (h0 : -2147483648 ≤ p0 ∧ p0 ≤ 2147483647) (h1 : -2147483648 ≤ p1 ∧ p1 ≤ 2147483647) (σ : ZS) (hI : Inv σ) (hm : ∀ t i k j, 35 ≤ t → σ t i k j = σ0 t i k j)  : CT xs 2 128 [av 35 0 0, iv p0, iv p1] σ (fun v σ' => ∃ y, v = some (iv y) ∧ ((y = -1 ∧ (¬ (0 ≤ p0 ∧ p0 ≤ 24))) ∨ (y = -6 ∧ ¬ (¬ (0 ≤ p0 ∧ p0 ≤ 24)) ∧ (¬ (-300 ≤ p1 ∧ p1 ≤ 300))) ∨ (y = 0 ∧ ¬ (¬ (0 ≤ p0 ∧ p0 ≤ 24)) ∧ ¬ (¬ (-300 ≤ p1 ∧ p1 ≤ 300)))) ∧ IF (MK 25 50 645 646) σ σ' ∧ (True)) := by
  refine G_ct (J := (fun σ' => IF (MK 25 50 645 646) σ σ' ∧ (∀ j, 25 ≤ j → j < 50 → σ' 36 0 0 j = 0) ∧ True)) (L := [(0, av 35 0 0), (1, iv p0), (2, iv p1)]) (nL := 4) rfl rfl rfl ⟨IF.rf hI, (fun j a b => ((hm _ _ _ _ (by decide)).trans (s0_z (by omega)))), trivial⟩ ?_
  refine T_ld zk_128_0 rfl rfl rfl (pc' := 1) rfl ?_
  refine T_calli (K := fun y1 σ' => ((y1 = 0 ∧ (p0 < 0 ∨ 24 < p0)) ∨ (y1 = 1 ∧ 0 ≤ p0 ∧ p0 ≤ 24)) ∧ (fun σ' => IF (MK 25 50 645 646) σ σ' ∧ (∀ j, 25 ≤ j → j < 50 → σ' 36 0 0 j = 0) ∧ True) σ') (r := []) zk_128_1 rfl rfl rfl rfl rfl rfl (Or.inl (Or.inl rfl)) (fun σ' h => (m_124 p0 (by omega) σ' h.1.1 ).le (Nat.le_of_ble_eq_true rfl) (fun v σ2 ⟨y, h1, h2, h3, h4⟩ => ⟨y, h1, h2, h.1.tr h3 MN_sub, fun j a b => (h3.2 _ _ _ _ (fun q => q)).trans (h.2.1 j a b), trivial⟩)) (pc' := 4) rfl (fun y1 => ?_)
  refine G_ex (fun hy1 => ?_)
  refine T_if_ne zk_128_4 (by omega) (pc' := 7) rfl (fun h2 => ?_) (fun h3 => ?_)
  ·
    refine T_ld zk_128_13 rfl rfl rfl (pc' := 14) rfl ?_
    refine T_op zk_128_14 rfl (X_si (v := -300) (by decide)) (pc' := 17) rfl ?_
    refine T_icmp_lt zk_128_17 (by omega) (by omega) (pc' := 20) rfl (fun h4 => ?_) (fun h5 => ?_)
    ·
      refine T_ld zk_128_27 rfl rfl rfl (pc' := 28) rfl ?_
      refine T_op zk_128_28 rfl (X_bi (v := -6) (by decide)) (pc' := 30) rfl ?_
      refine T_calli (K := fun y6 σ' => (y6 = (-6)) ∧ (fun σ' => IF (MK 25 50 645 646) σ σ' ∧ (∀ j, 25 ≤ j → j < 50 → σ' 36 0 0 j = 0) ∧ True) σ') (r := []) zk_128_30 rfl rfl rfl rfl rfl rfl (Or.inr ⟨_, _, _, _, rfl, vd_35, rfl⟩) (fun σ' h => (m_123 ((-6)) (by omega) σ' h.1.1 ).le (Nat.le_of_ble_eq_true rfl) (fun v σ2 ⟨y, h1, h2, h3, h4⟩ => ⟨y, h1, h2, h.1.tr h3 (fun t i k j h => by unfold MT at h; unfold MK; omega), fun j a b => (h3.2 _ _ _ _ (by unfold MT; omega)).trans (h.2.1 j a b), trivial⟩)) (pc' := 33) rfl (fun y6 => ?_)
      refine G_ex (fun hy6 => ?_)
      obtain rfl : y6 = (-6) := by omega
      exact T_iret zk_128_33 rfl (fun σ' h => ⟨_, rfl, (by omega), h.1, trivial⟩)
    ·
      refine T_ld zk_128_20 rfl rfl rfl (pc' := 21) rfl ?_
      refine T_op zk_128_21 rfl (X_si (v := 300) (by decide)) (pc' := 24) rfl ?_
      refine T_icmp_le zk_128_24 (by omega) (by omega) (pc' := 27) rfl (fun h7 => ?_) (fun h8 => ?_)
      ·
        refine T_ld zk_128_34 rfl rfl rfl (pc' := 35) rfl ?_
        refine T_getR (t' := 36) (i' := 0) (k' := 0) zk_128_35 rfl rfl rfl vd_35 (pc' := 38) rfl ?_
        refine T_op zk_128_38 rfl (X_bi (v := 25) (by decide)) (pc' := 40) rfl ?_
        refine T_ld zk_128_40 rfl rfl rfl (pc' := 41) rfl ?_
        refine T_op zk_128_41 rfl X_add (pc' := 42) rfl ?_
        refine G_ialdX (w := 0) (ln := 646) zk_128_42 rfl rfl (vd_36 (by omega)) (by omega) (by omega) (by omega) (fun σ' h => h.2.1 _ (by omega) (by omega)) (pc' := 43) rfl ?_
        refine T_st (L' := [(0, av 35 0 0), (1, iv p0), (2, iv p1), (3, iv 0)]) zk_128_43 (nL := 4) rfl rfl rfl rfl rfl (pc' := 44) rfl ?_
        refine T_ld zk_128_44 rfl rfl rfl (pc' := 45) rfl ?_
        refine T_getR (t' := 36) (i' := 0) (k' := 0) zk_128_45 rfl rfl rfl vd_35 (pc' := 48) rfl ?_
        refine T_op zk_128_48 rfl (X_bi (v := 25) (by decide)) (pc' := 50) rfl ?_
        refine T_ld zk_128_50 rfl rfl rfl (pc' := 51) rfl ?_
        refine T_op zk_128_51 rfl X_add (pc' := 52) rfl ?_
        refine T_ld zk_128_52 rfl rfl rfl (pc' := 53) rfl ?_
        refine G_iast (J' := (fun σ' => IF (MK 25 50 645 646) σ σ' ∧ True)) (ln := 646) zk_128_53 rfl rfl (vd_36 (by omega)) (by omega) (by omega) (by omega) (fun σ' h => ⟨h.1.up (by simp only [rgP] <;> omega) (by unfold MK; omega), trivial⟩) (pc' := 54) rfl ?_
        refine T_ld zk_128_54 rfl rfl rfl (pc' := 55) rfl ?_
        refine T_getR (t' := 36) (i' := 0) (k' := 0) zk_128_55 rfl rfl rfl vd_35 (pc' := 58) rfl ?_
        refine T_op zk_128_58 rfl (X_si (v := 645) (by decide)) (pc' := 61) rfl ?_
        refine T_op (st' := [iv 645, av 36 0 0, iv 645, av 36 0 0]) zk_128_61 rfl rfl (pc' := 62) rfl ?_
        refine G_iald (lo := -2147483648) (hi := 2147483647) (ln := 646) zk_128_62 rfl rfl (vd_36 (by omega)) (by omega) (by omega) (by omega) (fun σ' h => h.1.1) (fun _ h => h.1) (pc' := 63) rfl (fun y9 hy9 hy9' => ?_)
        refine T_ld zk_128_63 rfl rfl rfl (pc' := 64) rfl ?_
        refine T_ld zk_128_64 rfl rfl rfl (pc' := 65) rfl ?_
        refine T_op zk_128_65 rfl X_sub (pc' := 66) rfl ?_
        refine G_unk zk_128_66 rfl (pc' := 67) rfl (fun y10 hy10 hy10' => ?_)
        refine G_iast (J' := (fun σ' => IF (MK 25 50 645 646) σ σ' ∧ True)) (ln := 646) zk_128_67 rfl rfl (vd_36 (by omega)) (by omega) (by omega) (by omega) (fun σ' h => ⟨h.1.up (by simp only [rgP] <;> omega) (by unfold MK; omega), trivial⟩) (pc' := 68) rfl ?_
        refine T_ld zk_128_68 rfl rfl rfl (pc' := 69) rfl ?_
        exact T_iret zk_128_69 rfl (fun σ' h => ⟨_, rfl, (by omega), h.1, trivial⟩)
      ·
        refine T_ld zk_128_27 rfl rfl rfl (pc' := 28) rfl ?_
        refine T_op zk_128_28 rfl (X_bi (v := -6) (by decide)) (pc' := 30) rfl ?_
        refine T_calli (K := fun y11 σ' => (y11 = (-6)) ∧ (fun σ' => IF (MK 25 50 645 646) σ σ' ∧ (∀ j, 25 ≤ j → j < 50 → σ' 36 0 0 j = 0) ∧ True) σ') (r := []) zk_128_30 rfl rfl rfl rfl rfl rfl (Or.inr ⟨_, _, _, _, rfl, vd_35, rfl⟩) (fun σ' h => (m_123 ((-6)) (by omega) σ' h.1.1 ).le (Nat.le_of_ble_eq_true rfl) (fun v σ2 ⟨y, h1, h2, h3, h4⟩ => ⟨y, h1, h2, h.1.tr h3 (fun t i k j h => by unfold MT at h; unfold MK; omega), fun j a b => (h3.2 _ _ _ _ (by unfold MT; omega)).trans (h.2.1 j a b), trivial⟩)) (pc' := 33) rfl (fun y11 => ?_)
        refine G_ex (fun hy11 => ?_)
        obtain rfl : y11 = (-6) := by omega
        exact T_iret zk_128_33 rfl (fun σ' h => ⟨_, rfl, (by omega), h.1, trivial⟩)
  ·
    refine T_ld zk_128_7 rfl rfl rfl (pc' := 8) rfl ?_
    refine T_op zk_128_8 rfl X_ic (pc' := 9) rfl ?_
    refine T_calli (K := fun y12 σ' => (y12 = (-1)) ∧ (fun σ' => IF (MK 25 50 645 646) σ σ' ∧ (∀ j, 25 ≤ j → j < 50 → σ' 36 0 0 j = 0) ∧ True) σ') (r := []) zk_128_9 rfl rfl rfl rfl rfl rfl (Or.inr ⟨_, _, _, _, rfl, vd_35, rfl⟩) (fun σ' h => (m_123 ((-1)) (by omega) σ' h.1.1 ).le (Nat.le_of_ble_eq_true rfl) (fun v σ2 ⟨y, h1, h2, h3, h4⟩ => ⟨y, h1, h2, h.1.tr h3 (fun t i k j h => by unfold MT at h; unfold MK; omega), fun j a b => (h3.2 _ _ _ _ (by unfold MT; omega)).trans (h.2.1 j a b), trivial⟩)) (pc' := 12) rfl (fun y12 => ?_)
    refine G_ex (fun hy12 => ?_)
    obtain rfl : y12 = (-1) := by omega
    exact T_iret zk_128_12 rfl (fun σ' h => ⟨_, rfl, (by omega), h.1, trivial⟩)
/-- WModel.close -/
theorem m_close {xs : Nat × (Nat → Int32)} (p0 : Int) (p1 : Int) (p2 : Int) (h0 : -2147483648 ≤ p0 ∧ p0 ≤ 2147483647) (h1 : -2147483648 ≤ p1 ∧ p1 ≤ 2147483647) (h2 : 0 ≤ p2 ∧ p2 ≤ 1) (σ : ZS) (hI : Inv σ) (hm : ∀ t i k j, 35 ≤ t → σ t i k j = σ0 t i k j)  : CT xs 3 130 [av 35 0 0, iv p0, iv p1, iv p2] σ (fun v σ' => ∃ y, v = some (iv y) ∧ ((y = -1 ∧ (¬ (0 ≤ p0 ∧ p0 ≤ 24 ∧ 0 ≤ p1 ∧ p1 ≤ 24 ∧ (p1 = p0 + 5 ∨ p0 = p1 + 5 ∨ (p1 = p0 + 1 ∧ p0 % 5 < 4) ∨ (p0 = p1 + 1 ∧ p1 % 5 < 4))))) ∨ (y = p2 ∧ ¬ (¬ (0 ≤ p0 ∧ p0 ≤ 24 ∧ 0 ≤ p1 ∧ p1 ≤ 24 ∧ (p1 = p0 + 5 ∨ p0 = p1 + 5 ∨ (p1 = p0 + 1 ∧ p0 % 5 < 4) ∨ (p0 = p1 + 1 ∧ p1 % 5 < 4)))))) ∧ IF (MJ 100 200) σ σ' ∧ (True)) := by
  refine G_ct (J := (fun σ' => IF (MJ 100 200) σ σ' ∧ (∀ j, 100 ≤ j → j < 200 → σ' 36 0 0 j = 0) ∧ True)) (L := [(0, av 35 0 0), (1, iv p0), (2, iv p1), (3, iv p2)]) (nL := 5) rfl rfl rfl ⟨IF.rf hI, (fun j a b => ((hm _ _ _ _ (by decide)).trans (s0_z (by omega)))), trivial⟩ ?_
  refine T_ld zk_130_0 rfl rfl rfl (pc' := 1) rfl ?_
  refine T_ld zk_130_1 rfl rfl rfl (pc' := 2) rfl ?_
  refine T_calli (K := fun y1 σ' => ((y1 = -1 ∧ ¬ (0 ≤ p0 ∧ p0 ≤ 24 ∧ 0 ≤ p1 ∧ p1 ≤ 24 ∧ (p1 = p0 + 5 ∨ p0 = p1 + 5 ∨ (p1 = p0 + 1 ∧ p0 % 5 < 4) ∨ (p0 = p1 + 1 ∧ p1 % 5 < 4)))) ∨ (0 ≤ y1 ∧ y1 ≤ 49 ∧ (0 ≤ p0 ∧ p0 ≤ 24 ∧ 0 ≤ p1 ∧ p1 ≤ 24 ∧ (p1 = p0 + 5 ∨ p0 = p1 + 5 ∨ (p1 = p0 + 1 ∧ p0 % 5 < 4) ∨ (p0 = p1 + 1 ∧ p1 % 5 < 4))))) ∧ (fun σ' => IF (MJ 100 200) σ σ' ∧ (∀ j, 100 ≤ j → j < 200 → σ' 36 0 0 j = 0) ∧ True) σ') (r := []) zk_130_2 rfl rfl rfl rfl rfl rfl (Or.inl (Or.inl rfl)) (fun σ' h => (m_126 p0 p1 (by omega) (by omega) σ' h.1.1 ).le (Nat.le_of_ble_eq_true rfl) (fun v σ2 ⟨y, h1, h2, h3, h4⟩ => ⟨y, h1, h2, h.1.tr h3 MN_sub, fun j a b => (h3.2 _ _ _ _ (fun q => q)).trans (h.2.1 j a b), trivial⟩)) (pc' := 5) rfl (fun y1 => ?_)
  refine G_ex (fun hy1 => ?_)
  refine T_st (L' := [(0, av 35 0 0), (1, iv p0), (2, iv p1), (3, iv p2), (4, iv y1)]) zk_130_5 (nL := 5) rfl rfl rfl rfl rfl (pc' := 7) rfl ?_
  refine T_ld zk_130_7 rfl rfl rfl (pc' := 9) rfl ?_
  refine T_op zk_130_9 rfl X_ic (pc' := 10) rfl ?_
  refine T_icmp_ne zk_130_10 (by omega) (by omega) (pc' := 13) rfl (fun h2 => ?_) (fun h3 => ?_)
  ·
    refine T_ld zk_130_21 rfl rfl rfl (pc' := 22) rfl ?_
    refine T_op zk_130_22 rfl (X_bi (v := 100) (by decide)) (pc' := 24) rfl ?_
    refine T_ld zk_130_24 rfl rfl rfl (pc' := 26) rfl ?_
    refine T_op zk_130_26 rfl X_add (pc' := 27) rfl ?_
    refine T_ld zk_130_27 rfl rfl rfl (pc' := 28) rfl ?_
    refine T_calli (K := fun y4 σ' => (y4 = p2) ∧ (fun σ' => IF (MJ 100 200) σ σ' ∧ True) σ') (r := []) zk_130_28 rfl rfl rfl rfl rfl rfl (Or.inr ⟨_, _, _, _, rfl, vd_35, rfl⟩) (fun σ' h => (m_129 (100 + y1) p2 (by omega) (by omega) σ' h.1.1 (fun j a b => h.2.1 j (by omega) (by omega))).le (Nat.le_of_ble_eq_true rfl) (fun v σ2 ⟨y, h1, h2, h3, h4⟩ => ⟨y, h1, h2, h.1.tr h3 (fun _ _ _ _ h => h), trivial⟩)) (pc' := 31) rfl (fun y4 => ?_)
    refine G_ex (fun hy4 => ?_)
    exact T_iret zk_130_31 rfl (fun σ' h => ⟨_, rfl, (by omega), h.1, trivial⟩)
  ·
    refine T_ld zk_130_13 rfl rfl rfl (pc' := 14) rfl ?_
    refine T_op zk_130_14 rfl X_ic (pc' := 15) rfl ?_
    refine T_calli (K := fun y5 σ' => (y5 = (-1)) ∧ (fun σ' => IF (MJ 100 200) σ σ' ∧ (∀ j, 100 ≤ j → j < 200 → σ' 36 0 0 j = 0) ∧ True) σ') (r := []) zk_130_15 rfl rfl rfl rfl rfl rfl (Or.inr ⟨_, _, _, _, rfl, vd_35, rfl⟩) (fun σ' h => (m_123 ((-1)) (by omega) σ' h.1.1 ).le (Nat.le_of_ble_eq_true rfl) (fun v σ2 ⟨y, h1, h2, h3, h4⟩ => ⟨y, h1, h2, h.1.tr h3 (fun t i k j h => by unfold MT at h; unfold MJ; omega), fun j a b => (h3.2 _ _ _ _ (by unfold MT; omega)).trans (h.2.1 j a b), trivial⟩)) (pc' := 18) rfl (fun y5 => ?_)
    refine G_ex (fun hy5 => ?_)
    obtain rfl : y5 = (-1) := by omega
    refine T_goto zk_130_18 ?_
    exact T_iret zk_130_31 rfl (fun σ' h => ⟨_, rfl, (by omega), h.1, trivial⟩)
/-- WModel.narrow -/
theorem m_narrow {xs : Nat × (Nat → Int32)} (p0 : Int) (p1 : Int) (p2 : Int) (h0 : -2147483648 ≤ p0 ∧ p0 ≤ 2147483647) (h1 : -2147483648 ≤ p1 ∧ p1 ≤ 2147483647) (h2 : 0 ≤ p2 ∧ p2 ≤ 1) (σ : ZS) (hI : Inv σ) (hm : ∀ t i k j, 35 ≤ t → σ t i k j = σ0 t i k j)  : CT xs 3 131 [av 35 0 0, iv p0, iv p1, iv p2] σ (fun v σ' => ∃ y, v = some (iv y) ∧ ((y = -1 ∧ (¬ (0 ≤ p0 ∧ p0 ≤ 24 ∧ 0 ≤ p1 ∧ p1 ≤ 24 ∧ (p1 = p0 + 5 ∨ p0 = p1 + 5 ∨ (p1 = p0 + 1 ∧ p0 % 5 < 4) ∨ (p0 = p1 + 1 ∧ p1 % 5 < 4))))) ∨ (y = p2 ∧ ¬ (¬ (0 ≤ p0 ∧ p0 ≤ 24 ∧ 0 ≤ p1 ∧ p1 ≤ 24 ∧ (p1 = p0 + 5 ∨ p0 = p1 + 5 ∨ (p1 = p0 + 1 ∧ p0 % 5 < 4) ∨ (p0 = p1 + 1 ∧ p1 % 5 < 4)))))) ∧ IF (MJ 100 200) σ σ' ∧ (True)) := by
  refine G_ct (J := (fun σ' => IF (MJ 100 200) σ σ' ∧ (∀ j, 100 ≤ j → j < 200 → σ' 36 0 0 j = 0) ∧ True)) (L := [(0, av 35 0 0), (1, iv p0), (2, iv p1), (3, iv p2)]) (nL := 5) rfl rfl rfl ⟨IF.rf hI, (fun j a b => ((hm _ _ _ _ (by decide)).trans (s0_z (by omega)))), trivial⟩ ?_
  refine T_ld zk_131_0 rfl rfl rfl (pc' := 1) rfl ?_
  refine T_ld zk_131_1 rfl rfl rfl (pc' := 2) rfl ?_
  refine T_calli (K := fun y1 σ' => ((y1 = -1 ∧ ¬ (0 ≤ p0 ∧ p0 ≤ 24 ∧ 0 ≤ p1 ∧ p1 ≤ 24 ∧ (p1 = p0 + 5 ∨ p0 = p1 + 5 ∨ (p1 = p0 + 1 ∧ p0 % 5 < 4) ∨ (p0 = p1 + 1 ∧ p1 % 5 < 4)))) ∨ (0 ≤ y1 ∧ y1 ≤ 49 ∧ (0 ≤ p0 ∧ p0 ≤ 24 ∧ 0 ≤ p1 ∧ p1 ≤ 24 ∧ (p1 = p0 + 5 ∨ p0 = p1 + 5 ∨ (p1 = p0 + 1 ∧ p0 % 5 < 4) ∨ (p0 = p1 + 1 ∧ p1 % 5 < 4))))) ∧ (fun σ' => IF (MJ 100 200) σ σ' ∧ (∀ j, 100 ≤ j → j < 200 → σ' 36 0 0 j = 0) ∧ True) σ') (r := []) zk_131_2 rfl rfl rfl rfl rfl rfl (Or.inl (Or.inl rfl)) (fun σ' h => (m_126 p0 p1 (by omega) (by omega) σ' h.1.1 ).le (Nat.le_of_ble_eq_true rfl) (fun v σ2 ⟨y, h1, h2, h3, h4⟩ => ⟨y, h1, h2, h.1.tr h3 MN_sub, fun j a b => (h3.2 _ _ _ _ (fun q => q)).trans (h.2.1 j a b), trivial⟩)) (pc' := 5) rfl (fun y1 => ?_)
  refine G_ex (fun hy1 => ?_)
  refine T_st (L' := [(0, av 35 0 0), (1, iv p0), (2, iv p1), (3, iv p2), (4, iv y1)]) zk_131_5 (nL := 5) rfl rfl rfl rfl rfl (pc' := 7) rfl ?_
  refine T_ld zk_131_7 rfl rfl rfl (pc' := 9) rfl ?_
  refine T_op zk_131_9 rfl X_ic (pc' := 10) rfl ?_
  refine T_icmp_ne zk_131_10 (by omega) (by omega) (pc' := 13) rfl (fun h2 => ?_) (fun h3 => ?_)
  ·
    refine T_ld zk_131_21 rfl rfl rfl (pc' := 22) rfl ?_
    refine T_op zk_131_22 rfl (X_si (v := 150) (by decide)) (pc' := 25) rfl ?_
    refine T_ld zk_131_25 rfl rfl rfl (pc' := 27) rfl ?_
    refine T_op zk_131_27 rfl X_add (pc' := 28) rfl ?_
    refine T_ld zk_131_28 rfl rfl rfl (pc' := 29) rfl ?_
    refine T_calli (K := fun y4 σ' => (y4 = p2) ∧ (fun σ' => IF (MJ 100 200) σ σ' ∧ True) σ') (r := []) zk_131_29 rfl rfl rfl rfl rfl rfl (Or.inr ⟨_, _, _, _, rfl, vd_35, rfl⟩) (fun σ' h => (m_129 (150 + y1) p2 (by omega) (by omega) σ' h.1.1 (fun j a b => h.2.1 j (by omega) (by omega))).le (Nat.le_of_ble_eq_true rfl) (fun v σ2 ⟨y, h1, h2, h3, h4⟩ => ⟨y, h1, h2, h.1.tr h3 (fun _ _ _ _ h => h), trivial⟩)) (pc' := 32) rfl (fun y4 => ?_)
    refine G_ex (fun hy4 => ?_)
    exact T_iret zk_131_32 rfl (fun σ' h => ⟨_, rfl, (by omega), h.1, trivial⟩)
  ·
    refine T_ld zk_131_13 rfl rfl rfl (pc' := 14) rfl ?_
    refine T_op zk_131_14 rfl X_ic (pc' := 15) rfl ?_
    refine T_calli (K := fun y5 σ' => (y5 = (-1)) ∧ (fun σ' => IF (MJ 100 200) σ σ' ∧ (∀ j, 100 ≤ j → j < 200 → σ' 36 0 0 j = 0) ∧ True) σ') (r := []) zk_131_15 rfl rfl rfl rfl rfl rfl (Or.inr ⟨_, _, _, _, rfl, vd_35, rfl⟩) (fun σ' h => (m_123 ((-1)) (by omega) σ' h.1.1 ).le (Nat.le_of_ble_eq_true rfl) (fun v σ2 ⟨y, h1, h2, h3, h4⟩ => ⟨y, h1, h2, h.1.tr h3 (fun t i k j h => by unfold MT at h; unfold MJ; omega), fun j a b => (h3.2 _ _ _ _ (by unfold MT; omega)).trans (h.2.1 j a b), trivial⟩)) (pc' := 18) rfl (fun y5 => ?_)
    refine G_ex (fun hy5 => ?_)
    obtain rfl : y5 = (-1) := by omega
    refine T_goto zk_131_18 ?_
    exact T_iret zk_131_32 rfl (fun σ' h => ⟨_, rfl, (by omega), h.1, trivial⟩)
/-- WModel.bridge -/
theorem m_bridge {xs : Nat × (Nat → Int32)} (p0 : Int) (p1 : Int) (p2 : Int) (h0 : -2147483648 ≤ p0 ∧ p0 ≤ 2147483647) (h1 : -2147483648 ≤ p1 ∧ p1 ≤ 2147483647) (h2 : -2147483648 ≤ p2 ∧ p2 ≤ 2147483647) (σ : ZS) (hI : Inv σ) (hm : ∀ t i k j, 35 ≤ t → σ t i k j = σ0 t i k j)  : CT xs 3 132 [av 35 0 0, iv p0, iv p1, iv p2] σ (fun v σ' => ∃ y, v = some (iv y) ∧ ((y = -1 ∧ (¬ (0 ≤ p0 ∧ p0 ≤ 24 ∧ 0 ≤ p1 ∧ p1 ≤ 24 ∧ (p1 = p0 + 5 ∨ p0 = p1 + 5 ∨ (p1 = p0 + 1 ∧ p0 % 5 < 4) ∨ (p0 = p1 + 1 ∧ p1 % 5 < 4))))) ∨ (y = -6 ∧ ¬ (¬ (0 ≤ p0 ∧ p0 ≤ 24 ∧ 0 ≤ p1 ∧ p1 ≤ 24 ∧ (p1 = p0 + 5 ∨ p0 = p1 + 5 ∨ (p1 = p0 + 1 ∧ p0 % 5 < 4) ∨ (p0 = p1 + 1 ∧ p1 % 5 < 4)))) ∧ (¬ (-1 ≤ p2 ∧ p2 ≤ 99))) ∨ (y = -1 ∧ ¬ (¬ (0 ≤ p0 ∧ p0 ≤ 24 ∧ 0 ≤ p1 ∧ p1 ≤ 24 ∧ (p1 = p0 + 5 ∨ p0 = p1 + 5 ∨ (p1 = p0 + 1 ∧ p0 % 5 < 4) ∨ (p0 = p1 + 1 ∧ p1 % 5 < 4)))) ∧ ¬ (¬ (-1 ≤ p2 ∧ p2 ≤ 99)))) ∧ IF (MJ 200 250) σ σ' ∧ (True)) := by
  refine G_ct (J := (fun σ' => IF (MJ 200 250) σ σ' ∧ (∀ j, 200 ≤ j → j < 250 → σ' 36 0 0 j = (-1)) ∧ True)) (L := [(0, av 35 0 0), (1, iv p0), (2, iv p1), (3, iv p2)]) (nL := 6) rfl rfl rfl ⟨IF.rf hI, (fun j a b => ((hm _ _ _ _ (by decide)).trans (s0_c (by omega)))), trivial⟩ ?_
  refine T_ld zk_132_0 rfl rfl rfl (pc' := 1) rfl ?_
  refine T_ld zk_132_1 rfl rfl rfl (pc' := 2) rfl ?_
  refine T_calli (K := fun y1 σ' => ((y1 = -1 ∧ ¬ (0 ≤ p0 ∧ p0 ≤ 24 ∧ 0 ≤ p1 ∧ p1 ≤ 24 ∧ (p1 = p0 + 5 ∨ p0 = p1 + 5 ∨ (p1 = p0 + 1 ∧ p0 % 5 < 4) ∨ (p0 = p1 + 1 ∧ p1 % 5 < 4)))) ∨ (0 ≤ y1 ∧ y1 ≤ 49 ∧ (0 ≤ p0 ∧ p0 ≤ 24 ∧ 0 ≤ p1 ∧ p1 ≤ 24 ∧ (p1 = p0 + 5 ∨ p0 = p1 + 5 ∨ (p1 = p0 + 1 ∧ p0 % 5 < 4) ∨ (p0 = p1 + 1 ∧ p1 % 5 < 4))))) ∧ (fun σ' => IF (MJ 200 250) σ σ' ∧ (∀ j, 200 ≤ j → j < 250 → σ' 36 0 0 j = (-1)) ∧ True) σ') (r := []) zk_132_2 rfl rfl rfl rfl rfl rfl (Or.inl (Or.inl rfl)) (fun σ' h => (m_126 p0 p1 (by omega) (by omega) σ' h.1.1 ).le (Nat.le_of_ble_eq_true rfl) (fun v σ2 ⟨y, h1, h2, h3, h4⟩ => ⟨y, h1, h2, h.1.tr h3 MN_sub, fun j a b => (h3.2 _ _ _ _ (fun q => q)).trans (h.2.1 j a b), trivial⟩)) (pc' := 5) rfl (fun y1 => ?_)
  refine G_ex (fun hy1 => ?_)
  refine T_st (L' := [(0, av 35 0 0), (1, iv p0), (2, iv p1), (3, iv p2), (4, iv y1)]) zk_132_5 (nL := 6) rfl rfl rfl rfl rfl (pc' := 7) rfl ?_
  refine T_ld zk_132_7 rfl rfl rfl (pc' := 9) rfl ?_
  refine T_op zk_132_9 rfl X_ic (pc' := 10) rfl ?_
  refine T_icmp_ne zk_132_10 (by omega) (by omega) (pc' := 13) rfl (fun h2 => ?_) (fun h3 => ?_)
  ·
    refine T_ld zk_132_19 rfl rfl rfl (pc' := 20) rfl ?_
    refine T_op zk_132_20 rfl X_ic (pc' := 21) rfl ?_
    refine T_icmp_lt zk_132_21 (by omega) (by omega) (pc' := 24) rfl (fun h4 => ?_) (fun h5 => ?_)
    ·
      refine T_ld zk_132_30 rfl rfl rfl (pc' := 31) rfl ?_
      refine T_op zk_132_31 rfl (X_bi (v := -6) (by decide)) (pc' := 33) rfl ?_
      refine T_calli (K := fun y6 σ' => (y6 = (-6)) ∧ (fun σ' => IF (MJ 200 250) σ σ' ∧ (∀ j, 200 ≤ j → j < 250 → σ' 36 0 0 j = (-1)) ∧ True) σ') (r := []) zk_132_33 rfl rfl rfl rfl rfl rfl (Or.inr ⟨_, _, _, _, rfl, vd_35, rfl⟩) (fun σ' h => (m_123 ((-6)) (by omega) σ' h.1.1 ).le (Nat.le_of_ble_eq_true rfl) (fun v σ2 ⟨y, h1, h2, h3, h4⟩ => ⟨y, h1, h2, h.1.tr h3 (fun t i k j h => by unfold MT at h; unfold MJ; omega), fun j a b => (h3.2 _ _ _ _ (by unfold MT; omega)).trans (h.2.1 j a b), trivial⟩)) (pc' := 36) rfl (fun y6 => ?_)
      refine G_ex (fun hy6 => ?_)
      obtain rfl : y6 = (-6) := by omega
      exact T_iret zk_132_36 rfl (fun σ' h => ⟨_, rfl, (by omega), h.1, trivial⟩)
    ·
      refine T_ld zk_132_24 rfl rfl rfl (pc' := 25) rfl ?_
      refine T_op zk_132_25 rfl (X_bi (v := 99) (by decide)) (pc' := 27) rfl ?_
      refine T_icmp_le zk_132_27 (by omega) (by omega) (pc' := 30) rfl (fun h7 => ?_) (fun h8 => ?_)
      ·
        refine T_ld zk_132_37 rfl rfl rfl (pc' := 38) rfl ?_
        refine T_getR (t' := 36) (i' := 0) (k' := 0) zk_132_38 rfl rfl rfl vd_35 (pc' := 41) rfl ?_
        refine T_op zk_132_41 rfl (X_si (v := 200) (by decide)) (pc' := 44) rfl ?_
        refine T_ld zk_132_44 rfl rfl rfl (pc' := 46) rfl ?_
        refine T_op zk_132_46 rfl X_add (pc' := 47) rfl ?_
        refine G_ialdX (w := (-1)) (ln := 646) zk_132_47 rfl rfl (vd_36 (by omega)) (by omega) (by omega) (by omega) (fun σ' h => h.2.1 _ (by omega) (by omega)) (pc' := 48) rfl ?_
        refine T_st (L' := [(0, av 35 0 0), (1, iv p0), (2, iv p1), (3, iv p2), (4, iv y1), (5, iv (-1))]) zk_132_48 (nL := 6) rfl rfl rfl rfl rfl (pc' := 50) rfl ?_
        refine T_ld zk_132_50 rfl rfl rfl (pc' := 51) rfl ?_
        refine T_getR (t' := 36) (i' := 0) (k' := 0) zk_132_51 rfl rfl rfl vd_35 (pc' := 54) rfl ?_
        refine T_op zk_132_54 rfl (X_si (v := 200) (by decide)) (pc' := 57) rfl ?_
        refine T_ld zk_132_57 rfl rfl rfl (pc' := 59) rfl ?_
        refine T_op zk_132_59 rfl X_add (pc' := 60) rfl ?_
        refine T_ld zk_132_60 rfl rfl rfl (pc' := 61) rfl ?_
        refine G_iast (J' := (fun σ' => IF (MJ 200 250) σ σ' ∧ True)) (ln := 646) zk_132_61 rfl rfl (vd_36 (by omega)) (by omega) (by omega) (by omega) (fun σ' h => ⟨h.1.up (by simp only [rgP] <;> omega) (by unfold MJ; omega), trivial⟩) (pc' := 62) rfl ?_
        refine T_ld zk_132_62 rfl rfl rfl (pc' := 64) rfl ?_
        exact T_iret zk_132_64 rfl (fun σ' h => ⟨_, rfl, (by omega), h.1, trivial⟩)
      ·
        refine T_ld zk_132_30 rfl rfl rfl (pc' := 31) rfl ?_
        refine T_op zk_132_31 rfl (X_bi (v := -6) (by decide)) (pc' := 33) rfl ?_
        refine T_calli (K := fun y9 σ' => (y9 = (-6)) ∧ (fun σ' => IF (MJ 200 250) σ σ' ∧ (∀ j, 200 ≤ j → j < 250 → σ' 36 0 0 j = (-1)) ∧ True) σ') (r := []) zk_132_33 rfl rfl rfl rfl rfl rfl (Or.inr ⟨_, _, _, _, rfl, vd_35, rfl⟩) (fun σ' h => (m_123 ((-6)) (by omega) σ' h.1.1 ).le (Nat.le_of_ble_eq_true rfl) (fun v σ2 ⟨y, h1, h2, h3, h4⟩ => ⟨y, h1, h2, h.1.tr h3 (fun t i k j h => by unfold MT at h; unfold MJ; omega), fun j a b => (h3.2 _ _ _ _ (by unfold MT; omega)).trans (h.2.1 j a b), trivial⟩)) (pc' := 36) rfl (fun y9 => ?_)
        refine G_ex (fun hy9 => ?_)
        obtain rfl : y9 = (-6) := by omega
        exact T_iret zk_132_36 rfl (fun σ' h => ⟨_, rfl, (by omega), h.1, trivial⟩)
  ·
    refine T_ld zk_132_13 rfl rfl rfl (pc' := 14) rfl ?_
    refine T_op zk_132_14 rfl X_ic (pc' := 15) rfl ?_
    refine T_calli (K := fun y10 σ' => (y10 = (-1)) ∧ (fun σ' => IF (MJ 200 250) σ σ' ∧ (∀ j, 200 ≤ j → j < 250 → σ' 36 0 0 j = (-1)) ∧ True) σ') (r := []) zk_132_15 rfl rfl rfl rfl rfl rfl (Or.inr ⟨_, _, _, _, rfl, vd_35, rfl⟩) (fun σ' h => (m_123 ((-1)) (by omega) σ' h.1.1 ).le (Nat.le_of_ble_eq_true rfl) (fun v σ2 ⟨y, h1, h2, h3, h4⟩ => ⟨y, h1, h2, h.1.tr h3 (fun t i k j h => by unfold MT at h; unfold MJ; omega), fun j a b => (h3.2 _ _ _ _ (by unfold MT; omega)).trans (h.2.1 j a b), trivial⟩)) (pc' := 18) rfl (fun y10 => ?_)
    refine G_ex (fun hy10 => ?_)
    obtain rfl : y10 = (-1) := by omega
    exact T_iret zk_132_18 rfl (fun σ' h => ⟨_, rfl, (by omega), h.1, trivial⟩)
/-- WModel.gate -/
theorem m_gate {xs : Nat × (Nat → Int32)} (p0 : Int) (p1 : Int) (h0 : -2147483648 ≤ p0 ∧ p0 ≤ 2147483647) (h1 : 0 ≤ p1 ∧ p1 ≤ 1) (σ : ZS) (hI : Inv σ) (hm : ∀ t i k j, 35 ≤ t → σ t i k j = σ0 t i k j)  : CT xs 2 134 [av 35 0 0, iv p0, iv p1] σ (fun v σ' => ∃ y, v = some (iv y) ∧ (y = -1) ∧ IF (MT 49 49 49 49) σ σ' ∧ (True)) := by
  refine G_ct (J := (fun σ' => IF (MT 49 49 49 49) σ σ' ∧ True)) (L := [(0, av 35 0 0), (1, iv p0), (2, iv p1)]) (nL := 3) rfl rfl rfl ⟨IF.rf hI, trivial⟩ ?_
  refine T_ld zk_134_0 rfl rfl rfl (pc' := 1) rfl ?_
  refine T_if_lt zk_134_1 (by omega) (pc' := 4) rfl (fun h1 => ?_) (fun h2 => ?_)
  ·
    refine T_ld zk_134_16 rfl rfl rfl (pc' := 17) rfl ?_
    refine T_op zk_134_17 rfl X_ic (pc' := 18) rfl ?_
    refine T_calli (K := fun y3 σ' => (y3 = (-1)) ∧ (fun σ' => IF (MT 49 49 49 49) σ σ' ∧ True) σ') (r := []) zk_134_18 rfl rfl rfl rfl rfl rfl (Or.inr ⟨_, _, _, _, rfl, vd_35, rfl⟩) (fun σ' h => (m_123 ((-1)) (by omega) σ' h.1.1 ).le (Nat.le_of_ble_eq_true rfl) (fun v σ2 ⟨y, h1, h2, h3, h4⟩ => ⟨y, h1, h2, h.1.tr h3 (fun _ _ _ _ h => h), trivial⟩)) (pc' := 21) rfl (fun y3 => ?_)
    refine G_ex (fun hy3 => ?_)
    obtain rfl : y3 = (-1) := by omega
    refine T_goto zk_134_21 ?_
    exact T_iret zk_134_34 rfl (fun σ' h => ⟨_, rfl, (by omega), h.1, trivial⟩)
  ·
    refine T_ld zk_134_4 rfl rfl rfl (pc' := 5) rfl ?_
    refine T_ld zk_134_5 rfl rfl rfl (pc' := 6) rfl ?_
    refine T_getR (t' := 36) (i' := 0) (k' := 0) zk_134_6 rfl rfl rfl vd_35 (pc' := 9) rfl ?_
    refine T_op zk_134_9 rfl (X_si (v := 633) (by decide)) (pc' := 12) rfl ?_
    refine G_ialdX (w := 0) (ln := 646) zk_134_12 rfl rfl (vd_36 (by omega)) (by omega) (by omega) (by omega) (fun σ' h => (h.1.2 _ _ _ _ (by unfold MT; omega)).trans ((hm _ _ _ _ (by decide)).trans (s0_z (by omega)))) (pc' := 13) rfl ?_
    refine T_icmp_lt zk_134_13 (by omega) (by omega) (pc' := 16) rfl (fun h4 => ?_) (fun h5 => ?_)
    · exfalso; omega
    ·
      refine T_ld zk_134_16 rfl rfl rfl (pc' := 17) rfl ?_
      refine T_op zk_134_17 rfl X_ic (pc' := 18) rfl ?_
      refine T_calli (K := fun y6 σ' => (y6 = (-1)) ∧ (fun σ' => IF (MT 49 49 49 49) σ σ' ∧ True) σ') (r := []) zk_134_18 rfl rfl rfl rfl rfl rfl (Or.inr ⟨_, _, _, _, rfl, vd_35, rfl⟩) (fun σ' h => (m_123 ((-1)) (by omega) σ' h.1.1 ).le (Nat.le_of_ble_eq_true rfl) (fun v σ2 ⟨y, h1, h2, h3, h4⟩ => ⟨y, h1, h2, h.1.tr h3 (fun _ _ _ _ h => h), trivial⟩)) (pc' := 21) rfl (fun y6 => ?_)
      refine G_ex (fun hy6 => ?_)
      obtain rfl : y6 = (-1) := by omega
      refine T_goto zk_134_21 ?_
      exact T_iret zk_134_34 rfl (fun σ' h => ⟨_, rfl, (by omega), h.1, trivial⟩)
/-- WModel.row -/
theorem m_row {xs : Nat × (Nat → Int32)} (p0 : Int) (p1 : Int) (p2 : Int) (h0 : -2147483648 ≤ p0 ∧ p0 ≤ 2147483647) (h1 : -2147483648 ≤ p1 ∧ p1 ≤ 2147483647) (h2 : -2147483648 ≤ p2 ∧ p2 ≤ 2147483647) (σ : ZS) (hI : Inv σ) (hm : ∀ t i k j, 35 ≤ t → σ t i k j = σ0 t i k j)  : CT xs 2 135 [av 35 0 0, iv p0, iv p1, iv p2] σ (fun v σ' => ∃ y, v = some (iv y) ∧ ((y = -1 ∧ (¬ (0 ≤ p0 ∧ p0 ≤ 7))) ∨ (y = -4 ∧ ¬ (¬ (0 ≤ p0 ∧ p0 ≤ 7)) ∧ (p2 < 0)) ∨ (y = -6 ∧ ¬ (¬ (0 ≤ p0 ∧ p0 ≤ 7)) ∧ ¬ (p2 < 0) ∧ (¬ (0 ≤ p1 ∧ p1 ≤ 3))) ∨ (y = -7 ∧ ¬ (¬ (0 ≤ p0 ∧ p0 ≤ 7)) ∧ ¬ (p2 < 0) ∧ ¬ (¬ (0 ≤ p1 ∧ p1 ≤ 3)) ∧ (96 < p2)) ∨ (y = 1 ∧ ¬ (¬ (0 ≤ p0 ∧ p0 ≤ 7)) ∧ ¬ (p2 < 0) ∧ ¬ (¬ (0 ≤ p1 ∧ p1 ≤ 3)) ∧ ¬ (96 < p2))) ∧ IF MB σ σ' ∧ (True)) := by
  refine G_ct (J := (fun σ' => IF MB σ σ' ∧ True)) (L := [(0, av 35 0 0), (1, iv p0), (2, iv p1), (3, iv p2)]) (nL := 5) rfl rfl rfl ⟨IF.rf hI, trivial⟩ ?_
  refine T_ld zk_135_0 rfl rfl rfl (pc' := 1) rfl ?_
  refine T_calli (K := fun y1 σ' => ((y1 = 0 ∧ (p0 < 0 ∨ 7 < p0)) ∨ (y1 = 1 ∧ 0 ≤ p0 ∧ p0 ≤ 7)) ∧ (fun σ' => IF MB σ σ' ∧ True) σ') (r := []) zk_135_1 rfl rfl rfl rfl rfl rfl (Or.inl (Or.inl rfl)) (fun σ' h => (m_125 p0 (by omega) σ' h.1.1 ).le (Nat.le_of_ble_eq_true rfl) (fun v σ2 ⟨y, h1, h2, h3, h4⟩ => ⟨y, h1, h2, h.1.tr h3 MN_sub, trivial⟩)) (pc' := 4) rfl (fun y1 => ?_)
  refine G_ex (fun hy1 => ?_)
  refine T_if_ne zk_135_4 (by omega) (pc' := 7) rfl (fun h2 => ?_) (fun h3 => ?_)
  ·
    refine T_ld zk_135_13 rfl rfl rfl (pc' := 14) rfl ?_
    refine T_if_ge zk_135_14 (by omega) (pc' := 17) rfl (fun h4 => ?_) (fun h5 => ?_)
    ·
      refine T_ld zk_135_24 rfl rfl rfl (pc' := 25) rfl ?_
      refine T_if_lt zk_135_25 (by omega) (pc' := 28) rfl (fun h6 => ?_) (fun h7 => ?_)
      ·
        refine T_ld zk_135_33 rfl rfl rfl (pc' := 34) rfl ?_
        refine T_op zk_135_34 rfl (X_bi (v := -6) (by decide)) (pc' := 36) rfl ?_
        refine T_calli (K := fun y8 σ' => (y8 = (-6)) ∧ (fun σ' => IF MB σ σ' ∧ True) σ') (r := []) zk_135_36 rfl rfl rfl rfl rfl rfl (Or.inr ⟨_, _, _, _, rfl, vd_35, rfl⟩) (fun σ' h => (m_123 ((-6)) (by omega) σ' h.1.1 ).le (Nat.le_of_ble_eq_true rfl) (fun v σ2 ⟨y, h1, h2, h3, h4⟩ => ⟨y, h1, h2, h.1.tr h3 (fun t i k j h => by unfold MT at h; unfold MB; omega), trivial⟩)) (pc' := 39) rfl (fun y8 => ?_)
        refine G_ex (fun hy8 => ?_)
        obtain rfl : y8 = (-6) := by omega
        exact T_iret zk_135_39 rfl (fun σ' h => ⟨_, rfl, (by omega), h.1, trivial⟩)
      ·
        refine T_ld zk_135_28 rfl rfl rfl (pc' := 29) rfl ?_
        refine T_op zk_135_29 rfl X_ic (pc' := 30) rfl ?_
        refine T_icmp_le zk_135_30 (by omega) (by omega) (pc' := 33) rfl (fun h9 => ?_) (fun h10 => ?_)
        ·
          refine T_ld zk_135_40 rfl rfl rfl (pc' := 41) rfl ?_
          refine T_op zk_135_41 rfl (X_bi (v := 96) (by decide)) (pc' := 43) rfl ?_
          refine T_icmp_le zk_135_43 (by omega) (by omega) (pc' := 46) rfl (fun h11 => ?_) (fun h12 => ?_)
          ·
            refine T_ld zk_135_53 rfl rfl rfl (pc' := 54) rfl ?_
            refine T_getR (t' := 37) (i' := 0) (k' := 0) zk_135_54 rfl rfl rfl vd_35 (pc' := 57) rfl ?_
            refine T_ld zk_135_57 rfl rfl rfl (pc' := 58) rfl ?_
            refine T_op zk_135_58 rfl X_ic (pc' := 59) rfl ?_
            refine G_iast (J' := (fun σ' => IF MB σ σ' ∧ True)) (ln := 8) zk_135_59 rfl rfl vd_37 (by omega) (by omega) (by omega) (fun σ' h => ⟨h.1.up (by simp only [rgP] <;> omega) (by unfold MB; omega), trivial⟩) (pc' := 60) rfl ?_
            refine T_ld zk_135_60 rfl rfl rfl (pc' := 61) rfl ?_
            refine T_getR (t' := 38) (i' := 0) (k' := 0) zk_135_61 rfl rfl rfl vd_35 (pc' := 64) rfl ?_
            refine T_ld zk_135_64 rfl rfl rfl (pc' := 65) rfl ?_
            refine T_ld zk_135_65 rfl rfl rfl (pc' := 66) rfl ?_
            refine G_iast (J' := (fun σ' => IF MB σ σ' ∧ True)) (ln := 8) zk_135_66 rfl rfl vd_38 (by omega) (by omega) (by omega) (fun σ' h => ⟨h.1.up (by simp only [rgP] <;> omega) (by unfold MB; omega), trivial⟩) (pc' := 67) rfl ?_
            refine T_ld zk_135_67 rfl rfl rfl (pc' := 68) rfl ?_
            refine T_getR (t' := 39) (i' := 0) (k' := 0) zk_135_68 rfl rfl rfl vd_35 (pc' := 71) rfl ?_
            refine T_ld zk_135_71 rfl rfl rfl (pc' := 72) rfl ?_
            refine T_ld zk_135_72 rfl rfl rfl (pc' := 73) rfl ?_
            refine G_iast (J' := (fun σ' => IF MB σ σ' ∧ True)) (ln := 8) zk_135_73 rfl rfl vd_39 (by omega) (by omega) (by omega) (fun σ' h => ⟨h.1.up (by simp only [rgP] <;> omega) (by unfold MB; omega), trivial⟩) (pc' := 74) rfl ?_
            refine T_op zk_135_74 rfl X_ic (pc' := 75) rfl ?_
            refine T_st (L' := [(0, av 35 0 0), (1, iv p0), (2, iv p1), (3, iv p2), (4, iv 0)]) zk_135_75 (nL := 5) rfl rfl rfl rfl rfl (pc' := 77) rfl ?_
            refine T_loop1 (fun x13 => ((96 - x13 : Int)).toNat) (fun x13 => (0 ≤ x13 ∧ x13 ≤ 96)) (fun x13 => TJ xs (fun σ' => IF MB σ σ' ∧ True) 1 135 77 [(0, av 35 0 0), (1, iv p0), (2, iv p1), (3, iv p2), (4, iv x13)] [] _) ?_ 0 (by omega)
            intro x13 hp15 ih14
            refine T_ld zk_135_77 rfl rfl rfl (pc' := 79) rfl ?_
            refine T_op zk_135_79 rfl (X_bi (v := 96) (by decide)) (pc' := 81) rfl ?_
            refine T_icmp_ge zk_135_81 (by omega) (by omega) (pc' := 84) rfl (fun h16 => ?_) (fun h17 => ?_)
            ·
              refine T_op zk_135_103 rfl X_ic (pc' := 104) rfl ?_
              exact T_iret zk_135_104 rfl (fun σ' h => ⟨_, rfl, (by omega), h.1, trivial⟩)
            ·
              refine T_ld zk_135_84 rfl rfl rfl (pc' := 85) rfl ?_
              refine T_getR (t' := 41) (i' := 0) (k' := 0) zk_135_85 rfl rfl rfl vd_35 (pc' := 88) rfl ?_
              refine T_op zk_135_88 rfl (X_bi (v := 96) (by decide)) (pc' := 90) rfl ?_
              refine T_ld zk_135_90 rfl rfl rfl (pc' := 91) rfl ?_
              refine T_op zk_135_91 rfl X_mul (pc' := 92) rfl ?_
              refine T_ld zk_135_92 rfl rfl rfl (pc' := 94) rfl ?_
              refine T_op zk_135_94 rfl X_add (pc' := 95) rfl ?_
              refine T_op zk_135_95 rfl (X_lc (v := 0) (by decide)) (pc' := 96) rfl ?_
              refine G_last (J' := (fun σ' => IF MB σ σ' ∧ True)) (ln := 768) zk_135_96 rfl rfl vd_41 (by omega) (by omega) (by omega) (fun σ' h => ⟨h.1.up ⟨by omega, trivial⟩ (by unfold MB; omega), trivial⟩) (pc' := 97) rfl ?_
              refine T_iinc (L' := [(0, av 35 0 0), (1, iv p0), (2, iv p1), (3, iv p2), (4, iv (x13 + 1))]) zk_135_97 (nL := 5) rfl rfl rfl rfl (pc' := 100) rfl ?_
              refine T_goto zk_135_100 ?_
              exact ih14 (x13 + 1) (by omega) (by omega)
          ·
            refine T_ld zk_135_46 rfl rfl rfl (pc' := 47) rfl ?_
            refine T_op zk_135_47 rfl (X_bi (v := -7) (by decide)) (pc' := 49) rfl ?_
            refine T_calli (K := fun y18 σ' => (y18 = (-7)) ∧ (fun σ' => IF MB σ σ' ∧ True) σ') (r := []) zk_135_49 rfl rfl rfl rfl rfl rfl (Or.inr ⟨_, _, _, _, rfl, vd_35, rfl⟩) (fun σ' h => (m_123 ((-7)) (by omega) σ' h.1.1 ).le (Nat.le_of_ble_eq_true rfl) (fun v σ2 ⟨y, h1, h2, h3, h4⟩ => ⟨y, h1, h2, h.1.tr h3 (fun t i k j h => by unfold MT at h; unfold MB; omega), trivial⟩)) (pc' := 52) rfl (fun y18 => ?_)
            refine G_ex (fun hy18 => ?_)
            obtain rfl : y18 = (-7) := by omega
            exact T_iret zk_135_52 rfl (fun σ' h => ⟨_, rfl, (by omega), h.1, trivial⟩)
        ·
          refine T_ld zk_135_33 rfl rfl rfl (pc' := 34) rfl ?_
          refine T_op zk_135_34 rfl (X_bi (v := -6) (by decide)) (pc' := 36) rfl ?_
          refine T_calli (K := fun y19 σ' => (y19 = (-6)) ∧ (fun σ' => IF MB σ σ' ∧ True) σ') (r := []) zk_135_36 rfl rfl rfl rfl rfl rfl (Or.inr ⟨_, _, _, _, rfl, vd_35, rfl⟩) (fun σ' h => (m_123 ((-6)) (by omega) σ' h.1.1 ).le (Nat.le_of_ble_eq_true rfl) (fun v σ2 ⟨y, h1, h2, h3, h4⟩ => ⟨y, h1, h2, h.1.tr h3 (fun t i k j h => by unfold MT at h; unfold MB; omega), trivial⟩)) (pc' := 39) rfl (fun y19 => ?_)
          refine G_ex (fun hy19 => ?_)
          obtain rfl : y19 = (-6) := by omega
          exact T_iret zk_135_39 rfl (fun σ' h => ⟨_, rfl, (by omega), h.1, trivial⟩)
    ·
      refine T_ld zk_135_17 rfl rfl rfl (pc' := 18) rfl ?_
      refine T_op zk_135_18 rfl (X_bi (v := -4) (by decide)) (pc' := 20) rfl ?_
      refine T_calli (K := fun y20 σ' => (y20 = (-4)) ∧ (fun σ' => IF MB σ σ' ∧ True) σ') (r := []) zk_135_20 rfl rfl rfl rfl rfl rfl (Or.inr ⟨_, _, _, _, rfl, vd_35, rfl⟩) (fun σ' h => (m_123 ((-4)) (by omega) σ' h.1.1 ).le (Nat.le_of_ble_eq_true rfl) (fun v σ2 ⟨y, h1, h2, h3, h4⟩ => ⟨y, h1, h2, h.1.tr h3 (fun t i k j h => by unfold MT at h; unfold MB; omega), trivial⟩)) (pc' := 23) rfl (fun y20 => ?_)
      refine G_ex (fun hy20 => ?_)
      obtain rfl : y20 = (-4) := by omega
      exact T_iret zk_135_23 rfl (fun σ' h => ⟨_, rfl, (by omega), h.1, trivial⟩)
  ·
    refine T_ld zk_135_7 rfl rfl rfl (pc' := 8) rfl ?_
    refine T_op zk_135_8 rfl X_ic (pc' := 9) rfl ?_
    refine T_calli (K := fun y21 σ' => (y21 = (-1)) ∧ (fun σ' => IF MB σ σ' ∧ True) σ') (r := []) zk_135_9 rfl rfl rfl rfl rfl rfl (Or.inr ⟨_, _, _, _, rfl, vd_35, rfl⟩) (fun σ' h => (m_123 ((-1)) (by omega) σ' h.1.1 ).le (Nat.le_of_ble_eq_true rfl) (fun v σ2 ⟨y, h1, h2, h3, h4⟩ => ⟨y, h1, h2, h.1.tr h3 (fun t i k j h => by unfold MT at h; unfold MB; omega), trivial⟩)) (pc' := 12) rfl (fun y21 => ?_)
    refine G_ex (fun hy21 => ?_)
    obtain rfl : y21 = (-1) := by omega
    exact T_iret zk_135_12 rfl (fun σ' h => ⟨_, rfl, (by omega), h.1, trivial⟩)
/-- WModel.set -/
theorem m_set {xs : Nat × (Nat → Int32)} (p0 : Int) (p1 : Int) (p2 : Int) (h0 : -2147483648 ≤ p0 ∧ p0 ≤ 2147483647) (h1 : -2147483648 ≤ p1 ∧ p1 ≤ 2147483647) (σ : ZS) (hI : Inv σ) (hm : ∀ t i k j, 35 ≤ t → σ t i k j = σ0 t i k j)  : CT xs 2 136 [av 35 0 0, iv p0, iv p1, jv p2] σ (fun v σ' => ∃ y, v = some (iv y) ∧ ((y = -1 ∧ (¬ (0 ≤ p0 ∧ p0 ≤ 7))) ∨ (y = -3 ∧ ¬ (¬ (0 ≤ p0 ∧ p0 ≤ 7)))) ∧ IF (MT 49 49 49 49) σ σ' ∧ (True)) := by
  refine G_ct (J := (fun σ' => IF (MT 49 49 49 49) σ σ' ∧ True)) (L := [(0, av 35 0 0), (1, iv p0), (2, iv p1), (3, jv p2)]) (nL := 5) rfl rfl rfl ⟨IF.rf hI, trivial⟩ ?_
  refine T_ld zk_136_0 rfl rfl rfl (pc' := 1) rfl ?_
  refine T_calli (K := fun y1 σ' => ((y1 = 0 ∧ (p0 < 0 ∨ 7 < p0)) ∨ (y1 = 1 ∧ 0 ≤ p0 ∧ p0 ≤ 7)) ∧ (fun σ' => IF (MT 49 49 49 49) σ σ' ∧ True) σ') (r := []) zk_136_1 rfl rfl rfl rfl rfl rfl (Or.inl (Or.inl rfl)) (fun σ' h => (m_125 p0 (by omega) σ' h.1.1 ).le (Nat.le_of_ble_eq_true rfl) (fun v σ2 ⟨y, h1, h2, h3, h4⟩ => ⟨y, h1, h2, h.1.tr h3 MN_sub, trivial⟩)) (pc' := 4) rfl (fun y1 => ?_)
  refine G_ex (fun hy1 => ?_)
  refine T_if_ne zk_136_4 (by omega) (pc' := 7) rfl (fun h2 => ?_) (fun h3 => ?_)
  ·
    refine T_ld zk_136_13 rfl rfl rfl (pc' := 14) rfl ?_
    refine T_getR (t' := 37) (i' := 0) (k' := 0) zk_136_14 rfl rfl rfl vd_35 (pc' := 17) rfl ?_
    refine T_ld zk_136_17 rfl rfl rfl (pc' := 18) rfl ?_
    refine G_ialdX (w := 0) (ln := 8) zk_136_18 rfl rfl vd_37 (by omega) (by omega) (by omega) (fun σ' h => (h.1.2 _ _ _ _ (by unfold MT; omega)).trans (hm _ _ _ _ (by decide))) (pc' := 19) rfl ?_
    refine T_op zk_136_19 rfl X_ic (pc' := 20) rfl ?_
    refine T_icmp_ne zk_136_20 (by omega) (by omega) (pc' := 23) rfl (fun h4 => ?_) (fun h5 => ?_)
    ·
      refine T_ld zk_136_30 rfl rfl rfl (pc' := 31) rfl ?_
      refine T_getR (t' := 37) (i' := 0) (k' := 0) zk_136_31 rfl rfl rfl vd_35 (pc' := 34) rfl ?_
      refine T_ld zk_136_34 rfl rfl rfl (pc' := 35) rfl ?_
      refine G_ialdX (w := 0) (ln := 8) zk_136_35 rfl rfl vd_37 (by omega) (by omega) (by omega) (fun σ' h => (h.1.2 _ _ _ _ (by unfold MT; omega)).trans (hm _ _ _ _ (by decide))) (pc' := 36) rfl ?_
      refine T_if_ne zk_136_36 (by omega) (pc' := 39) rfl (fun h6 => ?_) (fun h7 => ?_)
      · exfalso; omega
      ·
        refine T_ld zk_136_39 rfl rfl rfl (pc' := 40) rfl ?_
        refine T_op zk_136_40 rfl (X_bi (v := -3) (by decide)) (pc' := 42) rfl ?_
        refine T_calli (K := fun y8 σ' => (y8 = (-3)) ∧ (fun σ' => IF (MT 49 49 49 49) σ σ' ∧ True) σ') (r := []) zk_136_42 rfl rfl rfl rfl rfl rfl (Or.inr ⟨_, _, _, _, rfl, vd_35, rfl⟩) (fun σ' h => (m_123 ((-3)) (by omega) σ' h.1.1 ).le (Nat.le_of_ble_eq_true rfl) (fun v σ2 ⟨y, h1, h2, h3, h4⟩ => ⟨y, h1, h2, h.1.tr h3 (fun _ _ _ _ h => h), trivial⟩)) (pc' := 45) rfl (fun y8 => ?_)
        refine G_ex (fun hy8 => ?_)
        obtain rfl : y8 = (-3) := by omega
        exact T_iret zk_136_45 rfl (fun σ' h => ⟨_, rfl, (by omega), h.1, trivial⟩)
    · exfalso; omega
  ·
    refine T_ld zk_136_7 rfl rfl rfl (pc' := 8) rfl ?_
    refine T_op zk_136_8 rfl X_ic (pc' := 9) rfl ?_
    refine T_calli (K := fun y9 σ' => (y9 = (-1)) ∧ (fun σ' => IF (MT 49 49 49 49) σ σ' ∧ True) σ') (r := []) zk_136_9 rfl rfl rfl rfl rfl rfl (Or.inr ⟨_, _, _, _, rfl, vd_35, rfl⟩) (fun σ' h => (m_123 ((-1)) (by omega) σ' h.1.1 ).le (Nat.le_of_ble_eq_true rfl) (fun v σ2 ⟨y, h1, h2, h3, h4⟩ => ⟨y, h1, h2, h.1.tr h3 (fun _ _ _ _ h => h), trivial⟩)) (pc' := 12) rfl (fun y9 => ?_)
    refine G_ex (fun hy9 => ?_)
    obtain rfl : y9 = (-1) := by omega
    exact T_iret zk_136_12 rfl (fun σ' h => ⟨_, rfl, (by omega), h.1, trivial⟩)
/-- WModel.copy -/
theorem m_copy {xs : Nat × (Nat → Int32)} (p0 : Int) (p1 : Int) (p2 : Int) (p3 : Int) (p4 : Int) (h0 : -2147483648 ≤ p0 ∧ p0 ≤ 2147483647) (h1 : -2147483648 ≤ p1 ∧ p1 ≤ 2147483647) (h2 : -2147483648 ≤ p2 ∧ p2 ≤ 2147483647) (h3 : -2147483648 ≤ p3 ∧ p3 ≤ 2147483647) (h4 : -2147483648 ≤ p4 ∧ p4 ≤ 2147483647) (σ : ZS) (hI : Inv σ) (hm : ∀ t i k j, 35 ≤ t → σ t i k j = σ0 t i k j)  : CT xs 2 137 [av 35 0 0, iv p0, iv p1, iv p2, iv p3, iv p4] σ (fun v σ' => ∃ y, v = some (iv y) ∧ ((y = -1 ∧ (¬ (0 ≤ p0 ∧ p0 ≤ 7) ∨ ¬ (0 ≤ p1 ∧ p1 ≤ 7))) ∨ (y = -3 ∧ ¬ (¬ (0 ≤ p0 ∧ p0 ≤ 7) ∨ ¬ (0 ≤ p1 ∧ p1 ≤ 7)))) ∧ IF (MT 49 49 49 49) σ σ' ∧ (True)) := by
  refine G_ct (J := (fun σ' => IF (MT 49 49 49 49) σ σ' ∧ True)) (L := [(0, av 35 0 0), (1, iv p0), (2, iv p1), (3, iv p2), (4, iv p3), (5, iv p4)]) (nL := 7) rfl rfl rfl ⟨IF.rf hI, trivial⟩ ?_
  refine T_ld zk_137_0 rfl rfl rfl (pc' := 1) rfl ?_
  refine T_calli (K := fun y1 σ' => ((y1 = 0 ∧ (p0 < 0 ∨ 7 < p0)) ∨ (y1 = 1 ∧ 0 ≤ p0 ∧ p0 ≤ 7)) ∧ (fun σ' => IF (MT 49 49 49 49) σ σ' ∧ True) σ') (r := []) zk_137_1 rfl rfl rfl rfl rfl rfl (Or.inl (Or.inl rfl)) (fun σ' h => (m_125 p0 (by omega) σ' h.1.1 ).le (Nat.le_of_ble_eq_true rfl) (fun v σ2 ⟨y, h1, h2, h3, h4⟩ => ⟨y, h1, h2, h.1.tr h3 MN_sub, trivial⟩)) (pc' := 4) rfl (fun y1 => ?_)
  refine G_ex (fun hy1 => ?_)
  refine T_if_eq zk_137_4 (by omega) (pc' := 7) rfl (fun h2 => ?_) (fun h3 => ?_)
  ·
    refine T_ld zk_137_14 rfl rfl rfl (pc' := 15) rfl ?_
    refine T_op zk_137_15 rfl X_ic (pc' := 16) rfl ?_
    refine T_calli (K := fun y4 σ' => (y4 = (-1)) ∧ (fun σ' => IF (MT 49 49 49 49) σ σ' ∧ True) σ') (r := []) zk_137_16 rfl rfl rfl rfl rfl rfl (Or.inr ⟨_, _, _, _, rfl, vd_35, rfl⟩) (fun σ' h => (m_123 ((-1)) (by omega) σ' h.1.1 ).le (Nat.le_of_ble_eq_true rfl) (fun v σ2 ⟨y, h1, h2, h3, h4⟩ => ⟨y, h1, h2, h.1.tr h3 (fun _ _ _ _ h => h), trivial⟩)) (pc' := 19) rfl (fun y4 => ?_)
    refine G_ex (fun hy4 => ?_)
    obtain rfl : y4 = (-1) := by omega
    exact T_iret zk_137_19 rfl (fun σ' h => ⟨_, rfl, (by omega), h.1, trivial⟩)
  ·
    refine T_ld zk_137_7 rfl rfl rfl (pc' := 8) rfl ?_
    refine T_calli (K := fun y5 σ' => ((y5 = 0 ∧ (p1 < 0 ∨ 7 < p1)) ∨ (y5 = 1 ∧ 0 ≤ p1 ∧ p1 ≤ 7)) ∧ (fun σ' => IF (MT 49 49 49 49) σ σ' ∧ True) σ') (r := []) zk_137_8 rfl rfl rfl rfl rfl rfl (Or.inl (Or.inl rfl)) (fun σ' h => (m_125 p1 (by omega) σ' h.1.1 ).le (Nat.le_of_ble_eq_true rfl) (fun v σ2 ⟨y, h1, h2, h3, h4⟩ => ⟨y, h1, h2, h.1.tr h3 MN_sub, trivial⟩)) (pc' := 11) rfl (fun y5 => ?_)
    refine G_ex (fun hy5 => ?_)
    refine T_if_ne zk_137_11 (by omega) (pc' := 14) rfl (fun h6 => ?_) (fun h7 => ?_)
    ·
      refine T_ld zk_137_20 rfl rfl rfl (pc' := 21) rfl ?_
      refine T_getR (t' := 37) (i' := 0) (k' := 0) zk_137_21 rfl rfl rfl vd_35 (pc' := 24) rfl ?_
      refine T_ld zk_137_24 rfl rfl rfl (pc' := 25) rfl ?_
      refine G_ialdX (w := 0) (ln := 8) zk_137_25 rfl rfl vd_37 (by omega) (by omega) (by omega) (fun σ' h => (h.1.2 _ _ _ _ (by unfold MT; omega)).trans (hm _ _ _ _ (by decide))) (pc' := 26) rfl ?_
      refine T_op zk_137_26 rfl X_ic (pc' := 27) rfl ?_
      refine T_icmp_eq zk_137_27 (by omega) (by omega) (pc' := 30) rfl (fun h8 => ?_) (fun h9 => ?_)
      · exfalso; omega
      ·
        refine T_ld zk_137_30 rfl rfl rfl (pc' := 31) rfl ?_
        refine T_getR (t' := 37) (i' := 0) (k' := 0) zk_137_31 rfl rfl rfl vd_35 (pc' := 34) rfl ?_
        refine T_ld zk_137_34 rfl rfl rfl (pc' := 35) rfl ?_
        refine G_ialdX (w := 0) (ln := 8) zk_137_35 rfl rfl vd_37 (by omega) (by omega) (by omega) (fun σ' h => (h.1.2 _ _ _ _ (by unfold MT; omega)).trans (hm _ _ _ _ (by decide))) (pc' := 36) rfl ?_
        refine T_op zk_137_36 rfl X_ic (pc' := 37) rfl ?_
        refine T_icmp_eq zk_137_37 (by omega) (by omega) (pc' := 40) rfl (fun h10 => ?_) (fun h11 => ?_)
        · exfalso; omega
        ·
          refine T_ld zk_137_40 rfl rfl rfl (pc' := 41) rfl ?_
          refine T_getR (t' := 37) (i' := 0) (k' := 0) zk_137_41 rfl rfl rfl vd_35 (pc' := 44) rfl ?_
          refine T_ld zk_137_44 rfl rfl rfl (pc' := 45) rfl ?_
          refine G_ialdX (w := 0) (ln := 8) zk_137_45 rfl rfl vd_37 (by omega) (by omega) (by omega) (fun σ' h => (h.1.2 _ _ _ _ (by unfold MT; omega)).trans (hm _ _ _ _ (by decide))) (pc' := 46) rfl ?_
          refine T_op zk_137_46 rfl X_ic (pc' := 47) rfl ?_
          refine T_icmp_ne zk_137_47 (by omega) (by omega) (pc' := 50) rfl (fun h12 => ?_) (fun h13 => ?_)
          ·
            refine T_ld zk_137_82 rfl rfl rfl (pc' := 83) rfl ?_
            refine T_getR (t' := 37) (i' := 0) (k' := 0) zk_137_83 rfl rfl rfl vd_35 (pc' := 86) rfl ?_
            refine T_ld zk_137_86 rfl rfl rfl (pc' := 87) rfl ?_
            refine G_ialdX (w := 0) (ln := 8) zk_137_87 rfl rfl vd_37 (by omega) (by omega) (by omega) (fun σ' h => (h.1.2 _ _ _ _ (by unfold MT; omega)).trans (hm _ _ _ _ (by decide))) (pc' := 88) rfl ?_
            refine T_if_eq zk_137_88 (by omega) (pc' := 91) rfl (fun h14 => ?_) (fun h15 => ?_)
            ·
              refine T_ld zk_137_100 rfl rfl rfl (pc' := 101) rfl ?_
              refine T_op zk_137_101 rfl (X_bi (v := -3) (by decide)) (pc' := 103) rfl ?_
              refine T_calli (K := fun y16 σ' => (y16 = (-3)) ∧ (fun σ' => IF (MT 49 49 49 49) σ σ' ∧ True) σ') (r := []) zk_137_103 rfl rfl rfl rfl rfl rfl (Or.inr ⟨_, _, _, _, rfl, vd_35, rfl⟩) (fun σ' h => (m_123 ((-3)) (by omega) σ' h.1.1 ).le (Nat.le_of_ble_eq_true rfl) (fun v σ2 ⟨y, h1, h2, h3, h4⟩ => ⟨y, h1, h2, h.1.tr h3 (fun _ _ _ _ h => h), trivial⟩)) (pc' := 106) rfl (fun y16 => ?_)
              refine G_ex (fun hy16 => ?_)
              obtain rfl : y16 = (-3) := by omega
              exact T_iret zk_137_106 rfl (fun σ' h => ⟨_, rfl, (by omega), h.1, trivial⟩)
            · exfalso; omega
          · exfalso; omega
    ·
      refine T_ld zk_137_14 rfl rfl rfl (pc' := 15) rfl ?_
      refine T_op zk_137_15 rfl X_ic (pc' := 16) rfl ?_
      refine T_calli (K := fun y17 σ' => (y17 = (-1)) ∧ (fun σ' => IF (MT 49 49 49 49) σ σ' ∧ True) σ') (r := []) zk_137_16 rfl rfl rfl rfl rfl rfl (Or.inr ⟨_, _, _, _, rfl, vd_35, rfl⟩) (fun σ' h => (m_123 ((-1)) (by omega) σ' h.1.1 ).le (Nat.le_of_ble_eq_true rfl) (fun v σ2 ⟨y, h1, h2, h3, h4⟩ => ⟨y, h1, h2, h.1.tr h3 (fun _ _ _ _ h => h), trivial⟩)) (pc' := 19) rfl (fun y17 => ?_)
      refine G_ex (fun hy17 => ?_)
      obtain rfl : y17 = (-1) := by omega
      exact T_iret zk_137_19 rfl (fun σ' h => ⟨_, rfl, (by omega), h.1, trivial⟩)
/-- WModel.element -/
theorem m_element {xs : Nat × (Nat → Int32)} (p0 : Int) (p1 : Int) (h0 : -2147483648 ≤ p0 ∧ p0 ≤ 2147483647) (h1 : -2147483648 ≤ p1 ∧ p1 ≤ 2147483647) (σ : ZS) (hI : Inv σ) (hm : ∀ t i k j, 35 ≤ t → σ t i k j = σ0 t i k j)  : CT xs 2 138 [av 35 0 0, iv p0, iv p1] σ (fun v σ' => ∃ y, v = some (jv y) ∧ (y = 0) ∧ IF MN σ σ' ∧ (True)) := by
  refine G_ct (J := (fun σ' => IF MN σ σ' ∧ True)) (L := [(0, av 35 0 0), (1, iv p0), (2, iv p1)]) (nL := 3) rfl rfl rfl ⟨IF.rf hI, trivial⟩ ?_
  refine T_ld zk_138_0 rfl rfl rfl (pc' := 1) rfl ?_
  refine T_calli (K := fun y1 σ' => ((y1 = 0 ∧ (p0 < 0 ∨ 7 < p0)) ∨ (y1 = 1 ∧ 0 ≤ p0 ∧ p0 ≤ 7)) ∧ (fun σ' => IF MN σ σ' ∧ True) σ') (r := []) zk_138_1 rfl rfl rfl rfl rfl rfl (Or.inl (Or.inl rfl)) (fun σ' h => (m_125 p0 (by omega) σ' h.1.1 ).le (Nat.le_of_ble_eq_true rfl) (fun v σ2 ⟨y, h1, h2, h3, h4⟩ => ⟨y, h1, h2, h.1.tr h3 MN_sub, trivial⟩)) (pc' := 4) rfl (fun y1 => ?_)
  refine G_ex (fun hy1 => ?_)
  refine T_if_eq zk_138_4 (by omega) (pc' := 7) rfl (fun h2 => ?_) (fun h3 => ?_)
  ·
    refine T_op zk_138_45 rfl (X_lc (v := 0) (by decide)) (pc' := 46) rfl ?_
    exact T_lret zk_138_46 rfl (fun σ' h => ⟨_, rfl, (by omega), h.1, trivial⟩)
  ·
    refine T_ld zk_138_7 rfl rfl rfl (pc' := 8) rfl ?_
    refine T_getR (t' := 37) (i' := 0) (k' := 0) zk_138_8 rfl rfl rfl vd_35 (pc' := 11) rfl ?_
    refine T_ld zk_138_11 rfl rfl rfl (pc' := 12) rfl ?_
    refine G_ialdX (w := 0) (ln := 8) zk_138_12 rfl rfl vd_37 (by omega) (by omega) (by omega) (fun σ' h => (h.1.2 _ _ _ _ (fun q => q)).trans (hm _ _ _ _ (by decide))) (pc' := 13) rfl ?_
    refine T_op zk_138_13 rfl X_ic (pc' := 14) rfl ?_
    refine T_icmp_ne zk_138_14 (by omega) (by omega) (pc' := 17) rfl (fun h4 => ?_) (fun h5 => ?_)
    ·
      refine T_op zk_138_45 rfl (X_lc (v := 0) (by decide)) (pc' := 46) rfl ?_
      exact T_lret zk_138_46 rfl (fun σ' h => ⟨_, rfl, (by omega), h.1, trivial⟩)
    · exfalso; omega
/-- WModel.show -/
theorem m_show {xs : Nat × (Nat → Int32)} (p0 : Int) (p1 : Int) (h0 : -2147483648 ≤ p0 ∧ p0 ≤ 2147483647) (h1 : -2147483648 ≤ p1 ∧ p1 ≤ 2147483647) (σ : ZS) (hI : Inv σ) (hm : ∀ t i k j, 35 ≤ t → σ t i k j = σ0 t i k j)  : CT xs 2 140 [av 35 0 0, iv p0, iv p1] σ (fun v σ' => ∃ y, v = some (iv y) ∧ ((y = -1 ∧ (¬ (0 ≤ p0 ∧ p0 ≤ 7) ∨ ¬ (p1 = -1))) ∨ (y = 0 ∧ ¬ (¬ (0 ≤ p0 ∧ p0 ≤ 7) ∨ ¬ (p1 = -1)))) ∧ IF MB σ σ' ∧ (True)) := by
  refine G_ct (J := (fun σ' => IF MB σ σ' ∧ True)) (L := [(0, av 35 0 0), (1, iv p0), (2, iv p1)]) (nL := 3) rfl rfl rfl ⟨IF.rf hI, trivial⟩ ?_
  refine T_ld zk_140_0 rfl rfl rfl (pc' := 1) rfl ?_
  refine T_calli (K := fun y1 σ' => ((y1 = 0 ∧ (p0 < 0 ∨ 7 < p0)) ∨ (y1 = 1 ∧ 0 ≤ p0 ∧ p0 ≤ 7)) ∧ (fun σ' => IF MB σ σ' ∧ True) σ') (r := []) zk_140_1 rfl rfl rfl rfl rfl rfl (Or.inl (Or.inl rfl)) (fun σ' h => (m_125 p0 (by omega) σ' h.1.1 ).le (Nat.le_of_ble_eq_true rfl) (fun v σ2 ⟨y, h1, h2, h3, h4⟩ => ⟨y, h1, h2, h.1.tr h3 MN_sub, trivial⟩)) (pc' := 4) rfl (fun y1 => ?_)
  refine G_ex (fun hy1 => ?_)
  refine T_if_eq zk_140_4 (by omega) (pc' := 7) rfl (fun h2 => ?_) (fun h3 => ?_)
  ·
    refine T_ld zk_140_20 rfl rfl rfl (pc' := 21) rfl ?_
    refine T_op zk_140_21 rfl X_ic (pc' := 22) rfl ?_
    refine T_calli (K := fun y4 σ' => (y4 = (-1)) ∧ (fun σ' => IF MB σ σ' ∧ True) σ') (r := []) zk_140_22 rfl rfl rfl rfl rfl rfl (Or.inr ⟨_, _, _, _, rfl, vd_35, rfl⟩) (fun σ' h => (m_123 ((-1)) (by omega) σ' h.1.1 ).le (Nat.le_of_ble_eq_true rfl) (fun v σ2 ⟨y, h1, h2, h3, h4⟩ => ⟨y, h1, h2, h.1.tr h3 (fun t i k j h => by unfold MT at h; unfold MB; omega), trivial⟩)) (pc' := 25) rfl (fun y4 => ?_)
    refine G_ex (fun hy4 => ?_)
    obtain rfl : y4 = (-1) := by omega
    exact T_iret zk_140_25 rfl (fun σ' h => ⟨_, rfl, (by omega), h.1, trivial⟩)
  ·
    refine T_ld zk_140_7 rfl rfl rfl (pc' := 8) rfl ?_
    refine T_op zk_140_8 rfl X_ic (pc' := 9) rfl ?_
    refine T_icmp_eq zk_140_9 (by omega) (by omega) (pc' := 12) rfl (fun h5 => ?_) (fun h6 => ?_)
    ·
      refine T_ld zk_140_26 rfl rfl rfl (pc' := 27) rfl ?_
      refine T_getR (t' := 37) (i' := 0) (k' := 0) zk_140_27 rfl rfl rfl vd_35 (pc' := 30) rfl ?_
      refine T_ld zk_140_30 rfl rfl rfl (pc' := 31) rfl ?_
      refine T_ld zk_140_31 rfl rfl rfl (pc' := 32) rfl ?_
      refine T_op zk_140_32 rfl X_ic (pc' := 33) rfl ?_
      refine T_icmp_ne zk_140_33 (by omega) (by omega) (pc' := 36) rfl (fun h7 => ?_) (fun h8 => ?_)
      · exfalso; omega
      ·
        refine T_op zk_140_36 rfl X_ic (pc' := 37) rfl ?_
        refine T_goto zk_140_37 ?_
        refine G_iast (J' := (fun σ' => IF MB σ σ' ∧ True)) (ln := 8) zk_140_41 rfl rfl vd_37 (by omega) (by omega) (by omega) (fun σ' h => ⟨h.1.up (by simp only [rgP] <;> omega) (by unfold MB; omega), trivial⟩) (pc' := 42) rfl ?_
        refine T_ld zk_140_42 rfl rfl rfl (pc' := 43) rfl ?_
        refine T_getR (t' := 40) (i' := 0) (k' := 0) zk_140_43 rfl rfl rfl vd_35 (pc' := 46) rfl ?_
        refine T_ld zk_140_46 rfl rfl rfl (pc' := 47) rfl ?_
        refine T_ld zk_140_47 rfl rfl rfl (pc' := 48) rfl ?_
        refine G_iast (J' := (fun σ' => IF MB σ σ' ∧ True)) (ln := 8) zk_140_48 rfl rfl vd_40 (by omega) (by omega) (by omega) (fun σ' h => ⟨h.1.up (by simp only [rgP] <;> omega) (by unfold MB; omega), trivial⟩) (pc' := 49) rfl ?_
        refine T_ld zk_140_49 rfl rfl rfl (pc' := 50) rfl ?_
        refine T_op zk_140_50 rfl X_ic (pc' := 51) rfl ?_
        refine T_icmp_ne zk_140_51 (by omega) (by omega) (pc' := 54) rfl (fun h9 => ?_) (fun h10 => ?_)
        · exfalso; omega
        ·
          refine T_op zk_140_54 rfl X_ic (pc' := 55) rfl ?_
          refine T_goto zk_140_55 ?_
          exact T_iret zk_140_59 rfl (fun σ' h => ⟨_, rfl, (by omega), h.1, trivial⟩)
    ·
      refine T_ld zk_140_12 rfl rfl rfl (pc' := 13) rfl ?_
      refine T_ld zk_140_13 rfl rfl rfl (pc' := 14) rfl ?_
      refine T_calli (K := fun y11 σ' => (y11 = 0) ∧ (fun σ' => IF MB σ σ' ∧ True) σ') (r := []) zk_140_14 rfl rfl rfl rfl rfl rfl (Or.inr ⟨_, _, _, _, rfl, vd_35, rfl⟩) (fun σ' h => (m_139e p1 (by omega) σ' h.1.1 ((h.1.2 _ _ _ _ (by unfold MB; omega)).trans ((hm _ _ _ _ (by decide)).trans (s0_z (by omega))))).le (Nat.le_of_ble_eq_true rfl) (fun v σ2 ⟨y, h1, h2, h3, h4⟩ => ⟨y, h1, h2, h.1.tr h3 MN_sub, trivial⟩)) (pc' := 17) rfl (fun y11 => ?_)
      refine G_ex (fun hy11 => ?_)
      obtain rfl : y11 = 0 := by omega
      refine T_if_ne zk_140_17 (by omega) (pc' := 20) rfl (fun h12 => ?_) (fun h13 => ?_)
      · exfalso; omega
      ·
        refine T_ld zk_140_20 rfl rfl rfl (pc' := 21) rfl ?_
        refine T_op zk_140_21 rfl X_ic (pc' := 22) rfl ?_
        refine T_calli (K := fun y14 σ' => (y14 = (-1)) ∧ (fun σ' => IF MB σ σ' ∧ True) σ') (r := []) zk_140_22 rfl rfl rfl rfl rfl rfl (Or.inr ⟨_, _, _, _, rfl, vd_35, rfl⟩) (fun σ' h => (m_123 ((-1)) (by omega) σ' h.1.1 ).le (Nat.le_of_ble_eq_true rfl) (fun v σ2 ⟨y, h1, h2, h3, h4⟩ => ⟨y, h1, h2, h.1.tr h3 (fun t i k j h => by unfold MT at h; unfold MB; omega), trivial⟩)) (pc' := 25) rfl (fun y14 => ?_)
        refine G_ex (fun hy14 => ?_)
        obtain rfl : y14 = (-1) := by omega
        exact T_iret zk_140_25 rfl (fun σ' h => ⟨_, rfl, (by omega), h.1, trivial⟩)
/-- WModel.holds -/
theorem m_holds {xs : Nat × (Nat → Int32)} (p0 : Int) (h0 : -2147483648 ≤ p0 ∧ p0 ≤ 2147483647) (σ : ZS) (hI : Inv σ) (hm : ∀ t i k j, 35 ≤ t → σ t i k j = σ0 t i k j)  : CT xs 2 141 [av 35 0 0, iv p0] σ (fun v σ' => ∃ y, v = some (iv y) ∧ (y = -1) ∧ IF MN σ σ' ∧ (True)) := by
  refine G_ct (J := (fun σ' => IF MN σ σ' ∧ True)) (L := [(0, av 35 0 0), (1, iv p0)]) (nL := 2) rfl rfl rfl ⟨IF.rf hI, trivial⟩ ?_
  refine T_ld zk_141_0 rfl rfl rfl (pc' := 1) rfl ?_
  refine T_calli (K := fun y1 σ' => ((y1 = 0 ∧ (p0 < 0 ∨ 7 < p0)) ∨ (y1 = 1 ∧ 0 ≤ p0 ∧ p0 ≤ 7)) ∧ (fun σ' => IF MN σ σ' ∧ True) σ') (r := []) zk_141_1 rfl rfl rfl rfl rfl rfl (Or.inl (Or.inl rfl)) (fun σ' h => (m_125 p0 (by omega) σ' h.1.1 ).le (Nat.le_of_ble_eq_true rfl) (fun v σ2 ⟨y, h1, h2, h3, h4⟩ => ⟨y, h1, h2, h.1.tr h3 MN_sub, trivial⟩)) (pc' := 4) rfl (fun y1 => ?_)
  refine G_ex (fun hy1 => ?_)
  refine T_if_eq zk_141_4 (by omega) (pc' := 7) rfl (fun h2 => ?_) (fun h3 => ?_)
  ·
    refine T_op zk_141_16 rfl X_ic (pc' := 17) rfl ?_
    exact T_iret zk_141_17 rfl (fun σ' h => ⟨_, rfl, (by omega), h.1, trivial⟩)
  ·
    refine T_ld zk_141_7 rfl rfl rfl (pc' := 8) rfl ?_
    refine T_getR (t' := 37) (i' := 0) (k' := 0) zk_141_8 rfl rfl rfl vd_35 (pc' := 11) rfl ?_
    refine T_ld zk_141_11 rfl rfl rfl (pc' := 12) rfl ?_
    refine G_ialdX (w := 0) (ln := 8) zk_141_12 rfl rfl vd_37 (by omega) (by omega) (by omega) (fun σ' h => (h.1.2 _ _ _ _ (fun q => q)).trans (hm _ _ _ _ (by decide))) (pc' := 13) rfl ?_
    refine T_if_ne zk_141_13 (by omega) (pc' := 16) rfl (fun h4 => ?_) (fun h5 => ?_)
    · exfalso; omega
    ·
      refine T_op zk_141_16 rfl X_ic (pc' := 17) rfl ?_
      exact T_iret zk_141_17 rfl (fun σ' h => ⟨_, rfl, (by omega), h.1, trivial⟩)
/-- WModel.harm -/
theorem m_harm {xs : Nat × (Nat → Int32)} (p0 : Int) (p1 : Int) (h0 : -2147483648 ≤ p0 ∧ p0 ≤ 2147483647) (h1 : -2147483648 ≤ p1 ∧ p1 ≤ 2147483647) (σ : ZS) (hI : Inv σ) (hm : ∀ t i k j, 35 ≤ t → σ t i k j = σ0 t i k j)  : CT xs 2 142 [av 35 0 0, iv p0, iv p1] σ (fun v σ' => ∃ y, v = some (iv y) ∧ ((y = -1 ∧ (¬ (0 ≤ p0 ∧ p0 ≤ 7) ∨ ¬ (0 ≤ p1 ∧ p1 ≤ 2))) ∨ (y = -3 ∧ ¬ (¬ (0 ≤ p0 ∧ p0 ≤ 7) ∨ ¬ (0 ≤ p1 ∧ p1 ≤ 2)))) ∧ IF (MT 49 49 49 49) σ σ' ∧ (True)) := by
  refine G_ct (J := (fun σ' => IF (MT 49 49 49 49) σ σ' ∧ True)) (L := [(0, av 35 0 0), (1, iv p0), (2, iv p1)]) (nL := 3) rfl rfl rfl ⟨IF.rf hI, trivial⟩ ?_
  refine T_ld zk_142_0 rfl rfl rfl (pc' := 1) rfl ?_
  refine T_calli (K := fun y1 σ' => ((y1 = 0 ∧ (p0 < 0 ∨ 7 < p0)) ∨ (y1 = 1 ∧ 0 ≤ p0 ∧ p0 ≤ 7)) ∧ (fun σ' => IF (MT 49 49 49 49) σ σ' ∧ True) σ') (r := []) zk_142_1 rfl rfl rfl rfl rfl rfl (Or.inl (Or.inl rfl)) (fun σ' h => (m_125 p0 (by omega) σ' h.1.1 ).le (Nat.le_of_ble_eq_true rfl) (fun v σ2 ⟨y, h1, h2, h3, h4⟩ => ⟨y, h1, h2, h.1.tr h3 MN_sub, trivial⟩)) (pc' := 4) rfl (fun y1 => ?_)
  refine G_ex (fun hy1 => ?_)
  refine T_if_eq zk_142_4 (by omega) (pc' := 7) rfl (fun h2 => ?_) (fun h3 => ?_)
  ·
    refine T_ld zk_142_16 rfl rfl rfl (pc' := 17) rfl ?_
    refine T_op zk_142_17 rfl X_ic (pc' := 18) rfl ?_
    refine T_calli (K := fun y4 σ' => (y4 = (-1)) ∧ (fun σ' => IF (MT 49 49 49 49) σ σ' ∧ True) σ') (r := []) zk_142_18 rfl rfl rfl rfl rfl rfl (Or.inr ⟨_, _, _, _, rfl, vd_35, rfl⟩) (fun σ' h => (m_123 ((-1)) (by omega) σ' h.1.1 ).le (Nat.le_of_ble_eq_true rfl) (fun v σ2 ⟨y, h1, h2, h3, h4⟩ => ⟨y, h1, h2, h.1.tr h3 (fun _ _ _ _ h => h), trivial⟩)) (pc' := 21) rfl (fun y4 => ?_)
    refine G_ex (fun hy4 => ?_)
    obtain rfl : y4 = (-1) := by omega
    exact T_iret zk_142_21 rfl (fun σ' h => ⟨_, rfl, (by omega), h.1, trivial⟩)
  ·
    refine T_ld zk_142_7 rfl rfl rfl (pc' := 8) rfl ?_
    refine T_if_lt zk_142_8 (by omega) (pc' := 11) rfl (fun h5 => ?_) (fun h6 => ?_)
    ·
      refine T_ld zk_142_16 rfl rfl rfl (pc' := 17) rfl ?_
      refine T_op zk_142_17 rfl X_ic (pc' := 18) rfl ?_
      refine T_calli (K := fun y7 σ' => (y7 = (-1)) ∧ (fun σ' => IF (MT 49 49 49 49) σ σ' ∧ True) σ') (r := []) zk_142_18 rfl rfl rfl rfl rfl rfl (Or.inr ⟨_, _, _, _, rfl, vd_35, rfl⟩) (fun σ' h => (m_123 ((-1)) (by omega) σ' h.1.1 ).le (Nat.le_of_ble_eq_true rfl) (fun v σ2 ⟨y, h1, h2, h3, h4⟩ => ⟨y, h1, h2, h.1.tr h3 (fun _ _ _ _ h => h), trivial⟩)) (pc' := 21) rfl (fun y7 => ?_)
      refine G_ex (fun hy7 => ?_)
      obtain rfl : y7 = (-1) := by omega
      exact T_iret zk_142_21 rfl (fun σ' h => ⟨_, rfl, (by omega), h.1, trivial⟩)
    ·
      refine T_ld zk_142_11 rfl rfl rfl (pc' := 12) rfl ?_
      refine T_op zk_142_12 rfl X_ic (pc' := 13) rfl ?_
      refine T_icmp_le zk_142_13 (by omega) (by omega) (pc' := 16) rfl (fun h8 => ?_) (fun h9 => ?_)
      ·
        refine T_ld zk_142_22 rfl rfl rfl (pc' := 23) rfl ?_
        refine T_getR (t' := 37) (i' := 0) (k' := 0) zk_142_23 rfl rfl rfl vd_35 (pc' := 26) rfl ?_
        refine T_ld zk_142_26 rfl rfl rfl (pc' := 27) rfl ?_
        refine G_ialdX (w := 0) (ln := 8) zk_142_27 rfl rfl vd_37 (by omega) (by omega) (by omega) (fun σ' h => (h.1.2 _ _ _ _ (by unfold MT; omega)).trans (hm _ _ _ _ (by decide))) (pc' := 28) rfl ?_
        refine T_op zk_142_28 rfl X_ic (pc' := 29) rfl ?_
        refine T_icmp_eq zk_142_29 (by omega) (by omega) (pc' := 32) rfl (fun h10 => ?_) (fun h11 => ?_)
        · exfalso; omega
        ·
          refine T_ld zk_142_32 rfl rfl rfl (pc' := 33) rfl ?_
          refine T_getR (t' := 37) (i' := 0) (k' := 0) zk_142_33 rfl rfl rfl vd_35 (pc' := 36) rfl ?_
          refine T_ld zk_142_36 rfl rfl rfl (pc' := 37) rfl ?_
          refine G_ialdX (w := 0) (ln := 8) zk_142_37 rfl rfl vd_37 (by omega) (by omega) (by omega) (fun σ' h => (h.1.2 _ _ _ _ (by unfold MT; omega)).trans (hm _ _ _ _ (by decide))) (pc' := 38) rfl ?_
          refine T_op zk_142_38 rfl X_ic (pc' := 39) rfl ?_
          refine T_icmp_ne zk_142_39 (by omega) (by omega) (pc' := 42) rfl (fun h12 => ?_) (fun h13 => ?_)
          ·
            refine T_ld zk_142_72 rfl rfl rfl (pc' := 73) rfl ?_
            refine T_getR (t' := 37) (i' := 0) (k' := 0) zk_142_73 rfl rfl rfl vd_35 (pc' := 76) rfl ?_
            refine T_ld zk_142_76 rfl rfl rfl (pc' := 77) rfl ?_
            refine G_ialdX (w := 0) (ln := 8) zk_142_77 rfl rfl vd_37 (by omega) (by omega) (by omega) (fun σ' h => (h.1.2 _ _ _ _ (by unfold MT; omega)).trans (hm _ _ _ _ (by decide))) (pc' := 78) rfl ?_
            refine T_if_ne zk_142_78 (by omega) (pc' := 81) rfl (fun h14 => ?_) (fun h15 => ?_)
            · exfalso; omega
            ·
              refine T_ld zk_142_81 rfl rfl rfl (pc' := 82) rfl ?_
              refine T_op zk_142_82 rfl (X_bi (v := -3) (by decide)) (pc' := 84) rfl ?_
              refine T_calli (K := fun y16 σ' => (y16 = (-3)) ∧ (fun σ' => IF (MT 49 49 49 49) σ σ' ∧ True) σ') (r := []) zk_142_84 rfl rfl rfl rfl rfl rfl (Or.inr ⟨_, _, _, _, rfl, vd_35, rfl⟩) (fun σ' h => (m_123 ((-3)) (by omega) σ' h.1.1 ).le (Nat.le_of_ble_eq_true rfl) (fun v σ2 ⟨y, h1, h2, h3, h4⟩ => ⟨y, h1, h2, h.1.tr h3 (fun _ _ _ _ h => h), trivial⟩)) (pc' := 87) rfl (fun y16 => ?_)
              refine G_ex (fun hy16 => ?_)
              obtain rfl : y16 = (-3) := by omega
              exact T_iret zk_142_87 rfl (fun σ' h => ⟨_, rfl, (by omega), h.1, trivial⟩)
          · exfalso; omega
      ·
        refine T_ld zk_142_16 rfl rfl rfl (pc' := 17) rfl ?_
        refine T_op zk_142_17 rfl X_ic (pc' := 18) rfl ?_
        refine T_calli (K := fun y17 σ' => (y17 = (-1)) ∧ (fun σ' => IF (MT 49 49 49 49) σ σ' ∧ True) σ') (r := []) zk_142_18 rfl rfl rfl rfl rfl rfl (Or.inr ⟨_, _, _, _, rfl, vd_35, rfl⟩) (fun σ' h => (m_123 ((-1)) (by omega) σ' h.1.1 ).le (Nat.le_of_ble_eq_true rfl) (fun v σ2 ⟨y, h1, h2, h3, h4⟩ => ⟨y, h1, h2, h.1.tr h3 (fun _ _ _ _ h => h), trivial⟩)) (pc' := 21) rfl (fun y17 => ?_)
        refine G_ex (fun hy17 => ?_)
        obtain rfl : y17 = (-1) := by omega
        exact T_iret zk_142_21 rfl (fun σ' h => ⟨_, rfl, (by omega), h.1, trivial⟩)
/-- WModel.sea -/
theorem m_sea {xs : Nat × (Nat → Int32)} (p0 : Int) (p1 : Int) (h0 : -2147483648 ≤ p0 ∧ p0 ≤ 2147483647) (h1 : 0 ≤ p1 ∧ p1 ≤ 1) (σ : ZS) (hI : Inv σ) (hm : ∀ t i k j, 35 ≤ t → σ t i k j = σ0 t i k j)  : CT xs 3 144 [av 35 0 0, iv p0, iv p1] σ (fun v σ' => ∃ y, v = some (iv y) ∧ ((y = -1 ∧ (¬ (0 ≤ p0 ∧ p0 ≤ 7))) ∨ (y = -3 ∧ ¬ (¬ (0 ≤ p0 ∧ p0 ≤ 7)))) ∧ IF (MT 49 49 49 49) σ σ' ∧ (True)) := by
  refine G_ct (J := (fun σ' => IF (MT 49 49 49 49) σ σ' ∧ True)) (L := [(0, av 35 0 0), (1, iv p0), (2, iv p1)]) (nL := 10) rfl rfl rfl ⟨IF.rf hI, trivial⟩ ?_
  refine T_ld zk_144_0 rfl rfl rfl (pc' := 1) rfl ?_
  refine T_ld zk_144_1 rfl rfl rfl (pc' := 2) rfl ?_
  refine T_calli (K := fun y1 σ' => ((y1 = -1 ∧ (p0 < 0 ∨ 7 < p0)) ∨ (y1 = -3 ∧ 0 ≤ p0 ∧ p0 ≤ 7)) ∧ (fun σ' => IF (MT 49 49 49 49) σ σ' ∧ True) σ') (r := []) zk_144_2 rfl rfl rfl rfl rfl rfl (Or.inr ⟨_, _, _, _, rfl, vd_35, rfl⟩) (fun σ' h => (m_143e p0 (by omega) σ' h.1.1 (fun j a b => (h.1.2 _ _ _ _ (by unfold MT; omega)).trans (hm _ _ _ _ (by decide)))).le (Nat.le_of_ble_eq_true rfl) (fun v σ2 ⟨y, h1, h2, h3, h4⟩ => ⟨y, h1, h2, h.1.tr h3 MN_sub, trivial⟩)) (pc' := 5) rfl (fun y1 => ?_)
  refine G_ex (fun hy1 => ?_)
  refine T_st (L' := [(0, av 35 0 0), (1, iv p0), (2, iv p1), (3, iv y1)]) zk_144_5 (nL := 10) rfl rfl rfl rfl rfl (pc' := 6) rfl ?_
  refine T_ld zk_144_6 rfl rfl rfl (pc' := 7) rfl ?_
  refine T_if_eq zk_144_7 (by omega) (pc' := 10) rfl (fun h2 => ?_) (fun h3 => ?_)
  · exfalso; omega
  ·
    refine T_ld zk_144_10 rfl rfl rfl (pc' := 11) rfl ?_
    refine T_ld zk_144_11 rfl rfl rfl (pc' := 12) rfl ?_
    refine T_calli (K := fun y4 σ' => (y4 = y1) ∧ (fun σ' => IF (MT 49 49 49 49) σ σ' ∧ True) σ') (r := []) zk_144_12 rfl rfl rfl rfl rfl rfl (Or.inr ⟨_, _, _, _, rfl, vd_35, rfl⟩) (fun σ' h => (m_123 y1 (by omega) σ' h.1.1 ).le (Nat.le_of_ble_eq_true rfl) (fun v σ2 ⟨y, h1, h2, h3, h4⟩ => ⟨y, h1, h2, h.1.tr h3 (fun _ _ _ _ h => h), trivial⟩)) (pc' := 15) rfl (fun y4 => ?_)
    refine G_ex (fun hy4 => ?_)
    obtain rfl : y4 = y1 := by omega
    exact T_iret zk_144_15 rfl (fun σ' h => ⟨_, rfl, (by omega), h.1, trivial⟩)
/-- WModel.seaAt -/
theorem m_seaAt {xs : Nat × (Nat → Int32)} (p0 : Int) (p1 : Int) (h0 : -2147483648 ≤ p0 ∧ p0 ≤ 2147483647) (h1 : 0 ≤ p1 ∧ p1 ≤ 1) (σ : ZS) (hI : Inv σ) (hm : ∀ t i k j, 35 ≤ t → σ t i k j = σ0 t i k j)  : CT xs 2 146 [av 35 0 0, iv p0, iv p1] σ (fun v σ' => ∃ y, v = some (iv y) ∧ ((y = 1000 ∧ (p0 < 0)) ∨ (y = 0 ∧ ¬ (p0 < 0))) ∧ IF MN σ σ' ∧ (True)) := by
  refine G_ct (J := (fun σ' => IF MN σ σ' ∧ True)) (L := [(0, av 35 0 0), (1, iv p0), (2, iv p1)]) (nL := 3) rfl rfl rfl ⟨IF.rf hI, trivial⟩ ?_
  refine T_ld zk_146_0 rfl rfl rfl (pc' := 1) rfl ?_
  refine T_if_ge zk_146_1 (by omega) (pc' := 4) rfl (fun h1 => ?_) (fun h2 => ?_)
  ·
    refine T_ld zk_146_10 rfl rfl rfl (pc' := 11) rfl ?_
    refine T_ld zk_146_11 rfl rfl rfl (pc' := 12) rfl ?_
    refine T_ld zk_146_12 rfl rfl rfl (pc' := 13) rfl ?_
    refine T_calli (K := fun y3 σ' => (y3 = 0) ∧ (fun σ' => IF MN σ σ' ∧ True) σ') (r := []) zk_146_13 rfl rfl rfl rfl rfl rfl (Or.inr ⟨_, _, _, _, rfl, vd_35, rfl⟩) (fun σ' h => (m_145e p0 p1 (by omega) (by omega) σ' h.1.1 ((h.1.2 _ _ _ _ (fun q => q)).trans ((hm _ _ _ _ (by decide)).trans (s0_z (by omega)))) ((h.1.2 _ _ _ _ (fun q => q)).trans ((hm _ _ _ _ (by decide)).trans (s0_z (by omega))))).le (Nat.le_of_ble_eq_true rfl) (fun v σ2 ⟨y, h1, h2, h3, h4⟩ => ⟨y, h1, h2, h.1.tr h3 MN_sub, trivial⟩)) (pc' := 16) rfl (fun y3 => ?_)
    refine G_ex (fun hy3 => ?_)
    obtain rfl : y3 = 0 := by omega
    exact T_iret zk_146_16 rfl (fun σ' h => ⟨_, rfl, (by omega), h.1, trivial⟩)
  ·
    refine T_op zk_146_4 rfl (X_si (v := 1000) (by decide)) (pc' := 7) rfl ?_
    refine T_goto zk_146_7 ?_
    exact T_iret zk_146_16 rfl (fun σ' h => ⟨_, rfl, (by omega), h.1, trivial⟩)
/-- WModel.law -/
theorem m_law {xs : Nat × (Nat → Int32)} (p0 : Int) (h0 : -2147483648 ≤ p0 ∧ p0 ≤ 2147483647) (σ : ZS) (hI : Inv σ) (hm : ∀ t i k j, 35 ≤ t → σ t i k j = σ0 t i k j)  : CT xs 3 155 [av 35 0 0, iv p0] σ (fun v σ' => ∃ y, v = some (iv y) ∧ ((y = -1 ∧ (¬ (0 ≤ p0 ∧ p0 ≤ 7))) ∨ (y = -3 ∧ ¬ (¬ (0 ≤ p0 ∧ p0 ≤ 7)))) ∧ IF (MT 49 49 49 49) σ σ' ∧ (True)) := by
  refine G_ct (J := (fun σ' => IF (MT 49 49 49 49) σ σ' ∧ True)) (L := [(0, av 35 0 0), (1, iv p0)]) (nL := 4) rfl rfl rfl ⟨IF.rf hI, trivial⟩ ?_
  refine T_ld zk_155_0 rfl rfl rfl (pc' := 1) rfl ?_
  refine T_ld zk_155_1 rfl rfl rfl (pc' := 2) rfl ?_
  refine T_calli (K := fun y1 σ' => ((y1 = -1 ∧ (p0 < 0 ∨ 7 < p0)) ∨ (y1 = -3 ∧ 0 ≤ p0 ∧ p0 ≤ 7)) ∧ (fun σ' => IF (MT 49 49 49 49) σ σ' ∧ True) σ') (r := []) zk_155_2 rfl rfl rfl rfl rfl rfl (Or.inr ⟨_, _, _, _, rfl, vd_35, rfl⟩) (fun σ' h => (m_143e p0 (by omega) σ' h.1.1 (fun j a b => (h.1.2 _ _ _ _ (by unfold MT; omega)).trans (hm _ _ _ _ (by decide)))).le (Nat.le_of_ble_eq_true rfl) (fun v σ2 ⟨y, h1, h2, h3, h4⟩ => ⟨y, h1, h2, h.1.tr h3 MN_sub, trivial⟩)) (pc' := 5) rfl (fun y1 => ?_)
  refine G_ex (fun hy1 => ?_)
  refine T_st (L' := [(0, av 35 0 0), (1, iv p0), (2, iv y1)]) zk_155_5 (nL := 4) rfl rfl rfl rfl rfl (pc' := 6) rfl ?_
  refine T_ld zk_155_6 rfl rfl rfl (pc' := 7) rfl ?_
  refine T_if_eq zk_155_7 (by omega) (pc' := 10) rfl (fun h2 => ?_) (fun h3 => ?_)
  · exfalso; omega
  ·
    refine T_ld zk_155_10 rfl rfl rfl (pc' := 11) rfl ?_
    refine T_ld zk_155_11 rfl rfl rfl (pc' := 12) rfl ?_
    refine T_calli (K := fun y4 σ' => (y4 = y1) ∧ (fun σ' => IF (MT 49 49 49 49) σ σ' ∧ True) σ') (r := []) zk_155_12 rfl rfl rfl rfl rfl rfl (Or.inr ⟨_, _, _, _, rfl, vd_35, rfl⟩) (fun σ' h => (m_123 y1 (by omega) σ' h.1.1 ).le (Nat.le_of_ble_eq_true rfl) (fun v σ2 ⟨y, h1, h2, h3, h4⟩ => ⟨y, h1, h2, h.1.tr h3 (fun _ _ _ _ h => h), trivial⟩)) (pc' := 15) rfl (fun y4 => ?_)
    refine G_ex (fun hy4 => ?_)
    obtain rfl : y4 = y1 := by omega
    exact T_iret zk_155_15 rfl (fun σ' h => ⟨_, rfl, (by omega), h.1, trivial⟩)
/-- WModel.fault -/
theorem m_fault {xs : Nat × (Nat → Int32)}   (σ : ZS) (hI : Inv σ) (hm : ∀ t i k j, 35 ≤ t → σ t i k j = σ0 t i k j)  : CT xs 1 156 [av 35 0 0] σ (fun v σ' => ∃ y, v = some (iv y) ∧ (y = -1) ∧ IF MN σ σ' ∧ (True)) := by
  refine G_ct (J := (fun σ' => IF MN σ σ' ∧ True)) (L := [(0, av 35 0 0)]) (nL := 1) rfl rfl rfl ⟨IF.rf hI, trivial⟩ ?_
  refine T_ld zk_156_0 rfl rfl rfl (pc' := 1) rfl ?_
  refine G_getX (w := (-1)) zk_156_1 rfl vd_35 (fun σ' h => (h.1.2 _ _ _ _ (fun q => q)).trans (hm _ _ _ _ (by decide))) (pc' := 4) rfl ?_
  exact T_iret zk_156_4 rfl (fun σ' h => ⟨_, rfl, (by omega), h.1, trivial⟩)
/-- WModel.force -/
theorem m_force {xs : Nat × (Nat → Int32)} (p0 : Int) (p1 : Int) (h0 : -2147483648 ≤ p0 ∧ p0 ≤ 2147483647) (h1 : 0 ≤ p1 ∧ p1 ≤ 1) (σ : ZS) (hI : Inv σ) (hm : ∀ t i k j, 35 ≤ t → σ t i k j = σ0 t i k j)  : CT xs 2 158 [av 35 0 0, iv p0, iv p1] σ (fun v σ' => ∃ y, v = some (iv y) ∧ (y = -1) ∧ IF (MT 49 49 49 49) σ σ' ∧ (True)) := by
  refine G_ct (J := (fun σ' => IF (MT 49 49 49 49) σ σ' ∧ True)) (L := [(0, av 35 0 0), (1, iv p0), (2, iv p1)]) (nL := 3) rfl rfl rfl ⟨IF.rf hI, trivial⟩ ?_
  refine T_ld zk_158_0 rfl rfl rfl (pc' := 1) rfl ?_
  refine T_ld zk_158_1 rfl rfl rfl (pc' := 2) rfl ?_
  refine T_calli (K := fun y1 σ' => (y1 = 0) ∧ (fun σ' => IF (MT 49 49 49 49) σ σ' ∧ True) σ') (r := []) zk_158_2 rfl rfl rfl rfl rfl rfl (Or.inr ⟨_, _, _, _, rfl, vd_35, rfl⟩) (fun σ' h => (m_157e p0 (by omega) σ' h.1.1 ((h.1.2 _ _ _ _ (by unfold MT; omega)).trans ((hm _ _ _ _ (by decide)).trans (s0_z (by omega))))).le (Nat.le_of_ble_eq_true rfl) (fun v σ2 ⟨y, h1, h2, h3, h4⟩ => ⟨y, h1, h2, h.1.tr h3 MN_sub, trivial⟩)) (pc' := 5) rfl (fun y1 => ?_)
  refine G_ex (fun hy1 => ?_)
  obtain rfl : y1 = 0 := by omega
  refine T_if_eq zk_158_5 (by omega) (pc' := 8) rfl (fun h2 => ?_) (fun h3 => ?_)
  ·
    refine T_ld zk_158_21 rfl rfl rfl (pc' := 22) rfl ?_
    refine T_op zk_158_22 rfl X_ic (pc' := 23) rfl ?_
    refine T_calli (K := fun y4 σ' => (y4 = (-1)) ∧ (fun σ' => IF (MT 49 49 49 49) σ σ' ∧ True) σ') (r := []) zk_158_23 rfl rfl rfl rfl rfl rfl (Or.inr ⟨_, _, _, _, rfl, vd_35, rfl⟩) (fun σ' h => (m_123 ((-1)) (by omega) σ' h.1.1 ).le (Nat.le_of_ble_eq_true rfl) (fun v σ2 ⟨y, h1, h2, h3, h4⟩ => ⟨y, h1, h2, h.1.tr h3 (fun _ _ _ _ h => h), trivial⟩)) (pc' := 26) rfl (fun y4 => ?_)
    refine G_ex (fun hy4 => ?_)
    obtain rfl : y4 = (-1) := by omega
    exact T_iret zk_158_26 rfl (fun σ' h => ⟨_, rfl, (by omega), h.1, trivial⟩)
  · exfalso; omega
/-- WModel.says -/
theorem m_says {xs : Nat × (Nat → Int32)} (p0 : Int) (h0 : -2147483648 ≤ p0 ∧ p0 ≤ 2147483647) (σ : ZS) (hI : Inv σ) (hm : ∀ t i k j, 35 ≤ t → σ t i k j = σ0 t i k j)  : CT xs 2 163 [av 35 0 0, iv p0] σ (fun v σ' => ∃ y, v = some (iv y) ∧ (y = -1) ∧ IF MN σ σ' ∧ (True)) := by
  refine G_ct (J := (fun σ' => IF MN σ σ' ∧ True)) (L := [(0, av 35 0 0), (1, iv p0)]) (nL := 2) rfl rfl rfl ⟨IF.rf hI, trivial⟩ ?_
  refine T_ld zk_163_0 rfl rfl rfl (pc' := 1) rfl ?_
  refine T_ld zk_163_1 rfl rfl rfl (pc' := 2) rfl ?_
  refine T_calli (K := fun y1 σ' => (y1 = 0) ∧ (fun σ' => IF MN σ σ' ∧ True) σ') (r := []) zk_163_2 rfl rfl rfl rfl rfl rfl (Or.inr ⟨_, _, _, _, rfl, vd_35, rfl⟩) (fun σ' h => (m_157e p0 (by omega) σ' h.1.1 ((h.1.2 _ _ _ _ (fun q => q)).trans ((hm _ _ _ _ (by decide)).trans (s0_z (by omega))))).le (Nat.le_of_ble_eq_true rfl) (fun v σ2 ⟨y, h1, h2, h3, h4⟩ => ⟨y, h1, h2, h.1.tr h3 MN_sub, trivial⟩)) (pc' := 5) rfl (fun y1 => ?_)
  refine G_ex (fun hy1 => ?_)
  obtain rfl : y1 = 0 := by omega
  refine T_if_eq zk_163_5 (by omega) (pc' := 8) rfl (fun h2 => ?_) (fun h3 => ?_)
  ·
    refine T_op zk_163_24 rfl X_ic (pc' := 25) rfl ?_
    exact T_iret zk_163_25 rfl (fun σ' h => ⟨_, rfl, (by omega), h.1, trivial⟩)
  · exfalso; omega
/-- WModel.house -/
theorem m_house {xs : Nat × (Nat → Int32)} (p0 : Int) (p1 : Int) (p2 : Int) (p3 : Int) (p4 : Int) (h0 : -2147483648 ≤ p0 ∧ p0 ≤ 2147483647) (h1 : -2147483648 ≤ p1 ∧ p1 ≤ 2147483647) (h2 : -2147483648 ≤ p2 ∧ p2 ≤ 2147483647) (h3 : -2147483648 ≤ p3 ∧ p3 ≤ 2147483647) (h4 : -2147483648 ≤ p4 ∧ p4 ≤ 2147483647) (σ : ZS) (hI : Inv σ) (hm : ∀ t i k j, 35 ≤ t → σ t i k j = σ0 t i k j)  : CT xs 2 164 [av 35 0 0, iv p0, iv p1, iv p2, iv p3, iv p4] σ (fun v σ' => ∃ y, v = some (iv y) ∧ ((y = -1 ∧ (¬ (0 ≤ p0 ∧ p0 ≤ 2) ∨ ¬ (0 ≤ p1 ∧ p1 ≤ 24))) ∨ (y = -6 ∧ ¬ (¬ (0 ≤ p0 ∧ p0 ≤ 2) ∨ ¬ (0 ≤ p1 ∧ p1 ≤ 24)) ∧ (¬ (0 ≤ p2 ∧ p2 ≤ 200) ∨ ¬ (0 ≤ p3 ∧ p3 ≤ 99) ∨ ¬ (0 ≤ p4 ∧ p4 ≤ 99))) ∨ (y = 0 ∧ ¬ (¬ (0 ≤ p0 ∧ p0 ≤ 2) ∨ ¬ (0 ≤ p1 ∧ p1 ≤ 24)) ∧ ¬ (¬ (0 ≤ p2 ∧ p2 ≤ 200) ∨ ¬ (0 ≤ p3 ∧ p3 ≤ 99) ∨ ¬ (0 ≤ p4 ∧ p4 ≤ 99)))) ∧ IF (MK 448 568 641 642) σ σ' ∧ (True)) := by
  refine G_ct (J := (fun σ' => IF (MK 448 568 641 642) σ σ' ∧ σ' 36 0 0 641 = 0 ∧ True)) (L := [(0, av 35 0 0), (1, iv p0), (2, iv p1), (3, iv p2), (4, iv p3), (5, iv p4)]) (nL := 8) rfl rfl rfl ⟨IF.rf hI, ((hm _ _ _ _ (by decide)).trans (s0_z (by omega))), trivial⟩ ?_
  refine T_ld zk_164_0 rfl rfl rfl (pc' := 1) rfl ?_
  refine T_if_lt zk_164_1 (by omega) (pc' := 4) rfl (fun h1 => ?_) (fun h2 => ?_)
  ·
    refine T_ld zk_164_16 rfl rfl rfl (pc' := 17) rfl ?_
    refine T_op zk_164_17 rfl X_ic (pc' := 18) rfl ?_
    refine T_calli (K := fun y3 σ' => (y3 = (-1)) ∧ (fun σ' => IF (MK 448 568 641 642) σ σ' ∧ σ' 36 0 0 641 = 0 ∧ True) σ') (r := []) zk_164_18 rfl rfl rfl rfl rfl rfl (Or.inr ⟨_, _, _, _, rfl, vd_35, rfl⟩) (fun σ' h => (m_123 ((-1)) (by omega) σ' h.1.1 ).le (Nat.le_of_ble_eq_true rfl) (fun v σ2 ⟨y, h1, h2, h3, h4⟩ => ⟨y, h1, h2, h.1.tr h3 (fun t i k j h => by unfold MT at h; unfold MK; omega), (h3.2 _ _ _ _ (by unfold MT; omega)).trans (h.2.1), trivial⟩)) (pc' := 21) rfl (fun y3 => ?_)
    refine G_ex (fun hy3 => ?_)
    obtain rfl : y3 = (-1) := by omega
    exact T_iret zk_164_21 rfl (fun σ' h => ⟨_, rfl, (by omega), h.1, trivial⟩)
  ·
    refine T_ld zk_164_4 rfl rfl rfl (pc' := 5) rfl ?_
    refine T_op zk_164_5 rfl X_ic (pc' := 6) rfl ?_
    refine T_icmp_gt zk_164_6 (by omega) (by omega) (pc' := 9) rfl (fun h4 => ?_) (fun h5 => ?_)
    ·
      refine T_ld zk_164_16 rfl rfl rfl (pc' := 17) rfl ?_
      refine T_op zk_164_17 rfl X_ic (pc' := 18) rfl ?_
      refine T_calli (K := fun y6 σ' => (y6 = (-1)) ∧ (fun σ' => IF (MK 448 568 641 642) σ σ' ∧ σ' 36 0 0 641 = 0 ∧ True) σ') (r := []) zk_164_18 rfl rfl rfl rfl rfl rfl (Or.inr ⟨_, _, _, _, rfl, vd_35, rfl⟩) (fun σ' h => (m_123 ((-1)) (by omega) σ' h.1.1 ).le (Nat.le_of_ble_eq_true rfl) (fun v σ2 ⟨y, h1, h2, h3, h4⟩ => ⟨y, h1, h2, h.1.tr h3 (fun t i k j h => by unfold MT at h; unfold MK; omega), (h3.2 _ _ _ _ (by unfold MT; omega)).trans (h.2.1), trivial⟩)) (pc' := 21) rfl (fun y6 => ?_)
      refine G_ex (fun hy6 => ?_)
      obtain rfl : y6 = (-1) := by omega
      exact T_iret zk_164_21 rfl (fun σ' h => ⟨_, rfl, (by omega), h.1, trivial⟩)
    ·
      refine T_ld zk_164_9 rfl rfl rfl (pc' := 10) rfl ?_
      refine T_calli (K := fun y7 σ' => ((y7 = 0 ∧ (p1 < 0 ∨ 24 < p1)) ∨ (y7 = 1 ∧ 0 ≤ p1 ∧ p1 ≤ 24)) ∧ (fun σ' => IF (MK 448 568 641 642) σ σ' ∧ σ' 36 0 0 641 = 0 ∧ True) σ') (r := []) zk_164_10 rfl rfl rfl rfl rfl rfl (Or.inl (Or.inl rfl)) (fun σ' h => (m_124 p1 (by omega) σ' h.1.1 ).le (Nat.le_of_ble_eq_true rfl) (fun v σ2 ⟨y, h1, h2, h3, h4⟩ => ⟨y, h1, h2, h.1.tr h3 MN_sub, (h3.2 _ _ _ _ (fun q => q)).trans (h.2.1), trivial⟩)) (pc' := 13) rfl (fun y7 => ?_)
      refine G_ex (fun hy7 => ?_)
      refine T_if_ne zk_164_13 (by omega) (pc' := 16) rfl (fun h8 => ?_) (fun h9 => ?_)
      ·
        refine T_ld zk_164_22 rfl rfl rfl (pc' := 23) rfl ?_
        refine T_if_lt zk_164_23 (by omega) (pc' := 26) rfl (fun h10 => ?_) (fun h11 => ?_)
        ·
          refine T_ld zk_164_57 rfl rfl rfl (pc' := 58) rfl ?_
          refine T_op zk_164_58 rfl (X_bi (v := -6) (by decide)) (pc' := 60) rfl ?_
          refine T_calli (K := fun y12 σ' => (y12 = (-6)) ∧ (fun σ' => IF (MK 448 568 641 642) σ σ' ∧ σ' 36 0 0 641 = 0 ∧ True) σ') (r := []) zk_164_60 rfl rfl rfl rfl rfl rfl (Or.inr ⟨_, _, _, _, rfl, vd_35, rfl⟩) (fun σ' h => (m_123 ((-6)) (by omega) σ' h.1.1 ).le (Nat.le_of_ble_eq_true rfl) (fun v σ2 ⟨y, h1, h2, h3, h4⟩ => ⟨y, h1, h2, h.1.tr h3 (fun t i k j h => by unfold MT at h; unfold MK; omega), (h3.2 _ _ _ _ (by unfold MT; omega)).trans (h.2.1), trivial⟩)) (pc' := 63) rfl (fun y12 => ?_)
          refine G_ex (fun hy12 => ?_)
          obtain rfl : y12 = (-6) := by omega
          exact T_iret zk_164_63 rfl (fun σ' h => ⟨_, rfl, (by omega), h.1, trivial⟩)
        ·
          refine T_ld zk_164_26 rfl rfl rfl (pc' := 27) rfl ?_
          refine T_op zk_164_27 rfl (X_si (v := 200) (by decide)) (pc' := 30) rfl ?_
          refine T_icmp_gt zk_164_30 (by omega) (by omega) (pc' := 33) rfl (fun h13 => ?_) (fun h14 => ?_)
          ·
            refine T_ld zk_164_57 rfl rfl rfl (pc' := 58) rfl ?_
            refine T_op zk_164_58 rfl (X_bi (v := -6) (by decide)) (pc' := 60) rfl ?_
            refine T_calli (K := fun y15 σ' => (y15 = (-6)) ∧ (fun σ' => IF (MK 448 568 641 642) σ σ' ∧ σ' 36 0 0 641 = 0 ∧ True) σ') (r := []) zk_164_60 rfl rfl rfl rfl rfl rfl (Or.inr ⟨_, _, _, _, rfl, vd_35, rfl⟩) (fun σ' h => (m_123 ((-6)) (by omega) σ' h.1.1 ).le (Nat.le_of_ble_eq_true rfl) (fun v σ2 ⟨y, h1, h2, h3, h4⟩ => ⟨y, h1, h2, h.1.tr h3 (fun t i k j h => by unfold MT at h; unfold MK; omega), (h3.2 _ _ _ _ (by unfold MT; omega)).trans (h.2.1), trivial⟩)) (pc' := 63) rfl (fun y15 => ?_)
            refine G_ex (fun hy15 => ?_)
            obtain rfl : y15 = (-6) := by omega
            exact T_iret zk_164_63 rfl (fun σ' h => ⟨_, rfl, (by omega), h.1, trivial⟩)
          ·
            refine T_ld zk_164_33 rfl rfl rfl (pc' := 35) rfl ?_
            refine T_if_lt zk_164_35 (by omega) (pc' := 38) rfl (fun h16 => ?_) (fun h17 => ?_)
            ·
              refine T_ld zk_164_57 rfl rfl rfl (pc' := 58) rfl ?_
              refine T_op zk_164_58 rfl (X_bi (v := -6) (by decide)) (pc' := 60) rfl ?_
              refine T_calli (K := fun y18 σ' => (y18 = (-6)) ∧ (fun σ' => IF (MK 448 568 641 642) σ σ' ∧ σ' 36 0 0 641 = 0 ∧ True) σ') (r := []) zk_164_60 rfl rfl rfl rfl rfl rfl (Or.inr ⟨_, _, _, _, rfl, vd_35, rfl⟩) (fun σ' h => (m_123 ((-6)) (by omega) σ' h.1.1 ).le (Nat.le_of_ble_eq_true rfl) (fun v σ2 ⟨y, h1, h2, h3, h4⟩ => ⟨y, h1, h2, h.1.tr h3 (fun t i k j h => by unfold MT at h; unfold MK; omega), (h3.2 _ _ _ _ (by unfold MT; omega)).trans (h.2.1), trivial⟩)) (pc' := 63) rfl (fun y18 => ?_)
              refine G_ex (fun hy18 => ?_)
              obtain rfl : y18 = (-6) := by omega
              exact T_iret zk_164_63 rfl (fun σ' h => ⟨_, rfl, (by omega), h.1, trivial⟩)
            ·
              refine T_ld zk_164_38 rfl rfl rfl (pc' := 40) rfl ?_
              refine T_op zk_164_40 rfl (X_bi (v := 99) (by decide)) (pc' := 42) rfl ?_
              refine T_icmp_gt zk_164_42 (by omega) (by omega) (pc' := 45) rfl (fun h19 => ?_) (fun h20 => ?_)
              ·
                refine T_ld zk_164_57 rfl rfl rfl (pc' := 58) rfl ?_
                refine T_op zk_164_58 rfl (X_bi (v := -6) (by decide)) (pc' := 60) rfl ?_
                refine T_calli (K := fun y21 σ' => (y21 = (-6)) ∧ (fun σ' => IF (MK 448 568 641 642) σ σ' ∧ σ' 36 0 0 641 = 0 ∧ True) σ') (r := []) zk_164_60 rfl rfl rfl rfl rfl rfl (Or.inr ⟨_, _, _, _, rfl, vd_35, rfl⟩) (fun σ' h => (m_123 ((-6)) (by omega) σ' h.1.1 ).le (Nat.le_of_ble_eq_true rfl) (fun v σ2 ⟨y, h1, h2, h3, h4⟩ => ⟨y, h1, h2, h.1.tr h3 (fun t i k j h => by unfold MT at h; unfold MK; omega), (h3.2 _ _ _ _ (by unfold MT; omega)).trans (h.2.1), trivial⟩)) (pc' := 63) rfl (fun y21 => ?_)
                refine G_ex (fun hy21 => ?_)
                obtain rfl : y21 = (-6) := by omega
                exact T_iret zk_164_63 rfl (fun σ' h => ⟨_, rfl, (by omega), h.1, trivial⟩)
              ·
                refine T_ld zk_164_45 rfl rfl rfl (pc' := 47) rfl ?_
                refine T_if_lt zk_164_47 (by omega) (pc' := 50) rfl (fun h22 => ?_) (fun h23 => ?_)
                ·
                  refine T_ld zk_164_57 rfl rfl rfl (pc' := 58) rfl ?_
                  refine T_op zk_164_58 rfl (X_bi (v := -6) (by decide)) (pc' := 60) rfl ?_
                  refine T_calli (K := fun y24 σ' => (y24 = (-6)) ∧ (fun σ' => IF (MK 448 568 641 642) σ σ' ∧ σ' 36 0 0 641 = 0 ∧ True) σ') (r := []) zk_164_60 rfl rfl rfl rfl rfl rfl (Or.inr ⟨_, _, _, _, rfl, vd_35, rfl⟩) (fun σ' h => (m_123 ((-6)) (by omega) σ' h.1.1 ).le (Nat.le_of_ble_eq_true rfl) (fun v σ2 ⟨y, h1, h2, h3, h4⟩ => ⟨y, h1, h2, h.1.tr h3 (fun t i k j h => by unfold MT at h; unfold MK; omega), (h3.2 _ _ _ _ (by unfold MT; omega)).trans (h.2.1), trivial⟩)) (pc' := 63) rfl (fun y24 => ?_)
                  refine G_ex (fun hy24 => ?_)
                  obtain rfl : y24 = (-6) := by omega
                  exact T_iret zk_164_63 rfl (fun σ' h => ⟨_, rfl, (by omega), h.1, trivial⟩)
                ·
                  refine T_ld zk_164_50 rfl rfl rfl (pc' := 52) rfl ?_
                  refine T_op zk_164_52 rfl (X_bi (v := 99) (by decide)) (pc' := 54) rfl ?_
                  refine T_icmp_le zk_164_54 (by omega) (by omega) (pc' := 57) rfl (fun h25 => ?_) (fun h26 => ?_)
                  ·
                    refine T_ld zk_164_64 rfl rfl rfl (pc' := 65) rfl ?_
                    refine T_getR (t' := 36) (i' := 0) (k' := 0) zk_164_65 rfl rfl rfl vd_35 (pc' := 68) rfl ?_
                    refine T_op zk_164_68 rfl (X_si (v := 641) (by decide)) (pc' := 71) rfl ?_
                    refine G_ialdX (w := 0) (ln := 646) zk_164_71 rfl rfl (vd_36 (by omega)) (by omega) (by omega) (by omega) (fun σ' h => h.2.1) (pc' := 72) rfl ?_
                    refine T_st (L' := [(0, av 35 0 0), (1, iv p0), (2, iv p1), (3, iv p2), (4, iv p3), (5, iv p4), (6, iv 0)]) zk_164_72 (nL := 8) rfl rfl rfl rfl rfl (pc' := 74) rfl ?_
                    refine T_ld zk_164_74 rfl rfl rfl (pc' := 76) rfl ?_
                    refine T_op zk_164_76 rfl (X_bi (v := 12) (by decide)) (pc' := 78) rfl ?_
                    refine T_icmp_ne zk_164_78 (by omega) (by omega) (pc' := 81) rfl (fun h27 => ?_) (fun h28 => ?_)
                    ·
                      refine T_ld zk_164_88 rfl rfl rfl (pc' := 89) rfl ?_
                      refine T_getR (t' := 36) (i' := 0) (k' := 0) zk_164_89 rfl rfl rfl vd_35 (pc' := 92) rfl ?_
                      refine T_op zk_164_92 rfl (X_si (v := 448) (by decide)) (pc' := 95) rfl ?_
                      refine T_ld zk_164_95 rfl rfl rfl (pc' := 97) rfl ?_
                      refine T_opc (w := 448) zk_164_97 rfl X_add (by omega) (pc' := 98) rfl ?_
                      refine T_ld zk_164_98 rfl rfl rfl (pc' := 99) rfl ?_
                      refine G_iast (J' := (fun σ' => IF (MK 448 568 641 642) σ σ' ∧ σ' 36 0 0 641 = 0 ∧ True)) (ln := 646) zk_164_99 rfl rfl (vd_36 (by omega)) (by omega) (by omega) (by omega) (fun σ' h => ⟨h.1.up (by simp only [rgP] <;> omega) (by unfold MK; omega), (up_ne (by omega)).trans (h.2.1), trivial⟩) (pc' := 100) rfl ?_
                      refine T_ld zk_164_100 rfl rfl rfl (pc' := 101) rfl ?_
                      refine T_getR (t' := 36) (i' := 0) (k' := 0) zk_164_101 rfl rfl rfl vd_35 (pc' := 104) rfl ?_
                      refine T_op zk_164_104 rfl (X_si (v := 460) (by decide)) (pc' := 107) rfl ?_
                      refine T_ld zk_164_107 rfl rfl rfl (pc' := 109) rfl ?_
                      refine T_opc (w := 460) zk_164_109 rfl X_add (by omega) (pc' := 110) rfl ?_
                      refine T_ld zk_164_110 rfl rfl rfl (pc' := 111) rfl ?_
                      refine G_iast (J' := (fun σ' => IF (MK 448 568 641 642) σ σ' ∧ σ' 36 0 0 641 = 0 ∧ True)) (ln := 646) zk_164_111 rfl rfl (vd_36 (by omega)) (by omega) (by omega) (by omega) (fun σ' h => ⟨h.1.up (by simp only [rgP] <;> omega) (by unfold MK; omega), (up_ne (by omega)).trans (h.2.1), trivial⟩) (pc' := 112) rfl ?_
                      refine T_ld zk_164_112 rfl rfl rfl (pc' := 113) rfl ?_
                      refine T_getR (t' := 36) (i' := 0) (k' := 0) zk_164_113 rfl rfl rfl vd_35 (pc' := 116) rfl ?_
                      refine T_op zk_164_116 rfl (X_si (v := 472) (by decide)) (pc' := 119) rfl ?_
                      refine T_ld zk_164_119 rfl rfl rfl (pc' := 121) rfl ?_
                      refine T_opc (w := 472) zk_164_121 rfl X_add (by omega) (pc' := 122) rfl ?_
                      refine T_ld zk_164_122 rfl rfl rfl (pc' := 123) rfl ?_
                      refine G_iast (J' := (fun σ' => IF (MK 448 568 641 642) σ σ' ∧ σ' 36 0 0 641 = 0 ∧ True)) (ln := 646) zk_164_123 rfl rfl (vd_36 (by omega)) (by omega) (by omega) (by omega) (fun σ' h => ⟨h.1.up (by simp only [rgP] <;> omega) (by unfold MK; omega), (up_ne (by omega)).trans (h.2.1), trivial⟩) (pc' := 124) rfl ?_
                      refine T_ld zk_164_124 rfl rfl rfl (pc' := 125) rfl ?_
                      refine T_getR (t' := 36) (i' := 0) (k' := 0) zk_164_125 rfl rfl rfl vd_35 (pc' := 128) rfl ?_
                      refine T_op zk_164_128 rfl (X_si (v := 484) (by decide)) (pc' := 131) rfl ?_
                      refine T_ld zk_164_131 rfl rfl rfl (pc' := 133) rfl ?_
                      refine T_opc (w := 484) zk_164_133 rfl X_add (by omega) (pc' := 134) rfl ?_
                      refine T_ld zk_164_134 rfl rfl rfl (pc' := 136) rfl ?_
                      refine G_iast (J' := (fun σ' => IF (MK 448 568 641 642) σ σ' ∧ σ' 36 0 0 641 = 0 ∧ True)) (ln := 646) zk_164_136 rfl rfl (vd_36 (by omega)) (by omega) (by omega) (by omega) (fun σ' h => ⟨h.1.up (by simp only [rgP] <;> omega) (by unfold MK; omega), (up_ne (by omega)).trans (h.2.1), trivial⟩) (pc' := 137) rfl ?_
                      refine T_ld zk_164_137 rfl rfl rfl (pc' := 138) rfl ?_
                      refine T_getR (t' := 36) (i' := 0) (k' := 0) zk_164_138 rfl rfl rfl vd_35 (pc' := 141) rfl ?_
                      refine T_op zk_164_141 rfl (X_si (v := 496) (by decide)) (pc' := 144) rfl ?_
                      refine T_ld zk_164_144 rfl rfl rfl (pc' := 146) rfl ?_
                      refine T_opc (w := 496) zk_164_146 rfl X_add (by omega) (pc' := 147) rfl ?_
                      refine T_ld zk_164_147 rfl rfl rfl (pc' := 149) rfl ?_
                      refine G_iast (J' := (fun σ' => IF (MK 448 568 641 642) σ σ' ∧ σ' 36 0 0 641 = 0 ∧ True)) (ln := 646) zk_164_149 rfl rfl (vd_36 (by omega)) (by omega) (by omega) (by omega) (fun σ' h => ⟨h.1.up (by simp only [rgP] <;> omega) (by unfold MK; omega), (up_ne (by omega)).trans (h.2.1), trivial⟩) (pc' := 150) rfl ?_
                      refine T_op zk_164_150 rfl (X_si (v := 508) (by decide)) (pc' := 153) rfl ?_
                      refine T_st (L' := [(0, av 35 0 0), (1, iv p0), (2, iv p1), (3, iv p2), (4, iv p3), (5, iv p4), (6, iv 0), (7, iv 508)]) zk_164_153 (nL := 8) rfl rfl rfl rfl rfl (pc' := 155) rfl ?_
                      refine T_ld zk_164_155 rfl rfl rfl (pc' := 157) rfl ?_
                      refine T_op zk_164_157 rfl (X_si (v := 556) (by decide)) (pc' := 160) rfl ?_
                      refine T_icmp_gt zk_164_160 (by omega) (by omega) (pc' := 163) rfl (fun h29 => ?_) (fun h30 => ?_)
                      · exfalso; omega
                      ·
                        refine T_ld zk_164_163 rfl rfl rfl (pc' := 164) rfl ?_
                        refine T_getR (t' := 36) (i' := 0) (k' := 0) zk_164_164 rfl rfl rfl vd_35 (pc' := 167) rfl ?_
                        refine T_ld zk_164_167 rfl rfl rfl (pc' := 169) rfl ?_
                        refine T_ld zk_164_169 rfl rfl rfl (pc' := 171) rfl ?_
                        refine T_opc (w := 508) zk_164_171 rfl X_add (by omega) (pc' := 172) rfl ?_
                        refine T_op zk_164_172 rfl X_ic (pc' := 173) rfl ?_
                        refine G_iast (J' := (fun σ' => IF (MK 448 568 641 642) σ σ' ∧ σ' 36 0 0 641 = 0 ∧ True)) (ln := 646) zk_164_173 rfl rfl (vd_36 (by omega)) (by omega) (by omega) (by omega) (fun σ' h => ⟨h.1.up (by simp only [rgP] <;> omega) (by unfold MK; omega), (up_ne (by omega)).trans (h.2.1), trivial⟩) (pc' := 174) rfl ?_
                        refine T_iinc (L' := [(0, av 35 0 0), (1, iv p0), (2, iv p1), (3, iv p2), (4, iv p3), (5, iv p4), (6, iv 0), (7, iv (508 + 12))]) zk_164_174 (nL := 8) rfl rfl rfl rfl (pc' := 177) rfl ?_
                        refine T_goto zk_164_177 ?_
                        refine T_ld zk_164_155 rfl rfl rfl (pc' := 157) rfl ?_
                        refine T_op zk_164_157 rfl (X_si (v := 556) (by decide)) (pc' := 160) rfl ?_
                        refine T_icmp_gt zk_164_160 (by omega) (by omega) (pc' := 163) rfl (fun h31 => ?_) (fun h32 => ?_)
                        · exfalso; omega
                        ·
                          refine T_ld zk_164_163 rfl rfl rfl (pc' := 164) rfl ?_
                          refine T_getR (t' := 36) (i' := 0) (k' := 0) zk_164_164 rfl rfl rfl vd_35 (pc' := 167) rfl ?_
                          refine T_ld zk_164_167 rfl rfl rfl (pc' := 169) rfl ?_
                          refine T_ld zk_164_169 rfl rfl rfl (pc' := 171) rfl ?_
                          refine T_opc (w := 520) zk_164_171 rfl X_add (by omega) (pc' := 172) rfl ?_
                          refine T_op zk_164_172 rfl X_ic (pc' := 173) rfl ?_
                          refine G_iast (J' := (fun σ' => IF (MK 448 568 641 642) σ σ' ∧ σ' 36 0 0 641 = 0 ∧ True)) (ln := 646) zk_164_173 rfl rfl (vd_36 (by omega)) (by omega) (by omega) (by omega) (fun σ' h => ⟨h.1.up (by simp only [rgP] <;> omega) (by unfold MK; omega), (up_ne (by omega)).trans (h.2.1), trivial⟩) (pc' := 174) rfl ?_
                          refine T_iinc (L' := [(0, av 35 0 0), (1, iv p0), (2, iv p1), (3, iv p2), (4, iv p3), (5, iv p4), (6, iv 0), (7, iv (508 + 12 + 12))]) zk_164_174 (nL := 8) rfl rfl rfl rfl (pc' := 177) rfl ?_
                          refine T_goto zk_164_177 ?_
                          refine T_ld zk_164_155 rfl rfl rfl (pc' := 157) rfl ?_
                          refine T_op zk_164_157 rfl (X_si (v := 556) (by decide)) (pc' := 160) rfl ?_
                          refine T_icmp_gt zk_164_160 (by omega) (by omega) (pc' := 163) rfl (fun h33 => ?_) (fun h34 => ?_)
                          · exfalso; omega
                          ·
                            refine T_ld zk_164_163 rfl rfl rfl (pc' := 164) rfl ?_
                            refine T_getR (t' := 36) (i' := 0) (k' := 0) zk_164_164 rfl rfl rfl vd_35 (pc' := 167) rfl ?_
                            refine T_ld zk_164_167 rfl rfl rfl (pc' := 169) rfl ?_
                            refine T_ld zk_164_169 rfl rfl rfl (pc' := 171) rfl ?_
                            refine T_opc (w := 532) zk_164_171 rfl X_add (by omega) (pc' := 172) rfl ?_
                            refine T_op zk_164_172 rfl X_ic (pc' := 173) rfl ?_
                            refine G_iast (J' := (fun σ' => IF (MK 448 568 641 642) σ σ' ∧ σ' 36 0 0 641 = 0 ∧ True)) (ln := 646) zk_164_173 rfl rfl (vd_36 (by omega)) (by omega) (by omega) (by omega) (fun σ' h => ⟨h.1.up (by simp only [rgP] <;> omega) (by unfold MK; omega), (up_ne (by omega)).trans (h.2.1), trivial⟩) (pc' := 174) rfl ?_
                            refine T_iinc (L' := [(0, av 35 0 0), (1, iv p0), (2, iv p1), (3, iv p2), (4, iv p3), (5, iv p4), (6, iv 0), (7, iv (508 + 12 + 12 + 12))]) zk_164_174 (nL := 8) rfl rfl rfl rfl (pc' := 177) rfl ?_
                            refine T_goto zk_164_177 ?_
                            refine T_ld zk_164_155 rfl rfl rfl (pc' := 157) rfl ?_
                            refine T_op zk_164_157 rfl (X_si (v := 556) (by decide)) (pc' := 160) rfl ?_
                            refine T_icmp_gt zk_164_160 (by omega) (by omega) (pc' := 163) rfl (fun h35 => ?_) (fun h36 => ?_)
                            · exfalso; omega
                            ·
                              refine T_ld zk_164_163 rfl rfl rfl (pc' := 164) rfl ?_
                              refine T_getR (t' := 36) (i' := 0) (k' := 0) zk_164_164 rfl rfl rfl vd_35 (pc' := 167) rfl ?_
                              refine T_ld zk_164_167 rfl rfl rfl (pc' := 169) rfl ?_
                              refine T_ld zk_164_169 rfl rfl rfl (pc' := 171) rfl ?_
                              refine T_opc (w := 544) zk_164_171 rfl X_add (by omega) (pc' := 172) rfl ?_
                              refine T_op zk_164_172 rfl X_ic (pc' := 173) rfl ?_
                              refine G_iast (J' := (fun σ' => IF (MK 448 568 641 642) σ σ' ∧ σ' 36 0 0 641 = 0 ∧ True)) (ln := 646) zk_164_173 rfl rfl (vd_36 (by omega)) (by omega) (by omega) (by omega) (fun σ' h => ⟨h.1.up (by simp only [rgP] <;> omega) (by unfold MK; omega), (up_ne (by omega)).trans (h.2.1), trivial⟩) (pc' := 174) rfl ?_
                              refine T_iinc (L' := [(0, av 35 0 0), (1, iv p0), (2, iv p1), (3, iv p2), (4, iv p3), (5, iv p4), (6, iv 0), (7, iv (508 + 12 + 12 + 12 + 12))]) zk_164_174 (nL := 8) rfl rfl rfl rfl (pc' := 177) rfl ?_
                              refine T_goto zk_164_177 ?_
                              refine T_ld zk_164_155 rfl rfl rfl (pc' := 157) rfl ?_
                              refine T_op zk_164_157 rfl (X_si (v := 556) (by decide)) (pc' := 160) rfl ?_
                              refine T_icmp_gt zk_164_160 (by omega) (by omega) (pc' := 163) rfl (fun h37 => ?_) (fun h38 => ?_)
                              · exfalso; omega
                              ·
                                refine T_ld zk_164_163 rfl rfl rfl (pc' := 164) rfl ?_
                                refine T_getR (t' := 36) (i' := 0) (k' := 0) zk_164_164 rfl rfl rfl vd_35 (pc' := 167) rfl ?_
                                refine T_ld zk_164_167 rfl rfl rfl (pc' := 169) rfl ?_
                                refine T_ld zk_164_169 rfl rfl rfl (pc' := 171) rfl ?_
                                refine T_opc (w := 556) zk_164_171 rfl X_add (by omega) (pc' := 172) rfl ?_
                                refine T_op zk_164_172 rfl X_ic (pc' := 173) rfl ?_
                                refine G_iast (J' := (fun σ' => IF (MK 448 568 641 642) σ σ' ∧ σ' 36 0 0 641 = 0 ∧ True)) (ln := 646) zk_164_173 rfl rfl (vd_36 (by omega)) (by omega) (by omega) (by omega) (fun σ' h => ⟨h.1.up (by simp only [rgP] <;> omega) (by unfold MK; omega), (up_ne (by omega)).trans (h.2.1), trivial⟩) (pc' := 174) rfl ?_
                                refine T_iinc (L' := [(0, av 35 0 0), (1, iv p0), (2, iv p1), (3, iv p2), (4, iv p3), (5, iv p4), (6, iv 0), (7, iv (508 + 12 + 12 + 12 + 12 + 12))]) zk_164_174 (nL := 8) rfl rfl rfl rfl (pc' := 177) rfl ?_
                                refine T_goto zk_164_177 ?_
                                refine T_ld zk_164_155 rfl rfl rfl (pc' := 157) rfl ?_
                                refine T_op zk_164_157 rfl (X_si (v := 556) (by decide)) (pc' := 160) rfl ?_
                                refine T_icmp_gt zk_164_160 (by omega) (by omega) (pc' := 163) rfl (fun h39 => ?_) (fun h40 => ?_)
                                ·
                                  refine T_ld zk_164_180 rfl rfl rfl (pc' := 181) rfl ?_
                                  refine T_getR (t' := 36) (i' := 0) (k' := 0) zk_164_181 rfl rfl rfl vd_35 (pc' := 184) rfl ?_
                                  refine T_op zk_164_184 rfl (X_si (v := 641) (by decide)) (pc' := 187) rfl ?_
                                  refine T_op (st' := [iv 641, av 36 0 0, iv 641, av 36 0 0]) zk_164_187 rfl rfl (pc' := 188) rfl ?_
                                  refine G_ialdX (w := 0) (ln := 646) zk_164_188 rfl rfl (vd_36 (by omega)) (by omega) (by omega) (by omega) (fun σ' h => h.2.1) (pc' := 189) rfl ?_
                                  refine T_op (st' := [iv 0, iv 641, av 36 0 0, iv 0]) zk_164_189 rfl rfl (pc' := 190) rfl ?_
                                  refine T_op zk_164_190 rfl X_ic (pc' := 191) rfl ?_
                                  refine T_opc (w := 1) zk_164_191 rfl X_add (by omega) (pc' := 192) rfl ?_
                                  refine G_iast (J' := (fun σ' => IF (MK 448 568 641 642) σ σ' ∧ True)) (ln := 646) zk_164_192 rfl rfl (vd_36 (by omega)) (by omega) (by omega) (by omega) (fun σ' h => ⟨h.1.up (by simp only [rgP] <;> omega) (by unfold MK; omega), trivial⟩) (pc' := 193) rfl ?_
                                  exact T_iret zk_164_193 rfl (fun σ' h => ⟨_, rfl, (by omega), h.1, trivial⟩)
                                · exfalso; omega
                    · exfalso; omega
                  ·
                    refine T_ld zk_164_57 rfl rfl rfl (pc' := 58) rfl ?_
                    refine T_op zk_164_58 rfl (X_bi (v := -6) (by decide)) (pc' := 60) rfl ?_
                    refine T_calli (K := fun y41 σ' => (y41 = (-6)) ∧ (fun σ' => IF (MK 448 568 641 642) σ σ' ∧ σ' 36 0 0 641 = 0 ∧ True) σ') (r := []) zk_164_60 rfl rfl rfl rfl rfl rfl (Or.inr ⟨_, _, _, _, rfl, vd_35, rfl⟩) (fun σ' h => (m_123 ((-6)) (by omega) σ' h.1.1 ).le (Nat.le_of_ble_eq_true rfl) (fun v σ2 ⟨y, h1, h2, h3, h4⟩ => ⟨y, h1, h2, h.1.tr h3 (fun t i k j h => by unfold MT at h; unfold MK; omega), (h3.2 _ _ _ _ (by unfold MT; omega)).trans (h.2.1), trivial⟩)) (pc' := 63) rfl (fun y41 => ?_)
                    refine G_ex (fun hy41 => ?_)
                    obtain rfl : y41 = (-6) := by omega
                    exact T_iret zk_164_63 rfl (fun σ' h => ⟨_, rfl, (by omega), h.1, trivial⟩)
      ·
        refine T_ld zk_164_16 rfl rfl rfl (pc' := 17) rfl ?_
        refine T_op zk_164_17 rfl X_ic (pc' := 18) rfl ?_
        refine T_calli (K := fun y42 σ' => (y42 = (-1)) ∧ (fun σ' => IF (MK 448 568 641 642) σ σ' ∧ σ' 36 0 0 641 = 0 ∧ True) σ') (r := []) zk_164_18 rfl rfl rfl rfl rfl rfl (Or.inr ⟨_, _, _, _, rfl, vd_35, rfl⟩) (fun σ' h => (m_123 ((-1)) (by omega) σ' h.1.1 ).le (Nat.le_of_ble_eq_true rfl) (fun v σ2 ⟨y, h1, h2, h3, h4⟩ => ⟨y, h1, h2, h.1.tr h3 (fun t i k j h => by unfold MT at h; unfold MK; omega), (h3.2 _ _ _ _ (by unfold MT; omega)).trans (h.2.1), trivial⟩)) (pc' := 21) rfl (fun y42 => ?_)
        refine G_ex (fun hy42 => ?_)
        obtain rfl : y42 = (-1) := by omega
        exact T_iret zk_164_21 rfl (fun σ' h => ⟨_, rfl, (by omega), h.1, trivial⟩)
/-- WModel.raise -/
theorem m_raise {xs : Nat × (Nat → Int32)} (p0 : Int) (p1 : Int) (h0 : -2147483648 ≤ p0 ∧ p0 ≤ 2147483647) (h1 : -2147483648 ≤ p1 ∧ p1 ≤ 2147483647) (σ : ZS) (hI : Inv σ) (hm : ∀ t i k j, 35 ≤ t → σ t i k j = σ0 t i k j)  : CT xs 2 165 [av 35 0 0, iv p0, iv p1] σ (fun v σ' => ∃ y, v = some (iv y) ∧ (y = -1) ∧ IF (MT 49 49 49 49) σ σ' ∧ (True)) := by
  refine G_ct (J := (fun σ' => IF (MT 49 49 49 49) σ σ' ∧ True)) (L := [(0, av 35 0 0), (1, iv p0), (2, iv p1)]) (nL := 3) rfl rfl rfl ⟨IF.rf hI, trivial⟩ ?_
  refine T_ld zk_165_0 rfl rfl rfl (pc' := 1) rfl ?_
  refine T_ld zk_165_1 rfl rfl rfl (pc' := 2) rfl ?_
  refine T_calli (K := fun y1 σ' => (y1 = 0) ∧ (fun σ' => IF (MT 49 49 49 49) σ σ' ∧ True) σ') (r := []) zk_165_2 rfl rfl rfl rfl rfl rfl (Or.inr ⟨_, _, _, _, rfl, vd_35, rfl⟩) (fun σ' h => (m_139e p0 (by omega) σ' h.1.1 ((h.1.2 _ _ _ _ (by unfold MT; omega)).trans ((hm _ _ _ _ (by decide)).trans (s0_z (by omega))))).le (Nat.le_of_ble_eq_true rfl) (fun v σ2 ⟨y, h1, h2, h3, h4⟩ => ⟨y, h1, h2, h.1.tr h3 MN_sub, trivial⟩)) (pc' := 5) rfl (fun y1 => ?_)
  refine G_ex (fun hy1 => ?_)
  obtain rfl : y1 = 0 := by omega
  refine T_if_ne zk_165_5 (by omega) (pc' := 8) rfl (fun h2 => ?_) (fun h3 => ?_)
  · exfalso; omega
  ·
    refine T_ld zk_165_8 rfl rfl rfl (pc' := 9) rfl ?_
    refine T_op zk_165_9 rfl X_ic (pc' := 10) rfl ?_
    refine T_calli (K := fun y4 σ' => (y4 = (-1)) ∧ (fun σ' => IF (MT 49 49 49 49) σ σ' ∧ True) σ') (r := []) zk_165_10 rfl rfl rfl rfl rfl rfl (Or.inr ⟨_, _, _, _, rfl, vd_35, rfl⟩) (fun σ' h => (m_123 ((-1)) (by omega) σ' h.1.1 ).le (Nat.le_of_ble_eq_true rfl) (fun v σ2 ⟨y, h1, h2, h3, h4⟩ => ⟨y, h1, h2, h.1.tr h3 (fun _ _ _ _ h => h), trivial⟩)) (pc' := 13) rfl (fun y4 => ?_)
    refine G_ex (fun hy4 => ?_)
    obtain rfl : y4 = (-1) := by omega
    exact T_iret zk_165_13 rfl (fun σ' h => ⟨_, rfl, (by omega), h.1, trivial⟩)
/-- WModel.about -/
theorem m_about {xs : Nat × (Nat → Int32)} (p0 : Int) (p1 : Int) (h0 : -2147483648 ≤ p0 ∧ p0 ≤ 2147483647) (h1 : -2147483648 ≤ p1 ∧ p1 ≤ 2147483647) (σ : ZS) (hI : Inv σ) (hm : ∀ t i k j, 35 ≤ t → σ t i k j = σ0 t i k j)  : CT xs 2 166 [av 35 0 0, iv p0, iv p1] σ (fun v σ' => ∃ y, v = some (iv y) ∧ (y = -1) ∧ IF MN σ σ' ∧ (True)) := by
  refine G_ct (J := (fun σ' => IF MN σ σ' ∧ True)) (L := [(0, av 35 0 0), (1, iv p0), (2, iv p1)]) (nL := 3) rfl rfl rfl ⟨IF.rf hI, trivial⟩ ?_
  refine T_ld zk_166_0 rfl rfl rfl (pc' := 1) rfl ?_
  refine T_ld zk_166_1 rfl rfl rfl (pc' := 2) rfl ?_
  refine T_calli (K := fun y1 σ' => (y1 = 0) ∧ (fun σ' => IF MN σ σ' ∧ True) σ') (r := []) zk_166_2 rfl rfl rfl rfl rfl rfl (Or.inr ⟨_, _, _, _, rfl, vd_35, rfl⟩) (fun σ' h => (m_139e p0 (by omega) σ' h.1.1 ((h.1.2 _ _ _ _ (fun q => q)).trans ((hm _ _ _ _ (by decide)).trans (s0_z (by omega))))).le (Nat.le_of_ble_eq_true rfl) (fun v σ2 ⟨y, h1, h2, h3, h4⟩ => ⟨y, h1, h2, h.1.tr h3 MN_sub, trivial⟩)) (pc' := 5) rfl (fun y1 => ?_)
  refine G_ex (fun hy1 => ?_)
  obtain rfl : y1 = 0 := by omega
  refine T_if_ne zk_166_5 (by omega) (pc' := 8) rfl (fun h2 => ?_) (fun h3 => ?_)
  · exfalso; omega
  ·
    refine T_op zk_166_8 rfl X_ic (pc' := 9) rfl ?_
    exact T_iret zk_166_9 rfl (fun σ' h => ⟨_, rfl, (by omega), h.1, trivial⟩)
/-- WModel.boat -/
theorem m_boat {xs : Nat × (Nat → Int32)} (p0 : Int) (p1 : Int) (p2 : Int) (p3 : Int) (p4 : Int) (h0 : -2147483648 ≤ p0 ∧ p0 ≤ 2147483647) (h1 : -2147483648 ≤ p1 ∧ p1 ≤ 2147483647) (h2 : -2147483648 ≤ p2 ∧ p2 ≤ 2147483647) (h3 : -2147483648 ≤ p3 ∧ p3 ≤ 2147483647) (h4 : -2147483648 ≤ p4 ∧ p4 ≤ 2147483647) (σ : ZS) (hI : Inv σ) (hm : ∀ t i k j, 35 ≤ t → σ t i k j = σ0 t i k j)  : CT xs 2 168 [av 35 0 0, iv p0, iv p1, iv p2, iv p3, iv p4] σ (fun v σ' => ∃ y, v = some (iv y) ∧ ((y = -1 ∧ (¬ (0 ≤ p0 ∧ p0 ≤ 24))) ∨ (y = -6 ∧ ¬ (¬ (0 ≤ p0 ∧ p0 ≤ 24)) ∧ (¬ (1 ≤ p1 ∧ p1 ≤ 60) ∨ ¬ (1 ≤ p2 ∧ p2 ≤ 99) ∨ ¬ (1 ≤ p3 ∧ p3 ≤ 9) ∨ ¬ (0 ≤ p4 ∧ p4 ≤ 9))) ∨ (y = 0 ∧ ¬ (¬ (0 ≤ p0 ∧ p0 ≤ 24)) ∧ ¬ (¬ (1 ≤ p1 ∧ p1 ≤ 60) ∨ ¬ (1 ≤ p2 ∧ p2 ≤ 99) ∨ ¬ (1 ≤ p3 ∧ p3 ≤ 9) ∨ ¬ (0 ≤ p4 ∧ p4 ≤ 9)))) ∧ IF (MK 568 628 642 643) σ σ' ∧ (True)) := by
  refine G_ct (J := (fun σ' => IF (MK 568 628 642 643) σ σ' ∧ σ' 36 0 0 642 = 0 ∧ True)) (L := [(0, av 35 0 0), (1, iv p0), (2, iv p1), (3, iv p2), (4, iv p3), (5, iv p4)]) (nL := 8) rfl rfl rfl ⟨IF.rf hI, ((hm _ _ _ _ (by decide)).trans (s0_z (by omega))), trivial⟩ ?_
  refine T_ld zk_168_0 rfl rfl rfl (pc' := 1) rfl ?_
  refine T_calli (K := fun y1 σ' => ((y1 = 0 ∧ (p0 < 0 ∨ 24 < p0)) ∨ (y1 = 1 ∧ 0 ≤ p0 ∧ p0 ≤ 24)) ∧ (fun σ' => IF (MK 568 628 642 643) σ σ' ∧ σ' 36 0 0 642 = 0 ∧ True) σ') (r := []) zk_168_1 rfl rfl rfl rfl rfl rfl (Or.inl (Or.inl rfl)) (fun σ' h => (m_124 p0 (by omega) σ' h.1.1 ).le (Nat.le_of_ble_eq_true rfl) (fun v σ2 ⟨y, h1, h2, h3, h4⟩ => ⟨y, h1, h2, h.1.tr h3 MN_sub, (h3.2 _ _ _ _ (fun q => q)).trans (h.2.1), trivial⟩)) (pc' := 4) rfl (fun y1 => ?_)
  refine G_ex (fun hy1 => ?_)
  refine T_if_ne zk_168_4 (by omega) (pc' := 7) rfl (fun h2 => ?_) (fun h3 => ?_)
  ·
    refine T_ld zk_168_13 rfl rfl rfl (pc' := 14) rfl ?_
    refine T_op zk_168_14 rfl X_ic (pc' := 15) rfl ?_
    refine T_icmp_lt zk_168_15 (by omega) (by omega) (pc' := 18) rfl (fun h4 => ?_) (fun h5 => ?_)
    ·
      refine T_ld zk_168_60 rfl rfl rfl (pc' := 61) rfl ?_
      refine T_op zk_168_61 rfl (X_bi (v := -6) (by decide)) (pc' := 63) rfl ?_
      refine T_calli (K := fun y6 σ' => (y6 = (-6)) ∧ (fun σ' => IF (MK 568 628 642 643) σ σ' ∧ σ' 36 0 0 642 = 0 ∧ True) σ') (r := []) zk_168_63 rfl rfl rfl rfl rfl rfl (Or.inr ⟨_, _, _, _, rfl, vd_35, rfl⟩) (fun σ' h => (m_123 ((-6)) (by omega) σ' h.1.1 ).le (Nat.le_of_ble_eq_true rfl) (fun v σ2 ⟨y, h1, h2, h3, h4⟩ => ⟨y, h1, h2, h.1.tr h3 (fun t i k j h => by unfold MT at h; unfold MK; omega), (h3.2 _ _ _ _ (by unfold MT; omega)).trans (h.2.1), trivial⟩)) (pc' := 66) rfl (fun y6 => ?_)
      refine G_ex (fun hy6 => ?_)
      obtain rfl : y6 = (-6) := by omega
      exact T_iret zk_168_66 rfl (fun σ' h => ⟨_, rfl, (by omega), h.1, trivial⟩)
    ·
      refine T_ld zk_168_18 rfl rfl rfl (pc' := 19) rfl ?_
      refine T_op zk_168_19 rfl (X_bi (v := 60) (by decide)) (pc' := 21) rfl ?_
      refine T_icmp_gt zk_168_21 (by omega) (by omega) (pc' := 24) rfl (fun h7 => ?_) (fun h8 => ?_)
      ·
        refine T_ld zk_168_60 rfl rfl rfl (pc' := 61) rfl ?_
        refine T_op zk_168_61 rfl (X_bi (v := -6) (by decide)) (pc' := 63) rfl ?_
        refine T_calli (K := fun y9 σ' => (y9 = (-6)) ∧ (fun σ' => IF (MK 568 628 642 643) σ σ' ∧ σ' 36 0 0 642 = 0 ∧ True) σ') (r := []) zk_168_63 rfl rfl rfl rfl rfl rfl (Or.inr ⟨_, _, _, _, rfl, vd_35, rfl⟩) (fun σ' h => (m_123 ((-6)) (by omega) σ' h.1.1 ).le (Nat.le_of_ble_eq_true rfl) (fun v σ2 ⟨y, h1, h2, h3, h4⟩ => ⟨y, h1, h2, h.1.tr h3 (fun t i k j h => by unfold MT at h; unfold MK; omega), (h3.2 _ _ _ _ (by unfold MT; omega)).trans (h.2.1), trivial⟩)) (pc' := 66) rfl (fun y9 => ?_)
        refine G_ex (fun hy9 => ?_)
        obtain rfl : y9 = (-6) := by omega
        exact T_iret zk_168_66 rfl (fun σ' h => ⟨_, rfl, (by omega), h.1, trivial⟩)
      ·
        refine T_ld zk_168_24 rfl rfl rfl (pc' := 25) rfl ?_
        refine T_op zk_168_25 rfl X_ic (pc' := 26) rfl ?_
        refine T_icmp_lt zk_168_26 (by omega) (by omega) (pc' := 29) rfl (fun h10 => ?_) (fun h11 => ?_)
        ·
          refine T_ld zk_168_60 rfl rfl rfl (pc' := 61) rfl ?_
          refine T_op zk_168_61 rfl (X_bi (v := -6) (by decide)) (pc' := 63) rfl ?_
          refine T_calli (K := fun y12 σ' => (y12 = (-6)) ∧ (fun σ' => IF (MK 568 628 642 643) σ σ' ∧ σ' 36 0 0 642 = 0 ∧ True) σ') (r := []) zk_168_63 rfl rfl rfl rfl rfl rfl (Or.inr ⟨_, _, _, _, rfl, vd_35, rfl⟩) (fun σ' h => (m_123 ((-6)) (by omega) σ' h.1.1 ).le (Nat.le_of_ble_eq_true rfl) (fun v σ2 ⟨y, h1, h2, h3, h4⟩ => ⟨y, h1, h2, h.1.tr h3 (fun t i k j h => by unfold MT at h; unfold MK; omega), (h3.2 _ _ _ _ (by unfold MT; omega)).trans (h.2.1), trivial⟩)) (pc' := 66) rfl (fun y12 => ?_)
          refine G_ex (fun hy12 => ?_)
          obtain rfl : y12 = (-6) := by omega
          exact T_iret zk_168_66 rfl (fun σ' h => ⟨_, rfl, (by omega), h.1, trivial⟩)
        ·
          refine T_ld zk_168_29 rfl rfl rfl (pc' := 30) rfl ?_
          refine T_op zk_168_30 rfl (X_bi (v := 99) (by decide)) (pc' := 32) rfl ?_
          refine T_icmp_gt zk_168_32 (by omega) (by omega) (pc' := 35) rfl (fun h13 => ?_) (fun h14 => ?_)
          ·
            refine T_ld zk_168_60 rfl rfl rfl (pc' := 61) rfl ?_
            refine T_op zk_168_61 rfl (X_bi (v := -6) (by decide)) (pc' := 63) rfl ?_
            refine T_calli (K := fun y15 σ' => (y15 = (-6)) ∧ (fun σ' => IF (MK 568 628 642 643) σ σ' ∧ σ' 36 0 0 642 = 0 ∧ True) σ') (r := []) zk_168_63 rfl rfl rfl rfl rfl rfl (Or.inr ⟨_, _, _, _, rfl, vd_35, rfl⟩) (fun σ' h => (m_123 ((-6)) (by omega) σ' h.1.1 ).le (Nat.le_of_ble_eq_true rfl) (fun v σ2 ⟨y, h1, h2, h3, h4⟩ => ⟨y, h1, h2, h.1.tr h3 (fun t i k j h => by unfold MT at h; unfold MK; omega), (h3.2 _ _ _ _ (by unfold MT; omega)).trans (h.2.1), trivial⟩)) (pc' := 66) rfl (fun y15 => ?_)
            refine G_ex (fun hy15 => ?_)
            obtain rfl : y15 = (-6) := by omega
            exact T_iret zk_168_66 rfl (fun σ' h => ⟨_, rfl, (by omega), h.1, trivial⟩)
          ·
            refine T_ld zk_168_35 rfl rfl rfl (pc' := 37) rfl ?_
            refine T_op zk_168_37 rfl X_ic (pc' := 38) rfl ?_
            refine T_icmp_lt zk_168_38 (by omega) (by omega) (pc' := 41) rfl (fun h16 => ?_) (fun h17 => ?_)
            ·
              refine T_ld zk_168_60 rfl rfl rfl (pc' := 61) rfl ?_
              refine T_op zk_168_61 rfl (X_bi (v := -6) (by decide)) (pc' := 63) rfl ?_
              refine T_calli (K := fun y18 σ' => (y18 = (-6)) ∧ (fun σ' => IF (MK 568 628 642 643) σ σ' ∧ σ' 36 0 0 642 = 0 ∧ True) σ') (r := []) zk_168_63 rfl rfl rfl rfl rfl rfl (Or.inr ⟨_, _, _, _, rfl, vd_35, rfl⟩) (fun σ' h => (m_123 ((-6)) (by omega) σ' h.1.1 ).le (Nat.le_of_ble_eq_true rfl) (fun v σ2 ⟨y, h1, h2, h3, h4⟩ => ⟨y, h1, h2, h.1.tr h3 (fun t i k j h => by unfold MT at h; unfold MK; omega), (h3.2 _ _ _ _ (by unfold MT; omega)).trans (h.2.1), trivial⟩)) (pc' := 66) rfl (fun y18 => ?_)
              refine G_ex (fun hy18 => ?_)
              obtain rfl : y18 = (-6) := by omega
              exact T_iret zk_168_66 rfl (fun σ' h => ⟨_, rfl, (by omega), h.1, trivial⟩)
            ·
              refine T_ld zk_168_41 rfl rfl rfl (pc' := 43) rfl ?_
              refine T_op zk_168_43 rfl (X_bi (v := 9) (by decide)) (pc' := 45) rfl ?_
              refine T_icmp_gt zk_168_45 (by omega) (by omega) (pc' := 48) rfl (fun h19 => ?_) (fun h20 => ?_)
              ·
                refine T_ld zk_168_60 rfl rfl rfl (pc' := 61) rfl ?_
                refine T_op zk_168_61 rfl (X_bi (v := -6) (by decide)) (pc' := 63) rfl ?_
                refine T_calli (K := fun y21 σ' => (y21 = (-6)) ∧ (fun σ' => IF (MK 568 628 642 643) σ σ' ∧ σ' 36 0 0 642 = 0 ∧ True) σ') (r := []) zk_168_63 rfl rfl rfl rfl rfl rfl (Or.inr ⟨_, _, _, _, rfl, vd_35, rfl⟩) (fun σ' h => (m_123 ((-6)) (by omega) σ' h.1.1 ).le (Nat.le_of_ble_eq_true rfl) (fun v σ2 ⟨y, h1, h2, h3, h4⟩ => ⟨y, h1, h2, h.1.tr h3 (fun t i k j h => by unfold MT at h; unfold MK; omega), (h3.2 _ _ _ _ (by unfold MT; omega)).trans (h.2.1), trivial⟩)) (pc' := 66) rfl (fun y21 => ?_)
                refine G_ex (fun hy21 => ?_)
                obtain rfl : y21 = (-6) := by omega
                exact T_iret zk_168_66 rfl (fun σ' h => ⟨_, rfl, (by omega), h.1, trivial⟩)
              ·
                refine T_ld zk_168_48 rfl rfl rfl (pc' := 50) rfl ?_
                refine T_if_lt zk_168_50 (by omega) (pc' := 53) rfl (fun h22 => ?_) (fun h23 => ?_)
                ·
                  refine T_ld zk_168_60 rfl rfl rfl (pc' := 61) rfl ?_
                  refine T_op zk_168_61 rfl (X_bi (v := -6) (by decide)) (pc' := 63) rfl ?_
                  refine T_calli (K := fun y24 σ' => (y24 = (-6)) ∧ (fun σ' => IF (MK 568 628 642 643) σ σ' ∧ σ' 36 0 0 642 = 0 ∧ True) σ') (r := []) zk_168_63 rfl rfl rfl rfl rfl rfl (Or.inr ⟨_, _, _, _, rfl, vd_35, rfl⟩) (fun σ' h => (m_123 ((-6)) (by omega) σ' h.1.1 ).le (Nat.le_of_ble_eq_true rfl) (fun v σ2 ⟨y, h1, h2, h3, h4⟩ => ⟨y, h1, h2, h.1.tr h3 (fun t i k j h => by unfold MT at h; unfold MK; omega), (h3.2 _ _ _ _ (by unfold MT; omega)).trans (h.2.1), trivial⟩)) (pc' := 66) rfl (fun y24 => ?_)
                  refine G_ex (fun hy24 => ?_)
                  obtain rfl : y24 = (-6) := by omega
                  exact T_iret zk_168_66 rfl (fun σ' h => ⟨_, rfl, (by omega), h.1, trivial⟩)
                ·
                  refine T_ld zk_168_53 rfl rfl rfl (pc' := 55) rfl ?_
                  refine T_op zk_168_55 rfl (X_bi (v := 9) (by decide)) (pc' := 57) rfl ?_
                  refine T_icmp_le zk_168_57 (by omega) (by omega) (pc' := 60) rfl (fun h25 => ?_) (fun h26 => ?_)
                  ·
                    refine T_ld zk_168_67 rfl rfl rfl (pc' := 68) rfl ?_
                    refine T_getR (t' := 36) (i' := 0) (k' := 0) zk_168_68 rfl rfl rfl vd_35 (pc' := 71) rfl ?_
                    refine T_op zk_168_71 rfl (X_si (v := 642) (by decide)) (pc' := 74) rfl ?_
                    refine G_ialdX (w := 0) (ln := 646) zk_168_74 rfl rfl (vd_36 (by omega)) (by omega) (by omega) (by omega) (fun σ' h => h.2.1) (pc' := 75) rfl ?_
                    refine T_st (L' := [(0, av 35 0 0), (1, iv p0), (2, iv p1), (3, iv p2), (4, iv p3), (5, iv p4), (6, iv 0)]) zk_168_75 (nL := 8) rfl rfl rfl rfl rfl (pc' := 77) rfl ?_
                    refine T_ld zk_168_77 rfl rfl rfl (pc' := 79) rfl ?_
                    refine T_op zk_168_79 rfl (X_bi (v := 6) (by decide)) (pc' := 81) rfl ?_
                    refine T_icmp_ne zk_168_81 (by omega) (by omega) (pc' := 84) rfl (fun h27 => ?_) (fun h28 => ?_)
                    ·
                      refine T_ld zk_168_91 rfl rfl rfl (pc' := 92) rfl ?_
                      refine T_getR (t' := 36) (i' := 0) (k' := 0) zk_168_92 rfl rfl rfl vd_35 (pc' := 95) rfl ?_
                      refine T_op zk_168_95 rfl (X_si (v := 568) (by decide)) (pc' := 98) rfl ?_
                      refine T_ld zk_168_98 rfl rfl rfl (pc' := 100) rfl ?_
                      refine T_opc (w := 568) zk_168_100 rfl X_add (by omega) (pc' := 101) rfl ?_
                      refine T_ld zk_168_101 rfl rfl rfl (pc' := 102) rfl ?_
                      refine G_iast (J' := (fun σ' => IF (MK 568 628 642 643) σ σ' ∧ σ' 36 0 0 642 = 0 ∧ True)) (ln := 646) zk_168_102 rfl rfl (vd_36 (by omega)) (by omega) (by omega) (by omega) (fun σ' h => ⟨h.1.up (by simp only [rgP] <;> omega) (by unfold MK; omega), (up_ne (by omega)).trans (h.2.1), trivial⟩) (pc' := 103) rfl ?_
                      refine T_ld zk_168_103 rfl rfl rfl (pc' := 104) rfl ?_
                      refine T_getR (t' := 36) (i' := 0) (k' := 0) zk_168_104 rfl rfl rfl vd_35 (pc' := 107) rfl ?_
                      refine T_op zk_168_107 rfl (X_si (v := 574) (by decide)) (pc' := 110) rfl ?_
                      refine T_ld zk_168_110 rfl rfl rfl (pc' := 112) rfl ?_
                      refine T_opc (w := 574) zk_168_112 rfl X_add (by omega) (pc' := 113) rfl ?_
                      refine T_ld zk_168_113 rfl rfl rfl (pc' := 114) rfl ?_
                      refine G_iast (J' := (fun σ' => IF (MK 568 628 642 643) σ σ' ∧ σ' 36 0 0 642 = 0 ∧ True)) (ln := 646) zk_168_114 rfl rfl (vd_36 (by omega)) (by omega) (by omega) (by omega) (fun σ' h => ⟨h.1.up (by simp only [rgP] <;> omega) (by unfold MK; omega), (up_ne (by omega)).trans (h.2.1), trivial⟩) (pc' := 115) rfl ?_
                      refine T_ld zk_168_115 rfl rfl rfl (pc' := 116) rfl ?_
                      refine T_getR (t' := 36) (i' := 0) (k' := 0) zk_168_116 rfl rfl rfl vd_35 (pc' := 119) rfl ?_
                      refine T_op zk_168_119 rfl (X_si (v := 580) (by decide)) (pc' := 122) rfl ?_
                      refine T_ld zk_168_122 rfl rfl rfl (pc' := 124) rfl ?_
                      refine T_opc (w := 580) zk_168_124 rfl X_add (by omega) (pc' := 125) rfl ?_
                      refine T_ld zk_168_125 rfl rfl rfl (pc' := 126) rfl ?_
                      refine G_iast (J' := (fun σ' => IF (MK 568 628 642 643) σ σ' ∧ σ' 36 0 0 642 = 0 ∧ True)) (ln := 646) zk_168_126 rfl rfl (vd_36 (by omega)) (by omega) (by omega) (by omega) (fun σ' h => ⟨h.1.up (by simp only [rgP] <;> omega) (by unfold MK; omega), (up_ne (by omega)).trans (h.2.1), trivial⟩) (pc' := 127) rfl ?_
                      refine T_ld zk_168_127 rfl rfl rfl (pc' := 128) rfl ?_
                      refine T_getR (t' := 36) (i' := 0) (k' := 0) zk_168_128 rfl rfl rfl vd_35 (pc' := 131) rfl ?_
                      refine T_op zk_168_131 rfl (X_si (v := 586) (by decide)) (pc' := 134) rfl ?_
                      refine T_ld zk_168_134 rfl rfl rfl (pc' := 136) rfl ?_
                      refine T_opc (w := 586) zk_168_136 rfl X_add (by omega) (pc' := 137) rfl ?_
                      refine T_ld zk_168_137 rfl rfl rfl (pc' := 139) rfl ?_
                      refine G_iast (J' := (fun σ' => IF (MK 568 628 642 643) σ σ' ∧ σ' 36 0 0 642 = 0 ∧ True)) (ln := 646) zk_168_139 rfl rfl (vd_36 (by omega)) (by omega) (by omega) (by omega) (fun σ' h => ⟨h.1.up (by simp only [rgP] <;> omega) (by unfold MK; omega), (up_ne (by omega)).trans (h.2.1), trivial⟩) (pc' := 140) rfl ?_
                      refine T_ld zk_168_140 rfl rfl rfl (pc' := 141) rfl ?_
                      refine T_getR (t' := 36) (i' := 0) (k' := 0) zk_168_141 rfl rfl rfl vd_35 (pc' := 144) rfl ?_
                      refine T_op zk_168_144 rfl (X_si (v := 592) (by decide)) (pc' := 147) rfl ?_
                      refine T_ld zk_168_147 rfl rfl rfl (pc' := 149) rfl ?_
                      refine T_opc (w := 592) zk_168_149 rfl X_add (by omega) (pc' := 150) rfl ?_
                      refine T_ld zk_168_150 rfl rfl rfl (pc' := 152) rfl ?_
                      refine G_iast (J' := (fun σ' => IF (MK 568 628 642 643) σ σ' ∧ σ' 36 0 0 642 = 0 ∧ True)) (ln := 646) zk_168_152 rfl rfl (vd_36 (by omega)) (by omega) (by omega) (by omega) (fun σ' h => ⟨h.1.up (by simp only [rgP] <;> omega) (by unfold MK; omega), (up_ne (by omega)).trans (h.2.1), trivial⟩) (pc' := 153) rfl ?_
                      refine T_ld zk_168_153 rfl rfl rfl (pc' := 154) rfl ?_
                      refine T_getR (t' := 36) (i' := 0) (k' := 0) zk_168_154 rfl rfl rfl vd_35 (pc' := 157) rfl ?_
                      refine T_op zk_168_157 rfl (X_si (v := 598) (by decide)) (pc' := 160) rfl ?_
                      refine T_ld zk_168_160 rfl rfl rfl (pc' := 162) rfl ?_
                      refine T_opc (w := 598) zk_168_162 rfl X_add (by omega) (pc' := 163) rfl ?_
                      refine T_op zk_168_163 rfl X_ic (pc' := 164) rfl ?_
                      refine G_iast (J' := (fun σ' => IF (MK 568 628 642 643) σ σ' ∧ σ' 36 0 0 642 = 0 ∧ True)) (ln := 646) zk_168_164 rfl rfl (vd_36 (by omega)) (by omega) (by omega) (by omega) (fun σ' h => ⟨h.1.up (by simp only [rgP] <;> omega) (by unfold MK; omega), (up_ne (by omega)).trans (h.2.1), trivial⟩) (pc' := 165) rfl ?_
                      refine T_op zk_168_165 rfl (X_si (v := 604) (by decide)) (pc' := 168) rfl ?_
                      refine T_st (L' := [(0, av 35 0 0), (1, iv p0), (2, iv p1), (3, iv p2), (4, iv p3), (5, iv p4), (6, iv 0), (7, iv 604)]) zk_168_168 (nL := 8) rfl rfl rfl rfl rfl (pc' := 170) rfl ?_
                      refine T_ld zk_168_170 rfl rfl rfl (pc' := 172) rfl ?_
                      refine T_op zk_168_172 rfl (X_si (v := 622) (by decide)) (pc' := 175) rfl ?_
                      refine T_icmp_gt zk_168_175 (by omega) (by omega) (pc' := 178) rfl (fun h29 => ?_) (fun h30 => ?_)
                      · exfalso; omega
                      ·
                        refine T_ld zk_168_178 rfl rfl rfl (pc' := 179) rfl ?_
                        refine T_getR (t' := 36) (i' := 0) (k' := 0) zk_168_179 rfl rfl rfl vd_35 (pc' := 182) rfl ?_
                        refine T_ld zk_168_182 rfl rfl rfl (pc' := 184) rfl ?_
                        refine T_ld zk_168_184 rfl rfl rfl (pc' := 186) rfl ?_
                        refine T_opc (w := 604) zk_168_186 rfl X_add (by omega) (pc' := 187) rfl ?_
                        refine T_op zk_168_187 rfl X_ic (pc' := 188) rfl ?_
                        refine G_iast (J' := (fun σ' => IF (MK 568 628 642 643) σ σ' ∧ σ' 36 0 0 642 = 0 ∧ True)) (ln := 646) zk_168_188 rfl rfl (vd_36 (by omega)) (by omega) (by omega) (by omega) (fun σ' h => ⟨h.1.up (by simp only [rgP] <;> omega) (by unfold MK; omega), (up_ne (by omega)).trans (h.2.1), trivial⟩) (pc' := 189) rfl ?_
                        refine T_iinc (L' := [(0, av 35 0 0), (1, iv p0), (2, iv p1), (3, iv p2), (4, iv p3), (5, iv p4), (6, iv 0), (7, iv (604 + 6))]) zk_168_189 (nL := 8) rfl rfl rfl rfl (pc' := 192) rfl ?_
                        refine T_goto zk_168_192 ?_
                        refine T_ld zk_168_170 rfl rfl rfl (pc' := 172) rfl ?_
                        refine T_op zk_168_172 rfl (X_si (v := 622) (by decide)) (pc' := 175) rfl ?_
                        refine T_icmp_gt zk_168_175 (by omega) (by omega) (pc' := 178) rfl (fun h31 => ?_) (fun h32 => ?_)
                        · exfalso; omega
                        ·
                          refine T_ld zk_168_178 rfl rfl rfl (pc' := 179) rfl ?_
                          refine T_getR (t' := 36) (i' := 0) (k' := 0) zk_168_179 rfl rfl rfl vd_35 (pc' := 182) rfl ?_
                          refine T_ld zk_168_182 rfl rfl rfl (pc' := 184) rfl ?_
                          refine T_ld zk_168_184 rfl rfl rfl (pc' := 186) rfl ?_
                          refine T_opc (w := 610) zk_168_186 rfl X_add (by omega) (pc' := 187) rfl ?_
                          refine T_op zk_168_187 rfl X_ic (pc' := 188) rfl ?_
                          refine G_iast (J' := (fun σ' => IF (MK 568 628 642 643) σ σ' ∧ σ' 36 0 0 642 = 0 ∧ True)) (ln := 646) zk_168_188 rfl rfl (vd_36 (by omega)) (by omega) (by omega) (by omega) (fun σ' h => ⟨h.1.up (by simp only [rgP] <;> omega) (by unfold MK; omega), (up_ne (by omega)).trans (h.2.1), trivial⟩) (pc' := 189) rfl ?_
                          refine T_iinc (L' := [(0, av 35 0 0), (1, iv p0), (2, iv p1), (3, iv p2), (4, iv p3), (5, iv p4), (6, iv 0), (7, iv (604 + 6 + 6))]) zk_168_189 (nL := 8) rfl rfl rfl rfl (pc' := 192) rfl ?_
                          refine T_goto zk_168_192 ?_
                          refine T_ld zk_168_170 rfl rfl rfl (pc' := 172) rfl ?_
                          refine T_op zk_168_172 rfl (X_si (v := 622) (by decide)) (pc' := 175) rfl ?_
                          refine T_icmp_gt zk_168_175 (by omega) (by omega) (pc' := 178) rfl (fun h33 => ?_) (fun h34 => ?_)
                          · exfalso; omega
                          ·
                            refine T_ld zk_168_178 rfl rfl rfl (pc' := 179) rfl ?_
                            refine T_getR (t' := 36) (i' := 0) (k' := 0) zk_168_179 rfl rfl rfl vd_35 (pc' := 182) rfl ?_
                            refine T_ld zk_168_182 rfl rfl rfl (pc' := 184) rfl ?_
                            refine T_ld zk_168_184 rfl rfl rfl (pc' := 186) rfl ?_
                            refine T_opc (w := 616) zk_168_186 rfl X_add (by omega) (pc' := 187) rfl ?_
                            refine T_op zk_168_187 rfl X_ic (pc' := 188) rfl ?_
                            refine G_iast (J' := (fun σ' => IF (MK 568 628 642 643) σ σ' ∧ σ' 36 0 0 642 = 0 ∧ True)) (ln := 646) zk_168_188 rfl rfl (vd_36 (by omega)) (by omega) (by omega) (by omega) (fun σ' h => ⟨h.1.up (by simp only [rgP] <;> omega) (by unfold MK; omega), (up_ne (by omega)).trans (h.2.1), trivial⟩) (pc' := 189) rfl ?_
                            refine T_iinc (L' := [(0, av 35 0 0), (1, iv p0), (2, iv p1), (3, iv p2), (4, iv p3), (5, iv p4), (6, iv 0), (7, iv (604 + 6 + 6 + 6))]) zk_168_189 (nL := 8) rfl rfl rfl rfl (pc' := 192) rfl ?_
                            refine T_goto zk_168_192 ?_
                            refine T_ld zk_168_170 rfl rfl rfl (pc' := 172) rfl ?_
                            refine T_op zk_168_172 rfl (X_si (v := 622) (by decide)) (pc' := 175) rfl ?_
                            refine T_icmp_gt zk_168_175 (by omega) (by omega) (pc' := 178) rfl (fun h35 => ?_) (fun h36 => ?_)
                            · exfalso; omega
                            ·
                              refine T_ld zk_168_178 rfl rfl rfl (pc' := 179) rfl ?_
                              refine T_getR (t' := 36) (i' := 0) (k' := 0) zk_168_179 rfl rfl rfl vd_35 (pc' := 182) rfl ?_
                              refine T_ld zk_168_182 rfl rfl rfl (pc' := 184) rfl ?_
                              refine T_ld zk_168_184 rfl rfl rfl (pc' := 186) rfl ?_
                              refine T_opc (w := 622) zk_168_186 rfl X_add (by omega) (pc' := 187) rfl ?_
                              refine T_op zk_168_187 rfl X_ic (pc' := 188) rfl ?_
                              refine G_iast (J' := (fun σ' => IF (MK 568 628 642 643) σ σ' ∧ σ' 36 0 0 642 = 0 ∧ True)) (ln := 646) zk_168_188 rfl rfl (vd_36 (by omega)) (by omega) (by omega) (by omega) (fun σ' h => ⟨h.1.up (by simp only [rgP] <;> omega) (by unfold MK; omega), (up_ne (by omega)).trans (h.2.1), trivial⟩) (pc' := 189) rfl ?_
                              refine T_iinc (L' := [(0, av 35 0 0), (1, iv p0), (2, iv p1), (3, iv p2), (4, iv p3), (5, iv p4), (6, iv 0), (7, iv (604 + 6 + 6 + 6 + 6))]) zk_168_189 (nL := 8) rfl rfl rfl rfl (pc' := 192) rfl ?_
                              refine T_goto zk_168_192 ?_
                              refine T_ld zk_168_170 rfl rfl rfl (pc' := 172) rfl ?_
                              refine T_op zk_168_172 rfl (X_si (v := 622) (by decide)) (pc' := 175) rfl ?_
                              refine T_icmp_gt zk_168_175 (by omega) (by omega) (pc' := 178) rfl (fun h37 => ?_) (fun h38 => ?_)
                              ·
                                refine T_ld zk_168_195 rfl rfl rfl (pc' := 196) rfl ?_
                                refine T_getR (t' := 36) (i' := 0) (k' := 0) zk_168_196 rfl rfl rfl vd_35 (pc' := 199) rfl ?_
                                refine T_op zk_168_199 rfl (X_si (v := 642) (by decide)) (pc' := 202) rfl ?_
                                refine T_op (st' := [iv 642, av 36 0 0, iv 642, av 36 0 0]) zk_168_202 rfl rfl (pc' := 203) rfl ?_
                                refine G_ialdX (w := 0) (ln := 646) zk_168_203 rfl rfl (vd_36 (by omega)) (by omega) (by omega) (by omega) (fun σ' h => h.2.1) (pc' := 204) rfl ?_
                                refine T_op (st' := [iv 0, iv 642, av 36 0 0, iv 0]) zk_168_204 rfl rfl (pc' := 205) rfl ?_
                                refine T_op zk_168_205 rfl X_ic (pc' := 206) rfl ?_
                                refine T_opc (w := 1) zk_168_206 rfl X_add (by omega) (pc' := 207) rfl ?_
                                refine G_iast (J' := (fun σ' => IF (MK 568 628 642 643) σ σ' ∧ True)) (ln := 646) zk_168_207 rfl rfl (vd_36 (by omega)) (by omega) (by omega) (by omega) (fun σ' h => ⟨h.1.up (by simp only [rgP] <;> omega) (by unfold MK; omega), trivial⟩) (pc' := 208) rfl ?_
                                exact T_iret zk_168_208 rfl (fun σ' h => ⟨_, rfl, (by omega), h.1, trivial⟩)
                              · exfalso; omega
                    · exfalso; omega
                  ·
                    refine T_ld zk_168_60 rfl rfl rfl (pc' := 61) rfl ?_
                    refine T_op zk_168_61 rfl (X_bi (v := -6) (by decide)) (pc' := 63) rfl ?_
                    refine T_calli (K := fun y39 σ' => (y39 = (-6)) ∧ (fun σ' => IF (MK 568 628 642 643) σ σ' ∧ σ' 36 0 0 642 = 0 ∧ True) σ') (r := []) zk_168_63 rfl rfl rfl rfl rfl rfl (Or.inr ⟨_, _, _, _, rfl, vd_35, rfl⟩) (fun σ' h => (m_123 ((-6)) (by omega) σ' h.1.1 ).le (Nat.le_of_ble_eq_true rfl) (fun v σ2 ⟨y, h1, h2, h3, h4⟩ => ⟨y, h1, h2, h.1.tr h3 (fun t i k j h => by unfold MT at h; unfold MK; omega), (h3.2 _ _ _ _ (by unfold MT; omega)).trans (h.2.1), trivial⟩)) (pc' := 66) rfl (fun y39 => ?_)
                    refine G_ex (fun hy39 => ?_)
                    obtain rfl : y39 = (-6) := by omega
                    exact T_iret zk_168_66 rfl (fun σ' h => ⟨_, rfl, (by omega), h.1, trivial⟩)
  ·
    refine T_ld zk_168_7 rfl rfl rfl (pc' := 8) rfl ?_
    refine T_op zk_168_8 rfl X_ic (pc' := 9) rfl ?_
    refine T_calli (K := fun y40 σ' => (y40 = (-1)) ∧ (fun σ' => IF (MK 568 628 642 643) σ σ' ∧ σ' 36 0 0 642 = 0 ∧ True) σ') (r := []) zk_168_9 rfl rfl rfl rfl rfl rfl (Or.inr ⟨_, _, _, _, rfl, vd_35, rfl⟩) (fun σ' h => (m_123 ((-1)) (by omega) σ' h.1.1 ).le (Nat.le_of_ble_eq_true rfl) (fun v σ2 ⟨y, h1, h2, h3, h4⟩ => ⟨y, h1, h2, h.1.tr h3 (fun t i k j h => by unfold MT at h; unfold MK; omega), (h3.2 _ _ _ _ (by unfold MT; omega)).trans (h.2.1), trivial⟩)) (pc' := 12) rfl (fun y40 => ?_)
    refine G_ex (fun hy40 => ?_)
    obtain rfl : y40 = (-1) := by omega
    exact T_iret zk_168_12 rfl (fun σ' h => ⟨_, rfl, (by omega), h.1, trivial⟩)
/-- WModel.goal -/
theorem m_goal {xs : Nat × (Nat → Int32)} (p0 : Int) (p1 : Int) (h0 : -2147483648 ≤ p0 ∧ p0 ≤ 2147483647) (h1 : -2147483648 ≤ p1 ∧ p1 ≤ 2147483647) (σ : ZS) (hI : Inv σ) (hm : ∀ t i k j, 35 ≤ t → σ t i k j = σ0 t i k j)  : CT xs 2 169 [av 35 0 0, iv p0, iv p1] σ (fun v σ' => ∃ y, v = some (iv y) ∧ (y = -1) ∧ IF (MT 49 49 49 49) σ σ' ∧ (True)) := by
  refine G_ct (J := (fun σ' => IF (MT 49 49 49 49) σ σ' ∧ True)) (L := [(0, av 35 0 0), (1, iv p0), (2, iv p1)]) (nL := 4) rfl rfl rfl ⟨IF.rf hI, trivial⟩ ?_
  refine T_ld zk_169_0 rfl rfl rfl (pc' := 1) rfl ?_
  refine T_ld zk_169_1 rfl rfl rfl (pc' := 2) rfl ?_
  refine T_calli (K := fun y1 σ' => (y1 = 0) ∧ (fun σ' => IF (MT 49 49 49 49) σ σ' ∧ True) σ') (r := []) zk_169_2 rfl rfl rfl rfl rfl rfl (Or.inr ⟨_, _, _, _, rfl, vd_35, rfl⟩) (fun σ' h => (m_167e p0 (by omega) σ' h.1.1 ((h.1.2 _ _ _ _ (by unfold MT; omega)).trans ((hm _ _ _ _ (by decide)).trans (s0_z (by omega))))).le (Nat.le_of_ble_eq_true rfl) (fun v σ2 ⟨y, h1, h2, h3, h4⟩ => ⟨y, h1, h2, h.1.tr h3 MN_sub, trivial⟩)) (pc' := 5) rfl (fun y1 => ?_)
  refine G_ex (fun hy1 => ?_)
  obtain rfl : y1 = 0 := by omega
  refine T_if_eq zk_169_5 (by omega) (pc' := 8) rfl (fun h2 => ?_) (fun h3 => ?_)
  ·
    refine T_ld zk_169_20 rfl rfl rfl (pc' := 21) rfl ?_
    refine T_op zk_169_21 rfl X_ic (pc' := 22) rfl ?_
    refine T_calli (K := fun y4 σ' => (y4 = (-1)) ∧ (fun σ' => IF (MT 49 49 49 49) σ σ' ∧ True) σ') (r := []) zk_169_22 rfl rfl rfl rfl rfl rfl (Or.inr ⟨_, _, _, _, rfl, vd_35, rfl⟩) (fun σ' h => (m_123 ((-1)) (by omega) σ' h.1.1 ).le (Nat.le_of_ble_eq_true rfl) (fun v σ2 ⟨y, h1, h2, h3, h4⟩ => ⟨y, h1, h2, h.1.tr h3 (fun _ _ _ _ h => h), trivial⟩)) (pc' := 25) rfl (fun y4 => ?_)
    refine G_ex (fun hy4 => ?_)
    obtain rfl : y4 = (-1) := by omega
    exact T_iret zk_169_25 rfl (fun σ' h => ⟨_, rfl, (by omega), h.1, trivial⟩)
  · exfalso; omega
/-- WModel.stepOf -/
theorem m_stepOf {xs : Nat × (Nat → Int32)} (p0 : Int) (h0 : -2147483648 ≤ p0 ∧ p0 ≤ 2147483647) (σ : ZS) (hI : Inv σ) (hm : ∀ t i k j, 35 ≤ t → σ t i k j = σ0 t i k j)  : CT xs 2 173 [av 35 0 0, iv p0] σ (fun v σ' => ∃ y, v = some (iv y) ∧ (y = -1) ∧ IF MN σ σ' ∧ (True)) := by
  refine G_ct (J := (fun σ' => IF MN σ σ' ∧ True)) (L := [(0, av 35 0 0), (1, iv p0)]) (nL := 2) rfl rfl rfl ⟨IF.rf hI, trivial⟩ ?_
  refine T_ld zk_173_0 rfl rfl rfl (pc' := 1) rfl ?_
  refine T_ld zk_173_1 rfl rfl rfl (pc' := 2) rfl ?_
  refine T_calli (K := fun y1 σ' => (y1 = 0) ∧ (fun σ' => IF MN σ σ' ∧ True) σ') (r := []) zk_173_2 rfl rfl rfl rfl rfl rfl (Or.inr ⟨_, _, _, _, rfl, vd_35, rfl⟩) (fun σ' h => (m_167e p0 (by omega) σ' h.1.1 ((h.1.2 _ _ _ _ (fun q => q)).trans ((hm _ _ _ _ (by decide)).trans (s0_z (by omega))))).le (Nat.le_of_ble_eq_true rfl) (fun v σ2 ⟨y, h1, h2, h3, h4⟩ => ⟨y, h1, h2, h.1.tr h3 MN_sub, trivial⟩)) (pc' := 5) rfl (fun y1 => ?_)
  refine G_ex (fun hy1 => ?_)
  obtain rfl : y1 = 0 := by omega
  refine T_if_eq zk_173_5 (by omega) (pc' := 8) rfl (fun h2 => ?_) (fun h3 => ?_)
  ·
    refine T_op zk_173_16 rfl X_ic (pc' := 17) rfl ?_
    exact T_iret zk_173_17 rfl (fun σ' h => ⟨_, rfl, (by omega), h.1, trivial⟩)
  · exfalso; omega
/-- WModel.sails -/
theorem m_sails {xs : Nat × (Nat → Int32)} (p0 : Int) (p1 : Int) (h0 : -2147483648 ≤ p0 ∧ p0 ≤ 2147483647) (h1 : -2147483648 ≤ p1 ∧ p1 ≤ 2147483647) (σ : ZS) (hI : Inv σ) (hm : ∀ t i k j, 35 ≤ t → σ t i k j = σ0 t i k j)  : CT xs 2 174 [av 35 0 0, iv p0, iv p1] σ (fun v σ' => ∃ y, v = some (iv y) ∧ (y = -1) ∧ IF MN σ σ' ∧ (True)) := by
  refine G_ct (J := (fun σ' => IF MN σ σ' ∧ True)) (L := [(0, av 35 0 0), (1, iv p0), (2, iv p1)]) (nL := 3) rfl rfl rfl ⟨IF.rf hI, trivial⟩ ?_
  refine T_ld zk_174_0 rfl rfl rfl (pc' := 1) rfl ?_
  refine T_ld zk_174_1 rfl rfl rfl (pc' := 2) rfl ?_
  refine T_calli (K := fun y1 σ' => (y1 = 0) ∧ (fun σ' => IF MN σ σ' ∧ True) σ') (r := []) zk_174_2 rfl rfl rfl rfl rfl rfl (Or.inr ⟨_, _, _, _, rfl, vd_35, rfl⟩) (fun σ' h => (m_167e p0 (by omega) σ' h.1.1 ((h.1.2 _ _ _ _ (fun q => q)).trans ((hm _ _ _ _ (by decide)).trans (s0_z (by omega))))).le (Nat.le_of_ble_eq_true rfl) (fun v σ2 ⟨y, h1, h2, h3, h4⟩ => ⟨y, h1, h2, h.1.tr h3 MN_sub, trivial⟩)) (pc' := 5) rfl (fun y1 => ?_)
  refine G_ex (fun hy1 => ?_)
  obtain rfl : y1 = 0 := by omega
  refine T_if_ne zk_174_5 (by omega) (pc' := 8) rfl (fun h2 => ?_) (fun h3 => ?_)
  · exfalso; omega
  ·
    refine T_op zk_174_8 rfl X_ic (pc' := 9) rfl ?_
    exact T_iret zk_174_9 rfl (fun σ' h => ⟨_, rfl, (by omega), h.1, trivial⟩)
/-- WModel.route -/
theorem m_route {xs : Nat × (Nat → Int32)} (p0 : Int) (p1 : Int) (p2 : Int) (h0 : -2147483648 ≤ p0 ∧ p0 ≤ 2147483647) (h1 : -2147483648 ≤ p1 ∧ p1 ≤ 2147483647) (h2 : -2147483648 ≤ p2 ∧ p2 ≤ 2147483647) (σ : ZS) (hI : Inv σ) (hm : ∀ t i k j, 35 ≤ t → σ t i k j = σ0 t i k j)  : CT xs 2 180 [av 35 0 0, iv p0, iv p1, iv p2] σ (fun v σ' => ∃ y, v = some (iv y) ∧ (y = -1) ∧ IF MN σ σ' ∧ (True)) := by
  refine G_ct (J := (fun σ' => IF MN σ σ' ∧ True)) (L := [(0, av 35 0 0), (1, iv p0), (2, iv p1), (3, iv p2)]) (nL := 10) rfl rfl rfl ⟨IF.rf hI, trivial⟩ ?_
  refine T_ld zk_180_0 rfl rfl rfl (pc' := 1) rfl ?_
  refine T_ld zk_180_1 rfl rfl rfl (pc' := 2) rfl ?_
  refine T_calli (K := fun y1 σ' => (y1 = 0) ∧ (fun σ' => IF MN σ σ' ∧ True) σ') (r := []) zk_180_2 rfl rfl rfl rfl rfl rfl (Or.inr ⟨_, _, _, _, rfl, vd_35, rfl⟩) (fun σ' h => (m_167e p0 (by omega) σ' h.1.1 ((h.1.2 _ _ _ _ (fun q => q)).trans ((hm _ _ _ _ (by decide)).trans (s0_z (by omega))))).le (Nat.le_of_ble_eq_true rfl) (fun v σ2 ⟨y, h1, h2, h3, h4⟩ => ⟨y, h1, h2, h.1.tr h3 MN_sub, trivial⟩)) (pc' := 5) rfl (fun y1 => ?_)
  refine G_ex (fun hy1 => ?_)
  obtain rfl : y1 = 0 := by omega
  refine T_if_eq zk_180_5 (by omega) (pc' := 8) rfl (fun h2 => ?_) (fun h3 => ?_)
  ·
    refine T_op zk_180_15 rfl X_ic (pc' := 16) rfl ?_
    exact T_iret zk_180_16 rfl (fun σ' h => ⟨_, rfl, (by omega), h.1, trivial⟩)
  · exfalso; omega
/-- WModel.restore -/
theorem m_restore {xs : Nat × (Nat → Int32)}   (σ : ZS) (hI : Inv σ) (hm : ∀ t i k j, 35 ≤ t → σ t i k j = σ0 t i k j)  : CT xs 2 185 [av 35 0 0] σ (fun v σ' => ∃ y, v = some (iv y) ∧ (y = -6) ∧ IF (MT 49 49 49 49) σ σ' ∧ (True)) := by
  refine G_ct (J := (fun σ' => IF (MT 49 49 49 49) σ σ' ∧ True)) (L := [(0, av 35 0 0)]) (nL := 2) rfl rfl rfl ⟨IF.rf hI, trivial⟩ ?_
  refine T_ld zk_185_0 rfl rfl rfl (pc' := 1) rfl ?_
  refine G_getX (w := 0) zk_185_1 rfl vd_35 (fun σ' h => (h.1.2 _ _ _ _ (by unfold MT; omega)).trans (hm _ _ _ _ (by decide))) (pc' := 4) rfl ?_
  refine T_if_ne zk_185_4 (by omega) (pc' := 7) rfl (fun h1 => ?_) (fun h2 => ?_)
  · exfalso; omega
  ·
    refine T_ld zk_185_7 rfl rfl rfl (pc' := 8) rfl ?_
    refine T_op zk_185_8 rfl (X_bi (v := -6) (by decide)) (pc' := 10) rfl ?_
    refine T_calli (K := fun y3 σ' => (y3 = (-6)) ∧ (fun σ' => IF (MT 49 49 49 49) σ σ' ∧ True) σ') (r := []) zk_185_10 rfl rfl rfl rfl rfl rfl (Or.inr ⟨_, _, _, _, rfl, vd_35, rfl⟩) (fun σ' h => (m_123 ((-6)) (by omega) σ' h.1.1 ).le (Nat.le_of_ble_eq_true rfl) (fun v σ2 ⟨y, h1, h2, h3, h4⟩ => ⟨y, h1, h2, h.1.tr h3 (fun _ _ _ _ h => h), trivial⟩)) (pc' := 13) rfl (fun y3 => ?_)
    refine G_ex (fun hy3 => ?_)
    obtain rfl : y3 = (-6) := by omega
    exact T_iret zk_185_13 rfl (fun σ' h => ⟨_, rfl, (by omega), h.1, trivial⟩)
/-- WModel.way -/
theorem m_way {xs : Nat × (Nat → Int32)} (p0 : Int) (p1 : Int) (p2 : Int) (h0 : -2147483648 ≤ p0 ∧ p0 ≤ 2147483647) (h1 : -2147483648 ≤ p1 ∧ p1 ≤ 2147483647) (h2 : -2147483648 ≤ p2 ∧ p2 ≤ 2147483647) (σ : ZS) (hI : Inv σ) (hm : ∀ t i k j, 35 ≤ t → σ t i k j = σ0 t i k j)  : CT xs 3 187 [av 35 0 0, iv p0, iv p1, iv p2] σ (fun v σ' => ∃ y, v = some (iv y) ∧ ((y = -1 ∧ (¬ (0 ≤ p0 ∧ p0 ≤ 24 ∧ 0 ≤ p1 ∧ p1 ≤ 24 ∧ (p1 = p0 + 5 ∨ p0 = p1 + 5 ∨ (p1 = p0 + 1 ∧ p0 % 5 < 4) ∨ (p0 = p1 + 1 ∧ p1 % 5 < 4))) ∨ ¬ (0 ≤ p2 ∧ p2 ≤ 2))) ∨ (y = -1 ∧ ¬ (¬ (0 ≤ p0 ∧ p0 ≤ 24 ∧ 0 ≤ p1 ∧ p1 ≤ 24 ∧ (p1 = p0 + 5 ∨ p0 = p1 + 5 ∨ (p1 = p0 + 1 ∧ p0 % 5 < 4) ∨ (p0 = p1 + 1 ∧ p1 % 5 < 4))) ∨ ¬ (0 ≤ p2 ∧ p2 ≤ 2)) ∧ (p2 = 2)) ∨ (y = 0 ∧ ¬ (¬ (0 ≤ p0 ∧ p0 ≤ 24 ∧ 0 ≤ p1 ∧ p1 ≤ 24 ∧ (p1 = p0 + 5 ∨ p0 = p1 + 5 ∨ (p1 = p0 + 1 ∧ p0 % 5 < 4) ∨ (p0 = p1 + 1 ∧ p1 % 5 < 4))) ∨ ¬ (0 ≤ p2 ∧ p2 ≤ 2)) ∧ ¬ (p2 = 2))) ∧ IF MN σ σ' ∧ (True)) := by
  refine G_ct (J := (fun σ' => IF MN σ σ' ∧ True)) (L := [(0, av 35 0 0), (1, iv p0), (2, iv p1), (3, iv p2)]) (nL := 5) rfl rfl rfl ⟨IF.rf hI, trivial⟩ ?_
  refine T_ld zk_187_0 rfl rfl rfl (pc' := 1) rfl ?_
  refine T_ld zk_187_1 rfl rfl rfl (pc' := 2) rfl ?_
  refine T_calli (K := fun y1 σ' => ((y1 = -1 ∧ ¬ (0 ≤ p0 ∧ p0 ≤ 24 ∧ 0 ≤ p1 ∧ p1 ≤ 24 ∧ (p1 = p0 + 5 ∨ p0 = p1 + 5 ∨ (p1 = p0 + 1 ∧ p0 % 5 < 4) ∨ (p0 = p1 + 1 ∧ p1 % 5 < 4)))) ∨ (0 ≤ y1 ∧ y1 ≤ 49 ∧ (0 ≤ p0 ∧ p0 ≤ 24 ∧ 0 ≤ p1 ∧ p1 ≤ 24 ∧ (p1 = p0 + 5 ∨ p0 = p1 + 5 ∨ (p1 = p0 + 1 ∧ p0 % 5 < 4) ∨ (p0 = p1 + 1 ∧ p1 % 5 < 4))))) ∧ (fun σ' => IF MN σ σ' ∧ True) σ') (r := []) zk_187_2 rfl rfl rfl rfl rfl rfl (Or.inl (Or.inl rfl)) (fun σ' h => (m_126 p0 p1 (by omega) (by omega) σ' h.1.1 ).le (Nat.le_of_ble_eq_true rfl) (fun v σ2 ⟨y, h1, h2, h3, h4⟩ => ⟨y, h1, h2, h.1.tr h3 MN_sub, trivial⟩)) (pc' := 5) rfl (fun y1 => ?_)
  refine G_ex (fun hy1 => ?_)
  refine T_st (L' := [(0, av 35 0 0), (1, iv p0), (2, iv p1), (3, iv p2), (4, iv y1)]) zk_187_5 (nL := 5) rfl rfl rfl rfl rfl (pc' := 7) rfl ?_
  refine T_ld zk_187_7 rfl rfl rfl (pc' := 9) rfl ?_
  refine T_op zk_187_9 rfl X_ic (pc' := 10) rfl ?_
  refine T_icmp_eq zk_187_10 (by omega) (by omega) (pc' := 13) rfl (fun h2 => ?_) (fun h3 => ?_)
  ·
    refine T_op zk_187_22 rfl X_ic (pc' := 23) rfl ?_
    exact T_iret zk_187_23 rfl (fun σ' h => ⟨_, rfl, (by omega), h.1, trivial⟩)
  ·
    refine T_ld zk_187_13 rfl rfl rfl (pc' := 14) rfl ?_
    refine T_if_lt zk_187_14 (by omega) (pc' := 17) rfl (fun h4 => ?_) (fun h5 => ?_)
    ·
      refine T_op zk_187_22 rfl X_ic (pc' := 23) rfl ?_
      exact T_iret zk_187_23 rfl (fun σ' h => ⟨_, rfl, (by omega), h.1, trivial⟩)
    ·
      refine T_ld zk_187_17 rfl rfl rfl (pc' := 18) rfl ?_
      refine T_op zk_187_18 rfl X_ic (pc' := 19) rfl ?_
      refine T_icmp_le zk_187_19 (by omega) (by omega) (pc' := 22) rfl (fun h6 => ?_) (fun h7 => ?_)
      ·
        refine T_ld zk_187_24 rfl rfl rfl (pc' := 25) rfl ?_
        refine T_getR (t' := 36) (i' := 0) (k' := 0) zk_187_25 rfl rfl rfl vd_35 (pc' := 28) rfl ?_
        refine T_ld zk_187_28 rfl rfl rfl (pc' := 29) rfl ?_
        refine T_if_ne zk_187_29 (by omega) (pc' := 32) rfl (fun h8 => ?_) (fun h9 => ?_)
        ·
          refine T_ld zk_187_37 rfl rfl rfl (pc' := 38) rfl ?_
          refine T_op zk_187_38 rfl X_ic (pc' := 39) rfl ?_
          refine T_icmp_ne zk_187_39 (by omega) (by omega) (pc' := 42) rfl (fun h10 => ?_) (fun h11 => ?_)
          ·
            refine T_op zk_187_48 rfl (X_si (v := 200) (by decide)) (pc' := 51) rfl ?_
            refine T_ld zk_187_51 rfl rfl rfl (pc' := 53) rfl ?_
            refine T_op zk_187_53 rfl X_add (pc' := 54) rfl ?_
            refine G_ialdX (w := (-1)) (ln := 646) zk_187_54 rfl rfl (vd_36 (by omega)) (by omega) (by omega) (by omega) (fun σ' h => (h.1.2 _ _ _ _ (fun q => q)).trans ((hm _ _ _ _ (by decide)).trans (s0_c (by omega)))) (pc' := 55) rfl ?_
            exact T_iret zk_187_55 rfl (fun σ' h => ⟨_, rfl, (by omega), h.1, trivial⟩)
          ·
            refine T_op zk_187_42 rfl (X_si (v := 150) (by decide)) (pc' := 45) rfl ?_
            refine T_goto zk_187_45 ?_
            refine T_ld zk_187_51 rfl rfl rfl (pc' := 53) rfl ?_
            refine T_op zk_187_53 rfl X_add (pc' := 54) rfl ?_
            refine G_ialdX (w := 0) (ln := 646) zk_187_54 rfl rfl (vd_36 (by omega)) (by omega) (by omega) (by omega) (fun σ' h => (h.1.2 _ _ _ _ (fun q => q)).trans ((hm _ _ _ _ (by decide)).trans (s0_z (by omega)))) (pc' := 55) rfl ?_
            exact T_iret zk_187_55 rfl (fun σ' h => ⟨_, rfl, (by omega), h.1, trivial⟩)
        ·
          refine T_op zk_187_32 rfl (X_bi (v := 100) (by decide)) (pc' := 34) rfl ?_
          refine T_goto zk_187_34 ?_
          refine T_ld zk_187_51 rfl rfl rfl (pc' := 53) rfl ?_
          refine T_op zk_187_53 rfl X_add (pc' := 54) rfl ?_
          refine G_ialdX (w := 0) (ln := 646) zk_187_54 rfl rfl (vd_36 (by omega)) (by omega) (by omega) (by omega) (fun σ' h => (h.1.2 _ _ _ _ (fun q => q)).trans ((hm _ _ _ _ (by decide)).trans (s0_z (by omega)))) (pc' := 55) rfl ?_
          exact T_iret zk_187_55 rfl (fun σ' h => ⟨_, rfl, (by omega), h.1, trivial⟩)
      ·
        refine T_op zk_187_22 rfl X_ic (pc' := 23) rfl ?_
        exact T_iret zk_187_23 rfl (fun σ' h => ⟨_, rfl, (by omega), h.1, trivial⟩)
/-- WModel.cell -/
theorem m_cell {xs : Nat × (Nat → Int32)} (p0 : Int) (p1 : Int) (h0 : -2147483648 ≤ p0 ∧ p0 ≤ 2147483647) (h1 : -2147483648 ≤ p1 ∧ p1 ≤ 2147483647) (σ : ZS) (hI : Inv σ) (hm : ∀ t i k j, 35 ≤ t → σ t i k j = σ0 t i k j)  : CT xs 2 186 [av 35 0 0, iv p0, iv p1] σ (fun v σ' => ∃ y, v = some (iv y) ∧ ((y = 1000000 ∧ (¬ (0 ≤ p0 ∧ p0 ≤ 24) ∨ ¬ (0 ≤ p1 ∧ p1 ≤ 4))) ∨ (y = 20 ∧ ¬ (¬ (0 ≤ p0 ∧ p0 ≤ 24) ∨ ¬ (0 ≤ p1 ∧ p1 ≤ 4)) ∧ (p1 = 0)) ∨ (y = 1000 ∧ ¬ (¬ (0 ≤ p0 ∧ p0 ≤ 24) ∨ ¬ (0 ≤ p1 ∧ p1 ≤ 4)) ∧ ¬ (p1 = 0) ∧ (p1 = 2)) ∨ (y = -1 ∧ ¬ (¬ (0 ≤ p0 ∧ p0 ≤ 24) ∨ ¬ (0 ≤ p1 ∧ p1 ≤ 4)) ∧ ¬ (p1 = 0) ∧ ¬ (p1 = 2) ∧ (p1 = 4)) ∨ (y = 0 ∧ ¬ (¬ (0 ≤ p0 ∧ p0 ≤ 24) ∨ ¬ (0 ≤ p1 ∧ p1 ≤ 4)) ∧ ¬ (p1 = 0) ∧ ¬ (p1 = 2) ∧ ¬ (p1 = 4))) ∧ IF MN σ σ' ∧ (True)) := by
  refine G_ct (J := (fun σ' => IF MN σ σ' ∧ True)) (L := [(0, av 35 0 0), (1, iv p0), (2, iv p1)]) (nL := 4) rfl rfl rfl ⟨IF.rf hI, trivial⟩ ?_
  refine T_ld zk_186_0 rfl rfl rfl (pc' := 1) rfl ?_
  refine T_calli (K := fun y1 σ' => ((y1 = 0 ∧ (p0 < 0 ∨ 24 < p0)) ∨ (y1 = 1 ∧ 0 ≤ p0 ∧ p0 ≤ 24)) ∧ (fun σ' => IF MN σ σ' ∧ True) σ') (r := []) zk_186_1 rfl rfl rfl rfl rfl rfl (Or.inl (Or.inl rfl)) (fun σ' h => (m_124 p0 (by omega) σ' h.1.1 ).le (Nat.le_of_ble_eq_true rfl) (fun v σ2 ⟨y, h1, h2, h3, h4⟩ => ⟨y, h1, h2, h.1.tr h3 MN_sub, trivial⟩)) (pc' := 4) rfl (fun y1 => ?_)
  refine G_ex (fun hy1 => ?_)
  refine T_if_ne zk_186_4 (by omega) (pc' := 7) rfl (fun h2 => ?_) (fun h3 => ?_)
  ·
    refine T_ld zk_186_10 rfl rfl rfl (pc' := 11) rfl ?_
    by_cases h4 : p1 = 0
    · subst h4
      refine T_br (t := 44) zk_186_11 rfl rfl rfl (fun _ => rfl) rfl ?_
      refine T_ld zk_186_44 rfl rfl rfl (pc' := 45) rfl ?_
      refine T_getR (t' := 36) (i' := 0) (k' := 0) zk_186_45 rfl rfl rfl vd_35 (pc' := 48) rfl ?_
      refine T_op zk_186_48 rfl X_ic (pc' := 49) rfl ?_
      refine T_ld zk_186_49 rfl rfl rfl (pc' := 50) rfl ?_
      refine T_op zk_186_50 rfl X_add (pc' := 51) rfl ?_
      refine G_ialdX (w := 20) (ln := 646) zk_186_51 rfl rfl (vd_36 (by omega)) (by omega) (by omega) (by omega) (fun σ' h => (h.1.2 _ _ _ _ (fun q => q)).trans ((hm _ _ _ _ (by decide)).trans (s0_a (by omega)))) (pc' := 52) rfl ?_
      exact T_iret zk_186_52 rfl (fun σ' h => ⟨_, rfl, (by omega), h.1, trivial⟩)
    by_cases h5 : p1 = 1
    · subst h5
      refine T_br (t := 53) zk_186_11 rfl rfl rfl (fun _ => rfl) rfl ?_
      refine T_ld zk_186_53 rfl rfl rfl (pc' := 54) rfl ?_
      refine T_getR (t' := 36) (i' := 0) (k' := 0) zk_186_54 rfl rfl rfl vd_35 (pc' := 57) rfl ?_
      refine T_op zk_186_57 rfl (X_bi (v := 25) (by decide)) (pc' := 59) rfl ?_
      refine T_ld zk_186_59 rfl rfl rfl (pc' := 60) rfl ?_
      refine T_op zk_186_60 rfl X_add (pc' := 61) rfl ?_
      refine G_ialdX (w := 0) (ln := 646) zk_186_61 rfl rfl (vd_36 (by omega)) (by omega) (by omega) (by omega) (fun σ' h => (h.1.2 _ _ _ _ (fun q => q)).trans ((hm _ _ _ _ (by decide)).trans (s0_z (by omega)))) (pc' := 62) rfl ?_
      exact T_iret zk_186_62 rfl (fun σ' h => ⟨_, rfl, (by omega), h.1, trivial⟩)
    by_cases h6 : p1 = 2
    · subst h6
      refine T_br (t := 63) zk_186_11 rfl rfl rfl (fun _ => rfl) rfl ?_
      refine T_ld zk_186_63 rfl rfl rfl (pc' := 64) rfl ?_
      refine T_getR (t' := 36) (i' := 0) (k' := 0) zk_186_64 rfl rfl rfl vd_35 (pc' := 67) rfl ?_
      refine T_op zk_186_67 rfl (X_bi (v := 50) (by decide)) (pc' := 69) rfl ?_
      refine T_ld zk_186_69 rfl rfl rfl (pc' := 70) rfl ?_
      refine T_op zk_186_70 rfl X_add (pc' := 71) rfl ?_
      refine G_ialdX (w := 1000) (ln := 646) zk_186_71 rfl rfl (vd_36 (by omega)) (by omega) (by omega) (by omega) (fun σ' h => (h.1.2 _ _ _ _ (fun q => q)).trans ((hm _ _ _ _ (by decide)).trans (s0_b (by omega)))) (pc' := 72) rfl ?_
      exact T_iret zk_186_72 rfl (fun σ' h => ⟨_, rfl, (by omega), h.1, trivial⟩)
    by_cases h7 : p1 = 3
    · subst h7
      refine T_br (t := 73) zk_186_11 rfl rfl rfl (fun _ => rfl) rfl ?_
      refine T_ld zk_186_73 rfl rfl rfl (pc' := 74) rfl ?_
      refine T_getR (t' := 36) (i' := 0) (k' := 0) zk_186_74 rfl rfl rfl vd_35 (pc' := 77) rfl ?_
      refine T_op zk_186_77 rfl (X_bi (v := 75) (by decide)) (pc' := 79) rfl ?_
      refine T_ld zk_186_79 rfl rfl rfl (pc' := 80) rfl ?_
      refine T_op zk_186_80 rfl X_add (pc' := 81) rfl ?_
      refine G_ialdX (w := 0) (ln := 646) zk_186_81 rfl rfl (vd_36 (by omega)) (by omega) (by omega) (by omega) (fun σ' h => (h.1.2 _ _ _ _ (fun q => q)).trans ((hm _ _ _ _ (by decide)).trans (s0_z (by omega)))) (pc' := 82) rfl ?_
      exact T_iret zk_186_82 rfl (fun σ' h => ⟨_, rfl, (by omega), h.1, trivial⟩)
    by_cases h8 : p1 = 4
    · subst h8
      refine T_br (t := 83) zk_186_11 rfl rfl rfl (fun _ => rfl) rfl ?_
      refine T_op zk_186_83 rfl X_ic (pc' := 84) rfl ?_
      refine T_st (L' := [(0, av 35 0 0), (1, iv p0), (2, iv 4), (3, iv 0)]) zk_186_84 (nL := 4) rfl rfl rfl rfl rfl (pc' := 85) rfl ?_
      refine T_ld zk_186_85 rfl rfl rfl (pc' := 86) rfl ?_
      refine T_ld zk_186_86 rfl rfl rfl (pc' := 87) rfl ?_
      refine T_getR (t' := 36) (i' := 0) (k' := 0) zk_186_87 rfl rfl rfl vd_35 (pc' := 90) rfl ?_
      refine T_op zk_186_90 rfl (X_si (v := 633) (by decide)) (pc' := 93) rfl ?_
      refine G_ialdX (w := 0) (ln := 646) zk_186_93 rfl rfl (vd_36 (by omega)) (by omega) (by omega) (by omega) (fun σ' h => (h.1.2 _ _ _ _ (fun q => q)).trans ((hm _ _ _ _ (by decide)).trans (s0_z (by omega)))) (pc' := 94) rfl ?_
      refine T_icmp_ge zk_186_94 (by omega) (by omega) (pc' := 97) rfl (fun h9 => ?_) (fun h10 => ?_)
      ·
        refine T_op zk_186_119 rfl X_ic (pc' := 120) rfl ?_
        exact T_iret zk_186_120 rfl (fun σ' h => ⟨_, rfl, (by omega), h.1, trivial⟩)
      · exfalso; omega
    refine T_tso (t := 121) zk_186_11 (by omega) (by omega) (by omega) ?_
    refine T_ldc zk_186_121 (pc' := 123) rfl ?_
    exact T_iret zk_186_123 rfl (fun σ' h => ⟨_, rfl, (by omega), h.1, trivial⟩)
  ·
    refine T_ldc zk_186_7 (pc' := 9) rfl ?_
    exact T_iret zk_186_9 rfl (fun σ' h => ⟨_, rfl, (by omega), h.1, trivial⟩)
