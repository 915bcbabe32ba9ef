theorem zk_123_0 : zc 123 0 = some (.aload_n 0, 0, 0, 0, 0) := rfl
theorem zk_123_1 : zc 123 1 = some (.getfield 60, 11, 17, 0, 155) := rfl
theorem zk_123_4 : zc 123 4 = some (.iload_n 1, 0, 0, 0, 0) := rfl
theorem zk_123_5 : zc 123 5 = some (.ineg, 0, 0, 0, 0) := rfl
theorem zk_123_6 : zc 123 6 = some (.dup2, 0, 0, 0, 0) := rfl
theorem zk_123_7 : zc 123 7 = some (.iaload, 0, 0, 0, 0) := rfl
theorem zk_123_8 : zc 123 8 = some (.iconst 1, 0, 0, 0, 0) := rfl
theorem zk_123_9 : zc 123 9 = some (.iadd, 0, 0, 0, 0) := rfl
theorem zk_123_10 : zc 123 10 = some (.iastore, 0, 0, 0, 0) := rfl
theorem zk_123_11 : zc 123 11 = some (.iload_n 1, 0, 0, 0, 0) := rfl
theorem zk_123_12 : zc 123 12 = some (.ireturn, 0, 0, 0, 0) := rfl
theorem zk_124_0 : zc 124 0 = some (.iload_n 0, 0, 0, 0, 0) := rfl
theorem zk_124_1 : zc 124 1 = some (.ifCond .lt 13, 14, 0, 0, 0) := rfl
theorem zk_124_4 : zc 124 4 = some (.iload_n 0, 0, 0, 0, 0) := rfl
theorem zk_124_5 : zc 124 5 = some (.bipush 25, 0, 0, 0, 0) := rfl
theorem zk_124_7 : zc 124 7 = some (.if_icmp .ge 7, 14, 0, 0, 0) := rfl
theorem zk_124_10 : zc 124 10 = some (.iconst 1, 0, 0, 0, 0) := rfl
theorem zk_124_11 : zc 124 11 = some (.goto 4, 15, 0, 0, 0) := rfl
theorem zk_124_14 : zc 124 14 = some (.iconst 0, 0, 0, 0, 0) := rfl
theorem zk_124_15 : zc 124 15 = some (.ireturn, 0, 0, 0, 0) := rfl
theorem zk_125_0 : zc 125 0 = some (.iload_n 0, 0, 0, 0, 0) := rfl
theorem zk_125_1 : zc 125 1 = some (.ifCond .lt 13, 14, 0, 0, 0) := rfl
theorem zk_125_4 : zc 125 4 = some (.iload_n 0, 0, 0, 0, 0) := rfl
theorem zk_125_5 : zc 125 5 = some (.bipush 8, 0, 0, 0, 0) := rfl
theorem zk_125_7 : zc 125 7 = some (.if_icmp .ge 7, 14, 0, 0, 0) := rfl
theorem zk_125_10 : zc 125 10 = some (.iconst 1, 0, 0, 0, 0) := rfl
theorem zk_125_11 : zc 125 11 = some (.goto 4, 15, 0, 0, 0) := rfl
theorem zk_125_14 : zc 125 14 = some (.iconst 0, 0, 0, 0, 0) := rfl
theorem zk_125_15 : zc 125 15 = some (.ireturn, 0, 0, 0, 0) := rfl
theorem zk_126_0 : zc 126 0 = some (.iload_n 0, 0, 0, 0, 0) := rfl
theorem zk_126_1 : zc 126 1 = some (.invokestatic 99, 124, 1, 1, 128) := rfl
theorem zk_126_4 : zc 126 4 = some (.ifCond .eq 10, 14, 0, 0, 0) := rfl
theorem zk_126_7 : zc 126 7 = some (.iload_n 1, 0, 0, 0, 0) := rfl
theorem zk_126_8 : zc 126 8 = some (.invokestatic 99, 124, 1, 1, 128) := rfl
theorem zk_126_11 : zc 126 11 = some (.ifCond .ne 5, 16, 0, 0, 0) := rfl
theorem zk_126_14 : zc 126 14 = some (.iconst (-1), 0, 0, 0, 0) := rfl
theorem zk_126_15 : zc 126 15 = some (.ireturn, 0, 0, 0, 0) := rfl
theorem zk_126_16 : zc 126 16 = some (.iload_n 0, 0, 0, 0, 0) := rfl
theorem zk_126_17 : zc 126 17 = some (.iload_n 1, 0, 0, 0, 0) := rfl
theorem zk_126_18 : zc 126 18 = some (.if_icmp .ge 7, 25, 0, 0, 0) := rfl
theorem zk_126_21 : zc 126 21 = some (.iload_n 0, 0, 0, 0, 0) := rfl
theorem zk_126_22 : zc 126 22 = some (.goto 4, 26, 0, 0, 0) := rfl
theorem zk_126_25 : zc 126 25 = some (.iload_n 1, 0, 0, 0, 0) := rfl
theorem zk_126_26 : zc 126 26 = some (.istore_n 2, 0, 0, 0, 0) := rfl
theorem zk_126_27 : zc 126 27 = some (.iload_n 0, 0, 0, 0, 0) := rfl
theorem zk_126_28 : zc 126 28 = some (.iload_n 1, 0, 0, 0, 0) := rfl
theorem zk_126_29 : zc 126 29 = some (.if_icmp .ge 7, 36, 0, 0, 0) := rfl
theorem zk_126_32 : zc 126 32 = some (.iload_n 1, 0, 0, 0, 0) := rfl
theorem zk_126_33 : zc 126 33 = some (.goto 4, 37, 0, 0, 0) := rfl
theorem zk_126_36 : zc 126 36 = some (.iload_n 0, 0, 0, 0, 0) := rfl
theorem zk_126_37 : zc 126 37 = some (.istore_n 3, 0, 0, 0, 0) := rfl
theorem zk_126_38 : zc 126 38 = some (.iload_n 3, 0, 0, 0, 0) := rfl
theorem zk_126_39 : zc 126 39 = some (.iload_n 2, 0, 0, 0, 0) := rfl
theorem zk_126_40 : zc 126 40 = some (.iconst 5, 0, 0, 0, 0) := rfl
theorem zk_126_41 : zc 126 41 = some (.iadd, 0, 0, 0, 0) := rfl
theorem zk_126_42 : zc 126 42 = some (.if_icmp .ne 9, 51, 0, 0, 0) := rfl
theorem zk_126_45 : zc 126 45 = some (.iconst 2, 0, 0, 0, 0) := rfl
theorem zk_126_46 : zc 126 46 = some (.iload_n 2, 0, 0, 0, 0) := rfl
theorem zk_126_47 : zc 126 47 = some (.imul, 0, 0, 0, 0) := rfl
theorem zk_126_48 : zc 126 48 = some (.iconst 1, 0, 0, 0, 0) := rfl
theorem zk_126_49 : zc 126 49 = some (.iadd, 0, 0, 0, 0) := rfl
theorem zk_126_50 : zc 126 50 = some (.ireturn, 0, 0, 0, 0) := rfl
theorem zk_126_51 : zc 126 51 = some (.iload_n 3, 0, 0, 0, 0) := rfl
theorem zk_126_52 : zc 126 52 = some (.iload_n 2, 0, 0, 0, 0) := rfl
theorem zk_126_53 : zc 126 53 = some (.iconst 1, 0, 0, 0, 0) := rfl
theorem zk_126_54 : zc 126 54 = some (.iadd, 0, 0, 0, 0) := rfl
theorem zk_126_55 : zc 126 55 = some (.if_icmp .ne 16, 71, 0, 0, 0) := rfl
theorem zk_126_58 : zc 126 58 = some (.iload_n 2, 0, 0, 0, 0) := rfl
theorem zk_126_59 : zc 126 59 = some (.iconst 5, 0, 0, 0, 0) := rfl
theorem zk_126_60 : zc 126 60 = some (.irem, 0, 0, 0, 0) := rfl
theorem zk_126_61 : zc 126 61 = some (.iconst 4, 0, 0, 0, 0) := rfl
theorem zk_126_62 : zc 126 62 = some (.if_icmp .ge 9, 71, 0, 0, 0) := rfl
theorem zk_126_65 : zc 126 65 = some (.iconst 2, 0, 0, 0, 0) := rfl
theorem zk_126_66 : zc 126 66 = some (.iload_n 2, 0, 0, 0, 0) := rfl
theorem zk_126_67 : zc 126 67 = some (.imul, 0, 0, 0, 0) := rfl
theorem zk_126_68 : zc 126 68 = some (.goto 4, 72, 0, 0, 0) := rfl
theorem zk_126_71 : zc 126 71 = some (.iconst (-1), 0, 0, 0, 0) := rfl
theorem zk_126_72 : zc 126 72 = some (.ireturn, 0, 0, 0, 0) := rfl
theorem zk_129_0 : zc 129 0 = some (.iload_n 2, 0, 0, 0, 0) := rfl
theorem zk_129_1 : zc 129 1 = some (.ifCond .eq 7, 8, 0, 0, 0) := rfl
theorem zk_129_4 : zc 129 4 = some (.iconst 1, 0, 0, 0, 0) := rfl
theorem zk_129_5 : zc 129 5 = some (.goto 4, 9, 0, 0, 0) := rfl
theorem zk_129_8 : zc 129 8 = some (.iconst 0, 0, 0, 0, 0) := rfl
theorem zk_129_9 : zc 129 9 = some (.istore_n 3, 0, 0, 0, 0) := rfl
theorem zk_129_10 : zc 129 10 = some (.aload_n 0, 0, 0, 0, 0) := rfl
theorem zk_129_11 : zc 129 11 = some (.getfield 7, 11, 0, 0, 139) := rfl
theorem zk_129_14 : zc 129 14 = some (.iload_n 1, 0, 0, 0, 0) := rfl
theorem zk_129_15 : zc 129 15 = some (.iaload, 0, 0, 0, 0) := rfl
theorem zk_129_16 : zc 129 16 = some (.iload_n 3, 0, 0, 0, 0) := rfl
theorem zk_129_17 : zc 129 17 = some (.if_icmp .ne 5, 22, 0, 0, 0) := rfl
theorem zk_129_20 : zc 129 20 = some (.iconst 0, 0, 0, 0, 0) := rfl
theorem zk_129_21 : zc 129 21 = some (.ireturn, 0, 0, 0, 0) := rfl
theorem zk_129_22 : zc 129 22 = some (.aload_n 0, 0, 0, 0, 0) := rfl
theorem zk_129_23 : zc 129 23 = some (.getfield 7, 11, 0, 0, 139) := rfl
theorem zk_129_26 : zc 129 26 = some (.iload_n 1, 0, 0, 0, 0) := rfl
theorem zk_129_27 : zc 129 27 = some (.iload_n 3, 0, 0, 0, 0) := rfl
theorem zk_129_28 : zc 129 28 = some (.iastore, 0, 0, 0, 0) := rfl
theorem zk_129_29 : zc 129 29 = some (.iconst 1, 0, 0, 0, 0) := rfl
theorem zk_129_30 : zc 129 30 = some (.ireturn, 0, 0, 0, 0) := rfl
theorem zk_139_0 : zc 139 0 = some (.iload_n 1, 0, 0, 0, 0) := rfl
theorem zk_139_1 : zc 139 1 = some (.ifCond .lt 19, 20, 0, 0, 0) := rfl
theorem zk_139_4 : zc 139 4 = some (.iload_n 1, 0, 0, 0, 0) := rfl
theorem zk_139_5 : zc 139 5 = some (.aload_n 0, 0, 0, 0, 0) := rfl
theorem zk_139_6 : zc 139 6 = some (.getfield 7, 11, 0, 0, 139) := rfl
theorem zk_139_9 : zc 139 9 = some (.sipush 641, 0, 0, 0, 0) := rfl
theorem zk_139_12 : zc 139 12 = some (.iaload, 0, 0, 0, 0) := rfl
theorem zk_139_13 : zc 139 13 = some (.if_icmp .ge 7, 20, 0, 0, 0) := rfl
theorem zk_139_16 : zc 139 16 = some (.iconst 1, 0, 0, 0, 0) := rfl
theorem zk_139_17 : zc 139 17 = some (.goto 4, 21, 0, 0, 0) := rfl
theorem zk_139_20 : zc 139 20 = some (.iconst 0, 0, 0, 0, 0) := rfl
theorem zk_139_21 : zc 139 21 = some (.ireturn, 0, 0, 0, 0) := rfl
theorem zk_143_0 : zc 143 0 = some (.iload_n 1, 0, 0, 0, 0) := rfl
theorem zk_143_1 : zc 143 1 = some (.invokestatic 115, 125, 1, 1, 132) := rfl
theorem zk_143_4 : zc 143 4 = some (.ifCond .ne 7, 11, 0, 0, 0) := rfl
theorem zk_143_7 : zc 143 7 = some (.iconst (-1), 0, 0, 0, 0) := rfl
theorem zk_143_8 : zc 143 8 = some (.goto 33, 41, 0, 0, 0) := rfl
theorem zk_143_11 : zc 143 11 = some (.aload_n 0, 0, 0, 0, 0) := rfl
theorem zk_143_12 : zc 143 12 = some (.getfield 19, 11, 4, 0, 142) := rfl
theorem zk_143_15 : zc 143 15 = some (.iload_n 1, 0, 0, 0, 0) := rfl
theorem zk_143_16 : zc 143 16 = some (.iaload, 0, 0, 0, 0) := rfl
theorem zk_143_17 : zc 143 17 = some (.iconst 2, 0, 0, 0, 0) := rfl
theorem zk_143_18 : zc 143 18 = some (.if_icmp .ne 8, 26, 0, 0, 0) := rfl
theorem zk_143_21 : zc 143 21 = some (.bipush (-2), 0, 0, 0, 0) := rfl
theorem zk_143_23 : zc 143 23 = some (.goto 18, 41, 0, 0, 0) := rfl
theorem zk_143_26 : zc 143 26 = some (.aload_n 0, 0, 0, 0, 0) := rfl
theorem zk_143_27 : zc 143 27 = some (.getfield 19, 11, 4, 0, 142) := rfl
theorem zk_143_30 : zc 143 30 = some (.iload_n 1, 0, 0, 0, 0) := rfl
theorem zk_143_31 : zc 143 31 = some (.iaload, 0, 0, 0, 0) := rfl
theorem zk_143_32 : zc 143 32 = some (.ifCond .ne 8, 40, 0, 0, 0) := rfl
theorem zk_143_35 : zc 143 35 = some (.bipush (-3), 0, 0, 0, 0) := rfl
theorem zk_143_37 : zc 143 37 = some (.goto 4, 41, 0, 0, 0) := rfl
theorem zk_143_40 : zc 143 40 = some (.iconst 0, 0, 0, 0, 0) := rfl
theorem zk_143_41 : zc 143 41 = some (.ireturn, 0, 0, 0, 0) := rfl
theorem zk_145_0 : zc 145 0 = some (.aload_n 0, 0, 0, 0, 0) := rfl
theorem zk_145_1 : zc 145 1 = some (.getfield 7, 11, 0, 0, 139) := rfl
theorem zk_145_4 : zc 145 4 = some (.iload_n 2, 0, 0, 0, 0) := rfl
theorem zk_145_5 : zc 145 5 = some (.ifCond .eq 9, 14, 0, 0, 0) := rfl
theorem zk_145_8 : zc 145 8 = some (.sipush 636, 0, 0, 0, 0) := rfl
theorem zk_145_11 : zc 145 11 = some (.goto 6, 17, 0, 0, 0) := rfl
theorem zk_145_14 : zc 145 14 = some (.sipush 635, 0, 0, 0, 0) := rfl
theorem zk_145_17 : zc 145 17 = some (.iaload, 0, 0, 0, 0) := rfl
theorem zk_145_18 : zc 145 18 = some (.istore_n 3, 0, 0, 0, 0) := rfl
theorem zk_145_19 : zc 145 19 = some (.iload_n 3, 0, 0, 0, 0) := rfl
theorem zk_145_20 : zc 145 20 = some (.ifCond .ne 7, 27, 0, 0, 0) := rfl
theorem zk_145_23 : zc 145 23 = some (.iconst 0, 0, 0, 0, 0) := rfl
theorem zk_145_24 : zc 145 24 = some (.goto 25, 49, 0, 0, 0) := rfl
theorem zk_145_27 : zc 145 27 = some (.aload_n 0, 0, 0, 0, 0) := rfl
theorem zk_145_28 : zc 145 28 = some (.getfield 7, 11, 0, 0, 139) := rfl
theorem zk_145_31 : zc 145 31 = some (.iload_n 2, 0, 0, 0, 0) := rfl
theorem zk_145_32 : zc 145 32 = some (.ifCond .eq 9, 41, 0, 0, 0) := rfl
theorem zk_145_35 : zc 145 35 = some (.sipush 352, 0, 0, 0, 0) := rfl
theorem zk_145_38 : zc 145 38 = some (.goto 6, 44, 0, 0, 0) := rfl
theorem zk_145_41 : zc 145 41 = some (.sipush 256, 0, 0, 0, 0) := rfl
theorem zk_145_44 : zc 145 44 = some (.iload_n 1, 0, 0, 0, 0) := rfl
theorem zk_145_45 : zc 145 45 = some (.iload_n 3, 0, 0, 0, 0) := rfl
theorem zk_145_46 : zc 145 46 = some (.irem, 0, 0, 0, 0) := rfl
theorem zk_145_47 : zc 145 47 = some (.iadd, 0, 0, 0, 0) := rfl
theorem zk_145_48 : zc 145 48 = some (.iaload, 0, 0, 0, 0) := rfl
theorem zk_145_49 : zc 145 49 = some (.ireturn, 0, 0, 0, 0) := rfl
theorem zk_157_0 : zc 157 0 = some (.iload_n 1, 0, 0, 0, 0) := rfl
theorem zk_157_1 : zc 157 1 = some (.ifCond .lt 19, 20, 0, 0, 0) := rfl
theorem zk_157_4 : zc 157 4 = some (.iload_n 1, 0, 0, 0, 0) := rfl
theorem zk_157_5 : zc 157 5 = some (.aload_n 0, 0, 0, 0, 0) := rfl
theorem zk_157_6 : zc 157 6 = some (.getfield 7, 11, 0, 0, 139) := rfl
theorem zk_157_9 : zc 157 9 = some (.sipush 640, 0, 0, 0, 0) := rfl
theorem zk_157_12 : zc 157 12 = some (.iaload, 0, 0, 0, 0) := rfl
theorem zk_157_13 : zc 157 13 = some (.if_icmp .ge 7, 20, 0, 0, 0) := rfl
theorem zk_157_16 : zc 157 16 = some (.iconst 1, 0, 0, 0, 0) := rfl
theorem zk_157_17 : zc 157 17 = some (.goto 4, 21, 0, 0, 0) := rfl
theorem zk_157_20 : zc 157 20 = some (.iconst 0, 0, 0, 0, 0) := rfl
theorem zk_157_21 : zc 157 21 = some (.ireturn, 0, 0, 0, 0) := rfl
theorem zk_159_0 : zc 159 0 = some (.aload_n 0, 0, 0, 0, 0) := rfl
theorem zk_159_1 : zc 159 1 = some (.getfield 7, 11, 0, 0, 139) := rfl
theorem zk_159_4 : zc 159 4 = some (.bipush 25, 0, 0, 0, 0) := rfl
theorem zk_159_6 : zc 159 6 = some (.iaload, 0, 0, 0, 0) := rfl
theorem zk_159_7 : zc 159 7 = some (.istore_n 1, 0, 0, 0, 0) := rfl
theorem zk_159_8 : zc 159 8 = some (.iconst 1, 0, 0, 0, 0) := rfl
theorem zk_159_9 : zc 159 9 = some (.istore_n 2, 0, 0, 0, 0) := rfl
theorem zk_159_10 : zc 159 10 = some (.iload_n 2, 0, 0, 0, 0) := rfl
theorem zk_159_11 : zc 159 11 = some (.bipush 25, 0, 0, 0, 0) := rfl
theorem zk_159_13 : zc 159 13 = some (.if_icmp .ge 32, 45, 0, 0, 0) := rfl
theorem zk_159_16 : zc 159 16 = some (.aload_n 0, 0, 0, 0, 0) := rfl
theorem zk_159_17 : zc 159 17 = some (.getfield 7, 11, 0, 0, 139) := rfl
theorem zk_159_20 : zc 159 20 = some (.bipush 25, 0, 0, 0, 0) := rfl
theorem zk_159_22 : zc 159 22 = some (.iload_n 2, 0, 0, 0, 0) := rfl
theorem zk_159_23 : zc 159 23 = some (.iadd, 0, 0, 0, 0) := rfl
theorem zk_159_24 : zc 159 24 = some (.iaload, 0, 0, 0, 0) := rfl
theorem zk_159_25 : zc 159 25 = some (.iload_n 1, 0, 0, 0, 0) := rfl
theorem zk_159_26 : zc 159 26 = some (.if_icmp .le 13, 39, 0, 0, 0) := rfl
theorem zk_159_29 : zc 159 29 = some (.aload_n 0, 0, 0, 0, 0) := rfl
theorem zk_159_30 : zc 159 30 = some (.getfield 7, 11, 0, 0, 139) := rfl
theorem zk_159_33 : zc 159 33 = some (.bipush 25, 0, 0, 0, 0) := rfl
theorem zk_159_35 : zc 159 35 = some (.iload_n 2, 0, 0, 0, 0) := rfl
theorem zk_159_36 : zc 159 36 = some (.iadd, 0, 0, 0, 0) := rfl
theorem zk_159_37 : zc 159 37 = some (.iaload, 0, 0, 0, 0) := rfl
theorem zk_159_38 : zc 159 38 = some (.istore_n 1, 0, 0, 0, 0) := rfl
theorem zk_159_39 : zc 159 39 = some (.iinc 2 1, 0, 0, 0, 0) := rfl
theorem zk_159_42 : zc 159 42 = some (.goto (-32), 10, 0, 0, 0) := rfl
theorem zk_159_45 : zc 159 45 = some (.iload_n 1, 0, 0, 0, 0) := rfl
theorem zk_159_46 : zc 159 46 = some (.ireturn, 0, 0, 0, 0) := rfl
theorem zk_160_0 : zc 160 0 = some (.iconst 0, 0, 0, 0, 0) := rfl
theorem zk_160_1 : zc 160 1 = some (.istore_n 1, 0, 0, 0, 0) := rfl
theorem zk_160_2 : zc 160 2 = some (.iconst 0, 0, 0, 0, 0) := rfl
theorem zk_160_3 : zc 160 3 = some (.istore_n 2, 0, 0, 0, 0) := rfl
theorem zk_160_4 : zc 160 4 = some (.iload_n 2, 0, 0, 0, 0) := rfl
theorem zk_160_5 : zc 160 5 = some (.aload_n 0, 0, 0, 0, 0) := rfl
theorem zk_160_6 : zc 160 6 = some (.getfield 7, 11, 0, 0, 139) := rfl
theorem zk_160_9 : zc 160 9 = some (.sipush 642, 0, 0, 0, 0) := rfl
theorem zk_160_12 : zc 160 12 = some (.iaload, 0, 0, 0, 0) := rfl
theorem zk_160_13 : zc 160 13 = some (.if_icmp .ge 26, 39, 0, 0, 0) := rfl
theorem zk_160_16 : zc 160 16 = some (.aload_n 0, 0, 0, 0, 0) := rfl
theorem zk_160_17 : zc 160 17 = some (.getfield 7, 11, 0, 0, 139) := rfl
theorem zk_160_20 : zc 160 20 = some (.sipush 598, 0, 0, 0, 0) := rfl
theorem zk_160_23 : zc 160 23 = some (.iload_n 2, 0, 0, 0, 0) := rfl
theorem zk_160_24 : zc 160 24 = some (.iadd, 0, 0, 0, 0) := rfl
theorem zk_160_25 : zc 160 25 = some (.iaload, 0, 0, 0, 0) := rfl
theorem zk_160_26 : zc 160 26 = some (.iconst (-1), 0, 0, 0, 0) := rfl
theorem zk_160_27 : zc 160 27 = some (.if_icmp .eq 6, 33, 0, 0, 0) := rfl
theorem zk_160_30 : zc 160 30 = some (.iinc 1 1, 0, 0, 0, 0) := rfl
theorem zk_160_33 : zc 160 33 = some (.iinc 2 1, 0, 0, 0, 0) := rfl
theorem zk_160_36 : zc 160 36 = some (.goto (-32), 4, 0, 0, 0) := rfl
theorem zk_160_39 : zc 160 39 = some (.iload_n 1, 0, 0, 0, 0) := rfl
theorem zk_160_40 : zc 160 40 = some (.ireturn, 0, 0, 0, 0) := rfl
theorem zk_161_0 : zc 161 0 = some (.aload_n 0, 0, 0, 0, 0) := rfl
theorem zk_161_1 : zc 161 1 = some (.getfield 7, 11, 0, 0, 139) := rfl
theorem zk_161_4 : zc 161 4 = some (.sipush 634, 0, 0, 0, 0) := rfl
theorem zk_161_7 : zc 161 7 = some (.iaload, 0, 0, 0, 0) := rfl
theorem zk_161_8 : zc 161 8 = some (.istore_n 2, 0, 0, 0, 0) := rfl
theorem zk_161_9 : zc 161 9 = some (.iload_n 1, 0, 0, 0, 0) := rfl
theorem zk_161_10 : zc 161 10 = some (.lookupswitch 131 #[(102, 50), (104, 119), (108, 114), (115, 107), (119, 126)], 0, 0, 0, 0) := rfl
theorem zk_161_60 : zc 161 60 = some (.aload_n 0, 0, 0, 0, 0) := rfl
theorem zk_161_61 : zc 161 61 = some (.iload_n 2, 0, 0, 0, 0) := rfl
theorem zk_161_62 : zc 161 62 = some (.iconst 1, 0, 0, 0, 0) := rfl
theorem zk_161_63 : zc 161 63 = some (.invokevirtual 134, 145, 0, 3, 135) := rfl
theorem zk_161_66 : zc 161 66 = some (.istore_n 3, 0, 0, 0, 0) := rfl
theorem zk_161_67 : zc 161 67 = some (.iconst 1, 0, 0, 0, 0) := rfl
theorem zk_161_68 : zc 161 68 = some (.istore 4, 0, 0, 0, 0) := rfl
theorem zk_161_70 : zc 161 70 = some (.iload 4, 0, 0, 0, 0) := rfl
theorem zk_161_72 : zc 161 72 = some (.bipush 8, 0, 0, 0, 0) := rfl
theorem zk_161_74 : zc 161 74 = some (.if_icmp .ge 32, 106, 0, 0, 0) := rfl
theorem zk_161_77 : zc 161 77 = some (.aload_n 0, 0, 0, 0, 0) := rfl
theorem zk_161_78 : zc 161 78 = some (.iload_n 2, 0, 0, 0, 0) := rfl
theorem zk_161_79 : zc 161 79 = some (.iload 4, 0, 0, 0, 0) := rfl
theorem zk_161_81 : zc 161 81 = some (.iadd, 0, 0, 0, 0) := rfl
theorem zk_161_82 : zc 161 82 = some (.iconst 1, 0, 0, 0, 0) := rfl
theorem zk_161_83 : zc 161 83 = some (.invokevirtual 134, 145, 0, 3, 135) := rfl
theorem zk_161_86 : zc 161 86 = some (.iload_n 3, 0, 0, 0, 0) := rfl
theorem zk_161_87 : zc 161 87 = some (.if_icmp .le 13, 100, 0, 0, 0) := rfl
theorem zk_161_90 : zc 161 90 = some (.aload_n 0, 0, 0, 0, 0) := rfl
theorem zk_161_91 : zc 161 91 = some (.iload_n 2, 0, 0, 0, 0) := rfl
theorem zk_161_92 : zc 161 92 = some (.iload 4, 0, 0, 0, 0) := rfl
theorem zk_161_94 : zc 161 94 = some (.iadd, 0, 0, 0, 0) := rfl
theorem zk_161_95 : zc 161 95 = some (.iconst 1, 0, 0, 0, 0) := rfl
theorem zk_161_96 : zc 161 96 = some (.invokevirtual 134, 145, 0, 3, 135) := rfl
theorem zk_161_99 : zc 161 99 = some (.istore_n 3, 0, 0, 0, 0) := rfl
theorem zk_161_100 : zc 161 100 = some (.iinc 4 1, 0, 0, 0, 0) := rfl
theorem zk_161_103 : zc 161 103 = some (.goto (-33), 70, 0, 0, 0) := rfl
theorem zk_161_106 : zc 161 106 = some (.iload_n 3, 0, 0, 0, 0) := rfl
theorem zk_161_107 : zc 161 107 = some (.aload_n 0, 0, 0, 0, 0) := rfl
theorem zk_161_108 : zc 161 108 = some (.getfield 7, 11, 0, 0, 139) := rfl
theorem zk_161_111 : zc 161 111 = some (.sipush 637, 0, 0, 0, 0) := rfl
theorem zk_161_114 : zc 161 114 = some (.iaload, 0, 0, 0, 0) := rfl
theorem zk_161_115 : zc 161 115 = some (.iadd, 0, 0, 0, 0) := rfl
theorem zk_161_116 : zc 161 116 = some (.ireturn, 0, 0, 0, 0) := rfl
theorem zk_161_117 : zc 161 117 = some (.aload_n 0, 0, 0, 0, 0) := rfl
theorem zk_161_118 : zc 161 118 = some (.iload_n 2, 0, 0, 0, 0) := rfl
theorem zk_161_119 : zc 161 119 = some (.iconst 1, 0, 0, 0, 0) := rfl
theorem zk_161_120 : zc 161 120 = some (.invokevirtual 134, 145, 0, 3, 135) := rfl
theorem zk_161_123 : zc 161 123 = some (.ireturn, 0, 0, 0, 0) := rfl
theorem zk_161_124 : zc 161 124 = some (.aload_n 0, 0, 0, 0, 0) := rfl
theorem zk_161_125 : zc 161 125 = some (.invokevirtual 186, 159, 0, 1, 144) := rfl
theorem zk_161_128 : zc 161 128 = some (.ireturn, 0, 0, 0, 0) := rfl
theorem zk_161_129 : zc 161 129 = some (.iload_n 2, 0, 0, 0, 0) := rfl
theorem zk_161_130 : zc 161 130 = some (.iconst 4, 0, 0, 0, 0) := rfl
theorem zk_161_131 : zc 161 131 = some (.idiv, 0, 0, 0, 0) := rfl
theorem zk_161_132 : zc 161 132 = some (.bipush 24, 0, 0, 0, 0) := rfl
theorem zk_161_134 : zc 161 134 = some (.irem, 0, 0, 0, 0) := rfl
theorem zk_161_135 : zc 161 135 = some (.ireturn, 0, 0, 0, 0) := rfl
theorem zk_161_136 : zc 161 136 = some (.aload_n 0, 0, 0, 0, 0) := rfl
theorem zk_161_137 : zc 161 137 = some (.invokevirtual 189, 160, 0, 1, 145) := rfl
theorem zk_161_140 : zc 161 140 = some (.ireturn, 0, 0, 0, 0) := rfl
theorem zk_161_141 : zc 161 141 = some (.iload_n 2, 0, 0, 0, 0) := rfl
theorem zk_161_142 : zc 161 142 = some (.bipush 96, 0, 0, 0, 0) := rfl
theorem zk_161_144 : zc 161 144 = some (.idiv, 0, 0, 0, 0) := rfl
theorem zk_161_145 : zc 161 145 = some (.ireturn, 0, 0, 0, 0) := rfl
theorem zk_167_0 : zc 167 0 = some (.iload_n 1, 0, 0, 0, 0) := rfl
theorem zk_167_1 : zc 167 1 = some (.ifCond .lt 19, 20, 0, 0, 0) := rfl
theorem zk_167_4 : zc 167 4 = some (.iload_n 1, 0, 0, 0, 0) := rfl
theorem zk_167_5 : zc 167 5 = some (.aload_n 0, 0, 0, 0, 0) := rfl
theorem zk_167_6 : zc 167 6 = some (.getfield 7, 11, 0, 0, 139) := rfl
theorem zk_167_9 : zc 167 9 = some (.sipush 642, 0, 0, 0, 0) := rfl
theorem zk_167_12 : zc 167 12 = some (.iaload, 0, 0, 0, 0) := rfl
theorem zk_167_13 : zc 167 13 = some (.if_icmp .ge 7, 20, 0, 0, 0) := rfl
theorem zk_167_16 : zc 167 16 = some (.iconst 1, 0, 0, 0, 0) := rfl
theorem zk_167_17 : zc 167 17 = some (.goto 4, 21, 0, 0, 0) := rfl
theorem zk_167_20 : zc 167 20 = some (.iconst 0, 0, 0, 0, 0) := rfl
theorem zk_167_21 : zc 167 21 = some (.ireturn, 0, 0, 0, 0) := rfl
theorem zk_170_0 : zc 170 0 = some (.iload_n 2, 0, 0, 0, 0) := rfl
theorem zk_170_1 : zc 170 1 = some (.iload_n 3, 0, 0, 0, 0) := rfl
theorem zk_170_2 : zc 170 2 = some (.invokestatic 107, 126, 1, 2, 130) := rfl
theorem zk_170_5 : zc 170 5 = some (.istore 4, 0, 0, 0, 0) := rfl
theorem zk_170_7 : zc 170 7 = some (.iload 4, 0, 0, 0, 0) := rfl
theorem zk_170_9 : zc 170 9 = some (.iconst (-1), 0, 0, 0, 0) := rfl
theorem zk_170_10 : zc 170 10 = some (.if_icmp .eq 17, 27, 0, 0, 0) := rfl
theorem zk_170_13 : zc 170 13 = some (.aload_n 0, 0, 0, 0, 0) := rfl
theorem zk_170_14 : zc 170 14 = some (.getfield 7, 11, 0, 0, 139) := rfl
theorem zk_170_17 : zc 170 17 = some (.bipush 100, 0, 0, 0, 0) := rfl
theorem zk_170_19 : zc 170 19 = some (.iload 4, 0, 0, 0, 0) := rfl
theorem zk_170_21 : zc 170 21 = some (.iadd, 0, 0, 0, 0) := rfl
theorem zk_170_22 : zc 170 22 = some (.iaload, 0, 0, 0, 0) := rfl
theorem zk_170_23 : zc 170 23 = some (.iconst 1, 0, 0, 0, 0) := rfl
theorem zk_170_24 : zc 170 24 = some (.if_icmp .ne 5, 29, 0, 0, 0) := rfl
theorem zk_170_27 : zc 170 27 = some (.iconst 0, 0, 0, 0, 0) := rfl
theorem zk_170_28 : zc 170 28 = some (.ireturn, 0, 0, 0, 0) := rfl
theorem zk_170_29 : zc 170 29 = some (.aload_n 0, 0, 0, 0, 0) := rfl
theorem zk_170_30 : zc 170 30 = some (.getfield 7, 11, 0, 0, 139) := rfl
theorem zk_170_33 : zc 170 33 = some (.sipush 574, 0, 0, 0, 0) := rfl
theorem zk_170_36 : zc 170 36 = some (.iload_n 1, 0, 0, 0, 0) := rfl
theorem zk_170_37 : zc 170 37 = some (.iadd, 0, 0, 0, 0) := rfl
theorem zk_170_38 : zc 170 38 = some (.iaload, 0, 0, 0, 0) := rfl
theorem zk_170_39 : zc 170 39 = some (.istore 5, 0, 0, 0, 0) := rfl
theorem zk_170_41 : zc 170 41 = some (.aload_n 0, 0, 0, 0, 0) := rfl
theorem zk_170_42 : zc 170 42 = some (.getfield 7, 11, 0, 0, 139) := rfl
theorem zk_170_45 : zc 170 45 = some (.bipush 25, 0, 0, 0, 0) := rfl
theorem zk_170_47 : zc 170 47 = some (.iload_n 2, 0, 0, 0, 0) := rfl
theorem zk_170_48 : zc 170 48 = some (.iadd, 0, 0, 0, 0) := rfl
theorem zk_170_49 : zc 170 49 = some (.iaload, 0, 0, 0, 0) := rfl
theorem zk_170_50 : zc 170 50 = some (.aload_n 0, 0, 0, 0, 0) := rfl
theorem zk_170_51 : zc 170 51 = some (.getfield 7, 11, 0, 0, 139) := rfl
theorem zk_170_54 : zc 170 54 = some (.iconst 0, 0, 0, 0, 0) := rfl
theorem zk_170_55 : zc 170 55 = some (.iload_n 2, 0, 0, 0, 0) := rfl
theorem zk_170_56 : zc 170 56 = some (.iadd, 0, 0, 0, 0) := rfl
theorem zk_170_57 : zc 170 57 = some (.iaload, 0, 0, 0, 0) := rfl
theorem zk_170_58 : zc 170 58 = some (.iadd, 0, 0, 0, 0) := rfl
theorem zk_170_59 : zc 170 59 = some (.iload 5, 0, 0, 0, 0) := rfl
theorem zk_170_61 : zc 170 61 = some (.if_icmp .lt 26, 87, 0, 0, 0) := rfl
theorem zk_170_64 : zc 170 64 = some (.aload_n 0, 0, 0, 0, 0) := rfl
theorem zk_170_65 : zc 170 65 = some (.getfield 7, 11, 0, 0, 139) := rfl
theorem zk_170_68 : zc 170 68 = some (.bipush 25, 0, 0, 0, 0) := rfl
theorem zk_170_70 : zc 170 70 = some (.iload_n 3, 0, 0, 0, 0) := rfl
theorem zk_170_71 : zc 170 71 = some (.iadd, 0, 0, 0, 0) := rfl
theorem zk_170_72 : zc 170 72 = some (.iaload, 0, 0, 0, 0) := rfl
theorem zk_170_73 : zc 170 73 = some (.aload_n 0, 0, 0, 0, 0) := rfl
theorem zk_170_74 : zc 170 74 = some (.getfield 7, 11, 0, 0, 139) := rfl
theorem zk_170_77 : zc 170 77 = some (.iconst 0, 0, 0, 0, 0) := rfl
theorem zk_170_78 : zc 170 78 = some (.iload_n 3, 0, 0, 0, 0) := rfl
theorem zk_170_79 : zc 170 79 = some (.iadd, 0, 0, 0, 0) := rfl
theorem zk_170_80 : zc 170 80 = some (.iaload, 0, 0, 0, 0) := rfl
theorem zk_170_81 : zc 170 81 = some (.iadd, 0, 0, 0, 0) := rfl
theorem zk_170_82 : zc 170 82 = some (.iload 5, 0, 0, 0, 0) := rfl
theorem zk_170_84 : zc 170 84 = some (.if_icmp .ge 5, 89, 0, 0, 0) := rfl
theorem zk_170_87 : zc 170 87 = some (.iconst 0, 0, 0, 0, 0) := rfl
theorem zk_170_88 : zc 170 88 = some (.ireturn, 0, 0, 0, 0) := rfl
theorem zk_170_89 : zc 170 89 = some (.aload_n 0, 0, 0, 0, 0) := rfl
theorem zk_170_90 : zc 170 90 = some (.getfield 7, 11, 0, 0, 139) := rfl
theorem zk_170_93 : zc 170 93 = some (.bipush 25, 0, 0, 0, 0) := rfl
theorem zk_170_95 : zc 170 95 = some (.iload_n 2, 0, 0, 0, 0) := rfl
theorem zk_170_96 : zc 170 96 = some (.iadd, 0, 0, 0, 0) := rfl
theorem zk_170_97 : zc 170 97 = some (.iaload, 0, 0, 0, 0) := rfl
theorem zk_170_98 : zc 170 98 = some (.aload_n 0, 0, 0, 0, 0) := rfl
theorem zk_170_99 : zc 170 99 = some (.getfield 7, 11, 0, 0, 139) := rfl
theorem zk_170_102 : zc 170 102 = some (.bipush 25, 0, 0, 0, 0) := rfl
theorem zk_170_104 : zc 170 104 = some (.iload_n 3, 0, 0, 0, 0) := rfl
theorem zk_170_105 : zc 170 105 = some (.iadd, 0, 0, 0, 0) := rfl
theorem zk_170_106 : zc 170 106 = some (.iaload, 0, 0, 0, 0) := rfl
theorem zk_170_107 : zc 170 107 = some (.if_icmp .le 15, 122, 0, 0, 0) := rfl
theorem zk_170_110 : zc 170 110 = some (.aload_n 0, 0, 0, 0, 0) := rfl
theorem zk_170_111 : zc 170 111 = some (.getfield 7, 11, 0, 0, 139) := rfl
theorem zk_170_114 : zc 170 114 = some (.bipush 25, 0, 0, 0, 0) := rfl
theorem zk_170_116 : zc 170 116 = some (.iload_n 2, 0, 0, 0, 0) := rfl
theorem zk_170_117 : zc 170 117 = some (.iadd, 0, 0, 0, 0) := rfl
theorem zk_170_118 : zc 170 118 = some (.iaload, 0, 0, 0, 0) := rfl
theorem zk_170_119 : zc 170 119 = some (.goto 12, 131, 0, 0, 0) := rfl
theorem zk_170_122 : zc 170 122 = some (.aload_n 0, 0, 0, 0, 0) := rfl
theorem zk_170_123 : zc 170 123 = some (.getfield 7, 11, 0, 0, 139) := rfl
theorem zk_170_126 : zc 170 126 = some (.bipush 25, 0, 0, 0, 0) := rfl
theorem zk_170_128 : zc 170 128 = some (.iload_n 3, 0, 0, 0, 0) := rfl
theorem zk_170_129 : zc 170 129 = some (.iadd, 0, 0, 0, 0) := rfl
theorem zk_170_130 : zc 170 130 = some (.iaload, 0, 0, 0, 0) := rfl
theorem zk_170_131 : zc 170 131 = some (.istore 6, 0, 0, 0, 0) := rfl
theorem zk_170_133 : zc 170 133 = some (.aload_n 0, 0, 0, 0, 0) := rfl
theorem zk_170_134 : zc 170 134 = some (.getfield 7, 11, 0, 0, 139) := rfl
theorem zk_170_137 : zc 170 137 = some (.sipush 200, 0, 0, 0, 0) := rfl
theorem zk_170_140 : zc 170 140 = some (.iload 4, 0, 0, 0, 0) := rfl
theorem zk_170_142 : zc 170 142 = some (.iadd, 0, 0, 0, 0) := rfl
theorem zk_170_143 : zc 170 143 = some (.iaload, 0, 0, 0, 0) := rfl
theorem zk_170_144 : zc 170 144 = some (.iconst (-1), 0, 0, 0, 0) := rfl
theorem zk_170_145 : zc 170 145 = some (.if_icmp .eq 30, 175, 0, 0, 0) := rfl
theorem zk_170_148 : zc 170 148 = some (.aload_n 0, 0, 0, 0, 0) := rfl
theorem zk_170_149 : zc 170 149 = some (.getfield 7, 11, 0, 0, 139) := rfl
theorem zk_170_152 : zc 170 152 = some (.sipush 580, 0, 0, 0, 0) := rfl
theorem zk_170_155 : zc 170 155 = some (.iload_n 1, 0, 0, 0, 0) := rfl
theorem zk_170_156 : zc 170 156 = some (.iadd, 0, 0, 0, 0) := rfl
theorem zk_170_157 : zc 170 157 = some (.iaload, 0, 0, 0, 0) := rfl
theorem zk_170_158 : zc 170 158 = some (.iload 6, 0, 0, 0, 0) := rfl
theorem zk_170_160 : zc 170 160 = some (.iadd, 0, 0, 0, 0) := rfl
theorem zk_170_161 : zc 170 161 = some (.aload_n 0, 0, 0, 0, 0) := rfl
theorem zk_170_162 : zc 170 162 = some (.getfield 7, 11, 0, 0, 139) := rfl
theorem zk_170_165 : zc 170 165 = some (.sipush 200, 0, 0, 0, 0) := rfl
theorem zk_170_168 : zc 170 168 = some (.iload 4, 0, 0, 0, 0) := rfl
theorem zk_170_170 : zc 170 170 = some (.iadd, 0, 0, 0, 0) := rfl
theorem zk_170_171 : zc 170 171 = some (.iaload, 0, 0, 0, 0) := rfl
theorem zk_170_172 : zc 170 172 = some (.if_icmp .gt 7, 179, 0, 0, 0) := rfl
theorem zk_170_175 : zc 170 175 = some (.iconst 1, 0, 0, 0, 0) := rfl
theorem zk_170_176 : zc 170 176 = some (.goto 4, 180, 0, 0, 0) := rfl
theorem zk_170_179 : zc 170 179 = some (.iconst 0, 0, 0, 0, 0) := rfl
theorem zk_170_180 : zc 170 180 = some (.ireturn, 0, 0, 0, 0) := rfl
theorem zk_171_0 : zc 171 0 = some (.iload_n 1, 0, 0, 0, 0) := rfl
theorem zk_171_1 : zc 171 1 = some (.ifCond .ne 9, 10, 0, 0, 0) := rfl
theorem zk_171_4 : zc 171 4 = some (.iload_n 0, 0, 0, 0, 0) := rfl
theorem zk_171_5 : zc 171 5 = some (.iconst 5, 0, 0, 0, 0) := rfl
theorem zk_171_6 : zc 171 6 = some (.isub, 0, 0, 0, 0) := rfl
theorem zk_171_7 : zc 171 7 = some (.goto 28, 35, 0, 0, 0) := rfl
theorem zk_171_10 : zc 171 10 = some (.iload_n 1, 0, 0, 0, 0) := rfl
theorem zk_171_11 : zc 171 11 = some (.iconst 1, 0, 0, 0, 0) := rfl
theorem zk_171_12 : zc 171 12 = some (.if_icmp .ne 9, 21, 0, 0, 0) := rfl
theorem zk_171_15 : zc 171 15 = some (.iload_n 0, 0, 0, 0, 0) := rfl
theorem zk_171_16 : zc 171 16 = some (.iconst 1, 0, 0, 0, 0) := rfl
theorem zk_171_17 : zc 171 17 = some (.isub, 0, 0, 0, 0) := rfl
theorem zk_171_18 : zc 171 18 = some (.goto 17, 35, 0, 0, 0) := rfl
theorem zk_171_21 : zc 171 21 = some (.iload_n 1, 0, 0, 0, 0) := rfl
theorem zk_171_22 : zc 171 22 = some (.iconst 2, 0, 0, 0, 0) := rfl
theorem zk_171_23 : zc 171 23 = some (.if_icmp .ne 9, 32, 0, 0, 0) := rfl
theorem zk_171_26 : zc 171 26 = some (.iload_n 0, 0, 0, 0, 0) := rfl
theorem zk_171_27 : zc 171 27 = some (.iconst 1, 0, 0, 0, 0) := rfl
theorem zk_171_28 : zc 171 28 = some (.iadd, 0, 0, 0, 0) := rfl
theorem zk_171_29 : zc 171 29 = some (.goto 6, 35, 0, 0, 0) := rfl
theorem zk_171_32 : zc 171 32 = some (.iload_n 0, 0, 0, 0, 0) := rfl
theorem zk_171_33 : zc 171 33 = some (.iconst 5, 0, 0, 0, 0) := rfl
theorem zk_171_34 : zc 171 34 = some (.iadd, 0, 0, 0, 0) := rfl
theorem zk_171_35 : zc 171 35 = some (.ireturn, 0, 0, 0, 0) := rfl
def MJ (a b : Nat) (t i k j : Nat) : Prop := (t = 36 ∧ k = 0 ∧ a ≤ j ∧ j < b) ∨ t = 49
theorem nMJ {a b t i k j : Nat} (hb : decide (((t = 36 ∧ a ≤ j ∧ j < b) ∨ t = 49)) = false) : ¬ MJ a b t i k j := fun h => of_decide_eq_false hb (by unfold MJ at h; omega)
theorem pMJ {a b t i k j : Nat} (hb : decide (t = 49) = true) : MJ a b t i k j := by
  have h := of_decide_eq_true hb
  unfold MJ
  omega
def MK (a b c d : Nat) (t i k j : Nat) : Prop := (t = 36 ∧ k = 0 ∧ ((a ≤ j ∧ j < b) ∨ (c ≤ j ∧ j < d))) ∨ t = 49
theorem pMK {a b c d t i k j : Nat} (hb : decide (t = 49) = true) : MK a b c d t i k j := by
  have h := of_decide_eq_true hb
  unfold MK
  omega
/-- WModel.no -/
theorem m_123 {xs : Nat × (Nat → Int32)} (p0 : Int) (hp0 : -7 ≤ p0 ∧ p0 ≤ -1) (σ : ZS) (hI : Inv σ)   : CT xs 1 123 [av 35 0 0, iv p0] σ (fun v σ' => ∃ y, v = some (iv y) ∧ (y = p0) ∧ IF (MT 49 49 49 49) σ σ' ∧ (True)) := by
  refine G_ct (J := (fun σ' => IF (MT 49 49 49 49) σ σ' ∧ True)) (L := [(0, av 35 0 0), (1, iv p0)]) (nL := 2) rfl rfl rfl ⟨IF.rf hI, trivial⟩ ?_
  refine T_ld zk_123_0 rfl rfl rfl (pc' := 1) rfl ?_
  refine T_getR (t' := 49) (i' := 0) (k' := 0) zk_123_1 rfl rfl rfl vd_35 (pc' := 4) rfl ?_
  refine T_ld zk_123_4 rfl rfl rfl (pc' := 5) rfl ?_
  refine T_op zk_123_5 rfl X_neg (pc' := 6) rfl ?_
  refine T_op (st' := [iv (-p0), av 49 0 0, iv (-p0), av 49 0 0]) zk_123_6 rfl rfl (pc' := 7) rfl ?_
  refine G_iald (lo := -2147483648) (hi := 2147483647) (ln := 8) zk_123_7 rfl rfl vd_49 (by omega) (by omega) (by omega) (fun σ' h => h.1.1) (fun _ h => (by have q := h.1; omega)) (pc' := 8) rfl (fun y1 hy1 hy1' => ?_)
  refine T_op zk_123_8 rfl X_ic (pc' := 9) rfl ?_
  refine G_unk zk_123_9 rfl (pc' := 10) rfl (fun y2 hy2 hy2' => ?_)
  refine G_iast (J' := (fun σ' => IF (MT 49 49 49 49) σ σ' ∧ True)) (ln := 8) zk_123_10 rfl rfl vd_49 (by omega) (by omega) (by omega) (fun σ' h => ⟨h.1.up ⟨by omega, trivial⟩ (by first | exact pMT rfl | (unfold MT; omega)), trivial⟩) (pc' := 11) rfl ?_
  refine T_ld zk_123_11 rfl rfl rfl (pc' := 12) rfl ?_
  exact T_iret zk_123_12 rfl (fun σ' h => ⟨_, rfl, (by omega), h.1, trivial⟩)
/-- WModel.isCell -/
theorem m_124 {xs : Nat × (Nat → Int32)} (p0 : Int) (hp0 : -2147483648 ≤ p0 ∧ p0 ≤ 2147483647) (σ : ZS) (hI : Inv σ)   : CT xs 1 124 [iv p0] σ (fun v σ' => ∃ y, v = some (iv y) ∧ ((y = 0 ∧ (p0 < 0 ∨ 24 < p0)) ∨ (y = 1 ∧ 0 ≤ p0 ∧ p0 ≤ 24)) ∧ IF MN σ σ' ∧ (True)) := by
  refine G_ct (J := (fun σ' => IF MN σ σ' ∧ True)) (L := [(0, iv p0)]) (nL := 1) rfl rfl rfl ⟨IF.rf hI, trivial⟩ ?_
  refine T_ld zk_124_0 rfl rfl rfl (pc' := 1) rfl ?_
  refine T_if_lt zk_124_1 (by omega) (pc' := 4) rfl (fun h1 => ?_) (fun h2 => ?_)
  ·
    refine T_op zk_124_14 rfl X_ic (pc' := 15) rfl ?_
    exact T_zret zk_124_15 rfl (by omega) (fun σ' h => ⟨_, rfl, (by omega), h.1, trivial⟩)
  ·
    refine T_ld zk_124_4 rfl rfl rfl (pc' := 5) rfl ?_
    refine T_op zk_124_5 rfl (X_bi (v := 25) (by decide)) (pc' := 7) rfl ?_
    refine T_icmp_ge zk_124_7 (by omega) (by omega) (pc' := 10) rfl (fun h3 => ?_) (fun h4 => ?_)
    ·
      refine T_op zk_124_14 rfl X_ic (pc' := 15) rfl ?_
      exact T_zret zk_124_15 rfl (by omega) (fun σ' h => ⟨_, rfl, (by omega), h.1, trivial⟩)
    ·
      refine T_op zk_124_10 rfl X_ic (pc' := 11) rfl ?_
      refine T_goto zk_124_11 ?_
      exact T_zret zk_124_15 rfl (by omega) (fun σ' h => ⟨_, rfl, (by omega), h.1, trivial⟩)
/-- WModel.isShelf -/
theorem m_125 {xs : Nat × (Nat → Int32)} (p0 : Int) (hp0 : -2147483648 ≤ p0 ∧ p0 ≤ 2147483647) (σ : ZS) (hI : Inv σ)   : CT xs 1 125 [iv p0] σ (fun v σ' => ∃ y, v = some (iv y) ∧ ((y = 0 ∧ (p0 < 0 ∨ 7 < p0)) ∨ (y = 1 ∧ 0 ≤ p0 ∧ p0 ≤ 7)) ∧ IF MN σ σ' ∧ (True)) := by
  refine G_ct (J := (fun σ' => IF MN σ σ' ∧ True)) (L := [(0, iv p0)]) (nL := 1) rfl rfl rfl ⟨IF.rf hI, trivial⟩ ?_
  refine T_ld zk_125_0 rfl rfl rfl (pc' := 1) rfl ?_
  refine T_if_lt zk_125_1 (by omega) (pc' := 4) rfl (fun h1 => ?_) (fun h2 => ?_)
  ·
    refine T_op zk_125_14 rfl X_ic (pc' := 15) rfl ?_
    exact T_zret zk_125_15 rfl (by omega) (fun σ' h => ⟨_, rfl, (by omega), h.1, trivial⟩)
  ·
    refine T_ld zk_125_4 rfl rfl rfl (pc' := 5) rfl ?_
    refine T_op zk_125_5 rfl (X_bi (v := 8) (by decide)) (pc' := 7) rfl ?_
    refine T_icmp_ge zk_125_7 (by omega) (by omega) (pc' := 10) rfl (fun h3 => ?_) (fun h4 => ?_)
    ·
      refine T_op zk_125_14 rfl X_ic (pc' := 15) rfl ?_
      exact T_zret zk_125_15 rfl (by omega) (fun σ' h => ⟨_, rfl, (by omega), h.1, trivial⟩)
    ·
      refine T_op zk_125_10 rfl X_ic (pc' := 11) rfl ?_
      refine T_goto zk_125_11 ?_
      exact T_zret zk_125_15 rfl (by omega) (fun σ' h => ⟨_, rfl, (by omega), h.1, trivial⟩)
/-- WModel.way -/
theorem m_126 {xs : Nat × (Nat → Int32)} (p0 : Int) (p1 : Int) (hp0 : -2147483648 ≤ p0 ∧ p0 ≤ 2147483647) (hp1 : -2147483648 ≤ p1 ∧ p1 ≤ 2147483647) (σ : ZS) (hI : Inv σ)   : CT xs 2 126 [iv p0, iv p1] σ (fun v σ' => ∃ y, v = some (iv y) ∧ ((y = -1 ∧ ¬ (0 ≤ p0 ∧ p0 ≤ 24 ∧ 0 ≤ p1 ∧ p1 ≤ 24 ∧ (p1 = p0 + 5 ∨ p0 = p1 + 5 ∨ (p1 = p0 + 1 ∧ p0 % 5 < 4) ∨ (p0 = p1 + 1 ∧ p1 % 5 < 4)))) ∨ (0 ≤ y ∧ y ≤ 49 ∧ (0 ≤ p0 ∧ p0 ≤ 24 ∧ 0 ≤ p1 ∧ p1 ≤ 24 ∧ (p1 = p0 + 5 ∨ p0 = p1 + 5 ∨ (p1 = p0 + 1 ∧ p0 % 5 < 4) ∨ (p0 = p1 + 1 ∧ p1 % 5 < 4))))) ∧ IF MN σ σ' ∧ (True)) := by
  refine G_ct (J := (fun σ' => IF MN σ σ' ∧ True)) (L := [(0, iv p0), (1, iv p1)]) (nL := 4) rfl rfl rfl ⟨IF.rf hI, trivial⟩ ?_
  refine T_ld zk_126_0 rfl rfl rfl (pc' := 1) rfl ?_
  refine T_calli (K := fun y1 σ' => ((y1 = 0 ∧ (p0 < 0 ∨ 24 < p0)) ∨ (y1 = 1 ∧ 0 ≤ p0 ∧ p0 ≤ 24)) ∧ (fun σ' => IF MN σ σ' ∧ True) σ') (r := []) zk_126_1 rfl rfl rfl rfl rfl rfl (Or.inl (Or.inl rfl)) (fun σ' h => (m_124 p0 (by omega) σ' h.1.1 ).le (Nat.le_of_ble_eq_true rfl) (fun v σ2 ⟨y, h1, h2, h3, h4⟩ => ⟨y, h1, h2, h.1.tr h3 MN_sub, trivial⟩)) (pc' := 4) rfl (fun y1 => ?_)
  refine G_ex (fun hy1 => ?_)
  refine T_if_eq zk_126_4 (by omega) (pc' := 7) rfl (fun h2 => ?_) (fun h3 => ?_)
  ·
    refine T_op zk_126_14 rfl X_ic (pc' := 15) rfl ?_
    exact T_iret zk_126_15 rfl (fun σ' h => ⟨_, rfl, (by omega), h.1, trivial⟩)
  ·
    refine T_ld zk_126_7 rfl rfl rfl (pc' := 8) rfl ?_
    refine T_calli (K := fun y4 σ' => ((y4 = 0 ∧ (p1 < 0 ∨ 24 < p1)) ∨ (y4 = 1 ∧ 0 ≤ p1 ∧ p1 ≤ 24)) ∧ (fun σ' => IF MN σ σ' ∧ True) σ') (r := []) zk_126_8 rfl rfl rfl rfl rfl rfl (Or.inl (Or.inl rfl)) (fun σ' h => (m_124 p1 (by omega) σ' h.1.1 ).le (Nat.le_of_ble_eq_true rfl) (fun v σ2 ⟨y, h1, h2, h3, h4⟩ => ⟨y, h1, h2, h.1.tr h3 MN_sub, trivial⟩)) (pc' := 11) rfl (fun y4 => ?_)
    refine G_ex (fun hy4 => ?_)
    refine T_if_ne zk_126_11 (by omega) (pc' := 14) rfl (fun h5 => ?_) (fun h6 => ?_)
    ·
      refine T_ld zk_126_16 rfl rfl rfl (pc' := 17) rfl ?_
      refine T_ld zk_126_17 rfl rfl rfl (pc' := 18) rfl ?_
      refine T_icmp_ge zk_126_18 (by omega) (by omega) (pc' := 21) rfl (fun h7 => ?_) (fun h8 => ?_)
      ·
        refine T_ld zk_126_25 rfl rfl rfl (pc' := 26) rfl ?_
        refine T_st (L' := [(0, iv p0), (1, iv p1), (2, iv p1)]) zk_126_26 (nL := 4) rfl rfl rfl rfl rfl (pc' := 27) rfl ?_
        refine T_ld zk_126_27 rfl rfl rfl (pc' := 28) rfl ?_
        refine T_ld zk_126_28 rfl rfl rfl (pc' := 29) rfl ?_
        refine T_icmp_ge zk_126_29 (by omega) (by omega) (pc' := 32) rfl (fun h9 => ?_) (fun h10 => ?_)
        ·
          refine T_ld zk_126_36 rfl rfl rfl (pc' := 37) rfl ?_
          refine T_st (L' := [(0, iv p0), (1, iv p1), (2, iv p1), (3, iv p0)]) zk_126_37 (nL := 4) rfl rfl rfl rfl rfl (pc' := 38) rfl ?_
          refine T_ld zk_126_38 rfl rfl rfl (pc' := 39) rfl ?_
          refine T_ld zk_126_39 rfl rfl rfl (pc' := 40) rfl ?_
          refine T_op zk_126_40 rfl X_ic (pc' := 41) rfl ?_
          refine T_op zk_126_41 rfl X_add (pc' := 42) rfl ?_
          refine T_icmp_ne zk_126_42 (by omega) (by omega) (pc' := 45) rfl (fun h11 => ?_) (fun h12 => ?_)
          ·
            refine T_ld zk_126_51 rfl rfl rfl (pc' := 52) rfl ?_
            refine T_ld zk_126_52 rfl rfl rfl (pc' := 53) rfl ?_
            refine T_op zk_126_53 rfl X_ic (pc' := 54) rfl ?_
            refine T_op zk_126_54 rfl X_add (pc' := 55) rfl ?_
            refine T_icmp_ne zk_126_55 (by omega) (by omega) (pc' := 58) rfl (fun h13 => ?_) (fun h14 => ?_)
            ·
              refine T_op zk_126_71 rfl X_ic (pc' := 72) rfl ?_
              exact T_iret zk_126_72 rfl (fun σ' h => ⟨_, rfl, (by omega), h.1, trivial⟩)
            ·
              refine T_ld zk_126_58 rfl rfl rfl (pc' := 59) rfl ?_
              refine T_op zk_126_59 rfl X_ic (pc' := 60) rfl ?_
              refine T_op zk_126_60 rfl (X_rem (by omega) (by omega)) (pc' := 61) rfl ?_
              refine T_op zk_126_61 rfl X_ic (pc' := 62) rfl ?_
              refine T_icmp_ge zk_126_62 (by omega) (by omega) (pc' := 65) rfl (fun h15 => ?_) (fun h16 => ?_)
              ·
                refine T_op zk_126_71 rfl X_ic (pc' := 72) rfl ?_
                exact T_iret zk_126_72 rfl (fun σ' h => ⟨_, rfl, (by omega), h.1, trivial⟩)
              ·
                refine T_op zk_126_65 rfl X_ic (pc' := 66) rfl ?_
                refine T_ld zk_126_66 rfl rfl rfl (pc' := 67) rfl ?_
                refine T_op zk_126_67 rfl X_mul (pc' := 68) rfl ?_
                refine T_goto zk_126_68 ?_
                exact T_iret zk_126_72 rfl (fun σ' h => ⟨_, rfl, (by omega), h.1, trivial⟩)
          ·
            refine T_op zk_126_45 rfl X_ic (pc' := 46) rfl ?_
            refine T_ld zk_126_46 rfl rfl rfl (pc' := 47) rfl ?_
            refine T_op zk_126_47 rfl X_mul (pc' := 48) rfl ?_
            refine T_op zk_126_48 rfl X_ic (pc' := 49) rfl ?_
            refine T_op zk_126_49 rfl X_add (pc' := 50) rfl ?_
            exact T_iret zk_126_50 rfl (fun σ' h => ⟨_, rfl, (by omega), h.1, trivial⟩)
        ·
          refine T_ld zk_126_32 rfl rfl rfl (pc' := 33) rfl ?_
          refine T_goto zk_126_33 ?_
          refine T_st (L' := [(0, iv p0), (1, iv p1), (2, iv p1), (3, iv p1)]) zk_126_37 (nL := 4) rfl rfl rfl rfl rfl (pc' := 38) rfl ?_
          refine T_ld zk_126_38 rfl rfl rfl (pc' := 39) rfl ?_
          refine T_ld zk_126_39 rfl rfl rfl (pc' := 40) rfl ?_
          refine T_op zk_126_40 rfl X_ic (pc' := 41) rfl ?_
          refine T_op zk_126_41 rfl X_add (pc' := 42) rfl ?_
          refine T_icmp_ne zk_126_42 (by omega) (by omega) (pc' := 45) rfl (fun h17 => ?_) (fun h18 => ?_)
          ·
            refine T_ld zk_126_51 rfl rfl rfl (pc' := 52) rfl ?_
            refine T_ld zk_126_52 rfl rfl rfl (pc' := 53) rfl ?_
            refine T_op zk_126_53 rfl X_ic (pc' := 54) rfl ?_
            refine T_op zk_126_54 rfl X_add (pc' := 55) rfl ?_
            refine T_icmp_ne zk_126_55 (by omega) (by omega) (pc' := 58) rfl (fun h19 => ?_) (fun h20 => ?_)
            ·
              refine T_op zk_126_71 rfl X_ic (pc' := 72) rfl ?_
              exact T_iret zk_126_72 rfl (fun σ' h => ⟨_, rfl, (by omega), h.1, trivial⟩)
            ·
              refine T_ld zk_126_58 rfl rfl rfl (pc' := 59) rfl ?_
              refine T_op zk_126_59 rfl X_ic (pc' := 60) rfl ?_
              refine T_op zk_126_60 rfl (X_rem (by omega) (by omega)) (pc' := 61) rfl ?_
              refine T_op zk_126_61 rfl X_ic (pc' := 62) rfl ?_
              refine T_icmp_ge zk_126_62 (by omega) (by omega) (pc' := 65) rfl (fun h21 => ?_) (fun h22 => ?_)
              ·
                refine T_op zk_126_71 rfl X_ic (pc' := 72) rfl ?_
                exact T_iret zk_126_72 rfl (fun σ' h => ⟨_, rfl, (by omega), h.1, trivial⟩)
              ·
                refine T_op zk_126_65 rfl X_ic (pc' := 66) rfl ?_
                refine T_ld zk_126_66 rfl rfl rfl (pc' := 67) rfl ?_
                refine T_op zk_126_67 rfl X_mul (pc' := 68) rfl ?_
                refine T_goto zk_126_68 ?_
                exact T_iret zk_126_72 rfl (fun σ' h => ⟨_, rfl, (by omega), h.1, trivial⟩)
          ·
            refine T_op zk_126_45 rfl X_ic (pc' := 46) rfl ?_
            refine T_ld zk_126_46 rfl rfl rfl (pc' := 47) rfl ?_
            refine T_op zk_126_47 rfl X_mul (pc' := 48) rfl ?_
            refine T_op zk_126_48 rfl X_ic (pc' := 49) rfl ?_
            refine T_op zk_126_49 rfl X_add (pc' := 50) rfl ?_
            exact T_iret zk_126_50 rfl (fun σ' h => ⟨_, rfl, (by omega), h.1, trivial⟩)
      ·
        refine T_ld zk_126_21 rfl rfl rfl (pc' := 22) rfl ?_
        refine T_goto zk_126_22 ?_
        refine T_st (L' := [(0, iv p0), (1, iv p1), (2, iv p0)]) zk_126_26 (nL := 4) rfl rfl rfl rfl rfl (pc' := 27) rfl ?_
        refine T_ld zk_126_27 rfl rfl rfl (pc' := 28) rfl ?_
        refine T_ld zk_126_28 rfl rfl rfl (pc' := 29) rfl ?_
        refine T_icmp_ge zk_126_29 (by omega) (by omega) (pc' := 32) rfl (fun h23 => ?_) (fun h24 => ?_)
        ·
          refine T_ld zk_126_36 rfl rfl rfl (pc' := 37) rfl ?_
          refine T_st (L' := [(0, iv p0), (1, iv p1), (2, iv p0), (3, iv p0)]) zk_126_37 (nL := 4) rfl rfl rfl rfl rfl (pc' := 38) rfl ?_
          refine T_ld zk_126_38 rfl rfl rfl (pc' := 39) rfl ?_
          refine T_ld zk_126_39 rfl rfl rfl (pc' := 40) rfl ?_
          refine T_op zk_126_40 rfl X_ic (pc' := 41) rfl ?_
          refine T_op zk_126_41 rfl X_add (pc' := 42) rfl ?_
          refine T_icmp_ne zk_126_42 (by omega) (by omega) (pc' := 45) rfl (fun h25 => ?_) (fun h26 => ?_)
          ·
            refine T_ld zk_126_51 rfl rfl rfl (pc' := 52) rfl ?_
            refine T_ld zk_126_52 rfl rfl rfl (pc' := 53) rfl ?_
            refine T_op zk_126_53 rfl X_ic (pc' := 54) rfl ?_
            refine T_op zk_126_54 rfl X_add (pc' := 55) rfl ?_
            refine T_icmp_ne zk_126_55 (by omega) (by omega) (pc' := 58) rfl (fun h27 => ?_) (fun h28 => ?_)
            ·
              refine T_op zk_126_71 rfl X_ic (pc' := 72) rfl ?_
              exact T_iret zk_126_72 rfl (fun σ' h => ⟨_, rfl, (by omega), h.1, trivial⟩)
            ·
              refine T_ld zk_126_58 rfl rfl rfl (pc' := 59) rfl ?_
              refine T_op zk_126_59 rfl X_ic (pc' := 60) rfl ?_
              refine T_op zk_126_60 rfl (X_rem (by omega) (by omega)) (pc' := 61) rfl ?_
              refine T_op zk_126_61 rfl X_ic (pc' := 62) rfl ?_
              refine T_icmp_ge zk_126_62 (by omega) (by omega) (pc' := 65) rfl (fun h29 => ?_) (fun h30 => ?_)
              ·
                refine T_op zk_126_71 rfl X_ic (pc' := 72) rfl ?_
                exact T_iret zk_126_72 rfl (fun σ' h => ⟨_, rfl, (by omega), h.1, trivial⟩)
              ·
                refine T_op zk_126_65 rfl X_ic (pc' := 66) rfl ?_
                refine T_ld zk_126_66 rfl rfl rfl (pc' := 67) rfl ?_
                refine T_op zk_126_67 rfl X_mul (pc' := 68) rfl ?_
                refine T_goto zk_126_68 ?_
                exact T_iret zk_126_72 rfl (fun σ' h => ⟨_, rfl, (by omega), h.1, trivial⟩)
          ·
            refine T_op zk_126_45 rfl X_ic (pc' := 46) rfl ?_
            refine T_ld zk_126_46 rfl rfl rfl (pc' := 47) rfl ?_
            refine T_op zk_126_47 rfl X_mul (pc' := 48) rfl ?_
            refine T_op zk_126_48 rfl X_ic (pc' := 49) rfl ?_
            refine T_op zk_126_49 rfl X_add (pc' := 50) rfl ?_
            exact T_iret zk_126_50 rfl (fun σ' h => ⟨_, rfl, (by omega), h.1, trivial⟩)
        ·
          refine T_ld zk_126_32 rfl rfl rfl (pc' := 33) rfl ?_
          refine T_goto zk_126_33 ?_
          refine T_st (L' := [(0, iv p0), (1, iv p1), (2, iv p0), (3, iv p1)]) zk_126_37 (nL := 4) rfl rfl rfl rfl rfl (pc' := 38) rfl ?_
          refine T_ld zk_126_38 rfl rfl rfl (pc' := 39) rfl ?_
          refine T_ld zk_126_39 rfl rfl rfl (pc' := 40) rfl ?_
          refine T_op zk_126_40 rfl X_ic (pc' := 41) rfl ?_
          refine T_op zk_126_41 rfl X_add (pc' := 42) rfl ?_
          refine T_icmp_ne zk_126_42 (by omega) (by omega) (pc' := 45) rfl (fun h31 => ?_) (fun h32 => ?_)
          ·
            refine T_ld zk_126_51 rfl rfl rfl (pc' := 52) rfl ?_
            refine T_ld zk_126_52 rfl rfl rfl (pc' := 53) rfl ?_
            refine T_op zk_126_53 rfl X_ic (pc' := 54) rfl ?_
            refine T_op zk_126_54 rfl X_add (pc' := 55) rfl ?_
            refine T_icmp_ne zk_126_55 (by omega) (by omega) (pc' := 58) rfl (fun h33 => ?_) (fun h34 => ?_)
            ·
              refine T_op zk_126_71 rfl X_ic (pc' := 72) rfl ?_
              exact T_iret zk_126_72 rfl (fun σ' h => ⟨_, rfl, (by omega), h.1, trivial⟩)
            ·
              refine T_ld zk_126_58 rfl rfl rfl (pc' := 59) rfl ?_
              refine T_op zk_126_59 rfl X_ic (pc' := 60) rfl ?_
              refine T_op zk_126_60 rfl (X_rem (by omega) (by omega)) (pc' := 61) rfl ?_
              refine T_op zk_126_61 rfl X_ic (pc' := 62) rfl ?_
              refine T_icmp_ge zk_126_62 (by omega) (by omega) (pc' := 65) rfl (fun h35 => ?_) (fun h36 => ?_)
              ·
                refine T_op zk_126_71 rfl X_ic (pc' := 72) rfl ?_
                exact T_iret zk_126_72 rfl (fun σ' h => ⟨_, rfl, (by omega), h.1, trivial⟩)
              ·
                refine T_op zk_126_65 rfl X_ic (pc' := 66) rfl ?_
                refine T_ld zk_126_66 rfl rfl rfl (pc' := 67) rfl ?_
                refine T_op zk_126_67 rfl X_mul (pc' := 68) rfl ?_
                refine T_goto zk_126_68 ?_
                exact T_iret zk_126_72 rfl (fun σ' h => ⟨_, rfl, (by omega), h.1, trivial⟩)
          ·
            refine T_op zk_126_45 rfl X_ic (pc' := 46) rfl ?_
            refine T_ld zk_126_46 rfl rfl rfl (pc' := 47) rfl ?_
            refine T_op zk_126_47 rfl X_mul (pc' := 48) rfl ?_
            refine T_op zk_126_48 rfl X_ic (pc' := 49) rfl ?_
            refine T_op zk_126_49 rfl X_add (pc' := 50) rfl ?_
            exact T_iret zk_126_50 rfl (fun σ' h => ⟨_, rfl, (by omega), h.1, trivial⟩)
    ·
      refine T_op zk_126_14 rfl X_ic (pc' := 15) rfl ?_
      exact T_iret zk_126_15 rfl (fun σ' h => ⟨_, rfl, (by omega), h.1, trivial⟩)
/-- WModel.turns -/
theorem m_129_100 {xs : Nat × (Nat → Int32)} (p0 : Int) (p1 : Int) (hp0 : 100 ≤ p0 ∧ p0 ≤ 149) (hp1 : 0 ≤ p1 ∧ p1 ≤ 1) (σ : ZS) (hI : Inv σ)   : CT xs 1 129 [av 35 0 0, iv p0, iv p1] σ (fun v σ' => ∃ y, v = some (iv y) ∧ (y = 0 ∨ y = 1) ∧ IF (MJ 100 150) σ σ' ∧ (True)) := by
  refine G_ct (J := (fun σ' => IF (MJ 100 150) σ σ' ∧ True)) (L := [(0, av 35 0 0), (1, iv p0), (2, iv p1)]) (nL := 4) rfl rfl rfl ⟨IF.rf hI, trivial⟩ ?_
  refine T_ld zk_129_0 rfl rfl rfl (pc' := 1) rfl ?_
  refine T_if_eq zk_129_1 (by omega) (pc' := 4) rfl (fun h1 => ?_) (fun h2 => ?_)
  ·
    refine T_op zk_129_8 rfl X_ic (pc' := 9) rfl ?_
    refine T_st (L' := [(0, av 35 0 0), (1, iv p0), (2, iv p1), (3, iv 0)]) zk_129_9 (nL := 4) rfl rfl rfl rfl rfl (pc' := 10) rfl ?_
    refine T_ld zk_129_10 rfl rfl rfl (pc' := 11) rfl ?_
    refine T_getR (t' := 36) (i' := 0) (k' := 0) zk_129_11 rfl rfl rfl vd_35 (pc' := 14) rfl ?_
    refine T_ld zk_129_14 rfl rfl rfl (pc' := 15) rfl ?_
    refine G_iald (lo := -2147483648) (hi := 2147483647) (ln := 646) zk_129_15 rfl rfl (vd_36 (by omega)) (by omega) (by omega) (by omega) (fun σ' h => h.1.1) (fun _ h => (by have q := h.1; omega)) (pc' := 16) rfl (fun y3 hy3 hy3' => ?_)
    refine T_ld zk_129_16 rfl rfl rfl (pc' := 17) rfl ?_
    refine T_icmp_ne zk_129_17 (by omega) (by omega) (pc' := 20) rfl (fun h4 => ?_) (fun h5 => ?_)
    ·
      refine T_ld zk_129_22 rfl rfl rfl (pc' := 23) rfl ?_
      refine T_getR (t' := 36) (i' := 0) (k' := 0) zk_129_23 rfl rfl rfl vd_35 (pc' := 26) rfl ?_
      refine T_ld zk_129_26 rfl rfl rfl (pc' := 27) rfl ?_
      refine T_ld zk_129_27 rfl rfl rfl (pc' := 28) rfl ?_
      refine G_iast (J' := (fun σ' => IF (MJ 100 150) σ σ' ∧ True)) (ln := 646) zk_129_28 rfl rfl (vd_36 (by omega)) (by omega) (by omega) (by omega) (fun σ' h => ⟨h.1.up (by simp only [rgP] <;> omega) (by first | exact pMJ rfl | (unfold MJ; omega)), trivial⟩) (pc' := 29) rfl ?_
      refine T_op zk_129_29 rfl X_ic (pc' := 30) rfl ?_
      exact T_iret zk_129_30 rfl (fun σ' h => ⟨_, rfl, (by omega), h.1, trivial⟩)
    ·
      refine T_op zk_129_20 rfl X_ic (pc' := 21) rfl ?_
      exact T_iret zk_129_21 rfl (fun σ' h => ⟨_, rfl, (by omega), h.1, trivial⟩)
  ·
    refine T_op zk_129_4 rfl X_ic (pc' := 5) rfl ?_
    refine T_goto zk_129_5 ?_
    refine T_st (L' := [(0, av 35 0 0), (1, iv p0), (2, iv p1), (3, iv 1)]) zk_129_9 (nL := 4) rfl rfl rfl rfl rfl (pc' := 10) rfl ?_
    refine T_ld zk_129_10 rfl rfl rfl (pc' := 11) rfl ?_
    refine T_getR (t' := 36) (i' := 0) (k' := 0) zk_129_11 rfl rfl rfl vd_35 (pc' := 14) rfl ?_
    refine T_ld zk_129_14 rfl rfl rfl (pc' := 15) rfl ?_
    refine G_iald (lo := -2147483648) (hi := 2147483647) (ln := 646) zk_129_15 rfl rfl (vd_36 (by omega)) (by omega) (by omega) (by omega) (fun σ' h => h.1.1) (fun _ h => (by have q := h.1; omega)) (pc' := 16) rfl (fun y6 hy6 hy6' => ?_)
    refine T_ld zk_129_16 rfl rfl rfl (pc' := 17) rfl ?_
    refine T_icmp_ne zk_129_17 (by omega) (by omega) (pc' := 20) rfl (fun h7 => ?_) (fun h8 => ?_)
    ·
      refine T_ld zk_129_22 rfl rfl rfl (pc' := 23) rfl ?_
      refine T_getR (t' := 36) (i' := 0) (k' := 0) zk_129_23 rfl rfl rfl vd_35 (pc' := 26) rfl ?_
      refine T_ld zk_129_26 rfl rfl rfl (pc' := 27) rfl ?_
      refine T_ld zk_129_27 rfl rfl rfl (pc' := 28) rfl ?_
      refine G_iast (J' := (fun σ' => IF (MJ 100 150) σ σ' ∧ True)) (ln := 646) zk_129_28 rfl rfl (vd_36 (by omega)) (by omega) (by omega) (by omega) (fun σ' h => ⟨h.1.up (by simp only [rgP] <;> omega) (by first | exact pMJ rfl | (unfold MJ; omega)), trivial⟩) (pc' := 29) rfl ?_
      refine T_op zk_129_29 rfl X_ic (pc' := 30) rfl ?_
      exact T_iret zk_129_30 rfl (fun σ' h => ⟨_, rfl, (by omega), h.1, trivial⟩)
    ·
      refine T_op zk_129_20 rfl X_ic (pc' := 21) rfl ?_
      exact T_iret zk_129_21 rfl (fun σ' h => ⟨_, rfl, (by omega), h.1, trivial⟩)
/-- WModel.turns -/
theorem m_129_150 {xs : Nat × (Nat → Int32)} (p0 : Int) (p1 : Int) (hp0 : 150 ≤ p0 ∧ p0 ≤ 199) (hp1 : 0 ≤ p1 ∧ p1 ≤ 1) (σ : ZS) (hI : Inv σ)   : CT xs 1 129 [av 35 0 0, iv p0, iv p1] σ (fun v σ' => ∃ y, v = some (iv y) ∧ (y = 0 ∨ y = 1) ∧ IF (MJ 150 200) σ σ' ∧ (True)) := by
  refine G_ct (J := (fun σ' => IF (MJ 150 200) σ σ' ∧ True)) (L := [(0, av 35 0 0), (1, iv p0), (2, iv p1)]) (nL := 4) rfl rfl rfl ⟨IF.rf hI, trivial⟩ ?_
  refine T_ld zk_129_0 rfl rfl rfl (pc' := 1) rfl ?_
  refine T_if_eq zk_129_1 (by omega) (pc' := 4) rfl (fun h1 => ?_) (fun h2 => ?_)
  ·
    refine T_op zk_129_8 rfl X_ic (pc' := 9) rfl ?_
    refine T_st (L' := [(0, av 35 0 0), (1, iv p0), (2, iv p1), (3, iv 0)]) zk_129_9 (nL := 4) rfl rfl rfl rfl rfl (pc' := 10) rfl ?_
    refine T_ld zk_129_10 rfl rfl rfl (pc' := 11) rfl ?_
    refine T_getR (t' := 36) (i' := 0) (k' := 0) zk_129_11 rfl rfl rfl vd_35 (pc' := 14) rfl ?_
    refine T_ld zk_129_14 rfl rfl rfl (pc' := 15) rfl ?_
    refine G_iald (lo := -2147483648) (hi := 2147483647) (ln := 646) zk_129_15 rfl rfl (vd_36 (by omega)) (by omega) (by omega) (by omega) (fun σ' h => h.1.1) (fun _ h => (by have q := h.1; omega)) (pc' := 16) rfl (fun y3 hy3 hy3' => ?_)
    refine T_ld zk_129_16 rfl rfl rfl (pc' := 17) rfl ?_
    refine T_icmp_ne zk_129_17 (by omega) (by omega) (pc' := 20) rfl (fun h4 => ?_) (fun h5 => ?_)
    ·
      refine T_ld zk_129_22 rfl rfl rfl (pc' := 23) rfl ?_
      refine T_getR (t' := 36) (i' := 0) (k' := 0) zk_129_23 rfl rfl rfl vd_35 (pc' := 26) rfl ?_
      refine T_ld zk_129_26 rfl rfl rfl (pc' := 27) rfl ?_
      refine T_ld zk_129_27 rfl rfl rfl (pc' := 28) rfl ?_
      refine G_iast (J' := (fun σ' => IF (MJ 150 200) σ σ' ∧ True)) (ln := 646) zk_129_28 rfl rfl (vd_36 (by omega)) (by omega) (by omega) (by omega) (fun σ' h => ⟨h.1.up (by simp only [rgP] <;> omega) (by first | exact pMJ rfl | (unfold MJ; omega)), trivial⟩) (pc' := 29) rfl ?_
      refine T_op zk_129_29 rfl X_ic (pc' := 30) rfl ?_
      exact T_iret zk_129_30 rfl (fun σ' h => ⟨_, rfl, (by omega), h.1, trivial⟩)
    ·
      refine T_op zk_129_20 rfl X_ic (pc' := 21) rfl ?_
      exact T_iret zk_129_21 rfl (fun σ' h => ⟨_, rfl, (by omega), h.1, trivial⟩)
  ·
    refine T_op zk_129_4 rfl X_ic (pc' := 5) rfl ?_
    refine T_goto zk_129_5 ?_
    refine T_st (L' := [(0, av 35 0 0), (1, iv p0), (2, iv p1), (3, iv 1)]) zk_129_9 (nL := 4) rfl rfl rfl rfl rfl (pc' := 10) rfl ?_
    refine T_ld zk_129_10 rfl rfl rfl (pc' := 11) rfl ?_
    refine T_getR (t' := 36) (i' := 0) (k' := 0) zk_129_11 rfl rfl rfl vd_35 (pc' := 14) rfl ?_
    refine T_ld zk_129_14 rfl rfl rfl (pc' := 15) rfl ?_
    refine G_iald (lo := -2147483648) (hi := 2147483647) (ln := 646) zk_129_15 rfl rfl (vd_36 (by omega)) (by omega) (by omega) (by omega) (fun σ' h => h.1.1) (fun _ h => (by have q := h.1; omega)) (pc' := 16) rfl (fun y6 hy6 hy6' => ?_)
    refine T_ld zk_129_16 rfl rfl rfl (pc' := 17) rfl ?_
    refine T_icmp_ne zk_129_17 (by omega) (by omega) (pc' := 20) rfl (fun h7 => ?_) (fun h8 => ?_)
    ·
      refine T_ld zk_129_22 rfl rfl rfl (pc' := 23) rfl ?_
      refine T_getR (t' := 36) (i' := 0) (k' := 0) zk_129_23 rfl rfl rfl vd_35 (pc' := 26) rfl ?_
      refine T_ld zk_129_26 rfl rfl rfl (pc' := 27) rfl ?_
      refine T_ld zk_129_27 rfl rfl rfl (pc' := 28) rfl ?_
      refine G_iast (J' := (fun σ' => IF (MJ 150 200) σ σ' ∧ True)) (ln := 646) zk_129_28 rfl rfl (vd_36 (by omega)) (by omega) (by omega) (by omega) (fun σ' h => ⟨h.1.up (by simp only [rgP] <;> omega) (by first | exact pMJ rfl | (unfold MJ; omega)), trivial⟩) (pc' := 29) rfl ?_
      refine T_op zk_129_29 rfl X_ic (pc' := 30) rfl ?_
      exact T_iret zk_129_30 rfl (fun σ' h => ⟨_, rfl, (by omega), h.1, trivial⟩)
    ·
      refine T_op zk_129_20 rfl X_ic (pc' := 21) rfl ?_
      exact T_iret zk_129_21 rfl (fun σ' h => ⟨_, rfl, (by omega), h.1, trivial⟩)
/-- WModel.turns -/
theorem m_129_253 {xs : Nat × (Nat → Int32)} (p0 : Int) (p1 : Int) (hp0 : 253 ≤ p0 ∧ p0 ≤ 255) (hp1 : 0 ≤ p1 ∧ p1 ≤ 1) (σ : ZS) (hI : Inv σ)   : CT xs 1 129 [av 35 0 0, iv p0, iv p1] σ (fun v σ' => ∃ y, v = some (iv y) ∧ (y = 0 ∨ y = 1) ∧ IF (MJ 253 256) σ σ' ∧ (True)) := by
  refine G_ct (J := (fun σ' => IF (MJ 253 256) σ σ' ∧ True)) (L := [(0, av 35 0 0), (1, iv p0), (2, iv p1)]) (nL := 4) rfl rfl rfl ⟨IF.rf hI, trivial⟩ ?_
  refine T_ld zk_129_0 rfl rfl rfl (pc' := 1) rfl ?_
  refine T_if_eq zk_129_1 (by omega) (pc' := 4) rfl (fun h1 => ?_) (fun h2 => ?_)
  ·
    refine T_op zk_129_8 rfl X_ic (pc' := 9) rfl ?_
    refine T_st (L' := [(0, av 35 0 0), (1, iv p0), (2, iv p1), (3, iv 0)]) zk_129_9 (nL := 4) rfl rfl rfl rfl rfl (pc' := 10) rfl ?_
    refine T_ld zk_129_10 rfl rfl rfl (pc' := 11) rfl ?_
    refine T_getR (t' := 36) (i' := 0) (k' := 0) zk_129_11 rfl rfl rfl vd_35 (pc' := 14) rfl ?_
    refine T_ld zk_129_14 rfl rfl rfl (pc' := 15) rfl ?_
    refine G_iald (lo := -2147483648) (hi := 2147483647) (ln := 646) zk_129_15 rfl rfl (vd_36 (by omega)) (by omega) (by omega) (by omega) (fun σ' h => h.1.1) (fun _ h => (by have q := h.1; omega)) (pc' := 16) rfl (fun y3 hy3 hy3' => ?_)
    refine T_ld zk_129_16 rfl rfl rfl (pc' := 17) rfl ?_
    refine T_icmp_ne zk_129_17 (by omega) (by omega) (pc' := 20) rfl (fun h4 => ?_) (fun h5 => ?_)
    ·
      refine T_ld zk_129_22 rfl rfl rfl (pc' := 23) rfl ?_
      refine T_getR (t' := 36) (i' := 0) (k' := 0) zk_129_23 rfl rfl rfl vd_35 (pc' := 26) rfl ?_
      refine T_ld zk_129_26 rfl rfl rfl (pc' := 27) rfl ?_
      refine T_ld zk_129_27 rfl rfl rfl (pc' := 28) rfl ?_
      refine G_iast (J' := (fun σ' => IF (MJ 253 256) σ σ' ∧ True)) (ln := 646) zk_129_28 rfl rfl (vd_36 (by omega)) (by omega) (by omega) (by omega) (fun σ' h => ⟨h.1.up (by simp only [rgP] <;> omega) (by first | exact pMJ rfl | (unfold MJ; omega)), trivial⟩) (pc' := 29) rfl ?_
      refine T_op zk_129_29 rfl X_ic (pc' := 30) rfl ?_
      exact T_iret zk_129_30 rfl (fun σ' h => ⟨_, rfl, (by omega), h.1, trivial⟩)
    ·
      refine T_op zk_129_20 rfl X_ic (pc' := 21) rfl ?_
      exact T_iret zk_129_21 rfl (fun σ' h => ⟨_, rfl, (by omega), h.1, trivial⟩)
  ·
    refine T_op zk_129_4 rfl X_ic (pc' := 5) rfl ?_
    refine T_goto zk_129_5 ?_
    refine T_st (L' := [(0, av 35 0 0), (1, iv p0), (2, iv p1), (3, iv 1)]) zk_129_9 (nL := 4) rfl rfl rfl rfl rfl (pc' := 10) rfl ?_
    refine T_ld zk_129_10 rfl rfl rfl (pc' := 11) rfl ?_
    refine T_getR (t' := 36) (i' := 0) (k' := 0) zk_129_11 rfl rfl rfl vd_35 (pc' := 14) rfl ?_
    refine T_ld zk_129_14 rfl rfl rfl (pc' := 15) rfl ?_
    refine G_iald (lo := -2147483648) (hi := 2147483647) (ln := 646) zk_129_15 rfl rfl (vd_36 (by omega)) (by omega) (by omega) (by omega) (fun σ' h => h.1.1) (fun _ h => (by have q := h.1; omega)) (pc' := 16) rfl (fun y6 hy6 hy6' => ?_)
    refine T_ld zk_129_16 rfl rfl rfl (pc' := 17) rfl ?_
    refine T_icmp_ne zk_129_17 (by omega) (by omega) (pc' := 20) rfl (fun h7 => ?_) (fun h8 => ?_)
    ·
      refine T_ld zk_129_22 rfl rfl rfl (pc' := 23) rfl ?_
      refine T_getR (t' := 36) (i' := 0) (k' := 0) zk_129_23 rfl rfl rfl vd_35 (pc' := 26) rfl ?_
      refine T_ld zk_129_26 rfl rfl rfl (pc' := 27) rfl ?_
      refine T_ld zk_129_27 rfl rfl rfl (pc' := 28) rfl ?_
      refine G_iast (J' := (fun σ' => IF (MJ 253 256) σ σ' ∧ True)) (ln := 646) zk_129_28 rfl rfl (vd_36 (by omega)) (by omega) (by omega) (by omega) (fun σ' h => ⟨h.1.up (by simp only [rgP] <;> omega) (by first | exact pMJ rfl | (unfold MJ; omega)), trivial⟩) (pc' := 29) rfl ?_
      refine T_op zk_129_29 rfl X_ic (pc' := 30) rfl ?_
      exact T_iret zk_129_30 rfl (fun σ' h => ⟨_, rfl, (by omega), h.1, trivial⟩)
    ·
      refine T_op zk_129_20 rfl X_ic (pc' := 21) rfl ?_
      exact T_iret zk_129_21 rfl (fun σ' h => ⟨_, rfl, (by omega), h.1, trivial⟩)
/-- WModel.turns -/
theorem m_129_628 {xs : Nat × (Nat → Int32)} (p0 : Int) (p1 : Int) (hp0 : 628 ≤ p0 ∧ p0 ≤ 632) (hp1 : 0 ≤ p1 ∧ p1 ≤ 1) (σ : ZS) (hI : Inv σ)   : CT xs 1 129 [av 35 0 0, iv p0, iv p1] σ (fun v σ' => ∃ y, v = some (iv y) ∧ (y = 0 ∨ y = 1) ∧ IF (MJ 628 633) σ σ' ∧ (True)) := by
  refine G_ct (J := (fun σ' => IF (MJ 628 633) σ σ' ∧ True)) (L := [(0, av 35 0 0), (1, iv p0), (2, iv p1)]) (nL := 4) rfl rfl rfl ⟨IF.rf hI, trivial⟩ ?_
  refine T_ld zk_129_0 rfl rfl rfl (pc' := 1) rfl ?_
  refine T_if_eq zk_129_1 (by omega) (pc' := 4) rfl (fun h1 => ?_) (fun h2 => ?_)
  ·
    refine T_op zk_129_8 rfl X_ic (pc' := 9) rfl ?_
    refine T_st (L' := [(0, av 35 0 0), (1, iv p0), (2, iv p1), (3, iv 0)]) zk_129_9 (nL := 4) rfl rfl rfl rfl rfl (pc' := 10) rfl ?_
    refine T_ld zk_129_10 rfl rfl rfl (pc' := 11) rfl ?_
    refine T_getR (t' := 36) (i' := 0) (k' := 0) zk_129_11 rfl rfl rfl vd_35 (pc' := 14) rfl ?_
    refine T_ld zk_129_14 rfl rfl rfl (pc' := 15) rfl ?_
    refine G_iald (lo := -2147483648) (hi := 2147483647) (ln := 646) zk_129_15 rfl rfl (vd_36 (by omega)) (by omega) (by omega) (by omega) (fun σ' h => h.1.1) (fun _ h => (by have q := h.1; omega)) (pc' := 16) rfl (fun y3 hy3 hy3' => ?_)
    refine T_ld zk_129_16 rfl rfl rfl (pc' := 17) rfl ?_
    refine T_icmp_ne zk_129_17 (by omega) (by omega) (pc' := 20) rfl (fun h4 => ?_) (fun h5 => ?_)
    ·
      refine T_ld zk_129_22 rfl rfl rfl (pc' := 23) rfl ?_
      refine T_getR (t' := 36) (i' := 0) (k' := 0) zk_129_23 rfl rfl rfl vd_35 (pc' := 26) rfl ?_
      refine T_ld zk_129_26 rfl rfl rfl (pc' := 27) rfl ?_
      refine T_ld zk_129_27 rfl rfl rfl (pc' := 28) rfl ?_
      refine G_iast (J' := (fun σ' => IF (MJ 628 633) σ σ' ∧ True)) (ln := 646) zk_129_28 rfl rfl (vd_36 (by omega)) (by omega) (by omega) (by omega) (fun σ' h => ⟨h.1.up (by simp only [rgP] <;> omega) (by first | exact pMJ rfl | (unfold MJ; omega)), trivial⟩) (pc' := 29) rfl ?_
      refine T_op zk_129_29 rfl X_ic (pc' := 30) rfl ?_
      exact T_iret zk_129_30 rfl (fun σ' h => ⟨_, rfl, (by omega), h.1, trivial⟩)
    ·
      refine T_op zk_129_20 rfl X_ic (pc' := 21) rfl ?_
      exact T_iret zk_129_21 rfl (fun σ' h => ⟨_, rfl, (by omega), h.1, trivial⟩)
  ·
    refine T_op zk_129_4 rfl X_ic (pc' := 5) rfl ?_
    refine T_goto zk_129_5 ?_
    refine T_st (L' := [(0, av 35 0 0), (1, iv p0), (2, iv p1), (3, iv 1)]) zk_129_9 (nL := 4) rfl rfl rfl rfl rfl (pc' := 10) rfl ?_
    refine T_ld zk_129_10 rfl rfl rfl (pc' := 11) rfl ?_
    refine T_getR (t' := 36) (i' := 0) (k' := 0) zk_129_11 rfl rfl rfl vd_35 (pc' := 14) rfl ?_
    refine T_ld zk_129_14 rfl rfl rfl (pc' := 15) rfl ?_
    refine G_iald (lo := -2147483648) (hi := 2147483647) (ln := 646) zk_129_15 rfl rfl (vd_36 (by omega)) (by omega) (by omega) (by omega) (fun σ' h => h.1.1) (fun _ h => (by have q := h.1; omega)) (pc' := 16) rfl (fun y6 hy6 hy6' => ?_)
    refine T_ld zk_129_16 rfl rfl rfl (pc' := 17) rfl ?_
    refine T_icmp_ne zk_129_17 (by omega) (by omega) (pc' := 20) rfl (fun h7 => ?_) (fun h8 => ?_)
    ·
      refine T_ld zk_129_22 rfl rfl rfl (pc' := 23) rfl ?_
      refine T_getR (t' := 36) (i' := 0) (k' := 0) zk_129_23 rfl rfl rfl vd_35 (pc' := 26) rfl ?_
      refine T_ld zk_129_26 rfl rfl rfl (pc' := 27) rfl ?_
      refine T_ld zk_129_27 rfl rfl rfl (pc' := 28) rfl ?_
      refine G_iast (J' := (fun σ' => IF (MJ 628 633) σ σ' ∧ True)) (ln := 646) zk_129_28 rfl rfl (vd_36 (by omega)) (by omega) (by omega) (by omega) (fun σ' h => ⟨h.1.up (by simp only [rgP] <;> omega) (by first | exact pMJ rfl | (unfold MJ; omega)), trivial⟩) (pc' := 29) rfl ?_
      refine T_op zk_129_29 rfl X_ic (pc' := 30) rfl ?_
      exact T_iret zk_129_30 rfl (fun σ' h => ⟨_, rfl, (by omega), h.1, trivial⟩)
    ·
      refine T_op zk_129_20 rfl X_ic (pc' := 21) rfl ?_
      exact T_iret zk_129_21 rfl (fun σ' h => ⟨_, rfl, (by omega), h.1, trivial⟩)
/-- WModel.isHouse -/
theorem m_139 {xs : Nat × (Nat → Int32)} (p0 : Int) (n : Int) (hp0 : -2147483648 ≤ p0 ∧ p0 ≤ 2147483647) (hn : 0 ≤ n ∧ n ≤ 12) (σ : ZS) (hI : Inv σ)  (s1 : σ 36 0 0 641 = n) : CT xs 1 139 [av 35 0 0, iv p0] σ (fun v σ' => ∃ y, v = some (iv y) ∧ ((y = 0 ∧ (p0 < 0 ∨ n ≤ p0)) ∨ (y = 1 ∧ 0 ≤ p0 ∧ p0 < n)) ∧ IF MN σ σ' ∧ (True)) := by
  refine G_ct (J := (fun σ' => IF MN σ σ' ∧ True)) (L := [(0, av 35 0 0), (1, iv p0)]) (nL := 2) rfl rfl rfl ⟨IF.rf hI, trivial⟩ ?_
  refine T_ld zk_139_0 rfl rfl rfl (pc' := 1) rfl ?_
  refine T_if_lt zk_139_1 (by omega) (pc' := 4) rfl (fun h1 => ?_) (fun h2 => ?_)
  ·
    refine T_op zk_139_20 rfl X_ic (pc' := 21) rfl ?_
    exact T_zret zk_139_21 rfl (by omega) (fun σ' h => ⟨_, rfl, (by omega), h.1, trivial⟩)
  ·
    refine T_ld zk_139_4 rfl rfl rfl (pc' := 5) rfl ?_
    refine T_ld zk_139_5 rfl rfl rfl (pc' := 6) rfl ?_
    refine T_getR (t' := 36) (i' := 0) (k' := 0) zk_139_6 rfl rfl rfl vd_35 (pc' := 9) rfl ?_
    refine T_op zk_139_9 rfl (X_si (v := 641) (by decide)) (pc' := 12) rfl ?_
    refine G_ialdX (w := n) (ln := 646) zk_139_12 rfl rfl (vd_36 (by omega)) (by omega) (by omega) (by omega) (fun σ' h => (h.1.2 _ _ _ _ (fun q => q)).trans s1) (pc' := 13) rfl ?_
    refine T_icmp_ge zk_139_13 (by omega) (by omega) (pc' := 16) rfl (fun h3 => ?_) (fun h4 => ?_)
    ·
      refine T_op zk_139_20 rfl X_ic (pc' := 21) rfl ?_
      exact T_zret zk_139_21 rfl (by omega) (fun σ' h => ⟨_, rfl, (by omega), h.1, trivial⟩)
    ·
      refine T_op zk_139_16 rfl X_ic (pc' := 17) rfl ?_
      refine T_goto zk_139_17 ?_
      exact T_zret zk_139_21 rfl (by omega) (fun σ' h => ⟨_, rfl, (by omega), h.1, trivial⟩)
/-- WModel.isLaw -/
theorem m_157 {xs : Nat × (Nat → Int32)} (p0 : Int) (n : Int) (hp0 : -2147483648 ≤ p0 ∧ p0 ≤ 2147483647) (hn : 0 ≤ n ∧ n ≤ 5) (σ : ZS) (hI : Inv σ)  (s1 : σ 36 0 0 640 = n) : CT xs 1 157 [av 35 0 0, iv p0] σ (fun v σ' => ∃ y, v = some (iv y) ∧ ((y = 0 ∧ (p0 < 0 ∨ n ≤ p0)) ∨ (y = 1 ∧ 0 ≤ p0 ∧ p0 < n)) ∧ IF MN σ σ' ∧ (True)) := by
  refine G_ct (J := (fun σ' => IF MN σ σ' ∧ True)) (L := [(0, av 35 0 0), (1, iv p0)]) (nL := 2) rfl rfl rfl ⟨IF.rf hI, trivial⟩ ?_
  refine T_ld zk_157_0 rfl rfl rfl (pc' := 1) rfl ?_
  refine T_if_lt zk_157_1 (by omega) (pc' := 4) rfl (fun h1 => ?_) (fun h2 => ?_)
  ·
    refine T_op zk_157_20 rfl X_ic (pc' := 21) rfl ?_
    exact T_zret zk_157_21 rfl (by omega) (fun σ' h => ⟨_, rfl, (by omega), h.1, trivial⟩)
  ·
    refine T_ld zk_157_4 rfl rfl rfl (pc' := 5) rfl ?_
    refine T_ld zk_157_5 rfl rfl rfl (pc' := 6) rfl ?_
    refine T_getR (t' := 36) (i' := 0) (k' := 0) zk_157_6 rfl rfl rfl vd_35 (pc' := 9) rfl ?_
    refine T_op zk_157_9 rfl (X_si (v := 640) (by decide)) (pc' := 12) rfl ?_
    refine G_ialdX (w := n) (ln := 646) zk_157_12 rfl rfl (vd_36 (by omega)) (by omega) (by omega) (by omega) (fun σ' h => (h.1.2 _ _ _ _ (fun q => q)).trans s1) (pc' := 13) rfl ?_
    refine T_icmp_ge zk_157_13 (by omega) (by omega) (pc' := 16) rfl (fun h3 => ?_) (fun h4 => ?_)
    ·
      refine T_op zk_157_20 rfl X_ic (pc' := 21) rfl ?_
      exact T_zret zk_157_21 rfl (by omega) (fun σ' h => ⟨_, rfl, (by omega), h.1, trivial⟩)
    ·
      refine T_op zk_157_16 rfl X_ic (pc' := 17) rfl ?_
      refine T_goto zk_157_17 ?_
      exact T_zret zk_157_21 rfl (by omega) (fun σ' h => ⟨_, rfl, (by omega), h.1, trivial⟩)
/-- WModel.isBoat -/
theorem m_167 {xs : Nat × (Nat → Int32)} (p0 : Int) (n : Int) (hp0 : -2147483648 ≤ p0 ∧ p0 ≤ 2147483647) (hn : 0 ≤ n ∧ n ≤ 6) (σ : ZS) (hI : Inv σ)  (s1 : σ 36 0 0 642 = n) : CT xs 1 167 [av 35 0 0, iv p0] σ (fun v σ' => ∃ y, v = some (iv y) ∧ ((y = 0 ∧ (p0 < 0 ∨ n ≤ p0)) ∨ (y = 1 ∧ 0 ≤ p0 ∧ p0 < n)) ∧ IF MN σ σ' ∧ (True)) := by
  refine G_ct (J := (fun σ' => IF MN σ σ' ∧ True)) (L := [(0, av 35 0 0), (1, iv p0)]) (nL := 2) rfl rfl rfl ⟨IF.rf hI, trivial⟩ ?_
  refine T_ld zk_167_0 rfl rfl rfl (pc' := 1) rfl ?_
  refine T_if_lt zk_167_1 (by omega) (pc' := 4) rfl (fun h1 => ?_) (fun h2 => ?_)
  ·
    refine T_op zk_167_20 rfl X_ic (pc' := 21) rfl ?_
    exact T_zret zk_167_21 rfl (by omega) (fun σ' h => ⟨_, rfl, (by omega), h.1, trivial⟩)
  ·
    refine T_ld zk_167_4 rfl rfl rfl (pc' := 5) rfl ?_
    refine T_ld zk_167_5 rfl rfl rfl (pc' := 6) rfl ?_
    refine T_getR (t' := 36) (i' := 0) (k' := 0) zk_167_6 rfl rfl rfl vd_35 (pc' := 9) rfl ?_
    refine T_op zk_167_9 rfl (X_si (v := 642) (by decide)) (pc' := 12) rfl ?_
    refine G_ialdX (w := n) (ln := 646) zk_167_12 rfl rfl (vd_36 (by omega)) (by omega) (by omega) (by omega) (fun σ' h => (h.1.2 _ _ _ _ (fun q => q)).trans s1) (pc' := 13) rfl ?_
    refine T_icmp_ge zk_167_13 (by omega) (by omega) (pc' := 16) rfl (fun h3 => ?_) (fun h4 => ?_)
    ·
      refine T_op zk_167_20 rfl X_ic (pc' := 21) rfl ?_
      exact T_zret zk_167_21 rfl (by omega) (fun σ' h => ⟨_, rfl, (by omega), h.1, trivial⟩)
    ·
      refine T_op zk_167_16 rfl X_ic (pc' := 17) rfl ?_
      refine T_goto zk_167_17 ?_
      exact T_zret zk_167_21 rfl (by omega) (fun σ' h => ⟨_, rfl, (by omega), h.1, trivial⟩)
/-- WModel.wants -/
theorem m_143 {xs : Nat × (Nat → Int32)} (p0 : Int) (hp0 : -2147483648 ≤ p0 ∧ p0 ≤ 2147483647) (σ : ZS) (hI : Inv σ)   : CT xs 2 143 [av 35 0 0, iv p0] σ (fun v σ' => ∃ y, v = some (iv y) ∧ ((y = -1 ∧ (p0 < 0 ∨ 7 < p0)) ∨ ((y = -3 ∨ y = -2 ∨ y = 0) ∧ 0 ≤ p0 ∧ p0 ≤ 7)) ∧ IF MN σ σ' ∧ (True)) := by
  refine G_ct (J := (fun σ' => IF MN σ σ' ∧ True)) (L := [(0, av 35 0 0), (1, iv p0)]) (nL := 2) rfl rfl rfl ⟨IF.rf hI, trivial⟩ ?_
  refine T_ld zk_143_0 rfl rfl rfl (pc' := 1) rfl ?_
  refine T_calli (K := fun y1 σ' => ((y1 = 0 ∧ (p0 < 0 ∨ 7 < p0)) ∨ (y1 = 1 ∧ 0 ≤ p0 ∧ p0 ≤ 7)) ∧ (fun σ' => IF MN σ σ' ∧ True) σ') (r := []) zk_143_1 rfl rfl rfl rfl rfl rfl (Or.inl (Or.inl rfl)) (fun σ' h => (m_125 p0 (by omega) σ' h.1.1 ).le (Nat.le_of_ble_eq_true rfl) (fun v σ2 ⟨y, h1, h2, h3, h4⟩ => ⟨y, h1, h2, h.1.tr h3 MN_sub, trivial⟩)) (pc' := 4) rfl (fun y1 => ?_)
  refine G_ex (fun hy1 => ?_)
  refine T_if_ne zk_143_4 (by omega) (pc' := 7) rfl (fun h2 => ?_) (fun h3 => ?_)
  ·
    refine T_ld zk_143_11 rfl rfl rfl (pc' := 12) rfl ?_
    refine T_getR (t' := 37) (i' := 0) (k' := 0) zk_143_12 rfl rfl rfl vd_35 (pc' := 15) rfl ?_
    refine T_ld zk_143_15 rfl rfl rfl (pc' := 16) rfl ?_
    refine G_iald (lo := 0) (hi := 2) (ln := 8) zk_143_16 rfl rfl vd_37 (by omega) (by omega) (by omega) (fun σ' h => h.1.1) (fun _ h => h.2 (by omega) (by omega)) (pc' := 17) rfl (fun y4 hy4 hy4' => ?_)
    refine T_op zk_143_17 rfl X_ic (pc' := 18) rfl ?_
    refine T_icmp_ne zk_143_18 (by omega) (by omega) (pc' := 21) rfl (fun h5 => ?_) (fun h6 => ?_)
    ·
      refine T_ld zk_143_26 rfl rfl rfl (pc' := 27) rfl ?_
      refine T_getR (t' := 37) (i' := 0) (k' := 0) zk_143_27 rfl rfl rfl vd_35 (pc' := 30) rfl ?_
      refine T_ld zk_143_30 rfl rfl rfl (pc' := 31) rfl ?_
      refine G_iald (lo := 0) (hi := 2) (ln := 8) zk_143_31 rfl rfl vd_37 (by omega) (by omega) (by omega) (fun σ' h => h.1.1) (fun _ h => h.2 (by omega) (by omega)) (pc' := 32) rfl (fun y7 hy7 hy7' => ?_)
      refine T_if_ne zk_143_32 (by omega) (pc' := 35) rfl (fun h8 => ?_) (fun h9 => ?_)
      ·
        refine T_op zk_143_40 rfl X_ic (pc' := 41) rfl ?_
        exact T_iret zk_143_41 rfl (fun σ' h => ⟨_, rfl, (by omega), h.1, trivial⟩)
      ·
        refine T_op zk_143_35 rfl (X_bi (v := -3) (by decide)) (pc' := 37) rfl ?_
        refine T_goto zk_143_37 ?_
        exact T_iret zk_143_41 rfl (fun σ' h => ⟨_, rfl, (by omega), h.1, trivial⟩)
    ·
      refine T_op zk_143_21 rfl (X_bi (v := -2) (by decide)) (pc' := 23) rfl ?_
      refine T_goto zk_143_23 ?_
      exact T_iret zk_143_41 rfl (fun σ' h => ⟨_, rfl, (by omega), h.1, trivial⟩)
  ·
    refine T_op zk_143_7 rfl X_ic (pc' := 8) rfl ?_
    refine T_goto zk_143_8 ?_
    exact T_iret zk_143_41 rfl (fun σ' h => ⟨_, rfl, (by omega), h.1, trivial⟩)
/-- WModel.seaOf -/
theorem m_145 {xs : Nat × (Nat → Int32)} (p0 : Int) (p1 : Int) (hp0 : 0 ≤ p0 ∧ p0 ≤ 2147483647) (hp1 : 0 ≤ p1 ∧ p1 ≤ 1) (σ : ZS) (hI : Inv σ)   : CT xs 1 145 [av 35 0 0, iv p0, iv p1] σ (fun v σ' => ∃ y, v = some (iv y) ∧ (-2147483648 ≤ y ∧ y ≤ 2147483647) ∧ IF MN σ σ' ∧ (True)) := by
  refine G_ct (J := (fun σ' => IF MN σ σ' ∧ True)) (L := [(0, av 35 0 0), (1, iv p0), (2, iv p1)]) (nL := 4) rfl rfl rfl ⟨IF.rf hI, trivial⟩ ?_
  refine T_ld zk_145_0 rfl rfl rfl (pc' := 1) rfl ?_
  refine T_getR (t' := 36) (i' := 0) (k' := 0) zk_145_1 rfl rfl rfl vd_35 (pc' := 4) rfl ?_
  refine T_ld zk_145_4 rfl rfl rfl (pc' := 5) rfl ?_
  refine T_if_eq zk_145_5 (by omega) (pc' := 8) rfl (fun h1 => ?_) (fun h2 => ?_)
  ·
    refine T_op zk_145_14 rfl (X_si (v := 635) (by decide)) (pc' := 17) rfl ?_
    refine G_iald (lo := 0) (hi := 96) (ln := 646) zk_145_17 rfl rfl (vd_36 (by omega)) (by omega) (by omega) (by omega) (fun σ' h => h.1.1) (fun _ h => h.2.2.2.2.2.2.2.1 (by omega) (by omega)) (pc' := 18) rfl (fun y3 hy3 hy3' => ?_)
    refine T_st (L' := [(0, av 35 0 0), (1, iv p0), (2, iv p1), (3, iv y3)]) zk_145_18 (nL := 4) rfl rfl rfl rfl rfl (pc' := 19) rfl ?_
    refine T_ld zk_145_19 rfl rfl rfl (pc' := 20) rfl ?_
    refine T_if_ne zk_145_20 (by omega) (pc' := 23) rfl (fun h4 => ?_) (fun h5 => ?_)
    ·
      refine T_ld zk_145_27 rfl rfl rfl (pc' := 28) rfl ?_
      refine T_getR (t' := 36) (i' := 0) (k' := 0) zk_145_28 rfl rfl rfl vd_35 (pc' := 31) rfl ?_
      refine T_ld zk_145_31 rfl rfl rfl (pc' := 32) rfl ?_
      refine T_if_eq zk_145_32 (by omega) (pc' := 35) rfl (fun h6 => ?_) (fun h7 => ?_)
      ·
        refine T_op zk_145_41 rfl (X_si (v := 256) (by decide)) (pc' := 44) rfl ?_
        refine T_ld zk_145_44 rfl rfl rfl (pc' := 45) rfl ?_
        refine T_ld zk_145_45 rfl rfl rfl (pc' := 46) rfl ?_
        refine G_rem zk_145_46 (by omega) (by omega) (pc' := 47) rfl (fun y8 hy8 hy8' => ?_)
        refine T_op zk_145_47 rfl X_add (pc' := 48) rfl ?_
        refine G_iald (lo := -2147483648) (hi := 2147483647) (ln := 646) zk_145_48 rfl rfl (vd_36 (by omega)) (by omega) (by omega) (by omega) (fun σ' h => h.1.1) (fun _ h => (by have q := h.1; omega)) (pc' := 49) rfl (fun y9 hy9 hy9' => ?_)
        exact T_iret zk_145_49 rfl (fun σ' h => ⟨_, rfl, (by omega), h.1, trivial⟩)
      · exfalso; omega
    ·
      refine T_op zk_145_23 rfl X_ic (pc' := 24) rfl ?_
      refine T_goto zk_145_24 ?_
      exact T_iret zk_145_49 rfl (fun σ' h => ⟨_, rfl, (by omega), h.1, trivial⟩)
  ·
    refine T_op zk_145_8 rfl (X_si (v := 636) (by decide)) (pc' := 11) rfl ?_
    refine T_goto zk_145_11 ?_
    refine G_iald (lo := 0) (hi := 96) (ln := 646) zk_145_17 rfl rfl (vd_36 (by omega)) (by omega) (by omega) (by omega) (fun σ' h => h.1.1) (fun _ h => h.2.2.2.2.2.2.2.1 (by omega) (by omega)) (pc' := 18) rfl (fun y10 hy10 hy10' => ?_)
    refine T_st (L' := [(0, av 35 0 0), (1, iv p0), (2, iv p1), (3, iv y10)]) zk_145_18 (nL := 4) rfl rfl rfl rfl rfl (pc' := 19) rfl ?_
    refine T_ld zk_145_19 rfl rfl rfl (pc' := 20) rfl ?_
    refine T_if_ne zk_145_20 (by omega) (pc' := 23) rfl (fun h11 => ?_) (fun h12 => ?_)
    ·
      refine T_ld zk_145_27 rfl rfl rfl (pc' := 28) rfl ?_
      refine T_getR (t' := 36) (i' := 0) (k' := 0) zk_145_28 rfl rfl rfl vd_35 (pc' := 31) rfl ?_
      refine T_ld zk_145_31 rfl rfl rfl (pc' := 32) rfl ?_
      refine T_if_eq zk_145_32 (by omega) (pc' := 35) rfl (fun h13 => ?_) (fun h14 => ?_)
      · exfalso; omega
      ·
        refine T_op zk_145_35 rfl (X_si (v := 352) (by decide)) (pc' := 38) rfl ?_
        refine T_goto zk_145_38 ?_
        refine T_ld zk_145_44 rfl rfl rfl (pc' := 45) rfl ?_
        refine T_ld zk_145_45 rfl rfl rfl (pc' := 46) rfl ?_
        refine G_rem zk_145_46 (by omega) (by omega) (pc' := 47) rfl (fun y15 hy15 hy15' => ?_)
        refine T_op zk_145_47 rfl X_add (pc' := 48) rfl ?_
        refine G_iald (lo := -2147483648) (hi := 2147483647) (ln := 646) zk_145_48 rfl rfl (vd_36 (by omega)) (by omega) (by omega) (by omega) (fun σ' h => h.1.1) (fun _ h => (by have q := h.1; omega)) (pc' := 49) rfl (fun y16 hy16 hy16' => ?_)
        exact T_iret zk_145_49 rfl (fun σ' h => ⟨_, rfl, (by omega), h.1, trivial⟩)
    ·
      refine T_op zk_145_23 rfl X_ic (pc' := 24) rfl ?_
      refine T_goto zk_145_24 ?_
      exact T_iret zk_145_49 rfl (fun σ' h => ⟨_, rfl, (by omega), h.1, trivial⟩)
/-- WModel.greatest -/
theorem m_159 {xs : Nat × (Nat → Int32)}   (σ : ZS) (hI : Inv σ)   : CT xs 1 159 [av 35 0 0] σ (fun v σ' => ∃ y, v = some (iv y) ∧ (-2147483648 ≤ y ∧ y ≤ 2147483647) ∧ IF MN σ σ' ∧ (True)) := by
  refine G_ct (J := (fun σ' => IF MN σ σ' ∧ True)) (L := [(0, av 35 0 0)]) (nL := 3) rfl rfl rfl ⟨IF.rf hI, trivial⟩ ?_
  refine T_ld zk_159_0 rfl rfl rfl (pc' := 1) rfl ?_
  refine T_getR (t' := 36) (i' := 0) (k' := 0) zk_159_1 rfl rfl rfl vd_35 (pc' := 4) rfl ?_
  refine T_op zk_159_4 rfl (X_bi (v := 25) (by decide)) (pc' := 6) rfl ?_
  refine G_iald (lo := -2147483648) (hi := 2147483647) (ln := 646) zk_159_6 rfl rfl (vd_36 (by omega)) (by omega) (by omega) (by omega) (fun σ' h => h.1.1) (fun _ h => (by have q := h.1; omega)) (pc' := 7) rfl (fun y1 hy1 hy1' => ?_)
  refine T_st (L' := [(0, av 35 0 0), (1, iv y1)]) zk_159_7 (nL := 3) rfl rfl rfl rfl rfl (pc' := 8) rfl ?_
  refine T_op zk_159_8 rfl X_ic (pc' := 9) rfl ?_
  refine T_st (L' := [(0, av 35 0 0), (1, iv y1), (2, iv 1)]) zk_159_9 (nL := 3) rfl rfl rfl rfl rfl (pc' := 10) rfl ?_
  refine T_loop2 (fun x2 x3 => ((25 - x3 : Int)).toNat) (fun x2 x3 => (-2147483648 ≤ x2 ∧ x2 ≤ 2147483647) ∧ (0 ≤ x3 ∧ x3 ≤ 25)) (fun x2 x3 => TJ xs (fun σ' => IF MN σ σ' ∧ True) 0 159 10 [(0, av 35 0 0), (1, iv x2), (2, iv x3)] [] _) ?_ y1 1 (by omega)
  intro x2 x3 hp5 ih4
  refine T_ld zk_159_10 rfl rfl rfl (pc' := 11) rfl ?_
  refine T_op zk_159_11 rfl (X_bi (v := 25) (by decide)) (pc' := 13) rfl ?_
  refine T_icmp_ge zk_159_13 (by omega) (by omega) (pc' := 16) rfl (fun h6 => ?_) (fun h7 => ?_)
  ·
    refine T_ld zk_159_45 rfl rfl rfl (pc' := 46) rfl ?_
    exact T_iret zk_159_46 rfl (fun σ' h => ⟨_, rfl, (by omega), h.1, trivial⟩)
  ·
    refine T_ld zk_159_16 rfl rfl rfl (pc' := 17) rfl ?_
    refine T_getR (t' := 36) (i' := 0) (k' := 0) zk_159_17 rfl rfl rfl vd_35 (pc' := 20) rfl ?_
    refine T_op zk_159_20 rfl (X_bi (v := 25) (by decide)) (pc' := 22) rfl ?_
    refine T_ld zk_159_22 rfl rfl rfl (pc' := 23) rfl ?_
    refine T_op zk_159_23 rfl X_add (pc' := 24) rfl ?_
    refine G_iald (lo := -2147483648) (hi := 2147483647) (ln := 646) zk_159_24 rfl rfl (vd_36 (by omega)) (by omega) (by omega) (by omega) (fun σ' h => h.1.1) (fun _ h => (by have q := h.1; omega)) (pc' := 25) rfl (fun y8 hy8 hy8' => ?_)
    refine T_ld zk_159_25 rfl rfl rfl (pc' := 26) rfl ?_
    refine T_icmp_le zk_159_26 (by omega) (by omega) (pc' := 29) rfl (fun h9 => ?_) (fun h10 => ?_)
    ·
      refine T_iinc (L' := [(0, av 35 0 0), (1, iv x2), (2, iv (x3 + 1))]) zk_159_39 (nL := 3) rfl rfl rfl rfl (pc' := 42) rfl ?_
      refine T_goto zk_159_42 ?_
      exact ih4 x2 (x3 + 1) (by omega) (by omega)
    ·
      refine T_ld zk_159_29 rfl rfl rfl (pc' := 30) rfl ?_
      refine T_getR (t' := 36) (i' := 0) (k' := 0) zk_159_30 rfl rfl rfl vd_35 (pc' := 33) rfl ?_
      refine T_op zk_159_33 rfl (X_bi (v := 25) (by decide)) (pc' := 35) rfl ?_
      refine T_ld zk_159_35 rfl rfl rfl (pc' := 36) rfl ?_
      refine T_op zk_159_36 rfl X_add (pc' := 37) rfl ?_
      refine G_iald (lo := -2147483648) (hi := 2147483647) (ln := 646) zk_159_37 rfl rfl (vd_36 (by omega)) (by omega) (by omega) (by omega) (fun σ' h => h.1.1) (fun _ h => (by have q := h.1; omega)) (pc' := 38) rfl (fun y11 hy11 hy11' => ?_)
      refine T_st (L' := [(0, av 35 0 0), (1, iv y11), (2, iv x3)]) zk_159_38 (nL := 3) rfl rfl rfl rfl rfl (pc' := 39) rfl ?_
      refine T_iinc (L' := [(0, av 35 0 0), (1, iv y11), (2, iv (x3 + 1))]) zk_159_39 (nL := 3) rfl rfl rfl rfl (pc' := 42) rfl ?_
      refine T_goto zk_159_42 ?_
      exact ih4 y11 (x3 + 1) (by omega) (by omega)
/-- WModel.goals -/
theorem m_160 {xs : Nat × (Nat → Int32)}   (σ : ZS) (hI : Inv σ)   : CT xs 1 160 [av 35 0 0] σ (fun v σ' => ∃ y, v = some (iv y) ∧ (0 ≤ y ∧ y ≤ 6) ∧ IF MN σ σ' ∧ (True)) := by
  refine G_ct (J := (fun σ' => IF MN σ σ' ∧ True)) (L := [(0, av 35 0 0)]) (nL := 3) rfl rfl rfl ⟨IF.rf hI, trivial⟩ ?_
  refine T_op zk_160_0 rfl X_ic (pc' := 1) rfl ?_
  refine T_st (L' := [(0, av 35 0 0), (1, iv 0)]) zk_160_1 (nL := 3) rfl rfl rfl rfl rfl (pc' := 2) rfl ?_
  refine T_op zk_160_2 rfl X_ic (pc' := 3) rfl ?_
  refine T_st (L' := [(0, av 35 0 0), (1, iv 0), (2, iv 0)]) zk_160_3 (nL := 3) rfl rfl rfl rfl rfl (pc' := 4) rfl ?_
  refine T_loop2 (fun x1 x2 => ((6 - x2 : Int)).toNat) (fun x1 x2 => (0 ≤ x1 ∧ x1 ≤ 6) ∧ (0 ≤ x2 ∧ x2 ≤ 6) ∧ x1 ≤ x2) (fun x1 x2 => TJ xs (fun σ' => IF MN σ σ' ∧ True) 0 160 4 [(0, av 35 0 0), (1, iv x1), (2, iv x2)] [] _) ?_ 0 0 (by omega)
  intro x1 x2 hp4 ih3
  refine T_ld zk_160_4 rfl rfl rfl (pc' := 5) rfl ?_
  refine T_ld zk_160_5 rfl rfl rfl (pc' := 6) rfl ?_
  refine T_getR (t' := 36) (i' := 0) (k' := 0) zk_160_6 rfl rfl rfl vd_35 (pc' := 9) rfl ?_
  refine T_op zk_160_9 rfl (X_si (v := 642) (by decide)) (pc' := 12) rfl ?_
  refine G_iald (lo := 0) (hi := 6) (ln := 646) zk_160_12 rfl rfl (vd_36 (by omega)) (by omega) (by omega) (by omega) (fun σ' h => h.1.1) (fun _ h => h.2.2.2.2.2.2.2.2.2.2.2.2.2 (by omega) (by omega)) (pc' := 13) rfl (fun y5 hy5 hy5' => ?_)
  refine T_icmp_ge zk_160_13 (by omega) (by omega) (pc' := 16) rfl (fun h6 => ?_) (fun h7 => ?_)
  ·
    refine T_ld zk_160_39 rfl rfl rfl (pc' := 40) rfl ?_
    exact T_iret zk_160_40 rfl (fun σ' h => ⟨_, rfl, (by omega), h.1, trivial⟩)
  ·
    refine T_ld zk_160_16 rfl rfl rfl (pc' := 17) rfl ?_
    refine T_getR (t' := 36) (i' := 0) (k' := 0) zk_160_17 rfl rfl rfl vd_35 (pc' := 20) rfl ?_
    refine T_op zk_160_20 rfl (X_si (v := 598) (by decide)) (pc' := 23) rfl ?_
    refine T_ld zk_160_23 rfl rfl rfl (pc' := 24) rfl ?_
    refine T_op zk_160_24 rfl X_add (pc' := 25) rfl ?_
    refine G_iald (lo := -1) (hi := 24) (ln := 646) zk_160_25 rfl rfl (vd_36 (by omega)) (by omega) (by omega) (by omega) (fun σ' h => h.1.1) (fun _ h => h.2.2.2.2.1 (by omega) (by omega)) (pc' := 26) rfl (fun y8 hy8 hy8' => ?_)
    refine T_op zk_160_26 rfl X_ic (pc' := 27) rfl ?_
    refine T_icmp_eq zk_160_27 (by omega) (by omega) (pc' := 30) rfl (fun h9 => ?_) (fun h10 => ?_)
    ·
      refine T_iinc (L' := [(0, av 35 0 0), (1, iv x1), (2, iv (x2 + 1))]) zk_160_33 (nL := 3) rfl rfl rfl rfl (pc' := 36) rfl ?_
      refine T_goto zk_160_36 ?_
      exact ih3 x1 (x2 + 1) (by omega) (by omega)
    ·
      refine T_iinc (L' := [(0, av 35 0 0), (1, iv (x1 + 1)), (2, iv x2)]) zk_160_30 (nL := 3) rfl rfl rfl rfl (pc' := 33) rfl ?_
      refine T_iinc (L' := [(0, av 35 0 0), (1, iv (x1 + 1)), (2, iv (x2 + 1))]) zk_160_33 (nL := 3) rfl rfl rfl rfl (pc' := 36) rfl ?_
      refine T_goto zk_160_36 ?_
      exact ih3 (x1 + 1) (x2 + 1) (by omega) (by omega)
/-- WModel.valueOf -/
theorem m_161 {xs : Nat × (Nat → Int32)} (p0 : Int) (hp0 : -2147483648 ≤ p0 ∧ p0 ≤ 2147483647) (σ : ZS) (hI : Inv σ)   : CT xs 2 161 [av 35 0 0, iv p0] σ (fun v σ' => ∃ y, v = some (iv y) ∧ (-2147483648 ≤ y ∧ y ≤ 2147483647) ∧ IF MN σ σ' ∧ (True)) := by
  refine G_ct (J := (fun σ' => IF MN σ σ' ∧ True)) (L := [(0, av 35 0 0), (1, iv p0)]) (nL := 5) rfl rfl rfl ⟨IF.rf hI, trivial⟩ ?_
  refine T_ld zk_161_0 rfl rfl rfl (pc' := 1) rfl ?_
  refine T_getR (t' := 36) (i' := 0) (k' := 0) zk_161_1 rfl rfl rfl vd_35 (pc' := 4) rfl ?_
  refine T_op zk_161_4 rfl (X_si (v := 634) (by decide)) (pc' := 7) rfl ?_
  refine G_iald (lo := 0) (hi := 30000) (ln := 646) zk_161_7 rfl rfl (vd_36 (by omega)) (by omega) (by omega) (by omega) (fun σ' h => h.1.1) (fun _ h => h.2.2.2.2.2.2.1 (by omega) (by omega)) (pc' := 8) rfl (fun y1 hy1 hy1' => ?_)
  refine T_st (L' := [(0, av 35 0 0), (1, iv p0), (2, iv y1)]) zk_161_8 (nL := 5) rfl rfl rfl rfl rfl (pc' := 9) rfl ?_
  refine T_ld zk_161_9 rfl rfl rfl (pc' := 10) rfl ?_
  by_cases h2 : p0 = 102
  · subst h2
    refine T_br (t := 60) zk_161_10 rfl rfl rfl (fun _ => rfl) rfl ?_
    refine T_ld zk_161_60 rfl rfl rfl (pc' := 61) rfl ?_
    refine T_ld zk_161_61 rfl rfl rfl (pc' := 62) rfl ?_
    refine T_op zk_161_62 rfl X_ic (pc' := 63) rfl ?_
    refine T_calli (K := fun y3 σ' => (-2147483648 ≤ y3 ∧ y3 ≤ 2147483647) ∧ (fun σ' => IF MN σ σ' ∧ True) σ') (r := []) zk_161_63 rfl rfl rfl rfl rfl rfl (Or.inr ⟨_, _, _, _, rfl, vd_35, rfl⟩) (fun σ' h => (m_145 y1 1 (by omega) (by omega) σ' h.1.1 ).le (Nat.le_of_ble_eq_true rfl) (fun v σ2 ⟨y, h1, h2, h3, h4⟩ => ⟨y, h1, h2, h.1.tr h3 MN_sub, trivial⟩)) (pc' := 66) rfl (fun y3 => ?_)
    refine G_ex (fun hy3 => ?_)
    refine T_st (L' := [(0, av 35 0 0), (1, iv 102), (2, iv y1), (3, iv y3)]) zk_161_66 (nL := 5) rfl rfl rfl rfl rfl (pc' := 67) rfl ?_
    refine T_op zk_161_67 rfl X_ic (pc' := 68) rfl ?_
    refine T_st (L' := [(0, av 35 0 0), (1, iv 102), (2, iv y1), (3, iv y3), (4, iv 1)]) zk_161_68 (nL := 5) rfl rfl rfl rfl rfl (pc' := 70) rfl ?_
    refine T_loop2 (fun x4 x5 => ((8 - x5 : Int)).toNat) (fun x4 x5 => (-2147483648 ≤ x4 ∧ x4 ≤ 2147483647) ∧ (1 ≤ x5 ∧ x5 ≤ 8)) (fun x4 x5 => TJ xs (fun σ' => IF MN σ σ' ∧ True) 1 161 70 [(0, av 35 0 0), (1, iv 102), (2, iv y1), (3, iv x4), (4, iv x5)] [] _) ?_ y3 1 (by omega)
    intro x4 x5 hp7 ih6
    refine T_ld zk_161_70 rfl rfl rfl (pc' := 72) rfl ?_
    refine T_op zk_161_72 rfl (X_bi (v := 8) (by decide)) (pc' := 74) rfl ?_
    refine T_icmp_ge zk_161_74 (by omega) (by omega) (pc' := 77) rfl (fun h8 => ?_) (fun h9 => ?_)
    ·
      refine T_ld zk_161_106 rfl rfl rfl (pc' := 107) rfl ?_
      refine T_ld zk_161_107 rfl rfl rfl (pc' := 108) rfl ?_
      refine T_getR (t' := 36) (i' := 0) (k' := 0) zk_161_108 rfl rfl rfl vd_35 (pc' := 111) rfl ?_
      refine T_op zk_161_111 rfl (X_si (v := 637) (by decide)) (pc' := 114) rfl ?_
      refine G_iald (lo := 0) (hi := 99) (ln := 646) zk_161_114 rfl rfl (vd_36 (by omega)) (by omega) (by omega) (by omega) (fun σ' h => h.1.1) (fun _ h => h.2.2.2.2.2.2.2.2.1 (by omega) (by omega)) (pc' := 115) rfl (fun y10 hy10 hy10' => ?_)
      refine G_unk zk_161_115 rfl (pc' := 116) rfl (fun y11 hy11 hy11' => ?_)
      exact T_iret zk_161_116 rfl (fun σ' h => ⟨_, rfl, (by omega), h.1, trivial⟩)
    ·
      refine T_ld zk_161_77 rfl rfl rfl (pc' := 78) rfl ?_
      refine T_ld zk_161_78 rfl rfl rfl (pc' := 79) rfl ?_
      refine T_ld zk_161_79 rfl rfl rfl (pc' := 81) rfl ?_
      refine T_op zk_161_81 rfl X_add (pc' := 82) rfl ?_
      refine T_op zk_161_82 rfl X_ic (pc' := 83) rfl ?_
      refine T_calli (K := fun y12 σ' => (-2147483648 ≤ y12 ∧ y12 ≤ 2147483647) ∧ (fun σ' => IF MN σ σ' ∧ True) σ') (r := []) zk_161_83 rfl rfl rfl rfl rfl rfl (Or.inr ⟨_, _, _, _, rfl, vd_35, rfl⟩) (fun σ' h => (m_145 (y1 + x5) 1 (by omega) (by omega) σ' h.1.1 ).le (Nat.le_of_ble_eq_true rfl) (fun v σ2 ⟨y, h1, h2, h3, h4⟩ => ⟨y, h1, h2, h.1.tr h3 MN_sub, trivial⟩)) (pc' := 86) rfl (fun y12 => ?_)
      refine G_ex (fun hy12 => ?_)
      refine T_ld zk_161_86 rfl rfl rfl (pc' := 87) rfl ?_
      refine T_icmp_le zk_161_87 (by omega) (by omega) (pc' := 90) rfl (fun h13 => ?_) (fun h14 => ?_)
      ·
        refine T_iinc (L' := [(0, av 35 0 0), (1, iv 102), (2, iv y1), (3, iv x4), (4, iv (x5 + 1))]) zk_161_100 (nL := 5) rfl rfl rfl rfl (pc' := 103) rfl ?_
        refine T_goto zk_161_103 ?_
        exact ih6 x4 (x5 + 1) (by omega) (by omega)
      ·
        refine T_ld zk_161_90 rfl rfl rfl (pc' := 91) rfl ?_
        refine T_ld zk_161_91 rfl rfl rfl (pc' := 92) rfl ?_
        refine T_ld zk_161_92 rfl rfl rfl (pc' := 94) rfl ?_
        refine T_op zk_161_94 rfl X_add (pc' := 95) rfl ?_
        refine T_op zk_161_95 rfl X_ic (pc' := 96) rfl ?_
        refine T_calli (K := fun y15 σ' => (-2147483648 ≤ y15 ∧ y15 ≤ 2147483647) ∧ (fun σ' => IF MN σ σ' ∧ True) σ') (r := []) zk_161_96 rfl rfl rfl rfl rfl rfl (Or.inr ⟨_, _, _, _, rfl, vd_35, rfl⟩) (fun σ' h => (m_145 (y1 + x5) 1 (by omega) (by omega) σ' h.1.1 ).le (Nat.le_of_ble_eq_true rfl) (fun v σ2 ⟨y, h1, h2, h3, h4⟩ => ⟨y, h1, h2, h.1.tr h3 MN_sub, trivial⟩)) (pc' := 99) rfl (fun y15 => ?_)
        refine G_ex (fun hy15 => ?_)
        refine T_st (L' := [(0, av 35 0 0), (1, iv 102), (2, iv y1), (3, iv y15), (4, iv x5)]) zk_161_99 (nL := 5) rfl rfl rfl rfl rfl (pc' := 100) rfl ?_
        refine T_iinc (L' := [(0, av 35 0 0), (1, iv 102), (2, iv y1), (3, iv y15), (4, iv (x5 + 1))]) zk_161_100 (nL := 5) rfl rfl rfl rfl (pc' := 103) rfl ?_
        refine T_goto zk_161_103 ?_
        exact ih6 y15 (x5 + 1) (by omega) (by omega)
  by_cases h16 : p0 = 104
  · subst h16
    refine T_br (t := 129) zk_161_10 rfl rfl rfl (fun _ => rfl) rfl ?_
    refine T_ld zk_161_129 rfl rfl rfl (pc' := 130) rfl ?_
    refine T_op zk_161_130 rfl X_ic (pc' := 131) rfl ?_
    refine T_op zk_161_131 rfl (X_div (by omega) (by omega)) (pc' := 132) rfl ?_
    refine T_op zk_161_132 rfl (X_bi (v := 24) (by decide)) (pc' := 134) rfl ?_
    refine T_op zk_161_134 rfl (X_rem (by omega) (by omega)) (pc' := 135) rfl ?_
    exact T_iret zk_161_135 rfl (fun σ' h => ⟨_, rfl, (by omega), h.1, trivial⟩)
  by_cases h17 : p0 = 108
  · subst h17
    refine T_br (t := 124) zk_161_10 rfl rfl rfl (fun _ => rfl) rfl ?_
    refine T_ld zk_161_124 rfl rfl rfl (pc' := 125) rfl ?_
    refine T_calli (K := fun y18 σ' => (-2147483648 ≤ y18 ∧ y18 ≤ 2147483647) ∧ (fun σ' => IF MN σ σ' ∧ True) σ') (r := []) zk_161_125 rfl rfl rfl rfl rfl rfl (Or.inr ⟨_, _, _, _, rfl, vd_35, rfl⟩) (fun σ' h => (m_159   σ' h.1.1 ).le (Nat.le_of_ble_eq_true rfl) (fun v σ2 ⟨y, h1, h2, h3, h4⟩ => ⟨y, h1, h2, h.1.tr h3 MN_sub, trivial⟩)) (pc' := 128) rfl (fun y18 => ?_)
    refine G_ex (fun hy18 => ?_)
    exact T_iret zk_161_128 rfl (fun σ' h => ⟨_, rfl, (by omega), h.1, trivial⟩)
  by_cases h19 : p0 = 115
  · subst h19
    refine T_br (t := 117) zk_161_10 rfl rfl rfl (fun _ => rfl) rfl ?_
    refine T_ld zk_161_117 rfl rfl rfl (pc' := 118) rfl ?_
    refine T_ld zk_161_118 rfl rfl rfl (pc' := 119) rfl ?_
    refine T_op zk_161_119 rfl X_ic (pc' := 120) rfl ?_
    refine T_calli (K := fun y20 σ' => (-2147483648 ≤ y20 ∧ y20 ≤ 2147483647) ∧ (fun σ' => IF MN σ σ' ∧ True) σ') (r := []) zk_161_120 rfl rfl rfl rfl rfl rfl (Or.inr ⟨_, _, _, _, rfl, vd_35, rfl⟩) (fun σ' h => (m_145 y1 1 (by omega) (by omega) σ' h.1.1 ).le (Nat.le_of_ble_eq_true rfl) (fun v σ2 ⟨y, h1, h2, h3, h4⟩ => ⟨y, h1, h2, h.1.tr h3 MN_sub, trivial⟩)) (pc' := 123) rfl (fun y20 => ?_)
    refine G_ex (fun hy20 => ?_)
    exact T_iret zk_161_123 rfl (fun σ' h => ⟨_, rfl, (by omega), h.1, trivial⟩)
  by_cases h21 : p0 = 119
  · subst h21
    refine T_br (t := 136) zk_161_10 rfl rfl rfl (fun _ => rfl) rfl ?_
    refine T_ld zk_161_136 rfl rfl rfl (pc' := 137) rfl ?_
    refine T_calli (K := fun y22 σ' => (0 ≤ y22 ∧ y22 ≤ 6) ∧ (fun σ' => IF MN σ σ' ∧ True) σ') (r := []) zk_161_137 rfl rfl rfl rfl rfl rfl (Or.inr ⟨_, _, _, _, rfl, vd_35, rfl⟩) (fun σ' h => (m_160   σ' h.1.1 ).le (Nat.le_of_ble_eq_true rfl) (fun v σ2 ⟨y, h1, h2, h3, h4⟩ => ⟨y, h1, h2, h.1.tr h3 MN_sub, trivial⟩)) (pc' := 140) rfl (fun y22 => ?_)
    refine G_ex (fun hy22 => ?_)
    exact T_iret zk_161_140 rfl (fun σ' h => ⟨_, rfl, (by omega), h.1, trivial⟩)
  refine T_lso (t := 141) zk_161_10 (by omega) (by simp only [List.mem_cons, List.not_mem_nil, or_false]; rintro q (rfl | rfl | rfl | rfl | rfl) <;> omega) (by omega) ?_
  refine T_ld zk_161_141 rfl rfl rfl (pc' := 142) rfl ?_
  refine T_op zk_161_142 rfl (X_bi (v := 96) (by decide)) (pc' := 144) rfl ?_
  refine T_op zk_161_144 rfl (X_div (by omega) (by omega)) (pc' := 145) rfl ?_
  exact T_iret zk_161_145 rfl (fun σ' h => ⟨_, rfl, (by omega), h.1, trivial⟩)
/-- WModel.beside -/
theorem m_171 {xs : Nat × (Nat → Int32)} (p0 : Int) (p1 : Int) (hp0 : 0 ≤ p0 ∧ p0 ≤ 24) (hp1 : 0 ≤ p1 ∧ p1 ≤ 3) (σ : ZS) (hI : Inv σ)   : CT xs 1 171 [iv p0, iv p1] σ (fun v σ' => ∃ y, v = some (iv y) ∧ (-5 ≤ y ∧ y ≤ 29) ∧ IF MN σ σ' ∧ (True)) := by
  refine G_ct (J := (fun σ' => IF MN σ σ' ∧ True)) (L := [(0, iv p0), (1, iv p1)]) (nL := 2) rfl rfl rfl ⟨IF.rf hI, trivial⟩ ?_
  refine T_ld zk_171_0 rfl rfl rfl (pc' := 1) rfl ?_
  refine T_if_ne zk_171_1 (by omega) (pc' := 4) rfl (fun h1 => ?_) (fun h2 => ?_)
  ·
    refine T_ld zk_171_10 rfl rfl rfl (pc' := 11) rfl ?_
    refine T_op zk_171_11 rfl X_ic (pc' := 12) rfl ?_
    refine T_icmp_ne zk_171_12 (by omega) (by omega) (pc' := 15) rfl (fun h3 => ?_) (fun h4 => ?_)
    ·
      refine T_ld zk_171_21 rfl rfl rfl (pc' := 22) rfl ?_
      refine T_op zk_171_22 rfl X_ic (pc' := 23) rfl ?_
      refine T_icmp_ne zk_171_23 (by omega) (by omega) (pc' := 26) rfl (fun h5 => ?_) (fun h6 => ?_)
      ·
        refine T_ld zk_171_32 rfl rfl rfl (pc' := 33) rfl ?_
        refine T_op zk_171_33 rfl X_ic (pc' := 34) rfl ?_
        refine T_op zk_171_34 rfl X_add (pc' := 35) rfl ?_
        exact T_iret zk_171_35 rfl (fun σ' h => ⟨_, rfl, (by omega), h.1, trivial⟩)
      ·
        refine T_ld zk_171_26 rfl rfl rfl (pc' := 27) rfl ?_
        refine T_op zk_171_27 rfl X_ic (pc' := 28) rfl ?_
        refine T_op zk_171_28 rfl X_add (pc' := 29) rfl ?_
        refine T_goto zk_171_29 ?_
        exact T_iret zk_171_35 rfl (fun σ' h => ⟨_, rfl, (by omega), h.1, trivial⟩)
    ·
      refine T_ld zk_171_15 rfl rfl rfl (pc' := 16) rfl ?_
      refine T_op zk_171_16 rfl X_ic (pc' := 17) rfl ?_
      refine T_op zk_171_17 rfl X_sub (pc' := 18) rfl ?_
      refine T_goto zk_171_18 ?_
      exact T_iret zk_171_35 rfl (fun σ' h => ⟨_, rfl, (by omega), h.1, trivial⟩)
  ·
    refine T_ld zk_171_4 rfl rfl rfl (pc' := 5) rfl ?_
    refine T_op zk_171_5 rfl X_ic (pc' := 6) rfl ?_
    refine T_op zk_171_6 rfl X_sub (pc' := 7) rfl ?_
    refine T_goto zk_171_7 ?_
    exact T_iret zk_171_35 rfl (fun σ' h => ⟨_, rfl, (by omega), h.1, trivial⟩)
/-- WModel.passes -/
theorem m_170 {xs : Nat × (Nat → Int32)} (p0 : Int) (p1 : Int) (p2 : Int) (hp0 : 0 ≤ p0 ∧ p0 ≤ 5) (hp1 : 0 ≤ p1 ∧ p1 ≤ 24) (hp2 : -2147483648 ≤ p2 ∧ p2 ≤ 2147483647) (σ : ZS) (hI : Inv σ)   : CT xs 3 170 [av 35 0 0, iv p0, iv p1, iv p2] σ (fun v σ' => ∃ y, v = some (iv y) ∧ (y = 0 ∨ (y = 1 ∧ 0 ≤ p2 ∧ p2 ≤ 24)) ∧ IF MN σ σ' ∧ (True)) := by
  refine G_ct (J := (fun σ' => IF MN σ σ' ∧ True)) (L := [(0, av 35 0 0), (1, iv p0), (2, iv p1), (3, iv p2)]) (nL := 7) rfl rfl rfl ⟨IF.rf hI, trivial⟩ ?_
  refine T_ld zk_170_0 rfl rfl rfl (pc' := 1) rfl ?_
  refine T_ld zk_170_1 rfl rfl rfl (pc' := 2) rfl ?_
  refine T_calli (K := fun y1 σ' => ((y1 = -1 ∧ ¬ (0 ≤ p1 ∧ p1 ≤ 24 ∧ 0 ≤ p2 ∧ p2 ≤ 24 ∧ (p2 = p1 + 5 ∨ p1 = p2 + 5 ∨ (p2 = p1 + 1 ∧ p1 % 5 < 4) ∨ (p1 = p2 + 1 ∧ p2 % 5 < 4)))) ∨ (0 ≤ y1 ∧ y1 ≤ 49 ∧ (0 ≤ p1 ∧ p1 ≤ 24 ∧ 0 ≤ p2 ∧ p2 ≤ 24 ∧ (p2 = p1 + 5 ∨ p1 = p2 + 5 ∨ (p2 = p1 + 1 ∧ p1 % 5 < 4) ∨ (p1 = p2 + 1 ∧ p2 % 5 < 4))))) ∧ (fun σ' => IF MN σ σ' ∧ True) σ') (r := []) zk_170_2 rfl rfl rfl rfl rfl rfl (Or.inl (Or.inl rfl)) (fun σ' h => (m_126 p1 p2 (by omega) (by omega) σ' h.1.1 ).le (Nat.le_of_ble_eq_true rfl) (fun v σ2 ⟨y, h1, h2, h3, h4⟩ => ⟨y, h1, h2, h.1.tr h3 MN_sub, trivial⟩)) (pc' := 5) rfl (fun y1 => ?_)
  refine G_ex (fun hy1 => ?_)
  refine T_st (L' := [(0, av 35 0 0), (1, iv p0), (2, iv p1), (3, iv p2), (4, iv y1)]) zk_170_5 (nL := 7) rfl rfl rfl rfl rfl (pc' := 7) rfl ?_
  refine T_ld zk_170_7 rfl rfl rfl (pc' := 9) rfl ?_
  refine T_op zk_170_9 rfl X_ic (pc' := 10) rfl ?_
  refine T_icmp_eq zk_170_10 (by omega) (by omega) (pc' := 13) rfl (fun h2 => ?_) (fun h3 => ?_)
  ·
    refine T_op zk_170_27 rfl X_ic (pc' := 28) rfl ?_
    exact T_zret zk_170_28 rfl (by omega) (fun σ' h => ⟨_, rfl, (by omega), h.1, trivial⟩)
  ·
    refine T_ld zk_170_13 rfl rfl rfl (pc' := 14) rfl ?_
    refine T_getR (t' := 36) (i' := 0) (k' := 0) zk_170_14 rfl rfl rfl vd_35 (pc' := 17) rfl ?_
    refine T_op zk_170_17 rfl (X_bi (v := 100) (by decide)) (pc' := 19) rfl ?_
    refine T_ld zk_170_19 rfl rfl rfl (pc' := 21) rfl ?_
    refine T_op zk_170_21 rfl X_add (pc' := 22) rfl ?_
    refine G_iald (lo := -2147483648) (hi := 2147483647) (ln := 646) zk_170_22 rfl rfl (vd_36 (by omega)) (by omega) (by omega) (by omega) (fun σ' h => h.1.1) (fun _ h => (by have q := h.1; omega)) (pc' := 23) rfl (fun y4 hy4 hy4' => ?_)
    refine T_op zk_170_23 rfl X_ic (pc' := 24) rfl ?_
    refine T_icmp_ne zk_170_24 (by omega) (by omega) (pc' := 27) rfl (fun h5 => ?_) (fun h6 => ?_)
    ·
      refine T_ld zk_170_29 rfl rfl rfl (pc' := 30) rfl ?_
      refine T_getR (t' := 36) (i' := 0) (k' := 0) zk_170_30 rfl rfl rfl vd_35 (pc' := 33) rfl ?_
      refine T_op zk_170_33 rfl (X_si (v := 574) (by decide)) (pc' := 36) rfl ?_
      refine T_ld zk_170_36 rfl rfl rfl (pc' := 37) rfl ?_
      refine T_op zk_170_37 rfl X_add (pc' := 38) rfl ?_
      refine G_iald (lo := -2147483648) (hi := 2147483647) (ln := 646) zk_170_38 rfl rfl (vd_36 (by omega)) (by omega) (by omega) (by omega) (fun σ' h => h.1.1) (fun _ h => (by have q := h.1; omega)) (pc' := 39) rfl (fun y7 hy7 hy7' => ?_)
      refine T_st (L' := [(0, av 35 0 0), (1, iv p0), (2, iv p1), (3, iv p2), (4, iv y1), (5, iv y7)]) zk_170_39 (nL := 7) rfl rfl rfl rfl rfl (pc' := 41) rfl ?_
      refine T_ld zk_170_41 rfl rfl rfl (pc' := 42) rfl ?_
      refine T_getR (t' := 36) (i' := 0) (k' := 0) zk_170_42 rfl rfl rfl vd_35 (pc' := 45) rfl ?_
      refine T_op zk_170_45 rfl (X_bi (v := 25) (by decide)) (pc' := 47) rfl ?_
      refine T_ld zk_170_47 rfl rfl rfl (pc' := 48) rfl ?_
      refine T_op zk_170_48 rfl X_add (pc' := 49) rfl ?_
      refine G_iald (lo := -2147483648) (hi := 2147483647) (ln := 646) zk_170_49 rfl rfl (vd_36 (by omega)) (by omega) (by omega) (by omega) (fun σ' h => h.1.1) (fun _ h => (by have q := h.1; omega)) (pc' := 50) rfl (fun y8 hy8 hy8' => ?_)
      refine T_ld zk_170_50 rfl rfl rfl (pc' := 51) rfl ?_
      refine T_getR (t' := 36) (i' := 0) (k' := 0) zk_170_51 rfl rfl rfl vd_35 (pc' := 54) rfl ?_
      refine T_op zk_170_54 rfl X_ic (pc' := 55) rfl ?_
      refine T_ld zk_170_55 rfl rfl rfl (pc' := 56) rfl ?_
      refine T_op zk_170_56 rfl X_add (pc' := 57) rfl ?_
      refine G_iald (lo := -2147483648) (hi := 2147483647) (ln := 646) zk_170_57 rfl rfl (vd_36 (by omega)) (by omega) (by omega) (by omega) (fun σ' h => h.1.1) (fun _ h => (by have q := h.1; omega)) (pc' := 58) rfl (fun y9 hy9 hy9' => ?_)
      refine G_unk zk_170_58 rfl (pc' := 59) rfl (fun y10 hy10 hy10' => ?_)
      refine T_ld zk_170_59 rfl rfl rfl (pc' := 61) rfl ?_
      refine T_icmp_lt zk_170_61 (by omega) (by omega) (pc' := 64) rfl (fun h11 => ?_) (fun h12 => ?_)
      ·
        refine T_op zk_170_87 rfl X_ic (pc' := 88) rfl ?_
        exact T_zret zk_170_88 rfl (by omega) (fun σ' h => ⟨_, rfl, (by omega), h.1, trivial⟩)
      ·
        refine T_ld zk_170_64 rfl rfl rfl (pc' := 65) rfl ?_
        refine T_getR (t' := 36) (i' := 0) (k' := 0) zk_170_65 rfl rfl rfl vd_35 (pc' := 68) rfl ?_
        refine T_op zk_170_68 rfl (X_bi (v := 25) (by decide)) (pc' := 70) rfl ?_
        refine T_ld zk_170_70 rfl rfl rfl (pc' := 71) rfl ?_
        refine T_op zk_170_71 rfl X_add (pc' := 72) rfl ?_
        refine G_iald (lo := -2147483648) (hi := 2147483647) (ln := 646) zk_170_72 rfl rfl (vd_36 (by omega)) (by omega) (by omega) (by omega) (fun σ' h => h.1.1) (fun _ h => (by have q := h.1; omega)) (pc' := 73) rfl (fun y13 hy13 hy13' => ?_)
        refine T_ld zk_170_73 rfl rfl rfl (pc' := 74) rfl ?_
        refine T_getR (t' := 36) (i' := 0) (k' := 0) zk_170_74 rfl rfl rfl vd_35 (pc' := 77) rfl ?_
        refine T_op zk_170_77 rfl X_ic (pc' := 78) rfl ?_
        refine T_ld zk_170_78 rfl rfl rfl (pc' := 79) rfl ?_
        refine T_op zk_170_79 rfl X_add (pc' := 80) rfl ?_
        refine G_iald (lo := -2147483648) (hi := 2147483647) (ln := 646) zk_170_80 rfl rfl (vd_36 (by omega)) (by omega) (by omega) (by omega) (fun σ' h => h.1.1) (fun _ h => (by have q := h.1; omega)) (pc' := 81) rfl (fun y14 hy14 hy14' => ?_)
        refine G_unk zk_170_81 rfl (pc' := 82) rfl (fun y15 hy15 hy15' => ?_)
        refine T_ld zk_170_82 rfl rfl rfl (pc' := 84) rfl ?_
        refine T_icmp_ge zk_170_84 (by omega) (by omega) (pc' := 87) rfl (fun h16 => ?_) (fun h17 => ?_)
        ·
          refine T_ld zk_170_89 rfl rfl rfl (pc' := 90) rfl ?_
          refine T_getR (t' := 36) (i' := 0) (k' := 0) zk_170_90 rfl rfl rfl vd_35 (pc' := 93) rfl ?_
          refine T_op zk_170_93 rfl (X_bi (v := 25) (by decide)) (pc' := 95) rfl ?_
          refine T_ld zk_170_95 rfl rfl rfl (pc' := 96) rfl ?_
          refine T_op zk_170_96 rfl X_add (pc' := 97) rfl ?_
          refine G_iald (lo := -2147483648) (hi := 2147483647) (ln := 646) zk_170_97 rfl rfl (vd_36 (by omega)) (by omega) (by omega) (by omega) (fun σ' h => h.1.1) (fun _ h => (by have q := h.1; omega)) (pc' := 98) rfl (fun y18 hy18 hy18' => ?_)
          refine T_ld zk_170_98 rfl rfl rfl (pc' := 99) rfl ?_
          refine T_getR (t' := 36) (i' := 0) (k' := 0) zk_170_99 rfl rfl rfl vd_35 (pc' := 102) rfl ?_
          refine T_op zk_170_102 rfl (X_bi (v := 25) (by decide)) (pc' := 104) rfl ?_
          refine T_ld zk_170_104 rfl rfl rfl (pc' := 105) rfl ?_
          refine T_op zk_170_105 rfl X_add (pc' := 106) rfl ?_
          refine G_iald (lo := -2147483648) (hi := 2147483647) (ln := 646) zk_170_106 rfl rfl (vd_36 (by omega)) (by omega) (by omega) (by omega) (fun σ' h => h.1.1) (fun _ h => (by have q := h.1; omega)) (pc' := 107) rfl (fun y19 hy19 hy19' => ?_)
          refine T_icmp_le zk_170_107 (by omega) (by omega) (pc' := 110) rfl (fun h20 => ?_) (fun h21 => ?_)
          ·
            refine T_ld zk_170_122 rfl rfl rfl (pc' := 123) rfl ?_
            refine T_getR (t' := 36) (i' := 0) (k' := 0) zk_170_123 rfl rfl rfl vd_35 (pc' := 126) rfl ?_
            refine T_op zk_170_126 rfl (X_bi (v := 25) (by decide)) (pc' := 128) rfl ?_
            refine T_ld zk_170_128 rfl rfl rfl (pc' := 129) rfl ?_
            refine T_op zk_170_129 rfl X_add (pc' := 130) rfl ?_
            refine G_iald (lo := -2147483648) (hi := 2147483647) (ln := 646) zk_170_130 rfl rfl (vd_36 (by omega)) (by omega) (by omega) (by omega) (fun σ' h => h.1.1) (fun _ h => (by have q := h.1; omega)) (pc' := 131) rfl (fun y22 hy22 hy22' => ?_)
            refine T_st (L' := [(0, av 35 0 0), (1, iv p0), (2, iv p1), (3, iv p2), (4, iv y1), (5, iv y7), (6, iv y22)]) zk_170_131 (nL := 7) rfl rfl rfl rfl rfl (pc' := 133) rfl ?_
            refine T_ld zk_170_133 rfl rfl rfl (pc' := 134) rfl ?_
            refine T_getR (t' := 36) (i' := 0) (k' := 0) zk_170_134 rfl rfl rfl vd_35 (pc' := 137) rfl ?_
            refine T_op zk_170_137 rfl (X_si (v := 200) (by decide)) (pc' := 140) rfl ?_
            refine T_ld zk_170_140 rfl rfl rfl (pc' := 142) rfl ?_
            refine T_op zk_170_142 rfl X_add (pc' := 143) rfl ?_
            refine G_iald (lo := -2147483648) (hi := 2147483647) (ln := 646) zk_170_143 rfl rfl (vd_36 (by omega)) (by omega) (by omega) (by omega) (fun σ' h => h.1.1) (fun _ h => (by have q := h.1; omega)) (pc' := 144) rfl (fun y23 hy23 hy23' => ?_)
            refine T_op zk_170_144 rfl X_ic (pc' := 145) rfl ?_
            refine T_icmp_eq zk_170_145 (by omega) (by omega) (pc' := 148) rfl (fun h24 => ?_) (fun h25 => ?_)
            ·
              refine T_op zk_170_175 rfl X_ic (pc' := 176) rfl ?_
              refine T_goto zk_170_176 ?_
              exact T_zret zk_170_180 rfl (by omega) (fun σ' h => ⟨_, rfl, (by omega), h.1, trivial⟩)
            ·
              refine T_ld zk_170_148 rfl rfl rfl (pc' := 149) rfl ?_
              refine T_getR (t' := 36) (i' := 0) (k' := 0) zk_170_149 rfl rfl rfl vd_35 (pc' := 152) rfl ?_
              refine T_op zk_170_152 rfl (X_si (v := 580) (by decide)) (pc' := 155) rfl ?_
              refine T_ld zk_170_155 rfl rfl rfl (pc' := 156) rfl ?_
              refine T_op zk_170_156 rfl X_add (pc' := 157) rfl ?_
              refine G_iald (lo := -2147483648) (hi := 2147483647) (ln := 646) zk_170_157 rfl rfl (vd_36 (by omega)) (by omega) (by omega) (by omega) (fun σ' h => h.1.1) (fun _ h => (by have q := h.1; omega)) (pc' := 158) rfl (fun y26 hy26 hy26' => ?_)
              refine T_ld zk_170_158 rfl rfl rfl (pc' := 160) rfl ?_
              refine G_unk zk_170_160 rfl (pc' := 161) rfl (fun y27 hy27 hy27' => ?_)
              refine T_ld zk_170_161 rfl rfl rfl (pc' := 162) rfl ?_
              refine T_getR (t' := 36) (i' := 0) (k' := 0) zk_170_162 rfl rfl rfl vd_35 (pc' := 165) rfl ?_
              refine T_op zk_170_165 rfl (X_si (v := 200) (by decide)) (pc' := 168) rfl ?_
              refine T_ld zk_170_168 rfl rfl rfl (pc' := 170) rfl ?_
              refine T_op zk_170_170 rfl X_add (pc' := 171) rfl ?_
              refine G_iald (lo := -2147483648) (hi := 2147483647) (ln := 646) zk_170_171 rfl rfl (vd_36 (by omega)) (by omega) (by omega) (by omega) (fun σ' h => h.1.1) (fun _ h => (by have q := h.1; omega)) (pc' := 172) rfl (fun y28 hy28 hy28' => ?_)
              refine T_icmp_gt zk_170_172 (by omega) (by omega) (pc' := 175) rfl (fun h29 => ?_) (fun h30 => ?_)
              ·
                refine T_op zk_170_179 rfl X_ic (pc' := 180) rfl ?_
                exact T_zret zk_170_180 rfl (by omega) (fun σ' h => ⟨_, rfl, (by omega), h.1, trivial⟩)
              ·
                refine T_op zk_170_175 rfl X_ic (pc' := 176) rfl ?_
                refine T_goto zk_170_176 ?_
                exact T_zret zk_170_180 rfl (by omega) (fun σ' h => ⟨_, rfl, (by omega), h.1, trivial⟩)
          ·
            refine T_ld zk_170_110 rfl rfl rfl (pc' := 111) rfl ?_
            refine T_getR (t' := 36) (i' := 0) (k' := 0) zk_170_111 rfl rfl rfl vd_35 (pc' := 114) rfl ?_
            refine T_op zk_170_114 rfl (X_bi (v := 25) (by decide)) (pc' := 116) rfl ?_
            refine T_ld zk_170_116 rfl rfl rfl (pc' := 117) rfl ?_
            refine T_op zk_170_117 rfl X_add (pc' := 118) rfl ?_
            refine G_iald (lo := -2147483648) (hi := 2147483647) (ln := 646) zk_170_118 rfl rfl (vd_36 (by omega)) (by omega) (by omega) (by omega) (fun σ' h => h.1.1) (fun _ h => (by have q := h.1; omega)) (pc' := 119) rfl (fun y31 hy31 hy31' => ?_)
            refine T_goto zk_170_119 ?_
            refine T_st (L' := [(0, av 35 0 0), (1, iv p0), (2, iv p1), (3, iv p2), (4, iv y1), (5, iv y7), (6, iv y31)]) zk_170_131 (nL := 7) rfl rfl rfl rfl rfl (pc' := 133) rfl ?_
            refine T_ld zk_170_133 rfl rfl rfl (pc' := 134) rfl ?_
            refine T_getR (t' := 36) (i' := 0) (k' := 0) zk_170_134 rfl rfl rfl vd_35 (pc' := 137) rfl ?_
            refine T_op zk_170_137 rfl (X_si (v := 200) (by decide)) (pc' := 140) rfl ?_
            refine T_ld zk_170_140 rfl rfl rfl (pc' := 142) rfl ?_
            refine T_op zk_170_142 rfl X_add (pc' := 143) rfl ?_
            refine G_iald (lo := -2147483648) (hi := 2147483647) (ln := 646) zk_170_143 rfl rfl (vd_36 (by omega)) (by omega) (by omega) (by omega) (fun σ' h => h.1.1) (fun _ h => (by have q := h.1; omega)) (pc' := 144) rfl (fun y32 hy32 hy32' => ?_)
            refine T_op zk_170_144 rfl X_ic (pc' := 145) rfl ?_
            refine T_icmp_eq zk_170_145 (by omega) (by omega) (pc' := 148) rfl (fun h33 => ?_) (fun h34 => ?_)
            ·
              refine T_op zk_170_175 rfl X_ic (pc' := 176) rfl ?_
              refine T_goto zk_170_176 ?_
              exact T_zret zk_170_180 rfl (by omega) (fun σ' h => ⟨_, rfl, (by omega), h.1, trivial⟩)
            ·
              refine T_ld zk_170_148 rfl rfl rfl (pc' := 149) rfl ?_
              refine T_getR (t' := 36) (i' := 0) (k' := 0) zk_170_149 rfl rfl rfl vd_35 (pc' := 152) rfl ?_
              refine T_op zk_170_152 rfl (X_si (v := 580) (by decide)) (pc' := 155) rfl ?_
              refine T_ld zk_170_155 rfl rfl rfl (pc' := 156) rfl ?_
              refine T_op zk_170_156 rfl X_add (pc' := 157) rfl ?_
              refine G_iald (lo := -2147483648) (hi := 2147483647) (ln := 646) zk_170_157 rfl rfl (vd_36 (by omega)) (by omega) (by omega) (by omega) (fun σ' h => h.1.1) (fun _ h => (by have q := h.1; omega)) (pc' := 158) rfl (fun y35 hy35 hy35' => ?_)
              refine T_ld zk_170_158 rfl rfl rfl (pc' := 160) rfl ?_
              refine G_unk zk_170_160 rfl (pc' := 161) rfl (fun y36 hy36 hy36' => ?_)
              refine T_ld zk_170_161 rfl rfl rfl (pc' := 162) rfl ?_
              refine T_getR (t' := 36) (i' := 0) (k' := 0) zk_170_162 rfl rfl rfl vd_35 (pc' := 165) rfl ?_
              refine T_op zk_170_165 rfl (X_si (v := 200) (by decide)) (pc' := 168) rfl ?_
              refine T_ld zk_170_168 rfl rfl rfl (pc' := 170) rfl ?_
              refine T_op zk_170_170 rfl X_add (pc' := 171) rfl ?_
              refine G_iald (lo := -2147483648) (hi := 2147483647) (ln := 646) zk_170_171 rfl rfl (vd_36 (by omega)) (by omega) (by omega) (by omega) (fun σ' h => h.1.1) (fun _ h => (by have q := h.1; omega)) (pc' := 172) rfl (fun y37 hy37 hy37' => ?_)
              refine T_icmp_gt zk_170_172 (by omega) (by omega) (pc' := 175) rfl (fun h38 => ?_) (fun h39 => ?_)
              ·
                refine T_op zk_170_179 rfl X_ic (pc' := 180) rfl ?_
                exact T_zret zk_170_180 rfl (by omega) (fun σ' h => ⟨_, rfl, (by omega), h.1, trivial⟩)
              ·
                refine T_op zk_170_175 rfl X_ic (pc' := 176) rfl ?_
                refine T_goto zk_170_176 ?_
                exact T_zret zk_170_180 rfl (by omega) (fun σ' h => ⟨_, rfl, (by omega), h.1, trivial⟩)
        ·
          refine T_op zk_170_87 rfl X_ic (pc' := 88) rfl ?_
          exact T_zret zk_170_88 rfl (by omega) (fun σ' h => ⟨_, rfl, (by omega), h.1, trivial⟩)
    ·
      refine T_op zk_170_27 rfl X_ic (pc' := 28) rfl ?_
      exact T_zret zk_170_28 rfl (by omega) (fun σ' h => ⟨_, rfl, (by omega), h.1, trivial⟩)
