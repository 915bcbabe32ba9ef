theorem zk_123_0 : zc 123 0 = some (.aload_n 0, 0, 0, 0, 0) := rfl
theorem zk_123_1 : zc 123 1 = some (.getfield 60, 11, 17, 0, 155) := rfl
theorem zk_123_4 : zc 123 4 = some (.iload_n 1, 0, 0, 0, 0) := rfl
theorem zk_123_5 : zc 123 5 = some (.ineg, 0, 0, 0, 0) := rfl
theorem zk_123_6 : zc 123 6 = some (.dup2, 0, 0, 0, 0) := rfl
theorem zk_123_7 : zc 123 7 = some (.iaload, 0, 0, 0, 0) := rfl
theorem zk_123_8 : zc 123 8 = some (.iconst 1, 0, 0, 0, 0) := rfl
theorem zk_123_9 : zc 123 9 = some (.iadd, 0, 0, 0, 0) := rfl
theorem zk_123_10 : zc 123 10 = some (.iastore, 0, 0, 0, 0) := rfl
theorem zk_123_11 : zc 123 11 = some (.iload_n 1, 0, 0, 0, 0) := rfl
theorem zk_123_12 : zc 123 12 = some (.ireturn, 0, 0, 0, 0) := rfl
theorem zk_124_0 : zc 124 0 = some (.iload_n 0, 0, 0, 0, 0) := rfl
theorem zk_124_1 : zc 124 1 = some (.ifCond .lt 13, 14, 0, 0, 0) := rfl
theorem zk_124_4 : zc 124 4 = some (.iload_n 0, 0, 0, 0, 0) := rfl
theorem zk_124_5 : zc 124 5 = some (.bipush 25, 0, 0, 0, 0) := rfl
theorem zk_124_7 : zc 124 7 = some (.if_icmp .ge 7, 14, 0, 0, 0) := rfl
theorem zk_124_10 : zc 124 10 = some (.iconst 1, 0, 0, 0, 0) := rfl
theorem zk_124_11 : zc 124 11 = some (.goto 4, 15, 0, 0, 0) := rfl
theorem zk_124_14 : zc 124 14 = some (.iconst 0, 0, 0, 0, 0) := rfl
theorem zk_124_15 : zc 124 15 = some (.ireturn, 0, 0, 0, 0) := rfl
theorem zk_125_0 : zc 125 0 = some (.iload_n 0, 0, 0, 0, 0) := rfl
theorem zk_125_1 : zc 125 1 = some (.ifCond .lt 13, 14, 0, 0, 0) := rfl
theorem zk_125_4 : zc 125 4 = some (.iload_n 0, 0, 0, 0, 0) := rfl
theorem zk_125_5 : zc 125 5 = some (.bipush 8, 0, 0, 0, 0) := rfl
theorem zk_125_7 : zc 125 7 = some (.if_icmp .ge 7, 14, 0, 0, 0) := rfl
theorem zk_125_10 : zc 125 10 = some (.iconst 1, 0, 0, 0, 0) := rfl
theorem zk_125_11 : zc 125 11 = some (.goto 4, 15, 0, 0, 0) := rfl
theorem zk_125_14 : zc 125 14 = some (.iconst 0, 0, 0, 0, 0) := rfl
theorem zk_125_15 : zc 125 15 = some (.ireturn, 0, 0, 0, 0) := rfl
theorem zk_126_0 : zc 126 0 = some (.iload_n 0, 0, 0, 0, 0) := rfl
theorem zk_126_1 : zc 126 1 = some (.invokestatic 99, 124, 1, 1, 128) := rfl
theorem zk_126_4 : zc 126 4 = some (.ifCond .eq 10, 14, 0, 0, 0) := rfl
theorem zk_126_7 : zc 126 7 = some (.iload_n 1, 0, 0, 0, 0) := rfl
theorem zk_126_8 : zc 126 8 = some (.invokestatic 99, 124, 1, 1, 128) := rfl
theorem zk_126_11 : zc 126 11 = some (.ifCond .ne 5, 16, 0, 0, 0) := rfl
theorem zk_126_14 : zc 126 14 = some (.iconst (-1), 0, 0, 0, 0) := rfl
theorem zk_126_15 : zc 126 15 = some (.ireturn, 0, 0, 0, 0) := rfl
theorem zk_126_16 : zc 126 16 = some (.iload_n 0, 0, 0, 0, 0) := rfl
theorem zk_126_17 : zc 126 17 = some (.iload_n 1, 0, 0, 0, 0) := rfl
theorem zk_126_18 : zc 126 18 = some (.if_icmp .ge 7, 25, 0, 0, 0) := rfl
theorem zk_126_21 : zc 126 21 = some (.iload_n 0, 0, 0, 0, 0) := rfl
theorem zk_126_22 : zc 126 22 = some (.goto 4, 26, 0, 0, 0) := rfl
theorem zk_126_25 : zc 126 25 = some (.iload_n 1, 0, 0, 0, 0) := rfl
theorem zk_126_26 : zc 126 26 = some (.istore_n 2, 0, 0, 0, 0) := rfl
theorem zk_126_27 : zc 126 27 = some (.iload_n 0, 0, 0, 0, 0) := rfl
theorem zk_126_28 : zc 126 28 = some (.iload_n 1, 0, 0, 0, 0) := rfl
theorem zk_126_29 : zc 126 29 = some (.if_icmp .ge 7, 36, 0, 0, 0) := rfl
theorem zk_126_32 : zc 126 32 = some (.iload_n 1, 0, 0, 0, 0) := rfl
theorem zk_126_33 : zc 126 33 = some (.goto 4, 37, 0, 0, 0) := rfl
theorem zk_126_36 : zc 126 36 = some (.iload_n 0, 0, 0, 0, 0) := rfl
theorem zk_126_37 : zc 126 37 = some (.istore_n 3, 0, 0, 0, 0) := rfl
theorem zk_126_38 : zc 126 38 = some (.iload_n 3, 0, 0, 0, 0) := rfl
theorem zk_126_39 : zc 126 39 = some (.iload_n 2, 0, 0, 0, 0) := rfl
theorem zk_126_40 : zc 126 40 = some (.iconst 5, 0, 0, 0, 0) := rfl
theorem zk_126_41 : zc 126 41 = some (.iadd, 0, 0, 0, 0) := rfl
theorem zk_126_42 : zc 126 42 = some (.if_icmp .ne 9, 51, 0, 0, 0) := rfl
theorem zk_126_45 : zc 126 45 = some (.iconst 2, 0, 0, 0, 0) := rfl
theorem zk_126_46 : zc 126 46 = some (.iload_n 2, 0, 0, 0, 0) := rfl
theorem zk_126_47 : zc 126 47 = some (.imul, 0, 0, 0, 0) := rfl
theorem zk_126_48 : zc 126 48 = some (.iconst 1, 0, 0, 0, 0) := rfl
theorem zk_126_49 : zc 126 49 = some (.iadd, 0, 0, 0, 0) := rfl
theorem zk_126_50 : zc 126 50 = some (.ireturn, 0, 0, 0, 0) := rfl
theorem zk_126_51 : zc 126 51 = some (.iload_n 3, 0, 0, 0, 0) := rfl
theorem zk_126_52 : zc 126 52 = some (.iload_n 2, 0, 0, 0, 0) := rfl
theorem zk_126_53 : zc 126 53 = some (.iconst 1, 0, 0, 0, 0) := rfl
theorem zk_126_54 : zc 126 54 = some (.iadd, 0, 0, 0, 0) := rfl
theorem zk_126_55 : zc 126 55 = some (.if_icmp .ne 16, 71, 0, 0, 0) := rfl
theorem zk_126_58 : zc 126 58 = some (.iload_n 2, 0, 0, 0, 0) := rfl
theorem zk_126_59 : zc 126 59 = some (.iconst 5, 0, 0, 0, 0) := rfl
theorem zk_126_60 : zc 126 60 = some (.irem, 0, 0, 0, 0) := rfl
theorem zk_126_61 : zc 126 61 = some (.iconst 4, 0, 0, 0, 0) := rfl
theorem zk_126_62 : zc 126 62 = some (.if_icmp .ge 9, 71, 0, 0, 0) := rfl
theorem zk_126_65 : zc 126 65 = some (.iconst 2, 0, 0, 0, 0) := rfl
theorem zk_126_66 : zc 126 66 = some (.iload_n 2, 0, 0, 0, 0) := rfl
theorem zk_126_67 : zc 126 67 = some (.imul, 0, 0, 0, 0) := rfl
theorem zk_126_68 : zc 126 68 = some (.goto 4, 72, 0, 0, 0) := rfl
theorem zk_126_71 : zc 126 71 = some (.iconst (-1), 0, 0, 0, 0) := rfl
theorem zk_126_72 : zc 126 72 = some (.ireturn, 0, 0, 0, 0) := rfl
theorem zk_129_0 : zc 129 0 = some (.iload_n 2, 0, 0, 0, 0) := rfl
theorem zk_129_1 : zc 129 1 = some (.ifCond .eq 7, 8, 0, 0, 0) := rfl
theorem zk_129_4 : zc 129 4 = some (.iconst 1, 0, 0, 0, 0) := rfl
theorem zk_129_5 : zc 129 5 = some (.goto 4, 9, 0, 0, 0) := rfl
theorem zk_129_8 : zc 129 8 = some (.iconst 0, 0, 0, 0, 0) := rfl
theorem zk_129_9 : zc 129 9 = some (.istore_n 3, 0, 0, 0, 0) := rfl
theorem zk_129_10 : zc 129 10 = some (.aload_n 0, 0, 0, 0, 0) := rfl
theorem zk_129_11 : zc 129 11 = some (.getfield 7, 11, 0, 0, 139) := rfl
theorem zk_129_14 : zc 129 14 = some (.iload_n 1, 0, 0, 0, 0) := rfl
theorem zk_129_15 : zc 129 15 = some (.iaload, 0, 0, 0, 0) := rfl
theorem zk_129_16 : zc 129 16 = some (.iload_n 3, 0, 0, 0, 0) := rfl
theorem zk_129_17 : zc 129 17 = some (.if_icmp .ne 5, 22, 0, 0, 0) := rfl
theorem zk_129_20 : zc 129 20 = some (.iconst 0, 0, 0, 0, 0) := rfl
theorem zk_129_21 : zc 129 21 = some (.ireturn, 0, 0, 0, 0) := rfl
theorem zk_129_22 : zc 129 22 = some (.aload_n 0, 0, 0, 0, 0) := rfl
theorem zk_129_23 : zc 129 23 = some (.getfield 7, 11, 0, 0, 139) := rfl
theorem zk_129_26 : zc 129 26 = some (.iload_n 1, 0, 0, 0, 0) := rfl
theorem zk_129_27 : zc 129 27 = some (.iload_n 3, 0, 0, 0, 0) := rfl
theorem zk_129_28 : zc 129 28 = some (.iastore, 0, 0, 0, 0) := rfl
theorem zk_129_29 : zc 129 29 = some (.iconst 1, 0, 0, 0, 0) := rfl
theorem zk_129_30 : zc 129 30 = some (.ireturn, 0, 0, 0, 0) := rfl
theorem zk_139_0 : zc 139 0 = some (.iload_n 1, 0, 0, 0, 0) := rfl
theorem zk_139_1 : zc 139 1 = some (.ifCond .lt 19, 20, 0, 0, 0) := rfl
theorem zk_139_4 : zc 139 4 = some (.iload_n 1, 0, 0, 0, 0) := rfl
theorem zk_139_5 : zc 139 5 = some (.aload_n 0, 0, 0, 0, 0) := rfl
theorem zk_139_6 : zc 139 6 = some (.getfield 7, 11, 0, 0, 139) := rfl
theorem zk_139_9 : zc 139 9 = some (.sipush 641, 0, 0, 0, 0) := rfl
theorem zk_139_12 : zc 139 12 = some (.iaload, 0, 0, 0, 0) := rfl
theorem zk_139_13 : zc 139 13 = some (.if_icmp .ge 7, 20, 0, 0, 0) := rfl
theorem zk_139_20 : zc 139 20 = some (.iconst 0, 0, 0, 0, 0) := rfl
theorem zk_139_21 : zc 139 21 = some (.ireturn, 0, 0, 0, 0) := rfl
theorem zk_143_0 : zc 143 0 = some (.iload_n 1, 0, 0, 0, 0) := rfl
theorem zk_143_1 : zc 143 1 = some (.invokestatic 115, 125, 1, 1, 132) := rfl
theorem zk_143_4 : zc 143 4 = some (.ifCond .ne 7, 11, 0, 0, 0) := rfl
theorem zk_143_7 : zc 143 7 = some (.iconst (-1), 0, 0, 0, 0) := rfl
theorem zk_143_8 : zc 143 8 = some (.goto 33, 41, 0, 0, 0) := rfl
theorem zk_143_11 : zc 143 11 = some (.aload_n 0, 0, 0, 0, 0) := rfl
theorem zk_143_12 : zc 143 12 = some (.getfield 19, 11, 4, 0, 142) := rfl
theorem zk_143_15 : zc 143 15 = some (.iload_n 1, 0, 0, 0, 0) := rfl
theorem zk_143_16 : zc 143 16 = some (.iaload, 0, 0, 0, 0) := rfl
theorem zk_143_17 : zc 143 17 = some (.iconst 2, 0, 0, 0, 0) := rfl
theorem zk_143_18 : zc 143 18 = some (.if_icmp .ne 8, 26, 0, 0, 0) := rfl
theorem zk_143_26 : zc 143 26 = some (.aload_n 0, 0, 0, 0, 0) := rfl
theorem zk_143_27 : zc 143 27 = some (.getfield 19, 11, 4, 0, 142) := rfl
theorem zk_143_30 : zc 143 30 = some (.iload_n 1, 0, 0, 0, 0) := rfl
theorem zk_143_31 : zc 143 31 = some (.iaload, 0, 0, 0, 0) := rfl
theorem zk_143_32 : zc 143 32 = some (.ifCond .ne 8, 40, 0, 0, 0) := rfl
theorem zk_143_35 : zc 143 35 = some (.bipush (-3), 0, 0, 0, 0) := rfl
theorem zk_143_37 : zc 143 37 = some (.goto 4, 41, 0, 0, 0) := rfl
theorem zk_143_41 : zc 143 41 = some (.ireturn, 0, 0, 0, 0) := rfl
theorem zk_145_0 : zc 145 0 = some (.aload_n 0, 0, 0, 0, 0) := rfl
theorem zk_145_1 : zc 145 1 = some (.getfield 7, 11, 0, 0, 139) := rfl
theorem zk_145_4 : zc 145 4 = some (.iload_n 2, 0, 0, 0, 0) := rfl
theorem zk_145_5 : zc 145 5 = some (.ifCond .eq 9, 14, 0, 0, 0) := rfl
theorem zk_145_8 : zc 145 8 = some (.sipush 636, 0, 0, 0, 0) := rfl
theorem zk_145_11 : zc 145 11 = some (.goto 6, 17, 0, 0, 0) := rfl
theorem zk_145_14 : zc 145 14 = some (.sipush 635, 0, 0, 0, 0) := rfl
theorem zk_145_17 : zc 145 17 = some (.iaload, 0, 0, 0, 0) := rfl
theorem zk_145_18 : zc 145 18 = some (.istore_n 3, 0, 0, 0, 0) := rfl
theorem zk_145_19 : zc 145 19 = some (.iload_n 3, 0, 0, 0, 0) := rfl
theorem zk_145_20 : zc 145 20 = some (.ifCond .ne 7, 27, 0, 0, 0) := rfl
theorem zk_145_23 : zc 145 23 = some (.iconst 0, 0, 0, 0, 0) := rfl
theorem zk_145_24 : zc 145 24 = some (.goto 25, 49, 0, 0, 0) := rfl
theorem zk_145_49 : zc 145 49 = some (.ireturn, 0, 0, 0, 0) := rfl
theorem zk_157_0 : zc 157 0 = some (.iload_n 1, 0, 0, 0, 0) := rfl
theorem zk_157_1 : zc 157 1 = some (.ifCond .lt 19, 20, 0, 0, 0) := rfl
theorem zk_157_4 : zc 157 4 = some (.iload_n 1, 0, 0, 0, 0) := rfl
theorem zk_157_5 : zc 157 5 = some (.aload_n 0, 0, 0, 0, 0) := rfl
theorem zk_157_6 : zc 157 6 = some (.getfield 7, 11, 0, 0, 139) := rfl
theorem zk_157_9 : zc 157 9 = some (.sipush 640, 0, 0, 0, 0) := rfl
theorem zk_157_12 : zc 157 12 = some (.iaload, 0, 0, 0, 0) := rfl
theorem zk_157_13 : zc 157 13 = some (.if_icmp .ge 7, 20, 0, 0, 0) := rfl
theorem zk_157_20 : zc 157 20 = some (.iconst 0, 0, 0, 0, 0) := rfl
theorem zk_157_21 : zc 157 21 = some (.ireturn, 0, 0, 0, 0) := rfl
theorem zk_159_0 : zc 159 0 = some (.aload_n 0, 0, 0, 0, 0) := rfl
theorem zk_159_1 : zc 159 1 = some (.getfield 7, 11, 0, 0, 139) := rfl
theorem zk_159_4 : zc 159 4 = some (.bipush 25, 0, 0, 0, 0) := rfl
theorem zk_159_6 : zc 159 6 = some (.iaload, 0, 0, 0, 0) := rfl
theorem zk_159_7 : zc 159 7 = some (.istore_n 1, 0, 0, 0, 0) := rfl
theorem zk_159_8 : zc 159 8 = some (.iconst 1, 0, 0, 0, 0) := rfl
theorem zk_159_9 : zc 159 9 = some (.istore_n 2, 0, 0, 0, 0) := rfl
theorem zk_159_10 : zc 159 10 = some (.iload_n 2, 0, 0, 0, 0) := rfl
theorem zk_159_11 : zc 159 11 = some (.bipush 25, 0, 0, 0, 0) := rfl
theorem zk_159_13 : zc 159 13 = some (.if_icmp .ge 32, 45, 0, 0, 0) := rfl
theorem zk_159_16 : zc 159 16 = some (.aload_n 0, 0, 0, 0, 0) := rfl
theorem zk_159_17 : zc 159 17 = some (.getfield 7, 11, 0, 0, 139) := rfl
theorem zk_159_20 : zc 159 20 = some (.bipush 25, 0, 0, 0, 0) := rfl
theorem zk_159_22 : zc 159 22 = some (.iload_n 2, 0, 0, 0, 0) := rfl
theorem zk_159_23 : zc 159 23 = some (.iadd, 0, 0, 0, 0) := rfl
theorem zk_159_24 : zc 159 24 = some (.iaload, 0, 0, 0, 0) := rfl
theorem zk_159_25 : zc 159 25 = some (.iload_n 1, 0, 0, 0, 0) := rfl
theorem zk_159_26 : zc 159 26 = some (.if_icmp .le 13, 39, 0, 0, 0) := rfl
theorem zk_159_29 : zc 159 29 = some (.aload_n 0, 0, 0, 0, 0) := rfl
theorem zk_159_30 : zc 159 30 = some (.getfield 7, 11, 0, 0, 139) := rfl
theorem zk_159_33 : zc 159 33 = some (.bipush 25, 0, 0, 0, 0) := rfl
theorem zk_159_35 : zc 159 35 = some (.iload_n 2, 0, 0, 0, 0) := rfl
theorem zk_159_36 : zc 159 36 = some (.iadd, 0, 0, 0, 0) := rfl
theorem zk_159_37 : zc 159 37 = some (.iaload, 0, 0, 0, 0) := rfl
theorem zk_159_38 : zc 159 38 = some (.istore_n 1, 0, 0, 0, 0) := rfl
theorem zk_159_39 : zc 159 39 = some (.iinc 2 1, 0, 0, 0, 0) := rfl
theorem zk_159_42 : zc 159 42 = some (.goto (-32), 10, 0, 0, 0) := rfl
theorem zk_159_45 : zc 159 45 = some (.iload_n 1, 0, 0, 0, 0) := rfl
theorem zk_159_46 : zc 159 46 = some (.ireturn, 0, 0, 0, 0) := rfl
theorem zk_160_0 : zc 160 0 = some (.iconst 0, 0, 0, 0, 0) := rfl
theorem zk_160_1 : zc 160 1 = some (.istore_n 1, 0, 0, 0, 0) := rfl
theorem zk_160_2 : zc 160 2 = some (.iconst 0, 0, 0, 0, 0) := rfl
theorem zk_160_3 : zc 160 3 = some (.istore_n 2, 0, 0, 0, 0) := rfl
theorem zk_160_4 : zc 160 4 = some (.iload_n 2, 0, 0, 0, 0) := rfl
theorem zk_160_5 : zc 160 5 = some (.aload_n 0, 0, 0, 0, 0) := rfl
theorem zk_160_6 : zc 160 6 = some (.getfield 7, 11, 0, 0, 139) := rfl
theorem zk_160_9 : zc 160 9 = some (.sipush 642, 0, 0, 0, 0) := rfl
theorem zk_160_12 : zc 160 12 = some (.iaload, 0, 0, 0, 0) := rfl
theorem zk_160_13 : zc 160 13 = some (.if_icmp .ge 26, 39, 0, 0, 0) := rfl
theorem zk_160_39 : zc 160 39 = some (.iload_n 1, 0, 0, 0, 0) := rfl
theorem zk_160_40 : zc 160 40 = some (.ireturn, 0, 0, 0, 0) := rfl
theorem zk_167_0 : zc 167 0 = some (.iload_n 1, 0, 0, 0, 0) := rfl
theorem zk_167_1 : zc 167 1 = some (.ifCond .lt 19, 20, 0, 0, 0) := rfl
theorem zk_167_4 : zc 167 4 = some (.iload_n 1, 0, 0, 0, 0) := rfl
theorem zk_167_5 : zc 167 5 = some (.aload_n 0, 0, 0, 0, 0) := rfl
theorem zk_167_6 : zc 167 6 = some (.getfield 7, 11, 0, 0, 139) := rfl
theorem zk_167_9 : zc 167 9 = some (.sipush 642, 0, 0, 0, 0) := rfl
theorem zk_167_12 : zc 167 12 = some (.iaload, 0, 0, 0, 0) := rfl
theorem zk_167_13 : zc 167 13 = some (.if_icmp .ge 7, 20, 0, 0, 0) := rfl
theorem zk_167_20 : zc 167 20 = some (.iconst 0, 0, 0, 0, 0) := rfl
theorem zk_167_21 : zc 167 21 = some (.ireturn, 0, 0, 0, 0) := rfl
def MJ (a b : Nat) (t i k j : Nat) : Prop := (t = 36 ∧ k = 0 ∧ a ≤ j ∧ j < b) ∨ t = 49
def MK (a b c d : Nat) (t i k j : Nat) : Prop := (t = 36 ∧ k = 0 ∧ ((a ≤ j ∧ j < b) ∨ (c ≤ j ∧ j < d))) ∨ t = 49
def MB (t i k j : Nat) : Prop := t = 37 ∨ t = 38 ∨ t = 39 ∨ t = 40 ∨ t = 41 ∨ t = 49
/-- WModel.no -/
theorem m_123 {xs : Nat × (Nat → Int32)} (p0 : Int) (h0 : -7 ≤ p0 ∧ p0 ≤ -1) (σ : ZS) (hI : Inv σ)   : CT xs 1 123 [av 35 0 0, iv p0] σ (fun v σ' => ∃ y, v = some (iv y) ∧ (y = p0) ∧ IF (MT 49 49 49 49) σ σ' ∧ (True)) := by
  refine G_ct (J := (fun σ' => IF (MT 49 49 49 49) σ σ' ∧ True)) (L := [(0, av 35 0 0), (1, iv p0)]) (nL := 2) rfl rfl rfl ⟨IF.rf hI, trivial⟩ ?_
  refine T_ld zk_123_0 rfl rfl rfl (pc' := 1) rfl ?_
  refine T_getR (t' := 49) (i' := 0) (k' := 0) zk_123_1 rfl rfl rfl vd_35 (pc' := 4) rfl ?_
  refine T_ld zk_123_4 rfl rfl rfl (pc' := 5) rfl ?_
  refine T_op zk_123_5 rfl X_neg (pc' := 6) rfl ?_
  refine T_op (st' := [iv (-p0), av 49 0 0, iv (-p0), av 49 0 0]) zk_123_6 rfl rfl (pc' := 7) rfl ?_
  refine G_iald (lo := -2147483648) (hi := 2147483647) (ln := 8) zk_123_7 rfl rfl vd_49 (by omega) (by omega) (by omega) (fun σ' h => h.1.1) (fun _ h => h.1) (pc' := 8) rfl (fun y1 hy1 hy1' => ?_)
  refine T_op zk_123_8 rfl X_ic (pc' := 9) rfl ?_
  refine G_unk zk_123_9 rfl (pc' := 10) rfl (fun y2 hy2 hy2' => ?_)
  refine G_iast (J' := (fun σ' => IF (MT 49 49 49 49) σ σ' ∧ True)) (ln := 8) zk_123_10 rfl rfl vd_49 (by omega) (by omega) (by omega) (fun σ' h => ⟨h.1.up ⟨by omega, trivial⟩ (by unfold MT; omega), trivial⟩) (pc' := 11) rfl ?_
  refine T_ld zk_123_11 rfl rfl rfl (pc' := 12) rfl ?_
  exact T_iret zk_123_12 rfl (fun σ' h => ⟨_, rfl, (by omega), h.1, trivial⟩)
/-- WModel.isCell -/
theorem m_124 {xs : Nat × (Nat → Int32)} (p0 : Int) (h0 : -2147483648 ≤ p0 ∧ p0 ≤ 2147483647) (σ : ZS) (hI : Inv σ)   : CT xs 1 124 [iv p0] σ (fun v σ' => ∃ y, v = some (iv y) ∧ ((y = 0 ∧ (p0 < 0 ∨ 24 < p0)) ∨ (y = 1 ∧ 0 ≤ p0 ∧ p0 ≤ 24)) ∧ IF MN σ σ' ∧ (True)) := by
  refine G_ct (J := (fun σ' => IF MN σ σ' ∧ True)) (L := [(0, iv p0)]) (nL := 1) rfl rfl rfl ⟨IF.rf hI, trivial⟩ ?_
  refine T_ld zk_124_0 rfl rfl rfl (pc' := 1) rfl ?_
  refine T_if_lt zk_124_1 (by omega) (pc' := 4) rfl (fun h1 => ?_) (fun h2 => ?_)
  ·
    refine T_op zk_124_14 rfl X_ic (pc' := 15) rfl ?_
    exact T_zret zk_124_15 rfl (by omega) (fun σ' h => ⟨_, rfl, (by omega), h.1, trivial⟩)
  ·
    refine T_ld zk_124_4 rfl rfl rfl (pc' := 5) rfl ?_
    refine T_op zk_124_5 rfl (X_bi (v := 25) (by decide)) (pc' := 7) rfl ?_
    refine T_icmp_ge zk_124_7 (by omega) (by omega) (pc' := 10) rfl (fun h3 => ?_) (fun h4 => ?_)
    ·
      refine T_op zk_124_14 rfl X_ic (pc' := 15) rfl ?_
      exact T_zret zk_124_15 rfl (by omega) (fun σ' h => ⟨_, rfl, (by omega), h.1, trivial⟩)
    ·
      refine T_op zk_124_10 rfl X_ic (pc' := 11) rfl ?_
      refine T_goto zk_124_11 ?_
      exact T_zret zk_124_15 rfl (by omega) (fun σ' h => ⟨_, rfl, (by omega), h.1, trivial⟩)
/-- WModel.isShelf -/
theorem m_125 {xs : Nat × (Nat → Int32)} (p0 : Int) (h0 : -2147483648 ≤ p0 ∧ p0 ≤ 2147483647) (σ : ZS) (hI : Inv σ)   : CT xs 1 125 [iv p0] σ (fun v σ' => ∃ y, v = some (iv y) ∧ ((y = 0 ∧ (p0 < 0 ∨ 7 < p0)) ∨ (y = 1 ∧ 0 ≤ p0 ∧ p0 ≤ 7)) ∧ IF MN σ σ' ∧ (True)) := by
  refine G_ct (J := (fun σ' => IF MN σ σ' ∧ True)) (L := [(0, iv p0)]) (nL := 1) rfl rfl rfl ⟨IF.rf hI, trivial⟩ ?_
  refine T_ld zk_125_0 rfl rfl rfl (pc' := 1) rfl ?_
  refine T_if_lt zk_125_1 (by omega) (pc' := 4) rfl (fun h1 => ?_) (fun h2 => ?_)
  ·
    refine T_op zk_125_14 rfl X_ic (pc' := 15) rfl ?_
    exact T_zret zk_125_15 rfl (by omega) (fun σ' h => ⟨_, rfl, (by omega), h.1, trivial⟩)
  ·
    refine T_ld zk_125_4 rfl rfl rfl (pc' := 5) rfl ?_
    refine T_op zk_125_5 rfl (X_bi (v := 8) (by decide)) (pc' := 7) rfl ?_
    refine T_icmp_ge zk_125_7 (by omega) (by omega) (pc' := 10) rfl (fun h3 => ?_) (fun h4 => ?_)
    ·
      refine T_op zk_125_14 rfl X_ic (pc' := 15) rfl ?_
      exact T_zret zk_125_15 rfl (by omega) (fun σ' h => ⟨_, rfl, (by omega), h.1, trivial⟩)
    ·
      refine T_op zk_125_10 rfl X_ic (pc' := 11) rfl ?_
      refine T_goto zk_125_11 ?_
      exact T_zret zk_125_15 rfl (by omega) (fun σ' h => ⟨_, rfl, (by omega), h.1, trivial⟩)
/-- WModel.way -/
theorem m_126 {xs : Nat × (Nat → Int32)} (p0 : Int) (p1 : Int) (h0 : -2147483648 ≤ p0 ∧ p0 ≤ 2147483647) (h1 : -2147483648 ≤ p1 ∧ p1 ≤ 2147483647) (σ : ZS) (hI : Inv σ)   : CT xs 2 126 [iv p0, iv p1] σ (fun v σ' => ∃ y, v = some (iv y) ∧ ((y = -1 ∧ ¬ (0 ≤ p0 ∧ p0 ≤ 24 ∧ 0 ≤ p1 ∧ p1 ≤ 24 ∧ (p1 = p0 + 5 ∨ p0 = p1 + 5 ∨ (p1 = p0 + 1 ∧ p0 % 5 < 4) ∨ (p0 = p1 + 1 ∧ p1 % 5 < 4)))) ∨ (0 ≤ y ∧ y ≤ 49 ∧ (0 ≤ p0 ∧ p0 ≤ 24 ∧ 0 ≤ p1 ∧ p1 ≤ 24 ∧ (p1 = p0 + 5 ∨ p0 = p1 + 5 ∨ (p1 = p0 + 1 ∧ p0 % 5 < 4) ∨ (p0 = p1 + 1 ∧ p1 % 5 < 4))))) ∧ IF MN σ σ' ∧ (True)) := by
  refine G_ct (J := (fun σ' => IF MN σ σ' ∧ True)) (L := [(0, iv p0), (1, iv p1)]) (nL := 4) rfl rfl rfl ⟨IF.rf hI, trivial⟩ ?_
  refine T_ld zk_126_0 rfl rfl rfl (pc' := 1) rfl ?_
  refine T_calli (K := fun y1 σ' => ((y1 = 0 ∧ (p0 < 0 ∨ 24 < p0)) ∨ (y1 = 1 ∧ 0 ≤ p0 ∧ p0 ≤ 24)) ∧ (fun σ' => IF MN σ σ' ∧ True) σ') (r := []) zk_126_1 rfl rfl rfl rfl rfl rfl (Or.inl (Or.inl rfl)) (fun σ' h => (m_124 p0 (by omega) σ' h.1.1 ).le (Nat.le_of_ble_eq_true rfl) (fun v σ2 ⟨y, h1, h2, h3, h4⟩ => ⟨y, h1, h2, h.1.tr h3 MN_sub, trivial⟩)) (pc' := 4) rfl (fun y1 => ?_)
  refine G_ex (fun hy1 => ?_)
  refine T_if_eq zk_126_4 (by omega) (pc' := 7) rfl (fun h2 => ?_) (fun h3 => ?_)
  ·
    refine T_op zk_126_14 rfl X_ic (pc' := 15) rfl ?_
    exact T_iret zk_126_15 rfl (fun σ' h => ⟨_, rfl, (by omega), h.1, trivial⟩)
  ·
    refine T_ld zk_126_7 rfl rfl rfl (pc' := 8) rfl ?_
    refine T_calli (K := fun y4 σ' => ((y4 = 0 ∧ (p1 < 0 ∨ 24 < p1)) ∨ (y4 = 1 ∧ 0 ≤ p1 ∧ p1 ≤ 24)) ∧ (fun σ' => IF MN σ σ' ∧ True) σ') (r := []) zk_126_8 rfl rfl rfl rfl rfl rfl (Or.inl (Or.inl rfl)) (fun σ' h => (m_124 p1 (by omega) σ' h.1.1 ).le (Nat.le_of_ble_eq_true rfl) (fun v σ2 ⟨y, h1, h2, h3, h4⟩ => ⟨y, h1, h2, h.1.tr h3 MN_sub, trivial⟩)) (pc' := 11) rfl (fun y4 => ?_)
    refine G_ex (fun hy4 => ?_)
    refine T_if_ne zk_126_11 (by omega) (pc' := 14) rfl (fun h5 => ?_) (fun h6 => ?_)
    ·
      refine T_ld zk_126_16 rfl rfl rfl (pc' := 17) rfl ?_
      refine T_ld zk_126_17 rfl rfl rfl (pc' := 18) rfl ?_
      refine T_icmp_ge zk_126_18 (by omega) (by omega) (pc' := 21) rfl (fun h7 => ?_) (fun h8 => ?_)
      ·
        refine T_ld zk_126_25 rfl rfl rfl (pc' := 26) rfl ?_
        refine T_st (L' := [(0, iv p0), (1, iv p1), (2, iv p1)]) zk_126_26 (nL := 4) rfl rfl rfl rfl rfl (pc' := 27) rfl ?_
        refine T_ld zk_126_27 rfl rfl rfl (pc' := 28) rfl ?_
        refine T_ld zk_126_28 rfl rfl rfl (pc' := 29) rfl ?_
        refine T_icmp_ge zk_126_29 (by omega) (by omega) (pc' := 32) rfl (fun h9 => ?_) (fun h10 => ?_)
        ·
          refine T_ld zk_126_36 rfl rfl rfl (pc' := 37) rfl ?_
          refine T_st (L' := [(0, iv p0), (1, iv p1), (2, iv p1), (3, iv p0)]) zk_126_37 (nL := 4) rfl rfl rfl rfl rfl (pc' := 38) rfl ?_
          refine T_ld zk_126_38 rfl rfl rfl (pc' := 39) rfl ?_
          refine T_ld zk_126_39 rfl rfl rfl (pc' := 40) rfl ?_
          refine T_op zk_126_40 rfl X_ic (pc' := 41) rfl ?_
          refine T_op zk_126_41 rfl X_add (pc' := 42) rfl ?_
          refine T_icmp_ne zk_126_42 (by omega) (by omega) (pc' := 45) rfl (fun h11 => ?_) (fun h12 => ?_)
          ·
            refine T_ld zk_126_51 rfl rfl rfl (pc' := 52) rfl ?_
            refine T_ld zk_126_52 rfl rfl rfl (pc' := 53) rfl ?_
            refine T_op zk_126_53 rfl X_ic (pc' := 54) rfl ?_
            refine T_op zk_126_54 rfl X_add (pc' := 55) rfl ?_
            refine T_icmp_ne zk_126_55 (by omega) (by omega) (pc' := 58) rfl (fun h13 => ?_) (fun h14 => ?_)
            ·
              refine T_op zk_126_71 rfl X_ic (pc' := 72) rfl ?_
              exact T_iret zk_126_72 rfl (fun σ' h => ⟨_, rfl, (by omega), h.1, trivial⟩)
            ·
              refine T_ld zk_126_58 rfl rfl rfl (pc' := 59) rfl ?_
              refine T_op zk_126_59 rfl X_ic (pc' := 60) rfl ?_
              refine T_op zk_126_60 rfl (X_rem (by omega) (by omega)) (pc' := 61) rfl ?_
              refine T_op zk_126_61 rfl X_ic (pc' := 62) rfl ?_
              refine T_icmp_ge zk_126_62 (by omega) (by omega) (pc' := 65) rfl (fun h15 => ?_) (fun h16 => ?_)
              ·
                refine T_op zk_126_71 rfl X_ic (pc' := 72) rfl ?_
                exact T_iret zk_126_72 rfl (fun σ' h => ⟨_, rfl, (by omega), h.1, trivial⟩)
              ·
                refine T_op zk_126_65 rfl X_ic (pc' := 66) rfl ?_
                refine T_ld zk_126_66 rfl rfl rfl (pc' := 67) rfl ?_
                refine T_op zk_126_67 rfl X_mul (pc' := 68) rfl ?_
                refine T_goto zk_126_68 ?_
                exact T_iret zk_126_72 rfl (fun σ' h => ⟨_, rfl, (by omega), h.1, trivial⟩)
          ·
            refine T_op zk_126_45 rfl X_ic (pc' := 46) rfl ?_
            refine T_ld zk_126_46 rfl rfl rfl (pc' := 47) rfl ?_
            refine T_op zk_126_47 rfl X_mul (pc' := 48) rfl ?_
            refine T_op zk_126_48 rfl X_ic (pc' := 49) rfl ?_
            refine T_op zk_126_49 rfl X_add (pc' := 50) rfl ?_
            exact T_iret zk_126_50 rfl (fun σ' h => ⟨_, rfl, (by omega), h.1, trivial⟩)
        ·
          refine T_ld zk_126_32 rfl rfl rfl (pc' := 33) rfl ?_
          refine T_goto zk_126_33 ?_
          refine T_st (L' := [(0, iv p0), (1, iv p1), (2, iv p1), (3, iv p1)]) zk_126_37 (nL := 4) rfl rfl rfl rfl rfl (pc' := 38) rfl ?_
          refine T_ld zk_126_38 rfl rfl rfl (pc' := 39) rfl ?_
          refine T_ld zk_126_39 rfl rfl rfl (pc' := 40) rfl ?_
          refine T_op zk_126_40 rfl X_ic (pc' := 41) rfl ?_
          refine T_op zk_126_41 rfl X_add (pc' := 42) rfl ?_
          refine T_icmp_ne zk_126_42 (by omega) (by omega) (pc' := 45) rfl (fun h17 => ?_) (fun h18 => ?_)
          ·
            refine T_ld zk_126_51 rfl rfl rfl (pc' := 52) rfl ?_
            refine T_ld zk_126_52 rfl rfl rfl (pc' := 53) rfl ?_
            refine T_op zk_126_53 rfl X_ic (pc' := 54) rfl ?_
            refine T_op zk_126_54 rfl X_add (pc' := 55) rfl ?_
            refine T_icmp_ne zk_126_55 (by omega) (by omega) (pc' := 58) rfl (fun h19 => ?_) (fun h20 => ?_)
            ·
              refine T_op zk_126_71 rfl X_ic (pc' := 72) rfl ?_
              exact T_iret zk_126_72 rfl (fun σ' h => ⟨_, rfl, (by omega), h.1, trivial⟩)
            ·
              refine T_ld zk_126_58 rfl rfl rfl (pc' := 59) rfl ?_
              refine T_op zk_126_59 rfl X_ic (pc' := 60) rfl ?_
              refine T_op zk_126_60 rfl (X_rem (by omega) (by omega)) (pc' := 61) rfl ?_
              refine T_op zk_126_61 rfl X_ic (pc' := 62) rfl ?_
              refine T_icmp_ge zk_126_62 (by omega) (by omega) (pc' := 65) rfl (fun h21 => ?_) (fun h22 => ?_)
              ·
                refine T_op zk_126_71 rfl X_ic (pc' := 72) rfl ?_
                exact T_iret zk_126_72 rfl (fun σ' h => ⟨_, rfl, (by omega), h.1, trivial⟩)
              ·
                refine T_op zk_126_65 rfl X_ic (pc' := 66) rfl ?_
                refine T_ld zk_126_66 rfl rfl rfl (pc' := 67) rfl ?_
                refine T_op zk_126_67 rfl X_mul (pc' := 68) rfl ?_
                refine T_goto zk_126_68 ?_
                exact T_iret zk_126_72 rfl (fun σ' h => ⟨_, rfl, (by omega), h.1, trivial⟩)
          ·
            refine T_op zk_126_45 rfl X_ic (pc' := 46) rfl ?_
            refine T_ld zk_126_46 rfl rfl rfl (pc' := 47) rfl ?_
            refine T_op zk_126_47 rfl X_mul (pc' := 48) rfl ?_
            refine T_op zk_126_48 rfl X_ic (pc' := 49) rfl ?_
            refine T_op zk_126_49 rfl X_add (pc' := 50) rfl ?_
            exact T_iret zk_126_50 rfl (fun σ' h => ⟨_, rfl, (by omega), h.1, trivial⟩)
      ·
        refine T_ld zk_126_21 rfl rfl rfl (pc' := 22) rfl ?_
        refine T_goto zk_126_22 ?_
        refine T_st (L' := [(0, iv p0), (1, iv p1), (2, iv p0)]) zk_126_26 (nL := 4) rfl rfl rfl rfl rfl (pc' := 27) rfl ?_
        refine T_ld zk_126_27 rfl rfl rfl (pc' := 28) rfl ?_
        refine T_ld zk_126_28 rfl rfl rfl (pc' := 29) rfl ?_
        refine T_icmp_ge zk_126_29 (by omega) (by omega) (pc' := 32) rfl (fun h23 => ?_) (fun h24 => ?_)
        ·
          refine T_ld zk_126_36 rfl rfl rfl (pc' := 37) rfl ?_
          refine T_st (L' := [(0, iv p0), (1, iv p1), (2, iv p0), (3, iv p0)]) zk_126_37 (nL := 4) rfl rfl rfl rfl rfl (pc' := 38) rfl ?_
          refine T_ld zk_126_38 rfl rfl rfl (pc' := 39) rfl ?_
          refine T_ld zk_126_39 rfl rfl rfl (pc' := 40) rfl ?_
          refine T_op zk_126_40 rfl X_ic (pc' := 41) rfl ?_
          refine T_op zk_126_41 rfl X_add (pc' := 42) rfl ?_
          refine T_icmp_ne zk_126_42 (by omega) (by omega) (pc' := 45) rfl (fun h25 => ?_) (fun h26 => ?_)
          ·
            refine T_ld zk_126_51 rfl rfl rfl (pc' := 52) rfl ?_
            refine T_ld zk_126_52 rfl rfl rfl (pc' := 53) rfl ?_
            refine T_op zk_126_53 rfl X_ic (pc' := 54) rfl ?_
            refine T_op zk_126_54 rfl X_add (pc' := 55) rfl ?_
            refine T_icmp_ne zk_126_55 (by omega) (by omega) (pc' := 58) rfl (fun h27 => ?_) (fun h28 => ?_)
            ·
              refine T_op zk_126_71 rfl X_ic (pc' := 72) rfl ?_
              exact T_iret zk_126_72 rfl (fun σ' h => ⟨_, rfl, (by omega), h.1, trivial⟩)
            ·
              refine T_ld zk_126_58 rfl rfl rfl (pc' := 59) rfl ?_
              refine T_op zk_126_59 rfl X_ic (pc' := 60) rfl ?_
              refine T_op zk_126_60 rfl (X_rem (by omega) (by omega)) (pc' := 61) rfl ?_
              refine T_op zk_126_61 rfl X_ic (pc' := 62) rfl ?_
              refine T_icmp_ge zk_126_62 (by omega) (by omega) (pc' := 65) rfl (fun h29 => ?_) (fun h30 => ?_)
              ·
                refine T_op zk_126_71 rfl X_ic (pc' := 72) rfl ?_
                exact T_iret zk_126_72 rfl (fun σ' h => ⟨_, rfl, (by omega), h.1, trivial⟩)
              ·
                refine T_op zk_126_65 rfl X_ic (pc' := 66) rfl ?_
                refine T_ld zk_126_66 rfl rfl rfl (pc' := 67) rfl ?_
                refine T_op zk_126_67 rfl X_mul (pc' := 68) rfl ?_
                refine T_goto zk_126_68 ?_
                exact T_iret zk_126_72 rfl (fun σ' h => ⟨_, rfl, (by omega), h.1, trivial⟩)
          ·
            refine T_op zk_126_45 rfl X_ic (pc' := 46) rfl ?_
            refine T_ld zk_126_46 rfl rfl rfl (pc' := 47) rfl ?_
            refine T_op zk_126_47 rfl X_mul (pc' := 48) rfl ?_
            refine T_op zk_126_48 rfl X_ic (pc' := 49) rfl ?_
            refine T_op zk_126_49 rfl X_add (pc' := 50) rfl ?_
            exact T_iret zk_126_50 rfl (fun σ' h => ⟨_, rfl, (by omega), h.1, trivial⟩)
        ·
          refine T_ld zk_126_32 rfl rfl rfl (pc' := 33) rfl ?_
          refine T_goto zk_126_33 ?_
          refine T_st (L' := [(0, iv p0), (1, iv p1), (2, iv p0), (3, iv p1)]) zk_126_37 (nL := 4) rfl rfl rfl rfl rfl (pc' := 38) rfl ?_
          refine T_ld zk_126_38 rfl rfl rfl (pc' := 39) rfl ?_
          refine T_ld zk_126_39 rfl rfl rfl (pc' := 40) rfl ?_
          refine T_op zk_126_40 rfl X_ic (pc' := 41) rfl ?_
          refine T_op zk_126_41 rfl X_add (pc' := 42) rfl ?_
          refine T_icmp_ne zk_126_42 (by omega) (by omega) (pc' := 45) rfl (fun h31 => ?_) (fun h32 => ?_)
          ·
            refine T_ld zk_126_51 rfl rfl rfl (pc' := 52) rfl ?_
            refine T_ld zk_126_52 rfl rfl rfl (pc' := 53) rfl ?_
            refine T_op zk_126_53 rfl X_ic (pc' := 54) rfl ?_
            refine T_op zk_126_54 rfl X_add (pc' := 55) rfl ?_
            refine T_icmp_ne zk_126_55 (by omega) (by omega) (pc' := 58) rfl (fun h33 => ?_) (fun h34 => ?_)
            ·
              refine T_op zk_126_71 rfl X_ic (pc' := 72) rfl ?_
              exact T_iret zk_126_72 rfl (fun σ' h => ⟨_, rfl, (by omega), h.1, trivial⟩)
            ·
              refine T_ld zk_126_58 rfl rfl rfl (pc' := 59) rfl ?_
              refine T_op zk_126_59 rfl X_ic (pc' := 60) rfl ?_
              refine T_op zk_126_60 rfl (X_rem (by omega) (by omega)) (pc' := 61) rfl ?_
              refine T_op zk_126_61 rfl X_ic (pc' := 62) rfl ?_
              refine T_icmp_ge zk_126_62 (by omega) (by omega) (pc' := 65) rfl (fun h35 => ?_) (fun h36 => ?_)
              ·
                refine T_op zk_126_71 rfl X_ic (pc' := 72) rfl ?_
                exact T_iret zk_126_72 rfl (fun σ' h => ⟨_, rfl, (by omega), h.1, trivial⟩)
              ·
                refine T_op zk_126_65 rfl X_ic (pc' := 66) rfl ?_
                refine T_ld zk_126_66 rfl rfl rfl (pc' := 67) rfl ?_
                refine T_op zk_126_67 rfl X_mul (pc' := 68) rfl ?_
                refine T_goto zk_126_68 ?_
                exact T_iret zk_126_72 rfl (fun σ' h => ⟨_, rfl, (by omega), h.1, trivial⟩)
          ·
            refine T_op zk_126_45 rfl X_ic (pc' := 46) rfl ?_
            refine T_ld zk_126_46 rfl rfl rfl (pc' := 47) rfl ?_
            refine T_op zk_126_47 rfl X_mul (pc' := 48) rfl ?_
            refine T_op zk_126_48 rfl X_ic (pc' := 49) rfl ?_
            refine T_op zk_126_49 rfl X_add (pc' := 50) rfl ?_
            exact T_iret zk_126_50 rfl (fun σ' h => ⟨_, rfl, (by omega), h.1, trivial⟩)
    ·
      refine T_op zk_126_14 rfl X_ic (pc' := 15) rfl ?_
      exact T_iret zk_126_15 rfl (fun σ' h => ⟨_, rfl, (by omega), h.1, trivial⟩)
/-- WModel.turns -/
theorem m_129 {xs : Nat × (Nat → Int32)} (p0 : Int) (p1 : Int) (h0 : 100 ≤ p0 ∧ p0 ≤ 199) (h1 : 0 ≤ p1 ∧ p1 ≤ 1) (σ : ZS) (hI : Inv σ)  (s1 : (∀ j, 100 ≤ j → j < 200 → σ 36 0 0 j = 0)) : CT xs 1 129 [av 35 0 0, iv p0, iv p1] σ (fun v σ' => ∃ y, v = some (iv y) ∧ (y = p1) ∧ IF (MJ 100 200) σ σ' ∧ (True)) := by
  refine G_ct (J := (fun σ' => IF (MJ 100 200) σ σ' ∧ (∀ j, 100 ≤ j → j < 200 → σ' 36 0 0 j = 0) ∧ True)) (L := [(0, av 35 0 0), (1, iv p0), (2, iv p1)]) (nL := 4) rfl rfl rfl ⟨IF.rf hI, s1, trivial⟩ ?_
  refine T_ld zk_129_0 rfl rfl rfl (pc' := 1) rfl ?_
  refine T_if_eq zk_129_1 (by omega) (pc' := 4) rfl (fun h1 => ?_) (fun h2 => ?_)
  ·
    refine T_op zk_129_8 rfl X_ic (pc' := 9) rfl ?_
    refine T_st (L' := [(0, av 35 0 0), (1, iv p0), (2, iv p1), (3, iv 0)]) zk_129_9 (nL := 4) rfl rfl rfl rfl rfl (pc' := 10) rfl ?_
    refine T_ld zk_129_10 rfl rfl rfl (pc' := 11) rfl ?_
    refine T_getR (t' := 36) (i' := 0) (k' := 0) zk_129_11 rfl rfl rfl vd_35 (pc' := 14) rfl ?_
    refine T_ld zk_129_14 rfl rfl rfl (pc' := 15) rfl ?_
    refine G_ialdX (w := 0) (ln := 646) zk_129_15 rfl rfl (vd_36 (by omega)) (by omega) (by omega) (by omega) (fun σ' h => h.2.1 _ (by omega) (by omega)) (pc' := 16) rfl ?_
    refine T_ld zk_129_16 rfl rfl rfl (pc' := 17) rfl ?_
    refine T_icmp_ne zk_129_17 (by omega) (by omega) (pc' := 20) rfl (fun h3 => ?_) (fun h4 => ?_)
    · exfalso; omega
    ·
      refine T_op zk_129_20 rfl X_ic (pc' := 21) rfl ?_
      exact T_iret zk_129_21 rfl (fun σ' h => ⟨_, rfl, (by omega), h.1, trivial⟩)
  ·
    refine T_op zk_129_4 rfl X_ic (pc' := 5) rfl ?_
    refine T_goto zk_129_5 ?_
    refine T_st (L' := [(0, av 35 0 0), (1, iv p0), (2, iv p1), (3, iv 1)]) zk_129_9 (nL := 4) rfl rfl rfl rfl rfl (pc' := 10) rfl ?_
    refine T_ld zk_129_10 rfl rfl rfl (pc' := 11) rfl ?_
    refine T_getR (t' := 36) (i' := 0) (k' := 0) zk_129_11 rfl rfl rfl vd_35 (pc' := 14) rfl ?_
    refine T_ld zk_129_14 rfl rfl rfl (pc' := 15) rfl ?_
    refine G_ialdX (w := 0) (ln := 646) zk_129_15 rfl rfl (vd_36 (by omega)) (by omega) (by omega) (by omega) (fun σ' h => h.2.1 _ (by omega) (by omega)) (pc' := 16) rfl ?_
    refine T_ld zk_129_16 rfl rfl rfl (pc' := 17) rfl ?_
    refine T_icmp_ne zk_129_17 (by omega) (by omega) (pc' := 20) rfl (fun h5 => ?_) (fun h6 => ?_)
    ·
      refine T_ld zk_129_22 rfl rfl rfl (pc' := 23) rfl ?_
      refine T_getR (t' := 36) (i' := 0) (k' := 0) zk_129_23 rfl rfl rfl vd_35 (pc' := 26) rfl ?_
      refine T_ld zk_129_26 rfl rfl rfl (pc' := 27) rfl ?_
      refine T_ld zk_129_27 rfl rfl rfl (pc' := 28) rfl ?_
      refine G_iast (J' := (fun σ' => IF (MJ 100 200) σ σ' ∧ True)) (ln := 646) zk_129_28 rfl rfl (vd_36 (by omega)) (by omega) (by omega) (by omega) (fun σ' h => ⟨h.1.up (by simp only [rgP] <;> omega) (by unfold MJ; omega), trivial⟩) (pc' := 29) rfl ?_
      refine T_op zk_129_29 rfl X_ic (pc' := 30) rfl ?_
      exact T_iret zk_129_30 rfl (fun σ' h => ⟨_, rfl, (by omega), h.1, trivial⟩)
    · exfalso; omega
/-- WModel.isHouse -/
theorem m_139e {xs : Nat × (Nat → Int32)} (p0 : Int) (h0 : -2147483648 ≤ p0 ∧ p0 ≤ 2147483647) (σ : ZS) (hI : Inv σ)  (s1 : σ 36 0 0 641 = 0) : CT xs 1 139 [av 35 0 0, iv p0] σ (fun v σ' => ∃ y, v = some (iv y) ∧ (y = 0) ∧ IF MN σ σ' ∧ (True)) := by
  refine G_ct (J := (fun σ' => IF MN σ σ' ∧ True)) (L := [(0, av 35 0 0), (1, iv p0)]) (nL := 2) rfl rfl rfl ⟨IF.rf hI, trivial⟩ ?_
  refine T_ld zk_139_0 rfl rfl rfl (pc' := 1) rfl ?_
  refine T_if_lt zk_139_1 (by omega) (pc' := 4) rfl (fun h1 => ?_) (fun h2 => ?_)
  ·
    refine T_op zk_139_20 rfl X_ic (pc' := 21) rfl ?_
    exact T_zret zk_139_21 rfl (by omega) (fun σ' h => ⟨_, rfl, (by omega), h.1, trivial⟩)
  ·
    refine T_ld zk_139_4 rfl rfl rfl (pc' := 5) rfl ?_
    refine T_ld zk_139_5 rfl rfl rfl (pc' := 6) rfl ?_
    refine T_getR (t' := 36) (i' := 0) (k' := 0) zk_139_6 rfl rfl rfl vd_35 (pc' := 9) rfl ?_
    refine T_op zk_139_9 rfl (X_si (v := 641) (by decide)) (pc' := 12) rfl ?_
    refine G_ialdX (w := 0) (ln := 646) zk_139_12 rfl rfl (vd_36 (by omega)) (by omega) (by omega) (by omega) (fun σ' h => (h.1.2 _ _ _ _ (fun q => q)).trans s1) (pc' := 13) rfl ?_
    refine T_icmp_ge zk_139_13 (by omega) (by omega) (pc' := 16) rfl (fun h3 => ?_) (fun h4 => ?_)
    ·
      refine T_op zk_139_20 rfl X_ic (pc' := 21) rfl ?_
      exact T_zret zk_139_21 rfl (by omega) (fun σ' h => ⟨_, rfl, (by omega), h.1, trivial⟩)
    · exfalso; omega
/-- WModel.isLaw -/
theorem m_157e {xs : Nat × (Nat → Int32)} (p0 : Int) (h0 : -2147483648 ≤ p0 ∧ p0 ≤ 2147483647) (σ : ZS) (hI : Inv σ)  (s1 : σ 36 0 0 640 = 0) : CT xs 1 157 [av 35 0 0, iv p0] σ (fun v σ' => ∃ y, v = some (iv y) ∧ (y = 0) ∧ IF MN σ σ' ∧ (True)) := by
  refine G_ct (J := (fun σ' => IF MN σ σ' ∧ True)) (L := [(0, av 35 0 0), (1, iv p0)]) (nL := 2) rfl rfl rfl ⟨IF.rf hI, trivial⟩ ?_
  refine T_ld zk_157_0 rfl rfl rfl (pc' := 1) rfl ?_
  refine T_if_lt zk_157_1 (by omega) (pc' := 4) rfl (fun h1 => ?_) (fun h2 => ?_)
  ·
    refine T_op zk_157_20 rfl X_ic (pc' := 21) rfl ?_
    exact T_zret zk_157_21 rfl (by omega) (fun σ' h => ⟨_, rfl, (by omega), h.1, trivial⟩)
  ·
    refine T_ld zk_157_4 rfl rfl rfl (pc' := 5) rfl ?_
    refine T_ld zk_157_5 rfl rfl rfl (pc' := 6) rfl ?_
    refine T_getR (t' := 36) (i' := 0) (k' := 0) zk_157_6 rfl rfl rfl vd_35 (pc' := 9) rfl ?_
    refine T_op zk_157_9 rfl (X_si (v := 640) (by decide)) (pc' := 12) rfl ?_
    refine G_ialdX (w := 0) (ln := 646) zk_157_12 rfl rfl (vd_36 (by omega)) (by omega) (by omega) (by omega) (fun σ' h => (h.1.2 _ _ _ _ (fun q => q)).trans s1) (pc' := 13) rfl ?_
    refine T_icmp_ge zk_157_13 (by omega) (by omega) (pc' := 16) rfl (fun h3 => ?_) (fun h4 => ?_)
    ·
      refine T_op zk_157_20 rfl X_ic (pc' := 21) rfl ?_
      exact T_zret zk_157_21 rfl (by omega) (fun σ' h => ⟨_, rfl, (by omega), h.1, trivial⟩)
    · exfalso; omega
/-- WModel.isBoat -/
theorem m_167e {xs : Nat × (Nat → Int32)} (p0 : Int) (h0 : -2147483648 ≤ p0 ∧ p0 ≤ 2147483647) (σ : ZS) (hI : Inv σ)  (s1 : σ 36 0 0 642 = 0) : CT xs 1 167 [av 35 0 0, iv p0] σ (fun v σ' => ∃ y, v = some (iv y) ∧ (y = 0) ∧ IF MN σ σ' ∧ (True)) := by
  refine G_ct (J := (fun σ' => IF MN σ σ' ∧ True)) (L := [(0, av 35 0 0), (1, iv p0)]) (nL := 2) rfl rfl rfl ⟨IF.rf hI, trivial⟩ ?_
  refine T_ld zk_167_0 rfl rfl rfl (pc' := 1) rfl ?_
  refine T_if_lt zk_167_1 (by omega) (pc' := 4) rfl (fun h1 => ?_) (fun h2 => ?_)
  ·
    refine T_op zk_167_20 rfl X_ic (pc' := 21) rfl ?_
    exact T_zret zk_167_21 rfl (by omega) (fun σ' h => ⟨_, rfl, (by omega), h.1, trivial⟩)
  ·
    refine T_ld zk_167_4 rfl rfl rfl (pc' := 5) rfl ?_
    refine T_ld zk_167_5 rfl rfl rfl (pc' := 6) rfl ?_
    refine T_getR (t' := 36) (i' := 0) (k' := 0) zk_167_6 rfl rfl rfl vd_35 (pc' := 9) rfl ?_
    refine T_op zk_167_9 rfl (X_si (v := 642) (by decide)) (pc' := 12) rfl ?_
    refine G_ialdX (w := 0) (ln := 646) zk_167_12 rfl rfl (vd_36 (by omega)) (by omega) (by omega) (by omega) (fun σ' h => (h.1.2 _ _ _ _ (fun q => q)).trans s1) (pc' := 13) rfl ?_
    refine T_icmp_ge zk_167_13 (by omega) (by omega) (pc' := 16) rfl (fun h3 => ?_) (fun h4 => ?_)
    ·
      refine T_op zk_167_20 rfl X_ic (pc' := 21) rfl ?_
      exact T_zret zk_167_21 rfl (by omega) (fun σ' h => ⟨_, rfl, (by omega), h.1, trivial⟩)
    · exfalso; omega
/-- WModel.wants -/
theorem m_143e {xs : Nat × (Nat → Int32)} (p0 : Int) (h0 : -2147483648 ≤ p0 ∧ p0 ≤ 2147483647) (σ : ZS) (hI : Inv σ)  (s1 : (∀ j, 0 ≤ j → j < 8 → σ 37 0 0 j = 0)) : CT xs 2 143 [av 35 0 0, iv p0] σ (fun v σ' => ∃ y, v = some (iv y) ∧ ((y = -1 ∧ (p0 < 0 ∨ 7 < p0)) ∨ (y = -3 ∧ 0 ≤ p0 ∧ p0 ≤ 7)) ∧ IF MN σ σ' ∧ (True)) := by
  refine G_ct (J := (fun σ' => IF MN σ σ' ∧ True)) (L := [(0, av 35 0 0), (1, iv p0)]) (nL := 2) rfl rfl rfl ⟨IF.rf hI, trivial⟩ ?_
  refine T_ld zk_143_0 rfl rfl rfl (pc' := 1) rfl ?_
  refine T_calli (K := fun y1 σ' => ((y1 = 0 ∧ (p0 < 0 ∨ 7 < p0)) ∨ (y1 = 1 ∧ 0 ≤ p0 ∧ p0 ≤ 7)) ∧ (fun σ' => IF MN σ σ' ∧ True) σ') (r := []) zk_143_1 rfl rfl rfl rfl rfl rfl (Or.inl (Or.inl rfl)) (fun σ' h => (m_125 p0 (by omega) σ' h.1.1 ).le (Nat.le_of_ble_eq_true rfl) (fun v σ2 ⟨y, h1, h2, h3, h4⟩ => ⟨y, h1, h2, h.1.tr h3 MN_sub, trivial⟩)) (pc' := 4) rfl (fun y1 => ?_)
  refine G_ex (fun hy1 => ?_)
  refine T_if_ne zk_143_4 (by omega) (pc' := 7) rfl (fun h2 => ?_) (fun h3 => ?_)
  ·
    refine T_ld zk_143_11 rfl rfl rfl (pc' := 12) rfl ?_
    refine T_getR (t' := 37) (i' := 0) (k' := 0) zk_143_12 rfl rfl rfl vd_35 (pc' := 15) rfl ?_
    refine T_ld zk_143_15 rfl rfl rfl (pc' := 16) rfl ?_
    refine G_ialdX (w := 0) (ln := 8) zk_143_16 rfl rfl vd_37 (by omega) (by omega) (by omega) (fun σ' h => (h.1.2 _ _ _ _ (fun q => q)).trans (s1 _ (by omega) (by omega))) (pc' := 17) rfl ?_
    refine T_op zk_143_17 rfl X_ic (pc' := 18) rfl ?_
    refine T_icmp_ne zk_143_18 (by omega) (by omega) (pc' := 21) rfl (fun h4 => ?_) (fun h5 => ?_)
    ·
      refine T_ld zk_143_26 rfl rfl rfl (pc' := 27) rfl ?_
      refine T_getR (t' := 37) (i' := 0) (k' := 0) zk_143_27 rfl rfl rfl vd_35 (pc' := 30) rfl ?_
      refine T_ld zk_143_30 rfl rfl rfl (pc' := 31) rfl ?_
      refine G_ialdX (w := 0) (ln := 8) zk_143_31 rfl rfl vd_37 (by omega) (by omega) (by omega) (fun σ' h => (h.1.2 _ _ _ _ (fun q => q)).trans (s1 _ (by omega) (by omega))) (pc' := 32) rfl ?_
      refine T_if_ne zk_143_32 (by omega) (pc' := 35) rfl (fun h6 => ?_) (fun h7 => ?_)
      · exfalso; omega
      ·
        refine T_op zk_143_35 rfl (X_bi (v := -3) (by decide)) (pc' := 37) rfl ?_
        refine T_goto zk_143_37 ?_
        exact T_iret zk_143_41 rfl (fun σ' h => ⟨_, rfl, (by omega), h.1, trivial⟩)
    · exfalso; omega
  ·
    refine T_op zk_143_7 rfl X_ic (pc' := 8) rfl ?_
    refine T_goto zk_143_8 ?_
    exact T_iret zk_143_41 rfl (fun σ' h => ⟨_, rfl, (by omega), h.1, trivial⟩)
/-- WModel.seaOf -/
theorem m_145e {xs : Nat × (Nat → Int32)} (p0 : Int) (p1 : Int) (h0 : -2147483648 ≤ p0 ∧ p0 ≤ 2147483647) (h1 : 0 ≤ p1 ∧ p1 ≤ 1) (σ : ZS) (hI : Inv σ)  (s1 : σ 36 0 0 635 = 0) (s2 : σ 36 0 0 636 = 0) : CT xs 1 145 [av 35 0 0, iv p0, iv p1] σ (fun v σ' => ∃ y, v = some (iv y) ∧ (y = 0) ∧ IF MN σ σ' ∧ (True)) := by
  refine G_ct (J := (fun σ' => IF MN σ σ' ∧ True)) (L := [(0, av 35 0 0), (1, iv p0), (2, iv p1)]) (nL := 4) rfl rfl rfl ⟨IF.rf hI, trivial⟩ ?_
  refine T_ld zk_145_0 rfl rfl rfl (pc' := 1) rfl ?_
  refine T_getR (t' := 36) (i' := 0) (k' := 0) zk_145_1 rfl rfl rfl vd_35 (pc' := 4) rfl ?_
  refine T_ld zk_145_4 rfl rfl rfl (pc' := 5) rfl ?_
  refine T_if_eq zk_145_5 (by omega) (pc' := 8) rfl (fun h1 => ?_) (fun h2 => ?_)
  ·
    refine T_op zk_145_14 rfl (X_si (v := 635) (by decide)) (pc' := 17) rfl ?_
    refine G_ialdX (w := 0) (ln := 646) zk_145_17 rfl rfl (vd_36 (by omega)) (by omega) (by omega) (by omega) (fun σ' h => (h.1.2 _ _ _ _ (fun q => q)).trans s1) (pc' := 18) rfl ?_
    refine T_st (L' := [(0, av 35 0 0), (1, iv p0), (2, iv p1), (3, iv 0)]) zk_145_18 (nL := 4) rfl rfl rfl rfl rfl (pc' := 19) rfl ?_
    refine T_ld zk_145_19 rfl rfl rfl (pc' := 20) rfl ?_
    refine T_if_ne zk_145_20 (by omega) (pc' := 23) rfl (fun h3 => ?_) (fun h4 => ?_)
    · exfalso; omega
    ·
      refine T_op zk_145_23 rfl X_ic (pc' := 24) rfl ?_
      refine T_goto zk_145_24 ?_
      exact T_iret zk_145_49 rfl (fun σ' h => ⟨_, rfl, (by omega), h.1, trivial⟩)
  ·
    refine T_op zk_145_8 rfl (X_si (v := 636) (by decide)) (pc' := 11) rfl ?_
    refine T_goto zk_145_11 ?_
    refine G_ialdX (w := 0) (ln := 646) zk_145_17 rfl rfl (vd_36 (by omega)) (by omega) (by omega) (by omega) (fun σ' h => (h.1.2 _ _ _ _ (fun q => q)).trans s2) (pc' := 18) rfl ?_
    refine T_st (L' := [(0, av 35 0 0), (1, iv p0), (2, iv p1), (3, iv 0)]) zk_145_18 (nL := 4) rfl rfl rfl rfl rfl (pc' := 19) rfl ?_
    refine T_ld zk_145_19 rfl rfl rfl (pc' := 20) rfl ?_
    refine T_if_ne zk_145_20 (by omega) (pc' := 23) rfl (fun h5 => ?_) (fun h6 => ?_)
    · exfalso; omega
    ·
      refine T_op zk_145_23 rfl X_ic (pc' := 24) rfl ?_
      refine T_goto zk_145_24 ?_
      exact T_iret zk_145_49 rfl (fun σ' h => ⟨_, rfl, (by omega), h.1, trivial⟩)
/-- WModel.greatest -/
theorem m_159 {xs : Nat × (Nat → Int32)}   (σ : ZS) (hI : Inv σ)   : CT xs 1 159 [av 35 0 0] σ (fun v σ' => ∃ y, v = some (iv y) ∧ (-2147483648 ≤ y ∧ y ≤ 2147483647) ∧ IF MN σ σ' ∧ (True)) := by
  refine G_ct (J := (fun σ' => IF MN σ σ' ∧ True)) (L := [(0, av 35 0 0)]) (nL := 3) rfl rfl rfl ⟨IF.rf hI, trivial⟩ ?_
  refine T_ld zk_159_0 rfl rfl rfl (pc' := 1) rfl ?_
  refine T_getR (t' := 36) (i' := 0) (k' := 0) zk_159_1 rfl rfl rfl vd_35 (pc' := 4) rfl ?_
  refine T_op zk_159_4 rfl (X_bi (v := 25) (by decide)) (pc' := 6) rfl ?_
  refine G_iald (lo := -2147483648) (hi := 2147483647) (ln := 646) zk_159_6 rfl rfl (vd_36 (by omega)) (by omega) (by omega) (by omega) (fun σ' h => h.1.1) (fun _ h => h.1) (pc' := 7) rfl (fun y1 hy1 hy1' => ?_)
  refine T_st (L' := [(0, av 35 0 0), (1, iv y1)]) zk_159_7 (nL := 3) rfl rfl rfl rfl rfl (pc' := 8) rfl ?_
  refine T_op zk_159_8 rfl X_ic (pc' := 9) rfl ?_
  refine T_st (L' := [(0, av 35 0 0), (1, iv y1), (2, iv 1)]) zk_159_9 (nL := 3) rfl rfl rfl rfl rfl (pc' := 10) rfl ?_
  refine T_loop2 (fun x2 x3 => ((25 - x3 : Int)).toNat) (fun x2 x3 => (-2147483648 ≤ x2 ∧ x2 ≤ 2147483647) ∧ (0 ≤ x3 ∧ x3 ≤ 25)) (fun x2 x3 => TJ xs (fun σ' => IF MN σ σ' ∧ True) 0 159 10 [(0, av 35 0 0), (1, iv x2), (2, iv x3)] [] _) ?_ y1 1 (by omega)
  intro x2 x3 hp5 ih4
  refine T_ld zk_159_10 rfl rfl rfl (pc' := 11) rfl ?_
  refine T_op zk_159_11 rfl (X_bi (v := 25) (by decide)) (pc' := 13) rfl ?_
  refine T_icmp_ge zk_159_13 (by omega) (by omega) (pc' := 16) rfl (fun h6 => ?_) (fun h7 => ?_)
  ·
    refine T_ld zk_159_45 rfl rfl rfl (pc' := 46) rfl ?_
    exact T_iret zk_159_46 rfl (fun σ' h => ⟨_, rfl, (by omega), h.1, trivial⟩)
  ·
    refine T_ld zk_159_16 rfl rfl rfl (pc' := 17) rfl ?_
    refine T_getR (t' := 36) (i' := 0) (k' := 0) zk_159_17 rfl rfl rfl vd_35 (pc' := 20) rfl ?_
    refine T_op zk_159_20 rfl (X_bi (v := 25) (by decide)) (pc' := 22) rfl ?_
    refine T_ld zk_159_22 rfl rfl rfl (pc' := 23) rfl ?_
    refine T_op zk_159_23 rfl X_add (pc' := 24) rfl ?_
    refine G_iald (lo := -2147483648) (hi := 2147483647) (ln := 646) zk_159_24 rfl rfl (vd_36 (by omega)) (by omega) (by omega) (by omega) (fun σ' h => h.1.1) (fun _ h => h.1) (pc' := 25) rfl (fun y8 hy8 hy8' => ?_)
    refine T_ld zk_159_25 rfl rfl rfl (pc' := 26) rfl ?_
    refine T_icmp_le zk_159_26 (by omega) (by omega) (pc' := 29) rfl (fun h9 => ?_) (fun h10 => ?_)
    ·
      refine T_iinc (L' := [(0, av 35 0 0), (1, iv x2), (2, iv (x3 + 1))]) zk_159_39 (nL := 3) rfl rfl rfl rfl (pc' := 42) rfl ?_
      refine T_goto zk_159_42 ?_
      exact ih4 x2 (x3 + 1) (by omega) (by omega)
    ·
      refine T_ld zk_159_29 rfl rfl rfl (pc' := 30) rfl ?_
      refine T_getR (t' := 36) (i' := 0) (k' := 0) zk_159_30 rfl rfl rfl vd_35 (pc' := 33) rfl ?_
      refine T_op zk_159_33 rfl (X_bi (v := 25) (by decide)) (pc' := 35) rfl ?_
      refine T_ld zk_159_35 rfl rfl rfl (pc' := 36) rfl ?_
      refine T_op zk_159_36 rfl X_add (pc' := 37) rfl ?_
      refine G_iald (lo := -2147483648) (hi := 2147483647) (ln := 646) zk_159_37 rfl rfl (vd_36 (by omega)) (by omega) (by omega) (by omega) (fun σ' h => h.1.1) (fun _ h => h.1) (pc' := 38) rfl (fun y11 hy11 hy11' => ?_)
      refine T_st (L' := [(0, av 35 0 0), (1, iv y11), (2, iv x3)]) zk_159_38 (nL := 3) rfl rfl rfl rfl rfl (pc' := 39) rfl ?_
      refine T_iinc (L' := [(0, av 35 0 0), (1, iv y11), (2, iv (x3 + 1))]) zk_159_39 (nL := 3) rfl rfl rfl rfl (pc' := 42) rfl ?_
      refine T_goto zk_159_42 ?_
      exact ih4 y11 (x3 + 1) (by omega) (by omega)
/-- WModel.goals -/
theorem m_160e {xs : Nat × (Nat → Int32)}   (σ : ZS) (hI : Inv σ)  (s1 : σ 36 0 0 642 = 0) : CT xs 1 160 [av 35 0 0] σ (fun v σ' => ∃ y, v = some (iv y) ∧ (y = 0) ∧ IF MN σ σ' ∧ (True)) := by
  refine G_ct (J := (fun σ' => IF MN σ σ' ∧ True)) (L := [(0, av 35 0 0)]) (nL := 3) rfl rfl rfl ⟨IF.rf hI, trivial⟩ ?_
  refine T_op zk_160_0 rfl X_ic (pc' := 1) rfl ?_
  refine T_st (L' := [(0, av 35 0 0), (1, iv 0)]) zk_160_1 (nL := 3) rfl rfl rfl rfl rfl (pc' := 2) rfl ?_
  refine T_op zk_160_2 rfl X_ic (pc' := 3) rfl ?_
  refine T_st (L' := [(0, av 35 0 0), (1, iv 0), (2, iv 0)]) zk_160_3 (nL := 3) rfl rfl rfl rfl rfl (pc' := 4) rfl ?_
  refine T_loop2 (fun x1 x2 => ((0 : Int)).toNat) (fun x1 x2 => (0 ≤ x1 ∧ x1 ≤ 0) ∧ (0 ≤ x2 ∧ x2 ≤ 0)) (fun x1 x2 => TJ xs (fun σ' => IF MN σ σ' ∧ True) 0 160 4 [(0, av 35 0 0), (1, iv x1), (2, iv x2)] [] _) ?_ 0 0 (by omega)
  intro x1 x2 hp4 ih3
  refine T_ld zk_160_4 rfl rfl rfl (pc' := 5) rfl ?_
  refine T_ld zk_160_5 rfl rfl rfl (pc' := 6) rfl ?_
  refine T_getR (t' := 36) (i' := 0) (k' := 0) zk_160_6 rfl rfl rfl vd_35 (pc' := 9) rfl ?_
  refine T_op zk_160_9 rfl (X_si (v := 642) (by decide)) (pc' := 12) rfl ?_
  refine G_ialdX (w := 0) (ln := 646) zk_160_12 rfl rfl (vd_36 (by omega)) (by omega) (by omega) (by omega) (fun σ' h => (h.1.2 _ _ _ _ (fun q => q)).trans s1) (pc' := 13) rfl ?_
  refine T_icmp_ge zk_160_13 (by omega) (by omega) (pc' := 16) rfl (fun h5 => ?_) (fun h6 => ?_)
  ·
    refine T_ld zk_160_39 rfl rfl rfl (pc' := 40) rfl ?_
    exact T_iret zk_160_40 rfl (fun σ' h => ⟨_, rfl, (by omega), h.1, trivial⟩)
  · exfalso; omega
