theorem zk_30_0 : zc 30 0 = some (.iload_n 0, 0, 0, 0, 0) := rfl
theorem zk_30_1 : zc 30 1 = some (.invokestatic 43, 115, 3, 1, 48) := rfl
theorem zk_30_4 : zc 30 4 = some (.ifCond .eq 10, 14, 0, 0, 0) := rfl
theorem zk_30_7 : zc 30 7 = some (.iload_n 1, 0, 0, 0, 0) := rfl
theorem zk_30_8 : zc 30 8 = some (.invokestatic 43, 115, 3, 1, 48) := rfl
theorem zk_30_11 : zc 30 11 = some (.ifCond .ne 5, 16, 0, 0, 0) := rfl
theorem zk_30_14 : zc 30 14 = some (.iconst (-1), 0, 0, 0, 0) := rfl
theorem zk_30_15 : zc 30 15 = some (.ireturn, 0, 0, 0, 0) := rfl
theorem zk_30_16 : zc 30 16 = some (.iload_n 0, 0, 0, 0, 0) := rfl
theorem zk_30_17 : zc 30 17 = some (.iload_n 1, 0, 0, 0, 0) := rfl
theorem zk_30_18 : zc 30 18 = some (.invokestatic 47, 0, 8, 0, 49) := rfl
theorem zk_30_21 : zc 30 21 = some (.istore_n 2, 0, 0, 0, 0) := rfl
theorem zk_30_22 : zc 30 22 = some (.iload_n 0, 0, 0, 0, 0) := rfl
theorem zk_30_23 : zc 30 23 = some (.iload_n 1, 0, 0, 0, 0) := rfl
theorem zk_30_24 : zc 30 24 = some (.invokestatic 53, 0, 7, 0, 50) := rfl
theorem zk_30_27 : zc 30 27 = some (.iload_n 2, 0, 0, 0, 0) := rfl
theorem zk_30_28 : zc 30 28 = some (.isub, 0, 0, 0, 0) := rfl
theorem zk_30_29 : zc 30 29 = some (.istore_n 3, 0, 0, 0, 0) := rfl
theorem zk_30_30 : zc 30 30 = some (.iload_n 3, 0, 0, 0, 0) := rfl
theorem zk_30_31 : zc 30 31 = some (.iconst 1, 0, 0, 0, 0) := rfl
theorem zk_30_32 : zc 30 32 = some (.if_icmp .ne 16, 48, 0, 0, 0) := rfl
theorem zk_30_35 : zc 30 35 = some (.iload_n 2, 0, 0, 0, 0) := rfl
theorem zk_30_36 : zc 30 36 = some (.iconst 5, 0, 0, 0, 0) := rfl
theorem zk_30_37 : zc 30 37 = some (.irem, 0, 0, 0, 0) := rfl
theorem zk_30_38 : zc 30 38 = some (.iconst 4, 0, 0, 0, 0) := rfl
theorem zk_30_39 : zc 30 39 = some (.if_icmp .ge 9, 48, 0, 0, 0) := rfl
theorem zk_30_42 : zc 30 42 = some (.iload_n 2, 0, 0, 0, 0) := rfl
theorem zk_30_43 : zc 30 43 = some (.iload_n 2, 0, 0, 0, 0) := rfl
theorem zk_30_44 : zc 30 44 = some (.iconst 5, 0, 0, 0, 0) := rfl
theorem zk_30_45 : zc 30 45 = some (.idiv, 0, 0, 0, 0) := rfl
theorem zk_30_46 : zc 30 46 = some (.isub, 0, 0, 0, 0) := rfl
theorem zk_30_47 : zc 30 47 = some (.ireturn, 0, 0, 0, 0) := rfl
theorem zk_30_48 : zc 30 48 = some (.iload_n 3, 0, 0, 0, 0) := rfl
theorem zk_30_49 : zc 30 49 = some (.iconst 5, 0, 0, 0, 0) := rfl
theorem zk_30_50 : zc 30 50 = some (.if_icmp .ne 10, 60, 0, 0, 0) := rfl
theorem zk_30_53 : zc 30 53 = some (.bipush 20, 0, 0, 0, 0) := rfl
theorem zk_30_55 : zc 30 55 = some (.iload_n 2, 0, 0, 0, 0) := rfl
theorem zk_30_56 : zc 30 56 = some (.iadd, 0, 0, 0, 0) := rfl
theorem zk_30_57 : zc 30 57 = some (.goto 4, 61, 0, 0, 0) := rfl
theorem zk_30_60 : zc 30 60 = some (.iconst (-1), 0, 0, 0, 0) := rfl
theorem zk_30_61 : zc 30 61 = some (.ireturn, 0, 0, 0, 0) := rfl
theorem zk_31_0 : zc 31 0 = some (.iload_n 0, 0, 0, 0, 0) := rfl
theorem zk_31_1 : zc 31 1 = some (.bipush 20, 0, 0, 0, 0) := rfl
theorem zk_31_3 : zc 31 3 = some (.if_icmp .ge 11, 14, 0, 0, 0) := rfl
theorem zk_31_6 : zc 31 6 = some (.iload_n 0, 0, 0, 0, 0) := rfl
theorem zk_31_7 : zc 31 7 = some (.iload_n 0, 0, 0, 0, 0) := rfl
theorem zk_31_8 : zc 31 8 = some (.iconst 4, 0, 0, 0, 0) := rfl
theorem zk_31_9 : zc 31 9 = some (.idiv, 0, 0, 0, 0) := rfl
theorem zk_31_10 : zc 31 10 = some (.iadd, 0, 0, 0, 0) := rfl
theorem zk_31_11 : zc 31 11 = some (.goto 7, 18, 0, 0, 0) := rfl
theorem zk_31_14 : zc 31 14 = some (.iload_n 0, 0, 0, 0, 0) := rfl
theorem zk_31_15 : zc 31 15 = some (.bipush 20, 0, 0, 0, 0) := rfl
theorem zk_31_17 : zc 31 17 = some (.isub, 0, 0, 0, 0) := rfl
theorem zk_31_18 : zc 31 18 = some (.ireturn, 0, 0, 0, 0) := rfl
theorem zk_32_0 : zc 32 0 = some (.iload_n 0, 0, 0, 0, 0) := rfl
theorem zk_32_1 : zc 32 1 = some (.bipush 20, 0, 0, 0, 0) := rfl
theorem zk_32_3 : zc 32 3 = some (.if_icmp .ge 13, 16, 0, 0, 0) := rfl
theorem zk_32_6 : zc 32 6 = some (.iload_n 0, 0, 0, 0, 0) := rfl
theorem zk_32_7 : zc 32 7 = some (.iload_n 0, 0, 0, 0, 0) := rfl
theorem zk_32_8 : zc 32 8 = some (.iconst 4, 0, 0, 0, 0) := rfl
theorem zk_32_9 : zc 32 9 = some (.idiv, 0, 0, 0, 0) := rfl
theorem zk_32_10 : zc 32 10 = some (.iadd, 0, 0, 0, 0) := rfl
theorem zk_32_11 : zc 32 11 = some (.iconst 1, 0, 0, 0, 0) := rfl
theorem zk_32_12 : zc 32 12 = some (.iadd, 0, 0, 0, 0) := rfl
theorem zk_32_13 : zc 32 13 = some (.goto 9, 22, 0, 0, 0) := rfl
theorem zk_32_16 : zc 32 16 = some (.iload_n 0, 0, 0, 0, 0) := rfl
theorem zk_32_17 : zc 32 17 = some (.bipush 20, 0, 0, 0, 0) := rfl
theorem zk_32_19 : zc 32 19 = some (.isub, 0, 0, 0, 0) := rfl
theorem zk_32_20 : zc 32 20 = some (.iconst 5, 0, 0, 0, 0) := rfl
theorem zk_32_21 : zc 32 21 = some (.iadd, 0, 0, 0, 0) := rfl
theorem zk_32_22 : zc 32 22 = some (.ireturn, 0, 0, 0, 0) := rfl
theorem zk_33_0 : zc 33 0 = some (.aload_n 0, 0, 0, 0, 0) := rfl
theorem zk_33_1 : zc 33 1 = some (.getfield 15, 4, 1, 0, 60) := rfl
theorem zk_33_4 : zc 33 4 = some (.iconst 0, 0, 0, 0, 0) := rfl
theorem zk_33_5 : zc 33 5 = some (.iaload, 0, 0, 0, 0) := rfl
theorem zk_33_6 : zc 33 6 = some (.istore_n 1, 0, 0, 0, 0) := rfl
theorem zk_33_7 : zc 33 7 = some (.iconst 1, 0, 0, 0, 0) := rfl
theorem zk_33_8 : zc 33 8 = some (.istore_n 2, 0, 0, 0, 0) := rfl
theorem zk_33_9 : zc 33 9 = some (.iload_n 2, 0, 0, 0, 0) := rfl
theorem zk_33_10 : zc 33 10 = some (.bipush 25, 0, 0, 0, 0) := rfl
theorem zk_33_12 : zc 33 12 = some (.if_icmp .ge 20, 32, 0, 0, 0) := rfl
theorem zk_33_15 : zc 33 15 = some (.iload_n 1, 0, 0, 0, 0) := rfl
theorem zk_33_16 : zc 33 16 = some (.aload_n 0, 0, 0, 0, 0) := rfl
theorem zk_33_17 : zc 33 17 = some (.getfield 15, 4, 1, 0, 60) := rfl
theorem zk_33_20 : zc 33 20 = some (.iload_n 2, 0, 0, 0, 0) := rfl
theorem zk_33_21 : zc 33 21 = some (.iaload, 0, 0, 0, 0) := rfl
theorem zk_33_22 : zc 33 22 = some (.invokestatic 53, 0, 7, 0, 50) := rfl
theorem zk_33_25 : zc 33 25 = some (.istore_n 1, 0, 0, 0, 0) := rfl
theorem zk_33_26 : zc 33 26 = some (.iinc 2 1, 0, 0, 0, 0) := rfl
theorem zk_33_29 : zc 33 29 = some (.goto (-20), 9, 0, 0, 0) := rfl
theorem zk_33_32 : zc 33 32 = some (.iload_n 1, 0, 0, 0, 0) := rfl
theorem zk_33_33 : zc 33 33 = some (.ireturn, 0, 0, 0, 0) := rfl
theorem zk_63_0 : zc 63 0 = some (.iconst 0, 0, 0, 0, 0) := rfl
theorem zk_63_1 : zc 63 1 = some (.istore_n 1, 0, 0, 0, 0) := rfl
theorem zk_63_2 : zc 63 2 = some (.iconst 0, 0, 0, 0, 0) := rfl
theorem zk_63_3 : zc 63 3 = some (.istore_n 2, 0, 0, 0, 0) := rfl
theorem zk_63_4 : zc 63 4 = some (.iload_n 2, 0, 0, 0, 0) := rfl
theorem zk_63_5 : zc 63 5 = some (.aload_n 0, 0, 0, 0, 0) := rfl
theorem zk_63_6 : zc 63 6 = some (.getfield 19, 7, 0, 0, 82) := rfl
theorem zk_63_9 : zc 63 9 = some (.if_icmp .ge 21, 30, 0, 0, 0) := rfl
theorem zk_63_12 : zc 63 12 = some (.aload_n 0, 0, 0, 0, 0) := rfl
theorem zk_63_13 : zc 63 13 = some (.getfield 15, 7, 2, 0, 81) := rfl
theorem zk_63_16 : zc 63 16 = some (.iload_n 2, 0, 0, 0, 0) := rfl
theorem zk_63_17 : zc 63 17 = some (.baload, 0, 0, 0, 0) := rfl
theorem zk_63_18 : zc 63 18 = some (.ifCond .eq 6, 24, 0, 0, 0) := rfl
theorem zk_63_21 : zc 63 21 = some (.iinc 1 1, 0, 0, 0, 0) := rfl
theorem zk_63_24 : zc 63 24 = some (.iinc 2 1, 0, 0, 0, 0) := rfl
theorem zk_63_27 : zc 63 27 = some (.goto (-23), 4, 0, 0, 0) := rfl
theorem zk_63_30 : zc 63 30 = some (.iload_n 1, 0, 0, 0, 0) := rfl
theorem zk_63_31 : zc 63 31 = some (.ireturn, 0, 0, 0, 0) := rfl
theorem zk_114_0 : zc 114 0 = some (.iload_n 0, 0, 0, 0, 0) := rfl
theorem zk_114_1 : zc 114 1 = some (.iload_n 1, 0, 0, 0, 0) := rfl
theorem zk_114_2 : zc 114 2 = some (.if_icmp .lt 12, 14, 0, 0, 0) := rfl
theorem zk_114_5 : zc 114 5 = some (.iload_n 0, 0, 0, 0, 0) := rfl
theorem zk_114_6 : zc 114 6 = some (.iload_n 2, 0, 0, 0, 0) := rfl
theorem zk_114_7 : zc 114 7 = some (.if_icmp .gt 7, 14, 0, 0, 0) := rfl
theorem zk_114_10 : zc 114 10 = some (.iconst 1, 0, 0, 0, 0) := rfl
theorem zk_114_11 : zc 114 11 = some (.goto 4, 15, 0, 0, 0) := rfl
theorem zk_114_14 : zc 114 14 = some (.iconst 0, 0, 0, 0, 0) := rfl
theorem zk_114_15 : zc 114 15 = some (.ireturn, 0, 0, 0, 0) := rfl
theorem zk_115_0 : zc 115 0 = some (.iload_n 0, 0, 0, 0, 0) := rfl
theorem zk_115_1 : zc 115 1 = some (.ifCond .lt 13, 14, 0, 0, 0) := rfl
theorem zk_115_4 : zc 115 4 = some (.iload_n 0, 0, 0, 0, 0) := rfl
theorem zk_115_5 : zc 115 5 = some (.bipush 25, 0, 0, 0, 0) := rfl
theorem zk_115_7 : zc 115 7 = some (.if_icmp .ge 7, 14, 0, 0, 0) := rfl
theorem zk_115_10 : zc 115 10 = some (.iconst 1, 0, 0, 0, 0) := rfl
theorem zk_115_11 : zc 115 11 = some (.goto 4, 15, 0, 0, 0) := rfl
theorem zk_115_14 : zc 115 14 = some (.iconst 0, 0, 0, 0, 0) := rfl
theorem zk_115_15 : zc 115 15 = some (.ireturn, 0, 0, 0, 0) := rfl
theorem zk_116_0 : zc 116 0 = some (.iload_n 0, 0, 0, 0, 0) := rfl
theorem zk_116_1 : zc 116 1 = some (.ifCond .lt 13, 14, 0, 0, 0) := rfl
theorem zk_116_4 : zc 116 4 = some (.iload_n 0, 0, 0, 0, 0) := rfl
theorem zk_116_5 : zc 116 5 = some (.bipush 8, 0, 0, 0, 0) := rfl
theorem zk_116_7 : zc 116 7 = some (.if_icmp .ge 7, 14, 0, 0, 0) := rfl
theorem zk_116_10 : zc 116 10 = some (.iconst 1, 0, 0, 0, 0) := rfl
theorem zk_116_11 : zc 116 11 = some (.goto 4, 15, 0, 0, 0) := rfl
theorem zk_116_14 : zc 116 14 = some (.iconst 0, 0, 0, 0, 0) := rfl
theorem zk_116_15 : zc 116 15 = some (.ireturn, 0, 0, 0, 0) := rfl
theorem zk_124_0 : zc 124 0 = some (.iload_n 0, 0, 0, 0, 0) := rfl
theorem zk_124_1 : zc 124 1 = some (.ifCond .lt 13, 14, 0, 0, 0) := rfl
theorem zk_124_4 : zc 124 4 = some (.iload_n 0, 0, 0, 0, 0) := rfl
theorem zk_124_5 : zc 124 5 = some (.bipush 25, 0, 0, 0, 0) := rfl
theorem zk_124_7 : zc 124 7 = some (.if_icmp .ge 7, 14, 0, 0, 0) := rfl
theorem zk_124_10 : zc 124 10 = some (.iconst 1, 0, 0, 0, 0) := rfl
theorem zk_124_11 : zc 124 11 = some (.goto 4, 15, 0, 0, 0) := rfl
theorem zk_124_14 : zc 124 14 = some (.iconst 0, 0, 0, 0, 0) := rfl
theorem zk_124_15 : zc 124 15 = some (.ireturn, 0, 0, 0, 0) := rfl
theorem zk_126_0 : zc 126 0 = some (.iload_n 0, 0, 0, 0, 0) := rfl
theorem zk_126_1 : zc 126 1 = some (.invokestatic 99, 124, 1, 1, 128) := rfl
theorem zk_126_4 : zc 126 4 = some (.ifCond .eq 10, 14, 0, 0, 0) := rfl
theorem zk_126_7 : zc 126 7 = some (.iload_n 1, 0, 0, 0, 0) := rfl
theorem zk_126_8 : zc 126 8 = some (.invokestatic 99, 124, 1, 1, 128) := rfl
theorem zk_126_11 : zc 126 11 = some (.ifCond .ne 5, 16, 0, 0, 0) := rfl
theorem zk_126_14 : zc 126 14 = some (.iconst (-1), 0, 0, 0, 0) := rfl
theorem zk_126_15 : zc 126 15 = some (.ireturn, 0, 0, 0, 0) := rfl
theorem zk_126_16 : zc 126 16 = some (.iload_n 0, 0, 0, 0, 0) := rfl
theorem zk_126_17 : zc 126 17 = some (.iload_n 1, 0, 0, 0, 0) := rfl
theorem zk_126_18 : zc 126 18 = some (.if_icmp .ge 7, 25, 0, 0, 0) := rfl
theorem zk_126_21 : zc 126 21 = some (.iload_n 0, 0, 0, 0, 0) := rfl
theorem zk_126_22 : zc 126 22 = some (.goto 4, 26, 0, 0, 0) := rfl
theorem zk_126_25 : zc 126 25 = some (.iload_n 1, 0, 0, 0, 0) := rfl
theorem zk_126_26 : zc 126 26 = some (.istore_n 2, 0, 0, 0, 0) := rfl
theorem zk_126_27 : zc 126 27 = some (.iload_n 0, 0, 0, 0, 0) := rfl
theorem zk_126_28 : zc 126 28 = some (.iload_n 1, 0, 0, 0, 0) := rfl
theorem zk_126_29 : zc 126 29 = some (.if_icmp .ge 7, 36, 0, 0, 0) := rfl
theorem zk_126_32 : zc 126 32 = some (.iload_n 1, 0, 0, 0, 0) := rfl
theorem zk_126_33 : zc 126 33 = some (.goto 4, 37, 0, 0, 0) := rfl
theorem zk_126_36 : zc 126 36 = some (.iload_n 0, 0, 0, 0, 0) := rfl
theorem zk_126_37 : zc 126 37 = some (.istore_n 3, 0, 0, 0, 0) := rfl
theorem zk_126_38 : zc 126 38 = some (.iload_n 3, 0, 0, 0, 0) := rfl
theorem zk_126_39 : zc 126 39 = some (.iload_n 2, 0, 0, 0, 0) := rfl
theorem zk_126_40 : zc 126 40 = some (.iconst 5, 0, 0, 0, 0) := rfl
theorem zk_126_41 : zc 126 41 = some (.iadd, 0, 0, 0, 0) := rfl
theorem zk_126_42 : zc 126 42 = some (.if_icmp .ne 9, 51, 0, 0, 0) := rfl
theorem zk_126_45 : zc 126 45 = some (.iconst 2, 0, 0, 0, 0) := rfl
theorem zk_126_46 : zc 126 46 = some (.iload_n 2, 0, 0, 0, 0) := rfl
theorem zk_126_47 : zc 126 47 = some (.imul, 0, 0, 0, 0) := rfl
theorem zk_126_48 : zc 126 48 = some (.iconst 1, 0, 0, 0, 0) := rfl
theorem zk_126_49 : zc 126 49 = some (.iadd, 0, 0, 0, 0) := rfl
theorem zk_126_50 : zc 126 50 = some (.ireturn, 0, 0, 0, 0) := rfl
theorem zk_126_51 : zc 126 51 = some (.iload_n 3, 0, 0, 0, 0) := rfl
theorem zk_126_52 : zc 126 52 = some (.iload_n 2, 0, 0, 0, 0) := rfl
theorem zk_126_53 : zc 126 53 = some (.iconst 1, 0, 0, 0, 0) := rfl
theorem zk_126_54 : zc 126 54 = some (.iadd, 0, 0, 0, 0) := rfl
theorem zk_126_55 : zc 126 55 = some (.if_icmp .ne 16, 71, 0, 0, 0) := rfl
theorem zk_126_58 : zc 126 58 = some (.iload_n 2, 0, 0, 0, 0) := rfl
theorem zk_126_59 : zc 126 59 = some (.iconst 5, 0, 0, 0, 0) := rfl
theorem zk_126_60 : zc 126 60 = some (.irem, 0, 0, 0, 0) := rfl
theorem zk_126_61 : zc 126 61 = some (.iconst 4, 0, 0, 0, 0) := rfl
theorem zk_126_62 : zc 126 62 = some (.if_icmp .ge 9, 71, 0, 0, 0) := rfl
theorem zk_126_65 : zc 126 65 = some (.iconst 2, 0, 0, 0, 0) := rfl
theorem zk_126_66 : zc 126 66 = some (.iload_n 2, 0, 0, 0, 0) := rfl
theorem zk_126_67 : zc 126 67 = some (.imul, 0, 0, 0, 0) := rfl
theorem zk_126_68 : zc 126 68 = some (.goto 4, 72, 0, 0, 0) := rfl
theorem zk_126_71 : zc 126 71 = some (.iconst (-1), 0, 0, 0, 0) := rfl
theorem zk_126_72 : zc 126 72 = some (.ireturn, 0, 0, 0, 0) := rfl
theorem zk_171_0 : zc 171 0 = some (.iload_n 1, 0, 0, 0, 0) := rfl
theorem zk_171_1 : zc 171 1 = some (.ifCond .ne 9, 10, 0, 0, 0) := rfl
theorem zk_171_4 : zc 171 4 = some (.iload_n 0, 0, 0, 0, 0) := rfl
theorem zk_171_5 : zc 171 5 = some (.iconst 5, 0, 0, 0, 0) := rfl
theorem zk_171_6 : zc 171 6 = some (.isub, 0, 0, 0, 0) := rfl
theorem zk_171_7 : zc 171 7 = some (.goto 28, 35, 0, 0, 0) := rfl
theorem zk_171_10 : zc 171 10 = some (.iload_n 1, 0, 0, 0, 0) := rfl
theorem zk_171_11 : zc 171 11 = some (.iconst 1, 0, 0, 0, 0) := rfl
theorem zk_171_12 : zc 171 12 = some (.if_icmp .ne 9, 21, 0, 0, 0) := rfl
theorem zk_171_15 : zc 171 15 = some (.iload_n 0, 0, 0, 0, 0) := rfl
theorem zk_171_16 : zc 171 16 = some (.iconst 1, 0, 0, 0, 0) := rfl
theorem zk_171_17 : zc 171 17 = some (.isub, 0, 0, 0, 0) := rfl
theorem zk_171_18 : zc 171 18 = some (.goto 17, 35, 0, 0, 0) := rfl
theorem zk_171_21 : zc 171 21 = some (.iload_n 1, 0, 0, 0, 0) := rfl
theorem zk_171_22 : zc 171 22 = some (.iconst 2, 0, 0, 0, 0) := rfl
theorem zk_171_23 : zc 171 23 = some (.if_icmp .ne 9, 32, 0, 0, 0) := rfl
theorem zk_171_26 : zc 171 26 = some (.iload_n 0, 0, 0, 0, 0) := rfl
theorem zk_171_27 : zc 171 27 = some (.iconst 1, 0, 0, 0, 0) := rfl
theorem zk_171_28 : zc 171 28 = some (.iadd, 0, 0, 0, 0) := rfl
theorem zk_171_29 : zc 171 29 = some (.goto 6, 35, 0, 0, 0) := rfl
theorem zk_171_32 : zc 171 32 = some (.iload_n 0, 0, 0, 0, 0) := rfl
theorem zk_171_33 : zc 171 33 = some (.iconst 5, 0, 0, 0, 0) := rfl
theorem zk_171_34 : zc 171 34 = some (.iadd, 0, 0, 0, 0) := rfl
theorem zk_171_35 : zc 171 35 = some (.ireturn, 0, 0, 0, 0) := rfl
/-- W$Lagoon.lowEnd -/
theorem c_31 {xs : Nat × (Nat → Int32)} (p0 : Int) (h0 : 0 ≤ p0 ∧ p0 ≤ 39) (σ : ZS) (hI : Inv σ)   : CT xs 1 31 [iv p0] σ (fun v σ' => ∃ y, v = some (iv y) ∧ (0 ≤ y ∧ y ≤ 24) ∧ IF MN σ σ' ∧ (True)) := by
  refine G_ct (J := (fun σ' => IF MN σ σ' ∧ True)) (L := [(0, iv p0)]) (nL := 1) rfl rfl rfl ⟨IF.rf hI, trivial⟩ ?_
  refine T_ld zk_31_0 rfl rfl rfl (pc' := 1) rfl ?_
  refine T_op zk_31_1 rfl (X_bi (v := 20) (by decide)) (pc' := 3) rfl ?_
  refine T_icmp_ge zk_31_3 (by omega) (by omega) (pc' := 6) rfl (fun h1 => ?_) (fun h2 => ?_)
  ·
    refine T_ld zk_31_14 rfl rfl rfl (pc' := 15) rfl ?_
    refine T_op zk_31_15 rfl (X_bi (v := 20) (by decide)) (pc' := 17) rfl ?_
    refine T_op zk_31_17 rfl X_sub (pc' := 18) rfl ?_
    exact T_iret zk_31_18 rfl (fun σ' h => ⟨_, rfl, (by omega), h.1, trivial⟩)
  ·
    refine T_ld zk_31_6 rfl rfl rfl (pc' := 7) rfl ?_
    refine T_ld zk_31_7 rfl rfl rfl (pc' := 8) rfl ?_
    refine T_op zk_31_8 rfl X_ic (pc' := 9) rfl ?_
    refine T_op zk_31_9 rfl (X_div (by omega) (by omega)) (pc' := 10) rfl ?_
    refine T_op zk_31_10 rfl X_add (pc' := 11) rfl ?_
    refine T_goto zk_31_11 ?_
    exact T_iret zk_31_18 rfl (fun σ' h => ⟨_, rfl, (by omega), h.1, trivial⟩)
/-- W$Lagoon.highEnd -/
theorem c_32 {xs : Nat × (Nat → Int32)} (p0 : Int) (h0 : 0 ≤ p0 ∧ p0 ≤ 39) (σ : ZS) (hI : Inv σ)   : CT xs 1 32 [iv p0] σ (fun v σ' => ∃ y, v = some (iv y) ∧ (0 ≤ y ∧ y ≤ 24) ∧ IF MN σ σ' ∧ (True)) := by
  refine G_ct (J := (fun σ' => IF MN σ σ' ∧ True)) (L := [(0, iv p0)]) (nL := 1) rfl rfl rfl ⟨IF.rf hI, trivial⟩ ?_
  refine T_ld zk_32_0 rfl rfl rfl (pc' := 1) rfl ?_
  refine T_op zk_32_1 rfl (X_bi (v := 20) (by decide)) (pc' := 3) rfl ?_
  refine T_icmp_ge zk_32_3 (by omega) (by omega) (pc' := 6) rfl (fun h1 => ?_) (fun h2 => ?_)
  ·
    refine T_ld zk_32_16 rfl rfl rfl (pc' := 17) rfl ?_
    refine T_op zk_32_17 rfl (X_bi (v := 20) (by decide)) (pc' := 19) rfl ?_
    refine T_op zk_32_19 rfl X_sub (pc' := 20) rfl ?_
    refine T_op zk_32_20 rfl X_ic (pc' := 21) rfl ?_
    refine T_op zk_32_21 rfl X_add (pc' := 22) rfl ?_
    exact T_iret zk_32_22 rfl (fun σ' h => ⟨_, rfl, (by omega), h.1, trivial⟩)
  ·
    refine T_ld zk_32_6 rfl rfl rfl (pc' := 7) rfl ?_
    refine T_ld zk_32_7 rfl rfl rfl (pc' := 8) rfl ?_
    refine T_op zk_32_8 rfl X_ic (pc' := 9) rfl ?_
    refine T_op zk_32_9 rfl (X_div (by omega) (by omega)) (pc' := 10) rfl ?_
    refine T_op zk_32_10 rfl X_add (pc' := 11) rfl ?_
    refine T_op zk_32_11 rfl X_ic (pc' := 12) rfl ?_
    refine T_op zk_32_12 rfl X_add (pc' := 13) rfl ?_
    refine T_goto zk_32_13 ?_
    exact T_iret zk_32_22 rfl (fun σ' h => ⟨_, rfl, (by omega), h.1, trivial⟩)
/-- W.isCell -/
theorem c_115 {xs : Nat × (Nat → Int32)} (p0 : Int) (h0 : -2147483648 ≤ p0 ∧ p0 ≤ 2147483647) (σ : ZS) (hI : Inv σ)   : CT xs 1 115 [iv p0] σ (fun v σ' => ∃ y, v = some (iv y) ∧ ((y = 0 ∧ (p0 < 0 ∨ 24 < p0)) ∨ (y = 1 ∧ 0 ≤ p0 ∧ p0 ≤ 24)) ∧ IF MN σ σ' ∧ (True)) := by
  refine G_ct (J := (fun σ' => IF MN σ σ' ∧ True)) (L := [(0, iv p0)]) (nL := 1) rfl rfl rfl ⟨IF.rf hI, trivial⟩ ?_
  refine T_ld zk_115_0 rfl rfl rfl (pc' := 1) rfl ?_
  refine T_if_lt zk_115_1 (by omega) (pc' := 4) rfl (fun h1 => ?_) (fun h2 => ?_)
  ·
    refine T_op zk_115_14 rfl X_ic (pc' := 15) rfl ?_
    exact T_zret zk_115_15 rfl (by omega) (fun σ' h => ⟨_, rfl, (by omega), h.1, trivial⟩)
  ·
    refine T_ld zk_115_4 rfl rfl rfl (pc' := 5) rfl ?_
    refine T_op zk_115_5 rfl (X_bi (v := 25) (by decide)) (pc' := 7) rfl ?_
    refine T_icmp_ge zk_115_7 (by omega) (by omega) (pc' := 10) rfl (fun h3 => ?_) (fun h4 => ?_)
    ·
      refine T_op zk_115_14 rfl X_ic (pc' := 15) rfl ?_
      exact T_zret zk_115_15 rfl (by omega) (fun σ' h => ⟨_, rfl, (by omega), h.1, trivial⟩)
    ·
      refine T_op zk_115_10 rfl X_ic (pc' := 11) rfl ?_
      refine T_goto zk_115_11 ?_
      exact T_zret zk_115_15 rfl (by omega) (fun σ' h => ⟨_, rfl, (by omega), h.1, trivial⟩)
/-- W.isShelf -/
theorem c_116 {xs : Nat × (Nat → Int32)} (p0 : Int) (h0 : -2147483648 ≤ p0 ∧ p0 ≤ 2147483647) (σ : ZS) (hI : Inv σ)   : CT xs 1 116 [iv p0] σ (fun v σ' => ∃ y, v = some (iv y) ∧ ((y = 0 ∧ (p0 < 0 ∨ 7 < p0)) ∨ (y = 1 ∧ 0 ≤ p0 ∧ p0 ≤ 7)) ∧ IF MN σ σ' ∧ (True)) := by
  refine G_ct (J := (fun σ' => IF MN σ σ' ∧ True)) (L := [(0, iv p0)]) (nL := 1) rfl rfl rfl ⟨IF.rf hI, trivial⟩ ?_
  refine T_ld zk_116_0 rfl rfl rfl (pc' := 1) rfl ?_
  refine T_if_lt zk_116_1 (by omega) (pc' := 4) rfl (fun h1 => ?_) (fun h2 => ?_)
  ·
    refine T_op zk_116_14 rfl X_ic (pc' := 15) rfl ?_
    exact T_zret zk_116_15 rfl (by omega) (fun σ' h => ⟨_, rfl, (by omega), h.1, trivial⟩)
  ·
    refine T_ld zk_116_4 rfl rfl rfl (pc' := 5) rfl ?_
    refine T_op zk_116_5 rfl (X_bi (v := 8) (by decide)) (pc' := 7) rfl ?_
    refine T_icmp_ge zk_116_7 (by omega) (by omega) (pc' := 10) rfl (fun h3 => ?_) (fun h4 => ?_)
    ·
      refine T_op zk_116_14 rfl X_ic (pc' := 15) rfl ?_
      exact T_zret zk_116_15 rfl (by omega) (fun σ' h => ⟨_, rfl, (by omega), h.1, trivial⟩)
    ·
      refine T_op zk_116_10 rfl X_ic (pc' := 11) rfl ?_
      refine T_goto zk_116_11 ?_
      exact T_zret zk_116_15 rfl (by omega) (fun σ' h => ⟨_, rfl, (by omega), h.1, trivial⟩)
/-- W.isWithin -/
theorem c_114 {xs : Nat × (Nat → Int32)} (p0 : Int) (p1 : Int) (p2 : Int) (h0 : -2147483648 ≤ p0 ∧ p0 ≤ 2147483647) (h1 : -2147483648 ≤ p1 ∧ p1 ≤ 2147483647) (h2 : -2147483648 ≤ p2 ∧ p2 ≤ 2147483647) (σ : ZS) (hI : Inv σ)   : CT xs 1 114 [iv p0, iv p1, iv p2] σ (fun v σ' => ∃ y, v = some (iv y) ∧ ((y = 0 ∧ (p0 < p1 ∨ p2 < p0)) ∨ (y = 1 ∧ p1 ≤ p0 ∧ p0 ≤ p2)) ∧ IF MN σ σ' ∧ (True)) := by
  refine G_ct (J := (fun σ' => IF MN σ σ' ∧ True)) (L := [(0, iv p0), (1, iv p1), (2, iv p2)]) (nL := 3) rfl rfl rfl ⟨IF.rf hI, trivial⟩ ?_
  refine T_ld zk_114_0 rfl rfl rfl (pc' := 1) rfl ?_
  refine T_ld zk_114_1 rfl rfl rfl (pc' := 2) rfl ?_
  refine T_icmp_lt zk_114_2 (by omega) (by omega) (pc' := 5) rfl (fun h1 => ?_) (fun h2 => ?_)
  ·
    refine T_op zk_114_14 rfl X_ic (pc' := 15) rfl ?_
    exact T_zret zk_114_15 rfl (by omega) (fun σ' h => ⟨_, rfl, (by omega), h.1, trivial⟩)
  ·
    refine T_ld zk_114_5 rfl rfl rfl (pc' := 6) rfl ?_
    refine T_ld zk_114_6 rfl rfl rfl (pc' := 7) rfl ?_
    refine T_icmp_gt zk_114_7 (by omega) (by omega) (pc' := 10) rfl (fun h3 => ?_) (fun h4 => ?_)
    ·
      refine T_op zk_114_14 rfl X_ic (pc' := 15) rfl ?_
      exact T_zret zk_114_15 rfl (by omega) (fun σ' h => ⟨_, rfl, (by omega), h.1, trivial⟩)
    ·
      refine T_op zk_114_10 rfl X_ic (pc' := 11) rfl ?_
      refine T_goto zk_114_11 ?_
      exact T_zret zk_114_15 rfl (by omega) (fun σ' h => ⟨_, rfl, (by omega), h.1, trivial⟩)
/-- W$Lagoon.wayBetween -/
theorem c_30 {xs : Nat × (Nat → Int32)} (p0 : Int) (p1 : Int) (h0 : -2147483648 ≤ p0 ∧ p0 ≤ 2147483647) (h1 : -2147483648 ≤ p1 ∧ p1 ≤ 2147483647) (σ : ZS) (hI : Inv σ)   : CT xs 2 30 [iv p0, iv p1] σ (fun v σ' => ∃ y, v = some (iv y) ∧ (-1 ≤ y ∧ y ≤ 39) ∧ IF MN σ σ' ∧ (True)) := by
  refine G_ct (J := (fun σ' => IF MN σ σ' ∧ True)) (L := [(0, iv p0), (1, iv p1)]) (nL := 4) rfl rfl rfl ⟨IF.rf hI, trivial⟩ ?_
  refine T_ld zk_30_0 rfl rfl rfl (pc' := 1) rfl ?_
  refine T_calli (K := fun y1 σ' => ((y1 = 0 ∧ (p0 < 0 ∨ 24 < p0)) ∨ (y1 = 1 ∧ 0 ≤ p0 ∧ p0 ≤ 24)) ∧ (fun σ' => IF MN σ σ' ∧ True) σ') (r := []) zk_30_1 rfl rfl rfl rfl rfl rfl (Or.inl (Or.inr rfl)) (fun σ' h => (c_115 p0 (by omega) σ' h.1.1 ).le (Nat.le_of_ble_eq_true rfl) (fun v σ2 ⟨y, h1, h2, h3, h4⟩ => ⟨y, h1, h2, h.1.tr h3 MN_sub, trivial⟩)) (pc' := 4) rfl (fun y1 => ?_)
  refine G_ex (fun hy1 => ?_)
  refine T_if_eq zk_30_4 (by omega) (pc' := 7) rfl (fun h2 => ?_) (fun h3 => ?_)
  ·
    refine T_op zk_30_14 rfl X_ic (pc' := 15) rfl ?_
    exact T_iret zk_30_15 rfl (fun σ' h => ⟨_, rfl, (by omega), h.1, trivial⟩)
  ·
    refine T_ld zk_30_7 rfl rfl rfl (pc' := 8) rfl ?_
    refine T_calli (K := fun y4 σ' => ((y4 = 0 ∧ (p1 < 0 ∨ 24 < p1)) ∨ (y4 = 1 ∧ 0 ≤ p1 ∧ p1 ≤ 24)) ∧ (fun σ' => IF MN σ σ' ∧ True) σ') (r := []) zk_30_8 rfl rfl rfl rfl rfl rfl (Or.inl (Or.inr rfl)) (fun σ' h => (c_115 p1 (by omega) σ' h.1.1 ).le (Nat.le_of_ble_eq_true rfl) (fun v σ2 ⟨y, h1, h2, h3, h4⟩ => ⟨y, h1, h2, h.1.tr h3 MN_sub, trivial⟩)) (pc' := 11) rfl (fun y4 => ?_)
    refine G_ex (fun hy4 => ?_)
    refine T_if_ne zk_30_11 (by omega) (pc' := 14) rfl (fun h5 => ?_) (fun h6 => ?_)
    ·
      refine T_ld zk_30_16 rfl rfl rfl (pc' := 17) rfl ?_
      refine T_ld zk_30_17 rfl rfl rfl (pc' := 18) rfl ?_
      refine T_min zk_30_18 rfl (by omega) (by omega) rfl (pc' := 21) rfl (fun y7 hy7 hy7' ey7 => ?_)
      refine T_st (L' := [(0, iv p0), (1, iv p1), (2, iv y7)]) zk_30_21 (nL := 4) rfl rfl rfl rfl rfl (pc' := 22) rfl ?_
      refine T_ld zk_30_22 rfl rfl rfl (pc' := 23) rfl ?_
      refine T_ld zk_30_23 rfl rfl rfl (pc' := 24) rfl ?_
      refine T_max zk_30_24 rfl (by omega) (by omega) rfl (pc' := 27) rfl (fun y8 hy8 hy8' ey8 => ?_)
      refine T_ld zk_30_27 rfl rfl rfl (pc' := 28) rfl ?_
      refine T_op zk_30_28 rfl X_sub (pc' := 29) rfl ?_
      refine T_st (L' := [(0, iv p0), (1, iv p1), (2, iv y7), (3, iv (y8 - y7))]) zk_30_29 (nL := 4) rfl rfl rfl rfl rfl (pc' := 30) rfl ?_
      refine T_ld zk_30_30 rfl rfl rfl (pc' := 31) rfl ?_
      refine T_op zk_30_31 rfl X_ic (pc' := 32) rfl ?_
      refine T_icmp_ne zk_30_32 (by omega) (by omega) (pc' := 35) rfl (fun h9 => ?_) (fun h10 => ?_)
      ·
        refine T_ld zk_30_48 rfl rfl rfl (pc' := 49) rfl ?_
        refine T_op zk_30_49 rfl X_ic (pc' := 50) rfl ?_
        refine T_icmp_ne zk_30_50 (by omega) (by omega) (pc' := 53) rfl (fun h11 => ?_) (fun h12 => ?_)
        ·
          refine T_op zk_30_60 rfl X_ic (pc' := 61) rfl ?_
          exact T_iret zk_30_61 rfl (fun σ' h => ⟨_, rfl, (by omega), h.1, trivial⟩)
        ·
          refine T_op zk_30_53 rfl (X_bi (v := 20) (by decide)) (pc' := 55) rfl ?_
          refine T_ld zk_30_55 rfl rfl rfl (pc' := 56) rfl ?_
          refine T_op zk_30_56 rfl X_add (pc' := 57) rfl ?_
          refine T_goto zk_30_57 ?_
          exact T_iret zk_30_61 rfl (fun σ' h => ⟨_, rfl, (by omega), h.1, trivial⟩)
      ·
        refine T_ld zk_30_35 rfl rfl rfl (pc' := 36) rfl ?_
        refine T_op zk_30_36 rfl X_ic (pc' := 37) rfl ?_
        refine T_op zk_30_37 rfl (X_rem (by omega) (by omega)) (pc' := 38) rfl ?_
        refine T_op zk_30_38 rfl X_ic (pc' := 39) rfl ?_
        refine T_icmp_ge zk_30_39 (by omega) (by omega) (pc' := 42) rfl (fun h13 => ?_) (fun h14 => ?_)
        ·
          refine T_ld zk_30_48 rfl rfl rfl (pc' := 49) rfl ?_
          refine T_op zk_30_49 rfl X_ic (pc' := 50) rfl ?_
          refine T_icmp_ne zk_30_50 (by omega) (by omega) (pc' := 53) rfl (fun h15 => ?_) (fun h16 => ?_)
          ·
            refine T_op zk_30_60 rfl X_ic (pc' := 61) rfl ?_
            exact T_iret zk_30_61 rfl (fun σ' h => ⟨_, rfl, (by omega), h.1, trivial⟩)
          · exfalso; omega
        ·
          refine T_ld zk_30_42 rfl rfl rfl (pc' := 43) rfl ?_
          refine T_ld zk_30_43 rfl rfl rfl (pc' := 44) rfl ?_
          refine T_op zk_30_44 rfl X_ic (pc' := 45) rfl ?_
          refine T_op zk_30_45 rfl (X_div (by omega) (by omega)) (pc' := 46) rfl ?_
          refine T_op zk_30_46 rfl X_sub (pc' := 47) rfl ?_
          exact T_iret zk_30_47 rfl (fun σ' h => ⟨_, rfl, (by omega), h.1, trivial⟩)
    ·
      refine T_op zk_30_14 rfl X_ic (pc' := 15) rfl ?_
      exact T_iret zk_30_15 rfl (fun σ' h => ⟨_, rfl, (by omega), h.1, trivial⟩)
/-- WModel.beside -/
theorem c_171 {xs : Nat × (Nat → Int32)} (p0 : Int) (p1 : Int) (h0 : 0 ≤ p0 ∧ p0 ≤ 24) (h1 : 0 ≤ p1 ∧ p1 ≤ 3) (σ : ZS) (hI : Inv σ)   : CT xs 1 171 [iv p0, iv p1] σ (fun v σ' => ∃ y, v = some (iv y) ∧ (-5 ≤ y ∧ y ≤ 29) ∧ IF MN σ σ' ∧ (True)) := by
  refine G_ct (J := (fun σ' => IF MN σ σ' ∧ True)) (L := [(0, iv p0), (1, iv p1)]) (nL := 2) rfl rfl rfl ⟨IF.rf hI, trivial⟩ ?_
  refine T_ld zk_171_0 rfl rfl rfl (pc' := 1) rfl ?_
  refine T_if_ne zk_171_1 (by omega) (pc' := 4) rfl (fun h1 => ?_) (fun h2 => ?_)
  ·
    refine T_ld zk_171_10 rfl rfl rfl (pc' := 11) rfl ?_
    refine T_op zk_171_11 rfl X_ic (pc' := 12) rfl ?_
    refine T_icmp_ne zk_171_12 (by omega) (by omega) (pc' := 15) rfl (fun h3 => ?_) (fun h4 => ?_)
    ·
      refine T_ld zk_171_21 rfl rfl rfl (pc' := 22) rfl ?_
      refine T_op zk_171_22 rfl X_ic (pc' := 23) rfl ?_
      refine T_icmp_ne zk_171_23 (by omega) (by omega) (pc' := 26) rfl (fun h5 => ?_) (fun h6 => ?_)
      ·
        refine T_ld zk_171_32 rfl rfl rfl (pc' := 33) rfl ?_
        refine T_op zk_171_33 rfl X_ic (pc' := 34) rfl ?_
        refine T_op zk_171_34 rfl X_add (pc' := 35) rfl ?_
        exact T_iret zk_171_35 rfl (fun σ' h => ⟨_, rfl, (by omega), h.1, trivial⟩)
      ·
        refine T_ld zk_171_26 rfl rfl rfl (pc' := 27) rfl ?_
        refine T_op zk_171_27 rfl X_ic (pc' := 28) rfl ?_
        refine T_op zk_171_28 rfl X_add (pc' := 29) rfl ?_
        refine T_goto zk_171_29 ?_
        exact T_iret zk_171_35 rfl (fun σ' h => ⟨_, rfl, (by omega), h.1, trivial⟩)
    ·
      refine T_ld zk_171_15 rfl rfl rfl (pc' := 16) rfl ?_
      refine T_op zk_171_16 rfl X_ic (pc' := 17) rfl ?_
      refine T_op zk_171_17 rfl X_sub (pc' := 18) rfl ?_
      refine T_goto zk_171_18 ?_
      exact T_iret zk_171_35 rfl (fun σ' h => ⟨_, rfl, (by omega), h.1, trivial⟩)
  ·
    refine T_ld zk_171_4 rfl rfl rfl (pc' := 5) rfl ?_
    refine T_op zk_171_5 rfl X_ic (pc' := 6) rfl ?_
    refine T_op zk_171_6 rfl X_sub (pc' := 7) rfl ?_
    refine T_goto zk_171_7 ?_
    exact T_iret zk_171_35 rfl (fun σ' h => ⟨_, rfl, (by omega), h.1, trivial⟩)
/-- WModel.isCell -/
theorem c_124 {xs : Nat × (Nat → Int32)} (p0 : Int) (h0 : -2147483648 ≤ p0 ∧ p0 ≤ 2147483647) (σ : ZS) (hI : Inv σ)   : CT xs 1 124 [iv p0] σ (fun v σ' => ∃ y, v = some (iv y) ∧ ((y = 0 ∧ (p0 < 0 ∨ 24 < p0)) ∨ (y = 1 ∧ 0 ≤ p0 ∧ p0 ≤ 24)) ∧ IF MN σ σ' ∧ (True)) := by
  refine G_ct (J := (fun σ' => IF MN σ σ' ∧ True)) (L := [(0, iv p0)]) (nL := 1) rfl rfl rfl ⟨IF.rf hI, trivial⟩ ?_
  refine T_ld zk_124_0 rfl rfl rfl (pc' := 1) rfl ?_
  refine T_if_lt zk_124_1 (by omega) (pc' := 4) rfl (fun h1 => ?_) (fun h2 => ?_)
  ·
    refine T_op zk_124_14 rfl X_ic (pc' := 15) rfl ?_
    exact T_zret zk_124_15 rfl (by omega) (fun σ' h => ⟨_, rfl, (by omega), h.1, trivial⟩)
  ·
    refine T_ld zk_124_4 rfl rfl rfl (pc' := 5) rfl ?_
    refine T_op zk_124_5 rfl (X_bi (v := 25) (by decide)) (pc' := 7) rfl ?_
    refine T_icmp_ge zk_124_7 (by omega) (by omega) (pc' := 10) rfl (fun h3 => ?_) (fun h4 => ?_)
    ·
      refine T_op zk_124_14 rfl X_ic (pc' := 15) rfl ?_
      exact T_zret zk_124_15 rfl (by omega) (fun σ' h => ⟨_, rfl, (by omega), h.1, trivial⟩)
    ·
      refine T_op zk_124_10 rfl X_ic (pc' := 11) rfl ?_
      refine T_goto zk_124_11 ?_
      exact T_zret zk_124_15 rfl (by omega) (fun σ' h => ⟨_, rfl, (by omega), h.1, trivial⟩)
/-- WModel.way -/
theorem c_126 {xs : Nat × (Nat → Int32)} (p0 : Int) (p1 : Int) (h0 : -2147483648 ≤ p0 ∧ p0 ≤ 2147483647) (h1 : -2147483648 ≤ p1 ∧ p1 ≤ 2147483647) (σ : ZS) (hI : Inv σ)   : CT xs 2 126 [iv p0, iv p1] σ (fun v σ' => ∃ y, v = some (iv y) ∧ (y = -1 ∨ (0 ≤ y ∧ y ≤ 49 ∧ 0 ≤ p0 ∧ p0 ≤ 24 ∧ 0 ≤ p1 ∧ p1 ≤ 24)) ∧ IF MN σ σ' ∧ (True)) := by
  refine G_ct (J := (fun σ' => IF MN σ σ' ∧ True)) (L := [(0, iv p0), (1, iv p1)]) (nL := 4) rfl rfl rfl ⟨IF.rf hI, trivial⟩ ?_
  refine T_ld zk_126_0 rfl rfl rfl (pc' := 1) rfl ?_
  refine T_calli (K := fun y1 σ' => ((y1 = 0 ∧ (p0 < 0 ∨ 24 < p0)) ∨ (y1 = 1 ∧ 0 ≤ p0 ∧ p0 ≤ 24)) ∧ (fun σ' => IF MN σ σ' ∧ True) σ') (r := []) zk_126_1 rfl rfl rfl rfl rfl rfl (Or.inl (Or.inl rfl)) (fun σ' h => (c_124 p0 (by omega) σ' h.1.1 ).le (Nat.le_of_ble_eq_true rfl) (fun v σ2 ⟨y, h1, h2, h3, h4⟩ => ⟨y, h1, h2, h.1.tr h3 MN_sub, trivial⟩)) (pc' := 4) rfl (fun y1 => ?_)
  refine G_ex (fun hy1 => ?_)
  refine T_if_eq zk_126_4 (by omega) (pc' := 7) rfl (fun h2 => ?_) (fun h3 => ?_)
  ·
    refine T_op zk_126_14 rfl X_ic (pc' := 15) rfl ?_
    exact T_iret zk_126_15 rfl (fun σ' h => ⟨_, rfl, (by omega), h.1, trivial⟩)
  ·
    refine T_ld zk_126_7 rfl rfl rfl (pc' := 8) rfl ?_
    refine T_calli (K := fun y4 σ' => ((y4 = 0 ∧ (p1 < 0 ∨ 24 < p1)) ∨ (y4 = 1 ∧ 0 ≤ p1 ∧ p1 ≤ 24)) ∧ (fun σ' => IF MN σ σ' ∧ True) σ') (r := []) zk_126_8 rfl rfl rfl rfl rfl rfl (Or.inl (Or.inl rfl)) (fun σ' h => (c_124 p1 (by omega) σ' h.1.1 ).le (Nat.le_of_ble_eq_true rfl) (fun v σ2 ⟨y, h1, h2, h3, h4⟩ => ⟨y, h1, h2, h.1.tr h3 MN_sub, trivial⟩)) (pc' := 11) rfl (fun y4 => ?_)
    refine G_ex (fun hy4 => ?_)
    refine T_if_ne zk_126_11 (by omega) (pc' := 14) rfl (fun h5 => ?_) (fun h6 => ?_)
    ·
      refine T_ld zk_126_16 rfl rfl rfl (pc' := 17) rfl ?_
      refine T_ld zk_126_17 rfl rfl rfl (pc' := 18) rfl ?_
      refine T_icmp_ge zk_126_18 (by omega) (by omega) (pc' := 21) rfl (fun h7 => ?_) (fun h8 => ?_)
      ·
        refine T_ld zk_126_25 rfl rfl rfl (pc' := 26) rfl ?_
        refine T_st (L' := [(0, iv p0), (1, iv p1), (2, iv p1)]) zk_126_26 (nL := 4) rfl rfl rfl rfl rfl (pc' := 27) rfl ?_
        refine T_ld zk_126_27 rfl rfl rfl (pc' := 28) rfl ?_
        refine T_ld zk_126_28 rfl rfl rfl (pc' := 29) rfl ?_
        refine T_icmp_ge zk_126_29 (by omega) (by omega) (pc' := 32) rfl (fun h9 => ?_) (fun h10 => ?_)
        ·
          refine T_ld zk_126_36 rfl rfl rfl (pc' := 37) rfl ?_
          refine T_st (L' := [(0, iv p0), (1, iv p1), (2, iv p1), (3, iv p0)]) zk_126_37 (nL := 4) rfl rfl rfl rfl rfl (pc' := 38) rfl ?_
          refine T_ld zk_126_38 rfl rfl rfl (pc' := 39) rfl ?_
          refine T_ld zk_126_39 rfl rfl rfl (pc' := 40) rfl ?_
          refine T_op zk_126_40 rfl X_ic (pc' := 41) rfl ?_
          refine T_op zk_126_41 rfl X_add (pc' := 42) rfl ?_
          refine T_icmp_ne zk_126_42 (by omega) (by omega) (pc' := 45) rfl (fun h11 => ?_) (fun h12 => ?_)
          ·
            refine T_ld zk_126_51 rfl rfl rfl (pc' := 52) rfl ?_
            refine T_ld zk_126_52 rfl rfl rfl (pc' := 53) rfl ?_
            refine T_op zk_126_53 rfl X_ic (pc' := 54) rfl ?_
            refine T_op zk_126_54 rfl X_add (pc' := 55) rfl ?_
            refine T_icmp_ne zk_126_55 (by omega) (by omega) (pc' := 58) rfl (fun h13 => ?_) (fun h14 => ?_)
            ·
              refine T_op zk_126_71 rfl X_ic (pc' := 72) rfl ?_
              exact T_iret zk_126_72 rfl (fun σ' h => ⟨_, rfl, (by omega), h.1, trivial⟩)
            ·
              refine T_ld zk_126_58 rfl rfl rfl (pc' := 59) rfl ?_
              refine T_op zk_126_59 rfl X_ic (pc' := 60) rfl ?_
              refine T_op zk_126_60 rfl (X_rem (by omega) (by omega)) (pc' := 61) rfl ?_
              refine T_op zk_126_61 rfl X_ic (pc' := 62) rfl ?_
              refine T_icmp_ge zk_126_62 (by omega) (by omega) (pc' := 65) rfl (fun h15 => ?_) (fun h16 => ?_)
              ·
                refine T_op zk_126_71 rfl X_ic (pc' := 72) rfl ?_
                exact T_iret zk_126_72 rfl (fun σ' h => ⟨_, rfl, (by omega), h.1, trivial⟩)
              ·
                refine T_op zk_126_65 rfl X_ic (pc' := 66) rfl ?_
                refine T_ld zk_126_66 rfl rfl rfl (pc' := 67) rfl ?_
                refine T_op zk_126_67 rfl X_mul (pc' := 68) rfl ?_
                refine T_goto zk_126_68 ?_
                exact T_iret zk_126_72 rfl (fun σ' h => ⟨_, rfl, (by omega), h.1, trivial⟩)
          ·
            refine T_op zk_126_45 rfl X_ic (pc' := 46) rfl ?_
            refine T_ld zk_126_46 rfl rfl rfl (pc' := 47) rfl ?_
            refine T_op zk_126_47 rfl X_mul (pc' := 48) rfl ?_
            refine T_op zk_126_48 rfl X_ic (pc' := 49) rfl ?_
            refine T_op zk_126_49 rfl X_add (pc' := 50) rfl ?_
            exact T_iret zk_126_50 rfl (fun σ' h => ⟨_, rfl, (by omega), h.1, trivial⟩)
        ·
          refine T_ld zk_126_32 rfl rfl rfl (pc' := 33) rfl ?_
          refine T_goto zk_126_33 ?_
          refine T_st (L' := [(0, iv p0), (1, iv p1), (2, iv p1), (3, iv p1)]) zk_126_37 (nL := 4) rfl rfl rfl rfl rfl (pc' := 38) rfl ?_
          refine T_ld zk_126_38 rfl rfl rfl (pc' := 39) rfl ?_
          refine T_ld zk_126_39 rfl rfl rfl (pc' := 40) rfl ?_
          refine T_op zk_126_40 rfl X_ic (pc' := 41) rfl ?_
          refine T_op zk_126_41 rfl X_add (pc' := 42) rfl ?_
          refine T_icmp_ne zk_126_42 (by omega) (by omega) (pc' := 45) rfl (fun h17 => ?_) (fun h18 => ?_)
          ·
            refine T_ld zk_126_51 rfl rfl rfl (pc' := 52) rfl ?_
            refine T_ld zk_126_52 rfl rfl rfl (pc' := 53) rfl ?_
            refine T_op zk_126_53 rfl X_ic (pc' := 54) rfl ?_
            refine T_op zk_126_54 rfl X_add (pc' := 55) rfl ?_
            refine T_icmp_ne zk_126_55 (by omega) (by omega) (pc' := 58) rfl (fun h19 => ?_) (fun h20 => ?_)
            ·
              refine T_op zk_126_71 rfl X_ic (pc' := 72) rfl ?_
              exact T_iret zk_126_72 rfl (fun σ' h => ⟨_, rfl, (by omega), h.1, trivial⟩)
            ·
              refine T_ld zk_126_58 rfl rfl rfl (pc' := 59) rfl ?_
              refine T_op zk_126_59 rfl X_ic (pc' := 60) rfl ?_
              refine T_op zk_126_60 rfl (X_rem (by omega) (by omega)) (pc' := 61) rfl ?_
              refine T_op zk_126_61 rfl X_ic (pc' := 62) rfl ?_
              refine T_icmp_ge zk_126_62 (by omega) (by omega) (pc' := 65) rfl (fun h21 => ?_) (fun h22 => ?_)
              ·
                refine T_op zk_126_71 rfl X_ic (pc' := 72) rfl ?_
                exact T_iret zk_126_72 rfl (fun σ' h => ⟨_, rfl, (by omega), h.1, trivial⟩)
              ·
                refine T_op zk_126_65 rfl X_ic (pc' := 66) rfl ?_
                refine T_ld zk_126_66 rfl rfl rfl (pc' := 67) rfl ?_
                refine T_op zk_126_67 rfl X_mul (pc' := 68) rfl ?_
                refine T_goto zk_126_68 ?_
                exact T_iret zk_126_72 rfl (fun σ' h => ⟨_, rfl, (by omega), h.1, trivial⟩)
          ·
            refine T_op zk_126_45 rfl X_ic (pc' := 46) rfl ?_
            refine T_ld zk_126_46 rfl rfl rfl (pc' := 47) rfl ?_
            refine T_op zk_126_47 rfl X_mul (pc' := 48) rfl ?_
            refine T_op zk_126_48 rfl X_ic (pc' := 49) rfl ?_
            refine T_op zk_126_49 rfl X_add (pc' := 50) rfl ?_
            exact T_iret zk_126_50 rfl (fun σ' h => ⟨_, rfl, (by omega), h.1, trivial⟩)
      ·
        refine T_ld zk_126_21 rfl rfl rfl (pc' := 22) rfl ?_
        refine T_goto zk_126_22 ?_
        refine T_st (L' := [(0, iv p0), (1, iv p1), (2, iv p0)]) zk_126_26 (nL := 4) rfl rfl rfl rfl rfl (pc' := 27) rfl ?_
        refine T_ld zk_126_27 rfl rfl rfl (pc' := 28) rfl ?_
        refine T_ld zk_126_28 rfl rfl rfl (pc' := 29) rfl ?_
        refine T_icmp_ge zk_126_29 (by omega) (by omega) (pc' := 32) rfl (fun h23 => ?_) (fun h24 => ?_)
        ·
          refine T_ld zk_126_36 rfl rfl rfl (pc' := 37) rfl ?_
          refine T_st (L' := [(0, iv p0), (1, iv p1), (2, iv p0), (3, iv p0)]) zk_126_37 (nL := 4) rfl rfl rfl rfl rfl (pc' := 38) rfl ?_
          refine T_ld zk_126_38 rfl rfl rfl (pc' := 39) rfl ?_
          refine T_ld zk_126_39 rfl rfl rfl (pc' := 40) rfl ?_
          refine T_op zk_126_40 rfl X_ic (pc' := 41) rfl ?_
          refine T_op zk_126_41 rfl X_add (pc' := 42) rfl ?_
          refine T_icmp_ne zk_126_42 (by omega) (by omega) (pc' := 45) rfl (fun h25 => ?_) (fun h26 => ?_)
          ·
            refine T_ld zk_126_51 rfl rfl rfl (pc' := 52) rfl ?_
            refine T_ld zk_126_52 rfl rfl rfl (pc' := 53) rfl ?_
            refine T_op zk_126_53 rfl X_ic (pc' := 54) rfl ?_
            refine T_op zk_126_54 rfl X_add (pc' := 55) rfl ?_
            refine T_icmp_ne zk_126_55 (by omega) (by omega) (pc' := 58) rfl (fun h27 => ?_) (fun h28 => ?_)
            ·
              refine T_op zk_126_71 rfl X_ic (pc' := 72) rfl ?_
              exact T_iret zk_126_72 rfl (fun σ' h => ⟨_, rfl, (by omega), h.1, trivial⟩)
            ·
              refine T_ld zk_126_58 rfl rfl rfl (pc' := 59) rfl ?_
              refine T_op zk_126_59 rfl X_ic (pc' := 60) rfl ?_
              refine T_op zk_126_60 rfl (X_rem (by omega) (by omega)) (pc' := 61) rfl ?_
              refine T_op zk_126_61 rfl X_ic (pc' := 62) rfl ?_
              refine T_icmp_ge zk_126_62 (by omega) (by omega) (pc' := 65) rfl (fun h29 => ?_) (fun h30 => ?_)
              ·
                refine T_op zk_126_71 rfl X_ic (pc' := 72) rfl ?_
                exact T_iret zk_126_72 rfl (fun σ' h => ⟨_, rfl, (by omega), h.1, trivial⟩)
              ·
                refine T_op zk_126_65 rfl X_ic (pc' := 66) rfl ?_
                refine T_ld zk_126_66 rfl rfl rfl (pc' := 67) rfl ?_
                refine T_op zk_126_67 rfl X_mul (pc' := 68) rfl ?_
                refine T_goto zk_126_68 ?_
                exact T_iret zk_126_72 rfl (fun σ' h => ⟨_, rfl, (by omega), h.1, trivial⟩)
          ·
            refine T_op zk_126_45 rfl X_ic (pc' := 46) rfl ?_
            refine T_ld zk_126_46 rfl rfl rfl (pc' := 47) rfl ?_
            refine T_op zk_126_47 rfl X_mul (pc' := 48) rfl ?_
            refine T_op zk_126_48 rfl X_ic (pc' := 49) rfl ?_
            refine T_op zk_126_49 rfl X_add (pc' := 50) rfl ?_
            exact T_iret zk_126_50 rfl (fun σ' h => ⟨_, rfl, (by omega), h.1, trivial⟩)
        ·
          refine T_ld zk_126_32 rfl rfl rfl (pc' := 33) rfl ?_
          refine T_goto zk_126_33 ?_
          refine T_st (L' := [(0, iv p0), (1, iv p1), (2, iv p0), (3, iv p1)]) zk_126_37 (nL := 4) rfl rfl rfl rfl rfl (pc' := 38) rfl ?_
          refine T_ld zk_126_38 rfl rfl rfl (pc' := 39) rfl ?_
          refine T_ld zk_126_39 rfl rfl rfl (pc' := 40) rfl ?_
          refine T_op zk_126_40 rfl X_ic (pc' := 41) rfl ?_
          refine T_op zk_126_41 rfl X_add (pc' := 42) rfl ?_
          refine T_icmp_ne zk_126_42 (by omega) (by omega) (pc' := 45) rfl (fun h31 => ?_) (fun h32 => ?_)
          ·
            refine T_ld zk_126_51 rfl rfl rfl (pc' := 52) rfl ?_
            refine T_ld zk_126_52 rfl rfl rfl (pc' := 53) rfl ?_
            refine T_op zk_126_53 rfl X_ic (pc' := 54) rfl ?_
            refine T_op zk_126_54 rfl X_add (pc' := 55) rfl ?_
            refine T_icmp_ne zk_126_55 (by omega) (by omega) (pc' := 58) rfl (fun h33 => ?_) (fun h34 => ?_)
            ·
              refine T_op zk_126_71 rfl X_ic (pc' := 72) rfl ?_
              exact T_iret zk_126_72 rfl (fun σ' h => ⟨_, rfl, (by omega), h.1, trivial⟩)
            ·
              refine T_ld zk_126_58 rfl rfl rfl (pc' := 59) rfl ?_
              refine T_op zk_126_59 rfl X_ic (pc' := 60) rfl ?_
              refine T_op zk_126_60 rfl (X_rem (by omega) (by omega)) (pc' := 61) rfl ?_
              refine T_op zk_126_61 rfl X_ic (pc' := 62) rfl ?_
              refine T_icmp_ge zk_126_62 (by omega) (by omega) (pc' := 65) rfl (fun h35 => ?_) (fun h36 => ?_)
              ·
                refine T_op zk_126_71 rfl X_ic (pc' := 72) rfl ?_
                exact T_iret zk_126_72 rfl (fun σ' h => ⟨_, rfl, (by omega), h.1, trivial⟩)
              ·
                refine T_op zk_126_65 rfl X_ic (pc' := 66) rfl ?_
                refine T_ld zk_126_66 rfl rfl rfl (pc' := 67) rfl ?_
                refine T_op zk_126_67 rfl X_mul (pc' := 68) rfl ?_
                refine T_goto zk_126_68 ?_
                exact T_iret zk_126_72 rfl (fun σ' h => ⟨_, rfl, (by omega), h.1, trivial⟩)
          ·
            refine T_op zk_126_45 rfl X_ic (pc' := 46) rfl ?_
            refine T_ld zk_126_46 rfl rfl rfl (pc' := 47) rfl ?_
            refine T_op zk_126_47 rfl X_mul (pc' := 48) rfl ?_
            refine T_op zk_126_48 rfl X_ic (pc' := 49) rfl ?_
            refine T_op zk_126_49 rfl X_add (pc' := 50) rfl ?_
            exact T_iret zk_126_50 rfl (fun σ' h => ⟨_, rfl, (by omega), h.1, trivial⟩)
    ·
      refine T_op zk_126_14 rfl X_ic (pc' := 15) rfl ?_
      exact T_iret zk_126_15 rfl (fun σ' h => ⟨_, rfl, (by omega), h.1, trivial⟩)
/-- W$Lagoon.greatestLevel -/
theorem c_33 {xs : Nat × (Nat → Int32)} (c : Nat) (hc : c < 3) (σ : ZS) (hI : Inv σ)   : CT xs 1 33 [av 2 c 0] σ (fun v σ' => ∃ y, v = some (iv y) ∧ (True) ∧ IF MN σ σ' ∧ (True)) := by
  refine G_ct (J := (fun σ' => IF MN σ σ' ∧ True)) (L := [(0, av 2 c 0)]) (nL := 3) rfl rfl rfl ⟨IF.rf hI, trivial⟩ ?_
  refine T_ld zk_33_0 rfl rfl rfl (pc' := 1) rfl ?_
  refine T_getR (t' := 4) (i' := c) (k' := 0) zk_33_1 rfl rfl rfl (vd_2 hc) (pc' := 4) rfl ?_
  refine T_op zk_33_4 rfl X_ic (pc' := 5) rfl ?_
  refine G_iald (lo := -2147483648) (hi := 2147483647) (ln := 25) zk_33_5 rfl rfl (vd_4 hc) (by omega) (by omega) (by omega) (fun σ' h => h.1.1) (fun _ h => h.1) (pc' := 6) rfl (fun y1 hy1 hy1' => ?_)
  refine T_st (L' := [(0, av 2 c 0), (1, iv y1)]) zk_33_6 (nL := 3) rfl rfl rfl rfl rfl (pc' := 7) rfl ?_
  refine T_op zk_33_7 rfl X_ic (pc' := 8) rfl ?_
  refine T_st (L' := [(0, av 2 c 0), (1, iv y1), (2, iv 1)]) zk_33_8 (nL := 3) rfl rfl rfl rfl rfl (pc' := 9) rfl ?_
  refine T_loop2 (fun x2 x3 => (25 - x3).toNat) (fun x2 x3 => (-2147483648 ≤ x2 ∧ x2 ≤ 2147483647) ∧ (0 ≤ x3 ∧ x3 ≤ 25)) (fun x2 x3 => TJ xs (fun σ' => IF MN σ σ' ∧ True) 0 33 9 [(0, av 2 c 0), (1, iv x2), (2, iv x3)] [] _) ?_ y1 1 (by omega)
  intro x2 x3 hp5 ih4
  refine T_ld zk_33_9 rfl rfl rfl (pc' := 10) rfl ?_
  refine T_op zk_33_10 rfl (X_bi (v := 25) (by decide)) (pc' := 12) rfl ?_
  refine T_icmp_ge zk_33_12 (by omega) (by omega) (pc' := 15) rfl (fun h6 => ?_) (fun h7 => ?_)
  ·
    refine T_ld zk_33_32 rfl rfl rfl (pc' := 33) rfl ?_
    exact T_iret zk_33_33 rfl (fun σ' h => ⟨_, rfl, trivial, h.1, trivial⟩)
  ·
    refine T_ld zk_33_15 rfl rfl rfl (pc' := 16) rfl ?_
    refine T_ld zk_33_16 rfl rfl rfl (pc' := 17) rfl ?_
    refine T_getR (t' := 4) (i' := c) (k' := 0) zk_33_17 rfl rfl rfl (vd_2 hc) (pc' := 20) rfl ?_
    refine T_ld zk_33_20 rfl rfl rfl (pc' := 21) rfl ?_
    refine G_iald (lo := -2147483648) (hi := 2147483647) (ln := 25) zk_33_21 rfl rfl (vd_4 hc) (by omega) (by omega) (by omega) (fun σ' h => h.1.1) (fun _ h => h.1) (pc' := 22) rfl (fun y8 hy8 hy8' => ?_)
    refine T_max zk_33_22 rfl (by omega) (by omega) rfl (pc' := 25) rfl (fun y9 hy9 hy9' ey9 => ?_)
    refine T_st (L' := [(0, av 2 c 0), (1, iv y9), (2, iv x3)]) zk_33_25 (nL := 3) rfl rfl rfl rfl rfl (pc' := 26) rfl ?_
    refine T_iinc (L' := [(0, av 2 c 0), (1, iv y9), (2, iv (x3 + 1))]) zk_33_26 (nL := 3) rfl rfl rfl rfl (pc' := 29) rfl ?_
    refine T_goto zk_33_29 ?_
    exact ih4 y9 (x3 + 1) (by omega) (by omega)
/-- W$Mouths.shutCount -/
theorem c_63 {xs : Nat × (Nat → Int32)} (c : Nat) (hc : c < 3) (σ : ZS) (hI : Inv σ)   : CT xs 1 63 [av 11 c 0] σ (fun v σ' => ∃ y, v = some (iv y) ∧ (0 ≤ y ∧ y ≤ 3) ∧ IF MN σ σ' ∧ (True)) := by
  refine G_ct (J := (fun σ' => IF MN σ σ' ∧ True)) (L := [(0, av 11 c 0)]) (nL := 3) rfl rfl rfl ⟨IF.rf hI, trivial⟩ ?_
  refine T_op zk_63_0 rfl X_ic (pc' := 1) rfl ?_
  refine T_st (L' := [(0, av 11 c 0), (1, iv 0)]) zk_63_1 (nL := 3) rfl rfl rfl rfl rfl (pc' := 2) rfl ?_
  refine T_op zk_63_2 rfl X_ic (pc' := 3) rfl ?_
  refine T_st (L' := [(0, av 11 c 0), (1, iv 0), (2, iv 0)]) zk_63_3 (nL := 3) rfl rfl rfl rfl rfl (pc' := 4) rfl ?_
  refine T_loop2 (fun x1 x2 => (3 - x2).toNat) (fun x1 x2 => (0 ≤ x1 ∧ x1 ≤ 3) ∧ (0 ≤ x2 ∧ x2 ≤ 3) ∧ x1 ≤ x2) (fun x1 x2 => TJ xs (fun σ' => IF MN σ σ' ∧ True) 0 63 4 [(0, av 11 c 0), (1, iv x1), (2, iv x2)] [] _) ?_ 0 0 (by omega)
  intro x1 x2 hp4 ih3
  refine T_ld zk_63_4 rfl rfl rfl (pc' := 5) rfl ?_
  refine T_ld zk_63_5 rfl rfl rfl (pc' := 6) rfl ?_
  refine G_getf (lo := 0) (hi := 3) zk_63_6 rfl (vd_11 hc) (fun σ' h => h.1.1) (fun _ h => h.2 (by omega) (by omega)) (pc' := 9) rfl (fun y5 hy5 hy5' => ?_)
  refine T_icmp_ge zk_63_9 (by omega) (by omega) (pc' := 12) rfl (fun h6 => ?_) (fun h7 => ?_)
  ·
    refine T_ld zk_63_30 rfl rfl rfl (pc' := 31) rfl ?_
    exact T_iret zk_63_31 rfl (fun σ' h => ⟨_, rfl, (by omega), h.1, trivial⟩)
  ·
    refine T_ld zk_63_12 rfl rfl rfl (pc' := 13) rfl ?_
    refine T_getR (t' := 13) (i' := c) (k' := 0) zk_63_13 rfl rfl rfl (vd_11 hc) (pc' := 16) rfl ?_
    refine T_ld zk_63_16 rfl rfl rfl (pc' := 17) rfl ?_
    refine G_bald (lo := 0) (hi := 1) (ln := 3) zk_63_17 rfl rfl (vd_13 hc) (by omega) (by omega) (by omega) (fun σ' h => h.1.1) (fun _ h => h.2 (by omega) (by omega)) (pc' := 18) rfl (fun y8 hy8 hy8' => ?_)
    refine T_if_eq zk_63_18 (by omega) (pc' := 21) rfl (fun h9 => ?_) (fun h10 => ?_)
    ·
      refine T_iinc (L' := [(0, av 11 c 0), (1, iv x1), (2, iv (x2 + 1))]) zk_63_24 (nL := 3) rfl rfl rfl rfl (pc' := 27) rfl ?_
      refine T_goto zk_63_27 ?_
      exact ih3 x1 (x2 + 1) (by omega) (by omega)
    ·
      refine T_iinc (L' := [(0, av 11 c 0), (1, iv (x1 + 1)), (2, iv x2)]) zk_63_21 (nL := 3) rfl rfl rfl rfl (pc' := 24) rfl ?_
      refine T_iinc (L' := [(0, av 11 c 0), (1, iv (x1 + 1)), (2, iv (x2 + 1))]) zk_63_24 (nL := 3) rfl rfl rfl rfl (pc' := 27) rfl ?_
      refine T_goto zk_63_27 ?_
      exact ih3 (x1 + 1) (x2 + 1) (by omega) (by omega)
