theorem zk_18_0 : zc 18 0 = some (.iconst 0, 0, 0, 0, 0) := rfl
theorem zk_18_1 : zc 18 1 = some (.istore_n 1, 0, 0, 0, 0) := rfl
theorem zk_18_2 : zc 18 2 = some (.iconst 0, 0, 0, 0, 0) := rfl
theorem zk_18_3 : zc 18 3 = some (.istore_n 2, 0, 0, 0, 0) := rfl
theorem zk_18_4 : zc 18 4 = some (.iload_n 2, 0, 0, 0, 0) := rfl
theorem zk_18_5 : zc 18 5 = some (.aload_n 0, 0, 0, 0, 0) := rfl
theorem zk_18_6 : zc 18 6 = some (.getfield 172, 2, 7, 0, 38) := rfl
theorem zk_18_9 : zc 18 9 = some (.if_icmp .ge 25, 34, 0, 0, 0) := rfl
theorem zk_18_34 : zc 18 34 = some (.iload_n 1, 0, 0, 0, 0) := rfl
theorem zk_18_35 : zc 18 35 = some (.ireturn, 0, 0, 0, 0) := rfl
theorem zk_19_0 : zc 19 0 = some (.iconst 0, 0, 0, 0, 0) := rfl
theorem zk_19_1 : zc 19 1 = some (.istore_n 1, 0, 0, 0, 0) := rfl
theorem zk_19_2 : zc 19 2 = some (.iconst 0, 0, 0, 0, 0) := rfl
theorem zk_19_3 : zc 19 3 = some (.istore_n 2, 0, 0, 0, 0) := rfl
theorem zk_19_4 : zc 19 4 = some (.iload_n 2, 0, 0, 0, 0) := rfl
theorem zk_19_5 : zc 19 5 = some (.aload_n 0, 0, 0, 0, 0) := rfl
theorem zk_19_6 : zc 19 6 = some (.getfield 159, 2, 5, 0, 35) := rfl
theorem zk_19_9 : zc 19 9 = some (.if_icmp .ge 24, 33, 0, 0, 0) := rfl
theorem zk_19_33 : zc 19 33 = some (.iload_n 1, 0, 0, 0, 0) := rfl
theorem zk_19_34 : zc 19 34 = some (.ireturn, 0, 0, 0, 0) := rfl
theorem zk_20_0 : zc 20 0 = some (.iconst 0, 0, 0, 0, 0) := rfl
theorem zk_20_1 : zc 20 1 = some (.istore_n 2, 0, 0, 0, 0) := rfl
theorem zk_20_2 : zc 20 2 = some (.iload_n 2, 0, 0, 0, 0) := rfl
theorem zk_20_3 : zc 20 3 = some (.aload_n 0, 0, 0, 0, 0) := rfl
theorem zk_20_4 : zc 20 4 = some (.getfield 159, 2, 5, 0, 35) := rfl
theorem zk_20_7 : zc 20 7 = some (.if_icmp .ge 32, 39, 0, 0, 0) := rfl
theorem zk_20_39 : zc 20 39 = some (.return_, 0, 0, 0, 0) := rfl
theorem zk_21_0 : zc 21 0 = some (.iconst 0, 0, 0, 0, 0) := rfl
theorem zk_21_1 : zc 21 1 = some (.istore_n 1, 0, 0, 0, 0) := rfl
theorem zk_21_2 : zc 21 2 = some (.iconst 0, 0, 0, 0, 0) := rfl
theorem zk_21_3 : zc 21 3 = some (.istore_n 2, 0, 0, 0, 0) := rfl
theorem zk_21_4 : zc 21 4 = some (.iload_n 2, 0, 0, 0, 0) := rfl
theorem zk_21_5 : zc 21 5 = some (.aload_n 0, 0, 0, 0, 0) := rfl
theorem zk_21_6 : zc 21 6 = some (.getfield 135, 2, 6, 0, 30) := rfl
theorem zk_21_9 : zc 21 9 = some (.if_icmp .ge 24, 33, 0, 0, 0) := rfl
theorem zk_21_33 : zc 21 33 = some (.iconst 0, 0, 0, 0, 0) := rfl
theorem zk_21_34 : zc 21 34 = some (.istore_n 2, 0, 0, 0, 0) := rfl
theorem zk_21_35 : zc 21 35 = some (.iload_n 2, 0, 0, 0, 0) := rfl
theorem zk_21_36 : zc 21 36 = some (.aload_n 0, 0, 0, 0, 0) := rfl
theorem zk_21_37 : zc 21 37 = some (.getfield 172, 2, 7, 0, 38) := rfl
theorem zk_21_40 : zc 21 40 = some (.if_icmp .ge 21, 61, 0, 0, 0) := rfl
theorem zk_21_61 : zc 21 61 = some (.iload_n 1, 0, 0, 0, 0) := rfl
theorem zk_21_62 : zc 21 62 = some (.ireturn, 0, 0, 0, 0) := rfl
theorem zk_30_0 : zc 30 0 = some (.iload_n 0, 0, 0, 0, 0) := rfl
theorem zk_30_1 : zc 30 1 = some (.invokestatic 43, 115, 3, 1, 48) := rfl
theorem zk_30_4 : zc 30 4 = some (.ifCond .eq 10, 14, 0, 0, 0) := rfl
theorem zk_30_7 : zc 30 7 = some (.iload_n 1, 0, 0, 0, 0) := rfl
theorem zk_30_8 : zc 30 8 = some (.invokestatic 43, 115, 3, 1, 48) := rfl
theorem zk_30_11 : zc 30 11 = some (.ifCond .ne 5, 16, 0, 0, 0) := rfl
theorem zk_30_14 : zc 30 14 = some (.iconst (-1), 0, 0, 0, 0) := rfl
theorem zk_30_15 : zc 30 15 = some (.ireturn, 0, 0, 0, 0) := rfl
theorem zk_30_16 : zc 30 16 = some (.iload_n 0, 0, 0, 0, 0) := rfl
theorem zk_30_17 : zc 30 17 = some (.iload_n 1, 0, 0, 0, 0) := rfl
theorem zk_30_18 : zc 30 18 = some (.invokestatic 47, 0, 8, 0, 49) := rfl
theorem zk_30_21 : zc 30 21 = some (.istore_n 2, 0, 0, 0, 0) := rfl
theorem zk_30_22 : zc 30 22 = some (.iload_n 0, 0, 0, 0, 0) := rfl
theorem zk_30_23 : zc 30 23 = some (.iload_n 1, 0, 0, 0, 0) := rfl
theorem zk_30_24 : zc 30 24 = some (.invokestatic 53, 0, 7, 0, 50) := rfl
theorem zk_30_27 : zc 30 27 = some (.iload_n 2, 0, 0, 0, 0) := rfl
theorem zk_30_28 : zc 30 28 = some (.isub, 0, 0, 0, 0) := rfl
theorem zk_30_29 : zc 30 29 = some (.istore_n 3, 0, 0, 0, 0) := rfl
theorem zk_30_30 : zc 30 30 = some (.iload_n 3, 0, 0, 0, 0) := rfl
theorem zk_30_31 : zc 30 31 = some (.iconst 1, 0, 0, 0, 0) := rfl
theorem zk_30_32 : zc 30 32 = some (.if_icmp .ne 16, 48, 0, 0, 0) := rfl
theorem zk_30_35 : zc 30 35 = some (.iload_n 2, 0, 0, 0, 0) := rfl
theorem zk_30_36 : zc 30 36 = some (.iconst 5, 0, 0, 0, 0) := rfl
theorem zk_30_37 : zc 30 37 = some (.irem, 0, 0, 0, 0) := rfl
theorem zk_30_38 : zc 30 38 = some (.iconst 4, 0, 0, 0, 0) := rfl
theorem zk_30_39 : zc 30 39 = some (.if_icmp .ge 9, 48, 0, 0, 0) := rfl
theorem zk_30_42 : zc 30 42 = some (.iload_n 2, 0, 0, 0, 0) := rfl
theorem zk_30_43 : zc 30 43 = some (.iload_n 2, 0, 0, 0, 0) := rfl
theorem zk_30_44 : zc 30 44 = some (.iconst 5, 0, 0, 0, 0) := rfl
theorem zk_30_45 : zc 30 45 = some (.idiv, 0, 0, 0, 0) := rfl
theorem zk_30_46 : zc 30 46 = some (.isub, 0, 0, 0, 0) := rfl
theorem zk_30_47 : zc 30 47 = some (.ireturn, 0, 0, 0, 0) := rfl
theorem zk_30_48 : zc 30 48 = some (.iload_n 3, 0, 0, 0, 0) := rfl
theorem zk_30_49 : zc 30 49 = some (.iconst 5, 0, 0, 0, 0) := rfl
theorem zk_30_50 : zc 30 50 = some (.if_icmp .ne 10, 60, 0, 0, 0) := rfl
theorem zk_30_53 : zc 30 53 = some (.bipush 20, 0, 0, 0, 0) := rfl
theorem zk_30_55 : zc 30 55 = some (.iload_n 2, 0, 0, 0, 0) := rfl
theorem zk_30_56 : zc 30 56 = some (.iadd, 0, 0, 0, 0) := rfl
theorem zk_30_57 : zc 30 57 = some (.goto 4, 61, 0, 0, 0) := rfl
theorem zk_30_60 : zc 30 60 = some (.iconst (-1), 0, 0, 0, 0) := rfl
theorem zk_30_61 : zc 30 61 = some (.ireturn, 0, 0, 0, 0) := rfl
theorem zk_31_0 : zc 31 0 = some (.iload_n 0, 0, 0, 0, 0) := rfl
theorem zk_31_1 : zc 31 1 = some (.bipush 20, 0, 0, 0, 0) := rfl
theorem zk_31_3 : zc 31 3 = some (.if_icmp .ge 11, 14, 0, 0, 0) := rfl
theorem zk_31_6 : zc 31 6 = some (.iload_n 0, 0, 0, 0, 0) := rfl
theorem zk_31_7 : zc 31 7 = some (.iload_n 0, 0, 0, 0, 0) := rfl
theorem zk_31_8 : zc 31 8 = some (.iconst 4, 0, 0, 0, 0) := rfl
theorem zk_31_9 : zc 31 9 = some (.idiv, 0, 0, 0, 0) := rfl
theorem zk_31_10 : zc 31 10 = some (.iadd, 0, 0, 0, 0) := rfl
theorem zk_31_11 : zc 31 11 = some (.goto 7, 18, 0, 0, 0) := rfl
theorem zk_31_14 : zc 31 14 = some (.iload_n 0, 0, 0, 0, 0) := rfl
theorem zk_31_15 : zc 31 15 = some (.bipush 20, 0, 0, 0, 0) := rfl
theorem zk_31_17 : zc 31 17 = some (.isub, 0, 0, 0, 0) := rfl
theorem zk_31_18 : zc 31 18 = some (.ireturn, 0, 0, 0, 0) := rfl
theorem zk_32_0 : zc 32 0 = some (.iload_n 0, 0, 0, 0, 0) := rfl
theorem zk_32_1 : zc 32 1 = some (.bipush 20, 0, 0, 0, 0) := rfl
theorem zk_32_3 : zc 32 3 = some (.if_icmp .ge 13, 16, 0, 0, 0) := rfl
theorem zk_32_6 : zc 32 6 = some (.iload_n 0, 0, 0, 0, 0) := rfl
theorem zk_32_7 : zc 32 7 = some (.iload_n 0, 0, 0, 0, 0) := rfl
theorem zk_32_8 : zc 32 8 = some (.iconst 4, 0, 0, 0, 0) := rfl
theorem zk_32_9 : zc 32 9 = some (.idiv, 0, 0, 0, 0) := rfl
theorem zk_32_10 : zc 32 10 = some (.iadd, 0, 0, 0, 0) := rfl
theorem zk_32_11 : zc 32 11 = some (.iconst 1, 0, 0, 0, 0) := rfl
theorem zk_32_12 : zc 32 12 = some (.iadd, 0, 0, 0, 0) := rfl
theorem zk_32_13 : zc 32 13 = some (.goto 9, 22, 0, 0, 0) := rfl
theorem zk_32_16 : zc 32 16 = some (.iload_n 0, 0, 0, 0, 0) := rfl
theorem zk_32_17 : zc 32 17 = some (.bipush 20, 0, 0, 0, 0) := rfl
theorem zk_32_19 : zc 32 19 = some (.isub, 0, 0, 0, 0) := rfl
theorem zk_32_20 : zc 32 20 = some (.iconst 5, 0, 0, 0, 0) := rfl
theorem zk_32_21 : zc 32 21 = some (.iadd, 0, 0, 0, 0) := rfl
theorem zk_32_22 : zc 32 22 = some (.ireturn, 0, 0, 0, 0) := rfl
theorem zk_33_0 : zc 33 0 = some (.aload_n 0, 0, 0, 0, 0) := rfl
theorem zk_33_1 : zc 33 1 = some (.getfield 15, 4, 1, 0, 60) := rfl
theorem zk_33_4 : zc 33 4 = some (.iconst 0, 0, 0, 0, 0) := rfl
theorem zk_33_5 : zc 33 5 = some (.iaload, 0, 0, 0, 0) := rfl
theorem zk_33_6 : zc 33 6 = some (.istore_n 1, 0, 0, 0, 0) := rfl
theorem zk_33_7 : zc 33 7 = some (.iconst 1, 0, 0, 0, 0) := rfl
theorem zk_33_8 : zc 33 8 = some (.istore_n 2, 0, 0, 0, 0) := rfl
theorem zk_33_9 : zc 33 9 = some (.iload_n 2, 0, 0, 0, 0) := rfl
theorem zk_33_10 : zc 33 10 = some (.bipush 25, 0, 0, 0, 0) := rfl
theorem zk_33_12 : zc 33 12 = some (.if_icmp .ge 20, 32, 0, 0, 0) := rfl
theorem zk_33_15 : zc 33 15 = some (.iload_n 1, 0, 0, 0, 0) := rfl
theorem zk_33_16 : zc 33 16 = some (.aload_n 0, 0, 0, 0, 0) := rfl
theorem zk_33_17 : zc 33 17 = some (.getfield 15, 4, 1, 0, 60) := rfl
theorem zk_33_20 : zc 33 20 = some (.iload_n 2, 0, 0, 0, 0) := rfl
theorem zk_33_21 : zc 33 21 = some (.iaload, 0, 0, 0, 0) := rfl
theorem zk_33_22 : zc 33 22 = some (.invokestatic 53, 0, 7, 0, 50) := rfl
theorem zk_33_25 : zc 33 25 = some (.istore_n 1, 0, 0, 0, 0) := rfl
theorem zk_33_26 : zc 33 26 = some (.iinc 2 1, 0, 0, 0, 0) := rfl
theorem zk_33_29 : zc 33 29 = some (.goto (-20), 9, 0, 0, 0) := rfl
theorem zk_33_32 : zc 33 32 = some (.iload_n 1, 0, 0, 0, 0) := rfl
theorem zk_33_33 : zc 33 33 = some (.ireturn, 0, 0, 0, 0) := rfl
theorem zk_34_0 : zc 34 0 = some (.iconst 0, 0, 0, 0, 0) := rfl
theorem zk_34_1 : zc 34 1 = some (.istore_n 1, 0, 0, 0, 0) := rfl
theorem zk_34_2 : zc 34 2 = some (.iconst 0, 0, 0, 0, 0) := rfl
theorem zk_34_3 : zc 34 3 = some (.istore_n 2, 0, 0, 0, 0) := rfl
theorem zk_34_4 : zc 34 4 = some (.iload_n 2, 0, 0, 0, 0) := rfl
theorem zk_34_5 : zc 34 5 = some (.bipush 25, 0, 0, 0, 0) := rfl
theorem zk_34_7 : zc 34 7 = some (.if_icmp .ge 18, 25, 0, 0, 0) := rfl
theorem zk_34_10 : zc 34 10 = some (.iload_n 1, 0, 0, 0, 0) := rfl
theorem zk_34_11 : zc 34 11 = some (.aload_n 0, 0, 0, 0, 0) := rfl
theorem zk_34_12 : zc 34 12 = some (.getfield 15, 4, 1, 0, 60) := rfl
theorem zk_34_15 : zc 34 15 = some (.iload_n 2, 0, 0, 0, 0) := rfl
theorem zk_34_16 : zc 34 16 = some (.iaload, 0, 0, 0, 0) := rfl
theorem zk_34_17 : zc 34 17 = some (.iadd, 0, 0, 0, 0) := rfl
theorem zk_34_18 : zc 34 18 = some (.istore_n 1, 0, 0, 0, 0) := rfl
theorem zk_34_19 : zc 34 19 = some (.iinc 2 1, 0, 0, 0, 0) := rfl
theorem zk_34_22 : zc 34 22 = some (.goto (-18), 4, 0, 0, 0) := rfl
theorem zk_34_25 : zc 34 25 = some (.iload_n 1, 0, 0, 0, 0) := rfl
theorem zk_34_26 : zc 34 26 = some (.ireturn, 0, 0, 0, 0) := rfl
theorem zk_61_0 : zc 61 0 = some (.aload_n 0, 0, 0, 0, 0) := rfl
theorem zk_61_1 : zc 61 1 = some (.getfield 9, 7, 1, 0, 80) := rfl
theorem zk_61_4 : zc 61 4 = some (.aload_n 0, 0, 0, 0, 0) := rfl
theorem zk_61_5 : zc 61 5 = some (.getfield 19, 7, 0, 0, 82) := rfl
theorem zk_61_8 : zc 61 8 = some (.iload_n 1, 0, 0, 0, 0) := rfl
theorem zk_61_9 : zc 61 9 = some (.iastore, 0, 0, 0, 0) := rfl
theorem zk_61_10 : zc 61 10 = some (.aload_n 0, 0, 0, 0, 0) := rfl
theorem zk_61_11 : zc 61 11 = some (.getfield 15, 7, 2, 0, 81) := rfl
theorem zk_61_14 : zc 61 14 = some (.aload_n 0, 0, 0, 0, 0) := rfl
theorem zk_61_15 : zc 61 15 = some (.getfield 19, 7, 0, 0, 82) := rfl
theorem zk_61_18 : zc 61 18 = some (.iconst 0, 0, 0, 0, 0) := rfl
theorem zk_61_19 : zc 61 19 = some (.bastore, 0, 0, 0, 0) := rfl
theorem zk_61_20 : zc 61 20 = some (.aload_n 0, 0, 0, 0, 0) := rfl
theorem zk_61_21 : zc 61 21 = some (.dup, 0, 0, 0, 0) := rfl
theorem zk_61_22 : zc 61 22 = some (.getfield 19, 7, 0, 0, 82) := rfl
theorem zk_61_25 : zc 61 25 = some (.iconst 1, 0, 0, 0, 0) := rfl
theorem zk_61_26 : zc 61 26 = some (.iadd, 0, 0, 0, 0) := rfl
theorem zk_61_27 : zc 61 27 = some (.putfield 19, 7, 0, 0, 82) := rfl
theorem zk_61_30 : zc 61 30 = some (.aload_n 0, 0, 0, 0, 0) := rfl
theorem zk_61_31 : zc 61 31 = some (.getfield 19, 7, 0, 0, 82) := rfl
theorem zk_61_34 : zc 61 34 = some (.iconst 1, 0, 0, 0, 0) := rfl
theorem zk_61_35 : zc 61 35 = some (.isub, 0, 0, 0, 0) := rfl
theorem zk_61_36 : zc 61 36 = some (.ireturn, 0, 0, 0, 0) := rfl
theorem zk_62_0 : zc 62 0 = some (.iconst 0, 0, 0, 0, 0) := rfl
theorem zk_62_1 : zc 62 1 = some (.istore_n 2, 0, 0, 0, 0) := rfl
theorem zk_62_2 : zc 62 2 = some (.iload_n 2, 0, 0, 0, 0) := rfl
theorem zk_62_3 : zc 62 3 = some (.aload_n 0, 0, 0, 0, 0) := rfl
theorem zk_62_4 : zc 62 4 = some (.getfield 19, 7, 0, 0, 82) := rfl
theorem zk_62_7 : zc 62 7 = some (.if_icmp .ge 21, 28, 0, 0, 0) := rfl
theorem zk_62_28 : zc 62 28 = some (.iconst (-1), 0, 0, 0, 0) := rfl
theorem zk_62_29 : zc 62 29 = some (.ireturn, 0, 0, 0, 0) := rfl
theorem zk_63_0 : zc 63 0 = some (.iconst 0, 0, 0, 0, 0) := rfl
theorem zk_63_1 : zc 63 1 = some (.istore_n 1, 0, 0, 0, 0) := rfl
theorem zk_63_2 : zc 63 2 = some (.iconst 0, 0, 0, 0, 0) := rfl
theorem zk_63_3 : zc 63 3 = some (.istore_n 2, 0, 0, 0, 0) := rfl
theorem zk_63_4 : zc 63 4 = some (.iload_n 2, 0, 0, 0, 0) := rfl
theorem zk_63_5 : zc 63 5 = some (.aload_n 0, 0, 0, 0, 0) := rfl
theorem zk_63_6 : zc 63 6 = some (.getfield 19, 7, 0, 0, 82) := rfl
theorem zk_63_9 : zc 63 9 = some (.if_icmp .ge 21, 30, 0, 0, 0) := rfl
theorem zk_63_30 : zc 63 30 = some (.iload_n 1, 0, 0, 0, 0) := rfl
theorem zk_63_31 : zc 63 31 = some (.ireturn, 0, 0, 0, 0) := rfl
theorem zk_73_0 : zc 73 0 = some (.aload_n 0, 0, 0, 0, 0) := rfl
theorem zk_73_1 : zc 73 1 = some (.getfield 21, 9, 0, 0, 89) := rfl
theorem zk_73_4 : zc 73 4 = some (.ifCond .le 7, 11, 0, 0, 0) := rfl
theorem zk_73_11 : zc 73 11 = some (.iconst 0, 0, 0, 0, 0) := rfl
theorem zk_73_12 : zc 73 12 = some (.goto 14, 26, 0, 0, 0) := rfl
theorem zk_73_26 : zc 73 26 = some (.ireturn, 0, 0, 0, 0) := rfl
theorem zk_113_0 : zc 113 0 = some (.iload_n 1, 0, 0, 0, 0) := rfl
theorem zk_113_1 : zc 113 1 = some (.ineg, 0, 0, 0, 0) := rfl
theorem zk_113_2 : zc 113 2 = some (.iconst 1, 0, 0, 0, 0) := rfl
theorem zk_113_3 : zc 113 3 = some (.bipush 7, 0, 0, 0, 0) := rfl
theorem zk_113_5 : zc 113 5 = some (.invokestatic 52, 114, 1, 3, 89) := rfl
theorem zk_113_8 : zc 113 8 = some (.ifCond .eq 14, 22, 0, 0, 0) := rfl
theorem zk_113_11 : zc 113 11 = some (.aload_n 0, 0, 0, 0, 0) := rfl
theorem zk_113_12 : zc 113 12 = some (.getfield 28, 10, 5, 0, 95) := rfl
theorem zk_113_15 : zc 113 15 = some (.iload_n 1, 0, 0, 0, 0) := rfl
theorem zk_113_16 : zc 113 16 = some (.ineg, 0, 0, 0, 0) := rfl
theorem zk_113_17 : zc 113 17 = some (.dup2, 0, 0, 0, 0) := rfl
theorem zk_113_18 : zc 113 18 = some (.iaload, 0, 0, 0, 0) := rfl
theorem zk_113_19 : zc 113 19 = some (.iconst 1, 0, 0, 0, 0) := rfl
theorem zk_113_20 : zc 113 20 = some (.iadd, 0, 0, 0, 0) := rfl
theorem zk_113_21 : zc 113 21 = some (.iastore, 0, 0, 0, 0) := rfl
theorem zk_113_22 : zc 113 22 = some (.iload_n 1, 0, 0, 0, 0) := rfl
theorem zk_113_23 : zc 113 23 = some (.ireturn, 0, 0, 0, 0) := rfl
theorem zk_114_0 : zc 114 0 = some (.iload_n 0, 0, 0, 0, 0) := rfl
theorem zk_114_1 : zc 114 1 = some (.iload_n 1, 0, 0, 0, 0) := rfl
theorem zk_114_2 : zc 114 2 = some (.if_icmp .lt 12, 14, 0, 0, 0) := rfl
theorem zk_114_5 : zc 114 5 = some (.iload_n 0, 0, 0, 0, 0) := rfl
theorem zk_114_6 : zc 114 6 = some (.iload_n 2, 0, 0, 0, 0) := rfl
theorem zk_114_7 : zc 114 7 = some (.if_icmp .gt 7, 14, 0, 0, 0) := rfl
theorem zk_114_10 : zc 114 10 = some (.iconst 1, 0, 0, 0, 0) := rfl
theorem zk_114_11 : zc 114 11 = some (.goto 4, 15, 0, 0, 0) := rfl
theorem zk_114_14 : zc 114 14 = some (.iconst 0, 0, 0, 0, 0) := rfl
theorem zk_114_15 : zc 114 15 = some (.ireturn, 0, 0, 0, 0) := rfl
theorem zk_115_0 : zc 115 0 = some (.iload_n 0, 0, 0, 0, 0) := rfl
theorem zk_115_1 : zc 115 1 = some (.ifCond .lt 13, 14, 0, 0, 0) := rfl
theorem zk_115_4 : zc 115 4 = some (.iload_n 0, 0, 0, 0, 0) := rfl
theorem zk_115_5 : zc 115 5 = some (.bipush 25, 0, 0, 0, 0) := rfl
theorem zk_115_7 : zc 115 7 = some (.if_icmp .ge 7, 14, 0, 0, 0) := rfl
theorem zk_115_10 : zc 115 10 = some (.iconst 1, 0, 0, 0, 0) := rfl
theorem zk_115_11 : zc 115 11 = some (.goto 4, 15, 0, 0, 0) := rfl
theorem zk_115_14 : zc 115 14 = some (.iconst 0, 0, 0, 0, 0) := rfl
theorem zk_115_15 : zc 115 15 = some (.ireturn, 0, 0, 0, 0) := rfl
theorem zk_116_0 : zc 116 0 = some (.iload_n 0, 0, 0, 0, 0) := rfl
theorem zk_116_1 : zc 116 1 = some (.ifCond .lt 13, 14, 0, 0, 0) := rfl
theorem zk_116_4 : zc 116 4 = some (.iload_n 0, 0, 0, 0, 0) := rfl
theorem zk_116_5 : zc 116 5 = some (.bipush 8, 0, 0, 0, 0) := rfl
theorem zk_116_7 : zc 116 7 = some (.if_icmp .ge 7, 14, 0, 0, 0) := rfl
theorem zk_116_10 : zc 116 10 = some (.iconst 1, 0, 0, 0, 0) := rfl
theorem zk_116_11 : zc 116 11 = some (.goto 4, 15, 0, 0, 0) := rfl
theorem zk_116_14 : zc 116 14 = some (.iconst 0, 0, 0, 0, 0) := rfl
theorem zk_116_15 : zc 116 15 = some (.ireturn, 0, 0, 0, 0) := rfl
theorem zk_117_0 : zc 117 0 = some (.iload_n 1, 0, 0, 0, 0) := rfl
theorem zk_117_1 : zc 117 1 = some (.ifCond .lt 18, 19, 0, 0, 0) := rfl
theorem zk_117_4 : zc 117 4 = some (.iload_n 1, 0, 0, 0, 0) := rfl
theorem zk_117_5 : zc 117 5 = some (.aload_n 0, 0, 0, 0, 0) := rfl
theorem zk_117_6 : zc 117 6 = some (.getfield 10, 10, 0, 0, 91) := rfl
theorem zk_117_9 : zc 117 9 = some (.getfield 252, 2, 6, 0, 126) := rfl
theorem zk_117_12 : zc 117 12 = some (.if_icmp .ge 7, 19, 0, 0, 0) := rfl
theorem zk_117_19 : zc 117 19 = some (.iconst 0, 0, 0, 0, 0) := rfl
theorem zk_117_20 : zc 117 20 = some (.ireturn, 0, 0, 0, 0) := rfl
theorem zk_118_0 : zc 118 0 = some (.iload_n 1, 0, 0, 0, 0) := rfl
theorem zk_118_1 : zc 118 1 = some (.ifCond .lt 18, 19, 0, 0, 0) := rfl
theorem zk_118_4 : zc 118 4 = some (.iload_n 1, 0, 0, 0, 0) := rfl
theorem zk_118_5 : zc 118 5 = some (.aload_n 0, 0, 0, 0, 0) := rfl
theorem zk_118_6 : zc 118 6 = some (.getfield 10, 10, 0, 0, 91) := rfl
theorem zk_118_9 : zc 118 9 = some (.getfield 265, 2, 7, 0, 128) := rfl
theorem zk_118_12 : zc 118 12 = some (.if_icmp .ge 7, 19, 0, 0, 0) := rfl
theorem zk_118_19 : zc 118 19 = some (.iconst 0, 0, 0, 0, 0) := rfl
theorem zk_118_20 : zc 118 20 = some (.ireturn, 0, 0, 0, 0) := rfl
theorem zk_121_0 : zc 121 0 = some (.iload_n 1, 0, 0, 0, 0) := rfl
theorem zk_121_1 : zc 121 1 = some (.ifCond .lt 16, 17, 0, 0, 0) := rfl
theorem zk_121_4 : zc 121 4 = some (.iload_n 1, 0, 0, 0, 0) := rfl
theorem zk_121_5 : zc 121 5 = some (.aload_n 0, 0, 0, 0, 0) := rfl
theorem zk_121_6 : zc 121 6 = some (.arraylength, 0, 0, 0, 0) := rfl
theorem zk_121_7 : zc 121 7 = some (.if_icmp .ge 10, 17, 0, 0, 0) := rfl
theorem zk_121_10 : zc 121 10 = some (.aload_n 0, 0, 0, 0, 0) := rfl
theorem zk_121_11 : zc 121 11 = some (.iload_n 1, 0, 0, 0, 0) := rfl
theorem zk_121_12 : zc 121 12 = some (.baload, 0, 0, 0, 0) := rfl
theorem zk_121_13 : zc 121 13 = some (.iload_n 2, 0, 0, 0, 0) := rfl
theorem zk_121_14 : zc 121 14 = some (.if_icmp .ne 5, 19, 0, 0, 0) := rfl
theorem zk_121_17 : zc 121 17 = some (.iconst 0, 0, 0, 0, 0) := rfl
theorem zk_121_18 : zc 121 18 = some (.ireturn, 0, 0, 0, 0) := rfl
theorem zk_121_19 : zc 121 19 = some (.aload_n 0, 0, 0, 0, 0) := rfl
theorem zk_121_20 : zc 121 20 = some (.iload_n 1, 0, 0, 0, 0) := rfl
theorem zk_121_21 : zc 121 21 = some (.iload_n 2, 0, 0, 0, 0) := rfl
theorem zk_121_22 : zc 121 22 = some (.bastore, 0, 0, 0, 0) := rfl
theorem zk_121_23 : zc 121 23 = some (.iconst 1, 0, 0, 0, 0) := rfl
theorem zk_121_24 : zc 121 24 = some (.ireturn, 0, 0, 0, 0) := rfl
def MT (a b c d : Nat) (t i k j : Nat) : Prop := t = a ∨ t = b ∨ t = c ∨ t = d
def ML (c : Nat) (t i k j : Nat) : Prop := i = c ∧ (t = 3 ∨ t = 4 ∨ t = 5 ∨ t = 6 ∨ t = 10 ∨ t = 13 ∨ t = 20 ∨ t = 21 ∨ t = 22 ∨ t = 25 ∨ t = 26 ∨ (t = 1 ∧ 13 ≤ j ∧ j ≤ 16))
def MY (c : Nat) (t i k j : Nat) : Prop := i = c ∧ 1 ≤ t ∧ t ≤ 26
/-- W.isWithin -/
theorem c_114 {xs : Nat × (Nat → Int32)} (p0 : Int) (p1 : Int) (p2 : Int) (h0 : -2147483648 ≤ p0 ∧ p0 ≤ 2147483647) (h1 : -2147483648 ≤ p1 ∧ p1 ≤ 2147483647) (h2 : -2147483648 ≤ p2 ∧ p2 ≤ 2147483647) (σ : ZS) (hI : Inv σ)   : CT xs 1 114 [iv p0, iv p1, iv p2] σ (fun v σ' => ∃ y, v = some (iv y) ∧ ((y = 0 ∧ (p0 < p1 ∨ p2 < p0)) ∨ (y = 1 ∧ p1 ≤ p0 ∧ p0 ≤ p2)) ∧ IF MN σ σ' ∧ (True)) := by
  refine G_ct (J := (fun σ' => IF MN σ σ' ∧ True)) (L := [(0, iv p0), (1, iv p1), (2, iv p2)]) (nL := 3) rfl rfl rfl ⟨IF.rf hI, trivial⟩ ?_
  refine T_ld zk_114_0 rfl rfl rfl (pc' := 1) rfl ?_
  refine T_ld zk_114_1 rfl rfl rfl (pc' := 2) rfl ?_
  refine T_icmp_lt zk_114_2 (by omega) (by omega) (pc' := 5) rfl (fun h1 => ?_) (fun h2 => ?_)
  ·
    refine T_op zk_114_14 rfl X_ic (pc' := 15) rfl ?_
    exact T_zret zk_114_15 rfl (by omega) (fun σ' h => ⟨_, rfl, (by omega), h.1, trivial⟩)
  ·
    refine T_ld zk_114_5 rfl rfl rfl (pc' := 6) rfl ?_
    refine T_ld zk_114_6 rfl rfl rfl (pc' := 7) rfl ?_
    refine T_icmp_gt zk_114_7 (by omega) (by omega) (pc' := 10) rfl (fun h3 => ?_) (fun h4 => ?_)
    ·
      refine T_op zk_114_14 rfl X_ic (pc' := 15) rfl ?_
      exact T_zret zk_114_15 rfl (by omega) (fun σ' h => ⟨_, rfl, (by omega), h.1, trivial⟩)
    ·
      refine T_op zk_114_10 rfl X_ic (pc' := 11) rfl ?_
      refine T_goto zk_114_11 ?_
      exact T_zret zk_114_15 rfl (by omega) (fun σ' h => ⟨_, rfl, (by omega), h.1, trivial⟩)
/-- W.isCell -/
theorem c_115 {xs : Nat × (Nat → Int32)} (p0 : Int) (h0 : -2147483648 ≤ p0 ∧ p0 ≤ 2147483647) (σ : ZS) (hI : Inv σ)   : CT xs 1 115 [iv p0] σ (fun v σ' => ∃ y, v = some (iv y) ∧ ((y = 0 ∧ (p0 < 0 ∨ 24 < p0)) ∨ (y = 1 ∧ 0 ≤ p0 ∧ p0 ≤ 24)) ∧ IF MN σ σ' ∧ (True)) := by
  refine G_ct (J := (fun σ' => IF MN σ σ' ∧ True)) (L := [(0, iv p0)]) (nL := 1) rfl rfl rfl ⟨IF.rf hI, trivial⟩ ?_
  refine T_ld zk_115_0 rfl rfl rfl (pc' := 1) rfl ?_
  refine T_if_lt zk_115_1 (by omega) (pc' := 4) rfl (fun h1 => ?_) (fun h2 => ?_)
  ·
    refine T_op zk_115_14 rfl X_ic (pc' := 15) rfl ?_
    exact T_zret zk_115_15 rfl (by omega) (fun σ' h => ⟨_, rfl, (by omega), h.1, trivial⟩)
  ·
    refine T_ld zk_115_4 rfl rfl rfl (pc' := 5) rfl ?_
    refine T_op zk_115_5 rfl (X_bi (v := 25) (by decide)) (pc' := 7) rfl ?_
    refine T_icmp_ge zk_115_7 (by omega) (by omega) (pc' := 10) rfl (fun h3 => ?_) (fun h4 => ?_)
    ·
      refine T_op zk_115_14 rfl X_ic (pc' := 15) rfl ?_
      exact T_zret zk_115_15 rfl (by omega) (fun σ' h => ⟨_, rfl, (by omega), h.1, trivial⟩)
    ·
      refine T_op zk_115_10 rfl X_ic (pc' := 11) rfl ?_
      refine T_goto zk_115_11 ?_
      exact T_zret zk_115_15 rfl (by omega) (fun σ' h => ⟨_, rfl, (by omega), h.1, trivial⟩)
/-- W.isShelf -/
theorem c_116 {xs : Nat × (Nat → Int32)} (p0 : Int) (h0 : -2147483648 ≤ p0 ∧ p0 ≤ 2147483647) (σ : ZS) (hI : Inv σ)   : CT xs 1 116 [iv p0] σ (fun v σ' => ∃ y, v = some (iv y) ∧ ((y = 0 ∧ (p0 < 0 ∨ 7 < p0)) ∨ (y = 1 ∧ 0 ≤ p0 ∧ p0 ≤ 7)) ∧ IF MN σ σ' ∧ (True)) := by
  refine G_ct (J := (fun σ' => IF MN σ σ' ∧ True)) (L := [(0, iv p0)]) (nL := 1) rfl rfl rfl ⟨IF.rf hI, trivial⟩ ?_
  refine T_ld zk_116_0 rfl rfl rfl (pc' := 1) rfl ?_
  refine T_if_lt zk_116_1 (by omega) (pc' := 4) rfl (fun h1 => ?_) (fun h2 => ?_)
  ·
    refine T_op zk_116_14 rfl X_ic (pc' := 15) rfl ?_
    exact T_zret zk_116_15 rfl (by omega) (fun σ' h => ⟨_, rfl, (by omega), h.1, trivial⟩)
  ·
    refine T_ld zk_116_4 rfl rfl rfl (pc' := 5) rfl ?_
    refine T_op zk_116_5 rfl (X_bi (v := 8) (by decide)) (pc' := 7) rfl ?_
    refine T_icmp_ge zk_116_7 (by omega) (by omega) (pc' := 10) rfl (fun h3 => ?_) (fun h4 => ?_)
    ·
      refine T_op zk_116_14 rfl X_ic (pc' := 15) rfl ?_
      exact T_zret zk_116_15 rfl (by omega) (fun σ' h => ⟨_, rfl, (by omega), h.1, trivial⟩)
    ·
      refine T_op zk_116_10 rfl X_ic (pc' := 11) rfl ?_
      refine T_goto zk_116_11 ?_
      exact T_zret zk_116_15 rfl (by omega) (fun σ' h => ⟨_, rfl, (by omega), h.1, trivial⟩)
/-- W$Lagoon.lowEnd -/
theorem c_31 {xs : Nat × (Nat → Int32)} (p0 : Int) (h0 : 0 ≤ p0 ∧ p0 ≤ 39) (σ : ZS) (hI : Inv σ)   : CT xs 1 31 [iv p0] σ (fun v σ' => ∃ y, v = some (iv y) ∧ (0 ≤ y ∧ y ≤ 24) ∧ IF MN σ σ' ∧ (True)) := by
  refine G_ct (J := (fun σ' => IF MN σ σ' ∧ True)) (L := [(0, iv p0)]) (nL := 1) rfl rfl rfl ⟨IF.rf hI, trivial⟩ ?_
  refine T_ld zk_31_0 rfl rfl rfl (pc' := 1) rfl ?_
  refine T_op zk_31_1 rfl (X_bi (v := 20) (by decide)) (pc' := 3) rfl ?_
  refine T_icmp_ge zk_31_3 (by omega) (by omega) (pc' := 6) rfl (fun h1 => ?_) (fun h2 => ?_)
  ·
    refine T_ld zk_31_14 rfl rfl rfl (pc' := 15) rfl ?_
    refine T_op zk_31_15 rfl (X_bi (v := 20) (by decide)) (pc' := 17) rfl ?_
    refine T_op zk_31_17 rfl X_sub (pc' := 18) rfl ?_
    exact T_iret zk_31_18 rfl (fun σ' h => ⟨_, rfl, (by omega), h.1, trivial⟩)
  ·
    refine T_ld zk_31_6 rfl rfl rfl (pc' := 7) rfl ?_
    refine T_ld zk_31_7 rfl rfl rfl (pc' := 8) rfl ?_
    refine T_op zk_31_8 rfl X_ic (pc' := 9) rfl ?_
    refine T_op zk_31_9 rfl (X_div (by omega) (by omega)) (pc' := 10) rfl ?_
    refine T_op zk_31_10 rfl X_add (pc' := 11) rfl ?_
    refine T_goto zk_31_11 ?_
    exact T_iret zk_31_18 rfl (fun σ' h => ⟨_, rfl, (by omega), h.1, trivial⟩)
/-- W$Lagoon.highEnd -/
theorem c_32 {xs : Nat × (Nat → Int32)} (p0 : Int) (h0 : 0 ≤ p0 ∧ p0 ≤ 39) (σ : ZS) (hI : Inv σ)   : CT xs 1 32 [iv p0] σ (fun v σ' => ∃ y, v = some (iv y) ∧ (0 ≤ y ∧ y ≤ 24) ∧ IF MN σ σ' ∧ (True)) := by
  refine G_ct (J := (fun σ' => IF MN σ σ' ∧ True)) (L := [(0, iv p0)]) (nL := 1) rfl rfl rfl ⟨IF.rf hI, trivial⟩ ?_
  refine T_ld zk_32_0 rfl rfl rfl (pc' := 1) rfl ?_
  refine T_op zk_32_1 rfl (X_bi (v := 20) (by decide)) (pc' := 3) rfl ?_
  refine T_icmp_ge zk_32_3 (by omega) (by omega) (pc' := 6) rfl (fun h1 => ?_) (fun h2 => ?_)
  ·
    refine T_ld zk_32_16 rfl rfl rfl (pc' := 17) rfl ?_
    refine T_op zk_32_17 rfl (X_bi (v := 20) (by decide)) (pc' := 19) rfl ?_
    refine T_op zk_32_19 rfl X_sub (pc' := 20) rfl ?_
    refine T_op zk_32_20 rfl X_ic (pc' := 21) rfl ?_
    refine T_op zk_32_21 rfl X_add (pc' := 22) rfl ?_
    exact T_iret zk_32_22 rfl (fun σ' h => ⟨_, rfl, (by omega), h.1, trivial⟩)
  ·
    refine T_ld zk_32_6 rfl rfl rfl (pc' := 7) rfl ?_
    refine T_ld zk_32_7 rfl rfl rfl (pc' := 8) rfl ?_
    refine T_op zk_32_8 rfl X_ic (pc' := 9) rfl ?_
    refine T_op zk_32_9 rfl (X_div (by omega) (by omega)) (pc' := 10) rfl ?_
    refine T_op zk_32_10 rfl X_add (pc' := 11) rfl ?_
    refine T_op zk_32_11 rfl X_ic (pc' := 12) rfl ?_
    refine T_op zk_32_12 rfl X_add (pc' := 13) rfl ?_
    refine T_goto zk_32_13 ?_
    exact T_iret zk_32_22 rfl (fun σ' h => ⟨_, rfl, (by omega), h.1, trivial⟩)
/-- W$Lagoon.wayBetween -/
theorem c_30 {xs : Nat × (Nat → Int32)} (p0 : Int) (p1 : Int) (h0 : -2147483648 ≤ p0 ∧ p0 ≤ 2147483647) (h1 : -2147483648 ≤ p1 ∧ p1 ≤ 2147483647) (σ : ZS) (hI : Inv σ)   : CT xs 2 30 [iv p0, iv p1] σ (fun v σ' => ∃ y, v = some (iv y) ∧ ((y = -1 ∧ ¬ (0 ≤ p0 ∧ p0 ≤ 24 ∧ 0 ≤ p1 ∧ p1 ≤ 24 ∧ (p1 = p0 + 5 ∨ p0 = p1 + 5 ∨ (p1 = p0 + 1 ∧ p0 % 5 < 4) ∨ (p0 = p1 + 1 ∧ p1 % 5 < 4)))) ∨ (0 ≤ y ∧ y ≤ 39 ∧ (0 ≤ p0 ∧ p0 ≤ 24 ∧ 0 ≤ p1 ∧ p1 ≤ 24 ∧ (p1 = p0 + 5 ∨ p0 = p1 + 5 ∨ (p1 = p0 + 1 ∧ p0 % 5 < 4) ∨ (p0 = p1 + 1 ∧ p1 % 5 < 4))))) ∧ IF MN σ σ' ∧ (True)) := by
  refine G_ct (J := (fun σ' => IF MN σ σ' ∧ True)) (L := [(0, iv p0), (1, iv p1)]) (nL := 4) rfl rfl rfl ⟨IF.rf hI, trivial⟩ ?_
  refine T_ld zk_30_0 rfl rfl rfl (pc' := 1) rfl ?_
  refine T_calli (K := fun y1 σ' => ((y1 = 0 ∧ (p0 < 0 ∨ 24 < p0)) ∨ (y1 = 1 ∧ 0 ≤ p0 ∧ p0 ≤ 24)) ∧ (fun σ' => IF MN σ σ' ∧ True) σ') (r := []) zk_30_1 rfl rfl rfl rfl rfl rfl (Or.inl (Or.inr rfl)) (fun σ' h => (c_115 p0 (by omega) σ' h.1.1 ).le (Nat.le_of_ble_eq_true rfl) (fun v σ2 ⟨y, h1, h2, h3, h4⟩ => ⟨y, h1, h2, h.1.tr h3 MN_sub, trivial⟩)) (pc' := 4) rfl (fun y1 => ?_)
  refine G_ex (fun hy1 => ?_)
  refine T_if_eq zk_30_4 (by omega) (pc' := 7) rfl (fun h2 => ?_) (fun h3 => ?_)
  ·
    refine T_op zk_30_14 rfl X_ic (pc' := 15) rfl ?_
    exact T_iret zk_30_15 rfl (fun σ' h => ⟨_, rfl, (by omega), h.1, trivial⟩)
  ·
    refine T_ld zk_30_7 rfl rfl rfl (pc' := 8) rfl ?_
    refine T_calli (K := fun y4 σ' => ((y4 = 0 ∧ (p1 < 0 ∨ 24 < p1)) ∨ (y4 = 1 ∧ 0 ≤ p1 ∧ p1 ≤ 24)) ∧ (fun σ' => IF MN σ σ' ∧ True) σ') (r := []) zk_30_8 rfl rfl rfl rfl rfl rfl (Or.inl (Or.inr rfl)) (fun σ' h => (c_115 p1 (by omega) σ' h.1.1 ).le (Nat.le_of_ble_eq_true rfl) (fun v σ2 ⟨y, h1, h2, h3, h4⟩ => ⟨y, h1, h2, h.1.tr h3 MN_sub, trivial⟩)) (pc' := 11) rfl (fun y4 => ?_)
    refine G_ex (fun hy4 => ?_)
    refine T_if_ne zk_30_11 (by omega) (pc' := 14) rfl (fun h5 => ?_) (fun h6 => ?_)
    ·
      refine T_ld zk_30_16 rfl rfl rfl (pc' := 17) rfl ?_
      refine T_ld zk_30_17 rfl rfl rfl (pc' := 18) rfl ?_
      refine T_min zk_30_18 rfl (by omega) (by omega) rfl (pc' := 21) rfl (fun y7 hy7 hy7' ey7 => ?_)
      refine T_st (L' := [(0, iv p0), (1, iv p1), (2, iv y7)]) zk_30_21 (nL := 4) rfl rfl rfl rfl rfl (pc' := 22) rfl ?_
      refine T_ld zk_30_22 rfl rfl rfl (pc' := 23) rfl ?_
      refine T_ld zk_30_23 rfl rfl rfl (pc' := 24) rfl ?_
      refine T_max zk_30_24 rfl (by omega) (by omega) rfl (pc' := 27) rfl (fun y8 hy8 hy8' ey8 => ?_)
      refine T_ld zk_30_27 rfl rfl rfl (pc' := 28) rfl ?_
      refine T_op zk_30_28 rfl X_sub (pc' := 29) rfl ?_
      refine T_st (L' := [(0, iv p0), (1, iv p1), (2, iv y7), (3, iv (y8 - y7))]) zk_30_29 (nL := 4) rfl rfl rfl rfl rfl (pc' := 30) rfl ?_
      refine T_ld zk_30_30 rfl rfl rfl (pc' := 31) rfl ?_
      refine T_op zk_30_31 rfl X_ic (pc' := 32) rfl ?_
      refine T_icmp_ne zk_30_32 (by omega) (by omega) (pc' := 35) rfl (fun h9 => ?_) (fun h10 => ?_)
      ·
        refine T_ld zk_30_48 rfl rfl rfl (pc' := 49) rfl ?_
        refine T_op zk_30_49 rfl X_ic (pc' := 50) rfl ?_
        refine T_icmp_ne zk_30_50 (by omega) (by omega) (pc' := 53) rfl (fun h11 => ?_) (fun h12 => ?_)
        ·
          refine T_op zk_30_60 rfl X_ic (pc' := 61) rfl ?_
          exact T_iret zk_30_61 rfl (fun σ' h => ⟨_, rfl, (by omega), h.1, trivial⟩)
        ·
          refine T_op zk_30_53 rfl (X_bi (v := 20) (by decide)) (pc' := 55) rfl ?_
          refine T_ld zk_30_55 rfl rfl rfl (pc' := 56) rfl ?_
          refine T_op zk_30_56 rfl X_add (pc' := 57) rfl ?_
          refine T_goto zk_30_57 ?_
          exact T_iret zk_30_61 rfl (fun σ' h => ⟨_, rfl, (by omega), h.1, trivial⟩)
      ·
        refine T_ld zk_30_35 rfl rfl rfl (pc' := 36) rfl ?_
        refine T_op zk_30_36 rfl X_ic (pc' := 37) rfl ?_
        refine T_op zk_30_37 rfl (X_rem (by omega) (by omega)) (pc' := 38) rfl ?_
        refine T_op zk_30_38 rfl X_ic (pc' := 39) rfl ?_
        refine T_icmp_ge zk_30_39 (by omega) (by omega) (pc' := 42) rfl (fun h13 => ?_) (fun h14 => ?_)
        ·
          refine T_ld zk_30_48 rfl rfl rfl (pc' := 49) rfl ?_
          refine T_op zk_30_49 rfl X_ic (pc' := 50) rfl ?_
          refine T_icmp_ne zk_30_50 (by omega) (by omega) (pc' := 53) rfl (fun h15 => ?_) (fun h16 => ?_)
          ·
            refine T_op zk_30_60 rfl X_ic (pc' := 61) rfl ?_
            exact T_iret zk_30_61 rfl (fun σ' h => ⟨_, rfl, (by omega), h.1, trivial⟩)
          · exfalso; omega
        ·
          refine T_ld zk_30_42 rfl rfl rfl (pc' := 43) rfl ?_
          refine T_ld zk_30_43 rfl rfl rfl (pc' := 44) rfl ?_
          refine T_op zk_30_44 rfl X_ic (pc' := 45) rfl ?_
          refine T_op zk_30_45 rfl (X_div (by omega) (by omega)) (pc' := 46) rfl ?_
          refine T_op zk_30_46 rfl X_sub (pc' := 47) rfl ?_
          exact T_iret zk_30_47 rfl (fun σ' h => ⟨_, rfl, (by omega), h.1, trivial⟩)
    ·
      refine T_op zk_30_14 rfl X_ic (pc' := 15) rfl ?_
      exact T_iret zk_30_15 rfl (fun σ' h => ⟨_, rfl, (by omega), h.1, trivial⟩)
/-- W.refuse -/
theorem c_113 {xs : Nat × (Nat → Int32)} (p0 : Int) (h0 : -7 ≤ p0 ∧ p0 ≤ -1) (σ : ZS) (hI : Inv σ)   : CT xs 2 113 [av 0 0 0, iv p0] σ (fun v σ' => ∃ y, v = some (iv y) ∧ (y = p0) ∧ IF (MT 28 28 28 28) σ σ' ∧ (True)) := by
  refine G_ct (J := (fun σ' => IF (MT 28 28 28 28) σ σ' ∧ True)) (L := [(0, av 0 0 0), (1, iv p0)]) (nL := 2) rfl rfl rfl ⟨IF.rf hI, trivial⟩ ?_
  refine T_ld zk_113_0 rfl rfl rfl (pc' := 1) rfl ?_
  refine T_op zk_113_1 rfl X_neg (pc' := 2) rfl ?_
  refine T_op zk_113_2 rfl X_ic (pc' := 3) rfl ?_
  refine T_op zk_113_3 rfl (X_bi (v := 7) (by decide)) (pc' := 5) rfl ?_
  refine T_calli (K := fun y1 σ' => ((y1 = 0 ∧ (-p0 < 1 ∨ 7 < -p0)) ∨ (y1 = 1 ∧ 1 ≤ -p0 ∧ -p0 ≤ 7)) ∧ (fun σ' => IF (MT 28 28 28 28) σ σ' ∧ True) σ') (r := []) zk_113_5 rfl rfl rfl rfl rfl rfl (Or.inl (Or.inl rfl)) (fun σ' h => (c_114 (-p0) 1 7 (by omega) (by omega) (by omega) σ' h.1.1 ).le (Nat.le_of_ble_eq_true rfl) (fun v σ2 ⟨y, h1, h2, h3, h4⟩ => ⟨y, h1, h2, h.1.tr h3 MN_sub, trivial⟩)) (pc' := 8) rfl (fun y1 => ?_)
  refine G_ex (fun hy1 => ?_)
  refine T_if_eq zk_113_8 (by omega) (pc' := 11) rfl (fun h2 => ?_) (fun h3 => ?_)
  ·
    refine T_ld zk_113_22 rfl rfl rfl (pc' := 23) rfl ?_
    exact T_iret zk_113_23 rfl (fun σ' h => ⟨_, rfl, (by omega), h.1, trivial⟩)
  ·
    refine T_ld zk_113_11 rfl rfl rfl (pc' := 12) rfl ?_
    refine T_getR (t' := 28) (i' := 0) (k' := 0) zk_113_12 rfl rfl rfl vd_0 (pc' := 15) rfl ?_
    refine T_ld zk_113_15 rfl rfl rfl (pc' := 16) rfl ?_
    refine T_op zk_113_16 rfl X_neg (pc' := 17) rfl ?_
    refine T_op (st' := [iv (-p0), av 28 0 0, iv (-p0), av 28 0 0]) zk_113_17 rfl rfl (pc' := 18) rfl ?_
    refine G_iald (lo := -2147483648) (hi := 2147483647) (ln := 8) zk_113_18 rfl rfl vd_28 (by omega) (by omega) (by omega) (fun σ' h => h.1.1) (fun _ h => h.1) (pc' := 19) rfl (fun y4 hy4 hy4' => ?_)
    refine T_op zk_113_19 rfl X_ic (pc' := 20) rfl ?_
    refine G_unk zk_113_20 rfl (pc' := 21) rfl (fun y5 hy5 hy5' => ?_)
    refine G_iast (J' := (fun σ' => IF (MT 28 28 28 28) σ σ' ∧ True)) (ln := 8) zk_113_21 rfl rfl vd_28 (by omega) (by omega) (by omega) (fun σ' h => ⟨h.1.up ⟨by omega, trivial⟩ (by unfold MT; omega), trivial⟩) (pc' := 22) rfl ?_
    refine T_ld zk_113_22 rfl rfl rfl (pc' := 23) rfl ?_
    exact T_iret zk_113_23 rfl (fun σ' h => ⟨_, rfl, (by omega), h.1, trivial⟩)
/-- W.isHouse -/
theorem c_117e {xs : Nat × (Nat → Int32)} (p0 : Int) (h0 : -2147483648 ≤ p0 ∧ p0 ≤ 2147483647) (σ : ZS) (hI : Inv σ)  (s1 : σ 1 0 0 6 = 0) : CT xs 1 117 [av 0 0 0, iv p0] σ (fun v σ' => ∃ y, v = some (iv y) ∧ (y = 0) ∧ IF MN σ σ' ∧ (True)) := by
  refine G_ct (J := (fun σ' => IF MN σ σ' ∧ True)) (L := [(0, av 0 0 0), (1, iv p0)]) (nL := 2) rfl rfl rfl ⟨IF.rf hI, trivial⟩ ?_
  refine T_ld zk_117_0 rfl rfl rfl (pc' := 1) rfl ?_
  refine T_if_lt zk_117_1 (by omega) (pc' := 4) rfl (fun h1 => ?_) (fun h2 => ?_)
  ·
    refine T_op zk_117_19 rfl X_ic (pc' := 20) rfl ?_
    exact T_zret zk_117_20 rfl (by omega) (fun σ' h => ⟨_, rfl, (by omega), h.1, trivial⟩)
  ·
    refine T_ld zk_117_4 rfl rfl rfl (pc' := 5) rfl ?_
    refine T_ld zk_117_5 rfl rfl rfl (pc' := 6) rfl ?_
    refine T_getR (t' := 1) (i' := 0) (k' := 0) zk_117_6 rfl rfl rfl vd_0 (pc' := 9) rfl ?_
    refine G_getX (w := 0) zk_117_9 rfl (vd_1 (by omega)) (fun σ' h => (h.1.2 _ _ _ _ (fun q => q)).trans s1) (pc' := 12) rfl ?_
    refine T_icmp_ge zk_117_12 (by omega) (by omega) (pc' := 15) rfl (fun h3 => ?_) (fun h4 => ?_)
    ·
      refine T_op zk_117_19 rfl X_ic (pc' := 20) rfl ?_
      exact T_zret zk_117_20 rfl (by omega) (fun σ' h => ⟨_, rfl, (by omega), h.1, trivial⟩)
    · exfalso; omega
/-- W.isBoat -/
theorem c_118e {xs : Nat × (Nat → Int32)} (p0 : Int) (h0 : -2147483648 ≤ p0 ∧ p0 ≤ 2147483647) (σ : ZS) (hI : Inv σ)  (s1 : σ 1 0 0 7 = 0) : CT xs 1 118 [av 0 0 0, iv p0] σ (fun v σ' => ∃ y, v = some (iv y) ∧ (y = 0) ∧ IF MN σ σ' ∧ (True)) := by
  refine G_ct (J := (fun σ' => IF MN σ σ' ∧ True)) (L := [(0, av 0 0 0), (1, iv p0)]) (nL := 2) rfl rfl rfl ⟨IF.rf hI, trivial⟩ ?_
  refine T_ld zk_118_0 rfl rfl rfl (pc' := 1) rfl ?_
  refine T_if_lt zk_118_1 (by omega) (pc' := 4) rfl (fun h1 => ?_) (fun h2 => ?_)
  ·
    refine T_op zk_118_19 rfl X_ic (pc' := 20) rfl ?_
    exact T_zret zk_118_20 rfl (by omega) (fun σ' h => ⟨_, rfl, (by omega), h.1, trivial⟩)
  ·
    refine T_ld zk_118_4 rfl rfl rfl (pc' := 5) rfl ?_
    refine T_ld zk_118_5 rfl rfl rfl (pc' := 6) rfl ?_
    refine T_getR (t' := 1) (i' := 0) (k' := 0) zk_118_6 rfl rfl rfl vd_0 (pc' := 9) rfl ?_
    refine G_getX (w := 0) zk_118_9 rfl (vd_1 (by omega)) (fun σ' h => (h.1.2 _ _ _ _ (fun q => q)).trans s1) (pc' := 12) rfl ?_
    refine T_icmp_ge zk_118_12 (by omega) (by omega) (pc' := 15) rfl (fun h3 => ?_) (fun h4 => ?_)
    ·
      refine T_op zk_118_19 rfl X_ic (pc' := 20) rfl ?_
      exact T_zret zk_118_20 rfl (by omega) (fun σ' h => ⟨_, rfl, (by omega), h.1, trivial⟩)
    · exfalso; omega
/-- W.turn -/
theorem c_121_8 {xs : Nat × (Nat → Int32)} (p0 : Int) (p1 : Int) (h0 : 0 ≤ p0 ∧ p0 ≤ 39) (h1 : 0 ≤ p1 ∧ p1 ≤ 1) (σ : ZS) (hI : Inv σ)  (s1 : (∀ j, 0 ≤ j → j < 40 → σ 8 0 0 j = 0)) : CT xs 1 121 [av 8 0 0, iv p0, iv p1] σ (fun v σ' => ∃ y, v = some (iv y) ∧ (y = p1) ∧ IF (MT 8 8 8 8) σ σ' ∧ (True)) := by
  refine G_ct (J := (fun σ' => IF (MT 8 8 8 8) σ σ' ∧ (∀ j, 0 ≤ j → j < 40 → σ' 8 0 0 j = 0) ∧ True)) (L := [(0, av 8 0 0), (1, iv p0), (2, iv p1)]) (nL := 3) rfl rfl rfl ⟨IF.rf hI, s1, trivial⟩ ?_
  refine T_ld zk_121_0 rfl rfl rfl (pc' := 1) rfl ?_
  refine T_if_lt zk_121_1 (by omega) (pc' := 4) rfl (fun h1 => ?_) (fun h2 => ?_)
  · exfalso; omega
  ·
    refine T_ld zk_121_4 rfl rfl rfl (pc' := 5) rfl ?_
    refine T_ld zk_121_5 rfl rfl rfl (pc' := 6) rfl ?_
    refine T_alen (n := 40) zk_121_6 rfl rfl (vd_8 (by omega)) (pc' := 7) rfl ?_
    refine T_icmp_ge zk_121_7 (by omega) (by omega) (pc' := 10) rfl (fun h3 => ?_) (fun h4 => ?_)
    · exfalso; omega
    ·
      refine T_ld zk_121_10 rfl rfl rfl (pc' := 11) rfl ?_
      refine T_ld zk_121_11 rfl rfl rfl (pc' := 12) rfl ?_
      refine G_baldX (w := 0) (ln := 40) zk_121_12 rfl rfl (vd_8 (by omega)) (by omega) (by omega) (by omega) (fun σ' h => h.2.1 _ (by omega) (by omega)) (pc' := 13) rfl ?_
      refine T_ld zk_121_13 rfl rfl rfl (pc' := 14) rfl ?_
      refine T_icmp_ne zk_121_14 (by omega) (by omega) (pc' := 17) rfl (fun h5 => ?_) (fun h6 => ?_)
      ·
        refine T_ld zk_121_19 rfl rfl rfl (pc' := 20) rfl ?_
        refine T_ld zk_121_20 rfl rfl rfl (pc' := 21) rfl ?_
        refine T_ld zk_121_21 rfl rfl rfl (pc' := 22) rfl ?_
        refine G_bast (J' := (fun σ' => IF (MT 8 8 8 8) σ σ' ∧ True)) (ln := 40) zk_121_22 rfl rfl (by omega) (vd_8 (by omega)) (by omega) (by omega) (by omega) (fun σ' h => ⟨h.1.up (by simp only [rgP] <;> omega) (by unfold MT; omega), trivial⟩) (pc' := 23) rfl ?_
        refine T_op zk_121_23 rfl X_ic (pc' := 24) rfl ?_
        exact T_iret zk_121_24 rfl (fun σ' h => ⟨_, rfl, (by omega), h.1, trivial⟩)
      ·
        refine T_op zk_121_17 rfl X_ic (pc' := 18) rfl ?_
        exact T_iret zk_121_18 rfl (fun σ' h => ⟨_, rfl, (by omega), h.1, trivial⟩)
/-- W.turn -/
theorem c_121_9 {xs : Nat × (Nat → Int32)} (p0 : Int) (p1 : Int) (h0 : 0 ≤ p0 ∧ p0 ≤ 39) (h1 : 0 ≤ p1 ∧ p1 ≤ 1) (σ : ZS) (hI : Inv σ)  (s1 : (∀ j, 0 ≤ j → j < 40 → σ 9 0 0 j = 0)) : CT xs 1 121 [av 9 0 0, iv p0, iv p1] σ (fun v σ' => ∃ y, v = some (iv y) ∧ (y = p1) ∧ IF (MT 9 9 9 9) σ σ' ∧ (True)) := by
  refine G_ct (J := (fun σ' => IF (MT 9 9 9 9) σ σ' ∧ (∀ j, 0 ≤ j → j < 40 → σ' 9 0 0 j = 0) ∧ True)) (L := [(0, av 9 0 0), (1, iv p0), (2, iv p1)]) (nL := 3) rfl rfl rfl ⟨IF.rf hI, s1, trivial⟩ ?_
  refine T_ld zk_121_0 rfl rfl rfl (pc' := 1) rfl ?_
  refine T_if_lt zk_121_1 (by omega) (pc' := 4) rfl (fun h1 => ?_) (fun h2 => ?_)
  · exfalso; omega
  ·
    refine T_ld zk_121_4 rfl rfl rfl (pc' := 5) rfl ?_
    refine T_ld zk_121_5 rfl rfl rfl (pc' := 6) rfl ?_
    refine T_alen (n := 40) zk_121_6 rfl rfl (vd_9 (by omega)) (pc' := 7) rfl ?_
    refine T_icmp_ge zk_121_7 (by omega) (by omega) (pc' := 10) rfl (fun h3 => ?_) (fun h4 => ?_)
    · exfalso; omega
    ·
      refine T_ld zk_121_10 rfl rfl rfl (pc' := 11) rfl ?_
      refine T_ld zk_121_11 rfl rfl rfl (pc' := 12) rfl ?_
      refine G_baldX (w := 0) (ln := 40) zk_121_12 rfl rfl (vd_9 (by omega)) (by omega) (by omega) (by omega) (fun σ' h => h.2.1 _ (by omega) (by omega)) (pc' := 13) rfl ?_
      refine T_ld zk_121_13 rfl rfl rfl (pc' := 14) rfl ?_
      refine T_icmp_ne zk_121_14 (by omega) (by omega) (pc' := 17) rfl (fun h5 => ?_) (fun h6 => ?_)
      ·
        refine T_ld zk_121_19 rfl rfl rfl (pc' := 20) rfl ?_
        refine T_ld zk_121_20 rfl rfl rfl (pc' := 21) rfl ?_
        refine T_ld zk_121_21 rfl rfl rfl (pc' := 22) rfl ?_
        refine G_bast (J' := (fun σ' => IF (MT 9 9 9 9) σ σ' ∧ True)) (ln := 40) zk_121_22 rfl rfl (by omega) (vd_9 (by omega)) (by omega) (by omega) (by omega) (fun σ' h => ⟨h.1.up (by simp only [rgP] <;> omega) (by unfold MT; omega), trivial⟩) (pc' := 23) rfl ?_
        refine T_op zk_121_23 rfl X_ic (pc' := 24) rfl ?_
        exact T_iret zk_121_24 rfl (fun σ' h => ⟨_, rfl, (by omega), h.1, trivial⟩)
      ·
        refine T_op zk_121_17 rfl X_ic (pc' := 18) rfl ?_
        exact T_iret zk_121_18 rfl (fun σ' h => ⟨_, rfl, (by omega), h.1, trivial⟩)
/-- W$Mouths.numberAt -/
theorem c_62e {xs : Nat × (Nat → Int32)} (c : Nat) (p0 : Int) (hc : c < 3) (h0 : -2147483648 ≤ p0 ∧ p0 ≤ 2147483647) (σ : ZS) (hI : Inv σ)  (s1 : σ 11 c 0 0 = 0) : CT xs 1 62 [av 11 c 0, iv p0] σ (fun v σ' => ∃ y, v = some (iv y) ∧ (y = -1) ∧ IF MN σ σ' ∧ (True)) := by
  refine G_ct (J := (fun σ' => IF MN σ σ' ∧ True)) (L := [(0, av 11 c 0), (1, iv p0)]) (nL := 3) rfl rfl rfl ⟨IF.rf hI, trivial⟩ ?_
  refine T_op zk_62_0 rfl X_ic (pc' := 1) rfl ?_
  refine T_st (L' := [(0, av 11 c 0), (1, iv p0), (2, iv 0)]) zk_62_1 (nL := 3) rfl rfl rfl rfl rfl (pc' := 2) rfl ?_
  refine T_loop1 (fun x1 => ((0 : Int)).toNat) (fun x1 => (0 ≤ x1 ∧ x1 ≤ 0)) (fun x1 => TJ xs (fun σ' => IF MN σ σ' ∧ True) 0 62 2 [(0, av 11 c 0), (1, iv p0), (2, iv x1)] [] _) ?_ 0 (by omega)
  intro x1 hp3 ih2
  refine T_ld zk_62_2 rfl rfl rfl (pc' := 3) rfl ?_
  refine T_ld zk_62_3 rfl rfl rfl (pc' := 4) rfl ?_
  refine G_getX (w := 0) zk_62_4 rfl (vd_11 hc) (fun σ' h => (h.1.2 _ _ _ _ (fun q => q)).trans s1) (pc' := 7) rfl ?_
  refine T_icmp_ge zk_62_7 (by omega) (by omega) (pc' := 10) rfl (fun h4 => ?_) (fun h5 => ?_)
  ·
    refine T_op zk_62_28 rfl X_ic (pc' := 29) rfl ?_
    exact T_iret zk_62_29 rfl (fun σ' h => ⟨_, rfl, (by omega), h.1, trivial⟩)
  · exfalso; omega
/-- W$Mouths.add -/
theorem c_61e {xs : Nat × (Nat → Int32)} (p0 : Int) (h0 : 0 ≤ p0 ∧ p0 ≤ 24) (σ : ZS) (hI : Inv σ)  (s1 : σ 11 0 0 0 = 0) : CT xs 1 61 [av 11 0 0, iv p0] σ (fun v σ' => ∃ y, v = some (iv y) ∧ (y = 0) ∧ IF (MT 11 12 13 13) σ σ' ∧ (True)) := by
  refine G_ct (J := (fun σ' => IF (MT 11 12 13 13) σ σ' ∧ σ' 11 0 0 0 = 0 ∧ True)) (L := [(0, av 11 0 0), (1, iv p0)]) (nL := 2) rfl rfl rfl ⟨IF.rf hI, s1, trivial⟩ ?_
  refine T_ld zk_61_0 rfl rfl rfl (pc' := 1) rfl ?_
  refine T_getR (t' := 12) (i' := 0) (k' := 0) zk_61_1 rfl rfl rfl (vd_11 (by omega)) (pc' := 4) rfl ?_
  refine T_ld zk_61_4 rfl rfl rfl (pc' := 5) rfl ?_
  refine G_getX (w := 0) zk_61_5 rfl (vd_11 (by omega)) (fun σ' h => h.2.1) (pc' := 8) rfl ?_
  refine T_ld zk_61_8 rfl rfl rfl (pc' := 9) rfl ?_
  refine G_iast (J' := (fun σ' => IF (MT 11 12 13 13) σ σ' ∧ σ' 11 0 0 0 = 0 ∧ True)) (ln := 3) zk_61_9 rfl rfl (vd_12 (by omega)) (by omega) (by omega) (by omega) (fun σ' h => ⟨h.1.up (by simp only [rgP] <;> omega) (by unfold MT; omega), (up_ne (by omega)).trans (h.2.1), trivial⟩) (pc' := 10) rfl ?_
  refine T_ld zk_61_10 rfl rfl rfl (pc' := 11) rfl ?_
  refine T_getR (t' := 13) (i' := 0) (k' := 0) zk_61_11 rfl rfl rfl (vd_11 (by omega)) (pc' := 14) rfl ?_
  refine T_ld zk_61_14 rfl rfl rfl (pc' := 15) rfl ?_
  refine G_getX (w := 0) zk_61_15 rfl (vd_11 (by omega)) (fun σ' h => h.2.1) (pc' := 18) rfl ?_
  refine T_op zk_61_18 rfl X_ic (pc' := 19) rfl ?_
  refine G_bast (J' := (fun σ' => IF (MT 11 12 13 13) σ σ' ∧ σ' 11 0 0 0 = 0 ∧ True)) (ln := 3) zk_61_19 rfl rfl (by omega) (vd_13 (by omega)) (by omega) (by omega) (by omega) (fun σ' h => ⟨h.1.up (by simp only [rgP] <;> omega) (by unfold MT; omega), (up_ne (by omega)).trans (h.2.1), trivial⟩) (pc' := 20) rfl ?_
  refine T_ld zk_61_20 rfl rfl rfl (pc' := 21) rfl ?_
  refine T_op (st' := [av 11 0 0, av 11 0 0]) zk_61_21 rfl rfl (pc' := 22) rfl ?_
  refine G_getX (w := 0) zk_61_22 rfl (vd_11 (by omega)) (fun σ' h => h.2.1) (pc' := 25) rfl ?_
  refine T_op zk_61_25 rfl X_ic (pc' := 26) rfl ?_
  refine T_opc (w := 1) zk_61_26 rfl X_add (by omega) (pc' := 27) rfl ?_
  refine T_putf (J' := (fun σ' => IF (MT 11 12 13 13) σ σ' ∧ σ' 11 0 0 0 = 1 ∧ True)) zk_61_27 rfl rfl (vd_11 (by omega)) (fun σ' h => ⟨h.1.up (by simp only [rgP] <;> omega) (by unfold MT; omega), up_eq, trivial⟩) (pc' := 30) rfl ?_
  refine T_ld zk_61_30 rfl rfl rfl (pc' := 31) rfl ?_
  refine G_getX (w := 1) zk_61_31 rfl (vd_11 (by omega)) (fun σ' h => h.2.1) (pc' := 34) rfl ?_
  refine T_op zk_61_34 rfl X_ic (pc' := 35) rfl ?_
  refine T_opc (w := 0) zk_61_35 rfl X_sub (by omega) (pc' := 36) rfl ?_
  exact T_iret zk_61_36 rfl (fun σ' h => ⟨_, rfl, (by omega), h.1, trivial⟩)
/-- W$Tide.heightIn -/
theorem c_73e {xs : Nat × (Nat → Int32)} (c k : Nat) (p0 : Int) (hc : c < 3) (hk : k < 2) (h0 : -2147483648 ≤ p0 ∧ p0 ≤ 2147483647) (σ : ZS) (hI : Inv σ)  (s1 : σ 17 c k 0 = 0) : CT xs 1 73 [av 17 c k, iv p0] σ (fun v σ' => ∃ y, v = some (iv y) ∧ (y = 0) ∧ IF MN σ σ' ∧ (True)) := by
  refine G_ct (J := (fun σ' => IF MN σ σ' ∧ True)) (L := [(0, av 17 c k), (1, iv p0)]) (nL := 2) rfl rfl rfl ⟨IF.rf hI, trivial⟩ ?_
  refine T_ld zk_73_0 rfl rfl rfl (pc' := 1) rfl ?_
  refine G_getX (w := 0) zk_73_1 rfl (vd_17 hc (by omega)) (fun σ' h => (h.1.2 _ _ _ _ (fun q => q)).trans s1) (pc' := 4) rfl ?_
  refine T_if_le zk_73_4 (by omega) (pc' := 7) rfl (fun h1 => ?_) (fun h2 => ?_)
  ·
    refine T_op zk_73_11 rfl X_ic (pc' := 12) rfl ?_
    refine T_goto zk_73_12 ?_
    exact T_iret zk_73_26 rfl (fun σ' h => ⟨_, rfl, (by omega), h.1, trivial⟩)
  · exfalso; omega
/-- W$City.boatsWithGoal -/
theorem c_18e {xs : Nat × (Nat → Int32)} (c : Nat) (hc : c < 3) (σ : ZS) (hI : Inv σ)  (s1 : σ 1 c 0 7 = 0) : CT xs 1 18 [av 1 c 0] σ (fun v σ' => ∃ y, v = some (iv y) ∧ (y = 0) ∧ IF MN σ σ' ∧ (True)) := by
  refine G_ct (J := (fun σ' => IF MN σ σ' ∧ True)) (L := [(0, av 1 c 0)]) (nL := 3) rfl rfl rfl ⟨IF.rf hI, trivial⟩ ?_
  refine T_op zk_18_0 rfl X_ic (pc' := 1) rfl ?_
  refine T_st (L' := [(0, av 1 c 0), (1, iv 0)]) zk_18_1 (nL := 3) rfl rfl rfl rfl rfl (pc' := 2) rfl ?_
  refine T_op zk_18_2 rfl X_ic (pc' := 3) rfl ?_
  refine T_st (L' := [(0, av 1 c 0), (1, iv 0), (2, iv 0)]) zk_18_3 (nL := 3) rfl rfl rfl rfl rfl (pc' := 4) rfl ?_
  refine T_loop2 (fun x1 x2 => ((0 : Int)).toNat) (fun x1 x2 => (0 ≤ x1 ∧ x1 ≤ 0) ∧ (0 ≤ x2 ∧ x2 ≤ 0)) (fun x1 x2 => TJ xs (fun σ' => IF MN σ σ' ∧ True) 0 18 4 [(0, av 1 c 0), (1, iv x1), (2, iv x2)] [] _) ?_ 0 0 (by omega)
  intro x1 x2 hp4 ih3
  refine T_ld zk_18_4 rfl rfl rfl (pc' := 5) rfl ?_
  refine T_ld zk_18_5 rfl rfl rfl (pc' := 6) rfl ?_
  refine G_getX (w := 0) zk_18_6 rfl (vd_1 hc) (fun σ' h => (h.1.2 _ _ _ _ (fun q => q)).trans s1) (pc' := 9) rfl ?_
  refine T_icmp_ge zk_18_9 (by omega) (by omega) (pc' := 12) rfl (fun h5 => ?_) (fun h6 => ?_)
  ·
    refine T_ld zk_18_34 rfl rfl rfl (pc' := 35) rfl ?_
    exact T_iret zk_18_35 rfl (fun σ' h => ⟨_, rfl, (by omega), h.1, trivial⟩)
  · exfalso; omega
/-- W$City.lawsInForce -/
theorem c_19e {xs : Nat × (Nat → Int32)} (c : Nat) (hc : c < 3) (σ : ZS) (hI : Inv σ)  (s1 : σ 1 c 0 5 = 0) : CT xs 1 19 [av 1 c 0] σ (fun v σ' => ∃ y, v = some (iv y) ∧ (y = 0) ∧ IF MN σ σ' ∧ (True)) := by
  refine G_ct (J := (fun σ' => IF MN σ σ' ∧ True)) (L := [(0, av 1 c 0)]) (nL := 3) rfl rfl rfl ⟨IF.rf hI, trivial⟩ ?_
  refine T_op zk_19_0 rfl X_ic (pc' := 1) rfl ?_
  refine T_st (L' := [(0, av 1 c 0), (1, iv 0)]) zk_19_1 (nL := 3) rfl rfl rfl rfl rfl (pc' := 2) rfl ?_
  refine T_op zk_19_2 rfl X_ic (pc' := 3) rfl ?_
  refine T_st (L' := [(0, av 1 c 0), (1, iv 0), (2, iv 0)]) zk_19_3 (nL := 3) rfl rfl rfl rfl rfl (pc' := 4) rfl ?_
  refine T_loop2 (fun x1 x2 => ((0 : Int)).toNat) (fun x1 x2 => (0 ≤ x1 ∧ x1 ≤ 0) ∧ (0 ≤ x2 ∧ x2 ≤ 0)) (fun x1 x2 => TJ xs (fun σ' => IF MN σ σ' ∧ True) 0 19 4 [(0, av 1 c 0), (1, iv x1), (2, iv x2)] [] _) ?_ 0 0 (by omega)
  intro x1 x2 hp4 ih3
  refine T_ld zk_19_4 rfl rfl rfl (pc' := 5) rfl ?_
  refine T_ld zk_19_5 rfl rfl rfl (pc' := 6) rfl ?_
  refine G_getX (w := 0) zk_19_6 rfl (vd_1 hc) (fun σ' h => (h.1.2 _ _ _ _ (fun q => q)).trans s1) (pc' := 9) rfl ?_
  refine T_icmp_ge zk_19_9 (by omega) (by omega) (pc' := 12) rfl (fun h5 => ?_) (fun h6 => ?_)
  ·
    refine T_ld zk_19_33 rfl rfl rfl (pc' := 34) rfl ?_
    exact T_iret zk_19_34 rfl (fun σ' h => ⟨_, rfl, (by omega), h.1, trivial⟩)
  · exfalso; omega
/-- W$City.enforce -/
theorem c_20e {xs : Nat × (Nat → Int32)} (c : Nat) (p0 : Int) (hc : c < 3) (h0 : -2147483648 ≤ p0 ∧ p0 ≤ 2147483647) (σ : ZS) (hI : Inv σ)  (s1 : σ 1 c 0 5 = 0) : CT xs 1 20 [av 1 c 0, iv p0] σ (fun v σ' => v = none ∧ IF MN σ σ' ∧ (True)) := by
  refine G_ct (J := (fun σ' => IF MN σ σ' ∧ True)) (L := [(0, av 1 c 0), (1, iv p0)]) (nL := 3) rfl rfl rfl ⟨IF.rf hI, trivial⟩ ?_
  refine T_op zk_20_0 rfl X_ic (pc' := 1) rfl ?_
  refine T_st (L' := [(0, av 1 c 0), (1, iv p0), (2, iv 0)]) zk_20_1 (nL := 3) rfl rfl rfl rfl rfl (pc' := 2) rfl ?_
  refine T_loop1 (fun x1 => ((0 : Int)).toNat) (fun x1 => (0 ≤ x1 ∧ x1 ≤ 0)) (fun x1 => TJ xs (fun σ' => IF MN σ σ' ∧ True) 0 20 2 [(0, av 1 c 0), (1, iv p0), (2, iv x1)] [] _) ?_ 0 (by omega)
  intro x1 hp3 ih2
  refine T_ld zk_20_2 rfl rfl rfl (pc' := 3) rfl ?_
  refine T_ld zk_20_3 rfl rfl rfl (pc' := 4) rfl ?_
  refine G_getX (w := 0) zk_20_4 rfl (vd_1 hc) (fun σ' h => (h.1.2 _ _ _ _ (fun q => q)).trans s1) (pc' := 7) rfl ?_
  refine T_icmp_ge zk_20_7 (by omega) (by omega) (pc' := 10) rfl (fun h4 => ?_) (fun h5 => ?_)
  ·
    exact T_vret zk_20_39 rfl (fun σ' h => ⟨rfl, h.1, trivial⟩)
  · exfalso; omega
/-- W$City.troubles -/
theorem c_21e {xs : Nat × (Nat → Int32)} (c : Nat) (hc : c < 3) (σ : ZS) (hI : Inv σ)  (s1 : σ 1 c 0 6 = 0) (s2 : σ 1 c 0 7 = 0) : CT xs 1 21 [av 1 c 0] σ (fun v σ' => ∃ y, v = some (iv y) ∧ (y = 0) ∧ IF MN σ σ' ∧ (True)) := by
  refine G_ct (J := (fun σ' => IF MN σ σ' ∧ True)) (L := [(0, av 1 c 0)]) (nL := 3) rfl rfl rfl ⟨IF.rf hI, trivial⟩ ?_
  refine T_op zk_21_0 rfl X_ic (pc' := 1) rfl ?_
  refine T_st (L' := [(0, av 1 c 0), (1, iv 0)]) zk_21_1 (nL := 3) rfl rfl rfl rfl rfl (pc' := 2) rfl ?_
  refine T_op zk_21_2 rfl X_ic (pc' := 3) rfl ?_
  refine T_st (L' := [(0, av 1 c 0), (1, iv 0), (2, iv 0)]) zk_21_3 (nL := 3) rfl rfl rfl rfl rfl (pc' := 4) rfl ?_
  refine T_loop2 (fun x1 x2 => ((0 : Int)).toNat) (fun x1 x2 => (0 ≤ x1 ∧ x1 ≤ 0) ∧ (0 ≤ x2 ∧ x2 ≤ 0)) (fun x1 x2 => TJ xs (fun σ' => IF MN σ σ' ∧ True) 0 21 4 [(0, av 1 c 0), (1, iv x1), (2, iv x2)] [] _) ?_ 0 0 (by omega)
  intro x1 x2 hp4 ih3
  refine T_ld zk_21_4 rfl rfl rfl (pc' := 5) rfl ?_
  refine T_ld zk_21_5 rfl rfl rfl (pc' := 6) rfl ?_
  refine G_getX (w := 0) zk_21_6 rfl (vd_1 hc) (fun σ' h => (h.1.2 _ _ _ _ (fun q => q)).trans s1) (pc' := 9) rfl ?_
  refine T_icmp_ge zk_21_9 (by omega) (by omega) (pc' := 12) rfl (fun h5 => ?_) (fun h6 => ?_)
  ·
    refine T_op zk_21_33 rfl X_ic (pc' := 34) rfl ?_
    refine T_st (L' := [(0, av 1 c 0), (1, iv x1), (2, iv 0)]) zk_21_34 (nL := 3) rfl rfl rfl rfl rfl (pc' := 35) rfl ?_
    refine T_ld zk_21_35 rfl rfl rfl (pc' := 36) rfl ?_
    refine T_ld zk_21_36 rfl rfl rfl (pc' := 37) rfl ?_
    refine G_getX (w := 0) zk_21_37 rfl (vd_1 hc) (fun σ' h => (h.1.2 _ _ _ _ (fun q => q)).trans s2) (pc' := 40) rfl ?_
    refine T_icmp_ge zk_21_40 (by omega) (by omega) (pc' := 43) rfl (fun h7 => ?_) (fun h8 => ?_)
    ·
      refine T_ld zk_21_61 rfl rfl rfl (pc' := 62) rfl ?_
      exact T_iret zk_21_62 rfl (fun σ' h => ⟨_, rfl, (by omega), h.1, trivial⟩)
    · exfalso; omega
  · exfalso; omega
/-- W$Mouths.shutCount -/
theorem c_63e {xs : Nat × (Nat → Int32)} (c : Nat) (hc : c < 3) (σ : ZS) (hI : Inv σ)  (s1 : σ 11 c 0 0 = 0) : CT xs 1 63 [av 11 c 0] σ (fun v σ' => ∃ y, v = some (iv y) ∧ (y = 0) ∧ IF MN σ σ' ∧ (True)) := by
  refine G_ct (J := (fun σ' => IF MN σ σ' ∧ True)) (L := [(0, av 11 c 0)]) (nL := 3) rfl rfl rfl ⟨IF.rf hI, trivial⟩ ?_
  refine T_op zk_63_0 rfl X_ic (pc' := 1) rfl ?_
  refine T_st (L' := [(0, av 11 c 0), (1, iv 0)]) zk_63_1 (nL := 3) rfl rfl rfl rfl rfl (pc' := 2) rfl ?_
  refine T_op zk_63_2 rfl X_ic (pc' := 3) rfl ?_
  refine T_st (L' := [(0, av 11 c 0), (1, iv 0), (2, iv 0)]) zk_63_3 (nL := 3) rfl rfl rfl rfl rfl (pc' := 4) rfl ?_
  refine T_loop2 (fun x1 x2 => ((0 : Int)).toNat) (fun x1 x2 => (0 ≤ x1 ∧ x1 ≤ 0) ∧ (0 ≤ x2 ∧ x2 ≤ 0)) (fun x1 x2 => TJ xs (fun σ' => IF MN σ σ' ∧ True) 0 63 4 [(0, av 11 c 0), (1, iv x1), (2, iv x2)] [] _) ?_ 0 0 (by omega)
  intro x1 x2 hp4 ih3
  refine T_ld zk_63_4 rfl rfl rfl (pc' := 5) rfl ?_
  refine T_ld zk_63_5 rfl rfl rfl (pc' := 6) rfl ?_
  refine G_getX (w := 0) zk_63_6 rfl (vd_11 hc) (fun σ' h => (h.1.2 _ _ _ _ (fun q => q)).trans s1) (pc' := 9) rfl ?_
  refine T_icmp_ge zk_63_9 (by omega) (by omega) (pc' := 12) rfl (fun h5 => ?_) (fun h6 => ?_)
  ·
    refine T_ld zk_63_30 rfl rfl rfl (pc' := 31) rfl ?_
    exact T_iret zk_63_31 rfl (fun σ' h => ⟨_, rfl, (by omega), h.1, trivial⟩)
  · exfalso; omega
/-- W$Lagoon.greatestLevel -/
theorem c_33 {xs : Nat × (Nat → Int32)} (c : Nat) (hc : c < 3) (σ : ZS) (hI : Inv σ)   : CT xs 1 33 [av 2 c 0] σ (fun v σ' => ∃ y, v = some (iv y) ∧ (-2147483648 ≤ y ∧ y ≤ 2147483647) ∧ IF MN σ σ' ∧ (True)) := by
  refine G_ct (J := (fun σ' => IF MN σ σ' ∧ True)) (L := [(0, av 2 c 0)]) (nL := 3) rfl rfl rfl ⟨IF.rf hI, trivial⟩ ?_
  refine T_ld zk_33_0 rfl rfl rfl (pc' := 1) rfl ?_
  refine T_getR (t' := 4) (i' := c) (k' := 0) zk_33_1 rfl rfl rfl (vd_2 hc) (pc' := 4) rfl ?_
  refine T_op zk_33_4 rfl X_ic (pc' := 5) rfl ?_
  refine G_iald (lo := -2147483648) (hi := 2147483647) (ln := 25) zk_33_5 rfl rfl (vd_4 hc) (by omega) (by omega) (by omega) (fun σ' h => h.1.1) (fun _ h => h.1) (pc' := 6) rfl (fun y1 hy1 hy1' => ?_)
  refine T_st (L' := [(0, av 2 c 0), (1, iv y1)]) zk_33_6 (nL := 3) rfl rfl rfl rfl rfl (pc' := 7) rfl ?_
  refine T_op zk_33_7 rfl X_ic (pc' := 8) rfl ?_
  refine T_st (L' := [(0, av 2 c 0), (1, iv y1), (2, iv 1)]) zk_33_8 (nL := 3) rfl rfl rfl rfl rfl (pc' := 9) rfl ?_
  refine T_loop2 (fun x2 x3 => ((25 - x3 : Int)).toNat) (fun x2 x3 => (-2147483648 ≤ x2 ∧ x2 ≤ 2147483647) ∧ (0 ≤ x3 ∧ x3 ≤ 25)) (fun x2 x3 => TJ xs (fun σ' => IF MN σ σ' ∧ True) 0 33 9 [(0, av 2 c 0), (1, iv x2), (2, iv x3)] [] _) ?_ y1 1 (by omega)
  intro x2 x3 hp5 ih4
  refine T_ld zk_33_9 rfl rfl rfl (pc' := 10) rfl ?_
  refine T_op zk_33_10 rfl (X_bi (v := 25) (by decide)) (pc' := 12) rfl ?_
  refine T_icmp_ge zk_33_12 (by omega) (by omega) (pc' := 15) rfl (fun h6 => ?_) (fun h7 => ?_)
  ·
    refine T_ld zk_33_32 rfl rfl rfl (pc' := 33) rfl ?_
    exact T_iret zk_33_33 rfl (fun σ' h => ⟨_, rfl, (by omega), h.1, trivial⟩)
  ·
    refine T_ld zk_33_15 rfl rfl rfl (pc' := 16) rfl ?_
    refine T_ld zk_33_16 rfl rfl rfl (pc' := 17) rfl ?_
    refine T_getR (t' := 4) (i' := c) (k' := 0) zk_33_17 rfl rfl rfl (vd_2 hc) (pc' := 20) rfl ?_
    refine T_ld zk_33_20 rfl rfl rfl (pc' := 21) rfl ?_
    refine G_iald (lo := -2147483648) (hi := 2147483647) (ln := 25) zk_33_21 rfl rfl (vd_4 hc) (by omega) (by omega) (by omega) (fun σ' h => h.1.1) (fun _ h => h.1) (pc' := 22) rfl (fun y8 hy8 hy8' => ?_)
    refine T_max zk_33_22 rfl (by omega) (by omega) rfl (pc' := 25) rfl (fun y9 hy9 hy9' ey9 => ?_)
    refine T_st (L' := [(0, av 2 c 0), (1, iv y9), (2, iv x3)]) zk_33_25 (nL := 3) rfl rfl rfl rfl rfl (pc' := 26) rfl ?_
    refine T_iinc (L' := [(0, av 2 c 0), (1, iv y9), (2, iv (x3 + 1))]) zk_33_26 (nL := 3) rfl rfl rfl rfl (pc' := 29) rfl ?_
    refine T_goto zk_33_29 ?_
    exact ih4 y9 (x3 + 1) (by omega) (by omega)
/-- W$Lagoon.sumOfLevels -/
theorem c_34e {xs : Nat × (Nat → Int32)} (c : Nat) (hc : c < 3) (σ : ZS) (hI : Inv σ)  (s1 : (∀ j, 0 ≤ j → j < 25 → σ 4 c 0 j = 0)) : CT xs 1 34 [av 2 c 0] σ (fun v σ' => ∃ y, v = some (iv y) ∧ (y = 0) ∧ IF MN σ σ' ∧ (True)) := by
  refine G_ct (J := (fun σ' => IF MN σ σ' ∧ True)) (L := [(0, av 2 c 0)]) (nL := 3) rfl rfl rfl ⟨IF.rf hI, trivial⟩ ?_
  refine T_op zk_34_0 rfl X_ic (pc' := 1) rfl ?_
  refine T_st (L' := [(0, av 2 c 0), (1, iv 0)]) zk_34_1 (nL := 3) rfl rfl rfl rfl rfl (pc' := 2) rfl ?_
  refine T_op zk_34_2 rfl X_ic (pc' := 3) rfl ?_
  refine T_st (L' := [(0, av 2 c 0), (1, iv 0), (2, iv 0)]) zk_34_3 (nL := 3) rfl rfl rfl rfl rfl (pc' := 4) rfl ?_
  refine T_loop2 (fun x1 x2 => ((25 - x2 : Int)).toNat) (fun x1 x2 => (0 ≤ x1 ∧ x1 ≤ 0) ∧ (0 ≤ x2 ∧ x2 ≤ 25)) (fun x1 x2 => TJ xs (fun σ' => IF MN σ σ' ∧ True) 0 34 4 [(0, av 2 c 0), (1, iv x1), (2, iv x2)] [] _) ?_ 0 0 (by omega)
  intro x1 x2 hp4 ih3
  refine T_ld zk_34_4 rfl rfl rfl (pc' := 5) rfl ?_
  refine T_op zk_34_5 rfl (X_bi (v := 25) (by decide)) (pc' := 7) rfl ?_
  refine T_icmp_ge zk_34_7 (by omega) (by omega) (pc' := 10) rfl (fun h5 => ?_) (fun h6 => ?_)
  ·
    refine T_ld zk_34_25 rfl rfl rfl (pc' := 26) rfl ?_
    exact T_iret zk_34_26 rfl (fun σ' h => ⟨_, rfl, (by omega), h.1, trivial⟩)
  ·
    refine T_ld zk_34_10 rfl rfl rfl (pc' := 11) rfl ?_
    refine T_ld zk_34_11 rfl rfl rfl (pc' := 12) rfl ?_
    refine T_getR (t' := 4) (i' := c) (k' := 0) zk_34_12 rfl rfl rfl (vd_2 hc) (pc' := 15) rfl ?_
    refine T_ld zk_34_15 rfl rfl rfl (pc' := 16) rfl ?_
    refine G_ialdX (w := 0) (ln := 25) zk_34_16 rfl rfl (vd_4 hc) (by omega) (by omega) (by omega) (fun σ' h => (h.1.2 _ _ _ _ (fun q => q)).trans (s1 _ (by omega) (by omega))) (pc' := 17) rfl ?_
    refine T_opc (w := 0) zk_34_17 rfl X_add (by omega) (pc' := 18) rfl ?_
    refine T_st (L' := [(0, av 2 c 0), (1, iv 0), (2, iv x2)]) zk_34_18 (nL := 3) rfl rfl rfl rfl rfl (pc' := 19) rfl ?_
    refine T_iinc (L' := [(0, av 2 c 0), (1, iv 0), (2, iv (x2 + 1))]) zk_34_19 (nL := 3) rfl rfl rfl rfl (pc' := 22) rfl ?_
    refine T_goto zk_34_22 ?_
    exact ih3 0 (x2 + 1) (by omega) (by omega)
