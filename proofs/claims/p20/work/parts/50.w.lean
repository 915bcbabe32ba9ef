theorem zk_10_0 : zc 10 0 = some (.iload_n 1, 0, 0, 0, 0) := rfl
theorem zk_10_1 : zc 10 1 = some (.ifCond .eq 10, 11, 0, 0, 0) := rfl
theorem zk_10_4 : zc 10 4 = some (.aload_n 0, 0, 0, 0, 0) := rfl
theorem zk_10_5 : zc 10 5 = some (.getfield 50, 2, 9, 0, 17) := rfl
theorem zk_10_8 : zc 10 8 = some (.goto 7, 15, 0, 0, 0) := rfl
theorem zk_10_11 : zc 10 11 = some (.aload_n 0, 0, 0, 0, 0) := rfl
theorem zk_10_12 : zc 10 12 = some (.getfield 46, 2, 8, 0, 16) := rfl
theorem zk_10_15 : zc 10 15 = some (.areturn, 0, 0, 0, 0) := rfl
theorem zk_18_0 : zc 18 0 = some (.iconst 0, 0, 0, 0, 0) := rfl
theorem zk_18_1 : zc 18 1 = some (.istore_n 1, 0, 0, 0, 0) := rfl
theorem zk_18_2 : zc 18 2 = some (.iconst 0, 0, 0, 0, 0) := rfl
theorem zk_18_3 : zc 18 3 = some (.istore_n 2, 0, 0, 0, 0) := rfl
theorem zk_18_4 : zc 18 4 = some (.iload_n 2, 0, 0, 0, 0) := rfl
theorem zk_18_5 : zc 18 5 = some (.aload_n 0, 0, 0, 0, 0) := rfl
theorem zk_18_6 : zc 18 6 = some (.getfield 172, 2, 7, 0, 38) := rfl
theorem zk_18_9 : zc 18 9 = some (.if_icmp .ge 25, 34, 0, 0, 0) := rfl
theorem zk_18_12 : zc 18 12 = some (.aload_n 0, 0, 0, 0, 0) := rfl
theorem zk_18_13 : zc 18 13 = some (.getfield 39, 2, 4, 0, 15) := rfl
theorem zk_18_16 : zc 18 16 = some (.iload_n 2, 0, 0, 0, 0) := rfl
theorem zk_18_17 : zc 18 17 = some (.aaload, 0, 0, 0, 0) := rfl
theorem zk_18_18 : zc 18 18 = some (.getfield 178, 0, 5, 0, 40) := rfl
theorem zk_18_21 : zc 18 21 = some (.iconst (-1), 0, 0, 0, 0) := rfl
theorem zk_18_22 : zc 18 22 = some (.if_icmp .eq 6, 28, 0, 0, 0) := rfl
theorem zk_18_25 : zc 18 25 = some (.iinc 1 1, 0, 0, 0, 0) := rfl
theorem zk_18_28 : zc 18 28 = some (.iinc 2 1, 0, 0, 0, 0) := rfl
theorem zk_18_31 : zc 18 31 = some (.goto (-27), 4, 0, 0, 0) := rfl
theorem zk_18_34 : zc 18 34 = some (.iload_n 1, 0, 0, 0, 0) := rfl
theorem zk_18_35 : zc 18 35 = some (.ireturn, 0, 0, 0, 0) := rfl
theorem zk_19_0 : zc 19 0 = some (.iconst 0, 0, 0, 0, 0) := rfl
theorem zk_19_1 : zc 19 1 = some (.istore_n 1, 0, 0, 0, 0) := rfl
theorem zk_19_2 : zc 19 2 = some (.iconst 0, 0, 0, 0, 0) := rfl
theorem zk_19_3 : zc 19 3 = some (.istore_n 2, 0, 0, 0, 0) := rfl
theorem zk_19_4 : zc 19 4 = some (.iload_n 2, 0, 0, 0, 0) := rfl
theorem zk_19_5 : zc 19 5 = some (.aload_n 0, 0, 0, 0, 0) := rfl
theorem zk_19_6 : zc 19 6 = some (.getfield 159, 2, 5, 0, 35) := rfl
theorem zk_19_9 : zc 19 9 = some (.if_icmp .ge 24, 33, 0, 0, 0) := rfl
theorem zk_19_12 : zc 19 12 = some (.aload_n 0, 0, 0, 0, 0) := rfl
theorem zk_19_13 : zc 19 13 = some (.getfield 27, 2, 2, 0, 13) := rfl
theorem zk_19_16 : zc 19 16 = some (.iload_n 2, 0, 0, 0, 0) := rfl
theorem zk_19_17 : zc 19 17 = some (.aaload, 0, 0, 0, 0) := rfl
theorem zk_19_18 : zc 19 18 = some (.getfield 162, 5, 1, 0, 36) := rfl
theorem zk_19_21 : zc 19 21 = some (.ifCond .eq 6, 27, 0, 0, 0) := rfl
theorem zk_19_24 : zc 19 24 = some (.iinc 1 1, 0, 0, 0, 0) := rfl
theorem zk_19_27 : zc 19 27 = some (.iinc 2 1, 0, 0, 0, 0) := rfl
theorem zk_19_30 : zc 19 30 = some (.goto (-26), 4, 0, 0, 0) := rfl
theorem zk_19_33 : zc 19 33 = some (.iload_n 1, 0, 0, 0, 0) := rfl
theorem zk_19_34 : zc 19 34 = some (.ireturn, 0, 0, 0, 0) := rfl
theorem zk_20_0 : zc 20 0 = some (.iconst 0, 0, 0, 0, 0) := rfl
theorem zk_20_1 : zc 20 1 = some (.istore_n 2, 0, 0, 0, 0) := rfl
theorem zk_20_2 : zc 20 2 = some (.iload_n 2, 0, 0, 0, 0) := rfl
theorem zk_20_3 : zc 20 3 = some (.aload_n 0, 0, 0, 0, 0) := rfl
theorem zk_20_4 : zc 20 4 = some (.getfield 159, 2, 5, 0, 35) := rfl
theorem zk_20_7 : zc 20 7 = some (.if_icmp .ge 32, 39, 0, 0, 0) := rfl
theorem zk_20_10 : zc 20 10 = some (.aload_n 0, 0, 0, 0, 0) := rfl
theorem zk_20_11 : zc 20 11 = some (.getfield 27, 2, 2, 0, 13) := rfl
theorem zk_20_14 : zc 20 14 = some (.iload_n 2, 0, 0, 0, 0) := rfl
theorem zk_20_15 : zc 20 15 = some (.aaload, 0, 0, 0, 0) := rfl
theorem zk_20_16 : zc 20 16 = some (.iload_n 1, 0, 0, 0, 0) := rfl
theorem zk_20_17 : zc 20 17 = some (.iload_n 2, 0, 0, 0, 0) := rfl
theorem zk_20_18 : zc 20 18 = some (.ishr, 0, 0, 0, 0) := rfl
theorem zk_20_19 : zc 20 19 = some (.iconst 1, 0, 0, 0, 0) := rfl
theorem zk_20_20 : zc 20 20 = some (.iand, 0, 0, 0, 0) := rfl
theorem zk_20_21 : zc 20 21 = some (.iconst 1, 0, 0, 0, 0) := rfl
theorem zk_20_22 : zc 20 22 = some (.if_icmp .ne 7, 29, 0, 0, 0) := rfl
theorem zk_20_25 : zc 20 25 = some (.iconst 1, 0, 0, 0, 0) := rfl
theorem zk_20_26 : zc 20 26 = some (.goto 4, 30, 0, 0, 0) := rfl
theorem zk_20_29 : zc 20 29 = some (.iconst 0, 0, 0, 0, 0) := rfl
theorem zk_20_30 : zc 20 30 = some (.putfield 162, 5, 1, 0, 36) := rfl
theorem zk_20_33 : zc 20 33 = some (.iinc 2 1, 0, 0, 0, 0) := rfl
theorem zk_20_36 : zc 20 36 = some (.goto (-34), 2, 0, 0, 0) := rfl
theorem zk_20_39 : zc 20 39 = some (.return_, 0, 0, 0, 0) := rfl
theorem zk_21_0 : zc 21 0 = some (.iconst 0, 0, 0, 0, 0) := rfl
theorem zk_21_1 : zc 21 1 = some (.istore_n 1, 0, 0, 0, 0) := rfl
theorem zk_21_2 : zc 21 2 = some (.iconst 0, 0, 0, 0, 0) := rfl
theorem zk_21_3 : zc 21 3 = some (.istore_n 2, 0, 0, 0, 0) := rfl
theorem zk_21_4 : zc 21 4 = some (.iload_n 2, 0, 0, 0, 0) := rfl
theorem zk_21_5 : zc 21 5 = some (.aload_n 0, 0, 0, 0, 0) := rfl
theorem zk_21_6 : zc 21 6 = some (.getfield 135, 2, 6, 0, 30) := rfl
theorem zk_21_9 : zc 21 9 = some (.if_icmp .ge 24, 33, 0, 0, 0) := rfl
theorem zk_21_12 : zc 21 12 = some (.iload_n 1, 0, 0, 0, 0) := rfl
theorem zk_21_13 : zc 21 13 = some (.bipush 10, 0, 0, 0, 0) := rfl
theorem zk_21_15 : zc 21 15 = some (.aload_n 0, 0, 0, 0, 0) := rfl
theorem zk_21_16 : zc 21 16 = some (.getfield 33, 2, 3, 0, 14) := rfl
theorem zk_21_19 : zc 21 19 = some (.iload_n 2, 0, 0, 0, 0) := rfl
theorem zk_21_20 : zc 21 20 = some (.aaload, 0, 0, 0, 0) := rfl
theorem zk_21_21 : zc 21 21 = some (.getfield 224, 3, 6, 0, 48) := rfl
theorem zk_21_24 : zc 21 24 = some (.imul, 0, 0, 0, 0) := rfl
theorem zk_21_25 : zc 21 25 = some (.iadd, 0, 0, 0, 0) := rfl
theorem zk_21_26 : zc 21 26 = some (.istore_n 1, 0, 0, 0, 0) := rfl
theorem zk_21_27 : zc 21 27 = some (.iinc 2 1, 0, 0, 0, 0) := rfl
theorem zk_21_30 : zc 21 30 = some (.goto (-26), 4, 0, 0, 0) := rfl
theorem zk_21_33 : zc 21 33 = some (.iconst 0, 0, 0, 0, 0) := rfl
theorem zk_21_34 : zc 21 34 = some (.istore_n 2, 0, 0, 0, 0) := rfl
theorem zk_21_35 : zc 21 35 = some (.iload_n 2, 0, 0, 0, 0) := rfl
theorem zk_21_36 : zc 21 36 = some (.aload_n 0, 0, 0, 0, 0) := rfl
theorem zk_21_37 : zc 21 37 = some (.getfield 172, 2, 7, 0, 38) := rfl
theorem zk_21_40 : zc 21 40 = some (.if_icmp .ge 21, 61, 0, 0, 0) := rfl
theorem zk_21_43 : zc 21 43 = some (.iload_n 1, 0, 0, 0, 0) := rfl
theorem zk_21_44 : zc 21 44 = some (.aload_n 0, 0, 0, 0, 0) := rfl
theorem zk_21_45 : zc 21 45 = some (.getfield 39, 2, 4, 0, 15) := rfl
theorem zk_21_48 : zc 21 48 = some (.iload_n 2, 0, 0, 0, 0) := rfl
theorem zk_21_49 : zc 21 49 = some (.aaload, 0, 0, 0, 0) := rfl
theorem zk_21_50 : zc 21 50 = some (.getfield 196, 0, 6, 0, 43) := rfl
theorem zk_21_53 : zc 21 53 = some (.iadd, 0, 0, 0, 0) := rfl
theorem zk_21_54 : zc 21 54 = some (.istore_n 1, 0, 0, 0, 0) := rfl
theorem zk_21_55 : zc 21 55 = some (.iinc 2 1, 0, 0, 0, 0) := rfl
theorem zk_21_58 : zc 21 58 = some (.goto (-23), 35, 0, 0, 0) := rfl
theorem zk_21_61 : zc 21 61 = some (.iload_n 1, 0, 0, 0, 0) := rfl
theorem zk_21_62 : zc 21 62 = some (.ireturn, 0, 0, 0, 0) := rfl
theorem zk_30_0 : zc 30 0 = some (.iload_n 0, 0, 0, 0, 0) := rfl
theorem zk_30_1 : zc 30 1 = some (.invokestatic 43, 115, 3, 1, 48) := rfl
theorem zk_30_4 : zc 30 4 = some (.ifCond .eq 10, 14, 0, 0, 0) := rfl
theorem zk_30_7 : zc 30 7 = some (.iload_n 1, 0, 0, 0, 0) := rfl
theorem zk_30_8 : zc 30 8 = some (.invokestatic 43, 115, 3, 1, 48) := rfl
theorem zk_30_11 : zc 30 11 = some (.ifCond .ne 5, 16, 0, 0, 0) := rfl
theorem zk_30_14 : zc 30 14 = some (.iconst (-1), 0, 0, 0, 0) := rfl
theorem zk_30_15 : zc 30 15 = some (.ireturn, 0, 0, 0, 0) := rfl
theorem zk_30_16 : zc 30 16 = some (.iload_n 0, 0, 0, 0, 0) := rfl
theorem zk_30_17 : zc 30 17 = some (.iload_n 1, 0, 0, 0, 0) := rfl
theorem zk_30_18 : zc 30 18 = some (.invokestatic 47, 0, 8, 0, 49) := rfl
theorem zk_30_21 : zc 30 21 = some (.istore_n 2, 0, 0, 0, 0) := rfl
theorem zk_30_22 : zc 30 22 = some (.iload_n 0, 0, 0, 0, 0) := rfl
theorem zk_30_23 : zc 30 23 = some (.iload_n 1, 0, 0, 0, 0) := rfl
theorem zk_30_24 : zc 30 24 = some (.invokestatic 53, 0, 7, 0, 50) := rfl
theorem zk_30_27 : zc 30 27 = some (.iload_n 2, 0, 0, 0, 0) := rfl
theorem zk_30_28 : zc 30 28 = some (.isub, 0, 0, 0, 0) := rfl
theorem zk_30_29 : zc 30 29 = some (.istore_n 3, 0, 0, 0, 0) := rfl
theorem zk_30_30 : zc 30 30 = some (.iload_n 3, 0, 0, 0, 0) := rfl
theorem zk_30_31 : zc 30 31 = some (.iconst 1, 0, 0, 0, 0) := rfl
theorem zk_30_32 : zc 30 32 = some (.if_icmp .ne 16, 48, 0, 0, 0) := rfl
theorem zk_30_35 : zc 30 35 = some (.iload_n 2, 0, 0, 0, 0) := rfl
theorem zk_30_36 : zc 30 36 = some (.iconst 5, 0, 0, 0, 0) := rfl
theorem zk_30_37 : zc 30 37 = some (.irem, 0, 0, 0, 0) := rfl
theorem zk_30_38 : zc 30 38 = some (.iconst 4, 0, 0, 0, 0) := rfl
theorem zk_30_39 : zc 30 39 = some (.if_icmp .ge 9, 48, 0, 0, 0) := rfl
theorem zk_30_42 : zc 30 42 = some (.iload_n 2, 0, 0, 0, 0) := rfl
theorem zk_30_43 : zc 30 43 = some (.iload_n 2, 0, 0, 0, 0) := rfl
theorem zk_30_44 : zc 30 44 = some (.iconst 5, 0, 0, 0, 0) := rfl
theorem zk_30_45 : zc 30 45 = some (.idiv, 0, 0, 0, 0) := rfl
theorem zk_30_46 : zc 30 46 = some (.isub, 0, 0, 0, 0) := rfl
theorem zk_30_47 : zc 30 47 = some (.ireturn, 0, 0, 0, 0) := rfl
theorem zk_30_48 : zc 30 48 = some (.iload_n 3, 0, 0, 0, 0) := rfl
theorem zk_30_49 : zc 30 49 = some (.iconst 5, 0, 0, 0, 0) := rfl
theorem zk_30_50 : zc 30 50 = some (.if_icmp .ne 10, 60, 0, 0, 0) := rfl
theorem zk_30_53 : zc 30 53 = some (.bipush 20, 0, 0, 0, 0) := rfl
theorem zk_30_55 : zc 30 55 = some (.iload_n 2, 0, 0, 0, 0) := rfl
theorem zk_30_56 : zc 30 56 = some (.iadd, 0, 0, 0, 0) := rfl
theorem zk_30_57 : zc 30 57 = some (.goto 4, 61, 0, 0, 0) := rfl
theorem zk_30_60 : zc 30 60 = some (.iconst (-1), 0, 0, 0, 0) := rfl
theorem zk_30_61 : zc 30 61 = some (.ireturn, 0, 0, 0, 0) := rfl
theorem zk_31_0 : zc 31 0 = some (.iload_n 0, 0, 0, 0, 0) := rfl
theorem zk_31_1 : zc 31 1 = some (.bipush 20, 0, 0, 0, 0) := rfl
theorem zk_31_3 : zc 31 3 = some (.if_icmp .ge 11, 14, 0, 0, 0) := rfl
theorem zk_31_6 : zc 31 6 = some (.iload_n 0, 0, 0, 0, 0) := rfl
theorem zk_31_7 : zc 31 7 = some (.iload_n 0, 0, 0, 0, 0) := rfl
theorem zk_31_8 : zc 31 8 = some (.iconst 4, 0, 0, 0, 0) := rfl
theorem zk_31_9 : zc 31 9 = some (.idiv, 0, 0, 0, 0) := rfl
theorem zk_31_10 : zc 31 10 = some (.iadd, 0, 0, 0, 0) := rfl
theorem zk_31_11 : zc 31 11 = some (.goto 7, 18, 0, 0, 0) := rfl
theorem zk_31_14 : zc 31 14 = some (.iload_n 0, 0, 0, 0, 0) := rfl
theorem zk_31_15 : zc 31 15 = some (.bipush 20, 0, 0, 0, 0) := rfl
theorem zk_31_17 : zc 31 17 = some (.isub, 0, 0, 0, 0) := rfl
theorem zk_31_18 : zc 31 18 = some (.ireturn, 0, 0, 0, 0) := rfl
theorem zk_32_0 : zc 32 0 = some (.iload_n 0, 0, 0, 0, 0) := rfl
theorem zk_32_1 : zc 32 1 = some (.bipush 20, 0, 0, 0, 0) := rfl
theorem zk_32_3 : zc 32 3 = some (.if_icmp .ge 13, 16, 0, 0, 0) := rfl
theorem zk_32_6 : zc 32 6 = some (.iload_n 0, 0, 0, 0, 0) := rfl
theorem zk_32_7 : zc 32 7 = some (.iload_n 0, 0, 0, 0, 0) := rfl
theorem zk_32_8 : zc 32 8 = some (.iconst 4, 0, 0, 0, 0) := rfl
theorem zk_32_9 : zc 32 9 = some (.idiv, 0, 0, 0, 0) := rfl
theorem zk_32_10 : zc 32 10 = some (.iadd, 0, 0, 0, 0) := rfl
theorem zk_32_11 : zc 32 11 = some (.iconst 1, 0, 0, 0, 0) := rfl
theorem zk_32_12 : zc 32 12 = some (.iadd, 0, 0, 0, 0) := rfl
theorem zk_32_13 : zc 32 13 = some (.goto 9, 22, 0, 0, 0) := rfl
theorem zk_32_16 : zc 32 16 = some (.iload_n 0, 0, 0, 0, 0) := rfl
theorem zk_32_17 : zc 32 17 = some (.bipush 20, 0, 0, 0, 0) := rfl
theorem zk_32_19 : zc 32 19 = some (.isub, 0, 0, 0, 0) := rfl
theorem zk_32_20 : zc 32 20 = some (.iconst 5, 0, 0, 0, 0) := rfl
theorem zk_32_21 : zc 32 21 = some (.iadd, 0, 0, 0, 0) := rfl
theorem zk_32_22 : zc 32 22 = some (.ireturn, 0, 0, 0, 0) := rfl
theorem zk_33_0 : zc 33 0 = some (.aload_n 0, 0, 0, 0, 0) := rfl
theorem zk_33_1 : zc 33 1 = some (.getfield 15, 4, 1, 0, 60) := rfl
theorem zk_33_4 : zc 33 4 = some (.iconst 0, 0, 0, 0, 0) := rfl
theorem zk_33_5 : zc 33 5 = some (.iaload, 0, 0, 0, 0) := rfl
theorem zk_33_6 : zc 33 6 = some (.istore_n 1, 0, 0, 0, 0) := rfl
theorem zk_33_7 : zc 33 7 = some (.iconst 1, 0, 0, 0, 0) := rfl
theorem zk_33_8 : zc 33 8 = some (.istore_n 2, 0, 0, 0, 0) := rfl
theorem zk_33_9 : zc 33 9 = some (.iload_n 2, 0, 0, 0, 0) := rfl
theorem zk_33_10 : zc 33 10 = some (.bipush 25, 0, 0, 0, 0) := rfl
theorem zk_33_12 : zc 33 12 = some (.if_icmp .ge 20, 32, 0, 0, 0) := rfl
theorem zk_33_15 : zc 33 15 = some (.iload_n 1, 0, 0, 0, 0) := rfl
theorem zk_33_16 : zc 33 16 = some (.aload_n 0, 0, 0, 0, 0) := rfl
theorem zk_33_17 : zc 33 17 = some (.getfield 15, 4, 1, 0, 60) := rfl
theorem zk_33_20 : zc 33 20 = some (.iload_n 2, 0, 0, 0, 0) := rfl
theorem zk_33_21 : zc 33 21 = some (.iaload, 0, 0, 0, 0) := rfl
theorem zk_33_22 : zc 33 22 = some (.invokestatic 53, 0, 7, 0, 50) := rfl
theorem zk_33_25 : zc 33 25 = some (.istore_n 1, 0, 0, 0, 0) := rfl
theorem zk_33_26 : zc 33 26 = some (.iinc 2 1, 0, 0, 0, 0) := rfl
theorem zk_33_29 : zc 33 29 = some (.goto (-20), 9, 0, 0, 0) := rfl
theorem zk_33_32 : zc 33 32 = some (.iload_n 1, 0, 0, 0, 0) := rfl
theorem zk_33_33 : zc 33 33 = some (.ireturn, 0, 0, 0, 0) := rfl
theorem zk_34_0 : zc 34 0 = some (.iconst 0, 0, 0, 0, 0) := rfl
theorem zk_34_1 : zc 34 1 = some (.istore_n 1, 0, 0, 0, 0) := rfl
theorem zk_34_2 : zc 34 2 = some (.iconst 0, 0, 0, 0, 0) := rfl
theorem zk_34_3 : zc 34 3 = some (.istore_n 2, 0, 0, 0, 0) := rfl
theorem zk_34_4 : zc 34 4 = some (.iload_n 2, 0, 0, 0, 0) := rfl
theorem zk_34_5 : zc 34 5 = some (.bipush 25, 0, 0, 0, 0) := rfl
theorem zk_34_7 : zc 34 7 = some (.if_icmp .ge 18, 25, 0, 0, 0) := rfl
theorem zk_34_10 : zc 34 10 = some (.iload_n 1, 0, 0, 0, 0) := rfl
theorem zk_34_11 : zc 34 11 = some (.aload_n 0, 0, 0, 0, 0) := rfl
theorem zk_34_12 : zc 34 12 = some (.getfield 15, 4, 1, 0, 60) := rfl
theorem zk_34_15 : zc 34 15 = some (.iload_n 2, 0, 0, 0, 0) := rfl
theorem zk_34_16 : zc 34 16 = some (.iaload, 0, 0, 0, 0) := rfl
theorem zk_34_17 : zc 34 17 = some (.iadd, 0, 0, 0, 0) := rfl
theorem zk_34_18 : zc 34 18 = some (.istore_n 1, 0, 0, 0, 0) := rfl
theorem zk_34_19 : zc 34 19 = some (.iinc 2 1, 0, 0, 0, 0) := rfl
theorem zk_34_22 : zc 34 22 = some (.goto (-18), 4, 0, 0, 0) := rfl
theorem zk_34_25 : zc 34 25 = some (.iload_n 1, 0, 0, 0, 0) := rfl
theorem zk_34_26 : zc 34 26 = some (.ireturn, 0, 0, 0, 0) := rfl
theorem zk_61_0 : zc 61 0 = some (.aload_n 0, 0, 0, 0, 0) := rfl
theorem zk_61_1 : zc 61 1 = some (.getfield 9, 7, 1, 0, 80) := rfl
theorem zk_61_4 : zc 61 4 = some (.aload_n 0, 0, 0, 0, 0) := rfl
theorem zk_61_5 : zc 61 5 = some (.getfield 19, 7, 0, 0, 82) := rfl
theorem zk_61_8 : zc 61 8 = some (.iload_n 1, 0, 0, 0, 0) := rfl
theorem zk_61_9 : zc 61 9 = some (.iastore, 0, 0, 0, 0) := rfl
theorem zk_61_10 : zc 61 10 = some (.aload_n 0, 0, 0, 0, 0) := rfl
theorem zk_61_11 : zc 61 11 = some (.getfield 15, 7, 2, 0, 81) := rfl
theorem zk_61_14 : zc 61 14 = some (.aload_n 0, 0, 0, 0, 0) := rfl
theorem zk_61_15 : zc 61 15 = some (.getfield 19, 7, 0, 0, 82) := rfl
theorem zk_61_18 : zc 61 18 = some (.iconst 0, 0, 0, 0, 0) := rfl
theorem zk_61_19 : zc 61 19 = some (.bastore, 0, 0, 0, 0) := rfl
theorem zk_61_20 : zc 61 20 = some (.aload_n 0, 0, 0, 0, 0) := rfl
theorem zk_61_21 : zc 61 21 = some (.dup, 0, 0, 0, 0) := rfl
theorem zk_61_22 : zc 61 22 = some (.getfield 19, 7, 0, 0, 82) := rfl
theorem zk_61_25 : zc 61 25 = some (.iconst 1, 0, 0, 0, 0) := rfl
theorem zk_61_26 : zc 61 26 = some (.iadd, 0, 0, 0, 0) := rfl
theorem zk_61_27 : zc 61 27 = some (.putfield 19, 7, 0, 0, 82) := rfl
theorem zk_61_30 : zc 61 30 = some (.aload_n 0, 0, 0, 0, 0) := rfl
theorem zk_61_31 : zc 61 31 = some (.getfield 19, 7, 0, 0, 82) := rfl
theorem zk_61_34 : zc 61 34 = some (.iconst 1, 0, 0, 0, 0) := rfl
theorem zk_61_35 : zc 61 35 = some (.isub, 0, 0, 0, 0) := rfl
theorem zk_61_36 : zc 61 36 = some (.ireturn, 0, 0, 0, 0) := rfl
theorem zk_62_0 : zc 62 0 = some (.iconst 0, 0, 0, 0, 0) := rfl
theorem zk_62_1 : zc 62 1 = some (.istore_n 2, 0, 0, 0, 0) := rfl
theorem zk_62_2 : zc 62 2 = some (.iload_n 2, 0, 0, 0, 0) := rfl
theorem zk_62_3 : zc 62 3 = some (.aload_n 0, 0, 0, 0, 0) := rfl
theorem zk_62_4 : zc 62 4 = some (.getfield 19, 7, 0, 0, 82) := rfl
theorem zk_62_7 : zc 62 7 = some (.if_icmp .ge 21, 28, 0, 0, 0) := rfl
theorem zk_62_10 : zc 62 10 = some (.aload_n 0, 0, 0, 0, 0) := rfl
theorem zk_62_11 : zc 62 11 = some (.getfield 9, 7, 1, 0, 80) := rfl
theorem zk_62_14 : zc 62 14 = some (.iload_n 2, 0, 0, 0, 0) := rfl
theorem zk_62_15 : zc 62 15 = some (.iaload, 0, 0, 0, 0) := rfl
theorem zk_62_16 : zc 62 16 = some (.iload_n 1, 0, 0, 0, 0) := rfl
theorem zk_62_17 : zc 62 17 = some (.if_icmp .ne 5, 22, 0, 0, 0) := rfl
theorem zk_62_20 : zc 62 20 = some (.iload_n 2, 0, 0, 0, 0) := rfl
theorem zk_62_21 : zc 62 21 = some (.ireturn, 0, 0, 0, 0) := rfl
theorem zk_62_22 : zc 62 22 = some (.iinc 2 1, 0, 0, 0, 0) := rfl
theorem zk_62_25 : zc 62 25 = some (.goto (-23), 2, 0, 0, 0) := rfl
theorem zk_62_28 : zc 62 28 = some (.iconst (-1), 0, 0, 0, 0) := rfl
theorem zk_62_29 : zc 62 29 = some (.ireturn, 0, 0, 0, 0) := rfl
theorem zk_63_0 : zc 63 0 = some (.iconst 0, 0, 0, 0, 0) := rfl
theorem zk_63_1 : zc 63 1 = some (.istore_n 1, 0, 0, 0, 0) := rfl
theorem zk_63_2 : zc 63 2 = some (.iconst 0, 0, 0, 0, 0) := rfl
theorem zk_63_3 : zc 63 3 = some (.istore_n 2, 0, 0, 0, 0) := rfl
theorem zk_63_4 : zc 63 4 = some (.iload_n 2, 0, 0, 0, 0) := rfl
theorem zk_63_5 : zc 63 5 = some (.aload_n 0, 0, 0, 0, 0) := rfl
theorem zk_63_6 : zc 63 6 = some (.getfield 19, 7, 0, 0, 82) := rfl
theorem zk_63_9 : zc 63 9 = some (.if_icmp .ge 21, 30, 0, 0, 0) := rfl
theorem zk_63_12 : zc 63 12 = some (.aload_n 0, 0, 0, 0, 0) := rfl
theorem zk_63_13 : zc 63 13 = some (.getfield 15, 7, 2, 0, 81) := rfl
theorem zk_63_16 : zc 63 16 = some (.iload_n 2, 0, 0, 0, 0) := rfl
theorem zk_63_17 : zc 63 17 = some (.baload, 0, 0, 0, 0) := rfl
theorem zk_63_18 : zc 63 18 = some (.ifCond .eq 6, 24, 0, 0, 0) := rfl
theorem zk_63_21 : zc 63 21 = some (.iinc 1 1, 0, 0, 0, 0) := rfl
theorem zk_63_24 : zc 63 24 = some (.iinc 2 1, 0, 0, 0, 0) := rfl
theorem zk_63_27 : zc 63 27 = some (.goto (-23), 4, 0, 0, 0) := rfl
theorem zk_63_30 : zc 63 30 = some (.iload_n 1, 0, 0, 0, 0) := rfl
theorem zk_63_31 : zc 63 31 = some (.ireturn, 0, 0, 0, 0) := rfl
theorem zk_66_0 : zc 66 0 = some (.aload_n 0, 0, 0, 0, 0) := rfl
theorem zk_66_1 : zc 66 1 = some (.iconst 1, 0, 0, 0, 0) := rfl
theorem zk_66_2 : zc 66 2 = some (.putfield 9, 8, 0, 0, 83) := rfl
theorem zk_66_5 : zc 66 5 = some (.aload_n 0, 0, 0, 0, 0) := rfl
theorem zk_66_6 : zc 66 6 = some (.iload_n 1, 0, 0, 0, 0) := rfl
theorem zk_66_7 : zc 66 7 = some (.putfield 19, 8, 1, 0, 85) := rfl
theorem zk_66_10 : zc 66 10 = some (.aload_n 0, 0, 0, 0, 0) := rfl
theorem zk_66_11 : zc 66 11 = some (.iload_n 2, 0, 0, 0, 0) := rfl
theorem zk_66_12 : zc 66 12 = some (.putfield 22, 8, 2, 0, 86) := rfl
theorem zk_66_15 : zc 66 15 = some (.aload_n 0, 0, 0, 0, 0) := rfl
theorem zk_66_16 : zc 66 16 = some (.getfield 15, 8, 4, 0, 84) := rfl
theorem zk_66_19 : zc 66 19 = some (.lconst 0, 0, 0, 0, 0) := rfl
theorem zk_66_20 : zc 66 20 = some (.invokestatic 25, 189, 1, 2, 77) := rfl
theorem zk_66_23 : zc 66 23 = some (.return_, 0, 0, 0, 0) := rfl
theorem zk_67_0 : zc 67 0 = some (.aload_n 0, 0, 0, 0, 0) := rfl
theorem zk_67_1 : zc 67 1 = some (.getfield 19, 8, 1, 0, 85) := rfl
theorem zk_67_4 : zc 67 4 = some (.tableswitch 66 0 2 #[28, 41, 54], 0, 0, 0, 0) := rfl
theorem zk_67_32 : zc 67 32 = some (.aload_n 0, 0, 0, 0, 0) := rfl
theorem zk_67_33 : zc 67 33 = some (.getfield 15, 8, 4, 0, 84) := rfl
theorem zk_67_36 : zc 67 36 = some (.iload_n 1, 0, 0, 0, 0) := rfl
theorem zk_67_37 : zc 67 37 = some (.lload_n 2, 0, 0, 0, 0) := rfl
theorem zk_67_38 : zc 67 38 = some (.l2i, 0, 0, 0, 0) := rfl
theorem zk_67_39 : zc 67 39 = some (.i2b, 0, 0, 0, 0) := rfl
theorem zk_67_40 : zc 67 40 = some (.i2l, 0, 0, 0, 0) := rfl
theorem zk_67_41 : zc 67 41 = some (.lastore, 0, 0, 0, 0) := rfl
theorem zk_67_42 : zc 67 42 = some (.goto 35, 77, 0, 0, 0) := rfl
theorem zk_67_45 : zc 67 45 = some (.aload_n 0, 0, 0, 0, 0) := rfl
theorem zk_67_46 : zc 67 46 = some (.getfield 15, 8, 4, 0, 84) := rfl
theorem zk_67_49 : zc 67 49 = some (.iload_n 1, 0, 0, 0, 0) := rfl
theorem zk_67_50 : zc 67 50 = some (.lload_n 2, 0, 0, 0, 0) := rfl
theorem zk_67_51 : zc 67 51 = some (.l2i, 0, 0, 0, 0) := rfl
theorem zk_67_52 : zc 67 52 = some (.i2s, 0, 0, 0, 0) := rfl
theorem zk_67_53 : zc 67 53 = some (.i2l, 0, 0, 0, 0) := rfl
theorem zk_67_54 : zc 67 54 = some (.lastore, 0, 0, 0, 0) := rfl
theorem zk_67_55 : zc 67 55 = some (.goto 22, 77, 0, 0, 0) := rfl
theorem zk_67_58 : zc 67 58 = some (.aload_n 0, 0, 0, 0, 0) := rfl
theorem zk_67_59 : zc 67 59 = some (.getfield 15, 8, 4, 0, 84) := rfl
theorem zk_67_62 : zc 67 62 = some (.iload_n 1, 0, 0, 0, 0) := rfl
theorem zk_67_63 : zc 67 63 = some (.lload_n 2, 0, 0, 0, 0) := rfl
theorem zk_67_64 : zc 67 64 = some (.l2i, 0, 0, 0, 0) := rfl
theorem zk_67_65 : zc 67 65 = some (.i2l, 0, 0, 0, 0) := rfl
theorem zk_67_66 : zc 67 66 = some (.lastore, 0, 0, 0, 0) := rfl
theorem zk_67_67 : zc 67 67 = some (.goto 10, 77, 0, 0, 0) := rfl
theorem zk_67_70 : zc 67 70 = some (.aload_n 0, 0, 0, 0, 0) := rfl
theorem zk_67_71 : zc 67 71 = some (.getfield 15, 8, 4, 0, 84) := rfl
theorem zk_67_74 : zc 67 74 = some (.iload_n 1, 0, 0, 0, 0) := rfl
theorem zk_67_75 : zc 67 75 = some (.lload_n 2, 0, 0, 0, 0) := rfl
theorem zk_67_76 : zc 67 76 = some (.lastore, 0, 0, 0, 0) := rfl
theorem zk_67_77 : zc 67 77 = some (.return_, 0, 0, 0, 0) := rfl
theorem zk_68_0 : zc 68 0 = some (.iload_n 1, 0, 0, 0, 0) := rfl
theorem zk_68_1 : zc 68 1 = some (.ifCond .lt 21, 22, 0, 0, 0) := rfl
theorem zk_68_4 : zc 68 4 = some (.iload_n 1, 0, 0, 0, 0) := rfl
theorem zk_68_5 : zc 68 5 = some (.i2l, 0, 0, 0, 0) := rfl
theorem zk_68_6 : zc 68 6 = some (.iload_n 2, 0, 0, 0, 0) := rfl
theorem zk_68_7 : zc 68 7 = some (.i2l, 0, 0, 0, 0) := rfl
theorem zk_68_8 : zc 68 8 = some (.ladd, 0, 0, 0, 0) := rfl
theorem zk_68_9 : zc 68 9 = some (.aload_n 0, 0, 0, 0, 0) := rfl
theorem zk_68_10 : zc 68 10 = some (.getfield 22, 8, 2, 0, 86) := rfl
theorem zk_68_13 : zc 68 13 = some (.i2l, 0, 0, 0, 0) := rfl
theorem zk_68_14 : zc 68 14 = some (.lcmp, 0, 0, 0, 0) := rfl
theorem zk_68_15 : zc 68 15 = some (.ifCond .gt 7, 22, 0, 0, 0) := rfl
theorem zk_68_18 : zc 68 18 = some (.iconst 1, 0, 0, 0, 0) := rfl
theorem zk_68_19 : zc 68 19 = some (.goto 4, 23, 0, 0, 0) := rfl
theorem zk_68_22 : zc 68 22 = some (.iconst 0, 0, 0, 0, 0) := rfl
theorem zk_68_23 : zc 68 23 = some (.ireturn, 0, 0, 0, 0) := rfl
theorem zk_69_0 : zc 69 0 = some (.aload_n 0, 0, 0, 0, 0) := rfl
theorem zk_69_1 : zc 69 1 = some (.getfield 19, 8, 1, 0, 85) := rfl
theorem zk_69_4 : zc 69 4 = some (.tableswitch 85 0 2 #[28, 47, 66], 0, 0, 0, 0) := rfl
theorem zk_69_32 : zc 69 32 = some (.aload_n 0, 0, 0, 0, 0) := rfl
theorem zk_69_33 : zc 69 33 = some (.getfield 15, 8, 4, 0, 84) := rfl
theorem zk_69_36 : zc 69 36 = some (.iload_n 1, 0, 0, 0, 0) := rfl
theorem zk_69_37 : zc 69 37 = some (.laload, 0, 0, 0, 0) := rfl
theorem zk_69_38 : zc 69 38 = some (.ldc2_w 31, 0, 0, -128, 1) := rfl
theorem zk_69_41 : zc 69 41 = some (.lcmp, 0, 0, 0, 0) := rfl
theorem zk_69_42 : zc 69 42 = some (.ifCond .ne 7, 49, 0, 0, 0) := rfl
theorem zk_69_45 : zc 69 45 = some (.iconst 1, 0, 0, 0, 0) := rfl
theorem zk_69_46 : zc 69 46 = some (.goto 4, 50, 0, 0, 0) := rfl
theorem zk_69_49 : zc 69 49 = some (.iconst 0, 0, 0, 0, 0) := rfl
theorem zk_69_50 : zc 69 50 = some (.ireturn, 0, 0, 0, 0) := rfl
theorem zk_69_51 : zc 69 51 = some (.aload_n 0, 0, 0, 0, 0) := rfl
theorem zk_69_52 : zc 69 52 = some (.getfield 15, 8, 4, 0, 84) := rfl
theorem zk_69_55 : zc 69 55 = some (.iload_n 1, 0, 0, 0, 0) := rfl
theorem zk_69_56 : zc 69 56 = some (.laload, 0, 0, 0, 0) := rfl
theorem zk_69_57 : zc 69 57 = some (.ldc2_w 33, 0, 0, -32768, 2) := rfl
theorem zk_69_60 : zc 69 60 = some (.lcmp, 0, 0, 0, 0) := rfl
theorem zk_69_61 : zc 69 61 = some (.ifCond .ne 7, 68, 0, 0, 0) := rfl
theorem zk_69_64 : zc 69 64 = some (.iconst 1, 0, 0, 0, 0) := rfl
theorem zk_69_65 : zc 69 65 = some (.goto 4, 69, 0, 0, 0) := rfl
theorem zk_69_68 : zc 69 68 = some (.iconst 0, 0, 0, 0, 0) := rfl
theorem zk_69_69 : zc 69 69 = some (.ireturn, 0, 0, 0, 0) := rfl
theorem zk_69_70 : zc 69 70 = some (.aload_n 0, 0, 0, 0, 0) := rfl
theorem zk_69_71 : zc 69 71 = some (.getfield 15, 8, 4, 0, 84) := rfl
theorem zk_69_74 : zc 69 74 = some (.iload_n 1, 0, 0, 0, 0) := rfl
theorem zk_69_75 : zc 69 75 = some (.laload, 0, 0, 0, 0) := rfl
theorem zk_69_76 : zc 69 76 = some (.ldc2_w 35, 0, 0, -2147483648, 3) := rfl
theorem zk_69_79 : zc 69 79 = some (.lcmp, 0, 0, 0, 0) := rfl
theorem zk_69_80 : zc 69 80 = some (.ifCond .ne 7, 87, 0, 0, 0) := rfl
theorem zk_69_83 : zc 69 83 = some (.iconst 1, 0, 0, 0, 0) := rfl
theorem zk_69_84 : zc 69 84 = some (.goto 4, 88, 0, 0, 0) := rfl
theorem zk_69_87 : zc 69 87 = some (.iconst 0, 0, 0, 0, 0) := rfl
theorem zk_69_88 : zc 69 88 = some (.ireturn, 0, 0, 0, 0) := rfl
theorem zk_69_89 : zc 69 89 = some (.aload_n 0, 0, 0, 0, 0) := rfl
theorem zk_69_90 : zc 69 90 = some (.getfield 15, 8, 4, 0, 84) := rfl
theorem zk_69_93 : zc 69 93 = some (.iload_n 1, 0, 0, 0, 0) := rfl
theorem zk_69_94 : zc 69 94 = some (.laload, 0, 0, 0, 0) := rfl
theorem zk_69_95 : zc 69 95 = some (.ldc2_w 37, 0, 0, -9223372036854775808, 4) := rfl
theorem zk_69_98 : zc 69 98 = some (.lcmp, 0, 0, 0, 0) := rfl
theorem zk_69_99 : zc 69 99 = some (.ifCond .ne 7, 106, 0, 0, 0) := rfl
theorem zk_69_102 : zc 69 102 = some (.iconst 1, 0, 0, 0, 0) := rfl
theorem zk_69_103 : zc 69 103 = some (.goto 4, 107, 0, 0, 0) := rfl
theorem zk_69_106 : zc 69 106 = some (.iconst 0, 0, 0, 0, 0) := rfl
theorem zk_69_107 : zc 69 107 = some (.ireturn, 0, 0, 0, 0) := rfl
theorem zk_71_0 : zc 71 0 = some (.aload_n 0, 0, 0, 0, 0) := rfl
theorem zk_71_1 : zc 71 1 = some (.aload_n 1, 0, 0, 0, 0) := rfl
theorem zk_71_2 : zc 71 2 = some (.getfield 15, 8, 2, 0, 88) := rfl
theorem zk_71_5 : zc 71 5 = some (.putfield 21, 9, 0, 0, 89) := rfl
theorem zk_71_8 : zc 71 8 = some (.iconst 0, 0, 0, 0, 0) := rfl
theorem zk_71_9 : zc 71 9 = some (.istore_n 2, 0, 0, 0, 0) := rfl
theorem zk_71_10 : zc 71 10 = some (.iload_n 2, 0, 0, 0, 0) := rfl
theorem zk_71_11 : zc 71 11 = some (.aload_n 0, 0, 0, 0, 0) := rfl
theorem zk_71_12 : zc 71 12 = some (.getfield 21, 9, 0, 0, 89) := rfl
theorem zk_71_15 : zc 71 15 = some (.if_icmp .ge 49, 64, 0, 0, 0) := rfl
theorem zk_71_18 : zc 71 18 = some (.sipush (-300), 0, 0, 0, 0) := rfl
theorem zk_71_21 : zc 71 21 = some (.sipush 300, 0, 0, 0, 0) := rfl
theorem zk_71_24 : zc 71 24 = some (.aload_n 1, 0, 0, 0, 0) := rfl
theorem zk_71_25 : zc 71 25 = some (.getfield 22, 8, 4, 0, 90) := rfl
theorem zk_71_28 : zc 71 28 = some (.iload_n 2, 0, 0, 0, 0) := rfl
theorem zk_71_29 : zc 71 29 = some (.laload, 0, 0, 0, 0) := rfl
theorem zk_71_30 : zc 71 30 = some (.l2i, 0, 0, 0, 0) := rfl
theorem zk_71_31 : zc 71 31 = some (.invokestatic 26, 0, 8, 0, 79) := rfl
theorem zk_71_34 : zc 71 34 = some (.invokestatic 32, 0, 7, 0, 80) := rfl
theorem zk_71_37 : zc 71 37 = some (.istore_n 3, 0, 0, 0, 0) := rfl
theorem zk_71_38 : zc 71 38 = some (.aload_n 0, 0, 0, 0, 0) := rfl
theorem zk_71_39 : zc 71 39 = some (.getfield 9, 9, 1, 0, 87) := rfl
theorem zk_71_42 : zc 71 42 = some (.iload_n 2, 0, 0, 0, 0) := rfl
theorem zk_71_43 : zc 71 43 = some (.aload_n 1, 0, 0, 0, 0) := rfl
theorem zk_71_44 : zc 71 44 = some (.iload_n 2, 0, 0, 0, 0) := rfl
theorem zk_71_45 : zc 71 45 = some (.invokevirtual 35, 69, 0, 2, 81) := rfl
theorem zk_71_48 : zc 71 48 = some (.ifCond .eq 8, 56, 0, 0, 0) := rfl
theorem zk_71_51 : zc 71 51 = some (.bipush 30, 0, 0, 0, 0) := rfl
theorem zk_71_53 : zc 71 53 = some (.goto 4, 57, 0, 0, 0) := rfl
theorem zk_71_56 : zc 71 56 = some (.iload_n 3, 0, 0, 0, 0) := rfl
theorem zk_71_57 : zc 71 57 = some (.iastore, 0, 0, 0, 0) := rfl
theorem zk_71_58 : zc 71 58 = some (.iinc 2 1, 0, 0, 0, 0) := rfl
theorem zk_71_61 : zc 71 61 = some (.goto (-51), 10, 0, 0, 0) := rfl
theorem zk_71_64 : zc 71 64 = some (.return_, 0, 0, 0, 0) := rfl
theorem zk_72_0 : zc 72 0 = some (.aload_n 0, 0, 0, 0, 0) := rfl
theorem zk_72_1 : zc 72 1 = some (.aload_n 1, 0, 0, 0, 0) := rfl
theorem zk_72_2 : zc 72 2 = some (.getfield 21, 9, 0, 0, 89) := rfl
theorem zk_72_5 : zc 72 5 = some (.putfield 21, 9, 0, 0, 89) := rfl
theorem zk_72_8 : zc 72 8 = some (.aload_n 1, 0, 0, 0, 0) := rfl
theorem zk_72_9 : zc 72 9 = some (.getfield 9, 9, 1, 0, 87) := rfl
theorem zk_72_12 : zc 72 12 = some (.iconst 0, 0, 0, 0, 0) := rfl
theorem zk_72_13 : zc 72 13 = some (.aload_n 0, 0, 0, 0, 0) := rfl
theorem zk_72_14 : zc 72 14 = some (.getfield 9, 9, 1, 0, 87) := rfl
theorem zk_72_17 : zc 72 17 = some (.iconst 0, 0, 0, 0, 0) := rfl
theorem zk_72_18 : zc 72 18 = some (.bipush 96, 0, 0, 0, 0) := rfl
theorem zk_72_20 : zc 72 20 = some (.invokestatic 39, 0, 6, 0, 82) := rfl
theorem zk_72_23 : zc 72 23 = some (.return_, 0, 0, 0, 0) := rfl
theorem zk_73_0 : zc 73 0 = some (.aload_n 0, 0, 0, 0, 0) := rfl
theorem zk_73_1 : zc 73 1 = some (.getfield 21, 9, 0, 0, 89) := rfl
theorem zk_73_4 : zc 73 4 = some (.ifCond .le 7, 11, 0, 0, 0) := rfl
theorem zk_73_7 : zc 73 7 = some (.iload_n 1, 0, 0, 0, 0) := rfl
theorem zk_73_8 : zc 73 8 = some (.ifCond .ge 7, 15, 0, 0, 0) := rfl
theorem zk_73_11 : zc 73 11 = some (.iconst 0, 0, 0, 0, 0) := rfl
theorem zk_73_12 : zc 73 12 = some (.goto 14, 26, 0, 0, 0) := rfl
theorem zk_73_15 : zc 73 15 = some (.aload_n 0, 0, 0, 0, 0) := rfl
theorem zk_73_16 : zc 73 16 = some (.getfield 9, 9, 1, 0, 87) := rfl
theorem zk_73_19 : zc 73 19 = some (.iload_n 1, 0, 0, 0, 0) := rfl
theorem zk_73_20 : zc 73 20 = some (.aload_n 0, 0, 0, 0, 0) := rfl
theorem zk_73_21 : zc 73 21 = some (.getfield 21, 9, 0, 0, 89) := rfl
theorem zk_73_24 : zc 73 24 = some (.irem, 0, 0, 0, 0) := rfl
theorem zk_73_25 : zc 73 25 = some (.iaload, 0, 0, 0, 0) := rfl
theorem zk_73_26 : zc 73 26 = some (.ireturn, 0, 0, 0, 0) := rfl
theorem zk_113_0 : zc 113 0 = some (.iload_n 1, 0, 0, 0, 0) := rfl
theorem zk_113_1 : zc 113 1 = some (.ineg, 0, 0, 0, 0) := rfl
theorem zk_113_2 : zc 113 2 = some (.iconst 1, 0, 0, 0, 0) := rfl
theorem zk_113_3 : zc 113 3 = some (.bipush 7, 0, 0, 0, 0) := rfl
theorem zk_113_5 : zc 113 5 = some (.invokestatic 52, 114, 1, 3, 89) := rfl
theorem zk_113_8 : zc 113 8 = some (.ifCond .eq 14, 22, 0, 0, 0) := rfl
theorem zk_113_11 : zc 113 11 = some (.aload_n 0, 0, 0, 0, 0) := rfl
theorem zk_113_12 : zc 113 12 = some (.getfield 28, 10, 5, 0, 95) := rfl
theorem zk_113_15 : zc 113 15 = some (.iload_n 1, 0, 0, 0, 0) := rfl
theorem zk_113_16 : zc 113 16 = some (.ineg, 0, 0, 0, 0) := rfl
theorem zk_113_17 : zc 113 17 = some (.dup2, 0, 0, 0, 0) := rfl
theorem zk_113_18 : zc 113 18 = some (.iaload, 0, 0, 0, 0) := rfl
theorem zk_113_19 : zc 113 19 = some (.iconst 1, 0, 0, 0, 0) := rfl
theorem zk_113_20 : zc 113 20 = some (.iadd, 0, 0, 0, 0) := rfl
theorem zk_113_21 : zc 113 21 = some (.iastore, 0, 0, 0, 0) := rfl
theorem zk_113_22 : zc 113 22 = some (.iload_n 1, 0, 0, 0, 0) := rfl
theorem zk_113_23 : zc 113 23 = some (.ireturn, 0, 0, 0, 0) := rfl
theorem zk_114_0 : zc 114 0 = some (.iload_n 0, 0, 0, 0, 0) := rfl
theorem zk_114_1 : zc 114 1 = some (.iload_n 1, 0, 0, 0, 0) := rfl
theorem zk_114_2 : zc 114 2 = some (.if_icmp .lt 12, 14, 0, 0, 0) := rfl
theorem zk_114_5 : zc 114 5 = some (.iload_n 0, 0, 0, 0, 0) := rfl
theorem zk_114_6 : zc 114 6 = some (.iload_n 2, 0, 0, 0, 0) := rfl
theorem zk_114_7 : zc 114 7 = some (.if_icmp .gt 7, 14, 0, 0, 0) := rfl
theorem zk_114_10 : zc 114 10 = some (.iconst 1, 0, 0, 0, 0) := rfl
theorem zk_114_11 : zc 114 11 = some (.goto 4, 15, 0, 0, 0) := rfl
theorem zk_114_14 : zc 114 14 = some (.iconst 0, 0, 0, 0, 0) := rfl
theorem zk_114_15 : zc 114 15 = some (.ireturn, 0, 0, 0, 0) := rfl
theorem zk_115_0 : zc 115 0 = some (.iload_n 0, 0, 0, 0, 0) := rfl
theorem zk_115_1 : zc 115 1 = some (.ifCond .lt 13, 14, 0, 0, 0) := rfl
theorem zk_115_4 : zc 115 4 = some (.iload_n 0, 0, 0, 0, 0) := rfl
theorem zk_115_5 : zc 115 5 = some (.bipush 25, 0, 0, 0, 0) := rfl
theorem zk_115_7 : zc 115 7 = some (.if_icmp .ge 7, 14, 0, 0, 0) := rfl
theorem zk_115_10 : zc 115 10 = some (.iconst 1, 0, 0, 0, 0) := rfl
theorem zk_115_11 : zc 115 11 = some (.goto 4, 15, 0, 0, 0) := rfl
theorem zk_115_14 : zc 115 14 = some (.iconst 0, 0, 0, 0, 0) := rfl
theorem zk_115_15 : zc 115 15 = some (.ireturn, 0, 0, 0, 0) := rfl
theorem zk_116_0 : zc 116 0 = some (.iload_n 0, 0, 0, 0, 0) := rfl
theorem zk_116_1 : zc 116 1 = some (.ifCond .lt 13, 14, 0, 0, 0) := rfl
theorem zk_116_4 : zc 116 4 = some (.iload_n 0, 0, 0, 0, 0) := rfl
theorem zk_116_5 : zc 116 5 = some (.bipush 8, 0, 0, 0, 0) := rfl
theorem zk_116_7 : zc 116 7 = some (.if_icmp .ge 7, 14, 0, 0, 0) := rfl
theorem zk_116_10 : zc 116 10 = some (.iconst 1, 0, 0, 0, 0) := rfl
theorem zk_116_11 : zc 116 11 = some (.goto 4, 15, 0, 0, 0) := rfl
theorem zk_116_14 : zc 116 14 = some (.iconst 0, 0, 0, 0, 0) := rfl
theorem zk_116_15 : zc 116 15 = some (.ireturn, 0, 0, 0, 0) := rfl
theorem zk_117_0 : zc 117 0 = some (.iload_n 1, 0, 0, 0, 0) := rfl
theorem zk_117_1 : zc 117 1 = some (.ifCond .lt 18, 19, 0, 0, 0) := rfl
theorem zk_117_4 : zc 117 4 = some (.iload_n 1, 0, 0, 0, 0) := rfl
theorem zk_117_5 : zc 117 5 = some (.aload_n 0, 0, 0, 0, 0) := rfl
theorem zk_117_6 : zc 117 6 = some (.getfield 10, 10, 0, 0, 91) := rfl
theorem zk_117_9 : zc 117 9 = some (.getfield 252, 2, 6, 0, 126) := rfl
theorem zk_117_12 : zc 117 12 = some (.if_icmp .ge 7, 19, 0, 0, 0) := rfl
theorem zk_117_15 : zc 117 15 = some (.iconst 1, 0, 0, 0, 0) := rfl
theorem zk_117_16 : zc 117 16 = some (.goto 4, 20, 0, 0, 0) := rfl
theorem zk_117_19 : zc 117 19 = some (.iconst 0, 0, 0, 0, 0) := rfl
theorem zk_117_20 : zc 117 20 = some (.ireturn, 0, 0, 0, 0) := rfl
theorem zk_118_0 : zc 118 0 = some (.iload_n 1, 0, 0, 0, 0) := rfl
theorem zk_118_1 : zc 118 1 = some (.ifCond .lt 18, 19, 0, 0, 0) := rfl
theorem zk_118_4 : zc 118 4 = some (.iload_n 1, 0, 0, 0, 0) := rfl
theorem zk_118_5 : zc 118 5 = some (.aload_n 0, 0, 0, 0, 0) := rfl
theorem zk_118_6 : zc 118 6 = some (.getfield 10, 10, 0, 0, 91) := rfl
theorem zk_118_9 : zc 118 9 = some (.getfield 265, 2, 7, 0, 128) := rfl
theorem zk_118_12 : zc 118 12 = some (.if_icmp .ge 7, 19, 0, 0, 0) := rfl
theorem zk_118_15 : zc 118 15 = some (.iconst 1, 0, 0, 0, 0) := rfl
theorem zk_118_16 : zc 118 16 = some (.goto 4, 20, 0, 0, 0) := rfl
theorem zk_118_19 : zc 118 19 = some (.iconst 0, 0, 0, 0, 0) := rfl
theorem zk_118_20 : zc 118 20 = some (.ireturn, 0, 0, 0, 0) := rfl
theorem zk_119_0 : zc 119 0 = some (.iload_n 1, 0, 0, 0, 0) := rfl
theorem zk_119_1 : zc 119 1 = some (.invokestatic 112, 116, 1, 1, 95) := rfl
theorem zk_119_4 : zc 119 4 = some (.ifCond .ne 5, 9, 0, 0, 0) := rfl
theorem zk_119_7 : zc 119 7 = some (.iconst (-1), 0, 0, 0, 0) := rfl
theorem zk_119_8 : zc 119 8 = some (.ireturn, 0, 0, 0, 0) := rfl
theorem zk_119_9 : zc 119 9 = some (.aload_n 0, 0, 0, 0, 0) := rfl
theorem zk_119_10 : zc 119 10 = some (.getfield 24, 10, 4, 0, 94) := rfl
theorem zk_119_13 : zc 119 13 = some (.iload_n 1, 0, 0, 0, 0) := rfl
theorem zk_119_14 : zc 119 14 = some (.aaload, 0, 0, 0, 0) := rfl
theorem zk_119_15 : zc 119 15 = some (.getfield 146, 8, 0, 0, 110) := rfl
theorem zk_119_18 : zc 119 18 = some (.iconst 2, 0, 0, 0, 0) := rfl
theorem zk_119_19 : zc 119 19 = some (.if_icmp .ne 6, 25, 0, 0, 0) := rfl
theorem zk_119_22 : zc 119 22 = some (.bipush (-2), 0, 0, 0, 0) := rfl
theorem zk_119_24 : zc 119 24 = some (.ireturn, 0, 0, 0, 0) := rfl
theorem zk_119_25 : zc 119 25 = some (.aload_n 0, 0, 0, 0, 0) := rfl
theorem zk_119_26 : zc 119 26 = some (.getfield 24, 10, 4, 0, 94) := rfl
theorem zk_119_29 : zc 119 29 = some (.iload_n 1, 0, 0, 0, 0) := rfl
theorem zk_119_30 : zc 119 30 = some (.aaload, 0, 0, 0, 0) := rfl
theorem zk_119_31 : zc 119 31 = some (.getfield 146, 8, 0, 0, 110) := rfl
theorem zk_119_34 : zc 119 34 = some (.ifCond .ne 8, 42, 0, 0, 0) := rfl
theorem zk_119_37 : zc 119 37 = some (.bipush (-3), 0, 0, 0, 0) := rfl
theorem zk_119_39 : zc 119 39 = some (.goto 4, 43, 0, 0, 0) := rfl
theorem zk_119_42 : zc 119 42 = some (.iconst 0, 0, 0, 0, 0) := rfl
theorem zk_119_43 : zc 119 43 = some (.ireturn, 0, 0, 0, 0) := rfl
theorem zk_120_0 : zc 120 0 = some (.aload_n 0, 0, 0, 0, 0) := rfl
theorem zk_120_1 : zc 120 1 = some (.iload_n 1, 0, 0, 0, 0) := rfl
theorem zk_120_2 : zc 120 2 = some (.invokevirtual 119, 119, 0, 2, 97) := rfl
theorem zk_120_5 : zc 120 5 = some (.istore_n 3, 0, 0, 0, 0) := rfl
theorem zk_120_6 : zc 120 6 = some (.aload_n 0, 0, 0, 0, 0) := rfl
theorem zk_120_7 : zc 120 7 = some (.iload_n 2, 0, 0, 0, 0) := rfl
theorem zk_120_8 : zc 120 8 = some (.invokevirtual 119, 119, 0, 2, 97) := rfl
theorem zk_120_11 : zc 120 11 = some (.istore 4, 0, 0, 0, 0) := rfl
theorem zk_120_13 : zc 120 13 = some (.iload_n 3, 0, 0, 0, 0) := rfl
theorem zk_120_14 : zc 120 14 = some (.iconst (-1), 0, 0, 0, 0) := rfl
theorem zk_120_15 : zc 120 15 = some (.if_icmp .eq 9, 24, 0, 0, 0) := rfl
theorem zk_120_18 : zc 120 18 = some (.iload 4, 0, 0, 0, 0) := rfl
theorem zk_120_20 : zc 120 20 = some (.iconst (-1), 0, 0, 0, 0) := rfl
theorem zk_120_21 : zc 120 21 = some (.if_icmp .ne 5, 26, 0, 0, 0) := rfl
theorem zk_120_24 : zc 120 24 = some (.iconst (-1), 0, 0, 0, 0) := rfl
theorem zk_120_25 : zc 120 25 = some (.ireturn, 0, 0, 0, 0) := rfl
theorem zk_120_26 : zc 120 26 = some (.iload_n 3, 0, 0, 0, 0) := rfl
theorem zk_120_27 : zc 120 27 = some (.bipush (-2), 0, 0, 0, 0) := rfl
theorem zk_120_29 : zc 120 29 = some (.if_icmp .eq 10, 39, 0, 0, 0) := rfl
theorem zk_120_32 : zc 120 32 = some (.iload 4, 0, 0, 0, 0) := rfl
theorem zk_120_34 : zc 120 34 = some (.bipush (-2), 0, 0, 0, 0) := rfl
theorem zk_120_36 : zc 120 36 = some (.if_icmp .ne 6, 42, 0, 0, 0) := rfl
theorem zk_120_39 : zc 120 39 = some (.bipush (-2), 0, 0, 0, 0) := rfl
theorem zk_120_41 : zc 120 41 = some (.ireturn, 0, 0, 0, 0) := rfl
theorem zk_120_42 : zc 120 42 = some (.iload_n 3, 0, 0, 0, 0) := rfl
theorem zk_120_43 : zc 120 43 = some (.bipush (-3), 0, 0, 0, 0) := rfl
theorem zk_120_45 : zc 120 45 = some (.if_icmp .eq 10, 55, 0, 0, 0) := rfl
theorem zk_120_48 : zc 120 48 = some (.iload 4, 0, 0, 0, 0) := rfl
theorem zk_120_50 : zc 120 50 = some (.bipush (-3), 0, 0, 0, 0) := rfl
theorem zk_120_52 : zc 120 52 = some (.if_icmp .ne 6, 58, 0, 0, 0) := rfl
theorem zk_120_55 : zc 120 55 = some (.bipush (-3), 0, 0, 0, 0) := rfl
theorem zk_120_57 : zc 120 57 = some (.ireturn, 0, 0, 0, 0) := rfl
theorem zk_120_58 : zc 120 58 = some (.aload_n 0, 0, 0, 0, 0) := rfl
theorem zk_120_59 : zc 120 59 = some (.getfield 24, 10, 4, 0, 94) := rfl
theorem zk_120_62 : zc 120 62 = some (.iload_n 1, 0, 0, 0, 0) := rfl
theorem zk_120_63 : zc 120 63 = some (.aaload, 0, 0, 0, 0) := rfl
theorem zk_120_64 : zc 120 64 = some (.getfield 155, 8, 1, 0, 112) := rfl
theorem zk_120_67 : zc 120 67 = some (.aload_n 0, 0, 0, 0, 0) := rfl
theorem zk_120_68 : zc 120 68 = some (.getfield 24, 10, 4, 0, 94) := rfl
theorem zk_120_71 : zc 120 71 = some (.iload_n 2, 0, 0, 0, 0) := rfl
theorem zk_120_72 : zc 120 72 = some (.aaload, 0, 0, 0, 0) := rfl
theorem zk_120_73 : zc 120 73 = some (.getfield 155, 8, 1, 0, 112) := rfl
theorem zk_120_76 : zc 120 76 = some (.if_icmp .ne 7, 83, 0, 0, 0) := rfl
theorem zk_120_79 : zc 120 79 = some (.iconst 0, 0, 0, 0, 0) := rfl
theorem zk_120_80 : zc 120 80 = some (.goto 5, 85, 0, 0, 0) := rfl
theorem zk_120_83 : zc 120 83 = some (.bipush (-2), 0, 0, 0, 0) := rfl
theorem zk_120_85 : zc 120 85 = some (.ireturn, 0, 0, 0, 0) := rfl
theorem zk_121_0 : zc 121 0 = some (.iload_n 1, 0, 0, 0, 0) := rfl
theorem zk_121_1 : zc 121 1 = some (.ifCond .lt 16, 17, 0, 0, 0) := rfl
theorem zk_121_4 : zc 121 4 = some (.iload_n 1, 0, 0, 0, 0) := rfl
theorem zk_121_5 : zc 121 5 = some (.aload_n 0, 0, 0, 0, 0) := rfl
theorem zk_121_6 : zc 121 6 = some (.arraylength, 0, 0, 0, 0) := rfl
theorem zk_121_7 : zc 121 7 = some (.if_icmp .ge 10, 17, 0, 0, 0) := rfl
theorem zk_121_10 : zc 121 10 = some (.aload_n 0, 0, 0, 0, 0) := rfl
theorem zk_121_11 : zc 121 11 = some (.iload_n 1, 0, 0, 0, 0) := rfl
theorem zk_121_12 : zc 121 12 = some (.baload, 0, 0, 0, 0) := rfl
theorem zk_121_13 : zc 121 13 = some (.iload_n 2, 0, 0, 0, 0) := rfl
theorem zk_121_14 : zc 121 14 = some (.if_icmp .ne 5, 19, 0, 0, 0) := rfl
theorem zk_121_17 : zc 121 17 = some (.iconst 0, 0, 0, 0, 0) := rfl
theorem zk_121_18 : zc 121 18 = some (.ireturn, 0, 0, 0, 0) := rfl
theorem zk_121_19 : zc 121 19 = some (.aload_n 0, 0, 0, 0, 0) := rfl
theorem zk_121_20 : zc 121 20 = some (.iload_n 1, 0, 0, 0, 0) := rfl
theorem zk_121_21 : zc 121 21 = some (.iload_n 2, 0, 0, 0, 0) := rfl
theorem zk_121_22 : zc 121 22 = some (.bastore, 0, 0, 0, 0) := rfl
theorem zk_121_23 : zc 121 23 = some (.iconst 1, 0, 0, 0, 0) := rfl
theorem zk_121_24 : zc 121 24 = some (.ireturn, 0, 0, 0, 0) := rfl
theorem zk_189_0 : zc 189 0 = some (.iconst 0, 0, 0, 0, 0) := rfl
theorem zk_189_1 : zc 189 1 = some (.istore_n 3, 0, 0, 0, 0) := rfl
theorem zk_189_2 : zc 189 2 = some (.aload_n 0, 0, 0, 0, 0) := rfl
theorem zk_189_3 : zc 189 3 = some (.arraylength, 0, 0, 0, 0) := rfl
theorem zk_189_4 : zc 189 4 = some (.istore 4, 0, 0, 0, 0) := rfl
theorem zk_189_6 : zc 189 6 = some (.iload_n 3, 0, 0, 0, 0) := rfl
theorem zk_189_7 : zc 189 7 = some (.iload 4, 0, 0, 0, 0) := rfl
theorem zk_189_9 : zc 189 9 = some (.if_icmp .ge 13, 22, 0, 0, 0) := rfl
theorem zk_189_12 : zc 189 12 = some (.aload_n 0, 0, 0, 0, 0) := rfl
theorem zk_189_13 : zc 189 13 = some (.iload_n 3, 0, 0, 0, 0) := rfl
theorem zk_189_14 : zc 189 14 = some (.lload_n 1, 0, 0, 0, 0) := rfl
theorem zk_189_15 : zc 189 15 = some (.lastore, 0, 0, 0, 0) := rfl
theorem zk_189_16 : zc 189 16 = some (.iinc 3 1, 0, 0, 0, 0) := rfl
theorem zk_189_19 : zc 189 19 = some (.goto (-13), 6, 0, 0, 0) := rfl
theorem zk_189_22 : zc 189 22 = some (.return_, 0, 0, 0, 0) := rfl
theorem zk_190_0 : zc 190 0 = some (.iconst 0, 0, 0, 0, 0) := rfl
theorem zk_190_1 : zc 190 1 = some (.istore_n 2, 0, 0, 0, 0) := rfl
theorem zk_190_2 : zc 190 2 = some (.aload_n 0, 0, 0, 0, 0) := rfl
theorem zk_190_3 : zc 190 3 = some (.arraylength, 0, 0, 0, 0) := rfl
theorem zk_190_4 : zc 190 4 = some (.istore_n 3, 0, 0, 0, 0) := rfl
theorem zk_190_5 : zc 190 5 = some (.iload_n 2, 0, 0, 0, 0) := rfl
theorem zk_190_6 : zc 190 6 = some (.iload_n 3, 0, 0, 0, 0) := rfl
theorem zk_190_7 : zc 190 7 = some (.if_icmp .ge 13, 20, 0, 0, 0) := rfl
theorem zk_190_10 : zc 190 10 = some (.aload_n 0, 0, 0, 0, 0) := rfl
theorem zk_190_11 : zc 190 11 = some (.iload_n 2, 0, 0, 0, 0) := rfl
theorem zk_190_12 : zc 190 12 = some (.iload_n 1, 0, 0, 0, 0) := rfl
theorem zk_190_13 : zc 190 13 = some (.iastore, 0, 0, 0, 0) := rfl
theorem zk_190_14 : zc 190 14 = some (.iinc 2 1, 0, 0, 0, 0) := rfl
theorem zk_190_17 : zc 190 17 = some (.goto (-12), 5, 0, 0, 0) := rfl
theorem zk_190_20 : zc 190 20 = some (.return_, 0, 0, 0, 0) := rfl
def MT (a b c d : Nat) (t i k j : Nat) : Prop := t = a ∨ t = b ∨ t = c ∨ t = d
theorem nMT {a b c d t i k j : Nat} (hb : decide ((t = a ∨ t = b ∨ t = c ∨ t = d)) = false) : ¬ MT a b c d t i k j := fun h => of_decide_eq_false hb (by unfold MT at h; omega)
theorem pMT {a b c d t i k j : Nat} (hb : decide ((t = a ∨ t = b ∨ t = c ∨ t = d)) = true) : MT a b c d t i k j := by
  have h := of_decide_eq_true hb
  unfold MT
  omega
def MI (c a b d e : Nat) (t i k j : Nat) : Prop := i = c ∧ (t = a ∨ t = b ∨ t = d ∨ t = e)
theorem nMI {c a b d e t i k j : Nat} (hb : decide ((t = a ∨ t = b ∨ t = d ∨ t = e)) = false) : ¬ MI c a b d e t i k j := fun h => of_decide_eq_false hb (by unfold MI at h; omega)
def ML (c : Nat) (t i k j : Nat) : Prop := i = c ∧ (t = 3 ∨ t = 4 ∨ t = 5 ∨ t = 6 ∨ t = 10 ∨ t = 13 ∨ t = 20 ∨ t = 21 ∨ t = 22 ∨ t = 25 ∨ t = 26 ∨ (t = 1 ∧ 13 ≤ j ∧ j ≤ 16))
theorem nML {c t i k j : Nat} (hb : decide ((t = 3 ∨ t = 4 ∨ t = 5 ∨ t = 6 ∨ t = 10 ∨ t = 13 ∨ t = 20 ∨ t = 21 ∨ t = 22 ∨ t = 25 ∨ t = 26 ∨ (t = 1 ∧ 13 ≤ j ∧ j ≤ 16))) = false) : ¬ ML c t i k j := fun h => of_decide_eq_false hb (by unfold ML at h; omega)
def MLr (c : Nat) (t i k j : Nat) : Prop := i = c ∧ (t = 3 ∨ t = 4 ∨ t = 5 ∨ t = 6 ∨ t = 10 ∨ t = 13 ∨ t = 20 ∨ t = 21 ∨ t = 22 ∨ t = 25 ∨ t = 26 ∨ (t = 1 ∧ 13 ≤ j ∧ j ≤ 16)) ∨ t = 28
def MY (c : Nat) (t i k j : Nat) : Prop := i = c ∧ 1 ≤ t ∧ t ≤ 26
theorem nMY {c t i k j : Nat} (hb : decide ((1 ≤ t ∧ t ≤ 26)) = false) : ¬ MY c t i k j := fun h => of_decide_eq_false hb (by unfold MY at h; omega)
def MYr (c : Nat) (t i k j : Nat) : Prop := (i = c ∧ 1 ≤ t ∧ t ≤ 26) ∨ t = 28
def MYl (c : Nat) (t i k j : Nat) : Prop := i = c ∧ 3 ≤ t ∧ t ≤ 9
def MYt (c e : Nat) (t i k j : Nat) : Prop := i = c ∧ k = e ∧ (t = 17 ∨ t = 18)
def MC (a b u : Nat) (t i k j : Nat) : Prop := (i = 0 ∧ t = 1 ∧ a ≤ j ∧ j < b) ∨ (i = 0 ∧ t = u) ∨ t = 28
theorem pMC {a b u t i k j : Nat} (hb : decide (t = 28) = true) : MC a b u t i k j := by
  have h := of_decide_eq_true hb
  unfold MC
  omega
def MR (t i k j : Nat) : Prop := 29 ≤ t ∧ t ≤ 32
theorem nMR { t i k j : Nat} (hb : decide ((29 ≤ t ∧ t ≤ 32)) = false) : ¬ MR  t i k j := fun h => of_decide_eq_false hb (by unfold MR at h; omega)
theorem pMR { t i k j : Nat} (hb : decide ((29 ≤ t ∧ t ≤ 32)) = true) : MR  t i k j := by
  have h := of_decide_eq_true hb
  unfold MR
  omega
/-- W.isWithin -/
theorem w_114 {xs : Nat × (Nat → Int32)} (p0 : Int) (p1 : Int) (p2 : Int) (hp0 : -2147483648 ≤ p0 ∧ p0 ≤ 2147483647) (hp1 : -2147483648 ≤ p1 ∧ p1 ≤ 2147483647) (hp2 : -2147483648 ≤ p2 ∧ p2 ≤ 2147483647) (σ : ZS) (hI : Inv σ)   : CT xs 1 114 [iv p0, iv p1, iv p2] σ (fun v σ' => ∃ y, v = some (iv y) ∧ ((y = 0 ∧ (p0 < p1 ∨ p2 < p0)) ∨ (y = 1 ∧ p1 ≤ p0 ∧ p0 ≤ p2)) ∧ IF MN σ σ' ∧ (True)) := by
  refine G_ct (J := (fun σ' => IF MN σ σ' ∧ True)) (L := [(0, iv p0), (1, iv p1), (2, iv p2)]) (nL := 3) rfl rfl rfl ⟨IF.rf hI, trivial⟩ ?_
  refine T_ld zk_114_0 rfl rfl rfl (pc' := 1) rfl ?_
  refine T_ld zk_114_1 rfl rfl rfl (pc' := 2) rfl ?_
  refine T_icmp_lt zk_114_2 (by omega) (by omega) (pc' := 5) rfl (fun h1 => ?_) (fun h2 => ?_)
  ·
    refine T_op zk_114_14 rfl X_ic (pc' := 15) rfl ?_
    exact T_zret zk_114_15 rfl (by omega) (fun σ' h => ⟨_, rfl, (by omega), h.1, trivial⟩)
  ·
    refine T_ld zk_114_5 rfl rfl rfl (pc' := 6) rfl ?_
    refine T_ld zk_114_6 rfl rfl rfl (pc' := 7) rfl ?_
    refine T_icmp_gt zk_114_7 (by omega) (by omega) (pc' := 10) rfl (fun h3 => ?_) (fun h4 => ?_)
    ·
      refine T_op zk_114_14 rfl X_ic (pc' := 15) rfl ?_
      exact T_zret zk_114_15 rfl (by omega) (fun σ' h => ⟨_, rfl, (by omega), h.1, trivial⟩)
    ·
      refine T_op zk_114_10 rfl X_ic (pc' := 11) rfl ?_
      refine T_goto zk_114_11 ?_
      exact T_zret zk_114_15 rfl (by omega) (fun σ' h => ⟨_, rfl, (by omega), h.1, trivial⟩)
/-- W.isCell -/
theorem w_115 {xs : Nat × (Nat → Int32)} (p0 : Int) (hp0 : -2147483648 ≤ p0 ∧ p0 ≤ 2147483647) (σ : ZS) (hI : Inv σ)   : CT xs 1 115 [iv p0] σ (fun v σ' => ∃ y, v = some (iv y) ∧ ((y = 0 ∧ (p0 < 0 ∨ 24 < p0)) ∨ (y = 1 ∧ 0 ≤ p0 ∧ p0 ≤ 24)) ∧ IF MN σ σ' ∧ (True)) := by
  refine G_ct (J := (fun σ' => IF MN σ σ' ∧ True)) (L := [(0, iv p0)]) (nL := 1) rfl rfl rfl ⟨IF.rf hI, trivial⟩ ?_
  refine T_ld zk_115_0 rfl rfl rfl (pc' := 1) rfl ?_
  refine T_if_lt zk_115_1 (by omega) (pc' := 4) rfl (fun h1 => ?_) (fun h2 => ?_)
  ·
    refine T_op zk_115_14 rfl X_ic (pc' := 15) rfl ?_
    exact T_zret zk_115_15 rfl (by omega) (fun σ' h => ⟨_, rfl, (by omega), h.1, trivial⟩)
  ·
    refine T_ld zk_115_4 rfl rfl rfl (pc' := 5) rfl ?_
    refine T_op zk_115_5 rfl (X_bi (v := 25) (by decide)) (pc' := 7) rfl ?_
    refine T_icmp_ge zk_115_7 (by omega) (by omega) (pc' := 10) rfl (fun h3 => ?_) (fun h4 => ?_)
    ·
      refine T_op zk_115_14 rfl X_ic (pc' := 15) rfl ?_
      exact T_zret zk_115_15 rfl (by omega) (fun σ' h => ⟨_, rfl, (by omega), h.1, trivial⟩)
    ·
      refine T_op zk_115_10 rfl X_ic (pc' := 11) rfl ?_
      refine T_goto zk_115_11 ?_
      exact T_zret zk_115_15 rfl (by omega) (fun σ' h => ⟨_, rfl, (by omega), h.1, trivial⟩)
/-- W.isShelf -/
theorem w_116 {xs : Nat × (Nat → Int32)} (p0 : Int) (hp0 : -2147483648 ≤ p0 ∧ p0 ≤ 2147483647) (σ : ZS) (hI : Inv σ)   : CT xs 1 116 [iv p0] σ (fun v σ' => ∃ y, v = some (iv y) ∧ ((y = 0 ∧ (p0 < 0 ∨ 7 < p0)) ∨ (y = 1 ∧ 0 ≤ p0 ∧ p0 ≤ 7)) ∧ IF MN σ σ' ∧ (True)) := by
  refine G_ct (J := (fun σ' => IF MN σ σ' ∧ True)) (L := [(0, iv p0)]) (nL := 1) rfl rfl rfl ⟨IF.rf hI, trivial⟩ ?_
  refine T_ld zk_116_0 rfl rfl rfl (pc' := 1) rfl ?_
  refine T_if_lt zk_116_1 (by omega) (pc' := 4) rfl (fun h1 => ?_) (fun h2 => ?_)
  ·
    refine T_op zk_116_14 rfl X_ic (pc' := 15) rfl ?_
    exact T_zret zk_116_15 rfl (by omega) (fun σ' h => ⟨_, rfl, (by omega), h.1, trivial⟩)
  ·
    refine T_ld zk_116_4 rfl rfl rfl (pc' := 5) rfl ?_
    refine T_op zk_116_5 rfl (X_bi (v := 8) (by decide)) (pc' := 7) rfl ?_
    refine T_icmp_ge zk_116_7 (by omega) (by omega) (pc' := 10) rfl (fun h3 => ?_) (fun h4 => ?_)
    ·
      refine T_op zk_116_14 rfl X_ic (pc' := 15) rfl ?_
      exact T_zret zk_116_15 rfl (by omega) (fun σ' h => ⟨_, rfl, (by omega), h.1, trivial⟩)
    ·
      refine T_op zk_116_10 rfl X_ic (pc' := 11) rfl ?_
      refine T_goto zk_116_11 ?_
      exact T_zret zk_116_15 rfl (by omega) (fun σ' h => ⟨_, rfl, (by omega), h.1, trivial⟩)
/-- W$Lagoon.lowEnd -/
theorem w_31 {xs : Nat × (Nat → Int32)} (p0 : Int) (hp0 : 0 ≤ p0 ∧ p0 ≤ 39) (σ : ZS) (hI : Inv σ)   : CT xs 1 31 [iv p0] σ (fun v σ' => ∃ y, v = some (iv y) ∧ (0 ≤ y ∧ y ≤ 24) ∧ IF MN σ σ' ∧ (True)) := by
  refine G_ct (J := (fun σ' => IF MN σ σ' ∧ True)) (L := [(0, iv p0)]) (nL := 1) rfl rfl rfl ⟨IF.rf hI, trivial⟩ ?_
  refine T_ld zk_31_0 rfl rfl rfl (pc' := 1) rfl ?_
  refine T_op zk_31_1 rfl (X_bi (v := 20) (by decide)) (pc' := 3) rfl ?_
  refine T_icmp_ge zk_31_3 (by omega) (by omega) (pc' := 6) rfl (fun h1 => ?_) (fun h2 => ?_)
  ·
    refine T_ld zk_31_14 rfl rfl rfl (pc' := 15) rfl ?_
    refine T_op zk_31_15 rfl (X_bi (v := 20) (by decide)) (pc' := 17) rfl ?_
    refine T_op zk_31_17 rfl X_sub (pc' := 18) rfl ?_
    exact T_iret zk_31_18 rfl (fun σ' h => ⟨_, rfl, (by omega), h.1, trivial⟩)
  ·
    refine T_ld zk_31_6 rfl rfl rfl (pc' := 7) rfl ?_
    refine T_ld zk_31_7 rfl rfl rfl (pc' := 8) rfl ?_
    refine T_op zk_31_8 rfl X_ic (pc' := 9) rfl ?_
    refine T_op zk_31_9 rfl (X_div (by omega) (by omega)) (pc' := 10) rfl ?_
    refine T_op zk_31_10 rfl X_add (pc' := 11) rfl ?_
    refine T_goto zk_31_11 ?_
    exact T_iret zk_31_18 rfl (fun σ' h => ⟨_, rfl, (by omega), h.1, trivial⟩)
/-- W$Lagoon.highEnd -/
theorem w_32 {xs : Nat × (Nat → Int32)} (p0 : Int) (hp0 : 0 ≤ p0 ∧ p0 ≤ 39) (σ : ZS) (hI : Inv σ)   : CT xs 1 32 [iv p0] σ (fun v σ' => ∃ y, v = some (iv y) ∧ (0 ≤ y ∧ y ≤ 24) ∧ IF MN σ σ' ∧ (True)) := by
  refine G_ct (J := (fun σ' => IF MN σ σ' ∧ True)) (L := [(0, iv p0)]) (nL := 1) rfl rfl rfl ⟨IF.rf hI, trivial⟩ ?_
  refine T_ld zk_32_0 rfl rfl rfl (pc' := 1) rfl ?_
  refine T_op zk_32_1 rfl (X_bi (v := 20) (by decide)) (pc' := 3) rfl ?_
  refine T_icmp_ge zk_32_3 (by omega) (by omega) (pc' := 6) rfl (fun h1 => ?_) (fun h2 => ?_)
  ·
    refine T_ld zk_32_16 rfl rfl rfl (pc' := 17) rfl ?_
    refine T_op zk_32_17 rfl (X_bi (v := 20) (by decide)) (pc' := 19) rfl ?_
    refine T_op zk_32_19 rfl X_sub (pc' := 20) rfl ?_
    refine T_op zk_32_20 rfl X_ic (pc' := 21) rfl ?_
    refine T_op zk_32_21 rfl X_add (pc' := 22) rfl ?_
    exact T_iret zk_32_22 rfl (fun σ' h => ⟨_, rfl, (by omega), h.1, trivial⟩)
  ·
    refine T_ld zk_32_6 rfl rfl rfl (pc' := 7) rfl ?_
    refine T_ld zk_32_7 rfl rfl rfl (pc' := 8) rfl ?_
    refine T_op zk_32_8 rfl X_ic (pc' := 9) rfl ?_
    refine T_op zk_32_9 rfl (X_div (by omega) (by omega)) (pc' := 10) rfl ?_
    refine T_op zk_32_10 rfl X_add (pc' := 11) rfl ?_
    refine T_op zk_32_11 rfl X_ic (pc' := 12) rfl ?_
    refine T_op zk_32_12 rfl X_add (pc' := 13) rfl ?_
    refine T_goto zk_32_13 ?_
    exact T_iret zk_32_22 rfl (fun σ' h => ⟨_, rfl, (by omega), h.1, trivial⟩)
/-- W$Lagoon.wayBetween -/
theorem w_30 {xs : Nat × (Nat → Int32)} (p0 : Int) (p1 : Int) (hp0 : -2147483648 ≤ p0 ∧ p0 ≤ 2147483647) (hp1 : -2147483648 ≤ p1 ∧ p1 ≤ 2147483647) (σ : ZS) (hI : Inv σ)   : CT xs 2 30 [iv p0, iv p1] σ (fun v σ' => ∃ y, v = some (iv y) ∧ ((y = -1 ∧ ¬ (0 ≤ p0 ∧ p0 ≤ 24 ∧ 0 ≤ p1 ∧ p1 ≤ 24 ∧ (p1 = p0 + 5 ∨ p0 = p1 + 5 ∨ (p1 = p0 + 1 ∧ p0 % 5 < 4) ∨ (p0 = p1 + 1 ∧ p1 % 5 < 4)))) ∨ (0 ≤ y ∧ y ≤ 39 ∧ (0 ≤ p0 ∧ p0 ≤ 24 ∧ 0 ≤ p1 ∧ p1 ≤ 24 ∧ (p1 = p0 + 5 ∨ p0 = p1 + 5 ∨ (p1 = p0 + 1 ∧ p0 % 5 < 4) ∨ (p0 = p1 + 1 ∧ p1 % 5 < 4))))) ∧ IF MN σ σ' ∧ (True)) := by
  refine G_ct (J := (fun σ' => IF MN σ σ' ∧ True)) (L := [(0, iv p0), (1, iv p1)]) (nL := 4) rfl rfl rfl ⟨IF.rf hI, trivial⟩ ?_
  refine T_ld zk_30_0 rfl rfl rfl (pc' := 1) rfl ?_
  refine T_calli (K := fun y1 σ' => ((y1 = 0 ∧ (p0 < 0 ∨ 24 < p0)) ∨ (y1 = 1 ∧ 0 ≤ p0 ∧ p0 ≤ 24)) ∧ (fun σ' => IF MN σ σ' ∧ True) σ') (r := []) zk_30_1 rfl rfl rfl rfl rfl rfl (Or.inl (Or.inr rfl)) (fun σ' h => (w_115 p0 (by omega) σ' h.1.1 ).le (Nat.le_of_ble_eq_true rfl) (fun v σ2 ⟨y, h1, h2, h3, h4⟩ => ⟨y, h1, h2, h.1.tr h3 MN_sub, trivial⟩)) (pc' := 4) rfl (fun y1 => ?_)
  refine G_ex (fun hy1 => ?_)
  refine T_if_eq zk_30_4 (by omega) (pc' := 7) rfl (fun h2 => ?_) (fun h3 => ?_)
  ·
    refine T_op zk_30_14 rfl X_ic (pc' := 15) rfl ?_
    exact T_iret zk_30_15 rfl (fun σ' h => ⟨_, rfl, (by omega), h.1, trivial⟩)
  ·
    refine T_ld zk_30_7 rfl rfl rfl (pc' := 8) rfl ?_
    refine T_calli (K := fun y4 σ' => ((y4 = 0 ∧ (p1 < 0 ∨ 24 < p1)) ∨ (y4 = 1 ∧ 0 ≤ p1 ∧ p1 ≤ 24)) ∧ (fun σ' => IF MN σ σ' ∧ True) σ') (r := []) zk_30_8 rfl rfl rfl rfl rfl rfl (Or.inl (Or.inr rfl)) (fun σ' h => (w_115 p1 (by omega) σ' h.1.1 ).le (Nat.le_of_ble_eq_true rfl) (fun v σ2 ⟨y, h1, h2, h3, h4⟩ => ⟨y, h1, h2, h.1.tr h3 MN_sub, trivial⟩)) (pc' := 11) rfl (fun y4 => ?_)
    refine G_ex (fun hy4 => ?_)
    refine T_if_ne zk_30_11 (by omega) (pc' := 14) rfl (fun h5 => ?_) (fun h6 => ?_)
    ·
      refine T_ld zk_30_16 rfl rfl rfl (pc' := 17) rfl ?_
      refine T_ld zk_30_17 rfl rfl rfl (pc' := 18) rfl ?_
      refine T_min zk_30_18 rfl (by omega) (by omega) rfl (pc' := 21) rfl (fun y7 hy7 hy7' ey7 => ?_)
      refine T_st (L' := [(0, iv p0), (1, iv p1), (2, iv y7)]) zk_30_21 (nL := 4) rfl rfl rfl rfl rfl (pc' := 22) rfl ?_
      refine T_ld zk_30_22 rfl rfl rfl (pc' := 23) rfl ?_
      refine T_ld zk_30_23 rfl rfl rfl (pc' := 24) rfl ?_
      refine T_max zk_30_24 rfl (by omega) (by omega) rfl (pc' := 27) rfl (fun y8 hy8 hy8' ey8 => ?_)
      refine T_ld zk_30_27 rfl rfl rfl (pc' := 28) rfl ?_
      refine T_op zk_30_28 rfl X_sub (pc' := 29) rfl ?_
      refine T_st (L' := [(0, iv p0), (1, iv p1), (2, iv y7), (3, iv (y8 - y7))]) zk_30_29 (nL := 4) rfl rfl rfl rfl rfl (pc' := 30) rfl ?_
      refine T_ld zk_30_30 rfl rfl rfl (pc' := 31) rfl ?_
      refine T_op zk_30_31 rfl X_ic (pc' := 32) rfl ?_
      refine T_icmp_ne zk_30_32 (by omega) (by omega) (pc' := 35) rfl (fun h9 => ?_) (fun h10 => ?_)
      ·
        refine T_ld zk_30_48 rfl rfl rfl (pc' := 49) rfl ?_
        refine T_op zk_30_49 rfl X_ic (pc' := 50) rfl ?_
        refine T_icmp_ne zk_30_50 (by omega) (by omega) (pc' := 53) rfl (fun h11 => ?_) (fun h12 => ?_)
        ·
          refine T_op zk_30_60 rfl X_ic (pc' := 61) rfl ?_
          exact T_iret zk_30_61 rfl (fun σ' h => ⟨_, rfl, (by omega), h.1, trivial⟩)
        ·
          refine T_op zk_30_53 rfl (X_bi (v := 20) (by decide)) (pc' := 55) rfl ?_
          refine T_ld zk_30_55 rfl rfl rfl (pc' := 56) rfl ?_
          refine T_op zk_30_56 rfl X_add (pc' := 57) rfl ?_
          refine T_goto zk_30_57 ?_
          exact T_iret zk_30_61 rfl (fun σ' h => ⟨_, rfl, (by omega), h.1, trivial⟩)
      ·
        refine T_ld zk_30_35 rfl rfl rfl (pc' := 36) rfl ?_
        refine T_op zk_30_36 rfl X_ic (pc' := 37) rfl ?_
        refine T_op zk_30_37 rfl (X_rem (by omega) (by omega)) (pc' := 38) rfl ?_
        refine T_op zk_30_38 rfl X_ic (pc' := 39) rfl ?_
        refine T_icmp_ge zk_30_39 (by omega) (by omega) (pc' := 42) rfl (fun h13 => ?_) (fun h14 => ?_)
        ·
          refine T_ld zk_30_48 rfl rfl rfl (pc' := 49) rfl ?_
          refine T_op zk_30_49 rfl X_ic (pc' := 50) rfl ?_
          refine T_icmp_ne zk_30_50 (by omega) (by omega) (pc' := 53) rfl (fun h15 => ?_) (fun h16 => ?_)
          ·
            refine T_op zk_30_60 rfl X_ic (pc' := 61) rfl ?_
            exact T_iret zk_30_61 rfl (fun σ' h => ⟨_, rfl, (by omega), h.1, trivial⟩)
          · exfalso; omega
        ·
          refine T_ld zk_30_42 rfl rfl rfl (pc' := 43) rfl ?_
          refine T_ld zk_30_43 rfl rfl rfl (pc' := 44) rfl ?_
          refine T_op zk_30_44 rfl X_ic (pc' := 45) rfl ?_
          refine T_op zk_30_45 rfl (X_div (by omega) (by omega)) (pc' := 46) rfl ?_
          refine T_op zk_30_46 rfl X_sub (pc' := 47) rfl ?_
          exact T_iret zk_30_47 rfl (fun σ' h => ⟨_, rfl, (by omega), h.1, trivial⟩)
    ·
      refine T_op zk_30_14 rfl X_ic (pc' := 15) rfl ?_
      exact T_iret zk_30_15 rfl (fun σ' h => ⟨_, rfl, (by omega), h.1, trivial⟩)
/-- W.refuse -/
theorem w_113 {xs : Nat × (Nat → Int32)} (p0 : Int) (hp0 : -7 ≤ p0 ∧ p0 ≤ -1) (σ : ZS) (hI : Inv σ)   : CT xs 2 113 [av 0 0 0, iv p0] σ (fun v σ' => ∃ y, v = some (iv y) ∧ (y = p0) ∧ IF (MI 0 28 28 28 28) σ σ' ∧ (True)) := by
  refine G_ct (J := (fun σ' => IF (MI 0 28 28 28 28) σ σ' ∧ True)) (L := [(0, av 0 0 0), (1, iv p0)]) (nL := 2) rfl rfl rfl ⟨IF.rf hI, trivial⟩ ?_
  refine T_ld zk_113_0 rfl rfl rfl (pc' := 1) rfl ?_
  refine T_op zk_113_1 rfl X_neg (pc' := 2) rfl ?_
  refine T_op zk_113_2 rfl X_ic (pc' := 3) rfl ?_
  refine T_op zk_113_3 rfl (X_bi (v := 7) (by decide)) (pc' := 5) rfl ?_
  refine T_calli (K := fun y1 σ' => ((y1 = 0 ∧ (-p0 < 1 ∨ 7 < -p0)) ∨ (y1 = 1 ∧ 1 ≤ -p0 ∧ -p0 ≤ 7)) ∧ (fun σ' => IF (MI 0 28 28 28 28) σ σ' ∧ True) σ') (r := []) zk_113_5 rfl rfl rfl rfl rfl rfl (Or.inl (Or.inl rfl)) (fun σ' h => (w_114 (-p0) 1 7 (by omega) (by omega) (by omega) σ' h.1.1 ).le (Nat.le_of_ble_eq_true rfl) (fun v σ2 ⟨y, h1, h2, h3, h4⟩ => ⟨y, h1, h2, h.1.tr h3 MN_sub, trivial⟩)) (pc' := 8) rfl (fun y1 => ?_)
  refine G_ex (fun hy1 => ?_)
  refine T_if_eq zk_113_8 (by omega) (pc' := 11) rfl (fun h2 => ?_) (fun h3 => ?_)
  ·
    refine T_ld zk_113_22 rfl rfl rfl (pc' := 23) rfl ?_
    exact T_iret zk_113_23 rfl (fun σ' h => ⟨_, rfl, (by omega), h.1, trivial⟩)
  ·
    refine T_ld zk_113_11 rfl rfl rfl (pc' := 12) rfl ?_
    refine T_getR (t' := 28) (i' := 0) (k' := 0) zk_113_12 rfl rfl rfl vd_0 (pc' := 15) rfl ?_
    refine T_ld zk_113_15 rfl rfl rfl (pc' := 16) rfl ?_
    refine T_op zk_113_16 rfl X_neg (pc' := 17) rfl ?_
    refine T_op (st' := [iv (-p0), av 28 0 0, iv (-p0), av 28 0 0]) zk_113_17 rfl rfl (pc' := 18) rfl ?_
    refine G_iald (lo := -2147483648) (hi := 2147483647) (ln := 8) zk_113_18 rfl rfl vd_28 (by omega) (by omega) (by omega) (fun σ' h => h.1.1) (fun _ h => (by have q := h.1; omega)) (pc' := 19) rfl (fun y4 hy4 hy4' => ?_)
    refine T_op zk_113_19 rfl X_ic (pc' := 20) rfl ?_
    refine G_unk zk_113_20 rfl (pc' := 21) rfl (fun y5 hy5 hy5' => ?_)
    refine G_iast (J' := (fun σ' => IF (MI 0 28 28 28 28) σ σ' ∧ True)) (ln := 8) zk_113_21 rfl rfl vd_28 (by omega) (by omega) (by omega) (fun σ' h => ⟨h.1.up ⟨by omega, trivial⟩ (by unfold MI; omega), trivial⟩) (pc' := 22) rfl ?_
    refine T_ld zk_113_22 rfl rfl rfl (pc' := 23) rfl ?_
    exact T_iret zk_113_23 rfl (fun σ' h => ⟨_, rfl, (by omega), h.1, trivial⟩)
/-- W.isHouse -/
theorem w_117 {xs : Nat × (Nat → Int32)} (p0 : Int) (n : Int) (hp0 : -2147483648 ≤ p0 ∧ p0 ≤ 2147483647) (hn : 0 ≤ n ∧ n ≤ 12) (σ : ZS) (hI : Inv σ)  (s1 : σ 1 0 0 6 = n) : CT xs 1 117 [av 0 0 0, iv p0] σ (fun v σ' => ∃ y, v = some (iv y) ∧ ((y = 0 ∧ (p0 < 0 ∨ n ≤ p0)) ∨ (y = 1 ∧ 0 ≤ p0 ∧ p0 < n)) ∧ IF MN σ σ' ∧ (True)) := by
  refine G_ct (J := (fun σ' => IF MN σ σ' ∧ True)) (L := [(0, av 0 0 0), (1, iv p0)]) (nL := 2) rfl rfl rfl ⟨IF.rf hI, trivial⟩ ?_
  refine T_ld zk_117_0 rfl rfl rfl (pc' := 1) rfl ?_
  refine T_if_lt zk_117_1 (by omega) (pc' := 4) rfl (fun h1 => ?_) (fun h2 => ?_)
  ·
    refine T_op zk_117_19 rfl X_ic (pc' := 20) rfl ?_
    exact T_zret zk_117_20 rfl (by omega) (fun σ' h => ⟨_, rfl, (by omega), h.1, trivial⟩)
  ·
    refine T_ld zk_117_4 rfl rfl rfl (pc' := 5) rfl ?_
    refine T_ld zk_117_5 rfl rfl rfl (pc' := 6) rfl ?_
    refine T_getR (t' := 1) (i' := 0) (k' := 0) zk_117_6 rfl rfl rfl vd_0 (pc' := 9) rfl ?_
    refine G_getX (w := n) zk_117_9 rfl (vd_1 (by omega)) (fun σ' h => (h.1.2 _ _ _ _ (fun q => q)).trans s1) (pc' := 12) rfl ?_
    refine T_icmp_ge zk_117_12 (by omega) (by omega) (pc' := 15) rfl (fun h3 => ?_) (fun h4 => ?_)
    ·
      refine T_op zk_117_19 rfl X_ic (pc' := 20) rfl ?_
      exact T_zret zk_117_20 rfl (by omega) (fun σ' h => ⟨_, rfl, (by omega), h.1, trivial⟩)
    ·
      refine T_op zk_117_15 rfl X_ic (pc' := 16) rfl ?_
      refine T_goto zk_117_16 ?_
      exact T_zret zk_117_20 rfl (by omega) (fun σ' h => ⟨_, rfl, (by omega), h.1, trivial⟩)
/-- W.isBoat -/
theorem w_118 {xs : Nat × (Nat → Int32)} (p0 : Int) (n : Int) (hp0 : -2147483648 ≤ p0 ∧ p0 ≤ 2147483647) (hn : 0 ≤ n ∧ n ≤ 6) (σ : ZS) (hI : Inv σ)  (s1 : σ 1 0 0 7 = n) : CT xs 1 118 [av 0 0 0, iv p0] σ (fun v σ' => ∃ y, v = some (iv y) ∧ ((y = 0 ∧ (p0 < 0 ∨ n ≤ p0)) ∨ (y = 1 ∧ 0 ≤ p0 ∧ p0 < n)) ∧ IF MN σ σ' ∧ (True)) := by
  refine G_ct (J := (fun σ' => IF MN σ σ' ∧ True)) (L := [(0, av 0 0 0), (1, iv p0)]) (nL := 2) rfl rfl rfl ⟨IF.rf hI, trivial⟩ ?_
  refine T_ld zk_118_0 rfl rfl rfl (pc' := 1) rfl ?_
  refine T_if_lt zk_118_1 (by omega) (pc' := 4) rfl (fun h1 => ?_) (fun h2 => ?_)
  ·
    refine T_op zk_118_19 rfl X_ic (pc' := 20) rfl ?_
    exact T_zret zk_118_20 rfl (by omega) (fun σ' h => ⟨_, rfl, (by omega), h.1, trivial⟩)
  ·
    refine T_ld zk_118_4 rfl rfl rfl (pc' := 5) rfl ?_
    refine T_ld zk_118_5 rfl rfl rfl (pc' := 6) rfl ?_
    refine T_getR (t' := 1) (i' := 0) (k' := 0) zk_118_6 rfl rfl rfl vd_0 (pc' := 9) rfl ?_
    refine G_getX (w := n) zk_118_9 rfl (vd_1 (by omega)) (fun σ' h => (h.1.2 _ _ _ _ (fun q => q)).trans s1) (pc' := 12) rfl ?_
    refine T_icmp_ge zk_118_12 (by omega) (by omega) (pc' := 15) rfl (fun h3 => ?_) (fun h4 => ?_)
    ·
      refine T_op zk_118_19 rfl X_ic (pc' := 20) rfl ?_
      exact T_zret zk_118_20 rfl (by omega) (fun σ' h => ⟨_, rfl, (by omega), h.1, trivial⟩)
    ·
      refine T_op zk_118_15 rfl X_ic (pc' := 16) rfl ?_
      refine T_goto zk_118_16 ?_
      exact T_zret zk_118_20 rfl (by omega) (fun σ' h => ⟨_, rfl, (by omega), h.1, trivial⟩)
/-- W.turn -/
theorem w_121_8 {xs : Nat × (Nat → Int32)} (p0 : Int) (p1 : Int) (hp0 : -2147483648 ≤ p0 ∧ p0 ≤ 2147483647) (hp1 : 0 ≤ p1 ∧ p1 ≤ 1) (σ : ZS) (hI : Inv σ)   : CT xs 1 121 [av 8 0 0, iv p0, iv p1] σ (fun v σ' => ∃ y, v = some (iv y) ∧ (y = 0 ∨ y = 1) ∧ IF (MI 0 8 8 8 8) σ σ' ∧ (True)) := by
  refine G_ct (J := (fun σ' => IF (MI 0 8 8 8 8) σ σ' ∧ True)) (L := [(0, av 8 0 0), (1, iv p0), (2, iv p1)]) (nL := 3) rfl rfl rfl ⟨IF.rf hI, trivial⟩ ?_
  refine T_ld zk_121_0 rfl rfl rfl (pc' := 1) rfl ?_
  refine T_if_lt zk_121_1 (by omega) (pc' := 4) rfl (fun h1 => ?_) (fun h2 => ?_)
  ·
    refine T_op zk_121_17 rfl X_ic (pc' := 18) rfl ?_
    exact T_iret zk_121_18 rfl (fun σ' h => ⟨_, rfl, (by omega), h.1, trivial⟩)
  ·
    refine T_ld zk_121_4 rfl rfl rfl (pc' := 5) rfl ?_
    refine T_ld zk_121_5 rfl rfl rfl (pc' := 6) rfl ?_
    refine T_alen (n := 40) zk_121_6 rfl rfl (vd_8 (by omega)) (pc' := 7) rfl ?_
    refine T_icmp_ge zk_121_7 (by omega) (by omega) (pc' := 10) rfl (fun h3 => ?_) (fun h4 => ?_)
    ·
      refine T_op zk_121_17 rfl X_ic (pc' := 18) rfl ?_
      exact T_iret zk_121_18 rfl (fun σ' h => ⟨_, rfl, (by omega), h.1, trivial⟩)
    ·
      refine T_ld zk_121_10 rfl rfl rfl (pc' := 11) rfl ?_
      refine T_ld zk_121_11 rfl rfl rfl (pc' := 12) rfl ?_
      refine G_bald (lo := 0) (hi := 1) (ln := 40) zk_121_12 rfl rfl (vd_8 (by omega)) (by omega) (by omega) (by omega) (fun σ' h => h.1.1) (fun _ h => h.2 (by omega) (by omega)) (pc' := 13) rfl (fun y5 hy5 hy5' => ?_)
      refine T_ld zk_121_13 rfl rfl rfl (pc' := 14) rfl ?_
      refine T_icmp_ne zk_121_14 (by omega) (by omega) (pc' := 17) rfl (fun h6 => ?_) (fun h7 => ?_)
      ·
        refine T_ld zk_121_19 rfl rfl rfl (pc' := 20) rfl ?_
        refine T_ld zk_121_20 rfl rfl rfl (pc' := 21) rfl ?_
        refine T_ld zk_121_21 rfl rfl rfl (pc' := 22) rfl ?_
        refine G_bast (J' := (fun σ' => IF (MI 0 8 8 8 8) σ σ' ∧ True)) (ln := 40) zk_121_22 rfl rfl (by omega) (vd_8 (by omega)) (by omega) (by omega) (by omega) (fun σ' h => ⟨h.1.up (by simp only [rgP] <;> omega) (by unfold MI; omega), trivial⟩) (pc' := 23) rfl ?_
        refine T_op zk_121_23 rfl X_ic (pc' := 24) rfl ?_
        exact T_iret zk_121_24 rfl (fun σ' h => ⟨_, rfl, (by omega), h.1, trivial⟩)
      ·
        refine T_op zk_121_17 rfl X_ic (pc' := 18) rfl ?_
        exact T_iret zk_121_18 rfl (fun σ' h => ⟨_, rfl, (by omega), h.1, trivial⟩)
/-- W.turn -/
theorem w_121_9 {xs : Nat × (Nat → Int32)} (p0 : Int) (p1 : Int) (hp0 : -2147483648 ≤ p0 ∧ p0 ≤ 2147483647) (hp1 : 0 ≤ p1 ∧ p1 ≤ 1) (σ : ZS) (hI : Inv σ)   : CT xs 1 121 [av 9 0 0, iv p0, iv p1] σ (fun v σ' => ∃ y, v = some (iv y) ∧ (y = 0 ∨ y = 1) ∧ IF (MI 0 9 9 9 9) σ σ' ∧ (True)) := by
  refine G_ct (J := (fun σ' => IF (MI 0 9 9 9 9) σ σ' ∧ True)) (L := [(0, av 9 0 0), (1, iv p0), (2, iv p1)]) (nL := 3) rfl rfl rfl ⟨IF.rf hI, trivial⟩ ?_
  refine T_ld zk_121_0 rfl rfl rfl (pc' := 1) rfl ?_
  refine T_if_lt zk_121_1 (by omega) (pc' := 4) rfl (fun h1 => ?_) (fun h2 => ?_)
  ·
    refine T_op zk_121_17 rfl X_ic (pc' := 18) rfl ?_
    exact T_iret zk_121_18 rfl (fun σ' h => ⟨_, rfl, (by omega), h.1, trivial⟩)
  ·
    refine T_ld zk_121_4 rfl rfl rfl (pc' := 5) rfl ?_
    refine T_ld zk_121_5 rfl rfl rfl (pc' := 6) rfl ?_
    refine T_alen (n := 40) zk_121_6 rfl rfl (vd_9 (by omega)) (pc' := 7) rfl ?_
    refine T_icmp_ge zk_121_7 (by omega) (by omega) (pc' := 10) rfl (fun h3 => ?_) (fun h4 => ?_)
    ·
      refine T_op zk_121_17 rfl X_ic (pc' := 18) rfl ?_
      exact T_iret zk_121_18 rfl (fun σ' h => ⟨_, rfl, (by omega), h.1, trivial⟩)
    ·
      refine T_ld zk_121_10 rfl rfl rfl (pc' := 11) rfl ?_
      refine T_ld zk_121_11 rfl rfl rfl (pc' := 12) rfl ?_
      refine G_bald (lo := 0) (hi := 1) (ln := 40) zk_121_12 rfl rfl (vd_9 (by omega)) (by omega) (by omega) (by omega) (fun σ' h => h.1.1) (fun _ h => h.2 (by omega) (by omega)) (pc' := 13) rfl (fun y5 hy5 hy5' => ?_)
      refine T_ld zk_121_13 rfl rfl rfl (pc' := 14) rfl ?_
      refine T_icmp_ne zk_121_14 (by omega) (by omega) (pc' := 17) rfl (fun h6 => ?_) (fun h7 => ?_)
      ·
        refine T_ld zk_121_19 rfl rfl rfl (pc' := 20) rfl ?_
        refine T_ld zk_121_20 rfl rfl rfl (pc' := 21) rfl ?_
        refine T_ld zk_121_21 rfl rfl rfl (pc' := 22) rfl ?_
        refine G_bast (J' := (fun σ' => IF (MI 0 9 9 9 9) σ σ' ∧ True)) (ln := 40) zk_121_22 rfl rfl (by omega) (vd_9 (by omega)) (by omega) (by omega) (by omega) (fun σ' h => ⟨h.1.up (by simp only [rgP] <;> omega) (by unfold MI; omega), trivial⟩) (pc' := 23) rfl ?_
        refine T_op zk_121_23 rfl X_ic (pc' := 24) rfl ?_
        exact T_iret zk_121_24 rfl (fun σ' h => ⟨_, rfl, (by omega), h.1, trivial⟩)
      ·
        refine T_op zk_121_17 rfl X_ic (pc' := 18) rfl ?_
        exact T_iret zk_121_18 rfl (fun σ' h => ⟨_, rfl, (by omega), h.1, trivial⟩)
/-- W.turn -/
theorem w_121_13 {xs : Nat × (Nat → Int32)} (p0 : Int) (p1 : Int) (hp0 : -2147483648 ≤ p0 ∧ p0 ≤ 2147483647) (hp1 : 0 ≤ p1 ∧ p1 ≤ 1) (σ : ZS) (hI : Inv σ)   : CT xs 1 121 [av 13 0 0, iv p0, iv p1] σ (fun v σ' => ∃ y, v = some (iv y) ∧ (y = 0 ∨ y = 1) ∧ IF (MI 0 13 13 13 13) σ σ' ∧ (True)) := by
  refine G_ct (J := (fun σ' => IF (MI 0 13 13 13 13) σ σ' ∧ True)) (L := [(0, av 13 0 0), (1, iv p0), (2, iv p1)]) (nL := 3) rfl rfl rfl ⟨IF.rf hI, trivial⟩ ?_
  refine T_ld zk_121_0 rfl rfl rfl (pc' := 1) rfl ?_
  refine T_if_lt zk_121_1 (by omega) (pc' := 4) rfl (fun h1 => ?_) (fun h2 => ?_)
  ·
    refine T_op zk_121_17 rfl X_ic (pc' := 18) rfl ?_
    exact T_iret zk_121_18 rfl (fun σ' h => ⟨_, rfl, (by omega), h.1, trivial⟩)
  ·
    refine T_ld zk_121_4 rfl rfl rfl (pc' := 5) rfl ?_
    refine T_ld zk_121_5 rfl rfl rfl (pc' := 6) rfl ?_
    refine T_alen (n := 3) zk_121_6 rfl rfl (vd_13 (by omega)) (pc' := 7) rfl ?_
    refine T_icmp_ge zk_121_7 (by omega) (by omega) (pc' := 10) rfl (fun h3 => ?_) (fun h4 => ?_)
    ·
      refine T_op zk_121_17 rfl X_ic (pc' := 18) rfl ?_
      exact T_iret zk_121_18 rfl (fun σ' h => ⟨_, rfl, (by omega), h.1, trivial⟩)
    ·
      refine T_ld zk_121_10 rfl rfl rfl (pc' := 11) rfl ?_
      refine T_ld zk_121_11 rfl rfl rfl (pc' := 12) rfl ?_
      refine G_bald (lo := 0) (hi := 1) (ln := 3) zk_121_12 rfl rfl (vd_13 (by omega)) (by omega) (by omega) (by omega) (fun σ' h => h.1.1) (fun _ h => h.2 (by omega) (by omega)) (pc' := 13) rfl (fun y5 hy5 hy5' => ?_)
      refine T_ld zk_121_13 rfl rfl rfl (pc' := 14) rfl ?_
      refine T_icmp_ne zk_121_14 (by omega) (by omega) (pc' := 17) rfl (fun h6 => ?_) (fun h7 => ?_)
      ·
        refine T_ld zk_121_19 rfl rfl rfl (pc' := 20) rfl ?_
        refine T_ld zk_121_20 rfl rfl rfl (pc' := 21) rfl ?_
        refine T_ld zk_121_21 rfl rfl rfl (pc' := 22) rfl ?_
        refine G_bast (J' := (fun σ' => IF (MI 0 13 13 13 13) σ σ' ∧ True)) (ln := 3) zk_121_22 rfl rfl (by omega) (vd_13 (by omega)) (by omega) (by omega) (by omega) (fun σ' h => ⟨h.1.up (by simp only [rgP] <;> omega) (by unfold MI; omega), trivial⟩) (pc' := 23) rfl ?_
        refine T_op zk_121_23 rfl X_ic (pc' := 24) rfl ?_
        exact T_iret zk_121_24 rfl (fun σ' h => ⟨_, rfl, (by omega), h.1, trivial⟩)
      ·
        refine T_op zk_121_17 rfl X_ic (pc' := 18) rfl ?_
        exact T_iret zk_121_18 rfl (fun σ' h => ⟨_, rfl, (by omega), h.1, trivial⟩)
/-- W$Mouths.numberAt -/
theorem w_62 {xs : Nat × (Nat → Int32)} (c : Nat) (p0 : Int) (hc : c < 3) (hp0 : -2147483648 ≤ p0 ∧ p0 ≤ 2147483647) (σ : ZS) (hI : Inv σ)   : CT xs 1 62 [av 11 c 0, iv p0] σ (fun v σ' => ∃ y, v = some (iv y) ∧ (-1 ≤ y ∧ y ≤ 2) ∧ IF MN σ σ' ∧ (True)) := by
  refine G_ct (J := (fun σ' => IF MN σ σ' ∧ True)) (L := [(0, av 11 c 0), (1, iv p0)]) (nL := 3) rfl rfl rfl ⟨IF.rf hI, trivial⟩ ?_
  refine T_op zk_62_0 rfl X_ic (pc' := 1) rfl ?_
  refine T_st (L' := [(0, av 11 c 0), (1, iv p0), (2, iv 0)]) zk_62_1 (nL := 3) rfl rfl rfl rfl rfl (pc' := 2) rfl ?_
  refine T_loop1 (fun x1 => ((3 - x1 : Int)).toNat) (fun x1 => (0 ≤ x1 ∧ x1 ≤ 3)) (fun x1 => TJ xs (fun σ' => IF MN σ σ' ∧ True) 0 62 2 [(0, av 11 c 0), (1, iv p0), (2, iv x1)] [] _) ?_ 0 (by omega)
  intro x1 hp3 ih2
  refine T_ld zk_62_2 rfl rfl rfl (pc' := 3) rfl ?_
  refine T_ld zk_62_3 rfl rfl rfl (pc' := 4) rfl ?_
  refine G_getf (lo := 0) (hi := 3) zk_62_4 rfl (vd_11 hc) (fun σ' h => h.1.1) (fun _ h => h.2 (by omega) (by omega)) (pc' := 7) rfl (fun y4 hy4 hy4' => ?_)
  refine T_icmp_ge zk_62_7 (by omega) (by omega) (pc' := 10) rfl (fun h5 => ?_) (fun h6 => ?_)
  ·
    refine T_op zk_62_28 rfl X_ic (pc' := 29) rfl ?_
    exact T_iret zk_62_29 rfl (fun σ' h => ⟨_, rfl, (by omega), h.1, trivial⟩)
  ·
    refine T_ld zk_62_10 rfl rfl rfl (pc' := 11) rfl ?_
    refine T_getR (t' := 12) (i' := c) (k' := 0) zk_62_11 rfl rfl rfl (vd_11 hc) (pc' := 14) rfl ?_
    refine T_ld zk_62_14 rfl rfl rfl (pc' := 15) rfl ?_
    refine G_iald (lo := 0) (hi := 24) (ln := 3) zk_62_15 rfl rfl (vd_12 hc) (by omega) (by omega) (by omega) (fun σ' h => h.1.1) (fun _ h => h.2 (by omega) (by omega)) (pc' := 16) rfl (fun y7 hy7 hy7' => ?_)
    refine T_ld zk_62_16 rfl rfl rfl (pc' := 17) rfl ?_
    refine T_icmp_ne zk_62_17 (by omega) (by omega) (pc' := 20) rfl (fun h8 => ?_) (fun h9 => ?_)
    ·
      refine T_iinc (L' := [(0, av 11 c 0), (1, iv p0), (2, iv (x1 + 1))]) zk_62_22 (nL := 3) rfl rfl rfl rfl (pc' := 25) rfl ?_
      refine T_goto zk_62_25 ?_
      exact ih2 (x1 + 1) (by omega) (by omega)
    ·
      refine T_ld zk_62_20 rfl rfl rfl (pc' := 21) rfl ?_
      exact T_iret zk_62_21 rfl (fun σ' h => ⟨_, rfl, (by omega), h.1, trivial⟩)
/-- W$Mouths.add -/
theorem w_61 {xs : Nat × (Nat → Int32)} (p0 : Int) (n : Int) (hp0 : 0 ≤ p0 ∧ p0 ≤ 24) (hn : 0 ≤ n ∧ n ≤ 2) (σ : ZS) (hI : Inv σ)  (s1 : σ 11 0 0 0 = n) : CT xs 1 61 [av 11 0 0, iv p0] σ (fun v σ' => ∃ y, v = some (iv y) ∧ (y = n) ∧ IF (MI 0 11 12 13 13) σ σ' ∧ (True)) := by
  refine G_ct (J := (fun σ' => IF (MI 0 11 12 13 13) σ σ' ∧ σ' 11 0 0 0 = n ∧ True)) (L := [(0, av 11 0 0), (1, iv p0)]) (nL := 2) rfl rfl rfl ⟨IF.rf hI, s1, trivial⟩ ?_
  refine T_ld zk_61_0 rfl rfl rfl (pc' := 1) rfl ?_
  refine T_getR (t' := 12) (i' := 0) (k' := 0) zk_61_1 rfl rfl rfl (vd_11 (by omega)) (pc' := 4) rfl ?_
  refine T_ld zk_61_4 rfl rfl rfl (pc' := 5) rfl ?_
  refine G_getX (w := n) zk_61_5 rfl (vd_11 (by omega)) (fun σ' h => h.2.1) (pc' := 8) rfl ?_
  refine T_ld zk_61_8 rfl rfl rfl (pc' := 9) rfl ?_
  refine G_iast (J' := (fun σ' => IF (MI 0 11 12 13 13) σ σ' ∧ σ' 11 0 0 0 = n ∧ True)) (ln := 3) zk_61_9 rfl rfl (vd_12 (by omega)) (by omega) (by omega) (by omega) (fun σ' h => ⟨h.1.up (by simp only [rgP] <;> omega) (by unfold MI; omega), (up_ne (by omega)).trans (h.2.1), trivial⟩) (pc' := 10) rfl ?_
  refine T_ld zk_61_10 rfl rfl rfl (pc' := 11) rfl ?_
  refine T_getR (t' := 13) (i' := 0) (k' := 0) zk_61_11 rfl rfl rfl (vd_11 (by omega)) (pc' := 14) rfl ?_
  refine T_ld zk_61_14 rfl rfl rfl (pc' := 15) rfl ?_
  refine G_getX (w := n) zk_61_15 rfl (vd_11 (by omega)) (fun σ' h => h.2.1) (pc' := 18) rfl ?_
  refine T_op zk_61_18 rfl X_ic (pc' := 19) rfl ?_
  refine G_bast (J' := (fun σ' => IF (MI 0 11 12 13 13) σ σ' ∧ σ' 11 0 0 0 = n ∧ True)) (ln := 3) zk_61_19 rfl rfl (by omega) (vd_13 (by omega)) (by omega) (by omega) (by omega) (fun σ' h => ⟨h.1.up (by simp only [rgP] <;> omega) (by unfold MI; omega), (up_ne (by omega)).trans (h.2.1), trivial⟩) (pc' := 20) rfl ?_
  refine T_ld zk_61_20 rfl rfl rfl (pc' := 21) rfl ?_
  refine T_op (st' := [av 11 0 0, av 11 0 0]) zk_61_21 rfl rfl (pc' := 22) rfl ?_
  refine G_getX (w := n) zk_61_22 rfl (vd_11 (by omega)) (fun σ' h => h.2.1) (pc' := 25) rfl ?_
  refine T_op zk_61_25 rfl X_ic (pc' := 26) rfl ?_
  refine T_op zk_61_26 rfl X_add (pc' := 27) rfl ?_
  refine T_putf (J' := (fun σ' => IF (MI 0 11 12 13 13) σ σ' ∧ σ' 11 0 0 0 = n + 1 ∧ True)) zk_61_27 rfl rfl (vd_11 (by omega)) (fun σ' h => ⟨h.1.up (by simp only [rgP] <;> omega) (by unfold MI; omega), up_eq, trivial⟩) (pc' := 30) rfl ?_
  refine T_ld zk_61_30 rfl rfl rfl (pc' := 31) rfl ?_
  refine G_getX (w := n + 1) zk_61_31 rfl (vd_11 (by omega)) (fun σ' h => h.2.1) (pc' := 34) rfl ?_
  refine T_op zk_61_34 rfl X_ic (pc' := 35) rfl ?_
  refine T_op zk_61_35 rfl X_sub (pc' := 36) rfl ?_
  exact T_iret zk_61_36 rfl (fun σ' h => ⟨_, rfl, (by omega), h.1, trivial⟩)
/-- W$Tide.heightIn -/
theorem w_73 {xs : Nat × (Nat → Int32)} (c : Nat) (k : Nat) (p0 : Int) (hc : c < 3) (hk : k < 2) (hp0 : -2147483648 ≤ p0 ∧ p0 ≤ 2147483647) (σ : ZS) (hI : Inv σ)   : CT xs 1 73 [av 17 c k, iv p0] σ (fun v σ' => ∃ y, v = some (iv y) ∧ (-300 ≤ y ∧ y ≤ 300) ∧ IF MN σ σ' ∧ (True)) := by
  refine G_ct (J := (fun σ' => IF MN σ σ' ∧ True)) (L := [(0, av 17 c k), (1, iv p0)]) (nL := 2) rfl rfl rfl ⟨IF.rf hI, trivial⟩ ?_
  refine T_ld zk_73_0 rfl rfl rfl (pc' := 1) rfl ?_
  refine G_learn (t := 17) (i := c) (k := k) (j := 0) (lo := 0) (hi := 96) (J2 := fun y1 => (fun σ' => IF MN σ σ' ∧ σ' 17 c k 0 = y1 ∧ True)) (vd_17 hc (by omega)) (fun σ' h => h.1.1) (fun _ h => h.2 (by omega) (by omega)) (fun σ' y h hy => ⟨h.1, hy, trivial⟩) (fun y1 hy1 hy1' => ?_)
  refine G_getX (w := y1) zk_73_1 rfl (vd_17 hc (by omega)) (fun σ' h => h.2.1) (pc' := 4) rfl ?_
  refine T_if_le zk_73_4 (by omega) (pc' := 7) rfl (fun h2 => ?_) (fun h3 => ?_)
  ·
    refine T_op zk_73_11 rfl X_ic (pc' := 12) rfl ?_
    refine T_goto zk_73_12 ?_
    exact T_iret zk_73_26 rfl (fun σ' h => ⟨_, rfl, (by omega), h.1, trivial⟩)
  ·
    refine T_ld zk_73_7 rfl rfl rfl (pc' := 8) rfl ?_
    refine T_if_ge zk_73_8 (by omega) (pc' := 11) rfl (fun h4 => ?_) (fun h5 => ?_)
    ·
      refine T_ld zk_73_15 rfl rfl rfl (pc' := 16) rfl ?_
      refine T_getR (t' := 18) (i' := c) (k' := k) zk_73_16 rfl rfl rfl (vd_17 hc (by omega)) (pc' := 19) rfl ?_
      refine T_ld zk_73_19 rfl rfl rfl (pc' := 20) rfl ?_
      refine T_ld zk_73_20 rfl rfl rfl (pc' := 21) rfl ?_
      refine G_getX (w := y1) zk_73_21 rfl (vd_17 hc (by omega)) (fun σ' h => h.2.1) (pc' := 24) rfl ?_
      refine G_rem zk_73_24 (by omega) (by omega) (pc' := 25) rfl (fun y6 hy6 hy6' => ?_)
      refine G_iald (lo := -300) (hi := 300) (ln := 96) zk_73_25 rfl rfl (vd_18 hc (by omega)) (by omega) (by omega) (by omega) (fun σ' h => h.1.1) (fun _ h => h.2 (by omega) (by omega)) (pc' := 26) rfl (fun y7 hy7 hy7' => ?_)
      exact T_iret zk_73_26 rfl (fun σ' h => ⟨_, rfl, (by omega), h.1, trivial⟩)
    ·
      refine T_op zk_73_11 rfl X_ic (pc' := 12) rfl ?_
      refine T_goto zk_73_12 ?_
      exact T_iret zk_73_26 rfl (fun σ' h => ⟨_, rfl, (by omega), h.1, trivial⟩)
/-- W$City.boatsWithGoal -/
theorem w_18 {xs : Nat × (Nat → Int32)} (c : Nat) (hc : c < 3) (σ : ZS) (hI : Inv σ)   : CT xs 1 18 [av 1 c 0] σ (fun v σ' => ∃ y, v = some (iv y) ∧ (0 ≤ y ∧ y ≤ 6) ∧ IF MN σ σ' ∧ (True)) := by
  refine G_ct (J := (fun σ' => IF MN σ σ' ∧ True)) (L := [(0, av 1 c 0)]) (nL := 3) rfl rfl rfl ⟨IF.rf hI, trivial⟩ ?_
  refine T_op zk_18_0 rfl X_ic (pc' := 1) rfl ?_
  refine T_st (L' := [(0, av 1 c 0), (1, iv 0)]) zk_18_1 (nL := 3) rfl rfl rfl rfl rfl (pc' := 2) rfl ?_
  refine T_op zk_18_2 rfl X_ic (pc' := 3) rfl ?_
  refine T_st (L' := [(0, av 1 c 0), (1, iv 0), (2, iv 0)]) zk_18_3 (nL := 3) rfl rfl rfl rfl rfl (pc' := 4) rfl ?_
  refine T_loop2 (fun x1 x2 => ((6 - x2 : Int)).toNat) (fun x1 x2 => (0 ≤ x1 ∧ x1 ≤ 6) ∧ (0 ≤ x2 ∧ x2 ≤ 6) ∧ x1 ≤ x2) (fun x1 x2 => TJ xs (fun σ' => IF MN σ σ' ∧ True) 0 18 4 [(0, av 1 c 0), (1, iv x1), (2, iv x2)] [] _) ?_ 0 0 (by omega)
  intro x1 x2 hp4 ih3
  refine T_ld zk_18_4 rfl rfl rfl (pc' := 5) rfl ?_
  refine T_ld zk_18_5 rfl rfl rfl (pc' := 6) rfl ?_
  refine G_getf (lo := 0) (hi := 6) zk_18_6 rfl (vd_1 hc) (fun σ' h => h.1.1) (fun _ h => h.2.2.2.1 (by omega) (by omega)) (pc' := 9) rfl (fun y5 hy5 hy5' => ?_)
  refine T_icmp_ge zk_18_9 (by omega) (by omega) (pc' := 12) rfl (fun h6 => ?_) (fun h7 => ?_)
  ·
    refine T_ld zk_18_34 rfl rfl rfl (pc' := 35) rfl ?_
    exact T_iret zk_18_35 rfl (fun σ' h => ⟨_, rfl, (by omega), h.1, trivial⟩)
  ·
    refine T_ld zk_18_12 rfl rfl rfl (pc' := 13) rfl ?_
    refine T_getR (t' := 16) (i' := c) (k' := 0) zk_18_13 rfl rfl rfl (vd_1 hc) (pc' := 16) rfl ?_
    refine T_ld zk_18_16 rfl rfl rfl (pc' := 17) rfl ?_
    refine G_aald (t' := 26) (im := 9) (i' := c) (ln := 6) zk_18_17 rfl rfl rfl (vd_16 hc) (by omega) (by omega) (by omega) (pc' := 18) rfl ?_
    refine G_getf (lo := -1) (hi := 24) zk_18_18 rfl (vd_26 hc (by omega)) (fun σ' h => h.1.1) (fun _ h => h.2.2 (by omega) (by omega)) (pc' := 21) rfl (fun y8 hy8 hy8' => ?_)
    refine T_op zk_18_21 rfl X_ic (pc' := 22) rfl ?_
    refine T_icmp_eq zk_18_22 (by omega) (by omega) (pc' := 25) rfl (fun h9 => ?_) (fun h10 => ?_)
    ·
      refine T_iinc (L' := [(0, av 1 c 0), (1, iv x1), (2, iv (x2 + 1))]) zk_18_28 (nL := 3) rfl rfl rfl rfl (pc' := 31) rfl ?_
      refine T_goto zk_18_31 ?_
      exact ih3 x1 (x2 + 1) (by omega) (by omega)
    ·
      refine T_iinc (L' := [(0, av 1 c 0), (1, iv (x1 + 1)), (2, iv x2)]) zk_18_25 (nL := 3) rfl rfl rfl rfl (pc' := 28) rfl ?_
      refine T_iinc (L' := [(0, av 1 c 0), (1, iv (x1 + 1)), (2, iv (x2 + 1))]) zk_18_28 (nL := 3) rfl rfl rfl rfl (pc' := 31) rfl ?_
      refine T_goto zk_18_31 ?_
      exact ih3 (x1 + 1) (x2 + 1) (by omega) (by omega)
/-- W$City.lawsInForce -/
theorem w_19 {xs : Nat × (Nat → Int32)} (c : Nat) (hc : c < 3) (σ : ZS) (hI : Inv σ)   : CT xs 1 19 [av 1 c 0] σ (fun v σ' => ∃ y, v = some (iv y) ∧ (0 ≤ y ∧ y ≤ 5) ∧ IF MN σ σ' ∧ (True)) := by
  refine G_ct (J := (fun σ' => IF MN σ σ' ∧ True)) (L := [(0, av 1 c 0)]) (nL := 3) rfl rfl rfl ⟨IF.rf hI, trivial⟩ ?_
  refine T_op zk_19_0 rfl X_ic (pc' := 1) rfl ?_
  refine T_st (L' := [(0, av 1 c 0), (1, iv 0)]) zk_19_1 (nL := 3) rfl rfl rfl rfl rfl (pc' := 2) rfl ?_
  refine T_op zk_19_2 rfl X_ic (pc' := 3) rfl ?_
  refine T_st (L' := [(0, av 1 c 0), (1, iv 0), (2, iv 0)]) zk_19_3 (nL := 3) rfl rfl rfl rfl rfl (pc' := 4) rfl ?_
  refine T_loop2 (fun x1 x2 => ((5 - x2 : Int)).toNat) (fun x1 x2 => (0 ≤ x1 ∧ x1 ≤ 5) ∧ (0 ≤ x2 ∧ x2 ≤ 5) ∧ x1 ≤ x2) (fun x1 x2 => TJ xs (fun σ' => IF MN σ σ' ∧ True) 0 19 4 [(0, av 1 c 0), (1, iv x1), (2, iv x2)] [] _) ?_ 0 0 (by omega)
  intro x1 x2 hp4 ih3
  refine T_ld zk_19_4 rfl rfl rfl (pc' := 5) rfl ?_
  refine T_ld zk_19_5 rfl rfl rfl (pc' := 6) rfl ?_
  refine G_getf (lo := 0) (hi := 5) zk_19_6 rfl (vd_1 hc) (fun σ' h => h.1.1) (fun _ h => h.2.1 (by omega) (by omega)) (pc' := 9) rfl (fun y5 hy5 hy5' => ?_)
  refine T_icmp_ge zk_19_9 (by omega) (by omega) (pc' := 12) rfl (fun h6 => ?_) (fun h7 => ?_)
  ·
    refine T_ld zk_19_33 rfl rfl rfl (pc' := 34) rfl ?_
    exact T_iret zk_19_34 rfl (fun σ' h => ⟨_, rfl, (by omega), h.1, trivial⟩)
  ·
    refine T_ld zk_19_12 rfl rfl rfl (pc' := 13) rfl ?_
    refine T_getR (t' := 14) (i' := c) (k' := 0) zk_19_13 rfl rfl rfl (vd_1 hc) (pc' := 16) rfl ?_
    refine T_ld zk_19_16 rfl rfl rfl (pc' := 17) rfl ?_
    refine G_aald (t' := 23) (im := 9) (i' := c) (ln := 5) zk_19_17 rfl rfl rfl (vd_14 hc) (by omega) (by omega) (by omega) (pc' := 18) rfl ?_
    refine G_getf (lo := 0) (hi := 1) zk_19_18 rfl (vd_23 hc (by omega)) (fun σ' h => h.1.1) (fun _ h => h.2.2 (by omega) (by omega)) (pc' := 21) rfl (fun y8 hy8 hy8' => ?_)
    refine T_if_eq zk_19_21 (by omega) (pc' := 24) rfl (fun h9 => ?_) (fun h10 => ?_)
    ·
      refine T_iinc (L' := [(0, av 1 c 0), (1, iv x1), (2, iv (x2 + 1))]) zk_19_27 (nL := 3) rfl rfl rfl rfl (pc' := 30) rfl ?_
      refine T_goto zk_19_30 ?_
      exact ih3 x1 (x2 + 1) (by omega) (by omega)
    ·
      refine T_iinc (L' := [(0, av 1 c 0), (1, iv (x1 + 1)), (2, iv x2)]) zk_19_24 (nL := 3) rfl rfl rfl rfl (pc' := 27) rfl ?_
      refine T_iinc (L' := [(0, av 1 c 0), (1, iv (x1 + 1)), (2, iv (x2 + 1))]) zk_19_27 (nL := 3) rfl rfl rfl rfl (pc' := 30) rfl ?_
      refine T_goto zk_19_30 ?_
      exact ih3 (x1 + 1) (x2 + 1) (by omega) (by omega)
/-- W$Mouths.shutCount -/
theorem w_63 {xs : Nat × (Nat → Int32)} (c : Nat) (hc : c < 3) (σ : ZS) (hI : Inv σ)   : CT xs 1 63 [av 11 c 0] σ (fun v σ' => ∃ y, v = some (iv y) ∧ (0 ≤ y ∧ y ≤ 3) ∧ IF MN σ σ' ∧ (True)) := by
  refine G_ct (J := (fun σ' => IF MN σ σ' ∧ True)) (L := [(0, av 11 c 0)]) (nL := 3) rfl rfl rfl ⟨IF.rf hI, trivial⟩ ?_
  refine T_op zk_63_0 rfl X_ic (pc' := 1) rfl ?_
  refine T_st (L' := [(0, av 11 c 0), (1, iv 0)]) zk_63_1 (nL := 3) rfl rfl rfl rfl rfl (pc' := 2) rfl ?_
  refine T_op zk_63_2 rfl X_ic (pc' := 3) rfl ?_
  refine T_st (L' := [(0, av 11 c 0), (1, iv 0), (2, iv 0)]) zk_63_3 (nL := 3) rfl rfl rfl rfl rfl (pc' := 4) rfl ?_
  refine T_loop2 (fun x1 x2 => ((3 - x2 : Int)).toNat) (fun x1 x2 => (0 ≤ x1 ∧ x1 ≤ 3) ∧ (0 ≤ x2 ∧ x2 ≤ 3) ∧ x1 ≤ x2) (fun x1 x2 => TJ xs (fun σ' => IF MN σ σ' ∧ True) 0 63 4 [(0, av 11 c 0), (1, iv x1), (2, iv x2)] [] _) ?_ 0 0 (by omega)
  intro x1 x2 hp4 ih3
  refine T_ld zk_63_4 rfl rfl rfl (pc' := 5) rfl ?_
  refine T_ld zk_63_5 rfl rfl rfl (pc' := 6) rfl ?_
  refine G_getf (lo := 0) (hi := 3) zk_63_6 rfl (vd_11 hc) (fun σ' h => h.1.1) (fun _ h => h.2 (by omega) (by omega)) (pc' := 9) rfl (fun y5 hy5 hy5' => ?_)
  refine T_icmp_ge zk_63_9 (by omega) (by omega) (pc' := 12) rfl (fun h6 => ?_) (fun h7 => ?_)
  ·
    refine T_ld zk_63_30 rfl rfl rfl (pc' := 31) rfl ?_
    exact T_iret zk_63_31 rfl (fun σ' h => ⟨_, rfl, (by omega), h.1, trivial⟩)
  ·
    refine T_ld zk_63_12 rfl rfl rfl (pc' := 13) rfl ?_
    refine T_getR (t' := 13) (i' := c) (k' := 0) zk_63_13 rfl rfl rfl (vd_11 hc) (pc' := 16) rfl ?_
    refine T_ld zk_63_16 rfl rfl rfl (pc' := 17) rfl ?_
    refine G_bald (lo := 0) (hi := 1) (ln := 3) zk_63_17 rfl rfl (vd_13 hc) (by omega) (by omega) (by omega) (fun σ' h => h.1.1) (fun _ h => h.2 (by omega) (by omega)) (pc' := 18) rfl (fun y8 hy8 hy8' => ?_)
    refine T_if_eq zk_63_18 (by omega) (pc' := 21) rfl (fun h9 => ?_) (fun h10 => ?_)
    ·
      refine T_iinc (L' := [(0, av 11 c 0), (1, iv x1), (2, iv (x2 + 1))]) zk_63_24 (nL := 3) rfl rfl rfl rfl (pc' := 27) rfl ?_
      refine T_goto zk_63_27 ?_
      exact ih3 x1 (x2 + 1) (by omega) (by omega)
    ·
      refine T_iinc (L' := [(0, av 11 c 0), (1, iv (x1 + 1)), (2, iv x2)]) zk_63_21 (nL := 3) rfl rfl rfl rfl (pc' := 24) rfl ?_
      refine T_iinc (L' := [(0, av 11 c 0), (1, iv (x1 + 1)), (2, iv (x2 + 1))]) zk_63_24 (nL := 3) rfl rfl rfl rfl (pc' := 27) rfl ?_
      refine T_goto zk_63_27 ?_
      exact ih3 (x1 + 1) (x2 + 1) (by omega) (by omega)
/-- W$City.enforce -/
theorem w_20 {xs : Nat × (Nat → Int32)} (c : Nat) (p0 : Int) (hc : c < 3) (hp0 : -2147483648 ≤ p0 ∧ p0 ≤ 2147483647) (σ : ZS) (hI : Inv σ)   : CT xs 1 20 [av 1 c 0, iv p0] σ (fun v σ' => v = none ∧ IF (MI c 23 23 23 23) σ σ' ∧ (True)) := by
  refine G_ct (J := (fun σ' => IF (MI c 23 23 23 23) σ σ' ∧ True)) (L := [(0, av 1 c 0), (1, iv p0)]) (nL := 3) rfl rfl rfl ⟨IF.rf hI, trivial⟩ ?_
  refine T_op zk_20_0 rfl X_ic (pc' := 1) rfl ?_
  refine T_st (L' := [(0, av 1 c 0), (1, iv p0), (2, iv 0)]) zk_20_1 (nL := 3) rfl rfl rfl rfl rfl (pc' := 2) rfl ?_
  refine T_loop1 (fun x1 => ((5 - x1 : Int)).toNat) (fun x1 => (0 ≤ x1 ∧ x1 ≤ 5)) (fun x1 => TJ xs (fun σ' => IF (MI c 23 23 23 23) σ σ' ∧ True) 0 20 2 [(0, av 1 c 0), (1, iv p0), (2, iv x1)] [] _) ?_ 0 (by omega)
  intro x1 hp3 ih2
  refine T_ld zk_20_2 rfl rfl rfl (pc' := 3) rfl ?_
  refine T_ld zk_20_3 rfl rfl rfl (pc' := 4) rfl ?_
  refine G_getf (lo := 0) (hi := 5) zk_20_4 rfl (vd_1 hc) (fun σ' h => h.1.1) (fun _ h => h.2.1 (by omega) (by omega)) (pc' := 7) rfl (fun y4 hy4 hy4' => ?_)
  refine T_icmp_ge zk_20_7 (by omega) (by omega) (pc' := 10) rfl (fun h5 => ?_) (fun h6 => ?_)
  ·
    exact T_vret zk_20_39 rfl (fun σ' h => ⟨rfl, h.1, trivial⟩)
  ·
    refine T_ld zk_20_10 rfl rfl rfl (pc' := 11) rfl ?_
    refine T_getR (t' := 14) (i' := c) (k' := 0) zk_20_11 rfl rfl rfl (vd_1 hc) (pc' := 14) rfl ?_
    refine T_ld zk_20_14 rfl rfl rfl (pc' := 15) rfl ?_
    refine G_aald (t' := 23) (im := 9) (i' := c) (ln := 5) zk_20_15 rfl rfl rfl (vd_14 hc) (by omega) (by omega) (by omega) (pc' := 16) rfl ?_
    refine T_ld zk_20_16 rfl rfl rfl (pc' := 17) rfl ?_
    refine T_ld zk_20_17 rfl rfl rfl (pc' := 18) rfl ?_
    refine G_unk zk_20_18 rfl (pc' := 19) rfl (fun y7 hy7 hy7' => ?_)
    refine T_op zk_20_19 rfl X_ic (pc' := 20) rfl ?_
    refine G_unk zk_20_20 rfl (pc' := 21) rfl (fun y8 hy8 hy8' => ?_)
    refine T_op zk_20_21 rfl X_ic (pc' := 22) rfl ?_
    refine T_icmp_ne zk_20_22 (by omega) (by omega) (pc' := 25) rfl (fun h9 => ?_) (fun h10 => ?_)
    ·
      refine T_op zk_20_29 rfl X_ic (pc' := 30) rfl ?_
      refine T_putz (J' := (fun σ' => IF (MI c 23 23 23 23) σ σ' ∧ True)) zk_20_30 rfl rfl (by omega) (vd_23 hc (by omega)) (fun σ' h => ⟨h.1.up (by simp only [rgP] <;> omega) (by unfold MI; omega), trivial⟩) (pc' := 33) rfl ?_
      refine T_iinc (L' := [(0, av 1 c 0), (1, iv p0), (2, iv (x1 + 1))]) zk_20_33 (nL := 3) rfl rfl rfl rfl (pc' := 36) rfl ?_
      refine T_goto zk_20_36 ?_
      exact ih2 (x1 + 1) (by omega) (by omega)
    ·
      refine T_op zk_20_25 rfl X_ic (pc' := 26) rfl ?_
      refine T_goto zk_20_26 ?_
      refine T_putz (J' := (fun σ' => IF (MI c 23 23 23 23) σ σ' ∧ True)) zk_20_30 rfl rfl (by omega) (vd_23 hc (by omega)) (fun σ' h => ⟨h.1.up (by simp only [rgP] <;> omega) (by unfold MI; omega), trivial⟩) (pc' := 33) rfl ?_
      refine T_iinc (L' := [(0, av 1 c 0), (1, iv p0), (2, iv (x1 + 1))]) zk_20_33 (nL := 3) rfl rfl rfl rfl (pc' := 36) rfl ?_
      refine T_goto zk_20_36 ?_
      exact ih2 (x1 + 1) (by omega) (by omega)
/-- W$City.troubles -/
theorem w_21 {xs : Nat × (Nat → Int32)} (c : Nat) (hc : c < 3) (σ : ZS) (hI : Inv σ)   : CT xs 1 21 [av 1 c 0] σ (fun v σ' => ∃ y, v = some (iv y) ∧ (-2147483648 ≤ y ∧ y ≤ 2147483647) ∧ IF MN σ σ' ∧ (True)) := by
  refine G_ct (J := (fun σ' => IF MN σ σ' ∧ True)) (L := [(0, av 1 c 0)]) (nL := 3) rfl rfl rfl ⟨IF.rf hI, trivial⟩ ?_
  refine T_op zk_21_0 rfl X_ic (pc' := 1) rfl ?_
  refine T_st (L' := [(0, av 1 c 0), (1, iv 0)]) zk_21_1 (nL := 3) rfl rfl rfl rfl rfl (pc' := 2) rfl ?_
  refine T_op zk_21_2 rfl X_ic (pc' := 3) rfl ?_
  refine T_st (L' := [(0, av 1 c 0), (1, iv 0), (2, iv 0)]) zk_21_3 (nL := 3) rfl rfl rfl rfl rfl (pc' := 4) rfl ?_
  refine T_loop2 (fun x1 x2 => ((12 - x2 : Int)).toNat) (fun x1 x2 => (-2147483648 ≤ x1 ∧ x1 ≤ 2147483647) ∧ (0 ≤ x2 ∧ x2 ≤ 12)) (fun x1 x2 => TJ xs (fun σ' => IF MN σ σ' ∧ True) 0 21 4 [(0, av 1 c 0), (1, iv x1), (2, iv x2)] [] _) ?_ 0 0 (by omega)
  intro x1 x2 hp4 ih3
  refine T_ld zk_21_4 rfl rfl rfl (pc' := 5) rfl ?_
  refine T_ld zk_21_5 rfl rfl rfl (pc' := 6) rfl ?_
  refine G_getf (lo := 0) (hi := 12) zk_21_6 rfl (vd_1 hc) (fun σ' h => h.1.1) (fun _ h => h.2.2.1 (by omega) (by omega)) (pc' := 9) rfl (fun y5 hy5 hy5' => ?_)
  refine T_icmp_ge zk_21_9 (by omega) (by omega) (pc' := 12) rfl (fun h6 => ?_) (fun h7 => ?_)
  ·
    refine T_op zk_21_33 rfl X_ic (pc' := 34) rfl ?_
    refine T_st (L' := [(0, av 1 c 0), (1, iv x1), (2, iv 0)]) zk_21_34 (nL := 3) rfl rfl rfl rfl rfl (pc' := 35) rfl ?_
    refine T_loop2 (fun x8 x9 => ((6 - x9 : Int)).toNat) (fun x8 x9 => (-2147483648 ≤ x8 ∧ x8 ≤ 2147483647) ∧ (0 ≤ x9 ∧ x9 ≤ 6)) (fun x8 x9 => TJ xs (fun σ' => IF MN σ σ' ∧ True) 0 21 35 [(0, av 1 c 0), (1, iv x8), (2, iv x9)] [] _) ?_ x1 0 (by omega)
    intro x8 x9 hp11 ih10
    refine T_ld zk_21_35 rfl rfl rfl (pc' := 36) rfl ?_
    refine T_ld zk_21_36 rfl rfl rfl (pc' := 37) rfl ?_
    refine G_getf (lo := 0) (hi := 6) zk_21_37 rfl (vd_1 hc) (fun σ' h => h.1.1) (fun _ h => h.2.2.2.1 (by omega) (by omega)) (pc' := 40) rfl (fun y12 hy12 hy12' => ?_)
    refine T_icmp_ge zk_21_40 (by omega) (by omega) (pc' := 43) rfl (fun h13 => ?_) (fun h14 => ?_)
    ·
      refine T_ld zk_21_61 rfl rfl rfl (pc' := 62) rfl ?_
      exact T_iret zk_21_62 rfl (fun σ' h => ⟨_, rfl, (by omega), h.1, trivial⟩)
    ·
      refine T_ld zk_21_43 rfl rfl rfl (pc' := 44) rfl ?_
      refine T_ld zk_21_44 rfl rfl rfl (pc' := 45) rfl ?_
      refine T_getR (t' := 16) (i' := c) (k' := 0) zk_21_45 rfl rfl rfl (vd_1 hc) (pc' := 48) rfl ?_
      refine T_ld zk_21_48 rfl rfl rfl (pc' := 49) rfl ?_
      refine G_aald (t' := 26) (im := 9) (i' := c) (ln := 6) zk_21_49 rfl rfl rfl (vd_16 hc) (by omega) (by omega) (by omega) (pc' := 50) rfl ?_
      refine G_getf (lo := -2147483648) (hi := 2147483647) zk_21_50 rfl (vd_26 hc (by omega)) (fun σ' h => h.1.1) (fun _ h => (by have q := h.1; omega)) (pc' := 53) rfl (fun y15 hy15 hy15' => ?_)
      refine G_unk zk_21_53 rfl (pc' := 54) rfl (fun y16 hy16 hy16' => ?_)
      refine T_st (L' := [(0, av 1 c 0), (1, iv y16), (2, iv x9)]) zk_21_54 (nL := 3) rfl rfl rfl rfl rfl (pc' := 55) rfl ?_
      refine T_iinc (L' := [(0, av 1 c 0), (1, iv y16), (2, iv (x9 + 1))]) zk_21_55 (nL := 3) rfl rfl rfl rfl (pc' := 58) rfl ?_
      refine T_goto zk_21_58 ?_
      exact ih10 y16 (x9 + 1) (by omega) (by omega)
  ·
    refine T_ld zk_21_12 rfl rfl rfl (pc' := 13) rfl ?_
    refine T_op zk_21_13 rfl (X_bi (v := 10) (by decide)) (pc' := 15) rfl ?_
    refine T_ld zk_21_15 rfl rfl rfl (pc' := 16) rfl ?_
    refine T_getR (t' := 15) (i' := c) (k' := 0) zk_21_16 rfl rfl rfl (vd_1 hc) (pc' := 19) rfl ?_
    refine T_ld zk_21_19 rfl rfl rfl (pc' := 20) rfl ?_
    refine G_aald (t' := 25) (im := 9) (i' := c) (ln := 12) zk_21_20 rfl rfl rfl (vd_15 hc) (by omega) (by omega) (by omega) (pc' := 21) rfl ?_
    refine G_getf (lo := -2147483648) (hi := 2147483647) zk_21_21 rfl (vd_25 hc (by omega)) (fun σ' h => h.1.1) (fun _ h => (by have q := h.1; omega)) (pc' := 24) rfl (fun y17 hy17 hy17' => ?_)
    refine G_unk zk_21_24 rfl (pc' := 25) rfl (fun y18 hy18 hy18' => ?_)
    refine G_unk zk_21_25 rfl (pc' := 26) rfl (fun y19 hy19 hy19' => ?_)
    refine T_st (L' := [(0, av 1 c 0), (1, iv y19), (2, iv x2)]) zk_21_26 (nL := 3) rfl rfl rfl rfl rfl (pc' := 27) rfl ?_
    refine T_iinc (L' := [(0, av 1 c 0), (1, iv y19), (2, iv (x2 + 1))]) zk_21_27 (nL := 3) rfl rfl rfl rfl (pc' := 30) rfl ?_
    refine T_goto zk_21_30 ?_
    exact ih3 y19 (x2 + 1) (by omega) (by omega)
/-- W$Lagoon.greatestLevel -/
theorem w_33 {xs : Nat × (Nat → Int32)} (c : Nat) (hc : c < 3) (σ : ZS) (hI : Inv σ)   : CT xs 1 33 [av 2 c 0] σ (fun v σ' => ∃ y, v = some (iv y) ∧ (-2147483648 ≤ y ∧ y ≤ 2147483647) ∧ IF MN σ σ' ∧ (True)) := by
  refine G_ct (J := (fun σ' => IF MN σ σ' ∧ True)) (L := [(0, av 2 c 0)]) (nL := 3) rfl rfl rfl ⟨IF.rf hI, trivial⟩ ?_
  refine T_ld zk_33_0 rfl rfl rfl (pc' := 1) rfl ?_
  refine T_getR (t' := 4) (i' := c) (k' := 0) zk_33_1 rfl rfl rfl (vd_2 hc) (pc' := 4) rfl ?_
  refine T_op zk_33_4 rfl X_ic (pc' := 5) rfl ?_
  refine G_iald (lo := -2147483648) (hi := 2147483647) (ln := 25) zk_33_5 rfl rfl (vd_4 hc) (by omega) (by omega) (by omega) (fun σ' h => h.1.1) (fun _ h => (by have q := h.1; omega)) (pc' := 6) rfl (fun y1 hy1 hy1' => ?_)
  refine T_st (L' := [(0, av 2 c 0), (1, iv y1)]) zk_33_6 (nL := 3) rfl rfl rfl rfl rfl (pc' := 7) rfl ?_
  refine T_op zk_33_7 rfl X_ic (pc' := 8) rfl ?_
  refine T_st (L' := [(0, av 2 c 0), (1, iv y1), (2, iv 1)]) zk_33_8 (nL := 3) rfl rfl rfl rfl rfl (pc' := 9) rfl ?_
  refine T_loop2 (fun x2 x3 => ((25 - x3 : Int)).toNat) (fun x2 x3 => (-2147483648 ≤ x2 ∧ x2 ≤ 2147483647) ∧ (0 ≤ x3 ∧ x3 ≤ 25)) (fun x2 x3 => TJ xs (fun σ' => IF MN σ σ' ∧ True) 0 33 9 [(0, av 2 c 0), (1, iv x2), (2, iv x3)] [] _) ?_ y1 1 (by omega)
  intro x2 x3 hp5 ih4
  refine T_ld zk_33_9 rfl rfl rfl (pc' := 10) rfl ?_
  refine T_op zk_33_10 rfl (X_bi (v := 25) (by decide)) (pc' := 12) rfl ?_
  refine T_icmp_ge zk_33_12 (by omega) (by omega) (pc' := 15) rfl (fun h6 => ?_) (fun h7 => ?_)
  ·
    refine T_ld zk_33_32 rfl rfl rfl (pc' := 33) rfl ?_
    exact T_iret zk_33_33 rfl (fun σ' h => ⟨_, rfl, (by omega), h.1, trivial⟩)
  ·
    refine T_ld zk_33_15 rfl rfl rfl (pc' := 16) rfl ?_
    refine T_ld zk_33_16 rfl rfl rfl (pc' := 17) rfl ?_
    refine T_getR (t' := 4) (i' := c) (k' := 0) zk_33_17 rfl rfl rfl (vd_2 hc) (pc' := 20) rfl ?_
    refine T_ld zk_33_20 rfl rfl rfl (pc' := 21) rfl ?_
    refine G_iald (lo := -2147483648) (hi := 2147483647) (ln := 25) zk_33_21 rfl rfl (vd_4 hc) (by omega) (by omega) (by omega) (fun σ' h => h.1.1) (fun _ h => (by have q := h.1; omega)) (pc' := 22) rfl (fun y8 hy8 hy8' => ?_)
    refine T_max zk_33_22 rfl (by omega) (by omega) rfl (pc' := 25) rfl (fun y9 hy9 hy9' ey9 => ?_)
    refine T_st (L' := [(0, av 2 c 0), (1, iv y9), (2, iv x3)]) zk_33_25 (nL := 3) rfl rfl rfl rfl rfl (pc' := 26) rfl ?_
    refine T_iinc (L' := [(0, av 2 c 0), (1, iv y9), (2, iv (x3 + 1))]) zk_33_26 (nL := 3) rfl rfl rfl rfl (pc' := 29) rfl ?_
    refine T_goto zk_33_29 ?_
    exact ih4 y9 (x3 + 1) (by omega) (by omega)
/-- W$Lagoon.sumOfLevels -/
theorem w_34 {xs : Nat × (Nat → Int32)} (c : Nat) (hc : c < 3) (σ : ZS) (hI : Inv σ)   : CT xs 1 34 [av 2 c 0] σ (fun v σ' => ∃ y, v = some (iv y) ∧ (-2147483648 ≤ y ∧ y ≤ 2147483647) ∧ IF MN σ σ' ∧ (True)) := by
  refine G_ct (J := (fun σ' => IF MN σ σ' ∧ True)) (L := [(0, av 2 c 0)]) (nL := 3) rfl rfl rfl ⟨IF.rf hI, trivial⟩ ?_
  refine T_op zk_34_0 rfl X_ic (pc' := 1) rfl ?_
  refine T_st (L' := [(0, av 2 c 0), (1, iv 0)]) zk_34_1 (nL := 3) rfl rfl rfl rfl rfl (pc' := 2) rfl ?_
  refine T_op zk_34_2 rfl X_ic (pc' := 3) rfl ?_
  refine T_st (L' := [(0, av 2 c 0), (1, iv 0), (2, iv 0)]) zk_34_3 (nL := 3) rfl rfl rfl rfl rfl (pc' := 4) rfl ?_
  refine T_loop2 (fun x1 x2 => ((25 - x2 : Int)).toNat) (fun x1 x2 => (-2147483648 ≤ x1 ∧ x1 ≤ 2147483647) ∧ (0 ≤ x2 ∧ x2 ≤ 25)) (fun x1 x2 => TJ xs (fun σ' => IF MN σ σ' ∧ True) 0 34 4 [(0, av 2 c 0), (1, iv x1), (2, iv x2)] [] _) ?_ 0 0 (by omega)
  intro x1 x2 hp4 ih3
  refine T_ld zk_34_4 rfl rfl rfl (pc' := 5) rfl ?_
  refine T_op zk_34_5 rfl (X_bi (v := 25) (by decide)) (pc' := 7) rfl ?_
  refine T_icmp_ge zk_34_7 (by omega) (by omega) (pc' := 10) rfl (fun h5 => ?_) (fun h6 => ?_)
  ·
    refine T_ld zk_34_25 rfl rfl rfl (pc' := 26) rfl ?_
    exact T_iret zk_34_26 rfl (fun σ' h => ⟨_, rfl, (by omega), h.1, trivial⟩)
  ·
    refine T_ld zk_34_10 rfl rfl rfl (pc' := 11) rfl ?_
    refine T_ld zk_34_11 rfl rfl rfl (pc' := 12) rfl ?_
    refine T_getR (t' := 4) (i' := c) (k' := 0) zk_34_12 rfl rfl rfl (vd_2 hc) (pc' := 15) rfl ?_
    refine T_ld zk_34_15 rfl rfl rfl (pc' := 16) rfl ?_
    refine G_iald (lo := -2147483648) (hi := 2147483647) (ln := 25) zk_34_16 rfl rfl (vd_4 hc) (by omega) (by omega) (by omega) (fun σ' h => h.1.1) (fun _ h => (by have q := h.1; omega)) (pc' := 17) rfl (fun y7 hy7 hy7' => ?_)
    refine G_unk zk_34_17 rfl (pc' := 18) rfl (fun y8 hy8 hy8' => ?_)
    refine T_st (L' := [(0, av 2 c 0), (1, iv y8), (2, iv x2)]) zk_34_18 (nL := 3) rfl rfl rfl rfl rfl (pc' := 19) rfl ?_
    refine T_iinc (L' := [(0, av 2 c 0), (1, iv y8), (2, iv (x2 + 1))]) zk_34_19 (nL := 3) rfl rfl rfl rfl (pc' := 22) rfl ?_
    refine T_goto zk_34_22 ?_
    exact ih3 y8 (x2 + 1) (by omega) (by omega)
/-- W.rowRefusal -/
theorem w_119 {xs : Nat × (Nat → Int32)} (p0 : Int) (hp0 : -2147483648 ≤ p0 ∧ p0 ≤ 2147483647) (σ : ZS) (hI : Inv σ)   : CT xs 2 119 [av 0 0 0, iv p0] σ (fun v σ' => ∃ y, v = some (iv y) ∧ ((y = -1 ∧ (p0 < 0 ∨ 7 < p0)) ∨ ((y = -3 ∨ y = -2 ∨ y = 0) ∧ 0 ≤ p0 ∧ p0 ≤ 7)) ∧ IF MN σ σ' ∧ (True)) := by
  refine G_ct (J := (fun σ' => IF MN σ σ' ∧ True)) (L := [(0, av 0 0 0), (1, iv p0)]) (nL := 2) rfl rfl rfl ⟨IF.rf hI, trivial⟩ ?_
  refine T_ld zk_119_0 rfl rfl rfl (pc' := 1) rfl ?_
  refine T_calli (K := fun y1 σ' => ((y1 = 0 ∧ (p0 < 0 ∨ 7 < p0)) ∨ (y1 = 1 ∧ 0 ≤ p0 ∧ p0 ≤ 7)) ∧ (fun σ' => IF MN σ σ' ∧ True) σ') (r := []) zk_119_1 rfl rfl rfl rfl rfl rfl (Or.inl (Or.inl rfl)) (fun σ' h => (w_116 p0 (by omega) σ' h.1.1 ).le (Nat.le_of_ble_eq_true rfl) (fun v σ2 ⟨y, h1, h2, h3, h4⟩ => ⟨y, h1, h2, h.1.tr h3 MN_sub, trivial⟩)) (pc' := 4) rfl (fun y1 => ?_)
  refine G_ex (fun hy1 => ?_)
  refine T_if_ne zk_119_4 (by omega) (pc' := 7) rfl (fun h2 => ?_) (fun h3 => ?_)
  ·
    refine T_ld zk_119_9 rfl rfl rfl (pc' := 10) rfl ?_
    refine T_getR (t' := 27) (i' := 0) (k' := 0) zk_119_10 rfl rfl rfl vd_0 (pc' := 13) rfl ?_
    refine T_ld zk_119_13 rfl rfl rfl (pc' := 14) rfl ?_
    refine G_aald (t' := 33) (im := 0) (i' := 0) (ln := 8) zk_119_14 rfl rfl rfl vd_27 (by omega) (by omega) (by omega) (pc' := 15) rfl ?_
    refine G_getf (lo := -2147483648) (hi := 2147483647) zk_119_15 rfl (vd_33 (by omega)) (fun σ' h => h.1.1) (fun _ h => (by have q := h.1; omega)) (pc' := 18) rfl (fun y4 hy4 hy4' => ?_)
    refine T_op zk_119_18 rfl X_ic (pc' := 19) rfl ?_
    refine T_icmp_ne zk_119_19 (by omega) (by omega) (pc' := 22) rfl (fun h5 => ?_) (fun h6 => ?_)
    ·
      refine T_ld zk_119_25 rfl rfl rfl (pc' := 26) rfl ?_
      refine T_getR (t' := 27) (i' := 0) (k' := 0) zk_119_26 rfl rfl rfl vd_0 (pc' := 29) rfl ?_
      refine T_ld zk_119_29 rfl rfl rfl (pc' := 30) rfl ?_
      refine G_aald (t' := 33) (im := 0) (i' := 0) (ln := 8) zk_119_30 rfl rfl rfl vd_27 (by omega) (by omega) (by omega) (pc' := 31) rfl ?_
      refine G_getf (lo := -2147483648) (hi := 2147483647) zk_119_31 rfl (vd_33 (by omega)) (fun σ' h => h.1.1) (fun _ h => (by have q := h.1; omega)) (pc' := 34) rfl (fun y7 hy7 hy7' => ?_)
      refine T_if_ne zk_119_34 (by omega) (pc' := 37) rfl (fun h8 => ?_) (fun h9 => ?_)
      ·
        refine T_op zk_119_42 rfl X_ic (pc' := 43) rfl ?_
        exact T_iret zk_119_43 rfl (fun σ' h => ⟨_, rfl, (by omega), h.1, trivial⟩)
      ·
        refine T_op zk_119_37 rfl (X_bi (v := -3) (by decide)) (pc' := 39) rfl ?_
        refine T_goto zk_119_39 ?_
        exact T_iret zk_119_43 rfl (fun σ' h => ⟨_, rfl, (by omega), h.1, trivial⟩)
    ·
      refine T_op zk_119_22 rfl (X_bi (v := -2) (by decide)) (pc' := 24) rfl ?_
      exact T_iret zk_119_24 rfl (fun σ' h => ⟨_, rfl, (by omega), h.1, trivial⟩)
  ·
    refine T_op zk_119_7 rfl X_ic (pc' := 8) rfl ?_
    exact T_iret zk_119_8 rfl (fun σ' h => ⟨_, rfl, (by omega), h.1, trivial⟩)
/-- java/util/Arrays.fill -/
theorem w_190 {xs : Nat × (Nat → Int32)} (c : Nat) (p0 : Int) (hc : c < 3) (hp0 : -2147483648 ≤ p0 ∧ p0 ≤ 2147483647) (σ : ZS) (hI : Inv σ)   : CT xs 1 190 [av 20 c 0, iv p0] σ (fun v σ' => v = none ∧ IF (MI c 20 20 20 20) σ σ' ∧ (True)) := by
  refine G_ct (J := (fun σ' => IF (MI c 20 20 20 20) σ σ' ∧ True)) (L := [(0, av 20 c 0), (1, iv p0)]) (nL := 4) rfl rfl rfl ⟨IF.rf hI, trivial⟩ ?_
  refine T_op zk_190_0 rfl X_ic (pc' := 1) rfl ?_
  refine T_st (L' := [(0, av 20 c 0), (1, iv p0), (2, iv 0)]) zk_190_1 (nL := 4) rfl rfl rfl rfl rfl (pc' := 2) rfl ?_
  refine T_ld zk_190_2 rfl rfl rfl (pc' := 3) rfl ?_
  refine T_alen (n := 25) zk_190_3 rfl rfl (vd_20 hc) (pc' := 4) rfl ?_
  refine T_st (L' := [(0, av 20 c 0), (1, iv p0), (2, iv 0), (3, iv 25)]) zk_190_4 (nL := 4) rfl rfl rfl rfl rfl (pc' := 5) rfl ?_
  refine T_loop1 (fun x1 => ((25 - x1 : Int)).toNat) (fun x1 => (0 ≤ x1 ∧ x1 ≤ 25)) (fun x1 => TJ xs (fun σ' => IF (MI c 20 20 20 20) σ σ' ∧ True) 0 190 5 [(0, av 20 c 0), (1, iv p0), (2, iv x1), (3, iv 25)] [] _) ?_ 0 (by omega)
  intro x1 hp3 ih2
  refine T_ld zk_190_5 rfl rfl rfl (pc' := 6) rfl ?_
  refine T_ld zk_190_6 rfl rfl rfl (pc' := 7) rfl ?_
  refine T_icmp_ge zk_190_7 (by omega) (by omega) (pc' := 10) rfl (fun h4 => ?_) (fun h5 => ?_)
  ·
    exact T_vret zk_190_20 rfl (fun σ' h => ⟨rfl, h.1, trivial⟩)
  ·
    refine T_ld zk_190_10 rfl rfl rfl (pc' := 11) rfl ?_
    refine T_ld zk_190_11 rfl rfl rfl (pc' := 12) rfl ?_
    refine T_ld zk_190_12 rfl rfl rfl (pc' := 13) rfl ?_
    refine G_iast (J' := (fun σ' => IF (MI c 20 20 20 20) σ σ' ∧ True)) (ln := 25) zk_190_13 rfl rfl (vd_20 hc) (by omega) (by omega) (by omega) (fun σ' h => ⟨h.1.up ⟨by omega, trivial⟩ (by unfold MI; omega), trivial⟩) (pc' := 14) rfl ?_
    refine T_iinc (L' := [(0, av 20 c 0), (1, iv p0), (2, iv (x1 + 1)), (3, iv 25)]) zk_190_14 (nL := 4) rfl rfl rfl rfl (pc' := 17) rfl ?_
    refine T_goto zk_190_17 ?_
    exact ih2 (x1 + 1) (by omega) (by omega)
/-- W$Shelf.isMissing -/
theorem w_69 {xs : Nat × (Nat → Int32)} (k : Nat) (p0 : Int) (hk : k < 8) (hp0 : 0 ≤ p0 ∧ p0 ≤ 95) (σ : ZS) (hI : Inv σ)   : CT xs 1 69 [av 33 0 k, iv p0] σ (fun v σ' => ∃ y, v = some (iv y) ∧ (y = 0 ∨ y = 1) ∧ IF MN σ σ' ∧ (True)) := by
  refine G_ct (J := (fun σ' => IF MN σ σ' ∧ True)) (L := [(0, av 33 0 k), (1, iv p0)]) (nL := 2) rfl rfl rfl ⟨IF.rf hI, trivial⟩ ?_
  refine T_ld zk_69_0 rfl rfl rfl (pc' := 1) rfl ?_
  refine G_getf (lo := -2147483648) (hi := 2147483647) zk_69_1 rfl (vd_33 (by omega)) (fun σ' h => h.1.1) (fun _ h => (by have q := h.1; omega)) (pc' := 4) rfl (fun y1 hy1 hy1' => ?_)
  by_cases h2 : y1 = 0
  · subst h2
    refine T_br (t := 32) zk_69_4 rfl rfl rfl (fun _ => rfl) rfl ?_
    refine T_ld zk_69_32 rfl rfl rfl (pc' := 33) rfl ?_
    refine T_getR (t' := 34) (i' := 0) (k' := k) zk_69_33 rfl rfl rfl (vd_33 (by omega)) (pc' := 36) rfl ?_
    refine T_ld zk_69_36 rfl rfl rfl (pc' := 37) rfl ?_
    refine G_lald (ln := 96) zk_69_37 rfl rfl (vd_34 (by omega)) (by omega) (by omega) (by omega) (pc' := 38) rfl (fun y3 => ?_)
    refine T_ldc2 zk_69_38 (pc' := 41) rfl ?_
    refine T_lcmp zk_69_41 (fun y4 hy4 hy4' ey4 => ?_)
    refine T_if_ne zk_69_42 (by omega) (pc' := 45) rfl (fun h5 => ?_) (fun h6 => ?_)
    ·
      refine T_op zk_69_49 rfl X_ic (pc' := 50) rfl ?_
      exact T_zret zk_69_50 rfl (by omega) (fun σ' h => ⟨_, rfl, (by omega), h.1, trivial⟩)
    ·
      refine T_op zk_69_45 rfl X_ic (pc' := 46) rfl ?_
      refine T_goto zk_69_46 ?_
      exact T_zret zk_69_50 rfl (by omega) (fun σ' h => ⟨_, rfl, (by omega), h.1, trivial⟩)
  by_cases h7 : y1 = 1
  · subst h7
    refine T_br (t := 51) zk_69_4 rfl rfl rfl (fun _ => rfl) rfl ?_
    refine T_ld zk_69_51 rfl rfl rfl (pc' := 52) rfl ?_
    refine T_getR (t' := 34) (i' := 0) (k' := k) zk_69_52 rfl rfl rfl (vd_33 (by omega)) (pc' := 55) rfl ?_
    refine T_ld zk_69_55 rfl rfl rfl (pc' := 56) rfl ?_
    refine G_lald (ln := 96) zk_69_56 rfl rfl (vd_34 (by omega)) (by omega) (by omega) (by omega) (pc' := 57) rfl (fun y8 => ?_)
    refine T_ldc2 zk_69_57 (pc' := 60) rfl ?_
    refine T_lcmp zk_69_60 (fun y9 hy9 hy9' ey9 => ?_)
    refine T_if_ne zk_69_61 (by omega) (pc' := 64) rfl (fun h10 => ?_) (fun h11 => ?_)
    ·
      refine T_op zk_69_68 rfl X_ic (pc' := 69) rfl ?_
      exact T_zret zk_69_69 rfl (by omega) (fun σ' h => ⟨_, rfl, (by omega), h.1, trivial⟩)
    ·
      refine T_op zk_69_64 rfl X_ic (pc' := 65) rfl ?_
      refine T_goto zk_69_65 ?_
      exact T_zret zk_69_69 rfl (by omega) (fun σ' h => ⟨_, rfl, (by omega), h.1, trivial⟩)
  by_cases h12 : y1 = 2
  · subst h12
    refine T_br (t := 70) zk_69_4 rfl rfl rfl (fun _ => rfl) rfl ?_
    refine T_ld zk_69_70 rfl rfl rfl (pc' := 71) rfl ?_
    refine T_getR (t' := 34) (i' := 0) (k' := k) zk_69_71 rfl rfl rfl (vd_33 (by omega)) (pc' := 74) rfl ?_
    refine T_ld zk_69_74 rfl rfl rfl (pc' := 75) rfl ?_
    refine G_lald (ln := 96) zk_69_75 rfl rfl (vd_34 (by omega)) (by omega) (by omega) (by omega) (pc' := 76) rfl (fun y13 => ?_)
    refine T_ldc2 zk_69_76 (pc' := 79) rfl ?_
    refine T_lcmp zk_69_79 (fun y14 hy14 hy14' ey14 => ?_)
    refine T_if_ne zk_69_80 (by omega) (pc' := 83) rfl (fun h15 => ?_) (fun h16 => ?_)
    ·
      refine T_op zk_69_87 rfl X_ic (pc' := 88) rfl ?_
      exact T_zret zk_69_88 rfl (by omega) (fun σ' h => ⟨_, rfl, (by omega), h.1, trivial⟩)
    ·
      refine T_op zk_69_83 rfl X_ic (pc' := 84) rfl ?_
      refine T_goto zk_69_84 ?_
      exact T_zret zk_69_88 rfl (by omega) (fun σ' h => ⟨_, rfl, (by omega), h.1, trivial⟩)
  refine T_tso (t := 89) zk_69_4 (by omega) (by omega) (by omega) ?_
  refine T_ld zk_69_89 rfl rfl rfl (pc' := 90) rfl ?_
  refine T_getR (t' := 34) (i' := 0) (k' := k) zk_69_90 rfl rfl rfl (vd_33 (by omega)) (pc' := 93) rfl ?_
  refine T_ld zk_69_93 rfl rfl rfl (pc' := 94) rfl ?_
  refine G_lald (ln := 96) zk_69_94 rfl rfl (vd_34 (by omega)) (by omega) (by omega) (by omega) (pc' := 95) rfl (fun y17 => ?_)
  refine T_ldc2 zk_69_95 (pc' := 98) rfl ?_
  refine T_lcmp zk_69_98 (fun y18 hy18 hy18' ey18 => ?_)
  refine T_if_ne zk_69_99 (by omega) (pc' := 102) rfl (fun h19 => ?_) (fun h20 => ?_)
  ·
    refine T_op zk_69_106 rfl X_ic (pc' := 107) rfl ?_
    exact T_zret zk_69_107 rfl (by omega) (fun σ' h => ⟨_, rfl, (by omega), h.1, trivial⟩)
  ·
    refine T_op zk_69_102 rfl X_ic (pc' := 103) rfl ?_
    refine T_goto zk_69_103 ?_
    exact T_zret zk_69_107 rfl (by omega) (fun σ' h => ⟨_, rfl, (by omega), h.1, trivial⟩)
/-- W$Tide.takeRow -/
theorem w_71 {xs : Nat × (Nat → Int32)} (c : Nat) (k : Nat) (k2 : Nat) (hc : c < 3) (hk : k < 2) (hk2 : k2 < 8) (σ : ZS) (hI : Inv σ)   : CT xs 2 71 [av 17 c k, av 33 0 k2] σ (fun v σ' => v = none ∧ IF (MYt c k) σ σ' ∧ (True)) := by
  refine G_ct (J := (fun σ' => IF (MYt c k) σ σ' ∧ True)) (L := [(0, av 17 c k), (1, av 33 0 k2)]) (nL := 4) rfl rfl rfl ⟨IF.rf hI, trivial⟩ ?_
  refine T_ld zk_71_0 rfl rfl rfl (pc' := 1) rfl ?_
  refine T_ld zk_71_1 rfl rfl rfl (pc' := 2) rfl ?_
  refine G_getf (lo := 0) (hi := 96) zk_71_2 rfl (vd_33 (by omega)) (fun σ' h => h.1.1) (fun _ h => h.2 (by omega) (by omega)) (pc' := 5) rfl (fun y1 hy1 hy1' => ?_)
  refine T_putf (J' := (fun σ' => IF (MYt c k) σ σ' ∧ σ' 17 c k 0 = y1 ∧ True)) zk_71_5 rfl rfl (vd_17 hc (by omega)) (fun σ' h => ⟨h.1.up (by simp only [rgP] <;> omega) (by unfold MYt; omega), up_eq, trivial⟩) (pc' := 8) rfl ?_
  refine T_op zk_71_8 rfl X_ic (pc' := 9) rfl ?_
  refine T_st (L' := [(0, av 17 c k), (1, av 33 0 k2), (2, iv 0)]) zk_71_9 (nL := 4) rfl rfl rfl rfl rfl (pc' := 10) rfl ?_
  refine G_know (J' := (fun σ' => IF (MYt c k) σ σ' ∧ True)) (fun σ' h => ⟨h.1, trivial⟩) ?_
  refine T_loop1 (fun x2 => ((96 - x2 : Int)).toNat) (fun x2 => (0 ≤ x2 ∧ x2 ≤ 96)) (fun x2 => TJ xs (fun σ' => IF (MYt c k) σ σ' ∧ True) 1 71 10 [(0, av 17 c k), (1, av 33 0 k2), (2, iv x2)] [] _) ?_ 0 (by omega)
  intro x2 hp4 ih3
  refine T_ld zk_71_10 rfl rfl rfl (pc' := 11) rfl ?_
  refine T_ld zk_71_11 rfl rfl rfl (pc' := 12) rfl ?_
  refine G_getf (lo := 0) (hi := 96) zk_71_12 rfl (vd_17 hc (by omega)) (fun σ' h => h.1.1) (fun _ h => h.2 (by omega) (by omega)) (pc' := 15) rfl (fun y5 hy5 hy5' => ?_)
  refine T_icmp_ge zk_71_15 (by omega) (by omega) (pc' := 18) rfl (fun h6 => ?_) (fun h7 => ?_)
  ·
    exact T_vret zk_71_64 rfl (fun σ' h => ⟨rfl, h.1, trivial⟩)
  ·
    refine T_op zk_71_18 rfl (X_si (v := -300) (by decide)) (pc' := 21) rfl ?_
    refine T_op zk_71_21 rfl (X_si (v := 300) (by decide)) (pc' := 24) rfl ?_
    refine T_ld zk_71_24 rfl rfl rfl (pc' := 25) rfl ?_
    refine T_getR (t' := 34) (i' := 0) (k' := k2) zk_71_25 rfl rfl rfl (vd_33 (by omega)) (pc' := 28) rfl ?_
    refine T_ld zk_71_28 rfl rfl rfl (pc' := 29) rfl ?_
    refine G_lald (ln := 96) zk_71_29 rfl rfl (vd_34 (by omega)) (by omega) (by omega) (by omega) (pc' := 30) rfl (fun y8 => ?_)
    refine T_l2iU zk_71_30 (fun y9 hy9 hy9' _ => ?_)
    refine T_min zk_71_31 rfl (by omega) (by omega) rfl (pc' := 34) rfl (fun y10 hy10 hy10' ey10 => ?_)
    refine T_max zk_71_34 rfl (by omega) (by omega) rfl (pc' := 37) rfl (fun y11 hy11 hy11' ey11 => ?_)
    refine T_st (L' := [(0, av 17 c k), (1, av 33 0 k2), (2, iv x2), (3, iv y11)]) zk_71_37 (nL := 4) rfl rfl rfl rfl rfl (pc' := 38) rfl ?_
    refine T_ld zk_71_38 rfl rfl rfl (pc' := 39) rfl ?_
    refine T_getR (t' := 18) (i' := c) (k' := k) zk_71_39 rfl rfl rfl (vd_17 hc (by omega)) (pc' := 42) rfl ?_
    refine T_ld zk_71_42 rfl rfl rfl (pc' := 43) rfl ?_
    refine T_ld zk_71_43 rfl rfl rfl (pc' := 44) rfl ?_
    refine T_ld zk_71_44 rfl rfl rfl (pc' := 45) rfl ?_
    refine T_calli (K := fun y12 σ' => (y12 = 0 ∨ y12 = 1) ∧ (fun σ' => IF (MYt c k) σ σ' ∧ True) σ') (r := [iv x2, av 18 c k]) zk_71_45 rfl rfl rfl rfl rfl rfl (Or.inr ⟨_, _, _, _, rfl, (vd_33 (by omega)), rfl⟩) (fun σ' h => (w_69 k2 x2 (by omega) (by omega) σ' h.1.1 ).le (Nat.le_of_ble_eq_true rfl) (fun v σ2 ⟨y, h1, h2, h3, h4⟩ => ⟨y, h1, h2, h.1.tr h3 MN_sub, trivial⟩)) (pc' := 48) rfl (fun y12 => ?_)
    refine G_ex (fun hy12 => ?_)
    refine T_if_eq zk_71_48 (by omega) (pc' := 51) rfl (fun h13 => ?_) (fun h14 => ?_)
    ·
      refine T_ld zk_71_56 rfl rfl rfl (pc' := 57) rfl ?_
      refine G_iast (J' := (fun σ' => IF (MYt c k) σ σ' ∧ True)) (ln := 96) zk_71_57 rfl rfl (vd_18 hc (by omega)) (by omega) (by omega) (by omega) (fun σ' h => ⟨h.1.up (by simp only [rgP] <;> omega) (by unfold MYt; omega), trivial⟩) (pc' := 58) rfl ?_
      refine T_iinc (L' := [(0, av 17 c k), (1, av 33 0 k2), (2, iv (x2 + 1)), (3, iv y11)]) zk_71_58 (nL := 4) rfl rfl rfl rfl (pc' := 61) rfl ?_
      refine T_goto zk_71_61 ?_
      refine T_loc (L := [(0, av 17 c k), (1, av 33 0 k2), (2, iv (x2 + 1))]) (E := [(3, iv y11)]) rfl ?_
      exact ih3 (x2 + 1) (by omega) (by omega)
    ·
      refine T_op zk_71_51 rfl (X_bi (v := 30) (by decide)) (pc' := 53) rfl ?_
      refine T_goto zk_71_53 ?_
      refine G_iast (J' := (fun σ' => IF (MYt c k) σ σ' ∧ True)) (ln := 96) zk_71_57 rfl rfl (vd_18 hc (by omega)) (by omega) (by omega) (by omega) (fun σ' h => ⟨h.1.up (by simp only [rgP] <;> omega) (by unfold MYt; omega), trivial⟩) (pc' := 58) rfl ?_
      refine T_iinc (L' := [(0, av 17 c k), (1, av 33 0 k2), (2, iv (x2 + 1)), (3, iv y11)]) zk_71_58 (nL := 4) rfl rfl rfl rfl (pc' := 61) rfl ?_
      refine T_goto zk_71_61 ?_
      refine T_loc (L := [(0, av 17 c k), (1, av 33 0 k2), (2, iv (x2 + 1))]) (E := [(3, iv y11)]) rfl ?_
      exact ih3 (x2 + 1) (by omega) (by omega)
/-- W$Tide.takeTide -/
theorem w_72 {xs : Nat × (Nat → Int32)} (c : Nat) (k : Nat) (c2 : Nat) (hc : c < 3) (hk : k < 2) (hc2 : c2 < 3) (σ : ZS) (hI : Inv σ)   : CT xs 1 72 [av 17 c k, av 17 c2 k] σ (fun v σ' => v = none ∧ IF (MYt c k) σ σ' ∧ (True)) := by
  refine G_ct (J := (fun σ' => IF (MYt c k) σ σ' ∧ True)) (L := [(0, av 17 c k), (1, av 17 c2 k)]) (nL := 2) rfl rfl rfl ⟨IF.rf hI, trivial⟩ ?_
  refine T_ld zk_72_0 rfl rfl rfl (pc' := 1) rfl ?_
  refine T_ld zk_72_1 rfl rfl rfl (pc' := 2) rfl ?_
  refine G_getf (lo := 0) (hi := 96) zk_72_2 rfl (vd_17 hc2 (by omega)) (fun σ' h => h.1.1) (fun _ h => h.2 (by omega) (by omega)) (pc' := 5) rfl (fun y1 hy1 hy1' => ?_)
  refine T_putf (J' := (fun σ' => IF (MYt c k) σ σ' ∧ σ' 17 c k 0 = y1 ∧ True)) zk_72_5 rfl rfl (vd_17 hc (by omega)) (fun σ' h => ⟨h.1.up (by simp only [rgP] <;> omega) (by unfold MYt; omega), up_eq, trivial⟩) (pc' := 8) rfl ?_
  refine T_ld zk_72_8 rfl rfl rfl (pc' := 9) rfl ?_
  refine T_getR (t' := 18) (i' := c2) (k' := k) zk_72_9 rfl rfl rfl (vd_17 hc2 (by omega)) (pc' := 12) rfl ?_
  refine T_op zk_72_12 rfl X_ic (pc' := 13) rfl ?_
  refine T_ld zk_72_13 rfl rfl rfl (pc' := 14) rfl ?_
  refine T_getR (t' := 18) (i' := c) (k' := k) zk_72_14 rfl rfl rfl (vd_17 hc (by omega)) (pc' := 17) rfl ?_
  refine T_op zk_72_17 rfl X_ic (pc' := 18) rfl ?_
  refine T_op zk_72_18 rfl (X_bi (v := 96) (by decide)) (pc' := 20) rfl ?_
  refine G_copy (J' := (fun σ' => IF (MYt c k) σ σ' ∧ σ' 17 c k 0 = y1 ∧ True)) (l0 := 96) (l1 := 96) (kk := 12) zk_72_20 rfl rfl (by decide) rfl rfl rfl rfl (vd_18 hc2 (by omega)) (vd_18 hc (by omega)) (by omega) (by omega) (by omega) (by omega) (by omega) (fun σ' h => ⟨h.1.cp (rg_cp0 rfl (fun _ _ h => h) (fun j => h.1.1 18 c2 k j (vd_18 hc2 (by omega))) (fun j => h.1.1 18 c k j (vd_18 hc (by omega)))) (fun j => (by unfold MYt; omega)), (congrFun (upr_oth _ _ _ (by omega)) _).trans (h.2.1), trivial⟩) (pc' := 23) rfl ?_
  exact T_vret zk_72_23 rfl (fun σ' h => ⟨rfl, h.1, trivial⟩)
/-- W$City.tide -/
theorem w_10 {xs : Nat × (Nat → Int32)} (c : Nat) (p0 : Int) (hc : c < 3) (hp0 : 0 ≤ p0 ∧ p0 ≤ 1) (σ : ZS) (hI : Inv σ)   : CT xs 1 10 [av 1 c 0, iv p0] σ (fun v σ' => v = some (av 17 c (Int.toNat p0)) ∧ IF MN σ σ' ∧ (True)) := by
  refine G_ct (J := (fun σ' => IF MN σ σ' ∧ True)) (L := [(0, av 1 c 0), (1, iv p0)]) (nL := 2) rfl rfl rfl ⟨IF.rf hI, trivial⟩ ?_
  refine T_ld zk_10_0 rfl rfl rfl (pc' := 1) rfl ?_
  refine T_if_eq zk_10_1 (by omega) (pc' := 4) rfl (fun h1 => ?_) (fun h2 => ?_)
  ·
    refine T_ld zk_10_11 rfl rfl rfl (pc' := 12) rfl ?_
    refine T_getR (t' := 17) (i' := c) (k' := 0) zk_10_12 rfl rfl rfl (vd_1 hc) (pc' := 15) rfl ?_
    exact T_aret zk_10_15 rfl (fun σ' h => ⟨(by rw [show (Int.toNat p0 : Nat) = 0 from by omega]), h.1, trivial⟩)
  ·
    refine T_ld zk_10_4 rfl rfl rfl (pc' := 5) rfl ?_
    refine T_getR (t' := 17) (i' := c) (k' := 1) zk_10_5 rfl rfl rfl (vd_1 hc) (pc' := 8) rfl ?_
    refine T_goto zk_10_8 ?_
    exact T_aret zk_10_15 rfl (fun σ' h => ⟨(by rw [show (Int.toNat p0 : Nat) = 1 from by omega]), h.1, trivial⟩)
