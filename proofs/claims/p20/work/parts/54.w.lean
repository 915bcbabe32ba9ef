theorem zk_48_0 : zc 48 0 = some (.aload_n 0, 0, 0, 0, 0) := rfl
theorem zk_48_1 : zc 48 1 = some (.aload_n 1, 0, 0, 0, 0) := rfl
theorem zk_48_2 : zc 48 2 = some (.getfield 22, 8, 2, 0, 75) := rfl
theorem zk_48_5 : zc 48 5 = some (.putfield 28, 6, 2, 0, 76) := rfl
theorem zk_48_8 : zc 48 8 = some (.iconst 0, 0, 0, 0, 0) := rfl
theorem zk_48_9 : zc 48 9 = some (.istore_n 2, 0, 0, 0, 0) := rfl
theorem zk_48_10 : zc 48 10 = some (.iload_n 2, 0, 0, 0, 0) := rfl
theorem zk_48_11 : zc 48 11 = some (.aload_n 0, 0, 0, 0, 0) := rfl
theorem zk_48_12 : zc 48 12 = some (.getfield 28, 6, 2, 0, 76) := rfl
theorem zk_48_15 : zc 48 15 = some (.if_icmp .ge 22, 37, 0, 0, 0) := rfl
theorem zk_48_18 : zc 48 18 = some (.aload_n 0, 0, 0, 0, 0) := rfl
theorem zk_48_19 : zc 48 19 = some (.getfield 18, 6, 1, 0, 74) := rfl
theorem zk_48_22 : zc 48 22 = some (.iload_n 2, 0, 0, 0, 0) := rfl
theorem zk_48_23 : zc 48 23 = some (.aload_n 1, 0, 0, 0, 0) := rfl
theorem zk_48_24 : zc 48 24 = some (.getfield 29, 8, 4, 0, 77) := rfl
theorem zk_48_27 : zc 48 27 = some (.iload_n 2, 0, 0, 0, 0) := rfl
theorem zk_48_28 : zc 48 28 = some (.laload, 0, 0, 0, 0) := rfl
theorem zk_48_29 : zc 48 29 = some (.l2i, 0, 0, 0, 0) := rfl
theorem zk_48_30 : zc 48 30 = some (.iastore, 0, 0, 0, 0) := rfl
theorem zk_48_31 : zc 48 31 = some (.iinc 2 1, 0, 0, 0, 0) := rfl
theorem zk_48_34 : zc 48 34 = some (.goto (-24), 10, 0, 0, 0) := rfl
theorem zk_48_37 : zc 48 37 = some (.aload_n 0, 0, 0, 0, 0) := rfl
theorem zk_48_38 : zc 48 38 = some (.iconst 0, 0, 0, 0, 0) := rfl
theorem zk_48_39 : zc 48 39 = some (.putfield 33, 6, 3, 0, 78) := rfl
theorem zk_48_42 : zc 48 42 = some (.aload_n 0, 0, 0, 0, 0) := rfl
theorem zk_48_43 : zc 48 43 = some (.getfield 12, 6, 0, 0, 73) := rfl
theorem zk_48_46 : zc 48 46 = some (.invokevirtual 36, 41, 0, 1, 61) := rfl
theorem zk_48_49 : zc 48 49 = some (.aload_n 0, 0, 0, 0, 0) := rfl
theorem zk_48_50 : zc 48 50 = some (.invokevirtual 39, 51, 0, 1, 62) := rfl
theorem zk_48_53 : zc 48 53 = some (.ifCond .eq 26, 79, 0, 0, 0) := rfl
theorem zk_48_56 : zc 48 56 = some (.aload_n 0, 0, 0, 0, 0) := rfl
theorem zk_48_57 : zc 48 57 = some (.iconst 0, 0, 0, 0, 0) := rfl
theorem zk_48_58 : zc 48 58 = some (.invokevirtual 43, 52, 0, 2, 63) := rfl
theorem zk_48_61 : zc 48 61 = some (.ifCond .eq 18, 79, 0, 0, 0) := rfl
theorem zk_48_64 : zc 48 64 = some (.aload_n 0, 0, 0, 0, 0) := rfl
theorem zk_48_65 : zc 48 65 = some (.getfield 33, 6, 3, 0, 78) := rfl
theorem zk_48_68 : zc 48 68 = some (.aload_n 0, 0, 0, 0, 0) := rfl
theorem zk_48_69 : zc 48 69 = some (.getfield 28, 6, 2, 0, 76) := rfl
theorem zk_48_72 : zc 48 72 = some (.if_icmp .ne 7, 79, 0, 0, 0) := rfl
theorem zk_48_75 : zc 48 75 = some (.iconst 1, 0, 0, 0, 0) := rfl
theorem zk_48_76 : zc 48 76 = some (.goto 4, 80, 0, 0, 0) := rfl
theorem zk_48_79 : zc 48 79 = some (.iconst 0, 0, 0, 0, 0) := rfl
theorem zk_48_80 : zc 48 80 = some (.istore_n 2, 0, 0, 0, 0) := rfl
theorem zk_48_81 : zc 48 81 = some (.iload_n 2, 0, 0, 0, 0) := rfl
theorem zk_48_82 : zc 48 82 = some (.ifCond .eq 7, 89, 0, 0, 0) := rfl
theorem zk_48_85 : zc 48 85 = some (.iconst (-1), 0, 0, 0, 0) := rfl
theorem zk_48_86 : zc 48 86 = some (.goto 7, 93, 0, 0, 0) := rfl
theorem zk_48_89 : zc 48 89 = some (.aload_n 0, 0, 0, 0, 0) := rfl
theorem zk_48_90 : zc 48 90 = some (.getfield 33, 6, 3, 0, 78) := rfl
theorem zk_48_93 : zc 48 93 = some (.ireturn, 0, 0, 0, 0) := rfl
theorem zk_52_0 : zc 52 0 = some (.aload_n 0, 0, 0, 0, 0) := rfl
theorem zk_52_1 : zc 52 1 = some (.iload_n 1, 0, 0, 0, 0) := rfl
theorem zk_52_2 : zc 52 2 = some (.invokevirtual 57, 53, 0, 2, 66) := rfl
theorem zk_52_5 : zc 52 5 = some (.istore_n 2, 0, 0, 0, 0) := rfl
theorem zk_52_6 : zc 52 6 = some (.iconst 0, 0, 0, 0, 0) := rfl
theorem zk_52_7 : zc 52 7 = some (.istore_n 3, 0, 0, 0, 0) := rfl
theorem zk_52_8 : zc 52 8 = some (.iload_n 3, 0, 0, 0, 0) := rfl
theorem zk_52_9 : zc 52 9 = some (.bipush 96, 0, 0, 0, 0) := rfl
theorem zk_52_11 : zc 52 11 = some (.if_icmp .ge 37, 48, 0, 0, 0) := rfl
theorem zk_52_14 : zc 52 14 = some (.iload_n 2, 0, 0, 0, 0) := rfl
theorem zk_52_15 : zc 52 15 = some (.ifCond .eq 33, 48, 0, 0, 0) := rfl
theorem zk_52_18 : zc 52 18 = some (.aload_n 0, 0, 0, 0, 0) := rfl
theorem zk_52_19 : zc 52 19 = some (.bipush 124, 0, 0, 0, 0) := rfl
theorem zk_52_21 : zc 52 21 = some (.invokevirtual 51, 50, 0, 2, 65) := rfl
theorem zk_52_24 : zc 52 24 = some (.ifCond .eq 24, 48, 0, 0, 0) := rfl
theorem zk_52_27 : zc 52 27 = some (.aload_n 0, 0, 0, 0, 0) := rfl
theorem zk_52_28 : zc 52 28 = some (.iload_n 1, 0, 0, 0, 0) := rfl
theorem zk_52_29 : zc 52 29 = some (.invokevirtual 57, 53, 0, 2, 66) := rfl
theorem zk_52_32 : zc 52 32 = some (.istore_n 2, 0, 0, 0, 0) := rfl
theorem zk_52_33 : zc 52 33 = some (.aload_n 0, 0, 0, 0, 0) := rfl
theorem zk_52_34 : zc 52 34 = some (.getfield 12, 6, 0, 0, 73) := rfl
theorem zk_52_37 : zc 52 37 = some (.bipush (-3), 0, 0, 0, 0) := rfl
theorem zk_52_39 : zc 52 39 = some (.invokevirtual 60, 42, 0, 2, 67) := rfl
theorem zk_52_42 : zc 52 42 = some (.iinc 3 1, 0, 0, 0, 0) := rfl
theorem zk_52_45 : zc 52 45 = some (.goto (-37), 8, 0, 0, 0) := rfl
theorem zk_52_48 : zc 52 48 = some (.iload_n 2, 0, 0, 0, 0) := rfl
theorem zk_52_49 : zc 52 49 = some (.ireturn, 0, 0, 0, 0) := rfl
theorem zk_53_0 : zc 53 0 = some (.aload_n 0, 0, 0, 0, 0) := rfl
theorem zk_53_1 : zc 53 1 = some (.iload_n 1, 0, 0, 0, 0) := rfl
theorem zk_53_2 : zc 53 2 = some (.invokevirtual 64, 54, 0, 2, 68) := rfl
theorem zk_53_5 : zc 53 5 = some (.istore_n 2, 0, 0, 0, 0) := rfl
theorem zk_53_6 : zc 53 6 = some (.iconst 0, 0, 0, 0, 0) := rfl
theorem zk_53_7 : zc 53 7 = some (.istore_n 3, 0, 0, 0, 0) := rfl
theorem zk_53_8 : zc 53 8 = some (.iload_n 3, 0, 0, 0, 0) := rfl
theorem zk_53_9 : zc 53 9 = some (.bipush 96, 0, 0, 0, 0) := rfl
theorem zk_53_11 : zc 53 11 = some (.if_icmp .ge 37, 48, 0, 0, 0) := rfl
theorem zk_53_14 : zc 53 14 = some (.iload_n 2, 0, 0, 0, 0) := rfl
theorem zk_53_15 : zc 53 15 = some (.ifCond .eq 33, 48, 0, 0, 0) := rfl
theorem zk_53_18 : zc 53 18 = some (.aload_n 0, 0, 0, 0, 0) := rfl
theorem zk_53_19 : zc 53 19 = some (.bipush 38, 0, 0, 0, 0) := rfl
theorem zk_53_21 : zc 53 21 = some (.invokevirtual 51, 50, 0, 2, 65) := rfl
theorem zk_53_24 : zc 53 24 = some (.ifCond .eq 24, 48, 0, 0, 0) := rfl
theorem zk_53_27 : zc 53 27 = some (.aload_n 0, 0, 0, 0, 0) := rfl
theorem zk_53_28 : zc 53 28 = some (.iload_n 1, 0, 0, 0, 0) := rfl
theorem zk_53_29 : zc 53 29 = some (.invokevirtual 64, 54, 0, 2, 68) := rfl
theorem zk_53_32 : zc 53 32 = some (.istore_n 2, 0, 0, 0, 0) := rfl
theorem zk_53_33 : zc 53 33 = some (.aload_n 0, 0, 0, 0, 0) := rfl
theorem zk_53_34 : zc 53 34 = some (.getfield 12, 6, 0, 0, 73) := rfl
theorem zk_53_37 : zc 53 37 = some (.bipush (-2), 0, 0, 0, 0) := rfl
theorem zk_53_39 : zc 53 39 = some (.invokevirtual 60, 42, 0, 2, 67) := rfl
theorem zk_53_42 : zc 53 42 = some (.iinc 3 1, 0, 0, 0, 0) := rfl
theorem zk_53_45 : zc 53 45 = some (.goto (-37), 8, 0, 0, 0) := rfl
theorem zk_53_48 : zc 53 48 = some (.iload_n 2, 0, 0, 0, 0) := rfl
theorem zk_53_49 : zc 53 49 = some (.ireturn, 0, 0, 0, 0) := rfl
theorem zk_54_0 : zc 54 0 = some (.aload_n 0, 0, 0, 0, 0) := rfl
theorem zk_54_1 : zc 54 1 = some (.invokevirtual 47, 49, 0, 1, 64) := rfl
theorem zk_54_4 : zc 54 4 = some (.bipush 33, 0, 0, 0, 0) := rfl
theorem zk_54_6 : zc 54 6 = some (.if_icmp .eq 17, 23, 0, 0, 0) := rfl
theorem zk_54_9 : zc 54 9 = some (.aload_n 0, 0, 0, 0, 0) := rfl
theorem zk_54_10 : zc 54 10 = some (.invokevirtual 47, 49, 0, 1, 64) := rfl
theorem zk_54_13 : zc 54 13 = some (.bipush 40, 0, 0, 0, 0) := rfl
theorem zk_54_15 : zc 54 15 = some (.if_icmp .eq 8, 23, 0, 0, 0) := rfl
theorem zk_54_18 : zc 54 18 = some (.aload_n 0, 0, 0, 0, 0) := rfl
theorem zk_54_19 : zc 54 19 = some (.invokevirtual 67, 55, 0, 1, 69) := rfl
theorem zk_54_22 : zc 54 22 = some (.ireturn, 0, 0, 0, 0) := rfl
theorem zk_54_23 : zc 54 23 = some (.iload_n 1, 0, 0, 0, 0) := rfl
theorem zk_54_24 : zc 54 24 = some (.bipush 20, 0, 0, 0, 0) := rfl
theorem zk_54_26 : zc 54 26 = some (.if_icmp .lt 5, 31, 0, 0, 0) := rfl
theorem zk_54_29 : zc 54 29 = some (.iconst 0, 0, 0, 0, 0) := rfl
theorem zk_54_30 : zc 54 30 = some (.ireturn, 0, 0, 0, 0) := rfl
theorem zk_54_31 : zc 54 31 = some (.aload_n 0, 0, 0, 0, 0) := rfl
theorem zk_54_32 : zc 54 32 = some (.bipush 40, 0, 0, 0, 0) := rfl
theorem zk_54_34 : zc 54 34 = some (.invokevirtual 51, 50, 0, 2, 65) := rfl
theorem zk_54_37 : zc 54 37 = some (.ifCond .eq 28, 65, 0, 0, 0) := rfl
theorem zk_54_40 : zc 54 40 = some (.aload_n 0, 0, 0, 0, 0) := rfl
theorem zk_54_41 : zc 54 41 = some (.iload_n 1, 0, 0, 0, 0) := rfl
theorem zk_54_42 : zc 54 42 = some (.iconst 1, 0, 0, 0, 0) := rfl
theorem zk_54_43 : zc 54 43 = some (.iadd, 0, 0, 0, 0) := rfl
theorem zk_54_44 : zc 54 44 = some (.invokevirtual 43, 52, 0, 2, 63) := rfl
theorem zk_54_47 : zc 54 47 = some (.ifCond .eq 16, 63, 0, 0, 0) := rfl
theorem zk_54_50 : zc 54 50 = some (.aload_n 0, 0, 0, 0, 0) := rfl
theorem zk_54_51 : zc 54 51 = some (.bipush 41, 0, 0, 0, 0) := rfl
theorem zk_54_53 : zc 54 53 = some (.invokevirtual 51, 50, 0, 2, 65) := rfl
theorem zk_54_56 : zc 54 56 = some (.ifCond .eq 7, 63, 0, 0, 0) := rfl
theorem zk_54_59 : zc 54 59 = some (.iconst 1, 0, 0, 0, 0) := rfl
theorem zk_54_60 : zc 54 60 = some (.goto 4, 64, 0, 0, 0) := rfl
theorem zk_54_63 : zc 54 63 = some (.iconst 0, 0, 0, 0, 0) := rfl
theorem zk_54_64 : zc 54 64 = some (.ireturn, 0, 0, 0, 0) := rfl
theorem zk_54_65 : zc 54 65 = some (.aload_n 0, 0, 0, 0, 0) := rfl
theorem zk_54_66 : zc 54 66 = some (.dup, 0, 0, 0, 0) := rfl
theorem zk_54_67 : zc 54 67 = some (.getfield 33, 6, 3, 0, 78) := rfl
theorem zk_54_70 : zc 54 70 = some (.iconst 1, 0, 0, 0, 0) := rfl
theorem zk_54_71 : zc 54 71 = some (.iadd, 0, 0, 0, 0) := rfl
theorem zk_54_72 : zc 54 72 = some (.putfield 33, 6, 3, 0, 78) := rfl
theorem zk_54_75 : zc 54 75 = some (.aload_n 0, 0, 0, 0, 0) := rfl
theorem zk_54_76 : zc 54 76 = some (.iload_n 1, 0, 0, 0, 0) := rfl
theorem zk_54_77 : zc 54 77 = some (.iconst 1, 0, 0, 0, 0) := rfl
theorem zk_54_78 : zc 54 78 = some (.iadd, 0, 0, 0, 0) := rfl
theorem zk_54_79 : zc 54 79 = some (.invokevirtual 64, 54, 0, 2, 68) := rfl
theorem zk_54_82 : zc 54 82 = some (.istore_n 2, 0, 0, 0, 0) := rfl
theorem zk_54_83 : zc 54 83 = some (.aload_n 0, 0, 0, 0, 0) := rfl
theorem zk_54_84 : zc 54 84 = some (.getfield 12, 6, 0, 0, 73) := rfl
theorem zk_54_87 : zc 54 87 = some (.iconst (-1), 0, 0, 0, 0) := rfl
theorem zk_54_88 : zc 54 88 = some (.invokevirtual 60, 42, 0, 2, 67) := rfl
theorem zk_54_91 : zc 54 91 = some (.iload_n 2, 0, 0, 0, 0) := rfl
theorem zk_54_92 : zc 54 92 = some (.ireturn, 0, 0, 0, 0) := rfl
