theorem zk_1_0 : zc 1 0 = some (.aload_n 0, 0, 0, 0, 0) := rfl
theorem zk_1_1 : zc 1 1 = some (.iload_n 1, 0, 0, 0, 0) := rfl
theorem zk_1_2 : zc 1 2 = some (.putfield 15, 0, 0, 0, 1) := rfl
theorem zk_1_5 : zc 1 5 = some (.aload_n 0, 0, 0, 0, 0) := rfl
theorem zk_1_6 : zc 1 6 = some (.iload_n 2, 0, 0, 0, 0) := rfl
theorem zk_1_7 : zc 1 7 = some (.putfield 18, 0, 1, 0, 2) := rfl
theorem zk_1_10 : zc 1 10 = some (.aload_n 0, 0, 0, 0, 0) := rfl
theorem zk_1_11 : zc 1 11 = some (.iload_n 3, 0, 0, 0, 0) := rfl
theorem zk_1_12 : zc 1 12 = some (.putfield 21, 0, 2, 0, 3) := rfl
theorem zk_1_15 : zc 1 15 = some (.aload_n 0, 0, 0, 0, 0) := rfl
theorem zk_1_16 : zc 1 16 = some (.iload 4, 0, 0, 0, 0) := rfl
theorem zk_1_18 : zc 1 18 = some (.putfield 24, 0, 3, 0, 4) := rfl
theorem zk_1_21 : zc 1 21 = some (.aload_n 0, 0, 0, 0, 0) := rfl
theorem zk_1_22 : zc 1 22 = some (.iload 5, 0, 0, 0, 0) := rfl
theorem zk_1_24 : zc 1 24 = some (.putfield 27, 0, 4, 0, 5) := rfl
theorem zk_1_27 : zc 1 27 = some (.aload_n 0, 0, 0, 0, 0) := rfl
theorem zk_1_28 : zc 1 28 = some (.iconst (-1), 0, 0, 0, 0) := rfl
theorem zk_1_29 : zc 1 29 = some (.putfield 9, 0, 5, 0, 0) := rfl
theorem zk_1_32 : zc 1 32 = some (.aload_n 0, 0, 0, 0, 0) := rfl
theorem zk_1_33 : zc 1 33 = some (.iconst 0, 0, 0, 0, 0) := rfl
theorem zk_1_34 : zc 1 34 = some (.putfield 30, 0, 6, 0, 6) := rfl
theorem zk_1_37 : zc 1 37 = some (.aload_n 0, 0, 0, 0, 0) := rfl
theorem zk_1_38 : zc 1 38 = some (.iconst 0, 0, 0, 0, 0) := rfl
theorem zk_1_39 : zc 1 39 = some (.putfield 33, 0, 7, 0, 7) := rfl
theorem zk_1_42 : zc 1 42 = some (.aload_n 0, 0, 0, 0, 0) := rfl
theorem zk_1_43 : zc 1 43 = some (.iconst 0, 0, 0, 0, 0) := rfl
theorem zk_1_44 : zc 1 44 = some (.putfield 36, 0, 8, 0, 8) := rfl
theorem zk_1_47 : zc 1 47 = some (.aload_n 0, 0, 0, 0, 0) := rfl
theorem zk_1_48 : zc 1 48 = some (.iconst 0, 0, 0, 0, 0) := rfl
theorem zk_1_49 : zc 1 49 = some (.putfield 39, 0, 9, 0, 9) := rfl
theorem zk_1_52 : zc 1 52 = some (.return_, 0, 0, 0, 0) := rfl
theorem zk_2_0 : zc 2 0 = some (.iload_n 1, 0, 0, 0, 0) := rfl
theorem zk_2_1 : zc 2 1 = some (.tableswitch 69 0 5 #[39, 44, 49, 54, 59, 64], 0, 0, 0, 0) := rfl
theorem zk_2_40 : zc 2 40 = some (.aload_n 0, 0, 0, 0, 0) := rfl
theorem zk_2_41 : zc 2 41 = some (.getfield 15, 0, 0, 0, 1) := rfl
theorem zk_2_44 : zc 2 44 = some (.ireturn, 0, 0, 0, 0) := rfl
theorem zk_2_45 : zc 2 45 = some (.aload_n 0, 0, 0, 0, 0) := rfl
theorem zk_2_46 : zc 2 46 = some (.getfield 9, 0, 5, 0, 0) := rfl
theorem zk_2_49 : zc 2 49 = some (.ireturn, 0, 0, 0, 0) := rfl
theorem zk_2_50 : zc 2 50 = some (.aload_n 0, 0, 0, 0, 0) := rfl
theorem zk_2_51 : zc 2 51 = some (.getfield 30, 0, 6, 0, 6) := rfl
theorem zk_2_54 : zc 2 54 = some (.ireturn, 0, 0, 0, 0) := rfl
theorem zk_2_55 : zc 2 55 = some (.aload_n 0, 0, 0, 0, 0) := rfl
theorem zk_2_56 : zc 2 56 = some (.getfield 33, 0, 7, 0, 7) := rfl
theorem zk_2_59 : zc 2 59 = some (.ireturn, 0, 0, 0, 0) := rfl
theorem zk_2_60 : zc 2 60 = some (.aload_n 0, 0, 0, 0, 0) := rfl
theorem zk_2_61 : zc 2 61 = some (.getfield 36, 0, 8, 0, 8) := rfl
theorem zk_2_64 : zc 2 64 = some (.ireturn, 0, 0, 0, 0) := rfl
theorem zk_2_65 : zc 2 65 = some (.aload_n 0, 0, 0, 0, 0) := rfl
theorem zk_2_66 : zc 2 66 = some (.getfield 39, 0, 9, 0, 9) := rfl
theorem zk_2_69 : zc 2 69 = some (.ireturn, 0, 0, 0, 0) := rfl
theorem zk_2_70 : zc 2 70 = some (.iconst (-1), 0, 0, 0, 0) := rfl
theorem zk_2_71 : zc 2 71 = some (.ireturn, 0, 0, 0, 0) := rfl
theorem zk_3_0 : zc 3 0 = some (.aload_n 0, 0, 0, 0, 0) := rfl
theorem zk_3_1 : zc 3 1 = some (.aload_n 1, 0, 0, 0, 0) := rfl
theorem zk_3_2 : zc 3 2 = some (.getfield 15, 0, 0, 0, 1) := rfl
theorem zk_3_5 : zc 3 5 = some (.aload_n 1, 0, 0, 0, 0) := rfl
theorem zk_3_6 : zc 3 6 = some (.getfield 18, 0, 1, 0, 2) := rfl
theorem zk_3_9 : zc 3 9 = some (.aload_n 1, 0, 0, 0, 0) := rfl
theorem zk_3_10 : zc 3 10 = some (.getfield 21, 0, 2, 0, 3) := rfl
theorem zk_3_13 : zc 3 13 = some (.aload_n 1, 0, 0, 0, 0) := rfl
theorem zk_3_14 : zc 3 14 = some (.getfield 24, 0, 3, 0, 4) := rfl
theorem zk_3_17 : zc 3 17 = some (.aload_n 1, 0, 0, 0, 0) := rfl
theorem zk_3_18 : zc 3 18 = some (.getfield 27, 0, 4, 0, 5) := rfl
theorem zk_3_21 : zc 3 21 = some (.invokevirtual 42, 1, 0, 6, 1) := rfl
theorem zk_3_24 : zc 3 24 = some (.aload_n 0, 0, 0, 0, 0) := rfl
theorem zk_3_25 : zc 3 25 = some (.aload_n 1, 0, 0, 0, 0) := rfl
theorem zk_3_26 : zc 3 26 = some (.getfield 9, 0, 5, 0, 0) := rfl
theorem zk_3_29 : zc 3 29 = some (.putfield 9, 0, 5, 0, 0) := rfl
theorem zk_3_32 : zc 3 32 = some (.aload_n 0, 0, 0, 0, 0) := rfl
theorem zk_3_33 : zc 3 33 = some (.aload_n 1, 0, 0, 0, 0) := rfl
theorem zk_3_34 : zc 3 34 = some (.getfield 30, 0, 6, 0, 6) := rfl
theorem zk_3_37 : zc 3 37 = some (.putfield 30, 0, 6, 0, 6) := rfl
theorem zk_3_40 : zc 3 40 = some (.aload_n 0, 0, 0, 0, 0) := rfl
theorem zk_3_41 : zc 3 41 = some (.aload_n 1, 0, 0, 0, 0) := rfl
theorem zk_3_42 : zc 3 42 = some (.getfield 33, 0, 7, 0, 7) := rfl
theorem zk_3_45 : zc 3 45 = some (.putfield 33, 0, 7, 0, 7) := rfl
theorem zk_3_48 : zc 3 48 = some (.aload_n 0, 0, 0, 0, 0) := rfl
theorem zk_3_49 : zc 3 49 = some (.aload_n 1, 0, 0, 0, 0) := rfl
theorem zk_3_50 : zc 3 50 = some (.getfield 36, 0, 8, 0, 8) := rfl
theorem zk_3_53 : zc 3 53 = some (.putfield 36, 0, 8, 0, 8) := rfl
theorem zk_3_56 : zc 3 56 = some (.aload_n 0, 0, 0, 0, 0) := rfl
theorem zk_3_57 : zc 3 57 = some (.aload_n 1, 0, 0, 0, 0) := rfl
theorem zk_3_58 : zc 3 58 = some (.getfield 39, 0, 9, 0, 9) := rfl
theorem zk_3_61 : zc 3 61 = some (.putfield 39, 0, 9, 0, 9) := rfl
theorem zk_3_64 : zc 3 64 = some (.return_, 0, 0, 0, 0) := rfl
theorem zk_22_0 : zc 22 0 = some (.aload_n 0, 0, 0, 0, 0) := rfl
theorem zk_22_1 : zc 22 1 = some (.getfield 12, 2, 0, 0, 11) := rfl
theorem zk_22_4 : zc 22 4 = some (.aload_n 1, 0, 0, 0, 0) := rfl
theorem zk_22_5 : zc 22 5 = some (.getfield 12, 2, 0, 0, 11) := rfl
theorem zk_22_8 : zc 22 8 = some (.invokevirtual 227, 39, 0, 2, 38) := rfl
theorem zk_22_11 : zc 22 11 = some (.aload_n 0, 0, 0, 0, 0) := rfl
theorem zk_22_12 : zc 22 12 = some (.getfield 21, 2, 1, 0, 12) := rfl
theorem zk_22_15 : zc 22 15 = some (.aload_n 1, 0, 0, 0, 0) := rfl
theorem zk_22_16 : zc 22 16 = some (.getfield 21, 2, 1, 0, 12) := rfl
theorem zk_22_19 : zc 22 19 = some (.invokevirtual 231, 64, 0, 2, 39) := rfl
theorem zk_22_22 : zc 22 22 = some (.aload_n 0, 0, 0, 0, 0) := rfl
theorem zk_22_23 : zc 22 23 = some (.getfield 46, 2, 8, 0, 16) := rfl
theorem zk_22_26 : zc 22 26 = some (.aload_n 1, 0, 0, 0, 0) := rfl
theorem zk_22_27 : zc 22 27 = some (.getfield 46, 2, 8, 0, 16) := rfl
theorem zk_22_30 : zc 22 30 = some (.invokevirtual 235, 72, 0, 2, 40) := rfl
theorem zk_22_33 : zc 22 33 = some (.aload_n 0, 0, 0, 0, 0) := rfl
theorem zk_22_34 : zc 22 34 = some (.getfield 50, 2, 9, 0, 17) := rfl
theorem zk_22_37 : zc 22 37 = some (.aload_n 1, 0, 0, 0, 0) := rfl
theorem zk_22_38 : zc 22 38 = some (.getfield 50, 2, 9, 0, 17) := rfl
theorem zk_22_41 : zc 22 41 = some (.invokevirtual 235, 72, 0, 2, 40) := rfl
theorem zk_22_44 : zc 22 44 = some (.aload_n 0, 0, 0, 0, 0) := rfl
theorem zk_22_45 : zc 22 45 = some (.aload_n 1, 0, 0, 0, 0) := rfl
theorem zk_22_46 : zc 22 46 = some (.getfield 159, 2, 5, 0, 35) := rfl
theorem zk_22_49 : zc 22 49 = some (.putfield 159, 2, 5, 0, 35) := rfl
theorem zk_22_52 : zc 22 52 = some (.iconst 0, 0, 0, 0, 0) := rfl
theorem zk_22_53 : zc 22 53 = some (.istore_n 2, 0, 0, 0, 0) := rfl
theorem zk_22_54 : zc 22 54 = some (.iload_n 2, 0, 0, 0, 0) := rfl
theorem zk_22_55 : zc 22 55 = some (.aload_n 0, 0, 0, 0, 0) := rfl
theorem zk_22_56 : zc 22 56 = some (.getfield 159, 2, 5, 0, 35) := rfl
theorem zk_22_59 : zc 22 59 = some (.if_icmp .ge 24, 83, 0, 0, 0) := rfl
theorem zk_22_62 : zc 22 62 = some (.aload_n 0, 0, 0, 0, 0) := rfl
theorem zk_22_63 : zc 22 63 = some (.getfield 27, 2, 2, 0, 13) := rfl
theorem zk_22_66 : zc 22 66 = some (.iload_n 2, 0, 0, 0, 0) := rfl
theorem zk_22_67 : zc 22 67 = some (.aaload, 0, 0, 0, 0) := rfl
theorem zk_22_68 : zc 22 68 = some (.aload_n 1, 0, 0, 0, 0) := rfl
theorem zk_22_69 : zc 22 69 = some (.getfield 27, 2, 2, 0, 13) := rfl
theorem zk_22_72 : zc 22 72 = some (.iload_n 2, 0, 0, 0, 0) := rfl
theorem zk_22_73 : zc 22 73 = some (.aaload, 0, 0, 0, 0) := rfl
theorem zk_22_74 : zc 22 74 = some (.invokevirtual 239, 46, 0, 2, 41) := rfl
theorem zk_22_77 : zc 22 77 = some (.iinc 2 1, 0, 0, 0, 0) := rfl
theorem zk_22_80 : zc 22 80 = some (.goto (-26), 54, 0, 0, 0) := rfl
theorem zk_22_83 : zc 22 83 = some (.aload_n 0, 0, 0, 0, 0) := rfl
theorem zk_22_84 : zc 22 84 = some (.aload_n 1, 0, 0, 0, 0) := rfl
theorem zk_22_85 : zc 22 85 = some (.getfield 135, 2, 6, 0, 30) := rfl
theorem zk_22_88 : zc 22 88 = some (.putfield 135, 2, 6, 0, 30) := rfl
theorem zk_22_91 : zc 22 91 = some (.iconst 0, 0, 0, 0, 0) := rfl
theorem zk_22_92 : zc 22 92 = some (.istore_n 2, 0, 0, 0, 0) := rfl
theorem zk_22_93 : zc 22 93 = some (.iload_n 2, 0, 0, 0, 0) := rfl
theorem zk_22_94 : zc 22 94 = some (.aload_n 0, 0, 0, 0, 0) := rfl
theorem zk_22_95 : zc 22 95 = some (.getfield 135, 2, 6, 0, 30) := rfl
theorem zk_22_98 : zc 22 98 = some (.if_icmp .ge 24, 122, 0, 0, 0) := rfl
theorem zk_22_101 : zc 22 101 = some (.aload_n 0, 0, 0, 0, 0) := rfl
theorem zk_22_102 : zc 22 102 = some (.getfield 33, 2, 3, 0, 14) := rfl
theorem zk_22_105 : zc 22 105 = some (.iload_n 2, 0, 0, 0, 0) := rfl
theorem zk_22_106 : zc 22 106 = some (.aaload, 0, 0, 0, 0) := rfl
theorem zk_22_107 : zc 22 107 = some (.aload_n 1, 0, 0, 0, 0) := rfl
theorem zk_22_108 : zc 22 108 = some (.getfield 33, 2, 3, 0, 14) := rfl
theorem zk_22_111 : zc 22 111 = some (.iload_n 2, 0, 0, 0, 0) := rfl
theorem zk_22_112 : zc 22 112 = some (.aaload, 0, 0, 0, 0) := rfl
theorem zk_22_113 : zc 22 113 = some (.invokevirtual 243, 28, 0, 2, 42) := rfl
theorem zk_22_116 : zc 22 116 = some (.iinc 2 1, 0, 0, 0, 0) := rfl
theorem zk_22_119 : zc 22 119 = some (.goto (-26), 93, 0, 0, 0) := rfl
theorem zk_22_122 : zc 22 122 = some (.aload_n 0, 0, 0, 0, 0) := rfl
theorem zk_22_123 : zc 22 123 = some (.aload_n 1, 0, 0, 0, 0) := rfl
theorem zk_22_124 : zc 22 124 = some (.getfield 172, 2, 7, 0, 38) := rfl
theorem zk_22_127 : zc 22 127 = some (.putfield 172, 2, 7, 0, 38) := rfl
theorem zk_22_130 : zc 22 130 = some (.iconst 0, 0, 0, 0, 0) := rfl
theorem zk_22_131 : zc 22 131 = some (.istore_n 2, 0, 0, 0, 0) := rfl
theorem zk_22_132 : zc 22 132 = some (.iload_n 2, 0, 0, 0, 0) := rfl
theorem zk_22_133 : zc 22 133 = some (.aload_n 0, 0, 0, 0, 0) := rfl
theorem zk_22_134 : zc 22 134 = some (.getfield 172, 2, 7, 0, 38) := rfl
theorem zk_22_137 : zc 22 137 = some (.if_icmp .ge 24, 161, 0, 0, 0) := rfl
theorem zk_22_140 : zc 22 140 = some (.aload_n 0, 0, 0, 0, 0) := rfl
theorem zk_22_141 : zc 22 141 = some (.getfield 39, 2, 4, 0, 15) := rfl
theorem zk_22_144 : zc 22 144 = some (.iload_n 2, 0, 0, 0, 0) := rfl
theorem zk_22_145 : zc 22 145 = some (.aaload, 0, 0, 0, 0) := rfl
theorem zk_22_146 : zc 22 146 = some (.aload_n 1, 0, 0, 0, 0) := rfl
theorem zk_22_147 : zc 22 147 = some (.getfield 39, 2, 4, 0, 15) := rfl
theorem zk_22_150 : zc 22 150 = some (.iload_n 2, 0, 0, 0, 0) := rfl
theorem zk_22_151 : zc 22 151 = some (.aaload, 0, 0, 0, 0) := rfl
theorem zk_22_152 : zc 22 152 = some (.invokevirtual 247, 3, 0, 2, 43) := rfl
theorem zk_22_155 : zc 22 155 = some (.iinc 2 1, 0, 0, 0, 0) := rfl
theorem zk_22_158 : zc 22 158 = some (.goto (-26), 132, 0, 0, 0) := rfl
theorem zk_22_161 : zc 22 161 = some (.aload_n 0, 0, 0, 0, 0) := rfl
theorem zk_22_162 : zc 22 162 = some (.aload_n 1, 0, 0, 0, 0) := rfl
theorem zk_22_163 : zc 22 163 = some (.getfield 88, 2, 10, 0, 23) := rfl
theorem zk_22_166 : zc 22 166 = some (.putfield 88, 2, 10, 0, 23) := rfl
theorem zk_22_169 : zc 22 169 = some (.aload_n 0, 0, 0, 0, 0) := rfl
theorem zk_22_170 : zc 22 170 = some (.aload_n 1, 0, 0, 0, 0) := rfl
theorem zk_22_171 : zc 22 171 = some (.getfield 53, 2, 11, 0, 18) := rfl
theorem zk_22_174 : zc 22 174 = some (.putfield 53, 2, 11, 0, 18) := rfl
theorem zk_22_177 : zc 22 177 = some (.aload_n 0, 0, 0, 0, 0) := rfl
theorem zk_22_178 : zc 22 178 = some (.aload_n 1, 0, 0, 0, 0) := rfl
theorem zk_22_179 : zc 22 179 = some (.getfield 152, 2, 12, 0, 34) := rfl
theorem zk_22_182 : zc 22 182 = some (.putfield 152, 2, 12, 0, 34) := rfl
theorem zk_22_185 : zc 22 185 = some (.aload_n 0, 0, 0, 0, 0) := rfl
theorem zk_22_186 : zc 22 186 = some (.aload_n 1, 0, 0, 0, 0) := rfl
theorem zk_22_187 : zc 22 187 = some (.getfield 75, 2, 13, 0, 22) := rfl
theorem zk_22_190 : zc 22 190 = some (.putfield 75, 2, 13, 0, 22) := rfl
theorem zk_22_193 : zc 22 193 = some (.aload_n 0, 0, 0, 0, 0) := rfl
theorem zk_22_194 : zc 22 194 = some (.aload_n 1, 0, 0, 0, 0) := rfl
theorem zk_22_195 : zc 22 195 = some (.getfield 149, 2, 14, 0, 33) := rfl
theorem zk_22_198 : zc 22 198 = some (.putfield 149, 2, 14, 0, 33) := rfl
theorem zk_22_201 : zc 22 201 = some (.aload_n 0, 0, 0, 0, 0) := rfl
theorem zk_22_202 : zc 22 202 = some (.aload_n 1, 0, 0, 0, 0) := rfl
theorem zk_22_203 : zc 22 203 = some (.getfield 111, 2, 15, 0, 24) := rfl
theorem zk_22_206 : zc 22 206 = some (.putfield 111, 2, 15, 0, 24) := rfl
theorem zk_22_209 : zc 22 209 = some (.aload_n 0, 0, 0, 0, 0) := rfl
theorem zk_22_210 : zc 22 210 = some (.aload_n 1, 0, 0, 0, 0) := rfl
theorem zk_22_211 : zc 22 211 = some (.getfield 126, 2, 16, 0, 29) := rfl
theorem zk_22_214 : zc 22 214 = some (.putfield 126, 2, 16, 0, 29) := rfl
theorem zk_22_217 : zc 22 217 = some (.return_, 0, 0, 0, 0) := rfl
theorem zk_24_0 : zc 24 0 = some (.aload_n 0, 0, 0, 0, 0) := rfl
theorem zk_24_1 : zc 24 1 = some (.iload_n 1, 0, 0, 0, 0) := rfl
theorem zk_24_2 : zc 24 2 = some (.putfield 9, 3, 0, 0, 49) := rfl
theorem zk_24_5 : zc 24 5 = some (.aload_n 0, 0, 0, 0, 0) := rfl
theorem zk_24_6 : zc 24 6 = some (.iload_n 2, 0, 0, 0, 0) := rfl
theorem zk_24_7 : zc 24 7 = some (.putfield 15, 3, 1, 0, 50) := rfl
theorem zk_24_10 : zc 24 10 = some (.aload_n 0, 0, 0, 0, 0) := rfl
theorem zk_24_11 : zc 24 11 = some (.iload_n 3, 0, 0, 0, 0) := rfl
theorem zk_24_12 : zc 24 12 = some (.putfield 18, 3, 2, 0, 51) := rfl
theorem zk_24_15 : zc 24 15 = some (.aload_n 0, 0, 0, 0, 0) := rfl
theorem zk_24_16 : zc 24 16 = some (.iload 4, 0, 0, 0, 0) := rfl
theorem zk_24_18 : zc 24 18 = some (.putfield 21, 3, 3, 0, 52) := rfl
theorem zk_24_21 : zc 24 21 = some (.aload_n 0, 0, 0, 0, 0) := rfl
theorem zk_24_22 : zc 24 22 = some (.iload 5, 0, 0, 0, 0) := rfl
theorem zk_24_24 : zc 24 24 = some (.putfield 24, 3, 4, 0, 53) := rfl
theorem zk_24_27 : zc 24 27 = some (.aload_n 0, 0, 0, 0, 0) := rfl
theorem zk_24_28 : zc 24 28 = some (.iconst 0, 0, 0, 0, 0) := rfl
theorem zk_24_29 : zc 24 29 = some (.putfield 27, 3, 5, 0, 54) := rfl
theorem zk_24_32 : zc 24 32 = some (.aload_n 0, 0, 0, 0, 0) := rfl
theorem zk_24_33 : zc 24 33 = some (.iconst 0, 0, 0, 0, 0) := rfl
theorem zk_24_34 : zc 24 34 = some (.putfield 30, 3, 6, 0, 55) := rfl
theorem zk_24_37 : zc 24 37 = some (.aload_n 0, 0, 0, 0, 0) := rfl
theorem zk_24_38 : zc 24 38 = some (.iconst 0, 0, 0, 0, 0) := rfl
theorem zk_24_39 : zc 24 39 = some (.putfield 33, 3, 7, 0, 56) := rfl
theorem zk_24_42 : zc 24 42 = some (.aload_n 0, 0, 0, 0, 0) := rfl
theorem zk_24_43 : zc 24 43 = some (.iconst 0, 0, 0, 0, 0) := rfl
theorem zk_24_44 : zc 24 44 = some (.putfield 36, 3, 8, 0, 57) := rfl
theorem zk_24_47 : zc 24 47 = some (.aload_n 0, 0, 0, 0, 0) := rfl
theorem zk_24_48 : zc 24 48 = some (.iconst 0, 0, 0, 0, 0) := rfl
theorem zk_24_49 : zc 24 49 = some (.putfield 39, 3, 9, 0, 58) := rfl
theorem zk_24_52 : zc 24 52 = some (.return_, 0, 0, 0, 0) := rfl
theorem zk_27_0 : zc 27 0 = some (.iload_n 1, 0, 0, 0, 0) := rfl
theorem zk_27_1 : zc 27 1 = some (.tableswitch 95 0 7 #[47, 52, 57, 62, 67, 72, 77, 82], 0, 0, 0, 0) := rfl
theorem zk_27_48 : zc 27 48 = some (.aload_n 0, 0, 0, 0, 0) := rfl
theorem zk_27_49 : zc 27 49 = some (.getfield 9, 3, 0, 0, 49) := rfl
theorem zk_27_52 : zc 27 52 = some (.ireturn, 0, 0, 0, 0) := rfl
theorem zk_27_53 : zc 27 53 = some (.aload_n 0, 0, 0, 0, 0) := rfl
theorem zk_27_54 : zc 27 54 = some (.getfield 15, 3, 1, 0, 50) := rfl
theorem zk_27_57 : zc 27 57 = some (.ireturn, 0, 0, 0, 0) := rfl
theorem zk_27_58 : zc 27 58 = some (.aload_n 0, 0, 0, 0, 0) := rfl
theorem zk_27_59 : zc 27 59 = some (.getfield 18, 3, 2, 0, 51) := rfl
theorem zk_27_62 : zc 27 62 = some (.ireturn, 0, 0, 0, 0) := rfl
theorem zk_27_63 : zc 27 63 = some (.aload_n 0, 0, 0, 0, 0) := rfl
theorem zk_27_64 : zc 27 64 = some (.getfield 27, 3, 5, 0, 54) := rfl
theorem zk_27_67 : zc 27 67 = some (.ireturn, 0, 0, 0, 0) := rfl
theorem zk_27_68 : zc 27 68 = some (.aload_n 0, 0, 0, 0, 0) := rfl
theorem zk_27_69 : zc 27 69 = some (.getfield 30, 3, 6, 0, 55) := rfl
theorem zk_27_72 : zc 27 72 = some (.ireturn, 0, 0, 0, 0) := rfl
theorem zk_27_73 : zc 27 73 = some (.aload_n 0, 0, 0, 0, 0) := rfl
theorem zk_27_74 : zc 27 74 = some (.getfield 33, 3, 7, 0, 56) := rfl
theorem zk_27_77 : zc 27 77 = some (.ireturn, 0, 0, 0, 0) := rfl
theorem zk_27_78 : zc 27 78 = some (.aload_n 0, 0, 0, 0, 0) := rfl
theorem zk_27_79 : zc 27 79 = some (.getfield 36, 3, 8, 0, 57) := rfl
theorem zk_27_82 : zc 27 82 = some (.ireturn, 0, 0, 0, 0) := rfl
theorem zk_27_83 : zc 27 83 = some (.aload_n 0, 0, 0, 0, 0) := rfl
theorem zk_27_84 : zc 27 84 = some (.getfield 39, 3, 9, 0, 58) := rfl
theorem zk_27_87 : zc 27 87 = some (.ifCond .eq 7, 94, 0, 0, 0) := rfl
theorem zk_27_90 : zc 27 90 = some (.iconst 1, 0, 0, 0, 0) := rfl
theorem zk_27_91 : zc 27 91 = some (.goto 4, 95, 0, 0, 0) := rfl
theorem zk_27_94 : zc 27 94 = some (.iconst 0, 0, 0, 0, 0) := rfl
theorem zk_27_95 : zc 27 95 = some (.ireturn, 0, 0, 0, 0) := rfl
theorem zk_27_96 : zc 27 96 = some (.iconst (-1), 0, 0, 0, 0) := rfl
theorem zk_27_97 : zc 27 97 = some (.ireturn, 0, 0, 0, 0) := rfl
theorem zk_28_0 : zc 28 0 = some (.aload_n 0, 0, 0, 0, 0) := rfl
theorem zk_28_1 : zc 28 1 = some (.aload_n 1, 0, 0, 0, 0) := rfl
theorem zk_28_2 : zc 28 2 = some (.getfield 9, 3, 0, 0, 49) := rfl
theorem zk_28_5 : zc 28 5 = some (.aload_n 1, 0, 0, 0, 0) := rfl
theorem zk_28_6 : zc 28 6 = some (.getfield 15, 3, 1, 0, 50) := rfl
theorem zk_28_9 : zc 28 9 = some (.aload_n 1, 0, 0, 0, 0) := rfl
theorem zk_28_10 : zc 28 10 = some (.getfield 18, 3, 2, 0, 51) := rfl
theorem zk_28_13 : zc 28 13 = some (.aload_n 1, 0, 0, 0, 0) := rfl
theorem zk_28_14 : zc 28 14 = some (.getfield 21, 3, 3, 0, 52) := rfl
theorem zk_28_17 : zc 28 17 = some (.aload_n 1, 0, 0, 0, 0) := rfl
theorem zk_28_18 : zc 28 18 = some (.getfield 24, 3, 4, 0, 53) := rfl
theorem zk_28_21 : zc 28 21 = some (.invokevirtual 43, 24, 0, 6, 45) := rfl
theorem zk_28_24 : zc 28 24 = some (.aload_n 0, 0, 0, 0, 0) := rfl
theorem zk_28_25 : zc 28 25 = some (.aload_n 1, 0, 0, 0, 0) := rfl
theorem zk_28_26 : zc 28 26 = some (.getfield 27, 3, 5, 0, 54) := rfl
theorem zk_28_29 : zc 28 29 = some (.putfield 27, 3, 5, 0, 54) := rfl
theorem zk_28_32 : zc 28 32 = some (.aload_n 0, 0, 0, 0, 0) := rfl
theorem zk_28_33 : zc 28 33 = some (.aload_n 1, 0, 0, 0, 0) := rfl
theorem zk_28_34 : zc 28 34 = some (.getfield 30, 3, 6, 0, 55) := rfl
theorem zk_28_37 : zc 28 37 = some (.putfield 30, 3, 6, 0, 55) := rfl
theorem zk_28_40 : zc 28 40 = some (.aload_n 0, 0, 0, 0, 0) := rfl
theorem zk_28_41 : zc 28 41 = some (.aload_n 1, 0, 0, 0, 0) := rfl
theorem zk_28_42 : zc 28 42 = some (.getfield 33, 3, 7, 0, 56) := rfl
theorem zk_28_45 : zc 28 45 = some (.putfield 33, 3, 7, 0, 56) := rfl
theorem zk_28_48 : zc 28 48 = some (.aload_n 0, 0, 0, 0, 0) := rfl
theorem zk_28_49 : zc 28 49 = some (.aload_n 1, 0, 0, 0, 0) := rfl
theorem zk_28_50 : zc 28 50 = some (.getfield 36, 3, 8, 0, 57) := rfl
theorem zk_28_53 : zc 28 53 = some (.putfield 36, 3, 8, 0, 57) := rfl
theorem zk_28_56 : zc 28 56 = some (.aload_n 0, 0, 0, 0, 0) := rfl
theorem zk_28_57 : zc 28 57 = some (.aload_n 1, 0, 0, 0, 0) := rfl
theorem zk_28_58 : zc 28 58 = some (.getfield 39, 3, 9, 0, 58) := rfl
theorem zk_28_61 : zc 28 61 = some (.putfield 39, 3, 9, 0, 58) := rfl
theorem zk_28_64 : zc 28 64 = some (.return_, 0, 0, 0, 0) := rfl
theorem zk_39_0 : zc 39 0 = some (.aload_n 1, 0, 0, 0, 0) := rfl
theorem zk_39_1 : zc 39 1 = some (.getfield 9, 4, 0, 0, 59) := rfl
theorem zk_39_4 : zc 39 4 = some (.iconst 0, 0, 0, 0, 0) := rfl
theorem zk_39_5 : zc 39 5 = some (.aload_n 0, 0, 0, 0, 0) := rfl
theorem zk_39_6 : zc 39 6 = some (.getfield 9, 4, 0, 0, 59) := rfl
theorem zk_39_9 : zc 39 9 = some (.iconst 0, 0, 0, 0, 0) := rfl
theorem zk_39_10 : zc 39 10 = some (.bipush 25, 0, 0, 0, 0) := rfl
theorem zk_39_12 : zc 39 12 = some (.invokestatic 56, 0, 6, 0, 51) := rfl
theorem zk_39_15 : zc 39 15 = some (.aload_n 1, 0, 0, 0, 0) := rfl
theorem zk_39_16 : zc 39 16 = some (.getfield 15, 4, 1, 0, 60) := rfl
theorem zk_39_19 : zc 39 19 = some (.iconst 0, 0, 0, 0, 0) := rfl
theorem zk_39_20 : zc 39 20 = some (.aload_n 0, 0, 0, 0, 0) := rfl
theorem zk_39_21 : zc 39 21 = some (.getfield 15, 4, 1, 0, 60) := rfl
theorem zk_39_24 : zc 39 24 = some (.iconst 0, 0, 0, 0, 0) := rfl
theorem zk_39_25 : zc 39 25 = some (.bipush 25, 0, 0, 0, 0) := rfl
theorem zk_39_27 : zc 39 27 = some (.invokestatic 56, 0, 6, 0, 51) := rfl
theorem zk_39_30 : zc 39 30 = some (.aload_n 1, 0, 0, 0, 0) := rfl
theorem zk_39_31 : zc 39 31 = some (.getfield 18, 4, 2, 0, 61) := rfl
theorem zk_39_34 : zc 39 34 = some (.iconst 0, 0, 0, 0, 0) := rfl
theorem zk_39_35 : zc 39 35 = some (.aload_n 0, 0, 0, 0, 0) := rfl
theorem zk_39_36 : zc 39 36 = some (.getfield 18, 4, 2, 0, 61) := rfl
theorem zk_39_39 : zc 39 39 = some (.iconst 0, 0, 0, 0, 0) := rfl
theorem zk_39_40 : zc 39 40 = some (.bipush 25, 0, 0, 0, 0) := rfl
theorem zk_39_42 : zc 39 42 = some (.invokestatic 56, 0, 6, 0, 51) := rfl
theorem zk_39_45 : zc 39 45 = some (.aload_n 1, 0, 0, 0, 0) := rfl
theorem zk_39_46 : zc 39 46 = some (.getfield 21, 4, 3, 0, 62) := rfl
theorem zk_39_49 : zc 39 49 = some (.iconst 0, 0, 0, 0, 0) := rfl
theorem zk_39_50 : zc 39 50 = some (.aload_n 0, 0, 0, 0, 0) := rfl
theorem zk_39_51 : zc 39 51 = some (.getfield 21, 4, 3, 0, 62) := rfl
theorem zk_39_54 : zc 39 54 = some (.iconst 0, 0, 0, 0, 0) := rfl
theorem zk_39_55 : zc 39 55 = some (.bipush 25, 0, 0, 0, 0) := rfl
theorem zk_39_57 : zc 39 57 = some (.invokestatic 56, 0, 6, 0, 51) := rfl
theorem zk_39_60 : zc 39 60 = some (.aload_n 1, 0, 0, 0, 0) := rfl
theorem zk_39_61 : zc 39 61 = some (.getfield 24, 4, 4, 0, 63) := rfl
theorem zk_39_64 : zc 39 64 = some (.iconst 0, 0, 0, 0, 0) := rfl
theorem zk_39_65 : zc 39 65 = some (.aload_n 0, 0, 0, 0, 0) := rfl
theorem zk_39_66 : zc 39 66 = some (.getfield 24, 4, 4, 0, 63) := rfl
theorem zk_39_69 : zc 39 69 = some (.iconst 0, 0, 0, 0, 0) := rfl
theorem zk_39_70 : zc 39 70 = some (.bipush 40, 0, 0, 0, 0) := rfl
theorem zk_39_72 : zc 39 72 = some (.invokestatic 56, 0, 6, 0, 51) := rfl
theorem zk_39_75 : zc 39 75 = some (.iconst 0, 0, 0, 0, 0) := rfl
theorem zk_39_76 : zc 39 76 = some (.istore_n 2, 0, 0, 0, 0) := rfl
theorem zk_39_77 : zc 39 77 = some (.iload_n 2, 0, 0, 0, 0) := rfl
theorem zk_39_78 : zc 39 78 = some (.bipush 40, 0, 0, 0, 0) := rfl
theorem zk_39_80 : zc 39 80 = some (.if_icmp .ge 33, 113, 0, 0, 0) := rfl
theorem zk_39_83 : zc 39 83 = some (.aload_n 0, 0, 0, 0, 0) := rfl
theorem zk_39_84 : zc 39 84 = some (.getfield 27, 4, 5, 0, 64) := rfl
theorem zk_39_87 : zc 39 87 = some (.iload_n 2, 0, 0, 0, 0) := rfl
theorem zk_39_88 : zc 39 88 = some (.aload_n 1, 0, 0, 0, 0) := rfl
theorem zk_39_89 : zc 39 89 = some (.getfield 27, 4, 5, 0, 64) := rfl
theorem zk_39_92 : zc 39 92 = some (.iload_n 2, 0, 0, 0, 0) := rfl
theorem zk_39_93 : zc 39 93 = some (.baload, 0, 0, 0, 0) := rfl
theorem zk_39_94 : zc 39 94 = some (.bastore, 0, 0, 0, 0) := rfl
theorem zk_39_95 : zc 39 95 = some (.aload_n 0, 0, 0, 0, 0) := rfl
theorem zk_39_96 : zc 39 96 = some (.getfield 31, 4, 6, 0, 65) := rfl
theorem zk_39_99 : zc 39 99 = some (.iload_n 2, 0, 0, 0, 0) := rfl
theorem zk_39_100 : zc 39 100 = some (.aload_n 1, 0, 0, 0, 0) := rfl
theorem zk_39_101 : zc 39 101 = some (.getfield 31, 4, 6, 0, 65) := rfl
theorem zk_39_104 : zc 39 104 = some (.iload_n 2, 0, 0, 0, 0) := rfl
theorem zk_39_105 : zc 39 105 = some (.baload, 0, 0, 0, 0) := rfl
theorem zk_39_106 : zc 39 106 = some (.bastore, 0, 0, 0, 0) := rfl
theorem zk_39_107 : zc 39 107 = some (.iinc 2 1, 0, 0, 0, 0) := rfl
theorem zk_39_110 : zc 39 110 = some (.goto (-33), 77, 0, 0, 0) := rfl
theorem zk_39_113 : zc 39 113 = some (.return_, 0, 0, 0, 0) := rfl
theorem zk_46_0 : zc 46 0 = some (.aload_n 0, 0, 0, 0, 0) := rfl
theorem zk_46_1 : zc 46 1 = some (.aload_n 1, 0, 0, 0, 0) := rfl
theorem zk_46_2 : zc 46 2 = some (.getfield 33, 5, 0, 0, 72) := rfl
theorem zk_46_5 : zc 46 5 = some (.putfield 33, 5, 0, 0, 72) := rfl
theorem zk_46_8 : zc 46 8 = some (.aload_n 0, 0, 0, 0, 0) := rfl
theorem zk_46_9 : zc 46 9 = some (.aload_n 1, 0, 0, 0, 0) := rfl
theorem zk_46_10 : zc 46 10 = some (.getfield 15, 5, 1, 0, 70) := rfl
theorem zk_46_13 : zc 46 13 = some (.putfield 15, 5, 1, 0, 70) := rfl
theorem zk_46_16 : zc 46 16 = some (.aload_n 0, 0, 0, 0, 0) := rfl
theorem zk_46_17 : zc 46 17 = some (.aload_n 1, 0, 0, 0, 0) := rfl
theorem zk_46_18 : zc 46 18 = some (.getfield 19, 5, 2, 0, 71) := rfl
theorem zk_46_21 : zc 46 21 = some (.putfield 19, 5, 2, 0, 71) := rfl
theorem zk_46_24 : zc 46 24 = some (.aload_n 1, 0, 0, 0, 0) := rfl
theorem zk_46_25 : zc 46 25 = some (.getfield 9, 5, 3, 0, 69) := rfl
theorem zk_46_28 : zc 46 28 = some (.iconst 0, 0, 0, 0, 0) := rfl
theorem zk_46_29 : zc 46 29 = some (.aload_n 0, 0, 0, 0, 0) := rfl
theorem zk_46_30 : zc 46 30 = some (.getfield 9, 5, 3, 0, 69) := rfl
theorem zk_46_33 : zc 46 33 = some (.iconst 0, 0, 0, 0, 0) := rfl
theorem zk_46_34 : zc 46 34 = some (.bipush 96, 0, 0, 0, 0) := rfl
theorem zk_46_36 : zc 46 36 = some (.invokestatic 36, 0, 6, 0, 58) := rfl
theorem zk_46_39 : zc 46 39 = some (.return_, 0, 0, 0, 0) := rfl
theorem zk_64_0 : zc 64 0 = some (.aload_n 0, 0, 0, 0, 0) := rfl
theorem zk_64_1 : zc 64 1 = some (.aload_n 1, 0, 0, 0, 0) := rfl
theorem zk_64_2 : zc 64 2 = some (.getfield 19, 7, 0, 0, 82) := rfl
theorem zk_64_5 : zc 64 5 = some (.putfield 19, 7, 0, 0, 82) := rfl
theorem zk_64_8 : zc 64 8 = some (.iconst 0, 0, 0, 0, 0) := rfl
theorem zk_64_9 : zc 64 9 = some (.istore_n 2, 0, 0, 0, 0) := rfl
theorem zk_64_10 : zc 64 10 = some (.iload_n 2, 0, 0, 0, 0) := rfl
theorem zk_64_11 : zc 64 11 = some (.aload_n 0, 0, 0, 0, 0) := rfl
theorem zk_64_12 : zc 64 12 = some (.getfield 19, 7, 0, 0, 82) := rfl
theorem zk_64_15 : zc 64 15 = some (.if_icmp .ge 33, 48, 0, 0, 0) := rfl
theorem zk_64_18 : zc 64 18 = some (.aload_n 0, 0, 0, 0, 0) := rfl
theorem zk_64_19 : zc 64 19 = some (.getfield 9, 7, 1, 0, 80) := rfl
theorem zk_64_22 : zc 64 22 = some (.iload_n 2, 0, 0, 0, 0) := rfl
theorem zk_64_23 : zc 64 23 = some (.aload_n 1, 0, 0, 0, 0) := rfl
theorem zk_64_24 : zc 64 24 = some (.getfield 9, 7, 1, 0, 80) := rfl
theorem zk_64_27 : zc 64 27 = some (.iload_n 2, 0, 0, 0, 0) := rfl
theorem zk_64_28 : zc 64 28 = some (.iaload, 0, 0, 0, 0) := rfl
theorem zk_64_29 : zc 64 29 = some (.iastore, 0, 0, 0, 0) := rfl
theorem zk_64_30 : zc 64 30 = some (.aload_n 0, 0, 0, 0, 0) := rfl
theorem zk_64_31 : zc 64 31 = some (.getfield 15, 7, 2, 0, 81) := rfl
theorem zk_64_34 : zc 64 34 = some (.iload_n 2, 0, 0, 0, 0) := rfl
theorem zk_64_35 : zc 64 35 = some (.aload_n 1, 0, 0, 0, 0) := rfl
theorem zk_64_36 : zc 64 36 = some (.getfield 15, 7, 2, 0, 81) := rfl
theorem zk_64_39 : zc 64 39 = some (.iload_n 2, 0, 0, 0, 0) := rfl
theorem zk_64_40 : zc 64 40 = some (.baload, 0, 0, 0, 0) := rfl
theorem zk_64_41 : zc 64 41 = some (.bastore, 0, 0, 0, 0) := rfl
theorem zk_64_42 : zc 64 42 = some (.iinc 2 1, 0, 0, 0, 0) := rfl
theorem zk_64_45 : zc 64 45 = some (.goto (-35), 10, 0, 0, 0) := rfl
theorem zk_64_48 : zc 64 48 = some (.return_, 0, 0, 0, 0) := rfl
/-- W$Lagoon.takeLagoon -/
theorem w_39 {xs : Nat × (Nat → Int32)} (c : Nat) (c2 : Nat) (hc : c < 3) (hc2 : c2 < 3) (σ : ZS) (hI : Inv σ)   : CT xs 1 39 [av 2 c 0, av 2 c2 0] σ (fun v σ' => v = none ∧ IF (MYl c) σ σ' ∧ (True)) := by
  refine G_ct (J := (fun σ' => IF (MYl c) σ σ' ∧ True)) (L := [(0, av 2 c 0), (1, av 2 c2 0)]) (nL := 3) rfl rfl rfl ⟨IF.rf hI, trivial⟩ ?_
  refine T_ld zk_39_0 rfl rfl rfl (pc' := 1) rfl ?_
  refine T_getR (t' := 3) (i' := c2) (k' := 0) zk_39_1 rfl rfl rfl (vd_2 hc2) (pc' := 4) rfl ?_
  refine T_op zk_39_4 rfl X_ic (pc' := 5) rfl ?_
  refine T_ld zk_39_5 rfl rfl rfl (pc' := 6) rfl ?_
  refine T_getR (t' := 3) (i' := c) (k' := 0) zk_39_6 rfl rfl rfl (vd_2 hc) (pc' := 9) rfl ?_
  refine T_op zk_39_9 rfl X_ic (pc' := 10) rfl ?_
  refine T_op zk_39_10 rfl (X_bi (v := 25) (by decide)) (pc' := 12) rfl ?_
  refine G_copy (J' := (fun σ' => IF (MYl c) σ σ' ∧ True)) (l0 := 25) (l1 := 25) (kk := 12) zk_39_12 rfl rfl (by decide) rfl rfl rfl rfl (vd_3 hc2) (vd_3 hc) (by omega) (by omega) (by omega) (by omega) (by omega) (fun σ' h => ⟨h.1.cp (rg_cp0 rfl (fun _ _ h => h) (fun j => h.1.1 3 c2 0 j (vd_3 hc2)) (fun j => h.1.1 3 c 0 j (vd_3 hc))) (fun j => (by unfold MYl; omega)), trivial⟩) (pc' := 15) rfl ?_
  refine T_ld zk_39_15 rfl rfl rfl (pc' := 16) rfl ?_
  refine T_getR (t' := 4) (i' := c2) (k' := 0) zk_39_16 rfl rfl rfl (vd_2 hc2) (pc' := 19) rfl ?_
  refine T_op zk_39_19 rfl X_ic (pc' := 20) rfl ?_
  refine T_ld zk_39_20 rfl rfl rfl (pc' := 21) rfl ?_
  refine T_getR (t' := 4) (i' := c) (k' := 0) zk_39_21 rfl rfl rfl (vd_2 hc) (pc' := 24) rfl ?_
  refine T_op zk_39_24 rfl X_ic (pc' := 25) rfl ?_
  refine T_op zk_39_25 rfl (X_bi (v := 25) (by decide)) (pc' := 27) rfl ?_
  refine G_copy (J' := (fun σ' => IF (MYl c) σ σ' ∧ True)) (l0 := 25) (l1 := 25) (kk := 12) zk_39_27 rfl rfl (by decide) rfl rfl rfl rfl (vd_4 hc2) (vd_4 hc) (by omega) (by omega) (by omega) (by omega) (by omega) (fun σ' h => ⟨h.1.cp (rg_cp0 rfl (fun _ _ h => h) (fun j => h.1.1 4 c2 0 j (vd_4 hc2)) (fun j => h.1.1 4 c 0 j (vd_4 hc))) (fun j => (by unfold MYl; omega)), trivial⟩) (pc' := 30) rfl ?_
  refine T_ld zk_39_30 rfl rfl rfl (pc' := 31) rfl ?_
  refine T_getR (t' := 5) (i' := c2) (k' := 0) zk_39_31 rfl rfl rfl (vd_2 hc2) (pc' := 34) rfl ?_
  refine T_op zk_39_34 rfl X_ic (pc' := 35) rfl ?_
  refine T_ld zk_39_35 rfl rfl rfl (pc' := 36) rfl ?_
  refine T_getR (t' := 5) (i' := c) (k' := 0) zk_39_36 rfl rfl rfl (vd_2 hc) (pc' := 39) rfl ?_
  refine T_op zk_39_39 rfl X_ic (pc' := 40) rfl ?_
  refine T_op zk_39_40 rfl (X_bi (v := 25) (by decide)) (pc' := 42) rfl ?_
  refine G_copy (J' := (fun σ' => IF (MYl c) σ σ' ∧ True)) (l0 := 25) (l1 := 25) (kk := 12) zk_39_42 rfl rfl (by decide) rfl rfl rfl rfl (vd_5 hc2) (vd_5 hc) (by omega) (by omega) (by omega) (by omega) (by omega) (fun σ' h => ⟨h.1.cp (rg_cp0 rfl (fun _ _ h => h) (fun j => h.1.1 5 c2 0 j (vd_5 hc2)) (fun j => h.1.1 5 c 0 j (vd_5 hc))) (fun j => (by unfold MYl; omega)), trivial⟩) (pc' := 45) rfl ?_
  refine T_ld zk_39_45 rfl rfl rfl (pc' := 46) rfl ?_
  refine T_getR (t' := 6) (i' := c2) (k' := 0) zk_39_46 rfl rfl rfl (vd_2 hc2) (pc' := 49) rfl ?_
  refine T_op zk_39_49 rfl X_ic (pc' := 50) rfl ?_
  refine T_ld zk_39_50 rfl rfl rfl (pc' := 51) rfl ?_
  refine T_getR (t' := 6) (i' := c) (k' := 0) zk_39_51 rfl rfl rfl (vd_2 hc) (pc' := 54) rfl ?_
  refine T_op zk_39_54 rfl X_ic (pc' := 55) rfl ?_
  refine T_op zk_39_55 rfl (X_bi (v := 25) (by decide)) (pc' := 57) rfl ?_
  refine G_copy (J' := (fun σ' => IF (MYl c) σ σ' ∧ True)) (l0 := 25) (l1 := 25) (kk := 12) zk_39_57 rfl rfl (by decide) rfl rfl rfl rfl (vd_6 hc2) (vd_6 hc) (by omega) (by omega) (by omega) (by omega) (by omega) (fun σ' h => ⟨h.1.cp (rg_cp0 rfl (fun _ _ h => h) (fun j => h.1.1 6 c2 0 j (vd_6 hc2)) (fun j => h.1.1 6 c 0 j (vd_6 hc))) (fun j => (by unfold MYl; omega)), trivial⟩) (pc' := 60) rfl ?_
  refine T_ld zk_39_60 rfl rfl rfl (pc' := 61) rfl ?_
  refine T_getR (t' := 7) (i' := c2) (k' := 0) zk_39_61 rfl rfl rfl (vd_2 hc2) (pc' := 64) rfl ?_
  refine T_op zk_39_64 rfl X_ic (pc' := 65) rfl ?_
  refine T_ld zk_39_65 rfl rfl rfl (pc' := 66) rfl ?_
  refine T_getR (t' := 7) (i' := c) (k' := 0) zk_39_66 rfl rfl rfl (vd_2 hc) (pc' := 69) rfl ?_
  refine T_op zk_39_69 rfl X_ic (pc' := 70) rfl ?_
  refine T_op zk_39_70 rfl (X_bi (v := 40) (by decide)) (pc' := 72) rfl ?_
  refine G_copy (J' := (fun σ' => IF (MYl c) σ σ' ∧ True)) (l0 := 40) (l1 := 40) (kk := 12) zk_39_72 rfl rfl (by decide) rfl rfl rfl rfl (vd_7 hc2) (vd_7 hc) (by omega) (by omega) (by omega) (by omega) (by omega) (fun σ' h => ⟨h.1.cp (rg_cp0 rfl (fun _ _ h => h) (fun j => h.1.1 7 c2 0 j (vd_7 hc2)) (fun j => h.1.1 7 c 0 j (vd_7 hc))) (fun j => (by unfold MYl; omega)), trivial⟩) (pc' := 75) rfl ?_
  refine T_op zk_39_75 rfl X_ic (pc' := 76) rfl ?_
  refine T_st (L' := [(0, av 2 c 0), (1, av 2 c2 0), (2, iv 0)]) zk_39_76 (nL := 3) rfl rfl rfl rfl rfl (pc' := 77) rfl ?_
  refine T_loop1 (fun x1 => ((40 - x1 : Int)).toNat) (fun x1 => (0 ≤ x1 ∧ x1 ≤ 40)) (fun x1 => TJ xs (fun σ' => IF (MYl c) σ σ' ∧ True) 0 39 77 [(0, av 2 c 0), (1, av 2 c2 0), (2, iv x1)] [] _) ?_ 0 (by omega)
  intro x1 hp3 ih2
  refine T_ld zk_39_77 rfl rfl rfl (pc' := 78) rfl ?_
  refine T_op zk_39_78 rfl (X_bi (v := 40) (by decide)) (pc' := 80) rfl ?_
  refine T_icmp_ge zk_39_80 (by omega) (by omega) (pc' := 83) rfl (fun h4 => ?_) (fun h5 => ?_)
  ·
    exact T_vret zk_39_113 rfl (fun σ' h => ⟨rfl, h.1, trivial⟩)
  ·
    refine T_ld zk_39_83 rfl rfl rfl (pc' := 84) rfl ?_
    refine T_getR (t' := 8) (i' := c) (k' := 0) zk_39_84 rfl rfl rfl (vd_2 hc) (pc' := 87) rfl ?_
    refine T_ld zk_39_87 rfl rfl rfl (pc' := 88) rfl ?_
    refine T_ld zk_39_88 rfl rfl rfl (pc' := 89) rfl ?_
    refine T_getR (t' := 8) (i' := c2) (k' := 0) zk_39_89 rfl rfl rfl (vd_2 hc2) (pc' := 92) rfl ?_
    refine T_ld zk_39_92 rfl rfl rfl (pc' := 93) rfl ?_
    refine G_bald (lo := 0) (hi := 1) (ln := 40) zk_39_93 rfl rfl (vd_8 hc2) (by omega) (by omega) (by omega) (fun σ' h => h.1.1) (fun _ h => h.2 (by omega) (by omega)) (pc' := 94) rfl (fun y6 hy6 hy6' => ?_)
    refine G_bast (J' := (fun σ' => IF (MYl c) σ σ' ∧ True)) (ln := 40) zk_39_94 rfl rfl (by omega) (vd_8 hc) (by omega) (by omega) (by omega) (fun σ' h => ⟨h.1.up (by simp only [rgP] <;> omega) (by unfold MYl; omega), trivial⟩) (pc' := 95) rfl ?_
    refine T_ld zk_39_95 rfl rfl rfl (pc' := 96) rfl ?_
    refine T_getR (t' := 9) (i' := c) (k' := 0) zk_39_96 rfl rfl rfl (vd_2 hc) (pc' := 99) rfl ?_
    refine T_ld zk_39_99 rfl rfl rfl (pc' := 100) rfl ?_
    refine T_ld zk_39_100 rfl rfl rfl (pc' := 101) rfl ?_
    refine T_getR (t' := 9) (i' := c2) (k' := 0) zk_39_101 rfl rfl rfl (vd_2 hc2) (pc' := 104) rfl ?_
    refine T_ld zk_39_104 rfl rfl rfl (pc' := 105) rfl ?_
    refine G_bald (lo := 0) (hi := 1) (ln := 40) zk_39_105 rfl rfl (vd_9 hc2) (by omega) (by omega) (by omega) (fun σ' h => h.1.1) (fun _ h => h.2 (by omega) (by omega)) (pc' := 106) rfl (fun y7 hy7 hy7' => ?_)
    refine G_bast (J' := (fun σ' => IF (MYl c) σ σ' ∧ True)) (ln := 40) zk_39_106 rfl rfl (by omega) (vd_9 hc) (by omega) (by omega) (by omega) (fun σ' h => ⟨h.1.up (by simp only [rgP] <;> omega) (by unfold MYl; omega), trivial⟩) (pc' := 107) rfl ?_
    refine T_iinc (L' := [(0, av 2 c 0), (1, av 2 c2 0), (2, iv (x1 + 1))]) zk_39_107 (nL := 3) rfl rfl rfl rfl (pc' := 110) rfl ?_
    refine T_goto zk_39_110 ?_
    exact ih2 (x1 + 1) (by omega) (by omega)
/-- W$Mouths.takeMouths -/
theorem w_64 {xs : Nat × (Nat → Int32)} (c : Nat) (c2 : Nat) (hc : c < 3) (hc2 : c2 < 3) (σ : ZS) (hI : Inv σ)   : CT xs 1 64 [av 11 c 0, av 11 c2 0] σ (fun v σ' => v = none ∧ IF (MI c 11 12 13 13) σ σ' ∧ (True)) := by
  refine G_ct (J := (fun σ' => IF (MI c 11 12 13 13) σ σ' ∧ True)) (L := [(0, av 11 c 0), (1, av 11 c2 0)]) (nL := 3) rfl rfl rfl ⟨IF.rf hI, trivial⟩ ?_
  refine T_ld zk_64_0 rfl rfl rfl (pc' := 1) rfl ?_
  refine T_ld zk_64_1 rfl rfl rfl (pc' := 2) rfl ?_
  refine G_getf (lo := 0) (hi := 3) zk_64_2 rfl (vd_11 hc2) (fun σ' h => h.1.1) (fun _ h => h.2 (by omega) (by omega)) (pc' := 5) rfl (fun y1 hy1 hy1' => ?_)
  refine T_putf (J' := (fun σ' => IF (MI c 11 12 13 13) σ σ' ∧ σ' 11 c 0 0 = y1 ∧ True)) zk_64_5 rfl rfl (vd_11 hc) (fun σ' h => ⟨h.1.up (by simp only [rgP] <;> omega) (by unfold MI; omega), up_eq, trivial⟩) (pc' := 8) rfl ?_
  refine T_op zk_64_8 rfl X_ic (pc' := 9) rfl ?_
  refine T_st (L' := [(0, av 11 c 0), (1, av 11 c2 0), (2, iv 0)]) zk_64_9 (nL := 3) rfl rfl rfl rfl rfl (pc' := 10) rfl ?_
  refine G_know (J' := (fun σ' => IF (MI c 11 12 13 13) σ σ' ∧ True)) (fun σ' h => ⟨h.1, trivial⟩) ?_
  refine T_loop1 (fun x2 => ((3 - x2 : Int)).toNat) (fun x2 => (0 ≤ x2 ∧ x2 ≤ 3)) (fun x2 => TJ xs (fun σ' => IF (MI c 11 12 13 13) σ σ' ∧ True) 0 64 10 [(0, av 11 c 0), (1, av 11 c2 0), (2, iv x2)] [] _) ?_ 0 (by omega)
  intro x2 hp4 ih3
  refine T_ld zk_64_10 rfl rfl rfl (pc' := 11) rfl ?_
  refine T_ld zk_64_11 rfl rfl rfl (pc' := 12) rfl ?_
  refine G_getf (lo := 0) (hi := 3) zk_64_12 rfl (vd_11 hc) (fun σ' h => h.1.1) (fun _ h => h.2 (by omega) (by omega)) (pc' := 15) rfl (fun y5 hy5 hy5' => ?_)
  refine T_icmp_ge zk_64_15 (by omega) (by omega) (pc' := 18) rfl (fun h6 => ?_) (fun h7 => ?_)
  ·
    exact T_vret zk_64_48 rfl (fun σ' h => ⟨rfl, h.1, trivial⟩)
  ·
    refine T_ld zk_64_18 rfl rfl rfl (pc' := 19) rfl ?_
    refine T_getR (t' := 12) (i' := c) (k' := 0) zk_64_19 rfl rfl rfl (vd_11 hc) (pc' := 22) rfl ?_
    refine T_ld zk_64_22 rfl rfl rfl (pc' := 23) rfl ?_
    refine T_ld zk_64_23 rfl rfl rfl (pc' := 24) rfl ?_
    refine T_getR (t' := 12) (i' := c2) (k' := 0) zk_64_24 rfl rfl rfl (vd_11 hc2) (pc' := 27) rfl ?_
    refine T_ld zk_64_27 rfl rfl rfl (pc' := 28) rfl ?_
    refine G_iald (lo := 0) (hi := 24) (ln := 3) zk_64_28 rfl rfl (vd_12 hc2) (by omega) (by omega) (by omega) (fun σ' h => h.1.1) (fun _ h => h.2 (by omega) (by omega)) (pc' := 29) rfl (fun y8 hy8 hy8' => ?_)
    refine G_iast (J' := (fun σ' => IF (MI c 11 12 13 13) σ σ' ∧ True)) (ln := 3) zk_64_29 rfl rfl (vd_12 hc) (by omega) (by omega) (by omega) (fun σ' h => ⟨h.1.up (by simp only [rgP] <;> omega) (by unfold MI; omega), trivial⟩) (pc' := 30) rfl ?_
    refine T_ld zk_64_30 rfl rfl rfl (pc' := 31) rfl ?_
    refine T_getR (t' := 13) (i' := c) (k' := 0) zk_64_31 rfl rfl rfl (vd_11 hc) (pc' := 34) rfl ?_
    refine T_ld zk_64_34 rfl rfl rfl (pc' := 35) rfl ?_
    refine T_ld zk_64_35 rfl rfl rfl (pc' := 36) rfl ?_
    refine T_getR (t' := 13) (i' := c2) (k' := 0) zk_64_36 rfl rfl rfl (vd_11 hc2) (pc' := 39) rfl ?_
    refine T_ld zk_64_39 rfl rfl rfl (pc' := 40) rfl ?_
    refine G_bald (lo := 0) (hi := 1) (ln := 3) zk_64_40 rfl rfl (vd_13 hc2) (by omega) (by omega) (by omega) (fun σ' h => h.1.1) (fun _ h => h.2 (by omega) (by omega)) (pc' := 41) rfl (fun y9 hy9 hy9' => ?_)
    refine G_bast (J' := (fun σ' => IF (MI c 11 12 13 13) σ σ' ∧ True)) (ln := 3) zk_64_41 rfl rfl (by omega) (vd_13 hc) (by omega) (by omega) (by omega) (fun σ' h => ⟨h.1.up (by simp only [rgP] <;> omega) (by unfold MI; omega), trivial⟩) (pc' := 42) rfl ?_
    refine T_iinc (L' := [(0, av 11 c 0), (1, av 11 c2 0), (2, iv (x2 + 1))]) zk_64_42 (nL := 3) rfl rfl rfl rfl (pc' := 45) rfl ?_
    refine T_goto zk_64_45 ?_
    exact ih3 (x2 + 1) (by omega) (by omega)
/-- W$House.build -/
theorem w_24 {xs : Nat × (Nat → Int32)} (c : Nat) (k : Nat) (p0 : Int) (p1 : Int) (p2 : Int) (p3 : Int) (p4 : Int) (hc : c < 3) (hk : k < 12) (hp0 : -2147483648 ≤ p0 ∧ p0 ≤ 2147483647) (hp1 : 0 ≤ p1 ∧ p1 ≤ 24) (hp2 : -2147483648 ≤ p2 ∧ p2 ≤ 2147483647) (hp3 : -2147483648 ≤ p3 ∧ p3 ≤ 2147483647) (hp4 : -2147483648 ≤ p4 ∧ p4 ≤ 2147483647) (σ : ZS) (hI : Inv σ)   : CT xs 1 24 [av 25 c k, iv p0, iv p1, iv p2, iv p3, iv p4] σ (fun v σ' => v = none ∧ IF (MI c 25 25 25 25) σ σ' ∧ (True)) := by
  refine G_ct (J := (fun σ' => IF (MI c 25 25 25 25) σ σ' ∧ True)) (L := [(0, av 25 c k), (1, iv p0), (2, iv p1), (3, iv p2), (4, iv p3), (5, iv p4)]) (nL := 6) rfl rfl rfl ⟨IF.rf hI, trivial⟩ ?_
  refine T_ld zk_24_0 rfl rfl rfl (pc' := 1) rfl ?_
  refine T_ld zk_24_1 rfl rfl rfl (pc' := 2) rfl ?_
  refine T_putf (J' := (fun σ' => IF (MI c 25 25 25 25) σ σ' ∧ True)) zk_24_2 rfl rfl (vd_25 hc (by omega)) (fun σ' h => ⟨h.1.up (by simp only [rgP] <;> omega) (by unfold MI; omega), trivial⟩) (pc' := 5) rfl ?_
  refine T_ld zk_24_5 rfl rfl rfl (pc' := 6) rfl ?_
  refine T_ld zk_24_6 rfl rfl rfl (pc' := 7) rfl ?_
  refine T_putf (J' := (fun σ' => IF (MI c 25 25 25 25) σ σ' ∧ True)) zk_24_7 rfl rfl (vd_25 hc (by omega)) (fun σ' h => ⟨h.1.up (by simp only [rgP] <;> omega) (by unfold MI; omega), trivial⟩) (pc' := 10) rfl ?_
  refine T_ld zk_24_10 rfl rfl rfl (pc' := 11) rfl ?_
  refine T_ld zk_24_11 rfl rfl rfl (pc' := 12) rfl ?_
  refine T_putf (J' := (fun σ' => IF (MI c 25 25 25 25) σ σ' ∧ True)) zk_24_12 rfl rfl (vd_25 hc (by omega)) (fun σ' h => ⟨h.1.up (by simp only [rgP] <;> omega) (by unfold MI; omega), trivial⟩) (pc' := 15) rfl ?_
  refine T_ld zk_24_15 rfl rfl rfl (pc' := 16) rfl ?_
  refine T_ld zk_24_16 rfl rfl rfl (pc' := 18) rfl ?_
  refine T_putf (J' := (fun σ' => IF (MI c 25 25 25 25) σ σ' ∧ True)) zk_24_18 rfl rfl (vd_25 hc (by omega)) (fun σ' h => ⟨h.1.up (by simp only [rgP] <;> omega) (by unfold MI; omega), trivial⟩) (pc' := 21) rfl ?_
  refine T_ld zk_24_21 rfl rfl rfl (pc' := 22) rfl ?_
  refine T_ld zk_24_22 rfl rfl rfl (pc' := 24) rfl ?_
  refine T_putf (J' := (fun σ' => IF (MI c 25 25 25 25) σ σ' ∧ True)) zk_24_24 rfl rfl (vd_25 hc (by omega)) (fun σ' h => ⟨h.1.up (by simp only [rgP] <;> omega) (by unfold MI; omega), trivial⟩) (pc' := 27) rfl ?_
  refine T_ld zk_24_27 rfl rfl rfl (pc' := 28) rfl ?_
  refine T_op zk_24_28 rfl X_ic (pc' := 29) rfl ?_
  refine T_putf (J' := (fun σ' => IF (MI c 25 25 25 25) σ σ' ∧ True)) zk_24_29 rfl rfl (vd_25 hc (by omega)) (fun σ' h => ⟨h.1.up (by simp only [rgP] <;> omega) (by unfold MI; omega), trivial⟩) (pc' := 32) rfl ?_
  refine T_ld zk_24_32 rfl rfl rfl (pc' := 33) rfl ?_
  refine T_op zk_24_33 rfl X_ic (pc' := 34) rfl ?_
  refine T_putf (J' := (fun σ' => IF (MI c 25 25 25 25) σ σ' ∧ True)) zk_24_34 rfl rfl (vd_25 hc (by omega)) (fun σ' h => ⟨h.1.up (by simp only [rgP] <;> omega) (by unfold MI; omega), trivial⟩) (pc' := 37) rfl ?_
  refine T_ld zk_24_37 rfl rfl rfl (pc' := 38) rfl ?_
  refine T_op zk_24_38 rfl X_ic (pc' := 39) rfl ?_
  refine T_putf (J' := (fun σ' => IF (MI c 25 25 25 25) σ σ' ∧ True)) zk_24_39 rfl rfl (vd_25 hc (by omega)) (fun σ' h => ⟨h.1.up (by simp only [rgP] <;> omega) (by unfold MI; omega), trivial⟩) (pc' := 42) rfl ?_
  refine T_ld zk_24_42 rfl rfl rfl (pc' := 43) rfl ?_
  refine T_op zk_24_43 rfl X_ic (pc' := 44) rfl ?_
  refine T_putf (J' := (fun σ' => IF (MI c 25 25 25 25) σ σ' ∧ True)) zk_24_44 rfl rfl (vd_25 hc (by omega)) (fun σ' h => ⟨h.1.up (by simp only [rgP] <;> omega) (by unfold MI; omega), trivial⟩) (pc' := 47) rfl ?_
  refine T_ld zk_24_47 rfl rfl rfl (pc' := 48) rfl ?_
  refine T_op zk_24_48 rfl X_ic (pc' := 49) rfl ?_
  refine T_putz (J' := (fun σ' => IF (MI c 25 25 25 25) σ σ' ∧ True)) zk_24_49 rfl rfl (by omega) (vd_25 hc (by omega)) (fun σ' h => ⟨h.1.up (by simp only [rgP] <;> omega) (by unfold MI; omega), trivial⟩) (pc' := 52) rfl ?_
  exact T_vret zk_24_52 rfl (fun σ' h => ⟨rfl, h.1, trivial⟩)
/-- W$House.takeHouse -/
theorem w_28 {xs : Nat × (Nat → Int32)} (c : Nat) (k : Nat) (c2 : Nat) (hc : c < 3) (hk : k < 12) (hc2 : c2 < 3) (σ : ZS) (hI : Inv σ)   : CT xs 2 28 [av 25 c k, av 25 c2 k] σ (fun v σ' => v = none ∧ IF (MI c 25 25 25 25) σ σ' ∧ (True)) := by
  refine G_ct (J := (fun σ' => IF (MI c 25 25 25 25) σ σ' ∧ True)) (L := [(0, av 25 c k), (1, av 25 c2 k)]) (nL := 2) rfl rfl rfl ⟨IF.rf hI, trivial⟩ ?_
  refine T_ld zk_28_0 rfl rfl rfl (pc' := 1) rfl ?_
  refine T_ld zk_28_1 rfl rfl rfl (pc' := 2) rfl ?_
  refine G_getf (lo := -2147483648) (hi := 2147483647) zk_28_2 rfl (vd_25 hc2 (by omega)) (fun σ' h => h.1.1) (fun _ h => (by have q := h.1; omega)) (pc' := 5) rfl (fun y1 hy1 hy1' => ?_)
  refine T_ld zk_28_5 rfl rfl rfl (pc' := 6) rfl ?_
  refine G_getf (lo := 0) (hi := 24) zk_28_6 rfl (vd_25 hc2 (by omega)) (fun σ' h => h.1.1) (fun _ h => h.2.1 (by omega) (by omega)) (pc' := 9) rfl (fun y2 hy2 hy2' => ?_)
  refine T_ld zk_28_9 rfl rfl rfl (pc' := 10) rfl ?_
  refine G_getf (lo := -2147483648) (hi := 2147483647) zk_28_10 rfl (vd_25 hc2 (by omega)) (fun σ' h => h.1.1) (fun _ h => (by have q := h.1; omega)) (pc' := 13) rfl (fun y3 hy3 hy3' => ?_)
  refine T_ld zk_28_13 rfl rfl rfl (pc' := 14) rfl ?_
  refine G_getf (lo := -2147483648) (hi := 2147483647) zk_28_14 rfl (vd_25 hc2 (by omega)) (fun σ' h => h.1.1) (fun _ h => (by have q := h.1; omega)) (pc' := 17) rfl (fun y4 hy4 hy4' => ?_)
  refine T_ld zk_28_17 rfl rfl rfl (pc' := 18) rfl ?_
  refine G_getf (lo := -2147483648) (hi := 2147483647) zk_28_18 rfl (vd_25 hc2 (by omega)) (fun σ' h => h.1.1) (fun _ h => (by have q := h.1; omega)) (pc' := 21) rfl (fun y5 hy5 hy5' => ?_)
  refine T_callv (J' := (fun σ' => IF (MI c 25 25 25 25) σ σ' ∧ True)) (r := []) zk_28_21 rfl rfl rfl rfl rfl rfl (Or.inr ⟨_, _, _, _, rfl, (vd_25 hc (by omega)), rfl⟩) (fun σ' h => (w_24 c k y1 y2 y3 y4 y5 hc (by omega) (by omega) (by omega) (by omega) (by omega) (by omega) σ' h.1.1 ).le (Nat.le_of_ble_eq_true rfl) (fun v σ2 ⟨h1, h3, h4⟩ => ⟨h1, h.1.tr h3 (fun _ _ _ _ h => h), trivial⟩)) (pc' := 24) rfl ?_
  refine T_ld zk_28_24 rfl rfl rfl (pc' := 25) rfl ?_
  refine T_ld zk_28_25 rfl rfl rfl (pc' := 26) rfl ?_
  refine G_getf (lo := -2147483648) (hi := 2147483647) zk_28_26 rfl (vd_25 hc2 (by omega)) (fun σ' h => h.1.1) (fun _ h => (by have q := h.1; omega)) (pc' := 29) rfl (fun y7 hy7 hy7' => ?_)
  refine T_putf (J' := (fun σ' => IF (MI c 25 25 25 25) σ σ' ∧ σ' 25 c k 5 = y7 ∧ True)) zk_28_29 rfl rfl (vd_25 hc (by omega)) (fun σ' h => ⟨h.1.up (by simp only [rgP] <;> omega) (by unfold MI; omega), up_eq, trivial⟩) (pc' := 32) rfl ?_
  refine T_ld zk_28_32 rfl rfl rfl (pc' := 33) rfl ?_
  refine T_ld zk_28_33 rfl rfl rfl (pc' := 34) rfl ?_
  refine G_getf (lo := -2147483648) (hi := 2147483647) zk_28_34 rfl (vd_25 hc2 (by omega)) (fun σ' h => h.1.1) (fun _ h => (by have q := h.1; omega)) (pc' := 37) rfl (fun y8 hy8 hy8' => ?_)
  refine T_putf (J' := (fun σ' => IF (MI c 25 25 25 25) σ σ' ∧ σ' 25 c k 5 = y7 ∧ σ' 25 c k 6 = y8 ∧ True)) zk_28_37 rfl rfl (vd_25 hc (by omega)) (fun σ' h => ⟨h.1.up (by simp only [rgP] <;> omega) (by unfold MI; omega), (up_ne (by omega)).trans (h.2.1), up_eq, trivial⟩) (pc' := 40) rfl ?_
  refine T_ld zk_28_40 rfl rfl rfl (pc' := 41) rfl ?_
  refine T_ld zk_28_41 rfl rfl rfl (pc' := 42) rfl ?_
  refine G_getf (lo := -2147483648) (hi := 2147483647) zk_28_42 rfl (vd_25 hc2 (by omega)) (fun σ' h => h.1.1) (fun _ h => (by have q := h.1; omega)) (pc' := 45) rfl (fun y9 hy9 hy9' => ?_)
  refine T_putf (J' := (fun σ' => IF (MI c 25 25 25 25) σ σ' ∧ σ' 25 c k 5 = y7 ∧ σ' 25 c k 6 = y8 ∧ σ' 25 c k 7 = y9 ∧ True)) zk_28_45 rfl rfl (vd_25 hc (by omega)) (fun σ' h => ⟨h.1.up (by simp only [rgP] <;> omega) (by unfold MI; omega), (up_ne (by omega)).trans (h.2.1), (up_ne (by omega)).trans (h.2.2.1), up_eq, trivial⟩) (pc' := 48) rfl ?_
  refine T_ld zk_28_48 rfl rfl rfl (pc' := 49) rfl ?_
  refine T_ld zk_28_49 rfl rfl rfl (pc' := 50) rfl ?_
  refine G_getf (lo := -2147483648) (hi := 2147483647) zk_28_50 rfl (vd_25 hc2 (by omega)) (fun σ' h => h.1.1) (fun _ h => (by have q := h.1; omega)) (pc' := 53) rfl (fun y10 hy10 hy10' => ?_)
  refine T_putf (J' := (fun σ' => IF (MI c 25 25 25 25) σ σ' ∧ σ' 25 c k 5 = y7 ∧ σ' 25 c k 6 = y8 ∧ σ' 25 c k 7 = y9 ∧ σ' 25 c k 8 = y10 ∧ True)) zk_28_53 rfl rfl (vd_25 hc (by omega)) (fun σ' h => ⟨h.1.up (by simp only [rgP] <;> omega) (by unfold MI; omega), (up_ne (by omega)).trans (h.2.1), (up_ne (by omega)).trans (h.2.2.1), (up_ne (by omega)).trans (h.2.2.2.1), up_eq, trivial⟩) (pc' := 56) rfl ?_
  refine T_ld zk_28_56 rfl rfl rfl (pc' := 57) rfl ?_
  refine T_ld zk_28_57 rfl rfl rfl (pc' := 58) rfl ?_
  refine G_getf (lo := 0) (hi := 1) zk_28_58 rfl (vd_25 hc2 (by omega)) (fun σ' h => h.1.1) (fun _ h => h.2.2 (by omega) (by omega)) (pc' := 61) rfl (fun y11 hy11 hy11' => ?_)
  refine T_putz (J' := (fun σ' => IF (MI c 25 25 25 25) σ σ' ∧ σ' 25 c k 5 = y7 ∧ σ' 25 c k 6 = y8 ∧ σ' 25 c k 7 = y9 ∧ σ' 25 c k 8 = y10 ∧ σ' 25 c k 9 = y11 ∧ True)) zk_28_61 rfl rfl (by omega) (vd_25 hc (by omega)) (fun σ' h => ⟨h.1.up (by simp only [rgP] <;> omega) (by unfold MI; omega), (up_ne (by omega)).trans (h.2.1), (up_ne (by omega)).trans (h.2.2.1), (up_ne (by omega)).trans (h.2.2.2.1), (up_ne (by omega)).trans (h.2.2.2.2.1), up_eq, trivial⟩) (pc' := 64) rfl ?_
  exact T_vret zk_28_64 rfl (fun σ' h => ⟨rfl, h.1, trivial⟩)
/-- W$Boat.launch -/
theorem w_1 {xs : Nat × (Nat → Int32)} (c : Nat) (k : Nat) (p0 : Int) (p1 : Int) (p2 : Int) (p3 : Int) (p4 : Int) (hc : c < 3) (hk : k < 6) (hp0 : 0 ≤ p0 ∧ p0 ≤ 24) (hp1 : -2147483648 ≤ p1 ∧ p1 ≤ 2147483647) (hp2 : -2147483648 ≤ p2 ∧ p2 ≤ 2147483647) (hp3 : -2147483648 ≤ p3 ∧ p3 ≤ 2147483647) (hp4 : -2147483648 ≤ p4 ∧ p4 ≤ 2147483647) (σ : ZS) (hI : Inv σ)   : CT xs 1 1 [av 26 c k, iv p0, iv p1, iv p2, iv p3, iv p4] σ (fun v σ' => v = none ∧ IF (MI c 26 26 26 26) σ σ' ∧ (True)) := by
  refine G_ct (J := (fun σ' => IF (MI c 26 26 26 26) σ σ' ∧ True)) (L := [(0, av 26 c k), (1, iv p0), (2, iv p1), (3, iv p2), (4, iv p3), (5, iv p4)]) (nL := 6) rfl rfl rfl ⟨IF.rf hI, trivial⟩ ?_
  refine T_ld zk_1_0 rfl rfl rfl (pc' := 1) rfl ?_
  refine T_ld zk_1_1 rfl rfl rfl (pc' := 2) rfl ?_
  refine T_putf (J' := (fun σ' => IF (MI c 26 26 26 26) σ σ' ∧ True)) zk_1_2 rfl rfl (vd_26 hc (by omega)) (fun σ' h => ⟨h.1.up (by simp only [rgP] <;> omega) (by unfold MI; omega), trivial⟩) (pc' := 5) rfl ?_
  refine T_ld zk_1_5 rfl rfl rfl (pc' := 6) rfl ?_
  refine T_ld zk_1_6 rfl rfl rfl (pc' := 7) rfl ?_
  refine T_putf (J' := (fun σ' => IF (MI c 26 26 26 26) σ σ' ∧ True)) zk_1_7 rfl rfl (vd_26 hc (by omega)) (fun σ' h => ⟨h.1.up (by simp only [rgP] <;> omega) (by unfold MI; omega), trivial⟩) (pc' := 10) rfl ?_
  refine T_ld zk_1_10 rfl rfl rfl (pc' := 11) rfl ?_
  refine T_ld zk_1_11 rfl rfl rfl (pc' := 12) rfl ?_
  refine T_putf (J' := (fun σ' => IF (MI c 26 26 26 26) σ σ' ∧ True)) zk_1_12 rfl rfl (vd_26 hc (by omega)) (fun σ' h => ⟨h.1.up (by simp only [rgP] <;> omega) (by unfold MI; omega), trivial⟩) (pc' := 15) rfl ?_
  refine T_ld zk_1_15 rfl rfl rfl (pc' := 16) rfl ?_
  refine T_ld zk_1_16 rfl rfl rfl (pc' := 18) rfl ?_
  refine T_putf (J' := (fun σ' => IF (MI c 26 26 26 26) σ σ' ∧ True)) zk_1_18 rfl rfl (vd_26 hc (by omega)) (fun σ' h => ⟨h.1.up (by simp only [rgP] <;> omega) (by unfold MI; omega), trivial⟩) (pc' := 21) rfl ?_
  refine T_ld zk_1_21 rfl rfl rfl (pc' := 22) rfl ?_
  refine T_ld zk_1_22 rfl rfl rfl (pc' := 24) rfl ?_
  refine T_putf (J' := (fun σ' => IF (MI c 26 26 26 26) σ σ' ∧ True)) zk_1_24 rfl rfl (vd_26 hc (by omega)) (fun σ' h => ⟨h.1.up (by simp only [rgP] <;> omega) (by unfold MI; omega), trivial⟩) (pc' := 27) rfl ?_
  refine T_ld zk_1_27 rfl rfl rfl (pc' := 28) rfl ?_
  refine T_op zk_1_28 rfl X_ic (pc' := 29) rfl ?_
  refine T_putf (J' := (fun σ' => IF (MI c 26 26 26 26) σ σ' ∧ True)) zk_1_29 rfl rfl (vd_26 hc (by omega)) (fun σ' h => ⟨h.1.up (by simp only [rgP] <;> omega) (by unfold MI; omega), trivial⟩) (pc' := 32) rfl ?_
  refine T_ld zk_1_32 rfl rfl rfl (pc' := 33) rfl ?_
  refine T_op zk_1_33 rfl X_ic (pc' := 34) rfl ?_
  refine T_putf (J' := (fun σ' => IF (MI c 26 26 26 26) σ σ' ∧ True)) zk_1_34 rfl rfl (vd_26 hc (by omega)) (fun σ' h => ⟨h.1.up (by simp only [rgP] <;> omega) (by unfold MI; omega), trivial⟩) (pc' := 37) rfl ?_
  refine T_ld zk_1_37 rfl rfl rfl (pc' := 38) rfl ?_
  refine T_op zk_1_38 rfl X_ic (pc' := 39) rfl ?_
  refine T_putf (J' := (fun σ' => IF (MI c 26 26 26 26) σ σ' ∧ True)) zk_1_39 rfl rfl (vd_26 hc (by omega)) (fun σ' h => ⟨h.1.up (by simp only [rgP] <;> omega) (by unfold MI; omega), trivial⟩) (pc' := 42) rfl ?_
  refine T_ld zk_1_42 rfl rfl rfl (pc' := 43) rfl ?_
  refine T_op zk_1_43 rfl X_ic (pc' := 44) rfl ?_
  refine T_putf (J' := (fun σ' => IF (MI c 26 26 26 26) σ σ' ∧ True)) zk_1_44 rfl rfl (vd_26 hc (by omega)) (fun σ' h => ⟨h.1.up (by simp only [rgP] <;> omega) (by unfold MI; omega), trivial⟩) (pc' := 47) rfl ?_
  refine T_ld zk_1_47 rfl rfl rfl (pc' := 48) rfl ?_
  refine T_op zk_1_48 rfl X_ic (pc' := 49) rfl ?_
  refine T_putf (J' := (fun σ' => IF (MI c 26 26 26 26) σ σ' ∧ True)) zk_1_49 rfl rfl (vd_26 hc (by omega)) (fun σ' h => ⟨h.1.up (by simp only [rgP] <;> omega) (by unfold MI; omega), trivial⟩) (pc' := 52) rfl ?_
  exact T_vret zk_1_52 rfl (fun σ' h => ⟨rfl, h.1, trivial⟩)
/-- W$Boat.takeBoat -/
theorem w_3 {xs : Nat × (Nat → Int32)} (c : Nat) (k : Nat) (c2 : Nat) (hc : c < 3) (hk : k < 6) (hc2 : c2 < 3) (σ : ZS) (hI : Inv σ)   : CT xs 2 3 [av 26 c k, av 26 c2 k] σ (fun v σ' => v = none ∧ IF (MI c 26 26 26 26) σ σ' ∧ (True)) := by
  refine G_ct (J := (fun σ' => IF (MI c 26 26 26 26) σ σ' ∧ True)) (L := [(0, av 26 c k), (1, av 26 c2 k)]) (nL := 2) rfl rfl rfl ⟨IF.rf hI, trivial⟩ ?_
  refine T_ld zk_3_0 rfl rfl rfl (pc' := 1) rfl ?_
  refine T_ld zk_3_1 rfl rfl rfl (pc' := 2) rfl ?_
  refine G_getf (lo := 0) (hi := 24) zk_3_2 rfl (vd_26 hc2 (by omega)) (fun σ' h => h.1.1) (fun _ h => h.2.1 (by omega) (by omega)) (pc' := 5) rfl (fun y1 hy1 hy1' => ?_)
  refine T_ld zk_3_5 rfl rfl rfl (pc' := 6) rfl ?_
  refine G_getf (lo := -2147483648) (hi := 2147483647) zk_3_6 rfl (vd_26 hc2 (by omega)) (fun σ' h => h.1.1) (fun _ h => (by have q := h.1; omega)) (pc' := 9) rfl (fun y2 hy2 hy2' => ?_)
  refine T_ld zk_3_9 rfl rfl rfl (pc' := 10) rfl ?_
  refine G_getf (lo := -2147483648) (hi := 2147483647) zk_3_10 rfl (vd_26 hc2 (by omega)) (fun σ' h => h.1.1) (fun _ h => (by have q := h.1; omega)) (pc' := 13) rfl (fun y3 hy3 hy3' => ?_)
  refine T_ld zk_3_13 rfl rfl rfl (pc' := 14) rfl ?_
  refine G_getf (lo := -2147483648) (hi := 2147483647) zk_3_14 rfl (vd_26 hc2 (by omega)) (fun σ' h => h.1.1) (fun _ h => (by have q := h.1; omega)) (pc' := 17) rfl (fun y4 hy4 hy4' => ?_)
  refine T_ld zk_3_17 rfl rfl rfl (pc' := 18) rfl ?_
  refine G_getf (lo := -2147483648) (hi := 2147483647) zk_3_18 rfl (vd_26 hc2 (by omega)) (fun σ' h => h.1.1) (fun _ h => (by have q := h.1; omega)) (pc' := 21) rfl (fun y5 hy5 hy5' => ?_)
  refine T_callv (J' := (fun σ' => IF (MI c 26 26 26 26) σ σ' ∧ True)) (r := []) zk_3_21 rfl rfl rfl rfl rfl rfl (Or.inr ⟨_, _, _, _, rfl, (vd_26 hc (by omega)), rfl⟩) (fun σ' h => (w_1 c k y1 y2 y3 y4 y5 hc (by omega) (by omega) (by omega) (by omega) (by omega) (by omega) σ' h.1.1 ).le (Nat.le_of_ble_eq_true rfl) (fun v σ2 ⟨h1, h3, h4⟩ => ⟨h1, h.1.tr h3 (fun _ _ _ _ h => h), trivial⟩)) (pc' := 24) rfl ?_
  refine T_ld zk_3_24 rfl rfl rfl (pc' := 25) rfl ?_
  refine T_ld zk_3_25 rfl rfl rfl (pc' := 26) rfl ?_
  refine G_getf (lo := -1) (hi := 24) zk_3_26 rfl (vd_26 hc2 (by omega)) (fun σ' h => h.1.1) (fun _ h => h.2.2 (by omega) (by omega)) (pc' := 29) rfl (fun y7 hy7 hy7' => ?_)
  refine T_putf (J' := (fun σ' => IF (MI c 26 26 26 26) σ σ' ∧ σ' 26 c k 5 = y7 ∧ True)) zk_3_29 rfl rfl (vd_26 hc (by omega)) (fun σ' h => ⟨h.1.up (by simp only [rgP] <;> omega) (by unfold MI; omega), up_eq, trivial⟩) (pc' := 32) rfl ?_
  refine T_ld zk_3_32 rfl rfl rfl (pc' := 33) rfl ?_
  refine T_ld zk_3_33 rfl rfl rfl (pc' := 34) rfl ?_
  refine G_getf (lo := -2147483648) (hi := 2147483647) zk_3_34 rfl (vd_26 hc2 (by omega)) (fun σ' h => h.1.1) (fun _ h => (by have q := h.1; omega)) (pc' := 37) rfl (fun y8 hy8 hy8' => ?_)
  refine T_putf (J' := (fun σ' => IF (MI c 26 26 26 26) σ σ' ∧ σ' 26 c k 5 = y7 ∧ σ' 26 c k 6 = y8 ∧ True)) zk_3_37 rfl rfl (vd_26 hc (by omega)) (fun σ' h => ⟨h.1.up (by simp only [rgP] <;> omega) (by unfold MI; omega), (up_ne (by omega)).trans (h.2.1), up_eq, trivial⟩) (pc' := 40) rfl ?_
  refine T_ld zk_3_40 rfl rfl rfl (pc' := 41) rfl ?_
  refine T_ld zk_3_41 rfl rfl rfl (pc' := 42) rfl ?_
  refine G_getf (lo := -2147483648) (hi := 2147483647) zk_3_42 rfl (vd_26 hc2 (by omega)) (fun σ' h => h.1.1) (fun _ h => (by have q := h.1; omega)) (pc' := 45) rfl (fun y9 hy9 hy9' => ?_)
  refine T_putf (J' := (fun σ' => IF (MI c 26 26 26 26) σ σ' ∧ σ' 26 c k 5 = y7 ∧ σ' 26 c k 6 = y8 ∧ σ' 26 c k 7 = y9 ∧ True)) zk_3_45 rfl rfl (vd_26 hc (by omega)) (fun σ' h => ⟨h.1.up (by simp only [rgP] <;> omega) (by unfold MI; omega), (up_ne (by omega)).trans (h.2.1), (up_ne (by omega)).trans (h.2.2.1), up_eq, trivial⟩) (pc' := 48) rfl ?_
  refine T_ld zk_3_48 rfl rfl rfl (pc' := 49) rfl ?_
  refine T_ld zk_3_49 rfl rfl rfl (pc' := 50) rfl ?_
  refine G_getf (lo := -2147483648) (hi := 2147483647) zk_3_50 rfl (vd_26 hc2 (by omega)) (fun σ' h => h.1.1) (fun _ h => (by have q := h.1; omega)) (pc' := 53) rfl (fun y10 hy10 hy10' => ?_)
  refine T_putf (J' := (fun σ' => IF (MI c 26 26 26 26) σ σ' ∧ σ' 26 c k 5 = y7 ∧ σ' 26 c k 6 = y8 ∧ σ' 26 c k 7 = y9 ∧ σ' 26 c k 8 = y10 ∧ True)) zk_3_53 rfl rfl (vd_26 hc (by omega)) (fun σ' h => ⟨h.1.up (by simp only [rgP] <;> omega) (by unfold MI; omega), (up_ne (by omega)).trans (h.2.1), (up_ne (by omega)).trans (h.2.2.1), (up_ne (by omega)).trans (h.2.2.2.1), up_eq, trivial⟩) (pc' := 56) rfl ?_
  refine T_ld zk_3_56 rfl rfl rfl (pc' := 57) rfl ?_
  refine T_ld zk_3_57 rfl rfl rfl (pc' := 58) rfl ?_
  refine G_getf (lo := -2147483648) (hi := 2147483647) zk_3_58 rfl (vd_26 hc2 (by omega)) (fun σ' h => h.1.1) (fun _ h => (by have q := h.1; omega)) (pc' := 61) rfl (fun y11 hy11 hy11' => ?_)
  refine T_putf (J' := (fun σ' => IF (MI c 26 26 26 26) σ σ' ∧ σ' 26 c k 5 = y7 ∧ σ' 26 c k 6 = y8 ∧ σ' 26 c k 7 = y9 ∧ σ' 26 c k 8 = y10 ∧ σ' 26 c k 9 = y11 ∧ True)) zk_3_61 rfl rfl (vd_26 hc (by omega)) (fun σ' h => ⟨h.1.up (by simp only [rgP] <;> omega) (by unfold MI; omega), (up_ne (by omega)).trans (h.2.1), (up_ne (by omega)).trans (h.2.2.1), (up_ne (by omega)).trans (h.2.2.2.1), (up_ne (by omega)).trans (h.2.2.2.2.1), up_eq, trivial⟩) (pc' := 64) rfl ?_
  exact T_vret zk_3_64 rfl (fun σ' h => ⟨rfl, h.1, trivial⟩)
/-- W$Law.takeLaw -/
theorem w_46 {xs : Nat × (Nat → Int32)} (c : Nat) (k : Nat) (c2 : Nat) (hc : c < 3) (hk : k < 5) (hc2 : c2 < 3) (σ : ZS) (hI : Inv σ)   : CT xs 1 46 [av 23 c k, av 23 c2 k] σ (fun v σ' => v = none ∧ IF (MI c 23 24 24 24) σ σ' ∧ (True)) := by
  refine G_ct (J := (fun σ' => IF (MI c 23 24 24 24) σ σ' ∧ True)) (L := [(0, av 23 c k), (1, av 23 c2 k)]) (nL := 2) rfl rfl rfl ⟨IF.rf hI, trivial⟩ ?_
  refine T_ld zk_46_0 rfl rfl rfl (pc' := 1) rfl ?_
  refine T_ld zk_46_1 rfl rfl rfl (pc' := 2) rfl ?_
  refine G_getf (lo := -2147483648) (hi := 2147483647) zk_46_2 rfl (vd_23 hc2 (by omega)) (fun σ' h => h.1.1) (fun _ h => (by have q := h.1; omega)) (pc' := 5) rfl (fun y1 hy1 hy1' => ?_)
  refine T_putf (J' := (fun σ' => IF (MI c 23 24 24 24) σ σ' ∧ σ' 23 c k 0 = y1 ∧ True)) zk_46_5 rfl rfl (vd_23 hc (by omega)) (fun σ' h => ⟨h.1.up (by simp only [rgP] <;> omega) (by unfold MI; omega), up_eq, trivial⟩) (pc' := 8) rfl ?_
  refine T_ld zk_46_8 rfl rfl rfl (pc' := 9) rfl ?_
  refine T_ld zk_46_9 rfl rfl rfl (pc' := 10) rfl ?_
  refine G_getf (lo := 0) (hi := 1) zk_46_10 rfl (vd_23 hc2 (by omega)) (fun σ' h => h.1.1) (fun _ h => h.2.2 (by omega) (by omega)) (pc' := 13) rfl (fun y2 hy2 hy2' => ?_)
  refine T_putz (J' := (fun σ' => IF (MI c 23 24 24 24) σ σ' ∧ σ' 23 c k 0 = y1 ∧ σ' 23 c k 1 = y2 ∧ True)) zk_46_13 rfl rfl (by omega) (vd_23 hc (by omega)) (fun σ' h => ⟨h.1.up (by simp only [rgP] <;> omega) (by unfold MI; omega), (up_ne (by omega)).trans (h.2.1), up_eq, trivial⟩) (pc' := 16) rfl ?_
  refine T_ld zk_46_16 rfl rfl rfl (pc' := 17) rfl ?_
  refine T_ld zk_46_17 rfl rfl rfl (pc' := 18) rfl ?_
  refine G_getf (lo := 0) (hi := 96) zk_46_18 rfl (vd_23 hc2 (by omega)) (fun σ' h => h.1.1) (fun _ h => h.2.1 (by omega) (by omega)) (pc' := 21) rfl (fun y3 hy3 hy3' => ?_)
  refine T_putf (J' := (fun σ' => IF (MI c 23 24 24 24) σ σ' ∧ σ' 23 c k 0 = y1 ∧ σ' 23 c k 1 = y2 ∧ σ' 23 c k 2 = y3 ∧ True)) zk_46_21 rfl rfl (vd_23 hc (by omega)) (fun σ' h => ⟨h.1.up (by simp only [rgP] <;> omega) (by unfold MI; omega), (up_ne (by omega)).trans (h.2.1), (up_ne (by omega)).trans (h.2.2.1), up_eq, trivial⟩) (pc' := 24) rfl ?_
  refine T_ld zk_46_24 rfl rfl rfl (pc' := 25) rfl ?_
  refine T_getR (t' := 24) (i' := c2) (k' := k) zk_46_25 rfl rfl rfl (vd_23 hc2 (by omega)) (pc' := 28) rfl ?_
  refine T_op zk_46_28 rfl X_ic (pc' := 29) rfl ?_
  refine T_ld zk_46_29 rfl rfl rfl (pc' := 30) rfl ?_
  refine T_getR (t' := 24) (i' := c) (k' := k) zk_46_30 rfl rfl rfl (vd_23 hc (by omega)) (pc' := 33) rfl ?_
  refine T_op zk_46_33 rfl X_ic (pc' := 34) rfl ?_
  refine T_op zk_46_34 rfl (X_bi (v := 96) (by decide)) (pc' := 36) rfl ?_
  refine G_copy (J' := (fun σ' => IF (MI c 23 24 24 24) σ σ' ∧ σ' 23 c k 0 = y1 ∧ σ' 23 c k 1 = y2 ∧ σ' 23 c k 2 = y3 ∧ True)) (l0 := 96) (l1 := 96) (kk := 12) zk_46_36 rfl rfl (by decide) rfl rfl rfl rfl (vd_24 hc2 (by omega)) (vd_24 hc (by omega)) (by omega) (by omega) (by omega) (by omega) (by omega) (fun σ' h => ⟨h.1.cp (rg_cp0 rfl (fun _ _ h => h) (fun j => h.1.1 24 c2 k j (vd_24 hc2 (by omega))) (fun j => h.1.1 24 c k j (vd_24 hc (by omega)))) (fun j => (by unfold MI; omega)), (congrFun (upr_oth _ _ _ (by omega)) _).trans (h.2.1), (congrFun (upr_oth _ _ _ (by omega)) _).trans (h.2.2.1), (congrFun (upr_oth _ _ _ (by omega)) _).trans (h.2.2.2.1), trivial⟩) (pc' := 39) rfl ?_
  exact T_vret zk_46_39 rfl (fun σ' h => ⟨rfl, h.1, trivial⟩)
/-- W$Law.takeLaw -/
theorem w_46d {xs : Nat × (Nat → Int32)} (k : Nat) (hk : k < 5) (σ : ZS) (hI : Inv σ)   : CT xs 1 46 [av 23 0 k, av 30 0 0] σ (fun v σ' => v = none ∧ IF (MI 0 23 24 24 24) σ σ' ∧ (True)) := by
  refine G_ct (J := (fun σ' => IF (MI 0 23 24 24 24) σ σ' ∧ True)) (L := [(0, av 23 0 k), (1, av 30 0 0)]) (nL := 2) rfl rfl rfl ⟨IF.rf hI, trivial⟩ ?_
  refine T_ld zk_46_0 rfl rfl rfl (pc' := 1) rfl ?_
  refine T_ld zk_46_1 rfl rfl rfl (pc' := 2) rfl ?_
  refine G_getf (lo := -2147483648) (hi := 2147483647) zk_46_2 rfl vd_30 (fun σ' h => h.1.1) (fun _ h => (by have q := h.1; omega)) (pc' := 5) rfl (fun y1 hy1 hy1' => ?_)
  refine T_putf (J' := (fun σ' => IF (MI 0 23 24 24 24) σ σ' ∧ σ' 23 0 k 0 = y1 ∧ True)) zk_46_5 rfl rfl (vd_23 (by omega) (by omega)) (fun σ' h => ⟨h.1.up (by simp only [rgP] <;> omega) (by unfold MI; omega), up_eq, trivial⟩) (pc' := 8) rfl ?_
  refine T_ld zk_46_8 rfl rfl rfl (pc' := 9) rfl ?_
  refine T_ld zk_46_9 rfl rfl rfl (pc' := 10) rfl ?_
  refine G_getf (lo := 0) (hi := 1) zk_46_10 rfl vd_30 (fun σ' h => h.1.1) (fun _ h => h.2.2 (by omega) (by omega)) (pc' := 13) rfl (fun y2 hy2 hy2' => ?_)
  refine T_putz (J' := (fun σ' => IF (MI 0 23 24 24 24) σ σ' ∧ σ' 23 0 k 0 = y1 ∧ σ' 23 0 k 1 = y2 ∧ True)) zk_46_13 rfl rfl (by omega) (vd_23 (by omega) (by omega)) (fun σ' h => ⟨h.1.up (by simp only [rgP] <;> omega) (by unfold MI; omega), (up_ne (by omega)).trans (h.2.1), up_eq, trivial⟩) (pc' := 16) rfl ?_
  refine T_ld zk_46_16 rfl rfl rfl (pc' := 17) rfl ?_
  refine T_ld zk_46_17 rfl rfl rfl (pc' := 18) rfl ?_
  refine G_getf (lo := 0) (hi := 96) zk_46_18 rfl vd_30 (fun σ' h => h.1.1) (fun _ h => h.2.1 (by omega) (by omega)) (pc' := 21) rfl (fun y3 hy3 hy3' => ?_)
  refine T_putf (J' := (fun σ' => IF (MI 0 23 24 24 24) σ σ' ∧ σ' 23 0 k 0 = y1 ∧ σ' 23 0 k 1 = y2 ∧ σ' 23 0 k 2 = y3 ∧ True)) zk_46_21 rfl rfl (vd_23 (by omega) (by omega)) (fun σ' h => ⟨h.1.up (by simp only [rgP] <;> omega) (by unfold MI; omega), (up_ne (by omega)).trans (h.2.1), (up_ne (by omega)).trans (h.2.2.1), up_eq, trivial⟩) (pc' := 24) rfl ?_
  refine T_ld zk_46_24 rfl rfl rfl (pc' := 25) rfl ?_
  refine T_getR (t' := 31) (i' := 0) (k' := 0) zk_46_25 rfl rfl rfl vd_30 (pc' := 28) rfl ?_
  refine T_op zk_46_28 rfl X_ic (pc' := 29) rfl ?_
  refine T_ld zk_46_29 rfl rfl rfl (pc' := 30) rfl ?_
  refine T_getR (t' := 24) (i' := 0) (k' := k) zk_46_30 rfl rfl rfl (vd_23 (by omega) (by omega)) (pc' := 33) rfl ?_
  refine T_op zk_46_33 rfl X_ic (pc' := 34) rfl ?_
  refine T_op zk_46_34 rfl (X_bi (v := 96) (by decide)) (pc' := 36) rfl ?_
  refine G_copy (J' := (fun σ' => IF (MI 0 23 24 24 24) σ σ' ∧ σ' 23 0 k 0 = y1 ∧ σ' 23 0 k 1 = y2 ∧ σ' 23 0 k 2 = y3 ∧ True)) (l0 := 96) (l1 := 96) (kk := 12) zk_46_36 rfl rfl (by decide) rfl rfl rfl rfl vd_31 (vd_24 (by omega) (by omega)) (by omega) (by omega) (by omega) (by omega) (by omega) (fun σ' h => ⟨h.1.cp (rg_cp0 rfl (fun _ _ h => ⟨by have q := h.1; omega, trivial⟩) (fun j => h.1.1 31 0 0 j vd_31) (fun j => h.1.1 24 0 k j (vd_24 (by omega) (by omega)))) (fun j => (by unfold MI; omega)), (congrFun (upr_oth _ _ _ (by omega)) _).trans (h.2.1), (congrFun (upr_oth _ _ _ (by omega)) _).trans (h.2.2.1), (congrFun (upr_oth _ _ _ (by omega)) _).trans (h.2.2.2.1), trivial⟩) (pc' := 39) rfl ?_
  exact T_vret zk_46_39 rfl (fun σ' h => ⟨rfl, h.1, trivial⟩)
theorem sb52_755d97a (v0 : Nat) : ∀ t i k j, MYl v0 t i k j → MY v0 t i k j := by
  intro t i k j h
  unfold MYl at h
  unfold MY
  omega
theorem sb52_1265bc5 (v0 : Nat) : ∀ t i k j, MI v0 11 12 13 13 t i k j → MY v0 t i k j := by
  intro t i k j h
  unfold MI at h
  unfold MY
  omega
theorem sb52_2a16d0b (v0 : Nat) : ∀ t i k j, MYt v0 0 t i k j → MY v0 t i k j := by
  intro t i k j h
  unfold MYt at h
  unfold MY
  omega
theorem sb52_1c6ca29 (v0 : Nat) : ∀ t i k j, MYt v0 1 t i k j → MY v0 t i k j := by
  intro t i k j h
  unfold MYt at h
  unfold MY
  omega
theorem sb52_eeda1f2 (v0 : Nat) : ∀ t i k j, MI v0 26 26 26 26 t i k j → MY v0 t i k j := by
  intro t i k j h
  unfold MI at h
  unfold MY
  omega
theorem sb52_5be2585 (v0 : Nat) : ∀ t i k j, MI v0 25 25 25 25 t i k j → MY v0 t i k j := by
  intro t i k j h
  unfold MI at h
  unfold MY
  omega
theorem sb52_2353c31 (v0 : Nat) : ∀ t i k j, MI v0 23 24 24 24 t i k j → MY v0 t i k j := by
  intro t i k j h
  unfold MI at h
  unfold MY
  omega
/-- W$City.takeCity -/
theorem w_22 {xs : Nat × (Nat → Int32)} (c : Nat) (c2 : Nat) (hc : c < 3) (hc2 : c2 < 3) (σ : ZS) (hI : Inv σ)   : CT xs 3 22 [av 1 c 0, av 1 c2 0] σ (fun v σ' => v = none ∧ IF (MY c) σ σ' ∧ (True)) := by
  refine G_ct (J := (fun σ' => IF (MY c) σ σ' ∧ True)) (L := [(0, av 1 c 0), (1, av 1 c2 0)]) (nL := 3) rfl rfl rfl ⟨IF.rf hI, trivial⟩ ?_
  refine T_ld zk_22_0 rfl rfl rfl (pc' := 1) rfl ?_
  refine T_getR (t' := 2) (i' := c) (k' := 0) zk_22_1 rfl rfl rfl (vd_1 hc) (pc' := 4) rfl ?_
  refine T_ld zk_22_4 rfl rfl rfl (pc' := 5) rfl ?_
  refine T_getR (t' := 2) (i' := c2) (k' := 0) zk_22_5 rfl rfl rfl (vd_1 hc2) (pc' := 8) rfl ?_
  refine T_callv (J' := (fun σ' => IF (MY c) σ σ' ∧ True)) (r := []) zk_22_8 rfl rfl rfl rfl rfl rfl (Or.inr ⟨_, _, _, _, rfl, (vd_2 hc), rfl⟩) (fun σ' h => (w_39 c c2 hc hc2 σ' h.1.1 ).le (Nat.le_of_ble_eq_true rfl) (fun v σ2 ⟨h1, h3, h4⟩ => ⟨h1, h.1.tr h3 (sb52_755d97a c), trivial⟩)) (pc' := 11) rfl ?_
  refine T_ld zk_22_11 rfl rfl rfl (pc' := 12) rfl ?_
  refine T_getR (t' := 11) (i' := c) (k' := 0) zk_22_12 rfl rfl rfl (vd_1 hc) (pc' := 15) rfl ?_
  refine T_ld zk_22_15 rfl rfl rfl (pc' := 16) rfl ?_
  refine T_getR (t' := 11) (i' := c2) (k' := 0) zk_22_16 rfl rfl rfl (vd_1 hc2) (pc' := 19) rfl ?_
  refine T_callv (J' := (fun σ' => IF (MY c) σ σ' ∧ True)) (r := []) zk_22_19 rfl rfl rfl rfl rfl rfl (Or.inr ⟨_, _, _, _, rfl, (vd_11 hc), rfl⟩) (fun σ' h => (w_64 c c2 hc hc2 σ' h.1.1 ).le (Nat.le_of_ble_eq_true rfl) (fun v σ2 ⟨h1, h3, h4⟩ => ⟨h1, h.1.tr h3 (sb52_1265bc5 c), trivial⟩)) (pc' := 22) rfl ?_
  refine T_ld zk_22_22 rfl rfl rfl (pc' := 23) rfl ?_
  refine T_getR (t' := 17) (i' := c) (k' := 0) zk_22_23 rfl rfl rfl (vd_1 hc) (pc' := 26) rfl ?_
  refine T_ld zk_22_26 rfl rfl rfl (pc' := 27) rfl ?_
  refine T_getR (t' := 17) (i' := c2) (k' := 0) zk_22_27 rfl rfl rfl (vd_1 hc2) (pc' := 30) rfl ?_
  refine T_callv (J' := (fun σ' => IF (MY c) σ σ' ∧ True)) (r := []) zk_22_30 rfl rfl rfl rfl rfl rfl (Or.inr ⟨_, _, _, _, rfl, (vd_17 hc (by omega)), rfl⟩) (fun σ' h => (w_72 c 0 c2 hc (by omega) hc2 σ' h.1.1 ).le (Nat.le_of_ble_eq_true rfl) (fun v σ2 ⟨h1, h3, h4⟩ => ⟨h1, h.1.tr h3 (sb52_2a16d0b c), trivial⟩)) (pc' := 33) rfl ?_
  refine T_ld zk_22_33 rfl rfl rfl (pc' := 34) rfl ?_
  refine T_getR (t' := 17) (i' := c) (k' := 1) zk_22_34 rfl rfl rfl (vd_1 hc) (pc' := 37) rfl ?_
  refine T_ld zk_22_37 rfl rfl rfl (pc' := 38) rfl ?_
  refine T_getR (t' := 17) (i' := c2) (k' := 1) zk_22_38 rfl rfl rfl (vd_1 hc2) (pc' := 41) rfl ?_
  refine T_callv (J' := (fun σ' => IF (MY c) σ σ' ∧ True)) (r := []) zk_22_41 rfl rfl rfl rfl rfl rfl (Or.inr ⟨_, _, _, _, rfl, (vd_17 hc (by omega)), rfl⟩) (fun σ' h => (w_72 c 1 c2 hc (by omega) hc2 σ' h.1.1 ).le (Nat.le_of_ble_eq_true rfl) (fun v σ2 ⟨h1, h3, h4⟩ => ⟨h1, h.1.tr h3 (sb52_1c6ca29 c), trivial⟩)) (pc' := 44) rfl ?_
  refine T_ld zk_22_44 rfl rfl rfl (pc' := 45) rfl ?_
  refine T_ld zk_22_45 rfl rfl rfl (pc' := 46) rfl ?_
  refine G_getf (lo := 0) (hi := 5) zk_22_46 rfl (vd_1 hc2) (fun σ' h => h.1.1) (fun _ h => h.2.1 (by omega) (by omega)) (pc' := 49) rfl (fun y5 hy5 hy5' => ?_)
  refine T_putf (J' := (fun σ' => IF (MY c) σ σ' ∧ σ' 1 c 0 5 = y5 ∧ True)) zk_22_49 rfl rfl (vd_1 hc) (fun σ' h => ⟨h.1.up (by simp only [rgP] <;> omega) (by unfold MY; omega), up_eq, trivial⟩) (pc' := 52) rfl ?_
  refine T_op zk_22_52 rfl X_ic (pc' := 53) rfl ?_
  refine T_st (L' := [(0, av 1 c 0), (1, av 1 c2 0), (2, iv 0)]) zk_22_53 (nL := 3) rfl rfl rfl rfl rfl (pc' := 54) rfl ?_
  refine G_know (J' := (fun σ' => IF (MY c) σ σ' ∧ True)) (fun σ' h => ⟨h.1, trivial⟩) ?_
  refine T_loop1 (fun x6 => ((5 - x6 : Int)).toNat) (fun x6 => (0 ≤ x6 ∧ x6 ≤ 5)) (fun x6 => TJ xs (fun σ' => IF (MY c) σ σ' ∧ True) 2 22 54 [(0, av 1 c 0), (1, av 1 c2 0), (2, iv x6)] [] _) ?_ 0 (by omega)
  intro x6 hp8 ih7
  refine T_ld zk_22_54 rfl rfl rfl (pc' := 55) rfl ?_
  refine T_ld zk_22_55 rfl rfl rfl (pc' := 56) rfl ?_
  refine G_getf (lo := 0) (hi := 5) zk_22_56 rfl (vd_1 hc) (fun σ' h => h.1.1) (fun _ h => h.2.1 (by omega) (by omega)) (pc' := 59) rfl (fun y9 hy9 hy9' => ?_)
  refine T_icmp_ge zk_22_59 (by omega) (by omega) (pc' := 62) rfl (fun h10 => ?_) (fun h11 => ?_)
  ·
    refine T_ld zk_22_83 rfl rfl rfl (pc' := 84) rfl ?_
    refine T_ld zk_22_84 rfl rfl rfl (pc' := 85) rfl ?_
    refine G_getf (lo := 0) (hi := 12) zk_22_85 rfl (vd_1 hc2) (fun σ' h => h.1.1) (fun _ h => h.2.2.1 (by omega) (by omega)) (pc' := 88) rfl (fun y12 hy12 hy12' => ?_)
    refine T_putf (J' := (fun σ' => IF (MY c) σ σ' ∧ σ' 1 c 0 6 = y12 ∧ True)) zk_22_88 rfl rfl (vd_1 hc) (fun σ' h => ⟨h.1.up (by simp only [rgP] <;> omega) (by unfold MY; omega), up_eq, trivial⟩) (pc' := 91) rfl ?_
    refine T_op zk_22_91 rfl X_ic (pc' := 92) rfl ?_
    refine T_st (L' := [(0, av 1 c 0), (1, av 1 c2 0), (2, iv 0)]) zk_22_92 (nL := 3) rfl rfl rfl rfl rfl (pc' := 93) rfl ?_
    refine G_know (J' := (fun σ' => IF (MY c) σ σ' ∧ True)) (fun σ' h => ⟨h.1, trivial⟩) ?_
    refine T_loop1 (fun x13 => ((12 - x13 : Int)).toNat) (fun x13 => (0 ≤ x13 ∧ x13 ≤ 12)) (fun x13 => TJ xs (fun σ' => IF (MY c) σ σ' ∧ True) 2 22 93 [(0, av 1 c 0), (1, av 1 c2 0), (2, iv x13)] [] _) ?_ 0 (by omega)
    intro x13 hp15 ih14
    refine T_ld zk_22_93 rfl rfl rfl (pc' := 94) rfl ?_
    refine T_ld zk_22_94 rfl rfl rfl (pc' := 95) rfl ?_
    refine G_getf (lo := 0) (hi := 12) zk_22_95 rfl (vd_1 hc) (fun σ' h => h.1.1) (fun _ h => h.2.2.1 (by omega) (by omega)) (pc' := 98) rfl (fun y16 hy16 hy16' => ?_)
    refine T_icmp_ge zk_22_98 (by omega) (by omega) (pc' := 101) rfl (fun h17 => ?_) (fun h18 => ?_)
    ·
      refine T_ld zk_22_122 rfl rfl rfl (pc' := 123) rfl ?_
      refine T_ld zk_22_123 rfl rfl rfl (pc' := 124) rfl ?_
      refine G_getf (lo := 0) (hi := 6) zk_22_124 rfl (vd_1 hc2) (fun σ' h => h.1.1) (fun _ h => h.2.2.2.1 (by omega) (by omega)) (pc' := 127) rfl (fun y19 hy19 hy19' => ?_)
      refine T_putf (J' := (fun σ' => IF (MY c) σ σ' ∧ σ' 1 c 0 7 = y19 ∧ True)) zk_22_127 rfl rfl (vd_1 hc) (fun σ' h => ⟨h.1.up (by simp only [rgP] <;> omega) (by unfold MY; omega), up_eq, trivial⟩) (pc' := 130) rfl ?_
      refine T_op zk_22_130 rfl X_ic (pc' := 131) rfl ?_
      refine T_st (L' := [(0, av 1 c 0), (1, av 1 c2 0), (2, iv 0)]) zk_22_131 (nL := 3) rfl rfl rfl rfl rfl (pc' := 132) rfl ?_
      refine G_know (J' := (fun σ' => IF (MY c) σ σ' ∧ True)) (fun σ' h => ⟨h.1, trivial⟩) ?_
      refine T_loop1 (fun x20 => ((6 - x20 : Int)).toNat) (fun x20 => (0 ≤ x20 ∧ x20 ≤ 6)) (fun x20 => TJ xs (fun σ' => IF (MY c) σ σ' ∧ True) 2 22 132 [(0, av 1 c 0), (1, av 1 c2 0), (2, iv x20)] [] _) ?_ 0 (by omega)
      intro x20 hp22 ih21
      refine T_ld zk_22_132 rfl rfl rfl (pc' := 133) rfl ?_
      refine T_ld zk_22_133 rfl rfl rfl (pc' := 134) rfl ?_
      refine G_getf (lo := 0) (hi := 6) zk_22_134 rfl (vd_1 hc) (fun σ' h => h.1.1) (fun _ h => h.2.2.2.1 (by omega) (by omega)) (pc' := 137) rfl (fun y23 hy23 hy23' => ?_)
      refine T_icmp_ge zk_22_137 (by omega) (by omega) (pc' := 140) rfl (fun h24 => ?_) (fun h25 => ?_)
      ·
        refine T_ld zk_22_161 rfl rfl rfl (pc' := 162) rfl ?_
        refine T_ld zk_22_162 rfl rfl rfl (pc' := 163) rfl ?_
        refine G_getf (lo := 0) (hi := 99) zk_22_163 rfl (vd_1 hc2) (fun σ' h => h.1.1) (fun _ h => h.2.2.2.2.1 (by omega) (by omega)) (pc' := 166) rfl (fun y26 hy26 hy26' => ?_)
        refine T_putf (J' := (fun σ' => IF (MY c) σ σ' ∧ σ' 1 c 0 10 = y26 ∧ True)) zk_22_166 rfl rfl (vd_1 hc) (fun σ' h => ⟨h.1.up (by simp only [rgP] <;> omega) (by unfold MY; omega), up_eq, trivial⟩) (pc' := 169) rfl ?_
        refine T_ld zk_22_169 rfl rfl rfl (pc' := 170) rfl ?_
        refine T_ld zk_22_170 rfl rfl rfl (pc' := 171) rfl ?_
        refine G_getf (lo := 1) (hi := 9) zk_22_171 rfl (vd_1 hc2) (fun σ' h => h.1.1) (fun _ h => h.2.2.2.2.2.1 (by omega) (by omega)) (pc' := 174) rfl (fun y27 hy27 hy27' => ?_)
        refine T_putf (J' := (fun σ' => IF (MY c) σ σ' ∧ σ' 1 c 0 10 = y26 ∧ σ' 1 c 0 11 = y27 ∧ True)) zk_22_174 rfl rfl (vd_1 hc) (fun σ' h => ⟨h.1.up (by simp only [rgP] <;> omega) (by unfold MY; omega), (up_ne (by omega)).trans (h.2.1), up_eq, trivial⟩) (pc' := 177) rfl ?_
        refine T_ld zk_22_177 rfl rfl rfl (pc' := 178) rfl ?_
        refine T_ld zk_22_178 rfl rfl rfl (pc' := 179) rfl ?_
        refine G_getf (lo := 0) (hi := 9999) zk_22_179 rfl (vd_1 hc2) (fun σ' h => h.1.1) (fun _ h => h.2.2.2.2.2.2 (by omega) (by omega)) (pc' := 182) rfl (fun y28 hy28 hy28' => ?_)
        refine T_putf (J' := (fun σ' => IF (MY c) σ σ' ∧ σ' 1 c 0 10 = y26 ∧ σ' 1 c 0 11 = y27 ∧ σ' 1 c 0 12 = y28 ∧ True)) zk_22_182 rfl rfl (vd_1 hc) (fun σ' h => ⟨h.1.up (by simp only [rgP] <;> omega) (by unfold MY; omega), (up_ne (by omega)).trans (h.2.1), (up_ne (by omega)).trans (h.2.2.1), up_eq, trivial⟩) (pc' := 185) rfl ?_
        refine T_ld zk_22_185 rfl rfl rfl (pc' := 186) rfl ?_
        refine T_ld zk_22_186 rfl rfl rfl (pc' := 187) rfl ?_
        refine G_getf (lo := -2147483648) (hi := 2147483647) zk_22_187 rfl (vd_1 hc2) (fun σ' h => h.1.1) (fun _ h => (by have q := h.1; omega)) (pc' := 190) rfl (fun y29 hy29 hy29' => ?_)
        refine T_putf (J' := (fun σ' => IF (MY c) σ σ' ∧ σ' 1 c 0 10 = y26 ∧ σ' 1 c 0 11 = y27 ∧ σ' 1 c 0 12 = y28 ∧ σ' 1 c 0 13 = y29 ∧ True)) zk_22_190 rfl rfl (vd_1 hc) (fun σ' h => ⟨h.1.up (by simp only [rgP] <;> omega) (by unfold MY; omega), (up_ne (by omega)).trans (h.2.1), (up_ne (by omega)).trans (h.2.2.1), (up_ne (by omega)).trans (h.2.2.2.1), up_eq, trivial⟩) (pc' := 193) rfl ?_
        refine T_ld zk_22_193 rfl rfl rfl (pc' := 194) rfl ?_
        refine T_ld zk_22_194 rfl rfl rfl (pc' := 195) rfl ?_
        refine G_getf (lo := -2147483648) (hi := 2147483647) zk_22_195 rfl (vd_1 hc2) (fun σ' h => h.1.1) (fun _ h => (by have q := h.1; omega)) (pc' := 198) rfl (fun y30 hy30 hy30' => ?_)
        refine T_putf (J' := (fun σ' => IF (MY c) σ σ' ∧ σ' 1 c 0 10 = y26 ∧ σ' 1 c 0 11 = y27 ∧ σ' 1 c 0 12 = y28 ∧ σ' 1 c 0 13 = y29 ∧ σ' 1 c 0 14 = y30 ∧ True)) zk_22_198 rfl rfl (vd_1 hc) (fun σ' h => ⟨h.1.up (by simp only [rgP] <;> omega) (by unfold MY; omega), (up_ne (by omega)).trans (h.2.1), (up_ne (by omega)).trans (h.2.2.1), (up_ne (by omega)).trans (h.2.2.2.1), (up_ne (by omega)).trans (h.2.2.2.2.1), up_eq, trivial⟩) (pc' := 201) rfl ?_
        refine T_ld zk_22_201 rfl rfl rfl (pc' := 202) rfl ?_
        refine T_ld zk_22_202 rfl rfl rfl (pc' := 203) rfl ?_
        refine G_getf (lo := -2147483648) (hi := 2147483647) zk_22_203 rfl (vd_1 hc2) (fun σ' h => h.1.1) (fun _ h => (by have q := h.1; omega)) (pc' := 206) rfl (fun y31 hy31 hy31' => ?_)
        refine T_putf (J' := (fun σ' => IF (MY c) σ σ' ∧ σ' 1 c 0 10 = y26 ∧ σ' 1 c 0 11 = y27 ∧ σ' 1 c 0 12 = y28 ∧ σ' 1 c 0 13 = y29 ∧ σ' 1 c 0 14 = y30 ∧ σ' 1 c 0 15 = y31 ∧ True)) zk_22_206 rfl rfl (vd_1 hc) (fun σ' h => ⟨h.1.up (by simp only [rgP] <;> omega) (by unfold MY; omega), (up_ne (by omega)).trans (h.2.1), (up_ne (by omega)).trans (h.2.2.1), (up_ne (by omega)).trans (h.2.2.2.1), (up_ne (by omega)).trans (h.2.2.2.2.1), (up_ne (by omega)).trans (h.2.2.2.2.2.1), up_eq, trivial⟩) (pc' := 209) rfl ?_
        refine T_ld zk_22_209 rfl rfl rfl (pc' := 210) rfl ?_
        refine T_ld zk_22_210 rfl rfl rfl (pc' := 211) rfl ?_
        refine G_getf (lo := -2147483648) (hi := 2147483647) zk_22_211 rfl (vd_1 hc2) (fun σ' h => h.1.1) (fun _ h => (by have q := h.1; omega)) (pc' := 214) rfl (fun y32 hy32 hy32' => ?_)
        refine T_putf (J' := (fun σ' => IF (MY c) σ σ' ∧ σ' 1 c 0 10 = y26 ∧ σ' 1 c 0 11 = y27 ∧ σ' 1 c 0 12 = y28 ∧ σ' 1 c 0 13 = y29 ∧ σ' 1 c 0 14 = y30 ∧ σ' 1 c 0 15 = y31 ∧ σ' 1 c 0 16 = y32 ∧ True)) zk_22_214 rfl rfl (vd_1 hc) (fun σ' h => ⟨h.1.up (by simp only [rgP] <;> omega) (by unfold MY; omega), (up_ne (by omega)).trans (h.2.1), (up_ne (by omega)).trans (h.2.2.1), (up_ne (by omega)).trans (h.2.2.2.1), (up_ne (by omega)).trans (h.2.2.2.2.1), (up_ne (by omega)).trans (h.2.2.2.2.2.1), (up_ne (by omega)).trans (h.2.2.2.2.2.2.1), up_eq, trivial⟩) (pc' := 217) rfl ?_
        exact T_vret zk_22_217 rfl (fun σ' h => ⟨rfl, h.1, trivial⟩)
      ·
        refine T_ld zk_22_140 rfl rfl rfl (pc' := 141) rfl ?_
        refine T_getR (t' := 16) (i' := c) (k' := 0) zk_22_141 rfl rfl rfl (vd_1 hc) (pc' := 144) rfl ?_
        refine T_ld zk_22_144 rfl rfl rfl (pc' := 145) rfl ?_
        refine G_aald (t' := 26) (im := 9) (i' := c) (ln := 6) zk_22_145 rfl rfl rfl (vd_16 hc) (by omega) (by omega) (by omega) (pc' := 146) rfl ?_
        refine T_ld zk_22_146 rfl rfl rfl (pc' := 147) rfl ?_
        refine T_getR (t' := 16) (i' := c2) (k' := 0) zk_22_147 rfl rfl rfl (vd_1 hc2) (pc' := 150) rfl ?_
        refine T_ld zk_22_150 rfl rfl rfl (pc' := 151) rfl ?_
        refine G_aald (t' := 26) (im := 9) (i' := c2) (ln := 6) zk_22_151 rfl rfl rfl (vd_16 hc2) (by omega) (by omega) (by omega) (pc' := 152) rfl ?_
        refine T_callv (J' := (fun σ' => IF (MY c) σ σ' ∧ True)) (r := []) zk_22_152 rfl rfl rfl rfl rfl rfl (Or.inr ⟨_, _, _, _, rfl, (vd_26 hc (by omega)), rfl⟩) (fun σ' h => (w_3 c (Int.toNat x20) c2 hc (by omega) hc2 σ' h.1.1 ).le (Nat.le_of_ble_eq_true rfl) (fun v σ2 ⟨h1, h3, h4⟩ => ⟨h1, h.1.tr h3 (sb52_eeda1f2 c), trivial⟩)) (pc' := 155) rfl ?_
        refine T_iinc (L' := [(0, av 1 c 0), (1, av 1 c2 0), (2, iv (x20 + 1))]) zk_22_155 (nL := 3) rfl rfl rfl rfl (pc' := 158) rfl ?_
        refine T_goto zk_22_158 ?_
        exact ih21 (x20 + 1) (by omega) (by omega)
    ·
      refine T_ld zk_22_101 rfl rfl rfl (pc' := 102) rfl ?_
      refine T_getR (t' := 15) (i' := c) (k' := 0) zk_22_102 rfl rfl rfl (vd_1 hc) (pc' := 105) rfl ?_
      refine T_ld zk_22_105 rfl rfl rfl (pc' := 106) rfl ?_
      refine G_aald (t' := 25) (im := 9) (i' := c) (ln := 12) zk_22_106 rfl rfl rfl (vd_15 hc) (by omega) (by omega) (by omega) (pc' := 107) rfl ?_
      refine T_ld zk_22_107 rfl rfl rfl (pc' := 108) rfl ?_
      refine T_getR (t' := 15) (i' := c2) (k' := 0) zk_22_108 rfl rfl rfl (vd_1 hc2) (pc' := 111) rfl ?_
      refine T_ld zk_22_111 rfl rfl rfl (pc' := 112) rfl ?_
      refine G_aald (t' := 25) (im := 9) (i' := c2) (ln := 12) zk_22_112 rfl rfl rfl (vd_15 hc2) (by omega) (by omega) (by omega) (pc' := 113) rfl ?_
      refine T_callv (J' := (fun σ' => IF (MY c) σ σ' ∧ True)) (r := []) zk_22_113 rfl rfl rfl rfl rfl rfl (Or.inr ⟨_, _, _, _, rfl, (vd_25 hc (by omega)), rfl⟩) (fun σ' h => (w_28 c (Int.toNat x13) c2 hc (by omega) hc2 σ' h.1.1 ).le (Nat.le_of_ble_eq_true rfl) (fun v σ2 ⟨h1, h3, h4⟩ => ⟨h1, h.1.tr h3 (sb52_5be2585 c), trivial⟩)) (pc' := 116) rfl ?_
      refine T_iinc (L' := [(0, av 1 c 0), (1, av 1 c2 0), (2, iv (x13 + 1))]) zk_22_116 (nL := 3) rfl rfl rfl rfl (pc' := 119) rfl ?_
      refine T_goto zk_22_119 ?_
      exact ih14 (x13 + 1) (by omega) (by omega)
  ·
    refine T_ld zk_22_62 rfl rfl rfl (pc' := 63) rfl ?_
    refine T_getR (t' := 14) (i' := c) (k' := 0) zk_22_63 rfl rfl rfl (vd_1 hc) (pc' := 66) rfl ?_
    refine T_ld zk_22_66 rfl rfl rfl (pc' := 67) rfl ?_
    refine G_aald (t' := 23) (im := 9) (i' := c) (ln := 5) zk_22_67 rfl rfl rfl (vd_14 hc) (by omega) (by omega) (by omega) (pc' := 68) rfl ?_
    refine T_ld zk_22_68 rfl rfl rfl (pc' := 69) rfl ?_
    refine T_getR (t' := 14) (i' := c2) (k' := 0) zk_22_69 rfl rfl rfl (vd_1 hc2) (pc' := 72) rfl ?_
    refine T_ld zk_22_72 rfl rfl rfl (pc' := 73) rfl ?_
    refine G_aald (t' := 23) (im := 9) (i' := c2) (ln := 5) zk_22_73 rfl rfl rfl (vd_14 hc2) (by omega) (by omega) (by omega) (pc' := 74) rfl ?_
    refine T_callv (J' := (fun σ' => IF (MY c) σ σ' ∧ True)) (r := []) zk_22_74 rfl rfl rfl rfl rfl rfl (Or.inr ⟨_, _, _, _, rfl, (vd_23 hc (by omega)), rfl⟩) (fun σ' h => (w_46 c (Int.toNat x6) c2 hc (by omega) hc2 σ' h.1.1 ).le (Nat.le_of_ble_eq_true rfl) (fun v σ2 ⟨h1, h3, h4⟩ => ⟨h1, h.1.tr h3 (sb52_2353c31 c), trivial⟩)) (pc' := 77) rfl ?_
    refine T_iinc (L' := [(0, av 1 c 0), (1, av 1 c2 0), (2, iv (x6 + 1))]) zk_22_77 (nL := 3) rfl rfl rfl rfl (pc' := 80) rfl ?_
    refine T_goto zk_22_80 ?_
    exact ih7 (x6 + 1) (by omega) (by omega)
/-- W$House.tell -/
theorem w_27 {xs : Nat × (Nat → Int32)} (k : Nat) (p0 : Int) (hk : k < 12) (hp0 : -2147483648 ≤ p0 ∧ p0 ≤ 2147483647) (σ : ZS) (hI : Inv σ)   : CT xs 1 27 [av 25 0 k, iv p0] σ (fun v σ' => ∃ y, v = some (iv y) ∧ (-2147483648 ≤ y ∧ y ≤ 2147483647) ∧ IF MN σ σ' ∧ (True)) := by
  refine G_ct (J := (fun σ' => IF MN σ σ' ∧ True)) (L := [(0, av 25 0 k), (1, iv p0)]) (nL := 2) rfl rfl rfl ⟨IF.rf hI, trivial⟩ ?_
  refine T_ld zk_27_0 rfl rfl rfl (pc' := 1) rfl ?_
  by_cases h1 : p0 = 0
  · subst h1
    refine T_br (t := 48) zk_27_1 rfl rfl rfl (fun _ => rfl) rfl ?_
    refine T_ld zk_27_48 rfl rfl rfl (pc' := 49) rfl ?_
    refine G_getf (lo := -2147483648) (hi := 2147483647) zk_27_49 rfl (vd_25 (by omega) (by omega)) (fun σ' h => h.1.1) (fun _ h => (by have q := h.1; omega)) (pc' := 52) rfl (fun y2 hy2 hy2' => ?_)
    exact T_iret zk_27_52 rfl (fun σ' h => ⟨_, rfl, (by omega), h.1, trivial⟩)
  by_cases h3 : p0 = 1
  · subst h3
    refine T_br (t := 53) zk_27_1 rfl rfl rfl (fun _ => rfl) rfl ?_
    refine T_ld zk_27_53 rfl rfl rfl (pc' := 54) rfl ?_
    refine G_getf (lo := 0) (hi := 24) zk_27_54 rfl (vd_25 (by omega) (by omega)) (fun σ' h => h.1.1) (fun _ h => h.2.1 (by omega) (by omega)) (pc' := 57) rfl (fun y4 hy4 hy4' => ?_)
    exact T_iret zk_27_57 rfl (fun σ' h => ⟨_, rfl, (by omega), h.1, trivial⟩)
  by_cases h5 : p0 = 2
  · subst h5
    refine T_br (t := 58) zk_27_1 rfl rfl rfl (fun _ => rfl) rfl ?_
    refine T_ld zk_27_58 rfl rfl rfl (pc' := 59) rfl ?_
    refine G_getf (lo := -2147483648) (hi := 2147483647) zk_27_59 rfl (vd_25 (by omega) (by omega)) (fun σ' h => h.1.1) (fun _ h => (by have q := h.1; omega)) (pc' := 62) rfl (fun y6 hy6 hy6' => ?_)
    exact T_iret zk_27_62 rfl (fun σ' h => ⟨_, rfl, (by omega), h.1, trivial⟩)
  by_cases h7 : p0 = 3
  · subst h7
    refine T_br (t := 63) zk_27_1 rfl rfl rfl (fun _ => rfl) rfl ?_
    refine T_ld zk_27_63 rfl rfl rfl (pc' := 64) rfl ?_
    refine G_getf (lo := -2147483648) (hi := 2147483647) zk_27_64 rfl (vd_25 (by omega) (by omega)) (fun σ' h => h.1.1) (fun _ h => (by have q := h.1; omega)) (pc' := 67) rfl (fun y8 hy8 hy8' => ?_)
    exact T_iret zk_27_67 rfl (fun σ' h => ⟨_, rfl, (by omega), h.1, trivial⟩)
  by_cases h9 : p0 = 4
  · subst h9
    refine T_br (t := 68) zk_27_1 rfl rfl rfl (fun _ => rfl) rfl ?_
    refine T_ld zk_27_68 rfl rfl rfl (pc' := 69) rfl ?_
    refine G_getf (lo := -2147483648) (hi := 2147483647) zk_27_69 rfl (vd_25 (by omega) (by omega)) (fun σ' h => h.1.1) (fun _ h => (by have q := h.1; omega)) (pc' := 72) rfl (fun y10 hy10 hy10' => ?_)
    exact T_iret zk_27_72 rfl (fun σ' h => ⟨_, rfl, (by omega), h.1, trivial⟩)
  by_cases h11 : p0 = 5
  · subst h11
    refine T_br (t := 73) zk_27_1 rfl rfl rfl (fun _ => rfl) rfl ?_
    refine T_ld zk_27_73 rfl rfl rfl (pc' := 74) rfl ?_
    refine G_getf (lo := -2147483648) (hi := 2147483647) zk_27_74 rfl (vd_25 (by omega) (by omega)) (fun σ' h => h.1.1) (fun _ h => (by have q := h.1; omega)) (pc' := 77) rfl (fun y12 hy12 hy12' => ?_)
    exact T_iret zk_27_77 rfl (fun σ' h => ⟨_, rfl, (by omega), h.1, trivial⟩)
  by_cases h13 : p0 = 6
  · subst h13
    refine T_br (t := 78) zk_27_1 rfl rfl rfl (fun _ => rfl) rfl ?_
    refine T_ld zk_27_78 rfl rfl rfl (pc' := 79) rfl ?_
    refine G_getf (lo := -2147483648) (hi := 2147483647) zk_27_79 rfl (vd_25 (by omega) (by omega)) (fun σ' h => h.1.1) (fun _ h => (by have q := h.1; omega)) (pc' := 82) rfl (fun y14 hy14 hy14' => ?_)
    exact T_iret zk_27_82 rfl (fun σ' h => ⟨_, rfl, (by omega), h.1, trivial⟩)
  by_cases h15 : p0 = 7
  · subst h15
    refine T_br (t := 83) zk_27_1 rfl rfl rfl (fun _ => rfl) rfl ?_
    refine T_ld zk_27_83 rfl rfl rfl (pc' := 84) rfl ?_
    refine G_getf (lo := 0) (hi := 1) zk_27_84 rfl (vd_25 (by omega) (by omega)) (fun σ' h => h.1.1) (fun _ h => h.2.2 (by omega) (by omega)) (pc' := 87) rfl (fun y16 hy16 hy16' => ?_)
    refine T_if_eq zk_27_87 (by omega) (pc' := 90) rfl (fun h17 => ?_) (fun h18 => ?_)
    ·
      refine T_op zk_27_94 rfl X_ic (pc' := 95) rfl ?_
      exact T_iret zk_27_95 rfl (fun σ' h => ⟨_, rfl, (by omega), h.1, trivial⟩)
    ·
      refine T_op zk_27_90 rfl X_ic (pc' := 91) rfl ?_
      refine T_goto zk_27_91 ?_
      exact T_iret zk_27_95 rfl (fun σ' h => ⟨_, rfl, (by omega), h.1, trivial⟩)
  refine T_tso (t := 96) zk_27_1 (by omega) (by omega) (by omega) ?_
  refine T_op zk_27_96 rfl X_ic (pc' := 97) rfl ?_
  exact T_iret zk_27_97 rfl (fun σ' h => ⟨_, rfl, (by omega), h.1, trivial⟩)
/-- W$Boat.tell -/
theorem w_2 {xs : Nat × (Nat → Int32)} (k : Nat) (p0 : Int) (hk : k < 6) (hp0 : -2147483648 ≤ p0 ∧ p0 ≤ 2147483647) (σ : ZS) (hI : Inv σ)   : CT xs 1 2 [av 26 0 k, iv p0] σ (fun v σ' => ∃ y, v = some (iv y) ∧ (-2147483648 ≤ y ∧ y ≤ 2147483647) ∧ IF MN σ σ' ∧ (True)) := by
  refine G_ct (J := (fun σ' => IF MN σ σ' ∧ True)) (L := [(0, av 26 0 k), (1, iv p0)]) (nL := 2) rfl rfl rfl ⟨IF.rf hI, trivial⟩ ?_
  refine T_ld zk_2_0 rfl rfl rfl (pc' := 1) rfl ?_
  by_cases h1 : p0 = 0
  · subst h1
    refine T_br (t := 40) zk_2_1 rfl rfl rfl (fun _ => rfl) rfl ?_
    refine T_ld zk_2_40 rfl rfl rfl (pc' := 41) rfl ?_
    refine G_getf (lo := 0) (hi := 24) zk_2_41 rfl (vd_26 (by omega) (by omega)) (fun σ' h => h.1.1) (fun _ h => h.2.1 (by omega) (by omega)) (pc' := 44) rfl (fun y2 hy2 hy2' => ?_)
    exact T_iret zk_2_44 rfl (fun σ' h => ⟨_, rfl, (by omega), h.1, trivial⟩)
  by_cases h3 : p0 = 1
  · subst h3
    refine T_br (t := 45) zk_2_1 rfl rfl rfl (fun _ => rfl) rfl ?_
    refine T_ld zk_2_45 rfl rfl rfl (pc' := 46) rfl ?_
    refine G_getf (lo := -1) (hi := 24) zk_2_46 rfl (vd_26 (by omega) (by omega)) (fun σ' h => h.1.1) (fun _ h => h.2.2 (by omega) (by omega)) (pc' := 49) rfl (fun y4 hy4 hy4' => ?_)
    exact T_iret zk_2_49 rfl (fun σ' h => ⟨_, rfl, (by omega), h.1, trivial⟩)
  by_cases h5 : p0 = 2
  · subst h5
    refine T_br (t := 50) zk_2_1 rfl rfl rfl (fun _ => rfl) rfl ?_
    refine T_ld zk_2_50 rfl rfl rfl (pc' := 51) rfl ?_
    refine G_getf (lo := -2147483648) (hi := 2147483647) zk_2_51 rfl (vd_26 (by omega) (by omega)) (fun σ' h => h.1.1) (fun _ h => (by have q := h.1; omega)) (pc' := 54) rfl (fun y6 hy6 hy6' => ?_)
    exact T_iret zk_2_54 rfl (fun σ' h => ⟨_, rfl, (by omega), h.1, trivial⟩)
  by_cases h7 : p0 = 3
  · subst h7
    refine T_br (t := 55) zk_2_1 rfl rfl rfl (fun _ => rfl) rfl ?_
    refine T_ld zk_2_55 rfl rfl rfl (pc' := 56) rfl ?_
    refine G_getf (lo := -2147483648) (hi := 2147483647) zk_2_56 rfl (vd_26 (by omega) (by omega)) (fun σ' h => h.1.1) (fun _ h => (by have q := h.1; omega)) (pc' := 59) rfl (fun y8 hy8 hy8' => ?_)
    exact T_iret zk_2_59 rfl (fun σ' h => ⟨_, rfl, (by omega), h.1, trivial⟩)
  by_cases h9 : p0 = 4
  · subst h9
    refine T_br (t := 60) zk_2_1 rfl rfl rfl (fun _ => rfl) rfl ?_
    refine T_ld zk_2_60 rfl rfl rfl (pc' := 61) rfl ?_
    refine G_getf (lo := -2147483648) (hi := 2147483647) zk_2_61 rfl (vd_26 (by omega) (by omega)) (fun σ' h => h.1.1) (fun _ h => (by have q := h.1; omega)) (pc' := 64) rfl (fun y10 hy10 hy10' => ?_)
    exact T_iret zk_2_64 rfl (fun σ' h => ⟨_, rfl, (by omega), h.1, trivial⟩)
  by_cases h11 : p0 = 5
  · subst h11
    refine T_br (t := 65) zk_2_1 rfl rfl rfl (fun _ => rfl) rfl ?_
    refine T_ld zk_2_65 rfl rfl rfl (pc' := 66) rfl ?_
    refine G_getf (lo := -2147483648) (hi := 2147483647) zk_2_66 rfl (vd_26 (by omega) (by omega)) (fun σ' h => h.1.1) (fun _ h => (by have q := h.1; omega)) (pc' := 69) rfl (fun y12 hy12 hy12' => ?_)
    exact T_iret zk_2_69 rfl (fun σ' h => ⟨_, rfl, (by omega), h.1, trivial⟩)
  refine T_tso (t := 70) zk_2_1 (by omega) (by omega) (by omega) ?_
  refine T_op zk_2_70 rfl X_ic (pc' := 71) rfl ?_
  exact T_iret zk_2_71 rfl (fun σ' h => ⟨_, rfl, (by omega), h.1, trivial⟩)
