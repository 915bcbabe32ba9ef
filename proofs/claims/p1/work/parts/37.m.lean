theorem zk_179_0 : zc 179 0 = some (.iconst 0, 0, 0, 0, 0) := rfl
theorem zk_179_1 : zc 179 1 = some (.istore_n 3, 0, 0, 0, 0) := rfl
theorem zk_179_2 : zc 179 2 = some (.iload_n 3, 0, 0, 0, 0) := rfl
theorem zk_179_3 : zc 179 3 = some (.sipush 646, 0, 0, 0, 0) := rfl
theorem zk_179_6 : zc 179 6 = some (.if_icmp .ge 15, 21, 0, 0, 0) := rfl
theorem zk_179_9 : zc 179 9 = some (.aload_n 2, 0, 0, 0, 0) := rfl
theorem zk_179_10 : zc 179 10 = some (.iload_n 3, 0, 0, 0, 0) := rfl
theorem zk_179_11 : zc 179 11 = some (.aload_n 1, 0, 0, 0, 0) := rfl
theorem zk_179_12 : zc 179 12 = some (.iload_n 3, 0, 0, 0, 0) := rfl
theorem zk_179_13 : zc 179 13 = some (.iaload, 0, 0, 0, 0) := rfl
theorem zk_179_14 : zc 179 14 = some (.iastore, 0, 0, 0, 0) := rfl
theorem zk_179_15 : zc 179 15 = some (.iinc 3 1, 0, 0, 0, 0) := rfl
theorem zk_179_18 : zc 179 18 = some (.goto (-16), 2, 0, 0, 0) := rfl
theorem zk_179_21 : zc 179 21 = some (.return_, 0, 0, 0, 0) := rfl
theorem zk_181_0 : zc 181 0 = some (.iload_n 1, 0, 0, 0, 0) := rfl
theorem zk_181_1 : zc 181 1 = some (.invokestatic 99, 124, 1, 1, 128) := rfl
theorem zk_181_4 : zc 181 4 = some (.ifCond .eq 14, 18, 0, 0, 0) := rfl
theorem zk_181_7 : zc 181 7 = some (.iload_n 2, 0, 0, 0, 0) := rfl
theorem zk_181_8 : zc 181 8 = some (.ifCond .lt 10, 18, 0, 0, 0) := rfl
theorem zk_181_11 : zc 181 11 = some (.iload_n 2, 0, 0, 0, 0) := rfl
theorem zk_181_12 : zc 181 12 = some (.sipush 200, 0, 0, 0, 0) := rfl
theorem zk_181_15 : zc 181 15 = some (.if_icmp .le 7, 22, 0, 0, 0) := rfl
theorem zk_181_18 : zc 181 18 = some (.sipush 1000, 0, 0, 0, 0) := rfl
theorem zk_181_21 : zc 181 21 = some (.ireturn, 0, 0, 0, 0) := rfl
theorem zk_181_22 : zc 181 22 = some (.aload_n 0, 0, 0, 0, 0) := rfl
theorem zk_181_23 : zc 181 23 = some (.aload_n 0, 0, 0, 0, 0) := rfl
theorem zk_181_24 : zc 181 24 = some (.getfield 7, 11, 0, 0, 139) := rfl
theorem zk_181_27 : zc 181 27 = some (.aload_n 0, 0, 0, 0, 0) := rfl
theorem zk_181_28 : zc 181 28 = some (.getfield 13, 11, 1, 0, 140) := rfl
theorem zk_181_31 : zc 181 31 = some (.invokevirtual 230, 179, 0, 3, 155) := rfl
theorem zk_181_34 : zc 181 34 = some (.iconst 0, 0, 0, 0, 0) := rfl
theorem zk_181_35 : zc 181 35 = some (.istore_n 3, 0, 0, 0, 0) := rfl
theorem zk_181_36 : zc 181 36 = some (.iload_n 3, 0, 0, 0, 0) := rfl
theorem zk_181_37 : zc 181 37 = some (.iload_n 2, 0, 0, 0, 0) := rfl
theorem zk_181_38 : zc 181 38 = some (.if_icmp .ge 19, 57, 0, 0, 0) := rfl
theorem zk_181_41 : zc 181 41 = some (.aload_n 0, 0, 0, 0, 0) := rfl
theorem zk_181_42 : zc 181 42 = some (.iconst 1, 0, 0, 0, 0) := rfl
theorem zk_181_43 : zc 181 43 = some (.invokevirtual 223, 175, 0, 2, 153) := rfl
theorem zk_181_46 : zc 181 46 = some (.aload_n 0, 0, 0, 0, 0) := rfl
theorem zk_181_47 : zc 181 47 = some (.iconst 1, 0, 0, 0, 0) := rfl
theorem zk_181_48 : zc 181 48 = some (.invokevirtual 227, 177, 0, 2, 154) := rfl
theorem zk_181_51 : zc 181 51 = some (.iinc 3 1, 0, 0, 0, 0) := rfl
theorem zk_181_54 : zc 181 54 = some (.goto (-18), 36, 0, 0, 0) := rfl
theorem zk_181_57 : zc 181 57 = some (.aload_n 0, 0, 0, 0, 0) := rfl
theorem zk_181_58 : zc 181 58 = some (.getfield 7, 11, 0, 0, 139) := rfl
theorem zk_181_61 : zc 181 61 = some (.bipush 25, 0, 0, 0, 0) := rfl
theorem zk_181_63 : zc 181 63 = some (.iload_n 1, 0, 0, 0, 0) := rfl
theorem zk_181_64 : zc 181 64 = some (.iadd, 0, 0, 0, 0) := rfl
theorem zk_181_65 : zc 181 65 = some (.iaload, 0, 0, 0, 0) := rfl
theorem zk_181_66 : zc 181 66 = some (.istore_n 3, 0, 0, 0, 0) := rfl
theorem zk_181_67 : zc 181 67 = some (.aload_n 0, 0, 0, 0, 0) := rfl
theorem zk_181_68 : zc 181 68 = some (.aload_n 0, 0, 0, 0, 0) := rfl
theorem zk_181_69 : zc 181 69 = some (.getfield 13, 11, 1, 0, 140) := rfl
theorem zk_181_72 : zc 181 72 = some (.aload_n 0, 0, 0, 0, 0) := rfl
theorem zk_181_73 : zc 181 73 = some (.getfield 7, 11, 0, 0, 139) := rfl
theorem zk_181_76 : zc 181 76 = some (.invokevirtual 230, 179, 0, 3, 155) := rfl
theorem zk_181_79 : zc 181 79 = some (.iload_n 3, 0, 0, 0, 0) := rfl
theorem zk_181_80 : zc 181 80 = some (.ireturn, 0, 0, 0, 0) := rfl
theorem zk_182_0 : zc 182 0 = some (.iload_n 1, 0, 0, 0, 0) := rfl
theorem zk_182_1 : zc 182 1 = some (.iconst 1, 0, 0, 0, 0) := rfl
theorem zk_182_2 : zc 182 2 = some (.if_icmp .lt 18, 20, 0, 0, 0) := rfl
theorem zk_182_5 : zc 182 5 = some (.iload_n 1, 0, 0, 0, 0) := rfl
theorem zk_182_6 : zc 182 6 = some (.bipush 48, 0, 0, 0, 0) := rfl
theorem zk_182_8 : zc 182 8 = some (.if_icmp .gt 12, 20, 0, 0, 0) := rfl
theorem zk_182_11 : zc 182 11 = some (.iload_n 2, 0, 0, 0, 0) := rfl
theorem zk_182_12 : zc 182 12 = some (.ifCond .lt 8, 20, 0, 0, 0) := rfl
theorem zk_182_15 : zc 182 15 = some (.iload_n 2, 0, 0, 0, 0) := rfl
theorem zk_182_16 : zc 182 16 = some (.iconst 1, 0, 0, 0, 0) := rfl
theorem zk_182_17 : zc 182 17 = some (.if_icmp .le 10, 27, 0, 0, 0) := rfl
theorem zk_182_20 : zc 182 20 = some (.aload_n 0, 0, 0, 0, 0) := rfl
theorem zk_182_21 : zc 182 21 = some (.bipush (-6), 0, 0, 0, 0) := rfl
theorem zk_182_23 : zc 182 23 = some (.invokevirtual 103, 123, 0, 2, 129) := rfl
theorem zk_182_26 : zc 182 26 = some (.ireturn, 0, 0, 0, 0) := rfl
theorem zk_182_27 : zc 182 27 = some (.iconst (-1), 0, 0, 0, 0) := rfl
theorem zk_182_28 : zc 182 28 = some (.istore_n 3, 0, 0, 0, 0) := rfl
theorem zk_182_29 : zc 182 29 = some (.iconst 0, 0, 0, 0, 0) := rfl
theorem zk_182_30 : zc 182 30 = some (.istore 4, 0, 0, 0, 0) := rfl
theorem zk_182_32 : zc 182 32 = some (.aload_n 0, 0, 0, 0, 0) := rfl
theorem zk_182_33 : zc 182 33 = some (.aload_n 0, 0, 0, 0, 0) := rfl
theorem zk_182_34 : zc 182 34 = some (.getfield 7, 11, 0, 0, 139) := rfl
theorem zk_182_37 : zc 182 37 = some (.aload_n 0, 0, 0, 0, 0) := rfl
theorem zk_182_38 : zc 182 38 = some (.getfield 13, 11, 1, 0, 140) := rfl
theorem zk_182_41 : zc 182 41 = some (.invokevirtual 230, 179, 0, 3, 155) := rfl
theorem zk_182_44 : zc 182 44 = some (.iconst 0, 0, 0, 0, 0) := rfl
theorem zk_182_45 : zc 182 45 = some (.istore 5, 0, 0, 0, 0) := rfl
theorem zk_182_47 : zc 182 47 = some (.iload 5, 0, 0, 0, 0) := rfl
theorem zk_182_49 : zc 182 49 = some (.iconst 1, 0, 0, 0, 0) := rfl
theorem zk_182_50 : zc 182 50 = some (.aload_n 0, 0, 0, 0, 0) := rfl
theorem zk_182_51 : zc 182 51 = some (.getfield 13, 11, 1, 0, 140) := rfl
theorem zk_182_54 : zc 182 54 = some (.sipush 640, 0, 0, 0, 0) := rfl
theorem zk_182_57 : zc 182 57 = some (.iaload, 0, 0, 0, 0) := rfl
theorem zk_182_58 : zc 182 58 = some (.ishl, 0, 0, 0, 0) := rfl
theorem zk_182_59 : zc 182 59 = some (.if_icmp .ge 129, 188, 0, 0, 0) := rfl
theorem zk_182_62 : zc 182 62 = some (.aload_n 0, 0, 0, 0, 0) := rfl
theorem zk_182_63 : zc 182 63 = some (.aload_n 0, 0, 0, 0, 0) := rfl
theorem zk_182_64 : zc 182 64 = some (.getfield 13, 11, 1, 0, 140) := rfl
theorem zk_182_67 : zc 182 67 = some (.aload_n 0, 0, 0, 0, 0) := rfl
theorem zk_182_68 : zc 182 68 = some (.getfield 7, 11, 0, 0, 139) := rfl
theorem zk_182_71 : zc 182 71 = some (.invokevirtual 230, 179, 0, 3, 155) := rfl
theorem zk_182_74 : zc 182 74 = some (.iconst 0, 0, 0, 0, 0) := rfl
theorem zk_182_75 : zc 182 75 = some (.istore 6, 0, 0, 0, 0) := rfl
theorem zk_182_77 : zc 182 77 = some (.iload 6, 0, 0, 0, 0) := rfl
theorem zk_182_79 : zc 182 79 = some (.aload_n 0, 0, 0, 0, 0) := rfl
theorem zk_182_80 : zc 182 80 = some (.getfield 7, 11, 0, 0, 139) := rfl
theorem zk_182_83 : zc 182 83 = some (.sipush 640, 0, 0, 0, 0) := rfl
theorem zk_182_86 : zc 182 86 = some (.iaload, 0, 0, 0, 0) := rfl
theorem zk_182_87 : zc 182 87 = some (.if_icmp .ge 27, 114, 0, 0, 0) := rfl
theorem zk_182_114 : zc 182 114 = some (.aload_n 0, 0, 0, 0, 0) := rfl
theorem zk_182_115 : zc 182 115 = some (.iconst 0, 0, 0, 0, 0) := rfl
theorem zk_182_116 : zc 182 116 = some (.putfield 214, 11, 31, 0, 176) := rfl
theorem zk_182_119 : zc 182 119 = some (.aload_n 0, 0, 0, 0, 0) := rfl
theorem zk_182_120 : zc 182 120 = some (.iconst 0, 0, 0, 0, 0) := rfl
theorem zk_182_121 : zc 182 121 = some (.putfield 220, 11, 32, 0, 177) := rfl
theorem zk_182_124 : zc 182 124 = some (.iconst 0, 0, 0, 0, 0) := rfl
theorem zk_182_125 : zc 182 125 = some (.istore 6, 0, 0, 0, 0) := rfl
theorem zk_182_127 : zc 182 127 = some (.iload 6, 0, 0, 0, 0) := rfl
theorem zk_182_129 : zc 182 129 = some (.iload_n 1, 0, 0, 0, 0) := rfl
theorem zk_182_130 : zc 182 130 = some (.if_icmp .ge 19, 149, 0, 0, 0) := rfl
theorem zk_182_133 : zc 182 133 = some (.aload_n 0, 0, 0, 0, 0) := rfl
theorem zk_182_134 : zc 182 134 = some (.iconst 1, 0, 0, 0, 0) := rfl
theorem zk_182_135 : zc 182 135 = some (.invokevirtual 223, 175, 0, 2, 153) := rfl
theorem zk_182_138 : zc 182 138 = some (.aload_n 0, 0, 0, 0, 0) := rfl
theorem zk_182_139 : zc 182 139 = some (.iconst 1, 0, 0, 0, 0) := rfl
theorem zk_182_140 : zc 182 140 = some (.invokevirtual 227, 177, 0, 2, 154) := rfl
theorem zk_182_143 : zc 182 143 = some (.iinc 6 1, 0, 0, 0, 0) := rfl
theorem zk_182_146 : zc 182 146 = some (.goto (-19), 127, 0, 0, 0) := rfl
theorem zk_182_149 : zc 182 149 = some (.bipush 10, 0, 0, 0, 0) := rfl
theorem zk_182_151 : zc 182 151 = some (.aload_n 0, 0, 0, 0, 0) := rfl
theorem zk_182_152 : zc 182 152 = some (.getfield 220, 11, 32, 0, 177) := rfl
theorem zk_182_155 : zc 182 155 = some (.imul, 0, 0, 0, 0) := rfl
theorem zk_182_156 : zc 182 156 = some (.aload_n 0, 0, 0, 0, 0) := rfl
theorem zk_182_157 : zc 182 157 = some (.getfield 214, 11, 31, 0, 176) := rfl
theorem zk_182_160 : zc 182 160 = some (.iadd, 0, 0, 0, 0) := rfl
theorem zk_182_161 : zc 182 161 = some (.istore 6, 0, 0, 0, 0) := rfl
theorem zk_182_163 : zc 182 163 = some (.iload_n 3, 0, 0, 0, 0) := rfl
theorem zk_182_164 : zc 182 164 = some (.iconst (-1), 0, 0, 0, 0) := rfl
theorem zk_182_165 : zc 182 165 = some (.if_icmp .eq 10, 175, 0, 0, 0) := rfl
theorem zk_182_168 : zc 182 168 = some (.iload 6, 0, 0, 0, 0) := rfl
theorem zk_182_170 : zc 182 170 = some (.iload 4, 0, 0, 0, 0) := rfl
theorem zk_182_172 : zc 182 172 = some (.if_icmp .ge 10, 182, 0, 0, 0) := rfl
theorem zk_182_175 : zc 182 175 = some (.iload 5, 0, 0, 0, 0) := rfl
theorem zk_182_177 : zc 182 177 = some (.istore_n 3, 0, 0, 0, 0) := rfl
theorem zk_182_178 : zc 182 178 = some (.iload 6, 0, 0, 0, 0) := rfl
theorem zk_182_180 : zc 182 180 = some (.istore 4, 0, 0, 0, 0) := rfl
theorem zk_182_182 : zc 182 182 = some (.iinc 5 1, 0, 0, 0, 0) := rfl
theorem zk_182_185 : zc 182 185 = some (.goto (-138), 47, 0, 0, 0) := rfl
theorem zk_182_188 : zc 182 188 = some (.aload_n 0, 0, 0, 0, 0) := rfl
theorem zk_182_189 : zc 182 189 = some (.aload_n 0, 0, 0, 0, 0) := rfl
theorem zk_182_190 : zc 182 190 = some (.getfield 13, 11, 1, 0, 140) := rfl
theorem zk_182_193 : zc 182 193 = some (.aload_n 0, 0, 0, 0, 0) := rfl
theorem zk_182_194 : zc 182 194 = some (.getfield 7, 11, 0, 0, 139) := rfl
theorem zk_182_197 : zc 182 197 = some (.invokevirtual 230, 179, 0, 3, 155) := rfl
theorem zk_182_200 : zc 182 200 = some (.iload_n 2, 0, 0, 0, 0) := rfl
theorem zk_182_201 : zc 182 201 = some (.ifCond .ne 7, 208, 0, 0, 0) := rfl
theorem zk_182_204 : zc 182 204 = some (.iload_n 3, 0, 0, 0, 0) := rfl
theorem zk_182_205 : zc 182 205 = some (.goto 5, 210, 0, 0, 0) := rfl
theorem zk_182_208 : zc 182 208 = some (.iload 4, 0, 0, 0, 0) := rfl
theorem zk_182_210 : zc 182 210 = some (.ireturn, 0, 0, 0, 0) := rfl
theorem zk_184_0 : zc 184 0 = some (.aload_n 0, 0, 0, 0, 0) := rfl
theorem zk_184_1 : zc 184 1 = some (.aload_n 0, 0, 0, 0, 0) := rfl
theorem zk_184_2 : zc 184 2 = some (.getfield 7, 11, 0, 0, 139) := rfl
theorem zk_184_5 : zc 184 5 = some (.aload_n 0, 0, 0, 0, 0) := rfl
theorem zk_184_6 : zc 184 6 = some (.getfield 16, 11, 2, 0, 141) := rfl
theorem zk_184_9 : zc 184 9 = some (.invokevirtual 230, 179, 0, 3, 155) := rfl
theorem zk_184_12 : zc 184 12 = some (.iconst 0, 0, 0, 0, 0) := rfl
theorem zk_184_13 : zc 184 13 = some (.istore_n 1, 0, 0, 0, 0) := rfl
theorem zk_184_14 : zc 184 14 = some (.iload_n 1, 0, 0, 0, 0) := rfl
theorem zk_184_15 : zc 184 15 = some (.iconst 5, 0, 0, 0, 0) := rfl
theorem zk_184_16 : zc 184 16 = some (.if_icmp .ge 33, 49, 0, 0, 0) := rfl
theorem zk_184_19 : zc 184 19 = some (.aload_n 0, 0, 0, 0, 0) := rfl
theorem zk_184_20 : zc 184 20 = some (.getfield 81, 11, 34, 0, 162) := rfl
theorem zk_184_23 : zc 184 23 = some (.iload_n 1, 0, 0, 0, 0) := rfl
theorem zk_184_24 : zc 184 24 = some (.aload_n 0, 0, 0, 0, 0) := rfl
theorem zk_184_25 : zc 184 25 = some (.getfield 38, 11, 10, 0, 148) := rfl
theorem zk_184_28 : zc 184 28 = some (.iload_n 1, 0, 0, 0, 0) := rfl
theorem zk_184_29 : zc 184 29 = some (.iaload, 0, 0, 0, 0) := rfl
theorem zk_184_30 : zc 184 30 = some (.iastore, 0, 0, 0, 0) := rfl
theorem zk_184_31 : zc 184 31 = some (.aload_n 0, 0, 0, 0, 0) := rfl
theorem zk_184_32 : zc 184 32 = some (.getfield 84, 11, 35, 0, 163) := rfl
theorem zk_184_35 : zc 184 35 = some (.iload_n 1, 0, 0, 0, 0) := rfl
theorem zk_184_36 : zc 184 36 = some (.aload_n 0, 0, 0, 0, 0) := rfl
theorem zk_184_37 : zc 184 37 = some (.getfield 41, 11, 11, 0, 149) := rfl
theorem zk_184_40 : zc 184 40 = some (.iload_n 1, 0, 0, 0, 0) := rfl
theorem zk_184_41 : zc 184 41 = some (.iaload, 0, 0, 0, 0) := rfl
theorem zk_184_42 : zc 184 42 = some (.iastore, 0, 0, 0, 0) := rfl
theorem zk_184_43 : zc 184 43 = some (.iinc 1 1, 0, 0, 0, 0) := rfl
theorem zk_184_46 : zc 184 46 = some (.goto (-32), 14, 0, 0, 0) := rfl
theorem zk_184_49 : zc 184 49 = some (.iconst 0, 0, 0, 0, 0) := rfl
theorem zk_184_50 : zc 184 50 = some (.istore_n 1, 0, 0, 0, 0) := rfl
theorem zk_184_51 : zc 184 51 = some (.iload_n 1, 0, 0, 0, 0) := rfl
theorem zk_184_52 : zc 184 52 = some (.sipush 600, 0, 0, 0, 0) := rfl
theorem zk_184_55 : zc 184 55 = some (.if_icmp .ge 21, 76, 0, 0, 0) := rfl
theorem zk_184_58 : zc 184 58 = some (.aload_n 0, 0, 0, 0, 0) := rfl
theorem zk_184_59 : zc 184 59 = some (.getfield 87, 11, 36, 0, 164) := rfl
theorem zk_184_62 : zc 184 62 = some (.iload_n 1, 0, 0, 0, 0) := rfl
theorem zk_184_63 : zc 184 63 = some (.aload_n 0, 0, 0, 0, 0) := rfl
theorem zk_184_64 : zc 184 64 = some (.getfield 44, 11, 12, 0, 150) := rfl
theorem zk_184_67 : zc 184 67 = some (.iload_n 1, 0, 0, 0, 0) := rfl
theorem zk_184_68 : zc 184 68 = some (.iaload, 0, 0, 0, 0) := rfl
theorem zk_184_69 : zc 184 69 = some (.iastore, 0, 0, 0, 0) := rfl
theorem zk_184_70 : zc 184 70 = some (.iinc 1 1, 0, 0, 0, 0) := rfl
theorem zk_184_73 : zc 184 73 = some (.goto (-22), 51, 0, 0, 0) := rfl
theorem zk_184_76 : zc 184 76 = some (.iconst 0, 0, 0, 0, 0) := rfl
theorem zk_184_77 : zc 184 77 = some (.istore_n 1, 0, 0, 0, 0) := rfl
theorem zk_184_78 : zc 184 78 = some (.iload_n 1, 0, 0, 0, 0) := rfl
theorem zk_184_79 : zc 184 79 = some (.sipush 250, 0, 0, 0, 0) := rfl
theorem zk_184_82 : zc 184 82 = some (.if_icmp .ge 45, 127, 0, 0, 0) := rfl
theorem zk_184_85 : zc 184 85 = some (.aload_n 0, 0, 0, 0, 0) := rfl
theorem zk_184_86 : zc 184 86 = some (.getfield 90, 11, 37, 0, 165) := rfl
theorem zk_184_89 : zc 184 89 = some (.iload_n 1, 0, 0, 0, 0) := rfl
theorem zk_184_90 : zc 184 90 = some (.aload_n 0, 0, 0, 0, 0) := rfl
theorem zk_184_91 : zc 184 91 = some (.getfield 47, 11, 13, 0, 151) := rfl
theorem zk_184_94 : zc 184 94 = some (.iload_n 1, 0, 0, 0, 0) := rfl
theorem zk_184_95 : zc 184 95 = some (.iaload, 0, 0, 0, 0) := rfl
theorem zk_184_96 : zc 184 96 = some (.iastore, 0, 0, 0, 0) := rfl
theorem zk_184_97 : zc 184 97 = some (.aload_n 0, 0, 0, 0, 0) := rfl
theorem zk_184_98 : zc 184 98 = some (.getfield 93, 11, 38, 0, 166) := rfl
theorem zk_184_101 : zc 184 101 = some (.iload_n 1, 0, 0, 0, 0) := rfl
theorem zk_184_102 : zc 184 102 = some (.aload_n 0, 0, 0, 0, 0) := rfl
theorem zk_184_103 : zc 184 103 = some (.getfield 50, 11, 14, 0, 152) := rfl
theorem zk_184_106 : zc 184 106 = some (.iload_n 1, 0, 0, 0, 0) := rfl
theorem zk_184_107 : zc 184 107 = some (.iaload, 0, 0, 0, 0) := rfl
theorem zk_184_108 : zc 184 108 = some (.iastore, 0, 0, 0, 0) := rfl
theorem zk_184_109 : zc 184 109 = some (.aload_n 0, 0, 0, 0, 0) := rfl
theorem zk_184_110 : zc 184 110 = some (.getfield 96, 11, 39, 0, 167) := rfl
theorem zk_184_113 : zc 184 113 = some (.iload_n 1, 0, 0, 0, 0) := rfl
theorem zk_184_114 : zc 184 114 = some (.aload_n 0, 0, 0, 0, 0) := rfl
theorem zk_184_115 : zc 184 115 = some (.getfield 53, 11, 15, 0, 153) := rfl
theorem zk_184_118 : zc 184 118 = some (.iload_n 1, 0, 0, 0, 0) := rfl
theorem zk_184_119 : zc 184 119 = some (.iaload, 0, 0, 0, 0) := rfl
theorem zk_184_120 : zc 184 120 = some (.iastore, 0, 0, 0, 0) := rfl
theorem zk_184_121 : zc 184 121 = some (.iinc 1 1, 0, 0, 0, 0) := rfl
theorem zk_184_124 : zc 184 124 = some (.goto (-46), 78, 0, 0, 0) := rfl
theorem zk_184_127 : zc 184 127 = some (.aload_n 0, 0, 0, 0, 0) := rfl
theorem zk_184_128 : zc 184 128 = some (.iconst 1, 0, 0, 0, 0) := rfl
theorem zk_184_129 : zc 184 129 = some (.putfield 234, 11, 3, 0, 178) := rfl
theorem zk_184_132 : zc 184 132 = some (.aload_n 0, 0, 0, 0, 0) := rfl
theorem zk_184_133 : zc 184 133 = some (.getfield 7, 11, 0, 0, 139) := rfl
theorem zk_184_136 : zc 184 136 = some (.sipush 634, 0, 0, 0, 0) := rfl
theorem zk_184_139 : zc 184 139 = some (.iaload, 0, 0, 0, 0) := rfl
theorem zk_184_140 : zc 184 140 = some (.ireturn, 0, 0, 0, 0) := rfl
def MV (e : Nat) (t i k j : Nat) : Prop := t = 36 ∧ k = e
def MFm (t i k j : Nat) : Prop := t = 36 ∨ t = 54 ∨ t = 55 ∨ t = 35 ∨ t = 49
def MIm (t i k j : Nat) : Prop := (t = 36 ∧ k = 2) ∨ t = 35 ∨ t = 56 ∨ t = 57 ∨ t = 58 ∨ t = 59 ∨ t = 60 ∨ t = 61
/-- a row of numbers moved to another -/
theorem m_179 {xs : Nat × (Nat → Int32)} (k1 k2 : Nat) (h1 : k1 < 3) (h2 : k2 < 3) (hne : ¬ k1 = k2) (σ : ZS) (hI : Inv σ) : CT xs 1 179 [av 35 0 0, av 36 0 k1, av 36 0 k2] σ (fun v σ' => v = none ∧ IF (MV k2) σ σ' ∧ ∀ j : Nat, j < 646 → σ' 36 0 k2 j = σ 36 0 k1 j) := by
  refine G_ct (J := fun σ' => IF (MV k2) σ σ' ∧ ∀ j : Nat, (j : Int) < 0 → σ' 36 0 k2 j = σ 36 0 k1 j) (L := [(0, av 35 0 0), (1, av 36 0 k1), (2, av 36 0 k2)]) (nL := 4) rfl rfl rfl ⟨IF.rf hI, fun j h => by omega⟩ ?_
  refine T_op zk_179_0 rfl X_ic (pc' := 1) rfl ?_
  refine T_st (L' := [(0, av 35 0 0), (1, av 36 0 k1), (2, av 36 0 k2), (3, iv 0)]) zk_179_1 (nL := 4) rfl rfl rfl rfl rfl (pc' := 2) rfl ?_
  refine T_loop1 (fun x => (646 - x : Int).toNat) (fun x => 0 ≤ x ∧ x ≤ 646) (fun x => TJ xs (fun σ' => IF (MV k2) σ σ' ∧ ∀ j : Nat, (j : Int) < x → σ' 36 0 k2 j = σ 36 0 k1 j) 0 179 2 [(0, av 35 0 0), (1, av 36 0 k1), (2, av 36 0 k2), (3, iv x)] [] _) ?_ 0 (by omega)
  intro x hp ih
  refine T_ld zk_179_2 rfl rfl rfl (pc' := 3) rfl ?_
  refine T_op zk_179_3 rfl (X_si (v := 646) (by decide)) (pc' := 6) rfl ?_
  refine T_icmp_ge zk_179_6 (by omega) (by omega) (pc' := 9) rfl (fun g1 => ?_) (fun g2 => ?_)
  · exact T_vret zk_179_21 rfl (fun σ' h => ⟨rfl, h.1, fun j hj => h.2 j (by omega)⟩)
  · refine T_ld zk_179_9 rfl rfl rfl (pc' := 10) rfl ?_
    refine T_ld zk_179_10 rfl rfl rfl (pc' := 11) rfl ?_
    refine T_ld zk_179_11 rfl rfl rfl (pc' := 12) rfl ?_
    refine T_ld zk_179_12 rfl rfl rfl (pc' := 13) rfl ?_
    refine T_ialdE zk_179_13 rfl (vd_36 h1) (by omega) (show x < ((646 : Nat) : Int) by omega) (by omega) (pc' := 14) rfl (fun y => ?_)
    refine T_iast (J' := fun σ' => IF (MV k2) σ σ' ∧ ∀ j : Nat, (j : Int) < x + 1 → σ' 36 0 k2 j = σ 36 0 k1 j) zk_179_14 rfl (vd_36 h2) (by omega) (show x < ((646 : Nat) : Int) by omega) (by omega) (fun σ' h => ⟨h.1.1.up (h.2 ▸ h.1.1.1 36 0 k1 _ (vd_36 h1)) ⟨rfl, rfl⟩, fun j hj => ?_⟩) (pc' := 15) rfl ?_
    · by_cases hq : j = x.toNat
      · subst hq
        rw [up_eq, ← h.2]
        exact h.1.1.2 _ _ _ _ (fun q => hne q.2)
      · rw [up_ne (fun q => hq q.2.2.2)]
        exact h.1.2 j (by omega)
    refine T_iinc (L' := [(0, av 35 0 0), (1, av 36 0 k1), (2, av 36 0 k2), (3, iv (x + 1))]) zk_179_15 (nL := 4) rfl rfl rfl rfl (pc' := 18) rfl ?_
    refine T_goto zk_179_18 ?_
    exact ih (x + 1) (by omega) (by omega)
theorem m_179_01 {xs : Nat × (Nat → Int32)} (σ : ZS) (hI : Inv σ)  : CT xs 1 179 [av 35 0 0, av 36 0 0, av 36 0 1] σ (fun v σ' => v = none ∧ IF (MV 1) σ σ' ∧ (True)) := (m_179 0 1 (by omega) (by omega) (by omega) σ hI).le (Nat.le_refl _) (fun v σ' h => ⟨h.1, h.2.1, trivial⟩)
theorem m_179_10 {xs : Nat × (Nat → Int32)} (σ : ZS) (hI : Inv σ)  : CT xs 1 179 [av 35 0 0, av 36 0 1, av 36 0 0] σ (fun v σ' => v = none ∧ IF (MV 0) σ σ' ∧ (True)) := (m_179 1 0 (by omega) (by omega) (by omega) σ hI).le (Nat.le_refl _) (fun v σ' h => ⟨h.1, h.2.1, trivial⟩)
theorem m_179_02 {xs : Nat × (Nat → Int32)} (σ : ZS) (hI : Inv σ)  : CT xs 1 179 [av 35 0 0, av 36 0 0, av 36 0 2] σ (fun v σ' => v = none ∧ IF (MV 2) σ σ' ∧ (True)) := (m_179 0 2 (by omega) (by omega) (by omega) σ hI).le (Nat.le_refl _) (fun v σ' h => ⟨h.1, h.2.1, trivial⟩)
theorem m_179_01k {xs : Nat × (Nat → Int32)} (σ : ZS) (hI : Inv σ) (s0 : (∀ j, 25 ≤ j → j < 50 → σ 36 0 0 j = 0)) (s1 : σ 36 0 0 633 = 0) (s2 : σ 36 0 0 634 = 0) (s3 : σ 36 0 0 635 = 0) (s4 : σ 36 0 0 636 = 0) (s5 : σ 36 0 0 640 = 0) (s6 : σ 36 0 0 641 = 0) (s7 : σ 36 0 0 642 = 0) : CT xs 1 179 [av 35 0 0, av 36 0 0, av 36 0 1] σ (fun v σ' => v = none ∧ IF (MV 1) σ σ' ∧ ((∀ j, 25 ≤ j → j < 50 → σ' 36 0 1 j = 0) ∧ σ' 36 0 1 633 = 0 ∧ σ' 36 0 1 634 = 0 ∧ σ' 36 0 1 635 = 0 ∧ σ' 36 0 1 636 = 0 ∧ σ' 36 0 1 640 = 0 ∧ σ' 36 0 1 641 = 0 ∧ σ' 36 0 1 642 = 0 ∧ True)) := (m_179 0 1 (by omega) (by omega) (by omega) σ hI).le (Nat.le_refl _) (fun v σ' h => ⟨h.1, h.2.1, ⟨fun j a b => (h.2.2 j (by omega)).trans (s0 j a b), (h.2.2 633 (by omega)).trans s1, (h.2.2 634 (by omega)).trans s2, (h.2.2 635 (by omega)).trans s3, (h.2.2 636 (by omega)).trans s4, (h.2.2 640 (by omega)).trans s5, (h.2.2 641 (by omega)).trans s6, (h.2.2 642 (by omega)).trans s7, trivial⟩⟩)
theorem m_179_10k {xs : Nat × (Nat → Int32)} (σ : ZS) (hI : Inv σ) (s0 : (∀ j, 25 ≤ j → j < 50 → σ 36 0 1 j = 0)) (s1 : σ 36 0 1 633 = 0) (s2 : σ 36 0 1 634 = 0) (s3 : σ 36 0 1 635 = 0) (s4 : σ 36 0 1 636 = 0) (s5 : σ 36 0 1 640 = 0) (s6 : σ 36 0 1 641 = 0) (s7 : σ 36 0 1 642 = 0) : CT xs 1 179 [av 35 0 0, av 36 0 1, av 36 0 0] σ (fun v σ' => v = none ∧ IF (MV 0) σ σ' ∧ ((∀ j, 25 ≤ j → j < 50 → σ' 36 0 0 j = 0) ∧ σ' 36 0 0 633 = 0 ∧ σ' 36 0 0 634 = 0 ∧ σ' 36 0 0 635 = 0 ∧ σ' 36 0 0 636 = 0 ∧ σ' 36 0 0 640 = 0 ∧ σ' 36 0 0 641 = 0 ∧ σ' 36 0 0 642 = 0 ∧ True)) := (m_179 1 0 (by omega) (by omega) (by omega) σ hI).le (Nat.le_refl _) (fun v σ' h => ⟨h.1, h.2.1, ⟨fun j a b => (h.2.2 j (by omega)).trans (s0 j a b), (h.2.2 633 (by omega)).trans s1, (h.2.2 634 (by omega)).trans s2, (h.2.2 635 (by omega)).trans s3, (h.2.2 636 (by omega)).trans s4, (h.2.2 640 (by omega)).trans s5, (h.2.2 641 (by omega)).trans s6, (h.2.2 642 (by omega)).trans s7, trivial⟩⟩)
/-- WModel.foretold -/
theorem m_foretold {xs : Nat × (Nat → Int32)} (p0 : Int) (p1 : Int) (h0 : -2147483648 ≤ p0 ∧ p0 ≤ 2147483647) (h1 : -2147483648 ≤ p1 ∧ p1 ≤ 2147483647) (σ : ZS) (hI : Inv σ) (hm : ∀ t i k j, 35 ≤ t → σ t i k j = σ0 t i k j)  : CT xs 4 181 [av 35 0 0, iv p0, iv p1] σ (fun v σ' => ∃ y, v = some (iv y) ∧ ((y = 1000 ∧ (¬ (0 ≤ p0 ∧ p0 ≤ 24) ∨ ¬ (0 ≤ p1 ∧ p1 ≤ 200))) ∨ (y = 0 ∧ ¬ (¬ (0 ≤ p0 ∧ p0 ≤ 24) ∨ ¬ (0 ≤ p1 ∧ p1 ≤ 200)))) ∧ IF MFm σ σ' ∧ (True)) := by
  refine G_ct (J := (fun σ' => IF MFm σ σ' ∧ (∀ j, 25 ≤ j → j < 50 → σ' 36 0 0 j = 0) ∧ σ' 36 0 0 633 = 0 ∧ σ' 36 0 0 634 = 0 ∧ σ' 36 0 0 635 = 0 ∧ σ' 36 0 0 636 = 0 ∧ σ' 36 0 0 640 = 0 ∧ σ' 36 0 0 641 = 0 ∧ σ' 36 0 0 642 = 0 ∧ (∀ j, 0 ≤ j → j < 25 → σ' 54 0 0 j = 0) ∧ True)) (L := [(0, av 35 0 0), (1, iv p0), (2, iv p1)]) (nL := 4) rfl rfl rfl ⟨IF.rf hI, (fun j a b => ((hm _ _ _ _ (by decide)).trans (s0_z (by omega)))), ((hm _ _ _ _ (by decide)).trans (s0_z (by omega))), ((hm _ _ _ _ (by decide)).trans (s0_z (by omega))), ((hm _ _ _ _ (by decide)).trans (s0_z (by omega))), ((hm _ _ _ _ (by decide)).trans (s0_z (by omega))), ((hm _ _ _ _ (by decide)).trans (s0_z (by omega))), ((hm _ _ _ _ (by decide)).trans (s0_z (by omega))), ((hm _ _ _ _ (by decide)).trans (s0_z (by omega))), (fun j a b => hm _ _ _ _ (by decide)), trivial⟩ ?_
  refine T_ld zk_181_0 rfl rfl rfl (pc' := 1) rfl ?_
  refine T_calli (K := fun y1 σ' => ((y1 = 0 ∧ (p0 < 0 ∨ 24 < p0)) ∨ (y1 = 1 ∧ 0 ≤ p0 ∧ p0 ≤ 24)) ∧ (fun σ' => IF MFm σ σ' ∧ (∀ j, 25 ≤ j → j < 50 → σ' 36 0 0 j = 0) ∧ σ' 36 0 0 633 = 0 ∧ σ' 36 0 0 634 = 0 ∧ σ' 36 0 0 635 = 0 ∧ σ' 36 0 0 636 = 0 ∧ σ' 36 0 0 640 = 0 ∧ σ' 36 0 0 641 = 0 ∧ σ' 36 0 0 642 = 0 ∧ (∀ j, 0 ≤ j → j < 25 → σ' 54 0 0 j = 0) ∧ True) σ') (r := []) zk_181_1 rfl rfl rfl rfl rfl rfl (Or.inl (Or.inl rfl)) (fun σ' h => (m_124 p0 (by omega) σ' h.1.1 ).le (Nat.le_of_ble_eq_true rfl) (fun v σ2 ⟨y, h1, h2, h3, h4⟩ => ⟨y, h1, h2, h.1.tr h3 MN_sub, fun j a b => (h3.2 _ _ _ _ (fun q => q)).trans (h.2.1 j a b), (h3.2 _ _ _ _ (fun q => q)).trans (h.2.2.1), (h3.2 _ _ _ _ (fun q => q)).trans (h.2.2.2.1), (h3.2 _ _ _ _ (fun q => q)).trans (h.2.2.2.2.1), (h3.2 _ _ _ _ (fun q => q)).trans (h.2.2.2.2.2.1), (h3.2 _ _ _ _ (fun q => q)).trans (h.2.2.2.2.2.2.1), (h3.2 _ _ _ _ (fun q => q)).trans (h.2.2.2.2.2.2.2.1), (h3.2 _ _ _ _ (fun q => q)).trans (h.2.2.2.2.2.2.2.2.1), fun j a b => (h3.2 _ _ _ _ (fun q => q)).trans (h.2.2.2.2.2.2.2.2.2.1 j a b), trivial⟩)) (pc' := 4) rfl (fun y1 => ?_)
  refine G_ex (fun hy1 => ?_)
  refine T_if_eq zk_181_4 (by omega) (pc' := 7) rfl (fun h2 => ?_) (fun h3 => ?_)
  ·
    refine T_op zk_181_18 rfl (X_si (v := 1000) (by decide)) (pc' := 21) rfl ?_
    exact T_iret zk_181_21 rfl (fun σ' h => ⟨_, rfl, (by omega), h.1, trivial⟩)
  ·
    refine T_ld zk_181_7 rfl rfl rfl (pc' := 8) rfl ?_
    refine T_if_lt zk_181_8 (by omega) (pc' := 11) rfl (fun h4 => ?_) (fun h5 => ?_)
    ·
      refine T_op zk_181_18 rfl (X_si (v := 1000) (by decide)) (pc' := 21) rfl ?_
      exact T_iret zk_181_21 rfl (fun σ' h => ⟨_, rfl, (by omega), h.1, trivial⟩)
    ·
      refine T_ld zk_181_11 rfl rfl rfl (pc' := 12) rfl ?_
      refine T_op zk_181_12 rfl (X_si (v := 200) (by decide)) (pc' := 15) rfl ?_
      refine T_icmp_le zk_181_15 (by omega) (by omega) (pc' := 18) rfl (fun h6 => ?_) (fun h7 => ?_)
      ·
        refine T_ld zk_181_22 rfl rfl rfl (pc' := 23) rfl ?_
        refine T_ld zk_181_23 rfl rfl rfl (pc' := 24) rfl ?_
        refine T_getR (t' := 36) (i' := 0) (k' := 0) zk_181_24 rfl rfl rfl vd_35 (pc' := 27) rfl ?_
        refine T_ld zk_181_27 rfl rfl rfl (pc' := 28) rfl ?_
        refine T_getR (t' := 36) (i' := 0) (k' := 1) zk_181_28 rfl rfl rfl vd_35 (pc' := 31) rfl ?_
        refine T_callv (J' := (fun σ' => IF MFm σ σ' ∧ (∀ j, 25 ≤ j → j < 50 → σ' 36 0 0 j = 0) ∧ σ' 36 0 0 633 = 0 ∧ σ' 36 0 0 634 = 0 ∧ σ' 36 0 0 635 = 0 ∧ σ' 36 0 0 636 = 0 ∧ σ' 36 0 0 640 = 0 ∧ σ' 36 0 0 641 = 0 ∧ σ' 36 0 0 642 = 0 ∧ (∀ j, 0 ≤ j → j < 25 → σ' 54 0 0 j = 0) ∧ (∀ j, 25 ≤ j → j < 50 → σ' 36 0 1 j = 0) ∧ σ' 36 0 1 633 = 0 ∧ σ' 36 0 1 634 = 0 ∧ σ' 36 0 1 635 = 0 ∧ σ' 36 0 1 636 = 0 ∧ σ' 36 0 1 640 = 0 ∧ σ' 36 0 1 641 = 0 ∧ σ' 36 0 1 642 = 0 ∧ True)) (r := []) zk_181_31 rfl rfl rfl rfl rfl rfl (Or.inr ⟨_, _, _, _, rfl, vd_35, rfl⟩) (fun σ' h => (m_179_01k   σ' h.1.1 (fun j a b => h.2.1 j (by omega) (by omega)) (h.2.2.1) (h.2.2.2.1) (h.2.2.2.2.1) (h.2.2.2.2.2.1) (h.2.2.2.2.2.2.1) (h.2.2.2.2.2.2.2.1) (h.2.2.2.2.2.2.2.2.1)).le (Nat.le_of_ble_eq_true rfl) (fun v σ2 ⟨h1, h3, h4⟩ => ⟨h1, h.1.tr h3 (fun t i k j h => by unfold MV at h; unfold MFm; omega), fun j a b => (h3.2 _ _ _ _ (by unfold MV; omega)).trans (h.2.1 j a b), (h3.2 _ _ _ _ (by unfold MV; omega)).trans (h.2.2.1), (h3.2 _ _ _ _ (by unfold MV; omega)).trans (h.2.2.2.1), (h3.2 _ _ _ _ (by unfold MV; omega)).trans (h.2.2.2.2.1), (h3.2 _ _ _ _ (by unfold MV; omega)).trans (h.2.2.2.2.2.1), (h3.2 _ _ _ _ (by unfold MV; omega)).trans (h.2.2.2.2.2.2.1), (h3.2 _ _ _ _ (by unfold MV; omega)).trans (h.2.2.2.2.2.2.2.1), (h3.2 _ _ _ _ (by unfold MV; omega)).trans (h.2.2.2.2.2.2.2.2.1), fun j a b => (h3.2 _ _ _ _ (by unfold MV; omega)).trans (h.2.2.2.2.2.2.2.2.2.1 j a b), h4.1, h4.2.1, h4.2.2.1, h4.2.2.2.1, h4.2.2.2.2.1, h4.2.2.2.2.2.1, h4.2.2.2.2.2.2.1, h4.2.2.2.2.2.2.2.1, trivial⟩)) (pc' := 34) rfl ?_
        refine T_op zk_181_34 rfl X_ic (pc' := 35) rfl ?_
        refine T_st (L' := [(0, av 35 0 0), (1, iv p0), (2, iv p1), (3, iv 0)]) zk_181_35 (nL := 4) rfl rfl rfl rfl rfl (pc' := 36) rfl ?_
        refine G_know (J' := (fun σ' => IF MFm σ σ' ∧ (∀ j, 25 ≤ j → j < 50 → σ' 36 0 0 j = 0) ∧ σ' 36 0 0 633 = 0 ∧ σ' 36 0 0 635 = 0 ∧ σ' 36 0 0 636 = 0 ∧ σ' 36 0 0 640 = 0 ∧ σ' 36 0 0 641 = 0 ∧ σ' 36 0 0 642 = 0 ∧ (∀ j, 0 ≤ j → j < 25 → σ' 54 0 0 j = 0) ∧ (∀ j, 25 ≤ j → j < 50 → σ' 36 0 1 j = 0) ∧ σ' 36 0 1 633 = 0 ∧ σ' 36 0 1 634 = 0 ∧ σ' 36 0 1 635 = 0 ∧ σ' 36 0 1 636 = 0 ∧ σ' 36 0 1 640 = 0 ∧ σ' 36 0 1 641 = 0 ∧ σ' 36 0 1 642 = 0 ∧ σ' 36 0 0 634 = 0 ∧ True)) (fun σ' h => ⟨h.1, h.2.1, h.2.2.1, h.2.2.2.2.1, h.2.2.2.2.2.1, h.2.2.2.2.2.2.1, h.2.2.2.2.2.2.2.1, h.2.2.2.2.2.2.2.2.1, h.2.2.2.2.2.2.2.2.2.1, h.2.2.2.2.2.2.2.2.2.2.1, h.2.2.2.2.2.2.2.2.2.2.2.1, h.2.2.2.2.2.2.2.2.2.2.2.2.1, h.2.2.2.2.2.2.2.2.2.2.2.2.2.1, h.2.2.2.2.2.2.2.2.2.2.2.2.2.2.1, h.2.2.2.2.2.2.2.2.2.2.2.2.2.2.2.1, h.2.2.2.2.2.2.2.2.2.2.2.2.2.2.2.2.1, h.2.2.2.2.2.2.2.2.2.2.2.2.2.2.2.2.2.1, h.2.2.2.1, trivial⟩) ?_
        refine T_loop1 (fun x9 => ((200 - x9 : Int)).toNat) (fun x9 => (0 ≤ x9 ∧ x9 ≤ 200)) (fun x9 => TJ xs (fun σ' => IF MFm σ σ' ∧ (∀ j, 25 ≤ j → j < 50 → σ' 36 0 0 j = 0) ∧ σ' 36 0 0 633 = 0 ∧ σ' 36 0 0 635 = 0 ∧ σ' 36 0 0 636 = 0 ∧ σ' 36 0 0 640 = 0 ∧ σ' 36 0 0 641 = 0 ∧ σ' 36 0 0 642 = 0 ∧ (∀ j, 0 ≤ j → j < 25 → σ' 54 0 0 j = 0) ∧ (∀ j, 25 ≤ j → j < 50 → σ' 36 0 1 j = 0) ∧ σ' 36 0 1 633 = 0 ∧ σ' 36 0 1 634 = 0 ∧ σ' 36 0 1 635 = 0 ∧ σ' 36 0 1 636 = 0 ∧ σ' 36 0 1 640 = 0 ∧ σ' 36 0 1 641 = 0 ∧ σ' 36 0 1 642 = 0 ∧ σ' 36 0 0 634 = x9 ∧ True) 3 181 36 [(0, av 35 0 0), (1, iv p0), (2, iv p1), (3, iv x9)] [] _) ?_ 0 (by omega)
        intro x9 hp11 ih10
        refine T_ld zk_181_36 rfl rfl rfl (pc' := 37) rfl ?_
        refine T_ld zk_181_37 rfl rfl rfl (pc' := 38) rfl ?_
        refine T_icmp_ge zk_181_38 (by omega) (by omega) (pc' := 41) rfl (fun h12 => ?_) (fun h13 => ?_)
        ·
          refine T_ld zk_181_57 rfl rfl rfl (pc' := 58) rfl ?_
          refine T_getR (t' := 36) (i' := 0) (k' := 0) zk_181_58 rfl rfl rfl vd_35 (pc' := 61) rfl ?_
          refine T_op zk_181_61 rfl (X_bi (v := 25) (by decide)) (pc' := 63) rfl ?_
          refine T_ld zk_181_63 rfl rfl rfl (pc' := 64) rfl ?_
          refine T_op zk_181_64 rfl X_add (pc' := 65) rfl ?_
          refine G_ialdX (w := 0) (ln := 646) zk_181_65 rfl rfl (vd_36 (by omega)) (by omega) (by omega) (by omega) (fun σ' h => h.2.1 _ (by omega) (by omega)) (pc' := 66) rfl ?_
          refine T_st (L' := [(0, av 35 0 0), (1, iv p0), (2, iv p1), (3, iv 0)]) zk_181_66 (nL := 4) rfl rfl rfl rfl rfl (pc' := 67) rfl ?_
          refine T_ld zk_181_67 rfl rfl rfl (pc' := 68) rfl ?_
          refine T_ld zk_181_68 rfl rfl rfl (pc' := 69) rfl ?_
          refine T_getR (t' := 36) (i' := 0) (k' := 1) zk_181_69 rfl rfl rfl vd_35 (pc' := 72) rfl ?_
          refine T_ld zk_181_72 rfl rfl rfl (pc' := 73) rfl ?_
          refine T_getR (t' := 36) (i' := 0) (k' := 0) zk_181_73 rfl rfl rfl vd_35 (pc' := 76) rfl ?_
          refine T_callv (J' := (fun σ' => IF MFm σ σ' ∧ (∀ j, 0 ≤ j → j < 25 → σ' 54 0 0 j = 0) ∧ (∀ j, 25 ≤ j → j < 50 → σ' 36 0 1 j = 0) ∧ σ' 36 0 1 633 = 0 ∧ σ' 36 0 1 634 = 0 ∧ σ' 36 0 1 635 = 0 ∧ σ' 36 0 1 636 = 0 ∧ σ' 36 0 1 640 = 0 ∧ σ' 36 0 1 641 = 0 ∧ σ' 36 0 1 642 = 0 ∧ (∀ j, 25 ≤ j → j < 50 → σ' 36 0 0 j = 0) ∧ σ' 36 0 0 633 = 0 ∧ σ' 36 0 0 634 = 0 ∧ σ' 36 0 0 635 = 0 ∧ σ' 36 0 0 636 = 0 ∧ σ' 36 0 0 640 = 0 ∧ σ' 36 0 0 641 = 0 ∧ σ' 36 0 0 642 = 0 ∧ True)) (r := []) zk_181_76 rfl rfl rfl rfl rfl rfl (Or.inr ⟨_, _, _, _, rfl, vd_35, rfl⟩) (fun σ' h => (m_179_10k   σ' h.1.1 (fun j a b => h.2.2.2.2.2.2.2.2.2.1 j (by omega) (by omega)) (h.2.2.2.2.2.2.2.2.2.2.1) (h.2.2.2.2.2.2.2.2.2.2.2.1) (h.2.2.2.2.2.2.2.2.2.2.2.2.1) (h.2.2.2.2.2.2.2.2.2.2.2.2.2.1) (h.2.2.2.2.2.2.2.2.2.2.2.2.2.2.1) (h.2.2.2.2.2.2.2.2.2.2.2.2.2.2.2.1) (h.2.2.2.2.2.2.2.2.2.2.2.2.2.2.2.2.1)).le (Nat.le_of_ble_eq_true rfl) (fun v σ2 ⟨h1, h3, h4⟩ => ⟨h1, h.1.tr h3 (fun t i k j h => by unfold MV at h; unfold MFm; omega), fun j a b => (h3.2 _ _ _ _ (by unfold MV; omega)).trans (h.2.2.2.2.2.2.2.2.1 j a b), fun j a b => (h3.2 _ _ _ _ (by unfold MV; omega)).trans (h.2.2.2.2.2.2.2.2.2.1 j a b), (h3.2 _ _ _ _ (by unfold MV; omega)).trans (h.2.2.2.2.2.2.2.2.2.2.1), (h3.2 _ _ _ _ (by unfold MV; omega)).trans (h.2.2.2.2.2.2.2.2.2.2.2.1), (h3.2 _ _ _ _ (by unfold MV; omega)).trans (h.2.2.2.2.2.2.2.2.2.2.2.2.1), (h3.2 _ _ _ _ (by unfold MV; omega)).trans (h.2.2.2.2.2.2.2.2.2.2.2.2.2.1), (h3.2 _ _ _ _ (by unfold MV; omega)).trans (h.2.2.2.2.2.2.2.2.2.2.2.2.2.2.1), (h3.2 _ _ _ _ (by unfold MV; omega)).trans (h.2.2.2.2.2.2.2.2.2.2.2.2.2.2.2.1), (h3.2 _ _ _ _ (by unfold MV; omega)).trans (h.2.2.2.2.2.2.2.2.2.2.2.2.2.2.2.2.1), h4.1, h4.2.1, h4.2.2.1, h4.2.2.2.1, h4.2.2.2.2.1, h4.2.2.2.2.2.1, h4.2.2.2.2.2.2.1, h4.2.2.2.2.2.2.2.1, trivial⟩)) (pc' := 79) rfl ?_
          refine T_ld zk_181_79 rfl rfl rfl (pc' := 80) rfl ?_
          exact T_iret zk_181_80 rfl (fun σ' h => ⟨_, rfl, (by omega), h.1, trivial⟩)
        ·
          refine T_ld zk_181_41 rfl rfl rfl (pc' := 42) rfl ?_
          refine T_op zk_181_42 rfl X_ic (pc' := 43) rfl ?_
          refine T_callv (J' := (fun σ' => IF MFm σ σ' ∧ σ' 36 0 0 633 = 0 ∧ σ' 36 0 0 635 = 0 ∧ σ' 36 0 0 636 = 0 ∧ σ' 36 0 0 640 = 0 ∧ σ' 36 0 0 641 = 0 ∧ σ' 36 0 0 642 = 0 ∧ (∀ j, 25 ≤ j → j < 50 → σ' 36 0 1 j = 0) ∧ σ' 36 0 1 633 = 0 ∧ σ' 36 0 1 634 = 0 ∧ σ' 36 0 1 635 = 0 ∧ σ' 36 0 1 636 = 0 ∧ σ' 36 0 1 640 = 0 ∧ σ' 36 0 1 641 = 0 ∧ σ' 36 0 1 642 = 0 ∧ σ' 36 0 0 634 = x9 ∧ (∀ j, 25 ≤ j → j < 50 → σ' 36 0 0 j = 0) ∧ (∀ j, 0 ≤ j → j < 25 → σ' 54 0 0 j = 0) ∧ True)) (r := []) zk_181_43 rfl rfl rfl rfl rfl rfl (Or.inr ⟨_, _, _, _, rfl, vd_35, rfl⟩) (fun σ' h => (m_175e 1 (by omega) σ' h.1.1 (h.2.2.1) (h.2.2.2.1) (h.2.2.2.2.1) (fun j a b => h.2.1 j (by omega) (by omega)) (fun j a b => h.2.2.2.2.2.2.2.2.1 j (by omega) (by omega))).le (Nat.le_of_ble_eq_true rfl) (fun v σ2 ⟨h1, h3, h4⟩ => ⟨h1, h.1.tr h3 (fun t i k j h => by unfold MWt at h; unfold MFm; omega), (h3.2 _ _ _ _ (by unfold MWt; omega)).trans (h.2.2.1), (h3.2 _ _ _ _ (by unfold MWt; omega)).trans (h.2.2.2.1), (h3.2 _ _ _ _ (by unfold MWt; omega)).trans (h.2.2.2.2.1), (h3.2 _ _ _ _ (by unfold MWt; omega)).trans (h.2.2.2.2.2.1), (h3.2 _ _ _ _ (by unfold MWt; omega)).trans (h.2.2.2.2.2.2.1), (h3.2 _ _ _ _ (by unfold MWt; omega)).trans (h.2.2.2.2.2.2.2.1), fun j a b => (h3.2 _ _ _ _ (by unfold MWt; omega)).trans (h.2.2.2.2.2.2.2.2.2.1 j a b), (h3.2 _ _ _ _ (by unfold MWt; omega)).trans (h.2.2.2.2.2.2.2.2.2.2.1), (h3.2 _ _ _ _ (by unfold MWt; omega)).trans (h.2.2.2.2.2.2.2.2.2.2.2.1), (h3.2 _ _ _ _ (by unfold MWt; omega)).trans (h.2.2.2.2.2.2.2.2.2.2.2.2.1), (h3.2 _ _ _ _ (by unfold MWt; omega)).trans (h.2.2.2.2.2.2.2.2.2.2.2.2.2.1), (h3.2 _ _ _ _ (by unfold MWt; omega)).trans (h.2.2.2.2.2.2.2.2.2.2.2.2.2.2.1), (h3.2 _ _ _ _ (by unfold MWt; omega)).trans (h.2.2.2.2.2.2.2.2.2.2.2.2.2.2.2.1), (h3.2 _ _ _ _ (by unfold MWt; omega)).trans (h.2.2.2.2.2.2.2.2.2.2.2.2.2.2.2.2.1), (h3.2 _ _ _ _ (by unfold MWt; omega)).trans (h.2.2.2.2.2.2.2.2.2.2.2.2.2.2.2.2.2.1), h4.1, h4.2.1, trivial⟩)) (pc' := 46) rfl ?_
          refine T_ld zk_181_46 rfl rfl rfl (pc' := 47) rfl ?_
          refine T_op zk_181_47 rfl X_ic (pc' := 48) rfl ?_
          refine T_callv (J' := (fun σ' => IF MFm σ σ' ∧ σ' 36 0 0 633 = 0 ∧ σ' 36 0 0 635 = 0 ∧ σ' 36 0 0 636 = 0 ∧ σ' 36 0 0 640 = 0 ∧ σ' 36 0 0 641 = 0 ∧ σ' 36 0 0 642 = 0 ∧ (∀ j, 25 ≤ j → j < 50 → σ' 36 0 1 j = 0) ∧ σ' 36 0 1 633 = 0 ∧ σ' 36 0 1 634 = 0 ∧ σ' 36 0 1 635 = 0 ∧ σ' 36 0 1 636 = 0 ∧ σ' 36 0 1 640 = 0 ∧ σ' 36 0 1 641 = 0 ∧ σ' 36 0 1 642 = 0 ∧ (∀ j, 25 ≤ j → j < 50 → σ' 36 0 0 j = 0) ∧ (∀ j, 0 ≤ j → j < 25 → σ' 54 0 0 j = 0) ∧ σ' 36 0 0 634 = x9 + 1 ∧ True)) (r := []) zk_181_48 rfl rfl rfl rfl rfl rfl (Or.inr ⟨_, _, _, _, rfl, vd_35, rfl⟩) (fun σ' h => (m_177e 1 x9 (by omega) (by omega) σ' h.1.1 (h.2.1) (h.2.2.2.2.2.1) (h.2.2.2.2.2.2.1) (h.2.2.2.2.2.2.2.2.2.2.2.2.2.2.2.1)).le (Nat.le_of_ble_eq_true rfl) (fun v σ2 ⟨h1, h3, h4⟩ => ⟨h1, h.1.tr h3 (fun t i k j h => by unfold MLv at h; unfold MFm; omega), (h3.2 _ _ _ _ (by unfold MLv; omega)).trans (h.2.1), (h3.2 _ _ _ _ (by unfold MLv; omega)).trans (h.2.2.1), (h3.2 _ _ _ _ (by unfold MLv; omega)).trans (h.2.2.2.1), (h3.2 _ _ _ _ (by unfold MLv; omega)).trans (h.2.2.2.2.1), (h3.2 _ _ _ _ (by unfold MLv; omega)).trans (h.2.2.2.2.2.1), (h3.2 _ _ _ _ (by unfold MLv; omega)).trans (h.2.2.2.2.2.2.1), fun j a b => (h3.2 _ _ _ _ (by unfold MLv; omega)).trans (h.2.2.2.2.2.2.2.1 j a b), (h3.2 _ _ _ _ (by unfold MLv; omega)).trans (h.2.2.2.2.2.2.2.2.1), (h3.2 _ _ _ _ (by unfold MLv; omega)).trans (h.2.2.2.2.2.2.2.2.2.1), (h3.2 _ _ _ _ (by unfold MLv; omega)).trans (h.2.2.2.2.2.2.2.2.2.2.1), (h3.2 _ _ _ _ (by unfold MLv; omega)).trans (h.2.2.2.2.2.2.2.2.2.2.2.1), (h3.2 _ _ _ _ (by unfold MLv; omega)).trans (h.2.2.2.2.2.2.2.2.2.2.2.2.1), (h3.2 _ _ _ _ (by unfold MLv; omega)).trans (h.2.2.2.2.2.2.2.2.2.2.2.2.2.1), (h3.2 _ _ _ _ (by unfold MLv; omega)).trans (h.2.2.2.2.2.2.2.2.2.2.2.2.2.2.1), fun j a b => (h3.2 _ _ _ _ (by unfold MLv; omega)).trans (h.2.2.2.2.2.2.2.2.2.2.2.2.2.2.2.2.1 j a b), fun j a b => (h3.2 _ _ _ _ (by unfold MLv; omega)).trans (h.2.2.2.2.2.2.2.2.2.2.2.2.2.2.2.2.2.1 j a b), h4.1, trivial⟩)) (pc' := 51) rfl ?_
          refine T_iinc (L' := [(0, av 35 0 0), (1, iv p0), (2, iv p1), (3, iv (x9 + 1))]) zk_181_51 (nL := 4) rfl rfl rfl rfl (pc' := 54) rfl ?_
          refine T_goto zk_181_54 ?_
          refine G_know (J' := (fun σ' => IF MFm σ σ' ∧ (∀ j, 25 ≤ j → j < 50 → σ' 36 0 0 j = 0) ∧ σ' 36 0 0 633 = 0 ∧ σ' 36 0 0 635 = 0 ∧ σ' 36 0 0 636 = 0 ∧ σ' 36 0 0 640 = 0 ∧ σ' 36 0 0 641 = 0 ∧ σ' 36 0 0 642 = 0 ∧ (∀ j, 0 ≤ j → j < 25 → σ' 54 0 0 j = 0) ∧ (∀ j, 25 ≤ j → j < 50 → σ' 36 0 1 j = 0) ∧ σ' 36 0 1 633 = 0 ∧ σ' 36 0 1 634 = 0 ∧ σ' 36 0 1 635 = 0 ∧ σ' 36 0 1 636 = 0 ∧ σ' 36 0 1 640 = 0 ∧ σ' 36 0 1 641 = 0 ∧ σ' 36 0 1 642 = 0 ∧ σ' 36 0 0 634 = (x9 + 1) ∧ True)) (fun σ' h => ⟨h.1, h.2.2.2.2.2.2.2.2.2.2.2.2.2.2.2.1, h.2.1, h.2.2.1, h.2.2.2.1, h.2.2.2.2.1, h.2.2.2.2.2.1, h.2.2.2.2.2.2.1, h.2.2.2.2.2.2.2.2.2.2.2.2.2.2.2.2.1, h.2.2.2.2.2.2.2.1, h.2.2.2.2.2.2.2.2.1, h.2.2.2.2.2.2.2.2.2.1, h.2.2.2.2.2.2.2.2.2.2.1, h.2.2.2.2.2.2.2.2.2.2.2.1, h.2.2.2.2.2.2.2.2.2.2.2.2.1, h.2.2.2.2.2.2.2.2.2.2.2.2.2.1, h.2.2.2.2.2.2.2.2.2.2.2.2.2.2.1, (h.2.2.2.2.2.2.2.2.2.2.2.2.2.2.2.2.2.1).trans (by omega), trivial⟩) ?_
          exact ih10 (x9 + 1) (by omega) (by omega)
      ·
        refine T_op zk_181_18 rfl (X_si (v := 1000) (by decide)) (pc' := 21) rfl ?_
        exact T_iret zk_181_21 rfl (fun σ' h => ⟨_, rfl, (by omega), h.1, trivial⟩)
/-- WModel.best -/
theorem m_best {xs : Nat × (Nat → Int32)} (p0 : Int) (p1 : Int) (h0 : -2147483648 ≤ p0 ∧ p0 ≤ 2147483647) (h1 : -2147483648 ≤ p1 ∧ p1 ≤ 2147483647) (σ : ZS) (hI : Inv σ) (hm : ∀ t i k j, 35 ≤ t → σ t i k j = σ0 t i k j)  : CT xs 4 182 [av 35 0 0, iv p0, iv p1] σ (fun v σ' => ∃ y, v = some (iv y) ∧ ((y = -6 ∧ (¬ (1 ≤ p0 ∧ p0 ≤ 48) ∨ ¬ (0 ≤ p1 ∧ p1 ≤ 1))) ∨ (y = 0 ∧ ¬ (¬ (1 ≤ p0 ∧ p0 ≤ 48) ∨ ¬ (0 ≤ p1 ∧ p1 ≤ 1)))) ∧ IF MFm σ σ' ∧ (True)) := by
  refine G_ct (J := (fun σ' => IF MFm σ σ' ∧ (∀ j, 25 ≤ j → j < 50 → σ' 36 0 0 j = 0) ∧ σ' 36 0 0 633 = 0 ∧ σ' 36 0 0 634 = 0 ∧ σ' 36 0 0 635 = 0 ∧ σ' 36 0 0 636 = 0 ∧ σ' 36 0 0 640 = 0 ∧ σ' 36 0 0 641 = 0 ∧ σ' 36 0 0 642 = 0 ∧ (∀ j, 0 ≤ j → j < 25 → σ' 54 0 0 j = 0) ∧ True)) (L := [(0, av 35 0 0), (1, iv p0), (2, iv p1)]) (nL := 7) rfl rfl rfl ⟨IF.rf hI, (fun j a b => ((hm _ _ _ _ (by decide)).trans (s0_z (by omega)))), ((hm _ _ _ _ (by decide)).trans (s0_z (by omega))), ((hm _ _ _ _ (by decide)).trans (s0_z (by omega))), ((hm _ _ _ _ (by decide)).trans (s0_z (by omega))), ((hm _ _ _ _ (by decide)).trans (s0_z (by omega))), ((hm _ _ _ _ (by decide)).trans (s0_z (by omega))), ((hm _ _ _ _ (by decide)).trans (s0_z (by omega))), ((hm _ _ _ _ (by decide)).trans (s0_z (by omega))), (fun j a b => hm _ _ _ _ (by decide)), trivial⟩ ?_
  refine T_ld zk_182_0 rfl rfl rfl (pc' := 1) rfl ?_
  refine T_op zk_182_1 rfl X_ic (pc' := 2) rfl ?_
  refine T_icmp_lt zk_182_2 (by omega) (by omega) (pc' := 5) rfl (fun h1 => ?_) (fun h2 => ?_)
  ·
    refine T_ld zk_182_20 rfl rfl rfl (pc' := 21) rfl ?_
    refine T_op zk_182_21 rfl (X_bi (v := -6) (by decide)) (pc' := 23) rfl ?_
    refine T_calli (K := fun y3 σ' => (y3 = (-6)) ∧ (fun σ' => IF MFm σ σ' ∧ (∀ j, 25 ≤ j → j < 50 → σ' 36 0 0 j = 0) ∧ σ' 36 0 0 633 = 0 ∧ σ' 36 0 0 634 = 0 ∧ σ' 36 0 0 635 = 0 ∧ σ' 36 0 0 636 = 0 ∧ σ' 36 0 0 640 = 0 ∧ σ' 36 0 0 641 = 0 ∧ σ' 36 0 0 642 = 0 ∧ (∀ j, 0 ≤ j → j < 25 → σ' 54 0 0 j = 0) ∧ True) σ') (r := []) zk_182_23 rfl rfl rfl rfl rfl rfl (Or.inr ⟨_, _, _, _, rfl, vd_35, rfl⟩) (fun σ' h => (m_123 ((-6)) (by omega) σ' h.1.1 ).le (Nat.le_of_ble_eq_true rfl) (fun v σ2 ⟨y, h1, h2, h3, h4⟩ => ⟨y, h1, h2, h.1.tr h3 (fun t i k j h => by unfold MT at h; unfold MFm; omega), fun j a b => (h3.2 _ _ _ _ (by unfold MT; omega)).trans (h.2.1 j a b), (h3.2 _ _ _ _ (by unfold MT; omega)).trans (h.2.2.1), (h3.2 _ _ _ _ (by unfold MT; omega)).trans (h.2.2.2.1), (h3.2 _ _ _ _ (by unfold MT; omega)).trans (h.2.2.2.2.1), (h3.2 _ _ _ _ (by unfold MT; omega)).trans (h.2.2.2.2.2.1), (h3.2 _ _ _ _ (by unfold MT; omega)).trans (h.2.2.2.2.2.2.1), (h3.2 _ _ _ _ (by unfold MT; omega)).trans (h.2.2.2.2.2.2.2.1), (h3.2 _ _ _ _ (by unfold MT; omega)).trans (h.2.2.2.2.2.2.2.2.1), fun j a b => (h3.2 _ _ _ _ (by unfold MT; omega)).trans (h.2.2.2.2.2.2.2.2.2.1 j a b), trivial⟩)) (pc' := 26) rfl (fun y3 => ?_)
    refine G_ex (fun hy3 => ?_)
    obtain rfl : y3 = (-6) := by omega
    exact T_iret zk_182_26 rfl (fun σ' h => ⟨_, rfl, (by omega), h.1, trivial⟩)
  ·
    refine T_ld zk_182_5 rfl rfl rfl (pc' := 6) rfl ?_
    refine T_op zk_182_6 rfl (X_bi (v := 48) (by decide)) (pc' := 8) rfl ?_
    refine T_icmp_gt zk_182_8 (by omega) (by omega) (pc' := 11) rfl (fun h4 => ?_) (fun h5 => ?_)
    ·
      refine T_ld zk_182_20 rfl rfl rfl (pc' := 21) rfl ?_
      refine T_op zk_182_21 rfl (X_bi (v := -6) (by decide)) (pc' := 23) rfl ?_
      refine T_calli (K := fun y6 σ' => (y6 = (-6)) ∧ (fun σ' => IF MFm σ σ' ∧ (∀ j, 25 ≤ j → j < 50 → σ' 36 0 0 j = 0) ∧ σ' 36 0 0 633 = 0 ∧ σ' 36 0 0 634 = 0 ∧ σ' 36 0 0 635 = 0 ∧ σ' 36 0 0 636 = 0 ∧ σ' 36 0 0 640 = 0 ∧ σ' 36 0 0 641 = 0 ∧ σ' 36 0 0 642 = 0 ∧ (∀ j, 0 ≤ j → j < 25 → σ' 54 0 0 j = 0) ∧ True) σ') (r := []) zk_182_23 rfl rfl rfl rfl rfl rfl (Or.inr ⟨_, _, _, _, rfl, vd_35, rfl⟩) (fun σ' h => (m_123 ((-6)) (by omega) σ' h.1.1 ).le (Nat.le_of_ble_eq_true rfl) (fun v σ2 ⟨y, h1, h2, h3, h4⟩ => ⟨y, h1, h2, h.1.tr h3 (fun t i k j h => by unfold MT at h; unfold MFm; omega), fun j a b => (h3.2 _ _ _ _ (by unfold MT; omega)).trans (h.2.1 j a b), (h3.2 _ _ _ _ (by unfold MT; omega)).trans (h.2.2.1), (h3.2 _ _ _ _ (by unfold MT; omega)).trans (h.2.2.2.1), (h3.2 _ _ _ _ (by unfold MT; omega)).trans (h.2.2.2.2.1), (h3.2 _ _ _ _ (by unfold MT; omega)).trans (h.2.2.2.2.2.1), (h3.2 _ _ _ _ (by unfold MT; omega)).trans (h.2.2.2.2.2.2.1), (h3.2 _ _ _ _ (by unfold MT; omega)).trans (h.2.2.2.2.2.2.2.1), (h3.2 _ _ _ _ (by unfold MT; omega)).trans (h.2.2.2.2.2.2.2.2.1), fun j a b => (h3.2 _ _ _ _ (by unfold MT; omega)).trans (h.2.2.2.2.2.2.2.2.2.1 j a b), trivial⟩)) (pc' := 26) rfl (fun y6 => ?_)
      refine G_ex (fun hy6 => ?_)
      obtain rfl : y6 = (-6) := by omega
      exact T_iret zk_182_26 rfl (fun σ' h => ⟨_, rfl, (by omega), h.1, trivial⟩)
    ·
      refine T_ld zk_182_11 rfl rfl rfl (pc' := 12) rfl ?_
      refine T_if_lt zk_182_12 (by omega) (pc' := 15) rfl (fun h7 => ?_) (fun h8 => ?_)
      ·
        refine T_ld zk_182_20 rfl rfl rfl (pc' := 21) rfl ?_
        refine T_op zk_182_21 rfl (X_bi (v := -6) (by decide)) (pc' := 23) rfl ?_
        refine T_calli (K := fun y9 σ' => (y9 = (-6)) ∧ (fun σ' => IF MFm σ σ' ∧ (∀ j, 25 ≤ j → j < 50 → σ' 36 0 0 j = 0) ∧ σ' 36 0 0 633 = 0 ∧ σ' 36 0 0 634 = 0 ∧ σ' 36 0 0 635 = 0 ∧ σ' 36 0 0 636 = 0 ∧ σ' 36 0 0 640 = 0 ∧ σ' 36 0 0 641 = 0 ∧ σ' 36 0 0 642 = 0 ∧ (∀ j, 0 ≤ j → j < 25 → σ' 54 0 0 j = 0) ∧ True) σ') (r := []) zk_182_23 rfl rfl rfl rfl rfl rfl (Or.inr ⟨_, _, _, _, rfl, vd_35, rfl⟩) (fun σ' h => (m_123 ((-6)) (by omega) σ' h.1.1 ).le (Nat.le_of_ble_eq_true rfl) (fun v σ2 ⟨y, h1, h2, h3, h4⟩ => ⟨y, h1, h2, h.1.tr h3 (fun t i k j h => by unfold MT at h; unfold MFm; omega), fun j a b => (h3.2 _ _ _ _ (by unfold MT; omega)).trans (h.2.1 j a b), (h3.2 _ _ _ _ (by unfold MT; omega)).trans (h.2.2.1), (h3.2 _ _ _ _ (by unfold MT; omega)).trans (h.2.2.2.1), (h3.2 _ _ _ _ (by unfold MT; omega)).trans (h.2.2.2.2.1), (h3.2 _ _ _ _ (by unfold MT; omega)).trans (h.2.2.2.2.2.1), (h3.2 _ _ _ _ (by unfold MT; omega)).trans (h.2.2.2.2.2.2.1), (h3.2 _ _ _ _ (by unfold MT; omega)).trans (h.2.2.2.2.2.2.2.1), (h3.2 _ _ _ _ (by unfold MT; omega)).trans (h.2.2.2.2.2.2.2.2.1), fun j a b => (h3.2 _ _ _ _ (by unfold MT; omega)).trans (h.2.2.2.2.2.2.2.2.2.1 j a b), trivial⟩)) (pc' := 26) rfl (fun y9 => ?_)
        refine G_ex (fun hy9 => ?_)
        obtain rfl : y9 = (-6) := by omega
        exact T_iret zk_182_26 rfl (fun σ' h => ⟨_, rfl, (by omega), h.1, trivial⟩)
      ·
        refine T_ld zk_182_15 rfl rfl rfl (pc' := 16) rfl ?_
        refine T_op zk_182_16 rfl X_ic (pc' := 17) rfl ?_
        refine T_icmp_le zk_182_17 (by omega) (by omega) (pc' := 20) rfl (fun h10 => ?_) (fun h11 => ?_)
        ·
          refine T_op zk_182_27 rfl X_ic (pc' := 28) rfl ?_
          refine T_st (L' := [(0, av 35 0 0), (1, iv p0), (2, iv p1), (3, iv (-1))]) zk_182_28 (nL := 7) rfl rfl rfl rfl rfl (pc' := 29) rfl ?_
          refine T_op zk_182_29 rfl X_ic (pc' := 30) rfl ?_
          refine T_st (L' := [(0, av 35 0 0), (1, iv p0), (2, iv p1), (3, iv (-1)), (4, iv 0)]) zk_182_30 (nL := 7) rfl rfl rfl rfl rfl (pc' := 32) rfl ?_
          refine T_ld zk_182_32 rfl rfl rfl (pc' := 33) rfl ?_
          refine T_ld zk_182_33 rfl rfl rfl (pc' := 34) rfl ?_
          refine T_getR (t' := 36) (i' := 0) (k' := 0) zk_182_34 rfl rfl rfl vd_35 (pc' := 37) rfl ?_
          refine T_ld zk_182_37 rfl rfl rfl (pc' := 38) rfl ?_
          refine T_getR (t' := 36) (i' := 0) (k' := 1) zk_182_38 rfl rfl rfl vd_35 (pc' := 41) rfl ?_
          refine T_callv (J' := (fun σ' => IF MFm σ σ' ∧ (∀ j, 25 ≤ j → j < 50 → σ' 36 0 0 j = 0) ∧ σ' 36 0 0 633 = 0 ∧ σ' 36 0 0 634 = 0 ∧ σ' 36 0 0 635 = 0 ∧ σ' 36 0 0 636 = 0 ∧ σ' 36 0 0 640 = 0 ∧ σ' 36 0 0 641 = 0 ∧ σ' 36 0 0 642 = 0 ∧ (∀ j, 0 ≤ j → j < 25 → σ' 54 0 0 j = 0) ∧ (∀ j, 25 ≤ j → j < 50 → σ' 36 0 1 j = 0) ∧ σ' 36 0 1 633 = 0 ∧ σ' 36 0 1 634 = 0 ∧ σ' 36 0 1 635 = 0 ∧ σ' 36 0 1 636 = 0 ∧ σ' 36 0 1 640 = 0 ∧ σ' 36 0 1 641 = 0 ∧ σ' 36 0 1 642 = 0 ∧ True)) (r := []) zk_182_41 rfl rfl rfl rfl rfl rfl (Or.inr ⟨_, _, _, _, rfl, vd_35, rfl⟩) (fun σ' h => (m_179_01k   σ' h.1.1 (fun j a b => h.2.1 j (by omega) (by omega)) (h.2.2.1) (h.2.2.2.1) (h.2.2.2.2.1) (h.2.2.2.2.2.1) (h.2.2.2.2.2.2.1) (h.2.2.2.2.2.2.2.1) (h.2.2.2.2.2.2.2.2.1)).le (Nat.le_of_ble_eq_true rfl) (fun v σ2 ⟨h1, h3, h4⟩ => ⟨h1, h.1.tr h3 (fun t i k j h => by unfold MV at h; unfold MFm; omega), fun j a b => (h3.2 _ _ _ _ (by unfold MV; omega)).trans (h.2.1 j a b), (h3.2 _ _ _ _ (by unfold MV; omega)).trans (h.2.2.1), (h3.2 _ _ _ _ (by unfold MV; omega)).trans (h.2.2.2.1), (h3.2 _ _ _ _ (by unfold MV; omega)).trans (h.2.2.2.2.1), (h3.2 _ _ _ _ (by unfold MV; omega)).trans (h.2.2.2.2.2.1), (h3.2 _ _ _ _ (by unfold MV; omega)).trans (h.2.2.2.2.2.2.1), (h3.2 _ _ _ _ (by unfold MV; omega)).trans (h.2.2.2.2.2.2.2.1), (h3.2 _ _ _ _ (by unfold MV; omega)).trans (h.2.2.2.2.2.2.2.2.1), fun j a b => (h3.2 _ _ _ _ (by unfold MV; omega)).trans (h.2.2.2.2.2.2.2.2.2.1 j a b), h4.1, h4.2.1, h4.2.2.1, h4.2.2.2.1, h4.2.2.2.2.1, h4.2.2.2.2.2.1, h4.2.2.2.2.2.2.1, h4.2.2.2.2.2.2.2.1, trivial⟩)) (pc' := 44) rfl ?_
          refine T_op zk_182_44 rfl X_ic (pc' := 45) rfl ?_
          refine T_st (L' := [(0, av 35 0 0), (1, iv p0), (2, iv p1), (3, iv (-1)), (4, iv 0), (5, iv 0)]) zk_182_45 (nL := 7) rfl rfl rfl rfl rfl (pc' := 47) rfl ?_
          refine G_know (J' := (fun σ' => IF MFm σ σ' ∧ (∀ j, 0 ≤ j → j < 25 → σ' 54 0 0 j = 0) ∧ (∀ j, 25 ≤ j → j < 50 → σ' 36 0 1 j = 0) ∧ σ' 36 0 1 633 = 0 ∧ σ' 36 0 1 634 = 0 ∧ σ' 36 0 1 635 = 0 ∧ σ' 36 0 1 636 = 0 ∧ σ' 36 0 1 640 = 0 ∧ σ' 36 0 1 641 = 0 ∧ σ' 36 0 1 642 = 0 ∧ True)) (fun σ' h => ⟨h.1, h.2.2.2.2.2.2.2.2.2.1, h.2.2.2.2.2.2.2.2.2.2.1, h.2.2.2.2.2.2.2.2.2.2.2.1, h.2.2.2.2.2.2.2.2.2.2.2.2.1, h.2.2.2.2.2.2.2.2.2.2.2.2.2.1, h.2.2.2.2.2.2.2.2.2.2.2.2.2.2.1, h.2.2.2.2.2.2.2.2.2.2.2.2.2.2.2.1, h.2.2.2.2.2.2.2.2.2.2.2.2.2.2.2.2.1, h.2.2.2.2.2.2.2.2.2.2.2.2.2.2.2.2.2.1, trivial⟩) ?_
          refine T_loop3 (fun x13 x14 x15 => ((1 - x15 : Int)).toNat) (fun x13 x14 x15 => (-1 ≤ x13 ∧ x13 ≤ 0) ∧ (0 ≤ x14 ∧ x14 ≤ 0) ∧ (0 ≤ x15 ∧ x15 ≤ 1) ∧ ((x15 = 0 ∧ x13 = -1) ∨ (x15 = 1 ∧ x13 = 0))) (fun x13 x14 x15 => TJ xs (fun σ' => IF MFm σ σ' ∧ (∀ j, 0 ≤ j → j < 25 → σ' 54 0 0 j = 0) ∧ (∀ j, 25 ≤ j → j < 50 → σ' 36 0 1 j = 0) ∧ σ' 36 0 1 633 = 0 ∧ σ' 36 0 1 634 = 0 ∧ σ' 36 0 1 635 = 0 ∧ σ' 36 0 1 636 = 0 ∧ σ' 36 0 1 640 = 0 ∧ σ' 36 0 1 641 = 0 ∧ σ' 36 0 1 642 = 0 ∧ True) 3 182 47 [(0, av 35 0 0), (1, iv p0), (2, iv p1), (3, iv x13), (4, iv x14), (5, iv x15)] [] _) ?_ (-1) 0 0 (by omega)
          intro x13 x14 x15 hp17 ih16
          refine T_ld zk_182_47 rfl rfl rfl (pc' := 49) rfl ?_
          refine T_op zk_182_49 rfl X_ic (pc' := 50) rfl ?_
          refine T_ld zk_182_50 rfl rfl rfl (pc' := 51) rfl ?_
          refine T_getR (t' := 36) (i' := 0) (k' := 1) zk_182_51 rfl rfl rfl vd_35 (pc' := 54) rfl ?_
          refine T_op zk_182_54 rfl (X_si (v := 640) (by decide)) (pc' := 57) rfl ?_
          refine G_ialdX (w := 0) (ln := 646) zk_182_57 rfl rfl (vd_36 (by omega)) (by omega) (by omega) (by omega) (fun σ' h => h.2.2.2.2.2.2.2.1) (pc' := 58) rfl ?_
          refine T_op (st' := [iv 1, iv x15]) zk_182_58 rfl rfl (pc' := 59) rfl ?_
          refine T_icmp_ge zk_182_59 (by omega) (by omega) (pc' := 62) rfl (fun h18 => ?_) (fun h19 => ?_)
          ·
            refine T_ld zk_182_188 rfl rfl rfl (pc' := 189) rfl ?_
            refine T_ld zk_182_189 rfl rfl rfl (pc' := 190) rfl ?_
            refine T_getR (t' := 36) (i' := 0) (k' := 1) zk_182_190 rfl rfl rfl vd_35 (pc' := 193) rfl ?_
            refine T_ld zk_182_193 rfl rfl rfl (pc' := 194) rfl ?_
            refine T_getR (t' := 36) (i' := 0) (k' := 0) zk_182_194 rfl rfl rfl vd_35 (pc' := 197) rfl ?_
            refine T_callv (J' := (fun σ' => IF MFm σ σ' ∧ (∀ j, 0 ≤ j → j < 25 → σ' 54 0 0 j = 0) ∧ (∀ j, 25 ≤ j → j < 50 → σ' 36 0 1 j = 0) ∧ σ' 36 0 1 633 = 0 ∧ σ' 36 0 1 634 = 0 ∧ σ' 36 0 1 635 = 0 ∧ σ' 36 0 1 636 = 0 ∧ σ' 36 0 1 640 = 0 ∧ σ' 36 0 1 641 = 0 ∧ σ' 36 0 1 642 = 0 ∧ (∀ j, 25 ≤ j → j < 50 → σ' 36 0 0 j = 0) ∧ σ' 36 0 0 633 = 0 ∧ σ' 36 0 0 634 = 0 ∧ σ' 36 0 0 635 = 0 ∧ σ' 36 0 0 636 = 0 ∧ σ' 36 0 0 640 = 0 ∧ σ' 36 0 0 641 = 0 ∧ σ' 36 0 0 642 = 0 ∧ True)) (r := []) zk_182_197 rfl rfl rfl rfl rfl rfl (Or.inr ⟨_, _, _, _, rfl, vd_35, rfl⟩) (fun σ' h => (m_179_10k   σ' h.1.1 (fun j a b => h.2.2.1 j (by omega) (by omega)) (h.2.2.2.1) (h.2.2.2.2.1) (h.2.2.2.2.2.1) (h.2.2.2.2.2.2.1) (h.2.2.2.2.2.2.2.1) (h.2.2.2.2.2.2.2.2.1) (h.2.2.2.2.2.2.2.2.2.1)).le (Nat.le_of_ble_eq_true rfl) (fun v σ2 ⟨h1, h3, h4⟩ => ⟨h1, h.1.tr h3 (fun t i k j h => by unfold MV at h; unfold MFm; omega), fun j a b => (h3.2 _ _ _ _ (by unfold MV; omega)).trans (h.2.1 j a b), fun j a b => (h3.2 _ _ _ _ (by unfold MV; omega)).trans (h.2.2.1 j a b), (h3.2 _ _ _ _ (by unfold MV; omega)).trans (h.2.2.2.1), (h3.2 _ _ _ _ (by unfold MV; omega)).trans (h.2.2.2.2.1), (h3.2 _ _ _ _ (by unfold MV; omega)).trans (h.2.2.2.2.2.1), (h3.2 _ _ _ _ (by unfold MV; omega)).trans (h.2.2.2.2.2.2.1), (h3.2 _ _ _ _ (by unfold MV; omega)).trans (h.2.2.2.2.2.2.2.1), (h3.2 _ _ _ _ (by unfold MV; omega)).trans (h.2.2.2.2.2.2.2.2.1), (h3.2 _ _ _ _ (by unfold MV; omega)).trans (h.2.2.2.2.2.2.2.2.2.1), h4.1, h4.2.1, h4.2.2.1, h4.2.2.2.1, h4.2.2.2.2.1, h4.2.2.2.2.2.1, h4.2.2.2.2.2.2.1, h4.2.2.2.2.2.2.2.1, trivial⟩)) (pc' := 200) rfl ?_
            refine T_ld zk_182_200 rfl rfl rfl (pc' := 201) rfl ?_
            refine T_if_ne zk_182_201 (by omega) (pc' := 204) rfl (fun h21 => ?_) (fun h22 => ?_)
            ·
              refine T_ld zk_182_208 rfl rfl rfl (pc' := 210) rfl ?_
              exact T_iret zk_182_210 rfl (fun σ' h => ⟨_, rfl, (by omega), h.1, trivial⟩)
            ·
              refine T_ld zk_182_204 rfl rfl rfl (pc' := 205) rfl ?_
              refine T_goto zk_182_205 ?_
              exact T_iret zk_182_210 rfl (fun σ' h => ⟨_, rfl, (by omega), h.1, trivial⟩)
          ·
            refine T_ld zk_182_62 rfl rfl rfl (pc' := 63) rfl ?_
            refine T_ld zk_182_63 rfl rfl rfl (pc' := 64) rfl ?_
            refine T_getR (t' := 36) (i' := 0) (k' := 1) zk_182_64 rfl rfl rfl vd_35 (pc' := 67) rfl ?_
            refine T_ld zk_182_67 rfl rfl rfl (pc' := 68) rfl ?_
            refine T_getR (t' := 36) (i' := 0) (k' := 0) zk_182_68 rfl rfl rfl vd_35 (pc' := 71) rfl ?_
            refine T_callv (J' := (fun σ' => IF MFm σ σ' ∧ (∀ j, 0 ≤ j → j < 25 → σ' 54 0 0 j = 0) ∧ (∀ j, 25 ≤ j → j < 50 → σ' 36 0 1 j = 0) ∧ σ' 36 0 1 633 = 0 ∧ σ' 36 0 1 634 = 0 ∧ σ' 36 0 1 635 = 0 ∧ σ' 36 0 1 636 = 0 ∧ σ' 36 0 1 640 = 0 ∧ σ' 36 0 1 641 = 0 ∧ σ' 36 0 1 642 = 0 ∧ (∀ j, 25 ≤ j → j < 50 → σ' 36 0 0 j = 0) ∧ σ' 36 0 0 633 = 0 ∧ σ' 36 0 0 634 = 0 ∧ σ' 36 0 0 635 = 0 ∧ σ' 36 0 0 636 = 0 ∧ σ' 36 0 0 640 = 0 ∧ σ' 36 0 0 641 = 0 ∧ σ' 36 0 0 642 = 0 ∧ True)) (r := []) zk_182_71 rfl rfl rfl rfl rfl rfl (Or.inr ⟨_, _, _, _, rfl, vd_35, rfl⟩) (fun σ' h => (m_179_10k   σ' h.1.1 (fun j a b => h.2.2.1 j (by omega) (by omega)) (h.2.2.2.1) (h.2.2.2.2.1) (h.2.2.2.2.2.1) (h.2.2.2.2.2.2.1) (h.2.2.2.2.2.2.2.1) (h.2.2.2.2.2.2.2.2.1) (h.2.2.2.2.2.2.2.2.2.1)).le (Nat.le_of_ble_eq_true rfl) (fun v σ2 ⟨h1, h3, h4⟩ => ⟨h1, h.1.tr h3 (fun t i k j h => by unfold MV at h; unfold MFm; omega), fun j a b => (h3.2 _ _ _ _ (by unfold MV; omega)).trans (h.2.1 j a b), fun j a b => (h3.2 _ _ _ _ (by unfold MV; omega)).trans (h.2.2.1 j a b), (h3.2 _ _ _ _ (by unfold MV; omega)).trans (h.2.2.2.1), (h3.2 _ _ _ _ (by unfold MV; omega)).trans (h.2.2.2.2.1), (h3.2 _ _ _ _ (by unfold MV; omega)).trans (h.2.2.2.2.2.1), (h3.2 _ _ _ _ (by unfold MV; omega)).trans (h.2.2.2.2.2.2.1), (h3.2 _ _ _ _ (by unfold MV; omega)).trans (h.2.2.2.2.2.2.2.1), (h3.2 _ _ _ _ (by unfold MV; omega)).trans (h.2.2.2.2.2.2.2.2.1), (h3.2 _ _ _ _ (by unfold MV; omega)).trans (h.2.2.2.2.2.2.2.2.2.1), h4.1, h4.2.1, h4.2.2.1, h4.2.2.2.1, h4.2.2.2.2.1, h4.2.2.2.2.2.1, h4.2.2.2.2.2.2.1, h4.2.2.2.2.2.2.2.1, trivial⟩)) (pc' := 74) rfl ?_
            refine T_op zk_182_74 rfl X_ic (pc' := 75) rfl ?_
            refine T_st (L' := [(0, av 35 0 0), (1, iv p0), (2, iv p1), (3, iv x13), (4, iv x14), (5, iv x15), (6, iv 0)]) zk_182_75 (nL := 7) rfl rfl rfl rfl rfl (pc' := 77) rfl ?_
            refine T_loop1 (fun x24 => ((0 : Int)).toNat) (fun x24 => (0 ≤ x24 ∧ x24 ≤ 0)) (fun x24 => TJ xs (fun σ' => IF MFm σ σ' ∧ (∀ j, 0 ≤ j → j < 25 → σ' 54 0 0 j = 0) ∧ (∀ j, 25 ≤ j → j < 50 → σ' 36 0 1 j = 0) ∧ σ' 36 0 1 633 = 0 ∧ σ' 36 0 1 634 = 0 ∧ σ' 36 0 1 635 = 0 ∧ σ' 36 0 1 636 = 0 ∧ σ' 36 0 1 640 = 0 ∧ σ' 36 0 1 641 = 0 ∧ σ' 36 0 1 642 = 0 ∧ (∀ j, 25 ≤ j → j < 50 → σ' 36 0 0 j = 0) ∧ σ' 36 0 0 633 = 0 ∧ σ' 36 0 0 634 = 0 ∧ σ' 36 0 0 635 = 0 ∧ σ' 36 0 0 636 = 0 ∧ σ' 36 0 0 640 = 0 ∧ σ' 36 0 0 641 = 0 ∧ σ' 36 0 0 642 = 0 ∧ True) 3 182 77 [(0, av 35 0 0), (1, iv p0), (2, iv p1), (3, iv x13), (4, iv x14), (5, iv x15), (6, iv x24)] [] _) ?_ 0 (by omega)
            intro x24 hp26 ih25
            refine T_ld zk_182_77 rfl rfl rfl (pc' := 79) rfl ?_
            refine T_ld zk_182_79 rfl rfl rfl (pc' := 80) rfl ?_
            refine T_getR (t' := 36) (i' := 0) (k' := 0) zk_182_80 rfl rfl rfl vd_35 (pc' := 83) rfl ?_
            refine T_op zk_182_83 rfl (X_si (v := 640) (by decide)) (pc' := 86) rfl ?_
            refine G_ialdX (w := 0) (ln := 646) zk_182_86 rfl rfl (vd_36 (by omega)) (by omega) (by omega) (by omega) (fun σ' h => h.2.2.2.2.2.2.2.2.2.2.2.2.2.2.2.1) (pc' := 87) rfl ?_
            refine T_icmp_ge zk_182_87 (by omega) (by omega) (pc' := 90) rfl (fun h27 => ?_) (fun h28 => ?_)
            ·
              refine T_ld zk_182_114 rfl rfl rfl (pc' := 115) rfl ?_
              refine T_op zk_182_115 rfl X_ic (pc' := 116) rfl ?_
              refine T_putf (J' := (fun σ' => IF MFm σ σ' ∧ (∀ j, 0 ≤ j → j < 25 → σ' 54 0 0 j = 0) ∧ (∀ j, 25 ≤ j → j < 50 → σ' 36 0 1 j = 0) ∧ σ' 36 0 1 633 = 0 ∧ σ' 36 0 1 634 = 0 ∧ σ' 36 0 1 635 = 0 ∧ σ' 36 0 1 636 = 0 ∧ σ' 36 0 1 640 = 0 ∧ σ' 36 0 1 641 = 0 ∧ σ' 36 0 1 642 = 0 ∧ (∀ j, 25 ≤ j → j < 50 → σ' 36 0 0 j = 0) ∧ σ' 36 0 0 633 = 0 ∧ σ' 36 0 0 634 = 0 ∧ σ' 36 0 0 635 = 0 ∧ σ' 36 0 0 636 = 0 ∧ σ' 36 0 0 640 = 0 ∧ σ' 36 0 0 641 = 0 ∧ σ' 36 0 0 642 = 0 ∧ σ' 35 0 0 31 = 0 ∧ True)) zk_182_116 rfl rfl vd_35 (fun σ' h => ⟨h.1.up (by simp only [rgP] <;> omega) (by unfold MFm; omega), up_rngn (h.2.1) (by omega), up_rngn (h.2.2.1) (by omega), (up_ne (by omega)).trans (h.2.2.2.1), (up_ne (by omega)).trans (h.2.2.2.2.1), (up_ne (by omega)).trans (h.2.2.2.2.2.1), (up_ne (by omega)).trans (h.2.2.2.2.2.2.1), (up_ne (by omega)).trans (h.2.2.2.2.2.2.2.1), (up_ne (by omega)).trans (h.2.2.2.2.2.2.2.2.1), (up_ne (by omega)).trans (h.2.2.2.2.2.2.2.2.2.1), up_rngn (h.2.2.2.2.2.2.2.2.2.2.1) (by omega), (up_ne (by omega)).trans (h.2.2.2.2.2.2.2.2.2.2.2.1), (up_ne (by omega)).trans (h.2.2.2.2.2.2.2.2.2.2.2.2.1), (up_ne (by omega)).trans (h.2.2.2.2.2.2.2.2.2.2.2.2.2.1), (up_ne (by omega)).trans (h.2.2.2.2.2.2.2.2.2.2.2.2.2.2.1), (up_ne (by omega)).trans (h.2.2.2.2.2.2.2.2.2.2.2.2.2.2.2.1), (up_ne (by omega)).trans (h.2.2.2.2.2.2.2.2.2.2.2.2.2.2.2.2.1), (up_ne (by omega)).trans (h.2.2.2.2.2.2.2.2.2.2.2.2.2.2.2.2.2.1), up_eq, trivial⟩) (pc' := 119) rfl ?_
              refine T_ld zk_182_119 rfl rfl rfl (pc' := 120) rfl ?_
              refine T_op zk_182_120 rfl X_ic (pc' := 121) rfl ?_
              refine T_putf (J' := (fun σ' => IF MFm σ σ' ∧ (∀ j, 0 ≤ j → j < 25 → σ' 54 0 0 j = 0) ∧ (∀ j, 25 ≤ j → j < 50 → σ' 36 0 1 j = 0) ∧ σ' 36 0 1 633 = 0 ∧ σ' 36 0 1 634 = 0 ∧ σ' 36 0 1 635 = 0 ∧ σ' 36 0 1 636 = 0 ∧ σ' 36 0 1 640 = 0 ∧ σ' 36 0 1 641 = 0 ∧ σ' 36 0 1 642 = 0 ∧ (∀ j, 25 ≤ j → j < 50 → σ' 36 0 0 j = 0) ∧ σ' 36 0 0 633 = 0 ∧ σ' 36 0 0 634 = 0 ∧ σ' 36 0 0 635 = 0 ∧ σ' 36 0 0 636 = 0 ∧ σ' 36 0 0 640 = 0 ∧ σ' 36 0 0 641 = 0 ∧ σ' 36 0 0 642 = 0 ∧ σ' 35 0 0 31 = 0 ∧ σ' 35 0 0 32 = 0 ∧ True)) zk_182_121 rfl rfl vd_35 (fun σ' h => ⟨h.1.up (by simp only [rgP] <;> omega) (by unfold MFm; omega), up_rngn (h.2.1) (by omega), up_rngn (h.2.2.1) (by omega), (up_ne (by omega)).trans (h.2.2.2.1), (up_ne (by omega)).trans (h.2.2.2.2.1), (up_ne (by omega)).trans (h.2.2.2.2.2.1), (up_ne (by omega)).trans (h.2.2.2.2.2.2.1), (up_ne (by omega)).trans (h.2.2.2.2.2.2.2.1), (up_ne (by omega)).trans (h.2.2.2.2.2.2.2.2.1), (up_ne (by omega)).trans (h.2.2.2.2.2.2.2.2.2.1), up_rngn (h.2.2.2.2.2.2.2.2.2.2.1) (by omega), (up_ne (by omega)).trans (h.2.2.2.2.2.2.2.2.2.2.2.1), (up_ne (by omega)).trans (h.2.2.2.2.2.2.2.2.2.2.2.2.1), (up_ne (by omega)).trans (h.2.2.2.2.2.2.2.2.2.2.2.2.2.1), (up_ne (by omega)).trans (h.2.2.2.2.2.2.2.2.2.2.2.2.2.2.1), (up_ne (by omega)).trans (h.2.2.2.2.2.2.2.2.2.2.2.2.2.2.2.1), (up_ne (by omega)).trans (h.2.2.2.2.2.2.2.2.2.2.2.2.2.2.2.2.1), (up_ne (by omega)).trans (h.2.2.2.2.2.2.2.2.2.2.2.2.2.2.2.2.2.1), (up_ne (by omega)).trans (h.2.2.2.2.2.2.2.2.2.2.2.2.2.2.2.2.2.2.1), up_eq, trivial⟩) (pc' := 124) rfl ?_
              refine T_op zk_182_124 rfl X_ic (pc' := 125) rfl ?_
              refine T_st (L' := [(0, av 35 0 0), (1, iv p0), (2, iv p1), (3, iv x13), (4, iv x14), (5, iv x15), (6, iv 0)]) zk_182_125 (nL := 7) rfl rfl rfl rfl rfl (pc' := 127) rfl ?_
              refine G_know (J' := (fun σ' => IF MFm σ σ' ∧ (∀ j, 0 ≤ j → j < 25 → σ' 54 0 0 j = 0) ∧ (∀ j, 25 ≤ j → j < 50 → σ' 36 0 1 j = 0) ∧ σ' 36 0 1 633 = 0 ∧ σ' 36 0 1 634 = 0 ∧ σ' 36 0 1 635 = 0 ∧ σ' 36 0 1 636 = 0 ∧ σ' 36 0 1 640 = 0 ∧ σ' 36 0 1 641 = 0 ∧ σ' 36 0 1 642 = 0 ∧ (∀ j, 25 ≤ j → j < 50 → σ' 36 0 0 j = 0) ∧ σ' 36 0 0 633 = 0 ∧ σ' 36 0 0 635 = 0 ∧ σ' 36 0 0 636 = 0 ∧ σ' 36 0 0 640 = 0 ∧ σ' 36 0 0 641 = 0 ∧ σ' 36 0 0 642 = 0 ∧ σ' 35 0 0 31 = 0 ∧ σ' 35 0 0 32 = 0 ∧ σ' 36 0 0 634 = 0 ∧ True)) (fun σ' h => ⟨h.1, h.2.1, h.2.2.1, h.2.2.2.1, h.2.2.2.2.1, h.2.2.2.2.2.1, h.2.2.2.2.2.2.1, h.2.2.2.2.2.2.2.1, h.2.2.2.2.2.2.2.2.1, h.2.2.2.2.2.2.2.2.2.1, h.2.2.2.2.2.2.2.2.2.2.1, h.2.2.2.2.2.2.2.2.2.2.2.1, h.2.2.2.2.2.2.2.2.2.2.2.2.2.1, h.2.2.2.2.2.2.2.2.2.2.2.2.2.2.1, h.2.2.2.2.2.2.2.2.2.2.2.2.2.2.2.1, h.2.2.2.2.2.2.2.2.2.2.2.2.2.2.2.2.1, h.2.2.2.2.2.2.2.2.2.2.2.2.2.2.2.2.2.1, h.2.2.2.2.2.2.2.2.2.2.2.2.2.2.2.2.2.2.1, h.2.2.2.2.2.2.2.2.2.2.2.2.2.2.2.2.2.2.2.1, h.2.2.2.2.2.2.2.2.2.2.2.2.1, trivial⟩) ?_
              refine T_loop1 (fun x29 => ((48 - x29 : Int)).toNat) (fun x29 => (0 ≤ x29 ∧ x29 ≤ 48)) (fun x29 => TJ xs (fun σ' => IF MFm σ σ' ∧ (∀ j, 0 ≤ j → j < 25 → σ' 54 0 0 j = 0) ∧ (∀ j, 25 ≤ j → j < 50 → σ' 36 0 1 j = 0) ∧ σ' 36 0 1 633 = 0 ∧ σ' 36 0 1 634 = 0 ∧ σ' 36 0 1 635 = 0 ∧ σ' 36 0 1 636 = 0 ∧ σ' 36 0 1 640 = 0 ∧ σ' 36 0 1 641 = 0 ∧ σ' 36 0 1 642 = 0 ∧ (∀ j, 25 ≤ j → j < 50 → σ' 36 0 0 j = 0) ∧ σ' 36 0 0 633 = 0 ∧ σ' 36 0 0 635 = 0 ∧ σ' 36 0 0 636 = 0 ∧ σ' 36 0 0 640 = 0 ∧ σ' 36 0 0 641 = 0 ∧ σ' 36 0 0 642 = 0 ∧ σ' 35 0 0 31 = 0 ∧ σ' 35 0 0 32 = 0 ∧ σ' 36 0 0 634 = x29 ∧ True) 3 182 127 [(0, av 35 0 0), (1, iv p0), (2, iv p1), (3, iv x13), (4, iv x14), (5, iv x15), (6, iv x29)] [] _) ?_ 0 (by omega)
              intro x29 hp31 ih30
              refine T_ld zk_182_127 rfl rfl rfl (pc' := 129) rfl ?_
              refine T_ld zk_182_129 rfl rfl rfl (pc' := 130) rfl ?_
              refine T_icmp_ge zk_182_130 (by omega) (by omega) (pc' := 133) rfl (fun h32 => ?_) (fun h33 => ?_)
              ·
                refine T_op zk_182_149 rfl (X_bi (v := 10) (by decide)) (pc' := 151) rfl ?_
                refine T_ld zk_182_151 rfl rfl rfl (pc' := 152) rfl ?_
                refine G_getX (w := 0) zk_182_152 rfl vd_35 (fun σ' h => h.2.2.2.2.2.2.2.2.2.2.2.2.2.2.2.2.2.2.1) (pc' := 155) rfl ?_
                refine T_opc (w := 0) zk_182_155 rfl X_mul (by omega) (pc' := 156) rfl ?_
                refine T_ld zk_182_156 rfl rfl rfl (pc' := 157) rfl ?_
                refine G_getX (w := 0) zk_182_157 rfl vd_35 (fun σ' h => h.2.2.2.2.2.2.2.2.2.2.2.2.2.2.2.2.2.1) (pc' := 160) rfl ?_
                refine T_opc (w := 0) zk_182_160 rfl X_add (by omega) (pc' := 161) rfl ?_
                refine T_st (L' := [(0, av 35 0 0), (1, iv p0), (2, iv p1), (3, iv x13), (4, iv x14), (5, iv x15), (6, iv 0)]) zk_182_161 (nL := 7) rfl rfl rfl rfl rfl (pc' := 163) rfl ?_
                refine T_ld zk_182_163 rfl rfl rfl (pc' := 164) rfl ?_
                refine T_op zk_182_164 rfl X_ic (pc' := 165) rfl ?_
                refine T_icmp_eq zk_182_165 (by omega) (by omega) (pc' := 168) rfl (fun h34 => ?_) (fun h35 => ?_)
                ·
                  refine T_ld zk_182_175 rfl rfl rfl (pc' := 177) rfl ?_
                  refine T_st (L' := [(0, av 35 0 0), (1, iv p0), (2, iv p1), (3, iv x15), (4, iv x14), (5, iv x15), (6, iv 0)]) zk_182_177 (nL := 7) rfl rfl rfl rfl rfl (pc' := 178) rfl ?_
                  refine T_ld zk_182_178 rfl rfl rfl (pc' := 180) rfl ?_
                  refine T_st (L' := [(0, av 35 0 0), (1, iv p0), (2, iv p1), (3, iv x15), (4, iv 0), (5, iv x15), (6, iv 0)]) zk_182_180 (nL := 7) rfl rfl rfl rfl rfl (pc' := 182) rfl ?_
                  refine T_iinc (L' := [(0, av 35 0 0), (1, iv p0), (2, iv p1), (3, iv x15), (4, iv 0), (5, iv (x15 + 1)), (6, iv 0)]) zk_182_182 (nL := 7) rfl rfl rfl rfl (pc' := 185) rfl ?_
                  refine T_goto zk_182_185 ?_
                  refine G_know (J' := (fun σ' => IF MFm σ σ' ∧ (∀ j, 0 ≤ j → j < 25 → σ' 54 0 0 j = 0) ∧ (∀ j, 25 ≤ j → j < 50 → σ' 36 0 1 j = 0) ∧ σ' 36 0 1 633 = 0 ∧ σ' 36 0 1 634 = 0 ∧ σ' 36 0 1 635 = 0 ∧ σ' 36 0 1 636 = 0 ∧ σ' 36 0 1 640 = 0 ∧ σ' 36 0 1 641 = 0 ∧ σ' 36 0 1 642 = 0 ∧ True)) (fun σ' h => ⟨h.1, h.2.1, h.2.2.1, h.2.2.2.1, h.2.2.2.2.1, h.2.2.2.2.2.1, h.2.2.2.2.2.2.1, h.2.2.2.2.2.2.2.1, h.2.2.2.2.2.2.2.2.1, h.2.2.2.2.2.2.2.2.2.1, trivial⟩) ?_
                  refine T_loc (L := [(0, av 35 0 0), (1, iv p0), (2, iv p1), (3, iv x15), (4, iv 0), (5, iv (x15 + 1))]) (E := [(6, iv 0)]) rfl ?_
                  exact ih16 x15 0 (x15 + 1) (by omega) (by omega)
                ·
                  refine T_ld zk_182_168 rfl rfl rfl (pc' := 170) rfl ?_
                  refine T_ld zk_182_170 rfl rfl rfl (pc' := 172) rfl ?_
                  refine T_icmp_ge zk_182_172 (by omega) (by omega) (pc' := 175) rfl (fun h36 => ?_) (fun h37 => ?_)
                  ·
                    refine T_iinc (L' := [(0, av 35 0 0), (1, iv p0), (2, iv p1), (3, iv x13), (4, iv x14), (5, iv (x15 + 1)), (6, iv 0)]) zk_182_182 (nL := 7) rfl rfl rfl rfl (pc' := 185) rfl ?_
                    refine T_goto zk_182_185 ?_
                    refine G_know (J' := (fun σ' => IF MFm σ σ' ∧ (∀ j, 0 ≤ j → j < 25 → σ' 54 0 0 j = 0) ∧ (∀ j, 25 ≤ j → j < 50 → σ' 36 0 1 j = 0) ∧ σ' 36 0 1 633 = 0 ∧ σ' 36 0 1 634 = 0 ∧ σ' 36 0 1 635 = 0 ∧ σ' 36 0 1 636 = 0 ∧ σ' 36 0 1 640 = 0 ∧ σ' 36 0 1 641 = 0 ∧ σ' 36 0 1 642 = 0 ∧ True)) (fun σ' h => ⟨h.1, h.2.1, h.2.2.1, h.2.2.2.1, h.2.2.2.2.1, h.2.2.2.2.2.1, h.2.2.2.2.2.2.1, h.2.2.2.2.2.2.2.1, h.2.2.2.2.2.2.2.2.1, h.2.2.2.2.2.2.2.2.2.1, trivial⟩) ?_
                    refine T_loc (L := [(0, av 35 0 0), (1, iv p0), (2, iv p1), (3, iv x13), (4, iv x14), (5, iv (x15 + 1))]) (E := [(6, iv 0)]) rfl ?_
                    exact ih16 x13 x14 (x15 + 1) (by omega) (by omega)
                  · exfalso; omega
              ·
                refine T_ld zk_182_133 rfl rfl rfl (pc' := 134) rfl ?_
                refine T_op zk_182_134 rfl X_ic (pc' := 135) rfl ?_
                refine T_callv (J' := (fun σ' => IF MFm σ σ' ∧ (∀ j, 25 ≤ j → j < 50 → σ' 36 0 1 j = 0) ∧ σ' 36 0 1 633 = 0 ∧ σ' 36 0 1 634 = 0 ∧ σ' 36 0 1 635 = 0 ∧ σ' 36 0 1 636 = 0 ∧ σ' 36 0 1 640 = 0 ∧ σ' 36 0 1 641 = 0 ∧ σ' 36 0 1 642 = 0 ∧ σ' 36 0 0 633 = 0 ∧ σ' 36 0 0 635 = 0 ∧ σ' 36 0 0 636 = 0 ∧ σ' 36 0 0 640 = 0 ∧ σ' 36 0 0 641 = 0 ∧ σ' 36 0 0 642 = 0 ∧ σ' 35 0 0 31 = 0 ∧ σ' 35 0 0 32 = 0 ∧ σ' 36 0 0 634 = x29 ∧ (∀ j, 25 ≤ j → j < 50 → σ' 36 0 0 j = 0) ∧ (∀ j, 0 ≤ j → j < 25 → σ' 54 0 0 j = 0) ∧ True)) (r := []) zk_182_135 rfl rfl rfl rfl rfl rfl (Or.inr ⟨_, _, _, _, rfl, vd_35, rfl⟩) (fun σ' h => (m_175e 1 (by omega) σ' h.1.1 (h.2.2.2.2.2.2.2.2.2.2.2.1) (h.2.2.2.2.2.2.2.2.2.2.2.2.1) (h.2.2.2.2.2.2.2.2.2.2.2.2.2.1) (fun j a b => h.2.2.2.2.2.2.2.2.2.2.1 j (by omega) (by omega)) (fun j a b => h.2.1 j (by omega) (by omega))).le (Nat.le_of_ble_eq_true rfl) (fun v σ2 ⟨h1, h3, h4⟩ => ⟨h1, h.1.tr h3 (fun t i k j h => by unfold MWt at h; unfold MFm; omega), fun j a b => (h3.2 _ _ _ _ (by unfold MWt; omega)).trans (h.2.2.1 j a b), (h3.2 _ _ _ _ (by unfold MWt; omega)).trans (h.2.2.2.1), (h3.2 _ _ _ _ (by unfold MWt; omega)).trans (h.2.2.2.2.1), (h3.2 _ _ _ _ (by unfold MWt; omega)).trans (h.2.2.2.2.2.1), (h3.2 _ _ _ _ (by unfold MWt; omega)).trans (h.2.2.2.2.2.2.1), (h3.2 _ _ _ _ (by unfold MWt; omega)).trans (h.2.2.2.2.2.2.2.1), (h3.2 _ _ _ _ (by unfold MWt; omega)).trans (h.2.2.2.2.2.2.2.2.1), (h3.2 _ _ _ _ (by unfold MWt; omega)).trans (h.2.2.2.2.2.2.2.2.2.1), (h3.2 _ _ _ _ (by unfold MWt; omega)).trans (h.2.2.2.2.2.2.2.2.2.2.2.1), (h3.2 _ _ _ _ (by unfold MWt; omega)).trans (h.2.2.2.2.2.2.2.2.2.2.2.2.1), (h3.2 _ _ _ _ (by unfold MWt; omega)).trans (h.2.2.2.2.2.2.2.2.2.2.2.2.2.1), (h3.2 _ _ _ _ (by unfold MWt; omega)).trans (h.2.2.2.2.2.2.2.2.2.2.2.2.2.2.1), (h3.2 _ _ _ _ (by unfold MWt; omega)).trans (h.2.2.2.2.2.2.2.2.2.2.2.2.2.2.2.1), (h3.2 _ _ _ _ (by unfold MWt; omega)).trans (h.2.2.2.2.2.2.2.2.2.2.2.2.2.2.2.2.1), (h3.2 _ _ _ _ (by unfold MWt; omega)).trans (h.2.2.2.2.2.2.2.2.2.2.2.2.2.2.2.2.2.1), (h3.2 _ _ _ _ (by unfold MWt; omega)).trans (h.2.2.2.2.2.2.2.2.2.2.2.2.2.2.2.2.2.2.1), (h3.2 _ _ _ _ (by unfold MWt; omega)).trans (h.2.2.2.2.2.2.2.2.2.2.2.2.2.2.2.2.2.2.2.1), h4.1, h4.2.1, trivial⟩)) (pc' := 138) rfl ?_
                refine T_ld zk_182_138 rfl rfl rfl (pc' := 139) rfl ?_
                refine T_op zk_182_139 rfl X_ic (pc' := 140) rfl ?_
                refine T_callv (J' := (fun σ' => IF MFm σ σ' ∧ (∀ j, 25 ≤ j → j < 50 → σ' 36 0 1 j = 0) ∧ σ' 36 0 1 633 = 0 ∧ σ' 36 0 1 634 = 0 ∧ σ' 36 0 1 635 = 0 ∧ σ' 36 0 1 636 = 0 ∧ σ' 36 0 1 640 = 0 ∧ σ' 36 0 1 641 = 0 ∧ σ' 36 0 1 642 = 0 ∧ σ' 36 0 0 633 = 0 ∧ σ' 36 0 0 635 = 0 ∧ σ' 36 0 0 636 = 0 ∧ σ' 36 0 0 640 = 0 ∧ σ' 36 0 0 641 = 0 ∧ σ' 36 0 0 642 = 0 ∧ σ' 35 0 0 31 = 0 ∧ σ' 35 0 0 32 = 0 ∧ (∀ j, 25 ≤ j → j < 50 → σ' 36 0 0 j = 0) ∧ (∀ j, 0 ≤ j → j < 25 → σ' 54 0 0 j = 0) ∧ σ' 36 0 0 634 = x29 + 1 ∧ True)) (r := []) zk_182_140 rfl rfl rfl rfl rfl rfl (Or.inr ⟨_, _, _, _, rfl, vd_35, rfl⟩) (fun σ' h => (m_177e 1 x29 (by omega) (by omega) σ' h.1.1 (h.2.2.2.2.2.2.2.2.2.1) (h.2.2.2.2.2.2.2.2.2.2.2.2.2.1) (h.2.2.2.2.2.2.2.2.2.2.2.2.2.2.1) (h.2.2.2.2.2.2.2.2.2.2.2.2.2.2.2.2.2.1)).le (Nat.le_of_ble_eq_true rfl) (fun v σ2 ⟨h1, h3, h4⟩ => ⟨h1, h.1.tr h3 (fun t i k j h => by unfold MLv at h; unfold MFm; omega), fun j a b => (h3.2 _ _ _ _ (by unfold MLv; omega)).trans (h.2.1 j a b), (h3.2 _ _ _ _ (by unfold MLv; omega)).trans (h.2.2.1), (h3.2 _ _ _ _ (by unfold MLv; omega)).trans (h.2.2.2.1), (h3.2 _ _ _ _ (by unfold MLv; omega)).trans (h.2.2.2.2.1), (h3.2 _ _ _ _ (by unfold MLv; omega)).trans (h.2.2.2.2.2.1), (h3.2 _ _ _ _ (by unfold MLv; omega)).trans (h.2.2.2.2.2.2.1), (h3.2 _ _ _ _ (by unfold MLv; omega)).trans (h.2.2.2.2.2.2.2.1), (h3.2 _ _ _ _ (by unfold MLv; omega)).trans (h.2.2.2.2.2.2.2.2.1), (h3.2 _ _ _ _ (by unfold MLv; omega)).trans (h.2.2.2.2.2.2.2.2.2.1), (h3.2 _ _ _ _ (by unfold MLv; omega)).trans (h.2.2.2.2.2.2.2.2.2.2.1), (h3.2 _ _ _ _ (by unfold MLv; omega)).trans (h.2.2.2.2.2.2.2.2.2.2.2.1), (h3.2 _ _ _ _ (by unfold MLv; omega)).trans (h.2.2.2.2.2.2.2.2.2.2.2.2.1), (h3.2 _ _ _ _ (by unfold MLv; omega)).trans (h.2.2.2.2.2.2.2.2.2.2.2.2.2.1), (h3.2 _ _ _ _ (by unfold MLv; omega)).trans (h.2.2.2.2.2.2.2.2.2.2.2.2.2.2.1), (h3.2 _ _ _ _ (by unfold MLv; omega)).trans (h.2.2.2.2.2.2.2.2.2.2.2.2.2.2.2.1), (h3.2 _ _ _ _ (by unfold MLv; omega)).trans (h.2.2.2.2.2.2.2.2.2.2.2.2.2.2.2.2.1), fun j a b => (h3.2 _ _ _ _ (by unfold MLv; omega)).trans (h.2.2.2.2.2.2.2.2.2.2.2.2.2.2.2.2.2.2.1 j a b), fun j a b => (h3.2 _ _ _ _ (by unfold MLv; omega)).trans (h.2.2.2.2.2.2.2.2.2.2.2.2.2.2.2.2.2.2.2.1 j a b), h4.1, trivial⟩)) (pc' := 143) rfl ?_
                refine T_iinc (L' := [(0, av 35 0 0), (1, iv p0), (2, iv p1), (3, iv x13), (4, iv x14), (5, iv x15), (6, iv (x29 + 1))]) zk_182_143 (nL := 7) rfl rfl rfl rfl (pc' := 146) rfl ?_
                refine T_goto zk_182_146 ?_
                refine G_know (J' := (fun σ' => IF MFm σ σ' ∧ (∀ j, 0 ≤ j → j < 25 → σ' 54 0 0 j = 0) ∧ (∀ j, 25 ≤ j → j < 50 → σ' 36 0 1 j = 0) ∧ σ' 36 0 1 633 = 0 ∧ σ' 36 0 1 634 = 0 ∧ σ' 36 0 1 635 = 0 ∧ σ' 36 0 1 636 = 0 ∧ σ' 36 0 1 640 = 0 ∧ σ' 36 0 1 641 = 0 ∧ σ' 36 0 1 642 = 0 ∧ (∀ j, 25 ≤ j → j < 50 → σ' 36 0 0 j = 0) ∧ σ' 36 0 0 633 = 0 ∧ σ' 36 0 0 635 = 0 ∧ σ' 36 0 0 636 = 0 ∧ σ' 36 0 0 640 = 0 ∧ σ' 36 0 0 641 = 0 ∧ σ' 36 0 0 642 = 0 ∧ σ' 35 0 0 31 = 0 ∧ σ' 35 0 0 32 = 0 ∧ σ' 36 0 0 634 = (x29 + 1) ∧ True)) (fun σ' h => ⟨h.1, h.2.2.2.2.2.2.2.2.2.2.2.2.2.2.2.2.2.2.1, h.2.1, h.2.2.1, h.2.2.2.1, h.2.2.2.2.1, h.2.2.2.2.2.1, h.2.2.2.2.2.2.1, h.2.2.2.2.2.2.2.1, h.2.2.2.2.2.2.2.2.1, h.2.2.2.2.2.2.2.2.2.2.2.2.2.2.2.2.2.1, h.2.2.2.2.2.2.2.2.2.1, h.2.2.2.2.2.2.2.2.2.2.1, h.2.2.2.2.2.2.2.2.2.2.2.1, h.2.2.2.2.2.2.2.2.2.2.2.2.1, h.2.2.2.2.2.2.2.2.2.2.2.2.2.1, h.2.2.2.2.2.2.2.2.2.2.2.2.2.2.1, h.2.2.2.2.2.2.2.2.2.2.2.2.2.2.2.1, h.2.2.2.2.2.2.2.2.2.2.2.2.2.2.2.2.1, (h.2.2.2.2.2.2.2.2.2.2.2.2.2.2.2.2.2.2.2.1).trans (by omega), trivial⟩) ?_
                exact ih30 (x29 + 1) (by omega) (by omega)
            · exfalso; omega
        ·
          refine T_ld zk_182_20 rfl rfl rfl (pc' := 21) rfl ?_
          refine T_op zk_182_21 rfl (X_bi (v := -6) (by decide)) (pc' := 23) rfl ?_
          refine T_calli (K := fun y40 σ' => (y40 = (-6)) ∧ (fun σ' => IF MFm σ σ' ∧ (∀ j, 25 ≤ j → j < 50 → σ' 36 0 0 j = 0) ∧ σ' 36 0 0 633 = 0 ∧ σ' 36 0 0 634 = 0 ∧ σ' 36 0 0 635 = 0 ∧ σ' 36 0 0 636 = 0 ∧ σ' 36 0 0 640 = 0 ∧ σ' 36 0 0 641 = 0 ∧ σ' 36 0 0 642 = 0 ∧ (∀ j, 0 ≤ j → j < 25 → σ' 54 0 0 j = 0) ∧ True) σ') (r := []) zk_182_23 rfl rfl rfl rfl rfl rfl (Or.inr ⟨_, _, _, _, rfl, vd_35, rfl⟩) (fun σ' h => (m_123 ((-6)) (by omega) σ' h.1.1 ).le (Nat.le_of_ble_eq_true rfl) (fun v σ2 ⟨y, h1, h2, h3, h4⟩ => ⟨y, h1, h2, h.1.tr h3 (fun t i k j h => by unfold MT at h; unfold MFm; omega), fun j a b => (h3.2 _ _ _ _ (by unfold MT; omega)).trans (h.2.1 j a b), (h3.2 _ _ _ _ (by unfold MT; omega)).trans (h.2.2.1), (h3.2 _ _ _ _ (by unfold MT; omega)).trans (h.2.2.2.1), (h3.2 _ _ _ _ (by unfold MT; omega)).trans (h.2.2.2.2.1), (h3.2 _ _ _ _ (by unfold MT; omega)).trans (h.2.2.2.2.2.1), (h3.2 _ _ _ _ (by unfold MT; omega)).trans (h.2.2.2.2.2.2.1), (h3.2 _ _ _ _ (by unfold MT; omega)).trans (h.2.2.2.2.2.2.2.1), (h3.2 _ _ _ _ (by unfold MT; omega)).trans (h.2.2.2.2.2.2.2.2.1), fun j a b => (h3.2 _ _ _ _ (by unfold MT; omega)).trans (h.2.2.2.2.2.2.2.2.2.1 j a b), trivial⟩)) (pc' := 26) rfl (fun y40 => ?_)
          refine G_ex (fun hy40 => ?_)
          obtain rfl : y40 = (-6) := by omega
          exact T_iret zk_182_26 rfl (fun σ' h => ⟨_, rfl, (by omega), h.1, trivial⟩)
/-- WModel.image -/
theorem m_image {xs : Nat × (Nat → Int32)}   (σ : ZS) (hI : Inv σ) (hm : ∀ t i k j, 35 ≤ t → σ t i k j = σ0 t i k j)  : CT xs 2 184 [av 35 0 0] σ (fun v σ' => ∃ y, v = some (iv y) ∧ (y = 0) ∧ IF MIm σ σ' ∧ (True)) := by
  refine G_ct (J := (fun σ' => IF MIm σ σ' ∧ True)) (L := [(0, av 35 0 0)]) (nL := 2) rfl rfl rfl ⟨IF.rf hI, trivial⟩ ?_
  refine T_ld zk_184_0 rfl rfl rfl (pc' := 1) rfl ?_
  refine T_ld zk_184_1 rfl rfl rfl (pc' := 2) rfl ?_
  refine T_getR (t' := 36) (i' := 0) (k' := 0) zk_184_2 rfl rfl rfl vd_35 (pc' := 5) rfl ?_
  refine T_ld zk_184_5 rfl rfl rfl (pc' := 6) rfl ?_
  refine T_getR (t' := 36) (i' := 0) (k' := 2) zk_184_6 rfl rfl rfl vd_35 (pc' := 9) rfl ?_
  refine T_callv (J' := (fun σ' => IF MIm σ σ' ∧ True)) (r := []) zk_184_9 rfl rfl rfl rfl rfl rfl (Or.inr ⟨_, _, _, _, rfl, vd_35, rfl⟩) (fun σ' h => (m_179_02   σ' h.1.1 ).le (Nat.le_of_ble_eq_true rfl) (fun v σ2 ⟨h1, h3, h4⟩ => ⟨h1, h.1.tr h3 (fun t i k j h => by unfold MV at h; unfold MIm; omega), trivial⟩)) (pc' := 12) rfl ?_
  refine T_op zk_184_12 rfl X_ic (pc' := 13) rfl ?_
  refine T_st (L' := [(0, av 35 0 0), (1, iv 0)]) zk_184_13 (nL := 2) rfl rfl rfl rfl rfl (pc' := 14) rfl ?_
  refine T_loop1 (fun x2 => ((5 - x2 : Int)).toNat) (fun x2 => (0 ≤ x2 ∧ x2 ≤ 5)) (fun x2 => TJ xs (fun σ' => IF MIm σ σ' ∧ True) 1 184 14 [(0, av 35 0 0), (1, iv x2)] [] _) ?_ 0 (by omega)
  intro x2 hp4 ih3
  refine T_ld zk_184_14 rfl rfl rfl (pc' := 15) rfl ?_
  refine T_op zk_184_15 rfl X_ic (pc' := 16) rfl ?_
  refine T_icmp_ge zk_184_16 (by omega) (by omega) (pc' := 19) rfl (fun h5 => ?_) (fun h6 => ?_)
  ·
    refine T_op zk_184_49 rfl X_ic (pc' := 50) rfl ?_
    refine T_st (L' := [(0, av 35 0 0), (1, iv 0)]) zk_184_50 (nL := 2) rfl rfl rfl rfl rfl (pc' := 51) rfl ?_
    refine T_loop1 (fun x7 => ((600 - x7 : Int)).toNat) (fun x7 => (0 ≤ x7 ∧ x7 ≤ 600)) (fun x7 => TJ xs (fun σ' => IF MIm σ σ' ∧ True) 1 184 51 [(0, av 35 0 0), (1, iv x7)] [] _) ?_ 0 (by omega)
    intro x7 hp9 ih8
    refine T_ld zk_184_51 rfl rfl rfl (pc' := 52) rfl ?_
    refine T_op zk_184_52 rfl (X_si (v := 600) (by decide)) (pc' := 55) rfl ?_
    refine T_icmp_ge zk_184_55 (by omega) (by omega) (pc' := 58) rfl (fun h10 => ?_) (fun h11 => ?_)
    ·
      refine T_op zk_184_76 rfl X_ic (pc' := 77) rfl ?_
      refine T_st (L' := [(0, av 35 0 0), (1, iv 0)]) zk_184_77 (nL := 2) rfl rfl rfl rfl rfl (pc' := 78) rfl ?_
      refine T_loop1 (fun x12 => ((250 - x12 : Int)).toNat) (fun x12 => (0 ≤ x12 ∧ x12 ≤ 250)) (fun x12 => TJ xs (fun σ' => IF MIm σ σ' ∧ True) 1 184 78 [(0, av 35 0 0), (1, iv x12)] [] _) ?_ 0 (by omega)
      intro x12 hp14 ih13
      refine T_ld zk_184_78 rfl rfl rfl (pc' := 79) rfl ?_
      refine T_op zk_184_79 rfl (X_si (v := 250) (by decide)) (pc' := 82) rfl ?_
      refine T_icmp_ge zk_184_82 (by omega) (by omega) (pc' := 85) rfl (fun h15 => ?_) (fun h16 => ?_)
      ·
        refine T_ld zk_184_127 rfl rfl rfl (pc' := 128) rfl ?_
        refine T_op zk_184_128 rfl X_ic (pc' := 129) rfl ?_
        refine T_putz (J' := (fun σ' => IF MIm σ σ' ∧ True)) zk_184_129 rfl rfl (by omega) vd_35 (fun σ' h => ⟨h.1.up (by simp only [rgP] <;> omega) (by unfold MIm; omega), trivial⟩) (pc' := 132) rfl ?_
        refine T_ld zk_184_132 rfl rfl rfl (pc' := 133) rfl ?_
        refine T_getR (t' := 36) (i' := 0) (k' := 0) zk_184_133 rfl rfl rfl vd_35 (pc' := 136) rfl ?_
        refine T_op zk_184_136 rfl (X_si (v := 634) (by decide)) (pc' := 139) rfl ?_
        refine G_ialdX (w := 0) (ln := 646) zk_184_139 rfl rfl (vd_36 (by omega)) (by omega) (by omega) (by omega) (fun σ' h => (h.1.2 _ _ _ _ (by unfold MIm; omega)).trans ((hm _ _ _ _ (by decide)).trans (s0_z (by omega)))) (pc' := 140) rfl ?_
        exact T_iret zk_184_140 rfl (fun σ' h => ⟨_, rfl, (by omega), h.1, trivial⟩)
      ·
        refine T_ld zk_184_85 rfl rfl rfl (pc' := 86) rfl ?_
        refine T_getR (t' := 59) (i' := 0) (k' := 0) zk_184_86 rfl rfl rfl vd_35 (pc' := 89) rfl ?_
        refine T_ld zk_184_89 rfl rfl rfl (pc' := 90) rfl ?_
        refine T_ld zk_184_90 rfl rfl rfl (pc' := 91) rfl ?_
        refine T_getR (t' := 46) (i' := 0) (k' := 0) zk_184_91 rfl rfl rfl vd_35 (pc' := 94) rfl ?_
        refine T_ld zk_184_94 rfl rfl rfl (pc' := 95) rfl ?_
        refine G_ialdX (w := 0) (ln := 300) zk_184_95 rfl rfl vd_46 (by omega) (by omega) (by omega) (fun σ' h => (h.1.2 _ _ _ _ (by unfold MIm; omega)).trans (hm _ _ _ _ (by decide))) (pc' := 96) rfl ?_
        refine G_iast (J' := (fun σ' => IF MIm σ σ' ∧ True)) (ln := 250) zk_184_96 rfl rfl vd_59 (by omega) (by omega) (by omega) (fun σ' h => ⟨h.1.up ⟨by omega, trivial⟩ (by unfold MIm; omega), trivial⟩) (pc' := 97) rfl ?_
        refine T_ld zk_184_97 rfl rfl rfl (pc' := 98) rfl ?_
        refine T_getR (t' := 60) (i' := 0) (k' := 0) zk_184_98 rfl rfl rfl vd_35 (pc' := 101) rfl ?_
        refine T_ld zk_184_101 rfl rfl rfl (pc' := 102) rfl ?_
        refine T_ld zk_184_102 rfl rfl rfl (pc' := 103) rfl ?_
        refine T_getR (t' := 47) (i' := 0) (k' := 0) zk_184_103 rfl rfl rfl vd_35 (pc' := 106) rfl ?_
        refine T_ld zk_184_106 rfl rfl rfl (pc' := 107) rfl ?_
        refine G_ialdX (w := 0) (ln := 300) zk_184_107 rfl rfl vd_47 (by omega) (by omega) (by omega) (fun σ' h => (h.1.2 _ _ _ _ (by unfold MIm; omega)).trans (hm _ _ _ _ (by decide))) (pc' := 108) rfl ?_
        refine G_iast (J' := (fun σ' => IF MIm σ σ' ∧ True)) (ln := 250) zk_184_108 rfl rfl vd_60 (by omega) (by omega) (by omega) (fun σ' h => ⟨h.1.up ⟨by omega, trivial⟩ (by unfold MIm; omega), trivial⟩) (pc' := 109) rfl ?_
        refine T_ld zk_184_109 rfl rfl rfl (pc' := 110) rfl ?_
        refine T_getR (t' := 61) (i' := 0) (k' := 0) zk_184_110 rfl rfl rfl vd_35 (pc' := 113) rfl ?_
        refine T_ld zk_184_113 rfl rfl rfl (pc' := 114) rfl ?_
        refine T_ld zk_184_114 rfl rfl rfl (pc' := 115) rfl ?_
        refine T_getR (t' := 48) (i' := 0) (k' := 0) zk_184_115 rfl rfl rfl vd_35 (pc' := 118) rfl ?_
        refine T_ld zk_184_118 rfl rfl rfl (pc' := 119) rfl ?_
        refine G_ialdX (w := 0) (ln := 300) zk_184_119 rfl rfl vd_48 (by omega) (by omega) (by omega) (fun σ' h => (h.1.2 _ _ _ _ (by unfold MIm; omega)).trans (hm _ _ _ _ (by decide))) (pc' := 120) rfl ?_
        refine G_iast (J' := (fun σ' => IF MIm σ σ' ∧ True)) (ln := 250) zk_184_120 rfl rfl vd_61 (by omega) (by omega) (by omega) (fun σ' h => ⟨h.1.up ⟨by omega, trivial⟩ (by unfold MIm; omega), trivial⟩) (pc' := 121) rfl ?_
        refine T_iinc (L' := [(0, av 35 0 0), (1, iv (x12 + 1))]) zk_184_121 (nL := 2) rfl rfl rfl rfl (pc' := 124) rfl ?_
        refine T_goto zk_184_124 ?_
        exact ih13 (x12 + 1) (by omega) (by omega)
    ·
      refine T_ld zk_184_58 rfl rfl rfl (pc' := 59) rfl ?_
      refine T_getR (t' := 58) (i' := 0) (k' := 0) zk_184_59 rfl rfl rfl vd_35 (pc' := 62) rfl ?_
      refine T_ld zk_184_62 rfl rfl rfl (pc' := 63) rfl ?_
      refine T_ld zk_184_63 rfl rfl rfl (pc' := 64) rfl ?_
      refine T_getR (t' := 45) (i' := 0) (k' := 0) zk_184_64 rfl rfl rfl vd_35 (pc' := 67) rfl ?_
      refine T_ld zk_184_67 rfl rfl rfl (pc' := 68) rfl ?_
      refine G_ialdX (w := 0) (ln := 720) zk_184_68 rfl rfl vd_45 (by omega) (by omega) (by omega) (fun σ' h => (h.1.2 _ _ _ _ (by unfold MIm; omega)).trans (hm _ _ _ _ (by decide))) (pc' := 69) rfl ?_
      refine G_iast (J' := (fun σ' => IF MIm σ σ' ∧ True)) (ln := 600) zk_184_69 rfl rfl vd_58 (by omega) (by omega) (by omega) (fun σ' h => ⟨h.1.up (by simp only [rgP] <;> omega) (by unfold MIm; omega), trivial⟩) (pc' := 70) rfl ?_
      refine T_iinc (L' := [(0, av 35 0 0), (1, iv (x7 + 1))]) zk_184_70 (nL := 2) rfl rfl rfl rfl (pc' := 73) rfl ?_
      refine T_goto zk_184_73 ?_
      exact ih8 (x7 + 1) (by omega) (by omega)
  ·
    refine T_ld zk_184_19 rfl rfl rfl (pc' := 20) rfl ?_
    refine T_getR (t' := 56) (i' := 0) (k' := 0) zk_184_20 rfl rfl rfl vd_35 (pc' := 23) rfl ?_
    refine T_ld zk_184_23 rfl rfl rfl (pc' := 24) rfl ?_
    refine T_ld zk_184_24 rfl rfl rfl (pc' := 25) rfl ?_
    refine T_getR (t' := 43) (i' := 0) (k' := 0) zk_184_25 rfl rfl rfl vd_35 (pc' := 28) rfl ?_
    refine T_ld zk_184_28 rfl rfl rfl (pc' := 29) rfl ?_
    refine G_ialdX (w := 0) (ln := 6) zk_184_29 rfl rfl vd_43 (by omega) (by omega) (by omega) (fun σ' h => (h.1.2 _ _ _ _ (by unfold MIm; omega)).trans (hm _ _ _ _ (by decide))) (pc' := 30) rfl ?_
    refine G_iast (J' := (fun σ' => IF MIm σ σ' ∧ True)) (ln := 5) zk_184_30 rfl rfl vd_56 (by omega) (by omega) (by omega) (fun σ' h => ⟨h.1.up ⟨by omega, trivial⟩ (by unfold MIm; omega), trivial⟩) (pc' := 31) rfl ?_
    refine T_ld zk_184_31 rfl rfl rfl (pc' := 32) rfl ?_
    refine T_getR (t' := 57) (i' := 0) (k' := 0) zk_184_32 rfl rfl rfl vd_35 (pc' := 35) rfl ?_
    refine T_ld zk_184_35 rfl rfl rfl (pc' := 36) rfl ?_
    refine T_ld zk_184_36 rfl rfl rfl (pc' := 37) rfl ?_
    refine T_getR (t' := 44) (i' := 0) (k' := 0) zk_184_37 rfl rfl rfl vd_35 (pc' := 40) rfl ?_
    refine T_ld zk_184_40 rfl rfl rfl (pc' := 41) rfl ?_
    refine G_ialdX (w := 0) (ln := 6) zk_184_41 rfl rfl vd_44 (by omega) (by omega) (by omega) (fun σ' h => (h.1.2 _ _ _ _ (by unfold MIm; omega)).trans (hm _ _ _ _ (by decide))) (pc' := 42) rfl ?_
    refine G_iast (J' := (fun σ' => IF MIm σ σ' ∧ True)) (ln := 5) zk_184_42 rfl rfl vd_57 (by omega) (by omega) (by omega) (fun σ' h => ⟨h.1.up (by simp only [rgP] <;> omega) (by unfold MIm; omega), trivial⟩) (pc' := 43) rfl ?_
    refine T_iinc (L' := [(0, av 35 0 0), (1, iv (x2 + 1))]) zk_184_43 (nL := 2) rfl rfl rfl rfl (pc' := 46) rfl ?_
    refine T_goto zk_184_46 ?_
    exact ih3 (x2 + 1) (by omega) (by omega)
