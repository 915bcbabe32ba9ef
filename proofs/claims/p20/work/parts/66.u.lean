theorem zk_178_0 : zc 178 0 = some (.iload_n 1, 0, 0, 0, 0) := rfl
theorem zk_178_1 : zc 178 1 = some (.iconst 1, 0, 0, 0, 0) := rfl
theorem zk_178_2 : zc 178 2 = some (.if_icmp .lt 10, 12, 0, 0, 0) := rfl
theorem zk_178_5 : zc 178 5 = some (.iload_n 1, 0, 0, 0, 0) := rfl
theorem zk_178_6 : zc 178 6 = some (.sipush 200, 0, 0, 0, 0) := rfl
theorem zk_178_9 : zc 178 9 = some (.if_icmp .le 10, 19, 0, 0, 0) := rfl
theorem zk_178_12 : zc 178 12 = some (.aload_n 0, 0, 0, 0, 0) := rfl
theorem zk_178_13 : zc 178 13 = some (.bipush (-6), 0, 0, 0, 0) := rfl
theorem zk_178_15 : zc 178 15 = some (.invokevirtual 103, 123, 0, 2, 129) := rfl
theorem zk_178_18 : zc 178 18 = some (.ireturn, 0, 0, 0, 0) := rfl
theorem zk_178_19 : zc 178 19 = some (.aload_n 0, 0, 0, 0, 0) := rfl
theorem zk_178_20 : zc 178 20 = some (.getfield 7, 11, 0, 0, 139) := rfl
theorem zk_178_23 : zc 178 23 = some (.sipush 634, 0, 0, 0, 0) := rfl
theorem zk_178_26 : zc 178 26 = some (.iaload, 0, 0, 0, 0) := rfl
theorem zk_178_27 : zc 178 27 = some (.iload_n 1, 0, 0, 0, 0) := rfl
theorem zk_178_28 : zc 178 28 = some (.iadd, 0, 0, 0, 0) := rfl
theorem zk_178_29 : zc 178 29 = some (.sipush 20000, 0, 0, 0, 0) := rfl
theorem zk_178_32 : zc 178 32 = some (.if_icmp .le 10, 42, 0, 0, 0) := rfl
theorem zk_178_35 : zc 178 35 = some (.aload_n 0, 0, 0, 0, 0) := rfl
theorem zk_178_36 : zc 178 36 = some (.bipush (-7), 0, 0, 0, 0) := rfl
theorem zk_178_38 : zc 178 38 = some (.invokevirtual 103, 123, 0, 2, 129) := rfl
theorem zk_178_41 : zc 178 41 = some (.ireturn, 0, 0, 0, 0) := rfl
theorem zk_178_42 : zc 178 42 = some (.iconst 0, 0, 0, 0, 0) := rfl
theorem zk_178_43 : zc 178 43 = some (.istore_n 2, 0, 0, 0, 0) := rfl
theorem zk_178_44 : zc 178 44 = some (.iload_n 2, 0, 0, 0, 0) := rfl
theorem zk_178_45 : zc 178 45 = some (.iload_n 1, 0, 0, 0, 0) := rfl
theorem zk_178_46 : zc 178 46 = some (.if_icmp .ge 19, 65, 0, 0, 0) := rfl
theorem zk_178_49 : zc 178 49 = some (.aload_n 0, 0, 0, 0, 0) := rfl
theorem zk_178_50 : zc 178 50 = some (.iconst 0, 0, 0, 0, 0) := rfl
theorem zk_178_51 : zc 178 51 = some (.invokevirtual 223, 175, 0, 2, 153) := rfl
theorem zk_178_54 : zc 178 54 = some (.aload_n 0, 0, 0, 0, 0) := rfl
theorem zk_178_55 : zc 178 55 = some (.iconst 0, 0, 0, 0, 0) := rfl
theorem zk_178_56 : zc 178 56 = some (.invokevirtual 227, 177, 0, 2, 154) := rfl
theorem zk_178_59 : zc 178 59 = some (.iinc 2 1, 0, 0, 0, 0) := rfl
theorem zk_178_62 : zc 178 62 = some (.goto (-18), 44, 0, 0, 0) := rfl
theorem zk_178_65 : zc 178 65 = some (.aload_n 0, 0, 0, 0, 0) := rfl
theorem zk_178_66 : zc 178 66 = some (.getfield 7, 11, 0, 0, 139) := rfl
theorem zk_178_69 : zc 178 69 = some (.sipush 634, 0, 0, 0, 0) := rfl
theorem zk_178_72 : zc 178 72 = some (.iaload, 0, 0, 0, 0) := rfl
theorem zk_178_73 : zc 178 73 = some (.ireturn, 0, 0, 0, 0) := rfl
theorem zk_179_0 : zc 179 0 = some (.iconst 0, 0, 0, 0, 0) := rfl
theorem zk_179_1 : zc 179 1 = some (.istore_n 3, 0, 0, 0, 0) := rfl
theorem zk_179_2 : zc 179 2 = some (.iload_n 3, 0, 0, 0, 0) := rfl
theorem zk_179_3 : zc 179 3 = some (.sipush 646, 0, 0, 0, 0) := rfl
theorem zk_179_6 : zc 179 6 = some (.if_icmp .ge 15, 21, 0, 0, 0) := rfl
theorem zk_179_9 : zc 179 9 = some (.aload_n 2, 0, 0, 0, 0) := rfl
theorem zk_179_10 : zc 179 10 = some (.iload_n 3, 0, 0, 0, 0) := rfl
theorem zk_179_11 : zc 179 11 = some (.aload_n 1, 0, 0, 0, 0) := rfl
theorem zk_179_12 : zc 179 12 = some (.iload_n 3, 0, 0, 0, 0) := rfl
theorem zk_179_13 : zc 179 13 = some (.iaload, 0, 0, 0, 0) := rfl
theorem zk_179_14 : zc 179 14 = some (.iastore, 0, 0, 0, 0) := rfl
theorem zk_179_15 : zc 179 15 = some (.iinc 3 1, 0, 0, 0, 0) := rfl
theorem zk_179_18 : zc 179 18 = some (.goto (-16), 2, 0, 0, 0) := rfl
theorem zk_179_21 : zc 179 21 = some (.return_, 0, 0, 0, 0) := rfl
theorem zk_180_0 : zc 180 0 = some (.aload_n 0, 0, 0, 0, 0) := rfl
theorem zk_180_1 : zc 180 1 = some (.iload_n 1, 0, 0, 0, 0) := rfl
theorem zk_180_2 : zc 180 2 = some (.invokevirtual 198, 167, 0, 2, 148) := rfl
theorem zk_180_5 : zc 180 5 = some (.ifCond .eq 10, 15, 0, 0, 0) := rfl
theorem zk_180_8 : zc 180 8 = some (.iload_n 2, 0, 0, 0, 0) := rfl
theorem zk_180_9 : zc 180 9 = some (.invokestatic 99, 124, 1, 1, 128) := rfl
theorem zk_180_12 : zc 180 12 = some (.ifCond .ne 5, 17, 0, 0, 0) := rfl
theorem zk_180_15 : zc 180 15 = some (.iconst (-1), 0, 0, 0, 0) := rfl
theorem zk_180_16 : zc 180 16 = some (.ireturn, 0, 0, 0, 0) := rfl
theorem zk_180_17 : zc 180 17 = some (.iload_n 3, 0, 0, 0, 0) := rfl
theorem zk_180_18 : zc 180 18 = some (.iconst 1, 0, 0, 0, 0) := rfl
theorem zk_180_19 : zc 180 19 = some (.if_icmp .lt 9, 28, 0, 0, 0) := rfl
theorem zk_180_22 : zc 180 22 = some (.iload_n 3, 0, 0, 0, 0) := rfl
theorem zk_180_23 : zc 180 23 = some (.bipush 96, 0, 0, 0, 0) := rfl
theorem zk_180_25 : zc 180 25 = some (.if_icmp .le 10, 35, 0, 0, 0) := rfl
theorem zk_180_28 : zc 180 28 = some (.aload_n 0, 0, 0, 0, 0) := rfl
theorem zk_180_29 : zc 180 29 = some (.bipush (-6), 0, 0, 0, 0) := rfl
theorem zk_180_31 : zc 180 31 = some (.invokevirtual 103, 123, 0, 2, 129) := rfl
theorem zk_180_34 : zc 180 34 = some (.ireturn, 0, 0, 0, 0) := rfl
theorem zk_180_35 : zc 180 35 = some (.aload_n 0, 0, 0, 0, 0) := rfl
theorem zk_180_36 : zc 180 36 = some (.getfield 7, 11, 0, 0, 139) := rfl
theorem zk_180_39 : zc 180 39 = some (.sipush 568, 0, 0, 0, 0) := rfl
theorem zk_180_42 : zc 180 42 = some (.iload_n 1, 0, 0, 0, 0) := rfl
theorem zk_180_43 : zc 180 43 = some (.iadd, 0, 0, 0, 0) := rfl
theorem zk_180_44 : zc 180 44 = some (.iaload, 0, 0, 0, 0) := rfl
theorem zk_180_45 : zc 180 45 = some (.iload_n 2, 0, 0, 0, 0) := rfl
theorem zk_180_46 : zc 180 46 = some (.if_icmp .ne 5, 51, 0, 0, 0) := rfl
theorem zk_180_49 : zc 180 49 = some (.iconst 0, 0, 0, 0, 0) := rfl
theorem zk_180_50 : zc 180 50 = some (.ireturn, 0, 0, 0, 0) := rfl
theorem zk_180_51 : zc 180 51 = some (.aload_n 0, 0, 0, 0, 0) := rfl
theorem zk_180_52 : zc 180 52 = some (.aload_n 0, 0, 0, 0, 0) := rfl
theorem zk_180_53 : zc 180 53 = some (.getfield 7, 11, 0, 0, 139) := rfl
theorem zk_180_56 : zc 180 56 = some (.aload_n 0, 0, 0, 0, 0) := rfl
theorem zk_180_57 : zc 180 57 = some (.getfield 13, 11, 1, 0, 140) := rfl
theorem zk_180_60 : zc 180 60 = some (.invokevirtual 230, 179, 0, 3, 155) := rfl
theorem zk_180_63 : zc 180 63 = some (.iconst 1, 0, 0, 0, 0) := rfl
theorem zk_180_64 : zc 180 64 = some (.aload_n 0, 0, 0, 0, 0) := rfl
theorem zk_180_65 : zc 180 65 = some (.getfield 7, 11, 0, 0, 139) := rfl
theorem zk_180_68 : zc 180 68 = some (.sipush 568, 0, 0, 0, 0) := rfl
theorem zk_180_71 : zc 180 71 = some (.iload_n 1, 0, 0, 0, 0) := rfl
theorem zk_180_72 : zc 180 72 = some (.iadd, 0, 0, 0, 0) := rfl
theorem zk_180_73 : zc 180 73 = some (.iaload, 0, 0, 0, 0) := rfl
theorem zk_180_74 : zc 180 74 = some (.ishl, 0, 0, 0, 0) := rfl
theorem zk_180_75 : zc 180 75 = some (.istore 4, 0, 0, 0, 0) := rfl
theorem zk_180_77 : zc 180 77 = some (.iconst (-1), 0, 0, 0, 0) := rfl
theorem zk_180_78 : zc 180 78 = some (.istore 5, 0, 0, 0, 0) := rfl
theorem zk_180_80 : zc 180 80 = some (.iconst 0, 0, 0, 0, 0) := rfl
theorem zk_180_81 : zc 180 81 = some (.istore 6, 0, 0, 0, 0) := rfl
theorem zk_180_83 : zc 180 83 = some (.iload 6, 0, 0, 0, 0) := rfl
theorem zk_180_85 : zc 180 85 = some (.iload_n 3, 0, 0, 0, 0) := rfl
theorem zk_180_86 : zc 180 86 = some (.if_icmp .ge 122, 208, 0, 0, 0) := rfl
theorem zk_180_89 : zc 180 89 = some (.iload 5, 0, 0, 0, 0) := rfl
theorem zk_180_91 : zc 180 91 = some (.iconst (-1), 0, 0, 0, 0) := rfl
theorem zk_180_92 : zc 180 92 = some (.if_icmp .ne 116, 208, 0, 0, 0) := rfl
theorem zk_180_95 : zc 180 95 = some (.aload_n 0, 0, 0, 0, 0) := rfl
theorem zk_180_96 : zc 180 96 = some (.iconst 1, 0, 0, 0, 0) := rfl
theorem zk_180_97 : zc 180 97 = some (.invokevirtual 223, 175, 0, 2, 153) := rfl
theorem zk_180_100 : zc 180 100 = some (.iload 4, 0, 0, 0, 0) := rfl
theorem zk_180_102 : zc 180 102 = some (.istore 7, 0, 0, 0, 0) := rfl
theorem zk_180_104 : zc 180 104 = some (.iconst 0, 0, 0, 0, 0) := rfl
theorem zk_180_105 : zc 180 105 = some (.istore 8, 0, 0, 0, 0) := rfl
theorem zk_180_107 : zc 180 107 = some (.iload 8, 0, 0, 0, 0) := rfl
theorem zk_180_109 : zc 180 109 = some (.bipush 25, 0, 0, 0, 0) := rfl
theorem zk_180_111 : zc 180 111 = some (.if_icmp .ge 66, 177, 0, 0, 0) := rfl
theorem zk_180_114 : zc 180 114 = some (.iconst 0, 0, 0, 0, 0) := rfl
theorem zk_180_115 : zc 180 115 = some (.istore 9, 0, 0, 0, 0) := rfl
theorem zk_180_117 : zc 180 117 = some (.iload 9, 0, 0, 0, 0) := rfl
theorem zk_180_119 : zc 180 119 = some (.iconst 4, 0, 0, 0, 0) := rfl
theorem zk_180_120 : zc 180 120 = some (.if_icmp .ge 51, 171, 0, 0, 0) := rfl
theorem zk_180_123 : zc 180 123 = some (.iload 4, 0, 0, 0, 0) := rfl
theorem zk_180_125 : zc 180 125 = some (.iload 8, 0, 0, 0, 0) := rfl
theorem zk_180_127 : zc 180 127 = some (.ishr, 0, 0, 0, 0) := rfl
theorem zk_180_128 : zc 180 128 = some (.iconst 1, 0, 0, 0, 0) := rfl
theorem zk_180_129 : zc 180 129 = some (.iand, 0, 0, 0, 0) := rfl
theorem zk_180_130 : zc 180 130 = some (.iconst 1, 0, 0, 0, 0) := rfl
theorem zk_180_131 : zc 180 131 = some (.if_icmp .ne 34, 165, 0, 0, 0) := rfl
theorem zk_180_134 : zc 180 134 = some (.aload_n 0, 0, 0, 0, 0) := rfl
theorem zk_180_135 : zc 180 135 = some (.iload_n 1, 0, 0, 0, 0) := rfl
theorem zk_180_136 : zc 180 136 = some (.iload 8, 0, 0, 0, 0) := rfl
theorem zk_180_138 : zc 180 138 = some (.iload 8, 0, 0, 0, 0) := rfl
theorem zk_180_140 : zc 180 140 = some (.iload 9, 0, 0, 0, 0) := rfl
theorem zk_180_142 : zc 180 142 = some (.invokestatic 201, 171, 1, 2, 149) := rfl
theorem zk_180_145 : zc 180 145 = some (.invokevirtual 204, 170, 0, 4, 150) := rfl
theorem zk_180_148 : zc 180 148 = some (.ifCond .eq 17, 165, 0, 0, 0) := rfl
theorem zk_180_151 : zc 180 151 = some (.iload 7, 0, 0, 0, 0) := rfl
theorem zk_180_153 : zc 180 153 = some (.iconst 1, 0, 0, 0, 0) := rfl
theorem zk_180_154 : zc 180 154 = some (.iload 8, 0, 0, 0, 0) := rfl
theorem zk_180_156 : zc 180 156 = some (.iload 9, 0, 0, 0, 0) := rfl
theorem zk_180_158 : zc 180 158 = some (.invokestatic 201, 171, 1, 2, 149) := rfl
theorem zk_180_161 : zc 180 161 = some (.ishl, 0, 0, 0, 0) := rfl
theorem zk_180_162 : zc 180 162 = some (.ior, 0, 0, 0, 0) := rfl
theorem zk_180_163 : zc 180 163 = some (.istore 7, 0, 0, 0, 0) := rfl
theorem zk_180_165 : zc 180 165 = some (.iinc 9 1, 0, 0, 0, 0) := rfl
theorem zk_180_168 : zc 180 168 = some (.goto (-51), 117, 0, 0, 0) := rfl
theorem zk_180_171 : zc 180 171 = some (.iinc 8 1, 0, 0, 0, 0) := rfl
theorem zk_180_174 : zc 180 174 = some (.goto (-67), 107, 0, 0, 0) := rfl
theorem zk_180_177 : zc 180 177 = some (.iload 7, 0, 0, 0, 0) := rfl
theorem zk_180_179 : zc 180 179 = some (.istore 4, 0, 0, 0, 0) := rfl
theorem zk_180_181 : zc 180 181 = some (.iload 4, 0, 0, 0, 0) := rfl
theorem zk_180_183 : zc 180 183 = some (.iload_n 2, 0, 0, 0, 0) := rfl
theorem zk_180_184 : zc 180 184 = some (.ishr, 0, 0, 0, 0) := rfl
theorem zk_180_185 : zc 180 185 = some (.iconst 1, 0, 0, 0, 0) := rfl
theorem zk_180_186 : zc 180 186 = some (.iand, 0, 0, 0, 0) := rfl
theorem zk_180_187 : zc 180 187 = some (.iconst 1, 0, 0, 0, 0) := rfl
theorem zk_180_188 : zc 180 188 = some (.if_icmp .ne 9, 197, 0, 0, 0) := rfl
theorem zk_180_191 : zc 180 191 = some (.iload 6, 0, 0, 0, 0) := rfl
theorem zk_180_193 : zc 180 193 = some (.iconst 1, 0, 0, 0, 0) := rfl
theorem zk_180_194 : zc 180 194 = some (.iadd, 0, 0, 0, 0) := rfl
theorem zk_180_195 : zc 180 195 = some (.istore 5, 0, 0, 0, 0) := rfl
theorem zk_180_197 : zc 180 197 = some (.aload_n 0, 0, 0, 0, 0) := rfl
theorem zk_180_198 : zc 180 198 = some (.iconst 1, 0, 0, 0, 0) := rfl
theorem zk_180_199 : zc 180 199 = some (.invokevirtual 227, 177, 0, 2, 154) := rfl
theorem zk_180_202 : zc 180 202 = some (.iinc 6 1, 0, 0, 0, 0) := rfl
theorem zk_180_205 : zc 180 205 = some (.goto (-122), 83, 0, 0, 0) := rfl
theorem zk_180_208 : zc 180 208 = some (.aload_n 0, 0, 0, 0, 0) := rfl
theorem zk_180_209 : zc 180 209 = some (.aload_n 0, 0, 0, 0, 0) := rfl
theorem zk_180_210 : zc 180 210 = some (.getfield 13, 11, 1, 0, 140) := rfl
theorem zk_180_213 : zc 180 213 = some (.aload_n 0, 0, 0, 0, 0) := rfl
theorem zk_180_214 : zc 180 214 = some (.getfield 7, 11, 0, 0, 139) := rfl
theorem zk_180_217 : zc 180 217 = some (.invokevirtual 230, 179, 0, 3, 155) := rfl
theorem zk_180_220 : zc 180 220 = some (.iload 5, 0, 0, 0, 0) := rfl
theorem zk_180_222 : zc 180 222 = some (.ireturn, 0, 0, 0, 0) := rfl
theorem zk_181_0 : zc 181 0 = some (.iload_n 1, 0, 0, 0, 0) := rfl
theorem zk_181_1 : zc 181 1 = some (.invokestatic 99, 124, 1, 1, 128) := rfl
theorem zk_181_4 : zc 181 4 = some (.ifCond .eq 14, 18, 0, 0, 0) := rfl
theorem zk_181_7 : zc 181 7 = some (.iload_n 2, 0, 0, 0, 0) := rfl
theorem zk_181_8 : zc 181 8 = some (.ifCond .lt 10, 18, 0, 0, 0) := rfl
theorem zk_181_11 : zc 181 11 = some (.iload_n 2, 0, 0, 0, 0) := rfl
theorem zk_181_12 : zc 181 12 = some (.sipush 200, 0, 0, 0, 0) := rfl
theorem zk_181_15 : zc 181 15 = some (.if_icmp .le 7, 22, 0, 0, 0) := rfl
theorem zk_181_18 : zc 181 18 = some (.sipush 1000, 0, 0, 0, 0) := rfl
theorem zk_181_21 : zc 181 21 = some (.ireturn, 0, 0, 0, 0) := rfl
theorem zk_181_22 : zc 181 22 = some (.aload_n 0, 0, 0, 0, 0) := rfl
theorem zk_181_23 : zc 181 23 = some (.aload_n 0, 0, 0, 0, 0) := rfl
theorem zk_181_24 : zc 181 24 = some (.getfield 7, 11, 0, 0, 139) := rfl
theorem zk_181_27 : zc 181 27 = some (.aload_n 0, 0, 0, 0, 0) := rfl
theorem zk_181_28 : zc 181 28 = some (.getfield 13, 11, 1, 0, 140) := rfl
theorem zk_181_31 : zc 181 31 = some (.invokevirtual 230, 179, 0, 3, 155) := rfl
theorem zk_181_34 : zc 181 34 = some (.iconst 0, 0, 0, 0, 0) := rfl
theorem zk_181_35 : zc 181 35 = some (.istore_n 3, 0, 0, 0, 0) := rfl
theorem zk_181_36 : zc 181 36 = some (.iload_n 3, 0, 0, 0, 0) := rfl
theorem zk_181_37 : zc 181 37 = some (.iload_n 2, 0, 0, 0, 0) := rfl
theorem zk_181_38 : zc 181 38 = some (.if_icmp .ge 19, 57, 0, 0, 0) := rfl
theorem zk_181_41 : zc 181 41 = some (.aload_n 0, 0, 0, 0, 0) := rfl
theorem zk_181_42 : zc 181 42 = some (.iconst 1, 0, 0, 0, 0) := rfl
theorem zk_181_43 : zc 181 43 = some (.invokevirtual 223, 175, 0, 2, 153) := rfl
theorem zk_181_46 : zc 181 46 = some (.aload_n 0, 0, 0, 0, 0) := rfl
theorem zk_181_47 : zc 181 47 = some (.iconst 1, 0, 0, 0, 0) := rfl
theorem zk_181_48 : zc 181 48 = some (.invokevirtual 227, 177, 0, 2, 154) := rfl
theorem zk_181_51 : zc 181 51 = some (.iinc 3 1, 0, 0, 0, 0) := rfl
theorem zk_181_54 : zc 181 54 = some (.goto (-18), 36, 0, 0, 0) := rfl
theorem zk_181_57 : zc 181 57 = some (.aload_n 0, 0, 0, 0, 0) := rfl
theorem zk_181_58 : zc 181 58 = some (.getfield 7, 11, 0, 0, 139) := rfl
theorem zk_181_61 : zc 181 61 = some (.bipush 25, 0, 0, 0, 0) := rfl
theorem zk_181_63 : zc 181 63 = some (.iload_n 1, 0, 0, 0, 0) := rfl
theorem zk_181_64 : zc 181 64 = some (.iadd, 0, 0, 0, 0) := rfl
theorem zk_181_65 : zc 181 65 = some (.iaload, 0, 0, 0, 0) := rfl
theorem zk_181_66 : zc 181 66 = some (.istore_n 3, 0, 0, 0, 0) := rfl
theorem zk_181_67 : zc 181 67 = some (.aload_n 0, 0, 0, 0, 0) := rfl
theorem zk_181_68 : zc 181 68 = some (.aload_n 0, 0, 0, 0, 0) := rfl
theorem zk_181_69 : zc 181 69 = some (.getfield 13, 11, 1, 0, 140) := rfl
theorem zk_181_72 : zc 181 72 = some (.aload_n 0, 0, 0, 0, 0) := rfl
theorem zk_181_73 : zc 181 73 = some (.getfield 7, 11, 0, 0, 139) := rfl
theorem zk_181_76 : zc 181 76 = some (.invokevirtual 230, 179, 0, 3, 155) := rfl
theorem zk_181_79 : zc 181 79 = some (.iload_n 3, 0, 0, 0, 0) := rfl
theorem zk_181_80 : zc 181 80 = some (.ireturn, 0, 0, 0, 0) := rfl
theorem zk_182_0 : zc 182 0 = some (.iload_n 1, 0, 0, 0, 0) := rfl
theorem zk_182_1 : zc 182 1 = some (.iconst 1, 0, 0, 0, 0) := rfl
theorem zk_182_2 : zc 182 2 = some (.if_icmp .lt 18, 20, 0, 0, 0) := rfl
theorem zk_182_5 : zc 182 5 = some (.iload_n 1, 0, 0, 0, 0) := rfl
theorem zk_182_6 : zc 182 6 = some (.bipush 48, 0, 0, 0, 0) := rfl
theorem zk_182_8 : zc 182 8 = some (.if_icmp .gt 12, 20, 0, 0, 0) := rfl
theorem zk_182_11 : zc 182 11 = some (.iload_n 2, 0, 0, 0, 0) := rfl
theorem zk_182_12 : zc 182 12 = some (.ifCond .lt 8, 20, 0, 0, 0) := rfl
theorem zk_182_15 : zc 182 15 = some (.iload_n 2, 0, 0, 0, 0) := rfl
theorem zk_182_16 : zc 182 16 = some (.iconst 1, 0, 0, 0, 0) := rfl
theorem zk_182_17 : zc 182 17 = some (.if_icmp .le 10, 27, 0, 0, 0) := rfl
theorem zk_182_20 : zc 182 20 = some (.aload_n 0, 0, 0, 0, 0) := rfl
theorem zk_182_21 : zc 182 21 = some (.bipush (-6), 0, 0, 0, 0) := rfl
theorem zk_182_23 : zc 182 23 = some (.invokevirtual 103, 123, 0, 2, 129) := rfl
theorem zk_182_26 : zc 182 26 = some (.ireturn, 0, 0, 0, 0) := rfl
theorem zk_182_27 : zc 182 27 = some (.iconst (-1), 0, 0, 0, 0) := rfl
theorem zk_182_28 : zc 182 28 = some (.istore_n 3, 0, 0, 0, 0) := rfl
theorem zk_182_29 : zc 182 29 = some (.iconst 0, 0, 0, 0, 0) := rfl
theorem zk_182_30 : zc 182 30 = some (.istore 4, 0, 0, 0, 0) := rfl
theorem zk_182_32 : zc 182 32 = some (.aload_n 0, 0, 0, 0, 0) := rfl
theorem zk_182_33 : zc 182 33 = some (.aload_n 0, 0, 0, 0, 0) := rfl
theorem zk_182_34 : zc 182 34 = some (.getfield 7, 11, 0, 0, 139) := rfl
theorem zk_182_37 : zc 182 37 = some (.aload_n 0, 0, 0, 0, 0) := rfl
theorem zk_182_38 : zc 182 38 = some (.getfield 13, 11, 1, 0, 140) := rfl
theorem zk_182_41 : zc 182 41 = some (.invokevirtual 230, 179, 0, 3, 155) := rfl
theorem zk_182_44 : zc 182 44 = some (.iconst 0, 0, 0, 0, 0) := rfl
theorem zk_182_45 : zc 182 45 = some (.istore 5, 0, 0, 0, 0) := rfl
theorem zk_182_47 : zc 182 47 = some (.iload 5, 0, 0, 0, 0) := rfl
theorem zk_182_49 : zc 182 49 = some (.iconst 1, 0, 0, 0, 0) := rfl
theorem zk_182_50 : zc 182 50 = some (.aload_n 0, 0, 0, 0, 0) := rfl
theorem zk_182_51 : zc 182 51 = some (.getfield 13, 11, 1, 0, 140) := rfl
theorem zk_182_54 : zc 182 54 = some (.sipush 640, 0, 0, 0, 0) := rfl
theorem zk_182_57 : zc 182 57 = some (.iaload, 0, 0, 0, 0) := rfl
theorem zk_182_58 : zc 182 58 = some (.ishl, 0, 0, 0, 0) := rfl
theorem zk_182_59 : zc 182 59 = some (.if_icmp .ge 129, 188, 0, 0, 0) := rfl
theorem zk_182_62 : zc 182 62 = some (.aload_n 0, 0, 0, 0, 0) := rfl
theorem zk_182_63 : zc 182 63 = some (.aload_n 0, 0, 0, 0, 0) := rfl
theorem zk_182_64 : zc 182 64 = some (.getfield 13, 11, 1, 0, 140) := rfl
theorem zk_182_67 : zc 182 67 = some (.aload_n 0, 0, 0, 0, 0) := rfl
theorem zk_182_68 : zc 182 68 = some (.getfield 7, 11, 0, 0, 139) := rfl
theorem zk_182_71 : zc 182 71 = some (.invokevirtual 230, 179, 0, 3, 155) := rfl
theorem zk_182_74 : zc 182 74 = some (.iconst 0, 0, 0, 0, 0) := rfl
theorem zk_182_75 : zc 182 75 = some (.istore 6, 0, 0, 0, 0) := rfl
theorem zk_182_77 : zc 182 77 = some (.iload 6, 0, 0, 0, 0) := rfl
theorem zk_182_79 : zc 182 79 = some (.aload_n 0, 0, 0, 0, 0) := rfl
theorem zk_182_80 : zc 182 80 = some (.getfield 7, 11, 0, 0, 139) := rfl
theorem zk_182_83 : zc 182 83 = some (.sipush 640, 0, 0, 0, 0) := rfl
theorem zk_182_86 : zc 182 86 = some (.iaload, 0, 0, 0, 0) := rfl
theorem zk_182_87 : zc 182 87 = some (.if_icmp .ge 27, 114, 0, 0, 0) := rfl
theorem zk_182_90 : zc 182 90 = some (.aload_n 0, 0, 0, 0, 0) := rfl
theorem zk_182_91 : zc 182 91 = some (.getfield 7, 11, 0, 0, 139) := rfl
theorem zk_182_94 : zc 182 94 = some (.sipush 628, 0, 0, 0, 0) := rfl
theorem zk_182_97 : zc 182 97 = some (.iload 6, 0, 0, 0, 0) := rfl
theorem zk_182_99 : zc 182 99 = some (.iadd, 0, 0, 0, 0) := rfl
theorem zk_182_100 : zc 182 100 = some (.iload 5, 0, 0, 0, 0) := rfl
theorem zk_182_102 : zc 182 102 = some (.iload 6, 0, 0, 0, 0) := rfl
theorem zk_182_104 : zc 182 104 = some (.ishr, 0, 0, 0, 0) := rfl
theorem zk_182_105 : zc 182 105 = some (.iconst 1, 0, 0, 0, 0) := rfl
theorem zk_182_106 : zc 182 106 = some (.iand, 0, 0, 0, 0) := rfl
theorem zk_182_107 : zc 182 107 = some (.iastore, 0, 0, 0, 0) := rfl
theorem zk_182_108 : zc 182 108 = some (.iinc 6 1, 0, 0, 0, 0) := rfl
theorem zk_182_111 : zc 182 111 = some (.goto (-34), 77, 0, 0, 0) := rfl
theorem zk_182_114 : zc 182 114 = some (.aload_n 0, 0, 0, 0, 0) := rfl
theorem zk_182_115 : zc 182 115 = some (.iconst 0, 0, 0, 0, 0) := rfl
theorem zk_182_116 : zc 182 116 = some (.putfield 214, 11, 31, 0, 176) := rfl
theorem zk_182_119 : zc 182 119 = some (.aload_n 0, 0, 0, 0, 0) := rfl
theorem zk_182_120 : zc 182 120 = some (.iconst 0, 0, 0, 0, 0) := rfl
theorem zk_182_121 : zc 182 121 = some (.putfield 220, 11, 32, 0, 177) := rfl
theorem zk_182_124 : zc 182 124 = some (.iconst 0, 0, 0, 0, 0) := rfl
theorem zk_182_125 : zc 182 125 = some (.istore 6, 0, 0, 0, 0) := rfl
theorem zk_182_127 : zc 182 127 = some (.iload 6, 0, 0, 0, 0) := rfl
theorem zk_182_129 : zc 182 129 = some (.iload_n 1, 0, 0, 0, 0) := rfl
theorem zk_182_130 : zc 182 130 = some (.if_icmp .ge 19, 149, 0, 0, 0) := rfl
theorem zk_182_133 : zc 182 133 = some (.aload_n 0, 0, 0, 0, 0) := rfl
theorem zk_182_134 : zc 182 134 = some (.iconst 1, 0, 0, 0, 0) := rfl
theorem zk_182_135 : zc 182 135 = some (.invokevirtual 223, 175, 0, 2, 153) := rfl
theorem zk_182_138 : zc 182 138 = some (.aload_n 0, 0, 0, 0, 0) := rfl
theorem zk_182_139 : zc 182 139 = some (.iconst 1, 0, 0, 0, 0) := rfl
theorem zk_182_140 : zc 182 140 = some (.invokevirtual 227, 177, 0, 2, 154) := rfl
theorem zk_182_143 : zc 182 143 = some (.iinc 6 1, 0, 0, 0, 0) := rfl
theorem zk_182_146 : zc 182 146 = some (.goto (-19), 127, 0, 0, 0) := rfl
theorem zk_182_149 : zc 182 149 = some (.bipush 10, 0, 0, 0, 0) := rfl
theorem zk_182_151 : zc 182 151 = some (.aload_n 0, 0, 0, 0, 0) := rfl
theorem zk_182_152 : zc 182 152 = some (.getfield 220, 11, 32, 0, 177) := rfl
theorem zk_182_155 : zc 182 155 = some (.imul, 0, 0, 0, 0) := rfl
theorem zk_182_156 : zc 182 156 = some (.aload_n 0, 0, 0, 0, 0) := rfl
theorem zk_182_157 : zc 182 157 = some (.getfield 214, 11, 31, 0, 176) := rfl
theorem zk_182_160 : zc 182 160 = some (.iadd, 0, 0, 0, 0) := rfl
theorem zk_182_161 : zc 182 161 = some (.istore 6, 0, 0, 0, 0) := rfl
theorem zk_182_163 : zc 182 163 = some (.iload_n 3, 0, 0, 0, 0) := rfl
theorem zk_182_164 : zc 182 164 = some (.iconst (-1), 0, 0, 0, 0) := rfl
theorem zk_182_165 : zc 182 165 = some (.if_icmp .eq 10, 175, 0, 0, 0) := rfl
theorem zk_182_168 : zc 182 168 = some (.iload 6, 0, 0, 0, 0) := rfl
theorem zk_182_170 : zc 182 170 = some (.iload 4, 0, 0, 0, 0) := rfl
theorem zk_182_172 : zc 182 172 = some (.if_icmp .ge 10, 182, 0, 0, 0) := rfl
theorem zk_182_175 : zc 182 175 = some (.iload 5, 0, 0, 0, 0) := rfl
theorem zk_182_177 : zc 182 177 = some (.istore_n 3, 0, 0, 0, 0) := rfl
theorem zk_182_178 : zc 182 178 = some (.iload 6, 0, 0, 0, 0) := rfl
theorem zk_182_180 : zc 182 180 = some (.istore 4, 0, 0, 0, 0) := rfl
theorem zk_182_182 : zc 182 182 = some (.iinc 5 1, 0, 0, 0, 0) := rfl
theorem zk_182_185 : zc 182 185 = some (.goto (-138), 47, 0, 0, 0) := rfl
theorem zk_182_188 : zc 182 188 = some (.aload_n 0, 0, 0, 0, 0) := rfl
theorem zk_182_189 : zc 182 189 = some (.aload_n 0, 0, 0, 0, 0) := rfl
theorem zk_182_190 : zc 182 190 = some (.getfield 13, 11, 1, 0, 140) := rfl
theorem zk_182_193 : zc 182 193 = some (.aload_n 0, 0, 0, 0, 0) := rfl
theorem zk_182_194 : zc 182 194 = some (.getfield 7, 11, 0, 0, 139) := rfl
theorem zk_182_197 : zc 182 197 = some (.invokevirtual 230, 179, 0, 3, 155) := rfl
theorem zk_182_200 : zc 182 200 = some (.iload_n 2, 0, 0, 0, 0) := rfl
theorem zk_182_201 : zc 182 201 = some (.ifCond .ne 7, 208, 0, 0, 0) := rfl
theorem zk_182_204 : zc 182 204 = some (.iload_n 3, 0, 0, 0, 0) := rfl
theorem zk_182_205 : zc 182 205 = some (.goto 5, 210, 0, 0, 0) := rfl
theorem zk_182_208 : zc 182 208 = some (.iload 4, 0, 0, 0, 0) := rfl
theorem zk_182_210 : zc 182 210 = some (.ireturn, 0, 0, 0, 0) := rfl
def MQm (t i k j : Nat) : Prop := (t = 36 ∧ k = 0 ∧ (j < 100 ∨ (253 ≤ j ∧ j < 256) ∨ (508 ≤ j ∧ j < 628) ∨ j = 634 ∨ (643 ≤ j ∧ j < 646))) ∨ (51 ≤ t ∧ t ≤ 55) ∨ (t = 35 ∧ (j = 31 ∨ j = 32 ∨ j = 33)) ∨ t = 49
theorem nMQm { t i k j : Nat} (hb : decide (((t = 36 ∧ (j < 100 ∨ (253 ≤ j ∧ j < 256) ∨ (508 ≤ j ∧ j < 628) ∨ j = 634 ∨ (643 ≤ j ∧ j < 646))) ∨ (51 ≤ t ∧ t ≤ 55) ∨ (t = 35 ∧ (j = 31 ∨ j = 32 ∨ j = 33)) ∨ t = 49)) = false) : ¬ MQm  t i k j := fun h => of_decide_eq_false hb (by unfold MQm at h; omega)
def MV (e : Nat) (t i k j : Nat) : Prop := t = 36 ∧ k = e
theorem nMV {e t i k j : Nat} (hb : decide (t = 36) = false) : ¬ MV e t i k j := fun h => of_decide_eq_false hb (by unfold MV at h; omega)
def MFm (t i k j : Nat) : Prop := t = 36 ∧ k ≤ 1 ∨ (51 ≤ t ∧ t ≤ 55) ∨ t = 35 ∧ (j = 31 ∨ j = 32 ∨ j = 33) ∨ t = 49
theorem nMFm { t i k j : Nat} (hb : decide ((t = 36 ∨ (51 ≤ t ∧ t ≤ 55) ∨ (t = 35 ∧ (j = 31 ∨ j = 32 ∨ j = 33)) ∨ t = 49)) = false) : ¬ MFm  t i k j := fun h => of_decide_eq_false hb (by unfold MFm at h; omega)
theorem pMFm { t i k j : Nat} (hb : decide (((51 ≤ t ∧ t ≤ 55) ∨ (t = 35 ∧ (j = 31 ∨ j = 32 ∨ j = 33)) ∨ t = 49)) = true) : MFm  t i k j := by
  have h := of_decide_eq_true hb
  unfold MFm
  omega
/-- a row of numbers moved to another -/
theorem m_179 {xs : Nat × (Nat → Int32)} (k1 k2 : Nat) (h1 : k1 < 3) (h2 : k2 < 3) (hne : ¬ k1 = k2) (σ : ZS) (hI : Inv σ) : CT xs 1 179 [av 35 0 0, av 36 0 k1, av 36 0 k2] σ (fun v σ' => v = none ∧ IF (MV k2) σ σ' ∧ ∀ j : Nat, j < 646 → σ' 36 0 k2 j = σ 36 0 k1 j) := by
  refine G_ct (J := fun σ' => IF (MV k2) σ σ' ∧ ∀ j : Nat, (j : Int) < 0 → σ' 36 0 k2 j = σ 36 0 k1 j) (L := [(0, av 35 0 0), (1, av 36 0 k1), (2, av 36 0 k2)]) (nL := 4) rfl rfl rfl ⟨IF.rf hI, fun j h => by omega⟩ ?_
  refine T_op zk_179_0 rfl X_ic (pc' := 1) rfl ?_
  refine T_st (L' := [(0, av 35 0 0), (1, av 36 0 k1), (2, av 36 0 k2), (3, iv 0)]) zk_179_1 (nL := 4) rfl rfl rfl rfl rfl (pc' := 2) rfl ?_
  refine T_loop1 (fun x => (646 - x : Int).toNat) (fun x => 0 ≤ x ∧ x ≤ 646) (fun x => TJ xs (fun σ' => IF (MV k2) σ σ' ∧ ∀ j : Nat, (j : Int) < x → σ' 36 0 k2 j = σ 36 0 k1 j) 0 179 2 [(0, av 35 0 0), (1, av 36 0 k1), (2, av 36 0 k2), (3, iv x)] [] _) ?_ 0 (by omega)
  intro x hp ih
  refine T_ld zk_179_2 rfl rfl rfl (pc' := 3) rfl ?_
  refine T_op zk_179_3 rfl (X_si (v := 646) (by decide)) (pc' := 6) rfl ?_
  refine T_icmp_ge zk_179_6 (by omega) (by omega) (pc' := 9) rfl (fun g1 => ?_) (fun g2 => ?_)
  · exact T_vret zk_179_21 rfl (fun σ' h => ⟨rfl, h.1, fun j hj => h.2 j (by omega)⟩)
  · refine T_ld zk_179_9 rfl rfl rfl (pc' := 10) rfl ?_
    refine T_ld zk_179_10 rfl rfl rfl (pc' := 11) rfl ?_
    refine T_ld zk_179_11 rfl rfl rfl (pc' := 12) rfl ?_
    refine T_ld zk_179_12 rfl rfl rfl (pc' := 13) rfl ?_
    refine T_ialdE zk_179_13 rfl (vd_36 h1) (by omega) (show x < ((646 : Nat) : Int) by omega) (by omega) (pc' := 14) rfl (fun y => ?_)
    refine T_iast (J' := fun σ' => IF (MV k2) σ σ' ∧ ∀ j : Nat, (j : Int) < x + 1 → σ' 36 0 k2 j = σ 36 0 k1 j) zk_179_14 rfl (vd_36 h2) (by omega) (show x < ((646 : Nat) : Int) by omega) (by omega) (fun σ' h => ⟨h.1.1.up (h.2 ▸ h.1.1.1 36 0 k1 _ (vd_36 h1)) ⟨rfl, rfl⟩, fun j hj => ?_⟩) (pc' := 15) rfl ?_
    · by_cases hq : j = x.toNat
      · subst hq
        rw [up_eq, ← h.2]
        exact h.1.1.2 _ _ _ _ (fun q => hne q.2)
      · rw [up_ne (fun q => hq q.2.2.2)]
        exact h.1.2 j (by omega)
    refine T_iinc (L' := [(0, av 35 0 0), (1, av 36 0 k1), (2, av 36 0 k2), (3, iv (x + 1))]) zk_179_15 (nL := 4) rfl rfl rfl rfl (pc' := 18) rfl ?_
    refine T_goto zk_179_18 ?_
    exact ih (x + 1) (by omega) (by omega)
theorem m_179_01 {xs : Nat × (Nat → Int32)} (F : Nat → Int) (σ : ZS) (hI : Inv σ) (s1 : ∀ j, 0 ≤ j → j < 646 → σ 36 0 0 j = F j) : CT xs 1 179 [av 35 0 0, av 36 0 0, av 36 0 1] σ (fun v σ' => v = none ∧ IF (MV 1) σ σ' ∧ ((∀ j, 0 ≤ j → j < 646 → σ' 36 0 1 j = F j) ∧ True)) := (m_179 0 1 (by omega) (by omega) (by omega) σ hI).le (Nat.le_refl _) (fun v σ' h => ⟨h.1, h.2.1, ⟨fun j a b => (h.2.2 j (by omega)).trans (s1 j a b), trivial⟩⟩)
theorem m_179_10 {xs : Nat × (Nat → Int32)} (F : Nat → Int) (σ : ZS) (hI : Inv σ) (s1 : ∀ j, 0 ≤ j → j < 646 → σ 36 0 1 j = F j) : CT xs 1 179 [av 35 0 0, av 36 0 1, av 36 0 0] σ (fun v σ' => v = none ∧ IF (MV 0) σ σ' ∧ ((∀ j, 0 ≤ j → j < 646 → σ' 36 0 0 j = F j) ∧ True)) := (m_179 1 0 (by omega) (by omega) (by omega) σ hI).le (Nat.le_refl _) (fun v σ' h => ⟨h.1, h.2.1, ⟨fun j a b => (h.2.2 j (by omega)).trans (s1 j a b), trivial⟩⟩)
theorem m_179_02 {xs : Nat × (Nat → Int32)} (F : Nat → Int) (σ : ZS) (hI : Inv σ) (s1 : ∀ j, 0 ≤ j → j < 646 → σ 36 0 0 j = F j) : CT xs 1 179 [av 35 0 0, av 36 0 0, av 36 0 2] σ (fun v σ' => v = none ∧ IF (MV 2) σ σ' ∧ ((∀ j, 0 ≤ j → j < 646 → σ' 36 0 2 j = F j) ∧ True)) := (m_179 0 2 (by omega) (by omega) (by omega) σ hI).le (Nat.le_refl _) (fun v σ' h => ⟨h.1, h.2.1, ⟨fun j a b => (h.2.2 j (by omega)).trans (s1 j a b), trivial⟩⟩)
theorem m_179_20 {xs : Nat × (Nat → Int32)} (F : Nat → Int) (σ : ZS) (hI : Inv σ) (s1 : ∀ j, 0 ≤ j → j < 646 → σ 36 0 2 j = F j) : CT xs 1 179 [av 35 0 0, av 36 0 2, av 36 0 0] σ (fun v σ' => v = none ∧ IF (MV 0) σ σ' ∧ ((∀ j, 0 ≤ j → j < 646 → σ' 36 0 0 j = F j) ∧ True)) := (m_179 2 0 (by omega) (by omega) (by omega) σ hI).le (Nat.le_refl _) (fun v σ' h => ⟨h.1, h.2.1, ⟨fun j a b => (h.2.2 j (by omega)).trans (s1 j a b), trivial⟩⟩)
theorem sb66_58247e6 : ∀ t i k j, MT 49 49 49 49 t i k j → MQm t i k j := by
  intro t i k j h
  unfold MT at h
  unfold MQm
  omega
theorem sb66_e5a8ec9 : ∀ t i k j, MWg t i k j → MQm t i k j := by
  intro t i k j h
  unfold MWg at h
  unfold MQm
  omega
theorem sb66_c329837 : ∀ t i k j, MLg t i k j → MQm t i k j := by
  intro t i k j h
  unfold MLg at h
  unfold MQm
  omega
/-- WModel.quarters -/
theorem m_178 {xs : Nat × (Nat → Int32)} (p0 : Int) (n : Int) (hp0 : -2147483648 ≤ p0 ∧ p0 ≤ 2147483647) (hn : 0 ≤ n ∧ n ≤ 20000) (σ : ZS) (hI : Inv σ) (hW : WF σ) (s1 : σ 36 0 0 634 = n) : CT xs 7 178 [av 35 0 0, iv p0] σ (fun v σ' => ∃ y, v = some (iv y) ∧ (-2147483648 ≤ y ∧ y ≤ 2147483647) ∧ IF MQm σ σ' ∧ ((0 ≤ σ' 36 0 0 634 ∧ σ' 36 0 0 634 ≤ 20000) ∧ True)) := by
  refine G_ct (J := (fun σ' => IF MQm σ σ' ∧ σ' 36 0 0 634 = n ∧ True)) (L := [(0, av 35 0 0), (1, iv p0)]) (nL := 3) rfl rfl rfl ⟨IF.rf hI, s1, trivial⟩ ?_
  refine T_ld zk_178_0 rfl rfl rfl (pc' := 1) rfl ?_
  refine T_op zk_178_1 rfl X_ic (pc' := 2) rfl ?_
  refine T_icmp_lt zk_178_2 (by omega) (by omega) (pc' := 5) rfl (fun h1 => ?_) (fun h2 => ?_)
  ·
    refine T_ld zk_178_12 rfl rfl rfl (pc' := 13) rfl ?_
    refine T_op zk_178_13 rfl (X_bi (v := -6) (by decide)) (pc' := 15) rfl ?_
    refine T_calli (K := fun y3 σ' => (y3 = (-6)) ∧ (fun σ' => IF MQm σ σ' ∧ σ' 36 0 0 634 = n ∧ True) σ') (r := []) zk_178_15 rfl rfl rfl rfl rfl rfl (Or.inr ⟨_, _, _, _, rfl, vd_35, rfl⟩) (fun σ' h => (m_123 ((-6)) (by omega) σ' h.1.1 ).le (Nat.le_of_ble_eq_true rfl) (fun v σ2 ⟨y, h1, h2, h3, h4⟩ => ⟨y, h1, h2, h.1.tr h3 sb66_58247e6, (h3.2 _ _ _ _ (by first | exact nMT rfl | (unfold MT; omega))).trans (h.2.1), trivial⟩)) (pc' := 18) rfl (fun y3 => ?_)
    refine G_ex (fun hy3 => ?_)
    obtain rfl : y3 = (-6) := by omega
    exact T_iret zk_178_18 rfl (fun σ' h => ⟨_, rfl, (by omega), h.1, ⟨(gh_mk (fun z => 0 ≤ z ∧ z ≤ 20000) (h.2.1) (by omega)), trivial⟩⟩)
  ·
    refine T_ld zk_178_5 rfl rfl rfl (pc' := 6) rfl ?_
    refine T_op zk_178_6 rfl (X_si (v := 200) (by decide)) (pc' := 9) rfl ?_
    refine T_icmp_le zk_178_9 (by omega) (by omega) (pc' := 12) rfl (fun h4 => ?_) (fun h5 => ?_)
    ·
      refine T_ld zk_178_19 rfl rfl rfl (pc' := 20) rfl ?_
      refine T_getR (t' := 36) (i' := 0) (k' := 0) zk_178_20 rfl rfl rfl vd_35 (pc' := 23) rfl ?_
      refine T_op zk_178_23 rfl (X_si (v := 634) (by decide)) (pc' := 26) rfl ?_
      refine G_ialdX (w := n) (ln := 646) zk_178_26 rfl rfl (vd_36 (by omega)) (by omega) (by omega) (by omega) (fun σ' h => h.2.1) (pc' := 27) rfl ?_
      refine T_ld zk_178_27 rfl rfl rfl (pc' := 28) rfl ?_
      refine T_op zk_178_28 rfl X_add (pc' := 29) rfl ?_
      refine T_op zk_178_29 rfl (X_si (v := 20000) (by decide)) (pc' := 32) rfl ?_
      refine T_icmp_le zk_178_32 (by omega) (by omega) (pc' := 35) rfl (fun h6 => ?_) (fun h7 => ?_)
      ·
        refine T_op zk_178_42 rfl X_ic (pc' := 43) rfl ?_
        refine T_st (L' := [(0, av 35 0 0), (1, iv p0), (2, iv 0)]) zk_178_43 (nL := 3) rfl rfl rfl rfl rfl (pc' := 44) rfl ?_
        refine G_know (J' := (fun σ' => IF MQm σ σ' ∧ σ' 36 0 0 634 = n + 0 ∧ True)) (fun σ' h => ⟨h.1, (h.2.1).trans (by omega), trivial⟩) ?_
        refine T_loop1 (fun x8 => ((200 - x8 : Int)).toNat) (fun x8 => (0 ≤ x8 ∧ x8 ≤ 200) ∧ x8 ≤ p0) (fun x8 => TJ xs (fun σ' => IF MQm σ σ' ∧ σ' 36 0 0 634 = n + x8 ∧ True) 6 178 44 [(0, av 35 0 0), (1, iv p0), (2, iv x8)] [] _) ?_ 0 (by omega)
        intro x8 hp10 ih9
        refine T_ld zk_178_44 rfl rfl rfl (pc' := 45) rfl ?_
        refine T_ld zk_178_45 rfl rfl rfl (pc' := 46) rfl ?_
        refine T_icmp_ge zk_178_46 (by omega) (by omega) (pc' := 49) rfl (fun h11 => ?_) (fun h12 => ?_)
        ·
          refine T_ld zk_178_65 rfl rfl rfl (pc' := 66) rfl ?_
          refine T_getR (t' := 36) (i' := 0) (k' := 0) zk_178_66 rfl rfl rfl vd_35 (pc' := 69) rfl ?_
          refine T_op zk_178_69 rfl (X_si (v := 634) (by decide)) (pc' := 72) rfl ?_
          refine G_ialdX (w := n + x8) (ln := 646) zk_178_72 rfl rfl (vd_36 (by omega)) (by omega) (by omega) (by omega) (fun σ' h => h.2.1) (pc' := 73) rfl ?_
          exact T_iret zk_178_73 rfl (fun σ' h => ⟨_, rfl, (by omega), h.1, ⟨(gh_mk (fun z => 0 ≤ z ∧ z ≤ 20000) (h.2.1) (by omega)), trivial⟩⟩)
        ·
          refine T_ld zk_178_49 rfl rfl rfl (pc' := 50) rfl ?_
          refine T_op zk_178_50 rfl X_ic (pc' := 51) rfl ?_
          refine T_callv (J' := (fun σ' => IF MQm σ σ' ∧ σ' 36 0 0 634 = n + x8 ∧ True)) (r := []) zk_178_51 rfl rfl rfl rfl rfl rfl (Or.inr ⟨_, _, _, _, rfl, vd_35, rfl⟩) (fun σ' h => (m_175 0 (by omega) σ' h.1.1 (hW.fr (fun _ => h.1.2 _ _ _ _ (by first | exact nMQm rfl | (unfold MQm; omega))) (fun _ => h.1.2 _ _ _ _ (by first | exact nMQm rfl | (unfold MQm; omega))) (h.1.2 _ _ _ _ (by first | exact nMQm rfl | (unfold MQm; omega))))).le (Nat.le_of_ble_eq_true rfl) (fun v σ2 ⟨h1, h3, h4⟩ => ⟨h1, h.1.tr h3 sb66_e5a8ec9, (h3.2 _ _ _ _ (by first | exact nMWg rfl | (unfold MWg; omega))).trans (h.2.1), trivial⟩)) (pc' := 54) rfl ?_
          refine T_ld zk_178_54 rfl rfl rfl (pc' := 55) rfl ?_
          refine T_op zk_178_55 rfl X_ic (pc' := 56) rfl ?_
          refine T_callv (J' := (fun σ' => IF MQm σ σ' ∧ σ' 36 0 0 634 = n + x8 + 1 ∧ True)) (r := []) zk_178_56 rfl rfl rfl rfl rfl rfl (Or.inr ⟨_, _, _, _, rfl, vd_35, rfl⟩) (fun σ' h => (m_177 0 (n + x8) (by omega) (by omega) σ' h.1.1 (h.2.1)).le (Nat.le_of_ble_eq_true rfl) (fun v σ2 ⟨h1, h3, h4⟩ => ⟨h1, h.1.tr h3 sb66_c329837, h4.1, trivial⟩)) (pc' := 59) rfl ?_
          refine T_iinc (L' := [(0, av 35 0 0), (1, iv p0), (2, iv (x8 + 1))]) zk_178_59 (nL := 3) rfl rfl rfl rfl (pc' := 62) rfl ?_
          refine T_goto zk_178_62 ?_
          refine G_know (J' := (fun σ' => IF MQm σ σ' ∧ σ' 36 0 0 634 = n + (x8 + 1) ∧ True)) (fun σ' h => ⟨h.1, (h.2.1).trans (by omega), trivial⟩) ?_
          exact ih9 (x8 + 1) (by omega) (by omega)
      ·
        refine T_ld zk_178_35 rfl rfl rfl (pc' := 36) rfl ?_
        refine T_op zk_178_36 rfl (X_bi (v := -7) (by decide)) (pc' := 38) rfl ?_
        refine T_calli (K := fun y15 σ' => (y15 = (-7)) ∧ (fun σ' => IF MQm σ σ' ∧ σ' 36 0 0 634 = n ∧ True) σ') (r := []) zk_178_38 rfl rfl rfl rfl rfl rfl (Or.inr ⟨_, _, _, _, rfl, vd_35, rfl⟩) (fun σ' h => (m_123 ((-7)) (by omega) σ' h.1.1 ).le (Nat.le_of_ble_eq_true rfl) (fun v σ2 ⟨y, h1, h2, h3, h4⟩ => ⟨y, h1, h2, h.1.tr h3 sb66_58247e6, (h3.2 _ _ _ _ (by first | exact nMT rfl | (unfold MT; omega))).trans (h.2.1), trivial⟩)) (pc' := 41) rfl (fun y15 => ?_)
        refine G_ex (fun hy15 => ?_)
        obtain rfl : y15 = (-7) := by omega
        exact T_iret zk_178_41 rfl (fun σ' h => ⟨_, rfl, (by omega), h.1, ⟨(gh_mk (fun z => 0 ≤ z ∧ z ≤ 20000) (h.2.1) (by omega)), trivial⟩⟩)
    ·
      refine T_ld zk_178_12 rfl rfl rfl (pc' := 13) rfl ?_
      refine T_op zk_178_13 rfl (X_bi (v := -6) (by decide)) (pc' := 15) rfl ?_
      refine T_calli (K := fun y16 σ' => (y16 = (-6)) ∧ (fun σ' => IF MQm σ σ' ∧ σ' 36 0 0 634 = n ∧ True) σ') (r := []) zk_178_15 rfl rfl rfl rfl rfl rfl (Or.inr ⟨_, _, _, _, rfl, vd_35, rfl⟩) (fun σ' h => (m_123 ((-6)) (by omega) σ' h.1.1 ).le (Nat.le_of_ble_eq_true rfl) (fun v σ2 ⟨y, h1, h2, h3, h4⟩ => ⟨y, h1, h2, h.1.tr h3 sb66_58247e6, (h3.2 _ _ _ _ (by first | exact nMT rfl | (unfold MT; omega))).trans (h.2.1), trivial⟩)) (pc' := 18) rfl (fun y16 => ?_)
      refine G_ex (fun hy16 => ?_)
      obtain rfl : y16 = (-6) := by omega
      exact T_iret zk_178_18 rfl (fun σ' h => ⟨_, rfl, (by omega), h.1, ⟨(gh_mk (fun z => 0 ≤ z ∧ z ≤ 20000) (h.2.1) (by omega)), trivial⟩⟩)
theorem sb66_c4dd656 : ∀ t i k j, MV 1 t i k j → MFm t i k j := by
  intro t i k j h
  unfold MV at h
  unfold MFm
  omega
theorem sb66_ceb4a7b : ∀ t i k j, MV 0 t i k j → MFm t i k j := by
  intro t i k j h
  unfold MV at h
  unfold MFm
  omega
theorem sb66_252d39a : ∀ t i k j, MWg t i k j → MFm t i k j := by
  intro t i k j h
  unfold MWg at h
  unfold MFm
  omega
theorem sb66_2824d69 : ∀ t i k j, MLg t i k j → MFm t i k j := by
  intro t i k j h
  unfold MLg at h
  unfold MFm
  omega
/-- WModel.foretold -/
theorem m_181 {xs : Nat × (Nat → Int32)} (p0 : Int) (p1 : Int) (n : Int) (hp0 : -2147483648 ≤ p0 ∧ p0 ≤ 2147483647) (hp1 : -2147483648 ≤ p1 ∧ p1 ≤ 2147483647) (hn : 0 ≤ n ∧ n ≤ 20000) (σ : ZS) (hI : Inv σ) (hW : WF σ) (s1 : σ 36 0 0 634 = n) : CT xs 7 181 [av 35 0 0, iv p0, iv p1] σ (fun v σ' => ∃ y, v = some (iv y) ∧ (-2147483648 ≤ y ∧ y ≤ 2147483647) ∧ IF MFm σ σ' ∧ ((∀ j, 0 ≤ j → j < 646 → σ' 36 0 0 j = σ 36 0 0 j) ∧ True)) := by
  refine G_ct (J := (fun σ' => IF MFm σ σ' ∧ σ' 36 0 0 634 = n ∧ (∀ j, 0 ≤ j → j < 646 → σ' 36 0 0 j = σ 36 0 0 j) ∧ σ' 36 0 0 640 = σ 36 0 0 640 ∧ True)) (L := [(0, av 35 0 0), (1, iv p0), (2, iv p1)]) (nL := 4) rfl rfl rfl ⟨IF.rf hI, s1, (fun _ _ _ => rfl), rfl, trivial⟩ ?_
  refine T_ld zk_181_0 rfl rfl rfl (pc' := 1) rfl ?_
  refine T_calli (K := fun y1 σ' => ((y1 = 0 ∧ (p0 < 0 ∨ 24 < p0)) ∨ (y1 = 1 ∧ 0 ≤ p0 ∧ p0 ≤ 24)) ∧ (fun σ' => IF MFm σ σ' ∧ σ' 36 0 0 634 = n ∧ (∀ j, 0 ≤ j → j < 646 → σ' 36 0 0 j = σ 36 0 0 j) ∧ σ' 36 0 0 640 = σ 36 0 0 640 ∧ True) σ') (r := []) zk_181_1 rfl rfl rfl rfl rfl rfl (Or.inl (Or.inl rfl)) (fun σ' h => (m_124 p0 (by omega) σ' h.1.1 ).le (Nat.le_of_ble_eq_true rfl) (fun v σ2 ⟨y, h1, h2, h3, h4⟩ => ⟨y, h1, h2, h.1.tr h3 MN_sub, (h3.2 _ _ _ _ (fun q => q)).trans (h.2.1), fun j a b => (h3.2 _ _ _ _ (fun q => q)).trans (h.2.2.1 j a b), (h3.2 _ _ _ _ (fun q => q)).trans (h.2.2.2.1), trivial⟩)) (pc' := 4) rfl (fun y1 => ?_)
  refine G_ex (fun hy1 => ?_)
  refine T_if_eq zk_181_4 (by omega) (pc' := 7) rfl (fun h2 => ?_) (fun h3 => ?_)
  ·
    refine T_op zk_181_18 rfl (X_si (v := 1000) (by decide)) (pc' := 21) rfl ?_
    exact T_iret zk_181_21 rfl (fun σ' h => ⟨_, rfl, (by omega), h.1, ⟨h.2.2.1, trivial⟩⟩)
  ·
    refine T_ld zk_181_7 rfl rfl rfl (pc' := 8) rfl ?_
    refine T_if_lt zk_181_8 (by omega) (pc' := 11) rfl (fun h4 => ?_) (fun h5 => ?_)
    ·
      refine T_op zk_181_18 rfl (X_si (v := 1000) (by decide)) (pc' := 21) rfl ?_
      exact T_iret zk_181_21 rfl (fun σ' h => ⟨_, rfl, (by omega), h.1, ⟨h.2.2.1, trivial⟩⟩)
    ·
      refine T_ld zk_181_11 rfl rfl rfl (pc' := 12) rfl ?_
      refine T_op zk_181_12 rfl (X_si (v := 200) (by decide)) (pc' := 15) rfl ?_
      refine T_icmp_le zk_181_15 (by omega) (by omega) (pc' := 18) rfl (fun h6 => ?_) (fun h7 => ?_)
      ·
        refine T_ld zk_181_22 rfl rfl rfl (pc' := 23) rfl ?_
        refine T_ld zk_181_23 rfl rfl rfl (pc' := 24) rfl ?_
        refine T_getR (t' := 36) (i' := 0) (k' := 0) zk_181_24 rfl rfl rfl vd_35 (pc' := 27) rfl ?_
        refine T_ld zk_181_27 rfl rfl rfl (pc' := 28) rfl ?_
        refine T_getR (t' := 36) (i' := 0) (k' := 1) zk_181_28 rfl rfl rfl vd_35 (pc' := 31) rfl ?_
        refine T_callv (J' := (fun σ' => IF MFm σ σ' ∧ σ' 36 0 0 634 = n ∧ (∀ j, 0 ≤ j → j < 646 → σ' 36 0 0 j = σ 36 0 0 j) ∧ σ' 36 0 0 640 = σ 36 0 0 640 ∧ (∀ j, 0 ≤ j → j < 646 → σ' 36 0 1 j = σ 36 0 0 j) ∧ True)) (r := []) zk_181_31 rfl rfl rfl rfl rfl rfl (Or.inr ⟨_, _, _, _, rfl, vd_35, rfl⟩) (fun σ' h => (m_179_01 ((σ 36 0 0))  σ' h.1.1 (fun j a b => h.2.2.1 j (by omega) (by omega))).le (Nat.le_of_ble_eq_true rfl) (fun v σ2 ⟨h1, h3, h4⟩ => ⟨h1, h.1.tr h3 sb66_c4dd656, (h3.2 _ _ _ _ (by first | exact nMV rfl | (unfold MV; omega))).trans (h.2.1), fun j a b => (h3.2 _ _ _ _ (by first | exact nMV rfl | (unfold MV; omega))).trans (h.2.2.1 j a b), (h3.2 _ _ _ _ (by first | exact nMV rfl | (unfold MV; omega))).trans (h.2.2.2.1), h4.1, trivial⟩)) (pc' := 34) rfl ?_
        refine T_op zk_181_34 rfl X_ic (pc' := 35) rfl ?_
        refine T_st (L' := [(0, av 35 0 0), (1, iv p0), (2, iv p1), (3, iv 0)]) zk_181_35 (nL := 4) rfl rfl rfl rfl rfl (pc' := 36) rfl ?_
        refine G_know (J' := (fun σ' => IF MFm σ σ' ∧ (∀ j, 0 ≤ j → j < 646 → σ' 36 0 1 j = σ 36 0 0 j) ∧ σ' 36 0 0 640 = σ 36 0 0 640 ∧ σ' 36 0 0 634 = n + 0 ∧ True)) (fun σ' h => ⟨h.1, h.2.2.2.2.1, h.2.2.2.1, (h.2.1).trans (by omega), trivial⟩) ?_
        refine T_loop1 (fun x9 => ((200 - x9 : Int)).toNat) (fun x9 => (0 ≤ x9 ∧ x9 ≤ 200)) (fun x9 => TJ xs (fun σ' => IF MFm σ σ' ∧ (∀ j, 0 ≤ j → j < 646 → σ' 36 0 1 j = σ 36 0 0 j) ∧ σ' 36 0 0 640 = σ 36 0 0 640 ∧ σ' 36 0 0 634 = n + x9 ∧ True) 6 181 36 [(0, av 35 0 0), (1, iv p0), (2, iv p1), (3, iv x9)] [] _) ?_ 0 (by omega)
        intro x9 hp11 ih10
        refine T_ld zk_181_36 rfl rfl rfl (pc' := 37) rfl ?_
        refine T_ld zk_181_37 rfl rfl rfl (pc' := 38) rfl ?_
        refine T_icmp_ge zk_181_38 (by omega) (by omega) (pc' := 41) rfl (fun h12 => ?_) (fun h13 => ?_)
        ·
          refine T_ld zk_181_57 rfl rfl rfl (pc' := 58) rfl ?_
          refine T_getR (t' := 36) (i' := 0) (k' := 0) zk_181_58 rfl rfl rfl vd_35 (pc' := 61) rfl ?_
          refine T_op zk_181_61 rfl (X_bi (v := 25) (by decide)) (pc' := 63) rfl ?_
          refine T_ld zk_181_63 rfl rfl rfl (pc' := 64) rfl ?_
          refine T_op zk_181_64 rfl X_add (pc' := 65) rfl ?_
          refine G_iald (lo := -2147483648) (hi := 2147483647) (ln := 646) zk_181_65 rfl rfl (vd_36 (by omega)) (by omega) (by omega) (by omega) (fun σ' h => h.1.1) (fun _ h => (by have q := h.1; omega)) (pc' := 66) rfl (fun y14 hy14 hy14' => ?_)
          refine T_st (L' := [(0, av 35 0 0), (1, iv p0), (2, iv p1), (3, iv y14)]) zk_181_66 (nL := 4) rfl rfl rfl rfl rfl (pc' := 67) rfl ?_
          refine T_ld zk_181_67 rfl rfl rfl (pc' := 68) rfl ?_
          refine T_ld zk_181_68 rfl rfl rfl (pc' := 69) rfl ?_
          refine T_getR (t' := 36) (i' := 0) (k' := 1) zk_181_69 rfl rfl rfl vd_35 (pc' := 72) rfl ?_
          refine T_ld zk_181_72 rfl rfl rfl (pc' := 73) rfl ?_
          refine T_getR (t' := 36) (i' := 0) (k' := 0) zk_181_73 rfl rfl rfl vd_35 (pc' := 76) rfl ?_
          refine T_callv (J' := (fun σ' => IF MFm σ σ' ∧ (∀ j, 0 ≤ j → j < 646 → σ' 36 0 1 j = σ 36 0 0 j) ∧ (∀ j, 0 ≤ j → j < 646 → σ' 36 0 0 j = σ 36 0 0 j) ∧ True)) (r := []) zk_181_76 rfl rfl rfl rfl rfl rfl (Or.inr ⟨_, _, _, _, rfl, vd_35, rfl⟩) (fun σ' h => (m_179_10 ((σ 36 0 0))  σ' h.1.1 (fun j a b => h.2.1 j (by omega) (by omega))).le (Nat.le_of_ble_eq_true rfl) (fun v σ2 ⟨h1, h3, h4⟩ => ⟨h1, h.1.tr h3 sb66_ceb4a7b, fun j a b => (h3.2 _ _ _ _ (by first | exact nMV rfl | (unfold MV; omega))).trans (h.2.1 j a b), h4.1, trivial⟩)) (pc' := 79) rfl ?_
          refine T_ld zk_181_79 rfl rfl rfl (pc' := 80) rfl ?_
          exact T_iret zk_181_80 rfl (fun σ' h => ⟨_, rfl, (by omega), h.1, ⟨h.2.2.1, trivial⟩⟩)
        ·
          refine T_ld zk_181_41 rfl rfl rfl (pc' := 42) rfl ?_
          refine T_op zk_181_42 rfl X_ic (pc' := 43) rfl ?_
          refine T_callv (J' := (fun σ' => IF MFm σ σ' ∧ (∀ j, 0 ≤ j → j < 646 → σ' 36 0 1 j = σ 36 0 0 j) ∧ σ' 36 0 0 640 = σ 36 0 0 640 ∧ σ' 36 0 0 634 = n + x9 ∧ True)) (r := []) zk_181_43 rfl rfl rfl rfl rfl rfl (Or.inr ⟨_, _, _, _, rfl, vd_35, rfl⟩) (fun σ' h => (m_175 1 (by omega) σ' h.1.1 (hW.fr (fun _ => h.1.2 _ _ _ _ (by first | exact nMFm rfl | (unfold MFm; omega))) (fun _ => h.1.2 _ _ _ _ (by first | exact nMFm rfl | (unfold MFm; omega))) (h.2.2.1))).le (Nat.le_of_ble_eq_true rfl) (fun v σ2 ⟨h1, h3, h4⟩ => ⟨h1, h.1.tr h3 sb66_252d39a, fun j a b => (h3.2 _ _ _ _ (by first | exact nMWg rfl | (unfold MWg; omega))).trans (h.2.1 j a b), (h3.2 _ _ _ _ (by first | exact nMWg rfl | (unfold MWg; omega))).trans (h.2.2.1), (h3.2 _ _ _ _ (by first | exact nMWg rfl | (unfold MWg; omega))).trans (h.2.2.2.1), trivial⟩)) (pc' := 46) rfl ?_
          refine T_ld zk_181_46 rfl rfl rfl (pc' := 47) rfl ?_
          refine T_op zk_181_47 rfl X_ic (pc' := 48) rfl ?_
          refine T_callv (J' := (fun σ' => IF MFm σ σ' ∧ (∀ j, 0 ≤ j → j < 646 → σ' 36 0 1 j = σ 36 0 0 j) ∧ σ' 36 0 0 640 = σ 36 0 0 640 ∧ σ' 36 0 0 634 = n + x9 + 1 ∧ True)) (r := []) zk_181_48 rfl rfl rfl rfl rfl rfl (Or.inr ⟨_, _, _, _, rfl, vd_35, rfl⟩) (fun σ' h => (m_177 1 (n + x9) (by omega) (by omega) σ' h.1.1 (h.2.2.2.1)).le (Nat.le_of_ble_eq_true rfl) (fun v σ2 ⟨h1, h3, h4⟩ => ⟨h1, h.1.tr h3 sb66_2824d69, fun j a b => (h3.2 _ _ _ _ (by first | exact nMLg rfl | (unfold MLg; omega))).trans (h.2.1 j a b), (h3.2 _ _ _ _ (by first | exact nMLg rfl | (unfold MLg; omega))).trans (h.2.2.1), h4.1, trivial⟩)) (pc' := 51) rfl ?_
          refine T_iinc (L' := [(0, av 35 0 0), (1, iv p0), (2, iv p1), (3, iv (x9 + 1))]) zk_181_51 (nL := 4) rfl rfl rfl rfl (pc' := 54) rfl ?_
          refine T_goto zk_181_54 ?_
          refine G_know (J' := (fun σ' => IF MFm σ σ' ∧ (∀ j, 0 ≤ j → j < 646 → σ' 36 0 1 j = σ 36 0 0 j) ∧ σ' 36 0 0 640 = σ 36 0 0 640 ∧ σ' 36 0 0 634 = n + (x9 + 1) ∧ True)) (fun σ' h => ⟨h.1, h.2.1, h.2.2.1, (h.2.2.2.1).trans (by omega), trivial⟩) ?_
          exact ih10 (x9 + 1) (by omega) (by omega)
      ·
        refine T_op zk_181_18 rfl (X_si (v := 1000) (by decide)) (pc' := 21) rfl ?_
        exact T_iret zk_181_21 rfl (fun σ' h => ⟨_, rfl, (by omega), h.1, ⟨h.2.2.1, trivial⟩⟩)
theorem sb66_2bcf461 : ∀ t i k j, MT 49 49 49 49 t i k j → MFm t i k j := by
  intro t i k j h
  unfold MT at h
  unfold MFm
  omega
/-- WModel.best -/
theorem m_182 {xs : Nat × (Nat → Int32)} (p0 : Int) (p1 : Int) (n : Int) (hp0 : -2147483648 ≤ p0 ∧ p0 ≤ 2147483647) (hp1 : -2147483648 ≤ p1 ∧ p1 ≤ 2147483647) (hn : 0 ≤ n ∧ n ≤ 20000) (σ : ZS) (hI : Inv σ) (hW : WF σ) (s1 : σ 36 0 0 634 = n) : CT xs 7 182 [av 35 0 0, iv p0, iv p1] σ (fun v σ' => ∃ y, v = some (iv y) ∧ (-2147483648 ≤ y ∧ y ≤ 2147483647) ∧ IF MFm σ σ' ∧ ((∀ j, 0 ≤ j → j < 646 → σ' 36 0 0 j = σ 36 0 0 j) ∧ True)) := by
  refine G_ct (J := (fun σ' => IF MFm σ σ' ∧ σ' 36 0 0 634 = n ∧ (∀ j, 0 ≤ j → j < 646 → σ' 36 0 0 j = σ 36 0 0 j) ∧ σ' 36 0 0 640 = σ 36 0 0 640 ∧ True)) (L := [(0, av 35 0 0), (1, iv p0), (2, iv p1)]) (nL := 7) rfl rfl rfl ⟨IF.rf hI, s1, (fun _ _ _ => rfl), rfl, trivial⟩ ?_
  have r6 : 0 ≤ σ 36 0 0 640 ∧ σ 36 0 0 640 ≤ 5 := (fun h => h.2.2.2.2.2.2.2.2.2.2.2.1 (by omega) (by omega)) (hI 36 0 0 640 (vd_36 (by omega)))
  have rb : 0 ≤ σ 36 0 0 642 ∧ σ 36 0 0 642 ≤ 6 := (fun h => h.2.2.2.2.2.2.2.2.2.2.2.2.2 (by omega) (by omega)) (hI 36 0 0 642 (vd_36 (by omega)))
  refine T_ld zk_182_0 rfl rfl rfl (pc' := 1) rfl ?_
  refine T_op zk_182_1 rfl X_ic (pc' := 2) rfl ?_
  refine T_icmp_lt zk_182_2 (by omega) (by omega) (pc' := 5) rfl (fun h1 => ?_) (fun h2 => ?_)
  ·
    refine T_ld zk_182_20 rfl rfl rfl (pc' := 21) rfl ?_
    refine T_op zk_182_21 rfl (X_bi (v := -6) (by decide)) (pc' := 23) rfl ?_
    refine T_calli (K := fun y3 σ' => (y3 = (-6)) ∧ (fun σ' => IF MFm σ σ' ∧ σ' 36 0 0 634 = n ∧ (∀ j, 0 ≤ j → j < 646 → σ' 36 0 0 j = σ 36 0 0 j) ∧ σ' 36 0 0 640 = σ 36 0 0 640 ∧ True) σ') (r := []) zk_182_23 rfl rfl rfl rfl rfl rfl (Or.inr ⟨_, _, _, _, rfl, vd_35, rfl⟩) (fun σ' h => (m_123 ((-6)) (by omega) σ' h.1.1 ).le (Nat.le_of_ble_eq_true rfl) (fun v σ2 ⟨y, h1, h2, h3, h4⟩ => ⟨y, h1, h2, h.1.tr h3 sb66_2bcf461, (h3.2 _ _ _ _ (by first | exact nMT rfl | (unfold MT; omega))).trans (h.2.1), fun j a b => (h3.2 _ _ _ _ (by first | exact nMT rfl | (unfold MT; omega))).trans (h.2.2.1 j a b), (h3.2 _ _ _ _ (by first | exact nMT rfl | (unfold MT; omega))).trans (h.2.2.2.1), trivial⟩)) (pc' := 26) rfl (fun y3 => ?_)
    refine G_ex (fun hy3 => ?_)
    obtain rfl : y3 = (-6) := by omega
    exact T_iret zk_182_26 rfl (fun σ' h => ⟨_, rfl, (by omega), h.1, ⟨h.2.2.1, trivial⟩⟩)
  ·
    refine T_ld zk_182_5 rfl rfl rfl (pc' := 6) rfl ?_
    refine T_op zk_182_6 rfl (X_bi (v := 48) (by decide)) (pc' := 8) rfl ?_
    refine T_icmp_gt zk_182_8 (by omega) (by omega) (pc' := 11) rfl (fun h4 => ?_) (fun h5 => ?_)
    ·
      refine T_ld zk_182_20 rfl rfl rfl (pc' := 21) rfl ?_
      refine T_op zk_182_21 rfl (X_bi (v := -6) (by decide)) (pc' := 23) rfl ?_
      refine T_calli (K := fun y6 σ' => (y6 = (-6)) ∧ (fun σ' => IF MFm σ σ' ∧ σ' 36 0 0 634 = n ∧ (∀ j, 0 ≤ j → j < 646 → σ' 36 0 0 j = σ 36 0 0 j) ∧ σ' 36 0 0 640 = σ 36 0 0 640 ∧ True) σ') (r := []) zk_182_23 rfl rfl rfl rfl rfl rfl (Or.inr ⟨_, _, _, _, rfl, vd_35, rfl⟩) (fun σ' h => (m_123 ((-6)) (by omega) σ' h.1.1 ).le (Nat.le_of_ble_eq_true rfl) (fun v σ2 ⟨y, h1, h2, h3, h4⟩ => ⟨y, h1, h2, h.1.tr h3 sb66_2bcf461, (h3.2 _ _ _ _ (by first | exact nMT rfl | (unfold MT; omega))).trans (h.2.1), fun j a b => (h3.2 _ _ _ _ (by first | exact nMT rfl | (unfold MT; omega))).trans (h.2.2.1 j a b), (h3.2 _ _ _ _ (by first | exact nMT rfl | (unfold MT; omega))).trans (h.2.2.2.1), trivial⟩)) (pc' := 26) rfl (fun y6 => ?_)
      refine G_ex (fun hy6 => ?_)
      obtain rfl : y6 = (-6) := by omega
      exact T_iret zk_182_26 rfl (fun σ' h => ⟨_, rfl, (by omega), h.1, ⟨h.2.2.1, trivial⟩⟩)
    ·
      refine T_ld zk_182_11 rfl rfl rfl (pc' := 12) rfl ?_
      refine T_if_lt zk_182_12 (by omega) (pc' := 15) rfl (fun h7 => ?_) (fun h8 => ?_)
      ·
        refine T_ld zk_182_20 rfl rfl rfl (pc' := 21) rfl ?_
        refine T_op zk_182_21 rfl (X_bi (v := -6) (by decide)) (pc' := 23) rfl ?_
        refine T_calli (K := fun y9 σ' => (y9 = (-6)) ∧ (fun σ' => IF MFm σ σ' ∧ σ' 36 0 0 634 = n ∧ (∀ j, 0 ≤ j → j < 646 → σ' 36 0 0 j = σ 36 0 0 j) ∧ σ' 36 0 0 640 = σ 36 0 0 640 ∧ True) σ') (r := []) zk_182_23 rfl rfl rfl rfl rfl rfl (Or.inr ⟨_, _, _, _, rfl, vd_35, rfl⟩) (fun σ' h => (m_123 ((-6)) (by omega) σ' h.1.1 ).le (Nat.le_of_ble_eq_true rfl) (fun v σ2 ⟨y, h1, h2, h3, h4⟩ => ⟨y, h1, h2, h.1.tr h3 sb66_2bcf461, (h3.2 _ _ _ _ (by first | exact nMT rfl | (unfold MT; omega))).trans (h.2.1), fun j a b => (h3.2 _ _ _ _ (by first | exact nMT rfl | (unfold MT; omega))).trans (h.2.2.1 j a b), (h3.2 _ _ _ _ (by first | exact nMT rfl | (unfold MT; omega))).trans (h.2.2.2.1), trivial⟩)) (pc' := 26) rfl (fun y9 => ?_)
        refine G_ex (fun hy9 => ?_)
        obtain rfl : y9 = (-6) := by omega
        exact T_iret zk_182_26 rfl (fun σ' h => ⟨_, rfl, (by omega), h.1, ⟨h.2.2.1, trivial⟩⟩)
      ·
        refine T_ld zk_182_15 rfl rfl rfl (pc' := 16) rfl ?_
        refine T_op zk_182_16 rfl X_ic (pc' := 17) rfl ?_
        refine T_icmp_le zk_182_17 (by omega) (by omega) (pc' := 20) rfl (fun h10 => ?_) (fun h11 => ?_)
        ·
          refine T_op zk_182_27 rfl X_ic (pc' := 28) rfl ?_
          refine T_st (L' := [(0, av 35 0 0), (1, iv p0), (2, iv p1), (3, iv (-1))]) zk_182_28 (nL := 7) rfl rfl rfl rfl rfl (pc' := 29) rfl ?_
          refine T_op zk_182_29 rfl X_ic (pc' := 30) rfl ?_
          refine T_st (L' := [(0, av 35 0 0), (1, iv p0), (2, iv p1), (3, iv (-1)), (4, iv 0)]) zk_182_30 (nL := 7) rfl rfl rfl rfl rfl (pc' := 32) rfl ?_
          refine T_ld zk_182_32 rfl rfl rfl (pc' := 33) rfl ?_
          refine T_ld zk_182_33 rfl rfl rfl (pc' := 34) rfl ?_
          refine T_getR (t' := 36) (i' := 0) (k' := 0) zk_182_34 rfl rfl rfl vd_35 (pc' := 37) rfl ?_
          refine T_ld zk_182_37 rfl rfl rfl (pc' := 38) rfl ?_
          refine T_getR (t' := 36) (i' := 0) (k' := 1) zk_182_38 rfl rfl rfl vd_35 (pc' := 41) rfl ?_
          refine T_callv (J' := (fun σ' => IF MFm σ σ' ∧ σ' 36 0 0 634 = n ∧ (∀ j, 0 ≤ j → j < 646 → σ' 36 0 0 j = σ 36 0 0 j) ∧ σ' 36 0 0 640 = σ 36 0 0 640 ∧ (∀ j, 0 ≤ j → j < 646 → σ' 36 0 1 j = σ 36 0 0 j) ∧ True)) (r := []) zk_182_41 rfl rfl rfl rfl rfl rfl (Or.inr ⟨_, _, _, _, rfl, vd_35, rfl⟩) (fun σ' h => (m_179_01 ((σ 36 0 0))  σ' h.1.1 (fun j a b => h.2.2.1 j (by omega) (by omega))).le (Nat.le_of_ble_eq_true rfl) (fun v σ2 ⟨h1, h3, h4⟩ => ⟨h1, h.1.tr h3 sb66_c4dd656, (h3.2 _ _ _ _ (by first | exact nMV rfl | (unfold MV; omega))).trans (h.2.1), fun j a b => (h3.2 _ _ _ _ (by first | exact nMV rfl | (unfold MV; omega))).trans (h.2.2.1 j a b), (h3.2 _ _ _ _ (by first | exact nMV rfl | (unfold MV; omega))).trans (h.2.2.2.1), h4.1, trivial⟩)) (pc' := 44) rfl ?_
          refine T_op zk_182_44 rfl X_ic (pc' := 45) rfl ?_
          refine T_st (L' := [(0, av 35 0 0), (1, iv p0), (2, iv p1), (3, iv (-1)), (4, iv 0), (5, iv 0)]) zk_182_45 (nL := 7) rfl rfl rfl rfl rfl (pc' := 47) rfl ?_
          refine G_know (J' := (fun σ' => IF MFm σ σ' ∧ (∀ j, 0 ≤ j → j < 646 → σ' 36 0 1 j = σ 36 0 0 j) ∧ True)) (fun σ' h => ⟨h.1, h.2.2.2.2.1, trivial⟩) ?_
          refine T_loop3 (fun x13 x14 x15 => ((2147483647 - x15 : Int)).toNat) (fun x13 x14 x15 => (-2147483648 ≤ x13 ∧ x13 ≤ 2147483647) ∧ (-2147483648 ≤ x14 ∧ x14 ≤ 2147483647) ∧ (0 ≤ x15 ∧ x15 ≤ 2147483647)) (fun x13 x14 x15 => TJ xs (fun σ' => IF MFm σ σ' ∧ (∀ j, 0 ≤ j → j < 646 → σ' 36 0 1 j = σ 36 0 0 j) ∧ True) 6 182 47 [(0, av 35 0 0), (1, iv p0), (2, iv p1), (3, iv x13), (4, iv x14), (5, iv x15)] [] _) ?_ (-1) 0 0 (by omega)
          intro x13 x14 x15 hp17 ih16
          refine T_ld zk_182_47 rfl rfl rfl (pc' := 49) rfl ?_
          refine T_op zk_182_49 rfl X_ic (pc' := 50) rfl ?_
          refine T_ld zk_182_50 rfl rfl rfl (pc' := 51) rfl ?_
          refine T_getR (t' := 36) (i' := 0) (k' := 1) zk_182_51 rfl rfl rfl vd_35 (pc' := 54) rfl ?_
          refine T_op zk_182_54 rfl (X_si (v := 640) (by decide)) (pc' := 57) rfl ?_
          refine G_ialdX (w := σ 36 0 0 640) (ln := 646) zk_182_57 rfl rfl (vd_36 (by omega)) (by omega) (by omega) (by omega) (fun σ' h => h.2.1 _ (by omega) (by omega)) (pc' := 58) rfl ?_
          refine G_unk zk_182_58 rfl (pc' := 59) rfl (fun y18 hy18 hy18' => ?_)
          refine T_icmp_ge zk_182_59 (by omega) (by omega) (pc' := 62) rfl (fun h19 => ?_) (fun h20 => ?_)
          ·
            refine T_ld zk_182_188 rfl rfl rfl (pc' := 189) rfl ?_
            refine T_ld zk_182_189 rfl rfl rfl (pc' := 190) rfl ?_
            refine T_getR (t' := 36) (i' := 0) (k' := 1) zk_182_190 rfl rfl rfl vd_35 (pc' := 193) rfl ?_
            refine T_ld zk_182_193 rfl rfl rfl (pc' := 194) rfl ?_
            refine T_getR (t' := 36) (i' := 0) (k' := 0) zk_182_194 rfl rfl rfl vd_35 (pc' := 197) rfl ?_
            refine T_callv (J' := (fun σ' => IF MFm σ σ' ∧ (∀ j, 0 ≤ j → j < 646 → σ' 36 0 1 j = σ 36 0 0 j) ∧ (∀ j, 0 ≤ j → j < 646 → σ' 36 0 0 j = σ 36 0 0 j) ∧ True)) (r := []) zk_182_197 rfl rfl rfl rfl rfl rfl (Or.inr ⟨_, _, _, _, rfl, vd_35, rfl⟩) (fun σ' h => (m_179_10 ((σ 36 0 0))  σ' h.1.1 (fun j a b => h.2.1 j (by omega) (by omega))).le (Nat.le_of_ble_eq_true rfl) (fun v σ2 ⟨h1, h3, h4⟩ => ⟨h1, h.1.tr h3 sb66_ceb4a7b, fun j a b => (h3.2 _ _ _ _ (by first | exact nMV rfl | (unfold MV; omega))).trans (h.2.1 j a b), h4.1, trivial⟩)) (pc' := 200) rfl ?_
            refine T_ld zk_182_200 rfl rfl rfl (pc' := 201) rfl ?_
            refine T_if_ne zk_182_201 (by omega) (pc' := 204) rfl (fun h22 => ?_) (fun h23 => ?_)
            ·
              refine T_ld zk_182_208 rfl rfl rfl (pc' := 210) rfl ?_
              exact T_iret zk_182_210 rfl (fun σ' h => ⟨_, rfl, (by omega), h.1, ⟨h.2.2.1, trivial⟩⟩)
            ·
              refine T_ld zk_182_204 rfl rfl rfl (pc' := 205) rfl ?_
              refine T_goto zk_182_205 ?_
              exact T_iret zk_182_210 rfl (fun σ' h => ⟨_, rfl, (by omega), h.1, ⟨h.2.2.1, trivial⟩⟩)
          ·
            refine T_ld zk_182_62 rfl rfl rfl (pc' := 63) rfl ?_
            refine T_ld zk_182_63 rfl rfl rfl (pc' := 64) rfl ?_
            refine T_getR (t' := 36) (i' := 0) (k' := 1) zk_182_64 rfl rfl rfl vd_35 (pc' := 67) rfl ?_
            refine T_ld zk_182_67 rfl rfl rfl (pc' := 68) rfl ?_
            refine T_getR (t' := 36) (i' := 0) (k' := 0) zk_182_68 rfl rfl rfl vd_35 (pc' := 71) rfl ?_
            refine T_callv (J' := (fun σ' => IF MFm σ σ' ∧ (∀ j, 0 ≤ j → j < 646 → σ' 36 0 1 j = σ 36 0 0 j) ∧ (∀ j, 0 ≤ j → j < 646 → σ' 36 0 0 j = σ 36 0 0 j) ∧ True)) (r := []) zk_182_71 rfl rfl rfl rfl rfl rfl (Or.inr ⟨_, _, _, _, rfl, vd_35, rfl⟩) (fun σ' h => (m_179_10 ((σ 36 0 0))  σ' h.1.1 (fun j a b => h.2.1 j (by omega) (by omega))).le (Nat.le_of_ble_eq_true rfl) (fun v σ2 ⟨h1, h3, h4⟩ => ⟨h1, h.1.tr h3 sb66_ceb4a7b, fun j a b => (h3.2 _ _ _ _ (by first | exact nMV rfl | (unfold MV; omega))).trans (h.2.1 j a b), h4.1, trivial⟩)) (pc' := 74) rfl ?_
            refine T_op zk_182_74 rfl X_ic (pc' := 75) rfl ?_
            refine T_st (L' := [(0, av 35 0 0), (1, iv p0), (2, iv p1), (3, iv x13), (4, iv x14), (5, iv x15), (6, iv 0)]) zk_182_75 (nL := 7) rfl rfl rfl rfl rfl (pc' := 77) rfl ?_
            refine G_know (J' := (fun σ' => IF MFm σ σ' ∧ (∀ j, 0 ≤ j → j < 646 → σ' 36 0 1 j = σ 36 0 0 j) ∧ σ' 36 0 0 640 = σ 36 0 0 640 ∧ σ' 36 0 0 634 = n ∧ True)) (fun σ' h => ⟨h.1, h.2.1, h.2.2.1 _ (by omega) (by omega), (h.2.2.1 _ (by omega) (by omega)).trans (by omega), trivial⟩) ?_
            refine T_loop1 (fun x25 => ((5 - x25 : Int)).toNat) (fun x25 => (0 ≤ x25 ∧ x25 ≤ 5)) (fun x25 => TJ xs (fun σ' => IF MFm σ σ' ∧ (∀ j, 0 ≤ j → j < 646 → σ' 36 0 1 j = σ 36 0 0 j) ∧ σ' 36 0 0 640 = σ 36 0 0 640 ∧ σ' 36 0 0 634 = n ∧ True) 6 182 77 [(0, av 35 0 0), (1, iv p0), (2, iv p1), (3, iv x13), (4, iv x14), (5, iv x15), (6, iv x25)] [] _) ?_ 0 (by omega)
            intro x25 hp27 ih26
            refine T_ld zk_182_77 rfl rfl rfl (pc' := 79) rfl ?_
            refine T_ld zk_182_79 rfl rfl rfl (pc' := 80) rfl ?_
            refine T_getR (t' := 36) (i' := 0) (k' := 0) zk_182_80 rfl rfl rfl vd_35 (pc' := 83) rfl ?_
            refine T_op zk_182_83 rfl (X_si (v := 640) (by decide)) (pc' := 86) rfl ?_
            refine G_ialdX (w := σ 36 0 0 640) (ln := 646) zk_182_86 rfl rfl (vd_36 (by omega)) (by omega) (by omega) (by omega) (fun σ' h => h.2.2.1) (pc' := 87) rfl ?_
            refine T_icmp_ge zk_182_87 (by omega) (by omega) (pc' := 90) rfl (fun h28 => ?_) (fun h29 => ?_)
            ·
              refine T_ld zk_182_114 rfl rfl rfl (pc' := 115) rfl ?_
              refine T_op zk_182_115 rfl X_ic (pc' := 116) rfl ?_
              refine T_putf (J' := (fun σ' => IF MFm σ σ' ∧ (∀ j, 0 ≤ j → j < 646 → σ' 36 0 1 j = σ 36 0 0 j) ∧ σ' 36 0 0 640 = σ 36 0 0 640 ∧ σ' 36 0 0 634 = n ∧ σ' 35 0 0 31 = 0 ∧ True)) zk_182_116 rfl rfl vd_35 (fun σ' h => ⟨h.1.up (by simp only [rgP] <;> omega) (by first | exact pMFm rfl | (unfold MFm; omega)), fun j a b => (up_ne (by omega)).trans (h.2.1 j a b), (up_ne (by omega)).trans (h.2.2.1), (up_ne (by omega)).trans (h.2.2.2.1), up_eq, trivial⟩) (pc' := 119) rfl ?_
              refine T_ld zk_182_119 rfl rfl rfl (pc' := 120) rfl ?_
              refine T_op zk_182_120 rfl X_ic (pc' := 121) rfl ?_
              refine T_putf (J' := (fun σ' => IF MFm σ σ' ∧ (∀ j, 0 ≤ j → j < 646 → σ' 36 0 1 j = σ 36 0 0 j) ∧ σ' 36 0 0 640 = σ 36 0 0 640 ∧ σ' 36 0 0 634 = n ∧ σ' 35 0 0 31 = 0 ∧ σ' 35 0 0 32 = 0 ∧ True)) zk_182_121 rfl rfl vd_35 (fun σ' h => ⟨h.1.up (by simp only [rgP] <;> omega) (by first | exact pMFm rfl | (unfold MFm; omega)), fun j a b => (up_ne (by omega)).trans (h.2.1 j a b), (up_ne (by omega)).trans (h.2.2.1), (up_ne (by omega)).trans (h.2.2.2.1), (up_ne (by omega)).trans (h.2.2.2.2.1), up_eq, trivial⟩) (pc' := 124) rfl ?_
              refine T_op zk_182_124 rfl X_ic (pc' := 125) rfl ?_
              refine T_st (L' := [(0, av 35 0 0), (1, iv p0), (2, iv p1), (3, iv x13), (4, iv x14), (5, iv x15), (6, iv 0)]) zk_182_125 (nL := 7) rfl rfl rfl rfl rfl (pc' := 127) rfl ?_
              refine G_know (J' := (fun σ' => IF MFm σ σ' ∧ (∀ j, 0 ≤ j → j < 646 → σ' 36 0 1 j = σ 36 0 0 j) ∧ σ' 36 0 0 640 = σ 36 0 0 640 ∧ σ' 36 0 0 634 = n + 0 ∧ True)) (fun σ' h => ⟨h.1, h.2.1, h.2.2.1, (h.2.2.2.1).trans (by omega), trivial⟩) ?_
              refine T_loop1 (fun x30 => ((48 - x30 : Int)).toNat) (fun x30 => (0 ≤ x30 ∧ x30 ≤ 48)) (fun x30 => TJ xs (fun σ' => IF MFm σ σ' ∧ (∀ j, 0 ≤ j → j < 646 → σ' 36 0 1 j = σ 36 0 0 j) ∧ σ' 36 0 0 640 = σ 36 0 0 640 ∧ σ' 36 0 0 634 = n + x30 ∧ True) 6 182 127 [(0, av 35 0 0), (1, iv p0), (2, iv p1), (3, iv x13), (4, iv x14), (5, iv x15), (6, iv x30)] [] _) ?_ 0 (by omega)
              intro x30 hp32 ih31
              refine T_ld zk_182_127 rfl rfl rfl (pc' := 129) rfl ?_
              refine T_ld zk_182_129 rfl rfl rfl (pc' := 130) rfl ?_
              refine T_icmp_ge zk_182_130 (by omega) (by omega) (pc' := 133) rfl (fun h33 => ?_) (fun h34 => ?_)
              ·
                refine T_op zk_182_149 rfl (X_bi (v := 10) (by decide)) (pc' := 151) rfl ?_
                refine T_ld zk_182_151 rfl rfl rfl (pc' := 152) rfl ?_
                refine G_getf (lo := -2147483648) (hi := 2147483647) zk_182_152 rfl vd_35 (fun σ' h => h.1.1) (fun _ h => (by have q := h.1; omega)) (pc' := 155) rfl (fun y35 hy35 hy35' => ?_)
                refine G_unk zk_182_155 rfl (pc' := 156) rfl (fun y36 hy36 hy36' => ?_)
                refine T_ld zk_182_156 rfl rfl rfl (pc' := 157) rfl ?_
                refine G_getf (lo := -2147483648) (hi := 2147483647) zk_182_157 rfl vd_35 (fun σ' h => h.1.1) (fun _ h => (by have q := h.1; omega)) (pc' := 160) rfl (fun y37 hy37 hy37' => ?_)
                refine G_unk zk_182_160 rfl (pc' := 161) rfl (fun y38 hy38 hy38' => ?_)
                refine T_st (L' := [(0, av 35 0 0), (1, iv p0), (2, iv p1), (3, iv x13), (4, iv x14), (5, iv x15), (6, iv y38)]) zk_182_161 (nL := 7) rfl rfl rfl rfl rfl (pc' := 163) rfl ?_
                refine T_ld zk_182_163 rfl rfl rfl (pc' := 164) rfl ?_
                refine T_op zk_182_164 rfl X_ic (pc' := 165) rfl ?_
                refine T_icmp_eq zk_182_165 (by omega) (by omega) (pc' := 168) rfl (fun h39 => ?_) (fun h40 => ?_)
                ·
                  refine T_ld zk_182_175 rfl rfl rfl (pc' := 177) rfl ?_
                  refine T_st (L' := [(0, av 35 0 0), (1, iv p0), (2, iv p1), (3, iv x15), (4, iv x14), (5, iv x15), (6, iv y38)]) zk_182_177 (nL := 7) rfl rfl rfl rfl rfl (pc' := 178) rfl ?_
                  refine T_ld zk_182_178 rfl rfl rfl (pc' := 180) rfl ?_
                  refine T_st (L' := [(0, av 35 0 0), (1, iv p0), (2, iv p1), (3, iv x15), (4, iv y38), (5, iv x15), (6, iv y38)]) zk_182_180 (nL := 7) rfl rfl rfl rfl rfl (pc' := 182) rfl ?_
                  refine T_iinc (L' := [(0, av 35 0 0), (1, iv p0), (2, iv p1), (3, iv x15), (4, iv y38), (5, iv (x15 + 1)), (6, iv y38)]) zk_182_182 (nL := 7) rfl rfl rfl rfl (pc' := 185) rfl ?_
                  refine T_goto zk_182_185 ?_
                  refine G_know (J' := (fun σ' => IF MFm σ σ' ∧ (∀ j, 0 ≤ j → j < 646 → σ' 36 0 1 j = σ 36 0 0 j) ∧ True)) (fun σ' h => ⟨h.1, h.2.1, trivial⟩) ?_
                  refine T_loc (L := [(0, av 35 0 0), (1, iv p0), (2, iv p1), (3, iv x15), (4, iv y38), (5, iv (x15 + 1))]) (E := [(6, iv y38)]) rfl ?_
                  exact ih16 x15 y38 (x15 + 1) (by omega) (by omega)
                ·
                  refine T_ld zk_182_168 rfl rfl rfl (pc' := 170) rfl ?_
                  refine T_ld zk_182_170 rfl rfl rfl (pc' := 172) rfl ?_
                  refine T_icmp_ge zk_182_172 (by omega) (by omega) (pc' := 175) rfl (fun h41 => ?_) (fun h42 => ?_)
                  ·
                    refine T_iinc (L' := [(0, av 35 0 0), (1, iv p0), (2, iv p1), (3, iv x13), (4, iv x14), (5, iv (x15 + 1)), (6, iv y38)]) zk_182_182 (nL := 7) rfl rfl rfl rfl (pc' := 185) rfl ?_
                    refine T_goto zk_182_185 ?_
                    refine G_know (J' := (fun σ' => IF MFm σ σ' ∧ (∀ j, 0 ≤ j → j < 646 → σ' 36 0 1 j = σ 36 0 0 j) ∧ True)) (fun σ' h => ⟨h.1, h.2.1, trivial⟩) ?_
                    refine T_loc (L := [(0, av 35 0 0), (1, iv p0), (2, iv p1), (3, iv x13), (4, iv x14), (5, iv (x15 + 1))]) (E := [(6, iv y38)]) rfl ?_
                    exact ih16 x13 x14 (x15 + 1) (by omega) (by omega)
                  ·
                    refine T_ld zk_182_175 rfl rfl rfl (pc' := 177) rfl ?_
                    refine T_st (L' := [(0, av 35 0 0), (1, iv p0), (2, iv p1), (3, iv x15), (4, iv x14), (5, iv x15), (6, iv y38)]) zk_182_177 (nL := 7) rfl rfl rfl rfl rfl (pc' := 178) rfl ?_
                    refine T_ld zk_182_178 rfl rfl rfl (pc' := 180) rfl ?_
                    refine T_st (L' := [(0, av 35 0 0), (1, iv p0), (2, iv p1), (3, iv x15), (4, iv y38), (5, iv x15), (6, iv y38)]) zk_182_180 (nL := 7) rfl rfl rfl rfl rfl (pc' := 182) rfl ?_
                    refine T_iinc (L' := [(0, av 35 0 0), (1, iv p0), (2, iv p1), (3, iv x15), (4, iv y38), (5, iv (x15 + 1)), (6, iv y38)]) zk_182_182 (nL := 7) rfl rfl rfl rfl (pc' := 185) rfl ?_
                    refine T_goto zk_182_185 ?_
                    refine G_know (J' := (fun σ' => IF MFm σ σ' ∧ (∀ j, 0 ≤ j → j < 646 → σ' 36 0 1 j = σ 36 0 0 j) ∧ True)) (fun σ' h => ⟨h.1, h.2.1, trivial⟩) ?_
                    refine T_loc (L := [(0, av 35 0 0), (1, iv p0), (2, iv p1), (3, iv x15), (4, iv y38), (5, iv (x15 + 1))]) (E := [(6, iv y38)]) rfl ?_
                    exact ih16 x15 y38 (x15 + 1) (by omega) (by omega)
              ·
                refine T_ld zk_182_133 rfl rfl rfl (pc' := 134) rfl ?_
                refine T_op zk_182_134 rfl X_ic (pc' := 135) rfl ?_
                refine T_callv (J' := (fun σ' => IF MFm σ σ' ∧ (∀ j, 0 ≤ j → j < 646 → σ' 36 0 1 j = σ 36 0 0 j) ∧ σ' 36 0 0 640 = σ 36 0 0 640 ∧ σ' 36 0 0 634 = n + x30 ∧ True)) (r := []) zk_182_135 rfl rfl rfl rfl rfl rfl (Or.inr ⟨_, _, _, _, rfl, vd_35, rfl⟩) (fun σ' h => (m_175 1 (by omega) σ' h.1.1 (hW.fr (fun _ => h.1.2 _ _ _ _ (by first | exact nMFm rfl | (unfold MFm; omega))) (fun _ => h.1.2 _ _ _ _ (by first | exact nMFm rfl | (unfold MFm; omega))) (h.2.2.1))).le (Nat.le_of_ble_eq_true rfl) (fun v σ2 ⟨h1, h3, h4⟩ => ⟨h1, h.1.tr h3 sb66_252d39a, fun j a b => (h3.2 _ _ _ _ (by first | exact nMWg rfl | (unfold MWg; omega))).trans (h.2.1 j a b), (h3.2 _ _ _ _ (by first | exact nMWg rfl | (unfold MWg; omega))).trans (h.2.2.1), (h3.2 _ _ _ _ (by first | exact nMWg rfl | (unfold MWg; omega))).trans (h.2.2.2.1), trivial⟩)) (pc' := 138) rfl ?_
                refine T_ld zk_182_138 rfl rfl rfl (pc' := 139) rfl ?_
                refine T_op zk_182_139 rfl X_ic (pc' := 140) rfl ?_
                refine T_callv (J' := (fun σ' => IF MFm σ σ' ∧ (∀ j, 0 ≤ j → j < 646 → σ' 36 0 1 j = σ 36 0 0 j) ∧ σ' 36 0 0 640 = σ 36 0 0 640 ∧ σ' 36 0 0 634 = n + x30 + 1 ∧ True)) (r := []) zk_182_140 rfl rfl rfl rfl rfl rfl (Or.inr ⟨_, _, _, _, rfl, vd_35, rfl⟩) (fun σ' h => (m_177 1 (n + x30) (by omega) (by omega) σ' h.1.1 (h.2.2.2.1)).le (Nat.le_of_ble_eq_true rfl) (fun v σ2 ⟨h1, h3, h4⟩ => ⟨h1, h.1.tr h3 sb66_2824d69, fun j a b => (h3.2 _ _ _ _ (by first | exact nMLg rfl | (unfold MLg; omega))).trans (h.2.1 j a b), (h3.2 _ _ _ _ (by first | exact nMLg rfl | (unfold MLg; omega))).trans (h.2.2.1), h4.1, trivial⟩)) (pc' := 143) rfl ?_
                refine T_iinc (L' := [(0, av 35 0 0), (1, iv p0), (2, iv p1), (3, iv x13), (4, iv x14), (5, iv x15), (6, iv (x30 + 1))]) zk_182_143 (nL := 7) rfl rfl rfl rfl (pc' := 146) rfl ?_
                refine T_goto zk_182_146 ?_
                refine G_know (J' := (fun σ' => IF MFm σ σ' ∧ (∀ j, 0 ≤ j → j < 646 → σ' 36 0 1 j = σ 36 0 0 j) ∧ σ' 36 0 0 640 = σ 36 0 0 640 ∧ σ' 36 0 0 634 = n + (x30 + 1) ∧ True)) (fun σ' h => ⟨h.1, h.2.1, h.2.2.1, (h.2.2.2.1).trans (by omega), trivial⟩) ?_
                exact ih31 (x30 + 1) (by omega) (by omega)
            ·
              refine T_ld zk_182_90 rfl rfl rfl (pc' := 91) rfl ?_
              refine T_getR (t' := 36) (i' := 0) (k' := 0) zk_182_91 rfl rfl rfl vd_35 (pc' := 94) rfl ?_
              refine T_op zk_182_94 rfl (X_si (v := 628) (by decide)) (pc' := 97) rfl ?_
              refine T_ld zk_182_97 rfl rfl rfl (pc' := 99) rfl ?_
              refine T_op zk_182_99 rfl X_add (pc' := 100) rfl ?_
              refine T_ld zk_182_100 rfl rfl rfl (pc' := 102) rfl ?_
              refine T_ld zk_182_102 rfl rfl rfl (pc' := 104) rfl ?_
              refine G_unk zk_182_104 rfl (pc' := 105) rfl (fun y45 hy45 hy45' => ?_)
              refine T_op zk_182_105 rfl X_ic (pc' := 106) rfl ?_
              refine G_unk zk_182_106 rfl (pc' := 107) rfl (fun y46 hy46 hy46' => ?_)
              refine G_iast (J' := (fun σ' => IF MFm σ σ' ∧ (∀ j, 0 ≤ j → j < 646 → σ' 36 0 1 j = σ 36 0 0 j) ∧ σ' 36 0 0 640 = σ 36 0 0 640 ∧ σ' 36 0 0 634 = n ∧ σ' 36 0 0 (Int.toNat (628 + x25)) = y46 ∧ True)) (ln := 646) zk_182_107 rfl rfl (vd_36 (by omega)) (by omega) (by omega) (by omega) (fun σ' h => ⟨h.1.up (by simp only [rgP] <;> omega) (by first | exact pMFm rfl | (unfold MFm; omega)), fun j a b => (up_ne (by omega)).trans (h.2.1 j a b), (up_ne (by omega)).trans (h.2.2.1), (up_ne (by omega)).trans (h.2.2.2.1), up_eq, trivial⟩) (pc' := 108) rfl ?_
              refine T_iinc (L' := [(0, av 35 0 0), (1, iv p0), (2, iv p1), (3, iv x13), (4, iv x14), (5, iv x15), (6, iv (x25 + 1))]) zk_182_108 (nL := 7) rfl rfl rfl rfl (pc' := 111) rfl ?_
              refine T_goto zk_182_111 ?_
              refine G_know (J' := (fun σ' => IF MFm σ σ' ∧ (∀ j, 0 ≤ j → j < 646 → σ' 36 0 1 j = σ 36 0 0 j) ∧ σ' 36 0 0 640 = σ 36 0 0 640 ∧ σ' 36 0 0 634 = n ∧ True)) (fun σ' h => ⟨h.1, h.2.1, h.2.2.1, h.2.2.2.1, trivial⟩) ?_
              exact ih26 (x25 + 1) (by omega) (by omega)
        ·
          refine T_ld zk_182_20 rfl rfl rfl (pc' := 21) rfl ?_
          refine T_op zk_182_21 rfl (X_bi (v := -6) (by decide)) (pc' := 23) rfl ?_
          refine T_calli (K := fun y47 σ' => (y47 = (-6)) ∧ (fun σ' => IF MFm σ σ' ∧ σ' 36 0 0 634 = n ∧ (∀ j, 0 ≤ j → j < 646 → σ' 36 0 0 j = σ 36 0 0 j) ∧ σ' 36 0 0 640 = σ 36 0 0 640 ∧ True) σ') (r := []) zk_182_23 rfl rfl rfl rfl rfl rfl (Or.inr ⟨_, _, _, _, rfl, vd_35, rfl⟩) (fun σ' h => (m_123 ((-6)) (by omega) σ' h.1.1 ).le (Nat.le_of_ble_eq_true rfl) (fun v σ2 ⟨y, h1, h2, h3, h4⟩ => ⟨y, h1, h2, h.1.tr h3 sb66_2bcf461, (h3.2 _ _ _ _ (by first | exact nMT rfl | (unfold MT; omega))).trans (h.2.1), fun j a b => (h3.2 _ _ _ _ (by first | exact nMT rfl | (unfold MT; omega))).trans (h.2.2.1 j a b), (h3.2 _ _ _ _ (by first | exact nMT rfl | (unfold MT; omega))).trans (h.2.2.2.1), trivial⟩)) (pc' := 26) rfl (fun y47 => ?_)
          refine G_ex (fun hy47 => ?_)
          obtain rfl : y47 = (-6) := by omega
          exact T_iret zk_182_26 rfl (fun σ' h => ⟨_, rfl, (by omega), h.1, ⟨h.2.2.1, trivial⟩⟩)
/-- WModel.route -/
theorem m_180 {xs : Nat × (Nat → Int32)} (p0 : Int) (p1 : Int) (p2 : Int) (n : Int) (hp0 : -2147483648 ≤ p0 ∧ p0 ≤ 2147483647) (hp1 : -2147483648 ≤ p1 ∧ p1 ≤ 2147483647) (hp2 : -2147483648 ≤ p2 ∧ p2 ≤ 2147483647) (hn : 0 ≤ n ∧ n ≤ 20000) (σ : ZS) (hI : Inv σ) (hW : WF σ) (s1 : σ 36 0 0 634 = n) : CT xs 7 180 [av 35 0 0, iv p0, iv p1, iv p2] σ (fun v σ' => ∃ y, v = some (iv y) ∧ (-2147483648 ≤ y ∧ y ≤ 2147483647) ∧ IF MFm σ σ' ∧ ((∀ j, 0 ≤ j → j < 646 → σ' 36 0 0 j = σ 36 0 0 j) ∧ True)) := by
  refine G_ct (J := (fun σ' => IF MFm σ σ' ∧ σ' 36 0 0 634 = n ∧ (∀ j, 0 ≤ j → j < 646 → σ' 36 0 0 j = σ 36 0 0 j) ∧ σ' 36 0 0 640 = σ 36 0 0 640 ∧ True)) (L := [(0, av 35 0 0), (1, iv p0), (2, iv p1), (3, iv p2)]) (nL := 10) rfl rfl rfl ⟨IF.rf hI, s1, (fun _ _ _ => rfl), rfl, trivial⟩ ?_
  have r6 : 0 ≤ σ 36 0 0 640 ∧ σ 36 0 0 640 ≤ 5 := (fun h => h.2.2.2.2.2.2.2.2.2.2.2.1 (by omega) (by omega)) (hI 36 0 0 640 (vd_36 (by omega)))
  have rb : 0 ≤ σ 36 0 0 642 ∧ σ 36 0 0 642 ≤ 6 := (fun h => h.2.2.2.2.2.2.2.2.2.2.2.2.2 (by omega) (by omega)) (hI 36 0 0 642 (vd_36 (by omega)))
  refine T_ld zk_180_0 rfl rfl rfl (pc' := 1) rfl ?_
  refine T_ld zk_180_1 rfl rfl rfl (pc' := 2) rfl ?_
  refine T_calli (K := fun y1 σ' => ((y1 = 0 ∧ (p0 < 0 ∨ σ 36 0 0 642 ≤ p0)) ∨ (y1 = 1 ∧ 0 ≤ p0 ∧ p0 < σ 36 0 0 642)) ∧ (fun σ' => IF MFm σ σ' ∧ σ' 36 0 0 634 = n ∧ (∀ j, 0 ≤ j → j < 646 → σ' 36 0 0 j = σ 36 0 0 j) ∧ σ' 36 0 0 640 = σ 36 0 0 640 ∧ True) σ') (r := []) zk_180_2 rfl rfl rfl rfl rfl rfl (Or.inr ⟨_, _, _, _, rfl, vd_35, rfl⟩) (fun σ' h => (m_167 p0 (σ 36 0 0 642) (by omega) (by omega) σ' h.1.1 (h.2.2.1 _ (by omega) (by omega))).le (Nat.le_of_ble_eq_true rfl) (fun v σ2 ⟨y, h1, h2, h3, h4⟩ => ⟨y, h1, h2, h.1.tr h3 MN_sub, (h3.2 _ _ _ _ (fun q => q)).trans (h.2.1), fun j a b => (h3.2 _ _ _ _ (fun q => q)).trans (h.2.2.1 j a b), (h3.2 _ _ _ _ (fun q => q)).trans (h.2.2.2.1), trivial⟩)) (pc' := 5) rfl (fun y1 => ?_)
  refine G_ex (fun hy1 => ?_)
  refine T_if_eq zk_180_5 (by omega) (pc' := 8) rfl (fun h2 => ?_) (fun h3 => ?_)
  ·
    refine T_op zk_180_15 rfl X_ic (pc' := 16) rfl ?_
    exact T_iret zk_180_16 rfl (fun σ' h => ⟨_, rfl, (by omega), h.1, ⟨h.2.2.1, trivial⟩⟩)
  ·
    refine T_ld zk_180_8 rfl rfl rfl (pc' := 9) rfl ?_
    refine T_calli (K := fun y4 σ' => ((y4 = 0 ∧ (p1 < 0 ∨ 24 < p1)) ∨ (y4 = 1 ∧ 0 ≤ p1 ∧ p1 ≤ 24)) ∧ (fun σ' => IF MFm σ σ' ∧ σ' 36 0 0 634 = n ∧ (∀ j, 0 ≤ j → j < 646 → σ' 36 0 0 j = σ 36 0 0 j) ∧ σ' 36 0 0 640 = σ 36 0 0 640 ∧ True) σ') (r := []) zk_180_9 rfl rfl rfl rfl rfl rfl (Or.inl (Or.inl rfl)) (fun σ' h => (m_124 p1 (by omega) σ' h.1.1 ).le (Nat.le_of_ble_eq_true rfl) (fun v σ2 ⟨y, h1, h2, h3, h4⟩ => ⟨y, h1, h2, h.1.tr h3 MN_sub, (h3.2 _ _ _ _ (fun q => q)).trans (h.2.1), fun j a b => (h3.2 _ _ _ _ (fun q => q)).trans (h.2.2.1 j a b), (h3.2 _ _ _ _ (fun q => q)).trans (h.2.2.2.1), trivial⟩)) (pc' := 12) rfl (fun y4 => ?_)
    refine G_ex (fun hy4 => ?_)
    refine T_if_ne zk_180_12 (by omega) (pc' := 15) rfl (fun h5 => ?_) (fun h6 => ?_)
    ·
      refine T_ld zk_180_17 rfl rfl rfl (pc' := 18) rfl ?_
      refine T_op zk_180_18 rfl X_ic (pc' := 19) rfl ?_
      refine T_icmp_lt zk_180_19 (by omega) (by omega) (pc' := 22) rfl (fun h7 => ?_) (fun h8 => ?_)
      ·
        refine T_ld zk_180_28 rfl rfl rfl (pc' := 29) rfl ?_
        refine T_op zk_180_29 rfl (X_bi (v := -6) (by decide)) (pc' := 31) rfl ?_
        refine T_calli (K := fun y9 σ' => (y9 = (-6)) ∧ (fun σ' => IF MFm σ σ' ∧ σ' 36 0 0 634 = n ∧ (∀ j, 0 ≤ j → j < 646 → σ' 36 0 0 j = σ 36 0 0 j) ∧ σ' 36 0 0 640 = σ 36 0 0 640 ∧ True) σ') (r := []) zk_180_31 rfl rfl rfl rfl rfl rfl (Or.inr ⟨_, _, _, _, rfl, vd_35, rfl⟩) (fun σ' h => (m_123 ((-6)) (by omega) σ' h.1.1 ).le (Nat.le_of_ble_eq_true rfl) (fun v σ2 ⟨y, h1, h2, h3, h4⟩ => ⟨y, h1, h2, h.1.tr h3 sb66_2bcf461, (h3.2 _ _ _ _ (by first | exact nMT rfl | (unfold MT; omega))).trans (h.2.1), fun j a b => (h3.2 _ _ _ _ (by first | exact nMT rfl | (unfold MT; omega))).trans (h.2.2.1 j a b), (h3.2 _ _ _ _ (by first | exact nMT rfl | (unfold MT; omega))).trans (h.2.2.2.1), trivial⟩)) (pc' := 34) rfl (fun y9 => ?_)
        refine G_ex (fun hy9 => ?_)
        obtain rfl : y9 = (-6) := by omega
        exact T_iret zk_180_34 rfl (fun σ' h => ⟨_, rfl, (by omega), h.1, ⟨h.2.2.1, trivial⟩⟩)
      ·
        refine T_ld zk_180_22 rfl rfl rfl (pc' := 23) rfl ?_
        refine T_op zk_180_23 rfl (X_bi (v := 96) (by decide)) (pc' := 25) rfl ?_
        refine T_icmp_le zk_180_25 (by omega) (by omega) (pc' := 28) rfl (fun h10 => ?_) (fun h11 => ?_)
        ·
          refine T_ld zk_180_35 rfl rfl rfl (pc' := 36) rfl ?_
          have rc : 0 ≤ σ 36 0 0 (Int.toNat (568 + p0)) ∧ σ 36 0 0 (Int.toNat (568 + p0)) ≤ 24 := (fun h => h.2.2.2.1 (by omega) (by omega)) (hI 36 0 0 (Int.toNat (568 + p0)) (vd_36 (by omega)))
          refine T_getR (t' := 36) (i' := 0) (k' := 0) zk_180_36 rfl rfl rfl vd_35 (pc' := 39) rfl ?_
          refine T_op zk_180_39 rfl (X_si (v := 568) (by decide)) (pc' := 42) rfl ?_
          refine T_ld zk_180_42 rfl rfl rfl (pc' := 43) rfl ?_
          refine T_op zk_180_43 rfl X_add (pc' := 44) rfl ?_
          refine G_ialdX (w := σ 36 0 0 (Int.toNat (568 + p0))) (ln := 646) zk_180_44 rfl rfl (vd_36 (by omega)) (by omega) (by omega) (by omega) (fun σ' h => h.2.2.1 _ (by omega) (by omega)) (pc' := 45) rfl ?_
          refine T_ld zk_180_45 rfl rfl rfl (pc' := 46) rfl ?_
          refine T_icmp_ne zk_180_46 (by omega) (by omega) (pc' := 49) rfl (fun h12 => ?_) (fun h13 => ?_)
          ·
            refine T_ld zk_180_51 rfl rfl rfl (pc' := 52) rfl ?_
            refine T_ld zk_180_52 rfl rfl rfl (pc' := 53) rfl ?_
            refine T_getR (t' := 36) (i' := 0) (k' := 0) zk_180_53 rfl rfl rfl vd_35 (pc' := 56) rfl ?_
            refine T_ld zk_180_56 rfl rfl rfl (pc' := 57) rfl ?_
            refine T_getR (t' := 36) (i' := 0) (k' := 1) zk_180_57 rfl rfl rfl vd_35 (pc' := 60) rfl ?_
            refine T_callv (J' := (fun σ' => IF MFm σ σ' ∧ σ' 36 0 0 634 = n ∧ (∀ j, 0 ≤ j → j < 646 → σ' 36 0 0 j = σ 36 0 0 j) ∧ σ' 36 0 0 640 = σ 36 0 0 640 ∧ (∀ j, 0 ≤ j → j < 646 → σ' 36 0 1 j = σ 36 0 0 j) ∧ True)) (r := []) zk_180_60 rfl rfl rfl rfl rfl rfl (Or.inr ⟨_, _, _, _, rfl, vd_35, rfl⟩) (fun σ' h => (m_179_01 ((σ 36 0 0))  σ' h.1.1 (fun j a b => h.2.2.1 j (by omega) (by omega))).le (Nat.le_of_ble_eq_true rfl) (fun v σ2 ⟨h1, h3, h4⟩ => ⟨h1, h.1.tr h3 sb66_c4dd656, (h3.2 _ _ _ _ (by first | exact nMV rfl | (unfold MV; omega))).trans (h.2.1), fun j a b => (h3.2 _ _ _ _ (by first | exact nMV rfl | (unfold MV; omega))).trans (h.2.2.1 j a b), (h3.2 _ _ _ _ (by first | exact nMV rfl | (unfold MV; omega))).trans (h.2.2.2.1), h4.1, trivial⟩)) (pc' := 63) rfl ?_
            refine T_op zk_180_63 rfl X_ic (pc' := 64) rfl ?_
            refine T_ld zk_180_64 rfl rfl rfl (pc' := 65) rfl ?_
            refine T_getR (t' := 36) (i' := 0) (k' := 0) zk_180_65 rfl rfl rfl vd_35 (pc' := 68) rfl ?_
            refine T_op zk_180_68 rfl (X_si (v := 568) (by decide)) (pc' := 71) rfl ?_
            refine T_ld zk_180_71 rfl rfl rfl (pc' := 72) rfl ?_
            refine T_op zk_180_72 rfl X_add (pc' := 73) rfl ?_
            refine G_ialdX (w := σ 36 0 0 (Int.toNat (568 + p0))) (ln := 646) zk_180_73 rfl rfl (vd_36 (by omega)) (by omega) (by omega) (by omega) (fun σ' h => h.2.2.1 _ (by omega) (by omega)) (pc' := 74) rfl ?_
            refine G_unk zk_180_74 rfl (pc' := 75) rfl (fun y15 hy15 hy15' => ?_)
            refine T_st (L' := [(0, av 35 0 0), (1, iv p0), (2, iv p1), (3, iv p2), (4, iv y15)]) zk_180_75 (nL := 10) rfl rfl rfl rfl rfl (pc' := 77) rfl ?_
            refine T_op zk_180_77 rfl X_ic (pc' := 78) rfl ?_
            refine T_st (L' := [(0, av 35 0 0), (1, iv p0), (2, iv p1), (3, iv p2), (4, iv y15), (5, iv (-1))]) zk_180_78 (nL := 10) rfl rfl rfl rfl rfl (pc' := 80) rfl ?_
            refine T_op zk_180_80 rfl X_ic (pc' := 81) rfl ?_
            refine T_st (L' := [(0, av 35 0 0), (1, iv p0), (2, iv p1), (3, iv p2), (4, iv y15), (5, iv (-1)), (6, iv 0)]) zk_180_81 (nL := 10) rfl rfl rfl rfl rfl (pc' := 83) rfl ?_
            refine G_know (J' := (fun σ' => IF MFm σ σ' ∧ (∀ j, 0 ≤ j → j < 646 → σ' 36 0 1 j = σ 36 0 0 j) ∧ σ' 36 0 0 640 = σ 36 0 0 640 ∧ σ' 36 0 0 634 = n + 0 ∧ True)) (fun σ' h => ⟨h.1, h.2.2.2.2.1, h.2.2.2.1, (h.2.1).trans (by omega), trivial⟩) ?_
            refine T_loop3 (fun x16 x17 x18 => ((96 - x18 : Int)).toNat) (fun x16 x17 x18 => (-2147483648 ≤ x16 ∧ x16 ≤ 2147483647) ∧ (-2147483648 ≤ x17 ∧ x17 ≤ 2147483647) ∧ (0 ≤ x18 ∧ x18 ≤ 96)) (fun x16 x17 x18 => TJ xs (fun σ' => IF MFm σ σ' ∧ (∀ j, 0 ≤ j → j < 646 → σ' 36 0 1 j = σ 36 0 0 j) ∧ σ' 36 0 0 640 = σ 36 0 0 640 ∧ σ' 36 0 0 634 = n + x18 ∧ True) 6 180 83 [(0, av 35 0 0), (1, iv p0), (2, iv p1), (3, iv p2), (4, iv x16), (5, iv x17), (6, iv x18)] [] _) ?_ y15 (-1) 0 (by omega)
            intro x16 x17 x18 hp20 ih19
            refine T_ld zk_180_83 rfl rfl rfl (pc' := 85) rfl ?_
            refine T_ld zk_180_85 rfl rfl rfl (pc' := 86) rfl ?_
            refine T_icmp_ge zk_180_86 (by omega) (by omega) (pc' := 89) rfl (fun h21 => ?_) (fun h22 => ?_)
            ·
              refine T_ld zk_180_208 rfl rfl rfl (pc' := 209) rfl ?_
              refine T_ld zk_180_209 rfl rfl rfl (pc' := 210) rfl ?_
              refine T_getR (t' := 36) (i' := 0) (k' := 1) zk_180_210 rfl rfl rfl vd_35 (pc' := 213) rfl ?_
              refine T_ld zk_180_213 rfl rfl rfl (pc' := 214) rfl ?_
              refine T_getR (t' := 36) (i' := 0) (k' := 0) zk_180_214 rfl rfl rfl vd_35 (pc' := 217) rfl ?_
              refine T_callv (J' := (fun σ' => IF MFm σ σ' ∧ (∀ j, 0 ≤ j → j < 646 → σ' 36 0 1 j = σ 36 0 0 j) ∧ (∀ j, 0 ≤ j → j < 646 → σ' 36 0 0 j = σ 36 0 0 j) ∧ True)) (r := []) zk_180_217 rfl rfl rfl rfl rfl rfl (Or.inr ⟨_, _, _, _, rfl, vd_35, rfl⟩) (fun σ' h => (m_179_10 ((σ 36 0 0))  σ' h.1.1 (fun j a b => h.2.1 j (by omega) (by omega))).le (Nat.le_of_ble_eq_true rfl) (fun v σ2 ⟨h1, h3, h4⟩ => ⟨h1, h.1.tr h3 sb66_ceb4a7b, fun j a b => (h3.2 _ _ _ _ (by first | exact nMV rfl | (unfold MV; omega))).trans (h.2.1 j a b), h4.1, trivial⟩)) (pc' := 220) rfl ?_
              refine T_ld zk_180_220 rfl rfl rfl (pc' := 222) rfl ?_
              exact T_iret zk_180_222 rfl (fun σ' h => ⟨_, rfl, (by omega), h.1, ⟨h.2.2.1, trivial⟩⟩)
            ·
              refine T_ld zk_180_89 rfl rfl rfl (pc' := 91) rfl ?_
              refine T_op zk_180_91 rfl X_ic (pc' := 92) rfl ?_
              refine T_icmp_ne zk_180_92 (by omega) (by omega) (pc' := 95) rfl (fun h24 => ?_) (fun h25 => ?_)
              ·
                refine T_ld zk_180_208 rfl rfl rfl (pc' := 209) rfl ?_
                refine T_ld zk_180_209 rfl rfl rfl (pc' := 210) rfl ?_
                refine T_getR (t' := 36) (i' := 0) (k' := 1) zk_180_210 rfl rfl rfl vd_35 (pc' := 213) rfl ?_
                refine T_ld zk_180_213 rfl rfl rfl (pc' := 214) rfl ?_
                refine T_getR (t' := 36) (i' := 0) (k' := 0) zk_180_214 rfl rfl rfl vd_35 (pc' := 217) rfl ?_
                refine T_callv (J' := (fun σ' => IF MFm σ σ' ∧ (∀ j, 0 ≤ j → j < 646 → σ' 36 0 1 j = σ 36 0 0 j) ∧ (∀ j, 0 ≤ j → j < 646 → σ' 36 0 0 j = σ 36 0 0 j) ∧ True)) (r := []) zk_180_217 rfl rfl rfl rfl rfl rfl (Or.inr ⟨_, _, _, _, rfl, vd_35, rfl⟩) (fun σ' h => (m_179_10 ((σ 36 0 0))  σ' h.1.1 (fun j a b => h.2.1 j (by omega) (by omega))).le (Nat.le_of_ble_eq_true rfl) (fun v σ2 ⟨h1, h3, h4⟩ => ⟨h1, h.1.tr h3 sb66_ceb4a7b, fun j a b => (h3.2 _ _ _ _ (by first | exact nMV rfl | (unfold MV; omega))).trans (h.2.1 j a b), h4.1, trivial⟩)) (pc' := 220) rfl ?_
                refine T_ld zk_180_220 rfl rfl rfl (pc' := 222) rfl ?_
                exact T_iret zk_180_222 rfl (fun σ' h => ⟨_, rfl, (by omega), h.1, ⟨h.2.2.1, trivial⟩⟩)
              ·
                refine T_ld zk_180_95 rfl rfl rfl (pc' := 96) rfl ?_
                refine T_op zk_180_96 rfl X_ic (pc' := 97) rfl ?_
                refine T_callv (J' := (fun σ' => IF MFm σ σ' ∧ (∀ j, 0 ≤ j → j < 646 → σ' 36 0 1 j = σ 36 0 0 j) ∧ σ' 36 0 0 640 = σ 36 0 0 640 ∧ σ' 36 0 0 634 = n + x18 ∧ True)) (r := []) zk_180_97 rfl rfl rfl rfl rfl rfl (Or.inr ⟨_, _, _, _, rfl, vd_35, rfl⟩) (fun σ' h => (m_175 1 (by omega) σ' h.1.1 (hW.fr (fun _ => h.1.2 _ _ _ _ (by first | exact nMFm rfl | (unfold MFm; omega))) (fun _ => h.1.2 _ _ _ _ (by first | exact nMFm rfl | (unfold MFm; omega))) (h.2.2.1))).le (Nat.le_of_ble_eq_true rfl) (fun v σ2 ⟨h1, h3, h4⟩ => ⟨h1, h.1.tr h3 sb66_252d39a, fun j a b => (h3.2 _ _ _ _ (by first | exact nMWg rfl | (unfold MWg; omega))).trans (h.2.1 j a b), (h3.2 _ _ _ _ (by first | exact nMWg rfl | (unfold MWg; omega))).trans (h.2.2.1), (h3.2 _ _ _ _ (by first | exact nMWg rfl | (unfold MWg; omega))).trans (h.2.2.2.1), trivial⟩)) (pc' := 100) rfl ?_
                refine T_ld zk_180_100 rfl rfl rfl (pc' := 102) rfl ?_
                refine T_st (L' := [(0, av 35 0 0), (1, iv p0), (2, iv p1), (3, iv p2), (4, iv x16), (5, iv x17), (6, iv x18), (7, iv x16)]) zk_180_102 (nL := 10) rfl rfl rfl rfl rfl (pc' := 104) rfl ?_
                refine T_op zk_180_104 rfl X_ic (pc' := 105) rfl ?_
                refine T_st (L' := [(0, av 35 0 0), (1, iv p0), (2, iv p1), (3, iv p2), (4, iv x16), (5, iv x17), (6, iv x18), (7, iv x16), (8, iv 0)]) zk_180_105 (nL := 10) rfl rfl rfl rfl rfl (pc' := 107) rfl ?_
                refine T_loop2 (fun x28 x29 => ((25 - x29 : Int)).toNat) (fun x28 x29 => (-2147483648 ≤ x28 ∧ x28 ≤ 2147483647) ∧ (0 ≤ x29 ∧ x29 ≤ 25)) (fun x28 x29 => TJ xs (fun σ' => IF MFm σ σ' ∧ (∀ j, 0 ≤ j → j < 646 → σ' 36 0 1 j = σ 36 0 0 j) ∧ σ' 36 0 0 640 = σ 36 0 0 640 ∧ σ' 36 0 0 634 = n + x18 ∧ True) 6 180 107 [(0, av 35 0 0), (1, iv p0), (2, iv p1), (3, iv p2), (4, iv x16), (5, iv x17), (6, iv x18), (7, iv x28), (8, iv x29)] [] _) ?_ x16 0 (by omega)
                intro x28 x29 hp31 ih30
                refine T_ld zk_180_107 rfl rfl rfl (pc' := 109) rfl ?_
                refine T_op zk_180_109 rfl (X_bi (v := 25) (by decide)) (pc' := 111) rfl ?_
                refine T_icmp_ge zk_180_111 (by omega) (by omega) (pc' := 114) rfl (fun h32 => ?_) (fun h33 => ?_)
                ·
                  refine T_ld zk_180_177 rfl rfl rfl (pc' := 179) rfl ?_
                  refine T_st (L' := [(0, av 35 0 0), (1, iv p0), (2, iv p1), (3, iv p2), (4, iv x28), (5, iv x17), (6, iv x18), (7, iv x28), (8, iv x29)]) zk_180_179 (nL := 10) rfl rfl rfl rfl rfl (pc' := 181) rfl ?_
                  refine T_ld zk_180_181 rfl rfl rfl (pc' := 183) rfl ?_
                  refine T_ld zk_180_183 rfl rfl rfl (pc' := 184) rfl ?_
                  refine G_unk zk_180_184 rfl (pc' := 185) rfl (fun y34 hy34 hy34' => ?_)
                  refine T_op zk_180_185 rfl X_ic (pc' := 186) rfl ?_
                  refine G_unk zk_180_186 rfl (pc' := 187) rfl (fun y35 hy35 hy35' => ?_)
                  refine T_op zk_180_187 rfl X_ic (pc' := 188) rfl ?_
                  refine T_icmp_ne zk_180_188 (by omega) (by omega) (pc' := 191) rfl (fun h36 => ?_) (fun h37 => ?_)
                  ·
                    refine T_ld zk_180_197 rfl rfl rfl (pc' := 198) rfl ?_
                    refine T_op zk_180_198 rfl X_ic (pc' := 199) rfl ?_
                    refine T_callv (J' := (fun σ' => IF MFm σ σ' ∧ (∀ j, 0 ≤ j → j < 646 → σ' 36 0 1 j = σ 36 0 0 j) ∧ σ' 36 0 0 640 = σ 36 0 0 640 ∧ σ' 36 0 0 634 = n + x18 + 1 ∧ True)) (r := []) zk_180_199 rfl rfl rfl rfl rfl rfl (Or.inr ⟨_, _, _, _, rfl, vd_35, rfl⟩) (fun σ' h => (m_177 1 (n + x18) (by omega) (by omega) σ' h.1.1 (h.2.2.2.1)).le (Nat.le_of_ble_eq_true rfl) (fun v σ2 ⟨h1, h3, h4⟩ => ⟨h1, h.1.tr h3 sb66_2824d69, fun j a b => (h3.2 _ _ _ _ (by first | exact nMLg rfl | (unfold MLg; omega))).trans (h.2.1 j a b), (h3.2 _ _ _ _ (by first | exact nMLg rfl | (unfold MLg; omega))).trans (h.2.2.1), h4.1, trivial⟩)) (pc' := 202) rfl ?_
                    refine T_iinc (L' := [(0, av 35 0 0), (1, iv p0), (2, iv p1), (3, iv p2), (4, iv x28), (5, iv x17), (6, iv (x18 + 1)), (7, iv x28), (8, iv x29)]) zk_180_202 (nL := 10) rfl rfl rfl rfl (pc' := 205) rfl ?_
                    refine T_goto zk_180_205 ?_
                    refine G_know (J' := (fun σ' => IF MFm σ σ' ∧ (∀ j, 0 ≤ j → j < 646 → σ' 36 0 1 j = σ 36 0 0 j) ∧ σ' 36 0 0 640 = σ 36 0 0 640 ∧ σ' 36 0 0 634 = n + (x18 + 1) ∧ True)) (fun σ' h => ⟨h.1, h.2.1, h.2.2.1, (h.2.2.2.1).trans (by omega), trivial⟩) ?_
                    refine T_loc (L := [(0, av 35 0 0), (1, iv p0), (2, iv p1), (3, iv p2), (4, iv x28), (5, iv x17), (6, iv (x18 + 1))]) (E := [(7, iv x28), (8, iv x29)]) rfl ?_
                    exact ih19 x28 x17 (x18 + 1) (by omega) (by omega)
                  ·
                    refine T_ld zk_180_191 rfl rfl rfl (pc' := 193) rfl ?_
                    refine T_op zk_180_193 rfl X_ic (pc' := 194) rfl ?_
                    refine T_op zk_180_194 rfl X_add (pc' := 195) rfl ?_
                    refine T_st (L' := [(0, av 35 0 0), (1, iv p0), (2, iv p1), (3, iv p2), (4, iv x28), (5, iv (x18 + 1)), (6, iv x18), (7, iv x28), (8, iv x29)]) zk_180_195 (nL := 10) rfl rfl rfl rfl rfl (pc' := 197) rfl ?_
                    refine T_ld zk_180_197 rfl rfl rfl (pc' := 198) rfl ?_
                    refine T_op zk_180_198 rfl X_ic (pc' := 199) rfl ?_
                    refine T_callv (J' := (fun σ' => IF MFm σ σ' ∧ (∀ j, 0 ≤ j → j < 646 → σ' 36 0 1 j = σ 36 0 0 j) ∧ σ' 36 0 0 640 = σ 36 0 0 640 ∧ σ' 36 0 0 634 = n + x18 + 1 ∧ True)) (r := []) zk_180_199 rfl rfl rfl rfl rfl rfl (Or.inr ⟨_, _, _, _, rfl, vd_35, rfl⟩) (fun σ' h => (m_177 1 (n + x18) (by omega) (by omega) σ' h.1.1 (h.2.2.2.1)).le (Nat.le_of_ble_eq_true rfl) (fun v σ2 ⟨h1, h3, h4⟩ => ⟨h1, h.1.tr h3 sb66_2824d69, fun j a b => (h3.2 _ _ _ _ (by first | exact nMLg rfl | (unfold MLg; omega))).trans (h.2.1 j a b), (h3.2 _ _ _ _ (by first | exact nMLg rfl | (unfold MLg; omega))).trans (h.2.2.1), h4.1, trivial⟩)) (pc' := 202) rfl ?_
                    refine T_iinc (L' := [(0, av 35 0 0), (1, iv p0), (2, iv p1), (3, iv p2), (4, iv x28), (5, iv (x18 + 1)), (6, iv (x18 + 1)), (7, iv x28), (8, iv x29)]) zk_180_202 (nL := 10) rfl rfl rfl rfl (pc' := 205) rfl ?_
                    refine T_goto zk_180_205 ?_
                    refine G_know (J' := (fun σ' => IF MFm σ σ' ∧ (∀ j, 0 ≤ j → j < 646 → σ' 36 0 1 j = σ 36 0 0 j) ∧ σ' 36 0 0 640 = σ 36 0 0 640 ∧ σ' 36 0 0 634 = n + (x18 + 1) ∧ True)) (fun σ' h => ⟨h.1, h.2.1, h.2.2.1, (h.2.2.2.1).trans (by omega), trivial⟩) ?_
                    refine T_loc (L := [(0, av 35 0 0), (1, iv p0), (2, iv p1), (3, iv p2), (4, iv x28), (5, iv (x18 + 1)), (6, iv (x18 + 1))]) (E := [(7, iv x28), (8, iv x29)]) rfl ?_
                    exact ih19 x28 (x18 + 1) (x18 + 1) (by omega) (by omega)
                ·
                  refine T_op zk_180_114 rfl X_ic (pc' := 115) rfl ?_
                  refine T_st (L' := [(0, av 35 0 0), (1, iv p0), (2, iv p1), (3, iv p2), (4, iv x16), (5, iv x17), (6, iv x18), (7, iv x28), (8, iv x29), (9, iv 0)]) zk_180_115 (nL := 10) rfl rfl rfl rfl rfl (pc' := 117) rfl ?_
                  refine T_loop2 (fun x40 x41 => ((4 - x41 : Int)).toNat) (fun x40 x41 => (-2147483648 ≤ x40 ∧ x40 ≤ 2147483647) ∧ (0 ≤ x41 ∧ x41 ≤ 4)) (fun x40 x41 => TJ xs (fun σ' => IF MFm σ σ' ∧ (∀ j, 0 ≤ j → j < 646 → σ' 36 0 1 j = σ 36 0 0 j) ∧ σ' 36 0 0 640 = σ 36 0 0 640 ∧ σ' 36 0 0 634 = n + x18 ∧ True) 6 180 117 [(0, av 35 0 0), (1, iv p0), (2, iv p1), (3, iv p2), (4, iv x16), (5, iv x17), (6, iv x18), (7, iv x40), (8, iv x29), (9, iv x41)] [] _) ?_ x28 0 (by omega)
                  intro x40 x41 hp43 ih42
                  refine T_ld zk_180_117 rfl rfl rfl (pc' := 119) rfl ?_
                  refine T_op zk_180_119 rfl X_ic (pc' := 120) rfl ?_
                  refine T_icmp_ge zk_180_120 (by omega) (by omega) (pc' := 123) rfl (fun h44 => ?_) (fun h45 => ?_)
                  ·
                    refine T_iinc (L' := [(0, av 35 0 0), (1, iv p0), (2, iv p1), (3, iv p2), (4, iv x16), (5, iv x17), (6, iv x18), (7, iv x40), (8, iv (x29 + 1)), (9, iv x41)]) zk_180_171 (nL := 10) rfl rfl rfl rfl (pc' := 174) rfl ?_
                    refine T_goto zk_180_174 ?_
                    refine T_loc (L := [(0, av 35 0 0), (1, iv p0), (2, iv p1), (3, iv p2), (4, iv x16), (5, iv x17), (6, iv x18), (7, iv x40), (8, iv (x29 + 1))]) (E := [(9, iv x41)]) rfl ?_
                    exact ih30 x40 (x29 + 1) (by omega) (by omega)
                  ·
                    refine T_ld zk_180_123 rfl rfl rfl (pc' := 125) rfl ?_
                    refine T_ld zk_180_125 rfl rfl rfl (pc' := 127) rfl ?_
                    refine G_unk zk_180_127 rfl (pc' := 128) rfl (fun y46 hy46 hy46' => ?_)
                    refine T_op zk_180_128 rfl X_ic (pc' := 129) rfl ?_
                    refine G_unk zk_180_129 rfl (pc' := 130) rfl (fun y47 hy47 hy47' => ?_)
                    refine T_op zk_180_130 rfl X_ic (pc' := 131) rfl ?_
                    refine T_icmp_ne zk_180_131 (by omega) (by omega) (pc' := 134) rfl (fun h48 => ?_) (fun h49 => ?_)
                    ·
                      refine T_iinc (L' := [(0, av 35 0 0), (1, iv p0), (2, iv p1), (3, iv p2), (4, iv x16), (5, iv x17), (6, iv x18), (7, iv x40), (8, iv x29), (9, iv (x41 + 1))]) zk_180_165 (nL := 10) rfl rfl rfl rfl (pc' := 168) rfl ?_
                      refine T_goto zk_180_168 ?_
                      exact ih42 x40 (x41 + 1) (by omega) (by omega)
                    ·
                      refine T_ld zk_180_134 rfl rfl rfl (pc' := 135) rfl ?_
                      refine T_ld zk_180_135 rfl rfl rfl (pc' := 136) rfl ?_
                      refine T_ld zk_180_136 rfl rfl rfl (pc' := 138) rfl ?_
                      refine T_ld zk_180_138 rfl rfl rfl (pc' := 140) rfl ?_
                      refine T_ld zk_180_140 rfl rfl rfl (pc' := 142) rfl ?_
                      refine T_calli (K := fun y50 σ' => (-5 ≤ y50 ∧ y50 ≤ 29) ∧ (fun σ' => IF MFm σ σ' ∧ (∀ j, 0 ≤ j → j < 646 → σ' 36 0 1 j = σ 36 0 0 j) ∧ σ' 36 0 0 640 = σ 36 0 0 640 ∧ σ' 36 0 0 634 = n + x18 ∧ True) σ') (r := [iv x29, iv p0, av 35 0 0]) zk_180_142 rfl rfl rfl rfl rfl rfl (Or.inl (Or.inl rfl)) (fun σ' h => (m_171 x29 x41 (by omega) (by omega) σ' h.1.1 ).le (Nat.le_of_ble_eq_true rfl) (fun v σ2 ⟨y, h1, h2, h3, h4⟩ => ⟨y, h1, h2, h.1.tr h3 MN_sub, fun j a b => (h3.2 _ _ _ _ (fun q => q)).trans (h.2.1 j a b), (h3.2 _ _ _ _ (fun q => q)).trans (h.2.2.1), (h3.2 _ _ _ _ (fun q => q)).trans (h.2.2.2.1), trivial⟩)) (pc' := 145) rfl (fun y50 => ?_)
                      refine G_ex (fun hy50 => ?_)
                      refine T_calli (K := fun y51 σ' => (y51 = 0 ∨ (y51 = 1 ∧ 0 ≤ y50 ∧ y50 ≤ 24)) ∧ (fun σ' => IF MFm σ σ' ∧ (∀ j, 0 ≤ j → j < 646 → σ' 36 0 1 j = σ 36 0 0 j) ∧ σ' 36 0 0 640 = σ 36 0 0 640 ∧ σ' 36 0 0 634 = n + x18 ∧ True) σ') (r := []) zk_180_145 rfl rfl rfl rfl rfl rfl (Or.inr ⟨_, _, _, _, rfl, vd_35, rfl⟩) (fun σ' h => (m_170 p0 x29 y50 (by omega) (by omega) (by omega) σ' h.1.1 ).le (Nat.le_of_ble_eq_true rfl) (fun v σ2 ⟨y, h1, h2, h3, h4⟩ => ⟨y, h1, h2, h.1.tr h3 MN_sub, fun j a b => (h3.2 _ _ _ _ (fun q => q)).trans (h.2.1 j a b), (h3.2 _ _ _ _ (fun q => q)).trans (h.2.2.1), (h3.2 _ _ _ _ (fun q => q)).trans (h.2.2.2.1), trivial⟩)) (pc' := 148) rfl (fun y51 => ?_)
                      refine G_ex (fun hy51 => ?_)
                      refine T_if_eq zk_180_148 (by omega) (pc' := 151) rfl (fun h52 => ?_) (fun h53 => ?_)
                      ·
                        refine T_iinc (L' := [(0, av 35 0 0), (1, iv p0), (2, iv p1), (3, iv p2), (4, iv x16), (5, iv x17), (6, iv x18), (7, iv x40), (8, iv x29), (9, iv (x41 + 1))]) zk_180_165 (nL := 10) rfl rfl rfl rfl (pc' := 168) rfl ?_
                        refine T_goto zk_180_168 ?_
                        exact ih42 x40 (x41 + 1) (by omega) (by omega)
                      ·
                        refine T_ld zk_180_151 rfl rfl rfl (pc' := 153) rfl ?_
                        refine T_op zk_180_153 rfl X_ic (pc' := 154) rfl ?_
                        refine T_ld zk_180_154 rfl rfl rfl (pc' := 156) rfl ?_
                        refine T_ld zk_180_156 rfl rfl rfl (pc' := 158) rfl ?_
                        refine T_calli (K := fun y54 σ' => (-5 ≤ y54 ∧ y54 ≤ 29) ∧ (fun σ' => IF MFm σ σ' ∧ (∀ j, 0 ≤ j → j < 646 → σ' 36 0 1 j = σ 36 0 0 j) ∧ σ' 36 0 0 640 = σ 36 0 0 640 ∧ σ' 36 0 0 634 = n + x18 ∧ True) σ') (r := [iv 1, iv x40]) zk_180_158 rfl rfl rfl rfl rfl rfl (Or.inl (Or.inl rfl)) (fun σ' h => (m_171 x29 x41 (by omega) (by omega) σ' h.1.1 ).le (Nat.le_of_ble_eq_true rfl) (fun v σ2 ⟨y, h1, h2, h3, h4⟩ => ⟨y, h1, h2, h.1.tr h3 MN_sub, fun j a b => (h3.2 _ _ _ _ (fun q => q)).trans (h.2.1 j a b), (h3.2 _ _ _ _ (fun q => q)).trans (h.2.2.1), (h3.2 _ _ _ _ (fun q => q)).trans (h.2.2.2.1), trivial⟩)) (pc' := 161) rfl (fun y54 => ?_)
                        refine G_ex (fun hy54 => ?_)
                        refine G_unk zk_180_161 rfl (pc' := 162) rfl (fun y55 hy55 hy55' => ?_)
                        refine G_unk zk_180_162 rfl (pc' := 163) rfl (fun y56 hy56 hy56' => ?_)
                        refine T_st (L' := [(0, av 35 0 0), (1, iv p0), (2, iv p1), (3, iv p2), (4, iv x16), (5, iv x17), (6, iv x18), (7, iv y56), (8, iv x29), (9, iv x41)]) zk_180_163 (nL := 10) rfl rfl rfl rfl rfl (pc' := 165) rfl ?_
                        refine T_iinc (L' := [(0, av 35 0 0), (1, iv p0), (2, iv p1), (3, iv p2), (4, iv x16), (5, iv x17), (6, iv x18), (7, iv y56), (8, iv x29), (9, iv (x41 + 1))]) zk_180_165 (nL := 10) rfl rfl rfl rfl (pc' := 168) rfl ?_
                        refine T_goto zk_180_168 ?_
                        exact ih42 y56 (x41 + 1) (by omega) (by omega)
          ·
            refine T_op zk_180_49 rfl X_ic (pc' := 50) rfl ?_
            exact T_iret zk_180_50 rfl (fun σ' h => ⟨_, rfl, (by omega), h.1, ⟨h.2.2.1, trivial⟩⟩)
        ·
          refine T_ld zk_180_28 rfl rfl rfl (pc' := 29) rfl ?_
          refine T_op zk_180_29 rfl (X_bi (v := -6) (by decide)) (pc' := 31) rfl ?_
          refine T_calli (K := fun y57 σ' => (y57 = (-6)) ∧ (fun σ' => IF MFm σ σ' ∧ σ' 36 0 0 634 = n ∧ (∀ j, 0 ≤ j → j < 646 → σ' 36 0 0 j = σ 36 0 0 j) ∧ σ' 36 0 0 640 = σ 36 0 0 640 ∧ True) σ') (r := []) zk_180_31 rfl rfl rfl rfl rfl rfl (Or.inr ⟨_, _, _, _, rfl, vd_35, rfl⟩) (fun σ' h => (m_123 ((-6)) (by omega) σ' h.1.1 ).le (Nat.le_of_ble_eq_true rfl) (fun v σ2 ⟨y, h1, h2, h3, h4⟩ => ⟨y, h1, h2, h.1.tr h3 sb66_2bcf461, (h3.2 _ _ _ _ (by first | exact nMT rfl | (unfold MT; omega))).trans (h.2.1), fun j a b => (h3.2 _ _ _ _ (by first | exact nMT rfl | (unfold MT; omega))).trans (h.2.2.1 j a b), (h3.2 _ _ _ _ (by first | exact nMT rfl | (unfold MT; omega))).trans (h.2.2.2.1), trivial⟩)) (pc' := 34) rfl (fun y57 => ?_)
          refine G_ex (fun hy57 => ?_)
          obtain rfl : y57 = (-6) := by omega
          exact T_iret zk_180_34 rfl (fun σ' h => ⟨_, rfl, (by omega), h.1, ⟨h.2.2.1, trivial⟩⟩)
    ·
      refine T_op zk_180_15 rfl X_ic (pc' := 16) rfl ?_
      exact T_iret zk_180_16 rfl (fun σ' h => ⟨_, rfl, (by omega), h.1, ⟨h.2.2.1, trivial⟩⟩)
