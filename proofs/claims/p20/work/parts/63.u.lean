theorem zk_172_0 : zc 172 0 = some (.aload_n 0, 0, 0, 0, 0) := rfl
theorem zk_172_1 : zc 172 1 = some (.getfield 7, 11, 0, 0, 139) := rfl
theorem zk_172_4 : zc 172 4 = some (.sipush 598, 0, 0, 0, 0) := rfl
theorem zk_172_7 : zc 172 7 = some (.iload_n 1, 0, 0, 0, 0) := rfl
theorem zk_172_8 : zc 172 8 = some (.iadd, 0, 0, 0, 0) := rfl
theorem zk_172_9 : zc 172 9 = some (.iaload, 0, 0, 0, 0) := rfl
theorem zk_172_10 : zc 172 10 = some (.istore_n 2, 0, 0, 0, 0) := rfl
theorem zk_172_11 : zc 172 11 = some (.iload_n 2, 0, 0, 0, 0) := rfl
theorem zk_172_12 : zc 172 12 = some (.iconst (-1), 0, 0, 0, 0) := rfl
theorem zk_172_13 : zc 172 13 = some (.if_icmp .ne 5, 18, 0, 0, 0) := rfl
theorem zk_172_16 : zc 172 16 = some (.iconst (-1), 0, 0, 0, 0) := rfl
theorem zk_172_17 : zc 172 17 = some (.ireturn, 0, 0, 0, 0) := rfl
theorem zk_172_18 : zc 172 18 = some (.iconst 0, 0, 0, 0, 0) := rfl
theorem zk_172_19 : zc 172 19 = some (.istore_n 3, 0, 0, 0, 0) := rfl
theorem zk_172_20 : zc 172 20 = some (.iload_n 3, 0, 0, 0, 0) := rfl
theorem zk_172_21 : zc 172 21 = some (.bipush 25, 0, 0, 0, 0) := rfl
theorem zk_172_23 : zc 172 23 = some (.if_icmp .ge 16, 39, 0, 0, 0) := rfl
theorem zk_172_26 : zc 172 26 = some (.aload_n 0, 0, 0, 0, 0) := rfl
theorem zk_172_27 : zc 172 27 = some (.getfield 69, 11, 27, 0, 158) := rfl
theorem zk_172_30 : zc 172 30 = some (.iload_n 3, 0, 0, 0, 0) := rfl
theorem zk_172_31 : zc 172 31 = some (.iconst (-1), 0, 0, 0, 0) := rfl
theorem zk_172_32 : zc 172 32 = some (.iastore, 0, 0, 0, 0) := rfl
theorem zk_172_33 : zc 172 33 = some (.iinc 3 1, 0, 0, 0, 0) := rfl
theorem zk_172_36 : zc 172 36 = some (.goto (-16), 20, 0, 0, 0) := rfl
theorem zk_172_39 : zc 172 39 = some (.iconst 0, 0, 0, 0, 0) := rfl
theorem zk_172_40 : zc 172 40 = some (.istore_n 3, 0, 0, 0, 0) := rfl
theorem zk_172_41 : zc 172 41 = some (.aload_n 0, 0, 0, 0, 0) := rfl
theorem zk_172_42 : zc 172 42 = some (.getfield 69, 11, 27, 0, 158) := rfl
theorem zk_172_45 : zc 172 45 = some (.iload_n 2, 0, 0, 0, 0) := rfl
theorem zk_172_46 : zc 172 46 = some (.iconst 0, 0, 0, 0, 0) := rfl
theorem zk_172_47 : zc 172 47 = some (.iastore, 0, 0, 0, 0) := rfl
theorem zk_172_48 : zc 172 48 = some (.aload_n 0, 0, 0, 0, 0) := rfl
theorem zk_172_49 : zc 172 49 = some (.getfield 72, 11, 28, 0, 159) := rfl
theorem zk_172_52 : zc 172 52 = some (.iload_n 3, 0, 0, 0, 0) := rfl
theorem zk_172_53 : zc 172 53 = some (.iinc 3 1, 0, 0, 0, 0) := rfl
theorem zk_172_56 : zc 172 56 = some (.iload_n 2, 0, 0, 0, 0) := rfl
theorem zk_172_57 : zc 172 57 = some (.iastore, 0, 0, 0, 0) := rfl
theorem zk_172_58 : zc 172 58 = some (.iconst 0, 0, 0, 0, 0) := rfl
theorem zk_172_59 : zc 172 59 = some (.istore 4, 0, 0, 0, 0) := rfl
theorem zk_172_61 : zc 172 61 = some (.iload 4, 0, 0, 0, 0) := rfl
theorem zk_172_63 : zc 172 63 = some (.iload_n 3, 0, 0, 0, 0) := rfl
theorem zk_172_64 : zc 172 64 = some (.if_icmp .ge 101, 165, 0, 0, 0) := rfl
theorem zk_172_67 : zc 172 67 = some (.iconst 0, 0, 0, 0, 0) := rfl
theorem zk_172_68 : zc 172 68 = some (.istore 5, 0, 0, 0, 0) := rfl
theorem zk_172_70 : zc 172 70 = some (.iload 5, 0, 0, 0, 0) := rfl
theorem zk_172_72 : zc 172 72 = some (.iconst 4, 0, 0, 0, 0) := rfl
theorem zk_172_73 : zc 172 73 = some (.if_icmp .ge 86, 159, 0, 0, 0) := rfl
theorem zk_172_76 : zc 172 76 = some (.aload_n 0, 0, 0, 0, 0) := rfl
theorem zk_172_77 : zc 172 77 = some (.getfield 72, 11, 28, 0, 159) := rfl
theorem zk_172_80 : zc 172 80 = some (.iload 4, 0, 0, 0, 0) := rfl
theorem zk_172_82 : zc 172 82 = some (.iaload, 0, 0, 0, 0) := rfl
theorem zk_172_83 : zc 172 83 = some (.iload 5, 0, 0, 0, 0) := rfl
theorem zk_172_85 : zc 172 85 = some (.invokestatic 201, 171, 1, 2, 149) := rfl
theorem zk_172_88 : zc 172 88 = some (.istore 6, 0, 0, 0, 0) := rfl
theorem zk_172_90 : zc 172 90 = some (.aload_n 0, 0, 0, 0, 0) := rfl
theorem zk_172_91 : zc 172 91 = some (.iload_n 1, 0, 0, 0, 0) := rfl
theorem zk_172_92 : zc 172 92 = some (.aload_n 0, 0, 0, 0, 0) := rfl
theorem zk_172_93 : zc 172 93 = some (.getfield 72, 11, 28, 0, 159) := rfl
theorem zk_172_96 : zc 172 96 = some (.iload 4, 0, 0, 0, 0) := rfl
theorem zk_172_98 : zc 172 98 = some (.iaload, 0, 0, 0, 0) := rfl
theorem zk_172_99 : zc 172 99 = some (.iload 6, 0, 0, 0, 0) := rfl
theorem zk_172_101 : zc 172 101 = some (.invokevirtual 204, 170, 0, 4, 150) := rfl
theorem zk_172_104 : zc 172 104 = some (.ifCond .eq 49, 153, 0, 0, 0) := rfl
theorem zk_172_107 : zc 172 107 = some (.aload_n 0, 0, 0, 0, 0) := rfl
theorem zk_172_108 : zc 172 108 = some (.getfield 69, 11, 27, 0, 158) := rfl
theorem zk_172_111 : zc 172 111 = some (.iload 6, 0, 0, 0, 0) := rfl
theorem zk_172_113 : zc 172 113 = some (.iaload, 0, 0, 0, 0) := rfl
theorem zk_172_114 : zc 172 114 = some (.iconst (-1), 0, 0, 0, 0) := rfl
theorem zk_172_115 : zc 172 115 = some (.if_icmp .eq 6, 121, 0, 0, 0) := rfl
theorem zk_172_118 : zc 172 118 = some (.goto 35, 153, 0, 0, 0) := rfl
theorem zk_172_121 : zc 172 121 = some (.aload_n 0, 0, 0, 0, 0) := rfl
theorem zk_172_122 : zc 172 122 = some (.getfield 69, 11, 27, 0, 158) := rfl
theorem zk_172_125 : zc 172 125 = some (.iload 6, 0, 0, 0, 0) := rfl
theorem zk_172_127 : zc 172 127 = some (.aload_n 0, 0, 0, 0, 0) := rfl
theorem zk_172_128 : zc 172 128 = some (.getfield 69, 11, 27, 0, 158) := rfl
theorem zk_172_131 : zc 172 131 = some (.aload_n 0, 0, 0, 0, 0) := rfl
theorem zk_172_132 : zc 172 132 = some (.getfield 72, 11, 28, 0, 159) := rfl
theorem zk_172_135 : zc 172 135 = some (.iload 4, 0, 0, 0, 0) := rfl
theorem zk_172_137 : zc 172 137 = some (.iaload, 0, 0, 0, 0) := rfl
theorem zk_172_138 : zc 172 138 = some (.iaload, 0, 0, 0, 0) := rfl
theorem zk_172_139 : zc 172 139 = some (.iconst 1, 0, 0, 0, 0) := rfl
theorem zk_172_140 : zc 172 140 = some (.iadd, 0, 0, 0, 0) := rfl
theorem zk_172_141 : zc 172 141 = some (.iastore, 0, 0, 0, 0) := rfl
theorem zk_172_142 : zc 172 142 = some (.aload_n 0, 0, 0, 0, 0) := rfl
theorem zk_172_143 : zc 172 143 = some (.getfield 72, 11, 28, 0, 159) := rfl
theorem zk_172_146 : zc 172 146 = some (.iload_n 3, 0, 0, 0, 0) := rfl
theorem zk_172_147 : zc 172 147 = some (.iinc 3 1, 0, 0, 0, 0) := rfl
theorem zk_172_150 : zc 172 150 = some (.iload 6, 0, 0, 0, 0) := rfl
theorem zk_172_152 : zc 172 152 = some (.iastore, 0, 0, 0, 0) := rfl
theorem zk_172_153 : zc 172 153 = some (.iinc 5 1, 0, 0, 0, 0) := rfl
theorem zk_172_156 : zc 172 156 = some (.goto (-86), 70, 0, 0, 0) := rfl
theorem zk_172_159 : zc 172 159 = some (.iinc 4 1, 0, 0, 0, 0) := rfl
theorem zk_172_162 : zc 172 162 = some (.goto (-101), 61, 0, 0, 0) := rfl
theorem zk_172_165 : zc 172 165 = some (.aload_n 0, 0, 0, 0, 0) := rfl
theorem zk_172_166 : zc 172 166 = some (.getfield 7, 11, 0, 0, 139) := rfl
theorem zk_172_169 : zc 172 169 = some (.sipush 568, 0, 0, 0, 0) := rfl
theorem zk_172_172 : zc 172 172 = some (.iload_n 1, 0, 0, 0, 0) := rfl
theorem zk_172_173 : zc 172 173 = some (.iadd, 0, 0, 0, 0) := rfl
theorem zk_172_174 : zc 172 174 = some (.iaload, 0, 0, 0, 0) := rfl
theorem zk_172_175 : zc 172 175 = some (.istore 4, 0, 0, 0, 0) := rfl
theorem zk_172_177 : zc 172 177 = some (.iconst 0, 0, 0, 0, 0) := rfl
theorem zk_172_178 : zc 172 178 = some (.istore 5, 0, 0, 0, 0) := rfl
theorem zk_172_180 : zc 172 180 = some (.iload 5, 0, 0, 0, 0) := rfl
theorem zk_172_182 : zc 172 182 = some (.iconst 4, 0, 0, 0, 0) := rfl
theorem zk_172_183 : zc 172 183 = some (.if_icmp .ge 62, 245, 0, 0, 0) := rfl
theorem zk_172_186 : zc 172 186 = some (.aload_n 0, 0, 0, 0, 0) := rfl
theorem zk_172_187 : zc 172 187 = some (.getfield 69, 11, 27, 0, 158) := rfl
theorem zk_172_190 : zc 172 190 = some (.iload 4, 0, 0, 0, 0) := rfl
theorem zk_172_192 : zc 172 192 = some (.iaload, 0, 0, 0, 0) := rfl
theorem zk_172_193 : zc 172 193 = some (.ifCond .le 52, 245, 0, 0, 0) := rfl
theorem zk_172_196 : zc 172 196 = some (.iload 4, 0, 0, 0, 0) := rfl
theorem zk_172_198 : zc 172 198 = some (.iload 5, 0, 0, 0, 0) := rfl
theorem zk_172_200 : zc 172 200 = some (.invokestatic 201, 171, 1, 2, 149) := rfl
theorem zk_172_203 : zc 172 203 = some (.istore 6, 0, 0, 0, 0) := rfl
theorem zk_172_205 : zc 172 205 = some (.aload_n 0, 0, 0, 0, 0) := rfl
theorem zk_172_206 : zc 172 206 = some (.iload_n 1, 0, 0, 0, 0) := rfl
theorem zk_172_207 : zc 172 207 = some (.iload 4, 0, 0, 0, 0) := rfl
theorem zk_172_209 : zc 172 209 = some (.iload 6, 0, 0, 0, 0) := rfl
theorem zk_172_211 : zc 172 211 = some (.invokevirtual 204, 170, 0, 4, 150) := rfl
theorem zk_172_214 : zc 172 214 = some (.ifCond .eq 25, 239, 0, 0, 0) := rfl
theorem zk_172_217 : zc 172 217 = some (.aload_n 0, 0, 0, 0, 0) := rfl
theorem zk_172_218 : zc 172 218 = some (.getfield 69, 11, 27, 0, 158) := rfl
theorem zk_172_221 : zc 172 221 = some (.iload 6, 0, 0, 0, 0) := rfl
theorem zk_172_223 : zc 172 223 = some (.iaload, 0, 0, 0, 0) := rfl
theorem zk_172_224 : zc 172 224 = some (.aload_n 0, 0, 0, 0, 0) := rfl
theorem zk_172_225 : zc 172 225 = some (.getfield 69, 11, 27, 0, 158) := rfl
theorem zk_172_228 : zc 172 228 = some (.iload 4, 0, 0, 0, 0) := rfl
theorem zk_172_230 : zc 172 230 = some (.iaload, 0, 0, 0, 0) := rfl
theorem zk_172_231 : zc 172 231 = some (.iconst 1, 0, 0, 0, 0) := rfl
theorem zk_172_232 : zc 172 232 = some (.isub, 0, 0, 0, 0) := rfl
theorem zk_172_233 : zc 172 233 = some (.if_icmp .ne 6, 239, 0, 0, 0) := rfl
theorem zk_172_236 : zc 172 236 = some (.iload 6, 0, 0, 0, 0) := rfl
theorem zk_172_238 : zc 172 238 = some (.ireturn, 0, 0, 0, 0) := rfl
theorem zk_172_239 : zc 172 239 = some (.iinc 5 1, 0, 0, 0, 0) := rfl
theorem zk_172_242 : zc 172 242 = some (.goto (-62), 180, 0, 0, 0) := rfl
theorem zk_172_245 : zc 172 245 = some (.iconst (-1), 0, 0, 0, 0) := rfl
theorem zk_172_246 : zc 172 246 = some (.ireturn, 0, 0, 0, 0) := rfl
theorem zk_173_0 : zc 173 0 = some (.aload_n 0, 0, 0, 0, 0) := rfl
theorem zk_173_1 : zc 173 1 = some (.iload_n 1, 0, 0, 0, 0) := rfl
theorem zk_173_2 : zc 173 2 = some (.invokevirtual 198, 167, 0, 2, 148) := rfl
theorem zk_173_5 : zc 173 5 = some (.ifCond .eq 11, 16, 0, 0, 0) := rfl
theorem zk_173_8 : zc 173 8 = some (.aload_n 0, 0, 0, 0, 0) := rfl
theorem zk_173_9 : zc 173 9 = some (.iload_n 1, 0, 0, 0, 0) := rfl
theorem zk_173_10 : zc 173 10 = some (.invokevirtual 208, 172, 0, 2, 151) := rfl
theorem zk_173_13 : zc 173 13 = some (.goto 4, 17, 0, 0, 0) := rfl
theorem zk_173_16 : zc 173 16 = some (.iconst (-1), 0, 0, 0, 0) := rfl
theorem zk_173_17 : zc 173 17 = some (.ireturn, 0, 0, 0, 0) := rfl
theorem zk_176_0 : zc 176 0 = some (.aload_n 0, 0, 0, 0, 0) := rfl
theorem zk_176_1 : zc 176 1 = some (.iload_n 1, 0, 0, 0, 0) := rfl
theorem zk_176_2 : zc 176 2 = some (.invokevirtual 208, 172, 0, 2, 151) := rfl
theorem zk_176_5 : zc 176 5 = some (.istore_n 2, 0, 0, 0, 0) := rfl
theorem zk_176_6 : zc 176 6 = some (.aload_n 0, 0, 0, 0, 0) := rfl
theorem zk_176_7 : zc 176 7 = some (.getfield 7, 11, 0, 0, 139) := rfl
theorem zk_176_10 : zc 176 10 = some (.sipush 568, 0, 0, 0, 0) := rfl
theorem zk_176_13 : zc 176 13 = some (.iload_n 1, 0, 0, 0, 0) := rfl
theorem zk_176_14 : zc 176 14 = some (.iadd, 0, 0, 0, 0) := rfl
theorem zk_176_15 : zc 176 15 = some (.iaload, 0, 0, 0, 0) := rfl
theorem zk_176_16 : zc 176 16 = some (.istore_n 3, 0, 0, 0, 0) := rfl
theorem zk_176_17 : zc 176 17 = some (.iload_n 2, 0, 0, 0, 0) := rfl
theorem zk_176_18 : zc 176 18 = some (.iconst (-1), 0, 0, 0, 0) := rfl
theorem zk_176_19 : zc 176 19 = some (.if_icmp .ne 7, 26, 0, 0, 0) := rfl
theorem zk_176_22 : zc 176 22 = some (.iconst (-1), 0, 0, 0, 0) := rfl
theorem zk_176_23 : zc 176 23 = some (.goto 8, 31, 0, 0, 0) := rfl
theorem zk_176_26 : zc 176 26 = some (.iload_n 3, 0, 0, 0, 0) := rfl
theorem zk_176_27 : zc 176 27 = some (.iload_n 2, 0, 0, 0, 0) := rfl
theorem zk_176_28 : zc 176 28 = some (.invokestatic 107, 126, 1, 2, 130) := rfl
theorem zk_176_31 : zc 176 31 = some (.istore 4, 0, 0, 0, 0) := rfl
theorem zk_176_33 : zc 176 33 = some (.iload 4, 0, 0, 0, 0) := rfl
theorem zk_176_35 : zc 176 35 = some (.iconst (-1), 0, 0, 0, 0) := rfl
theorem zk_176_36 : zc 176 36 = some (.if_icmp .eq 29, 65, 0, 0, 0) := rfl
theorem zk_176_39 : zc 176 39 = some (.aload_n 0, 0, 0, 0, 0) := rfl
theorem zk_176_40 : zc 176 40 = some (.getfield 7, 11, 0, 0, 139) := rfl
theorem zk_176_43 : zc 176 43 = some (.sipush 150, 0, 0, 0, 0) := rfl
theorem zk_176_46 : zc 176 46 = some (.iload 4, 0, 0, 0, 0) := rfl
theorem zk_176_48 : zc 176 48 = some (.iadd, 0, 0, 0, 0) := rfl
theorem zk_176_49 : zc 176 49 = some (.iaload, 0, 0, 0, 0) := rfl
theorem zk_176_50 : zc 176 50 = some (.iconst 1, 0, 0, 0, 0) := rfl
theorem zk_176_51 : zc 176 51 = some (.if_icmp .ne 39, 90, 0, 0, 0) := rfl
theorem zk_176_54 : zc 176 54 = some (.aload_n 0, 0, 0, 0, 0) := rfl
theorem zk_176_55 : zc 176 55 = some (.getfield 78, 11, 30, 0, 161) := rfl
theorem zk_176_58 : zc 176 58 = some (.iload 4, 0, 0, 0, 0) := rfl
theorem zk_176_60 : zc 176 60 = some (.iaload, 0, 0, 0, 0) := rfl
theorem zk_176_61 : zc 176 61 = some (.iconst 1, 0, 0, 0, 0) := rfl
theorem zk_176_62 : zc 176 62 = some (.if_icmp .ne 28, 90, 0, 0, 0) := rfl
theorem zk_176_65 : zc 176 65 = some (.aload_n 0, 0, 0, 0, 0) := rfl
theorem zk_176_66 : zc 176 66 = some (.getfield 7, 11, 0, 0, 139) := rfl
theorem zk_176_69 : zc 176 69 = some (.sipush 604, 0, 0, 0, 0) := rfl
theorem zk_176_72 : zc 176 72 = some (.iload_n 1, 0, 0, 0, 0) := rfl
theorem zk_176_73 : zc 176 73 = some (.iadd, 0, 0, 0, 0) := rfl
theorem zk_176_74 : zc 176 74 = some (.dup2, 0, 0, 0, 0) := rfl
theorem zk_176_75 : zc 176 75 = some (.iaload, 0, 0, 0, 0) := rfl
theorem zk_176_76 : zc 176 76 = some (.iconst 1, 0, 0, 0, 0) := rfl
theorem zk_176_77 : zc 176 77 = some (.iadd, 0, 0, 0, 0) := rfl
theorem zk_176_78 : zc 176 78 = some (.iastore, 0, 0, 0, 0) := rfl
theorem zk_176_79 : zc 176 79 = some (.aload_n 0, 0, 0, 0, 0) := rfl
theorem zk_176_80 : zc 176 80 = some (.dup, 0, 0, 0, 0) := rfl
theorem zk_176_81 : zc 176 81 = some (.getfield 214, 11, 31, 0, 176) := rfl
theorem zk_176_84 : zc 176 84 = some (.iconst 1, 0, 0, 0, 0) := rfl
theorem zk_176_85 : zc 176 85 = some (.iadd, 0, 0, 0, 0) := rfl
theorem zk_176_86 : zc 176 86 = some (.putfield 214, 11, 31, 0, 176) := rfl
theorem zk_176_89 : zc 176 89 = some (.return_, 0, 0, 0, 0) := rfl
theorem zk_176_90 : zc 176 90 = some (.aload_n 0, 0, 0, 0, 0) := rfl
theorem zk_176_91 : zc 176 91 = some (.getfield 78, 11, 30, 0, 161) := rfl
theorem zk_176_94 : zc 176 94 = some (.iload 4, 0, 0, 0, 0) := rfl
theorem zk_176_96 : zc 176 96 = some (.iconst 1, 0, 0, 0, 0) := rfl
theorem zk_176_97 : zc 176 97 = some (.iastore, 0, 0, 0, 0) := rfl
theorem zk_176_98 : zc 176 98 = some (.aload_n 0, 0, 0, 0, 0) := rfl
theorem zk_176_99 : zc 176 99 = some (.getfield 7, 11, 0, 0, 139) := rfl
theorem zk_176_102 : zc 176 102 = some (.sipush 568, 0, 0, 0, 0) := rfl
theorem zk_176_105 : zc 176 105 = some (.iload_n 1, 0, 0, 0, 0) := rfl
theorem zk_176_106 : zc 176 106 = some (.iadd, 0, 0, 0, 0) := rfl
theorem zk_176_107 : zc 176 107 = some (.iload_n 2, 0, 0, 0, 0) := rfl
theorem zk_176_108 : zc 176 108 = some (.iastore, 0, 0, 0, 0) := rfl
theorem zk_176_109 : zc 176 109 = some (.aload_n 0, 0, 0, 0, 0) := rfl
theorem zk_176_110 : zc 176 110 = some (.getfield 7, 11, 0, 0, 139) := rfl
theorem zk_176_113 : zc 176 113 = some (.sipush 622, 0, 0, 0, 0) := rfl
theorem zk_176_116 : zc 176 116 = some (.iload_n 1, 0, 0, 0, 0) := rfl
theorem zk_176_117 : zc 176 117 = some (.iadd, 0, 0, 0, 0) := rfl
theorem zk_176_118 : zc 176 118 = some (.dup2, 0, 0, 0, 0) := rfl
theorem zk_176_119 : zc 176 119 = some (.iaload, 0, 0, 0, 0) := rfl
theorem zk_176_120 : zc 176 120 = some (.iconst 1, 0, 0, 0, 0) := rfl
theorem zk_176_121 : zc 176 121 = some (.iadd, 0, 0, 0, 0) := rfl
theorem zk_176_122 : zc 176 122 = some (.iastore, 0, 0, 0, 0) := rfl
theorem zk_176_123 : zc 176 123 = some (.aload_n 0, 0, 0, 0, 0) := rfl
theorem zk_176_124 : zc 176 124 = some (.getfield 7, 11, 0, 0, 139) := rfl
theorem zk_176_127 : zc 176 127 = some (.sipush 586, 0, 0, 0, 0) := rfl
theorem zk_176_130 : zc 176 130 = some (.iload_n 1, 0, 0, 0, 0) := rfl
theorem zk_176_131 : zc 176 131 = some (.iadd, 0, 0, 0, 0) := rfl
theorem zk_176_132 : zc 176 132 = some (.iaload, 0, 0, 0, 0) := rfl
theorem zk_176_133 : zc 176 133 = some (.aload_n 0, 0, 0, 0, 0) := rfl
theorem zk_176_134 : zc 176 134 = some (.getfield 7, 11, 0, 0, 139) := rfl
theorem zk_176_137 : zc 176 137 = some (.sipush 638, 0, 0, 0, 0) := rfl
theorem zk_176_140 : zc 176 140 = some (.iaload, 0, 0, 0, 0) := rfl
theorem zk_176_141 : zc 176 141 = some (.if_icmp .ge 16, 157, 0, 0, 0) := rfl
theorem zk_176_144 : zc 176 144 = some (.aload_n 0, 0, 0, 0, 0) := rfl
theorem zk_176_145 : zc 176 145 = some (.getfield 7, 11, 0, 0, 139) := rfl
theorem zk_176_148 : zc 176 148 = some (.sipush 586, 0, 0, 0, 0) := rfl
theorem zk_176_151 : zc 176 151 = some (.iload_n 1, 0, 0, 0, 0) := rfl
theorem zk_176_152 : zc 176 152 = some (.iadd, 0, 0, 0, 0) := rfl
theorem zk_176_153 : zc 176 153 = some (.iaload, 0, 0, 0, 0) := rfl
theorem zk_176_154 : zc 176 154 = some (.goto 11, 165, 0, 0, 0) := rfl
theorem zk_176_157 : zc 176 157 = some (.aload_n 0, 0, 0, 0, 0) := rfl
theorem zk_176_158 : zc 176 158 = some (.getfield 7, 11, 0, 0, 139) := rfl
theorem zk_176_161 : zc 176 161 = some (.sipush 638, 0, 0, 0, 0) := rfl
theorem zk_176_164 : zc 176 164 = some (.iaload, 0, 0, 0, 0) := rfl
theorem zk_176_165 : zc 176 165 = some (.istore 5, 0, 0, 0, 0) := rfl
theorem zk_176_167 : zc 176 167 = some (.iload 5, 0, 0, 0, 0) := rfl
theorem zk_176_169 : zc 176 169 = some (.iload 5, 0, 0, 0, 0) := rfl
theorem zk_176_171 : zc 176 171 = some (.imul, 0, 0, 0, 0) := rfl
theorem zk_176_172 : zc 176 172 = some (.iconst 4, 0, 0, 0, 0) := rfl
theorem zk_176_173 : zc 176 173 = some (.idiv, 0, 0, 0, 0) := rfl
theorem zk_176_174 : zc 176 174 = some (.istore 6, 0, 0, 0, 0) := rfl
theorem zk_176_176 : zc 176 176 = some (.iload 6, 0, 0, 0, 0) := rfl
theorem zk_176_178 : zc 176 178 = some (.aload_n 0, 0, 0, 0, 0) := rfl
theorem zk_176_179 : zc 176 179 = some (.getfield 7, 11, 0, 0, 139) := rfl
theorem zk_176_182 : zc 176 182 = some (.bipush 50, 0, 0, 0, 0) := rfl
theorem zk_176_184 : zc 176 184 = some (.iload_n 2, 0, 0, 0, 0) := rfl
theorem zk_176_185 : zc 176 185 = some (.iadd, 0, 0, 0, 0) := rfl
theorem zk_176_186 : zc 176 186 = some (.iaload, 0, 0, 0, 0) := rfl
theorem zk_176_187 : zc 176 187 = some (.if_icmp .le 14, 201, 0, 0, 0) := rfl
theorem zk_176_190 : zc 176 190 = some (.aload_n 0, 0, 0, 0, 0) := rfl
theorem zk_176_191 : zc 176 191 = some (.getfield 7, 11, 0, 0, 139) := rfl
theorem zk_176_194 : zc 176 194 = some (.bipush 50, 0, 0, 0, 0) := rfl
theorem zk_176_196 : zc 176 196 = some (.iload_n 2, 0, 0, 0, 0) := rfl
theorem zk_176_197 : zc 176 197 = some (.iadd, 0, 0, 0, 0) := rfl
theorem zk_176_198 : zc 176 198 = some (.iaload, 0, 0, 0, 0) := rfl
theorem zk_176_199 : zc 176 199 = some (.istore 6, 0, 0, 0, 0) := rfl
theorem zk_176_201 : zc 176 201 = some (.aload_n 0, 0, 0, 0, 0) := rfl
theorem zk_176_202 : zc 176 202 = some (.getfield 7, 11, 0, 0, 139) := rfl
theorem zk_176_205 : zc 176 205 = some (.bipush 50, 0, 0, 0, 0) := rfl
theorem zk_176_207 : zc 176 207 = some (.iload_n 2, 0, 0, 0, 0) := rfl
theorem zk_176_208 : zc 176 208 = some (.iadd, 0, 0, 0, 0) := rfl
theorem zk_176_209 : zc 176 209 = some (.dup2, 0, 0, 0, 0) := rfl
theorem zk_176_210 : zc 176 210 = some (.iaload, 0, 0, 0, 0) := rfl
theorem zk_176_211 : zc 176 211 = some (.iload 6, 0, 0, 0, 0) := rfl
theorem zk_176_213 : zc 176 213 = some (.isub, 0, 0, 0, 0) := rfl
theorem zk_176_214 : zc 176 214 = some (.iastore, 0, 0, 0, 0) := rfl
theorem zk_176_215 : zc 176 215 = some (.aload_n 0, 0, 0, 0, 0) := rfl
theorem zk_176_216 : zc 176 216 = some (.getfield 7, 11, 0, 0, 139) := rfl
theorem zk_176_219 : zc 176 219 = some (.sipush 616, 0, 0, 0, 0) := rfl
theorem zk_176_222 : zc 176 222 = some (.iload_n 1, 0, 0, 0, 0) := rfl
theorem zk_176_223 : zc 176 223 = some (.iadd, 0, 0, 0, 0) := rfl
theorem zk_176_224 : zc 176 224 = some (.dup2, 0, 0, 0, 0) := rfl
theorem zk_176_225 : zc 176 225 = some (.iaload, 0, 0, 0, 0) := rfl
theorem zk_176_226 : zc 176 226 = some (.iload 6, 0, 0, 0, 0) := rfl
theorem zk_176_228 : zc 176 228 = some (.iadd, 0, 0, 0, 0) := rfl
theorem zk_176_229 : zc 176 229 = some (.iastore, 0, 0, 0, 0) := rfl
theorem zk_176_230 : zc 176 230 = some (.iload_n 2, 0, 0, 0, 0) := rfl
theorem zk_176_231 : zc 176 231 = some (.aload_n 0, 0, 0, 0, 0) := rfl
theorem zk_176_232 : zc 176 232 = some (.getfield 7, 11, 0, 0, 139) := rfl
theorem zk_176_235 : zc 176 235 = some (.sipush 598, 0, 0, 0, 0) := rfl
theorem zk_176_238 : zc 176 238 = some (.iload_n 1, 0, 0, 0, 0) := rfl
theorem zk_176_239 : zc 176 239 = some (.iadd, 0, 0, 0, 0) := rfl
theorem zk_176_240 : zc 176 240 = some (.iaload, 0, 0, 0, 0) := rfl
theorem zk_176_241 : zc 176 241 = some (.if_icmp .ne 28, 269, 0, 0, 0) := rfl
theorem zk_176_244 : zc 176 244 = some (.aload_n 0, 0, 0, 0, 0) := rfl
theorem zk_176_245 : zc 176 245 = some (.getfield 7, 11, 0, 0, 139) := rfl
theorem zk_176_248 : zc 176 248 = some (.sipush 598, 0, 0, 0, 0) := rfl
theorem zk_176_251 : zc 176 251 = some (.iload_n 1, 0, 0, 0, 0) := rfl
theorem zk_176_252 : zc 176 252 = some (.iadd, 0, 0, 0, 0) := rfl
theorem zk_176_253 : zc 176 253 = some (.iconst (-1), 0, 0, 0, 0) := rfl
theorem zk_176_254 : zc 176 254 = some (.iastore, 0, 0, 0, 0) := rfl
theorem zk_176_255 : zc 176 255 = some (.aload_n 0, 0, 0, 0, 0) := rfl
theorem zk_176_256 : zc 176 256 = some (.getfield 7, 11, 0, 0, 139) := rfl
theorem zk_176_259 : zc 176 259 = some (.sipush 610, 0, 0, 0, 0) := rfl
theorem zk_176_262 : zc 176 262 = some (.iload_n 1, 0, 0, 0, 0) := rfl
theorem zk_176_263 : zc 176 263 = some (.iadd, 0, 0, 0, 0) := rfl
theorem zk_176_264 : zc 176 264 = some (.dup2, 0, 0, 0, 0) := rfl
theorem zk_176_265 : zc 176 265 = some (.iaload, 0, 0, 0, 0) := rfl
theorem zk_176_266 : zc 176 266 = some (.iconst 1, 0, 0, 0, 0) := rfl
theorem zk_176_267 : zc 176 267 = some (.iadd, 0, 0, 0, 0) := rfl
theorem zk_176_268 : zc 176 268 = some (.iastore, 0, 0, 0, 0) := rfl
theorem zk_176_269 : zc 176 269 = some (.return_, 0, 0, 0, 0) := rfl
def MSo (t i k j : Nat) : Prop := (t = 36 ∧ k = 0 ∧ ((50 ≤ j ∧ j < 75) ∨ (568 ≤ j ∧ j < 628))) ∨ t = 52 ∨ t = 53 ∨ t = 55 ∨ (t = 35 ∧ j = 31)
theorem nMSo { t i k j : Nat} (hb : decide (((t = 36 ∧ ((50 ≤ j ∧ j < 75) ∨ (568 ≤ j ∧ j < 628))) ∨ t = 52 ∨ t = 53 ∨ t = 55 ∨ (t = 35 ∧ j = 31))) = false) : ¬ MSo  t i k j := fun h => of_decide_eq_false hb (by unfold MSo at h; omega)
theorem pMSo { t i k j : Nat} (hb : decide ((t = 52 ∨ t = 53 ∨ t = 55 ∨ (t = 35 ∧ j = 31))) = true) : MSo  t i k j := by
  have h := of_decide_eq_true hb
  unfold MSo
  omega
/-- WModel.step -/
theorem m_172 {xs : Nat × (Nat → Int32)} (p0 : Int) (hp0 : 0 ≤ p0 ∧ p0 ≤ 5) (σ : ZS) (hI : Inv σ)   : CT xs 4 172 [av 35 0 0, iv p0] σ (fun v σ' => ∃ y, v = some (iv y) ∧ (-1 ≤ y ∧ y ≤ 24) ∧ IF (MT 52 53 53 53) σ σ' ∧ (True)) := by
  refine G_ct (J := (fun σ' => IF (MT 52 53 53 53) σ σ' ∧ True)) (L := [(0, av 35 0 0), (1, iv p0)]) (nL := 7) rfl rfl rfl ⟨IF.rf hI, trivial⟩ ?_
  refine T_ld zk_172_0 rfl rfl rfl (pc' := 1) rfl ?_
  refine T_getR (t' := 36) (i' := 0) (k' := 0) zk_172_1 rfl rfl rfl vd_35 (pc' := 4) rfl ?_
  refine T_op zk_172_4 rfl (X_si (v := 598) (by decide)) (pc' := 7) rfl ?_
  refine T_ld zk_172_7 rfl rfl rfl (pc' := 8) rfl ?_
  refine T_op zk_172_8 rfl X_add (pc' := 9) rfl ?_
  refine G_iald (lo := -1) (hi := 24) (ln := 646) zk_172_9 rfl rfl (vd_36 (by omega)) (by omega) (by omega) (by omega) (fun σ' h => h.1.1) (fun _ h => h.2.2.2.2.1 (by omega) (by omega)) (pc' := 10) rfl (fun y1 hy1 hy1' => ?_)
  refine T_st (L' := [(0, av 35 0 0), (1, iv p0), (2, iv y1)]) zk_172_10 (nL := 7) rfl rfl rfl rfl rfl (pc' := 11) rfl ?_
  refine T_ld zk_172_11 rfl rfl rfl (pc' := 12) rfl ?_
  refine T_op zk_172_12 rfl X_ic (pc' := 13) rfl ?_
  refine T_icmp_ne zk_172_13 (by omega) (by omega) (pc' := 16) rfl (fun h2 => ?_) (fun h3 => ?_)
  ·
    refine T_op zk_172_18 rfl X_ic (pc' := 19) rfl ?_
    refine G_know (J' := (fun σ' => IF (MT 52 53 53 53) σ σ' ∧ csum bV (σ' 52 0 0) (Int.toNat 0) = 0 ∧ bnd (σ' 52 0 0) (Int.toNat 0) (-1) 0 ∧ True)) (fun σ' h => ⟨h.1, rfl, (fun j hj => by simp at hj), trivial⟩) ?_
    refine T_st (L' := [(0, av 35 0 0), (1, iv p0), (2, iv y1), (3, iv 0)]) zk_172_19 (nL := 7) rfl rfl rfl rfl rfl (pc' := 20) rfl ?_
    refine T_loop1 (fun x4 => ((25 - x4 : Int)).toNat) (fun x4 => (0 ≤ x4 ∧ x4 ≤ 25)) (fun x4 => TJ xs (fun σ' => IF (MT 52 53 53 53) σ σ' ∧ csum bV (σ' 52 0 0) (Int.toNat x4) = 0 ∧ bnd (σ' 52 0 0) (Int.toNat x4) (-1) 0 ∧ True) 3 172 20 [(0, av 35 0 0), (1, iv p0), (2, iv y1), (3, iv x4)] [] _) ?_ 0 (by omega)
    intro x4 hp6 ih5
    refine T_ld zk_172_20 rfl rfl rfl (pc' := 21) rfl ?_
    refine T_op zk_172_21 rfl (X_bi (v := 25) (by decide)) (pc' := 23) rfl ?_
    refine T_icmp_ge zk_172_23 (by omega) (by omega) (pc' := 26) rfl (fun h7 => ?_) (fun h8 => ?_)
    ·
      refine G_know (J' := (fun σ' => IF (MT 52 53 53 53) σ σ' ∧ csum bV (σ' 52 0 0) 25 = 0 ∧ bnd (σ' 52 0 0) (Int.toNat x4) (-1) 0 ∧ True)) (fun σ' h => ⟨h.1, csum_n (by omega) (h.2.1), h.2.2.1, trivial⟩) ?_
      refine G_know (J' := (fun σ' => IF (MT 52 53 53 53) σ σ' ∧ csum bV (σ' 52 0 0) 25 = 0 ∧ bnd (σ' 52 0 0) 25 (-1) 0 ∧ True)) (fun σ' h => ⟨h.1, h.2.1, bnd_n (by omega) (h.2.2.1), trivial⟩) ?_
      refine T_op zk_172_39 rfl X_ic (pc' := 40) rfl ?_
      refine T_st (L' := [(0, av 35 0 0), (1, iv p0), (2, iv y1), (3, iv 0)]) zk_172_40 (nL := 7) rfl rfl rfl rfl rfl (pc' := 41) rfl ?_
      refine T_ld zk_172_41 rfl rfl rfl (pc' := 42) rfl ?_
      refine T_getR (t' := 52) (i' := 0) (k' := 0) zk_172_42 rfl rfl rfl vd_35 (pc' := 45) rfl ?_
      refine T_ld zk_172_45 rfl rfl rfl (pc' := 46) rfl ?_
      refine T_op zk_172_46 rfl X_ic (pc' := 47) rfl ?_
      refine G_iast (J' := (fun σ' => IF (MT 52 53 53 53) σ σ' ∧ csum bV (σ' 52 0 0) 25 = 1 ∧ bnd (σ' 52 0 0) 25 (-1) 1 ∧ True)) (ln := 25) zk_172_47 rfl rfl vd_52 (by omega) (by omega) (by omega) (fun σ' h => ⟨h.1.up ⟨by omega, trivial⟩ (by first | exact pMT rfl | (unfold MT; omega)), cV_first (h.2.1) (by omega) (by omega), bnd_put (h.2.2.1) (by omega) (by omega), trivial⟩) (pc' := 48) rfl ?_
      refine T_ld zk_172_48 rfl rfl rfl (pc' := 49) rfl ?_
      refine T_getR (t' := 53) (i' := 0) (k' := 0) zk_172_49 rfl rfl rfl vd_35 (pc' := 52) rfl ?_
      refine T_ld zk_172_52 rfl rfl rfl (pc' := 53) rfl ?_
      refine T_iinc (L' := [(0, av 35 0 0), (1, iv p0), (2, iv y1), (3, iv (0 + 1))]) zk_172_53 (nL := 7) rfl rfl rfl rfl (pc' := 56) rfl ?_
      refine T_ld zk_172_56 rfl rfl rfl (pc' := 57) rfl ?_
      refine G_iast (J' := (fun σ' => IF (MT 52 53 53 53) σ σ' ∧ csum bV (σ' 52 0 0) 25 = 1 ∧ bnd (σ' 52 0 0) 25 (-1) 1 ∧ True)) (ln := 25) zk_172_57 rfl rfl vd_53 (by omega) (by omega) (by omega) (fun σ' h => ⟨h.1.up (by simp only [rgP] <;> omega) (by first | exact pMT rfl | (unfold MT; omega)), gf_mk (fun z => csum bV z 25 = 1) (up_row (by omega)) (h.2.1), gf_mk (fun z => bnd z 25 (-1) 1) (up_row (by omega)) (h.2.2.1), trivial⟩) (pc' := 58) rfl ?_
      refine T_op zk_172_58 rfl X_ic (pc' := 59) rfl ?_
      refine T_st (L' := [(0, av 35 0 0), (1, iv p0), (2, iv y1), (3, iv (0 + 1)), (4, iv 0)]) zk_172_59 (nL := 7) rfl rfl rfl rfl rfl (pc' := 61) rfl ?_
      refine G_know (J' := (fun σ' => IF (MT 52 53 53 53) σ σ' ∧ csum bV (σ' 52 0 0) 25 = (0 + 1) ∧ bnd (σ' 52 0 0) 25 (-1) (0 + 1) ∧ True)) (fun σ' h => ⟨h.1, (csum_v (h.2.1) (by omega)), (bnd_le (h.2.2.1) (by omega) (by omega)), trivial⟩) ?_
      refine T_loop2 (fun x9 x10 => ((25 - x10 : Int)).toNat) (fun x9 x10 => (1 ≤ x9 ∧ x9 ≤ 25) ∧ (0 ≤ x10 ∧ x10 ≤ 25) ∧ x10 ≤ x9) (fun x9 x10 => TJ xs (fun σ' => IF (MT 52 53 53 53) σ σ' ∧ csum bV (σ' 52 0 0) 25 = x9 ∧ bnd (σ' 52 0 0) 25 (-1) x9 ∧ True) 3 172 61 [(0, av 35 0 0), (1, iv p0), (2, iv y1), (3, iv x9), (4, iv x10)] [] _) ?_ (0 + 1) 0 (by omega)
      intro x9 x10 hp12 ih11
      refine T_ld zk_172_61 rfl rfl rfl (pc' := 63) rfl ?_
      refine T_ld zk_172_63 rfl rfl rfl (pc' := 64) rfl ?_
      refine T_icmp_ge zk_172_64 (by omega) (by omega) (pc' := 67) rfl (fun h13 => ?_) (fun h14 => ?_)
      ·
        refine T_ld zk_172_165 rfl rfl rfl (pc' := 166) rfl ?_
        refine T_getR (t' := 36) (i' := 0) (k' := 0) zk_172_166 rfl rfl rfl vd_35 (pc' := 169) rfl ?_
        refine T_op zk_172_169 rfl (X_si (v := 568) (by decide)) (pc' := 172) rfl ?_
        refine T_ld zk_172_172 rfl rfl rfl (pc' := 173) rfl ?_
        refine T_op zk_172_173 rfl X_add (pc' := 174) rfl ?_
        refine G_iald (lo := 0) (hi := 24) (ln := 646) zk_172_174 rfl rfl (vd_36 (by omega)) (by omega) (by omega) (by omega) (fun σ' h => h.1.1) (fun _ h => h.2.2.2.1 (by omega) (by omega)) (pc' := 175) rfl (fun y15 hy15 hy15' => ?_)
        refine T_st (L' := [(0, av 35 0 0), (1, iv p0), (2, iv y1), (3, iv x9), (4, iv y15)]) zk_172_175 (nL := 7) rfl rfl rfl rfl rfl (pc' := 177) rfl ?_
        refine T_op zk_172_177 rfl X_ic (pc' := 178) rfl ?_
        refine T_st (L' := [(0, av 35 0 0), (1, iv p0), (2, iv y1), (3, iv x9), (4, iv y15), (5, iv 0)]) zk_172_178 (nL := 7) rfl rfl rfl rfl rfl (pc' := 180) rfl ?_
        refine G_know (J' := (fun σ' => IF (MT 52 53 53 53) σ σ' ∧ True)) (fun σ' h => ⟨h.1, trivial⟩) ?_
        refine T_loop1 (fun x16 => ((4 - x16 : Int)).toNat) (fun x16 => (0 ≤ x16 ∧ x16 ≤ 4)) (fun x16 => TJ xs (fun σ' => IF (MT 52 53 53 53) σ σ' ∧ True) 3 172 180 [(0, av 35 0 0), (1, iv p0), (2, iv y1), (3, iv x9), (4, iv y15), (5, iv x16)] [] _) ?_ 0 (by omega)
        intro x16 hp18 ih17
        refine T_ld zk_172_180 rfl rfl rfl (pc' := 182) rfl ?_
        refine T_op zk_172_182 rfl X_ic (pc' := 183) rfl ?_
        refine T_icmp_ge zk_172_183 (by omega) (by omega) (pc' := 186) rfl (fun h19 => ?_) (fun h20 => ?_)
        ·
          refine T_op zk_172_245 rfl X_ic (pc' := 246) rfl ?_
          exact T_iret zk_172_246 rfl (fun σ' h => ⟨_, rfl, (by omega), h.1, trivial⟩)
        ·
          refine T_ld zk_172_186 rfl rfl rfl (pc' := 187) rfl ?_
          refine T_getR (t' := 52) (i' := 0) (k' := 0) zk_172_187 rfl rfl rfl vd_35 (pc' := 190) rfl ?_
          refine T_ld zk_172_190 rfl rfl rfl (pc' := 192) rfl ?_
          refine G_learn (t := 52) (i := 0) (k := 0) (j := Int.toNat y15) (lo := -2147483648) (hi := 2147483647) (J2 := fun y21 => (fun σ' => IF (MT 52 53 53 53) σ σ' ∧ σ' 52 0 0 (Int.toNat y15) = y21 ∧ True)) vd_52 (fun σ' h => h.1.1) (fun _ h => (by have q := h.1; omega)) (fun σ' y h hy => ⟨h.1, hy, trivial⟩) (fun y21 hy21 hy21' => ?_)
          refine G_ialdX (w := y21) (ln := 25) zk_172_192 rfl rfl vd_52 (by omega) (by omega) (by omega) (fun σ' h => h.2.1) (pc' := 193) rfl ?_
          refine T_if_le zk_172_193 (by omega) (pc' := 196) rfl (fun h22 => ?_) (fun h23 => ?_)
          ·
            refine T_op zk_172_245 rfl X_ic (pc' := 246) rfl ?_
            exact T_iret zk_172_246 rfl (fun σ' h => ⟨_, rfl, (by omega), h.1, trivial⟩)
          ·
            refine T_ld zk_172_196 rfl rfl rfl (pc' := 198) rfl ?_
            refine T_ld zk_172_198 rfl rfl rfl (pc' := 200) rfl ?_
            refine T_calli (K := fun y24 σ' => (-5 ≤ y24 ∧ y24 ≤ 29) ∧ (fun σ' => IF (MT 52 53 53 53) σ σ' ∧ σ' 52 0 0 (Int.toNat y15) = y21 ∧ True) σ') (r := []) zk_172_200 rfl rfl rfl rfl rfl rfl (Or.inl (Or.inl rfl)) (fun σ' h => (m_171 y15 x16 (by omega) (by omega) σ' h.1.1 ).le (Nat.le_of_ble_eq_true rfl) (fun v σ2 ⟨y, h1, h2, h3, h4⟩ => ⟨y, h1, h2, h.1.tr h3 MN_sub, (h3.2 _ _ _ _ (fun q => q)).trans (h.2.1), trivial⟩)) (pc' := 203) rfl (fun y24 => ?_)
            refine G_ex (fun hy24 => ?_)
            refine T_st (L' := [(0, av 35 0 0), (1, iv p0), (2, iv y1), (3, iv x9), (4, iv y15), (5, iv x16), (6, iv y24)]) zk_172_203 (nL := 7) rfl rfl rfl rfl rfl (pc' := 205) rfl ?_
            refine T_ld zk_172_205 rfl rfl rfl (pc' := 206) rfl ?_
            refine T_ld zk_172_206 rfl rfl rfl (pc' := 207) rfl ?_
            refine T_ld zk_172_207 rfl rfl rfl (pc' := 209) rfl ?_
            refine T_ld zk_172_209 rfl rfl rfl (pc' := 211) rfl ?_
            refine T_calli (K := fun y25 σ' => (y25 = 0 ∨ (y25 = 1 ∧ 0 ≤ y24 ∧ y24 ≤ 24)) ∧ (fun σ' => IF (MT 52 53 53 53) σ σ' ∧ σ' 52 0 0 (Int.toNat y15) = y21 ∧ True) σ') (r := []) zk_172_211 rfl rfl rfl rfl rfl rfl (Or.inr ⟨_, _, _, _, rfl, vd_35, rfl⟩) (fun σ' h => (m_170 p0 y15 y24 (by omega) (by omega) (by omega) σ' h.1.1 ).le (Nat.le_of_ble_eq_true rfl) (fun v σ2 ⟨y, h1, h2, h3, h4⟩ => ⟨y, h1, h2, h.1.tr h3 MN_sub, (h3.2 _ _ _ _ (fun q => q)).trans (h.2.1), trivial⟩)) (pc' := 214) rfl (fun y25 => ?_)
            refine G_ex (fun hy25 => ?_)
            refine T_if_eq zk_172_214 (by omega) (pc' := 217) rfl (fun h26 => ?_) (fun h27 => ?_)
            ·
              refine T_iinc (L' := [(0, av 35 0 0), (1, iv p0), (2, iv y1), (3, iv x9), (4, iv y15), (5, iv (x16 + 1)), (6, iv y24)]) zk_172_239 (nL := 7) rfl rfl rfl rfl (pc' := 242) rfl ?_
              refine T_goto zk_172_242 ?_
              refine G_know (J' := (fun σ' => IF (MT 52 53 53 53) σ σ' ∧ True)) (fun σ' h => ⟨h.1, trivial⟩) ?_
              refine T_loc (L := [(0, av 35 0 0), (1, iv p0), (2, iv y1), (3, iv x9), (4, iv y15), (5, iv (x16 + 1))]) (E := [(6, iv y24)]) rfl ?_
              exact ih17 (x16 + 1) (by omega) (by omega)
            ·
              refine T_ld zk_172_217 rfl rfl rfl (pc' := 218) rfl ?_
              refine T_getR (t' := 52) (i' := 0) (k' := 0) zk_172_218 rfl rfl rfl vd_35 (pc' := 221) rfl ?_
              refine T_ld zk_172_221 rfl rfl rfl (pc' := 223) rfl ?_
              refine G_learn (t := 52) (i := 0) (k := 0) (j := Int.toNat y24) (lo := -2147483648) (hi := 2147483647) (J2 := fun y28 => (fun σ' => IF (MT 52 53 53 53) σ σ' ∧ σ' 52 0 0 (Int.toNat y15) = y21 ∧ σ' 52 0 0 (Int.toNat y24) = y28 ∧ True)) vd_52 (fun σ' h => h.1.1) (fun _ h => (by have q := h.1; omega)) (fun σ' y h hy => ⟨h.1, h.2.1, hy, trivial⟩) (fun y28 hy28 hy28' => ?_)
              refine G_ialdX (w := y28) (ln := 25) zk_172_223 rfl rfl vd_52 (by omega) (by omega) (by omega) (fun σ' h => h.2.2.1) (pc' := 224) rfl ?_
              refine T_ld zk_172_224 rfl rfl rfl (pc' := 225) rfl ?_
              refine T_getR (t' := 52) (i' := 0) (k' := 0) zk_172_225 rfl rfl rfl vd_35 (pc' := 228) rfl ?_
              refine T_ld zk_172_228 rfl rfl rfl (pc' := 230) rfl ?_
              refine G_ialdX (w := y21) (ln := 25) zk_172_230 rfl rfl vd_52 (by omega) (by omega) (by omega) (fun σ' h => h.2.1) (pc' := 231) rfl ?_
              refine T_op zk_172_231 rfl X_ic (pc' := 232) rfl ?_
              refine T_op zk_172_232 rfl X_sub (pc' := 233) rfl ?_
              refine T_icmp_ne zk_172_233 (by omega) (by omega) (pc' := 236) rfl (fun h29 => ?_) (fun h30 => ?_)
              ·
                refine T_iinc (L' := [(0, av 35 0 0), (1, iv p0), (2, iv y1), (3, iv x9), (4, iv y15), (5, iv (x16 + 1)), (6, iv y24)]) zk_172_239 (nL := 7) rfl rfl rfl rfl (pc' := 242) rfl ?_
                refine T_goto zk_172_242 ?_
                refine G_know (J' := (fun σ' => IF (MT 52 53 53 53) σ σ' ∧ True)) (fun σ' h => ⟨h.1, trivial⟩) ?_
                refine T_loc (L := [(0, av 35 0 0), (1, iv p0), (2, iv y1), (3, iv x9), (4, iv y15), (5, iv (x16 + 1))]) (E := [(6, iv y24)]) rfl ?_
                exact ih17 (x16 + 1) (by omega) (by omega)
              ·
                refine T_ld zk_172_236 rfl rfl rfl (pc' := 238) rfl ?_
                exact T_iret zk_172_238 rfl (fun σ' h => ⟨_, rfl, (by omega), h.1, trivial⟩)
      ·
        refine T_op zk_172_67 rfl X_ic (pc' := 68) rfl ?_
        refine T_st (L' := [(0, av 35 0 0), (1, iv p0), (2, iv y1), (3, iv x9), (4, iv x10), (5, iv 0)]) zk_172_68 (nL := 7) rfl rfl rfl rfl rfl (pc' := 70) rfl ?_
        refine T_loop2 (fun x31 x32 => ((4 - x32 : Int)).toNat) (fun x31 x32 => (1 ≤ x31 ∧ x31 ≤ 25) ∧ (0 ≤ x32 ∧ x32 ≤ 4) ∧ x10 < x31) (fun x31 x32 => TJ xs (fun σ' => IF (MT 52 53 53 53) σ σ' ∧ csum bV (σ' 52 0 0) 25 = x31 ∧ bnd (σ' 52 0 0) 25 (-1) x31 ∧ True) 3 172 70 [(0, av 35 0 0), (1, iv p0), (2, iv y1), (3, iv x31), (4, iv x10), (5, iv x32)] [] _) ?_ x9 0 (by omega)
        intro x31 x32 hp34 ih33
        refine T_ld zk_172_70 rfl rfl rfl (pc' := 72) rfl ?_
        refine T_op zk_172_72 rfl X_ic (pc' := 73) rfl ?_
        refine T_icmp_ge zk_172_73 (by omega) (by omega) (pc' := 76) rfl (fun h35 => ?_) (fun h36 => ?_)
        ·
          refine T_iinc (L' := [(0, av 35 0 0), (1, iv p0), (2, iv y1), (3, iv x31), (4, iv (x10 + 1)), (5, iv x32)]) zk_172_159 (nL := 7) rfl rfl rfl rfl (pc' := 162) rfl ?_
          refine T_goto zk_172_162 ?_
          refine T_loc (L := [(0, av 35 0 0), (1, iv p0), (2, iv y1), (3, iv x31), (4, iv (x10 + 1))]) (E := [(5, iv x32)]) rfl ?_
          exact ih11 x31 (x10 + 1) (by omega) (by omega)
        ·
          refine T_ld zk_172_76 rfl rfl rfl (pc' := 77) rfl ?_
          refine T_getR (t' := 53) (i' := 0) (k' := 0) zk_172_77 rfl rfl rfl vd_35 (pc' := 80) rfl ?_
          refine T_ld zk_172_80 rfl rfl rfl (pc' := 82) rfl ?_
          refine G_iald (lo := 0) (hi := 24) (ln := 25) zk_172_82 rfl rfl vd_53 (by omega) (by omega) (by omega) (fun σ' h => h.1.1) (fun _ h => h.2 (by omega) (by omega)) (pc' := 83) rfl (fun y37 hy37 hy37' => ?_)
          refine T_ld zk_172_83 rfl rfl rfl (pc' := 85) rfl ?_
          refine T_calli (K := fun y38 σ' => (-5 ≤ y38 ∧ y38 ≤ 29) ∧ (fun σ' => IF (MT 52 53 53 53) σ σ' ∧ csum bV (σ' 52 0 0) 25 = x31 ∧ bnd (σ' 52 0 0) 25 (-1) x31 ∧ True) σ') (r := []) zk_172_85 rfl rfl rfl rfl rfl rfl (Or.inl (Or.inl rfl)) (fun σ' h => (m_171 y37 x32 (by omega) (by omega) σ' h.1.1 ).le (Nat.le_of_ble_eq_true rfl) (fun v σ2 ⟨y, h1, h2, h3, h4⟩ => ⟨y, h1, h2, h.1.tr h3 MN_sub, gf_mk (fun z => csum bV z 25 = x31) (funext fun j => h3.2 _ _ _ _ (fun q => q)) (h.2.1), gf_mk (fun z => bnd z 25 (-1) x31) (funext fun j => h3.2 _ _ _ _ (fun q => q)) (h.2.2.1), trivial⟩)) (pc' := 88) rfl (fun y38 => ?_)
          refine G_ex (fun hy38 => ?_)
          refine T_st (L' := [(0, av 35 0 0), (1, iv p0), (2, iv y1), (3, iv x31), (4, iv x10), (5, iv x32), (6, iv y38)]) zk_172_88 (nL := 7) rfl rfl rfl rfl rfl (pc' := 90) rfl ?_
          refine T_ld zk_172_90 rfl rfl rfl (pc' := 91) rfl ?_
          refine T_ld zk_172_91 rfl rfl rfl (pc' := 92) rfl ?_
          refine T_ld zk_172_92 rfl rfl rfl (pc' := 93) rfl ?_
          refine T_getR (t' := 53) (i' := 0) (k' := 0) zk_172_93 rfl rfl rfl vd_35 (pc' := 96) rfl ?_
          refine T_ld zk_172_96 rfl rfl rfl (pc' := 98) rfl ?_
          refine G_iald (lo := 0) (hi := 24) (ln := 25) zk_172_98 rfl rfl vd_53 (by omega) (by omega) (by omega) (fun σ' h => h.1.1) (fun _ h => h.2 (by omega) (by omega)) (pc' := 99) rfl (fun y39 hy39 hy39' => ?_)
          refine T_ld zk_172_99 rfl rfl rfl (pc' := 101) rfl ?_
          refine T_calli (K := fun y40 σ' => (y40 = 0 ∨ (y40 = 1 ∧ 0 ≤ y38 ∧ y38 ≤ 24)) ∧ (fun σ' => IF (MT 52 53 53 53) σ σ' ∧ csum bV (σ' 52 0 0) 25 = x31 ∧ bnd (σ' 52 0 0) 25 (-1) x31 ∧ True) σ') (r := []) zk_172_101 rfl rfl rfl rfl rfl rfl (Or.inr ⟨_, _, _, _, rfl, vd_35, rfl⟩) (fun σ' h => (m_170 p0 y39 y38 (by omega) (by omega) (by omega) σ' h.1.1 ).le (Nat.le_of_ble_eq_true rfl) (fun v σ2 ⟨y, h1, h2, h3, h4⟩ => ⟨y, h1, h2, h.1.tr h3 MN_sub, gf_mk (fun z => csum bV z 25 = x31) (funext fun j => h3.2 _ _ _ _ (fun q => q)) (h.2.1), gf_mk (fun z => bnd z 25 (-1) x31) (funext fun j => h3.2 _ _ _ _ (fun q => q)) (h.2.2.1), trivial⟩)) (pc' := 104) rfl (fun y40 => ?_)
          refine G_ex (fun hy40 => ?_)
          refine T_if_eq zk_172_104 (by omega) (pc' := 107) rfl (fun h41 => ?_) (fun h42 => ?_)
          ·
            refine T_iinc (L' := [(0, av 35 0 0), (1, iv p0), (2, iv y1), (3, iv x31), (4, iv x10), (5, iv (x32 + 1)), (6, iv y38)]) zk_172_153 (nL := 7) rfl rfl rfl rfl (pc' := 156) rfl ?_
            refine T_goto zk_172_156 ?_
            refine T_loc (L := [(0, av 35 0 0), (1, iv p0), (2, iv y1), (3, iv x31), (4, iv x10), (5, iv (x32 + 1))]) (E := [(6, iv y38)]) rfl ?_
            exact ih33 x31 (x32 + 1) (by omega) (by omega)
          ·
            refine T_ld zk_172_107 rfl rfl rfl (pc' := 108) rfl ?_
            refine T_getR (t' := 52) (i' := 0) (k' := 0) zk_172_108 rfl rfl rfl vd_35 (pc' := 111) rfl ?_
            refine T_ld zk_172_111 rfl rfl rfl (pc' := 113) rfl ?_
            refine G_learnG (G := fun z => ((-1) ≤ z ∧ z ≤ x31)) (t := 52) (i := 0) (k := 0) (j := Int.toNat y38) (lo := -2147483648) (hi := 2147483647) (J2 := fun y43 => (fun σ' => IF (MT 52 53 53 53) σ σ' ∧ csum bV (σ' 52 0 0) 25 = x31 ∧ bnd (σ' 52 0 0) 25 (-1) x31 ∧ σ' 52 0 0 (Int.toNat y38) = y43 ∧ True)) vd_52 (fun σ' h => h.1.1) (fun _ h => (by have q := h.1; omega)) (fun σ' h => h.2.2.1 _ (by omega)) (fun σ' y h hy => ⟨h.1, h.2.1, h.2.2.1, hy, trivial⟩) (fun y43 hy43 hy43' gy43 => ?_)
            refine G_ialdX (w := y43) (ln := 25) zk_172_113 rfl rfl vd_52 (by omega) (by omega) (by omega) (fun σ' h => h.2.2.2.1) (pc' := 114) rfl ?_
            refine T_op zk_172_114 rfl X_ic (pc' := 115) rfl ?_
            refine T_icmp_eq zk_172_115 (by omega) (by omega) (pc' := 118) rfl (fun h44 => ?_) (fun h45 => ?_)
            ·
              refine G_pure (P := x31 ≤ 24) (fun σ' h => cV_room (h.2.1) (h.2.2.2.1) (by omega) (by omega)) (fun hr46 => ?_)
              refine T_ld zk_172_121 rfl rfl rfl (pc' := 122) rfl ?_
              refine T_getR (t' := 52) (i' := 0) (k' := 0) zk_172_122 rfl rfl rfl vd_35 (pc' := 125) rfl ?_
              refine T_ld zk_172_125 rfl rfl rfl (pc' := 127) rfl ?_
              refine T_ld zk_172_127 rfl rfl rfl (pc' := 128) rfl ?_
              refine T_getR (t' := 52) (i' := 0) (k' := 0) zk_172_128 rfl rfl rfl vd_35 (pc' := 131) rfl ?_
              refine T_ld zk_172_131 rfl rfl rfl (pc' := 132) rfl ?_
              refine T_getR (t' := 53) (i' := 0) (k' := 0) zk_172_132 rfl rfl rfl vd_35 (pc' := 135) rfl ?_
              refine T_ld zk_172_135 rfl rfl rfl (pc' := 137) rfl ?_
              refine G_iald (lo := 0) (hi := 24) (ln := 25) zk_172_137 rfl rfl vd_53 (by omega) (by omega) (by omega) (fun σ' h => h.1.1) (fun _ h => h.2 (by omega) (by omega)) (pc' := 138) rfl (fun y47 hy47 hy47' => ?_)
              refine G_learnG (G := fun z => ((-1) ≤ z ∧ z ≤ x31)) (t := 52) (i := 0) (k := 0) (j := Int.toNat y47) (lo := -2147483648) (hi := 2147483647) (J2 := fun y48 => (fun σ' => IF (MT 52 53 53 53) σ σ' ∧ csum bV (σ' 52 0 0) 25 = x31 ∧ bnd (σ' 52 0 0) 25 (-1) x31 ∧ σ' 52 0 0 (Int.toNat y38) = y43 ∧ σ' 52 0 0 (Int.toNat y47) = y48 ∧ True)) vd_52 (fun σ' h => h.1.1) (fun _ h => (by have q := h.1; omega)) (fun σ' h => h.2.2.1 _ (by omega)) (fun σ' y h hy => ⟨h.1, h.2.1, h.2.2.1, h.2.2.2.1, hy, trivial⟩) (fun y48 hy48 hy48' gy48 => ?_)
              refine G_ialdX (w := y48) (ln := 25) zk_172_138 rfl rfl vd_52 (by omega) (by omega) (by omega) (fun σ' h => h.2.2.2.2.1) (pc' := 139) rfl ?_
              refine T_op zk_172_139 rfl X_ic (pc' := 140) rfl ?_
              refine T_op zk_172_140 rfl X_add (pc' := 141) rfl ?_
              refine G_iast (J' := (fun σ' => IF (MT 52 53 53 53) σ σ' ∧ csum bV (σ' 52 0 0) 25 = x31 + 1 ∧ bnd (σ' 52 0 0) 25 (-1) (x31 + 1) ∧ True)) (ln := 25) zk_172_141 rfl rfl vd_52 (by omega) (by omega) (by omega) (fun σ' h => ⟨h.1.up ⟨by omega, trivial⟩ (by first | exact pMT rfl | (unfold MT; omega)), cV_push (h.2.1) (h.2.2.2.1) (by omega) (by omega) (by omega), bnd_put (h.2.2.1) (by omega) (by omega), trivial⟩) (pc' := 142) rfl ?_
              refine T_ld zk_172_142 rfl rfl rfl (pc' := 143) rfl ?_
              refine T_getR (t' := 53) (i' := 0) (k' := 0) zk_172_143 rfl rfl rfl vd_35 (pc' := 146) rfl ?_
              refine T_ld zk_172_146 rfl rfl rfl (pc' := 147) rfl ?_
              refine T_iinc (L' := [(0, av 35 0 0), (1, iv p0), (2, iv y1), (3, iv (x31 + 1)), (4, iv x10), (5, iv x32), (6, iv y38)]) zk_172_147 (nL := 7) rfl rfl rfl rfl (pc' := 150) rfl ?_
              refine T_ld zk_172_150 rfl rfl rfl (pc' := 152) rfl ?_
              refine G_iast (J' := (fun σ' => IF (MT 52 53 53 53) σ σ' ∧ csum bV (σ' 52 0 0) 25 = x31 + 1 ∧ bnd (σ' 52 0 0) 25 (-1) (x31 + 1) ∧ True)) (ln := 25) zk_172_152 rfl rfl vd_53 (by omega) (by omega) (by omega) (fun σ' h => ⟨h.1.up (by simp only [rgP] <;> omega) (by first | exact pMT rfl | (unfold MT; omega)), gf_mk (fun z => csum bV z 25 = x31 + 1) (up_row (by omega)) (h.2.1), gf_mk (fun z => bnd z 25 (-1) (x31 + 1)) (up_row (by omega)) (h.2.2.1), trivial⟩) (pc' := 153) rfl ?_
              refine T_iinc (L' := [(0, av 35 0 0), (1, iv p0), (2, iv y1), (3, iv (x31 + 1)), (4, iv x10), (5, iv (x32 + 1)), (6, iv y38)]) zk_172_153 (nL := 7) rfl rfl rfl rfl (pc' := 156) rfl ?_
              refine T_goto zk_172_156 ?_
              refine G_know (J' := (fun σ' => IF (MT 52 53 53 53) σ σ' ∧ csum bV (σ' 52 0 0) 25 = (x31 + 1) ∧ bnd (σ' 52 0 0) 25 (-1) (x31 + 1) ∧ True)) (fun σ' h => ⟨h.1, (csum_v (h.2.1) (by omega)), h.2.2.1, trivial⟩) ?_
              refine T_loc (L := [(0, av 35 0 0), (1, iv p0), (2, iv y1), (3, iv (x31 + 1)), (4, iv x10), (5, iv (x32 + 1))]) (E := [(6, iv y38)]) rfl ?_
              exact ih33 (x31 + 1) (x32 + 1) (by omega) (by omega)
            ·
              refine T_goto zk_172_118 ?_
              refine T_iinc (L' := [(0, av 35 0 0), (1, iv p0), (2, iv y1), (3, iv x31), (4, iv x10), (5, iv (x32 + 1)), (6, iv y38)]) zk_172_153 (nL := 7) rfl rfl rfl rfl (pc' := 156) rfl ?_
              refine T_goto zk_172_156 ?_
              refine G_know (J' := (fun σ' => IF (MT 52 53 53 53) σ σ' ∧ csum bV (σ' 52 0 0) 25 = x31 ∧ bnd (σ' 52 0 0) 25 (-1) x31 ∧ True)) (fun σ' h => ⟨h.1, h.2.1, h.2.2.1, trivial⟩) ?_
              refine T_loc (L := [(0, av 35 0 0), (1, iv p0), (2, iv y1), (3, iv x31), (4, iv x10), (5, iv (x32 + 1))]) (E := [(6, iv y38)]) rfl ?_
              exact ih33 x31 (x32 + 1) (by omega) (by omega)
    ·
      refine T_ld zk_172_26 rfl rfl rfl (pc' := 27) rfl ?_
      refine T_getR (t' := 52) (i' := 0) (k' := 0) zk_172_27 rfl rfl rfl vd_35 (pc' := 30) rfl ?_
      refine T_ld zk_172_30 rfl rfl rfl (pc' := 31) rfl ?_
      refine T_op zk_172_31 rfl X_ic (pc' := 32) rfl ?_
      refine G_iast (J' := (fun σ' => IF (MT 52 53 53 53) σ σ' ∧ csum bV (σ' 52 0 0) (Int.toNat (x4 + 1)) = 0 ∧ bnd (σ' 52 0 0) (Int.toNat (x4 + 1)) (-1) 0 ∧ True)) (ln := 25) zk_172_32 rfl rfl vd_52 (by omega) (by omega) (by omega) (fun σ' h => ⟨h.1.up ⟨by omega, trivial⟩ (by first | exact pMT rfl | (unfold MT; omega)), cV_init (h.2.1) (by omega) (by omega) (by omega), bnd_push (h.2.2.1) (by omega) (by omega) (by omega), trivial⟩) (pc' := 33) rfl ?_
      refine T_iinc (L' := [(0, av 35 0 0), (1, iv p0), (2, iv y1), (3, iv (x4 + 1))]) zk_172_33 (nL := 7) rfl rfl rfl rfl (pc' := 36) rfl ?_
      refine T_goto zk_172_36 ?_
      exact ih5 (x4 + 1) (by omega) (by omega)
  ·
    refine T_op zk_172_16 rfl X_ic (pc' := 17) rfl ?_
    exact T_iret zk_172_17 rfl (fun σ' h => ⟨_, rfl, (by omega), h.1, trivial⟩)
/-- WModel.stepOf -/
theorem m_173 {xs : Nat × (Nat → Int32)} (p0 : Int) (hp0 : -2147483648 ≤ p0 ∧ p0 ≤ 2147483647) (σ : ZS) (hI : Inv σ)   : CT xs 5 173 [av 35 0 0, iv p0] σ (fun v σ' => ∃ y, v = some (iv y) ∧ (-1 ≤ y ∧ y ≤ 24) ∧ IF (MT 52 53 53 53) σ σ' ∧ (True)) := by
  refine G_ct (J := (fun σ' => IF (MT 52 53 53 53) σ σ' ∧ True)) (L := [(0, av 35 0 0), (1, iv p0)]) (nL := 2) rfl rfl rfl ⟨IF.rf hI, trivial⟩ ?_
  refine T_ld zk_173_0 rfl rfl rfl (pc' := 1) rfl ?_
  refine T_ld zk_173_1 rfl rfl rfl (pc' := 2) rfl ?_
  refine G_learn (t := 36) (i := 0) (k := 0) (j := 642) (lo := 0) (hi := 6) (J2 := fun y1 => (fun σ' => IF (MT 52 53 53 53) σ σ' ∧ σ' 36 0 0 642 = y1 ∧ True)) (vd_36 (by omega)) (fun σ' h => h.1.1) (fun _ h => h.2.2.2.2.2.2.2.2.2.2.2.2.2 (by omega) (by omega)) (fun σ' y h hy => ⟨h.1, hy, trivial⟩) (fun y1 hy1 hy1' => ?_)
  refine T_calli (K := fun y2 σ' => ((y2 = 0 ∧ (p0 < 0 ∨ y1 ≤ p0)) ∨ (y2 = 1 ∧ 0 ≤ p0 ∧ p0 < y1)) ∧ (fun σ' => IF (MT 52 53 53 53) σ σ' ∧ σ' 36 0 0 642 = y1 ∧ True) σ') (r := []) zk_173_2 rfl rfl rfl rfl rfl rfl (Or.inr ⟨_, _, _, _, rfl, vd_35, rfl⟩) (fun σ' h => (m_167 p0 y1 (by omega) (by omega) σ' h.1.1 (h.2.1)).le (Nat.le_of_ble_eq_true rfl) (fun v σ2 ⟨y, h1, h2, h3, h4⟩ => ⟨y, h1, h2, h.1.tr h3 MN_sub, (h3.2 _ _ _ _ (fun q => q)).trans (h.2.1), trivial⟩)) (pc' := 5) rfl (fun y2 => ?_)
  refine G_ex (fun hy2 => ?_)
  refine T_if_eq zk_173_5 (by omega) (pc' := 8) rfl (fun h3 => ?_) (fun h4 => ?_)
  ·
    refine T_op zk_173_16 rfl X_ic (pc' := 17) rfl ?_
    exact T_iret zk_173_17 rfl (fun σ' h => ⟨_, rfl, (by omega), h.1, trivial⟩)
  ·
    refine T_ld zk_173_8 rfl rfl rfl (pc' := 9) rfl ?_
    refine T_ld zk_173_9 rfl rfl rfl (pc' := 10) rfl ?_
    refine T_calli (K := fun y5 σ' => (-1 ≤ y5 ∧ y5 ≤ 24) ∧ (fun σ' => IF (MT 52 53 53 53) σ σ' ∧ σ' 36 0 0 642 = y1 ∧ True) σ') (r := []) zk_173_10 rfl rfl rfl rfl rfl rfl (Or.inr ⟨_, _, _, _, rfl, vd_35, rfl⟩) (fun σ' h => (m_172 p0 (by omega) σ' h.1.1 ).le (Nat.le_of_ble_eq_true rfl) (fun v σ2 ⟨y, h1, h2, h3, h4⟩ => ⟨y, h1, h2, h.1.tr h3 (fun _ _ _ _ h => h), (h3.2 _ _ _ _ (by first | exact nMT rfl | (unfold MT; omega))).trans (h.2.1), trivial⟩)) (pc' := 13) rfl (fun y5 => ?_)
    refine G_ex (fun hy5 => ?_)
    refine T_goto zk_173_13 ?_
    exact T_iret zk_173_17 rfl (fun σ' h => ⟨_, rfl, (by omega), h.1, trivial⟩)
theorem sb63_759274e : ∀ t i k j, MT 52 53 53 53 t i k j → MSo t i k j := by
  intro t i k j h
  unfold MT at h
  unfold MSo
  omega
/-- WModel.sailsOn -/
theorem m_176 {xs : Nat × (Nat → Int32)} (p0 : Int) (hp0 : 0 ≤ p0 ∧ p0 ≤ 5) (σ : ZS) (hI : Inv σ)   : CT xs 5 176 [av 35 0 0, iv p0] σ (fun v σ' => v = none ∧ IF MSo σ σ' ∧ (True)) := by
  refine G_ct (J := (fun σ' => IF MSo σ σ' ∧ True)) (L := [(0, av 35 0 0), (1, iv p0)]) (nL := 7) rfl rfl rfl ⟨IF.rf hI, trivial⟩ ?_
  refine T_ld zk_176_0 rfl rfl rfl (pc' := 1) rfl ?_
  refine T_ld zk_176_1 rfl rfl rfl (pc' := 2) rfl ?_
  refine T_calli (K := fun y1 σ' => (-1 ≤ y1 ∧ y1 ≤ 24) ∧ (fun σ' => IF MSo σ σ' ∧ True) σ') (r := []) zk_176_2 rfl rfl rfl rfl rfl rfl (Or.inr ⟨_, _, _, _, rfl, vd_35, rfl⟩) (fun σ' h => (m_172 p0 (by omega) σ' h.1.1 ).le (Nat.le_of_ble_eq_true rfl) (fun v σ2 ⟨y, h1, h2, h3, h4⟩ => ⟨y, h1, h2, h.1.tr h3 sb63_759274e, trivial⟩)) (pc' := 5) rfl (fun y1 => ?_)
  refine G_ex (fun hy1 => ?_)
  refine T_st (L' := [(0, av 35 0 0), (1, iv p0), (2, iv y1)]) zk_176_5 (nL := 7) rfl rfl rfl rfl rfl (pc' := 6) rfl ?_
  refine T_ld zk_176_6 rfl rfl rfl (pc' := 7) rfl ?_
  refine T_getR (t' := 36) (i' := 0) (k' := 0) zk_176_7 rfl rfl rfl vd_35 (pc' := 10) rfl ?_
  refine T_op zk_176_10 rfl (X_si (v := 568) (by decide)) (pc' := 13) rfl ?_
  refine T_ld zk_176_13 rfl rfl rfl (pc' := 14) rfl ?_
  refine T_op zk_176_14 rfl X_add (pc' := 15) rfl ?_
  refine G_iald (lo := 0) (hi := 24) (ln := 646) zk_176_15 rfl rfl (vd_36 (by omega)) (by omega) (by omega) (by omega) (fun σ' h => h.1.1) (fun _ h => h.2.2.2.1 (by omega) (by omega)) (pc' := 16) rfl (fun y2 hy2 hy2' => ?_)
  refine T_st (L' := [(0, av 35 0 0), (1, iv p0), (2, iv y1), (3, iv y2)]) zk_176_16 (nL := 7) rfl rfl rfl rfl rfl (pc' := 17) rfl ?_
  refine T_ld zk_176_17 rfl rfl rfl (pc' := 18) rfl ?_
  refine T_op zk_176_18 rfl X_ic (pc' := 19) rfl ?_
  refine T_icmp_ne zk_176_19 (by omega) (by omega) (pc' := 22) rfl (fun h3 => ?_) (fun h4 => ?_)
  ·
    refine T_ld zk_176_26 rfl rfl rfl (pc' := 27) rfl ?_
    refine T_ld zk_176_27 rfl rfl rfl (pc' := 28) rfl ?_
    refine T_calli (K := fun y5 σ' => ((y5 = -1 ∧ ¬ (0 ≤ y2 ∧ y2 ≤ 24 ∧ 0 ≤ y1 ∧ y1 ≤ 24 ∧ (y1 = y2 + 5 ∨ y2 = y1 + 5 ∨ (y1 = y2 + 1 ∧ y2 % 5 < 4) ∨ (y2 = y1 + 1 ∧ y1 % 5 < 4)))) ∨ (0 ≤ y5 ∧ y5 ≤ 49 ∧ (0 ≤ y2 ∧ y2 ≤ 24 ∧ 0 ≤ y1 ∧ y1 ≤ 24 ∧ (y1 = y2 + 5 ∨ y2 = y1 + 5 ∨ (y1 = y2 + 1 ∧ y2 % 5 < 4) ∨ (y2 = y1 + 1 ∧ y1 % 5 < 4))))) ∧ (fun σ' => IF MSo σ σ' ∧ True) σ') (r := []) zk_176_28 rfl rfl rfl rfl rfl rfl (Or.inl (Or.inl rfl)) (fun σ' h => (m_126 y2 y1 (by omega) (by omega) σ' h.1.1 ).le (Nat.le_of_ble_eq_true rfl) (fun v σ2 ⟨y, h1, h2, h3, h4⟩ => ⟨y, h1, h2, h.1.tr h3 MN_sub, trivial⟩)) (pc' := 31) rfl (fun y5 => ?_)
    refine G_ex (fun hy5 => ?_)
    refine T_st (L' := [(0, av 35 0 0), (1, iv p0), (2, iv y1), (3, iv y2), (4, iv y5)]) zk_176_31 (nL := 7) rfl rfl rfl rfl rfl (pc' := 33) rfl ?_
    refine T_ld zk_176_33 rfl rfl rfl (pc' := 35) rfl ?_
    refine T_op zk_176_35 rfl X_ic (pc' := 36) rfl ?_
    refine T_icmp_eq zk_176_36 (by omega) (by omega) (pc' := 39) rfl (fun h6 => ?_) (fun h7 => ?_)
    ·
      refine T_ld zk_176_65 rfl rfl rfl (pc' := 66) rfl ?_
      refine T_getR (t' := 36) (i' := 0) (k' := 0) zk_176_66 rfl rfl rfl vd_35 (pc' := 69) rfl ?_
      refine T_op zk_176_69 rfl (X_si (v := 604) (by decide)) (pc' := 72) rfl ?_
      refine T_ld zk_176_72 rfl rfl rfl (pc' := 73) rfl ?_
      refine T_op zk_176_73 rfl X_add (pc' := 74) rfl ?_
      refine T_op (st' := [iv (604 + p0), av 36 0 0, iv (604 + p0), av 36 0 0]) zk_176_74 rfl rfl (pc' := 75) rfl ?_
      refine G_iald (lo := -2147483648) (hi := 2147483647) (ln := 646) zk_176_75 rfl rfl (vd_36 (by omega)) (by omega) (by omega) (by omega) (fun σ' h => h.1.1) (fun _ h => (by have q := h.1; omega)) (pc' := 76) rfl (fun y8 hy8 hy8' => ?_)
      refine T_op zk_176_76 rfl X_ic (pc' := 77) rfl ?_
      refine G_unk zk_176_77 rfl (pc' := 78) rfl (fun y9 hy9 hy9' => ?_)
      refine G_iast (J' := (fun σ' => IF MSo σ σ' ∧ True)) (ln := 646) zk_176_78 rfl rfl (vd_36 (by omega)) (by omega) (by omega) (by omega) (fun σ' h => ⟨h.1.up (by simp only [rgP] <;> omega) (by first | exact pMSo rfl | (unfold MSo; omega)), trivial⟩) (pc' := 79) rfl ?_
      refine T_ld zk_176_79 rfl rfl rfl (pc' := 80) rfl ?_
      refine T_op (st' := [av 35 0 0, av 35 0 0]) zk_176_80 rfl rfl (pc' := 81) rfl ?_
      refine G_getf (lo := -2147483648) (hi := 2147483647) zk_176_81 rfl vd_35 (fun σ' h => h.1.1) (fun _ h => (by have q := h.1; omega)) (pc' := 84) rfl (fun y10 hy10 hy10' => ?_)
      refine T_op zk_176_84 rfl X_ic (pc' := 85) rfl ?_
      refine G_unk zk_176_85 rfl (pc' := 86) rfl (fun y11 hy11 hy11' => ?_)
      refine T_putf (J' := (fun σ' => IF MSo σ σ' ∧ σ' 35 0 0 31 = y11 ∧ True)) zk_176_86 rfl rfl vd_35 (fun σ' h => ⟨h.1.up (by simp only [rgP] <;> omega) (by first | exact pMSo rfl | (unfold MSo; omega)), up_eq, trivial⟩) (pc' := 89) rfl ?_
      exact T_vret zk_176_89 rfl (fun σ' h => ⟨rfl, h.1, trivial⟩)
    ·
      refine T_ld zk_176_39 rfl rfl rfl (pc' := 40) rfl ?_
      refine T_getR (t' := 36) (i' := 0) (k' := 0) zk_176_40 rfl rfl rfl vd_35 (pc' := 43) rfl ?_
      refine T_op zk_176_43 rfl (X_si (v := 150) (by decide)) (pc' := 46) rfl ?_
      refine T_ld zk_176_46 rfl rfl rfl (pc' := 48) rfl ?_
      refine T_op zk_176_48 rfl X_add (pc' := 49) rfl ?_
      refine G_iald (lo := -2147483648) (hi := 2147483647) (ln := 646) zk_176_49 rfl rfl (vd_36 (by omega)) (by omega) (by omega) (by omega) (fun σ' h => h.1.1) (fun _ h => (by have q := h.1; omega)) (pc' := 50) rfl (fun y12 hy12 hy12' => ?_)
      refine T_op zk_176_50 rfl X_ic (pc' := 51) rfl ?_
      refine T_icmp_ne zk_176_51 (by omega) (by omega) (pc' := 54) rfl (fun h13 => ?_) (fun h14 => ?_)
      ·
        refine T_ld zk_176_90 rfl rfl rfl (pc' := 91) rfl ?_
        refine T_getR (t' := 55) (i' := 0) (k' := 0) zk_176_91 rfl rfl rfl vd_35 (pc' := 94) rfl ?_
        refine T_ld zk_176_94 rfl rfl rfl (pc' := 96) rfl ?_
        refine T_op zk_176_96 rfl X_ic (pc' := 97) rfl ?_
        refine G_iast (J' := (fun σ' => IF MSo σ σ' ∧ True)) (ln := 50) zk_176_97 rfl rfl vd_55 (by omega) (by omega) (by omega) (fun σ' h => ⟨h.1.up ⟨by omega, trivial⟩ (by first | exact pMSo rfl | (unfold MSo; omega)), trivial⟩) (pc' := 98) rfl ?_
        refine T_ld zk_176_98 rfl rfl rfl (pc' := 99) rfl ?_
        refine T_getR (t' := 36) (i' := 0) (k' := 0) zk_176_99 rfl rfl rfl vd_35 (pc' := 102) rfl ?_
        refine T_op zk_176_102 rfl (X_si (v := 568) (by decide)) (pc' := 105) rfl ?_
        refine T_ld zk_176_105 rfl rfl rfl (pc' := 106) rfl ?_
        refine T_op zk_176_106 rfl X_add (pc' := 107) rfl ?_
        refine T_ld zk_176_107 rfl rfl rfl (pc' := 108) rfl ?_
        refine G_iast (J' := (fun σ' => IF MSo σ σ' ∧ True)) (ln := 646) zk_176_108 rfl rfl (vd_36 (by omega)) (by omega) (by omega) (by omega) (fun σ' h => ⟨h.1.up (by simp only [rgP] <;> omega) (by first | exact pMSo rfl | (unfold MSo; omega)), trivial⟩) (pc' := 109) rfl ?_
        refine T_ld zk_176_109 rfl rfl rfl (pc' := 110) rfl ?_
        refine T_getR (t' := 36) (i' := 0) (k' := 0) zk_176_110 rfl rfl rfl vd_35 (pc' := 113) rfl ?_
        refine T_op zk_176_113 rfl (X_si (v := 622) (by decide)) (pc' := 116) rfl ?_
        refine T_ld zk_176_116 rfl rfl rfl (pc' := 117) rfl ?_
        refine T_op zk_176_117 rfl X_add (pc' := 118) rfl ?_
        refine T_op (st' := [iv (622 + p0), av 36 0 0, iv (622 + p0), av 36 0 0]) zk_176_118 rfl rfl (pc' := 119) rfl ?_
        refine G_iald (lo := -2147483648) (hi := 2147483647) (ln := 646) zk_176_119 rfl rfl (vd_36 (by omega)) (by omega) (by omega) (by omega) (fun σ' h => h.1.1) (fun _ h => (by have q := h.1; omega)) (pc' := 120) rfl (fun y15 hy15 hy15' => ?_)
        refine T_op zk_176_120 rfl X_ic (pc' := 121) rfl ?_
        refine G_unk zk_176_121 rfl (pc' := 122) rfl (fun y16 hy16 hy16' => ?_)
        refine G_iast (J' := (fun σ' => IF MSo σ σ' ∧ True)) (ln := 646) zk_176_122 rfl rfl (vd_36 (by omega)) (by omega) (by omega) (by omega) (fun σ' h => ⟨h.1.up (by simp only [rgP] <;> omega) (by first | exact pMSo rfl | (unfold MSo; omega)), trivial⟩) (pc' := 123) rfl ?_
        refine T_ld zk_176_123 rfl rfl rfl (pc' := 124) rfl ?_
        refine T_getR (t' := 36) (i' := 0) (k' := 0) zk_176_124 rfl rfl rfl vd_35 (pc' := 127) rfl ?_
        refine T_op zk_176_127 rfl (X_si (v := 586) (by decide)) (pc' := 130) rfl ?_
        refine T_ld zk_176_130 rfl rfl rfl (pc' := 131) rfl ?_
        refine T_op zk_176_131 rfl X_add (pc' := 132) rfl ?_
        refine G_iald (lo := -2147483648) (hi := 2147483647) (ln := 646) zk_176_132 rfl rfl (vd_36 (by omega)) (by omega) (by omega) (by omega) (fun σ' h => h.1.1) (fun _ h => (by have q := h.1; omega)) (pc' := 133) rfl (fun y17 hy17 hy17' => ?_)
        refine T_ld zk_176_133 rfl rfl rfl (pc' := 134) rfl ?_
        refine T_getR (t' := 36) (i' := 0) (k' := 0) zk_176_134 rfl rfl rfl vd_35 (pc' := 137) rfl ?_
        refine T_op zk_176_137 rfl (X_si (v := 638) (by decide)) (pc' := 140) rfl ?_
        refine G_iald (lo := 0) (hi := 9) (ln := 646) zk_176_140 rfl rfl (vd_36 (by omega)) (by omega) (by omega) (by omega) (fun σ' h => h.1.1) (fun _ h => h.2.2.2.2.2.2.2.2.2.1 (by omega) (by omega)) (pc' := 141) rfl (fun y18 hy18 hy18' => ?_)
        refine T_icmp_ge zk_176_141 (by omega) (by omega) (pc' := 144) rfl (fun h19 => ?_) (fun h20 => ?_)
        ·
          refine T_ld zk_176_157 rfl rfl rfl (pc' := 158) rfl ?_
          refine T_getR (t' := 36) (i' := 0) (k' := 0) zk_176_158 rfl rfl rfl vd_35 (pc' := 161) rfl ?_
          refine T_op zk_176_161 rfl (X_si (v := 638) (by decide)) (pc' := 164) rfl ?_
          refine G_iald (lo := 0) (hi := 9) (ln := 646) zk_176_164 rfl rfl (vd_36 (by omega)) (by omega) (by omega) (by omega) (fun σ' h => h.1.1) (fun _ h => h.2.2.2.2.2.2.2.2.2.1 (by omega) (by omega)) (pc' := 165) rfl (fun y21 hy21 hy21' => ?_)
          refine T_st (L' := [(0, av 35 0 0), (1, iv p0), (2, iv y1), (3, iv y2), (4, iv y5), (5, iv y21)]) zk_176_165 (nL := 7) rfl rfl rfl rfl rfl (pc' := 167) rfl ?_
          refine T_ld zk_176_167 rfl rfl rfl (pc' := 169) rfl ?_
          refine T_ld zk_176_169 rfl rfl rfl (pc' := 171) rfl ?_
          refine G_unk zk_176_171 rfl (pc' := 172) rfl (fun y22 hy22 hy22' => ?_)
          refine T_op zk_176_172 rfl X_ic (pc' := 173) rfl ?_
          refine G_unkD zk_176_173 (by first | exact Or.inl rfl | exact Or.inr rfl) (by omega) (pc' := 174) rfl (fun y23 hy23 hy23' => ?_)
          refine T_st (L' := [(0, av 35 0 0), (1, iv p0), (2, iv y1), (3, iv y2), (4, iv y5), (5, iv y21), (6, iv y23)]) zk_176_174 (nL := 7) rfl rfl rfl rfl rfl (pc' := 176) rfl ?_
          refine T_ld zk_176_176 rfl rfl rfl (pc' := 178) rfl ?_
          refine T_ld zk_176_178 rfl rfl rfl (pc' := 179) rfl ?_
          refine T_getR (t' := 36) (i' := 0) (k' := 0) zk_176_179 rfl rfl rfl vd_35 (pc' := 182) rfl ?_
          refine T_op zk_176_182 rfl (X_bi (v := 50) (by decide)) (pc' := 184) rfl ?_
          refine T_ld zk_176_184 rfl rfl rfl (pc' := 185) rfl ?_
          refine T_op zk_176_185 rfl X_add (pc' := 186) rfl ?_
          refine G_iald (lo := -2147483648) (hi := 2147483647) (ln := 646) zk_176_186 rfl rfl (vd_36 (by omega)) (by omega) (by omega) (by omega) (fun σ' h => h.1.1) (fun _ h => (by have q := h.1; omega)) (pc' := 187) rfl (fun y24 hy24 hy24' => ?_)
          refine T_icmp_le zk_176_187 (by omega) (by omega) (pc' := 190) rfl (fun h25 => ?_) (fun h26 => ?_)
          ·
            refine T_ld zk_176_201 rfl rfl rfl (pc' := 202) rfl ?_
            refine T_getR (t' := 36) (i' := 0) (k' := 0) zk_176_202 rfl rfl rfl vd_35 (pc' := 205) rfl ?_
            refine T_op zk_176_205 rfl (X_bi (v := 50) (by decide)) (pc' := 207) rfl ?_
            refine T_ld zk_176_207 rfl rfl rfl (pc' := 208) rfl ?_
            refine T_op zk_176_208 rfl X_add (pc' := 209) rfl ?_
            refine T_op (st' := [iv (50 + y1), av 36 0 0, iv (50 + y1), av 36 0 0]) zk_176_209 rfl rfl (pc' := 210) rfl ?_
            refine G_iald (lo := -2147483648) (hi := 2147483647) (ln := 646) zk_176_210 rfl rfl (vd_36 (by omega)) (by omega) (by omega) (by omega) (fun σ' h => h.1.1) (fun _ h => (by have q := h.1; omega)) (pc' := 211) rfl (fun y27 hy27 hy27' => ?_)
            refine T_ld zk_176_211 rfl rfl rfl (pc' := 213) rfl ?_
            refine G_unk zk_176_213 rfl (pc' := 214) rfl (fun y28 hy28 hy28' => ?_)
            refine G_iast (J' := (fun σ' => IF MSo σ σ' ∧ True)) (ln := 646) zk_176_214 rfl rfl (vd_36 (by omega)) (by omega) (by omega) (by omega) (fun σ' h => ⟨h.1.up (by simp only [rgP] <;> omega) (by first | exact pMSo rfl | (unfold MSo; omega)), trivial⟩) (pc' := 215) rfl ?_
            refine T_ld zk_176_215 rfl rfl rfl (pc' := 216) rfl ?_
            refine T_getR (t' := 36) (i' := 0) (k' := 0) zk_176_216 rfl rfl rfl vd_35 (pc' := 219) rfl ?_
            refine T_op zk_176_219 rfl (X_si (v := 616) (by decide)) (pc' := 222) rfl ?_
            refine T_ld zk_176_222 rfl rfl rfl (pc' := 223) rfl ?_
            refine T_op zk_176_223 rfl X_add (pc' := 224) rfl ?_
            refine T_op (st' := [iv (616 + p0), av 36 0 0, iv (616 + p0), av 36 0 0]) zk_176_224 rfl rfl (pc' := 225) rfl ?_
            refine G_iald (lo := -2147483648) (hi := 2147483647) (ln := 646) zk_176_225 rfl rfl (vd_36 (by omega)) (by omega) (by omega) (by omega) (fun σ' h => h.1.1) (fun _ h => (by have q := h.1; omega)) (pc' := 226) rfl (fun y29 hy29 hy29' => ?_)
            refine T_ld zk_176_226 rfl rfl rfl (pc' := 228) rfl ?_
            refine G_unk zk_176_228 rfl (pc' := 229) rfl (fun y30 hy30 hy30' => ?_)
            refine G_iast (J' := (fun σ' => IF MSo σ σ' ∧ True)) (ln := 646) zk_176_229 rfl rfl (vd_36 (by omega)) (by omega) (by omega) (by omega) (fun σ' h => ⟨h.1.up (by simp only [rgP] <;> omega) (by first | exact pMSo rfl | (unfold MSo; omega)), trivial⟩) (pc' := 230) rfl ?_
            refine T_ld zk_176_230 rfl rfl rfl (pc' := 231) rfl ?_
            refine T_ld zk_176_231 rfl rfl rfl (pc' := 232) rfl ?_
            refine T_getR (t' := 36) (i' := 0) (k' := 0) zk_176_232 rfl rfl rfl vd_35 (pc' := 235) rfl ?_
            refine T_op zk_176_235 rfl (X_si (v := 598) (by decide)) (pc' := 238) rfl ?_
            refine T_ld zk_176_238 rfl rfl rfl (pc' := 239) rfl ?_
            refine T_op zk_176_239 rfl X_add (pc' := 240) rfl ?_
            refine G_iald (lo := -1) (hi := 24) (ln := 646) zk_176_240 rfl rfl (vd_36 (by omega)) (by omega) (by omega) (by omega) (fun σ' h => h.1.1) (fun _ h => h.2.2.2.2.1 (by omega) (by omega)) (pc' := 241) rfl (fun y31 hy31 hy31' => ?_)
            refine T_icmp_ne zk_176_241 (by omega) (by omega) (pc' := 244) rfl (fun h32 => ?_) (fun h33 => ?_)
            ·
              exact T_vret zk_176_269 rfl (fun σ' h => ⟨rfl, h.1, trivial⟩)
            ·
              refine T_ld zk_176_244 rfl rfl rfl (pc' := 245) rfl ?_
              refine T_getR (t' := 36) (i' := 0) (k' := 0) zk_176_245 rfl rfl rfl vd_35 (pc' := 248) rfl ?_
              refine T_op zk_176_248 rfl (X_si (v := 598) (by decide)) (pc' := 251) rfl ?_
              refine T_ld zk_176_251 rfl rfl rfl (pc' := 252) rfl ?_
              refine T_op zk_176_252 rfl X_add (pc' := 253) rfl ?_
              refine T_op zk_176_253 rfl X_ic (pc' := 254) rfl ?_
              refine G_iast (J' := (fun σ' => IF MSo σ σ' ∧ True)) (ln := 646) zk_176_254 rfl rfl (vd_36 (by omega)) (by omega) (by omega) (by omega) (fun σ' h => ⟨h.1.up (by simp only [rgP] <;> omega) (by first | exact pMSo rfl | (unfold MSo; omega)), trivial⟩) (pc' := 255) rfl ?_
              refine T_ld zk_176_255 rfl rfl rfl (pc' := 256) rfl ?_
              refine T_getR (t' := 36) (i' := 0) (k' := 0) zk_176_256 rfl rfl rfl vd_35 (pc' := 259) rfl ?_
              refine T_op zk_176_259 rfl (X_si (v := 610) (by decide)) (pc' := 262) rfl ?_
              refine T_ld zk_176_262 rfl rfl rfl (pc' := 263) rfl ?_
              refine T_op zk_176_263 rfl X_add (pc' := 264) rfl ?_
              refine T_op (st' := [iv (610 + p0), av 36 0 0, iv (610 + p0), av 36 0 0]) zk_176_264 rfl rfl (pc' := 265) rfl ?_
              refine G_iald (lo := -2147483648) (hi := 2147483647) (ln := 646) zk_176_265 rfl rfl (vd_36 (by omega)) (by omega) (by omega) (by omega) (fun σ' h => h.1.1) (fun _ h => (by have q := h.1; omega)) (pc' := 266) rfl (fun y34 hy34 hy34' => ?_)
              refine T_op zk_176_266 rfl X_ic (pc' := 267) rfl ?_
              refine G_unk zk_176_267 rfl (pc' := 268) rfl (fun y35 hy35 hy35' => ?_)
              refine G_iast (J' := (fun σ' => IF MSo σ σ' ∧ True)) (ln := 646) zk_176_268 rfl rfl (vd_36 (by omega)) (by omega) (by omega) (by omega) (fun σ' h => ⟨h.1.up (by simp only [rgP] <;> omega) (by first | exact pMSo rfl | (unfold MSo; omega)), trivial⟩) (pc' := 269) rfl ?_
              exact T_vret zk_176_269 rfl (fun σ' h => ⟨rfl, h.1, trivial⟩)
          ·
            refine T_ld zk_176_190 rfl rfl rfl (pc' := 191) rfl ?_
            refine T_getR (t' := 36) (i' := 0) (k' := 0) zk_176_191 rfl rfl rfl vd_35 (pc' := 194) rfl ?_
            refine T_op zk_176_194 rfl (X_bi (v := 50) (by decide)) (pc' := 196) rfl ?_
            refine T_ld zk_176_196 rfl rfl rfl (pc' := 197) rfl ?_
            refine T_op zk_176_197 rfl X_add (pc' := 198) rfl ?_
            refine G_iald (lo := -2147483648) (hi := 2147483647) (ln := 646) zk_176_198 rfl rfl (vd_36 (by omega)) (by omega) (by omega) (by omega) (fun σ' h => h.1.1) (fun _ h => (by have q := h.1; omega)) (pc' := 199) rfl (fun y36 hy36 hy36' => ?_)
            refine T_st (L' := [(0, av 35 0 0), (1, iv p0), (2, iv y1), (3, iv y2), (4, iv y5), (5, iv y21), (6, iv y36)]) zk_176_199 (nL := 7) rfl rfl rfl rfl rfl (pc' := 201) rfl ?_
            refine T_ld zk_176_201 rfl rfl rfl (pc' := 202) rfl ?_
            refine T_getR (t' := 36) (i' := 0) (k' := 0) zk_176_202 rfl rfl rfl vd_35 (pc' := 205) rfl ?_
            refine T_op zk_176_205 rfl (X_bi (v := 50) (by decide)) (pc' := 207) rfl ?_
            refine T_ld zk_176_207 rfl rfl rfl (pc' := 208) rfl ?_
            refine T_op zk_176_208 rfl X_add (pc' := 209) rfl ?_
            refine T_op (st' := [iv (50 + y1), av 36 0 0, iv (50 + y1), av 36 0 0]) zk_176_209 rfl rfl (pc' := 210) rfl ?_
            refine G_iald (lo := -2147483648) (hi := 2147483647) (ln := 646) zk_176_210 rfl rfl (vd_36 (by omega)) (by omega) (by omega) (by omega) (fun σ' h => h.1.1) (fun _ h => (by have q := h.1; omega)) (pc' := 211) rfl (fun y37 hy37 hy37' => ?_)
            refine T_ld zk_176_211 rfl rfl rfl (pc' := 213) rfl ?_
            refine G_unk zk_176_213 rfl (pc' := 214) rfl (fun y38 hy38 hy38' => ?_)
            refine G_iast (J' := (fun σ' => IF MSo σ σ' ∧ True)) (ln := 646) zk_176_214 rfl rfl (vd_36 (by omega)) (by omega) (by omega) (by omega) (fun σ' h => ⟨h.1.up (by simp only [rgP] <;> omega) (by first | exact pMSo rfl | (unfold MSo; omega)), trivial⟩) (pc' := 215) rfl ?_
            refine T_ld zk_176_215 rfl rfl rfl (pc' := 216) rfl ?_
            refine T_getR (t' := 36) (i' := 0) (k' := 0) zk_176_216 rfl rfl rfl vd_35 (pc' := 219) rfl ?_
            refine T_op zk_176_219 rfl (X_si (v := 616) (by decide)) (pc' := 222) rfl ?_
            refine T_ld zk_176_222 rfl rfl rfl (pc' := 223) rfl ?_
            refine T_op zk_176_223 rfl X_add (pc' := 224) rfl ?_
            refine T_op (st' := [iv (616 + p0), av 36 0 0, iv (616 + p0), av 36 0 0]) zk_176_224 rfl rfl (pc' := 225) rfl ?_
            refine G_iald (lo := -2147483648) (hi := 2147483647) (ln := 646) zk_176_225 rfl rfl (vd_36 (by omega)) (by omega) (by omega) (by omega) (fun σ' h => h.1.1) (fun _ h => (by have q := h.1; omega)) (pc' := 226) rfl (fun y39 hy39 hy39' => ?_)
            refine T_ld zk_176_226 rfl rfl rfl (pc' := 228) rfl ?_
            refine G_unk zk_176_228 rfl (pc' := 229) rfl (fun y40 hy40 hy40' => ?_)
            refine G_iast (J' := (fun σ' => IF MSo σ σ' ∧ True)) (ln := 646) zk_176_229 rfl rfl (vd_36 (by omega)) (by omega) (by omega) (by omega) (fun σ' h => ⟨h.1.up (by simp only [rgP] <;> omega) (by first | exact pMSo rfl | (unfold MSo; omega)), trivial⟩) (pc' := 230) rfl ?_
            refine T_ld zk_176_230 rfl rfl rfl (pc' := 231) rfl ?_
            refine T_ld zk_176_231 rfl rfl rfl (pc' := 232) rfl ?_
            refine T_getR (t' := 36) (i' := 0) (k' := 0) zk_176_232 rfl rfl rfl vd_35 (pc' := 235) rfl ?_
            refine T_op zk_176_235 rfl (X_si (v := 598) (by decide)) (pc' := 238) rfl ?_
            refine T_ld zk_176_238 rfl rfl rfl (pc' := 239) rfl ?_
            refine T_op zk_176_239 rfl X_add (pc' := 240) rfl ?_
            refine G_iald (lo := -1) (hi := 24) (ln := 646) zk_176_240 rfl rfl (vd_36 (by omega)) (by omega) (by omega) (by omega) (fun σ' h => h.1.1) (fun _ h => h.2.2.2.2.1 (by omega) (by omega)) (pc' := 241) rfl (fun y41 hy41 hy41' => ?_)
            refine T_icmp_ne zk_176_241 (by omega) (by omega) (pc' := 244) rfl (fun h42 => ?_) (fun h43 => ?_)
            ·
              exact T_vret zk_176_269 rfl (fun σ' h => ⟨rfl, h.1, trivial⟩)
            ·
              refine T_ld zk_176_244 rfl rfl rfl (pc' := 245) rfl ?_
              refine T_getR (t' := 36) (i' := 0) (k' := 0) zk_176_245 rfl rfl rfl vd_35 (pc' := 248) rfl ?_
              refine T_op zk_176_248 rfl (X_si (v := 598) (by decide)) (pc' := 251) rfl ?_
              refine T_ld zk_176_251 rfl rfl rfl (pc' := 252) rfl ?_
              refine T_op zk_176_252 rfl X_add (pc' := 253) rfl ?_
              refine T_op zk_176_253 rfl X_ic (pc' := 254) rfl ?_
              refine G_iast (J' := (fun σ' => IF MSo σ σ' ∧ True)) (ln := 646) zk_176_254 rfl rfl (vd_36 (by omega)) (by omega) (by omega) (by omega) (fun σ' h => ⟨h.1.up (by simp only [rgP] <;> omega) (by first | exact pMSo rfl | (unfold MSo; omega)), trivial⟩) (pc' := 255) rfl ?_
              refine T_ld zk_176_255 rfl rfl rfl (pc' := 256) rfl ?_
              refine T_getR (t' := 36) (i' := 0) (k' := 0) zk_176_256 rfl rfl rfl vd_35 (pc' := 259) rfl ?_
              refine T_op zk_176_259 rfl (X_si (v := 610) (by decide)) (pc' := 262) rfl ?_
              refine T_ld zk_176_262 rfl rfl rfl (pc' := 263) rfl ?_
              refine T_op zk_176_263 rfl X_add (pc' := 264) rfl ?_
              refine T_op (st' := [iv (610 + p0), av 36 0 0, iv (610 + p0), av 36 0 0]) zk_176_264 rfl rfl (pc' := 265) rfl ?_
              refine G_iald (lo := -2147483648) (hi := 2147483647) (ln := 646) zk_176_265 rfl rfl (vd_36 (by omega)) (by omega) (by omega) (by omega) (fun σ' h => h.1.1) (fun _ h => (by have q := h.1; omega)) (pc' := 266) rfl (fun y44 hy44 hy44' => ?_)
              refine T_op zk_176_266 rfl X_ic (pc' := 267) rfl ?_
              refine G_unk zk_176_267 rfl (pc' := 268) rfl (fun y45 hy45 hy45' => ?_)
              refine G_iast (J' := (fun σ' => IF MSo σ σ' ∧ True)) (ln := 646) zk_176_268 rfl rfl (vd_36 (by omega)) (by omega) (by omega) (by omega) (fun σ' h => ⟨h.1.up (by simp only [rgP] <;> omega) (by first | exact pMSo rfl | (unfold MSo; omega)), trivial⟩) (pc' := 269) rfl ?_
              exact T_vret zk_176_269 rfl (fun σ' h => ⟨rfl, h.1, trivial⟩)
        ·
          refine T_ld zk_176_144 rfl rfl rfl (pc' := 145) rfl ?_
          refine T_getR (t' := 36) (i' := 0) (k' := 0) zk_176_145 rfl rfl rfl vd_35 (pc' := 148) rfl ?_
          refine T_op zk_176_148 rfl (X_si (v := 586) (by decide)) (pc' := 151) rfl ?_
          refine T_ld zk_176_151 rfl rfl rfl (pc' := 152) rfl ?_
          refine T_op zk_176_152 rfl X_add (pc' := 153) rfl ?_
          refine G_iald (lo := -2147483648) (hi := 2147483647) (ln := 646) zk_176_153 rfl rfl (vd_36 (by omega)) (by omega) (by omega) (by omega) (fun σ' h => h.1.1) (fun _ h => (by have q := h.1; omega)) (pc' := 154) rfl (fun y46 hy46 hy46' => ?_)
          refine T_goto zk_176_154 ?_
          refine T_st (L' := [(0, av 35 0 0), (1, iv p0), (2, iv y1), (3, iv y2), (4, iv y5), (5, iv y46)]) zk_176_165 (nL := 7) rfl rfl rfl rfl rfl (pc' := 167) rfl ?_
          refine T_ld zk_176_167 rfl rfl rfl (pc' := 169) rfl ?_
          refine T_ld zk_176_169 rfl rfl rfl (pc' := 171) rfl ?_
          refine G_unk zk_176_171 rfl (pc' := 172) rfl (fun y47 hy47 hy47' => ?_)
          refine T_op zk_176_172 rfl X_ic (pc' := 173) rfl ?_
          refine G_unkD zk_176_173 (by first | exact Or.inl rfl | exact Or.inr rfl) (by omega) (pc' := 174) rfl (fun y48 hy48 hy48' => ?_)
          refine T_st (L' := [(0, av 35 0 0), (1, iv p0), (2, iv y1), (3, iv y2), (4, iv y5), (5, iv y46), (6, iv y48)]) zk_176_174 (nL := 7) rfl rfl rfl rfl rfl (pc' := 176) rfl ?_
          refine T_ld zk_176_176 rfl rfl rfl (pc' := 178) rfl ?_
          refine T_ld zk_176_178 rfl rfl rfl (pc' := 179) rfl ?_
          refine T_getR (t' := 36) (i' := 0) (k' := 0) zk_176_179 rfl rfl rfl vd_35 (pc' := 182) rfl ?_
          refine T_op zk_176_182 rfl (X_bi (v := 50) (by decide)) (pc' := 184) rfl ?_
          refine T_ld zk_176_184 rfl rfl rfl (pc' := 185) rfl ?_
          refine T_op zk_176_185 rfl X_add (pc' := 186) rfl ?_
          refine G_iald (lo := -2147483648) (hi := 2147483647) (ln := 646) zk_176_186 rfl rfl (vd_36 (by omega)) (by omega) (by omega) (by omega) (fun σ' h => h.1.1) (fun _ h => (by have q := h.1; omega)) (pc' := 187) rfl (fun y49 hy49 hy49' => ?_)
          refine T_icmp_le zk_176_187 (by omega) (by omega) (pc' := 190) rfl (fun h50 => ?_) (fun h51 => ?_)
          ·
            refine T_ld zk_176_201 rfl rfl rfl (pc' := 202) rfl ?_
            refine T_getR (t' := 36) (i' := 0) (k' := 0) zk_176_202 rfl rfl rfl vd_35 (pc' := 205) rfl ?_
            refine T_op zk_176_205 rfl (X_bi (v := 50) (by decide)) (pc' := 207) rfl ?_
            refine T_ld zk_176_207 rfl rfl rfl (pc' := 208) rfl ?_
            refine T_op zk_176_208 rfl X_add (pc' := 209) rfl ?_
            refine T_op (st' := [iv (50 + y1), av 36 0 0, iv (50 + y1), av 36 0 0]) zk_176_209 rfl rfl (pc' := 210) rfl ?_
            refine G_iald (lo := -2147483648) (hi := 2147483647) (ln := 646) zk_176_210 rfl rfl (vd_36 (by omega)) (by omega) (by omega) (by omega) (fun σ' h => h.1.1) (fun _ h => (by have q := h.1; omega)) (pc' := 211) rfl (fun y52 hy52 hy52' => ?_)
            refine T_ld zk_176_211 rfl rfl rfl (pc' := 213) rfl ?_
            refine G_unk zk_176_213 rfl (pc' := 214) rfl (fun y53 hy53 hy53' => ?_)
            refine G_iast (J' := (fun σ' => IF MSo σ σ' ∧ True)) (ln := 646) zk_176_214 rfl rfl (vd_36 (by omega)) (by omega) (by omega) (by omega) (fun σ' h => ⟨h.1.up (by simp only [rgP] <;> omega) (by first | exact pMSo rfl | (unfold MSo; omega)), trivial⟩) (pc' := 215) rfl ?_
            refine T_ld zk_176_215 rfl rfl rfl (pc' := 216) rfl ?_
            refine T_getR (t' := 36) (i' := 0) (k' := 0) zk_176_216 rfl rfl rfl vd_35 (pc' := 219) rfl ?_
            refine T_op zk_176_219 rfl (X_si (v := 616) (by decide)) (pc' := 222) rfl ?_
            refine T_ld zk_176_222 rfl rfl rfl (pc' := 223) rfl ?_
            refine T_op zk_176_223 rfl X_add (pc' := 224) rfl ?_
            refine T_op (st' := [iv (616 + p0), av 36 0 0, iv (616 + p0), av 36 0 0]) zk_176_224 rfl rfl (pc' := 225) rfl ?_
            refine G_iald (lo := -2147483648) (hi := 2147483647) (ln := 646) zk_176_225 rfl rfl (vd_36 (by omega)) (by omega) (by omega) (by omega) (fun σ' h => h.1.1) (fun _ h => (by have q := h.1; omega)) (pc' := 226) rfl (fun y54 hy54 hy54' => ?_)
            refine T_ld zk_176_226 rfl rfl rfl (pc' := 228) rfl ?_
            refine G_unk zk_176_228 rfl (pc' := 229) rfl (fun y55 hy55 hy55' => ?_)
            refine G_iast (J' := (fun σ' => IF MSo σ σ' ∧ True)) (ln := 646) zk_176_229 rfl rfl (vd_36 (by omega)) (by omega) (by omega) (by omega) (fun σ' h => ⟨h.1.up (by simp only [rgP] <;> omega) (by first | exact pMSo rfl | (unfold MSo; omega)), trivial⟩) (pc' := 230) rfl ?_
            refine T_ld zk_176_230 rfl rfl rfl (pc' := 231) rfl ?_
            refine T_ld zk_176_231 rfl rfl rfl (pc' := 232) rfl ?_
            refine T_getR (t' := 36) (i' := 0) (k' := 0) zk_176_232 rfl rfl rfl vd_35 (pc' := 235) rfl ?_
            refine T_op zk_176_235 rfl (X_si (v := 598) (by decide)) (pc' := 238) rfl ?_
            refine T_ld zk_176_238 rfl rfl rfl (pc' := 239) rfl ?_
            refine T_op zk_176_239 rfl X_add (pc' := 240) rfl ?_
            refine G_iald (lo := -1) (hi := 24) (ln := 646) zk_176_240 rfl rfl (vd_36 (by omega)) (by omega) (by omega) (by omega) (fun σ' h => h.1.1) (fun _ h => h.2.2.2.2.1 (by omega) (by omega)) (pc' := 241) rfl (fun y56 hy56 hy56' => ?_)
            refine T_icmp_ne zk_176_241 (by omega) (by omega) (pc' := 244) rfl (fun h57 => ?_) (fun h58 => ?_)
            ·
              exact T_vret zk_176_269 rfl (fun σ' h => ⟨rfl, h.1, trivial⟩)
            ·
              refine T_ld zk_176_244 rfl rfl rfl (pc' := 245) rfl ?_
              refine T_getR (t' := 36) (i' := 0) (k' := 0) zk_176_245 rfl rfl rfl vd_35 (pc' := 248) rfl ?_
              refine T_op zk_176_248 rfl (X_si (v := 598) (by decide)) (pc' := 251) rfl ?_
              refine T_ld zk_176_251 rfl rfl rfl (pc' := 252) rfl ?_
              refine T_op zk_176_252 rfl X_add (pc' := 253) rfl ?_
              refine T_op zk_176_253 rfl X_ic (pc' := 254) rfl ?_
              refine G_iast (J' := (fun σ' => IF MSo σ σ' ∧ True)) (ln := 646) zk_176_254 rfl rfl (vd_36 (by omega)) (by omega) (by omega) (by omega) (fun σ' h => ⟨h.1.up (by simp only [rgP] <;> omega) (by first | exact pMSo rfl | (unfold MSo; omega)), trivial⟩) (pc' := 255) rfl ?_
              refine T_ld zk_176_255 rfl rfl rfl (pc' := 256) rfl ?_
              refine T_getR (t' := 36) (i' := 0) (k' := 0) zk_176_256 rfl rfl rfl vd_35 (pc' := 259) rfl ?_
              refine T_op zk_176_259 rfl (X_si (v := 610) (by decide)) (pc' := 262) rfl ?_
              refine T_ld zk_176_262 rfl rfl rfl (pc' := 263) rfl ?_
              refine T_op zk_176_263 rfl X_add (pc' := 264) rfl ?_
              refine T_op (st' := [iv (610 + p0), av 36 0 0, iv (610 + p0), av 36 0 0]) zk_176_264 rfl rfl (pc' := 265) rfl ?_
              refine G_iald (lo := -2147483648) (hi := 2147483647) (ln := 646) zk_176_265 rfl rfl (vd_36 (by omega)) (by omega) (by omega) (by omega) (fun σ' h => h.1.1) (fun _ h => (by have q := h.1; omega)) (pc' := 266) rfl (fun y59 hy59 hy59' => ?_)
              refine T_op zk_176_266 rfl X_ic (pc' := 267) rfl ?_
              refine G_unk zk_176_267 rfl (pc' := 268) rfl (fun y60 hy60 hy60' => ?_)
              refine G_iast (J' := (fun σ' => IF MSo σ σ' ∧ True)) (ln := 646) zk_176_268 rfl rfl (vd_36 (by omega)) (by omega) (by omega) (by omega) (fun σ' h => ⟨h.1.up (by simp only [rgP] <;> omega) (by first | exact pMSo rfl | (unfold MSo; omega)), trivial⟩) (pc' := 269) rfl ?_
              exact T_vret zk_176_269 rfl (fun σ' h => ⟨rfl, h.1, trivial⟩)
          ·
            refine T_ld zk_176_190 rfl rfl rfl (pc' := 191) rfl ?_
            refine T_getR (t' := 36) (i' := 0) (k' := 0) zk_176_191 rfl rfl rfl vd_35 (pc' := 194) rfl ?_
            refine T_op zk_176_194 rfl (X_bi (v := 50) (by decide)) (pc' := 196) rfl ?_
            refine T_ld zk_176_196 rfl rfl rfl (pc' := 197) rfl ?_
            refine T_op zk_176_197 rfl X_add (pc' := 198) rfl ?_
            refine G_iald (lo := -2147483648) (hi := 2147483647) (ln := 646) zk_176_198 rfl rfl (vd_36 (by omega)) (by omega) (by omega) (by omega) (fun σ' h => h.1.1) (fun _ h => (by have q := h.1; omega)) (pc' := 199) rfl (fun y61 hy61 hy61' => ?_)
            refine T_st (L' := [(0, av 35 0 0), (1, iv p0), (2, iv y1), (3, iv y2), (4, iv y5), (5, iv y46), (6, iv y61)]) zk_176_199 (nL := 7) rfl rfl rfl rfl rfl (pc' := 201) rfl ?_
            refine T_ld zk_176_201 rfl rfl rfl (pc' := 202) rfl ?_
            refine T_getR (t' := 36) (i' := 0) (k' := 0) zk_176_202 rfl rfl rfl vd_35 (pc' := 205) rfl ?_
            refine T_op zk_176_205 rfl (X_bi (v := 50) (by decide)) (pc' := 207) rfl ?_
            refine T_ld zk_176_207 rfl rfl rfl (pc' := 208) rfl ?_
            refine T_op zk_176_208 rfl X_add (pc' := 209) rfl ?_
            refine T_op (st' := [iv (50 + y1), av 36 0 0, iv (50 + y1), av 36 0 0]) zk_176_209 rfl rfl (pc' := 210) rfl ?_
            refine G_iald (lo := -2147483648) (hi := 2147483647) (ln := 646) zk_176_210 rfl rfl (vd_36 (by omega)) (by omega) (by omega) (by omega) (fun σ' h => h.1.1) (fun _ h => (by have q := h.1; omega)) (pc' := 211) rfl (fun y62 hy62 hy62' => ?_)
            refine T_ld zk_176_211 rfl rfl rfl (pc' := 213) rfl ?_
            refine G_unk zk_176_213 rfl (pc' := 214) rfl (fun y63 hy63 hy63' => ?_)
            refine G_iast (J' := (fun σ' => IF MSo σ σ' ∧ True)) (ln := 646) zk_176_214 rfl rfl (vd_36 (by omega)) (by omega) (by omega) (by omega) (fun σ' h => ⟨h.1.up (by simp only [rgP] <;> omega) (by first | exact pMSo rfl | (unfold MSo; omega)), trivial⟩) (pc' := 215) rfl ?_
            refine T_ld zk_176_215 rfl rfl rfl (pc' := 216) rfl ?_
            refine T_getR (t' := 36) (i' := 0) (k' := 0) zk_176_216 rfl rfl rfl vd_35 (pc' := 219) rfl ?_
            refine T_op zk_176_219 rfl (X_si (v := 616) (by decide)) (pc' := 222) rfl ?_
            refine T_ld zk_176_222 rfl rfl rfl (pc' := 223) rfl ?_
            refine T_op zk_176_223 rfl X_add (pc' := 224) rfl ?_
            refine T_op (st' := [iv (616 + p0), av 36 0 0, iv (616 + p0), av 36 0 0]) zk_176_224 rfl rfl (pc' := 225) rfl ?_
            refine G_iald (lo := -2147483648) (hi := 2147483647) (ln := 646) zk_176_225 rfl rfl (vd_36 (by omega)) (by omega) (by omega) (by omega) (fun σ' h => h.1.1) (fun _ h => (by have q := h.1; omega)) (pc' := 226) rfl (fun y64 hy64 hy64' => ?_)
            refine T_ld zk_176_226 rfl rfl rfl (pc' := 228) rfl ?_
            refine G_unk zk_176_228 rfl (pc' := 229) rfl (fun y65 hy65 hy65' => ?_)
            refine G_iast (J' := (fun σ' => IF MSo σ σ' ∧ True)) (ln := 646) zk_176_229 rfl rfl (vd_36 (by omega)) (by omega) (by omega) (by omega) (fun σ' h => ⟨h.1.up (by simp only [rgP] <;> omega) (by first | exact pMSo rfl | (unfold MSo; omega)), trivial⟩) (pc' := 230) rfl ?_
            refine T_ld zk_176_230 rfl rfl rfl (pc' := 231) rfl ?_
            refine T_ld zk_176_231 rfl rfl rfl (pc' := 232) rfl ?_
            refine T_getR (t' := 36) (i' := 0) (k' := 0) zk_176_232 rfl rfl rfl vd_35 (pc' := 235) rfl ?_
            refine T_op zk_176_235 rfl (X_si (v := 598) (by decide)) (pc' := 238) rfl ?_
            refine T_ld zk_176_238 rfl rfl rfl (pc' := 239) rfl ?_
            refine T_op zk_176_239 rfl X_add (pc' := 240) rfl ?_
            refine G_iald (lo := -1) (hi := 24) (ln := 646) zk_176_240 rfl rfl (vd_36 (by omega)) (by omega) (by omega) (by omega) (fun σ' h => h.1.1) (fun _ h => h.2.2.2.2.1 (by omega) (by omega)) (pc' := 241) rfl (fun y66 hy66 hy66' => ?_)
            refine T_icmp_ne zk_176_241 (by omega) (by omega) (pc' := 244) rfl (fun h67 => ?_) (fun h68 => ?_)
            ·
              exact T_vret zk_176_269 rfl (fun σ' h => ⟨rfl, h.1, trivial⟩)
            ·
              refine T_ld zk_176_244 rfl rfl rfl (pc' := 245) rfl ?_
              refine T_getR (t' := 36) (i' := 0) (k' := 0) zk_176_245 rfl rfl rfl vd_35 (pc' := 248) rfl ?_
              refine T_op zk_176_248 rfl (X_si (v := 598) (by decide)) (pc' := 251) rfl ?_
              refine T_ld zk_176_251 rfl rfl rfl (pc' := 252) rfl ?_
              refine T_op zk_176_252 rfl X_add (pc' := 253) rfl ?_
              refine T_op zk_176_253 rfl X_ic (pc' := 254) rfl ?_
              refine G_iast (J' := (fun σ' => IF MSo σ σ' ∧ True)) (ln := 646) zk_176_254 rfl rfl (vd_36 (by omega)) (by omega) (by omega) (by omega) (fun σ' h => ⟨h.1.up (by simp only [rgP] <;> omega) (by first | exact pMSo rfl | (unfold MSo; omega)), trivial⟩) (pc' := 255) rfl ?_
              refine T_ld zk_176_255 rfl rfl rfl (pc' := 256) rfl ?_
              refine T_getR (t' := 36) (i' := 0) (k' := 0) zk_176_256 rfl rfl rfl vd_35 (pc' := 259) rfl ?_
              refine T_op zk_176_259 rfl (X_si (v := 610) (by decide)) (pc' := 262) rfl ?_
              refine T_ld zk_176_262 rfl rfl rfl (pc' := 263) rfl ?_
              refine T_op zk_176_263 rfl X_add (pc' := 264) rfl ?_
              refine T_op (st' := [iv (610 + p0), av 36 0 0, iv (610 + p0), av 36 0 0]) zk_176_264 rfl rfl (pc' := 265) rfl ?_
              refine G_iald (lo := -2147483648) (hi := 2147483647) (ln := 646) zk_176_265 rfl rfl (vd_36 (by omega)) (by omega) (by omega) (by omega) (fun σ' h => h.1.1) (fun _ h => (by have q := h.1; omega)) (pc' := 266) rfl (fun y69 hy69 hy69' => ?_)
              refine T_op zk_176_266 rfl X_ic (pc' := 267) rfl ?_
              refine G_unk zk_176_267 rfl (pc' := 268) rfl (fun y70 hy70 hy70' => ?_)
              refine G_iast (J' := (fun σ' => IF MSo σ σ' ∧ True)) (ln := 646) zk_176_268 rfl rfl (vd_36 (by omega)) (by omega) (by omega) (by omega) (fun σ' h => ⟨h.1.up (by simp only [rgP] <;> omega) (by first | exact pMSo rfl | (unfold MSo; omega)), trivial⟩) (pc' := 269) rfl ?_
              exact T_vret zk_176_269 rfl (fun σ' h => ⟨rfl, h.1, trivial⟩)
      ·
        refine T_ld zk_176_54 rfl rfl rfl (pc' := 55) rfl ?_
        refine T_getR (t' := 55) (i' := 0) (k' := 0) zk_176_55 rfl rfl rfl vd_35 (pc' := 58) rfl ?_
        refine T_ld zk_176_58 rfl rfl rfl (pc' := 60) rfl ?_
        refine G_iald (lo := -2147483648) (hi := 2147483647) (ln := 50) zk_176_60 rfl rfl vd_55 (by omega) (by omega) (by omega) (fun σ' h => h.1.1) (fun _ h => (by have q := h.1; omega)) (pc' := 61) rfl (fun y71 hy71 hy71' => ?_)
        refine T_op zk_176_61 rfl X_ic (pc' := 62) rfl ?_
        refine T_icmp_ne zk_176_62 (by omega) (by omega) (pc' := 65) rfl (fun h72 => ?_) (fun h73 => ?_)
        ·
          refine T_ld zk_176_90 rfl rfl rfl (pc' := 91) rfl ?_
          refine T_getR (t' := 55) (i' := 0) (k' := 0) zk_176_91 rfl rfl rfl vd_35 (pc' := 94) rfl ?_
          refine T_ld zk_176_94 rfl rfl rfl (pc' := 96) rfl ?_
          refine T_op zk_176_96 rfl X_ic (pc' := 97) rfl ?_
          refine G_iast (J' := (fun σ' => IF MSo σ σ' ∧ True)) (ln := 50) zk_176_97 rfl rfl vd_55 (by omega) (by omega) (by omega) (fun σ' h => ⟨h.1.up ⟨by omega, trivial⟩ (by first | exact pMSo rfl | (unfold MSo; omega)), trivial⟩) (pc' := 98) rfl ?_
          refine T_ld zk_176_98 rfl rfl rfl (pc' := 99) rfl ?_
          refine T_getR (t' := 36) (i' := 0) (k' := 0) zk_176_99 rfl rfl rfl vd_35 (pc' := 102) rfl ?_
          refine T_op zk_176_102 rfl (X_si (v := 568) (by decide)) (pc' := 105) rfl ?_
          refine T_ld zk_176_105 rfl rfl rfl (pc' := 106) rfl ?_
          refine T_op zk_176_106 rfl X_add (pc' := 107) rfl ?_
          refine T_ld zk_176_107 rfl rfl rfl (pc' := 108) rfl ?_
          refine G_iast (J' := (fun σ' => IF MSo σ σ' ∧ True)) (ln := 646) zk_176_108 rfl rfl (vd_36 (by omega)) (by omega) (by omega) (by omega) (fun σ' h => ⟨h.1.up (by simp only [rgP] <;> omega) (by first | exact pMSo rfl | (unfold MSo; omega)), trivial⟩) (pc' := 109) rfl ?_
          refine T_ld zk_176_109 rfl rfl rfl (pc' := 110) rfl ?_
          refine T_getR (t' := 36) (i' := 0) (k' := 0) zk_176_110 rfl rfl rfl vd_35 (pc' := 113) rfl ?_
          refine T_op zk_176_113 rfl (X_si (v := 622) (by decide)) (pc' := 116) rfl ?_
          refine T_ld zk_176_116 rfl rfl rfl (pc' := 117) rfl ?_
          refine T_op zk_176_117 rfl X_add (pc' := 118) rfl ?_
          refine T_op (st' := [iv (622 + p0), av 36 0 0, iv (622 + p0), av 36 0 0]) zk_176_118 rfl rfl (pc' := 119) rfl ?_
          refine G_iald (lo := -2147483648) (hi := 2147483647) (ln := 646) zk_176_119 rfl rfl (vd_36 (by omega)) (by omega) (by omega) (by omega) (fun σ' h => h.1.1) (fun _ h => (by have q := h.1; omega)) (pc' := 120) rfl (fun y74 hy74 hy74' => ?_)
          refine T_op zk_176_120 rfl X_ic (pc' := 121) rfl ?_
          refine G_unk zk_176_121 rfl (pc' := 122) rfl (fun y75 hy75 hy75' => ?_)
          refine G_iast (J' := (fun σ' => IF MSo σ σ' ∧ True)) (ln := 646) zk_176_122 rfl rfl (vd_36 (by omega)) (by omega) (by omega) (by omega) (fun σ' h => ⟨h.1.up (by simp only [rgP] <;> omega) (by first | exact pMSo rfl | (unfold MSo; omega)), trivial⟩) (pc' := 123) rfl ?_
          refine T_ld zk_176_123 rfl rfl rfl (pc' := 124) rfl ?_
          refine T_getR (t' := 36) (i' := 0) (k' := 0) zk_176_124 rfl rfl rfl vd_35 (pc' := 127) rfl ?_
          refine T_op zk_176_127 rfl (X_si (v := 586) (by decide)) (pc' := 130) rfl ?_
          refine T_ld zk_176_130 rfl rfl rfl (pc' := 131) rfl ?_
          refine T_op zk_176_131 rfl X_add (pc' := 132) rfl ?_
          refine G_iald (lo := -2147483648) (hi := 2147483647) (ln := 646) zk_176_132 rfl rfl (vd_36 (by omega)) (by omega) (by omega) (by omega) (fun σ' h => h.1.1) (fun _ h => (by have q := h.1; omega)) (pc' := 133) rfl (fun y76 hy76 hy76' => ?_)
          refine T_ld zk_176_133 rfl rfl rfl (pc' := 134) rfl ?_
          refine T_getR (t' := 36) (i' := 0) (k' := 0) zk_176_134 rfl rfl rfl vd_35 (pc' := 137) rfl ?_
          refine T_op zk_176_137 rfl (X_si (v := 638) (by decide)) (pc' := 140) rfl ?_
          refine G_iald (lo := 0) (hi := 9) (ln := 646) zk_176_140 rfl rfl (vd_36 (by omega)) (by omega) (by omega) (by omega) (fun σ' h => h.1.1) (fun _ h => h.2.2.2.2.2.2.2.2.2.1 (by omega) (by omega)) (pc' := 141) rfl (fun y77 hy77 hy77' => ?_)
          refine T_icmp_ge zk_176_141 (by omega) (by omega) (pc' := 144) rfl (fun h78 => ?_) (fun h79 => ?_)
          ·
            refine T_ld zk_176_157 rfl rfl rfl (pc' := 158) rfl ?_
            refine T_getR (t' := 36) (i' := 0) (k' := 0) zk_176_158 rfl rfl rfl vd_35 (pc' := 161) rfl ?_
            refine T_op zk_176_161 rfl (X_si (v := 638) (by decide)) (pc' := 164) rfl ?_
            refine G_iald (lo := 0) (hi := 9) (ln := 646) zk_176_164 rfl rfl (vd_36 (by omega)) (by omega) (by omega) (by omega) (fun σ' h => h.1.1) (fun _ h => h.2.2.2.2.2.2.2.2.2.1 (by omega) (by omega)) (pc' := 165) rfl (fun y80 hy80 hy80' => ?_)
            refine T_st (L' := [(0, av 35 0 0), (1, iv p0), (2, iv y1), (3, iv y2), (4, iv y5), (5, iv y80)]) zk_176_165 (nL := 7) rfl rfl rfl rfl rfl (pc' := 167) rfl ?_
            refine T_ld zk_176_167 rfl rfl rfl (pc' := 169) rfl ?_
            refine T_ld zk_176_169 rfl rfl rfl (pc' := 171) rfl ?_
            refine G_unk zk_176_171 rfl (pc' := 172) rfl (fun y81 hy81 hy81' => ?_)
            refine T_op zk_176_172 rfl X_ic (pc' := 173) rfl ?_
            refine G_unkD zk_176_173 (by first | exact Or.inl rfl | exact Or.inr rfl) (by omega) (pc' := 174) rfl (fun y82 hy82 hy82' => ?_)
            refine T_st (L' := [(0, av 35 0 0), (1, iv p0), (2, iv y1), (3, iv y2), (4, iv y5), (5, iv y80), (6, iv y82)]) zk_176_174 (nL := 7) rfl rfl rfl rfl rfl (pc' := 176) rfl ?_
            refine T_ld zk_176_176 rfl rfl rfl (pc' := 178) rfl ?_
            refine T_ld zk_176_178 rfl rfl rfl (pc' := 179) rfl ?_
            refine T_getR (t' := 36) (i' := 0) (k' := 0) zk_176_179 rfl rfl rfl vd_35 (pc' := 182) rfl ?_
            refine T_op zk_176_182 rfl (X_bi (v := 50) (by decide)) (pc' := 184) rfl ?_
            refine T_ld zk_176_184 rfl rfl rfl (pc' := 185) rfl ?_
            refine T_op zk_176_185 rfl X_add (pc' := 186) rfl ?_
            refine G_iald (lo := -2147483648) (hi := 2147483647) (ln := 646) zk_176_186 rfl rfl (vd_36 (by omega)) (by omega) (by omega) (by omega) (fun σ' h => h.1.1) (fun _ h => (by have q := h.1; omega)) (pc' := 187) rfl (fun y83 hy83 hy83' => ?_)
            refine T_icmp_le zk_176_187 (by omega) (by omega) (pc' := 190) rfl (fun h84 => ?_) (fun h85 => ?_)
            ·
              refine T_ld zk_176_201 rfl rfl rfl (pc' := 202) rfl ?_
              refine T_getR (t' := 36) (i' := 0) (k' := 0) zk_176_202 rfl rfl rfl vd_35 (pc' := 205) rfl ?_
              refine T_op zk_176_205 rfl (X_bi (v := 50) (by decide)) (pc' := 207) rfl ?_
              refine T_ld zk_176_207 rfl rfl rfl (pc' := 208) rfl ?_
              refine T_op zk_176_208 rfl X_add (pc' := 209) rfl ?_
              refine T_op (st' := [iv (50 + y1), av 36 0 0, iv (50 + y1), av 36 0 0]) zk_176_209 rfl rfl (pc' := 210) rfl ?_
              refine G_iald (lo := -2147483648) (hi := 2147483647) (ln := 646) zk_176_210 rfl rfl (vd_36 (by omega)) (by omega) (by omega) (by omega) (fun σ' h => h.1.1) (fun _ h => (by have q := h.1; omega)) (pc' := 211) rfl (fun y86 hy86 hy86' => ?_)
              refine T_ld zk_176_211 rfl rfl rfl (pc' := 213) rfl ?_
              refine G_unk zk_176_213 rfl (pc' := 214) rfl (fun y87 hy87 hy87' => ?_)
              refine G_iast (J' := (fun σ' => IF MSo σ σ' ∧ True)) (ln := 646) zk_176_214 rfl rfl (vd_36 (by omega)) (by omega) (by omega) (by omega) (fun σ' h => ⟨h.1.up (by simp only [rgP] <;> omega) (by first | exact pMSo rfl | (unfold MSo; omega)), trivial⟩) (pc' := 215) rfl ?_
              refine T_ld zk_176_215 rfl rfl rfl (pc' := 216) rfl ?_
              refine T_getR (t' := 36) (i' := 0) (k' := 0) zk_176_216 rfl rfl rfl vd_35 (pc' := 219) rfl ?_
              refine T_op zk_176_219 rfl (X_si (v := 616) (by decide)) (pc' := 222) rfl ?_
              refine T_ld zk_176_222 rfl rfl rfl (pc' := 223) rfl ?_
              refine T_op zk_176_223 rfl X_add (pc' := 224) rfl ?_
              refine T_op (st' := [iv (616 + p0), av 36 0 0, iv (616 + p0), av 36 0 0]) zk_176_224 rfl rfl (pc' := 225) rfl ?_
              refine G_iald (lo := -2147483648) (hi := 2147483647) (ln := 646) zk_176_225 rfl rfl (vd_36 (by omega)) (by omega) (by omega) (by omega) (fun σ' h => h.1.1) (fun _ h => (by have q := h.1; omega)) (pc' := 226) rfl (fun y88 hy88 hy88' => ?_)
              refine T_ld zk_176_226 rfl rfl rfl (pc' := 228) rfl ?_
              refine G_unk zk_176_228 rfl (pc' := 229) rfl (fun y89 hy89 hy89' => ?_)
              refine G_iast (J' := (fun σ' => IF MSo σ σ' ∧ True)) (ln := 646) zk_176_229 rfl rfl (vd_36 (by omega)) (by omega) (by omega) (by omega) (fun σ' h => ⟨h.1.up (by simp only [rgP] <;> omega) (by first | exact pMSo rfl | (unfold MSo; omega)), trivial⟩) (pc' := 230) rfl ?_
              refine T_ld zk_176_230 rfl rfl rfl (pc' := 231) rfl ?_
              refine T_ld zk_176_231 rfl rfl rfl (pc' := 232) rfl ?_
              refine T_getR (t' := 36) (i' := 0) (k' := 0) zk_176_232 rfl rfl rfl vd_35 (pc' := 235) rfl ?_
              refine T_op zk_176_235 rfl (X_si (v := 598) (by decide)) (pc' := 238) rfl ?_
              refine T_ld zk_176_238 rfl rfl rfl (pc' := 239) rfl ?_
              refine T_op zk_176_239 rfl X_add (pc' := 240) rfl ?_
              refine G_iald (lo := -1) (hi := 24) (ln := 646) zk_176_240 rfl rfl (vd_36 (by omega)) (by omega) (by omega) (by omega) (fun σ' h => h.1.1) (fun _ h => h.2.2.2.2.1 (by omega) (by omega)) (pc' := 241) rfl (fun y90 hy90 hy90' => ?_)
              refine T_icmp_ne zk_176_241 (by omega) (by omega) (pc' := 244) rfl (fun h91 => ?_) (fun h92 => ?_)
              ·
                exact T_vret zk_176_269 rfl (fun σ' h => ⟨rfl, h.1, trivial⟩)
              ·
                refine T_ld zk_176_244 rfl rfl rfl (pc' := 245) rfl ?_
                refine T_getR (t' := 36) (i' := 0) (k' := 0) zk_176_245 rfl rfl rfl vd_35 (pc' := 248) rfl ?_
                refine T_op zk_176_248 rfl (X_si (v := 598) (by decide)) (pc' := 251) rfl ?_
                refine T_ld zk_176_251 rfl rfl rfl (pc' := 252) rfl ?_
                refine T_op zk_176_252 rfl X_add (pc' := 253) rfl ?_
                refine T_op zk_176_253 rfl X_ic (pc' := 254) rfl ?_
                refine G_iast (J' := (fun σ' => IF MSo σ σ' ∧ True)) (ln := 646) zk_176_254 rfl rfl (vd_36 (by omega)) (by omega) (by omega) (by omega) (fun σ' h => ⟨h.1.up (by simp only [rgP] <;> omega) (by first | exact pMSo rfl | (unfold MSo; omega)), trivial⟩) (pc' := 255) rfl ?_
                refine T_ld zk_176_255 rfl rfl rfl (pc' := 256) rfl ?_
                refine T_getR (t' := 36) (i' := 0) (k' := 0) zk_176_256 rfl rfl rfl vd_35 (pc' := 259) rfl ?_
                refine T_op zk_176_259 rfl (X_si (v := 610) (by decide)) (pc' := 262) rfl ?_
                refine T_ld zk_176_262 rfl rfl rfl (pc' := 263) rfl ?_
                refine T_op zk_176_263 rfl X_add (pc' := 264) rfl ?_
                refine T_op (st' := [iv (610 + p0), av 36 0 0, iv (610 + p0), av 36 0 0]) zk_176_264 rfl rfl (pc' := 265) rfl ?_
                refine G_iald (lo := -2147483648) (hi := 2147483647) (ln := 646) zk_176_265 rfl rfl (vd_36 (by omega)) (by omega) (by omega) (by omega) (fun σ' h => h.1.1) (fun _ h => (by have q := h.1; omega)) (pc' := 266) rfl (fun y93 hy93 hy93' => ?_)
                refine T_op zk_176_266 rfl X_ic (pc' := 267) rfl ?_
                refine G_unk zk_176_267 rfl (pc' := 268) rfl (fun y94 hy94 hy94' => ?_)
                refine G_iast (J' := (fun σ' => IF MSo σ σ' ∧ True)) (ln := 646) zk_176_268 rfl rfl (vd_36 (by omega)) (by omega) (by omega) (by omega) (fun σ' h => ⟨h.1.up (by simp only [rgP] <;> omega) (by first | exact pMSo rfl | (unfold MSo; omega)), trivial⟩) (pc' := 269) rfl ?_
                exact T_vret zk_176_269 rfl (fun σ' h => ⟨rfl, h.1, trivial⟩)
            ·
              refine T_ld zk_176_190 rfl rfl rfl (pc' := 191) rfl ?_
              refine T_getR (t' := 36) (i' := 0) (k' := 0) zk_176_191 rfl rfl rfl vd_35 (pc' := 194) rfl ?_
              refine T_op zk_176_194 rfl (X_bi (v := 50) (by decide)) (pc' := 196) rfl ?_
              refine T_ld zk_176_196 rfl rfl rfl (pc' := 197) rfl ?_
              refine T_op zk_176_197 rfl X_add (pc' := 198) rfl ?_
              refine G_iald (lo := -2147483648) (hi := 2147483647) (ln := 646) zk_176_198 rfl rfl (vd_36 (by omega)) (by omega) (by omega) (by omega) (fun σ' h => h.1.1) (fun _ h => (by have q := h.1; omega)) (pc' := 199) rfl (fun y95 hy95 hy95' => ?_)
              refine T_st (L' := [(0, av 35 0 0), (1, iv p0), (2, iv y1), (3, iv y2), (4, iv y5), (5, iv y80), (6, iv y95)]) zk_176_199 (nL := 7) rfl rfl rfl rfl rfl (pc' := 201) rfl ?_
              refine T_ld zk_176_201 rfl rfl rfl (pc' := 202) rfl ?_
              refine T_getR (t' := 36) (i' := 0) (k' := 0) zk_176_202 rfl rfl rfl vd_35 (pc' := 205) rfl ?_
              refine T_op zk_176_205 rfl (X_bi (v := 50) (by decide)) (pc' := 207) rfl ?_
              refine T_ld zk_176_207 rfl rfl rfl (pc' := 208) rfl ?_
              refine T_op zk_176_208 rfl X_add (pc' := 209) rfl ?_
              refine T_op (st' := [iv (50 + y1), av 36 0 0, iv (50 + y1), av 36 0 0]) zk_176_209 rfl rfl (pc' := 210) rfl ?_
              refine G_iald (lo := -2147483648) (hi := 2147483647) (ln := 646) zk_176_210 rfl rfl (vd_36 (by omega)) (by omega) (by omega) (by omega) (fun σ' h => h.1.1) (fun _ h => (by have q := h.1; omega)) (pc' := 211) rfl (fun y96 hy96 hy96' => ?_)
              refine T_ld zk_176_211 rfl rfl rfl (pc' := 213) rfl ?_
              refine G_unk zk_176_213 rfl (pc' := 214) rfl (fun y97 hy97 hy97' => ?_)
              refine G_iast (J' := (fun σ' => IF MSo σ σ' ∧ True)) (ln := 646) zk_176_214 rfl rfl (vd_36 (by omega)) (by omega) (by omega) (by omega) (fun σ' h => ⟨h.1.up (by simp only [rgP] <;> omega) (by first | exact pMSo rfl | (unfold MSo; omega)), trivial⟩) (pc' := 215) rfl ?_
              refine T_ld zk_176_215 rfl rfl rfl (pc' := 216) rfl ?_
              refine T_getR (t' := 36) (i' := 0) (k' := 0) zk_176_216 rfl rfl rfl vd_35 (pc' := 219) rfl ?_
              refine T_op zk_176_219 rfl (X_si (v := 616) (by decide)) (pc' := 222) rfl ?_
              refine T_ld zk_176_222 rfl rfl rfl (pc' := 223) rfl ?_
              refine T_op zk_176_223 rfl X_add (pc' := 224) rfl ?_
              refine T_op (st' := [iv (616 + p0), av 36 0 0, iv (616 + p0), av 36 0 0]) zk_176_224 rfl rfl (pc' := 225) rfl ?_
              refine G_iald (lo := -2147483648) (hi := 2147483647) (ln := 646) zk_176_225 rfl rfl (vd_36 (by omega)) (by omega) (by omega) (by omega) (fun σ' h => h.1.1) (fun _ h => (by have q := h.1; omega)) (pc' := 226) rfl (fun y98 hy98 hy98' => ?_)
              refine T_ld zk_176_226 rfl rfl rfl (pc' := 228) rfl ?_
              refine G_unk zk_176_228 rfl (pc' := 229) rfl (fun y99 hy99 hy99' => ?_)
              refine G_iast (J' := (fun σ' => IF MSo σ σ' ∧ True)) (ln := 646) zk_176_229 rfl rfl (vd_36 (by omega)) (by omega) (by omega) (by omega) (fun σ' h => ⟨h.1.up (by simp only [rgP] <;> omega) (by first | exact pMSo rfl | (unfold MSo; omega)), trivial⟩) (pc' := 230) rfl ?_
              refine T_ld zk_176_230 rfl rfl rfl (pc' := 231) rfl ?_
              refine T_ld zk_176_231 rfl rfl rfl (pc' := 232) rfl ?_
              refine T_getR (t' := 36) (i' := 0) (k' := 0) zk_176_232 rfl rfl rfl vd_35 (pc' := 235) rfl ?_
              refine T_op zk_176_235 rfl (X_si (v := 598) (by decide)) (pc' := 238) rfl ?_
              refine T_ld zk_176_238 rfl rfl rfl (pc' := 239) rfl ?_
              refine T_op zk_176_239 rfl X_add (pc' := 240) rfl ?_
              refine G_iald (lo := -1) (hi := 24) (ln := 646) zk_176_240 rfl rfl (vd_36 (by omega)) (by omega) (by omega) (by omega) (fun σ' h => h.1.1) (fun _ h => h.2.2.2.2.1 (by omega) (by omega)) (pc' := 241) rfl (fun y100 hy100 hy100' => ?_)
              refine T_icmp_ne zk_176_241 (by omega) (by omega) (pc' := 244) rfl (fun h101 => ?_) (fun h102 => ?_)
              ·
                exact T_vret zk_176_269 rfl (fun σ' h => ⟨rfl, h.1, trivial⟩)
              ·
                refine T_ld zk_176_244 rfl rfl rfl (pc' := 245) rfl ?_
                refine T_getR (t' := 36) (i' := 0) (k' := 0) zk_176_245 rfl rfl rfl vd_35 (pc' := 248) rfl ?_
                refine T_op zk_176_248 rfl (X_si (v := 598) (by decide)) (pc' := 251) rfl ?_
                refine T_ld zk_176_251 rfl rfl rfl (pc' := 252) rfl ?_
                refine T_op zk_176_252 rfl X_add (pc' := 253) rfl ?_
                refine T_op zk_176_253 rfl X_ic (pc' := 254) rfl ?_
                refine G_iast (J' := (fun σ' => IF MSo σ σ' ∧ True)) (ln := 646) zk_176_254 rfl rfl (vd_36 (by omega)) (by omega) (by omega) (by omega) (fun σ' h => ⟨h.1.up (by simp only [rgP] <;> omega) (by first | exact pMSo rfl | (unfold MSo; omega)), trivial⟩) (pc' := 255) rfl ?_
                refine T_ld zk_176_255 rfl rfl rfl (pc' := 256) rfl ?_
                refine T_getR (t' := 36) (i' := 0) (k' := 0) zk_176_256 rfl rfl rfl vd_35 (pc' := 259) rfl ?_
                refine T_op zk_176_259 rfl (X_si (v := 610) (by decide)) (pc' := 262) rfl ?_
                refine T_ld zk_176_262 rfl rfl rfl (pc' := 263) rfl ?_
                refine T_op zk_176_263 rfl X_add (pc' := 264) rfl ?_
                refine T_op (st' := [iv (610 + p0), av 36 0 0, iv (610 + p0), av 36 0 0]) zk_176_264 rfl rfl (pc' := 265) rfl ?_
                refine G_iald (lo := -2147483648) (hi := 2147483647) (ln := 646) zk_176_265 rfl rfl (vd_36 (by omega)) (by omega) (by omega) (by omega) (fun σ' h => h.1.1) (fun _ h => (by have q := h.1; omega)) (pc' := 266) rfl (fun y103 hy103 hy103' => ?_)
                refine T_op zk_176_266 rfl X_ic (pc' := 267) rfl ?_
                refine G_unk zk_176_267 rfl (pc' := 268) rfl (fun y104 hy104 hy104' => ?_)
                refine G_iast (J' := (fun σ' => IF MSo σ σ' ∧ True)) (ln := 646) zk_176_268 rfl rfl (vd_36 (by omega)) (by omega) (by omega) (by omega) (fun σ' h => ⟨h.1.up (by simp only [rgP] <;> omega) (by first | exact pMSo rfl | (unfold MSo; omega)), trivial⟩) (pc' := 269) rfl ?_
                exact T_vret zk_176_269 rfl (fun σ' h => ⟨rfl, h.1, trivial⟩)
          ·
            refine T_ld zk_176_144 rfl rfl rfl (pc' := 145) rfl ?_
            refine T_getR (t' := 36) (i' := 0) (k' := 0) zk_176_145 rfl rfl rfl vd_35 (pc' := 148) rfl ?_
            refine T_op zk_176_148 rfl (X_si (v := 586) (by decide)) (pc' := 151) rfl ?_
            refine T_ld zk_176_151 rfl rfl rfl (pc' := 152) rfl ?_
            refine T_op zk_176_152 rfl X_add (pc' := 153) rfl ?_
            refine G_iald (lo := -2147483648) (hi := 2147483647) (ln := 646) zk_176_153 rfl rfl (vd_36 (by omega)) (by omega) (by omega) (by omega) (fun σ' h => h.1.1) (fun _ h => (by have q := h.1; omega)) (pc' := 154) rfl (fun y105 hy105 hy105' => ?_)
            refine T_goto zk_176_154 ?_
            refine T_st (L' := [(0, av 35 0 0), (1, iv p0), (2, iv y1), (3, iv y2), (4, iv y5), (5, iv y105)]) zk_176_165 (nL := 7) rfl rfl rfl rfl rfl (pc' := 167) rfl ?_
            refine T_ld zk_176_167 rfl rfl rfl (pc' := 169) rfl ?_
            refine T_ld zk_176_169 rfl rfl rfl (pc' := 171) rfl ?_
            refine G_unk zk_176_171 rfl (pc' := 172) rfl (fun y106 hy106 hy106' => ?_)
            refine T_op zk_176_172 rfl X_ic (pc' := 173) rfl ?_
            refine G_unkD zk_176_173 (by first | exact Or.inl rfl | exact Or.inr rfl) (by omega) (pc' := 174) rfl (fun y107 hy107 hy107' => ?_)
            refine T_st (L' := [(0, av 35 0 0), (1, iv p0), (2, iv y1), (3, iv y2), (4, iv y5), (5, iv y105), (6, iv y107)]) zk_176_174 (nL := 7) rfl rfl rfl rfl rfl (pc' := 176) rfl ?_
            refine T_ld zk_176_176 rfl rfl rfl (pc' := 178) rfl ?_
            refine T_ld zk_176_178 rfl rfl rfl (pc' := 179) rfl ?_
            refine T_getR (t' := 36) (i' := 0) (k' := 0) zk_176_179 rfl rfl rfl vd_35 (pc' := 182) rfl ?_
            refine T_op zk_176_182 rfl (X_bi (v := 50) (by decide)) (pc' := 184) rfl ?_
            refine T_ld zk_176_184 rfl rfl rfl (pc' := 185) rfl ?_
            refine T_op zk_176_185 rfl X_add (pc' := 186) rfl ?_
            refine G_iald (lo := -2147483648) (hi := 2147483647) (ln := 646) zk_176_186 rfl rfl (vd_36 (by omega)) (by omega) (by omega) (by omega) (fun σ' h => h.1.1) (fun _ h => (by have q := h.1; omega)) (pc' := 187) rfl (fun y108 hy108 hy108' => ?_)
            refine T_icmp_le zk_176_187 (by omega) (by omega) (pc' := 190) rfl (fun h109 => ?_) (fun h110 => ?_)
            ·
              refine T_ld zk_176_201 rfl rfl rfl (pc' := 202) rfl ?_
              refine T_getR (t' := 36) (i' := 0) (k' := 0) zk_176_202 rfl rfl rfl vd_35 (pc' := 205) rfl ?_
              refine T_op zk_176_205 rfl (X_bi (v := 50) (by decide)) (pc' := 207) rfl ?_
              refine T_ld zk_176_207 rfl rfl rfl (pc' := 208) rfl ?_
              refine T_op zk_176_208 rfl X_add (pc' := 209) rfl ?_
              refine T_op (st' := [iv (50 + y1), av 36 0 0, iv (50 + y1), av 36 0 0]) zk_176_209 rfl rfl (pc' := 210) rfl ?_
              refine G_iald (lo := -2147483648) (hi := 2147483647) (ln := 646) zk_176_210 rfl rfl (vd_36 (by omega)) (by omega) (by omega) (by omega) (fun σ' h => h.1.1) (fun _ h => (by have q := h.1; omega)) (pc' := 211) rfl (fun y111 hy111 hy111' => ?_)
              refine T_ld zk_176_211 rfl rfl rfl (pc' := 213) rfl ?_
              refine G_unk zk_176_213 rfl (pc' := 214) rfl (fun y112 hy112 hy112' => ?_)
              refine G_iast (J' := (fun σ' => IF MSo σ σ' ∧ True)) (ln := 646) zk_176_214 rfl rfl (vd_36 (by omega)) (by omega) (by omega) (by omega) (fun σ' h => ⟨h.1.up (by simp only [rgP] <;> omega) (by first | exact pMSo rfl | (unfold MSo; omega)), trivial⟩) (pc' := 215) rfl ?_
              refine T_ld zk_176_215 rfl rfl rfl (pc' := 216) rfl ?_
              refine T_getR (t' := 36) (i' := 0) (k' := 0) zk_176_216 rfl rfl rfl vd_35 (pc' := 219) rfl ?_
              refine T_op zk_176_219 rfl (X_si (v := 616) (by decide)) (pc' := 222) rfl ?_
              refine T_ld zk_176_222 rfl rfl rfl (pc' := 223) rfl ?_
              refine T_op zk_176_223 rfl X_add (pc' := 224) rfl ?_
              refine T_op (st' := [iv (616 + p0), av 36 0 0, iv (616 + p0), av 36 0 0]) zk_176_224 rfl rfl (pc' := 225) rfl ?_
              refine G_iald (lo := -2147483648) (hi := 2147483647) (ln := 646) zk_176_225 rfl rfl (vd_36 (by omega)) (by omega) (by omega) (by omega) (fun σ' h => h.1.1) (fun _ h => (by have q := h.1; omega)) (pc' := 226) rfl (fun y113 hy113 hy113' => ?_)
              refine T_ld zk_176_226 rfl rfl rfl (pc' := 228) rfl ?_
              refine G_unk zk_176_228 rfl (pc' := 229) rfl (fun y114 hy114 hy114' => ?_)
              refine G_iast (J' := (fun σ' => IF MSo σ σ' ∧ True)) (ln := 646) zk_176_229 rfl rfl (vd_36 (by omega)) (by omega) (by omega) (by omega) (fun σ' h => ⟨h.1.up (by simp only [rgP] <;> omega) (by first | exact pMSo rfl | (unfold MSo; omega)), trivial⟩) (pc' := 230) rfl ?_
              refine T_ld zk_176_230 rfl rfl rfl (pc' := 231) rfl ?_
              refine T_ld zk_176_231 rfl rfl rfl (pc' := 232) rfl ?_
              refine T_getR (t' := 36) (i' := 0) (k' := 0) zk_176_232 rfl rfl rfl vd_35 (pc' := 235) rfl ?_
              refine T_op zk_176_235 rfl (X_si (v := 598) (by decide)) (pc' := 238) rfl ?_
              refine T_ld zk_176_238 rfl rfl rfl (pc' := 239) rfl ?_
              refine T_op zk_176_239 rfl X_add (pc' := 240) rfl ?_
              refine G_iald (lo := -1) (hi := 24) (ln := 646) zk_176_240 rfl rfl (vd_36 (by omega)) (by omega) (by omega) (by omega) (fun σ' h => h.1.1) (fun _ h => h.2.2.2.2.1 (by omega) (by omega)) (pc' := 241) rfl (fun y115 hy115 hy115' => ?_)
              refine T_icmp_ne zk_176_241 (by omega) (by omega) (pc' := 244) rfl (fun h116 => ?_) (fun h117 => ?_)
              ·
                exact T_vret zk_176_269 rfl (fun σ' h => ⟨rfl, h.1, trivial⟩)
              ·
                refine T_ld zk_176_244 rfl rfl rfl (pc' := 245) rfl ?_
                refine T_getR (t' := 36) (i' := 0) (k' := 0) zk_176_245 rfl rfl rfl vd_35 (pc' := 248) rfl ?_
                refine T_op zk_176_248 rfl (X_si (v := 598) (by decide)) (pc' := 251) rfl ?_
                refine T_ld zk_176_251 rfl rfl rfl (pc' := 252) rfl ?_
                refine T_op zk_176_252 rfl X_add (pc' := 253) rfl ?_
                refine T_op zk_176_253 rfl X_ic (pc' := 254) rfl ?_
                refine G_iast (J' := (fun σ' => IF MSo σ σ' ∧ True)) (ln := 646) zk_176_254 rfl rfl (vd_36 (by omega)) (by omega) (by omega) (by omega) (fun σ' h => ⟨h.1.up (by simp only [rgP] <;> omega) (by first | exact pMSo rfl | (unfold MSo; omega)), trivial⟩) (pc' := 255) rfl ?_
                refine T_ld zk_176_255 rfl rfl rfl (pc' := 256) rfl ?_
                refine T_getR (t' := 36) (i' := 0) (k' := 0) zk_176_256 rfl rfl rfl vd_35 (pc' := 259) rfl ?_
                refine T_op zk_176_259 rfl (X_si (v := 610) (by decide)) (pc' := 262) rfl ?_
                refine T_ld zk_176_262 rfl rfl rfl (pc' := 263) rfl ?_
                refine T_op zk_176_263 rfl X_add (pc' := 264) rfl ?_
                refine T_op (st' := [iv (610 + p0), av 36 0 0, iv (610 + p0), av 36 0 0]) zk_176_264 rfl rfl (pc' := 265) rfl ?_
                refine G_iald (lo := -2147483648) (hi := 2147483647) (ln := 646) zk_176_265 rfl rfl (vd_36 (by omega)) (by omega) (by omega) (by omega) (fun σ' h => h.1.1) (fun _ h => (by have q := h.1; omega)) (pc' := 266) rfl (fun y118 hy118 hy118' => ?_)
                refine T_op zk_176_266 rfl X_ic (pc' := 267) rfl ?_
                refine G_unk zk_176_267 rfl (pc' := 268) rfl (fun y119 hy119 hy119' => ?_)
                refine G_iast (J' := (fun σ' => IF MSo σ σ' ∧ True)) (ln := 646) zk_176_268 rfl rfl (vd_36 (by omega)) (by omega) (by omega) (by omega) (fun σ' h => ⟨h.1.up (by simp only [rgP] <;> omega) (by first | exact pMSo rfl | (unfold MSo; omega)), trivial⟩) (pc' := 269) rfl ?_
                exact T_vret zk_176_269 rfl (fun σ' h => ⟨rfl, h.1, trivial⟩)
            ·
              refine T_ld zk_176_190 rfl rfl rfl (pc' := 191) rfl ?_
              refine T_getR (t' := 36) (i' := 0) (k' := 0) zk_176_191 rfl rfl rfl vd_35 (pc' := 194) rfl ?_
              refine T_op zk_176_194 rfl (X_bi (v := 50) (by decide)) (pc' := 196) rfl ?_
              refine T_ld zk_176_196 rfl rfl rfl (pc' := 197) rfl ?_
              refine T_op zk_176_197 rfl X_add (pc' := 198) rfl ?_
              refine G_iald (lo := -2147483648) (hi := 2147483647) (ln := 646) zk_176_198 rfl rfl (vd_36 (by omega)) (by omega) (by omega) (by omega) (fun σ' h => h.1.1) (fun _ h => (by have q := h.1; omega)) (pc' := 199) rfl (fun y120 hy120 hy120' => ?_)
              refine T_st (L' := [(0, av 35 0 0), (1, iv p0), (2, iv y1), (3, iv y2), (4, iv y5), (5, iv y105), (6, iv y120)]) zk_176_199 (nL := 7) rfl rfl rfl rfl rfl (pc' := 201) rfl ?_
              refine T_ld zk_176_201 rfl rfl rfl (pc' := 202) rfl ?_
              refine T_getR (t' := 36) (i' := 0) (k' := 0) zk_176_202 rfl rfl rfl vd_35 (pc' := 205) rfl ?_
              refine T_op zk_176_205 rfl (X_bi (v := 50) (by decide)) (pc' := 207) rfl ?_
              refine T_ld zk_176_207 rfl rfl rfl (pc' := 208) rfl ?_
              refine T_op zk_176_208 rfl X_add (pc' := 209) rfl ?_
              refine T_op (st' := [iv (50 + y1), av 36 0 0, iv (50 + y1), av 36 0 0]) zk_176_209 rfl rfl (pc' := 210) rfl ?_
              refine G_iald (lo := -2147483648) (hi := 2147483647) (ln := 646) zk_176_210 rfl rfl (vd_36 (by omega)) (by omega) (by omega) (by omega) (fun σ' h => h.1.1) (fun _ h => (by have q := h.1; omega)) (pc' := 211) rfl (fun y121 hy121 hy121' => ?_)
              refine T_ld zk_176_211 rfl rfl rfl (pc' := 213) rfl ?_
              refine G_unk zk_176_213 rfl (pc' := 214) rfl (fun y122 hy122 hy122' => ?_)
              refine G_iast (J' := (fun σ' => IF MSo σ σ' ∧ True)) (ln := 646) zk_176_214 rfl rfl (vd_36 (by omega)) (by omega) (by omega) (by omega) (fun σ' h => ⟨h.1.up (by simp only [rgP] <;> omega) (by first | exact pMSo rfl | (unfold MSo; omega)), trivial⟩) (pc' := 215) rfl ?_
              refine T_ld zk_176_215 rfl rfl rfl (pc' := 216) rfl ?_
              refine T_getR (t' := 36) (i' := 0) (k' := 0) zk_176_216 rfl rfl rfl vd_35 (pc' := 219) rfl ?_
              refine T_op zk_176_219 rfl (X_si (v := 616) (by decide)) (pc' := 222) rfl ?_
              refine T_ld zk_176_222 rfl rfl rfl (pc' := 223) rfl ?_
              refine T_op zk_176_223 rfl X_add (pc' := 224) rfl ?_
              refine T_op (st' := [iv (616 + p0), av 36 0 0, iv (616 + p0), av 36 0 0]) zk_176_224 rfl rfl (pc' := 225) rfl ?_
              refine G_iald (lo := -2147483648) (hi := 2147483647) (ln := 646) zk_176_225 rfl rfl (vd_36 (by omega)) (by omega) (by omega) (by omega) (fun σ' h => h.1.1) (fun _ h => (by have q := h.1; omega)) (pc' := 226) rfl (fun y123 hy123 hy123' => ?_)
              refine T_ld zk_176_226 rfl rfl rfl (pc' := 228) rfl ?_
              refine G_unk zk_176_228 rfl (pc' := 229) rfl (fun y124 hy124 hy124' => ?_)
              refine G_iast (J' := (fun σ' => IF MSo σ σ' ∧ True)) (ln := 646) zk_176_229 rfl rfl (vd_36 (by omega)) (by omega) (by omega) (by omega) (fun σ' h => ⟨h.1.up (by simp only [rgP] <;> omega) (by first | exact pMSo rfl | (unfold MSo; omega)), trivial⟩) (pc' := 230) rfl ?_
              refine T_ld zk_176_230 rfl rfl rfl (pc' := 231) rfl ?_
              refine T_ld zk_176_231 rfl rfl rfl (pc' := 232) rfl ?_
              refine T_getR (t' := 36) (i' := 0) (k' := 0) zk_176_232 rfl rfl rfl vd_35 (pc' := 235) rfl ?_
              refine T_op zk_176_235 rfl (X_si (v := 598) (by decide)) (pc' := 238) rfl ?_
              refine T_ld zk_176_238 rfl rfl rfl (pc' := 239) rfl ?_
              refine T_op zk_176_239 rfl X_add (pc' := 240) rfl ?_
              refine G_iald (lo := -1) (hi := 24) (ln := 646) zk_176_240 rfl rfl (vd_36 (by omega)) (by omega) (by omega) (by omega) (fun σ' h => h.1.1) (fun _ h => h.2.2.2.2.1 (by omega) (by omega)) (pc' := 241) rfl (fun y125 hy125 hy125' => ?_)
              refine T_icmp_ne zk_176_241 (by omega) (by omega) (pc' := 244) rfl (fun h126 => ?_) (fun h127 => ?_)
              ·
                exact T_vret zk_176_269 rfl (fun σ' h => ⟨rfl, h.1, trivial⟩)
              ·
                refine T_ld zk_176_244 rfl rfl rfl (pc' := 245) rfl ?_
                refine T_getR (t' := 36) (i' := 0) (k' := 0) zk_176_245 rfl rfl rfl vd_35 (pc' := 248) rfl ?_
                refine T_op zk_176_248 rfl (X_si (v := 598) (by decide)) (pc' := 251) rfl ?_
                refine T_ld zk_176_251 rfl rfl rfl (pc' := 252) rfl ?_
                refine T_op zk_176_252 rfl X_add (pc' := 253) rfl ?_
                refine T_op zk_176_253 rfl X_ic (pc' := 254) rfl ?_
                refine G_iast (J' := (fun σ' => IF MSo σ σ' ∧ True)) (ln := 646) zk_176_254 rfl rfl (vd_36 (by omega)) (by omega) (by omega) (by omega) (fun σ' h => ⟨h.1.up (by simp only [rgP] <;> omega) (by first | exact pMSo rfl | (unfold MSo; omega)), trivial⟩) (pc' := 255) rfl ?_
                refine T_ld zk_176_255 rfl rfl rfl (pc' := 256) rfl ?_
                refine T_getR (t' := 36) (i' := 0) (k' := 0) zk_176_256 rfl rfl rfl vd_35 (pc' := 259) rfl ?_
                refine T_op zk_176_259 rfl (X_si (v := 610) (by decide)) (pc' := 262) rfl ?_
                refine T_ld zk_176_262 rfl rfl rfl (pc' := 263) rfl ?_
                refine T_op zk_176_263 rfl X_add (pc' := 264) rfl ?_
                refine T_op (st' := [iv (610 + p0), av 36 0 0, iv (610 + p0), av 36 0 0]) zk_176_264 rfl rfl (pc' := 265) rfl ?_
                refine G_iald (lo := -2147483648) (hi := 2147483647) (ln := 646) zk_176_265 rfl rfl (vd_36 (by omega)) (by omega) (by omega) (by omega) (fun σ' h => h.1.1) (fun _ h => (by have q := h.1; omega)) (pc' := 266) rfl (fun y128 hy128 hy128' => ?_)
                refine T_op zk_176_266 rfl X_ic (pc' := 267) rfl ?_
                refine G_unk zk_176_267 rfl (pc' := 268) rfl (fun y129 hy129 hy129' => ?_)
                refine G_iast (J' := (fun σ' => IF MSo σ σ' ∧ True)) (ln := 646) zk_176_268 rfl rfl (vd_36 (by omega)) (by omega) (by omega) (by omega) (fun σ' h => ⟨h.1.up (by simp only [rgP] <;> omega) (by first | exact pMSo rfl | (unfold MSo; omega)), trivial⟩) (pc' := 269) rfl ?_
                exact T_vret zk_176_269 rfl (fun σ' h => ⟨rfl, h.1, trivial⟩)
        ·
          refine T_ld zk_176_65 rfl rfl rfl (pc' := 66) rfl ?_
          refine T_getR (t' := 36) (i' := 0) (k' := 0) zk_176_66 rfl rfl rfl vd_35 (pc' := 69) rfl ?_
          refine T_op zk_176_69 rfl (X_si (v := 604) (by decide)) (pc' := 72) rfl ?_
          refine T_ld zk_176_72 rfl rfl rfl (pc' := 73) rfl ?_
          refine T_op zk_176_73 rfl X_add (pc' := 74) rfl ?_
          refine T_op (st' := [iv (604 + p0), av 36 0 0, iv (604 + p0), av 36 0 0]) zk_176_74 rfl rfl (pc' := 75) rfl ?_
          refine G_iald (lo := -2147483648) (hi := 2147483647) (ln := 646) zk_176_75 rfl rfl (vd_36 (by omega)) (by omega) (by omega) (by omega) (fun σ' h => h.1.1) (fun _ h => (by have q := h.1; omega)) (pc' := 76) rfl (fun y130 hy130 hy130' => ?_)
          refine T_op zk_176_76 rfl X_ic (pc' := 77) rfl ?_
          refine G_unk zk_176_77 rfl (pc' := 78) rfl (fun y131 hy131 hy131' => ?_)
          refine G_iast (J' := (fun σ' => IF MSo σ σ' ∧ True)) (ln := 646) zk_176_78 rfl rfl (vd_36 (by omega)) (by omega) (by omega) (by omega) (fun σ' h => ⟨h.1.up (by simp only [rgP] <;> omega) (by first | exact pMSo rfl | (unfold MSo; omega)), trivial⟩) (pc' := 79) rfl ?_
          refine T_ld zk_176_79 rfl rfl rfl (pc' := 80) rfl ?_
          refine T_op (st' := [av 35 0 0, av 35 0 0]) zk_176_80 rfl rfl (pc' := 81) rfl ?_
          refine G_getf (lo := -2147483648) (hi := 2147483647) zk_176_81 rfl vd_35 (fun σ' h => h.1.1) (fun _ h => (by have q := h.1; omega)) (pc' := 84) rfl (fun y132 hy132 hy132' => ?_)
          refine T_op zk_176_84 rfl X_ic (pc' := 85) rfl ?_
          refine G_unk zk_176_85 rfl (pc' := 86) rfl (fun y133 hy133 hy133' => ?_)
          refine T_putf (J' := (fun σ' => IF MSo σ σ' ∧ σ' 35 0 0 31 = y133 ∧ True)) zk_176_86 rfl rfl vd_35 (fun σ' h => ⟨h.1.up (by simp only [rgP] <;> omega) (by first | exact pMSo rfl | (unfold MSo; omega)), up_eq, trivial⟩) (pc' := 89) rfl ?_
          exact T_vret zk_176_89 rfl (fun σ' h => ⟨rfl, h.1, trivial⟩)
  ·
    refine T_op zk_176_22 rfl X_ic (pc' := 23) rfl ?_
    refine T_goto zk_176_23 ?_
    refine T_st (L' := [(0, av 35 0 0), (1, iv p0), (2, iv y1), (3, iv y2), (4, iv (-1))]) zk_176_31 (nL := 7) rfl rfl rfl rfl rfl (pc' := 33) rfl ?_
    refine T_ld zk_176_33 rfl rfl rfl (pc' := 35) rfl ?_
    refine T_op zk_176_35 rfl X_ic (pc' := 36) rfl ?_
    refine T_icmp_eq zk_176_36 (by omega) (by omega) (pc' := 39) rfl (fun h134 => ?_) (fun h135 => ?_)
    ·
      refine T_ld zk_176_65 rfl rfl rfl (pc' := 66) rfl ?_
      refine T_getR (t' := 36) (i' := 0) (k' := 0) zk_176_66 rfl rfl rfl vd_35 (pc' := 69) rfl ?_
      refine T_op zk_176_69 rfl (X_si (v := 604) (by decide)) (pc' := 72) rfl ?_
      refine T_ld zk_176_72 rfl rfl rfl (pc' := 73) rfl ?_
      refine T_op zk_176_73 rfl X_add (pc' := 74) rfl ?_
      refine T_op (st' := [iv (604 + p0), av 36 0 0, iv (604 + p0), av 36 0 0]) zk_176_74 rfl rfl (pc' := 75) rfl ?_
      refine G_iald (lo := -2147483648) (hi := 2147483647) (ln := 646) zk_176_75 rfl rfl (vd_36 (by omega)) (by omega) (by omega) (by omega) (fun σ' h => h.1.1) (fun _ h => (by have q := h.1; omega)) (pc' := 76) rfl (fun y136 hy136 hy136' => ?_)
      refine T_op zk_176_76 rfl X_ic (pc' := 77) rfl ?_
      refine G_unk zk_176_77 rfl (pc' := 78) rfl (fun y137 hy137 hy137' => ?_)
      refine G_iast (J' := (fun σ' => IF MSo σ σ' ∧ True)) (ln := 646) zk_176_78 rfl rfl (vd_36 (by omega)) (by omega) (by omega) (by omega) (fun σ' h => ⟨h.1.up (by simp only [rgP] <;> omega) (by first | exact pMSo rfl | (unfold MSo; omega)), trivial⟩) (pc' := 79) rfl ?_
      refine T_ld zk_176_79 rfl rfl rfl (pc' := 80) rfl ?_
      refine T_op (st' := [av 35 0 0, av 35 0 0]) zk_176_80 rfl rfl (pc' := 81) rfl ?_
      refine G_getf (lo := -2147483648) (hi := 2147483647) zk_176_81 rfl vd_35 (fun σ' h => h.1.1) (fun _ h => (by have q := h.1; omega)) (pc' := 84) rfl (fun y138 hy138 hy138' => ?_)
      refine T_op zk_176_84 rfl X_ic (pc' := 85) rfl ?_
      refine G_unk zk_176_85 rfl (pc' := 86) rfl (fun y139 hy139 hy139' => ?_)
      refine T_putf (J' := (fun σ' => IF MSo σ σ' ∧ σ' 35 0 0 31 = y139 ∧ True)) zk_176_86 rfl rfl vd_35 (fun σ' h => ⟨h.1.up (by simp only [rgP] <;> omega) (by first | exact pMSo rfl | (unfold MSo; omega)), up_eq, trivial⟩) (pc' := 89) rfl ?_
      exact T_vret zk_176_89 rfl (fun σ' h => ⟨rfl, h.1, trivial⟩)
    · exfalso; omega
