theorem zk_164_0 : zc 164 0 = some (.iload_n 1, 0, 0, 0, 0) := rfl
theorem zk_164_1 : zc 164 1 = some (.ifCond .lt 15, 16, 0, 0, 0) := rfl
theorem zk_164_4 : zc 164 4 = some (.iload_n 1, 0, 0, 0, 0) := rfl
theorem zk_164_5 : zc 164 5 = some (.iconst 2, 0, 0, 0, 0) := rfl
theorem zk_164_6 : zc 164 6 = some (.if_icmp .gt 10, 16, 0, 0, 0) := rfl
theorem zk_164_9 : zc 164 9 = some (.iload_n 2, 0, 0, 0, 0) := rfl
theorem zk_164_10 : zc 164 10 = some (.invokestatic 99, 124, 1, 1, 128) := rfl
theorem zk_164_13 : zc 164 13 = some (.ifCond .ne 9, 22, 0, 0, 0) := rfl
theorem zk_164_16 : zc 164 16 = some (.aload_n 0, 0, 0, 0, 0) := rfl
theorem zk_164_17 : zc 164 17 = some (.iconst (-1), 0, 0, 0, 0) := rfl
theorem zk_164_18 : zc 164 18 = some (.invokevirtual 103, 123, 0, 2, 129) := rfl
theorem zk_164_21 : zc 164 21 = some (.ireturn, 0, 0, 0, 0) := rfl
theorem zk_164_22 : zc 164 22 = some (.iload_n 3, 0, 0, 0, 0) := rfl
theorem zk_164_23 : zc 164 23 = some (.ifCond .lt 34, 57, 0, 0, 0) := rfl
theorem zk_164_26 : zc 164 26 = some (.iload_n 3, 0, 0, 0, 0) := rfl
theorem zk_164_27 : zc 164 27 = some (.sipush 200, 0, 0, 0, 0) := rfl
theorem zk_164_30 : zc 164 30 = some (.if_icmp .gt 27, 57, 0, 0, 0) := rfl
theorem zk_164_33 : zc 164 33 = some (.iload 4, 0, 0, 0, 0) := rfl
theorem zk_164_35 : zc 164 35 = some (.ifCond .lt 22, 57, 0, 0, 0) := rfl
theorem zk_164_38 : zc 164 38 = some (.iload 4, 0, 0, 0, 0) := rfl
theorem zk_164_40 : zc 164 40 = some (.bipush 99, 0, 0, 0, 0) := rfl
theorem zk_164_42 : zc 164 42 = some (.if_icmp .gt 15, 57, 0, 0, 0) := rfl
theorem zk_164_45 : zc 164 45 = some (.iload 5, 0, 0, 0, 0) := rfl
theorem zk_164_47 : zc 164 47 = some (.ifCond .lt 10, 57, 0, 0, 0) := rfl
theorem zk_164_50 : zc 164 50 = some (.iload 5, 0, 0, 0, 0) := rfl
theorem zk_164_52 : zc 164 52 = some (.bipush 99, 0, 0, 0, 0) := rfl
theorem zk_164_54 : zc 164 54 = some (.if_icmp .le 10, 64, 0, 0, 0) := rfl
theorem zk_164_57 : zc 164 57 = some (.aload_n 0, 0, 0, 0, 0) := rfl
theorem zk_164_58 : zc 164 58 = some (.bipush (-6), 0, 0, 0, 0) := rfl
theorem zk_164_60 : zc 164 60 = some (.invokevirtual 103, 123, 0, 2, 129) := rfl
theorem zk_164_63 : zc 164 63 = some (.ireturn, 0, 0, 0, 0) := rfl
theorem zk_164_64 : zc 164 64 = some (.aload_n 0, 0, 0, 0, 0) := rfl
theorem zk_164_65 : zc 164 65 = some (.getfield 7, 11, 0, 0, 139) := rfl
theorem zk_164_68 : zc 164 68 = some (.sipush 641, 0, 0, 0, 0) := rfl
theorem zk_164_71 : zc 164 71 = some (.iaload, 0, 0, 0, 0) := rfl
theorem zk_164_72 : zc 164 72 = some (.istore 6, 0, 0, 0, 0) := rfl
theorem zk_164_74 : zc 164 74 = some (.iload 6, 0, 0, 0, 0) := rfl
theorem zk_164_76 : zc 164 76 = some (.bipush 12, 0, 0, 0, 0) := rfl
theorem zk_164_78 : zc 164 78 = some (.if_icmp .ne 10, 88, 0, 0, 0) := rfl
theorem zk_164_81 : zc 164 81 = some (.aload_n 0, 0, 0, 0, 0) := rfl
theorem zk_164_82 : zc 164 82 = some (.bipush (-7), 0, 0, 0, 0) := rfl
theorem zk_164_84 : zc 164 84 = some (.invokevirtual 103, 123, 0, 2, 129) := rfl
theorem zk_164_87 : zc 164 87 = some (.ireturn, 0, 0, 0, 0) := rfl
theorem zk_164_88 : zc 164 88 = some (.aload_n 0, 0, 0, 0, 0) := rfl
theorem zk_164_89 : zc 164 89 = some (.getfield 7, 11, 0, 0, 139) := rfl
theorem zk_164_92 : zc 164 92 = some (.sipush 448, 0, 0, 0, 0) := rfl
theorem zk_164_95 : zc 164 95 = some (.iload 6, 0, 0, 0, 0) := rfl
theorem zk_164_97 : zc 164 97 = some (.iadd, 0, 0, 0, 0) := rfl
theorem zk_164_98 : zc 164 98 = some (.iload_n 1, 0, 0, 0, 0) := rfl
theorem zk_164_99 : zc 164 99 = some (.iastore, 0, 0, 0, 0) := rfl
theorem zk_164_100 : zc 164 100 = some (.aload_n 0, 0, 0, 0, 0) := rfl
theorem zk_164_101 : zc 164 101 = some (.getfield 7, 11, 0, 0, 139) := rfl
theorem zk_164_104 : zc 164 104 = some (.sipush 460, 0, 0, 0, 0) := rfl
theorem zk_164_107 : zc 164 107 = some (.iload 6, 0, 0, 0, 0) := rfl
theorem zk_164_109 : zc 164 109 = some (.iadd, 0, 0, 0, 0) := rfl
theorem zk_164_110 : zc 164 110 = some (.iload_n 2, 0, 0, 0, 0) := rfl
theorem zk_164_111 : zc 164 111 = some (.iastore, 0, 0, 0, 0) := rfl
theorem zk_164_112 : zc 164 112 = some (.aload_n 0, 0, 0, 0, 0) := rfl
theorem zk_164_113 : zc 164 113 = some (.getfield 7, 11, 0, 0, 139) := rfl
theorem zk_164_116 : zc 164 116 = some (.sipush 472, 0, 0, 0, 0) := rfl
theorem zk_164_119 : zc 164 119 = some (.iload 6, 0, 0, 0, 0) := rfl
theorem zk_164_121 : zc 164 121 = some (.iadd, 0, 0, 0, 0) := rfl
theorem zk_164_122 : zc 164 122 = some (.iload_n 3, 0, 0, 0, 0) := rfl
theorem zk_164_123 : zc 164 123 = some (.iastore, 0, 0, 0, 0) := rfl
theorem zk_164_124 : zc 164 124 = some (.aload_n 0, 0, 0, 0, 0) := rfl
theorem zk_164_125 : zc 164 125 = some (.getfield 7, 11, 0, 0, 139) := rfl
theorem zk_164_128 : zc 164 128 = some (.sipush 484, 0, 0, 0, 0) := rfl
theorem zk_164_131 : zc 164 131 = some (.iload 6, 0, 0, 0, 0) := rfl
theorem zk_164_133 : zc 164 133 = some (.iadd, 0, 0, 0, 0) := rfl
theorem zk_164_134 : zc 164 134 = some (.iload 4, 0, 0, 0, 0) := rfl
theorem zk_164_136 : zc 164 136 = some (.iastore, 0, 0, 0, 0) := rfl
theorem zk_164_137 : zc 164 137 = some (.aload_n 0, 0, 0, 0, 0) := rfl
theorem zk_164_138 : zc 164 138 = some (.getfield 7, 11, 0, 0, 139) := rfl
theorem zk_164_141 : zc 164 141 = some (.sipush 496, 0, 0, 0, 0) := rfl
theorem zk_164_144 : zc 164 144 = some (.iload 6, 0, 0, 0, 0) := rfl
theorem zk_164_146 : zc 164 146 = some (.iadd, 0, 0, 0, 0) := rfl
theorem zk_164_147 : zc 164 147 = some (.iload 5, 0, 0, 0, 0) := rfl
theorem zk_164_149 : zc 164 149 = some (.iastore, 0, 0, 0, 0) := rfl
theorem zk_164_150 : zc 164 150 = some (.sipush 508, 0, 0, 0, 0) := rfl
theorem zk_164_153 : zc 164 153 = some (.istore 7, 0, 0, 0, 0) := rfl
theorem zk_164_155 : zc 164 155 = some (.iload 7, 0, 0, 0, 0) := rfl
theorem zk_164_157 : zc 164 157 = some (.sipush 556, 0, 0, 0, 0) := rfl
theorem zk_164_160 : zc 164 160 = some (.if_icmp .gt 20, 180, 0, 0, 0) := rfl
theorem zk_164_163 : zc 164 163 = some (.aload_n 0, 0, 0, 0, 0) := rfl
theorem zk_164_164 : zc 164 164 = some (.getfield 7, 11, 0, 0, 139) := rfl
theorem zk_164_167 : zc 164 167 = some (.iload 7, 0, 0, 0, 0) := rfl
theorem zk_164_169 : zc 164 169 = some (.iload 6, 0, 0, 0, 0) := rfl
theorem zk_164_171 : zc 164 171 = some (.iadd, 0, 0, 0, 0) := rfl
theorem zk_164_172 : zc 164 172 = some (.iconst 0, 0, 0, 0, 0) := rfl
theorem zk_164_173 : zc 164 173 = some (.iastore, 0, 0, 0, 0) := rfl
theorem zk_164_174 : zc 164 174 = some (.iinc 7 12, 0, 0, 0, 0) := rfl
theorem zk_164_177 : zc 164 177 = some (.goto (-22), 155, 0, 0, 0) := rfl
theorem zk_164_180 : zc 164 180 = some (.aload_n 0, 0, 0, 0, 0) := rfl
theorem zk_164_181 : zc 164 181 = some (.getfield 7, 11, 0, 0, 139) := rfl
theorem zk_164_184 : zc 164 184 = some (.sipush 641, 0, 0, 0, 0) := rfl
theorem zk_164_187 : zc 164 187 = some (.dup2, 0, 0, 0, 0) := rfl
theorem zk_164_188 : zc 164 188 = some (.iaload, 0, 0, 0, 0) := rfl
theorem zk_164_189 : zc 164 189 = some (.dup_x2, 0, 0, 0, 0) := rfl
theorem zk_164_190 : zc 164 190 = some (.iconst 1, 0, 0, 0, 0) := rfl
theorem zk_164_191 : zc 164 191 = some (.iadd, 0, 0, 0, 0) := rfl
theorem zk_164_192 : zc 164 192 = some (.iastore, 0, 0, 0, 0) := rfl
theorem zk_164_193 : zc 164 193 = some (.ireturn, 0, 0, 0, 0) := rfl
theorem zk_165_0 : zc 165 0 = some (.aload_n 0, 0, 0, 0, 0) := rfl
theorem zk_165_1 : zc 165 1 = some (.iload_n 1, 0, 0, 0, 0) := rfl
theorem zk_165_2 : zc 165 2 = some (.invokevirtual 118, 139, 0, 2, 133) := rfl
theorem zk_165_5 : zc 165 5 = some (.ifCond .ne 9, 14, 0, 0, 0) := rfl
theorem zk_165_8 : zc 165 8 = some (.aload_n 0, 0, 0, 0, 0) := rfl
theorem zk_165_9 : zc 165 9 = some (.iconst (-1), 0, 0, 0, 0) := rfl
theorem zk_165_10 : zc 165 10 = some (.invokevirtual 103, 123, 0, 2, 129) := rfl
theorem zk_165_13 : zc 165 13 = some (.ireturn, 0, 0, 0, 0) := rfl
theorem zk_165_14 : zc 165 14 = some (.iload_n 2, 0, 0, 0, 0) := rfl
theorem zk_165_15 : zc 165 15 = some (.iconst 1, 0, 0, 0, 0) := rfl
theorem zk_165_16 : zc 165 16 = some (.if_icmp .lt 27, 43, 0, 0, 0) := rfl
theorem zk_165_19 : zc 165 19 = some (.iload_n 2, 0, 0, 0, 0) := rfl
theorem zk_165_20 : zc 165 20 = some (.bipush 50, 0, 0, 0, 0) := rfl
theorem zk_165_22 : zc 165 22 = some (.if_icmp .gt 21, 43, 0, 0, 0) := rfl
theorem zk_165_25 : zc 165 25 = some (.aload_n 0, 0, 0, 0, 0) := rfl
theorem zk_165_26 : zc 165 26 = some (.getfield 7, 11, 0, 0, 139) := rfl
theorem zk_165_29 : zc 165 29 = some (.sipush 472, 0, 0, 0, 0) := rfl
theorem zk_165_32 : zc 165 32 = some (.iload_n 1, 0, 0, 0, 0) := rfl
theorem zk_165_33 : zc 165 33 = some (.iadd, 0, 0, 0, 0) := rfl
theorem zk_165_34 : zc 165 34 = some (.iaload, 0, 0, 0, 0) := rfl
theorem zk_165_35 : zc 165 35 = some (.iload_n 2, 0, 0, 0, 0) := rfl
theorem zk_165_36 : zc 165 36 = some (.iadd, 0, 0, 0, 0) := rfl
theorem zk_165_37 : zc 165 37 = some (.sipush 300, 0, 0, 0, 0) := rfl
theorem zk_165_40 : zc 165 40 = some (.if_icmp .le 10, 50, 0, 0, 0) := rfl
theorem zk_165_43 : zc 165 43 = some (.aload_n 0, 0, 0, 0, 0) := rfl
theorem zk_165_44 : zc 165 44 = some (.bipush (-6), 0, 0, 0, 0) := rfl
theorem zk_165_46 : zc 165 46 = some (.invokevirtual 103, 123, 0, 2, 129) := rfl
theorem zk_165_49 : zc 165 49 = some (.ireturn, 0, 0, 0, 0) := rfl
theorem zk_165_50 : zc 165 50 = some (.aload_n 0, 0, 0, 0, 0) := rfl
theorem zk_165_51 : zc 165 51 = some (.getfield 7, 11, 0, 0, 139) := rfl
theorem zk_165_54 : zc 165 54 = some (.sipush 472, 0, 0, 0, 0) := rfl
theorem zk_165_57 : zc 165 57 = some (.iload_n 1, 0, 0, 0, 0) := rfl
theorem zk_165_58 : zc 165 58 = some (.iadd, 0, 0, 0, 0) := rfl
theorem zk_165_59 : zc 165 59 = some (.dup2, 0, 0, 0, 0) := rfl
theorem zk_165_60 : zc 165 60 = some (.iaload, 0, 0, 0, 0) := rfl
theorem zk_165_61 : zc 165 61 = some (.iload_n 2, 0, 0, 0, 0) := rfl
theorem zk_165_62 : zc 165 62 = some (.iadd, 0, 0, 0, 0) := rfl
theorem zk_165_63 : zc 165 63 = some (.iastore, 0, 0, 0, 0) := rfl
theorem zk_165_64 : zc 165 64 = some (.aload_n 0, 0, 0, 0, 0) := rfl
theorem zk_165_65 : zc 165 65 = some (.getfield 7, 11, 0, 0, 139) := rfl
theorem zk_165_68 : zc 165 68 = some (.sipush 472, 0, 0, 0, 0) := rfl
theorem zk_165_71 : zc 165 71 = some (.iload_n 1, 0, 0, 0, 0) := rfl
theorem zk_165_72 : zc 165 72 = some (.iadd, 0, 0, 0, 0) := rfl
theorem zk_165_73 : zc 165 73 = some (.iaload, 0, 0, 0, 0) := rfl
theorem zk_165_74 : zc 165 74 = some (.ireturn, 0, 0, 0, 0) := rfl
theorem zk_166_0 : zc 166 0 = some (.aload_n 0, 0, 0, 0, 0) := rfl
theorem zk_166_1 : zc 166 1 = some (.iload_n 1, 0, 0, 0, 0) := rfl
theorem zk_166_2 : zc 166 2 = some (.invokevirtual 118, 139, 0, 2, 133) := rfl
theorem zk_166_5 : zc 166 5 = some (.ifCond .ne 5, 10, 0, 0, 0) := rfl
theorem zk_166_8 : zc 166 8 = some (.iconst (-1), 0, 0, 0, 0) := rfl
theorem zk_166_9 : zc 166 9 = some (.ireturn, 0, 0, 0, 0) := rfl
theorem zk_166_10 : zc 166 10 = some (.iload_n 2, 0, 0, 0, 0) := rfl
theorem zk_166_11 : zc 166 11 = some (.tableswitch 133 0 7 #[45, 56, 67, 78, 89, 100, 111, 122], 0, 0, 0, 0) := rfl
theorem zk_166_56 : zc 166 56 = some (.aload_n 0, 0, 0, 0, 0) := rfl
theorem zk_166_57 : zc 166 57 = some (.getfield 7, 11, 0, 0, 139) := rfl
theorem zk_166_60 : zc 166 60 = some (.sipush 448, 0, 0, 0, 0) := rfl
theorem zk_166_63 : zc 166 63 = some (.iload_n 1, 0, 0, 0, 0) := rfl
theorem zk_166_64 : zc 166 64 = some (.iadd, 0, 0, 0, 0) := rfl
theorem zk_166_65 : zc 166 65 = some (.iaload, 0, 0, 0, 0) := rfl
theorem zk_166_66 : zc 166 66 = some (.ireturn, 0, 0, 0, 0) := rfl
theorem zk_166_67 : zc 166 67 = some (.aload_n 0, 0, 0, 0, 0) := rfl
theorem zk_166_68 : zc 166 68 = some (.getfield 7, 11, 0, 0, 139) := rfl
theorem zk_166_71 : zc 166 71 = some (.sipush 460, 0, 0, 0, 0) := rfl
theorem zk_166_74 : zc 166 74 = some (.iload_n 1, 0, 0, 0, 0) := rfl
theorem zk_166_75 : zc 166 75 = some (.iadd, 0, 0, 0, 0) := rfl
theorem zk_166_76 : zc 166 76 = some (.iaload, 0, 0, 0, 0) := rfl
theorem zk_166_77 : zc 166 77 = some (.ireturn, 0, 0, 0, 0) := rfl
theorem zk_166_78 : zc 166 78 = some (.aload_n 0, 0, 0, 0, 0) := rfl
theorem zk_166_79 : zc 166 79 = some (.getfield 7, 11, 0, 0, 139) := rfl
theorem zk_166_82 : zc 166 82 = some (.sipush 472, 0, 0, 0, 0) := rfl
theorem zk_166_85 : zc 166 85 = some (.iload_n 1, 0, 0, 0, 0) := rfl
theorem zk_166_86 : zc 166 86 = some (.iadd, 0, 0, 0, 0) := rfl
theorem zk_166_87 : zc 166 87 = some (.iaload, 0, 0, 0, 0) := rfl
theorem zk_166_88 : zc 166 88 = some (.ireturn, 0, 0, 0, 0) := rfl
theorem zk_166_89 : zc 166 89 = some (.aload_n 0, 0, 0, 0, 0) := rfl
theorem zk_166_90 : zc 166 90 = some (.getfield 7, 11, 0, 0, 139) := rfl
theorem zk_166_93 : zc 166 93 = some (.sipush 508, 0, 0, 0, 0) := rfl
theorem zk_166_96 : zc 166 96 = some (.iload_n 1, 0, 0, 0, 0) := rfl
theorem zk_166_97 : zc 166 97 = some (.iadd, 0, 0, 0, 0) := rfl
theorem zk_166_98 : zc 166 98 = some (.iaload, 0, 0, 0, 0) := rfl
theorem zk_166_99 : zc 166 99 = some (.ireturn, 0, 0, 0, 0) := rfl
theorem zk_166_100 : zc 166 100 = some (.aload_n 0, 0, 0, 0, 0) := rfl
theorem zk_166_101 : zc 166 101 = some (.getfield 7, 11, 0, 0, 139) := rfl
theorem zk_166_104 : zc 166 104 = some (.sipush 520, 0, 0, 0, 0) := rfl
theorem zk_166_107 : zc 166 107 = some (.iload_n 1, 0, 0, 0, 0) := rfl
theorem zk_166_108 : zc 166 108 = some (.iadd, 0, 0, 0, 0) := rfl
theorem zk_166_109 : zc 166 109 = some (.iaload, 0, 0, 0, 0) := rfl
theorem zk_166_110 : zc 166 110 = some (.ireturn, 0, 0, 0, 0) := rfl
theorem zk_166_111 : zc 166 111 = some (.aload_n 0, 0, 0, 0, 0) := rfl
theorem zk_166_112 : zc 166 112 = some (.getfield 7, 11, 0, 0, 139) := rfl
theorem zk_166_115 : zc 166 115 = some (.sipush 532, 0, 0, 0, 0) := rfl
theorem zk_166_118 : zc 166 118 = some (.iload_n 1, 0, 0, 0, 0) := rfl
theorem zk_166_119 : zc 166 119 = some (.iadd, 0, 0, 0, 0) := rfl
theorem zk_166_120 : zc 166 120 = some (.iaload, 0, 0, 0, 0) := rfl
theorem zk_166_121 : zc 166 121 = some (.ireturn, 0, 0, 0, 0) := rfl
theorem zk_166_122 : zc 166 122 = some (.aload_n 0, 0, 0, 0, 0) := rfl
theorem zk_166_123 : zc 166 123 = some (.getfield 7, 11, 0, 0, 139) := rfl
theorem zk_166_126 : zc 166 126 = some (.sipush 544, 0, 0, 0, 0) := rfl
theorem zk_166_129 : zc 166 129 = some (.iload_n 1, 0, 0, 0, 0) := rfl
theorem zk_166_130 : zc 166 130 = some (.iadd, 0, 0, 0, 0) := rfl
theorem zk_166_131 : zc 166 131 = some (.iaload, 0, 0, 0, 0) := rfl
theorem zk_166_132 : zc 166 132 = some (.ireturn, 0, 0, 0, 0) := rfl
theorem zk_166_133 : zc 166 133 = some (.aload_n 0, 0, 0, 0, 0) := rfl
theorem zk_166_134 : zc 166 134 = some (.getfield 7, 11, 0, 0, 139) := rfl
theorem zk_166_137 : zc 166 137 = some (.sipush 556, 0, 0, 0, 0) := rfl
theorem zk_166_140 : zc 166 140 = some (.iload_n 1, 0, 0, 0, 0) := rfl
theorem zk_166_141 : zc 166 141 = some (.iadd, 0, 0, 0, 0) := rfl
theorem zk_166_142 : zc 166 142 = some (.iaload, 0, 0, 0, 0) := rfl
theorem zk_166_143 : zc 166 143 = some (.ireturn, 0, 0, 0, 0) := rfl
theorem zk_166_144 : zc 166 144 = some (.iconst (-1), 0, 0, 0, 0) := rfl
theorem zk_166_145 : zc 166 145 = some (.ireturn, 0, 0, 0, 0) := rfl
theorem zk_168_0 : zc 168 0 = some (.iload_n 1, 0, 0, 0, 0) := rfl
theorem zk_168_1 : zc 168 1 = some (.invokestatic 99, 124, 1, 1, 128) := rfl
theorem zk_168_4 : zc 168 4 = some (.ifCond .ne 9, 13, 0, 0, 0) := rfl
theorem zk_168_7 : zc 168 7 = some (.aload_n 0, 0, 0, 0, 0) := rfl
theorem zk_168_8 : zc 168 8 = some (.iconst (-1), 0, 0, 0, 0) := rfl
theorem zk_168_9 : zc 168 9 = some (.invokevirtual 103, 123, 0, 2, 129) := rfl
theorem zk_168_12 : zc 168 12 = some (.ireturn, 0, 0, 0, 0) := rfl
theorem zk_168_13 : zc 168 13 = some (.iload_n 2, 0, 0, 0, 0) := rfl
theorem zk_168_14 : zc 168 14 = some (.iconst 1, 0, 0, 0, 0) := rfl
theorem zk_168_15 : zc 168 15 = some (.if_icmp .lt 45, 60, 0, 0, 0) := rfl
theorem zk_168_18 : zc 168 18 = some (.iload_n 2, 0, 0, 0, 0) := rfl
theorem zk_168_19 : zc 168 19 = some (.bipush 60, 0, 0, 0, 0) := rfl
theorem zk_168_21 : zc 168 21 = some (.if_icmp .gt 39, 60, 0, 0, 0) := rfl
theorem zk_168_24 : zc 168 24 = some (.iload_n 3, 0, 0, 0, 0) := rfl
theorem zk_168_25 : zc 168 25 = some (.iconst 1, 0, 0, 0, 0) := rfl
theorem zk_168_26 : zc 168 26 = some (.if_icmp .lt 34, 60, 0, 0, 0) := rfl
theorem zk_168_29 : zc 168 29 = some (.iload_n 3, 0, 0, 0, 0) := rfl
theorem zk_168_30 : zc 168 30 = some (.bipush 99, 0, 0, 0, 0) := rfl
theorem zk_168_32 : zc 168 32 = some (.if_icmp .gt 28, 60, 0, 0, 0) := rfl
theorem zk_168_35 : zc 168 35 = some (.iload 4, 0, 0, 0, 0) := rfl
theorem zk_168_37 : zc 168 37 = some (.iconst 1, 0, 0, 0, 0) := rfl
theorem zk_168_38 : zc 168 38 = some (.if_icmp .lt 22, 60, 0, 0, 0) := rfl
theorem zk_168_41 : zc 168 41 = some (.iload 4, 0, 0, 0, 0) := rfl
theorem zk_168_43 : zc 168 43 = some (.bipush 9, 0, 0, 0, 0) := rfl
theorem zk_168_45 : zc 168 45 = some (.if_icmp .gt 15, 60, 0, 0, 0) := rfl
theorem zk_168_48 : zc 168 48 = some (.iload 5, 0, 0, 0, 0) := rfl
theorem zk_168_50 : zc 168 50 = some (.ifCond .lt 10, 60, 0, 0, 0) := rfl
theorem zk_168_53 : zc 168 53 = some (.iload 5, 0, 0, 0, 0) := rfl
theorem zk_168_55 : zc 168 55 = some (.bipush 9, 0, 0, 0, 0) := rfl
theorem zk_168_57 : zc 168 57 = some (.if_icmp .le 10, 67, 0, 0, 0) := rfl
theorem zk_168_60 : zc 168 60 = some (.aload_n 0, 0, 0, 0, 0) := rfl
theorem zk_168_61 : zc 168 61 = some (.bipush (-6), 0, 0, 0, 0) := rfl
theorem zk_168_63 : zc 168 63 = some (.invokevirtual 103, 123, 0, 2, 129) := rfl
theorem zk_168_66 : zc 168 66 = some (.ireturn, 0, 0, 0, 0) := rfl
theorem zk_168_67 : zc 168 67 = some (.aload_n 0, 0, 0, 0, 0) := rfl
theorem zk_168_68 : zc 168 68 = some (.getfield 7, 11, 0, 0, 139) := rfl
theorem zk_168_71 : zc 168 71 = some (.sipush 642, 0, 0, 0, 0) := rfl
theorem zk_168_74 : zc 168 74 = some (.iaload, 0, 0, 0, 0) := rfl
theorem zk_168_75 : zc 168 75 = some (.istore 6, 0, 0, 0, 0) := rfl
theorem zk_168_77 : zc 168 77 = some (.iload 6, 0, 0, 0, 0) := rfl
theorem zk_168_79 : zc 168 79 = some (.bipush 6, 0, 0, 0, 0) := rfl
theorem zk_168_81 : zc 168 81 = some (.if_icmp .ne 10, 91, 0, 0, 0) := rfl
theorem zk_168_84 : zc 168 84 = some (.aload_n 0, 0, 0, 0, 0) := rfl
theorem zk_168_85 : zc 168 85 = some (.bipush (-7), 0, 0, 0, 0) := rfl
theorem zk_168_87 : zc 168 87 = some (.invokevirtual 103, 123, 0, 2, 129) := rfl
theorem zk_168_90 : zc 168 90 = some (.ireturn, 0, 0, 0, 0) := rfl
theorem zk_168_91 : zc 168 91 = some (.aload_n 0, 0, 0, 0, 0) := rfl
theorem zk_168_92 : zc 168 92 = some (.getfield 7, 11, 0, 0, 139) := rfl
theorem zk_168_95 : zc 168 95 = some (.sipush 568, 0, 0, 0, 0) := rfl
theorem zk_168_98 : zc 168 98 = some (.iload 6, 0, 0, 0, 0) := rfl
theorem zk_168_100 : zc 168 100 = some (.iadd, 0, 0, 0, 0) := rfl
theorem zk_168_101 : zc 168 101 = some (.iload_n 1, 0, 0, 0, 0) := rfl
theorem zk_168_102 : zc 168 102 = some (.iastore, 0, 0, 0, 0) := rfl
theorem zk_168_103 : zc 168 103 = some (.aload_n 0, 0, 0, 0, 0) := rfl
theorem zk_168_104 : zc 168 104 = some (.getfield 7, 11, 0, 0, 139) := rfl
theorem zk_168_107 : zc 168 107 = some (.sipush 574, 0, 0, 0, 0) := rfl
theorem zk_168_110 : zc 168 110 = some (.iload 6, 0, 0, 0, 0) := rfl
theorem zk_168_112 : zc 168 112 = some (.iadd, 0, 0, 0, 0) := rfl
theorem zk_168_113 : zc 168 113 = some (.iload_n 2, 0, 0, 0, 0) := rfl
theorem zk_168_114 : zc 168 114 = some (.iastore, 0, 0, 0, 0) := rfl
theorem zk_168_115 : zc 168 115 = some (.aload_n 0, 0, 0, 0, 0) := rfl
theorem zk_168_116 : zc 168 116 = some (.getfield 7, 11, 0, 0, 139) := rfl
theorem zk_168_119 : zc 168 119 = some (.sipush 580, 0, 0, 0, 0) := rfl
theorem zk_168_122 : zc 168 122 = some (.iload 6, 0, 0, 0, 0) := rfl
theorem zk_168_124 : zc 168 124 = some (.iadd, 0, 0, 0, 0) := rfl
theorem zk_168_125 : zc 168 125 = some (.iload_n 3, 0, 0, 0, 0) := rfl
theorem zk_168_126 : zc 168 126 = some (.iastore, 0, 0, 0, 0) := rfl
theorem zk_168_127 : zc 168 127 = some (.aload_n 0, 0, 0, 0, 0) := rfl
theorem zk_168_128 : zc 168 128 = some (.getfield 7, 11, 0, 0, 139) := rfl
theorem zk_168_131 : zc 168 131 = some (.sipush 586, 0, 0, 0, 0) := rfl
theorem zk_168_134 : zc 168 134 = some (.iload 6, 0, 0, 0, 0) := rfl
theorem zk_168_136 : zc 168 136 = some (.iadd, 0, 0, 0, 0) := rfl
theorem zk_168_137 : zc 168 137 = some (.iload 4, 0, 0, 0, 0) := rfl
theorem zk_168_139 : zc 168 139 = some (.iastore, 0, 0, 0, 0) := rfl
theorem zk_168_140 : zc 168 140 = some (.aload_n 0, 0, 0, 0, 0) := rfl
theorem zk_168_141 : zc 168 141 = some (.getfield 7, 11, 0, 0, 139) := rfl
theorem zk_168_144 : zc 168 144 = some (.sipush 592, 0, 0, 0, 0) := rfl
theorem zk_168_147 : zc 168 147 = some (.iload 6, 0, 0, 0, 0) := rfl
theorem zk_168_149 : zc 168 149 = some (.iadd, 0, 0, 0, 0) := rfl
theorem zk_168_150 : zc 168 150 = some (.iload 5, 0, 0, 0, 0) := rfl
theorem zk_168_152 : zc 168 152 = some (.iastore, 0, 0, 0, 0) := rfl
theorem zk_168_153 : zc 168 153 = some (.aload_n 0, 0, 0, 0, 0) := rfl
theorem zk_168_154 : zc 168 154 = some (.getfield 7, 11, 0, 0, 139) := rfl
theorem zk_168_157 : zc 168 157 = some (.sipush 598, 0, 0, 0, 0) := rfl
theorem zk_168_160 : zc 168 160 = some (.iload 6, 0, 0, 0, 0) := rfl
theorem zk_168_162 : zc 168 162 = some (.iadd, 0, 0, 0, 0) := rfl
theorem zk_168_163 : zc 168 163 = some (.iconst (-1), 0, 0, 0, 0) := rfl
theorem zk_168_164 : zc 168 164 = some (.iastore, 0, 0, 0, 0) := rfl
theorem zk_168_165 : zc 168 165 = some (.sipush 604, 0, 0, 0, 0) := rfl
theorem zk_168_168 : zc 168 168 = some (.istore 7, 0, 0, 0, 0) := rfl
theorem zk_168_170 : zc 168 170 = some (.iload 7, 0, 0, 0, 0) := rfl
theorem zk_168_172 : zc 168 172 = some (.sipush 622, 0, 0, 0, 0) := rfl
theorem zk_168_175 : zc 168 175 = some (.if_icmp .gt 20, 195, 0, 0, 0) := rfl
theorem zk_168_178 : zc 168 178 = some (.aload_n 0, 0, 0, 0, 0) := rfl
theorem zk_168_179 : zc 168 179 = some (.getfield 7, 11, 0, 0, 139) := rfl
theorem zk_168_182 : zc 168 182 = some (.iload 7, 0, 0, 0, 0) := rfl
theorem zk_168_184 : zc 168 184 = some (.iload 6, 0, 0, 0, 0) := rfl
theorem zk_168_186 : zc 168 186 = some (.iadd, 0, 0, 0, 0) := rfl
theorem zk_168_187 : zc 168 187 = some (.iconst 0, 0, 0, 0, 0) := rfl
theorem zk_168_188 : zc 168 188 = some (.iastore, 0, 0, 0, 0) := rfl
theorem zk_168_189 : zc 168 189 = some (.iinc 7 6, 0, 0, 0, 0) := rfl
theorem zk_168_192 : zc 168 192 = some (.goto (-22), 170, 0, 0, 0) := rfl
theorem zk_168_195 : zc 168 195 = some (.aload_n 0, 0, 0, 0, 0) := rfl
theorem zk_168_196 : zc 168 196 = some (.getfield 7, 11, 0, 0, 139) := rfl
theorem zk_168_199 : zc 168 199 = some (.sipush 642, 0, 0, 0, 0) := rfl
theorem zk_168_202 : zc 168 202 = some (.dup2, 0, 0, 0, 0) := rfl
theorem zk_168_203 : zc 168 203 = some (.iaload, 0, 0, 0, 0) := rfl
theorem zk_168_204 : zc 168 204 = some (.dup_x2, 0, 0, 0, 0) := rfl
theorem zk_168_205 : zc 168 205 = some (.iconst 1, 0, 0, 0, 0) := rfl
theorem zk_168_206 : zc 168 206 = some (.iadd, 0, 0, 0, 0) := rfl
theorem zk_168_207 : zc 168 207 = some (.iastore, 0, 0, 0, 0) := rfl
theorem zk_168_208 : zc 168 208 = some (.ireturn, 0, 0, 0, 0) := rfl
theorem zk_169_0 : zc 169 0 = some (.aload_n 0, 0, 0, 0, 0) := rfl
theorem zk_169_1 : zc 169 1 = some (.iload_n 1, 0, 0, 0, 0) := rfl
theorem zk_169_2 : zc 169 2 = some (.invokevirtual 198, 167, 0, 2, 148) := rfl
theorem zk_169_5 : zc 169 5 = some (.ifCond .eq 15, 20, 0, 0, 0) := rfl
theorem zk_169_8 : zc 169 8 = some (.iload_n 2, 0, 0, 0, 0) := rfl
theorem zk_169_9 : zc 169 9 = some (.iconst (-1), 0, 0, 0, 0) := rfl
theorem zk_169_10 : zc 169 10 = some (.if_icmp .eq 16, 26, 0, 0, 0) := rfl
theorem zk_169_13 : zc 169 13 = some (.iload_n 2, 0, 0, 0, 0) := rfl
theorem zk_169_14 : zc 169 14 = some (.invokestatic 99, 124, 1, 1, 128) := rfl
theorem zk_169_17 : zc 169 17 = some (.ifCond .ne 9, 26, 0, 0, 0) := rfl
theorem zk_169_20 : zc 169 20 = some (.aload_n 0, 0, 0, 0, 0) := rfl
theorem zk_169_21 : zc 169 21 = some (.iconst (-1), 0, 0, 0, 0) := rfl
theorem zk_169_22 : zc 169 22 = some (.invokevirtual 103, 123, 0, 2, 129) := rfl
theorem zk_169_25 : zc 169 25 = some (.ireturn, 0, 0, 0, 0) := rfl
theorem zk_169_26 : zc 169 26 = some (.aload_n 0, 0, 0, 0, 0) := rfl
theorem zk_169_27 : zc 169 27 = some (.getfield 7, 11, 0, 0, 139) := rfl
theorem zk_169_30 : zc 169 30 = some (.sipush 598, 0, 0, 0, 0) := rfl
theorem zk_169_33 : zc 169 33 = some (.iload_n 1, 0, 0, 0, 0) := rfl
theorem zk_169_34 : zc 169 34 = some (.iadd, 0, 0, 0, 0) := rfl
theorem zk_169_35 : zc 169 35 = some (.iaload, 0, 0, 0, 0) := rfl
theorem zk_169_36 : zc 169 36 = some (.istore_n 3, 0, 0, 0, 0) := rfl
theorem zk_169_37 : zc 169 37 = some (.aload_n 0, 0, 0, 0, 0) := rfl
theorem zk_169_38 : zc 169 38 = some (.getfield 7, 11, 0, 0, 139) := rfl
theorem zk_169_41 : zc 169 41 = some (.sipush 598, 0, 0, 0, 0) := rfl
theorem zk_169_44 : zc 169 44 = some (.iload_n 1, 0, 0, 0, 0) := rfl
theorem zk_169_45 : zc 169 45 = some (.iadd, 0, 0, 0, 0) := rfl
theorem zk_169_46 : zc 169 46 = some (.iload_n 2, 0, 0, 0, 0) := rfl
theorem zk_169_47 : zc 169 47 = some (.aload_n 0, 0, 0, 0, 0) := rfl
theorem zk_169_48 : zc 169 48 = some (.getfield 7, 11, 0, 0, 139) := rfl
theorem zk_169_51 : zc 169 51 = some (.sipush 568, 0, 0, 0, 0) := rfl
theorem zk_169_54 : zc 169 54 = some (.iload_n 1, 0, 0, 0, 0) := rfl
theorem zk_169_55 : zc 169 55 = some (.iadd, 0, 0, 0, 0) := rfl
theorem zk_169_56 : zc 169 56 = some (.iaload, 0, 0, 0, 0) := rfl
theorem zk_169_57 : zc 169 57 = some (.if_icmp .ne 7, 64, 0, 0, 0) := rfl
theorem zk_169_60 : zc 169 60 = some (.iconst (-1), 0, 0, 0, 0) := rfl
theorem zk_169_61 : zc 169 61 = some (.goto 4, 65, 0, 0, 0) := rfl
theorem zk_169_64 : zc 169 64 = some (.iload_n 2, 0, 0, 0, 0) := rfl
theorem zk_169_65 : zc 169 65 = some (.iastore, 0, 0, 0, 0) := rfl
theorem zk_169_66 : zc 169 66 = some (.iload_n 3, 0, 0, 0, 0) := rfl
theorem zk_169_67 : zc 169 67 = some (.ireturn, 0, 0, 0, 0) := rfl
theorem zk_174_0 : zc 174 0 = some (.aload_n 0, 0, 0, 0, 0) := rfl
theorem zk_174_1 : zc 174 1 = some (.iload_n 1, 0, 0, 0, 0) := rfl
theorem zk_174_2 : zc 174 2 = some (.invokevirtual 198, 167, 0, 2, 148) := rfl
theorem zk_174_5 : zc 174 5 = some (.ifCond .ne 5, 10, 0, 0, 0) := rfl
theorem zk_174_8 : zc 174 8 = some (.iconst (-1), 0, 0, 0, 0) := rfl
theorem zk_174_9 : zc 174 9 = some (.ireturn, 0, 0, 0, 0) := rfl
theorem zk_174_10 : zc 174 10 = some (.iload_n 2, 0, 0, 0, 0) := rfl
theorem zk_174_11 : zc 174 11 = some (.tableswitch 103 0 5 #[37, 48, 59, 70, 81, 92], 0, 0, 0, 0) := rfl
theorem zk_174_48 : zc 174 48 = some (.aload_n 0, 0, 0, 0, 0) := rfl
theorem zk_174_49 : zc 174 49 = some (.getfield 7, 11, 0, 0, 139) := rfl
theorem zk_174_52 : zc 174 52 = some (.sipush 568, 0, 0, 0, 0) := rfl
theorem zk_174_55 : zc 174 55 = some (.iload_n 1, 0, 0, 0, 0) := rfl
theorem zk_174_56 : zc 174 56 = some (.iadd, 0, 0, 0, 0) := rfl
theorem zk_174_57 : zc 174 57 = some (.iaload, 0, 0, 0, 0) := rfl
theorem zk_174_58 : zc 174 58 = some (.ireturn, 0, 0, 0, 0) := rfl
theorem zk_174_59 : zc 174 59 = some (.aload_n 0, 0, 0, 0, 0) := rfl
theorem zk_174_60 : zc 174 60 = some (.getfield 7, 11, 0, 0, 139) := rfl
theorem zk_174_63 : zc 174 63 = some (.sipush 598, 0, 0, 0, 0) := rfl
theorem zk_174_66 : zc 174 66 = some (.iload_n 1, 0, 0, 0, 0) := rfl
theorem zk_174_67 : zc 174 67 = some (.iadd, 0, 0, 0, 0) := rfl
theorem zk_174_68 : zc 174 68 = some (.iaload, 0, 0, 0, 0) := rfl
theorem zk_174_69 : zc 174 69 = some (.ireturn, 0, 0, 0, 0) := rfl
theorem zk_174_70 : zc 174 70 = some (.aload_n 0, 0, 0, 0, 0) := rfl
theorem zk_174_71 : zc 174 71 = some (.getfield 7, 11, 0, 0, 139) := rfl
theorem zk_174_74 : zc 174 74 = some (.sipush 604, 0, 0, 0, 0) := rfl
theorem zk_174_77 : zc 174 77 = some (.iload_n 1, 0, 0, 0, 0) := rfl
theorem zk_174_78 : zc 174 78 = some (.iadd, 0, 0, 0, 0) := rfl
theorem zk_174_79 : zc 174 79 = some (.iaload, 0, 0, 0, 0) := rfl
theorem zk_174_80 : zc 174 80 = some (.ireturn, 0, 0, 0, 0) := rfl
theorem zk_174_81 : zc 174 81 = some (.aload_n 0, 0, 0, 0, 0) := rfl
theorem zk_174_82 : zc 174 82 = some (.getfield 7, 11, 0, 0, 139) := rfl
theorem zk_174_85 : zc 174 85 = some (.sipush 610, 0, 0, 0, 0) := rfl
theorem zk_174_88 : zc 174 88 = some (.iload_n 1, 0, 0, 0, 0) := rfl
theorem zk_174_89 : zc 174 89 = some (.iadd, 0, 0, 0, 0) := rfl
theorem zk_174_90 : zc 174 90 = some (.iaload, 0, 0, 0, 0) := rfl
theorem zk_174_91 : zc 174 91 = some (.ireturn, 0, 0, 0, 0) := rfl
theorem zk_174_92 : zc 174 92 = some (.aload_n 0, 0, 0, 0, 0) := rfl
theorem zk_174_93 : zc 174 93 = some (.getfield 7, 11, 0, 0, 139) := rfl
theorem zk_174_96 : zc 174 96 = some (.sipush 616, 0, 0, 0, 0) := rfl
theorem zk_174_99 : zc 174 99 = some (.iload_n 1, 0, 0, 0, 0) := rfl
theorem zk_174_100 : zc 174 100 = some (.iadd, 0, 0, 0, 0) := rfl
theorem zk_174_101 : zc 174 101 = some (.iaload, 0, 0, 0, 0) := rfl
theorem zk_174_102 : zc 174 102 = some (.ireturn, 0, 0, 0, 0) := rfl
theorem zk_174_103 : zc 174 103 = some (.aload_n 0, 0, 0, 0, 0) := rfl
theorem zk_174_104 : zc 174 104 = some (.getfield 7, 11, 0, 0, 139) := rfl
theorem zk_174_107 : zc 174 107 = some (.sipush 622, 0, 0, 0, 0) := rfl
theorem zk_174_110 : zc 174 110 = some (.iload_n 1, 0, 0, 0, 0) := rfl
theorem zk_174_111 : zc 174 111 = some (.iadd, 0, 0, 0, 0) := rfl
theorem zk_174_112 : zc 174 112 = some (.iaload, 0, 0, 0, 0) := rfl
theorem zk_174_113 : zc 174 113 = some (.ireturn, 0, 0, 0, 0) := rfl
theorem zk_174_114 : zc 174 114 = some (.iconst (-1), 0, 0, 0, 0) := rfl
theorem zk_174_115 : zc 174 115 = some (.ireturn, 0, 0, 0, 0) := rfl
theorem zk_183_0 : zc 183 0 = some (.iload_n 1, 0, 0, 0, 0) := rfl
theorem zk_183_1 : zc 183 1 = some (.invokestatic 99, 124, 1, 1, 128) := rfl
theorem zk_183_4 : zc 183 4 = some (.ifCond .ne 9, 13, 0, 0, 0) := rfl
theorem zk_183_7 : zc 183 7 = some (.aload_n 0, 0, 0, 0, 0) := rfl
theorem zk_183_8 : zc 183 8 = some (.iconst (-1), 0, 0, 0, 0) := rfl
theorem zk_183_9 : zc 183 9 = some (.invokevirtual 103, 123, 0, 2, 129) := rfl
theorem zk_183_12 : zc 183 12 = some (.ireturn, 0, 0, 0, 0) := rfl
theorem zk_183_13 : zc 183 13 = some (.iload_n 2, 0, 0, 0, 0) := rfl
theorem zk_183_14 : zc 183 14 = some (.iconst 1, 0, 0, 0, 0) := rfl
theorem zk_183_15 : zc 183 15 = some (.if_icmp .lt 24, 39, 0, 0, 0) := rfl
theorem zk_183_18 : zc 183 18 = some (.iload_n 2, 0, 0, 0, 0) := rfl
theorem zk_183_19 : zc 183 19 = some (.bipush 20, 0, 0, 0, 0) := rfl
theorem zk_183_21 : zc 183 21 = some (.if_icmp .gt 18, 39, 0, 0, 0) := rfl
theorem zk_183_24 : zc 183 24 = some (.aload_n 0, 0, 0, 0, 0) := rfl
theorem zk_183_25 : zc 183 25 = some (.getfield 7, 11, 0, 0, 139) := rfl
theorem zk_183_28 : zc 183 28 = some (.iconst 0, 0, 0, 0, 0) := rfl
theorem zk_183_29 : zc 183 29 = some (.iload_n 1, 0, 0, 0, 0) := rfl
theorem zk_183_30 : zc 183 30 = some (.iadd, 0, 0, 0, 0) := rfl
theorem zk_183_31 : zc 183 31 = some (.iaload, 0, 0, 0, 0) := rfl
theorem zk_183_32 : zc 183 32 = some (.iload_n 2, 0, 0, 0, 0) := rfl
theorem zk_183_33 : zc 183 33 = some (.iadd, 0, 0, 0, 0) := rfl
theorem zk_183_34 : zc 183 34 = some (.bipush 60, 0, 0, 0, 0) := rfl
theorem zk_183_36 : zc 183 36 = some (.if_icmp .le 10, 46, 0, 0, 0) := rfl
theorem zk_183_39 : zc 183 39 = some (.aload_n 0, 0, 0, 0, 0) := rfl
theorem zk_183_40 : zc 183 40 = some (.bipush (-6), 0, 0, 0, 0) := rfl
theorem zk_183_42 : zc 183 42 = some (.invokevirtual 103, 123, 0, 2, 129) := rfl
theorem zk_183_45 : zc 183 45 = some (.ireturn, 0, 0, 0, 0) := rfl
theorem zk_183_46 : zc 183 46 = some (.aload_n 0, 0, 0, 0, 0) := rfl
theorem zk_183_47 : zc 183 47 = some (.getfield 7, 11, 0, 0, 139) := rfl
theorem zk_183_50 : zc 183 50 = some (.iconst 0, 0, 0, 0, 0) := rfl
theorem zk_183_51 : zc 183 51 = some (.iload_n 1, 0, 0, 0, 0) := rfl
theorem zk_183_52 : zc 183 52 = some (.iadd, 0, 0, 0, 0) := rfl
theorem zk_183_53 : zc 183 53 = some (.dup2, 0, 0, 0, 0) := rfl
theorem zk_183_54 : zc 183 54 = some (.iaload, 0, 0, 0, 0) := rfl
theorem zk_183_55 : zc 183 55 = some (.iload_n 2, 0, 0, 0, 0) := rfl
theorem zk_183_56 : zc 183 56 = some (.iadd, 0, 0, 0, 0) := rfl
theorem zk_183_57 : zc 183 57 = some (.iastore, 0, 0, 0, 0) := rfl
theorem zk_183_58 : zc 183 58 = some (.aload_n 0, 0, 0, 0, 0) := rfl
theorem zk_183_59 : zc 183 59 = some (.getfield 7, 11, 0, 0, 139) := rfl
theorem zk_183_62 : zc 183 62 = some (.iconst 0, 0, 0, 0, 0) := rfl
theorem zk_183_63 : zc 183 63 = some (.iload_n 1, 0, 0, 0, 0) := rfl
theorem zk_183_64 : zc 183 64 = some (.iadd, 0, 0, 0, 0) := rfl
theorem zk_183_65 : zc 183 65 = some (.iaload, 0, 0, 0, 0) := rfl
theorem zk_183_66 : zc 183 66 = some (.ireturn, 0, 0, 0, 0) := rfl
theorem zk_186_0 : zc 186 0 = some (.iload_n 1, 0, 0, 0, 0) := rfl
theorem zk_186_1 : zc 186 1 = some (.invokestatic 99, 124, 1, 1, 128) := rfl
theorem zk_186_4 : zc 186 4 = some (.ifCond .ne 6, 10, 0, 0, 0) := rfl
theorem zk_186_7 : zc 186 7 = some (.ldc 238, 0, 0, 1000000, 2) := rfl
theorem zk_186_9 : zc 186 9 = some (.ireturn, 0, 0, 0, 0) := rfl
theorem zk_186_10 : zc 186 10 = some (.iload_n 2, 0, 0, 0, 0) := rfl
theorem zk_186_11 : zc 186 11 = some (.tableswitch 110 0 4 #[33, 42, 52, 62, 72], 0, 0, 0, 0) := rfl
theorem zk_186_44 : zc 186 44 = some (.aload_n 0, 0, 0, 0, 0) := rfl
theorem zk_186_45 : zc 186 45 = some (.getfield 7, 11, 0, 0, 139) := rfl
theorem zk_186_48 : zc 186 48 = some (.iconst 0, 0, 0, 0, 0) := rfl
theorem zk_186_49 : zc 186 49 = some (.iload_n 1, 0, 0, 0, 0) := rfl
theorem zk_186_50 : zc 186 50 = some (.iadd, 0, 0, 0, 0) := rfl
theorem zk_186_51 : zc 186 51 = some (.iaload, 0, 0, 0, 0) := rfl
theorem zk_186_52 : zc 186 52 = some (.ireturn, 0, 0, 0, 0) := rfl
theorem zk_186_53 : zc 186 53 = some (.aload_n 0, 0, 0, 0, 0) := rfl
theorem zk_186_54 : zc 186 54 = some (.getfield 7, 11, 0, 0, 139) := rfl
theorem zk_186_57 : zc 186 57 = some (.bipush 25, 0, 0, 0, 0) := rfl
theorem zk_186_59 : zc 186 59 = some (.iload_n 1, 0, 0, 0, 0) := rfl
theorem zk_186_60 : zc 186 60 = some (.iadd, 0, 0, 0, 0) := rfl
theorem zk_186_61 : zc 186 61 = some (.iaload, 0, 0, 0, 0) := rfl
theorem zk_186_62 : zc 186 62 = some (.ireturn, 0, 0, 0, 0) := rfl
theorem zk_186_63 : zc 186 63 = some (.aload_n 0, 0, 0, 0, 0) := rfl
theorem zk_186_64 : zc 186 64 = some (.getfield 7, 11, 0, 0, 139) := rfl
theorem zk_186_67 : zc 186 67 = some (.bipush 50, 0, 0, 0, 0) := rfl
theorem zk_186_69 : zc 186 69 = some (.iload_n 1, 0, 0, 0, 0) := rfl
theorem zk_186_70 : zc 186 70 = some (.iadd, 0, 0, 0, 0) := rfl
theorem zk_186_71 : zc 186 71 = some (.iaload, 0, 0, 0, 0) := rfl
theorem zk_186_72 : zc 186 72 = some (.ireturn, 0, 0, 0, 0) := rfl
theorem zk_186_73 : zc 186 73 = some (.aload_n 0, 0, 0, 0, 0) := rfl
theorem zk_186_74 : zc 186 74 = some (.getfield 7, 11, 0, 0, 139) := rfl
theorem zk_186_77 : zc 186 77 = some (.bipush 75, 0, 0, 0, 0) := rfl
theorem zk_186_79 : zc 186 79 = some (.iload_n 1, 0, 0, 0, 0) := rfl
theorem zk_186_80 : zc 186 80 = some (.iadd, 0, 0, 0, 0) := rfl
theorem zk_186_81 : zc 186 81 = some (.iaload, 0, 0, 0, 0) := rfl
theorem zk_186_82 : zc 186 82 = some (.ireturn, 0, 0, 0, 0) := rfl
theorem zk_186_83 : zc 186 83 = some (.iconst 0, 0, 0, 0, 0) := rfl
theorem zk_186_84 : zc 186 84 = some (.istore_n 3, 0, 0, 0, 0) := rfl
theorem zk_186_85 : zc 186 85 = some (.iload_n 3, 0, 0, 0, 0) := rfl
theorem zk_186_86 : zc 186 86 = some (.aload_n 0, 0, 0, 0, 0) := rfl
theorem zk_186_87 : zc 186 87 = some (.getfield 7, 11, 0, 0, 139) := rfl
theorem zk_186_90 : zc 186 90 = some (.sipush 633, 0, 0, 0, 0) := rfl
theorem zk_186_93 : zc 186 93 = some (.iaload, 0, 0, 0, 0) := rfl
theorem zk_186_94 : zc 186 94 = some (.if_icmp .ge 25, 119, 0, 0, 0) := rfl
theorem zk_186_97 : zc 186 97 = some (.aload_n 0, 0, 0, 0, 0) := rfl
theorem zk_186_98 : zc 186 98 = some (.getfield 7, 11, 0, 0, 139) := rfl
theorem zk_186_101 : zc 186 101 = some (.sipush 250, 0, 0, 0, 0) := rfl
theorem zk_186_104 : zc 186 104 = some (.iload_n 3, 0, 0, 0, 0) := rfl
theorem zk_186_105 : zc 186 105 = some (.iadd, 0, 0, 0, 0) := rfl
theorem zk_186_106 : zc 186 106 = some (.iaload, 0, 0, 0, 0) := rfl
theorem zk_186_107 : zc 186 107 = some (.iload_n 1, 0, 0, 0, 0) := rfl
theorem zk_186_108 : zc 186 108 = some (.if_icmp .ne 5, 113, 0, 0, 0) := rfl
theorem zk_186_111 : zc 186 111 = some (.iload_n 3, 0, 0, 0, 0) := rfl
theorem zk_186_112 : zc 186 112 = some (.ireturn, 0, 0, 0, 0) := rfl
theorem zk_186_113 : zc 186 113 = some (.iinc 3 1, 0, 0, 0, 0) := rfl
theorem zk_186_116 : zc 186 116 = some (.goto (-31), 85, 0, 0, 0) := rfl
theorem zk_186_119 : zc 186 119 = some (.iconst (-1), 0, 0, 0, 0) := rfl
theorem zk_186_120 : zc 186 120 = some (.ireturn, 0, 0, 0, 0) := rfl
theorem zk_186_121 : zc 186 121 = some (.ldc 238, 0, 0, 1000000, 2) := rfl
theorem zk_186_123 : zc 186 123 = some (.ireturn, 0, 0, 0, 0) := rfl
theorem zk_187_0 : zc 187 0 = some (.iload_n 1, 0, 0, 0, 0) := rfl
theorem zk_187_1 : zc 187 1 = some (.iload_n 2, 0, 0, 0, 0) := rfl
theorem zk_187_2 : zc 187 2 = some (.invokestatic 107, 126, 1, 2, 130) := rfl
theorem zk_187_5 : zc 187 5 = some (.istore 4, 0, 0, 0, 0) := rfl
theorem zk_187_7 : zc 187 7 = some (.iload 4, 0, 0, 0, 0) := rfl
theorem zk_187_9 : zc 187 9 = some (.iconst (-1), 0, 0, 0, 0) := rfl
theorem zk_187_10 : zc 187 10 = some (.if_icmp .eq 12, 22, 0, 0, 0) := rfl
theorem zk_187_13 : zc 187 13 = some (.iload_n 3, 0, 0, 0, 0) := rfl
theorem zk_187_14 : zc 187 14 = some (.ifCond .lt 8, 22, 0, 0, 0) := rfl
theorem zk_187_17 : zc 187 17 = some (.iload_n 3, 0, 0, 0, 0) := rfl
theorem zk_187_18 : zc 187 18 = some (.iconst 2, 0, 0, 0, 0) := rfl
theorem zk_187_19 : zc 187 19 = some (.if_icmp .le 5, 24, 0, 0, 0) := rfl
theorem zk_187_22 : zc 187 22 = some (.iconst (-1), 0, 0, 0, 0) := rfl
theorem zk_187_23 : zc 187 23 = some (.ireturn, 0, 0, 0, 0) := rfl
theorem zk_187_24 : zc 187 24 = some (.aload_n 0, 0, 0, 0, 0) := rfl
theorem zk_187_25 : zc 187 25 = some (.getfield 7, 11, 0, 0, 139) := rfl
theorem zk_187_28 : zc 187 28 = some (.iload_n 3, 0, 0, 0, 0) := rfl
theorem zk_187_29 : zc 187 29 = some (.ifCond .ne 8, 37, 0, 0, 0) := rfl
theorem zk_187_32 : zc 187 32 = some (.bipush 100, 0, 0, 0, 0) := rfl
theorem zk_187_34 : zc 187 34 = some (.goto 17, 51, 0, 0, 0) := rfl
theorem zk_187_37 : zc 187 37 = some (.iload_n 3, 0, 0, 0, 0) := rfl
theorem zk_187_38 : zc 187 38 = some (.iconst 1, 0, 0, 0, 0) := rfl
theorem zk_187_39 : zc 187 39 = some (.if_icmp .ne 9, 48, 0, 0, 0) := rfl
theorem zk_187_42 : zc 187 42 = some (.sipush 150, 0, 0, 0, 0) := rfl
theorem zk_187_45 : zc 187 45 = some (.goto 6, 51, 0, 0, 0) := rfl
theorem zk_187_48 : zc 187 48 = some (.sipush 200, 0, 0, 0, 0) := rfl
theorem zk_187_51 : zc 187 51 = some (.iload 4, 0, 0, 0, 0) := rfl
theorem zk_187_53 : zc 187 53 = some (.iadd, 0, 0, 0, 0) := rfl
theorem zk_187_54 : zc 187 54 = some (.iaload, 0, 0, 0, 0) := rfl
theorem zk_187_55 : zc 187 55 = some (.ireturn, 0, 0, 0, 0) := rfl
theorem zk_188_0 : zc 188 0 = some (.iload_n 1, 0, 0, 0, 0) := rfl
theorem zk_188_1 : zc 188 1 = some (.bipush 10, 0, 0, 0, 0) := rfl
theorem zk_188_3 : zc 188 3 = some (.if_icmp .le 19, 22, 0, 0, 0) := rfl
theorem zk_188_6 : zc 188 6 = some (.iload_n 1, 0, 0, 0, 0) := rfl
theorem zk_188_7 : zc 188 7 = some (.bipush 18, 0, 0, 0, 0) := rfl
theorem zk_188_9 : zc 188 9 = some (.if_icmp .ge 13, 22, 0, 0, 0) := rfl
theorem zk_188_12 : zc 188 12 = some (.aload_n 0, 0, 0, 0, 0) := rfl
theorem zk_188_13 : zc 188 13 = some (.getfield 60, 11, 17, 0, 155) := rfl
theorem zk_188_16 : zc 188 16 = some (.iload_n 1, 0, 0, 0, 0) := rfl
theorem zk_188_17 : zc 188 17 = some (.bipush 10, 0, 0, 0, 0) := rfl
theorem zk_188_19 : zc 188 19 = some (.isub, 0, 0, 0, 0) := rfl
theorem zk_188_20 : zc 188 20 = some (.iaload, 0, 0, 0, 0) := rfl
theorem zk_188_21 : zc 188 21 = some (.ireturn, 0, 0, 0, 0) := rfl
theorem zk_188_22 : zc 188 22 = some (.iconst 0, 0, 0, 0, 0) := rfl
theorem zk_188_23 : zc 188 23 = some (.istore_n 2, 0, 0, 0, 0) := rfl
theorem zk_188_24 : zc 188 24 = some (.iload_n 1, 0, 0, 0, 0) := rfl
theorem zk_188_25 : zc 188 25 = some (.tableswitch 266 0 18 #[91, 100, 135, 144, 179, 188, 197, 202, 211, 220, 229, 266, 266, 266, 266, 266, 266, 266, 257], 0, 0, 0, 0) := rfl
theorem zk_188_116 : zc 188 116 = some (.aload_n 0, 0, 0, 0, 0) := rfl
theorem zk_188_117 : zc 188 117 = some (.getfield 7, 11, 0, 0, 139) := rfl
theorem zk_188_120 : zc 188 120 = some (.sipush 633, 0, 0, 0, 0) := rfl
theorem zk_188_123 : zc 188 123 = some (.iaload, 0, 0, 0, 0) := rfl
theorem zk_188_124 : zc 188 124 = some (.ireturn, 0, 0, 0, 0) := rfl
theorem zk_188_125 : zc 188 125 = some (.iconst 0, 0, 0, 0, 0) := rfl
theorem zk_188_126 : zc 188 126 = some (.istore_n 3, 0, 0, 0, 0) := rfl
theorem zk_188_127 : zc 188 127 = some (.iload_n 3, 0, 0, 0, 0) := rfl
theorem zk_188_128 : zc 188 128 = some (.aload_n 0, 0, 0, 0, 0) := rfl
theorem zk_188_129 : zc 188 129 = some (.getfield 7, 11, 0, 0, 139) := rfl
theorem zk_188_132 : zc 188 132 = some (.sipush 633, 0, 0, 0, 0) := rfl
theorem zk_188_135 : zc 188 135 = some (.iaload, 0, 0, 0, 0) := rfl
theorem zk_188_136 : zc 188 136 = some (.if_icmp .ge 22, 158, 0, 0, 0) := rfl
theorem zk_188_139 : zc 188 139 = some (.iload_n 2, 0, 0, 0, 0) := rfl
theorem zk_188_140 : zc 188 140 = some (.aload_n 0, 0, 0, 0, 0) := rfl
theorem zk_188_141 : zc 188 141 = some (.getfield 7, 11, 0, 0, 139) := rfl
theorem zk_188_144 : zc 188 144 = some (.sipush 253, 0, 0, 0, 0) := rfl
theorem zk_188_147 : zc 188 147 = some (.iload_n 3, 0, 0, 0, 0) := rfl
theorem zk_188_148 : zc 188 148 = some (.iadd, 0, 0, 0, 0) := rfl
theorem zk_188_149 : zc 188 149 = some (.iaload, 0, 0, 0, 0) := rfl
theorem zk_188_150 : zc 188 150 = some (.iadd, 0, 0, 0, 0) := rfl
theorem zk_188_151 : zc 188 151 = some (.istore_n 2, 0, 0, 0, 0) := rfl
theorem zk_188_152 : zc 188 152 = some (.iinc 3 1, 0, 0, 0, 0) := rfl
theorem zk_188_155 : zc 188 155 = some (.goto (-28), 127, 0, 0, 0) := rfl
theorem zk_188_158 : zc 188 158 = some (.iload_n 2, 0, 0, 0, 0) := rfl
theorem zk_188_159 : zc 188 159 = some (.ireturn, 0, 0, 0, 0) := rfl
theorem zk_188_160 : zc 188 160 = some (.aload_n 0, 0, 0, 0, 0) := rfl
theorem zk_188_161 : zc 188 161 = some (.getfield 7, 11, 0, 0, 139) := rfl
theorem zk_188_164 : zc 188 164 = some (.sipush 640, 0, 0, 0, 0) := rfl
theorem zk_188_167 : zc 188 167 = some (.iaload, 0, 0, 0, 0) := rfl
theorem zk_188_168 : zc 188 168 = some (.ireturn, 0, 0, 0, 0) := rfl
theorem zk_188_169 : zc 188 169 = some (.iconst 0, 0, 0, 0, 0) := rfl
theorem zk_188_170 : zc 188 170 = some (.istore_n 3, 0, 0, 0, 0) := rfl
theorem zk_188_171 : zc 188 171 = some (.iload_n 3, 0, 0, 0, 0) := rfl
theorem zk_188_172 : zc 188 172 = some (.aload_n 0, 0, 0, 0, 0) := rfl
theorem zk_188_173 : zc 188 173 = some (.getfield 7, 11, 0, 0, 139) := rfl
theorem zk_188_176 : zc 188 176 = some (.sipush 640, 0, 0, 0, 0) := rfl
theorem zk_188_179 : zc 188 179 = some (.iaload, 0, 0, 0, 0) := rfl
theorem zk_188_180 : zc 188 180 = some (.if_icmp .ge 22, 202, 0, 0, 0) := rfl
theorem zk_188_183 : zc 188 183 = some (.iload_n 2, 0, 0, 0, 0) := rfl
theorem zk_188_184 : zc 188 184 = some (.aload_n 0, 0, 0, 0, 0) := rfl
theorem zk_188_185 : zc 188 185 = some (.getfield 7, 11, 0, 0, 139) := rfl
theorem zk_188_188 : zc 188 188 = some (.sipush 628, 0, 0, 0, 0) := rfl
theorem zk_188_191 : zc 188 191 = some (.iload_n 3, 0, 0, 0, 0) := rfl
theorem zk_188_192 : zc 188 192 = some (.iadd, 0, 0, 0, 0) := rfl
theorem zk_188_193 : zc 188 193 = some (.iaload, 0, 0, 0, 0) := rfl
theorem zk_188_194 : zc 188 194 = some (.iadd, 0, 0, 0, 0) := rfl
theorem zk_188_195 : zc 188 195 = some (.istore_n 2, 0, 0, 0, 0) := rfl
theorem zk_188_196 : zc 188 196 = some (.iinc 3 1, 0, 0, 0, 0) := rfl
theorem zk_188_199 : zc 188 199 = some (.goto (-28), 171, 0, 0, 0) := rfl
theorem zk_188_202 : zc 188 202 = some (.iload_n 2, 0, 0, 0, 0) := rfl
theorem zk_188_203 : zc 188 203 = some (.ireturn, 0, 0, 0, 0) := rfl
theorem zk_188_204 : zc 188 204 = some (.aload_n 0, 0, 0, 0, 0) := rfl
theorem zk_188_205 : zc 188 205 = some (.getfield 7, 11, 0, 0, 139) := rfl
theorem zk_188_208 : zc 188 208 = some (.sipush 641, 0, 0, 0, 0) := rfl
theorem zk_188_211 : zc 188 211 = some (.iaload, 0, 0, 0, 0) := rfl
theorem zk_188_212 : zc 188 212 = some (.ireturn, 0, 0, 0, 0) := rfl
theorem zk_188_213 : zc 188 213 = some (.aload_n 0, 0, 0, 0, 0) := rfl
theorem zk_188_214 : zc 188 214 = some (.getfield 7, 11, 0, 0, 139) := rfl
theorem zk_188_217 : zc 188 217 = some (.sipush 642, 0, 0, 0, 0) := rfl
theorem zk_188_220 : zc 188 220 = some (.iaload, 0, 0, 0, 0) := rfl
theorem zk_188_221 : zc 188 221 = some (.ireturn, 0, 0, 0, 0) := rfl
theorem zk_188_222 : zc 188 222 = some (.aload_n 0, 0, 0, 0, 0) := rfl
theorem zk_188_223 : zc 188 223 = some (.invokevirtual 189, 160, 0, 1, 145) := rfl
theorem zk_188_226 : zc 188 226 = some (.ireturn, 0, 0, 0, 0) := rfl
theorem zk_188_227 : zc 188 227 = some (.aload_n 0, 0, 0, 0, 0) := rfl
theorem zk_188_228 : zc 188 228 = some (.getfield 7, 11, 0, 0, 139) := rfl
theorem zk_188_231 : zc 188 231 = some (.sipush 634, 0, 0, 0, 0) := rfl
theorem zk_188_234 : zc 188 234 = some (.iaload, 0, 0, 0, 0) := rfl
theorem zk_188_235 : zc 188 235 = some (.ireturn, 0, 0, 0, 0) := rfl
theorem zk_188_236 : zc 188 236 = some (.aload_n 0, 0, 0, 0, 0) := rfl
theorem zk_188_237 : zc 188 237 = some (.getfield 7, 11, 0, 0, 139) := rfl
theorem zk_188_240 : zc 188 240 = some (.sipush 643, 0, 0, 0, 0) := rfl
theorem zk_188_243 : zc 188 243 = some (.iaload, 0, 0, 0, 0) := rfl
theorem zk_188_244 : zc 188 244 = some (.ireturn, 0, 0, 0, 0) := rfl
theorem zk_188_245 : zc 188 245 = some (.aload_n 0, 0, 0, 0, 0) := rfl
theorem zk_188_246 : zc 188 246 = some (.getfield 7, 11, 0, 0, 139) := rfl
theorem zk_188_249 : zc 188 249 = some (.sipush 644, 0, 0, 0, 0) := rfl
theorem zk_188_252 : zc 188 252 = some (.iaload, 0, 0, 0, 0) := rfl
theorem zk_188_253 : zc 188 253 = some (.ireturn, 0, 0, 0, 0) := rfl
theorem zk_188_254 : zc 188 254 = some (.iconst 0, 0, 0, 0, 0) := rfl
theorem zk_188_255 : zc 188 255 = some (.istore_n 3, 0, 0, 0, 0) := rfl
theorem zk_188_256 : zc 188 256 = some (.iload_n 3, 0, 0, 0, 0) := rfl
theorem zk_188_257 : zc 188 257 = some (.bipush 25, 0, 0, 0, 0) := rfl
theorem zk_188_259 : zc 188 259 = some (.if_icmp .ge 21, 280, 0, 0, 0) := rfl
theorem zk_188_262 : zc 188 262 = some (.iload_n 2, 0, 0, 0, 0) := rfl
theorem zk_188_263 : zc 188 263 = some (.aload_n 0, 0, 0, 0, 0) := rfl
theorem zk_188_264 : zc 188 264 = some (.getfield 7, 11, 0, 0, 139) := rfl
theorem zk_188_267 : zc 188 267 = some (.bipush 25, 0, 0, 0, 0) := rfl
theorem zk_188_269 : zc 188 269 = some (.iload_n 3, 0, 0, 0, 0) := rfl
theorem zk_188_270 : zc 188 270 = some (.iadd, 0, 0, 0, 0) := rfl
theorem zk_188_271 : zc 188 271 = some (.iaload, 0, 0, 0, 0) := rfl
theorem zk_188_272 : zc 188 272 = some (.iadd, 0, 0, 0, 0) := rfl
theorem zk_188_273 : zc 188 273 = some (.istore_n 2, 0, 0, 0, 0) := rfl
theorem zk_188_274 : zc 188 274 = some (.iinc 3 1, 0, 0, 0, 0) := rfl
theorem zk_188_277 : zc 188 277 = some (.goto (-21), 256, 0, 0, 0) := rfl
theorem zk_188_280 : zc 188 280 = some (.iload_n 2, 0, 0, 0, 0) := rfl
theorem zk_188_281 : zc 188 281 = some (.ireturn, 0, 0, 0, 0) := rfl
theorem zk_188_282 : zc 188 282 = some (.aload_n 0, 0, 0, 0, 0) := rfl
theorem zk_188_283 : zc 188 283 = some (.getfield 7, 11, 0, 0, 139) := rfl
theorem zk_188_286 : zc 188 286 = some (.sipush 645, 0, 0, 0, 0) := rfl
theorem zk_188_289 : zc 188 289 = some (.iaload, 0, 0, 0, 0) := rfl
theorem zk_188_290 : zc 188 290 = some (.ireturn, 0, 0, 0, 0) := rfl
theorem zk_188_291 : zc 188 291 = some (.ldc 239, 0, 0, -1000001, 3) := rfl
theorem zk_188_293 : zc 188 293 = some (.ireturn, 0, 0, 0, 0) := rfl
theorem sb62_9be9b53 : ∀ t i k j, MT 49 49 49 49 t i k j → MK 448 568 641 642 t i k j := by
  intro t i k j h
  unfold MT at h
  unfold MK
  omega
theorem sb62_16523e3 : ∀ t i k j, MT 49 49 49 49 t i k j → MJ 472 484 t i k j := by
  intro t i k j h
  unfold MT at h
  unfold MJ
  omega
/-- WModel.raise -/
theorem m_165 {xs : Nat × (Nat → Int32)} (p0 : Int) (p1 : Int) (hp0 : -2147483648 ≤ p0 ∧ p0 ≤ 2147483647) (hp1 : -2147483648 ≤ p1 ∧ p1 ≤ 2147483647) (σ : ZS) (hI : Inv σ)   : CT xs 2 165 [av 35 0 0, iv p0, iv p1] σ (fun v σ' => ∃ y, v = some (iv y) ∧ (-2147483648 ≤ y ∧ y ≤ 2147483647) ∧ IF (MJ 472 484) σ σ' ∧ (True)) := by
  refine G_ct (J := (fun σ' => IF (MJ 472 484) σ σ' ∧ True)) (L := [(0, av 35 0 0), (1, iv p0), (2, iv p1)]) (nL := 3) rfl rfl rfl ⟨IF.rf hI, trivial⟩ ?_
  refine T_ld zk_165_0 rfl rfl rfl (pc' := 1) rfl ?_
  refine T_ld zk_165_1 rfl rfl rfl (pc' := 2) rfl ?_
  refine G_learn (t := 36) (i := 0) (k := 0) (j := 641) (lo := 0) (hi := 12) (J2 := fun y1 => (fun σ' => IF (MJ 472 484) σ σ' ∧ σ' 36 0 0 641 = y1 ∧ True)) (vd_36 (by omega)) (fun σ' h => h.1.1) (fun _ h => h.2.2.2.2.2.2.2.2.2.2.2.2.1 (by omega) (by omega)) (fun σ' y h hy => ⟨h.1, hy, trivial⟩) (fun y1 hy1 hy1' => ?_)
  refine T_calli (K := fun y2 σ' => ((y2 = 0 ∧ (p0 < 0 ∨ y1 ≤ p0)) ∨ (y2 = 1 ∧ 0 ≤ p0 ∧ p0 < y1)) ∧ (fun σ' => IF (MJ 472 484) σ σ' ∧ σ' 36 0 0 641 = y1 ∧ True) σ') (r := []) zk_165_2 rfl rfl rfl rfl rfl rfl (Or.inr ⟨_, _, _, _, rfl, vd_35, rfl⟩) (fun σ' h => (m_139 p0 y1 (by omega) (by omega) σ' h.1.1 (h.2.1)).le (Nat.le_of_ble_eq_true rfl) (fun v σ2 ⟨y, h1, h2, h3, h4⟩ => ⟨y, h1, h2, h.1.tr h3 MN_sub, (h3.2 _ _ _ _ (fun q => q)).trans (h.2.1), trivial⟩)) (pc' := 5) rfl (fun y2 => ?_)
  refine G_ex (fun hy2 => ?_)
  refine T_if_ne zk_165_5 (by omega) (pc' := 8) rfl (fun h3 => ?_) (fun h4 => ?_)
  ·
    refine T_ld zk_165_14 rfl rfl rfl (pc' := 15) rfl ?_
    refine T_op zk_165_15 rfl X_ic (pc' := 16) rfl ?_
    refine T_icmp_lt zk_165_16 (by omega) (by omega) (pc' := 19) rfl (fun h5 => ?_) (fun h6 => ?_)
    ·
      refine T_ld zk_165_43 rfl rfl rfl (pc' := 44) rfl ?_
      refine T_op zk_165_44 rfl (X_bi (v := -6) (by decide)) (pc' := 46) rfl ?_
      refine T_calli (K := fun y7 σ' => (y7 = (-6)) ∧ (fun σ' => IF (MJ 472 484) σ σ' ∧ σ' 36 0 0 641 = y1 ∧ True) σ') (r := []) zk_165_46 rfl rfl rfl rfl rfl rfl (Or.inr ⟨_, _, _, _, rfl, vd_35, rfl⟩) (fun σ' h => (m_123 ((-6)) (by omega) σ' h.1.1 ).le (Nat.le_of_ble_eq_true rfl) (fun v σ2 ⟨y, h1, h2, h3, h4⟩ => ⟨y, h1, h2, h.1.tr h3 sb62_16523e3, (h3.2 _ _ _ _ (by first | exact nMT rfl | (unfold MT; omega))).trans (h.2.1), trivial⟩)) (pc' := 49) rfl (fun y7 => ?_)
      refine G_ex (fun hy7 => ?_)
      obtain rfl : y7 = (-6) := by omega
      exact T_iret zk_165_49 rfl (fun σ' h => ⟨_, rfl, (by omega), h.1, trivial⟩)
    ·
      refine T_ld zk_165_19 rfl rfl rfl (pc' := 20) rfl ?_
      refine T_op zk_165_20 rfl (X_bi (v := 50) (by decide)) (pc' := 22) rfl ?_
      refine T_icmp_gt zk_165_22 (by omega) (by omega) (pc' := 25) rfl (fun h8 => ?_) (fun h9 => ?_)
      ·
        refine T_ld zk_165_43 rfl rfl rfl (pc' := 44) rfl ?_
        refine T_op zk_165_44 rfl (X_bi (v := -6) (by decide)) (pc' := 46) rfl ?_
        refine T_calli (K := fun y10 σ' => (y10 = (-6)) ∧ (fun σ' => IF (MJ 472 484) σ σ' ∧ σ' 36 0 0 641 = y1 ∧ True) σ') (r := []) zk_165_46 rfl rfl rfl rfl rfl rfl (Or.inr ⟨_, _, _, _, rfl, vd_35, rfl⟩) (fun σ' h => (m_123 ((-6)) (by omega) σ' h.1.1 ).le (Nat.le_of_ble_eq_true rfl) (fun v σ2 ⟨y, h1, h2, h3, h4⟩ => ⟨y, h1, h2, h.1.tr h3 sb62_16523e3, (h3.2 _ _ _ _ (by first | exact nMT rfl | (unfold MT; omega))).trans (h.2.1), trivial⟩)) (pc' := 49) rfl (fun y10 => ?_)
        refine G_ex (fun hy10 => ?_)
        obtain rfl : y10 = (-6) := by omega
        exact T_iret zk_165_49 rfl (fun σ' h => ⟨_, rfl, (by omega), h.1, trivial⟩)
      ·
        refine T_ld zk_165_25 rfl rfl rfl (pc' := 26) rfl ?_
        refine T_getR (t' := 36) (i' := 0) (k' := 0) zk_165_26 rfl rfl rfl vd_35 (pc' := 29) rfl ?_
        refine T_op zk_165_29 rfl (X_si (v := 472) (by decide)) (pc' := 32) rfl ?_
        refine T_ld zk_165_32 rfl rfl rfl (pc' := 33) rfl ?_
        refine T_op zk_165_33 rfl X_add (pc' := 34) rfl ?_
        refine G_iald (lo := -2147483648) (hi := 2147483647) (ln := 646) zk_165_34 rfl rfl (vd_36 (by omega)) (by omega) (by omega) (by omega) (fun σ' h => h.1.1) (fun _ h => (by have q := h.1; omega)) (pc' := 35) rfl (fun y11 hy11 hy11' => ?_)
        refine T_ld zk_165_35 rfl rfl rfl (pc' := 36) rfl ?_
        refine G_unk zk_165_36 rfl (pc' := 37) rfl (fun y12 hy12 hy12' => ?_)
        refine T_op zk_165_37 rfl (X_si (v := 300) (by decide)) (pc' := 40) rfl ?_
        refine T_icmp_le zk_165_40 (by omega) (by omega) (pc' := 43) rfl (fun h13 => ?_) (fun h14 => ?_)
        ·
          refine T_ld zk_165_50 rfl rfl rfl (pc' := 51) rfl ?_
          refine T_getR (t' := 36) (i' := 0) (k' := 0) zk_165_51 rfl rfl rfl vd_35 (pc' := 54) rfl ?_
          refine T_op zk_165_54 rfl (X_si (v := 472) (by decide)) (pc' := 57) rfl ?_
          refine T_ld zk_165_57 rfl rfl rfl (pc' := 58) rfl ?_
          refine T_op zk_165_58 rfl X_add (pc' := 59) rfl ?_
          refine T_op (st' := [iv (472 + p0), av 36 0 0, iv (472 + p0), av 36 0 0]) zk_165_59 rfl rfl (pc' := 60) rfl ?_
          refine G_iald (lo := -2147483648) (hi := 2147483647) (ln := 646) zk_165_60 rfl rfl (vd_36 (by omega)) (by omega) (by omega) (by omega) (fun σ' h => h.1.1) (fun _ h => (by have q := h.1; omega)) (pc' := 61) rfl (fun y15 hy15 hy15' => ?_)
          refine T_ld zk_165_61 rfl rfl rfl (pc' := 62) rfl ?_
          refine G_unk zk_165_62 rfl (pc' := 63) rfl (fun y16 hy16 hy16' => ?_)
          refine G_iast (J' := (fun σ' => IF (MJ 472 484) σ σ' ∧ σ' 36 0 0 641 = y1 ∧ True)) (ln := 646) zk_165_63 rfl rfl (vd_36 (by omega)) (by omega) (by omega) (by omega) (fun σ' h => ⟨h.1.up (by simp only [rgP] <;> omega) (by first | exact pMJ rfl | (unfold MJ; omega)), (up_ne (by omega)).trans (h.2.1), trivial⟩) (pc' := 64) rfl ?_
          refine T_ld zk_165_64 rfl rfl rfl (pc' := 65) rfl ?_
          refine T_getR (t' := 36) (i' := 0) (k' := 0) zk_165_65 rfl rfl rfl vd_35 (pc' := 68) rfl ?_
          refine T_op zk_165_68 rfl (X_si (v := 472) (by decide)) (pc' := 71) rfl ?_
          refine T_ld zk_165_71 rfl rfl rfl (pc' := 72) rfl ?_
          refine T_op zk_165_72 rfl X_add (pc' := 73) rfl ?_
          refine G_iald (lo := -2147483648) (hi := 2147483647) (ln := 646) zk_165_73 rfl rfl (vd_36 (by omega)) (by omega) (by omega) (by omega) (fun σ' h => h.1.1) (fun _ h => (by have q := h.1; omega)) (pc' := 74) rfl (fun y17 hy17 hy17' => ?_)
          exact T_iret zk_165_74 rfl (fun σ' h => ⟨_, rfl, (by omega), h.1, trivial⟩)
        ·
          refine T_ld zk_165_43 rfl rfl rfl (pc' := 44) rfl ?_
          refine T_op zk_165_44 rfl (X_bi (v := -6) (by decide)) (pc' := 46) rfl ?_
          refine T_calli (K := fun y18 σ' => (y18 = (-6)) ∧ (fun σ' => IF (MJ 472 484) σ σ' ∧ σ' 36 0 0 641 = y1 ∧ True) σ') (r := []) zk_165_46 rfl rfl rfl rfl rfl rfl (Or.inr ⟨_, _, _, _, rfl, vd_35, rfl⟩) (fun σ' h => (m_123 ((-6)) (by omega) σ' h.1.1 ).le (Nat.le_of_ble_eq_true rfl) (fun v σ2 ⟨y, h1, h2, h3, h4⟩ => ⟨y, h1, h2, h.1.tr h3 sb62_16523e3, (h3.2 _ _ _ _ (by first | exact nMT rfl | (unfold MT; omega))).trans (h.2.1), trivial⟩)) (pc' := 49) rfl (fun y18 => ?_)
          refine G_ex (fun hy18 => ?_)
          obtain rfl : y18 = (-6) := by omega
          exact T_iret zk_165_49 rfl (fun σ' h => ⟨_, rfl, (by omega), h.1, trivial⟩)
  ·
    refine T_ld zk_165_8 rfl rfl rfl (pc' := 9) rfl ?_
    refine T_op zk_165_9 rfl X_ic (pc' := 10) rfl ?_
    refine T_calli (K := fun y19 σ' => (y19 = (-1)) ∧ (fun σ' => IF (MJ 472 484) σ σ' ∧ σ' 36 0 0 641 = y1 ∧ True) σ') (r := []) zk_165_10 rfl rfl rfl rfl rfl rfl (Or.inr ⟨_, _, _, _, rfl, vd_35, rfl⟩) (fun σ' h => (m_123 ((-1)) (by omega) σ' h.1.1 ).le (Nat.le_of_ble_eq_true rfl) (fun v σ2 ⟨y, h1, h2, h3, h4⟩ => ⟨y, h1, h2, h.1.tr h3 sb62_16523e3, (h3.2 _ _ _ _ (by first | exact nMT rfl | (unfold MT; omega))).trans (h.2.1), trivial⟩)) (pc' := 13) rfl (fun y19 => ?_)
    refine G_ex (fun hy19 => ?_)
    obtain rfl : y19 = (-1) := by omega
    exact T_iret zk_165_13 rfl (fun σ' h => ⟨_, rfl, (by omega), h.1, trivial⟩)
/-- WModel.about -/
theorem m_166 {xs : Nat × (Nat → Int32)} (p0 : Int) (p1 : Int) (hp0 : -2147483648 ≤ p0 ∧ p0 ≤ 2147483647) (hp1 : -2147483648 ≤ p1 ∧ p1 ≤ 2147483647) (σ : ZS) (hI : Inv σ)   : CT xs 2 166 [av 35 0 0, iv p0, iv p1] σ (fun v σ' => ∃ y, v = some (iv y) ∧ (-2147483648 ≤ y ∧ y ≤ 2147483647) ∧ IF MN σ σ' ∧ (True)) := by
  refine G_ct (J := (fun σ' => IF MN σ σ' ∧ True)) (L := [(0, av 35 0 0), (1, iv p0), (2, iv p1)]) (nL := 3) rfl rfl rfl ⟨IF.rf hI, trivial⟩ ?_
  refine T_ld zk_166_0 rfl rfl rfl (pc' := 1) rfl ?_
  refine T_ld zk_166_1 rfl rfl rfl (pc' := 2) rfl ?_
  refine G_learn (t := 36) (i := 0) (k := 0) (j := 641) (lo := 0) (hi := 12) (J2 := fun y1 => (fun σ' => IF MN σ σ' ∧ σ' 36 0 0 641 = y1 ∧ True)) (vd_36 (by omega)) (fun σ' h => h.1.1) (fun _ h => h.2.2.2.2.2.2.2.2.2.2.2.2.1 (by omega) (by omega)) (fun σ' y h hy => ⟨h.1, hy, trivial⟩) (fun y1 hy1 hy1' => ?_)
  refine T_calli (K := fun y2 σ' => ((y2 = 0 ∧ (p0 < 0 ∨ y1 ≤ p0)) ∨ (y2 = 1 ∧ 0 ≤ p0 ∧ p0 < y1)) ∧ (fun σ' => IF MN σ σ' ∧ σ' 36 0 0 641 = y1 ∧ True) σ') (r := []) zk_166_2 rfl rfl rfl rfl rfl rfl (Or.inr ⟨_, _, _, _, rfl, vd_35, rfl⟩) (fun σ' h => (m_139 p0 y1 (by omega) (by omega) σ' h.1.1 (h.2.1)).le (Nat.le_of_ble_eq_true rfl) (fun v σ2 ⟨y, h1, h2, h3, h4⟩ => ⟨y, h1, h2, h.1.tr h3 MN_sub, (h3.2 _ _ _ _ (fun q => q)).trans (h.2.1), trivial⟩)) (pc' := 5) rfl (fun y2 => ?_)
  refine G_ex (fun hy2 => ?_)
  refine T_if_ne zk_166_5 (by omega) (pc' := 8) rfl (fun h3 => ?_) (fun h4 => ?_)
  ·
    refine T_ld zk_166_10 rfl rfl rfl (pc' := 11) rfl ?_
    by_cases h5 : p1 = 0
    · subst h5
      refine T_br (t := 56) zk_166_11 rfl rfl rfl (fun _ => rfl) rfl ?_
      refine T_ld zk_166_56 rfl rfl rfl (pc' := 57) rfl ?_
      refine T_getR (t' := 36) (i' := 0) (k' := 0) zk_166_57 rfl rfl rfl vd_35 (pc' := 60) rfl ?_
      refine T_op zk_166_60 rfl (X_si (v := 448) (by decide)) (pc' := 63) rfl ?_
      refine T_ld zk_166_63 rfl rfl rfl (pc' := 64) rfl ?_
      refine T_op zk_166_64 rfl X_add (pc' := 65) rfl ?_
      refine G_iald (lo := -2147483648) (hi := 2147483647) (ln := 646) zk_166_65 rfl rfl (vd_36 (by omega)) (by omega) (by omega) (by omega) (fun σ' h => h.1.1) (fun _ h => (by have q := h.1; omega)) (pc' := 66) rfl (fun y6 hy6 hy6' => ?_)
      exact T_iret zk_166_66 rfl (fun σ' h => ⟨_, rfl, (by omega), h.1, trivial⟩)
    by_cases h7 : p1 = 1
    · subst h7
      refine T_br (t := 67) zk_166_11 rfl rfl rfl (fun _ => rfl) rfl ?_
      refine T_ld zk_166_67 rfl rfl rfl (pc' := 68) rfl ?_
      refine T_getR (t' := 36) (i' := 0) (k' := 0) zk_166_68 rfl rfl rfl vd_35 (pc' := 71) rfl ?_
      refine T_op zk_166_71 rfl (X_si (v := 460) (by decide)) (pc' := 74) rfl ?_
      refine T_ld zk_166_74 rfl rfl rfl (pc' := 75) rfl ?_
      refine T_op zk_166_75 rfl X_add (pc' := 76) rfl ?_
      refine G_iald (lo := 0) (hi := 24) (ln := 646) zk_166_76 rfl rfl (vd_36 (by omega)) (by omega) (by omega) (by omega) (fun σ' h => h.1.1) (fun _ h => h.2.2.1 (by omega) (by omega)) (pc' := 77) rfl (fun y8 hy8 hy8' => ?_)
      exact T_iret zk_166_77 rfl (fun σ' h => ⟨_, rfl, (by omega), h.1, trivial⟩)
    by_cases h9 : p1 = 2
    · subst h9
      refine T_br (t := 78) zk_166_11 rfl rfl rfl (fun _ => rfl) rfl ?_
      refine T_ld zk_166_78 rfl rfl rfl (pc' := 79) rfl ?_
      refine T_getR (t' := 36) (i' := 0) (k' := 0) zk_166_79 rfl rfl rfl vd_35 (pc' := 82) rfl ?_
      refine T_op zk_166_82 rfl (X_si (v := 472) (by decide)) (pc' := 85) rfl ?_
      refine T_ld zk_166_85 rfl rfl rfl (pc' := 86) rfl ?_
      refine T_op zk_166_86 rfl X_add (pc' := 87) rfl ?_
      refine G_iald (lo := -2147483648) (hi := 2147483647) (ln := 646) zk_166_87 rfl rfl (vd_36 (by omega)) (by omega) (by omega) (by omega) (fun σ' h => h.1.1) (fun _ h => (by have q := h.1; omega)) (pc' := 88) rfl (fun y10 hy10 hy10' => ?_)
      exact T_iret zk_166_88 rfl (fun σ' h => ⟨_, rfl, (by omega), h.1, trivial⟩)
    by_cases h11 : p1 = 3
    · subst h11
      refine T_br (t := 89) zk_166_11 rfl rfl rfl (fun _ => rfl) rfl ?_
      refine T_ld zk_166_89 rfl rfl rfl (pc' := 90) rfl ?_
      refine T_getR (t' := 36) (i' := 0) (k' := 0) zk_166_90 rfl rfl rfl vd_35 (pc' := 93) rfl ?_
      refine T_op zk_166_93 rfl (X_si (v := 508) (by decide)) (pc' := 96) rfl ?_
      refine T_ld zk_166_96 rfl rfl rfl (pc' := 97) rfl ?_
      refine T_op zk_166_97 rfl X_add (pc' := 98) rfl ?_
      refine G_iald (lo := -2147483648) (hi := 2147483647) (ln := 646) zk_166_98 rfl rfl (vd_36 (by omega)) (by omega) (by omega) (by omega) (fun σ' h => h.1.1) (fun _ h => (by have q := h.1; omega)) (pc' := 99) rfl (fun y12 hy12 hy12' => ?_)
      exact T_iret zk_166_99 rfl (fun σ' h => ⟨_, rfl, (by omega), h.1, trivial⟩)
    by_cases h13 : p1 = 4
    · subst h13
      refine T_br (t := 100) zk_166_11 rfl rfl rfl (fun _ => rfl) rfl ?_
      refine T_ld zk_166_100 rfl rfl rfl (pc' := 101) rfl ?_
      refine T_getR (t' := 36) (i' := 0) (k' := 0) zk_166_101 rfl rfl rfl vd_35 (pc' := 104) rfl ?_
      refine T_op zk_166_104 rfl (X_si (v := 520) (by decide)) (pc' := 107) rfl ?_
      refine T_ld zk_166_107 rfl rfl rfl (pc' := 108) rfl ?_
      refine T_op zk_166_108 rfl X_add (pc' := 109) rfl ?_
      refine G_iald (lo := -2147483648) (hi := 2147483647) (ln := 646) zk_166_109 rfl rfl (vd_36 (by omega)) (by omega) (by omega) (by omega) (fun σ' h => h.1.1) (fun _ h => (by have q := h.1; omega)) (pc' := 110) rfl (fun y14 hy14 hy14' => ?_)
      exact T_iret zk_166_110 rfl (fun σ' h => ⟨_, rfl, (by omega), h.1, trivial⟩)
    by_cases h15 : p1 = 5
    · subst h15
      refine T_br (t := 111) zk_166_11 rfl rfl rfl (fun _ => rfl) rfl ?_
      refine T_ld zk_166_111 rfl rfl rfl (pc' := 112) rfl ?_
      refine T_getR (t' := 36) (i' := 0) (k' := 0) zk_166_112 rfl rfl rfl vd_35 (pc' := 115) rfl ?_
      refine T_op zk_166_115 rfl (X_si (v := 532) (by decide)) (pc' := 118) rfl ?_
      refine T_ld zk_166_118 rfl rfl rfl (pc' := 119) rfl ?_
      refine T_op zk_166_119 rfl X_add (pc' := 120) rfl ?_
      refine G_iald (lo := -2147483648) (hi := 2147483647) (ln := 646) zk_166_120 rfl rfl (vd_36 (by omega)) (by omega) (by omega) (by omega) (fun σ' h => h.1.1) (fun _ h => (by have q := h.1; omega)) (pc' := 121) rfl (fun y16 hy16 hy16' => ?_)
      exact T_iret zk_166_121 rfl (fun σ' h => ⟨_, rfl, (by omega), h.1, trivial⟩)
    by_cases h17 : p1 = 6
    · subst h17
      refine T_br (t := 122) zk_166_11 rfl rfl rfl (fun _ => rfl) rfl ?_
      refine T_ld zk_166_122 rfl rfl rfl (pc' := 123) rfl ?_
      refine T_getR (t' := 36) (i' := 0) (k' := 0) zk_166_123 rfl rfl rfl vd_35 (pc' := 126) rfl ?_
      refine T_op zk_166_126 rfl (X_si (v := 544) (by decide)) (pc' := 129) rfl ?_
      refine T_ld zk_166_129 rfl rfl rfl (pc' := 130) rfl ?_
      refine T_op zk_166_130 rfl X_add (pc' := 131) rfl ?_
      refine G_iald (lo := -2147483648) (hi := 2147483647) (ln := 646) zk_166_131 rfl rfl (vd_36 (by omega)) (by omega) (by omega) (by omega) (fun σ' h => h.1.1) (fun _ h => (by have q := h.1; omega)) (pc' := 132) rfl (fun y18 hy18 hy18' => ?_)
      exact T_iret zk_166_132 rfl (fun σ' h => ⟨_, rfl, (by omega), h.1, trivial⟩)
    by_cases h19 : p1 = 7
    · subst h19
      refine T_br (t := 133) zk_166_11 rfl rfl rfl (fun _ => rfl) rfl ?_
      refine T_ld zk_166_133 rfl rfl rfl (pc' := 134) rfl ?_
      refine T_getR (t' := 36) (i' := 0) (k' := 0) zk_166_134 rfl rfl rfl vd_35 (pc' := 137) rfl ?_
      refine T_op zk_166_137 rfl (X_si (v := 556) (by decide)) (pc' := 140) rfl ?_
      refine T_ld zk_166_140 rfl rfl rfl (pc' := 141) rfl ?_
      refine T_op zk_166_141 rfl X_add (pc' := 142) rfl ?_
      refine G_iald (lo := -2147483648) (hi := 2147483647) (ln := 646) zk_166_142 rfl rfl (vd_36 (by omega)) (by omega) (by omega) (by omega) (fun σ' h => h.1.1) (fun _ h => (by have q := h.1; omega)) (pc' := 143) rfl (fun y20 hy20 hy20' => ?_)
      exact T_iret zk_166_143 rfl (fun σ' h => ⟨_, rfl, (by omega), h.1, trivial⟩)
    refine T_tso (t := 144) zk_166_11 (by omega) (by omega) (by omega) ?_
    refine T_op zk_166_144 rfl X_ic (pc' := 145) rfl ?_
    exact T_iret zk_166_145 rfl (fun σ' h => ⟨_, rfl, (by omega), h.1, trivial⟩)
  ·
    refine T_op zk_166_8 rfl X_ic (pc' := 9) rfl ?_
    exact T_iret zk_166_9 rfl (fun σ' h => ⟨_, rfl, (by omega), h.1, trivial⟩)
theorem sb62_750be88 : ∀ t i k j, MT 49 49 49 49 t i k j → MK 568 628 642 643 t i k j := by
  intro t i k j h
  unfold MT at h
  unfold MK
  omega
/-- WModel.boat -/
theorem m_168 {xs : Nat × (Nat → Int32)} (p0 : Int) (p1 : Int) (p2 : Int) (p3 : Int) (p4 : Int) (hp0 : -2147483648 ≤ p0 ∧ p0 ≤ 2147483647) (hp1 : -2147483648 ≤ p1 ∧ p1 ≤ 2147483647) (hp2 : -2147483648 ≤ p2 ∧ p2 ≤ 2147483647) (hp3 : -2147483648 ≤ p3 ∧ p3 ≤ 2147483647) (hp4 : -2147483648 ≤ p4 ∧ p4 ≤ 2147483647) (σ : ZS) (hI : Inv σ)   : CT xs 2 168 [av 35 0 0, iv p0, iv p1, iv p2, iv p3, iv p4] σ (fun v σ' => ∃ y, v = some (iv y) ∧ (-2147483648 ≤ y ∧ y ≤ 2147483647) ∧ IF (MK 568 628 642 643) σ σ' ∧ (True)) := by
  refine G_ct (J := (fun σ' => IF (MK 568 628 642 643) σ σ' ∧ True)) (L := [(0, av 35 0 0), (1, iv p0), (2, iv p1), (3, iv p2), (4, iv p3), (5, iv p4)]) (nL := 8) rfl rfl rfl ⟨IF.rf hI, trivial⟩ ?_
  refine T_ld zk_168_0 rfl rfl rfl (pc' := 1) rfl ?_
  refine T_calli (K := fun y1 σ' => ((y1 = 0 ∧ (p0 < 0 ∨ 24 < p0)) ∨ (y1 = 1 ∧ 0 ≤ p0 ∧ p0 ≤ 24)) ∧ (fun σ' => IF (MK 568 628 642 643) σ σ' ∧ True) σ') (r := []) zk_168_1 rfl rfl rfl rfl rfl rfl (Or.inl (Or.inl rfl)) (fun σ' h => (m_124 p0 (by omega) σ' h.1.1 ).le (Nat.le_of_ble_eq_true rfl) (fun v σ2 ⟨y, h1, h2, h3, h4⟩ => ⟨y, h1, h2, h.1.tr h3 MN_sub, trivial⟩)) (pc' := 4) rfl (fun y1 => ?_)
  refine G_ex (fun hy1 => ?_)
  refine T_if_ne zk_168_4 (by omega) (pc' := 7) rfl (fun h2 => ?_) (fun h3 => ?_)
  ·
    refine T_ld zk_168_13 rfl rfl rfl (pc' := 14) rfl ?_
    refine T_op zk_168_14 rfl X_ic (pc' := 15) rfl ?_
    refine T_icmp_lt zk_168_15 (by omega) (by omega) (pc' := 18) rfl (fun h4 => ?_) (fun h5 => ?_)
    ·
      refine T_ld zk_168_60 rfl rfl rfl (pc' := 61) rfl ?_
      refine T_op zk_168_61 rfl (X_bi (v := -6) (by decide)) (pc' := 63) rfl ?_
      refine T_calli (K := fun y6 σ' => (y6 = (-6)) ∧ (fun σ' => IF (MK 568 628 642 643) σ σ' ∧ True) σ') (r := []) zk_168_63 rfl rfl rfl rfl rfl rfl (Or.inr ⟨_, _, _, _, rfl, vd_35, rfl⟩) (fun σ' h => (m_123 ((-6)) (by omega) σ' h.1.1 ).le (Nat.le_of_ble_eq_true rfl) (fun v σ2 ⟨y, h1, h2, h3, h4⟩ => ⟨y, h1, h2, h.1.tr h3 sb62_750be88, trivial⟩)) (pc' := 66) rfl (fun y6 => ?_)
      refine G_ex (fun hy6 => ?_)
      obtain rfl : y6 = (-6) := by omega
      exact T_iret zk_168_66 rfl (fun σ' h => ⟨_, rfl, (by omega), h.1, trivial⟩)
    ·
      refine T_ld zk_168_18 rfl rfl rfl (pc' := 19) rfl ?_
      refine T_op zk_168_19 rfl (X_bi (v := 60) (by decide)) (pc' := 21) rfl ?_
      refine T_icmp_gt zk_168_21 (by omega) (by omega) (pc' := 24) rfl (fun h7 => ?_) (fun h8 => ?_)
      ·
        refine T_ld zk_168_60 rfl rfl rfl (pc' := 61) rfl ?_
        refine T_op zk_168_61 rfl (X_bi (v := -6) (by decide)) (pc' := 63) rfl ?_
        refine T_calli (K := fun y9 σ' => (y9 = (-6)) ∧ (fun σ' => IF (MK 568 628 642 643) σ σ' ∧ True) σ') (r := []) zk_168_63 rfl rfl rfl rfl rfl rfl (Or.inr ⟨_, _, _, _, rfl, vd_35, rfl⟩) (fun σ' h => (m_123 ((-6)) (by omega) σ' h.1.1 ).le (Nat.le_of_ble_eq_true rfl) (fun v σ2 ⟨y, h1, h2, h3, h4⟩ => ⟨y, h1, h2, h.1.tr h3 sb62_750be88, trivial⟩)) (pc' := 66) rfl (fun y9 => ?_)
        refine G_ex (fun hy9 => ?_)
        obtain rfl : y9 = (-6) := by omega
        exact T_iret zk_168_66 rfl (fun σ' h => ⟨_, rfl, (by omega), h.1, trivial⟩)
      ·
        refine T_ld zk_168_24 rfl rfl rfl (pc' := 25) rfl ?_
        refine T_op zk_168_25 rfl X_ic (pc' := 26) rfl ?_
        refine T_icmp_lt zk_168_26 (by omega) (by omega) (pc' := 29) rfl (fun h10 => ?_) (fun h11 => ?_)
        ·
          refine T_ld zk_168_60 rfl rfl rfl (pc' := 61) rfl ?_
          refine T_op zk_168_61 rfl (X_bi (v := -6) (by decide)) (pc' := 63) rfl ?_
          refine T_calli (K := fun y12 σ' => (y12 = (-6)) ∧ (fun σ' => IF (MK 568 628 642 643) σ σ' ∧ True) σ') (r := []) zk_168_63 rfl rfl rfl rfl rfl rfl (Or.inr ⟨_, _, _, _, rfl, vd_35, rfl⟩) (fun σ' h => (m_123 ((-6)) (by omega) σ' h.1.1 ).le (Nat.le_of_ble_eq_true rfl) (fun v σ2 ⟨y, h1, h2, h3, h4⟩ => ⟨y, h1, h2, h.1.tr h3 sb62_750be88, trivial⟩)) (pc' := 66) rfl (fun y12 => ?_)
          refine G_ex (fun hy12 => ?_)
          obtain rfl : y12 = (-6) := by omega
          exact T_iret zk_168_66 rfl (fun σ' h => ⟨_, rfl, (by omega), h.1, trivial⟩)
        ·
          refine T_ld zk_168_29 rfl rfl rfl (pc' := 30) rfl ?_
          refine T_op zk_168_30 rfl (X_bi (v := 99) (by decide)) (pc' := 32) rfl ?_
          refine T_icmp_gt zk_168_32 (by omega) (by omega) (pc' := 35) rfl (fun h13 => ?_) (fun h14 => ?_)
          ·
            refine T_ld zk_168_60 rfl rfl rfl (pc' := 61) rfl ?_
            refine T_op zk_168_61 rfl (X_bi (v := -6) (by decide)) (pc' := 63) rfl ?_
            refine T_calli (K := fun y15 σ' => (y15 = (-6)) ∧ (fun σ' => IF (MK 568 628 642 643) σ σ' ∧ True) σ') (r := []) zk_168_63 rfl rfl rfl rfl rfl rfl (Or.inr ⟨_, _, _, _, rfl, vd_35, rfl⟩) (fun σ' h => (m_123 ((-6)) (by omega) σ' h.1.1 ).le (Nat.le_of_ble_eq_true rfl) (fun v σ2 ⟨y, h1, h2, h3, h4⟩ => ⟨y, h1, h2, h.1.tr h3 sb62_750be88, trivial⟩)) (pc' := 66) rfl (fun y15 => ?_)
            refine G_ex (fun hy15 => ?_)
            obtain rfl : y15 = (-6) := by omega
            exact T_iret zk_168_66 rfl (fun σ' h => ⟨_, rfl, (by omega), h.1, trivial⟩)
          ·
            refine T_ld zk_168_35 rfl rfl rfl (pc' := 37) rfl ?_
            refine T_op zk_168_37 rfl X_ic (pc' := 38) rfl ?_
            refine T_icmp_lt zk_168_38 (by omega) (by omega) (pc' := 41) rfl (fun h16 => ?_) (fun h17 => ?_)
            ·
              refine T_ld zk_168_60 rfl rfl rfl (pc' := 61) rfl ?_
              refine T_op zk_168_61 rfl (X_bi (v := -6) (by decide)) (pc' := 63) rfl ?_
              refine T_calli (K := fun y18 σ' => (y18 = (-6)) ∧ (fun σ' => IF (MK 568 628 642 643) σ σ' ∧ True) σ') (r := []) zk_168_63 rfl rfl rfl rfl rfl rfl (Or.inr ⟨_, _, _, _, rfl, vd_35, rfl⟩) (fun σ' h => (m_123 ((-6)) (by omega) σ' h.1.1 ).le (Nat.le_of_ble_eq_true rfl) (fun v σ2 ⟨y, h1, h2, h3, h4⟩ => ⟨y, h1, h2, h.1.tr h3 sb62_750be88, trivial⟩)) (pc' := 66) rfl (fun y18 => ?_)
              refine G_ex (fun hy18 => ?_)
              obtain rfl : y18 = (-6) := by omega
              exact T_iret zk_168_66 rfl (fun σ' h => ⟨_, rfl, (by omega), h.1, trivial⟩)
            ·
              refine T_ld zk_168_41 rfl rfl rfl (pc' := 43) rfl ?_
              refine T_op zk_168_43 rfl (X_bi (v := 9) (by decide)) (pc' := 45) rfl ?_
              refine T_icmp_gt zk_168_45 (by omega) (by omega) (pc' := 48) rfl (fun h19 => ?_) (fun h20 => ?_)
              ·
                refine T_ld zk_168_60 rfl rfl rfl (pc' := 61) rfl ?_
                refine T_op zk_168_61 rfl (X_bi (v := -6) (by decide)) (pc' := 63) rfl ?_
                refine T_calli (K := fun y21 σ' => (y21 = (-6)) ∧ (fun σ' => IF (MK 568 628 642 643) σ σ' ∧ True) σ') (r := []) zk_168_63 rfl rfl rfl rfl rfl rfl (Or.inr ⟨_, _, _, _, rfl, vd_35, rfl⟩) (fun σ' h => (m_123 ((-6)) (by omega) σ' h.1.1 ).le (Nat.le_of_ble_eq_true rfl) (fun v σ2 ⟨y, h1, h2, h3, h4⟩ => ⟨y, h1, h2, h.1.tr h3 sb62_750be88, trivial⟩)) (pc' := 66) rfl (fun y21 => ?_)
                refine G_ex (fun hy21 => ?_)
                obtain rfl : y21 = (-6) := by omega
                exact T_iret zk_168_66 rfl (fun σ' h => ⟨_, rfl, (by omega), h.1, trivial⟩)
              ·
                refine T_ld zk_168_48 rfl rfl rfl (pc' := 50) rfl ?_
                refine T_if_lt zk_168_50 (by omega) (pc' := 53) rfl (fun h22 => ?_) (fun h23 => ?_)
                ·
                  refine T_ld zk_168_60 rfl rfl rfl (pc' := 61) rfl ?_
                  refine T_op zk_168_61 rfl (X_bi (v := -6) (by decide)) (pc' := 63) rfl ?_
                  refine T_calli (K := fun y24 σ' => (y24 = (-6)) ∧ (fun σ' => IF (MK 568 628 642 643) σ σ' ∧ True) σ') (r := []) zk_168_63 rfl rfl rfl rfl rfl rfl (Or.inr ⟨_, _, _, _, rfl, vd_35, rfl⟩) (fun σ' h => (m_123 ((-6)) (by omega) σ' h.1.1 ).le (Nat.le_of_ble_eq_true rfl) (fun v σ2 ⟨y, h1, h2, h3, h4⟩ => ⟨y, h1, h2, h.1.tr h3 sb62_750be88, trivial⟩)) (pc' := 66) rfl (fun y24 => ?_)
                  refine G_ex (fun hy24 => ?_)
                  obtain rfl : y24 = (-6) := by omega
                  exact T_iret zk_168_66 rfl (fun σ' h => ⟨_, rfl, (by omega), h.1, trivial⟩)
                ·
                  refine T_ld zk_168_53 rfl rfl rfl (pc' := 55) rfl ?_
                  refine T_op zk_168_55 rfl (X_bi (v := 9) (by decide)) (pc' := 57) rfl ?_
                  refine T_icmp_le zk_168_57 (by omega) (by omega) (pc' := 60) rfl (fun h25 => ?_) (fun h26 => ?_)
                  ·
                    refine T_ld zk_168_67 rfl rfl rfl (pc' := 68) rfl ?_
                    refine T_getR (t' := 36) (i' := 0) (k' := 0) zk_168_68 rfl rfl rfl vd_35 (pc' := 71) rfl ?_
                    refine T_op zk_168_71 rfl (X_si (v := 642) (by decide)) (pc' := 74) rfl ?_
                    refine G_learn (t := 36) (i := 0) (k := 0) (j := 642) (lo := 0) (hi := 6) (J2 := fun y27 => (fun σ' => IF (MK 568 628 642 643) σ σ' ∧ σ' 36 0 0 642 = y27 ∧ True)) (vd_36 (by omega)) (fun σ' h => h.1.1) (fun _ h => h.2.2.2.2.2.2.2.2.2.2.2.2.2 (by omega) (by omega)) (fun σ' y h hy => ⟨h.1, hy, trivial⟩) (fun y27 hy27 hy27' => ?_)
                    refine G_ialdX (w := y27) (ln := 646) zk_168_74 rfl rfl (vd_36 (by omega)) (by omega) (by omega) (by omega) (fun σ' h => h.2.1) (pc' := 75) rfl ?_
                    refine T_st (L' := [(0, av 35 0 0), (1, iv p0), (2, iv p1), (3, iv p2), (4, iv p3), (5, iv p4), (6, iv y27)]) zk_168_75 (nL := 8) rfl rfl rfl rfl rfl (pc' := 77) rfl ?_
                    refine T_ld zk_168_77 rfl rfl rfl (pc' := 79) rfl ?_
                    refine T_op zk_168_79 rfl (X_bi (v := 6) (by decide)) (pc' := 81) rfl ?_
                    refine T_icmp_ne zk_168_81 (by omega) (by omega) (pc' := 84) rfl (fun h28 => ?_) (fun h29 => ?_)
                    ·
                      refine T_ld zk_168_91 rfl rfl rfl (pc' := 92) rfl ?_
                      refine T_getR (t' := 36) (i' := 0) (k' := 0) zk_168_92 rfl rfl rfl vd_35 (pc' := 95) rfl ?_
                      refine T_op zk_168_95 rfl (X_si (v := 568) (by decide)) (pc' := 98) rfl ?_
                      refine T_ld zk_168_98 rfl rfl rfl (pc' := 100) rfl ?_
                      refine T_op zk_168_100 rfl X_add (pc' := 101) rfl ?_
                      refine T_ld zk_168_101 rfl rfl rfl (pc' := 102) rfl ?_
                      refine G_iast (J' := (fun σ' => IF (MK 568 628 642 643) σ σ' ∧ σ' 36 0 0 642 = y27 ∧ True)) (ln := 646) zk_168_102 rfl rfl (vd_36 (by omega)) (by omega) (by omega) (by omega) (fun σ' h => ⟨h.1.up (by simp only [rgP] <;> omega) (by first | exact pMK rfl | (unfold MK; omega)), (up_ne (by omega)).trans (h.2.1), trivial⟩) (pc' := 103) rfl ?_
                      refine T_ld zk_168_103 rfl rfl rfl (pc' := 104) rfl ?_
                      refine T_getR (t' := 36) (i' := 0) (k' := 0) zk_168_104 rfl rfl rfl vd_35 (pc' := 107) rfl ?_
                      refine T_op zk_168_107 rfl (X_si (v := 574) (by decide)) (pc' := 110) rfl ?_
                      refine T_ld zk_168_110 rfl rfl rfl (pc' := 112) rfl ?_
                      refine T_op zk_168_112 rfl X_add (pc' := 113) rfl ?_
                      refine T_ld zk_168_113 rfl rfl rfl (pc' := 114) rfl ?_
                      refine G_iast (J' := (fun σ' => IF (MK 568 628 642 643) σ σ' ∧ σ' 36 0 0 642 = y27 ∧ True)) (ln := 646) zk_168_114 rfl rfl (vd_36 (by omega)) (by omega) (by omega) (by omega) (fun σ' h => ⟨h.1.up (by simp only [rgP] <;> omega) (by first | exact pMK rfl | (unfold MK; omega)), (up_ne (by omega)).trans (h.2.1), trivial⟩) (pc' := 115) rfl ?_
                      refine T_ld zk_168_115 rfl rfl rfl (pc' := 116) rfl ?_
                      refine T_getR (t' := 36) (i' := 0) (k' := 0) zk_168_116 rfl rfl rfl vd_35 (pc' := 119) rfl ?_
                      refine T_op zk_168_119 rfl (X_si (v := 580) (by decide)) (pc' := 122) rfl ?_
                      refine T_ld zk_168_122 rfl rfl rfl (pc' := 124) rfl ?_
                      refine T_op zk_168_124 rfl X_add (pc' := 125) rfl ?_
                      refine T_ld zk_168_125 rfl rfl rfl (pc' := 126) rfl ?_
                      refine G_iast (J' := (fun σ' => IF (MK 568 628 642 643) σ σ' ∧ σ' 36 0 0 642 = y27 ∧ True)) (ln := 646) zk_168_126 rfl rfl (vd_36 (by omega)) (by omega) (by omega) (by omega) (fun σ' h => ⟨h.1.up (by simp only [rgP] <;> omega) (by first | exact pMK rfl | (unfold MK; omega)), (up_ne (by omega)).trans (h.2.1), trivial⟩) (pc' := 127) rfl ?_
                      refine T_ld zk_168_127 rfl rfl rfl (pc' := 128) rfl ?_
                      refine T_getR (t' := 36) (i' := 0) (k' := 0) zk_168_128 rfl rfl rfl vd_35 (pc' := 131) rfl ?_
                      refine T_op zk_168_131 rfl (X_si (v := 586) (by decide)) (pc' := 134) rfl ?_
                      refine T_ld zk_168_134 rfl rfl rfl (pc' := 136) rfl ?_
                      refine T_op zk_168_136 rfl X_add (pc' := 137) rfl ?_
                      refine T_ld zk_168_137 rfl rfl rfl (pc' := 139) rfl ?_
                      refine G_iast (J' := (fun σ' => IF (MK 568 628 642 643) σ σ' ∧ σ' 36 0 0 642 = y27 ∧ True)) (ln := 646) zk_168_139 rfl rfl (vd_36 (by omega)) (by omega) (by omega) (by omega) (fun σ' h => ⟨h.1.up (by simp only [rgP] <;> omega) (by first | exact pMK rfl | (unfold MK; omega)), (up_ne (by omega)).trans (h.2.1), trivial⟩) (pc' := 140) rfl ?_
                      refine T_ld zk_168_140 rfl rfl rfl (pc' := 141) rfl ?_
                      refine T_getR (t' := 36) (i' := 0) (k' := 0) zk_168_141 rfl rfl rfl vd_35 (pc' := 144) rfl ?_
                      refine T_op zk_168_144 rfl (X_si (v := 592) (by decide)) (pc' := 147) rfl ?_
                      refine T_ld zk_168_147 rfl rfl rfl (pc' := 149) rfl ?_
                      refine T_op zk_168_149 rfl X_add (pc' := 150) rfl ?_
                      refine T_ld zk_168_150 rfl rfl rfl (pc' := 152) rfl ?_
                      refine G_iast (J' := (fun σ' => IF (MK 568 628 642 643) σ σ' ∧ σ' 36 0 0 642 = y27 ∧ True)) (ln := 646) zk_168_152 rfl rfl (vd_36 (by omega)) (by omega) (by omega) (by omega) (fun σ' h => ⟨h.1.up (by simp only [rgP] <;> omega) (by first | exact pMK rfl | (unfold MK; omega)), (up_ne (by omega)).trans (h.2.1), trivial⟩) (pc' := 153) rfl ?_
                      refine T_ld zk_168_153 rfl rfl rfl (pc' := 154) rfl ?_
                      refine T_getR (t' := 36) (i' := 0) (k' := 0) zk_168_154 rfl rfl rfl vd_35 (pc' := 157) rfl ?_
                      refine T_op zk_168_157 rfl (X_si (v := 598) (by decide)) (pc' := 160) rfl ?_
                      refine T_ld zk_168_160 rfl rfl rfl (pc' := 162) rfl ?_
                      refine T_op zk_168_162 rfl X_add (pc' := 163) rfl ?_
                      refine T_op zk_168_163 rfl X_ic (pc' := 164) rfl ?_
                      refine G_iast (J' := (fun σ' => IF (MK 568 628 642 643) σ σ' ∧ σ' 36 0 0 642 = y27 ∧ True)) (ln := 646) zk_168_164 rfl rfl (vd_36 (by omega)) (by omega) (by omega) (by omega) (fun σ' h => ⟨h.1.up (by simp only [rgP] <;> omega) (by first | exact pMK rfl | (unfold MK; omega)), (up_ne (by omega)).trans (h.2.1), trivial⟩) (pc' := 165) rfl ?_
                      refine T_op zk_168_165 rfl (X_si (v := 604) (by decide)) (pc' := 168) rfl ?_
                      refine T_st (L' := [(0, av 35 0 0), (1, iv p0), (2, iv p1), (3, iv p2), (4, iv p3), (5, iv p4), (6, iv y27), (7, iv 604)]) zk_168_168 (nL := 8) rfl rfl rfl rfl rfl (pc' := 170) rfl ?_
                      refine T_loop1 (fun x30 => ((700 - x30 : Int)).toNat) (fun x30 => (604 ≤ x30 ∧ x30 ≤ 628)) (fun x30 => TJ xs (fun σ' => IF (MK 568 628 642 643) σ σ' ∧ σ' 36 0 0 642 = y27 ∧ True) 1 168 170 [(0, av 35 0 0), (1, iv p0), (2, iv p1), (3, iv p2), (4, iv p3), (5, iv p4), (6, iv y27), (7, iv x30)] [] _) ?_ 604 (by omega)
                      intro x30 hp32 ih31
                      refine T_ld zk_168_170 rfl rfl rfl (pc' := 172) rfl ?_
                      refine T_op zk_168_172 rfl (X_si (v := 622) (by decide)) (pc' := 175) rfl ?_
                      refine T_icmp_gt zk_168_175 (by omega) (by omega) (pc' := 178) rfl (fun h33 => ?_) (fun h34 => ?_)
                      ·
                        refine T_ld zk_168_195 rfl rfl rfl (pc' := 196) rfl ?_
                        refine T_getR (t' := 36) (i' := 0) (k' := 0) zk_168_196 rfl rfl rfl vd_35 (pc' := 199) rfl ?_
                        refine T_op zk_168_199 rfl (X_si (v := 642) (by decide)) (pc' := 202) rfl ?_
                        refine T_op (st' := [iv 642, av 36 0 0, iv 642, av 36 0 0]) zk_168_202 rfl rfl (pc' := 203) rfl ?_
                        refine G_ialdX (w := y27) (ln := 646) zk_168_203 rfl rfl (vd_36 (by omega)) (by omega) (by omega) (by omega) (fun σ' h => h.2.1) (pc' := 204) rfl ?_
                        refine T_op (st' := [iv y27, iv 642, av 36 0 0, iv y27]) zk_168_204 rfl rfl (pc' := 205) rfl ?_
                        refine T_op zk_168_205 rfl X_ic (pc' := 206) rfl ?_
                        refine T_op zk_168_206 rfl X_add (pc' := 207) rfl ?_
                        refine G_iast (J' := (fun σ' => IF (MK 568 628 642 643) σ σ' ∧ True)) (ln := 646) zk_168_207 rfl rfl (vd_36 (by omega)) (by omega) (by omega) (by omega) (fun σ' h => ⟨h.1.up (by simp only [rgP] <;> omega) (by first | exact pMK rfl | (unfold MK; omega)), trivial⟩) (pc' := 208) rfl ?_
                        exact T_iret zk_168_208 rfl (fun σ' h => ⟨_, rfl, (by omega), h.1, trivial⟩)
                      ·
                        refine T_ld zk_168_178 rfl rfl rfl (pc' := 179) rfl ?_
                        refine T_getR (t' := 36) (i' := 0) (k' := 0) zk_168_179 rfl rfl rfl vd_35 (pc' := 182) rfl ?_
                        refine T_ld zk_168_182 rfl rfl rfl (pc' := 184) rfl ?_
                        refine T_ld zk_168_184 rfl rfl rfl (pc' := 186) rfl ?_
                        refine T_op zk_168_186 rfl X_add (pc' := 187) rfl ?_
                        refine T_op zk_168_187 rfl X_ic (pc' := 188) rfl ?_
                        refine G_iast (J' := (fun σ' => IF (MK 568 628 642 643) σ σ' ∧ σ' 36 0 0 642 = y27 ∧ True)) (ln := 646) zk_168_188 rfl rfl (vd_36 (by omega)) (by omega) (by omega) (by omega) (fun σ' h => ⟨h.1.up (by simp only [rgP] <;> omega) (by first | exact pMK rfl | (unfold MK; omega)), (up_ne (by omega)).trans (h.2.1), trivial⟩) (pc' := 189) rfl ?_
                        refine T_iinc (L' := [(0, av 35 0 0), (1, iv p0), (2, iv p1), (3, iv p2), (4, iv p3), (5, iv p4), (6, iv y27), (7, iv (x30 + 6))]) zk_168_189 (nL := 8) rfl rfl rfl rfl (pc' := 192) rfl ?_
                        refine T_goto zk_168_192 ?_
                        exact ih31 (x30 + 6) (by omega) (by omega)
                    ·
                      refine T_ld zk_168_84 rfl rfl rfl (pc' := 85) rfl ?_
                      refine T_op zk_168_85 rfl (X_bi (v := -7) (by decide)) (pc' := 87) rfl ?_
                      refine T_calli (K := fun y35 σ' => (y35 = (-7)) ∧ (fun σ' => IF (MK 568 628 642 643) σ σ' ∧ σ' 36 0 0 642 = y27 ∧ True) σ') (r := []) zk_168_87 rfl rfl rfl rfl rfl rfl (Or.inr ⟨_, _, _, _, rfl, vd_35, rfl⟩) (fun σ' h => (m_123 ((-7)) (by omega) σ' h.1.1 ).le (Nat.le_of_ble_eq_true rfl) (fun v σ2 ⟨y, h1, h2, h3, h4⟩ => ⟨y, h1, h2, h.1.tr h3 sb62_750be88, (h3.2 _ _ _ _ (by first | exact nMT rfl | (unfold MT; omega))).trans (h.2.1), trivial⟩)) (pc' := 90) rfl (fun y35 => ?_)
                      refine G_ex (fun hy35 => ?_)
                      obtain rfl : y35 = (-7) := by omega
                      exact T_iret zk_168_90 rfl (fun σ' h => ⟨_, rfl, (by omega), h.1, trivial⟩)
                  ·
                    refine T_ld zk_168_60 rfl rfl rfl (pc' := 61) rfl ?_
                    refine T_op zk_168_61 rfl (X_bi (v := -6) (by decide)) (pc' := 63) rfl ?_
                    refine T_calli (K := fun y36 σ' => (y36 = (-6)) ∧ (fun σ' => IF (MK 568 628 642 643) σ σ' ∧ True) σ') (r := []) zk_168_63 rfl rfl rfl rfl rfl rfl (Or.inr ⟨_, _, _, _, rfl, vd_35, rfl⟩) (fun σ' h => (m_123 ((-6)) (by omega) σ' h.1.1 ).le (Nat.le_of_ble_eq_true rfl) (fun v σ2 ⟨y, h1, h2, h3, h4⟩ => ⟨y, h1, h2, h.1.tr h3 sb62_750be88, trivial⟩)) (pc' := 66) rfl (fun y36 => ?_)
                    refine G_ex (fun hy36 => ?_)
                    obtain rfl : y36 = (-6) := by omega
                    exact T_iret zk_168_66 rfl (fun σ' h => ⟨_, rfl, (by omega), h.1, trivial⟩)
  ·
    refine T_ld zk_168_7 rfl rfl rfl (pc' := 8) rfl ?_
    refine T_op zk_168_8 rfl X_ic (pc' := 9) rfl ?_
    refine T_calli (K := fun y37 σ' => (y37 = (-1)) ∧ (fun σ' => IF (MK 568 628 642 643) σ σ' ∧ True) σ') (r := []) zk_168_9 rfl rfl rfl rfl rfl rfl (Or.inr ⟨_, _, _, _, rfl, vd_35, rfl⟩) (fun σ' h => (m_123 ((-1)) (by omega) σ' h.1.1 ).le (Nat.le_of_ble_eq_true rfl) (fun v σ2 ⟨y, h1, h2, h3, h4⟩ => ⟨y, h1, h2, h.1.tr h3 sb62_750be88, trivial⟩)) (pc' := 12) rfl (fun y37 => ?_)
    refine G_ex (fun hy37 => ?_)
    obtain rfl : y37 = (-1) := by omega
    exact T_iret zk_168_12 rfl (fun σ' h => ⟨_, rfl, (by omega), h.1, trivial⟩)
theorem sb62_db222d1 : ∀ t i k j, MT 49 49 49 49 t i k j → MJ 598 604 t i k j := by
  intro t i k j h
  unfold MT at h
  unfold MJ
  omega
/-- WModel.goal -/
theorem m_169 {xs : Nat × (Nat → Int32)} (p0 : Int) (p1 : Int) (hp0 : -2147483648 ≤ p0 ∧ p0 ≤ 2147483647) (hp1 : -2147483648 ≤ p1 ∧ p1 ≤ 2147483647) (σ : ZS) (hI : Inv σ)   : CT xs 2 169 [av 35 0 0, iv p0, iv p1] σ (fun v σ' => ∃ y, v = some (iv y) ∧ (-2147483648 ≤ y ∧ y ≤ 2147483647) ∧ IF (MJ 598 604) σ σ' ∧ (True)) := by
  refine G_ct (J := (fun σ' => IF (MJ 598 604) σ σ' ∧ True)) (L := [(0, av 35 0 0), (1, iv p0), (2, iv p1)]) (nL := 4) rfl rfl rfl ⟨IF.rf hI, trivial⟩ ?_
  refine T_ld zk_169_0 rfl rfl rfl (pc' := 1) rfl ?_
  refine T_ld zk_169_1 rfl rfl rfl (pc' := 2) rfl ?_
  refine G_learn (t := 36) (i := 0) (k := 0) (j := 642) (lo := 0) (hi := 6) (J2 := fun y1 => (fun σ' => IF (MJ 598 604) σ σ' ∧ σ' 36 0 0 642 = y1 ∧ True)) (vd_36 (by omega)) (fun σ' h => h.1.1) (fun _ h => h.2.2.2.2.2.2.2.2.2.2.2.2.2 (by omega) (by omega)) (fun σ' y h hy => ⟨h.1, hy, trivial⟩) (fun y1 hy1 hy1' => ?_)
  refine T_calli (K := fun y2 σ' => ((y2 = 0 ∧ (p0 < 0 ∨ y1 ≤ p0)) ∨ (y2 = 1 ∧ 0 ≤ p0 ∧ p0 < y1)) ∧ (fun σ' => IF (MJ 598 604) σ σ' ∧ σ' 36 0 0 642 = y1 ∧ True) σ') (r := []) zk_169_2 rfl rfl rfl rfl rfl rfl (Or.inr ⟨_, _, _, _, rfl, vd_35, rfl⟩) (fun σ' h => (m_167 p0 y1 (by omega) (by omega) σ' h.1.1 (h.2.1)).le (Nat.le_of_ble_eq_true rfl) (fun v σ2 ⟨y, h1, h2, h3, h4⟩ => ⟨y, h1, h2, h.1.tr h3 MN_sub, (h3.2 _ _ _ _ (fun q => q)).trans (h.2.1), trivial⟩)) (pc' := 5) rfl (fun y2 => ?_)
  refine G_ex (fun hy2 => ?_)
  refine T_if_eq zk_169_5 (by omega) (pc' := 8) rfl (fun h3 => ?_) (fun h4 => ?_)
  ·
    refine T_ld zk_169_20 rfl rfl rfl (pc' := 21) rfl ?_
    refine T_op zk_169_21 rfl X_ic (pc' := 22) rfl ?_
    refine T_calli (K := fun y5 σ' => (y5 = (-1)) ∧ (fun σ' => IF (MJ 598 604) σ σ' ∧ σ' 36 0 0 642 = y1 ∧ True) σ') (r := []) zk_169_22 rfl rfl rfl rfl rfl rfl (Or.inr ⟨_, _, _, _, rfl, vd_35, rfl⟩) (fun σ' h => (m_123 ((-1)) (by omega) σ' h.1.1 ).le (Nat.le_of_ble_eq_true rfl) (fun v σ2 ⟨y, h1, h2, h3, h4⟩ => ⟨y, h1, h2, h.1.tr h3 sb62_db222d1, (h3.2 _ _ _ _ (by first | exact nMT rfl | (unfold MT; omega))).trans (h.2.1), trivial⟩)) (pc' := 25) rfl (fun y5 => ?_)
    refine G_ex (fun hy5 => ?_)
    obtain rfl : y5 = (-1) := by omega
    exact T_iret zk_169_25 rfl (fun σ' h => ⟨_, rfl, (by omega), h.1, trivial⟩)
  ·
    refine T_ld zk_169_8 rfl rfl rfl (pc' := 9) rfl ?_
    refine T_op zk_169_9 rfl X_ic (pc' := 10) rfl ?_
    refine T_icmp_eq zk_169_10 (by omega) (by omega) (pc' := 13) rfl (fun h6 => ?_) (fun h7 => ?_)
    ·
      refine T_ld zk_169_26 rfl rfl rfl (pc' := 27) rfl ?_
      refine T_getR (t' := 36) (i' := 0) (k' := 0) zk_169_27 rfl rfl rfl vd_35 (pc' := 30) rfl ?_
      refine T_op zk_169_30 rfl (X_si (v := 598) (by decide)) (pc' := 33) rfl ?_
      refine T_ld zk_169_33 rfl rfl rfl (pc' := 34) rfl ?_
      refine T_op zk_169_34 rfl X_add (pc' := 35) rfl ?_
      refine G_iald (lo := -1) (hi := 24) (ln := 646) zk_169_35 rfl rfl (vd_36 (by omega)) (by omega) (by omega) (by omega) (fun σ' h => h.1.1) (fun _ h => h.2.2.2.2.1 (by omega) (by omega)) (pc' := 36) rfl (fun y8 hy8 hy8' => ?_)
      refine T_st (L' := [(0, av 35 0 0), (1, iv p0), (2, iv p1), (3, iv y8)]) zk_169_36 (nL := 4) rfl rfl rfl rfl rfl (pc' := 37) rfl ?_
      refine T_ld zk_169_37 rfl rfl rfl (pc' := 38) rfl ?_
      refine T_getR (t' := 36) (i' := 0) (k' := 0) zk_169_38 rfl rfl rfl vd_35 (pc' := 41) rfl ?_
      refine T_op zk_169_41 rfl (X_si (v := 598) (by decide)) (pc' := 44) rfl ?_
      refine T_ld zk_169_44 rfl rfl rfl (pc' := 45) rfl ?_
      refine T_op zk_169_45 rfl X_add (pc' := 46) rfl ?_
      refine T_ld zk_169_46 rfl rfl rfl (pc' := 47) rfl ?_
      refine T_ld zk_169_47 rfl rfl rfl (pc' := 48) rfl ?_
      refine T_getR (t' := 36) (i' := 0) (k' := 0) zk_169_48 rfl rfl rfl vd_35 (pc' := 51) rfl ?_
      refine T_op zk_169_51 rfl (X_si (v := 568) (by decide)) (pc' := 54) rfl ?_
      refine T_ld zk_169_54 rfl rfl rfl (pc' := 55) rfl ?_
      refine T_op zk_169_55 rfl X_add (pc' := 56) rfl ?_
      refine G_iald (lo := 0) (hi := 24) (ln := 646) zk_169_56 rfl rfl (vd_36 (by omega)) (by omega) (by omega) (by omega) (fun σ' h => h.1.1) (fun _ h => h.2.2.2.1 (by omega) (by omega)) (pc' := 57) rfl (fun y9 hy9 hy9' => ?_)
      refine T_icmp_ne zk_169_57 (by omega) (by omega) (pc' := 60) rfl (fun h10 => ?_) (fun h11 => ?_)
      ·
        refine T_ld zk_169_64 rfl rfl rfl (pc' := 65) rfl ?_
        refine G_iast (J' := (fun σ' => IF (MJ 598 604) σ σ' ∧ σ' 36 0 0 642 = y1 ∧ True)) (ln := 646) zk_169_65 rfl rfl (vd_36 (by omega)) (by omega) (by omega) (by omega) (fun σ' h => ⟨h.1.up (by simp only [rgP] <;> omega) (by first | exact pMJ rfl | (unfold MJ; omega)), (up_ne (by omega)).trans (h.2.1), trivial⟩) (pc' := 66) rfl ?_
        refine T_ld zk_169_66 rfl rfl rfl (pc' := 67) rfl ?_
        exact T_iret zk_169_67 rfl (fun σ' h => ⟨_, rfl, (by omega), h.1, trivial⟩)
      · exfalso; omega
    ·
      refine T_ld zk_169_13 rfl rfl rfl (pc' := 14) rfl ?_
      refine T_calli (K := fun y12 σ' => ((y12 = 0 ∧ (p1 < 0 ∨ 24 < p1)) ∨ (y12 = 1 ∧ 0 ≤ p1 ∧ p1 ≤ 24)) ∧ (fun σ' => IF (MJ 598 604) σ σ' ∧ σ' 36 0 0 642 = y1 ∧ True) σ') (r := []) zk_169_14 rfl rfl rfl rfl rfl rfl (Or.inl (Or.inl rfl)) (fun σ' h => (m_124 p1 (by omega) σ' h.1.1 ).le (Nat.le_of_ble_eq_true rfl) (fun v σ2 ⟨y, h1, h2, h3, h4⟩ => ⟨y, h1, h2, h.1.tr h3 MN_sub, (h3.2 _ _ _ _ (fun q => q)).trans (h.2.1), trivial⟩)) (pc' := 17) rfl (fun y12 => ?_)
      refine G_ex (fun hy12 => ?_)
      refine T_if_ne zk_169_17 (by omega) (pc' := 20) rfl (fun h13 => ?_) (fun h14 => ?_)
      ·
        refine T_ld zk_169_26 rfl rfl rfl (pc' := 27) rfl ?_
        refine T_getR (t' := 36) (i' := 0) (k' := 0) zk_169_27 rfl rfl rfl vd_35 (pc' := 30) rfl ?_
        refine T_op zk_169_30 rfl (X_si (v := 598) (by decide)) (pc' := 33) rfl ?_
        refine T_ld zk_169_33 rfl rfl rfl (pc' := 34) rfl ?_
        refine T_op zk_169_34 rfl X_add (pc' := 35) rfl ?_
        refine G_iald (lo := -1) (hi := 24) (ln := 646) zk_169_35 rfl rfl (vd_36 (by omega)) (by omega) (by omega) (by omega) (fun σ' h => h.1.1) (fun _ h => h.2.2.2.2.1 (by omega) (by omega)) (pc' := 36) rfl (fun y15 hy15 hy15' => ?_)
        refine T_st (L' := [(0, av 35 0 0), (1, iv p0), (2, iv p1), (3, iv y15)]) zk_169_36 (nL := 4) rfl rfl rfl rfl rfl (pc' := 37) rfl ?_
        refine T_ld zk_169_37 rfl rfl rfl (pc' := 38) rfl ?_
        refine T_getR (t' := 36) (i' := 0) (k' := 0) zk_169_38 rfl rfl rfl vd_35 (pc' := 41) rfl ?_
        refine T_op zk_169_41 rfl (X_si (v := 598) (by decide)) (pc' := 44) rfl ?_
        refine T_ld zk_169_44 rfl rfl rfl (pc' := 45) rfl ?_
        refine T_op zk_169_45 rfl X_add (pc' := 46) rfl ?_
        refine T_ld zk_169_46 rfl rfl rfl (pc' := 47) rfl ?_
        refine T_ld zk_169_47 rfl rfl rfl (pc' := 48) rfl ?_
        refine T_getR (t' := 36) (i' := 0) (k' := 0) zk_169_48 rfl rfl rfl vd_35 (pc' := 51) rfl ?_
        refine T_op zk_169_51 rfl (X_si (v := 568) (by decide)) (pc' := 54) rfl ?_
        refine T_ld zk_169_54 rfl rfl rfl (pc' := 55) rfl ?_
        refine T_op zk_169_55 rfl X_add (pc' := 56) rfl ?_
        refine G_iald (lo := 0) (hi := 24) (ln := 646) zk_169_56 rfl rfl (vd_36 (by omega)) (by omega) (by omega) (by omega) (fun σ' h => h.1.1) (fun _ h => h.2.2.2.1 (by omega) (by omega)) (pc' := 57) rfl (fun y16 hy16 hy16' => ?_)
        refine T_icmp_ne zk_169_57 (by omega) (by omega) (pc' := 60) rfl (fun h17 => ?_) (fun h18 => ?_)
        ·
          refine T_ld zk_169_64 rfl rfl rfl (pc' := 65) rfl ?_
          refine G_iast (J' := (fun σ' => IF (MJ 598 604) σ σ' ∧ σ' 36 0 0 642 = y1 ∧ True)) (ln := 646) zk_169_65 rfl rfl (vd_36 (by omega)) (by omega) (by omega) (by omega) (fun σ' h => ⟨h.1.up (by simp only [rgP] <;> omega) (by first | exact pMJ rfl | (unfold MJ; omega)), (up_ne (by omega)).trans (h.2.1), trivial⟩) (pc' := 66) rfl ?_
          refine T_ld zk_169_66 rfl rfl rfl (pc' := 67) rfl ?_
          exact T_iret zk_169_67 rfl (fun σ' h => ⟨_, rfl, (by omega), h.1, trivial⟩)
        ·
          refine T_op zk_169_60 rfl X_ic (pc' := 61) rfl ?_
          refine T_goto zk_169_61 ?_
          refine G_iast (J' := (fun σ' => IF (MJ 598 604) σ σ' ∧ σ' 36 0 0 642 = y1 ∧ True)) (ln := 646) zk_169_65 rfl rfl (vd_36 (by omega)) (by omega) (by omega) (by omega) (fun σ' h => ⟨h.1.up (by simp only [rgP] <;> omega) (by first | exact pMJ rfl | (unfold MJ; omega)), (up_ne (by omega)).trans (h.2.1), trivial⟩) (pc' := 66) rfl ?_
          refine T_ld zk_169_66 rfl rfl rfl (pc' := 67) rfl ?_
          exact T_iret zk_169_67 rfl (fun σ' h => ⟨_, rfl, (by omega), h.1, trivial⟩)
      ·
        refine T_ld zk_169_20 rfl rfl rfl (pc' := 21) rfl ?_
        refine T_op zk_169_21 rfl X_ic (pc' := 22) rfl ?_
        refine T_calli (K := fun y19 σ' => (y19 = (-1)) ∧ (fun σ' => IF (MJ 598 604) σ σ' ∧ σ' 36 0 0 642 = y1 ∧ True) σ') (r := []) zk_169_22 rfl rfl rfl rfl rfl rfl (Or.inr ⟨_, _, _, _, rfl, vd_35, rfl⟩) (fun σ' h => (m_123 ((-1)) (by omega) σ' h.1.1 ).le (Nat.le_of_ble_eq_true rfl) (fun v σ2 ⟨y, h1, h2, h3, h4⟩ => ⟨y, h1, h2, h.1.tr h3 sb62_db222d1, (h3.2 _ _ _ _ (by first | exact nMT rfl | (unfold MT; omega))).trans (h.2.1), trivial⟩)) (pc' := 25) rfl (fun y19 => ?_)
        refine G_ex (fun hy19 => ?_)
        obtain rfl : y19 = (-1) := by omega
        exact T_iret zk_169_25 rfl (fun σ' h => ⟨_, rfl, (by omega), h.1, trivial⟩)
/-- WModel.sails -/
theorem m_174 {xs : Nat × (Nat → Int32)} (p0 : Int) (p1 : Int) (hp0 : -2147483648 ≤ p0 ∧ p0 ≤ 2147483647) (hp1 : -2147483648 ≤ p1 ∧ p1 ≤ 2147483647) (σ : ZS) (hI : Inv σ)   : CT xs 2 174 [av 35 0 0, iv p0, iv p1] σ (fun v σ' => ∃ y, v = some (iv y) ∧ (-2147483648 ≤ y ∧ y ≤ 2147483647) ∧ IF MN σ σ' ∧ (True)) := by
  refine G_ct (J := (fun σ' => IF MN σ σ' ∧ True)) (L := [(0, av 35 0 0), (1, iv p0), (2, iv p1)]) (nL := 3) rfl rfl rfl ⟨IF.rf hI, trivial⟩ ?_
  refine T_ld zk_174_0 rfl rfl rfl (pc' := 1) rfl ?_
  refine T_ld zk_174_1 rfl rfl rfl (pc' := 2) rfl ?_
  refine G_learn (t := 36) (i := 0) (k := 0) (j := 642) (lo := 0) (hi := 6) (J2 := fun y1 => (fun σ' => IF MN σ σ' ∧ σ' 36 0 0 642 = y1 ∧ True)) (vd_36 (by omega)) (fun σ' h => h.1.1) (fun _ h => h.2.2.2.2.2.2.2.2.2.2.2.2.2 (by omega) (by omega)) (fun σ' y h hy => ⟨h.1, hy, trivial⟩) (fun y1 hy1 hy1' => ?_)
  refine T_calli (K := fun y2 σ' => ((y2 = 0 ∧ (p0 < 0 ∨ y1 ≤ p0)) ∨ (y2 = 1 ∧ 0 ≤ p0 ∧ p0 < y1)) ∧ (fun σ' => IF MN σ σ' ∧ σ' 36 0 0 642 = y1 ∧ True) σ') (r := []) zk_174_2 rfl rfl rfl rfl rfl rfl (Or.inr ⟨_, _, _, _, rfl, vd_35, rfl⟩) (fun σ' h => (m_167 p0 y1 (by omega) (by omega) σ' h.1.1 (h.2.1)).le (Nat.le_of_ble_eq_true rfl) (fun v σ2 ⟨y, h1, h2, h3, h4⟩ => ⟨y, h1, h2, h.1.tr h3 MN_sub, (h3.2 _ _ _ _ (fun q => q)).trans (h.2.1), trivial⟩)) (pc' := 5) rfl (fun y2 => ?_)
  refine G_ex (fun hy2 => ?_)
  refine T_if_ne zk_174_5 (by omega) (pc' := 8) rfl (fun h3 => ?_) (fun h4 => ?_)
  ·
    refine T_ld zk_174_10 rfl rfl rfl (pc' := 11) rfl ?_
    by_cases h5 : p1 = 0
    · subst h5
      refine T_br (t := 48) zk_174_11 rfl rfl rfl (fun _ => rfl) rfl ?_
      refine T_ld zk_174_48 rfl rfl rfl (pc' := 49) rfl ?_
      refine T_getR (t' := 36) (i' := 0) (k' := 0) zk_174_49 rfl rfl rfl vd_35 (pc' := 52) rfl ?_
      refine T_op zk_174_52 rfl (X_si (v := 568) (by decide)) (pc' := 55) rfl ?_
      refine T_ld zk_174_55 rfl rfl rfl (pc' := 56) rfl ?_
      refine T_op zk_174_56 rfl X_add (pc' := 57) rfl ?_
      refine G_iald (lo := 0) (hi := 24) (ln := 646) zk_174_57 rfl rfl (vd_36 (by omega)) (by omega) (by omega) (by omega) (fun σ' h => h.1.1) (fun _ h => h.2.2.2.1 (by omega) (by omega)) (pc' := 58) rfl (fun y6 hy6 hy6' => ?_)
      exact T_iret zk_174_58 rfl (fun σ' h => ⟨_, rfl, (by omega), h.1, trivial⟩)
    by_cases h7 : p1 = 1
    · subst h7
      refine T_br (t := 59) zk_174_11 rfl rfl rfl (fun _ => rfl) rfl ?_
      refine T_ld zk_174_59 rfl rfl rfl (pc' := 60) rfl ?_
      refine T_getR (t' := 36) (i' := 0) (k' := 0) zk_174_60 rfl rfl rfl vd_35 (pc' := 63) rfl ?_
      refine T_op zk_174_63 rfl (X_si (v := 598) (by decide)) (pc' := 66) rfl ?_
      refine T_ld zk_174_66 rfl rfl rfl (pc' := 67) rfl ?_
      refine T_op zk_174_67 rfl X_add (pc' := 68) rfl ?_
      refine G_iald (lo := -1) (hi := 24) (ln := 646) zk_174_68 rfl rfl (vd_36 (by omega)) (by omega) (by omega) (by omega) (fun σ' h => h.1.1) (fun _ h => h.2.2.2.2.1 (by omega) (by omega)) (pc' := 69) rfl (fun y8 hy8 hy8' => ?_)
      exact T_iret zk_174_69 rfl (fun σ' h => ⟨_, rfl, (by omega), h.1, trivial⟩)
    by_cases h9 : p1 = 2
    · subst h9
      refine T_br (t := 70) zk_174_11 rfl rfl rfl (fun _ => rfl) rfl ?_
      refine T_ld zk_174_70 rfl rfl rfl (pc' := 71) rfl ?_
      refine T_getR (t' := 36) (i' := 0) (k' := 0) zk_174_71 rfl rfl rfl vd_35 (pc' := 74) rfl ?_
      refine T_op zk_174_74 rfl (X_si (v := 604) (by decide)) (pc' := 77) rfl ?_
      refine T_ld zk_174_77 rfl rfl rfl (pc' := 78) rfl ?_
      refine T_op zk_174_78 rfl X_add (pc' := 79) rfl ?_
      refine G_iald (lo := -2147483648) (hi := 2147483647) (ln := 646) zk_174_79 rfl rfl (vd_36 (by omega)) (by omega) (by omega) (by omega) (fun σ' h => h.1.1) (fun _ h => (by have q := h.1; omega)) (pc' := 80) rfl (fun y10 hy10 hy10' => ?_)
      exact T_iret zk_174_80 rfl (fun σ' h => ⟨_, rfl, (by omega), h.1, trivial⟩)
    by_cases h11 : p1 = 3
    · subst h11
      refine T_br (t := 81) zk_174_11 rfl rfl rfl (fun _ => rfl) rfl ?_
      refine T_ld zk_174_81 rfl rfl rfl (pc' := 82) rfl ?_
      refine T_getR (t' := 36) (i' := 0) (k' := 0) zk_174_82 rfl rfl rfl vd_35 (pc' := 85) rfl ?_
      refine T_op zk_174_85 rfl (X_si (v := 610) (by decide)) (pc' := 88) rfl ?_
      refine T_ld zk_174_88 rfl rfl rfl (pc' := 89) rfl ?_
      refine T_op zk_174_89 rfl X_add (pc' := 90) rfl ?_
      refine G_iald (lo := -2147483648) (hi := 2147483647) (ln := 646) zk_174_90 rfl rfl (vd_36 (by omega)) (by omega) (by omega) (by omega) (fun σ' h => h.1.1) (fun _ h => (by have q := h.1; omega)) (pc' := 91) rfl (fun y12 hy12 hy12' => ?_)
      exact T_iret zk_174_91 rfl (fun σ' h => ⟨_, rfl, (by omega), h.1, trivial⟩)
    by_cases h13 : p1 = 4
    · subst h13
      refine T_br (t := 92) zk_174_11 rfl rfl rfl (fun _ => rfl) rfl ?_
      refine T_ld zk_174_92 rfl rfl rfl (pc' := 93) rfl ?_
      refine T_getR (t' := 36) (i' := 0) (k' := 0) zk_174_93 rfl rfl rfl vd_35 (pc' := 96) rfl ?_
      refine T_op zk_174_96 rfl (X_si (v := 616) (by decide)) (pc' := 99) rfl ?_
      refine T_ld zk_174_99 rfl rfl rfl (pc' := 100) rfl ?_
      refine T_op zk_174_100 rfl X_add (pc' := 101) rfl ?_
      refine G_iald (lo := -2147483648) (hi := 2147483647) (ln := 646) zk_174_101 rfl rfl (vd_36 (by omega)) (by omega) (by omega) (by omega) (fun σ' h => h.1.1) (fun _ h => (by have q := h.1; omega)) (pc' := 102) rfl (fun y14 hy14 hy14' => ?_)
      exact T_iret zk_174_102 rfl (fun σ' h => ⟨_, rfl, (by omega), h.1, trivial⟩)
    by_cases h15 : p1 = 5
    · subst h15
      refine T_br (t := 103) zk_174_11 rfl rfl rfl (fun _ => rfl) rfl ?_
      refine T_ld zk_174_103 rfl rfl rfl (pc' := 104) rfl ?_
      refine T_getR (t' := 36) (i' := 0) (k' := 0) zk_174_104 rfl rfl rfl vd_35 (pc' := 107) rfl ?_
      refine T_op zk_174_107 rfl (X_si (v := 622) (by decide)) (pc' := 110) rfl ?_
      refine T_ld zk_174_110 rfl rfl rfl (pc' := 111) rfl ?_
      refine T_op zk_174_111 rfl X_add (pc' := 112) rfl ?_
      refine G_iald (lo := -2147483648) (hi := 2147483647) (ln := 646) zk_174_112 rfl rfl (vd_36 (by omega)) (by omega) (by omega) (by omega) (fun σ' h => h.1.1) (fun _ h => (by have q := h.1; omega)) (pc' := 113) rfl (fun y16 hy16 hy16' => ?_)
      exact T_iret zk_174_113 rfl (fun σ' h => ⟨_, rfl, (by omega), h.1, trivial⟩)
    refine T_tso (t := 114) zk_174_11 (by omega) (by omega) (by omega) ?_
    refine T_op zk_174_114 rfl X_ic (pc' := 115) rfl ?_
    exact T_iret zk_174_115 rfl (fun σ' h => ⟨_, rfl, (by omega), h.1, trivial⟩)
  ·
    refine T_op zk_174_8 rfl X_ic (pc' := 9) rfl ?_
    exact T_iret zk_174_9 rfl (fun σ' h => ⟨_, rfl, (by omega), h.1, trivial⟩)
/-- WModel.dredge -/
theorem m_183 {xs : Nat × (Nat → Int32)} (p0 : Int) (p1 : Int) (hp0 : -2147483648 ≤ p0 ∧ p0 ≤ 2147483647) (hp1 : -2147483648 ≤ p1 ∧ p1 ≤ 2147483647) (σ : ZS) (hI : Inv σ)   : CT xs 2 183 [av 35 0 0, iv p0, iv p1] σ (fun v σ' => ∃ y, v = some (iv y) ∧ (-2147483648 ≤ y ∧ y ≤ 2147483647) ∧ IF (MJ 0 25) σ σ' ∧ (True)) := by
  refine G_ct (J := (fun σ' => IF (MJ 0 25) σ σ' ∧ True)) (L := [(0, av 35 0 0), (1, iv p0), (2, iv p1)]) (nL := 3) rfl rfl rfl ⟨IF.rf hI, trivial⟩ ?_
  refine T_ld zk_183_0 rfl rfl rfl (pc' := 1) rfl ?_
  refine T_calli (K := fun y1 σ' => ((y1 = 0 ∧ (p0 < 0 ∨ 24 < p0)) ∨ (y1 = 1 ∧ 0 ≤ p0 ∧ p0 ≤ 24)) ∧ (fun σ' => IF (MJ 0 25) σ σ' ∧ True) σ') (r := []) zk_183_1 rfl rfl rfl rfl rfl rfl (Or.inl (Or.inl rfl)) (fun σ' h => (m_124 p0 (by omega) σ' h.1.1 ).le (Nat.le_of_ble_eq_true rfl) (fun v σ2 ⟨y, h1, h2, h3, h4⟩ => ⟨y, h1, h2, h.1.tr h3 MN_sub, trivial⟩)) (pc' := 4) rfl (fun y1 => ?_)
  refine G_ex (fun hy1 => ?_)
  refine T_if_ne zk_183_4 (by omega) (pc' := 7) rfl (fun h2 => ?_) (fun h3 => ?_)
  ·
    refine T_ld zk_183_13 rfl rfl rfl (pc' := 14) rfl ?_
    refine T_op zk_183_14 rfl X_ic (pc' := 15) rfl ?_
    refine T_icmp_lt zk_183_15 (by omega) (by omega) (pc' := 18) rfl (fun h4 => ?_) (fun h5 => ?_)
    ·
      refine T_ld zk_183_39 rfl rfl rfl (pc' := 40) rfl ?_
      refine T_op zk_183_40 rfl (X_bi (v := -6) (by decide)) (pc' := 42) rfl ?_
      refine T_calli (K := fun y6 σ' => (y6 = (-6)) ∧ (fun σ' => IF (MJ 0 25) σ σ' ∧ True) σ') (r := []) zk_183_42 rfl rfl rfl rfl rfl rfl (Or.inr ⟨_, _, _, _, rfl, vd_35, rfl⟩) (fun σ' h => (m_123 ((-6)) (by omega) σ' h.1.1 ).le (Nat.le_of_ble_eq_true rfl) (fun v σ2 ⟨y, h1, h2, h3, h4⟩ => ⟨y, h1, h2, h.1.tr h3 sb61_c45851f, trivial⟩)) (pc' := 45) rfl (fun y6 => ?_)
      refine G_ex (fun hy6 => ?_)
      obtain rfl : y6 = (-6) := by omega
      exact T_iret zk_183_45 rfl (fun σ' h => ⟨_, rfl, (by omega), h.1, trivial⟩)
    ·
      refine T_ld zk_183_18 rfl rfl rfl (pc' := 19) rfl ?_
      refine T_op zk_183_19 rfl (X_bi (v := 20) (by decide)) (pc' := 21) rfl ?_
      refine T_icmp_gt zk_183_21 (by omega) (by omega) (pc' := 24) rfl (fun h7 => ?_) (fun h8 => ?_)
      ·
        refine T_ld zk_183_39 rfl rfl rfl (pc' := 40) rfl ?_
        refine T_op zk_183_40 rfl (X_bi (v := -6) (by decide)) (pc' := 42) rfl ?_
        refine T_calli (K := fun y9 σ' => (y9 = (-6)) ∧ (fun σ' => IF (MJ 0 25) σ σ' ∧ True) σ') (r := []) zk_183_42 rfl rfl rfl rfl rfl rfl (Or.inr ⟨_, _, _, _, rfl, vd_35, rfl⟩) (fun σ' h => (m_123 ((-6)) (by omega) σ' h.1.1 ).le (Nat.le_of_ble_eq_true rfl) (fun v σ2 ⟨y, h1, h2, h3, h4⟩ => ⟨y, h1, h2, h.1.tr h3 sb61_c45851f, trivial⟩)) (pc' := 45) rfl (fun y9 => ?_)
        refine G_ex (fun hy9 => ?_)
        obtain rfl : y9 = (-6) := by omega
        exact T_iret zk_183_45 rfl (fun σ' h => ⟨_, rfl, (by omega), h.1, trivial⟩)
      ·
        refine T_ld zk_183_24 rfl rfl rfl (pc' := 25) rfl ?_
        refine T_getR (t' := 36) (i' := 0) (k' := 0) zk_183_25 rfl rfl rfl vd_35 (pc' := 28) rfl ?_
        refine T_op zk_183_28 rfl X_ic (pc' := 29) rfl ?_
        refine T_ld zk_183_29 rfl rfl rfl (pc' := 30) rfl ?_
        refine T_op zk_183_30 rfl X_add (pc' := 31) rfl ?_
        refine G_iald (lo := -2147483648) (hi := 2147483647) (ln := 646) zk_183_31 rfl rfl (vd_36 (by omega)) (by omega) (by omega) (by omega) (fun σ' h => h.1.1) (fun _ h => (by have q := h.1; omega)) (pc' := 32) rfl (fun y10 hy10 hy10' => ?_)
        refine T_ld zk_183_32 rfl rfl rfl (pc' := 33) rfl ?_
        refine G_unk zk_183_33 rfl (pc' := 34) rfl (fun y11 hy11 hy11' => ?_)
        refine T_op zk_183_34 rfl (X_bi (v := 60) (by decide)) (pc' := 36) rfl ?_
        refine T_icmp_le zk_183_36 (by omega) (by omega) (pc' := 39) rfl (fun h12 => ?_) (fun h13 => ?_)
        ·
          refine T_ld zk_183_46 rfl rfl rfl (pc' := 47) rfl ?_
          refine T_getR (t' := 36) (i' := 0) (k' := 0) zk_183_47 rfl rfl rfl vd_35 (pc' := 50) rfl ?_
          refine T_op zk_183_50 rfl X_ic (pc' := 51) rfl ?_
          refine T_ld zk_183_51 rfl rfl rfl (pc' := 52) rfl ?_
          refine T_op zk_183_52 rfl X_add (pc' := 53) rfl ?_
          refine T_op (st' := [iv (0 + p0), av 36 0 0, iv (0 + p0), av 36 0 0]) zk_183_53 rfl rfl (pc' := 54) rfl ?_
          refine G_iald (lo := -2147483648) (hi := 2147483647) (ln := 646) zk_183_54 rfl rfl (vd_36 (by omega)) (by omega) (by omega) (by omega) (fun σ' h => h.1.1) (fun _ h => (by have q := h.1; omega)) (pc' := 55) rfl (fun y14 hy14 hy14' => ?_)
          refine T_ld zk_183_55 rfl rfl rfl (pc' := 56) rfl ?_
          refine G_unk zk_183_56 rfl (pc' := 57) rfl (fun y15 hy15 hy15' => ?_)
          refine G_iast (J' := (fun σ' => IF (MJ 0 25) σ σ' ∧ True)) (ln := 646) zk_183_57 rfl rfl (vd_36 (by omega)) (by omega) (by omega) (by omega) (fun σ' h => ⟨h.1.up (by simp only [rgP] <;> omega) (by first | exact pMJ rfl | (unfold MJ; omega)), trivial⟩) (pc' := 58) rfl ?_
          refine T_ld zk_183_58 rfl rfl rfl (pc' := 59) rfl ?_
          refine T_getR (t' := 36) (i' := 0) (k' := 0) zk_183_59 rfl rfl rfl vd_35 (pc' := 62) rfl ?_
          refine T_op zk_183_62 rfl X_ic (pc' := 63) rfl ?_
          refine T_ld zk_183_63 rfl rfl rfl (pc' := 64) rfl ?_
          refine T_op zk_183_64 rfl X_add (pc' := 65) rfl ?_
          refine G_iald (lo := -2147483648) (hi := 2147483647) (ln := 646) zk_183_65 rfl rfl (vd_36 (by omega)) (by omega) (by omega) (by omega) (fun σ' h => h.1.1) (fun _ h => (by have q := h.1; omega)) (pc' := 66) rfl (fun y16 hy16 hy16' => ?_)
          exact T_iret zk_183_66 rfl (fun σ' h => ⟨_, rfl, (by omega), h.1, trivial⟩)
        ·
          refine T_ld zk_183_39 rfl rfl rfl (pc' := 40) rfl ?_
          refine T_op zk_183_40 rfl (X_bi (v := -6) (by decide)) (pc' := 42) rfl ?_
          refine T_calli (K := fun y17 σ' => (y17 = (-6)) ∧ (fun σ' => IF (MJ 0 25) σ σ' ∧ True) σ') (r := []) zk_183_42 rfl rfl rfl rfl rfl rfl (Or.inr ⟨_, _, _, _, rfl, vd_35, rfl⟩) (fun σ' h => (m_123 ((-6)) (by omega) σ' h.1.1 ).le (Nat.le_of_ble_eq_true rfl) (fun v σ2 ⟨y, h1, h2, h3, h4⟩ => ⟨y, h1, h2, h.1.tr h3 sb61_c45851f, trivial⟩)) (pc' := 45) rfl (fun y17 => ?_)
          refine G_ex (fun hy17 => ?_)
          obtain rfl : y17 = (-6) := by omega
          exact T_iret zk_183_45 rfl (fun σ' h => ⟨_, rfl, (by omega), h.1, trivial⟩)
  ·
    refine T_ld zk_183_7 rfl rfl rfl (pc' := 8) rfl ?_
    refine T_op zk_183_8 rfl X_ic (pc' := 9) rfl ?_
    refine T_calli (K := fun y18 σ' => (y18 = (-1)) ∧ (fun σ' => IF (MJ 0 25) σ σ' ∧ True) σ') (r := []) zk_183_9 rfl rfl rfl rfl rfl rfl (Or.inr ⟨_, _, _, _, rfl, vd_35, rfl⟩) (fun σ' h => (m_123 ((-1)) (by omega) σ' h.1.1 ).le (Nat.le_of_ble_eq_true rfl) (fun v σ2 ⟨y, h1, h2, h3, h4⟩ => ⟨y, h1, h2, h.1.tr h3 sb61_c45851f, trivial⟩)) (pc' := 12) rfl (fun y18 => ?_)
    refine G_ex (fun hy18 => ?_)
    obtain rfl : y18 = (-1) := by omega
    exact T_iret zk_183_12 rfl (fun σ' h => ⟨_, rfl, (by omega), h.1, trivial⟩)
/-- WModel.cell -/
theorem m_186 {xs : Nat × (Nat → Int32)} (p0 : Int) (p1 : Int) (hp0 : -2147483648 ≤ p0 ∧ p0 ≤ 2147483647) (hp1 : -2147483648 ≤ p1 ∧ p1 ≤ 2147483647) (σ : ZS) (hI : Inv σ)   : CT xs 2 186 [av 35 0 0, iv p0, iv p1] σ (fun v σ' => ∃ y, v = some (iv y) ∧ (-2147483648 ≤ y ∧ y ≤ 2147483647) ∧ IF MN σ σ' ∧ (True)) := by
  refine G_ct (J := (fun σ' => IF MN σ σ' ∧ True)) (L := [(0, av 35 0 0), (1, iv p0), (2, iv p1)]) (nL := 4) rfl rfl rfl ⟨IF.rf hI, trivial⟩ ?_
  refine T_ld zk_186_0 rfl rfl rfl (pc' := 1) rfl ?_
  refine T_calli (K := fun y1 σ' => ((y1 = 0 ∧ (p0 < 0 ∨ 24 < p0)) ∨ (y1 = 1 ∧ 0 ≤ p0 ∧ p0 ≤ 24)) ∧ (fun σ' => IF MN σ σ' ∧ True) σ') (r := []) zk_186_1 rfl rfl rfl rfl rfl rfl (Or.inl (Or.inl rfl)) (fun σ' h => (m_124 p0 (by omega) σ' h.1.1 ).le (Nat.le_of_ble_eq_true rfl) (fun v σ2 ⟨y, h1, h2, h3, h4⟩ => ⟨y, h1, h2, h.1.tr h3 MN_sub, trivial⟩)) (pc' := 4) rfl (fun y1 => ?_)
  refine G_ex (fun hy1 => ?_)
  refine T_if_ne zk_186_4 (by omega) (pc' := 7) rfl (fun h2 => ?_) (fun h3 => ?_)
  ·
    refine T_ld zk_186_10 rfl rfl rfl (pc' := 11) rfl ?_
    by_cases h4 : p1 = 0
    · subst h4
      refine T_br (t := 44) zk_186_11 rfl rfl rfl (fun _ => rfl) rfl ?_
      refine T_ld zk_186_44 rfl rfl rfl (pc' := 45) rfl ?_
      refine T_getR (t' := 36) (i' := 0) (k' := 0) zk_186_45 rfl rfl rfl vd_35 (pc' := 48) rfl ?_
      refine T_op zk_186_48 rfl X_ic (pc' := 49) rfl ?_
      refine T_ld zk_186_49 rfl rfl rfl (pc' := 50) rfl ?_
      refine T_op zk_186_50 rfl X_add (pc' := 51) rfl ?_
      refine G_iald (lo := -2147483648) (hi := 2147483647) (ln := 646) zk_186_51 rfl rfl (vd_36 (by omega)) (by omega) (by omega) (by omega) (fun σ' h => h.1.1) (fun _ h => (by have q := h.1; omega)) (pc' := 52) rfl (fun y5 hy5 hy5' => ?_)
      exact T_iret zk_186_52 rfl (fun σ' h => ⟨_, rfl, (by omega), h.1, trivial⟩)
    by_cases h6 : p1 = 1
    · subst h6
      refine T_br (t := 53) zk_186_11 rfl rfl rfl (fun _ => rfl) rfl ?_
      refine T_ld zk_186_53 rfl rfl rfl (pc' := 54) rfl ?_
      refine T_getR (t' := 36) (i' := 0) (k' := 0) zk_186_54 rfl rfl rfl vd_35 (pc' := 57) rfl ?_
      refine T_op zk_186_57 rfl (X_bi (v := 25) (by decide)) (pc' := 59) rfl ?_
      refine T_ld zk_186_59 rfl rfl rfl (pc' := 60) rfl ?_
      refine T_op zk_186_60 rfl X_add (pc' := 61) rfl ?_
      refine G_iald (lo := -2147483648) (hi := 2147483647) (ln := 646) zk_186_61 rfl rfl (vd_36 (by omega)) (by omega) (by omega) (by omega) (fun σ' h => h.1.1) (fun _ h => (by have q := h.1; omega)) (pc' := 62) rfl (fun y7 hy7 hy7' => ?_)
      exact T_iret zk_186_62 rfl (fun σ' h => ⟨_, rfl, (by omega), h.1, trivial⟩)
    by_cases h8 : p1 = 2
    · subst h8
      refine T_br (t := 63) zk_186_11 rfl rfl rfl (fun _ => rfl) rfl ?_
      refine T_ld zk_186_63 rfl rfl rfl (pc' := 64) rfl ?_
      refine T_getR (t' := 36) (i' := 0) (k' := 0) zk_186_64 rfl rfl rfl vd_35 (pc' := 67) rfl ?_
      refine T_op zk_186_67 rfl (X_bi (v := 50) (by decide)) (pc' := 69) rfl ?_
      refine T_ld zk_186_69 rfl rfl rfl (pc' := 70) rfl ?_
      refine T_op zk_186_70 rfl X_add (pc' := 71) rfl ?_
      refine G_iald (lo := -2147483648) (hi := 2147483647) (ln := 646) zk_186_71 rfl rfl (vd_36 (by omega)) (by omega) (by omega) (by omega) (fun σ' h => h.1.1) (fun _ h => (by have q := h.1; omega)) (pc' := 72) rfl (fun y9 hy9 hy9' => ?_)
      exact T_iret zk_186_72 rfl (fun σ' h => ⟨_, rfl, (by omega), h.1, trivial⟩)
    by_cases h10 : p1 = 3
    · subst h10
      refine T_br (t := 73) zk_186_11 rfl rfl rfl (fun _ => rfl) rfl ?_
      refine T_ld zk_186_73 rfl rfl rfl (pc' := 74) rfl ?_
      refine T_getR (t' := 36) (i' := 0) (k' := 0) zk_186_74 rfl rfl rfl vd_35 (pc' := 77) rfl ?_
      refine T_op zk_186_77 rfl (X_bi (v := 75) (by decide)) (pc' := 79) rfl ?_
      refine T_ld zk_186_79 rfl rfl rfl (pc' := 80) rfl ?_
      refine T_op zk_186_80 rfl X_add (pc' := 81) rfl ?_
      refine G_iald (lo := -2147483648) (hi := 2147483647) (ln := 646) zk_186_81 rfl rfl (vd_36 (by omega)) (by omega) (by omega) (by omega) (fun σ' h => h.1.1) (fun _ h => (by have q := h.1; omega)) (pc' := 82) rfl (fun y11 hy11 hy11' => ?_)
      exact T_iret zk_186_82 rfl (fun σ' h => ⟨_, rfl, (by omega), h.1, trivial⟩)
    by_cases h12 : p1 = 4
    · subst h12
      refine T_br (t := 83) zk_186_11 rfl rfl rfl (fun _ => rfl) rfl ?_
      refine T_op zk_186_83 rfl X_ic (pc' := 84) rfl ?_
      refine T_st (L' := [(0, av 35 0 0), (1, iv p0), (2, iv 4), (3, iv 0)]) zk_186_84 (nL := 4) rfl rfl rfl rfl rfl (pc' := 85) rfl ?_
      refine T_loop1 (fun x13 => ((3 - x13 : Int)).toNat) (fun x13 => (0 ≤ x13 ∧ x13 ≤ 3)) (fun x13 => TJ xs (fun σ' => IF MN σ σ' ∧ True) 1 186 85 [(0, av 35 0 0), (1, iv p0), (2, iv 4), (3, iv x13)] [] _) ?_ 0 (by omega)
      intro x13 hp15 ih14
      refine T_ld zk_186_85 rfl rfl rfl (pc' := 86) rfl ?_
      refine T_ld zk_186_86 rfl rfl rfl (pc' := 87) rfl ?_
      refine T_getR (t' := 36) (i' := 0) (k' := 0) zk_186_87 rfl rfl rfl vd_35 (pc' := 90) rfl ?_
      refine T_op zk_186_90 rfl (X_si (v := 633) (by decide)) (pc' := 93) rfl ?_
      refine G_iald (lo := 0) (hi := 3) (ln := 646) zk_186_93 rfl rfl (vd_36 (by omega)) (by omega) (by omega) (by omega) (fun σ' h => h.1.1) (fun _ h => h.2.2.2.2.2.1 (by omega) (by omega)) (pc' := 94) rfl (fun y16 hy16 hy16' => ?_)
      refine T_icmp_ge zk_186_94 (by omega) (by omega) (pc' := 97) rfl (fun h17 => ?_) (fun h18 => ?_)
      ·
        refine T_op zk_186_119 rfl X_ic (pc' := 120) rfl ?_
        exact T_iret zk_186_120 rfl (fun σ' h => ⟨_, rfl, (by omega), h.1, trivial⟩)
      ·
        refine T_ld zk_186_97 rfl rfl rfl (pc' := 98) rfl ?_
        refine T_getR (t' := 36) (i' := 0) (k' := 0) zk_186_98 rfl rfl rfl vd_35 (pc' := 101) rfl ?_
        refine T_op zk_186_101 rfl (X_si (v := 250) (by decide)) (pc' := 104) rfl ?_
        refine T_ld zk_186_104 rfl rfl rfl (pc' := 105) rfl ?_
        refine T_op zk_186_105 rfl X_add (pc' := 106) rfl ?_
        refine G_iald (lo := 0) (hi := 24) (ln := 646) zk_186_106 rfl rfl (vd_36 (by omega)) (by omega) (by omega) (by omega) (fun σ' h => h.1.1) (fun _ h => h.2.1 (by omega) (by omega)) (pc' := 107) rfl (fun y19 hy19 hy19' => ?_)
        refine T_ld zk_186_107 rfl rfl rfl (pc' := 108) rfl ?_
        refine T_icmp_ne zk_186_108 (by omega) (by omega) (pc' := 111) rfl (fun h20 => ?_) (fun h21 => ?_)
        ·
          refine T_iinc (L' := [(0, av 35 0 0), (1, iv p0), (2, iv 4), (3, iv (x13 + 1))]) zk_186_113 (nL := 4) rfl rfl rfl rfl (pc' := 116) rfl ?_
          refine T_goto zk_186_116 ?_
          exact ih14 (x13 + 1) (by omega) (by omega)
        ·
          refine T_ld zk_186_111 rfl rfl rfl (pc' := 112) rfl ?_
          exact T_iret zk_186_112 rfl (fun σ' h => ⟨_, rfl, (by omega), h.1, trivial⟩)
    refine T_tso (t := 121) zk_186_11 (by omega) (by omega) (by omega) ?_
    refine T_ldc zk_186_121 (pc' := 123) rfl ?_
    exact T_iret zk_186_123 rfl (fun σ' h => ⟨_, rfl, (by omega), h.1, trivial⟩)
  ·
    refine T_ldc zk_186_7 (pc' := 9) rfl ?_
    exact T_iret zk_186_9 rfl (fun σ' h => ⟨_, rfl, (by omega), h.1, trivial⟩)
/-- WModel.way -/
theorem m_187 {xs : Nat × (Nat → Int32)} (p0 : Int) (p1 : Int) (p2 : Int) (hp0 : -2147483648 ≤ p0 ∧ p0 ≤ 2147483647) (hp1 : -2147483648 ≤ p1 ∧ p1 ≤ 2147483647) (hp2 : -2147483648 ≤ p2 ∧ p2 ≤ 2147483647) (σ : ZS) (hI : Inv σ)   : CT xs 3 187 [av 35 0 0, iv p0, iv p1, iv p2] σ (fun v σ' => ∃ y, v = some (iv y) ∧ (-2147483648 ≤ y ∧ y ≤ 2147483647) ∧ IF MN σ σ' ∧ (True)) := by
  refine G_ct (J := (fun σ' => IF MN σ σ' ∧ True)) (L := [(0, av 35 0 0), (1, iv p0), (2, iv p1), (3, iv p2)]) (nL := 5) rfl rfl rfl ⟨IF.rf hI, trivial⟩ ?_
  refine T_ld zk_187_0 rfl rfl rfl (pc' := 1) rfl ?_
  refine T_ld zk_187_1 rfl rfl rfl (pc' := 2) rfl ?_
  refine T_calli (K := fun y1 σ' => ((y1 = -1 ∧ ¬ (0 ≤ p0 ∧ p0 ≤ 24 ∧ 0 ≤ p1 ∧ p1 ≤ 24 ∧ (p1 = p0 + 5 ∨ p0 = p1 + 5 ∨ (p1 = p0 + 1 ∧ p0 % 5 < 4) ∨ (p0 = p1 + 1 ∧ p1 % 5 < 4)))) ∨ (0 ≤ y1 ∧ y1 ≤ 49 ∧ (0 ≤ p0 ∧ p0 ≤ 24 ∧ 0 ≤ p1 ∧ p1 ≤ 24 ∧ (p1 = p0 + 5 ∨ p0 = p1 + 5 ∨ (p1 = p0 + 1 ∧ p0 % 5 < 4) ∨ (p0 = p1 + 1 ∧ p1 % 5 < 4))))) ∧ (fun σ' => IF MN σ σ' ∧ True) σ') (r := []) zk_187_2 rfl rfl rfl rfl rfl rfl (Or.inl (Or.inl rfl)) (fun σ' h => (m_126 p0 p1 (by omega) (by omega) σ' h.1.1 ).le (Nat.le_of_ble_eq_true rfl) (fun v σ2 ⟨y, h1, h2, h3, h4⟩ => ⟨y, h1, h2, h.1.tr h3 MN_sub, trivial⟩)) (pc' := 5) rfl (fun y1 => ?_)
  refine G_ex (fun hy1 => ?_)
  refine T_st (L' := [(0, av 35 0 0), (1, iv p0), (2, iv p1), (3, iv p2), (4, iv y1)]) zk_187_5 (nL := 5) rfl rfl rfl rfl rfl (pc' := 7) rfl ?_
  refine T_ld zk_187_7 rfl rfl rfl (pc' := 9) rfl ?_
  refine T_op zk_187_9 rfl X_ic (pc' := 10) rfl ?_
  refine T_icmp_eq zk_187_10 (by omega) (by omega) (pc' := 13) rfl (fun h2 => ?_) (fun h3 => ?_)
  ·
    refine T_op zk_187_22 rfl X_ic (pc' := 23) rfl ?_
    exact T_iret zk_187_23 rfl (fun σ' h => ⟨_, rfl, (by omega), h.1, trivial⟩)
  ·
    refine T_ld zk_187_13 rfl rfl rfl (pc' := 14) rfl ?_
    refine T_if_lt zk_187_14 (by omega) (pc' := 17) rfl (fun h4 => ?_) (fun h5 => ?_)
    ·
      refine T_op zk_187_22 rfl X_ic (pc' := 23) rfl ?_
      exact T_iret zk_187_23 rfl (fun σ' h => ⟨_, rfl, (by omega), h.1, trivial⟩)
    ·
      refine T_ld zk_187_17 rfl rfl rfl (pc' := 18) rfl ?_
      refine T_op zk_187_18 rfl X_ic (pc' := 19) rfl ?_
      refine T_icmp_le zk_187_19 (by omega) (by omega) (pc' := 22) rfl (fun h6 => ?_) (fun h7 => ?_)
      ·
        refine T_ld zk_187_24 rfl rfl rfl (pc' := 25) rfl ?_
        refine T_getR (t' := 36) (i' := 0) (k' := 0) zk_187_25 rfl rfl rfl vd_35 (pc' := 28) rfl ?_
        refine T_ld zk_187_28 rfl rfl rfl (pc' := 29) rfl ?_
        refine T_if_ne zk_187_29 (by omega) (pc' := 32) rfl (fun h8 => ?_) (fun h9 => ?_)
        ·
          refine T_ld zk_187_37 rfl rfl rfl (pc' := 38) rfl ?_
          refine T_op zk_187_38 rfl X_ic (pc' := 39) rfl ?_
          refine T_icmp_ne zk_187_39 (by omega) (by omega) (pc' := 42) rfl (fun h10 => ?_) (fun h11 => ?_)
          ·
            refine T_op zk_187_48 rfl (X_si (v := 200) (by decide)) (pc' := 51) rfl ?_
            refine T_ld zk_187_51 rfl rfl rfl (pc' := 53) rfl ?_
            refine T_op zk_187_53 rfl X_add (pc' := 54) rfl ?_
            refine G_iald (lo := -2147483648) (hi := 2147483647) (ln := 646) zk_187_54 rfl rfl (vd_36 (by omega)) (by omega) (by omega) (by omega) (fun σ' h => h.1.1) (fun _ h => (by have q := h.1; omega)) (pc' := 55) rfl (fun y12 hy12 hy12' => ?_)
            exact T_iret zk_187_55 rfl (fun σ' h => ⟨_, rfl, (by omega), h.1, trivial⟩)
          ·
            refine T_op zk_187_42 rfl (X_si (v := 150) (by decide)) (pc' := 45) rfl ?_
            refine T_goto zk_187_45 ?_
            refine T_ld zk_187_51 rfl rfl rfl (pc' := 53) rfl ?_
            refine T_op zk_187_53 rfl X_add (pc' := 54) rfl ?_
            refine G_iald (lo := -2147483648) (hi := 2147483647) (ln := 646) zk_187_54 rfl rfl (vd_36 (by omega)) (by omega) (by omega) (by omega) (fun σ' h => h.1.1) (fun _ h => (by have q := h.1; omega)) (pc' := 55) rfl (fun y13 hy13 hy13' => ?_)
            exact T_iret zk_187_55 rfl (fun σ' h => ⟨_, rfl, (by omega), h.1, trivial⟩)
        ·
          refine T_op zk_187_32 rfl (X_bi (v := 100) (by decide)) (pc' := 34) rfl ?_
          refine T_goto zk_187_34 ?_
          refine T_ld zk_187_51 rfl rfl rfl (pc' := 53) rfl ?_
          refine T_op zk_187_53 rfl X_add (pc' := 54) rfl ?_
          refine G_iald (lo := -2147483648) (hi := 2147483647) (ln := 646) zk_187_54 rfl rfl (vd_36 (by omega)) (by omega) (by omega) (by omega) (fun σ' h => h.1.1) (fun _ h => (by have q := h.1; omega)) (pc' := 55) rfl (fun y14 hy14 hy14' => ?_)
          exact T_iret zk_187_55 rfl (fun σ' h => ⟨_, rfl, (by omega), h.1, trivial⟩)
      ·
        refine T_op zk_187_22 rfl X_ic (pc' := 23) rfl ?_
        exact T_iret zk_187_23 rfl (fun σ' h => ⟨_, rfl, (by omega), h.1, trivial⟩)
/-- WModel.status -/
theorem m_188 {xs : Nat × (Nat → Int32)} (p0 : Int) (hp0 : -2147483648 ≤ p0 ∧ p0 ≤ 2147483647) (σ : ZS) (hI : Inv σ)   : CT xs 2 188 [av 35 0 0, iv p0] σ (fun v σ' => ∃ y, v = some (iv y) ∧ (-2147483648 ≤ y ∧ y ≤ 2147483647) ∧ IF MN σ σ' ∧ (True)) := by
  refine G_ct (J := (fun σ' => IF MN σ σ' ∧ True)) (L := [(0, av 35 0 0), (1, iv p0)]) (nL := 4) rfl rfl rfl ⟨IF.rf hI, trivial⟩ ?_
  refine T_ld zk_188_0 rfl rfl rfl (pc' := 1) rfl ?_
  refine T_op zk_188_1 rfl (X_bi (v := 10) (by decide)) (pc' := 3) rfl ?_
  refine T_icmp_le zk_188_3 (by omega) (by omega) (pc' := 6) rfl (fun h1 => ?_) (fun h2 => ?_)
  ·
    refine T_op zk_188_22 rfl X_ic (pc' := 23) rfl ?_
    refine T_st (L' := [(0, av 35 0 0), (1, iv p0), (2, iv 0)]) zk_188_23 (nL := 4) rfl rfl rfl rfl rfl (pc' := 24) rfl ?_
    refine T_ld zk_188_24 rfl rfl rfl (pc' := 25) rfl ?_
    by_cases h3 : p0 = 0
    · subst h3
      refine T_br (t := 116) zk_188_25 rfl rfl rfl (fun _ => rfl) rfl ?_
      refine T_ld zk_188_116 rfl rfl rfl (pc' := 117) rfl ?_
      refine T_getR (t' := 36) (i' := 0) (k' := 0) zk_188_117 rfl rfl rfl vd_35 (pc' := 120) rfl ?_
      refine T_op zk_188_120 rfl (X_si (v := 633) (by decide)) (pc' := 123) rfl ?_
      refine G_iald (lo := 0) (hi := 3) (ln := 646) zk_188_123 rfl rfl (vd_36 (by omega)) (by omega) (by omega) (by omega) (fun σ' h => h.1.1) (fun _ h => h.2.2.2.2.2.1 (by omega) (by omega)) (pc' := 124) rfl (fun y4 hy4 hy4' => ?_)
      exact T_iret zk_188_124 rfl (fun σ' h => ⟨_, rfl, (by omega), h.1, trivial⟩)
    by_cases h5 : p0 = 1
    · subst h5
      refine T_br (t := 125) zk_188_25 rfl rfl rfl (fun _ => rfl) rfl ?_
      refine T_op zk_188_125 rfl X_ic (pc' := 126) rfl ?_
      refine T_st (L' := [(0, av 35 0 0), (1, iv 1), (2, iv 0), (3, iv 0)]) zk_188_126 (nL := 4) rfl rfl rfl rfl rfl (pc' := 127) rfl ?_
      refine T_loop2 (fun x6 x7 => ((3 - x7 : Int)).toNat) (fun x6 x7 => (-2147483648 ≤ x6 ∧ x6 ≤ 2147483647) ∧ (0 ≤ x7 ∧ x7 ≤ 3)) (fun x6 x7 => TJ xs (fun σ' => IF MN σ σ' ∧ True) 1 188 127 [(0, av 35 0 0), (1, iv 1), (2, iv x6), (3, iv x7)] [] _) ?_ 0 0 (by omega)
      intro x6 x7 hp9 ih8
      refine T_ld zk_188_127 rfl rfl rfl (pc' := 128) rfl ?_
      refine T_ld zk_188_128 rfl rfl rfl (pc' := 129) rfl ?_
      refine T_getR (t' := 36) (i' := 0) (k' := 0) zk_188_129 rfl rfl rfl vd_35 (pc' := 132) rfl ?_
      refine T_op zk_188_132 rfl (X_si (v := 633) (by decide)) (pc' := 135) rfl ?_
      refine G_iald (lo := 0) (hi := 3) (ln := 646) zk_188_135 rfl rfl (vd_36 (by omega)) (by omega) (by omega) (by omega) (fun σ' h => h.1.1) (fun _ h => h.2.2.2.2.2.1 (by omega) (by omega)) (pc' := 136) rfl (fun y10 hy10 hy10' => ?_)
      refine T_icmp_ge zk_188_136 (by omega) (by omega) (pc' := 139) rfl (fun h11 => ?_) (fun h12 => ?_)
      ·
        refine T_ld zk_188_158 rfl rfl rfl (pc' := 159) rfl ?_
        exact T_iret zk_188_159 rfl (fun σ' h => ⟨_, rfl, (by omega), h.1, trivial⟩)
      ·
        refine T_ld zk_188_139 rfl rfl rfl (pc' := 140) rfl ?_
        refine T_ld zk_188_140 rfl rfl rfl (pc' := 141) rfl ?_
        refine T_getR (t' := 36) (i' := 0) (k' := 0) zk_188_141 rfl rfl rfl vd_35 (pc' := 144) rfl ?_
        refine T_op zk_188_144 rfl (X_si (v := 253) (by decide)) (pc' := 147) rfl ?_
        refine T_ld zk_188_147 rfl rfl rfl (pc' := 148) rfl ?_
        refine T_op zk_188_148 rfl X_add (pc' := 149) rfl ?_
        refine G_iald (lo := -2147483648) (hi := 2147483647) (ln := 646) zk_188_149 rfl rfl (vd_36 (by omega)) (by omega) (by omega) (by omega) (fun σ' h => h.1.1) (fun _ h => (by have q := h.1; omega)) (pc' := 150) rfl (fun y13 hy13 hy13' => ?_)
        refine G_unk zk_188_150 rfl (pc' := 151) rfl (fun y14 hy14 hy14' => ?_)
        refine T_st (L' := [(0, av 35 0 0), (1, iv 1), (2, iv y14), (3, iv x7)]) zk_188_151 (nL := 4) rfl rfl rfl rfl rfl (pc' := 152) rfl ?_
        refine T_iinc (L' := [(0, av 35 0 0), (1, iv 1), (2, iv y14), (3, iv (x7 + 1))]) zk_188_152 (nL := 4) rfl rfl rfl rfl (pc' := 155) rfl ?_
        refine T_goto zk_188_155 ?_
        exact ih8 y14 (x7 + 1) (by omega) (by omega)
    by_cases h15 : p0 = 2
    · subst h15
      refine T_br (t := 160) zk_188_25 rfl rfl rfl (fun _ => rfl) rfl ?_
      refine T_ld zk_188_160 rfl rfl rfl (pc' := 161) rfl ?_
      refine T_getR (t' := 36) (i' := 0) (k' := 0) zk_188_161 rfl rfl rfl vd_35 (pc' := 164) rfl ?_
      refine T_op zk_188_164 rfl (X_si (v := 640) (by decide)) (pc' := 167) rfl ?_
      refine G_iald (lo := 0) (hi := 5) (ln := 646) zk_188_167 rfl rfl (vd_36 (by omega)) (by omega) (by omega) (by omega) (fun σ' h => h.1.1) (fun _ h => h.2.2.2.2.2.2.2.2.2.2.2.1 (by omega) (by omega)) (pc' := 168) rfl (fun y16 hy16 hy16' => ?_)
      exact T_iret zk_188_168 rfl (fun σ' h => ⟨_, rfl, (by omega), h.1, trivial⟩)
    by_cases h17 : p0 = 3
    · subst h17
      refine T_br (t := 169) zk_188_25 rfl rfl rfl (fun _ => rfl) rfl ?_
      refine T_op zk_188_169 rfl X_ic (pc' := 170) rfl ?_
      refine T_st (L' := [(0, av 35 0 0), (1, iv 3), (2, iv 0), (3, iv 0)]) zk_188_170 (nL := 4) rfl rfl rfl rfl rfl (pc' := 171) rfl ?_
      refine T_loop2 (fun x18 x19 => ((5 - x19 : Int)).toNat) (fun x18 x19 => (-2147483648 ≤ x18 ∧ x18 ≤ 2147483647) ∧ (0 ≤ x19 ∧ x19 ≤ 5)) (fun x18 x19 => TJ xs (fun σ' => IF MN σ σ' ∧ True) 1 188 171 [(0, av 35 0 0), (1, iv 3), (2, iv x18), (3, iv x19)] [] _) ?_ 0 0 (by omega)
      intro x18 x19 hp21 ih20
      refine T_ld zk_188_171 rfl rfl rfl (pc' := 172) rfl ?_
      refine T_ld zk_188_172 rfl rfl rfl (pc' := 173) rfl ?_
      refine T_getR (t' := 36) (i' := 0) (k' := 0) zk_188_173 rfl rfl rfl vd_35 (pc' := 176) rfl ?_
      refine T_op zk_188_176 rfl (X_si (v := 640) (by decide)) (pc' := 179) rfl ?_
      refine G_iald (lo := 0) (hi := 5) (ln := 646) zk_188_179 rfl rfl (vd_36 (by omega)) (by omega) (by omega) (by omega) (fun σ' h => h.1.1) (fun _ h => h.2.2.2.2.2.2.2.2.2.2.2.1 (by omega) (by omega)) (pc' := 180) rfl (fun y22 hy22 hy22' => ?_)
      refine T_icmp_ge zk_188_180 (by omega) (by omega) (pc' := 183) rfl (fun h23 => ?_) (fun h24 => ?_)
      ·
        refine T_ld zk_188_202 rfl rfl rfl (pc' := 203) rfl ?_
        exact T_iret zk_188_203 rfl (fun σ' h => ⟨_, rfl, (by omega), h.1, trivial⟩)
      ·
        refine T_ld zk_188_183 rfl rfl rfl (pc' := 184) rfl ?_
        refine T_ld zk_188_184 rfl rfl rfl (pc' := 185) rfl ?_
        refine T_getR (t' := 36) (i' := 0) (k' := 0) zk_188_185 rfl rfl rfl vd_35 (pc' := 188) rfl ?_
        refine T_op zk_188_188 rfl (X_si (v := 628) (by decide)) (pc' := 191) rfl ?_
        refine T_ld zk_188_191 rfl rfl rfl (pc' := 192) rfl ?_
        refine T_op zk_188_192 rfl X_add (pc' := 193) rfl ?_
        refine G_iald (lo := -2147483648) (hi := 2147483647) (ln := 646) zk_188_193 rfl rfl (vd_36 (by omega)) (by omega) (by omega) (by omega) (fun σ' h => h.1.1) (fun _ h => (by have q := h.1; omega)) (pc' := 194) rfl (fun y25 hy25 hy25' => ?_)
        refine G_unk zk_188_194 rfl (pc' := 195) rfl (fun y26 hy26 hy26' => ?_)
        refine T_st (L' := [(0, av 35 0 0), (1, iv 3), (2, iv y26), (3, iv x19)]) zk_188_195 (nL := 4) rfl rfl rfl rfl rfl (pc' := 196) rfl ?_
        refine T_iinc (L' := [(0, av 35 0 0), (1, iv 3), (2, iv y26), (3, iv (x19 + 1))]) zk_188_196 (nL := 4) rfl rfl rfl rfl (pc' := 199) rfl ?_
        refine T_goto zk_188_199 ?_
        exact ih20 y26 (x19 + 1) (by omega) (by omega)
    by_cases h27 : p0 = 4
    · subst h27
      refine T_br (t := 204) zk_188_25 rfl rfl rfl (fun _ => rfl) rfl ?_
      refine T_ld zk_188_204 rfl rfl rfl (pc' := 205) rfl ?_
      refine T_getR (t' := 36) (i' := 0) (k' := 0) zk_188_205 rfl rfl rfl vd_35 (pc' := 208) rfl ?_
      refine T_op zk_188_208 rfl (X_si (v := 641) (by decide)) (pc' := 211) rfl ?_
      refine G_iald (lo := 0) (hi := 12) (ln := 646) zk_188_211 rfl rfl (vd_36 (by omega)) (by omega) (by omega) (by omega) (fun σ' h => h.1.1) (fun _ h => h.2.2.2.2.2.2.2.2.2.2.2.2.1 (by omega) (by omega)) (pc' := 212) rfl (fun y28 hy28 hy28' => ?_)
      exact T_iret zk_188_212 rfl (fun σ' h => ⟨_, rfl, (by omega), h.1, trivial⟩)
    by_cases h29 : p0 = 5
    · subst h29
      refine T_br (t := 213) zk_188_25 rfl rfl rfl (fun _ => rfl) rfl ?_
      refine T_ld zk_188_213 rfl rfl rfl (pc' := 214) rfl ?_
      refine T_getR (t' := 36) (i' := 0) (k' := 0) zk_188_214 rfl rfl rfl vd_35 (pc' := 217) rfl ?_
      refine T_op zk_188_217 rfl (X_si (v := 642) (by decide)) (pc' := 220) rfl ?_
      refine G_iald (lo := 0) (hi := 6) (ln := 646) zk_188_220 rfl rfl (vd_36 (by omega)) (by omega) (by omega) (by omega) (fun σ' h => h.1.1) (fun _ h => h.2.2.2.2.2.2.2.2.2.2.2.2.2 (by omega) (by omega)) (pc' := 221) rfl (fun y30 hy30 hy30' => ?_)
      exact T_iret zk_188_221 rfl (fun σ' h => ⟨_, rfl, (by omega), h.1, trivial⟩)
    by_cases h31 : p0 = 6
    · subst h31
      refine T_br (t := 222) zk_188_25 rfl rfl rfl (fun _ => rfl) rfl ?_
      refine T_ld zk_188_222 rfl rfl rfl (pc' := 223) rfl ?_
      refine T_calli (K := fun y32 σ' => (0 ≤ y32 ∧ y32 ≤ 6) ∧ (fun σ' => IF MN σ σ' ∧ True) σ') (r := []) zk_188_223 rfl rfl rfl rfl rfl rfl (Or.inr ⟨_, _, _, _, rfl, vd_35, rfl⟩) (fun σ' h => (m_160   σ' h.1.1 ).le (Nat.le_of_ble_eq_true rfl) (fun v σ2 ⟨y, h1, h2, h3, h4⟩ => ⟨y, h1, h2, h.1.tr h3 MN_sub, trivial⟩)) (pc' := 226) rfl (fun y32 => ?_)
      refine G_ex (fun hy32 => ?_)
      exact T_iret zk_188_226 rfl (fun σ' h => ⟨_, rfl, (by omega), h.1, trivial⟩)
    by_cases h33 : p0 = 7
    · subst h33
      refine T_br (t := 227) zk_188_25 rfl rfl rfl (fun _ => rfl) rfl ?_
      refine T_ld zk_188_227 rfl rfl rfl (pc' := 228) rfl ?_
      refine T_getR (t' := 36) (i' := 0) (k' := 0) zk_188_228 rfl rfl rfl vd_35 (pc' := 231) rfl ?_
      refine T_op zk_188_231 rfl (X_si (v := 634) (by decide)) (pc' := 234) rfl ?_
      refine G_iald (lo := 0) (hi := 30000) (ln := 646) zk_188_234 rfl rfl (vd_36 (by omega)) (by omega) (by omega) (by omega) (fun σ' h => h.1.1) (fun _ h => h.2.2.2.2.2.2.1 (by omega) (by omega)) (pc' := 235) rfl (fun y34 hy34 hy34' => ?_)
      exact T_iret zk_188_235 rfl (fun σ' h => ⟨_, rfl, (by omega), h.1, trivial⟩)
    by_cases h35 : p0 = 8
    · subst h35
      refine T_br (t := 236) zk_188_25 rfl rfl rfl (fun _ => rfl) rfl ?_
      refine T_ld zk_188_236 rfl rfl rfl (pc' := 237) rfl ?_
      refine T_getR (t' := 36) (i' := 0) (k' := 0) zk_188_237 rfl rfl rfl vd_35 (pc' := 240) rfl ?_
      refine T_op zk_188_240 rfl (X_si (v := 643) (by decide)) (pc' := 243) rfl ?_
      refine G_iald (lo := -2147483648) (hi := 2147483647) (ln := 646) zk_188_243 rfl rfl (vd_36 (by omega)) (by omega) (by omega) (by omega) (fun σ' h => h.1.1) (fun _ h => (by have q := h.1; omega)) (pc' := 244) rfl (fun y36 hy36 hy36' => ?_)
      exact T_iret zk_188_244 rfl (fun σ' h => ⟨_, rfl, (by omega), h.1, trivial⟩)
    by_cases h37 : p0 = 9
    · subst h37
      refine T_br (t := 245) zk_188_25 rfl rfl rfl (fun _ => rfl) rfl ?_
      refine T_ld zk_188_245 rfl rfl rfl (pc' := 246) rfl ?_
      refine T_getR (t' := 36) (i' := 0) (k' := 0) zk_188_246 rfl rfl rfl vd_35 (pc' := 249) rfl ?_
      refine T_op zk_188_249 rfl (X_si (v := 644) (by decide)) (pc' := 252) rfl ?_
      refine G_iald (lo := -2147483648) (hi := 2147483647) (ln := 646) zk_188_252 rfl rfl (vd_36 (by omega)) (by omega) (by omega) (by omega) (fun σ' h => h.1.1) (fun _ h => (by have q := h.1; omega)) (pc' := 253) rfl (fun y38 hy38 hy38' => ?_)
      exact T_iret zk_188_253 rfl (fun σ' h => ⟨_, rfl, (by omega), h.1, trivial⟩)
    by_cases h39 : p0 = 10
    · subst h39
      refine T_br (t := 254) zk_188_25 rfl rfl rfl (fun _ => rfl) rfl ?_
      refine T_op zk_188_254 rfl X_ic (pc' := 255) rfl ?_
      refine T_st (L' := [(0, av 35 0 0), (1, iv 10), (2, iv 0), (3, iv 0)]) zk_188_255 (nL := 4) rfl rfl rfl rfl rfl (pc' := 256) rfl ?_
      refine T_loop2 (fun x40 x41 => ((25 - x41 : Int)).toNat) (fun x40 x41 => (-2147483648 ≤ x40 ∧ x40 ≤ 2147483647) ∧ (0 ≤ x41 ∧ x41 ≤ 25)) (fun x40 x41 => TJ xs (fun σ' => IF MN σ σ' ∧ True) 1 188 256 [(0, av 35 0 0), (1, iv 10), (2, iv x40), (3, iv x41)] [] _) ?_ 0 0 (by omega)
      intro x40 x41 hp43 ih42
      refine T_ld zk_188_256 rfl rfl rfl (pc' := 257) rfl ?_
      refine T_op zk_188_257 rfl (X_bi (v := 25) (by decide)) (pc' := 259) rfl ?_
      refine T_icmp_ge zk_188_259 (by omega) (by omega) (pc' := 262) rfl (fun h44 => ?_) (fun h45 => ?_)
      ·
        refine T_ld zk_188_280 rfl rfl rfl (pc' := 281) rfl ?_
        exact T_iret zk_188_281 rfl (fun σ' h => ⟨_, rfl, (by omega), h.1, trivial⟩)
      ·
        refine T_ld zk_188_262 rfl rfl rfl (pc' := 263) rfl ?_
        refine T_ld zk_188_263 rfl rfl rfl (pc' := 264) rfl ?_
        refine T_getR (t' := 36) (i' := 0) (k' := 0) zk_188_264 rfl rfl rfl vd_35 (pc' := 267) rfl ?_
        refine T_op zk_188_267 rfl (X_bi (v := 25) (by decide)) (pc' := 269) rfl ?_
        refine T_ld zk_188_269 rfl rfl rfl (pc' := 270) rfl ?_
        refine T_op zk_188_270 rfl X_add (pc' := 271) rfl ?_
        refine G_iald (lo := -2147483648) (hi := 2147483647) (ln := 646) zk_188_271 rfl rfl (vd_36 (by omega)) (by omega) (by omega) (by omega) (fun σ' h => h.1.1) (fun _ h => (by have q := h.1; omega)) (pc' := 272) rfl (fun y46 hy46 hy46' => ?_)
        refine G_unk zk_188_272 rfl (pc' := 273) rfl (fun y47 hy47 hy47' => ?_)
        refine T_st (L' := [(0, av 35 0 0), (1, iv 10), (2, iv y47), (3, iv x41)]) zk_188_273 (nL := 4) rfl rfl rfl rfl rfl (pc' := 274) rfl ?_
        refine T_iinc (L' := [(0, av 35 0 0), (1, iv 10), (2, iv y47), (3, iv (x41 + 1))]) zk_188_274 (nL := 4) rfl rfl rfl rfl (pc' := 277) rfl ?_
        refine T_goto zk_188_277 ?_
        exact ih42 y47 (x41 + 1) (by omega) (by omega)
    refine T_tso (t := 291) zk_188_25 (by omega) (by omega) (by omega) ?_
    refine T_ldc zk_188_291 (pc' := 293) rfl ?_
    exact T_iret zk_188_293 rfl (fun σ' h => ⟨_, rfl, (by omega), h.1, trivial⟩)
  ·
    refine T_ld zk_188_6 rfl rfl rfl (pc' := 7) rfl ?_
    refine T_op zk_188_7 rfl (X_bi (v := 18) (by decide)) (pc' := 9) rfl ?_
    refine T_icmp_ge zk_188_9 (by omega) (by omega) (pc' := 12) rfl (fun h48 => ?_) (fun h49 => ?_)
    ·
      refine T_op zk_188_22 rfl X_ic (pc' := 23) rfl ?_
      refine T_st (L' := [(0, av 35 0 0), (1, iv p0), (2, iv 0)]) zk_188_23 (nL := 4) rfl rfl rfl rfl rfl (pc' := 24) rfl ?_
      refine T_ld zk_188_24 rfl rfl rfl (pc' := 25) rfl ?_
      by_cases h50 : p0 = 18
      · subst h50
        refine T_br (t := 282) zk_188_25 rfl rfl rfl (fun _ => rfl) rfl ?_
        refine T_ld zk_188_282 rfl rfl rfl (pc' := 283) rfl ?_
        refine T_getR (t' := 36) (i' := 0) (k' := 0) zk_188_283 rfl rfl rfl vd_35 (pc' := 286) rfl ?_
        refine T_op zk_188_286 rfl (X_si (v := 645) (by decide)) (pc' := 289) rfl ?_
        refine G_iald (lo := -2147483648) (hi := 2147483647) (ln := 646) zk_188_289 rfl rfl (vd_36 (by omega)) (by omega) (by omega) (by omega) (fun σ' h => h.1.1) (fun _ h => (by have q := h.1; omega)) (pc' := 290) rfl (fun y51 hy51 hy51' => ?_)
        exact T_iret zk_188_290 rfl (fun σ' h => ⟨_, rfl, (by omega), h.1, trivial⟩)
      refine T_tso (t := 291) zk_188_25 (by omega) (by omega) (by omega) ?_
      refine T_ldc zk_188_291 (pc' := 293) rfl ?_
      exact T_iret zk_188_293 rfl (fun σ' h => ⟨_, rfl, (by omega), h.1, trivial⟩)
    ·
      refine T_ld zk_188_12 rfl rfl rfl (pc' := 13) rfl ?_
      refine T_getR (t' := 49) (i' := 0) (k' := 0) zk_188_13 rfl rfl rfl vd_35 (pc' := 16) rfl ?_
      refine T_ld zk_188_16 rfl rfl rfl (pc' := 17) rfl ?_
      refine T_op zk_188_17 rfl (X_bi (v := 10) (by decide)) (pc' := 19) rfl ?_
      refine T_op zk_188_19 rfl X_sub (pc' := 20) rfl ?_
      refine G_iald (lo := -2147483648) (hi := 2147483647) (ln := 8) zk_188_20 rfl rfl vd_49 (by omega) (by omega) (by omega) (fun σ' h => h.1.1) (fun _ h => (by have q := h.1; omega)) (pc' := 21) rfl (fun y52 hy52 hy52' => ?_)
      exact T_iret zk_188_21 rfl (fun σ' h => ⟨_, rfl, (by omega), h.1, trivial⟩)
