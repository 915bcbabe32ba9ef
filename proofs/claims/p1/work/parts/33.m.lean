theorem zk_164_0 : zc 164 0 = some (.iload_n 1, 0, 0, 0, 0) := rfl
theorem zk_164_1 : zc 164 1 = some (.ifCond .lt 15, 16, 0, 0, 0) := rfl
theorem zk_164_4 : zc 164 4 = some (.iload_n 1, 0, 0, 0, 0) := rfl
theorem zk_164_5 : zc 164 5 = some (.iconst 2, 0, 0, 0, 0) := rfl
theorem zk_164_6 : zc 164 6 = some (.if_icmp .gt 10, 16, 0, 0, 0) := rfl
theorem zk_164_9 : zc 164 9 = some (.iload_n 2, 0, 0, 0, 0) := rfl
theorem zk_164_10 : zc 164 10 = some (.invokestatic 99, 124, 1, 1, 128) := rfl
theorem zk_164_13 : zc 164 13 = some (.ifCond .ne 9, 22, 0, 0, 0) := rfl
theorem zk_164_16 : zc 164 16 = some (.aload_n 0, 0, 0, 0, 0) := rfl
theorem zk_164_17 : zc 164 17 = some (.iconst (-1), 0, 0, 0, 0) := rfl
theorem zk_164_18 : zc 164 18 = some (.invokevirtual 103, 123, 0, 2, 129) := rfl
theorem zk_164_21 : zc 164 21 = some (.ireturn, 0, 0, 0, 0) := rfl
theorem zk_164_22 : zc 164 22 = some (.iload_n 3, 0, 0, 0, 0) := rfl
theorem zk_164_23 : zc 164 23 = some (.ifCond .lt 34, 57, 0, 0, 0) := rfl
theorem zk_164_26 : zc 164 26 = some (.iload_n 3, 0, 0, 0, 0) := rfl
theorem zk_164_27 : zc 164 27 = some (.sipush 200, 0, 0, 0, 0) := rfl
theorem zk_164_30 : zc 164 30 = some (.if_icmp .gt 27, 57, 0, 0, 0) := rfl
theorem zk_164_33 : zc 164 33 = some (.iload 4, 0, 0, 0, 0) := rfl
theorem zk_164_35 : zc 164 35 = some (.ifCond .lt 22, 57, 0, 0, 0) := rfl
theorem zk_164_38 : zc 164 38 = some (.iload 4, 0, 0, 0, 0) := rfl
theorem zk_164_40 : zc 164 40 = some (.bipush 99, 0, 0, 0, 0) := rfl
theorem zk_164_42 : zc 164 42 = some (.if_icmp .gt 15, 57, 0, 0, 0) := rfl
theorem zk_164_45 : zc 164 45 = some (.iload 5, 0, 0, 0, 0) := rfl
theorem zk_164_47 : zc 164 47 = some (.ifCond .lt 10, 57, 0, 0, 0) := rfl
theorem zk_164_50 : zc 164 50 = some (.iload 5, 0, 0, 0, 0) := rfl
theorem zk_164_52 : zc 164 52 = some (.bipush 99, 0, 0, 0, 0) := rfl
theorem zk_164_54 : zc 164 54 = some (.if_icmp .le 10, 64, 0, 0, 0) := rfl
theorem zk_164_57 : zc 164 57 = some (.aload_n 0, 0, 0, 0, 0) := rfl
theorem zk_164_58 : zc 164 58 = some (.bipush (-6), 0, 0, 0, 0) := rfl
theorem zk_164_60 : zc 164 60 = some (.invokevirtual 103, 123, 0, 2, 129) := rfl
theorem zk_164_63 : zc 164 63 = some (.ireturn, 0, 0, 0, 0) := rfl
theorem zk_164_64 : zc 164 64 = some (.aload_n 0, 0, 0, 0, 0) := rfl
theorem zk_164_65 : zc 164 65 = some (.getfield 7, 11, 0, 0, 139) := rfl
theorem zk_164_68 : zc 164 68 = some (.sipush 641, 0, 0, 0, 0) := rfl
theorem zk_164_71 : zc 164 71 = some (.iaload, 0, 0, 0, 0) := rfl
theorem zk_164_72 : zc 164 72 = some (.istore 6, 0, 0, 0, 0) := rfl
theorem zk_164_74 : zc 164 74 = some (.iload 6, 0, 0, 0, 0) := rfl
theorem zk_164_76 : zc 164 76 = some (.bipush 12, 0, 0, 0, 0) := rfl
theorem zk_164_78 : zc 164 78 = some (.if_icmp .ne 10, 88, 0, 0, 0) := rfl
theorem zk_164_88 : zc 164 88 = some (.aload_n 0, 0, 0, 0, 0) := rfl
theorem zk_164_89 : zc 164 89 = some (.getfield 7, 11, 0, 0, 139) := rfl
theorem zk_164_92 : zc 164 92 = some (.sipush 448, 0, 0, 0, 0) := rfl
theorem zk_164_95 : zc 164 95 = some (.iload 6, 0, 0, 0, 0) := rfl
theorem zk_164_97 : zc 164 97 = some (.iadd, 0, 0, 0, 0) := rfl
theorem zk_164_98 : zc 164 98 = some (.iload_n 1, 0, 0, 0, 0) := rfl
theorem zk_164_99 : zc 164 99 = some (.iastore, 0, 0, 0, 0) := rfl
theorem zk_164_100 : zc 164 100 = some (.aload_n 0, 0, 0, 0, 0) := rfl
theorem zk_164_101 : zc 164 101 = some (.getfield 7, 11, 0, 0, 139) := rfl
theorem zk_164_104 : zc 164 104 = some (.sipush 460, 0, 0, 0, 0) := rfl
theorem zk_164_107 : zc 164 107 = some (.iload 6, 0, 0, 0, 0) := rfl
theorem zk_164_109 : zc 164 109 = some (.iadd, 0, 0, 0, 0) := rfl
theorem zk_164_110 : zc 164 110 = some (.iload_n 2, 0, 0, 0, 0) := rfl
theorem zk_164_111 : zc 164 111 = some (.iastore, 0, 0, 0, 0) := rfl
theorem zk_164_112 : zc 164 112 = some (.aload_n 0, 0, 0, 0, 0) := rfl
theorem zk_164_113 : zc 164 113 = some (.getfield 7, 11, 0, 0, 139) := rfl
theorem zk_164_116 : zc 164 116 = some (.sipush 472, 0, 0, 0, 0) := rfl
theorem zk_164_119 : zc 164 119 = some (.iload 6, 0, 0, 0, 0) := rfl
theorem zk_164_121 : zc 164 121 = some (.iadd, 0, 0, 0, 0) := rfl
theorem zk_164_122 : zc 164 122 = some (.iload_n 3, 0, 0, 0, 0) := rfl
theorem zk_164_123 : zc 164 123 = some (.iastore, 0, 0, 0, 0) := rfl
theorem zk_164_124 : zc 164 124 = some (.aload_n 0, 0, 0, 0, 0) := rfl
theorem zk_164_125 : zc 164 125 = some (.getfield 7, 11, 0, 0, 139) := rfl
theorem zk_164_128 : zc 164 128 = some (.sipush 484, 0, 0, 0, 0) := rfl
theorem zk_164_131 : zc 164 131 = some (.iload 6, 0, 0, 0, 0) := rfl
theorem zk_164_133 : zc 164 133 = some (.iadd, 0, 0, 0, 0) := rfl
theorem zk_164_134 : zc 164 134 = some (.iload 4, 0, 0, 0, 0) := rfl
theorem zk_164_136 : zc 164 136 = some (.iastore, 0, 0, 0, 0) := rfl
theorem zk_164_137 : zc 164 137 = some (.aload_n 0, 0, 0, 0, 0) := rfl
theorem zk_164_138 : zc 164 138 = some (.getfield 7, 11, 0, 0, 139) := rfl
theorem zk_164_141 : zc 164 141 = some (.sipush 496, 0, 0, 0, 0) := rfl
theorem zk_164_144 : zc 164 144 = some (.iload 6, 0, 0, 0, 0) := rfl
theorem zk_164_146 : zc 164 146 = some (.iadd, 0, 0, 0, 0) := rfl
theorem zk_164_147 : zc 164 147 = some (.iload 5, 0, 0, 0, 0) := rfl
theorem zk_164_149 : zc 164 149 = some (.iastore, 0, 0, 0, 0) := rfl
theorem zk_164_150 : zc 164 150 = some (.sipush 508, 0, 0, 0, 0) := rfl
theorem zk_164_153 : zc 164 153 = some (.istore 7, 0, 0, 0, 0) := rfl
theorem zk_164_155 : zc 164 155 = some (.iload 7, 0, 0, 0, 0) := rfl
theorem zk_164_157 : zc 164 157 = some (.sipush 556, 0, 0, 0, 0) := rfl
theorem zk_164_160 : zc 164 160 = some (.if_icmp .gt 20, 180, 0, 0, 0) := rfl
theorem zk_164_163 : zc 164 163 = some (.aload_n 0, 0, 0, 0, 0) := rfl
theorem zk_164_164 : zc 164 164 = some (.getfield 7, 11, 0, 0, 139) := rfl
theorem zk_164_167 : zc 164 167 = some (.iload 7, 0, 0, 0, 0) := rfl
theorem zk_164_169 : zc 164 169 = some (.iload 6, 0, 0, 0, 0) := rfl
theorem zk_164_171 : zc 164 171 = some (.iadd, 0, 0, 0, 0) := rfl
theorem zk_164_172 : zc 164 172 = some (.iconst 0, 0, 0, 0, 0) := rfl
theorem zk_164_173 : zc 164 173 = some (.iastore, 0, 0, 0, 0) := rfl
theorem zk_164_174 : zc 164 174 = some (.iinc 7 12, 0, 0, 0, 0) := rfl
theorem zk_164_177 : zc 164 177 = some (.goto (-22), 155, 0, 0, 0) := rfl
theorem zk_164_180 : zc 164 180 = some (.aload_n 0, 0, 0, 0, 0) := rfl
theorem zk_164_181 : zc 164 181 = some (.getfield 7, 11, 0, 0, 139) := rfl
theorem zk_164_184 : zc 164 184 = some (.sipush 641, 0, 0, 0, 0) := rfl
theorem zk_164_187 : zc 164 187 = some (.dup2, 0, 0, 0, 0) := rfl
theorem zk_164_188 : zc 164 188 = some (.iaload, 0, 0, 0, 0) := rfl
theorem zk_164_189 : zc 164 189 = some (.dup_x2, 0, 0, 0, 0) := rfl
theorem zk_164_190 : zc 164 190 = some (.iconst 1, 0, 0, 0, 0) := rfl
theorem zk_164_191 : zc 164 191 = some (.iadd, 0, 0, 0, 0) := rfl
theorem zk_164_192 : zc 164 192 = some (.iastore, 0, 0, 0, 0) := rfl
theorem zk_164_193 : zc 164 193 = some (.ireturn, 0, 0, 0, 0) := rfl
theorem zk_165_0 : zc 165 0 = some (.aload_n 0, 0, 0, 0, 0) := rfl
theorem zk_165_1 : zc 165 1 = some (.iload_n 1, 0, 0, 0, 0) := rfl
theorem zk_165_2 : zc 165 2 = some (.invokevirtual 118, 139, 0, 2, 133) := rfl
theorem zk_165_5 : zc 165 5 = some (.ifCond .ne 9, 14, 0, 0, 0) := rfl
theorem zk_165_8 : zc 165 8 = some (.aload_n 0, 0, 0, 0, 0) := rfl
theorem zk_165_9 : zc 165 9 = some (.iconst (-1), 0, 0, 0, 0) := rfl
theorem zk_165_10 : zc 165 10 = some (.invokevirtual 103, 123, 0, 2, 129) := rfl
theorem zk_165_13 : zc 165 13 = some (.ireturn, 0, 0, 0, 0) := rfl
theorem zk_166_0 : zc 166 0 = some (.aload_n 0, 0, 0, 0, 0) := rfl
theorem zk_166_1 : zc 166 1 = some (.iload_n 1, 0, 0, 0, 0) := rfl
theorem zk_166_2 : zc 166 2 = some (.invokevirtual 118, 139, 0, 2, 133) := rfl
theorem zk_166_5 : zc 166 5 = some (.ifCond .ne 5, 10, 0, 0, 0) := rfl
theorem zk_166_8 : zc 166 8 = some (.iconst (-1), 0, 0, 0, 0) := rfl
theorem zk_166_9 : zc 166 9 = some (.ireturn, 0, 0, 0, 0) := rfl
theorem zk_168_0 : zc 168 0 = some (.iload_n 1, 0, 0, 0, 0) := rfl
theorem zk_168_1 : zc 168 1 = some (.invokestatic 99, 124, 1, 1, 128) := rfl
theorem zk_168_4 : zc 168 4 = some (.ifCond .ne 9, 13, 0, 0, 0) := rfl
theorem zk_168_7 : zc 168 7 = some (.aload_n 0, 0, 0, 0, 0) := rfl
theorem zk_168_8 : zc 168 8 = some (.iconst (-1), 0, 0, 0, 0) := rfl
theorem zk_168_9 : zc 168 9 = some (.invokevirtual 103, 123, 0, 2, 129) := rfl
theorem zk_168_12 : zc 168 12 = some (.ireturn, 0, 0, 0, 0) := rfl
theorem zk_168_13 : zc 168 13 = some (.iload_n 2, 0, 0, 0, 0) := rfl
theorem zk_168_14 : zc 168 14 = some (.iconst 1, 0, 0, 0, 0) := rfl
theorem zk_168_15 : zc 168 15 = some (.if_icmp .lt 45, 60, 0, 0, 0) := rfl
theorem zk_168_18 : zc 168 18 = some (.iload_n 2, 0, 0, 0, 0) := rfl
theorem zk_168_19 : zc 168 19 = some (.bipush 60, 0, 0, 0, 0) := rfl
theorem zk_168_21 : zc 168 21 = some (.if_icmp .gt 39, 60, 0, 0, 0) := rfl
theorem zk_168_24 : zc 168 24 = some (.iload_n 3, 0, 0, 0, 0) := rfl
theorem zk_168_25 : zc 168 25 = some (.iconst 1, 0, 0, 0, 0) := rfl
theorem zk_168_26 : zc 168 26 = some (.if_icmp .lt 34, 60, 0, 0, 0) := rfl
theorem zk_168_29 : zc 168 29 = some (.iload_n 3, 0, 0, 0, 0) := rfl
theorem zk_168_30 : zc 168 30 = some (.bipush 99, 0, 0, 0, 0) := rfl
theorem zk_168_32 : zc 168 32 = some (.if_icmp .gt 28, 60, 0, 0, 0) := rfl
theorem zk_168_35 : zc 168 35 = some (.iload 4, 0, 0, 0, 0) := rfl
theorem zk_168_37 : zc 168 37 = some (.iconst 1, 0, 0, 0, 0) := rfl
theorem zk_168_38 : zc 168 38 = some (.if_icmp .lt 22, 60, 0, 0, 0) := rfl
theorem zk_168_41 : zc 168 41 = some (.iload 4, 0, 0, 0, 0) := rfl
theorem zk_168_43 : zc 168 43 = some (.bipush 9, 0, 0, 0, 0) := rfl
theorem zk_168_45 : zc 168 45 = some (.if_icmp .gt 15, 60, 0, 0, 0) := rfl
theorem zk_168_48 : zc 168 48 = some (.iload 5, 0, 0, 0, 0) := rfl
theorem zk_168_50 : zc 168 50 = some (.ifCond .lt 10, 60, 0, 0, 0) := rfl
theorem zk_168_53 : zc 168 53 = some (.iload 5, 0, 0, 0, 0) := rfl
theorem zk_168_55 : zc 168 55 = some (.bipush 9, 0, 0, 0, 0) := rfl
theorem zk_168_57 : zc 168 57 = some (.if_icmp .le 10, 67, 0, 0, 0) := rfl
theorem zk_168_60 : zc 168 60 = some (.aload_n 0, 0, 0, 0, 0) := rfl
theorem zk_168_61 : zc 168 61 = some (.bipush (-6), 0, 0, 0, 0) := rfl
theorem zk_168_63 : zc 168 63 = some (.invokevirtual 103, 123, 0, 2, 129) := rfl
theorem zk_168_66 : zc 168 66 = some (.ireturn, 0, 0, 0, 0) := rfl
theorem zk_168_67 : zc 168 67 = some (.aload_n 0, 0, 0, 0, 0) := rfl
theorem zk_168_68 : zc 168 68 = some (.getfield 7, 11, 0, 0, 139) := rfl
theorem zk_168_71 : zc 168 71 = some (.sipush 642, 0, 0, 0, 0) := rfl
theorem zk_168_74 : zc 168 74 = some (.iaload, 0, 0, 0, 0) := rfl
theorem zk_168_75 : zc 168 75 = some (.istore 6, 0, 0, 0, 0) := rfl
theorem zk_168_77 : zc 168 77 = some (.iload 6, 0, 0, 0, 0) := rfl
theorem zk_168_79 : zc 168 79 = some (.bipush 6, 0, 0, 0, 0) := rfl
theorem zk_168_81 : zc 168 81 = some (.if_icmp .ne 10, 91, 0, 0, 0) := rfl
theorem zk_168_91 : zc 168 91 = some (.aload_n 0, 0, 0, 0, 0) := rfl
theorem zk_168_92 : zc 168 92 = some (.getfield 7, 11, 0, 0, 139) := rfl
theorem zk_168_95 : zc 168 95 = some (.sipush 568, 0, 0, 0, 0) := rfl
theorem zk_168_98 : zc 168 98 = some (.iload 6, 0, 0, 0, 0) := rfl
theorem zk_168_100 : zc 168 100 = some (.iadd, 0, 0, 0, 0) := rfl
theorem zk_168_101 : zc 168 101 = some (.iload_n 1, 0, 0, 0, 0) := rfl
theorem zk_168_102 : zc 168 102 = some (.iastore, 0, 0, 0, 0) := rfl
theorem zk_168_103 : zc 168 103 = some (.aload_n 0, 0, 0, 0, 0) := rfl
theorem zk_168_104 : zc 168 104 = some (.getfield 7, 11, 0, 0, 139) := rfl
theorem zk_168_107 : zc 168 107 = some (.sipush 574, 0, 0, 0, 0) := rfl
theorem zk_168_110 : zc 168 110 = some (.iload 6, 0, 0, 0, 0) := rfl
theorem zk_168_112 : zc 168 112 = some (.iadd, 0, 0, 0, 0) := rfl
theorem zk_168_113 : zc 168 113 = some (.iload_n 2, 0, 0, 0, 0) := rfl
theorem zk_168_114 : zc 168 114 = some (.iastore, 0, 0, 0, 0) := rfl
theorem zk_168_115 : zc 168 115 = some (.aload_n 0, 0, 0, 0, 0) := rfl
theorem zk_168_116 : zc 168 116 = some (.getfield 7, 11, 0, 0, 139) := rfl
theorem zk_168_119 : zc 168 119 = some (.sipush 580, 0, 0, 0, 0) := rfl
theorem zk_168_122 : zc 168 122 = some (.iload 6, 0, 0, 0, 0) := rfl
theorem zk_168_124 : zc 168 124 = some (.iadd, 0, 0, 0, 0) := rfl
theorem zk_168_125 : zc 168 125 = some (.iload_n 3, 0, 0, 0, 0) := rfl
theorem zk_168_126 : zc 168 126 = some (.iastore, 0, 0, 0, 0) := rfl
theorem zk_168_127 : zc 168 127 = some (.aload_n 0, 0, 0, 0, 0) := rfl
theorem zk_168_128 : zc 168 128 = some (.getfield 7, 11, 0, 0, 139) := rfl
theorem zk_168_131 : zc 168 131 = some (.sipush 586, 0, 0, 0, 0) := rfl
theorem zk_168_134 : zc 168 134 = some (.iload 6, 0, 0, 0, 0) := rfl
theorem zk_168_136 : zc 168 136 = some (.iadd, 0, 0, 0, 0) := rfl
theorem zk_168_137 : zc 168 137 = some (.iload 4, 0, 0, 0, 0) := rfl
theorem zk_168_139 : zc 168 139 = some (.iastore, 0, 0, 0, 0) := rfl
theorem zk_168_140 : zc 168 140 = some (.aload_n 0, 0, 0, 0, 0) := rfl
theorem zk_168_141 : zc 168 141 = some (.getfield 7, 11, 0, 0, 139) := rfl
theorem zk_168_144 : zc 168 144 = some (.sipush 592, 0, 0, 0, 0) := rfl
theorem zk_168_147 : zc 168 147 = some (.iload 6, 0, 0, 0, 0) := rfl
theorem zk_168_149 : zc 168 149 = some (.iadd, 0, 0, 0, 0) := rfl
theorem zk_168_150 : zc 168 150 = some (.iload 5, 0, 0, 0, 0) := rfl
theorem zk_168_152 : zc 168 152 = some (.iastore, 0, 0, 0, 0) := rfl
theorem zk_168_153 : zc 168 153 = some (.aload_n 0, 0, 0, 0, 0) := rfl
theorem zk_168_154 : zc 168 154 = some (.getfield 7, 11, 0, 0, 139) := rfl
theorem zk_168_157 : zc 168 157 = some (.sipush 598, 0, 0, 0, 0) := rfl
theorem zk_168_160 : zc 168 160 = some (.iload 6, 0, 0, 0, 0) := rfl
theorem zk_168_162 : zc 168 162 = some (.iadd, 0, 0, 0, 0) := rfl
theorem zk_168_163 : zc 168 163 = some (.iconst (-1), 0, 0, 0, 0) := rfl
theorem zk_168_164 : zc 168 164 = some (.iastore, 0, 0, 0, 0) := rfl
theorem zk_168_165 : zc 168 165 = some (.sipush 604, 0, 0, 0, 0) := rfl
theorem zk_168_168 : zc 168 168 = some (.istore 7, 0, 0, 0, 0) := rfl
theorem zk_168_170 : zc 168 170 = some (.iload 7, 0, 0, 0, 0) := rfl
theorem zk_168_172 : zc 168 172 = some (.sipush 622, 0, 0, 0, 0) := rfl
theorem zk_168_175 : zc 168 175 = some (.if_icmp .gt 20, 195, 0, 0, 0) := rfl
theorem zk_168_178 : zc 168 178 = some (.aload_n 0, 0, 0, 0, 0) := rfl
theorem zk_168_179 : zc 168 179 = some (.getfield 7, 11, 0, 0, 139) := rfl
theorem zk_168_182 : zc 168 182 = some (.iload 7, 0, 0, 0, 0) := rfl
theorem zk_168_184 : zc 168 184 = some (.iload 6, 0, 0, 0, 0) := rfl
theorem zk_168_186 : zc 168 186 = some (.iadd, 0, 0, 0, 0) := rfl
theorem zk_168_187 : zc 168 187 = some (.iconst 0, 0, 0, 0, 0) := rfl
theorem zk_168_188 : zc 168 188 = some (.iastore, 0, 0, 0, 0) := rfl
theorem zk_168_189 : zc 168 189 = some (.iinc 7 6, 0, 0, 0, 0) := rfl
theorem zk_168_192 : zc 168 192 = some (.goto (-22), 170, 0, 0, 0) := rfl
theorem zk_168_195 : zc 168 195 = some (.aload_n 0, 0, 0, 0, 0) := rfl
theorem zk_168_196 : zc 168 196 = some (.getfield 7, 11, 0, 0, 139) := rfl
theorem zk_168_199 : zc 168 199 = some (.sipush 642, 0, 0, 0, 0) := rfl
theorem zk_168_202 : zc 168 202 = some (.dup2, 0, 0, 0, 0) := rfl
theorem zk_168_203 : zc 168 203 = some (.iaload, 0, 0, 0, 0) := rfl
theorem zk_168_204 : zc 168 204 = some (.dup_x2, 0, 0, 0, 0) := rfl
theorem zk_168_205 : zc 168 205 = some (.iconst 1, 0, 0, 0, 0) := rfl
theorem zk_168_206 : zc 168 206 = some (.iadd, 0, 0, 0, 0) := rfl
theorem zk_168_207 : zc 168 207 = some (.iastore, 0, 0, 0, 0) := rfl
theorem zk_168_208 : zc 168 208 = some (.ireturn, 0, 0, 0, 0) := rfl
theorem zk_169_0 : zc 169 0 = some (.aload_n 0, 0, 0, 0, 0) := rfl
theorem zk_169_1 : zc 169 1 = some (.iload_n 1, 0, 0, 0, 0) := rfl
theorem zk_169_2 : zc 169 2 = some (.invokevirtual 198, 167, 0, 2, 148) := rfl
theorem zk_169_5 : zc 169 5 = some (.ifCond .eq 15, 20, 0, 0, 0) := rfl
theorem zk_169_20 : zc 169 20 = some (.aload_n 0, 0, 0, 0, 0) := rfl
theorem zk_169_21 : zc 169 21 = some (.iconst (-1), 0, 0, 0, 0) := rfl
theorem zk_169_22 : zc 169 22 = some (.invokevirtual 103, 123, 0, 2, 129) := rfl
theorem zk_169_25 : zc 169 25 = some (.ireturn, 0, 0, 0, 0) := rfl
theorem zk_173_0 : zc 173 0 = some (.aload_n 0, 0, 0, 0, 0) := rfl
theorem zk_173_1 : zc 173 1 = some (.iload_n 1, 0, 0, 0, 0) := rfl
theorem zk_173_2 : zc 173 2 = some (.invokevirtual 198, 167, 0, 2, 148) := rfl
theorem zk_173_5 : zc 173 5 = some (.ifCond .eq 11, 16, 0, 0, 0) := rfl
theorem zk_173_16 : zc 173 16 = some (.iconst (-1), 0, 0, 0, 0) := rfl
theorem zk_173_17 : zc 173 17 = some (.ireturn, 0, 0, 0, 0) := rfl
theorem zk_174_0 : zc 174 0 = some (.aload_n 0, 0, 0, 0, 0) := rfl
theorem zk_174_1 : zc 174 1 = some (.iload_n 1, 0, 0, 0, 0) := rfl
theorem zk_174_2 : zc 174 2 = some (.invokevirtual 198, 167, 0, 2, 148) := rfl
theorem zk_174_5 : zc 174 5 = some (.ifCond .ne 5, 10, 0, 0, 0) := rfl
theorem zk_174_8 : zc 174 8 = some (.iconst (-1), 0, 0, 0, 0) := rfl
theorem zk_174_9 : zc 174 9 = some (.ireturn, 0, 0, 0, 0) := rfl
theorem zk_180_0 : zc 180 0 = some (.aload_n 0, 0, 0, 0, 0) := rfl
theorem zk_180_1 : zc 180 1 = some (.iload_n 1, 0, 0, 0, 0) := rfl
theorem zk_180_2 : zc 180 2 = some (.invokevirtual 198, 167, 0, 2, 148) := rfl
theorem zk_180_5 : zc 180 5 = some (.ifCond .eq 10, 15, 0, 0, 0) := rfl
theorem zk_180_15 : zc 180 15 = some (.iconst (-1), 0, 0, 0, 0) := rfl
theorem zk_180_16 : zc 180 16 = some (.ireturn, 0, 0, 0, 0) := rfl
theorem zk_185_0 : zc 185 0 = some (.aload_n 0, 0, 0, 0, 0) := rfl
theorem zk_185_1 : zc 185 1 = some (.getfield 234, 11, 3, 0, 178) := rfl
theorem zk_185_4 : zc 185 4 = some (.ifCond .ne 10, 14, 0, 0, 0) := rfl
theorem zk_185_7 : zc 185 7 = some (.aload_n 0, 0, 0, 0, 0) := rfl
theorem zk_185_8 : zc 185 8 = some (.bipush (-6), 0, 0, 0, 0) := rfl
theorem zk_185_10 : zc 185 10 = some (.invokevirtual 103, 123, 0, 2, 129) := rfl
theorem zk_185_13 : zc 185 13 = some (.ireturn, 0, 0, 0, 0) := rfl
theorem zk_186_0 : zc 186 0 = some (.iload_n 1, 0, 0, 0, 0) := rfl
theorem zk_186_1 : zc 186 1 = some (.invokestatic 99, 124, 1, 1, 128) := rfl
theorem zk_186_4 : zc 186 4 = some (.ifCond .ne 6, 10, 0, 0, 0) := rfl
theorem zk_186_7 : zc 186 7 = some (.ldc 238, 0, 0, 1000000, 2) := rfl
theorem zk_186_9 : zc 186 9 = some (.ireturn, 0, 0, 0, 0) := rfl
theorem zk_186_10 : zc 186 10 = some (.iload_n 2, 0, 0, 0, 0) := rfl
theorem zk_186_11 : zc 186 11 = some (.tableswitch 110 0 4 #[33, 42, 52, 62, 72], 0, 0, 0, 0) := rfl
theorem zk_186_44 : zc 186 44 = some (.aload_n 0, 0, 0, 0, 0) := rfl
theorem zk_186_45 : zc 186 45 = some (.getfield 7, 11, 0, 0, 139) := rfl
theorem zk_186_48 : zc 186 48 = some (.iconst 0, 0, 0, 0, 0) := rfl
theorem zk_186_49 : zc 186 49 = some (.iload_n 1, 0, 0, 0, 0) := rfl
theorem zk_186_50 : zc 186 50 = some (.iadd, 0, 0, 0, 0) := rfl
theorem zk_186_51 : zc 186 51 = some (.iaload, 0, 0, 0, 0) := rfl
theorem zk_186_52 : zc 186 52 = some (.ireturn, 0, 0, 0, 0) := rfl
theorem zk_186_53 : zc 186 53 = some (.aload_n 0, 0, 0, 0, 0) := rfl
theorem zk_186_54 : zc 186 54 = some (.getfield 7, 11, 0, 0, 139) := rfl
theorem zk_186_57 : zc 186 57 = some (.bipush 25, 0, 0, 0, 0) := rfl
theorem zk_186_59 : zc 186 59 = some (.iload_n 1, 0, 0, 0, 0) := rfl
theorem zk_186_60 : zc 186 60 = some (.iadd, 0, 0, 0, 0) := rfl
theorem zk_186_61 : zc 186 61 = some (.iaload, 0, 0, 0, 0) := rfl
theorem zk_186_62 : zc 186 62 = some (.ireturn, 0, 0, 0, 0) := rfl
theorem zk_186_63 : zc 186 63 = some (.aload_n 0, 0, 0, 0, 0) := rfl
theorem zk_186_64 : zc 186 64 = some (.getfield 7, 11, 0, 0, 139) := rfl
theorem zk_186_67 : zc 186 67 = some (.bipush 50, 0, 0, 0, 0) := rfl
theorem zk_186_69 : zc 186 69 = some (.iload_n 1, 0, 0, 0, 0) := rfl
theorem zk_186_70 : zc 186 70 = some (.iadd, 0, 0, 0, 0) := rfl
theorem zk_186_71 : zc 186 71 = some (.iaload, 0, 0, 0, 0) := rfl
theorem zk_186_72 : zc 186 72 = some (.ireturn, 0, 0, 0, 0) := rfl
theorem zk_186_73 : zc 186 73 = some (.aload_n 0, 0, 0, 0, 0) := rfl
theorem zk_186_74 : zc 186 74 = some (.getfield 7, 11, 0, 0, 139) := rfl
theorem zk_186_77 : zc 186 77 = some (.bipush 75, 0, 0, 0, 0) := rfl
theorem zk_186_79 : zc 186 79 = some (.iload_n 1, 0, 0, 0, 0) := rfl
theorem zk_186_80 : zc 186 80 = some (.iadd, 0, 0, 0, 0) := rfl
theorem zk_186_81 : zc 186 81 = some (.iaload, 0, 0, 0, 0) := rfl
theorem zk_186_82 : zc 186 82 = some (.ireturn, 0, 0, 0, 0) := rfl
theorem zk_186_83 : zc 186 83 = some (.iconst 0, 0, 0, 0, 0) := rfl
theorem zk_186_84 : zc 186 84 = some (.istore_n 3, 0, 0, 0, 0) := rfl
theorem zk_186_85 : zc 186 85 = some (.iload_n 3, 0, 0, 0, 0) := rfl
theorem zk_186_86 : zc 186 86 = some (.aload_n 0, 0, 0, 0, 0) := rfl
theorem zk_186_87 : zc 186 87 = some (.getfield 7, 11, 0, 0, 139) := rfl
theorem zk_186_90 : zc 186 90 = some (.sipush 633, 0, 0, 0, 0) := rfl
theorem zk_186_93 : zc 186 93 = some (.iaload, 0, 0, 0, 0) := rfl
theorem zk_186_94 : zc 186 94 = some (.if_icmp .ge 25, 119, 0, 0, 0) := rfl
theorem zk_186_119 : zc 186 119 = some (.iconst (-1), 0, 0, 0, 0) := rfl
theorem zk_186_120 : zc 186 120 = some (.ireturn, 0, 0, 0, 0) := rfl
theorem zk_186_121 : zc 186 121 = some (.ldc 238, 0, 0, 1000000, 2) := rfl
theorem zk_186_123 : zc 186 123 = some (.ireturn, 0, 0, 0, 0) := rfl
theorem zk_187_0 : zc 187 0 = some (.iload_n 1, 0, 0, 0, 0) := rfl
theorem zk_187_1 : zc 187 1 = some (.iload_n 2, 0, 0, 0, 0) := rfl
theorem zk_187_2 : zc 187 2 = some (.invokestatic 107, 126, 1, 2, 130) := rfl
theorem zk_187_5 : zc 187 5 = some (.istore 4, 0, 0, 0, 0) := rfl
theorem zk_187_7 : zc 187 7 = some (.iload 4, 0, 0, 0, 0) := rfl
theorem zk_187_9 : zc 187 9 = some (.iconst (-1), 0, 0, 0, 0) := rfl
theorem zk_187_10 : zc 187 10 = some (.if_icmp .eq 12, 22, 0, 0, 0) := rfl
theorem zk_187_13 : zc 187 13 = some (.iload_n 3, 0, 0, 0, 0) := rfl
theorem zk_187_14 : zc 187 14 = some (.ifCond .lt 8, 22, 0, 0, 0) := rfl
theorem zk_187_17 : zc 187 17 = some (.iload_n 3, 0, 0, 0, 0) := rfl
theorem zk_187_18 : zc 187 18 = some (.iconst 2, 0, 0, 0, 0) := rfl
theorem zk_187_19 : zc 187 19 = some (.if_icmp .le 5, 24, 0, 0, 0) := rfl
theorem zk_187_22 : zc 187 22 = some (.iconst (-1), 0, 0, 0, 0) := rfl
theorem zk_187_23 : zc 187 23 = some (.ireturn, 0, 0, 0, 0) := rfl
theorem zk_187_24 : zc 187 24 = some (.aload_n 0, 0, 0, 0, 0) := rfl
theorem zk_187_25 : zc 187 25 = some (.getfield 7, 11, 0, 0, 139) := rfl
theorem zk_187_28 : zc 187 28 = some (.iload_n 3, 0, 0, 0, 0) := rfl
theorem zk_187_29 : zc 187 29 = some (.ifCond .ne 8, 37, 0, 0, 0) := rfl
theorem zk_187_32 : zc 187 32 = some (.bipush 100, 0, 0, 0, 0) := rfl
theorem zk_187_34 : zc 187 34 = some (.goto 17, 51, 0, 0, 0) := rfl
theorem zk_187_37 : zc 187 37 = some (.iload_n 3, 0, 0, 0, 0) := rfl
theorem zk_187_38 : zc 187 38 = some (.iconst 1, 0, 0, 0, 0) := rfl
theorem zk_187_39 : zc 187 39 = some (.if_icmp .ne 9, 48, 0, 0, 0) := rfl
theorem zk_187_42 : zc 187 42 = some (.sipush 150, 0, 0, 0, 0) := rfl
theorem zk_187_45 : zc 187 45 = some (.goto 6, 51, 0, 0, 0) := rfl
theorem zk_187_48 : zc 187 48 = some (.sipush 200, 0, 0, 0, 0) := rfl
theorem zk_187_51 : zc 187 51 = some (.iload 4, 0, 0, 0, 0) := rfl
theorem zk_187_53 : zc 187 53 = some (.iadd, 0, 0, 0, 0) := rfl
theorem zk_187_54 : zc 187 54 = some (.iaload, 0, 0, 0, 0) := rfl
theorem zk_187_55 : zc 187 55 = some (.ireturn, 0, 0, 0, 0) := rfl
/-- WModel.house -/
theorem m_house {xs : Nat × (Nat → Int32)} (p0 : Int) (p1 : Int) (p2 : Int) (p3 : Int) (p4 : Int) (h0 : -2147483648 ≤ p0 ∧ p0 ≤ 2147483647) (h1 : -2147483648 ≤ p1 ∧ p1 ≤ 2147483647) (h2 : -2147483648 ≤ p2 ∧ p2 ≤ 2147483647) (h3 : -2147483648 ≤ p3 ∧ p3 ≤ 2147483647) (h4 : -2147483648 ≤ p4 ∧ p4 ≤ 2147483647) (σ : ZS) (hI : Inv σ) (hm : ∀ t i k j, 35 ≤ t → σ t i k j = σ0 t i k j)  : CT xs 2 164 [av 35 0 0, iv p0, iv p1, iv p2, iv p3, iv p4] σ (fun v σ' => ∃ y, v = some (iv y) ∧ ((y = -1 ∧ (¬ (0 ≤ p0 ∧ p0 ≤ 2) ∨ ¬ (0 ≤ p1 ∧ p1 ≤ 24))) ∨ (y = -6 ∧ ¬ (¬ (0 ≤ p0 ∧ p0 ≤ 2) ∨ ¬ (0 ≤ p1 ∧ p1 ≤ 24)) ∧ (¬ (0 ≤ p2 ∧ p2 ≤ 200) ∨ ¬ (0 ≤ p3 ∧ p3 ≤ 99) ∨ ¬ (0 ≤ p4 ∧ p4 ≤ 99))) ∨ (y = 0 ∧ ¬ (¬ (0 ≤ p0 ∧ p0 ≤ 2) ∨ ¬ (0 ≤ p1 ∧ p1 ≤ 24)) ∧ ¬ (¬ (0 ≤ p2 ∧ p2 ≤ 200) ∨ ¬ (0 ≤ p3 ∧ p3 ≤ 99) ∨ ¬ (0 ≤ p4 ∧ p4 ≤ 99)))) ∧ IF (MK 448 568 641 642) σ σ' ∧ (True)) := by
  refine G_ct (J := (fun σ' => IF (MK 448 568 641 642) σ σ' ∧ σ' 36 0 0 641 = 0 ∧ True)) (L := [(0, av 35 0 0), (1, iv p0), (2, iv p1), (3, iv p2), (4, iv p3), (5, iv p4)]) (nL := 8) rfl rfl rfl ⟨IF.rf hI, ((hm _ _ _ _ (by decide)).trans (s0_z (by omega))), trivial⟩ ?_
  refine T_ld zk_164_0 rfl rfl rfl (pc' := 1) rfl ?_
  refine T_if_lt zk_164_1 (by omega) (pc' := 4) rfl (fun h1 => ?_) (fun h2 => ?_)
  ·
    refine T_ld zk_164_16 rfl rfl rfl (pc' := 17) rfl ?_
    refine T_op zk_164_17 rfl X_ic (pc' := 18) rfl ?_
    refine T_calli (K := fun y3 σ' => (y3 = (-1)) ∧ (fun σ' => IF (MK 448 568 641 642) σ σ' ∧ σ' 36 0 0 641 = 0 ∧ True) σ') (r := []) zk_164_18 rfl rfl rfl rfl rfl rfl (Or.inr ⟨_, _, _, _, rfl, vd_35, rfl⟩) (fun σ' h => (m_123 ((-1)) (by omega) σ' h.1.1 ).le (Nat.le_of_ble_eq_true rfl) (fun v σ2 ⟨y, h1, h2, h3, h4⟩ => ⟨y, h1, h2, h.1.tr h3 (fun t i k j h => by unfold MT at h; unfold MK; omega), (h3.2 _ _ _ _ (by unfold MT; omega)).trans (h.2.1), trivial⟩)) (pc' := 21) rfl (fun y3 => ?_)
    refine G_ex (fun hy3 => ?_)
    obtain rfl : y3 = (-1) := by omega
    exact T_iret zk_164_21 rfl (fun σ' h => ⟨_, rfl, (by omega), h.1, trivial⟩)
  ·
    refine T_ld zk_164_4 rfl rfl rfl (pc' := 5) rfl ?_
    refine T_op zk_164_5 rfl X_ic (pc' := 6) rfl ?_
    refine T_icmp_gt zk_164_6 (by omega) (by omega) (pc' := 9) rfl (fun h4 => ?_) (fun h5 => ?_)
    ·
      refine T_ld zk_164_16 rfl rfl rfl (pc' := 17) rfl ?_
      refine T_op zk_164_17 rfl X_ic (pc' := 18) rfl ?_
      refine T_calli (K := fun y6 σ' => (y6 = (-1)) ∧ (fun σ' => IF (MK 448 568 641 642) σ σ' ∧ σ' 36 0 0 641 = 0 ∧ True) σ') (r := []) zk_164_18 rfl rfl rfl rfl rfl rfl (Or.inr ⟨_, _, _, _, rfl, vd_35, rfl⟩) (fun σ' h => (m_123 ((-1)) (by omega) σ' h.1.1 ).le (Nat.le_of_ble_eq_true rfl) (fun v σ2 ⟨y, h1, h2, h3, h4⟩ => ⟨y, h1, h2, h.1.tr h3 (fun t i k j h => by unfold MT at h; unfold MK; omega), (h3.2 _ _ _ _ (by unfold MT; omega)).trans (h.2.1), trivial⟩)) (pc' := 21) rfl (fun y6 => ?_)
      refine G_ex (fun hy6 => ?_)
      obtain rfl : y6 = (-1) := by omega
      exact T_iret zk_164_21 rfl (fun σ' h => ⟨_, rfl, (by omega), h.1, trivial⟩)
    ·
      refine T_ld zk_164_9 rfl rfl rfl (pc' := 10) rfl ?_
      refine T_calli (K := fun y7 σ' => ((y7 = 0 ∧ (p1 < 0 ∨ 24 < p1)) ∨ (y7 = 1 ∧ 0 ≤ p1 ∧ p1 ≤ 24)) ∧ (fun σ' => IF (MK 448 568 641 642) σ σ' ∧ σ' 36 0 0 641 = 0 ∧ True) σ') (r := []) zk_164_10 rfl rfl rfl rfl rfl rfl (Or.inl (Or.inl rfl)) (fun σ' h => (m_124 p1 (by omega) σ' h.1.1 ).le (Nat.le_of_ble_eq_true rfl) (fun v σ2 ⟨y, h1, h2, h3, h4⟩ => ⟨y, h1, h2, h.1.tr h3 MN_sub, (h3.2 _ _ _ _ (fun q => q)).trans (h.2.1), trivial⟩)) (pc' := 13) rfl (fun y7 => ?_)
      refine G_ex (fun hy7 => ?_)
      refine T_if_ne zk_164_13 (by omega) (pc' := 16) rfl (fun h8 => ?_) (fun h9 => ?_)
      ·
        refine T_ld zk_164_22 rfl rfl rfl (pc' := 23) rfl ?_
        refine T_if_lt zk_164_23 (by omega) (pc' := 26) rfl (fun h10 => ?_) (fun h11 => ?_)
        ·
          refine T_ld zk_164_57 rfl rfl rfl (pc' := 58) rfl ?_
          refine T_op zk_164_58 rfl (X_bi (v := -6) (by decide)) (pc' := 60) rfl ?_
          refine T_calli (K := fun y12 σ' => (y12 = (-6)) ∧ (fun σ' => IF (MK 448 568 641 642) σ σ' ∧ σ' 36 0 0 641 = 0 ∧ True) σ') (r := []) zk_164_60 rfl rfl rfl rfl rfl rfl (Or.inr ⟨_, _, _, _, rfl, vd_35, rfl⟩) (fun σ' h => (m_123 ((-6)) (by omega) σ' h.1.1 ).le (Nat.le_of_ble_eq_true rfl) (fun v σ2 ⟨y, h1, h2, h3, h4⟩ => ⟨y, h1, h2, h.1.tr h3 (fun t i k j h => by unfold MT at h; unfold MK; omega), (h3.2 _ _ _ _ (by unfold MT; omega)).trans (h.2.1), trivial⟩)) (pc' := 63) rfl (fun y12 => ?_)
          refine G_ex (fun hy12 => ?_)
          obtain rfl : y12 = (-6) := by omega
          exact T_iret zk_164_63 rfl (fun σ' h => ⟨_, rfl, (by omega), h.1, trivial⟩)
        ·
          refine T_ld zk_164_26 rfl rfl rfl (pc' := 27) rfl ?_
          refine T_op zk_164_27 rfl (X_si (v := 200) (by decide)) (pc' := 30) rfl ?_
          refine T_icmp_gt zk_164_30 (by omega) (by omega) (pc' := 33) rfl (fun h13 => ?_) (fun h14 => ?_)
          ·
            refine T_ld zk_164_57 rfl rfl rfl (pc' := 58) rfl ?_
            refine T_op zk_164_58 rfl (X_bi (v := -6) (by decide)) (pc' := 60) rfl ?_
            refine T_calli (K := fun y15 σ' => (y15 = (-6)) ∧ (fun σ' => IF (MK 448 568 641 642) σ σ' ∧ σ' 36 0 0 641 = 0 ∧ True) σ') (r := []) zk_164_60 rfl rfl rfl rfl rfl rfl (Or.inr ⟨_, _, _, _, rfl, vd_35, rfl⟩) (fun σ' h => (m_123 ((-6)) (by omega) σ' h.1.1 ).le (Nat.le_of_ble_eq_true rfl) (fun v σ2 ⟨y, h1, h2, h3, h4⟩ => ⟨y, h1, h2, h.1.tr h3 (fun t i k j h => by unfold MT at h; unfold MK; omega), (h3.2 _ _ _ _ (by unfold MT; omega)).trans (h.2.1), trivial⟩)) (pc' := 63) rfl (fun y15 => ?_)
            refine G_ex (fun hy15 => ?_)
            obtain rfl : y15 = (-6) := by omega
            exact T_iret zk_164_63 rfl (fun σ' h => ⟨_, rfl, (by omega), h.1, trivial⟩)
          ·
            refine T_ld zk_164_33 rfl rfl rfl (pc' := 35) rfl ?_
            refine T_if_lt zk_164_35 (by omega) (pc' := 38) rfl (fun h16 => ?_) (fun h17 => ?_)
            ·
              refine T_ld zk_164_57 rfl rfl rfl (pc' := 58) rfl ?_
              refine T_op zk_164_58 rfl (X_bi (v := -6) (by decide)) (pc' := 60) rfl ?_
              refine T_calli (K := fun y18 σ' => (y18 = (-6)) ∧ (fun σ' => IF (MK 448 568 641 642) σ σ' ∧ σ' 36 0 0 641 = 0 ∧ True) σ') (r := []) zk_164_60 rfl rfl rfl rfl rfl rfl (Or.inr ⟨_, _, _, _, rfl, vd_35, rfl⟩) (fun σ' h => (m_123 ((-6)) (by omega) σ' h.1.1 ).le (Nat.le_of_ble_eq_true rfl) (fun v σ2 ⟨y, h1, h2, h3, h4⟩ => ⟨y, h1, h2, h.1.tr h3 (fun t i k j h => by unfold MT at h; unfold MK; omega), (h3.2 _ _ _ _ (by unfold MT; omega)).trans (h.2.1), trivial⟩)) (pc' := 63) rfl (fun y18 => ?_)
              refine G_ex (fun hy18 => ?_)
              obtain rfl : y18 = (-6) := by omega
              exact T_iret zk_164_63 rfl (fun σ' h => ⟨_, rfl, (by omega), h.1, trivial⟩)
            ·
              refine T_ld zk_164_38 rfl rfl rfl (pc' := 40) rfl ?_
              refine T_op zk_164_40 rfl (X_bi (v := 99) (by decide)) (pc' := 42) rfl ?_
              refine T_icmp_gt zk_164_42 (by omega) (by omega) (pc' := 45) rfl (fun h19 => ?_) (fun h20 => ?_)
              ·
                refine T_ld zk_164_57 rfl rfl rfl (pc' := 58) rfl ?_
                refine T_op zk_164_58 rfl (X_bi (v := -6) (by decide)) (pc' := 60) rfl ?_
                refine T_calli (K := fun y21 σ' => (y21 = (-6)) ∧ (fun σ' => IF (MK 448 568 641 642) σ σ' ∧ σ' 36 0 0 641 = 0 ∧ True) σ') (r := []) zk_164_60 rfl rfl rfl rfl rfl rfl (Or.inr ⟨_, _, _, _, rfl, vd_35, rfl⟩) (fun σ' h => (m_123 ((-6)) (by omega) σ' h.1.1 ).le (Nat.le_of_ble_eq_true rfl) (fun v σ2 ⟨y, h1, h2, h3, h4⟩ => ⟨y, h1, h2, h.1.tr h3 (fun t i k j h => by unfold MT at h; unfold MK; omega), (h3.2 _ _ _ _ (by unfold MT; omega)).trans (h.2.1), trivial⟩)) (pc' := 63) rfl (fun y21 => ?_)
                refine G_ex (fun hy21 => ?_)
                obtain rfl : y21 = (-6) := by omega
                exact T_iret zk_164_63 rfl (fun σ' h => ⟨_, rfl, (by omega), h.1, trivial⟩)
              ·
                refine T_ld zk_164_45 rfl rfl rfl (pc' := 47) rfl ?_
                refine T_if_lt zk_164_47 (by omega) (pc' := 50) rfl (fun h22 => ?_) (fun h23 => ?_)
                ·
                  refine T_ld zk_164_57 rfl rfl rfl (pc' := 58) rfl ?_
                  refine T_op zk_164_58 rfl (X_bi (v := -6) (by decide)) (pc' := 60) rfl ?_
                  refine T_calli (K := fun y24 σ' => (y24 = (-6)) ∧ (fun σ' => IF (MK 448 568 641 642) σ σ' ∧ σ' 36 0 0 641 = 0 ∧ True) σ') (r := []) zk_164_60 rfl rfl rfl rfl rfl rfl (Or.inr ⟨_, _, _, _, rfl, vd_35, rfl⟩) (fun σ' h => (m_123 ((-6)) (by omega) σ' h.1.1 ).le (Nat.le_of_ble_eq_true rfl) (fun v σ2 ⟨y, h1, h2, h3, h4⟩ => ⟨y, h1, h2, h.1.tr h3 (fun t i k j h => by unfold MT at h; unfold MK; omega), (h3.2 _ _ _ _ (by unfold MT; omega)).trans (h.2.1), trivial⟩)) (pc' := 63) rfl (fun y24 => ?_)
                  refine G_ex (fun hy24 => ?_)
                  obtain rfl : y24 = (-6) := by omega
                  exact T_iret zk_164_63 rfl (fun σ' h => ⟨_, rfl, (by omega), h.1, trivial⟩)
                ·
                  refine T_ld zk_164_50 rfl rfl rfl (pc' := 52) rfl ?_
                  refine T_op zk_164_52 rfl (X_bi (v := 99) (by decide)) (pc' := 54) rfl ?_
                  refine T_icmp_le zk_164_54 (by omega) (by omega) (pc' := 57) rfl (fun h25 => ?_) (fun h26 => ?_)
                  ·
                    refine T_ld zk_164_64 rfl rfl rfl (pc' := 65) rfl ?_
                    refine T_getR (t' := 36) (i' := 0) (k' := 0) zk_164_65 rfl rfl rfl vd_35 (pc' := 68) rfl ?_
                    refine T_op zk_164_68 rfl (X_si (v := 641) (by decide)) (pc' := 71) rfl ?_
                    refine G_ialdX (w := 0) (ln := 646) zk_164_71 rfl rfl (vd_36 (by omega)) (by omega) (by omega) (by omega) (fun σ' h => h.2.1) (pc' := 72) rfl ?_
                    refine T_st (L' := [(0, av 35 0 0), (1, iv p0), (2, iv p1), (3, iv p2), (4, iv p3), (5, iv p4), (6, iv 0)]) zk_164_72 (nL := 8) rfl rfl rfl rfl rfl (pc' := 74) rfl ?_
                    refine T_ld zk_164_74 rfl rfl rfl (pc' := 76) rfl ?_
                    refine T_op zk_164_76 rfl (X_bi (v := 12) (by decide)) (pc' := 78) rfl ?_
                    refine T_icmp_ne zk_164_78 (by omega) (by omega) (pc' := 81) rfl (fun h27 => ?_) (fun h28 => ?_)
                    ·
                      refine T_ld zk_164_88 rfl rfl rfl (pc' := 89) rfl ?_
                      refine T_getR (t' := 36) (i' := 0) (k' := 0) zk_164_89 rfl rfl rfl vd_35 (pc' := 92) rfl ?_
                      refine T_op zk_164_92 rfl (X_si (v := 448) (by decide)) (pc' := 95) rfl ?_
                      refine T_ld zk_164_95 rfl rfl rfl (pc' := 97) rfl ?_
                      refine T_opc (w := 448) zk_164_97 rfl X_add (by omega) (pc' := 98) rfl ?_
                      refine T_ld zk_164_98 rfl rfl rfl (pc' := 99) rfl ?_
                      refine G_iast (J' := (fun σ' => IF (MK 448 568 641 642) σ σ' ∧ σ' 36 0 0 641 = 0 ∧ σ' 36 0 0 448 = p0 ∧ True)) (ln := 646) zk_164_99 rfl rfl (vd_36 (by omega)) (by omega) (by omega) (by omega) (fun σ' h => ⟨h.1.up (by simp only [rgP] <;> omega) (by unfold MK; omega), (up_ne (by omega)).trans (h.2.1), up_eq, trivial⟩) (pc' := 100) rfl ?_
                      refine T_ld zk_164_100 rfl rfl rfl (pc' := 101) rfl ?_
                      refine T_getR (t' := 36) (i' := 0) (k' := 0) zk_164_101 rfl rfl rfl vd_35 (pc' := 104) rfl ?_
                      refine T_op zk_164_104 rfl (X_si (v := 460) (by decide)) (pc' := 107) rfl ?_
                      refine T_ld zk_164_107 rfl rfl rfl (pc' := 109) rfl ?_
                      refine T_opc (w := 460) zk_164_109 rfl X_add (by omega) (pc' := 110) rfl ?_
                      refine T_ld zk_164_110 rfl rfl rfl (pc' := 111) rfl ?_
                      refine G_iast (J' := (fun σ' => IF (MK 448 568 641 642) σ σ' ∧ σ' 36 0 0 641 = 0 ∧ σ' 36 0 0 448 = p0 ∧ σ' 36 0 0 460 = p1 ∧ True)) (ln := 646) zk_164_111 rfl rfl (vd_36 (by omega)) (by omega) (by omega) (by omega) (fun σ' h => ⟨h.1.up (by simp only [rgP] <;> omega) (by unfold MK; omega), (up_ne (by omega)).trans (h.2.1), (up_ne (by omega)).trans (h.2.2.1), up_eq, trivial⟩) (pc' := 112) rfl ?_
                      refine T_ld zk_164_112 rfl rfl rfl (pc' := 113) rfl ?_
                      refine T_getR (t' := 36) (i' := 0) (k' := 0) zk_164_113 rfl rfl rfl vd_35 (pc' := 116) rfl ?_
                      refine T_op zk_164_116 rfl (X_si (v := 472) (by decide)) (pc' := 119) rfl ?_
                      refine T_ld zk_164_119 rfl rfl rfl (pc' := 121) rfl ?_
                      refine T_opc (w := 472) zk_164_121 rfl X_add (by omega) (pc' := 122) rfl ?_
                      refine T_ld zk_164_122 rfl rfl rfl (pc' := 123) rfl ?_
                      refine G_iast (J' := (fun σ' => IF (MK 448 568 641 642) σ σ' ∧ σ' 36 0 0 641 = 0 ∧ σ' 36 0 0 448 = p0 ∧ σ' 36 0 0 460 = p1 ∧ σ' 36 0 0 472 = p2 ∧ True)) (ln := 646) zk_164_123 rfl rfl (vd_36 (by omega)) (by omega) (by omega) (by omega) (fun σ' h => ⟨h.1.up (by simp only [rgP] <;> omega) (by unfold MK; omega), (up_ne (by omega)).trans (h.2.1), (up_ne (by omega)).trans (h.2.2.1), (up_ne (by omega)).trans (h.2.2.2.1), up_eq, trivial⟩) (pc' := 124) rfl ?_
                      refine T_ld zk_164_124 rfl rfl rfl (pc' := 125) rfl ?_
                      refine T_getR (t' := 36) (i' := 0) (k' := 0) zk_164_125 rfl rfl rfl vd_35 (pc' := 128) rfl ?_
                      refine T_op zk_164_128 rfl (X_si (v := 484) (by decide)) (pc' := 131) rfl ?_
                      refine T_ld zk_164_131 rfl rfl rfl (pc' := 133) rfl ?_
                      refine T_opc (w := 484) zk_164_133 rfl X_add (by omega) (pc' := 134) rfl ?_
                      refine T_ld zk_164_134 rfl rfl rfl (pc' := 136) rfl ?_
                      refine G_iast (J' := (fun σ' => IF (MK 448 568 641 642) σ σ' ∧ σ' 36 0 0 641 = 0 ∧ σ' 36 0 0 448 = p0 ∧ σ' 36 0 0 460 = p1 ∧ σ' 36 0 0 472 = p2 ∧ σ' 36 0 0 484 = p3 ∧ True)) (ln := 646) zk_164_136 rfl rfl (vd_36 (by omega)) (by omega) (by omega) (by omega) (fun σ' h => ⟨h.1.up (by simp only [rgP] <;> omega) (by unfold MK; omega), (up_ne (by omega)).trans (h.2.1), (up_ne (by omega)).trans (h.2.2.1), (up_ne (by omega)).trans (h.2.2.2.1), (up_ne (by omega)).trans (h.2.2.2.2.1), up_eq, trivial⟩) (pc' := 137) rfl ?_
                      refine T_ld zk_164_137 rfl rfl rfl (pc' := 138) rfl ?_
                      refine T_getR (t' := 36) (i' := 0) (k' := 0) zk_164_138 rfl rfl rfl vd_35 (pc' := 141) rfl ?_
                      refine T_op zk_164_141 rfl (X_si (v := 496) (by decide)) (pc' := 144) rfl ?_
                      refine T_ld zk_164_144 rfl rfl rfl (pc' := 146) rfl ?_
                      refine T_opc (w := 496) zk_164_146 rfl X_add (by omega) (pc' := 147) rfl ?_
                      refine T_ld zk_164_147 rfl rfl rfl (pc' := 149) rfl ?_
                      refine G_iast (J' := (fun σ' => IF (MK 448 568 641 642) σ σ' ∧ σ' 36 0 0 641 = 0 ∧ σ' 36 0 0 448 = p0 ∧ σ' 36 0 0 460 = p1 ∧ σ' 36 0 0 472 = p2 ∧ σ' 36 0 0 484 = p3 ∧ σ' 36 0 0 496 = p4 ∧ True)) (ln := 646) zk_164_149 rfl rfl (vd_36 (by omega)) (by omega) (by omega) (by omega) (fun σ' h => ⟨h.1.up (by simp only [rgP] <;> omega) (by unfold MK; omega), (up_ne (by omega)).trans (h.2.1), (up_ne (by omega)).trans (h.2.2.1), (up_ne (by omega)).trans (h.2.2.2.1), (up_ne (by omega)).trans (h.2.2.2.2.1), (up_ne (by omega)).trans (h.2.2.2.2.2.1), up_eq, trivial⟩) (pc' := 150) rfl ?_
                      refine T_op zk_164_150 rfl (X_si (v := 508) (by decide)) (pc' := 153) rfl ?_
                      refine T_st (L' := [(0, av 35 0 0), (1, iv p0), (2, iv p1), (3, iv p2), (4, iv p3), (5, iv p4), (6, iv 0), (7, iv 508)]) zk_164_153 (nL := 8) rfl rfl rfl rfl rfl (pc' := 155) rfl ?_
                      refine T_loop1 (fun x29 => ((600 - x29 : Int)).toNat) (fun x29 => (508 ≤ x29 ∧ x29 ≤ 568)) (fun x29 => TJ xs (fun σ' => IF (MK 448 568 641 642) σ σ' ∧ σ' 36 0 0 641 = 0 ∧ σ' 36 0 0 448 = p0 ∧ σ' 36 0 0 460 = p1 ∧ σ' 36 0 0 472 = p2 ∧ σ' 36 0 0 484 = p3 ∧ σ' 36 0 0 496 = p4 ∧ True) 1 164 155 [(0, av 35 0 0), (1, iv p0), (2, iv p1), (3, iv p2), (4, iv p3), (5, iv p4), (6, iv 0), (7, iv x29)] [] _) ?_ 508 (by omega)
                      intro x29 hp31 ih30
                      refine T_ld zk_164_155 rfl rfl rfl (pc' := 157) rfl ?_
                      refine T_op zk_164_157 rfl (X_si (v := 556) (by decide)) (pc' := 160) rfl ?_
                      refine T_icmp_gt zk_164_160 (by omega) (by omega) (pc' := 163) rfl (fun h32 => ?_) (fun h33 => ?_)
                      ·
                        refine T_ld zk_164_180 rfl rfl rfl (pc' := 181) rfl ?_
                        refine T_getR (t' := 36) (i' := 0) (k' := 0) zk_164_181 rfl rfl rfl vd_35 (pc' := 184) rfl ?_
                        refine T_op zk_164_184 rfl (X_si (v := 641) (by decide)) (pc' := 187) rfl ?_
                        refine T_op (st' := [iv 641, av 36 0 0, iv 641, av 36 0 0]) zk_164_187 rfl rfl (pc' := 188) rfl ?_
                        refine G_ialdX (w := 0) (ln := 646) zk_164_188 rfl rfl (vd_36 (by omega)) (by omega) (by omega) (by omega) (fun σ' h => h.2.1) (pc' := 189) rfl ?_
                        refine T_op (st' := [iv 0, iv 641, av 36 0 0, iv 0]) zk_164_189 rfl rfl (pc' := 190) rfl ?_
                        refine T_op zk_164_190 rfl X_ic (pc' := 191) rfl ?_
                        refine T_opc (w := 1) zk_164_191 rfl X_add (by omega) (pc' := 192) rfl ?_
                        refine G_iast (J' := (fun σ' => IF (MK 448 568 641 642) σ σ' ∧ σ' 36 0 0 448 = p0 ∧ σ' 36 0 0 460 = p1 ∧ σ' 36 0 0 472 = p2 ∧ σ' 36 0 0 484 = p3 ∧ σ' 36 0 0 496 = p4 ∧ σ' 36 0 0 641 = 1 ∧ True)) (ln := 646) zk_164_192 rfl rfl (vd_36 (by omega)) (by omega) (by omega) (by omega) (fun σ' h => ⟨h.1.up (by simp only [rgP] <;> omega) (by unfold MK; omega), (up_ne (by omega)).trans (h.2.2.1), (up_ne (by omega)).trans (h.2.2.2.1), (up_ne (by omega)).trans (h.2.2.2.2.1), (up_ne (by omega)).trans (h.2.2.2.2.2.1), (up_ne (by omega)).trans (h.2.2.2.2.2.2.1), up_eq, trivial⟩) (pc' := 193) rfl ?_
                        exact T_iret zk_164_193 rfl (fun σ' h => ⟨_, rfl, (by omega), h.1, trivial⟩)
                      ·
                        refine T_ld zk_164_163 rfl rfl rfl (pc' := 164) rfl ?_
                        refine T_getR (t' := 36) (i' := 0) (k' := 0) zk_164_164 rfl rfl rfl vd_35 (pc' := 167) rfl ?_
                        refine T_ld zk_164_167 rfl rfl rfl (pc' := 169) rfl ?_
                        refine T_ld zk_164_169 rfl rfl rfl (pc' := 171) rfl ?_
                        refine T_op zk_164_171 rfl X_add (pc' := 172) rfl ?_
                        refine T_op zk_164_172 rfl X_ic (pc' := 173) rfl ?_
                        refine G_iast (J' := (fun σ' => IF (MK 448 568 641 642) σ σ' ∧ σ' 36 0 0 641 = 0 ∧ σ' 36 0 0 448 = p0 ∧ σ' 36 0 0 460 = p1 ∧ σ' 36 0 0 472 = p2 ∧ σ' 36 0 0 484 = p3 ∧ σ' 36 0 0 496 = p4 ∧ σ' 36 0 0 (Int.toNat (x29 + 0)) = 0 ∧ True)) (ln := 646) zk_164_173 rfl rfl (vd_36 (by omega)) (by omega) (by omega) (by omega) (fun σ' h => ⟨h.1.up (by simp only [rgP] <;> omega) (by unfold MK; omega), (up_ne (by omega)).trans (h.2.1), (up_ne (by omega)).trans (h.2.2.1), (up_ne (by omega)).trans (h.2.2.2.1), (up_ne (by omega)).trans (h.2.2.2.2.1), (up_ne (by omega)).trans (h.2.2.2.2.2.1), (up_ne (by omega)).trans (h.2.2.2.2.2.2.1), up_eq, trivial⟩) (pc' := 174) rfl ?_
                        refine T_iinc (L' := [(0, av 35 0 0), (1, iv p0), (2, iv p1), (3, iv p2), (4, iv p3), (5, iv p4), (6, iv 0), (7, iv (x29 + 12))]) zk_164_174 (nL := 8) rfl rfl rfl rfl (pc' := 177) rfl ?_
                        refine T_goto zk_164_177 ?_
                        refine G_know (J' := (fun σ' => IF (MK 448 568 641 642) σ σ' ∧ σ' 36 0 0 641 = 0 ∧ σ' 36 0 0 448 = p0 ∧ σ' 36 0 0 460 = p1 ∧ σ' 36 0 0 472 = p2 ∧ σ' 36 0 0 484 = p3 ∧ σ' 36 0 0 496 = p4 ∧ True)) (fun σ' h => ⟨h.1, h.2.1, h.2.2.1, h.2.2.2.1, h.2.2.2.2.1, h.2.2.2.2.2.1, h.2.2.2.2.2.2.1, trivial⟩) ?_
                        exact ih30 (x29 + 12) (by omega) (by omega)
                    · exfalso; omega
                  ·
                    refine T_ld zk_164_57 rfl rfl rfl (pc' := 58) rfl ?_
                    refine T_op zk_164_58 rfl (X_bi (v := -6) (by decide)) (pc' := 60) rfl ?_
                    refine T_calli (K := fun y34 σ' => (y34 = (-6)) ∧ (fun σ' => IF (MK 448 568 641 642) σ σ' ∧ σ' 36 0 0 641 = 0 ∧ True) σ') (r := []) zk_164_60 rfl rfl rfl rfl rfl rfl (Or.inr ⟨_, _, _, _, rfl, vd_35, rfl⟩) (fun σ' h => (m_123 ((-6)) (by omega) σ' h.1.1 ).le (Nat.le_of_ble_eq_true rfl) (fun v σ2 ⟨y, h1, h2, h3, h4⟩ => ⟨y, h1, h2, h.1.tr h3 (fun t i k j h => by unfold MT at h; unfold MK; omega), (h3.2 _ _ _ _ (by unfold MT; omega)).trans (h.2.1), trivial⟩)) (pc' := 63) rfl (fun y34 => ?_)
                    refine G_ex (fun hy34 => ?_)
                    obtain rfl : y34 = (-6) := by omega
                    exact T_iret zk_164_63 rfl (fun σ' h => ⟨_, rfl, (by omega), h.1, trivial⟩)
      ·
        refine T_ld zk_164_16 rfl rfl rfl (pc' := 17) rfl ?_
        refine T_op zk_164_17 rfl X_ic (pc' := 18) rfl ?_
        refine T_calli (K := fun y35 σ' => (y35 = (-1)) ∧ (fun σ' => IF (MK 448 568 641 642) σ σ' ∧ σ' 36 0 0 641 = 0 ∧ True) σ') (r := []) zk_164_18 rfl rfl rfl rfl rfl rfl (Or.inr ⟨_, _, _, _, rfl, vd_35, rfl⟩) (fun σ' h => (m_123 ((-1)) (by omega) σ' h.1.1 ).le (Nat.le_of_ble_eq_true rfl) (fun v σ2 ⟨y, h1, h2, h3, h4⟩ => ⟨y, h1, h2, h.1.tr h3 (fun t i k j h => by unfold MT at h; unfold MK; omega), (h3.2 _ _ _ _ (by unfold MT; omega)).trans (h.2.1), trivial⟩)) (pc' := 21) rfl (fun y35 => ?_)
        refine G_ex (fun hy35 => ?_)
        obtain rfl : y35 = (-1) := by omega
        exact T_iret zk_164_21 rfl (fun σ' h => ⟨_, rfl, (by omega), h.1, trivial⟩)
/-- WModel.raise -/
theorem m_raise {xs : Nat × (Nat → Int32)} (p0 : Int) (p1 : Int) (h0 : -2147483648 ≤ p0 ∧ p0 ≤ 2147483647) (h1 : -2147483648 ≤ p1 ∧ p1 ≤ 2147483647) (σ : ZS) (hI : Inv σ) (hm : ∀ t i k j, 35 ≤ t → σ t i k j = σ0 t i k j)  : CT xs 2 165 [av 35 0 0, iv p0, iv p1] σ (fun v σ' => ∃ y, v = some (iv y) ∧ (y = -1) ∧ IF (MT 49 49 49 49) σ σ' ∧ (True)) := by
  refine G_ct (J := (fun σ' => IF (MT 49 49 49 49) σ σ' ∧ True)) (L := [(0, av 35 0 0), (1, iv p0), (2, iv p1)]) (nL := 3) rfl rfl rfl ⟨IF.rf hI, trivial⟩ ?_
  refine T_ld zk_165_0 rfl rfl rfl (pc' := 1) rfl ?_
  refine T_ld zk_165_1 rfl rfl rfl (pc' := 2) rfl ?_
  refine T_calli (K := fun y1 σ' => (y1 = 0) ∧ (fun σ' => IF (MT 49 49 49 49) σ σ' ∧ True) σ') (r := []) zk_165_2 rfl rfl rfl rfl rfl rfl (Or.inr ⟨_, _, _, _, rfl, vd_35, rfl⟩) (fun σ' h => (m_139e p0 (by omega) σ' h.1.1 ((h.1.2 _ _ _ _ (by unfold MT; omega)).trans ((hm _ _ _ _ (by decide)).trans (s0_z (by omega))))).le (Nat.le_of_ble_eq_true rfl) (fun v σ2 ⟨y, h1, h2, h3, h4⟩ => ⟨y, h1, h2, h.1.tr h3 MN_sub, trivial⟩)) (pc' := 5) rfl (fun y1 => ?_)
  refine G_ex (fun hy1 => ?_)
  obtain rfl : y1 = 0 := by omega
  refine T_if_ne zk_165_5 (by omega) (pc' := 8) rfl (fun h2 => ?_) (fun h3 => ?_)
  · exfalso; omega
  ·
    refine T_ld zk_165_8 rfl rfl rfl (pc' := 9) rfl ?_
    refine T_op zk_165_9 rfl X_ic (pc' := 10) rfl ?_
    refine T_calli (K := fun y4 σ' => (y4 = (-1)) ∧ (fun σ' => IF (MT 49 49 49 49) σ σ' ∧ True) σ') (r := []) zk_165_10 rfl rfl rfl rfl rfl rfl (Or.inr ⟨_, _, _, _, rfl, vd_35, rfl⟩) (fun σ' h => (m_123 ((-1)) (by omega) σ' h.1.1 ).le (Nat.le_of_ble_eq_true rfl) (fun v σ2 ⟨y, h1, h2, h3, h4⟩ => ⟨y, h1, h2, h.1.tr h3 (fun _ _ _ _ h => h), trivial⟩)) (pc' := 13) rfl (fun y4 => ?_)
    refine G_ex (fun hy4 => ?_)
    obtain rfl : y4 = (-1) := by omega
    exact T_iret zk_165_13 rfl (fun σ' h => ⟨_, rfl, (by omega), h.1, trivial⟩)
/-- WModel.about -/
theorem m_about {xs : Nat × (Nat → Int32)} (p0 : Int) (p1 : Int) (h0 : -2147483648 ≤ p0 ∧ p0 ≤ 2147483647) (h1 : -2147483648 ≤ p1 ∧ p1 ≤ 2147483647) (σ : ZS) (hI : Inv σ) (hm : ∀ t i k j, 35 ≤ t → σ t i k j = σ0 t i k j)  : CT xs 2 166 [av 35 0 0, iv p0, iv p1] σ (fun v σ' => ∃ y, v = some (iv y) ∧ (y = -1) ∧ IF MN σ σ' ∧ (True)) := by
  refine G_ct (J := (fun σ' => IF MN σ σ' ∧ True)) (L := [(0, av 35 0 0), (1, iv p0), (2, iv p1)]) (nL := 3) rfl rfl rfl ⟨IF.rf hI, trivial⟩ ?_
  refine T_ld zk_166_0 rfl rfl rfl (pc' := 1) rfl ?_
  refine T_ld zk_166_1 rfl rfl rfl (pc' := 2) rfl ?_
  refine T_calli (K := fun y1 σ' => (y1 = 0) ∧ (fun σ' => IF MN σ σ' ∧ True) σ') (r := []) zk_166_2 rfl rfl rfl rfl rfl rfl (Or.inr ⟨_, _, _, _, rfl, vd_35, rfl⟩) (fun σ' h => (m_139e p0 (by omega) σ' h.1.1 ((h.1.2 _ _ _ _ (fun q => q)).trans ((hm _ _ _ _ (by decide)).trans (s0_z (by omega))))).le (Nat.le_of_ble_eq_true rfl) (fun v σ2 ⟨y, h1, h2, h3, h4⟩ => ⟨y, h1, h2, h.1.tr h3 MN_sub, trivial⟩)) (pc' := 5) rfl (fun y1 => ?_)
  refine G_ex (fun hy1 => ?_)
  obtain rfl : y1 = 0 := by omega
  refine T_if_ne zk_166_5 (by omega) (pc' := 8) rfl (fun h2 => ?_) (fun h3 => ?_)
  · exfalso; omega
  ·
    refine T_op zk_166_8 rfl X_ic (pc' := 9) rfl ?_
    exact T_iret zk_166_9 rfl (fun σ' h => ⟨_, rfl, (by omega), h.1, trivial⟩)
/-- WModel.boat -/
theorem m_boat {xs : Nat × (Nat → Int32)} (p0 : Int) (p1 : Int) (p2 : Int) (p3 : Int) (p4 : Int) (h0 : -2147483648 ≤ p0 ∧ p0 ≤ 2147483647) (h1 : -2147483648 ≤ p1 ∧ p1 ≤ 2147483647) (h2 : -2147483648 ≤ p2 ∧ p2 ≤ 2147483647) (h3 : -2147483648 ≤ p3 ∧ p3 ≤ 2147483647) (h4 : -2147483648 ≤ p4 ∧ p4 ≤ 2147483647) (σ : ZS) (hI : Inv σ) (hm : ∀ t i k j, 35 ≤ t → σ t i k j = σ0 t i k j)  : CT xs 2 168 [av 35 0 0, iv p0, iv p1, iv p2, iv p3, iv p4] σ (fun v σ' => ∃ y, v = some (iv y) ∧ ((y = -1 ∧ (¬ (0 ≤ p0 ∧ p0 ≤ 24))) ∨ (y = -6 ∧ ¬ (¬ (0 ≤ p0 ∧ p0 ≤ 24)) ∧ (¬ (1 ≤ p1 ∧ p1 ≤ 60) ∨ ¬ (1 ≤ p2 ∧ p2 ≤ 99) ∨ ¬ (1 ≤ p3 ∧ p3 ≤ 9) ∨ ¬ (0 ≤ p4 ∧ p4 ≤ 9))) ∨ (y = 0 ∧ ¬ (¬ (0 ≤ p0 ∧ p0 ≤ 24)) ∧ ¬ (¬ (1 ≤ p1 ∧ p1 ≤ 60) ∨ ¬ (1 ≤ p2 ∧ p2 ≤ 99) ∨ ¬ (1 ≤ p3 ∧ p3 ≤ 9) ∨ ¬ (0 ≤ p4 ∧ p4 ≤ 9)))) ∧ IF (MK 568 628 642 643) σ σ' ∧ (True)) := by
  refine G_ct (J := (fun σ' => IF (MK 568 628 642 643) σ σ' ∧ σ' 36 0 0 642 = 0 ∧ True)) (L := [(0, av 35 0 0), (1, iv p0), (2, iv p1), (3, iv p2), (4, iv p3), (5, iv p4)]) (nL := 8) rfl rfl rfl ⟨IF.rf hI, ((hm _ _ _ _ (by decide)).trans (s0_z (by omega))), trivial⟩ ?_
  refine T_ld zk_168_0 rfl rfl rfl (pc' := 1) rfl ?_
  refine T_calli (K := fun y1 σ' => ((y1 = 0 ∧ (p0 < 0 ∨ 24 < p0)) ∨ (y1 = 1 ∧ 0 ≤ p0 ∧ p0 ≤ 24)) ∧ (fun σ' => IF (MK 568 628 642 643) σ σ' ∧ σ' 36 0 0 642 = 0 ∧ True) σ') (r := []) zk_168_1 rfl rfl rfl rfl rfl rfl (Or.inl (Or.inl rfl)) (fun σ' h => (m_124 p0 (by omega) σ' h.1.1 ).le (Nat.le_of_ble_eq_true rfl) (fun v σ2 ⟨y, h1, h2, h3, h4⟩ => ⟨y, h1, h2, h.1.tr h3 MN_sub, (h3.2 _ _ _ _ (fun q => q)).trans (h.2.1), trivial⟩)) (pc' := 4) rfl (fun y1 => ?_)
  refine G_ex (fun hy1 => ?_)
  refine T_if_ne zk_168_4 (by omega) (pc' := 7) rfl (fun h2 => ?_) (fun h3 => ?_)
  ·
    refine T_ld zk_168_13 rfl rfl rfl (pc' := 14) rfl ?_
    refine T_op zk_168_14 rfl X_ic (pc' := 15) rfl ?_
    refine T_icmp_lt zk_168_15 (by omega) (by omega) (pc' := 18) rfl (fun h4 => ?_) (fun h5 => ?_)
    ·
      refine T_ld zk_168_60 rfl rfl rfl (pc' := 61) rfl ?_
      refine T_op zk_168_61 rfl (X_bi (v := -6) (by decide)) (pc' := 63) rfl ?_
      refine T_calli (K := fun y6 σ' => (y6 = (-6)) ∧ (fun σ' => IF (MK 568 628 642 643) σ σ' ∧ σ' 36 0 0 642 = 0 ∧ True) σ') (r := []) zk_168_63 rfl rfl rfl rfl rfl rfl (Or.inr ⟨_, _, _, _, rfl, vd_35, rfl⟩) (fun σ' h => (m_123 ((-6)) (by omega) σ' h.1.1 ).le (Nat.le_of_ble_eq_true rfl) (fun v σ2 ⟨y, h1, h2, h3, h4⟩ => ⟨y, h1, h2, h.1.tr h3 (fun t i k j h => by unfold MT at h; unfold MK; omega), (h3.2 _ _ _ _ (by unfold MT; omega)).trans (h.2.1), trivial⟩)) (pc' := 66) rfl (fun y6 => ?_)
      refine G_ex (fun hy6 => ?_)
      obtain rfl : y6 = (-6) := by omega
      exact T_iret zk_168_66 rfl (fun σ' h => ⟨_, rfl, (by omega), h.1, trivial⟩)
    ·
      refine T_ld zk_168_18 rfl rfl rfl (pc' := 19) rfl ?_
      refine T_op zk_168_19 rfl (X_bi (v := 60) (by decide)) (pc' := 21) rfl ?_
      refine T_icmp_gt zk_168_21 (by omega) (by omega) (pc' := 24) rfl (fun h7 => ?_) (fun h8 => ?_)
      ·
        refine T_ld zk_168_60 rfl rfl rfl (pc' := 61) rfl ?_
        refine T_op zk_168_61 rfl (X_bi (v := -6) (by decide)) (pc' := 63) rfl ?_
        refine T_calli (K := fun y9 σ' => (y9 = (-6)) ∧ (fun σ' => IF (MK 568 628 642 643) σ σ' ∧ σ' 36 0 0 642 = 0 ∧ True) σ') (r := []) zk_168_63 rfl rfl rfl rfl rfl rfl (Or.inr ⟨_, _, _, _, rfl, vd_35, rfl⟩) (fun σ' h => (m_123 ((-6)) (by omega) σ' h.1.1 ).le (Nat.le_of_ble_eq_true rfl) (fun v σ2 ⟨y, h1, h2, h3, h4⟩ => ⟨y, h1, h2, h.1.tr h3 (fun t i k j h => by unfold MT at h; unfold MK; omega), (h3.2 _ _ _ _ (by unfold MT; omega)).trans (h.2.1), trivial⟩)) (pc' := 66) rfl (fun y9 => ?_)
        refine G_ex (fun hy9 => ?_)
        obtain rfl : y9 = (-6) := by omega
        exact T_iret zk_168_66 rfl (fun σ' h => ⟨_, rfl, (by omega), h.1, trivial⟩)
      ·
        refine T_ld zk_168_24 rfl rfl rfl (pc' := 25) rfl ?_
        refine T_op zk_168_25 rfl X_ic (pc' := 26) rfl ?_
        refine T_icmp_lt zk_168_26 (by omega) (by omega) (pc' := 29) rfl (fun h10 => ?_) (fun h11 => ?_)
        ·
          refine T_ld zk_168_60 rfl rfl rfl (pc' := 61) rfl ?_
          refine T_op zk_168_61 rfl (X_bi (v := -6) (by decide)) (pc' := 63) rfl ?_
          refine T_calli (K := fun y12 σ' => (y12 = (-6)) ∧ (fun σ' => IF (MK 568 628 642 643) σ σ' ∧ σ' 36 0 0 642 = 0 ∧ True) σ') (r := []) zk_168_63 rfl rfl rfl rfl rfl rfl (Or.inr ⟨_, _, _, _, rfl, vd_35, rfl⟩) (fun σ' h => (m_123 ((-6)) (by omega) σ' h.1.1 ).le (Nat.le_of_ble_eq_true rfl) (fun v σ2 ⟨y, h1, h2, h3, h4⟩ => ⟨y, h1, h2, h.1.tr h3 (fun t i k j h => by unfold MT at h; unfold MK; omega), (h3.2 _ _ _ _ (by unfold MT; omega)).trans (h.2.1), trivial⟩)) (pc' := 66) rfl (fun y12 => ?_)
          refine G_ex (fun hy12 => ?_)
          obtain rfl : y12 = (-6) := by omega
          exact T_iret zk_168_66 rfl (fun σ' h => ⟨_, rfl, (by omega), h.1, trivial⟩)
        ·
          refine T_ld zk_168_29 rfl rfl rfl (pc' := 30) rfl ?_
          refine T_op zk_168_30 rfl (X_bi (v := 99) (by decide)) (pc' := 32) rfl ?_
          refine T_icmp_gt zk_168_32 (by omega) (by omega) (pc' := 35) rfl (fun h13 => ?_) (fun h14 => ?_)
          ·
            refine T_ld zk_168_60 rfl rfl rfl (pc' := 61) rfl ?_
            refine T_op zk_168_61 rfl (X_bi (v := -6) (by decide)) (pc' := 63) rfl ?_
            refine T_calli (K := fun y15 σ' => (y15 = (-6)) ∧ (fun σ' => IF (MK 568 628 642 643) σ σ' ∧ σ' 36 0 0 642 = 0 ∧ True) σ') (r := []) zk_168_63 rfl rfl rfl rfl rfl rfl (Or.inr ⟨_, _, _, _, rfl, vd_35, rfl⟩) (fun σ' h => (m_123 ((-6)) (by omega) σ' h.1.1 ).le (Nat.le_of_ble_eq_true rfl) (fun v σ2 ⟨y, h1, h2, h3, h4⟩ => ⟨y, h1, h2, h.1.tr h3 (fun t i k j h => by unfold MT at h; unfold MK; omega), (h3.2 _ _ _ _ (by unfold MT; omega)).trans (h.2.1), trivial⟩)) (pc' := 66) rfl (fun y15 => ?_)
            refine G_ex (fun hy15 => ?_)
            obtain rfl : y15 = (-6) := by omega
            exact T_iret zk_168_66 rfl (fun σ' h => ⟨_, rfl, (by omega), h.1, trivial⟩)
          ·
            refine T_ld zk_168_35 rfl rfl rfl (pc' := 37) rfl ?_
            refine T_op zk_168_37 rfl X_ic (pc' := 38) rfl ?_
            refine T_icmp_lt zk_168_38 (by omega) (by omega) (pc' := 41) rfl (fun h16 => ?_) (fun h17 => ?_)
            ·
              refine T_ld zk_168_60 rfl rfl rfl (pc' := 61) rfl ?_
              refine T_op zk_168_61 rfl (X_bi (v := -6) (by decide)) (pc' := 63) rfl ?_
              refine T_calli (K := fun y18 σ' => (y18 = (-6)) ∧ (fun σ' => IF (MK 568 628 642 643) σ σ' ∧ σ' 36 0 0 642 = 0 ∧ True) σ') (r := []) zk_168_63 rfl rfl rfl rfl rfl rfl (Or.inr ⟨_, _, _, _, rfl, vd_35, rfl⟩) (fun σ' h => (m_123 ((-6)) (by omega) σ' h.1.1 ).le (Nat.le_of_ble_eq_true rfl) (fun v σ2 ⟨y, h1, h2, h3, h4⟩ => ⟨y, h1, h2, h.1.tr h3 (fun t i k j h => by unfold MT at h; unfold MK; omega), (h3.2 _ _ _ _ (by unfold MT; omega)).trans (h.2.1), trivial⟩)) (pc' := 66) rfl (fun y18 => ?_)
              refine G_ex (fun hy18 => ?_)
              obtain rfl : y18 = (-6) := by omega
              exact T_iret zk_168_66 rfl (fun σ' h => ⟨_, rfl, (by omega), h.1, trivial⟩)
            ·
              refine T_ld zk_168_41 rfl rfl rfl (pc' := 43) rfl ?_
              refine T_op zk_168_43 rfl (X_bi (v := 9) (by decide)) (pc' := 45) rfl ?_
              refine T_icmp_gt zk_168_45 (by omega) (by omega) (pc' := 48) rfl (fun h19 => ?_) (fun h20 => ?_)
              ·
                refine T_ld zk_168_60 rfl rfl rfl (pc' := 61) rfl ?_
                refine T_op zk_168_61 rfl (X_bi (v := -6) (by decide)) (pc' := 63) rfl ?_
                refine T_calli (K := fun y21 σ' => (y21 = (-6)) ∧ (fun σ' => IF (MK 568 628 642 643) σ σ' ∧ σ' 36 0 0 642 = 0 ∧ True) σ') (r := []) zk_168_63 rfl rfl rfl rfl rfl rfl (Or.inr ⟨_, _, _, _, rfl, vd_35, rfl⟩) (fun σ' h => (m_123 ((-6)) (by omega) σ' h.1.1 ).le (Nat.le_of_ble_eq_true rfl) (fun v σ2 ⟨y, h1, h2, h3, h4⟩ => ⟨y, h1, h2, h.1.tr h3 (fun t i k j h => by unfold MT at h; unfold MK; omega), (h3.2 _ _ _ _ (by unfold MT; omega)).trans (h.2.1), trivial⟩)) (pc' := 66) rfl (fun y21 => ?_)
                refine G_ex (fun hy21 => ?_)
                obtain rfl : y21 = (-6) := by omega
                exact T_iret zk_168_66 rfl (fun σ' h => ⟨_, rfl, (by omega), h.1, trivial⟩)
              ·
                refine T_ld zk_168_48 rfl rfl rfl (pc' := 50) rfl ?_
                refine T_if_lt zk_168_50 (by omega) (pc' := 53) rfl (fun h22 => ?_) (fun h23 => ?_)
                ·
                  refine T_ld zk_168_60 rfl rfl rfl (pc' := 61) rfl ?_
                  refine T_op zk_168_61 rfl (X_bi (v := -6) (by decide)) (pc' := 63) rfl ?_
                  refine T_calli (K := fun y24 σ' => (y24 = (-6)) ∧ (fun σ' => IF (MK 568 628 642 643) σ σ' ∧ σ' 36 0 0 642 = 0 ∧ True) σ') (r := []) zk_168_63 rfl rfl rfl rfl rfl rfl (Or.inr ⟨_, _, _, _, rfl, vd_35, rfl⟩) (fun σ' h => (m_123 ((-6)) (by omega) σ' h.1.1 ).le (Nat.le_of_ble_eq_true rfl) (fun v σ2 ⟨y, h1, h2, h3, h4⟩ => ⟨y, h1, h2, h.1.tr h3 (fun t i k j h => by unfold MT at h; unfold MK; omega), (h3.2 _ _ _ _ (by unfold MT; omega)).trans (h.2.1), trivial⟩)) (pc' := 66) rfl (fun y24 => ?_)
                  refine G_ex (fun hy24 => ?_)
                  obtain rfl : y24 = (-6) := by omega
                  exact T_iret zk_168_66 rfl (fun σ' h => ⟨_, rfl, (by omega), h.1, trivial⟩)
                ·
                  refine T_ld zk_168_53 rfl rfl rfl (pc' := 55) rfl ?_
                  refine T_op zk_168_55 rfl (X_bi (v := 9) (by decide)) (pc' := 57) rfl ?_
                  refine T_icmp_le zk_168_57 (by omega) (by omega) (pc' := 60) rfl (fun h25 => ?_) (fun h26 => ?_)
                  ·
                    refine T_ld zk_168_67 rfl rfl rfl (pc' := 68) rfl ?_
                    refine T_getR (t' := 36) (i' := 0) (k' := 0) zk_168_68 rfl rfl rfl vd_35 (pc' := 71) rfl ?_
                    refine T_op zk_168_71 rfl (X_si (v := 642) (by decide)) (pc' := 74) rfl ?_
                    refine G_ialdX (w := 0) (ln := 646) zk_168_74 rfl rfl (vd_36 (by omega)) (by omega) (by omega) (by omega) (fun σ' h => h.2.1) (pc' := 75) rfl ?_
                    refine T_st (L' := [(0, av 35 0 0), (1, iv p0), (2, iv p1), (3, iv p2), (4, iv p3), (5, iv p4), (6, iv 0)]) zk_168_75 (nL := 8) rfl rfl rfl rfl rfl (pc' := 77) rfl ?_
                    refine T_ld zk_168_77 rfl rfl rfl (pc' := 79) rfl ?_
                    refine T_op zk_168_79 rfl (X_bi (v := 6) (by decide)) (pc' := 81) rfl ?_
                    refine T_icmp_ne zk_168_81 (by omega) (by omega) (pc' := 84) rfl (fun h27 => ?_) (fun h28 => ?_)
                    ·
                      refine T_ld zk_168_91 rfl rfl rfl (pc' := 92) rfl ?_
                      refine T_getR (t' := 36) (i' := 0) (k' := 0) zk_168_92 rfl rfl rfl vd_35 (pc' := 95) rfl ?_
                      refine T_op zk_168_95 rfl (X_si (v := 568) (by decide)) (pc' := 98) rfl ?_
                      refine T_ld zk_168_98 rfl rfl rfl (pc' := 100) rfl ?_
                      refine T_opc (w := 568) zk_168_100 rfl X_add (by omega) (pc' := 101) rfl ?_
                      refine T_ld zk_168_101 rfl rfl rfl (pc' := 102) rfl ?_
                      refine G_iast (J' := (fun σ' => IF (MK 568 628 642 643) σ σ' ∧ σ' 36 0 0 642 = 0 ∧ True)) (ln := 646) zk_168_102 rfl rfl (vd_36 (by omega)) (by omega) (by omega) (by omega) (fun σ' h => ⟨h.1.up (by simp only [rgP] <;> omega) (by unfold MK; omega), (up_ne (by omega)).trans (h.2.1), trivial⟩) (pc' := 103) rfl ?_
                      refine T_ld zk_168_103 rfl rfl rfl (pc' := 104) rfl ?_
                      refine T_getR (t' := 36) (i' := 0) (k' := 0) zk_168_104 rfl rfl rfl vd_35 (pc' := 107) rfl ?_
                      refine T_op zk_168_107 rfl (X_si (v := 574) (by decide)) (pc' := 110) rfl ?_
                      refine T_ld zk_168_110 rfl rfl rfl (pc' := 112) rfl ?_
                      refine T_opc (w := 574) zk_168_112 rfl X_add (by omega) (pc' := 113) rfl ?_
                      refine T_ld zk_168_113 rfl rfl rfl (pc' := 114) rfl ?_
                      refine G_iast (J' := (fun σ' => IF (MK 568 628 642 643) σ σ' ∧ σ' 36 0 0 642 = 0 ∧ True)) (ln := 646) zk_168_114 rfl rfl (vd_36 (by omega)) (by omega) (by omega) (by omega) (fun σ' h => ⟨h.1.up (by simp only [rgP] <;> omega) (by unfold MK; omega), (up_ne (by omega)).trans (h.2.1), trivial⟩) (pc' := 115) rfl ?_
                      refine T_ld zk_168_115 rfl rfl rfl (pc' := 116) rfl ?_
                      refine T_getR (t' := 36) (i' := 0) (k' := 0) zk_168_116 rfl rfl rfl vd_35 (pc' := 119) rfl ?_
                      refine T_op zk_168_119 rfl (X_si (v := 580) (by decide)) (pc' := 122) rfl ?_
                      refine T_ld zk_168_122 rfl rfl rfl (pc' := 124) rfl ?_
                      refine T_opc (w := 580) zk_168_124 rfl X_add (by omega) (pc' := 125) rfl ?_
                      refine T_ld zk_168_125 rfl rfl rfl (pc' := 126) rfl ?_
                      refine G_iast (J' := (fun σ' => IF (MK 568 628 642 643) σ σ' ∧ σ' 36 0 0 642 = 0 ∧ True)) (ln := 646) zk_168_126 rfl rfl (vd_36 (by omega)) (by omega) (by omega) (by omega) (fun σ' h => ⟨h.1.up (by simp only [rgP] <;> omega) (by unfold MK; omega), (up_ne (by omega)).trans (h.2.1), trivial⟩) (pc' := 127) rfl ?_
                      refine T_ld zk_168_127 rfl rfl rfl (pc' := 128) rfl ?_
                      refine T_getR (t' := 36) (i' := 0) (k' := 0) zk_168_128 rfl rfl rfl vd_35 (pc' := 131) rfl ?_
                      refine T_op zk_168_131 rfl (X_si (v := 586) (by decide)) (pc' := 134) rfl ?_
                      refine T_ld zk_168_134 rfl rfl rfl (pc' := 136) rfl ?_
                      refine T_opc (w := 586) zk_168_136 rfl X_add (by omega) (pc' := 137) rfl ?_
                      refine T_ld zk_168_137 rfl rfl rfl (pc' := 139) rfl ?_
                      refine G_iast (J' := (fun σ' => IF (MK 568 628 642 643) σ σ' ∧ σ' 36 0 0 642 = 0 ∧ True)) (ln := 646) zk_168_139 rfl rfl (vd_36 (by omega)) (by omega) (by omega) (by omega) (fun σ' h => ⟨h.1.up (by simp only [rgP] <;> omega) (by unfold MK; omega), (up_ne (by omega)).trans (h.2.1), trivial⟩) (pc' := 140) rfl ?_
                      refine T_ld zk_168_140 rfl rfl rfl (pc' := 141) rfl ?_
                      refine T_getR (t' := 36) (i' := 0) (k' := 0) zk_168_141 rfl rfl rfl vd_35 (pc' := 144) rfl ?_
                      refine T_op zk_168_144 rfl (X_si (v := 592) (by decide)) (pc' := 147) rfl ?_
                      refine T_ld zk_168_147 rfl rfl rfl (pc' := 149) rfl ?_
                      refine T_opc (w := 592) zk_168_149 rfl X_add (by omega) (pc' := 150) rfl ?_
                      refine T_ld zk_168_150 rfl rfl rfl (pc' := 152) rfl ?_
                      refine G_iast (J' := (fun σ' => IF (MK 568 628 642 643) σ σ' ∧ σ' 36 0 0 642 = 0 ∧ True)) (ln := 646) zk_168_152 rfl rfl (vd_36 (by omega)) (by omega) (by omega) (by omega) (fun σ' h => ⟨h.1.up (by simp only [rgP] <;> omega) (by unfold MK; omega), (up_ne (by omega)).trans (h.2.1), trivial⟩) (pc' := 153) rfl ?_
                      refine T_ld zk_168_153 rfl rfl rfl (pc' := 154) rfl ?_
                      refine T_getR (t' := 36) (i' := 0) (k' := 0) zk_168_154 rfl rfl rfl vd_35 (pc' := 157) rfl ?_
                      refine T_op zk_168_157 rfl (X_si (v := 598) (by decide)) (pc' := 160) rfl ?_
                      refine T_ld zk_168_160 rfl rfl rfl (pc' := 162) rfl ?_
                      refine T_opc (w := 598) zk_168_162 rfl X_add (by omega) (pc' := 163) rfl ?_
                      refine T_op zk_168_163 rfl X_ic (pc' := 164) rfl ?_
                      refine G_iast (J' := (fun σ' => IF (MK 568 628 642 643) σ σ' ∧ σ' 36 0 0 642 = 0 ∧ True)) (ln := 646) zk_168_164 rfl rfl (vd_36 (by omega)) (by omega) (by omega) (by omega) (fun σ' h => ⟨h.1.up (by simp only [rgP] <;> omega) (by unfold MK; omega), (up_ne (by omega)).trans (h.2.1), trivial⟩) (pc' := 165) rfl ?_
                      refine T_op zk_168_165 rfl (X_si (v := 604) (by decide)) (pc' := 168) rfl ?_
                      refine T_st (L' := [(0, av 35 0 0), (1, iv p0), (2, iv p1), (3, iv p2), (4, iv p3), (5, iv p4), (6, iv 0), (7, iv 604)]) zk_168_168 (nL := 8) rfl rfl rfl rfl rfl (pc' := 170) rfl ?_
                      refine T_loop1 (fun x29 => ((700 - x29 : Int)).toNat) (fun x29 => (604 ≤ x29 ∧ x29 ≤ 628)) (fun x29 => TJ xs (fun σ' => IF (MK 568 628 642 643) σ σ' ∧ σ' 36 0 0 642 = 0 ∧ True) 1 168 170 [(0, av 35 0 0), (1, iv p0), (2, iv p1), (3, iv p2), (4, iv p3), (5, iv p4), (6, iv 0), (7, iv x29)] [] _) ?_ 604 (by omega)
                      intro x29 hp31 ih30
                      refine T_ld zk_168_170 rfl rfl rfl (pc' := 172) rfl ?_
                      refine T_op zk_168_172 rfl (X_si (v := 622) (by decide)) (pc' := 175) rfl ?_
                      refine T_icmp_gt zk_168_175 (by omega) (by omega) (pc' := 178) rfl (fun h32 => ?_) (fun h33 => ?_)
                      ·
                        refine T_ld zk_168_195 rfl rfl rfl (pc' := 196) rfl ?_
                        refine T_getR (t' := 36) (i' := 0) (k' := 0) zk_168_196 rfl rfl rfl vd_35 (pc' := 199) rfl ?_
                        refine T_op zk_168_199 rfl (X_si (v := 642) (by decide)) (pc' := 202) rfl ?_
                        refine T_op (st' := [iv 642, av 36 0 0, iv 642, av 36 0 0]) zk_168_202 rfl rfl (pc' := 203) rfl ?_
                        refine G_ialdX (w := 0) (ln := 646) zk_168_203 rfl rfl (vd_36 (by omega)) (by omega) (by omega) (by omega) (fun σ' h => h.2.1) (pc' := 204) rfl ?_
                        refine T_op (st' := [iv 0, iv 642, av 36 0 0, iv 0]) zk_168_204 rfl rfl (pc' := 205) rfl ?_
                        refine T_op zk_168_205 rfl X_ic (pc' := 206) rfl ?_
                        refine T_opc (w := 1) zk_168_206 rfl X_add (by omega) (pc' := 207) rfl ?_
                        refine G_iast (J' := (fun σ' => IF (MK 568 628 642 643) σ σ' ∧ True)) (ln := 646) zk_168_207 rfl rfl (vd_36 (by omega)) (by omega) (by omega) (by omega) (fun σ' h => ⟨h.1.up (by simp only [rgP] <;> omega) (by unfold MK; omega), trivial⟩) (pc' := 208) rfl ?_
                        exact T_iret zk_168_208 rfl (fun σ' h => ⟨_, rfl, (by omega), h.1, trivial⟩)
                      ·
                        refine T_ld zk_168_178 rfl rfl rfl (pc' := 179) rfl ?_
                        refine T_getR (t' := 36) (i' := 0) (k' := 0) zk_168_179 rfl rfl rfl vd_35 (pc' := 182) rfl ?_
                        refine T_ld zk_168_182 rfl rfl rfl (pc' := 184) rfl ?_
                        refine T_ld zk_168_184 rfl rfl rfl (pc' := 186) rfl ?_
                        refine T_op zk_168_186 rfl X_add (pc' := 187) rfl ?_
                        refine T_op zk_168_187 rfl X_ic (pc' := 188) rfl ?_
                        refine G_iast (J' := (fun σ' => IF (MK 568 628 642 643) σ σ' ∧ σ' 36 0 0 642 = 0 ∧ True)) (ln := 646) zk_168_188 rfl rfl (vd_36 (by omega)) (by omega) (by omega) (by omega) (fun σ' h => ⟨h.1.up (by simp only [rgP] <;> omega) (by unfold MK; omega), (up_ne (by omega)).trans (h.2.1), trivial⟩) (pc' := 189) rfl ?_
                        refine T_iinc (L' := [(0, av 35 0 0), (1, iv p0), (2, iv p1), (3, iv p2), (4, iv p3), (5, iv p4), (6, iv 0), (7, iv (x29 + 6))]) zk_168_189 (nL := 8) rfl rfl rfl rfl (pc' := 192) rfl ?_
                        refine T_goto zk_168_192 ?_
                        exact ih30 (x29 + 6) (by omega) (by omega)
                    · exfalso; omega
                  ·
                    refine T_ld zk_168_60 rfl rfl rfl (pc' := 61) rfl ?_
                    refine T_op zk_168_61 rfl (X_bi (v := -6) (by decide)) (pc' := 63) rfl ?_
                    refine T_calli (K := fun y34 σ' => (y34 = (-6)) ∧ (fun σ' => IF (MK 568 628 642 643) σ σ' ∧ σ' 36 0 0 642 = 0 ∧ True) σ') (r := []) zk_168_63 rfl rfl rfl rfl rfl rfl (Or.inr ⟨_, _, _, _, rfl, vd_35, rfl⟩) (fun σ' h => (m_123 ((-6)) (by omega) σ' h.1.1 ).le (Nat.le_of_ble_eq_true rfl) (fun v σ2 ⟨y, h1, h2, h3, h4⟩ => ⟨y, h1, h2, h.1.tr h3 (fun t i k j h => by unfold MT at h; unfold MK; omega), (h3.2 _ _ _ _ (by unfold MT; omega)).trans (h.2.1), trivial⟩)) (pc' := 66) rfl (fun y34 => ?_)
                    refine G_ex (fun hy34 => ?_)
                    obtain rfl : y34 = (-6) := by omega
                    exact T_iret zk_168_66 rfl (fun σ' h => ⟨_, rfl, (by omega), h.1, trivial⟩)
  ·
    refine T_ld zk_168_7 rfl rfl rfl (pc' := 8) rfl ?_
    refine T_op zk_168_8 rfl X_ic (pc' := 9) rfl ?_
    refine T_calli (K := fun y35 σ' => (y35 = (-1)) ∧ (fun σ' => IF (MK 568 628 642 643) σ σ' ∧ σ' 36 0 0 642 = 0 ∧ True) σ') (r := []) zk_168_9 rfl rfl rfl rfl rfl rfl (Or.inr ⟨_, _, _, _, rfl, vd_35, rfl⟩) (fun σ' h => (m_123 ((-1)) (by omega) σ' h.1.1 ).le (Nat.le_of_ble_eq_true rfl) (fun v σ2 ⟨y, h1, h2, h3, h4⟩ => ⟨y, h1, h2, h.1.tr h3 (fun t i k j h => by unfold MT at h; unfold MK; omega), (h3.2 _ _ _ _ (by unfold MT; omega)).trans (h.2.1), trivial⟩)) (pc' := 12) rfl (fun y35 => ?_)
    refine G_ex (fun hy35 => ?_)
    obtain rfl : y35 = (-1) := by omega
    exact T_iret zk_168_12 rfl (fun σ' h => ⟨_, rfl, (by omega), h.1, trivial⟩)
/-- WModel.goal -/
theorem m_goal {xs : Nat × (Nat → Int32)} (p0 : Int) (p1 : Int) (h0 : -2147483648 ≤ p0 ∧ p0 ≤ 2147483647) (h1 : -2147483648 ≤ p1 ∧ p1 ≤ 2147483647) (σ : ZS) (hI : Inv σ) (hm : ∀ t i k j, 35 ≤ t → σ t i k j = σ0 t i k j)  : CT xs 2 169 [av 35 0 0, iv p0, iv p1] σ (fun v σ' => ∃ y, v = some (iv y) ∧ (y = -1) ∧ IF (MT 49 49 49 49) σ σ' ∧ (True)) := by
  refine G_ct (J := (fun σ' => IF (MT 49 49 49 49) σ σ' ∧ True)) (L := [(0, av 35 0 0), (1, iv p0), (2, iv p1)]) (nL := 4) rfl rfl rfl ⟨IF.rf hI, trivial⟩ ?_
  refine T_ld zk_169_0 rfl rfl rfl (pc' := 1) rfl ?_
  refine T_ld zk_169_1 rfl rfl rfl (pc' := 2) rfl ?_
  refine T_calli (K := fun y1 σ' => (y1 = 0) ∧ (fun σ' => IF (MT 49 49 49 49) σ σ' ∧ True) σ') (r := []) zk_169_2 rfl rfl rfl rfl rfl rfl (Or.inr ⟨_, _, _, _, rfl, vd_35, rfl⟩) (fun σ' h => (m_167e p0 (by omega) σ' h.1.1 ((h.1.2 _ _ _ _ (by unfold MT; omega)).trans ((hm _ _ _ _ (by decide)).trans (s0_z (by omega))))).le (Nat.le_of_ble_eq_true rfl) (fun v σ2 ⟨y, h1, h2, h3, h4⟩ => ⟨y, h1, h2, h.1.tr h3 MN_sub, trivial⟩)) (pc' := 5) rfl (fun y1 => ?_)
  refine G_ex (fun hy1 => ?_)
  obtain rfl : y1 = 0 := by omega
  refine T_if_eq zk_169_5 (by omega) (pc' := 8) rfl (fun h2 => ?_) (fun h3 => ?_)
  ·
    refine T_ld zk_169_20 rfl rfl rfl (pc' := 21) rfl ?_
    refine T_op zk_169_21 rfl X_ic (pc' := 22) rfl ?_
    refine T_calli (K := fun y4 σ' => (y4 = (-1)) ∧ (fun σ' => IF (MT 49 49 49 49) σ σ' ∧ True) σ') (r := []) zk_169_22 rfl rfl rfl rfl rfl rfl (Or.inr ⟨_, _, _, _, rfl, vd_35, rfl⟩) (fun σ' h => (m_123 ((-1)) (by omega) σ' h.1.1 ).le (Nat.le_of_ble_eq_true rfl) (fun v σ2 ⟨y, h1, h2, h3, h4⟩ => ⟨y, h1, h2, h.1.tr h3 (fun _ _ _ _ h => h), trivial⟩)) (pc' := 25) rfl (fun y4 => ?_)
    refine G_ex (fun hy4 => ?_)
    obtain rfl : y4 = (-1) := by omega
    exact T_iret zk_169_25 rfl (fun σ' h => ⟨_, rfl, (by omega), h.1, trivial⟩)
  · exfalso; omega
/-- WModel.stepOf -/
theorem m_stepOf {xs : Nat × (Nat → Int32)} (p0 : Int) (h0 : -2147483648 ≤ p0 ∧ p0 ≤ 2147483647) (σ : ZS) (hI : Inv σ) (hm : ∀ t i k j, 35 ≤ t → σ t i k j = σ0 t i k j)  : CT xs 2 173 [av 35 0 0, iv p0] σ (fun v σ' => ∃ y, v = some (iv y) ∧ (y = -1) ∧ IF MN σ σ' ∧ (True)) := by
  refine G_ct (J := (fun σ' => IF MN σ σ' ∧ True)) (L := [(0, av 35 0 0), (1, iv p0)]) (nL := 2) rfl rfl rfl ⟨IF.rf hI, trivial⟩ ?_
  refine T_ld zk_173_0 rfl rfl rfl (pc' := 1) rfl ?_
  refine T_ld zk_173_1 rfl rfl rfl (pc' := 2) rfl ?_
  refine T_calli (K := fun y1 σ' => (y1 = 0) ∧ (fun σ' => IF MN σ σ' ∧ True) σ') (r := []) zk_173_2 rfl rfl rfl rfl rfl rfl (Or.inr ⟨_, _, _, _, rfl, vd_35, rfl⟩) (fun σ' h => (m_167e p0 (by omega) σ' h.1.1 ((h.1.2 _ _ _ _ (fun q => q)).trans ((hm _ _ _ _ (by decide)).trans (s0_z (by omega))))).le (Nat.le_of_ble_eq_true rfl) (fun v σ2 ⟨y, h1, h2, h3, h4⟩ => ⟨y, h1, h2, h.1.tr h3 MN_sub, trivial⟩)) (pc' := 5) rfl (fun y1 => ?_)
  refine G_ex (fun hy1 => ?_)
  obtain rfl : y1 = 0 := by omega
  refine T_if_eq zk_173_5 (by omega) (pc' := 8) rfl (fun h2 => ?_) (fun h3 => ?_)
  ·
    refine T_op zk_173_16 rfl X_ic (pc' := 17) rfl ?_
    exact T_iret zk_173_17 rfl (fun σ' h => ⟨_, rfl, (by omega), h.1, trivial⟩)
  · exfalso; omega
/-- WModel.sails -/
theorem m_sails {xs : Nat × (Nat → Int32)} (p0 : Int) (p1 : Int) (h0 : -2147483648 ≤ p0 ∧ p0 ≤ 2147483647) (h1 : -2147483648 ≤ p1 ∧ p1 ≤ 2147483647) (σ : ZS) (hI : Inv σ) (hm : ∀ t i k j, 35 ≤ t → σ t i k j = σ0 t i k j)  : CT xs 2 174 [av 35 0 0, iv p0, iv p1] σ (fun v σ' => ∃ y, v = some (iv y) ∧ (y = -1) ∧ IF MN σ σ' ∧ (True)) := by
  refine G_ct (J := (fun σ' => IF MN σ σ' ∧ True)) (L := [(0, av 35 0 0), (1, iv p0), (2, iv p1)]) (nL := 3) rfl rfl rfl ⟨IF.rf hI, trivial⟩ ?_
  refine T_ld zk_174_0 rfl rfl rfl (pc' := 1) rfl ?_
  refine T_ld zk_174_1 rfl rfl rfl (pc' := 2) rfl ?_
  refine T_calli (K := fun y1 σ' => (y1 = 0) ∧ (fun σ' => IF MN σ σ' ∧ True) σ') (r := []) zk_174_2 rfl rfl rfl rfl rfl rfl (Or.inr ⟨_, _, _, _, rfl, vd_35, rfl⟩) (fun σ' h => (m_167e p0 (by omega) σ' h.1.1 ((h.1.2 _ _ _ _ (fun q => q)).trans ((hm _ _ _ _ (by decide)).trans (s0_z (by omega))))).le (Nat.le_of_ble_eq_true rfl) (fun v σ2 ⟨y, h1, h2, h3, h4⟩ => ⟨y, h1, h2, h.1.tr h3 MN_sub, trivial⟩)) (pc' := 5) rfl (fun y1 => ?_)
  refine G_ex (fun hy1 => ?_)
  obtain rfl : y1 = 0 := by omega
  refine T_if_ne zk_174_5 (by omega) (pc' := 8) rfl (fun h2 => ?_) (fun h3 => ?_)
  · exfalso; omega
  ·
    refine T_op zk_174_8 rfl X_ic (pc' := 9) rfl ?_
    exact T_iret zk_174_9 rfl (fun σ' h => ⟨_, rfl, (by omega), h.1, trivial⟩)
/-- WModel.route -/
theorem m_route {xs : Nat × (Nat → Int32)} (p0 : Int) (p1 : Int) (p2 : Int) (h0 : -2147483648 ≤ p0 ∧ p0 ≤ 2147483647) (h1 : -2147483648 ≤ p1 ∧ p1 ≤ 2147483647) (h2 : -2147483648 ≤ p2 ∧ p2 ≤ 2147483647) (σ : ZS) (hI : Inv σ) (hm : ∀ t i k j, 35 ≤ t → σ t i k j = σ0 t i k j)  : CT xs 2 180 [av 35 0 0, iv p0, iv p1, iv p2] σ (fun v σ' => ∃ y, v = some (iv y) ∧ (y = -1) ∧ IF MN σ σ' ∧ (True)) := by
  refine G_ct (J := (fun σ' => IF MN σ σ' ∧ True)) (L := [(0, av 35 0 0), (1, iv p0), (2, iv p1), (3, iv p2)]) (nL := 10) rfl rfl rfl ⟨IF.rf hI, trivial⟩ ?_
  refine T_ld zk_180_0 rfl rfl rfl (pc' := 1) rfl ?_
  refine T_ld zk_180_1 rfl rfl rfl (pc' := 2) rfl ?_
  refine T_calli (K := fun y1 σ' => (y1 = 0) ∧ (fun σ' => IF MN σ σ' ∧ True) σ') (r := []) zk_180_2 rfl rfl rfl rfl rfl rfl (Or.inr ⟨_, _, _, _, rfl, vd_35, rfl⟩) (fun σ' h => (m_167e p0 (by omega) σ' h.1.1 ((h.1.2 _ _ _ _ (fun q => q)).trans ((hm _ _ _ _ (by decide)).trans (s0_z (by omega))))).le (Nat.le_of_ble_eq_true rfl) (fun v σ2 ⟨y, h1, h2, h3, h4⟩ => ⟨y, h1, h2, h.1.tr h3 MN_sub, trivial⟩)) (pc' := 5) rfl (fun y1 => ?_)
  refine G_ex (fun hy1 => ?_)
  obtain rfl : y1 = 0 := by omega
  refine T_if_eq zk_180_5 (by omega) (pc' := 8) rfl (fun h2 => ?_) (fun h3 => ?_)
  ·
    refine T_op zk_180_15 rfl X_ic (pc' := 16) rfl ?_
    exact T_iret zk_180_16 rfl (fun σ' h => ⟨_, rfl, (by omega), h.1, trivial⟩)
  · exfalso; omega
/-- WModel.restore -/
theorem m_restore {xs : Nat × (Nat → Int32)}   (σ : ZS) (hI : Inv σ) (hm : ∀ t i k j, 35 ≤ t → σ t i k j = σ0 t i k j)  : CT xs 2 185 [av 35 0 0] σ (fun v σ' => ∃ y, v = some (iv y) ∧ (y = -6) ∧ IF (MT 49 49 49 49) σ σ' ∧ (True)) := by
  refine G_ct (J := (fun σ' => IF (MT 49 49 49 49) σ σ' ∧ True)) (L := [(0, av 35 0 0)]) (nL := 2) rfl rfl rfl ⟨IF.rf hI, trivial⟩ ?_
  refine T_ld zk_185_0 rfl rfl rfl (pc' := 1) rfl ?_
  refine G_getX (w := 0) zk_185_1 rfl vd_35 (fun σ' h => (h.1.2 _ _ _ _ (by unfold MT; omega)).trans (hm _ _ _ _ (by decide))) (pc' := 4) rfl ?_
  refine T_if_ne zk_185_4 (by omega) (pc' := 7) rfl (fun h1 => ?_) (fun h2 => ?_)
  · exfalso; omega
  ·
    refine T_ld zk_185_7 rfl rfl rfl (pc' := 8) rfl ?_
    refine T_op zk_185_8 rfl (X_bi (v := -6) (by decide)) (pc' := 10) rfl ?_
    refine T_calli (K := fun y3 σ' => (y3 = (-6)) ∧ (fun σ' => IF (MT 49 49 49 49) σ σ' ∧ True) σ') (r := []) zk_185_10 rfl rfl rfl rfl rfl rfl (Or.inr ⟨_, _, _, _, rfl, vd_35, rfl⟩) (fun σ' h => (m_123 ((-6)) (by omega) σ' h.1.1 ).le (Nat.le_of_ble_eq_true rfl) (fun v σ2 ⟨y, h1, h2, h3, h4⟩ => ⟨y, h1, h2, h.1.tr h3 (fun _ _ _ _ h => h), trivial⟩)) (pc' := 13) rfl (fun y3 => ?_)
    refine G_ex (fun hy3 => ?_)
    obtain rfl : y3 = (-6) := by omega
    exact T_iret zk_185_13 rfl (fun σ' h => ⟨_, rfl, (by omega), h.1, trivial⟩)
/-- WModel.way -/
theorem m_way {xs : Nat × (Nat → Int32)} (p0 : Int) (p1 : Int) (p2 : Int) (h0 : -2147483648 ≤ p0 ∧ p0 ≤ 2147483647) (h1 : -2147483648 ≤ p1 ∧ p1 ≤ 2147483647) (h2 : -2147483648 ≤ p2 ∧ p2 ≤ 2147483647) (σ : ZS) (hI : Inv σ) (hm : ∀ t i k j, 35 ≤ t → σ t i k j = σ0 t i k j)  : CT xs 3 187 [av 35 0 0, iv p0, iv p1, iv p2] σ (fun v σ' => ∃ y, v = some (iv y) ∧ ((y = -1 ∧ (¬ (0 ≤ p0 ∧ p0 ≤ 24 ∧ 0 ≤ p1 ∧ p1 ≤ 24 ∧ (p1 = p0 + 5 ∨ p0 = p1 + 5 ∨ (p1 = p0 + 1 ∧ p0 % 5 < 4) ∨ (p0 = p1 + 1 ∧ p1 % 5 < 4))) ∨ ¬ (0 ≤ p2 ∧ p2 ≤ 2))) ∨ (y = -1 ∧ ¬ (¬ (0 ≤ p0 ∧ p0 ≤ 24 ∧ 0 ≤ p1 ∧ p1 ≤ 24 ∧ (p1 = p0 + 5 ∨ p0 = p1 + 5 ∨ (p1 = p0 + 1 ∧ p0 % 5 < 4) ∨ (p0 = p1 + 1 ∧ p1 % 5 < 4))) ∨ ¬ (0 ≤ p2 ∧ p2 ≤ 2)) ∧ (p2 = 2)) ∨ (y = 0 ∧ ¬ (¬ (0 ≤ p0 ∧ p0 ≤ 24 ∧ 0 ≤ p1 ∧ p1 ≤ 24 ∧ (p1 = p0 + 5 ∨ p0 = p1 + 5 ∨ (p1 = p0 + 1 ∧ p0 % 5 < 4) ∨ (p0 = p1 + 1 ∧ p1 % 5 < 4))) ∨ ¬ (0 ≤ p2 ∧ p2 ≤ 2)) ∧ ¬ (p2 = 2))) ∧ IF MN σ σ' ∧ (True)) := by
  refine G_ct (J := (fun σ' => IF MN σ σ' ∧ True)) (L := [(0, av 35 0 0), (1, iv p0), (2, iv p1), (3, iv p2)]) (nL := 5) rfl rfl rfl ⟨IF.rf hI, trivial⟩ ?_
  refine T_ld zk_187_0 rfl rfl rfl (pc' := 1) rfl ?_
  refine T_ld zk_187_1 rfl rfl rfl (pc' := 2) rfl ?_
  refine T_calli (K := fun y1 σ' => ((y1 = -1 ∧ ¬ (0 ≤ p0 ∧ p0 ≤ 24 ∧ 0 ≤ p1 ∧ p1 ≤ 24 ∧ (p1 = p0 + 5 ∨ p0 = p1 + 5 ∨ (p1 = p0 + 1 ∧ p0 % 5 < 4) ∨ (p0 = p1 + 1 ∧ p1 % 5 < 4)))) ∨ (0 ≤ y1 ∧ y1 ≤ 49 ∧ (0 ≤ p0 ∧ p0 ≤ 24 ∧ 0 ≤ p1 ∧ p1 ≤ 24 ∧ (p1 = p0 + 5 ∨ p0 = p1 + 5 ∨ (p1 = p0 + 1 ∧ p0 % 5 < 4) ∨ (p0 = p1 + 1 ∧ p1 % 5 < 4))))) ∧ (fun σ' => IF MN σ σ' ∧ True) σ') (r := []) zk_187_2 rfl rfl rfl rfl rfl rfl (Or.inl (Or.inl rfl)) (fun σ' h => (m_126 p0 p1 (by omega) (by omega) σ' h.1.1 ).le (Nat.le_of_ble_eq_true rfl) (fun v σ2 ⟨y, h1, h2, h3, h4⟩ => ⟨y, h1, h2, h.1.tr h3 MN_sub, trivial⟩)) (pc' := 5) rfl (fun y1 => ?_)
  refine G_ex (fun hy1 => ?_)
  refine T_st (L' := [(0, av 35 0 0), (1, iv p0), (2, iv p1), (3, iv p2), (4, iv y1)]) zk_187_5 (nL := 5) rfl rfl rfl rfl rfl (pc' := 7) rfl ?_
  refine T_ld zk_187_7 rfl rfl rfl (pc' := 9) rfl ?_
  refine T_op zk_187_9 rfl X_ic (pc' := 10) rfl ?_
  refine T_icmp_eq zk_187_10 (by omega) (by omega) (pc' := 13) rfl (fun h2 => ?_) (fun h3 => ?_)
  ·
    refine T_op zk_187_22 rfl X_ic (pc' := 23) rfl ?_
    exact T_iret zk_187_23 rfl (fun σ' h => ⟨_, rfl, (by omega), h.1, trivial⟩)
  ·
    refine T_ld zk_187_13 rfl rfl rfl (pc' := 14) rfl ?_
    refine T_if_lt zk_187_14 (by omega) (pc' := 17) rfl (fun h4 => ?_) (fun h5 => ?_)
    ·
      refine T_op zk_187_22 rfl X_ic (pc' := 23) rfl ?_
      exact T_iret zk_187_23 rfl (fun σ' h => ⟨_, rfl, (by omega), h.1, trivial⟩)
    ·
      refine T_ld zk_187_17 rfl rfl rfl (pc' := 18) rfl ?_
      refine T_op zk_187_18 rfl X_ic (pc' := 19) rfl ?_
      refine T_icmp_le zk_187_19 (by omega) (by omega) (pc' := 22) rfl (fun h6 => ?_) (fun h7 => ?_)
      ·
        refine T_ld zk_187_24 rfl rfl rfl (pc' := 25) rfl ?_
        refine T_getR (t' := 36) (i' := 0) (k' := 0) zk_187_25 rfl rfl rfl vd_35 (pc' := 28) rfl ?_
        refine T_ld zk_187_28 rfl rfl rfl (pc' := 29) rfl ?_
        refine T_if_ne zk_187_29 (by omega) (pc' := 32) rfl (fun h8 => ?_) (fun h9 => ?_)
        ·
          refine T_ld zk_187_37 rfl rfl rfl (pc' := 38) rfl ?_
          refine T_op zk_187_38 rfl X_ic (pc' := 39) rfl ?_
          refine T_icmp_ne zk_187_39 (by omega) (by omega) (pc' := 42) rfl (fun h10 => ?_) (fun h11 => ?_)
          ·
            refine T_op zk_187_48 rfl (X_si (v := 200) (by decide)) (pc' := 51) rfl ?_
            refine T_ld zk_187_51 rfl rfl rfl (pc' := 53) rfl ?_
            refine T_op zk_187_53 rfl X_add (pc' := 54) rfl ?_
            refine G_ialdX (w := (-1)) (ln := 646) zk_187_54 rfl rfl (vd_36 (by omega)) (by omega) (by omega) (by omega) (fun σ' h => (h.1.2 _ _ _ _ (fun q => q)).trans ((hm _ _ _ _ (by decide)).trans (s0_c (by omega)))) (pc' := 55) rfl ?_
            exact T_iret zk_187_55 rfl (fun σ' h => ⟨_, rfl, (by omega), h.1, trivial⟩)
          ·
            refine T_op zk_187_42 rfl (X_si (v := 150) (by decide)) (pc' := 45) rfl ?_
            refine T_goto zk_187_45 ?_
            refine T_ld zk_187_51 rfl rfl rfl (pc' := 53) rfl ?_
            refine T_op zk_187_53 rfl X_add (pc' := 54) rfl ?_
            refine G_ialdX (w := 0) (ln := 646) zk_187_54 rfl rfl (vd_36 (by omega)) (by omega) (by omega) (by omega) (fun σ' h => (h.1.2 _ _ _ _ (fun q => q)).trans ((hm _ _ _ _ (by decide)).trans (s0_z (by omega)))) (pc' := 55) rfl ?_
            exact T_iret zk_187_55 rfl (fun σ' h => ⟨_, rfl, (by omega), h.1, trivial⟩)
        ·
          refine T_op zk_187_32 rfl (X_bi (v := 100) (by decide)) (pc' := 34) rfl ?_
          refine T_goto zk_187_34 ?_
          refine T_ld zk_187_51 rfl rfl rfl (pc' := 53) rfl ?_
          refine T_op zk_187_53 rfl X_add (pc' := 54) rfl ?_
          refine G_ialdX (w := 0) (ln := 646) zk_187_54 rfl rfl (vd_36 (by omega)) (by omega) (by omega) (by omega) (fun σ' h => (h.1.2 _ _ _ _ (fun q => q)).trans ((hm _ _ _ _ (by decide)).trans (s0_z (by omega)))) (pc' := 55) rfl ?_
          exact T_iret zk_187_55 rfl (fun σ' h => ⟨_, rfl, (by omega), h.1, trivial⟩)
      ·
        refine T_op zk_187_22 rfl X_ic (pc' := 23) rfl ?_
        exact T_iret zk_187_23 rfl (fun σ' h => ⟨_, rfl, (by omega), h.1, trivial⟩)
/-- WModel.cell -/
theorem m_cell {xs : Nat × (Nat → Int32)} (p0 : Int) (p1 : Int) (h0 : -2147483648 ≤ p0 ∧ p0 ≤ 2147483647) (h1 : -2147483648 ≤ p1 ∧ p1 ≤ 2147483647) (σ : ZS) (hI : Inv σ) (hm : ∀ t i k j, 35 ≤ t → σ t i k j = σ0 t i k j)  : CT xs 2 186 [av 35 0 0, iv p0, iv p1] σ (fun v σ' => ∃ y, v = some (iv y) ∧ ((y = 1000000 ∧ (¬ (0 ≤ p0 ∧ p0 ≤ 24) ∨ ¬ (0 ≤ p1 ∧ p1 ≤ 4))) ∨ (y = 20 ∧ ¬ (¬ (0 ≤ p0 ∧ p0 ≤ 24) ∨ ¬ (0 ≤ p1 ∧ p1 ≤ 4)) ∧ (p1 = 0)) ∨ (y = 1000 ∧ ¬ (¬ (0 ≤ p0 ∧ p0 ≤ 24) ∨ ¬ (0 ≤ p1 ∧ p1 ≤ 4)) ∧ ¬ (p1 = 0) ∧ (p1 = 2)) ∨ (y = -1 ∧ ¬ (¬ (0 ≤ p0 ∧ p0 ≤ 24) ∨ ¬ (0 ≤ p1 ∧ p1 ≤ 4)) ∧ ¬ (p1 = 0) ∧ ¬ (p1 = 2) ∧ (p1 = 4)) ∨ (y = 0 ∧ ¬ (¬ (0 ≤ p0 ∧ p0 ≤ 24) ∨ ¬ (0 ≤ p1 ∧ p1 ≤ 4)) ∧ ¬ (p1 = 0) ∧ ¬ (p1 = 2) ∧ ¬ (p1 = 4))) ∧ IF MN σ σ' ∧ (True)) := by
  refine G_ct (J := (fun σ' => IF MN σ σ' ∧ True)) (L := [(0, av 35 0 0), (1, iv p0), (2, iv p1)]) (nL := 4) rfl rfl rfl ⟨IF.rf hI, trivial⟩ ?_
  refine T_ld zk_186_0 rfl rfl rfl (pc' := 1) rfl ?_
  refine T_calli (K := fun y1 σ' => ((y1 = 0 ∧ (p0 < 0 ∨ 24 < p0)) ∨ (y1 = 1 ∧ 0 ≤ p0 ∧ p0 ≤ 24)) ∧ (fun σ' => IF MN σ σ' ∧ True) σ') (r := []) zk_186_1 rfl rfl rfl rfl rfl rfl (Or.inl (Or.inl rfl)) (fun σ' h => (m_124 p0 (by omega) σ' h.1.1 ).le (Nat.le_of_ble_eq_true rfl) (fun v σ2 ⟨y, h1, h2, h3, h4⟩ => ⟨y, h1, h2, h.1.tr h3 MN_sub, trivial⟩)) (pc' := 4) rfl (fun y1 => ?_)
  refine G_ex (fun hy1 => ?_)
  refine T_if_ne zk_186_4 (by omega) (pc' := 7) rfl (fun h2 => ?_) (fun h3 => ?_)
  ·
    refine T_ld zk_186_10 rfl rfl rfl (pc' := 11) rfl ?_
    by_cases h4 : p1 = 0
    · subst h4
      refine T_br (t := 44) zk_186_11 rfl rfl rfl (fun _ => rfl) rfl ?_
      refine T_ld zk_186_44 rfl rfl rfl (pc' := 45) rfl ?_
      refine T_getR (t' := 36) (i' := 0) (k' := 0) zk_186_45 rfl rfl rfl vd_35 (pc' := 48) rfl ?_
      refine T_op zk_186_48 rfl X_ic (pc' := 49) rfl ?_
      refine T_ld zk_186_49 rfl rfl rfl (pc' := 50) rfl ?_
      refine T_op zk_186_50 rfl X_add (pc' := 51) rfl ?_
      refine G_ialdX (w := 20) (ln := 646) zk_186_51 rfl rfl (vd_36 (by omega)) (by omega) (by omega) (by omega) (fun σ' h => (h.1.2 _ _ _ _ (fun q => q)).trans ((hm _ _ _ _ (by decide)).trans (s0_a (by omega)))) (pc' := 52) rfl ?_
      exact T_iret zk_186_52 rfl (fun σ' h => ⟨_, rfl, (by omega), h.1, trivial⟩)
    by_cases h5 : p1 = 1
    · subst h5
      refine T_br (t := 53) zk_186_11 rfl rfl rfl (fun _ => rfl) rfl ?_
      refine T_ld zk_186_53 rfl rfl rfl (pc' := 54) rfl ?_
      refine T_getR (t' := 36) (i' := 0) (k' := 0) zk_186_54 rfl rfl rfl vd_35 (pc' := 57) rfl ?_
      refine T_op zk_186_57 rfl (X_bi (v := 25) (by decide)) (pc' := 59) rfl ?_
      refine T_ld zk_186_59 rfl rfl rfl (pc' := 60) rfl ?_
      refine T_op zk_186_60 rfl X_add (pc' := 61) rfl ?_
      refine G_ialdX (w := 0) (ln := 646) zk_186_61 rfl rfl (vd_36 (by omega)) (by omega) (by omega) (by omega) (fun σ' h => (h.1.2 _ _ _ _ (fun q => q)).trans ((hm _ _ _ _ (by decide)).trans (s0_z (by omega)))) (pc' := 62) rfl ?_
      exact T_iret zk_186_62 rfl (fun σ' h => ⟨_, rfl, (by omega), h.1, trivial⟩)
    by_cases h6 : p1 = 2
    · subst h6
      refine T_br (t := 63) zk_186_11 rfl rfl rfl (fun _ => rfl) rfl ?_
      refine T_ld zk_186_63 rfl rfl rfl (pc' := 64) rfl ?_
      refine T_getR (t' := 36) (i' := 0) (k' := 0) zk_186_64 rfl rfl rfl vd_35 (pc' := 67) rfl ?_
      refine T_op zk_186_67 rfl (X_bi (v := 50) (by decide)) (pc' := 69) rfl ?_
      refine T_ld zk_186_69 rfl rfl rfl (pc' := 70) rfl ?_
      refine T_op zk_186_70 rfl X_add (pc' := 71) rfl ?_
      refine G_ialdX (w := 1000) (ln := 646) zk_186_71 rfl rfl (vd_36 (by omega)) (by omega) (by omega) (by omega) (fun σ' h => (h.1.2 _ _ _ _ (fun q => q)).trans ((hm _ _ _ _ (by decide)).trans (s0_b (by omega)))) (pc' := 72) rfl ?_
      exact T_iret zk_186_72 rfl (fun σ' h => ⟨_, rfl, (by omega), h.1, trivial⟩)
    by_cases h7 : p1 = 3
    · subst h7
      refine T_br (t := 73) zk_186_11 rfl rfl rfl (fun _ => rfl) rfl ?_
      refine T_ld zk_186_73 rfl rfl rfl (pc' := 74) rfl ?_
      refine T_getR (t' := 36) (i' := 0) (k' := 0) zk_186_74 rfl rfl rfl vd_35 (pc' := 77) rfl ?_
      refine T_op zk_186_77 rfl (X_bi (v := 75) (by decide)) (pc' := 79) rfl ?_
      refine T_ld zk_186_79 rfl rfl rfl (pc' := 80) rfl ?_
      refine T_op zk_186_80 rfl X_add (pc' := 81) rfl ?_
      refine G_ialdX (w := 0) (ln := 646) zk_186_81 rfl rfl (vd_36 (by omega)) (by omega) (by omega) (by omega) (fun σ' h => (h.1.2 _ _ _ _ (fun q => q)).trans ((hm _ _ _ _ (by decide)).trans (s0_z (by omega)))) (pc' := 82) rfl ?_
      exact T_iret zk_186_82 rfl (fun σ' h => ⟨_, rfl, (by omega), h.1, trivial⟩)
    by_cases h8 : p1 = 4
    · subst h8
      refine T_br (t := 83) zk_186_11 rfl rfl rfl (fun _ => rfl) rfl ?_
      refine T_op zk_186_83 rfl X_ic (pc' := 84) rfl ?_
      refine T_st (L' := [(0, av 35 0 0), (1, iv p0), (2, iv 4), (3, iv 0)]) zk_186_84 (nL := 4) rfl rfl rfl rfl rfl (pc' := 85) rfl ?_
      refine T_loop1 (fun x9 => ((0 : Int)).toNat) (fun x9 => (0 ≤ x9 ∧ x9 ≤ 0)) (fun x9 => TJ xs (fun σ' => IF MN σ σ' ∧ True) 1 186 85 [(0, av 35 0 0), (1, iv p0), (2, iv 4), (3, iv x9)] [] _) ?_ 0 (by omega)
      intro x9 hp11 ih10
      refine T_ld zk_186_85 rfl rfl rfl (pc' := 86) rfl ?_
      refine T_ld zk_186_86 rfl rfl rfl (pc' := 87) rfl ?_
      refine T_getR (t' := 36) (i' := 0) (k' := 0) zk_186_87 rfl rfl rfl vd_35 (pc' := 90) rfl ?_
      refine T_op zk_186_90 rfl (X_si (v := 633) (by decide)) (pc' := 93) rfl ?_
      refine G_ialdX (w := 0) (ln := 646) zk_186_93 rfl rfl (vd_36 (by omega)) (by omega) (by omega) (by omega) (fun σ' h => (h.1.2 _ _ _ _ (fun q => q)).trans ((hm _ _ _ _ (by decide)).trans (s0_z (by omega)))) (pc' := 94) rfl ?_
      refine T_icmp_ge zk_186_94 (by omega) (by omega) (pc' := 97) rfl (fun h12 => ?_) (fun h13 => ?_)
      ·
        refine T_op zk_186_119 rfl X_ic (pc' := 120) rfl ?_
        exact T_iret zk_186_120 rfl (fun σ' h => ⟨_, rfl, (by omega), h.1, trivial⟩)
      · exfalso; omega
    refine T_tso (t := 121) zk_186_11 (by omega) (by omega) (by omega) ?_
    refine T_ldc zk_186_121 (pc' := 123) rfl ?_
    exact T_iret zk_186_123 rfl (fun σ' h => ⟨_, rfl, (by omega), h.1, trivial⟩)
  ·
    refine T_ldc zk_186_7 (pc' := 9) rfl ?_
    exact T_iret zk_186_9 rfl (fun σ' h => ⟨_, rfl, (by omega), h.1, trivial⟩)
