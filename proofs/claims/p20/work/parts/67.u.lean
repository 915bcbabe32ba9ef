theorem zk_184_0 : zc 184 0 = some (.aload_n 0, 0, 0, 0, 0) := rfl
theorem zk_184_1 : zc 184 1 = some (.aload_n 0, 0, 0, 0, 0) := rfl
theorem zk_184_2 : zc 184 2 = some (.getfield 7, 11, 0, 0, 139) := rfl
theorem zk_184_5 : zc 184 5 = some (.aload_n 0, 0, 0, 0, 0) := rfl
theorem zk_184_6 : zc 184 6 = some (.getfield 16, 11, 2, 0, 141) := rfl
theorem zk_184_9 : zc 184 9 = some (.invokevirtual 230, 179, 0, 3, 155) := rfl
theorem zk_184_12 : zc 184 12 = some (.iconst 0, 0, 0, 0, 0) := rfl
theorem zk_184_13 : zc 184 13 = some (.istore_n 1, 0, 0, 0, 0) := rfl
theorem zk_184_14 : zc 184 14 = some (.iload_n 1, 0, 0, 0, 0) := rfl
theorem zk_184_15 : zc 184 15 = some (.iconst 5, 0, 0, 0, 0) := rfl
theorem zk_184_16 : zc 184 16 = some (.if_icmp .ge 33, 49, 0, 0, 0) := rfl
theorem zk_184_19 : zc 184 19 = some (.aload_n 0, 0, 0, 0, 0) := rfl
theorem zk_184_20 : zc 184 20 = some (.getfield 81, 11, 34, 0, 162) := rfl
theorem zk_184_23 : zc 184 23 = some (.iload_n 1, 0, 0, 0, 0) := rfl
theorem zk_184_24 : zc 184 24 = some (.aload_n 0, 0, 0, 0, 0) := rfl
theorem zk_184_25 : zc 184 25 = some (.getfield 38, 11, 10, 0, 148) := rfl
theorem zk_184_28 : zc 184 28 = some (.iload_n 1, 0, 0, 0, 0) := rfl
theorem zk_184_29 : zc 184 29 = some (.iaload, 0, 0, 0, 0) := rfl
theorem zk_184_30 : zc 184 30 = some (.iastore, 0, 0, 0, 0) := rfl
theorem zk_184_31 : zc 184 31 = some (.aload_n 0, 0, 0, 0, 0) := rfl
theorem zk_184_32 : zc 184 32 = some (.getfield 84, 11, 35, 0, 163) := rfl
theorem zk_184_35 : zc 184 35 = some (.iload_n 1, 0, 0, 0, 0) := rfl
theorem zk_184_36 : zc 184 36 = some (.aload_n 0, 0, 0, 0, 0) := rfl
theorem zk_184_37 : zc 184 37 = some (.getfield 41, 11, 11, 0, 149) := rfl
theorem zk_184_40 : zc 184 40 = some (.iload_n 1, 0, 0, 0, 0) := rfl
theorem zk_184_41 : zc 184 41 = some (.iaload, 0, 0, 0, 0) := rfl
theorem zk_184_42 : zc 184 42 = some (.iastore, 0, 0, 0, 0) := rfl
theorem zk_184_43 : zc 184 43 = some (.iinc 1 1, 0, 0, 0, 0) := rfl
theorem zk_184_46 : zc 184 46 = some (.goto (-32), 14, 0, 0, 0) := rfl
theorem zk_184_49 : zc 184 49 = some (.iconst 0, 0, 0, 0, 0) := rfl
theorem zk_184_50 : zc 184 50 = some (.istore_n 1, 0, 0, 0, 0) := rfl
theorem zk_184_51 : zc 184 51 = some (.iload_n 1, 0, 0, 0, 0) := rfl
theorem zk_184_52 : zc 184 52 = some (.sipush 600, 0, 0, 0, 0) := rfl
theorem zk_184_55 : zc 184 55 = some (.if_icmp .ge 21, 76, 0, 0, 0) := rfl
theorem zk_184_58 : zc 184 58 = some (.aload_n 0, 0, 0, 0, 0) := rfl
theorem zk_184_59 : zc 184 59 = some (.getfield 87, 11, 36, 0, 164) := rfl
theorem zk_184_62 : zc 184 62 = some (.iload_n 1, 0, 0, 0, 0) := rfl
theorem zk_184_63 : zc 184 63 = some (.aload_n 0, 0, 0, 0, 0) := rfl
theorem zk_184_64 : zc 184 64 = some (.getfield 44, 11, 12, 0, 150) := rfl
theorem zk_184_67 : zc 184 67 = some (.iload_n 1, 0, 0, 0, 0) := rfl
theorem zk_184_68 : zc 184 68 = some (.iaload, 0, 0, 0, 0) := rfl
theorem zk_184_69 : zc 184 69 = some (.iastore, 0, 0, 0, 0) := rfl
theorem zk_184_70 : zc 184 70 = some (.iinc 1 1, 0, 0, 0, 0) := rfl
theorem zk_184_73 : zc 184 73 = some (.goto (-22), 51, 0, 0, 0) := rfl
theorem zk_184_76 : zc 184 76 = some (.iconst 0, 0, 0, 0, 0) := rfl
theorem zk_184_77 : zc 184 77 = some (.istore_n 1, 0, 0, 0, 0) := rfl
theorem zk_184_78 : zc 184 78 = some (.iload_n 1, 0, 0, 0, 0) := rfl
theorem zk_184_79 : zc 184 79 = some (.sipush 250, 0, 0, 0, 0) := rfl
theorem zk_184_82 : zc 184 82 = some (.if_icmp .ge 45, 127, 0, 0, 0) := rfl
theorem zk_184_85 : zc 184 85 = some (.aload_n 0, 0, 0, 0, 0) := rfl
theorem zk_184_86 : zc 184 86 = some (.getfield 90, 11, 37, 0, 165) := rfl
theorem zk_184_89 : zc 184 89 = some (.iload_n 1, 0, 0, 0, 0) := rfl
theorem zk_184_90 : zc 184 90 = some (.aload_n 0, 0, 0, 0, 0) := rfl
theorem zk_184_91 : zc 184 91 = some (.getfield 47, 11, 13, 0, 151) := rfl
theorem zk_184_94 : zc 184 94 = some (.iload_n 1, 0, 0, 0, 0) := rfl
theorem zk_184_95 : zc 184 95 = some (.iaload, 0, 0, 0, 0) := rfl
theorem zk_184_96 : zc 184 96 = some (.iastore, 0, 0, 0, 0) := rfl
theorem zk_184_97 : zc 184 97 = some (.aload_n 0, 0, 0, 0, 0) := rfl
theorem zk_184_98 : zc 184 98 = some (.getfield 93, 11, 38, 0, 166) := rfl
theorem zk_184_101 : zc 184 101 = some (.iload_n 1, 0, 0, 0, 0) := rfl
theorem zk_184_102 : zc 184 102 = some (.aload_n 0, 0, 0, 0, 0) := rfl
theorem zk_184_103 : zc 184 103 = some (.getfield 50, 11, 14, 0, 152) := rfl
theorem zk_184_106 : zc 184 106 = some (.iload_n 1, 0, 0, 0, 0) := rfl
theorem zk_184_107 : zc 184 107 = some (.iaload, 0, 0, 0, 0) := rfl
theorem zk_184_108 : zc 184 108 = some (.iastore, 0, 0, 0, 0) := rfl
theorem zk_184_109 : zc 184 109 = some (.aload_n 0, 0, 0, 0, 0) := rfl
theorem zk_184_110 : zc 184 110 = some (.getfield 96, 11, 39, 0, 167) := rfl
theorem zk_184_113 : zc 184 113 = some (.iload_n 1, 0, 0, 0, 0) := rfl
theorem zk_184_114 : zc 184 114 = some (.aload_n 0, 0, 0, 0, 0) := rfl
theorem zk_184_115 : zc 184 115 = some (.getfield 53, 11, 15, 0, 153) := rfl
theorem zk_184_118 : zc 184 118 = some (.iload_n 1, 0, 0, 0, 0) := rfl
theorem zk_184_119 : zc 184 119 = some (.iaload, 0, 0, 0, 0) := rfl
theorem zk_184_120 : zc 184 120 = some (.iastore, 0, 0, 0, 0) := rfl
theorem zk_184_121 : zc 184 121 = some (.iinc 1 1, 0, 0, 0, 0) := rfl
theorem zk_184_124 : zc 184 124 = some (.goto (-46), 78, 0, 0, 0) := rfl
theorem zk_184_127 : zc 184 127 = some (.aload_n 0, 0, 0, 0, 0) := rfl
theorem zk_184_128 : zc 184 128 = some (.iconst 1, 0, 0, 0, 0) := rfl
theorem zk_184_129 : zc 184 129 = some (.putfield 234, 11, 3, 0, 178) := rfl
theorem zk_184_132 : zc 184 132 = some (.aload_n 0, 0, 0, 0, 0) := rfl
theorem zk_184_133 : zc 184 133 = some (.getfield 7, 11, 0, 0, 139) := rfl
theorem zk_184_136 : zc 184 136 = some (.sipush 634, 0, 0, 0, 0) := rfl
theorem zk_184_139 : zc 184 139 = some (.iaload, 0, 0, 0, 0) := rfl
theorem zk_184_140 : zc 184 140 = some (.ireturn, 0, 0, 0, 0) := rfl
theorem zk_185_0 : zc 185 0 = some (.aload_n 0, 0, 0, 0, 0) := rfl
theorem zk_185_1 : zc 185 1 = some (.getfield 234, 11, 3, 0, 178) := rfl
theorem zk_185_4 : zc 185 4 = some (.ifCond .ne 10, 14, 0, 0, 0) := rfl
theorem zk_185_7 : zc 185 7 = some (.aload_n 0, 0, 0, 0, 0) := rfl
theorem zk_185_8 : zc 185 8 = some (.bipush (-6), 0, 0, 0, 0) := rfl
theorem zk_185_10 : zc 185 10 = some (.invokevirtual 103, 123, 0, 2, 129) := rfl
theorem zk_185_13 : zc 185 13 = some (.ireturn, 0, 0, 0, 0) := rfl
theorem zk_185_14 : zc 185 14 = some (.aload_n 0, 0, 0, 0, 0) := rfl
theorem zk_185_15 : zc 185 15 = some (.aload_n 0, 0, 0, 0, 0) := rfl
theorem zk_185_16 : zc 185 16 = some (.getfield 16, 11, 2, 0, 141) := rfl
theorem zk_185_19 : zc 185 19 = some (.aload_n 0, 0, 0, 0, 0) := rfl
theorem zk_185_20 : zc 185 20 = some (.getfield 7, 11, 0, 0, 139) := rfl
theorem zk_185_23 : zc 185 23 = some (.invokevirtual 230, 179, 0, 3, 155) := rfl
theorem zk_185_26 : zc 185 26 = some (.iconst 0, 0, 0, 0, 0) := rfl
theorem zk_185_27 : zc 185 27 = some (.istore_n 1, 0, 0, 0, 0) := rfl
theorem zk_185_28 : zc 185 28 = some (.iload_n 1, 0, 0, 0, 0) := rfl
theorem zk_185_29 : zc 185 29 = some (.iconst 5, 0, 0, 0, 0) := rfl
theorem zk_185_30 : zc 185 30 = some (.if_icmp .ge 33, 63, 0, 0, 0) := rfl
theorem zk_185_33 : zc 185 33 = some (.aload_n 0, 0, 0, 0, 0) := rfl
theorem zk_185_34 : zc 185 34 = some (.getfield 38, 11, 10, 0, 148) := rfl
theorem zk_185_37 : zc 185 37 = some (.iload_n 1, 0, 0, 0, 0) := rfl
theorem zk_185_38 : zc 185 38 = some (.aload_n 0, 0, 0, 0, 0) := rfl
theorem zk_185_39 : zc 185 39 = some (.getfield 81, 11, 34, 0, 162) := rfl
theorem zk_185_42 : zc 185 42 = some (.iload_n 1, 0, 0, 0, 0) := rfl
theorem zk_185_43 : zc 185 43 = some (.iaload, 0, 0, 0, 0) := rfl
theorem zk_185_44 : zc 185 44 = some (.iastore, 0, 0, 0, 0) := rfl
theorem zk_185_45 : zc 185 45 = some (.aload_n 0, 0, 0, 0, 0) := rfl
theorem zk_185_46 : zc 185 46 = some (.getfield 41, 11, 11, 0, 149) := rfl
theorem zk_185_49 : zc 185 49 = some (.iload_n 1, 0, 0, 0, 0) := rfl
theorem zk_185_50 : zc 185 50 = some (.aload_n 0, 0, 0, 0, 0) := rfl
theorem zk_185_51 : zc 185 51 = some (.getfield 84, 11, 35, 0, 163) := rfl
theorem zk_185_54 : zc 185 54 = some (.iload_n 1, 0, 0, 0, 0) := rfl
theorem zk_185_55 : zc 185 55 = some (.iaload, 0, 0, 0, 0) := rfl
theorem zk_185_56 : zc 185 56 = some (.iastore, 0, 0, 0, 0) := rfl
theorem zk_185_57 : zc 185 57 = some (.iinc 1 1, 0, 0, 0, 0) := rfl
theorem zk_185_60 : zc 185 60 = some (.goto (-32), 28, 0, 0, 0) := rfl
theorem zk_185_63 : zc 185 63 = some (.iconst 0, 0, 0, 0, 0) := rfl
theorem zk_185_64 : zc 185 64 = some (.istore_n 1, 0, 0, 0, 0) := rfl
theorem zk_185_65 : zc 185 65 = some (.iload_n 1, 0, 0, 0, 0) := rfl
theorem zk_185_66 : zc 185 66 = some (.sipush 600, 0, 0, 0, 0) := rfl
theorem zk_185_69 : zc 185 69 = some (.if_icmp .ge 21, 90, 0, 0, 0) := rfl
theorem zk_185_72 : zc 185 72 = some (.aload_n 0, 0, 0, 0, 0) := rfl
theorem zk_185_73 : zc 185 73 = some (.getfield 44, 11, 12, 0, 150) := rfl
theorem zk_185_76 : zc 185 76 = some (.iload_n 1, 0, 0, 0, 0) := rfl
theorem zk_185_77 : zc 185 77 = some (.aload_n 0, 0, 0, 0, 0) := rfl
theorem zk_185_78 : zc 185 78 = some (.getfield 87, 11, 36, 0, 164) := rfl
theorem zk_185_81 : zc 185 81 = some (.iload_n 1, 0, 0, 0, 0) := rfl
theorem zk_185_82 : zc 185 82 = some (.iaload, 0, 0, 0, 0) := rfl
theorem zk_185_83 : zc 185 83 = some (.iastore, 0, 0, 0, 0) := rfl
theorem zk_185_84 : zc 185 84 = some (.iinc 1 1, 0, 0, 0, 0) := rfl
theorem zk_185_87 : zc 185 87 = some (.goto (-22), 65, 0, 0, 0) := rfl
theorem zk_185_90 : zc 185 90 = some (.iconst 0, 0, 0, 0, 0) := rfl
theorem zk_185_91 : zc 185 91 = some (.istore_n 1, 0, 0, 0, 0) := rfl
theorem zk_185_92 : zc 185 92 = some (.iload_n 1, 0, 0, 0, 0) := rfl
theorem zk_185_93 : zc 185 93 = some (.sipush 250, 0, 0, 0, 0) := rfl
theorem zk_185_96 : zc 185 96 = some (.if_icmp .ge 45, 141, 0, 0, 0) := rfl
theorem zk_185_99 : zc 185 99 = some (.aload_n 0, 0, 0, 0, 0) := rfl
theorem zk_185_100 : zc 185 100 = some (.getfield 47, 11, 13, 0, 151) := rfl
theorem zk_185_103 : zc 185 103 = some (.iload_n 1, 0, 0, 0, 0) := rfl
theorem zk_185_104 : zc 185 104 = some (.aload_n 0, 0, 0, 0, 0) := rfl
theorem zk_185_105 : zc 185 105 = some (.getfield 90, 11, 37, 0, 165) := rfl
theorem zk_185_108 : zc 185 108 = some (.iload_n 1, 0, 0, 0, 0) := rfl
theorem zk_185_109 : zc 185 109 = some (.iaload, 0, 0, 0, 0) := rfl
theorem zk_185_110 : zc 185 110 = some (.iastore, 0, 0, 0, 0) := rfl
theorem zk_185_111 : zc 185 111 = some (.aload_n 0, 0, 0, 0, 0) := rfl
theorem zk_185_112 : zc 185 112 = some (.getfield 50, 11, 14, 0, 152) := rfl
theorem zk_185_115 : zc 185 115 = some (.iload_n 1, 0, 0, 0, 0) := rfl
theorem zk_185_116 : zc 185 116 = some (.aload_n 0, 0, 0, 0, 0) := rfl
theorem zk_185_117 : zc 185 117 = some (.getfield 93, 11, 38, 0, 166) := rfl
theorem zk_185_120 : zc 185 120 = some (.iload_n 1, 0, 0, 0, 0) := rfl
theorem zk_185_121 : zc 185 121 = some (.iaload, 0, 0, 0, 0) := rfl
theorem zk_185_122 : zc 185 122 = some (.iastore, 0, 0, 0, 0) := rfl
theorem zk_185_123 : zc 185 123 = some (.aload_n 0, 0, 0, 0, 0) := rfl
theorem zk_185_124 : zc 185 124 = some (.getfield 53, 11, 15, 0, 153) := rfl
theorem zk_185_127 : zc 185 127 = some (.iload_n 1, 0, 0, 0, 0) := rfl
theorem zk_185_128 : zc 185 128 = some (.aload_n 0, 0, 0, 0, 0) := rfl
theorem zk_185_129 : zc 185 129 = some (.getfield 96, 11, 39, 0, 167) := rfl
theorem zk_185_132 : zc 185 132 = some (.iload_n 1, 0, 0, 0, 0) := rfl
theorem zk_185_133 : zc 185 133 = some (.iaload, 0, 0, 0, 0) := rfl
theorem zk_185_134 : zc 185 134 = some (.iastore, 0, 0, 0, 0) := rfl
theorem zk_185_135 : zc 185 135 = some (.iinc 1 1, 0, 0, 0, 0) := rfl
theorem zk_185_138 : zc 185 138 = some (.goto (-46), 92, 0, 0, 0) := rfl
theorem zk_185_141 : zc 185 141 = some (.iconst 0, 0, 0, 0, 0) := rfl
theorem zk_185_142 : zc 185 142 = some (.istore_n 1, 0, 0, 0, 0) := rfl
theorem zk_185_143 : zc 185 143 = some (.iload_n 1, 0, 0, 0, 0) := rfl
theorem zk_185_144 : zc 185 144 = some (.bipush 8, 0, 0, 0, 0) := rfl
theorem zk_185_146 : zc 185 146 = some (.if_icmp .ge 39, 185, 0, 0, 0) := rfl
theorem zk_185_149 : zc 185 149 = some (.aload_n 0, 0, 0, 0, 0) := rfl
theorem zk_185_150 : zc 185 150 = some (.getfield 19, 11, 4, 0, 142) := rfl
theorem zk_185_153 : zc 185 153 = some (.iload_n 1, 0, 0, 0, 0) := rfl
theorem zk_185_154 : zc 185 154 = some (.iaload, 0, 0, 0, 0) := rfl
theorem zk_185_155 : zc 185 155 = some (.iconst 2, 0, 0, 0, 0) := rfl
theorem zk_185_156 : zc 185 156 = some (.if_icmp .ne 23, 179, 0, 0, 0) := rfl
theorem zk_185_159 : zc 185 159 = some (.aload_n 0, 0, 0, 0, 0) := rfl
theorem zk_185_160 : zc 185 160 = some (.aload_n 0, 0, 0, 0, 0) := rfl
theorem zk_185_161 : zc 185 161 = some (.getfield 28, 11, 7, 0, 145) := rfl
theorem zk_185_164 : zc 185 164 = some (.iload_n 1, 0, 0, 0, 0) := rfl
theorem zk_185_165 : zc 185 165 = some (.iaload, 0, 0, 0, 0) := rfl
theorem zk_185_166 : zc 185 166 = some (.invokevirtual 118, 139, 0, 2, 133) := rfl
theorem zk_185_169 : zc 185 169 = some (.ifCond .ne 10, 179, 0, 0, 0) := rfl
theorem zk_185_172 : zc 185 172 = some (.aload_n 0, 0, 0, 0, 0) := rfl
theorem zk_185_173 : zc 185 173 = some (.getfield 19, 11, 4, 0, 142) := rfl
theorem zk_185_176 : zc 185 176 = some (.iload_n 1, 0, 0, 0, 0) := rfl
theorem zk_185_177 : zc 185 177 = some (.iconst 0, 0, 0, 0, 0) := rfl
theorem zk_185_178 : zc 185 178 = some (.iastore, 0, 0, 0, 0) := rfl
theorem zk_185_179 : zc 185 179 = some (.iinc 1 1, 0, 0, 0, 0) := rfl
theorem zk_185_182 : zc 185 182 = some (.goto (-39), 143, 0, 0, 0) := rfl
theorem zk_185_185 : zc 185 185 = some (.aload_n 0, 0, 0, 0, 0) := rfl
theorem zk_185_186 : zc 185 186 = some (.getfield 7, 11, 0, 0, 139) := rfl
theorem zk_185_189 : zc 185 189 = some (.sipush 634, 0, 0, 0, 0) := rfl
theorem zk_185_192 : zc 185 192 = some (.iaload, 0, 0, 0, 0) := rfl
theorem zk_185_193 : zc 185 193 = some (.ireturn, 0, 0, 0, 0) := rfl
def MIm (t i k j : Nat) : Prop := (t = 36 ∧ k = 2) ∨ (t = 35 ∧ j = 3) ∨ (56 ≤ t ∧ t ≤ 61)
theorem nMIm { t i k j : Nat} (hb : decide ((t = 36 ∨ (t = 35 ∧ j = 3) ∨ (56 ≤ t ∧ t ≤ 61))) = false) : ¬ MIm  t i k j := fun h => of_decide_eq_false hb (by unfold MIm at h; omega)
theorem pMIm { t i k j : Nat} (hb : decide (((t = 35 ∧ j = 3) ∨ (56 ≤ t ∧ t ≤ 61))) = true) : MIm  t i k j := by
  have h := of_decide_eq_true hb
  unfold MIm
  omega
def MRm (t i k j : Nat) : Prop := (t = 36 ∧ k = 0) ∨ t = 37 ∨ (43 ≤ t ∧ t ≤ 49)
theorem sb67_ff6faf6 : ∀ t i k j, MV 2 t i k j → MIm t i k j := by
  intro t i k j h
  unfold MV at h
  unfold MIm
  omega
/-- WModel.restore -/
theorem m_185n {xs : Nat × (Nat → Int32)}   (σ : ZS) (hI : Inv σ)  (s1 : σ 35 0 0 3 = 0) : CT xs 2 185 [av 35 0 0] σ (fun v σ' => ∃ y, v = some (iv y) ∧ (y = -6) ∧ IF (MT 49 49 49 49) σ σ' ∧ (True)) := by
  refine G_ct (J := (fun σ' => IF (MT 49 49 49 49) σ σ' ∧ True)) (L := [(0, av 35 0 0)]) (nL := 2) rfl rfl rfl ⟨IF.rf hI, trivial⟩ ?_
  refine T_ld zk_185_0 rfl rfl rfl (pc' := 1) rfl ?_
  refine G_getX (w := 0) zk_185_1 rfl vd_35 (fun σ' h => (h.1.2 _ _ _ _ (by first | exact nMT rfl | (unfold MT; omega))).trans s1) (pc' := 4) rfl ?_
  refine T_if_ne zk_185_4 (by omega) (pc' := 7) rfl (fun h1 => ?_) (fun h2 => ?_)
  · exfalso; omega
  ·
    refine T_ld zk_185_7 rfl rfl rfl (pc' := 8) rfl ?_
    refine T_op zk_185_8 rfl (X_bi (v := -6) (by decide)) (pc' := 10) rfl ?_
    refine T_calli (K := fun y3 σ' => (y3 = (-6)) ∧ (fun σ' => IF (MT 49 49 49 49) σ σ' ∧ True) σ') (r := []) zk_185_10 rfl rfl rfl rfl rfl rfl (Or.inr ⟨_, _, _, _, rfl, vd_35, rfl⟩) (fun σ' h => (m_123 ((-6)) (by omega) σ' h.1.1 ).le (Nat.le_of_ble_eq_true rfl) (fun v σ2 ⟨y, h1, h2, h3, h4⟩ => ⟨y, h1, h2, h.1.tr h3 (fun _ _ _ _ h => h), trivial⟩)) (pc' := 13) rfl (fun y3 => ?_)
    refine G_ex (fun hy3 => ?_)
    obtain rfl : y3 = (-6) := by omega
    exact T_iret zk_185_13 rfl (fun σ' h => ⟨_, rfl, (by omega), h.1, trivial⟩)
