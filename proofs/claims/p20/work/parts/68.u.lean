theorem zk_148_0 : zc 148 0 = some (.aload_n 0, 0, 0, 0, 0) := rfl
theorem zk_148_1 : zc 148 1 = some (.getfield 137, 11, 19, 0, 168) := rfl
theorem zk_148_4 : zc 148 4 = some (.aload_n 0, 0, 0, 0, 0) := rfl
theorem zk_148_5 : zc 148 5 = some (.getfield 140, 11, 20, 0, 169) := rfl
theorem zk_148_8 : zc 148 8 = some (.if_icmp .ge 21, 29, 0, 0, 0) := rfl
theorem zk_148_11 : zc 148 11 = some (.aload_n 0, 0, 0, 0, 0) := rfl
theorem zk_148_12 : zc 148 12 = some (.getfield 31, 11, 8, 0, 146) := rfl
theorem zk_148_15 : zc 148 15 = some (.aload_n 0, 0, 0, 0, 0) := rfl
theorem zk_148_16 : zc 148 16 = some (.getfield 143, 11, 21, 0, 170) := rfl
theorem zk_148_19 : zc 148 19 = some (.aload_n 0, 0, 0, 0, 0) := rfl
theorem zk_148_20 : zc 148 20 = some (.getfield 137, 11, 19, 0, 168) := rfl
theorem zk_148_23 : zc 148 23 = some (.iadd, 0, 0, 0, 0) := rfl
theorem zk_148_24 : zc 148 24 = some (.laload, 0, 0, 0, 0) := rfl
theorem zk_148_25 : zc 148 25 = some (.l2i, 0, 0, 0, 0) := rfl
theorem zk_148_26 : zc 148 26 = some (.goto 4, 30, 0, 0, 0) := rfl
theorem zk_148_29 : zc 148 29 = some (.iconst (-1), 0, 0, 0, 0) := rfl
theorem zk_148_30 : zc 148 30 = some (.ireturn, 0, 0, 0, 0) := rfl
theorem zk_149_0 : zc 149 0 = some (.aload_n 0, 0, 0, 0, 0) := rfl
theorem zk_149_1 : zc 149 1 = some (.getfield 137, 11, 19, 0, 168) := rfl
theorem zk_149_4 : zc 149 4 = some (.aload_n 0, 0, 0, 0, 0) := rfl
theorem zk_149_5 : zc 149 5 = some (.getfield 140, 11, 20, 0, 169) := rfl
theorem zk_149_8 : zc 149 8 = some (.if_icmp .ge 15, 23, 0, 0, 0) := rfl
theorem zk_149_11 : zc 149 11 = some (.aload_n 0, 0, 0, 0, 0) := rfl
theorem zk_149_12 : zc 149 12 = some (.invokevirtual 146, 148, 0, 1, 136) := rfl
theorem zk_149_15 : zc 149 15 = some (.iload_n 1, 0, 0, 0, 0) := rfl
theorem zk_149_16 : zc 149 16 = some (.if_icmp .ne 7, 23, 0, 0, 0) := rfl
theorem zk_149_19 : zc 149 19 = some (.iconst 1, 0, 0, 0, 0) := rfl
theorem zk_149_20 : zc 149 20 = some (.goto 4, 24, 0, 0, 0) := rfl
theorem zk_149_23 : zc 149 23 = some (.iconst 0, 0, 0, 0, 0) := rfl
theorem zk_149_24 : zc 149 24 = some (.ireturn, 0, 0, 0, 0) := rfl
theorem zk_150_0 : zc 150 0 = some (.aload_n 0, 0, 0, 0, 0) := rfl
theorem zk_150_1 : zc 150 1 = some (.bipush 102, 0, 0, 0, 0) := rfl
theorem zk_150_3 : zc 150 3 = some (.invokevirtual 150, 149, 0, 2, 137) := rfl
theorem zk_150_6 : zc 150 6 = some (.ifCond .ne 50, 56, 0, 0, 0) := rfl
theorem zk_150_9 : zc 150 9 = some (.aload_n 0, 0, 0, 0, 0) := rfl
theorem zk_150_10 : zc 150 10 = some (.bipush 115, 0, 0, 0, 0) := rfl
theorem zk_150_12 : zc 150 12 = some (.invokevirtual 150, 149, 0, 2, 137) := rfl
theorem zk_150_15 : zc 150 15 = some (.ifCond .ne 41, 56, 0, 0, 0) := rfl
theorem zk_150_18 : zc 150 18 = some (.aload_n 0, 0, 0, 0, 0) := rfl
theorem zk_150_19 : zc 150 19 = some (.bipush 108, 0, 0, 0, 0) := rfl
theorem zk_150_21 : zc 150 21 = some (.invokevirtual 150, 149, 0, 2, 137) := rfl
theorem zk_150_24 : zc 150 24 = some (.ifCond .ne 32, 56, 0, 0, 0) := rfl
theorem zk_150_27 : zc 150 27 = some (.aload_n 0, 0, 0, 0, 0) := rfl
theorem zk_150_28 : zc 150 28 = some (.bipush 104, 0, 0, 0, 0) := rfl
theorem zk_150_30 : zc 150 30 = some (.invokevirtual 150, 149, 0, 2, 137) := rfl
theorem zk_150_33 : zc 150 33 = some (.ifCond .ne 23, 56, 0, 0, 0) := rfl
theorem zk_150_36 : zc 150 36 = some (.aload_n 0, 0, 0, 0, 0) := rfl
theorem zk_150_37 : zc 150 37 = some (.bipush 119, 0, 0, 0, 0) := rfl
theorem zk_150_39 : zc 150 39 = some (.invokevirtual 150, 149, 0, 2, 137) := rfl
theorem zk_150_42 : zc 150 42 = some (.ifCond .ne 14, 56, 0, 0, 0) := rfl
theorem zk_150_45 : zc 150 45 = some (.aload_n 0, 0, 0, 0, 0) := rfl
theorem zk_150_46 : zc 150 46 = some (.bipush 100, 0, 0, 0, 0) := rfl
theorem zk_150_48 : zc 150 48 = some (.invokevirtual 150, 149, 0, 2, 137) := rfl
theorem zk_150_51 : zc 150 51 = some (.ifCond .ne 5, 56, 0, 0, 0) := rfl
theorem zk_150_54 : zc 150 54 = some (.iconst 0, 0, 0, 0, 0) := rfl
theorem zk_150_55 : zc 150 55 = some (.ireturn, 0, 0, 0, 0) := rfl
theorem zk_150_56 : zc 150 56 = some (.bipush 50, 0, 0, 0, 0) := rfl
theorem zk_150_58 : zc 150 58 = some (.iload_n 1, 0, 0, 0, 0) := rfl
theorem zk_150_59 : zc 150 59 = some (.imul, 0, 0, 0, 0) := rfl
theorem zk_150_60 : zc 150 60 = some (.aload_n 0, 0, 0, 0, 0) := rfl
theorem zk_150_61 : zc 150 61 = some (.getfield 153, 11, 23, 0, 171) := rfl
theorem zk_150_64 : zc 150 64 = some (.iadd, 0, 0, 0, 0) := rfl
theorem zk_150_65 : zc 150 65 = some (.istore_n 2, 0, 0, 0, 0) := rfl
theorem zk_150_66 : zc 150 66 = some (.aload_n 0, 0, 0, 0, 0) := rfl
theorem zk_150_67 : zc 150 67 = some (.getfield 47, 11, 13, 0, 151) := rfl
theorem zk_150_70 : zc 150 70 = some (.iload_n 2, 0, 0, 0, 0) := rfl
theorem zk_150_71 : zc 150 71 = some (.aload_n 0, 0, 0, 0, 0) := rfl
theorem zk_150_72 : zc 150 72 = some (.invokevirtual 146, 148, 0, 1, 136) := rfl
theorem zk_150_75 : zc 150 75 = some (.iastore, 0, 0, 0, 0) := rfl
theorem zk_150_76 : zc 150 76 = some (.aload_n 0, 0, 0, 0, 0) := rfl
theorem zk_150_77 : zc 150 77 = some (.dup, 0, 0, 0, 0) := rfl
theorem zk_150_78 : zc 150 78 = some (.getfield 137, 11, 19, 0, 168) := rfl
theorem zk_150_81 : zc 150 81 = some (.iconst 1, 0, 0, 0, 0) := rfl
theorem zk_150_82 : zc 150 82 = some (.iadd, 0, 0, 0, 0) := rfl
theorem zk_150_83 : zc 150 83 = some (.putfield 137, 11, 19, 0, 168) := rfl
theorem zk_150_86 : zc 150 86 = some (.aload_n 0, 0, 0, 0, 0) := rfl
theorem zk_150_87 : zc 150 87 = some (.bipush 60, 0, 0, 0, 0) := rfl
theorem zk_150_89 : zc 150 89 = some (.invokevirtual 150, 149, 0, 2, 137) := rfl
theorem zk_150_92 : zc 150 92 = some (.ifCond .ne 23, 115, 0, 0, 0) := rfl
theorem zk_150_95 : zc 150 95 = some (.aload_n 0, 0, 0, 0, 0) := rfl
theorem zk_150_96 : zc 150 96 = some (.bipush 62, 0, 0, 0, 0) := rfl
theorem zk_150_98 : zc 150 98 = some (.invokevirtual 150, 149, 0, 2, 137) := rfl
theorem zk_150_101 : zc 150 101 = some (.ifCond .ne 14, 115, 0, 0, 0) := rfl
theorem zk_150_104 : zc 150 104 = some (.aload_n 0, 0, 0, 0, 0) := rfl
theorem zk_150_105 : zc 150 105 = some (.bipush 61, 0, 0, 0, 0) := rfl
theorem zk_150_107 : zc 150 107 = some (.invokevirtual 150, 149, 0, 2, 137) := rfl
theorem zk_150_110 : zc 150 110 = some (.ifCond .ne 5, 115, 0, 0, 0) := rfl
theorem zk_150_113 : zc 150 113 = some (.iconst 0, 0, 0, 0, 0) := rfl
theorem zk_150_114 : zc 150 114 = some (.ireturn, 0, 0, 0, 0) := rfl
theorem zk_150_115 : zc 150 115 = some (.aload_n 0, 0, 0, 0, 0) := rfl
theorem zk_150_116 : zc 150 116 = some (.getfield 50, 11, 14, 0, 152) := rfl
theorem zk_150_119 : zc 150 119 = some (.iload_n 2, 0, 0, 0, 0) := rfl
theorem zk_150_120 : zc 150 120 = some (.aload_n 0, 0, 0, 0, 0) := rfl
theorem zk_150_121 : zc 150 121 = some (.invokevirtual 146, 148, 0, 1, 136) := rfl
theorem zk_150_124 : zc 150 124 = some (.iastore, 0, 0, 0, 0) := rfl
theorem zk_150_125 : zc 150 125 = some (.aload_n 0, 0, 0, 0, 0) := rfl
theorem zk_150_126 : zc 150 126 = some (.dup, 0, 0, 0, 0) := rfl
theorem zk_150_127 : zc 150 127 = some (.getfield 137, 11, 19, 0, 168) := rfl
theorem zk_150_130 : zc 150 130 = some (.iconst 1, 0, 0, 0, 0) := rfl
theorem zk_150_131 : zc 150 131 = some (.iadd, 0, 0, 0, 0) := rfl
theorem zk_150_132 : zc 150 132 = some (.putfield 137, 11, 19, 0, 168) := rfl
theorem zk_150_135 : zc 150 135 = some (.iconst 0, 0, 0, 0, 0) := rfl
theorem zk_150_136 : zc 150 136 = some (.istore_n 3, 0, 0, 0, 0) := rfl
theorem zk_150_137 : zc 150 137 = some (.iconst 0, 0, 0, 0, 0) := rfl
theorem zk_150_138 : zc 150 138 = some (.istore 4, 0, 0, 0, 0) := rfl
theorem zk_150_140 : zc 150 140 = some (.aload_n 0, 0, 0, 0, 0) := rfl
theorem zk_150_141 : zc 150 141 = some (.getfield 137, 11, 19, 0, 168) := rfl
theorem zk_150_144 : zc 150 144 = some (.aload_n 0, 0, 0, 0, 0) := rfl
theorem zk_150_145 : zc 150 145 = some (.getfield 140, 11, 20, 0, 169) := rfl
theorem zk_150_148 : zc 150 148 = some (.if_icmp .ge 65, 213, 0, 0, 0) := rfl
theorem zk_150_151 : zc 150 151 = some (.aload_n 0, 0, 0, 0, 0) := rfl
theorem zk_150_152 : zc 150 152 = some (.invokevirtual 146, 148, 0, 1, 136) := rfl
theorem zk_150_155 : zc 150 155 = some (.bipush 48, 0, 0, 0, 0) := rfl
theorem zk_150_157 : zc 150 157 = some (.if_icmp .lt 56, 213, 0, 0, 0) := rfl
theorem zk_150_160 : zc 150 160 = some (.aload_n 0, 0, 0, 0, 0) := rfl
theorem zk_150_161 : zc 150 161 = some (.invokevirtual 146, 148, 0, 1, 136) := rfl
theorem zk_150_164 : zc 150 164 = some (.bipush 57, 0, 0, 0, 0) := rfl
theorem zk_150_166 : zc 150 166 = some (.if_icmp .gt 47, 213, 0, 0, 0) := rfl
theorem zk_150_169 : zc 150 169 = some (.iload 4, 0, 0, 0, 0) := rfl
theorem zk_150_171 : zc 150 171 = some (.iconst 3, 0, 0, 0, 0) := rfl
theorem zk_150_172 : zc 150 172 = some (.if_icmp .ge 41, 213, 0, 0, 0) := rfl
theorem zk_150_175 : zc 150 175 = some (.iload 4, 0, 0, 0, 0) := rfl
theorem zk_150_177 : zc 150 177 = some (.ifCond .le 7, 184, 0, 0, 0) := rfl
theorem zk_150_180 : zc 150 180 = some (.iload_n 3, 0, 0, 0, 0) := rfl
theorem zk_150_181 : zc 150 181 = some (.ifCond .eq 32, 213, 0, 0, 0) := rfl
theorem zk_150_184 : zc 150 184 = some (.bipush 10, 0, 0, 0, 0) := rfl
theorem zk_150_186 : zc 150 186 = some (.iload_n 3, 0, 0, 0, 0) := rfl
theorem zk_150_187 : zc 150 187 = some (.imul, 0, 0, 0, 0) := rfl
theorem zk_150_188 : zc 150 188 = some (.aload_n 0, 0, 0, 0, 0) := rfl
theorem zk_150_189 : zc 150 189 = some (.invokevirtual 146, 148, 0, 1, 136) := rfl
theorem zk_150_192 : zc 150 192 = some (.iadd, 0, 0, 0, 0) := rfl
theorem zk_150_193 : zc 150 193 = some (.bipush 48, 0, 0, 0, 0) := rfl
theorem zk_150_195 : zc 150 195 = some (.isub, 0, 0, 0, 0) := rfl
theorem zk_150_196 : zc 150 196 = some (.istore_n 3, 0, 0, 0, 0) := rfl
theorem zk_150_197 : zc 150 197 = some (.iinc 4 1, 0, 0, 0, 0) := rfl
theorem zk_150_200 : zc 150 200 = some (.aload_n 0, 0, 0, 0, 0) := rfl
theorem zk_150_201 : zc 150 201 = some (.dup, 0, 0, 0, 0) := rfl
theorem zk_150_202 : zc 150 202 = some (.getfield 137, 11, 19, 0, 168) := rfl
theorem zk_150_205 : zc 150 205 = some (.iconst 1, 0, 0, 0, 0) := rfl
theorem zk_150_206 : zc 150 206 = some (.iadd, 0, 0, 0, 0) := rfl
theorem zk_150_207 : zc 150 207 = some (.putfield 137, 11, 19, 0, 168) := rfl
theorem zk_150_210 : zc 150 210 = some (.goto (-70), 140, 0, 0, 0) := rfl
theorem zk_150_213 : zc 150 213 = some (.iload 4, 0, 0, 0, 0) := rfl
theorem zk_150_215 : zc 150 215 = some (.ifCond .ne 5, 220, 0, 0, 0) := rfl
theorem zk_150_218 : zc 150 218 = some (.iconst 0, 0, 0, 0, 0) := rfl
theorem zk_150_219 : zc 150 219 = some (.ireturn, 0, 0, 0, 0) := rfl
theorem zk_150_220 : zc 150 220 = some (.aload_n 0, 0, 0, 0, 0) := rfl
theorem zk_150_221 : zc 150 221 = some (.getfield 53, 11, 15, 0, 153) := rfl
theorem zk_150_224 : zc 150 224 = some (.iload_n 2, 0, 0, 0, 0) := rfl
theorem zk_150_225 : zc 150 225 = some (.iload_n 3, 0, 0, 0, 0) := rfl
theorem zk_150_226 : zc 150 226 = some (.iastore, 0, 0, 0, 0) := rfl
theorem zk_150_227 : zc 150 227 = some (.aload_n 0, 0, 0, 0, 0) := rfl
theorem zk_150_228 : zc 150 228 = some (.dup, 0, 0, 0, 0) := rfl
theorem zk_150_229 : zc 150 229 = some (.getfield 153, 11, 23, 0, 171) := rfl
theorem zk_150_232 : zc 150 232 = some (.iconst 1, 0, 0, 0, 0) := rfl
theorem zk_150_233 : zc 150 233 = some (.iadd, 0, 0, 0, 0) := rfl
theorem zk_150_234 : zc 150 234 = some (.putfield 153, 11, 23, 0, 171) := rfl
theorem zk_150_237 : zc 150 237 = some (.iconst 1, 0, 0, 0, 0) := rfl
theorem zk_150_238 : zc 150 238 = some (.ireturn, 0, 0, 0, 0) := rfl
def MRd (t i k j : Nat) : Prop := (46 ≤ t ∧ t ≤ 48) ∨ (t = 35 ∧ (j = 19 ∨ j = 23))
theorem nMRd { t i k j : Nat} (hb : decide (((46 ≤ t ∧ t ≤ 48) ∨ (t = 35 ∧ (j = 19 ∨ j = 23)))) = false) : ¬ MRd  t i k j := fun h => of_decide_eq_false hb (by unfold MRd at h; omega)
theorem pMRd { t i k j : Nat} (hb : decide (((46 ≤ t ∧ t ≤ 48) ∨ (t = 35 ∧ (j = 19 ∨ j = 23)))) = true) : MRd  t i k j := by
  have h := of_decide_eq_true hb
  unfold MRd
  omega
