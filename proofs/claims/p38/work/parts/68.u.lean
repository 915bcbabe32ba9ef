theorem zk_148_0 : zc 148 0 = some (.aload_n 0, 0, 0, 0, 0) := rfl
theorem zk_148_1 : zc 148 1 = some (.getfield 137, 11, 19, 0, 168) := rfl
theorem zk_148_4 : zc 148 4 = some (.aload_n 0, 0, 0, 0, 0) := rfl
theorem zk_148_5 : zc 148 5 = some (.getfield 140, 11, 20, 0, 169) := rfl
theorem zk_148_8 : zc 148 8 = some (.if_icmp .ge 21, 29, 0, 0, 0) := rfl
theorem zk_148_11 : zc 148 11 = some (.aload_n 0, 0, 0, 0, 0) := rfl
theorem zk_148_12 : zc 148 12 = some (.getfield 31, 11, 8, 0, 146) := rfl
theorem zk_148_15 : zc 148 15 = some (.aload_n 0, 0, 0, 0, 0) := rfl
theorem zk_148_16 : zc 148 16 = some (.getfield 143, 11, 21, 0, 170) := rfl
theorem zk_148_19 : zc 148 19 = some (.aload_n 0, 0, 0, 0, 0) := rfl
theorem zk_148_20 : zc 148 20 = some (.getfield 137, 11, 19, 0, 168) := rfl
theorem zk_148_23 : zc 148 23 = some (.iadd, 0, 0, 0, 0) := rfl
theorem zk_148_24 : zc 148 24 = some (.laload, 0, 0, 0, 0) := rfl
theorem zk_148_25 : zc 148 25 = some (.l2i, 0, 0, 0, 0) := rfl
theorem zk_148_26 : zc 148 26 = some (.goto 4, 30, 0, 0, 0) := rfl
theorem zk_148_29 : zc 148 29 = some (.iconst (-1), 0, 0, 0, 0) := rfl
theorem zk_148_30 : zc 148 30 = some (.ireturn, 0, 0, 0, 0) := rfl
theorem zk_149_0 : zc 149 0 = some (.aload_n 0, 0, 0, 0, 0) := rfl
theorem zk_149_1 : zc 149 1 = some (.getfield 137, 11, 19, 0, 168) := rfl
theorem zk_149_4 : zc 149 4 = some (.aload_n 0, 0, 0, 0, 0) := rfl
theorem zk_149_5 : zc 149 5 = some (.getfield 140, 11, 20, 0, 169) := rfl
theorem zk_149_8 : zc 149 8 = some (.if_icmp .ge 15, 23, 0, 0, 0) := rfl
theorem zk_149_11 : zc 149 11 = some (.aload_n 0, 0, 0, 0, 0) := rfl
theorem zk_149_12 : zc 149 12 = some (.invokevirtual 146, 148, 0, 1, 136) := rfl
theorem zk_149_15 : zc 149 15 = some (.iload_n 1, 0, 0, 0, 0) := rfl
theorem zk_149_16 : zc 149 16 = some (.if_icmp .ne 7, 23, 0, 0, 0) := rfl
theorem zk_149_19 : zc 149 19 = some (.iconst 1, 0, 0, 0, 0) := rfl
theorem zk_149_20 : zc 149 20 = some (.goto 4, 24, 0, 0, 0) := rfl
theorem zk_149_23 : zc 149 23 = some (.iconst 0, 0, 0, 0, 0) := rfl
theorem zk_149_24 : zc 149 24 = some (.ireturn, 0, 0, 0, 0) := rfl
theorem zk_150_0 : zc 150 0 = some (.aload_n 0, 0, 0, 0, 0) := rfl
theorem zk_150_1 : zc 150 1 = some (.bipush 102, 0, 0, 0, 0) := rfl
theorem zk_150_3 : zc 150 3 = some (.invokevirtual 150, 149, 0, 2, 137) := rfl
theorem zk_150_6 : zc 150 6 = some (.ifCond .ne 50, 56, 0, 0, 0) := rfl
theorem zk_150_9 : zc 150 9 = some (.aload_n 0, 0, 0, 0, 0) := rfl
theorem zk_150_10 : zc 150 10 = some (.bipush 115, 0, 0, 0, 0) := rfl
theorem zk_150_12 : zc 150 12 = some (.invokevirtual 150, 149, 0, 2, 137) := rfl
theorem zk_150_15 : zc 150 15 = some (.ifCond .ne 41, 56, 0, 0, 0) := rfl
theorem zk_150_18 : zc 150 18 = some (.aload_n 0, 0, 0, 0, 0) := rfl
theorem zk_150_19 : zc 150 19 = some (.bipush 108, 0, 0, 0, 0) := rfl
theorem zk_150_21 : zc 150 21 = some (.invokevirtual 150, 149, 0, 2, 137) := rfl
theorem zk_150_24 : zc 150 24 = some (.ifCond .ne 32, 56, 0, 0, 0) := rfl
theorem zk_150_27 : zc 150 27 = some (.aload_n 0, 0, 0, 0, 0) := rfl
theorem zk_150_28 : zc 150 28 = some (.bipush 104, 0, 0, 0, 0) := rfl
theorem zk_150_30 : zc 150 30 = some (.invokevirtual 150, 149, 0, 2, 137) := rfl
theorem zk_150_33 : zc 150 33 = some (.ifCond .ne 23, 56, 0, 0, 0) := rfl
theorem zk_150_36 : zc 150 36 = some (.aload_n 0, 0, 0, 0, 0) := rfl
theorem zk_150_37 : zc 150 37 = some (.bipush 119, 0, 0, 0, 0) := rfl
theorem zk_150_39 : zc 150 39 = some (.invokevirtual 150, 149, 0, 2, 137) := rfl
theorem zk_150_42 : zc 150 42 = some (.ifCond .ne 14, 56, 0, 0, 0) := rfl
theorem zk_150_45 : zc 150 45 = some (.aload_n 0, 0, 0, 0, 0) := rfl
theorem zk_150_46 : zc 150 46 = some (.bipush 100, 0, 0, 0, 0) := rfl
theorem zk_150_48 : zc 150 48 = some (.invokevirtual 150, 149, 0, 2, 137) := rfl
theorem zk_150_51 : zc 150 51 = some (.ifCond .ne 5, 56, 0, 0, 0) := rfl
theorem zk_150_54 : zc 150 54 = some (.iconst 0, 0, 0, 0, 0) := rfl
theorem zk_150_55 : zc 150 55 = some (.ireturn, 0, 0, 0, 0) := rfl
theorem zk_150_56 : zc 150 56 = some (.bipush 50, 0, 0, 0, 0) := rfl
theorem zk_150_58 : zc 150 58 = some (.iload_n 1, 0, 0, 0, 0) := rfl
theorem zk_150_59 : zc 150 59 = some (.imul, 0, 0, 0, 0) := rfl
theorem zk_150_60 : zc 150 60 = some (.aload_n 0, 0, 0, 0, 0) := rfl
theorem zk_150_61 : zc 150 61 = some (.getfield 153, 11, 23, 0, 171) := rfl
theorem zk_150_64 : zc 150 64 = some (.iadd, 0, 0, 0, 0) := rfl
theorem zk_150_65 : zc 150 65 = some (.istore_n 2, 0, 0, 0, 0) := rfl
theorem zk_150_66 : zc 150 66 = some (.aload_n 0, 0, 0, 0, 0) := rfl
theorem zk_150_67 : zc 150 67 = some (.getfield 47, 11, 13, 0, 151) := rfl
theorem zk_150_70 : zc 150 70 = some (.iload_n 2, 0, 0, 0, 0) := rfl
theorem zk_150_71 : zc 150 71 = some (.aload_n 0, 0, 0, 0, 0) := rfl
theorem zk_150_72 : zc 150 72 = some (.invokevirtual 146, 148, 0, 1, 136) := rfl
theorem zk_150_75 : zc 150 75 = some (.iastore, 0, 0, 0, 0) := rfl
theorem zk_150_76 : zc 150 76 = some (.aload_n 0, 0, 0, 0, 0) := rfl
theorem zk_150_77 : zc 150 77 = some (.dup, 0, 0, 0, 0) := rfl
theorem zk_150_78 : zc 150 78 = some (.getfield 137, 11, 19, 0, 168) := rfl
theorem zk_150_81 : zc 150 81 = some (.iconst 1, 0, 0, 0, 0) := rfl
theorem zk_150_82 : zc 150 82 = some (.iadd, 0, 0, 0, 0) := rfl
theorem zk_150_83 : zc 150 83 = some (.putfield 137, 11, 19, 0, 168) := rfl
theorem zk_150_86 : zc 150 86 = some (.aload_n 0, 0, 0, 0, 0) := rfl
theorem zk_150_87 : zc 150 87 = some (.bipush 60, 0, 0, 0, 0) := rfl
theorem zk_150_89 : zc 150 89 = some (.invokevirtual 150, 149, 0, 2, 137) := rfl
theorem zk_150_92 : zc 150 92 = some (.ifCond .ne 23, 115, 0, 0, 0) := rfl
theorem zk_150_95 : zc 150 95 = some (.aload_n 0, 0, 0, 0, 0) := rfl
theorem zk_150_96 : zc 150 96 = some (.bipush 62, 0, 0, 0, 0) := rfl
theorem zk_150_98 : zc 150 98 = some (.invokevirtual 150, 149, 0, 2, 137) := rfl
theorem zk_150_101 : zc 150 101 = some (.ifCond .ne 14, 115, 0, 0, 0) := rfl
theorem zk_150_104 : zc 150 104 = some (.aload_n 0, 0, 0, 0, 0) := rfl
theorem zk_150_105 : zc 150 105 = some (.bipush 61, 0, 0, 0, 0) := rfl
theorem zk_150_107 : zc 150 107 = some (.invokevirtual 150, 149, 0, 2, 137) := rfl
theorem zk_150_110 : zc 150 110 = some (.ifCond .ne 5, 115, 0, 0, 0) := rfl
theorem zk_150_113 : zc 150 113 = some (.iconst 0, 0, 0, 0, 0) := rfl
theorem zk_150_114 : zc 150 114 = some (.ireturn, 0, 0, 0, 0) := rfl
theorem zk_150_115 : zc 150 115 = some (.aload_n 0, 0, 0, 0, 0) := rfl
theorem zk_150_116 : zc 150 116 = some (.getfield 50, 11, 14, 0, 152) := rfl
theorem zk_150_119 : zc 150 119 = some (.iload_n 2, 0, 0, 0, 0) := rfl
theorem zk_150_120 : zc 150 120 = some (.aload_n 0, 0, 0, 0, 0) := rfl
theorem zk_150_121 : zc 150 121 = some (.invokevirtual 146, 148, 0, 1, 136) := rfl
theorem zk_150_124 : zc 150 124 = some (.iastore, 0, 0, 0, 0) := rfl
theorem zk_150_125 : zc 150 125 = some (.aload_n 0, 0, 0, 0, 0) := rfl
theorem zk_150_126 : zc 150 126 = some (.dup, 0, 0, 0, 0) := rfl
theorem zk_150_127 : zc 150 127 = some (.getfield 137, 11, 19, 0, 168) := rfl
theorem zk_150_130 : zc 150 130 = some (.iconst 1, 0, 0, 0, 0) := rfl
theorem zk_150_131 : zc 150 131 = some (.iadd, 0, 0, 0, 0) := rfl
theorem zk_150_132 : zc 150 132 = some (.putfield 137, 11, 19, 0, 168) := rfl
theorem zk_150_135 : zc 150 135 = some (.iconst 0, 0, 0, 0, 0) := rfl
theorem zk_150_136 : zc 150 136 = some (.istore_n 3, 0, 0, 0, 0) := rfl
theorem zk_150_137 : zc 150 137 = some (.iconst 0, 0, 0, 0, 0) := rfl
theorem zk_150_138 : zc 150 138 = some (.istore 4, 0, 0, 0, 0) := rfl
theorem zk_150_140 : zc 150 140 = some (.aload_n 0, 0, 0, 0, 0) := rfl
theorem zk_150_141 : zc 150 141 = some (.getfield 137, 11, 19, 0, 168) := rfl
theorem zk_150_144 : zc 150 144 = some (.aload_n 0, 0, 0, 0, 0) := rfl
theorem zk_150_145 : zc 150 145 = some (.getfield 140, 11, 20, 0, 169) := rfl
theorem zk_150_148 : zc 150 148 = some (.if_icmp .ge 65, 213, 0, 0, 0) := rfl
theorem zk_150_151 : zc 150 151 = some (.aload_n 0, 0, 0, 0, 0) := rfl
theorem zk_150_152 : zc 150 152 = some (.invokevirtual 146, 148, 0, 1, 136) := rfl
theorem zk_150_155 : zc 150 155 = some (.bipush 48, 0, 0, 0, 0) := rfl
theorem zk_150_157 : zc 150 157 = some (.if_icmp .lt 56, 213, 0, 0, 0) := rfl
theorem zk_150_160 : zc 150 160 = some (.aload_n 0, 0, 0, 0, 0) := rfl
theorem zk_150_161 : zc 150 161 = some (.invokevirtual 146, 148, 0, 1, 136) := rfl
theorem zk_150_164 : zc 150 164 = some (.bipush 57, 0, 0, 0, 0) := rfl
theorem zk_150_166 : zc 150 166 = some (.if_icmp .gt 47, 213, 0, 0, 0) := rfl
theorem zk_150_169 : zc 150 169 = some (.iload 4, 0, 0, 0, 0) := rfl
theorem zk_150_171 : zc 150 171 = some (.iconst 3, 0, 0, 0, 0) := rfl
theorem zk_150_172 : zc 150 172 = some (.if_icmp .ge 41, 213, 0, 0, 0) := rfl
theorem zk_150_175 : zc 150 175 = some (.iload 4, 0, 0, 0, 0) := rfl
theorem zk_150_177 : zc 150 177 = some (.ifCond .le 7, 184, 0, 0, 0) := rfl
theorem zk_150_180 : zc 150 180 = some (.iload_n 3, 0, 0, 0, 0) := rfl
theorem zk_150_181 : zc 150 181 = some (.ifCond .eq 32, 213, 0, 0, 0) := rfl
theorem zk_150_184 : zc 150 184 = some (.bipush 10, 0, 0, 0, 0) := rfl
theorem zk_150_186 : zc 150 186 = some (.iload_n 3, 0, 0, 0, 0) := rfl
theorem zk_150_187 : zc 150 187 = some (.imul, 0, 0, 0, 0) := rfl
theorem zk_150_188 : zc 150 188 = some (.aload_n 0, 0, 0, 0, 0) := rfl
theorem zk_150_189 : zc 150 189 = some (.invokevirtual 146, 148, 0, 1, 136) := rfl
theorem zk_150_192 : zc 150 192 = some (.iadd, 0, 0, 0, 0) := rfl
theorem zk_150_193 : zc 150 193 = some (.bipush 48, 0, 0, 0, 0) := rfl
theorem zk_150_195 : zc 150 195 = some (.isub, 0, 0, 0, 0) := rfl
theorem zk_150_196 : zc 150 196 = some (.istore_n 3, 0, 0, 0, 0) := rfl
theorem zk_150_197 : zc 150 197 = some (.iinc 4 1, 0, 0, 0, 0) := rfl
theorem zk_150_200 : zc 150 200 = some (.aload_n 0, 0, 0, 0, 0) := rfl
theorem zk_150_201 : zc 150 201 = some (.dup, 0, 0, 0, 0) := rfl
theorem zk_150_202 : zc 150 202 = some (.getfield 137, 11, 19, 0, 168) := rfl
theorem zk_150_205 : zc 150 205 = some (.iconst 1, 0, 0, 0, 0) := rfl
theorem zk_150_206 : zc 150 206 = some (.iadd, 0, 0, 0, 0) := rfl
theorem zk_150_207 : zc 150 207 = some (.putfield 137, 11, 19, 0, 168) := rfl
theorem zk_150_210 : zc 150 210 = some (.goto (-70), 140, 0, 0, 0) := rfl
theorem zk_150_213 : zc 150 213 = some (.iload 4, 0, 0, 0, 0) := rfl
theorem zk_150_215 : zc 150 215 = some (.ifCond .ne 5, 220, 0, 0, 0) := rfl
theorem zk_150_218 : zc 150 218 = some (.iconst 0, 0, 0, 0, 0) := rfl
theorem zk_150_219 : zc 150 219 = some (.ireturn, 0, 0, 0, 0) := rfl
theorem zk_150_220 : zc 150 220 = some (.aload_n 0, 0, 0, 0, 0) := rfl
theorem zk_150_221 : zc 150 221 = some (.getfield 53, 11, 15, 0, 153) := rfl
theorem zk_150_224 : zc 150 224 = some (.iload_n 2, 0, 0, 0, 0) := rfl
theorem zk_150_225 : zc 150 225 = some (.iload_n 3, 0, 0, 0, 0) := rfl
theorem zk_150_226 : zc 150 226 = some (.iastore, 0, 0, 0, 0) := rfl
theorem zk_150_227 : zc 150 227 = some (.aload_n 0, 0, 0, 0, 0) := rfl
theorem zk_150_228 : zc 150 228 = some (.dup, 0, 0, 0, 0) := rfl
theorem zk_150_229 : zc 150 229 = some (.getfield 153, 11, 23, 0, 171) := rfl
theorem zk_150_232 : zc 150 232 = some (.iconst 1, 0, 0, 0, 0) := rfl
theorem zk_150_233 : zc 150 233 = some (.iadd, 0, 0, 0, 0) := rfl
theorem zk_150_234 : zc 150 234 = some (.putfield 153, 11, 23, 0, 171) := rfl
theorem zk_150_237 : zc 150 237 = some (.iconst 1, 0, 0, 0, 0) := rfl
theorem zk_150_238 : zc 150 238 = some (.ireturn, 0, 0, 0, 0) := rfl
def MRd (t i k j : Nat) : Prop := (46 ≤ t ∧ t ≤ 48) ∨ (t = 35 ∧ (j = 19 ∨ j = 23))
theorem nMRd { t i k j : Nat} (hb : decide (((46 ≤ t ∧ t ≤ 48) ∨ (t = 35 ∧ (j = 19 ∨ j = 23)))) = false) : ¬ MRd  t i k j := fun h => of_decide_eq_false hb (by unfold MRd at h; omega)
theorem pMRd { t i k j : Nat} (hb : decide (((46 ≤ t ∧ t ≤ 48) ∨ (t = 35 ∧ (j = 19 ∨ j = 23)))) = true) : MRd  t i k j := by
  have h := of_decide_eq_true hb
  unfold MRd
  omega
/-- WModel.letter -/
theorem m_148 {xs : Nat × (Nat → Int32)}  (a : Int) (m : Int) (b : Int) (ha : 0 ≤ a ∧ a ≤ 96) (hm : 0 ≤ m ∧ m ≤ 96) (hb : 0 ≤ b ∧ b ≤ 672) (σ : ZS) (hI : Inv σ)  (s1 : σ 35 0 0 19 = a) (s2 : σ 35 0 0 20 = m) (s3 : σ 35 0 0 21 = b) : CT xs 1 148 [av 35 0 0] σ (fun v σ' => ∃ y, v = some (iv y) ∧ (-2147483648 ≤ y ∧ y ≤ 2147483647) ∧ IF MN σ σ' ∧ (True)) := by
  refine G_ct (J := (fun σ' => IF MN σ σ' ∧ True)) (L := [(0, av 35 0 0)]) (nL := 1) rfl rfl rfl ⟨IF.rf hI, trivial⟩ ?_
  refine T_ld zk_148_0 rfl rfl rfl (pc' := 1) rfl ?_
  refine G_getX (w := a) zk_148_1 rfl vd_35 (fun σ' h => (h.1.2 _ _ _ _ (fun q => q)).trans s1) (pc' := 4) rfl ?_
  refine T_ld zk_148_4 rfl rfl rfl (pc' := 5) rfl ?_
  refine G_getX (w := m) zk_148_5 rfl vd_35 (fun σ' h => (h.1.2 _ _ _ _ (fun q => q)).trans s2) (pc' := 8) rfl ?_
  refine T_icmp_ge zk_148_8 (by omega) (by omega) (pc' := 11) rfl (fun h1 => ?_) (fun h2 => ?_)
  ·
    refine T_op zk_148_29 rfl X_ic (pc' := 30) rfl ?_
    exact T_iret zk_148_30 rfl (fun σ' h => ⟨_, rfl, (by omega), h.1, trivial⟩)
  ·
    refine T_ld zk_148_11 rfl rfl rfl (pc' := 12) rfl ?_
    refine T_getR (t' := 41) (i' := 0) (k' := 0) zk_148_12 rfl rfl rfl vd_35 (pc' := 15) rfl ?_
    refine T_ld zk_148_15 rfl rfl rfl (pc' := 16) rfl ?_
    refine G_getX (w := b) zk_148_16 rfl vd_35 (fun σ' h => (h.1.2 _ _ _ _ (fun q => q)).trans s3) (pc' := 19) rfl ?_
    refine T_ld zk_148_19 rfl rfl rfl (pc' := 20) rfl ?_
    refine G_getX (w := a) zk_148_20 rfl vd_35 (fun σ' h => (h.1.2 _ _ _ _ (fun q => q)).trans s1) (pc' := 23) rfl ?_
    refine T_op zk_148_23 rfl X_add (pc' := 24) rfl ?_
    refine G_lald (ln := 768) zk_148_24 rfl rfl vd_41 (by omega) (by omega) (by omega) (pc' := 25) rfl (fun y3 => ?_)
    refine T_l2iU zk_148_25 (fun y4 hy4 hy4' _ => ?_)
    refine T_goto zk_148_26 ?_
    exact T_iret zk_148_30 rfl (fun σ' h => ⟨_, rfl, (by omega), h.1, trivial⟩)
/-- WModel.is -/
theorem m_149 {xs : Nat × (Nat → Int32)} (p0 : Int) (a : Int) (m : Int) (b : Int) (hp0 : -2147483648 ≤ p0 ∧ p0 ≤ 2147483647) (ha : 0 ≤ a ∧ a ≤ 96) (hm : 0 ≤ m ∧ m ≤ 96) (hb : 0 ≤ b ∧ b ≤ 672) (σ : ZS) (hI : Inv σ)  (s1 : σ 35 0 0 19 = a) (s2 : σ 35 0 0 20 = m) (s3 : σ 35 0 0 21 = b) : CT xs 2 149 [av 35 0 0, iv p0] σ (fun v σ' => ∃ y, v = some (iv y) ∧ (y = 0 ∨ (y = 1 ∧ a < m)) ∧ IF MN σ σ' ∧ (True)) := by
  refine G_ct (J := (fun σ' => IF MN σ σ' ∧ True)) (L := [(0, av 35 0 0), (1, iv p0)]) (nL := 2) rfl rfl rfl ⟨IF.rf hI, trivial⟩ ?_
  refine T_ld zk_149_0 rfl rfl rfl (pc' := 1) rfl ?_
  refine G_getX (w := a) zk_149_1 rfl vd_35 (fun σ' h => (h.1.2 _ _ _ _ (fun q => q)).trans s1) (pc' := 4) rfl ?_
  refine T_ld zk_149_4 rfl rfl rfl (pc' := 5) rfl ?_
  refine G_getX (w := m) zk_149_5 rfl vd_35 (fun σ' h => (h.1.2 _ _ _ _ (fun q => q)).trans s2) (pc' := 8) rfl ?_
  refine T_icmp_ge zk_149_8 (by omega) (by omega) (pc' := 11) rfl (fun h1 => ?_) (fun h2 => ?_)
  ·
    refine T_op zk_149_23 rfl X_ic (pc' := 24) rfl ?_
    exact T_zret zk_149_24 rfl (by omega) (fun σ' h => ⟨_, rfl, (by omega), h.1, trivial⟩)
  ·
    refine T_ld zk_149_11 rfl rfl rfl (pc' := 12) rfl ?_
    refine T_calli (K := fun y3 σ' => (-2147483648 ≤ y3 ∧ y3 ≤ 2147483647) ∧ (fun σ' => IF MN σ σ' ∧ True) σ') (r := []) zk_149_12 rfl rfl rfl rfl rfl rfl (Or.inr ⟨_, _, _, _, rfl, vd_35, rfl⟩) (fun σ' h => (m_148 a m b (by omega) (by omega) (by omega) σ' h.1.1 ((h.1.2 _ _ _ _ (fun q => q)).trans s1) ((h.1.2 _ _ _ _ (fun q => q)).trans s2) ((h.1.2 _ _ _ _ (fun q => q)).trans s3)).le (Nat.le_of_ble_eq_true rfl) (fun v σ2 ⟨y, h1, h2, h3, h4⟩ => ⟨y, h1, h2, h.1.tr h3 MN_sub, trivial⟩)) (pc' := 15) rfl (fun y3 => ?_)
    refine G_ex (fun hy3 => ?_)
    refine T_ld zk_149_15 rfl rfl rfl (pc' := 16) rfl ?_
    refine T_icmp_ne zk_149_16 (by omega) (by omega) (pc' := 19) rfl (fun h4 => ?_) (fun h5 => ?_)
    ·
      refine T_op zk_149_23 rfl X_ic (pc' := 24) rfl ?_
      exact T_zret zk_149_24 rfl (by omega) (fun σ' h => ⟨_, rfl, (by omega), h.1, trivial⟩)
    ·
      refine T_op zk_149_19 rfl X_ic (pc' := 20) rfl ?_
      refine T_goto zk_149_20 ?_
      exact T_zret zk_149_24 rfl (by omega) (fun σ' h => ⟨_, rfl, (by omega), h.1, trivial⟩)
/-- WModel.reads -/
theorem m_150 {xs : Nat × (Nat → Int32)} (p0 : Int) (a : Int) (m : Int) (b : Int) (t0 : Int) (hp0 : 0 ≤ p0 ∧ p0 ≤ 5) (ha : 0 ≤ a ∧ a ≤ 96) (hm : 0 ≤ m ∧ m ≤ 96) (hb : 0 ≤ b ∧ b ≤ 672) (ht0 : 0 ≤ t0 ∧ t0 ≤ 31) (σ : ZS) (hI : Inv σ)  (s1 : σ 35 0 0 19 = a) (s2 : σ 35 0 0 20 = m) (s3 : σ 35 0 0 21 = b) (s4 : σ 35 0 0 23 = t0) : CT xs 3 150 [av 35 0 0, iv p0] σ (fun v σ' => ∃ y, v = some (iv y) ∧ (y = 0 ∨ y = 1) ∧ IF MRd σ σ' ∧ ((a ≤ σ' 35 0 0 19 ∧ σ' 35 0 0 19 ≤ 96 ∧ (a ≤ m → σ' 35 0 0 19 ≤ m) ∧ (y = 1 → a + 3 ≤ σ' 35 0 0 19)) ∧ (y = 1 → σ' 35 0 0 23 = t0 + 1) ∧ True)) := by
  refine G_ct (J := (fun σ' => IF MRd σ σ' ∧ σ' 35 0 0 19 = a ∧ σ' 35 0 0 23 = t0 ∧ True)) (L := [(0, av 35 0 0), (1, iv p0)]) (nL := 5) rfl rfl rfl ⟨IF.rf hI, s1, s4, trivial⟩ ?_
  refine T_joinP (a < m) (fun q => TJ xs (fun σ' => IF MRd σ σ' ∧ σ' 35 0 0 19 = a ∧ σ' 35 0 0 23 = t0 ∧ True) 2 150 56 [(0, av 35 0 0), (1, iv p0)] [] q) ?_ (fun hj1 => ?_)
  ·
    intro hp2
    refine T_op zk_150_56 rfl (X_bi (v := 50) (by decide)) (pc' := 58) rfl ?_
    refine T_ld zk_150_58 rfl rfl rfl (pc' := 59) rfl ?_
    refine T_op zk_150_59 rfl X_mul (pc' := 60) rfl ?_
    refine T_ld zk_150_60 rfl rfl rfl (pc' := 61) rfl ?_
    refine G_getX (w := t0) zk_150_61 rfl vd_35 (fun σ' h => h.2.2.1) (pc' := 64) rfl ?_
    refine T_op zk_150_64 rfl X_add (pc' := 65) rfl ?_
    refine T_st (L' := [(0, av 35 0 0), (1, iv p0), (2, iv (50 * p0 + t0))]) zk_150_65 (nL := 5) rfl rfl rfl rfl rfl (pc' := 66) rfl ?_
    refine T_ld zk_150_66 rfl rfl rfl (pc' := 67) rfl ?_
    refine T_getR (t' := 46) (i' := 0) (k' := 0) zk_150_67 rfl rfl rfl vd_35 (pc' := 70) rfl ?_
    refine T_ld zk_150_70 rfl rfl rfl (pc' := 71) rfl ?_
    refine T_ld zk_150_71 rfl rfl rfl (pc' := 72) rfl ?_
    refine T_calli (K := fun y3 σ' => (-2147483648 ≤ y3 ∧ y3 ≤ 2147483647) ∧ (fun σ' => IF MRd σ σ' ∧ σ' 35 0 0 19 = a ∧ σ' 35 0 0 23 = t0 ∧ True) σ') (r := [iv (50 * p0 + t0), av 46 0 0]) zk_150_72 rfl rfl rfl rfl rfl rfl (Or.inr ⟨_, _, _, _, rfl, vd_35, rfl⟩) (fun σ' h => (m_148 a m b (by omega) (by omega) (by omega) σ' h.1.1 (h.2.1) ((h.1.2 _ _ _ _ (by first | exact nMRd rfl | (unfold MRd; omega))).trans s2) ((h.1.2 _ _ _ _ (by first | exact nMRd rfl | (unfold MRd; omega))).trans s3)).le (Nat.le_of_ble_eq_true rfl) (fun v σ2 ⟨y, h1, h2, h3, h4⟩ => ⟨y, h1, h2, h.1.tr h3 MN_sub, (h3.2 _ _ _ _ (fun q => q)).trans (h.2.1), (h3.2 _ _ _ _ (fun q => q)).trans (h.2.2.1), trivial⟩)) (pc' := 75) rfl (fun y3 => ?_)
    refine G_ex (fun hy3 => ?_)
    refine G_iast (J' := (fun σ' => IF MRd σ σ' ∧ σ' 35 0 0 19 = a ∧ σ' 35 0 0 23 = t0 ∧ True)) (ln := 300) zk_150_75 rfl rfl vd_46 (by omega) (by omega) (by omega) (fun σ' h => ⟨h.1.up ⟨by omega, trivial⟩ (by first | exact pMRd rfl | (unfold MRd; omega)), (up_ne (by omega)).trans (h.2.1), (up_ne (by omega)).trans (h.2.2.1), trivial⟩) (pc' := 76) rfl ?_
    refine T_ld zk_150_76 rfl rfl rfl (pc' := 77) rfl ?_
    refine T_op (st' := [av 35 0 0, av 35 0 0]) zk_150_77 rfl rfl (pc' := 78) rfl ?_
    refine G_getX (w := a) zk_150_78 rfl vd_35 (fun σ' h => h.2.1) (pc' := 81) rfl ?_
    refine T_op zk_150_81 rfl X_ic (pc' := 82) rfl ?_
    refine T_op zk_150_82 rfl X_add (pc' := 83) rfl ?_
    refine T_putf (J' := (fun σ' => IF MRd σ σ' ∧ σ' 35 0 0 23 = t0 ∧ σ' 35 0 0 19 = a + 1 ∧ True)) zk_150_83 rfl rfl vd_35 (fun σ' h => ⟨h.1.up (by simp only [rgP] <;> omega) (by first | exact pMRd rfl | (unfold MRd; omega)), (up_ne (by omega)).trans (h.2.2.1), up_eq, trivial⟩) (pc' := 86) rfl ?_
    refine T_joinP (a + 1 < m) (fun q => TJ xs (fun σ' => IF MRd σ σ' ∧ σ' 35 0 0 23 = t0 ∧ σ' 35 0 0 19 = a + 1 ∧ True) 2 150 115 [(0, av 35 0 0), (1, iv p0), (2, iv (50 * p0 + t0))] [] q) ?_ (fun hj4 => ?_)
    ·
      intro hp5
      refine T_ld zk_150_115 rfl rfl rfl (pc' := 116) rfl ?_
      refine T_getR (t' := 47) (i' := 0) (k' := 0) zk_150_116 rfl rfl rfl vd_35 (pc' := 119) rfl ?_
      refine T_ld zk_150_119 rfl rfl rfl (pc' := 120) rfl ?_
      refine T_ld zk_150_120 rfl rfl rfl (pc' := 121) rfl ?_
      refine T_calli (K := fun y6 σ' => (-2147483648 ≤ y6 ∧ y6 ≤ 2147483647) ∧ (fun σ' => IF MRd σ σ' ∧ σ' 35 0 0 23 = t0 ∧ σ' 35 0 0 19 = a + 1 ∧ True) σ') (r := [iv (50 * p0 + t0), av 47 0 0]) zk_150_121 rfl rfl rfl rfl rfl rfl (Or.inr ⟨_, _, _, _, rfl, vd_35, rfl⟩) (fun σ' h => (m_148 (a + 1) m b (by omega) (by omega) (by omega) σ' h.1.1 (h.2.2.1) ((h.1.2 _ _ _ _ (by first | exact nMRd rfl | (unfold MRd; omega))).trans s2) ((h.1.2 _ _ _ _ (by first | exact nMRd rfl | (unfold MRd; omega))).trans s3)).le (Nat.le_of_ble_eq_true rfl) (fun v σ2 ⟨y, h1, h2, h3, h4⟩ => ⟨y, h1, h2, h.1.tr h3 MN_sub, (h3.2 _ _ _ _ (fun q => q)).trans (h.2.1), (h3.2 _ _ _ _ (fun q => q)).trans (h.2.2.1), trivial⟩)) (pc' := 124) rfl (fun y6 => ?_)
      refine G_ex (fun hy6 => ?_)
      refine G_iast (J' := (fun σ' => IF MRd σ σ' ∧ σ' 35 0 0 23 = t0 ∧ σ' 35 0 0 19 = a + 1 ∧ True)) (ln := 300) zk_150_124 rfl rfl vd_47 (by omega) (by omega) (by omega) (fun σ' h => ⟨h.1.up ⟨by omega, trivial⟩ (by first | exact pMRd rfl | (unfold MRd; omega)), (up_ne (by omega)).trans (h.2.1), (up_ne (by omega)).trans (h.2.2.1), trivial⟩) (pc' := 125) rfl ?_
      refine T_ld zk_150_125 rfl rfl rfl (pc' := 126) rfl ?_
      refine T_op (st' := [av 35 0 0, av 35 0 0]) zk_150_126 rfl rfl (pc' := 127) rfl ?_
      refine G_getX (w := a + 1) zk_150_127 rfl vd_35 (fun σ' h => h.2.2.1) (pc' := 130) rfl ?_
      refine T_op zk_150_130 rfl X_ic (pc' := 131) rfl ?_
      refine T_op zk_150_131 rfl X_add (pc' := 132) rfl ?_
      refine T_putf (J' := (fun σ' => IF MRd σ σ' ∧ σ' 35 0 0 23 = t0 ∧ σ' 35 0 0 19 = a + 1 + 1 ∧ True)) zk_150_132 rfl rfl vd_35 (fun σ' h => ⟨h.1.up (by simp only [rgP] <;> omega) (by first | exact pMRd rfl | (unfold MRd; omega)), (up_ne (by omega)).trans (h.2.1), up_eq, trivial⟩) (pc' := 135) rfl ?_
      refine T_op zk_150_135 rfl X_ic (pc' := 136) rfl ?_
      refine T_st (L' := [(0, av 35 0 0), (1, iv p0), (2, iv (50 * p0 + t0)), (3, iv 0)]) zk_150_136 (nL := 5) rfl rfl rfl rfl rfl (pc' := 137) rfl ?_
      refine T_op zk_150_137 rfl X_ic (pc' := 138) rfl ?_
      refine T_st (L' := [(0, av 35 0 0), (1, iv p0), (2, iv (50 * p0 + t0)), (3, iv 0), (4, iv 0)]) zk_150_138 (nL := 5) rfl rfl rfl rfl rfl (pc' := 140) rfl ?_
      refine G_know (J' := (fun σ' => IF MRd σ σ' ∧ σ' 35 0 0 19 = (a + 1 + 1) ∧ σ' 35 0 0 20 = m ∧ σ' 35 0 0 21 = b ∧ σ' 35 0 0 23 = t0 ∧ True)) (fun σ' h => ⟨h.1, (h.2.2.1).trans (by omega), (h.1.2 _ _ _ _ (by first | exact nMRd rfl | (unfold MRd; omega))).trans s2, (h.1.2 _ _ _ _ (by first | exact nMRd rfl | (unfold MRd; omega))).trans s3, h.2.1, trivial⟩) ?_
      refine T_loop3 (fun x7 x8 x9 => ((96 - x9 : Int)).toNat) (fun x7 x8 x9 => (-2147483648 ≤ x7 ∧ x7 ≤ 2147483647) ∧ (0 ≤ x8 ∧ x8 ≤ 3) ∧ (0 ≤ x9 ∧ x9 ≤ 96) ∧ a + 2 + x8 = x9 ∧ x9 ≤ m) (fun x7 x8 x9 => TJ xs (fun σ' => IF MRd σ σ' ∧ σ' 35 0 0 19 = x9 ∧ σ' 35 0 0 20 = m ∧ σ' 35 0 0 21 = b ∧ σ' 35 0 0 23 = t0 ∧ True) 2 150 140 [(0, av 35 0 0), (1, iv p0), (2, iv (50 * p0 + t0)), (3, iv x7), (4, iv x8)] [] _) ?_ 0 0 (a + 1 + 1) (by omega)
      intro x7 x8 x9 hp11 ih10
      refine T_ld zk_150_140 rfl rfl rfl (pc' := 141) rfl ?_
      refine G_getX (w := x9) zk_150_141 rfl vd_35 (fun σ' h => h.2.1) (pc' := 144) rfl ?_
      refine T_ld zk_150_144 rfl rfl rfl (pc' := 145) rfl ?_
      refine G_getX (w := m) zk_150_145 rfl vd_35 (fun σ' h => h.2.2.1) (pc' := 148) rfl ?_
      refine T_icmp_ge zk_150_148 (by omega) (by omega) (pc' := 151) rfl (fun h12 => ?_) (fun h13 => ?_)
      ·
        refine T_ld zk_150_213 rfl rfl rfl (pc' := 215) rfl ?_
        refine T_if_ne zk_150_215 (by omega) (pc' := 218) rfl (fun h14 => ?_) (fun h15 => ?_)
        ·
          refine T_ld zk_150_220 rfl rfl rfl (pc' := 221) rfl ?_
          refine T_getR (t' := 48) (i' := 0) (k' := 0) zk_150_221 rfl rfl rfl vd_35 (pc' := 224) rfl ?_
          refine T_ld zk_150_224 rfl rfl rfl (pc' := 225) rfl ?_
          refine T_ld zk_150_225 rfl rfl rfl (pc' := 226) rfl ?_
          refine G_iast (J' := (fun σ' => IF MRd σ σ' ∧ σ' 35 0 0 19 = x9 ∧ σ' 35 0 0 20 = m ∧ σ' 35 0 0 21 = b ∧ σ' 35 0 0 23 = t0 ∧ True)) (ln := 300) zk_150_226 rfl rfl vd_48 (by omega) (by omega) (by omega) (fun σ' h => ⟨h.1.up ⟨by omega, trivial⟩ (by first | exact pMRd rfl | (unfold MRd; omega)), (up_ne (by omega)).trans (h.2.1), (up_ne (by omega)).trans (h.2.2.1), (up_ne (by omega)).trans (h.2.2.2.1), (up_ne (by omega)).trans (h.2.2.2.2.1), trivial⟩) (pc' := 227) rfl ?_
          refine T_ld zk_150_227 rfl rfl rfl (pc' := 228) rfl ?_
          refine T_op (st' := [av 35 0 0, av 35 0 0]) zk_150_228 rfl rfl (pc' := 229) rfl ?_
          refine G_getX (w := t0) zk_150_229 rfl vd_35 (fun σ' h => h.2.2.2.2.1) (pc' := 232) rfl ?_
          refine T_op zk_150_232 rfl X_ic (pc' := 233) rfl ?_
          refine T_op zk_150_233 rfl X_add (pc' := 234) rfl ?_
          refine T_putf (J' := (fun σ' => IF MRd σ σ' ∧ σ' 35 0 0 19 = x9 ∧ σ' 35 0 0 20 = m ∧ σ' 35 0 0 21 = b ∧ σ' 35 0 0 23 = t0 + 1 ∧ True)) zk_150_234 rfl rfl vd_35 (fun σ' h => ⟨h.1.up (by simp only [rgP] <;> omega) (by first | exact pMRd rfl | (unfold MRd; omega)), (up_ne (by omega)).trans (h.2.1), (up_ne (by omega)).trans (h.2.2.1), (up_ne (by omega)).trans (h.2.2.2.1), up_eq, trivial⟩) (pc' := 237) rfl ?_
          refine T_op zk_150_237 rfl X_ic (pc' := 238) rfl ?_
          exact T_zret zk_150_238 rfl (by omega) (fun σ' h => ⟨_, rfl, (by omega), h.1, ⟨(by have e := h.2.1; omega), (by have e := h.2.2.2.2.1; omega), trivial⟩⟩)
        ·
          refine T_op zk_150_218 rfl X_ic (pc' := 219) rfl ?_
          exact T_zret zk_150_219 rfl (by omega) (fun σ' h => ⟨_, rfl, (by omega), h.1, ⟨(by have e := h.2.1; omega), (by have e := h.2.2.2.2.1; omega), trivial⟩⟩)
      ·
        refine T_ld zk_150_151 rfl rfl rfl (pc' := 152) rfl ?_
        refine T_calli (K := fun y16 σ' => (-2147483648 ≤ y16 ∧ y16 ≤ 2147483647) ∧ (fun σ' => IF MRd σ σ' ∧ σ' 35 0 0 19 = x9 ∧ σ' 35 0 0 20 = m ∧ σ' 35 0 0 21 = b ∧ σ' 35 0 0 23 = t0 ∧ True) σ') (r := []) zk_150_152 rfl rfl rfl rfl rfl rfl (Or.inr ⟨_, _, _, _, rfl, vd_35, rfl⟩) (fun σ' h => (m_148 x9 m b (by omega) (by omega) (by omega) σ' h.1.1 (h.2.1) (h.2.2.1) (h.2.2.2.1)).le (Nat.le_of_ble_eq_true rfl) (fun v σ2 ⟨y, h1, h2, h3, h4⟩ => ⟨y, h1, h2, h.1.tr h3 MN_sub, (h3.2 _ _ _ _ (fun q => q)).trans (h.2.1), (h3.2 _ _ _ _ (fun q => q)).trans (h.2.2.1), (h3.2 _ _ _ _ (fun q => q)).trans (h.2.2.2.1), (h3.2 _ _ _ _ (fun q => q)).trans (h.2.2.2.2.1), trivial⟩)) (pc' := 155) rfl (fun y16 => ?_)
        refine G_ex (fun hy16 => ?_)
        refine T_op zk_150_155 rfl (X_bi (v := 48) (by decide)) (pc' := 157) rfl ?_
        refine T_icmp_lt zk_150_157 (by omega) (by omega) (pc' := 160) rfl (fun h17 => ?_) (fun h18 => ?_)
        ·
          refine T_ld zk_150_213 rfl rfl rfl (pc' := 215) rfl ?_
          refine T_if_ne zk_150_215 (by omega) (pc' := 218) rfl (fun h19 => ?_) (fun h20 => ?_)
          ·
            refine T_ld zk_150_220 rfl rfl rfl (pc' := 221) rfl ?_
            refine T_getR (t' := 48) (i' := 0) (k' := 0) zk_150_221 rfl rfl rfl vd_35 (pc' := 224) rfl ?_
            refine T_ld zk_150_224 rfl rfl rfl (pc' := 225) rfl ?_
            refine T_ld zk_150_225 rfl rfl rfl (pc' := 226) rfl ?_
            refine G_iast (J' := (fun σ' => IF MRd σ σ' ∧ σ' 35 0 0 19 = x9 ∧ σ' 35 0 0 20 = m ∧ σ' 35 0 0 21 = b ∧ σ' 35 0 0 23 = t0 ∧ True)) (ln := 300) zk_150_226 rfl rfl vd_48 (by omega) (by omega) (by omega) (fun σ' h => ⟨h.1.up ⟨by omega, trivial⟩ (by first | exact pMRd rfl | (unfold MRd; omega)), (up_ne (by omega)).trans (h.2.1), (up_ne (by omega)).trans (h.2.2.1), (up_ne (by omega)).trans (h.2.2.2.1), (up_ne (by omega)).trans (h.2.2.2.2.1), trivial⟩) (pc' := 227) rfl ?_
            refine T_ld zk_150_227 rfl rfl rfl (pc' := 228) rfl ?_
            refine T_op (st' := [av 35 0 0, av 35 0 0]) zk_150_228 rfl rfl (pc' := 229) rfl ?_
            refine G_getX (w := t0) zk_150_229 rfl vd_35 (fun σ' h => h.2.2.2.2.1) (pc' := 232) rfl ?_
            refine T_op zk_150_232 rfl X_ic (pc' := 233) rfl ?_
            refine T_op zk_150_233 rfl X_add (pc' := 234) rfl ?_
            refine T_putf (J' := (fun σ' => IF MRd σ σ' ∧ σ' 35 0 0 19 = x9 ∧ σ' 35 0 0 20 = m ∧ σ' 35 0 0 21 = b ∧ σ' 35 0 0 23 = t0 + 1 ∧ True)) zk_150_234 rfl rfl vd_35 (fun σ' h => ⟨h.1.up (by simp only [rgP] <;> omega) (by first | exact pMRd rfl | (unfold MRd; omega)), (up_ne (by omega)).trans (h.2.1), (up_ne (by omega)).trans (h.2.2.1), (up_ne (by omega)).trans (h.2.2.2.1), up_eq, trivial⟩) (pc' := 237) rfl ?_
            refine T_op zk_150_237 rfl X_ic (pc' := 238) rfl ?_
            exact T_zret zk_150_238 rfl (by omega) (fun σ' h => ⟨_, rfl, (by omega), h.1, ⟨(by have e := h.2.1; omega), (by have e := h.2.2.2.2.1; omega), trivial⟩⟩)
          ·
            refine T_op zk_150_218 rfl X_ic (pc' := 219) rfl ?_
            exact T_zret zk_150_219 rfl (by omega) (fun σ' h => ⟨_, rfl, (by omega), h.1, ⟨(by have e := h.2.1; omega), (by have e := h.2.2.2.2.1; omega), trivial⟩⟩)
        ·
          refine T_ld zk_150_160 rfl rfl rfl (pc' := 161) rfl ?_
          refine T_calli (K := fun y21 σ' => (-2147483648 ≤ y21 ∧ y21 ≤ 2147483647) ∧ (fun σ' => IF MRd σ σ' ∧ σ' 35 0 0 19 = x9 ∧ σ' 35 0 0 20 = m ∧ σ' 35 0 0 21 = b ∧ σ' 35 0 0 23 = t0 ∧ True) σ') (r := []) zk_150_161 rfl rfl rfl rfl rfl rfl (Or.inr ⟨_, _, _, _, rfl, vd_35, rfl⟩) (fun σ' h => (m_148 x9 m b (by omega) (by omega) (by omega) σ' h.1.1 (h.2.1) (h.2.2.1) (h.2.2.2.1)).le (Nat.le_of_ble_eq_true rfl) (fun v σ2 ⟨y, h1, h2, h3, h4⟩ => ⟨y, h1, h2, h.1.tr h3 MN_sub, (h3.2 _ _ _ _ (fun q => q)).trans (h.2.1), (h3.2 _ _ _ _ (fun q => q)).trans (h.2.2.1), (h3.2 _ _ _ _ (fun q => q)).trans (h.2.2.2.1), (h3.2 _ _ _ _ (fun q => q)).trans (h.2.2.2.2.1), trivial⟩)) (pc' := 164) rfl (fun y21 => ?_)
          refine G_ex (fun hy21 => ?_)
          refine T_op zk_150_164 rfl (X_bi (v := 57) (by decide)) (pc' := 166) rfl ?_
          refine T_icmp_gt zk_150_166 (by omega) (by omega) (pc' := 169) rfl (fun h22 => ?_) (fun h23 => ?_)
          ·
            refine T_ld zk_150_213 rfl rfl rfl (pc' := 215) rfl ?_
            refine T_if_ne zk_150_215 (by omega) (pc' := 218) rfl (fun h24 => ?_) (fun h25 => ?_)
            ·
              refine T_ld zk_150_220 rfl rfl rfl (pc' := 221) rfl ?_
              refine T_getR (t' := 48) (i' := 0) (k' := 0) zk_150_221 rfl rfl rfl vd_35 (pc' := 224) rfl ?_
              refine T_ld zk_150_224 rfl rfl rfl (pc' := 225) rfl ?_
              refine T_ld zk_150_225 rfl rfl rfl (pc' := 226) rfl ?_
              refine G_iast (J' := (fun σ' => IF MRd σ σ' ∧ σ' 35 0 0 19 = x9 ∧ σ' 35 0 0 20 = m ∧ σ' 35 0 0 21 = b ∧ σ' 35 0 0 23 = t0 ∧ True)) (ln := 300) zk_150_226 rfl rfl vd_48 (by omega) (by omega) (by omega) (fun σ' h => ⟨h.1.up ⟨by omega, trivial⟩ (by first | exact pMRd rfl | (unfold MRd; omega)), (up_ne (by omega)).trans (h.2.1), (up_ne (by omega)).trans (h.2.2.1), (up_ne (by omega)).trans (h.2.2.2.1), (up_ne (by omega)).trans (h.2.2.2.2.1), trivial⟩) (pc' := 227) rfl ?_
              refine T_ld zk_150_227 rfl rfl rfl (pc' := 228) rfl ?_
              refine T_op (st' := [av 35 0 0, av 35 0 0]) zk_150_228 rfl rfl (pc' := 229) rfl ?_
              refine G_getX (w := t0) zk_150_229 rfl vd_35 (fun σ' h => h.2.2.2.2.1) (pc' := 232) rfl ?_
              refine T_op zk_150_232 rfl X_ic (pc' := 233) rfl ?_
              refine T_op zk_150_233 rfl X_add (pc' := 234) rfl ?_
              refine T_putf (J' := (fun σ' => IF MRd σ σ' ∧ σ' 35 0 0 19 = x9 ∧ σ' 35 0 0 20 = m ∧ σ' 35 0 0 21 = b ∧ σ' 35 0 0 23 = t0 + 1 ∧ True)) zk_150_234 rfl rfl vd_35 (fun σ' h => ⟨h.1.up (by simp only [rgP] <;> omega) (by first | exact pMRd rfl | (unfold MRd; omega)), (up_ne (by omega)).trans (h.2.1), (up_ne (by omega)).trans (h.2.2.1), (up_ne (by omega)).trans (h.2.2.2.1), up_eq, trivial⟩) (pc' := 237) rfl ?_
              refine T_op zk_150_237 rfl X_ic (pc' := 238) rfl ?_
              exact T_zret zk_150_238 rfl (by omega) (fun σ' h => ⟨_, rfl, (by omega), h.1, ⟨(by have e := h.2.1; omega), (by have e := h.2.2.2.2.1; omega), trivial⟩⟩)
            ·
              refine T_op zk_150_218 rfl X_ic (pc' := 219) rfl ?_
              exact T_zret zk_150_219 rfl (by omega) (fun σ' h => ⟨_, rfl, (by omega), h.1, ⟨(by have e := h.2.1; omega), (by have e := h.2.2.2.2.1; omega), trivial⟩⟩)
          ·
            refine T_ld zk_150_169 rfl rfl rfl (pc' := 171) rfl ?_
            refine T_op zk_150_171 rfl X_ic (pc' := 172) rfl ?_
            refine T_icmp_ge zk_150_172 (by omega) (by omega) (pc' := 175) rfl (fun h26 => ?_) (fun h27 => ?_)
            ·
              refine T_ld zk_150_213 rfl rfl rfl (pc' := 215) rfl ?_
              refine T_if_ne zk_150_215 (by omega) (pc' := 218) rfl (fun h28 => ?_) (fun h29 => ?_)
              ·
                refine T_ld zk_150_220 rfl rfl rfl (pc' := 221) rfl ?_
                refine T_getR (t' := 48) (i' := 0) (k' := 0) zk_150_221 rfl rfl rfl vd_35 (pc' := 224) rfl ?_
                refine T_ld zk_150_224 rfl rfl rfl (pc' := 225) rfl ?_
                refine T_ld zk_150_225 rfl rfl rfl (pc' := 226) rfl ?_
                refine G_iast (J' := (fun σ' => IF MRd σ σ' ∧ σ' 35 0 0 19 = x9 ∧ σ' 35 0 0 20 = m ∧ σ' 35 0 0 21 = b ∧ σ' 35 0 0 23 = t0 ∧ True)) (ln := 300) zk_150_226 rfl rfl vd_48 (by omega) (by omega) (by omega) (fun σ' h => ⟨h.1.up ⟨by omega, trivial⟩ (by first | exact pMRd rfl | (unfold MRd; omega)), (up_ne (by omega)).trans (h.2.1), (up_ne (by omega)).trans (h.2.2.1), (up_ne (by omega)).trans (h.2.2.2.1), (up_ne (by omega)).trans (h.2.2.2.2.1), trivial⟩) (pc' := 227) rfl ?_
                refine T_ld zk_150_227 rfl rfl rfl (pc' := 228) rfl ?_
                refine T_op (st' := [av 35 0 0, av 35 0 0]) zk_150_228 rfl rfl (pc' := 229) rfl ?_
                refine G_getX (w := t0) zk_150_229 rfl vd_35 (fun σ' h => h.2.2.2.2.1) (pc' := 232) rfl ?_
                refine T_op zk_150_232 rfl X_ic (pc' := 233) rfl ?_
                refine T_op zk_150_233 rfl X_add (pc' := 234) rfl ?_
                refine T_putf (J' := (fun σ' => IF MRd σ σ' ∧ σ' 35 0 0 19 = x9 ∧ σ' 35 0 0 20 = m ∧ σ' 35 0 0 21 = b ∧ σ' 35 0 0 23 = t0 + 1 ∧ True)) zk_150_234 rfl rfl vd_35 (fun σ' h => ⟨h.1.up (by simp only [rgP] <;> omega) (by first | exact pMRd rfl | (unfold MRd; omega)), (up_ne (by omega)).trans (h.2.1), (up_ne (by omega)).trans (h.2.2.1), (up_ne (by omega)).trans (h.2.2.2.1), up_eq, trivial⟩) (pc' := 237) rfl ?_
                refine T_op zk_150_237 rfl X_ic (pc' := 238) rfl ?_
                exact T_zret zk_150_238 rfl (by omega) (fun σ' h => ⟨_, rfl, (by omega), h.1, ⟨(by have e := h.2.1; omega), (by have e := h.2.2.2.2.1; omega), trivial⟩⟩)
              · exfalso; omega
            ·
              refine T_ld zk_150_175 rfl rfl rfl (pc' := 177) rfl ?_
              refine T_if_le zk_150_177 (by omega) (pc' := 180) rfl (fun h30 => ?_) (fun h31 => ?_)
              ·
                refine T_op zk_150_184 rfl (X_bi (v := 10) (by decide)) (pc' := 186) rfl ?_
                refine T_ld zk_150_186 rfl rfl rfl (pc' := 187) rfl ?_
                refine G_unk zk_150_187 rfl (pc' := 188) rfl (fun y32 hy32 hy32' => ?_)
                refine T_ld zk_150_188 rfl rfl rfl (pc' := 189) rfl ?_
                refine T_calli (K := fun y33 σ' => (-2147483648 ≤ y33 ∧ y33 ≤ 2147483647) ∧ (fun σ' => IF MRd σ σ' ∧ σ' 35 0 0 19 = x9 ∧ σ' 35 0 0 20 = m ∧ σ' 35 0 0 21 = b ∧ σ' 35 0 0 23 = t0 ∧ True) σ') (r := [iv y32]) zk_150_189 rfl rfl rfl rfl rfl rfl (Or.inr ⟨_, _, _, _, rfl, vd_35, rfl⟩) (fun σ' h => (m_148 x9 m b (by omega) (by omega) (by omega) σ' h.1.1 (h.2.1) (h.2.2.1) (h.2.2.2.1)).le (Nat.le_of_ble_eq_true rfl) (fun v σ2 ⟨y, h1, h2, h3, h4⟩ => ⟨y, h1, h2, h.1.tr h3 MN_sub, (h3.2 _ _ _ _ (fun q => q)).trans (h.2.1), (h3.2 _ _ _ _ (fun q => q)).trans (h.2.2.1), (h3.2 _ _ _ _ (fun q => q)).trans (h.2.2.2.1), (h3.2 _ _ _ _ (fun q => q)).trans (h.2.2.2.2.1), trivial⟩)) (pc' := 192) rfl (fun y33 => ?_)
                refine G_ex (fun hy33 => ?_)
                refine G_unk zk_150_192 rfl (pc' := 193) rfl (fun y34 hy34 hy34' => ?_)
                refine T_op zk_150_193 rfl (X_bi (v := 48) (by decide)) (pc' := 195) rfl ?_
                refine G_unk zk_150_195 rfl (pc' := 196) rfl (fun y35 hy35 hy35' => ?_)
                refine T_st (L' := [(0, av 35 0 0), (1, iv p0), (2, iv (50 * p0 + t0)), (3, iv y35), (4, iv x8)]) zk_150_196 (nL := 5) rfl rfl rfl rfl rfl (pc' := 197) rfl ?_
                refine T_iinc (L' := [(0, av 35 0 0), (1, iv p0), (2, iv (50 * p0 + t0)), (3, iv y35), (4, iv (x8 + 1))]) zk_150_197 (nL := 5) rfl rfl rfl rfl (pc' := 200) rfl ?_
                refine T_ld zk_150_200 rfl rfl rfl (pc' := 201) rfl ?_
                refine T_op (st' := [av 35 0 0, av 35 0 0]) zk_150_201 rfl rfl (pc' := 202) rfl ?_
                refine G_getX (w := x9) zk_150_202 rfl vd_35 (fun σ' h => h.2.1) (pc' := 205) rfl ?_
                refine T_op zk_150_205 rfl X_ic (pc' := 206) rfl ?_
                refine T_op zk_150_206 rfl X_add (pc' := 207) rfl ?_
                refine T_putf (J' := (fun σ' => IF MRd σ σ' ∧ σ' 35 0 0 20 = m ∧ σ' 35 0 0 21 = b ∧ σ' 35 0 0 23 = t0 ∧ σ' 35 0 0 19 = x9 + 1 ∧ True)) zk_150_207 rfl rfl vd_35 (fun σ' h => ⟨h.1.up (by simp only [rgP] <;> omega) (by first | exact pMRd rfl | (unfold MRd; omega)), (up_ne (by omega)).trans (h.2.2.1), (up_ne (by omega)).trans (h.2.2.2.1), (up_ne (by omega)).trans (h.2.2.2.2.1), up_eq, trivial⟩) (pc' := 210) rfl ?_
                refine T_goto zk_150_210 ?_
                refine G_know (J' := (fun σ' => IF MRd σ σ' ∧ σ' 35 0 0 19 = (x9 + 1) ∧ σ' 35 0 0 20 = m ∧ σ' 35 0 0 21 = b ∧ σ' 35 0 0 23 = t0 ∧ True)) (fun σ' h => ⟨h.1, (h.2.2.2.2.1).trans (by omega), h.2.1, h.2.2.1, h.2.2.2.1, trivial⟩) ?_
                exact ih10 y35 (x8 + 1) (x9 + 1) (by omega) (by omega)
              ·
                refine T_ld zk_150_180 rfl rfl rfl (pc' := 181) rfl ?_
                refine T_if_eq zk_150_181 (by omega) (pc' := 184) rfl (fun h36 => ?_) (fun h37 => ?_)
                ·
                  refine T_ld zk_150_213 rfl rfl rfl (pc' := 215) rfl ?_
                  refine T_if_ne zk_150_215 (by omega) (pc' := 218) rfl (fun h38 => ?_) (fun h39 => ?_)
                  ·
                    refine T_ld zk_150_220 rfl rfl rfl (pc' := 221) rfl ?_
                    refine T_getR (t' := 48) (i' := 0) (k' := 0) zk_150_221 rfl rfl rfl vd_35 (pc' := 224) rfl ?_
                    refine T_ld zk_150_224 rfl rfl rfl (pc' := 225) rfl ?_
                    refine T_ld zk_150_225 rfl rfl rfl (pc' := 226) rfl ?_
                    refine G_iast (J' := (fun σ' => IF MRd σ σ' ∧ σ' 35 0 0 19 = x9 ∧ σ' 35 0 0 20 = m ∧ σ' 35 0 0 21 = b ∧ σ' 35 0 0 23 = t0 ∧ True)) (ln := 300) zk_150_226 rfl rfl vd_48 (by omega) (by omega) (by omega) (fun σ' h => ⟨h.1.up ⟨by omega, trivial⟩ (by first | exact pMRd rfl | (unfold MRd; omega)), (up_ne (by omega)).trans (h.2.1), (up_ne (by omega)).trans (h.2.2.1), (up_ne (by omega)).trans (h.2.2.2.1), (up_ne (by omega)).trans (h.2.2.2.2.1), trivial⟩) (pc' := 227) rfl ?_
                    refine T_ld zk_150_227 rfl rfl rfl (pc' := 228) rfl ?_
                    refine T_op (st' := [av 35 0 0, av 35 0 0]) zk_150_228 rfl rfl (pc' := 229) rfl ?_
                    refine G_getX (w := t0) zk_150_229 rfl vd_35 (fun σ' h => h.2.2.2.2.1) (pc' := 232) rfl ?_
                    refine T_op zk_150_232 rfl X_ic (pc' := 233) rfl ?_
                    refine T_op zk_150_233 rfl X_add (pc' := 234) rfl ?_
                    refine T_putf (J' := (fun σ' => IF MRd σ σ' ∧ σ' 35 0 0 19 = x9 ∧ σ' 35 0 0 20 = m ∧ σ' 35 0 0 21 = b ∧ σ' 35 0 0 23 = t0 + 1 ∧ True)) zk_150_234 rfl rfl vd_35 (fun σ' h => ⟨h.1.up (by simp only [rgP] <;> omega) (by first | exact pMRd rfl | (unfold MRd; omega)), (up_ne (by omega)).trans (h.2.1), (up_ne (by omega)).trans (h.2.2.1), (up_ne (by omega)).trans (h.2.2.2.1), up_eq, trivial⟩) (pc' := 237) rfl ?_
                    refine T_op zk_150_237 rfl X_ic (pc' := 238) rfl ?_
                    exact T_zret zk_150_238 rfl (by omega) (fun σ' h => ⟨_, rfl, (by omega), h.1, ⟨(by have e := h.2.1; omega), (by have e := h.2.2.2.2.1; omega), trivial⟩⟩)
                  · exfalso; omega
                ·
                  refine T_op zk_150_184 rfl (X_bi (v := 10) (by decide)) (pc' := 186) rfl ?_
                  refine T_ld zk_150_186 rfl rfl rfl (pc' := 187) rfl ?_
                  refine G_unk zk_150_187 rfl (pc' := 188) rfl (fun y40 hy40 hy40' => ?_)
                  refine T_ld zk_150_188 rfl rfl rfl (pc' := 189) rfl ?_
                  refine T_calli (K := fun y41 σ' => (-2147483648 ≤ y41 ∧ y41 ≤ 2147483647) ∧ (fun σ' => IF MRd σ σ' ∧ σ' 35 0 0 19 = x9 ∧ σ' 35 0 0 20 = m ∧ σ' 35 0 0 21 = b ∧ σ' 35 0 0 23 = t0 ∧ True) σ') (r := [iv y40]) zk_150_189 rfl rfl rfl rfl rfl rfl (Or.inr ⟨_, _, _, _, rfl, vd_35, rfl⟩) (fun σ' h => (m_148 x9 m b (by omega) (by omega) (by omega) σ' h.1.1 (h.2.1) (h.2.2.1) (h.2.2.2.1)).le (Nat.le_of_ble_eq_true rfl) (fun v σ2 ⟨y, h1, h2, h3, h4⟩ => ⟨y, h1, h2, h.1.tr h3 MN_sub, (h3.2 _ _ _ _ (fun q => q)).trans (h.2.1), (h3.2 _ _ _ _ (fun q => q)).trans (h.2.2.1), (h3.2 _ _ _ _ (fun q => q)).trans (h.2.2.2.1), (h3.2 _ _ _ _ (fun q => q)).trans (h.2.2.2.2.1), trivial⟩)) (pc' := 192) rfl (fun y41 => ?_)
                  refine G_ex (fun hy41 => ?_)
                  refine G_unk zk_150_192 rfl (pc' := 193) rfl (fun y42 hy42 hy42' => ?_)
                  refine T_op zk_150_193 rfl (X_bi (v := 48) (by decide)) (pc' := 195) rfl ?_
                  refine G_unk zk_150_195 rfl (pc' := 196) rfl (fun y43 hy43 hy43' => ?_)
                  refine T_st (L' := [(0, av 35 0 0), (1, iv p0), (2, iv (50 * p0 + t0)), (3, iv y43), (4, iv x8)]) zk_150_196 (nL := 5) rfl rfl rfl rfl rfl (pc' := 197) rfl ?_
                  refine T_iinc (L' := [(0, av 35 0 0), (1, iv p0), (2, iv (50 * p0 + t0)), (3, iv y43), (4, iv (x8 + 1))]) zk_150_197 (nL := 5) rfl rfl rfl rfl (pc' := 200) rfl ?_
                  refine T_ld zk_150_200 rfl rfl rfl (pc' := 201) rfl ?_
                  refine T_op (st' := [av 35 0 0, av 35 0 0]) zk_150_201 rfl rfl (pc' := 202) rfl ?_
                  refine G_getX (w := x9) zk_150_202 rfl vd_35 (fun σ' h => h.2.1) (pc' := 205) rfl ?_
                  refine T_op zk_150_205 rfl X_ic (pc' := 206) rfl ?_
                  refine T_op zk_150_206 rfl X_add (pc' := 207) rfl ?_
                  refine T_putf (J' := (fun σ' => IF MRd σ σ' ∧ σ' 35 0 0 20 = m ∧ σ' 35 0 0 21 = b ∧ σ' 35 0 0 23 = t0 ∧ σ' 35 0 0 19 = x9 + 1 ∧ True)) zk_150_207 rfl rfl vd_35 (fun σ' h => ⟨h.1.up (by simp only [rgP] <;> omega) (by first | exact pMRd rfl | (unfold MRd; omega)), (up_ne (by omega)).trans (h.2.2.1), (up_ne (by omega)).trans (h.2.2.2.1), (up_ne (by omega)).trans (h.2.2.2.2.1), up_eq, trivial⟩) (pc' := 210) rfl ?_
                  refine T_goto zk_150_210 ?_
                  refine G_know (J' := (fun σ' => IF MRd σ σ' ∧ σ' 35 0 0 19 = (x9 + 1) ∧ σ' 35 0 0 20 = m ∧ σ' 35 0 0 21 = b ∧ σ' 35 0 0 23 = t0 ∧ True)) (fun σ' h => ⟨h.1, (h.2.2.2.2.1).trans (by omega), h.2.1, h.2.2.1, h.2.2.2.1, trivial⟩) ?_
                  exact ih10 y43 (x8 + 1) (x9 + 1) (by omega) (by omega)
    ·
      skip
      refine T_ld zk_150_86 rfl rfl rfl (pc' := 87) rfl ?_
      refine T_op zk_150_87 rfl (X_bi (v := 60) (by decide)) (pc' := 89) rfl ?_
      refine T_calli (K := fun y44 σ' => (y44 = 0 ∨ (y44 = 1 ∧ a + 1 < m)) ∧ (fun σ' => IF MRd σ σ' ∧ σ' 35 0 0 23 = t0 ∧ σ' 35 0 0 19 = a + 1 ∧ True) σ') (r := []) zk_150_89 rfl rfl rfl rfl rfl rfl (Or.inr ⟨_, _, _, _, rfl, vd_35, rfl⟩) (fun σ' h => (m_149 60 (a + 1) m b (by omega) (by omega) (by omega) (by omega) σ' h.1.1 (h.2.2.1) ((h.1.2 _ _ _ _ (by first | exact nMRd rfl | (unfold MRd; omega))).trans s2) ((h.1.2 _ _ _ _ (by first | exact nMRd rfl | (unfold MRd; omega))).trans s3)).le (Nat.le_of_ble_eq_true rfl) (fun v σ2 ⟨y, h1, h2, h3, h4⟩ => ⟨y, h1, h2, h.1.tr h3 MN_sub, (h3.2 _ _ _ _ (fun q => q)).trans (h.2.1), (h3.2 _ _ _ _ (fun q => q)).trans (h.2.2.1), trivial⟩)) (pc' := 92) rfl (fun y44 => ?_)
      refine G_ex (fun hy44 => ?_)
      refine T_if_ne zk_150_92 (by omega) (pc' := 95) rfl (fun h45 => ?_) (fun h46 => ?_)
      ·
        exact hj4 (by omega)
      ·
        refine T_ld zk_150_95 rfl rfl rfl (pc' := 96) rfl ?_
        refine T_op zk_150_96 rfl (X_bi (v := 62) (by decide)) (pc' := 98) rfl ?_
        refine T_calli (K := fun y47 σ' => (y47 = 0 ∨ (y47 = 1 ∧ a + 1 < m)) ∧ (fun σ' => IF MRd σ σ' ∧ σ' 35 0 0 23 = t0 ∧ σ' 35 0 0 19 = a + 1 ∧ True) σ') (r := []) zk_150_98 rfl rfl rfl rfl rfl rfl (Or.inr ⟨_, _, _, _, rfl, vd_35, rfl⟩) (fun σ' h => (m_149 62 (a + 1) m b (by omega) (by omega) (by omega) (by omega) σ' h.1.1 (h.2.2.1) ((h.1.2 _ _ _ _ (by first | exact nMRd rfl | (unfold MRd; omega))).trans s2) ((h.1.2 _ _ _ _ (by first | exact nMRd rfl | (unfold MRd; omega))).trans s3)).le (Nat.le_of_ble_eq_true rfl) (fun v σ2 ⟨y, h1, h2, h3, h4⟩ => ⟨y, h1, h2, h.1.tr h3 MN_sub, (h3.2 _ _ _ _ (fun q => q)).trans (h.2.1), (h3.2 _ _ _ _ (fun q => q)).trans (h.2.2.1), trivial⟩)) (pc' := 101) rfl (fun y47 => ?_)
        refine G_ex (fun hy47 => ?_)
        refine T_if_ne zk_150_101 (by omega) (pc' := 104) rfl (fun h48 => ?_) (fun h49 => ?_)
        ·
          exact hj4 (by omega)
        ·
          refine T_ld zk_150_104 rfl rfl rfl (pc' := 105) rfl ?_
          refine T_op zk_150_105 rfl (X_bi (v := 61) (by decide)) (pc' := 107) rfl ?_
          refine T_calli (K := fun y50 σ' => (y50 = 0 ∨ (y50 = 1 ∧ a + 1 < m)) ∧ (fun σ' => IF MRd σ σ' ∧ σ' 35 0 0 23 = t0 ∧ σ' 35 0 0 19 = a + 1 ∧ True) σ') (r := []) zk_150_107 rfl rfl rfl rfl rfl rfl (Or.inr ⟨_, _, _, _, rfl, vd_35, rfl⟩) (fun σ' h => (m_149 61 (a + 1) m b (by omega) (by omega) (by omega) (by omega) σ' h.1.1 (h.2.2.1) ((h.1.2 _ _ _ _ (by first | exact nMRd rfl | (unfold MRd; omega))).trans s2) ((h.1.2 _ _ _ _ (by first | exact nMRd rfl | (unfold MRd; omega))).trans s3)).le (Nat.le_of_ble_eq_true rfl) (fun v σ2 ⟨y, h1, h2, h3, h4⟩ => ⟨y, h1, h2, h.1.tr h3 MN_sub, (h3.2 _ _ _ _ (fun q => q)).trans (h.2.1), (h3.2 _ _ _ _ (fun q => q)).trans (h.2.2.1), trivial⟩)) (pc' := 110) rfl (fun y50 => ?_)
          refine G_ex (fun hy50 => ?_)
          refine T_if_ne zk_150_110 (by omega) (pc' := 113) rfl (fun h51 => ?_) (fun h52 => ?_)
          ·
            exact hj4 (by omega)
          ·
            refine T_op zk_150_113 rfl X_ic (pc' := 114) rfl ?_
            exact T_zret zk_150_114 rfl (by omega) (fun σ' h => ⟨_, rfl, (by omega), h.1, ⟨(by have e := h.2.2.1; omega), (by have e := h.2.1; omega), trivial⟩⟩)
  ·
    skip
    refine T_ld zk_150_0 rfl rfl rfl (pc' := 1) rfl ?_
    refine T_op zk_150_1 rfl (X_bi (v := 102) (by decide)) (pc' := 3) rfl ?_
    refine T_calli (K := fun y53 σ' => (y53 = 0 ∨ (y53 = 1 ∧ a < m)) ∧ (fun σ' => IF MRd σ σ' ∧ σ' 35 0 0 19 = a ∧ σ' 35 0 0 23 = t0 ∧ True) σ') (r := []) zk_150_3 rfl rfl rfl rfl rfl rfl (Or.inr ⟨_, _, _, _, rfl, vd_35, rfl⟩) (fun σ' h => (m_149 102 a m b (by omega) (by omega) (by omega) (by omega) σ' h.1.1 (h.2.1) ((h.1.2 _ _ _ _ (by first | exact nMRd rfl | (unfold MRd; omega))).trans s2) ((h.1.2 _ _ _ _ (by first | exact nMRd rfl | (unfold MRd; omega))).trans s3)).le (Nat.le_of_ble_eq_true rfl) (fun v σ2 ⟨y, h1, h2, h3, h4⟩ => ⟨y, h1, h2, h.1.tr h3 MN_sub, (h3.2 _ _ _ _ (fun q => q)).trans (h.2.1), (h3.2 _ _ _ _ (fun q => q)).trans (h.2.2.1), trivial⟩)) (pc' := 6) rfl (fun y53 => ?_)
    refine G_ex (fun hy53 => ?_)
    refine T_if_ne zk_150_6 (by omega) (pc' := 9) rfl (fun h54 => ?_) (fun h55 => ?_)
    ·
      exact hj1 (by omega)
    ·
      refine T_ld zk_150_9 rfl rfl rfl (pc' := 10) rfl ?_
      refine T_op zk_150_10 rfl (X_bi (v := 115) (by decide)) (pc' := 12) rfl ?_
      refine T_calli (K := fun y56 σ' => (y56 = 0 ∨ (y56 = 1 ∧ a < m)) ∧ (fun σ' => IF MRd σ σ' ∧ σ' 35 0 0 19 = a ∧ σ' 35 0 0 23 = t0 ∧ True) σ') (r := []) zk_150_12 rfl rfl rfl rfl rfl rfl (Or.inr ⟨_, _, _, _, rfl, vd_35, rfl⟩) (fun σ' h => (m_149 115 a m b (by omega) (by omega) (by omega) (by omega) σ' h.1.1 (h.2.1) ((h.1.2 _ _ _ _ (by first | exact nMRd rfl | (unfold MRd; omega))).trans s2) ((h.1.2 _ _ _ _ (by first | exact nMRd rfl | (unfold MRd; omega))).trans s3)).le (Nat.le_of_ble_eq_true rfl) (fun v σ2 ⟨y, h1, h2, h3, h4⟩ => ⟨y, h1, h2, h.1.tr h3 MN_sub, (h3.2 _ _ _ _ (fun q => q)).trans (h.2.1), (h3.2 _ _ _ _ (fun q => q)).trans (h.2.2.1), trivial⟩)) (pc' := 15) rfl (fun y56 => ?_)
      refine G_ex (fun hy56 => ?_)
      refine T_if_ne zk_150_15 (by omega) (pc' := 18) rfl (fun h57 => ?_) (fun h58 => ?_)
      ·
        exact hj1 (by omega)
      ·
        refine T_ld zk_150_18 rfl rfl rfl (pc' := 19) rfl ?_
        refine T_op zk_150_19 rfl (X_bi (v := 108) (by decide)) (pc' := 21) rfl ?_
        refine T_calli (K := fun y59 σ' => (y59 = 0 ∨ (y59 = 1 ∧ a < m)) ∧ (fun σ' => IF MRd σ σ' ∧ σ' 35 0 0 19 = a ∧ σ' 35 0 0 23 = t0 ∧ True) σ') (r := []) zk_150_21 rfl rfl rfl rfl rfl rfl (Or.inr ⟨_, _, _, _, rfl, vd_35, rfl⟩) (fun σ' h => (m_149 108 a m b (by omega) (by omega) (by omega) (by omega) σ' h.1.1 (h.2.1) ((h.1.2 _ _ _ _ (by first | exact nMRd rfl | (unfold MRd; omega))).trans s2) ((h.1.2 _ _ _ _ (by first | exact nMRd rfl | (unfold MRd; omega))).trans s3)).le (Nat.le_of_ble_eq_true rfl) (fun v σ2 ⟨y, h1, h2, h3, h4⟩ => ⟨y, h1, h2, h.1.tr h3 MN_sub, (h3.2 _ _ _ _ (fun q => q)).trans (h.2.1), (h3.2 _ _ _ _ (fun q => q)).trans (h.2.2.1), trivial⟩)) (pc' := 24) rfl (fun y59 => ?_)
        refine G_ex (fun hy59 => ?_)
        refine T_if_ne zk_150_24 (by omega) (pc' := 27) rfl (fun h60 => ?_) (fun h61 => ?_)
        ·
          exact hj1 (by omega)
        ·
          refine T_ld zk_150_27 rfl rfl rfl (pc' := 28) rfl ?_
          refine T_op zk_150_28 rfl (X_bi (v := 104) (by decide)) (pc' := 30) rfl ?_
          refine T_calli (K := fun y62 σ' => (y62 = 0 ∨ (y62 = 1 ∧ a < m)) ∧ (fun σ' => IF MRd σ σ' ∧ σ' 35 0 0 19 = a ∧ σ' 35 0 0 23 = t0 ∧ True) σ') (r := []) zk_150_30 rfl rfl rfl rfl rfl rfl (Or.inr ⟨_, _, _, _, rfl, vd_35, rfl⟩) (fun σ' h => (m_149 104 a m b (by omega) (by omega) (by omega) (by omega) σ' h.1.1 (h.2.1) ((h.1.2 _ _ _ _ (by first | exact nMRd rfl | (unfold MRd; omega))).trans s2) ((h.1.2 _ _ _ _ (by first | exact nMRd rfl | (unfold MRd; omega))).trans s3)).le (Nat.le_of_ble_eq_true rfl) (fun v σ2 ⟨y, h1, h2, h3, h4⟩ => ⟨y, h1, h2, h.1.tr h3 MN_sub, (h3.2 _ _ _ _ (fun q => q)).trans (h.2.1), (h3.2 _ _ _ _ (fun q => q)).trans (h.2.2.1), trivial⟩)) (pc' := 33) rfl (fun y62 => ?_)
          refine G_ex (fun hy62 => ?_)
          refine T_if_ne zk_150_33 (by omega) (pc' := 36) rfl (fun h63 => ?_) (fun h64 => ?_)
          ·
            exact hj1 (by omega)
          ·
            refine T_ld zk_150_36 rfl rfl rfl (pc' := 37) rfl ?_
            refine T_op zk_150_37 rfl (X_bi (v := 119) (by decide)) (pc' := 39) rfl ?_
            refine T_calli (K := fun y65 σ' => (y65 = 0 ∨ (y65 = 1 ∧ a < m)) ∧ (fun σ' => IF MRd σ σ' ∧ σ' 35 0 0 19 = a ∧ σ' 35 0 0 23 = t0 ∧ True) σ') (r := []) zk_150_39 rfl rfl rfl rfl rfl rfl (Or.inr ⟨_, _, _, _, rfl, vd_35, rfl⟩) (fun σ' h => (m_149 119 a m b (by omega) (by omega) (by omega) (by omega) σ' h.1.1 (h.2.1) ((h.1.2 _ _ _ _ (by first | exact nMRd rfl | (unfold MRd; omega))).trans s2) ((h.1.2 _ _ _ _ (by first | exact nMRd rfl | (unfold MRd; omega))).trans s3)).le (Nat.le_of_ble_eq_true rfl) (fun v σ2 ⟨y, h1, h2, h3, h4⟩ => ⟨y, h1, h2, h.1.tr h3 MN_sub, (h3.2 _ _ _ _ (fun q => q)).trans (h.2.1), (h3.2 _ _ _ _ (fun q => q)).trans (h.2.2.1), trivial⟩)) (pc' := 42) rfl (fun y65 => ?_)
            refine G_ex (fun hy65 => ?_)
            refine T_if_ne zk_150_42 (by omega) (pc' := 45) rfl (fun h66 => ?_) (fun h67 => ?_)
            ·
              exact hj1 (by omega)
            ·
              refine T_ld zk_150_45 rfl rfl rfl (pc' := 46) rfl ?_
              refine T_op zk_150_46 rfl (X_bi (v := 100) (by decide)) (pc' := 48) rfl ?_
              refine T_calli (K := fun y68 σ' => (y68 = 0 ∨ (y68 = 1 ∧ a < m)) ∧ (fun σ' => IF MRd σ σ' ∧ σ' 35 0 0 19 = a ∧ σ' 35 0 0 23 = t0 ∧ True) σ') (r := []) zk_150_48 rfl rfl rfl rfl rfl rfl (Or.inr ⟨_, _, _, _, rfl, vd_35, rfl⟩) (fun σ' h => (m_149 100 a m b (by omega) (by omega) (by omega) (by omega) σ' h.1.1 (h.2.1) ((h.1.2 _ _ _ _ (by first | exact nMRd rfl | (unfold MRd; omega))).trans s2) ((h.1.2 _ _ _ _ (by first | exact nMRd rfl | (unfold MRd; omega))).trans s3)).le (Nat.le_of_ble_eq_true rfl) (fun v σ2 ⟨y, h1, h2, h3, h4⟩ => ⟨y, h1, h2, h.1.tr h3 MN_sub, (h3.2 _ _ _ _ (fun q => q)).trans (h.2.1), (h3.2 _ _ _ _ (fun q => q)).trans (h.2.2.1), trivial⟩)) (pc' := 51) rfl (fun y68 => ?_)
              refine G_ex (fun hy68 => ?_)
              refine T_if_ne zk_150_51 (by omega) (pc' := 54) rfl (fun h69 => ?_) (fun h70 => ?_)
              ·
                exact hj1 (by omega)
              ·
                refine T_op zk_150_54 rfl X_ic (pc' := 55) rfl ?_
                exact T_zret zk_150_55 rfl (by omega) (fun σ' h => ⟨_, rfl, (by omega), h.1, ⟨(by have e := h.2.1; omega), (by have e := h.2.2.1; omega), trivial⟩⟩)
