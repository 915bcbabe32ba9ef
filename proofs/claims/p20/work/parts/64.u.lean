theorem zk_162_0 : zc 162 0 = some (.iconst 0, 0, 0, 0, 0) := rfl
theorem zk_162_1 : zc 162 1 = some (.istore_n 2, 0, 0, 0, 0) := rfl
theorem zk_162_2 : zc 162 2 = some (.iconst 0, 0, 0, 0, 0) := rfl
theorem zk_162_3 : zc 162 3 = some (.istore_n 3, 0, 0, 0, 0) := rfl
theorem zk_162_4 : zc 162 4 = some (.iload_n 3, 0, 0, 0, 0) := rfl
theorem zk_162_5 : zc 162 5 = some (.aload_n 0, 0, 0, 0, 0) := rfl
theorem zk_162_6 : zc 162 6 = some (.getfield 41, 11, 11, 0, 149) := rfl
theorem zk_162_9 : zc 162 9 = some (.iload_n 1, 0, 0, 0, 0) := rfl
theorem zk_162_10 : zc 162 10 = some (.iaload, 0, 0, 0, 0) := rfl
theorem zk_162_11 : zc 162 11 = some (.if_icmp .ge 209, 220, 0, 0, 0) := rfl
theorem zk_162_14 : zc 162 14 = some (.aload_n 0, 0, 0, 0, 0) := rfl
theorem zk_162_15 : zc 162 15 = some (.getfield 44, 11, 12, 0, 150) := rfl
theorem zk_162_18 : zc 162 18 = some (.bipush 120, 0, 0, 0, 0) := rfl
theorem zk_162_20 : zc 162 20 = some (.iload_n 1, 0, 0, 0, 0) := rfl
theorem zk_162_21 : zc 162 21 = some (.imul, 0, 0, 0, 0) := rfl
theorem zk_162_22 : zc 162 22 = some (.iload_n 3, 0, 0, 0, 0) := rfl
theorem zk_162_23 : zc 162 23 = some (.iadd, 0, 0, 0, 0) := rfl
theorem zk_162_24 : zc 162 24 = some (.iaload, 0, 0, 0, 0) := rfl
theorem zk_162_25 : zc 162 25 = some (.istore 4, 0, 0, 0, 0) := rfl
theorem zk_162_27 : zc 162 27 = some (.iload 4, 0, 0, 0, 0) := rfl
theorem zk_162_29 : zc 162 29 = some (.ifCond .lt 107, 136, 0, 0, 0) := rfl
theorem zk_162_32 : zc 162 32 = some (.aload_n 0, 0, 0, 0, 0) := rfl
theorem zk_162_33 : zc 162 33 = some (.aload_n 0, 0, 0, 0, 0) := rfl
theorem zk_162_34 : zc 162 34 = some (.getfield 47, 11, 13, 0, 151) := rfl
theorem zk_162_37 : zc 162 37 = some (.bipush 50, 0, 0, 0, 0) := rfl
theorem zk_162_39 : zc 162 39 = some (.iload_n 1, 0, 0, 0, 0) := rfl
theorem zk_162_40 : zc 162 40 = some (.imul, 0, 0, 0, 0) := rfl
theorem zk_162_41 : zc 162 41 = some (.iload 4, 0, 0, 0, 0) := rfl
theorem zk_162_43 : zc 162 43 = some (.iadd, 0, 0, 0, 0) := rfl
theorem zk_162_44 : zc 162 44 = some (.iaload, 0, 0, 0, 0) := rfl
theorem zk_162_45 : zc 162 45 = some (.invokevirtual 192, 161, 0, 2, 146) := rfl
theorem zk_162_48 : zc 162 48 = some (.istore 5, 0, 0, 0, 0) := rfl
theorem zk_162_50 : zc 162 50 = some (.aload_n 0, 0, 0, 0, 0) := rfl
theorem zk_162_51 : zc 162 51 = some (.getfield 53, 11, 15, 0, 153) := rfl
theorem zk_162_54 : zc 162 54 = some (.bipush 50, 0, 0, 0, 0) := rfl
theorem zk_162_56 : zc 162 56 = some (.iload_n 1, 0, 0, 0, 0) := rfl
theorem zk_162_57 : zc 162 57 = some (.imul, 0, 0, 0, 0) := rfl
theorem zk_162_58 : zc 162 58 = some (.iload 4, 0, 0, 0, 0) := rfl
theorem zk_162_60 : zc 162 60 = some (.iadd, 0, 0, 0, 0) := rfl
theorem zk_162_61 : zc 162 61 = some (.iaload, 0, 0, 0, 0) := rfl
theorem zk_162_62 : zc 162 62 = some (.istore 6, 0, 0, 0, 0) := rfl
theorem zk_162_64 : zc 162 64 = some (.aload_n 0, 0, 0, 0, 0) := rfl
theorem zk_162_65 : zc 162 65 = some (.getfield 50, 11, 14, 0, 152) := rfl
theorem zk_162_68 : zc 162 68 = some (.bipush 50, 0, 0, 0, 0) := rfl
theorem zk_162_70 : zc 162 70 = some (.iload_n 1, 0, 0, 0, 0) := rfl
theorem zk_162_71 : zc 162 71 = some (.imul, 0, 0, 0, 0) := rfl
theorem zk_162_72 : zc 162 72 = some (.iload 4, 0, 0, 0, 0) := rfl
theorem zk_162_74 : zc 162 74 = some (.iadd, 0, 0, 0, 0) := rfl
theorem zk_162_75 : zc 162 75 = some (.iaload, 0, 0, 0, 0) := rfl
theorem zk_162_76 : zc 162 76 = some (.istore 7, 0, 0, 0, 0) := rfl
theorem zk_162_78 : zc 162 78 = some (.aload_n 0, 0, 0, 0, 0) := rfl
theorem zk_162_79 : zc 162 79 = some (.getfield 66, 11, 26, 0, 157) := rfl
theorem zk_162_82 : zc 162 82 = some (.iload_n 2, 0, 0, 0, 0) := rfl
theorem zk_162_83 : zc 162 83 = some (.iinc 2 1, 0, 0, 0, 0) := rfl
theorem zk_162_86 : zc 162 86 = some (.iload 7, 0, 0, 0, 0) := rfl
theorem zk_162_88 : zc 162 88 = some (.bipush 60, 0, 0, 0, 0) := rfl
theorem zk_162_90 : zc 162 90 = some (.if_icmp .ne 13, 103, 0, 0, 0) := rfl
theorem zk_162_93 : zc 162 93 = some (.iload 5, 0, 0, 0, 0) := rfl
theorem zk_162_95 : zc 162 95 = some (.iload 6, 0, 0, 0, 0) := rfl
theorem zk_162_97 : zc 162 97 = some (.if_icmp .ge 34, 131, 0, 0, 0) := rfl
theorem zk_162_100 : zc 162 100 = some (.goto 27, 127, 0, 0, 0) := rfl
theorem zk_162_103 : zc 162 103 = some (.iload 7, 0, 0, 0, 0) := rfl
theorem zk_162_105 : zc 162 105 = some (.bipush 62, 0, 0, 0, 0) := rfl
theorem zk_162_107 : zc 162 107 = some (.if_icmp .ne 13, 120, 0, 0, 0) := rfl
theorem zk_162_110 : zc 162 110 = some (.iload 5, 0, 0, 0, 0) := rfl
theorem zk_162_112 : zc 162 112 = some (.iload 6, 0, 0, 0, 0) := rfl
theorem zk_162_114 : zc 162 114 = some (.if_icmp .le 17, 131, 0, 0, 0) := rfl
theorem zk_162_117 : zc 162 117 = some (.goto 10, 127, 0, 0, 0) := rfl
theorem zk_162_120 : zc 162 120 = some (.iload 5, 0, 0, 0, 0) := rfl
theorem zk_162_122 : zc 162 122 = some (.iload 6, 0, 0, 0, 0) := rfl
theorem zk_162_124 : zc 162 124 = some (.if_icmp .ne 7, 131, 0, 0, 0) := rfl
theorem zk_162_127 : zc 162 127 = some (.iconst 1, 0, 0, 0, 0) := rfl
theorem zk_162_128 : zc 162 128 = some (.goto 4, 132, 0, 0, 0) := rfl
theorem zk_162_131 : zc 162 131 = some (.iconst 0, 0, 0, 0, 0) := rfl
theorem zk_162_132 : zc 162 132 = some (.iastore, 0, 0, 0, 0) := rfl
theorem zk_162_133 : zc 162 133 = some (.goto 81, 214, 0, 0, 0) := rfl
theorem zk_162_136 : zc 162 136 = some (.iload 4, 0, 0, 0, 0) := rfl
theorem zk_162_138 : zc 162 138 = some (.iconst (-1), 0, 0, 0, 0) := rfl
theorem zk_162_139 : zc 162 139 = some (.if_icmp .ne 24, 163, 0, 0, 0) := rfl
theorem zk_162_142 : zc 162 142 = some (.aload_n 0, 0, 0, 0, 0) := rfl
theorem zk_162_143 : zc 162 143 = some (.getfield 66, 11, 26, 0, 157) := rfl
theorem zk_162_146 : zc 162 146 = some (.iload_n 2, 0, 0, 0, 0) := rfl
theorem zk_162_147 : zc 162 147 = some (.iconst 1, 0, 0, 0, 0) := rfl
theorem zk_162_148 : zc 162 148 = some (.isub, 0, 0, 0, 0) := rfl
theorem zk_162_149 : zc 162 149 = some (.iconst 1, 0, 0, 0, 0) := rfl
theorem zk_162_150 : zc 162 150 = some (.aload_n 0, 0, 0, 0, 0) := rfl
theorem zk_162_151 : zc 162 151 = some (.getfield 66, 11, 26, 0, 157) := rfl
theorem zk_162_154 : zc 162 154 = some (.iload_n 2, 0, 0, 0, 0) := rfl
theorem zk_162_155 : zc 162 155 = some (.iconst 1, 0, 0, 0, 0) := rfl
theorem zk_162_156 : zc 162 156 = some (.isub, 0, 0, 0, 0) := rfl
theorem zk_162_157 : zc 162 157 = some (.iaload, 0, 0, 0, 0) := rfl
theorem zk_162_158 : zc 162 158 = some (.isub, 0, 0, 0, 0) := rfl
theorem zk_162_159 : zc 162 159 = some (.iastore, 0, 0, 0, 0) := rfl
theorem zk_162_160 : zc 162 160 = some (.goto 54, 214, 0, 0, 0) := rfl
theorem zk_162_163 : zc 162 163 = some (.iinc 2 (-1), 0, 0, 0, 0) := rfl
theorem zk_162_166 : zc 162 166 = some (.aload_n 0, 0, 0, 0, 0) := rfl
theorem zk_162_167 : zc 162 167 = some (.getfield 66, 11, 26, 0, 157) := rfl
theorem zk_162_170 : zc 162 170 = some (.iload_n 2, 0, 0, 0, 0) := rfl
theorem zk_162_171 : zc 162 171 = some (.iconst 1, 0, 0, 0, 0) := rfl
theorem zk_162_172 : zc 162 172 = some (.isub, 0, 0, 0, 0) := rfl
theorem zk_162_173 : zc 162 173 = some (.iload 4, 0, 0, 0, 0) := rfl
theorem zk_162_175 : zc 162 175 = some (.bipush (-2), 0, 0, 0, 0) := rfl
theorem zk_162_177 : zc 162 177 = some (.if_icmp .ne 21, 198, 0, 0, 0) := rfl
theorem zk_162_180 : zc 162 180 = some (.aload_n 0, 0, 0, 0, 0) := rfl
theorem zk_162_181 : zc 162 181 = some (.getfield 66, 11, 26, 0, 157) := rfl
theorem zk_162_184 : zc 162 184 = some (.iload_n 2, 0, 0, 0, 0) := rfl
theorem zk_162_185 : zc 162 185 = some (.iconst 1, 0, 0, 0, 0) := rfl
theorem zk_162_186 : zc 162 186 = some (.isub, 0, 0, 0, 0) := rfl
theorem zk_162_187 : zc 162 187 = some (.iaload, 0, 0, 0, 0) := rfl
theorem zk_162_188 : zc 162 188 = some (.aload_n 0, 0, 0, 0, 0) := rfl
theorem zk_162_189 : zc 162 189 = some (.getfield 66, 11, 26, 0, 157) := rfl
theorem zk_162_192 : zc 162 192 = some (.iload_n 2, 0, 0, 0, 0) := rfl
theorem zk_162_193 : zc 162 193 = some (.iaload, 0, 0, 0, 0) := rfl
theorem zk_162_194 : zc 162 194 = some (.iand, 0, 0, 0, 0) := rfl
theorem zk_162_195 : zc 162 195 = some (.goto 18, 213, 0, 0, 0) := rfl
theorem zk_162_198 : zc 162 198 = some (.aload_n 0, 0, 0, 0, 0) := rfl
theorem zk_162_199 : zc 162 199 = some (.getfield 66, 11, 26, 0, 157) := rfl
theorem zk_162_202 : zc 162 202 = some (.iload_n 2, 0, 0, 0, 0) := rfl
theorem zk_162_203 : zc 162 203 = some (.iconst 1, 0, 0, 0, 0) := rfl
theorem zk_162_204 : zc 162 204 = some (.isub, 0, 0, 0, 0) := rfl
theorem zk_162_205 : zc 162 205 = some (.iaload, 0, 0, 0, 0) := rfl
theorem zk_162_206 : zc 162 206 = some (.aload_n 0, 0, 0, 0, 0) := rfl
theorem zk_162_207 : zc 162 207 = some (.getfield 66, 11, 26, 0, 157) := rfl
theorem zk_162_210 : zc 162 210 = some (.iload_n 2, 0, 0, 0, 0) := rfl
theorem zk_162_211 : zc 162 211 = some (.iaload, 0, 0, 0, 0) := rfl
theorem zk_162_212 : zc 162 212 = some (.ior, 0, 0, 0, 0) := rfl
theorem zk_162_213 : zc 162 213 = some (.iastore, 0, 0, 0, 0) := rfl
theorem zk_162_214 : zc 162 214 = some (.iinc 3 1, 0, 0, 0, 0) := rfl
theorem zk_162_217 : zc 162 217 = some (.goto (-213), 4, 0, 0, 0) := rfl
theorem zk_162_220 : zc 162 220 = some (.aload_n 0, 0, 0, 0, 0) := rfl
theorem zk_162_221 : zc 162 221 = some (.getfield 66, 11, 26, 0, 157) := rfl
theorem zk_162_224 : zc 162 224 = some (.iconst 0, 0, 0, 0, 0) := rfl
theorem zk_162_225 : zc 162 225 = some (.iaload, 0, 0, 0, 0) := rfl
theorem zk_162_226 : zc 162 226 = some (.iconst 1, 0, 0, 0, 0) := rfl
theorem zk_162_227 : zc 162 227 = some (.if_icmp .ne 7, 234, 0, 0, 0) := rfl
theorem zk_162_230 : zc 162 230 = some (.iconst 1, 0, 0, 0, 0) := rfl
theorem zk_162_231 : zc 162 231 = some (.goto 4, 235, 0, 0, 0) := rfl
theorem zk_162_234 : zc 162 234 = some (.iconst 0, 0, 0, 0, 0) := rfl
theorem zk_162_235 : zc 162 235 = some (.ireturn, 0, 0, 0, 0) := rfl
theorem zk_163_0 : zc 163 0 = some (.aload_n 0, 0, 0, 0, 0) := rfl
theorem zk_163_1 : zc 163 1 = some (.iload_n 1, 0, 0, 0, 0) := rfl
theorem zk_163_2 : zc 163 2 = some (.invokevirtual 183, 157, 0, 2, 143) := rfl
theorem zk_163_5 : zc 163 5 = some (.ifCond .eq 19, 24, 0, 0, 0) := rfl
theorem zk_163_8 : zc 163 8 = some (.aload_n 0, 0, 0, 0, 0) := rfl
theorem zk_163_9 : zc 163 9 = some (.iload_n 1, 0, 0, 0, 0) := rfl
theorem zk_163_10 : zc 163 10 = some (.invokevirtual 195, 162, 0, 2, 147) := rfl
theorem zk_163_13 : zc 163 13 = some (.ifCond .eq 7, 20, 0, 0, 0) := rfl
theorem zk_163_16 : zc 163 16 = some (.iconst 1, 0, 0, 0, 0) := rfl
theorem zk_163_17 : zc 163 17 = some (.goto 8, 25, 0, 0, 0) := rfl
theorem zk_163_20 : zc 163 20 = some (.iconst 0, 0, 0, 0, 0) := rfl
theorem zk_163_21 : zc 163 21 = some (.goto 4, 25, 0, 0, 0) := rfl
theorem zk_163_24 : zc 163 24 = some (.iconst (-1), 0, 0, 0, 0) := rfl
theorem zk_163_25 : zc 163 25 = some (.ireturn, 0, 0, 0, 0) := rfl
/-- WModel.isSo -/
theorem m_162 {xs : Nat × (Nat → Int32)} (p0 : Int) (n : Int) (hp0 : 0 ≤ p0 ∧ p0 ≤ 4) (hn : 0 ≤ n ∧ n ≤ 5) (σ : ZS) (hI : Inv σ) (hW : WF σ) (hp : p0 < n) (s1 : σ 36 0 0 640 = n) : CT xs 3 162 [av 35 0 0, iv p0] σ (fun v σ' => ∃ y, v = some (iv y) ∧ (y = 0 ∨ y = 1) ∧ IF (MT 51 51 51 51) σ σ' ∧ (True)) := by
  refine G_ct (J := (fun σ' => IF (MT 51 51 51 51) σ σ' ∧ True)) (L := [(0, av 35 0 0), (1, iv p0)]) (nL := 8) rfl rfl rfl ⟨IF.rf hI, trivial⟩ ?_
  refine T_op zk_162_0 rfl X_ic (pc' := 1) rfl ?_
  refine T_st (L' := [(0, av 35 0 0), (1, iv p0), (2, iv 0)]) zk_162_1 (nL := 8) rfl rfl rfl rfl rfl (pc' := 2) rfl ?_
  refine T_op zk_162_2 rfl X_ic (pc' := 3) rfl ?_
  refine T_st (L' := [(0, av 35 0 0), (1, iv p0), (2, iv 0), (3, iv 0)]) zk_162_3 (nL := 8) rfl rfl rfl rfl rfl (pc' := 4) rfl ?_
  have hg0 : hgt (σ 45 0 0) (Int.toNat (120 * p0)) (Int.toNat 0) = 0 := rfl
  refine T_loop2 (fun x1 x2 => ((120 - x2 : Int)).toNat) (fun x1 x2 => (0 ≤ x1 ∧ x1 ≤ 59) ∧ (0 ≤ x2 ∧ x2 ≤ 120) ∧ x1 = hgt (σ 45 0 0) (Int.toNat (120 * p0)) (Int.toNat x2)) (fun x1 x2 => TJ xs (fun σ' => IF (MT 51 51 51 51) σ σ' ∧ True) 2 162 4 [(0, av 35 0 0), (1, iv p0), (2, iv x1), (3, iv x2)] [] _) ?_ 0 0 (by omega)
  intro x1 x2 hp4 ih3
  have hr := hI 45 0 0 (Int.toNat (120 * p0 + x2)) vd_45
  simp only [rgP] at hr
  have hq := hI 44 0 0 (Int.toNat p0) vd_44
  simp only [rgP] at hq
  have hw := fun q => hW.at (l := p0) (x := x2) (by omega) (by omega) (by omega) q
  refine T_ld zk_162_4 rfl rfl rfl (pc' := 5) rfl ?_
  refine T_ld zk_162_5 rfl rfl rfl (pc' := 6) rfl ?_
  refine T_getR (t' := 44) (i' := 0) (k' := 0) zk_162_6 rfl rfl rfl vd_35 (pc' := 9) rfl ?_
  refine T_ld zk_162_9 rfl rfl rfl (pc' := 10) rfl ?_
  refine G_ialdX (w := σ 44 0 0 (Int.toNat p0)) (ln := 6) zk_162_10 rfl rfl vd_44 (by omega) (by omega) (by omega) (fun σ' h => h.1.2 _ _ _ _ (by first | exact nMT rfl | (unfold MT; omega))) (pc' := 11) rfl ?_
  refine T_icmp_ge zk_162_11 (by omega) (by omega) (pc' := 14) rfl (fun h5 => ?_) (fun h6 => ?_)
  ·
    refine T_ld zk_162_220 rfl rfl rfl (pc' := 221) rfl ?_
    refine T_getR (t' := 51) (i' := 0) (k' := 0) zk_162_221 rfl rfl rfl vd_35 (pc' := 224) rfl ?_
    refine T_op zk_162_224 rfl X_ic (pc' := 225) rfl ?_
    refine G_iald (lo := -2147483648) (hi := 2147483647) (ln := 60) zk_162_225 rfl rfl vd_51 (by omega) (by omega) (by omega) (fun σ' h => h.1.1) (fun _ h => (by have q := h.1; omega)) (pc' := 226) rfl (fun y7 hy7 hy7' => ?_)
    refine T_op zk_162_226 rfl X_ic (pc' := 227) rfl ?_
    refine T_icmp_ne zk_162_227 (by omega) (by omega) (pc' := 230) rfl (fun h8 => ?_) (fun h9 => ?_)
    ·
      refine T_op zk_162_234 rfl X_ic (pc' := 235) rfl ?_
      exact T_zret zk_162_235 rfl (by omega) (fun σ' h => ⟨_, rfl, (by omega), h.1, trivial⟩)
    ·
      refine T_op zk_162_230 rfl X_ic (pc' := 231) rfl ?_
      refine T_goto zk_162_231 ?_
      exact T_zret zk_162_235 rfl (by omega) (fun σ' h => ⟨_, rfl, (by omega), h.1, trivial⟩)
  ·
    have hw := hw (by omega)
    refine T_ld zk_162_14 rfl rfl rfl (pc' := 15) rfl ?_
    refine T_getR (t' := 45) (i' := 0) (k' := 0) zk_162_15 rfl rfl rfl vd_35 (pc' := 18) rfl ?_
    refine T_op zk_162_18 rfl (X_bi (v := 120) (by decide)) (pc' := 20) rfl ?_
    refine T_ld zk_162_20 rfl rfl rfl (pc' := 21) rfl ?_
    refine T_op zk_162_21 rfl X_mul (pc' := 22) rfl ?_
    refine T_ld zk_162_22 rfl rfl rfl (pc' := 23) rfl ?_
    refine T_op zk_162_23 rfl X_add (pc' := 24) rfl ?_
    refine G_ialdX (w := σ 45 0 0 (Int.toNat (120 * p0 + x2))) (ln := 720) zk_162_24 rfl rfl vd_45 (by omega) (by omega) (by omega) (fun σ' h => h.1.2 _ _ _ _ (by first | exact nMT rfl | (unfold MT; omega))) (pc' := 25) rfl ?_
    refine T_st (L' := [(0, av 35 0 0), (1, iv p0), (2, iv x1), (3, iv x2), (4, iv (σ 45 0 0 (Int.toNat (120 * p0 + x2))))]) zk_162_25 (nL := 8) rfl rfl rfl rfl rfl (pc' := 27) rfl ?_
    refine T_ld zk_162_27 rfl rfl rfl (pc' := 29) rfl ?_
    refine T_if_lt zk_162_29 (by omega) (pc' := 32) rfl (fun h10 => ?_) (fun h11 => ?_)
    ·
      refine T_ld zk_162_136 rfl rfl rfl (pc' := 138) rfl ?_
      refine T_op zk_162_138 rfl X_ic (pc' := 139) rfl ?_
      refine T_icmp_ne zk_162_139 (by omega) (by omega) (pc' := 142) rfl (fun h12 => ?_) (fun h13 => ?_)
      ·
        refine T_iinc (L' := [(0, av 35 0 0), (1, iv p0), (2, iv (x1 + (-1))), (3, iv x2), (4, iv (σ 45 0 0 (Int.toNat (120 * p0 + x2))))]) zk_162_163 (nL := 8) rfl rfl rfl rfl (pc' := 166) rfl ?_
        refine T_ld zk_162_166 rfl rfl rfl (pc' := 167) rfl ?_
        refine T_getR (t' := 51) (i' := 0) (k' := 0) zk_162_167 rfl rfl rfl vd_35 (pc' := 170) rfl ?_
        refine T_ld zk_162_170 rfl rfl rfl (pc' := 171) rfl ?_
        refine T_op zk_162_171 rfl X_ic (pc' := 172) rfl ?_
        refine T_op zk_162_172 rfl X_sub (pc' := 173) rfl ?_
        refine T_ld zk_162_173 rfl rfl rfl (pc' := 175) rfl ?_
        refine T_op zk_162_175 rfl (X_bi (v := -2) (by decide)) (pc' := 177) rfl ?_
        refine T_icmp_ne zk_162_177 (by omega) (by omega) (pc' := 180) rfl (fun h14 => ?_) (fun h15 => ?_)
        ·
          refine T_ld zk_162_198 rfl rfl rfl (pc' := 199) rfl ?_
          refine T_getR (t' := 51) (i' := 0) (k' := 0) zk_162_199 rfl rfl rfl vd_35 (pc' := 202) rfl ?_
          refine T_ld zk_162_202 rfl rfl rfl (pc' := 203) rfl ?_
          refine T_op zk_162_203 rfl X_ic (pc' := 204) rfl ?_
          refine T_op zk_162_204 rfl X_sub (pc' := 205) rfl ?_
          refine G_iald (lo := -2147483648) (hi := 2147483647) (ln := 60) zk_162_205 rfl rfl vd_51 (by omega) (by omega) (by omega) (fun σ' h => h.1.1) (fun _ h => (by have q := h.1; omega)) (pc' := 206) rfl (fun y16 hy16 hy16' => ?_)
          refine T_ld zk_162_206 rfl rfl rfl (pc' := 207) rfl ?_
          refine T_getR (t' := 51) (i' := 0) (k' := 0) zk_162_207 rfl rfl rfl vd_35 (pc' := 210) rfl ?_
          refine T_ld zk_162_210 rfl rfl rfl (pc' := 211) rfl ?_
          refine G_iald (lo := -2147483648) (hi := 2147483647) (ln := 60) zk_162_211 rfl rfl vd_51 (by omega) (by omega) (by omega) (fun σ' h => h.1.1) (fun _ h => (by have q := h.1; omega)) (pc' := 212) rfl (fun y17 hy17 hy17' => ?_)
          refine G_unk zk_162_212 rfl (pc' := 213) rfl (fun y18 hy18 hy18' => ?_)
          refine G_iast (J' := (fun σ' => IF (MT 51 51 51 51) σ σ' ∧ True)) (ln := 60) zk_162_213 rfl rfl vd_51 (by omega) (by omega) (by omega) (fun σ' h => ⟨h.1.up ⟨by omega, trivial⟩ (by first | exact pMT rfl | (unfold MT; omega)), trivial⟩) (pc' := 214) rfl ?_
          refine T_iinc (L' := [(0, av 35 0 0), (1, iv p0), (2, iv (x1 + (-1))), (3, iv (x2 + 1)), (4, iv (σ 45 0 0 (Int.toNat (120 * p0 + x2))))]) zk_162_214 (nL := 8) rfl rfl rfl rfl (pc' := 217) rfl ?_
          refine T_goto zk_162_217 ?_
          refine T_loc (L := [(0, av 35 0 0), (1, iv p0), (2, iv (x1 + (-1))), (3, iv (x2 + 1))]) (E := [(4, iv (σ 45 0 0 (Int.toNat (120 * p0 + x2))))]) rfl ?_
          exact ih3 (x1 + (-1)) (x2 + 1) (by omega) (by omega)
        ·
          refine T_ld zk_162_180 rfl rfl rfl (pc' := 181) rfl ?_
          refine T_getR (t' := 51) (i' := 0) (k' := 0) zk_162_181 rfl rfl rfl vd_35 (pc' := 184) rfl ?_
          refine T_ld zk_162_184 rfl rfl rfl (pc' := 185) rfl ?_
          refine T_op zk_162_185 rfl X_ic (pc' := 186) rfl ?_
          refine T_op zk_162_186 rfl X_sub (pc' := 187) rfl ?_
          refine G_iald (lo := -2147483648) (hi := 2147483647) (ln := 60) zk_162_187 rfl rfl vd_51 (by omega) (by omega) (by omega) (fun σ' h => h.1.1) (fun _ h => (by have q := h.1; omega)) (pc' := 188) rfl (fun y19 hy19 hy19' => ?_)
          refine T_ld zk_162_188 rfl rfl rfl (pc' := 189) rfl ?_
          refine T_getR (t' := 51) (i' := 0) (k' := 0) zk_162_189 rfl rfl rfl vd_35 (pc' := 192) rfl ?_
          refine T_ld zk_162_192 rfl rfl rfl (pc' := 193) rfl ?_
          refine G_iald (lo := -2147483648) (hi := 2147483647) (ln := 60) zk_162_193 rfl rfl vd_51 (by omega) (by omega) (by omega) (fun σ' h => h.1.1) (fun _ h => (by have q := h.1; omega)) (pc' := 194) rfl (fun y20 hy20 hy20' => ?_)
          refine G_unk zk_162_194 rfl (pc' := 195) rfl (fun y21 hy21 hy21' => ?_)
          refine T_goto zk_162_195 ?_
          refine G_iast (J' := (fun σ' => IF (MT 51 51 51 51) σ σ' ∧ True)) (ln := 60) zk_162_213 rfl rfl vd_51 (by omega) (by omega) (by omega) (fun σ' h => ⟨h.1.up ⟨by omega, trivial⟩ (by first | exact pMT rfl | (unfold MT; omega)), trivial⟩) (pc' := 214) rfl ?_
          refine T_iinc (L' := [(0, av 35 0 0), (1, iv p0), (2, iv (x1 + (-1))), (3, iv (x2 + 1)), (4, iv (σ 45 0 0 (Int.toNat (120 * p0 + x2))))]) zk_162_214 (nL := 8) rfl rfl rfl rfl (pc' := 217) rfl ?_
          refine T_goto zk_162_217 ?_
          refine T_loc (L := [(0, av 35 0 0), (1, iv p0), (2, iv (x1 + (-1))), (3, iv (x2 + 1))]) (E := [(4, iv (σ 45 0 0 (Int.toNat (120 * p0 + x2))))]) rfl ?_
          exact ih3 (x1 + (-1)) (x2 + 1) (by omega) (by omega)
      ·
        refine T_ld zk_162_142 rfl rfl rfl (pc' := 143) rfl ?_
        refine T_getR (t' := 51) (i' := 0) (k' := 0) zk_162_143 rfl rfl rfl vd_35 (pc' := 146) rfl ?_
        refine T_ld zk_162_146 rfl rfl rfl (pc' := 147) rfl ?_
        refine T_op zk_162_147 rfl X_ic (pc' := 148) rfl ?_
        refine T_op zk_162_148 rfl X_sub (pc' := 149) rfl ?_
        refine T_op zk_162_149 rfl X_ic (pc' := 150) rfl ?_
        refine T_ld zk_162_150 rfl rfl rfl (pc' := 151) rfl ?_
        refine T_getR (t' := 51) (i' := 0) (k' := 0) zk_162_151 rfl rfl rfl vd_35 (pc' := 154) rfl ?_
        refine T_ld zk_162_154 rfl rfl rfl (pc' := 155) rfl ?_
        refine T_op zk_162_155 rfl X_ic (pc' := 156) rfl ?_
        refine T_op zk_162_156 rfl X_sub (pc' := 157) rfl ?_
        refine G_iald (lo := -2147483648) (hi := 2147483647) (ln := 60) zk_162_157 rfl rfl vd_51 (by omega) (by omega) (by omega) (fun σ' h => h.1.1) (fun _ h => (by have q := h.1; omega)) (pc' := 158) rfl (fun y22 hy22 hy22' => ?_)
        refine G_unk zk_162_158 rfl (pc' := 159) rfl (fun y23 hy23 hy23' => ?_)
        refine G_iast (J' := (fun σ' => IF (MT 51 51 51 51) σ σ' ∧ True)) (ln := 60) zk_162_159 rfl rfl vd_51 (by omega) (by omega) (by omega) (fun σ' h => ⟨h.1.up ⟨by omega, trivial⟩ (by first | exact pMT rfl | (unfold MT; omega)), trivial⟩) (pc' := 160) rfl ?_
        refine T_goto zk_162_160 ?_
        refine T_iinc (L' := [(0, av 35 0 0), (1, iv p0), (2, iv x1), (3, iv (x2 + 1)), (4, iv (σ 45 0 0 (Int.toNat (120 * p0 + x2))))]) zk_162_214 (nL := 8) rfl rfl rfl rfl (pc' := 217) rfl ?_
        refine T_goto zk_162_217 ?_
        refine T_loc (L := [(0, av 35 0 0), (1, iv p0), (2, iv x1), (3, iv (x2 + 1))]) (E := [(4, iv (σ 45 0 0 (Int.toNat (120 * p0 + x2))))]) rfl ?_
        exact ih3 x1 (x2 + 1) (by omega) (by omega)
    ·
      refine T_ld zk_162_32 rfl rfl rfl (pc' := 33) rfl ?_
      refine T_ld zk_162_33 rfl rfl rfl (pc' := 34) rfl ?_
      refine T_getR (t' := 46) (i' := 0) (k' := 0) zk_162_34 rfl rfl rfl vd_35 (pc' := 37) rfl ?_
      refine T_op zk_162_37 rfl (X_bi (v := 50) (by decide)) (pc' := 39) rfl ?_
      refine T_ld zk_162_39 rfl rfl rfl (pc' := 40) rfl ?_
      refine T_op zk_162_40 rfl X_mul (pc' := 41) rfl ?_
      refine T_ld zk_162_41 rfl rfl rfl (pc' := 43) rfl ?_
      refine T_op zk_162_43 rfl X_add (pc' := 44) rfl ?_
      refine G_iald (lo := -2147483648) (hi := 2147483647) (ln := 300) zk_162_44 rfl rfl vd_46 (by omega) (by omega) (by omega) (fun σ' h => h.1.1) (fun _ h => (by have q := h.1; omega)) (pc' := 45) rfl (fun y24 hy24 hy24' => ?_)
      refine T_calli (K := fun y25 σ' => (-2147483648 ≤ y25 ∧ y25 ≤ 2147483647) ∧ (fun σ' => IF (MT 51 51 51 51) σ σ' ∧ True) σ') (r := []) zk_162_45 rfl rfl rfl rfl rfl rfl (Or.inr ⟨_, _, _, _, rfl, vd_35, rfl⟩) (fun σ' h => (m_161 y24 (by omega) σ' h.1.1 ).le (Nat.le_of_ble_eq_true rfl) (fun v σ2 ⟨y, h1, h2, h3, h4⟩ => ⟨y, h1, h2, h.1.tr h3 MN_sub, trivial⟩)) (pc' := 48) rfl (fun y25 => ?_)
      refine G_ex (fun hy25 => ?_)
      refine T_st (L' := [(0, av 35 0 0), (1, iv p0), (2, iv x1), (3, iv x2), (4, iv (σ 45 0 0 (Int.toNat (120 * p0 + x2)))), (5, iv y25)]) zk_162_48 (nL := 8) rfl rfl rfl rfl rfl (pc' := 50) rfl ?_
      refine T_ld zk_162_50 rfl rfl rfl (pc' := 51) rfl ?_
      refine T_getR (t' := 48) (i' := 0) (k' := 0) zk_162_51 rfl rfl rfl vd_35 (pc' := 54) rfl ?_
      refine T_op zk_162_54 rfl (X_bi (v := 50) (by decide)) (pc' := 56) rfl ?_
      refine T_ld zk_162_56 rfl rfl rfl (pc' := 57) rfl ?_
      refine T_op zk_162_57 rfl X_mul (pc' := 58) rfl ?_
      refine T_ld zk_162_58 rfl rfl rfl (pc' := 60) rfl ?_
      refine T_op zk_162_60 rfl X_add (pc' := 61) rfl ?_
      refine G_iald (lo := -2147483648) (hi := 2147483647) (ln := 300) zk_162_61 rfl rfl vd_48 (by omega) (by omega) (by omega) (fun σ' h => h.1.1) (fun _ h => (by have q := h.1; omega)) (pc' := 62) rfl (fun y26 hy26 hy26' => ?_)
      refine T_st (L' := [(0, av 35 0 0), (1, iv p0), (2, iv x1), (3, iv x2), (4, iv (σ 45 0 0 (Int.toNat (120 * p0 + x2)))), (5, iv y25), (6, iv y26)]) zk_162_62 (nL := 8) rfl rfl rfl rfl rfl (pc' := 64) rfl ?_
      refine T_ld zk_162_64 rfl rfl rfl (pc' := 65) rfl ?_
      refine T_getR (t' := 47) (i' := 0) (k' := 0) zk_162_65 rfl rfl rfl vd_35 (pc' := 68) rfl ?_
      refine T_op zk_162_68 rfl (X_bi (v := 50) (by decide)) (pc' := 70) rfl ?_
      refine T_ld zk_162_70 rfl rfl rfl (pc' := 71) rfl ?_
      refine T_op zk_162_71 rfl X_mul (pc' := 72) rfl ?_
      refine T_ld zk_162_72 rfl rfl rfl (pc' := 74) rfl ?_
      refine T_op zk_162_74 rfl X_add (pc' := 75) rfl ?_
      refine G_iald (lo := -2147483648) (hi := 2147483647) (ln := 300) zk_162_75 rfl rfl vd_47 (by omega) (by omega) (by omega) (fun σ' h => h.1.1) (fun _ h => (by have q := h.1; omega)) (pc' := 76) rfl (fun y27 hy27 hy27' => ?_)
      refine T_st (L' := [(0, av 35 0 0), (1, iv p0), (2, iv x1), (3, iv x2), (4, iv (σ 45 0 0 (Int.toNat (120 * p0 + x2)))), (5, iv y25), (6, iv y26), (7, iv y27)]) zk_162_76 (nL := 8) rfl rfl rfl rfl rfl (pc' := 78) rfl ?_
      refine T_ld zk_162_78 rfl rfl rfl (pc' := 79) rfl ?_
      refine T_getR (t' := 51) (i' := 0) (k' := 0) zk_162_79 rfl rfl rfl vd_35 (pc' := 82) rfl ?_
      refine T_ld zk_162_82 rfl rfl rfl (pc' := 83) rfl ?_
      refine T_iinc (L' := [(0, av 35 0 0), (1, iv p0), (2, iv (x1 + 1)), (3, iv x2), (4, iv (σ 45 0 0 (Int.toNat (120 * p0 + x2)))), (5, iv y25), (6, iv y26), (7, iv y27)]) zk_162_83 (nL := 8) rfl rfl rfl rfl (pc' := 86) rfl ?_
      refine T_ld zk_162_86 rfl rfl rfl (pc' := 88) rfl ?_
      refine T_op zk_162_88 rfl (X_bi (v := 60) (by decide)) (pc' := 90) rfl ?_
      refine T_icmp_ne zk_162_90 (by omega) (by omega) (pc' := 93) rfl (fun h28 => ?_) (fun h29 => ?_)
      ·
        refine T_ld zk_162_103 rfl rfl rfl (pc' := 105) rfl ?_
        refine T_op zk_162_105 rfl (X_bi (v := 62) (by decide)) (pc' := 107) rfl ?_
        refine T_icmp_ne zk_162_107 (by omega) (by omega) (pc' := 110) rfl (fun h30 => ?_) (fun h31 => ?_)
        ·
          refine T_ld zk_162_120 rfl rfl rfl (pc' := 122) rfl ?_
          refine T_ld zk_162_122 rfl rfl rfl (pc' := 124) rfl ?_
          refine T_icmp_ne zk_162_124 (by omega) (by omega) (pc' := 127) rfl (fun h32 => ?_) (fun h33 => ?_)
          ·
            refine T_op zk_162_131 rfl X_ic (pc' := 132) rfl ?_
            refine G_iast (J' := (fun σ' => IF (MT 51 51 51 51) σ σ' ∧ True)) (ln := 60) zk_162_132 rfl rfl vd_51 (by omega) (by omega) (by omega) (fun σ' h => ⟨h.1.up ⟨by omega, trivial⟩ (by first | exact pMT rfl | (unfold MT; omega)), trivial⟩) (pc' := 133) rfl ?_
            refine T_goto zk_162_133 ?_
            refine T_iinc (L' := [(0, av 35 0 0), (1, iv p0), (2, iv (x1 + 1)), (3, iv (x2 + 1)), (4, iv (σ 45 0 0 (Int.toNat (120 * p0 + x2)))), (5, iv y25), (6, iv y26), (7, iv y27)]) zk_162_214 (nL := 8) rfl rfl rfl rfl (pc' := 217) rfl ?_
            refine T_goto zk_162_217 ?_
            refine T_loc (L := [(0, av 35 0 0), (1, iv p0), (2, iv (x1 + 1)), (3, iv (x2 + 1))]) (E := [(4, iv (σ 45 0 0 (Int.toNat (120 * p0 + x2)))), (5, iv y25), (6, iv y26), (7, iv y27)]) rfl ?_
            exact ih3 (x1 + 1) (x2 + 1) (by omega) (by omega)
          ·
            refine T_op zk_162_127 rfl X_ic (pc' := 128) rfl ?_
            refine T_goto zk_162_128 ?_
            refine G_iast (J' := (fun σ' => IF (MT 51 51 51 51) σ σ' ∧ True)) (ln := 60) zk_162_132 rfl rfl vd_51 (by omega) (by omega) (by omega) (fun σ' h => ⟨h.1.up ⟨by omega, trivial⟩ (by first | exact pMT rfl | (unfold MT; omega)), trivial⟩) (pc' := 133) rfl ?_
            refine T_goto zk_162_133 ?_
            refine T_iinc (L' := [(0, av 35 0 0), (1, iv p0), (2, iv (x1 + 1)), (3, iv (x2 + 1)), (4, iv (σ 45 0 0 (Int.toNat (120 * p0 + x2)))), (5, iv y25), (6, iv y26), (7, iv y27)]) zk_162_214 (nL := 8) rfl rfl rfl rfl (pc' := 217) rfl ?_
            refine T_goto zk_162_217 ?_
            refine T_loc (L := [(0, av 35 0 0), (1, iv p0), (2, iv (x1 + 1)), (3, iv (x2 + 1))]) (E := [(4, iv (σ 45 0 0 (Int.toNat (120 * p0 + x2)))), (5, iv y25), (6, iv y26), (7, iv y27)]) rfl ?_
            exact ih3 (x1 + 1) (x2 + 1) (by omega) (by omega)
        ·
          refine T_ld zk_162_110 rfl rfl rfl (pc' := 112) rfl ?_
          refine T_ld zk_162_112 rfl rfl rfl (pc' := 114) rfl ?_
          refine T_icmp_le zk_162_114 (by omega) (by omega) (pc' := 117) rfl (fun h34 => ?_) (fun h35 => ?_)
          ·
            refine T_op zk_162_131 rfl X_ic (pc' := 132) rfl ?_
            refine G_iast (J' := (fun σ' => IF (MT 51 51 51 51) σ σ' ∧ True)) (ln := 60) zk_162_132 rfl rfl vd_51 (by omega) (by omega) (by omega) (fun σ' h => ⟨h.1.up ⟨by omega, trivial⟩ (by first | exact pMT rfl | (unfold MT; omega)), trivial⟩) (pc' := 133) rfl ?_
            refine T_goto zk_162_133 ?_
            refine T_iinc (L' := [(0, av 35 0 0), (1, iv p0), (2, iv (x1 + 1)), (3, iv (x2 + 1)), (4, iv (σ 45 0 0 (Int.toNat (120 * p0 + x2)))), (5, iv y25), (6, iv y26), (7, iv y27)]) zk_162_214 (nL := 8) rfl rfl rfl rfl (pc' := 217) rfl ?_
            refine T_goto zk_162_217 ?_
            refine T_loc (L := [(0, av 35 0 0), (1, iv p0), (2, iv (x1 + 1)), (3, iv (x2 + 1))]) (E := [(4, iv (σ 45 0 0 (Int.toNat (120 * p0 + x2)))), (5, iv y25), (6, iv y26), (7, iv y27)]) rfl ?_
            exact ih3 (x1 + 1) (x2 + 1) (by omega) (by omega)
          ·
            refine T_goto zk_162_117 ?_
            refine T_op zk_162_127 rfl X_ic (pc' := 128) rfl ?_
            refine T_goto zk_162_128 ?_
            refine G_iast (J' := (fun σ' => IF (MT 51 51 51 51) σ σ' ∧ True)) (ln := 60) zk_162_132 rfl rfl vd_51 (by omega) (by omega) (by omega) (fun σ' h => ⟨h.1.up ⟨by omega, trivial⟩ (by first | exact pMT rfl | (unfold MT; omega)), trivial⟩) (pc' := 133) rfl ?_
            refine T_goto zk_162_133 ?_
            refine T_iinc (L' := [(0, av 35 0 0), (1, iv p0), (2, iv (x1 + 1)), (3, iv (x2 + 1)), (4, iv (σ 45 0 0 (Int.toNat (120 * p0 + x2)))), (5, iv y25), (6, iv y26), (7, iv y27)]) zk_162_214 (nL := 8) rfl rfl rfl rfl (pc' := 217) rfl ?_
            refine T_goto zk_162_217 ?_
            refine T_loc (L := [(0, av 35 0 0), (1, iv p0), (2, iv (x1 + 1)), (3, iv (x2 + 1))]) (E := [(4, iv (σ 45 0 0 (Int.toNat (120 * p0 + x2)))), (5, iv y25), (6, iv y26), (7, iv y27)]) rfl ?_
            exact ih3 (x1 + 1) (x2 + 1) (by omega) (by omega)
      ·
        refine T_ld zk_162_93 rfl rfl rfl (pc' := 95) rfl ?_
        refine T_ld zk_162_95 rfl rfl rfl (pc' := 97) rfl ?_
        refine T_icmp_ge zk_162_97 (by omega) (by omega) (pc' := 100) rfl (fun h36 => ?_) (fun h37 => ?_)
        ·
          refine T_op zk_162_131 rfl X_ic (pc' := 132) rfl ?_
          refine G_iast (J' := (fun σ' => IF (MT 51 51 51 51) σ σ' ∧ True)) (ln := 60) zk_162_132 rfl rfl vd_51 (by omega) (by omega) (by omega) (fun σ' h => ⟨h.1.up ⟨by omega, trivial⟩ (by first | exact pMT rfl | (unfold MT; omega)), trivial⟩) (pc' := 133) rfl ?_
          refine T_goto zk_162_133 ?_
          refine T_iinc (L' := [(0, av 35 0 0), (1, iv p0), (2, iv (x1 + 1)), (3, iv (x2 + 1)), (4, iv (σ 45 0 0 (Int.toNat (120 * p0 + x2)))), (5, iv y25), (6, iv y26), (7, iv y27)]) zk_162_214 (nL := 8) rfl rfl rfl rfl (pc' := 217) rfl ?_
          refine T_goto zk_162_217 ?_
          refine T_loc (L := [(0, av 35 0 0), (1, iv p0), (2, iv (x1 + 1)), (3, iv (x2 + 1))]) (E := [(4, iv (σ 45 0 0 (Int.toNat (120 * p0 + x2)))), (5, iv y25), (6, iv y26), (7, iv y27)]) rfl ?_
          exact ih3 (x1 + 1) (x2 + 1) (by omega) (by omega)
        ·
          refine T_goto zk_162_100 ?_
          refine T_op zk_162_127 rfl X_ic (pc' := 128) rfl ?_
          refine T_goto zk_162_128 ?_
          refine G_iast (J' := (fun σ' => IF (MT 51 51 51 51) σ σ' ∧ True)) (ln := 60) zk_162_132 rfl rfl vd_51 (by omega) (by omega) (by omega) (fun σ' h => ⟨h.1.up ⟨by omega, trivial⟩ (by first | exact pMT rfl | (unfold MT; omega)), trivial⟩) (pc' := 133) rfl ?_
          refine T_goto zk_162_133 ?_
          refine T_iinc (L' := [(0, av 35 0 0), (1, iv p0), (2, iv (x1 + 1)), (3, iv (x2 + 1)), (4, iv (σ 45 0 0 (Int.toNat (120 * p0 + x2)))), (5, iv y25), (6, iv y26), (7, iv y27)]) zk_162_214 (nL := 8) rfl rfl rfl rfl (pc' := 217) rfl ?_
          refine T_goto zk_162_217 ?_
          refine T_loc (L := [(0, av 35 0 0), (1, iv p0), (2, iv (x1 + 1)), (3, iv (x2 + 1))]) (E := [(4, iv (σ 45 0 0 (Int.toNat (120 * p0 + x2)))), (5, iv y25), (6, iv y26), (7, iv y27)]) rfl ?_
          exact ih3 (x1 + 1) (x2 + 1) (by omega) (by omega)
/-- WModel.says -/
theorem m_163 {xs : Nat × (Nat → Int32)} (p0 : Int) (hp0 : -2147483648 ≤ p0 ∧ p0 ≤ 2147483647) (σ : ZS) (hI : Inv σ) (hW : WF σ)  : CT xs 4 163 [av 35 0 0, iv p0] σ (fun v σ' => ∃ y, v = some (iv y) ∧ (-2147483648 ≤ y ∧ y ≤ 2147483647) ∧ IF (MT 51 51 51 51) σ σ' ∧ (True)) := by
  refine G_ct (J := (fun σ' => IF (MT 51 51 51 51) σ σ' ∧ True)) (L := [(0, av 35 0 0), (1, iv p0)]) (nL := 2) rfl rfl rfl ⟨IF.rf hI, trivial⟩ ?_
  refine T_ld zk_163_0 rfl rfl rfl (pc' := 1) rfl ?_
  refine T_ld zk_163_1 rfl rfl rfl (pc' := 2) rfl ?_
  refine G_learn (t := 36) (i := 0) (k := 0) (j := 640) (lo := 0) (hi := 5) (J2 := fun y1 => (fun σ' => IF (MT 51 51 51 51) σ σ' ∧ σ' 36 0 0 640 = y1 ∧ True)) (vd_36 (by omega)) (fun σ' h => h.1.1) (fun _ h => h.2.2.2.2.2.2.2.2.2.2.2.1 (by omega) (by omega)) (fun σ' y h hy => ⟨h.1, hy, trivial⟩) (fun y1 hy1 hy1' => ?_)
  refine T_calli (K := fun y2 σ' => ((y2 = 0 ∧ (p0 < 0 ∨ y1 ≤ p0)) ∨ (y2 = 1 ∧ 0 ≤ p0 ∧ p0 < y1)) ∧ (fun σ' => IF (MT 51 51 51 51) σ σ' ∧ σ' 36 0 0 640 = y1 ∧ True) σ') (r := []) zk_163_2 rfl rfl rfl rfl rfl rfl (Or.inr ⟨_, _, _, _, rfl, vd_35, rfl⟩) (fun σ' h => (m_157 p0 y1 (by omega) (by omega) σ' h.1.1 (h.2.1)).le (Nat.le_of_ble_eq_true rfl) (fun v σ2 ⟨y, h1, h2, h3, h4⟩ => ⟨y, h1, h2, h.1.tr h3 MN_sub, (h3.2 _ _ _ _ (fun q => q)).trans (h.2.1), trivial⟩)) (pc' := 5) rfl (fun y2 => ?_)
  refine G_ex (fun hy2 => ?_)
  refine T_if_eq zk_163_5 (by omega) (pc' := 8) rfl (fun h3 => ?_) (fun h4 => ?_)
  ·
    refine T_op zk_163_24 rfl X_ic (pc' := 25) rfl ?_
    exact T_iret zk_163_25 rfl (fun σ' h => ⟨_, rfl, (by omega), h.1, trivial⟩)
  ·
    refine T_ld zk_163_8 rfl rfl rfl (pc' := 9) rfl ?_
    refine T_ld zk_163_9 rfl rfl rfl (pc' := 10) rfl ?_
    refine T_calli (K := fun y5 σ' => (y5 = 0 ∨ y5 = 1) ∧ (fun σ' => IF (MT 51 51 51 51) σ σ' ∧ σ' 36 0 0 640 = y1 ∧ True) σ') (r := []) zk_163_10 rfl rfl rfl rfl rfl rfl (Or.inr ⟨_, _, _, _, rfl, vd_35, rfl⟩) (fun σ' h => (m_162 p0 y1 (by omega) (by omega) σ' h.1.1 (hW.fr (fun _ => h.1.2 _ _ _ _ (by first | exact nMT rfl | (unfold MT; omega))) (fun _ => h.1.2 _ _ _ _ (by first | exact nMT rfl | (unfold MT; omega))) (h.1.2 _ _ _ _ (by first | exact nMT rfl | (unfold MT; omega)))) (by omega) (h.2.1)).le (Nat.le_of_ble_eq_true rfl) (fun v σ2 ⟨y, h1, h2, h3, h4⟩ => ⟨y, h1, h2, h.1.tr h3 (fun _ _ _ _ h => h), (h3.2 _ _ _ _ (by first | exact nMT rfl | (unfold MT; omega))).trans (h.2.1), trivial⟩)) (pc' := 13) rfl (fun y5 => ?_)
    refine G_ex (fun hy5 => ?_)
    refine T_if_eq zk_163_13 (by omega) (pc' := 16) rfl (fun h6 => ?_) (fun h7 => ?_)
    ·
      refine T_op zk_163_20 rfl X_ic (pc' := 21) rfl ?_
      refine T_goto zk_163_21 ?_
      exact T_iret zk_163_25 rfl (fun σ' h => ⟨_, rfl, (by omega), h.1, trivial⟩)
    ·
      refine T_op zk_163_16 rfl X_ic (pc' := 17) rfl ?_
      refine T_goto zk_163_17 ?_
      exact T_iret zk_163_25 rfl (fun σ' h => ⟨_, rfl, (by omega), h.1, trivial⟩)
