theorem zk_147_0 : zc 147 0 = some (.iload_n 1, 0, 0, 0, 0) := rfl
theorem zk_147_1 : zc 147 1 = some (.ifCond .lt 48, 49, 0, 0, 0) := rfl
theorem zk_147_4 : zc 147 4 = some (.iload_n 1, 0, 0, 0, 0) := rfl
theorem zk_147_5 : zc 147 5 = some (.iconst 2, 0, 0, 0, 0) := rfl
theorem zk_147_6 : zc 147 6 = some (.if_icmp .gt 43, 49, 0, 0, 0) := rfl
theorem zk_147_9 : zc 147 9 = some (.iload_n 2, 0, 0, 0, 0) := rfl
theorem zk_147_10 : zc 147 10 = some (.iload_n 1, 0, 0, 0, 0) := rfl
theorem zk_147_11 : zc 147 11 = some (.iconst 1, 0, 0, 0, 0) := rfl
theorem zk_147_12 : zc 147 12 = some (.if_icmp .ne 7, 19, 0, 0, 0) := rfl
theorem zk_147_15 : zc 147 15 = some (.iconst 1, 0, 0, 0, 0) := rfl
theorem zk_147_16 : zc 147 16 = some (.goto 4, 20, 0, 0, 0) := rfl
theorem zk_147_19 : zc 147 19 = some (.iconst 0, 0, 0, 0, 0) := rfl
theorem zk_147_20 : zc 147 20 = some (.if_icmp .lt 29, 49, 0, 0, 0) := rfl
theorem zk_147_23 : zc 147 23 = some (.iload_n 2, 0, 0, 0, 0) := rfl
theorem zk_147_24 : zc 147 24 = some (.iload_n 1, 0, 0, 0, 0) := rfl
theorem zk_147_25 : zc 147 25 = some (.ifCond .ne 8, 33, 0, 0, 0) := rfl
theorem zk_147_28 : zc 147 28 = some (.bipush 99, 0, 0, 0, 0) := rfl
theorem zk_147_30 : zc 147 30 = some (.goto 16, 46, 0, 0, 0) := rfl
theorem zk_147_33 : zc 147 33 = some (.iload_n 1, 0, 0, 0, 0) := rfl
theorem zk_147_34 : zc 147 34 = some (.iconst 1, 0, 0, 0, 0) := rfl
theorem zk_147_35 : zc 147 35 = some (.if_icmp .ne 8, 43, 0, 0, 0) := rfl
theorem zk_147_38 : zc 147 38 = some (.bipush 9, 0, 0, 0, 0) := rfl
theorem zk_147_40 : zc 147 40 = some (.goto 6, 46, 0, 0, 0) := rfl
theorem zk_147_43 : zc 147 43 = some (.sipush 9999, 0, 0, 0, 0) := rfl
theorem zk_147_46 : zc 147 46 = some (.if_icmp .le 10, 56, 0, 0, 0) := rfl
theorem zk_147_49 : zc 147 49 = some (.aload_n 0, 0, 0, 0, 0) := rfl
theorem zk_147_50 : zc 147 50 = some (.bipush (-6), 0, 0, 0, 0) := rfl
theorem zk_147_52 : zc 147 52 = some (.invokevirtual 103, 123, 0, 2, 129) := rfl
theorem zk_147_55 : zc 147 55 = some (.ireturn, 0, 0, 0, 0) := rfl
theorem zk_147_56 : zc 147 56 = some (.aload_n 0, 0, 0, 0, 0) := rfl
theorem zk_147_57 : zc 147 57 = some (.getfield 7, 11, 0, 0, 139) := rfl
theorem zk_147_60 : zc 147 60 = some (.sipush 637, 0, 0, 0, 0) := rfl
theorem zk_147_63 : zc 147 63 = some (.iload_n 1, 0, 0, 0, 0) := rfl
theorem zk_147_64 : zc 147 64 = some (.iadd, 0, 0, 0, 0) := rfl
theorem zk_147_65 : zc 147 65 = some (.iaload, 0, 0, 0, 0) := rfl
theorem zk_147_66 : zc 147 66 = some (.istore_n 3, 0, 0, 0, 0) := rfl
theorem zk_147_67 : zc 147 67 = some (.aload_n 0, 0, 0, 0, 0) := rfl
theorem zk_147_68 : zc 147 68 = some (.getfield 7, 11, 0, 0, 139) := rfl
theorem zk_147_71 : zc 147 71 = some (.sipush 637, 0, 0, 0, 0) := rfl
theorem zk_147_74 : zc 147 74 = some (.iload_n 1, 0, 0, 0, 0) := rfl
theorem zk_147_75 : zc 147 75 = some (.iadd, 0, 0, 0, 0) := rfl
theorem zk_147_76 : zc 147 76 = some (.iload_n 2, 0, 0, 0, 0) := rfl
theorem zk_147_77 : zc 147 77 = some (.iastore, 0, 0, 0, 0) := rfl
theorem zk_147_78 : zc 147 78 = some (.iload_n 3, 0, 0, 0, 0) := rfl
theorem zk_147_79 : zc 147 79 = some (.ireturn, 0, 0, 0, 0) := rfl
theorem zk_183_0 : zc 183 0 = some (.iload_n 1, 0, 0, 0, 0) := rfl
theorem zk_183_1 : zc 183 1 = some (.invokestatic 99, 124, 1, 1, 128) := rfl
theorem zk_183_4 : zc 183 4 = some (.ifCond .ne 9, 13, 0, 0, 0) := rfl
theorem zk_183_7 : zc 183 7 = some (.aload_n 0, 0, 0, 0, 0) := rfl
theorem zk_183_8 : zc 183 8 = some (.iconst (-1), 0, 0, 0, 0) := rfl
theorem zk_183_9 : zc 183 9 = some (.invokevirtual 103, 123, 0, 2, 129) := rfl
theorem zk_183_12 : zc 183 12 = some (.ireturn, 0, 0, 0, 0) := rfl
theorem zk_183_13 : zc 183 13 = some (.iload_n 2, 0, 0, 0, 0) := rfl
theorem zk_183_14 : zc 183 14 = some (.iconst 1, 0, 0, 0, 0) := rfl
theorem zk_183_15 : zc 183 15 = some (.if_icmp .lt 24, 39, 0, 0, 0) := rfl
theorem zk_183_18 : zc 183 18 = some (.iload_n 2, 0, 0, 0, 0) := rfl
theorem zk_183_19 : zc 183 19 = some (.bipush 20, 0, 0, 0, 0) := rfl
theorem zk_183_21 : zc 183 21 = some (.if_icmp .gt 18, 39, 0, 0, 0) := rfl
theorem zk_183_24 : zc 183 24 = some (.aload_n 0, 0, 0, 0, 0) := rfl
theorem zk_183_25 : zc 183 25 = some (.getfield 7, 11, 0, 0, 139) := rfl
theorem zk_183_28 : zc 183 28 = some (.iconst 0, 0, 0, 0, 0) := rfl
theorem zk_183_29 : zc 183 29 = some (.iload_n 1, 0, 0, 0, 0) := rfl
theorem zk_183_30 : zc 183 30 = some (.iadd, 0, 0, 0, 0) := rfl
theorem zk_183_31 : zc 183 31 = some (.iaload, 0, 0, 0, 0) := rfl
theorem zk_183_32 : zc 183 32 = some (.iload_n 2, 0, 0, 0, 0) := rfl
theorem zk_183_33 : zc 183 33 = some (.iadd, 0, 0, 0, 0) := rfl
theorem zk_183_34 : zc 183 34 = some (.bipush 60, 0, 0, 0, 0) := rfl
theorem zk_183_36 : zc 183 36 = some (.if_icmp .le 10, 46, 0, 0, 0) := rfl
theorem zk_183_39 : zc 183 39 = some (.aload_n 0, 0, 0, 0, 0) := rfl
theorem zk_183_40 : zc 183 40 = some (.bipush (-6), 0, 0, 0, 0) := rfl
theorem zk_183_42 : zc 183 42 = some (.invokevirtual 103, 123, 0, 2, 129) := rfl
theorem zk_183_45 : zc 183 45 = some (.ireturn, 0, 0, 0, 0) := rfl
theorem zk_183_46 : zc 183 46 = some (.aload_n 0, 0, 0, 0, 0) := rfl
theorem zk_183_47 : zc 183 47 = some (.getfield 7, 11, 0, 0, 139) := rfl
theorem zk_183_50 : zc 183 50 = some (.iconst 0, 0, 0, 0, 0) := rfl
theorem zk_183_51 : zc 183 51 = some (.iload_n 1, 0, 0, 0, 0) := rfl
theorem zk_183_52 : zc 183 52 = some (.iadd, 0, 0, 0, 0) := rfl
theorem zk_183_53 : zc 183 53 = some (.dup2, 0, 0, 0, 0) := rfl
theorem zk_183_54 : zc 183 54 = some (.iaload, 0, 0, 0, 0) := rfl
theorem zk_183_55 : zc 183 55 = some (.iload_n 2, 0, 0, 0, 0) := rfl
theorem zk_183_56 : zc 183 56 = some (.iadd, 0, 0, 0, 0) := rfl
theorem zk_183_57 : zc 183 57 = some (.iastore, 0, 0, 0, 0) := rfl
theorem zk_183_58 : zc 183 58 = some (.aload_n 0, 0, 0, 0, 0) := rfl
theorem zk_183_59 : zc 183 59 = some (.getfield 7, 11, 0, 0, 139) := rfl
theorem zk_183_62 : zc 183 62 = some (.iconst 0, 0, 0, 0, 0) := rfl
theorem zk_183_63 : zc 183 63 = some (.iload_n 1, 0, 0, 0, 0) := rfl
theorem zk_183_64 : zc 183 64 = some (.iadd, 0, 0, 0, 0) := rfl
theorem zk_183_65 : zc 183 65 = some (.iaload, 0, 0, 0, 0) := rfl
theorem zk_183_66 : zc 183 66 = some (.ireturn, 0, 0, 0, 0) := rfl
theorem zk_188_0 : zc 188 0 = some (.iload_n 1, 0, 0, 0, 0) := rfl
theorem zk_188_1 : zc 188 1 = some (.bipush 10, 0, 0, 0, 0) := rfl
theorem zk_188_3 : zc 188 3 = some (.if_icmp .le 19, 22, 0, 0, 0) := rfl
theorem zk_188_6 : zc 188 6 = some (.iload_n 1, 0, 0, 0, 0) := rfl
theorem zk_188_7 : zc 188 7 = some (.bipush 18, 0, 0, 0, 0) := rfl
theorem zk_188_9 : zc 188 9 = some (.if_icmp .ge 13, 22, 0, 0, 0) := rfl
theorem zk_188_12 : zc 188 12 = some (.aload_n 0, 0, 0, 0, 0) := rfl
theorem zk_188_13 : zc 188 13 = some (.getfield 60, 11, 17, 0, 155) := rfl
theorem zk_188_16 : zc 188 16 = some (.iload_n 1, 0, 0, 0, 0) := rfl
theorem zk_188_17 : zc 188 17 = some (.bipush 10, 0, 0, 0, 0) := rfl
theorem zk_188_19 : zc 188 19 = some (.isub, 0, 0, 0, 0) := rfl
theorem zk_188_20 : zc 188 20 = some (.iaload, 0, 0, 0, 0) := rfl
theorem zk_188_21 : zc 188 21 = some (.ireturn, 0, 0, 0, 0) := rfl
theorem zk_188_22 : zc 188 22 = some (.iconst 0, 0, 0, 0, 0) := rfl
theorem zk_188_23 : zc 188 23 = some (.istore_n 2, 0, 0, 0, 0) := rfl
theorem zk_188_24 : zc 188 24 = some (.iload_n 1, 0, 0, 0, 0) := rfl
theorem zk_188_25 : zc 188 25 = some (.tableswitch 266 0 18 #[91, 100, 135, 144, 179, 188, 197, 202, 211, 220, 229, 266, 266, 266, 266, 266, 266, 266, 257], 0, 0, 0, 0) := rfl
theorem zk_188_116 : zc 188 116 = some (.aload_n 0, 0, 0, 0, 0) := rfl
theorem zk_188_117 : zc 188 117 = some (.getfield 7, 11, 0, 0, 139) := rfl
theorem zk_188_120 : zc 188 120 = some (.sipush 633, 0, 0, 0, 0) := rfl
theorem zk_188_123 : zc 188 123 = some (.iaload, 0, 0, 0, 0) := rfl
theorem zk_188_124 : zc 188 124 = some (.ireturn, 0, 0, 0, 0) := rfl
theorem zk_188_125 : zc 188 125 = some (.iconst 0, 0, 0, 0, 0) := rfl
theorem zk_188_126 : zc 188 126 = some (.istore_n 3, 0, 0, 0, 0) := rfl
theorem zk_188_127 : zc 188 127 = some (.iload_n 3, 0, 0, 0, 0) := rfl
theorem zk_188_128 : zc 188 128 = some (.aload_n 0, 0, 0, 0, 0) := rfl
theorem zk_188_129 : zc 188 129 = some (.getfield 7, 11, 0, 0, 139) := rfl
theorem zk_188_132 : zc 188 132 = some (.sipush 633, 0, 0, 0, 0) := rfl
theorem zk_188_135 : zc 188 135 = some (.iaload, 0, 0, 0, 0) := rfl
theorem zk_188_136 : zc 188 136 = some (.if_icmp .ge 22, 158, 0, 0, 0) := rfl
theorem zk_188_158 : zc 188 158 = some (.iload_n 2, 0, 0, 0, 0) := rfl
theorem zk_188_159 : zc 188 159 = some (.ireturn, 0, 0, 0, 0) := rfl
theorem zk_188_160 : zc 188 160 = some (.aload_n 0, 0, 0, 0, 0) := rfl
theorem zk_188_161 : zc 188 161 = some (.getfield 7, 11, 0, 0, 139) := rfl
theorem zk_188_164 : zc 188 164 = some (.sipush 640, 0, 0, 0, 0) := rfl
theorem zk_188_167 : zc 188 167 = some (.iaload, 0, 0, 0, 0) := rfl
theorem zk_188_168 : zc 188 168 = some (.ireturn, 0, 0, 0, 0) := rfl
theorem zk_188_169 : zc 188 169 = some (.iconst 0, 0, 0, 0, 0) := rfl
theorem zk_188_170 : zc 188 170 = some (.istore_n 3, 0, 0, 0, 0) := rfl
theorem zk_188_171 : zc 188 171 = some (.iload_n 3, 0, 0, 0, 0) := rfl
theorem zk_188_172 : zc 188 172 = some (.aload_n 0, 0, 0, 0, 0) := rfl
theorem zk_188_173 : zc 188 173 = some (.getfield 7, 11, 0, 0, 139) := rfl
theorem zk_188_176 : zc 188 176 = some (.sipush 640, 0, 0, 0, 0) := rfl
theorem zk_188_179 : zc 188 179 = some (.iaload, 0, 0, 0, 0) := rfl
theorem zk_188_180 : zc 188 180 = some (.if_icmp .ge 22, 202, 0, 0, 0) := rfl
theorem zk_188_202 : zc 188 202 = some (.iload_n 2, 0, 0, 0, 0) := rfl
theorem zk_188_203 : zc 188 203 = some (.ireturn, 0, 0, 0, 0) := rfl
theorem zk_188_204 : zc 188 204 = some (.aload_n 0, 0, 0, 0, 0) := rfl
theorem zk_188_205 : zc 188 205 = some (.getfield 7, 11, 0, 0, 139) := rfl
theorem zk_188_208 : zc 188 208 = some (.sipush 641, 0, 0, 0, 0) := rfl
theorem zk_188_211 : zc 188 211 = some (.iaload, 0, 0, 0, 0) := rfl
theorem zk_188_212 : zc 188 212 = some (.ireturn, 0, 0, 0, 0) := rfl
theorem zk_188_213 : zc 188 213 = some (.aload_n 0, 0, 0, 0, 0) := rfl
theorem zk_188_214 : zc 188 214 = some (.getfield 7, 11, 0, 0, 139) := rfl
theorem zk_188_217 : zc 188 217 = some (.sipush 642, 0, 0, 0, 0) := rfl
theorem zk_188_220 : zc 188 220 = some (.iaload, 0, 0, 0, 0) := rfl
theorem zk_188_221 : zc 188 221 = some (.ireturn, 0, 0, 0, 0) := rfl
theorem zk_188_222 : zc 188 222 = some (.aload_n 0, 0, 0, 0, 0) := rfl
theorem zk_188_223 : zc 188 223 = some (.invokevirtual 189, 160, 0, 1, 145) := rfl
theorem zk_188_226 : zc 188 226 = some (.ireturn, 0, 0, 0, 0) := rfl
theorem zk_188_227 : zc 188 227 = some (.aload_n 0, 0, 0, 0, 0) := rfl
theorem zk_188_228 : zc 188 228 = some (.getfield 7, 11, 0, 0, 139) := rfl
theorem zk_188_231 : zc 188 231 = some (.sipush 634, 0, 0, 0, 0) := rfl
theorem zk_188_234 : zc 188 234 = some (.iaload, 0, 0, 0, 0) := rfl
theorem zk_188_235 : zc 188 235 = some (.ireturn, 0, 0, 0, 0) := rfl
theorem zk_188_236 : zc 188 236 = some (.aload_n 0, 0, 0, 0, 0) := rfl
theorem zk_188_237 : zc 188 237 = some (.getfield 7, 11, 0, 0, 139) := rfl
theorem zk_188_240 : zc 188 240 = some (.sipush 643, 0, 0, 0, 0) := rfl
theorem zk_188_243 : zc 188 243 = some (.iaload, 0, 0, 0, 0) := rfl
theorem zk_188_244 : zc 188 244 = some (.ireturn, 0, 0, 0, 0) := rfl
theorem zk_188_245 : zc 188 245 = some (.aload_n 0, 0, 0, 0, 0) := rfl
theorem zk_188_246 : zc 188 246 = some (.getfield 7, 11, 0, 0, 139) := rfl
theorem zk_188_249 : zc 188 249 = some (.sipush 644, 0, 0, 0, 0) := rfl
theorem zk_188_252 : zc 188 252 = some (.iaload, 0, 0, 0, 0) := rfl
theorem zk_188_253 : zc 188 253 = some (.ireturn, 0, 0, 0, 0) := rfl
theorem zk_188_254 : zc 188 254 = some (.iconst 0, 0, 0, 0, 0) := rfl
theorem zk_188_255 : zc 188 255 = some (.istore_n 3, 0, 0, 0, 0) := rfl
theorem zk_188_256 : zc 188 256 = some (.iload_n 3, 0, 0, 0, 0) := rfl
theorem zk_188_257 : zc 188 257 = some (.bipush 25, 0, 0, 0, 0) := rfl
theorem zk_188_259 : zc 188 259 = some (.if_icmp .ge 21, 280, 0, 0, 0) := rfl
theorem zk_188_262 : zc 188 262 = some (.iload_n 2, 0, 0, 0, 0) := rfl
theorem zk_188_263 : zc 188 263 = some (.aload_n 0, 0, 0, 0, 0) := rfl
theorem zk_188_264 : zc 188 264 = some (.getfield 7, 11, 0, 0, 139) := rfl
theorem zk_188_267 : zc 188 267 = some (.bipush 25, 0, 0, 0, 0) := rfl
theorem zk_188_269 : zc 188 269 = some (.iload_n 3, 0, 0, 0, 0) := rfl
theorem zk_188_270 : zc 188 270 = some (.iadd, 0, 0, 0, 0) := rfl
theorem zk_188_271 : zc 188 271 = some (.iaload, 0, 0, 0, 0) := rfl
theorem zk_188_272 : zc 188 272 = some (.iadd, 0, 0, 0, 0) := rfl
theorem zk_188_273 : zc 188 273 = some (.istore_n 2, 0, 0, 0, 0) := rfl
theorem zk_188_274 : zc 188 274 = some (.iinc 3 1, 0, 0, 0, 0) := rfl
theorem zk_188_277 : zc 188 277 = some (.goto (-21), 256, 0, 0, 0) := rfl
theorem zk_188_280 : zc 188 280 = some (.iload_n 2, 0, 0, 0, 0) := rfl
theorem zk_188_281 : zc 188 281 = some (.ireturn, 0, 0, 0, 0) := rfl
theorem zk_188_282 : zc 188 282 = some (.aload_n 0, 0, 0, 0, 0) := rfl
theorem zk_188_283 : zc 188 283 = some (.getfield 7, 11, 0, 0, 139) := rfl
theorem zk_188_286 : zc 188 286 = some (.sipush 645, 0, 0, 0, 0) := rfl
theorem zk_188_289 : zc 188 289 = some (.iaload, 0, 0, 0, 0) := rfl
theorem zk_188_290 : zc 188 290 = some (.ireturn, 0, 0, 0, 0) := rfl
theorem zk_188_291 : zc 188 291 = some (.ldc 239, 0, 0, -1000001, 3) := rfl
theorem zk_188_293 : zc 188 293 = some (.ireturn, 0, 0, 0, 0) := rfl
/-- WModel.rule -/
theorem m_rule {xs : Nat × (Nat → Int32)} (p0 : Int) (p1 : Int) (h0 : -2147483648 ≤ p0 ∧ p0 ≤ 2147483647) (h1 : -2147483648 ≤ p1 ∧ p1 ≤ 2147483647) (σ : ZS) (hI : Inv σ) (hm : ∀ t i k j, 35 ≤ t → σ t i k j = σ0 t i k j)  : CT xs 2 147 [av 35 0 0, iv p0, iv p1] σ (fun v σ' => ∃ y, v = some (iv y) ∧ ((y = 0 ∧ (p0 = 0 ∧ 0 ≤ p1 ∧ p1 ≤ 99)) ∨ (y = 9 ∧ ¬ (p0 = 0 ∧ 0 ≤ p1 ∧ p1 ≤ 99) ∧ (p0 = 1 ∧ 1 ≤ p1 ∧ p1 ≤ 9)) ∨ (y = 0 ∧ ¬ (p0 = 0 ∧ 0 ≤ p1 ∧ p1 ≤ 99) ∧ ¬ (p0 = 1 ∧ 1 ≤ p1 ∧ p1 ≤ 9) ∧ (p0 = 2 ∧ 0 ≤ p1 ∧ p1 ≤ 9999)) ∨ (y = -6 ∧ ¬ (p0 = 0 ∧ 0 ≤ p1 ∧ p1 ≤ 99) ∧ ¬ (p0 = 1 ∧ 1 ≤ p1 ∧ p1 ≤ 9) ∧ ¬ (p0 = 2 ∧ 0 ≤ p1 ∧ p1 ≤ 9999))) ∧ IF (MJ 637 640) σ σ' ∧ (True)) := by
  refine G_ct (J := (fun σ' => IF (MJ 637 640) σ σ' ∧ (∀ j, 637 ≤ j → j < 638 → σ' 36 0 0 j = 0) ∧ (∀ j, 638 ≤ j → j < 639 → σ' 36 0 0 j = 9) ∧ (∀ j, 639 ≤ j → j < 640 → σ' 36 0 0 j = 0) ∧ True)) (L := [(0, av 35 0 0), (1, iv p0), (2, iv p1)]) (nL := 4) rfl rfl rfl ⟨IF.rf hI, (fun j a b => ((hm _ _ _ _ (by decide)).trans (s0_z (by omega)))), (fun j a b => by obtain rfl : j = 638 := (by omega); exact hm _ _ _ _ (by decide)), (fun j a b => ((hm _ _ _ _ (by decide)).trans (s0_z (by omega)))), trivial⟩ ?_
  refine T_ld zk_147_0 rfl rfl rfl (pc' := 1) rfl ?_
  refine T_if_lt zk_147_1 (by omega) (pc' := 4) rfl (fun h1 => ?_) (fun h2 => ?_)
  ·
    refine T_ld zk_147_49 rfl rfl rfl (pc' := 50) rfl ?_
    refine T_op zk_147_50 rfl (X_bi (v := -6) (by decide)) (pc' := 52) rfl ?_
    refine T_calli (K := fun y3 σ' => (y3 = (-6)) ∧ (fun σ' => IF (MJ 637 640) σ σ' ∧ (∀ j, 637 ≤ j → j < 638 → σ' 36 0 0 j = 0) ∧ (∀ j, 638 ≤ j → j < 639 → σ' 36 0 0 j = 9) ∧ (∀ j, 639 ≤ j → j < 640 → σ' 36 0 0 j = 0) ∧ True) σ') (r := []) zk_147_52 rfl rfl rfl rfl rfl rfl (Or.inr ⟨_, _, _, _, rfl, vd_35, rfl⟩) (fun σ' h => (m_123 ((-6)) (by omega) σ' h.1.1 ).le (Nat.le_of_ble_eq_true rfl) (fun v σ2 ⟨y, h1, h2, h3, h4⟩ => ⟨y, h1, h2, h.1.tr h3 (fun t i k j h => by unfold MT at h; unfold MJ; omega), fun j a b => (h3.2 _ _ _ _ (by unfold MT; omega)).trans (h.2.1 j a b), fun j a b => (h3.2 _ _ _ _ (by unfold MT; omega)).trans (h.2.2.1 j a b), fun j a b => (h3.2 _ _ _ _ (by unfold MT; omega)).trans (h.2.2.2.1 j a b), trivial⟩)) (pc' := 55) rfl (fun y3 => ?_)
    refine G_ex (fun hy3 => ?_)
    obtain rfl : y3 = (-6) := by omega
    exact T_iret zk_147_55 rfl (fun σ' h => ⟨_, rfl, (by omega), h.1, trivial⟩)
  ·
    refine T_ld zk_147_4 rfl rfl rfl (pc' := 5) rfl ?_
    refine T_op zk_147_5 rfl X_ic (pc' := 6) rfl ?_
    refine T_icmp_gt zk_147_6 (by omega) (by omega) (pc' := 9) rfl (fun h4 => ?_) (fun h5 => ?_)
    ·
      refine T_ld zk_147_49 rfl rfl rfl (pc' := 50) rfl ?_
      refine T_op zk_147_50 rfl (X_bi (v := -6) (by decide)) (pc' := 52) rfl ?_
      refine T_calli (K := fun y6 σ' => (y6 = (-6)) ∧ (fun σ' => IF (MJ 637 640) σ σ' ∧ (∀ j, 637 ≤ j → j < 638 → σ' 36 0 0 j = 0) ∧ (∀ j, 638 ≤ j → j < 639 → σ' 36 0 0 j = 9) ∧ (∀ j, 639 ≤ j → j < 640 → σ' 36 0 0 j = 0) ∧ True) σ') (r := []) zk_147_52 rfl rfl rfl rfl rfl rfl (Or.inr ⟨_, _, _, _, rfl, vd_35, rfl⟩) (fun σ' h => (m_123 ((-6)) (by omega) σ' h.1.1 ).le (Nat.le_of_ble_eq_true rfl) (fun v σ2 ⟨y, h1, h2, h3, h4⟩ => ⟨y, h1, h2, h.1.tr h3 (fun t i k j h => by unfold MT at h; unfold MJ; omega), fun j a b => (h3.2 _ _ _ _ (by unfold MT; omega)).trans (h.2.1 j a b), fun j a b => (h3.2 _ _ _ _ (by unfold MT; omega)).trans (h.2.2.1 j a b), fun j a b => (h3.2 _ _ _ _ (by unfold MT; omega)).trans (h.2.2.2.1 j a b), trivial⟩)) (pc' := 55) rfl (fun y6 => ?_)
      refine G_ex (fun hy6 => ?_)
      obtain rfl : y6 = (-6) := by omega
      exact T_iret zk_147_55 rfl (fun σ' h => ⟨_, rfl, (by omega), h.1, trivial⟩)
    ·
      refine T_ld zk_147_9 rfl rfl rfl (pc' := 10) rfl ?_
      refine T_ld zk_147_10 rfl rfl rfl (pc' := 11) rfl ?_
      refine T_op zk_147_11 rfl X_ic (pc' := 12) rfl ?_
      refine T_icmp_ne zk_147_12 (by omega) (by omega) (pc' := 15) rfl (fun h7 => ?_) (fun h8 => ?_)
      ·
        refine T_op zk_147_19 rfl X_ic (pc' := 20) rfl ?_
        refine T_icmp_lt zk_147_20 (by omega) (by omega) (pc' := 23) rfl (fun h9 => ?_) (fun h10 => ?_)
        ·
          refine T_ld zk_147_49 rfl rfl rfl (pc' := 50) rfl ?_
          refine T_op zk_147_50 rfl (X_bi (v := -6) (by decide)) (pc' := 52) rfl ?_
          refine T_calli (K := fun y11 σ' => (y11 = (-6)) ∧ (fun σ' => IF (MJ 637 640) σ σ' ∧ (∀ j, 637 ≤ j → j < 638 → σ' 36 0 0 j = 0) ∧ (∀ j, 638 ≤ j → j < 639 → σ' 36 0 0 j = 9) ∧ (∀ j, 639 ≤ j → j < 640 → σ' 36 0 0 j = 0) ∧ True) σ') (r := []) zk_147_52 rfl rfl rfl rfl rfl rfl (Or.inr ⟨_, _, _, _, rfl, vd_35, rfl⟩) (fun σ' h => (m_123 ((-6)) (by omega) σ' h.1.1 ).le (Nat.le_of_ble_eq_true rfl) (fun v σ2 ⟨y, h1, h2, h3, h4⟩ => ⟨y, h1, h2, h.1.tr h3 (fun t i k j h => by unfold MT at h; unfold MJ; omega), fun j a b => (h3.2 _ _ _ _ (by unfold MT; omega)).trans (h.2.1 j a b), fun j a b => (h3.2 _ _ _ _ (by unfold MT; omega)).trans (h.2.2.1 j a b), fun j a b => (h3.2 _ _ _ _ (by unfold MT; omega)).trans (h.2.2.2.1 j a b), trivial⟩)) (pc' := 55) rfl (fun y11 => ?_)
          refine G_ex (fun hy11 => ?_)
          obtain rfl : y11 = (-6) := by omega
          exact T_iret zk_147_55 rfl (fun σ' h => ⟨_, rfl, (by omega), h.1, trivial⟩)
        ·
          refine T_ld zk_147_23 rfl rfl rfl (pc' := 24) rfl ?_
          refine T_ld zk_147_24 rfl rfl rfl (pc' := 25) rfl ?_
          refine T_if_ne zk_147_25 (by omega) (pc' := 28) rfl (fun h12 => ?_) (fun h13 => ?_)
          ·
            refine T_ld zk_147_33 rfl rfl rfl (pc' := 34) rfl ?_
            refine T_op zk_147_34 rfl X_ic (pc' := 35) rfl ?_
            refine T_icmp_ne zk_147_35 (by omega) (by omega) (pc' := 38) rfl (fun h14 => ?_) (fun h15 => ?_)
            ·
              refine T_op zk_147_43 rfl (X_si (v := 9999) (by decide)) (pc' := 46) rfl ?_
              refine T_icmp_le zk_147_46 (by omega) (by omega) (pc' := 49) rfl (fun h16 => ?_) (fun h17 => ?_)
              ·
                refine T_ld zk_147_56 rfl rfl rfl (pc' := 57) rfl ?_
                refine T_getR (t' := 36) (i' := 0) (k' := 0) zk_147_57 rfl rfl rfl vd_35 (pc' := 60) rfl ?_
                refine T_op zk_147_60 rfl (X_si (v := 637) (by decide)) (pc' := 63) rfl ?_
                refine T_ld zk_147_63 rfl rfl rfl (pc' := 64) rfl ?_
                refine T_opc (w := 639) zk_147_64 rfl X_add (by omega) (pc' := 65) rfl ?_
                refine G_ialdX (w := 0) (ln := 646) zk_147_65 rfl rfl (vd_36 (by omega)) (by omega) (by omega) (by omega) (fun σ' h => h.2.2.2.1 _ (by omega) (by omega)) (pc' := 66) rfl ?_
                refine T_st (L' := [(0, av 35 0 0), (1, iv p0), (2, iv p1), (3, iv 0)]) zk_147_66 (nL := 4) rfl rfl rfl rfl rfl (pc' := 67) rfl ?_
                refine T_ld zk_147_67 rfl rfl rfl (pc' := 68) rfl ?_
                refine T_getR (t' := 36) (i' := 0) (k' := 0) zk_147_68 rfl rfl rfl vd_35 (pc' := 71) rfl ?_
                refine T_op zk_147_71 rfl (X_si (v := 637) (by decide)) (pc' := 74) rfl ?_
                refine T_ld zk_147_74 rfl rfl rfl (pc' := 75) rfl ?_
                refine T_opc (w := 639) zk_147_75 rfl X_add (by omega) (pc' := 76) rfl ?_
                refine T_ld zk_147_76 rfl rfl rfl (pc' := 77) rfl ?_
                refine G_iast (J' := (fun σ' => IF (MJ 637 640) σ σ' ∧ (∀ j, 637 ≤ j → j < 638 → σ' 36 0 0 j = 0) ∧ (∀ j, 638 ≤ j → j < 639 → σ' 36 0 0 j = 9) ∧ True)) (ln := 646) zk_147_77 rfl rfl (vd_36 (by omega)) (by omega) (by omega) (by omega) (fun σ' h => ⟨h.1.up (by simp only [rgP] <;> omega) (by unfold MJ; omega), up_rngj (h.2.1) (by omega), up_rngj (h.2.2.1) (by omega), trivial⟩) (pc' := 78) rfl ?_
                refine T_ld zk_147_78 rfl rfl rfl (pc' := 79) rfl ?_
                exact T_iret zk_147_79 rfl (fun σ' h => ⟨_, rfl, (by omega), h.1, trivial⟩)
              ·
                refine T_ld zk_147_49 rfl rfl rfl (pc' := 50) rfl ?_
                refine T_op zk_147_50 rfl (X_bi (v := -6) (by decide)) (pc' := 52) rfl ?_
                refine T_calli (K := fun y18 σ' => (y18 = (-6)) ∧ (fun σ' => IF (MJ 637 640) σ σ' ∧ (∀ j, 637 ≤ j → j < 638 → σ' 36 0 0 j = 0) ∧ (∀ j, 638 ≤ j → j < 639 → σ' 36 0 0 j = 9) ∧ (∀ j, 639 ≤ j → j < 640 → σ' 36 0 0 j = 0) ∧ True) σ') (r := []) zk_147_52 rfl rfl rfl rfl rfl rfl (Or.inr ⟨_, _, _, _, rfl, vd_35, rfl⟩) (fun σ' h => (m_123 ((-6)) (by omega) σ' h.1.1 ).le (Nat.le_of_ble_eq_true rfl) (fun v σ2 ⟨y, h1, h2, h3, h4⟩ => ⟨y, h1, h2, h.1.tr h3 (fun t i k j h => by unfold MT at h; unfold MJ; omega), fun j a b => (h3.2 _ _ _ _ (by unfold MT; omega)).trans (h.2.1 j a b), fun j a b => (h3.2 _ _ _ _ (by unfold MT; omega)).trans (h.2.2.1 j a b), fun j a b => (h3.2 _ _ _ _ (by unfold MT; omega)).trans (h.2.2.2.1 j a b), trivial⟩)) (pc' := 55) rfl (fun y18 => ?_)
                refine G_ex (fun hy18 => ?_)
                obtain rfl : y18 = (-6) := by omega
                exact T_iret zk_147_55 rfl (fun σ' h => ⟨_, rfl, (by omega), h.1, trivial⟩)
            ·
              refine T_op zk_147_38 rfl (X_bi (v := 9) (by decide)) (pc' := 40) rfl ?_
              refine T_goto zk_147_40 ?_
              refine T_icmp_le zk_147_46 (by omega) (by omega) (pc' := 49) rfl (fun h19 => ?_) (fun h20 => ?_)
              ·
                refine T_ld zk_147_56 rfl rfl rfl (pc' := 57) rfl ?_
                refine T_getR (t' := 36) (i' := 0) (k' := 0) zk_147_57 rfl rfl rfl vd_35 (pc' := 60) rfl ?_
                refine T_op zk_147_60 rfl (X_si (v := 637) (by decide)) (pc' := 63) rfl ?_
                refine T_ld zk_147_63 rfl rfl rfl (pc' := 64) rfl ?_
                refine T_opc (w := 638) zk_147_64 rfl X_add (by omega) (pc' := 65) rfl ?_
                refine G_ialdX (w := 9) (ln := 646) zk_147_65 rfl rfl (vd_36 (by omega)) (by omega) (by omega) (by omega) (fun σ' h => h.2.2.1 _ (by omega) (by omega)) (pc' := 66) rfl ?_
                refine T_st (L' := [(0, av 35 0 0), (1, iv p0), (2, iv p1), (3, iv 9)]) zk_147_66 (nL := 4) rfl rfl rfl rfl rfl (pc' := 67) rfl ?_
                refine T_ld zk_147_67 rfl rfl rfl (pc' := 68) rfl ?_
                refine T_getR (t' := 36) (i' := 0) (k' := 0) zk_147_68 rfl rfl rfl vd_35 (pc' := 71) rfl ?_
                refine T_op zk_147_71 rfl (X_si (v := 637) (by decide)) (pc' := 74) rfl ?_
                refine T_ld zk_147_74 rfl rfl rfl (pc' := 75) rfl ?_
                refine T_opc (w := 638) zk_147_75 rfl X_add (by omega) (pc' := 76) rfl ?_
                refine T_ld zk_147_76 rfl rfl rfl (pc' := 77) rfl ?_
                refine G_iast (J' := (fun σ' => IF (MJ 637 640) σ σ' ∧ (∀ j, 637 ≤ j → j < 638 → σ' 36 0 0 j = 0) ∧ (∀ j, 639 ≤ j → j < 640 → σ' 36 0 0 j = 0) ∧ True)) (ln := 646) zk_147_77 rfl rfl (vd_36 (by omega)) (by omega) (by omega) (by omega) (fun σ' h => ⟨h.1.up (by simp only [rgP] <;> omega) (by unfold MJ; omega), up_rngj (h.2.1) (by omega), up_rngj (h.2.2.2.1) (by omega), trivial⟩) (pc' := 78) rfl ?_
                refine T_ld zk_147_78 rfl rfl rfl (pc' := 79) rfl ?_
                exact T_iret zk_147_79 rfl (fun σ' h => ⟨_, rfl, (by omega), h.1, trivial⟩)
              ·
                refine T_ld zk_147_49 rfl rfl rfl (pc' := 50) rfl ?_
                refine T_op zk_147_50 rfl (X_bi (v := -6) (by decide)) (pc' := 52) rfl ?_
                refine T_calli (K := fun y21 σ' => (y21 = (-6)) ∧ (fun σ' => IF (MJ 637 640) σ σ' ∧ (∀ j, 637 ≤ j → j < 638 → σ' 36 0 0 j = 0) ∧ (∀ j, 638 ≤ j → j < 639 → σ' 36 0 0 j = 9) ∧ (∀ j, 639 ≤ j → j < 640 → σ' 36 0 0 j = 0) ∧ True) σ') (r := []) zk_147_52 rfl rfl rfl rfl rfl rfl (Or.inr ⟨_, _, _, _, rfl, vd_35, rfl⟩) (fun σ' h => (m_123 ((-6)) (by omega) σ' h.1.1 ).le (Nat.le_of_ble_eq_true rfl) (fun v σ2 ⟨y, h1, h2, h3, h4⟩ => ⟨y, h1, h2, h.1.tr h3 (fun t i k j h => by unfold MT at h; unfold MJ; omega), fun j a b => (h3.2 _ _ _ _ (by unfold MT; omega)).trans (h.2.1 j a b), fun j a b => (h3.2 _ _ _ _ (by unfold MT; omega)).trans (h.2.2.1 j a b), fun j a b => (h3.2 _ _ _ _ (by unfold MT; omega)).trans (h.2.2.2.1 j a b), trivial⟩)) (pc' := 55) rfl (fun y21 => ?_)
                refine G_ex (fun hy21 => ?_)
                obtain rfl : y21 = (-6) := by omega
                exact T_iret zk_147_55 rfl (fun σ' h => ⟨_, rfl, (by omega), h.1, trivial⟩)
          ·
            refine T_op zk_147_28 rfl (X_bi (v := 99) (by decide)) (pc' := 30) rfl ?_
            refine T_goto zk_147_30 ?_
            refine T_icmp_le zk_147_46 (by omega) (by omega) (pc' := 49) rfl (fun h22 => ?_) (fun h23 => ?_)
            ·
              refine T_ld zk_147_56 rfl rfl rfl (pc' := 57) rfl ?_
              refine T_getR (t' := 36) (i' := 0) (k' := 0) zk_147_57 rfl rfl rfl vd_35 (pc' := 60) rfl ?_
              refine T_op zk_147_60 rfl (X_si (v := 637) (by decide)) (pc' := 63) rfl ?_
              refine T_ld zk_147_63 rfl rfl rfl (pc' := 64) rfl ?_
              refine T_opc (w := 637) zk_147_64 rfl X_add (by omega) (pc' := 65) rfl ?_
              refine G_ialdX (w := 0) (ln := 646) zk_147_65 rfl rfl (vd_36 (by omega)) (by omega) (by omega) (by omega) (fun σ' h => h.2.1 _ (by omega) (by omega)) (pc' := 66) rfl ?_
              refine T_st (L' := [(0, av 35 0 0), (1, iv p0), (2, iv p1), (3, iv 0)]) zk_147_66 (nL := 4) rfl rfl rfl rfl rfl (pc' := 67) rfl ?_
              refine T_ld zk_147_67 rfl rfl rfl (pc' := 68) rfl ?_
              refine T_getR (t' := 36) (i' := 0) (k' := 0) zk_147_68 rfl rfl rfl vd_35 (pc' := 71) rfl ?_
              refine T_op zk_147_71 rfl (X_si (v := 637) (by decide)) (pc' := 74) rfl ?_
              refine T_ld zk_147_74 rfl rfl rfl (pc' := 75) rfl ?_
              refine T_opc (w := 637) zk_147_75 rfl X_add (by omega) (pc' := 76) rfl ?_
              refine T_ld zk_147_76 rfl rfl rfl (pc' := 77) rfl ?_
              refine G_iast (J' := (fun σ' => IF (MJ 637 640) σ σ' ∧ (∀ j, 638 ≤ j → j < 639 → σ' 36 0 0 j = 9) ∧ (∀ j, 639 ≤ j → j < 640 → σ' 36 0 0 j = 0) ∧ True)) (ln := 646) zk_147_77 rfl rfl (vd_36 (by omega)) (by omega) (by omega) (by omega) (fun σ' h => ⟨h.1.up (by simp only [rgP] <;> omega) (by unfold MJ; omega), up_rngj (h.2.2.1) (by omega), up_rngj (h.2.2.2.1) (by omega), trivial⟩) (pc' := 78) rfl ?_
              refine T_ld zk_147_78 rfl rfl rfl (pc' := 79) rfl ?_
              exact T_iret zk_147_79 rfl (fun σ' h => ⟨_, rfl, (by omega), h.1, trivial⟩)
            ·
              refine T_ld zk_147_49 rfl rfl rfl (pc' := 50) rfl ?_
              refine T_op zk_147_50 rfl (X_bi (v := -6) (by decide)) (pc' := 52) rfl ?_
              refine T_calli (K := fun y24 σ' => (y24 = (-6)) ∧ (fun σ' => IF (MJ 637 640) σ σ' ∧ (∀ j, 637 ≤ j → j < 638 → σ' 36 0 0 j = 0) ∧ (∀ j, 638 ≤ j → j < 639 → σ' 36 0 0 j = 9) ∧ (∀ j, 639 ≤ j → j < 640 → σ' 36 0 0 j = 0) ∧ True) σ') (r := []) zk_147_52 rfl rfl rfl rfl rfl rfl (Or.inr ⟨_, _, _, _, rfl, vd_35, rfl⟩) (fun σ' h => (m_123 ((-6)) (by omega) σ' h.1.1 ).le (Nat.le_of_ble_eq_true rfl) (fun v σ2 ⟨y, h1, h2, h3, h4⟩ => ⟨y, h1, h2, h.1.tr h3 (fun t i k j h => by unfold MT at h; unfold MJ; omega), fun j a b => (h3.2 _ _ _ _ (by unfold MT; omega)).trans (h.2.1 j a b), fun j a b => (h3.2 _ _ _ _ (by unfold MT; omega)).trans (h.2.2.1 j a b), fun j a b => (h3.2 _ _ _ _ (by unfold MT; omega)).trans (h.2.2.2.1 j a b), trivial⟩)) (pc' := 55) rfl (fun y24 => ?_)
              refine G_ex (fun hy24 => ?_)
              obtain rfl : y24 = (-6) := by omega
              exact T_iret zk_147_55 rfl (fun σ' h => ⟨_, rfl, (by omega), h.1, trivial⟩)
      ·
        refine T_op zk_147_15 rfl X_ic (pc' := 16) rfl ?_
        refine T_goto zk_147_16 ?_
        refine T_icmp_lt zk_147_20 (by omega) (by omega) (pc' := 23) rfl (fun h25 => ?_) (fun h26 => ?_)
        ·
          refine T_ld zk_147_49 rfl rfl rfl (pc' := 50) rfl ?_
          refine T_op zk_147_50 rfl (X_bi (v := -6) (by decide)) (pc' := 52) rfl ?_
          refine T_calli (K := fun y27 σ' => (y27 = (-6)) ∧ (fun σ' => IF (MJ 637 640) σ σ' ∧ (∀ j, 637 ≤ j → j < 638 → σ' 36 0 0 j = 0) ∧ (∀ j, 638 ≤ j → j < 639 → σ' 36 0 0 j = 9) ∧ (∀ j, 639 ≤ j → j < 640 → σ' 36 0 0 j = 0) ∧ True) σ') (r := []) zk_147_52 rfl rfl rfl rfl rfl rfl (Or.inr ⟨_, _, _, _, rfl, vd_35, rfl⟩) (fun σ' h => (m_123 ((-6)) (by omega) σ' h.1.1 ).le (Nat.le_of_ble_eq_true rfl) (fun v σ2 ⟨y, h1, h2, h3, h4⟩ => ⟨y, h1, h2, h.1.tr h3 (fun t i k j h => by unfold MT at h; unfold MJ; omega), fun j a b => (h3.2 _ _ _ _ (by unfold MT; omega)).trans (h.2.1 j a b), fun j a b => (h3.2 _ _ _ _ (by unfold MT; omega)).trans (h.2.2.1 j a b), fun j a b => (h3.2 _ _ _ _ (by unfold MT; omega)).trans (h.2.2.2.1 j a b), trivial⟩)) (pc' := 55) rfl (fun y27 => ?_)
          refine G_ex (fun hy27 => ?_)
          obtain rfl : y27 = (-6) := by omega
          exact T_iret zk_147_55 rfl (fun σ' h => ⟨_, rfl, (by omega), h.1, trivial⟩)
        ·
          refine T_ld zk_147_23 rfl rfl rfl (pc' := 24) rfl ?_
          refine T_ld zk_147_24 rfl rfl rfl (pc' := 25) rfl ?_
          refine T_if_ne zk_147_25 (by omega) (pc' := 28) rfl (fun h28 => ?_) (fun h29 => ?_)
          ·
            refine T_ld zk_147_33 rfl rfl rfl (pc' := 34) rfl ?_
            refine T_op zk_147_34 rfl X_ic (pc' := 35) rfl ?_
            refine T_icmp_ne zk_147_35 (by omega) (by omega) (pc' := 38) rfl (fun h30 => ?_) (fun h31 => ?_)
            · exfalso; omega
            ·
              refine T_op zk_147_38 rfl (X_bi (v := 9) (by decide)) (pc' := 40) rfl ?_
              refine T_goto zk_147_40 ?_
              refine T_icmp_le zk_147_46 (by omega) (by omega) (pc' := 49) rfl (fun h32 => ?_) (fun h33 => ?_)
              ·
                refine T_ld zk_147_56 rfl rfl rfl (pc' := 57) rfl ?_
                refine T_getR (t' := 36) (i' := 0) (k' := 0) zk_147_57 rfl rfl rfl vd_35 (pc' := 60) rfl ?_
                refine T_op zk_147_60 rfl (X_si (v := 637) (by decide)) (pc' := 63) rfl ?_
                refine T_ld zk_147_63 rfl rfl rfl (pc' := 64) rfl ?_
                refine T_opc (w := 638) zk_147_64 rfl X_add (by omega) (pc' := 65) rfl ?_
                refine G_ialdX (w := 9) (ln := 646) zk_147_65 rfl rfl (vd_36 (by omega)) (by omega) (by omega) (by omega) (fun σ' h => h.2.2.1 _ (by omega) (by omega)) (pc' := 66) rfl ?_
                refine T_st (L' := [(0, av 35 0 0), (1, iv p0), (2, iv p1), (3, iv 9)]) zk_147_66 (nL := 4) rfl rfl rfl rfl rfl (pc' := 67) rfl ?_
                refine T_ld zk_147_67 rfl rfl rfl (pc' := 68) rfl ?_
                refine T_getR (t' := 36) (i' := 0) (k' := 0) zk_147_68 rfl rfl rfl vd_35 (pc' := 71) rfl ?_
                refine T_op zk_147_71 rfl (X_si (v := 637) (by decide)) (pc' := 74) rfl ?_
                refine T_ld zk_147_74 rfl rfl rfl (pc' := 75) rfl ?_
                refine T_opc (w := 638) zk_147_75 rfl X_add (by omega) (pc' := 76) rfl ?_
                refine T_ld zk_147_76 rfl rfl rfl (pc' := 77) rfl ?_
                refine G_iast (J' := (fun σ' => IF (MJ 637 640) σ σ' ∧ (∀ j, 637 ≤ j → j < 638 → σ' 36 0 0 j = 0) ∧ (∀ j, 639 ≤ j → j < 640 → σ' 36 0 0 j = 0) ∧ True)) (ln := 646) zk_147_77 rfl rfl (vd_36 (by omega)) (by omega) (by omega) (by omega) (fun σ' h => ⟨h.1.up (by simp only [rgP] <;> omega) (by unfold MJ; omega), up_rngj (h.2.1) (by omega), up_rngj (h.2.2.2.1) (by omega), trivial⟩) (pc' := 78) rfl ?_
                refine T_ld zk_147_78 rfl rfl rfl (pc' := 79) rfl ?_
                exact T_iret zk_147_79 rfl (fun σ' h => ⟨_, rfl, (by omega), h.1, trivial⟩)
              ·
                refine T_ld zk_147_49 rfl rfl rfl (pc' := 50) rfl ?_
                refine T_op zk_147_50 rfl (X_bi (v := -6) (by decide)) (pc' := 52) rfl ?_
                refine T_calli (K := fun y34 σ' => (y34 = (-6)) ∧ (fun σ' => IF (MJ 637 640) σ σ' ∧ (∀ j, 637 ≤ j → j < 638 → σ' 36 0 0 j = 0) ∧ (∀ j, 638 ≤ j → j < 639 → σ' 36 0 0 j = 9) ∧ (∀ j, 639 ≤ j → j < 640 → σ' 36 0 0 j = 0) ∧ True) σ') (r := []) zk_147_52 rfl rfl rfl rfl rfl rfl (Or.inr ⟨_, _, _, _, rfl, vd_35, rfl⟩) (fun σ' h => (m_123 ((-6)) (by omega) σ' h.1.1 ).le (Nat.le_of_ble_eq_true rfl) (fun v σ2 ⟨y, h1, h2, h3, h4⟩ => ⟨y, h1, h2, h.1.tr h3 (fun t i k j h => by unfold MT at h; unfold MJ; omega), fun j a b => (h3.2 _ _ _ _ (by unfold MT; omega)).trans (h.2.1 j a b), fun j a b => (h3.2 _ _ _ _ (by unfold MT; omega)).trans (h.2.2.1 j a b), fun j a b => (h3.2 _ _ _ _ (by unfold MT; omega)).trans (h.2.2.2.1 j a b), trivial⟩)) (pc' := 55) rfl (fun y34 => ?_)
                refine G_ex (fun hy34 => ?_)
                obtain rfl : y34 = (-6) := by omega
                exact T_iret zk_147_55 rfl (fun σ' h => ⟨_, rfl, (by omega), h.1, trivial⟩)
          · exfalso; omega
/-- WModel.dredge -/
theorem m_dredge {xs : Nat × (Nat → Int32)} (p0 : Int) (p1 : Int) (h0 : -2147483648 ≤ p0 ∧ p0 ≤ 2147483647) (h1 : -2147483648 ≤ p1 ∧ p1 ≤ 2147483647) (σ : ZS) (hI : Inv σ) (hm : ∀ t i k j, 35 ≤ t → σ t i k j = σ0 t i k j)  : CT xs 2 183 [av 35 0 0, iv p0, iv p1] σ (fun v σ' => ∃ y, v = some (iv y) ∧ ((y = -1 ∧ (¬ (0 ≤ p0 ∧ p0 ≤ 24))) ∨ (y = -6 ∧ ¬ (¬ (0 ≤ p0 ∧ p0 ≤ 24)) ∧ (¬ (1 ≤ p1 ∧ p1 ≤ 20))) ∨ (y = 20 + p1 ∧ ¬ (¬ (0 ≤ p0 ∧ p0 ≤ 24)) ∧ ¬ (¬ (1 ≤ p1 ∧ p1 ≤ 20)))) ∧ IF (MJ 0 25) σ σ' ∧ (True)) := by
  refine G_ct (J := (fun σ' => IF (MJ 0 25) σ σ' ∧ (∀ j, 0 ≤ j → j < 25 → σ' 36 0 0 j = 20) ∧ True)) (L := [(0, av 35 0 0), (1, iv p0), (2, iv p1)]) (nL := 3) rfl rfl rfl ⟨IF.rf hI, (fun j a b => ((hm _ _ _ _ (by decide)).trans (s0_a (by omega)))), trivial⟩ ?_
  refine T_ld zk_183_0 rfl rfl rfl (pc' := 1) rfl ?_
  refine T_calli (K := fun y1 σ' => ((y1 = 0 ∧ (p0 < 0 ∨ 24 < p0)) ∨ (y1 = 1 ∧ 0 ≤ p0 ∧ p0 ≤ 24)) ∧ (fun σ' => IF (MJ 0 25) σ σ' ∧ (∀ j, 0 ≤ j → j < 25 → σ' 36 0 0 j = 20) ∧ True) σ') (r := []) zk_183_1 rfl rfl rfl rfl rfl rfl (Or.inl (Or.inl rfl)) (fun σ' h => (m_124 p0 (by omega) σ' h.1.1 ).le (Nat.le_of_ble_eq_true rfl) (fun v σ2 ⟨y, h1, h2, h3, h4⟩ => ⟨y, h1, h2, h.1.tr h3 MN_sub, fun j a b => (h3.2 _ _ _ _ (fun q => q)).trans (h.2.1 j a b), trivial⟩)) (pc' := 4) rfl (fun y1 => ?_)
  refine G_ex (fun hy1 => ?_)
  refine T_if_ne zk_183_4 (by omega) (pc' := 7) rfl (fun h2 => ?_) (fun h3 => ?_)
  ·
    refine T_ld zk_183_13 rfl rfl rfl (pc' := 14) rfl ?_
    refine T_op zk_183_14 rfl X_ic (pc' := 15) rfl ?_
    refine T_icmp_lt zk_183_15 (by omega) (by omega) (pc' := 18) rfl (fun h4 => ?_) (fun h5 => ?_)
    ·
      refine T_ld zk_183_39 rfl rfl rfl (pc' := 40) rfl ?_
      refine T_op zk_183_40 rfl (X_bi (v := -6) (by decide)) (pc' := 42) rfl ?_
      refine T_calli (K := fun y6 σ' => (y6 = (-6)) ∧ (fun σ' => IF (MJ 0 25) σ σ' ∧ (∀ j, 0 ≤ j → j < 25 → σ' 36 0 0 j = 20) ∧ True) σ') (r := []) zk_183_42 rfl rfl rfl rfl rfl rfl (Or.inr ⟨_, _, _, _, rfl, vd_35, rfl⟩) (fun σ' h => (m_123 ((-6)) (by omega) σ' h.1.1 ).le (Nat.le_of_ble_eq_true rfl) (fun v σ2 ⟨y, h1, h2, h3, h4⟩ => ⟨y, h1, h2, h.1.tr h3 (fun t i k j h => by unfold MT at h; unfold MJ; omega), fun j a b => (h3.2 _ _ _ _ (by unfold MT; omega)).trans (h.2.1 j a b), trivial⟩)) (pc' := 45) rfl (fun y6 => ?_)
      refine G_ex (fun hy6 => ?_)
      obtain rfl : y6 = (-6) := by omega
      exact T_iret zk_183_45 rfl (fun σ' h => ⟨_, rfl, (by omega), h.1, trivial⟩)
    ·
      refine T_ld zk_183_18 rfl rfl rfl (pc' := 19) rfl ?_
      refine T_op zk_183_19 rfl (X_bi (v := 20) (by decide)) (pc' := 21) rfl ?_
      refine T_icmp_gt zk_183_21 (by omega) (by omega) (pc' := 24) rfl (fun h7 => ?_) (fun h8 => ?_)
      ·
        refine T_ld zk_183_39 rfl rfl rfl (pc' := 40) rfl ?_
        refine T_op zk_183_40 rfl (X_bi (v := -6) (by decide)) (pc' := 42) rfl ?_
        refine T_calli (K := fun y9 σ' => (y9 = (-6)) ∧ (fun σ' => IF (MJ 0 25) σ σ' ∧ (∀ j, 0 ≤ j → j < 25 → σ' 36 0 0 j = 20) ∧ True) σ') (r := []) zk_183_42 rfl rfl rfl rfl rfl rfl (Or.inr ⟨_, _, _, _, rfl, vd_35, rfl⟩) (fun σ' h => (m_123 ((-6)) (by omega) σ' h.1.1 ).le (Nat.le_of_ble_eq_true rfl) (fun v σ2 ⟨y, h1, h2, h3, h4⟩ => ⟨y, h1, h2, h.1.tr h3 (fun t i k j h => by unfold MT at h; unfold MJ; omega), fun j a b => (h3.2 _ _ _ _ (by unfold MT; omega)).trans (h.2.1 j a b), trivial⟩)) (pc' := 45) rfl (fun y9 => ?_)
        refine G_ex (fun hy9 => ?_)
        obtain rfl : y9 = (-6) := by omega
        exact T_iret zk_183_45 rfl (fun σ' h => ⟨_, rfl, (by omega), h.1, trivial⟩)
      ·
        refine T_ld zk_183_24 rfl rfl rfl (pc' := 25) rfl ?_
        refine T_getR (t' := 36) (i' := 0) (k' := 0) zk_183_25 rfl rfl rfl vd_35 (pc' := 28) rfl ?_
        refine T_op zk_183_28 rfl X_ic (pc' := 29) rfl ?_
        refine T_ld zk_183_29 rfl rfl rfl (pc' := 30) rfl ?_
        refine T_op zk_183_30 rfl X_add (pc' := 31) rfl ?_
        refine G_ialdX (w := 20) (ln := 646) zk_183_31 rfl rfl (vd_36 (by omega)) (by omega) (by omega) (by omega) (fun σ' h => h.2.1 _ (by omega) (by omega)) (pc' := 32) rfl ?_
        refine T_ld zk_183_32 rfl rfl rfl (pc' := 33) rfl ?_
        refine T_op zk_183_33 rfl X_add (pc' := 34) rfl ?_
        refine T_op zk_183_34 rfl (X_bi (v := 60) (by decide)) (pc' := 36) rfl ?_
        refine T_icmp_le zk_183_36 (by omega) (by omega) (pc' := 39) rfl (fun h10 => ?_) (fun h11 => ?_)
        ·
          refine T_ld zk_183_46 rfl rfl rfl (pc' := 47) rfl ?_
          refine T_getR (t' := 36) (i' := 0) (k' := 0) zk_183_47 rfl rfl rfl vd_35 (pc' := 50) rfl ?_
          refine T_op zk_183_50 rfl X_ic (pc' := 51) rfl ?_
          refine T_ld zk_183_51 rfl rfl rfl (pc' := 52) rfl ?_
          refine T_op zk_183_52 rfl X_add (pc' := 53) rfl ?_
          refine T_op (st' := [iv (0 + p0), av 36 0 0, iv (0 + p0), av 36 0 0]) zk_183_53 rfl rfl (pc' := 54) rfl ?_
          refine G_ialdX (w := 20) (ln := 646) zk_183_54 rfl rfl (vd_36 (by omega)) (by omega) (by omega) (by omega) (fun σ' h => h.2.1 _ (by omega) (by omega)) (pc' := 55) rfl ?_
          refine T_ld zk_183_55 rfl rfl rfl (pc' := 56) rfl ?_
          refine T_op zk_183_56 rfl X_add (pc' := 57) rfl ?_
          refine G_iast (J' := (fun σ' => IF (MJ 0 25) σ σ' ∧ σ' 36 0 0 (Int.toNat (0 + p0)) = 20 + p1 ∧ True)) (ln := 646) zk_183_57 rfl rfl (vd_36 (by omega)) (by omega) (by omega) (by omega) (fun σ' h => ⟨h.1.up (by simp only [rgP] <;> omega) (by unfold MJ; omega), up_eq, trivial⟩) (pc' := 58) rfl ?_
          refine T_ld zk_183_58 rfl rfl rfl (pc' := 59) rfl ?_
          refine T_getR (t' := 36) (i' := 0) (k' := 0) zk_183_59 rfl rfl rfl vd_35 (pc' := 62) rfl ?_
          refine T_op zk_183_62 rfl X_ic (pc' := 63) rfl ?_
          refine T_ld zk_183_63 rfl rfl rfl (pc' := 64) rfl ?_
          refine T_op zk_183_64 rfl X_add (pc' := 65) rfl ?_
          refine G_ialdX (w := 20 + p1) (ln := 646) zk_183_65 rfl rfl (vd_36 (by omega)) (by omega) (by omega) (by omega) (fun σ' h => h.2.1) (pc' := 66) rfl ?_
          exact T_iret zk_183_66 rfl (fun σ' h => ⟨_, rfl, (by omega), h.1, trivial⟩)
        · exfalso; omega
  ·
    refine T_ld zk_183_7 rfl rfl rfl (pc' := 8) rfl ?_
    refine T_op zk_183_8 rfl X_ic (pc' := 9) rfl ?_
    refine T_calli (K := fun y12 σ' => (y12 = (-1)) ∧ (fun σ' => IF (MJ 0 25) σ σ' ∧ (∀ j, 0 ≤ j → j < 25 → σ' 36 0 0 j = 20) ∧ True) σ') (r := []) zk_183_9 rfl rfl rfl rfl rfl rfl (Or.inr ⟨_, _, _, _, rfl, vd_35, rfl⟩) (fun σ' h => (m_123 ((-1)) (by omega) σ' h.1.1 ).le (Nat.le_of_ble_eq_true rfl) (fun v σ2 ⟨y, h1, h2, h3, h4⟩ => ⟨y, h1, h2, h.1.tr h3 (fun t i k j h => by unfold MT at h; unfold MJ; omega), fun j a b => (h3.2 _ _ _ _ (by unfold MT; omega)).trans (h.2.1 j a b), trivial⟩)) (pc' := 12) rfl (fun y12 => ?_)
    refine G_ex (fun hy12 => ?_)
    obtain rfl : y12 = (-1) := by omega
    exact T_iret zk_183_12 rfl (fun σ' h => ⟨_, rfl, (by omega), h.1, trivial⟩)
/-- WModel.status -/
theorem m_status {xs : Nat × (Nat → Int32)} (p0 : Int) (h0 : -2147483648 ≤ p0 ∧ p0 ≤ 2147483647) (σ : ZS) (hI : Inv σ) (hm : ∀ t i k j, 35 ≤ t → σ t i k j = σ0 t i k j)  : CT xs 2 188 [av 35 0 0, iv p0] σ (fun v σ' => ∃ y, v = some (iv y) ∧ ((y = 0 ∧ (0 ≤ p0 ∧ p0 ≤ 18)) ∨ (y = -1000001 ∧ ¬ (0 ≤ p0 ∧ p0 ≤ 18))) ∧ IF MN σ σ' ∧ (True)) := by
  refine G_ct (J := (fun σ' => IF MN σ σ' ∧ True)) (L := [(0, av 35 0 0), (1, iv p0)]) (nL := 4) rfl rfl rfl ⟨IF.rf hI, trivial⟩ ?_
  refine T_ld zk_188_0 rfl rfl rfl (pc' := 1) rfl ?_
  refine T_op zk_188_1 rfl (X_bi (v := 10) (by decide)) (pc' := 3) rfl ?_
  refine T_icmp_le zk_188_3 (by omega) (by omega) (pc' := 6) rfl (fun h1 => ?_) (fun h2 => ?_)
  ·
    refine T_op zk_188_22 rfl X_ic (pc' := 23) rfl ?_
    refine T_st (L' := [(0, av 35 0 0), (1, iv p0), (2, iv 0)]) zk_188_23 (nL := 4) rfl rfl rfl rfl rfl (pc' := 24) rfl ?_
    refine T_ld zk_188_24 rfl rfl rfl (pc' := 25) rfl ?_
    by_cases h3 : p0 = 0
    · subst h3
      refine T_br (t := 116) zk_188_25 rfl rfl rfl (fun _ => rfl) rfl ?_
      refine T_ld zk_188_116 rfl rfl rfl (pc' := 117) rfl ?_
      refine T_getR (t' := 36) (i' := 0) (k' := 0) zk_188_117 rfl rfl rfl vd_35 (pc' := 120) rfl ?_
      refine T_op zk_188_120 rfl (X_si (v := 633) (by decide)) (pc' := 123) rfl ?_
      refine G_ialdX (w := 0) (ln := 646) zk_188_123 rfl rfl (vd_36 (by omega)) (by omega) (by omega) (by omega) (fun σ' h => (h.1.2 _ _ _ _ (fun q => q)).trans ((hm _ _ _ _ (by decide)).trans (s0_z (by omega)))) (pc' := 124) rfl ?_
      exact T_iret zk_188_124 rfl (fun σ' h => ⟨_, rfl, (by omega), h.1, trivial⟩)
    by_cases h4 : p0 = 1
    · subst h4
      refine T_br (t := 125) zk_188_25 rfl rfl rfl (fun _ => rfl) rfl ?_
      refine T_op zk_188_125 rfl X_ic (pc' := 126) rfl ?_
      refine T_st (L' := [(0, av 35 0 0), (1, iv 1), (2, iv 0), (3, iv 0)]) zk_188_126 (nL := 4) rfl rfl rfl rfl rfl (pc' := 127) rfl ?_
      refine T_loop2 (fun x5 x6 => ((0 : Int)).toNat) (fun x5 x6 => (0 ≤ x5 ∧ x5 ≤ 0) ∧ (0 ≤ x6 ∧ x6 ≤ 0)) (fun x5 x6 => TJ xs (fun σ' => IF MN σ σ' ∧ True) 1 188 127 [(0, av 35 0 0), (1, iv 1), (2, iv x5), (3, iv x6)] [] _) ?_ 0 0 (by omega)
      intro x5 x6 hp8 ih7
      refine T_ld zk_188_127 rfl rfl rfl (pc' := 128) rfl ?_
      refine T_ld zk_188_128 rfl rfl rfl (pc' := 129) rfl ?_
      refine T_getR (t' := 36) (i' := 0) (k' := 0) zk_188_129 rfl rfl rfl vd_35 (pc' := 132) rfl ?_
      refine T_op zk_188_132 rfl (X_si (v := 633) (by decide)) (pc' := 135) rfl ?_
      refine G_ialdX (w := 0) (ln := 646) zk_188_135 rfl rfl (vd_36 (by omega)) (by omega) (by omega) (by omega) (fun σ' h => (h.1.2 _ _ _ _ (fun q => q)).trans ((hm _ _ _ _ (by decide)).trans (s0_z (by omega)))) (pc' := 136) rfl ?_
      refine T_icmp_ge zk_188_136 (by omega) (by omega) (pc' := 139) rfl (fun h9 => ?_) (fun h10 => ?_)
      ·
        refine T_ld zk_188_158 rfl rfl rfl (pc' := 159) rfl ?_
        exact T_iret zk_188_159 rfl (fun σ' h => ⟨_, rfl, (by omega), h.1, trivial⟩)
      · exfalso; omega
    by_cases h11 : p0 = 2
    · subst h11
      refine T_br (t := 160) zk_188_25 rfl rfl rfl (fun _ => rfl) rfl ?_
      refine T_ld zk_188_160 rfl rfl rfl (pc' := 161) rfl ?_
      refine T_getR (t' := 36) (i' := 0) (k' := 0) zk_188_161 rfl rfl rfl vd_35 (pc' := 164) rfl ?_
      refine T_op zk_188_164 rfl (X_si (v := 640) (by decide)) (pc' := 167) rfl ?_
      refine G_ialdX (w := 0) (ln := 646) zk_188_167 rfl rfl (vd_36 (by omega)) (by omega) (by omega) (by omega) (fun σ' h => (h.1.2 _ _ _ _ (fun q => q)).trans ((hm _ _ _ _ (by decide)).trans (s0_z (by omega)))) (pc' := 168) rfl ?_
      exact T_iret zk_188_168 rfl (fun σ' h => ⟨_, rfl, (by omega), h.1, trivial⟩)
    by_cases h12 : p0 = 3
    · subst h12
      refine T_br (t := 169) zk_188_25 rfl rfl rfl (fun _ => rfl) rfl ?_
      refine T_op zk_188_169 rfl X_ic (pc' := 170) rfl ?_
      refine T_st (L' := [(0, av 35 0 0), (1, iv 3), (2, iv 0), (3, iv 0)]) zk_188_170 (nL := 4) rfl rfl rfl rfl rfl (pc' := 171) rfl ?_
      refine T_loop2 (fun x13 x14 => ((0 : Int)).toNat) (fun x13 x14 => (0 ≤ x13 ∧ x13 ≤ 0) ∧ (0 ≤ x14 ∧ x14 ≤ 0)) (fun x13 x14 => TJ xs (fun σ' => IF MN σ σ' ∧ True) 1 188 171 [(0, av 35 0 0), (1, iv 3), (2, iv x13), (3, iv x14)] [] _) ?_ 0 0 (by omega)
      intro x13 x14 hp16 ih15
      refine T_ld zk_188_171 rfl rfl rfl (pc' := 172) rfl ?_
      refine T_ld zk_188_172 rfl rfl rfl (pc' := 173) rfl ?_
      refine T_getR (t' := 36) (i' := 0) (k' := 0) zk_188_173 rfl rfl rfl vd_35 (pc' := 176) rfl ?_
      refine T_op zk_188_176 rfl (X_si (v := 640) (by decide)) (pc' := 179) rfl ?_
      refine G_ialdX (w := 0) (ln := 646) zk_188_179 rfl rfl (vd_36 (by omega)) (by omega) (by omega) (by omega) (fun σ' h => (h.1.2 _ _ _ _ (fun q => q)).trans ((hm _ _ _ _ (by decide)).trans (s0_z (by omega)))) (pc' := 180) rfl ?_
      refine T_icmp_ge zk_188_180 (by omega) (by omega) (pc' := 183) rfl (fun h17 => ?_) (fun h18 => ?_)
      ·
        refine T_ld zk_188_202 rfl rfl rfl (pc' := 203) rfl ?_
        exact T_iret zk_188_203 rfl (fun σ' h => ⟨_, rfl, (by omega), h.1, trivial⟩)
      · exfalso; omega
    by_cases h19 : p0 = 4
    · subst h19
      refine T_br (t := 204) zk_188_25 rfl rfl rfl (fun _ => rfl) rfl ?_
      refine T_ld zk_188_204 rfl rfl rfl (pc' := 205) rfl ?_
      refine T_getR (t' := 36) (i' := 0) (k' := 0) zk_188_205 rfl rfl rfl vd_35 (pc' := 208) rfl ?_
      refine T_op zk_188_208 rfl (X_si (v := 641) (by decide)) (pc' := 211) rfl ?_
      refine G_ialdX (w := 0) (ln := 646) zk_188_211 rfl rfl (vd_36 (by omega)) (by omega) (by omega) (by omega) (fun σ' h => (h.1.2 _ _ _ _ (fun q => q)).trans ((hm _ _ _ _ (by decide)).trans (s0_z (by omega)))) (pc' := 212) rfl ?_
      exact T_iret zk_188_212 rfl (fun σ' h => ⟨_, rfl, (by omega), h.1, trivial⟩)
    by_cases h20 : p0 = 5
    · subst h20
      refine T_br (t := 213) zk_188_25 rfl rfl rfl (fun _ => rfl) rfl ?_
      refine T_ld zk_188_213 rfl rfl rfl (pc' := 214) rfl ?_
      refine T_getR (t' := 36) (i' := 0) (k' := 0) zk_188_214 rfl rfl rfl vd_35 (pc' := 217) rfl ?_
      refine T_op zk_188_217 rfl (X_si (v := 642) (by decide)) (pc' := 220) rfl ?_
      refine G_ialdX (w := 0) (ln := 646) zk_188_220 rfl rfl (vd_36 (by omega)) (by omega) (by omega) (by omega) (fun σ' h => (h.1.2 _ _ _ _ (fun q => q)).trans ((hm _ _ _ _ (by decide)).trans (s0_z (by omega)))) (pc' := 221) rfl ?_
      exact T_iret zk_188_221 rfl (fun σ' h => ⟨_, rfl, (by omega), h.1, trivial⟩)
    by_cases h21 : p0 = 6
    · subst h21
      refine T_br (t := 222) zk_188_25 rfl rfl rfl (fun _ => rfl) rfl ?_
      refine T_ld zk_188_222 rfl rfl rfl (pc' := 223) rfl ?_
      refine T_calli (K := fun y22 σ' => (y22 = 0) ∧ (fun σ' => IF MN σ σ' ∧ True) σ') (r := []) zk_188_223 rfl rfl rfl rfl rfl rfl (Or.inr ⟨_, _, _, _, rfl, vd_35, rfl⟩) (fun σ' h => (m_160e   σ' h.1.1 ((h.1.2 _ _ _ _ (fun q => q)).trans ((hm _ _ _ _ (by decide)).trans (s0_z (by omega))))).le (Nat.le_of_ble_eq_true rfl) (fun v σ2 ⟨y, h1, h2, h3, h4⟩ => ⟨y, h1, h2, h.1.tr h3 MN_sub, trivial⟩)) (pc' := 226) rfl (fun y22 => ?_)
      refine G_ex (fun hy22 => ?_)
      obtain rfl : y22 = 0 := by omega
      exact T_iret zk_188_226 rfl (fun σ' h => ⟨_, rfl, (by omega), h.1, trivial⟩)
    by_cases h23 : p0 = 7
    · subst h23
      refine T_br (t := 227) zk_188_25 rfl rfl rfl (fun _ => rfl) rfl ?_
      refine T_ld zk_188_227 rfl rfl rfl (pc' := 228) rfl ?_
      refine T_getR (t' := 36) (i' := 0) (k' := 0) zk_188_228 rfl rfl rfl vd_35 (pc' := 231) rfl ?_
      refine T_op zk_188_231 rfl (X_si (v := 634) (by decide)) (pc' := 234) rfl ?_
      refine G_ialdX (w := 0) (ln := 646) zk_188_234 rfl rfl (vd_36 (by omega)) (by omega) (by omega) (by omega) (fun σ' h => (h.1.2 _ _ _ _ (fun q => q)).trans ((hm _ _ _ _ (by decide)).trans (s0_z (by omega)))) (pc' := 235) rfl ?_
      exact T_iret zk_188_235 rfl (fun σ' h => ⟨_, rfl, (by omega), h.1, trivial⟩)
    by_cases h24 : p0 = 8
    · subst h24
      refine T_br (t := 236) zk_188_25 rfl rfl rfl (fun _ => rfl) rfl ?_
      refine T_ld zk_188_236 rfl rfl rfl (pc' := 237) rfl ?_
      refine T_getR (t' := 36) (i' := 0) (k' := 0) zk_188_237 rfl rfl rfl vd_35 (pc' := 240) rfl ?_
      refine T_op zk_188_240 rfl (X_si (v := 643) (by decide)) (pc' := 243) rfl ?_
      refine G_ialdX (w := 0) (ln := 646) zk_188_243 rfl rfl (vd_36 (by omega)) (by omega) (by omega) (by omega) (fun σ' h => (h.1.2 _ _ _ _ (fun q => q)).trans ((hm _ _ _ _ (by decide)).trans (s0_z (by omega)))) (pc' := 244) rfl ?_
      exact T_iret zk_188_244 rfl (fun σ' h => ⟨_, rfl, (by omega), h.1, trivial⟩)
    by_cases h25 : p0 = 9
    · subst h25
      refine T_br (t := 245) zk_188_25 rfl rfl rfl (fun _ => rfl) rfl ?_
      refine T_ld zk_188_245 rfl rfl rfl (pc' := 246) rfl ?_
      refine T_getR (t' := 36) (i' := 0) (k' := 0) zk_188_246 rfl rfl rfl vd_35 (pc' := 249) rfl ?_
      refine T_op zk_188_249 rfl (X_si (v := 644) (by decide)) (pc' := 252) rfl ?_
      refine G_ialdX (w := 0) (ln := 646) zk_188_252 rfl rfl (vd_36 (by omega)) (by omega) (by omega) (by omega) (fun σ' h => (h.1.2 _ _ _ _ (fun q => q)).trans ((hm _ _ _ _ (by decide)).trans (s0_z (by omega)))) (pc' := 253) rfl ?_
      exact T_iret zk_188_253 rfl (fun σ' h => ⟨_, rfl, (by omega), h.1, trivial⟩)
    by_cases h26 : p0 = 10
    · subst h26
      refine T_br (t := 254) zk_188_25 rfl rfl rfl (fun _ => rfl) rfl ?_
      refine T_op zk_188_254 rfl X_ic (pc' := 255) rfl ?_
      refine T_st (L' := [(0, av 35 0 0), (1, iv 10), (2, iv 0), (3, iv 0)]) zk_188_255 (nL := 4) rfl rfl rfl rfl rfl (pc' := 256) rfl ?_
      refine T_loop2 (fun x27 x28 => ((25 - x28 : Int)).toNat) (fun x27 x28 => (0 ≤ x27 ∧ x27 ≤ 0) ∧ (0 ≤ x28 ∧ x28 ≤ 25)) (fun x27 x28 => TJ xs (fun σ' => IF MN σ σ' ∧ True) 1 188 256 [(0, av 35 0 0), (1, iv 10), (2, iv x27), (3, iv x28)] [] _) ?_ 0 0 (by omega)
      intro x27 x28 hp30 ih29
      refine T_ld zk_188_256 rfl rfl rfl (pc' := 257) rfl ?_
      refine T_op zk_188_257 rfl (X_bi (v := 25) (by decide)) (pc' := 259) rfl ?_
      refine T_icmp_ge zk_188_259 (by omega) (by omega) (pc' := 262) rfl (fun h31 => ?_) (fun h32 => ?_)
      ·
        refine T_ld zk_188_280 rfl rfl rfl (pc' := 281) rfl ?_
        exact T_iret zk_188_281 rfl (fun σ' h => ⟨_, rfl, (by omega), h.1, trivial⟩)
      ·
        refine T_ld zk_188_262 rfl rfl rfl (pc' := 263) rfl ?_
        refine T_ld zk_188_263 rfl rfl rfl (pc' := 264) rfl ?_
        refine T_getR (t' := 36) (i' := 0) (k' := 0) zk_188_264 rfl rfl rfl vd_35 (pc' := 267) rfl ?_
        refine T_op zk_188_267 rfl (X_bi (v := 25) (by decide)) (pc' := 269) rfl ?_
        refine T_ld zk_188_269 rfl rfl rfl (pc' := 270) rfl ?_
        refine T_op zk_188_270 rfl X_add (pc' := 271) rfl ?_
        refine G_ialdX (w := 0) (ln := 646) zk_188_271 rfl rfl (vd_36 (by omega)) (by omega) (by omega) (by omega) (fun σ' h => (h.1.2 _ _ _ _ (fun q => q)).trans ((hm _ _ _ _ (by decide)).trans (s0_z (by omega)))) (pc' := 272) rfl ?_
        refine T_opc (w := 0) zk_188_272 rfl X_add (by omega) (pc' := 273) rfl ?_
        refine T_st (L' := [(0, av 35 0 0), (1, iv 10), (2, iv 0), (3, iv x28)]) zk_188_273 (nL := 4) rfl rfl rfl rfl rfl (pc' := 274) rfl ?_
        refine T_iinc (L' := [(0, av 35 0 0), (1, iv 10), (2, iv 0), (3, iv (x28 + 1))]) zk_188_274 (nL := 4) rfl rfl rfl rfl (pc' := 277) rfl ?_
        refine T_goto zk_188_277 ?_
        exact ih29 0 (x28 + 1) (by omega) (by omega)
    refine T_tso (t := 291) zk_188_25 (by omega) (by omega) (by omega) ?_
    refine T_ldc zk_188_291 (pc' := 293) rfl ?_
    exact T_iret zk_188_293 rfl (fun σ' h => ⟨_, rfl, (by omega), h.1, trivial⟩)
  ·
    refine T_ld zk_188_6 rfl rfl rfl (pc' := 7) rfl ?_
    refine T_op zk_188_7 rfl (X_bi (v := 18) (by decide)) (pc' := 9) rfl ?_
    refine T_icmp_ge zk_188_9 (by omega) (by omega) (pc' := 12) rfl (fun h33 => ?_) (fun h34 => ?_)
    ·
      refine T_op zk_188_22 rfl X_ic (pc' := 23) rfl ?_
      refine T_st (L' := [(0, av 35 0 0), (1, iv p0), (2, iv 0)]) zk_188_23 (nL := 4) rfl rfl rfl rfl rfl (pc' := 24) rfl ?_
      refine T_ld zk_188_24 rfl rfl rfl (pc' := 25) rfl ?_
      by_cases h35 : p0 = 18
      · subst h35
        refine T_br (t := 282) zk_188_25 rfl rfl rfl (fun _ => rfl) rfl ?_
        refine T_ld zk_188_282 rfl rfl rfl (pc' := 283) rfl ?_
        refine T_getR (t' := 36) (i' := 0) (k' := 0) zk_188_283 rfl rfl rfl vd_35 (pc' := 286) rfl ?_
        refine T_op zk_188_286 rfl (X_si (v := 645) (by decide)) (pc' := 289) rfl ?_
        refine G_ialdX (w := 0) (ln := 646) zk_188_289 rfl rfl (vd_36 (by omega)) (by omega) (by omega) (by omega) (fun σ' h => (h.1.2 _ _ _ _ (fun q => q)).trans ((hm _ _ _ _ (by decide)).trans (s0_z (by omega)))) (pc' := 290) rfl ?_
        exact T_iret zk_188_290 rfl (fun σ' h => ⟨_, rfl, (by omega), h.1, trivial⟩)
      refine T_tso (t := 291) zk_188_25 (by omega) (by omega) (by omega) ?_
      refine T_ldc zk_188_291 (pc' := 293) rfl ?_
      exact T_iret zk_188_293 rfl (fun σ' h => ⟨_, rfl, (by omega), h.1, trivial⟩)
    ·
      refine T_ld zk_188_12 rfl rfl rfl (pc' := 13) rfl ?_
      refine T_getR (t' := 49) (i' := 0) (k' := 0) zk_188_13 rfl rfl rfl vd_35 (pc' := 16) rfl ?_
      refine T_ld zk_188_16 rfl rfl rfl (pc' := 17) rfl ?_
      refine T_op zk_188_17 rfl (X_bi (v := 10) (by decide)) (pc' := 19) rfl ?_
      refine T_op zk_188_19 rfl X_sub (pc' := 20) rfl ?_
      refine G_ialdX (w := 0) (ln := 8) zk_188_20 rfl rfl vd_49 (by omega) (by omega) (by omega) (fun σ' h => (h.1.2 _ _ _ _ (fun q => q)).trans (hm _ _ _ _ (by decide))) (pc' := 21) rfl ?_
      exact T_iret zk_188_21 rfl (fun σ' h => ⟨_, rfl, (by omega), h.1, trivial⟩)
