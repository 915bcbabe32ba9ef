theorem zc191 (pc : Nat) : zc 191 pc = (zC_191[pc]?).join := rfl
theorem zl191_0 : zC_191_0.length = 150 := by decide +kernel
theorem zl191_1 : zC_191_1.length = 150 := by decide +kernel
theorem zl191_2 : zC_191_2.length = 150 := by decide +kernel
theorem zl191_3 : zC_191_3.length = 150 := by decide +kernel
theorem zl191_4 : zC_191_4.length = 150 := by decide +kernel
theorem zl191_5 : zC_191_5.length = 150 := by decide +kernel
theorem zl191_6 : zC_191_6.length = 150 := by decide +kernel
theorem zl191_7 : zC_191_7.length = 150 := by decide +kernel
theorem zl191_8 : zC_191_8.length = 150 := by decide +kernel
theorem zl191_9 : zC_191_9.length = 150 := by decide +kernel
theorem zq191_0 (r : Nat) (hr : r < 150) : zc 191 (150 * 0 + r) = (zC_191_0[r]?).join := by
  rw [zc191]
  unfold zC_191
  rw [List.getElem?_append_left (by rw [zl191_0]; omega)]
  rw [show 150 * 0 + r = r from by omega]
theorem zq191_1 (r : Nat) (hr : r < 150) : zc 191 (150 * 1 + r) = (zC_191_1[r]?).join := by
  rw [zc191]
  unfold zC_191
  rw [List.getElem?_append_right (by rw [zl191_0]; omega), zl191_0, List.getElem?_append_left (by rw [zl191_1]; omega)]
  rw [show 150 * 1 + r - 150 = r from by omega]
theorem zq191_2 (r : Nat) (hr : r < 150) : zc 191 (150 * 2 + r) = (zC_191_2[r]?).join := by
  rw [zc191]
  unfold zC_191
  rw [List.getElem?_append_right (by rw [zl191_0]; omega), zl191_0, List.getElem?_append_right (by rw [zl191_1]; omega), zl191_1, List.getElem?_append_left (by rw [zl191_2]; omega)]
  rw [show 150 * 2 + r - 150 - 150 = r from by omega]
theorem zq191_3 (r : Nat) (hr : r < 150) : zc 191 (150 * 3 + r) = (zC_191_3[r]?).join := by
  rw [zc191]
  unfold zC_191
  rw [List.getElem?_append_right (by rw [zl191_0]; omega), zl191_0, List.getElem?_append_right (by rw [zl191_1]; omega), zl191_1, List.getElem?_append_right (by rw [zl191_2]; omega), zl191_2, List.getElem?_append_left (by rw [zl191_3]; omega)]
  rw [show 150 * 3 + r - 150 - 150 - 150 = r from by omega]
theorem zq191_4 (r : Nat) (hr : r < 150) : zc 191 (150 * 4 + r) = (zC_191_4[r]?).join := by
  rw [zc191]
  unfold zC_191
  rw [List.getElem?_append_right (by rw [zl191_0]; omega), zl191_0, List.getElem?_append_right (by rw [zl191_1]; omega), zl191_1, List.getElem?_append_right (by rw [zl191_2]; omega), zl191_2, List.getElem?_append_right (by rw [zl191_3]; omega), zl191_3, List.getElem?_append_left (by rw [zl191_4]; omega)]
  rw [show 150 * 4 + r - 150 - 150 - 150 - 150 = r from by omega]
theorem zq191_5 (r : Nat) (hr : r < 150) : zc 191 (150 * 5 + r) = (zC_191_5[r]?).join := by
  rw [zc191]
  unfold zC_191
  rw [List.getElem?_append_right (by rw [zl191_0]; omega), zl191_0, List.getElem?_append_right (by rw [zl191_1]; omega), zl191_1, List.getElem?_append_right (by rw [zl191_2]; omega), zl191_2, List.getElem?_append_right (by rw [zl191_3]; omega), zl191_3, List.getElem?_append_right (by rw [zl191_4]; omega), zl191_4, List.getElem?_append_left (by rw [zl191_5]; omega)]
  rw [show 150 * 5 + r - 150 - 150 - 150 - 150 - 150 = r from by omega]
theorem zq191_6 (r : Nat) (hr : r < 150) : zc 191 (150 * 6 + r) = (zC_191_6[r]?).join := by
  rw [zc191]
  unfold zC_191
  rw [List.getElem?_append_right (by rw [zl191_0]; omega), zl191_0, List.getElem?_append_right (by rw [zl191_1]; omega), zl191_1, List.getElem?_append_right (by rw [zl191_2]; omega), zl191_2, List.getElem?_append_right (by rw [zl191_3]; omega), zl191_3, List.getElem?_append_right (by rw [zl191_4]; omega), zl191_4, List.getElem?_append_right (by rw [zl191_5]; omega), zl191_5, List.getElem?_append_left (by rw [zl191_6]; omega)]
  rw [show 150 * 6 + r - 150 - 150 - 150 - 150 - 150 - 150 = r from by omega]
theorem zq191_7 (r : Nat) (hr : r < 150) : zc 191 (150 * 7 + r) = (zC_191_7[r]?).join := by
  rw [zc191]
  unfold zC_191
  rw [List.getElem?_append_right (by rw [zl191_0]; omega), zl191_0, List.getElem?_append_right (by rw [zl191_1]; omega), zl191_1, List.getElem?_append_right (by rw [zl191_2]; omega), zl191_2, List.getElem?_append_right (by rw [zl191_3]; omega), zl191_3, List.getElem?_append_right (by rw [zl191_4]; omega), zl191_4, List.getElem?_append_right (by rw [zl191_5]; omega), zl191_5, List.getElem?_append_right (by rw [zl191_6]; omega), zl191_6, List.getElem?_append_left (by rw [zl191_7]; omega)]
  rw [show 150 * 7 + r - 150 - 150 - 150 - 150 - 150 - 150 - 150 = r from by omega]
theorem zq191_8 (r : Nat) (hr : r < 150) : zc 191 (150 * 8 + r) = (zC_191_8[r]?).join := by
  rw [zc191]
  unfold zC_191
  rw [List.getElem?_append_right (by rw [zl191_0]; omega), zl191_0, List.getElem?_append_right (by rw [zl191_1]; omega), zl191_1, List.getElem?_append_right (by rw [zl191_2]; omega), zl191_2, List.getElem?_append_right (by rw [zl191_3]; omega), zl191_3, List.getElem?_append_right (by rw [zl191_4]; omega), zl191_4, List.getElem?_append_right (by rw [zl191_5]; omega), zl191_5, List.getElem?_append_right (by rw [zl191_6]; omega), zl191_6, List.getElem?_append_right (by rw [zl191_7]; omega), zl191_7, List.getElem?_append_left (by rw [zl191_8]; omega)]
  rw [show 150 * 8 + r - 150 - 150 - 150 - 150 - 150 - 150 - 150 - 150 = r from by omega]
theorem zq191_9 (r : Nat) (hr : r < 150) : zc 191 (150 * 9 + r) = (zC_191_9[r]?).join := by
  rw [zc191]
  unfold zC_191
  rw [List.getElem?_append_right (by rw [zl191_0]; omega), zl191_0, List.getElem?_append_right (by rw [zl191_1]; omega), zl191_1, List.getElem?_append_right (by rw [zl191_2]; omega), zl191_2, List.getElem?_append_right (by rw [zl191_3]; omega), zl191_3, List.getElem?_append_right (by rw [zl191_4]; omega), zl191_4, List.getElem?_append_right (by rw [zl191_5]; omega), zl191_5, List.getElem?_append_right (by rw [zl191_6]; omega), zl191_6, List.getElem?_append_right (by rw [zl191_7]; omega), zl191_7, List.getElem?_append_right (by rw [zl191_8]; omega), zl191_8, List.getElem?_append_left (by rw [zl191_9]; omega)]
  rw [show 150 * 9 + r - 150 - 150 - 150 - 150 - 150 - 150 - 150 - 150 - 150 = r from by omega]
theorem zq191_10 (r : Nat) (hr : r < 150) : zc 191 (150 * 10 + r) = (zC_191_10[r]?).join := by
  rw [zc191]
  unfold zC_191
  rw [List.getElem?_append_right (by rw [zl191_0]; omega), zl191_0, List.getElem?_append_right (by rw [zl191_1]; omega), zl191_1, List.getElem?_append_right (by rw [zl191_2]; omega), zl191_2, List.getElem?_append_right (by rw [zl191_3]; omega), zl191_3, List.getElem?_append_right (by rw [zl191_4]; omega), zl191_4, List.getElem?_append_right (by rw [zl191_5]; omega), zl191_5, List.getElem?_append_right (by rw [zl191_6]; omega), zl191_6, List.getElem?_append_right (by rw [zl191_7]; omega), zl191_7, List.getElem?_append_right (by rw [zl191_8]; omega), zl191_8, List.getElem?_append_right (by rw [zl191_9]; omega), zl191_9]
  rw [show 150 * 10 + r - 150 - 150 - 150 - 150 - 150 - 150 - 150 - 150 - 150 - 150 = r from by omega]
theorem zk_191_18 : zc 191 18 = some (.iload_n 3, 0, 0, 0, 0) := (zq191_0 18 (by decide)).trans rfl
theorem zk_191_19 : zc 191 19 = some (.aload_n 0, 0, 0, 0, 0) := (zq191_0 19 (by decide)).trans rfl
theorem zk_191_20 : zc 191 20 = some (.arraylength, 0, 0, 0, 0) := (zq191_0 20 (by decide)).trans rfl
theorem zk_191_21 : zc 191 21 = some (.bipush 6, 0, 0, 0, 0) := (zq191_0 21 (by decide)).trans rfl
theorem zk_191_23 : zc 191 23 = some (.isub, 0, 0, 0, 0) := (zq191_0 23 (by decide)).trans rfl
theorem zk_191_24 : zc 191 24 = some (.if_icmp .gt 1592, 1616, 0, 0, 0) := (zq191_0 24 (by decide)).trans rfl
theorem zk_191_27 : zc 191 27 = some (.aload_n 0, 0, 0, 0, 0) := (zq191_0 27 (by decide)).trans rfl
theorem zk_191_28 : zc 191 28 = some (.iload_n 3, 0, 0, 0, 0) := (zq191_0 28 (by decide)).trans rfl
theorem zk_191_29 : zc 191 29 = some (.iaload, 0, 0, 0, 0) := (zq191_0 29 (by decide)).trans rfl
theorem zk_191_30 : zc 191 30 = some (.bipush 63, 0, 0, 0, 0) := (zq191_0 30 (by decide)).trans rfl
theorem zk_191_32 : zc 191 32 = some (.iand, 0, 0, 0, 0) := (zq191_0 32 (by decide)).trans rfl
theorem zk_191_33 : zc 191 33 = some (.tableswitch 1577 0 37 #[167, 200, 233, 292, 351, 394, 417, 466, 509, 582, 645, 678, 711, 734, 767, 816, 865, 898, 921, 934, 983, 1006, 1069, 1102, 1135, 1198, 1231, 1254, 1297, 1330, 1353, 1386, 1419, 1452, 1465, 1478, 1511, 1554], 0, 0, 0, 0) := (zq191_0 33 (by decide)).trans rfl
theorem zk_191_200 : zc 191 200 = some (.aload_n 1, 0, 0, 0, 0) := (zq191_1 50 (by decide)).trans rfl
theorem zk_191_201 : zc 191 201 = some (.aload_n 0, 0, 0, 0, 0) := (zq191_1 51 (by decide)).trans rfl
theorem zk_191_202 : zc 191 202 = some (.iload_n 3, 0, 0, 0, 0) := (zq191_1 52 (by decide)).trans rfl
theorem zk_191_203 : zc 191 203 = some (.iconst 1, 0, 0, 0, 0) := (zq191_1 53 (by decide)).trans rfl
theorem zk_191_204 : zc 191 204 = some (.iadd, 0, 0, 0, 0) := (zq191_1 54 (by decide)).trans rfl
theorem zk_191_205 : zc 191 205 = some (.iaload, 0, 0, 0, 0) := (zq191_1 55 (by decide)).trans rfl
theorem zk_191_206 : zc 191 206 = some (.aload_n 0, 0, 0, 0, 0) := (zq191_1 56 (by decide)).trans rfl
theorem zk_191_207 : zc 191 207 = some (.iload_n 3, 0, 0, 0, 0) := (zq191_1 57 (by decide)).trans rfl
theorem zk_191_208 : zc 191 208 = some (.iconst 2, 0, 0, 0, 0) := (zq191_1 58 (by decide)).trans rfl
theorem zk_191_209 : zc 191 209 = some (.iadd, 0, 0, 0, 0) := (zq191_1 59 (by decide)).trans rfl
theorem zk_191_210 : zc 191 210 = some (.iaload, 0, 0, 0, 0) := (zq191_1 60 (by decide)).trans rfl
theorem zk_191_211 : zc 191 211 = some (.invokevirtual 13, 75, 0, 3, 158) := (zq191_1 61 (by decide)).trans rfl
theorem zk_191_214 : zc 191 214 = some (.pop, 0, 0, 0, 0) := (zq191_1 64 (by decide)).trans rfl
theorem zk_191_215 : zc 191 215 = some (.aload_n 2, 0, 0, 0, 0) := (zq191_1 65 (by decide)).trans rfl
theorem zk_191_216 : zc 191 216 = some (.aload_n 0, 0, 0, 0, 0) := (zq191_1 66 (by decide)).trans rfl
theorem zk_191_217 : zc 191 217 = some (.iload_n 3, 0, 0, 0, 0) := (zq191_1 67 (by decide)).trans rfl
theorem zk_191_218 : zc 191 218 = some (.iconst 1, 0, 0, 0, 0) := (zq191_1 68 (by decide)).trans rfl
theorem zk_191_219 : zc 191 219 = some (.iadd, 0, 0, 0, 0) := (zq191_1 69 (by decide)).trans rfl
theorem zk_191_220 : zc 191 220 = some (.iaload, 0, 0, 0, 0) := (zq191_1 70 (by decide)).trans rfl
theorem zk_191_221 : zc 191 221 = some (.aload_n 0, 0, 0, 0, 0) := (zq191_1 71 (by decide)).trans rfl
theorem zk_191_222 : zc 191 222 = some (.iload_n 3, 0, 0, 0, 0) := (zq191_1 72 (by decide)).trans rfl
theorem zk_191_223 : zc 191 223 = some (.iconst 2, 0, 0, 0, 0) := (zq191_1 73 (by decide)).trans rfl
theorem zk_191_224 : zc 191 224 = some (.iadd, 0, 0, 0, 0) := (zq191_1 74 (by decide)).trans rfl
theorem zk_191_225 : zc 191 225 = some (.iaload, 0, 0, 0, 0) := (zq191_1 75 (by decide)).trans rfl
theorem zk_191_226 : zc 191 226 = some (.invokevirtual 17, 127, 0, 3, 159) := (zq191_1 76 (by decide)).trans rfl
theorem zk_191_229 : zc 191 229 = some (.pop, 0, 0, 0, 0) := (zq191_1 79 (by decide)).trans rfl
theorem zk_191_230 : zc 191 230 = some (.goto 1380, 1610, 0, 0, 0) := (zq191_1 80 (by decide)).trans rfl
theorem zk_191_233 : zc 191 233 = some (.aload_n 1, 0, 0, 0, 0) := (zq191_1 83 (by decide)).trans rfl
theorem zk_191_234 : zc 191 234 = some (.aload_n 0, 0, 0, 0, 0) := (zq191_1 84 (by decide)).trans rfl
theorem zk_191_235 : zc 191 235 = some (.iload_n 3, 0, 0, 0, 0) := (zq191_1 85 (by decide)).trans rfl
theorem zk_191_236 : zc 191 236 = some (.iconst 1, 0, 0, 0, 0) := (zq191_1 86 (by decide)).trans rfl
theorem zk_191_237 : zc 191 237 = some (.iadd, 0, 0, 0, 0) := (zq191_1 87 (by decide)).trans rfl
theorem zk_191_238 : zc 191 238 = some (.iaload, 0, 0, 0, 0) := (zq191_1 88 (by decide)).trans rfl
theorem zk_191_239 : zc 191 239 = some (.aload_n 0, 0, 0, 0, 0) := (zq191_1 89 (by decide)).trans rfl
theorem zk_191_240 : zc 191 240 = some (.iload_n 3, 0, 0, 0, 0) := (zq191_1 90 (by decide)).trans rfl
theorem zk_191_241 : zc 191 241 = some (.iconst 2, 0, 0, 0, 0) := (zq191_1 91 (by decide)).trans rfl
theorem zk_191_242 : zc 191 242 = some (.iadd, 0, 0, 0, 0) := (zq191_1 92 (by decide)).trans rfl
theorem zk_191_243 : zc 191 243 = some (.iaload, 0, 0, 0, 0) := (zq191_1 93 (by decide)).trans rfl
theorem zk_191_244 : zc 191 244 = some (.invokevirtual 18, 76, 0, 3, 160) := (zq191_1 94 (by decide)).trans rfl
theorem zk_191_247 : zc 191 247 = some (.pop, 0, 0, 0, 0) := (zq191_1 97 (by decide)).trans rfl
theorem zk_191_248 : zc 191 248 = some (.aload_n 2, 0, 0, 0, 0) := (zq191_1 98 (by decide)).trans rfl
theorem zk_191_249 : zc 191 249 = some (.aload_n 0, 0, 0, 0, 0) := (zq191_1 99 (by decide)).trans rfl
theorem zk_191_250 : zc 191 250 = some (.iload_n 3, 0, 0, 0, 0) := (zq191_1 100 (by decide)).trans rfl
theorem zk_191_251 : zc 191 251 = some (.iconst 1, 0, 0, 0, 0) := (zq191_1 101 (by decide)).trans rfl
theorem zk_191_252 : zc 191 252 = some (.iadd, 0, 0, 0, 0) := (zq191_1 102 (by decide)).trans rfl
theorem zk_191_253 : zc 191 253 = some (.iaload, 0, 0, 0, 0) := (zq191_1 103 (by decide)).trans rfl
theorem zk_191_254 : zc 191 254 = some (.aload_n 0, 0, 0, 0, 0) := (zq191_1 104 (by decide)).trans rfl
theorem zk_191_255 : zc 191 255 = some (.iload_n 3, 0, 0, 0, 0) := (zq191_1 105 (by decide)).trans rfl
theorem zk_191_256 : zc 191 256 = some (.iconst 2, 0, 0, 0, 0) := (zq191_1 106 (by decide)).trans rfl
theorem zk_191_257 : zc 191 257 = some (.iadd, 0, 0, 0, 0) := (zq191_1 107 (by decide)).trans rfl
theorem zk_191_258 : zc 191 258 = some (.iaload, 0, 0, 0, 0) := (zq191_1 108 (by decide)).trans rfl
theorem zk_191_259 : zc 191 259 = some (.invokevirtual 21, 128, 0, 3, 161) := (zq191_1 109 (by decide)).trans rfl
theorem zk_191_262 : zc 191 262 = some (.pop, 0, 0, 0, 0) := (zq191_1 112 (by decide)).trans rfl
theorem zk_191_263 : zc 191 263 = some (.goto 1347, 1610, 0, 0, 0) := (zq191_1 113 (by decide)).trans rfl
theorem zk_191_266 : zc 191 266 = some (.aload_n 1, 0, 0, 0, 0) := (zq191_1 116 (by decide)).trans rfl
theorem zk_191_267 : zc 191 267 = some (.aload_n 0, 0, 0, 0, 0) := (zq191_1 117 (by decide)).trans rfl
theorem zk_191_268 : zc 191 268 = some (.iload_n 3, 0, 0, 0, 0) := (zq191_1 118 (by decide)).trans rfl
theorem zk_191_269 : zc 191 269 = some (.iconst 1, 0, 0, 0, 0) := (zq191_1 119 (by decide)).trans rfl
theorem zk_191_270 : zc 191 270 = some (.iadd, 0, 0, 0, 0) := (zq191_1 120 (by decide)).trans rfl
theorem zk_191_271 : zc 191 271 = some (.iaload, 0, 0, 0, 0) := (zq191_1 121 (by decide)).trans rfl
theorem zk_191_272 : zc 191 272 = some (.aload_n 0, 0, 0, 0, 0) := (zq191_1 122 (by decide)).trans rfl
theorem zk_191_273 : zc 191 273 = some (.iload_n 3, 0, 0, 0, 0) := (zq191_1 123 (by decide)).trans rfl
theorem zk_191_274 : zc 191 274 = some (.iconst 2, 0, 0, 0, 0) := (zq191_1 124 (by decide)).trans rfl
theorem zk_191_275 : zc 191 275 = some (.iadd, 0, 0, 0, 0) := (zq191_1 125 (by decide)).trans rfl
theorem zk_191_276 : zc 191 276 = some (.iaload, 0, 0, 0, 0) := (zq191_1 126 (by decide)).trans rfl
theorem zk_191_277 : zc 191 277 = some (.aload_n 0, 0, 0, 0, 0) := (zq191_1 127 (by decide)).trans rfl
theorem zk_191_278 : zc 191 278 = some (.iload_n 3, 0, 0, 0, 0) := (zq191_1 128 (by decide)).trans rfl
theorem zk_191_279 : zc 191 279 = some (.iconst 3, 0, 0, 0, 0) := (zq191_1 129 (by decide)).trans rfl
theorem zk_191_280 : zc 191 280 = some (.iadd, 0, 0, 0, 0) := (zq191_1 130 (by decide)).trans rfl
theorem zk_191_281 : zc 191 281 = some (.iaload, 0, 0, 0, 0) := (zq191_1 131 (by decide)).trans rfl
theorem zk_191_282 : zc 191 282 = some (.ifCond .eq 7, 289, 0, 0, 0) := (zq191_1 132 (by decide)).trans rfl
theorem zk_191_285 : zc 191 285 = some (.iconst 1, 0, 0, 0, 0) := (zq191_1 135 (by decide)).trans rfl
theorem zk_191_286 : zc 191 286 = some (.goto 4, 290, 0, 0, 0) := (zq191_1 136 (by decide)).trans rfl
theorem zk_191_289 : zc 191 289 = some (.iconst 0, 0, 0, 0, 0) := (zq191_1 139 (by decide)).trans rfl
theorem zk_191_290 : zc 191 290 = some (.invokevirtual 22, 77, 0, 4, 162) := (zq191_1 140 (by decide)).trans rfl
theorem zk_191_293 : zc 191 293 = some (.pop, 0, 0, 0, 0) := (zq191_1 143 (by decide)).trans rfl
theorem zk_191_294 : zc 191 294 = some (.aload_n 2, 0, 0, 0, 0) := (zq191_1 144 (by decide)).trans rfl
theorem zk_191_295 : zc 191 295 = some (.aload_n 0, 0, 0, 0, 0) := (zq191_1 145 (by decide)).trans rfl
theorem zk_191_296 : zc 191 296 = some (.iload_n 3, 0, 0, 0, 0) := (zq191_1 146 (by decide)).trans rfl
theorem zk_191_297 : zc 191 297 = some (.iconst 1, 0, 0, 0, 0) := (zq191_1 147 (by decide)).trans rfl
theorem zk_191_298 : zc 191 298 = some (.iadd, 0, 0, 0, 0) := (zq191_1 148 (by decide)).trans rfl
theorem zk_191_299 : zc 191 299 = some (.iaload, 0, 0, 0, 0) := (zq191_1 149 (by decide)).trans rfl
theorem zk_191_300 : zc 191 300 = some (.aload_n 0, 0, 0, 0, 0) := (zq191_2 0 (by decide)).trans rfl
theorem zk_191_301 : zc 191 301 = some (.iload_n 3, 0, 0, 0, 0) := (zq191_2 1 (by decide)).trans rfl
theorem zk_191_302 : zc 191 302 = some (.iconst 2, 0, 0, 0, 0) := (zq191_2 2 (by decide)).trans rfl
theorem zk_191_303 : zc 191 303 = some (.iadd, 0, 0, 0, 0) := (zq191_2 3 (by decide)).trans rfl
theorem zk_191_304 : zc 191 304 = some (.iaload, 0, 0, 0, 0) := (zq191_2 4 (by decide)).trans rfl
theorem zk_191_305 : zc 191 305 = some (.aload_n 0, 0, 0, 0, 0) := (zq191_2 5 (by decide)).trans rfl
theorem zk_191_306 : zc 191 306 = some (.iload_n 3, 0, 0, 0, 0) := (zq191_2 6 (by decide)).trans rfl
theorem zk_191_307 : zc 191 307 = some (.iconst 3, 0, 0, 0, 0) := (zq191_2 7 (by decide)).trans rfl
theorem zk_191_308 : zc 191 308 = some (.iadd, 0, 0, 0, 0) := (zq191_2 8 (by decide)).trans rfl
theorem zk_191_309 : zc 191 309 = some (.iaload, 0, 0, 0, 0) := (zq191_2 9 (by decide)).trans rfl
theorem zk_191_310 : zc 191 310 = some (.ifCond .eq 7, 317, 0, 0, 0) := (zq191_2 10 (by decide)).trans rfl
theorem zk_191_313 : zc 191 313 = some (.iconst 1, 0, 0, 0, 0) := (zq191_2 13 (by decide)).trans rfl
theorem zk_191_314 : zc 191 314 = some (.goto 4, 318, 0, 0, 0) := (zq191_2 14 (by decide)).trans rfl
theorem zk_191_317 : zc 191 317 = some (.iconst 0, 0, 0, 0, 0) := (zq191_2 17 (by decide)).trans rfl
theorem zk_191_318 : zc 191 318 = some (.invokevirtual 26, 130, 0, 4, 163) := (zq191_2 18 (by decide)).trans rfl
theorem zk_191_321 : zc 191 321 = some (.pop, 0, 0, 0, 0) := (zq191_2 21 (by decide)).trans rfl
theorem zk_191_322 : zc 191 322 = some (.goto 1288, 1610, 0, 0, 0) := (zq191_2 22 (by decide)).trans rfl
theorem zk_191_325 : zc 191 325 = some (.aload_n 1, 0, 0, 0, 0) := (zq191_2 25 (by decide)).trans rfl
theorem zk_191_326 : zc 191 326 = some (.aload_n 0, 0, 0, 0, 0) := (zq191_2 26 (by decide)).trans rfl
theorem zk_191_327 : zc 191 327 = some (.iload_n 3, 0, 0, 0, 0) := (zq191_2 27 (by decide)).trans rfl
theorem zk_191_328 : zc 191 328 = some (.iconst 1, 0, 0, 0, 0) := (zq191_2 28 (by decide)).trans rfl
theorem zk_191_329 : zc 191 329 = some (.iadd, 0, 0, 0, 0) := (zq191_2 29 (by decide)).trans rfl
theorem zk_191_330 : zc 191 330 = some (.iaload, 0, 0, 0, 0) := (zq191_2 30 (by decide)).trans rfl
theorem zk_191_331 : zc 191 331 = some (.aload_n 0, 0, 0, 0, 0) := (zq191_2 31 (by decide)).trans rfl
theorem zk_191_332 : zc 191 332 = some (.iload_n 3, 0, 0, 0, 0) := (zq191_2 32 (by decide)).trans rfl
theorem zk_191_333 : zc 191 333 = some (.iconst 2, 0, 0, 0, 0) := (zq191_2 33 (by decide)).trans rfl
theorem zk_191_334 : zc 191 334 = some (.iadd, 0, 0, 0, 0) := (zq191_2 34 (by decide)).trans rfl
theorem zk_191_335 : zc 191 335 = some (.iaload, 0, 0, 0, 0) := (zq191_2 35 (by decide)).trans rfl
theorem zk_191_336 : zc 191 336 = some (.aload_n 0, 0, 0, 0, 0) := (zq191_2 36 (by decide)).trans rfl
theorem zk_191_337 : zc 191 337 = some (.iload_n 3, 0, 0, 0, 0) := (zq191_2 37 (by decide)).trans rfl
theorem zk_191_338 : zc 191 338 = some (.iconst 3, 0, 0, 0, 0) := (zq191_2 38 (by decide)).trans rfl
theorem zk_191_339 : zc 191 339 = some (.iadd, 0, 0, 0, 0) := (zq191_2 39 (by decide)).trans rfl
theorem zk_191_340 : zc 191 340 = some (.iaload, 0, 0, 0, 0) := (zq191_2 40 (by decide)).trans rfl
theorem zk_191_341 : zc 191 341 = some (.ifCond .eq 7, 348, 0, 0, 0) := (zq191_2 41 (by decide)).trans rfl
theorem zk_191_344 : zc 191 344 = some (.iconst 1, 0, 0, 0, 0) := (zq191_2 44 (by decide)).trans rfl
theorem zk_191_345 : zc 191 345 = some (.goto 4, 349, 0, 0, 0) := (zq191_2 45 (by decide)).trans rfl
theorem zk_191_348 : zc 191 348 = some (.iconst 0, 0, 0, 0, 0) := (zq191_2 48 (by decide)).trans rfl
theorem zk_191_349 : zc 191 349 = some (.invokevirtual 27, 78, 0, 4, 164) := (zq191_2 49 (by decide)).trans rfl
theorem zk_191_352 : zc 191 352 = some (.pop, 0, 0, 0, 0) := (zq191_2 52 (by decide)).trans rfl
theorem zk_191_353 : zc 191 353 = some (.aload_n 2, 0, 0, 0, 0) := (zq191_2 53 (by decide)).trans rfl
theorem zk_191_354 : zc 191 354 = some (.aload_n 0, 0, 0, 0, 0) := (zq191_2 54 (by decide)).trans rfl
theorem zk_191_355 : zc 191 355 = some (.iload_n 3, 0, 0, 0, 0) := (zq191_2 55 (by decide)).trans rfl
theorem zk_191_356 : zc 191 356 = some (.iconst 1, 0, 0, 0, 0) := (zq191_2 56 (by decide)).trans rfl
theorem zk_191_357 : zc 191 357 = some (.iadd, 0, 0, 0, 0) := (zq191_2 57 (by decide)).trans rfl
theorem zk_191_358 : zc 191 358 = some (.iaload, 0, 0, 0, 0) := (zq191_2 58 (by decide)).trans rfl
theorem zk_191_359 : zc 191 359 = some (.aload_n 0, 0, 0, 0, 0) := (zq191_2 59 (by decide)).trans rfl
theorem zk_191_360 : zc 191 360 = some (.iload_n 3, 0, 0, 0, 0) := (zq191_2 60 (by decide)).trans rfl
theorem zk_191_361 : zc 191 361 = some (.iconst 2, 0, 0, 0, 0) := (zq191_2 61 (by decide)).trans rfl
theorem zk_191_362 : zc 191 362 = some (.iadd, 0, 0, 0, 0) := (zq191_2 62 (by decide)).trans rfl
theorem zk_191_363 : zc 191 363 = some (.iaload, 0, 0, 0, 0) := (zq191_2 63 (by decide)).trans rfl
theorem zk_191_364 : zc 191 364 = some (.aload_n 0, 0, 0, 0, 0) := (zq191_2 64 (by decide)).trans rfl
theorem zk_191_365 : zc 191 365 = some (.iload_n 3, 0, 0, 0, 0) := (zq191_2 65 (by decide)).trans rfl
theorem zk_191_366 : zc 191 366 = some (.iconst 3, 0, 0, 0, 0) := (zq191_2 66 (by decide)).trans rfl
theorem zk_191_367 : zc 191 367 = some (.iadd, 0, 0, 0, 0) := (zq191_2 67 (by decide)).trans rfl
theorem zk_191_368 : zc 191 368 = some (.iaload, 0, 0, 0, 0) := (zq191_2 68 (by decide)).trans rfl
theorem zk_191_369 : zc 191 369 = some (.ifCond .eq 7, 376, 0, 0, 0) := (zq191_2 69 (by decide)).trans rfl
theorem zk_191_372 : zc 191 372 = some (.iconst 1, 0, 0, 0, 0) := (zq191_2 72 (by decide)).trans rfl
theorem zk_191_373 : zc 191 373 = some (.goto 4, 377, 0, 0, 0) := (zq191_2 73 (by decide)).trans rfl
theorem zk_191_376 : zc 191 376 = some (.iconst 0, 0, 0, 0, 0) := (zq191_2 76 (by decide)).trans rfl
theorem zk_191_377 : zc 191 377 = some (.invokevirtual 30, 131, 0, 4, 165) := (zq191_2 77 (by decide)).trans rfl
theorem zk_191_380 : zc 191 380 = some (.pop, 0, 0, 0, 0) := (zq191_2 80 (by decide)).trans rfl
theorem zk_191_381 : zc 191 381 = some (.goto 1229, 1610, 0, 0, 0) := (zq191_2 81 (by decide)).trans rfl
theorem zk_191_384 : zc 191 384 = some (.aload_n 1, 0, 0, 0, 0) := (zq191_2 84 (by decide)).trans rfl
theorem zk_191_385 : zc 191 385 = some (.aload_n 0, 0, 0, 0, 0) := (zq191_2 85 (by decide)).trans rfl
theorem zk_191_386 : zc 191 386 = some (.iload_n 3, 0, 0, 0, 0) := (zq191_2 86 (by decide)).trans rfl
theorem zk_191_387 : zc 191 387 = some (.iconst 1, 0, 0, 0, 0) := (zq191_2 87 (by decide)).trans rfl
theorem zk_191_388 : zc 191 388 = some (.iadd, 0, 0, 0, 0) := (zq191_2 88 (by decide)).trans rfl
theorem zk_191_389 : zc 191 389 = some (.iaload, 0, 0, 0, 0) := (zq191_2 89 (by decide)).trans rfl
theorem zk_191_390 : zc 191 390 = some (.aload_n 0, 0, 0, 0, 0) := (zq191_2 90 (by decide)).trans rfl
theorem zk_191_391 : zc 191 391 = some (.iload_n 3, 0, 0, 0, 0) := (zq191_2 91 (by decide)).trans rfl
theorem zk_191_392 : zc 191 392 = some (.iconst 2, 0, 0, 0, 0) := (zq191_2 92 (by decide)).trans rfl
theorem zk_191_393 : zc 191 393 = some (.iadd, 0, 0, 0, 0) := (zq191_2 93 (by decide)).trans rfl
theorem zk_191_394 : zc 191 394 = some (.iaload, 0, 0, 0, 0) := (zq191_2 94 (by decide)).trans rfl
theorem zk_191_395 : zc 191 395 = some (.aload_n 0, 0, 0, 0, 0) := (zq191_2 95 (by decide)).trans rfl
theorem zk_191_396 : zc 191 396 = some (.iload_n 3, 0, 0, 0, 0) := (zq191_2 96 (by decide)).trans rfl
theorem zk_191_397 : zc 191 397 = some (.iconst 3, 0, 0, 0, 0) := (zq191_2 97 (by decide)).trans rfl
theorem zk_191_398 : zc 191 398 = some (.iadd, 0, 0, 0, 0) := (zq191_2 98 (by decide)).trans rfl
theorem zk_191_399 : zc 191 399 = some (.iaload, 0, 0, 0, 0) := (zq191_2 99 (by decide)).trans rfl
theorem zk_191_400 : zc 191 400 = some (.invokevirtual 31, 79, 0, 4, 166) := (zq191_2 100 (by decide)).trans rfl
theorem zk_191_403 : zc 191 403 = some (.pop, 0, 0, 0, 0) := (zq191_2 103 (by decide)).trans rfl
theorem zk_191_404 : zc 191 404 = some (.aload_n 2, 0, 0, 0, 0) := (zq191_2 104 (by decide)).trans rfl
theorem zk_191_405 : zc 191 405 = some (.aload_n 0, 0, 0, 0, 0) := (zq191_2 105 (by decide)).trans rfl
theorem zk_191_406 : zc 191 406 = some (.iload_n 3, 0, 0, 0, 0) := (zq191_2 106 (by decide)).trans rfl
theorem zk_191_407 : zc 191 407 = some (.iconst 1, 0, 0, 0, 0) := (zq191_2 107 (by decide)).trans rfl
theorem zk_191_408 : zc 191 408 = some (.iadd, 0, 0, 0, 0) := (zq191_2 108 (by decide)).trans rfl
theorem zk_191_409 : zc 191 409 = some (.iaload, 0, 0, 0, 0) := (zq191_2 109 (by decide)).trans rfl
theorem zk_191_410 : zc 191 410 = some (.aload_n 0, 0, 0, 0, 0) := (zq191_2 110 (by decide)).trans rfl
theorem zk_191_411 : zc 191 411 = some (.iload_n 3, 0, 0, 0, 0) := (zq191_2 111 (by decide)).trans rfl
theorem zk_191_412 : zc 191 412 = some (.iconst 2, 0, 0, 0, 0) := (zq191_2 112 (by decide)).trans rfl
theorem zk_191_413 : zc 191 413 = some (.iadd, 0, 0, 0, 0) := (zq191_2 113 (by decide)).trans rfl
theorem zk_191_414 : zc 191 414 = some (.iaload, 0, 0, 0, 0) := (zq191_2 114 (by decide)).trans rfl
theorem zk_191_415 : zc 191 415 = some (.aload_n 0, 0, 0, 0, 0) := (zq191_2 115 (by decide)).trans rfl
theorem zk_191_416 : zc 191 416 = some (.iload_n 3, 0, 0, 0, 0) := (zq191_2 116 (by decide)).trans rfl
theorem zk_191_417 : zc 191 417 = some (.iconst 3, 0, 0, 0, 0) := (zq191_2 117 (by decide)).trans rfl
theorem zk_191_418 : zc 191 418 = some (.iadd, 0, 0, 0, 0) := (zq191_2 118 (by decide)).trans rfl
theorem zk_191_419 : zc 191 419 = some (.iaload, 0, 0, 0, 0) := (zq191_2 119 (by decide)).trans rfl
theorem zk_191_420 : zc 191 420 = some (.invokevirtual 35, 132, 0, 4, 167) := (zq191_2 120 (by decide)).trans rfl
theorem zk_191_423 : zc 191 423 = some (.pop, 0, 0, 0, 0) := (zq191_2 123 (by decide)).trans rfl
theorem zk_191_424 : zc 191 424 = some (.goto 1186, 1610, 0, 0, 0) := (zq191_2 124 (by decide)).trans rfl
theorem zk_191_427 : zc 191 427 = some (.aload_n 1, 0, 0, 0, 0) := (zq191_2 127 (by decide)).trans rfl
theorem zk_191_428 : zc 191 428 = some (.aload_n 0, 0, 0, 0, 0) := (zq191_2 128 (by decide)).trans rfl
theorem zk_191_429 : zc 191 429 = some (.iload_n 3, 0, 0, 0, 0) := (zq191_2 129 (by decide)).trans rfl
theorem zk_191_430 : zc 191 430 = some (.iconst 1, 0, 0, 0, 0) := (zq191_2 130 (by decide)).trans rfl
theorem zk_191_431 : zc 191 431 = some (.iadd, 0, 0, 0, 0) := (zq191_2 131 (by decide)).trans rfl
theorem zk_191_432 : zc 191 432 = some (.iaload, 0, 0, 0, 0) := (zq191_2 132 (by decide)).trans rfl
theorem zk_191_433 : zc 191 433 = some (.invokevirtual 36, 81, 0, 2, 168) := (zq191_2 133 (by decide)).trans rfl
theorem zk_191_436 : zc 191 436 = some (.pop, 0, 0, 0, 0) := (zq191_2 136 (by decide)).trans rfl
theorem zk_191_437 : zc 191 437 = some (.aload_n 2, 0, 0, 0, 0) := (zq191_2 137 (by decide)).trans rfl
theorem zk_191_438 : zc 191 438 = some (.aload_n 0, 0, 0, 0, 0) := (zq191_2 138 (by decide)).trans rfl
theorem zk_191_439 : zc 191 439 = some (.iload_n 3, 0, 0, 0, 0) := (zq191_2 139 (by decide)).trans rfl
theorem zk_191_440 : zc 191 440 = some (.iconst 1, 0, 0, 0, 0) := (zq191_2 140 (by decide)).trans rfl
theorem zk_191_441 : zc 191 441 = some (.iadd, 0, 0, 0, 0) := (zq191_2 141 (by decide)).trans rfl
theorem zk_191_442 : zc 191 442 = some (.iaload, 0, 0, 0, 0) := (zq191_2 142 (by decide)).trans rfl
theorem zk_191_443 : zc 191 443 = some (.invokevirtual 40, 133, 0, 2, 169) := (zq191_2 143 (by decide)).trans rfl
theorem zk_191_446 : zc 191 446 = some (.pop, 0, 0, 0, 0) := (zq191_2 146 (by decide)).trans rfl
theorem zk_191_447 : zc 191 447 = some (.goto 1163, 1610, 0, 0, 0) := (zq191_2 147 (by decide)).trans rfl
theorem zk_191_450 : zc 191 450 = some (.aload_n 1, 0, 0, 0, 0) := (zq191_3 0 (by decide)).trans rfl
theorem zk_191_451 : zc 191 451 = some (.aload_n 0, 0, 0, 0, 0) := (zq191_3 1 (by decide)).trans rfl
theorem zk_191_452 : zc 191 452 = some (.iload_n 3, 0, 0, 0, 0) := (zq191_3 2 (by decide)).trans rfl
theorem zk_191_453 : zc 191 453 = some (.iconst 1, 0, 0, 0, 0) := (zq191_3 3 (by decide)).trans rfl
theorem zk_191_454 : zc 191 454 = some (.iadd, 0, 0, 0, 0) := (zq191_3 4 (by decide)).trans rfl
theorem zk_191_455 : zc 191 455 = some (.iaload, 0, 0, 0, 0) := (zq191_3 5 (by decide)).trans rfl
theorem zk_191_456 : zc 191 456 = some (.aload_n 0, 0, 0, 0, 0) := (zq191_3 6 (by decide)).trans rfl
theorem zk_191_457 : zc 191 457 = some (.iload_n 3, 0, 0, 0, 0) := (zq191_3 7 (by decide)).trans rfl
theorem zk_191_458 : zc 191 458 = some (.iconst 2, 0, 0, 0, 0) := (zq191_3 8 (by decide)).trans rfl
theorem zk_191_459 : zc 191 459 = some (.iadd, 0, 0, 0, 0) := (zq191_3 9 (by decide)).trans rfl
theorem zk_191_460 : zc 191 460 = some (.iaload, 0, 0, 0, 0) := (zq191_3 10 (by decide)).trans rfl
theorem zk_191_461 : zc 191 461 = some (.ifCond .eq 7, 468, 0, 0, 0) := (zq191_3 11 (by decide)).trans rfl
theorem zk_191_464 : zc 191 464 = some (.iconst 1, 0, 0, 0, 0) := (zq191_3 14 (by decide)).trans rfl
theorem zk_191_465 : zc 191 465 = some (.goto 4, 469, 0, 0, 0) := (zq191_3 15 (by decide)).trans rfl
theorem zk_191_468 : zc 191 468 = some (.iconst 0, 0, 0, 0, 0) := (zq191_3 18 (by decide)).trans rfl
theorem zk_191_469 : zc 191 469 = some (.invokevirtual 41, 82, 0, 3, 170) := (zq191_3 19 (by decide)).trans rfl
theorem zk_191_472 : zc 191 472 = some (.pop, 0, 0, 0, 0) := (zq191_3 22 (by decide)).trans rfl
theorem zk_191_473 : zc 191 473 = some (.aload_n 2, 0, 0, 0, 0) := (zq191_3 23 (by decide)).trans rfl
theorem zk_191_474 : zc 191 474 = some (.aload_n 0, 0, 0, 0, 0) := (zq191_3 24 (by decide)).trans rfl
theorem zk_191_475 : zc 191 475 = some (.iload_n 3, 0, 0, 0, 0) := (zq191_3 25 (by decide)).trans rfl
theorem zk_191_476 : zc 191 476 = some (.iconst 1, 0, 0, 0, 0) := (zq191_3 26 (by decide)).trans rfl
theorem zk_191_477 : zc 191 477 = some (.iadd, 0, 0, 0, 0) := (zq191_3 27 (by decide)).trans rfl
theorem zk_191_478 : zc 191 478 = some (.iaload, 0, 0, 0, 0) := (zq191_3 28 (by decide)).trans rfl
theorem zk_191_479 : zc 191 479 = some (.aload_n 0, 0, 0, 0, 0) := (zq191_3 29 (by decide)).trans rfl
theorem zk_191_480 : zc 191 480 = some (.iload_n 3, 0, 0, 0, 0) := (zq191_3 30 (by decide)).trans rfl
theorem zk_191_481 : zc 191 481 = some (.iconst 2, 0, 0, 0, 0) := (zq191_3 31 (by decide)).trans rfl
theorem zk_191_482 : zc 191 482 = some (.iadd, 0, 0, 0, 0) := (zq191_3 32 (by decide)).trans rfl
theorem zk_191_483 : zc 191 483 = some (.iaload, 0, 0, 0, 0) := (zq191_3 33 (by decide)).trans rfl
theorem zk_191_484 : zc 191 484 = some (.ifCond .eq 7, 491, 0, 0, 0) := (zq191_3 34 (by decide)).trans rfl
theorem zk_191_487 : zc 191 487 = some (.iconst 1, 0, 0, 0, 0) := (zq191_3 37 (by decide)).trans rfl
theorem zk_191_488 : zc 191 488 = some (.goto 4, 492, 0, 0, 0) := (zq191_3 38 (by decide)).trans rfl
theorem zk_191_491 : zc 191 491 = some (.iconst 0, 0, 0, 0, 0) := (zq191_3 41 (by decide)).trans rfl
theorem zk_191_492 : zc 191 492 = some (.invokevirtual 45, 134, 0, 3, 171) := (zq191_3 42 (by decide)).trans rfl
theorem zk_191_495 : zc 191 495 = some (.pop, 0, 0, 0, 0) := (zq191_3 45 (by decide)).trans rfl
theorem zk_191_496 : zc 191 496 = some (.goto 1114, 1610, 0, 0, 0) := (zq191_3 46 (by decide)).trans rfl
theorem zk_191_499 : zc 191 499 = some (.aload_n 1, 0, 0, 0, 0) := (zq191_3 49 (by decide)).trans rfl
theorem zk_191_500 : zc 191 500 = some (.aload_n 0, 0, 0, 0, 0) := (zq191_3 50 (by decide)).trans rfl
theorem zk_191_501 : zc 191 501 = some (.iload_n 3, 0, 0, 0, 0) := (zq191_3 51 (by decide)).trans rfl
theorem zk_191_502 : zc 191 502 = some (.iconst 1, 0, 0, 0, 0) := (zq191_3 52 (by decide)).trans rfl
theorem zk_191_503 : zc 191 503 = some (.iadd, 0, 0, 0, 0) := (zq191_3 53 (by decide)).trans rfl
theorem zk_191_504 : zc 191 504 = some (.iaload, 0, 0, 0, 0) := (zq191_3 54 (by decide)).trans rfl
theorem zk_191_505 : zc 191 505 = some (.aload_n 0, 0, 0, 0, 0) := (zq191_3 55 (by decide)).trans rfl
theorem zk_191_506 : zc 191 506 = some (.iload_n 3, 0, 0, 0, 0) := (zq191_3 56 (by decide)).trans rfl
theorem zk_191_507 : zc 191 507 = some (.iconst 2, 0, 0, 0, 0) := (zq191_3 57 (by decide)).trans rfl
theorem zk_191_508 : zc 191 508 = some (.iadd, 0, 0, 0, 0) := (zq191_3 58 (by decide)).trans rfl
theorem zk_191_509 : zc 191 509 = some (.iaload, 0, 0, 0, 0) := (zq191_3 59 (by decide)).trans rfl
theorem zk_191_510 : zc 191 510 = some (.aload_n 0, 0, 0, 0, 0) := (zq191_3 60 (by decide)).trans rfl
theorem zk_191_511 : zc 191 511 = some (.iload_n 3, 0, 0, 0, 0) := (zq191_3 61 (by decide)).trans rfl
theorem zk_191_512 : zc 191 512 = some (.iconst 3, 0, 0, 0, 0) := (zq191_3 62 (by decide)).trans rfl
theorem zk_191_513 : zc 191 513 = some (.iadd, 0, 0, 0, 0) := (zq191_3 63 (by decide)).trans rfl
theorem zk_191_514 : zc 191 514 = some (.iaload, 0, 0, 0, 0) := (zq191_3 64 (by decide)).trans rfl
theorem zk_191_515 : zc 191 515 = some (.invokevirtual 46, 83, 0, 4, 172) := (zq191_3 65 (by decide)).trans rfl
theorem zk_191_518 : zc 191 518 = some (.pop, 0, 0, 0, 0) := (zq191_3 68 (by decide)).trans rfl
theorem zk_191_519 : zc 191 519 = some (.aload_n 2, 0, 0, 0, 0) := (zq191_3 69 (by decide)).trans rfl
theorem zk_191_520 : zc 191 520 = some (.aload_n 0, 0, 0, 0, 0) := (zq191_3 70 (by decide)).trans rfl
theorem zk_191_521 : zc 191 521 = some (.iload_n 3, 0, 0, 0, 0) := (zq191_3 71 (by decide)).trans rfl
theorem zk_191_522 : zc 191 522 = some (.iconst 1, 0, 0, 0, 0) := (zq191_3 72 (by decide)).trans rfl
theorem zk_191_523 : zc 191 523 = some (.iadd, 0, 0, 0, 0) := (zq191_3 73 (by decide)).trans rfl
theorem zk_191_524 : zc 191 524 = some (.iaload, 0, 0, 0, 0) := (zq191_3 74 (by decide)).trans rfl
theorem zk_191_525 : zc 191 525 = some (.aload_n 0, 0, 0, 0, 0) := (zq191_3 75 (by decide)).trans rfl
theorem zk_191_526 : zc 191 526 = some (.iload_n 3, 0, 0, 0, 0) := (zq191_3 76 (by decide)).trans rfl
theorem zk_191_527 : zc 191 527 = some (.iconst 2, 0, 0, 0, 0) := (zq191_3 77 (by decide)).trans rfl
theorem zk_191_528 : zc 191 528 = some (.iadd, 0, 0, 0, 0) := (zq191_3 78 (by decide)).trans rfl
theorem zk_191_529 : zc 191 529 = some (.iaload, 0, 0, 0, 0) := (zq191_3 79 (by decide)).trans rfl
theorem zk_191_530 : zc 191 530 = some (.aload_n 0, 0, 0, 0, 0) := (zq191_3 80 (by decide)).trans rfl
theorem zk_191_531 : zc 191 531 = some (.iload_n 3, 0, 0, 0, 0) := (zq191_3 81 (by decide)).trans rfl
theorem zk_191_532 : zc 191 532 = some (.iconst 3, 0, 0, 0, 0) := (zq191_3 82 (by decide)).trans rfl
theorem zk_191_533 : zc 191 533 = some (.iadd, 0, 0, 0, 0) := (zq191_3 83 (by decide)).trans rfl
theorem zk_191_534 : zc 191 534 = some (.iaload, 0, 0, 0, 0) := (zq191_3 84 (by decide)).trans rfl
theorem zk_191_535 : zc 191 535 = some (.invokevirtual 49, 135, 0, 4, 173) := (zq191_3 85 (by decide)).trans rfl
theorem zk_191_538 : zc 191 538 = some (.pop, 0, 0, 0, 0) := (zq191_3 88 (by decide)).trans rfl
theorem zk_191_539 : zc 191 539 = some (.goto 1071, 1610, 0, 0, 0) := (zq191_3 89 (by decide)).trans rfl
theorem zk_191_542 : zc 191 542 = some (.aload_n 1, 0, 0, 0, 0) := (zq191_3 92 (by decide)).trans rfl
theorem zk_191_543 : zc 191 543 = some (.aload_n 0, 0, 0, 0, 0) := (zq191_3 93 (by decide)).trans rfl
theorem zk_191_544 : zc 191 544 = some (.iload_n 3, 0, 0, 0, 0) := (zq191_3 94 (by decide)).trans rfl
theorem zk_191_545 : zc 191 545 = some (.iconst 1, 0, 0, 0, 0) := (zq191_3 95 (by decide)).trans rfl
theorem zk_191_546 : zc 191 546 = some (.iadd, 0, 0, 0, 0) := (zq191_3 96 (by decide)).trans rfl
theorem zk_191_547 : zc 191 547 = some (.iaload, 0, 0, 0, 0) := (zq191_3 97 (by decide)).trans rfl
theorem zk_191_548 : zc 191 548 = some (.aload_n 0, 0, 0, 0, 0) := (zq191_3 98 (by decide)).trans rfl
theorem zk_191_549 : zc 191 549 = some (.iload_n 3, 0, 0, 0, 0) := (zq191_3 99 (by decide)).trans rfl
theorem zk_191_550 : zc 191 550 = some (.iconst 2, 0, 0, 0, 0) := (zq191_3 100 (by decide)).trans rfl
theorem zk_191_551 : zc 191 551 = some (.iadd, 0, 0, 0, 0) := (zq191_3 101 (by decide)).trans rfl
theorem zk_191_552 : zc 191 552 = some (.iaload, 0, 0, 0, 0) := (zq191_3 102 (by decide)).trans rfl
theorem zk_191_553 : zc 191 553 = some (.aload_n 0, 0, 0, 0, 0) := (zq191_3 103 (by decide)).trans rfl
theorem zk_191_554 : zc 191 554 = some (.iload_n 3, 0, 0, 0, 0) := (zq191_3 104 (by decide)).trans rfl
theorem zk_191_555 : zc 191 555 = some (.iconst 3, 0, 0, 0, 0) := (zq191_3 105 (by decide)).trans rfl
theorem zk_191_556 : zc 191 556 = some (.iadd, 0, 0, 0, 0) := (zq191_3 106 (by decide)).trans rfl
theorem zk_191_557 : zc 191 557 = some (.iaload, 0, 0, 0, 0) := (zq191_3 107 (by decide)).trans rfl
theorem zk_191_558 : zc 191 558 = some (.i2l, 0, 0, 0, 0) := (zq191_3 108 (by decide)).trans rfl
theorem zk_191_559 : zc 191 559 = some (.bipush 32, 0, 0, 0, 0) := (zq191_3 109 (by decide)).trans rfl
theorem zk_191_561 : zc 191 561 = some (.lshl, 0, 0, 0, 0) := (zq191_3 111 (by decide)).trans rfl
theorem zk_191_562 : zc 191 562 = some (.aload_n 0, 0, 0, 0, 0) := (zq191_3 112 (by decide)).trans rfl
theorem zk_191_563 : zc 191 563 = some (.iload_n 3, 0, 0, 0, 0) := (zq191_3 113 (by decide)).trans rfl
theorem zk_191_564 : zc 191 564 = some (.iconst 4, 0, 0, 0, 0) := (zq191_3 114 (by decide)).trans rfl
theorem zk_191_565 : zc 191 565 = some (.iadd, 0, 0, 0, 0) := (zq191_3 115 (by decide)).trans rfl
theorem zk_191_566 : zc 191 566 = some (.iaload, 0, 0, 0, 0) := (zq191_3 116 (by decide)).trans rfl
theorem zk_191_567 : zc 191 567 = some (.i2l, 0, 0, 0, 0) := (zq191_3 117 (by decide)).trans rfl
theorem zk_191_568 : zc 191 568 = some (.ldc2_w 50, 0, 0, 4294967295, 9) := (zq191_3 118 (by decide)).trans rfl
theorem zk_191_571 : zc 191 571 = some (.land, 0, 0, 0, 0) := (zq191_3 121 (by decide)).trans rfl
theorem zk_191_572 : zc 191 572 = some (.lor, 0, 0, 0, 0) := (zq191_3 122 (by decide)).trans rfl
theorem zk_191_573 : zc 191 573 = some (.invokevirtual 52, 84, 0, 4, 174) := (zq191_3 123 (by decide)).trans rfl
theorem zk_191_576 : zc 191 576 = some (.pop, 0, 0, 0, 0) := (zq191_3 126 (by decide)).trans rfl
theorem zk_191_577 : zc 191 577 = some (.aload_n 2, 0, 0, 0, 0) := (zq191_3 127 (by decide)).trans rfl
theorem zk_191_578 : zc 191 578 = some (.aload_n 0, 0, 0, 0, 0) := (zq191_3 128 (by decide)).trans rfl
theorem zk_191_579 : zc 191 579 = some (.iload_n 3, 0, 0, 0, 0) := (zq191_3 129 (by decide)).trans rfl
theorem zk_191_580 : zc 191 580 = some (.iconst 1, 0, 0, 0, 0) := (zq191_3 130 (by decide)).trans rfl
theorem zk_191_581 : zc 191 581 = some (.iadd, 0, 0, 0, 0) := (zq191_3 131 (by decide)).trans rfl
theorem zk_191_582 : zc 191 582 = some (.iaload, 0, 0, 0, 0) := (zq191_3 132 (by decide)).trans rfl
theorem zk_191_583 : zc 191 583 = some (.aload_n 0, 0, 0, 0, 0) := (zq191_3 133 (by decide)).trans rfl
theorem zk_191_584 : zc 191 584 = some (.iload_n 3, 0, 0, 0, 0) := (zq191_3 134 (by decide)).trans rfl
theorem zk_191_585 : zc 191 585 = some (.iconst 2, 0, 0, 0, 0) := (zq191_3 135 (by decide)).trans rfl
theorem zk_191_586 : zc 191 586 = some (.iadd, 0, 0, 0, 0) := (zq191_3 136 (by decide)).trans rfl
theorem zk_191_587 : zc 191 587 = some (.iaload, 0, 0, 0, 0) := (zq191_3 137 (by decide)).trans rfl
theorem zk_191_588 : zc 191 588 = some (.aload_n 0, 0, 0, 0, 0) := (zq191_3 138 (by decide)).trans rfl
theorem zk_191_589 : zc 191 589 = some (.iload_n 3, 0, 0, 0, 0) := (zq191_3 139 (by decide)).trans rfl
theorem zk_191_590 : zc 191 590 = some (.iconst 3, 0, 0, 0, 0) := (zq191_3 140 (by decide)).trans rfl
theorem zk_191_591 : zc 191 591 = some (.iadd, 0, 0, 0, 0) := (zq191_3 141 (by decide)).trans rfl
theorem zk_191_592 : zc 191 592 = some (.iaload, 0, 0, 0, 0) := (zq191_3 142 (by decide)).trans rfl
theorem zk_191_593 : zc 191 593 = some (.i2l, 0, 0, 0, 0) := (zq191_3 143 (by decide)).trans rfl
theorem zk_191_594 : zc 191 594 = some (.bipush 32, 0, 0, 0, 0) := (zq191_3 144 (by decide)).trans rfl
theorem zk_191_596 : zc 191 596 = some (.lshl, 0, 0, 0, 0) := (zq191_3 146 (by decide)).trans rfl
theorem zk_191_597 : zc 191 597 = some (.aload_n 0, 0, 0, 0, 0) := (zq191_3 147 (by decide)).trans rfl
theorem zk_191_598 : zc 191 598 = some (.iload_n 3, 0, 0, 0, 0) := (zq191_3 148 (by decide)).trans rfl
theorem zk_191_599 : zc 191 599 = some (.iconst 4, 0, 0, 0, 0) := (zq191_3 149 (by decide)).trans rfl
theorem zk_191_600 : zc 191 600 = some (.iadd, 0, 0, 0, 0) := (zq191_4 0 (by decide)).trans rfl
theorem zk_191_601 : zc 191 601 = some (.iaload, 0, 0, 0, 0) := (zq191_4 1 (by decide)).trans rfl
theorem zk_191_602 : zc 191 602 = some (.i2l, 0, 0, 0, 0) := (zq191_4 2 (by decide)).trans rfl
theorem zk_191_603 : zc 191 603 = some (.ldc2_w 50, 0, 0, 4294967295, 9) := (zq191_4 3 (by decide)).trans rfl
theorem zk_191_606 : zc 191 606 = some (.land, 0, 0, 0, 0) := (zq191_4 6 (by decide)).trans rfl
theorem zk_191_607 : zc 191 607 = some (.lor, 0, 0, 0, 0) := (zq191_4 7 (by decide)).trans rfl
theorem zk_191_608 : zc 191 608 = some (.invokevirtual 56, 136, 0, 4, 175) := (zq191_4 8 (by decide)).trans rfl
theorem zk_191_611 : zc 191 611 = some (.pop, 0, 0, 0, 0) := (zq191_4 11 (by decide)).trans rfl
theorem zk_191_612 : zc 191 612 = some (.goto 998, 1610, 0, 0, 0) := (zq191_4 12 (by decide)).trans rfl
theorem zk_191_615 : zc 191 615 = some (.aload_n 1, 0, 0, 0, 0) := (zq191_4 15 (by decide)).trans rfl
theorem zk_191_616 : zc 191 616 = some (.aload_n 0, 0, 0, 0, 0) := (zq191_4 16 (by decide)).trans rfl
theorem zk_191_617 : zc 191 617 = some (.iload_n 3, 0, 0, 0, 0) := (zq191_4 17 (by decide)).trans rfl
theorem zk_191_618 : zc 191 618 = some (.iconst 1, 0, 0, 0, 0) := (zq191_4 18 (by decide)).trans rfl
theorem zk_191_619 : zc 191 619 = some (.iadd, 0, 0, 0, 0) := (zq191_4 19 (by decide)).trans rfl
theorem zk_191_620 : zc 191 620 = some (.iaload, 0, 0, 0, 0) := (zq191_4 20 (by decide)).trans rfl
theorem zk_191_621 : zc 191 621 = some (.aload_n 0, 0, 0, 0, 0) := (zq191_4 21 (by decide)).trans rfl
theorem zk_191_622 : zc 191 622 = some (.iload_n 3, 0, 0, 0, 0) := (zq191_4 22 (by decide)).trans rfl
theorem zk_191_623 : zc 191 623 = some (.iconst 2, 0, 0, 0, 0) := (zq191_4 23 (by decide)).trans rfl
theorem zk_191_624 : zc 191 624 = some (.iadd, 0, 0, 0, 0) := (zq191_4 24 (by decide)).trans rfl
theorem zk_191_625 : zc 191 625 = some (.iaload, 0, 0, 0, 0) := (zq191_4 25 (by decide)).trans rfl
theorem zk_191_626 : zc 191 626 = some (.aload_n 0, 0, 0, 0, 0) := (zq191_4 26 (by decide)).trans rfl
theorem zk_191_627 : zc 191 627 = some (.iload_n 3, 0, 0, 0, 0) := (zq191_4 27 (by decide)).trans rfl
theorem zk_191_628 : zc 191 628 = some (.iconst 3, 0, 0, 0, 0) := (zq191_4 28 (by decide)).trans rfl
theorem zk_191_629 : zc 191 629 = some (.iadd, 0, 0, 0, 0) := (zq191_4 29 (by decide)).trans rfl
theorem zk_191_630 : zc 191 630 = some (.iaload, 0, 0, 0, 0) := (zq191_4 30 (by decide)).trans rfl
theorem zk_191_631 : zc 191 631 = some (.aload_n 0, 0, 0, 0, 0) := (zq191_4 31 (by decide)).trans rfl
theorem zk_191_632 : zc 191 632 = some (.iload_n 3, 0, 0, 0, 0) := (zq191_4 32 (by decide)).trans rfl
theorem zk_191_633 : zc 191 633 = some (.iconst 4, 0, 0, 0, 0) := (zq191_4 33 (by decide)).trans rfl
theorem zk_191_634 : zc 191 634 = some (.iadd, 0, 0, 0, 0) := (zq191_4 34 (by decide)).trans rfl
theorem zk_191_635 : zc 191 635 = some (.iaload, 0, 0, 0, 0) := (zq191_4 35 (by decide)).trans rfl
theorem zk_191_636 : zc 191 636 = some (.aload_n 0, 0, 0, 0, 0) := (zq191_4 36 (by decide)).trans rfl
theorem zk_191_637 : zc 191 637 = some (.iload_n 3, 0, 0, 0, 0) := (zq191_4 37 (by decide)).trans rfl
theorem zk_191_638 : zc 191 638 = some (.iconst 5, 0, 0, 0, 0) := (zq191_4 38 (by decide)).trans rfl
theorem zk_191_639 : zc 191 639 = some (.iadd, 0, 0, 0, 0) := (zq191_4 39 (by decide)).trans rfl
theorem zk_191_640 : zc 191 640 = some (.iaload, 0, 0, 0, 0) := (zq191_4 40 (by decide)).trans rfl
theorem zk_191_641 : zc 191 641 = some (.invokevirtual 57, 85, 0, 6, 176) := (zq191_4 41 (by decide)).trans rfl
theorem zk_191_644 : zc 191 644 = some (.pop, 0, 0, 0, 0) := (zq191_4 44 (by decide)).trans rfl
theorem zk_191_645 : zc 191 645 = some (.aload_n 2, 0, 0, 0, 0) := (zq191_4 45 (by decide)).trans rfl
theorem zk_191_646 : zc 191 646 = some (.aload_n 0, 0, 0, 0, 0) := (zq191_4 46 (by decide)).trans rfl
theorem zk_191_647 : zc 191 647 = some (.iload_n 3, 0, 0, 0, 0) := (zq191_4 47 (by decide)).trans rfl
theorem zk_191_648 : zc 191 648 = some (.iconst 1, 0, 0, 0, 0) := (zq191_4 48 (by decide)).trans rfl
theorem zk_191_649 : zc 191 649 = some (.iadd, 0, 0, 0, 0) := (zq191_4 49 (by decide)).trans rfl
theorem zk_191_650 : zc 191 650 = some (.iaload, 0, 0, 0, 0) := (zq191_4 50 (by decide)).trans rfl
theorem zk_191_651 : zc 191 651 = some (.aload_n 0, 0, 0, 0, 0) := (zq191_4 51 (by decide)).trans rfl
theorem zk_191_652 : zc 191 652 = some (.iload_n 3, 0, 0, 0, 0) := (zq191_4 52 (by decide)).trans rfl
theorem zk_191_653 : zc 191 653 = some (.iconst 2, 0, 0, 0, 0) := (zq191_4 53 (by decide)).trans rfl
theorem zk_191_654 : zc 191 654 = some (.iadd, 0, 0, 0, 0) := (zq191_4 54 (by decide)).trans rfl
theorem zk_191_655 : zc 191 655 = some (.iaload, 0, 0, 0, 0) := (zq191_4 55 (by decide)).trans rfl
theorem zk_191_656 : zc 191 656 = some (.aload_n 0, 0, 0, 0, 0) := (zq191_4 56 (by decide)).trans rfl
theorem zk_191_657 : zc 191 657 = some (.iload_n 3, 0, 0, 0, 0) := (zq191_4 57 (by decide)).trans rfl
theorem zk_191_658 : zc 191 658 = some (.iconst 3, 0, 0, 0, 0) := (zq191_4 58 (by decide)).trans rfl
theorem zk_191_659 : zc 191 659 = some (.iadd, 0, 0, 0, 0) := (zq191_4 59 (by decide)).trans rfl
theorem zk_191_660 : zc 191 660 = some (.iaload, 0, 0, 0, 0) := (zq191_4 60 (by decide)).trans rfl
theorem zk_191_661 : zc 191 661 = some (.aload_n 0, 0, 0, 0, 0) := (zq191_4 61 (by decide)).trans rfl
theorem zk_191_662 : zc 191 662 = some (.iload_n 3, 0, 0, 0, 0) := (zq191_4 62 (by decide)).trans rfl
theorem zk_191_663 : zc 191 663 = some (.iconst 4, 0, 0, 0, 0) := (zq191_4 63 (by decide)).trans rfl
theorem zk_191_664 : zc 191 664 = some (.iadd, 0, 0, 0, 0) := (zq191_4 64 (by decide)).trans rfl
theorem zk_191_665 : zc 191 665 = some (.iaload, 0, 0, 0, 0) := (zq191_4 65 (by decide)).trans rfl
theorem zk_191_666 : zc 191 666 = some (.aload_n 0, 0, 0, 0, 0) := (zq191_4 66 (by decide)).trans rfl
theorem zk_191_667 : zc 191 667 = some (.iload_n 3, 0, 0, 0, 0) := (zq191_4 67 (by decide)).trans rfl
theorem zk_191_668 : zc 191 668 = some (.iconst 5, 0, 0, 0, 0) := (zq191_4 68 (by decide)).trans rfl
theorem zk_191_669 : zc 191 669 = some (.iadd, 0, 0, 0, 0) := (zq191_4 69 (by decide)).trans rfl
theorem zk_191_670 : zc 191 670 = some (.iaload, 0, 0, 0, 0) := (zq191_4 70 (by decide)).trans rfl
theorem zk_191_671 : zc 191 671 = some (.invokevirtual 61, 137, 0, 6, 177) := (zq191_4 71 (by decide)).trans rfl
theorem zk_191_674 : zc 191 674 = some (.pop, 0, 0, 0, 0) := (zq191_4 74 (by decide)).trans rfl
theorem zk_191_675 : zc 191 675 = some (.goto 935, 1610, 0, 0, 0) := (zq191_4 75 (by decide)).trans rfl
theorem zk_191_678 : zc 191 678 = some (.aload_n 1, 0, 0, 0, 0) := (zq191_4 78 (by decide)).trans rfl
theorem zk_191_679 : zc 191 679 = some (.aload_n 0, 0, 0, 0, 0) := (zq191_4 79 (by decide)).trans rfl
theorem zk_191_680 : zc 191 680 = some (.iload_n 3, 0, 0, 0, 0) := (zq191_4 80 (by decide)).trans rfl
theorem zk_191_681 : zc 191 681 = some (.iconst 1, 0, 0, 0, 0) := (zq191_4 81 (by decide)).trans rfl
theorem zk_191_682 : zc 191 682 = some (.iadd, 0, 0, 0, 0) := (zq191_4 82 (by decide)).trans rfl
theorem zk_191_683 : zc 191 683 = some (.iaload, 0, 0, 0, 0) := (zq191_4 83 (by decide)).trans rfl
theorem zk_191_684 : zc 191 684 = some (.aload_n 0, 0, 0, 0, 0) := (zq191_4 84 (by decide)).trans rfl
theorem zk_191_685 : zc 191 685 = some (.iload_n 3, 0, 0, 0, 0) := (zq191_4 85 (by decide)).trans rfl
theorem zk_191_686 : zc 191 686 = some (.iconst 2, 0, 0, 0, 0) := (zq191_4 86 (by decide)).trans rfl
theorem zk_191_687 : zc 191 687 = some (.iadd, 0, 0, 0, 0) := (zq191_4 87 (by decide)).trans rfl
theorem zk_191_688 : zc 191 688 = some (.iaload, 0, 0, 0, 0) := (zq191_4 88 (by decide)).trans rfl
theorem zk_191_689 : zc 191 689 = some (.invokevirtual 62, 86, 0, 3, 178) := (zq191_4 89 (by decide)).trans rfl
theorem zk_191_692 : zc 191 692 = some (.pop2, 0, 0, 0, 0) := (zq191_4 92 (by decide)).trans rfl
theorem zk_191_693 : zc 191 693 = some (.aload_n 2, 0, 0, 0, 0) := (zq191_4 93 (by decide)).trans rfl
theorem zk_191_694 : zc 191 694 = some (.aload_n 0, 0, 0, 0, 0) := (zq191_4 94 (by decide)).trans rfl
theorem zk_191_695 : zc 191 695 = some (.iload_n 3, 0, 0, 0, 0) := (zq191_4 95 (by decide)).trans rfl
theorem zk_191_696 : zc 191 696 = some (.iconst 1, 0, 0, 0, 0) := (zq191_4 96 (by decide)).trans rfl
theorem zk_191_697 : zc 191 697 = some (.iadd, 0, 0, 0, 0) := (zq191_4 97 (by decide)).trans rfl
theorem zk_191_698 : zc 191 698 = some (.iaload, 0, 0, 0, 0) := (zq191_4 98 (by decide)).trans rfl
theorem zk_191_699 : zc 191 699 = some (.aload_n 0, 0, 0, 0, 0) := (zq191_4 99 (by decide)).trans rfl
theorem zk_191_700 : zc 191 700 = some (.iload_n 3, 0, 0, 0, 0) := (zq191_4 100 (by decide)).trans rfl
theorem zk_191_701 : zc 191 701 = some (.iconst 2, 0, 0, 0, 0) := (zq191_4 101 (by decide)).trans rfl
theorem zk_191_702 : zc 191 702 = some (.iadd, 0, 0, 0, 0) := (zq191_4 102 (by decide)).trans rfl
theorem zk_191_703 : zc 191 703 = some (.iaload, 0, 0, 0, 0) := (zq191_4 103 (by decide)).trans rfl
theorem zk_191_704 : zc 191 704 = some (.invokevirtual 66, 138, 0, 3, 179) := (zq191_4 104 (by decide)).trans rfl
theorem zk_191_707 : zc 191 707 = some (.pop2, 0, 0, 0, 0) := (zq191_4 107 (by decide)).trans rfl
theorem zk_191_708 : zc 191 708 = some (.goto 902, 1610, 0, 0, 0) := (zq191_4 108 (by decide)).trans rfl
theorem zk_191_711 : zc 191 711 = some (.aload_n 1, 0, 0, 0, 0) := (zq191_4 111 (by decide)).trans rfl
theorem zk_191_712 : zc 191 712 = some (.aload_n 0, 0, 0, 0, 0) := (zq191_4 112 (by decide)).trans rfl
theorem zk_191_713 : zc 191 713 = some (.iload_n 3, 0, 0, 0, 0) := (zq191_4 113 (by decide)).trans rfl
theorem zk_191_714 : zc 191 714 = some (.iconst 1, 0, 0, 0, 0) := (zq191_4 114 (by decide)).trans rfl
theorem zk_191_715 : zc 191 715 = some (.iadd, 0, 0, 0, 0) := (zq191_4 115 (by decide)).trans rfl
theorem zk_191_716 : zc 191 716 = some (.iaload, 0, 0, 0, 0) := (zq191_4 116 (by decide)).trans rfl
theorem zk_191_717 : zc 191 717 = some (.aload_n 0, 0, 0, 0, 0) := (zq191_4 117 (by decide)).trans rfl
theorem zk_191_718 : zc 191 718 = some (.iload_n 3, 0, 0, 0, 0) := (zq191_4 118 (by decide)).trans rfl
theorem zk_191_719 : zc 191 719 = some (.iconst 2, 0, 0, 0, 0) := (zq191_4 119 (by decide)).trans rfl
theorem zk_191_720 : zc 191 720 = some (.iadd, 0, 0, 0, 0) := (zq191_4 120 (by decide)).trans rfl
theorem zk_191_721 : zc 191 721 = some (.iaload, 0, 0, 0, 0) := (zq191_4 121 (by decide)).trans rfl
theorem zk_191_722 : zc 191 722 = some (.invokevirtual 67, 87, 0, 3, 180) := (zq191_4 122 (by decide)).trans rfl
theorem zk_191_725 : zc 191 725 = some (.pop, 0, 0, 0, 0) := (zq191_4 125 (by decide)).trans rfl
theorem zk_191_726 : zc 191 726 = some (.aload_n 2, 0, 0, 0, 0) := (zq191_4 126 (by decide)).trans rfl
theorem zk_191_727 : zc 191 727 = some (.aload_n 0, 0, 0, 0, 0) := (zq191_4 127 (by decide)).trans rfl
theorem zk_191_728 : zc 191 728 = some (.iload_n 3, 0, 0, 0, 0) := (zq191_4 128 (by decide)).trans rfl
theorem zk_191_729 : zc 191 729 = some (.iconst 1, 0, 0, 0, 0) := (zq191_4 129 (by decide)).trans rfl
theorem zk_191_730 : zc 191 730 = some (.iadd, 0, 0, 0, 0) := (zq191_4 130 (by decide)).trans rfl
theorem zk_191_731 : zc 191 731 = some (.iaload, 0, 0, 0, 0) := (zq191_4 131 (by decide)).trans rfl
theorem zk_191_732 : zc 191 732 = some (.aload_n 0, 0, 0, 0, 0) := (zq191_4 132 (by decide)).trans rfl
theorem zk_191_733 : zc 191 733 = some (.iload_n 3, 0, 0, 0, 0) := (zq191_4 133 (by decide)).trans rfl
theorem zk_191_734 : zc 191 734 = some (.iconst 2, 0, 0, 0, 0) := (zq191_4 134 (by decide)).trans rfl
theorem zk_191_735 : zc 191 735 = some (.iadd, 0, 0, 0, 0) := (zq191_4 135 (by decide)).trans rfl
theorem zk_191_736 : zc 191 736 = some (.iaload, 0, 0, 0, 0) := (zq191_4 136 (by decide)).trans rfl
theorem zk_191_737 : zc 191 737 = some (.invokevirtual 70, 140, 0, 3, 181) := (zq191_4 137 (by decide)).trans rfl
theorem zk_191_740 : zc 191 740 = some (.pop, 0, 0, 0, 0) := (zq191_4 140 (by decide)).trans rfl
theorem zk_191_741 : zc 191 741 = some (.goto 869, 1610, 0, 0, 0) := (zq191_4 141 (by decide)).trans rfl
theorem zk_191_744 : zc 191 744 = some (.aload_n 1, 0, 0, 0, 0) := (zq191_4 144 (by decide)).trans rfl
theorem zk_191_745 : zc 191 745 = some (.aload_n 0, 0, 0, 0, 0) := (zq191_4 145 (by decide)).trans rfl
theorem zk_191_746 : zc 191 746 = some (.iload_n 3, 0, 0, 0, 0) := (zq191_4 146 (by decide)).trans rfl
theorem zk_191_747 : zc 191 747 = some (.iconst 1, 0, 0, 0, 0) := (zq191_4 147 (by decide)).trans rfl
theorem zk_191_748 : zc 191 748 = some (.iadd, 0, 0, 0, 0) := (zq191_4 148 (by decide)).trans rfl
theorem zk_191_749 : zc 191 749 = some (.iaload, 0, 0, 0, 0) := (zq191_4 149 (by decide)).trans rfl
theorem zk_191_750 : zc 191 750 = some (.invokevirtual 71, 88, 0, 2, 182) := (zq191_5 0 (by decide)).trans rfl
theorem zk_191_753 : zc 191 753 = some (.pop, 0, 0, 0, 0) := (zq191_5 3 (by decide)).trans rfl
theorem zk_191_754 : zc 191 754 = some (.aload_n 2, 0, 0, 0, 0) := (zq191_5 4 (by decide)).trans rfl
theorem zk_191_755 : zc 191 755 = some (.aload_n 0, 0, 0, 0, 0) := (zq191_5 5 (by decide)).trans rfl
theorem zk_191_756 : zc 191 756 = some (.iload_n 3, 0, 0, 0, 0) := (zq191_5 6 (by decide)).trans rfl
theorem zk_191_757 : zc 191 757 = some (.iconst 1, 0, 0, 0, 0) := (zq191_5 7 (by decide)).trans rfl
theorem zk_191_758 : zc 191 758 = some (.iadd, 0, 0, 0, 0) := (zq191_5 8 (by decide)).trans rfl
theorem zk_191_759 : zc 191 759 = some (.iaload, 0, 0, 0, 0) := (zq191_5 9 (by decide)).trans rfl
theorem zk_191_760 : zc 191 760 = some (.invokevirtual 74, 141, 0, 2, 183) := (zq191_5 10 (by decide)).trans rfl
theorem zk_191_763 : zc 191 763 = some (.pop, 0, 0, 0, 0) := (zq191_5 13 (by decide)).trans rfl
theorem zk_191_764 : zc 191 764 = some (.goto 846, 1610, 0, 0, 0) := (zq191_5 14 (by decide)).trans rfl
theorem zk_191_767 : zc 191 767 = some (.aload_n 1, 0, 0, 0, 0) := (zq191_5 17 (by decide)).trans rfl
theorem zk_191_768 : zc 191 768 = some (.aload_n 0, 0, 0, 0, 0) := (zq191_5 18 (by decide)).trans rfl
theorem zk_191_769 : zc 191 769 = some (.iload_n 3, 0, 0, 0, 0) := (zq191_5 19 (by decide)).trans rfl
theorem zk_191_770 : zc 191 770 = some (.iconst 1, 0, 0, 0, 0) := (zq191_5 20 (by decide)).trans rfl
theorem zk_191_771 : zc 191 771 = some (.iadd, 0, 0, 0, 0) := (zq191_5 21 (by decide)).trans rfl
theorem zk_191_772 : zc 191 772 = some (.iaload, 0, 0, 0, 0) := (zq191_5 22 (by decide)).trans rfl
theorem zk_191_773 : zc 191 773 = some (.aload_n 0, 0, 0, 0, 0) := (zq191_5 23 (by decide)).trans rfl
theorem zk_191_774 : zc 191 774 = some (.iload_n 3, 0, 0, 0, 0) := (zq191_5 24 (by decide)).trans rfl
theorem zk_191_775 : zc 191 775 = some (.iconst 2, 0, 0, 0, 0) := (zq191_5 25 (by decide)).trans rfl
theorem zk_191_776 : zc 191 776 = some (.iadd, 0, 0, 0, 0) := (zq191_5 26 (by decide)).trans rfl
theorem zk_191_777 : zc 191 777 = some (.iaload, 0, 0, 0, 0) := (zq191_5 27 (by decide)).trans rfl
theorem zk_191_778 : zc 191 778 = some (.invokevirtual 75, 89, 0, 3, 184) := (zq191_5 28 (by decide)).trans rfl
theorem zk_191_781 : zc 191 781 = some (.pop, 0, 0, 0, 0) := (zq191_5 31 (by decide)).trans rfl
theorem zk_191_782 : zc 191 782 = some (.aload_n 2, 0, 0, 0, 0) := (zq191_5 32 (by decide)).trans rfl
theorem zk_191_783 : zc 191 783 = some (.aload_n 0, 0, 0, 0, 0) := (zq191_5 33 (by decide)).trans rfl
theorem zk_191_784 : zc 191 784 = some (.iload_n 3, 0, 0, 0, 0) := (zq191_5 34 (by decide)).trans rfl
theorem zk_191_785 : zc 191 785 = some (.iconst 1, 0, 0, 0, 0) := (zq191_5 35 (by decide)).trans rfl
theorem zk_191_786 : zc 191 786 = some (.iadd, 0, 0, 0, 0) := (zq191_5 36 (by decide)).trans rfl
theorem zk_191_787 : zc 191 787 = some (.iaload, 0, 0, 0, 0) := (zq191_5 37 (by decide)).trans rfl
theorem zk_191_788 : zc 191 788 = some (.aload_n 0, 0, 0, 0, 0) := (zq191_5 38 (by decide)).trans rfl
theorem zk_191_789 : zc 191 789 = some (.iload_n 3, 0, 0, 0, 0) := (zq191_5 39 (by decide)).trans rfl
theorem zk_191_790 : zc 191 790 = some (.iconst 2, 0, 0, 0, 0) := (zq191_5 40 (by decide)).trans rfl
theorem zk_191_791 : zc 191 791 = some (.iadd, 0, 0, 0, 0) := (zq191_5 41 (by decide)).trans rfl
theorem zk_191_792 : zc 191 792 = some (.iaload, 0, 0, 0, 0) := (zq191_5 42 (by decide)).trans rfl
theorem zk_191_793 : zc 191 793 = some (.invokevirtual 78, 142, 0, 3, 185) := (zq191_5 43 (by decide)).trans rfl
theorem zk_191_796 : zc 191 796 = some (.pop, 0, 0, 0, 0) := (zq191_5 46 (by decide)).trans rfl
theorem zk_191_797 : zc 191 797 = some (.goto 813, 1610, 0, 0, 0) := (zq191_5 47 (by decide)).trans rfl
theorem zk_191_800 : zc 191 800 = some (.aload_n 1, 0, 0, 0, 0) := (zq191_5 50 (by decide)).trans rfl
theorem zk_191_801 : zc 191 801 = some (.aload_n 0, 0, 0, 0, 0) := (zq191_5 51 (by decide)).trans rfl
theorem zk_191_802 : zc 191 802 = some (.iload_n 3, 0, 0, 0, 0) := (zq191_5 52 (by decide)).trans rfl
theorem zk_191_803 : zc 191 803 = some (.iconst 1, 0, 0, 0, 0) := (zq191_5 53 (by decide)).trans rfl
theorem zk_191_804 : zc 191 804 = some (.iadd, 0, 0, 0, 0) := (zq191_5 54 (by decide)).trans rfl
theorem zk_191_805 : zc 191 805 = some (.iaload, 0, 0, 0, 0) := (zq191_5 55 (by decide)).trans rfl
theorem zk_191_806 : zc 191 806 = some (.aload_n 0, 0, 0, 0, 0) := (zq191_5 56 (by decide)).trans rfl
theorem zk_191_807 : zc 191 807 = some (.iload_n 3, 0, 0, 0, 0) := (zq191_5 57 (by decide)).trans rfl
theorem zk_191_808 : zc 191 808 = some (.iconst 2, 0, 0, 0, 0) := (zq191_5 58 (by decide)).trans rfl
theorem zk_191_809 : zc 191 809 = some (.iadd, 0, 0, 0, 0) := (zq191_5 59 (by decide)).trans rfl
theorem zk_191_810 : zc 191 810 = some (.iaload, 0, 0, 0, 0) := (zq191_5 60 (by decide)).trans rfl
theorem zk_191_811 : zc 191 811 = some (.ifCond .eq 7, 818, 0, 0, 0) := (zq191_5 61 (by decide)).trans rfl
theorem zk_191_814 : zc 191 814 = some (.iconst 1, 0, 0, 0, 0) := (zq191_5 64 (by decide)).trans rfl
theorem zk_191_815 : zc 191 815 = some (.goto 4, 819, 0, 0, 0) := (zq191_5 65 (by decide)).trans rfl
theorem zk_191_818 : zc 191 818 = some (.iconst 0, 0, 0, 0, 0) := (zq191_5 68 (by decide)).trans rfl
theorem zk_191_819 : zc 191 819 = some (.invokevirtual 79, 90, 0, 3, 186) := (zq191_5 69 (by decide)).trans rfl
theorem zk_191_822 : zc 191 822 = some (.pop, 0, 0, 0, 0) := (zq191_5 72 (by decide)).trans rfl
theorem zk_191_823 : zc 191 823 = some (.aload_n 2, 0, 0, 0, 0) := (zq191_5 73 (by decide)).trans rfl
theorem zk_191_824 : zc 191 824 = some (.aload_n 0, 0, 0, 0, 0) := (zq191_5 74 (by decide)).trans rfl
theorem zk_191_825 : zc 191 825 = some (.iload_n 3, 0, 0, 0, 0) := (zq191_5 75 (by decide)).trans rfl
theorem zk_191_826 : zc 191 826 = some (.iconst 1, 0, 0, 0, 0) := (zq191_5 76 (by decide)).trans rfl
theorem zk_191_827 : zc 191 827 = some (.iadd, 0, 0, 0, 0) := (zq191_5 77 (by decide)).trans rfl
theorem zk_191_828 : zc 191 828 = some (.iaload, 0, 0, 0, 0) := (zq191_5 78 (by decide)).trans rfl
theorem zk_191_829 : zc 191 829 = some (.aload_n 0, 0, 0, 0, 0) := (zq191_5 79 (by decide)).trans rfl
theorem zk_191_830 : zc 191 830 = some (.iload_n 3, 0, 0, 0, 0) := (zq191_5 80 (by decide)).trans rfl
theorem zk_191_831 : zc 191 831 = some (.iconst 2, 0, 0, 0, 0) := (zq191_5 81 (by decide)).trans rfl
theorem zk_191_832 : zc 191 832 = some (.iadd, 0, 0, 0, 0) := (zq191_5 82 (by decide)).trans rfl
theorem zk_191_833 : zc 191 833 = some (.iaload, 0, 0, 0, 0) := (zq191_5 83 (by decide)).trans rfl
theorem zk_191_834 : zc 191 834 = some (.ifCond .eq 7, 841, 0, 0, 0) := (zq191_5 84 (by decide)).trans rfl
theorem zk_191_837 : zc 191 837 = some (.iconst 1, 0, 0, 0, 0) := (zq191_5 87 (by decide)).trans rfl
theorem zk_191_838 : zc 191 838 = some (.goto 4, 842, 0, 0, 0) := (zq191_5 88 (by decide)).trans rfl
theorem zk_191_841 : zc 191 841 = some (.iconst 0, 0, 0, 0, 0) := (zq191_5 91 (by decide)).trans rfl
theorem zk_191_842 : zc 191 842 = some (.invokevirtual 82, 144, 0, 3, 187) := (zq191_5 92 (by decide)).trans rfl
theorem zk_191_845 : zc 191 845 = some (.pop, 0, 0, 0, 0) := (zq191_5 95 (by decide)).trans rfl
theorem zk_191_846 : zc 191 846 = some (.goto 764, 1610, 0, 0, 0) := (zq191_5 96 (by decide)).trans rfl
theorem zk_191_849 : zc 191 849 = some (.aload_n 1, 0, 0, 0, 0) := (zq191_5 99 (by decide)).trans rfl
theorem zk_191_850 : zc 191 850 = some (.aload_n 0, 0, 0, 0, 0) := (zq191_5 100 (by decide)).trans rfl
theorem zk_191_851 : zc 191 851 = some (.iload_n 3, 0, 0, 0, 0) := (zq191_5 101 (by decide)).trans rfl
theorem zk_191_852 : zc 191 852 = some (.iconst 1, 0, 0, 0, 0) := (zq191_5 102 (by decide)).trans rfl
theorem zk_191_853 : zc 191 853 = some (.iadd, 0, 0, 0, 0) := (zq191_5 103 (by decide)).trans rfl
theorem zk_191_854 : zc 191 854 = some (.iaload, 0, 0, 0, 0) := (zq191_5 104 (by decide)).trans rfl
theorem zk_191_855 : zc 191 855 = some (.aload_n 0, 0, 0, 0, 0) := (zq191_5 105 (by decide)).trans rfl
theorem zk_191_856 : zc 191 856 = some (.iload_n 3, 0, 0, 0, 0) := (zq191_5 106 (by decide)).trans rfl
theorem zk_191_857 : zc 191 857 = some (.iconst 2, 0, 0, 0, 0) := (zq191_5 107 (by decide)).trans rfl
theorem zk_191_858 : zc 191 858 = some (.iadd, 0, 0, 0, 0) := (zq191_5 108 (by decide)).trans rfl
theorem zk_191_859 : zc 191 859 = some (.iaload, 0, 0, 0, 0) := (zq191_5 109 (by decide)).trans rfl
theorem zk_191_860 : zc 191 860 = some (.ifCond .eq 7, 867, 0, 0, 0) := (zq191_5 110 (by decide)).trans rfl
theorem zk_191_863 : zc 191 863 = some (.iconst 1, 0, 0, 0, 0) := (zq191_5 113 (by decide)).trans rfl
theorem zk_191_864 : zc 191 864 = some (.goto 4, 868, 0, 0, 0) := (zq191_5 114 (by decide)).trans rfl
theorem zk_191_867 : zc 191 867 = some (.iconst 0, 0, 0, 0, 0) := (zq191_5 117 (by decide)).trans rfl
theorem zk_191_868 : zc 191 868 = some (.invokevirtual 83, 91, 0, 3, 188) := (zq191_5 118 (by decide)).trans rfl
theorem zk_191_871 : zc 191 871 = some (.pop, 0, 0, 0, 0) := (zq191_5 121 (by decide)).trans rfl
theorem zk_191_872 : zc 191 872 = some (.aload_n 2, 0, 0, 0, 0) := (zq191_5 122 (by decide)).trans rfl
theorem zk_191_873 : zc 191 873 = some (.aload_n 0, 0, 0, 0, 0) := (zq191_5 123 (by decide)).trans rfl
theorem zk_191_874 : zc 191 874 = some (.iload_n 3, 0, 0, 0, 0) := (zq191_5 124 (by decide)).trans rfl
theorem zk_191_875 : zc 191 875 = some (.iconst 1, 0, 0, 0, 0) := (zq191_5 125 (by decide)).trans rfl
theorem zk_191_876 : zc 191 876 = some (.iadd, 0, 0, 0, 0) := (zq191_5 126 (by decide)).trans rfl
theorem zk_191_877 : zc 191 877 = some (.iaload, 0, 0, 0, 0) := (zq191_5 127 (by decide)).trans rfl
theorem zk_191_878 : zc 191 878 = some (.aload_n 0, 0, 0, 0, 0) := (zq191_5 128 (by decide)).trans rfl
theorem zk_191_879 : zc 191 879 = some (.iload_n 3, 0, 0, 0, 0) := (zq191_5 129 (by decide)).trans rfl
theorem zk_191_880 : zc 191 880 = some (.iconst 2, 0, 0, 0, 0) := (zq191_5 130 (by decide)).trans rfl
theorem zk_191_881 : zc 191 881 = some (.iadd, 0, 0, 0, 0) := (zq191_5 131 (by decide)).trans rfl
theorem zk_191_882 : zc 191 882 = some (.iaload, 0, 0, 0, 0) := (zq191_5 132 (by decide)).trans rfl
theorem zk_191_883 : zc 191 883 = some (.ifCond .eq 7, 890, 0, 0, 0) := (zq191_5 133 (by decide)).trans rfl
theorem zk_191_886 : zc 191 886 = some (.iconst 1, 0, 0, 0, 0) := (zq191_5 136 (by decide)).trans rfl
theorem zk_191_887 : zc 191 887 = some (.goto 4, 891, 0, 0, 0) := (zq191_5 137 (by decide)).trans rfl
theorem zk_191_890 : zc 191 890 = some (.iconst 0, 0, 0, 0, 0) := (zq191_5 140 (by decide)).trans rfl
theorem zk_191_891 : zc 191 891 = some (.invokevirtual 86, 146, 0, 3, 189) := (zq191_5 141 (by decide)).trans rfl
theorem zk_191_894 : zc 191 894 = some (.pop, 0, 0, 0, 0) := (zq191_5 144 (by decide)).trans rfl
theorem zk_191_895 : zc 191 895 = some (.goto 715, 1610, 0, 0, 0) := (zq191_5 145 (by decide)).trans rfl
theorem zk_191_898 : zc 191 898 = some (.aload_n 1, 0, 0, 0, 0) := (zq191_5 148 (by decide)).trans rfl
theorem zk_191_899 : zc 191 899 = some (.aload_n 0, 0, 0, 0, 0) := (zq191_5 149 (by decide)).trans rfl
theorem zk_191_900 : zc 191 900 = some (.iload_n 3, 0, 0, 0, 0) := (zq191_6 0 (by decide)).trans rfl
theorem zk_191_901 : zc 191 901 = some (.iconst 1, 0, 0, 0, 0) := (zq191_6 1 (by decide)).trans rfl
theorem zk_191_902 : zc 191 902 = some (.iadd, 0, 0, 0, 0) := (zq191_6 2 (by decide)).trans rfl
theorem zk_191_903 : zc 191 903 = some (.iaload, 0, 0, 0, 0) := (zq191_6 3 (by decide)).trans rfl
theorem zk_191_904 : zc 191 904 = some (.aload_n 0, 0, 0, 0, 0) := (zq191_6 4 (by decide)).trans rfl
theorem zk_191_905 : zc 191 905 = some (.iload_n 3, 0, 0, 0, 0) := (zq191_6 5 (by decide)).trans rfl
theorem zk_191_906 : zc 191 906 = some (.iconst 2, 0, 0, 0, 0) := (zq191_6 6 (by decide)).trans rfl
theorem zk_191_907 : zc 191 907 = some (.iadd, 0, 0, 0, 0) := (zq191_6 7 (by decide)).trans rfl
theorem zk_191_908 : zc 191 908 = some (.iaload, 0, 0, 0, 0) := (zq191_6 8 (by decide)).trans rfl
theorem zk_191_909 : zc 191 909 = some (.invokevirtual 87, 92, 0, 3, 190) := (zq191_6 9 (by decide)).trans rfl
theorem zk_191_912 : zc 191 912 = some (.pop, 0, 0, 0, 0) := (zq191_6 12 (by decide)).trans rfl
theorem zk_191_913 : zc 191 913 = some (.aload_n 2, 0, 0, 0, 0) := (zq191_6 13 (by decide)).trans rfl
theorem zk_191_914 : zc 191 914 = some (.aload_n 0, 0, 0, 0, 0) := (zq191_6 14 (by decide)).trans rfl
theorem zk_191_915 : zc 191 915 = some (.iload_n 3, 0, 0, 0, 0) := (zq191_6 15 (by decide)).trans rfl
theorem zk_191_916 : zc 191 916 = some (.iconst 1, 0, 0, 0, 0) := (zq191_6 16 (by decide)).trans rfl
theorem zk_191_917 : zc 191 917 = some (.iadd, 0, 0, 0, 0) := (zq191_6 17 (by decide)).trans rfl
theorem zk_191_918 : zc 191 918 = some (.iaload, 0, 0, 0, 0) := (zq191_6 18 (by decide)).trans rfl
theorem zk_191_919 : zc 191 919 = some (.aload_n 0, 0, 0, 0, 0) := (zq191_6 19 (by decide)).trans rfl
theorem zk_191_920 : zc 191 920 = some (.iload_n 3, 0, 0, 0, 0) := (zq191_6 20 (by decide)).trans rfl
theorem zk_191_921 : zc 191 921 = some (.iconst 2, 0, 0, 0, 0) := (zq191_6 21 (by decide)).trans rfl
theorem zk_191_922 : zc 191 922 = some (.iadd, 0, 0, 0, 0) := (zq191_6 22 (by decide)).trans rfl
theorem zk_191_923 : zc 191 923 = some (.iaload, 0, 0, 0, 0) := (zq191_6 23 (by decide)).trans rfl
theorem zk_191_924 : zc 191 924 = some (.invokevirtual 90, 147, 0, 3, 191) := (zq191_6 24 (by decide)).trans rfl
theorem zk_191_927 : zc 191 927 = some (.pop, 0, 0, 0, 0) := (zq191_6 27 (by decide)).trans rfl
theorem zk_191_928 : zc 191 928 = some (.goto 682, 1610, 0, 0, 0) := (zq191_6 28 (by decide)).trans rfl
theorem zk_191_931 : zc 191 931 = some (.aload_n 1, 0, 0, 0, 0) := (zq191_6 31 (by decide)).trans rfl
theorem zk_191_932 : zc 191 932 = some (.aload_n 0, 0, 0, 0, 0) := (zq191_6 32 (by decide)).trans rfl
theorem zk_191_933 : zc 191 933 = some (.iload_n 3, 0, 0, 0, 0) := (zq191_6 33 (by decide)).trans rfl
theorem zk_191_934 : zc 191 934 = some (.iconst 1, 0, 0, 0, 0) := (zq191_6 34 (by decide)).trans rfl
theorem zk_191_935 : zc 191 935 = some (.iadd, 0, 0, 0, 0) := (zq191_6 35 (by decide)).trans rfl
theorem zk_191_936 : zc 191 936 = some (.iaload, 0, 0, 0, 0) := (zq191_6 36 (by decide)).trans rfl
theorem zk_191_937 : zc 191 937 = some (.invokevirtual 91, 93, 0, 2, 192) := (zq191_6 37 (by decide)).trans rfl
theorem zk_191_940 : zc 191 940 = some (.pop, 0, 0, 0, 0) := (zq191_6 40 (by decide)).trans rfl
theorem zk_191_941 : zc 191 941 = some (.aload_n 2, 0, 0, 0, 0) := (zq191_6 41 (by decide)).trans rfl
theorem zk_191_942 : zc 191 942 = some (.aload_n 0, 0, 0, 0, 0) := (zq191_6 42 (by decide)).trans rfl
theorem zk_191_943 : zc 191 943 = some (.iload_n 3, 0, 0, 0, 0) := (zq191_6 43 (by decide)).trans rfl
theorem zk_191_944 : zc 191 944 = some (.iconst 1, 0, 0, 0, 0) := (zq191_6 44 (by decide)).trans rfl
theorem zk_191_945 : zc 191 945 = some (.iadd, 0, 0, 0, 0) := (zq191_6 45 (by decide)).trans rfl
theorem zk_191_946 : zc 191 946 = some (.iaload, 0, 0, 0, 0) := (zq191_6 46 (by decide)).trans rfl
theorem zk_191_947 : zc 191 947 = some (.invokevirtual 94, 155, 0, 2, 193) := (zq191_6 47 (by decide)).trans rfl
theorem zk_191_950 : zc 191 950 = some (.pop, 0, 0, 0, 0) := (zq191_6 50 (by decide)).trans rfl
theorem zk_191_951 : zc 191 951 = some (.goto 659, 1610, 0, 0, 0) := (zq191_6 51 (by decide)).trans rfl
theorem zk_191_954 : zc 191 954 = some (.aload_n 1, 0, 0, 0, 0) := (zq191_6 54 (by decide)).trans rfl
theorem zk_191_955 : zc 191 955 = some (.invokevirtual 95, 94, 0, 1, 194) := (zq191_6 55 (by decide)).trans rfl
theorem zk_191_958 : zc 191 958 = some (.aload_n 2, 0, 0, 0, 0) := (zq191_6 58 (by decide)).trans rfl
theorem zk_191_959 : zc 191 959 = some (.invokevirtual 99, 156, 0, 1, 195) := (zq191_6 59 (by decide)).trans rfl
theorem zk_191_962 : zc 191 962 = some (.if_icmp .eq 648, 1610, 0, 0, 0) := (zq191_6 62 (by decide)).trans rfl
theorem zk_191_967 : zc 191 967 = some (.aload_n 1, 0, 0, 0, 0) := (zq191_6 67 (by decide)).trans rfl
theorem zk_191_968 : zc 191 968 = some (.aload_n 0, 0, 0, 0, 0) := (zq191_6 68 (by decide)).trans rfl
theorem zk_191_969 : zc 191 969 = some (.iload_n 3, 0, 0, 0, 0) := (zq191_6 69 (by decide)).trans rfl
theorem zk_191_970 : zc 191 970 = some (.iconst 1, 0, 0, 0, 0) := (zq191_6 70 (by decide)).trans rfl
theorem zk_191_971 : zc 191 971 = some (.iadd, 0, 0, 0, 0) := (zq191_6 71 (by decide)).trans rfl
theorem zk_191_972 : zc 191 972 = some (.iaload, 0, 0, 0, 0) := (zq191_6 72 (by decide)).trans rfl
theorem zk_191_973 : zc 191 973 = some (.aload_n 0, 0, 0, 0, 0) := (zq191_6 73 (by decide)).trans rfl
theorem zk_191_974 : zc 191 974 = some (.iload_n 3, 0, 0, 0, 0) := (zq191_6 74 (by decide)).trans rfl
theorem zk_191_975 : zc 191 975 = some (.iconst 2, 0, 0, 0, 0) := (zq191_6 75 (by decide)).trans rfl
theorem zk_191_976 : zc 191 976 = some (.iadd, 0, 0, 0, 0) := (zq191_6 76 (by decide)).trans rfl
theorem zk_191_977 : zc 191 977 = some (.iaload, 0, 0, 0, 0) := (zq191_6 77 (by decide)).trans rfl
theorem zk_191_978 : zc 191 978 = some (.ifCond .eq 7, 985, 0, 0, 0) := (zq191_6 78 (by decide)).trans rfl
theorem zk_191_981 : zc 191 981 = some (.iconst 1, 0, 0, 0, 0) := (zq191_6 81 (by decide)).trans rfl
theorem zk_191_982 : zc 191 982 = some (.goto 4, 986, 0, 0, 0) := (zq191_6 82 (by decide)).trans rfl
theorem zk_191_985 : zc 191 985 = some (.iconst 0, 0, 0, 0, 0) := (zq191_6 85 (by decide)).trans rfl
theorem zk_191_986 : zc 191 986 = some (.invokevirtual 100, 95, 0, 3, 196) := (zq191_6 86 (by decide)).trans rfl
theorem zk_191_989 : zc 191 989 = some (.pop, 0, 0, 0, 0) := (zq191_6 89 (by decide)).trans rfl
theorem zk_191_990 : zc 191 990 = some (.aload_n 2, 0, 0, 0, 0) := (zq191_6 90 (by decide)).trans rfl
theorem zk_191_991 : zc 191 991 = some (.aload_n 0, 0, 0, 0, 0) := (zq191_6 91 (by decide)).trans rfl
theorem zk_191_992 : zc 191 992 = some (.iload_n 3, 0, 0, 0, 0) := (zq191_6 92 (by decide)).trans rfl
theorem zk_191_993 : zc 191 993 = some (.iconst 1, 0, 0, 0, 0) := (zq191_6 93 (by decide)).trans rfl
theorem zk_191_994 : zc 191 994 = some (.iadd, 0, 0, 0, 0) := (zq191_6 94 (by decide)).trans rfl
theorem zk_191_995 : zc 191 995 = some (.iaload, 0, 0, 0, 0) := (zq191_6 95 (by decide)).trans rfl
theorem zk_191_996 : zc 191 996 = some (.aload_n 0, 0, 0, 0, 0) := (zq191_6 96 (by decide)).trans rfl
theorem zk_191_997 : zc 191 997 = some (.iload_n 3, 0, 0, 0, 0) := (zq191_6 97 (by decide)).trans rfl
theorem zk_191_998 : zc 191 998 = some (.iconst 2, 0, 0, 0, 0) := (zq191_6 98 (by decide)).trans rfl
theorem zk_191_999 : zc 191 999 = some (.iadd, 0, 0, 0, 0) := (zq191_6 99 (by decide)).trans rfl
theorem zk_191_1000 : zc 191 1000 = some (.iaload, 0, 0, 0, 0) := (zq191_6 100 (by decide)).trans rfl
theorem zk_191_1001 : zc 191 1001 = some (.ifCond .eq 7, 1008, 0, 0, 0) := (zq191_6 101 (by decide)).trans rfl
theorem zk_191_1004 : zc 191 1004 = some (.iconst 1, 0, 0, 0, 0) := (zq191_6 104 (by decide)).trans rfl
theorem zk_191_1005 : zc 191 1005 = some (.goto 4, 1009, 0, 0, 0) := (zq191_6 105 (by decide)).trans rfl
theorem zk_191_1008 : zc 191 1008 = some (.iconst 0, 0, 0, 0, 0) := (zq191_6 108 (by decide)).trans rfl
theorem zk_191_1009 : zc 191 1009 = some (.invokevirtual 103, 158, 0, 3, 197) := (zq191_6 109 (by decide)).trans rfl
theorem zk_191_1012 : zc 191 1012 = some (.pop, 0, 0, 0, 0) := (zq191_6 112 (by decide)).trans rfl
theorem zk_191_1013 : zc 191 1013 = some (.goto 597, 1610, 0, 0, 0) := (zq191_6 113 (by decide)).trans rfl
theorem zk_191_1016 : zc 191 1016 = some (.aload_n 1, 0, 0, 0, 0) := (zq191_6 116 (by decide)).trans rfl
theorem zk_191_1017 : zc 191 1017 = some (.aload_n 0, 0, 0, 0, 0) := (zq191_6 117 (by decide)).trans rfl
theorem zk_191_1018 : zc 191 1018 = some (.iload_n 3, 0, 0, 0, 0) := (zq191_6 118 (by decide)).trans rfl
theorem zk_191_1019 : zc 191 1019 = some (.iconst 1, 0, 0, 0, 0) := (zq191_6 119 (by decide)).trans rfl
theorem zk_191_1020 : zc 191 1020 = some (.iadd, 0, 0, 0, 0) := (zq191_6 120 (by decide)).trans rfl
theorem zk_191_1021 : zc 191 1021 = some (.iaload, 0, 0, 0, 0) := (zq191_6 121 (by decide)).trans rfl
theorem zk_191_1022 : zc 191 1022 = some (.invokevirtual 104, 96, 0, 2, 198) := (zq191_6 122 (by decide)).trans rfl
theorem zk_191_1025 : zc 191 1025 = some (.pop, 0, 0, 0, 0) := (zq191_6 125 (by decide)).trans rfl
theorem zk_191_1026 : zc 191 1026 = some (.aload_n 2, 0, 0, 0, 0) := (zq191_6 126 (by decide)).trans rfl
theorem zk_191_1027 : zc 191 1027 = some (.aload_n 0, 0, 0, 0, 0) := (zq191_6 127 (by decide)).trans rfl
theorem zk_191_1028 : zc 191 1028 = some (.iload_n 3, 0, 0, 0, 0) := (zq191_6 128 (by decide)).trans rfl
theorem zk_191_1029 : zc 191 1029 = some (.iconst 1, 0, 0, 0, 0) := (zq191_6 129 (by decide)).trans rfl
theorem zk_191_1030 : zc 191 1030 = some (.iadd, 0, 0, 0, 0) := (zq191_6 130 (by decide)).trans rfl
theorem zk_191_1031 : zc 191 1031 = some (.iaload, 0, 0, 0, 0) := (zq191_6 131 (by decide)).trans rfl
theorem zk_191_1032 : zc 191 1032 = some (.invokevirtual 107, 163, 0, 2, 199) := (zq191_6 132 (by decide)).trans rfl
theorem zk_191_1035 : zc 191 1035 = some (.pop, 0, 0, 0, 0) := (zq191_6 135 (by decide)).trans rfl
theorem zk_191_1036 : zc 191 1036 = some (.goto 574, 1610, 0, 0, 0) := (zq191_6 136 (by decide)).trans rfl
theorem zk_191_1039 : zc 191 1039 = some (.aload_n 1, 0, 0, 0, 0) := (zq191_6 139 (by decide)).trans rfl
theorem zk_191_1040 : zc 191 1040 = some (.aload_n 0, 0, 0, 0, 0) := (zq191_6 140 (by decide)).trans rfl
theorem zk_191_1041 : zc 191 1041 = some (.iload_n 3, 0, 0, 0, 0) := (zq191_6 141 (by decide)).trans rfl
theorem zk_191_1042 : zc 191 1042 = some (.iconst 1, 0, 0, 0, 0) := (zq191_6 142 (by decide)).trans rfl
theorem zk_191_1043 : zc 191 1043 = some (.iadd, 0, 0, 0, 0) := (zq191_6 143 (by decide)).trans rfl
theorem zk_191_1044 : zc 191 1044 = some (.iaload, 0, 0, 0, 0) := (zq191_6 144 (by decide)).trans rfl
theorem zk_191_1045 : zc 191 1045 = some (.aload_n 0, 0, 0, 0, 0) := (zq191_6 145 (by decide)).trans rfl
theorem zk_191_1046 : zc 191 1046 = some (.iload_n 3, 0, 0, 0, 0) := (zq191_6 146 (by decide)).trans rfl
theorem zk_191_1047 : zc 191 1047 = some (.iconst 2, 0, 0, 0, 0) := (zq191_6 147 (by decide)).trans rfl
theorem zk_191_1048 : zc 191 1048 = some (.iadd, 0, 0, 0, 0) := (zq191_6 148 (by decide)).trans rfl
theorem zk_191_1049 : zc 191 1049 = some (.iaload, 0, 0, 0, 0) := (zq191_6 149 (by decide)).trans rfl
theorem zk_191_1050 : zc 191 1050 = some (.aload_n 0, 0, 0, 0, 0) := (zq191_7 0 (by decide)).trans rfl
theorem zk_191_1051 : zc 191 1051 = some (.iload_n 3, 0, 0, 0, 0) := (zq191_7 1 (by decide)).trans rfl
theorem zk_191_1052 : zc 191 1052 = some (.iconst 3, 0, 0, 0, 0) := (zq191_7 2 (by decide)).trans rfl
theorem zk_191_1053 : zc 191 1053 = some (.iadd, 0, 0, 0, 0) := (zq191_7 3 (by decide)).trans rfl
theorem zk_191_1054 : zc 191 1054 = some (.iaload, 0, 0, 0, 0) := (zq191_7 4 (by decide)).trans rfl
theorem zk_191_1055 : zc 191 1055 = some (.aload_n 0, 0, 0, 0, 0) := (zq191_7 5 (by decide)).trans rfl
theorem zk_191_1056 : zc 191 1056 = some (.iload_n 3, 0, 0, 0, 0) := (zq191_7 6 (by decide)).trans rfl
theorem zk_191_1057 : zc 191 1057 = some (.iconst 4, 0, 0, 0, 0) := (zq191_7 7 (by decide)).trans rfl
theorem zk_191_1058 : zc 191 1058 = some (.iadd, 0, 0, 0, 0) := (zq191_7 8 (by decide)).trans rfl
theorem zk_191_1059 : zc 191 1059 = some (.iaload, 0, 0, 0, 0) := (zq191_7 9 (by decide)).trans rfl
theorem zk_191_1060 : zc 191 1060 = some (.aload_n 0, 0, 0, 0, 0) := (zq191_7 10 (by decide)).trans rfl
theorem zk_191_1061 : zc 191 1061 = some (.iload_n 3, 0, 0, 0, 0) := (zq191_7 11 (by decide)).trans rfl
theorem zk_191_1062 : zc 191 1062 = some (.iconst 5, 0, 0, 0, 0) := (zq191_7 12 (by decide)).trans rfl
theorem zk_191_1063 : zc 191 1063 = some (.iadd, 0, 0, 0, 0) := (zq191_7 13 (by decide)).trans rfl
theorem zk_191_1064 : zc 191 1064 = some (.iaload, 0, 0, 0, 0) := (zq191_7 14 (by decide)).trans rfl
theorem zk_191_1065 : zc 191 1065 = some (.invokevirtual 108, 98, 0, 6, 200) := (zq191_7 15 (by decide)).trans rfl
theorem zk_191_1068 : zc 191 1068 = some (.pop, 0, 0, 0, 0) := (zq191_7 18 (by decide)).trans rfl
theorem zk_191_1069 : zc 191 1069 = some (.aload_n 2, 0, 0, 0, 0) := (zq191_7 19 (by decide)).trans rfl
theorem zk_191_1070 : zc 191 1070 = some (.aload_n 0, 0, 0, 0, 0) := (zq191_7 20 (by decide)).trans rfl
theorem zk_191_1071 : zc 191 1071 = some (.iload_n 3, 0, 0, 0, 0) := (zq191_7 21 (by decide)).trans rfl
theorem zk_191_1072 : zc 191 1072 = some (.iconst 1, 0, 0, 0, 0) := (zq191_7 22 (by decide)).trans rfl
theorem zk_191_1073 : zc 191 1073 = some (.iadd, 0, 0, 0, 0) := (zq191_7 23 (by decide)).trans rfl
theorem zk_191_1074 : zc 191 1074 = some (.iaload, 0, 0, 0, 0) := (zq191_7 24 (by decide)).trans rfl
theorem zk_191_1075 : zc 191 1075 = some (.aload_n 0, 0, 0, 0, 0) := (zq191_7 25 (by decide)).trans rfl
theorem zk_191_1076 : zc 191 1076 = some (.iload_n 3, 0, 0, 0, 0) := (zq191_7 26 (by decide)).trans rfl
theorem zk_191_1077 : zc 191 1077 = some (.iconst 2, 0, 0, 0, 0) := (zq191_7 27 (by decide)).trans rfl
theorem zk_191_1078 : zc 191 1078 = some (.iadd, 0, 0, 0, 0) := (zq191_7 28 (by decide)).trans rfl
theorem zk_191_1079 : zc 191 1079 = some (.iaload, 0, 0, 0, 0) := (zq191_7 29 (by decide)).trans rfl
theorem zk_191_1080 : zc 191 1080 = some (.aload_n 0, 0, 0, 0, 0) := (zq191_7 30 (by decide)).trans rfl
theorem zk_191_1081 : zc 191 1081 = some (.iload_n 3, 0, 0, 0, 0) := (zq191_7 31 (by decide)).trans rfl
theorem zk_191_1082 : zc 191 1082 = some (.iconst 3, 0, 0, 0, 0) := (zq191_7 32 (by decide)).trans rfl
theorem zk_191_1083 : zc 191 1083 = some (.iadd, 0, 0, 0, 0) := (zq191_7 33 (by decide)).trans rfl
theorem zk_191_1084 : zc 191 1084 = some (.iaload, 0, 0, 0, 0) := (zq191_7 34 (by decide)).trans rfl
theorem zk_191_1085 : zc 191 1085 = some (.aload_n 0, 0, 0, 0, 0) := (zq191_7 35 (by decide)).trans rfl
theorem zk_191_1086 : zc 191 1086 = some (.iload_n 3, 0, 0, 0, 0) := (zq191_7 36 (by decide)).trans rfl
theorem zk_191_1087 : zc 191 1087 = some (.iconst 4, 0, 0, 0, 0) := (zq191_7 37 (by decide)).trans rfl
theorem zk_191_1088 : zc 191 1088 = some (.iadd, 0, 0, 0, 0) := (zq191_7 38 (by decide)).trans rfl
theorem zk_191_1089 : zc 191 1089 = some (.iaload, 0, 0, 0, 0) := (zq191_7 39 (by decide)).trans rfl
theorem zk_191_1090 : zc 191 1090 = some (.aload_n 0, 0, 0, 0, 0) := (zq191_7 40 (by decide)).trans rfl
theorem zk_191_1091 : zc 191 1091 = some (.iload_n 3, 0, 0, 0, 0) := (zq191_7 41 (by decide)).trans rfl
theorem zk_191_1092 : zc 191 1092 = some (.iconst 5, 0, 0, 0, 0) := (zq191_7 42 (by decide)).trans rfl
theorem zk_191_1093 : zc 191 1093 = some (.iadd, 0, 0, 0, 0) := (zq191_7 43 (by decide)).trans rfl
theorem zk_191_1094 : zc 191 1094 = some (.iaload, 0, 0, 0, 0) := (zq191_7 44 (by decide)).trans rfl
theorem zk_191_1095 : zc 191 1095 = some (.invokevirtual 111, 164, 0, 6, 201) := (zq191_7 45 (by decide)).trans rfl
theorem zk_191_1098 : zc 191 1098 = some (.pop, 0, 0, 0, 0) := (zq191_7 48 (by decide)).trans rfl
theorem zk_191_1099 : zc 191 1099 = some (.goto 511, 1610, 0, 0, 0) := (zq191_7 49 (by decide)).trans rfl
theorem zk_191_1102 : zc 191 1102 = some (.aload_n 1, 0, 0, 0, 0) := (zq191_7 52 (by decide)).trans rfl
theorem zk_191_1103 : zc 191 1103 = some (.aload_n 0, 0, 0, 0, 0) := (zq191_7 53 (by decide)).trans rfl
theorem zk_191_1104 : zc 191 1104 = some (.iload_n 3, 0, 0, 0, 0) := (zq191_7 54 (by decide)).trans rfl
theorem zk_191_1105 : zc 191 1105 = some (.iconst 1, 0, 0, 0, 0) := (zq191_7 55 (by decide)).trans rfl
theorem zk_191_1106 : zc 191 1106 = some (.iadd, 0, 0, 0, 0) := (zq191_7 56 (by decide)).trans rfl
theorem zk_191_1107 : zc 191 1107 = some (.iaload, 0, 0, 0, 0) := (zq191_7 57 (by decide)).trans rfl
theorem zk_191_1108 : zc 191 1108 = some (.aload_n 0, 0, 0, 0, 0) := (zq191_7 58 (by decide)).trans rfl
theorem zk_191_1109 : zc 191 1109 = some (.iload_n 3, 0, 0, 0, 0) := (zq191_7 59 (by decide)).trans rfl
theorem zk_191_1110 : zc 191 1110 = some (.iconst 2, 0, 0, 0, 0) := (zq191_7 60 (by decide)).trans rfl
theorem zk_191_1111 : zc 191 1111 = some (.iadd, 0, 0, 0, 0) := (zq191_7 61 (by decide)).trans rfl
theorem zk_191_1112 : zc 191 1112 = some (.iaload, 0, 0, 0, 0) := (zq191_7 62 (by decide)).trans rfl
theorem zk_191_1113 : zc 191 1113 = some (.invokevirtual 112, 99, 0, 3, 202) := (zq191_7 63 (by decide)).trans rfl
theorem zk_191_1116 : zc 191 1116 = some (.pop, 0, 0, 0, 0) := (zq191_7 66 (by decide)).trans rfl
theorem zk_191_1117 : zc 191 1117 = some (.aload_n 2, 0, 0, 0, 0) := (zq191_7 67 (by decide)).trans rfl
theorem zk_191_1118 : zc 191 1118 = some (.aload_n 0, 0, 0, 0, 0) := (zq191_7 68 (by decide)).trans rfl
theorem zk_191_1119 : zc 191 1119 = some (.iload_n 3, 0, 0, 0, 0) := (zq191_7 69 (by decide)).trans rfl
theorem zk_191_1120 : zc 191 1120 = some (.iconst 1, 0, 0, 0, 0) := (zq191_7 70 (by decide)).trans rfl
theorem zk_191_1121 : zc 191 1121 = some (.iadd, 0, 0, 0, 0) := (zq191_7 71 (by decide)).trans rfl
theorem zk_191_1122 : zc 191 1122 = some (.iaload, 0, 0, 0, 0) := (zq191_7 72 (by decide)).trans rfl
theorem zk_191_1123 : zc 191 1123 = some (.aload_n 0, 0, 0, 0, 0) := (zq191_7 73 (by decide)).trans rfl
theorem zk_191_1124 : zc 191 1124 = some (.iload_n 3, 0, 0, 0, 0) := (zq191_7 74 (by decide)).trans rfl
theorem zk_191_1125 : zc 191 1125 = some (.iconst 2, 0, 0, 0, 0) := (zq191_7 75 (by decide)).trans rfl
theorem zk_191_1126 : zc 191 1126 = some (.iadd, 0, 0, 0, 0) := (zq191_7 76 (by decide)).trans rfl
theorem zk_191_1127 : zc 191 1127 = some (.iaload, 0, 0, 0, 0) := (zq191_7 77 (by decide)).trans rfl
theorem zk_191_1128 : zc 191 1128 = some (.invokevirtual 115, 165, 0, 3, 203) := (zq191_7 78 (by decide)).trans rfl
theorem zk_191_1131 : zc 191 1131 = some (.pop, 0, 0, 0, 0) := (zq191_7 81 (by decide)).trans rfl
theorem zk_191_1132 : zc 191 1132 = some (.goto 478, 1610, 0, 0, 0) := (zq191_7 82 (by decide)).trans rfl
theorem zk_191_1135 : zc 191 1135 = some (.aload_n 1, 0, 0, 0, 0) := (zq191_7 85 (by decide)).trans rfl
theorem zk_191_1136 : zc 191 1136 = some (.aload_n 0, 0, 0, 0, 0) := (zq191_7 86 (by decide)).trans rfl
theorem zk_191_1137 : zc 191 1137 = some (.iload_n 3, 0, 0, 0, 0) := (zq191_7 87 (by decide)).trans rfl
theorem zk_191_1138 : zc 191 1138 = some (.iconst 1, 0, 0, 0, 0) := (zq191_7 88 (by decide)).trans rfl
theorem zk_191_1139 : zc 191 1139 = some (.iadd, 0, 0, 0, 0) := (zq191_7 89 (by decide)).trans rfl
theorem zk_191_1140 : zc 191 1140 = some (.iaload, 0, 0, 0, 0) := (zq191_7 90 (by decide)).trans rfl
theorem zk_191_1141 : zc 191 1141 = some (.aload_n 0, 0, 0, 0, 0) := (zq191_7 91 (by decide)).trans rfl
theorem zk_191_1142 : zc 191 1142 = some (.iload_n 3, 0, 0, 0, 0) := (zq191_7 92 (by decide)).trans rfl
theorem zk_191_1143 : zc 191 1143 = some (.iconst 2, 0, 0, 0, 0) := (zq191_7 93 (by decide)).trans rfl
theorem zk_191_1144 : zc 191 1144 = some (.iadd, 0, 0, 0, 0) := (zq191_7 94 (by decide)).trans rfl
theorem zk_191_1145 : zc 191 1145 = some (.iaload, 0, 0, 0, 0) := (zq191_7 95 (by decide)).trans rfl
theorem zk_191_1146 : zc 191 1146 = some (.invokevirtual 116, 100, 0, 3, 204) := (zq191_7 96 (by decide)).trans rfl
theorem zk_191_1149 : zc 191 1149 = some (.pop, 0, 0, 0, 0) := (zq191_7 99 (by decide)).trans rfl
theorem zk_191_1150 : zc 191 1150 = some (.aload_n 2, 0, 0, 0, 0) := (zq191_7 100 (by decide)).trans rfl
theorem zk_191_1151 : zc 191 1151 = some (.aload_n 0, 0, 0, 0, 0) := (zq191_7 101 (by decide)).trans rfl
theorem zk_191_1152 : zc 191 1152 = some (.iload_n 3, 0, 0, 0, 0) := (zq191_7 102 (by decide)).trans rfl
theorem zk_191_1153 : zc 191 1153 = some (.iconst 1, 0, 0, 0, 0) := (zq191_7 103 (by decide)).trans rfl
theorem zk_191_1154 : zc 191 1154 = some (.iadd, 0, 0, 0, 0) := (zq191_7 104 (by decide)).trans rfl
theorem zk_191_1155 : zc 191 1155 = some (.iaload, 0, 0, 0, 0) := (zq191_7 105 (by decide)).trans rfl
theorem zk_191_1156 : zc 191 1156 = some (.aload_n 0, 0, 0, 0, 0) := (zq191_7 106 (by decide)).trans rfl
theorem zk_191_1157 : zc 191 1157 = some (.iload_n 3, 0, 0, 0, 0) := (zq191_7 107 (by decide)).trans rfl
theorem zk_191_1158 : zc 191 1158 = some (.iconst 2, 0, 0, 0, 0) := (zq191_7 108 (by decide)).trans rfl
theorem zk_191_1159 : zc 191 1159 = some (.iadd, 0, 0, 0, 0) := (zq191_7 109 (by decide)).trans rfl
theorem zk_191_1160 : zc 191 1160 = some (.iaload, 0, 0, 0, 0) := (zq191_7 110 (by decide)).trans rfl
theorem zk_191_1161 : zc 191 1161 = some (.invokevirtual 119, 166, 0, 3, 205) := (zq191_7 111 (by decide)).trans rfl
theorem zk_191_1164 : zc 191 1164 = some (.pop, 0, 0, 0, 0) := (zq191_7 114 (by decide)).trans rfl
theorem zk_191_1165 : zc 191 1165 = some (.goto 445, 1610, 0, 0, 0) := (zq191_7 115 (by decide)).trans rfl
theorem zk_191_1168 : zc 191 1168 = some (.aload_n 1, 0, 0, 0, 0) := (zq191_7 118 (by decide)).trans rfl
theorem zk_191_1169 : zc 191 1169 = some (.aload_n 0, 0, 0, 0, 0) := (zq191_7 119 (by decide)).trans rfl
theorem zk_191_1170 : zc 191 1170 = some (.iload_n 3, 0, 0, 0, 0) := (zq191_7 120 (by decide)).trans rfl
theorem zk_191_1171 : zc 191 1171 = some (.iconst 1, 0, 0, 0, 0) := (zq191_7 121 (by decide)).trans rfl
theorem zk_191_1172 : zc 191 1172 = some (.iadd, 0, 0, 0, 0) := (zq191_7 122 (by decide)).trans rfl
theorem zk_191_1173 : zc 191 1173 = some (.iaload, 0, 0, 0, 0) := (zq191_7 123 (by decide)).trans rfl
theorem zk_191_1174 : zc 191 1174 = some (.aload_n 0, 0, 0, 0, 0) := (zq191_7 124 (by decide)).trans rfl
theorem zk_191_1175 : zc 191 1175 = some (.iload_n 3, 0, 0, 0, 0) := (zq191_7 125 (by decide)).trans rfl
theorem zk_191_1176 : zc 191 1176 = some (.iconst 2, 0, 0, 0, 0) := (zq191_7 126 (by decide)).trans rfl
theorem zk_191_1177 : zc 191 1177 = some (.iadd, 0, 0, 0, 0) := (zq191_7 127 (by decide)).trans rfl
theorem zk_191_1178 : zc 191 1178 = some (.iaload, 0, 0, 0, 0) := (zq191_7 128 (by decide)).trans rfl
theorem zk_191_1179 : zc 191 1179 = some (.aload_n 0, 0, 0, 0, 0) := (zq191_7 129 (by decide)).trans rfl
theorem zk_191_1180 : zc 191 1180 = some (.iload_n 3, 0, 0, 0, 0) := (zq191_7 130 (by decide)).trans rfl
theorem zk_191_1181 : zc 191 1181 = some (.iconst 3, 0, 0, 0, 0) := (zq191_7 131 (by decide)).trans rfl
theorem zk_191_1182 : zc 191 1182 = some (.iadd, 0, 0, 0, 0) := (zq191_7 132 (by decide)).trans rfl
theorem zk_191_1183 : zc 191 1183 = some (.iaload, 0, 0, 0, 0) := (zq191_7 133 (by decide)).trans rfl
theorem zk_191_1184 : zc 191 1184 = some (.aload_n 0, 0, 0, 0, 0) := (zq191_7 134 (by decide)).trans rfl
theorem zk_191_1185 : zc 191 1185 = some (.iload_n 3, 0, 0, 0, 0) := (zq191_7 135 (by decide)).trans rfl
theorem zk_191_1186 : zc 191 1186 = some (.iconst 4, 0, 0, 0, 0) := (zq191_7 136 (by decide)).trans rfl
theorem zk_191_1187 : zc 191 1187 = some (.iadd, 0, 0, 0, 0) := (zq191_7 137 (by decide)).trans rfl
theorem zk_191_1188 : zc 191 1188 = some (.iaload, 0, 0, 0, 0) := (zq191_7 138 (by decide)).trans rfl
theorem zk_191_1189 : zc 191 1189 = some (.aload_n 0, 0, 0, 0, 0) := (zq191_7 139 (by decide)).trans rfl
theorem zk_191_1190 : zc 191 1190 = some (.iload_n 3, 0, 0, 0, 0) := (zq191_7 140 (by decide)).trans rfl
theorem zk_191_1191 : zc 191 1191 = some (.iconst 5, 0, 0, 0, 0) := (zq191_7 141 (by decide)).trans rfl
theorem zk_191_1192 : zc 191 1192 = some (.iadd, 0, 0, 0, 0) := (zq191_7 142 (by decide)).trans rfl
theorem zk_191_1193 : zc 191 1193 = some (.iaload, 0, 0, 0, 0) := (zq191_7 143 (by decide)).trans rfl
theorem zk_191_1194 : zc 191 1194 = some (.invokevirtual 120, 101, 0, 6, 206) := (zq191_7 144 (by decide)).trans rfl
theorem zk_191_1197 : zc 191 1197 = some (.pop, 0, 0, 0, 0) := (zq191_7 147 (by decide)).trans rfl
theorem zk_191_1198 : zc 191 1198 = some (.aload_n 2, 0, 0, 0, 0) := (zq191_7 148 (by decide)).trans rfl
theorem zk_191_1199 : zc 191 1199 = some (.aload_n 0, 0, 0, 0, 0) := (zq191_7 149 (by decide)).trans rfl
theorem zk_191_1200 : zc 191 1200 = some (.iload_n 3, 0, 0, 0, 0) := (zq191_8 0 (by decide)).trans rfl
theorem zk_191_1201 : zc 191 1201 = some (.iconst 1, 0, 0, 0, 0) := (zq191_8 1 (by decide)).trans rfl
theorem zk_191_1202 : zc 191 1202 = some (.iadd, 0, 0, 0, 0) := (zq191_8 2 (by decide)).trans rfl
theorem zk_191_1203 : zc 191 1203 = some (.iaload, 0, 0, 0, 0) := (zq191_8 3 (by decide)).trans rfl
theorem zk_191_1204 : zc 191 1204 = some (.aload_n 0, 0, 0, 0, 0) := (zq191_8 4 (by decide)).trans rfl
theorem zk_191_1205 : zc 191 1205 = some (.iload_n 3, 0, 0, 0, 0) := (zq191_8 5 (by decide)).trans rfl
theorem zk_191_1206 : zc 191 1206 = some (.iconst 2, 0, 0, 0, 0) := (zq191_8 6 (by decide)).trans rfl
theorem zk_191_1207 : zc 191 1207 = some (.iadd, 0, 0, 0, 0) := (zq191_8 7 (by decide)).trans rfl
theorem zk_191_1208 : zc 191 1208 = some (.iaload, 0, 0, 0, 0) := (zq191_8 8 (by decide)).trans rfl
theorem zk_191_1209 : zc 191 1209 = some (.aload_n 0, 0, 0, 0, 0) := (zq191_8 9 (by decide)).trans rfl
theorem zk_191_1210 : zc 191 1210 = some (.iload_n 3, 0, 0, 0, 0) := (zq191_8 10 (by decide)).trans rfl
theorem zk_191_1211 : zc 191 1211 = some (.iconst 3, 0, 0, 0, 0) := (zq191_8 11 (by decide)).trans rfl
theorem zk_191_1212 : zc 191 1212 = some (.iadd, 0, 0, 0, 0) := (zq191_8 12 (by decide)).trans rfl
theorem zk_191_1213 : zc 191 1213 = some (.iaload, 0, 0, 0, 0) := (zq191_8 13 (by decide)).trans rfl
theorem zk_191_1214 : zc 191 1214 = some (.aload_n 0, 0, 0, 0, 0) := (zq191_8 14 (by decide)).trans rfl
theorem zk_191_1215 : zc 191 1215 = some (.iload_n 3, 0, 0, 0, 0) := (zq191_8 15 (by decide)).trans rfl
theorem zk_191_1216 : zc 191 1216 = some (.iconst 4, 0, 0, 0, 0) := (zq191_8 16 (by decide)).trans rfl
theorem zk_191_1217 : zc 191 1217 = some (.iadd, 0, 0, 0, 0) := (zq191_8 17 (by decide)).trans rfl
theorem zk_191_1218 : zc 191 1218 = some (.iaload, 0, 0, 0, 0) := (zq191_8 18 (by decide)).trans rfl
theorem zk_191_1219 : zc 191 1219 = some (.aload_n 0, 0, 0, 0, 0) := (zq191_8 19 (by decide)).trans rfl
theorem zk_191_1220 : zc 191 1220 = some (.iload_n 3, 0, 0, 0, 0) := (zq191_8 20 (by decide)).trans rfl
theorem zk_191_1221 : zc 191 1221 = some (.iconst 5, 0, 0, 0, 0) := (zq191_8 21 (by decide)).trans rfl
theorem zk_191_1222 : zc 191 1222 = some (.iadd, 0, 0, 0, 0) := (zq191_8 22 (by decide)).trans rfl
theorem zk_191_1223 : zc 191 1223 = some (.iaload, 0, 0, 0, 0) := (zq191_8 23 (by decide)).trans rfl
theorem zk_191_1224 : zc 191 1224 = some (.invokevirtual 123, 168, 0, 6, 207) := (zq191_8 24 (by decide)).trans rfl
theorem zk_191_1227 : zc 191 1227 = some (.pop, 0, 0, 0, 0) := (zq191_8 27 (by decide)).trans rfl
theorem zk_191_1228 : zc 191 1228 = some (.goto 382, 1610, 0, 0, 0) := (zq191_8 28 (by decide)).trans rfl
theorem zk_191_1231 : zc 191 1231 = some (.aload_n 1, 0, 0, 0, 0) := (zq191_8 31 (by decide)).trans rfl
theorem zk_191_1232 : zc 191 1232 = some (.aload_n 0, 0, 0, 0, 0) := (zq191_8 32 (by decide)).trans rfl
theorem zk_191_1233 : zc 191 1233 = some (.iload_n 3, 0, 0, 0, 0) := (zq191_8 33 (by decide)).trans rfl
theorem zk_191_1234 : zc 191 1234 = some (.iconst 1, 0, 0, 0, 0) := (zq191_8 34 (by decide)).trans rfl
theorem zk_191_1235 : zc 191 1235 = some (.iadd, 0, 0, 0, 0) := (zq191_8 35 (by decide)).trans rfl
theorem zk_191_1236 : zc 191 1236 = some (.iaload, 0, 0, 0, 0) := (zq191_8 36 (by decide)).trans rfl
theorem zk_191_1237 : zc 191 1237 = some (.aload_n 0, 0, 0, 0, 0) := (zq191_8 37 (by decide)).trans rfl
theorem zk_191_1238 : zc 191 1238 = some (.iload_n 3, 0, 0, 0, 0) := (zq191_8 38 (by decide)).trans rfl
theorem zk_191_1239 : zc 191 1239 = some (.iconst 2, 0, 0, 0, 0) := (zq191_8 39 (by decide)).trans rfl
theorem zk_191_1240 : zc 191 1240 = some (.iadd, 0, 0, 0, 0) := (zq191_8 40 (by decide)).trans rfl
theorem zk_191_1241 : zc 191 1241 = some (.iaload, 0, 0, 0, 0) := (zq191_8 41 (by decide)).trans rfl
theorem zk_191_1242 : zc 191 1242 = some (.invokevirtual 124, 102, 0, 3, 208) := (zq191_8 42 (by decide)).trans rfl
theorem zk_191_1245 : zc 191 1245 = some (.pop, 0, 0, 0, 0) := (zq191_8 45 (by decide)).trans rfl
theorem zk_191_1246 : zc 191 1246 = some (.aload_n 2, 0, 0, 0, 0) := (zq191_8 46 (by decide)).trans rfl
theorem zk_191_1247 : zc 191 1247 = some (.aload_n 0, 0, 0, 0, 0) := (zq191_8 47 (by decide)).trans rfl
theorem zk_191_1248 : zc 191 1248 = some (.iload_n 3, 0, 0, 0, 0) := (zq191_8 48 (by decide)).trans rfl
theorem zk_191_1249 : zc 191 1249 = some (.iconst 1, 0, 0, 0, 0) := (zq191_8 49 (by decide)).trans rfl
theorem zk_191_1250 : zc 191 1250 = some (.iadd, 0, 0, 0, 0) := (zq191_8 50 (by decide)).trans rfl
theorem zk_191_1251 : zc 191 1251 = some (.iaload, 0, 0, 0, 0) := (zq191_8 51 (by decide)).trans rfl
theorem zk_191_1252 : zc 191 1252 = some (.aload_n 0, 0, 0, 0, 0) := (zq191_8 52 (by decide)).trans rfl
theorem zk_191_1253 : zc 191 1253 = some (.iload_n 3, 0, 0, 0, 0) := (zq191_8 53 (by decide)).trans rfl
theorem zk_191_1254 : zc 191 1254 = some (.iconst 2, 0, 0, 0, 0) := (zq191_8 54 (by decide)).trans rfl
theorem zk_191_1255 : zc 191 1255 = some (.iadd, 0, 0, 0, 0) := (zq191_8 55 (by decide)).trans rfl
theorem zk_191_1256 : zc 191 1256 = some (.iaload, 0, 0, 0, 0) := (zq191_8 56 (by decide)).trans rfl
theorem zk_191_1257 : zc 191 1257 = some (.invokevirtual 127, 169, 0, 3, 209) := (zq191_8 57 (by decide)).trans rfl
theorem zk_191_1260 : zc 191 1260 = some (.pop, 0, 0, 0, 0) := (zq191_8 60 (by decide)).trans rfl
theorem zk_191_1261 : zc 191 1261 = some (.goto 349, 1610, 0, 0, 0) := (zq191_8 61 (by decide)).trans rfl
theorem zk_191_1264 : zc 191 1264 = some (.aload_n 1, 0, 0, 0, 0) := (zq191_8 64 (by decide)).trans rfl
theorem zk_191_1265 : zc 191 1265 = some (.aload_n 0, 0, 0, 0, 0) := (zq191_8 65 (by decide)).trans rfl
theorem zk_191_1266 : zc 191 1266 = some (.iload_n 3, 0, 0, 0, 0) := (zq191_8 66 (by decide)).trans rfl
theorem zk_191_1267 : zc 191 1267 = some (.iconst 1, 0, 0, 0, 0) := (zq191_8 67 (by decide)).trans rfl
theorem zk_191_1268 : zc 191 1268 = some (.iadd, 0, 0, 0, 0) := (zq191_8 68 (by decide)).trans rfl
theorem zk_191_1269 : zc 191 1269 = some (.iaload, 0, 0, 0, 0) := (zq191_8 69 (by decide)).trans rfl
theorem zk_191_1270 : zc 191 1270 = some (.invokevirtual 128, 103, 0, 2, 210) := (zq191_8 70 (by decide)).trans rfl
theorem zk_191_1273 : zc 191 1273 = some (.pop, 0, 0, 0, 0) := (zq191_8 73 (by decide)).trans rfl
theorem zk_191_1274 : zc 191 1274 = some (.aload_n 2, 0, 0, 0, 0) := (zq191_8 74 (by decide)).trans rfl
theorem zk_191_1275 : zc 191 1275 = some (.aload_n 0, 0, 0, 0, 0) := (zq191_8 75 (by decide)).trans rfl
theorem zk_191_1276 : zc 191 1276 = some (.iload_n 3, 0, 0, 0, 0) := (zq191_8 76 (by decide)).trans rfl
theorem zk_191_1277 : zc 191 1277 = some (.iconst 1, 0, 0, 0, 0) := (zq191_8 77 (by decide)).trans rfl
theorem zk_191_1278 : zc 191 1278 = some (.iadd, 0, 0, 0, 0) := (zq191_8 78 (by decide)).trans rfl
theorem zk_191_1279 : zc 191 1279 = some (.iaload, 0, 0, 0, 0) := (zq191_8 79 (by decide)).trans rfl
theorem zk_191_1280 : zc 191 1280 = some (.invokevirtual 131, 173, 0, 2, 211) := (zq191_8 80 (by decide)).trans rfl
theorem zk_191_1283 : zc 191 1283 = some (.pop, 0, 0, 0, 0) := (zq191_8 83 (by decide)).trans rfl
theorem zk_191_1284 : zc 191 1284 = some (.goto 326, 1610, 0, 0, 0) := (zq191_8 84 (by decide)).trans rfl
theorem zk_191_1287 : zc 191 1287 = some (.aload_n 1, 0, 0, 0, 0) := (zq191_8 87 (by decide)).trans rfl
theorem zk_191_1288 : zc 191 1288 = some (.aload_n 0, 0, 0, 0, 0) := (zq191_8 88 (by decide)).trans rfl
theorem zk_191_1289 : zc 191 1289 = some (.iload_n 3, 0, 0, 0, 0) := (zq191_8 89 (by decide)).trans rfl
theorem zk_191_1290 : zc 191 1290 = some (.iconst 1, 0, 0, 0, 0) := (zq191_8 90 (by decide)).trans rfl
theorem zk_191_1291 : zc 191 1291 = some (.iadd, 0, 0, 0, 0) := (zq191_8 91 (by decide)).trans rfl
theorem zk_191_1292 : zc 191 1292 = some (.iaload, 0, 0, 0, 0) := (zq191_8 92 (by decide)).trans rfl
theorem zk_191_1293 : zc 191 1293 = some (.aload_n 0, 0, 0, 0, 0) := (zq191_8 93 (by decide)).trans rfl
theorem zk_191_1294 : zc 191 1294 = some (.iload_n 3, 0, 0, 0, 0) := (zq191_8 94 (by decide)).trans rfl
theorem zk_191_1295 : zc 191 1295 = some (.iconst 2, 0, 0, 0, 0) := (zq191_8 95 (by decide)).trans rfl
theorem zk_191_1296 : zc 191 1296 = some (.iadd, 0, 0, 0, 0) := (zq191_8 96 (by decide)).trans rfl
theorem zk_191_1297 : zc 191 1297 = some (.iaload, 0, 0, 0, 0) := (zq191_8 97 (by decide)).trans rfl
theorem zk_191_1298 : zc 191 1298 = some (.aload_n 0, 0, 0, 0, 0) := (zq191_8 98 (by decide)).trans rfl
theorem zk_191_1299 : zc 191 1299 = some (.iload_n 3, 0, 0, 0, 0) := (zq191_8 99 (by decide)).trans rfl
theorem zk_191_1300 : zc 191 1300 = some (.iconst 3, 0, 0, 0, 0) := (zq191_8 100 (by decide)).trans rfl
theorem zk_191_1301 : zc 191 1301 = some (.iadd, 0, 0, 0, 0) := (zq191_8 101 (by decide)).trans rfl
theorem zk_191_1302 : zc 191 1302 = some (.iaload, 0, 0, 0, 0) := (zq191_8 102 (by decide)).trans rfl
theorem zk_191_1303 : zc 191 1303 = some (.invokevirtual 132, 104, 0, 4, 212) := (zq191_8 103 (by decide)).trans rfl
theorem zk_191_1306 : zc 191 1306 = some (.pop, 0, 0, 0, 0) := (zq191_8 106 (by decide)).trans rfl
theorem zk_191_1307 : zc 191 1307 = some (.aload_n 2, 0, 0, 0, 0) := (zq191_8 107 (by decide)).trans rfl
theorem zk_191_1308 : zc 191 1308 = some (.aload_n 0, 0, 0, 0, 0) := (zq191_8 108 (by decide)).trans rfl
theorem zk_191_1309 : zc 191 1309 = some (.iload_n 3, 0, 0, 0, 0) := (zq191_8 109 (by decide)).trans rfl
theorem zk_191_1310 : zc 191 1310 = some (.iconst 1, 0, 0, 0, 0) := (zq191_8 110 (by decide)).trans rfl
theorem zk_191_1311 : zc 191 1311 = some (.iadd, 0, 0, 0, 0) := (zq191_8 111 (by decide)).trans rfl
theorem zk_191_1312 : zc 191 1312 = some (.iaload, 0, 0, 0, 0) := (zq191_8 112 (by decide)).trans rfl
theorem zk_191_1313 : zc 191 1313 = some (.aload_n 0, 0, 0, 0, 0) := (zq191_8 113 (by decide)).trans rfl
theorem zk_191_1314 : zc 191 1314 = some (.iload_n 3, 0, 0, 0, 0) := (zq191_8 114 (by decide)).trans rfl
theorem zk_191_1315 : zc 191 1315 = some (.iconst 2, 0, 0, 0, 0) := (zq191_8 115 (by decide)).trans rfl
theorem zk_191_1316 : zc 191 1316 = some (.iadd, 0, 0, 0, 0) := (zq191_8 116 (by decide)).trans rfl
theorem zk_191_1317 : zc 191 1317 = some (.iaload, 0, 0, 0, 0) := (zq191_8 117 (by decide)).trans rfl
theorem zk_191_1318 : zc 191 1318 = some (.aload_n 0, 0, 0, 0, 0) := (zq191_8 118 (by decide)).trans rfl
theorem zk_191_1319 : zc 191 1319 = some (.iload_n 3, 0, 0, 0, 0) := (zq191_8 119 (by decide)).trans rfl
theorem zk_191_1320 : zc 191 1320 = some (.iconst 3, 0, 0, 0, 0) := (zq191_8 120 (by decide)).trans rfl
theorem zk_191_1321 : zc 191 1321 = some (.iadd, 0, 0, 0, 0) := (zq191_8 121 (by decide)).trans rfl
theorem zk_191_1322 : zc 191 1322 = some (.iaload, 0, 0, 0, 0) := (zq191_8 122 (by decide)).trans rfl
theorem zk_191_1323 : zc 191 1323 = some (.invokevirtual 135, 180, 0, 4, 213) := (zq191_8 123 (by decide)).trans rfl
theorem zk_191_1326 : zc 191 1326 = some (.pop, 0, 0, 0, 0) := (zq191_8 126 (by decide)).trans rfl
theorem zk_191_1327 : zc 191 1327 = some (.goto 283, 1610, 0, 0, 0) := (zq191_8 127 (by decide)).trans rfl
theorem zk_191_1330 : zc 191 1330 = some (.aload_n 1, 0, 0, 0, 0) := (zq191_8 130 (by decide)).trans rfl
theorem zk_191_1331 : zc 191 1331 = some (.aload_n 0, 0, 0, 0, 0) := (zq191_8 131 (by decide)).trans rfl
theorem zk_191_1332 : zc 191 1332 = some (.iload_n 3, 0, 0, 0, 0) := (zq191_8 132 (by decide)).trans rfl
theorem zk_191_1333 : zc 191 1333 = some (.iconst 1, 0, 0, 0, 0) := (zq191_8 133 (by decide)).trans rfl
theorem zk_191_1334 : zc 191 1334 = some (.iadd, 0, 0, 0, 0) := (zq191_8 134 (by decide)).trans rfl
theorem zk_191_1335 : zc 191 1335 = some (.iaload, 0, 0, 0, 0) := (zq191_8 135 (by decide)).trans rfl
theorem zk_191_1336 : zc 191 1336 = some (.aload_n 0, 0, 0, 0, 0) := (zq191_8 136 (by decide)).trans rfl
theorem zk_191_1337 : zc 191 1337 = some (.iload_n 3, 0, 0, 0, 0) := (zq191_8 137 (by decide)).trans rfl
theorem zk_191_1338 : zc 191 1338 = some (.iconst 2, 0, 0, 0, 0) := (zq191_8 138 (by decide)).trans rfl
theorem zk_191_1339 : zc 191 1339 = some (.iadd, 0, 0, 0, 0) := (zq191_8 139 (by decide)).trans rfl
theorem zk_191_1340 : zc 191 1340 = some (.iaload, 0, 0, 0, 0) := (zq191_8 140 (by decide)).trans rfl
theorem zk_191_1341 : zc 191 1341 = some (.invokevirtual 136, 105, 0, 3, 214) := (zq191_8 141 (by decide)).trans rfl
theorem zk_191_1344 : zc 191 1344 = some (.pop, 0, 0, 0, 0) := (zq191_8 144 (by decide)).trans rfl
theorem zk_191_1345 : zc 191 1345 = some (.aload_n 2, 0, 0, 0, 0) := (zq191_8 145 (by decide)).trans rfl
theorem zk_191_1346 : zc 191 1346 = some (.aload_n 0, 0, 0, 0, 0) := (zq191_8 146 (by decide)).trans rfl
theorem zk_191_1347 : zc 191 1347 = some (.iload_n 3, 0, 0, 0, 0) := (zq191_8 147 (by decide)).trans rfl
theorem zk_191_1348 : zc 191 1348 = some (.iconst 1, 0, 0, 0, 0) := (zq191_8 148 (by decide)).trans rfl
theorem zk_191_1349 : zc 191 1349 = some (.iadd, 0, 0, 0, 0) := (zq191_8 149 (by decide)).trans rfl
theorem zk_191_1350 : zc 191 1350 = some (.iaload, 0, 0, 0, 0) := (zq191_9 0 (by decide)).trans rfl
theorem zk_191_1351 : zc 191 1351 = some (.aload_n 0, 0, 0, 0, 0) := (zq191_9 1 (by decide)).trans rfl
theorem zk_191_1352 : zc 191 1352 = some (.iload_n 3, 0, 0, 0, 0) := (zq191_9 2 (by decide)).trans rfl
theorem zk_191_1353 : zc 191 1353 = some (.iconst 2, 0, 0, 0, 0) := (zq191_9 3 (by decide)).trans rfl
theorem zk_191_1354 : zc 191 1354 = some (.iadd, 0, 0, 0, 0) := (zq191_9 4 (by decide)).trans rfl
theorem zk_191_1355 : zc 191 1355 = some (.iaload, 0, 0, 0, 0) := (zq191_9 5 (by decide)).trans rfl
theorem zk_191_1356 : zc 191 1356 = some (.invokevirtual 139, 174, 0, 3, 215) := (zq191_9 6 (by decide)).trans rfl
theorem zk_191_1359 : zc 191 1359 = some (.pop, 0, 0, 0, 0) := (zq191_9 9 (by decide)).trans rfl
theorem zk_191_1360 : zc 191 1360 = some (.goto 250, 1610, 0, 0, 0) := (zq191_9 10 (by decide)).trans rfl
theorem zk_191_1363 : zc 191 1363 = some (.aload_n 1, 0, 0, 0, 0) := (zq191_9 13 (by decide)).trans rfl
theorem zk_191_1364 : zc 191 1364 = some (.aload_n 0, 0, 0, 0, 0) := (zq191_9 14 (by decide)).trans rfl
theorem zk_191_1365 : zc 191 1365 = some (.iload_n 3, 0, 0, 0, 0) := (zq191_9 15 (by decide)).trans rfl
theorem zk_191_1366 : zc 191 1366 = some (.iconst 1, 0, 0, 0, 0) := (zq191_9 16 (by decide)).trans rfl
theorem zk_191_1367 : zc 191 1367 = some (.iadd, 0, 0, 0, 0) := (zq191_9 17 (by decide)).trans rfl
theorem zk_191_1368 : zc 191 1368 = some (.iaload, 0, 0, 0, 0) := (zq191_9 18 (by decide)).trans rfl
theorem zk_191_1369 : zc 191 1369 = some (.invokevirtual 140, 106, 0, 2, 216) := (zq191_9 19 (by decide)).trans rfl
theorem zk_191_1372 : zc 191 1372 = some (.pop, 0, 0, 0, 0) := (zq191_9 22 (by decide)).trans rfl
theorem zk_191_1373 : zc 191 1373 = some (.aload_n 2, 0, 0, 0, 0) := (zq191_9 23 (by decide)).trans rfl
theorem zk_191_1374 : zc 191 1374 = some (.aload_n 0, 0, 0, 0, 0) := (zq191_9 24 (by decide)).trans rfl
theorem zk_191_1375 : zc 191 1375 = some (.iload_n 3, 0, 0, 0, 0) := (zq191_9 25 (by decide)).trans rfl
theorem zk_191_1376 : zc 191 1376 = some (.iconst 1, 0, 0, 0, 0) := (zq191_9 26 (by decide)).trans rfl
theorem zk_191_1377 : zc 191 1377 = some (.iadd, 0, 0, 0, 0) := (zq191_9 27 (by decide)).trans rfl
theorem zk_191_1378 : zc 191 1378 = some (.iaload, 0, 0, 0, 0) := (zq191_9 28 (by decide)).trans rfl
theorem zk_191_1379 : zc 191 1379 = some (.invokevirtual 143, 178, 0, 2, 217) := (zq191_9 29 (by decide)).trans rfl
theorem zk_191_1382 : zc 191 1382 = some (.pop, 0, 0, 0, 0) := (zq191_9 32 (by decide)).trans rfl
theorem zk_191_1383 : zc 191 1383 = some (.goto 227, 1610, 0, 0, 0) := (zq191_9 33 (by decide)).trans rfl
theorem zk_191_1386 : zc 191 1386 = some (.aload_n 1, 0, 0, 0, 0) := (zq191_9 36 (by decide)).trans rfl
theorem zk_191_1387 : zc 191 1387 = some (.aload_n 0, 0, 0, 0, 0) := (zq191_9 37 (by decide)).trans rfl
theorem zk_191_1388 : zc 191 1388 = some (.iload_n 3, 0, 0, 0, 0) := (zq191_9 38 (by decide)).trans rfl
theorem zk_191_1389 : zc 191 1389 = some (.iconst 1, 0, 0, 0, 0) := (zq191_9 39 (by decide)).trans rfl
theorem zk_191_1390 : zc 191 1390 = some (.iadd, 0, 0, 0, 0) := (zq191_9 40 (by decide)).trans rfl
theorem zk_191_1391 : zc 191 1391 = some (.iaload, 0, 0, 0, 0) := (zq191_9 41 (by decide)).trans rfl
theorem zk_191_1392 : zc 191 1392 = some (.aload_n 0, 0, 0, 0, 0) := (zq191_9 42 (by decide)).trans rfl
theorem zk_191_1393 : zc 191 1393 = some (.iload_n 3, 0, 0, 0, 0) := (zq191_9 43 (by decide)).trans rfl
theorem zk_191_1394 : zc 191 1394 = some (.iconst 2, 0, 0, 0, 0) := (zq191_9 44 (by decide)).trans rfl
theorem zk_191_1395 : zc 191 1395 = some (.iadd, 0, 0, 0, 0) := (zq191_9 45 (by decide)).trans rfl
theorem zk_191_1396 : zc 191 1396 = some (.iaload, 0, 0, 0, 0) := (zq191_9 46 (by decide)).trans rfl
theorem zk_191_1397 : zc 191 1397 = some (.invokevirtual 144, 107, 0, 3, 218) := (zq191_9 47 (by decide)).trans rfl
theorem zk_191_1400 : zc 191 1400 = some (.pop, 0, 0, 0, 0) := (zq191_9 50 (by decide)).trans rfl
theorem zk_191_1401 : zc 191 1401 = some (.aload_n 2, 0, 0, 0, 0) := (zq191_9 51 (by decide)).trans rfl
theorem zk_191_1402 : zc 191 1402 = some (.aload_n 0, 0, 0, 0, 0) := (zq191_9 52 (by decide)).trans rfl
theorem zk_191_1403 : zc 191 1403 = some (.iload_n 3, 0, 0, 0, 0) := (zq191_9 53 (by decide)).trans rfl
theorem zk_191_1404 : zc 191 1404 = some (.iconst 1, 0, 0, 0, 0) := (zq191_9 54 (by decide)).trans rfl
theorem zk_191_1405 : zc 191 1405 = some (.iadd, 0, 0, 0, 0) := (zq191_9 55 (by decide)).trans rfl
theorem zk_191_1406 : zc 191 1406 = some (.iaload, 0, 0, 0, 0) := (zq191_9 56 (by decide)).trans rfl
theorem zk_191_1407 : zc 191 1407 = some (.aload_n 0, 0, 0, 0, 0) := (zq191_9 57 (by decide)).trans rfl
theorem zk_191_1408 : zc 191 1408 = some (.iload_n 3, 0, 0, 0, 0) := (zq191_9 58 (by decide)).trans rfl
theorem zk_191_1409 : zc 191 1409 = some (.iconst 2, 0, 0, 0, 0) := (zq191_9 59 (by decide)).trans rfl
theorem zk_191_1410 : zc 191 1410 = some (.iadd, 0, 0, 0, 0) := (zq191_9 60 (by decide)).trans rfl
theorem zk_191_1411 : zc 191 1411 = some (.iaload, 0, 0, 0, 0) := (zq191_9 61 (by decide)).trans rfl
theorem zk_191_1412 : zc 191 1412 = some (.invokevirtual 147, 181, 0, 3, 219) := (zq191_9 62 (by decide)).trans rfl
theorem zk_191_1415 : zc 191 1415 = some (.pop, 0, 0, 0, 0) := (zq191_9 65 (by decide)).trans rfl
theorem zk_191_1416 : zc 191 1416 = some (.goto 194, 1610, 0, 0, 0) := (zq191_9 66 (by decide)).trans rfl
theorem zk_191_1419 : zc 191 1419 = some (.aload_n 1, 0, 0, 0, 0) := (zq191_9 69 (by decide)).trans rfl
theorem zk_191_1420 : zc 191 1420 = some (.aload_n 0, 0, 0, 0, 0) := (zq191_9 70 (by decide)).trans rfl
theorem zk_191_1421 : zc 191 1421 = some (.iload_n 3, 0, 0, 0, 0) := (zq191_9 71 (by decide)).trans rfl
theorem zk_191_1422 : zc 191 1422 = some (.iconst 1, 0, 0, 0, 0) := (zq191_9 72 (by decide)).trans rfl
theorem zk_191_1423 : zc 191 1423 = some (.iadd, 0, 0, 0, 0) := (zq191_9 73 (by decide)).trans rfl
theorem zk_191_1424 : zc 191 1424 = some (.iaload, 0, 0, 0, 0) := (zq191_9 74 (by decide)).trans rfl
theorem zk_191_1425 : zc 191 1425 = some (.aload_n 0, 0, 0, 0, 0) := (zq191_9 75 (by decide)).trans rfl
theorem zk_191_1426 : zc 191 1426 = some (.iload_n 3, 0, 0, 0, 0) := (zq191_9 76 (by decide)).trans rfl
theorem zk_191_1427 : zc 191 1427 = some (.iconst 2, 0, 0, 0, 0) := (zq191_9 77 (by decide)).trans rfl
theorem zk_191_1428 : zc 191 1428 = some (.iadd, 0, 0, 0, 0) := (zq191_9 78 (by decide)).trans rfl
theorem zk_191_1429 : zc 191 1429 = some (.iaload, 0, 0, 0, 0) := (zq191_9 79 (by decide)).trans rfl
theorem zk_191_1430 : zc 191 1430 = some (.invokevirtual 148, 97, 0, 3, 220) := (zq191_9 80 (by decide)).trans rfl
theorem zk_191_1433 : zc 191 1433 = some (.pop, 0, 0, 0, 0) := (zq191_9 83 (by decide)).trans rfl
theorem zk_191_1434 : zc 191 1434 = some (.aload_n 2, 0, 0, 0, 0) := (zq191_9 84 (by decide)).trans rfl
theorem zk_191_1435 : zc 191 1435 = some (.aload_n 0, 0, 0, 0, 0) := (zq191_9 85 (by decide)).trans rfl
theorem zk_191_1436 : zc 191 1436 = some (.iload_n 3, 0, 0, 0, 0) := (zq191_9 86 (by decide)).trans rfl
theorem zk_191_1437 : zc 191 1437 = some (.iconst 1, 0, 0, 0, 0) := (zq191_9 87 (by decide)).trans rfl
theorem zk_191_1438 : zc 191 1438 = some (.iadd, 0, 0, 0, 0) := (zq191_9 88 (by decide)).trans rfl
theorem zk_191_1439 : zc 191 1439 = some (.iaload, 0, 0, 0, 0) := (zq191_9 89 (by decide)).trans rfl
theorem zk_191_1440 : zc 191 1440 = some (.aload_n 0, 0, 0, 0, 0) := (zq191_9 90 (by decide)).trans rfl
theorem zk_191_1441 : zc 191 1441 = some (.iload_n 3, 0, 0, 0, 0) := (zq191_9 91 (by decide)).trans rfl
theorem zk_191_1442 : zc 191 1442 = some (.iconst 2, 0, 0, 0, 0) := (zq191_9 92 (by decide)).trans rfl
theorem zk_191_1443 : zc 191 1443 = some (.iadd, 0, 0, 0, 0) := (zq191_9 93 (by decide)).trans rfl
theorem zk_191_1444 : zc 191 1444 = some (.iaload, 0, 0, 0, 0) := (zq191_9 94 (by decide)).trans rfl
theorem zk_191_1445 : zc 191 1445 = some (.invokevirtual 151, 182, 0, 3, 221) := (zq191_9 95 (by decide)).trans rfl
theorem zk_191_1448 : zc 191 1448 = some (.pop, 0, 0, 0, 0) := (zq191_9 98 (by decide)).trans rfl
theorem zk_191_1449 : zc 191 1449 = some (.goto 161, 1610, 0, 0, 0) := (zq191_9 99 (by decide)).trans rfl
theorem zk_191_1452 : zc 191 1452 = some (.aload_n 1, 0, 0, 0, 0) := (zq191_9 102 (by decide)).trans rfl
theorem zk_191_1453 : zc 191 1453 = some (.aload_n 0, 0, 0, 0, 0) := (zq191_9 103 (by decide)).trans rfl
theorem zk_191_1454 : zc 191 1454 = some (.iload_n 3, 0, 0, 0, 0) := (zq191_9 104 (by decide)).trans rfl
theorem zk_191_1455 : zc 191 1455 = some (.iconst 1, 0, 0, 0, 0) := (zq191_9 105 (by decide)).trans rfl
theorem zk_191_1456 : zc 191 1456 = some (.iadd, 0, 0, 0, 0) := (zq191_9 106 (by decide)).trans rfl
theorem zk_191_1457 : zc 191 1457 = some (.iaload, 0, 0, 0, 0) := (zq191_9 107 (by decide)).trans rfl
theorem zk_191_1458 : zc 191 1458 = some (.aload_n 0, 0, 0, 0, 0) := (zq191_9 108 (by decide)).trans rfl
theorem zk_191_1459 : zc 191 1459 = some (.iload_n 3, 0, 0, 0, 0) := (zq191_9 109 (by decide)).trans rfl
theorem zk_191_1460 : zc 191 1460 = some (.iconst 2, 0, 0, 0, 0) := (zq191_9 110 (by decide)).trans rfl
theorem zk_191_1461 : zc 191 1461 = some (.iadd, 0, 0, 0, 0) := (zq191_9 111 (by decide)).trans rfl
theorem zk_191_1462 : zc 191 1462 = some (.iaload, 0, 0, 0, 0) := (zq191_9 112 (by decide)).trans rfl
theorem zk_191_1463 : zc 191 1463 = some (.invokevirtual 152, 80, 0, 3, 222) := (zq191_9 113 (by decide)).trans rfl
theorem zk_191_1466 : zc 191 1466 = some (.pop, 0, 0, 0, 0) := (zq191_9 116 (by decide)).trans rfl
theorem zk_191_1467 : zc 191 1467 = some (.aload_n 2, 0, 0, 0, 0) := (zq191_9 117 (by decide)).trans rfl
theorem zk_191_1468 : zc 191 1468 = some (.aload_n 0, 0, 0, 0, 0) := (zq191_9 118 (by decide)).trans rfl
theorem zk_191_1469 : zc 191 1469 = some (.iload_n 3, 0, 0, 0, 0) := (zq191_9 119 (by decide)).trans rfl
theorem zk_191_1470 : zc 191 1470 = some (.iconst 1, 0, 0, 0, 0) := (zq191_9 120 (by decide)).trans rfl
theorem zk_191_1471 : zc 191 1471 = some (.iadd, 0, 0, 0, 0) := (zq191_9 121 (by decide)).trans rfl
theorem zk_191_1472 : zc 191 1472 = some (.iaload, 0, 0, 0, 0) := (zq191_9 122 (by decide)).trans rfl
theorem zk_191_1473 : zc 191 1473 = some (.aload_n 0, 0, 0, 0, 0) := (zq191_9 123 (by decide)).trans rfl
theorem zk_191_1474 : zc 191 1474 = some (.iload_n 3, 0, 0, 0, 0) := (zq191_9 124 (by decide)).trans rfl
theorem zk_191_1475 : zc 191 1475 = some (.iconst 2, 0, 0, 0, 0) := (zq191_9 125 (by decide)).trans rfl
theorem zk_191_1476 : zc 191 1476 = some (.iadd, 0, 0, 0, 0) := (zq191_9 126 (by decide)).trans rfl
theorem zk_191_1477 : zc 191 1477 = some (.iaload, 0, 0, 0, 0) := (zq191_9 127 (by decide)).trans rfl
theorem zk_191_1478 : zc 191 1478 = some (.invokevirtual 155, 183, 0, 3, 223) := (zq191_9 128 (by decide)).trans rfl
theorem zk_191_1481 : zc 191 1481 = some (.pop, 0, 0, 0, 0) := (zq191_9 131 (by decide)).trans rfl
theorem zk_191_1482 : zc 191 1482 = some (.goto 128, 1610, 0, 0, 0) := (zq191_9 132 (by decide)).trans rfl
theorem zk_191_1485 : zc 191 1485 = some (.aload_n 1, 0, 0, 0, 0) := (zq191_9 135 (by decide)).trans rfl
theorem zk_191_1486 : zc 191 1486 = some (.invokevirtual 156, 108, 0, 1, 224) := (zq191_9 136 (by decide)).trans rfl
theorem zk_191_1489 : zc 191 1489 = some (.pop, 0, 0, 0, 0) := (zq191_9 139 (by decide)).trans rfl
theorem zk_191_1490 : zc 191 1490 = some (.aload_n 2, 0, 0, 0, 0) := (zq191_9 140 (by decide)).trans rfl
theorem zk_191_1491 : zc 191 1491 = some (.invokevirtual 159, 184, 0, 1, 225) := (zq191_9 141 (by decide)).trans rfl
theorem zk_191_1494 : zc 191 1494 = some (.pop, 0, 0, 0, 0) := (zq191_9 144 (by decide)).trans rfl
theorem zk_191_1495 : zc 191 1495 = some (.goto 115, 1610, 0, 0, 0) := (zq191_9 145 (by decide)).trans rfl
theorem zk_191_1498 : zc 191 1498 = some (.aload_n 1, 0, 0, 0, 0) := (zq191_9 148 (by decide)).trans rfl
theorem zk_191_1499 : zc 191 1499 = some (.invokevirtual 160, 109, 0, 1, 226) := (zq191_9 149 (by decide)).trans rfl
theorem zk_191_1502 : zc 191 1502 = some (.pop, 0, 0, 0, 0) := (zq191_10 2 (by decide)).trans rfl
theorem zk_191_1503 : zc 191 1503 = some (.aload_n 2, 0, 0, 0, 0) := (zq191_10 3 (by decide)).trans rfl
theorem zk_191_1504 : zc 191 1504 = some (.invokevirtual 163, 185, 0, 1, 227) := (zq191_10 4 (by decide)).trans rfl
theorem zk_191_1507 : zc 191 1507 = some (.pop, 0, 0, 0, 0) := (zq191_10 7 (by decide)).trans rfl
theorem zk_191_1508 : zc 191 1508 = some (.goto 102, 1610, 0, 0, 0) := (zq191_10 8 (by decide)).trans rfl
theorem zk_191_1511 : zc 191 1511 = some (.aload_n 1, 0, 0, 0, 0) := (zq191_10 11 (by decide)).trans rfl
theorem zk_191_1512 : zc 191 1512 = some (.aload_n 0, 0, 0, 0, 0) := (zq191_10 12 (by decide)).trans rfl
theorem zk_191_1513 : zc 191 1513 = some (.iload_n 3, 0, 0, 0, 0) := (zq191_10 13 (by decide)).trans rfl
theorem zk_191_1514 : zc 191 1514 = some (.iconst 1, 0, 0, 0, 0) := (zq191_10 14 (by decide)).trans rfl
theorem zk_191_1515 : zc 191 1515 = some (.iadd, 0, 0, 0, 0) := (zq191_10 15 (by decide)).trans rfl
theorem zk_191_1516 : zc 191 1516 = some (.iaload, 0, 0, 0, 0) := (zq191_10 16 (by decide)).trans rfl
theorem zk_191_1517 : zc 191 1517 = some (.aload_n 0, 0, 0, 0, 0) := (zq191_10 17 (by decide)).trans rfl
theorem zk_191_1518 : zc 191 1518 = some (.iload_n 3, 0, 0, 0, 0) := (zq191_10 18 (by decide)).trans rfl
theorem zk_191_1519 : zc 191 1519 = some (.iconst 2, 0, 0, 0, 0) := (zq191_10 19 (by decide)).trans rfl
theorem zk_191_1520 : zc 191 1520 = some (.iadd, 0, 0, 0, 0) := (zq191_10 20 (by decide)).trans rfl
theorem zk_191_1521 : zc 191 1521 = some (.iaload, 0, 0, 0, 0) := (zq191_10 21 (by decide)).trans rfl
theorem zk_191_1522 : zc 191 1522 = some (.invokevirtual 164, 110, 0, 3, 228) := (zq191_10 22 (by decide)).trans rfl
theorem zk_191_1525 : zc 191 1525 = some (.pop, 0, 0, 0, 0) := (zq191_10 25 (by decide)).trans rfl
theorem zk_191_1526 : zc 191 1526 = some (.aload_n 2, 0, 0, 0, 0) := (zq191_10 26 (by decide)).trans rfl
theorem zk_191_1527 : zc 191 1527 = some (.aload_n 0, 0, 0, 0, 0) := (zq191_10 27 (by decide)).trans rfl
theorem zk_191_1528 : zc 191 1528 = some (.iload_n 3, 0, 0, 0, 0) := (zq191_10 28 (by decide)).trans rfl
theorem zk_191_1529 : zc 191 1529 = some (.iconst 1, 0, 0, 0, 0) := (zq191_10 29 (by decide)).trans rfl
theorem zk_191_1530 : zc 191 1530 = some (.iadd, 0, 0, 0, 0) := (zq191_10 30 (by decide)).trans rfl
theorem zk_191_1531 : zc 191 1531 = some (.iaload, 0, 0, 0, 0) := (zq191_10 31 (by decide)).trans rfl
theorem zk_191_1532 : zc 191 1532 = some (.aload_n 0, 0, 0, 0, 0) := (zq191_10 32 (by decide)).trans rfl
theorem zk_191_1533 : zc 191 1533 = some (.iload_n 3, 0, 0, 0, 0) := (zq191_10 33 (by decide)).trans rfl
theorem zk_191_1534 : zc 191 1534 = some (.iconst 2, 0, 0, 0, 0) := (zq191_10 34 (by decide)).trans rfl
theorem zk_191_1535 : zc 191 1535 = some (.iadd, 0, 0, 0, 0) := (zq191_10 35 (by decide)).trans rfl
theorem zk_191_1536 : zc 191 1536 = some (.iaload, 0, 0, 0, 0) := (zq191_10 36 (by decide)).trans rfl
theorem zk_191_1537 : zc 191 1537 = some (.invokevirtual 167, 186, 0, 3, 229) := (zq191_10 37 (by decide)).trans rfl
theorem zk_191_1540 : zc 191 1540 = some (.pop, 0, 0, 0, 0) := (zq191_10 40 (by decide)).trans rfl
theorem zk_191_1541 : zc 191 1541 = some (.goto 69, 1610, 0, 0, 0) := (zq191_10 41 (by decide)).trans rfl
theorem zk_191_1544 : zc 191 1544 = some (.aload_n 1, 0, 0, 0, 0) := (zq191_10 44 (by decide)).trans rfl
theorem zk_191_1545 : zc 191 1545 = some (.aload_n 0, 0, 0, 0, 0) := (zq191_10 45 (by decide)).trans rfl
theorem zk_191_1546 : zc 191 1546 = some (.iload_n 3, 0, 0, 0, 0) := (zq191_10 46 (by decide)).trans rfl
theorem zk_191_1547 : zc 191 1547 = some (.iconst 1, 0, 0, 0, 0) := (zq191_10 47 (by decide)).trans rfl
theorem zk_191_1548 : zc 191 1548 = some (.iadd, 0, 0, 0, 0) := (zq191_10 48 (by decide)).trans rfl
theorem zk_191_1549 : zc 191 1549 = some (.iaload, 0, 0, 0, 0) := (zq191_10 49 (by decide)).trans rfl
theorem zk_191_1550 : zc 191 1550 = some (.aload_n 0, 0, 0, 0, 0) := (zq191_10 50 (by decide)).trans rfl
theorem zk_191_1551 : zc 191 1551 = some (.iload_n 3, 0, 0, 0, 0) := (zq191_10 51 (by decide)).trans rfl
theorem zk_191_1552 : zc 191 1552 = some (.iconst 2, 0, 0, 0, 0) := (zq191_10 52 (by decide)).trans rfl
theorem zk_191_1553 : zc 191 1553 = some (.iadd, 0, 0, 0, 0) := (zq191_10 53 (by decide)).trans rfl
theorem zk_191_1554 : zc 191 1554 = some (.iaload, 0, 0, 0, 0) := (zq191_10 54 (by decide)).trans rfl
theorem zk_191_1555 : zc 191 1555 = some (.aload_n 0, 0, 0, 0, 0) := (zq191_10 55 (by decide)).trans rfl
theorem zk_191_1556 : zc 191 1556 = some (.iload_n 3, 0, 0, 0, 0) := (zq191_10 56 (by decide)).trans rfl
theorem zk_191_1557 : zc 191 1557 = some (.iconst 3, 0, 0, 0, 0) := (zq191_10 57 (by decide)).trans rfl
theorem zk_191_1558 : zc 191 1558 = some (.iadd, 0, 0, 0, 0) := (zq191_10 58 (by decide)).trans rfl
theorem zk_191_1559 : zc 191 1559 = some (.iaload, 0, 0, 0, 0) := (zq191_10 59 (by decide)).trans rfl
theorem zk_191_1560 : zc 191 1560 = some (.invokevirtual 168, 111, 0, 4, 230) := (zq191_10 60 (by decide)).trans rfl
theorem zk_191_1563 : zc 191 1563 = some (.pop, 0, 0, 0, 0) := (zq191_10 63 (by decide)).trans rfl
theorem zk_191_1564 : zc 191 1564 = some (.aload_n 2, 0, 0, 0, 0) := (zq191_10 64 (by decide)).trans rfl
theorem zk_191_1565 : zc 191 1565 = some (.aload_n 0, 0, 0, 0, 0) := (zq191_10 65 (by decide)).trans rfl
theorem zk_191_1566 : zc 191 1566 = some (.iload_n 3, 0, 0, 0, 0) := (zq191_10 66 (by decide)).trans rfl
theorem zk_191_1567 : zc 191 1567 = some (.iconst 1, 0, 0, 0, 0) := (zq191_10 67 (by decide)).trans rfl
theorem zk_191_1568 : zc 191 1568 = some (.iadd, 0, 0, 0, 0) := (zq191_10 68 (by decide)).trans rfl
theorem zk_191_1569 : zc 191 1569 = some (.iaload, 0, 0, 0, 0) := (zq191_10 69 (by decide)).trans rfl
theorem zk_191_1570 : zc 191 1570 = some (.aload_n 0, 0, 0, 0, 0) := (zq191_10 70 (by decide)).trans rfl
theorem zk_191_1571 : zc 191 1571 = some (.iload_n 3, 0, 0, 0, 0) := (zq191_10 71 (by decide)).trans rfl
theorem zk_191_1572 : zc 191 1572 = some (.iconst 2, 0, 0, 0, 0) := (zq191_10 72 (by decide)).trans rfl
theorem zk_191_1573 : zc 191 1573 = some (.iadd, 0, 0, 0, 0) := (zq191_10 73 (by decide)).trans rfl
theorem zk_191_1574 : zc 191 1574 = some (.iaload, 0, 0, 0, 0) := (zq191_10 74 (by decide)).trans rfl
theorem zk_191_1575 : zc 191 1575 = some (.aload_n 0, 0, 0, 0, 0) := (zq191_10 75 (by decide)).trans rfl
theorem zk_191_1576 : zc 191 1576 = some (.iload_n 3, 0, 0, 0, 0) := (zq191_10 76 (by decide)).trans rfl
theorem zk_191_1577 : zc 191 1577 = some (.iconst 3, 0, 0, 0, 0) := (zq191_10 77 (by decide)).trans rfl
theorem zk_191_1578 : zc 191 1578 = some (.iadd, 0, 0, 0, 0) := (zq191_10 78 (by decide)).trans rfl
theorem zk_191_1579 : zc 191 1579 = some (.iaload, 0, 0, 0, 0) := (zq191_10 79 (by decide)).trans rfl
theorem zk_191_1580 : zc 191 1580 = some (.invokevirtual 171, 187, 0, 4, 231) := (zq191_10 80 (by decide)).trans rfl
theorem zk_191_1583 : zc 191 1583 = some (.pop, 0, 0, 0, 0) := (zq191_10 83 (by decide)).trans rfl
theorem zk_191_1584 : zc 191 1584 = some (.goto 26, 1610, 0, 0, 0) := (zq191_10 84 (by decide)).trans rfl
theorem zk_191_1587 : zc 191 1587 = some (.aload_n 1, 0, 0, 0, 0) := (zq191_10 87 (by decide)).trans rfl
theorem zk_191_1588 : zc 191 1588 = some (.aload_n 0, 0, 0, 0, 0) := (zq191_10 88 (by decide)).trans rfl
theorem zk_191_1589 : zc 191 1589 = some (.iload_n 3, 0, 0, 0, 0) := (zq191_10 89 (by decide)).trans rfl
theorem zk_191_1590 : zc 191 1590 = some (.iconst 1, 0, 0, 0, 0) := (zq191_10 90 (by decide)).trans rfl
theorem zk_191_1591 : zc 191 1591 = some (.iadd, 0, 0, 0, 0) := (zq191_10 91 (by decide)).trans rfl
theorem zk_191_1592 : zc 191 1592 = some (.iaload, 0, 0, 0, 0) := (zq191_10 92 (by decide)).trans rfl
theorem zk_191_1593 : zc 191 1593 = some (.invokevirtual 172, 112, 0, 2, 232) := (zq191_10 93 (by decide)).trans rfl
theorem zk_191_1596 : zc 191 1596 = some (.pop, 0, 0, 0, 0) := (zq191_10 96 (by decide)).trans rfl
theorem zk_191_1597 : zc 191 1597 = some (.aload_n 2, 0, 0, 0, 0) := (zq191_10 97 (by decide)).trans rfl
theorem zk_191_1598 : zc 191 1598 = some (.aload_n 0, 0, 0, 0, 0) := (zq191_10 98 (by decide)).trans rfl
theorem zk_191_1599 : zc 191 1599 = some (.iload_n 3, 0, 0, 0, 0) := (zq191_10 99 (by decide)).trans rfl
theorem zk_191_1600 : zc 191 1600 = some (.iconst 1, 0, 0, 0, 0) := (zq191_10 100 (by decide)).trans rfl
theorem zk_191_1601 : zc 191 1601 = some (.iadd, 0, 0, 0, 0) := (zq191_10 101 (by decide)).trans rfl
theorem zk_191_1602 : zc 191 1602 = some (.iaload, 0, 0, 0, 0) := (zq191_10 102 (by decide)).trans rfl
theorem zk_191_1603 : zc 191 1603 = some (.invokevirtual 175, 188, 0, 2, 233) := (zq191_10 103 (by decide)).trans rfl
theorem zk_191_1606 : zc 191 1606 = some (.pop, 0, 0, 0, 0) := (zq191_10 106 (by decide)).trans rfl
theorem zk_191_1607 : zc 191 1607 = some (.goto 3, 1610, 0, 0, 0) := (zq191_10 107 (by decide)).trans rfl
theorem zk_191_1610 : zc 191 1610 = some (.iinc 3 6, 0, 0, 0, 0) := (zq191_10 110 (by decide)).trans rfl
theorem zk_191_1613 : zc 191 1613 = some (.goto (-1595), 18, 0, 0, 0) := (zq191_10 113 (by decide)).trans rfl
theorem zk_191_1616 : zc 191 1616 = some (.iconst 1, 0, 0, 0, 0) := (zq191_10 116 (by decide)).trans rfl
theorem zk_191_1617 : zc 191 1617 = some (.ireturn, 0, 0, 0, 0) := (zq191_10 117 (by decide)).trans rfl
