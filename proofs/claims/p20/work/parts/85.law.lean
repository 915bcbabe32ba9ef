section LWR
variable {xs : Nat × (Nat → Int32)} {d m pc pc' : Nat} {L : XL} {r : List Value} {Q : Option Value → ZS → Prop} {J : ZS → Prop} {a1 a2 p n : Nat} {c x w : Int}
theorem T_sld (hz : zc m pc = some (.iaload, a1, a2, c, p)) (hx : xs.1 = n + 1) (h0 : 0 ≤ x) (h1 : x < n) (h2 : x ≤ 2147483647) (he : xs.2 x.toNat = Int32.ofInt w) (hp' : pc + 1 = pc') (kk : TJ xs J d m pc' L (iv w :: r) Q) : TJ xs J d m pc L (iv x :: .ref 0 :: r) Q := fun σ hJ => by
  obtain ⟨e1, e2⟩ := I_idx h0 h1 h2
  refine TT.step (h := []) (fun call => ?_) (kk σ hJ)
  rw [xone_hp (st' := iv w :: r) (h' := hp σ) hz rfl rfl rfl (fun _ => rfl) (fun _ => rfl) (by simp only [xhp, hx, Nat.add_sub_cancel]; rw [if_pos e1, e2, he])]
  rw [show pc + zLen .iaload = pc' from hp']
theorem T_slen (hz : zc m pc = some (.arraylength, a1, a2, c, p)) (hx : xs.1 = n + 1) (hp' : pc + 1 = pc') (kk : TJ xs J d m pc' L (iv n :: r) Q) : TJ xs J d m pc L (.ref 0 :: r) Q := fun σ hJ => by
  refine TT.step (h := []) (fun call => ?_) (kk σ hJ)
  rw [xone_hp (st' := iv n :: r) (h' := hp σ) hz rfl rfl rfl (fun _ => rfl) (fun _ => rfl) (by simp only [xhp, hx, Nat.add_sub_cancel]; rw [if_neg (Nat.succ_ne_zero _)]; rfl)]
  rw [show pc + zLen .arraylength = pc' from hp']
end LWR
theorem zl_0 {xs : Nat × (Nat → Int32)} {n0 : Nat} (hx : xs.1 = n0 + 1) {Q : Option Value → ZS → Prop} (i : Int) (hi : 0 ≤ i ∧ i + 6 ≤ n0 ∧ n0 ≤ 3072) (p1 p2 p3 p4 p5 : Int) (h1 : -2147483648 ≤ p1 ∧ p1 ≤ 2147483647) (h2 : -2147483648 ≤ p2 ∧ p2 ≤ 2147483647) (h3 : -2147483648 ≤ p3 ∧ p3 ≤ 2147483647) (h4 : -2147483648 ≤ p4 ∧ p4 ≤ 2147483647) (h5 : -2147483648 ≤ p5 ∧ p5 ≤ 2147483647) (e1 : xs.2 (Int.toNat (i + 1)) = Int32.ofInt p1) (e2 : xs.2 (Int.toNat (i + 2)) = Int32.ofInt p2) (e3 : xs.2 (Int.toNat (i + 3)) = Int32.ofInt p3) (e4 : xs.2 (Int.toNat (i + 4)) = Int32.ofInt p4) (e5 : xs.2 (Int.toNat (i + 5)) = Int32.ofInt p5) (hk : TJ xs JR 120 191 18 [(0, .ref 0), (1, av 0 0 0), (2, av 35 0 0), (3, iv (i + 6))] [] Q) : TJ xs JR 120 191 200 [(0, .ref 0), (1, av 0 0 0), (2, av 35 0 0), (3, iv i)] [] Q := by
  refine T_ld zk_191_200 rfl rfl rfl (pc' := 201) rfl ?_
  refine T_ld zk_191_201 rfl rfl rfl (pc' := 202) rfl ?_
  refine T_ld zk_191_202 rfl rfl rfl (pc' := 203) rfl ?_
  refine T_op zk_191_203 rfl X_ic (pc' := 204) rfl ?_
  refine T_op zk_191_204 rfl X_add (pc' := 205) rfl ?_
  refine T_sld (n := n0) (w := p1) zk_191_205 hx (by omega) (by omega) (by omega) e1 (pc' := 206) rfl ?_
  refine T_ld zk_191_206 rfl rfl rfl (pc' := 207) rfl ?_
  refine T_ld zk_191_207 rfl rfl rfl (pc' := 208) rfl ?_
  refine T_op zk_191_208 rfl X_ic (pc' := 209) rfl ?_
  refine T_op zk_191_209 rfl X_add (pc' := 210) rfl ?_
  refine T_sld (n := n0) (w := p2) zk_191_210 hx (by omega) (by omega) (by omega) e2 (pc' := 211) rfl ?_
  refine T_calli (K := fun y1 σ' => (True) ∧ JR σ') (r := []) zk_191_211 rfl rfl rfl rfl rfl rfl (Or.inr ⟨_, _, _, _, rfl, vd_0, rfl⟩) (fun σ' h => u_75 p1 p2 (by omega) (by omega) σ' h) (pc' := 214) rfl (fun y1 => ?_)
  refine G_ex (fun hy1 => ?_)
  refine T_op (st' := []) zk_191_214 rfl rfl (pc' := 215) rfl ?_
  refine T_ld zk_191_215 rfl rfl rfl (pc' := 216) rfl ?_
  refine T_ld zk_191_216 rfl rfl rfl (pc' := 217) rfl ?_
  refine T_ld zk_191_217 rfl rfl rfl (pc' := 218) rfl ?_
  refine T_op zk_191_218 rfl X_ic (pc' := 219) rfl ?_
  refine T_op zk_191_219 rfl X_add (pc' := 220) rfl ?_
  refine T_sld (n := n0) (w := p1) zk_191_220 hx (by omega) (by omega) (by omega) e1 (pc' := 221) rfl ?_
  refine T_ld zk_191_221 rfl rfl rfl (pc' := 222) rfl ?_
  refine T_ld zk_191_222 rfl rfl rfl (pc' := 223) rfl ?_
  refine T_op zk_191_223 rfl X_ic (pc' := 224) rfl ?_
  refine T_op zk_191_224 rfl X_add (pc' := 225) rfl ?_
  refine T_sld (n := n0) (w := p2) zk_191_225 hx (by omega) (by omega) (by omega) e2 (pc' := 226) rfl ?_
  refine T_calli (K := fun y2 σ' => (True) ∧ JR σ') (r := []) zk_191_226 rfl rfl rfl rfl rfl rfl (Or.inr ⟨_, _, _, _, rfl, vd_35, rfl⟩) (fun σ' h => u_127 p1 p2 (by omega) (by omega) σ' h) (pc' := 229) rfl (fun y2 => ?_)
  refine G_ex (fun hy2 => ?_)
  refine T_op (st' := []) zk_191_229 rfl rfl (pc' := 230) rfl ?_
  refine T_goto zk_191_230 ?_
  refine T_iinc (L' := [(0, .ref 0), (1, av 0 0 0), (2, av 35 0 0), (3, iv (i + 6))]) zk_191_1610 (nL := 4) rfl rfl (show _ = some (iv i) from rfl) rfl (pc' := 1613) rfl ?_
  refine T_goto zk_191_1613 ?_
  exact hk
theorem zl_1 {xs : Nat × (Nat → Int32)} {n0 : Nat} (hx : xs.1 = n0 + 1) {Q : Option Value → ZS → Prop} (i : Int) (hi : 0 ≤ i ∧ i + 6 ≤ n0 ∧ n0 ≤ 3072) (p1 p2 p3 p4 p5 : Int) (h1 : -2147483648 ≤ p1 ∧ p1 ≤ 2147483647) (h2 : -2147483648 ≤ p2 ∧ p2 ≤ 2147483647) (h3 : -2147483648 ≤ p3 ∧ p3 ≤ 2147483647) (h4 : -2147483648 ≤ p4 ∧ p4 ≤ 2147483647) (h5 : -2147483648 ≤ p5 ∧ p5 ≤ 2147483647) (e1 : xs.2 (Int.toNat (i + 1)) = Int32.ofInt p1) (e2 : xs.2 (Int.toNat (i + 2)) = Int32.ofInt p2) (e3 : xs.2 (Int.toNat (i + 3)) = Int32.ofInt p3) (e4 : xs.2 (Int.toNat (i + 4)) = Int32.ofInt p4) (e5 : xs.2 (Int.toNat (i + 5)) = Int32.ofInt p5) (hk : TJ xs JR 120 191 18 [(0, .ref 0), (1, av 0 0 0), (2, av 35 0 0), (3, iv (i + 6))] [] Q) : TJ xs JR 120 191 233 [(0, .ref 0), (1, av 0 0 0), (2, av 35 0 0), (3, iv i)] [] Q := by
  refine T_ld zk_191_233 rfl rfl rfl (pc' := 234) rfl ?_
  refine T_ld zk_191_234 rfl rfl rfl (pc' := 235) rfl ?_
  refine T_ld zk_191_235 rfl rfl rfl (pc' := 236) rfl ?_
  refine T_op zk_191_236 rfl X_ic (pc' := 237) rfl ?_
  refine T_op zk_191_237 rfl X_add (pc' := 238) rfl ?_
  refine T_sld (n := n0) (w := p1) zk_191_238 hx (by omega) (by omega) (by omega) e1 (pc' := 239) rfl ?_
  refine T_ld zk_191_239 rfl rfl rfl (pc' := 240) rfl ?_
  refine T_ld zk_191_240 rfl rfl rfl (pc' := 241) rfl ?_
  refine T_op zk_191_241 rfl X_ic (pc' := 242) rfl ?_
  refine T_op zk_191_242 rfl X_add (pc' := 243) rfl ?_
  refine T_sld (n := n0) (w := p2) zk_191_243 hx (by omega) (by omega) (by omega) e2 (pc' := 244) rfl ?_
  refine T_calli (K := fun y1 σ' => (True) ∧ JR σ') (r := []) zk_191_244 rfl rfl rfl rfl rfl rfl (Or.inr ⟨_, _, _, _, rfl, vd_0, rfl⟩) (fun σ' h => u_76 p1 p2 (by omega) (by omega) σ' h) (pc' := 247) rfl (fun y1 => ?_)
  refine G_ex (fun hy1 => ?_)
  refine T_op (st' := []) zk_191_247 rfl rfl (pc' := 248) rfl ?_
  refine T_ld zk_191_248 rfl rfl rfl (pc' := 249) rfl ?_
  refine T_ld zk_191_249 rfl rfl rfl (pc' := 250) rfl ?_
  refine T_ld zk_191_250 rfl rfl rfl (pc' := 251) rfl ?_
  refine T_op zk_191_251 rfl X_ic (pc' := 252) rfl ?_
  refine T_op zk_191_252 rfl X_add (pc' := 253) rfl ?_
  refine T_sld (n := n0) (w := p1) zk_191_253 hx (by omega) (by omega) (by omega) e1 (pc' := 254) rfl ?_
  refine T_ld zk_191_254 rfl rfl rfl (pc' := 255) rfl ?_
  refine T_ld zk_191_255 rfl rfl rfl (pc' := 256) rfl ?_
  refine T_op zk_191_256 rfl X_ic (pc' := 257) rfl ?_
  refine T_op zk_191_257 rfl X_add (pc' := 258) rfl ?_
  refine T_sld (n := n0) (w := p2) zk_191_258 hx (by omega) (by omega) (by omega) e2 (pc' := 259) rfl ?_
  refine T_calli (K := fun y2 σ' => (True) ∧ JR σ') (r := []) zk_191_259 rfl rfl rfl rfl rfl rfl (Or.inr ⟨_, _, _, _, rfl, vd_35, rfl⟩) (fun σ' h => u_128 p1 p2 (by omega) (by omega) σ' h) (pc' := 262) rfl (fun y2 => ?_)
  refine G_ex (fun hy2 => ?_)
  refine T_op (st' := []) zk_191_262 rfl rfl (pc' := 263) rfl ?_
  refine T_goto zk_191_263 ?_
  refine T_iinc (L' := [(0, .ref 0), (1, av 0 0 0), (2, av 35 0 0), (3, iv (i + 6))]) zk_191_1610 (nL := 4) rfl rfl (show _ = some (iv i) from rfl) rfl (pc' := 1613) rfl ?_
  refine T_goto zk_191_1613 ?_
  exact hk
theorem zl_2 {xs : Nat × (Nat → Int32)} {n0 : Nat} (hx : xs.1 = n0 + 1) {Q : Option Value → ZS → Prop} (i : Int) (hi : 0 ≤ i ∧ i + 6 ≤ n0 ∧ n0 ≤ 3072) (p1 p2 p3 p4 p5 : Int) (h1 : -2147483648 ≤ p1 ∧ p1 ≤ 2147483647) (h2 : -2147483648 ≤ p2 ∧ p2 ≤ 2147483647) (h3 : -2147483648 ≤ p3 ∧ p3 ≤ 2147483647) (h4 : -2147483648 ≤ p4 ∧ p4 ≤ 2147483647) (h5 : -2147483648 ≤ p5 ∧ p5 ≤ 2147483647) (e1 : xs.2 (Int.toNat (i + 1)) = Int32.ofInt p1) (e2 : xs.2 (Int.toNat (i + 2)) = Int32.ofInt p2) (e3 : xs.2 (Int.toNat (i + 3)) = Int32.ofInt p3) (e4 : xs.2 (Int.toNat (i + 4)) = Int32.ofInt p4) (e5 : xs.2 (Int.toNat (i + 5)) = Int32.ofInt p5) (hk : TJ xs JR 120 191 18 [(0, .ref 0), (1, av 0 0 0), (2, av 35 0 0), (3, iv (i + 6))] [] Q) : TJ xs JR 120 191 266 [(0, .ref 0), (1, av 0 0 0), (2, av 35 0 0), (3, iv i)] [] Q := by
  refine T_ld zk_191_266 rfl rfl rfl (pc' := 267) rfl ?_
  refine T_ld zk_191_267 rfl rfl rfl (pc' := 268) rfl ?_
  refine T_ld zk_191_268 rfl rfl rfl (pc' := 269) rfl ?_
  refine T_op zk_191_269 rfl X_ic (pc' := 270) rfl ?_
  refine T_op zk_191_270 rfl X_add (pc' := 271) rfl ?_
  refine T_sld (n := n0) (w := p1) zk_191_271 hx (by omega) (by omega) (by omega) e1 (pc' := 272) rfl ?_
  refine T_ld zk_191_272 rfl rfl rfl (pc' := 273) rfl ?_
  refine T_ld zk_191_273 rfl rfl rfl (pc' := 274) rfl ?_
  refine T_op zk_191_274 rfl X_ic (pc' := 275) rfl ?_
  refine T_op zk_191_275 rfl X_add (pc' := 276) rfl ?_
  refine T_sld (n := n0) (w := p2) zk_191_276 hx (by omega) (by omega) (by omega) e2 (pc' := 277) rfl ?_
  refine T_ld zk_191_277 rfl rfl rfl (pc' := 278) rfl ?_
  refine T_ld zk_191_278 rfl rfl rfl (pc' := 279) rfl ?_
  refine T_op zk_191_279 rfl X_ic (pc' := 280) rfl ?_
  refine T_op zk_191_280 rfl X_add (pc' := 281) rfl ?_
  refine T_sld (n := n0) (w := p3) zk_191_281 hx (by omega) (by omega) (by omega) e3 (pc' := 282) rfl ?_
  refine T_if_eq zk_191_282 (by omega) (pc' := 285) rfl (fun b1 => ?_) (fun b1 => ?_)
  ·
    refine T_op zk_191_289 rfl X_ic (pc' := 290) rfl ?_
    refine T_calli (K := fun y2 σ' => (True) ∧ JR σ') (r := []) zk_191_290 rfl rfl rfl rfl rfl rfl (Or.inr ⟨_, _, _, _, rfl, vd_0, rfl⟩) (fun σ' h => u_77 p1 p2 0 (by omega) (by omega) (by omega) σ' h) (pc' := 293) rfl (fun y2 => ?_)
    refine G_ex (fun hy2 => ?_)
    refine T_op (st' := []) zk_191_293 rfl rfl (pc' := 294) rfl ?_
    refine T_ld zk_191_294 rfl rfl rfl (pc' := 295) rfl ?_
    refine T_ld zk_191_295 rfl rfl rfl (pc' := 296) rfl ?_
    refine T_ld zk_191_296 rfl rfl rfl (pc' := 297) rfl ?_
    refine T_op zk_191_297 rfl X_ic (pc' := 298) rfl ?_
    refine T_op zk_191_298 rfl X_add (pc' := 299) rfl ?_
    refine T_sld (n := n0) (w := p1) zk_191_299 hx (by omega) (by omega) (by omega) e1 (pc' := 300) rfl ?_
    refine T_ld zk_191_300 rfl rfl rfl (pc' := 301) rfl ?_
    refine T_ld zk_191_301 rfl rfl rfl (pc' := 302) rfl ?_
    refine T_op zk_191_302 rfl X_ic (pc' := 303) rfl ?_
    refine T_op zk_191_303 rfl X_add (pc' := 304) rfl ?_
    refine T_sld (n := n0) (w := p2) zk_191_304 hx (by omega) (by omega) (by omega) e2 (pc' := 305) rfl ?_
    refine T_ld zk_191_305 rfl rfl rfl (pc' := 306) rfl ?_
    refine T_ld zk_191_306 rfl rfl rfl (pc' := 307) rfl ?_
    refine T_op zk_191_307 rfl X_ic (pc' := 308) rfl ?_
    refine T_op zk_191_308 rfl X_add (pc' := 309) rfl ?_
    refine T_sld (n := n0) (w := p3) zk_191_309 hx (by omega) (by omega) (by omega) e3 (pc' := 310) rfl ?_
    refine T_if_eq zk_191_310 (by omega) (pc' := 313) rfl (fun b3 => ?_) (fun b3 => ?_)
    ·
      refine T_op zk_191_317 rfl X_ic (pc' := 318) rfl ?_
      refine T_calli (K := fun y4 σ' => (True) ∧ JR σ') (r := []) zk_191_318 rfl rfl rfl rfl rfl rfl (Or.inr ⟨_, _, _, _, rfl, vd_35, rfl⟩) (fun σ' h => u_130 p1 p2 0 (by omega) (by omega) (by omega) σ' h) (pc' := 321) rfl (fun y4 => ?_)
      refine G_ex (fun hy4 => ?_)
      refine T_op (st' := []) zk_191_321 rfl rfl (pc' := 322) rfl ?_
      refine T_goto zk_191_322 ?_
      refine T_iinc (L' := [(0, .ref 0), (1, av 0 0 0), (2, av 35 0 0), (3, iv (i + 6))]) zk_191_1610 (nL := 4) rfl rfl (show _ = some (iv i) from rfl) rfl (pc' := 1613) rfl ?_
      refine T_goto zk_191_1613 ?_
      exact hk
    · exfalso; omega
  ·
    refine T_op zk_191_285 rfl X_ic (pc' := 286) rfl ?_
    refine T_goto zk_191_286 ?_
    refine T_calli (K := fun y5 σ' => (True) ∧ JR σ') (r := []) zk_191_290 rfl rfl rfl rfl rfl rfl (Or.inr ⟨_, _, _, _, rfl, vd_0, rfl⟩) (fun σ' h => u_77 p1 p2 1 (by omega) (by omega) (by omega) σ' h) (pc' := 293) rfl (fun y5 => ?_)
    refine G_ex (fun hy5 => ?_)
    refine T_op (st' := []) zk_191_293 rfl rfl (pc' := 294) rfl ?_
    refine T_ld zk_191_294 rfl rfl rfl (pc' := 295) rfl ?_
    refine T_ld zk_191_295 rfl rfl rfl (pc' := 296) rfl ?_
    refine T_ld zk_191_296 rfl rfl rfl (pc' := 297) rfl ?_
    refine T_op zk_191_297 rfl X_ic (pc' := 298) rfl ?_
    refine T_op zk_191_298 rfl X_add (pc' := 299) rfl ?_
    refine T_sld (n := n0) (w := p1) zk_191_299 hx (by omega) (by omega) (by omega) e1 (pc' := 300) rfl ?_
    refine T_ld zk_191_300 rfl rfl rfl (pc' := 301) rfl ?_
    refine T_ld zk_191_301 rfl rfl rfl (pc' := 302) rfl ?_
    refine T_op zk_191_302 rfl X_ic (pc' := 303) rfl ?_
    refine T_op zk_191_303 rfl X_add (pc' := 304) rfl ?_
    refine T_sld (n := n0) (w := p2) zk_191_304 hx (by omega) (by omega) (by omega) e2 (pc' := 305) rfl ?_
    refine T_ld zk_191_305 rfl rfl rfl (pc' := 306) rfl ?_
    refine T_ld zk_191_306 rfl rfl rfl (pc' := 307) rfl ?_
    refine T_op zk_191_307 rfl X_ic (pc' := 308) rfl ?_
    refine T_op zk_191_308 rfl X_add (pc' := 309) rfl ?_
    refine T_sld (n := n0) (w := p3) zk_191_309 hx (by omega) (by omega) (by omega) e3 (pc' := 310) rfl ?_
    refine T_if_eq zk_191_310 (by omega) (pc' := 313) rfl (fun b6 => ?_) (fun b6 => ?_)
    · exfalso; omega
    ·
      refine T_op zk_191_313 rfl X_ic (pc' := 314) rfl ?_
      refine T_goto zk_191_314 ?_
      refine T_calli (K := fun y7 σ' => (True) ∧ JR σ') (r := []) zk_191_318 rfl rfl rfl rfl rfl rfl (Or.inr ⟨_, _, _, _, rfl, vd_35, rfl⟩) (fun σ' h => u_130 p1 p2 1 (by omega) (by omega) (by omega) σ' h) (pc' := 321) rfl (fun y7 => ?_)
      refine G_ex (fun hy7 => ?_)
      refine T_op (st' := []) zk_191_321 rfl rfl (pc' := 322) rfl ?_
      refine T_goto zk_191_322 ?_
      refine T_iinc (L' := [(0, .ref 0), (1, av 0 0 0), (2, av 35 0 0), (3, iv (i + 6))]) zk_191_1610 (nL := 4) rfl rfl (show _ = some (iv i) from rfl) rfl (pc' := 1613) rfl ?_
      refine T_goto zk_191_1613 ?_
      exact hk
theorem zl_3 {xs : Nat × (Nat → Int32)} {n0 : Nat} (hx : xs.1 = n0 + 1) {Q : Option Value → ZS → Prop} (i : Int) (hi : 0 ≤ i ∧ i + 6 ≤ n0 ∧ n0 ≤ 3072) (p1 p2 p3 p4 p5 : Int) (h1 : -2147483648 ≤ p1 ∧ p1 ≤ 2147483647) (h2 : -2147483648 ≤ p2 ∧ p2 ≤ 2147483647) (h3 : -2147483648 ≤ p3 ∧ p3 ≤ 2147483647) (h4 : -2147483648 ≤ p4 ∧ p4 ≤ 2147483647) (h5 : -2147483648 ≤ p5 ∧ p5 ≤ 2147483647) (e1 : xs.2 (Int.toNat (i + 1)) = Int32.ofInt p1) (e2 : xs.2 (Int.toNat (i + 2)) = Int32.ofInt p2) (e3 : xs.2 (Int.toNat (i + 3)) = Int32.ofInt p3) (e4 : xs.2 (Int.toNat (i + 4)) = Int32.ofInt p4) (e5 : xs.2 (Int.toNat (i + 5)) = Int32.ofInt p5) (hk : TJ xs JR 120 191 18 [(0, .ref 0), (1, av 0 0 0), (2, av 35 0 0), (3, iv (i + 6))] [] Q) : TJ xs JR 120 191 325 [(0, .ref 0), (1, av 0 0 0), (2, av 35 0 0), (3, iv i)] [] Q := by
  refine T_ld zk_191_325 rfl rfl rfl (pc' := 326) rfl ?_
  refine T_ld zk_191_326 rfl rfl rfl (pc' := 327) rfl ?_
  refine T_ld zk_191_327 rfl rfl rfl (pc' := 328) rfl ?_
  refine T_op zk_191_328 rfl X_ic (pc' := 329) rfl ?_
  refine T_op zk_191_329 rfl X_add (pc' := 330) rfl ?_
  refine T_sld (n := n0) (w := p1) zk_191_330 hx (by omega) (by omega) (by omega) e1 (pc' := 331) rfl ?_
  refine T_ld zk_191_331 rfl rfl rfl (pc' := 332) rfl ?_
  refine T_ld zk_191_332 rfl rfl rfl (pc' := 333) rfl ?_
  refine T_op zk_191_333 rfl X_ic (pc' := 334) rfl ?_
  refine T_op zk_191_334 rfl X_add (pc' := 335) rfl ?_
  refine T_sld (n := n0) (w := p2) zk_191_335 hx (by omega) (by omega) (by omega) e2 (pc' := 336) rfl ?_
  refine T_ld zk_191_336 rfl rfl rfl (pc' := 337) rfl ?_
  refine T_ld zk_191_337 rfl rfl rfl (pc' := 338) rfl ?_
  refine T_op zk_191_338 rfl X_ic (pc' := 339) rfl ?_
  refine T_op zk_191_339 rfl X_add (pc' := 340) rfl ?_
  refine T_sld (n := n0) (w := p3) zk_191_340 hx (by omega) (by omega) (by omega) e3 (pc' := 341) rfl ?_
  refine T_if_eq zk_191_341 (by omega) (pc' := 344) rfl (fun b1 => ?_) (fun b1 => ?_)
  ·
    refine T_op zk_191_348 rfl X_ic (pc' := 349) rfl ?_
    refine T_calli (K := fun y2 σ' => (True) ∧ JR σ') (r := []) zk_191_349 rfl rfl rfl rfl rfl rfl (Or.inr ⟨_, _, _, _, rfl, vd_0, rfl⟩) (fun σ' h => u_78 p1 p2 0 (by omega) (by omega) (by omega) σ' h) (pc' := 352) rfl (fun y2 => ?_)
    refine G_ex (fun hy2 => ?_)
    refine T_op (st' := []) zk_191_352 rfl rfl (pc' := 353) rfl ?_
    refine T_ld zk_191_353 rfl rfl rfl (pc' := 354) rfl ?_
    refine T_ld zk_191_354 rfl rfl rfl (pc' := 355) rfl ?_
    refine T_ld zk_191_355 rfl rfl rfl (pc' := 356) rfl ?_
    refine T_op zk_191_356 rfl X_ic (pc' := 357) rfl ?_
    refine T_op zk_191_357 rfl X_add (pc' := 358) rfl ?_
    refine T_sld (n := n0) (w := p1) zk_191_358 hx (by omega) (by omega) (by omega) e1 (pc' := 359) rfl ?_
    refine T_ld zk_191_359 rfl rfl rfl (pc' := 360) rfl ?_
    refine T_ld zk_191_360 rfl rfl rfl (pc' := 361) rfl ?_
    refine T_op zk_191_361 rfl X_ic (pc' := 362) rfl ?_
    refine T_op zk_191_362 rfl X_add (pc' := 363) rfl ?_
    refine T_sld (n := n0) (w := p2) zk_191_363 hx (by omega) (by omega) (by omega) e2 (pc' := 364) rfl ?_
    refine T_ld zk_191_364 rfl rfl rfl (pc' := 365) rfl ?_
    refine T_ld zk_191_365 rfl rfl rfl (pc' := 366) rfl ?_
    refine T_op zk_191_366 rfl X_ic (pc' := 367) rfl ?_
    refine T_op zk_191_367 rfl X_add (pc' := 368) rfl ?_
    refine T_sld (n := n0) (w := p3) zk_191_368 hx (by omega) (by omega) (by omega) e3 (pc' := 369) rfl ?_
    refine T_if_eq zk_191_369 (by omega) (pc' := 372) rfl (fun b3 => ?_) (fun b3 => ?_)
    ·
      refine T_op zk_191_376 rfl X_ic (pc' := 377) rfl ?_
      refine T_calli (K := fun y4 σ' => (True) ∧ JR σ') (r := []) zk_191_377 rfl rfl rfl rfl rfl rfl (Or.inr ⟨_, _, _, _, rfl, vd_35, rfl⟩) (fun σ' h => u_131 p1 p2 0 (by omega) (by omega) (by omega) σ' h) (pc' := 380) rfl (fun y4 => ?_)
      refine G_ex (fun hy4 => ?_)
      refine T_op (st' := []) zk_191_380 rfl rfl (pc' := 381) rfl ?_
      refine T_goto zk_191_381 ?_
      refine T_iinc (L' := [(0, .ref 0), (1, av 0 0 0), (2, av 35 0 0), (3, iv (i + 6))]) zk_191_1610 (nL := 4) rfl rfl (show _ = some (iv i) from rfl) rfl (pc' := 1613) rfl ?_
      refine T_goto zk_191_1613 ?_
      exact hk
    · exfalso; omega
  ·
    refine T_op zk_191_344 rfl X_ic (pc' := 345) rfl ?_
    refine T_goto zk_191_345 ?_
    refine T_calli (K := fun y5 σ' => (True) ∧ JR σ') (r := []) zk_191_349 rfl rfl rfl rfl rfl rfl (Or.inr ⟨_, _, _, _, rfl, vd_0, rfl⟩) (fun σ' h => u_78 p1 p2 1 (by omega) (by omega) (by omega) σ' h) (pc' := 352) rfl (fun y5 => ?_)
    refine G_ex (fun hy5 => ?_)
    refine T_op (st' := []) zk_191_352 rfl rfl (pc' := 353) rfl ?_
    refine T_ld zk_191_353 rfl rfl rfl (pc' := 354) rfl ?_
    refine T_ld zk_191_354 rfl rfl rfl (pc' := 355) rfl ?_
    refine T_ld zk_191_355 rfl rfl rfl (pc' := 356) rfl ?_
    refine T_op zk_191_356 rfl X_ic (pc' := 357) rfl ?_
    refine T_op zk_191_357 rfl X_add (pc' := 358) rfl ?_
    refine T_sld (n := n0) (w := p1) zk_191_358 hx (by omega) (by omega) (by omega) e1 (pc' := 359) rfl ?_
    refine T_ld zk_191_359 rfl rfl rfl (pc' := 360) rfl ?_
    refine T_ld zk_191_360 rfl rfl rfl (pc' := 361) rfl ?_
    refine T_op zk_191_361 rfl X_ic (pc' := 362) rfl ?_
    refine T_op zk_191_362 rfl X_add (pc' := 363) rfl ?_
    refine T_sld (n := n0) (w := p2) zk_191_363 hx (by omega) (by omega) (by omega) e2 (pc' := 364) rfl ?_
    refine T_ld zk_191_364 rfl rfl rfl (pc' := 365) rfl ?_
    refine T_ld zk_191_365 rfl rfl rfl (pc' := 366) rfl ?_
    refine T_op zk_191_366 rfl X_ic (pc' := 367) rfl ?_
    refine T_op zk_191_367 rfl X_add (pc' := 368) rfl ?_
    refine T_sld (n := n0) (w := p3) zk_191_368 hx (by omega) (by omega) (by omega) e3 (pc' := 369) rfl ?_
    refine T_if_eq zk_191_369 (by omega) (pc' := 372) rfl (fun b6 => ?_) (fun b6 => ?_)
    · exfalso; omega
    ·
      refine T_op zk_191_372 rfl X_ic (pc' := 373) rfl ?_
      refine T_goto zk_191_373 ?_
      refine T_calli (K := fun y7 σ' => (True) ∧ JR σ') (r := []) zk_191_377 rfl rfl rfl rfl rfl rfl (Or.inr ⟨_, _, _, _, rfl, vd_35, rfl⟩) (fun σ' h => u_131 p1 p2 1 (by omega) (by omega) (by omega) σ' h) (pc' := 380) rfl (fun y7 => ?_)
      refine G_ex (fun hy7 => ?_)
      refine T_op (st' := []) zk_191_380 rfl rfl (pc' := 381) rfl ?_
      refine T_goto zk_191_381 ?_
      refine T_iinc (L' := [(0, .ref 0), (1, av 0 0 0), (2, av 35 0 0), (3, iv (i + 6))]) zk_191_1610 (nL := 4) rfl rfl (show _ = some (iv i) from rfl) rfl (pc' := 1613) rfl ?_
      refine T_goto zk_191_1613 ?_
      exact hk
theorem zl_4 {xs : Nat × (Nat → Int32)} {n0 : Nat} (hx : xs.1 = n0 + 1) {Q : Option Value → ZS → Prop} (i : Int) (hi : 0 ≤ i ∧ i + 6 ≤ n0 ∧ n0 ≤ 3072) (p1 p2 p3 p4 p5 : Int) (h1 : -2147483648 ≤ p1 ∧ p1 ≤ 2147483647) (h2 : -2147483648 ≤ p2 ∧ p2 ≤ 2147483647) (h3 : -2147483648 ≤ p3 ∧ p3 ≤ 2147483647) (h4 : -2147483648 ≤ p4 ∧ p4 ≤ 2147483647) (h5 : -2147483648 ≤ p5 ∧ p5 ≤ 2147483647) (e1 : xs.2 (Int.toNat (i + 1)) = Int32.ofInt p1) (e2 : xs.2 (Int.toNat (i + 2)) = Int32.ofInt p2) (e3 : xs.2 (Int.toNat (i + 3)) = Int32.ofInt p3) (e4 : xs.2 (Int.toNat (i + 4)) = Int32.ofInt p4) (e5 : xs.2 (Int.toNat (i + 5)) = Int32.ofInt p5) (hk : TJ xs JR 120 191 18 [(0, .ref 0), (1, av 0 0 0), (2, av 35 0 0), (3, iv (i + 6))] [] Q) : TJ xs JR 120 191 384 [(0, .ref 0), (1, av 0 0 0), (2, av 35 0 0), (3, iv i)] [] Q := by
  refine T_ld zk_191_384 rfl rfl rfl (pc' := 385) rfl ?_
  refine T_ld zk_191_385 rfl rfl rfl (pc' := 386) rfl ?_
  refine T_ld zk_191_386 rfl rfl rfl (pc' := 387) rfl ?_
  refine T_op zk_191_387 rfl X_ic (pc' := 388) rfl ?_
  refine T_op zk_191_388 rfl X_add (pc' := 389) rfl ?_
  refine T_sld (n := n0) (w := p1) zk_191_389 hx (by omega) (by omega) (by omega) e1 (pc' := 390) rfl ?_
  refine T_ld zk_191_390 rfl rfl rfl (pc' := 391) rfl ?_
  refine T_ld zk_191_391 rfl rfl rfl (pc' := 392) rfl ?_
  refine T_op zk_191_392 rfl X_ic (pc' := 393) rfl ?_
  refine T_op zk_191_393 rfl X_add (pc' := 394) rfl ?_
  refine T_sld (n := n0) (w := p2) zk_191_394 hx (by omega) (by omega) (by omega) e2 (pc' := 395) rfl ?_
  refine T_ld zk_191_395 rfl rfl rfl (pc' := 396) rfl ?_
  refine T_ld zk_191_396 rfl rfl rfl (pc' := 397) rfl ?_
  refine T_op zk_191_397 rfl X_ic (pc' := 398) rfl ?_
  refine T_op zk_191_398 rfl X_add (pc' := 399) rfl ?_
  refine T_sld (n := n0) (w := p3) zk_191_399 hx (by omega) (by omega) (by omega) e3 (pc' := 400) rfl ?_
  refine T_calli (K := fun y1 σ' => (True) ∧ JR σ') (r := []) zk_191_400 rfl rfl rfl rfl rfl rfl (Or.inr ⟨_, _, _, _, rfl, vd_0, rfl⟩) (fun σ' h => u_79 p1 p2 p3 (by omega) (by omega) (by omega) σ' h) (pc' := 403) rfl (fun y1 => ?_)
  refine G_ex (fun hy1 => ?_)
  refine T_op (st' := []) zk_191_403 rfl rfl (pc' := 404) rfl ?_
  refine T_ld zk_191_404 rfl rfl rfl (pc' := 405) rfl ?_
  refine T_ld zk_191_405 rfl rfl rfl (pc' := 406) rfl ?_
  refine T_ld zk_191_406 rfl rfl rfl (pc' := 407) rfl ?_
  refine T_op zk_191_407 rfl X_ic (pc' := 408) rfl ?_
  refine T_op zk_191_408 rfl X_add (pc' := 409) rfl ?_
  refine T_sld (n := n0) (w := p1) zk_191_409 hx (by omega) (by omega) (by omega) e1 (pc' := 410) rfl ?_
  refine T_ld zk_191_410 rfl rfl rfl (pc' := 411) rfl ?_
  refine T_ld zk_191_411 rfl rfl rfl (pc' := 412) rfl ?_
  refine T_op zk_191_412 rfl X_ic (pc' := 413) rfl ?_
  refine T_op zk_191_413 rfl X_add (pc' := 414) rfl ?_
  refine T_sld (n := n0) (w := p2) zk_191_414 hx (by omega) (by omega) (by omega) e2 (pc' := 415) rfl ?_
  refine T_ld zk_191_415 rfl rfl rfl (pc' := 416) rfl ?_
  refine T_ld zk_191_416 rfl rfl rfl (pc' := 417) rfl ?_
  refine T_op zk_191_417 rfl X_ic (pc' := 418) rfl ?_
  refine T_op zk_191_418 rfl X_add (pc' := 419) rfl ?_
  refine T_sld (n := n0) (w := p3) zk_191_419 hx (by omega) (by omega) (by omega) e3 (pc' := 420) rfl ?_
  refine T_calli (K := fun y2 σ' => (True) ∧ JR σ') (r := []) zk_191_420 rfl rfl rfl rfl rfl rfl (Or.inr ⟨_, _, _, _, rfl, vd_35, rfl⟩) (fun σ' h => u_132 p1 p2 p3 (by omega) (by omega) (by omega) σ' h) (pc' := 423) rfl (fun y2 => ?_)
  refine G_ex (fun hy2 => ?_)
  refine T_op (st' := []) zk_191_423 rfl rfl (pc' := 424) rfl ?_
  refine T_goto zk_191_424 ?_
  refine T_iinc (L' := [(0, .ref 0), (1, av 0 0 0), (2, av 35 0 0), (3, iv (i + 6))]) zk_191_1610 (nL := 4) rfl rfl (show _ = some (iv i) from rfl) rfl (pc' := 1613) rfl ?_
  refine T_goto zk_191_1613 ?_
  exact hk
theorem zl_5 {xs : Nat × (Nat → Int32)} {n0 : Nat} (hx : xs.1 = n0 + 1) {Q : Option Value → ZS → Prop} (i : Int) (hi : 0 ≤ i ∧ i + 6 ≤ n0 ∧ n0 ≤ 3072) (p1 p2 p3 p4 p5 : Int) (h1 : -2147483648 ≤ p1 ∧ p1 ≤ 2147483647) (h2 : -2147483648 ≤ p2 ∧ p2 ≤ 2147483647) (h3 : -2147483648 ≤ p3 ∧ p3 ≤ 2147483647) (h4 : -2147483648 ≤ p4 ∧ p4 ≤ 2147483647) (h5 : -2147483648 ≤ p5 ∧ p5 ≤ 2147483647) (e1 : xs.2 (Int.toNat (i + 1)) = Int32.ofInt p1) (e2 : xs.2 (Int.toNat (i + 2)) = Int32.ofInt p2) (e3 : xs.2 (Int.toNat (i + 3)) = Int32.ofInt p3) (e4 : xs.2 (Int.toNat (i + 4)) = Int32.ofInt p4) (e5 : xs.2 (Int.toNat (i + 5)) = Int32.ofInt p5) (hk : TJ xs JR 120 191 18 [(0, .ref 0), (1, av 0 0 0), (2, av 35 0 0), (3, iv (i + 6))] [] Q) : TJ xs JR 120 191 427 [(0, .ref 0), (1, av 0 0 0), (2, av 35 0 0), (3, iv i)] [] Q := by
  refine T_ld zk_191_427 rfl rfl rfl (pc' := 428) rfl ?_
  refine T_ld zk_191_428 rfl rfl rfl (pc' := 429) rfl ?_
  refine T_ld zk_191_429 rfl rfl rfl (pc' := 430) rfl ?_
  refine T_op zk_191_430 rfl X_ic (pc' := 431) rfl ?_
  refine T_op zk_191_431 rfl X_add (pc' := 432) rfl ?_
  refine T_sld (n := n0) (w := p1) zk_191_432 hx (by omega) (by omega) (by omega) e1 (pc' := 433) rfl ?_
  refine T_calli (K := fun y1 σ' => (True) ∧ JR σ') (r := []) zk_191_433 rfl rfl rfl rfl rfl rfl (Or.inr ⟨_, _, _, _, rfl, vd_0, rfl⟩) (fun σ' h => u_81 p1 (by omega) σ' h) (pc' := 436) rfl (fun y1 => ?_)
  refine G_ex (fun hy1 => ?_)
  refine T_op (st' := []) zk_191_436 rfl rfl (pc' := 437) rfl ?_
  refine T_ld zk_191_437 rfl rfl rfl (pc' := 438) rfl ?_
  refine T_ld zk_191_438 rfl rfl rfl (pc' := 439) rfl ?_
  refine T_ld zk_191_439 rfl rfl rfl (pc' := 440) rfl ?_
  refine T_op zk_191_440 rfl X_ic (pc' := 441) rfl ?_
  refine T_op zk_191_441 rfl X_add (pc' := 442) rfl ?_
  refine T_sld (n := n0) (w := p1) zk_191_442 hx (by omega) (by omega) (by omega) e1 (pc' := 443) rfl ?_
  refine T_calli (K := fun y2 σ' => (True) ∧ JR σ') (r := []) zk_191_443 rfl rfl rfl rfl rfl rfl (Or.inr ⟨_, _, _, _, rfl, vd_35, rfl⟩) (fun σ' h => u_133 p1 (by omega) σ' h) (pc' := 446) rfl (fun y2 => ?_)
  refine G_ex (fun hy2 => ?_)
  refine T_op (st' := []) zk_191_446 rfl rfl (pc' := 447) rfl ?_
  refine T_goto zk_191_447 ?_
  refine T_iinc (L' := [(0, .ref 0), (1, av 0 0 0), (2, av 35 0 0), (3, iv (i + 6))]) zk_191_1610 (nL := 4) rfl rfl (show _ = some (iv i) from rfl) rfl (pc' := 1613) rfl ?_
  refine T_goto zk_191_1613 ?_
  exact hk
theorem zl_6 {xs : Nat × (Nat → Int32)} {n0 : Nat} (hx : xs.1 = n0 + 1) {Q : Option Value → ZS → Prop} (i : Int) (hi : 0 ≤ i ∧ i + 6 ≤ n0 ∧ n0 ≤ 3072) (p1 p2 p3 p4 p5 : Int) (h1 : -2147483648 ≤ p1 ∧ p1 ≤ 2147483647) (h2 : -2147483648 ≤ p2 ∧ p2 ≤ 2147483647) (h3 : -2147483648 ≤ p3 ∧ p3 ≤ 2147483647) (h4 : -2147483648 ≤ p4 ∧ p4 ≤ 2147483647) (h5 : -2147483648 ≤ p5 ∧ p5 ≤ 2147483647) (e1 : xs.2 (Int.toNat (i + 1)) = Int32.ofInt p1) (e2 : xs.2 (Int.toNat (i + 2)) = Int32.ofInt p2) (e3 : xs.2 (Int.toNat (i + 3)) = Int32.ofInt p3) (e4 : xs.2 (Int.toNat (i + 4)) = Int32.ofInt p4) (e5 : xs.2 (Int.toNat (i + 5)) = Int32.ofInt p5) (hk : TJ xs JR 120 191 18 [(0, .ref 0), (1, av 0 0 0), (2, av 35 0 0), (3, iv (i + 6))] [] Q) : TJ xs JR 120 191 450 [(0, .ref 0), (1, av 0 0 0), (2, av 35 0 0), (3, iv i)] [] Q := by
  refine T_ld zk_191_450 rfl rfl rfl (pc' := 451) rfl ?_
  refine T_ld zk_191_451 rfl rfl rfl (pc' := 452) rfl ?_
  refine T_ld zk_191_452 rfl rfl rfl (pc' := 453) rfl ?_
  refine T_op zk_191_453 rfl X_ic (pc' := 454) rfl ?_
  refine T_op zk_191_454 rfl X_add (pc' := 455) rfl ?_
  refine T_sld (n := n0) (w := p1) zk_191_455 hx (by omega) (by omega) (by omega) e1 (pc' := 456) rfl ?_
  refine T_ld zk_191_456 rfl rfl rfl (pc' := 457) rfl ?_
  refine T_ld zk_191_457 rfl rfl rfl (pc' := 458) rfl ?_
  refine T_op zk_191_458 rfl X_ic (pc' := 459) rfl ?_
  refine T_op zk_191_459 rfl X_add (pc' := 460) rfl ?_
  refine T_sld (n := n0) (w := p2) zk_191_460 hx (by omega) (by omega) (by omega) e2 (pc' := 461) rfl ?_
  refine T_if_eq zk_191_461 (by omega) (pc' := 464) rfl (fun b1 => ?_) (fun b1 => ?_)
  ·
    refine T_op zk_191_468 rfl X_ic (pc' := 469) rfl ?_
    refine T_calli (K := fun y2 σ' => (True) ∧ JR σ') (r := []) zk_191_469 rfl rfl rfl rfl rfl rfl (Or.inr ⟨_, _, _, _, rfl, vd_0, rfl⟩) (fun σ' h => u_82 p1 0 (by omega) (by omega) σ' h) (pc' := 472) rfl (fun y2 => ?_)
    refine G_ex (fun hy2 => ?_)
    refine T_op (st' := []) zk_191_472 rfl rfl (pc' := 473) rfl ?_
    refine T_ld zk_191_473 rfl rfl rfl (pc' := 474) rfl ?_
    refine T_ld zk_191_474 rfl rfl rfl (pc' := 475) rfl ?_
    refine T_ld zk_191_475 rfl rfl rfl (pc' := 476) rfl ?_
    refine T_op zk_191_476 rfl X_ic (pc' := 477) rfl ?_
    refine T_op zk_191_477 rfl X_add (pc' := 478) rfl ?_
    refine T_sld (n := n0) (w := p1) zk_191_478 hx (by omega) (by omega) (by omega) e1 (pc' := 479) rfl ?_
    refine T_ld zk_191_479 rfl rfl rfl (pc' := 480) rfl ?_
    refine T_ld zk_191_480 rfl rfl rfl (pc' := 481) rfl ?_
    refine T_op zk_191_481 rfl X_ic (pc' := 482) rfl ?_
    refine T_op zk_191_482 rfl X_add (pc' := 483) rfl ?_
    refine T_sld (n := n0) (w := p2) zk_191_483 hx (by omega) (by omega) (by omega) e2 (pc' := 484) rfl ?_
    refine T_if_eq zk_191_484 (by omega) (pc' := 487) rfl (fun b3 => ?_) (fun b3 => ?_)
    ·
      refine T_op zk_191_491 rfl X_ic (pc' := 492) rfl ?_
      refine T_calli (K := fun y4 σ' => (True) ∧ JR σ') (r := []) zk_191_492 rfl rfl rfl rfl rfl rfl (Or.inr ⟨_, _, _, _, rfl, vd_35, rfl⟩) (fun σ' h => u_134 p1 0 (by omega) (by omega) σ' h) (pc' := 495) rfl (fun y4 => ?_)
      refine G_ex (fun hy4 => ?_)
      refine T_op (st' := []) zk_191_495 rfl rfl (pc' := 496) rfl ?_
      refine T_goto zk_191_496 ?_
      refine T_iinc (L' := [(0, .ref 0), (1, av 0 0 0), (2, av 35 0 0), (3, iv (i + 6))]) zk_191_1610 (nL := 4) rfl rfl (show _ = some (iv i) from rfl) rfl (pc' := 1613) rfl ?_
      refine T_goto zk_191_1613 ?_
      exact hk
    · exfalso; omega
  ·
    refine T_op zk_191_464 rfl X_ic (pc' := 465) rfl ?_
    refine T_goto zk_191_465 ?_
    refine T_calli (K := fun y5 σ' => (True) ∧ JR σ') (r := []) zk_191_469 rfl rfl rfl rfl rfl rfl (Or.inr ⟨_, _, _, _, rfl, vd_0, rfl⟩) (fun σ' h => u_82 p1 1 (by omega) (by omega) σ' h) (pc' := 472) rfl (fun y5 => ?_)
    refine G_ex (fun hy5 => ?_)
    refine T_op (st' := []) zk_191_472 rfl rfl (pc' := 473) rfl ?_
    refine T_ld zk_191_473 rfl rfl rfl (pc' := 474) rfl ?_
    refine T_ld zk_191_474 rfl rfl rfl (pc' := 475) rfl ?_
    refine T_ld zk_191_475 rfl rfl rfl (pc' := 476) rfl ?_
    refine T_op zk_191_476 rfl X_ic (pc' := 477) rfl ?_
    refine T_op zk_191_477 rfl X_add (pc' := 478) rfl ?_
    refine T_sld (n := n0) (w := p1) zk_191_478 hx (by omega) (by omega) (by omega) e1 (pc' := 479) rfl ?_
    refine T_ld zk_191_479 rfl rfl rfl (pc' := 480) rfl ?_
    refine T_ld zk_191_480 rfl rfl rfl (pc' := 481) rfl ?_
    refine T_op zk_191_481 rfl X_ic (pc' := 482) rfl ?_
    refine T_op zk_191_482 rfl X_add (pc' := 483) rfl ?_
    refine T_sld (n := n0) (w := p2) zk_191_483 hx (by omega) (by omega) (by omega) e2 (pc' := 484) rfl ?_
    refine T_if_eq zk_191_484 (by omega) (pc' := 487) rfl (fun b6 => ?_) (fun b6 => ?_)
    · exfalso; omega
    ·
      refine T_op zk_191_487 rfl X_ic (pc' := 488) rfl ?_
      refine T_goto zk_191_488 ?_
      refine T_calli (K := fun y7 σ' => (True) ∧ JR σ') (r := []) zk_191_492 rfl rfl rfl rfl rfl rfl (Or.inr ⟨_, _, _, _, rfl, vd_35, rfl⟩) (fun σ' h => u_134 p1 1 (by omega) (by omega) σ' h) (pc' := 495) rfl (fun y7 => ?_)
      refine G_ex (fun hy7 => ?_)
      refine T_op (st' := []) zk_191_495 rfl rfl (pc' := 496) rfl ?_
      refine T_goto zk_191_496 ?_
      refine T_iinc (L' := [(0, .ref 0), (1, av 0 0 0), (2, av 35 0 0), (3, iv (i + 6))]) zk_191_1610 (nL := 4) rfl rfl (show _ = some (iv i) from rfl) rfl (pc' := 1613) rfl ?_
      refine T_goto zk_191_1613 ?_
      exact hk
theorem zl_7 {xs : Nat × (Nat → Int32)} {n0 : Nat} (hx : xs.1 = n0 + 1) {Q : Option Value → ZS → Prop} (i : Int) (hi : 0 ≤ i ∧ i + 6 ≤ n0 ∧ n0 ≤ 3072) (p1 p2 p3 p4 p5 : Int) (h1 : -2147483648 ≤ p1 ∧ p1 ≤ 2147483647) (h2 : -2147483648 ≤ p2 ∧ p2 ≤ 2147483647) (h3 : -2147483648 ≤ p3 ∧ p3 ≤ 2147483647) (h4 : -2147483648 ≤ p4 ∧ p4 ≤ 2147483647) (h5 : -2147483648 ≤ p5 ∧ p5 ≤ 2147483647) (e1 : xs.2 (Int.toNat (i + 1)) = Int32.ofInt p1) (e2 : xs.2 (Int.toNat (i + 2)) = Int32.ofInt p2) (e3 : xs.2 (Int.toNat (i + 3)) = Int32.ofInt p3) (e4 : xs.2 (Int.toNat (i + 4)) = Int32.ofInt p4) (e5 : xs.2 (Int.toNat (i + 5)) = Int32.ofInt p5) (hk : TJ xs JR 120 191 18 [(0, .ref 0), (1, av 0 0 0), (2, av 35 0 0), (3, iv (i + 6))] [] Q) : TJ xs JR 120 191 499 [(0, .ref 0), (1, av 0 0 0), (2, av 35 0 0), (3, iv i)] [] Q := by
  refine T_ld zk_191_499 rfl rfl rfl (pc' := 500) rfl ?_
  refine T_ld zk_191_500 rfl rfl rfl (pc' := 501) rfl ?_
  refine T_ld zk_191_501 rfl rfl rfl (pc' := 502) rfl ?_
  refine T_op zk_191_502 rfl X_ic (pc' := 503) rfl ?_
  refine T_op zk_191_503 rfl X_add (pc' := 504) rfl ?_
  refine T_sld (n := n0) (w := p1) zk_191_504 hx (by omega) (by omega) (by omega) e1 (pc' := 505) rfl ?_
  refine T_ld zk_191_505 rfl rfl rfl (pc' := 506) rfl ?_
  refine T_ld zk_191_506 rfl rfl rfl (pc' := 507) rfl ?_
  refine T_op zk_191_507 rfl X_ic (pc' := 508) rfl ?_
  refine T_op zk_191_508 rfl X_add (pc' := 509) rfl ?_
  refine T_sld (n := n0) (w := p2) zk_191_509 hx (by omega) (by omega) (by omega) e2 (pc' := 510) rfl ?_
  refine T_ld zk_191_510 rfl rfl rfl (pc' := 511) rfl ?_
  refine T_ld zk_191_511 rfl rfl rfl (pc' := 512) rfl ?_
  refine T_op zk_191_512 rfl X_ic (pc' := 513) rfl ?_
  refine T_op zk_191_513 rfl X_add (pc' := 514) rfl ?_
  refine T_sld (n := n0) (w := p3) zk_191_514 hx (by omega) (by omega) (by omega) e3 (pc' := 515) rfl ?_
  refine T_calli (K := fun y1 σ' => PX_7 p1 p2 p3 y1 σ') (r := []) zk_191_515 rfl rfl rfl rfl rfl rfl (Or.inr ⟨_, _, _, _, rfl, vd_0, rfl⟩) (fun σ' h => ux_7 p1 p2 p3 (by omega) (by omega) (by omega) σ' h) (pc' := 518) rfl (fun y1 => ?_)
  refine T_op (st' := []) zk_191_518 rfl rfl (pc' := 519) rfl ?_
  refine T_ld zk_191_519 rfl rfl rfl (pc' := 520) rfl ?_
  refine T_ld zk_191_520 rfl rfl rfl (pc' := 521) rfl ?_
  refine T_ld zk_191_521 rfl rfl rfl (pc' := 522) rfl ?_
  refine T_op zk_191_522 rfl X_ic (pc' := 523) rfl ?_
  refine T_op zk_191_523 rfl X_add (pc' := 524) rfl ?_
  refine T_sld (n := n0) (w := p1) zk_191_524 hx (by omega) (by omega) (by omega) e1 (pc' := 525) rfl ?_
  refine T_ld zk_191_525 rfl rfl rfl (pc' := 526) rfl ?_
  refine T_ld zk_191_526 rfl rfl rfl (pc' := 527) rfl ?_
  refine T_op zk_191_527 rfl X_ic (pc' := 528) rfl ?_
  refine T_op zk_191_528 rfl X_add (pc' := 529) rfl ?_
  refine T_sld (n := n0) (w := p2) zk_191_529 hx (by omega) (by omega) (by omega) e2 (pc' := 530) rfl ?_
  refine T_ld zk_191_530 rfl rfl rfl (pc' := 531) rfl ?_
  refine T_ld zk_191_531 rfl rfl rfl (pc' := 532) rfl ?_
  refine T_op zk_191_532 rfl X_ic (pc' := 533) rfl ?_
  refine T_op zk_191_533 rfl X_add (pc' := 534) rfl ?_
  refine T_sld (n := n0) (w := p3) zk_191_534 hx (by omega) (by omega) (by omega) e3 (pc' := 535) rfl ?_
  refine T_calli (K := fun y2 σ' => (True) ∧ JR σ') (r := []) zk_191_535 rfl rfl rfl rfl rfl rfl (Or.inr ⟨_, _, _, _, rfl, vd_35, rfl⟩) (fun σ' h => um_7 p1 p2 p3 (by omega) (by omega) (by omega) y1 σ' h) (pc' := 538) rfl (fun y2 => ?_)
  refine G_ex (fun hy2 => ?_)
  refine T_op (st' := []) zk_191_538 rfl rfl (pc' := 539) rfl ?_
  refine T_goto zk_191_539 ?_
  refine T_iinc (L' := [(0, .ref 0), (1, av 0 0 0), (2, av 35 0 0), (3, iv (i + 6))]) zk_191_1610 (nL := 4) rfl rfl (show _ = some (iv i) from rfl) rfl (pc' := 1613) rfl ?_
  refine T_goto zk_191_1613 ?_
  exact hk
theorem zl_8 {xs : Nat × (Nat → Int32)} {n0 : Nat} (hx : xs.1 = n0 + 1) {Q : Option Value → ZS → Prop} (i : Int) (hi : 0 ≤ i ∧ i + 6 ≤ n0 ∧ n0 ≤ 3072) (p1 p2 p3 p4 p5 : Int) (h1 : -2147483648 ≤ p1 ∧ p1 ≤ 2147483647) (h2 : -2147483648 ≤ p2 ∧ p2 ≤ 2147483647) (h3 : -2147483648 ≤ p3 ∧ p3 ≤ 2147483647) (h4 : -2147483648 ≤ p4 ∧ p4 ≤ 2147483647) (h5 : -2147483648 ≤ p5 ∧ p5 ≤ 2147483647) (e1 : xs.2 (Int.toNat (i + 1)) = Int32.ofInt p1) (e2 : xs.2 (Int.toNat (i + 2)) = Int32.ofInt p2) (e3 : xs.2 (Int.toNat (i + 3)) = Int32.ofInt p3) (e4 : xs.2 (Int.toNat (i + 4)) = Int32.ofInt p4) (e5 : xs.2 (Int.toNat (i + 5)) = Int32.ofInt p5) (hk : TJ xs JR 120 191 18 [(0, .ref 0), (1, av 0 0 0), (2, av 35 0 0), (3, iv (i + 6))] [] Q) : TJ xs JR 120 191 542 [(0, .ref 0), (1, av 0 0 0), (2, av 35 0 0), (3, iv i)] [] Q := by
  refine T_ld zk_191_542 rfl rfl rfl (pc' := 543) rfl ?_
  refine T_ld zk_191_543 rfl rfl rfl (pc' := 544) rfl ?_
  refine T_ld zk_191_544 rfl rfl rfl (pc' := 545) rfl ?_
  refine T_op zk_191_545 rfl X_ic (pc' := 546) rfl ?_
  refine T_op zk_191_546 rfl X_add (pc' := 547) rfl ?_
  refine T_sld (n := n0) (w := p1) zk_191_547 hx (by omega) (by omega) (by omega) e1 (pc' := 548) rfl ?_
  refine T_ld zk_191_548 rfl rfl rfl (pc' := 549) rfl ?_
  refine T_ld zk_191_549 rfl rfl rfl (pc' := 550) rfl ?_
  refine T_op zk_191_550 rfl X_ic (pc' := 551) rfl ?_
  refine T_op zk_191_551 rfl X_add (pc' := 552) rfl ?_
  refine T_sld (n := n0) (w := p2) zk_191_552 hx (by omega) (by omega) (by omega) e2 (pc' := 553) rfl ?_
  refine T_ld zk_191_553 rfl rfl rfl (pc' := 554) rfl ?_
  refine T_ld zk_191_554 rfl rfl rfl (pc' := 555) rfl ?_
  refine T_op zk_191_555 rfl X_ic (pc' := 556) rfl ?_
  refine T_op zk_191_556 rfl X_add (pc' := 557) rfl ?_
  refine T_sld (n := n0) (w := p3) zk_191_557 hx (by omega) (by omega) (by omega) e3 (pc' := 558) rfl ?_
  refine T_i2l (by omega) zk_191_558 ?_
  refine T_op zk_191_559 rfl (X_bi (v := 32) (by decide)) (pc' := 561) rfl ?_
  refine T_unkSX zk_191_561 rfl ?_
  refine T_ld zk_191_562 rfl rfl rfl (pc' := 563) rfl ?_
  refine T_ld zk_191_563 rfl rfl rfl (pc' := 564) rfl ?_
  refine T_op zk_191_564 rfl X_ic (pc' := 565) rfl ?_
  refine T_op zk_191_565 rfl X_add (pc' := 566) rfl ?_
  refine T_sld (n := n0) (w := p4) zk_191_566 hx (by omega) (by omega) (by omega) e4 (pc' := 567) rfl ?_
  refine T_i2l (by omega) zk_191_567 ?_
  refine T_ldc2 zk_191_568 (pc' := 571) rfl ?_
  refine T_unkLX zk_191_571 rfl ?_
  refine T_unkLX zk_191_572 rfl ?_
  refine T_calli (K := fun y1 σ' => PX_8 p1 p2 (zXL .lor (zXS .lshl p3 32) (zXL .land p4 4294967295)) y1 σ') (r := []) zk_191_573 rfl rfl rfl rfl rfl rfl (Or.inr ⟨_, _, _, _, rfl, vd_0, rfl⟩) (fun σ' h => ux_8 p1 p2 (zXL .lor (zXS .lshl p3 32) (zXL .land p4 4294967295)) (by omega) (by omega) σ' h) (pc' := 576) rfl (fun y1 => ?_)
  refine T_op (st' := []) zk_191_576 rfl rfl (pc' := 577) rfl ?_
  refine T_ld zk_191_577 rfl rfl rfl (pc' := 578) rfl ?_
  refine T_ld zk_191_578 rfl rfl rfl (pc' := 579) rfl ?_
  refine T_ld zk_191_579 rfl rfl rfl (pc' := 580) rfl ?_
  refine T_op zk_191_580 rfl X_ic (pc' := 581) rfl ?_
  refine T_op zk_191_581 rfl X_add (pc' := 582) rfl ?_
  refine T_sld (n := n0) (w := p1) zk_191_582 hx (by omega) (by omega) (by omega) e1 (pc' := 583) rfl ?_
  refine T_ld zk_191_583 rfl rfl rfl (pc' := 584) rfl ?_
  refine T_ld zk_191_584 rfl rfl rfl (pc' := 585) rfl ?_
  refine T_op zk_191_585 rfl X_ic (pc' := 586) rfl ?_
  refine T_op zk_191_586 rfl X_add (pc' := 587) rfl ?_
  refine T_sld (n := n0) (w := p2) zk_191_587 hx (by omega) (by omega) (by omega) e2 (pc' := 588) rfl ?_
  refine T_ld zk_191_588 rfl rfl rfl (pc' := 589) rfl ?_
  refine T_ld zk_191_589 rfl rfl rfl (pc' := 590) rfl ?_
  refine T_op zk_191_590 rfl X_ic (pc' := 591) rfl ?_
  refine T_op zk_191_591 rfl X_add (pc' := 592) rfl ?_
  refine T_sld (n := n0) (w := p3) zk_191_592 hx (by omega) (by omega) (by omega) e3 (pc' := 593) rfl ?_
  refine T_i2l (by omega) zk_191_593 ?_
  refine T_op zk_191_594 rfl (X_bi (v := 32) (by decide)) (pc' := 596) rfl ?_
  refine T_unkSX zk_191_596 rfl ?_
  refine T_ld zk_191_597 rfl rfl rfl (pc' := 598) rfl ?_
  refine T_ld zk_191_598 rfl rfl rfl (pc' := 599) rfl ?_
  refine T_op zk_191_599 rfl X_ic (pc' := 600) rfl ?_
  refine T_op zk_191_600 rfl X_add (pc' := 601) rfl ?_
  refine T_sld (n := n0) (w := p4) zk_191_601 hx (by omega) (by omega) (by omega) e4 (pc' := 602) rfl ?_
  refine T_i2l (by omega) zk_191_602 ?_
  refine T_ldc2 zk_191_603 (pc' := 606) rfl ?_
  refine T_unkLX zk_191_606 rfl ?_
  refine T_unkLX zk_191_607 rfl ?_
  refine T_calli (K := fun y2 σ' => (y1 = y2) ∧ JR σ') (r := []) zk_191_608 rfl rfl rfl rfl rfl rfl (Or.inr ⟨_, _, _, _, rfl, vd_35, rfl⟩) (fun σ' h => um_8 p1 p2 (zXL .lor (zXS .lshl p3 32) (zXL .land p4 4294967295)) (by omega) (by omega) y1 σ' h) (pc' := 611) rfl (fun y2 => ?_)
  refine G_ex (fun hy2 => ?_)
  refine T_op (st' := []) zk_191_611 rfl rfl (pc' := 612) rfl ?_
  refine T_goto zk_191_612 ?_
  refine T_iinc (L' := [(0, .ref 0), (1, av 0 0 0), (2, av 35 0 0), (3, iv (i + 6))]) zk_191_1610 (nL := 4) rfl rfl (show _ = some (iv i) from rfl) rfl (pc' := 1613) rfl ?_
  refine T_goto zk_191_1613 ?_
  exact hk
theorem zl_9 {xs : Nat × (Nat → Int32)} {n0 : Nat} (hx : xs.1 = n0 + 1) {Q : Option Value → ZS → Prop} (i : Int) (hi : 0 ≤ i ∧ i + 6 ≤ n0 ∧ n0 ≤ 3072) (p1 p2 p3 p4 p5 : Int) (h1 : -2147483648 ≤ p1 ∧ p1 ≤ 2147483647) (h2 : -2147483648 ≤ p2 ∧ p2 ≤ 2147483647) (h3 : -2147483648 ≤ p3 ∧ p3 ≤ 2147483647) (h4 : -2147483648 ≤ p4 ∧ p4 ≤ 2147483647) (h5 : -2147483648 ≤ p5 ∧ p5 ≤ 2147483647) (e1 : xs.2 (Int.toNat (i + 1)) = Int32.ofInt p1) (e2 : xs.2 (Int.toNat (i + 2)) = Int32.ofInt p2) (e3 : xs.2 (Int.toNat (i + 3)) = Int32.ofInt p3) (e4 : xs.2 (Int.toNat (i + 4)) = Int32.ofInt p4) (e5 : xs.2 (Int.toNat (i + 5)) = Int32.ofInt p5) (hk : TJ xs JR 120 191 18 [(0, .ref 0), (1, av 0 0 0), (2, av 35 0 0), (3, iv (i + 6))] [] Q) : TJ xs JR 120 191 615 [(0, .ref 0), (1, av 0 0 0), (2, av 35 0 0), (3, iv i)] [] Q := by
  refine T_ld zk_191_615 rfl rfl rfl (pc' := 616) rfl ?_
  refine T_ld zk_191_616 rfl rfl rfl (pc' := 617) rfl ?_
  refine T_ld zk_191_617 rfl rfl rfl (pc' := 618) rfl ?_
  refine T_op zk_191_618 rfl X_ic (pc' := 619) rfl ?_
  refine T_op zk_191_619 rfl X_add (pc' := 620) rfl ?_
  refine T_sld (n := n0) (w := p1) zk_191_620 hx (by omega) (by omega) (by omega) e1 (pc' := 621) rfl ?_
  refine T_ld zk_191_621 rfl rfl rfl (pc' := 622) rfl ?_
  refine T_ld zk_191_622 rfl rfl rfl (pc' := 623) rfl ?_
  refine T_op zk_191_623 rfl X_ic (pc' := 624) rfl ?_
  refine T_op zk_191_624 rfl X_add (pc' := 625) rfl ?_
  refine T_sld (n := n0) (w := p2) zk_191_625 hx (by omega) (by omega) (by omega) e2 (pc' := 626) rfl ?_
  refine T_ld zk_191_626 rfl rfl rfl (pc' := 627) rfl ?_
  refine T_ld zk_191_627 rfl rfl rfl (pc' := 628) rfl ?_
  refine T_op zk_191_628 rfl X_ic (pc' := 629) rfl ?_
  refine T_op zk_191_629 rfl X_add (pc' := 630) rfl ?_
  refine T_sld (n := n0) (w := p3) zk_191_630 hx (by omega) (by omega) (by omega) e3 (pc' := 631) rfl ?_
  refine T_ld zk_191_631 rfl rfl rfl (pc' := 632) rfl ?_
  refine T_ld zk_191_632 rfl rfl rfl (pc' := 633) rfl ?_
  refine T_op zk_191_633 rfl X_ic (pc' := 634) rfl ?_
  refine T_op zk_191_634 rfl X_add (pc' := 635) rfl ?_
  refine T_sld (n := n0) (w := p4) zk_191_635 hx (by omega) (by omega) (by omega) e4 (pc' := 636) rfl ?_
  refine T_ld zk_191_636 rfl rfl rfl (pc' := 637) rfl ?_
  refine T_ld zk_191_637 rfl rfl rfl (pc' := 638) rfl ?_
  refine T_op zk_191_638 rfl X_ic (pc' := 639) rfl ?_
  refine T_op zk_191_639 rfl X_add (pc' := 640) rfl ?_
  refine T_sld (n := n0) (w := p5) zk_191_640 hx (by omega) (by omega) (by omega) e5 (pc' := 641) rfl ?_
  refine T_calli (K := fun y1 σ' => PX_9 p1 p2 p3 p4 p5 y1 σ') (r := []) zk_191_641 rfl rfl rfl rfl rfl rfl (Or.inr ⟨_, _, _, _, rfl, vd_0, rfl⟩) (fun σ' h => ux_9 p1 p2 p3 p4 p5 (by omega) (by omega) (by omega) (by omega) (by omega) σ' h) (pc' := 644) rfl (fun y1 => ?_)
  refine T_op (st' := []) zk_191_644 rfl rfl (pc' := 645) rfl ?_
  refine T_ld zk_191_645 rfl rfl rfl (pc' := 646) rfl ?_
  refine T_ld zk_191_646 rfl rfl rfl (pc' := 647) rfl ?_
  refine T_ld zk_191_647 rfl rfl rfl (pc' := 648) rfl ?_
  refine T_op zk_191_648 rfl X_ic (pc' := 649) rfl ?_
  refine T_op zk_191_649 rfl X_add (pc' := 650) rfl ?_
  refine T_sld (n := n0) (w := p1) zk_191_650 hx (by omega) (by omega) (by omega) e1 (pc' := 651) rfl ?_
  refine T_ld zk_191_651 rfl rfl rfl (pc' := 652) rfl ?_
  refine T_ld zk_191_652 rfl rfl rfl (pc' := 653) rfl ?_
  refine T_op zk_191_653 rfl X_ic (pc' := 654) rfl ?_
  refine T_op zk_191_654 rfl X_add (pc' := 655) rfl ?_
  refine T_sld (n := n0) (w := p2) zk_191_655 hx (by omega) (by omega) (by omega) e2 (pc' := 656) rfl ?_
  refine T_ld zk_191_656 rfl rfl rfl (pc' := 657) rfl ?_
  refine T_ld zk_191_657 rfl rfl rfl (pc' := 658) rfl ?_
  refine T_op zk_191_658 rfl X_ic (pc' := 659) rfl ?_
  refine T_op zk_191_659 rfl X_add (pc' := 660) rfl ?_
  refine T_sld (n := n0) (w := p3) zk_191_660 hx (by omega) (by omega) (by omega) e3 (pc' := 661) rfl ?_
  refine T_ld zk_191_661 rfl rfl rfl (pc' := 662) rfl ?_
  refine T_ld zk_191_662 rfl rfl rfl (pc' := 663) rfl ?_
  refine T_op zk_191_663 rfl X_ic (pc' := 664) rfl ?_
  refine T_op zk_191_664 rfl X_add (pc' := 665) rfl ?_
  refine T_sld (n := n0) (w := p4) zk_191_665 hx (by omega) (by omega) (by omega) e4 (pc' := 666) rfl ?_
  refine T_ld zk_191_666 rfl rfl rfl (pc' := 667) rfl ?_
  refine T_ld zk_191_667 rfl rfl rfl (pc' := 668) rfl ?_
  refine T_op zk_191_668 rfl X_ic (pc' := 669) rfl ?_
  refine T_op zk_191_669 rfl X_add (pc' := 670) rfl ?_
  refine T_sld (n := n0) (w := p5) zk_191_670 hx (by omega) (by omega) (by omega) e5 (pc' := 671) rfl ?_
  refine T_calli (K := fun y2 σ' => (y1 = y2) ∧ JR σ') (r := []) zk_191_671 rfl rfl rfl rfl rfl rfl (Or.inr ⟨_, _, _, _, rfl, vd_35, rfl⟩) (fun σ' h => um_9 p1 p2 p3 p4 p5 (by omega) (by omega) (by omega) (by omega) (by omega) y1 σ' h) (pc' := 674) rfl (fun y2 => ?_)
  refine G_ex (fun hy2 => ?_)
  refine T_op (st' := []) zk_191_674 rfl rfl (pc' := 675) rfl ?_
  refine T_goto zk_191_675 ?_
  refine T_iinc (L' := [(0, .ref 0), (1, av 0 0 0), (2, av 35 0 0), (3, iv (i + 6))]) zk_191_1610 (nL := 4) rfl rfl (show _ = some (iv i) from rfl) rfl (pc' := 1613) rfl ?_
  refine T_goto zk_191_1613 ?_
  exact hk
theorem zl_10 {xs : Nat × (Nat → Int32)} {n0 : Nat} (hx : xs.1 = n0 + 1) {Q : Option Value → ZS → Prop} (i : Int) (hi : 0 ≤ i ∧ i + 6 ≤ n0 ∧ n0 ≤ 3072) (p1 p2 p3 p4 p5 : Int) (h1 : -2147483648 ≤ p1 ∧ p1 ≤ 2147483647) (h2 : -2147483648 ≤ p2 ∧ p2 ≤ 2147483647) (h3 : -2147483648 ≤ p3 ∧ p3 ≤ 2147483647) (h4 : -2147483648 ≤ p4 ∧ p4 ≤ 2147483647) (h5 : -2147483648 ≤ p5 ∧ p5 ≤ 2147483647) (e1 : xs.2 (Int.toNat (i + 1)) = Int32.ofInt p1) (e2 : xs.2 (Int.toNat (i + 2)) = Int32.ofInt p2) (e3 : xs.2 (Int.toNat (i + 3)) = Int32.ofInt p3) (e4 : xs.2 (Int.toNat (i + 4)) = Int32.ofInt p4) (e5 : xs.2 (Int.toNat (i + 5)) = Int32.ofInt p5) (hk : TJ xs JR 120 191 18 [(0, .ref 0), (1, av 0 0 0), (2, av 35 0 0), (3, iv (i + 6))] [] Q) : TJ xs JR 120 191 678 [(0, .ref 0), (1, av 0 0 0), (2, av 35 0 0), (3, iv i)] [] Q := by
  refine T_ld zk_191_678 rfl rfl rfl (pc' := 679) rfl ?_
  refine T_ld zk_191_679 rfl rfl rfl (pc' := 680) rfl ?_
  refine T_ld zk_191_680 rfl rfl rfl (pc' := 681) rfl ?_
  refine T_op zk_191_681 rfl X_ic (pc' := 682) rfl ?_
  refine T_op zk_191_682 rfl X_add (pc' := 683) rfl ?_
  refine T_sld (n := n0) (w := p1) zk_191_683 hx (by omega) (by omega) (by omega) e1 (pc' := 684) rfl ?_
  refine T_ld zk_191_684 rfl rfl rfl (pc' := 685) rfl ?_
  refine T_ld zk_191_685 rfl rfl rfl (pc' := 686) rfl ?_
  refine T_op zk_191_686 rfl X_ic (pc' := 687) rfl ?_
  refine T_op zk_191_687 rfl X_add (pc' := 688) rfl ?_
  refine T_sld (n := n0) (w := p2) zk_191_688 hx (by omega) (by omega) (by omega) e2 (pc' := 689) rfl ?_
  refine T_calll (K := fun y1 σ' => (True) ∧ JR σ') (r := []) zk_191_689 rfl rfl rfl rfl rfl rfl (Or.inr ⟨_, _, _, _, rfl, vd_0, rfl⟩) (fun σ' h => u_86 p1 p2 (by omega) (by omega) σ' h) (pc' := 692) rfl (fun y1 => ?_)
  refine G_ex (fun hy1 => ?_)
  refine T_op (st' := []) zk_191_692 rfl rfl (pc' := 693) rfl ?_
  refine T_ld zk_191_693 rfl rfl rfl (pc' := 694) rfl ?_
  refine T_ld zk_191_694 rfl rfl rfl (pc' := 695) rfl ?_
  refine T_ld zk_191_695 rfl rfl rfl (pc' := 696) rfl ?_
  refine T_op zk_191_696 rfl X_ic (pc' := 697) rfl ?_
  refine T_op zk_191_697 rfl X_add (pc' := 698) rfl ?_
  refine T_sld (n := n0) (w := p1) zk_191_698 hx (by omega) (by omega) (by omega) e1 (pc' := 699) rfl ?_
  refine T_ld zk_191_699 rfl rfl rfl (pc' := 700) rfl ?_
  refine T_ld zk_191_700 rfl rfl rfl (pc' := 701) rfl ?_
  refine T_op zk_191_701 rfl X_ic (pc' := 702) rfl ?_
  refine T_op zk_191_702 rfl X_add (pc' := 703) rfl ?_
  refine T_sld (n := n0) (w := p2) zk_191_703 hx (by omega) (by omega) (by omega) e2 (pc' := 704) rfl ?_
  refine T_calll (K := fun y2 σ' => (True) ∧ JR σ') (r := []) zk_191_704 rfl rfl rfl rfl rfl rfl (Or.inr ⟨_, _, _, _, rfl, vd_35, rfl⟩) (fun σ' h => u_138 p1 p2 (by omega) (by omega) σ' h) (pc' := 707) rfl (fun y2 => ?_)
  refine G_ex (fun hy2 => ?_)
  refine T_op (st' := []) zk_191_707 rfl rfl (pc' := 708) rfl ?_
  refine T_goto zk_191_708 ?_
  refine T_iinc (L' := [(0, .ref 0), (1, av 0 0 0), (2, av 35 0 0), (3, iv (i + 6))]) zk_191_1610 (nL := 4) rfl rfl (show _ = some (iv i) from rfl) rfl (pc' := 1613) rfl ?_
  refine T_goto zk_191_1613 ?_
  exact hk
theorem zl_11 {xs : Nat × (Nat → Int32)} {n0 : Nat} (hx : xs.1 = n0 + 1) {Q : Option Value → ZS → Prop} (i : Int) (hi : 0 ≤ i ∧ i + 6 ≤ n0 ∧ n0 ≤ 3072) (p1 p2 p3 p4 p5 : Int) (h1 : -2147483648 ≤ p1 ∧ p1 ≤ 2147483647) (h2 : -2147483648 ≤ p2 ∧ p2 ≤ 2147483647) (h3 : -2147483648 ≤ p3 ∧ p3 ≤ 2147483647) (h4 : -2147483648 ≤ p4 ∧ p4 ≤ 2147483647) (h5 : -2147483648 ≤ p5 ∧ p5 ≤ 2147483647) (e1 : xs.2 (Int.toNat (i + 1)) = Int32.ofInt p1) (e2 : xs.2 (Int.toNat (i + 2)) = Int32.ofInt p2) (e3 : xs.2 (Int.toNat (i + 3)) = Int32.ofInt p3) (e4 : xs.2 (Int.toNat (i + 4)) = Int32.ofInt p4) (e5 : xs.2 (Int.toNat (i + 5)) = Int32.ofInt p5) (hk : TJ xs JR 120 191 18 [(0, .ref 0), (1, av 0 0 0), (2, av 35 0 0), (3, iv (i + 6))] [] Q) : TJ xs JR 120 191 711 [(0, .ref 0), (1, av 0 0 0), (2, av 35 0 0), (3, iv i)] [] Q := by
  refine T_ld zk_191_711 rfl rfl rfl (pc' := 712) rfl ?_
  refine T_ld zk_191_712 rfl rfl rfl (pc' := 713) rfl ?_
  refine T_ld zk_191_713 rfl rfl rfl (pc' := 714) rfl ?_
  refine T_op zk_191_714 rfl X_ic (pc' := 715) rfl ?_
  refine T_op zk_191_715 rfl X_add (pc' := 716) rfl ?_
  refine T_sld (n := n0) (w := p1) zk_191_716 hx (by omega) (by omega) (by omega) e1 (pc' := 717) rfl ?_
  refine T_ld zk_191_717 rfl rfl rfl (pc' := 718) rfl ?_
  refine T_ld zk_191_718 rfl rfl rfl (pc' := 719) rfl ?_
  refine T_op zk_191_719 rfl X_ic (pc' := 720) rfl ?_
  refine T_op zk_191_720 rfl X_add (pc' := 721) rfl ?_
  refine T_sld (n := n0) (w := p2) zk_191_721 hx (by omega) (by omega) (by omega) e2 (pc' := 722) rfl ?_
  refine T_calli (K := fun y1 σ' => PX_11 p1 p2 y1 σ') (r := []) zk_191_722 rfl rfl rfl rfl rfl rfl (Or.inr ⟨_, _, _, _, rfl, vd_0, rfl⟩) (fun σ' h => ux_11 p1 p2 (by omega) (by omega) σ' h) (pc' := 725) rfl (fun y1 => ?_)
  refine T_op (st' := []) zk_191_725 rfl rfl (pc' := 726) rfl ?_
  refine T_ld zk_191_726 rfl rfl rfl (pc' := 727) rfl ?_
  refine T_ld zk_191_727 rfl rfl rfl (pc' := 728) rfl ?_
  refine T_ld zk_191_728 rfl rfl rfl (pc' := 729) rfl ?_
  refine T_op zk_191_729 rfl X_ic (pc' := 730) rfl ?_
  refine T_op zk_191_730 rfl X_add (pc' := 731) rfl ?_
  refine T_sld (n := n0) (w := p1) zk_191_731 hx (by omega) (by omega) (by omega) e1 (pc' := 732) rfl ?_
  refine T_ld zk_191_732 rfl rfl rfl (pc' := 733) rfl ?_
  refine T_ld zk_191_733 rfl rfl rfl (pc' := 734) rfl ?_
  refine T_op zk_191_734 rfl X_ic (pc' := 735) rfl ?_
  refine T_op zk_191_735 rfl X_add (pc' := 736) rfl ?_
  refine T_sld (n := n0) (w := p2) zk_191_736 hx (by omega) (by omega) (by omega) e2 (pc' := 737) rfl ?_
  refine T_calli (K := fun y2 σ' => (y1 = y2) ∧ JR σ') (r := []) zk_191_737 rfl rfl rfl rfl rfl rfl (Or.inr ⟨_, _, _, _, rfl, vd_35, rfl⟩) (fun σ' h => um_11 p1 p2 (by omega) (by omega) y1 σ' h) (pc' := 740) rfl (fun y2 => ?_)
  refine G_ex (fun hy2 => ?_)
  refine T_op (st' := []) zk_191_740 rfl rfl (pc' := 741) rfl ?_
  refine T_goto zk_191_741 ?_
  refine T_iinc (L' := [(0, .ref 0), (1, av 0 0 0), (2, av 35 0 0), (3, iv (i + 6))]) zk_191_1610 (nL := 4) rfl rfl (show _ = some (iv i) from rfl) rfl (pc' := 1613) rfl ?_
  refine T_goto zk_191_1613 ?_
  exact hk
theorem zl_12 {xs : Nat × (Nat → Int32)} {n0 : Nat} (hx : xs.1 = n0 + 1) {Q : Option Value → ZS → Prop} (i : Int) (hi : 0 ≤ i ∧ i + 6 ≤ n0 ∧ n0 ≤ 3072) (p1 p2 p3 p4 p5 : Int) (h1 : -2147483648 ≤ p1 ∧ p1 ≤ 2147483647) (h2 : -2147483648 ≤ p2 ∧ p2 ≤ 2147483647) (h3 : -2147483648 ≤ p3 ∧ p3 ≤ 2147483647) (h4 : -2147483648 ≤ p4 ∧ p4 ≤ 2147483647) (h5 : -2147483648 ≤ p5 ∧ p5 ≤ 2147483647) (e1 : xs.2 (Int.toNat (i + 1)) = Int32.ofInt p1) (e2 : xs.2 (Int.toNat (i + 2)) = Int32.ofInt p2) (e3 : xs.2 (Int.toNat (i + 3)) = Int32.ofInt p3) (e4 : xs.2 (Int.toNat (i + 4)) = Int32.ofInt p4) (e5 : xs.2 (Int.toNat (i + 5)) = Int32.ofInt p5) (hk : TJ xs JR 120 191 18 [(0, .ref 0), (1, av 0 0 0), (2, av 35 0 0), (3, iv (i + 6))] [] Q) : TJ xs JR 120 191 744 [(0, .ref 0), (1, av 0 0 0), (2, av 35 0 0), (3, iv i)] [] Q := by
  refine T_ld zk_191_744 rfl rfl rfl (pc' := 745) rfl ?_
  refine T_ld zk_191_745 rfl rfl rfl (pc' := 746) rfl ?_
  refine T_ld zk_191_746 rfl rfl rfl (pc' := 747) rfl ?_
  refine T_op zk_191_747 rfl X_ic (pc' := 748) rfl ?_
  refine T_op zk_191_748 rfl X_add (pc' := 749) rfl ?_
  refine T_sld (n := n0) (w := p1) zk_191_749 hx (by omega) (by omega) (by omega) e1 (pc' := 750) rfl ?_
  refine T_calli (K := fun y1 σ' => (True) ∧ JR σ') (r := []) zk_191_750 rfl rfl rfl rfl rfl rfl (Or.inr ⟨_, _, _, _, rfl, vd_0, rfl⟩) (fun σ' h => u_88 p1 (by omega) σ' h) (pc' := 753) rfl (fun y1 => ?_)
  refine G_ex (fun hy1 => ?_)
  refine T_op (st' := []) zk_191_753 rfl rfl (pc' := 754) rfl ?_
  refine T_ld zk_191_754 rfl rfl rfl (pc' := 755) rfl ?_
  refine T_ld zk_191_755 rfl rfl rfl (pc' := 756) rfl ?_
  refine T_ld zk_191_756 rfl rfl rfl (pc' := 757) rfl ?_
  refine T_op zk_191_757 rfl X_ic (pc' := 758) rfl ?_
  refine T_op zk_191_758 rfl X_add (pc' := 759) rfl ?_
  refine T_sld (n := n0) (w := p1) zk_191_759 hx (by omega) (by omega) (by omega) e1 (pc' := 760) rfl ?_
  refine T_calli (K := fun y2 σ' => (True) ∧ JR σ') (r := []) zk_191_760 rfl rfl rfl rfl rfl rfl (Or.inr ⟨_, _, _, _, rfl, vd_35, rfl⟩) (fun σ' h => u_141 p1 (by omega) σ' h) (pc' := 763) rfl (fun y2 => ?_)
  refine G_ex (fun hy2 => ?_)
  refine T_op (st' := []) zk_191_763 rfl rfl (pc' := 764) rfl ?_
  refine T_goto zk_191_764 ?_
  refine T_iinc (L' := [(0, .ref 0), (1, av 0 0 0), (2, av 35 0 0), (3, iv (i + 6))]) zk_191_1610 (nL := 4) rfl rfl (show _ = some (iv i) from rfl) rfl (pc' := 1613) rfl ?_
  refine T_goto zk_191_1613 ?_
  exact hk
theorem zl_13 {xs : Nat × (Nat → Int32)} {n0 : Nat} (hx : xs.1 = n0 + 1) {Q : Option Value → ZS → Prop} (i : Int) (hi : 0 ≤ i ∧ i + 6 ≤ n0 ∧ n0 ≤ 3072) (p1 p2 p3 p4 p5 : Int) (h1 : -2147483648 ≤ p1 ∧ p1 ≤ 2147483647) (h2 : -2147483648 ≤ p2 ∧ p2 ≤ 2147483647) (h3 : -2147483648 ≤ p3 ∧ p3 ≤ 2147483647) (h4 : -2147483648 ≤ p4 ∧ p4 ≤ 2147483647) (h5 : -2147483648 ≤ p5 ∧ p5 ≤ 2147483647) (e1 : xs.2 (Int.toNat (i + 1)) = Int32.ofInt p1) (e2 : xs.2 (Int.toNat (i + 2)) = Int32.ofInt p2) (e3 : xs.2 (Int.toNat (i + 3)) = Int32.ofInt p3) (e4 : xs.2 (Int.toNat (i + 4)) = Int32.ofInt p4) (e5 : xs.2 (Int.toNat (i + 5)) = Int32.ofInt p5) (hk : TJ xs JR 120 191 18 [(0, .ref 0), (1, av 0 0 0), (2, av 35 0 0), (3, iv (i + 6))] [] Q) : TJ xs JR 120 191 767 [(0, .ref 0), (1, av 0 0 0), (2, av 35 0 0), (3, iv i)] [] Q := by
  refine T_ld zk_191_767 rfl rfl rfl (pc' := 768) rfl ?_
  refine T_ld zk_191_768 rfl rfl rfl (pc' := 769) rfl ?_
  refine T_ld zk_191_769 rfl rfl rfl (pc' := 770) rfl ?_
  refine T_op zk_191_770 rfl X_ic (pc' := 771) rfl ?_
  refine T_op zk_191_771 rfl X_add (pc' := 772) rfl ?_
  refine T_sld (n := n0) (w := p1) zk_191_772 hx (by omega) (by omega) (by omega) e1 (pc' := 773) rfl ?_
  refine T_ld zk_191_773 rfl rfl rfl (pc' := 774) rfl ?_
  refine T_ld zk_191_774 rfl rfl rfl (pc' := 775) rfl ?_
  refine T_op zk_191_775 rfl X_ic (pc' := 776) rfl ?_
  refine T_op zk_191_776 rfl X_add (pc' := 777) rfl ?_
  refine T_sld (n := n0) (w := p2) zk_191_777 hx (by omega) (by omega) (by omega) e2 (pc' := 778) rfl ?_
  refine T_calli (K := fun y1 σ' => (True) ∧ JR σ') (r := []) zk_191_778 rfl rfl rfl rfl rfl rfl (Or.inr ⟨_, _, _, _, rfl, vd_0, rfl⟩) (fun σ' h => u_89 p1 p2 (by omega) (by omega) σ' h) (pc' := 781) rfl (fun y1 => ?_)
  refine G_ex (fun hy1 => ?_)
  refine T_op (st' := []) zk_191_781 rfl rfl (pc' := 782) rfl ?_
  refine T_ld zk_191_782 rfl rfl rfl (pc' := 783) rfl ?_
  refine T_ld zk_191_783 rfl rfl rfl (pc' := 784) rfl ?_
  refine T_ld zk_191_784 rfl rfl rfl (pc' := 785) rfl ?_
  refine T_op zk_191_785 rfl X_ic (pc' := 786) rfl ?_
  refine T_op zk_191_786 rfl X_add (pc' := 787) rfl ?_
  refine T_sld (n := n0) (w := p1) zk_191_787 hx (by omega) (by omega) (by omega) e1 (pc' := 788) rfl ?_
  refine T_ld zk_191_788 rfl rfl rfl (pc' := 789) rfl ?_
  refine T_ld zk_191_789 rfl rfl rfl (pc' := 790) rfl ?_
  refine T_op zk_191_790 rfl X_ic (pc' := 791) rfl ?_
  refine T_op zk_191_791 rfl X_add (pc' := 792) rfl ?_
  refine T_sld (n := n0) (w := p2) zk_191_792 hx (by omega) (by omega) (by omega) e2 (pc' := 793) rfl ?_
  refine T_calli (K := fun y2 σ' => (True) ∧ JR σ') (r := []) zk_191_793 rfl rfl rfl rfl rfl rfl (Or.inr ⟨_, _, _, _, rfl, vd_35, rfl⟩) (fun σ' h => u_142 p1 p2 (by omega) (by omega) σ' h) (pc' := 796) rfl (fun y2 => ?_)
  refine G_ex (fun hy2 => ?_)
  refine T_op (st' := []) zk_191_796 rfl rfl (pc' := 797) rfl ?_
  refine T_goto zk_191_797 ?_
  refine T_iinc (L' := [(0, .ref 0), (1, av 0 0 0), (2, av 35 0 0), (3, iv (i + 6))]) zk_191_1610 (nL := 4) rfl rfl (show _ = some (iv i) from rfl) rfl (pc' := 1613) rfl ?_
  refine T_goto zk_191_1613 ?_
  exact hk
theorem zl_14 {xs : Nat × (Nat → Int32)} {n0 : Nat} (hx : xs.1 = n0 + 1) {Q : Option Value → ZS → Prop} (i : Int) (hi : 0 ≤ i ∧ i + 6 ≤ n0 ∧ n0 ≤ 3072) (p1 p2 p3 p4 p5 : Int) (h1 : -2147483648 ≤ p1 ∧ p1 ≤ 2147483647) (h2 : -2147483648 ≤ p2 ∧ p2 ≤ 2147483647) (h3 : -2147483648 ≤ p3 ∧ p3 ≤ 2147483647) (h4 : -2147483648 ≤ p4 ∧ p4 ≤ 2147483647) (h5 : -2147483648 ≤ p5 ∧ p5 ≤ 2147483647) (e1 : xs.2 (Int.toNat (i + 1)) = Int32.ofInt p1) (e2 : xs.2 (Int.toNat (i + 2)) = Int32.ofInt p2) (e3 : xs.2 (Int.toNat (i + 3)) = Int32.ofInt p3) (e4 : xs.2 (Int.toNat (i + 4)) = Int32.ofInt p4) (e5 : xs.2 (Int.toNat (i + 5)) = Int32.ofInt p5) (hk : TJ xs JR 120 191 18 [(0, .ref 0), (1, av 0 0 0), (2, av 35 0 0), (3, iv (i + 6))] [] Q) : TJ xs JR 120 191 800 [(0, .ref 0), (1, av 0 0 0), (2, av 35 0 0), (3, iv i)] [] Q := by
  refine T_ld zk_191_800 rfl rfl rfl (pc' := 801) rfl ?_
  refine T_ld zk_191_801 rfl rfl rfl (pc' := 802) rfl ?_
  refine T_ld zk_191_802 rfl rfl rfl (pc' := 803) rfl ?_
  refine T_op zk_191_803 rfl X_ic (pc' := 804) rfl ?_
  refine T_op zk_191_804 rfl X_add (pc' := 805) rfl ?_
  refine T_sld (n := n0) (w := p1) zk_191_805 hx (by omega) (by omega) (by omega) e1 (pc' := 806) rfl ?_
  refine T_ld zk_191_806 rfl rfl rfl (pc' := 807) rfl ?_
  refine T_ld zk_191_807 rfl rfl rfl (pc' := 808) rfl ?_
  refine T_op zk_191_808 rfl X_ic (pc' := 809) rfl ?_
  refine T_op zk_191_809 rfl X_add (pc' := 810) rfl ?_
  refine T_sld (n := n0) (w := p2) zk_191_810 hx (by omega) (by omega) (by omega) e2 (pc' := 811) rfl ?_
  refine T_if_eq zk_191_811 (by omega) (pc' := 814) rfl (fun b1 => ?_) (fun b1 => ?_)
  ·
    refine T_op zk_191_818 rfl X_ic (pc' := 819) rfl ?_
    refine T_calli (K := fun y2 σ' => (True) ∧ JR σ') (r := []) zk_191_819 rfl rfl rfl rfl rfl rfl (Or.inr ⟨_, _, _, _, rfl, vd_0, rfl⟩) (fun σ' h => u_90 p1 0 (by omega) (by omega) σ' h) (pc' := 822) rfl (fun y2 => ?_)
    refine G_ex (fun hy2 => ?_)
    refine T_op (st' := []) zk_191_822 rfl rfl (pc' := 823) rfl ?_
    refine T_ld zk_191_823 rfl rfl rfl (pc' := 824) rfl ?_
    refine T_ld zk_191_824 rfl rfl rfl (pc' := 825) rfl ?_
    refine T_ld zk_191_825 rfl rfl rfl (pc' := 826) rfl ?_
    refine T_op zk_191_826 rfl X_ic (pc' := 827) rfl ?_
    refine T_op zk_191_827 rfl X_add (pc' := 828) rfl ?_
    refine T_sld (n := n0) (w := p1) zk_191_828 hx (by omega) (by omega) (by omega) e1 (pc' := 829) rfl ?_
    refine T_ld zk_191_829 rfl rfl rfl (pc' := 830) rfl ?_
    refine T_ld zk_191_830 rfl rfl rfl (pc' := 831) rfl ?_
    refine T_op zk_191_831 rfl X_ic (pc' := 832) rfl ?_
    refine T_op zk_191_832 rfl X_add (pc' := 833) rfl ?_
    refine T_sld (n := n0) (w := p2) zk_191_833 hx (by omega) (by omega) (by omega) e2 (pc' := 834) rfl ?_
    refine T_if_eq zk_191_834 (by omega) (pc' := 837) rfl (fun b3 => ?_) (fun b3 => ?_)
    ·
      refine T_op zk_191_841 rfl X_ic (pc' := 842) rfl ?_
      refine T_calli (K := fun y4 σ' => (True) ∧ JR σ') (r := []) zk_191_842 rfl rfl rfl rfl rfl rfl (Or.inr ⟨_, _, _, _, rfl, vd_35, rfl⟩) (fun σ' h => u_144 p1 0 (by omega) (by omega) σ' h) (pc' := 845) rfl (fun y4 => ?_)
      refine G_ex (fun hy4 => ?_)
      refine T_op (st' := []) zk_191_845 rfl rfl (pc' := 846) rfl ?_
      refine T_goto zk_191_846 ?_
      refine T_iinc (L' := [(0, .ref 0), (1, av 0 0 0), (2, av 35 0 0), (3, iv (i + 6))]) zk_191_1610 (nL := 4) rfl rfl (show _ = some (iv i) from rfl) rfl (pc' := 1613) rfl ?_
      refine T_goto zk_191_1613 ?_
      exact hk
    · exfalso; omega
  ·
    refine T_op zk_191_814 rfl X_ic (pc' := 815) rfl ?_
    refine T_goto zk_191_815 ?_
    refine T_calli (K := fun y5 σ' => (True) ∧ JR σ') (r := []) zk_191_819 rfl rfl rfl rfl rfl rfl (Or.inr ⟨_, _, _, _, rfl, vd_0, rfl⟩) (fun σ' h => u_90 p1 1 (by omega) (by omega) σ' h) (pc' := 822) rfl (fun y5 => ?_)
    refine G_ex (fun hy5 => ?_)
    refine T_op (st' := []) zk_191_822 rfl rfl (pc' := 823) rfl ?_
    refine T_ld zk_191_823 rfl rfl rfl (pc' := 824) rfl ?_
    refine T_ld zk_191_824 rfl rfl rfl (pc' := 825) rfl ?_
    refine T_ld zk_191_825 rfl rfl rfl (pc' := 826) rfl ?_
    refine T_op zk_191_826 rfl X_ic (pc' := 827) rfl ?_
    refine T_op zk_191_827 rfl X_add (pc' := 828) rfl ?_
    refine T_sld (n := n0) (w := p1) zk_191_828 hx (by omega) (by omega) (by omega) e1 (pc' := 829) rfl ?_
    refine T_ld zk_191_829 rfl rfl rfl (pc' := 830) rfl ?_
    refine T_ld zk_191_830 rfl rfl rfl (pc' := 831) rfl ?_
    refine T_op zk_191_831 rfl X_ic (pc' := 832) rfl ?_
    refine T_op zk_191_832 rfl X_add (pc' := 833) rfl ?_
    refine T_sld (n := n0) (w := p2) zk_191_833 hx (by omega) (by omega) (by omega) e2 (pc' := 834) rfl ?_
    refine T_if_eq zk_191_834 (by omega) (pc' := 837) rfl (fun b6 => ?_) (fun b6 => ?_)
    · exfalso; omega
    ·
      refine T_op zk_191_837 rfl X_ic (pc' := 838) rfl ?_
      refine T_goto zk_191_838 ?_
      refine T_calli (K := fun y7 σ' => (True) ∧ JR σ') (r := []) zk_191_842 rfl rfl rfl rfl rfl rfl (Or.inr ⟨_, _, _, _, rfl, vd_35, rfl⟩) (fun σ' h => u_144 p1 1 (by omega) (by omega) σ' h) (pc' := 845) rfl (fun y7 => ?_)
      refine G_ex (fun hy7 => ?_)
      refine T_op (st' := []) zk_191_845 rfl rfl (pc' := 846) rfl ?_
      refine T_goto zk_191_846 ?_
      refine T_iinc (L' := [(0, .ref 0), (1, av 0 0 0), (2, av 35 0 0), (3, iv (i + 6))]) zk_191_1610 (nL := 4) rfl rfl (show _ = some (iv i) from rfl) rfl (pc' := 1613) rfl ?_
      refine T_goto zk_191_1613 ?_
      exact hk
theorem zl_15 {xs : Nat × (Nat → Int32)} {n0 : Nat} (hx : xs.1 = n0 + 1) {Q : Option Value → ZS → Prop} (i : Int) (hi : 0 ≤ i ∧ i + 6 ≤ n0 ∧ n0 ≤ 3072) (p1 p2 p3 p4 p5 : Int) (h1 : -2147483648 ≤ p1 ∧ p1 ≤ 2147483647) (h2 : -2147483648 ≤ p2 ∧ p2 ≤ 2147483647) (h3 : -2147483648 ≤ p3 ∧ p3 ≤ 2147483647) (h4 : -2147483648 ≤ p4 ∧ p4 ≤ 2147483647) (h5 : -2147483648 ≤ p5 ∧ p5 ≤ 2147483647) (e1 : xs.2 (Int.toNat (i + 1)) = Int32.ofInt p1) (e2 : xs.2 (Int.toNat (i + 2)) = Int32.ofInt p2) (e3 : xs.2 (Int.toNat (i + 3)) = Int32.ofInt p3) (e4 : xs.2 (Int.toNat (i + 4)) = Int32.ofInt p4) (e5 : xs.2 (Int.toNat (i + 5)) = Int32.ofInt p5) (hk : TJ xs JR 120 191 18 [(0, .ref 0), (1, av 0 0 0), (2, av 35 0 0), (3, iv (i + 6))] [] Q) : TJ xs JR 120 191 849 [(0, .ref 0), (1, av 0 0 0), (2, av 35 0 0), (3, iv i)] [] Q := by
  refine T_ld zk_191_849 rfl rfl rfl (pc' := 850) rfl ?_
  refine T_ld zk_191_850 rfl rfl rfl (pc' := 851) rfl ?_
  refine T_ld zk_191_851 rfl rfl rfl (pc' := 852) rfl ?_
  refine T_op zk_191_852 rfl X_ic (pc' := 853) rfl ?_
  refine T_op zk_191_853 rfl X_add (pc' := 854) rfl ?_
  refine T_sld (n := n0) (w := p1) zk_191_854 hx (by omega) (by omega) (by omega) e1 (pc' := 855) rfl ?_
  refine T_ld zk_191_855 rfl rfl rfl (pc' := 856) rfl ?_
  refine T_ld zk_191_856 rfl rfl rfl (pc' := 857) rfl ?_
  refine T_op zk_191_857 rfl X_ic (pc' := 858) rfl ?_
  refine T_op zk_191_858 rfl X_add (pc' := 859) rfl ?_
  refine T_sld (n := n0) (w := p2) zk_191_859 hx (by omega) (by omega) (by omega) e2 (pc' := 860) rfl ?_
  refine T_if_eq zk_191_860 (by omega) (pc' := 863) rfl (fun b1 => ?_) (fun b1 => ?_)
  ·
    refine T_op zk_191_867 rfl X_ic (pc' := 868) rfl ?_
    refine T_calli (K := fun y2 σ' => (True) ∧ JR σ') (r := []) zk_191_868 rfl rfl rfl rfl rfl rfl (Or.inr ⟨_, _, _, _, rfl, vd_0, rfl⟩) (fun σ' h => u_91 p1 0 (by omega) (by omega) σ' h) (pc' := 871) rfl (fun y2 => ?_)
    refine G_ex (fun hy2 => ?_)
    refine T_op (st' := []) zk_191_871 rfl rfl (pc' := 872) rfl ?_
    refine T_ld zk_191_872 rfl rfl rfl (pc' := 873) rfl ?_
    refine T_ld zk_191_873 rfl rfl rfl (pc' := 874) rfl ?_
    refine T_ld zk_191_874 rfl rfl rfl (pc' := 875) rfl ?_
    refine T_op zk_191_875 rfl X_ic (pc' := 876) rfl ?_
    refine T_op zk_191_876 rfl X_add (pc' := 877) rfl ?_
    refine T_sld (n := n0) (w := p1) zk_191_877 hx (by omega) (by omega) (by omega) e1 (pc' := 878) rfl ?_
    refine T_ld zk_191_878 rfl rfl rfl (pc' := 879) rfl ?_
    refine T_ld zk_191_879 rfl rfl rfl (pc' := 880) rfl ?_
    refine T_op zk_191_880 rfl X_ic (pc' := 881) rfl ?_
    refine T_op zk_191_881 rfl X_add (pc' := 882) rfl ?_
    refine T_sld (n := n0) (w := p2) zk_191_882 hx (by omega) (by omega) (by omega) e2 (pc' := 883) rfl ?_
    refine T_if_eq zk_191_883 (by omega) (pc' := 886) rfl (fun b3 => ?_) (fun b3 => ?_)
    ·
      refine T_op zk_191_890 rfl X_ic (pc' := 891) rfl ?_
      refine T_calli (K := fun y4 σ' => (True) ∧ JR σ') (r := []) zk_191_891 rfl rfl rfl rfl rfl rfl (Or.inr ⟨_, _, _, _, rfl, vd_35, rfl⟩) (fun σ' h => u_146 p1 0 (by omega) (by omega) σ' h) (pc' := 894) rfl (fun y4 => ?_)
      refine G_ex (fun hy4 => ?_)
      refine T_op (st' := []) zk_191_894 rfl rfl (pc' := 895) rfl ?_
      refine T_goto zk_191_895 ?_
      refine T_iinc (L' := [(0, .ref 0), (1, av 0 0 0), (2, av 35 0 0), (3, iv (i + 6))]) zk_191_1610 (nL := 4) rfl rfl (show _ = some (iv i) from rfl) rfl (pc' := 1613) rfl ?_
      refine T_goto zk_191_1613 ?_
      exact hk
    · exfalso; omega
  ·
    refine T_op zk_191_863 rfl X_ic (pc' := 864) rfl ?_
    refine T_goto zk_191_864 ?_
    refine T_calli (K := fun y5 σ' => (True) ∧ JR σ') (r := []) zk_191_868 rfl rfl rfl rfl rfl rfl (Or.inr ⟨_, _, _, _, rfl, vd_0, rfl⟩) (fun σ' h => u_91 p1 1 (by omega) (by omega) σ' h) (pc' := 871) rfl (fun y5 => ?_)
    refine G_ex (fun hy5 => ?_)
    refine T_op (st' := []) zk_191_871 rfl rfl (pc' := 872) rfl ?_
    refine T_ld zk_191_872 rfl rfl rfl (pc' := 873) rfl ?_
    refine T_ld zk_191_873 rfl rfl rfl (pc' := 874) rfl ?_
    refine T_ld zk_191_874 rfl rfl rfl (pc' := 875) rfl ?_
    refine T_op zk_191_875 rfl X_ic (pc' := 876) rfl ?_
    refine T_op zk_191_876 rfl X_add (pc' := 877) rfl ?_
    refine T_sld (n := n0) (w := p1) zk_191_877 hx (by omega) (by omega) (by omega) e1 (pc' := 878) rfl ?_
    refine T_ld zk_191_878 rfl rfl rfl (pc' := 879) rfl ?_
    refine T_ld zk_191_879 rfl rfl rfl (pc' := 880) rfl ?_
    refine T_op zk_191_880 rfl X_ic (pc' := 881) rfl ?_
    refine T_op zk_191_881 rfl X_add (pc' := 882) rfl ?_
    refine T_sld (n := n0) (w := p2) zk_191_882 hx (by omega) (by omega) (by omega) e2 (pc' := 883) rfl ?_
    refine T_if_eq zk_191_883 (by omega) (pc' := 886) rfl (fun b6 => ?_) (fun b6 => ?_)
    · exfalso; omega
    ·
      refine T_op zk_191_886 rfl X_ic (pc' := 887) rfl ?_
      refine T_goto zk_191_887 ?_
      refine T_calli (K := fun y7 σ' => (True) ∧ JR σ') (r := []) zk_191_891 rfl rfl rfl rfl rfl rfl (Or.inr ⟨_, _, _, _, rfl, vd_35, rfl⟩) (fun σ' h => u_146 p1 1 (by omega) (by omega) σ' h) (pc' := 894) rfl (fun y7 => ?_)
      refine G_ex (fun hy7 => ?_)
      refine T_op (st' := []) zk_191_894 rfl rfl (pc' := 895) rfl ?_
      refine T_goto zk_191_895 ?_
      refine T_iinc (L' := [(0, .ref 0), (1, av 0 0 0), (2, av 35 0 0), (3, iv (i + 6))]) zk_191_1610 (nL := 4) rfl rfl (show _ = some (iv i) from rfl) rfl (pc' := 1613) rfl ?_
      refine T_goto zk_191_1613 ?_
      exact hk
theorem zl_16 {xs : Nat × (Nat → Int32)} {n0 : Nat} (hx : xs.1 = n0 + 1) {Q : Option Value → ZS → Prop} (i : Int) (hi : 0 ≤ i ∧ i + 6 ≤ n0 ∧ n0 ≤ 3072) (p1 p2 p3 p4 p5 : Int) (h1 : -2147483648 ≤ p1 ∧ p1 ≤ 2147483647) (h2 : -2147483648 ≤ p2 ∧ p2 ≤ 2147483647) (h3 : -2147483648 ≤ p3 ∧ p3 ≤ 2147483647) (h4 : -2147483648 ≤ p4 ∧ p4 ≤ 2147483647) (h5 : -2147483648 ≤ p5 ∧ p5 ≤ 2147483647) (e1 : xs.2 (Int.toNat (i + 1)) = Int32.ofInt p1) (e2 : xs.2 (Int.toNat (i + 2)) = Int32.ofInt p2) (e3 : xs.2 (Int.toNat (i + 3)) = Int32.ofInt p3) (e4 : xs.2 (Int.toNat (i + 4)) = Int32.ofInt p4) (e5 : xs.2 (Int.toNat (i + 5)) = Int32.ofInt p5) (hk : TJ xs JR 120 191 18 [(0, .ref 0), (1, av 0 0 0), (2, av 35 0 0), (3, iv (i + 6))] [] Q) : TJ xs JR 120 191 898 [(0, .ref 0), (1, av 0 0 0), (2, av 35 0 0), (3, iv i)] [] Q := by
  refine T_ld zk_191_898 rfl rfl rfl (pc' := 899) rfl ?_
  refine T_ld zk_191_899 rfl rfl rfl (pc' := 900) rfl ?_
  refine T_ld zk_191_900 rfl rfl rfl (pc' := 901) rfl ?_
  refine T_op zk_191_901 rfl X_ic (pc' := 902) rfl ?_
  refine T_op zk_191_902 rfl X_add (pc' := 903) rfl ?_
  refine T_sld (n := n0) (w := p1) zk_191_903 hx (by omega) (by omega) (by omega) e1 (pc' := 904) rfl ?_
  refine T_ld zk_191_904 rfl rfl rfl (pc' := 905) rfl ?_
  refine T_ld zk_191_905 rfl rfl rfl (pc' := 906) rfl ?_
  refine T_op zk_191_906 rfl X_ic (pc' := 907) rfl ?_
  refine T_op zk_191_907 rfl X_add (pc' := 908) rfl ?_
  refine T_sld (n := n0) (w := p2) zk_191_908 hx (by omega) (by omega) (by omega) e2 (pc' := 909) rfl ?_
  refine T_calli (K := fun y1 σ' => (True) ∧ JR σ') (r := []) zk_191_909 rfl rfl rfl rfl rfl rfl (Or.inr ⟨_, _, _, _, rfl, vd_0, rfl⟩) (fun σ' h => u_92 p1 p2 (by omega) (by omega) σ' h) (pc' := 912) rfl (fun y1 => ?_)
  refine G_ex (fun hy1 => ?_)
  refine T_op (st' := []) zk_191_912 rfl rfl (pc' := 913) rfl ?_
  refine T_ld zk_191_913 rfl rfl rfl (pc' := 914) rfl ?_
  refine T_ld zk_191_914 rfl rfl rfl (pc' := 915) rfl ?_
  refine T_ld zk_191_915 rfl rfl rfl (pc' := 916) rfl ?_
  refine T_op zk_191_916 rfl X_ic (pc' := 917) rfl ?_
  refine T_op zk_191_917 rfl X_add (pc' := 918) rfl ?_
  refine T_sld (n := n0) (w := p1) zk_191_918 hx (by omega) (by omega) (by omega) e1 (pc' := 919) rfl ?_
  refine T_ld zk_191_919 rfl rfl rfl (pc' := 920) rfl ?_
  refine T_ld zk_191_920 rfl rfl rfl (pc' := 921) rfl ?_
  refine T_op zk_191_921 rfl X_ic (pc' := 922) rfl ?_
  refine T_op zk_191_922 rfl X_add (pc' := 923) rfl ?_
  refine T_sld (n := n0) (w := p2) zk_191_923 hx (by omega) (by omega) (by omega) e2 (pc' := 924) rfl ?_
  refine T_calli (K := fun y2 σ' => (True) ∧ JR σ') (r := []) zk_191_924 rfl rfl rfl rfl rfl rfl (Or.inr ⟨_, _, _, _, rfl, vd_35, rfl⟩) (fun σ' h => u_147 p1 p2 (by omega) (by omega) σ' h) (pc' := 927) rfl (fun y2 => ?_)
  refine G_ex (fun hy2 => ?_)
  refine T_op (st' := []) zk_191_927 rfl rfl (pc' := 928) rfl ?_
  refine T_goto zk_191_928 ?_
  refine T_iinc (L' := [(0, .ref 0), (1, av 0 0 0), (2, av 35 0 0), (3, iv (i + 6))]) zk_191_1610 (nL := 4) rfl rfl (show _ = some (iv i) from rfl) rfl (pc' := 1613) rfl ?_
  refine T_goto zk_191_1613 ?_
  exact hk
theorem zl_17 {xs : Nat × (Nat → Int32)} {n0 : Nat} (hx : xs.1 = n0 + 1) {Q : Option Value → ZS → Prop} (i : Int) (hi : 0 ≤ i ∧ i + 6 ≤ n0 ∧ n0 ≤ 3072) (p1 p2 p3 p4 p5 : Int) (h1 : -2147483648 ≤ p1 ∧ p1 ≤ 2147483647) (h2 : -2147483648 ≤ p2 ∧ p2 ≤ 2147483647) (h3 : -2147483648 ≤ p3 ∧ p3 ≤ 2147483647) (h4 : -2147483648 ≤ p4 ∧ p4 ≤ 2147483647) (h5 : -2147483648 ≤ p5 ∧ p5 ≤ 2147483647) (e1 : xs.2 (Int.toNat (i + 1)) = Int32.ofInt p1) (e2 : xs.2 (Int.toNat (i + 2)) = Int32.ofInt p2) (e3 : xs.2 (Int.toNat (i + 3)) = Int32.ofInt p3) (e4 : xs.2 (Int.toNat (i + 4)) = Int32.ofInt p4) (e5 : xs.2 (Int.toNat (i + 5)) = Int32.ofInt p5) (hk : TJ xs JR 120 191 18 [(0, .ref 0), (1, av 0 0 0), (2, av 35 0 0), (3, iv (i + 6))] [] Q) : TJ xs JR 120 191 931 [(0, .ref 0), (1, av 0 0 0), (2, av 35 0 0), (3, iv i)] [] Q := by
  refine T_ld zk_191_931 rfl rfl rfl (pc' := 932) rfl ?_
  refine T_ld zk_191_932 rfl rfl rfl (pc' := 933) rfl ?_
  refine T_ld zk_191_933 rfl rfl rfl (pc' := 934) rfl ?_
  refine T_op zk_191_934 rfl X_ic (pc' := 935) rfl ?_
  refine T_op zk_191_935 rfl X_add (pc' := 936) rfl ?_
  refine T_sld (n := n0) (w := p1) zk_191_936 hx (by omega) (by omega) (by omega) e1 (pc' := 937) rfl ?_
  refine T_calli (K := fun y1 σ' => PX_17 p1 y1 σ') (r := []) zk_191_937 rfl rfl rfl rfl rfl rfl (Or.inr ⟨_, _, _, _, rfl, vd_0, rfl⟩) (fun σ' h => ux_17 p1 (by omega) σ' h) (pc' := 940) rfl (fun y1 => ?_)
  refine T_op (st' := []) zk_191_940 rfl rfl (pc' := 941) rfl ?_
  refine T_ld zk_191_941 rfl rfl rfl (pc' := 942) rfl ?_
  refine T_ld zk_191_942 rfl rfl rfl (pc' := 943) rfl ?_
  refine T_ld zk_191_943 rfl rfl rfl (pc' := 944) rfl ?_
  refine T_op zk_191_944 rfl X_ic (pc' := 945) rfl ?_
  refine T_op zk_191_945 rfl X_add (pc' := 946) rfl ?_
  refine T_sld (n := n0) (w := p1) zk_191_946 hx (by omega) (by omega) (by omega) e1 (pc' := 947) rfl ?_
  refine T_calli (K := fun y2 σ' => (y1 = y2) ∧ JR σ') (r := []) zk_191_947 rfl rfl rfl rfl rfl rfl (Or.inr ⟨_, _, _, _, rfl, vd_35, rfl⟩) (fun σ' h => um_17 p1 (by omega) y1 σ' h) (pc' := 950) rfl (fun y2 => ?_)
  refine G_ex (fun hy2 => ?_)
  refine T_op (st' := []) zk_191_950 rfl rfl (pc' := 951) rfl ?_
  refine T_goto zk_191_951 ?_
  refine T_iinc (L' := [(0, .ref 0), (1, av 0 0 0), (2, av 35 0 0), (3, iv (i + 6))]) zk_191_1610 (nL := 4) rfl rfl (show _ = some (iv i) from rfl) rfl (pc' := 1613) rfl ?_
  refine T_goto zk_191_1613 ?_
  exact hk
theorem zl_18 {xs : Nat × (Nat → Int32)} {n0 : Nat} (hx : xs.1 = n0 + 1) {Q : Option Value → ZS → Prop} (i : Int) (hi : 0 ≤ i ∧ i + 6 ≤ n0 ∧ n0 ≤ 3072) (p1 p2 p3 p4 p5 : Int) (h1 : -2147483648 ≤ p1 ∧ p1 ≤ 2147483647) (h2 : -2147483648 ≤ p2 ∧ p2 ≤ 2147483647) (h3 : -2147483648 ≤ p3 ∧ p3 ≤ 2147483647) (h4 : -2147483648 ≤ p4 ∧ p4 ≤ 2147483647) (h5 : -2147483648 ≤ p5 ∧ p5 ≤ 2147483647) (e1 : xs.2 (Int.toNat (i + 1)) = Int32.ofInt p1) (e2 : xs.2 (Int.toNat (i + 2)) = Int32.ofInt p2) (e3 : xs.2 (Int.toNat (i + 3)) = Int32.ofInt p3) (e4 : xs.2 (Int.toNat (i + 4)) = Int32.ofInt p4) (e5 : xs.2 (Int.toNat (i + 5)) = Int32.ofInt p5) (hk : TJ xs JR 120 191 18 [(0, .ref 0), (1, av 0 0 0), (2, av 35 0 0), (3, iv (i + 6))] [] Q) : TJ xs JR 120 191 954 [(0, .ref 0), (1, av 0 0 0), (2, av 35 0 0), (3, iv i)] [] Q := by
  refine T_ld zk_191_954 rfl rfl rfl (pc' := 955) rfl ?_
  refine T_calli (K := fun y1 σ' => PX_18  y1 σ') (r := []) zk_191_955 rfl rfl rfl rfl rfl rfl (Or.inr ⟨_, _, _, _, rfl, vd_0, rfl⟩) (fun σ' h => ux_18   σ' h) (pc' := 958) rfl (fun y1 => ?_)
  refine T_ld zk_191_958 rfl rfl rfl (pc' := 959) rfl ?_
  refine T_calli (K := fun y2 σ' => (y1 = y2) ∧ JR σ') (r := [iv y1]) zk_191_959 rfl rfl rfl rfl rfl rfl (Or.inr ⟨_, _, _, _, rfl, vd_35, rfl⟩) (fun σ' h => um_18   y1 σ' h) (pc' := 962) rfl (fun y2 => ?_)
  refine G_ex (fun hy2 => ?_)
  refine T_icmp_eqS zk_191_962 hy2 ?_
  refine T_iinc (L' := [(0, .ref 0), (1, av 0 0 0), (2, av 35 0 0), (3, iv (i + 6))]) zk_191_1610 (nL := 4) rfl rfl (show _ = some (iv i) from rfl) rfl (pc' := 1613) rfl ?_
  refine T_goto zk_191_1613 ?_
  exact hk
