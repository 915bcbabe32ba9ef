theorem zl_0 {xs : Nat × (Nat → Int32)} (hx : xs.1 = 7) (p1 p2 p3 p4 p5 : Int) (h1 : -2147483648 ≤ p1 ∧ p1 ≤ 2147483647) (h2 : -2147483648 ≤ p2 ∧ p2 ≤ 2147483647) (h3 : -2147483648 ≤ p3 ∧ p3 ≤ 2147483647) (h4 : -2147483648 ≤ p4 ∧ p4 ≤ 2147483647) (h5 : -2147483648 ≤ p5 ∧ p5 ≤ 2147483647) (e1 : xs.2 1 = Int32.ofInt p1) (e2 : xs.2 2 = Int32.ofInt p2) (e3 : xs.2 3 = Int32.ofInt p3) (e4 : xs.2 4 = Int32.ofInt p4) (e5 : xs.2 5 = Int32.ofInt p5) : TJ xs (fun σ' => IF MN σ0 σ' ∧ True) 8 191 200 [(0, .ref 0), (1, av 0 0 0), (2, av 35 0 0), (3, iv 0)] [] (fun v _ => v = some (.int 1)) := by
  refine T_ld zk_191_200 rfl rfl rfl (pc' := 201) rfl ?_
  refine T_ld zk_191_201 rfl rfl rfl (pc' := 202) rfl ?_
  refine T_ld zk_191_202 rfl rfl rfl (pc' := 203) rfl ?_
  refine T_op zk_191_203 rfl X_ic (pc' := 204) rfl ?_
  refine T_opc (w := 1) zk_191_204 rfl X_add (by omega) (pc' := 205) rfl ?_
  refine T_sld (n := 6) (w := p1) zk_191_205 hx (by omega) (by omega) (by omega) e1 (pc' := 206) rfl ?_
  refine T_ld zk_191_206 rfl rfl rfl (pc' := 207) rfl ?_
  refine T_ld zk_191_207 rfl rfl rfl (pc' := 208) rfl ?_
  refine T_op zk_191_208 rfl X_ic (pc' := 209) rfl ?_
  refine T_opc (w := 2) zk_191_209 rfl X_add (by omega) (pc' := 210) rfl ?_
  refine T_sld (n := 6) (w := p2) zk_191_210 hx (by omega) (by omega) (by omega) e2 (pc' := 211) rfl ?_
  refine T_calli (K := fun y1 σ' => ((y1 = -1 ∧ (¬ (0 ≤ p1 ∧ p1 ≤ 24))) ∨ (y1 = -6 ∧ ¬ (¬ (0 ≤ p1 ∧ p1 ≤ 24)) ∧ (¬ (0 ≤ p2 ∧ p2 ≤ 60))) ∨ (y1 = 20 ∧ ¬ (¬ (0 ≤ p1 ∧ p1 ≤ 24)) ∧ ¬ (¬ (0 ≤ p2 ∧ p2 ≤ 60)))) ∧ (fun σ' => IF ML35 σ0 σ' ∧ True) σ') (r := []) zk_191_211 rfl rfl rfl rfl rfl rfl (Or.inr ⟨_, _, _, _, rfl, vd_0, rfl⟩) (fun σ' h => (x_depth p1 p2 (by omega) (by omega) σ' h.1.1 (fun _ _ _ _ _ => h.1.2 _ _ _ _ (fun q => q))).le (Nat.le_of_ble_eq_true rfl) (fun v σ2 ⟨y, h1, h2, h3, h4⟩ => ⟨y, h1, h2, ⟨h3.1, fun t i k j q => (h3.2 t i k j (fun q1 => q (by unfold MT at q1; unfold ML35; omega))).trans (h.1.2 t i k j (fun q1 => q1))⟩, trivial⟩)) (pc' := 214) rfl (fun y1 => ?_)
  refine G_ex (fun hy1 => ?_)
  refine T_ld zk_191_214 rfl rfl rfl (pc' := 215) rfl ?_
  refine T_ld zk_191_215 rfl rfl rfl (pc' := 216) rfl ?_
  refine T_ld zk_191_216 rfl rfl rfl (pc' := 217) rfl ?_
  refine T_op zk_191_217 rfl X_ic (pc' := 218) rfl ?_
  refine T_opc (w := 1) zk_191_218 rfl X_add (by omega) (pc' := 219) rfl ?_
  refine T_sld (n := 6) (w := p1) zk_191_219 hx (by omega) (by omega) (by omega) e1 (pc' := 220) rfl ?_
  refine T_ld zk_191_220 rfl rfl rfl (pc' := 221) rfl ?_
  refine T_ld zk_191_221 rfl rfl rfl (pc' := 222) rfl ?_
  refine T_op zk_191_222 rfl X_ic (pc' := 223) rfl ?_
  refine T_opc (w := 2) zk_191_223 rfl X_add (by omega) (pc' := 224) rfl ?_
  refine T_sld (n := 6) (w := p2) zk_191_224 hx (by omega) (by omega) (by omega) e2 (pc' := 225) rfl ?_
  refine T_calli (K := fun y2 σ' => ((y2 = -1 ∧ (¬ (0 ≤ p1 ∧ p1 ≤ 24))) ∨ (y2 = -6 ∧ ¬ (¬ (0 ≤ p1 ∧ p1 ≤ 24)) ∧ (¬ (0 ≤ p2 ∧ p2 ≤ 60))) ∨ (y2 = 20 ∧ ¬ (¬ (0 ≤ p1 ∧ p1 ≤ 24)) ∧ ¬ (¬ (0 ≤ p2 ∧ p2 ≤ 60)))) ∧ (fun σ' => IF MA σ0 σ' ∧ True) σ') (r := [iv y1]) zk_191_225 rfl rfl rfl rfl rfl rfl (Or.inr ⟨_, _, _, _, rfl, vd_35, rfl⟩) (fun σ' h => (m_depth p1 p2 (by omega) (by omega) σ' h.1.1 (fun _ _ _ _ ht => h.1.2 _ _ _ _ (by unfold ML35; omega))).le (Nat.le_of_ble_eq_true rfl) (fun v σ2 ⟨y, h1, h2, h3, h4⟩ => ⟨y, h1, h2, ⟨h3.1, fun t i k j q => (q trivial).elim⟩, trivial⟩)) (pc' := 228) rfl (fun y2 => ?_)
  refine G_ex (fun hy2 => ?_)
  refine T_icmp_eqS zk_191_228 (cs_3 hy1 hy2) ?_
  refine T_iinc (L' := [(0, .ref 0), (1, av 0 0 0), (2, av 35 0 0), (3, iv 6)]) zk_191_1611 (nL := 4) rfl rfl (show _ = some (iv 0) from rfl) rfl (pc' := 1614) rfl ?_
  refine T_goto zk_191_1614 ?_
  exact zl_head hx (by omega) (by omega) (by omega) (by omega)
theorem zl_1 {xs : Nat × (Nat → Int32)} (hx : xs.1 = 7) (p1 p2 p3 p4 p5 : Int) (h1 : -2147483648 ≤ p1 ∧ p1 ≤ 2147483647) (h2 : -2147483648 ≤ p2 ∧ p2 ≤ 2147483647) (h3 : -2147483648 ≤ p3 ∧ p3 ≤ 2147483647) (h4 : -2147483648 ≤ p4 ∧ p4 ≤ 2147483647) (h5 : -2147483648 ≤ p5 ∧ p5 ≤ 2147483647) (e1 : xs.2 1 = Int32.ofInt p1) (e2 : xs.2 2 = Int32.ofInt p2) (e3 : xs.2 3 = Int32.ofInt p3) (e4 : xs.2 4 = Int32.ofInt p4) (e5 : xs.2 5 = Int32.ofInt p5) : TJ xs (fun σ' => IF MN σ0 σ' ∧ True) 8 191 233 [(0, .ref 0), (1, av 0 0 0), (2, av 35 0 0), (3, iv 0)] [] (fun v _ => v = some (.int 1)) := by
  refine T_ld zk_191_233 rfl rfl rfl (pc' := 234) rfl ?_
  refine T_ld zk_191_234 rfl rfl rfl (pc' := 235) rfl ?_
  refine T_ld zk_191_235 rfl rfl rfl (pc' := 236) rfl ?_
  refine T_op zk_191_236 rfl X_ic (pc' := 237) rfl ?_
  refine T_opc (w := 1) zk_191_237 rfl X_add (by omega) (pc' := 238) rfl ?_
  refine T_sld (n := 6) (w := p1) zk_191_238 hx (by omega) (by omega) (by omega) e1 (pc' := 239) rfl ?_
  refine T_ld zk_191_239 rfl rfl rfl (pc' := 240) rfl ?_
  refine T_ld zk_191_240 rfl rfl rfl (pc' := 241) rfl ?_
  refine T_op zk_191_241 rfl X_ic (pc' := 242) rfl ?_
  refine T_opc (w := 2) zk_191_242 rfl X_add (by omega) (pc' := 243) rfl ?_
  refine T_sld (n := 6) (w := p2) zk_191_243 hx (by omega) (by omega) (by omega) e2 (pc' := 244) rfl ?_
  refine T_calli (K := fun y1 σ' => ((y1 = -1 ∧ (¬ (0 ≤ p1 ∧ p1 ≤ 24))) ∨ (y1 = -6 ∧ ¬ (¬ (0 ≤ p1 ∧ p1 ≤ 24)) ∧ (¬ (-300 ≤ p2 ∧ p2 ≤ 300))) ∨ (y1 = 0 ∧ ¬ (¬ (0 ≤ p1 ∧ p1 ≤ 24)) ∧ ¬ (¬ (-300 ≤ p2 ∧ p2 ≤ 300)))) ∧ (fun σ' => IF ML35 σ0 σ' ∧ True) σ') (r := []) zk_191_244 rfl rfl rfl rfl rfl rfl (Or.inr ⟨_, _, _, _, rfl, vd_0, rfl⟩) (fun σ' h => (x_level p1 p2 (by omega) (by omega) σ' h.1.1 (fun _ _ _ _ _ => h.1.2 _ _ _ _ (fun q => q))).le (Nat.le_of_ble_eq_true rfl) (fun v σ2 ⟨y, h1, h2, h3, h4⟩ => ⟨y, h1, h2, ⟨h3.1, fun t i k j q => (h3.2 t i k j (fun q1 => q (by unfold M1 at q1; unfold ML35; omega))).trans (h.1.2 t i k j (fun q1 => q1))⟩, trivial⟩)) (pc' := 247) rfl (fun y1 => ?_)
  refine G_ex (fun hy1 => ?_)
  refine T_ld zk_191_247 rfl rfl rfl (pc' := 248) rfl ?_
  refine T_ld zk_191_248 rfl rfl rfl (pc' := 249) rfl ?_
  refine T_ld zk_191_249 rfl rfl rfl (pc' := 250) rfl ?_
  refine T_op zk_191_250 rfl X_ic (pc' := 251) rfl ?_
  refine T_opc (w := 1) zk_191_251 rfl X_add (by omega) (pc' := 252) rfl ?_
  refine T_sld (n := 6) (w := p1) zk_191_252 hx (by omega) (by omega) (by omega) e1 (pc' := 253) rfl ?_
  refine T_ld zk_191_253 rfl rfl rfl (pc' := 254) rfl ?_
  refine T_ld zk_191_254 rfl rfl rfl (pc' := 255) rfl ?_
  refine T_op zk_191_255 rfl X_ic (pc' := 256) rfl ?_
  refine T_opc (w := 2) zk_191_256 rfl X_add (by omega) (pc' := 257) rfl ?_
  refine T_sld (n := 6) (w := p2) zk_191_257 hx (by omega) (by omega) (by omega) e2 (pc' := 258) rfl ?_
  refine T_calli (K := fun y2 σ' => ((y2 = -1 ∧ (¬ (0 ≤ p1 ∧ p1 ≤ 24))) ∨ (y2 = -6 ∧ ¬ (¬ (0 ≤ p1 ∧ p1 ≤ 24)) ∧ (¬ (-300 ≤ p2 ∧ p2 ≤ 300))) ∨ (y2 = 0 ∧ ¬ (¬ (0 ≤ p1 ∧ p1 ≤ 24)) ∧ ¬ (¬ (-300 ≤ p2 ∧ p2 ≤ 300)))) ∧ (fun σ' => IF MA σ0 σ' ∧ True) σ') (r := [iv y1]) zk_191_258 rfl rfl rfl rfl rfl rfl (Or.inr ⟨_, _, _, _, rfl, vd_35, rfl⟩) (fun σ' h => (m_level p1 p2 (by omega) (by omega) σ' h.1.1 (fun _ _ _ _ ht => h.1.2 _ _ _ _ (by unfold ML35; omega))).le (Nat.le_of_ble_eq_true rfl) (fun v σ2 ⟨y, h1, h2, h3, h4⟩ => ⟨y, h1, h2, ⟨h3.1, fun t i k j q => (q trivial).elim⟩, trivial⟩)) (pc' := 261) rfl (fun y2 => ?_)
  refine G_ex (fun hy2 => ?_)
  refine T_icmp_eqS zk_191_261 (cs_3 hy1 hy2) ?_
  refine T_iinc (L' := [(0, .ref 0), (1, av 0 0 0), (2, av 35 0 0), (3, iv 6)]) zk_191_1611 (nL := 4) rfl rfl (show _ = some (iv 0) from rfl) rfl (pc' := 1614) rfl ?_
  refine T_goto zk_191_1614 ?_
  exact zl_head hx (by omega) (by omega) (by omega) (by omega)
theorem zl_2 {xs : Nat × (Nat → Int32)} (hx : xs.1 = 7) (p1 p2 p3 p4 p5 : Int) (h1 : -2147483648 ≤ p1 ∧ p1 ≤ 2147483647) (h2 : -2147483648 ≤ p2 ∧ p2 ≤ 2147483647) (h3 : -2147483648 ≤ p3 ∧ p3 ≤ 2147483647) (h4 : -2147483648 ≤ p4 ∧ p4 ≤ 2147483647) (h5 : -2147483648 ≤ p5 ∧ p5 ≤ 2147483647) (e1 : xs.2 1 = Int32.ofInt p1) (e2 : xs.2 2 = Int32.ofInt p2) (e3 : xs.2 3 = Int32.ofInt p3) (e4 : xs.2 4 = Int32.ofInt p4) (e5 : xs.2 5 = Int32.ofInt p5) : TJ xs (fun σ' => IF MN σ0 σ' ∧ True) 8 191 266 [(0, .ref 0), (1, av 0 0 0), (2, av 35 0 0), (3, iv 0)] [] (fun v _ => v = some (.int 1)) := by
  refine T_ld zk_191_266 rfl rfl rfl (pc' := 267) rfl ?_
  refine T_ld zk_191_267 rfl rfl rfl (pc' := 268) rfl ?_
  refine T_ld zk_191_268 rfl rfl rfl (pc' := 269) rfl ?_
  refine T_op zk_191_269 rfl X_ic (pc' := 270) rfl ?_
  refine T_opc (w := 1) zk_191_270 rfl X_add (by omega) (pc' := 271) rfl ?_
  refine T_sld (n := 6) (w := p1) zk_191_271 hx (by omega) (by omega) (by omega) e1 (pc' := 272) rfl ?_
  refine T_ld zk_191_272 rfl rfl rfl (pc' := 273) rfl ?_
  refine T_ld zk_191_273 rfl rfl rfl (pc' := 274) rfl ?_
  refine T_op zk_191_274 rfl X_ic (pc' := 275) rfl ?_
  refine T_opc (w := 2) zk_191_275 rfl X_add (by omega) (pc' := 276) rfl ?_
  refine T_sld (n := 6) (w := p2) zk_191_276 hx (by omega) (by omega) (by omega) e2 (pc' := 277) rfl ?_
  refine T_ld zk_191_277 rfl rfl rfl (pc' := 278) rfl ?_
  refine T_ld zk_191_278 rfl rfl rfl (pc' := 279) rfl ?_
  refine T_op zk_191_279 rfl X_ic (pc' := 280) rfl ?_
  refine T_opc (w := 3) zk_191_280 rfl X_add (by omega) (pc' := 281) rfl ?_
  refine T_sld (n := 6) (w := p3) zk_191_281 hx (by omega) (by omega) (by omega) e3 (pc' := 282) rfl ?_
  refine T_if_eq zk_191_282 (by omega) (pc' := 285) rfl (fun b1 => ?_) (fun b1 => ?_)
  ·
    refine T_op zk_191_289 rfl X_ic (pc' := 290) rfl ?_
    refine T_calli (K := fun y2 σ' => ((y2 = -1 ∧ (¬ (0 ≤ p1 ∧ p1 ≤ 24 ∧ 0 ≤ p2 ∧ p2 ≤ 24 ∧ (p2 = p1 + 5 ∨ p1 = p2 + 5 ∨ (p2 = p1 + 1 ∧ p1 % 5 < 4) ∨ (p1 = p2 + 1 ∧ p2 % 5 < 4))))) ∨ (y2 = 0 ∧ ¬ (¬ (0 ≤ p1 ∧ p1 ≤ 24 ∧ 0 ≤ p2 ∧ p2 ≤ 24 ∧ (p2 = p1 + 5 ∨ p1 = p2 + 5 ∨ (p2 = p1 + 1 ∧ p1 % 5 < 4) ∨ (p1 = p2 + 1 ∧ p2 % 5 < 4)))))) ∧ (fun σ' => IF ML35 σ0 σ' ∧ True) σ') (r := []) zk_191_290 rfl rfl rfl rfl rfl rfl (Or.inr ⟨_, _, _, _, rfl, vd_0, rfl⟩) (fun σ' h => (x_close p1 p2 0 (by omega) (by omega) (by omega) σ' h.1.1 (fun _ _ _ _ _ => h.1.2 _ _ _ _ (fun q => q))).le (Nat.le_of_ble_eq_true rfl) (fun v σ2 ⟨y, h1, h2, h3, h4⟩ => ⟨y, h1, h2, ⟨h3.1, fun t i k j q => (h3.2 t i k j (fun q1 => q (by unfold MT at q1; unfold ML35; omega))).trans (h.1.2 t i k j (fun q1 => q1))⟩, trivial⟩)) (pc' := 293) rfl (fun y2 => ?_)
    refine G_ex (fun hy2 => ?_)
    refine T_ld zk_191_293 rfl rfl rfl (pc' := 294) rfl ?_
    refine T_ld zk_191_294 rfl rfl rfl (pc' := 295) rfl ?_
    refine T_ld zk_191_295 rfl rfl rfl (pc' := 296) rfl ?_
    refine T_op zk_191_296 rfl X_ic (pc' := 297) rfl ?_
    refine T_opc (w := 1) zk_191_297 rfl X_add (by omega) (pc' := 298) rfl ?_
    refine T_sld (n := 6) (w := p1) zk_191_298 hx (by omega) (by omega) (by omega) e1 (pc' := 299) rfl ?_
    refine T_ld zk_191_299 rfl rfl rfl (pc' := 300) rfl ?_
    refine T_ld zk_191_300 rfl rfl rfl (pc' := 301) rfl ?_
    refine T_op zk_191_301 rfl X_ic (pc' := 302) rfl ?_
    refine T_opc (w := 2) zk_191_302 rfl X_add (by omega) (pc' := 303) rfl ?_
    refine T_sld (n := 6) (w := p2) zk_191_303 hx (by omega) (by omega) (by omega) e2 (pc' := 304) rfl ?_
    refine T_ld zk_191_304 rfl rfl rfl (pc' := 305) rfl ?_
    refine T_ld zk_191_305 rfl rfl rfl (pc' := 306) rfl ?_
    refine T_op zk_191_306 rfl X_ic (pc' := 307) rfl ?_
    refine T_opc (w := 3) zk_191_307 rfl X_add (by omega) (pc' := 308) rfl ?_
    refine T_sld (n := 6) (w := p3) zk_191_308 hx (by omega) (by omega) (by omega) e3 (pc' := 309) rfl ?_
    refine T_if_eq zk_191_309 (by omega) (pc' := 312) rfl (fun b3 => ?_) (fun b3 => ?_)
    ·
      refine T_op zk_191_316 rfl X_ic (pc' := 317) rfl ?_
      refine T_calli (K := fun y4 σ' => ((y4 = -1 ∧ (¬ (0 ≤ p1 ∧ p1 ≤ 24 ∧ 0 ≤ p2 ∧ p2 ≤ 24 ∧ (p2 = p1 + 5 ∨ p1 = p2 + 5 ∨ (p2 = p1 + 1 ∧ p1 % 5 < 4) ∨ (p1 = p2 + 1 ∧ p2 % 5 < 4))))) ∨ (y4 = 0 ∧ ¬ (¬ (0 ≤ p1 ∧ p1 ≤ 24 ∧ 0 ≤ p2 ∧ p2 ≤ 24 ∧ (p2 = p1 + 5 ∨ p1 = p2 + 5 ∨ (p2 = p1 + 1 ∧ p1 % 5 < 4) ∨ (p1 = p2 + 1 ∧ p2 % 5 < 4)))))) ∧ (fun σ' => IF MA σ0 σ' ∧ True) σ') (r := [iv y2]) zk_191_317 rfl rfl rfl rfl rfl rfl (Or.inr ⟨_, _, _, _, rfl, vd_35, rfl⟩) (fun σ' h => (m_close p1 p2 0 (by omega) (by omega) (by omega) σ' h.1.1 (fun _ _ _ _ ht => h.1.2 _ _ _ _ (by unfold ML35; omega))).le (Nat.le_of_ble_eq_true rfl) (fun v σ2 ⟨y, h1, h2, h3, h4⟩ => ⟨y, h1, h2, ⟨h3.1, fun t i k j q => (q trivial).elim⟩, trivial⟩)) (pc' := 320) rfl (fun y4 => ?_)
      refine G_ex (fun hy4 => ?_)
      refine T_icmp_eqS zk_191_320 (cs_2 hy2 hy4) ?_
      refine T_iinc (L' := [(0, .ref 0), (1, av 0 0 0), (2, av 35 0 0), (3, iv 6)]) zk_191_1611 (nL := 4) rfl rfl (show _ = some (iv 0) from rfl) rfl (pc' := 1614) rfl ?_
      refine T_goto zk_191_1614 ?_
      exact zl_head hx (by omega) (by omega) (by omega) (by omega)
    · exfalso; omega
  ·
    refine T_op zk_191_285 rfl X_ic (pc' := 286) rfl ?_
    refine T_goto zk_191_286 ?_
    refine T_calli (K := fun y5 σ' => ((y5 = -1 ∧ (¬ (0 ≤ p1 ∧ p1 ≤ 24 ∧ 0 ≤ p2 ∧ p2 ≤ 24 ∧ (p2 = p1 + 5 ∨ p1 = p2 + 5 ∨ (p2 = p1 + 1 ∧ p1 % 5 < 4) ∨ (p1 = p2 + 1 ∧ p2 % 5 < 4))))) ∨ (y5 = 1 ∧ ¬ (¬ (0 ≤ p1 ∧ p1 ≤ 24 ∧ 0 ≤ p2 ∧ p2 ≤ 24 ∧ (p2 = p1 + 5 ∨ p1 = p2 + 5 ∨ (p2 = p1 + 1 ∧ p1 % 5 < 4) ∨ (p1 = p2 + 1 ∧ p2 % 5 < 4)))))) ∧ (fun σ' => IF ML35 σ0 σ' ∧ True) σ') (r := []) zk_191_290 rfl rfl rfl rfl rfl rfl (Or.inr ⟨_, _, _, _, rfl, vd_0, rfl⟩) (fun σ' h => (x_close p1 p2 1 (by omega) (by omega) (by omega) σ' h.1.1 (fun _ _ _ _ _ => h.1.2 _ _ _ _ (fun q => q))).le (Nat.le_of_ble_eq_true rfl) (fun v σ2 ⟨y, h1, h2, h3, h4⟩ => ⟨y, h1, h2, ⟨h3.1, fun t i k j q => (h3.2 t i k j (fun q1 => q (by unfold MT at q1; unfold ML35; omega))).trans (h.1.2 t i k j (fun q1 => q1))⟩, trivial⟩)) (pc' := 293) rfl (fun y5 => ?_)
    refine G_ex (fun hy5 => ?_)
    refine T_ld zk_191_293 rfl rfl rfl (pc' := 294) rfl ?_
    refine T_ld zk_191_294 rfl rfl rfl (pc' := 295) rfl ?_
    refine T_ld zk_191_295 rfl rfl rfl (pc' := 296) rfl ?_
    refine T_op zk_191_296 rfl X_ic (pc' := 297) rfl ?_
    refine T_opc (w := 1) zk_191_297 rfl X_add (by omega) (pc' := 298) rfl ?_
    refine T_sld (n := 6) (w := p1) zk_191_298 hx (by omega) (by omega) (by omega) e1 (pc' := 299) rfl ?_
    refine T_ld zk_191_299 rfl rfl rfl (pc' := 300) rfl ?_
    refine T_ld zk_191_300 rfl rfl rfl (pc' := 301) rfl ?_
    refine T_op zk_191_301 rfl X_ic (pc' := 302) rfl ?_
    refine T_opc (w := 2) zk_191_302 rfl X_add (by omega) (pc' := 303) rfl ?_
    refine T_sld (n := 6) (w := p2) zk_191_303 hx (by omega) (by omega) (by omega) e2 (pc' := 304) rfl ?_
    refine T_ld zk_191_304 rfl rfl rfl (pc' := 305) rfl ?_
    refine T_ld zk_191_305 rfl rfl rfl (pc' := 306) rfl ?_
    refine T_op zk_191_306 rfl X_ic (pc' := 307) rfl ?_
    refine T_opc (w := 3) zk_191_307 rfl X_add (by omega) (pc' := 308) rfl ?_
    refine T_sld (n := 6) (w := p3) zk_191_308 hx (by omega) (by omega) (by omega) e3 (pc' := 309) rfl ?_
    refine T_if_eq zk_191_309 (by omega) (pc' := 312) rfl (fun b6 => ?_) (fun b6 => ?_)
    · exfalso; omega
    ·
      refine T_op zk_191_312 rfl X_ic (pc' := 313) rfl ?_
      refine T_goto zk_191_313 ?_
      refine T_calli (K := fun y7 σ' => ((y7 = -1 ∧ (¬ (0 ≤ p1 ∧ p1 ≤ 24 ∧ 0 ≤ p2 ∧ p2 ≤ 24 ∧ (p2 = p1 + 5 ∨ p1 = p2 + 5 ∨ (p2 = p1 + 1 ∧ p1 % 5 < 4) ∨ (p1 = p2 + 1 ∧ p2 % 5 < 4))))) ∨ (y7 = 1 ∧ ¬ (¬ (0 ≤ p1 ∧ p1 ≤ 24 ∧ 0 ≤ p2 ∧ p2 ≤ 24 ∧ (p2 = p1 + 5 ∨ p1 = p2 + 5 ∨ (p2 = p1 + 1 ∧ p1 % 5 < 4) ∨ (p1 = p2 + 1 ∧ p2 % 5 < 4)))))) ∧ (fun σ' => IF MA σ0 σ' ∧ True) σ') (r := [iv y5]) zk_191_317 rfl rfl rfl rfl rfl rfl (Or.inr ⟨_, _, _, _, rfl, vd_35, rfl⟩) (fun σ' h => (m_close p1 p2 1 (by omega) (by omega) (by omega) σ' h.1.1 (fun _ _ _ _ ht => h.1.2 _ _ _ _ (by unfold ML35; omega))).le (Nat.le_of_ble_eq_true rfl) (fun v σ2 ⟨y, h1, h2, h3, h4⟩ => ⟨y, h1, h2, ⟨h3.1, fun t i k j q => (q trivial).elim⟩, trivial⟩)) (pc' := 320) rfl (fun y7 => ?_)
      refine G_ex (fun hy7 => ?_)
      refine T_icmp_eqS zk_191_320 (cs_2 hy5 hy7) ?_
      refine T_iinc (L' := [(0, .ref 0), (1, av 0 0 0), (2, av 35 0 0), (3, iv 6)]) zk_191_1611 (nL := 4) rfl rfl (show _ = some (iv 0) from rfl) rfl (pc' := 1614) rfl ?_
      refine T_goto zk_191_1614 ?_
      exact zl_head hx (by omega) (by omega) (by omega) (by omega)
theorem zl_3 {xs : Nat × (Nat → Int32)} (hx : xs.1 = 7) (p1 p2 p3 p4 p5 : Int) (h1 : -2147483648 ≤ p1 ∧ p1 ≤ 2147483647) (h2 : -2147483648 ≤ p2 ∧ p2 ≤ 2147483647) (h3 : -2147483648 ≤ p3 ∧ p3 ≤ 2147483647) (h4 : -2147483648 ≤ p4 ∧ p4 ≤ 2147483647) (h5 : -2147483648 ≤ p5 ∧ p5 ≤ 2147483647) (e1 : xs.2 1 = Int32.ofInt p1) (e2 : xs.2 2 = Int32.ofInt p2) (e3 : xs.2 3 = Int32.ofInt p3) (e4 : xs.2 4 = Int32.ofInt p4) (e5 : xs.2 5 = Int32.ofInt p5) : TJ xs (fun σ' => IF MN σ0 σ' ∧ True) 8 191 325 [(0, .ref 0), (1, av 0 0 0), (2, av 35 0 0), (3, iv 0)] [] (fun v _ => v = some (.int 1)) := by
  refine T_ld zk_191_325 rfl rfl rfl (pc' := 326) rfl ?_
  refine T_ld zk_191_326 rfl rfl rfl (pc' := 327) rfl ?_
  refine T_ld zk_191_327 rfl rfl rfl (pc' := 328) rfl ?_
  refine T_op zk_191_328 rfl X_ic (pc' := 329) rfl ?_
  refine T_opc (w := 1) zk_191_329 rfl X_add (by omega) (pc' := 330) rfl ?_
  refine T_sld (n := 6) (w := p1) zk_191_330 hx (by omega) (by omega) (by omega) e1 (pc' := 331) rfl ?_
  refine T_ld zk_191_331 rfl rfl rfl (pc' := 332) rfl ?_
  refine T_ld zk_191_332 rfl rfl rfl (pc' := 333) rfl ?_
  refine T_op zk_191_333 rfl X_ic (pc' := 334) rfl ?_
  refine T_opc (w := 2) zk_191_334 rfl X_add (by omega) (pc' := 335) rfl ?_
  refine T_sld (n := 6) (w := p2) zk_191_335 hx (by omega) (by omega) (by omega) e2 (pc' := 336) rfl ?_
  refine T_ld zk_191_336 rfl rfl rfl (pc' := 337) rfl ?_
  refine T_ld zk_191_337 rfl rfl rfl (pc' := 338) rfl ?_
  refine T_op zk_191_338 rfl X_ic (pc' := 339) rfl ?_
  refine T_opc (w := 3) zk_191_339 rfl X_add (by omega) (pc' := 340) rfl ?_
  refine T_sld (n := 6) (w := p3) zk_191_340 hx (by omega) (by omega) (by omega) e3 (pc' := 341) rfl ?_
  refine T_if_eq zk_191_341 (by omega) (pc' := 344) rfl (fun b1 => ?_) (fun b1 => ?_)
  ·
    refine T_op zk_191_348 rfl X_ic (pc' := 349) rfl ?_
    refine T_calli (K := fun y2 σ' => ((y2 = -1 ∧ (¬ (0 ≤ p1 ∧ p1 ≤ 24 ∧ 0 ≤ p2 ∧ p2 ≤ 24 ∧ (p2 = p1 + 5 ∨ p1 = p2 + 5 ∨ (p2 = p1 + 1 ∧ p1 % 5 < 4) ∨ (p1 = p2 + 1 ∧ p2 % 5 < 4))))) ∨ (y2 = 0 ∧ ¬ (¬ (0 ≤ p1 ∧ p1 ≤ 24 ∧ 0 ≤ p2 ∧ p2 ≤ 24 ∧ (p2 = p1 + 5 ∨ p1 = p2 + 5 ∨ (p2 = p1 + 1 ∧ p1 % 5 < 4) ∨ (p1 = p2 + 1 ∧ p2 % 5 < 4)))))) ∧ (fun σ' => IF ML35 σ0 σ' ∧ True) σ') (r := []) zk_191_349 rfl rfl rfl rfl rfl rfl (Or.inr ⟨_, _, _, _, rfl, vd_0, rfl⟩) (fun σ' h => (x_narrow p1 p2 0 (by omega) (by omega) (by omega) σ' h.1.1 (fun _ _ _ _ _ => h.1.2 _ _ _ _ (fun q => q))).le (Nat.le_of_ble_eq_true rfl) (fun v σ2 ⟨y, h1, h2, h3, h4⟩ => ⟨y, h1, h2, ⟨h3.1, fun t i k j q => (h3.2 t i k j (fun q1 => q (by unfold MT at q1; unfold ML35; omega))).trans (h.1.2 t i k j (fun q1 => q1))⟩, trivial⟩)) (pc' := 352) rfl (fun y2 => ?_)
    refine G_ex (fun hy2 => ?_)
    refine T_ld zk_191_352 rfl rfl rfl (pc' := 353) rfl ?_
    refine T_ld zk_191_353 rfl rfl rfl (pc' := 354) rfl ?_
    refine T_ld zk_191_354 rfl rfl rfl (pc' := 355) rfl ?_
    refine T_op zk_191_355 rfl X_ic (pc' := 356) rfl ?_
    refine T_opc (w := 1) zk_191_356 rfl X_add (by omega) (pc' := 357) rfl ?_
    refine T_sld (n := 6) (w := p1) zk_191_357 hx (by omega) (by omega) (by omega) e1 (pc' := 358) rfl ?_
    refine T_ld zk_191_358 rfl rfl rfl (pc' := 359) rfl ?_
    refine T_ld zk_191_359 rfl rfl rfl (pc' := 360) rfl ?_
    refine T_op zk_191_360 rfl X_ic (pc' := 361) rfl ?_
    refine T_opc (w := 2) zk_191_361 rfl X_add (by omega) (pc' := 362) rfl ?_
    refine T_sld (n := 6) (w := p2) zk_191_362 hx (by omega) (by omega) (by omega) e2 (pc' := 363) rfl ?_
    refine T_ld zk_191_363 rfl rfl rfl (pc' := 364) rfl ?_
    refine T_ld zk_191_364 rfl rfl rfl (pc' := 365) rfl ?_
    refine T_op zk_191_365 rfl X_ic (pc' := 366) rfl ?_
    refine T_opc (w := 3) zk_191_366 rfl X_add (by omega) (pc' := 367) rfl ?_
    refine T_sld (n := 6) (w := p3) zk_191_367 hx (by omega) (by omega) (by omega) e3 (pc' := 368) rfl ?_
    refine T_if_eq zk_191_368 (by omega) (pc' := 371) rfl (fun b3 => ?_) (fun b3 => ?_)
    ·
      refine T_op zk_191_375 rfl X_ic (pc' := 376) rfl ?_
      refine T_calli (K := fun y4 σ' => ((y4 = -1 ∧ (¬ (0 ≤ p1 ∧ p1 ≤ 24 ∧ 0 ≤ p2 ∧ p2 ≤ 24 ∧ (p2 = p1 + 5 ∨ p1 = p2 + 5 ∨ (p2 = p1 + 1 ∧ p1 % 5 < 4) ∨ (p1 = p2 + 1 ∧ p2 % 5 < 4))))) ∨ (y4 = 0 ∧ ¬ (¬ (0 ≤ p1 ∧ p1 ≤ 24 ∧ 0 ≤ p2 ∧ p2 ≤ 24 ∧ (p2 = p1 + 5 ∨ p1 = p2 + 5 ∨ (p2 = p1 + 1 ∧ p1 % 5 < 4) ∨ (p1 = p2 + 1 ∧ p2 % 5 < 4)))))) ∧ (fun σ' => IF MA σ0 σ' ∧ True) σ') (r := [iv y2]) zk_191_376 rfl rfl rfl rfl rfl rfl (Or.inr ⟨_, _, _, _, rfl, vd_35, rfl⟩) (fun σ' h => (m_narrow p1 p2 0 (by omega) (by omega) (by omega) σ' h.1.1 (fun _ _ _ _ ht => h.1.2 _ _ _ _ (by unfold ML35; omega))).le (Nat.le_of_ble_eq_true rfl) (fun v σ2 ⟨y, h1, h2, h3, h4⟩ => ⟨y, h1, h2, ⟨h3.1, fun t i k j q => (q trivial).elim⟩, trivial⟩)) (pc' := 379) rfl (fun y4 => ?_)
      refine G_ex (fun hy4 => ?_)
      refine T_icmp_eqS zk_191_379 (cs_2 hy2 hy4) ?_
      refine T_iinc (L' := [(0, .ref 0), (1, av 0 0 0), (2, av 35 0 0), (3, iv 6)]) zk_191_1611 (nL := 4) rfl rfl (show _ = some (iv 0) from rfl) rfl (pc' := 1614) rfl ?_
      refine T_goto zk_191_1614 ?_
      exact zl_head hx (by omega) (by omega) (by omega) (by omega)
    · exfalso; omega
  ·
    refine T_op zk_191_344 rfl X_ic (pc' := 345) rfl ?_
    refine T_goto zk_191_345 ?_
    refine T_calli (K := fun y5 σ' => ((y5 = -1 ∧ (¬ (0 ≤ p1 ∧ p1 ≤ 24 ∧ 0 ≤ p2 ∧ p2 ≤ 24 ∧ (p2 = p1 + 5 ∨ p1 = p2 + 5 ∨ (p2 = p1 + 1 ∧ p1 % 5 < 4) ∨ (p1 = p2 + 1 ∧ p2 % 5 < 4))))) ∨ (y5 = 1 ∧ ¬ (¬ (0 ≤ p1 ∧ p1 ≤ 24 ∧ 0 ≤ p2 ∧ p2 ≤ 24 ∧ (p2 = p1 + 5 ∨ p1 = p2 + 5 ∨ (p2 = p1 + 1 ∧ p1 % 5 < 4) ∨ (p1 = p2 + 1 ∧ p2 % 5 < 4)))))) ∧ (fun σ' => IF ML35 σ0 σ' ∧ True) σ') (r := []) zk_191_349 rfl rfl rfl rfl rfl rfl (Or.inr ⟨_, _, _, _, rfl, vd_0, rfl⟩) (fun σ' h => (x_narrow p1 p2 1 (by omega) (by omega) (by omega) σ' h.1.1 (fun _ _ _ _ _ => h.1.2 _ _ _ _ (fun q => q))).le (Nat.le_of_ble_eq_true rfl) (fun v σ2 ⟨y, h1, h2, h3, h4⟩ => ⟨y, h1, h2, ⟨h3.1, fun t i k j q => (h3.2 t i k j (fun q1 => q (by unfold MT at q1; unfold ML35; omega))).trans (h.1.2 t i k j (fun q1 => q1))⟩, trivial⟩)) (pc' := 352) rfl (fun y5 => ?_)
    refine G_ex (fun hy5 => ?_)
    refine T_ld zk_191_352 rfl rfl rfl (pc' := 353) rfl ?_
    refine T_ld zk_191_353 rfl rfl rfl (pc' := 354) rfl ?_
    refine T_ld zk_191_354 rfl rfl rfl (pc' := 355) rfl ?_
    refine T_op zk_191_355 rfl X_ic (pc' := 356) rfl ?_
    refine T_opc (w := 1) zk_191_356 rfl X_add (by omega) (pc' := 357) rfl ?_
    refine T_sld (n := 6) (w := p1) zk_191_357 hx (by omega) (by omega) (by omega) e1 (pc' := 358) rfl ?_
    refine T_ld zk_191_358 rfl rfl rfl (pc' := 359) rfl ?_
    refine T_ld zk_191_359 rfl rfl rfl (pc' := 360) rfl ?_
    refine T_op zk_191_360 rfl X_ic (pc' := 361) rfl ?_
    refine T_opc (w := 2) zk_191_361 rfl X_add (by omega) (pc' := 362) rfl ?_
    refine T_sld (n := 6) (w := p2) zk_191_362 hx (by omega) (by omega) (by omega) e2 (pc' := 363) rfl ?_
    refine T_ld zk_191_363 rfl rfl rfl (pc' := 364) rfl ?_
    refine T_ld zk_191_364 rfl rfl rfl (pc' := 365) rfl ?_
    refine T_op zk_191_365 rfl X_ic (pc' := 366) rfl ?_
    refine T_opc (w := 3) zk_191_366 rfl X_add (by omega) (pc' := 367) rfl ?_
    refine T_sld (n := 6) (w := p3) zk_191_367 hx (by omega) (by omega) (by omega) e3 (pc' := 368) rfl ?_
    refine T_if_eq zk_191_368 (by omega) (pc' := 371) rfl (fun b6 => ?_) (fun b6 => ?_)
    · exfalso; omega
    ·
      refine T_op zk_191_371 rfl X_ic (pc' := 372) rfl ?_
      refine T_goto zk_191_372 ?_
      refine T_calli (K := fun y7 σ' => ((y7 = -1 ∧ (¬ (0 ≤ p1 ∧ p1 ≤ 24 ∧ 0 ≤ p2 ∧ p2 ≤ 24 ∧ (p2 = p1 + 5 ∨ p1 = p2 + 5 ∨ (p2 = p1 + 1 ∧ p1 % 5 < 4) ∨ (p1 = p2 + 1 ∧ p2 % 5 < 4))))) ∨ (y7 = 1 ∧ ¬ (¬ (0 ≤ p1 ∧ p1 ≤ 24 ∧ 0 ≤ p2 ∧ p2 ≤ 24 ∧ (p2 = p1 + 5 ∨ p1 = p2 + 5 ∨ (p2 = p1 + 1 ∧ p1 % 5 < 4) ∨ (p1 = p2 + 1 ∧ p2 % 5 < 4)))))) ∧ (fun σ' => IF MA σ0 σ' ∧ True) σ') (r := [iv y5]) zk_191_376 rfl rfl rfl rfl rfl rfl (Or.inr ⟨_, _, _, _, rfl, vd_35, rfl⟩) (fun σ' h => (m_narrow p1 p2 1 (by omega) (by omega) (by omega) σ' h.1.1 (fun _ _ _ _ ht => h.1.2 _ _ _ _ (by unfold ML35; omega))).le (Nat.le_of_ble_eq_true rfl) (fun v σ2 ⟨y, h1, h2, h3, h4⟩ => ⟨y, h1, h2, ⟨h3.1, fun t i k j q => (q trivial).elim⟩, trivial⟩)) (pc' := 379) rfl (fun y7 => ?_)
      refine G_ex (fun hy7 => ?_)
      refine T_icmp_eqS zk_191_379 (cs_2 hy5 hy7) ?_
      refine T_iinc (L' := [(0, .ref 0), (1, av 0 0 0), (2, av 35 0 0), (3, iv 6)]) zk_191_1611 (nL := 4) rfl rfl (show _ = some (iv 0) from rfl) rfl (pc' := 1614) rfl ?_
      refine T_goto zk_191_1614 ?_
      exact zl_head hx (by omega) (by omega) (by omega) (by omega)
theorem zl_4 {xs : Nat × (Nat → Int32)} (hx : xs.1 = 7) (p1 p2 p3 p4 p5 : Int) (h1 : -2147483648 ≤ p1 ∧ p1 ≤ 2147483647) (h2 : -2147483648 ≤ p2 ∧ p2 ≤ 2147483647) (h3 : -2147483648 ≤ p3 ∧ p3 ≤ 2147483647) (h4 : -2147483648 ≤ p4 ∧ p4 ≤ 2147483647) (h5 : -2147483648 ≤ p5 ∧ p5 ≤ 2147483647) (e1 : xs.2 1 = Int32.ofInt p1) (e2 : xs.2 2 = Int32.ofInt p2) (e3 : xs.2 3 = Int32.ofInt p3) (e4 : xs.2 4 = Int32.ofInt p4) (e5 : xs.2 5 = Int32.ofInt p5) : TJ xs (fun σ' => IF MN σ0 σ' ∧ True) 8 191 384 [(0, .ref 0), (1, av 0 0 0), (2, av 35 0 0), (3, iv 0)] [] (fun v _ => v = some (.int 1)) := by
  refine T_ld zk_191_384 rfl rfl rfl (pc' := 385) rfl ?_
  refine T_ld zk_191_385 rfl rfl rfl (pc' := 386) rfl ?_
  refine T_ld zk_191_386 rfl rfl rfl (pc' := 387) rfl ?_
  refine T_op zk_191_387 rfl X_ic (pc' := 388) rfl ?_
  refine T_opc (w := 1) zk_191_388 rfl X_add (by omega) (pc' := 389) rfl ?_
  refine T_sld (n := 6) (w := p1) zk_191_389 hx (by omega) (by omega) (by omega) e1 (pc' := 390) rfl ?_
  refine T_ld zk_191_390 rfl rfl rfl (pc' := 391) rfl ?_
  refine T_ld zk_191_391 rfl rfl rfl (pc' := 392) rfl ?_
  refine T_op zk_191_392 rfl X_ic (pc' := 393) rfl ?_
  refine T_opc (w := 2) zk_191_393 rfl X_add (by omega) (pc' := 394) rfl ?_
  refine T_sld (n := 6) (w := p2) zk_191_394 hx (by omega) (by omega) (by omega) e2 (pc' := 395) rfl ?_
  refine T_ld zk_191_395 rfl rfl rfl (pc' := 396) rfl ?_
  refine T_ld zk_191_396 rfl rfl rfl (pc' := 397) rfl ?_
  refine T_op zk_191_397 rfl X_ic (pc' := 398) rfl ?_
  refine T_opc (w := 3) zk_191_398 rfl X_add (by omega) (pc' := 399) rfl ?_
  refine T_sld (n := 6) (w := p3) zk_191_399 hx (by omega) (by omega) (by omega) e3 (pc' := 400) rfl ?_
  refine T_calli (K := fun y1 σ' => ((y1 = -1 ∧ (¬ (0 ≤ p1 ∧ p1 ≤ 24 ∧ 0 ≤ p2 ∧ p2 ≤ 24 ∧ (p2 = p1 + 5 ∨ p1 = p2 + 5 ∨ (p2 = p1 + 1 ∧ p1 % 5 < 4) ∨ (p1 = p2 + 1 ∧ p2 % 5 < 4))))) ∨ (y1 = -6 ∧ ¬ (¬ (0 ≤ p1 ∧ p1 ≤ 24 ∧ 0 ≤ p2 ∧ p2 ≤ 24 ∧ (p2 = p1 + 5 ∨ p1 = p2 + 5 ∨ (p2 = p1 + 1 ∧ p1 % 5 < 4) ∨ (p1 = p2 + 1 ∧ p2 % 5 < 4)))) ∧ (¬ (-1 ≤ p3 ∧ p3 ≤ 99))) ∨ (y1 = -1 ∧ ¬ (¬ (0 ≤ p1 ∧ p1 ≤ 24 ∧ 0 ≤ p2 ∧ p2 ≤ 24 ∧ (p2 = p1 + 5 ∨ p1 = p2 + 5 ∨ (p2 = p1 + 1 ∧ p1 % 5 < 4) ∨ (p1 = p2 + 1 ∧ p2 % 5 < 4)))) ∧ ¬ (¬ (-1 ≤ p3 ∧ p3 ≤ 99)))) ∧ (fun σ' => IF ML35 σ0 σ' ∧ True) σ') (r := []) zk_191_400 rfl rfl rfl rfl rfl rfl (Or.inr ⟨_, _, _, _, rfl, vd_0, rfl⟩) (fun σ' h => (x_bridge p1 p2 p3 (by omega) (by omega) (by omega) σ' h.1.1 (fun _ _ _ _ _ => h.1.2 _ _ _ _ (fun q => q))).le (Nat.le_of_ble_eq_true rfl) (fun v σ2 ⟨y, h1, h2, h3, h4⟩ => ⟨y, h1, h2, ⟨h3.1, fun t i k j q => (h3.2 t i k j (fun q1 => q (by unfold MT at q1; unfold ML35; omega))).trans (h.1.2 t i k j (fun q1 => q1))⟩, trivial⟩)) (pc' := 403) rfl (fun y1 => ?_)
  refine G_ex (fun hy1 => ?_)
  refine T_ld zk_191_403 rfl rfl rfl (pc' := 404) rfl ?_
  refine T_ld zk_191_404 rfl rfl rfl (pc' := 405) rfl ?_
  refine T_ld zk_191_405 rfl rfl rfl (pc' := 406) rfl ?_
  refine T_op zk_191_406 rfl X_ic (pc' := 407) rfl ?_
  refine T_opc (w := 1) zk_191_407 rfl X_add (by omega) (pc' := 408) rfl ?_
  refine T_sld (n := 6) (w := p1) zk_191_408 hx (by omega) (by omega) (by omega) e1 (pc' := 409) rfl ?_
  refine T_ld zk_191_409 rfl rfl rfl (pc' := 410) rfl ?_
  refine T_ld zk_191_410 rfl rfl rfl (pc' := 411) rfl ?_
  refine T_op zk_191_411 rfl X_ic (pc' := 412) rfl ?_
  refine T_opc (w := 2) zk_191_412 rfl X_add (by omega) (pc' := 413) rfl ?_
  refine T_sld (n := 6) (w := p2) zk_191_413 hx (by omega) (by omega) (by omega) e2 (pc' := 414) rfl ?_
  refine T_ld zk_191_414 rfl rfl rfl (pc' := 415) rfl ?_
  refine T_ld zk_191_415 rfl rfl rfl (pc' := 416) rfl ?_
  refine T_op zk_191_416 rfl X_ic (pc' := 417) rfl ?_
  refine T_opc (w := 3) zk_191_417 rfl X_add (by omega) (pc' := 418) rfl ?_
  refine T_sld (n := 6) (w := p3) zk_191_418 hx (by omega) (by omega) (by omega) e3 (pc' := 419) rfl ?_
  refine T_calli (K := fun y2 σ' => ((y2 = -1 ∧ (¬ (0 ≤ p1 ∧ p1 ≤ 24 ∧ 0 ≤ p2 ∧ p2 ≤ 24 ∧ (p2 = p1 + 5 ∨ p1 = p2 + 5 ∨ (p2 = p1 + 1 ∧ p1 % 5 < 4) ∨ (p1 = p2 + 1 ∧ p2 % 5 < 4))))) ∨ (y2 = -6 ∧ ¬ (¬ (0 ≤ p1 ∧ p1 ≤ 24 ∧ 0 ≤ p2 ∧ p2 ≤ 24 ∧ (p2 = p1 + 5 ∨ p1 = p2 + 5 ∨ (p2 = p1 + 1 ∧ p1 % 5 < 4) ∨ (p1 = p2 + 1 ∧ p2 % 5 < 4)))) ∧ (¬ (-1 ≤ p3 ∧ p3 ≤ 99))) ∨ (y2 = -1 ∧ ¬ (¬ (0 ≤ p1 ∧ p1 ≤ 24 ∧ 0 ≤ p2 ∧ p2 ≤ 24 ∧ (p2 = p1 + 5 ∨ p1 = p2 + 5 ∨ (p2 = p1 + 1 ∧ p1 % 5 < 4) ∨ (p1 = p2 + 1 ∧ p2 % 5 < 4)))) ∧ ¬ (¬ (-1 ≤ p3 ∧ p3 ≤ 99)))) ∧ (fun σ' => IF MA σ0 σ' ∧ True) σ') (r := [iv y1]) zk_191_419 rfl rfl rfl rfl rfl rfl (Or.inr ⟨_, _, _, _, rfl, vd_35, rfl⟩) (fun σ' h => (m_bridge p1 p2 p3 (by omega) (by omega) (by omega) σ' h.1.1 (fun _ _ _ _ ht => h.1.2 _ _ _ _ (by unfold ML35; omega))).le (Nat.le_of_ble_eq_true rfl) (fun v σ2 ⟨y, h1, h2, h3, h4⟩ => ⟨y, h1, h2, ⟨h3.1, fun t i k j q => (q trivial).elim⟩, trivial⟩)) (pc' := 422) rfl (fun y2 => ?_)
  refine G_ex (fun hy2 => ?_)
  refine T_icmp_eqS zk_191_422 (cs_3 hy1 hy2) ?_
  refine T_iinc (L' := [(0, .ref 0), (1, av 0 0 0), (2, av 35 0 0), (3, iv 6)]) zk_191_1611 (nL := 4) rfl rfl (show _ = some (iv 0) from rfl) rfl (pc' := 1614) rfl ?_
  refine T_goto zk_191_1614 ?_
  exact zl_head hx (by omega) (by omega) (by omega) (by omega)
theorem zl_5 {xs : Nat × (Nat → Int32)} (hx : xs.1 = 7) (p1 p2 p3 p4 p5 : Int) (h1 : -2147483648 ≤ p1 ∧ p1 ≤ 2147483647) (h2 : -2147483648 ≤ p2 ∧ p2 ≤ 2147483647) (h3 : -2147483648 ≤ p3 ∧ p3 ≤ 2147483647) (h4 : -2147483648 ≤ p4 ∧ p4 ≤ 2147483647) (h5 : -2147483648 ≤ p5 ∧ p5 ≤ 2147483647) (e1 : xs.2 1 = Int32.ofInt p1) (e2 : xs.2 2 = Int32.ofInt p2) (e3 : xs.2 3 = Int32.ofInt p3) (e4 : xs.2 4 = Int32.ofInt p4) (e5 : xs.2 5 = Int32.ofInt p5) : TJ xs (fun σ' => IF MN σ0 σ' ∧ True) 8 191 427 [(0, .ref 0), (1, av 0 0 0), (2, av 35 0 0), (3, iv 0)] [] (fun v _ => v = some (.int 1)) := by
  refine T_ld zk_191_427 rfl rfl rfl (pc' := 428) rfl ?_
  refine T_ld zk_191_428 rfl rfl rfl (pc' := 429) rfl ?_
  refine T_ld zk_191_429 rfl rfl rfl (pc' := 430) rfl ?_
  refine T_op zk_191_430 rfl X_ic (pc' := 431) rfl ?_
  refine T_opc (w := 1) zk_191_431 rfl X_add (by omega) (pc' := 432) rfl ?_
  refine T_sld (n := 6) (w := p1) zk_191_432 hx (by omega) (by omega) (by omega) e1 (pc' := 433) rfl ?_
  refine T_calli (K := fun y1 σ' => ((y1 = -1 ∧ (¬ (0 ≤ p1 ∧ p1 ≤ 24))) ∨ (y1 = 0 ∧ ¬ (¬ (0 ≤ p1 ∧ p1 ≤ 24)))) ∧ (fun σ' => IF ML35 σ0 σ' ∧ True) σ') (r := []) zk_191_433 rfl rfl rfl rfl rfl rfl (Or.inr ⟨_, _, _, _, rfl, vd_0, rfl⟩) (fun σ' h => (x_mouth p1 (by omega) σ' h.1.1 (fun _ _ _ _ _ => h.1.2 _ _ _ _ (fun q => q))).le (Nat.le_of_ble_eq_true rfl) (fun v σ2 ⟨y, h1, h2, h3, h4⟩ => ⟨y, h1, h2, ⟨h3.1, fun t i k j q => (h3.2 t i k j (fun q1 => q (by unfold MM at q1; unfold ML35; omega))).trans (h.1.2 t i k j (fun q1 => q1))⟩, trivial⟩)) (pc' := 436) rfl (fun y1 => ?_)
  refine G_ex (fun hy1 => ?_)
  refine T_ld zk_191_436 rfl rfl rfl (pc' := 437) rfl ?_
  refine T_ld zk_191_437 rfl rfl rfl (pc' := 438) rfl ?_
  refine T_ld zk_191_438 rfl rfl rfl (pc' := 439) rfl ?_
  refine T_op zk_191_439 rfl X_ic (pc' := 440) rfl ?_
  refine T_opc (w := 1) zk_191_440 rfl X_add (by omega) (pc' := 441) rfl ?_
  refine T_sld (n := 6) (w := p1) zk_191_441 hx (by omega) (by omega) (by omega) e1 (pc' := 442) rfl ?_
  refine T_calli (K := fun y2 σ' => ((y2 = -1 ∧ (¬ (0 ≤ p1 ∧ p1 ≤ 24))) ∨ (y2 = 0 ∧ ¬ (¬ (0 ≤ p1 ∧ p1 ≤ 24)))) ∧ (fun σ' => IF MA σ0 σ' ∧ True) σ') (r := [iv y1]) zk_191_442 rfl rfl rfl rfl rfl rfl (Or.inr ⟨_, _, _, _, rfl, vd_35, rfl⟩) (fun σ' h => (m_mouth p1 (by omega) σ' h.1.1 (fun _ _ _ _ ht => h.1.2 _ _ _ _ (by unfold ML35; omega))).le (Nat.le_of_ble_eq_true rfl) (fun v σ2 ⟨y, h1, h2, h3, h4⟩ => ⟨y, h1, h2, ⟨h3.1, fun t i k j q => (q trivial).elim⟩, trivial⟩)) (pc' := 445) rfl (fun y2 => ?_)
  refine G_ex (fun hy2 => ?_)
  refine T_icmp_eqS zk_191_445 (cs_2 hy1 hy2) ?_
  refine T_iinc (L' := [(0, .ref 0), (1, av 0 0 0), (2, av 35 0 0), (3, iv 6)]) zk_191_1611 (nL := 4) rfl rfl (show _ = some (iv 0) from rfl) rfl (pc' := 1614) rfl ?_
  refine T_goto zk_191_1614 ?_
  exact zl_head hx (by omega) (by omega) (by omega) (by omega)
theorem zl_6 {xs : Nat × (Nat → Int32)} (hx : xs.1 = 7) (p1 p2 p3 p4 p5 : Int) (h1 : -2147483648 ≤ p1 ∧ p1 ≤ 2147483647) (h2 : -2147483648 ≤ p2 ∧ p2 ≤ 2147483647) (h3 : -2147483648 ≤ p3 ∧ p3 ≤ 2147483647) (h4 : -2147483648 ≤ p4 ∧ p4 ≤ 2147483647) (h5 : -2147483648 ≤ p5 ∧ p5 ≤ 2147483647) (e1 : xs.2 1 = Int32.ofInt p1) (e2 : xs.2 2 = Int32.ofInt p2) (e3 : xs.2 3 = Int32.ofInt p3) (e4 : xs.2 4 = Int32.ofInt p4) (e5 : xs.2 5 = Int32.ofInt p5) : TJ xs (fun σ' => IF MN σ0 σ' ∧ True) 8 191 450 [(0, .ref 0), (1, av 0 0 0), (2, av 35 0 0), (3, iv 0)] [] (fun v _ => v = some (.int 1)) := by
  refine T_ld zk_191_450 rfl rfl rfl (pc' := 451) rfl ?_
  refine T_ld zk_191_451 rfl rfl rfl (pc' := 452) rfl ?_
  refine T_ld zk_191_452 rfl rfl rfl (pc' := 453) rfl ?_
  refine T_op zk_191_453 rfl X_ic (pc' := 454) rfl ?_
  refine T_opc (w := 1) zk_191_454 rfl X_add (by omega) (pc' := 455) rfl ?_
  refine T_sld (n := 6) (w := p1) zk_191_455 hx (by omega) (by omega) (by omega) e1 (pc' := 456) rfl ?_
  refine T_ld zk_191_456 rfl rfl rfl (pc' := 457) rfl ?_
  refine T_ld zk_191_457 rfl rfl rfl (pc' := 458) rfl ?_
  refine T_op zk_191_458 rfl X_ic (pc' := 459) rfl ?_
  refine T_opc (w := 2) zk_191_459 rfl X_add (by omega) (pc' := 460) rfl ?_
  refine T_sld (n := 6) (w := p2) zk_191_460 hx (by omega) (by omega) (by omega) e2 (pc' := 461) rfl ?_
  refine T_if_eq zk_191_461 (by omega) (pc' := 464) rfl (fun b1 => ?_) (fun b1 => ?_)
  ·
    refine T_op zk_191_468 rfl X_ic (pc' := 469) rfl ?_
    refine T_calli (K := fun y2 σ' => (y2 = -1) ∧ (fun σ' => IF ML35 σ0 σ' ∧ True) σ') (r := []) zk_191_469 rfl rfl rfl rfl rfl rfl (Or.inr ⟨_, _, _, _, rfl, vd_0, rfl⟩) (fun σ' h => (x_gate p1 0 (by omega) (by omega) σ' h.1.1 (fun _ _ _ _ _ => h.1.2 _ _ _ _ (fun q => q))).le (Nat.le_of_ble_eq_true rfl) (fun v σ2 ⟨y, h1, h2, h3, h4⟩ => ⟨y, h1, h2, ⟨h3.1, fun t i k j q => (h3.2 t i k j (fun q1 => q (by unfold MT at q1; unfold ML35; omega))).trans (h.1.2 t i k j (fun q1 => q1))⟩, trivial⟩)) (pc' := 472) rfl (fun y2 => ?_)
    refine G_ex (fun hy2 => ?_)
    refine T_ld zk_191_472 rfl rfl rfl (pc' := 473) rfl ?_
    refine T_ld zk_191_473 rfl rfl rfl (pc' := 474) rfl ?_
    refine T_ld zk_191_474 rfl rfl rfl (pc' := 475) rfl ?_
    refine T_op zk_191_475 rfl X_ic (pc' := 476) rfl ?_
    refine T_opc (w := 1) zk_191_476 rfl X_add (by omega) (pc' := 477) rfl ?_
    refine T_sld (n := 6) (w := p1) zk_191_477 hx (by omega) (by omega) (by omega) e1 (pc' := 478) rfl ?_
    refine T_ld zk_191_478 rfl rfl rfl (pc' := 479) rfl ?_
    refine T_ld zk_191_479 rfl rfl rfl (pc' := 480) rfl ?_
    refine T_op zk_191_480 rfl X_ic (pc' := 481) rfl ?_
    refine T_opc (w := 2) zk_191_481 rfl X_add (by omega) (pc' := 482) rfl ?_
    refine T_sld (n := 6) (w := p2) zk_191_482 hx (by omega) (by omega) (by omega) e2 (pc' := 483) rfl ?_
    refine T_if_eq zk_191_483 (by omega) (pc' := 486) rfl (fun b3 => ?_) (fun b3 => ?_)
    ·
      refine T_op zk_191_490 rfl X_ic (pc' := 491) rfl ?_
      refine T_calli (K := fun y4 σ' => (y4 = -1) ∧ (fun σ' => IF MA σ0 σ' ∧ True) σ') (r := [iv y2]) zk_191_491 rfl rfl rfl rfl rfl rfl (Or.inr ⟨_, _, _, _, rfl, vd_35, rfl⟩) (fun σ' h => (m_gate p1 0 (by omega) (by omega) σ' h.1.1 (fun _ _ _ _ ht => h.1.2 _ _ _ _ (by unfold ML35; omega))).le (Nat.le_of_ble_eq_true rfl) (fun v σ2 ⟨y, h1, h2, h3, h4⟩ => ⟨y, h1, h2, ⟨h3.1, fun t i k j q => (q trivial).elim⟩, trivial⟩)) (pc' := 494) rfl (fun y4 => ?_)
      refine G_ex (fun hy4 => ?_)
      refine T_icmp_eqS zk_191_494 (by omega) ?_
      refine T_iinc (L' := [(0, .ref 0), (1, av 0 0 0), (2, av 35 0 0), (3, iv 6)]) zk_191_1611 (nL := 4) rfl rfl (show _ = some (iv 0) from rfl) rfl (pc' := 1614) rfl ?_
      refine T_goto zk_191_1614 ?_
      exact zl_head hx (by omega) (by omega) (by omega) (by omega)
    · exfalso; omega
  ·
    refine T_op zk_191_464 rfl X_ic (pc' := 465) rfl ?_
    refine T_goto zk_191_465 ?_
    refine T_calli (K := fun y5 σ' => (y5 = -1) ∧ (fun σ' => IF ML35 σ0 σ' ∧ True) σ') (r := []) zk_191_469 rfl rfl rfl rfl rfl rfl (Or.inr ⟨_, _, _, _, rfl, vd_0, rfl⟩) (fun σ' h => (x_gate p1 1 (by omega) (by omega) σ' h.1.1 (fun _ _ _ _ _ => h.1.2 _ _ _ _ (fun q => q))).le (Nat.le_of_ble_eq_true rfl) (fun v σ2 ⟨y, h1, h2, h3, h4⟩ => ⟨y, h1, h2, ⟨h3.1, fun t i k j q => (h3.2 t i k j (fun q1 => q (by unfold MT at q1; unfold ML35; omega))).trans (h.1.2 t i k j (fun q1 => q1))⟩, trivial⟩)) (pc' := 472) rfl (fun y5 => ?_)
    refine G_ex (fun hy5 => ?_)
    refine T_ld zk_191_472 rfl rfl rfl (pc' := 473) rfl ?_
    refine T_ld zk_191_473 rfl rfl rfl (pc' := 474) rfl ?_
    refine T_ld zk_191_474 rfl rfl rfl (pc' := 475) rfl ?_
    refine T_op zk_191_475 rfl X_ic (pc' := 476) rfl ?_
    refine T_opc (w := 1) zk_191_476 rfl X_add (by omega) (pc' := 477) rfl ?_
    refine T_sld (n := 6) (w := p1) zk_191_477 hx (by omega) (by omega) (by omega) e1 (pc' := 478) rfl ?_
    refine T_ld zk_191_478 rfl rfl rfl (pc' := 479) rfl ?_
    refine T_ld zk_191_479 rfl rfl rfl (pc' := 480) rfl ?_
    refine T_op zk_191_480 rfl X_ic (pc' := 481) rfl ?_
    refine T_opc (w := 2) zk_191_481 rfl X_add (by omega) (pc' := 482) rfl ?_
    refine T_sld (n := 6) (w := p2) zk_191_482 hx (by omega) (by omega) (by omega) e2 (pc' := 483) rfl ?_
    refine T_if_eq zk_191_483 (by omega) (pc' := 486) rfl (fun b6 => ?_) (fun b6 => ?_)
    · exfalso; omega
    ·
      refine T_op zk_191_486 rfl X_ic (pc' := 487) rfl ?_
      refine T_goto zk_191_487 ?_
      refine T_calli (K := fun y7 σ' => (y7 = -1) ∧ (fun σ' => IF MA σ0 σ' ∧ True) σ') (r := [iv y5]) zk_191_491 rfl rfl rfl rfl rfl rfl (Or.inr ⟨_, _, _, _, rfl, vd_35, rfl⟩) (fun σ' h => (m_gate p1 1 (by omega) (by omega) σ' h.1.1 (fun _ _ _ _ ht => h.1.2 _ _ _ _ (by unfold ML35; omega))).le (Nat.le_of_ble_eq_true rfl) (fun v σ2 ⟨y, h1, h2, h3, h4⟩ => ⟨y, h1, h2, ⟨h3.1, fun t i k j q => (q trivial).elim⟩, trivial⟩)) (pc' := 494) rfl (fun y7 => ?_)
      refine G_ex (fun hy7 => ?_)
      refine T_icmp_eqS zk_191_494 (by omega) ?_
      refine T_iinc (L' := [(0, .ref 0), (1, av 0 0 0), (2, av 35 0 0), (3, iv 6)]) zk_191_1611 (nL := 4) rfl rfl (show _ = some (iv 0) from rfl) rfl (pc' := 1614) rfl ?_
      refine T_goto zk_191_1614 ?_
      exact zl_head hx (by omega) (by omega) (by omega) (by omega)
theorem zl_7 {xs : Nat × (Nat → Int32)} (hx : xs.1 = 7) (p1 p2 p3 p4 p5 : Int) (h1 : -2147483648 ≤ p1 ∧ p1 ≤ 2147483647) (h2 : -2147483648 ≤ p2 ∧ p2 ≤ 2147483647) (h3 : -2147483648 ≤ p3 ∧ p3 ≤ 2147483647) (h4 : -2147483648 ≤ p4 ∧ p4 ≤ 2147483647) (h5 : -2147483648 ≤ p5 ∧ p5 ≤ 2147483647) (e1 : xs.2 1 = Int32.ofInt p1) (e2 : xs.2 2 = Int32.ofInt p2) (e3 : xs.2 3 = Int32.ofInt p3) (e4 : xs.2 4 = Int32.ofInt p4) (e5 : xs.2 5 = Int32.ofInt p5) : TJ xs (fun σ' => IF MN σ0 σ' ∧ True) 8 191 499 [(0, .ref 0), (1, av 0 0 0), (2, av 35 0 0), (3, iv 0)] [] (fun v _ => v = some (.int 1)) := by
  refine T_ld zk_191_499 rfl rfl rfl (pc' := 500) rfl ?_
  refine T_ld zk_191_500 rfl rfl rfl (pc' := 501) rfl ?_
  refine T_ld zk_191_501 rfl rfl rfl (pc' := 502) rfl ?_
  refine T_op zk_191_502 rfl X_ic (pc' := 503) rfl ?_
  refine T_opc (w := 1) zk_191_503 rfl X_add (by omega) (pc' := 504) rfl ?_
  refine T_sld (n := 6) (w := p1) zk_191_504 hx (by omega) (by omega) (by omega) e1 (pc' := 505) rfl ?_
  refine T_ld zk_191_505 rfl rfl rfl (pc' := 506) rfl ?_
  refine T_ld zk_191_506 rfl rfl rfl (pc' := 507) rfl ?_
  refine T_op zk_191_507 rfl X_ic (pc' := 508) rfl ?_
  refine T_opc (w := 2) zk_191_508 rfl X_add (by omega) (pc' := 509) rfl ?_
  refine T_sld (n := 6) (w := p2) zk_191_509 hx (by omega) (by omega) (by omega) e2 (pc' := 510) rfl ?_
  refine T_ld zk_191_510 rfl rfl rfl (pc' := 511) rfl ?_
  refine T_ld zk_191_511 rfl rfl rfl (pc' := 512) rfl ?_
  refine T_op zk_191_512 rfl X_ic (pc' := 513) rfl ?_
  refine T_opc (w := 3) zk_191_513 rfl X_add (by omega) (pc' := 514) rfl ?_
  refine T_sld (n := 6) (w := p3) zk_191_514 hx (by omega) (by omega) (by omega) e3 (pc' := 515) rfl ?_
  refine T_calli (K := fun y1 σ' => ((y1 = -1 ∧ (¬ (0 ≤ p1 ∧ p1 ≤ 7))) ∨ (y1 = -4 ∧ ¬ (¬ (0 ≤ p1 ∧ p1 ≤ 7)) ∧ (p3 < 0)) ∨ (y1 = -6 ∧ ¬ (¬ (0 ≤ p1 ∧ p1 ≤ 7)) ∧ ¬ (p3 < 0) ∧ (¬ (0 ≤ p2 ∧ p2 ≤ 3))) ∨ (y1 = -7 ∧ ¬ (¬ (0 ≤ p1 ∧ p1 ≤ 7)) ∧ ¬ (p3 < 0) ∧ ¬ (¬ (0 ≤ p2 ∧ p2 ≤ 3)) ∧ (96 < p3)) ∨ (y1 = 1 ∧ ¬ (¬ (0 ≤ p1 ∧ p1 ≤ 7)) ∧ ¬ (p3 < 0) ∧ ¬ (¬ (0 ≤ p2 ∧ p2 ≤ 3)) ∧ ¬ (96 < p3))) ∧ (fun σ' => IF ML35 σ0 σ' ∧ True) σ') (r := []) zk_191_515 rfl rfl rfl rfl rfl rfl (Or.inr ⟨_, _, _, _, rfl, vd_0, rfl⟩) (fun σ' h => (x_row p1 p2 p3 (by omega) (by omega) (by omega) σ' h.1.1 (fun _ _ _ _ _ => h.1.2 _ _ _ _ (fun q => q))).le (Nat.le_of_ble_eq_true rfl) (fun v σ2 ⟨y, h1, h2, h3, h4⟩ => ⟨y, h1, h2, ⟨h3.1, fun t i k j q => (h3.2 t i k j (fun q1 => q (by unfold MS at q1; unfold ML35; omega))).trans (h.1.2 t i k j (fun q1 => q1))⟩, trivial⟩)) (pc' := 518) rfl (fun y1 => ?_)
  refine G_ex (fun hy1 => ?_)
  refine T_ld zk_191_518 rfl rfl rfl (pc' := 519) rfl ?_
  refine T_ld zk_191_519 rfl rfl rfl (pc' := 520) rfl ?_
  refine T_ld zk_191_520 rfl rfl rfl (pc' := 521) rfl ?_
  refine T_op zk_191_521 rfl X_ic (pc' := 522) rfl ?_
  refine T_opc (w := 1) zk_191_522 rfl X_add (by omega) (pc' := 523) rfl ?_
  refine T_sld (n := 6) (w := p1) zk_191_523 hx (by omega) (by omega) (by omega) e1 (pc' := 524) rfl ?_
  refine T_ld zk_191_524 rfl rfl rfl (pc' := 525) rfl ?_
  refine T_ld zk_191_525 rfl rfl rfl (pc' := 526) rfl ?_
  refine T_op zk_191_526 rfl X_ic (pc' := 527) rfl ?_
  refine T_opc (w := 2) zk_191_527 rfl X_add (by omega) (pc' := 528) rfl ?_
  refine T_sld (n := 6) (w := p2) zk_191_528 hx (by omega) (by omega) (by omega) e2 (pc' := 529) rfl ?_
  refine T_ld zk_191_529 rfl rfl rfl (pc' := 530) rfl ?_
  refine T_ld zk_191_530 rfl rfl rfl (pc' := 531) rfl ?_
  refine T_op zk_191_531 rfl X_ic (pc' := 532) rfl ?_
  refine T_opc (w := 3) zk_191_532 rfl X_add (by omega) (pc' := 533) rfl ?_
  refine T_sld (n := 6) (w := p3) zk_191_533 hx (by omega) (by omega) (by omega) e3 (pc' := 534) rfl ?_
  refine T_calli (K := fun y2 σ' => ((y2 = -1 ∧ (¬ (0 ≤ p1 ∧ p1 ≤ 7))) ∨ (y2 = -4 ∧ ¬ (¬ (0 ≤ p1 ∧ p1 ≤ 7)) ∧ (p3 < 0)) ∨ (y2 = -6 ∧ ¬ (¬ (0 ≤ p1 ∧ p1 ≤ 7)) ∧ ¬ (p3 < 0) ∧ (¬ (0 ≤ p2 ∧ p2 ≤ 3))) ∨ (y2 = -7 ∧ ¬ (¬ (0 ≤ p1 ∧ p1 ≤ 7)) ∧ ¬ (p3 < 0) ∧ ¬ (¬ (0 ≤ p2 ∧ p2 ≤ 3)) ∧ (96 < p3)) ∨ (y2 = 1 ∧ ¬ (¬ (0 ≤ p1 ∧ p1 ≤ 7)) ∧ ¬ (p3 < 0) ∧ ¬ (¬ (0 ≤ p2 ∧ p2 ≤ 3)) ∧ ¬ (96 < p3))) ∧ (fun σ' => IF MA σ0 σ' ∧ True) σ') (r := [iv y1]) zk_191_534 rfl rfl rfl rfl rfl rfl (Or.inr ⟨_, _, _, _, rfl, vd_35, rfl⟩) (fun σ' h => (m_row p1 p2 p3 (by omega) (by omega) (by omega) σ' h.1.1 (fun _ _ _ _ ht => h.1.2 _ _ _ _ (by unfold ML35; omega))).le (Nat.le_of_ble_eq_true rfl) (fun v σ2 ⟨y, h1, h2, h3, h4⟩ => ⟨y, h1, h2, ⟨h3.1, fun t i k j q => (q trivial).elim⟩, trivial⟩)) (pc' := 537) rfl (fun y2 => ?_)
  refine G_ex (fun hy2 => ?_)
  refine T_icmp_eqS zk_191_537 (cs_5 hy1 hy2) ?_
  refine T_iinc (L' := [(0, .ref 0), (1, av 0 0 0), (2, av 35 0 0), (3, iv 6)]) zk_191_1611 (nL := 4) rfl rfl (show _ = some (iv 0) from rfl) rfl (pc' := 1614) rfl ?_
  refine T_goto zk_191_1614 ?_
  exact zl_head hx (by omega) (by omega) (by omega) (by omega)
theorem zl_8 {xs : Nat × (Nat → Int32)} (hx : xs.1 = 7) (p1 p2 p3 p4 p5 : Int) (h1 : -2147483648 ≤ p1 ∧ p1 ≤ 2147483647) (h2 : -2147483648 ≤ p2 ∧ p2 ≤ 2147483647) (h3 : -2147483648 ≤ p3 ∧ p3 ≤ 2147483647) (h4 : -2147483648 ≤ p4 ∧ p4 ≤ 2147483647) (h5 : -2147483648 ≤ p5 ∧ p5 ≤ 2147483647) (e1 : xs.2 1 = Int32.ofInt p1) (e2 : xs.2 2 = Int32.ofInt p2) (e3 : xs.2 3 = Int32.ofInt p3) (e4 : xs.2 4 = Int32.ofInt p4) (e5 : xs.2 5 = Int32.ofInt p5) : TJ xs (fun σ' => IF MN σ0 σ' ∧ True) 8 191 542 [(0, .ref 0), (1, av 0 0 0), (2, av 35 0 0), (3, iv 0)] [] (fun v _ => v = some (.int 1)) := by
  refine T_ld zk_191_542 rfl rfl rfl (pc' := 543) rfl ?_
  refine T_ld zk_191_543 rfl rfl rfl (pc' := 544) rfl ?_
  refine T_ld zk_191_544 rfl rfl rfl (pc' := 545) rfl ?_
  refine T_op zk_191_545 rfl X_ic (pc' := 546) rfl ?_
  refine T_opc (w := 1) zk_191_546 rfl X_add (by omega) (pc' := 547) rfl ?_
  refine T_sld (n := 6) (w := p1) zk_191_547 hx (by omega) (by omega) (by omega) e1 (pc' := 548) rfl ?_
  refine T_ld zk_191_548 rfl rfl rfl (pc' := 549) rfl ?_
  refine T_ld zk_191_549 rfl rfl rfl (pc' := 550) rfl ?_
  refine T_op zk_191_550 rfl X_ic (pc' := 551) rfl ?_
  refine T_opc (w := 2) zk_191_551 rfl X_add (by omega) (pc' := 552) rfl ?_
  refine T_sld (n := 6) (w := p2) zk_191_552 hx (by omega) (by omega) (by omega) e2 (pc' := 553) rfl ?_
  refine T_ld zk_191_553 rfl rfl rfl (pc' := 554) rfl ?_
  refine T_ld zk_191_554 rfl rfl rfl (pc' := 555) rfl ?_
  refine T_op zk_191_555 rfl X_ic (pc' := 556) rfl ?_
  refine T_opc (w := 3) zk_191_556 rfl X_add (by omega) (pc' := 557) rfl ?_
  refine T_sld (n := 6) (w := p3) zk_191_557 hx (by omega) (by omega) (by omega) e3 (pc' := 558) rfl ?_
  refine T_i2l (by omega) zk_191_558 ?_
  refine T_op zk_191_559 rfl (X_bi (v := 32) (by decide)) (pc' := 561) rfl ?_
  refine T_unkS zk_191_561 rfl (fun z1 => ?_)
  refine T_ld zk_191_562 rfl rfl rfl (pc' := 563) rfl ?_
  refine T_ld zk_191_563 rfl rfl rfl (pc' := 564) rfl ?_
  refine T_op zk_191_564 rfl X_ic (pc' := 565) rfl ?_
  refine T_opc (w := 4) zk_191_565 rfl X_add (by omega) (pc' := 566) rfl ?_
  refine T_sld (n := 6) (w := p4) zk_191_566 hx (by omega) (by omega) (by omega) e4 (pc' := 567) rfl ?_
  refine T_i2l (by omega) zk_191_567 ?_
  refine T_ldc2 zk_191_568 (pc' := 571) rfl ?_
  refine T_unkL zk_191_571 rfl (fun z2 => ?_)
  refine T_unkL zk_191_572 rfl (fun z3 => ?_)
  refine T_calli (K := fun y4 σ' => ((y4 = -1 ∧ (¬ (0 ≤ p1 ∧ p1 ≤ 7))) ∨ (y4 = -3 ∧ ¬ (¬ (0 ≤ p1 ∧ p1 ≤ 7)))) ∧ (fun σ' => IF ML35 σ0 σ' ∧ True) σ') (r := []) zk_191_573 rfl rfl rfl rfl rfl rfl (Or.inr ⟨_, _, _, _, rfl, vd_0, rfl⟩) (fun σ' h => (x_set p1 p2 z3 (by omega) (by omega) σ' h.1.1 (fun _ _ _ _ _ => h.1.2 _ _ _ _ (fun q => q))).le (Nat.le_of_ble_eq_true rfl) (fun v σ2 ⟨y, h1, h2, h3, h4⟩ => ⟨y, h1, h2, ⟨h3.1, fun t i k j q => (h3.2 t i k j (fun q1 => q (by unfold MT at q1; unfold ML35; omega))).trans (h.1.2 t i k j (fun q1 => q1))⟩, trivial⟩)) (pc' := 576) rfl (fun y4 => ?_)
  refine G_ex (fun hy4 => ?_)
  refine T_ld zk_191_576 rfl rfl rfl (pc' := 577) rfl ?_
  refine T_ld zk_191_577 rfl rfl rfl (pc' := 578) rfl ?_
  refine T_ld zk_191_578 rfl rfl rfl (pc' := 579) rfl ?_
  refine T_op zk_191_579 rfl X_ic (pc' := 580) rfl ?_
  refine T_opc (w := 1) zk_191_580 rfl X_add (by omega) (pc' := 581) rfl ?_
  refine T_sld (n := 6) (w := p1) zk_191_581 hx (by omega) (by omega) (by omega) e1 (pc' := 582) rfl ?_
  refine T_ld zk_191_582 rfl rfl rfl (pc' := 583) rfl ?_
  refine T_ld zk_191_583 rfl rfl rfl (pc' := 584) rfl ?_
  refine T_op zk_191_584 rfl X_ic (pc' := 585) rfl ?_
  refine T_opc (w := 2) zk_191_585 rfl X_add (by omega) (pc' := 586) rfl ?_
  refine T_sld (n := 6) (w := p2) zk_191_586 hx (by omega) (by omega) (by omega) e2 (pc' := 587) rfl ?_
  refine T_ld zk_191_587 rfl rfl rfl (pc' := 588) rfl ?_
  refine T_ld zk_191_588 rfl rfl rfl (pc' := 589) rfl ?_
  refine T_op zk_191_589 rfl X_ic (pc' := 590) rfl ?_
  refine T_opc (w := 3) zk_191_590 rfl X_add (by omega) (pc' := 591) rfl ?_
  refine T_sld (n := 6) (w := p3) zk_191_591 hx (by omega) (by omega) (by omega) e3 (pc' := 592) rfl ?_
  refine T_i2l (by omega) zk_191_592 ?_
  refine T_op zk_191_593 rfl (X_bi (v := 32) (by decide)) (pc' := 595) rfl ?_
  refine T_unkS zk_191_595 rfl (fun z5 => ?_)
  refine T_ld zk_191_596 rfl rfl rfl (pc' := 597) rfl ?_
  refine T_ld zk_191_597 rfl rfl rfl (pc' := 598) rfl ?_
  refine T_op zk_191_598 rfl X_ic (pc' := 599) rfl ?_
  refine T_opc (w := 4) zk_191_599 rfl X_add (by omega) (pc' := 600) rfl ?_
  refine T_sld (n := 6) (w := p4) zk_191_600 hx (by omega) (by omega) (by omega) e4 (pc' := 601) rfl ?_
  refine T_i2l (by omega) zk_191_601 ?_
  refine T_ldc2 zk_191_602 (pc' := 605) rfl ?_
  refine T_unkL zk_191_605 rfl (fun z6 => ?_)
  refine T_unkL zk_191_606 rfl (fun z7 => ?_)
  refine T_calli (K := fun y8 σ' => ((y8 = -1 ∧ (¬ (0 ≤ p1 ∧ p1 ≤ 7))) ∨ (y8 = -3 ∧ ¬ (¬ (0 ≤ p1 ∧ p1 ≤ 7)))) ∧ (fun σ' => IF MA σ0 σ' ∧ True) σ') (r := [iv y4]) zk_191_607 rfl rfl rfl rfl rfl rfl (Or.inr ⟨_, _, _, _, rfl, vd_35, rfl⟩) (fun σ' h => (m_set p1 p2 z7 (by omega) (by omega) σ' h.1.1 (fun _ _ _ _ ht => h.1.2 _ _ _ _ (by unfold ML35; omega))).le (Nat.le_of_ble_eq_true rfl) (fun v σ2 ⟨y, h1, h2, h3, h4⟩ => ⟨y, h1, h2, ⟨h3.1, fun t i k j q => (q trivial).elim⟩, trivial⟩)) (pc' := 610) rfl (fun y8 => ?_)
  refine G_ex (fun hy8 => ?_)
  refine T_icmp_eqS zk_191_610 (cs_2 hy4 hy8) ?_
  refine T_iinc (L' := [(0, .ref 0), (1, av 0 0 0), (2, av 35 0 0), (3, iv 6)]) zk_191_1611 (nL := 4) rfl rfl (show _ = some (iv 0) from rfl) rfl (pc' := 1614) rfl ?_
  refine T_goto zk_191_1614 ?_
  exact zl_head hx (by omega) (by omega) (by omega) (by omega)
theorem zl_9 {xs : Nat × (Nat → Int32)} (hx : xs.1 = 7) (p1 p2 p3 p4 p5 : Int) (h1 : -2147483648 ≤ p1 ∧ p1 ≤ 2147483647) (h2 : -2147483648 ≤ p2 ∧ p2 ≤ 2147483647) (h3 : -2147483648 ≤ p3 ∧ p3 ≤ 2147483647) (h4 : -2147483648 ≤ p4 ∧ p4 ≤ 2147483647) (h5 : -2147483648 ≤ p5 ∧ p5 ≤ 2147483647) (e1 : xs.2 1 = Int32.ofInt p1) (e2 : xs.2 2 = Int32.ofInt p2) (e3 : xs.2 3 = Int32.ofInt p3) (e4 : xs.2 4 = Int32.ofInt p4) (e5 : xs.2 5 = Int32.ofInt p5) : TJ xs (fun σ' => IF MN σ0 σ' ∧ True) 8 191 615 [(0, .ref 0), (1, av 0 0 0), (2, av 35 0 0), (3, iv 0)] [] (fun v _ => v = some (.int 1)) := by
  refine T_ld zk_191_615 rfl rfl rfl (pc' := 616) rfl ?_
  refine T_ld zk_191_616 rfl rfl rfl (pc' := 617) rfl ?_
  refine T_ld zk_191_617 rfl rfl rfl (pc' := 618) rfl ?_
  refine T_op zk_191_618 rfl X_ic (pc' := 619) rfl ?_
  refine T_opc (w := 1) zk_191_619 rfl X_add (by omega) (pc' := 620) rfl ?_
  refine T_sld (n := 6) (w := p1) zk_191_620 hx (by omega) (by omega) (by omega) e1 (pc' := 621) rfl ?_
  refine T_ld zk_191_621 rfl rfl rfl (pc' := 622) rfl ?_
  refine T_ld zk_191_622 rfl rfl rfl (pc' := 623) rfl ?_
  refine T_op zk_191_623 rfl X_ic (pc' := 624) rfl ?_
  refine T_opc (w := 2) zk_191_624 rfl X_add (by omega) (pc' := 625) rfl ?_
  refine T_sld (n := 6) (w := p2) zk_191_625 hx (by omega) (by omega) (by omega) e2 (pc' := 626) rfl ?_
  refine T_ld zk_191_626 rfl rfl rfl (pc' := 627) rfl ?_
  refine T_ld zk_191_627 rfl rfl rfl (pc' := 628) rfl ?_
  refine T_op zk_191_628 rfl X_ic (pc' := 629) rfl ?_
  refine T_opc (w := 3) zk_191_629 rfl X_add (by omega) (pc' := 630) rfl ?_
  refine T_sld (n := 6) (w := p3) zk_191_630 hx (by omega) (by omega) (by omega) e3 (pc' := 631) rfl ?_
  refine T_ld zk_191_631 rfl rfl rfl (pc' := 632) rfl ?_
  refine T_ld zk_191_632 rfl rfl rfl (pc' := 633) rfl ?_
  refine T_op zk_191_633 rfl X_ic (pc' := 634) rfl ?_
  refine T_opc (w := 4) zk_191_634 rfl X_add (by omega) (pc' := 635) rfl ?_
  refine T_sld (n := 6) (w := p4) zk_191_635 hx (by omega) (by omega) (by omega) e4 (pc' := 636) rfl ?_
  refine T_ld zk_191_636 rfl rfl rfl (pc' := 637) rfl ?_
  refine T_ld zk_191_637 rfl rfl rfl (pc' := 638) rfl ?_
  refine T_op zk_191_638 rfl X_ic (pc' := 639) rfl ?_
  refine T_opc (w := 5) zk_191_639 rfl X_add (by omega) (pc' := 640) rfl ?_
  refine T_sld (n := 6) (w := p5) zk_191_640 hx (by omega) (by omega) (by omega) e5 (pc' := 641) rfl ?_
  refine T_calli (K := fun y1 σ' => ((y1 = -1 ∧ (¬ (0 ≤ p1 ∧ p1 ≤ 7) ∨ ¬ (0 ≤ p2 ∧ p2 ≤ 7))) ∨ (y1 = -3 ∧ ¬ (¬ (0 ≤ p1 ∧ p1 ≤ 7) ∨ ¬ (0 ≤ p2 ∧ p2 ≤ 7)))) ∧ (fun σ' => IF ML35 σ0 σ' ∧ True) σ') (r := []) zk_191_641 rfl rfl rfl rfl rfl rfl (Or.inr ⟨_, _, _, _, rfl, vd_0, rfl⟩) (fun σ' h => (x_copy p1 p2 p3 p4 p5 (by omega) (by omega) (by omega) (by omega) (by omega) σ' h.1.1 (fun _ _ _ _ _ => h.1.2 _ _ _ _ (fun q => q))).le (Nat.le_of_ble_eq_true rfl) (fun v σ2 ⟨y, h1, h2, h3, h4⟩ => ⟨y, h1, h2, ⟨h3.1, fun t i k j q => (h3.2 t i k j (fun q1 => q (by unfold MT at q1; unfold ML35; omega))).trans (h.1.2 t i k j (fun q1 => q1))⟩, trivial⟩)) (pc' := 644) rfl (fun y1 => ?_)
  refine G_ex (fun hy1 => ?_)
  refine T_ld zk_191_644 rfl rfl rfl (pc' := 645) rfl ?_
  refine T_ld zk_191_645 rfl rfl rfl (pc' := 646) rfl ?_
  refine T_ld zk_191_646 rfl rfl rfl (pc' := 647) rfl ?_
  refine T_op zk_191_647 rfl X_ic (pc' := 648) rfl ?_
  refine T_opc (w := 1) zk_191_648 rfl X_add (by omega) (pc' := 649) rfl ?_
  refine T_sld (n := 6) (w := p1) zk_191_649 hx (by omega) (by omega) (by omega) e1 (pc' := 650) rfl ?_
  refine T_ld zk_191_650 rfl rfl rfl (pc' := 651) rfl ?_
  refine T_ld zk_191_651 rfl rfl rfl (pc' := 652) rfl ?_
  refine T_op zk_191_652 rfl X_ic (pc' := 653) rfl ?_
  refine T_opc (w := 2) zk_191_653 rfl X_add (by omega) (pc' := 654) rfl ?_
  refine T_sld (n := 6) (w := p2) zk_191_654 hx (by omega) (by omega) (by omega) e2 (pc' := 655) rfl ?_
  refine T_ld zk_191_655 rfl rfl rfl (pc' := 656) rfl ?_
  refine T_ld zk_191_656 rfl rfl rfl (pc' := 657) rfl ?_
  refine T_op zk_191_657 rfl X_ic (pc' := 658) rfl ?_
  refine T_opc (w := 3) zk_191_658 rfl X_add (by omega) (pc' := 659) rfl ?_
  refine T_sld (n := 6) (w := p3) zk_191_659 hx (by omega) (by omega) (by omega) e3 (pc' := 660) rfl ?_
  refine T_ld zk_191_660 rfl rfl rfl (pc' := 661) rfl ?_
  refine T_ld zk_191_661 rfl rfl rfl (pc' := 662) rfl ?_
  refine T_op zk_191_662 rfl X_ic (pc' := 663) rfl ?_
  refine T_opc (w := 4) zk_191_663 rfl X_add (by omega) (pc' := 664) rfl ?_
  refine T_sld (n := 6) (w := p4) zk_191_664 hx (by omega) (by omega) (by omega) e4 (pc' := 665) rfl ?_
  refine T_ld zk_191_665 rfl rfl rfl (pc' := 666) rfl ?_
  refine T_ld zk_191_666 rfl rfl rfl (pc' := 667) rfl ?_
  refine T_op zk_191_667 rfl X_ic (pc' := 668) rfl ?_
  refine T_opc (w := 5) zk_191_668 rfl X_add (by omega) (pc' := 669) rfl ?_
  refine T_sld (n := 6) (w := p5) zk_191_669 hx (by omega) (by omega) (by omega) e5 (pc' := 670) rfl ?_
  refine T_calli (K := fun y2 σ' => ((y2 = -1 ∧ (¬ (0 ≤ p1 ∧ p1 ≤ 7) ∨ ¬ (0 ≤ p2 ∧ p2 ≤ 7))) ∨ (y2 = -3 ∧ ¬ (¬ (0 ≤ p1 ∧ p1 ≤ 7) ∨ ¬ (0 ≤ p2 ∧ p2 ≤ 7)))) ∧ (fun σ' => IF MA σ0 σ' ∧ True) σ') (r := [iv y1]) zk_191_670 rfl rfl rfl rfl rfl rfl (Or.inr ⟨_, _, _, _, rfl, vd_35, rfl⟩) (fun σ' h => (m_copy p1 p2 p3 p4 p5 (by omega) (by omega) (by omega) (by omega) (by omega) σ' h.1.1 (fun _ _ _ _ ht => h.1.2 _ _ _ _ (by unfold ML35; omega))).le (Nat.le_of_ble_eq_true rfl) (fun v σ2 ⟨y, h1, h2, h3, h4⟩ => ⟨y, h1, h2, ⟨h3.1, fun t i k j q => (q trivial).elim⟩, trivial⟩)) (pc' := 673) rfl (fun y2 => ?_)
  refine G_ex (fun hy2 => ?_)
  refine T_icmp_eqS zk_191_673 (cs_2 hy1 hy2) ?_
  refine T_iinc (L' := [(0, .ref 0), (1, av 0 0 0), (2, av 35 0 0), (3, iv 6)]) zk_191_1611 (nL := 4) rfl rfl (show _ = some (iv 0) from rfl) rfl (pc' := 1614) rfl ?_
  refine T_goto zk_191_1614 ?_
  exact zl_head hx (by omega) (by omega) (by omega) (by omega)
theorem zl_10 {xs : Nat × (Nat → Int32)} (hx : xs.1 = 7) (p1 p2 p3 p4 p5 : Int) (h1 : -2147483648 ≤ p1 ∧ p1 ≤ 2147483647) (h2 : -2147483648 ≤ p2 ∧ p2 ≤ 2147483647) (h3 : -2147483648 ≤ p3 ∧ p3 ≤ 2147483647) (h4 : -2147483648 ≤ p4 ∧ p4 ≤ 2147483647) (h5 : -2147483648 ≤ p5 ∧ p5 ≤ 2147483647) (e1 : xs.2 1 = Int32.ofInt p1) (e2 : xs.2 2 = Int32.ofInt p2) (e3 : xs.2 3 = Int32.ofInt p3) (e4 : xs.2 4 = Int32.ofInt p4) (e5 : xs.2 5 = Int32.ofInt p5) : TJ xs (fun σ' => IF MN σ0 σ' ∧ True) 8 191 678 [(0, .ref 0), (1, av 0 0 0), (2, av 35 0 0), (3, iv 0)] [] (fun v _ => v = some (.int 1)) := by
  refine T_ld zk_191_678 rfl rfl rfl (pc' := 679) rfl ?_
  refine T_ld zk_191_679 rfl rfl rfl (pc' := 680) rfl ?_
  refine T_ld zk_191_680 rfl rfl rfl (pc' := 681) rfl ?_
  refine T_op zk_191_681 rfl X_ic (pc' := 682) rfl ?_
  refine T_opc (w := 1) zk_191_682 rfl X_add (by omega) (pc' := 683) rfl ?_
  refine T_sld (n := 6) (w := p1) zk_191_683 hx (by omega) (by omega) (by omega) e1 (pc' := 684) rfl ?_
  refine T_ld zk_191_684 rfl rfl rfl (pc' := 685) rfl ?_
  refine T_ld zk_191_685 rfl rfl rfl (pc' := 686) rfl ?_
  refine T_op zk_191_686 rfl X_ic (pc' := 687) rfl ?_
  refine T_opc (w := 2) zk_191_687 rfl X_add (by omega) (pc' := 688) rfl ?_
  refine T_sld (n := 6) (w := p2) zk_191_688 hx (by omega) (by omega) (by omega) e2 (pc' := 689) rfl ?_
  refine T_calll (K := fun y1 σ' => (y1 = 0) ∧ (fun σ' => IF ML35 σ0 σ' ∧ True) σ') (r := []) zk_191_689 rfl rfl rfl rfl rfl rfl (Or.inr ⟨_, _, _, _, rfl, vd_0, rfl⟩) (fun σ' h => (x_element p1 p2 (by omega) (by omega) σ' h.1.1 (fun _ _ _ _ _ => h.1.2 _ _ _ _ (fun q => q))).le (Nat.le_of_ble_eq_true rfl) (fun v σ2 ⟨y, h1, h2, h3, h4⟩ => ⟨y, h1, h2, ⟨h3.1, fun t i k j q => (h3.2 t i k j (fun q1 => q1)).trans (h.1.2 t i k j (fun q1 => q1))⟩, trivial⟩)) (pc' := 692) rfl (fun y1 => ?_)
  refine G_ex (fun hy1 => ?_)
  refine T_ld zk_191_692 rfl rfl rfl (pc' := 693) rfl ?_
  refine T_ld zk_191_693 rfl rfl rfl (pc' := 694) rfl ?_
  refine T_ld zk_191_694 rfl rfl rfl (pc' := 695) rfl ?_
  refine T_op zk_191_695 rfl X_ic (pc' := 696) rfl ?_
  refine T_opc (w := 1) zk_191_696 rfl X_add (by omega) (pc' := 697) rfl ?_
  refine T_sld (n := 6) (w := p1) zk_191_697 hx (by omega) (by omega) (by omega) e1 (pc' := 698) rfl ?_
  refine T_ld zk_191_698 rfl rfl rfl (pc' := 699) rfl ?_
  refine T_ld zk_191_699 rfl rfl rfl (pc' := 700) rfl ?_
  refine T_op zk_191_700 rfl X_ic (pc' := 701) rfl ?_
  refine T_opc (w := 2) zk_191_701 rfl X_add (by omega) (pc' := 702) rfl ?_
  refine T_sld (n := 6) (w := p2) zk_191_702 hx (by omega) (by omega) (by omega) e2 (pc' := 703) rfl ?_
  refine T_calll (K := fun y2 σ' => (y2 = 0) ∧ (fun σ' => IF MA σ0 σ' ∧ True) σ') (r := [jv y1]) zk_191_703 rfl rfl rfl rfl rfl rfl (Or.inr ⟨_, _, _, _, rfl, vd_35, rfl⟩) (fun σ' h => (m_element p1 p2 (by omega) (by omega) σ' h.1.1 (fun _ _ _ _ ht => h.1.2 _ _ _ _ (by unfold ML35; omega))).le (Nat.le_of_ble_eq_true rfl) (fun v σ2 ⟨y, h1, h2, h3, h4⟩ => ⟨y, h1, h2, ⟨h3.1, fun t i k j q => (q trivial).elim⟩, trivial⟩)) (pc' := 706) rfl (fun y2 => ?_)
  refine G_ex (fun hy2 => ?_)
  refine T_lcmp zk_191_706 (fun z3 az3 bz3 ez3 => ?_)
  refine T_if_eq zk_191_707 (by omega) (pc' := 710) rfl (fun _ => ?_) (fun q => absurd (ez3.mpr (by rw [hy1, hy2])) q)
  refine T_iinc (L' := [(0, .ref 0), (1, av 0 0 0), (2, av 35 0 0), (3, iv 6)]) zk_191_1611 (nL := 4) rfl rfl (show _ = some (iv 0) from rfl) rfl (pc' := 1614) rfl ?_
  refine T_goto zk_191_1614 ?_
  exact zl_head hx (by omega) (by omega) (by omega) (by omega)
theorem zl_11 {xs : Nat × (Nat → Int32)} (hx : xs.1 = 7) (p1 p2 p3 p4 p5 : Int) (h1 : -2147483648 ≤ p1 ∧ p1 ≤ 2147483647) (h2 : -2147483648 ≤ p2 ∧ p2 ≤ 2147483647) (h3 : -2147483648 ≤ p3 ∧ p3 ≤ 2147483647) (h4 : -2147483648 ≤ p4 ∧ p4 ≤ 2147483647) (h5 : -2147483648 ≤ p5 ∧ p5 ≤ 2147483647) (e1 : xs.2 1 = Int32.ofInt p1) (e2 : xs.2 2 = Int32.ofInt p2) (e3 : xs.2 3 = Int32.ofInt p3) (e4 : xs.2 4 = Int32.ofInt p4) (e5 : xs.2 5 = Int32.ofInt p5) : TJ xs (fun σ' => IF MN σ0 σ' ∧ True) 8 191 712 [(0, .ref 0), (1, av 0 0 0), (2, av 35 0 0), (3, iv 0)] [] (fun v _ => v = some (.int 1)) := by
  refine T_ld zk_191_712 rfl rfl rfl (pc' := 713) rfl ?_
  refine T_ld zk_191_713 rfl rfl rfl (pc' := 714) rfl ?_
  refine T_ld zk_191_714 rfl rfl rfl (pc' := 715) rfl ?_
  refine T_op zk_191_715 rfl X_ic (pc' := 716) rfl ?_
  refine T_opc (w := 1) zk_191_716 rfl X_add (by omega) (pc' := 717) rfl ?_
  refine T_sld (n := 6) (w := p1) zk_191_717 hx (by omega) (by omega) (by omega) e1 (pc' := 718) rfl ?_
  refine T_ld zk_191_718 rfl rfl rfl (pc' := 719) rfl ?_
  refine T_ld zk_191_719 rfl rfl rfl (pc' := 720) rfl ?_
  refine T_op zk_191_720 rfl X_ic (pc' := 721) rfl ?_
  refine T_opc (w := 2) zk_191_721 rfl X_add (by omega) (pc' := 722) rfl ?_
  refine T_sld (n := 6) (w := p2) zk_191_722 hx (by omega) (by omega) (by omega) e2 (pc' := 723) rfl ?_
  refine T_calli (K := fun y1 σ' => ((y1 = -1 ∧ (¬ (0 ≤ p1 ∧ p1 ≤ 7) ∨ ¬ (p2 = -1))) ∨ (y1 = 0 ∧ ¬ (¬ (0 ≤ p1 ∧ p1 ≤ 7) ∨ ¬ (p2 = -1)))) ∧ (fun σ' => IF ML35 σ0 σ' ∧ True) σ') (r := []) zk_191_723 rfl rfl rfl rfl rfl rfl (Or.inr ⟨_, _, _, _, rfl, vd_0, rfl⟩) (fun σ' h => (x_show p1 p2 (by omega) (by omega) σ' h.1.1 (fun _ _ _ _ _ => h.1.2 _ _ _ _ (fun q => q))).le (Nat.le_of_ble_eq_true rfl) (fun v σ2 ⟨y, h1, h2, h3, h4⟩ => ⟨y, h1, h2, ⟨h3.1, fun t i k j q => (h3.2 t i k j (fun q1 => q (by unfold MS at q1; unfold ML35; omega))).trans (h.1.2 t i k j (fun q1 => q1))⟩, trivial⟩)) (pc' := 726) rfl (fun y1 => ?_)
  refine G_ex (fun hy1 => ?_)
  refine T_ld zk_191_726 rfl rfl rfl (pc' := 727) rfl ?_
  refine T_ld zk_191_727 rfl rfl rfl (pc' := 728) rfl ?_
  refine T_ld zk_191_728 rfl rfl rfl (pc' := 729) rfl ?_
  refine T_op zk_191_729 rfl X_ic (pc' := 730) rfl ?_
  refine T_opc (w := 1) zk_191_730 rfl X_add (by omega) (pc' := 731) rfl ?_
  refine T_sld (n := 6) (w := p1) zk_191_731 hx (by omega) (by omega) (by omega) e1 (pc' := 732) rfl ?_
  refine T_ld zk_191_732 rfl rfl rfl (pc' := 733) rfl ?_
  refine T_ld zk_191_733 rfl rfl rfl (pc' := 734) rfl ?_
  refine T_op zk_191_734 rfl X_ic (pc' := 735) rfl ?_
  refine T_opc (w := 2) zk_191_735 rfl X_add (by omega) (pc' := 736) rfl ?_
  refine T_sld (n := 6) (w := p2) zk_191_736 hx (by omega) (by omega) (by omega) e2 (pc' := 737) rfl ?_
  refine T_calli (K := fun y2 σ' => ((y2 = -1 ∧ (¬ (0 ≤ p1 ∧ p1 ≤ 7) ∨ ¬ (p2 = -1))) ∨ (y2 = 0 ∧ ¬ (¬ (0 ≤ p1 ∧ p1 ≤ 7) ∨ ¬ (p2 = -1)))) ∧ (fun σ' => IF MA σ0 σ' ∧ True) σ') (r := [iv y1]) zk_191_737 rfl rfl rfl rfl rfl rfl (Or.inr ⟨_, _, _, _, rfl, vd_35, rfl⟩) (fun σ' h => (m_show p1 p2 (by omega) (by omega) σ' h.1.1 (fun _ _ _ _ ht => h.1.2 _ _ _ _ (by unfold ML35; omega))).le (Nat.le_of_ble_eq_true rfl) (fun v σ2 ⟨y, h1, h2, h3, h4⟩ => ⟨y, h1, h2, ⟨h3.1, fun t i k j q => (q trivial).elim⟩, trivial⟩)) (pc' := 740) rfl (fun y2 => ?_)
  refine G_ex (fun hy2 => ?_)
  refine T_icmp_eqS zk_191_740 (cs_2 hy1 hy2) ?_
  refine T_iinc (L' := [(0, .ref 0), (1, av 0 0 0), (2, av 35 0 0), (3, iv 6)]) zk_191_1611 (nL := 4) rfl rfl (show _ = some (iv 0) from rfl) rfl (pc' := 1614) rfl ?_
  refine T_goto zk_191_1614 ?_
  exact zl_head hx (by omega) (by omega) (by omega) (by omega)
theorem zl_12 {xs : Nat × (Nat → Int32)} (hx : xs.1 = 7) (p1 p2 p3 p4 p5 : Int) (h1 : -2147483648 ≤ p1 ∧ p1 ≤ 2147483647) (h2 : -2147483648 ≤ p2 ∧ p2 ≤ 2147483647) (h3 : -2147483648 ≤ p3 ∧ p3 ≤ 2147483647) (h4 : -2147483648 ≤ p4 ∧ p4 ≤ 2147483647) (h5 : -2147483648 ≤ p5 ∧ p5 ≤ 2147483647) (e1 : xs.2 1 = Int32.ofInt p1) (e2 : xs.2 2 = Int32.ofInt p2) (e3 : xs.2 3 = Int32.ofInt p3) (e4 : xs.2 4 = Int32.ofInt p4) (e5 : xs.2 5 = Int32.ofInt p5) : TJ xs (fun σ' => IF MN σ0 σ' ∧ True) 8 191 745 [(0, .ref 0), (1, av 0 0 0), (2, av 35 0 0), (3, iv 0)] [] (fun v _ => v = some (.int 1)) := by
  refine T_ld zk_191_745 rfl rfl rfl (pc' := 746) rfl ?_
  refine T_ld zk_191_746 rfl rfl rfl (pc' := 747) rfl ?_
  refine T_ld zk_191_747 rfl rfl rfl (pc' := 748) rfl ?_
  refine T_op zk_191_748 rfl X_ic (pc' := 749) rfl ?_
  refine T_opc (w := 1) zk_191_749 rfl X_add (by omega) (pc' := 750) rfl ?_
  refine T_sld (n := 6) (w := p1) zk_191_750 hx (by omega) (by omega) (by omega) e1 (pc' := 751) rfl ?_
  refine T_calli (K := fun y1 σ' => (y1 = -1) ∧ (fun σ' => IF ML35 σ0 σ' ∧ True) σ') (r := []) zk_191_751 rfl rfl rfl rfl rfl rfl (Or.inr ⟨_, _, _, _, rfl, vd_0, rfl⟩) (fun σ' h => (x_holds p1 (by omega) σ' h.1.1 (fun _ _ _ _ _ => h.1.2 _ _ _ _ (fun q => q))).le (Nat.le_of_ble_eq_true rfl) (fun v σ2 ⟨y, h1, h2, h3, h4⟩ => ⟨y, h1, h2, ⟨h3.1, fun t i k j q => (h3.2 t i k j (fun q1 => q1)).trans (h.1.2 t i k j (fun q1 => q1))⟩, trivial⟩)) (pc' := 754) rfl (fun y1 => ?_)
  refine G_ex (fun hy1 => ?_)
  refine T_ld zk_191_754 rfl rfl rfl (pc' := 755) rfl ?_
  refine T_ld zk_191_755 rfl rfl rfl (pc' := 756) rfl ?_
  refine T_ld zk_191_756 rfl rfl rfl (pc' := 757) rfl ?_
  refine T_op zk_191_757 rfl X_ic (pc' := 758) rfl ?_
  refine T_opc (w := 1) zk_191_758 rfl X_add (by omega) (pc' := 759) rfl ?_
  refine T_sld (n := 6) (w := p1) zk_191_759 hx (by omega) (by omega) (by omega) e1 (pc' := 760) rfl ?_
  refine T_calli (K := fun y2 σ' => (y2 = -1) ∧ (fun σ' => IF MA σ0 σ' ∧ True) σ') (r := [iv y1]) zk_191_760 rfl rfl rfl rfl rfl rfl (Or.inr ⟨_, _, _, _, rfl, vd_35, rfl⟩) (fun σ' h => (m_holds p1 (by omega) σ' h.1.1 (fun _ _ _ _ ht => h.1.2 _ _ _ _ (by unfold ML35; omega))).le (Nat.le_of_ble_eq_true rfl) (fun v σ2 ⟨y, h1, h2, h3, h4⟩ => ⟨y, h1, h2, ⟨h3.1, fun t i k j q => (q trivial).elim⟩, trivial⟩)) (pc' := 763) rfl (fun y2 => ?_)
  refine G_ex (fun hy2 => ?_)
  refine T_icmp_eqS zk_191_763 (by omega) ?_
  refine T_iinc (L' := [(0, .ref 0), (1, av 0 0 0), (2, av 35 0 0), (3, iv 6)]) zk_191_1611 (nL := 4) rfl rfl (show _ = some (iv 0) from rfl) rfl (pc' := 1614) rfl ?_
  refine T_goto zk_191_1614 ?_
  exact zl_head hx (by omega) (by omega) (by omega) (by omega)
theorem zl_13 {xs : Nat × (Nat → Int32)} (hx : xs.1 = 7) (p1 p2 p3 p4 p5 : Int) (h1 : -2147483648 ≤ p1 ∧ p1 ≤ 2147483647) (h2 : -2147483648 ≤ p2 ∧ p2 ≤ 2147483647) (h3 : -2147483648 ≤ p3 ∧ p3 ≤ 2147483647) (h4 : -2147483648 ≤ p4 ∧ p4 ≤ 2147483647) (h5 : -2147483648 ≤ p5 ∧ p5 ≤ 2147483647) (e1 : xs.2 1 = Int32.ofInt p1) (e2 : xs.2 2 = Int32.ofInt p2) (e3 : xs.2 3 = Int32.ofInt p3) (e4 : xs.2 4 = Int32.ofInt p4) (e5 : xs.2 5 = Int32.ofInt p5) : TJ xs (fun σ' => IF MN σ0 σ' ∧ True) 8 191 768 [(0, .ref 0), (1, av 0 0 0), (2, av 35 0 0), (3, iv 0)] [] (fun v _ => v = some (.int 1)) := by
  refine T_ld zk_191_768 rfl rfl rfl (pc' := 769) rfl ?_
  refine T_ld zk_191_769 rfl rfl rfl (pc' := 770) rfl ?_
  refine T_ld zk_191_770 rfl rfl rfl (pc' := 771) rfl ?_
  refine T_op zk_191_771 rfl X_ic (pc' := 772) rfl ?_
  refine T_opc (w := 1) zk_191_772 rfl X_add (by omega) (pc' := 773) rfl ?_
  refine T_sld (n := 6) (w := p1) zk_191_773 hx (by omega) (by omega) (by omega) e1 (pc' := 774) rfl ?_
  refine T_ld zk_191_774 rfl rfl rfl (pc' := 775) rfl ?_
  refine T_ld zk_191_775 rfl rfl rfl (pc' := 776) rfl ?_
  refine T_op zk_191_776 rfl X_ic (pc' := 777) rfl ?_
  refine T_opc (w := 2) zk_191_777 rfl X_add (by omega) (pc' := 778) rfl ?_
  refine T_sld (n := 6) (w := p2) zk_191_778 hx (by omega) (by omega) (by omega) e2 (pc' := 779) rfl ?_
  refine T_calli (K := fun y1 σ' => ((y1 = -1 ∧ (¬ (0 ≤ p1 ∧ p1 ≤ 7) ∨ ¬ (0 ≤ p2 ∧ p2 ≤ 2))) ∨ (y1 = -3 ∧ ¬ (¬ (0 ≤ p1 ∧ p1 ≤ 7) ∨ ¬ (0 ≤ p2 ∧ p2 ≤ 2)))) ∧ (fun σ' => IF ML35 σ0 σ' ∧ True) σ') (r := []) zk_191_779 rfl rfl rfl rfl rfl rfl (Or.inr ⟨_, _, _, _, rfl, vd_0, rfl⟩) (fun σ' h => (x_harm p1 p2 (by omega) (by omega) σ' h.1.1 (fun _ _ _ _ _ => h.1.2 _ _ _ _ (fun q => q))).le (Nat.le_of_ble_eq_true rfl) (fun v σ2 ⟨y, h1, h2, h3, h4⟩ => ⟨y, h1, h2, ⟨h3.1, fun t i k j q => (h3.2 t i k j (fun q1 => q (by unfold MT at q1; unfold ML35; omega))).trans (h.1.2 t i k j (fun q1 => q1))⟩, trivial⟩)) (pc' := 782) rfl (fun y1 => ?_)
  refine G_ex (fun hy1 => ?_)
  refine T_ld zk_191_782 rfl rfl rfl (pc' := 783) rfl ?_
  refine T_ld zk_191_783 rfl rfl rfl (pc' := 784) rfl ?_
  refine T_ld zk_191_784 rfl rfl rfl (pc' := 785) rfl ?_
  refine T_op zk_191_785 rfl X_ic (pc' := 786) rfl ?_
  refine T_opc (w := 1) zk_191_786 rfl X_add (by omega) (pc' := 787) rfl ?_
  refine T_sld (n := 6) (w := p1) zk_191_787 hx (by omega) (by omega) (by omega) e1 (pc' := 788) rfl ?_
  refine T_ld zk_191_788 rfl rfl rfl (pc' := 789) rfl ?_
  refine T_ld zk_191_789 rfl rfl rfl (pc' := 790) rfl ?_
  refine T_op zk_191_790 rfl X_ic (pc' := 791) rfl ?_
  refine T_opc (w := 2) zk_191_791 rfl X_add (by omega) (pc' := 792) rfl ?_
  refine T_sld (n := 6) (w := p2) zk_191_792 hx (by omega) (by omega) (by omega) e2 (pc' := 793) rfl ?_
  refine T_calli (K := fun y2 σ' => ((y2 = -1 ∧ (¬ (0 ≤ p1 ∧ p1 ≤ 7) ∨ ¬ (0 ≤ p2 ∧ p2 ≤ 2))) ∨ (y2 = -3 ∧ ¬ (¬ (0 ≤ p1 ∧ p1 ≤ 7) ∨ ¬ (0 ≤ p2 ∧ p2 ≤ 2)))) ∧ (fun σ' => IF MA σ0 σ' ∧ True) σ') (r := [iv y1]) zk_191_793 rfl rfl rfl rfl rfl rfl (Or.inr ⟨_, _, _, _, rfl, vd_35, rfl⟩) (fun σ' h => (m_harm p1 p2 (by omega) (by omega) σ' h.1.1 (fun _ _ _ _ ht => h.1.2 _ _ _ _ (by unfold ML35; omega))).le (Nat.le_of_ble_eq_true rfl) (fun v σ2 ⟨y, h1, h2, h3, h4⟩ => ⟨y, h1, h2, ⟨h3.1, fun t i k j q => (q trivial).elim⟩, trivial⟩)) (pc' := 796) rfl (fun y2 => ?_)
  refine G_ex (fun hy2 => ?_)
  refine T_icmp_eqS zk_191_796 (cs_2 hy1 hy2) ?_
  refine T_iinc (L' := [(0, .ref 0), (1, av 0 0 0), (2, av 35 0 0), (3, iv 6)]) zk_191_1611 (nL := 4) rfl rfl (show _ = some (iv 0) from rfl) rfl (pc' := 1614) rfl ?_
  refine T_goto zk_191_1614 ?_
  exact zl_head hx (by omega) (by omega) (by omega) (by omega)
