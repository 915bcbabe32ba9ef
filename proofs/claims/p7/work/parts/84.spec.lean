theorem cs_4 {y z v1 v2 v3 v4 : Int} {c1 c2 c3 : Prop} (h : (y = v1 ∧ (c1)) ∨ (y = v2 ∧ ¬ (c1) ∧ (c2)) ∨ (y = v3 ∧ ¬ (c1) ∧ ¬ (c2) ∧ (c3)) ∨ (y = v4 ∧ ¬ (c1) ∧ ¬ (c2) ∧ ¬ (c3))) (g : (z = v1 ∧ (c1)) ∨ (z = v2 ∧ ¬ (c1) ∧ (c2)) ∨ (z = v3 ∧ ¬ (c1) ∧ ¬ (c2) ∧ (c3)) ∨ (z = v4 ∧ ¬ (c1) ∧ ¬ (c2) ∧ ¬ (c3))) : y = z := by
  rcases h with ⟨a, a1⟩ | ⟨a, a1, a2⟩ | ⟨a, a1, a2, a3⟩ | ⟨a, a1, a2, a3⟩
  · rcases g with ⟨b, b1⟩ | ⟨b, b1, b2⟩ | ⟨b, b1, b2, b3⟩ | ⟨b, b1, b2, b3⟩
    · exact a.trans b.symm
    · exact absurd a1 b1
    · exact absurd a1 b1
    · exact absurd a1 b1
  · rcases g with ⟨b, b1⟩ | ⟨b, b1, b2⟩ | ⟨b, b1, b2, b3⟩ | ⟨b, b1, b2, b3⟩
    · exact absurd b1 a1
    · exact a.trans b.symm
    · exact absurd a2 b2
    · exact absurd a2 b2
  · rcases g with ⟨b, b1⟩ | ⟨b, b1, b2⟩ | ⟨b, b1, b2, b3⟩ | ⟨b, b1, b2, b3⟩
    · exact absurd b1 a1
    · exact absurd b2 a2
    · exact a.trans b.symm
    · exact absurd a3 b3
  · rcases g with ⟨b, b1⟩ | ⟨b, b1, b2⟩ | ⟨b, b1, b2, b3⟩ | ⟨b, b1, b2, b3⟩
    · exact absurd b1 a1
    · exact absurd b2 a2
    · exact absurd b3 a3
    · exact a.trans b.symm
def PX_33  (y : Int) (σ' : ZS) : Prop := ∃ σ, JR σ ∧ IF MIg σ σ' ∧ (y = (σ 1 0 0 13)) ∧ (σ' 1 1 0 6 = (σ 1 0 0 6) ∧ σ' 1 1 0 7 = (σ 1 0 0 7) ∧ σ' 1 1 0 10 = (σ 1 0 0 10) ∧ σ' 1 1 0 11 = (σ 1 0 0 11) ∧ σ' 1 1 0 12 = (σ 1 0 0 12) ∧ σ' 1 1 0 13 = (σ 1 0 0 13) ∧ σ' 0 0 0 3 = 1 ∧ σ' 11 1 0 0 = (σ 11 0 0 0) ∧ (0 < (σ 11 0 0 0) → σ' 12 1 0 0 = (σ 12 0 0 0)) ∧ (1 < (σ 11 0 0 0) → σ' 12 1 0 1 = (σ 12 0 0 1)) ∧ (2 < (σ 11 0 0 0) → σ' 12 1 0 2 = (σ 12 0 0 2)) ∧ True)
theorem ux_33 {xs : Nat × (Nat → Int32)}   (σ : ZS) (hJ : JR σ) : CT xs 120 108 [av 0 0 0] σ (fun v σ' => ∃ y, v = some (iv y) ∧ PX_33  y σ') := by
  have hN := hJ.1.2.2.2
  unfold NB at hN
  have hR := hJ.2.1
  unfold R1 RC1 at hR
  have q_0_6 : 0 ≤ σ 1 0 0 6 ∧ σ 1 0 0 6 ≤ 12 := (fun h => h.2.2.1 (by omega) (by omega)) (hJ.1.1 1 0 0 6 (vd_1 (by omega)))
  have q_0_7 : 0 ≤ σ 1 0 0 7 ∧ σ 1 0 0 7 ≤ 6 := (fun h => h.2.2.2.1 (by omega) (by omega)) (hJ.1.1 1 0 0 7 (vd_1 (by omega)))
  have q_0_10 : 0 ≤ σ 1 0 0 10 ∧ σ 1 0 0 10 ≤ 99 := (fun h => h.2.2.2.2.1 (by omega) (by omega)) (hJ.1.1 1 0 0 10 (vd_1 (by omega)))
  have q_0_11 : 1 ≤ σ 1 0 0 11 ∧ σ 1 0 0 11 ≤ 9 := (fun h => h.2.2.2.2.2.1 (by omega) (by omega)) (hJ.1.1 1 0 0 11 (vd_1 (by omega)))
  have q_0_12 : 0 ≤ σ 1 0 0 12 ∧ σ 1 0 0 12 ≤ 9999 := (fun h => h.2.2.2.2.2.2 (by omega) (by omega)) (hJ.1.1 1 0 0 12 (vd_1 (by omega)))
  have q_0_13 : -2147483648 ≤ σ 1 0 0 13 ∧ σ 1 0 0 13 ≤ 2147483647 := (fun h => (by have q := h.1; omega)) (hJ.1.1 1 0 0 13 (vd_1 (by omega)))
  have q_1_6 : 0 ≤ σ 1 1 0 6 ∧ σ 1 1 0 6 ≤ 12 := (fun h => h.2.2.1 (by omega) (by omega)) (hJ.1.1 1 1 0 6 (vd_1 (by omega)))
  have q_1_7 : 0 ≤ σ 1 1 0 7 ∧ σ 1 1 0 7 ≤ 6 := (fun h => h.2.2.2.1 (by omega) (by omega)) (hJ.1.1 1 1 0 7 (vd_1 (by omega)))
  have q_1_10 : 0 ≤ σ 1 1 0 10 ∧ σ 1 1 0 10 ≤ 99 := (fun h => h.2.2.2.2.1 (by omega) (by omega)) (hJ.1.1 1 1 0 10 (vd_1 (by omega)))
  have q_1_11 : 1 ≤ σ 1 1 0 11 ∧ σ 1 1 0 11 ≤ 9 := (fun h => h.2.2.2.2.2.1 (by omega) (by omega)) (hJ.1.1 1 1 0 11 (vd_1 (by omega)))
  have q_1_12 : 0 ≤ σ 1 1 0 12 ∧ σ 1 1 0 12 ≤ 9999 := (fun h => h.2.2.2.2.2.2 (by omega) (by omega)) (hJ.1.1 1 1 0 12 (vd_1 (by omega)))
  have q_1_13 : -2147483648 ≤ σ 1 1 0 13 ∧ σ 1 1 0 13 ≤ 2147483647 := (fun h => (by have q := h.1; omega)) (hJ.1.1 1 1 0 13 (vd_1 (by omega)))
  have n_0 : 0 ≤ σ 11 0 0 0 ∧ σ 11 0 0 0 ≤ 3 := (fun h => h.2 (by omega) (by omega)) (hJ.1.1 11 0 0 0 (vd_11 (by omega)))
  have x0_0 : 0 ≤ σ 12 0 0 0 ∧ σ 12 0 0 0 ≤ 24 := (fun h => h.2 (by omega) (by omega)) (hJ.1.1 12 0 0 0 (vd_12 (by omega)))
  have x1_0 : 0 ≤ σ 12 0 0 1 ∧ σ 12 0 0 1 ≤ 24 := (fun h => h.2 (by omega) (by omega)) (hJ.1.1 12 0 0 1 (vd_12 (by omega)))
  have x2_0 : 0 ≤ σ 12 0 0 2 ∧ σ 12 0 0 2 ≤ 24 := (fun h => h.2 (by omega) (by omega)) (hJ.1.1 12 0 0 2 (vd_12 (by omega)))
  exact (s_108m ((σ 1 0 0 6)) ((σ 1 0 0 7)) ((σ 1 0 0 10)) ((σ 1 0 0 11)) ((σ 1 0 0 12)) ((σ 1 0 0 13)) ((σ 11 0 0 0)) ((σ 12 0 0 0)) ((σ 12 0 0 1)) ((σ 12 0 0 2)) (by omega) (by omega) (by omega) (by omega) (by omega) (by omega) (by omega) (by omega) (by omega) (by omega) σ hJ.1.1 rfl rfl rfl rfl rfl rfl rfl rfl rfl rfl).le (Nat.le_of_ble_eq_true rfl) (fun v σ' ⟨y, h1, h2, h3, h4⟩ => ⟨y, h1, σ, hJ, h3, h2, h4⟩)
theorem um_33 {xs : Nat × (Nat → Int32)}   (z : Int) (σ' : ZS) (hP : PX_33  z σ') : CT xs 120 184 [av 35 0 0] σ' (fun v σ2 => ∃ y, v = some (iv y) ∧ (True) ∧ JR σ2) := by
  obtain ⟨σ, hJ, h3, h2, h4⟩ := hP
  have hR := hJ.2.1
  unfold R1 RC1 at hR
  have hJ' : JL σ' := hJ.1.fr h3 (fun t i k j q => by unfold MIg at q; unfold wj; omega)
  have hN := hJ'.2.2.2
  unfold NB at hN
  have hI := hJ'.1
  have e_1_0_0_10 : σ' 1 0 0 10 = σ 1 0 0 10 := h3.2 1 0 0 10 (by unfold MIg; omega)
  have e_1_0_0_11 : σ' 1 0 0 11 = σ 1 0 0 11 := h3.2 1 0 0 11 (by unfold MIg; omega)
  have e_1_0_0_12 : σ' 1 0 0 12 = σ 1 0 0 12 := h3.2 1 0 0 12 (by unfold MIg; omega)
  have e_36_0_0_637 : σ' 36 0 0 637 = σ 36 0 0 637 := h3.2 36 0 0 637 (by unfold MIg; omega)
  have e_36_0_0_638 : σ' 36 0 0 638 = σ 36 0 0 638 := h3.2 36 0 0 638 (by unfold MIg; omega)
  have e_36_0_0_639 : σ' 36 0 0 639 = σ 36 0 0 639 := h3.2 36 0 0 639 (by unfold MIg; omega)
  have e_36_0_2_637 : σ' 36 0 2 637 = σ 36 0 2 637 := h3.2 36 0 2 637 (by unfold MIg; omega)
  have e_36_0_2_638 : σ' 36 0 2 638 = σ 36 0 2 638 := h3.2 36 0 2 638 (by unfold MIg; omega)
  have e_36_0_2_639 : σ' 36 0 2 639 = σ 36 0 2 639 := h3.2 36 0 2 639 (by unfold MIg; omega)
  have e_35_0_0_3 : σ' 35 0 0 3 = σ 35 0 0 3 := h3.2 35 0 0 3 (by unfold MIg; omega)
  have p_641 : 0 ≤ σ' 36 0 0 641 ∧ σ' 36 0 0 641 ≤ 12 := (fun h => h.2.2.2.2.2.2.2.2.2.2.2.2.1 (by omega) (by omega)) (hI 36 0 0 641 (vd_36 (by omega)))
  have p_642 : 0 ≤ σ' 36 0 0 642 ∧ σ' 36 0 0 642 ≤ 6 := (fun h => h.2.2.2.2.2.2.2.2.2.2.2.2.2 (by omega) (by omega)) (hI 36 0 0 642 (vd_36 (by omega)))
  have p_637 : 0 ≤ σ' 36 0 0 637 ∧ σ' 36 0 0 637 ≤ 99 := (fun h => h.2.2.2.2.2.2.2.2.1 (by omega) (by omega)) (hI 36 0 0 637 (vd_36 (by omega)))
  have p_638 : 0 ≤ σ' 36 0 0 638 ∧ σ' 36 0 0 638 ≤ 9 := (fun h => h.2.2.2.2.2.2.2.2.2.1 (by omega) (by omega)) (hI 36 0 0 638 (vd_36 (by omega)))
  have p_639 : 0 ≤ σ' 36 0 0 639 ∧ σ' 36 0 0 639 ≤ 9999 := (fun h => h.2.2.2.2.2.2.2.2.2.2.1 (by omega) (by omega)) (hI 36 0 0 639 (vd_36 (by omega)))
  refine (r_184 ((σ' 36 0 0 634)) (by omega) σ' hI  rfl).le (Nat.le_of_ble_eq_true rfl) (fun v σ2 hq => ?_)
  obtain ⟨y, g1, g2, g3, g4⟩ := hq
  have f_1_0_0_10 : σ2 1 0 0 10 = σ' 1 0 0 10 := g3.2 1 0 0 10 (by unfold MIm; omega)
  have f_1_0_0_11 : σ2 1 0 0 11 = σ' 1 0 0 11 := g3.2 1 0 0 11 (by unfold MIm; omega)
  have f_1_0_0_12 : σ2 1 0 0 12 = σ' 1 0 0 12 := g3.2 1 0 0 12 (by unfold MIm; omega)
  have f_1_1_0_10 : σ2 1 1 0 10 = σ' 1 1 0 10 := g3.2 1 1 0 10 (by unfold MIm; omega)
  have f_1_1_0_11 : σ2 1 1 0 11 = σ' 1 1 0 11 := g3.2 1 1 0 11 (by unfold MIm; omega)
  have f_1_1_0_12 : σ2 1 1 0 12 = σ' 1 1 0 12 := g3.2 1 1 0 12 (by unfold MIm; omega)
  have f_0_0_0_3 : σ2 0 0 0 3 = σ' 0 0 0 3 := g3.2 0 0 0 3 (by unfold MIm; omega)
  have f_36_0_0_637 : σ2 36 0 0 637 = σ' 36 0 0 637 := g3.2 36 0 0 637 (by unfold MIm; omega)
  have f_36_0_0_638 : σ2 36 0 0 638 = σ' 36 0 0 638 := g3.2 36 0 0 638 (by unfold MIm; omega)
  have f_36_0_0_639 : σ2 36 0 0 639 = σ' 36 0 0 639 := g3.2 36 0 0 639 (by unfold MIm; omega)
  have w_637 := g4.1 637 (by omega) (by omega)
  have w_638 := g4.1 638 (by omega) (by omega)
  have w_639 := g4.1 639 (by omega) (by omega)
  have hz : True := trivial
  have k0 := h4.1
  have k1 := h4.2.1
  have k2 := h4.2.2.1
  have k3 := h4.2.2.2.1
  have k4 := h4.2.2.2.2.1
  have k5 := h4.2.2.2.2.2.1
  have k6 := h4.2.2.2.2.2.2.1
  have k7 := h4.2.2.2.2.2.2.2.1
  have k8 := h4.2.2.2.2.2.2.2.2.1
  have k9 := h4.2.2.2.2.2.2.2.2.2.1
  have k10 := h4.2.2.2.2.2.2.2.2.2.2.1
  have l1 := g4.2.1
  have l2 := g4.2.2.1
  have l3 := g4.2.2.2.1
  refine ⟨y, g1, hz, ?_, ?_, ?_⟩
  · exact hJ'.fi g3 (fun t i k j q q2 => by unfold MIm at q; unfold wj at q2; omega) g4.1 g4.2.1 g4.2.2.1
  · unfold R1 RC1
    clear h2 g2
    exact ⟨⟨(by rw [f_1_0_0_10, f_36_0_0_637, e_1_0_0_10, e_36_0_0_637]; exact hR.1.1), (by rw [f_1_0_0_11, f_36_0_0_638, e_1_0_0_11, e_36_0_0_638]; exact hR.1.2.1), (by rw [f_1_0_0_12, f_36_0_0_639, e_1_0_0_12, e_36_0_0_639]; exact hR.1.2.2)⟩, (by omega), fun q => ⟨by omega, by omega, by omega⟩⟩
  · skip
    clear h2 g2
    refine ⟨?_, fun q => ?_⟩
    · exact (hJ.2.2.1).eq ((g3.2 11 0 0 0 (by unfold MIm; omega)).trans (h3.2 11 0 0 0 (by unfold MIg; omega))) (fun q hq => (g3.2 12 0 0 q (by unfold MIm; omega)).trans (h3.2 12 0 0 q (by unfold MIg; omega))) (fun j hj => (g3.2 36 0 0 j (by unfold MIm; omega)).trans (h3.2 36 0 0 j (by unfold MIg; omega)))
    · have rm := hJ.2.2.1
      unfold RMo at rm ⊢
      have f_n1 : σ2 11 1 0 0 = σ' 11 1 0 0 := g3.2 11 1 0 0 (by unfold MIm; omega)
      have f_x10 : σ2 12 1 0 0 = σ' 12 1 0 0 := g3.2 12 1 0 0 (by unfold MIm; omega)
      have f_x11 : σ2 12 1 0 1 = σ' 12 1 0 1 := g3.2 12 1 0 1 (by unfold MIm; omega)
      have f_x12 : σ2 12 1 0 2 = σ' 12 1 0 2 := g3.2 12 1 0 2 (by unfold MIm; omega)
      have e_r0633 : σ' 36 0 0 633 = σ 36 0 0 633 := h3.2 36 0 0 633 (by unfold MIg; omega)
      have e_r0250 : σ' 36 0 0 250 = σ 36 0 0 250 := h3.2 36 0 0 250 (by unfold MIg; omega)
      have e_r0251 : σ' 36 0 0 251 = σ 36 0 0 251 := h3.2 36 0 0 251 (by unfold MIg; omega)
      have e_r0252 : σ' 36 0 0 252 = σ 36 0 0 252 := h3.2 36 0 0 252 (by unfold MIg; omega)
      have w_633 : σ2 36 0 2 633 = σ' 36 0 0 633 := g4.1 633 (by omega) (by omega)
      have w_250 : σ2 36 0 2 250 = σ' 36 0 0 250 := g4.1 250 (by omega) (by omega)
      have w_251 : σ2 36 0 2 251 = σ' 36 0 0 251 := g4.1 251 (by omega) (by omega)
      have w_252 : σ2 36 0 2 252 = σ' 36 0 0 252 := g4.1 252 (by omega) (by omega)
      have m0 := h4.2.2.2.2.2.2.2.1
      have m1 := h4.2.2.2.2.2.2.2.2.1
      have m2 := h4.2.2.2.2.2.2.2.2.2.1
      have m3 := h4.2.2.2.2.2.2.2.2.2.2.1
      clear hR
      refine ⟨by omega, fun q => by omega, fun q => by omega, fun q => by omega⟩
def PX_34n  (y : Int) (σ' : ZS) : Prop := ∃ σ, JR σ ∧ IF (MI 0 28 28 28 28) σ σ' ∧ (y = -6) ∧ (True) ∧ (σ 0 0 0 3 = 0)
theorem ux_34n {xs : Nat × (Nat → Int32)}   (σ : ZS) (hJ : JR σ) (hc : σ 0 0 0 3 = 0) : CT xs 120 109 [av 0 0 0] σ (fun v σ' => ∃ y, v = some (iv y) ∧ PX_34n  y σ') := by
  have hN := hJ.1.2.2.2
  unfold NB at hN
  have hR := hJ.2.1
  unfold R1 RC1 at hR
  have q_0_6 : 0 ≤ σ 1 0 0 6 ∧ σ 1 0 0 6 ≤ 12 := (fun h => h.2.2.1 (by omega) (by omega)) (hJ.1.1 1 0 0 6 (vd_1 (by omega)))
  have q_0_7 : 0 ≤ σ 1 0 0 7 ∧ σ 1 0 0 7 ≤ 6 := (fun h => h.2.2.2.1 (by omega) (by omega)) (hJ.1.1 1 0 0 7 (vd_1 (by omega)))
  have q_0_10 : 0 ≤ σ 1 0 0 10 ∧ σ 1 0 0 10 ≤ 99 := (fun h => h.2.2.2.2.1 (by omega) (by omega)) (hJ.1.1 1 0 0 10 (vd_1 (by omega)))
  have q_0_11 : 1 ≤ σ 1 0 0 11 ∧ σ 1 0 0 11 ≤ 9 := (fun h => h.2.2.2.2.2.1 (by omega) (by omega)) (hJ.1.1 1 0 0 11 (vd_1 (by omega)))
  have q_0_12 : 0 ≤ σ 1 0 0 12 ∧ σ 1 0 0 12 ≤ 9999 := (fun h => h.2.2.2.2.2.2 (by omega) (by omega)) (hJ.1.1 1 0 0 12 (vd_1 (by omega)))
  have q_0_13 : -2147483648 ≤ σ 1 0 0 13 ∧ σ 1 0 0 13 ≤ 2147483647 := (fun h => (by have q := h.1; omega)) (hJ.1.1 1 0 0 13 (vd_1 (by omega)))
  have q_1_6 : 0 ≤ σ 1 1 0 6 ∧ σ 1 1 0 6 ≤ 12 := (fun h => h.2.2.1 (by omega) (by omega)) (hJ.1.1 1 1 0 6 (vd_1 (by omega)))
  have q_1_7 : 0 ≤ σ 1 1 0 7 ∧ σ 1 1 0 7 ≤ 6 := (fun h => h.2.2.2.1 (by omega) (by omega)) (hJ.1.1 1 1 0 7 (vd_1 (by omega)))
  have q_1_10 : 0 ≤ σ 1 1 0 10 ∧ σ 1 1 0 10 ≤ 99 := (fun h => h.2.2.2.2.1 (by omega) (by omega)) (hJ.1.1 1 1 0 10 (vd_1 (by omega)))
  have q_1_11 : 1 ≤ σ 1 1 0 11 ∧ σ 1 1 0 11 ≤ 9 := (fun h => h.2.2.2.2.2.1 (by omega) (by omega)) (hJ.1.1 1 1 0 11 (vd_1 (by omega)))
  have q_1_12 : 0 ≤ σ 1 1 0 12 ∧ σ 1 1 0 12 ≤ 9999 := (fun h => h.2.2.2.2.2.2 (by omega) (by omega)) (hJ.1.1 1 1 0 12 (vd_1 (by omega)))
  have q_1_13 : -2147483648 ≤ σ 1 1 0 13 ∧ σ 1 1 0 13 ≤ 2147483647 := (fun h => (by have q := h.1; omega)) (hJ.1.1 1 1 0 13 (vd_1 (by omega)))
  exact (s_109n   σ hJ.1.1 (by omega)).le (Nat.le_of_ble_eq_true rfl) (fun v σ' ⟨y, h1, h2, h3, h4⟩ => ⟨y, h1, σ, hJ, h3, h2, h4, hc⟩)
theorem um_34n {xs : Nat × (Nat → Int32)}   (z : Int) (σ' : ZS) (hP : PX_34n  z σ') : CT xs 120 185 [av 35 0 0] σ' (fun v σ2 => ∃ y, v = some (iv y) ∧ (True) ∧ JR σ2) := by
  obtain ⟨σ, hJ, h3, h2, h4, hc⟩ := hP
  have hR := hJ.2.1
  unfold R1 RC1 at hR
  have hJ' : JL σ' := hJ.1.fr h3 (fun t i k j q => by unfold MI at q; unfold wj; omega)
  have hN := hJ'.2.2.2
  unfold NB at hN
  have hI := hJ'.1
  have e_1_0_0_10 : σ' 1 0 0 10 = σ 1 0 0 10 := h3.2 1 0 0 10 (by unfold MI; omega)
  have e_1_0_0_11 : σ' 1 0 0 11 = σ 1 0 0 11 := h3.2 1 0 0 11 (by unfold MI; omega)
  have e_1_0_0_12 : σ' 1 0 0 12 = σ 1 0 0 12 := h3.2 1 0 0 12 (by unfold MI; omega)
  have e_1_1_0_10 : σ' 1 1 0 10 = σ 1 1 0 10 := h3.2 1 1 0 10 (by unfold MI; omega)
  have e_1_1_0_11 : σ' 1 1 0 11 = σ 1 1 0 11 := h3.2 1 1 0 11 (by unfold MI; omega)
  have e_1_1_0_12 : σ' 1 1 0 12 = σ 1 1 0 12 := h3.2 1 1 0 12 (by unfold MI; omega)
  have e_0_0_0_3 : σ' 0 0 0 3 = σ 0 0 0 3 := h3.2 0 0 0 3 (by unfold MI; omega)
  have e_36_0_0_637 : σ' 36 0 0 637 = σ 36 0 0 637 := h3.2 36 0 0 637 (by unfold MI; omega)
  have e_36_0_0_638 : σ' 36 0 0 638 = σ 36 0 0 638 := h3.2 36 0 0 638 (by unfold MI; omega)
  have e_36_0_0_639 : σ' 36 0 0 639 = σ 36 0 0 639 := h3.2 36 0 0 639 (by unfold MI; omega)
  have e_36_0_2_637 : σ' 36 0 2 637 = σ 36 0 2 637 := h3.2 36 0 2 637 (by unfold MI; omega)
  have e_36_0_2_638 : σ' 36 0 2 638 = σ 36 0 2 638 := h3.2 36 0 2 638 (by unfold MI; omega)
  have e_36_0_2_639 : σ' 36 0 2 639 = σ 36 0 2 639 := h3.2 36 0 2 639 (by unfold MI; omega)
  have e_35_0_0_3 : σ' 35 0 0 3 = σ 35 0 0 3 := h3.2 35 0 0 3 (by unfold MI; omega)
  have p_641 : 0 ≤ σ' 36 0 0 641 ∧ σ' 36 0 0 641 ≤ 12 := (fun h => h.2.2.2.2.2.2.2.2.2.2.2.2.1 (by omega) (by omega)) (hI 36 0 0 641 (vd_36 (by omega)))
  have p_642 : 0 ≤ σ' 36 0 0 642 ∧ σ' 36 0 0 642 ≤ 6 := (fun h => h.2.2.2.2.2.2.2.2.2.2.2.2.2 (by omega) (by omega)) (hI 36 0 0 642 (vd_36 (by omega)))
  have p_637 : 0 ≤ σ' 36 0 0 637 ∧ σ' 36 0 0 637 ≤ 99 := (fun h => h.2.2.2.2.2.2.2.2.1 (by omega) (by omega)) (hI 36 0 0 637 (vd_36 (by omega)))
  have p_638 : 0 ≤ σ' 36 0 0 638 ∧ σ' 36 0 0 638 ≤ 9 := (fun h => h.2.2.2.2.2.2.2.2.2.1 (by omega) (by omega)) (hI 36 0 0 638 (vd_36 (by omega)))
  have p_639 : 0 ≤ σ' 36 0 0 639 ∧ σ' 36 0 0 639 ≤ 9999 := (fun h => h.2.2.2.2.2.2.2.2.2.2.1 (by omega) (by omega)) (hI 36 0 0 639 (vd_36 (by omega)))
  refine (m_185n   σ' hI  (by omega)).le (Nat.le_of_ble_eq_true rfl) (fun v σ2 hq => ?_)
  obtain ⟨y, g1, g2, g3, g4⟩ := hq
  have f_1_0_0_10 : σ2 1 0 0 10 = σ' 1 0 0 10 := g3.2 1 0 0 10 (by unfold MT; omega)
  have f_1_0_0_11 : σ2 1 0 0 11 = σ' 1 0 0 11 := g3.2 1 0 0 11 (by unfold MT; omega)
  have f_1_0_0_12 : σ2 1 0 0 12 = σ' 1 0 0 12 := g3.2 1 0 0 12 (by unfold MT; omega)
  have f_1_1_0_10 : σ2 1 1 0 10 = σ' 1 1 0 10 := g3.2 1 1 0 10 (by unfold MT; omega)
  have f_1_1_0_11 : σ2 1 1 0 11 = σ' 1 1 0 11 := g3.2 1 1 0 11 (by unfold MT; omega)
  have f_1_1_0_12 : σ2 1 1 0 12 = σ' 1 1 0 12 := g3.2 1 1 0 12 (by unfold MT; omega)
  have f_0_0_0_3 : σ2 0 0 0 3 = σ' 0 0 0 3 := g3.2 0 0 0 3 (by unfold MT; omega)
  have f_36_0_0_637 : σ2 36 0 0 637 = σ' 36 0 0 637 := g3.2 36 0 0 637 (by unfold MT; omega)
  have f_36_0_0_638 : σ2 36 0 0 638 = σ' 36 0 0 638 := g3.2 36 0 0 638 (by unfold MT; omega)
  have f_36_0_0_639 : σ2 36 0 0 639 = σ' 36 0 0 639 := g3.2 36 0 0 639 (by unfold MT; omega)
  have f_36_0_2_637 : σ2 36 0 2 637 = σ' 36 0 2 637 := g3.2 36 0 2 637 (by unfold MT; omega)
  have f_36_0_2_638 : σ2 36 0 2 638 = σ' 36 0 2 638 := g3.2 36 0 2 638 (by unfold MT; omega)
  have f_36_0_2_639 : σ2 36 0 2 639 = σ' 36 0 2 639 := g3.2 36 0 2 639 (by unfold MT; omega)
  have f_35_0_0_3 : σ2 35 0 0 3 = σ' 35 0 0 3 := g3.2 35 0 0 3 (by unfold MT; omega)
  have hz : True := trivial
  refine ⟨y, g1, hz, ?_, ?_, ?_⟩
  · exact hJ'.fr g3 (fun t i k j q => by unfold MT at q; unfold wj; omega)
  · unfold R1 RC1
    clear h2 g2
    refine ⟨⟨(by rw [f_1_0_0_10, f_36_0_0_637, e_1_0_0_10, e_36_0_0_637]; exact hR.1.1), (by rw [f_1_0_0_11, f_36_0_0_638, e_1_0_0_11, e_36_0_0_638]; exact hR.1.2.1), (by rw [f_1_0_0_12, f_36_0_0_639, e_1_0_0_12, e_36_0_0_639]; exact hR.1.2.2)⟩, (by rw [f_0_0_0_3, f_35_0_0_3, e_0_0_0_3, e_35_0_0_3]; exact hR.2.1), fun q => ?_⟩
    have q' := hR.2.2 (by rw [← e_35_0_0_3, ← f_35_0_0_3]; exact q)
    exact ⟨(by rw [f_1_1_0_10, f_36_0_2_637, e_1_1_0_10, e_36_0_2_637]; exact q'.1), (by rw [f_1_1_0_11, f_36_0_2_638, e_1_1_0_11, e_36_0_2_638]; exact q'.2.1), (by rw [f_1_1_0_12, f_36_0_2_639, e_1_1_0_12, e_36_0_2_639]; exact q'.2.2)⟩
  · exact (hJ.2.2.fr h3 (fun t i k j q => by unfold MI at q; unfold rwx; omega)).fr g3 (fun t i k j q => by unfold MT at q; unfold rwx; omega)
def PX_34y  (y : Int) (σ' : ZS) : Prop := ∃ σ, JR σ ∧ IF MRs σ σ' ∧ (y = (σ 1 1 0 13)) ∧ (σ' 1 0 0 6 = (σ 1 1 0 6) ∧ σ' 1 0 0 7 = (σ 1 1 0 7) ∧ σ' 1 0 0 10 = (σ 1 1 0 10) ∧ σ' 1 0 0 11 = (σ 1 1 0 11) ∧ σ' 1 0 0 12 = (σ 1 1 0 12) ∧ σ' 1 0 0 13 = (σ 1 1 0 13) ∧ σ' 11 0 0 0 = (σ 11 1 0 0) ∧ (0 < (σ 11 1 0 0) → σ' 12 0 0 0 = (σ 12 1 0 0)) ∧ (1 < (σ 11 1 0 0) → σ' 12 0 0 1 = (σ 12 1 0 1)) ∧ (2 < (σ 11 1 0 0) → σ' 12 0 0 2 = (σ 12 1 0 2)) ∧ True) ∧ (σ 0 0 0 3 = 1)
theorem ux_34y {xs : Nat × (Nat → Int32)}   (σ : ZS) (hJ : JR σ) (hc : σ 0 0 0 3 = 1) : CT xs 120 109 [av 0 0 0] σ (fun v σ' => ∃ y, v = some (iv y) ∧ PX_34y  y σ') := by
  have hN := hJ.1.2.2.2
  unfold NB at hN
  have hR := hJ.2.1
  unfold R1 RC1 at hR
  have q_0_6 : 0 ≤ σ 1 0 0 6 ∧ σ 1 0 0 6 ≤ 12 := (fun h => h.2.2.1 (by omega) (by omega)) (hJ.1.1 1 0 0 6 (vd_1 (by omega)))
  have q_0_7 : 0 ≤ σ 1 0 0 7 ∧ σ 1 0 0 7 ≤ 6 := (fun h => h.2.2.2.1 (by omega) (by omega)) (hJ.1.1 1 0 0 7 (vd_1 (by omega)))
  have q_0_10 : 0 ≤ σ 1 0 0 10 ∧ σ 1 0 0 10 ≤ 99 := (fun h => h.2.2.2.2.1 (by omega) (by omega)) (hJ.1.1 1 0 0 10 (vd_1 (by omega)))
  have q_0_11 : 1 ≤ σ 1 0 0 11 ∧ σ 1 0 0 11 ≤ 9 := (fun h => h.2.2.2.2.2.1 (by omega) (by omega)) (hJ.1.1 1 0 0 11 (vd_1 (by omega)))
  have q_0_12 : 0 ≤ σ 1 0 0 12 ∧ σ 1 0 0 12 ≤ 9999 := (fun h => h.2.2.2.2.2.2 (by omega) (by omega)) (hJ.1.1 1 0 0 12 (vd_1 (by omega)))
  have q_0_13 : -2147483648 ≤ σ 1 0 0 13 ∧ σ 1 0 0 13 ≤ 2147483647 := (fun h => (by have q := h.1; omega)) (hJ.1.1 1 0 0 13 (vd_1 (by omega)))
  have q_1_6 : 0 ≤ σ 1 1 0 6 ∧ σ 1 1 0 6 ≤ 12 := (fun h => h.2.2.1 (by omega) (by omega)) (hJ.1.1 1 1 0 6 (vd_1 (by omega)))
  have q_1_7 : 0 ≤ σ 1 1 0 7 ∧ σ 1 1 0 7 ≤ 6 := (fun h => h.2.2.2.1 (by omega) (by omega)) (hJ.1.1 1 1 0 7 (vd_1 (by omega)))
  have q_1_10 : 0 ≤ σ 1 1 0 10 ∧ σ 1 1 0 10 ≤ 99 := (fun h => h.2.2.2.2.1 (by omega) (by omega)) (hJ.1.1 1 1 0 10 (vd_1 (by omega)))
  have q_1_11 : 1 ≤ σ 1 1 0 11 ∧ σ 1 1 0 11 ≤ 9 := (fun h => h.2.2.2.2.2.1 (by omega) (by omega)) (hJ.1.1 1 1 0 11 (vd_1 (by omega)))
  have q_1_12 : 0 ≤ σ 1 1 0 12 ∧ σ 1 1 0 12 ≤ 9999 := (fun h => h.2.2.2.2.2.2 (by omega) (by omega)) (hJ.1.1 1 1 0 12 (vd_1 (by omega)))
  have q_1_13 : -2147483648 ≤ σ 1 1 0 13 ∧ σ 1 1 0 13 ≤ 2147483647 := (fun h => (by have q := h.1; omega)) (hJ.1.1 1 1 0 13 (vd_1 (by omega)))
  have n_1 : 0 ≤ σ 11 1 0 0 ∧ σ 11 1 0 0 ≤ 3 := (fun h => h.2 (by omega) (by omega)) (hJ.1.1 11 1 0 0 (vd_11 (by omega)))
  have x0_1 : 0 ≤ σ 12 1 0 0 ∧ σ 12 1 0 0 ≤ 24 := (fun h => h.2 (by omega) (by omega)) (hJ.1.1 12 1 0 0 (vd_12 (by omega)))
  have x1_1 : 0 ≤ σ 12 1 0 1 ∧ σ 12 1 0 1 ≤ 24 := (fun h => h.2 (by omega) (by omega)) (hJ.1.1 12 1 0 1 (vd_12 (by omega)))
  have x2_1 : 0 ≤ σ 12 1 0 2 ∧ σ 12 1 0 2 ≤ 24 := (fun h => h.2 (by omega) (by omega)) (hJ.1.1 12 1 0 2 (vd_12 (by omega)))
  exact (s_109m ((σ 1 1 0 6)) ((σ 1 1 0 7)) ((σ 1 1 0 10)) ((σ 1 1 0 11)) ((σ 1 1 0 12)) ((σ 1 1 0 13)) ((σ 11 1 0 0)) ((σ 12 1 0 0)) ((σ 12 1 0 1)) ((σ 12 1 0 2)) (by omega) (by omega) (by omega) (by omega) (by omega) (by omega) (by omega) (by omega) (by omega) (by omega) σ hJ.1.1 (by omega) rfl rfl rfl rfl rfl rfl rfl rfl rfl rfl).le (Nat.le_of_ble_eq_true rfl) (fun v σ' ⟨y, h1, h2, h3, h4⟩ => ⟨y, h1, σ, hJ, h3, h2, h4, hc⟩)
theorem um_34y {xs : Nat × (Nat → Int32)}   (z : Int) (σ' : ZS) (hP : PX_34y  z σ') : CT xs 120 185 [av 35 0 0] σ' (fun v σ2 => ∃ y, v = some (iv y) ∧ (True) ∧ JR σ2) := by
  obtain ⟨σ, hJ, h3, h2, h4, hc⟩ := hP
  have hR := hJ.2.1
  unfold R1 RC1 at hR
  have hJ' : JL σ' := hJ.1.fr h3 (fun t i k j q => by unfold MRs at q; unfold wj; omega)
  have hN := hJ'.2.2.2
  unfold NB at hN
  have hI := hJ'.1
  have e_1_1_0_10 : σ' 1 1 0 10 = σ 1 1 0 10 := h3.2 1 1 0 10 (by unfold MRs; omega)
  have e_1_1_0_11 : σ' 1 1 0 11 = σ 1 1 0 11 := h3.2 1 1 0 11 (by unfold MRs; omega)
  have e_1_1_0_12 : σ' 1 1 0 12 = σ 1 1 0 12 := h3.2 1 1 0 12 (by unfold MRs; omega)
  have e_0_0_0_3 : σ' 0 0 0 3 = σ 0 0 0 3 := h3.2 0 0 0 3 (by unfold MRs; omega)
  have e_36_0_0_637 : σ' 36 0 0 637 = σ 36 0 0 637 := h3.2 36 0 0 637 (by unfold MRs; omega)
  have e_36_0_0_638 : σ' 36 0 0 638 = σ 36 0 0 638 := h3.2 36 0 0 638 (by unfold MRs; omega)
  have e_36_0_0_639 : σ' 36 0 0 639 = σ 36 0 0 639 := h3.2 36 0 0 639 (by unfold MRs; omega)
  have e_36_0_2_637 : σ' 36 0 2 637 = σ 36 0 2 637 := h3.2 36 0 2 637 (by unfold MRs; omega)
  have e_36_0_2_638 : σ' 36 0 2 638 = σ 36 0 2 638 := h3.2 36 0 2 638 (by unfold MRs; omega)
  have e_36_0_2_639 : σ' 36 0 2 639 = σ 36 0 2 639 := h3.2 36 0 2 639 (by unfold MRs; omega)
  have e_35_0_0_3 : σ' 35 0 0 3 = σ 35 0 0 3 := h3.2 35 0 0 3 (by unfold MRs; omega)
  have p_641 : 0 ≤ σ' 36 0 0 641 ∧ σ' 36 0 0 641 ≤ 12 := (fun h => h.2.2.2.2.2.2.2.2.2.2.2.2.1 (by omega) (by omega)) (hI 36 0 0 641 (vd_36 (by omega)))
  have p_642 : 0 ≤ σ' 36 0 0 642 ∧ σ' 36 0 0 642 ≤ 6 := (fun h => h.2.2.2.2.2.2.2.2.2.2.2.2.2 (by omega) (by omega)) (hI 36 0 0 642 (vd_36 (by omega)))
  have p_637 : 0 ≤ σ' 36 0 0 637 ∧ σ' 36 0 0 637 ≤ 99 := (fun h => h.2.2.2.2.2.2.2.2.1 (by omega) (by omega)) (hI 36 0 0 637 (vd_36 (by omega)))
  have p_638 : 0 ≤ σ' 36 0 0 638 ∧ σ' 36 0 0 638 ≤ 9 := (fun h => h.2.2.2.2.2.2.2.2.2.1 (by omega) (by omega)) (hI 36 0 0 638 (vd_36 (by omega)))
  have p_639 : 0 ≤ σ' 36 0 0 639 ∧ σ' 36 0 0 639 ≤ 9999 := (fun h => h.2.2.2.2.2.2.2.2.2.2.1 (by omega) (by omega)) (hI 36 0 0 639 (vd_36 (by omega)))
  refine (m_185y ((σ' 36 0 2 634)) (by omega) σ' hI  (by omega) rfl).le (Nat.le_of_ble_eq_true rfl) (fun v σ2 hq => ?_)
  obtain ⟨y, g1, g2, g3, g4⟩ := hq
  have f_1_0_0_10 : σ2 1 0 0 10 = σ' 1 0 0 10 := g3.2 1 0 0 10 (by unfold MRm; omega)
  have f_1_0_0_11 : σ2 1 0 0 11 = σ' 1 0 0 11 := g3.2 1 0 0 11 (by unfold MRm; omega)
  have f_1_0_0_12 : σ2 1 0 0 12 = σ' 1 0 0 12 := g3.2 1 0 0 12 (by unfold MRm; omega)
  have f_1_1_0_10 : σ2 1 1 0 10 = σ' 1 1 0 10 := g3.2 1 1 0 10 (by unfold MRm; omega)
  have f_1_1_0_11 : σ2 1 1 0 11 = σ' 1 1 0 11 := g3.2 1 1 0 11 (by unfold MRm; omega)
  have f_1_1_0_12 : σ2 1 1 0 12 = σ' 1 1 0 12 := g3.2 1 1 0 12 (by unfold MRm; omega)
  have f_0_0_0_3 : σ2 0 0 0 3 = σ' 0 0 0 3 := g3.2 0 0 0 3 (by unfold MRm; omega)
  have f_36_0_2_637 : σ2 36 0 2 637 = σ' 36 0 2 637 := g3.2 36 0 2 637 (by unfold MRm; omega)
  have f_36_0_2_638 : σ2 36 0 2 638 = σ' 36 0 2 638 := g3.2 36 0 2 638 (by unfold MRm; omega)
  have f_36_0_2_639 : σ2 36 0 2 639 = σ' 36 0 2 639 := g3.2 36 0 2 639 (by unfold MRm; omega)
  have f_35_0_0_3 : σ2 35 0 0 3 = σ' 35 0 0 3 := g3.2 35 0 0 3 (by unfold MRm; omega)
  have w_637 := g4.1 637 (by omega) (by omega)
  have w_638 := g4.1 638 (by omega) (by omega)
  have w_639 := g4.1 639 (by omega) (by omega)
  have hz : True := trivial
  have k0 := h4.1
  have k1 := h4.2.1
  have k2 := h4.2.2.1
  have k3 := h4.2.2.2.1
  have k4 := h4.2.2.2.2.1
  have k5 := h4.2.2.2.2.2.1
  have k6 := h4.2.2.2.2.2.2.1
  have k7 := h4.2.2.2.2.2.2.2.1
  have k8 := h4.2.2.2.2.2.2.2.2.1
  have k9 := h4.2.2.2.2.2.2.2.2.2.1
  have l1 := g4.2.1
  have l2 := g4.2.2.1
  refine ⟨y, g1, hz, ?_, ?_, ?_⟩
  · exact hJ'.fb g3 (fun t i k j q q2 => by unfold MRm at q; unfold wj at q2; omega) g4.1 g4.2.1 g4.2.2.1
  · unfold R1 RC1
    clear h2 g2
    refine ⟨⟨(by omega), (by omega), (by omega)⟩, (by rw [f_0_0_0_3, f_35_0_0_3, e_0_0_0_3, e_35_0_0_3]; exact hR.2.1), fun q => ?_⟩
    have q' := hR.2.2 (by rw [← e_35_0_0_3, ← f_35_0_0_3]; exact q)
    exact ⟨(by rw [f_1_1_0_10, f_36_0_2_637, e_1_1_0_10, e_36_0_2_637]; exact q'.1), (by rw [f_1_1_0_11, f_36_0_2_638, e_1_1_0_11, e_36_0_2_638]; exact q'.2.1), (by rw [f_1_1_0_12, f_36_0_2_639, e_1_1_0_12, e_36_0_2_639]; exact q'.2.2)⟩
  · skip
    clear h2 g2
    refine ⟨?_, fun q => ?_⟩
    · have rm := (hJ.2.2.2 (by omega))
      unfold RMo at rm ⊢
      have f_n0 : σ2 11 0 0 0 = σ' 11 0 0 0 := g3.2 11 0 0 0 (by unfold MRm; omega)
      have f_x00 : σ2 12 0 0 0 = σ' 12 0 0 0 := g3.2 12 0 0 0 (by unfold MRm; omega)
      have f_x01 : σ2 12 0 0 1 = σ' 12 0 0 1 := g3.2 12 0 0 1 (by unfold MRm; omega)
      have f_x02 : σ2 12 0 0 2 = σ' 12 0 0 2 := g3.2 12 0 0 2 (by unfold MRm; omega)
      have e_r2633 : σ' 36 0 2 633 = σ 36 0 2 633 := h3.2 36 0 2 633 (by unfold MRs; omega)
      have e_r2250 : σ' 36 0 2 250 = σ 36 0 2 250 := h3.2 36 0 2 250 (by unfold MRs; omega)
      have e_r2251 : σ' 36 0 2 251 = σ 36 0 2 251 := h3.2 36 0 2 251 (by unfold MRs; omega)
      have e_r2252 : σ' 36 0 2 252 = σ 36 0 2 252 := h3.2 36 0 2 252 (by unfold MRs; omega)
      have w_633 : σ2 36 0 0 633 = σ' 36 0 2 633 := g4.1 633 (by omega) (by omega)
      have w_250 : σ2 36 0 0 250 = σ' 36 0 2 250 := g4.1 250 (by omega) (by omega)
      have w_251 : σ2 36 0 0 251 = σ' 36 0 2 251 := g4.1 251 (by omega) (by omega)
      have w_252 : σ2 36 0 0 252 = σ' 36 0 2 252 := g4.1 252 (by omega) (by omega)
      have m0 := h4.2.2.2.2.2.2.1
      have m1 := h4.2.2.2.2.2.2.2.1
      have m2 := h4.2.2.2.2.2.2.2.2.1
      have m3 := h4.2.2.2.2.2.2.2.2.2.1
      clear hR
      refine ⟨by omega, fun q => by omega, fun q => by omega, fun q => by omega⟩
    · exact (hJ.2.2.2 (by omega)).eq ((g3.2 11 1 0 0 (by unfold MRm; omega)).trans (h3.2 11 1 0 0 (by unfold MRs; omega))) (fun q hq => (g3.2 12 1 0 q (by unfold MRm; omega)).trans (h3.2 12 1 0 q (by unfold MRs; omega))) (fun j hj => (g3.2 36 0 2 j (by unfold MRm; omega)).trans (h3.2 36 0 2 j (by unfold MRs; omega)))
def PX_34  (y : Int) (σ' : ZS) : Prop := PX_34n  y σ' ∨ PX_34y  y σ'
theorem ux_34 {xs : Nat × (Nat → Int32)}   (σ : ZS) (hJ : JR σ) : CT xs 120 109 [av 0 0 0] σ (fun v σ' => ∃ y, v = some (iv y) ∧ PX_34  y σ') := by
  have hh := hJ.1.1 0 0 0 3 vd_0
  simp only [rgP] at hh
  by_cases h0 : σ 0 0 0 3 = 0
  · exact (ux_34n   σ hJ h0).le (Nat.le_refl _) (fun v σ' ⟨y, h1, h2⟩ => ⟨y, h1, Or.inl h2⟩)
  · exact (ux_34y   σ hJ (by omega)).le (Nat.le_refl _) (fun v σ' ⟨y, h1, h2⟩ => ⟨y, h1, Or.inr h2⟩)
theorem um_34 {xs : Nat × (Nat → Int32)}   (z : Int) (σ' : ZS) (hP : PX_34  z σ') : CT xs 120 185 [av 35 0 0] σ' (fun v σ2 => ∃ y, v = some (iv y) ∧ (True) ∧ JR σ2) := hP.elim (um_34n   z σ') (um_34y   z σ')
def PX_16 (p0 : Int) (p1 : Int) (y : Int) (σ' : ZS) : Prop := ∃ σ, JR σ ∧ IF (MC 10 13 28) σ σ' ∧ ((y = (σ 1 0 0 10) ∧ (p0 = 0 ∧ 0 ≤ p1 ∧ p1 ≤ 99)) ∨ (y = (σ 1 0 0 11) ∧ ¬ (p0 = 0 ∧ 0 ≤ p1 ∧ p1 ≤ 99) ∧ (p0 = 1 ∧ 1 ≤ p1 ∧ p1 ≤ 9)) ∨ (y = (σ 1 0 0 12) ∧ ¬ (p0 = 0 ∧ 0 ≤ p1 ∧ p1 ≤ 99) ∧ ¬ (p0 = 1 ∧ 1 ≤ p1 ∧ p1 ≤ 9) ∧ (p0 = 2 ∧ 0 ≤ p1 ∧ p1 ≤ 9999)) ∨ (y = -6 ∧ ¬ (p0 = 0 ∧ 0 ≤ p1 ∧ p1 ≤ 99) ∧ ¬ (p0 = 1 ∧ 1 ≤ p1 ∧ p1 ≤ 9) ∧ ¬ (p0 = 2 ∧ 0 ≤ p1 ∧ p1 ≤ 9999))) ∧ ((((p0 = 0 ∧ 0 ≤ p1 ∧ p1 ≤ 99) → σ' 1 0 0 10 = p1) ∧ (¬ (p0 = 0 ∧ 0 ≤ p1 ∧ p1 ≤ 99) → σ' 1 0 0 10 = (σ 1 0 0 10))) ∧ (((p0 = 1 ∧ 1 ≤ p1 ∧ p1 ≤ 9) → σ' 1 0 0 11 = p1) ∧ (¬ (p0 = 1 ∧ 1 ≤ p1 ∧ p1 ≤ 9) → σ' 1 0 0 11 = (σ 1 0 0 11))) ∧ (((p0 = 2 ∧ 0 ≤ p1 ∧ p1 ≤ 9999) → σ' 1 0 0 12 = p1) ∧ (¬ (p0 = 2 ∧ 0 ≤ p1 ∧ p1 ≤ 9999) → σ' 1 0 0 12 = (σ 1 0 0 12))) ∧ True)
theorem ux_16 {xs : Nat × (Nat → Int32)} (p0 : Int) (p1 : Int) (hp0 : -2147483648 ≤ p0 ∧ p0 ≤ 2147483647) (hp1 : -2147483648 ≤ p1 ∧ p1 ≤ 2147483647) (σ : ZS) (hJ : JR σ) : CT xs 120 92 [av 0 0 0, iv p0, iv p1] σ (fun v σ' => ∃ y, v = some (iv y) ∧ PX_16 p0 p1 y σ') := by
  have hN := hJ.1.2.2.2
  unfold NB at hN
  have hR := hJ.2.1
  unfold R1 RC1 at hR
  have q_0_6 : 0 ≤ σ 1 0 0 6 ∧ σ 1 0 0 6 ≤ 12 := (fun h => h.2.2.1 (by omega) (by omega)) (hJ.1.1 1 0 0 6 (vd_1 (by omega)))
  have q_0_7 : 0 ≤ σ 1 0 0 7 ∧ σ 1 0 0 7 ≤ 6 := (fun h => h.2.2.2.1 (by omega) (by omega)) (hJ.1.1 1 0 0 7 (vd_1 (by omega)))
  have q_0_10 : 0 ≤ σ 1 0 0 10 ∧ σ 1 0 0 10 ≤ 99 := (fun h => h.2.2.2.2.1 (by omega) (by omega)) (hJ.1.1 1 0 0 10 (vd_1 (by omega)))
  have q_0_11 : 1 ≤ σ 1 0 0 11 ∧ σ 1 0 0 11 ≤ 9 := (fun h => h.2.2.2.2.2.1 (by omega) (by omega)) (hJ.1.1 1 0 0 11 (vd_1 (by omega)))
  have q_0_12 : 0 ≤ σ 1 0 0 12 ∧ σ 1 0 0 12 ≤ 9999 := (fun h => h.2.2.2.2.2.2 (by omega) (by omega)) (hJ.1.1 1 0 0 12 (vd_1 (by omega)))
  have q_0_13 : -2147483648 ≤ σ 1 0 0 13 ∧ σ 1 0 0 13 ≤ 2147483647 := (fun h => (by have q := h.1; omega)) (hJ.1.1 1 0 0 13 (vd_1 (by omega)))
  have q_1_6 : 0 ≤ σ 1 1 0 6 ∧ σ 1 1 0 6 ≤ 12 := (fun h => h.2.2.1 (by omega) (by omega)) (hJ.1.1 1 1 0 6 (vd_1 (by omega)))
  have q_1_7 : 0 ≤ σ 1 1 0 7 ∧ σ 1 1 0 7 ≤ 6 := (fun h => h.2.2.2.1 (by omega) (by omega)) (hJ.1.1 1 1 0 7 (vd_1 (by omega)))
  have q_1_10 : 0 ≤ σ 1 1 0 10 ∧ σ 1 1 0 10 ≤ 99 := (fun h => h.2.2.2.2.1 (by omega) (by omega)) (hJ.1.1 1 1 0 10 (vd_1 (by omega)))
  have q_1_11 : 1 ≤ σ 1 1 0 11 ∧ σ 1 1 0 11 ≤ 9 := (fun h => h.2.2.2.2.2.1 (by omega) (by omega)) (hJ.1.1 1 1 0 11 (vd_1 (by omega)))
  have q_1_12 : 0 ≤ σ 1 1 0 12 ∧ σ 1 1 0 12 ≤ 9999 := (fun h => h.2.2.2.2.2.2 (by omega) (by omega)) (hJ.1.1 1 1 0 12 (vd_1 (by omega)))
  have q_1_13 : -2147483648 ≤ σ 1 1 0 13 ∧ σ 1 1 0 13 ≤ 2147483647 := (fun h => (by have q := h.1; omega)) (hJ.1.1 1 1 0 13 (vd_1 (by omega)))
  exact (s_92 p0 p1 ((σ 1 0 0 10)) ((σ 1 0 0 11)) ((σ 1 0 0 12)) (by omega) (by omega) (by omega) (by omega) (by omega) σ hJ.1.1 rfl rfl rfl).le (Nat.le_of_ble_eq_true rfl) (fun v σ' ⟨y, h1, h2, h3, h4⟩ => ⟨y, h1, σ, hJ, h3, h2, h4⟩)
theorem um_16 {xs : Nat × (Nat → Int32)} (p0 : Int) (p1 : Int) (hp0 : -2147483648 ≤ p0 ∧ p0 ≤ 2147483647) (hp1 : -2147483648 ≤ p1 ∧ p1 ≤ 2147483647) (z : Int) (σ' : ZS) (hP : PX_16 p0 p1 z σ') : CT xs 120 147 [av 35 0 0, iv p0, iv p1] σ' (fun v σ2 => ∃ y, v = some (iv y) ∧ (z = y) ∧ JR σ2) := by
  obtain ⟨σ, hJ, h3, h2, h4⟩ := hP
  have hR := hJ.2.1
  unfold R1 RC1 at hR
  have hJ' : JL σ' := hJ.1.fr h3 (fun t i k j q => by unfold MC at q; unfold wj; omega)
  have hN := hJ'.2.2.2
  unfold NB at hN
  have hI := hJ'.1
  have e_1_1_0_10 : σ' 1 1 0 10 = σ 1 1 0 10 := h3.2 1 1 0 10 (by unfold MC; omega)
  have e_1_1_0_11 : σ' 1 1 0 11 = σ 1 1 0 11 := h3.2 1 1 0 11 (by unfold MC; omega)
  have e_1_1_0_12 : σ' 1 1 0 12 = σ 1 1 0 12 := h3.2 1 1 0 12 (by unfold MC; omega)
  have e_0_0_0_3 : σ' 0 0 0 3 = σ 0 0 0 3 := h3.2 0 0 0 3 (by unfold MC; omega)
  have e_36_0_0_637 : σ' 36 0 0 637 = σ 36 0 0 637 := h3.2 36 0 0 637 (by unfold MC; omega)
  have e_36_0_0_638 : σ' 36 0 0 638 = σ 36 0 0 638 := h3.2 36 0 0 638 (by unfold MC; omega)
  have e_36_0_0_639 : σ' 36 0 0 639 = σ 36 0 0 639 := h3.2 36 0 0 639 (by unfold MC; omega)
  have e_36_0_2_637 : σ' 36 0 2 637 = σ 36 0 2 637 := h3.2 36 0 2 637 (by unfold MC; omega)
  have e_36_0_2_638 : σ' 36 0 2 638 = σ 36 0 2 638 := h3.2 36 0 2 638 (by unfold MC; omega)
  have e_36_0_2_639 : σ' 36 0 2 639 = σ 36 0 2 639 := h3.2 36 0 2 639 (by unfold MC; omega)
  have e_35_0_0_3 : σ' 35 0 0 3 = σ 35 0 0 3 := h3.2 35 0 0 3 (by unfold MC; omega)
  have p_641 : 0 ≤ σ' 36 0 0 641 ∧ σ' 36 0 0 641 ≤ 12 := (fun h => h.2.2.2.2.2.2.2.2.2.2.2.2.1 (by omega) (by omega)) (hI 36 0 0 641 (vd_36 (by omega)))
  have p_642 : 0 ≤ σ' 36 0 0 642 ∧ σ' 36 0 0 642 ≤ 6 := (fun h => h.2.2.2.2.2.2.2.2.2.2.2.2.2 (by omega) (by omega)) (hI 36 0 0 642 (vd_36 (by omega)))
  have p_637 : 0 ≤ σ' 36 0 0 637 ∧ σ' 36 0 0 637 ≤ 99 := (fun h => h.2.2.2.2.2.2.2.2.1 (by omega) (by omega)) (hI 36 0 0 637 (vd_36 (by omega)))
  have p_638 : 0 ≤ σ' 36 0 0 638 ∧ σ' 36 0 0 638 ≤ 9 := (fun h => h.2.2.2.2.2.2.2.2.2.1 (by omega) (by omega)) (hI 36 0 0 638 (vd_36 (by omega)))
  have p_639 : 0 ≤ σ' 36 0 0 639 ∧ σ' 36 0 0 639 ≤ 9999 := (fun h => h.2.2.2.2.2.2.2.2.2.2.1 (by omega) (by omega)) (hI 36 0 0 639 (vd_36 (by omega)))
  refine (r_147 p0 p1 ((σ' 36 0 0 637)) ((σ' 36 0 0 638)) ((σ' 36 0 0 639)) (by omega) (by omega) (by omega) (by omega) (by omega) σ' hI  rfl rfl rfl).le (Nat.le_of_ble_eq_true rfl) (fun v σ2 hq => ?_)
  obtain ⟨y, g1, g2, g3, g4⟩ := hq
  have f_1_0_0_10 : σ2 1 0 0 10 = σ' 1 0 0 10 := g3.2 1 0 0 10 (by unfold MJ; omega)
  have f_1_0_0_11 : σ2 1 0 0 11 = σ' 1 0 0 11 := g3.2 1 0 0 11 (by unfold MJ; omega)
  have f_1_0_0_12 : σ2 1 0 0 12 = σ' 1 0 0 12 := g3.2 1 0 0 12 (by unfold MJ; omega)
  have f_1_1_0_10 : σ2 1 1 0 10 = σ' 1 1 0 10 := g3.2 1 1 0 10 (by unfold MJ; omega)
  have f_1_1_0_11 : σ2 1 1 0 11 = σ' 1 1 0 11 := g3.2 1 1 0 11 (by unfold MJ; omega)
  have f_1_1_0_12 : σ2 1 1 0 12 = σ' 1 1 0 12 := g3.2 1 1 0 12 (by unfold MJ; omega)
  have f_0_0_0_3 : σ2 0 0 0 3 = σ' 0 0 0 3 := g3.2 0 0 0 3 (by unfold MJ; omega)
  have f_36_0_2_637 : σ2 36 0 2 637 = σ' 36 0 2 637 := g3.2 36 0 2 637 (by unfold MJ; omega)
  have f_36_0_2_638 : σ2 36 0 2 638 = σ' 36 0 2 638 := g3.2 36 0 2 638 (by unfold MJ; omega)
  have f_36_0_2_639 : σ2 36 0 2 639 = σ' 36 0 2 639 := g3.2 36 0 2 639 (by unfold MJ; omega)
  have f_35_0_0_3 : σ2 35 0 0 3 = σ' 35 0 0 3 := g3.2 35 0 0 3 (by unfold MJ; omega)
  have hv0 : (σ' 36 0 0 637) = (σ 1 0 0 10) := by clear h2 g2 h4 g4; omega
  have hv1 : (σ' 36 0 0 638) = (σ 1 0 0 11) := by clear h2 g2 h4 g4; omega
  have hv2 : (σ' 36 0 0 639) = (σ 1 0 0 12) := by clear h2 g2 h4 g4; omega
  have hz : z = y := by
    rw [hv0, hv1, hv2] at g2
    exact cs_4 h2 g2
  have k0 := h4.1
  have k1 := h4.2.1
  have k2 := h4.2.2.1
  have l0 := g4.1
  have l1 := g4.2.1
  have l2 := g4.2.2.1
  refine ⟨y, g1, hz, ?_, ?_, ?_⟩
  · exact hJ'.fr g3 (fun t i k j q => by unfold MJ at q; unfold wj; omega)
  · unfold R1 RC1
    clear h2 g2
    refine ⟨⟨(by omega), (by omega), (by omega)⟩, (by rw [f_0_0_0_3, f_35_0_0_3, e_0_0_0_3, e_35_0_0_3]; exact hR.2.1), fun q => ?_⟩
    have q' := hR.2.2 (by rw [← e_35_0_0_3, ← f_35_0_0_3]; exact q)
    exact ⟨(by rw [f_1_1_0_10, f_36_0_2_637, e_1_1_0_10, e_36_0_2_637]; exact q'.1), (by rw [f_1_1_0_11, f_36_0_2_638, e_1_1_0_11, e_36_0_2_638]; exact q'.2.1), (by rw [f_1_1_0_12, f_36_0_2_639, e_1_1_0_12, e_36_0_2_639]; exact q'.2.2)⟩
  · exact (hJ.2.2.fr h3 (fun t i k j q => by unfold MC at q; unfold rwx; omega)).fr g3 (fun t i k j q => by unfold MJ at q; unfold rwx; omega)
def PX_5 (p0 : Int) (y : Int) (σ' : ZS) : Prop := ∃ σ, JR σ ∧ IF (MI 0 11 12 13 28) σ σ' ∧ ((y = -1 ∧ (¬ (0 ≤ p0 ∧ p0 ≤ 24))) ∨ (y = -6 ∧ ¬ (¬ (0 ≤ p0 ∧ p0 ≤ 24)) ∧ ((0 < (σ 11 0 0 0) ∧ (σ 12 0 0 0) = p0) ∨ (1 < (σ 11 0 0 0) ∧ (σ 12 0 0 1) = p0) ∨ (2 < (σ 11 0 0 0) ∧ (σ 12 0 0 2) = p0))) ∨ (y = -7 ∧ ¬ (¬ (0 ≤ p0 ∧ p0 ≤ 24)) ∧ ¬ ((0 < (σ 11 0 0 0) ∧ (σ 12 0 0 0) = p0) ∨ (1 < (σ 11 0 0 0) ∧ (σ 12 0 0 1) = p0) ∨ (2 < (σ 11 0 0 0) ∧ (σ 12 0 0 2) = p0)) ∧ ((σ 11 0 0 0) = 3)) ∨ (y = (σ 11 0 0 0) ∧ ¬ (¬ (0 ≤ p0 ∧ p0 ≤ 24)) ∧ ¬ ((0 < (σ 11 0 0 0) ∧ (σ 12 0 0 0) = p0) ∨ (1 < (σ 11 0 0 0) ∧ (σ 12 0 0 1) = p0) ∨ (2 < (σ 11 0 0 0) ∧ (σ 12 0 0 2) = p0)) ∧ ¬ ((σ 11 0 0 0) = 3))) ∧ (((y < 0 → σ' 11 0 0 0 = (σ 11 0 0 0)) ∧ (0 ≤ y → σ' 11 0 0 0 = (σ 11 0 0 0) + 1)) ∧ ((0 < (σ 11 0 0 0) → σ' 12 0 0 0 = (σ 12 0 0 0)) ∧ (y = 0 → σ' 12 0 0 0 = p0)) ∧ ((1 < (σ 11 0 0 0) → σ' 12 0 0 1 = (σ 12 0 0 1)) ∧ (y = 1 → σ' 12 0 0 1 = p0)) ∧ ((2 < (σ 11 0 0 0) → σ' 12 0 0 2 = (σ 12 0 0 2)) ∧ (y = 2 → σ' 12 0 0 2 = p0)) ∧ True)
theorem ux_5 {xs : Nat × (Nat → Int32)} (p0 : Int) (hp0 : -2147483648 ≤ p0 ∧ p0 ≤ 2147483647) (σ : ZS) (hJ : JR σ) : CT xs 120 81 [av 0 0 0, iv p0] σ (fun v σ' => ∃ y, v = some (iv y) ∧ PX_5 p0 y σ') := by
  have hN := hJ.1.2.2.2
  unfold NB at hN
  have hR := hJ.2.1
  unfold R1 RC1 at hR
  have n_0 : 0 ≤ σ 11 0 0 0 ∧ σ 11 0 0 0 ≤ 3 := (fun h => h.2 (by omega) (by omega)) (hJ.1.1 11 0 0 0 (vd_11 (by omega)))
  have x0_0 : 0 ≤ σ 12 0 0 0 ∧ σ 12 0 0 0 ≤ 24 := (fun h => h.2 (by omega) (by omega)) (hJ.1.1 12 0 0 0 (vd_12 (by omega)))
  have x1_0 : 0 ≤ σ 12 0 0 1 ∧ σ 12 0 0 1 ≤ 24 := (fun h => h.2 (by omega) (by omega)) (hJ.1.1 12 0 0 1 (vd_12 (by omega)))
  have x2_0 : 0 ≤ σ 12 0 0 2 ∧ σ 12 0 0 2 ≤ 24 := (fun h => h.2 (by omega) (by omega)) (hJ.1.1 12 0 0 2 (vd_12 (by omega)))
  exact (s_81u p0 ((σ 11 0 0 0)) ((σ 12 0 0 0)) ((σ 12 0 0 1)) ((σ 12 0 0 2)) (by omega) (by omega) (by omega) (by omega) (by omega) σ hJ.1.1 rfl rfl rfl rfl).le (Nat.le_of_ble_eq_true rfl) (fun v σ' ⟨y, h1, h2, h3, h4⟩ => ⟨y, h1, σ, hJ, h3, h2, h4⟩)
theorem um_5 {xs : Nat × (Nat → Int32)} (p0 : Int) (hp0 : -2147483648 ≤ p0 ∧ p0 ≤ 2147483647) (z : Int) (σ' : ZS) (hP : PX_5 p0 z σ') : CT xs 120 133 [av 35 0 0, iv p0] σ' (fun v σ2 => ∃ y, v = some (iv y) ∧ (z = y) ∧ JR σ2) := by
  obtain ⟨σ, hJ, h3, h2, h4⟩ := hP
  have hR := hJ.2.1
  unfold R1 RC1 at hR
  have hJ' : JL σ' := hJ.1.fr h3 (fun t i k j q => by unfold MI at q; unfold wj; omega)
  have hN := hJ'.2.2.2
  unfold NB at hN
  have hI := hJ'.1
  have e_1_0_0_10 : σ' 1 0 0 10 = σ 1 0 0 10 := h3.2 1 0 0 10 (by unfold MI; omega)
  have e_1_0_0_11 : σ' 1 0 0 11 = σ 1 0 0 11 := h3.2 1 0 0 11 (by unfold MI; omega)
  have e_1_0_0_12 : σ' 1 0 0 12 = σ 1 0 0 12 := h3.2 1 0 0 12 (by unfold MI; omega)
  have e_1_1_0_10 : σ' 1 1 0 10 = σ 1 1 0 10 := h3.2 1 1 0 10 (by unfold MI; omega)
  have e_1_1_0_11 : σ' 1 1 0 11 = σ 1 1 0 11 := h3.2 1 1 0 11 (by unfold MI; omega)
  have e_1_1_0_12 : σ' 1 1 0 12 = σ 1 1 0 12 := h3.2 1 1 0 12 (by unfold MI; omega)
  have e_0_0_0_3 : σ' 0 0 0 3 = σ 0 0 0 3 := h3.2 0 0 0 3 (by unfold MI; omega)
  have e_36_0_0_637 : σ' 36 0 0 637 = σ 36 0 0 637 := h3.2 36 0 0 637 (by unfold MI; omega)
  have e_36_0_0_638 : σ' 36 0 0 638 = σ 36 0 0 638 := h3.2 36 0 0 638 (by unfold MI; omega)
  have e_36_0_0_639 : σ' 36 0 0 639 = σ 36 0 0 639 := h3.2 36 0 0 639 (by unfold MI; omega)
  have e_36_0_2_637 : σ' 36 0 2 637 = σ 36 0 2 637 := h3.2 36 0 2 637 (by unfold MI; omega)
  have e_36_0_2_638 : σ' 36 0 2 638 = σ 36 0 2 638 := h3.2 36 0 2 638 (by unfold MI; omega)
  have e_36_0_2_639 : σ' 36 0 2 639 = σ 36 0 2 639 := h3.2 36 0 2 639 (by unfold MI; omega)
  have e_35_0_0_3 : σ' 35 0 0 3 = σ 35 0 0 3 := h3.2 35 0 0 3 (by unfold MI; omega)
  have p_641 : 0 ≤ σ' 36 0 0 641 ∧ σ' 36 0 0 641 ≤ 12 := (fun h => h.2.2.2.2.2.2.2.2.2.2.2.2.1 (by omega) (by omega)) (hI 36 0 0 641 (vd_36 (by omega)))
  have p_642 : 0 ≤ σ' 36 0 0 642 ∧ σ' 36 0 0 642 ≤ 6 := (fun h => h.2.2.2.2.2.2.2.2.2.2.2.2.2 (by omega) (by omega)) (hI 36 0 0 642 (vd_36 (by omega)))
  have p_637 : 0 ≤ σ' 36 0 0 637 ∧ σ' 36 0 0 637 ≤ 99 := (fun h => h.2.2.2.2.2.2.2.2.1 (by omega) (by omega)) (hI 36 0 0 637 (vd_36 (by omega)))
  have p_638 : 0 ≤ σ' 36 0 0 638 ∧ σ' 36 0 0 638 ≤ 9 := (fun h => h.2.2.2.2.2.2.2.2.2.1 (by omega) (by omega)) (hI 36 0 0 638 (vd_36 (by omega)))
  have p_639 : 0 ≤ σ' 36 0 0 639 ∧ σ' 36 0 0 639 ≤ 9999 := (fun h => h.2.2.2.2.2.2.2.2.2.2.1 (by omega) (by omega)) (hI 36 0 0 639 (vd_36 (by omega)))
  have n_0 : 0 ≤ σ 11 0 0 0 ∧ σ 11 0 0 0 ≤ 3 := (fun h => h.2 (by omega) (by omega)) (hJ.1.1 11 0 0 0 (vd_11 (by omega)))
  have x0_0 : 0 ≤ σ 12 0 0 0 ∧ σ 12 0 0 0 ≤ 24 := (fun h => h.2 (by omega) (by omega)) (hJ.1.1 12 0 0 0 (vd_12 (by omega)))
  have x1_0 : 0 ≤ σ 12 0 0 1 ∧ σ 12 0 0 1 ≤ 24 := (fun h => h.2 (by omega) (by omega)) (hJ.1.1 12 0 0 1 (vd_12 (by omega)))
  have x2_0 : 0 ≤ σ 12 0 0 2 ∧ σ 12 0 0 2 ≤ 24 := (fun h => h.2 (by omega) (by omega)) (hJ.1.1 12 0 0 2 (vd_12 (by omega)))
  have rm := hJ.2.2.1
  unfold RMo at rm
  have e_r0633 : σ' 36 0 0 633 = σ 36 0 0 633 := h3.2 36 0 0 633 (by unfold MI; omega)
  have e_r0250 : σ' 36 0 0 250 = σ 36 0 0 250 := h3.2 36 0 0 250 (by unfold MI; omega)
  have e_r0251 : σ' 36 0 0 251 = σ 36 0 0 251 := h3.2 36 0 0 251 (by unfold MI; omega)
  have e_r0252 : σ' 36 0 0 252 = σ 36 0 0 252 := h3.2 36 0 0 252 (by unfold MI; omega)
  have p_633 : 0 ≤ σ' 36 0 0 633 ∧ σ' 36 0 0 633 ≤ 3 := (fun h => h.2.2.2.2.2.1 (by omega) (by omega)) (hI 36 0 0 633 (vd_36 (by omega)))
  have p_250 : 0 ≤ σ' 36 0 0 250 ∧ σ' 36 0 0 250 ≤ 24 := (fun h => h.2.1 (by omega) (by omega)) (hI 36 0 0 250 (vd_36 (by omega)))
  have p_251 : 0 ≤ σ' 36 0 0 251 ∧ σ' 36 0 0 251 ≤ 24 := (fun h => h.2.1 (by omega) (by omega)) (hI 36 0 0 251 (vd_36 (by omega)))
  have p_252 : 0 ≤ σ' 36 0 0 252 ∧ σ' 36 0 0 252 ≤ 24 := (fun h => h.2.1 (by omega) (by omega)) (hI 36 0 0 252 (vd_36 (by omega)))
  refine (r_133u p0 ((σ' 36 0 0 633)) ((σ' 36 0 0 250)) ((σ' 36 0 0 251)) ((σ' 36 0 0 252)) (by omega) (by omega) (by omega) (by omega) (by omega) σ' hI  rfl rfl rfl rfl).le (Nat.le_of_ble_eq_true rfl) (fun v σ2 hq => ?_)
  obtain ⟨y, g1, g2, g3, g4⟩ := hq
  have f_1_0_0_10 : σ2 1 0 0 10 = σ' 1 0 0 10 := g3.2 1 0 0 10 (by unfold MK; omega)
  have f_1_0_0_11 : σ2 1 0 0 11 = σ' 1 0 0 11 := g3.2 1 0 0 11 (by unfold MK; omega)
  have f_1_0_0_12 : σ2 1 0 0 12 = σ' 1 0 0 12 := g3.2 1 0 0 12 (by unfold MK; omega)
  have f_1_1_0_10 : σ2 1 1 0 10 = σ' 1 1 0 10 := g3.2 1 1 0 10 (by unfold MK; omega)
  have f_1_1_0_11 : σ2 1 1 0 11 = σ' 1 1 0 11 := g3.2 1 1 0 11 (by unfold MK; omega)
  have f_1_1_0_12 : σ2 1 1 0 12 = σ' 1 1 0 12 := g3.2 1 1 0 12 (by unfold MK; omega)
  have f_0_0_0_3 : σ2 0 0 0 3 = σ' 0 0 0 3 := g3.2 0 0 0 3 (by unfold MK; omega)
  have f_36_0_0_637 : σ2 36 0 0 637 = σ' 36 0 0 637 := g3.2 36 0 0 637 (by unfold MK; omega)
  have f_36_0_0_638 : σ2 36 0 0 638 = σ' 36 0 0 638 := g3.2 36 0 0 638 (by unfold MK; omega)
  have f_36_0_0_639 : σ2 36 0 0 639 = σ' 36 0 0 639 := g3.2 36 0 0 639 (by unfold MK; omega)
  have f_36_0_2_637 : σ2 36 0 2 637 = σ' 36 0 2 637 := g3.2 36 0 2 637 (by unfold MK; omega)
  have f_36_0_2_638 : σ2 36 0 2 638 = σ' 36 0 2 638 := g3.2 36 0 2 638 (by unfold MK; omega)
  have f_36_0_2_639 : σ2 36 0 2 639 = σ' 36 0 2 639 := g3.2 36 0 2 639 (by unfold MK; omega)
  have f_35_0_0_3 : σ2 35 0 0 3 = σ' 35 0 0 3 := g3.2 35 0 0 3 (by unfold MK; omega)
  have hn4 : σ 11 0 0 0 = 0 ∨ σ 11 0 0 0 = 1 ∨ σ 11 0 0 0 = 2 ∨ σ 11 0 0 0 = 3 := by omega
  have hn1 : σ' 36 0 0 633 = σ 11 0 0 0 := by clear h2 g2 h4 g4; omega
  have hD : ((0 < (σ' 36 0 0 633) ∧ (σ' 36 0 0 250) = p0) ∨ (1 < (σ' 36 0 0 633) ∧ (σ' 36 0 0 251) = p0) ∨ (2 < (σ' 36 0 0 633) ∧ (σ' 36 0 0 252) = p0)) ↔ ((0 < (σ 11 0 0 0) ∧ (σ 12 0 0 0) = p0) ∨ (1 < (σ 11 0 0 0) ∧ (σ 12 0 0 1) = p0) ∨ (2 < (σ 11 0 0 0) ∧ (σ 12 0 0 2) = p0)) := by
    clear h2 g2 h4 g4 hN hR
    constructor <;> intro q <;> rcases q with q | q | q <;> omega
  have hz : z = y := by
    rw [hD, hn1] at g2
    exact cs_4 h2 g2
  have k0 := h4.1
  have k1 := h4.2.1
  have k2 := h4.2.2.1
  have k3 := h4.2.2.2.1
  have l0 := g4.1
  have l1 := g4.2.1
  have l2 := g4.2.2.1
  have l3 := g4.2.2.2.1
  refine ⟨y, g1, hz, ?_, ?_, ?_⟩
  · exact hJ'.fr g3 (fun t i k j q => by unfold MK at q; unfold wj; omega)
  · unfold R1 RC1
    clear h2 g2
    refine ⟨⟨(by rw [f_1_0_0_10, f_36_0_0_637, e_1_0_0_10, e_36_0_0_637]; exact hR.1.1), (by rw [f_1_0_0_11, f_36_0_0_638, e_1_0_0_11, e_36_0_0_638]; exact hR.1.2.1), (by rw [f_1_0_0_12, f_36_0_0_639, e_1_0_0_12, e_36_0_0_639]; exact hR.1.2.2)⟩, (by rw [f_0_0_0_3, f_35_0_0_3, e_0_0_0_3, e_35_0_0_3]; exact hR.2.1), fun q => ?_⟩
    have q' := hR.2.2 (by rw [← e_35_0_0_3, ← f_35_0_0_3]; exact q)
    exact ⟨(by rw [f_1_1_0_10, f_36_0_2_637, e_1_1_0_10, e_36_0_2_637]; exact q'.1), (by rw [f_1_1_0_11, f_36_0_2_638, e_1_1_0_11, e_36_0_2_638]; exact q'.2.1), (by rw [f_1_1_0_12, f_36_0_2_639, e_1_1_0_12, e_36_0_2_639]; exact q'.2.2)⟩
  · skip
    have hy : z < 0 ∨ z = σ 11 0 0 0 := by
      rcases h2 with q | q | q | q
      · exact Or.inl (by rw [q.1]; decide)
      · exact Or.inl (by rw [q.1]; decide)
      · exact Or.inl (by rw [q.1]; decide)
      · exact Or.inr q.1
    clear h2 g2 h4 g4
    have f_n0 : σ2 11 0 0 0 = σ' 11 0 0 0 := g3.2 11 0 0 0 (by unfold MK; omega)
    have f_x00 : σ2 12 0 0 0 = σ' 12 0 0 0 := g3.2 12 0 0 0 (by unfold MK; omega)
    have f_x01 : σ2 12 0 0 1 = σ' 12 0 0 1 := g3.2 12 0 0 1 (by unfold MK; omega)
    have f_x02 : σ2 12 0 0 2 = σ' 12 0 0 2 := g3.2 12 0 0 2 (by unfold MK; omega)
    refine ⟨?_, fun q => ?_⟩
    · unfold RMo
      obtain ⟨r0, r1, r2, r3⟩ := rm
      refine ⟨?_, fun q => ?_, fun q => ?_, fun q => ?_⟩
      · rcases hy with h | h
        · have a := k0.1 h; have b := l0.1 (hz ▸ h); clear k0 k1 k2 k3 l0 l1 l2 l3 r1 r2 r3; omega
        · have a := k0.2 (by clear k0 k1 k2 k3 l0 l1 l2 l3 r1 r2 r3; omega); have b := l0.2 (by clear k0 k1 k2 k3 l0 l1 l2 l3 r1 r2 r3; omega); clear k0 k1 k2 k3 l0 l1 l2 l3 r1 r2 r3; omega
      · have hq : 0 < σ 11 0 0 0 ∨ z = 0 := by
          rcases hy with h | h
          · have b := l0.1 (hz ▸ h); clear k0 k1 k2 k3 l0 l1 l2 l3 r1 r2 r3; omega
          · have b := l0.2 (by clear k0 k1 k2 k3 l0 l1 l2 l3 r1 r2 r3; omega); clear k0 k1 k2 k3 l0 l1 l2 l3 r1 r2 r3; omega
        rcases hq with c | c
        · have a := k1.1 c; have b := l1.1 (by rw [hn1]; exact c); have e := r1 (by rw [← r0]; exact c); clear k0 k1 k2 k3 l0 l1 l2 l3 r1 r2 r3; omega
        · have a := k1.2 c; have b := l1.2 (hz ▸ c); clear k0 k1 k2 k3 l0 l1 l2 l3 r1 r2 r3; omega
      · have hq : 1 < σ 11 0 0 0 ∨ z = 1 := by
          rcases hy with h | h
          · have b := l0.1 (hz ▸ h); clear k0 k1 k2 k3 l0 l1 l2 l3 r1 r2 r3; omega
          · have b := l0.2 (by clear k0 k1 k2 k3 l0 l1 l2 l3 r1 r2 r3; omega); clear k0 k1 k2 k3 l0 l1 l2 l3 r1 r2 r3; omega
        rcases hq with c | c
        · have a := k2.1 c; have b := l2.1 (by rw [hn1]; exact c); have e := r2 (by rw [← r0]; exact c); clear k0 k1 k2 k3 l0 l1 l2 l3 r1 r2 r3; omega
        · have a := k2.2 c; have b := l2.2 (hz ▸ c); clear k0 k1 k2 k3 l0 l1 l2 l3 r1 r2 r3; omega
      · have hq : 2 < σ 11 0 0 0 ∨ z = 2 := by
          rcases hy with h | h
          · have b := l0.1 (hz ▸ h); clear k0 k1 k2 k3 l0 l1 l2 l3 r1 r2 r3; omega
          · have b := l0.2 (by clear k0 k1 k2 k3 l0 l1 l2 l3 r1 r2 r3; omega); clear k0 k1 k2 k3 l0 l1 l2 l3 r1 r2 r3; omega
        rcases hq with c | c
        · have a := k3.1 c; have b := l3.1 (by rw [hn1]; exact c); have e := r3 (by rw [← r0]; exact c); clear k0 k1 k2 k3 l0 l1 l2 l3 r1 r2 r3; omega
        · have a := k3.2 c; have b := l3.2 (hz ▸ c); clear k0 k1 k2 k3 l0 l1 l2 l3 r1 r2 r3; omega
    · exact (hJ.2.2.2 (by omega)).eq ((g3.2 11 1 0 0 (by unfold MK; omega)).trans (h3.2 11 1 0 0 (by unfold MI; omega))) (fun q hq => (g3.2 12 1 0 q (by unfold MK; omega)).trans (h3.2 12 1 0 q (by unfold MI; omega))) (fun j hj => (g3.2 36 0 2 j (by unfold MK; omega)).trans (h3.2 36 0 2 j (by unfold MI; omega)))
