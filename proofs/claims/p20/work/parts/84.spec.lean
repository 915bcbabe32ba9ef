theorem cs_3 {y z v1 v2 v3 : Int} {c1 c2 : Prop} (h : (y = v1 ∧ (c1)) ∨ (y = v2 ∧ ¬ (c1) ∧ (c2)) ∨ (y = v3 ∧ ¬ (c1) ∧ ¬ (c2))) (g : (z = v1 ∧ (c1)) ∨ (z = v2 ∧ ¬ (c1) ∧ (c2)) ∨ (z = v3 ∧ ¬ (c1) ∧ ¬ (c2))) : y = z := by
  rcases h with ⟨a, a1⟩ | ⟨a, a1, a2⟩ | ⟨a, a1, a2⟩
  · rcases g with ⟨b, b1⟩ | ⟨b, b1, b2⟩ | ⟨b, b1, b2⟩
    · exact a.trans b.symm
    · exact absurd a1 b1
    · exact absurd a1 b1
  · rcases g with ⟨b, b1⟩ | ⟨b, b1, b2⟩ | ⟨b, b1, b2⟩
    · exact absurd b1 a1
    · exact a.trans b.symm
    · exact absurd a2 b2
  · rcases g with ⟨b, b1⟩ | ⟨b, b1, b2⟩ | ⟨b, b1, b2⟩
    · exact absurd b1 a1
    · exact absurd b2 a2
    · exact a.trans b.symm
theorem cs_4 {y z v1 v2 v3 v4 : Int} {c1 c2 c3 : Prop} (h : (y = v1 ∧ (c1)) ∨ (y = v2 ∧ ¬ (c1) ∧ (c2)) ∨ (y = v3 ∧ ¬ (c1) ∧ ¬ (c2) ∧ (c3)) ∨ (y = v4 ∧ ¬ (c1) ∧ ¬ (c2) ∧ ¬ (c3))) (g : (z = v1 ∧ (c1)) ∨ (z = v2 ∧ ¬ (c1) ∧ (c2)) ∨ (z = v3 ∧ ¬ (c1) ∧ ¬ (c2) ∧ (c3)) ∨ (z = v4 ∧ ¬ (c1) ∧ ¬ (c2) ∧ ¬ (c3))) : y = z := by
  rcases h with ⟨a, a1⟩ | ⟨a, a1, a2⟩ | ⟨a, a1, a2, a3⟩ | ⟨a, a1, a2, a3⟩
  · rcases g with ⟨b, b1⟩ | ⟨b, b1, b2⟩ | ⟨b, b1, b2, b3⟩ | ⟨b, b1, b2, b3⟩
    · exact a.trans b.symm
    · exact absurd a1 b1
    · exact absurd a1 b1
    · exact absurd a1 b1
  · rcases g with ⟨b, b1⟩ | ⟨b, b1, b2⟩ | ⟨b, b1, b2, b3⟩ | ⟨b, b1, b2, b3⟩
    · exact absurd b1 a1
    · exact a.trans b.symm
    · exact absurd a2 b2
    · exact absurd a2 b2
  · rcases g with ⟨b, b1⟩ | ⟨b, b1, b2⟩ | ⟨b, b1, b2, b3⟩ | ⟨b, b1, b2, b3⟩
    · exact absurd b1 a1
    · exact absurd b2 a2
    · exact a.trans b.symm
    · exact absurd a3 b3
  · rcases g with ⟨b, b1⟩ | ⟨b, b1, b2⟩ | ⟨b, b1, b2, b3⟩ | ⟨b, b1, b2, b3⟩
    · exact absurd b1 a1
    · exact absurd b2 a2
    · exact absurd b3 a3
    · exact a.trans b.symm
theorem cs_5 {y z v1 v2 v3 v4 v5 : Int} {c1 c2 c3 c4 : Prop} (h : (y = v1 ∧ (c1)) ∨ (y = v2 ∧ ¬ (c1) ∧ (c2)) ∨ (y = v3 ∧ ¬ (c1) ∧ ¬ (c2) ∧ (c3)) ∨ (y = v4 ∧ ¬ (c1) ∧ ¬ (c2) ∧ ¬ (c3) ∧ (c4)) ∨ (y = v5 ∧ ¬ (c1) ∧ ¬ (c2) ∧ ¬ (c3) ∧ ¬ (c4))) (g : (z = v1 ∧ (c1)) ∨ (z = v2 ∧ ¬ (c1) ∧ (c2)) ∨ (z = v3 ∧ ¬ (c1) ∧ ¬ (c2) ∧ (c3)) ∨ (z = v4 ∧ ¬ (c1) ∧ ¬ (c2) ∧ ¬ (c3) ∧ (c4)) ∨ (z = v5 ∧ ¬ (c1) ∧ ¬ (c2) ∧ ¬ (c3) ∧ ¬ (c4))) : y = z := by
  rcases h with ⟨a, a1⟩ | ⟨a, a1, a2⟩ | ⟨a, a1, a2, a3⟩ | ⟨a, a1, a2, a3, a4⟩ | ⟨a, a1, a2, a3, a4⟩
  · rcases g with ⟨b, b1⟩ | ⟨b, b1, b2⟩ | ⟨b, b1, b2, b3⟩ | ⟨b, b1, b2, b3, b4⟩ | ⟨b, b1, b2, b3, b4⟩
    · exact a.trans b.symm
    · exact absurd a1 b1
    · exact absurd a1 b1
    · exact absurd a1 b1
    · exact absurd a1 b1
  · rcases g with ⟨b, b1⟩ | ⟨b, b1, b2⟩ | ⟨b, b1, b2, b3⟩ | ⟨b, b1, b2, b3, b4⟩ | ⟨b, b1, b2, b3, b4⟩
    · exact absurd b1 a1
    · exact a.trans b.symm
    · exact absurd a2 b2
    · exact absurd a2 b2
    · exact absurd a2 b2
  · rcases g with ⟨b, b1⟩ | ⟨b, b1, b2⟩ | ⟨b, b1, b2, b3⟩ | ⟨b, b1, b2, b3, b4⟩ | ⟨b, b1, b2, b3, b4⟩
    · exact absurd b1 a1
    · exact absurd b2 a2
    · exact a.trans b.symm
    · exact absurd a3 b3
    · exact absurd a3 b3
  · rcases g with ⟨b, b1⟩ | ⟨b, b1, b2⟩ | ⟨b, b1, b2, b3⟩ | ⟨b, b1, b2, b3, b4⟩ | ⟨b, b1, b2, b3, b4⟩
    · exact absurd b1 a1
    · exact absurd b2 a2
    · exact absurd b3 a3
    · exact a.trans b.symm
    · exact absurd a4 b4
  · rcases g with ⟨b, b1⟩ | ⟨b, b1, b2⟩ | ⟨b, b1, b2, b3⟩ | ⟨b, b1, b2, b3, b4⟩ | ⟨b, b1, b2, b3, b4⟩
    · exact absurd b1 a1
    · exact absurd b2 a2
    · exact absurd b3 a3
    · exact absurd b4 a4
    · exact a.trans b.symm
def PX_33  (y : Int) (σ' : ZS) : Prop := ∃ σ, JR σ ∧ IF MIg σ σ' ∧ (y = (σ 1 0 0 13)) ∧ (σ' 1 1 0 5 = (σ 1 0 0 5) ∧ σ' 1 1 0 6 = (σ 1 0 0 6) ∧ σ' 1 1 0 7 = (σ 1 0 0 7) ∧ σ' 1 1 0 10 = (σ 1 0 0 10) ∧ σ' 1 1 0 11 = (σ 1 0 0 11) ∧ σ' 1 1 0 12 = (σ 1 0 0 12) ∧ σ' 1 1 0 13 = (σ 1 0 0 13) ∧ σ' 0 0 0 3 = 1 ∧ True)
theorem ux_33 {xs : Nat × (Nat → Int32)}   (σ : ZS) (hJ : JR σ) : CT xs 120 108 [av 0 0 0] σ (fun v σ' => ∃ y, v = some (iv y) ∧ PX_33  y σ') := by
  have hN := hJ.1.2.2.2
  unfold NB at hN
  have hR := hJ.2.1
  unfold R1 RC1 at hR
  have q_0_6 : 0 ≤ σ 1 0 0 6 ∧ σ 1 0 0 6 ≤ 12 := (fun h => h.2.2.1 (by omega) (by omega)) (hJ.1.1 1 0 0 6 (vd_1 (by omega)))
  have q_0_7 : 0 ≤ σ 1 0 0 7 ∧ σ 1 0 0 7 ≤ 6 := (fun h => h.2.2.2.1 (by omega) (by omega)) (hJ.1.1 1 0 0 7 (vd_1 (by omega)))
  have q_0_10 : 0 ≤ σ 1 0 0 10 ∧ σ 1 0 0 10 ≤ 99 := (fun h => h.2.2.2.2.1 (by omega) (by omega)) (hJ.1.1 1 0 0 10 (vd_1 (by omega)))
  have q_0_11 : 1 ≤ σ 1 0 0 11 ∧ σ 1 0 0 11 ≤ 9 := (fun h => h.2.2.2.2.2.1 (by omega) (by omega)) (hJ.1.1 1 0 0 11 (vd_1 (by omega)))
  have q_0_12 : 0 ≤ σ 1 0 0 12 ∧ σ 1 0 0 12 ≤ 9999 := (fun h => h.2.2.2.2.2.2 (by omega) (by omega)) (hJ.1.1 1 0 0 12 (vd_1 (by omega)))
  have q_0_13 : -2147483648 ≤ σ 1 0 0 13 ∧ σ 1 0 0 13 ≤ 2147483647 := (fun h => (by have q := h.1; omega)) (hJ.1.1 1 0 0 13 (vd_1 (by omega)))
  have q_1_6 : 0 ≤ σ 1 1 0 6 ∧ σ 1 1 0 6 ≤ 12 := (fun h => h.2.2.1 (by omega) (by omega)) (hJ.1.1 1 1 0 6 (vd_1 (by omega)))
  have q_1_7 : 0 ≤ σ 1 1 0 7 ∧ σ 1 1 0 7 ≤ 6 := (fun h => h.2.2.2.1 (by omega) (by omega)) (hJ.1.1 1 1 0 7 (vd_1 (by omega)))
  have q_1_10 : 0 ≤ σ 1 1 0 10 ∧ σ 1 1 0 10 ≤ 99 := (fun h => h.2.2.2.2.1 (by omega) (by omega)) (hJ.1.1 1 1 0 10 (vd_1 (by omega)))
  have q_1_11 : 1 ≤ σ 1 1 0 11 ∧ σ 1 1 0 11 ≤ 9 := (fun h => h.2.2.2.2.2.1 (by omega) (by omega)) (hJ.1.1 1 1 0 11 (vd_1 (by omega)))
  have q_1_12 : 0 ≤ σ 1 1 0 12 ∧ σ 1 1 0 12 ≤ 9999 := (fun h => h.2.2.2.2.2.2 (by omega) (by omega)) (hJ.1.1 1 1 0 12 (vd_1 (by omega)))
  have q_1_13 : -2147483648 ≤ σ 1 1 0 13 ∧ σ 1 1 0 13 ≤ 2147483647 := (fun h => (by have q := h.1; omega)) (hJ.1.1 1 1 0 13 (vd_1 (by omega)))
  have cn : 0 ≤ σ 1 0 0 5 ∧ σ 1 0 0 5 ≤ 5 := (fun h => h.2.1 (by omega) (by omega)) (hJ.1.1 1 0 0 5 (vd_1 (by omega)))
  exact (s_108l ((σ 1 0 0 6)) ((σ 1 0 0 7)) ((σ 1 0 0 10)) ((σ 1 0 0 11)) ((σ 1 0 0 12)) ((σ 1 0 0 13)) ((σ 1 0 0 5)) (by omega) (by omega) (by omega) (by omega) (by omega) (by omega) (by omega) σ hJ.1.1 rfl rfl rfl rfl rfl rfl rfl).le (Nat.le_of_ble_eq_true rfl) (fun v σ' ⟨y, h1, h2, h3, h4⟩ => ⟨y, h1, σ, hJ, h3, h2, h4⟩)
theorem um_33 {xs : Nat × (Nat → Int32)}   (z : Int) (σ' : ZS) (hP : PX_33  z σ') : CT xs 120 184 [av 35 0 0] σ' (fun v σ2 => ∃ y, v = some (iv y) ∧ (True) ∧ JR σ2) := by
  obtain ⟨σ, hJ, h3, h2, h4⟩ := hP
  have hR := hJ.2.1
  unfold R1 RC1 at hR
  have hJ' : JL σ' := hJ.1.fr h3 (fun t i k j q => by unfold MIg at q; unfold wj; omega)
  have hN := hJ'.2.2.2
  unfold NB at hN
  have hI := hJ'.1
  have e_1_0_0_6 : σ' 1 0 0 6 = σ 1 0 0 6 := h3.2 1 0 0 6 (by unfold MIg; omega)
  have e_1_0_0_5 : σ' 1 0 0 5 = σ 1 0 0 5 := h3.2 1 0 0 5 (by unfold MIg; omega)
  have e_36_0_0_641 : σ' 36 0 0 641 = σ 36 0 0 641 := h3.2 36 0 0 641 (by unfold MIg; omega)
  have e_36_0_0_640 : σ' 36 0 0 640 = σ 36 0 0 640 := h3.2 36 0 0 640 (by unfold MIg; omega)
  have e_36_0_2_641 : σ' 36 0 2 641 = σ 36 0 2 641 := h3.2 36 0 2 641 (by unfold MIg; omega)
  have e_36_0_2_640 : σ' 36 0 2 640 = σ 36 0 2 640 := h3.2 36 0 2 640 (by unfold MIg; omega)
  have e_35_0_0_3 : σ' 35 0 0 3 = σ 35 0 0 3 := h3.2 35 0 0 3 (by unfold MIg; omega)
  have p_641 : 0 ≤ σ' 36 0 0 641 ∧ σ' 36 0 0 641 ≤ 12 := (fun h => h.2.2.2.2.2.2.2.2.2.2.2.2.1 (by omega) (by omega)) (hI 36 0 0 641 (vd_36 (by omega)))
  have p_642 : 0 ≤ σ' 36 0 0 642 ∧ σ' 36 0 0 642 ≤ 6 := (fun h => h.2.2.2.2.2.2.2.2.2.2.2.2.2 (by omega) (by omega)) (hI 36 0 0 642 (vd_36 (by omega)))
  have p_637 : 0 ≤ σ' 36 0 0 637 ∧ σ' 36 0 0 637 ≤ 99 := (fun h => h.2.2.2.2.2.2.2.2.1 (by omega) (by omega)) (hI 36 0 0 637 (vd_36 (by omega)))
  have p_638 : 0 ≤ σ' 36 0 0 638 ∧ σ' 36 0 0 638 ≤ 9 := (fun h => h.2.2.2.2.2.2.2.2.2.1 (by omega) (by omega)) (hI 36 0 0 638 (vd_36 (by omega)))
  have p_639 : 0 ≤ σ' 36 0 0 639 ∧ σ' 36 0 0 639 ≤ 9999 := (fun h => h.2.2.2.2.2.2.2.2.2.2.1 (by omega) (by omega)) (hI 36 0 0 639 (vd_36 (by omega)))
  refine (r_184 ((σ' 36 0 0 634)) (by omega) σ' hI  rfl).le (Nat.le_of_ble_eq_true rfl) (fun v σ2 hq => ?_)
  obtain ⟨y, g1, g2, g3, g4⟩ := hq
  have f_1_0_0_6 : σ2 1 0 0 6 = σ' 1 0 0 6 := g3.2 1 0 0 6 (by unfold MIm; omega)
  have f_1_0_0_5 : σ2 1 0 0 5 = σ' 1 0 0 5 := g3.2 1 0 0 5 (by unfold MIm; omega)
  have f_1_1_0_6 : σ2 1 1 0 6 = σ' 1 1 0 6 := g3.2 1 1 0 6 (by unfold MIm; omega)
  have f_1_1_0_5 : σ2 1 1 0 5 = σ' 1 1 0 5 := g3.2 1 1 0 5 (by unfold MIm; omega)
  have f_0_0_0_3 : σ2 0 0 0 3 = σ' 0 0 0 3 := g3.2 0 0 0 3 (by unfold MIm; omega)
  have f_36_0_0_641 : σ2 36 0 0 641 = σ' 36 0 0 641 := g3.2 36 0 0 641 (by unfold MIm; omega)
  have f_36_0_0_640 : σ2 36 0 0 640 = σ' 36 0 0 640 := g3.2 36 0 0 640 (by unfold MIm; omega)
  have w_641 := g4.1 641 (by omega) (by omega)
  have w_640 := g4.1 640 (by omega) (by omega)
  have hz : True := trivial
  have k0 := h4.1
  have k1 := h4.2.1
  have k2 := h4.2.2.1
  have k3 := h4.2.2.2.1
  have k4 := h4.2.2.2.2.1
  have k5 := h4.2.2.2.2.2.1
  have k6 := h4.2.2.2.2.2.2.1
  have k7 := h4.2.2.2.2.2.2.2.1
  have l1 := g4.2.1
  have l2 := g4.2.2.1
  have l3 := g4.2.2.2.1
  refine ⟨y, g1, hz, ?_, ?_, ?_⟩
  · exact hJ'.fi g3 (fun t i k j q q2 => by unfold MIm at q; unfold wj at q2; omega) g4.1 g4.2.1 g4.2.2.1
  · unfold R1 RC1
    clear h2 g2
    exact ⟨⟨(by rw [f_1_0_0_6, f_36_0_0_641, e_1_0_0_6, e_36_0_0_641]; exact hR.1.1), (by rw [f_1_0_0_5, f_36_0_0_640, e_1_0_0_5, e_36_0_0_640]; exact hR.1.2)⟩, (by omega), fun q => ⟨by omega, by omega⟩⟩
  · exact (hJ.2.2.fr h3 (fun t i k j q => by unfold MIg at q; unfold rwx; omega)).fr g3 (fun t i k j q => by unfold MIm at q; unfold rwx; omega)
def PX_34n  (y : Int) (σ' : ZS) : Prop := ∃ σ, JR σ ∧ IF (MI 0 28 28 28 28) σ σ' ∧ (y = -6) ∧ (True) ∧ (σ 0 0 0 3 = 0)
theorem ux_34n {xs : Nat × (Nat → Int32)}   (σ : ZS) (hJ : JR σ) (hc : σ 0 0 0 3 = 0) : CT xs 120 109 [av 0 0 0] σ (fun v σ' => ∃ y, v = some (iv y) ∧ PX_34n  y σ') := by
  have hN := hJ.1.2.2.2
  unfold NB at hN
  have hR := hJ.2.1
  unfold R1 RC1 at hR
  have q_0_6 : 0 ≤ σ 1 0 0 6 ∧ σ 1 0 0 6 ≤ 12 := (fun h => h.2.2.1 (by omega) (by omega)) (hJ.1.1 1 0 0 6 (vd_1 (by omega)))
  have q_0_7 : 0 ≤ σ 1 0 0 7 ∧ σ 1 0 0 7 ≤ 6 := (fun h => h.2.2.2.1 (by omega) (by omega)) (hJ.1.1 1 0 0 7 (vd_1 (by omega)))
  have q_0_10 : 0 ≤ σ 1 0 0 10 ∧ σ 1 0 0 10 ≤ 99 := (fun h => h.2.2.2.2.1 (by omega) (by omega)) (hJ.1.1 1 0 0 10 (vd_1 (by omega)))
  have q_0_11 : 1 ≤ σ 1 0 0 11 ∧ σ 1 0 0 11 ≤ 9 := (fun h => h.2.2.2.2.2.1 (by omega) (by omega)) (hJ.1.1 1 0 0 11 (vd_1 (by omega)))
  have q_0_12 : 0 ≤ σ 1 0 0 12 ∧ σ 1 0 0 12 ≤ 9999 := (fun h => h.2.2.2.2.2.2 (by omega) (by omega)) (hJ.1.1 1 0 0 12 (vd_1 (by omega)))
  have q_0_13 : -2147483648 ≤ σ 1 0 0 13 ∧ σ 1 0 0 13 ≤ 2147483647 := (fun h => (by have q := h.1; omega)) (hJ.1.1 1 0 0 13 (vd_1 (by omega)))
  have q_1_6 : 0 ≤ σ 1 1 0 6 ∧ σ 1 1 0 6 ≤ 12 := (fun h => h.2.2.1 (by omega) (by omega)) (hJ.1.1 1 1 0 6 (vd_1 (by omega)))
  have q_1_7 : 0 ≤ σ 1 1 0 7 ∧ σ 1 1 0 7 ≤ 6 := (fun h => h.2.2.2.1 (by omega) (by omega)) (hJ.1.1 1 1 0 7 (vd_1 (by omega)))
  have q_1_10 : 0 ≤ σ 1 1 0 10 ∧ σ 1 1 0 10 ≤ 99 := (fun h => h.2.2.2.2.1 (by omega) (by omega)) (hJ.1.1 1 1 0 10 (vd_1 (by omega)))
  have q_1_11 : 1 ≤ σ 1 1 0 11 ∧ σ 1 1 0 11 ≤ 9 := (fun h => h.2.2.2.2.2.1 (by omega) (by omega)) (hJ.1.1 1 1 0 11 (vd_1 (by omega)))
  have q_1_12 : 0 ≤ σ 1 1 0 12 ∧ σ 1 1 0 12 ≤ 9999 := (fun h => h.2.2.2.2.2.2 (by omega) (by omega)) (hJ.1.1 1 1 0 12 (vd_1 (by omega)))
  have q_1_13 : -2147483648 ≤ σ 1 1 0 13 ∧ σ 1 1 0 13 ≤ 2147483647 := (fun h => (by have q := h.1; omega)) (hJ.1.1 1 1 0 13 (vd_1 (by omega)))
  exact (s_109n   σ hJ.1.1 (by omega)).le (Nat.le_of_ble_eq_true rfl) (fun v σ' ⟨y, h1, h2, h3, h4⟩ => ⟨y, h1, σ, hJ, h3, h2, h4, hc⟩)
theorem um_34n {xs : Nat × (Nat → Int32)}   (z : Int) (σ' : ZS) (hP : PX_34n  z σ') : CT xs 120 185 [av 35 0 0] σ' (fun v σ2 => ∃ y, v = some (iv y) ∧ (True) ∧ JR σ2) := by
  obtain ⟨σ, hJ, h3, h2, h4, hc⟩ := hP
  have hR := hJ.2.1
  unfold R1 RC1 at hR
  have hJ' : JL σ' := hJ.1.fr h3 (fun t i k j q => by unfold MI at q; unfold wj; omega)
  have hN := hJ'.2.2.2
  unfold NB at hN
  have hI := hJ'.1
  have e_1_0_0_6 : σ' 1 0 0 6 = σ 1 0 0 6 := h3.2 1 0 0 6 (by unfold MI; omega)
  have e_1_0_0_5 : σ' 1 0 0 5 = σ 1 0 0 5 := h3.2 1 0 0 5 (by unfold MI; omega)
  have e_1_1_0_6 : σ' 1 1 0 6 = σ 1 1 0 6 := h3.2 1 1 0 6 (by unfold MI; omega)
  have e_1_1_0_5 : σ' 1 1 0 5 = σ 1 1 0 5 := h3.2 1 1 0 5 (by unfold MI; omega)
  have e_0_0_0_3 : σ' 0 0 0 3 = σ 0 0 0 3 := h3.2 0 0 0 3 (by unfold MI; omega)
  have e_36_0_0_641 : σ' 36 0 0 641 = σ 36 0 0 641 := h3.2 36 0 0 641 (by unfold MI; omega)
  have e_36_0_0_640 : σ' 36 0 0 640 = σ 36 0 0 640 := h3.2 36 0 0 640 (by unfold MI; omega)
  have e_36_0_2_641 : σ' 36 0 2 641 = σ 36 0 2 641 := h3.2 36 0 2 641 (by unfold MI; omega)
  have e_36_0_2_640 : σ' 36 0 2 640 = σ 36 0 2 640 := h3.2 36 0 2 640 (by unfold MI; omega)
  have e_35_0_0_3 : σ' 35 0 0 3 = σ 35 0 0 3 := h3.2 35 0 0 3 (by unfold MI; omega)
  have p_641 : 0 ≤ σ' 36 0 0 641 ∧ σ' 36 0 0 641 ≤ 12 := (fun h => h.2.2.2.2.2.2.2.2.2.2.2.2.1 (by omega) (by omega)) (hI 36 0 0 641 (vd_36 (by omega)))
  have p_642 : 0 ≤ σ' 36 0 0 642 ∧ σ' 36 0 0 642 ≤ 6 := (fun h => h.2.2.2.2.2.2.2.2.2.2.2.2.2 (by omega) (by omega)) (hI 36 0 0 642 (vd_36 (by omega)))
  have p_637 : 0 ≤ σ' 36 0 0 637 ∧ σ' 36 0 0 637 ≤ 99 := (fun h => h.2.2.2.2.2.2.2.2.1 (by omega) (by omega)) (hI 36 0 0 637 (vd_36 (by omega)))
  have p_638 : 0 ≤ σ' 36 0 0 638 ∧ σ' 36 0 0 638 ≤ 9 := (fun h => h.2.2.2.2.2.2.2.2.2.1 (by omega) (by omega)) (hI 36 0 0 638 (vd_36 (by omega)))
  have p_639 : 0 ≤ σ' 36 0 0 639 ∧ σ' 36 0 0 639 ≤ 9999 := (fun h => h.2.2.2.2.2.2.2.2.2.2.1 (by omega) (by omega)) (hI 36 0 0 639 (vd_36 (by omega)))
  refine (m_185n   σ' hI  (by omega)).le (Nat.le_of_ble_eq_true rfl) (fun v σ2 hq => ?_)
  obtain ⟨y, g1, g2, g3, g4⟩ := hq
  have f_1_0_0_6 : σ2 1 0 0 6 = σ' 1 0 0 6 := g3.2 1 0 0 6 (by unfold MT; omega)
  have f_1_0_0_5 : σ2 1 0 0 5 = σ' 1 0 0 5 := g3.2 1 0 0 5 (by unfold MT; omega)
  have f_1_1_0_6 : σ2 1 1 0 6 = σ' 1 1 0 6 := g3.2 1 1 0 6 (by unfold MT; omega)
  have f_1_1_0_5 : σ2 1 1 0 5 = σ' 1 1 0 5 := g3.2 1 1 0 5 (by unfold MT; omega)
  have f_0_0_0_3 : σ2 0 0 0 3 = σ' 0 0 0 3 := g3.2 0 0 0 3 (by unfold MT; omega)
  have f_36_0_0_641 : σ2 36 0 0 641 = σ' 36 0 0 641 := g3.2 36 0 0 641 (by unfold MT; omega)
  have f_36_0_0_640 : σ2 36 0 0 640 = σ' 36 0 0 640 := g3.2 36 0 0 640 (by unfold MT; omega)
  have f_36_0_2_641 : σ2 36 0 2 641 = σ' 36 0 2 641 := g3.2 36 0 2 641 (by unfold MT; omega)
  have f_36_0_2_640 : σ2 36 0 2 640 = σ' 36 0 2 640 := g3.2 36 0 2 640 (by unfold MT; omega)
  have f_35_0_0_3 : σ2 35 0 0 3 = σ' 35 0 0 3 := g3.2 35 0 0 3 (by unfold MT; omega)
  have hz : True := trivial
  refine ⟨y, g1, hz, ?_, ?_, ?_⟩
  · exact hJ'.fr g3 (fun t i k j q => by unfold MT at q; unfold wj; omega)
  · unfold R1 RC1
    clear h2 g2
    refine ⟨⟨(by rw [f_1_0_0_6, f_36_0_0_641, e_1_0_0_6, e_36_0_0_641]; exact hR.1.1), (by rw [f_1_0_0_5, f_36_0_0_640, e_1_0_0_5, e_36_0_0_640]; exact hR.1.2)⟩, (by rw [f_0_0_0_3, f_35_0_0_3, e_0_0_0_3, e_35_0_0_3]; exact hR.2.1), fun q => ?_⟩
    have q' := hR.2.2 (by rw [← e_35_0_0_3, ← f_35_0_0_3]; exact q)
    exact ⟨(by rw [f_1_1_0_6, f_36_0_2_641, e_1_1_0_6, e_36_0_2_641]; exact q'.1), (by rw [f_1_1_0_5, f_36_0_2_640, e_1_1_0_5, e_36_0_2_640]; exact q'.2)⟩
  · exact (hJ.2.2.fr h3 (fun t i k j q => by unfold MI at q; unfold rwx; omega)).fr g3 (fun t i k j q => by unfold MT at q; unfold rwx; omega)
def PX_34y  (y : Int) (σ' : ZS) : Prop := ∃ σ, JR σ ∧ IF MRs0 σ σ' ∧ (y = (σ 1 1 0 13)) ∧ (σ' 1 0 0 5 = (σ 1 1 0 5) ∧ σ' 1 0 0 6 = (σ 1 1 0 6) ∧ σ' 1 0 0 7 = (σ 1 1 0 7) ∧ σ' 1 0 0 10 = (σ 1 1 0 10) ∧ σ' 1 0 0 11 = (σ 1 1 0 11) ∧ σ' 1 0 0 12 = (σ 1 1 0 12) ∧ σ' 1 0 0 13 = (σ 1 1 0 13) ∧ (∀ k : Nat, k < 8 → σ' 33 0 k 0 = rvh (σ 33 0 k 0) (σ 33 0 k 3) (σ 1 1 0 6)) ∧ True) ∧ (σ 0 0 0 3 = 1)
theorem ux_34y {xs : Nat × (Nat → Int32)}   (σ : ZS) (hJ : JR σ) (hc : σ 0 0 0 3 = 1) : CT xs 120 109 [av 0 0 0] σ (fun v σ' => ∃ y, v = some (iv y) ∧ PX_34y  y σ') := by
  have hN := hJ.1.2.2.2
  unfold NB at hN
  have hR := hJ.2.1
  unfold R1 RC1 at hR
  have q_0_6 : 0 ≤ σ 1 0 0 6 ∧ σ 1 0 0 6 ≤ 12 := (fun h => h.2.2.1 (by omega) (by omega)) (hJ.1.1 1 0 0 6 (vd_1 (by omega)))
  have q_0_7 : 0 ≤ σ 1 0 0 7 ∧ σ 1 0 0 7 ≤ 6 := (fun h => h.2.2.2.1 (by omega) (by omega)) (hJ.1.1 1 0 0 7 (vd_1 (by omega)))
  have q_0_10 : 0 ≤ σ 1 0 0 10 ∧ σ 1 0 0 10 ≤ 99 := (fun h => h.2.2.2.2.1 (by omega) (by omega)) (hJ.1.1 1 0 0 10 (vd_1 (by omega)))
  have q_0_11 : 1 ≤ σ 1 0 0 11 ∧ σ 1 0 0 11 ≤ 9 := (fun h => h.2.2.2.2.2.1 (by omega) (by omega)) (hJ.1.1 1 0 0 11 (vd_1 (by omega)))
  have q_0_12 : 0 ≤ σ 1 0 0 12 ∧ σ 1 0 0 12 ≤ 9999 := (fun h => h.2.2.2.2.2.2 (by omega) (by omega)) (hJ.1.1 1 0 0 12 (vd_1 (by omega)))
  have q_0_13 : -2147483648 ≤ σ 1 0 0 13 ∧ σ 1 0 0 13 ≤ 2147483647 := (fun h => (by have q := h.1; omega)) (hJ.1.1 1 0 0 13 (vd_1 (by omega)))
  have q_1_6 : 0 ≤ σ 1 1 0 6 ∧ σ 1 1 0 6 ≤ 12 := (fun h => h.2.2.1 (by omega) (by omega)) (hJ.1.1 1 1 0 6 (vd_1 (by omega)))
  have q_1_7 : 0 ≤ σ 1 1 0 7 ∧ σ 1 1 0 7 ≤ 6 := (fun h => h.2.2.2.1 (by omega) (by omega)) (hJ.1.1 1 1 0 7 (vd_1 (by omega)))
  have q_1_10 : 0 ≤ σ 1 1 0 10 ∧ σ 1 1 0 10 ≤ 99 := (fun h => h.2.2.2.2.1 (by omega) (by omega)) (hJ.1.1 1 1 0 10 (vd_1 (by omega)))
  have q_1_11 : 1 ≤ σ 1 1 0 11 ∧ σ 1 1 0 11 ≤ 9 := (fun h => h.2.2.2.2.2.1 (by omega) (by omega)) (hJ.1.1 1 1 0 11 (vd_1 (by omega)))
  have q_1_12 : 0 ≤ σ 1 1 0 12 ∧ σ 1 1 0 12 ≤ 9999 := (fun h => h.2.2.2.2.2.2 (by omega) (by omega)) (hJ.1.1 1 1 0 12 (vd_1 (by omega)))
  have q_1_13 : -2147483648 ≤ σ 1 1 0 13 ∧ σ 1 1 0 13 ≤ 2147483647 := (fun h => (by have q := h.1; omega)) (hJ.1.1 1 1 0 13 (vd_1 (by omega)))
  have cn : 0 ≤ σ 1 1 0 5 ∧ σ 1 1 0 5 ≤ 5 := (fun h => h.2.1 (by omega) (by omega)) (hJ.1.1 1 1 0 5 (vd_1 (by omega)))
  exact (s_109l ((σ 1 1 0 5)) ((σ 1 1 0 6)) ((σ 1 1 0 7)) ((σ 1 1 0 10)) ((σ 1 1 0 11)) ((σ 1 1 0 12)) ((σ 1 1 0 13))  σ hJ.1.1 (by omega) rfl rfl rfl rfl rfl rfl rfl).le (Nat.le_of_ble_eq_true rfl) (fun v σ' ⟨y, h1, h2, h3, h4⟩ => ⟨y, h1, σ, hJ, h3, h2, h4, hc⟩)
theorem um_34y {xs : Nat × (Nat → Int32)}   (z : Int) (σ' : ZS) (hP : PX_34y  z σ') : CT xs 120 185 [av 35 0 0] σ' (fun v σ2 => ∃ y, v = some (iv y) ∧ (True) ∧ JR σ2) := by
  obtain ⟨σ, hJ, h3, h2, h4, hc⟩ := hP
  have hR := hJ.2.1
  unfold R1 RC1 at hR
  have hJ' : JL σ' := hJ.1.fr h3 (fun t i k j q => by unfold MRs0 at q; unfold wj; omega)
  have hN := hJ'.2.2.2
  unfold NB at hN
  have hI := hJ'.1
  have e_1_1_0_6 : σ' 1 1 0 6 = σ 1 1 0 6 := h3.2 1 1 0 6 (by unfold MRs0; omega)
  have e_1_1_0_5 : σ' 1 1 0 5 = σ 1 1 0 5 := h3.2 1 1 0 5 (by unfold MRs0; omega)
  have e_0_0_0_3 : σ' 0 0 0 3 = σ 0 0 0 3 := h3.2 0 0 0 3 (by unfold MRs0; omega)
  have e_36_0_0_641 : σ' 36 0 0 641 = σ 36 0 0 641 := h3.2 36 0 0 641 (by unfold MRs0; omega)
  have e_36_0_0_640 : σ' 36 0 0 640 = σ 36 0 0 640 := h3.2 36 0 0 640 (by unfold MRs0; omega)
  have e_36_0_2_641 : σ' 36 0 2 641 = σ 36 0 2 641 := h3.2 36 0 2 641 (by unfold MRs0; omega)
  have e_36_0_2_640 : σ' 36 0 2 640 = σ 36 0 2 640 := h3.2 36 0 2 640 (by unfold MRs0; omega)
  have e_35_0_0_3 : σ' 35 0 0 3 = σ 35 0 0 3 := h3.2 35 0 0 3 (by unfold MRs0; omega)
  have p_641 : 0 ≤ σ' 36 0 0 641 ∧ σ' 36 0 0 641 ≤ 12 := (fun h => h.2.2.2.2.2.2.2.2.2.2.2.2.1 (by omega) (by omega)) (hI 36 0 0 641 (vd_36 (by omega)))
  have p_642 : 0 ≤ σ' 36 0 0 642 ∧ σ' 36 0 0 642 ≤ 6 := (fun h => h.2.2.2.2.2.2.2.2.2.2.2.2.2 (by omega) (by omega)) (hI 36 0 0 642 (vd_36 (by omega)))
  have p_637 : 0 ≤ σ' 36 0 0 637 ∧ σ' 36 0 0 637 ≤ 99 := (fun h => h.2.2.2.2.2.2.2.2.1 (by omega) (by omega)) (hI 36 0 0 637 (vd_36 (by omega)))
  have p_638 : 0 ≤ σ' 36 0 0 638 ∧ σ' 36 0 0 638 ≤ 9 := (fun h => h.2.2.2.2.2.2.2.2.2.1 (by omega) (by omega)) (hI 36 0 0 638 (vd_36 (by omega)))
  have p_639 : 0 ≤ σ' 36 0 0 639 ∧ σ' 36 0 0 639 ≤ 9999 := (fun h => h.2.2.2.2.2.2.2.2.2.2.1 (by omega) (by omega)) (hI 36 0 0 639 (vd_36 (by omega)))
  refine (r_185r ((σ' 36 0 2 634))  σ' hI  (by omega) rfl).le (Nat.le_of_ble_eq_true rfl) (fun v σ2 hq => ?_)
  obtain ⟨y, g1, g2, g3, g4⟩ := hq
  have f_1_0_0_6 : σ2 1 0 0 6 = σ' 1 0 0 6 := g3.2 1 0 0 6 (by unfold MRm; omega)
  have f_1_0_0_5 : σ2 1 0 0 5 = σ' 1 0 0 5 := g3.2 1 0 0 5 (by unfold MRm; omega)
  have f_1_1_0_6 : σ2 1 1 0 6 = σ' 1 1 0 6 := g3.2 1 1 0 6 (by unfold MRm; omega)
  have f_1_1_0_5 : σ2 1 1 0 5 = σ' 1 1 0 5 := g3.2 1 1 0 5 (by unfold MRm; omega)
  have f_0_0_0_3 : σ2 0 0 0 3 = σ' 0 0 0 3 := g3.2 0 0 0 3 (by unfold MRm; omega)
  have f_36_0_2_641 : σ2 36 0 2 641 = σ' 36 0 2 641 := g3.2 36 0 2 641 (by unfold MRm; omega)
  have f_36_0_2_640 : σ2 36 0 2 640 = σ' 36 0 2 640 := g3.2 36 0 2 640 (by unfold MRm; omega)
  have f_35_0_0_3 : σ2 35 0 0 3 = σ' 35 0 0 3 := g3.2 35 0 0 3 (by unfold MRm; omega)
  have w_641 := g4.1 641 (by omega) (by omega)
  have w_640 := g4.1 640 (by omega) (by omega)
  have hz : True := trivial
  have k0 := h4.1
  have k1 := h4.2.1
  have k2 := h4.2.2.1
  have k3 := h4.2.2.2.1
  have k4 := h4.2.2.2.2.1
  have k5 := h4.2.2.2.2.2.1
  have k6 := h4.2.2.2.2.2.2.1
  have l1 := g4.2.1
  have l2 := g4.2.2.1
  refine ⟨y, g1, hz, ?_, ?_, ?_⟩
  · exact hJ'.fb g3 (fun t i k j q q2 => by unfold MRm at q; unfold wj at q2; omega) g4.1 g4.2.1 g4.2.2.1
  · unfold R1 RC1
    clear h2 g2
    refine ⟨⟨(by omega), (by omega)⟩, (by rw [f_0_0_0_3, f_35_0_0_3, e_0_0_0_3, e_35_0_0_3]; exact hR.2.1), fun q => ?_⟩
    have q' := hR.2.2 (by rw [← e_35_0_0_3, ← f_35_0_0_3]; exact q)
    exact ⟨(by rw [f_1_1_0_6, f_36_0_2_641, e_1_1_0_6, e_36_0_2_641]; exact q'.1), (by rw [f_1_1_0_5, f_36_0_2_640, e_1_1_0_5, e_36_0_2_640]; exact q'.2)⟩
  · skip
    refine ⟨?_, ?_, ?_⟩
    · skip
      clear h2 g2
      intro k hk
      have r := hJ.2.2.1 k hk
      have a := h4.2.2.2.2.2.2.2.1 k hk
      have b := g4.2.2.2.1 k hk
      have c0 := g3.2 33 0 k 0 (by unfold MRm; omega)
      have c1 := g3.2 33 0 k 1 (by unfold MRm; omega)
      have c2 := g3.2 33 0 k 2 (by unfold MRm; omega)
      have c3 := g3.2 33 0 k 3 (by unfold MRm; omega)
      have d1 := h3.2 33 0 k 1 (by unfold MRs0; omega)
      have d2 := h3.2 33 0 k 2 (by unfold MRs0; omega)
      have d3 := h3.2 33 0 k 3 (by unfold MRs0; omega)
      have e0 := h3.2 37 0 0 k (by unfold MRs0; omega)
      have e1 := h3.2 38 0 0 k (by unfold MRs0; omega)
      have e2 := h3.2 39 0 0 k (by unfold MRs0; omega)
      have e3 := h3.2 40 0 0 k (by unfold MRs0; omega)
      have f1 := g3.2 38 0 0 k (by unfold MRm; omega)
      have f2 := g3.2 39 0 0 k (by unfold MRm; omega)
      have f3 := g3.2 40 0 0 k (by unfold MRm; omega)
      have hq := hR.2.2 (by omega)
      rw [e0, e3, e_36_0_2_641, ← hq.1] at b
      unfold rvh at a b
      have t1 : σ2 33 0 k 1 = σ2 38 0 0 k := by omega
      have t2 : σ2 33 0 k 2 = σ2 39 0 0 k := by omega
      refine ⟨?_, t1, t2, fun _ => ?_⟩ <;> split at a <;> split at b <;> omega
    · skip
      exact (hJ.2.2.2.1.fr h3 (fun t i k j q => by unfold MRs0 at q; omega)).fr g3 (fun t i k j q => by unfold MRm at q; omega)
    · skip
      rw [g3.2 0 0 0 7 (by unfold MRm; omega), h3.2 0 0 0 7 (by unfold MRs0; omega), g3.2 35 0 0 16 (by unfold MRm; omega), h3.2 35 0 0 16 (by unfold MRs0; omega)]
      exact hJ.2.2.2.2
def PX_34  (y : Int) (σ' : ZS) : Prop := PX_34n  y σ' ∨ PX_34y  y σ'
theorem ux_34 {xs : Nat × (Nat → Int32)}   (σ : ZS) (hJ : JR σ) : CT xs 120 109 [av 0 0 0] σ (fun v σ' => ∃ y, v = some (iv y) ∧ PX_34  y σ') := by
  have hh := hJ.1.1 0 0 0 3 vd_0
  simp only [rgP] at hh
  by_cases h0 : σ 0 0 0 3 = 0
  · exact (ux_34n   σ hJ h0).le (Nat.le_refl _) (fun v σ' ⟨y, h1, h2⟩ => ⟨y, h1, Or.inl h2⟩)
  · exact (ux_34y   σ hJ (by omega)).le (Nat.le_refl _) (fun v σ' ⟨y, h1, h2⟩ => ⟨y, h1, Or.inr h2⟩)
theorem um_34 {xs : Nat × (Nat → Int32)}   (z : Int) (σ' : ZS) (hP : PX_34  z σ') : CT xs 120 185 [av 35 0 0] σ' (fun v σ2 => ∃ y, v = some (iv y) ∧ (True) ∧ JR σ2) := hP.elim (um_34n   z σ') (um_34y   z σ')
def PX_21 (p0 : Int) (p1 : Int) (p2 : Int) (p3 : Int) (p4 : Int) (y : Int) (σ' : ZS) : Prop := ∃ σ, JR σ ∧ IF (MC 6 7 25) σ σ' ∧ ((y = -1 ∧ (¬ (0 ≤ p0 ∧ p0 ≤ 2) ∨ ¬ (0 ≤ p1 ∧ p1 ≤ 24))) ∨ (y = -6 ∧ ¬ (¬ (0 ≤ p0 ∧ p0 ≤ 2) ∨ ¬ (0 ≤ p1 ∧ p1 ≤ 24)) ∧ (¬ (0 ≤ p2 ∧ p2 ≤ 200) ∨ ¬ (0 ≤ p3 ∧ p3 ≤ 99) ∨ ¬ (0 ≤ p4 ∧ p4 ≤ 99))) ∨ (y = -7 ∧ ¬ (¬ (0 ≤ p0 ∧ p0 ≤ 2) ∨ ¬ (0 ≤ p1 ∧ p1 ≤ 24)) ∧ ¬ (¬ (0 ≤ p2 ∧ p2 ≤ 200) ∨ ¬ (0 ≤ p3 ∧ p3 ≤ 99) ∨ ¬ (0 ≤ p4 ∧ p4 ≤ 99)) ∧ (12 ≤ (σ 1 0 0 6))) ∨ (y = (σ 1 0 0 6) ∧ ¬ (¬ (0 ≤ p0 ∧ p0 ≤ 2) ∨ ¬ (0 ≤ p1 ∧ p1 ≤ 24)) ∧ ¬ (¬ (0 ≤ p2 ∧ p2 ≤ 200) ∨ ¬ (0 ≤ p3 ∧ p3 ≤ 99) ∨ ¬ (0 ≤ p4 ∧ p4 ≤ 99)) ∧ ¬ (12 ≤ (σ 1 0 0 6)))) ∧ (((y < 0 → σ' 1 0 0 6 = (σ 1 0 0 6)) ∧ (0 ≤ y → σ' 1 0 0 6 = (σ 1 0 0 6) + 1)) ∧ True)
theorem ux_21 {xs : Nat × (Nat → Int32)} (p0 : Int) (p1 : Int) (p2 : Int) (p3 : Int) (p4 : Int) (hp0 : -2147483648 ≤ p0 ∧ p0 ≤ 2147483647) (hp1 : -2147483648 ≤ p1 ∧ p1 ≤ 2147483647) (hp2 : -2147483648 ≤ p2 ∧ p2 ≤ 2147483647) (hp3 : -2147483648 ≤ p3 ∧ p3 ≤ 2147483647) (hp4 : -2147483648 ≤ p4 ∧ p4 ≤ 2147483647) (σ : ZS) (hJ : JR σ) : CT xs 120 98 [av 0 0 0, iv p0, iv p1, iv p2, iv p3, iv p4] σ (fun v σ' => ∃ y, v = some (iv y) ∧ PX_21 p0 p1 p2 p3 p4 y σ') := by
  have hN := hJ.1.2.2.2
  unfold NB at hN
  have hR := hJ.2.1
  unfold R1 RC1 at hR
  have q_0_6 : 0 ≤ σ 1 0 0 6 ∧ σ 1 0 0 6 ≤ 12 := (fun h => h.2.2.1 (by omega) (by omega)) (hJ.1.1 1 0 0 6 (vd_1 (by omega)))
  have q_0_7 : 0 ≤ σ 1 0 0 7 ∧ σ 1 0 0 7 ≤ 6 := (fun h => h.2.2.2.1 (by omega) (by omega)) (hJ.1.1 1 0 0 7 (vd_1 (by omega)))
  have q_0_10 : 0 ≤ σ 1 0 0 10 ∧ σ 1 0 0 10 ≤ 99 := (fun h => h.2.2.2.2.1 (by omega) (by omega)) (hJ.1.1 1 0 0 10 (vd_1 (by omega)))
  have q_0_11 : 1 ≤ σ 1 0 0 11 ∧ σ 1 0 0 11 ≤ 9 := (fun h => h.2.2.2.2.2.1 (by omega) (by omega)) (hJ.1.1 1 0 0 11 (vd_1 (by omega)))
  have q_0_12 : 0 ≤ σ 1 0 0 12 ∧ σ 1 0 0 12 ≤ 9999 := (fun h => h.2.2.2.2.2.2 (by omega) (by omega)) (hJ.1.1 1 0 0 12 (vd_1 (by omega)))
  have q_0_13 : -2147483648 ≤ σ 1 0 0 13 ∧ σ 1 0 0 13 ≤ 2147483647 := (fun h => (by have q := h.1; omega)) (hJ.1.1 1 0 0 13 (vd_1 (by omega)))
  have q_1_6 : 0 ≤ σ 1 1 0 6 ∧ σ 1 1 0 6 ≤ 12 := (fun h => h.2.2.1 (by omega) (by omega)) (hJ.1.1 1 1 0 6 (vd_1 (by omega)))
  have q_1_7 : 0 ≤ σ 1 1 0 7 ∧ σ 1 1 0 7 ≤ 6 := (fun h => h.2.2.2.1 (by omega) (by omega)) (hJ.1.1 1 1 0 7 (vd_1 (by omega)))
  have q_1_10 : 0 ≤ σ 1 1 0 10 ∧ σ 1 1 0 10 ≤ 99 := (fun h => h.2.2.2.2.1 (by omega) (by omega)) (hJ.1.1 1 1 0 10 (vd_1 (by omega)))
  have q_1_11 : 1 ≤ σ 1 1 0 11 ∧ σ 1 1 0 11 ≤ 9 := (fun h => h.2.2.2.2.2.1 (by omega) (by omega)) (hJ.1.1 1 1 0 11 (vd_1 (by omega)))
  have q_1_12 : 0 ≤ σ 1 1 0 12 ∧ σ 1 1 0 12 ≤ 9999 := (fun h => h.2.2.2.2.2.2 (by omega) (by omega)) (hJ.1.1 1 1 0 12 (vd_1 (by omega)))
  have q_1_13 : -2147483648 ≤ σ 1 1 0 13 ∧ σ 1 1 0 13 ≤ 2147483647 := (fun h => (by have q := h.1; omega)) (hJ.1.1 1 1 0 13 (vd_1 (by omega)))
  exact (s_98 p0 p1 p2 p3 p4 ((σ 1 0 0 6)) (by omega) (by omega) (by omega) (by omega) (by omega) (by omega) σ hJ.1.1 rfl).le (Nat.le_of_ble_eq_true rfl) (fun v σ' ⟨y, h1, h2, h3, h4⟩ => ⟨y, h1, σ, hJ, h3, h2, h4⟩)
theorem um_21 {xs : Nat × (Nat → Int32)} (p0 : Int) (p1 : Int) (p2 : Int) (p3 : Int) (p4 : Int) (hp0 : -2147483648 ≤ p0 ∧ p0 ≤ 2147483647) (hp1 : -2147483648 ≤ p1 ∧ p1 ≤ 2147483647) (hp2 : -2147483648 ≤ p2 ∧ p2 ≤ 2147483647) (hp3 : -2147483648 ≤ p3 ∧ p3 ≤ 2147483647) (hp4 : -2147483648 ≤ p4 ∧ p4 ≤ 2147483647) (z : Int) (σ' : ZS) (hP : PX_21 p0 p1 p2 p3 p4 z σ') : CT xs 120 164 [av 35 0 0, iv p0, iv p1, iv p2, iv p3, iv p4] σ' (fun v σ2 => ∃ y, v = some (iv y) ∧ (z = y) ∧ JR σ2) := by
  obtain ⟨σ, hJ, h3, h2, h4⟩ := hP
  have hR := hJ.2.1
  unfold R1 RC1 at hR
  have hJ' : JL σ' := hJ.1.fr h3 (fun t i k j q => by unfold MC at q; unfold wj; omega)
  have hN := hJ'.2.2.2
  unfold NB at hN
  have hI := hJ'.1
  have e_1_0_0_5 : σ' 1 0 0 5 = σ 1 0 0 5 := h3.2 1 0 0 5 (by unfold MC; omega)
  have e_1_1_0_6 : σ' 1 1 0 6 = σ 1 1 0 6 := h3.2 1 1 0 6 (by unfold MC; omega)
  have e_1_1_0_5 : σ' 1 1 0 5 = σ 1 1 0 5 := h3.2 1 1 0 5 (by unfold MC; omega)
  have e_0_0_0_3 : σ' 0 0 0 3 = σ 0 0 0 3 := h3.2 0 0 0 3 (by unfold MC; omega)
  have e_36_0_0_641 : σ' 36 0 0 641 = σ 36 0 0 641 := h3.2 36 0 0 641 (by unfold MC; omega)
  have e_36_0_0_640 : σ' 36 0 0 640 = σ 36 0 0 640 := h3.2 36 0 0 640 (by unfold MC; omega)
  have e_36_0_2_641 : σ' 36 0 2 641 = σ 36 0 2 641 := h3.2 36 0 2 641 (by unfold MC; omega)
  have e_36_0_2_640 : σ' 36 0 2 640 = σ 36 0 2 640 := h3.2 36 0 2 640 (by unfold MC; omega)
  have e_35_0_0_3 : σ' 35 0 0 3 = σ 35 0 0 3 := h3.2 35 0 0 3 (by unfold MC; omega)
  have p_641 : 0 ≤ σ' 36 0 0 641 ∧ σ' 36 0 0 641 ≤ 12 := (fun h => h.2.2.2.2.2.2.2.2.2.2.2.2.1 (by omega) (by omega)) (hI 36 0 0 641 (vd_36 (by omega)))
  have p_642 : 0 ≤ σ' 36 0 0 642 ∧ σ' 36 0 0 642 ≤ 6 := (fun h => h.2.2.2.2.2.2.2.2.2.2.2.2.2 (by omega) (by omega)) (hI 36 0 0 642 (vd_36 (by omega)))
  have p_637 : 0 ≤ σ' 36 0 0 637 ∧ σ' 36 0 0 637 ≤ 99 := (fun h => h.2.2.2.2.2.2.2.2.1 (by omega) (by omega)) (hI 36 0 0 637 (vd_36 (by omega)))
  have p_638 : 0 ≤ σ' 36 0 0 638 ∧ σ' 36 0 0 638 ≤ 9 := (fun h => h.2.2.2.2.2.2.2.2.2.1 (by omega) (by omega)) (hI 36 0 0 638 (vd_36 (by omega)))
  have p_639 : 0 ≤ σ' 36 0 0 639 ∧ σ' 36 0 0 639 ≤ 9999 := (fun h => h.2.2.2.2.2.2.2.2.2.2.1 (by omega) (by omega)) (hI 36 0 0 639 (vd_36 (by omega)))
  refine (r_164 p0 p1 p2 p3 p4 ((σ' 36 0 0 641)) (by omega) (by omega) (by omega) (by omega) (by omega) (by omega) σ' hI  rfl).le (Nat.le_of_ble_eq_true rfl) (fun v σ2 hq => ?_)
  obtain ⟨y, g1, g2, g3, g4⟩ := hq
  have f_1_0_0_6 : σ2 1 0 0 6 = σ' 1 0 0 6 := g3.2 1 0 0 6 (by unfold MK; omega)
  have f_1_0_0_5 : σ2 1 0 0 5 = σ' 1 0 0 5 := g3.2 1 0 0 5 (by unfold MK; omega)
  have f_1_1_0_6 : σ2 1 1 0 6 = σ' 1 1 0 6 := g3.2 1 1 0 6 (by unfold MK; omega)
  have f_1_1_0_5 : σ2 1 1 0 5 = σ' 1 1 0 5 := g3.2 1 1 0 5 (by unfold MK; omega)
  have f_0_0_0_3 : σ2 0 0 0 3 = σ' 0 0 0 3 := g3.2 0 0 0 3 (by unfold MK; omega)
  have f_36_0_0_640 : σ2 36 0 0 640 = σ' 36 0 0 640 := g3.2 36 0 0 640 (by unfold MK; omega)
  have f_36_0_2_641 : σ2 36 0 2 641 = σ' 36 0 2 641 := g3.2 36 0 2 641 (by unfold MK; omega)
  have f_36_0_2_640 : σ2 36 0 2 640 = σ' 36 0 2 640 := g3.2 36 0 2 640 (by unfold MK; omega)
  have f_35_0_0_3 : σ2 35 0 0 3 = σ' 35 0 0 3 := g3.2 35 0 0 3 (by unfold MK; omega)
  have hv0 : (σ' 36 0 0 641) = (σ 1 0 0 6) := by clear h2 g2 h4 g4; omega
  have hz : z = y := by
    rw [hv0] at g2
    exact cs_4 h2 g2
  have k0 := h4.1
  have l0 := g4.1
  refine ⟨y, g1, hz, ?_, ?_, ?_⟩
  · exact hJ'.fr g3 (fun t i k j q => by unfold MK at q; unfold wj; omega)
  · unfold R1 RC1
    clear h2 g2
    refine ⟨⟨(by omega), (by rw [f_1_0_0_5, f_36_0_0_640, e_1_0_0_5, e_36_0_0_640]; exact hR.1.2)⟩, (by rw [f_0_0_0_3, f_35_0_0_3, e_0_0_0_3, e_35_0_0_3]; exact hR.2.1), fun q => ?_⟩
    have q' := hR.2.2 (by rw [← e_35_0_0_3, ← f_35_0_0_3]; exact q)
    exact ⟨(by rw [f_1_1_0_6, f_36_0_2_641, e_1_1_0_6, e_36_0_2_641]; exact q'.1), (by rw [f_1_1_0_5, f_36_0_2_640, e_1_1_0_5, e_36_0_2_640]; exact q'.2)⟩
  · exact (hJ.2.2.fr h3 (fun t i k j q => by unfold MC at q; unfold rwx; omega)).fr g3 (fun t i k j q => by unfold MK at q; unfold rwx; omega)
def PX_7e (p0 : Int) (p1 : Int) (p2 : Int) (y : Int) (σ' : ZS) : Prop := ∃ σ, JR σ ∧ IF (MEh (Int.toNat p0)) σ σ' ∧ (y = 1) ∧ (σ' 33 0 (Int.toNat p0) 0 = 1 ∧ σ' 33 0 (Int.toNat p0) 1 = p1 ∧ σ' 33 0 (Int.toNat p0) 2 = p2 ∧ σ' 33 0 (Int.toNat p0) 3 = (σ 33 0 (Int.toNat p0) 3) ∧ eqn zf (σ' 34 0 (Int.toNat p0)) 96 ∧ True) ∧ ((0 ≤ p0 ∧ p0 ≤ 7) ∧ (0 ≤ p1 ∧ p1 ≤ 3) ∧ (0 ≤ p2 ∧ p2 ≤ 96))
theorem ux_7e {xs : Nat × (Nat → Int32)} (p0 : Int) (p1 : Int) (p2 : Int) (hp0 : -2147483648 ≤ p0 ∧ p0 ≤ 2147483647) (hp1 : -2147483648 ≤ p1 ∧ p1 ≤ 2147483647) (hp2 : -2147483648 ≤ p2 ∧ p2 ≤ 2147483647) (σ : ZS) (hJ : JR σ) (hc : (0 ≤ p0 ∧ p0 ≤ 7) ∧ (0 ≤ p1 ∧ p1 ≤ 3) ∧ (0 ≤ p2 ∧ p2 ≤ 96)) : CT xs 120 83 [av 0 0 0, iv p0, iv p1, iv p2] σ (fun v σ' => ∃ y, v = some (iv y) ∧ PX_7e p0 p1 p2 y σ') := by
  have hN := hJ.1.2.2.2
  unfold NB at hN
  have hR := hJ.2.1
  unfold R1 RC1 at hR
  have rs_p0 := hJ.2.2.1 (Int.toNat p0) (by omega)
  have c_p0_0 := (hJ.1.1 33 0 (Int.toNat p0) 0 (vd_33 (by omega))).1
  have c_p0_1 := (hJ.1.1 33 0 (Int.toNat p0) 1 (vd_33 (by omega))).1
  have c_p0_3 := (hJ.1.1 33 0 (Int.toNat p0) 3 (vd_33 (by omega))).1
  have c_p0_2 : 0 ≤ σ 33 0 (Int.toNat p0) 2 ∧ σ 33 0 (Int.toNat p0) 2 ≤ 96 := (fun h => h.2 (by omega) (by omega)) (hJ.1.1 33 0 (Int.toNat p0) 2 (vd_33 (by omega)))
  have d_p0_1 : 0 ≤ σ 38 0 0 (Int.toNat p0) ∧ σ 38 0 0 (Int.toNat p0) ≤ 3 := (fun h => h.2 (by omega) (by omega)) (hJ.1.1 38 0 0 (Int.toNat p0) vd_38)
  exact (s_83e p0 p1 p2 ((σ 33 0 (Int.toNat p0) 3)) (by omega) (by omega) (by omega) (by omega) σ hJ.1.1 rfl).le (Nat.le_of_ble_eq_true rfl) (fun v σ' ⟨y, h1, h2, h3, h4⟩ => ⟨y, h1, σ, hJ, h3, h2, h4, hc⟩)
theorem um_7e {xs : Nat × (Nat → Int32)} (p0 : Int) (p1 : Int) (p2 : Int) (hp0 : -2147483648 ≤ p0 ∧ p0 ≤ 2147483647) (hp1 : -2147483648 ≤ p1 ∧ p1 ≤ 2147483647) (hp2 : -2147483648 ≤ p2 ∧ p2 ≤ 2147483647) (z : Int) (σ' : ZS) (hP : PX_7e p0 p1 p2 z σ') : CT xs 120 135 [av 35 0 0, iv p0, iv p1, iv p2] σ' (fun v σ2 => ∃ y, v = some (iv y) ∧ (True) ∧ JR σ2) := by
  obtain ⟨σ, hJ, h3, h2, h4, hc⟩ := hP
  have hR := hJ.2.1
  unfold R1 RC1 at hR
  have hJ' : JL σ' := hJ.1.fr h3 (fun t i k j q => by unfold MEh at q; unfold wj; omega)
  have hN := hJ'.2.2.2
  unfold NB at hN
  have hI := hJ'.1
  have e_1_0_0_6 : σ' 1 0 0 6 = σ 1 0 0 6 := h3.2 1 0 0 6 (by unfold MEh; omega)
  have e_1_0_0_5 : σ' 1 0 0 5 = σ 1 0 0 5 := h3.2 1 0 0 5 (by unfold MEh; omega)
  have e_1_1_0_6 : σ' 1 1 0 6 = σ 1 1 0 6 := h3.2 1 1 0 6 (by unfold MEh; omega)
  have e_1_1_0_5 : σ' 1 1 0 5 = σ 1 1 0 5 := h3.2 1 1 0 5 (by unfold MEh; omega)
  have e_0_0_0_3 : σ' 0 0 0 3 = σ 0 0 0 3 := h3.2 0 0 0 3 (by unfold MEh; omega)
  have e_36_0_0_641 : σ' 36 0 0 641 = σ 36 0 0 641 := h3.2 36 0 0 641 (by unfold MEh; omega)
  have e_36_0_0_640 : σ' 36 0 0 640 = σ 36 0 0 640 := h3.2 36 0 0 640 (by unfold MEh; omega)
  have e_36_0_2_641 : σ' 36 0 2 641 = σ 36 0 2 641 := h3.2 36 0 2 641 (by unfold MEh; omega)
  have e_36_0_2_640 : σ' 36 0 2 640 = σ 36 0 2 640 := h3.2 36 0 2 640 (by unfold MEh; omega)
  have e_35_0_0_3 : σ' 35 0 0 3 = σ 35 0 0 3 := h3.2 35 0 0 3 (by unfold MEh; omega)
  have p_641 : 0 ≤ σ' 36 0 0 641 ∧ σ' 36 0 0 641 ≤ 12 := (fun h => h.2.2.2.2.2.2.2.2.2.2.2.2.1 (by omega) (by omega)) (hI 36 0 0 641 (vd_36 (by omega)))
  have p_642 : 0 ≤ σ' 36 0 0 642 ∧ σ' 36 0 0 642 ≤ 6 := (fun h => h.2.2.2.2.2.2.2.2.2.2.2.2.2 (by omega) (by omega)) (hI 36 0 0 642 (vd_36 (by omega)))
  have p_637 : 0 ≤ σ' 36 0 0 637 ∧ σ' 36 0 0 637 ≤ 99 := (fun h => h.2.2.2.2.2.2.2.2.1 (by omega) (by omega)) (hI 36 0 0 637 (vd_36 (by omega)))
  have p_638 : 0 ≤ σ' 36 0 0 638 ∧ σ' 36 0 0 638 ≤ 9 := (fun h => h.2.2.2.2.2.2.2.2.2.1 (by omega) (by omega)) (hI 36 0 0 638 (vd_36 (by omega)))
  have p_639 : 0 ≤ σ' 36 0 0 639 ∧ σ' 36 0 0 639 ≤ 9999 := (fun h => h.2.2.2.2.2.2.2.2.2.2.1 (by omega) (by omega)) (hI 36 0 0 639 (vd_36 (by omega)))
  have rs_p0 := hJ.2.2.1 (Int.toNat p0) (by omega)
  have m_p0_0 : 0 ≤ σ' 37 0 0 (Int.toNat p0) ∧ σ' 37 0 0 (Int.toNat p0) ≤ 2 := (fun h => h.2 (by omega) (by omega)) (hI 37 0 0 (Int.toNat p0) vd_37)
  have e_p0_0 : σ' 37 0 0 (Int.toNat p0) = σ 37 0 0 (Int.toNat p0) := h3.2 37 0 0 (Int.toNat p0) (by unfold MEh; omega)
  have m_p0_1 : 0 ≤ σ' 38 0 0 (Int.toNat p0) ∧ σ' 38 0 0 (Int.toNat p0) ≤ 3 := (fun h => h.2 (by omega) (by omega)) (hI 38 0 0 (Int.toNat p0) vd_38)
  have e_p0_1 : σ' 38 0 0 (Int.toNat p0) = σ 38 0 0 (Int.toNat p0) := h3.2 38 0 0 (Int.toNat p0) (by unfold MEh; omega)
  have m_p0_2 : 0 ≤ σ' 39 0 0 (Int.toNat p0) ∧ σ' 39 0 0 (Int.toNat p0) ≤ 96 := (fun h => h.2 (by omega) (by omega)) (hI 39 0 0 (Int.toNat p0) vd_39)
  have e_p0_2 : σ' 39 0 0 (Int.toNat p0) = σ 39 0 0 (Int.toNat p0) := h3.2 39 0 0 (Int.toNat p0) (by unfold MEh; omega)
  have m_p0_3 : -1 ≤ σ' 40 0 0 (Int.toNat p0) ∧ σ' 40 0 0 (Int.toNat p0) ≤ 11 := (fun h => h.2 (by omega) (by omega)) (hI 40 0 0 (Int.toNat p0) vd_40)
  have e_p0_3 : σ' 40 0 0 (Int.toNat p0) = σ 40 0 0 (Int.toNat p0) := h3.2 40 0 0 (Int.toNat p0) (by unfold MEh; omega)
  refine (r_135e p0 p1 p2 ((σ' 40 0 0 (Int.toNat p0))) (by omega) (by omega) (by omega) (by omega) σ' hI  rfl).le (Nat.le_of_ble_eq_true rfl) (fun v σ2 hq => ?_)
  obtain ⟨y, g1, g2, g3, g4⟩ := hq
  have f_1_0_0_6 : σ2 1 0 0 6 = σ' 1 0 0 6 := g3.2 1 0 0 6 (by unfold MEb; omega)
  have f_1_0_0_5 : σ2 1 0 0 5 = σ' 1 0 0 5 := g3.2 1 0 0 5 (by unfold MEb; omega)
  have f_1_1_0_6 : σ2 1 1 0 6 = σ' 1 1 0 6 := g3.2 1 1 0 6 (by unfold MEb; omega)
  have f_1_1_0_5 : σ2 1 1 0 5 = σ' 1 1 0 5 := g3.2 1 1 0 5 (by unfold MEb; omega)
  have f_0_0_0_3 : σ2 0 0 0 3 = σ' 0 0 0 3 := g3.2 0 0 0 3 (by unfold MEb; omega)
  have f_36_0_0_641 : σ2 36 0 0 641 = σ' 36 0 0 641 := g3.2 36 0 0 641 (by unfold MEb; omega)
  have f_36_0_0_640 : σ2 36 0 0 640 = σ' 36 0 0 640 := g3.2 36 0 0 640 (by unfold MEb; omega)
  have f_36_0_2_641 : σ2 36 0 2 641 = σ' 36 0 2 641 := g3.2 36 0 2 641 (by unfold MEb; omega)
  have f_36_0_2_640 : σ2 36 0 2 640 = σ' 36 0 2 640 := g3.2 36 0 2 640 (by unfold MEb; omega)
  have f_35_0_0_3 : σ2 35 0 0 3 = σ' 35 0 0 3 := g3.2 35 0 0 3 (by unfold MEb; omega)
  have hz : True := trivial
  have k0 := h4.1
  have k1 := h4.2.1
  have k2 := h4.2.2.1
  have k3 := h4.2.2.2.1
  have k4 := h4.2.2.2.2.1
  have l0 := g4.1
  have l1 := g4.2.1
  have l2 := g4.2.2.1
  have l3 := g4.2.2.2.1
  have l4 := g4.2.2.2.2.1
  refine ⟨y, g1, hz, ?_, ?_, ?_⟩
  · exact hJ'.fr g3 (fun t i k j q => by unfold MEb at q; unfold wj; omega)
  · unfold R1 RC1
    clear h2 g2
    refine ⟨⟨(by rw [f_1_0_0_6, f_36_0_0_641, e_1_0_0_6, e_36_0_0_641]; exact hR.1.1), (by rw [f_1_0_0_5, f_36_0_0_640, e_1_0_0_5, e_36_0_0_640]; exact hR.1.2)⟩, (by rw [f_0_0_0_3, f_35_0_0_3, e_0_0_0_3, e_35_0_0_3]; exact hR.2.1), fun q => ?_⟩
    have q' := hR.2.2 (by rw [← e_35_0_0_3, ← f_35_0_0_3]; exact q)
    exact ⟨(by rw [f_1_1_0_6, f_36_0_2_641, e_1_1_0_6, e_36_0_2_641]; exact q'.1), (by rw [f_1_1_0_5, f_36_0_2_640, e_1_1_0_5, e_36_0_2_640]; exact q'.2)⟩
  · skip
    clear h2 g2
    refine ⟨?_, ?_, ?_⟩
    · skip
      intro k hk
      have r := hJ.2.2.1 k hk
      by_cases hq : k = Int.toNat p0
      · subst hq
        have c0 := g3.2 33 0 (Int.toNat p0) 0 (by unfold MEb; omega)
        have c1 := g3.2 33 0 (Int.toNat p0) 1 (by unfold MEb; omega)
        have c2 := g3.2 33 0 (Int.toNat p0) 2 (by unfold MEb; omega)
        have c3 := g3.2 33 0 (Int.toNat p0) 3 (by unfold MEb; omega)
        refine ⟨?_, ?_, ?_, fun _ => ?_⟩ <;> omega
      · have c0 := g3.2 33 0 k 0 (by unfold MEb; omega)
        have d0 := h3.2 33 0 k 0 (by unfold MEh; omega)
        have f0 := g3.2 37 0 0 k (by unfold MEb; omega)
        have e0 := h3.2 37 0 0 k (by unfold MEh; omega)
        have c1 := g3.2 33 0 k 1 (by unfold MEb; omega)
        have d1 := h3.2 33 0 k 1 (by unfold MEh; omega)
        have f1 := g3.2 38 0 0 k (by unfold MEb; omega)
        have e1 := h3.2 38 0 0 k (by unfold MEh; omega)
        have c2 := g3.2 33 0 k 2 (by unfold MEb; omega)
        have d2 := h3.2 33 0 k 2 (by unfold MEh; omega)
        have f2 := g3.2 39 0 0 k (by unfold MEb; omega)
        have e2 := h3.2 39 0 0 k (by unfold MEh; omega)
        have c3 := g3.2 33 0 k 3 (by unfold MEb; omega)
        have d3 := h3.2 33 0 k 3 (by unfold MEh; omega)
        have f3 := g3.2 40 0 0 k (by unfold MEb; omega)
        have e3 := h3.2 40 0 0 k (by unfold MEh; omega)
        rw [c0, d0, f0, e0, c1, d1, f1, e1, c2, d2, f2, e2, c3, d3, f3, e3]
        exact r
    · skip
      intro k hk j hj
      have r := hJ.2.2.2.1 k hk j hj
      have c := g3.2 34 0 k j (by unfold MEb; omega)
      by_cases hq : k = Int.toNat p0
      · subst hq
        rw [c, h4.2.2.2.2.1 j hj, show 96 * Int.toNat p0 + j = Int.toNat (96 * p0) + j from by omega, g4.2.2.2.2.1 j hj]
      · rw [c, h3.2 34 0 k j (by unfold MEh; omega), g3.2 41 0 0 (96 * k + j) (by unfold MEb; omega), h3.2 41 0 0 (96 * k + j) (by unfold MEh; omega)]
        exact r
    · skip
      rw [g3.2 0 0 0 7 (by unfold MEb; omega), h3.2 0 0 0 7 (by unfold MEh; omega), g3.2 35 0 0 16 (by unfold MEb; omega), h3.2 35 0 0 16 (by unfold MEh; omega)]
      exact hJ.2.2.2.2
def PX_7f (p0 : Int) (p1 : Int) (p2 : Int) (y : Int) (σ' : ZS) : Prop := ∃ σ, JR σ ∧ IF (MI 0 28 28 28 28) σ σ' ∧ (y < 0) ∧ (True) ∧ (¬ ((0 ≤ p0 ∧ p0 ≤ 7) ∧ (0 ≤ p1 ∧ p1 ≤ 3) ∧ (0 ≤ p2 ∧ p2 ≤ 96)))
theorem ux_7f {xs : Nat × (Nat → Int32)} (p0 : Int) (p1 : Int) (p2 : Int) (hp0 : -2147483648 ≤ p0 ∧ p0 ≤ 2147483647) (hp1 : -2147483648 ≤ p1 ∧ p1 ≤ 2147483647) (hp2 : -2147483648 ≤ p2 ∧ p2 ≤ 2147483647) (σ : ZS) (hJ : JR σ) (hc : ¬ ((0 ≤ p0 ∧ p0 ≤ 7) ∧ (0 ≤ p1 ∧ p1 ≤ 3) ∧ (0 ≤ p2 ∧ p2 ≤ 96))) : CT xs 120 83 [av 0 0 0, iv p0, iv p1, iv p2] σ (fun v σ' => ∃ y, v = some (iv y) ∧ PX_7f p0 p1 p2 y σ') := by
  have hN := hJ.1.2.2.2
  unfold NB at hN
  have hR := hJ.2.1
  unfold R1 RC1 at hR
  exact (s_83f p0 p1 p2 (by omega) (by omega) (by omega) (by omega) σ hJ.1.1 ).le (Nat.le_of_ble_eq_true rfl) (fun v σ' ⟨y, h1, h2, h3, h4⟩ => ⟨y, h1, σ, hJ, h3, h2, h4, hc⟩)
theorem um_7f {xs : Nat × (Nat → Int32)} (p0 : Int) (p1 : Int) (p2 : Int) (hp0 : -2147483648 ≤ p0 ∧ p0 ≤ 2147483647) (hp1 : -2147483648 ≤ p1 ∧ p1 ≤ 2147483647) (hp2 : -2147483648 ≤ p2 ∧ p2 ≤ 2147483647) (z : Int) (σ' : ZS) (hP : PX_7f p0 p1 p2 z σ') : CT xs 120 135 [av 35 0 0, iv p0, iv p1, iv p2] σ' (fun v σ2 => ∃ y, v = some (iv y) ∧ (True) ∧ JR σ2) := by
  obtain ⟨σ, hJ, h3, h2, h4, hc⟩ := hP
  have hR := hJ.2.1
  unfold R1 RC1 at hR
  have hJ' : JL σ' := hJ.1.fr h3 (fun t i k j q => by unfold MI at q; unfold wj; omega)
  have hN := hJ'.2.2.2
  unfold NB at hN
  have hI := hJ'.1
  have e_1_0_0_6 : σ' 1 0 0 6 = σ 1 0 0 6 := h3.2 1 0 0 6 (by unfold MI; omega)
  have e_1_0_0_5 : σ' 1 0 0 5 = σ 1 0 0 5 := h3.2 1 0 0 5 (by unfold MI; omega)
  have e_1_1_0_6 : σ' 1 1 0 6 = σ 1 1 0 6 := h3.2 1 1 0 6 (by unfold MI; omega)
  have e_1_1_0_5 : σ' 1 1 0 5 = σ 1 1 0 5 := h3.2 1 1 0 5 (by unfold MI; omega)
  have e_0_0_0_3 : σ' 0 0 0 3 = σ 0 0 0 3 := h3.2 0 0 0 3 (by unfold MI; omega)
  have e_36_0_0_641 : σ' 36 0 0 641 = σ 36 0 0 641 := h3.2 36 0 0 641 (by unfold MI; omega)
  have e_36_0_0_640 : σ' 36 0 0 640 = σ 36 0 0 640 := h3.2 36 0 0 640 (by unfold MI; omega)
  have e_36_0_2_641 : σ' 36 0 2 641 = σ 36 0 2 641 := h3.2 36 0 2 641 (by unfold MI; omega)
  have e_36_0_2_640 : σ' 36 0 2 640 = σ 36 0 2 640 := h3.2 36 0 2 640 (by unfold MI; omega)
  have e_35_0_0_3 : σ' 35 0 0 3 = σ 35 0 0 3 := h3.2 35 0 0 3 (by unfold MI; omega)
  have p_641 : 0 ≤ σ' 36 0 0 641 ∧ σ' 36 0 0 641 ≤ 12 := (fun h => h.2.2.2.2.2.2.2.2.2.2.2.2.1 (by omega) (by omega)) (hI 36 0 0 641 (vd_36 (by omega)))
  have p_642 : 0 ≤ σ' 36 0 0 642 ∧ σ' 36 0 0 642 ≤ 6 := (fun h => h.2.2.2.2.2.2.2.2.2.2.2.2.2 (by omega) (by omega)) (hI 36 0 0 642 (vd_36 (by omega)))
  have p_637 : 0 ≤ σ' 36 0 0 637 ∧ σ' 36 0 0 637 ≤ 99 := (fun h => h.2.2.2.2.2.2.2.2.1 (by omega) (by omega)) (hI 36 0 0 637 (vd_36 (by omega)))
  have p_638 : 0 ≤ σ' 36 0 0 638 ∧ σ' 36 0 0 638 ≤ 9 := (fun h => h.2.2.2.2.2.2.2.2.2.1 (by omega) (by omega)) (hI 36 0 0 638 (vd_36 (by omega)))
  have p_639 : 0 ≤ σ' 36 0 0 639 ∧ σ' 36 0 0 639 ≤ 9999 := (fun h => h.2.2.2.2.2.2.2.2.2.2.1 (by omega) (by omega)) (hI 36 0 0 639 (vd_36 (by omega)))
  refine (r_135f p0 p1 p2 (by omega) (by omega) (by omega) (by omega) σ' hI  ).le (Nat.le_of_ble_eq_true rfl) (fun v σ2 hq => ?_)
  obtain ⟨y, g1, g2, g3, g4⟩ := hq
  have f_1_0_0_6 : σ2 1 0 0 6 = σ' 1 0 0 6 := g3.2 1 0 0 6 (by unfold MT; omega)
  have f_1_0_0_5 : σ2 1 0 0 5 = σ' 1 0 0 5 := g3.2 1 0 0 5 (by unfold MT; omega)
  have f_1_1_0_6 : σ2 1 1 0 6 = σ' 1 1 0 6 := g3.2 1 1 0 6 (by unfold MT; omega)
  have f_1_1_0_5 : σ2 1 1 0 5 = σ' 1 1 0 5 := g3.2 1 1 0 5 (by unfold MT; omega)
  have f_0_0_0_3 : σ2 0 0 0 3 = σ' 0 0 0 3 := g3.2 0 0 0 3 (by unfold MT; omega)
  have f_36_0_0_641 : σ2 36 0 0 641 = σ' 36 0 0 641 := g3.2 36 0 0 641 (by unfold MT; omega)
  have f_36_0_0_640 : σ2 36 0 0 640 = σ' 36 0 0 640 := g3.2 36 0 0 640 (by unfold MT; omega)
  have f_36_0_2_641 : σ2 36 0 2 641 = σ' 36 0 2 641 := g3.2 36 0 2 641 (by unfold MT; omega)
  have f_36_0_2_640 : σ2 36 0 2 640 = σ' 36 0 2 640 := g3.2 36 0 2 640 (by unfold MT; omega)
  have f_35_0_0_3 : σ2 35 0 0 3 = σ' 35 0 0 3 := g3.2 35 0 0 3 (by unfold MT; omega)
  have hz : True := trivial
  refine ⟨y, g1, hz, ?_, ?_, ?_⟩
  · exact hJ'.fr g3 (fun t i k j q => by unfold MT at q; unfold wj; omega)
  · unfold R1 RC1
    clear h2 g2
    refine ⟨⟨(by rw [f_1_0_0_6, f_36_0_0_641, e_1_0_0_6, e_36_0_0_641]; exact hR.1.1), (by rw [f_1_0_0_5, f_36_0_0_640, e_1_0_0_5, e_36_0_0_640]; exact hR.1.2)⟩, (by rw [f_0_0_0_3, f_35_0_0_3, e_0_0_0_3, e_35_0_0_3]; exact hR.2.1), fun q => ?_⟩
    have q' := hR.2.2 (by rw [← e_35_0_0_3, ← f_35_0_0_3]; exact q)
    exact ⟨(by rw [f_1_1_0_6, f_36_0_2_641, e_1_1_0_6, e_36_0_2_641]; exact q'.1), (by rw [f_1_1_0_5, f_36_0_2_640, e_1_1_0_5, e_36_0_2_640]; exact q'.2)⟩
  · exact (hJ.2.2.fr h3 (fun t i k j q => by unfold MI at q; unfold rwx; omega)).fr g3 (fun t i k j q => by unfold MT at q; unfold rwx; omega)
def PX_7 (p0 : Int) (p1 : Int) (p2 : Int) (y : Int) (σ' : ZS) : Prop := PX_7e p0 p1 p2 y σ' ∨ PX_7f p0 p1 p2 y σ'
theorem ux_7 {xs : Nat × (Nat → Int32)} (p0 : Int) (p1 : Int) (p2 : Int) (hp0 : -2147483648 ≤ p0 ∧ p0 ≤ 2147483647) (hp1 : -2147483648 ≤ p1 ∧ p1 ≤ 2147483647) (hp2 : -2147483648 ≤ p2 ∧ p2 ≤ 2147483647) (σ : ZS) (hJ : JR σ) : CT xs 120 83 [av 0 0 0, iv p0, iv p1, iv p2] σ (fun v σ' => ∃ y, v = some (iv y) ∧ PX_7 p0 p1 p2 y σ') := by
  by_cases h0 : (0 ≤ p0 ∧ p0 ≤ 7) ∧ (0 ≤ p1 ∧ p1 ≤ 3) ∧ (0 ≤ p2 ∧ p2 ≤ 96)
  · exact (ux_7e p0 p1 p2 hp0 hp1 hp2 σ hJ h0).le (Nat.le_refl _) (fun v σ' ⟨y, h1, h2⟩ => ⟨y, h1, Or.inl h2⟩)
  · exact (ux_7f p0 p1 p2 hp0 hp1 hp2 σ hJ h0).le (Nat.le_refl _) (fun v σ' ⟨y, h1, h2⟩ => ⟨y, h1, Or.inr h2⟩)
theorem um_7 {xs : Nat × (Nat → Int32)} (p0 : Int) (p1 : Int) (p2 : Int) (hp0 : -2147483648 ≤ p0 ∧ p0 ≤ 2147483647) (hp1 : -2147483648 ≤ p1 ∧ p1 ≤ 2147483647) (hp2 : -2147483648 ≤ p2 ∧ p2 ≤ 2147483647) (z : Int) (σ' : ZS) (hP : PX_7 p0 p1 p2 z σ') : CT xs 120 135 [av 35 0 0, iv p0, iv p1, iv p2] σ' (fun v σ2 => ∃ y, v = some (iv y) ∧ (True) ∧ JR σ2) := hP.elim (um_7e p0 p1 p2 hp0 hp1 hp2 z σ') (um_7f p0 p1 p2 hp0 hp1 hp2 z σ')
def PX_8i (p0 : Int) (p1 : Int) (vv : Int) (y : Int) (σ' : ZS) : Prop := ∃ σ, JR σ ∧ IF (MEl (Int.toNat p0) (Int.toNat p1)) σ σ' ∧ ((y = -2 ∧ ((σ 33 0 (Int.toNat p0) 0) = 2)) ∨ (y = -3 ∧ ¬ ((σ 33 0 (Int.toNat p0) 0) = 2) ∧ ((σ 33 0 (Int.toNat p0) 0) = 0)) ∨ (y = -5 ∧ ¬ ((σ 33 0 (Int.toNat p0) 0) = 2) ∧ ¬ ((σ 33 0 (Int.toNat p0) 0) = 0) ∧ (¬ (0 ≤ p1 ∧ p1 < (σ 33 0 (Int.toNat p0) 2)))) ∨ (y = 1 ∧ ¬ ((σ 33 0 (Int.toNat p0) 0) = 2) ∧ ¬ ((σ 33 0 (Int.toNat p0) 0) = 0) ∧ ¬ (¬ (0 ≤ p1 ∧ p1 < (σ 33 0 (Int.toNat p0) 2))))) ∧ (((y = 1 → σ' 34 0 (Int.toNat p0) (Int.toNat p1) = cv (σ 33 0 (Int.toNat p0) 1) vv) ∧ (¬ y = 1 → σ' 34 0 (Int.toNat p0) (Int.toNat p1) = (σ 34 0 (Int.toNat p0) (Int.toNat p1)))) ∧ True) ∧ (0 ≤ p0 ∧ p0 ≤ 7)
theorem ux_8i {xs : Nat × (Nat → Int32)} (p0 : Int) (p1 : Int) (vv : Int) (hp0 : -2147483648 ≤ p0 ∧ p0 ≤ 2147483647) (hp1 : -2147483648 ≤ p1 ∧ p1 ≤ 2147483647) (σ : ZS) (hJ : JR σ) (hc : 0 ≤ p0 ∧ p0 ≤ 7) : CT xs 120 84 [av 0 0 0, iv p0, iv p1, jv vv] σ (fun v σ' => ∃ y, v = some (iv y) ∧ PX_8i p0 p1 vv y σ') := by
  have hN := hJ.1.2.2.2
  unfold NB at hN
  have hR := hJ.2.1
  unfold R1 RC1 at hR
  have rs_p0 := hJ.2.2.1 (Int.toNat p0) (by omega)
  have c_p0_0 := (hJ.1.1 33 0 (Int.toNat p0) 0 (vd_33 (by omega))).1
  have c_p0_1 := (hJ.1.1 33 0 (Int.toNat p0) 1 (vd_33 (by omega))).1
  have c_p0_3 := (hJ.1.1 33 0 (Int.toNat p0) 3 (vd_33 (by omega))).1
  have c_p0_2 : 0 ≤ σ 33 0 (Int.toNat p0) 2 ∧ σ 33 0 (Int.toNat p0) 2 ≤ 96 := (fun h => h.2 (by omega) (by omega)) (hJ.1.1 33 0 (Int.toNat p0) 2 (vd_33 (by omega)))
  have d_p0_1 : 0 ≤ σ 38 0 0 (Int.toNat p0) ∧ σ 38 0 0 (Int.toNat p0) ≤ 3 := (fun h => h.2 (by omega) (by omega)) (hJ.1.1 38 0 0 (Int.toNat p0) vd_38)
  exact (s_84e p0 p1 vv ((σ 33 0 (Int.toNat p0) 0)) ((σ 33 0 (Int.toNat p0) 1)) ((σ 33 0 (Int.toNat p0) 2)) ((σ 34 0 (Int.toNat p0) (Int.toNat p1))) (by omega) (by omega) (by omega) (by omega) (by omega) σ hJ.1.1 rfl rfl rfl rfl).le (Nat.le_of_ble_eq_true rfl) (fun v σ' ⟨y, h1, h2, h3, h4⟩ => ⟨y, h1, σ, hJ, h3, h2, h4, hc⟩)
theorem um_8i {xs : Nat × (Nat → Int32)} (p0 : Int) (p1 : Int) (vv : Int) (hp0 : -2147483648 ≤ p0 ∧ p0 ≤ 2147483647) (hp1 : -2147483648 ≤ p1 ∧ p1 ≤ 2147483647) (z : Int) (σ' : ZS) (hP : PX_8i p0 p1 vv z σ') : CT xs 120 136 [av 35 0 0, iv p0, iv p1, jv vv] σ' (fun v σ2 => ∃ y, v = some (iv y) ∧ (z = y) ∧ JR σ2) := by
  obtain ⟨σ, hJ, h3, h2, h4, hc⟩ := hP
  have hR := hJ.2.1
  unfold R1 RC1 at hR
  have hJ' : JL σ' := hJ.1.fr h3 (fun t i k j q => by unfold MEl at q; unfold wj; omega)
  have hN := hJ'.2.2.2
  unfold NB at hN
  have hI := hJ'.1
  have e_1_0_0_6 : σ' 1 0 0 6 = σ 1 0 0 6 := h3.2 1 0 0 6 (by unfold MEl; omega)
  have e_1_0_0_5 : σ' 1 0 0 5 = σ 1 0 0 5 := h3.2 1 0 0 5 (by unfold MEl; omega)
  have e_1_1_0_6 : σ' 1 1 0 6 = σ 1 1 0 6 := h3.2 1 1 0 6 (by unfold MEl; omega)
  have e_1_1_0_5 : σ' 1 1 0 5 = σ 1 1 0 5 := h3.2 1 1 0 5 (by unfold MEl; omega)
  have e_0_0_0_3 : σ' 0 0 0 3 = σ 0 0 0 3 := h3.2 0 0 0 3 (by unfold MEl; omega)
  have e_36_0_0_641 : σ' 36 0 0 641 = σ 36 0 0 641 := h3.2 36 0 0 641 (by unfold MEl; omega)
  have e_36_0_0_640 : σ' 36 0 0 640 = σ 36 0 0 640 := h3.2 36 0 0 640 (by unfold MEl; omega)
  have e_36_0_2_641 : σ' 36 0 2 641 = σ 36 0 2 641 := h3.2 36 0 2 641 (by unfold MEl; omega)
  have e_36_0_2_640 : σ' 36 0 2 640 = σ 36 0 2 640 := h3.2 36 0 2 640 (by unfold MEl; omega)
  have e_35_0_0_3 : σ' 35 0 0 3 = σ 35 0 0 3 := h3.2 35 0 0 3 (by unfold MEl; omega)
  have p_641 : 0 ≤ σ' 36 0 0 641 ∧ σ' 36 0 0 641 ≤ 12 := (fun h => h.2.2.2.2.2.2.2.2.2.2.2.2.1 (by omega) (by omega)) (hI 36 0 0 641 (vd_36 (by omega)))
  have p_642 : 0 ≤ σ' 36 0 0 642 ∧ σ' 36 0 0 642 ≤ 6 := (fun h => h.2.2.2.2.2.2.2.2.2.2.2.2.2 (by omega) (by omega)) (hI 36 0 0 642 (vd_36 (by omega)))
  have p_637 : 0 ≤ σ' 36 0 0 637 ∧ σ' 36 0 0 637 ≤ 99 := (fun h => h.2.2.2.2.2.2.2.2.1 (by omega) (by omega)) (hI 36 0 0 637 (vd_36 (by omega)))
  have p_638 : 0 ≤ σ' 36 0 0 638 ∧ σ' 36 0 0 638 ≤ 9 := (fun h => h.2.2.2.2.2.2.2.2.2.1 (by omega) (by omega)) (hI 36 0 0 638 (vd_36 (by omega)))
  have p_639 : 0 ≤ σ' 36 0 0 639 ∧ σ' 36 0 0 639 ≤ 9999 := (fun h => h.2.2.2.2.2.2.2.2.2.2.1 (by omega) (by omega)) (hI 36 0 0 639 (vd_36 (by omega)))
  have rs_p0 := hJ.2.2.1 (Int.toNat p0) (by omega)
  have m_p0_0 : 0 ≤ σ' 37 0 0 (Int.toNat p0) ∧ σ' 37 0 0 (Int.toNat p0) ≤ 2 := (fun h => h.2 (by omega) (by omega)) (hI 37 0 0 (Int.toNat p0) vd_37)
  have e_p0_0 : σ' 37 0 0 (Int.toNat p0) = σ 37 0 0 (Int.toNat p0) := h3.2 37 0 0 (Int.toNat p0) (by unfold MEl; omega)
  have m_p0_1 : 0 ≤ σ' 38 0 0 (Int.toNat p0) ∧ σ' 38 0 0 (Int.toNat p0) ≤ 3 := (fun h => h.2 (by omega) (by omega)) (hI 38 0 0 (Int.toNat p0) vd_38)
  have e_p0_1 : σ' 38 0 0 (Int.toNat p0) = σ 38 0 0 (Int.toNat p0) := h3.2 38 0 0 (Int.toNat p0) (by unfold MEl; omega)
  have m_p0_2 : 0 ≤ σ' 39 0 0 (Int.toNat p0) ∧ σ' 39 0 0 (Int.toNat p0) ≤ 96 := (fun h => h.2 (by omega) (by omega)) (hI 39 0 0 (Int.toNat p0) vd_39)
  have e_p0_2 : σ' 39 0 0 (Int.toNat p0) = σ 39 0 0 (Int.toNat p0) := h3.2 39 0 0 (Int.toNat p0) (by unfold MEl; omega)
  have m_p0_3 : -1 ≤ σ' 40 0 0 (Int.toNat p0) ∧ σ' 40 0 0 (Int.toNat p0) ≤ 11 := (fun h => h.2 (by omega) (by omega)) (hI 40 0 0 (Int.toNat p0) vd_40)
  have e_p0_3 : σ' 40 0 0 (Int.toNat p0) = σ 40 0 0 (Int.toNat p0) := h3.2 40 0 0 (Int.toNat p0) (by unfold MEl; omega)
  refine (r_136e p0 p1 vv ((σ' 37 0 0 (Int.toNat p0))) ((σ' 38 0 0 (Int.toNat p0))) ((σ' 39 0 0 (Int.toNat p0))) ((σ' 41 0 0 (Int.toNat (96 * p0 + p1)))) (by omega) (by omega) (by omega) (by omega) (by omega) σ' hI  rfl rfl rfl rfl).le (Nat.le_of_ble_eq_true rfl) (fun v σ2 hq => ?_)
  obtain ⟨y, g1, g2, g3, g4⟩ := hq
  have f_1_0_0_6 : σ2 1 0 0 6 = σ' 1 0 0 6 := g3.2 1 0 0 6 (by unfold MEc; omega)
  have f_1_0_0_5 : σ2 1 0 0 5 = σ' 1 0 0 5 := g3.2 1 0 0 5 (by unfold MEc; omega)
  have f_1_1_0_6 : σ2 1 1 0 6 = σ' 1 1 0 6 := g3.2 1 1 0 6 (by unfold MEc; omega)
  have f_1_1_0_5 : σ2 1 1 0 5 = σ' 1 1 0 5 := g3.2 1 1 0 5 (by unfold MEc; omega)
  have f_0_0_0_3 : σ2 0 0 0 3 = σ' 0 0 0 3 := g3.2 0 0 0 3 (by unfold MEc; omega)
  have f_36_0_0_641 : σ2 36 0 0 641 = σ' 36 0 0 641 := g3.2 36 0 0 641 (by unfold MEc; omega)
  have f_36_0_0_640 : σ2 36 0 0 640 = σ' 36 0 0 640 := g3.2 36 0 0 640 (by unfold MEc; omega)
  have f_36_0_2_641 : σ2 36 0 2 641 = σ' 36 0 2 641 := g3.2 36 0 2 641 (by unfold MEc; omega)
  have f_36_0_2_640 : σ2 36 0 2 640 = σ' 36 0 2 640 := g3.2 36 0 2 640 (by unfold MEc; omega)
  have f_35_0_0_3 : σ2 35 0 0 3 = σ' 35 0 0 3 := g3.2 35 0 0 3 (by unfold MEc; omega)
  have hv0 : (σ' 37 0 0 (Int.toNat p0)) = (σ 33 0 (Int.toNat p0) 0) := by clear h2 g2 h4 g4; omega
  have hv1 : (σ' 39 0 0 (Int.toNat p0)) = (σ 33 0 (Int.toNat p0) 2) := by clear h2 g2 h4 g4; omega
  have hz : z = y := by
    rw [hv0, hv1] at g2
    exact cs_4 h2 g2
  have k0 := h4.1
  have l0 := g4.1
  refine ⟨y, g1, hz, ?_, ?_, ?_⟩
  · exact hJ'.fr g3 (fun t i k j q => by unfold MEc at q; unfold wj; omega)
  · unfold R1 RC1
    clear h2 g2
    refine ⟨⟨(by rw [f_1_0_0_6, f_36_0_0_641, e_1_0_0_6, e_36_0_0_641]; exact hR.1.1), (by rw [f_1_0_0_5, f_36_0_0_640, e_1_0_0_5, e_36_0_0_640]; exact hR.1.2)⟩, (by rw [f_0_0_0_3, f_35_0_0_3, e_0_0_0_3, e_35_0_0_3]; exact hR.2.1), fun q => ?_⟩
    have q' := hR.2.2 (by rw [← e_35_0_0_3, ← f_35_0_0_3]; exact q)
    exact ⟨(by rw [f_1_1_0_6, f_36_0_2_641, e_1_1_0_6, e_36_0_2_641]; exact q'.1), (by rw [f_1_1_0_5, f_36_0_2_640, e_1_1_0_5, e_36_0_2_640]; exact q'.2)⟩
  · skip
    refine ⟨?_, ?_, ?_⟩
    · skip
      exact (hJ.2.2.1.fr h3 (fun t i k j q => by unfold MEl at q; unfold rws; omega)).fr g3 (fun t i k j q => by unfold MEc at q; unfold rws; omega)
    · skip
      intro k hk j hj
      have r := hJ.2.2.2.1 k hk j hj
      have c := g3.2 34 0 k j (by unfold MEc; omega)
      have e := h3.2 41 0 0 (96 * k + j) (by unfold MEl; omega)
      by_cases h1 : z = 1
      · have hp : 0 ≤ p1 ∧ p1 < 96 := by omega
        clear h2 g2
        by_cases hq : k = Int.toNat p0 ∧ j = Int.toNat p1
        · obtain ⟨rfl, rfl⟩ := hq
          have hu : σ' 38 0 0 (Int.toNat p0) = σ 33 0 (Int.toNat p0) 1 := by omega
          rw [c, k0.1 h1, show 96 * Int.toNat p0 + Int.toNat p1 = Int.toNat (96 * p0 + p1) from by omega, l0.1 (hz ▸ h1), hu]
        · rw [c, h3.2 34 0 k j (by unfold MEl; omega), g3.2 41 0 0 (96 * k + j) (by unfold MEc; omega), e]
          exact r
      · clear h2 g2
        have a : σ' 34 0 k j = σ 34 0 k j := by
          by_cases hq : k = Int.toNat p0 ∧ j = Int.toNat p1
          · obtain ⟨rfl, rfl⟩ := hq; exact k0.2 h1
          · exact h3.2 34 0 k j (by unfold MEl; omega)
        have b : σ2 41 0 0 (96 * k + j) = σ' 41 0 0 (96 * k + j) := by
          by_cases hq : 96 * k + j = Int.toNat (96 * p0 + p1)
          · rw [hq]; exact l0.2 (fun q => h1 (hz.trans q))
          · exact g3.2 41 0 0 (96 * k + j) (by unfold MEc; omega)
        rw [c, a, b, e]
        exact r
    · skip
      rw [g3.2 0 0 0 7 (by unfold MEc; omega), h3.2 0 0 0 7 (by unfold MEl; omega), g3.2 35 0 0 16 (by unfold MEc; omega), h3.2 35 0 0 16 (by unfold MEl; omega)]
      exact hJ.2.2.2.2
def PX_8o (p0 : Int) (p1 : Int) (vv : Int) (y : Int) (σ' : ZS) : Prop := ∃ σ, JR σ ∧ IF (MI 0 28 28 28 28) σ σ' ∧ (y = -1) ∧ (True) ∧ (¬ (0 ≤ p0 ∧ p0 ≤ 7))
theorem ux_8o {xs : Nat × (Nat → Int32)} (p0 : Int) (p1 : Int) (vv : Int) (hp0 : -2147483648 ≤ p0 ∧ p0 ≤ 2147483647) (hp1 : -2147483648 ≤ p1 ∧ p1 ≤ 2147483647) (σ : ZS) (hJ : JR σ) (hc : ¬ (0 ≤ p0 ∧ p0 ≤ 7)) : CT xs 120 84 [av 0 0 0, iv p0, iv p1, jv vv] σ (fun v σ' => ∃ y, v = some (iv y) ∧ PX_8o p0 p1 vv y σ') := by
  have hN := hJ.1.2.2.2
  unfold NB at hN
  have hR := hJ.2.1
  unfold R1 RC1 at hR
  exact (s_84o p0 p1 vv (by omega) (by omega) (by omega) σ hJ.1.1 ).le (Nat.le_of_ble_eq_true rfl) (fun v σ' ⟨y, h1, h2, h3, h4⟩ => ⟨y, h1, σ, hJ, h3, h2, h4, hc⟩)
theorem um_8o {xs : Nat × (Nat → Int32)} (p0 : Int) (p1 : Int) (vv : Int) (hp0 : -2147483648 ≤ p0 ∧ p0 ≤ 2147483647) (hp1 : -2147483648 ≤ p1 ∧ p1 ≤ 2147483647) (z : Int) (σ' : ZS) (hP : PX_8o p0 p1 vv z σ') : CT xs 120 136 [av 35 0 0, iv p0, iv p1, jv vv] σ' (fun v σ2 => ∃ y, v = some (iv y) ∧ (z = y) ∧ JR σ2) := by
  obtain ⟨σ, hJ, h3, h2, h4, hc⟩ := hP
  have hR := hJ.2.1
  unfold R1 RC1 at hR
  have hJ' : JL σ' := hJ.1.fr h3 (fun t i k j q => by unfold MI at q; unfold wj; omega)
  have hN := hJ'.2.2.2
  unfold NB at hN
  have hI := hJ'.1
  have e_1_0_0_6 : σ' 1 0 0 6 = σ 1 0 0 6 := h3.2 1 0 0 6 (by unfold MI; omega)
  have e_1_0_0_5 : σ' 1 0 0 5 = σ 1 0 0 5 := h3.2 1 0 0 5 (by unfold MI; omega)
  have e_1_1_0_6 : σ' 1 1 0 6 = σ 1 1 0 6 := h3.2 1 1 0 6 (by unfold MI; omega)
  have e_1_1_0_5 : σ' 1 1 0 5 = σ 1 1 0 5 := h3.2 1 1 0 5 (by unfold MI; omega)
  have e_0_0_0_3 : σ' 0 0 0 3 = σ 0 0 0 3 := h3.2 0 0 0 3 (by unfold MI; omega)
  have e_36_0_0_641 : σ' 36 0 0 641 = σ 36 0 0 641 := h3.2 36 0 0 641 (by unfold MI; omega)
  have e_36_0_0_640 : σ' 36 0 0 640 = σ 36 0 0 640 := h3.2 36 0 0 640 (by unfold MI; omega)
  have e_36_0_2_641 : σ' 36 0 2 641 = σ 36 0 2 641 := h3.2 36 0 2 641 (by unfold MI; omega)
  have e_36_0_2_640 : σ' 36 0 2 640 = σ 36 0 2 640 := h3.2 36 0 2 640 (by unfold MI; omega)
  have e_35_0_0_3 : σ' 35 0 0 3 = σ 35 0 0 3 := h3.2 35 0 0 3 (by unfold MI; omega)
  have p_641 : 0 ≤ σ' 36 0 0 641 ∧ σ' 36 0 0 641 ≤ 12 := (fun h => h.2.2.2.2.2.2.2.2.2.2.2.2.1 (by omega) (by omega)) (hI 36 0 0 641 (vd_36 (by omega)))
  have p_642 : 0 ≤ σ' 36 0 0 642 ∧ σ' 36 0 0 642 ≤ 6 := (fun h => h.2.2.2.2.2.2.2.2.2.2.2.2.2 (by omega) (by omega)) (hI 36 0 0 642 (vd_36 (by omega)))
  have p_637 : 0 ≤ σ' 36 0 0 637 ∧ σ' 36 0 0 637 ≤ 99 := (fun h => h.2.2.2.2.2.2.2.2.1 (by omega) (by omega)) (hI 36 0 0 637 (vd_36 (by omega)))
  have p_638 : 0 ≤ σ' 36 0 0 638 ∧ σ' 36 0 0 638 ≤ 9 := (fun h => h.2.2.2.2.2.2.2.2.2.1 (by omega) (by omega)) (hI 36 0 0 638 (vd_36 (by omega)))
  have p_639 : 0 ≤ σ' 36 0 0 639 ∧ σ' 36 0 0 639 ≤ 9999 := (fun h => h.2.2.2.2.2.2.2.2.2.2.1 (by omega) (by omega)) (hI 36 0 0 639 (vd_36 (by omega)))
  refine (r_136o p0 p1 vv (by omega) (by omega) (by omega) σ' hI  ).le (Nat.le_of_ble_eq_true rfl) (fun v σ2 hq => ?_)
  obtain ⟨y, g1, g2, g3, g4⟩ := hq
  have f_1_0_0_6 : σ2 1 0 0 6 = σ' 1 0 0 6 := g3.2 1 0 0 6 (by unfold MT; omega)
  have f_1_0_0_5 : σ2 1 0 0 5 = σ' 1 0 0 5 := g3.2 1 0 0 5 (by unfold MT; omega)
  have f_1_1_0_6 : σ2 1 1 0 6 = σ' 1 1 0 6 := g3.2 1 1 0 6 (by unfold MT; omega)
  have f_1_1_0_5 : σ2 1 1 0 5 = σ' 1 1 0 5 := g3.2 1 1 0 5 (by unfold MT; omega)
  have f_0_0_0_3 : σ2 0 0 0 3 = σ' 0 0 0 3 := g3.2 0 0 0 3 (by unfold MT; omega)
  have f_36_0_0_641 : σ2 36 0 0 641 = σ' 36 0 0 641 := g3.2 36 0 0 641 (by unfold MT; omega)
  have f_36_0_0_640 : σ2 36 0 0 640 = σ' 36 0 0 640 := g3.2 36 0 0 640 (by unfold MT; omega)
  have f_36_0_2_641 : σ2 36 0 2 641 = σ' 36 0 2 641 := g3.2 36 0 2 641 (by unfold MT; omega)
  have f_36_0_2_640 : σ2 36 0 2 640 = σ' 36 0 2 640 := g3.2 36 0 2 640 (by unfold MT; omega)
  have f_35_0_0_3 : σ2 35 0 0 3 = σ' 35 0 0 3 := g3.2 35 0 0 3 (by unfold MT; omega)
  have hz : z = y := by clear h4 g4; omega
  refine ⟨y, g1, hz, ?_, ?_, ?_⟩
  · exact hJ'.fr g3 (fun t i k j q => by unfold MT at q; unfold wj; omega)
  · unfold R1 RC1
    clear h2 g2
    refine ⟨⟨(by rw [f_1_0_0_6, f_36_0_0_641, e_1_0_0_6, e_36_0_0_641]; exact hR.1.1), (by rw [f_1_0_0_5, f_36_0_0_640, e_1_0_0_5, e_36_0_0_640]; exact hR.1.2)⟩, (by rw [f_0_0_0_3, f_35_0_0_3, e_0_0_0_3, e_35_0_0_3]; exact hR.2.1), fun q => ?_⟩
    have q' := hR.2.2 (by rw [← e_35_0_0_3, ← f_35_0_0_3]; exact q)
    exact ⟨(by rw [f_1_1_0_6, f_36_0_2_641, e_1_1_0_6, e_36_0_2_641]; exact q'.1), (by rw [f_1_1_0_5, f_36_0_2_640, e_1_1_0_5, e_36_0_2_640]; exact q'.2)⟩
  · exact (hJ.2.2.fr h3 (fun t i k j q => by unfold MI at q; unfold rwx; omega)).fr g3 (fun t i k j q => by unfold MT at q; unfold rwx; omega)
def PX_8 (p0 : Int) (p1 : Int) (vv : Int) (y : Int) (σ' : ZS) : Prop := PX_8i p0 p1 vv y σ' ∨ PX_8o p0 p1 vv y σ'
theorem ux_8 {xs : Nat × (Nat → Int32)} (p0 : Int) (p1 : Int) (vv : Int) (hp0 : -2147483648 ≤ p0 ∧ p0 ≤ 2147483647) (hp1 : -2147483648 ≤ p1 ∧ p1 ≤ 2147483647) (σ : ZS) (hJ : JR σ) : CT xs 120 84 [av 0 0 0, iv p0, iv p1, jv vv] σ (fun v σ' => ∃ y, v = some (iv y) ∧ PX_8 p0 p1 vv y σ') := by
  by_cases h0 : 0 ≤ p0 ∧ p0 ≤ 7
  · exact (ux_8i p0 p1 vv hp0 hp1 σ hJ h0).le (Nat.le_refl _) (fun v σ' ⟨y, h1, h2⟩ => ⟨y, h1, Or.inl h2⟩)
  · exact (ux_8o p0 p1 vv hp0 hp1 σ hJ h0).le (Nat.le_refl _) (fun v σ' ⟨y, h1, h2⟩ => ⟨y, h1, Or.inr h2⟩)
theorem um_8 {xs : Nat × (Nat → Int32)} (p0 : Int) (p1 : Int) (vv : Int) (hp0 : -2147483648 ≤ p0 ∧ p0 ≤ 2147483647) (hp1 : -2147483648 ≤ p1 ∧ p1 ≤ 2147483647) (z : Int) (σ' : ZS) (hP : PX_8 p0 p1 vv z σ') : CT xs 120 136 [av 35 0 0, iv p0, iv p1, jv vv] σ' (fun v σ2 => ∃ y, v = some (iv y) ∧ (z = y) ∧ JR σ2) := hP.elim (um_8i p0 p1 vv hp0 hp1 z σ') (um_8o p0 p1 vv hp0 hp1 z σ')
def PX_9i (p0 : Int) (p1 : Int) (p2 : Int) (p3 : Int) (p4 : Int) (y : Int) (σ' : ZS) : Prop := ∃ σ, JR σ ∧ IF (MEq (Int.toNat p1)) σ σ' ∧ ((y = cpr (σ 33 0 (Int.toNat p0) 0) (σ 33 0 (Int.toNat p0) 1) (σ 33 0 (Int.toNat p1) 0) (σ 33 0 (Int.toNat p1) 1) ∧ (¬ cpr (σ 33 0 (Int.toNat p0) 0) (σ 33 0 (Int.toNat p0) 1) (σ 33 0 (Int.toNat p1) 0) (σ 33 0 (Int.toNat p1) 1) = 0)) ∨ (y = -4 ∧ ¬ (¬ cpr (σ 33 0 (Int.toNat p0) 0) (σ 33 0 (Int.toNat p0) 1) (σ 33 0 (Int.toNat p1) 0) (σ 33 0 (Int.toNat p1) 1) = 0) ∧ (p4 < 0)) ∨ (y = -5 ∧ ¬ (¬ cpr (σ 33 0 (Int.toNat p0) 0) (σ 33 0 (Int.toNat p0) 1) (σ 33 0 (Int.toNat p1) 0) (σ 33 0 (Int.toNat p1) 1) = 0) ∧ ¬ (p4 < 0) ∧ (¬ (0 ≤ p2 ∧ p2 + p4 ≤ (σ 33 0 (Int.toNat p0) 2) ∧ 0 ≤ p3 ∧ p3 + p4 ≤ (σ 33 0 (Int.toNat p1) 2)))) ∨ (y = 1 ∧ ¬ (¬ cpr (σ 33 0 (Int.toNat p0) 0) (σ 33 0 (Int.toNat p0) 1) (σ 33 0 (Int.toNat p1) 0) (σ 33 0 (Int.toNat p1) 1) = 0) ∧ ¬ (p4 < 0) ∧ ¬ (¬ (0 ≤ p2 ∧ p2 + p4 ≤ (σ 33 0 (Int.toNat p0) 2) ∧ 0 ≤ p3 ∧ p3 + p4 ≤ (σ 33 0 (Int.toNat p1) 2))))) ∧ (rcp (σ' 34 0 (Int.toNat p1)) y (fcp (σ 34 0 (Int.toNat p0)) (σ 34 0 (Int.toNat p1)) (Int.toNat p2) (Int.toNat p3) (Int.toNat p4)) (σ 34 0 (Int.toNat p1)) ∧ True) ∧ ((0 ≤ p0 ∧ p0 ≤ 7) ∧ (0 ≤ p1 ∧ p1 ≤ 7))
theorem ux_9i {xs : Nat × (Nat → Int32)} (p0 : Int) (p1 : Int) (p2 : Int) (p3 : Int) (p4 : Int) (hp0 : -2147483648 ≤ p0 ∧ p0 ≤ 2147483647) (hp1 : -2147483648 ≤ p1 ∧ p1 ≤ 2147483647) (hp2 : -2147483648 ≤ p2 ∧ p2 ≤ 2147483647) (hp3 : -2147483648 ≤ p3 ∧ p3 ≤ 2147483647) (hp4 : -2147483648 ≤ p4 ∧ p4 ≤ 2147483647) (σ : ZS) (hJ : JR σ) (hc : (0 ≤ p0 ∧ p0 ≤ 7) ∧ (0 ≤ p1 ∧ p1 ≤ 7)) : CT xs 120 85 [av 0 0 0, iv p0, iv p1, iv p2, iv p3, iv p4] σ (fun v σ' => ∃ y, v = some (iv y) ∧ PX_9i p0 p1 p2 p3 p4 y σ') := by
  have hN := hJ.1.2.2.2
  unfold NB at hN
  have hR := hJ.2.1
  unfold R1 RC1 at hR
  have rs_p0 := hJ.2.2.1 (Int.toNat p0) (by omega)
  have c_p0_0 := (hJ.1.1 33 0 (Int.toNat p0) 0 (vd_33 (by omega))).1
  have c_p0_1 := (hJ.1.1 33 0 (Int.toNat p0) 1 (vd_33 (by omega))).1
  have c_p0_3 := (hJ.1.1 33 0 (Int.toNat p0) 3 (vd_33 (by omega))).1
  have c_p0_2 : 0 ≤ σ 33 0 (Int.toNat p0) 2 ∧ σ 33 0 (Int.toNat p0) 2 ≤ 96 := (fun h => h.2 (by omega) (by omega)) (hJ.1.1 33 0 (Int.toNat p0) 2 (vd_33 (by omega)))
  have d_p0_1 : 0 ≤ σ 38 0 0 (Int.toNat p0) ∧ σ 38 0 0 (Int.toNat p0) ≤ 3 := (fun h => h.2 (by omega) (by omega)) (hJ.1.1 38 0 0 (Int.toNat p0) vd_38)
  have rs_p1 := hJ.2.2.1 (Int.toNat p1) (by omega)
  have c_p1_0 := (hJ.1.1 33 0 (Int.toNat p1) 0 (vd_33 (by omega))).1
  have c_p1_1 := (hJ.1.1 33 0 (Int.toNat p1) 1 (vd_33 (by omega))).1
  have c_p1_3 := (hJ.1.1 33 0 (Int.toNat p1) 3 (vd_33 (by omega))).1
  have c_p1_2 : 0 ≤ σ 33 0 (Int.toNat p1) 2 ∧ σ 33 0 (Int.toNat p1) 2 ≤ 96 := (fun h => h.2 (by omega) (by omega)) (hJ.1.1 33 0 (Int.toNat p1) 2 (vd_33 (by omega)))
  have d_p1_1 : 0 ≤ σ 38 0 0 (Int.toNat p1) ∧ σ 38 0 0 (Int.toNat p1) ≤ 3 := (fun h => h.2 (by omega) (by omega)) (hJ.1.1 38 0 0 (Int.toNat p1) vd_38)
  exact (s_85e p0 p1 p2 p3 p4 ((σ 33 0 (Int.toNat p0) 0)) ((σ 33 0 (Int.toNat p0) 1)) ((σ 33 0 (Int.toNat p0) 2)) ((σ 33 0 (Int.toNat p1) 0)) ((σ 33 0 (Int.toNat p1) 1)) ((σ 33 0 (Int.toNat p1) 2)) ((σ 34 0 (Int.toNat p0))) ((σ 34 0 (Int.toNat p1))) (by omega) (by omega) (by omega) (by omega) (by omega) (by omega) (by omega) (by omega) (by omega) (by omega) (by omega) σ hJ.1.1 rfl rfl rfl rfl rfl rfl rfl rfl).le (Nat.le_of_ble_eq_true rfl) (fun v σ' ⟨y, h1, h2, h3, h4⟩ => ⟨y, h1, σ, hJ, h3, h2, h4, hc⟩)
theorem um_9i {xs : Nat × (Nat → Int32)} (p0 : Int) (p1 : Int) (p2 : Int) (p3 : Int) (p4 : Int) (hp0 : -2147483648 ≤ p0 ∧ p0 ≤ 2147483647) (hp1 : -2147483648 ≤ p1 ∧ p1 ≤ 2147483647) (hp2 : -2147483648 ≤ p2 ∧ p2 ≤ 2147483647) (hp3 : -2147483648 ≤ p3 ∧ p3 ≤ 2147483647) (hp4 : -2147483648 ≤ p4 ∧ p4 ≤ 2147483647) (z : Int) (σ' : ZS) (hP : PX_9i p0 p1 p2 p3 p4 z σ') : CT xs 120 137 [av 35 0 0, iv p0, iv p1, iv p2, iv p3, iv p4] σ' (fun v σ2 => ∃ y, v = some (iv y) ∧ (z = y) ∧ JR σ2) := by
  obtain ⟨σ, hJ, h3, h2, h4, hc⟩ := hP
  have hR := hJ.2.1
  unfold R1 RC1 at hR
  have hJ' : JL σ' := hJ.1.fr h3 (fun t i k j q => by unfold MEq at q; unfold wj; omega)
  have hN := hJ'.2.2.2
  unfold NB at hN
  have hI := hJ'.1
  have e_1_0_0_6 : σ' 1 0 0 6 = σ 1 0 0 6 := h3.2 1 0 0 6 (by unfold MEq; omega)
  have e_1_0_0_5 : σ' 1 0 0 5 = σ 1 0 0 5 := h3.2 1 0 0 5 (by unfold MEq; omega)
  have e_1_1_0_6 : σ' 1 1 0 6 = σ 1 1 0 6 := h3.2 1 1 0 6 (by unfold MEq; omega)
  have e_1_1_0_5 : σ' 1 1 0 5 = σ 1 1 0 5 := h3.2 1 1 0 5 (by unfold MEq; omega)
  have e_0_0_0_3 : σ' 0 0 0 3 = σ 0 0 0 3 := h3.2 0 0 0 3 (by unfold MEq; omega)
  have e_36_0_0_641 : σ' 36 0 0 641 = σ 36 0 0 641 := h3.2 36 0 0 641 (by unfold MEq; omega)
  have e_36_0_0_640 : σ' 36 0 0 640 = σ 36 0 0 640 := h3.2 36 0 0 640 (by unfold MEq; omega)
  have e_36_0_2_641 : σ' 36 0 2 641 = σ 36 0 2 641 := h3.2 36 0 2 641 (by unfold MEq; omega)
  have e_36_0_2_640 : σ' 36 0 2 640 = σ 36 0 2 640 := h3.2 36 0 2 640 (by unfold MEq; omega)
  have e_35_0_0_3 : σ' 35 0 0 3 = σ 35 0 0 3 := h3.2 35 0 0 3 (by unfold MEq; omega)
  have p_641 : 0 ≤ σ' 36 0 0 641 ∧ σ' 36 0 0 641 ≤ 12 := (fun h => h.2.2.2.2.2.2.2.2.2.2.2.2.1 (by omega) (by omega)) (hI 36 0 0 641 (vd_36 (by omega)))
  have p_642 : 0 ≤ σ' 36 0 0 642 ∧ σ' 36 0 0 642 ≤ 6 := (fun h => h.2.2.2.2.2.2.2.2.2.2.2.2.2 (by omega) (by omega)) (hI 36 0 0 642 (vd_36 (by omega)))
  have p_637 : 0 ≤ σ' 36 0 0 637 ∧ σ' 36 0 0 637 ≤ 99 := (fun h => h.2.2.2.2.2.2.2.2.1 (by omega) (by omega)) (hI 36 0 0 637 (vd_36 (by omega)))
  have p_638 : 0 ≤ σ' 36 0 0 638 ∧ σ' 36 0 0 638 ≤ 9 := (fun h => h.2.2.2.2.2.2.2.2.2.1 (by omega) (by omega)) (hI 36 0 0 638 (vd_36 (by omega)))
  have p_639 : 0 ≤ σ' 36 0 0 639 ∧ σ' 36 0 0 639 ≤ 9999 := (fun h => h.2.2.2.2.2.2.2.2.2.2.1 (by omega) (by omega)) (hI 36 0 0 639 (vd_36 (by omega)))
  have rs_p0 := hJ.2.2.1 (Int.toNat p0) (by omega)
  have m_p0_0 : 0 ≤ σ' 37 0 0 (Int.toNat p0) ∧ σ' 37 0 0 (Int.toNat p0) ≤ 2 := (fun h => h.2 (by omega) (by omega)) (hI 37 0 0 (Int.toNat p0) vd_37)
  have e_p0_0 : σ' 37 0 0 (Int.toNat p0) = σ 37 0 0 (Int.toNat p0) := h3.2 37 0 0 (Int.toNat p0) (by unfold MEq; omega)
  have m_p0_1 : 0 ≤ σ' 38 0 0 (Int.toNat p0) ∧ σ' 38 0 0 (Int.toNat p0) ≤ 3 := (fun h => h.2 (by omega) (by omega)) (hI 38 0 0 (Int.toNat p0) vd_38)
  have e_p0_1 : σ' 38 0 0 (Int.toNat p0) = σ 38 0 0 (Int.toNat p0) := h3.2 38 0 0 (Int.toNat p0) (by unfold MEq; omega)
  have m_p0_2 : 0 ≤ σ' 39 0 0 (Int.toNat p0) ∧ σ' 39 0 0 (Int.toNat p0) ≤ 96 := (fun h => h.2 (by omega) (by omega)) (hI 39 0 0 (Int.toNat p0) vd_39)
  have e_p0_2 : σ' 39 0 0 (Int.toNat p0) = σ 39 0 0 (Int.toNat p0) := h3.2 39 0 0 (Int.toNat p0) (by unfold MEq; omega)
  have m_p0_3 : -1 ≤ σ' 40 0 0 (Int.toNat p0) ∧ σ' 40 0 0 (Int.toNat p0) ≤ 11 := (fun h => h.2 (by omega) (by omega)) (hI 40 0 0 (Int.toNat p0) vd_40)
  have e_p0_3 : σ' 40 0 0 (Int.toNat p0) = σ 40 0 0 (Int.toNat p0) := h3.2 40 0 0 (Int.toNat p0) (by unfold MEq; omega)
  have rs_p1 := hJ.2.2.1 (Int.toNat p1) (by omega)
  have m_p1_0 : 0 ≤ σ' 37 0 0 (Int.toNat p1) ∧ σ' 37 0 0 (Int.toNat p1) ≤ 2 := (fun h => h.2 (by omega) (by omega)) (hI 37 0 0 (Int.toNat p1) vd_37)
  have e_p1_0 : σ' 37 0 0 (Int.toNat p1) = σ 37 0 0 (Int.toNat p1) := h3.2 37 0 0 (Int.toNat p1) (by unfold MEq; omega)
  have m_p1_1 : 0 ≤ σ' 38 0 0 (Int.toNat p1) ∧ σ' 38 0 0 (Int.toNat p1) ≤ 3 := (fun h => h.2 (by omega) (by omega)) (hI 38 0 0 (Int.toNat p1) vd_38)
  have e_p1_1 : σ' 38 0 0 (Int.toNat p1) = σ 38 0 0 (Int.toNat p1) := h3.2 38 0 0 (Int.toNat p1) (by unfold MEq; omega)
  have m_p1_2 : 0 ≤ σ' 39 0 0 (Int.toNat p1) ∧ σ' 39 0 0 (Int.toNat p1) ≤ 96 := (fun h => h.2 (by omega) (by omega)) (hI 39 0 0 (Int.toNat p1) vd_39)
  have e_p1_2 : σ' 39 0 0 (Int.toNat p1) = σ 39 0 0 (Int.toNat p1) := h3.2 39 0 0 (Int.toNat p1) (by unfold MEq; omega)
  have m_p1_3 : -1 ≤ σ' 40 0 0 (Int.toNat p1) ∧ σ' 40 0 0 (Int.toNat p1) ≤ 11 := (fun h => h.2 (by omega) (by omega)) (hI 40 0 0 (Int.toNat p1) vd_40)
  have e_p1_3 : σ' 40 0 0 (Int.toNat p1) = σ 40 0 0 (Int.toNat p1) := h3.2 40 0 0 (Int.toNat p1) (by unfold MEq; omega)
  refine (r_137e p0 p1 p2 p3 p4 ((σ' 37 0 0 (Int.toNat p0))) ((σ' 38 0 0 (Int.toNat p0))) ((σ' 39 0 0 (Int.toNat p0))) ((σ' 37 0 0 (Int.toNat p1))) ((σ' 38 0 0 (Int.toNat p1))) ((σ' 39 0 0 (Int.toNat p1))) ((σ' 41 0 0)) (by omega) (by omega) (by omega) (by omega) (by omega) (by omega) (by omega) (by omega) (by omega) (by omega) (by omega) σ' hI  rfl rfl rfl rfl rfl rfl rfl).le (Nat.le_of_ble_eq_true rfl) (fun v σ2 hq => ?_)
  obtain ⟨y, g1, g2, g3, g4⟩ := hq
  have f_1_0_0_6 : σ2 1 0 0 6 = σ' 1 0 0 6 := g3.2 1 0 0 6 (by unfold MEd; omega)
  have f_1_0_0_5 : σ2 1 0 0 5 = σ' 1 0 0 5 := g3.2 1 0 0 5 (by unfold MEd; omega)
  have f_1_1_0_6 : σ2 1 1 0 6 = σ' 1 1 0 6 := g3.2 1 1 0 6 (by unfold MEd; omega)
  have f_1_1_0_5 : σ2 1 1 0 5 = σ' 1 1 0 5 := g3.2 1 1 0 5 (by unfold MEd; omega)
  have f_0_0_0_3 : σ2 0 0 0 3 = σ' 0 0 0 3 := g3.2 0 0 0 3 (by unfold MEd; omega)
  have f_36_0_0_641 : σ2 36 0 0 641 = σ' 36 0 0 641 := g3.2 36 0 0 641 (by unfold MEd; omega)
  have f_36_0_0_640 : σ2 36 0 0 640 = σ' 36 0 0 640 := g3.2 36 0 0 640 (by unfold MEd; omega)
  have f_36_0_2_641 : σ2 36 0 2 641 = σ' 36 0 2 641 := g3.2 36 0 2 641 (by unfold MEd; omega)
  have f_36_0_2_640 : σ2 36 0 2 640 = σ' 36 0 2 640 := g3.2 36 0 2 640 (by unfold MEd; omega)
  have f_35_0_0_3 : σ2 35 0 0 3 = σ' 35 0 0 3 := g3.2 35 0 0 3 (by unfold MEd; omega)
  have hv0 : (σ' 37 0 0 (Int.toNat p0)) = (σ 33 0 (Int.toNat p0) 0) := by clear h2 g2 h4 g4; omega
  have hv1 : (σ' 38 0 0 (Int.toNat p0)) = (σ 33 0 (Int.toNat p0) 1) := by clear h2 g2 h4 g4; omega
  have hv2 : (σ' 39 0 0 (Int.toNat p0)) = (σ 33 0 (Int.toNat p0) 2) := by clear h2 g2 h4 g4; omega
  have hv3 : (σ' 37 0 0 (Int.toNat p1)) = (σ 33 0 (Int.toNat p1) 0) := by clear h2 g2 h4 g4; omega
  have hv4 : (σ' 38 0 0 (Int.toNat p1)) = (σ 33 0 (Int.toNat p1) 1) := by clear h2 g2 h4 g4; omega
  have hv5 : (σ' 39 0 0 (Int.toNat p1)) = (σ 33 0 (Int.toNat p1) 2) := by clear h2 g2 h4 g4; omega
  have hz : z = y := by
    rw [hv0, hv1, hv2, hv3, hv4, hv5] at g2
    exact cs_4 h2 g2
  have k0 := h4.1
  have l0 := g4.1
  refine ⟨y, g1, hz, ?_, ?_, ?_⟩
  · exact hJ'.fr g3 (fun t i k j q => by unfold MEd at q; unfold wj; omega)
  · unfold R1 RC1
    clear h2 g2
    refine ⟨⟨(by rw [f_1_0_0_6, f_36_0_0_641, e_1_0_0_6, e_36_0_0_641]; exact hR.1.1), (by rw [f_1_0_0_5, f_36_0_0_640, e_1_0_0_5, e_36_0_0_640]; exact hR.1.2)⟩, (by rw [f_0_0_0_3, f_35_0_0_3, e_0_0_0_3, e_35_0_0_3]; exact hR.2.1), fun q => ?_⟩
    have q' := hR.2.2 (by rw [← e_35_0_0_3, ← f_35_0_0_3]; exact q)
    exact ⟨(by rw [f_1_1_0_6, f_36_0_2_641, e_1_1_0_6, e_36_0_2_641]; exact q'.1), (by rw [f_1_1_0_5, f_36_0_2_640, e_1_1_0_5, e_36_0_2_640]; exact q'.2)⟩
  · skip
    refine ⟨?_, ?_, ?_⟩
    · skip
      exact (hJ.2.2.1.fr h3 (fun t i k j q => by unfold MEq at q; unfold rws; omega)).fr g3 (fun t i k j q => by unfold MEd at q; unfold rws; omega)
    · skip
      intro k hk j hj
      have c := g3.2 34 0 k j (by unfold MEd; omega)
      have e : ∀ n, σ' 41 0 0 n = σ 41 0 0 n := fun n => h3.2 41 0 0 n (by unfold MEq; omega)
      have hcr := cpr_rg (σ 33 0 (Int.toNat p0) 0) (σ 33 0 (Int.toNat p0) 1) (σ 33 0 (Int.toNat p1) 0) (σ 33 0 (Int.toNat p1) 1)
      by_cases h1 : z = 1
      · have hp : 0 ≤ p2 ∧ p2 + p4 ≤ 96 ∧ 0 ≤ p3 ∧ p3 + p4 ≤ 96 ∧ 0 ≤ p4 := by omega
        clear h2 g2
        have e1 := k0.1 h1
        have e2 := l0.1 (hz ▸ h1)
        rw [c, e2]
        by_cases hq : k = Int.toNat p1
        · subst hq
          rw [e1]
          unfold fcp
          by_cases hj1 : Int.toNat p3 ≤ j ∧ j < Int.toNat p3 + Int.toNat p4
          · rw [if_pos hj1, if_pos (by omega), e, show Int.toNat (96 * p0 + p2) + (96 * Int.toNat p1 + j - Int.toNat (96 * p1 + p3)) = 96 * Int.toNat p0 + (Int.toNat p2 + (j - Int.toNat p3)) from by omega]
            exact hJ.2.2.2.1 (Int.toNat p0) (by omega) _ (by omega)
          · rw [if_neg hj1, if_neg (by omega), e]
            exact hJ.2.2.2.1 (Int.toNat p1) (by omega) j hj
        · rw [h3.2 34 0 k j (by unfold MEq; omega)]
          unfold fcp
          rw [if_neg (by omega), e]
          exact hJ.2.2.2.1 k hk j hj
      · clear h2 g2
        rw [c, l0.2 (fun q => h1 (hz.trans q)), e]
        by_cases hq : k = Int.toNat p1
        · subst hq
          rw [k0.2 h1]
          exact hJ.2.2.2.1 (Int.toNat p1) (by omega) j hj
        · rw [h3.2 34 0 k j (by unfold MEq; omega)]
          exact hJ.2.2.2.1 k hk j hj
    · skip
      rw [g3.2 0 0 0 7 (by unfold MEd; omega), h3.2 0 0 0 7 (by unfold MEq; omega), g3.2 35 0 0 16 (by unfold MEd; omega), h3.2 35 0 0 16 (by unfold MEq; omega)]
      exact hJ.2.2.2.2
def PX_9o (p0 : Int) (p1 : Int) (p2 : Int) (p3 : Int) (p4 : Int) (y : Int) (σ' : ZS) : Prop := ∃ σ, JR σ ∧ IF (MI 0 28 28 28 28) σ σ' ∧ (y = -1) ∧ (True) ∧ (¬ ((0 ≤ p0 ∧ p0 ≤ 7) ∧ (0 ≤ p1 ∧ p1 ≤ 7)))
theorem ux_9o {xs : Nat × (Nat → Int32)} (p0 : Int) (p1 : Int) (p2 : Int) (p3 : Int) (p4 : Int) (hp0 : -2147483648 ≤ p0 ∧ p0 ≤ 2147483647) (hp1 : -2147483648 ≤ p1 ∧ p1 ≤ 2147483647) (hp2 : -2147483648 ≤ p2 ∧ p2 ≤ 2147483647) (hp3 : -2147483648 ≤ p3 ∧ p3 ≤ 2147483647) (hp4 : -2147483648 ≤ p4 ∧ p4 ≤ 2147483647) (σ : ZS) (hJ : JR σ) (hc : ¬ ((0 ≤ p0 ∧ p0 ≤ 7) ∧ (0 ≤ p1 ∧ p1 ≤ 7))) : CT xs 120 85 [av 0 0 0, iv p0, iv p1, iv p2, iv p3, iv p4] σ (fun v σ' => ∃ y, v = some (iv y) ∧ PX_9o p0 p1 p2 p3 p4 y σ') := by
  have hN := hJ.1.2.2.2
  unfold NB at hN
  have hR := hJ.2.1
  unfold R1 RC1 at hR
  exact (s_85o p0 p1 p2 p3 p4 (by omega) (by omega) (by omega) (by omega) (by omega) (by omega) σ hJ.1.1 ).le (Nat.le_of_ble_eq_true rfl) (fun v σ' ⟨y, h1, h2, h3, h4⟩ => ⟨y, h1, σ, hJ, h3, h2, h4, hc⟩)
theorem um_9o {xs : Nat × (Nat → Int32)} (p0 : Int) (p1 : Int) (p2 : Int) (p3 : Int) (p4 : Int) (hp0 : -2147483648 ≤ p0 ∧ p0 ≤ 2147483647) (hp1 : -2147483648 ≤ p1 ∧ p1 ≤ 2147483647) (hp2 : -2147483648 ≤ p2 ∧ p2 ≤ 2147483647) (hp3 : -2147483648 ≤ p3 ∧ p3 ≤ 2147483647) (hp4 : -2147483648 ≤ p4 ∧ p4 ≤ 2147483647) (z : Int) (σ' : ZS) (hP : PX_9o p0 p1 p2 p3 p4 z σ') : CT xs 120 137 [av 35 0 0, iv p0, iv p1, iv p2, iv p3, iv p4] σ' (fun v σ2 => ∃ y, v = some (iv y) ∧ (z = y) ∧ JR σ2) := by
  obtain ⟨σ, hJ, h3, h2, h4, hc⟩ := hP
  have hR := hJ.2.1
  unfold R1 RC1 at hR
  have hJ' : JL σ' := hJ.1.fr h3 (fun t i k j q => by unfold MI at q; unfold wj; omega)
  have hN := hJ'.2.2.2
  unfold NB at hN
  have hI := hJ'.1
  have e_1_0_0_6 : σ' 1 0 0 6 = σ 1 0 0 6 := h3.2 1 0 0 6 (by unfold MI; omega)
  have e_1_0_0_5 : σ' 1 0 0 5 = σ 1 0 0 5 := h3.2 1 0 0 5 (by unfold MI; omega)
  have e_1_1_0_6 : σ' 1 1 0 6 = σ 1 1 0 6 := h3.2 1 1 0 6 (by unfold MI; omega)
  have e_1_1_0_5 : σ' 1 1 0 5 = σ 1 1 0 5 := h3.2 1 1 0 5 (by unfold MI; omega)
  have e_0_0_0_3 : σ' 0 0 0 3 = σ 0 0 0 3 := h3.2 0 0 0 3 (by unfold MI; omega)
  have e_36_0_0_641 : σ' 36 0 0 641 = σ 36 0 0 641 := h3.2 36 0 0 641 (by unfold MI; omega)
  have e_36_0_0_640 : σ' 36 0 0 640 = σ 36 0 0 640 := h3.2 36 0 0 640 (by unfold MI; omega)
  have e_36_0_2_641 : σ' 36 0 2 641 = σ 36 0 2 641 := h3.2 36 0 2 641 (by unfold MI; omega)
  have e_36_0_2_640 : σ' 36 0 2 640 = σ 36 0 2 640 := h3.2 36 0 2 640 (by unfold MI; omega)
  have e_35_0_0_3 : σ' 35 0 0 3 = σ 35 0 0 3 := h3.2 35 0 0 3 (by unfold MI; omega)
  have p_641 : 0 ≤ σ' 36 0 0 641 ∧ σ' 36 0 0 641 ≤ 12 := (fun h => h.2.2.2.2.2.2.2.2.2.2.2.2.1 (by omega) (by omega)) (hI 36 0 0 641 (vd_36 (by omega)))
  have p_642 : 0 ≤ σ' 36 0 0 642 ∧ σ' 36 0 0 642 ≤ 6 := (fun h => h.2.2.2.2.2.2.2.2.2.2.2.2.2 (by omega) (by omega)) (hI 36 0 0 642 (vd_36 (by omega)))
  have p_637 : 0 ≤ σ' 36 0 0 637 ∧ σ' 36 0 0 637 ≤ 99 := (fun h => h.2.2.2.2.2.2.2.2.1 (by omega) (by omega)) (hI 36 0 0 637 (vd_36 (by omega)))
  have p_638 : 0 ≤ σ' 36 0 0 638 ∧ σ' 36 0 0 638 ≤ 9 := (fun h => h.2.2.2.2.2.2.2.2.2.1 (by omega) (by omega)) (hI 36 0 0 638 (vd_36 (by omega)))
  have p_639 : 0 ≤ σ' 36 0 0 639 ∧ σ' 36 0 0 639 ≤ 9999 := (fun h => h.2.2.2.2.2.2.2.2.2.2.1 (by omega) (by omega)) (hI 36 0 0 639 (vd_36 (by omega)))
  refine (r_137o p0 p1 p2 p3 p4 (by omega) (by omega) (by omega) (by omega) (by omega) (by omega) σ' hI  ).le (Nat.le_of_ble_eq_true rfl) (fun v σ2 hq => ?_)
  obtain ⟨y, g1, g2, g3, g4⟩ := hq
  have f_1_0_0_6 : σ2 1 0 0 6 = σ' 1 0 0 6 := g3.2 1 0 0 6 (by unfold MT; omega)
  have f_1_0_0_5 : σ2 1 0 0 5 = σ' 1 0 0 5 := g3.2 1 0 0 5 (by unfold MT; omega)
  have f_1_1_0_6 : σ2 1 1 0 6 = σ' 1 1 0 6 := g3.2 1 1 0 6 (by unfold MT; omega)
  have f_1_1_0_5 : σ2 1 1 0 5 = σ' 1 1 0 5 := g3.2 1 1 0 5 (by unfold MT; omega)
  have f_0_0_0_3 : σ2 0 0 0 3 = σ' 0 0 0 3 := g3.2 0 0 0 3 (by unfold MT; omega)
  have f_36_0_0_641 : σ2 36 0 0 641 = σ' 36 0 0 641 := g3.2 36 0 0 641 (by unfold MT; omega)
  have f_36_0_0_640 : σ2 36 0 0 640 = σ' 36 0 0 640 := g3.2 36 0 0 640 (by unfold MT; omega)
  have f_36_0_2_641 : σ2 36 0 2 641 = σ' 36 0 2 641 := g3.2 36 0 2 641 (by unfold MT; omega)
  have f_36_0_2_640 : σ2 36 0 2 640 = σ' 36 0 2 640 := g3.2 36 0 2 640 (by unfold MT; omega)
  have f_35_0_0_3 : σ2 35 0 0 3 = σ' 35 0 0 3 := g3.2 35 0 0 3 (by unfold MT; omega)
  have hz : z = y := by clear h4 g4; omega
  refine ⟨y, g1, hz, ?_, ?_, ?_⟩
  · exact hJ'.fr g3 (fun t i k j q => by unfold MT at q; unfold wj; omega)
  · unfold R1 RC1
    clear h2 g2
    refine ⟨⟨(by rw [f_1_0_0_6, f_36_0_0_641, e_1_0_0_6, e_36_0_0_641]; exact hR.1.1), (by rw [f_1_0_0_5, f_36_0_0_640, e_1_0_0_5, e_36_0_0_640]; exact hR.1.2)⟩, (by rw [f_0_0_0_3, f_35_0_0_3, e_0_0_0_3, e_35_0_0_3]; exact hR.2.1), fun q => ?_⟩
    have q' := hR.2.2 (by rw [← e_35_0_0_3, ← f_35_0_0_3]; exact q)
    exact ⟨(by rw [f_1_1_0_6, f_36_0_2_641, e_1_1_0_6, e_36_0_2_641]; exact q'.1), (by rw [f_1_1_0_5, f_36_0_2_640, e_1_1_0_5, e_36_0_2_640]; exact q'.2)⟩
  · exact (hJ.2.2.fr h3 (fun t i k j q => by unfold MI at q; unfold rwx; omega)).fr g3 (fun t i k j q => by unfold MT at q; unfold rwx; omega)
def PX_9 (p0 : Int) (p1 : Int) (p2 : Int) (p3 : Int) (p4 : Int) (y : Int) (σ' : ZS) : Prop := PX_9i p0 p1 p2 p3 p4 y σ' ∨ PX_9o p0 p1 p2 p3 p4 y σ'
theorem ux_9 {xs : Nat × (Nat → Int32)} (p0 : Int) (p1 : Int) (p2 : Int) (p3 : Int) (p4 : Int) (hp0 : -2147483648 ≤ p0 ∧ p0 ≤ 2147483647) (hp1 : -2147483648 ≤ p1 ∧ p1 ≤ 2147483647) (hp2 : -2147483648 ≤ p2 ∧ p2 ≤ 2147483647) (hp3 : -2147483648 ≤ p3 ∧ p3 ≤ 2147483647) (hp4 : -2147483648 ≤ p4 ∧ p4 ≤ 2147483647) (σ : ZS) (hJ : JR σ) : CT xs 120 85 [av 0 0 0, iv p0, iv p1, iv p2, iv p3, iv p4] σ (fun v σ' => ∃ y, v = some (iv y) ∧ PX_9 p0 p1 p2 p3 p4 y σ') := by
  by_cases h0 : (0 ≤ p0 ∧ p0 ≤ 7) ∧ (0 ≤ p1 ∧ p1 ≤ 7)
  · exact (ux_9i p0 p1 p2 p3 p4 hp0 hp1 hp2 hp3 hp4 σ hJ h0).le (Nat.le_refl _) (fun v σ' ⟨y, h1, h2⟩ => ⟨y, h1, Or.inl h2⟩)
  · exact (ux_9o p0 p1 p2 p3 p4 hp0 hp1 hp2 hp3 hp4 σ hJ h0).le (Nat.le_refl _) (fun v σ' ⟨y, h1, h2⟩ => ⟨y, h1, Or.inr h2⟩)
theorem um_9 {xs : Nat × (Nat → Int32)} (p0 : Int) (p1 : Int) (p2 : Int) (p3 : Int) (p4 : Int) (hp0 : -2147483648 ≤ p0 ∧ p0 ≤ 2147483647) (hp1 : -2147483648 ≤ p1 ∧ p1 ≤ 2147483647) (hp2 : -2147483648 ≤ p2 ∧ p2 ≤ 2147483647) (hp3 : -2147483648 ≤ p3 ∧ p3 ≤ 2147483647) (hp4 : -2147483648 ≤ p4 ∧ p4 ≤ 2147483647) (z : Int) (σ' : ZS) (hP : PX_9 p0 p1 p2 p3 p4 z σ') : CT xs 120 137 [av 35 0 0, iv p0, iv p1, iv p2, iv p3, iv p4] σ' (fun v σ2 => ∃ y, v = some (iv y) ∧ (z = y) ∧ JR σ2) := hP.elim (um_9i p0 p1 p2 p3 p4 hp0 hp1 hp2 hp3 hp4 z σ') (um_9o p0 p1 p2 p3 p4 hp0 hp1 hp2 hp3 hp4 z σ')
def PX_11i (p0 : Int) (p1 : Int) (y : Int) (σ' : ZS) : Prop := ∃ σ, JR σ ∧ IF (MSw (Int.toNat p0)) σ σ' ∧ ((y = -1 ∧ (¬ (p1 = -1 ∨ (0 ≤ p1 ∧ p1 < (σ 1 0 0 6))))) ∨ (y = 0 ∧ ¬ (¬ (p1 = -1 ∨ (0 ≤ p1 ∧ p1 < (σ 1 0 0 6)))) ∧ (p1 = -1)) ∨ (y = 1 ∧ ¬ (¬ (p1 = -1 ∨ (0 ≤ p1 ∧ p1 < (σ 1 0 0 6)))) ∧ ¬ (p1 = -1))) ∧ (((y = 1 → σ' 33 0 (Int.toNat p0) 0 = 2) ∧ (y = 0 → σ' 33 0 (Int.toNat p0) 0 = 0) ∧ (y < 0 → σ' 33 0 (Int.toNat p0) 0 = (σ 33 0 (Int.toNat p0) 0))) ∧ (σ' 33 0 (Int.toNat p0) 1 = (σ 33 0 (Int.toNat p0) 1)) ∧ (σ' 33 0 (Int.toNat p0) 2 = (σ 33 0 (Int.toNat p0) 2)) ∧ ((y = 1 → σ' 33 0 (Int.toNat p0) 3 = p1) ∧ (y < 0 → σ' 33 0 (Int.toNat p0) 3 = (σ 33 0 (Int.toNat p0) 3))) ∧ True) ∧ (0 ≤ p0 ∧ p0 ≤ 7)
theorem ux_11i {xs : Nat × (Nat → Int32)} (p0 : Int) (p1 : Int) (hp0 : -2147483648 ≤ p0 ∧ p0 ≤ 2147483647) (hp1 : -2147483648 ≤ p1 ∧ p1 ≤ 2147483647) (σ : ZS) (hJ : JR σ) (hc : 0 ≤ p0 ∧ p0 ≤ 7) : CT xs 120 87 [av 0 0 0, iv p0, iv p1] σ (fun v σ' => ∃ y, v = some (iv y) ∧ PX_11i p0 p1 y σ') := by
  have hN := hJ.1.2.2.2
  unfold NB at hN
  have hR := hJ.2.1
  unfold R1 RC1 at hR
  have q_0_6 : 0 ≤ σ 1 0 0 6 ∧ σ 1 0 0 6 ≤ 12 := (fun h => h.2.2.1 (by omega) (by omega)) (hJ.1.1 1 0 0 6 (vd_1 (by omega)))
  have q_0_7 : 0 ≤ σ 1 0 0 7 ∧ σ 1 0 0 7 ≤ 6 := (fun h => h.2.2.2.1 (by omega) (by omega)) (hJ.1.1 1 0 0 7 (vd_1 (by omega)))
  have q_0_10 : 0 ≤ σ 1 0 0 10 ∧ σ 1 0 0 10 ≤ 99 := (fun h => h.2.2.2.2.1 (by omega) (by omega)) (hJ.1.1 1 0 0 10 (vd_1 (by omega)))
  have q_0_11 : 1 ≤ σ 1 0 0 11 ∧ σ 1 0 0 11 ≤ 9 := (fun h => h.2.2.2.2.2.1 (by omega) (by omega)) (hJ.1.1 1 0 0 11 (vd_1 (by omega)))
  have q_0_12 : 0 ≤ σ 1 0 0 12 ∧ σ 1 0 0 12 ≤ 9999 := (fun h => h.2.2.2.2.2.2 (by omega) (by omega)) (hJ.1.1 1 0 0 12 (vd_1 (by omega)))
  have q_0_13 : -2147483648 ≤ σ 1 0 0 13 ∧ σ 1 0 0 13 ≤ 2147483647 := (fun h => (by have q := h.1; omega)) (hJ.1.1 1 0 0 13 (vd_1 (by omega)))
  have q_1_6 : 0 ≤ σ 1 1 0 6 ∧ σ 1 1 0 6 ≤ 12 := (fun h => h.2.2.1 (by omega) (by omega)) (hJ.1.1 1 1 0 6 (vd_1 (by omega)))
  have q_1_7 : 0 ≤ σ 1 1 0 7 ∧ σ 1 1 0 7 ≤ 6 := (fun h => h.2.2.2.1 (by omega) (by omega)) (hJ.1.1 1 1 0 7 (vd_1 (by omega)))
  have q_1_10 : 0 ≤ σ 1 1 0 10 ∧ σ 1 1 0 10 ≤ 99 := (fun h => h.2.2.2.2.1 (by omega) (by omega)) (hJ.1.1 1 1 0 10 (vd_1 (by omega)))
  have q_1_11 : 1 ≤ σ 1 1 0 11 ∧ σ 1 1 0 11 ≤ 9 := (fun h => h.2.2.2.2.2.1 (by omega) (by omega)) (hJ.1.1 1 1 0 11 (vd_1 (by omega)))
  have q_1_12 : 0 ≤ σ 1 1 0 12 ∧ σ 1 1 0 12 ≤ 9999 := (fun h => h.2.2.2.2.2.2 (by omega) (by omega)) (hJ.1.1 1 1 0 12 (vd_1 (by omega)))
  have q_1_13 : -2147483648 ≤ σ 1 1 0 13 ∧ σ 1 1 0 13 ≤ 2147483647 := (fun h => (by have q := h.1; omega)) (hJ.1.1 1 1 0 13 (vd_1 (by omega)))
  have rs_p0 := hJ.2.2.1 (Int.toNat p0) (by omega)
  have c_p0_0 := (hJ.1.1 33 0 (Int.toNat p0) 0 (vd_33 (by omega))).1
  have c_p0_1 := (hJ.1.1 33 0 (Int.toNat p0) 1 (vd_33 (by omega))).1
  have c_p0_3 := (hJ.1.1 33 0 (Int.toNat p0) 3 (vd_33 (by omega))).1
  have c_p0_2 : 0 ≤ σ 33 0 (Int.toNat p0) 2 ∧ σ 33 0 (Int.toNat p0) 2 ≤ 96 := (fun h => h.2 (by omega) (by omega)) (hJ.1.1 33 0 (Int.toNat p0) 2 (vd_33 (by omega)))
  have d_p0_1 : 0 ≤ σ 38 0 0 (Int.toNat p0) ∧ σ 38 0 0 (Int.toNat p0) ≤ 3 := (fun h => h.2 (by omega) (by omega)) (hJ.1.1 38 0 0 (Int.toNat p0) vd_38)
  exact (s_87 p0 p1 ((σ 1 0 0 6)) ((σ 33 0 (Int.toNat p0) 0)) ((σ 33 0 (Int.toNat p0) 1)) ((σ 33 0 (Int.toNat p0) 2)) ((σ 33 0 (Int.toNat p0) 3)) (by omega) (by omega) (by omega) (by omega) (by omega) (by omega) (by omega) σ hJ.1.1 rfl rfl rfl rfl rfl).le (Nat.le_of_ble_eq_true rfl) (fun v σ' ⟨y, h1, h2, h3, h4⟩ => ⟨y, h1, σ, hJ, h3, h2, h4, hc⟩)
theorem um_11i {xs : Nat × (Nat → Int32)} (p0 : Int) (p1 : Int) (hp0 : -2147483648 ≤ p0 ∧ p0 ≤ 2147483647) (hp1 : -2147483648 ≤ p1 ∧ p1 ≤ 2147483647) (z : Int) (σ' : ZS) (hP : PX_11i p0 p1 z σ') : CT xs 120 140 [av 35 0 0, iv p0, iv p1] σ' (fun v σ2 => ∃ y, v = some (iv y) ∧ (z = y) ∧ JR σ2) := by
  obtain ⟨σ, hJ, h3, h2, h4, hc⟩ := hP
  have hR := hJ.2.1
  unfold R1 RC1 at hR
  have hJ' : JL σ' := hJ.1.fr h3 (fun t i k j q => by unfold MSw at q; unfold wj; omega)
  have hN := hJ'.2.2.2
  unfold NB at hN
  have hI := hJ'.1
  have e_1_0_0_6 : σ' 1 0 0 6 = σ 1 0 0 6 := h3.2 1 0 0 6 (by unfold MSw; omega)
  have e_1_0_0_5 : σ' 1 0 0 5 = σ 1 0 0 5 := h3.2 1 0 0 5 (by unfold MSw; omega)
  have e_1_1_0_6 : σ' 1 1 0 6 = σ 1 1 0 6 := h3.2 1 1 0 6 (by unfold MSw; omega)
  have e_1_1_0_5 : σ' 1 1 0 5 = σ 1 1 0 5 := h3.2 1 1 0 5 (by unfold MSw; omega)
  have e_0_0_0_3 : σ' 0 0 0 3 = σ 0 0 0 3 := h3.2 0 0 0 3 (by unfold MSw; omega)
  have e_36_0_0_641 : σ' 36 0 0 641 = σ 36 0 0 641 := h3.2 36 0 0 641 (by unfold MSw; omega)
  have e_36_0_0_640 : σ' 36 0 0 640 = σ 36 0 0 640 := h3.2 36 0 0 640 (by unfold MSw; omega)
  have e_36_0_2_641 : σ' 36 0 2 641 = σ 36 0 2 641 := h3.2 36 0 2 641 (by unfold MSw; omega)
  have e_36_0_2_640 : σ' 36 0 2 640 = σ 36 0 2 640 := h3.2 36 0 2 640 (by unfold MSw; omega)
  have e_35_0_0_3 : σ' 35 0 0 3 = σ 35 0 0 3 := h3.2 35 0 0 3 (by unfold MSw; omega)
  have p_641 : 0 ≤ σ' 36 0 0 641 ∧ σ' 36 0 0 641 ≤ 12 := (fun h => h.2.2.2.2.2.2.2.2.2.2.2.2.1 (by omega) (by omega)) (hI 36 0 0 641 (vd_36 (by omega)))
  have p_642 : 0 ≤ σ' 36 0 0 642 ∧ σ' 36 0 0 642 ≤ 6 := (fun h => h.2.2.2.2.2.2.2.2.2.2.2.2.2 (by omega) (by omega)) (hI 36 0 0 642 (vd_36 (by omega)))
  have p_637 : 0 ≤ σ' 36 0 0 637 ∧ σ' 36 0 0 637 ≤ 99 := (fun h => h.2.2.2.2.2.2.2.2.1 (by omega) (by omega)) (hI 36 0 0 637 (vd_36 (by omega)))
  have p_638 : 0 ≤ σ' 36 0 0 638 ∧ σ' 36 0 0 638 ≤ 9 := (fun h => h.2.2.2.2.2.2.2.2.2.1 (by omega) (by omega)) (hI 36 0 0 638 (vd_36 (by omega)))
  have p_639 : 0 ≤ σ' 36 0 0 639 ∧ σ' 36 0 0 639 ≤ 9999 := (fun h => h.2.2.2.2.2.2.2.2.2.2.1 (by omega) (by omega)) (hI 36 0 0 639 (vd_36 (by omega)))
  have rs_p0 := hJ.2.2.1 (Int.toNat p0) (by omega)
  have m_p0_0 : 0 ≤ σ' 37 0 0 (Int.toNat p0) ∧ σ' 37 0 0 (Int.toNat p0) ≤ 2 := (fun h => h.2 (by omega) (by omega)) (hI 37 0 0 (Int.toNat p0) vd_37)
  have e_p0_0 : σ' 37 0 0 (Int.toNat p0) = σ 37 0 0 (Int.toNat p0) := h3.2 37 0 0 (Int.toNat p0) (by unfold MSw; omega)
  have m_p0_1 : 0 ≤ σ' 38 0 0 (Int.toNat p0) ∧ σ' 38 0 0 (Int.toNat p0) ≤ 3 := (fun h => h.2 (by omega) (by omega)) (hI 38 0 0 (Int.toNat p0) vd_38)
  have e_p0_1 : σ' 38 0 0 (Int.toNat p0) = σ 38 0 0 (Int.toNat p0) := h3.2 38 0 0 (Int.toNat p0) (by unfold MSw; omega)
  have m_p0_2 : 0 ≤ σ' 39 0 0 (Int.toNat p0) ∧ σ' 39 0 0 (Int.toNat p0) ≤ 96 := (fun h => h.2 (by omega) (by omega)) (hI 39 0 0 (Int.toNat p0) vd_39)
  have e_p0_2 : σ' 39 0 0 (Int.toNat p0) = σ 39 0 0 (Int.toNat p0) := h3.2 39 0 0 (Int.toNat p0) (by unfold MSw; omega)
  have m_p0_3 : -1 ≤ σ' 40 0 0 (Int.toNat p0) ∧ σ' 40 0 0 (Int.toNat p0) ≤ 11 := (fun h => h.2 (by omega) (by omega)) (hI 40 0 0 (Int.toNat p0) vd_40)
  have e_p0_3 : σ' 40 0 0 (Int.toNat p0) = σ 40 0 0 (Int.toNat p0) := h3.2 40 0 0 (Int.toNat p0) (by unfold MSw; omega)
  refine (r_140 p0 p1 ((σ' 36 0 0 641)) ((σ' 37 0 0 (Int.toNat p0))) ((σ' 40 0 0 (Int.toNat p0))) (by omega) (by omega) (by omega) (by omega) (by omega) σ' hI  rfl rfl rfl).le (Nat.le_of_ble_eq_true rfl) (fun v σ2 hq => ?_)
  obtain ⟨y, g1, g2, g3, g4⟩ := hq
  have f_1_0_0_6 : σ2 1 0 0 6 = σ' 1 0 0 6 := g3.2 1 0 0 6 (by unfold MBt; omega)
  have f_1_0_0_5 : σ2 1 0 0 5 = σ' 1 0 0 5 := g3.2 1 0 0 5 (by unfold MBt; omega)
  have f_1_1_0_6 : σ2 1 1 0 6 = σ' 1 1 0 6 := g3.2 1 1 0 6 (by unfold MBt; omega)
  have f_1_1_0_5 : σ2 1 1 0 5 = σ' 1 1 0 5 := g3.2 1 1 0 5 (by unfold MBt; omega)
  have f_0_0_0_3 : σ2 0 0 0 3 = σ' 0 0 0 3 := g3.2 0 0 0 3 (by unfold MBt; omega)
  have f_36_0_0_641 : σ2 36 0 0 641 = σ' 36 0 0 641 := g3.2 36 0 0 641 (by unfold MBt; omega)
  have f_36_0_0_640 : σ2 36 0 0 640 = σ' 36 0 0 640 := g3.2 36 0 0 640 (by unfold MBt; omega)
  have f_36_0_2_641 : σ2 36 0 2 641 = σ' 36 0 2 641 := g3.2 36 0 2 641 (by unfold MBt; omega)
  have f_36_0_2_640 : σ2 36 0 2 640 = σ' 36 0 2 640 := g3.2 36 0 2 640 (by unfold MBt; omega)
  have f_35_0_0_3 : σ2 35 0 0 3 = σ' 35 0 0 3 := g3.2 35 0 0 3 (by unfold MBt; omega)
  have hv0 : (σ' 36 0 0 641) = (σ 1 0 0 6) := by clear h2 g2 h4 g4; omega
  have hz : z = y := by
    rw [hv0] at g2
    exact cs_3 h2 g2
  have k0 := h4.1
  have k1 := h4.2.1
  have k2 := h4.2.2.1
  have k3 := h4.2.2.2.1
  have l0 := g4.1
  have l1 := g4.2.1
  refine ⟨y, g1, hz, ?_, ?_, ?_⟩
  · exact hJ'.fr g3 (fun t i k j q => by unfold MBt at q; unfold wj; omega)
  · unfold R1 RC1
    clear h2 g2
    refine ⟨⟨(by rw [f_1_0_0_6, f_36_0_0_641, e_1_0_0_6, e_36_0_0_641]; exact hR.1.1), (by rw [f_1_0_0_5, f_36_0_0_640, e_1_0_0_5, e_36_0_0_640]; exact hR.1.2)⟩, (by rw [f_0_0_0_3, f_35_0_0_3, e_0_0_0_3, e_35_0_0_3]; exact hR.2.1), fun q => ?_⟩
    have q' := hR.2.2 (by rw [← e_35_0_0_3, ← f_35_0_0_3]; exact q)
    exact ⟨(by rw [f_1_1_0_6, f_36_0_2_641, e_1_1_0_6, e_36_0_2_641]; exact q'.1), (by rw [f_1_1_0_5, f_36_0_2_640, e_1_1_0_5, e_36_0_2_640]; exact q'.2)⟩
  · skip
    have hzy := hz
    refine ⟨?_, ?_, ?_⟩
    · skip
      have hzr : z = 1 ∨ z = 0 ∨ z < 0 := by
        rcases h2 with q | q | q
        · exact Or.inr (Or.inr (by rw [q.1]; decide))
        · exact Or.inr (Or.inl q.1)
        · exact Or.inl q.1
      clear h2 g2
      intro k hk
      have r := hJ.2.2.1 k hk
      by_cases hq : k = Int.toNat p0
      · subst hq
        have c0 := g3.2 33 0 (Int.toNat p0) 0 (by unfold MBt; omega)
        have c1 := g3.2 33 0 (Int.toNat p0) 1 (by unfold MBt; omega)
        have c2 := g3.2 33 0 (Int.toNat p0) 2 (by unfold MBt; omega)
        have c3 := g3.2 33 0 (Int.toNat p0) 3 (by unfold MBt; omega)
        have f1 := g3.2 38 0 0 (Int.toNat p0) (by unfold MBt; omega)
        have f2 := g3.2 39 0 0 (Int.toNat p0) (by unfold MBt; omega)
        rcases hzr with h1 | h1 | h1
        · have a0 := k0.1 h1
          have a3 := k3.1 h1
          have b0 := l0.1 (hz ▸ h1)
          have b3 := l1.1 (hz ▸ h1)
          clear k0 k3 l0 l1 h4 g4
          refine ⟨?_, ?_, ?_, fun _ => ?_⟩ <;> omega
        · have a0 := k0.2.1 h1
          have b0 := l0.2.1 (hz ▸ h1)
          clear k0 k3 l0 l1 h4 g4
          refine ⟨?_, ?_, ?_, fun _ => ?_⟩ <;> omega
        · have a0 := k0.2.2 h1
          have a3 := k3.2 h1
          have b0 := l0.2.2 (hz ▸ h1)
          have b3 := l1.2 (hz ▸ h1)
          clear k0 k3 l0 l1 h4 g4
          refine ⟨?_, ?_, ?_, fun _ => ?_⟩ <;> omega
      · have c0 := g3.2 33 0 k 0 (by unfold MBt; omega)
        have d0 := h3.2 33 0 k 0 (by unfold MSw; omega)
        have f0 := g3.2 37 0 0 k (by unfold MBt; omega)
        have e0 := h3.2 37 0 0 k (by unfold MSw; omega)
        have c1 := g3.2 33 0 k 1 (by unfold MBt; omega)
        have d1 := h3.2 33 0 k 1 (by unfold MSw; omega)
        have f1 := g3.2 38 0 0 k (by unfold MBt; omega)
        have e1 := h3.2 38 0 0 k (by unfold MSw; omega)
        have c2 := g3.2 33 0 k 2 (by unfold MBt; omega)
        have d2 := h3.2 33 0 k 2 (by unfold MSw; omega)
        have f2 := g3.2 39 0 0 k (by unfold MBt; omega)
        have e2 := h3.2 39 0 0 k (by unfold MSw; omega)
        have c3 := g3.2 33 0 k 3 (by unfold MBt; omega)
        have d3 := h3.2 33 0 k 3 (by unfold MSw; omega)
        have f3 := g3.2 40 0 0 k (by unfold MBt; omega)
        have e3 := h3.2 40 0 0 k (by unfold MSw; omega)
        rw [c0, d0, f0, e0, c1, d1, f1, e1, c2, d2, f2, e2, c3, d3, f3, e3]
        exact r
    · skip
      exact (hJ.2.2.2.1.fr h3 (fun t i k j q => by unfold MSw at q; omega)).fr g3 (fun t i k j q => by unfold MBt at q; omega)
    · skip
      rw [g3.2 0 0 0 7 (by unfold MBt; omega), h3.2 0 0 0 7 (by unfold MSw; omega), g3.2 35 0 0 16 (by unfold MBt; omega), h3.2 35 0 0 16 (by unfold MSw; omega)]
      exact hJ.2.2.2.2
def PX_11o (p0 : Int) (p1 : Int) (y : Int) (σ' : ZS) : Prop := ∃ σ, JR σ ∧ IF (MI 0 28 28 28 28) σ σ' ∧ (y = -1) ∧ (True) ∧ (¬ (0 ≤ p0 ∧ p0 ≤ 7))
theorem ux_11o {xs : Nat × (Nat → Int32)} (p0 : Int) (p1 : Int) (hp0 : -2147483648 ≤ p0 ∧ p0 ≤ 2147483647) (hp1 : -2147483648 ≤ p1 ∧ p1 ≤ 2147483647) (σ : ZS) (hJ : JR σ) (hc : ¬ (0 ≤ p0 ∧ p0 ≤ 7)) : CT xs 120 87 [av 0 0 0, iv p0, iv p1] σ (fun v σ' => ∃ y, v = some (iv y) ∧ PX_11o p0 p1 y σ') := by
  have hN := hJ.1.2.2.2
  unfold NB at hN
  have hR := hJ.2.1
  unfold R1 RC1 at hR
  exact (s_87o p0 p1 (by omega) (by omega) (by omega) σ hJ.1.1 ).le (Nat.le_of_ble_eq_true rfl) (fun v σ' ⟨y, h1, h2, h3, h4⟩ => ⟨y, h1, σ, hJ, h3, h2, h4, hc⟩)
theorem um_11o {xs : Nat × (Nat → Int32)} (p0 : Int) (p1 : Int) (hp0 : -2147483648 ≤ p0 ∧ p0 ≤ 2147483647) (hp1 : -2147483648 ≤ p1 ∧ p1 ≤ 2147483647) (z : Int) (σ' : ZS) (hP : PX_11o p0 p1 z σ') : CT xs 120 140 [av 35 0 0, iv p0, iv p1] σ' (fun v σ2 => ∃ y, v = some (iv y) ∧ (z = y) ∧ JR σ2) := by
  obtain ⟨σ, hJ, h3, h2, h4, hc⟩ := hP
  have hR := hJ.2.1
  unfold R1 RC1 at hR
  have hJ' : JL σ' := hJ.1.fr h3 (fun t i k j q => by unfold MI at q; unfold wj; omega)
  have hN := hJ'.2.2.2
  unfold NB at hN
  have hI := hJ'.1
  have e_1_0_0_6 : σ' 1 0 0 6 = σ 1 0 0 6 := h3.2 1 0 0 6 (by unfold MI; omega)
  have e_1_0_0_5 : σ' 1 0 0 5 = σ 1 0 0 5 := h3.2 1 0 0 5 (by unfold MI; omega)
  have e_1_1_0_6 : σ' 1 1 0 6 = σ 1 1 0 6 := h3.2 1 1 0 6 (by unfold MI; omega)
  have e_1_1_0_5 : σ' 1 1 0 5 = σ 1 1 0 5 := h3.2 1 1 0 5 (by unfold MI; omega)
  have e_0_0_0_3 : σ' 0 0 0 3 = σ 0 0 0 3 := h3.2 0 0 0 3 (by unfold MI; omega)
  have e_36_0_0_641 : σ' 36 0 0 641 = σ 36 0 0 641 := h3.2 36 0 0 641 (by unfold MI; omega)
  have e_36_0_0_640 : σ' 36 0 0 640 = σ 36 0 0 640 := h3.2 36 0 0 640 (by unfold MI; omega)
  have e_36_0_2_641 : σ' 36 0 2 641 = σ 36 0 2 641 := h3.2 36 0 2 641 (by unfold MI; omega)
  have e_36_0_2_640 : σ' 36 0 2 640 = σ 36 0 2 640 := h3.2 36 0 2 640 (by unfold MI; omega)
  have e_35_0_0_3 : σ' 35 0 0 3 = σ 35 0 0 3 := h3.2 35 0 0 3 (by unfold MI; omega)
  have p_641 : 0 ≤ σ' 36 0 0 641 ∧ σ' 36 0 0 641 ≤ 12 := (fun h => h.2.2.2.2.2.2.2.2.2.2.2.2.1 (by omega) (by omega)) (hI 36 0 0 641 (vd_36 (by omega)))
  have p_642 : 0 ≤ σ' 36 0 0 642 ∧ σ' 36 0 0 642 ≤ 6 := (fun h => h.2.2.2.2.2.2.2.2.2.2.2.2.2 (by omega) (by omega)) (hI 36 0 0 642 (vd_36 (by omega)))
  have p_637 : 0 ≤ σ' 36 0 0 637 ∧ σ' 36 0 0 637 ≤ 99 := (fun h => h.2.2.2.2.2.2.2.2.1 (by omega) (by omega)) (hI 36 0 0 637 (vd_36 (by omega)))
  have p_638 : 0 ≤ σ' 36 0 0 638 ∧ σ' 36 0 0 638 ≤ 9 := (fun h => h.2.2.2.2.2.2.2.2.2.1 (by omega) (by omega)) (hI 36 0 0 638 (vd_36 (by omega)))
  have p_639 : 0 ≤ σ' 36 0 0 639 ∧ σ' 36 0 0 639 ≤ 9999 := (fun h => h.2.2.2.2.2.2.2.2.2.2.1 (by omega) (by omega)) (hI 36 0 0 639 (vd_36 (by omega)))
  refine (r_140o p0 p1 (by omega) (by omega) (by omega) σ' hI  ).le (Nat.le_of_ble_eq_true rfl) (fun v σ2 hq => ?_)
  obtain ⟨y, g1, g2, g3, g4⟩ := hq
  have f_1_0_0_6 : σ2 1 0 0 6 = σ' 1 0 0 6 := g3.2 1 0 0 6 (by unfold MT; omega)
  have f_1_0_0_5 : σ2 1 0 0 5 = σ' 1 0 0 5 := g3.2 1 0 0 5 (by unfold MT; omega)
  have f_1_1_0_6 : σ2 1 1 0 6 = σ' 1 1 0 6 := g3.2 1 1 0 6 (by unfold MT; omega)
  have f_1_1_0_5 : σ2 1 1 0 5 = σ' 1 1 0 5 := g3.2 1 1 0 5 (by unfold MT; omega)
  have f_0_0_0_3 : σ2 0 0 0 3 = σ' 0 0 0 3 := g3.2 0 0 0 3 (by unfold MT; omega)
  have f_36_0_0_641 : σ2 36 0 0 641 = σ' 36 0 0 641 := g3.2 36 0 0 641 (by unfold MT; omega)
  have f_36_0_0_640 : σ2 36 0 0 640 = σ' 36 0 0 640 := g3.2 36 0 0 640 (by unfold MT; omega)
  have f_36_0_2_641 : σ2 36 0 2 641 = σ' 36 0 2 641 := g3.2 36 0 2 641 (by unfold MT; omega)
  have f_36_0_2_640 : σ2 36 0 2 640 = σ' 36 0 2 640 := g3.2 36 0 2 640 (by unfold MT; omega)
  have f_35_0_0_3 : σ2 35 0 0 3 = σ' 35 0 0 3 := g3.2 35 0 0 3 (by unfold MT; omega)
  have hz : z = y := by clear h4 g4; omega
  refine ⟨y, g1, hz, ?_, ?_, ?_⟩
  · exact hJ'.fr g3 (fun t i k j q => by unfold MT at q; unfold wj; omega)
  · unfold R1 RC1
    clear h2 g2
    refine ⟨⟨(by rw [f_1_0_0_6, f_36_0_0_641, e_1_0_0_6, e_36_0_0_641]; exact hR.1.1), (by rw [f_1_0_0_5, f_36_0_0_640, e_1_0_0_5, e_36_0_0_640]; exact hR.1.2)⟩, (by rw [f_0_0_0_3, f_35_0_0_3, e_0_0_0_3, e_35_0_0_3]; exact hR.2.1), fun q => ?_⟩
    have q' := hR.2.2 (by rw [← e_35_0_0_3, ← f_35_0_0_3]; exact q)
    exact ⟨(by rw [f_1_1_0_6, f_36_0_2_641, e_1_1_0_6, e_36_0_2_641]; exact q'.1), (by rw [f_1_1_0_5, f_36_0_2_640, e_1_1_0_5, e_36_0_2_640]; exact q'.2)⟩
  · exact (hJ.2.2.fr h3 (fun t i k j q => by unfold MI at q; unfold rwx; omega)).fr g3 (fun t i k j q => by unfold MT at q; unfold rwx; omega)
def PX_11 (p0 : Int) (p1 : Int) (y : Int) (σ' : ZS) : Prop := PX_11i p0 p1 y σ' ∨ PX_11o p0 p1 y σ'
theorem ux_11 {xs : Nat × (Nat → Int32)} (p0 : Int) (p1 : Int) (hp0 : -2147483648 ≤ p0 ∧ p0 ≤ 2147483647) (hp1 : -2147483648 ≤ p1 ∧ p1 ≤ 2147483647) (σ : ZS) (hJ : JR σ) : CT xs 120 87 [av 0 0 0, iv p0, iv p1] σ (fun v σ' => ∃ y, v = some (iv y) ∧ PX_11 p0 p1 y σ') := by
  by_cases h0 : 0 ≤ p0 ∧ p0 ≤ 7
  · exact (ux_11i p0 p1 hp0 hp1 σ hJ h0).le (Nat.le_refl _) (fun v σ' ⟨y, h1, h2⟩ => ⟨y, h1, Or.inl h2⟩)
  · exact (ux_11o p0 p1 hp0 hp1 σ hJ h0).le (Nat.le_refl _) (fun v σ' ⟨y, h1, h2⟩ => ⟨y, h1, Or.inr h2⟩)
theorem um_11 {xs : Nat × (Nat → Int32)} (p0 : Int) (p1 : Int) (hp0 : -2147483648 ≤ p0 ∧ p0 ≤ 2147483647) (hp1 : -2147483648 ≤ p1 ∧ p1 ≤ 2147483647) (z : Int) (σ' : ZS) (hP : PX_11 p0 p1 z σ') : CT xs 120 140 [av 35 0 0, iv p0, iv p1] σ' (fun v σ2 => ∃ y, v = some (iv y) ∧ (z = y) ∧ JR σ2) := hP.elim (um_11i p0 p1 hp0 hp1 z σ') (um_11o p0 p1 hp0 hp1 z σ')
def PX_17i (p0 : Int) (y : Int) (σ' : ZS) : Prop := ∃ σ, JR σ ∧ IF MLw σ σ' ∧ ((y = -2 ∧ ((σ 33 0 (Int.toNat p0) 0) = 2)) ∨ (y = -3 ∧ ¬ ((σ 33 0 (Int.toNat p0) 0) = 2) ∧ ((σ 33 0 (Int.toNat p0) 0) = 0)) ∨ (y = -6 ∧ ¬ ((σ 33 0 (Int.toNat p0) 0) = 2) ∧ ¬ ((σ 33 0 (Int.toNat p0) 0) = 0) ∧ (¬ LAWF (fun q => L2I ((σ 34 0 (Int.toNat p0)) q)) (σ 33 0 (Int.toNat p0) 2) = -1)) ∨ (y = -7 ∧ ¬ ((σ 33 0 (Int.toNat p0) 0) = 2) ∧ ¬ ((σ 33 0 (Int.toNat p0) 0) = 0) ∧ ¬ (¬ LAWF (fun q => L2I ((σ 34 0 (Int.toNat p0)) q)) (σ 33 0 (Int.toNat p0) 2) = -1) ∧ (5 ≤ (σ 1 0 0 5))) ∨ (y = (σ 1 0 0 5) ∧ ¬ ((σ 33 0 (Int.toNat p0) 0) = 2) ∧ ¬ ((σ 33 0 (Int.toNat p0) 0) = 0) ∧ ¬ (¬ LAWF (fun q => L2I ((σ 34 0 (Int.toNat p0)) q)) (σ 33 0 (Int.toNat p0) 2) = -1) ∧ ¬ (5 ≤ (σ 1 0 0 5)))) ∧ (((y < 0 → σ' 1 0 0 5 = (σ 1 0 0 5)) ∧ (0 ≤ y → σ' 1 0 0 5 = (σ 1 0 0 5) + 1)) ∧ (((σ 33 0 (Int.toNat p0) 0) = 2 ∨ (σ 33 0 (Int.toNat p0) 0) = 0 → σ' 0 0 0 7 = (σ 0 0 0 7)) ∧ (¬ (σ 33 0 (Int.toNat p0) 0) = 2 ∧ ¬ (σ 33 0 (Int.toNat p0) 0) = 0 → σ' 0 0 0 7 = LAWF (fun q => L2I ((σ 34 0 (Int.toNat p0)) q)) (σ 33 0 (Int.toNat p0) 2))) ∧ True) ∧ (0 ≤ p0 ∧ p0 ≤ 7)
theorem ux_17i {xs : Nat × (Nat → Int32)} (p0 : Int) (hp0 : -2147483648 ≤ p0 ∧ p0 ≤ 2147483647) (σ : ZS) (hJ : JR σ) (hc : 0 ≤ p0 ∧ p0 ≤ 7) : CT xs 120 93 [av 0 0 0, iv p0] σ (fun v σ' => ∃ y, v = some (iv y) ∧ PX_17i p0 y σ') := by
  have hN := hJ.1.2.2.2
  unfold NB at hN
  have hR := hJ.2.1
  unfold R1 RC1 at hR
  have rs_p0 := hJ.2.2.1 (Int.toNat p0) (by omega)
  have c_p0_0 := (hJ.1.1 33 0 (Int.toNat p0) 0 (vd_33 (by omega))).1
  have c_p0_1 := (hJ.1.1 33 0 (Int.toNat p0) 1 (vd_33 (by omega))).1
  have c_p0_3 := (hJ.1.1 33 0 (Int.toNat p0) 3 (vd_33 (by omega))).1
  have c_p0_2 : 0 ≤ σ 33 0 (Int.toNat p0) 2 ∧ σ 33 0 (Int.toNat p0) 2 ≤ 96 := (fun h => h.2 (by omega) (by omega)) (hJ.1.1 33 0 (Int.toNat p0) 2 (vd_33 (by omega)))
  have d_p0_1 : 0 ≤ σ 38 0 0 (Int.toNat p0) ∧ σ 38 0 0 (Int.toNat p0) ≤ 3 := (fun h => h.2 (by omega) (by omega)) (hJ.1.1 38 0 0 (Int.toNat p0) vd_38)
  have cn : 0 ≤ σ 1 0 0 5 ∧ σ 1 0 0 5 ≤ 5 := (fun h => h.2.1 (by omega) (by omega)) (hJ.1.1 1 0 0 5 (vd_1 (by omega)))
  exact (s_93 p0 ((σ 33 0 (Int.toNat p0) 0)) ((σ 33 0 (Int.toNat p0) 2)) ((σ 1 0 0 5)) ((σ 0 0 0 7)) ((σ 34 0 (Int.toNat p0))) (by omega) (by omega) (by omega) (by omega) σ hJ.1.1 rfl rfl rfl rfl rfl).le (Nat.le_of_ble_eq_true rfl) (fun v σ' ⟨y, h1, h2, h3, h4⟩ => ⟨y, h1, σ, hJ, h3, h2, h4, hc⟩)
theorem um_17i {xs : Nat × (Nat → Int32)} (p0 : Int) (hp0 : -2147483648 ≤ p0 ∧ p0 ≤ 2147483647) (z : Int) (σ' : ZS) (hP : PX_17i p0 z σ') : CT xs 120 155 [av 35 0 0, iv p0] σ' (fun v σ2 => ∃ y, v = some (iv y) ∧ (z = y) ∧ JR σ2) := by
  obtain ⟨σ, hJ, h3, h2, h4, hc⟩ := hP
  have hR := hJ.2.1
  unfold R1 RC1 at hR
  have hJ' : JL σ' := hJ.1.fr h3 (fun t i k j q => by unfold MLw at q; unfold wj; omega)
  have hN := hJ'.2.2.2
  unfold NB at hN
  have hI := hJ'.1
  have e_1_0_0_6 : σ' 1 0 0 6 = σ 1 0 0 6 := h3.2 1 0 0 6 (by unfold MLw; omega)
  have e_1_1_0_6 : σ' 1 1 0 6 = σ 1 1 0 6 := h3.2 1 1 0 6 (by unfold MLw; omega)
  have e_1_1_0_5 : σ' 1 1 0 5 = σ 1 1 0 5 := h3.2 1 1 0 5 (by unfold MLw; omega)
  have e_0_0_0_3 : σ' 0 0 0 3 = σ 0 0 0 3 := h3.2 0 0 0 3 (by unfold MLw; omega)
  have e_36_0_0_641 : σ' 36 0 0 641 = σ 36 0 0 641 := h3.2 36 0 0 641 (by unfold MLw; omega)
  have e_36_0_0_640 : σ' 36 0 0 640 = σ 36 0 0 640 := h3.2 36 0 0 640 (by unfold MLw; omega)
  have e_36_0_2_641 : σ' 36 0 2 641 = σ 36 0 2 641 := h3.2 36 0 2 641 (by unfold MLw; omega)
  have e_36_0_2_640 : σ' 36 0 2 640 = σ 36 0 2 640 := h3.2 36 0 2 640 (by unfold MLw; omega)
  have e_35_0_0_3 : σ' 35 0 0 3 = σ 35 0 0 3 := h3.2 35 0 0 3 (by unfold MLw; omega)
  have p_641 : 0 ≤ σ' 36 0 0 641 ∧ σ' 36 0 0 641 ≤ 12 := (fun h => h.2.2.2.2.2.2.2.2.2.2.2.2.1 (by omega) (by omega)) (hI 36 0 0 641 (vd_36 (by omega)))
  have p_642 : 0 ≤ σ' 36 0 0 642 ∧ σ' 36 0 0 642 ≤ 6 := (fun h => h.2.2.2.2.2.2.2.2.2.2.2.2.2 (by omega) (by omega)) (hI 36 0 0 642 (vd_36 (by omega)))
  have p_637 : 0 ≤ σ' 36 0 0 637 ∧ σ' 36 0 0 637 ≤ 99 := (fun h => h.2.2.2.2.2.2.2.2.1 (by omega) (by omega)) (hI 36 0 0 637 (vd_36 (by omega)))
  have p_638 : 0 ≤ σ' 36 0 0 638 ∧ σ' 36 0 0 638 ≤ 9 := (fun h => h.2.2.2.2.2.2.2.2.2.1 (by omega) (by omega)) (hI 36 0 0 638 (vd_36 (by omega)))
  have p_639 : 0 ≤ σ' 36 0 0 639 ∧ σ' 36 0 0 639 ≤ 9999 := (fun h => h.2.2.2.2.2.2.2.2.2.2.1 (by omega) (by omega)) (hI 36 0 0 639 (vd_36 (by omega)))
  have rs_p0 := hJ.2.2.1 (Int.toNat p0) (by omega)
  have m_p0_0 : 0 ≤ σ' 37 0 0 (Int.toNat p0) ∧ σ' 37 0 0 (Int.toNat p0) ≤ 2 := (fun h => h.2 (by omega) (by omega)) (hI 37 0 0 (Int.toNat p0) vd_37)
  have e_p0_0 : σ' 37 0 0 (Int.toNat p0) = σ 37 0 0 (Int.toNat p0) := h3.2 37 0 0 (Int.toNat p0) (by unfold MLw; omega)
  have m_p0_1 : 0 ≤ σ' 38 0 0 (Int.toNat p0) ∧ σ' 38 0 0 (Int.toNat p0) ≤ 3 := (fun h => h.2 (by omega) (by omega)) (hI 38 0 0 (Int.toNat p0) vd_38)
  have e_p0_1 : σ' 38 0 0 (Int.toNat p0) = σ 38 0 0 (Int.toNat p0) := h3.2 38 0 0 (Int.toNat p0) (by unfold MLw; omega)
  have m_p0_2 : 0 ≤ σ' 39 0 0 (Int.toNat p0) ∧ σ' 39 0 0 (Int.toNat p0) ≤ 96 := (fun h => h.2 (by omega) (by omega)) (hI 39 0 0 (Int.toNat p0) vd_39)
  have e_p0_2 : σ' 39 0 0 (Int.toNat p0) = σ 39 0 0 (Int.toNat p0) := h3.2 39 0 0 (Int.toNat p0) (by unfold MLw; omega)
  have m_p0_3 : -1 ≤ σ' 40 0 0 (Int.toNat p0) ∧ σ' 40 0 0 (Int.toNat p0) ≤ 11 := (fun h => h.2 (by omega) (by omega)) (hI 40 0 0 (Int.toNat p0) vd_40)
  have e_p0_3 : σ' 40 0 0 (Int.toNat p0) = σ 40 0 0 (Int.toNat p0) := h3.2 40 0 0 (Int.toNat p0) (by unfold MLw; omega)
  have cm : 0 ≤ σ' 36 0 0 640 ∧ σ' 36 0 0 640 ≤ 5 := (fun h => h.2.2.2.2.2.2.2.2.2.2.2.1 (by omega) (by omega)) (hI 36 0 0 640 (vd_36 (by omega)))
  refine (r_155 p0 ((σ' 37 0 0 (Int.toNat p0))) ((σ' 39 0 0 (Int.toNat p0))) ((σ' 36 0 0 640)) ((σ' 35 0 0 16)) ((σ' 41 0 0)) (by omega) (by omega) (by omega) (by omega) σ' hI hJ'.2.1 rfl rfl rfl rfl rfl).le (Nat.le_of_ble_eq_true rfl) (fun v σ2 hq => ?_)
  obtain ⟨y, g1, g2, g3, g4⟩ := hq
  have f_1_0_0_6 : σ2 1 0 0 6 = σ' 1 0 0 6 := g3.2 1 0 0 6 (by unfold MLa; omega)
  have f_1_0_0_5 : σ2 1 0 0 5 = σ' 1 0 0 5 := g3.2 1 0 0 5 (by unfold MLa; omega)
  have f_1_1_0_6 : σ2 1 1 0 6 = σ' 1 1 0 6 := g3.2 1 1 0 6 (by unfold MLa; omega)
  have f_1_1_0_5 : σ2 1 1 0 5 = σ' 1 1 0 5 := g3.2 1 1 0 5 (by unfold MLa; omega)
  have f_0_0_0_3 : σ2 0 0 0 3 = σ' 0 0 0 3 := g3.2 0 0 0 3 (by unfold MLa; omega)
  have f_36_0_0_641 : σ2 36 0 0 641 = σ' 36 0 0 641 := g3.2 36 0 0 641 (by unfold MLa; omega)
  have f_36_0_2_641 : σ2 36 0 2 641 = σ' 36 0 2 641 := g3.2 36 0 2 641 (by unfold MLa; omega)
  have f_36_0_2_640 : σ2 36 0 2 640 = σ' 36 0 2 640 := g3.2 36 0 2 640 (by unfold MLa; omega)
  have f_35_0_0_3 : σ2 35 0 0 3 = σ' 35 0 0 3 := g3.2 35 0 0 3 (by unfold MLa; omega)
  have hL : LAWF (LC (σ' 41 0 0) (96 * p0)) (σ' 39 0 0 (Int.toNat p0)) = LAWF (fun q => L2I (σ 34 0 (Int.toNat p0) q)) (σ 33 0 (Int.toNat p0) 2) := by
    rw [show σ' 39 0 0 (Int.toNat p0) = σ 33 0 (Int.toNat p0) 2 from by clear h2 g2 h4 g4; omega]
    refine LAWF_congr (fun q hq => ?_)
    unfold LC
    rw [h3.2 41 0 0 _ (by unfold MLw; omega), show Int.toNat (96 * p0) + q = 96 * Int.toNat p0 + q from by omega, ← hJ.2.2.2.1 (Int.toNat p0) (by omega) q (by clear h2 g2 h4 g4; omega)]
  have a0 : σ' 37 0 0 (Int.toNat p0) = σ 33 0 (Int.toNat p0) 0 := by clear h2 g2 h4 g4; omega
  have a1 : σ' 36 0 0 640 = σ 1 0 0 5 := by clear h2 g2 h4 g4; omega
  have hz : z = y := by
    rw [a0, a1, hL] at g2
    exact cs_5 h2 g2
  have k0 := h4.1
  have k1 := h4.2.1
  have l1 := g4.2.1
  have l2 := g4.2.2.1
  refine ⟨y, g1, hz, ?_, ?_, ?_⟩
  · exact hJ'.fl g3 (fun t i k j q q2 => by unfold MLa at q; unfold wj at q2; omega) g4.1
  · unfold R1 RC1
    clear h2 g2
    refine ⟨⟨(by rw [f_1_0_0_6, f_36_0_0_641, e_1_0_0_6, e_36_0_0_641]; exact hR.1.1), (by omega)⟩, (by rw [f_0_0_0_3, f_35_0_0_3, e_0_0_0_3, e_35_0_0_3]; exact hR.2.1), fun q => ?_⟩
    have q' := hR.2.2 (by rw [← e_35_0_0_3, ← f_35_0_0_3]; exact q)
    exact ⟨(by rw [f_1_1_0_6, f_36_0_2_641, e_1_1_0_6, e_36_0_2_641]; exact q'.1), (by rw [f_1_1_0_5, f_36_0_2_640, e_1_1_0_5, e_36_0_2_640]; exact q'.2)⟩
  · skip
    have hzc : 0 ≤ z ∨ z < 0 := by omega
    refine ⟨?_, ?_, ?_⟩
    · exact (hJ.2.2.1.fr h3 (fun t i k j q => by unfold MLw at q; unfold rws; omega)).fr g3 (fun t i k j q => by unfold MLa at q; unfold rws; omega)
    · exact (hJ.2.2.2.1.fr h3 (fun t i k j q => by unfold MLw at q; omega)).fr g3 (fun t i k j q => by unfold MLa at q; omega)
    · rw [g3.2 0 0 0 7 (by unfold MLa; omega)]
      by_cases hu : σ 33 0 (Int.toNat p0) 0 = 2 ∨ σ 33 0 (Int.toNat p0) 0 = 0
      · rw [k1.1 hu, l2.1 (by rw [a0]; exact hu), h3.2 35 0 0 16 (by unfold MLw; omega)]; exact hJ.2.2.2.2
      · rw [k1.2 ⟨fun q => hu (Or.inl q), fun q => hu (Or.inr q)⟩, l2.2 (by rw [a0]; exact ⟨fun q => hu (Or.inl q), fun q => hu (Or.inr q)⟩), hL]
def PX_17o (p0 : Int) (y : Int) (σ' : ZS) : Prop := ∃ σ, JR σ ∧ IF (MI 0 28 28 28 28) σ σ' ∧ (y = -1) ∧ (True) ∧ (¬ (0 ≤ p0 ∧ p0 ≤ 7))
theorem ux_17o {xs : Nat × (Nat → Int32)} (p0 : Int) (hp0 : -2147483648 ≤ p0 ∧ p0 ≤ 2147483647) (σ : ZS) (hJ : JR σ) (hc : ¬ (0 ≤ p0 ∧ p0 ≤ 7)) : CT xs 120 93 [av 0 0 0, iv p0] σ (fun v σ' => ∃ y, v = some (iv y) ∧ PX_17o p0 y σ') := by
  have hN := hJ.1.2.2.2
  unfold NB at hN
  have hR := hJ.2.1
  unfold R1 RC1 at hR
  exact (s_93o p0 (by omega) (by omega) σ hJ.1.1 ).le (Nat.le_of_ble_eq_true rfl) (fun v σ' ⟨y, h1, h2, h3, h4⟩ => ⟨y, h1, σ, hJ, h3, h2, h4, hc⟩)
theorem um_17o {xs : Nat × (Nat → Int32)} (p0 : Int) (hp0 : -2147483648 ≤ p0 ∧ p0 ≤ 2147483647) (z : Int) (σ' : ZS) (hP : PX_17o p0 z σ') : CT xs 120 155 [av 35 0 0, iv p0] σ' (fun v σ2 => ∃ y, v = some (iv y) ∧ (z = y) ∧ JR σ2) := by
  obtain ⟨σ, hJ, h3, h2, h4, hc⟩ := hP
  have hR := hJ.2.1
  unfold R1 RC1 at hR
  have hJ' : JL σ' := hJ.1.fr h3 (fun t i k j q => by unfold MI at q; unfold wj; omega)
  have hN := hJ'.2.2.2
  unfold NB at hN
  have hI := hJ'.1
  have e_1_0_0_6 : σ' 1 0 0 6 = σ 1 0 0 6 := h3.2 1 0 0 6 (by unfold MI; omega)
  have e_1_0_0_5 : σ' 1 0 0 5 = σ 1 0 0 5 := h3.2 1 0 0 5 (by unfold MI; omega)
  have e_1_1_0_6 : σ' 1 1 0 6 = σ 1 1 0 6 := h3.2 1 1 0 6 (by unfold MI; omega)
  have e_1_1_0_5 : σ' 1 1 0 5 = σ 1 1 0 5 := h3.2 1 1 0 5 (by unfold MI; omega)
  have e_0_0_0_3 : σ' 0 0 0 3 = σ 0 0 0 3 := h3.2 0 0 0 3 (by unfold MI; omega)
  have e_36_0_0_641 : σ' 36 0 0 641 = σ 36 0 0 641 := h3.2 36 0 0 641 (by unfold MI; omega)
  have e_36_0_0_640 : σ' 36 0 0 640 = σ 36 0 0 640 := h3.2 36 0 0 640 (by unfold MI; omega)
  have e_36_0_2_641 : σ' 36 0 2 641 = σ 36 0 2 641 := h3.2 36 0 2 641 (by unfold MI; omega)
  have e_36_0_2_640 : σ' 36 0 2 640 = σ 36 0 2 640 := h3.2 36 0 2 640 (by unfold MI; omega)
  have e_35_0_0_3 : σ' 35 0 0 3 = σ 35 0 0 3 := h3.2 35 0 0 3 (by unfold MI; omega)
  have p_641 : 0 ≤ σ' 36 0 0 641 ∧ σ' 36 0 0 641 ≤ 12 := (fun h => h.2.2.2.2.2.2.2.2.2.2.2.2.1 (by omega) (by omega)) (hI 36 0 0 641 (vd_36 (by omega)))
  have p_642 : 0 ≤ σ' 36 0 0 642 ∧ σ' 36 0 0 642 ≤ 6 := (fun h => h.2.2.2.2.2.2.2.2.2.2.2.2.2 (by omega) (by omega)) (hI 36 0 0 642 (vd_36 (by omega)))
  have p_637 : 0 ≤ σ' 36 0 0 637 ∧ σ' 36 0 0 637 ≤ 99 := (fun h => h.2.2.2.2.2.2.2.2.1 (by omega) (by omega)) (hI 36 0 0 637 (vd_36 (by omega)))
  have p_638 : 0 ≤ σ' 36 0 0 638 ∧ σ' 36 0 0 638 ≤ 9 := (fun h => h.2.2.2.2.2.2.2.2.2.1 (by omega) (by omega)) (hI 36 0 0 638 (vd_36 (by omega)))
  have p_639 : 0 ≤ σ' 36 0 0 639 ∧ σ' 36 0 0 639 ≤ 9999 := (fun h => h.2.2.2.2.2.2.2.2.2.2.1 (by omega) (by omega)) (hI 36 0 0 639 (vd_36 (by omega)))
  refine (r_155o p0 (by omega) (by omega) σ' hI  ).le (Nat.le_of_ble_eq_true rfl) (fun v σ2 hq => ?_)
  obtain ⟨y, g1, g2, g3, g4⟩ := hq
  have f_1_0_0_6 : σ2 1 0 0 6 = σ' 1 0 0 6 := g3.2 1 0 0 6 (by unfold MT; omega)
  have f_1_0_0_5 : σ2 1 0 0 5 = σ' 1 0 0 5 := g3.2 1 0 0 5 (by unfold MT; omega)
  have f_1_1_0_6 : σ2 1 1 0 6 = σ' 1 1 0 6 := g3.2 1 1 0 6 (by unfold MT; omega)
  have f_1_1_0_5 : σ2 1 1 0 5 = σ' 1 1 0 5 := g3.2 1 1 0 5 (by unfold MT; omega)
  have f_0_0_0_3 : σ2 0 0 0 3 = σ' 0 0 0 3 := g3.2 0 0 0 3 (by unfold MT; omega)
  have f_36_0_0_641 : σ2 36 0 0 641 = σ' 36 0 0 641 := g3.2 36 0 0 641 (by unfold MT; omega)
  have f_36_0_0_640 : σ2 36 0 0 640 = σ' 36 0 0 640 := g3.2 36 0 0 640 (by unfold MT; omega)
  have f_36_0_2_641 : σ2 36 0 2 641 = σ' 36 0 2 641 := g3.2 36 0 2 641 (by unfold MT; omega)
  have f_36_0_2_640 : σ2 36 0 2 640 = σ' 36 0 2 640 := g3.2 36 0 2 640 (by unfold MT; omega)
  have f_35_0_0_3 : σ2 35 0 0 3 = σ' 35 0 0 3 := g3.2 35 0 0 3 (by unfold MT; omega)
  have hz : z = y := by clear h4 g4; omega
  refine ⟨y, g1, hz, ?_, ?_, ?_⟩
  · exact hJ'.fr g3 (fun t i k j q => by unfold MT at q; unfold wj; omega)
  · unfold R1 RC1
    clear h2 g2
    refine ⟨⟨(by rw [f_1_0_0_6, f_36_0_0_641, e_1_0_0_6, e_36_0_0_641]; exact hR.1.1), (by rw [f_1_0_0_5, f_36_0_0_640, e_1_0_0_5, e_36_0_0_640]; exact hR.1.2)⟩, (by rw [f_0_0_0_3, f_35_0_0_3, e_0_0_0_3, e_35_0_0_3]; exact hR.2.1), fun q => ?_⟩
    have q' := hR.2.2 (by rw [← e_35_0_0_3, ← f_35_0_0_3]; exact q)
    exact ⟨(by rw [f_1_1_0_6, f_36_0_2_641, e_1_1_0_6, e_36_0_2_641]; exact q'.1), (by rw [f_1_1_0_5, f_36_0_2_640, e_1_1_0_5, e_36_0_2_640]; exact q'.2)⟩
  · exact (hJ.2.2.fr h3 (fun t i k j q => by unfold MI at q; unfold rwx; omega)).fr g3 (fun t i k j q => by unfold MT at q; unfold rwx; omega)
def PX_17 (p0 : Int) (y : Int) (σ' : ZS) : Prop := PX_17i p0 y σ' ∨ PX_17o p0 y σ'
theorem ux_17 {xs : Nat × (Nat → Int32)} (p0 : Int) (hp0 : -2147483648 ≤ p0 ∧ p0 ≤ 2147483647) (σ : ZS) (hJ : JR σ) : CT xs 120 93 [av 0 0 0, iv p0] σ (fun v σ' => ∃ y, v = some (iv y) ∧ PX_17 p0 y σ') := by
  by_cases h0 : 0 ≤ p0 ∧ p0 ≤ 7
  · exact (ux_17i p0 hp0 σ hJ h0).le (Nat.le_refl _) (fun v σ' ⟨y, h1, h2⟩ => ⟨y, h1, Or.inl h2⟩)
  · exact (ux_17o p0 hp0 σ hJ h0).le (Nat.le_refl _) (fun v σ' ⟨y, h1, h2⟩ => ⟨y, h1, Or.inr h2⟩)
theorem um_17 {xs : Nat × (Nat → Int32)} (p0 : Int) (hp0 : -2147483648 ≤ p0 ∧ p0 ≤ 2147483647) (z : Int) (σ' : ZS) (hP : PX_17 p0 z σ') : CT xs 120 155 [av 35 0 0, iv p0] σ' (fun v σ2 => ∃ y, v = some (iv y) ∧ (z = y) ∧ JR σ2) := hP.elim (um_17i p0 hp0 z σ') (um_17o p0 hp0 z σ')
def PX_18  (y : Int) (σ' : ZS) : Prop := ∃ σ, JR σ ∧ IF MN σ σ' ∧ (y = (σ 0 0 0 7)) ∧ (True)
theorem ux_18 {xs : Nat × (Nat → Int32)}   (σ : ZS) (hJ : JR σ) : CT xs 120 94 [av 0 0 0] σ (fun v σ' => ∃ y, v = some (iv y) ∧ PX_18  y σ') := by
  have hN := hJ.1.2.2.2
  unfold NB at hN
  have hR := hJ.2.1
  unfold R1 RC1 at hR
  have cw := (hJ.1.1 0 0 0 7 vd_0).1
  exact (s_94 ((σ 0 0 0 7)) (by omega) σ hJ.1.1 rfl).le (Nat.le_of_ble_eq_true rfl) (fun v σ' ⟨y, h1, h2, h3, h4⟩ => ⟨y, h1, σ, hJ, h3, h2, h4⟩)
theorem um_18 {xs : Nat × (Nat → Int32)}   (z : Int) (σ' : ZS) (hP : PX_18  z σ') : CT xs 120 156 [av 35 0 0] σ' (fun v σ2 => ∃ y, v = some (iv y) ∧ (z = y) ∧ JR σ2) := by
  obtain ⟨σ, hJ, h3, h2, h4⟩ := hP
  have hR := hJ.2.1
  unfold R1 RC1 at hR
  have hJ' : JL σ' := hJ.1.fr h3 (fun _ _ _ _ q => q.elim)
  have hN := hJ'.2.2.2
  unfold NB at hN
  have hI := hJ'.1
  have e_1_0_0_6 : σ' 1 0 0 6 = σ 1 0 0 6 := h3.2 1 0 0 6 (fun q => q)
  have e_1_0_0_5 : σ' 1 0 0 5 = σ 1 0 0 5 := h3.2 1 0 0 5 (fun q => q)
  have e_1_1_0_6 : σ' 1 1 0 6 = σ 1 1 0 6 := h3.2 1 1 0 6 (fun q => q)
  have e_1_1_0_5 : σ' 1 1 0 5 = σ 1 1 0 5 := h3.2 1 1 0 5 (fun q => q)
  have e_0_0_0_3 : σ' 0 0 0 3 = σ 0 0 0 3 := h3.2 0 0 0 3 (fun q => q)
  have e_36_0_0_641 : σ' 36 0 0 641 = σ 36 0 0 641 := h3.2 36 0 0 641 (fun q => q)
  have e_36_0_0_640 : σ' 36 0 0 640 = σ 36 0 0 640 := h3.2 36 0 0 640 (fun q => q)
  have e_36_0_2_641 : σ' 36 0 2 641 = σ 36 0 2 641 := h3.2 36 0 2 641 (fun q => q)
  have e_36_0_2_640 : σ' 36 0 2 640 = σ 36 0 2 640 := h3.2 36 0 2 640 (fun q => q)
  have e_35_0_0_3 : σ' 35 0 0 3 = σ 35 0 0 3 := h3.2 35 0 0 3 (fun q => q)
  have p_641 : 0 ≤ σ' 36 0 0 641 ∧ σ' 36 0 0 641 ≤ 12 := (fun h => h.2.2.2.2.2.2.2.2.2.2.2.2.1 (by omega) (by omega)) (hI 36 0 0 641 (vd_36 (by omega)))
  have p_642 : 0 ≤ σ' 36 0 0 642 ∧ σ' 36 0 0 642 ≤ 6 := (fun h => h.2.2.2.2.2.2.2.2.2.2.2.2.2 (by omega) (by omega)) (hI 36 0 0 642 (vd_36 (by omega)))
  have p_637 : 0 ≤ σ' 36 0 0 637 ∧ σ' 36 0 0 637 ≤ 99 := (fun h => h.2.2.2.2.2.2.2.2.1 (by omega) (by omega)) (hI 36 0 0 637 (vd_36 (by omega)))
  have p_638 : 0 ≤ σ' 36 0 0 638 ∧ σ' 36 0 0 638 ≤ 9 := (fun h => h.2.2.2.2.2.2.2.2.2.1 (by omega) (by omega)) (hI 36 0 0 638 (vd_36 (by omega)))
  have p_639 : 0 ≤ σ' 36 0 0 639 ∧ σ' 36 0 0 639 ≤ 9999 := (fun h => h.2.2.2.2.2.2.2.2.2.2.1 (by omega) (by omega)) (hI 36 0 0 639 (vd_36 (by omega)))
  have cw := (hI 35 0 0 16 vd_35).1
  have hrf := hJ.2.2.2.2
  have hef := h3.2 35 0 0 16 (fun q => q)
  refine (r_156 ((σ' 35 0 0 16)) (by omega) σ' hI  rfl).le (Nat.le_of_ble_eq_true rfl) (fun v σ2 hq => ?_)
  obtain ⟨y, g1, g2, g3, g4⟩ := hq
  have f_1_0_0_6 : σ2 1 0 0 6 = σ' 1 0 0 6 := g3.2 1 0 0 6 (fun q => q)
  have f_1_0_0_5 : σ2 1 0 0 5 = σ' 1 0 0 5 := g3.2 1 0 0 5 (fun q => q)
  have f_1_1_0_6 : σ2 1 1 0 6 = σ' 1 1 0 6 := g3.2 1 1 0 6 (fun q => q)
  have f_1_1_0_5 : σ2 1 1 0 5 = σ' 1 1 0 5 := g3.2 1 1 0 5 (fun q => q)
  have f_0_0_0_3 : σ2 0 0 0 3 = σ' 0 0 0 3 := g3.2 0 0 0 3 (fun q => q)
  have f_36_0_0_641 : σ2 36 0 0 641 = σ' 36 0 0 641 := g3.2 36 0 0 641 (fun q => q)
  have f_36_0_0_640 : σ2 36 0 0 640 = σ' 36 0 0 640 := g3.2 36 0 0 640 (fun q => q)
  have f_36_0_2_641 : σ2 36 0 2 641 = σ' 36 0 2 641 := g3.2 36 0 2 641 (fun q => q)
  have f_36_0_2_640 : σ2 36 0 2 640 = σ' 36 0 2 640 := g3.2 36 0 2 640 (fun q => q)
  have f_35_0_0_3 : σ2 35 0 0 3 = σ' 35 0 0 3 := g3.2 35 0 0 3 (fun q => q)
  have hz : z = y := by clear h4 g4; omega
  refine ⟨y, g1, hz, ?_, ?_, ?_⟩
  · exact hJ'.fr g3 (fun _ _ _ _ q => q.elim)
  · unfold R1 RC1
    clear h2 g2
    refine ⟨⟨(by rw [f_1_0_0_6, f_36_0_0_641, e_1_0_0_6, e_36_0_0_641]; exact hR.1.1), (by rw [f_1_0_0_5, f_36_0_0_640, e_1_0_0_5, e_36_0_0_640]; exact hR.1.2)⟩, (by rw [f_0_0_0_3, f_35_0_0_3, e_0_0_0_3, e_35_0_0_3]; exact hR.2.1), fun q => ?_⟩
    have q' := hR.2.2 (by rw [← e_35_0_0_3, ← f_35_0_0_3]; exact q)
    exact ⟨(by rw [f_1_1_0_6, f_36_0_2_641, e_1_1_0_6, e_36_0_2_641]; exact q'.1), (by rw [f_1_1_0_5, f_36_0_2_640, e_1_1_0_5, e_36_0_2_640]; exact q'.2)⟩
  · exact (hJ.2.2.fr h3 (fun _ _ _ _ q => q.elim)).fr g3 (fun _ _ _ _ q => q.elim)
