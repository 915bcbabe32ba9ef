theorem cs_4 {y z v1 v2 v3 v4 : Int} {c1 c2 c3 : Prop} (h : (y = v1 ∧ (c1)) ∨ (y = v2 ∧ ¬ (c1) ∧ (c2)) ∨ (y = v3 ∧ ¬ (c1) ∧ ¬ (c2) ∧ (c3)) ∨ (y = v4 ∧ ¬ (c1) ∧ ¬ (c2) ∧ ¬ (c3))) (g : (z = v1 ∧ (c1)) ∨ (z = v2 ∧ ¬ (c1) ∧ (c2)) ∨ (z = v3 ∧ ¬ (c1) ∧ ¬ (c2) ∧ (c3)) ∨ (z = v4 ∧ ¬ (c1) ∧ ¬ (c2) ∧ ¬ (c3))) : y = z := by
  rcases h with ⟨a, a1⟩ | ⟨a, a1, a2⟩ | ⟨a, a1, a2, a3⟩ | ⟨a, a1, a2, a3⟩
  · rcases g with ⟨b, b1⟩ | ⟨b, b1, b2⟩ | ⟨b, b1, b2, b3⟩ | ⟨b, b1, b2, b3⟩
    · exact a.trans b.symm
    · exact absurd a1 b1
    · exact absurd a1 b1
    · exact absurd a1 b1
  · rcases g with ⟨b, b1⟩ | ⟨b, b1, b2⟩ | ⟨b, b1, b2, b3⟩ | ⟨b, b1, b2, b3⟩
    · exact absurd b1 a1
    · exact a.trans b.symm
    · exact absurd a2 b2
    · exact absurd a2 b2
  · rcases g with ⟨b, b1⟩ | ⟨b, b1, b2⟩ | ⟨b, b1, b2, b3⟩ | ⟨b, b1, b2, b3⟩
    · exact absurd b1 a1
    · exact absurd b2 a2
    · exact a.trans b.symm
    · exact absurd a3 b3
  · rcases g with ⟨b, b1⟩ | ⟨b, b1, b2⟩ | ⟨b, b1, b2, b3⟩ | ⟨b, b1, b2, b3⟩
    · exact absurd b1 a1
    · exact absurd b2 a2
    · exact absurd b3 a3
    · exact a.trans b.symm
def PX_33  (y : Int) (σ' : ZS) : Prop := ∃ σ, JR σ ∧ IF MIg σ σ' ∧ (y = (σ 1 0 0 13)) ∧ (σ' 1 1 0 6 = (σ 1 0 0 6) ∧ σ' 1 1 0 7 = (σ 1 0 0 7) ∧ σ' 1 1 0 10 = (σ 1 0 0 10) ∧ σ' 1 1 0 11 = (σ 1 0 0 11) ∧ σ' 1 1 0 12 = (σ 1 0 0 12) ∧ σ' 1 1 0 13 = (σ 1 0 0 13) ∧ σ' 0 0 0 3 = 1 ∧ (∀ j, 0 ≤ j → j < 40 → σ' 7 1 0 j = σ 7 0 0 j) ∧ (∀ j, 0 ≤ j → j < 40 → σ' 8 1 0 j = σ 8 0 0 j) ∧ (∀ j, 0 ≤ j → j < 40 → σ' 9 1 0 j = σ 9 0 0 j) ∧ True)
theorem ux_33 {xs : Nat × (Nat → Int32)}   (σ : ZS) (hJ : JR σ) : CT xs 120 108 [av 0 0 0] σ (fun v σ' => ∃ y, v = some (iv y) ∧ PX_33  y σ') := by
  have hN := hJ.1.2.2.2
  unfold NB at hN
  have hR := hJ.2.1
  unfold R1 RC1 at hR
  have q_0_6 : 0 ≤ σ 1 0 0 6 ∧ σ 1 0 0 6 ≤ 12 := (fun h => h.2.2.1 (by omega) (by omega)) (hJ.1.1 1 0 0 6 (vd_1 (by omega)))
  have q_0_7 : 0 ≤ σ 1 0 0 7 ∧ σ 1 0 0 7 ≤ 6 := (fun h => h.2.2.2.1 (by omega) (by omega)) (hJ.1.1 1 0 0 7 (vd_1 (by omega)))
  have q_0_10 : 0 ≤ σ 1 0 0 10 ∧ σ 1 0 0 10 ≤ 99 := (fun h => h.2.2.2.2.1 (by omega) (by omega)) (hJ.1.1 1 0 0 10 (vd_1 (by omega)))
  have q_0_11 : 1 ≤ σ 1 0 0 11 ∧ σ 1 0 0 11 ≤ 9 := (fun h => h.2.2.2.2.2.1 (by omega) (by omega)) (hJ.1.1 1 0 0 11 (vd_1 (by omega)))
  have q_0_12 : 0 ≤ σ 1 0 0 12 ∧ σ 1 0 0 12 ≤ 9999 := (fun h => h.2.2.2.2.2.2 (by omega) (by omega)) (hJ.1.1 1 0 0 12 (vd_1 (by omega)))
  have q_0_13 : -2147483648 ≤ σ 1 0 0 13 ∧ σ 1 0 0 13 ≤ 2147483647 := (fun h => (by have q := h.1; omega)) (hJ.1.1 1 0 0 13 (vd_1 (by omega)))
  have q_1_6 : 0 ≤ σ 1 1 0 6 ∧ σ 1 1 0 6 ≤ 12 := (fun h => h.2.2.1 (by omega) (by omega)) (hJ.1.1 1 1 0 6 (vd_1 (by omega)))
  have q_1_7 : 0 ≤ σ 1 1 0 7 ∧ σ 1 1 0 7 ≤ 6 := (fun h => h.2.2.2.1 (by omega) (by omega)) (hJ.1.1 1 1 0 7 (vd_1 (by omega)))
  have q_1_10 : 0 ≤ σ 1 1 0 10 ∧ σ 1 1 0 10 ≤ 99 := (fun h => h.2.2.2.2.1 (by omega) (by omega)) (hJ.1.1 1 1 0 10 (vd_1 (by omega)))
  have q_1_11 : 1 ≤ σ 1 1 0 11 ∧ σ 1 1 0 11 ≤ 9 := (fun h => h.2.2.2.2.2.1 (by omega) (by omega)) (hJ.1.1 1 1 0 11 (vd_1 (by omega)))
  have q_1_12 : 0 ≤ σ 1 1 0 12 ∧ σ 1 1 0 12 ≤ 9999 := (fun h => h.2.2.2.2.2.2 (by omega) (by omega)) (hJ.1.1 1 1 0 12 (vd_1 (by omega)))
  have q_1_13 : -2147483648 ≤ σ 1 1 0 13 ∧ σ 1 1 0 13 ≤ 2147483647 := (fun h => (by have q := h.1; omega)) (hJ.1.1 1 1 0 13 (vd_1 (by omega)))
  exact (s_108w ((σ 1 0 0 6)) ((σ 1 0 0 7)) ((σ 1 0 0 10)) ((σ 1 0 0 11)) ((σ 1 0 0 12)) ((σ 1 0 0 13)) ((σ 7 0 0)) ((σ 8 0 0)) ((σ 9 0 0)) (by omega) (by omega) (by omega) (by omega) (by omega) (by omega) σ hJ.1.1 rfl rfl rfl rfl rfl rfl (fun _ _ _ => rfl) (fun _ _ _ => rfl) (fun _ _ _ => rfl)).le (Nat.le_of_ble_eq_true rfl) (fun v σ' ⟨y, h1, h2, h3, h4⟩ => ⟨y, h1, σ, hJ, h3, h2, h4⟩)
theorem um_33 {xs : Nat × (Nat → Int32)}   (z : Int) (σ' : ZS) (hP : PX_33  z σ') : CT xs 120 184 [av 35 0 0] σ' (fun v σ2 => ∃ y, v = some (iv y) ∧ (True) ∧ JR σ2) := by
  obtain ⟨σ, hJ, h3, h2, h4⟩ := hP
  have hR := hJ.2.1
  unfold R1 RC1 at hR
  have hJ' : JL σ' := hJ.1.fr h3 (fun t i k j q => by unfold MIg at q; unfold wj; omega)
  have hN := hJ'.2.2.2
  unfold NB at hN
  have hI := hJ'.1
  have e_1_0_0_10 : σ' 1 0 0 10 = σ 1 0 0 10 := h3.2 1 0 0 10 (by unfold MIg; omega)
  have e_1_0_0_11 : σ' 1 0 0 11 = σ 1 0 0 11 := h3.2 1 0 0 11 (by unfold MIg; omega)
  have e_1_0_0_12 : σ' 1 0 0 12 = σ 1 0 0 12 := h3.2 1 0 0 12 (by unfold MIg; omega)
  have e_36_0_0_637 : σ' 36 0 0 637 = σ 36 0 0 637 := h3.2 36 0 0 637 (by unfold MIg; omega)
  have e_36_0_0_638 : σ' 36 0 0 638 = σ 36 0 0 638 := h3.2 36 0 0 638 (by unfold MIg; omega)
  have e_36_0_0_639 : σ' 36 0 0 639 = σ 36 0 0 639 := h3.2 36 0 0 639 (by unfold MIg; omega)
  have e_36_0_2_637 : σ' 36 0 2 637 = σ 36 0 2 637 := h3.2 36 0 2 637 (by unfold MIg; omega)
  have e_36_0_2_638 : σ' 36 0 2 638 = σ 36 0 2 638 := h3.2 36 0 2 638 (by unfold MIg; omega)
  have e_36_0_2_639 : σ' 36 0 2 639 = σ 36 0 2 639 := h3.2 36 0 2 639 (by unfold MIg; omega)
  have e_35_0_0_3 : σ' 35 0 0 3 = σ 35 0 0 3 := h3.2 35 0 0 3 (by unfold MIg; omega)
  have p_641 : 0 ≤ σ' 36 0 0 641 ∧ σ' 36 0 0 641 ≤ 12 := (fun h => h.2.2.2.2.2.2.2.2.2.2.2.2.1 (by omega) (by omega)) (hI 36 0 0 641 (vd_36 (by omega)))
  have p_642 : 0 ≤ σ' 36 0 0 642 ∧ σ' 36 0 0 642 ≤ 6 := (fun h => h.2.2.2.2.2.2.2.2.2.2.2.2.2 (by omega) (by omega)) (hI 36 0 0 642 (vd_36 (by omega)))
  have p_637 : 0 ≤ σ' 36 0 0 637 ∧ σ' 36 0 0 637 ≤ 99 := (fun h => h.2.2.2.2.2.2.2.2.1 (by omega) (by omega)) (hI 36 0 0 637 (vd_36 (by omega)))
  have p_638 : 0 ≤ σ' 36 0 0 638 ∧ σ' 36 0 0 638 ≤ 9 := (fun h => h.2.2.2.2.2.2.2.2.2.1 (by omega) (by omega)) (hI 36 0 0 638 (vd_36 (by omega)))
  have p_639 : 0 ≤ σ' 36 0 0 639 ∧ σ' 36 0 0 639 ≤ 9999 := (fun h => h.2.2.2.2.2.2.2.2.2.2.1 (by omega) (by omega)) (hI 36 0 0 639 (vd_36 (by omega)))
  refine (r_184 ((σ' 36 0 0 634)) (by omega) σ' hI  rfl).le (Nat.le_of_ble_eq_true rfl) (fun v σ2 hq => ?_)
  obtain ⟨y, g1, g2, g3, g4⟩ := hq
  have f_1_0_0_10 : σ2 1 0 0 10 = σ' 1 0 0 10 := g3.2 1 0 0 10 (by unfold MIm; omega)
  have f_1_0_0_11 : σ2 1 0 0 11 = σ' 1 0 0 11 := g3.2 1 0 0 11 (by unfold MIm; omega)
  have f_1_0_0_12 : σ2 1 0 0 12 = σ' 1 0 0 12 := g3.2 1 0 0 12 (by unfold MIm; omega)
  have f_1_1_0_10 : σ2 1 1 0 10 = σ' 1 1 0 10 := g3.2 1 1 0 10 (by unfold MIm; omega)
  have f_1_1_0_11 : σ2 1 1 0 11 = σ' 1 1 0 11 := g3.2 1 1 0 11 (by unfold MIm; omega)
  have f_1_1_0_12 : σ2 1 1 0 12 = σ' 1 1 0 12 := g3.2 1 1 0 12 (by unfold MIm; omega)
  have f_0_0_0_3 : σ2 0 0 0 3 = σ' 0 0 0 3 := g3.2 0 0 0 3 (by unfold MIm; omega)
  have f_36_0_0_637 : σ2 36 0 0 637 = σ' 36 0 0 637 := g3.2 36 0 0 637 (by unfold MIm; omega)
  have f_36_0_0_638 : σ2 36 0 0 638 = σ' 36 0 0 638 := g3.2 36 0 0 638 (by unfold MIm; omega)
  have f_36_0_0_639 : σ2 36 0 0 639 = σ' 36 0 0 639 := g3.2 36 0 0 639 (by unfold MIm; omega)
  have w_637 := g4.1 637 (by omega) (by omega)
  have w_638 := g4.1 638 (by omega) (by omega)
  have w_639 := g4.1 639 (by omega) (by omega)
  have hz : True := trivial
  have k0 := h4.1
  have k1 := h4.2.1
  have k2 := h4.2.2.1
  have k3 := h4.2.2.2.1
  have k4 := h4.2.2.2.2.1
  have k5 := h4.2.2.2.2.2.1
  have k6 := h4.2.2.2.2.2.2.1
  have k7 := h4.2.2.2.2.2.2.2.1
  have k8 := h4.2.2.2.2.2.2.2.2.1
  have k9 := h4.2.2.2.2.2.2.2.2.2.1
  have l1 := g4.2.1
  have l2 := g4.2.2.1
  have l3 := g4.2.2.2.1
  refine ⟨y, g1, hz, ?_, ?_, ?_⟩
  · exact hJ'.fi g3 (fun t i k j q q2 => by unfold MIm at q; unfold wj at q2; omega) g4.1 g4.2.1 g4.2.2.1
  · unfold R1 RC1
    clear h2 g2
    exact ⟨⟨(by rw [f_1_0_0_10, f_36_0_0_637, e_1_0_0_10, e_36_0_0_637]; exact hR.1.1), (by rw [f_1_0_0_11, f_36_0_0_638, e_1_0_0_11, e_36_0_0_638]; exact hR.1.2.1), (by rw [f_1_0_0_12, f_36_0_0_639, e_1_0_0_12, e_36_0_0_639]; exact hR.1.2.2)⟩, (by omega), fun q => ⟨by omega, by omega, by omega⟩⟩
  · skip
    clear h2 g2
    refine ⟨?_, fun q => ?_⟩
    · exact (hJ.2.2.1).eq (fun t n a b q => (g3.2 t 0 0 n (by unfold MIm; omega)).trans (h3.2 t 0 0 n (by unfold MIg; omega))) (fun j a b => (g3.2 36 0 0 j (by unfold MIm; omega)).trans (h3.2 36 0 0 j (by unfold MIg; omega)))
    · intro n hn
      have hx := ixn_lt hn
      have r := hJ.2.2.1 n hn
      have a8 : σ2 8 1 0 n = σ 8 0 0 n := (g3.2 8 1 0 n (by unfold MIm; omega)).trans (h4.2.2.2.2.2.2.2.2.1 n (by omega) (by omega))
      have b8 : σ2 36 0 2 (100 + ixn n) = σ 36 0 0 (100 + ixn n) := (g4.1 _ (by omega) (by omega)).trans (h3.2 36 0 0 _ (by unfold MIg; omega))
      have a9 : σ2 9 1 0 n = σ 9 0 0 n := (g3.2 9 1 0 n (by unfold MIm; omega)).trans (h4.2.2.2.2.2.2.2.2.2.1 n (by omega) (by omega))
      have b9 : σ2 36 0 2 (150 + ixn n) = σ 36 0 0 (150 + ixn n) := (g4.1 _ (by omega) (by omega)).trans (h3.2 36 0 0 _ (by unfold MIg; omega))
      have a7 : σ2 7 1 0 n = σ 7 0 0 n := (g3.2 7 1 0 n (by unfold MIm; omega)).trans (h4.2.2.2.2.2.2.2.1 n (by omega) (by omega))
      have b7 : σ2 36 0 2 (200 + ixn n) = σ 36 0 0 (200 + ixn n) := (g4.1 _ (by omega) (by omega)).trans (h3.2 36 0 0 _ (by unfold MIg; omega))
      rw [a8, b8, a9, b9, a7, b7]
      exact r
def PX_34n  (y : Int) (σ' : ZS) : Prop := ∃ σ, JR σ ∧ IF (MI 0 28 28 28 28) σ σ' ∧ (y = -6) ∧ (True) ∧ (σ 0 0 0 3 = 0)
theorem ux_34n {xs : Nat × (Nat → Int32)}   (σ : ZS) (hJ : JR σ) (hc : σ 0 0 0 3 = 0) : CT xs 120 109 [av 0 0 0] σ (fun v σ' => ∃ y, v = some (iv y) ∧ PX_34n  y σ') := by
  have hN := hJ.1.2.2.2
  unfold NB at hN
  have hR := hJ.2.1
  unfold R1 RC1 at hR
  have q_0_6 : 0 ≤ σ 1 0 0 6 ∧ σ 1 0 0 6 ≤ 12 := (fun h => h.2.2.1 (by omega) (by omega)) (hJ.1.1 1 0 0 6 (vd_1 (by omega)))
  have q_0_7 : 0 ≤ σ 1 0 0 7 ∧ σ 1 0 0 7 ≤ 6 := (fun h => h.2.2.2.1 (by omega) (by omega)) (hJ.1.1 1 0 0 7 (vd_1 (by omega)))
  have q_0_10 : 0 ≤ σ 1 0 0 10 ∧ σ 1 0 0 10 ≤ 99 := (fun h => h.2.2.2.2.1 (by omega) (by omega)) (hJ.1.1 1 0 0 10 (vd_1 (by omega)))
  have q_0_11 : 1 ≤ σ 1 0 0 11 ∧ σ 1 0 0 11 ≤ 9 := (fun h => h.2.2.2.2.2.1 (by omega) (by omega)) (hJ.1.1 1 0 0 11 (vd_1 (by omega)))
  have q_0_12 : 0 ≤ σ 1 0 0 12 ∧ σ 1 0 0 12 ≤ 9999 := (fun h => h.2.2.2.2.2.2 (by omega) (by omega)) (hJ.1.1 1 0 0 12 (vd_1 (by omega)))
  have q_0_13 : -2147483648 ≤ σ 1 0 0 13 ∧ σ 1 0 0 13 ≤ 2147483647 := (fun h => (by have q := h.1; omega)) (hJ.1.1 1 0 0 13 (vd_1 (by omega)))
  have q_1_6 : 0 ≤ σ 1 1 0 6 ∧ σ 1 1 0 6 ≤ 12 := (fun h => h.2.2.1 (by omega) (by omega)) (hJ.1.1 1 1 0 6 (vd_1 (by omega)))
  have q_1_7 : 0 ≤ σ 1 1 0 7 ∧ σ 1 1 0 7 ≤ 6 := (fun h => h.2.2.2.1 (by omega) (by omega)) (hJ.1.1 1 1 0 7 (vd_1 (by omega)))
  have q_1_10 : 0 ≤ σ 1 1 0 10 ∧ σ 1 1 0 10 ≤ 99 := (fun h => h.2.2.2.2.1 (by omega) (by omega)) (hJ.1.1 1 1 0 10 (vd_1 (by omega)))
  have q_1_11 : 1 ≤ σ 1 1 0 11 ∧ σ 1 1 0 11 ≤ 9 := (fun h => h.2.2.2.2.2.1 (by omega) (by omega)) (hJ.1.1 1 1 0 11 (vd_1 (by omega)))
  have q_1_12 : 0 ≤ σ 1 1 0 12 ∧ σ 1 1 0 12 ≤ 9999 := (fun h => h.2.2.2.2.2.2 (by omega) (by omega)) (hJ.1.1 1 1 0 12 (vd_1 (by omega)))
  have q_1_13 : -2147483648 ≤ σ 1 1 0 13 ∧ σ 1 1 0 13 ≤ 2147483647 := (fun h => (by have q := h.1; omega)) (hJ.1.1 1 1 0 13 (vd_1 (by omega)))
  exact (s_109n   σ hJ.1.1 (by omega)).le (Nat.le_of_ble_eq_true rfl) (fun v σ' ⟨y, h1, h2, h3, h4⟩ => ⟨y, h1, σ, hJ, h3, h2, h4, hc⟩)
theorem um_34n {xs : Nat × (Nat → Int32)}   (z : Int) (σ' : ZS) (hP : PX_34n  z σ') : CT xs 120 185 [av 35 0 0] σ' (fun v σ2 => ∃ y, v = some (iv y) ∧ (True) ∧ JR σ2) := by
  obtain ⟨σ, hJ, h3, h2, h4, hc⟩ := hP
  have hR := hJ.2.1
  unfold R1 RC1 at hR
  have hJ' : JL σ' := hJ.1.fr h3 (fun t i k j q => by unfold MI at q; unfold wj; omega)
  have hN := hJ'.2.2.2
  unfold NB at hN
  have hI := hJ'.1
  have e_1_0_0_10 : σ' 1 0 0 10 = σ 1 0 0 10 := h3.2 1 0 0 10 (by unfold MI; omega)
  have e_1_0_0_11 : σ' 1 0 0 11 = σ 1 0 0 11 := h3.2 1 0 0 11 (by unfold MI; omega)
  have e_1_0_0_12 : σ' 1 0 0 12 = σ 1 0 0 12 := h3.2 1 0 0 12 (by unfold MI; omega)
  have e_1_1_0_10 : σ' 1 1 0 10 = σ 1 1 0 10 := h3.2 1 1 0 10 (by unfold MI; omega)
  have e_1_1_0_11 : σ' 1 1 0 11 = σ 1 1 0 11 := h3.2 1 1 0 11 (by unfold MI; omega)
  have e_1_1_0_12 : σ' 1 1 0 12 = σ 1 1 0 12 := h3.2 1 1 0 12 (by unfold MI; omega)
  have e_0_0_0_3 : σ' 0 0 0 3 = σ 0 0 0 3 := h3.2 0 0 0 3 (by unfold MI; omega)
  have e_36_0_0_637 : σ' 36 0 0 637 = σ 36 0 0 637 := h3.2 36 0 0 637 (by unfold MI; omega)
  have e_36_0_0_638 : σ' 36 0 0 638 = σ 36 0 0 638 := h3.2 36 0 0 638 (by unfold MI; omega)
  have e_36_0_0_639 : σ' 36 0 0 639 = σ 36 0 0 639 := h3.2 36 0 0 639 (by unfold MI; omega)
  have e_36_0_2_637 : σ' 36 0 2 637 = σ 36 0 2 637 := h3.2 36 0 2 637 (by unfold MI; omega)
  have e_36_0_2_638 : σ' 36 0 2 638 = σ 36 0 2 638 := h3.2 36 0 2 638 (by unfold MI; omega)
  have e_36_0_2_639 : σ' 36 0 2 639 = σ 36 0 2 639 := h3.2 36 0 2 639 (by unfold MI; omega)
  have e_35_0_0_3 : σ' 35 0 0 3 = σ 35 0 0 3 := h3.2 35 0 0 3 (by unfold MI; omega)
  have p_641 : 0 ≤ σ' 36 0 0 641 ∧ σ' 36 0 0 641 ≤ 12 := (fun h => h.2.2.2.2.2.2.2.2.2.2.2.2.1 (by omega) (by omega)) (hI 36 0 0 641 (vd_36 (by omega)))
  have p_642 : 0 ≤ σ' 36 0 0 642 ∧ σ' 36 0 0 642 ≤ 6 := (fun h => h.2.2.2.2.2.2.2.2.2.2.2.2.2 (by omega) (by omega)) (hI 36 0 0 642 (vd_36 (by omega)))
  have p_637 : 0 ≤ σ' 36 0 0 637 ∧ σ' 36 0 0 637 ≤ 99 := (fun h => h.2.2.2.2.2.2.2.2.1 (by omega) (by omega)) (hI 36 0 0 637 (vd_36 (by omega)))
  have p_638 : 0 ≤ σ' 36 0 0 638 ∧ σ' 36 0 0 638 ≤ 9 := (fun h => h.2.2.2.2.2.2.2.2.2.1 (by omega) (by omega)) (hI 36 0 0 638 (vd_36 (by omega)))
  have p_639 : 0 ≤ σ' 36 0 0 639 ∧ σ' 36 0 0 639 ≤ 9999 := (fun h => h.2.2.2.2.2.2.2.2.2.2.1 (by omega) (by omega)) (hI 36 0 0 639 (vd_36 (by omega)))
  refine (m_185n   σ' hI  (by omega)).le (Nat.le_of_ble_eq_true rfl) (fun v σ2 hq => ?_)
  obtain ⟨y, g1, g2, g3, g4⟩ := hq
  have f_1_0_0_10 : σ2 1 0 0 10 = σ' 1 0 0 10 := g3.2 1 0 0 10 (by unfold MT; omega)
  have f_1_0_0_11 : σ2 1 0 0 11 = σ' 1 0 0 11 := g3.2 1 0 0 11 (by unfold MT; omega)
  have f_1_0_0_12 : σ2 1 0 0 12 = σ' 1 0 0 12 := g3.2 1 0 0 12 (by unfold MT; omega)
  have f_1_1_0_10 : σ2 1 1 0 10 = σ' 1 1 0 10 := g3.2 1 1 0 10 (by unfold MT; omega)
  have f_1_1_0_11 : σ2 1 1 0 11 = σ' 1 1 0 11 := g3.2 1 1 0 11 (by unfold MT; omega)
  have f_1_1_0_12 : σ2 1 1 0 12 = σ' 1 1 0 12 := g3.2 1 1 0 12 (by unfold MT; omega)
  have f_0_0_0_3 : σ2 0 0 0 3 = σ' 0 0 0 3 := g3.2 0 0 0 3 (by unfold MT; omega)
  have f_36_0_0_637 : σ2 36 0 0 637 = σ' 36 0 0 637 := g3.2 36 0 0 637 (by unfold MT; omega)
  have f_36_0_0_638 : σ2 36 0 0 638 = σ' 36 0 0 638 := g3.2 36 0 0 638 (by unfold MT; omega)
  have f_36_0_0_639 : σ2 36 0 0 639 = σ' 36 0 0 639 := g3.2 36 0 0 639 (by unfold MT; omega)
  have f_36_0_2_637 : σ2 36 0 2 637 = σ' 36 0 2 637 := g3.2 36 0 2 637 (by unfold MT; omega)
  have f_36_0_2_638 : σ2 36 0 2 638 = σ' 36 0 2 638 := g3.2 36 0 2 638 (by unfold MT; omega)
  have f_36_0_2_639 : σ2 36 0 2 639 = σ' 36 0 2 639 := g3.2 36 0 2 639 (by unfold MT; omega)
  have f_35_0_0_3 : σ2 35 0 0 3 = σ' 35 0 0 3 := g3.2 35 0 0 3 (by unfold MT; omega)
  have hz : True := trivial
  refine ⟨y, g1, hz, ?_, ?_, ?_⟩
  · exact hJ'.fr g3 (fun t i k j q => by unfold MT at q; unfold wj; omega)
  · unfold R1 RC1
    clear h2 g2
    refine ⟨⟨(by rw [f_1_0_0_10, f_36_0_0_637, e_1_0_0_10, e_36_0_0_637]; exact hR.1.1), (by rw [f_1_0_0_11, f_36_0_0_638, e_1_0_0_11, e_36_0_0_638]; exact hR.1.2.1), (by rw [f_1_0_0_12, f_36_0_0_639, e_1_0_0_12, e_36_0_0_639]; exact hR.1.2.2)⟩, (by rw [f_0_0_0_3, f_35_0_0_3, e_0_0_0_3, e_35_0_0_3]; exact hR.2.1), fun q => ?_⟩
    have q' := hR.2.2 (by rw [← e_35_0_0_3, ← f_35_0_0_3]; exact q)
    exact ⟨(by rw [f_1_1_0_10, f_36_0_2_637, e_1_1_0_10, e_36_0_2_637]; exact q'.1), (by rw [f_1_1_0_11, f_36_0_2_638, e_1_1_0_11, e_36_0_2_638]; exact q'.2.1), (by rw [f_1_1_0_12, f_36_0_2_639, e_1_1_0_12, e_36_0_2_639]; exact q'.2.2)⟩
  · exact (hJ.2.2.fr h3 (fun t i k j q => by unfold MI at q; unfold rwx; omega)).fr g3 (fun t i k j q => by unfold MT at q; unfold rwx; omega)
def PX_34y  (y : Int) (σ' : ZS) : Prop := ∃ σ, JR σ ∧ IF MRs σ σ' ∧ (y = (σ 1 1 0 13)) ∧ (σ' 1 0 0 6 = (σ 1 1 0 6) ∧ σ' 1 0 0 7 = (σ 1 1 0 7) ∧ σ' 1 0 0 10 = (σ 1 1 0 10) ∧ σ' 1 0 0 11 = (σ 1 1 0 11) ∧ σ' 1 0 0 12 = (σ 1 1 0 12) ∧ σ' 1 0 0 13 = (σ 1 1 0 13) ∧ (∀ j, 0 ≤ j → j < 40 → σ' 7 0 0 j = σ 7 1 0 j) ∧ (∀ j, 0 ≤ j → j < 40 → σ' 8 0 0 j = σ 8 1 0 j) ∧ (∀ j, 0 ≤ j → j < 40 → σ' 9 0 0 j = σ 9 1 0 j) ∧ True) ∧ (σ 0 0 0 3 = 1)
theorem ux_34y {xs : Nat × (Nat → Int32)}   (σ : ZS) (hJ : JR σ) (hc : σ 0 0 0 3 = 1) : CT xs 120 109 [av 0 0 0] σ (fun v σ' => ∃ y, v = some (iv y) ∧ PX_34y  y σ') := by
  have hN := hJ.1.2.2.2
  unfold NB at hN
  have hR := hJ.2.1
  unfold R1 RC1 at hR
  have q_0_6 : 0 ≤ σ 1 0 0 6 ∧ σ 1 0 0 6 ≤ 12 := (fun h => h.2.2.1 (by omega) (by omega)) (hJ.1.1 1 0 0 6 (vd_1 (by omega)))
  have q_0_7 : 0 ≤ σ 1 0 0 7 ∧ σ 1 0 0 7 ≤ 6 := (fun h => h.2.2.2.1 (by omega) (by omega)) (hJ.1.1 1 0 0 7 (vd_1 (by omega)))
  have q_0_10 : 0 ≤ σ 1 0 0 10 ∧ σ 1 0 0 10 ≤ 99 := (fun h => h.2.2.2.2.1 (by omega) (by omega)) (hJ.1.1 1 0 0 10 (vd_1 (by omega)))
  have q_0_11 : 1 ≤ σ 1 0 0 11 ∧ σ 1 0 0 11 ≤ 9 := (fun h => h.2.2.2.2.2.1 (by omega) (by omega)) (hJ.1.1 1 0 0 11 (vd_1 (by omega)))
  have q_0_12 : 0 ≤ σ 1 0 0 12 ∧ σ 1 0 0 12 ≤ 9999 := (fun h => h.2.2.2.2.2.2 (by omega) (by omega)) (hJ.1.1 1 0 0 12 (vd_1 (by omega)))
  have q_0_13 : -2147483648 ≤ σ 1 0 0 13 ∧ σ 1 0 0 13 ≤ 2147483647 := (fun h => (by have q := h.1; omega)) (hJ.1.1 1 0 0 13 (vd_1 (by omega)))
  have q_1_6 : 0 ≤ σ 1 1 0 6 ∧ σ 1 1 0 6 ≤ 12 := (fun h => h.2.2.1 (by omega) (by omega)) (hJ.1.1 1 1 0 6 (vd_1 (by omega)))
  have q_1_7 : 0 ≤ σ 1 1 0 7 ∧ σ 1 1 0 7 ≤ 6 := (fun h => h.2.2.2.1 (by omega) (by omega)) (hJ.1.1 1 1 0 7 (vd_1 (by omega)))
  have q_1_10 : 0 ≤ σ 1 1 0 10 ∧ σ 1 1 0 10 ≤ 99 := (fun h => h.2.2.2.2.1 (by omega) (by omega)) (hJ.1.1 1 1 0 10 (vd_1 (by omega)))
  have q_1_11 : 1 ≤ σ 1 1 0 11 ∧ σ 1 1 0 11 ≤ 9 := (fun h => h.2.2.2.2.2.1 (by omega) (by omega)) (hJ.1.1 1 1 0 11 (vd_1 (by omega)))
  have q_1_12 : 0 ≤ σ 1 1 0 12 ∧ σ 1 1 0 12 ≤ 9999 := (fun h => h.2.2.2.2.2.2 (by omega) (by omega)) (hJ.1.1 1 1 0 12 (vd_1 (by omega)))
  have q_1_13 : -2147483648 ≤ σ 1 1 0 13 ∧ σ 1 1 0 13 ≤ 2147483647 := (fun h => (by have q := h.1; omega)) (hJ.1.1 1 1 0 13 (vd_1 (by omega)))
  exact (s_109w ((σ 1 1 0 6)) ((σ 1 1 0 7)) ((σ 1 1 0 10)) ((σ 1 1 0 11)) ((σ 1 1 0 12)) ((σ 1 1 0 13)) ((σ 7 1 0)) ((σ 8 1 0)) ((σ 9 1 0)) (by omega) (by omega) (by omega) (by omega) (by omega) (by omega) σ hJ.1.1 (by omega) rfl rfl rfl rfl rfl rfl (fun _ _ _ => rfl) (fun _ _ _ => rfl) (fun _ _ _ => rfl)).le (Nat.le_of_ble_eq_true rfl) (fun v σ' ⟨y, h1, h2, h3, h4⟩ => ⟨y, h1, σ, hJ, h3, h2, h4, hc⟩)
theorem um_34y {xs : Nat × (Nat → Int32)}   (z : Int) (σ' : ZS) (hP : PX_34y  z σ') : CT xs 120 185 [av 35 0 0] σ' (fun v σ2 => ∃ y, v = some (iv y) ∧ (True) ∧ JR σ2) := by
  obtain ⟨σ, hJ, h3, h2, h4, hc⟩ := hP
  have hR := hJ.2.1
  unfold R1 RC1 at hR
  have hJ' : JL σ' := hJ.1.fr h3 (fun t i k j q => by unfold MRs at q; unfold wj; omega)
  have hN := hJ'.2.2.2
  unfold NB at hN
  have hI := hJ'.1
  have e_1_1_0_10 : σ' 1 1 0 10 = σ 1 1 0 10 := h3.2 1 1 0 10 (by unfold MRs; omega)
  have e_1_1_0_11 : σ' 1 1 0 11 = σ 1 1 0 11 := h3.2 1 1 0 11 (by unfold MRs; omega)
  have e_1_1_0_12 : σ' 1 1 0 12 = σ 1 1 0 12 := h3.2 1 1 0 12 (by unfold MRs; omega)
  have e_0_0_0_3 : σ' 0 0 0 3 = σ 0 0 0 3 := h3.2 0 0 0 3 (by unfold MRs; omega)
  have e_36_0_0_637 : σ' 36 0 0 637 = σ 36 0 0 637 := h3.2 36 0 0 637 (by unfold MRs; omega)
  have e_36_0_0_638 : σ' 36 0 0 638 = σ 36 0 0 638 := h3.2 36 0 0 638 (by unfold MRs; omega)
  have e_36_0_0_639 : σ' 36 0 0 639 = σ 36 0 0 639 := h3.2 36 0 0 639 (by unfold MRs; omega)
  have e_36_0_2_637 : σ' 36 0 2 637 = σ 36 0 2 637 := h3.2 36 0 2 637 (by unfold MRs; omega)
  have e_36_0_2_638 : σ' 36 0 2 638 = σ 36 0 2 638 := h3.2 36 0 2 638 (by unfold MRs; omega)
  have e_36_0_2_639 : σ' 36 0 2 639 = σ 36 0 2 639 := h3.2 36 0 2 639 (by unfold MRs; omega)
  have e_35_0_0_3 : σ' 35 0 0 3 = σ 35 0 0 3 := h3.2 35 0 0 3 (by unfold MRs; omega)
  have p_641 : 0 ≤ σ' 36 0 0 641 ∧ σ' 36 0 0 641 ≤ 12 := (fun h => h.2.2.2.2.2.2.2.2.2.2.2.2.1 (by omega) (by omega)) (hI 36 0 0 641 (vd_36 (by omega)))
  have p_642 : 0 ≤ σ' 36 0 0 642 ∧ σ' 36 0 0 642 ≤ 6 := (fun h => h.2.2.2.2.2.2.2.2.2.2.2.2.2 (by omega) (by omega)) (hI 36 0 0 642 (vd_36 (by omega)))
  have p_637 : 0 ≤ σ' 36 0 0 637 ∧ σ' 36 0 0 637 ≤ 99 := (fun h => h.2.2.2.2.2.2.2.2.1 (by omega) (by omega)) (hI 36 0 0 637 (vd_36 (by omega)))
  have p_638 : 0 ≤ σ' 36 0 0 638 ∧ σ' 36 0 0 638 ≤ 9 := (fun h => h.2.2.2.2.2.2.2.2.2.1 (by omega) (by omega)) (hI 36 0 0 638 (vd_36 (by omega)))
  have p_639 : 0 ≤ σ' 36 0 0 639 ∧ σ' 36 0 0 639 ≤ 9999 := (fun h => h.2.2.2.2.2.2.2.2.2.2.1 (by omega) (by omega)) (hI 36 0 0 639 (vd_36 (by omega)))
  refine (m_185y ((σ' 36 0 2 634)) (by omega) σ' hI  (by omega) rfl).le (Nat.le_of_ble_eq_true rfl) (fun v σ2 hq => ?_)
  obtain ⟨y, g1, g2, g3, g4⟩ := hq
  have f_1_0_0_10 : σ2 1 0 0 10 = σ' 1 0 0 10 := g3.2 1 0 0 10 (by unfold MRm; omega)
  have f_1_0_0_11 : σ2 1 0 0 11 = σ' 1 0 0 11 := g3.2 1 0 0 11 (by unfold MRm; omega)
  have f_1_0_0_12 : σ2 1 0 0 12 = σ' 1 0 0 12 := g3.2 1 0 0 12 (by unfold MRm; omega)
  have f_1_1_0_10 : σ2 1 1 0 10 = σ' 1 1 0 10 := g3.2 1 1 0 10 (by unfold MRm; omega)
  have f_1_1_0_11 : σ2 1 1 0 11 = σ' 1 1 0 11 := g3.2 1 1 0 11 (by unfold MRm; omega)
  have f_1_1_0_12 : σ2 1 1 0 12 = σ' 1 1 0 12 := g3.2 1 1 0 12 (by unfold MRm; omega)
  have f_0_0_0_3 : σ2 0 0 0 3 = σ' 0 0 0 3 := g3.2 0 0 0 3 (by unfold MRm; omega)
  have f_36_0_2_637 : σ2 36 0 2 637 = σ' 36 0 2 637 := g3.2 36 0 2 637 (by unfold MRm; omega)
  have f_36_0_2_638 : σ2 36 0 2 638 = σ' 36 0 2 638 := g3.2 36 0 2 638 (by unfold MRm; omega)
  have f_36_0_2_639 : σ2 36 0 2 639 = σ' 36 0 2 639 := g3.2 36 0 2 639 (by unfold MRm; omega)
  have f_35_0_0_3 : σ2 35 0 0 3 = σ' 35 0 0 3 := g3.2 35 0 0 3 (by unfold MRm; omega)
  have w_637 := g4.1 637 (by omega) (by omega)
  have w_638 := g4.1 638 (by omega) (by omega)
  have w_639 := g4.1 639 (by omega) (by omega)
  have hz : True := trivial
  have k0 := h4.1
  have k1 := h4.2.1
  have k2 := h4.2.2.1
  have k3 := h4.2.2.2.1
  have k4 := h4.2.2.2.2.1
  have k5 := h4.2.2.2.2.2.1
  have k6 := h4.2.2.2.2.2.2.1
  have k7 := h4.2.2.2.2.2.2.2.1
  have k8 := h4.2.2.2.2.2.2.2.2.1
  have l1 := g4.2.1
  have l2 := g4.2.2.1
  refine ⟨y, g1, hz, ?_, ?_, ?_⟩
  · exact hJ'.fb g3 (fun t i k j q q2 => by unfold MRm at q; unfold wj at q2; omega) g4.1 g4.2.1 g4.2.2.1
  · unfold R1 RC1
    clear h2 g2
    refine ⟨⟨(by omega), (by omega), (by omega)⟩, (by rw [f_0_0_0_3, f_35_0_0_3, e_0_0_0_3, e_35_0_0_3]; exact hR.2.1), fun q => ?_⟩
    have q' := hR.2.2 (by rw [← e_35_0_0_3, ← f_35_0_0_3]; exact q)
    exact ⟨(by rw [f_1_1_0_10, f_36_0_2_637, e_1_1_0_10, e_36_0_2_637]; exact q'.1), (by rw [f_1_1_0_11, f_36_0_2_638, e_1_1_0_11, e_36_0_2_638]; exact q'.2.1), (by rw [f_1_1_0_12, f_36_0_2_639, e_1_1_0_12, e_36_0_2_639]; exact q'.2.2)⟩
  · skip
    clear h2 g2
    refine ⟨?_, fun q => ?_⟩
    · intro n hn
      have hx := ixn_lt hn
      have r := (hJ.2.2.2 (by omega)) n hn
      have a8 : σ2 8 0 0 n = σ 8 1 0 n := (g3.2 8 0 0 n (by unfold MRm; omega)).trans (h4.2.2.2.2.2.2.2.1 n (by omega) (by omega))
      have b8 : σ2 36 0 0 (100 + ixn n) = σ 36 0 2 (100 + ixn n) := (g4.1 _ (by omega) (by omega)).trans (h3.2 36 0 2 _ (by unfold MRs; omega))
      have a9 : σ2 9 0 0 n = σ 9 1 0 n := (g3.2 9 0 0 n (by unfold MRm; omega)).trans (h4.2.2.2.2.2.2.2.2.1 n (by omega) (by omega))
      have b9 : σ2 36 0 0 (150 + ixn n) = σ 36 0 2 (150 + ixn n) := (g4.1 _ (by omega) (by omega)).trans (h3.2 36 0 2 _ (by unfold MRs; omega))
      have a7 : σ2 7 0 0 n = σ 7 1 0 n := (g3.2 7 0 0 n (by unfold MRm; omega)).trans (h4.2.2.2.2.2.2.1 n (by omega) (by omega))
      have b7 : σ2 36 0 0 (200 + ixn n) = σ 36 0 2 (200 + ixn n) := (g4.1 _ (by omega) (by omega)).trans (h3.2 36 0 2 _ (by unfold MRs; omega))
      rw [a8, b8, a9, b9, a7, b7]
      exact r
    · exact (hJ.2.2.2 (by omega)).eq (fun t n a b q => (g3.2 t 1 0 n (by unfold MRm; omega)).trans (h3.2 t 1 0 n (by unfold MRs; omega))) (fun j a b => (g3.2 36 0 2 j (by unfold MRm; omega)).trans (h3.2 36 0 2 j (by unfold MRs; omega)))
def PX_34  (y : Int) (σ' : ZS) : Prop := PX_34n  y σ' ∨ PX_34y  y σ'
theorem ux_34 {xs : Nat × (Nat → Int32)}   (σ : ZS) (hJ : JR σ) : CT xs 120 109 [av 0 0 0] σ (fun v σ' => ∃ y, v = some (iv y) ∧ PX_34  y σ') := by
  have hh := hJ.1.1 0 0 0 3 vd_0
  simp only [rgP] at hh
  by_cases h0 : σ 0 0 0 3 = 0
  · exact (ux_34n   σ hJ h0).le (Nat.le_refl _) (fun v σ' ⟨y, h1, h2⟩ => ⟨y, h1, Or.inl h2⟩)
  · exact (ux_34y   σ hJ (by omega)).le (Nat.le_refl _) (fun v σ' ⟨y, h1, h2⟩ => ⟨y, h1, Or.inr h2⟩)
theorem um_34 {xs : Nat × (Nat → Int32)}   (z : Int) (σ' : ZS) (hP : PX_34  z σ') : CT xs 120 185 [av 35 0 0] σ' (fun v σ2 => ∃ y, v = some (iv y) ∧ (True) ∧ JR σ2) := hP.elim (um_34n   z σ') (um_34y   z σ')
def PX_16 (p0 : Int) (p1 : Int) (y : Int) (σ' : ZS) : Prop := ∃ σ, JR σ ∧ IF (MC 10 13 28) σ σ' ∧ ((y = (σ 1 0 0 10) ∧ (p0 = 0 ∧ 0 ≤ p1 ∧ p1 ≤ 99)) ∨ (y = (σ 1 0 0 11) ∧ ¬ (p0 = 0 ∧ 0 ≤ p1 ∧ p1 ≤ 99) ∧ (p0 = 1 ∧ 1 ≤ p1 ∧ p1 ≤ 9)) ∨ (y = (σ 1 0 0 12) ∧ ¬ (p0 = 0 ∧ 0 ≤ p1 ∧ p1 ≤ 99) ∧ ¬ (p0 = 1 ∧ 1 ≤ p1 ∧ p1 ≤ 9) ∧ (p0 = 2 ∧ 0 ≤ p1 ∧ p1 ≤ 9999)) ∨ (y = -6 ∧ ¬ (p0 = 0 ∧ 0 ≤ p1 ∧ p1 ≤ 99) ∧ ¬ (p0 = 1 ∧ 1 ≤ p1 ∧ p1 ≤ 9) ∧ ¬ (p0 = 2 ∧ 0 ≤ p1 ∧ p1 ≤ 9999))) ∧ ((((p0 = 0 ∧ 0 ≤ p1 ∧ p1 ≤ 99) → σ' 1 0 0 10 = p1) ∧ (¬ (p0 = 0 ∧ 0 ≤ p1 ∧ p1 ≤ 99) → σ' 1 0 0 10 = (σ 1 0 0 10))) ∧ (((p0 = 1 ∧ 1 ≤ p1 ∧ p1 ≤ 9) → σ' 1 0 0 11 = p1) ∧ (¬ (p0 = 1 ∧ 1 ≤ p1 ∧ p1 ≤ 9) → σ' 1 0 0 11 = (σ 1 0 0 11))) ∧ (((p0 = 2 ∧ 0 ≤ p1 ∧ p1 ≤ 9999) → σ' 1 0 0 12 = p1) ∧ (¬ (p0 = 2 ∧ 0 ≤ p1 ∧ p1 ≤ 9999) → σ' 1 0 0 12 = (σ 1 0 0 12))) ∧ True)
theorem ux_16 {xs : Nat × (Nat → Int32)} (p0 : Int) (p1 : Int) (hp0 : -2147483648 ≤ p0 ∧ p0 ≤ 2147483647) (hp1 : -2147483648 ≤ p1 ∧ p1 ≤ 2147483647) (σ : ZS) (hJ : JR σ) : CT xs 120 92 [av 0 0 0, iv p0, iv p1] σ (fun v σ' => ∃ y, v = some (iv y) ∧ PX_16 p0 p1 y σ') := by
  have hN := hJ.1.2.2.2
  unfold NB at hN
  have hR := hJ.2.1
  unfold R1 RC1 at hR
  have q_0_6 : 0 ≤ σ 1 0 0 6 ∧ σ 1 0 0 6 ≤ 12 := (fun h => h.2.2.1 (by omega) (by omega)) (hJ.1.1 1 0 0 6 (vd_1 (by omega)))
  have q_0_7 : 0 ≤ σ 1 0 0 7 ∧ σ 1 0 0 7 ≤ 6 := (fun h => h.2.2.2.1 (by omega) (by omega)) (hJ.1.1 1 0 0 7 (vd_1 (by omega)))
  have q_0_10 : 0 ≤ σ 1 0 0 10 ∧ σ 1 0 0 10 ≤ 99 := (fun h => h.2.2.2.2.1 (by omega) (by omega)) (hJ.1.1 1 0 0 10 (vd_1 (by omega)))
  have q_0_11 : 1 ≤ σ 1 0 0 11 ∧ σ 1 0 0 11 ≤ 9 := (fun h => h.2.2.2.2.2.1 (by omega) (by omega)) (hJ.1.1 1 0 0 11 (vd_1 (by omega)))
  have q_0_12 : 0 ≤ σ 1 0 0 12 ∧ σ 1 0 0 12 ≤ 9999 := (fun h => h.2.2.2.2.2.2 (by omega) (by omega)) (hJ.1.1 1 0 0 12 (vd_1 (by omega)))
  have q_0_13 : -2147483648 ≤ σ 1 0 0 13 ∧ σ 1 0 0 13 ≤ 2147483647 := (fun h => (by have q := h.1; omega)) (hJ.1.1 1 0 0 13 (vd_1 (by omega)))
  have q_1_6 : 0 ≤ σ 1 1 0 6 ∧ σ 1 1 0 6 ≤ 12 := (fun h => h.2.2.1 (by omega) (by omega)) (hJ.1.1 1 1 0 6 (vd_1 (by omega)))
  have q_1_7 : 0 ≤ σ 1 1 0 7 ∧ σ 1 1 0 7 ≤ 6 := (fun h => h.2.2.2.1 (by omega) (by omega)) (hJ.1.1 1 1 0 7 (vd_1 (by omega)))
  have q_1_10 : 0 ≤ σ 1 1 0 10 ∧ σ 1 1 0 10 ≤ 99 := (fun h => h.2.2.2.2.1 (by omega) (by omega)) (hJ.1.1 1 1 0 10 (vd_1 (by omega)))
  have q_1_11 : 1 ≤ σ 1 1 0 11 ∧ σ 1 1 0 11 ≤ 9 := (fun h => h.2.2.2.2.2.1 (by omega) (by omega)) (hJ.1.1 1 1 0 11 (vd_1 (by omega)))
  have q_1_12 : 0 ≤ σ 1 1 0 12 ∧ σ 1 1 0 12 ≤ 9999 := (fun h => h.2.2.2.2.2.2 (by omega) (by omega)) (hJ.1.1 1 1 0 12 (vd_1 (by omega)))
  have q_1_13 : -2147483648 ≤ σ 1 1 0 13 ∧ σ 1 1 0 13 ≤ 2147483647 := (fun h => (by have q := h.1; omega)) (hJ.1.1 1 1 0 13 (vd_1 (by omega)))
  exact (s_92 p0 p1 ((σ 1 0 0 10)) ((σ 1 0 0 11)) ((σ 1 0 0 12)) (by omega) (by omega) (by omega) (by omega) (by omega) σ hJ.1.1 rfl rfl rfl).le (Nat.le_of_ble_eq_true rfl) (fun v σ' ⟨y, h1, h2, h3, h4⟩ => ⟨y, h1, σ, hJ, h3, h2, h4⟩)
theorem um_16 {xs : Nat × (Nat → Int32)} (p0 : Int) (p1 : Int) (hp0 : -2147483648 ≤ p0 ∧ p0 ≤ 2147483647) (hp1 : -2147483648 ≤ p1 ∧ p1 ≤ 2147483647) (z : Int) (σ' : ZS) (hP : PX_16 p0 p1 z σ') : CT xs 120 147 [av 35 0 0, iv p0, iv p1] σ' (fun v σ2 => ∃ y, v = some (iv y) ∧ (z = y) ∧ JR σ2) := by
  obtain ⟨σ, hJ, h3, h2, h4⟩ := hP
  have hR := hJ.2.1
  unfold R1 RC1 at hR
  have hJ' : JL σ' := hJ.1.fr h3 (fun t i k j q => by unfold MC at q; unfold wj; omega)
  have hN := hJ'.2.2.2
  unfold NB at hN
  have hI := hJ'.1
  have e_1_1_0_10 : σ' 1 1 0 10 = σ 1 1 0 10 := h3.2 1 1 0 10 (by unfold MC; omega)
  have e_1_1_0_11 : σ' 1 1 0 11 = σ 1 1 0 11 := h3.2 1 1 0 11 (by unfold MC; omega)
  have e_1_1_0_12 : σ' 1 1 0 12 = σ 1 1 0 12 := h3.2 1 1 0 12 (by unfold MC; omega)
  have e_0_0_0_3 : σ' 0 0 0 3 = σ 0 0 0 3 := h3.2 0 0 0 3 (by unfold MC; omega)
  have e_36_0_0_637 : σ' 36 0 0 637 = σ 36 0 0 637 := h3.2 36 0 0 637 (by unfold MC; omega)
  have e_36_0_0_638 : σ' 36 0 0 638 = σ 36 0 0 638 := h3.2 36 0 0 638 (by unfold MC; omega)
  have e_36_0_0_639 : σ' 36 0 0 639 = σ 36 0 0 639 := h3.2 36 0 0 639 (by unfold MC; omega)
  have e_36_0_2_637 : σ' 36 0 2 637 = σ 36 0 2 637 := h3.2 36 0 2 637 (by unfold MC; omega)
  have e_36_0_2_638 : σ' 36 0 2 638 = σ 36 0 2 638 := h3.2 36 0 2 638 (by unfold MC; omega)
  have e_36_0_2_639 : σ' 36 0 2 639 = σ 36 0 2 639 := h3.2 36 0 2 639 (by unfold MC; omega)
  have e_35_0_0_3 : σ' 35 0 0 3 = σ 35 0 0 3 := h3.2 35 0 0 3 (by unfold MC; omega)
  have p_641 : 0 ≤ σ' 36 0 0 641 ∧ σ' 36 0 0 641 ≤ 12 := (fun h => h.2.2.2.2.2.2.2.2.2.2.2.2.1 (by omega) (by omega)) (hI 36 0 0 641 (vd_36 (by omega)))
  have p_642 : 0 ≤ σ' 36 0 0 642 ∧ σ' 36 0 0 642 ≤ 6 := (fun h => h.2.2.2.2.2.2.2.2.2.2.2.2.2 (by omega) (by omega)) (hI 36 0 0 642 (vd_36 (by omega)))
  have p_637 : 0 ≤ σ' 36 0 0 637 ∧ σ' 36 0 0 637 ≤ 99 := (fun h => h.2.2.2.2.2.2.2.2.1 (by omega) (by omega)) (hI 36 0 0 637 (vd_36 (by omega)))
  have p_638 : 0 ≤ σ' 36 0 0 638 ∧ σ' 36 0 0 638 ≤ 9 := (fun h => h.2.2.2.2.2.2.2.2.2.1 (by omega) (by omega)) (hI 36 0 0 638 (vd_36 (by omega)))
  have p_639 : 0 ≤ σ' 36 0 0 639 ∧ σ' 36 0 0 639 ≤ 9999 := (fun h => h.2.2.2.2.2.2.2.2.2.2.1 (by omega) (by omega)) (hI 36 0 0 639 (vd_36 (by omega)))
  refine (r_147 p0 p1 ((σ' 36 0 0 637)) ((σ' 36 0 0 638)) ((σ' 36 0 0 639)) (by omega) (by omega) (by omega) (by omega) (by omega) σ' hI  rfl rfl rfl).le (Nat.le_of_ble_eq_true rfl) (fun v σ2 hq => ?_)
  obtain ⟨y, g1, g2, g3, g4⟩ := hq
  have f_1_0_0_10 : σ2 1 0 0 10 = σ' 1 0 0 10 := g3.2 1 0 0 10 (by unfold MJ; omega)
  have f_1_0_0_11 : σ2 1 0 0 11 = σ' 1 0 0 11 := g3.2 1 0 0 11 (by unfold MJ; omega)
  have f_1_0_0_12 : σ2 1 0 0 12 = σ' 1 0 0 12 := g3.2 1 0 0 12 (by unfold MJ; omega)
  have f_1_1_0_10 : σ2 1 1 0 10 = σ' 1 1 0 10 := g3.2 1 1 0 10 (by unfold MJ; omega)
  have f_1_1_0_11 : σ2 1 1 0 11 = σ' 1 1 0 11 := g3.2 1 1 0 11 (by unfold MJ; omega)
  have f_1_1_0_12 : σ2 1 1 0 12 = σ' 1 1 0 12 := g3.2 1 1 0 12 (by unfold MJ; omega)
  have f_0_0_0_3 : σ2 0 0 0 3 = σ' 0 0 0 3 := g3.2 0 0 0 3 (by unfold MJ; omega)
  have f_36_0_2_637 : σ2 36 0 2 637 = σ' 36 0 2 637 := g3.2 36 0 2 637 (by unfold MJ; omega)
  have f_36_0_2_638 : σ2 36 0 2 638 = σ' 36 0 2 638 := g3.2 36 0 2 638 (by unfold MJ; omega)
  have f_36_0_2_639 : σ2 36 0 2 639 = σ' 36 0 2 639 := g3.2 36 0 2 639 (by unfold MJ; omega)
  have f_35_0_0_3 : σ2 35 0 0 3 = σ' 35 0 0 3 := g3.2 35 0 0 3 (by unfold MJ; omega)
  have hv0 : (σ' 36 0 0 637) = (σ 1 0 0 10) := by clear h2 g2 h4 g4; omega
  have hv1 : (σ' 36 0 0 638) = (σ 1 0 0 11) := by clear h2 g2 h4 g4; omega
  have hv2 : (σ' 36 0 0 639) = (σ 1 0 0 12) := by clear h2 g2 h4 g4; omega
  have hz : z = y := by
    rw [hv0, hv1, hv2] at g2
    exact cs_4 h2 g2
  have k0 := h4.1
  have k1 := h4.2.1
  have k2 := h4.2.2.1
  have l0 := g4.1
  have l1 := g4.2.1
  have l2 := g4.2.2.1
  refine ⟨y, g1, hz, ?_, ?_, ?_⟩
  · exact hJ'.fr g3 (fun t i k j q => by unfold MJ at q; unfold wj; omega)
  · unfold R1 RC1
    clear h2 g2
    refine ⟨⟨(by omega), (by omega), (by omega)⟩, (by rw [f_0_0_0_3, f_35_0_0_3, e_0_0_0_3, e_35_0_0_3]; exact hR.2.1), fun q => ?_⟩
    have q' := hR.2.2 (by rw [← e_35_0_0_3, ← f_35_0_0_3]; exact q)
    exact ⟨(by rw [f_1_1_0_10, f_36_0_2_637, e_1_1_0_10, e_36_0_2_637]; exact q'.1), (by rw [f_1_1_0_11, f_36_0_2_638, e_1_1_0_11, e_36_0_2_638]; exact q'.2.1), (by rw [f_1_1_0_12, f_36_0_2_639, e_1_1_0_12, e_36_0_2_639]; exact q'.2.2)⟩
  · exact (hJ.2.2.fr h3 (fun t i k j q => by unfold MC at q; unfold rwx; omega)).fr g3 (fun t i k j q => by unfold MJ at q; unfold rwx; omega)
def PX_2 (p0 : Int) (p1 : Int) (p2 : Int) (y : Int) (σ' : ZS) : Prop := ∃ σ, JR σ ∧ IF (MW8 (Int.toNat (wC p0 p1))) σ σ' ∧ ((y = -1 ∧ (¬ 0 ≤ wC p0 p1)) ∨ (y = 0 ∧ ¬ (¬ 0 ≤ wC p0 p1) ∧ ((σ 8 0 0 (Int.toNat (wC p0 p1))) = p2)) ∨ (y = 1 ∧ ¬ (¬ 0 ≤ wC p0 p1) ∧ ¬ ((σ 8 0 0 (Int.toNat (wC p0 p1))) = p2))) ∧ (((0 ≤ wC p0 p1 → σ' 8 0 0 (Int.toNat (wC p0 p1)) = p2) ∧ (¬ 0 ≤ wC p0 p1 → σ' 8 0 0 (Int.toNat (wC p0 p1)) = (σ 8 0 0 (Int.toNat (wC p0 p1))))) ∧ True)
theorem ux_2 {xs : Nat × (Nat → Int32)} (p0 : Int) (p1 : Int) (p2 : Int) (hp0 : -2147483648 ≤ p0 ∧ p0 ≤ 2147483647) (hp1 : -2147483648 ≤ p1 ∧ p1 ≤ 2147483647) (hp2 : 0 ≤ p2 ∧ p2 ≤ 1) (σ : ZS) (hJ : JR σ) : CT xs 120 77 [av 0 0 0, iv p0, iv p1, iv p2] σ (fun v σ' => ∃ y, v = some (iv y) ∧ PX_2 p0 p1 p2 y σ') := by
  have hN := hJ.1.2.2.2
  unfold NB at hN
  have hR := hJ.2.1
  unfold R1 RC1 at hR
  have hw := wC_ix p0 p1
  have cw_8 : 0 ≤ σ 8 0 0 (Int.toNat (wC p0 p1)) ∧ σ 8 0 0 (Int.toNat (wC p0 p1)) ≤ 1 := (fun h => h.2 (by omega) (by omega)) (hJ.1.1 8 0 0 (Int.toNat (wC p0 p1)) (vd_8 (by omega)))
  exact (s_77 p0 p1 p2 ((σ 8 0 0 (Int.toNat (wC p0 p1)))) (by omega) (by omega) (by omega) (by omega) σ hJ.1.1 rfl).le (Nat.le_of_ble_eq_true rfl) (fun v σ' ⟨y, h1, h2, h3, h4⟩ => ⟨y, h1, σ, hJ, h3, h2, h4⟩)
theorem um_2 {xs : Nat × (Nat → Int32)} (p0 : Int) (p1 : Int) (p2 : Int) (hp0 : -2147483648 ≤ p0 ∧ p0 ≤ 2147483647) (hp1 : -2147483648 ≤ p1 ∧ p1 ≤ 2147483647) (hp2 : 0 ≤ p2 ∧ p2 ≤ 1) (z : Int) (σ' : ZS) (hP : PX_2 p0 p1 p2 z σ') : CT xs 120 130 [av 35 0 0, iv p0, iv p1, iv p2] σ' (fun v σ2 => ∃ y, v = some (iv y) ∧ (z = y) ∧ JR σ2) := by
  obtain ⟨σ, hJ, h3, h2, h4⟩ := hP
  have hR := hJ.2.1
  unfold R1 RC1 at hR
  have hJ' : JL σ' := hJ.1.fr h3 (fun t i k j q => by unfold MW8 at q; unfold wj; omega)
  have hN := hJ'.2.2.2
  unfold NB at hN
  have hI := hJ'.1
  have e_1_0_0_10 : σ' 1 0 0 10 = σ 1 0 0 10 := h3.2 1 0 0 10 (by unfold MW8; omega)
  have e_1_0_0_11 : σ' 1 0 0 11 = σ 1 0 0 11 := h3.2 1 0 0 11 (by unfold MW8; omega)
  have e_1_0_0_12 : σ' 1 0 0 12 = σ 1 0 0 12 := h3.2 1 0 0 12 (by unfold MW8; omega)
  have e_1_1_0_10 : σ' 1 1 0 10 = σ 1 1 0 10 := h3.2 1 1 0 10 (by unfold MW8; omega)
  have e_1_1_0_11 : σ' 1 1 0 11 = σ 1 1 0 11 := h3.2 1 1 0 11 (by unfold MW8; omega)
  have e_1_1_0_12 : σ' 1 1 0 12 = σ 1 1 0 12 := h3.2 1 1 0 12 (by unfold MW8; omega)
  have e_0_0_0_3 : σ' 0 0 0 3 = σ 0 0 0 3 := h3.2 0 0 0 3 (by unfold MW8; omega)
  have e_36_0_0_637 : σ' 36 0 0 637 = σ 36 0 0 637 := h3.2 36 0 0 637 (by unfold MW8; omega)
  have e_36_0_0_638 : σ' 36 0 0 638 = σ 36 0 0 638 := h3.2 36 0 0 638 (by unfold MW8; omega)
  have e_36_0_0_639 : σ' 36 0 0 639 = σ 36 0 0 639 := h3.2 36 0 0 639 (by unfold MW8; omega)
  have e_36_0_2_637 : σ' 36 0 2 637 = σ 36 0 2 637 := h3.2 36 0 2 637 (by unfold MW8; omega)
  have e_36_0_2_638 : σ' 36 0 2 638 = σ 36 0 2 638 := h3.2 36 0 2 638 (by unfold MW8; omega)
  have e_36_0_2_639 : σ' 36 0 2 639 = σ 36 0 2 639 := h3.2 36 0 2 639 (by unfold MW8; omega)
  have e_35_0_0_3 : σ' 35 0 0 3 = σ 35 0 0 3 := h3.2 35 0 0 3 (by unfold MW8; omega)
  have p_641 : 0 ≤ σ' 36 0 0 641 ∧ σ' 36 0 0 641 ≤ 12 := (fun h => h.2.2.2.2.2.2.2.2.2.2.2.2.1 (by omega) (by omega)) (hI 36 0 0 641 (vd_36 (by omega)))
  have p_642 : 0 ≤ σ' 36 0 0 642 ∧ σ' 36 0 0 642 ≤ 6 := (fun h => h.2.2.2.2.2.2.2.2.2.2.2.2.2 (by omega) (by omega)) (hI 36 0 0 642 (vd_36 (by omega)))
  have p_637 : 0 ≤ σ' 36 0 0 637 ∧ σ' 36 0 0 637 ≤ 99 := (fun h => h.2.2.2.2.2.2.2.2.1 (by omega) (by omega)) (hI 36 0 0 637 (vd_36 (by omega)))
  have p_638 : 0 ≤ σ' 36 0 0 638 ∧ σ' 36 0 0 638 ≤ 9 := (fun h => h.2.2.2.2.2.2.2.2.2.1 (by omega) (by omega)) (hI 36 0 0 638 (vd_36 (by omega)))
  have p_639 : 0 ≤ σ' 36 0 0 639 ∧ σ' 36 0 0 639 ≤ 9999 := (fun h => h.2.2.2.2.2.2.2.2.2.2.1 (by omega) (by omega)) (hI 36 0 0 639 (vd_36 (by omega)))
  have hw := wC_ix p0 p1
  have mw_8 := (hI 36 0 0 (Int.toNat (100 + wM p0 p1)) (vd_36 (by omega))).1
  refine (r_130 p0 p1 p2 ((σ' 36 0 0 (Int.toNat (100 + wM p0 p1)))) (by omega) (by omega) (by omega) (by omega) σ' hI  rfl).le (Nat.le_of_ble_eq_true rfl) (fun v σ2 hq => ?_)
  obtain ⟨y, g1, g2, g3, g4⟩ := hq
  have f_1_0_0_10 : σ2 1 0 0 10 = σ' 1 0 0 10 := g3.2 1 0 0 10 (by unfold MW36; omega)
  have f_1_0_0_11 : σ2 1 0 0 11 = σ' 1 0 0 11 := g3.2 1 0 0 11 (by unfold MW36; omega)
  have f_1_0_0_12 : σ2 1 0 0 12 = σ' 1 0 0 12 := g3.2 1 0 0 12 (by unfold MW36; omega)
  have f_1_1_0_10 : σ2 1 1 0 10 = σ' 1 1 0 10 := g3.2 1 1 0 10 (by unfold MW36; omega)
  have f_1_1_0_11 : σ2 1 1 0 11 = σ' 1 1 0 11 := g3.2 1 1 0 11 (by unfold MW36; omega)
  have f_1_1_0_12 : σ2 1 1 0 12 = σ' 1 1 0 12 := g3.2 1 1 0 12 (by unfold MW36; omega)
  have f_0_0_0_3 : σ2 0 0 0 3 = σ' 0 0 0 3 := g3.2 0 0 0 3 (by unfold MW36; omega)
  have f_36_0_0_637 : σ2 36 0 0 637 = σ' 36 0 0 637 := g3.2 36 0 0 637 (by unfold MW36; omega)
  have f_36_0_0_638 : σ2 36 0 0 638 = σ' 36 0 0 638 := g3.2 36 0 0 638 (by unfold MW36; omega)
  have f_36_0_0_639 : σ2 36 0 0 639 = σ' 36 0 0 639 := g3.2 36 0 0 639 (by unfold MW36; omega)
  have f_36_0_2_637 : σ2 36 0 2 637 = σ' 36 0 2 637 := g3.2 36 0 2 637 (by unfold MW36; omega)
  have f_36_0_2_638 : σ2 36 0 2 638 = σ' 36 0 2 638 := g3.2 36 0 2 638 (by unfold MW36; omega)
  have f_36_0_2_639 : σ2 36 0 2 639 = σ' 36 0 2 639 := g3.2 36 0 2 639 (by unfold MW36; omega)
  have f_35_0_0_3 : σ2 35 0 0 3 = σ' 35 0 0 3 := g3.2 35 0 0 3 (by unfold MW36; omega)
  have hz : z = y := by
    clear h4 g4
    rcases hw with ⟨w1, w2⟩ | ⟨w1, w2, w3, w4, w5⟩
    · omega
    · have r := hJ.2.2.1 (Int.toNat (wC p0 p1)) (by omega)
      have ea8 : σ' 36 0 0 (Int.toNat (100 + wM p0 p1)) = σ 8 0 0 (Int.toNat (wC p0 p1)) := by
        rw [show Int.toNat (100 + wM p0 p1) = 100 + ixn (Int.toNat (wC p0 p1)) from by omega, r.1]
        exact h3.2 36 0 0 _ (by unfold MW8; omega)
      omega
  have k0 := h4.1
  have l0 := g4.1
  refine ⟨y, g1, hz, ?_, ?_, ?_⟩
  · exact hJ'.fr g3 (fun t i k j q => by unfold MW36 at q; unfold wj; omega)
  · unfold R1 RC1
    clear h2 g2
    refine ⟨⟨(by rw [f_1_0_0_10, f_36_0_0_637, e_1_0_0_10, e_36_0_0_637]; exact hR.1.1), (by rw [f_1_0_0_11, f_36_0_0_638, e_1_0_0_11, e_36_0_0_638]; exact hR.1.2.1), (by rw [f_1_0_0_12, f_36_0_0_639, e_1_0_0_12, e_36_0_0_639]; exact hR.1.2.2)⟩, (by rw [f_0_0_0_3, f_35_0_0_3, e_0_0_0_3, e_35_0_0_3]; exact hR.2.1), fun q => ?_⟩
    have q' := hR.2.2 (by rw [← e_35_0_0_3, ← f_35_0_0_3]; exact q)
    exact ⟨(by rw [f_1_1_0_10, f_36_0_2_637, e_1_1_0_10, e_36_0_2_637]; exact q'.1), (by rw [f_1_1_0_11, f_36_0_2_638, e_1_1_0_11, e_36_0_2_638]; exact q'.2.1), (by rw [f_1_1_0_12, f_36_0_2_639, e_1_1_0_12, e_36_0_2_639]; exact q'.2.2)⟩
  · skip
    clear h2 g2 h4 g4
    refine ⟨fun n hn => ?_, fun q => ?_⟩
    · have r := hJ.2.2.1 n hn
      have hx := ixn_lt hn
      have a8 : σ2 8 0 0 n = σ' 8 0 0 n := g3.2 8 0 0 n (by unfold MW36; omega)
      have e8 : σ' 36 0 0 (100 + ixn n) = σ 36 0 0 (100 + ixn n) := h3.2 36 0 0 _ (by unfold MW8; omega)
      have a9 : σ2 9 0 0 n = σ' 9 0 0 n := g3.2 9 0 0 n (by unfold MW36; omega)
      have b9 : σ' 9 0 0 n = σ 9 0 0 n := h3.2 9 0 0 n (by unfold MW8; omega)
      have f9 : σ2 36 0 0 (150 + ixn n) = σ' 36 0 0 (150 + ixn n) := g3.2 36 0 0 _ (by unfold MW36; omega)
      have e9 : σ' 36 0 0 (150 + ixn n) = σ 36 0 0 (150 + ixn n) := h3.2 36 0 0 _ (by unfold MW8; omega)
      have a7 : σ2 7 0 0 n = σ' 7 0 0 n := g3.2 7 0 0 n (by unfold MW36; omega)
      have b7 : σ' 7 0 0 n = σ 7 0 0 n := h3.2 7 0 0 n (by unfold MW8; omega)
      have f7 : σ2 36 0 0 (200 + ixn n) = σ' 36 0 0 (200 + ixn n) := g3.2 36 0 0 _ (by unfold MW36; omega)
      have e7 : σ' 36 0 0 (200 + ixn n) = σ 36 0 0 (200 + ixn n) := h3.2 36 0 0 _ (by unfold MW8; omega)
      by_cases hq : 0 ≤ wC p0 p1 ∧ n = Int.toNat (wC p0 p1)
      · obtain ⟨q1, rfl⟩ := hq
        have hi : Int.toNat (100 + wM p0 p1) = 100 + ixn (Int.toNat (wC p0 p1)) := by omega
        rw [hi] at l0
        exact ⟨by rw [a8, k0.1 q1, l0.1 (by omega)], by rw [a9, b9, f9, e9]; exact r.2.1, by rw [a7, b7, f7, e7]; exact r.2.2⟩
      · have b8 : σ' 8 0 0 n = σ 8 0 0 n := by
          by_cases h1 : n = Int.toNat (wC p0 p1)
          · subst h1; exact k0.2 (by omega)
          · exact h3.2 8 0 0 n (by unfold MW8; omega)
        have hne : 100 + ixn n ≠ Int.toNat (100 + wM p0 p1) := by
          rcases hw with ⟨w1, w2⟩ | ⟨w1, w2, w3, w4, w5⟩
          · omega
          · intro hh; exact hq ⟨w1, ixn_inj hn (by omega) (by omega)⟩
        have f8 : σ2 36 0 0 (100 + ixn n) = σ' 36 0 0 (100 + ixn n) := g3.2 36 0 0 _ (by unfold MW36; omega)
        exact ⟨by rw [a8, b8, f8, e8]; exact r.1, by rw [a9, b9, f9, e9]; exact r.2.1, by rw [a7, b7, f7, e7]; exact r.2.2⟩
    · exact (hJ.2.2.2 (by omega)).eq (fun t n a b q => (g3.2 t 1 0 n (by unfold MW36; omega)).trans (h3.2 t 1 0 n (by unfold MW8; omega))) (fun j a b => (g3.2 36 0 2 j (by unfold MW36; omega)).trans (h3.2 36 0 2 j (by unfold MW8; omega)))
def PX_3 (p0 : Int) (p1 : Int) (p2 : Int) (y : Int) (σ' : ZS) : Prop := ∃ σ, JR σ ∧ IF (MW9 (Int.toNat (wC p0 p1))) σ σ' ∧ ((y = -1 ∧ (¬ 0 ≤ wC p0 p1)) ∨ (y = 0 ∧ ¬ (¬ 0 ≤ wC p0 p1) ∧ ((σ 9 0 0 (Int.toNat (wC p0 p1))) = p2)) ∨ (y = 1 ∧ ¬ (¬ 0 ≤ wC p0 p1) ∧ ¬ ((σ 9 0 0 (Int.toNat (wC p0 p1))) = p2))) ∧ (((0 ≤ wC p0 p1 → σ' 9 0 0 (Int.toNat (wC p0 p1)) = p2) ∧ (¬ 0 ≤ wC p0 p1 → σ' 9 0 0 (Int.toNat (wC p0 p1)) = (σ 9 0 0 (Int.toNat (wC p0 p1))))) ∧ True)
theorem ux_3 {xs : Nat × (Nat → Int32)} (p0 : Int) (p1 : Int) (p2 : Int) (hp0 : -2147483648 ≤ p0 ∧ p0 ≤ 2147483647) (hp1 : -2147483648 ≤ p1 ∧ p1 ≤ 2147483647) (hp2 : 0 ≤ p2 ∧ p2 ≤ 1) (σ : ZS) (hJ : JR σ) : CT xs 120 78 [av 0 0 0, iv p0, iv p1, iv p2] σ (fun v σ' => ∃ y, v = some (iv y) ∧ PX_3 p0 p1 p2 y σ') := by
  have hN := hJ.1.2.2.2
  unfold NB at hN
  have hR := hJ.2.1
  unfold R1 RC1 at hR
  have hw := wC_ix p0 p1
  have cw_9 : 0 ≤ σ 9 0 0 (Int.toNat (wC p0 p1)) ∧ σ 9 0 0 (Int.toNat (wC p0 p1)) ≤ 1 := (fun h => h.2 (by omega) (by omega)) (hJ.1.1 9 0 0 (Int.toNat (wC p0 p1)) (vd_9 (by omega)))
  exact (s_78 p0 p1 p2 ((σ 9 0 0 (Int.toNat (wC p0 p1)))) (by omega) (by omega) (by omega) (by omega) σ hJ.1.1 rfl).le (Nat.le_of_ble_eq_true rfl) (fun v σ' ⟨y, h1, h2, h3, h4⟩ => ⟨y, h1, σ, hJ, h3, h2, h4⟩)
theorem um_3 {xs : Nat × (Nat → Int32)} (p0 : Int) (p1 : Int) (p2 : Int) (hp0 : -2147483648 ≤ p0 ∧ p0 ≤ 2147483647) (hp1 : -2147483648 ≤ p1 ∧ p1 ≤ 2147483647) (hp2 : 0 ≤ p2 ∧ p2 ≤ 1) (z : Int) (σ' : ZS) (hP : PX_3 p0 p1 p2 z σ') : CT xs 120 131 [av 35 0 0, iv p0, iv p1, iv p2] σ' (fun v σ2 => ∃ y, v = some (iv y) ∧ (z = y) ∧ JR σ2) := by
  obtain ⟨σ, hJ, h3, h2, h4⟩ := hP
  have hR := hJ.2.1
  unfold R1 RC1 at hR
  have hJ' : JL σ' := hJ.1.fr h3 (fun t i k j q => by unfold MW9 at q; unfold wj; omega)
  have hN := hJ'.2.2.2
  unfold NB at hN
  have hI := hJ'.1
  have e_1_0_0_10 : σ' 1 0 0 10 = σ 1 0 0 10 := h3.2 1 0 0 10 (by unfold MW9; omega)
  have e_1_0_0_11 : σ' 1 0 0 11 = σ 1 0 0 11 := h3.2 1 0 0 11 (by unfold MW9; omega)
  have e_1_0_0_12 : σ' 1 0 0 12 = σ 1 0 0 12 := h3.2 1 0 0 12 (by unfold MW9; omega)
  have e_1_1_0_10 : σ' 1 1 0 10 = σ 1 1 0 10 := h3.2 1 1 0 10 (by unfold MW9; omega)
  have e_1_1_0_11 : σ' 1 1 0 11 = σ 1 1 0 11 := h3.2 1 1 0 11 (by unfold MW9; omega)
  have e_1_1_0_12 : σ' 1 1 0 12 = σ 1 1 0 12 := h3.2 1 1 0 12 (by unfold MW9; omega)
  have e_0_0_0_3 : σ' 0 0 0 3 = σ 0 0 0 3 := h3.2 0 0 0 3 (by unfold MW9; omega)
  have e_36_0_0_637 : σ' 36 0 0 637 = σ 36 0 0 637 := h3.2 36 0 0 637 (by unfold MW9; omega)
  have e_36_0_0_638 : σ' 36 0 0 638 = σ 36 0 0 638 := h3.2 36 0 0 638 (by unfold MW9; omega)
  have e_36_0_0_639 : σ' 36 0 0 639 = σ 36 0 0 639 := h3.2 36 0 0 639 (by unfold MW9; omega)
  have e_36_0_2_637 : σ' 36 0 2 637 = σ 36 0 2 637 := h3.2 36 0 2 637 (by unfold MW9; omega)
  have e_36_0_2_638 : σ' 36 0 2 638 = σ 36 0 2 638 := h3.2 36 0 2 638 (by unfold MW9; omega)
  have e_36_0_2_639 : σ' 36 0 2 639 = σ 36 0 2 639 := h3.2 36 0 2 639 (by unfold MW9; omega)
  have e_35_0_0_3 : σ' 35 0 0 3 = σ 35 0 0 3 := h3.2 35 0 0 3 (by unfold MW9; omega)
  have p_641 : 0 ≤ σ' 36 0 0 641 ∧ σ' 36 0 0 641 ≤ 12 := (fun h => h.2.2.2.2.2.2.2.2.2.2.2.2.1 (by omega) (by omega)) (hI 36 0 0 641 (vd_36 (by omega)))
  have p_642 : 0 ≤ σ' 36 0 0 642 ∧ σ' 36 0 0 642 ≤ 6 := (fun h => h.2.2.2.2.2.2.2.2.2.2.2.2.2 (by omega) (by omega)) (hI 36 0 0 642 (vd_36 (by omega)))
  have p_637 : 0 ≤ σ' 36 0 0 637 ∧ σ' 36 0 0 637 ≤ 99 := (fun h => h.2.2.2.2.2.2.2.2.1 (by omega) (by omega)) (hI 36 0 0 637 (vd_36 (by omega)))
  have p_638 : 0 ≤ σ' 36 0 0 638 ∧ σ' 36 0 0 638 ≤ 9 := (fun h => h.2.2.2.2.2.2.2.2.2.1 (by omega) (by omega)) (hI 36 0 0 638 (vd_36 (by omega)))
  have p_639 : 0 ≤ σ' 36 0 0 639 ∧ σ' 36 0 0 639 ≤ 9999 := (fun h => h.2.2.2.2.2.2.2.2.2.2.1 (by omega) (by omega)) (hI 36 0 0 639 (vd_36 (by omega)))
  have hw := wC_ix p0 p1
  have mw_9 := (hI 36 0 0 (Int.toNat (150 + wM p0 p1)) (vd_36 (by omega))).1
  refine (r_131 p0 p1 p2 ((σ' 36 0 0 (Int.toNat (150 + wM p0 p1)))) (by omega) (by omega) (by omega) (by omega) σ' hI  rfl).le (Nat.le_of_ble_eq_true rfl) (fun v σ2 hq => ?_)
  obtain ⟨y, g1, g2, g3, g4⟩ := hq
  have f_1_0_0_10 : σ2 1 0 0 10 = σ' 1 0 0 10 := g3.2 1 0 0 10 (by unfold MW36; omega)
  have f_1_0_0_11 : σ2 1 0 0 11 = σ' 1 0 0 11 := g3.2 1 0 0 11 (by unfold MW36; omega)
  have f_1_0_0_12 : σ2 1 0 0 12 = σ' 1 0 0 12 := g3.2 1 0 0 12 (by unfold MW36; omega)
  have f_1_1_0_10 : σ2 1 1 0 10 = σ' 1 1 0 10 := g3.2 1 1 0 10 (by unfold MW36; omega)
  have f_1_1_0_11 : σ2 1 1 0 11 = σ' 1 1 0 11 := g3.2 1 1 0 11 (by unfold MW36; omega)
  have f_1_1_0_12 : σ2 1 1 0 12 = σ' 1 1 0 12 := g3.2 1 1 0 12 (by unfold MW36; omega)
  have f_0_0_0_3 : σ2 0 0 0 3 = σ' 0 0 0 3 := g3.2 0 0 0 3 (by unfold MW36; omega)
  have f_36_0_0_637 : σ2 36 0 0 637 = σ' 36 0 0 637 := g3.2 36 0 0 637 (by unfold MW36; omega)
  have f_36_0_0_638 : σ2 36 0 0 638 = σ' 36 0 0 638 := g3.2 36 0 0 638 (by unfold MW36; omega)
  have f_36_0_0_639 : σ2 36 0 0 639 = σ' 36 0 0 639 := g3.2 36 0 0 639 (by unfold MW36; omega)
  have f_36_0_2_637 : σ2 36 0 2 637 = σ' 36 0 2 637 := g3.2 36 0 2 637 (by unfold MW36; omega)
  have f_36_0_2_638 : σ2 36 0 2 638 = σ' 36 0 2 638 := g3.2 36 0 2 638 (by unfold MW36; omega)
  have f_36_0_2_639 : σ2 36 0 2 639 = σ' 36 0 2 639 := g3.2 36 0 2 639 (by unfold MW36; omega)
  have f_35_0_0_3 : σ2 35 0 0 3 = σ' 35 0 0 3 := g3.2 35 0 0 3 (by unfold MW36; omega)
  have hz : z = y := by
    clear h4 g4
    rcases hw with ⟨w1, w2⟩ | ⟨w1, w2, w3, w4, w5⟩
    · omega
    · have r := hJ.2.2.1 (Int.toNat (wC p0 p1)) (by omega)
      have ea9 : σ' 36 0 0 (Int.toNat (150 + wM p0 p1)) = σ 9 0 0 (Int.toNat (wC p0 p1)) := by
        rw [show Int.toNat (150 + wM p0 p1) = 150 + ixn (Int.toNat (wC p0 p1)) from by omega, r.2.1]
        exact h3.2 36 0 0 _ (by unfold MW9; omega)
      omega
  have k0 := h4.1
  have l0 := g4.1
  refine ⟨y, g1, hz, ?_, ?_, ?_⟩
  · exact hJ'.fr g3 (fun t i k j q => by unfold MW36 at q; unfold wj; omega)
  · unfold R1 RC1
    clear h2 g2
    refine ⟨⟨(by rw [f_1_0_0_10, f_36_0_0_637, e_1_0_0_10, e_36_0_0_637]; exact hR.1.1), (by rw [f_1_0_0_11, f_36_0_0_638, e_1_0_0_11, e_36_0_0_638]; exact hR.1.2.1), (by rw [f_1_0_0_12, f_36_0_0_639, e_1_0_0_12, e_36_0_0_639]; exact hR.1.2.2)⟩, (by rw [f_0_0_0_3, f_35_0_0_3, e_0_0_0_3, e_35_0_0_3]; exact hR.2.1), fun q => ?_⟩
    have q' := hR.2.2 (by rw [← e_35_0_0_3, ← f_35_0_0_3]; exact q)
    exact ⟨(by rw [f_1_1_0_10, f_36_0_2_637, e_1_1_0_10, e_36_0_2_637]; exact q'.1), (by rw [f_1_1_0_11, f_36_0_2_638, e_1_1_0_11, e_36_0_2_638]; exact q'.2.1), (by rw [f_1_1_0_12, f_36_0_2_639, e_1_1_0_12, e_36_0_2_639]; exact q'.2.2)⟩
  · skip
    clear h2 g2 h4 g4
    refine ⟨fun n hn => ?_, fun q => ?_⟩
    · have r := hJ.2.2.1 n hn
      have hx := ixn_lt hn
      have a8 : σ2 8 0 0 n = σ' 8 0 0 n := g3.2 8 0 0 n (by unfold MW36; omega)
      have b8 : σ' 8 0 0 n = σ 8 0 0 n := h3.2 8 0 0 n (by unfold MW9; omega)
      have f8 : σ2 36 0 0 (100 + ixn n) = σ' 36 0 0 (100 + ixn n) := g3.2 36 0 0 _ (by unfold MW36; omega)
      have e8 : σ' 36 0 0 (100 + ixn n) = σ 36 0 0 (100 + ixn n) := h3.2 36 0 0 _ (by unfold MW9; omega)
      have a9 : σ2 9 0 0 n = σ' 9 0 0 n := g3.2 9 0 0 n (by unfold MW36; omega)
      have e9 : σ' 36 0 0 (150 + ixn n) = σ 36 0 0 (150 + ixn n) := h3.2 36 0 0 _ (by unfold MW9; omega)
      have a7 : σ2 7 0 0 n = σ' 7 0 0 n := g3.2 7 0 0 n (by unfold MW36; omega)
      have b7 : σ' 7 0 0 n = σ 7 0 0 n := h3.2 7 0 0 n (by unfold MW9; omega)
      have f7 : σ2 36 0 0 (200 + ixn n) = σ' 36 0 0 (200 + ixn n) := g3.2 36 0 0 _ (by unfold MW36; omega)
      have e7 : σ' 36 0 0 (200 + ixn n) = σ 36 0 0 (200 + ixn n) := h3.2 36 0 0 _ (by unfold MW9; omega)
      by_cases hq : 0 ≤ wC p0 p1 ∧ n = Int.toNat (wC p0 p1)
      · obtain ⟨q1, rfl⟩ := hq
        have hi : Int.toNat (150 + wM p0 p1) = 150 + ixn (Int.toNat (wC p0 p1)) := by omega
        rw [hi] at l0
        exact ⟨by rw [a8, b8, f8, e8]; exact r.1, by rw [a9, k0.1 q1, l0.1 (by omega)], by rw [a7, b7, f7, e7]; exact r.2.2⟩
      · have b9 : σ' 9 0 0 n = σ 9 0 0 n := by
          by_cases h1 : n = Int.toNat (wC p0 p1)
          · subst h1; exact k0.2 (by omega)
          · exact h3.2 9 0 0 n (by unfold MW9; omega)
        have hne : 150 + ixn n ≠ Int.toNat (150 + wM p0 p1) := by
          rcases hw with ⟨w1, w2⟩ | ⟨w1, w2, w3, w4, w5⟩
          · omega
          · intro hh; exact hq ⟨w1, ixn_inj hn (by omega) (by omega)⟩
        have f9 : σ2 36 0 0 (150 + ixn n) = σ' 36 0 0 (150 + ixn n) := g3.2 36 0 0 _ (by unfold MW36; omega)
        exact ⟨by rw [a8, b8, f8, e8]; exact r.1, by rw [a9, b9, f9, e9]; exact r.2.1, by rw [a7, b7, f7, e7]; exact r.2.2⟩
    · exact (hJ.2.2.2 (by omega)).eq (fun t n a b q => (g3.2 t 1 0 n (by unfold MW36; omega)).trans (h3.2 t 1 0 n (by unfold MW9; omega))) (fun j a b => (g3.2 36 0 2 j (by unfold MW36; omega)).trans (h3.2 36 0 2 j (by unfold MW9; omega)))
def PX_4 (p0 : Int) (p1 : Int) (p2 : Int) (y : Int) (σ' : ZS) : Prop := ∃ σ, JR σ ∧ IF (MW7 (Int.toNat (wC p0 p1))) σ σ' ∧ ((y = -1 ∧ (¬ 0 ≤ wC p0 p1)) ∨ (y = -6 ∧ ¬ (¬ 0 ≤ wC p0 p1) ∧ (¬ (-1 ≤ p2 ∧ p2 ≤ 99))) ∨ (y = (σ 7 0 0 (Int.toNat (wC p0 p1))) ∧ ¬ (¬ 0 ≤ wC p0 p1) ∧ ¬ (¬ (-1 ≤ p2 ∧ p2 ≤ 99)))) ∧ (((0 ≤ wC p0 p1 ∧ -1 ≤ p2 ∧ p2 ≤ 99 → σ' 7 0 0 (Int.toNat (wC p0 p1)) = p2) ∧ (¬ (0 ≤ wC p0 p1 ∧ -1 ≤ p2 ∧ p2 ≤ 99) → σ' 7 0 0 (Int.toNat (wC p0 p1)) = (σ 7 0 0 (Int.toNat (wC p0 p1))))) ∧ True)
theorem ux_4 {xs : Nat × (Nat → Int32)} (p0 : Int) (p1 : Int) (p2 : Int) (hp0 : -2147483648 ≤ p0 ∧ p0 ≤ 2147483647) (hp1 : -2147483648 ≤ p1 ∧ p1 ≤ 2147483647) (hp2 : -2147483648 ≤ p2 ∧ p2 ≤ 2147483647) (σ : ZS) (hJ : JR σ) : CT xs 120 79 [av 0 0 0, iv p0, iv p1, iv p2] σ (fun v σ' => ∃ y, v = some (iv y) ∧ PX_4 p0 p1 p2 y σ') := by
  have hN := hJ.1.2.2.2
  unfold NB at hN
  have hR := hJ.2.1
  unfold R1 RC1 at hR
  have hw := wC_ix p0 p1
  have cw_7 := (hJ.1.1 7 0 0 (Int.toNat (wC p0 p1)) (vd_7 (by omega))).1
  exact (s_79 p0 p1 p2 ((σ 7 0 0 (Int.toNat (wC p0 p1)))) (by omega) (by omega) (by omega) (by omega) σ hJ.1.1 rfl).le (Nat.le_of_ble_eq_true rfl) (fun v σ' ⟨y, h1, h2, h3, h4⟩ => ⟨y, h1, σ, hJ, h3, h2, h4⟩)
theorem um_4 {xs : Nat × (Nat → Int32)} (p0 : Int) (p1 : Int) (p2 : Int) (hp0 : -2147483648 ≤ p0 ∧ p0 ≤ 2147483647) (hp1 : -2147483648 ≤ p1 ∧ p1 ≤ 2147483647) (hp2 : -2147483648 ≤ p2 ∧ p2 ≤ 2147483647) (z : Int) (σ' : ZS) (hP : PX_4 p0 p1 p2 z σ') : CT xs 120 132 [av 35 0 0, iv p0, iv p1, iv p2] σ' (fun v σ2 => ∃ y, v = some (iv y) ∧ (z = y) ∧ JR σ2) := by
  obtain ⟨σ, hJ, h3, h2, h4⟩ := hP
  have hR := hJ.2.1
  unfold R1 RC1 at hR
  have hJ' : JL σ' := hJ.1.fr h3 (fun t i k j q => by unfold MW7 at q; unfold wj; omega)
  have hN := hJ'.2.2.2
  unfold NB at hN
  have hI := hJ'.1
  have e_1_0_0_10 : σ' 1 0 0 10 = σ 1 0 0 10 := h3.2 1 0 0 10 (by unfold MW7; omega)
  have e_1_0_0_11 : σ' 1 0 0 11 = σ 1 0 0 11 := h3.2 1 0 0 11 (by unfold MW7; omega)
  have e_1_0_0_12 : σ' 1 0 0 12 = σ 1 0 0 12 := h3.2 1 0 0 12 (by unfold MW7; omega)
  have e_1_1_0_10 : σ' 1 1 0 10 = σ 1 1 0 10 := h3.2 1 1 0 10 (by unfold MW7; omega)
  have e_1_1_0_11 : σ' 1 1 0 11 = σ 1 1 0 11 := h3.2 1 1 0 11 (by unfold MW7; omega)
  have e_1_1_0_12 : σ' 1 1 0 12 = σ 1 1 0 12 := h3.2 1 1 0 12 (by unfold MW7; omega)
  have e_0_0_0_3 : σ' 0 0 0 3 = σ 0 0 0 3 := h3.2 0 0 0 3 (by unfold MW7; omega)
  have e_36_0_0_637 : σ' 36 0 0 637 = σ 36 0 0 637 := h3.2 36 0 0 637 (by unfold MW7; omega)
  have e_36_0_0_638 : σ' 36 0 0 638 = σ 36 0 0 638 := h3.2 36 0 0 638 (by unfold MW7; omega)
  have e_36_0_0_639 : σ' 36 0 0 639 = σ 36 0 0 639 := h3.2 36 0 0 639 (by unfold MW7; omega)
  have e_36_0_2_637 : σ' 36 0 2 637 = σ 36 0 2 637 := h3.2 36 0 2 637 (by unfold MW7; omega)
  have e_36_0_2_638 : σ' 36 0 2 638 = σ 36 0 2 638 := h3.2 36 0 2 638 (by unfold MW7; omega)
  have e_36_0_2_639 : σ' 36 0 2 639 = σ 36 0 2 639 := h3.2 36 0 2 639 (by unfold MW7; omega)
  have e_35_0_0_3 : σ' 35 0 0 3 = σ 35 0 0 3 := h3.2 35 0 0 3 (by unfold MW7; omega)
  have p_641 : 0 ≤ σ' 36 0 0 641 ∧ σ' 36 0 0 641 ≤ 12 := (fun h => h.2.2.2.2.2.2.2.2.2.2.2.2.1 (by omega) (by omega)) (hI 36 0 0 641 (vd_36 (by omega)))
  have p_642 : 0 ≤ σ' 36 0 0 642 ∧ σ' 36 0 0 642 ≤ 6 := (fun h => h.2.2.2.2.2.2.2.2.2.2.2.2.2 (by omega) (by omega)) (hI 36 0 0 642 (vd_36 (by omega)))
  have p_637 : 0 ≤ σ' 36 0 0 637 ∧ σ' 36 0 0 637 ≤ 99 := (fun h => h.2.2.2.2.2.2.2.2.1 (by omega) (by omega)) (hI 36 0 0 637 (vd_36 (by omega)))
  have p_638 : 0 ≤ σ' 36 0 0 638 ∧ σ' 36 0 0 638 ≤ 9 := (fun h => h.2.2.2.2.2.2.2.2.2.1 (by omega) (by omega)) (hI 36 0 0 638 (vd_36 (by omega)))
  have p_639 : 0 ≤ σ' 36 0 0 639 ∧ σ' 36 0 0 639 ≤ 9999 := (fun h => h.2.2.2.2.2.2.2.2.2.2.1 (by omega) (by omega)) (hI 36 0 0 639 (vd_36 (by omega)))
  have hw := wC_ix p0 p1
  have mw_7 := (hI 36 0 0 (Int.toNat (200 + wM p0 p1)) (vd_36 (by omega))).1
  refine (r_132 p0 p1 p2 ((σ' 36 0 0 (Int.toNat (200 + wM p0 p1)))) (by omega) (by omega) (by omega) (by omega) σ' hI  rfl).le (Nat.le_of_ble_eq_true rfl) (fun v σ2 hq => ?_)
  obtain ⟨y, g1, g2, g3, g4⟩ := hq
  have f_1_0_0_10 : σ2 1 0 0 10 = σ' 1 0 0 10 := g3.2 1 0 0 10 (by unfold MW36; omega)
  have f_1_0_0_11 : σ2 1 0 0 11 = σ' 1 0 0 11 := g3.2 1 0 0 11 (by unfold MW36; omega)
  have f_1_0_0_12 : σ2 1 0 0 12 = σ' 1 0 0 12 := g3.2 1 0 0 12 (by unfold MW36; omega)
  have f_1_1_0_10 : σ2 1 1 0 10 = σ' 1 1 0 10 := g3.2 1 1 0 10 (by unfold MW36; omega)
  have f_1_1_0_11 : σ2 1 1 0 11 = σ' 1 1 0 11 := g3.2 1 1 0 11 (by unfold MW36; omega)
  have f_1_1_0_12 : σ2 1 1 0 12 = σ' 1 1 0 12 := g3.2 1 1 0 12 (by unfold MW36; omega)
  have f_0_0_0_3 : σ2 0 0 0 3 = σ' 0 0 0 3 := g3.2 0 0 0 3 (by unfold MW36; omega)
  have f_36_0_0_637 : σ2 36 0 0 637 = σ' 36 0 0 637 := g3.2 36 0 0 637 (by unfold MW36; omega)
  have f_36_0_0_638 : σ2 36 0 0 638 = σ' 36 0 0 638 := g3.2 36 0 0 638 (by unfold MW36; omega)
  have f_36_0_0_639 : σ2 36 0 0 639 = σ' 36 0 0 639 := g3.2 36 0 0 639 (by unfold MW36; omega)
  have f_36_0_2_637 : σ2 36 0 2 637 = σ' 36 0 2 637 := g3.2 36 0 2 637 (by unfold MW36; omega)
  have f_36_0_2_638 : σ2 36 0 2 638 = σ' 36 0 2 638 := g3.2 36 0 2 638 (by unfold MW36; omega)
  have f_36_0_2_639 : σ2 36 0 2 639 = σ' 36 0 2 639 := g3.2 36 0 2 639 (by unfold MW36; omega)
  have f_35_0_0_3 : σ2 35 0 0 3 = σ' 35 0 0 3 := g3.2 35 0 0 3 (by unfold MW36; omega)
  have hz : z = y := by
    clear h4 g4
    rcases hw with ⟨w1, w2⟩ | ⟨w1, w2, w3, w4, w5⟩
    · omega
    · have r := hJ.2.2.1 (Int.toNat (wC p0 p1)) (by omega)
      have ea7 : σ' 36 0 0 (Int.toNat (200 + wM p0 p1)) = σ 7 0 0 (Int.toNat (wC p0 p1)) := by
        rw [show Int.toNat (200 + wM p0 p1) = 200 + ixn (Int.toNat (wC p0 p1)) from by omega, r.2.2]
        exact h3.2 36 0 0 _ (by unfold MW7; omega)
      omega
  have k0 := h4.1
  have l0 := g4.1
  refine ⟨y, g1, hz, ?_, ?_, ?_⟩
  · exact hJ'.fr g3 (fun t i k j q => by unfold MW36 at q; unfold wj; omega)
  · unfold R1 RC1
    clear h2 g2
    refine ⟨⟨(by rw [f_1_0_0_10, f_36_0_0_637, e_1_0_0_10, e_36_0_0_637]; exact hR.1.1), (by rw [f_1_0_0_11, f_36_0_0_638, e_1_0_0_11, e_36_0_0_638]; exact hR.1.2.1), (by rw [f_1_0_0_12, f_36_0_0_639, e_1_0_0_12, e_36_0_0_639]; exact hR.1.2.2)⟩, (by rw [f_0_0_0_3, f_35_0_0_3, e_0_0_0_3, e_35_0_0_3]; exact hR.2.1), fun q => ?_⟩
    have q' := hR.2.2 (by rw [← e_35_0_0_3, ← f_35_0_0_3]; exact q)
    exact ⟨(by rw [f_1_1_0_10, f_36_0_2_637, e_1_1_0_10, e_36_0_2_637]; exact q'.1), (by rw [f_1_1_0_11, f_36_0_2_638, e_1_1_0_11, e_36_0_2_638]; exact q'.2.1), (by rw [f_1_1_0_12, f_36_0_2_639, e_1_1_0_12, e_36_0_2_639]; exact q'.2.2)⟩
  · skip
    clear h2 g2 h4 g4
    refine ⟨fun n hn => ?_, fun q => ?_⟩
    · have r := hJ.2.2.1 n hn
      have hx := ixn_lt hn
      have a8 : σ2 8 0 0 n = σ' 8 0 0 n := g3.2 8 0 0 n (by unfold MW36; omega)
      have b8 : σ' 8 0 0 n = σ 8 0 0 n := h3.2 8 0 0 n (by unfold MW7; omega)
      have f8 : σ2 36 0 0 (100 + ixn n) = σ' 36 0 0 (100 + ixn n) := g3.2 36 0 0 _ (by unfold MW36; omega)
      have e8 : σ' 36 0 0 (100 + ixn n) = σ 36 0 0 (100 + ixn n) := h3.2 36 0 0 _ (by unfold MW7; omega)
      have a9 : σ2 9 0 0 n = σ' 9 0 0 n := g3.2 9 0 0 n (by unfold MW36; omega)
      have b9 : σ' 9 0 0 n = σ 9 0 0 n := h3.2 9 0 0 n (by unfold MW7; omega)
      have f9 : σ2 36 0 0 (150 + ixn n) = σ' 36 0 0 (150 + ixn n) := g3.2 36 0 0 _ (by unfold MW36; omega)
      have e9 : σ' 36 0 0 (150 + ixn n) = σ 36 0 0 (150 + ixn n) := h3.2 36 0 0 _ (by unfold MW7; omega)
      have a7 : σ2 7 0 0 n = σ' 7 0 0 n := g3.2 7 0 0 n (by unfold MW36; omega)
      have e7 : σ' 36 0 0 (200 + ixn n) = σ 36 0 0 (200 + ixn n) := h3.2 36 0 0 _ (by unfold MW7; omega)
      by_cases hq : 0 ≤ wC p0 p1 ∧ n = Int.toNat (wC p0 p1)
      · obtain ⟨q1, rfl⟩ := hq
        have hi : Int.toNat (200 + wM p0 p1) = 200 + ixn (Int.toNat (wC p0 p1)) := by omega
        rw [hi] at l0
        by_cases hp : -1 ≤ p2 ∧ p2 ≤ 99
        · skip
          exact ⟨by rw [a8, b8, f8, e8]; exact r.1, by rw [a9, b9, f9, e9]; exact r.2.1, by rw [a7, k0.1 ⟨q1, hp.1, hp.2⟩, l0.1 ⟨by omega, hp.1, hp.2⟩]⟩
        · skip
          exact ⟨by rw [a8, b8, f8, e8]; exact r.1, by rw [a9, b9, f9, e9]; exact r.2.1, by rw [a7, k0.2 (by omega), l0.2 (by omega), e7]; exact r.2.2⟩
      · have b7 : σ' 7 0 0 n = σ 7 0 0 n := by
          by_cases h1 : n = Int.toNat (wC p0 p1)
          · subst h1; exact k0.2 (by omega)
          · exact h3.2 7 0 0 n (by unfold MW7; omega)
        have hne : 200 + ixn n ≠ Int.toNat (200 + wM p0 p1) := by
          rcases hw with ⟨w1, w2⟩ | ⟨w1, w2, w3, w4, w5⟩
          · omega
          · intro hh; exact hq ⟨w1, ixn_inj hn (by omega) (by omega)⟩
        have f7 : σ2 36 0 0 (200 + ixn n) = σ' 36 0 0 (200 + ixn n) := g3.2 36 0 0 _ (by unfold MW36; omega)
        exact ⟨by rw [a8, b8, f8, e8]; exact r.1, by rw [a9, b9, f9, e9]; exact r.2.1, by rw [a7, b7, f7, e7]; exact r.2.2⟩
    · exact (hJ.2.2.2 (by omega)).eq (fun t n a b q => (g3.2 t 1 0 n (by unfold MW36; omega)).trans (h3.2 t 1 0 n (by unfold MW7; omega))) (fun j a b => (g3.2 36 0 2 j (by unfold MW36; omega)).trans (h3.2 36 0 2 j (by unfold MW7; omega)))
def PX_36 (p0 : Int) (p1 : Int) (p2 : Int) (y : Int) (σ' : ZS) : Prop := ∃ σ, JR σ ∧ IF MN σ σ' ∧ ((y = -1 ∧ (¬ 0 ≤ wC p0 p1)) ∨ (y = (σ 8 0 0 (Int.toNat (wC p0 p1))) ∧ ¬ (¬ 0 ≤ wC p0 p1) ∧ (p2 = 0)) ∨ (y = (σ 9 0 0 (Int.toNat (wC p0 p1))) ∧ ¬ (¬ 0 ≤ wC p0 p1) ∧ ¬ (p2 = 0) ∧ (p2 = 1)) ∨ (y = (σ 7 0 0 (Int.toNat (wC p0 p1))) ∧ ¬ (¬ 0 ≤ wC p0 p1) ∧ ¬ (p2 = 0) ∧ ¬ (p2 = 1) ∧ (p2 = 2)) ∨ (y = -1 ∧ ¬ (¬ 0 ≤ wC p0 p1) ∧ ¬ (p2 = 0) ∧ ¬ (p2 = 1) ∧ ¬ (p2 = 2))) ∧ (True)
theorem ux_36 {xs : Nat × (Nat → Int32)} (p0 : Int) (p1 : Int) (p2 : Int) (hp0 : -2147483648 ≤ p0 ∧ p0 ≤ 2147483647) (hp1 : -2147483648 ≤ p1 ∧ p1 ≤ 2147483647) (hp2 : -2147483648 ≤ p2 ∧ p2 ≤ 2147483647) (σ : ZS) (hJ : JR σ) : CT xs 120 111 [av 0 0 0, iv p0, iv p1, iv p2] σ (fun v σ' => ∃ y, v = some (iv y) ∧ PX_36 p0 p1 p2 y σ') := by
  have hN := hJ.1.2.2.2
  unfold NB at hN
  have hR := hJ.2.1
  unfold R1 RC1 at hR
  have hw := wC_ix p0 p1
  have cw_8 : 0 ≤ σ 8 0 0 (Int.toNat (wC p0 p1)) ∧ σ 8 0 0 (Int.toNat (wC p0 p1)) ≤ 1 := (fun h => h.2 (by omega) (by omega)) (hJ.1.1 8 0 0 (Int.toNat (wC p0 p1)) (vd_8 (by omega)))
  have cw_9 : 0 ≤ σ 9 0 0 (Int.toNat (wC p0 p1)) ∧ σ 9 0 0 (Int.toNat (wC p0 p1)) ≤ 1 := (fun h => h.2 (by omega) (by omega)) (hJ.1.1 9 0 0 (Int.toNat (wC p0 p1)) (vd_9 (by omega)))
  have cw_7 := (hJ.1.1 7 0 0 (Int.toNat (wC p0 p1)) (vd_7 (by omega))).1
  exact (s_111 p0 p1 p2 ((σ 8 0 0 (Int.toNat (wC p0 p1)))) ((σ 9 0 0 (Int.toNat (wC p0 p1)))) ((σ 7 0 0 (Int.toNat (wC p0 p1)))) (by omega) (by omega) (by omega) (by omega) (by omega) (by omega) σ hJ.1.1 rfl rfl rfl).le (Nat.le_of_ble_eq_true rfl) (fun v σ' ⟨y, h1, h2, h3, h4⟩ => ⟨y, h1, σ, hJ, h3, h2, h4⟩)
theorem um_36 {xs : Nat × (Nat → Int32)} (p0 : Int) (p1 : Int) (p2 : Int) (hp0 : -2147483648 ≤ p0 ∧ p0 ≤ 2147483647) (hp1 : -2147483648 ≤ p1 ∧ p1 ≤ 2147483647) (hp2 : -2147483648 ≤ p2 ∧ p2 ≤ 2147483647) (z : Int) (σ' : ZS) (hP : PX_36 p0 p1 p2 z σ') : CT xs 120 187 [av 35 0 0, iv p0, iv p1, iv p2] σ' (fun v σ2 => ∃ y, v = some (iv y) ∧ (z = y) ∧ JR σ2) := by
  obtain ⟨σ, hJ, h3, h2, h4⟩ := hP
  have hR := hJ.2.1
  unfold R1 RC1 at hR
  have hJ' : JL σ' := hJ.1.fr h3 (fun _ _ _ _ q => q.elim)
  have hN := hJ'.2.2.2
  unfold NB at hN
  have hI := hJ'.1
  have e_1_0_0_10 : σ' 1 0 0 10 = σ 1 0 0 10 := h3.2 1 0 0 10 (fun q => q)
  have e_1_0_0_11 : σ' 1 0 0 11 = σ 1 0 0 11 := h3.2 1 0 0 11 (fun q => q)
  have e_1_0_0_12 : σ' 1 0 0 12 = σ 1 0 0 12 := h3.2 1 0 0 12 (fun q => q)
  have e_1_1_0_10 : σ' 1 1 0 10 = σ 1 1 0 10 := h3.2 1 1 0 10 (fun q => q)
  have e_1_1_0_11 : σ' 1 1 0 11 = σ 1 1 0 11 := h3.2 1 1 0 11 (fun q => q)
  have e_1_1_0_12 : σ' 1 1 0 12 = σ 1 1 0 12 := h3.2 1 1 0 12 (fun q => q)
  have e_0_0_0_3 : σ' 0 0 0 3 = σ 0 0 0 3 := h3.2 0 0 0 3 (fun q => q)
  have e_36_0_0_637 : σ' 36 0 0 637 = σ 36 0 0 637 := h3.2 36 0 0 637 (fun q => q)
  have e_36_0_0_638 : σ' 36 0 0 638 = σ 36 0 0 638 := h3.2 36 0 0 638 (fun q => q)
  have e_36_0_0_639 : σ' 36 0 0 639 = σ 36 0 0 639 := h3.2 36 0 0 639 (fun q => q)
  have e_36_0_2_637 : σ' 36 0 2 637 = σ 36 0 2 637 := h3.2 36 0 2 637 (fun q => q)
  have e_36_0_2_638 : σ' 36 0 2 638 = σ 36 0 2 638 := h3.2 36 0 2 638 (fun q => q)
  have e_36_0_2_639 : σ' 36 0 2 639 = σ 36 0 2 639 := h3.2 36 0 2 639 (fun q => q)
  have e_35_0_0_3 : σ' 35 0 0 3 = σ 35 0 0 3 := h3.2 35 0 0 3 (fun q => q)
  have p_641 : 0 ≤ σ' 36 0 0 641 ∧ σ' 36 0 0 641 ≤ 12 := (fun h => h.2.2.2.2.2.2.2.2.2.2.2.2.1 (by omega) (by omega)) (hI 36 0 0 641 (vd_36 (by omega)))
  have p_642 : 0 ≤ σ' 36 0 0 642 ∧ σ' 36 0 0 642 ≤ 6 := (fun h => h.2.2.2.2.2.2.2.2.2.2.2.2.2 (by omega) (by omega)) (hI 36 0 0 642 (vd_36 (by omega)))
  have p_637 : 0 ≤ σ' 36 0 0 637 ∧ σ' 36 0 0 637 ≤ 99 := (fun h => h.2.2.2.2.2.2.2.2.1 (by omega) (by omega)) (hI 36 0 0 637 (vd_36 (by omega)))
  have p_638 : 0 ≤ σ' 36 0 0 638 ∧ σ' 36 0 0 638 ≤ 9 := (fun h => h.2.2.2.2.2.2.2.2.2.1 (by omega) (by omega)) (hI 36 0 0 638 (vd_36 (by omega)))
  have p_639 : 0 ≤ σ' 36 0 0 639 ∧ σ' 36 0 0 639 ≤ 9999 := (fun h => h.2.2.2.2.2.2.2.2.2.2.1 (by omega) (by omega)) (hI 36 0 0 639 (vd_36 (by omega)))
  have hw := wC_ix p0 p1
  have mw_8 := (hI 36 0 0 (Int.toNat (100 + wM p0 p1)) (vd_36 (by omega))).1
  have mw_9 := (hI 36 0 0 (Int.toNat (150 + wM p0 p1)) (vd_36 (by omega))).1
  have mw_7 := (hI 36 0 0 (Int.toNat (200 + wM p0 p1)) (vd_36 (by omega))).1
  refine (r_187 p0 p1 p2 ((σ' 36 0 0 (Int.toNat (100 + wM p0 p1)))) ((σ' 36 0 0 (Int.toNat (150 + wM p0 p1)))) ((σ' 36 0 0 (Int.toNat (200 + wM p0 p1)))) (by omega) (by omega) (by omega) (by omega) (by omega) (by omega) σ' hI  rfl rfl rfl).le (Nat.le_of_ble_eq_true rfl) (fun v σ2 hq => ?_)
  obtain ⟨y, g1, g2, g3, g4⟩ := hq
  have f_1_0_0_10 : σ2 1 0 0 10 = σ' 1 0 0 10 := g3.2 1 0 0 10 (fun q => q)
  have f_1_0_0_11 : σ2 1 0 0 11 = σ' 1 0 0 11 := g3.2 1 0 0 11 (fun q => q)
  have f_1_0_0_12 : σ2 1 0 0 12 = σ' 1 0 0 12 := g3.2 1 0 0 12 (fun q => q)
  have f_1_1_0_10 : σ2 1 1 0 10 = σ' 1 1 0 10 := g3.2 1 1 0 10 (fun q => q)
  have f_1_1_0_11 : σ2 1 1 0 11 = σ' 1 1 0 11 := g3.2 1 1 0 11 (fun q => q)
  have f_1_1_0_12 : σ2 1 1 0 12 = σ' 1 1 0 12 := g3.2 1 1 0 12 (fun q => q)
  have f_0_0_0_3 : σ2 0 0 0 3 = σ' 0 0 0 3 := g3.2 0 0 0 3 (fun q => q)
  have f_36_0_0_637 : σ2 36 0 0 637 = σ' 36 0 0 637 := g3.2 36 0 0 637 (fun q => q)
  have f_36_0_0_638 : σ2 36 0 0 638 = σ' 36 0 0 638 := g3.2 36 0 0 638 (fun q => q)
  have f_36_0_0_639 : σ2 36 0 0 639 = σ' 36 0 0 639 := g3.2 36 0 0 639 (fun q => q)
  have f_36_0_2_637 : σ2 36 0 2 637 = σ' 36 0 2 637 := g3.2 36 0 2 637 (fun q => q)
  have f_36_0_2_638 : σ2 36 0 2 638 = σ' 36 0 2 638 := g3.2 36 0 2 638 (fun q => q)
  have f_36_0_2_639 : σ2 36 0 2 639 = σ' 36 0 2 639 := g3.2 36 0 2 639 (fun q => q)
  have f_35_0_0_3 : σ2 35 0 0 3 = σ' 35 0 0 3 := g3.2 35 0 0 3 (fun q => q)
  have hz : z = y := by
    clear h4 g4
    rcases hw with ⟨w1, w2⟩ | ⟨w1, w2, w3, w4, w5⟩
    · omega
    · have r := hJ.2.2.1 (Int.toNat (wC p0 p1)) (by omega)
      have ea8 : σ' 36 0 0 (Int.toNat (100 + wM p0 p1)) = σ 8 0 0 (Int.toNat (wC p0 p1)) := by
        rw [show Int.toNat (100 + wM p0 p1) = 100 + ixn (Int.toNat (wC p0 p1)) from by omega, r.1]
        exact h3.2 36 0 0 _ (fun q => q)
      have ea9 : σ' 36 0 0 (Int.toNat (150 + wM p0 p1)) = σ 9 0 0 (Int.toNat (wC p0 p1)) := by
        rw [show Int.toNat (150 + wM p0 p1) = 150 + ixn (Int.toNat (wC p0 p1)) from by omega, r.2.1]
        exact h3.2 36 0 0 _ (fun q => q)
      have ea7 : σ' 36 0 0 (Int.toNat (200 + wM p0 p1)) = σ 7 0 0 (Int.toNat (wC p0 p1)) := by
        rw [show Int.toNat (200 + wM p0 p1) = 200 + ixn (Int.toNat (wC p0 p1)) from by omega, r.2.2]
        exact h3.2 36 0 0 _ (fun q => q)
      omega
  refine ⟨y, g1, hz, ?_, ?_, ?_⟩
  · exact hJ'.fr g3 (fun _ _ _ _ q => q.elim)
  · unfold R1 RC1
    clear h2 g2
    refine ⟨⟨(by rw [f_1_0_0_10, f_36_0_0_637, e_1_0_0_10, e_36_0_0_637]; exact hR.1.1), (by rw [f_1_0_0_11, f_36_0_0_638, e_1_0_0_11, e_36_0_0_638]; exact hR.1.2.1), (by rw [f_1_0_0_12, f_36_0_0_639, e_1_0_0_12, e_36_0_0_639]; exact hR.1.2.2)⟩, (by rw [f_0_0_0_3, f_35_0_0_3, e_0_0_0_3, e_35_0_0_3]; exact hR.2.1), fun q => ?_⟩
    have q' := hR.2.2 (by rw [← e_35_0_0_3, ← f_35_0_0_3]; exact q)
    exact ⟨(by rw [f_1_1_0_10, f_36_0_2_637, e_1_1_0_10, e_36_0_2_637]; exact q'.1), (by rw [f_1_1_0_11, f_36_0_2_638, e_1_1_0_11, e_36_0_2_638]; exact q'.2.1), (by rw [f_1_1_0_12, f_36_0_2_639, e_1_1_0_12, e_36_0_2_639]; exact q'.2.2)⟩
  · exact (hJ.2.2.fr h3 (fun _ _ _ _ q => q.elim)).fr g3 (fun _ _ _ _ q => q.elim)
