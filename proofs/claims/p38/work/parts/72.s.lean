theorem sb72_644d648 : ∀ t i k j, MYl 1 t i k j → MY 1 t i k j := by
  intro t i k j h
  unfold MYl at h
  unfold MY
  omega
theorem sb72_93ede0b : ∀ t i k j, MI 1 11 12 13 13 t i k j → MY 1 t i k j := by
  intro t i k j h
  unfold MI at h
  unfold MY
  omega
theorem sb72_5e083c8 : ∀ t i k j, MYt 1 0 t i k j → MY 1 t i k j := by
  intro t i k j h
  unfold MYt at h
  unfold MY
  omega
theorem sb72_72ea14c : ∀ t i k j, MYt 1 1 t i k j → MY 1 t i k j := by
  intro t i k j h
  unfold MYt at h
  unfold MY
  omega
theorem sb72_e13aa76 : ∀ t i k j, MI 1 26 26 26 26 t i k j → MY 1 t i k j := by
  intro t i k j h
  unfold MI at h
  unfold MY
  omega
theorem sb72_a631b4c : ∀ t i k j, MI 1 25 25 25 25 t i k j → MY 1 t i k j := by
  intro t i k j h
  unfold MI at h
  unfold MY
  omega
theorem sb72_5fad9a3 : ∀ t i k j, MI 1 23 24 24 24 t i k j → MY 1 t i k j := by
  intro t i k j h
  unfold MI at h
  unfold MY
  omega
theorem sb72_5cb13b0 : ∀ t i k j, MYl 0 t i k j → MY 0 t i k j := by
  intro t i k j h
  unfold MYl at h
  unfold MY
  omega
theorem sb72_1cca568 : ∀ t i k j, MI 0 11 12 13 13 t i k j → MY 0 t i k j := by
  intro t i k j h
  unfold MI at h
  unfold MY
  omega
theorem sb72_c835090 : ∀ t i k j, MYt 0 0 t i k j → MY 0 t i k j := by
  intro t i k j h
  unfold MYt at h
  unfold MY
  omega
theorem sb72_1529f72 : ∀ t i k j, MYt 0 1 t i k j → MY 0 t i k j := by
  intro t i k j h
  unfold MYt at h
  unfold MY
  omega
theorem sb72_1c2198f : ∀ t i k j, MI 0 26 26 26 26 t i k j → MY 0 t i k j := by
  intro t i k j h
  unfold MI at h
  unfold MY
  omega
theorem sb72_a41fece : ∀ t i k j, MI 0 25 25 25 25 t i k j → MY 0 t i k j := by
  intro t i k j h
  unfold MI at h
  unfold MY
  omega
theorem sb72_f3781e5 : ∀ t i k j, MI 0 23 24 24 24 t i k j → MY 0 t i k j := by
  intro t i k j h
  unfold MI at h
  unfold MY
  omega
/-- W.restore -/
theorem s_109n {xs : Nat × (Nat → Int32)}   (σ : ZS) (hI : Inv σ)  (s0 : σ 0 0 0 3 = 0) : CT xs 3 109 [av 0 0 0] σ (fun v σ' => ∃ y, v = some (iv y) ∧ (y = -6) ∧ IF (MI 0 28 28 28 28) σ σ' ∧ (True)) := by
  refine G_ct (J := (fun σ' => IF (MI 0 28 28 28 28) σ σ' ∧ True)) (L := [(0, av 0 0 0)]) (nL := 2) rfl rfl rfl ⟨IF.rf hI, trivial⟩ ?_
  refine T_ld zk_109_0 rfl rfl rfl (pc' := 1) rfl ?_
  refine G_getX (w := 0) zk_109_1 rfl vd_0 (fun σ' h => (h.1.2 _ _ _ _ (by first | exact nMI rfl | (unfold MI; omega))).trans s0) (pc' := 4) rfl ?_
  refine T_if_ne zk_109_4 (by omega) (pc' := 7) rfl (fun h1 => ?_) (fun h2 => ?_)
  · exfalso; omega
  ·
    refine T_ld zk_109_7 rfl rfl rfl (pc' := 8) rfl ?_
    refine T_op zk_109_8 rfl (X_bi (v := -6) (by decide)) (pc' := 10) rfl ?_
    refine T_calli (K := fun y3 σ' => (y3 = (-6)) ∧ (fun σ' => IF (MI 0 28 28 28 28) σ σ' ∧ True) σ') (r := []) zk_109_10 rfl rfl rfl rfl rfl rfl (Or.inr ⟨_, _, _, _, rfl, vd_0, rfl⟩) (fun σ' h => (w_113 ((-6)) (by omega) σ' h.1.1 ).le (Nat.le_of_ble_eq_true rfl) (fun v σ2 ⟨y, h1, h2, h3, h4⟩ => ⟨y, h1, h2, h.1.tr h3 (fun _ _ _ _ h => h), trivial⟩)) (pc' := 13) rfl (fun y3 => ?_)
    refine G_ex (fun hy3 => ?_)
    obtain rfl : y3 = (-6) := by omega
    exact T_iret zk_109_13 rfl (fun σ' h => ⟨_, rfl, (by omega), h.1, trivial⟩)
/-- W.rule -/
theorem s_92 {xs : Nat × (Nat → Int32)} (p0 : Int) (p1 : Int) (m0 : Int) (m1 : Int) (m2 : Int) (hp0 : -2147483648 ≤ p0 ∧ p0 ≤ 2147483647) (hp1 : -2147483648 ≤ p1 ∧ p1 ≤ 2147483647) (hm0 : 0 ≤ m0 ∧ m0 ≤ 99) (hm1 : 0 ≤ m1 ∧ m1 ≤ 9) (hm2 : 0 ≤ m2 ∧ m2 ≤ 9999) (σ : ZS) (hI : Inv σ)  (s0 : σ 1 0 0 10 = m0) (s1 : σ 1 0 0 11 = m1) (s2 : σ 1 0 0 12 = m2) : CT xs 3 92 [av 0 0 0, iv p0, iv p1] σ (fun v σ' => ∃ y, v = some (iv y) ∧ ((y = m0 ∧ (p0 = 0 ∧ 0 ≤ p1 ∧ p1 ≤ 99)) ∨ (y = m1 ∧ ¬ (p0 = 0 ∧ 0 ≤ p1 ∧ p1 ≤ 99) ∧ (p0 = 1 ∧ 1 ≤ p1 ∧ p1 ≤ 9)) ∨ (y = m2 ∧ ¬ (p0 = 0 ∧ 0 ≤ p1 ∧ p1 ≤ 99) ∧ ¬ (p0 = 1 ∧ 1 ≤ p1 ∧ p1 ≤ 9) ∧ (p0 = 2 ∧ 0 ≤ p1 ∧ p1 ≤ 9999)) ∨ (y = -6 ∧ ¬ (p0 = 0 ∧ 0 ≤ p1 ∧ p1 ≤ 99) ∧ ¬ (p0 = 1 ∧ 1 ≤ p1 ∧ p1 ≤ 9) ∧ ¬ (p0 = 2 ∧ 0 ≤ p1 ∧ p1 ≤ 9999))) ∧ IF (MC 10 13 28) σ σ' ∧ ((((p0 = 0 ∧ 0 ≤ p1 ∧ p1 ≤ 99) → σ' 1 0 0 10 = p1) ∧ (¬ (p0 = 0 ∧ 0 ≤ p1 ∧ p1 ≤ 99) → σ' 1 0 0 10 = m0)) ∧ (((p0 = 1 ∧ 1 ≤ p1 ∧ p1 ≤ 9) → σ' 1 0 0 11 = p1) ∧ (¬ (p0 = 1 ∧ 1 ≤ p1 ∧ p1 ≤ 9) → σ' 1 0 0 11 = m1)) ∧ (((p0 = 2 ∧ 0 ≤ p1 ∧ p1 ≤ 9999) → σ' 1 0 0 12 = p1) ∧ (¬ (p0 = 2 ∧ 0 ≤ p1 ∧ p1 ≤ 9999) → σ' 1 0 0 12 = m2)) ∧ True)) := by
  refine G_ct (J := (fun σ' => IF (MC 10 13 28) σ σ' ∧ σ' 1 0 0 10 = m0 ∧ σ' 1 0 0 11 = m1 ∧ σ' 1 0 0 12 = m2 ∧ True)) (L := [(0, av 0 0 0), (1, iv p0), (2, iv p1)]) (nL := 4) rfl rfl rfl ⟨IF.rf hI, s0, s1, s2, trivial⟩ ?_
  refine T_ld zk_92_0 rfl rfl rfl (pc' := 1) rfl ?_
  refine T_if_ne zk_92_1 (by omega) (pc' := 4) rfl (fun h1 => ?_) (fun h2 => ?_)
  ·
    refine T_ld zk_92_33 rfl rfl rfl (pc' := 34) rfl ?_
    refine T_op zk_92_34 rfl X_ic (pc' := 35) rfl ?_
    refine T_icmp_ne zk_92_35 (by omega) (by omega) (pc' := 38) rfl (fun h3 => ?_) (fun h4 => ?_)
    ·
      refine T_ld zk_92_67 rfl rfl rfl (pc' := 68) rfl ?_
      refine T_op zk_92_68 rfl X_ic (pc' := 69) rfl ?_
      refine T_icmp_ne zk_92_69 (by omega) (by omega) (pc' := 72) rfl (fun h5 => ?_) (fun h6 => ?_)
      ·
        refine T_ld zk_92_102 rfl rfl rfl (pc' := 103) rfl ?_
        refine T_op zk_92_103 rfl (X_bi (v := -6) (by decide)) (pc' := 105) rfl ?_
        refine T_calli (K := fun y7 σ' => (y7 = (-6)) ∧ (fun σ' => IF (MC 10 13 28) σ σ' ∧ σ' 1 0 0 10 = m0 ∧ σ' 1 0 0 11 = m1 ∧ σ' 1 0 0 12 = m2 ∧ True) σ') (r := []) zk_92_105 rfl rfl rfl rfl rfl rfl (Or.inr ⟨_, _, _, _, rfl, vd_0, rfl⟩) (fun σ' h => (w_113 ((-6)) (by omega) σ' h.1.1 ).le (Nat.le_of_ble_eq_true rfl) (fun v σ2 ⟨y, h1, h2, h3, h4⟩ => ⟨y, h1, h2, h.1.tr h3 sb55_3ed9bfa, (h3.2 _ _ _ _ (by first | exact nMI rfl | (unfold MI; omega))).trans (h.2.1), (h3.2 _ _ _ _ (by first | exact nMI rfl | (unfold MI; omega))).trans (h.2.2.1), (h3.2 _ _ _ _ (by first | exact nMI rfl | (unfold MI; omega))).trans (h.2.2.2.1), trivial⟩)) (pc' := 108) rfl (fun y7 => ?_)
        refine G_ex (fun hy7 => ?_)
        obtain rfl : y7 = (-6) := by omega
        exact T_iret zk_92_108 rfl (fun σ' h => ⟨_, rfl, (by omega), h.1, ⟨(by have e := h.2.1; omega), (by have e := h.2.2.1; omega), (by have e := h.2.2.2.1; omega), trivial⟩⟩)
      ·
        refine T_ld zk_92_72 rfl rfl rfl (pc' := 73) rfl ?_
        refine T_op zk_92_73 rfl X_ic (pc' := 74) rfl ?_
        refine T_op zk_92_74 rfl (X_si (v := 9999) (by decide)) (pc' := 77) rfl ?_
        refine T_calli (K := fun y8 σ' => ((y8 = 0 ∧ (p1 < 0 ∨ 9999 < p1)) ∨ (y8 = 1 ∧ 0 ≤ p1 ∧ p1 ≤ 9999)) ∧ (fun σ' => IF (MC 10 13 28) σ σ' ∧ σ' 1 0 0 10 = m0 ∧ σ' 1 0 0 11 = m1 ∧ σ' 1 0 0 12 = m2 ∧ True) σ') (r := []) zk_92_77 rfl rfl rfl rfl rfl rfl (Or.inl (Or.inl rfl)) (fun σ' h => (w_114 p1 0 9999 (by omega) (by omega) (by omega) σ' h.1.1 ).le (Nat.le_of_ble_eq_true rfl) (fun v σ2 ⟨y, h1, h2, h3, h4⟩ => ⟨y, h1, h2, h.1.tr h3 MN_sub, (h3.2 _ _ _ _ (fun q => q)).trans (h.2.1), (h3.2 _ _ _ _ (fun q => q)).trans (h.2.2.1), (h3.2 _ _ _ _ (fun q => q)).trans (h.2.2.2.1), trivial⟩)) (pc' := 80) rfl (fun y8 => ?_)
        refine G_ex (fun hy8 => ?_)
        refine T_if_eq zk_92_80 (by omega) (pc' := 83) rfl (fun h9 => ?_) (fun h10 => ?_)
        ·
          refine T_ld zk_92_102 rfl rfl rfl (pc' := 103) rfl ?_
          refine T_op zk_92_103 rfl (X_bi (v := -6) (by decide)) (pc' := 105) rfl ?_
          refine T_calli (K := fun y11 σ' => (y11 = (-6)) ∧ (fun σ' => IF (MC 10 13 28) σ σ' ∧ σ' 1 0 0 10 = m0 ∧ σ' 1 0 0 11 = m1 ∧ σ' 1 0 0 12 = m2 ∧ True) σ') (r := []) zk_92_105 rfl rfl rfl rfl rfl rfl (Or.inr ⟨_, _, _, _, rfl, vd_0, rfl⟩) (fun σ' h => (w_113 ((-6)) (by omega) σ' h.1.1 ).le (Nat.le_of_ble_eq_true rfl) (fun v σ2 ⟨y, h1, h2, h3, h4⟩ => ⟨y, h1, h2, h.1.tr h3 sb55_3ed9bfa, (h3.2 _ _ _ _ (by first | exact nMI rfl | (unfold MI; omega))).trans (h.2.1), (h3.2 _ _ _ _ (by first | exact nMI rfl | (unfold MI; omega))).trans (h.2.2.1), (h3.2 _ _ _ _ (by first | exact nMI rfl | (unfold MI; omega))).trans (h.2.2.2.1), trivial⟩)) (pc' := 108) rfl (fun y11 => ?_)
          refine G_ex (fun hy11 => ?_)
          obtain rfl : y11 = (-6) := by omega
          exact T_iret zk_92_108 rfl (fun σ' h => ⟨_, rfl, (by omega), h.1, ⟨(by have e := h.2.1; omega), (by have e := h.2.2.1; omega), (by have e := h.2.2.2.1; omega), trivial⟩⟩)
        ·
          refine T_ld zk_92_83 rfl rfl rfl (pc' := 84) rfl ?_
          refine T_getR (t' := 1) (i' := 0) (k' := 0) zk_92_84 rfl rfl rfl vd_0 (pc' := 87) rfl ?_
          refine G_getX (w := m2) zk_92_87 rfl (vd_1 (by omega)) (fun σ' h => h.2.2.2.1) (pc' := 90) rfl ?_
          refine T_st (L' := [(0, av 0 0 0), (1, iv p0), (2, iv p1), (3, iv m2)]) zk_92_90 (nL := 4) rfl rfl rfl rfl rfl (pc' := 91) rfl ?_
          refine T_ld zk_92_91 rfl rfl rfl (pc' := 92) rfl ?_
          refine T_getR (t' := 1) (i' := 0) (k' := 0) zk_92_92 rfl rfl rfl vd_0 (pc' := 95) rfl ?_
          refine T_ld zk_92_95 rfl rfl rfl (pc' := 96) rfl ?_
          refine T_putf (J' := (fun σ' => IF (MC 10 13 28) σ σ' ∧ σ' 1 0 0 10 = m0 ∧ σ' 1 0 0 11 = m1 ∧ σ' 1 0 0 12 = p1 ∧ True)) zk_92_96 rfl rfl (vd_1 (by omega)) (fun σ' h => ⟨h.1.up (by simp only [rgP] <;> omega) (by first | exact pMC rfl | (unfold MC; omega)), (up_ne (by omega)).trans (h.2.1), (up_ne (by omega)).trans (h.2.2.1), up_eq, trivial⟩) (pc' := 99) rfl ?_
          refine T_goto zk_92_99 ?_
          refine T_ld zk_92_109 rfl rfl rfl (pc' := 110) rfl ?_
          exact T_iret zk_92_110 rfl (fun σ' h => ⟨_, rfl, (by omega), h.1, ⟨(by have e := h.2.1; omega), (by have e := h.2.2.1; omega), (by have e := h.2.2.2.1; omega), trivial⟩⟩)
    ·
      refine T_ld zk_92_38 rfl rfl rfl (pc' := 39) rfl ?_
      refine T_op zk_92_39 rfl X_ic (pc' := 40) rfl ?_
      refine T_op zk_92_40 rfl (X_bi (v := 9) (by decide)) (pc' := 42) rfl ?_
      refine T_calli (K := fun y12 σ' => ((y12 = 0 ∧ (p1 < 1 ∨ 9 < p1)) ∨ (y12 = 1 ∧ 1 ≤ p1 ∧ p1 ≤ 9)) ∧ (fun σ' => IF (MC 10 13 28) σ σ' ∧ σ' 1 0 0 10 = m0 ∧ σ' 1 0 0 11 = m1 ∧ σ' 1 0 0 12 = m2 ∧ True) σ') (r := []) zk_92_42 rfl rfl rfl rfl rfl rfl (Or.inl (Or.inl rfl)) (fun σ' h => (w_114 p1 1 9 (by omega) (by omega) (by omega) σ' h.1.1 ).le (Nat.le_of_ble_eq_true rfl) (fun v σ2 ⟨y, h1, h2, h3, h4⟩ => ⟨y, h1, h2, h.1.tr h3 MN_sub, (h3.2 _ _ _ _ (fun q => q)).trans (h.2.1), (h3.2 _ _ _ _ (fun q => q)).trans (h.2.2.1), (h3.2 _ _ _ _ (fun q => q)).trans (h.2.2.2.1), trivial⟩)) (pc' := 45) rfl (fun y12 => ?_)
      refine G_ex (fun hy12 => ?_)
      refine T_if_eq zk_92_45 (by omega) (pc' := 48) rfl (fun h13 => ?_) (fun h14 => ?_)
      ·
        refine T_ld zk_92_67 rfl rfl rfl (pc' := 68) rfl ?_
        refine T_op zk_92_68 rfl X_ic (pc' := 69) rfl ?_
        refine T_icmp_ne zk_92_69 (by omega) (by omega) (pc' := 72) rfl (fun h15 => ?_) (fun h16 => ?_)
        ·
          refine T_ld zk_92_102 rfl rfl rfl (pc' := 103) rfl ?_
          refine T_op zk_92_103 rfl (X_bi (v := -6) (by decide)) (pc' := 105) rfl ?_
          refine T_calli (K := fun y17 σ' => (y17 = (-6)) ∧ (fun σ' => IF (MC 10 13 28) σ σ' ∧ σ' 1 0 0 10 = m0 ∧ σ' 1 0 0 11 = m1 ∧ σ' 1 0 0 12 = m2 ∧ True) σ') (r := []) zk_92_105 rfl rfl rfl rfl rfl rfl (Or.inr ⟨_, _, _, _, rfl, vd_0, rfl⟩) (fun σ' h => (w_113 ((-6)) (by omega) σ' h.1.1 ).le (Nat.le_of_ble_eq_true rfl) (fun v σ2 ⟨y, h1, h2, h3, h4⟩ => ⟨y, h1, h2, h.1.tr h3 sb55_3ed9bfa, (h3.2 _ _ _ _ (by first | exact nMI rfl | (unfold MI; omega))).trans (h.2.1), (h3.2 _ _ _ _ (by first | exact nMI rfl | (unfold MI; omega))).trans (h.2.2.1), (h3.2 _ _ _ _ (by first | exact nMI rfl | (unfold MI; omega))).trans (h.2.2.2.1), trivial⟩)) (pc' := 108) rfl (fun y17 => ?_)
          refine G_ex (fun hy17 => ?_)
          obtain rfl : y17 = (-6) := by omega
          exact T_iret zk_92_108 rfl (fun σ' h => ⟨_, rfl, (by omega), h.1, ⟨(by have e := h.2.1; omega), (by have e := h.2.2.1; omega), (by have e := h.2.2.2.1; omega), trivial⟩⟩)
        · exfalso; omega
      ·
        refine T_ld zk_92_48 rfl rfl rfl (pc' := 49) rfl ?_
        refine T_getR (t' := 1) (i' := 0) (k' := 0) zk_92_49 rfl rfl rfl vd_0 (pc' := 52) rfl ?_
        refine G_getX (w := m1) zk_92_52 rfl (vd_1 (by omega)) (fun σ' h => h.2.2.1) (pc' := 55) rfl ?_
        refine T_st (L' := [(0, av 0 0 0), (1, iv p0), (2, iv p1), (3, iv m1)]) zk_92_55 (nL := 4) rfl rfl rfl rfl rfl (pc' := 56) rfl ?_
        refine T_ld zk_92_56 rfl rfl rfl (pc' := 57) rfl ?_
        refine T_getR (t' := 1) (i' := 0) (k' := 0) zk_92_57 rfl rfl rfl vd_0 (pc' := 60) rfl ?_
        refine T_ld zk_92_60 rfl rfl rfl (pc' := 61) rfl ?_
        refine T_putf (J' := (fun σ' => IF (MC 10 13 28) σ σ' ∧ σ' 1 0 0 10 = m0 ∧ σ' 1 0 0 12 = m2 ∧ σ' 1 0 0 11 = p1 ∧ True)) zk_92_61 rfl rfl (vd_1 (by omega)) (fun σ' h => ⟨h.1.up (by simp only [rgP] <;> omega) (by first | exact pMC rfl | (unfold MC; omega)), (up_ne (by omega)).trans (h.2.1), (up_ne (by omega)).trans (h.2.2.2.1), up_eq, trivial⟩) (pc' := 64) rfl ?_
        refine T_goto zk_92_64 ?_
        refine T_ld zk_92_109 rfl rfl rfl (pc' := 110) rfl ?_
        exact T_iret zk_92_110 rfl (fun σ' h => ⟨_, rfl, (by omega), h.1, ⟨(by have e := h.2.1; omega), (by have e := h.2.2.2.1; omega), (by have e := h.2.2.1; omega), trivial⟩⟩)
  ·
    refine T_ld zk_92_4 rfl rfl rfl (pc' := 5) rfl ?_
    refine T_op zk_92_5 rfl X_ic (pc' := 6) rfl ?_
    refine T_op zk_92_6 rfl (X_bi (v := 99) (by decide)) (pc' := 8) rfl ?_
    refine T_calli (K := fun y18 σ' => ((y18 = 0 ∧ (p1 < 0 ∨ 99 < p1)) ∨ (y18 = 1 ∧ 0 ≤ p1 ∧ p1 ≤ 99)) ∧ (fun σ' => IF (MC 10 13 28) σ σ' ∧ σ' 1 0 0 10 = m0 ∧ σ' 1 0 0 11 = m1 ∧ σ' 1 0 0 12 = m2 ∧ True) σ') (r := []) zk_92_8 rfl rfl rfl rfl rfl rfl (Or.inl (Or.inl rfl)) (fun σ' h => (w_114 p1 0 99 (by omega) (by omega) (by omega) σ' h.1.1 ).le (Nat.le_of_ble_eq_true rfl) (fun v σ2 ⟨y, h1, h2, h3, h4⟩ => ⟨y, h1, h2, h.1.tr h3 MN_sub, (h3.2 _ _ _ _ (fun q => q)).trans (h.2.1), (h3.2 _ _ _ _ (fun q => q)).trans (h.2.2.1), (h3.2 _ _ _ _ (fun q => q)).trans (h.2.2.2.1), trivial⟩)) (pc' := 11) rfl (fun y18 => ?_)
    refine G_ex (fun hy18 => ?_)
    refine T_if_eq zk_92_11 (by omega) (pc' := 14) rfl (fun h19 => ?_) (fun h20 => ?_)
    ·
      refine T_ld zk_92_33 rfl rfl rfl (pc' := 34) rfl ?_
      refine T_op zk_92_34 rfl X_ic (pc' := 35) rfl ?_
      refine T_icmp_ne zk_92_35 (by omega) (by omega) (pc' := 38) rfl (fun h21 => ?_) (fun h22 => ?_)
      ·
        refine T_ld zk_92_67 rfl rfl rfl (pc' := 68) rfl ?_
        refine T_op zk_92_68 rfl X_ic (pc' := 69) rfl ?_
        refine T_icmp_ne zk_92_69 (by omega) (by omega) (pc' := 72) rfl (fun h23 => ?_) (fun h24 => ?_)
        ·
          refine T_ld zk_92_102 rfl rfl rfl (pc' := 103) rfl ?_
          refine T_op zk_92_103 rfl (X_bi (v := -6) (by decide)) (pc' := 105) rfl ?_
          refine T_calli (K := fun y25 σ' => (y25 = (-6)) ∧ (fun σ' => IF (MC 10 13 28) σ σ' ∧ σ' 1 0 0 10 = m0 ∧ σ' 1 0 0 11 = m1 ∧ σ' 1 0 0 12 = m2 ∧ True) σ') (r := []) zk_92_105 rfl rfl rfl rfl rfl rfl (Or.inr ⟨_, _, _, _, rfl, vd_0, rfl⟩) (fun σ' h => (w_113 ((-6)) (by omega) σ' h.1.1 ).le (Nat.le_of_ble_eq_true rfl) (fun v σ2 ⟨y, h1, h2, h3, h4⟩ => ⟨y, h1, h2, h.1.tr h3 sb55_3ed9bfa, (h3.2 _ _ _ _ (by first | exact nMI rfl | (unfold MI; omega))).trans (h.2.1), (h3.2 _ _ _ _ (by first | exact nMI rfl | (unfold MI; omega))).trans (h.2.2.1), (h3.2 _ _ _ _ (by first | exact nMI rfl | (unfold MI; omega))).trans (h.2.2.2.1), trivial⟩)) (pc' := 108) rfl (fun y25 => ?_)
          refine G_ex (fun hy25 => ?_)
          obtain rfl : y25 = (-6) := by omega
          exact T_iret zk_92_108 rfl (fun σ' h => ⟨_, rfl, (by omega), h.1, ⟨(by have e := h.2.1; omega), (by have e := h.2.2.1; omega), (by have e := h.2.2.2.1; omega), trivial⟩⟩)
        · exfalso; omega
      · exfalso; omega
    ·
      refine T_ld zk_92_14 rfl rfl rfl (pc' := 15) rfl ?_
      refine T_getR (t' := 1) (i' := 0) (k' := 0) zk_92_15 rfl rfl rfl vd_0 (pc' := 18) rfl ?_
      refine G_getX (w := m0) zk_92_18 rfl (vd_1 (by omega)) (fun σ' h => h.2.1) (pc' := 21) rfl ?_
      refine T_st (L' := [(0, av 0 0 0), (1, iv p0), (2, iv p1), (3, iv m0)]) zk_92_21 (nL := 4) rfl rfl rfl rfl rfl (pc' := 22) rfl ?_
      refine T_ld zk_92_22 rfl rfl rfl (pc' := 23) rfl ?_
      refine T_getR (t' := 1) (i' := 0) (k' := 0) zk_92_23 rfl rfl rfl vd_0 (pc' := 26) rfl ?_
      refine T_ld zk_92_26 rfl rfl rfl (pc' := 27) rfl ?_
      refine T_putf (J' := (fun σ' => IF (MC 10 13 28) σ σ' ∧ σ' 1 0 0 11 = m1 ∧ σ' 1 0 0 12 = m2 ∧ σ' 1 0 0 10 = p1 ∧ True)) zk_92_27 rfl rfl (vd_1 (by omega)) (fun σ' h => ⟨h.1.up (by simp only [rgP] <;> omega) (by first | exact pMC rfl | (unfold MC; omega)), (up_ne (by omega)).trans (h.2.2.1), (up_ne (by omega)).trans (h.2.2.2.1), up_eq, trivial⟩) (pc' := 30) rfl ?_
      refine T_goto zk_92_30 ?_
      refine T_ld zk_92_109 rfl rfl rfl (pc' := 110) rfl ?_
      exact T_iret zk_92_110 rfl (fun σ' h => ⟨_, rfl, (by omega), h.1, ⟨(by have e := h.2.2.2.1; omega), (by have e := h.2.1; omega), (by have e := h.2.2.1; omega), trivial⟩⟩)
