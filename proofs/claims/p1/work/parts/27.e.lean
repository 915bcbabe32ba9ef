/-- W.cell -/
theorem x_cell {xs : Nat × (Nat → Int32)} (p0 : Int) (p1 : Int) (h0 : -2147483648 ≤ p0 ∧ p0 ≤ 2147483647) (h1 : -2147483648 ≤ p1 ∧ p1 ≤ 2147483647) (σ : ZS) (hI : Inv σ) (hf : ∀ t i k j, t < 35 → σ t i k j = σ0 t i k j)  : CT xs 2 110 [av 0 0 0, iv p0, iv p1] σ (fun v σ' => ∃ y, v = some (iv y) ∧ ((y = 1000000 ∧ (¬ (0 ≤ p0 ∧ p0 ≤ 24) ∨ ¬ (0 ≤ p1 ∧ p1 ≤ 4))) ∨ (y = 20 ∧ ¬ (¬ (0 ≤ p0 ∧ p0 ≤ 24) ∨ ¬ (0 ≤ p1 ∧ p1 ≤ 4)) ∧ (p1 = 0)) ∨ (y = 1000 ∧ ¬ (¬ (0 ≤ p0 ∧ p0 ≤ 24) ∨ ¬ (0 ≤ p1 ∧ p1 ≤ 4)) ∧ ¬ (p1 = 0) ∧ (p1 = 2)) ∨ (y = -1 ∧ ¬ (¬ (0 ≤ p0 ∧ p0 ≤ 24) ∨ ¬ (0 ≤ p1 ∧ p1 ≤ 4)) ∧ ¬ (p1 = 0) ∧ ¬ (p1 = 2) ∧ (p1 = 4)) ∨ (y = 0 ∧ ¬ (¬ (0 ≤ p0 ∧ p0 ≤ 24) ∨ ¬ (0 ≤ p1 ∧ p1 ≤ 4)) ∧ ¬ (p1 = 0) ∧ ¬ (p1 = 2) ∧ ¬ (p1 = 4))) ∧ IF MN σ σ' ∧ (True)) := by
  refine G_ct (J := (fun σ' => IF MN σ σ' ∧ True)) (L := [(0, av 0 0 0), (1, iv p0), (2, iv p1)]) (nL := 3) rfl rfl rfl ⟨IF.rf hI, trivial⟩ ?_
  refine T_ld zk_110_0 rfl rfl rfl (pc' := 1) rfl ?_
  refine T_calli (K := fun y1 σ' => ((y1 = 0 ∧ (p0 < 0 ∨ 24 < p0)) ∨ (y1 = 1 ∧ 0 ≤ p0 ∧ p0 ≤ 24)) ∧ (fun σ' => IF MN σ σ' ∧ True) σ') (r := []) zk_110_1 rfl rfl rfl rfl rfl rfl (Or.inl (Or.inl rfl)) (fun σ' h => (c_115 p0 (by omega) σ' h.1.1 ).le (Nat.le_of_ble_eq_true rfl) (fun v σ2 ⟨y, h1, h2, h3, h4⟩ => ⟨y, h1, h2, h.1.tr h3 MN_sub, trivial⟩)) (pc' := 4) rfl (fun y1 => ?_)
  refine G_ex (fun hy1 => ?_)
  refine T_if_ne zk_110_4 (by omega) (pc' := 7) rfl (fun h2 => ?_) (fun h3 => ?_)
  ·
    refine T_ld zk_110_11 rfl rfl rfl (pc' := 12) rfl ?_
    by_cases h4 : p1 = 0
    · subst h4
      refine T_br (t := 48) zk_110_12 rfl rfl rfl (fun _ => rfl) rfl ?_
      refine T_ld zk_110_48 rfl rfl rfl (pc' := 49) rfl ?_
      refine T_getR (t' := 1) (i' := 0) (k' := 0) zk_110_49 rfl rfl rfl vd_0 (pc' := 52) rfl ?_
      refine T_getR (t' := 2) (i' := 0) (k' := 0) zk_110_52 rfl rfl rfl (vd_1 (by omega)) (pc' := 55) rfl ?_
      refine T_getR (t' := 3) (i' := 0) (k' := 0) zk_110_55 rfl rfl rfl (vd_2 (by omega)) (pc' := 58) rfl ?_
      refine T_ld zk_110_58 rfl rfl rfl (pc' := 59) rfl ?_
      refine G_ialdX (w := 20) (ln := 25) zk_110_59 rfl rfl (vd_3 (by omega)) (by omega) (by omega) (by omega) (fun σ' h => (h.1.2 _ _ _ _ (fun q => q)).trans (hf _ _ _ _ (by decide))) (pc' := 60) rfl ?_
      exact T_iret zk_110_60 rfl (fun σ' h => ⟨_, rfl, (by omega), h.1, trivial⟩)
    by_cases h5 : p1 = 1
    · subst h5
      refine T_br (t := 61) zk_110_12 rfl rfl rfl (fun _ => rfl) rfl ?_
      refine T_ld zk_110_61 rfl rfl rfl (pc' := 62) rfl ?_
      refine T_getR (t' := 1) (i' := 0) (k' := 0) zk_110_62 rfl rfl rfl vd_0 (pc' := 65) rfl ?_
      refine T_getR (t' := 2) (i' := 0) (k' := 0) zk_110_65 rfl rfl rfl (vd_1 (by omega)) (pc' := 68) rfl ?_
      refine T_getR (t' := 4) (i' := 0) (k' := 0) zk_110_68 rfl rfl rfl (vd_2 (by omega)) (pc' := 71) rfl ?_
      refine T_ld zk_110_71 rfl rfl rfl (pc' := 72) rfl ?_
      refine G_ialdX (w := 0) (ln := 25) zk_110_72 rfl rfl (vd_4 (by omega)) (by omega) (by omega) (by omega) (fun σ' h => (h.1.2 _ _ _ _ (fun q => q)).trans (hf _ _ _ _ (by decide))) (pc' := 73) rfl ?_
      exact T_iret zk_110_73 rfl (fun σ' h => ⟨_, rfl, (by omega), h.1, trivial⟩)
    by_cases h6 : p1 = 2
    · subst h6
      refine T_br (t := 74) zk_110_12 rfl rfl rfl (fun _ => rfl) rfl ?_
      refine T_ld zk_110_74 rfl rfl rfl (pc' := 75) rfl ?_
      refine T_getR (t' := 1) (i' := 0) (k' := 0) zk_110_75 rfl rfl rfl vd_0 (pc' := 78) rfl ?_
      refine T_getR (t' := 2) (i' := 0) (k' := 0) zk_110_78 rfl rfl rfl (vd_1 (by omega)) (pc' := 81) rfl ?_
      refine T_getR (t' := 5) (i' := 0) (k' := 0) zk_110_81 rfl rfl rfl (vd_2 (by omega)) (pc' := 84) rfl ?_
      refine T_ld zk_110_84 rfl rfl rfl (pc' := 85) rfl ?_
      refine G_ialdX (w := 1000) (ln := 25) zk_110_85 rfl rfl (vd_5 (by omega)) (by omega) (by omega) (by omega) (fun σ' h => (h.1.2 _ _ _ _ (fun q => q)).trans (hf _ _ _ _ (by decide))) (pc' := 86) rfl ?_
      exact T_iret zk_110_86 rfl (fun σ' h => ⟨_, rfl, (by omega), h.1, trivial⟩)
    by_cases h7 : p1 = 3
    · subst h7
      refine T_br (t := 87) zk_110_12 rfl rfl rfl (fun _ => rfl) rfl ?_
      refine T_ld zk_110_87 rfl rfl rfl (pc' := 88) rfl ?_
      refine T_getR (t' := 1) (i' := 0) (k' := 0) zk_110_88 rfl rfl rfl vd_0 (pc' := 91) rfl ?_
      refine T_getR (t' := 2) (i' := 0) (k' := 0) zk_110_91 rfl rfl rfl (vd_1 (by omega)) (pc' := 94) rfl ?_
      refine T_getR (t' := 6) (i' := 0) (k' := 0) zk_110_94 rfl rfl rfl (vd_2 (by omega)) (pc' := 97) rfl ?_
      refine T_ld zk_110_97 rfl rfl rfl (pc' := 98) rfl ?_
      refine G_ialdX (w := 0) (ln := 25) zk_110_98 rfl rfl (vd_6 (by omega)) (by omega) (by omega) (by omega) (fun σ' h => (h.1.2 _ _ _ _ (fun q => q)).trans (hf _ _ _ _ (by decide))) (pc' := 99) rfl ?_
      exact T_iret zk_110_99 rfl (fun σ' h => ⟨_, rfl, (by omega), h.1, trivial⟩)
    by_cases h8 : p1 = 4
    · subst h8
      refine T_br (t := 100) zk_110_12 rfl rfl rfl (fun _ => rfl) rfl ?_
      refine T_ld zk_110_100 rfl rfl rfl (pc' := 101) rfl ?_
      refine T_getR (t' := 1) (i' := 0) (k' := 0) zk_110_101 rfl rfl rfl vd_0 (pc' := 104) rfl ?_
      refine T_getR (t' := 11) (i' := 0) (k' := 0) zk_110_104 rfl rfl rfl (vd_1 (by omega)) (pc' := 107) rfl ?_
      refine T_ld zk_110_107 rfl rfl rfl (pc' := 108) rfl ?_
      refine T_calli (K := fun y9 σ' => (y9 = -1) ∧ (fun σ' => IF MN σ σ' ∧ True) σ') (r := []) zk_110_108 rfl rfl rfl rfl rfl rfl (Or.inr ⟨_, _, _, _, rfl, (vd_11 (by omega)), rfl⟩) (fun σ' h => (c_62e 0 p0 (by omega) (by omega) σ' h.1.1 ((h.1.2 _ _ _ _ (fun q => q)).trans (hf _ _ _ _ (by decide)))).le (Nat.le_of_ble_eq_true rfl) (fun v σ2 ⟨y, h1, h2, h3, h4⟩ => ⟨y, h1, h2, h.1.tr h3 MN_sub, trivial⟩)) (pc' := 111) rfl (fun y9 => ?_)
      refine G_ex (fun hy9 => ?_)
      obtain rfl : y9 = (-1) := by omega
      exact T_iret zk_110_111 rfl (fun σ' h => ⟨_, rfl, (by omega), h.1, trivial⟩)
    refine T_tso (t := 112) zk_110_12 (by omega) (by omega) (by omega) ?_
    refine T_ldcw zk_110_112 (pc' := 115) rfl ?_
    exact T_iret zk_110_115 rfl (fun σ' h => ⟨_, rfl, (by omega), h.1, trivial⟩)
  ·
    refine T_ldcw zk_110_7 (pc' := 10) rfl ?_
    exact T_iret zk_110_10 rfl (fun σ' h => ⟨_, rfl, (by omega), h.1, trivial⟩)
/-- W.way -/
theorem x_way {xs : Nat × (Nat → Int32)} (p0 : Int) (p1 : Int) (p2 : Int) (h0 : -2147483648 ≤ p0 ∧ p0 ≤ 2147483647) (h1 : -2147483648 ≤ p1 ∧ p1 ≤ 2147483647) (h2 : -2147483648 ≤ p2 ∧ p2 ≤ 2147483647) (σ : ZS) (hI : Inv σ) (hf : ∀ t i k j, t < 35 → σ t i k j = σ0 t i k j)  : CT xs 3 111 [av 0 0 0, iv p0, iv p1, iv p2] σ (fun v σ' => ∃ y, v = some (iv y) ∧ ((y = -1 ∧ (¬ (0 ≤ p0 ∧ p0 ≤ 24 ∧ 0 ≤ p1 ∧ p1 ≤ 24 ∧ (p1 = p0 + 5 ∨ p0 = p1 + 5 ∨ (p1 = p0 + 1 ∧ p0 % 5 < 4) ∨ (p0 = p1 + 1 ∧ p1 % 5 < 4))) ∨ ¬ (0 ≤ p2 ∧ p2 ≤ 2))) ∨ (y = -1 ∧ ¬ (¬ (0 ≤ p0 ∧ p0 ≤ 24 ∧ 0 ≤ p1 ∧ p1 ≤ 24 ∧ (p1 = p0 + 5 ∨ p0 = p1 + 5 ∨ (p1 = p0 + 1 ∧ p0 % 5 < 4) ∨ (p0 = p1 + 1 ∧ p1 % 5 < 4))) ∨ ¬ (0 ≤ p2 ∧ p2 ≤ 2)) ∧ (p2 = 2)) ∨ (y = 0 ∧ ¬ (¬ (0 ≤ p0 ∧ p0 ≤ 24 ∧ 0 ≤ p1 ∧ p1 ≤ 24 ∧ (p1 = p0 + 5 ∨ p0 = p1 + 5 ∨ (p1 = p0 + 1 ∧ p0 % 5 < 4) ∨ (p0 = p1 + 1 ∧ p1 % 5 < 4))) ∨ ¬ (0 ≤ p2 ∧ p2 ≤ 2)) ∧ ¬ (p2 = 2))) ∧ IF MN σ σ' ∧ (True)) := by
  refine G_ct (J := (fun σ' => IF MN σ σ' ∧ True)) (L := [(0, av 0 0 0), (1, iv p0), (2, iv p1), (3, iv p2)]) (nL := 5) rfl rfl rfl ⟨IF.rf hI, trivial⟩ ?_
  refine T_ld zk_111_0 rfl rfl rfl (pc' := 1) rfl ?_
  refine T_ld zk_111_1 rfl rfl rfl (pc' := 2) rfl ?_
  refine T_calli (K := fun y1 σ' => ((y1 = -1 ∧ ¬ (0 ≤ p0 ∧ p0 ≤ 24 ∧ 0 ≤ p1 ∧ p1 ≤ 24 ∧ (p1 = p0 + 5 ∨ p0 = p1 + 5 ∨ (p1 = p0 + 1 ∧ p0 % 5 < 4) ∨ (p0 = p1 + 1 ∧ p1 % 5 < 4)))) ∨ (0 ≤ y1 ∧ y1 ≤ 39 ∧ (0 ≤ p0 ∧ p0 ≤ 24 ∧ 0 ≤ p1 ∧ p1 ≤ 24 ∧ (p1 = p0 + 5 ∨ p0 = p1 + 5 ∨ (p1 = p0 + 1 ∧ p0 % 5 < 4) ∨ (p0 = p1 + 1 ∧ p1 % 5 < 4))))) ∧ (fun σ' => IF MN σ σ' ∧ True) σ') (r := []) zk_111_2 rfl rfl rfl rfl rfl rfl (Or.inl (Or.inl rfl)) (fun σ' h => (c_30 p0 p1 (by omega) (by omega) σ' h.1.1 ).le (Nat.le_of_ble_eq_true rfl) (fun v σ2 ⟨y, h1, h2, h3, h4⟩ => ⟨y, h1, h2, h.1.tr h3 MN_sub, trivial⟩)) (pc' := 5) rfl (fun y1 => ?_)
  refine G_ex (fun hy1 => ?_)
  refine T_st (L' := [(0, av 0 0 0), (1, iv p0), (2, iv p1), (3, iv p2), (4, iv y1)]) zk_111_5 (nL := 5) rfl rfl rfl rfl rfl (pc' := 7) rfl ?_
  refine T_ld zk_111_7 rfl rfl rfl (pc' := 9) rfl ?_
  refine T_op zk_111_9 rfl X_ic (pc' := 10) rfl ?_
  refine T_icmp_ne zk_111_10 (by omega) (by omega) (pc' := 13) rfl (fun h2 => ?_) (fun h3 => ?_)
  ·
    refine T_ld zk_111_15 rfl rfl rfl (pc' := 16) rfl ?_
    by_cases h4 : p2 = 0
    · subst h4
      refine T_br (t := 44) zk_111_16 rfl rfl rfl (fun _ => rfl) rfl ?_
      refine T_ld zk_111_44 rfl rfl rfl (pc' := 45) rfl ?_
      refine T_getR (t' := 1) (i' := 0) (k' := 0) zk_111_45 rfl rfl rfl vd_0 (pc' := 48) rfl ?_
      refine T_getR (t' := 2) (i' := 0) (k' := 0) zk_111_48 rfl rfl rfl (vd_1 (by omega)) (pc' := 51) rfl ?_
      refine T_getR (t' := 8) (i' := 0) (k' := 0) zk_111_51 rfl rfl rfl (vd_2 (by omega)) (pc' := 54) rfl ?_
      refine T_ld zk_111_54 rfl rfl rfl (pc' := 56) rfl ?_
      refine G_baldX (w := 0) (ln := 40) zk_111_56 rfl rfl (vd_8 (by omega)) (by omega) (by omega) (by omega) (fun σ' h => (h.1.2 _ _ _ _ (fun q => q)).trans (hf _ _ _ _ (by decide))) (pc' := 57) rfl ?_
      refine T_if_eq zk_111_57 (by omega) (pc' := 60) rfl (fun h5 => ?_) (fun h6 => ?_)
      ·
        refine T_op zk_111_64 rfl X_ic (pc' := 65) rfl ?_
        exact T_iret zk_111_65 rfl (fun σ' h => ⟨_, rfl, (by omega), h.1, trivial⟩)
      · exfalso; omega
    by_cases h7 : p2 = 1
    · subst h7
      refine T_br (t := 66) zk_111_16 rfl rfl rfl (fun _ => rfl) rfl ?_
      refine T_ld zk_111_66 rfl rfl rfl (pc' := 67) rfl ?_
      refine T_getR (t' := 1) (i' := 0) (k' := 0) zk_111_67 rfl rfl rfl vd_0 (pc' := 70) rfl ?_
      refine T_getR (t' := 2) (i' := 0) (k' := 0) zk_111_70 rfl rfl rfl (vd_1 (by omega)) (pc' := 73) rfl ?_
      refine T_getR (t' := 9) (i' := 0) (k' := 0) zk_111_73 rfl rfl rfl (vd_2 (by omega)) (pc' := 76) rfl ?_
      refine T_ld zk_111_76 rfl rfl rfl (pc' := 78) rfl ?_
      refine G_baldX (w := 0) (ln := 40) zk_111_78 rfl rfl (vd_9 (by omega)) (by omega) (by omega) (by omega) (fun σ' h => (h.1.2 _ _ _ _ (fun q => q)).trans (hf _ _ _ _ (by decide))) (pc' := 79) rfl ?_
      refine T_if_eq zk_111_79 (by omega) (pc' := 82) rfl (fun h8 => ?_) (fun h9 => ?_)
      ·
        refine T_op zk_111_86 rfl X_ic (pc' := 87) rfl ?_
        exact T_iret zk_111_87 rfl (fun σ' h => ⟨_, rfl, (by omega), h.1, trivial⟩)
      · exfalso; omega
    by_cases h10 : p2 = 2
    · subst h10
      refine T_br (t := 88) zk_111_16 rfl rfl rfl (fun _ => rfl) rfl ?_
      refine T_ld zk_111_88 rfl rfl rfl (pc' := 89) rfl ?_
      refine T_getR (t' := 1) (i' := 0) (k' := 0) zk_111_89 rfl rfl rfl vd_0 (pc' := 92) rfl ?_
      refine T_getR (t' := 2) (i' := 0) (k' := 0) zk_111_92 rfl rfl rfl (vd_1 (by omega)) (pc' := 95) rfl ?_
      refine T_getR (t' := 7) (i' := 0) (k' := 0) zk_111_95 rfl rfl rfl (vd_2 (by omega)) (pc' := 98) rfl ?_
      refine T_ld zk_111_98 rfl rfl rfl (pc' := 100) rfl ?_
      refine G_ialdX (w := (-1)) (ln := 40) zk_111_100 rfl rfl (vd_7 (by omega)) (by omega) (by omega) (by omega) (fun σ' h => (h.1.2 _ _ _ _ (fun q => q)).trans (hf _ _ _ _ (by decide))) (pc' := 101) rfl ?_
      exact T_iret zk_111_101 rfl (fun σ' h => ⟨_, rfl, (by omega), h.1, trivial⟩)
    refine T_tso (t := 102) zk_111_16 (by omega) (by omega) (by omega) ?_
    refine T_op zk_111_102 rfl X_ic (pc' := 103) rfl ?_
    exact T_iret zk_111_103 rfl (fun σ' h => ⟨_, rfl, (by omega), h.1, trivial⟩)
  ·
    refine T_op zk_111_13 rfl X_ic (pc' := 14) rfl ?_
    exact T_iret zk_111_14 rfl (fun σ' h => ⟨_, rfl, (by omega), h.1, trivial⟩)
/-- W.status -/
theorem x_status {xs : Nat × (Nat → Int32)} (p0 : Int) (h0 : -2147483648 ≤ p0 ∧ p0 ≤ 2147483647) (σ : ZS) (hI : Inv σ) (hf : ∀ t i k j, t < 35 → σ t i k j = σ0 t i k j)  : CT xs 2 112 [av 0 0 0, iv p0] σ (fun v σ' => ∃ y, v = some (iv y) ∧ ((y = 0 ∧ (0 ≤ p0 ∧ p0 ≤ 18)) ∨ (y = -1000001 ∧ ¬ (0 ≤ p0 ∧ p0 ≤ 18))) ∧ IF MN σ σ' ∧ (True)) := by
  refine G_ct (J := (fun σ' => IF MN σ σ' ∧ True)) (L := [(0, av 0 0 0), (1, iv p0)]) (nL := 2) rfl rfl rfl ⟨IF.rf hI, trivial⟩ ?_
  refine T_ld zk_112_0 rfl rfl rfl (pc' := 1) rfl ?_
  by_cases h1 : p0 = 0
  · subst h1
    refine T_br (t := 92) zk_112_1 rfl rfl rfl (fun _ => rfl) rfl ?_
    refine T_ld zk_112_92 rfl rfl rfl (pc' := 93) rfl ?_
    refine T_getR (t' := 1) (i' := 0) (k' := 0) zk_112_93 rfl rfl rfl vd_0 (pc' := 96) rfl ?_
    refine T_getR (t' := 11) (i' := 0) (k' := 0) zk_112_96 rfl rfl rfl (vd_1 (by omega)) (pc' := 99) rfl ?_
    refine G_getX (w := 0) zk_112_99 rfl (vd_11 (by omega)) (fun σ' h => (h.1.2 _ _ _ _ (fun q => q)).trans (hf _ _ _ _ (by decide))) (pc' := 102) rfl ?_
    exact T_iret zk_112_102 rfl (fun σ' h => ⟨_, rfl, (by omega), h.1, trivial⟩)
  by_cases h2 : p0 = 1
  · subst h2
    refine T_br (t := 103) zk_112_1 rfl rfl rfl (fun _ => rfl) rfl ?_
    refine T_ld zk_112_103 rfl rfl rfl (pc' := 104) rfl ?_
    refine T_getR (t' := 1) (i' := 0) (k' := 0) zk_112_104 rfl rfl rfl vd_0 (pc' := 107) rfl ?_
    refine T_getR (t' := 11) (i' := 0) (k' := 0) zk_112_107 rfl rfl rfl (vd_1 (by omega)) (pc' := 110) rfl ?_
    refine T_calli (K := fun y3 σ' => (y3 = 0) ∧ (fun σ' => IF MN σ σ' ∧ True) σ') (r := []) zk_112_110 rfl rfl rfl rfl rfl rfl (Or.inr ⟨_, _, _, _, rfl, (vd_11 (by omega)), rfl⟩) (fun σ' h => (c_63e 0 (by omega) σ' h.1.1 ((h.1.2 _ _ _ _ (fun q => q)).trans (hf _ _ _ _ (by decide)))).le (Nat.le_of_ble_eq_true rfl) (fun v σ2 ⟨y, h1, h2, h3, h4⟩ => ⟨y, h1, h2, h.1.tr h3 MN_sub, trivial⟩)) (pc' := 113) rfl (fun y3 => ?_)
    refine G_ex (fun hy3 => ?_)
    obtain rfl : y3 = 0 := by omega
    exact T_iret zk_112_113 rfl (fun σ' h => ⟨_, rfl, (by omega), h.1, trivial⟩)
  by_cases h4 : p0 = 2
  · subst h4
    refine T_br (t := 114) zk_112_1 rfl rfl rfl (fun _ => rfl) rfl ?_
    refine T_ld zk_112_114 rfl rfl rfl (pc' := 115) rfl ?_
    refine T_getR (t' := 1) (i' := 0) (k' := 0) zk_112_115 rfl rfl rfl vd_0 (pc' := 118) rfl ?_
    refine G_getX (w := 0) zk_112_118 rfl (vd_1 (by omega)) (fun σ' h => (h.1.2 _ _ _ _ (fun q => q)).trans (hf _ _ _ _ (by decide))) (pc' := 121) rfl ?_
    exact T_iret zk_112_121 rfl (fun σ' h => ⟨_, rfl, (by omega), h.1, trivial⟩)
  by_cases h5 : p0 = 3
  · subst h5
    refine T_br (t := 122) zk_112_1 rfl rfl rfl (fun _ => rfl) rfl ?_
    refine T_ld zk_112_122 rfl rfl rfl (pc' := 123) rfl ?_
    refine T_getR (t' := 1) (i' := 0) (k' := 0) zk_112_123 rfl rfl rfl vd_0 (pc' := 126) rfl ?_
    refine T_calli (K := fun y6 σ' => (y6 = 0) ∧ (fun σ' => IF MN σ σ' ∧ True) σ') (r := []) zk_112_126 rfl rfl rfl rfl rfl rfl (Or.inr ⟨_, _, _, _, rfl, (vd_1 (by omega)), rfl⟩) (fun σ' h => (c_19e 0 (by omega) σ' h.1.1 ((h.1.2 _ _ _ _ (fun q => q)).trans (hf _ _ _ _ (by decide)))).le (Nat.le_of_ble_eq_true rfl) (fun v σ2 ⟨y, h1, h2, h3, h4⟩ => ⟨y, h1, h2, h.1.tr h3 MN_sub, trivial⟩)) (pc' := 129) rfl (fun y6 => ?_)
    refine G_ex (fun hy6 => ?_)
    obtain rfl : y6 = 0 := by omega
    exact T_iret zk_112_129 rfl (fun σ' h => ⟨_, rfl, (by omega), h.1, trivial⟩)
  by_cases h7 : p0 = 4
  · subst h7
    refine T_br (t := 130) zk_112_1 rfl rfl rfl (fun _ => rfl) rfl ?_
    refine T_ld zk_112_130 rfl rfl rfl (pc' := 131) rfl ?_
    refine T_getR (t' := 1) (i' := 0) (k' := 0) zk_112_131 rfl rfl rfl vd_0 (pc' := 134) rfl ?_
    refine G_getX (w := 0) zk_112_134 rfl (vd_1 (by omega)) (fun σ' h => (h.1.2 _ _ _ _ (fun q => q)).trans (hf _ _ _ _ (by decide))) (pc' := 137) rfl ?_
    exact T_iret zk_112_137 rfl (fun σ' h => ⟨_, rfl, (by omega), h.1, trivial⟩)
  by_cases h8 : p0 = 5
  · subst h8
    refine T_br (t := 138) zk_112_1 rfl rfl rfl (fun _ => rfl) rfl ?_
    refine T_ld zk_112_138 rfl rfl rfl (pc' := 139) rfl ?_
    refine T_getR (t' := 1) (i' := 0) (k' := 0) zk_112_139 rfl rfl rfl vd_0 (pc' := 142) rfl ?_
    refine G_getX (w := 0) zk_112_142 rfl (vd_1 (by omega)) (fun σ' h => (h.1.2 _ _ _ _ (fun q => q)).trans (hf _ _ _ _ (by decide))) (pc' := 145) rfl ?_
    exact T_iret zk_112_145 rfl (fun σ' h => ⟨_, rfl, (by omega), h.1, trivial⟩)
  by_cases h9 : p0 = 6
  · subst h9
    refine T_br (t := 146) zk_112_1 rfl rfl rfl (fun _ => rfl) rfl ?_
    refine T_ld zk_112_146 rfl rfl rfl (pc' := 147) rfl ?_
    refine T_getR (t' := 1) (i' := 0) (k' := 0) zk_112_147 rfl rfl rfl vd_0 (pc' := 150) rfl ?_
    refine T_calli (K := fun y10 σ' => (y10 = 0) ∧ (fun σ' => IF MN σ σ' ∧ True) σ') (r := []) zk_112_150 rfl rfl rfl rfl rfl rfl (Or.inr ⟨_, _, _, _, rfl, (vd_1 (by omega)), rfl⟩) (fun σ' h => (c_18e 0 (by omega) σ' h.1.1 ((h.1.2 _ _ _ _ (fun q => q)).trans (hf _ _ _ _ (by decide)))).le (Nat.le_of_ble_eq_true rfl) (fun v σ2 ⟨y, h1, h2, h3, h4⟩ => ⟨y, h1, h2, h.1.tr h3 MN_sub, trivial⟩)) (pc' := 153) rfl (fun y10 => ?_)
    refine G_ex (fun hy10 => ?_)
    obtain rfl : y10 = 0 := by omega
    exact T_iret zk_112_153 rfl (fun σ' h => ⟨_, rfl, (by omega), h.1, trivial⟩)
  by_cases h11 : p0 = 7
  · subst h11
    refine T_br (t := 154) zk_112_1 rfl rfl rfl (fun _ => rfl) rfl ?_
    refine T_ld zk_112_154 rfl rfl rfl (pc' := 155) rfl ?_
    refine T_getR (t' := 1) (i' := 0) (k' := 0) zk_112_155 rfl rfl rfl vd_0 (pc' := 158) rfl ?_
    refine G_getX (w := 0) zk_112_158 rfl (vd_1 (by omega)) (fun σ' h => (h.1.2 _ _ _ _ (fun q => q)).trans (hf _ _ _ _ (by decide))) (pc' := 161) rfl ?_
    exact T_iret zk_112_161 rfl (fun σ' h => ⟨_, rfl, (by omega), h.1, trivial⟩)
  by_cases h12 : p0 = 8
  · subst h12
    refine T_br (t := 162) zk_112_1 rfl rfl rfl (fun _ => rfl) rfl ?_
    refine T_ld zk_112_162 rfl rfl rfl (pc' := 163) rfl ?_
    refine T_getR (t' := 1) (i' := 0) (k' := 0) zk_112_163 rfl rfl rfl vd_0 (pc' := 166) rfl ?_
    refine G_getX (w := 0) zk_112_166 rfl (vd_1 (by omega)) (fun σ' h => (h.1.2 _ _ _ _ (fun q => q)).trans (hf _ _ _ _ (by decide))) (pc' := 169) rfl ?_
    exact T_iret zk_112_169 rfl (fun σ' h => ⟨_, rfl, (by omega), h.1, trivial⟩)
  by_cases h13 : p0 = 9
  · subst h13
    refine T_br (t := 170) zk_112_1 rfl rfl rfl (fun _ => rfl) rfl ?_
    refine T_ld zk_112_170 rfl rfl rfl (pc' := 171) rfl ?_
    refine T_getR (t' := 1) (i' := 0) (k' := 0) zk_112_171 rfl rfl rfl vd_0 (pc' := 174) rfl ?_
    refine G_getX (w := 0) zk_112_174 rfl (vd_1 (by omega)) (fun σ' h => (h.1.2 _ _ _ _ (fun q => q)).trans (hf _ _ _ _ (by decide))) (pc' := 177) rfl ?_
    exact T_iret zk_112_177 rfl (fun σ' h => ⟨_, rfl, (by omega), h.1, trivial⟩)
  by_cases h14 : p0 = 10
  · subst h14
    refine T_br (t := 178) zk_112_1 rfl rfl rfl (fun _ => rfl) rfl ?_
    refine T_ld zk_112_178 rfl rfl rfl (pc' := 179) rfl ?_
    refine T_getR (t' := 1) (i' := 0) (k' := 0) zk_112_179 rfl rfl rfl vd_0 (pc' := 182) rfl ?_
    refine T_getR (t' := 2) (i' := 0) (k' := 0) zk_112_182 rfl rfl rfl (vd_1 (by omega)) (pc' := 185) rfl ?_
    refine T_calli (K := fun y15 σ' => (y15 = 0) ∧ (fun σ' => IF MN σ σ' ∧ True) σ') (r := []) zk_112_185 rfl rfl rfl rfl rfl rfl (Or.inr ⟨_, _, _, _, rfl, (vd_2 (by omega)), rfl⟩) (fun σ' h => (c_34e 0 (by omega) σ' h.1.1 (fun j a b => (h.1.2 _ _ _ _ (fun q => q)).trans (hf _ _ _ _ (by decide)))).le (Nat.le_of_ble_eq_true rfl) (fun v σ2 ⟨y, h1, h2, h3, h4⟩ => ⟨y, h1, h2, h.1.tr h3 MN_sub, trivial⟩)) (pc' := 188) rfl (fun y15 => ?_)
    refine G_ex (fun hy15 => ?_)
    obtain rfl : y15 = 0 := by omega
    exact T_iret zk_112_188 rfl (fun σ' h => ⟨_, rfl, (by omega), h.1, trivial⟩)
  by_cases h16 : p0 = 11
  · subst h16
    refine T_br (t := 197) zk_112_1 rfl rfl rfl (fun _ => rfl) rfl ?_
    refine T_ld zk_112_197 rfl rfl rfl (pc' := 198) rfl ?_
    refine T_op zk_112_198 rfl (X_bi (v := 11) (by decide)) (pc' := 200) rfl ?_
    refine T_op zk_112_200 rfl (X_bi (v := 17) (by decide)) (pc' := 202) rfl ?_
    refine T_calli (K := fun y17 σ' => ((y17 = 0 ∧ (11 < 11 ∨ 17 < 11)) ∨ (y17 = 1 ∧ 11 ≤ 11 ∧ 11 ≤ 17)) ∧ (fun σ' => IF MN σ σ' ∧ True) σ') (r := []) zk_112_202 rfl rfl rfl rfl rfl rfl (Or.inl (Or.inl rfl)) (fun σ' h => (c_114 11 11 17 (by omega) (by omega) (by omega) σ' h.1.1 ).le (Nat.le_of_ble_eq_true rfl) (fun v σ2 ⟨y, h1, h2, h3, h4⟩ => ⟨y, h1, h2, h.1.tr h3 MN_sub, trivial⟩)) (pc' := 205) rfl (fun y17 => ?_)
    refine G_ex (fun hy17 => ?_)
    refine T_if_eq zk_112_205 (by omega) (pc' := 208) rfl (fun h18 => ?_) (fun h19 => ?_)
    ·
      refine T_ldcw zk_112_220 (pc' := 223) rfl ?_
      exact T_iret zk_112_223 rfl (fun σ' h => ⟨_, rfl, (by omega), h.1, trivial⟩)
    ·
      refine T_ld zk_112_208 rfl rfl rfl (pc' := 209) rfl ?_
      refine T_getR (t' := 28) (i' := 0) (k' := 0) zk_112_209 rfl rfl rfl vd_0 (pc' := 212) rfl ?_
      refine T_ld zk_112_212 rfl rfl rfl (pc' := 213) rfl ?_
      refine T_op zk_112_213 rfl (X_bi (v := 10) (by decide)) (pc' := 215) rfl ?_
      refine T_opc (w := 1) zk_112_215 rfl X_sub (by omega) (pc' := 216) rfl ?_
      refine G_ialdX (w := 0) (ln := 8) zk_112_216 rfl rfl vd_28 (by omega) (by omega) (by omega) (fun σ' h => (h.1.2 _ _ _ _ (fun q => q)).trans (hf _ _ _ _ (by decide))) (pc' := 217) rfl ?_
      refine T_goto zk_112_217 ?_
      exact T_iret zk_112_223 rfl (fun σ' h => ⟨_, rfl, (by omega), h.1, trivial⟩)
  by_cases h20 : p0 = 12
  · subst h20
    refine T_br (t := 197) zk_112_1 rfl rfl rfl (fun _ => rfl) rfl ?_
    refine T_ld zk_112_197 rfl rfl rfl (pc' := 198) rfl ?_
    refine T_op zk_112_198 rfl (X_bi (v := 11) (by decide)) (pc' := 200) rfl ?_
    refine T_op zk_112_200 rfl (X_bi (v := 17) (by decide)) (pc' := 202) rfl ?_
    refine T_calli (K := fun y21 σ' => ((y21 = 0 ∧ (12 < 11 ∨ 17 < 12)) ∨ (y21 = 1 ∧ 11 ≤ 12 ∧ 12 ≤ 17)) ∧ (fun σ' => IF MN σ σ' ∧ True) σ') (r := []) zk_112_202 rfl rfl rfl rfl rfl rfl (Or.inl (Or.inl rfl)) (fun σ' h => (c_114 12 11 17 (by omega) (by omega) (by omega) σ' h.1.1 ).le (Nat.le_of_ble_eq_true rfl) (fun v σ2 ⟨y, h1, h2, h3, h4⟩ => ⟨y, h1, h2, h.1.tr h3 MN_sub, trivial⟩)) (pc' := 205) rfl (fun y21 => ?_)
    refine G_ex (fun hy21 => ?_)
    refine T_if_eq zk_112_205 (by omega) (pc' := 208) rfl (fun h22 => ?_) (fun h23 => ?_)
    ·
      refine T_ldcw zk_112_220 (pc' := 223) rfl ?_
      exact T_iret zk_112_223 rfl (fun σ' h => ⟨_, rfl, (by omega), h.1, trivial⟩)
    ·
      refine T_ld zk_112_208 rfl rfl rfl (pc' := 209) rfl ?_
      refine T_getR (t' := 28) (i' := 0) (k' := 0) zk_112_209 rfl rfl rfl vd_0 (pc' := 212) rfl ?_
      refine T_ld zk_112_212 rfl rfl rfl (pc' := 213) rfl ?_
      refine T_op zk_112_213 rfl (X_bi (v := 10) (by decide)) (pc' := 215) rfl ?_
      refine T_opc (w := 2) zk_112_215 rfl X_sub (by omega) (pc' := 216) rfl ?_
      refine G_ialdX (w := 0) (ln := 8) zk_112_216 rfl rfl vd_28 (by omega) (by omega) (by omega) (fun σ' h => (h.1.2 _ _ _ _ (fun q => q)).trans (hf _ _ _ _ (by decide))) (pc' := 217) rfl ?_
      refine T_goto zk_112_217 ?_
      exact T_iret zk_112_223 rfl (fun σ' h => ⟨_, rfl, (by omega), h.1, trivial⟩)
  by_cases h24 : p0 = 13
  · subst h24
    refine T_br (t := 197) zk_112_1 rfl rfl rfl (fun _ => rfl) rfl ?_
    refine T_ld zk_112_197 rfl rfl rfl (pc' := 198) rfl ?_
    refine T_op zk_112_198 rfl (X_bi (v := 11) (by decide)) (pc' := 200) rfl ?_
    refine T_op zk_112_200 rfl (X_bi (v := 17) (by decide)) (pc' := 202) rfl ?_
    refine T_calli (K := fun y25 σ' => ((y25 = 0 ∧ (13 < 11 ∨ 17 < 13)) ∨ (y25 = 1 ∧ 11 ≤ 13 ∧ 13 ≤ 17)) ∧ (fun σ' => IF MN σ σ' ∧ True) σ') (r := []) zk_112_202 rfl rfl rfl rfl rfl rfl (Or.inl (Or.inl rfl)) (fun σ' h => (c_114 13 11 17 (by omega) (by omega) (by omega) σ' h.1.1 ).le (Nat.le_of_ble_eq_true rfl) (fun v σ2 ⟨y, h1, h2, h3, h4⟩ => ⟨y, h1, h2, h.1.tr h3 MN_sub, trivial⟩)) (pc' := 205) rfl (fun y25 => ?_)
    refine G_ex (fun hy25 => ?_)
    refine T_if_eq zk_112_205 (by omega) (pc' := 208) rfl (fun h26 => ?_) (fun h27 => ?_)
    ·
      refine T_ldcw zk_112_220 (pc' := 223) rfl ?_
      exact T_iret zk_112_223 rfl (fun σ' h => ⟨_, rfl, (by omega), h.1, trivial⟩)
    ·
      refine T_ld zk_112_208 rfl rfl rfl (pc' := 209) rfl ?_
      refine T_getR (t' := 28) (i' := 0) (k' := 0) zk_112_209 rfl rfl rfl vd_0 (pc' := 212) rfl ?_
      refine T_ld zk_112_212 rfl rfl rfl (pc' := 213) rfl ?_
      refine T_op zk_112_213 rfl (X_bi (v := 10) (by decide)) (pc' := 215) rfl ?_
      refine T_opc (w := 3) zk_112_215 rfl X_sub (by omega) (pc' := 216) rfl ?_
      refine G_ialdX (w := 0) (ln := 8) zk_112_216 rfl rfl vd_28 (by omega) (by omega) (by omega) (fun σ' h => (h.1.2 _ _ _ _ (fun q => q)).trans (hf _ _ _ _ (by decide))) (pc' := 217) rfl ?_
      refine T_goto zk_112_217 ?_
      exact T_iret zk_112_223 rfl (fun σ' h => ⟨_, rfl, (by omega), h.1, trivial⟩)
  by_cases h28 : p0 = 14
  · subst h28
    refine T_br (t := 197) zk_112_1 rfl rfl rfl (fun _ => rfl) rfl ?_
    refine T_ld zk_112_197 rfl rfl rfl (pc' := 198) rfl ?_
    refine T_op zk_112_198 rfl (X_bi (v := 11) (by decide)) (pc' := 200) rfl ?_
    refine T_op zk_112_200 rfl (X_bi (v := 17) (by decide)) (pc' := 202) rfl ?_
    refine T_calli (K := fun y29 σ' => ((y29 = 0 ∧ (14 < 11 ∨ 17 < 14)) ∨ (y29 = 1 ∧ 11 ≤ 14 ∧ 14 ≤ 17)) ∧ (fun σ' => IF MN σ σ' ∧ True) σ') (r := []) zk_112_202 rfl rfl rfl rfl rfl rfl (Or.inl (Or.inl rfl)) (fun σ' h => (c_114 14 11 17 (by omega) (by omega) (by omega) σ' h.1.1 ).le (Nat.le_of_ble_eq_true rfl) (fun v σ2 ⟨y, h1, h2, h3, h4⟩ => ⟨y, h1, h2, h.1.tr h3 MN_sub, trivial⟩)) (pc' := 205) rfl (fun y29 => ?_)
    refine G_ex (fun hy29 => ?_)
    refine T_if_eq zk_112_205 (by omega) (pc' := 208) rfl (fun h30 => ?_) (fun h31 => ?_)
    ·
      refine T_ldcw zk_112_220 (pc' := 223) rfl ?_
      exact T_iret zk_112_223 rfl (fun σ' h => ⟨_, rfl, (by omega), h.1, trivial⟩)
    ·
      refine T_ld zk_112_208 rfl rfl rfl (pc' := 209) rfl ?_
      refine T_getR (t' := 28) (i' := 0) (k' := 0) zk_112_209 rfl rfl rfl vd_0 (pc' := 212) rfl ?_
      refine T_ld zk_112_212 rfl rfl rfl (pc' := 213) rfl ?_
      refine T_op zk_112_213 rfl (X_bi (v := 10) (by decide)) (pc' := 215) rfl ?_
      refine T_opc (w := 4) zk_112_215 rfl X_sub (by omega) (pc' := 216) rfl ?_
      refine G_ialdX (w := 0) (ln := 8) zk_112_216 rfl rfl vd_28 (by omega) (by omega) (by omega) (fun σ' h => (h.1.2 _ _ _ _ (fun q => q)).trans (hf _ _ _ _ (by decide))) (pc' := 217) rfl ?_
      refine T_goto zk_112_217 ?_
      exact T_iret zk_112_223 rfl (fun σ' h => ⟨_, rfl, (by omega), h.1, trivial⟩)
  by_cases h32 : p0 = 15
  · subst h32
    refine T_br (t := 197) zk_112_1 rfl rfl rfl (fun _ => rfl) rfl ?_
    refine T_ld zk_112_197 rfl rfl rfl (pc' := 198) rfl ?_
    refine T_op zk_112_198 rfl (X_bi (v := 11) (by decide)) (pc' := 200) rfl ?_
    refine T_op zk_112_200 rfl (X_bi (v := 17) (by decide)) (pc' := 202) rfl ?_
    refine T_calli (K := fun y33 σ' => ((y33 = 0 ∧ (15 < 11 ∨ 17 < 15)) ∨ (y33 = 1 ∧ 11 ≤ 15 ∧ 15 ≤ 17)) ∧ (fun σ' => IF MN σ σ' ∧ True) σ') (r := []) zk_112_202 rfl rfl rfl rfl rfl rfl (Or.inl (Or.inl rfl)) (fun σ' h => (c_114 15 11 17 (by omega) (by omega) (by omega) σ' h.1.1 ).le (Nat.le_of_ble_eq_true rfl) (fun v σ2 ⟨y, h1, h2, h3, h4⟩ => ⟨y, h1, h2, h.1.tr h3 MN_sub, trivial⟩)) (pc' := 205) rfl (fun y33 => ?_)
    refine G_ex (fun hy33 => ?_)
    refine T_if_eq zk_112_205 (by omega) (pc' := 208) rfl (fun h34 => ?_) (fun h35 => ?_)
    ·
      refine T_ldcw zk_112_220 (pc' := 223) rfl ?_
      exact T_iret zk_112_223 rfl (fun σ' h => ⟨_, rfl, (by omega), h.1, trivial⟩)
    ·
      refine T_ld zk_112_208 rfl rfl rfl (pc' := 209) rfl ?_
      refine T_getR (t' := 28) (i' := 0) (k' := 0) zk_112_209 rfl rfl rfl vd_0 (pc' := 212) rfl ?_
      refine T_ld zk_112_212 rfl rfl rfl (pc' := 213) rfl ?_
      refine T_op zk_112_213 rfl (X_bi (v := 10) (by decide)) (pc' := 215) rfl ?_
      refine T_opc (w := 5) zk_112_215 rfl X_sub (by omega) (pc' := 216) rfl ?_
      refine G_ialdX (w := 0) (ln := 8) zk_112_216 rfl rfl vd_28 (by omega) (by omega) (by omega) (fun σ' h => (h.1.2 _ _ _ _ (fun q => q)).trans (hf _ _ _ _ (by decide))) (pc' := 217) rfl ?_
      refine T_goto zk_112_217 ?_
      exact T_iret zk_112_223 rfl (fun σ' h => ⟨_, rfl, (by omega), h.1, trivial⟩)
  by_cases h36 : p0 = 16
  · subst h36
    refine T_br (t := 197) zk_112_1 rfl rfl rfl (fun _ => rfl) rfl ?_
    refine T_ld zk_112_197 rfl rfl rfl (pc' := 198) rfl ?_
    refine T_op zk_112_198 rfl (X_bi (v := 11) (by decide)) (pc' := 200) rfl ?_
    refine T_op zk_112_200 rfl (X_bi (v := 17) (by decide)) (pc' := 202) rfl ?_
    refine T_calli (K := fun y37 σ' => ((y37 = 0 ∧ (16 < 11 ∨ 17 < 16)) ∨ (y37 = 1 ∧ 11 ≤ 16 ∧ 16 ≤ 17)) ∧ (fun σ' => IF MN σ σ' ∧ True) σ') (r := []) zk_112_202 rfl rfl rfl rfl rfl rfl (Or.inl (Or.inl rfl)) (fun σ' h => (c_114 16 11 17 (by omega) (by omega) (by omega) σ' h.1.1 ).le (Nat.le_of_ble_eq_true rfl) (fun v σ2 ⟨y, h1, h2, h3, h4⟩ => ⟨y, h1, h2, h.1.tr h3 MN_sub, trivial⟩)) (pc' := 205) rfl (fun y37 => ?_)
    refine G_ex (fun hy37 => ?_)
    refine T_if_eq zk_112_205 (by omega) (pc' := 208) rfl (fun h38 => ?_) (fun h39 => ?_)
    ·
      refine T_ldcw zk_112_220 (pc' := 223) rfl ?_
      exact T_iret zk_112_223 rfl (fun σ' h => ⟨_, rfl, (by omega), h.1, trivial⟩)
    ·
      refine T_ld zk_112_208 rfl rfl rfl (pc' := 209) rfl ?_
      refine T_getR (t' := 28) (i' := 0) (k' := 0) zk_112_209 rfl rfl rfl vd_0 (pc' := 212) rfl ?_
      refine T_ld zk_112_212 rfl rfl rfl (pc' := 213) rfl ?_
      refine T_op zk_112_213 rfl (X_bi (v := 10) (by decide)) (pc' := 215) rfl ?_
      refine T_opc (w := 6) zk_112_215 rfl X_sub (by omega) (pc' := 216) rfl ?_
      refine G_ialdX (w := 0) (ln := 8) zk_112_216 rfl rfl vd_28 (by omega) (by omega) (by omega) (fun σ' h => (h.1.2 _ _ _ _ (fun q => q)).trans (hf _ _ _ _ (by decide))) (pc' := 217) rfl ?_
      refine T_goto zk_112_217 ?_
      exact T_iret zk_112_223 rfl (fun σ' h => ⟨_, rfl, (by omega), h.1, trivial⟩)
  by_cases h40 : p0 = 17
  · subst h40
    refine T_br (t := 197) zk_112_1 rfl rfl rfl (fun _ => rfl) rfl ?_
    refine T_ld zk_112_197 rfl rfl rfl (pc' := 198) rfl ?_
    refine T_op zk_112_198 rfl (X_bi (v := 11) (by decide)) (pc' := 200) rfl ?_
    refine T_op zk_112_200 rfl (X_bi (v := 17) (by decide)) (pc' := 202) rfl ?_
    refine T_calli (K := fun y41 σ' => ((y41 = 0 ∧ (17 < 11 ∨ 17 < 17)) ∨ (y41 = 1 ∧ 11 ≤ 17 ∧ 17 ≤ 17)) ∧ (fun σ' => IF MN σ σ' ∧ True) σ') (r := []) zk_112_202 rfl rfl rfl rfl rfl rfl (Or.inl (Or.inl rfl)) (fun σ' h => (c_114 17 11 17 (by omega) (by omega) (by omega) σ' h.1.1 ).le (Nat.le_of_ble_eq_true rfl) (fun v σ2 ⟨y, h1, h2, h3, h4⟩ => ⟨y, h1, h2, h.1.tr h3 MN_sub, trivial⟩)) (pc' := 205) rfl (fun y41 => ?_)
    refine G_ex (fun hy41 => ?_)
    refine T_if_eq zk_112_205 (by omega) (pc' := 208) rfl (fun h42 => ?_) (fun h43 => ?_)
    ·
      refine T_ldcw zk_112_220 (pc' := 223) rfl ?_
      exact T_iret zk_112_223 rfl (fun σ' h => ⟨_, rfl, (by omega), h.1, trivial⟩)
    ·
      refine T_ld zk_112_208 rfl rfl rfl (pc' := 209) rfl ?_
      refine T_getR (t' := 28) (i' := 0) (k' := 0) zk_112_209 rfl rfl rfl vd_0 (pc' := 212) rfl ?_
      refine T_ld zk_112_212 rfl rfl rfl (pc' := 213) rfl ?_
      refine T_op zk_112_213 rfl (X_bi (v := 10) (by decide)) (pc' := 215) rfl ?_
      refine T_opc (w := 7) zk_112_215 rfl X_sub (by omega) (pc' := 216) rfl ?_
      refine G_ialdX (w := 0) (ln := 8) zk_112_216 rfl rfl vd_28 (by omega) (by omega) (by omega) (fun σ' h => (h.1.2 _ _ _ _ (fun q => q)).trans (hf _ _ _ _ (by decide))) (pc' := 217) rfl ?_
      refine T_goto zk_112_217 ?_
      exact T_iret zk_112_223 rfl (fun σ' h => ⟨_, rfl, (by omega), h.1, trivial⟩)
  by_cases h44 : p0 = 18
  · subst h44
    refine T_br (t := 189) zk_112_1 rfl rfl rfl (fun _ => rfl) rfl ?_
    refine T_ld zk_112_189 rfl rfl rfl (pc' := 190) rfl ?_
    refine T_getR (t' := 1) (i' := 0) (k' := 0) zk_112_190 rfl rfl rfl vd_0 (pc' := 193) rfl ?_
    refine G_getX (w := 0) zk_112_193 rfl (vd_1 (by omega)) (fun σ' h => (h.1.2 _ _ _ _ (fun q => q)).trans (hf _ _ _ _ (by decide))) (pc' := 196) rfl ?_
    exact T_iret zk_112_196 rfl (fun σ' h => ⟨_, rfl, (by omega), h.1, trivial⟩)
  refine T_tso (t := 197) zk_112_1 (by omega) (by omega) (by omega) ?_
  refine T_ld zk_112_197 rfl rfl rfl (pc' := 198) rfl ?_
  refine T_op zk_112_198 rfl (X_bi (v := 11) (by decide)) (pc' := 200) rfl ?_
  refine T_op zk_112_200 rfl (X_bi (v := 17) (by decide)) (pc' := 202) rfl ?_
  refine T_calli (K := fun y45 σ' => ((y45 = 0 ∧ (p0 < 11 ∨ 17 < p0)) ∨ (y45 = 1 ∧ 11 ≤ p0 ∧ p0 ≤ 17)) ∧ (fun σ' => IF MN σ σ' ∧ True) σ') (r := []) zk_112_202 rfl rfl rfl rfl rfl rfl (Or.inl (Or.inl rfl)) (fun σ' h => (c_114 p0 11 17 (by omega) (by omega) (by omega) σ' h.1.1 ).le (Nat.le_of_ble_eq_true rfl) (fun v σ2 ⟨y, h1, h2, h3, h4⟩ => ⟨y, h1, h2, h.1.tr h3 MN_sub, trivial⟩)) (pc' := 205) rfl (fun y45 => ?_)
  refine G_ex (fun hy45 => ?_)
  refine T_if_eq zk_112_205 (by omega) (pc' := 208) rfl (fun h46 => ?_) (fun h47 => ?_)
  ·
    refine T_ldcw zk_112_220 (pc' := 223) rfl ?_
    exact T_iret zk_112_223 rfl (fun σ' h => ⟨_, rfl, (by omega), h.1, trivial⟩)
  ·
    refine T_ld zk_112_208 rfl rfl rfl (pc' := 209) rfl ?_
    refine T_getR (t' := 28) (i' := 0) (k' := 0) zk_112_209 rfl rfl rfl vd_0 (pc' := 212) rfl ?_
    refine T_ld zk_112_212 rfl rfl rfl (pc' := 213) rfl ?_
    refine T_op zk_112_213 rfl (X_bi (v := 10) (by decide)) (pc' := 215) rfl ?_
    refine T_op zk_112_215 rfl X_sub (pc' := 216) rfl ?_
    refine G_ialdX (w := 0) (ln := 8) zk_112_216 rfl rfl vd_28 (by omega) (by omega) (by omega) (fun σ' h => (h.1.2 _ _ _ _ (fun q => q)).trans (hf _ _ _ _ (by decide))) (pc' := 217) rfl ?_
    refine T_goto zk_112_217 ?_
    exact T_iret zk_112_223 rfl (fun σ' h => ⟨_, rfl, (by omega), h.1, trivial⟩)
