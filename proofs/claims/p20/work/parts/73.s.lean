/-- WModel.house -/
theorem r_164 {xs : Nat × (Nat → Int32)} (p0 : Int) (p1 : Int) (p2 : Int) (p3 : Int) (p4 : Int) (n : Int) (hp0 : -2147483648 ≤ p0 ∧ p0 ≤ 2147483647) (hp1 : -2147483648 ≤ p1 ∧ p1 ≤ 2147483647) (hp2 : -2147483648 ≤ p2 ∧ p2 ≤ 2147483647) (hp3 : -2147483648 ≤ p3 ∧ p3 ≤ 2147483647) (hp4 : -2147483648 ≤ p4 ∧ p4 ≤ 2147483647) (hn : 0 ≤ n ∧ n ≤ 12) (σ : ZS) (hI : Inv σ)  (s1 : σ 36 0 0 641 = n) : CT xs 2 164 [av 35 0 0, iv p0, iv p1, iv p2, iv p3, iv p4] σ (fun v σ' => ∃ y, v = some (iv y) ∧ ((y = -1 ∧ (¬ (0 ≤ p0 ∧ p0 ≤ 2) ∨ ¬ (0 ≤ p1 ∧ p1 ≤ 24))) ∨ (y = -6 ∧ ¬ (¬ (0 ≤ p0 ∧ p0 ≤ 2) ∨ ¬ (0 ≤ p1 ∧ p1 ≤ 24)) ∧ (¬ (0 ≤ p2 ∧ p2 ≤ 200) ∨ ¬ (0 ≤ p3 ∧ p3 ≤ 99) ∨ ¬ (0 ≤ p4 ∧ p4 ≤ 99))) ∨ (y = -7 ∧ ¬ (¬ (0 ≤ p0 ∧ p0 ≤ 2) ∨ ¬ (0 ≤ p1 ∧ p1 ≤ 24)) ∧ ¬ (¬ (0 ≤ p2 ∧ p2 ≤ 200) ∨ ¬ (0 ≤ p3 ∧ p3 ≤ 99) ∨ ¬ (0 ≤ p4 ∧ p4 ≤ 99)) ∧ (12 ≤ n)) ∨ (y = n ∧ ¬ (¬ (0 ≤ p0 ∧ p0 ≤ 2) ∨ ¬ (0 ≤ p1 ∧ p1 ≤ 24)) ∧ ¬ (¬ (0 ≤ p2 ∧ p2 ≤ 200) ∨ ¬ (0 ≤ p3 ∧ p3 ≤ 99) ∨ ¬ (0 ≤ p4 ∧ p4 ≤ 99)) ∧ ¬ (12 ≤ n))) ∧ IF (MK 448 568 641 642) σ σ' ∧ (((y < 0 → σ' 36 0 0 641 = n) ∧ (0 ≤ y → σ' 36 0 0 641 = n + 1)) ∧ True)) := by
  refine G_ct (J := (fun σ' => IF (MK 448 568 641 642) σ σ' ∧ σ' 36 0 0 641 = n ∧ True)) (L := [(0, av 35 0 0), (1, iv p0), (2, iv p1), (3, iv p2), (4, iv p3), (5, iv p4)]) (nL := 8) rfl rfl rfl ⟨IF.rf hI, s1, trivial⟩ ?_
  refine T_ld zk_164_0 rfl rfl rfl (pc' := 1) rfl ?_
  refine T_if_lt zk_164_1 (by omega) (pc' := 4) rfl (fun h1 => ?_) (fun h2 => ?_)
  ·
    refine T_ld zk_164_16 rfl rfl rfl (pc' := 17) rfl ?_
    refine T_op zk_164_17 rfl X_ic (pc' := 18) rfl ?_
    refine T_calli (K := fun y3 σ' => (y3 = (-1)) ∧ (fun σ' => IF (MK 448 568 641 642) σ σ' ∧ σ' 36 0 0 641 = n ∧ True) σ') (r := []) zk_164_18 rfl rfl rfl rfl rfl rfl (Or.inr ⟨_, _, _, _, rfl, vd_35, rfl⟩) (fun σ' h => (m_123 ((-1)) (by omega) σ' h.1.1 ).le (Nat.le_of_ble_eq_true rfl) (fun v σ2 ⟨y, h1, h2, h3, h4⟩ => ⟨y, h1, h2, h.1.tr h3 sb62_9be9b53, (h3.2 _ _ _ _ (by first | exact nMT rfl | (unfold MT; omega))).trans (h.2.1), trivial⟩)) (pc' := 21) rfl (fun y3 => ?_)
    refine G_ex (fun hy3 => ?_)
    obtain rfl : y3 = (-1) := by omega
    exact T_iret zk_164_21 rfl (fun σ' h => ⟨_, rfl, (by omega), h.1, ⟨(by have e := h.2.1; omega), trivial⟩⟩)
  ·
    refine T_ld zk_164_4 rfl rfl rfl (pc' := 5) rfl ?_
    refine T_op zk_164_5 rfl X_ic (pc' := 6) rfl ?_
    refine T_icmp_gt zk_164_6 (by omega) (by omega) (pc' := 9) rfl (fun h4 => ?_) (fun h5 => ?_)
    ·
      refine T_ld zk_164_16 rfl rfl rfl (pc' := 17) rfl ?_
      refine T_op zk_164_17 rfl X_ic (pc' := 18) rfl ?_
      refine T_calli (K := fun y6 σ' => (y6 = (-1)) ∧ (fun σ' => IF (MK 448 568 641 642) σ σ' ∧ σ' 36 0 0 641 = n ∧ True) σ') (r := []) zk_164_18 rfl rfl rfl rfl rfl rfl (Or.inr ⟨_, _, _, _, rfl, vd_35, rfl⟩) (fun σ' h => (m_123 ((-1)) (by omega) σ' h.1.1 ).le (Nat.le_of_ble_eq_true rfl) (fun v σ2 ⟨y, h1, h2, h3, h4⟩ => ⟨y, h1, h2, h.1.tr h3 sb62_9be9b53, (h3.2 _ _ _ _ (by first | exact nMT rfl | (unfold MT; omega))).trans (h.2.1), trivial⟩)) (pc' := 21) rfl (fun y6 => ?_)
      refine G_ex (fun hy6 => ?_)
      obtain rfl : y6 = (-1) := by omega
      exact T_iret zk_164_21 rfl (fun σ' h => ⟨_, rfl, (by omega), h.1, ⟨(by have e := h.2.1; omega), trivial⟩⟩)
    ·
      refine T_ld zk_164_9 rfl rfl rfl (pc' := 10) rfl ?_
      refine T_calli (K := fun y7 σ' => ((y7 = 0 ∧ (p1 < 0 ∨ 24 < p1)) ∨ (y7 = 1 ∧ 0 ≤ p1 ∧ p1 ≤ 24)) ∧ (fun σ' => IF (MK 448 568 641 642) σ σ' ∧ σ' 36 0 0 641 = n ∧ True) σ') (r := []) zk_164_10 rfl rfl rfl rfl rfl rfl (Or.inl (Or.inl rfl)) (fun σ' h => (m_124 p1 (by omega) σ' h.1.1 ).le (Nat.le_of_ble_eq_true rfl) (fun v σ2 ⟨y, h1, h2, h3, h4⟩ => ⟨y, h1, h2, h.1.tr h3 MN_sub, (h3.2 _ _ _ _ (fun q => q)).trans (h.2.1), trivial⟩)) (pc' := 13) rfl (fun y7 => ?_)
      refine G_ex (fun hy7 => ?_)
      refine T_if_ne zk_164_13 (by omega) (pc' := 16) rfl (fun h8 => ?_) (fun h9 => ?_)
      ·
        refine T_ld zk_164_22 rfl rfl rfl (pc' := 23) rfl ?_
        refine T_if_lt zk_164_23 (by omega) (pc' := 26) rfl (fun h10 => ?_) (fun h11 => ?_)
        ·
          refine T_ld zk_164_57 rfl rfl rfl (pc' := 58) rfl ?_
          refine T_op zk_164_58 rfl (X_bi (v := -6) (by decide)) (pc' := 60) rfl ?_
          refine T_calli (K := fun y12 σ' => (y12 = (-6)) ∧ (fun σ' => IF (MK 448 568 641 642) σ σ' ∧ σ' 36 0 0 641 = n ∧ True) σ') (r := []) zk_164_60 rfl rfl rfl rfl rfl rfl (Or.inr ⟨_, _, _, _, rfl, vd_35, rfl⟩) (fun σ' h => (m_123 ((-6)) (by omega) σ' h.1.1 ).le (Nat.le_of_ble_eq_true rfl) (fun v σ2 ⟨y, h1, h2, h3, h4⟩ => ⟨y, h1, h2, h.1.tr h3 sb62_9be9b53, (h3.2 _ _ _ _ (by first | exact nMT rfl | (unfold MT; omega))).trans (h.2.1), trivial⟩)) (pc' := 63) rfl (fun y12 => ?_)
          refine G_ex (fun hy12 => ?_)
          obtain rfl : y12 = (-6) := by omega
          exact T_iret zk_164_63 rfl (fun σ' h => ⟨_, rfl, (by omega), h.1, ⟨(by have e := h.2.1; omega), trivial⟩⟩)
        ·
          refine T_ld zk_164_26 rfl rfl rfl (pc' := 27) rfl ?_
          refine T_op zk_164_27 rfl (X_si (v := 200) (by decide)) (pc' := 30) rfl ?_
          refine T_icmp_gt zk_164_30 (by omega) (by omega) (pc' := 33) rfl (fun h13 => ?_) (fun h14 => ?_)
          ·
            refine T_ld zk_164_57 rfl rfl rfl (pc' := 58) rfl ?_
            refine T_op zk_164_58 rfl (X_bi (v := -6) (by decide)) (pc' := 60) rfl ?_
            refine T_calli (K := fun y15 σ' => (y15 = (-6)) ∧ (fun σ' => IF (MK 448 568 641 642) σ σ' ∧ σ' 36 0 0 641 = n ∧ True) σ') (r := []) zk_164_60 rfl rfl rfl rfl rfl rfl (Or.inr ⟨_, _, _, _, rfl, vd_35, rfl⟩) (fun σ' h => (m_123 ((-6)) (by omega) σ' h.1.1 ).le (Nat.le_of_ble_eq_true rfl) (fun v σ2 ⟨y, h1, h2, h3, h4⟩ => ⟨y, h1, h2, h.1.tr h3 sb62_9be9b53, (h3.2 _ _ _ _ (by first | exact nMT rfl | (unfold MT; omega))).trans (h.2.1), trivial⟩)) (pc' := 63) rfl (fun y15 => ?_)
            refine G_ex (fun hy15 => ?_)
            obtain rfl : y15 = (-6) := by omega
            exact T_iret zk_164_63 rfl (fun σ' h => ⟨_, rfl, (by omega), h.1, ⟨(by have e := h.2.1; omega), trivial⟩⟩)
          ·
            refine T_ld zk_164_33 rfl rfl rfl (pc' := 35) rfl ?_
            refine T_if_lt zk_164_35 (by omega) (pc' := 38) rfl (fun h16 => ?_) (fun h17 => ?_)
            ·
              refine T_ld zk_164_57 rfl rfl rfl (pc' := 58) rfl ?_
              refine T_op zk_164_58 rfl (X_bi (v := -6) (by decide)) (pc' := 60) rfl ?_
              refine T_calli (K := fun y18 σ' => (y18 = (-6)) ∧ (fun σ' => IF (MK 448 568 641 642) σ σ' ∧ σ' 36 0 0 641 = n ∧ True) σ') (r := []) zk_164_60 rfl rfl rfl rfl rfl rfl (Or.inr ⟨_, _, _, _, rfl, vd_35, rfl⟩) (fun σ' h => (m_123 ((-6)) (by omega) σ' h.1.1 ).le (Nat.le_of_ble_eq_true rfl) (fun v σ2 ⟨y, h1, h2, h3, h4⟩ => ⟨y, h1, h2, h.1.tr h3 sb62_9be9b53, (h3.2 _ _ _ _ (by first | exact nMT rfl | (unfold MT; omega))).trans (h.2.1), trivial⟩)) (pc' := 63) rfl (fun y18 => ?_)
              refine G_ex (fun hy18 => ?_)
              obtain rfl : y18 = (-6) := by omega
              exact T_iret zk_164_63 rfl (fun σ' h => ⟨_, rfl, (by omega), h.1, ⟨(by have e := h.2.1; omega), trivial⟩⟩)
            ·
              refine T_ld zk_164_38 rfl rfl rfl (pc' := 40) rfl ?_
              refine T_op zk_164_40 rfl (X_bi (v := 99) (by decide)) (pc' := 42) rfl ?_
              refine T_icmp_gt zk_164_42 (by omega) (by omega) (pc' := 45) rfl (fun h19 => ?_) (fun h20 => ?_)
              ·
                refine T_ld zk_164_57 rfl rfl rfl (pc' := 58) rfl ?_
                refine T_op zk_164_58 rfl (X_bi (v := -6) (by decide)) (pc' := 60) rfl ?_
                refine T_calli (K := fun y21 σ' => (y21 = (-6)) ∧ (fun σ' => IF (MK 448 568 641 642) σ σ' ∧ σ' 36 0 0 641 = n ∧ True) σ') (r := []) zk_164_60 rfl rfl rfl rfl rfl rfl (Or.inr ⟨_, _, _, _, rfl, vd_35, rfl⟩) (fun σ' h => (m_123 ((-6)) (by omega) σ' h.1.1 ).le (Nat.le_of_ble_eq_true rfl) (fun v σ2 ⟨y, h1, h2, h3, h4⟩ => ⟨y, h1, h2, h.1.tr h3 sb62_9be9b53, (h3.2 _ _ _ _ (by first | exact nMT rfl | (unfold MT; omega))).trans (h.2.1), trivial⟩)) (pc' := 63) rfl (fun y21 => ?_)
                refine G_ex (fun hy21 => ?_)
                obtain rfl : y21 = (-6) := by omega
                exact T_iret zk_164_63 rfl (fun σ' h => ⟨_, rfl, (by omega), h.1, ⟨(by have e := h.2.1; omega), trivial⟩⟩)
              ·
                refine T_ld zk_164_45 rfl rfl rfl (pc' := 47) rfl ?_
                refine T_if_lt zk_164_47 (by omega) (pc' := 50) rfl (fun h22 => ?_) (fun h23 => ?_)
                ·
                  refine T_ld zk_164_57 rfl rfl rfl (pc' := 58) rfl ?_
                  refine T_op zk_164_58 rfl (X_bi (v := -6) (by decide)) (pc' := 60) rfl ?_
                  refine T_calli (K := fun y24 σ' => (y24 = (-6)) ∧ (fun σ' => IF (MK 448 568 641 642) σ σ' ∧ σ' 36 0 0 641 = n ∧ True) σ') (r := []) zk_164_60 rfl rfl rfl rfl rfl rfl (Or.inr ⟨_, _, _, _, rfl, vd_35, rfl⟩) (fun σ' h => (m_123 ((-6)) (by omega) σ' h.1.1 ).le (Nat.le_of_ble_eq_true rfl) (fun v σ2 ⟨y, h1, h2, h3, h4⟩ => ⟨y, h1, h2, h.1.tr h3 sb62_9be9b53, (h3.2 _ _ _ _ (by first | exact nMT rfl | (unfold MT; omega))).trans (h.2.1), trivial⟩)) (pc' := 63) rfl (fun y24 => ?_)
                  refine G_ex (fun hy24 => ?_)
                  obtain rfl : y24 = (-6) := by omega
                  exact T_iret zk_164_63 rfl (fun σ' h => ⟨_, rfl, (by omega), h.1, ⟨(by have e := h.2.1; omega), trivial⟩⟩)
                ·
                  refine T_ld zk_164_50 rfl rfl rfl (pc' := 52) rfl ?_
                  refine T_op zk_164_52 rfl (X_bi (v := 99) (by decide)) (pc' := 54) rfl ?_
                  refine T_icmp_le zk_164_54 (by omega) (by omega) (pc' := 57) rfl (fun h25 => ?_) (fun h26 => ?_)
                  ·
                    refine T_ld zk_164_64 rfl rfl rfl (pc' := 65) rfl ?_
                    refine T_getR (t' := 36) (i' := 0) (k' := 0) zk_164_65 rfl rfl rfl vd_35 (pc' := 68) rfl ?_
                    refine T_op zk_164_68 rfl (X_si (v := 641) (by decide)) (pc' := 71) rfl ?_
                    refine G_ialdX (w := n) (ln := 646) zk_164_71 rfl rfl (vd_36 (by omega)) (by omega) (by omega) (by omega) (fun σ' h => h.2.1) (pc' := 72) rfl ?_
                    refine T_st (L' := [(0, av 35 0 0), (1, iv p0), (2, iv p1), (3, iv p2), (4, iv p3), (5, iv p4), (6, iv n)]) zk_164_72 (nL := 8) rfl rfl rfl rfl rfl (pc' := 74) rfl ?_
                    refine T_ld zk_164_74 rfl rfl rfl (pc' := 76) rfl ?_
                    refine T_op zk_164_76 rfl (X_bi (v := 12) (by decide)) (pc' := 78) rfl ?_
                    refine T_icmp_ne zk_164_78 (by omega) (by omega) (pc' := 81) rfl (fun h27 => ?_) (fun h28 => ?_)
                    ·
                      refine T_ld zk_164_88 rfl rfl rfl (pc' := 89) rfl ?_
                      refine T_getR (t' := 36) (i' := 0) (k' := 0) zk_164_89 rfl rfl rfl vd_35 (pc' := 92) rfl ?_
                      refine T_op zk_164_92 rfl (X_si (v := 448) (by decide)) (pc' := 95) rfl ?_
                      refine T_ld zk_164_95 rfl rfl rfl (pc' := 97) rfl ?_
                      refine T_op zk_164_97 rfl X_add (pc' := 98) rfl ?_
                      refine T_ld zk_164_98 rfl rfl rfl (pc' := 99) rfl ?_
                      refine G_iast (J' := (fun σ' => IF (MK 448 568 641 642) σ σ' ∧ σ' 36 0 0 641 = n ∧ σ' 36 0 0 (Int.toNat (448 + n)) = p0 ∧ True)) (ln := 646) zk_164_99 rfl rfl (vd_36 (by omega)) (by omega) (by omega) (by omega) (fun σ' h => ⟨h.1.up (by simp only [rgP] <;> omega) (by first | exact pMK rfl | (unfold MK; omega)), (up_ne (by omega)).trans (h.2.1), up_eq, trivial⟩) (pc' := 100) rfl ?_
                      refine T_ld zk_164_100 rfl rfl rfl (pc' := 101) rfl ?_
                      refine T_getR (t' := 36) (i' := 0) (k' := 0) zk_164_101 rfl rfl rfl vd_35 (pc' := 104) rfl ?_
                      refine T_op zk_164_104 rfl (X_si (v := 460) (by decide)) (pc' := 107) rfl ?_
                      refine T_ld zk_164_107 rfl rfl rfl (pc' := 109) rfl ?_
                      refine T_op zk_164_109 rfl X_add (pc' := 110) rfl ?_
                      refine T_ld zk_164_110 rfl rfl rfl (pc' := 111) rfl ?_
                      refine G_iast (J' := (fun σ' => IF (MK 448 568 641 642) σ σ' ∧ σ' 36 0 0 641 = n ∧ σ' 36 0 0 (Int.toNat (460 + n)) = p1 ∧ True)) (ln := 646) zk_164_111 rfl rfl (vd_36 (by omega)) (by omega) (by omega) (by omega) (fun σ' h => ⟨h.1.up (by simp only [rgP] <;> omega) (by first | exact pMK rfl | (unfold MK; omega)), (up_ne (by omega)).trans (h.2.1), up_eq, trivial⟩) (pc' := 112) rfl ?_
                      refine T_ld zk_164_112 rfl rfl rfl (pc' := 113) rfl ?_
                      refine T_getR (t' := 36) (i' := 0) (k' := 0) zk_164_113 rfl rfl rfl vd_35 (pc' := 116) rfl ?_
                      refine T_op zk_164_116 rfl (X_si (v := 472) (by decide)) (pc' := 119) rfl ?_
                      refine T_ld zk_164_119 rfl rfl rfl (pc' := 121) rfl ?_
                      refine T_op zk_164_121 rfl X_add (pc' := 122) rfl ?_
                      refine T_ld zk_164_122 rfl rfl rfl (pc' := 123) rfl ?_
                      refine G_iast (J' := (fun σ' => IF (MK 448 568 641 642) σ σ' ∧ σ' 36 0 0 641 = n ∧ σ' 36 0 0 (Int.toNat (472 + n)) = p2 ∧ True)) (ln := 646) zk_164_123 rfl rfl (vd_36 (by omega)) (by omega) (by omega) (by omega) (fun σ' h => ⟨h.1.up (by simp only [rgP] <;> omega) (by first | exact pMK rfl | (unfold MK; omega)), (up_ne (by omega)).trans (h.2.1), up_eq, trivial⟩) (pc' := 124) rfl ?_
                      refine T_ld zk_164_124 rfl rfl rfl (pc' := 125) rfl ?_
                      refine T_getR (t' := 36) (i' := 0) (k' := 0) zk_164_125 rfl rfl rfl vd_35 (pc' := 128) rfl ?_
                      refine T_op zk_164_128 rfl (X_si (v := 484) (by decide)) (pc' := 131) rfl ?_
                      refine T_ld zk_164_131 rfl rfl rfl (pc' := 133) rfl ?_
                      refine T_op zk_164_133 rfl X_add (pc' := 134) rfl ?_
                      refine T_ld zk_164_134 rfl rfl rfl (pc' := 136) rfl ?_
                      refine G_iast (J' := (fun σ' => IF (MK 448 568 641 642) σ σ' ∧ σ' 36 0 0 641 = n ∧ σ' 36 0 0 (Int.toNat (484 + n)) = p3 ∧ True)) (ln := 646) zk_164_136 rfl rfl (vd_36 (by omega)) (by omega) (by omega) (by omega) (fun σ' h => ⟨h.1.up (by simp only [rgP] <;> omega) (by first | exact pMK rfl | (unfold MK; omega)), (up_ne (by omega)).trans (h.2.1), up_eq, trivial⟩) (pc' := 137) rfl ?_
                      refine T_ld zk_164_137 rfl rfl rfl (pc' := 138) rfl ?_
                      refine T_getR (t' := 36) (i' := 0) (k' := 0) zk_164_138 rfl rfl rfl vd_35 (pc' := 141) rfl ?_
                      refine T_op zk_164_141 rfl (X_si (v := 496) (by decide)) (pc' := 144) rfl ?_
                      refine T_ld zk_164_144 rfl rfl rfl (pc' := 146) rfl ?_
                      refine T_op zk_164_146 rfl X_add (pc' := 147) rfl ?_
                      refine T_ld zk_164_147 rfl rfl rfl (pc' := 149) rfl ?_
                      refine G_iast (J' := (fun σ' => IF (MK 448 568 641 642) σ σ' ∧ σ' 36 0 0 641 = n ∧ σ' 36 0 0 (Int.toNat (496 + n)) = p4 ∧ True)) (ln := 646) zk_164_149 rfl rfl (vd_36 (by omega)) (by omega) (by omega) (by omega) (fun σ' h => ⟨h.1.up (by simp only [rgP] <;> omega) (by first | exact pMK rfl | (unfold MK; omega)), (up_ne (by omega)).trans (h.2.1), up_eq, trivial⟩) (pc' := 150) rfl ?_
                      refine T_op zk_164_150 rfl (X_si (v := 508) (by decide)) (pc' := 153) rfl ?_
                      refine T_st (L' := [(0, av 35 0 0), (1, iv p0), (2, iv p1), (3, iv p2), (4, iv p3), (5, iv p4), (6, iv n), (7, iv 508)]) zk_164_153 (nL := 8) rfl rfl rfl rfl rfl (pc' := 155) rfl ?_
                      refine G_know (J' := (fun σ' => IF (MK 448 568 641 642) σ σ' ∧ σ' 36 0 0 641 = n ∧ True)) (fun σ' h => ⟨h.1, h.2.1, trivial⟩) ?_
                      refine T_loop1 (fun x29 => ((600 - x29 : Int)).toNat) (fun x29 => (508 ≤ x29 ∧ x29 ≤ 568)) (fun x29 => TJ xs (fun σ' => IF (MK 448 568 641 642) σ σ' ∧ σ' 36 0 0 641 = n ∧ True) 1 164 155 [(0, av 35 0 0), (1, iv p0), (2, iv p1), (3, iv p2), (4, iv p3), (5, iv p4), (6, iv n), (7, iv x29)] [] _) ?_ 508 (by omega)
                      intro x29 hp31 ih30
                      refine T_ld zk_164_155 rfl rfl rfl (pc' := 157) rfl ?_
                      refine T_op zk_164_157 rfl (X_si (v := 556) (by decide)) (pc' := 160) rfl ?_
                      refine T_icmp_gt zk_164_160 (by omega) (by omega) (pc' := 163) rfl (fun h32 => ?_) (fun h33 => ?_)
                      ·
                        refine T_ld zk_164_180 rfl rfl rfl (pc' := 181) rfl ?_
                        refine T_getR (t' := 36) (i' := 0) (k' := 0) zk_164_181 rfl rfl rfl vd_35 (pc' := 184) rfl ?_
                        refine T_op zk_164_184 rfl (X_si (v := 641) (by decide)) (pc' := 187) rfl ?_
                        refine T_op (st' := [iv 641, av 36 0 0, iv 641, av 36 0 0]) zk_164_187 rfl rfl (pc' := 188) rfl ?_
                        refine G_ialdX (w := n) (ln := 646) zk_164_188 rfl rfl (vd_36 (by omega)) (by omega) (by omega) (by omega) (fun σ' h => h.2.1) (pc' := 189) rfl ?_
                        refine T_op (st' := [iv n, iv 641, av 36 0 0, iv n]) zk_164_189 rfl rfl (pc' := 190) rfl ?_
                        refine T_op zk_164_190 rfl X_ic (pc' := 191) rfl ?_
                        refine T_op zk_164_191 rfl X_add (pc' := 192) rfl ?_
                        refine G_iast (J' := (fun σ' => IF (MK 448 568 641 642) σ σ' ∧ σ' 36 0 0 641 = n + 1 ∧ True)) (ln := 646) zk_164_192 rfl rfl (vd_36 (by omega)) (by omega) (by omega) (by omega) (fun σ' h => ⟨h.1.up (by simp only [rgP] <;> omega) (by first | exact pMK rfl | (unfold MK; omega)), up_eq, trivial⟩) (pc' := 193) rfl ?_
                        exact T_iret zk_164_193 rfl (fun σ' h => ⟨_, rfl, (by omega), h.1, ⟨(by have e := h.2.1; omega), trivial⟩⟩)
                      ·
                        refine T_ld zk_164_163 rfl rfl rfl (pc' := 164) rfl ?_
                        refine T_getR (t' := 36) (i' := 0) (k' := 0) zk_164_164 rfl rfl rfl vd_35 (pc' := 167) rfl ?_
                        refine T_ld zk_164_167 rfl rfl rfl (pc' := 169) rfl ?_
                        refine T_ld zk_164_169 rfl rfl rfl (pc' := 171) rfl ?_
                        refine T_op zk_164_171 rfl X_add (pc' := 172) rfl ?_
                        refine T_op zk_164_172 rfl X_ic (pc' := 173) rfl ?_
                        refine G_iast (J' := (fun σ' => IF (MK 448 568 641 642) σ σ' ∧ σ' 36 0 0 641 = n ∧ σ' 36 0 0 (Int.toNat (x29 + n)) = 0 ∧ True)) (ln := 646) zk_164_173 rfl rfl (vd_36 (by omega)) (by omega) (by omega) (by omega) (fun σ' h => ⟨h.1.up (by simp only [rgP] <;> omega) (by first | exact pMK rfl | (unfold MK; omega)), (up_ne (by omega)).trans (h.2.1), up_eq, trivial⟩) (pc' := 174) rfl ?_
                        refine T_iinc (L' := [(0, av 35 0 0), (1, iv p0), (2, iv p1), (3, iv p2), (4, iv p3), (5, iv p4), (6, iv n), (7, iv (x29 + 12))]) zk_164_174 (nL := 8) rfl rfl rfl rfl (pc' := 177) rfl ?_
                        refine T_goto zk_164_177 ?_
                        refine G_know (J' := (fun σ' => IF (MK 448 568 641 642) σ σ' ∧ σ' 36 0 0 641 = n ∧ True)) (fun σ' h => ⟨h.1, h.2.1, trivial⟩) ?_
                        exact ih30 (x29 + 12) (by omega) (by omega)
                    ·
                      refine T_ld zk_164_81 rfl rfl rfl (pc' := 82) rfl ?_
                      refine T_op zk_164_82 rfl (X_bi (v := -7) (by decide)) (pc' := 84) rfl ?_
                      refine T_calli (K := fun y34 σ' => (y34 = (-7)) ∧ (fun σ' => IF (MK 448 568 641 642) σ σ' ∧ σ' 36 0 0 641 = n ∧ True) σ') (r := []) zk_164_84 rfl rfl rfl rfl rfl rfl (Or.inr ⟨_, _, _, _, rfl, vd_35, rfl⟩) (fun σ' h => (m_123 ((-7)) (by omega) σ' h.1.1 ).le (Nat.le_of_ble_eq_true rfl) (fun v σ2 ⟨y, h1, h2, h3, h4⟩ => ⟨y, h1, h2, h.1.tr h3 sb62_9be9b53, (h3.2 _ _ _ _ (by first | exact nMT rfl | (unfold MT; omega))).trans (h.2.1), trivial⟩)) (pc' := 87) rfl (fun y34 => ?_)
                      refine G_ex (fun hy34 => ?_)
                      obtain rfl : y34 = (-7) := by omega
                      exact T_iret zk_164_87 rfl (fun σ' h => ⟨_, rfl, (by omega), h.1, ⟨(by have e := h.2.1; omega), trivial⟩⟩)
                  ·
                    refine T_ld zk_164_57 rfl rfl rfl (pc' := 58) rfl ?_
                    refine T_op zk_164_58 rfl (X_bi (v := -6) (by decide)) (pc' := 60) rfl ?_
                    refine T_calli (K := fun y35 σ' => (y35 = (-6)) ∧ (fun σ' => IF (MK 448 568 641 642) σ σ' ∧ σ' 36 0 0 641 = n ∧ True) σ') (r := []) zk_164_60 rfl rfl rfl rfl rfl rfl (Or.inr ⟨_, _, _, _, rfl, vd_35, rfl⟩) (fun σ' h => (m_123 ((-6)) (by omega) σ' h.1.1 ).le (Nat.le_of_ble_eq_true rfl) (fun v σ2 ⟨y, h1, h2, h3, h4⟩ => ⟨y, h1, h2, h.1.tr h3 sb62_9be9b53, (h3.2 _ _ _ _ (by first | exact nMT rfl | (unfold MT; omega))).trans (h.2.1), trivial⟩)) (pc' := 63) rfl (fun y35 => ?_)
                    refine G_ex (fun hy35 => ?_)
                    obtain rfl : y35 = (-6) := by omega
                    exact T_iret zk_164_63 rfl (fun σ' h => ⟨_, rfl, (by omega), h.1, ⟨(by have e := h.2.1; omega), trivial⟩⟩)
      ·
        refine T_ld zk_164_16 rfl rfl rfl (pc' := 17) rfl ?_
        refine T_op zk_164_17 rfl X_ic (pc' := 18) rfl ?_
        refine T_calli (K := fun y36 σ' => (y36 = (-1)) ∧ (fun σ' => IF (MK 448 568 641 642) σ σ' ∧ σ' 36 0 0 641 = n ∧ True) σ') (r := []) zk_164_18 rfl rfl rfl rfl rfl rfl (Or.inr ⟨_, _, _, _, rfl, vd_35, rfl⟩) (fun σ' h => (m_123 ((-1)) (by omega) σ' h.1.1 ).le (Nat.le_of_ble_eq_true rfl) (fun v σ2 ⟨y, h1, h2, h3, h4⟩ => ⟨y, h1, h2, h.1.tr h3 sb62_9be9b53, (h3.2 _ _ _ _ (by first | exact nMT rfl | (unfold MT; omega))).trans (h.2.1), trivial⟩)) (pc' := 21) rfl (fun y36 => ?_)
        refine G_ex (fun hy36 => ?_)
        obtain rfl : y36 = (-1) := by omega
        exact T_iret zk_164_21 rfl (fun σ' h => ⟨_, rfl, (by omega), h.1, ⟨(by have e := h.2.1; omega), trivial⟩⟩)
/-- WModel.image -/
theorem r_184 {xs : Nat × (Nat → Int32)}  (n : Int) (hn : 0 ≤ n ∧ n ≤ 20000) (σ : ZS) (hI : Inv σ)  (s1 : σ 36 0 0 634 = n) : CT xs 2 184 [av 35 0 0] σ (fun v σ' => ∃ y, v = some (iv y) ∧ (y = n) ∧ IF MIm σ σ' ∧ ((∀ j, 0 ≤ j → j < 646 → σ' 36 0 2 j = σ 36 0 0 j) ∧ eqn (σ 44 0 0) (σ' 57 0 0) 5 ∧ eqn (σ 45 0 0) (σ' 58 0 0) 600 ∧ σ' 35 0 0 3 = 1 ∧ True)) := by
  refine G_ct (J := (fun σ' => IF MIm σ σ' ∧ (∀ j, 0 ≤ j → j < 646 → σ' 36 0 0 j = σ 36 0 0 j) ∧ True)) (L := [(0, av 35 0 0)]) (nL := 2) rfl rfl rfl ⟨IF.rf hI, (fun _ _ _ => rfl), trivial⟩ ?_
  refine T_ld zk_184_0 rfl rfl rfl (pc' := 1) rfl ?_
  refine T_ld zk_184_1 rfl rfl rfl (pc' := 2) rfl ?_
  refine T_getR (t' := 36) (i' := 0) (k' := 0) zk_184_2 rfl rfl rfl vd_35 (pc' := 5) rfl ?_
  refine T_ld zk_184_5 rfl rfl rfl (pc' := 6) rfl ?_
  refine T_getR (t' := 36) (i' := 0) (k' := 2) zk_184_6 rfl rfl rfl vd_35 (pc' := 9) rfl ?_
  refine T_callv (J' := (fun σ' => IF MIm σ σ' ∧ (∀ j, 0 ≤ j → j < 646 → σ' 36 0 0 j = σ 36 0 0 j) ∧ (∀ j, 0 ≤ j → j < 646 → σ' 36 0 2 j = σ 36 0 0 j) ∧ True)) (r := []) zk_184_9 rfl rfl rfl rfl rfl rfl (Or.inr ⟨_, _, _, _, rfl, vd_35, rfl⟩) (fun σ' h => (m_179_02 ((σ 36 0 0))  σ' h.1.1 (fun j a b => h.2.1 j (by omega) (by omega))).le (Nat.le_of_ble_eq_true rfl) (fun v σ2 ⟨h1, h3, h4⟩ => ⟨h1, h.1.tr h3 sb67_ff6faf6, fun j a b => (h3.2 _ _ _ _ (by first | exact nMV rfl | (unfold MV; omega))).trans (h.2.1 j a b), h4.1, trivial⟩)) (pc' := 12) rfl ?_
  refine T_op zk_184_12 rfl X_ic (pc' := 13) rfl ?_
  refine G_know (J' := (fun σ' => IF MIm σ σ' ∧ (∀ j, 0 ≤ j → j < 646 → σ' 36 0 0 j = σ 36 0 0 j) ∧ (∀ j, 0 ≤ j → j < 646 → σ' 36 0 2 j = σ 36 0 0 j) ∧ eqn (σ 44 0 0) (σ' 57 0 0) (Int.toNat 0) ∧ True)) (fun σ' h => ⟨h.1, h.2.1, h.2.2.1, (fun j hj => by simp at hj), trivial⟩) ?_
  refine T_st (L' := [(0, av 35 0 0), (1, iv 0)]) zk_184_13 (nL := 2) rfl rfl rfl rfl rfl (pc' := 14) rfl ?_
  refine T_loop1 (fun x2 => ((5 - x2 : Int)).toNat) (fun x2 => (0 ≤ x2 ∧ x2 ≤ 5)) (fun x2 => TJ xs (fun σ' => IF MIm σ σ' ∧ (∀ j, 0 ≤ j → j < 646 → σ' 36 0 0 j = σ 36 0 0 j) ∧ (∀ j, 0 ≤ j → j < 646 → σ' 36 0 2 j = σ 36 0 0 j) ∧ eqn (σ 44 0 0) (σ' 57 0 0) (Int.toNat x2) ∧ True) 1 184 14 [(0, av 35 0 0), (1, iv x2)] [] _) ?_ 0 (by omega)
  intro x2 hp4 ih3
  have hr44 := hI 44 0 0 (Int.toNat x2) vd_44
  simp only [rgP] at hr44
  refine T_ld zk_184_14 rfl rfl rfl (pc' := 15) rfl ?_
  refine T_op zk_184_15 rfl X_ic (pc' := 16) rfl ?_
  refine T_icmp_ge zk_184_16 (by omega) (by omega) (pc' := 19) rfl (fun h5 => ?_) (fun h6 => ?_)
  ·
    refine T_op zk_184_49 rfl X_ic (pc' := 50) rfl ?_
    refine G_know (J' := (fun σ' => IF MIm σ σ' ∧ (∀ j, 0 ≤ j → j < 646 → σ' 36 0 0 j = σ 36 0 0 j) ∧ (∀ j, 0 ≤ j → j < 646 → σ' 36 0 2 j = σ 36 0 0 j) ∧ eqn (σ 44 0 0) (σ' 57 0 0) (Int.toNat x2) ∧ eqn (σ 45 0 0) (σ' 58 0 0) (Int.toNat 0) ∧ True)) (fun σ' h => ⟨h.1, h.2.1, h.2.2.1, h.2.2.2.1, (fun j hj => by simp at hj), trivial⟩) ?_
    refine T_st (L' := [(0, av 35 0 0), (1, iv 0)]) zk_184_50 (nL := 2) rfl rfl rfl rfl rfl (pc' := 51) rfl ?_
    refine G_know (J' := (fun σ' => IF MIm σ σ' ∧ (∀ j, 0 ≤ j → j < 646 → σ' 36 0 0 j = σ 36 0 0 j) ∧ (∀ j, 0 ≤ j → j < 646 → σ' 36 0 2 j = σ 36 0 0 j) ∧ eqn (σ 44 0 0) (σ' 57 0 0) 5 ∧ eqn (σ 45 0 0) (σ' 58 0 0) (Int.toNat 0) ∧ True)) (fun σ' h => ⟨h.1, h.2.1, h.2.2.1, (eqn_le (h.2.2.2.1) (by omega)), h.2.2.2.2.1, trivial⟩) ?_
    refine T_loop1 (fun x7 => ((600 - x7 : Int)).toNat) (fun x7 => (0 ≤ x7 ∧ x7 ≤ 600)) (fun x7 => TJ xs (fun σ' => IF MIm σ σ' ∧ (∀ j, 0 ≤ j → j < 646 → σ' 36 0 0 j = σ 36 0 0 j) ∧ (∀ j, 0 ≤ j → j < 646 → σ' 36 0 2 j = σ 36 0 0 j) ∧ eqn (σ 44 0 0) (σ' 57 0 0) 5 ∧ eqn (σ 45 0 0) (σ' 58 0 0) (Int.toNat x7) ∧ True) 1 184 51 [(0, av 35 0 0), (1, iv x7)] [] _) ?_ 0 (by omega)
    intro x7 hp9 ih8
    have hr45 := hI 45 0 0 (Int.toNat x7) vd_45
    simp only [rgP] at hr45
    refine T_ld zk_184_51 rfl rfl rfl (pc' := 52) rfl ?_
    refine T_op zk_184_52 rfl (X_si (v := 600) (by decide)) (pc' := 55) rfl ?_
    refine T_icmp_ge zk_184_55 (by omega) (by omega) (pc' := 58) rfl (fun h10 => ?_) (fun h11 => ?_)
    ·
      refine T_op zk_184_76 rfl X_ic (pc' := 77) rfl ?_
      refine T_st (L' := [(0, av 35 0 0), (1, iv 0)]) zk_184_77 (nL := 2) rfl rfl rfl rfl rfl (pc' := 78) rfl ?_
      refine G_know (J' := (fun σ' => IF MIm σ σ' ∧ (∀ j, 0 ≤ j → j < 646 → σ' 36 0 0 j = σ 36 0 0 j) ∧ (∀ j, 0 ≤ j → j < 646 → σ' 36 0 2 j = σ 36 0 0 j) ∧ eqn (σ 44 0 0) (σ' 57 0 0) 5 ∧ eqn (σ 45 0 0) (σ' 58 0 0) 600 ∧ True)) (fun σ' h => ⟨h.1, h.2.1, h.2.2.1, h.2.2.2.1, (eqn_le (h.2.2.2.2.1) (by omega)), trivial⟩) ?_
      refine T_loop1 (fun x12 => ((250 - x12 : Int)).toNat) (fun x12 => (0 ≤ x12 ∧ x12 ≤ 250)) (fun x12 => TJ xs (fun σ' => IF MIm σ σ' ∧ (∀ j, 0 ≤ j → j < 646 → σ' 36 0 0 j = σ 36 0 0 j) ∧ (∀ j, 0 ≤ j → j < 646 → σ' 36 0 2 j = σ 36 0 0 j) ∧ eqn (σ 44 0 0) (σ' 57 0 0) 5 ∧ eqn (σ 45 0 0) (σ' 58 0 0) 600 ∧ True) 1 184 78 [(0, av 35 0 0), (1, iv x12)] [] _) ?_ 0 (by omega)
      intro x12 hp14 ih13
      refine T_ld zk_184_78 rfl rfl rfl (pc' := 79) rfl ?_
      refine T_op zk_184_79 rfl (X_si (v := 250) (by decide)) (pc' := 82) rfl ?_
      refine T_icmp_ge zk_184_82 (by omega) (by omega) (pc' := 85) rfl (fun h15 => ?_) (fun h16 => ?_)
      ·
        refine T_ld zk_184_127 rfl rfl rfl (pc' := 128) rfl ?_
        refine T_op zk_184_128 rfl X_ic (pc' := 129) rfl ?_
        refine T_putz (J' := (fun σ' => IF MIm σ σ' ∧ (∀ j, 0 ≤ j → j < 646 → σ' 36 0 0 j = σ 36 0 0 j) ∧ (∀ j, 0 ≤ j → j < 646 → σ' 36 0 2 j = σ 36 0 0 j) ∧ eqn (σ 44 0 0) (σ' 57 0 0) 5 ∧ eqn (σ 45 0 0) (σ' 58 0 0) 600 ∧ σ' 35 0 0 3 = 1 ∧ True)) zk_184_129 rfl rfl (by omega) vd_35 (fun σ' h => ⟨h.1.up (by simp only [rgP] <;> omega) (by first | exact pMIm rfl | (unfold MIm; omega)), fun j a b => (up_ne (by omega)).trans (h.2.1 j a b), fun j a b => (up_ne (by omega)).trans (h.2.2.1 j a b), gf_mk (fun z => eqn (σ 44 0 0) z 5) (up_row (by omega)) (h.2.2.2.1), gf_mk (fun z => eqn (σ 45 0 0) z 600) (up_row (by omega)) (h.2.2.2.2.1), up_eq, trivial⟩) (pc' := 132) rfl ?_
        refine T_ld zk_184_132 rfl rfl rfl (pc' := 133) rfl ?_
        refine T_getR (t' := 36) (i' := 0) (k' := 0) zk_184_133 rfl rfl rfl vd_35 (pc' := 136) rfl ?_
        refine T_op zk_184_136 rfl (X_si (v := 634) (by decide)) (pc' := 139) rfl ?_
        refine G_ialdX (w := σ 36 0 0 634) (ln := 646) zk_184_139 rfl rfl (vd_36 (by omega)) (by omega) (by omega) (by omega) (fun σ' h => h.2.1 _ (by omega) (by omega)) (pc' := 140) rfl ?_
        exact T_iret zk_184_140 rfl (fun σ' h => ⟨_, rfl, (by omega), h.1, ⟨h.2.2.1, h.2.2.2.1, h.2.2.2.2.1, h.2.2.2.2.2.1, trivial⟩⟩)
      ·
        refine T_ld zk_184_85 rfl rfl rfl (pc' := 86) rfl ?_
        refine T_getR (t' := 59) (i' := 0) (k' := 0) zk_184_86 rfl rfl rfl vd_35 (pc' := 89) rfl ?_
        refine T_ld zk_184_89 rfl rfl rfl (pc' := 90) rfl ?_
        refine T_ld zk_184_90 rfl rfl rfl (pc' := 91) rfl ?_
        refine T_getR (t' := 46) (i' := 0) (k' := 0) zk_184_91 rfl rfl rfl vd_35 (pc' := 94) rfl ?_
        refine T_ld zk_184_94 rfl rfl rfl (pc' := 95) rfl ?_
        refine G_iald (lo := -2147483648) (hi := 2147483647) (ln := 300) zk_184_95 rfl rfl vd_46 (by omega) (by omega) (by omega) (fun σ' h => h.1.1) (fun _ h => (by have q := h.1; omega)) (pc' := 96) rfl (fun y17 hy17 hy17' => ?_)
        refine G_iast (J' := (fun σ' => IF MIm σ σ' ∧ (∀ j, 0 ≤ j → j < 646 → σ' 36 0 0 j = σ 36 0 0 j) ∧ (∀ j, 0 ≤ j → j < 646 → σ' 36 0 2 j = σ 36 0 0 j) ∧ eqn (σ 44 0 0) (σ' 57 0 0) 5 ∧ eqn (σ 45 0 0) (σ' 58 0 0) 600 ∧ True)) (ln := 250) zk_184_96 rfl rfl vd_59 (by omega) (by omega) (by omega) (fun σ' h => ⟨h.1.up ⟨by omega, trivial⟩ (by first | exact pMIm rfl | (unfold MIm; omega)), fun j a b => (up_ne (by omega)).trans (h.2.1 j a b), fun j a b => (up_ne (by omega)).trans (h.2.2.1 j a b), gf_mk (fun z => eqn (σ 44 0 0) z 5) (up_row (by omega)) (h.2.2.2.1), gf_mk (fun z => eqn (σ 45 0 0) z 600) (up_row (by omega)) (h.2.2.2.2.1), trivial⟩) (pc' := 97) rfl ?_
        refine T_ld zk_184_97 rfl rfl rfl (pc' := 98) rfl ?_
        refine T_getR (t' := 60) (i' := 0) (k' := 0) zk_184_98 rfl rfl rfl vd_35 (pc' := 101) rfl ?_
        refine T_ld zk_184_101 rfl rfl rfl (pc' := 102) rfl ?_
        refine T_ld zk_184_102 rfl rfl rfl (pc' := 103) rfl ?_
        refine T_getR (t' := 47) (i' := 0) (k' := 0) zk_184_103 rfl rfl rfl vd_35 (pc' := 106) rfl ?_
        refine T_ld zk_184_106 rfl rfl rfl (pc' := 107) rfl ?_
        refine G_iald (lo := -2147483648) (hi := 2147483647) (ln := 300) zk_184_107 rfl rfl vd_47 (by omega) (by omega) (by omega) (fun σ' h => h.1.1) (fun _ h => (by have q := h.1; omega)) (pc' := 108) rfl (fun y18 hy18 hy18' => ?_)
        refine G_iast (J' := (fun σ' => IF MIm σ σ' ∧ (∀ j, 0 ≤ j → j < 646 → σ' 36 0 0 j = σ 36 0 0 j) ∧ (∀ j, 0 ≤ j → j < 646 → σ' 36 0 2 j = σ 36 0 0 j) ∧ eqn (σ 44 0 0) (σ' 57 0 0) 5 ∧ eqn (σ 45 0 0) (σ' 58 0 0) 600 ∧ True)) (ln := 250) zk_184_108 rfl rfl vd_60 (by omega) (by omega) (by omega) (fun σ' h => ⟨h.1.up ⟨by omega, trivial⟩ (by first | exact pMIm rfl | (unfold MIm; omega)), fun j a b => (up_ne (by omega)).trans (h.2.1 j a b), fun j a b => (up_ne (by omega)).trans (h.2.2.1 j a b), gf_mk (fun z => eqn (σ 44 0 0) z 5) (up_row (by omega)) (h.2.2.2.1), gf_mk (fun z => eqn (σ 45 0 0) z 600) (up_row (by omega)) (h.2.2.2.2.1), trivial⟩) (pc' := 109) rfl ?_
        refine T_ld zk_184_109 rfl rfl rfl (pc' := 110) rfl ?_
        refine T_getR (t' := 61) (i' := 0) (k' := 0) zk_184_110 rfl rfl rfl vd_35 (pc' := 113) rfl ?_
        refine T_ld zk_184_113 rfl rfl rfl (pc' := 114) rfl ?_
        refine T_ld zk_184_114 rfl rfl rfl (pc' := 115) rfl ?_
        refine T_getR (t' := 48) (i' := 0) (k' := 0) zk_184_115 rfl rfl rfl vd_35 (pc' := 118) rfl ?_
        refine T_ld zk_184_118 rfl rfl rfl (pc' := 119) rfl ?_
        refine G_iald (lo := -2147483648) (hi := 2147483647) (ln := 300) zk_184_119 rfl rfl vd_48 (by omega) (by omega) (by omega) (fun σ' h => h.1.1) (fun _ h => (by have q := h.1; omega)) (pc' := 120) rfl (fun y19 hy19 hy19' => ?_)
        refine G_iast (J' := (fun σ' => IF MIm σ σ' ∧ (∀ j, 0 ≤ j → j < 646 → σ' 36 0 0 j = σ 36 0 0 j) ∧ (∀ j, 0 ≤ j → j < 646 → σ' 36 0 2 j = σ 36 0 0 j) ∧ eqn (σ 44 0 0) (σ' 57 0 0) 5 ∧ eqn (σ 45 0 0) (σ' 58 0 0) 600 ∧ True)) (ln := 250) zk_184_120 rfl rfl vd_61 (by omega) (by omega) (by omega) (fun σ' h => ⟨h.1.up ⟨by omega, trivial⟩ (by first | exact pMIm rfl | (unfold MIm; omega)), fun j a b => (up_ne (by omega)).trans (h.2.1 j a b), fun j a b => (up_ne (by omega)).trans (h.2.2.1 j a b), gf_mk (fun z => eqn (σ 44 0 0) z 5) (up_row (by omega)) (h.2.2.2.1), gf_mk (fun z => eqn (σ 45 0 0) z 600) (up_row (by omega)) (h.2.2.2.2.1), trivial⟩) (pc' := 121) rfl ?_
        refine T_iinc (L' := [(0, av 35 0 0), (1, iv (x12 + 1))]) zk_184_121 (nL := 2) rfl rfl rfl rfl (pc' := 124) rfl ?_
        refine T_goto zk_184_124 ?_
        exact ih13 (x12 + 1) (by omega) (by omega)
    ·
      refine T_ld zk_184_58 rfl rfl rfl (pc' := 59) rfl ?_
      refine T_getR (t' := 58) (i' := 0) (k' := 0) zk_184_59 rfl rfl rfl vd_35 (pc' := 62) rfl ?_
      refine T_ld zk_184_62 rfl rfl rfl (pc' := 63) rfl ?_
      refine T_ld zk_184_63 rfl rfl rfl (pc' := 64) rfl ?_
      refine T_getR (t' := 45) (i' := 0) (k' := 0) zk_184_64 rfl rfl rfl vd_35 (pc' := 67) rfl ?_
      refine T_ld zk_184_67 rfl rfl rfl (pc' := 68) rfl ?_
      refine G_ialdX (w := σ 45 0 0 (Int.toNat x7)) (ln := 720) zk_184_68 rfl rfl vd_45 (by omega) (by omega) (by omega) (fun σ' h => h.1.2 _ _ _ _ (by first | exact nMIm rfl | (unfold MIm; omega))) (pc' := 69) rfl ?_
      refine G_iast (J' := (fun σ' => IF MIm σ σ' ∧ (∀ j, 0 ≤ j → j < 646 → σ' 36 0 0 j = σ 36 0 0 j) ∧ (∀ j, 0 ≤ j → j < 646 → σ' 36 0 2 j = σ 36 0 0 j) ∧ eqn (σ 44 0 0) (σ' 57 0 0) 5 ∧ eqn (σ 45 0 0) (σ' 58 0 0) (Int.toNat (x7 + 1)) ∧ True)) (ln := 600) zk_184_69 rfl rfl vd_58 (by omega) (by omega) (by omega) (fun σ' h => ⟨h.1.up (by simp only [rgP] <;> omega) (by first | exact pMIm rfl | (unfold MIm; omega)), fun j a b => (up_ne (by omega)).trans (h.2.1 j a b), fun j a b => (up_ne (by omega)).trans (h.2.2.1 j a b), gf_mk (fun z => eqn (σ 44 0 0) z 5) (up_row (by omega)) (h.2.2.2.1), eqn_push (h.2.2.2.2.1) (by omega) (by omega) rfl, trivial⟩) (pc' := 70) rfl ?_
      refine T_iinc (L' := [(0, av 35 0 0), (1, iv (x7 + 1))]) zk_184_70 (nL := 2) rfl rfl rfl rfl (pc' := 73) rfl ?_
      refine T_goto zk_184_73 ?_
      exact ih8 (x7 + 1) (by omega) (by omega)
  ·
    refine T_ld zk_184_19 rfl rfl rfl (pc' := 20) rfl ?_
    refine T_getR (t' := 56) (i' := 0) (k' := 0) zk_184_20 rfl rfl rfl vd_35 (pc' := 23) rfl ?_
    refine T_ld zk_184_23 rfl rfl rfl (pc' := 24) rfl ?_
    refine T_ld zk_184_24 rfl rfl rfl (pc' := 25) rfl ?_
    refine T_getR (t' := 43) (i' := 0) (k' := 0) zk_184_25 rfl rfl rfl vd_35 (pc' := 28) rfl ?_
    refine T_ld zk_184_28 rfl rfl rfl (pc' := 29) rfl ?_
    refine G_iald (lo := -2147483648) (hi := 2147483647) (ln := 6) zk_184_29 rfl rfl vd_43 (by omega) (by omega) (by omega) (fun σ' h => h.1.1) (fun _ h => (by have q := h.1; omega)) (pc' := 30) rfl (fun y20 hy20 hy20' => ?_)
    refine G_iast (J' := (fun σ' => IF MIm σ σ' ∧ (∀ j, 0 ≤ j → j < 646 → σ' 36 0 0 j = σ 36 0 0 j) ∧ (∀ j, 0 ≤ j → j < 646 → σ' 36 0 2 j = σ 36 0 0 j) ∧ eqn (σ 44 0 0) (σ' 57 0 0) (Int.toNat x2) ∧ True)) (ln := 5) zk_184_30 rfl rfl vd_56 (by omega) (by omega) (by omega) (fun σ' h => ⟨h.1.up ⟨by omega, trivial⟩ (by first | exact pMIm rfl | (unfold MIm; omega)), fun j a b => (up_ne (by omega)).trans (h.2.1 j a b), fun j a b => (up_ne (by omega)).trans (h.2.2.1 j a b), gf_mk (fun z => eqn (σ 44 0 0) z (Int.toNat x2)) (up_row (by omega)) (h.2.2.2.1), trivial⟩) (pc' := 31) rfl ?_
    refine T_ld zk_184_31 rfl rfl rfl (pc' := 32) rfl ?_
    refine T_getR (t' := 57) (i' := 0) (k' := 0) zk_184_32 rfl rfl rfl vd_35 (pc' := 35) rfl ?_
    refine T_ld zk_184_35 rfl rfl rfl (pc' := 36) rfl ?_
    refine T_ld zk_184_36 rfl rfl rfl (pc' := 37) rfl ?_
    refine T_getR (t' := 44) (i' := 0) (k' := 0) zk_184_37 rfl rfl rfl vd_35 (pc' := 40) rfl ?_
    refine T_ld zk_184_40 rfl rfl rfl (pc' := 41) rfl ?_
    refine G_ialdX (w := σ 44 0 0 (Int.toNat x2)) (ln := 6) zk_184_41 rfl rfl vd_44 (by omega) (by omega) (by omega) (fun σ' h => h.1.2 _ _ _ _ (by first | exact nMIm rfl | (unfold MIm; omega))) (pc' := 42) rfl ?_
    refine G_iast (J' := (fun σ' => IF MIm σ σ' ∧ (∀ j, 0 ≤ j → j < 646 → σ' 36 0 0 j = σ 36 0 0 j) ∧ (∀ j, 0 ≤ j → j < 646 → σ' 36 0 2 j = σ 36 0 0 j) ∧ eqn (σ 44 0 0) (σ' 57 0 0) (Int.toNat (x2 + 1)) ∧ True)) (ln := 5) zk_184_42 rfl rfl vd_57 (by omega) (by omega) (by omega) (fun σ' h => ⟨h.1.up (by simp only [rgP] <;> omega) (by first | exact pMIm rfl | (unfold MIm; omega)), fun j a b => (up_ne (by omega)).trans (h.2.1 j a b), fun j a b => (up_ne (by omega)).trans (h.2.2.1 j a b), eqn_push (h.2.2.2.1) (by omega) (by omega) rfl, trivial⟩) (pc' := 43) rfl ?_
    refine T_iinc (L' := [(0, av 35 0 0), (1, iv (x2 + 1))]) zk_184_43 (nL := 2) rfl rfl rfl rfl (pc' := 46) rfl ?_
    refine T_goto zk_184_46 ?_
    exact ih3 (x2 + 1) (by omega) (by omega)
