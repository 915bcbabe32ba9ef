/-- WModel.boat -/
theorem r_168 {xs : Nat × (Nat → Int32)} (p0 : Int) (p1 : Int) (p2 : Int) (p3 : Int) (p4 : Int) (n : Int) (hp0 : -2147483648 ≤ p0 ∧ p0 ≤ 2147483647) (hp1 : -2147483648 ≤ p1 ∧ p1 ≤ 2147483647) (hp2 : -2147483648 ≤ p2 ∧ p2 ≤ 2147483647) (hp3 : -2147483648 ≤ p3 ∧ p3 ≤ 2147483647) (hp4 : -2147483648 ≤ p4 ∧ p4 ≤ 2147483647) (hn : 0 ≤ n ∧ n ≤ 6) (σ : ZS) (hI : Inv σ)  (s1 : σ 36 0 0 642 = n) : CT xs 2 168 [av 35 0 0, iv p0, iv p1, iv p2, iv p3, iv p4] σ (fun v σ' => ∃ y, v = some (iv y) ∧ ((y = -1 ∧ (¬ (0 ≤ p0 ∧ p0 ≤ 24))) ∨ (y = -6 ∧ ¬ (¬ (0 ≤ p0 ∧ p0 ≤ 24)) ∧ (¬ (1 ≤ p1 ∧ p1 ≤ 60) ∨ ¬ (1 ≤ p2 ∧ p2 ≤ 99) ∨ ¬ (1 ≤ p3 ∧ p3 ≤ 9) ∨ ¬ (0 ≤ p4 ∧ p4 ≤ 9))) ∨ (y = -7 ∧ ¬ (¬ (0 ≤ p0 ∧ p0 ≤ 24)) ∧ ¬ (¬ (1 ≤ p1 ∧ p1 ≤ 60) ∨ ¬ (1 ≤ p2 ∧ p2 ≤ 99) ∨ ¬ (1 ≤ p3 ∧ p3 ≤ 9) ∨ ¬ (0 ≤ p4 ∧ p4 ≤ 9)) ∧ (6 ≤ n)) ∨ (y = n ∧ ¬ (¬ (0 ≤ p0 ∧ p0 ≤ 24)) ∧ ¬ (¬ (1 ≤ p1 ∧ p1 ≤ 60) ∨ ¬ (1 ≤ p2 ∧ p2 ≤ 99) ∨ ¬ (1 ≤ p3 ∧ p3 ≤ 9) ∨ ¬ (0 ≤ p4 ∧ p4 ≤ 9)) ∧ ¬ (6 ≤ n))) ∧ IF (MK 568 628 642 643) σ σ' ∧ (((y < 0 → σ' 36 0 0 642 = n) ∧ (0 ≤ y → σ' 36 0 0 642 = n + 1)) ∧ True)) := by
  refine G_ct (J := (fun σ' => IF (MK 568 628 642 643) σ σ' ∧ σ' 36 0 0 642 = n ∧ True)) (L := [(0, av 35 0 0), (1, iv p0), (2, iv p1), (3, iv p2), (4, iv p3), (5, iv p4)]) (nL := 8) rfl rfl rfl ⟨IF.rf hI, s1, trivial⟩ ?_
  refine T_ld zk_168_0 rfl rfl rfl (pc' := 1) rfl ?_
  refine T_calli (K := fun y1 σ' => ((y1 = 0 ∧ (p0 < 0 ∨ 24 < p0)) ∨ (y1 = 1 ∧ 0 ≤ p0 ∧ p0 ≤ 24)) ∧ (fun σ' => IF (MK 568 628 642 643) σ σ' ∧ σ' 36 0 0 642 = n ∧ True) σ') (r := []) zk_168_1 rfl rfl rfl rfl rfl rfl (Or.inl (Or.inl rfl)) (fun σ' h => (m_124 p0 (by omega) σ' h.1.1 ).le (Nat.le_of_ble_eq_true rfl) (fun v σ2 ⟨y, h1, h2, h3, h4⟩ => ⟨y, h1, h2, h.1.tr h3 MN_sub, (h3.2 _ _ _ _ (fun q => q)).trans (h.2.1), trivial⟩)) (pc' := 4) rfl (fun y1 => ?_)
  refine G_ex (fun hy1 => ?_)
  refine T_if_ne zk_168_4 (by omega) (pc' := 7) rfl (fun h2 => ?_) (fun h3 => ?_)
  ·
    refine T_ld zk_168_13 rfl rfl rfl (pc' := 14) rfl ?_
    refine T_op zk_168_14 rfl X_ic (pc' := 15) rfl ?_
    refine T_icmp_lt zk_168_15 (by omega) (by omega) (pc' := 18) rfl (fun h4 => ?_) (fun h5 => ?_)
    ·
      refine T_ld zk_168_60 rfl rfl rfl (pc' := 61) rfl ?_
      refine T_op zk_168_61 rfl (X_bi (v := -6) (by decide)) (pc' := 63) rfl ?_
      refine T_calli (K := fun y6 σ' => (y6 = (-6)) ∧ (fun σ' => IF (MK 568 628 642 643) σ σ' ∧ σ' 36 0 0 642 = n ∧ True) σ') (r := []) zk_168_63 rfl rfl rfl rfl rfl rfl (Or.inr ⟨_, _, _, _, rfl, vd_35, rfl⟩) (fun σ' h => (m_123 ((-6)) (by omega) σ' h.1.1 ).le (Nat.le_of_ble_eq_true rfl) (fun v σ2 ⟨y, h1, h2, h3, h4⟩ => ⟨y, h1, h2, h.1.tr h3 sb62_750be88, (h3.2 _ _ _ _ (by first | exact nMT rfl | (unfold MT; omega))).trans (h.2.1), trivial⟩)) (pc' := 66) rfl (fun y6 => ?_)
      refine G_ex (fun hy6 => ?_)
      obtain rfl : y6 = (-6) := by omega
      exact T_iret zk_168_66 rfl (fun σ' h => ⟨_, rfl, (by omega), h.1, ⟨(by have e := h.2.1; omega), trivial⟩⟩)
    ·
      refine T_ld zk_168_18 rfl rfl rfl (pc' := 19) rfl ?_
      refine T_op zk_168_19 rfl (X_bi (v := 60) (by decide)) (pc' := 21) rfl ?_
      refine T_icmp_gt zk_168_21 (by omega) (by omega) (pc' := 24) rfl (fun h7 => ?_) (fun h8 => ?_)
      ·
        refine T_ld zk_168_60 rfl rfl rfl (pc' := 61) rfl ?_
        refine T_op zk_168_61 rfl (X_bi (v := -6) (by decide)) (pc' := 63) rfl ?_
        refine T_calli (K := fun y9 σ' => (y9 = (-6)) ∧ (fun σ' => IF (MK 568 628 642 643) σ σ' ∧ σ' 36 0 0 642 = n ∧ True) σ') (r := []) zk_168_63 rfl rfl rfl rfl rfl rfl (Or.inr ⟨_, _, _, _, rfl, vd_35, rfl⟩) (fun σ' h => (m_123 ((-6)) (by omega) σ' h.1.1 ).le (Nat.le_of_ble_eq_true rfl) (fun v σ2 ⟨y, h1, h2, h3, h4⟩ => ⟨y, h1, h2, h.1.tr h3 sb62_750be88, (h3.2 _ _ _ _ (by first | exact nMT rfl | (unfold MT; omega))).trans (h.2.1), trivial⟩)) (pc' := 66) rfl (fun y9 => ?_)
        refine G_ex (fun hy9 => ?_)
        obtain rfl : y9 = (-6) := by omega
        exact T_iret zk_168_66 rfl (fun σ' h => ⟨_, rfl, (by omega), h.1, ⟨(by have e := h.2.1; omega), trivial⟩⟩)
      ·
        refine T_ld zk_168_24 rfl rfl rfl (pc' := 25) rfl ?_
        refine T_op zk_168_25 rfl X_ic (pc' := 26) rfl ?_
        refine T_icmp_lt zk_168_26 (by omega) (by omega) (pc' := 29) rfl (fun h10 => ?_) (fun h11 => ?_)
        ·
          refine T_ld zk_168_60 rfl rfl rfl (pc' := 61) rfl ?_
          refine T_op zk_168_61 rfl (X_bi (v := -6) (by decide)) (pc' := 63) rfl ?_
          refine T_calli (K := fun y12 σ' => (y12 = (-6)) ∧ (fun σ' => IF (MK 568 628 642 643) σ σ' ∧ σ' 36 0 0 642 = n ∧ True) σ') (r := []) zk_168_63 rfl rfl rfl rfl rfl rfl (Or.inr ⟨_, _, _, _, rfl, vd_35, rfl⟩) (fun σ' h => (m_123 ((-6)) (by omega) σ' h.1.1 ).le (Nat.le_of_ble_eq_true rfl) (fun v σ2 ⟨y, h1, h2, h3, h4⟩ => ⟨y, h1, h2, h.1.tr h3 sb62_750be88, (h3.2 _ _ _ _ (by first | exact nMT rfl | (unfold MT; omega))).trans (h.2.1), trivial⟩)) (pc' := 66) rfl (fun y12 => ?_)
          refine G_ex (fun hy12 => ?_)
          obtain rfl : y12 = (-6) := by omega
          exact T_iret zk_168_66 rfl (fun σ' h => ⟨_, rfl, (by omega), h.1, ⟨(by have e := h.2.1; omega), trivial⟩⟩)
        ·
          refine T_ld zk_168_29 rfl rfl rfl (pc' := 30) rfl ?_
          refine T_op zk_168_30 rfl (X_bi (v := 99) (by decide)) (pc' := 32) rfl ?_
          refine T_icmp_gt zk_168_32 (by omega) (by omega) (pc' := 35) rfl (fun h13 => ?_) (fun h14 => ?_)
          ·
            refine T_ld zk_168_60 rfl rfl rfl (pc' := 61) rfl ?_
            refine T_op zk_168_61 rfl (X_bi (v := -6) (by decide)) (pc' := 63) rfl ?_
            refine T_calli (K := fun y15 σ' => (y15 = (-6)) ∧ (fun σ' => IF (MK 568 628 642 643) σ σ' ∧ σ' 36 0 0 642 = n ∧ True) σ') (r := []) zk_168_63 rfl rfl rfl rfl rfl rfl (Or.inr ⟨_, _, _, _, rfl, vd_35, rfl⟩) (fun σ' h => (m_123 ((-6)) (by omega) σ' h.1.1 ).le (Nat.le_of_ble_eq_true rfl) (fun v σ2 ⟨y, h1, h2, h3, h4⟩ => ⟨y, h1, h2, h.1.tr h3 sb62_750be88, (h3.2 _ _ _ _ (by first | exact nMT rfl | (unfold MT; omega))).trans (h.2.1), trivial⟩)) (pc' := 66) rfl (fun y15 => ?_)
            refine G_ex (fun hy15 => ?_)
            obtain rfl : y15 = (-6) := by omega
            exact T_iret zk_168_66 rfl (fun σ' h => ⟨_, rfl, (by omega), h.1, ⟨(by have e := h.2.1; omega), trivial⟩⟩)
          ·
            refine T_ld zk_168_35 rfl rfl rfl (pc' := 37) rfl ?_
            refine T_op zk_168_37 rfl X_ic (pc' := 38) rfl ?_
            refine T_icmp_lt zk_168_38 (by omega) (by omega) (pc' := 41) rfl (fun h16 => ?_) (fun h17 => ?_)
            ·
              refine T_ld zk_168_60 rfl rfl rfl (pc' := 61) rfl ?_
              refine T_op zk_168_61 rfl (X_bi (v := -6) (by decide)) (pc' := 63) rfl ?_
              refine T_calli (K := fun y18 σ' => (y18 = (-6)) ∧ (fun σ' => IF (MK 568 628 642 643) σ σ' ∧ σ' 36 0 0 642 = n ∧ True) σ') (r := []) zk_168_63 rfl rfl rfl rfl rfl rfl (Or.inr ⟨_, _, _, _, rfl, vd_35, rfl⟩) (fun σ' h => (m_123 ((-6)) (by omega) σ' h.1.1 ).le (Nat.le_of_ble_eq_true rfl) (fun v σ2 ⟨y, h1, h2, h3, h4⟩ => ⟨y, h1, h2, h.1.tr h3 sb62_750be88, (h3.2 _ _ _ _ (by first | exact nMT rfl | (unfold MT; omega))).trans (h.2.1), trivial⟩)) (pc' := 66) rfl (fun y18 => ?_)
              refine G_ex (fun hy18 => ?_)
              obtain rfl : y18 = (-6) := by omega
              exact T_iret zk_168_66 rfl (fun σ' h => ⟨_, rfl, (by omega), h.1, ⟨(by have e := h.2.1; omega), trivial⟩⟩)
            ·
              refine T_ld zk_168_41 rfl rfl rfl (pc' := 43) rfl ?_
              refine T_op zk_168_43 rfl (X_bi (v := 9) (by decide)) (pc' := 45) rfl ?_
              refine T_icmp_gt zk_168_45 (by omega) (by omega) (pc' := 48) rfl (fun h19 => ?_) (fun h20 => ?_)
              ·
                refine T_ld zk_168_60 rfl rfl rfl (pc' := 61) rfl ?_
                refine T_op zk_168_61 rfl (X_bi (v := -6) (by decide)) (pc' := 63) rfl ?_
                refine T_calli (K := fun y21 σ' => (y21 = (-6)) ∧ (fun σ' => IF (MK 568 628 642 643) σ σ' ∧ σ' 36 0 0 642 = n ∧ True) σ') (r := []) zk_168_63 rfl rfl rfl rfl rfl rfl (Or.inr ⟨_, _, _, _, rfl, vd_35, rfl⟩) (fun σ' h => (m_123 ((-6)) (by omega) σ' h.1.1 ).le (Nat.le_of_ble_eq_true rfl) (fun v σ2 ⟨y, h1, h2, h3, h4⟩ => ⟨y, h1, h2, h.1.tr h3 sb62_750be88, (h3.2 _ _ _ _ (by first | exact nMT rfl | (unfold MT; omega))).trans (h.2.1), trivial⟩)) (pc' := 66) rfl (fun y21 => ?_)
                refine G_ex (fun hy21 => ?_)
                obtain rfl : y21 = (-6) := by omega
                exact T_iret zk_168_66 rfl (fun σ' h => ⟨_, rfl, (by omega), h.1, ⟨(by have e := h.2.1; omega), trivial⟩⟩)
              ·
                refine T_ld zk_168_48 rfl rfl rfl (pc' := 50) rfl ?_
                refine T_if_lt zk_168_50 (by omega) (pc' := 53) rfl (fun h22 => ?_) (fun h23 => ?_)
                ·
                  refine T_ld zk_168_60 rfl rfl rfl (pc' := 61) rfl ?_
                  refine T_op zk_168_61 rfl (X_bi (v := -6) (by decide)) (pc' := 63) rfl ?_
                  refine T_calli (K := fun y24 σ' => (y24 = (-6)) ∧ (fun σ' => IF (MK 568 628 642 643) σ σ' ∧ σ' 36 0 0 642 = n ∧ True) σ') (r := []) zk_168_63 rfl rfl rfl rfl rfl rfl (Or.inr ⟨_, _, _, _, rfl, vd_35, rfl⟩) (fun σ' h => (m_123 ((-6)) (by omega) σ' h.1.1 ).le (Nat.le_of_ble_eq_true rfl) (fun v σ2 ⟨y, h1, h2, h3, h4⟩ => ⟨y, h1, h2, h.1.tr h3 sb62_750be88, (h3.2 _ _ _ _ (by first | exact nMT rfl | (unfold MT; omega))).trans (h.2.1), trivial⟩)) (pc' := 66) rfl (fun y24 => ?_)
                  refine G_ex (fun hy24 => ?_)
                  obtain rfl : y24 = (-6) := by omega
                  exact T_iret zk_168_66 rfl (fun σ' h => ⟨_, rfl, (by omega), h.1, ⟨(by have e := h.2.1; omega), trivial⟩⟩)
                ·
                  refine T_ld zk_168_53 rfl rfl rfl (pc' := 55) rfl ?_
                  refine T_op zk_168_55 rfl (X_bi (v := 9) (by decide)) (pc' := 57) rfl ?_
                  refine T_icmp_le zk_168_57 (by omega) (by omega) (pc' := 60) rfl (fun h25 => ?_) (fun h26 => ?_)
                  ·
                    refine T_ld zk_168_67 rfl rfl rfl (pc' := 68) rfl ?_
                    refine T_getR (t' := 36) (i' := 0) (k' := 0) zk_168_68 rfl rfl rfl vd_35 (pc' := 71) rfl ?_
                    refine T_op zk_168_71 rfl (X_si (v := 642) (by decide)) (pc' := 74) rfl ?_
                    refine G_ialdX (w := n) (ln := 646) zk_168_74 rfl rfl (vd_36 (by omega)) (by omega) (by omega) (by omega) (fun σ' h => h.2.1) (pc' := 75) rfl ?_
                    refine T_st (L' := [(0, av 35 0 0), (1, iv p0), (2, iv p1), (3, iv p2), (4, iv p3), (5, iv p4), (6, iv n)]) zk_168_75 (nL := 8) rfl rfl rfl rfl rfl (pc' := 77) rfl ?_
                    refine T_ld zk_168_77 rfl rfl rfl (pc' := 79) rfl ?_
                    refine T_op zk_168_79 rfl (X_bi (v := 6) (by decide)) (pc' := 81) rfl ?_
                    refine T_icmp_ne zk_168_81 (by omega) (by omega) (pc' := 84) rfl (fun h27 => ?_) (fun h28 => ?_)
                    ·
                      refine T_ld zk_168_91 rfl rfl rfl (pc' := 92) rfl ?_
                      refine T_getR (t' := 36) (i' := 0) (k' := 0) zk_168_92 rfl rfl rfl vd_35 (pc' := 95) rfl ?_
                      refine T_op zk_168_95 rfl (X_si (v := 568) (by decide)) (pc' := 98) rfl ?_
                      refine T_ld zk_168_98 rfl rfl rfl (pc' := 100) rfl ?_
                      refine T_op zk_168_100 rfl X_add (pc' := 101) rfl ?_
                      refine T_ld zk_168_101 rfl rfl rfl (pc' := 102) rfl ?_
                      refine G_iast (J' := (fun σ' => IF (MK 568 628 642 643) σ σ' ∧ σ' 36 0 0 642 = n ∧ σ' 36 0 0 (Int.toNat (568 + n)) = p0 ∧ True)) (ln := 646) zk_168_102 rfl rfl (vd_36 (by omega)) (by omega) (by omega) (by omega) (fun σ' h => ⟨h.1.up (by simp only [rgP] <;> omega) (by first | exact pMK rfl | (unfold MK; omega)), (up_ne (by omega)).trans (h.2.1), up_eq, trivial⟩) (pc' := 103) rfl ?_
                      refine T_ld zk_168_103 rfl rfl rfl (pc' := 104) rfl ?_
                      refine T_getR (t' := 36) (i' := 0) (k' := 0) zk_168_104 rfl rfl rfl vd_35 (pc' := 107) rfl ?_
                      refine T_op zk_168_107 rfl (X_si (v := 574) (by decide)) (pc' := 110) rfl ?_
                      refine T_ld zk_168_110 rfl rfl rfl (pc' := 112) rfl ?_
                      refine T_op zk_168_112 rfl X_add (pc' := 113) rfl ?_
                      refine T_ld zk_168_113 rfl rfl rfl (pc' := 114) rfl ?_
                      refine G_iast (J' := (fun σ' => IF (MK 568 628 642 643) σ σ' ∧ σ' 36 0 0 642 = n ∧ σ' 36 0 0 (Int.toNat (574 + n)) = p1 ∧ True)) (ln := 646) zk_168_114 rfl rfl (vd_36 (by omega)) (by omega) (by omega) (by omega) (fun σ' h => ⟨h.1.up (by simp only [rgP] <;> omega) (by first | exact pMK rfl | (unfold MK; omega)), (up_ne (by omega)).trans (h.2.1), up_eq, trivial⟩) (pc' := 115) rfl ?_
                      refine T_ld zk_168_115 rfl rfl rfl (pc' := 116) rfl ?_
                      refine T_getR (t' := 36) (i' := 0) (k' := 0) zk_168_116 rfl rfl rfl vd_35 (pc' := 119) rfl ?_
                      refine T_op zk_168_119 rfl (X_si (v := 580) (by decide)) (pc' := 122) rfl ?_
                      refine T_ld zk_168_122 rfl rfl rfl (pc' := 124) rfl ?_
                      refine T_op zk_168_124 rfl X_add (pc' := 125) rfl ?_
                      refine T_ld zk_168_125 rfl rfl rfl (pc' := 126) rfl ?_
                      refine G_iast (J' := (fun σ' => IF (MK 568 628 642 643) σ σ' ∧ σ' 36 0 0 642 = n ∧ σ' 36 0 0 (Int.toNat (580 + n)) = p2 ∧ True)) (ln := 646) zk_168_126 rfl rfl (vd_36 (by omega)) (by omega) (by omega) (by omega) (fun σ' h => ⟨h.1.up (by simp only [rgP] <;> omega) (by first | exact pMK rfl | (unfold MK; omega)), (up_ne (by omega)).trans (h.2.1), up_eq, trivial⟩) (pc' := 127) rfl ?_
                      refine T_ld zk_168_127 rfl rfl rfl (pc' := 128) rfl ?_
                      refine T_getR (t' := 36) (i' := 0) (k' := 0) zk_168_128 rfl rfl rfl vd_35 (pc' := 131) rfl ?_
                      refine T_op zk_168_131 rfl (X_si (v := 586) (by decide)) (pc' := 134) rfl ?_
                      refine T_ld zk_168_134 rfl rfl rfl (pc' := 136) rfl ?_
                      refine T_op zk_168_136 rfl X_add (pc' := 137) rfl ?_
                      refine T_ld zk_168_137 rfl rfl rfl (pc' := 139) rfl ?_
                      refine G_iast (J' := (fun σ' => IF (MK 568 628 642 643) σ σ' ∧ σ' 36 0 0 642 = n ∧ σ' 36 0 0 (Int.toNat (586 + n)) = p3 ∧ True)) (ln := 646) zk_168_139 rfl rfl (vd_36 (by omega)) (by omega) (by omega) (by omega) (fun σ' h => ⟨h.1.up (by simp only [rgP] <;> omega) (by first | exact pMK rfl | (unfold MK; omega)), (up_ne (by omega)).trans (h.2.1), up_eq, trivial⟩) (pc' := 140) rfl ?_
                      refine T_ld zk_168_140 rfl rfl rfl (pc' := 141) rfl ?_
                      refine T_getR (t' := 36) (i' := 0) (k' := 0) zk_168_141 rfl rfl rfl vd_35 (pc' := 144) rfl ?_
                      refine T_op zk_168_144 rfl (X_si (v := 592) (by decide)) (pc' := 147) rfl ?_
                      refine T_ld zk_168_147 rfl rfl rfl (pc' := 149) rfl ?_
                      refine T_op zk_168_149 rfl X_add (pc' := 150) rfl ?_
                      refine T_ld zk_168_150 rfl rfl rfl (pc' := 152) rfl ?_
                      refine G_iast (J' := (fun σ' => IF (MK 568 628 642 643) σ σ' ∧ σ' 36 0 0 642 = n ∧ σ' 36 0 0 (Int.toNat (592 + n)) = p4 ∧ True)) (ln := 646) zk_168_152 rfl rfl (vd_36 (by omega)) (by omega) (by omega) (by omega) (fun σ' h => ⟨h.1.up (by simp only [rgP] <;> omega) (by first | exact pMK rfl | (unfold MK; omega)), (up_ne (by omega)).trans (h.2.1), up_eq, trivial⟩) (pc' := 153) rfl ?_
                      refine T_ld zk_168_153 rfl rfl rfl (pc' := 154) rfl ?_
                      refine T_getR (t' := 36) (i' := 0) (k' := 0) zk_168_154 rfl rfl rfl vd_35 (pc' := 157) rfl ?_
                      refine T_op zk_168_157 rfl (X_si (v := 598) (by decide)) (pc' := 160) rfl ?_
                      refine T_ld zk_168_160 rfl rfl rfl (pc' := 162) rfl ?_
                      refine T_op zk_168_162 rfl X_add (pc' := 163) rfl ?_
                      refine T_op zk_168_163 rfl X_ic (pc' := 164) rfl ?_
                      refine G_iast (J' := (fun σ' => IF (MK 568 628 642 643) σ σ' ∧ σ' 36 0 0 642 = n ∧ σ' 36 0 0 (Int.toNat (598 + n)) = (-1) ∧ True)) (ln := 646) zk_168_164 rfl rfl (vd_36 (by omega)) (by omega) (by omega) (by omega) (fun σ' h => ⟨h.1.up (by simp only [rgP] <;> omega) (by first | exact pMK rfl | (unfold MK; omega)), (up_ne (by omega)).trans (h.2.1), up_eq, trivial⟩) (pc' := 165) rfl ?_
                      refine T_op zk_168_165 rfl (X_si (v := 604) (by decide)) (pc' := 168) rfl ?_
                      refine T_st (L' := [(0, av 35 0 0), (1, iv p0), (2, iv p1), (3, iv p2), (4, iv p3), (5, iv p4), (6, iv n), (7, iv 604)]) zk_168_168 (nL := 8) rfl rfl rfl rfl rfl (pc' := 170) rfl ?_
                      refine G_know (J' := (fun σ' => IF (MK 568 628 642 643) σ σ' ∧ σ' 36 0 0 642 = n ∧ True)) (fun σ' h => ⟨h.1, h.2.1, trivial⟩) ?_
                      refine T_loop1 (fun x29 => ((700 - x29 : Int)).toNat) (fun x29 => (604 ≤ x29 ∧ x29 ≤ 628)) (fun x29 => TJ xs (fun σ' => IF (MK 568 628 642 643) σ σ' ∧ σ' 36 0 0 642 = n ∧ True) 1 168 170 [(0, av 35 0 0), (1, iv p0), (2, iv p1), (3, iv p2), (4, iv p3), (5, iv p4), (6, iv n), (7, iv x29)] [] _) ?_ 604 (by omega)
                      intro x29 hp31 ih30
                      refine T_ld zk_168_170 rfl rfl rfl (pc' := 172) rfl ?_
                      refine T_op zk_168_172 rfl (X_si (v := 622) (by decide)) (pc' := 175) rfl ?_
                      refine T_icmp_gt zk_168_175 (by omega) (by omega) (pc' := 178) rfl (fun h32 => ?_) (fun h33 => ?_)
                      ·
                        refine T_ld zk_168_195 rfl rfl rfl (pc' := 196) rfl ?_
                        refine T_getR (t' := 36) (i' := 0) (k' := 0) zk_168_196 rfl rfl rfl vd_35 (pc' := 199) rfl ?_
                        refine T_op zk_168_199 rfl (X_si (v := 642) (by decide)) (pc' := 202) rfl ?_
                        refine T_op (st' := [iv 642, av 36 0 0, iv 642, av 36 0 0]) zk_168_202 rfl rfl (pc' := 203) rfl ?_
                        refine G_ialdX (w := n) (ln := 646) zk_168_203 rfl rfl (vd_36 (by omega)) (by omega) (by omega) (by omega) (fun σ' h => h.2.1) (pc' := 204) rfl ?_
                        refine T_op (st' := [iv n, iv 642, av 36 0 0, iv n]) zk_168_204 rfl rfl (pc' := 205) rfl ?_
                        refine T_op zk_168_205 rfl X_ic (pc' := 206) rfl ?_
                        refine T_op zk_168_206 rfl X_add (pc' := 207) rfl ?_
                        refine G_iast (J' := (fun σ' => IF (MK 568 628 642 643) σ σ' ∧ σ' 36 0 0 642 = n + 1 ∧ True)) (ln := 646) zk_168_207 rfl rfl (vd_36 (by omega)) (by omega) (by omega) (by omega) (fun σ' h => ⟨h.1.up (by simp only [rgP] <;> omega) (by first | exact pMK rfl | (unfold MK; omega)), up_eq, trivial⟩) (pc' := 208) rfl ?_
                        exact T_iret zk_168_208 rfl (fun σ' h => ⟨_, rfl, (by omega), h.1, ⟨(by have e := h.2.1; omega), trivial⟩⟩)
                      ·
                        refine T_ld zk_168_178 rfl rfl rfl (pc' := 179) rfl ?_
                        refine T_getR (t' := 36) (i' := 0) (k' := 0) zk_168_179 rfl rfl rfl vd_35 (pc' := 182) rfl ?_
                        refine T_ld zk_168_182 rfl rfl rfl (pc' := 184) rfl ?_
                        refine T_ld zk_168_184 rfl rfl rfl (pc' := 186) rfl ?_
                        refine T_op zk_168_186 rfl X_add (pc' := 187) rfl ?_
                        refine T_op zk_168_187 rfl X_ic (pc' := 188) rfl ?_
                        refine G_iast (J' := (fun σ' => IF (MK 568 628 642 643) σ σ' ∧ σ' 36 0 0 642 = n ∧ σ' 36 0 0 (Int.toNat (x29 + n)) = 0 ∧ True)) (ln := 646) zk_168_188 rfl rfl (vd_36 (by omega)) (by omega) (by omega) (by omega) (fun σ' h => ⟨h.1.up (by simp only [rgP] <;> omega) (by first | exact pMK rfl | (unfold MK; omega)), (up_ne (by omega)).trans (h.2.1), up_eq, trivial⟩) (pc' := 189) rfl ?_
                        refine T_iinc (L' := [(0, av 35 0 0), (1, iv p0), (2, iv p1), (3, iv p2), (4, iv p3), (5, iv p4), (6, iv n), (7, iv (x29 + 6))]) zk_168_189 (nL := 8) rfl rfl rfl rfl (pc' := 192) rfl ?_
                        refine T_goto zk_168_192 ?_
                        refine G_know (J' := (fun σ' => IF (MK 568 628 642 643) σ σ' ∧ σ' 36 0 0 642 = n ∧ True)) (fun σ' h => ⟨h.1, h.2.1, trivial⟩) ?_
                        exact ih30 (x29 + 6) (by omega) (by omega)
                    ·
                      refine T_ld zk_168_84 rfl rfl rfl (pc' := 85) rfl ?_
                      refine T_op zk_168_85 rfl (X_bi (v := -7) (by decide)) (pc' := 87) rfl ?_
                      refine T_calli (K := fun y34 σ' => (y34 = (-7)) ∧ (fun σ' => IF (MK 568 628 642 643) σ σ' ∧ σ' 36 0 0 642 = n ∧ True) σ') (r := []) zk_168_87 rfl rfl rfl rfl rfl rfl (Or.inr ⟨_, _, _, _, rfl, vd_35, rfl⟩) (fun σ' h => (m_123 ((-7)) (by omega) σ' h.1.1 ).le (Nat.le_of_ble_eq_true rfl) (fun v σ2 ⟨y, h1, h2, h3, h4⟩ => ⟨y, h1, h2, h.1.tr h3 sb62_750be88, (h3.2 _ _ _ _ (by first | exact nMT rfl | (unfold MT; omega))).trans (h.2.1), trivial⟩)) (pc' := 90) rfl (fun y34 => ?_)
                      refine G_ex (fun hy34 => ?_)
                      obtain rfl : y34 = (-7) := by omega
                      exact T_iret zk_168_90 rfl (fun σ' h => ⟨_, rfl, (by omega), h.1, ⟨(by have e := h.2.1; omega), trivial⟩⟩)
                  ·
                    refine T_ld zk_168_60 rfl rfl rfl (pc' := 61) rfl ?_
                    refine T_op zk_168_61 rfl (X_bi (v := -6) (by decide)) (pc' := 63) rfl ?_
                    refine T_calli (K := fun y35 σ' => (y35 = (-6)) ∧ (fun σ' => IF (MK 568 628 642 643) σ σ' ∧ σ' 36 0 0 642 = n ∧ True) σ') (r := []) zk_168_63 rfl rfl rfl rfl rfl rfl (Or.inr ⟨_, _, _, _, rfl, vd_35, rfl⟩) (fun σ' h => (m_123 ((-6)) (by omega) σ' h.1.1 ).le (Nat.le_of_ble_eq_true rfl) (fun v σ2 ⟨y, h1, h2, h3, h4⟩ => ⟨y, h1, h2, h.1.tr h3 sb62_750be88, (h3.2 _ _ _ _ (by first | exact nMT rfl | (unfold MT; omega))).trans (h.2.1), trivial⟩)) (pc' := 66) rfl (fun y35 => ?_)
                    refine G_ex (fun hy35 => ?_)
                    obtain rfl : y35 = (-6) := by omega
                    exact T_iret zk_168_66 rfl (fun σ' h => ⟨_, rfl, (by omega), h.1, ⟨(by have e := h.2.1; omega), trivial⟩⟩)
  ·
    refine T_ld zk_168_7 rfl rfl rfl (pc' := 8) rfl ?_
    refine T_op zk_168_8 rfl X_ic (pc' := 9) rfl ?_
    refine T_calli (K := fun y36 σ' => (y36 = (-1)) ∧ (fun σ' => IF (MK 568 628 642 643) σ σ' ∧ σ' 36 0 0 642 = n ∧ True) σ') (r := []) zk_168_9 rfl rfl rfl rfl rfl rfl (Or.inr ⟨_, _, _, _, rfl, vd_35, rfl⟩) (fun σ' h => (m_123 ((-1)) (by omega) σ' h.1.1 ).le (Nat.le_of_ble_eq_true rfl) (fun v σ2 ⟨y, h1, h2, h3, h4⟩ => ⟨y, h1, h2, h.1.tr h3 sb62_750be88, (h3.2 _ _ _ _ (by first | exact nMT rfl | (unfold MT; omega))).trans (h.2.1), trivial⟩)) (pc' := 12) rfl (fun y36 => ?_)
    refine G_ex (fun hy36 => ?_)
    obtain rfl : y36 = (-1) := by omega
    exact T_iret zk_168_12 rfl (fun σ' h => ⟨_, rfl, (by omega), h.1, ⟨(by have e := h.2.1; omega), trivial⟩⟩)
/-- WModel.image -/
theorem r_184 {xs : Nat × (Nat → Int32)}  (n : Int) (hn : 0 ≤ n ∧ n ≤ 20000) (σ : ZS) (hI : Inv σ)  (s1 : σ 36 0 0 634 = n) : CT xs 2 184 [av 35 0 0] σ (fun v σ' => ∃ y, v = some (iv y) ∧ (y = n) ∧ IF MIm σ σ' ∧ ((∀ j, 0 ≤ j → j < 646 → σ' 36 0 2 j = σ 36 0 0 j) ∧ eqn (σ 44 0 0) (σ' 57 0 0) 5 ∧ eqn (σ 45 0 0) (σ' 58 0 0) 600 ∧ σ' 35 0 0 3 = 1 ∧ True)) := by
  refine G_ct (J := (fun σ' => IF MIm σ σ' ∧ (∀ j, 0 ≤ j → j < 646 → σ' 36 0 0 j = σ 36 0 0 j) ∧ True)) (L := [(0, av 35 0 0)]) (nL := 2) rfl rfl rfl ⟨IF.rf hI, (fun _ _ _ => rfl), trivial⟩ ?_
  refine T_ld zk_184_0 rfl rfl rfl (pc' := 1) rfl ?_
  refine T_ld zk_184_1 rfl rfl rfl (pc' := 2) rfl ?_
  refine T_getR (t' := 36) (i' := 0) (k' := 0) zk_184_2 rfl rfl rfl vd_35 (pc' := 5) rfl ?_
  refine T_ld zk_184_5 rfl rfl rfl (pc' := 6) rfl ?_
  refine T_getR (t' := 36) (i' := 0) (k' := 2) zk_184_6 rfl rfl rfl vd_35 (pc' := 9) rfl ?_
  refine T_callv (J' := (fun σ' => IF MIm σ σ' ∧ (∀ j, 0 ≤ j → j < 646 → σ' 36 0 0 j = σ 36 0 0 j) ∧ (∀ j, 0 ≤ j → j < 646 → σ' 36 0 2 j = σ 36 0 0 j) ∧ True)) (r := []) zk_184_9 rfl rfl rfl rfl rfl rfl (Or.inr ⟨_, _, _, _, rfl, vd_35, rfl⟩) (fun σ' h => (m_179_02 ((σ 36 0 0))  σ' h.1.1 (fun j a b => h.2.1 j (by omega) (by omega))).le (Nat.le_of_ble_eq_true rfl) (fun v σ2 ⟨h1, h3, h4⟩ => ⟨h1, h.1.tr h3 sb67_ff6faf6, fun j a b => (h3.2 _ _ _ _ (by first | exact nMV rfl | (unfold MV; omega))).trans (h.2.1 j a b), h4.1, trivial⟩)) (pc' := 12) rfl ?_
  refine T_op zk_184_12 rfl X_ic (pc' := 13) rfl ?_
  refine G_know (J' := (fun σ' => IF MIm σ σ' ∧ (∀ j, 0 ≤ j → j < 646 → σ' 36 0 0 j = σ 36 0 0 j) ∧ (∀ j, 0 ≤ j → j < 646 → σ' 36 0 2 j = σ 36 0 0 j) ∧ eqn (σ 44 0 0) (σ' 57 0 0) (Int.toNat 0) ∧ True)) (fun σ' h => ⟨h.1, h.2.1, h.2.2.1, (fun j hj => by simp at hj), trivial⟩) ?_
  refine T_st (L' := [(0, av 35 0 0), (1, iv 0)]) zk_184_13 (nL := 2) rfl rfl rfl rfl rfl (pc' := 14) rfl ?_
  refine T_loop1 (fun x2 => ((5 - x2 : Int)).toNat) (fun x2 => (0 ≤ x2 ∧ x2 ≤ 5)) (fun x2 => TJ xs (fun σ' => IF MIm σ σ' ∧ (∀ j, 0 ≤ j → j < 646 → σ' 36 0 0 j = σ 36 0 0 j) ∧ (∀ j, 0 ≤ j → j < 646 → σ' 36 0 2 j = σ 36 0 0 j) ∧ eqn (σ 44 0 0) (σ' 57 0 0) (Int.toNat x2) ∧ True) 1 184 14 [(0, av 35 0 0), (1, iv x2)] [] _) ?_ 0 (by omega)
  intro x2 hp4 ih3
  have hr44 := hI 44 0 0 (Int.toNat x2) vd_44
  simp only [rgP] at hr44
  refine T_ld zk_184_14 rfl rfl rfl (pc' := 15) rfl ?_
  refine T_op zk_184_15 rfl X_ic (pc' := 16) rfl ?_
  refine T_icmp_ge zk_184_16 (by omega) (by omega) (pc' := 19) rfl (fun h5 => ?_) (fun h6 => ?_)
  ·
    refine T_op zk_184_49 rfl X_ic (pc' := 50) rfl ?_
    refine G_know (J' := (fun σ' => IF MIm σ σ' ∧ (∀ j, 0 ≤ j → j < 646 → σ' 36 0 0 j = σ 36 0 0 j) ∧ (∀ j, 0 ≤ j → j < 646 → σ' 36 0 2 j = σ 36 0 0 j) ∧ eqn (σ 44 0 0) (σ' 57 0 0) (Int.toNat x2) ∧ eqn (σ 45 0 0) (σ' 58 0 0) (Int.toNat 0) ∧ True)) (fun σ' h => ⟨h.1, h.2.1, h.2.2.1, h.2.2.2.1, (fun j hj => by simp at hj), trivial⟩) ?_
    refine T_st (L' := [(0, av 35 0 0), (1, iv 0)]) zk_184_50 (nL := 2) rfl rfl rfl rfl rfl (pc' := 51) rfl ?_
    refine G_know (J' := (fun σ' => IF MIm σ σ' ∧ (∀ j, 0 ≤ j → j < 646 → σ' 36 0 0 j = σ 36 0 0 j) ∧ (∀ j, 0 ≤ j → j < 646 → σ' 36 0 2 j = σ 36 0 0 j) ∧ eqn (σ 44 0 0) (σ' 57 0 0) 5 ∧ eqn (σ 45 0 0) (σ' 58 0 0) (Int.toNat 0) ∧ True)) (fun σ' h => ⟨h.1, h.2.1, h.2.2.1, (eqn_le (h.2.2.2.1) (by omega)), h.2.2.2.2.1, trivial⟩) ?_
    refine T_loop1 (fun x7 => ((600 - x7 : Int)).toNat) (fun x7 => (0 ≤ x7 ∧ x7 ≤ 600)) (fun x7 => TJ xs (fun σ' => IF MIm σ σ' ∧ (∀ j, 0 ≤ j → j < 646 → σ' 36 0 0 j = σ 36 0 0 j) ∧ (∀ j, 0 ≤ j → j < 646 → σ' 36 0 2 j = σ 36 0 0 j) ∧ eqn (σ 44 0 0) (σ' 57 0 0) 5 ∧ eqn (σ 45 0 0) (σ' 58 0 0) (Int.toNat x7) ∧ True) 1 184 51 [(0, av 35 0 0), (1, iv x7)] [] _) ?_ 0 (by omega)
    intro x7 hp9 ih8
    have hr45 := hI 45 0 0 (Int.toNat x7) vd_45
    simp only [rgP] at hr45
    refine T_ld zk_184_51 rfl rfl rfl (pc' := 52) rfl ?_
    refine T_op zk_184_52 rfl (X_si (v := 600) (by decide)) (pc' := 55) rfl ?_
    refine T_icmp_ge zk_184_55 (by omega) (by omega) (pc' := 58) rfl (fun h10 => ?_) (fun h11 => ?_)
    ·
      refine T_op zk_184_76 rfl X_ic (pc' := 77) rfl ?_
      refine T_st (L' := [(0, av 35 0 0), (1, iv 0)]) zk_184_77 (nL := 2) rfl rfl rfl rfl rfl (pc' := 78) rfl ?_
      refine G_know (J' := (fun σ' => IF MIm σ σ' ∧ (∀ j, 0 ≤ j → j < 646 → σ' 36 0 0 j = σ 36 0 0 j) ∧ (∀ j, 0 ≤ j → j < 646 → σ' 36 0 2 j = σ 36 0 0 j) ∧ eqn (σ 44 0 0) (σ' 57 0 0) 5 ∧ eqn (σ 45 0 0) (σ' 58 0 0) 600 ∧ True)) (fun σ' h => ⟨h.1, h.2.1, h.2.2.1, h.2.2.2.1, (eqn_le (h.2.2.2.2.1) (by omega)), trivial⟩) ?_
      refine T_loop1 (fun x12 => ((250 - x12 : Int)).toNat) (fun x12 => (0 ≤ x12 ∧ x12 ≤ 250)) (fun x12 => TJ xs (fun σ' => IF MIm σ σ' ∧ (∀ j, 0 ≤ j → j < 646 → σ' 36 0 0 j = σ 36 0 0 j) ∧ (∀ j, 0 ≤ j → j < 646 → σ' 36 0 2 j = σ 36 0 0 j) ∧ eqn (σ 44 0 0) (σ' 57 0 0) 5 ∧ eqn (σ 45 0 0) (σ' 58 0 0) 600 ∧ True) 1 184 78 [(0, av 35 0 0), (1, iv x12)] [] _) ?_ 0 (by omega)
      intro x12 hp14 ih13
      refine T_ld zk_184_78 rfl rfl rfl (pc' := 79) rfl ?_
      refine T_op zk_184_79 rfl (X_si (v := 250) (by decide)) (pc' := 82) rfl ?_
      refine T_icmp_ge zk_184_82 (by omega) (by omega) (pc' := 85) rfl (fun h15 => ?_) (fun h16 => ?_)
      ·
        refine T_ld zk_184_127 rfl rfl rfl (pc' := 128) rfl ?_
        refine T_op zk_184_128 rfl X_ic (pc' := 129) rfl ?_
        refine T_putz (J' := (fun σ' => IF MIm σ σ' ∧ (∀ j, 0 ≤ j → j < 646 → σ' 36 0 0 j = σ 36 0 0 j) ∧ (∀ j, 0 ≤ j → j < 646 → σ' 36 0 2 j = σ 36 0 0 j) ∧ eqn (σ 44 0 0) (σ' 57 0 0) 5 ∧ eqn (σ 45 0 0) (σ' 58 0 0) 600 ∧ σ' 35 0 0 3 = 1 ∧ True)) zk_184_129 rfl rfl (by omega) vd_35 (fun σ' h => ⟨h.1.up (by simp only [rgP] <;> omega) (by first | exact pMIm rfl | (unfold MIm; omega)), fun j a b => (up_ne (by omega)).trans (h.2.1 j a b), fun j a b => (up_ne (by omega)).trans (h.2.2.1 j a b), gf_mk (fun z => eqn (σ 44 0 0) z 5) (up_row (by omega)) (h.2.2.2.1), gf_mk (fun z => eqn (σ 45 0 0) z 600) (up_row (by omega)) (h.2.2.2.2.1), up_eq, trivial⟩) (pc' := 132) rfl ?_
        refine T_ld zk_184_132 rfl rfl rfl (pc' := 133) rfl ?_
        refine T_getR (t' := 36) (i' := 0) (k' := 0) zk_184_133 rfl rfl rfl vd_35 (pc' := 136) rfl ?_
        refine T_op zk_184_136 rfl (X_si (v := 634) (by decide)) (pc' := 139) rfl ?_
        refine G_ialdX (w := σ 36 0 0 634) (ln := 646) zk_184_139 rfl rfl (vd_36 (by omega)) (by omega) (by omega) (by omega) (fun σ' h => h.2.1 _ (by omega) (by omega)) (pc' := 140) rfl ?_
        exact T_iret zk_184_140 rfl (fun σ' h => ⟨_, rfl, (by omega), h.1, ⟨h.2.2.1, h.2.2.2.1, h.2.2.2.2.1, h.2.2.2.2.2.1, trivial⟩⟩)
      ·
        refine T_ld zk_184_85 rfl rfl rfl (pc' := 86) rfl ?_
        refine T_getR (t' := 59) (i' := 0) (k' := 0) zk_184_86 rfl rfl rfl vd_35 (pc' := 89) rfl ?_
        refine T_ld zk_184_89 rfl rfl rfl (pc' := 90) rfl ?_
        refine T_ld zk_184_90 rfl rfl rfl (pc' := 91) rfl ?_
        refine T_getR (t' := 46) (i' := 0) (k' := 0) zk_184_91 rfl rfl rfl vd_35 (pc' := 94) rfl ?_
        refine T_ld zk_184_94 rfl rfl rfl (pc' := 95) rfl ?_
        refine G_iald (lo := -2147483648) (hi := 2147483647) (ln := 300) zk_184_95 rfl rfl vd_46 (by omega) (by omega) (by omega) (fun σ' h => h.1.1) (fun _ h => (by have q := h.1; omega)) (pc' := 96) rfl (fun y17 hy17 hy17' => ?_)
        refine G_iast (J' := (fun σ' => IF MIm σ σ' ∧ (∀ j, 0 ≤ j → j < 646 → σ' 36 0 0 j = σ 36 0 0 j) ∧ (∀ j, 0 ≤ j → j < 646 → σ' 36 0 2 j = σ 36 0 0 j) ∧ eqn (σ 44 0 0) (σ' 57 0 0) 5 ∧ eqn (σ 45 0 0) (σ' 58 0 0) 600 ∧ True)) (ln := 250) zk_184_96 rfl rfl vd_59 (by omega) (by omega) (by omega) (fun σ' h => ⟨h.1.up ⟨by omega, trivial⟩ (by first | exact pMIm rfl | (unfold MIm; omega)), fun j a b => (up_ne (by omega)).trans (h.2.1 j a b), fun j a b => (up_ne (by omega)).trans (h.2.2.1 j a b), gf_mk (fun z => eqn (σ 44 0 0) z 5) (up_row (by omega)) (h.2.2.2.1), gf_mk (fun z => eqn (σ 45 0 0) z 600) (up_row (by omega)) (h.2.2.2.2.1), trivial⟩) (pc' := 97) rfl ?_
        refine T_ld zk_184_97 rfl rfl rfl (pc' := 98) rfl ?_
        refine T_getR (t' := 60) (i' := 0) (k' := 0) zk_184_98 rfl rfl rfl vd_35 (pc' := 101) rfl ?_
        refine T_ld zk_184_101 rfl rfl rfl (pc' := 102) rfl ?_
        refine T_ld zk_184_102 rfl rfl rfl (pc' := 103) rfl ?_
        refine T_getR (t' := 47) (i' := 0) (k' := 0) zk_184_103 rfl rfl rfl vd_35 (pc' := 106) rfl ?_
        refine T_ld zk_184_106 rfl rfl rfl (pc' := 107) rfl ?_
        refine G_iald (lo := -2147483648) (hi := 2147483647) (ln := 300) zk_184_107 rfl rfl vd_47 (by omega) (by omega) (by omega) (fun σ' h => h.1.1) (fun _ h => (by have q := h.1; omega)) (pc' := 108) rfl (fun y18 hy18 hy18' => ?_)
        refine G_iast (J' := (fun σ' => IF MIm σ σ' ∧ (∀ j, 0 ≤ j → j < 646 → σ' 36 0 0 j = σ 36 0 0 j) ∧ (∀ j, 0 ≤ j → j < 646 → σ' 36 0 2 j = σ 36 0 0 j) ∧ eqn (σ 44 0 0) (σ' 57 0 0) 5 ∧ eqn (σ 45 0 0) (σ' 58 0 0) 600 ∧ True)) (ln := 250) zk_184_108 rfl rfl vd_60 (by omega) (by omega) (by omega) (fun σ' h => ⟨h.1.up ⟨by omega, trivial⟩ (by first | exact pMIm rfl | (unfold MIm; omega)), fun j a b => (up_ne (by omega)).trans (h.2.1 j a b), fun j a b => (up_ne (by omega)).trans (h.2.2.1 j a b), gf_mk (fun z => eqn (σ 44 0 0) z 5) (up_row (by omega)) (h.2.2.2.1), gf_mk (fun z => eqn (σ 45 0 0) z 600) (up_row (by omega)) (h.2.2.2.2.1), trivial⟩) (pc' := 109) rfl ?_
        refine T_ld zk_184_109 rfl rfl rfl (pc' := 110) rfl ?_
        refine T_getR (t' := 61) (i' := 0) (k' := 0) zk_184_110 rfl rfl rfl vd_35 (pc' := 113) rfl ?_
        refine T_ld zk_184_113 rfl rfl rfl (pc' := 114) rfl ?_
        refine T_ld zk_184_114 rfl rfl rfl (pc' := 115) rfl ?_
        refine T_getR (t' := 48) (i' := 0) (k' := 0) zk_184_115 rfl rfl rfl vd_35 (pc' := 118) rfl ?_
        refine T_ld zk_184_118 rfl rfl rfl (pc' := 119) rfl ?_
        refine G_iald (lo := -2147483648) (hi := 2147483647) (ln := 300) zk_184_119 rfl rfl vd_48 (by omega) (by omega) (by omega) (fun σ' h => h.1.1) (fun _ h => (by have q := h.1; omega)) (pc' := 120) rfl (fun y19 hy19 hy19' => ?_)
        refine G_iast (J' := (fun σ' => IF MIm σ σ' ∧ (∀ j, 0 ≤ j → j < 646 → σ' 36 0 0 j = σ 36 0 0 j) ∧ (∀ j, 0 ≤ j → j < 646 → σ' 36 0 2 j = σ 36 0 0 j) ∧ eqn (σ 44 0 0) (σ' 57 0 0) 5 ∧ eqn (σ 45 0 0) (σ' 58 0 0) 600 ∧ True)) (ln := 250) zk_184_120 rfl rfl vd_61 (by omega) (by omega) (by omega) (fun σ' h => ⟨h.1.up ⟨by omega, trivial⟩ (by first | exact pMIm rfl | (unfold MIm; omega)), fun j a b => (up_ne (by omega)).trans (h.2.1 j a b), fun j a b => (up_ne (by omega)).trans (h.2.2.1 j a b), gf_mk (fun z => eqn (σ 44 0 0) z 5) (up_row (by omega)) (h.2.2.2.1), gf_mk (fun z => eqn (σ 45 0 0) z 600) (up_row (by omega)) (h.2.2.2.2.1), trivial⟩) (pc' := 121) rfl ?_
        refine T_iinc (L' := [(0, av 35 0 0), (1, iv (x12 + 1))]) zk_184_121 (nL := 2) rfl rfl rfl rfl (pc' := 124) rfl ?_
        refine T_goto zk_184_124 ?_
        exact ih13 (x12 + 1) (by omega) (by omega)
    ·
      refine T_ld zk_184_58 rfl rfl rfl (pc' := 59) rfl ?_
      refine T_getR (t' := 58) (i' := 0) (k' := 0) zk_184_59 rfl rfl rfl vd_35 (pc' := 62) rfl ?_
      refine T_ld zk_184_62 rfl rfl rfl (pc' := 63) rfl ?_
      refine T_ld zk_184_63 rfl rfl rfl (pc' := 64) rfl ?_
      refine T_getR (t' := 45) (i' := 0) (k' := 0) zk_184_64 rfl rfl rfl vd_35 (pc' := 67) rfl ?_
      refine T_ld zk_184_67 rfl rfl rfl (pc' := 68) rfl ?_
      refine G_ialdX (w := σ 45 0 0 (Int.toNat x7)) (ln := 720) zk_184_68 rfl rfl vd_45 (by omega) (by omega) (by omega) (fun σ' h => h.1.2 _ _ _ _ (by first | exact nMIm rfl | (unfold MIm; omega))) (pc' := 69) rfl ?_
      refine G_iast (J' := (fun σ' => IF MIm σ σ' ∧ (∀ j, 0 ≤ j → j < 646 → σ' 36 0 0 j = σ 36 0 0 j) ∧ (∀ j, 0 ≤ j → j < 646 → σ' 36 0 2 j = σ 36 0 0 j) ∧ eqn (σ 44 0 0) (σ' 57 0 0) 5 ∧ eqn (σ 45 0 0) (σ' 58 0 0) (Int.toNat (x7 + 1)) ∧ True)) (ln := 600) zk_184_69 rfl rfl vd_58 (by omega) (by omega) (by omega) (fun σ' h => ⟨h.1.up (by simp only [rgP] <;> omega) (by first | exact pMIm rfl | (unfold MIm; omega)), fun j a b => (up_ne (by omega)).trans (h.2.1 j a b), fun j a b => (up_ne (by omega)).trans (h.2.2.1 j a b), gf_mk (fun z => eqn (σ 44 0 0) z 5) (up_row (by omega)) (h.2.2.2.1), eqn_push (h.2.2.2.2.1) (by omega) (by omega) rfl, trivial⟩) (pc' := 70) rfl ?_
      refine T_iinc (L' := [(0, av 35 0 0), (1, iv (x7 + 1))]) zk_184_70 (nL := 2) rfl rfl rfl rfl (pc' := 73) rfl ?_
      refine T_goto zk_184_73 ?_
      exact ih8 (x7 + 1) (by omega) (by omega)
  ·
    refine T_ld zk_184_19 rfl rfl rfl (pc' := 20) rfl ?_
    refine T_getR (t' := 56) (i' := 0) (k' := 0) zk_184_20 rfl rfl rfl vd_35 (pc' := 23) rfl ?_
    refine T_ld zk_184_23 rfl rfl rfl (pc' := 24) rfl ?_
    refine T_ld zk_184_24 rfl rfl rfl (pc' := 25) rfl ?_
    refine T_getR (t' := 43) (i' := 0) (k' := 0) zk_184_25 rfl rfl rfl vd_35 (pc' := 28) rfl ?_
    refine T_ld zk_184_28 rfl rfl rfl (pc' := 29) rfl ?_
    refine G_iald (lo := -2147483648) (hi := 2147483647) (ln := 6) zk_184_29 rfl rfl vd_43 (by omega) (by omega) (by omega) (fun σ' h => h.1.1) (fun _ h => (by have q := h.1; omega)) (pc' := 30) rfl (fun y20 hy20 hy20' => ?_)
    refine G_iast (J' := (fun σ' => IF MIm σ σ' ∧ (∀ j, 0 ≤ j → j < 646 → σ' 36 0 0 j = σ 36 0 0 j) ∧ (∀ j, 0 ≤ j → j < 646 → σ' 36 0 2 j = σ 36 0 0 j) ∧ eqn (σ 44 0 0) (σ' 57 0 0) (Int.toNat x2) ∧ True)) (ln := 5) zk_184_30 rfl rfl vd_56 (by omega) (by omega) (by omega) (fun σ' h => ⟨h.1.up ⟨by omega, trivial⟩ (by first | exact pMIm rfl | (unfold MIm; omega)), fun j a b => (up_ne (by omega)).trans (h.2.1 j a b), fun j a b => (up_ne (by omega)).trans (h.2.2.1 j a b), gf_mk (fun z => eqn (σ 44 0 0) z (Int.toNat x2)) (up_row (by omega)) (h.2.2.2.1), trivial⟩) (pc' := 31) rfl ?_
    refine T_ld zk_184_31 rfl rfl rfl (pc' := 32) rfl ?_
    refine T_getR (t' := 57) (i' := 0) (k' := 0) zk_184_32 rfl rfl rfl vd_35 (pc' := 35) rfl ?_
    refine T_ld zk_184_35 rfl rfl rfl (pc' := 36) rfl ?_
    refine T_ld zk_184_36 rfl rfl rfl (pc' := 37) rfl ?_
    refine T_getR (t' := 44) (i' := 0) (k' := 0) zk_184_37 rfl rfl rfl vd_35 (pc' := 40) rfl ?_
    refine T_ld zk_184_40 rfl rfl rfl (pc' := 41) rfl ?_
    refine G_ialdX (w := σ 44 0 0 (Int.toNat x2)) (ln := 6) zk_184_41 rfl rfl vd_44 (by omega) (by omega) (by omega) (fun σ' h => h.1.2 _ _ _ _ (by first | exact nMIm rfl | (unfold MIm; omega))) (pc' := 42) rfl ?_
    refine G_iast (J' := (fun σ' => IF MIm σ σ' ∧ (∀ j, 0 ≤ j → j < 646 → σ' 36 0 0 j = σ 36 0 0 j) ∧ (∀ j, 0 ≤ j → j < 646 → σ' 36 0 2 j = σ 36 0 0 j) ∧ eqn (σ 44 0 0) (σ' 57 0 0) (Int.toNat (x2 + 1)) ∧ True)) (ln := 5) zk_184_42 rfl rfl vd_57 (by omega) (by omega) (by omega) (fun σ' h => ⟨h.1.up (by simp only [rgP] <;> omega) (by first | exact pMIm rfl | (unfold MIm; omega)), fun j a b => (up_ne (by omega)).trans (h.2.1 j a b), fun j a b => (up_ne (by omega)).trans (h.2.2.1 j a b), eqn_push (h.2.2.2.1) (by omega) (by omega) rfl, trivial⟩) (pc' := 43) rfl ?_
    refine T_iinc (L' := [(0, av 35 0 0), (1, iv (x2 + 1))]) zk_184_43 (nL := 2) rfl rfl rfl rfl (pc' := 46) rfl ?_
    refine T_goto zk_184_46 ?_
    exact ih3 (x2 + 1) (by omega) (by omega)
