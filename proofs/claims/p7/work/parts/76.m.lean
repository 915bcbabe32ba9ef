/-- WModel.mouth -/
theorem r_133_0 {xs : Nat × (Nat → Int32)} (p0 : Int) (u0 : Int) (hp0 : -2147483648 ≤ p0 ∧ p0 ≤ 2147483647) (hu0 : 0 ≤ u0 ∧ u0 ≤ 24) (σ : ZS) (hI : Inv σ)  (s1 : σ 36 0 0 633 = 0) (t0 : σ 36 0 0 250 = u0) : CT xs 2 133 [av 35 0 0, iv p0] σ (fun v σ' => ∃ y, v = some (iv y) ∧ ((y = -1 ∧ (¬ (0 ≤ p0 ∧ p0 ≤ 24))) ∨ (y = 0 ∧ ¬ (¬ (0 ≤ p0 ∧ p0 ≤ 24)))) ∧ IF (MK 250 256 633 634) σ σ' ∧ (((y = 0 → σ' 36 0 0 633 = 1) ∧ (¬ y = 0 → σ' 36 0 0 633 = 0)) ∧ (y = 0 → σ' 36 0 0 250 = p0) ∧ True)) := by
  refine G_ct (J := (fun σ' => IF (MK 250 256 633 634) σ σ' ∧ σ' 36 0 0 633 = 0 ∧ σ' 36 0 0 250 = u0 ∧ True)) (L := [(0, av 35 0 0), (1, iv p0)]) (nL := 3) rfl rfl rfl ⟨IF.rf hI, s1, t0, trivial⟩ ?_
  refine T_ld zk_133_0 rfl rfl rfl (pc' := 1) rfl ?_
  refine T_calli (K := fun y1 σ' => ((y1 = 0 ∧ (p0 < 0 ∨ 24 < p0)) ∨ (y1 = 1 ∧ 0 ≤ p0 ∧ p0 ≤ 24)) ∧ (fun σ' => IF (MK 250 256 633 634) σ σ' ∧ σ' 36 0 0 633 = 0 ∧ σ' 36 0 0 250 = u0 ∧ True) σ') (r := []) zk_133_1 rfl rfl rfl rfl rfl rfl (Or.inl (Or.inl rfl)) (fun σ' h => (m_124 p0 (by omega) σ' h.1.1 ).le (Nat.le_of_ble_eq_true rfl) (fun v σ2 ⟨y, h1, h2, h3, h4⟩ => ⟨y, h1, h2, h.1.tr h3 MN_sub, (h3.2 _ _ _ _ (fun q => q)).trans (h.2.1), (h3.2 _ _ _ _ (fun q => q)).trans (h.2.2.1), trivial⟩)) (pc' := 4) rfl (fun y1 => ?_)
  refine G_ex (fun hy1 => ?_)
  refine T_if_ne zk_133_4 (by omega) (pc' := 7) rfl (fun h2 => ?_) (fun h3 => ?_)
  ·
    refine T_op zk_133_13 rfl X_ic (pc' := 14) rfl ?_
    refine T_st (L' := [(0, av 35 0 0), (1, iv p0), (2, iv 0)]) zk_133_14 (nL := 3) rfl rfl rfl rfl rfl (pc' := 15) rfl ?_
    refine T_ld zk_133_15 rfl rfl rfl (pc' := 16) rfl ?_
    refine T_ld zk_133_16 rfl rfl rfl (pc' := 17) rfl ?_
    refine T_getR (t' := 36) (i' := 0) (k' := 0) zk_133_17 rfl rfl rfl vd_35 (pc' := 20) rfl ?_
    refine T_op zk_133_20 rfl (X_si (v := 633) (by decide)) (pc' := 23) rfl ?_
    refine G_ialdX (w := 0) (ln := 646) zk_133_23 rfl rfl (vd_36 (by omega)) (by omega) (by omega) (by omega) (fun σ' h => h.2.1) (pc' := 24) rfl ?_
    refine T_icmp_ge zk_133_24 (by omega) (by omega) (pc' := 27) rfl (fun h4 => ?_) (fun h5 => ?_)
    ·
      refine T_ld zk_133_54 rfl rfl rfl (pc' := 55) rfl ?_
      refine T_getR (t' := 36) (i' := 0) (k' := 0) zk_133_55 rfl rfl rfl vd_35 (pc' := 58) rfl ?_
      refine T_op zk_133_58 rfl (X_si (v := 633) (by decide)) (pc' := 61) rfl ?_
      refine G_ialdX (w := 0) (ln := 646) zk_133_61 rfl rfl (vd_36 (by omega)) (by omega) (by omega) (by omega) (fun σ' h => h.2.1) (pc' := 62) rfl ?_
      refine T_op zk_133_62 rfl X_ic (pc' := 63) rfl ?_
      refine T_icmp_ne zk_133_63 (by omega) (by omega) (pc' := 66) rfl (fun h6 => ?_) (fun h7 => ?_)
      ·
        refine T_ld zk_133_73 rfl rfl rfl (pc' := 74) rfl ?_
        refine T_getR (t' := 36) (i' := 0) (k' := 0) zk_133_74 rfl rfl rfl vd_35 (pc' := 77) rfl ?_
        refine T_op zk_133_77 rfl (X_si (v := 250) (by decide)) (pc' := 80) rfl ?_
        refine T_ld zk_133_80 rfl rfl rfl (pc' := 81) rfl ?_
        refine T_getR (t' := 36) (i' := 0) (k' := 0) zk_133_81 rfl rfl rfl vd_35 (pc' := 84) rfl ?_
        refine T_op zk_133_84 rfl (X_si (v := 633) (by decide)) (pc' := 87) rfl ?_
        refine G_ialdX (w := 0) (ln := 646) zk_133_87 rfl rfl (vd_36 (by omega)) (by omega) (by omega) (by omega) (fun σ' h => h.2.1) (pc' := 88) rfl ?_
        refine T_opc (w := 250) zk_133_88 rfl X_add (by omega) (pc' := 89) rfl ?_
        refine T_ld zk_133_89 rfl rfl rfl (pc' := 90) rfl ?_
        refine G_iast (J' := (fun σ' => IF (MK 250 256 633 634) σ σ' ∧ σ' 36 0 0 633 = 0 ∧ σ' 36 0 0 250 = p0 ∧ True)) (ln := 646) zk_133_90 rfl rfl (vd_36 (by omega)) (by omega) (by omega) (by omega) (fun σ' h => ⟨h.1.up (by simp only [rgP] <;> omega) (by first | exact pMK rfl | (unfold MK; omega)), (up_ne (by omega)).trans (h.2.1), up_eq, trivial⟩) (pc' := 91) rfl ?_
        refine T_ld zk_133_91 rfl rfl rfl (pc' := 92) rfl ?_
        refine T_getR (t' := 36) (i' := 0) (k' := 0) zk_133_92 rfl rfl rfl vd_35 (pc' := 95) rfl ?_
        refine T_op zk_133_95 rfl (X_si (v := 253) (by decide)) (pc' := 98) rfl ?_
        refine T_ld zk_133_98 rfl rfl rfl (pc' := 99) rfl ?_
        refine T_getR (t' := 36) (i' := 0) (k' := 0) zk_133_99 rfl rfl rfl vd_35 (pc' := 102) rfl ?_
        refine T_op zk_133_102 rfl (X_si (v := 633) (by decide)) (pc' := 105) rfl ?_
        refine G_ialdX (w := 0) (ln := 646) zk_133_105 rfl rfl (vd_36 (by omega)) (by omega) (by omega) (by omega) (fun σ' h => h.2.1) (pc' := 106) rfl ?_
        refine T_opc (w := 253) zk_133_106 rfl X_add (by omega) (pc' := 107) rfl ?_
        refine T_op zk_133_107 rfl X_ic (pc' := 108) rfl ?_
        refine G_iast (J' := (fun σ' => IF (MK 250 256 633 634) σ σ' ∧ σ' 36 0 0 633 = 0 ∧ σ' 36 0 0 250 = p0 ∧ σ' 36 0 0 253 = 0 ∧ True)) (ln := 646) zk_133_108 rfl rfl (vd_36 (by omega)) (by omega) (by omega) (by omega) (fun σ' h => ⟨h.1.up (by simp only [rgP] <;> omega) (by first | exact pMK rfl | (unfold MK; omega)), (up_ne (by omega)).trans (h.2.1), (up_ne (by omega)).trans (h.2.2.1), up_eq, trivial⟩) (pc' := 109) rfl ?_
        refine T_ld zk_133_109 rfl rfl rfl (pc' := 110) rfl ?_
        refine T_getR (t' := 36) (i' := 0) (k' := 0) zk_133_110 rfl rfl rfl vd_35 (pc' := 113) rfl ?_
        refine T_op zk_133_113 rfl (X_si (v := 633) (by decide)) (pc' := 116) rfl ?_
        refine T_op (st' := [iv 633, av 36 0 0, iv 633, av 36 0 0]) zk_133_116 rfl rfl (pc' := 117) rfl ?_
        refine G_ialdX (w := 0) (ln := 646) zk_133_117 rfl rfl (vd_36 (by omega)) (by omega) (by omega) (by omega) (fun σ' h => h.2.1) (pc' := 118) rfl ?_
        refine T_op (st' := [iv 0, iv 633, av 36 0 0, iv 0]) zk_133_118 rfl rfl (pc' := 119) rfl ?_
        refine T_op zk_133_119 rfl X_ic (pc' := 120) rfl ?_
        refine T_opc (w := 1) zk_133_120 rfl X_add (by omega) (pc' := 121) rfl ?_
        refine G_iast (J' := (fun σ' => IF (MK 250 256 633 634) σ σ' ∧ σ' 36 0 0 250 = p0 ∧ σ' 36 0 0 253 = 0 ∧ σ' 36 0 0 633 = 1 ∧ True)) (ln := 646) zk_133_121 rfl rfl (vd_36 (by omega)) (by omega) (by omega) (by omega) (fun σ' h => ⟨h.1.up (by simp only [rgP] <;> omega) (by first | exact pMK rfl | (unfold MK; omega)), (up_ne (by omega)).trans (h.2.2.1), (up_ne (by omega)).trans (h.2.2.2.1), up_eq, trivial⟩) (pc' := 122) rfl ?_
        exact T_iret zk_133_122 rfl (fun σ' h => ⟨_, rfl, (by omega), h.1, ⟨(by have e := h.2.2.2.1; omega), (by have e := h.2.1; omega), trivial⟩⟩)
      · exfalso; omega
    · exfalso; omega
  ·
    refine T_ld zk_133_7 rfl rfl rfl (pc' := 8) rfl ?_
    refine T_op zk_133_8 rfl X_ic (pc' := 9) rfl ?_
    refine T_calli (K := fun y8 σ' => (y8 = (-1)) ∧ (fun σ' => IF (MK 250 256 633 634) σ σ' ∧ σ' 36 0 0 633 = 0 ∧ σ' 36 0 0 250 = u0 ∧ True) σ') (r := []) zk_133_9 rfl rfl rfl rfl rfl rfl (Or.inr ⟨_, _, _, _, rfl, vd_35, rfl⟩) (fun σ' h => (m_123 ((-1)) (by omega) σ' h.1.1 ).le (Nat.le_of_ble_eq_true rfl) (fun v σ2 ⟨y, h1, h2, h3, h4⟩ => ⟨y, h1, h2, h.1.tr h3 sb61_d26300f, (h3.2 _ _ _ _ (by first | exact nMT rfl | (unfold MT; omega))).trans (h.2.1), (h3.2 _ _ _ _ (by first | exact nMT rfl | (unfold MT; omega))).trans (h.2.2.1), trivial⟩)) (pc' := 12) rfl (fun y8 => ?_)
    refine G_ex (fun hy8 => ?_)
    obtain rfl : y8 = (-1) := by omega
    exact T_iret zk_133_12 rfl (fun σ' h => ⟨_, rfl, (by omega), h.1, ⟨(by have e := h.2.1; omega), (by have e := h.2.2.1; omega), trivial⟩⟩)
/-- WModel.mouth -/
theorem r_133_1 {xs : Nat × (Nat → Int32)} (p0 : Int) (u0 : Int) (u1 : Int) (hp0 : -2147483648 ≤ p0 ∧ p0 ≤ 2147483647) (hu0 : 0 ≤ u0 ∧ u0 ≤ 24) (hu1 : 0 ≤ u1 ∧ u1 ≤ 24) (σ : ZS) (hI : Inv σ)  (s1 : σ 36 0 0 633 = 1) (t0 : σ 36 0 0 250 = u0) (t1 : σ 36 0 0 251 = u1) : CT xs 2 133 [av 35 0 0, iv p0] σ (fun v σ' => ∃ y, v = some (iv y) ∧ ((y = -1 ∧ (¬ (0 ≤ p0 ∧ p0 ≤ 24))) ∨ (y = -6 ∧ ¬ (¬ (0 ≤ p0 ∧ p0 ≤ 24)) ∧ (u0 = p0)) ∨ (y = 1 ∧ ¬ (¬ (0 ≤ p0 ∧ p0 ≤ 24)) ∧ ¬ (u0 = p0))) ∧ IF (MK 250 256 633 634) σ σ' ∧ (((y = 1 → σ' 36 0 0 633 = 2) ∧ (¬ y = 1 → σ' 36 0 0 633 = 1)) ∧ σ' 36 0 0 250 = u0 ∧ (y = 1 → σ' 36 0 0 251 = p0) ∧ True)) := by
  refine G_ct (J := (fun σ' => IF (MK 250 256 633 634) σ σ' ∧ σ' 36 0 0 633 = 1 ∧ σ' 36 0 0 250 = u0 ∧ σ' 36 0 0 251 = u1 ∧ True)) (L := [(0, av 35 0 0), (1, iv p0)]) (nL := 3) rfl rfl rfl ⟨IF.rf hI, s1, t0, t1, trivial⟩ ?_
  refine T_ld zk_133_0 rfl rfl rfl (pc' := 1) rfl ?_
  refine T_calli (K := fun y1 σ' => ((y1 = 0 ∧ (p0 < 0 ∨ 24 < p0)) ∨ (y1 = 1 ∧ 0 ≤ p0 ∧ p0 ≤ 24)) ∧ (fun σ' => IF (MK 250 256 633 634) σ σ' ∧ σ' 36 0 0 633 = 1 ∧ σ' 36 0 0 250 = u0 ∧ σ' 36 0 0 251 = u1 ∧ True) σ') (r := []) zk_133_1 rfl rfl rfl rfl rfl rfl (Or.inl (Or.inl rfl)) (fun σ' h => (m_124 p0 (by omega) σ' h.1.1 ).le (Nat.le_of_ble_eq_true rfl) (fun v σ2 ⟨y, h1, h2, h3, h4⟩ => ⟨y, h1, h2, h.1.tr h3 MN_sub, (h3.2 _ _ _ _ (fun q => q)).trans (h.2.1), (h3.2 _ _ _ _ (fun q => q)).trans (h.2.2.1), (h3.2 _ _ _ _ (fun q => q)).trans (h.2.2.2.1), trivial⟩)) (pc' := 4) rfl (fun y1 => ?_)
  refine G_ex (fun hy1 => ?_)
  refine T_if_ne zk_133_4 (by omega) (pc' := 7) rfl (fun h2 => ?_) (fun h3 => ?_)
  ·
    refine T_op zk_133_13 rfl X_ic (pc' := 14) rfl ?_
    refine T_st (L' := [(0, av 35 0 0), (1, iv p0), (2, iv 0)]) zk_133_14 (nL := 3) rfl rfl rfl rfl rfl (pc' := 15) rfl ?_
    refine T_ld zk_133_15 rfl rfl rfl (pc' := 16) rfl ?_
    refine T_ld zk_133_16 rfl rfl rfl (pc' := 17) rfl ?_
    refine T_getR (t' := 36) (i' := 0) (k' := 0) zk_133_17 rfl rfl rfl vd_35 (pc' := 20) rfl ?_
    refine T_op zk_133_20 rfl (X_si (v := 633) (by decide)) (pc' := 23) rfl ?_
    refine G_ialdX (w := 1) (ln := 646) zk_133_23 rfl rfl (vd_36 (by omega)) (by omega) (by omega) (by omega) (fun σ' h => h.2.1) (pc' := 24) rfl ?_
    refine T_icmp_ge zk_133_24 (by omega) (by omega) (pc' := 27) rfl (fun h4 => ?_) (fun h5 => ?_)
    · exfalso; omega
    ·
      refine T_ld zk_133_27 rfl rfl rfl (pc' := 28) rfl ?_
      refine T_getR (t' := 36) (i' := 0) (k' := 0) zk_133_28 rfl rfl rfl vd_35 (pc' := 31) rfl ?_
      refine T_op zk_133_31 rfl (X_si (v := 250) (by decide)) (pc' := 34) rfl ?_
      refine T_ld zk_133_34 rfl rfl rfl (pc' := 35) rfl ?_
      refine T_opc (w := 250) zk_133_35 rfl X_add (by omega) (pc' := 36) rfl ?_
      refine G_ialdX (w := u0) (ln := 646) zk_133_36 rfl rfl (vd_36 (by omega)) (by omega) (by omega) (by omega) (fun σ' h => h.2.2.1) (pc' := 37) rfl ?_
      refine T_ld zk_133_37 rfl rfl rfl (pc' := 38) rfl ?_
      refine T_icmp_ne zk_133_38 (by omega) (by omega) (pc' := 41) rfl (fun h6 => ?_) (fun h7 => ?_)
      ·
        refine T_iinc (L' := [(0, av 35 0 0), (1, iv p0), (2, iv 1)]) zk_133_48 (nL := 3) rfl rfl rfl rfl (pc' := 51) rfl ?_
        refine T_goto zk_133_51 ?_
        refine T_ld zk_133_15 rfl rfl rfl (pc' := 16) rfl ?_
        refine T_ld zk_133_16 rfl rfl rfl (pc' := 17) rfl ?_
        refine T_getR (t' := 36) (i' := 0) (k' := 0) zk_133_17 rfl rfl rfl vd_35 (pc' := 20) rfl ?_
        refine T_op zk_133_20 rfl (X_si (v := 633) (by decide)) (pc' := 23) rfl ?_
        refine G_ialdX (w := 1) (ln := 646) zk_133_23 rfl rfl (vd_36 (by omega)) (by omega) (by omega) (by omega) (fun σ' h => h.2.1) (pc' := 24) rfl ?_
        refine T_icmp_ge zk_133_24 (by omega) (by omega) (pc' := 27) rfl (fun h8 => ?_) (fun h9 => ?_)
        ·
          refine T_ld zk_133_54 rfl rfl rfl (pc' := 55) rfl ?_
          refine T_getR (t' := 36) (i' := 0) (k' := 0) zk_133_55 rfl rfl rfl vd_35 (pc' := 58) rfl ?_
          refine T_op zk_133_58 rfl (X_si (v := 633) (by decide)) (pc' := 61) rfl ?_
          refine G_ialdX (w := 1) (ln := 646) zk_133_61 rfl rfl (vd_36 (by omega)) (by omega) (by omega) (by omega) (fun σ' h => h.2.1) (pc' := 62) rfl ?_
          refine T_op zk_133_62 rfl X_ic (pc' := 63) rfl ?_
          refine T_icmp_ne zk_133_63 (by omega) (by omega) (pc' := 66) rfl (fun h10 => ?_) (fun h11 => ?_)
          ·
            refine T_ld zk_133_73 rfl rfl rfl (pc' := 74) rfl ?_
            refine T_getR (t' := 36) (i' := 0) (k' := 0) zk_133_74 rfl rfl rfl vd_35 (pc' := 77) rfl ?_
            refine T_op zk_133_77 rfl (X_si (v := 250) (by decide)) (pc' := 80) rfl ?_
            refine T_ld zk_133_80 rfl rfl rfl (pc' := 81) rfl ?_
            refine T_getR (t' := 36) (i' := 0) (k' := 0) zk_133_81 rfl rfl rfl vd_35 (pc' := 84) rfl ?_
            refine T_op zk_133_84 rfl (X_si (v := 633) (by decide)) (pc' := 87) rfl ?_
            refine G_ialdX (w := 1) (ln := 646) zk_133_87 rfl rfl (vd_36 (by omega)) (by omega) (by omega) (by omega) (fun σ' h => h.2.1) (pc' := 88) rfl ?_
            refine T_opc (w := 251) zk_133_88 rfl X_add (by omega) (pc' := 89) rfl ?_
            refine T_ld zk_133_89 rfl rfl rfl (pc' := 90) rfl ?_
            refine G_iast (J' := (fun σ' => IF (MK 250 256 633 634) σ σ' ∧ σ' 36 0 0 633 = 1 ∧ σ' 36 0 0 250 = u0 ∧ σ' 36 0 0 251 = p0 ∧ True)) (ln := 646) zk_133_90 rfl rfl (vd_36 (by omega)) (by omega) (by omega) (by omega) (fun σ' h => ⟨h.1.up (by simp only [rgP] <;> omega) (by first | exact pMK rfl | (unfold MK; omega)), (up_ne (by omega)).trans (h.2.1), (up_ne (by omega)).trans (h.2.2.1), up_eq, trivial⟩) (pc' := 91) rfl ?_
            refine T_ld zk_133_91 rfl rfl rfl (pc' := 92) rfl ?_
            refine T_getR (t' := 36) (i' := 0) (k' := 0) zk_133_92 rfl rfl rfl vd_35 (pc' := 95) rfl ?_
            refine T_op zk_133_95 rfl (X_si (v := 253) (by decide)) (pc' := 98) rfl ?_
            refine T_ld zk_133_98 rfl rfl rfl (pc' := 99) rfl ?_
            refine T_getR (t' := 36) (i' := 0) (k' := 0) zk_133_99 rfl rfl rfl vd_35 (pc' := 102) rfl ?_
            refine T_op zk_133_102 rfl (X_si (v := 633) (by decide)) (pc' := 105) rfl ?_
            refine G_ialdX (w := 1) (ln := 646) zk_133_105 rfl rfl (vd_36 (by omega)) (by omega) (by omega) (by omega) (fun σ' h => h.2.1) (pc' := 106) rfl ?_
            refine T_opc (w := 254) zk_133_106 rfl X_add (by omega) (pc' := 107) rfl ?_
            refine T_op zk_133_107 rfl X_ic (pc' := 108) rfl ?_
            refine G_iast (J' := (fun σ' => IF (MK 250 256 633 634) σ σ' ∧ σ' 36 0 0 633 = 1 ∧ σ' 36 0 0 250 = u0 ∧ σ' 36 0 0 251 = p0 ∧ σ' 36 0 0 254 = 0 ∧ True)) (ln := 646) zk_133_108 rfl rfl (vd_36 (by omega)) (by omega) (by omega) (by omega) (fun σ' h => ⟨h.1.up (by simp only [rgP] <;> omega) (by first | exact pMK rfl | (unfold MK; omega)), (up_ne (by omega)).trans (h.2.1), (up_ne (by omega)).trans (h.2.2.1), (up_ne (by omega)).trans (h.2.2.2.1), up_eq, trivial⟩) (pc' := 109) rfl ?_
            refine T_ld zk_133_109 rfl rfl rfl (pc' := 110) rfl ?_
            refine T_getR (t' := 36) (i' := 0) (k' := 0) zk_133_110 rfl rfl rfl vd_35 (pc' := 113) rfl ?_
            refine T_op zk_133_113 rfl (X_si (v := 633) (by decide)) (pc' := 116) rfl ?_
            refine T_op (st' := [iv 633, av 36 0 0, iv 633, av 36 0 0]) zk_133_116 rfl rfl (pc' := 117) rfl ?_
            refine G_ialdX (w := 1) (ln := 646) zk_133_117 rfl rfl (vd_36 (by omega)) (by omega) (by omega) (by omega) (fun σ' h => h.2.1) (pc' := 118) rfl ?_
            refine T_op (st' := [iv 1, iv 633, av 36 0 0, iv 1]) zk_133_118 rfl rfl (pc' := 119) rfl ?_
            refine T_op zk_133_119 rfl X_ic (pc' := 120) rfl ?_
            refine T_opc (w := 2) zk_133_120 rfl X_add (by omega) (pc' := 121) rfl ?_
            refine G_iast (J' := (fun σ' => IF (MK 250 256 633 634) σ σ' ∧ σ' 36 0 0 250 = u0 ∧ σ' 36 0 0 251 = p0 ∧ σ' 36 0 0 254 = 0 ∧ σ' 36 0 0 633 = 2 ∧ True)) (ln := 646) zk_133_121 rfl rfl (vd_36 (by omega)) (by omega) (by omega) (by omega) (fun σ' h => ⟨h.1.up (by simp only [rgP] <;> omega) (by first | exact pMK rfl | (unfold MK; omega)), (up_ne (by omega)).trans (h.2.2.1), (up_ne (by omega)).trans (h.2.2.2.1), (up_ne (by omega)).trans (h.2.2.2.2.1), up_eq, trivial⟩) (pc' := 122) rfl ?_
            exact T_iret zk_133_122 rfl (fun σ' h => ⟨_, rfl, (by omega), h.1, ⟨(by have e := h.2.2.2.2.1; omega), h.2.1, (by have e := h.2.2.1; omega), trivial⟩⟩)
          · exfalso; omega
        · exfalso; omega
      ·
        refine T_ld zk_133_41 rfl rfl rfl (pc' := 42) rfl ?_
        refine T_op zk_133_42 rfl (X_bi (v := -6) (by decide)) (pc' := 44) rfl ?_
        refine T_calli (K := fun y12 σ' => (y12 = (-6)) ∧ (fun σ' => IF (MK 250 256 633 634) σ σ' ∧ σ' 36 0 0 633 = 1 ∧ σ' 36 0 0 250 = u0 ∧ σ' 36 0 0 251 = u1 ∧ True) σ') (r := []) zk_133_44 rfl rfl rfl rfl rfl rfl (Or.inr ⟨_, _, _, _, rfl, vd_35, rfl⟩) (fun σ' h => (m_123 ((-6)) (by omega) σ' h.1.1 ).le (Nat.le_of_ble_eq_true rfl) (fun v σ2 ⟨y, h1, h2, h3, h4⟩ => ⟨y, h1, h2, h.1.tr h3 sb61_d26300f, (h3.2 _ _ _ _ (by first | exact nMT rfl | (unfold MT; omega))).trans (h.2.1), (h3.2 _ _ _ _ (by first | exact nMT rfl | (unfold MT; omega))).trans (h.2.2.1), (h3.2 _ _ _ _ (by first | exact nMT rfl | (unfold MT; omega))).trans (h.2.2.2.1), trivial⟩)) (pc' := 47) rfl (fun y12 => ?_)
        refine G_ex (fun hy12 => ?_)
        obtain rfl : y12 = (-6) := by omega
        exact T_iret zk_133_47 rfl (fun σ' h => ⟨_, rfl, (by omega), h.1, ⟨(by have e := h.2.1; omega), h.2.2.1, (by have e := h.2.2.2.1; omega), trivial⟩⟩)
  ·
    refine T_ld zk_133_7 rfl rfl rfl (pc' := 8) rfl ?_
    refine T_op zk_133_8 rfl X_ic (pc' := 9) rfl ?_
    refine T_calli (K := fun y13 σ' => (y13 = (-1)) ∧ (fun σ' => IF (MK 250 256 633 634) σ σ' ∧ σ' 36 0 0 633 = 1 ∧ σ' 36 0 0 250 = u0 ∧ σ' 36 0 0 251 = u1 ∧ True) σ') (r := []) zk_133_9 rfl rfl rfl rfl rfl rfl (Or.inr ⟨_, _, _, _, rfl, vd_35, rfl⟩) (fun σ' h => (m_123 ((-1)) (by omega) σ' h.1.1 ).le (Nat.le_of_ble_eq_true rfl) (fun v σ2 ⟨y, h1, h2, h3, h4⟩ => ⟨y, h1, h2, h.1.tr h3 sb61_d26300f, (h3.2 _ _ _ _ (by first | exact nMT rfl | (unfold MT; omega))).trans (h.2.1), (h3.2 _ _ _ _ (by first | exact nMT rfl | (unfold MT; omega))).trans (h.2.2.1), (h3.2 _ _ _ _ (by first | exact nMT rfl | (unfold MT; omega))).trans (h.2.2.2.1), trivial⟩)) (pc' := 12) rfl (fun y13 => ?_)
    refine G_ex (fun hy13 => ?_)
    obtain rfl : y13 = (-1) := by omega
    exact T_iret zk_133_12 rfl (fun σ' h => ⟨_, rfl, (by omega), h.1, ⟨(by have e := h.2.1; omega), h.2.2.1, (by have e := h.2.2.2.1; omega), trivial⟩⟩)
/-- WModel.mouth -/
theorem r_133_2 {xs : Nat × (Nat → Int32)} (p0 : Int) (u0 : Int) (u1 : Int) (u2 : Int) (hp0 : -2147483648 ≤ p0 ∧ p0 ≤ 2147483647) (hu0 : 0 ≤ u0 ∧ u0 ≤ 24) (hu1 : 0 ≤ u1 ∧ u1 ≤ 24) (hu2 : 0 ≤ u2 ∧ u2 ≤ 24) (σ : ZS) (hI : Inv σ)  (s1 : σ 36 0 0 633 = 2) (t0 : σ 36 0 0 250 = u0) (t1 : σ 36 0 0 251 = u1) (t2 : σ 36 0 0 252 = u2) : CT xs 2 133 [av 35 0 0, iv p0] σ (fun v σ' => ∃ y, v = some (iv y) ∧ ((y = -1 ∧ (¬ (0 ≤ p0 ∧ p0 ≤ 24))) ∨ (y = -6 ∧ ¬ (¬ (0 ≤ p0 ∧ p0 ≤ 24)) ∧ (u0 = p0)) ∨ (y = -6 ∧ ¬ (¬ (0 ≤ p0 ∧ p0 ≤ 24)) ∧ ¬ (u0 = p0) ∧ (u1 = p0)) ∨ (y = 2 ∧ ¬ (¬ (0 ≤ p0 ∧ p0 ≤ 24)) ∧ ¬ (u0 = p0) ∧ ¬ (u1 = p0))) ∧ IF (MK 250 256 633 634) σ σ' ∧ (((y = 2 → σ' 36 0 0 633 = 3) ∧ (¬ y = 2 → σ' 36 0 0 633 = 2)) ∧ σ' 36 0 0 250 = u0 ∧ σ' 36 0 0 251 = u1 ∧ (y = 2 → σ' 36 0 0 252 = p0) ∧ True)) := by
  refine G_ct (J := (fun σ' => IF (MK 250 256 633 634) σ σ' ∧ σ' 36 0 0 633 = 2 ∧ σ' 36 0 0 250 = u0 ∧ σ' 36 0 0 251 = u1 ∧ σ' 36 0 0 252 = u2 ∧ True)) (L := [(0, av 35 0 0), (1, iv p0)]) (nL := 3) rfl rfl rfl ⟨IF.rf hI, s1, t0, t1, t2, trivial⟩ ?_
  refine T_ld zk_133_0 rfl rfl rfl (pc' := 1) rfl ?_
  refine T_calli (K := fun y1 σ' => ((y1 = 0 ∧ (p0 < 0 ∨ 24 < p0)) ∨ (y1 = 1 ∧ 0 ≤ p0 ∧ p0 ≤ 24)) ∧ (fun σ' => IF (MK 250 256 633 634) σ σ' ∧ σ' 36 0 0 633 = 2 ∧ σ' 36 0 0 250 = u0 ∧ σ' 36 0 0 251 = u1 ∧ σ' 36 0 0 252 = u2 ∧ True) σ') (r := []) zk_133_1 rfl rfl rfl rfl rfl rfl (Or.inl (Or.inl rfl)) (fun σ' h => (m_124 p0 (by omega) σ' h.1.1 ).le (Nat.le_of_ble_eq_true rfl) (fun v σ2 ⟨y, h1, h2, h3, h4⟩ => ⟨y, h1, h2, h.1.tr h3 MN_sub, (h3.2 _ _ _ _ (fun q => q)).trans (h.2.1), (h3.2 _ _ _ _ (fun q => q)).trans (h.2.2.1), (h3.2 _ _ _ _ (fun q => q)).trans (h.2.2.2.1), (h3.2 _ _ _ _ (fun q => q)).trans (h.2.2.2.2.1), trivial⟩)) (pc' := 4) rfl (fun y1 => ?_)
  refine G_ex (fun hy1 => ?_)
  refine T_if_ne zk_133_4 (by omega) (pc' := 7) rfl (fun h2 => ?_) (fun h3 => ?_)
  ·
    refine T_op zk_133_13 rfl X_ic (pc' := 14) rfl ?_
    refine T_st (L' := [(0, av 35 0 0), (1, iv p0), (2, iv 0)]) zk_133_14 (nL := 3) rfl rfl rfl rfl rfl (pc' := 15) rfl ?_
    refine T_ld zk_133_15 rfl rfl rfl (pc' := 16) rfl ?_
    refine T_ld zk_133_16 rfl rfl rfl (pc' := 17) rfl ?_
    refine T_getR (t' := 36) (i' := 0) (k' := 0) zk_133_17 rfl rfl rfl vd_35 (pc' := 20) rfl ?_
    refine T_op zk_133_20 rfl (X_si (v := 633) (by decide)) (pc' := 23) rfl ?_
    refine G_ialdX (w := 2) (ln := 646) zk_133_23 rfl rfl (vd_36 (by omega)) (by omega) (by omega) (by omega) (fun σ' h => h.2.1) (pc' := 24) rfl ?_
    refine T_icmp_ge zk_133_24 (by omega) (by omega) (pc' := 27) rfl (fun h4 => ?_) (fun h5 => ?_)
    · exfalso; omega
    ·
      refine T_ld zk_133_27 rfl rfl rfl (pc' := 28) rfl ?_
      refine T_getR (t' := 36) (i' := 0) (k' := 0) zk_133_28 rfl rfl rfl vd_35 (pc' := 31) rfl ?_
      refine T_op zk_133_31 rfl (X_si (v := 250) (by decide)) (pc' := 34) rfl ?_
      refine T_ld zk_133_34 rfl rfl rfl (pc' := 35) rfl ?_
      refine T_opc (w := 250) zk_133_35 rfl X_add (by omega) (pc' := 36) rfl ?_
      refine G_ialdX (w := u0) (ln := 646) zk_133_36 rfl rfl (vd_36 (by omega)) (by omega) (by omega) (by omega) (fun σ' h => h.2.2.1) (pc' := 37) rfl ?_
      refine T_ld zk_133_37 rfl rfl rfl (pc' := 38) rfl ?_
      refine T_icmp_ne zk_133_38 (by omega) (by omega) (pc' := 41) rfl (fun h6 => ?_) (fun h7 => ?_)
      ·
        refine T_iinc (L' := [(0, av 35 0 0), (1, iv p0), (2, iv 1)]) zk_133_48 (nL := 3) rfl rfl rfl rfl (pc' := 51) rfl ?_
        refine T_goto zk_133_51 ?_
        refine T_ld zk_133_15 rfl rfl rfl (pc' := 16) rfl ?_
        refine T_ld zk_133_16 rfl rfl rfl (pc' := 17) rfl ?_
        refine T_getR (t' := 36) (i' := 0) (k' := 0) zk_133_17 rfl rfl rfl vd_35 (pc' := 20) rfl ?_
        refine T_op zk_133_20 rfl (X_si (v := 633) (by decide)) (pc' := 23) rfl ?_
        refine G_ialdX (w := 2) (ln := 646) zk_133_23 rfl rfl (vd_36 (by omega)) (by omega) (by omega) (by omega) (fun σ' h => h.2.1) (pc' := 24) rfl ?_
        refine T_icmp_ge zk_133_24 (by omega) (by omega) (pc' := 27) rfl (fun h8 => ?_) (fun h9 => ?_)
        · exfalso; omega
        ·
          refine T_ld zk_133_27 rfl rfl rfl (pc' := 28) rfl ?_
          refine T_getR (t' := 36) (i' := 0) (k' := 0) zk_133_28 rfl rfl rfl vd_35 (pc' := 31) rfl ?_
          refine T_op zk_133_31 rfl (X_si (v := 250) (by decide)) (pc' := 34) rfl ?_
          refine T_ld zk_133_34 rfl rfl rfl (pc' := 35) rfl ?_
          refine T_opc (w := 251) zk_133_35 rfl X_add (by omega) (pc' := 36) rfl ?_
          refine G_ialdX (w := u1) (ln := 646) zk_133_36 rfl rfl (vd_36 (by omega)) (by omega) (by omega) (by omega) (fun σ' h => h.2.2.2.1) (pc' := 37) rfl ?_
          refine T_ld zk_133_37 rfl rfl rfl (pc' := 38) rfl ?_
          refine T_icmp_ne zk_133_38 (by omega) (by omega) (pc' := 41) rfl (fun h10 => ?_) (fun h11 => ?_)
          ·
            refine T_iinc (L' := [(0, av 35 0 0), (1, iv p0), (2, iv 2)]) zk_133_48 (nL := 3) rfl rfl rfl rfl (pc' := 51) rfl ?_
            refine T_goto zk_133_51 ?_
            refine T_ld zk_133_15 rfl rfl rfl (pc' := 16) rfl ?_
            refine T_ld zk_133_16 rfl rfl rfl (pc' := 17) rfl ?_
            refine T_getR (t' := 36) (i' := 0) (k' := 0) zk_133_17 rfl rfl rfl vd_35 (pc' := 20) rfl ?_
            refine T_op zk_133_20 rfl (X_si (v := 633) (by decide)) (pc' := 23) rfl ?_
            refine G_ialdX (w := 2) (ln := 646) zk_133_23 rfl rfl (vd_36 (by omega)) (by omega) (by omega) (by omega) (fun σ' h => h.2.1) (pc' := 24) rfl ?_
            refine T_icmp_ge zk_133_24 (by omega) (by omega) (pc' := 27) rfl (fun h12 => ?_) (fun h13 => ?_)
            ·
              refine T_ld zk_133_54 rfl rfl rfl (pc' := 55) rfl ?_
              refine T_getR (t' := 36) (i' := 0) (k' := 0) zk_133_55 rfl rfl rfl vd_35 (pc' := 58) rfl ?_
              refine T_op zk_133_58 rfl (X_si (v := 633) (by decide)) (pc' := 61) rfl ?_
              refine G_ialdX (w := 2) (ln := 646) zk_133_61 rfl rfl (vd_36 (by omega)) (by omega) (by omega) (by omega) (fun σ' h => h.2.1) (pc' := 62) rfl ?_
              refine T_op zk_133_62 rfl X_ic (pc' := 63) rfl ?_
              refine T_icmp_ne zk_133_63 (by omega) (by omega) (pc' := 66) rfl (fun h14 => ?_) (fun h15 => ?_)
              ·
                refine T_ld zk_133_73 rfl rfl rfl (pc' := 74) rfl ?_
                refine T_getR (t' := 36) (i' := 0) (k' := 0) zk_133_74 rfl rfl rfl vd_35 (pc' := 77) rfl ?_
                refine T_op zk_133_77 rfl (X_si (v := 250) (by decide)) (pc' := 80) rfl ?_
                refine T_ld zk_133_80 rfl rfl rfl (pc' := 81) rfl ?_
                refine T_getR (t' := 36) (i' := 0) (k' := 0) zk_133_81 rfl rfl rfl vd_35 (pc' := 84) rfl ?_
                refine T_op zk_133_84 rfl (X_si (v := 633) (by decide)) (pc' := 87) rfl ?_
                refine G_ialdX (w := 2) (ln := 646) zk_133_87 rfl rfl (vd_36 (by omega)) (by omega) (by omega) (by omega) (fun σ' h => h.2.1) (pc' := 88) rfl ?_
                refine T_opc (w := 252) zk_133_88 rfl X_add (by omega) (pc' := 89) rfl ?_
                refine T_ld zk_133_89 rfl rfl rfl (pc' := 90) rfl ?_
                refine G_iast (J' := (fun σ' => IF (MK 250 256 633 634) σ σ' ∧ σ' 36 0 0 633 = 2 ∧ σ' 36 0 0 250 = u0 ∧ σ' 36 0 0 251 = u1 ∧ σ' 36 0 0 252 = p0 ∧ True)) (ln := 646) zk_133_90 rfl rfl (vd_36 (by omega)) (by omega) (by omega) (by omega) (fun σ' h => ⟨h.1.up (by simp only [rgP] <;> omega) (by first | exact pMK rfl | (unfold MK; omega)), (up_ne (by omega)).trans (h.2.1), (up_ne (by omega)).trans (h.2.2.1), (up_ne (by omega)).trans (h.2.2.2.1), up_eq, trivial⟩) (pc' := 91) rfl ?_
                refine T_ld zk_133_91 rfl rfl rfl (pc' := 92) rfl ?_
                refine T_getR (t' := 36) (i' := 0) (k' := 0) zk_133_92 rfl rfl rfl vd_35 (pc' := 95) rfl ?_
                refine T_op zk_133_95 rfl (X_si (v := 253) (by decide)) (pc' := 98) rfl ?_
                refine T_ld zk_133_98 rfl rfl rfl (pc' := 99) rfl ?_
                refine T_getR (t' := 36) (i' := 0) (k' := 0) zk_133_99 rfl rfl rfl vd_35 (pc' := 102) rfl ?_
                refine T_op zk_133_102 rfl (X_si (v := 633) (by decide)) (pc' := 105) rfl ?_
                refine G_ialdX (w := 2) (ln := 646) zk_133_105 rfl rfl (vd_36 (by omega)) (by omega) (by omega) (by omega) (fun σ' h => h.2.1) (pc' := 106) rfl ?_
                refine T_opc (w := 255) zk_133_106 rfl X_add (by omega) (pc' := 107) rfl ?_
                refine T_op zk_133_107 rfl X_ic (pc' := 108) rfl ?_
                refine G_iast (J' := (fun σ' => IF (MK 250 256 633 634) σ σ' ∧ σ' 36 0 0 633 = 2 ∧ σ' 36 0 0 250 = u0 ∧ σ' 36 0 0 251 = u1 ∧ σ' 36 0 0 252 = p0 ∧ σ' 36 0 0 255 = 0 ∧ True)) (ln := 646) zk_133_108 rfl rfl (vd_36 (by omega)) (by omega) (by omega) (by omega) (fun σ' h => ⟨h.1.up (by simp only [rgP] <;> omega) (by first | exact pMK rfl | (unfold MK; omega)), (up_ne (by omega)).trans (h.2.1), (up_ne (by omega)).trans (h.2.2.1), (up_ne (by omega)).trans (h.2.2.2.1), (up_ne (by omega)).trans (h.2.2.2.2.1), up_eq, trivial⟩) (pc' := 109) rfl ?_
                refine T_ld zk_133_109 rfl rfl rfl (pc' := 110) rfl ?_
                refine T_getR (t' := 36) (i' := 0) (k' := 0) zk_133_110 rfl rfl rfl vd_35 (pc' := 113) rfl ?_
                refine T_op zk_133_113 rfl (X_si (v := 633) (by decide)) (pc' := 116) rfl ?_
                refine T_op (st' := [iv 633, av 36 0 0, iv 633, av 36 0 0]) zk_133_116 rfl rfl (pc' := 117) rfl ?_
                refine G_ialdX (w := 2) (ln := 646) zk_133_117 rfl rfl (vd_36 (by omega)) (by omega) (by omega) (by omega) (fun σ' h => h.2.1) (pc' := 118) rfl ?_
                refine T_op (st' := [iv 2, iv 633, av 36 0 0, iv 2]) zk_133_118 rfl rfl (pc' := 119) rfl ?_
                refine T_op zk_133_119 rfl X_ic (pc' := 120) rfl ?_
                refine T_opc (w := 3) zk_133_120 rfl X_add (by omega) (pc' := 121) rfl ?_
                refine G_iast (J' := (fun σ' => IF (MK 250 256 633 634) σ σ' ∧ σ' 36 0 0 250 = u0 ∧ σ' 36 0 0 251 = u1 ∧ σ' 36 0 0 252 = p0 ∧ σ' 36 0 0 255 = 0 ∧ σ' 36 0 0 633 = 3 ∧ True)) (ln := 646) zk_133_121 rfl rfl (vd_36 (by omega)) (by omega) (by omega) (by omega) (fun σ' h => ⟨h.1.up (by simp only [rgP] <;> omega) (by first | exact pMK rfl | (unfold MK; omega)), (up_ne (by omega)).trans (h.2.2.1), (up_ne (by omega)).trans (h.2.2.2.1), (up_ne (by omega)).trans (h.2.2.2.2.1), (up_ne (by omega)).trans (h.2.2.2.2.2.1), up_eq, trivial⟩) (pc' := 122) rfl ?_
                exact T_iret zk_133_122 rfl (fun σ' h => ⟨_, rfl, (by omega), h.1, ⟨(by have e := h.2.2.2.2.2.1; omega), h.2.1, h.2.2.1, (by have e := h.2.2.2.1; omega), trivial⟩⟩)
              · exfalso; omega
            · exfalso; omega
          ·
            refine T_ld zk_133_41 rfl rfl rfl (pc' := 42) rfl ?_
            refine T_op zk_133_42 rfl (X_bi (v := -6) (by decide)) (pc' := 44) rfl ?_
            refine T_calli (K := fun y16 σ' => (y16 = (-6)) ∧ (fun σ' => IF (MK 250 256 633 634) σ σ' ∧ σ' 36 0 0 633 = 2 ∧ σ' 36 0 0 250 = u0 ∧ σ' 36 0 0 251 = u1 ∧ σ' 36 0 0 252 = u2 ∧ True) σ') (r := []) zk_133_44 rfl rfl rfl rfl rfl rfl (Or.inr ⟨_, _, _, _, rfl, vd_35, rfl⟩) (fun σ' h => (m_123 ((-6)) (by omega) σ' h.1.1 ).le (Nat.le_of_ble_eq_true rfl) (fun v σ2 ⟨y, h1, h2, h3, h4⟩ => ⟨y, h1, h2, h.1.tr h3 sb61_d26300f, (h3.2 _ _ _ _ (by first | exact nMT rfl | (unfold MT; omega))).trans (h.2.1), (h3.2 _ _ _ _ (by first | exact nMT rfl | (unfold MT; omega))).trans (h.2.2.1), (h3.2 _ _ _ _ (by first | exact nMT rfl | (unfold MT; omega))).trans (h.2.2.2.1), (h3.2 _ _ _ _ (by first | exact nMT rfl | (unfold MT; omega))).trans (h.2.2.2.2.1), trivial⟩)) (pc' := 47) rfl (fun y16 => ?_)
            refine G_ex (fun hy16 => ?_)
            obtain rfl : y16 = (-6) := by omega
            exact T_iret zk_133_47 rfl (fun σ' h => ⟨_, rfl, (by omega), h.1, ⟨(by have e := h.2.1; omega), h.2.2.1, h.2.2.2.1, (by have e := h.2.2.2.2.1; omega), trivial⟩⟩)
      ·
        refine T_ld zk_133_41 rfl rfl rfl (pc' := 42) rfl ?_
        refine T_op zk_133_42 rfl (X_bi (v := -6) (by decide)) (pc' := 44) rfl ?_
        refine T_calli (K := fun y17 σ' => (y17 = (-6)) ∧ (fun σ' => IF (MK 250 256 633 634) σ σ' ∧ σ' 36 0 0 633 = 2 ∧ σ' 36 0 0 250 = u0 ∧ σ' 36 0 0 251 = u1 ∧ σ' 36 0 0 252 = u2 ∧ True) σ') (r := []) zk_133_44 rfl rfl rfl rfl rfl rfl (Or.inr ⟨_, _, _, _, rfl, vd_35, rfl⟩) (fun σ' h => (m_123 ((-6)) (by omega) σ' h.1.1 ).le (Nat.le_of_ble_eq_true rfl) (fun v σ2 ⟨y, h1, h2, h3, h4⟩ => ⟨y, h1, h2, h.1.tr h3 sb61_d26300f, (h3.2 _ _ _ _ (by first | exact nMT rfl | (unfold MT; omega))).trans (h.2.1), (h3.2 _ _ _ _ (by first | exact nMT rfl | (unfold MT; omega))).trans (h.2.2.1), (h3.2 _ _ _ _ (by first | exact nMT rfl | (unfold MT; omega))).trans (h.2.2.2.1), (h3.2 _ _ _ _ (by first | exact nMT rfl | (unfold MT; omega))).trans (h.2.2.2.2.1), trivial⟩)) (pc' := 47) rfl (fun y17 => ?_)
        refine G_ex (fun hy17 => ?_)
        obtain rfl : y17 = (-6) := by omega
        exact T_iret zk_133_47 rfl (fun σ' h => ⟨_, rfl, (by omega), h.1, ⟨(by have e := h.2.1; omega), h.2.2.1, h.2.2.2.1, (by have e := h.2.2.2.2.1; omega), trivial⟩⟩)
  ·
    refine T_ld zk_133_7 rfl rfl rfl (pc' := 8) rfl ?_
    refine T_op zk_133_8 rfl X_ic (pc' := 9) rfl ?_
    refine T_calli (K := fun y18 σ' => (y18 = (-1)) ∧ (fun σ' => IF (MK 250 256 633 634) σ σ' ∧ σ' 36 0 0 633 = 2 ∧ σ' 36 0 0 250 = u0 ∧ σ' 36 0 0 251 = u1 ∧ σ' 36 0 0 252 = u2 ∧ True) σ') (r := []) zk_133_9 rfl rfl rfl rfl rfl rfl (Or.inr ⟨_, _, _, _, rfl, vd_35, rfl⟩) (fun σ' h => (m_123 ((-1)) (by omega) σ' h.1.1 ).le (Nat.le_of_ble_eq_true rfl) (fun v σ2 ⟨y, h1, h2, h3, h4⟩ => ⟨y, h1, h2, h.1.tr h3 sb61_d26300f, (h3.2 _ _ _ _ (by first | exact nMT rfl | (unfold MT; omega))).trans (h.2.1), (h3.2 _ _ _ _ (by first | exact nMT rfl | (unfold MT; omega))).trans (h.2.2.1), (h3.2 _ _ _ _ (by first | exact nMT rfl | (unfold MT; omega))).trans (h.2.2.2.1), (h3.2 _ _ _ _ (by first | exact nMT rfl | (unfold MT; omega))).trans (h.2.2.2.2.1), trivial⟩)) (pc' := 12) rfl (fun y18 => ?_)
    refine G_ex (fun hy18 => ?_)
    obtain rfl : y18 = (-1) := by omega
    exact T_iret zk_133_12 rfl (fun σ' h => ⟨_, rfl, (by omega), h.1, ⟨(by have e := h.2.1; omega), h.2.2.1, h.2.2.2.1, (by have e := h.2.2.2.2.1; omega), trivial⟩⟩)
/-- WModel.mouth -/
theorem r_133_3 {xs : Nat × (Nat → Int32)} (p0 : Int) (u0 : Int) (u1 : Int) (u2 : Int) (hp0 : -2147483648 ≤ p0 ∧ p0 ≤ 2147483647) (hu0 : 0 ≤ u0 ∧ u0 ≤ 24) (hu1 : 0 ≤ u1 ∧ u1 ≤ 24) (hu2 : 0 ≤ u2 ∧ u2 ≤ 24) (σ : ZS) (hI : Inv σ)  (s1 : σ 36 0 0 633 = 3) (t0 : σ 36 0 0 250 = u0) (t1 : σ 36 0 0 251 = u1) (t2 : σ 36 0 0 252 = u2) : CT xs 2 133 [av 35 0 0, iv p0] σ (fun v σ' => ∃ y, v = some (iv y) ∧ ((y = -1 ∧ (¬ (0 ≤ p0 ∧ p0 ≤ 24))) ∨ (y = -6 ∧ ¬ (¬ (0 ≤ p0 ∧ p0 ≤ 24)) ∧ (u0 = p0)) ∨ (y = -6 ∧ ¬ (¬ (0 ≤ p0 ∧ p0 ≤ 24)) ∧ ¬ (u0 = p0) ∧ (u1 = p0)) ∨ (y = -6 ∧ ¬ (¬ (0 ≤ p0 ∧ p0 ≤ 24)) ∧ ¬ (u0 = p0) ∧ ¬ (u1 = p0) ∧ (u2 = p0)) ∨ (y = -7 ∧ ¬ (¬ (0 ≤ p0 ∧ p0 ≤ 24)) ∧ ¬ (u0 = p0) ∧ ¬ (u1 = p0) ∧ ¬ (u2 = p0))) ∧ IF (MK 250 256 633 634) σ σ' ∧ (σ' 36 0 0 633 = 3 ∧ σ' 36 0 0 250 = u0 ∧ σ' 36 0 0 251 = u1 ∧ σ' 36 0 0 252 = u2 ∧ True)) := by
  refine G_ct (J := (fun σ' => IF (MK 250 256 633 634) σ σ' ∧ σ' 36 0 0 633 = 3 ∧ σ' 36 0 0 250 = u0 ∧ σ' 36 0 0 251 = u1 ∧ σ' 36 0 0 252 = u2 ∧ True)) (L := [(0, av 35 0 0), (1, iv p0)]) (nL := 3) rfl rfl rfl ⟨IF.rf hI, s1, t0, t1, t2, trivial⟩ ?_
  refine T_ld zk_133_0 rfl rfl rfl (pc' := 1) rfl ?_
  refine T_calli (K := fun y1 σ' => ((y1 = 0 ∧ (p0 < 0 ∨ 24 < p0)) ∨ (y1 = 1 ∧ 0 ≤ p0 ∧ p0 ≤ 24)) ∧ (fun σ' => IF (MK 250 256 633 634) σ σ' ∧ σ' 36 0 0 633 = 3 ∧ σ' 36 0 0 250 = u0 ∧ σ' 36 0 0 251 = u1 ∧ σ' 36 0 0 252 = u2 ∧ True) σ') (r := []) zk_133_1 rfl rfl rfl rfl rfl rfl (Or.inl (Or.inl rfl)) (fun σ' h => (m_124 p0 (by omega) σ' h.1.1 ).le (Nat.le_of_ble_eq_true rfl) (fun v σ2 ⟨y, h1, h2, h3, h4⟩ => ⟨y, h1, h2, h.1.tr h3 MN_sub, (h3.2 _ _ _ _ (fun q => q)).trans (h.2.1), (h3.2 _ _ _ _ (fun q => q)).trans (h.2.2.1), (h3.2 _ _ _ _ (fun q => q)).trans (h.2.2.2.1), (h3.2 _ _ _ _ (fun q => q)).trans (h.2.2.2.2.1), trivial⟩)) (pc' := 4) rfl (fun y1 => ?_)
  refine G_ex (fun hy1 => ?_)
  refine T_if_ne zk_133_4 (by omega) (pc' := 7) rfl (fun h2 => ?_) (fun h3 => ?_)
  ·
    refine T_op zk_133_13 rfl X_ic (pc' := 14) rfl ?_
    refine T_st (L' := [(0, av 35 0 0), (1, iv p0), (2, iv 0)]) zk_133_14 (nL := 3) rfl rfl rfl rfl rfl (pc' := 15) rfl ?_
    refine T_ld zk_133_15 rfl rfl rfl (pc' := 16) rfl ?_
    refine T_ld zk_133_16 rfl rfl rfl (pc' := 17) rfl ?_
    refine T_getR (t' := 36) (i' := 0) (k' := 0) zk_133_17 rfl rfl rfl vd_35 (pc' := 20) rfl ?_
    refine T_op zk_133_20 rfl (X_si (v := 633) (by decide)) (pc' := 23) rfl ?_
    refine G_ialdX (w := 3) (ln := 646) zk_133_23 rfl rfl (vd_36 (by omega)) (by omega) (by omega) (by omega) (fun σ' h => h.2.1) (pc' := 24) rfl ?_
    refine T_icmp_ge zk_133_24 (by omega) (by omega) (pc' := 27) rfl (fun h4 => ?_) (fun h5 => ?_)
    · exfalso; omega
    ·
      refine T_ld zk_133_27 rfl rfl rfl (pc' := 28) rfl ?_
      refine T_getR (t' := 36) (i' := 0) (k' := 0) zk_133_28 rfl rfl rfl vd_35 (pc' := 31) rfl ?_
      refine T_op zk_133_31 rfl (X_si (v := 250) (by decide)) (pc' := 34) rfl ?_
      refine T_ld zk_133_34 rfl rfl rfl (pc' := 35) rfl ?_
      refine T_opc (w := 250) zk_133_35 rfl X_add (by omega) (pc' := 36) rfl ?_
      refine G_ialdX (w := u0) (ln := 646) zk_133_36 rfl rfl (vd_36 (by omega)) (by omega) (by omega) (by omega) (fun σ' h => h.2.2.1) (pc' := 37) rfl ?_
      refine T_ld zk_133_37 rfl rfl rfl (pc' := 38) rfl ?_
      refine T_icmp_ne zk_133_38 (by omega) (by omega) (pc' := 41) rfl (fun h6 => ?_) (fun h7 => ?_)
      ·
        refine T_iinc (L' := [(0, av 35 0 0), (1, iv p0), (2, iv 1)]) zk_133_48 (nL := 3) rfl rfl rfl rfl (pc' := 51) rfl ?_
        refine T_goto zk_133_51 ?_
        refine T_ld zk_133_15 rfl rfl rfl (pc' := 16) rfl ?_
        refine T_ld zk_133_16 rfl rfl rfl (pc' := 17) rfl ?_
        refine T_getR (t' := 36) (i' := 0) (k' := 0) zk_133_17 rfl rfl rfl vd_35 (pc' := 20) rfl ?_
        refine T_op zk_133_20 rfl (X_si (v := 633) (by decide)) (pc' := 23) rfl ?_
        refine G_ialdX (w := 3) (ln := 646) zk_133_23 rfl rfl (vd_36 (by omega)) (by omega) (by omega) (by omega) (fun σ' h => h.2.1) (pc' := 24) rfl ?_
        refine T_icmp_ge zk_133_24 (by omega) (by omega) (pc' := 27) rfl (fun h8 => ?_) (fun h9 => ?_)
        · exfalso; omega
        ·
          refine T_ld zk_133_27 rfl rfl rfl (pc' := 28) rfl ?_
          refine T_getR (t' := 36) (i' := 0) (k' := 0) zk_133_28 rfl rfl rfl vd_35 (pc' := 31) rfl ?_
          refine T_op zk_133_31 rfl (X_si (v := 250) (by decide)) (pc' := 34) rfl ?_
          refine T_ld zk_133_34 rfl rfl rfl (pc' := 35) rfl ?_
          refine T_opc (w := 251) zk_133_35 rfl X_add (by omega) (pc' := 36) rfl ?_
          refine G_ialdX (w := u1) (ln := 646) zk_133_36 rfl rfl (vd_36 (by omega)) (by omega) (by omega) (by omega) (fun σ' h => h.2.2.2.1) (pc' := 37) rfl ?_
          refine T_ld zk_133_37 rfl rfl rfl (pc' := 38) rfl ?_
          refine T_icmp_ne zk_133_38 (by omega) (by omega) (pc' := 41) rfl (fun h10 => ?_) (fun h11 => ?_)
          ·
            refine T_iinc (L' := [(0, av 35 0 0), (1, iv p0), (2, iv 2)]) zk_133_48 (nL := 3) rfl rfl rfl rfl (pc' := 51) rfl ?_
            refine T_goto zk_133_51 ?_
            refine T_ld zk_133_15 rfl rfl rfl (pc' := 16) rfl ?_
            refine T_ld zk_133_16 rfl rfl rfl (pc' := 17) rfl ?_
            refine T_getR (t' := 36) (i' := 0) (k' := 0) zk_133_17 rfl rfl rfl vd_35 (pc' := 20) rfl ?_
            refine T_op zk_133_20 rfl (X_si (v := 633) (by decide)) (pc' := 23) rfl ?_
            refine G_ialdX (w := 3) (ln := 646) zk_133_23 rfl rfl (vd_36 (by omega)) (by omega) (by omega) (by omega) (fun σ' h => h.2.1) (pc' := 24) rfl ?_
            refine T_icmp_ge zk_133_24 (by omega) (by omega) (pc' := 27) rfl (fun h12 => ?_) (fun h13 => ?_)
            · exfalso; omega
            ·
              refine T_ld zk_133_27 rfl rfl rfl (pc' := 28) rfl ?_
              refine T_getR (t' := 36) (i' := 0) (k' := 0) zk_133_28 rfl rfl rfl vd_35 (pc' := 31) rfl ?_
              refine T_op zk_133_31 rfl (X_si (v := 250) (by decide)) (pc' := 34) rfl ?_
              refine T_ld zk_133_34 rfl rfl rfl (pc' := 35) rfl ?_
              refine T_opc (w := 252) zk_133_35 rfl X_add (by omega) (pc' := 36) rfl ?_
              refine G_ialdX (w := u2) (ln := 646) zk_133_36 rfl rfl (vd_36 (by omega)) (by omega) (by omega) (by omega) (fun σ' h => h.2.2.2.2.1) (pc' := 37) rfl ?_
              refine T_ld zk_133_37 rfl rfl rfl (pc' := 38) rfl ?_
              refine T_icmp_ne zk_133_38 (by omega) (by omega) (pc' := 41) rfl (fun h14 => ?_) (fun h15 => ?_)
              ·
                refine T_iinc (L' := [(0, av 35 0 0), (1, iv p0), (2, iv 3)]) zk_133_48 (nL := 3) rfl rfl rfl rfl (pc' := 51) rfl ?_
                refine T_goto zk_133_51 ?_
                refine T_ld zk_133_15 rfl rfl rfl (pc' := 16) rfl ?_
                refine T_ld zk_133_16 rfl rfl rfl (pc' := 17) rfl ?_
                refine T_getR (t' := 36) (i' := 0) (k' := 0) zk_133_17 rfl rfl rfl vd_35 (pc' := 20) rfl ?_
                refine T_op zk_133_20 rfl (X_si (v := 633) (by decide)) (pc' := 23) rfl ?_
                refine G_ialdX (w := 3) (ln := 646) zk_133_23 rfl rfl (vd_36 (by omega)) (by omega) (by omega) (by omega) (fun σ' h => h.2.1) (pc' := 24) rfl ?_
                refine T_icmp_ge zk_133_24 (by omega) (by omega) (pc' := 27) rfl (fun h16 => ?_) (fun h17 => ?_)
                ·
                  refine T_ld zk_133_54 rfl rfl rfl (pc' := 55) rfl ?_
                  refine T_getR (t' := 36) (i' := 0) (k' := 0) zk_133_55 rfl rfl rfl vd_35 (pc' := 58) rfl ?_
                  refine T_op zk_133_58 rfl (X_si (v := 633) (by decide)) (pc' := 61) rfl ?_
                  refine G_ialdX (w := 3) (ln := 646) zk_133_61 rfl rfl (vd_36 (by omega)) (by omega) (by omega) (by omega) (fun σ' h => h.2.1) (pc' := 62) rfl ?_
                  refine T_op zk_133_62 rfl X_ic (pc' := 63) rfl ?_
                  refine T_icmp_ne zk_133_63 (by omega) (by omega) (pc' := 66) rfl (fun h18 => ?_) (fun h19 => ?_)
                  · exfalso; omega
                  ·
                    refine T_ld zk_133_66 rfl rfl rfl (pc' := 67) rfl ?_
                    refine T_op zk_133_67 rfl (X_bi (v := -7) (by decide)) (pc' := 69) rfl ?_
                    refine T_calli (K := fun y20 σ' => (y20 = (-7)) ∧ (fun σ' => IF (MK 250 256 633 634) σ σ' ∧ σ' 36 0 0 633 = 3 ∧ σ' 36 0 0 250 = u0 ∧ σ' 36 0 0 251 = u1 ∧ σ' 36 0 0 252 = u2 ∧ True) σ') (r := []) zk_133_69 rfl rfl rfl rfl rfl rfl (Or.inr ⟨_, _, _, _, rfl, vd_35, rfl⟩) (fun σ' h => (m_123 ((-7)) (by omega) σ' h.1.1 ).le (Nat.le_of_ble_eq_true rfl) (fun v σ2 ⟨y, h1, h2, h3, h4⟩ => ⟨y, h1, h2, h.1.tr h3 sb61_d26300f, (h3.2 _ _ _ _ (by first | exact nMT rfl | (unfold MT; omega))).trans (h.2.1), (h3.2 _ _ _ _ (by first | exact nMT rfl | (unfold MT; omega))).trans (h.2.2.1), (h3.2 _ _ _ _ (by first | exact nMT rfl | (unfold MT; omega))).trans (h.2.2.2.1), (h3.2 _ _ _ _ (by first | exact nMT rfl | (unfold MT; omega))).trans (h.2.2.2.2.1), trivial⟩)) (pc' := 72) rfl (fun y20 => ?_)
                    refine G_ex (fun hy20 => ?_)
                    obtain rfl : y20 = (-7) := by omega
                    exact T_iret zk_133_72 rfl (fun σ' h => ⟨_, rfl, (by omega), h.1, ⟨h.2.1, h.2.2.1, h.2.2.2.1, h.2.2.2.2.1, trivial⟩⟩)
                · exfalso; omega
              ·
                refine T_ld zk_133_41 rfl rfl rfl (pc' := 42) rfl ?_
                refine T_op zk_133_42 rfl (X_bi (v := -6) (by decide)) (pc' := 44) rfl ?_
                refine T_calli (K := fun y21 σ' => (y21 = (-6)) ∧ (fun σ' => IF (MK 250 256 633 634) σ σ' ∧ σ' 36 0 0 633 = 3 ∧ σ' 36 0 0 250 = u0 ∧ σ' 36 0 0 251 = u1 ∧ σ' 36 0 0 252 = u2 ∧ True) σ') (r := []) zk_133_44 rfl rfl rfl rfl rfl rfl (Or.inr ⟨_, _, _, _, rfl, vd_35, rfl⟩) (fun σ' h => (m_123 ((-6)) (by omega) σ' h.1.1 ).le (Nat.le_of_ble_eq_true rfl) (fun v σ2 ⟨y, h1, h2, h3, h4⟩ => ⟨y, h1, h2, h.1.tr h3 sb61_d26300f, (h3.2 _ _ _ _ (by first | exact nMT rfl | (unfold MT; omega))).trans (h.2.1), (h3.2 _ _ _ _ (by first | exact nMT rfl | (unfold MT; omega))).trans (h.2.2.1), (h3.2 _ _ _ _ (by first | exact nMT rfl | (unfold MT; omega))).trans (h.2.2.2.1), (h3.2 _ _ _ _ (by first | exact nMT rfl | (unfold MT; omega))).trans (h.2.2.2.2.1), trivial⟩)) (pc' := 47) rfl (fun y21 => ?_)
                refine G_ex (fun hy21 => ?_)
                obtain rfl : y21 = (-6) := by omega
                exact T_iret zk_133_47 rfl (fun σ' h => ⟨_, rfl, (by omega), h.1, ⟨h.2.1, h.2.2.1, h.2.2.2.1, h.2.2.2.2.1, trivial⟩⟩)
          ·
            refine T_ld zk_133_41 rfl rfl rfl (pc' := 42) rfl ?_
            refine T_op zk_133_42 rfl (X_bi (v := -6) (by decide)) (pc' := 44) rfl ?_
            refine T_calli (K := fun y22 σ' => (y22 = (-6)) ∧ (fun σ' => IF (MK 250 256 633 634) σ σ' ∧ σ' 36 0 0 633 = 3 ∧ σ' 36 0 0 250 = u0 ∧ σ' 36 0 0 251 = u1 ∧ σ' 36 0 0 252 = u2 ∧ True) σ') (r := []) zk_133_44 rfl rfl rfl rfl rfl rfl (Or.inr ⟨_, _, _, _, rfl, vd_35, rfl⟩) (fun σ' h => (m_123 ((-6)) (by omega) σ' h.1.1 ).le (Nat.le_of_ble_eq_true rfl) (fun v σ2 ⟨y, h1, h2, h3, h4⟩ => ⟨y, h1, h2, h.1.tr h3 sb61_d26300f, (h3.2 _ _ _ _ (by first | exact nMT rfl | (unfold MT; omega))).trans (h.2.1), (h3.2 _ _ _ _ (by first | exact nMT rfl | (unfold MT; omega))).trans (h.2.2.1), (h3.2 _ _ _ _ (by first | exact nMT rfl | (unfold MT; omega))).trans (h.2.2.2.1), (h3.2 _ _ _ _ (by first | exact nMT rfl | (unfold MT; omega))).trans (h.2.2.2.2.1), trivial⟩)) (pc' := 47) rfl (fun y22 => ?_)
            refine G_ex (fun hy22 => ?_)
            obtain rfl : y22 = (-6) := by omega
            exact T_iret zk_133_47 rfl (fun σ' h => ⟨_, rfl, (by omega), h.1, ⟨h.2.1, h.2.2.1, h.2.2.2.1, h.2.2.2.2.1, trivial⟩⟩)
      ·
        refine T_ld zk_133_41 rfl rfl rfl (pc' := 42) rfl ?_
        refine T_op zk_133_42 rfl (X_bi (v := -6) (by decide)) (pc' := 44) rfl ?_
        refine T_calli (K := fun y23 σ' => (y23 = (-6)) ∧ (fun σ' => IF (MK 250 256 633 634) σ σ' ∧ σ' 36 0 0 633 = 3 ∧ σ' 36 0 0 250 = u0 ∧ σ' 36 0 0 251 = u1 ∧ σ' 36 0 0 252 = u2 ∧ True) σ') (r := []) zk_133_44 rfl rfl rfl rfl rfl rfl (Or.inr ⟨_, _, _, _, rfl, vd_35, rfl⟩) (fun σ' h => (m_123 ((-6)) (by omega) σ' h.1.1 ).le (Nat.le_of_ble_eq_true rfl) (fun v σ2 ⟨y, h1, h2, h3, h4⟩ => ⟨y, h1, h2, h.1.tr h3 sb61_d26300f, (h3.2 _ _ _ _ (by first | exact nMT rfl | (unfold MT; omega))).trans (h.2.1), (h3.2 _ _ _ _ (by first | exact nMT rfl | (unfold MT; omega))).trans (h.2.2.1), (h3.2 _ _ _ _ (by first | exact nMT rfl | (unfold MT; omega))).trans (h.2.2.2.1), (h3.2 _ _ _ _ (by first | exact nMT rfl | (unfold MT; omega))).trans (h.2.2.2.2.1), trivial⟩)) (pc' := 47) rfl (fun y23 => ?_)
        refine G_ex (fun hy23 => ?_)
        obtain rfl : y23 = (-6) := by omega
        exact T_iret zk_133_47 rfl (fun σ' h => ⟨_, rfl, (by omega), h.1, ⟨h.2.1, h.2.2.1, h.2.2.2.1, h.2.2.2.2.1, trivial⟩⟩)
  ·
    refine T_ld zk_133_7 rfl rfl rfl (pc' := 8) rfl ?_
    refine T_op zk_133_8 rfl X_ic (pc' := 9) rfl ?_
    refine T_calli (K := fun y24 σ' => (y24 = (-1)) ∧ (fun σ' => IF (MK 250 256 633 634) σ σ' ∧ σ' 36 0 0 633 = 3 ∧ σ' 36 0 0 250 = u0 ∧ σ' 36 0 0 251 = u1 ∧ σ' 36 0 0 252 = u2 ∧ True) σ') (r := []) zk_133_9 rfl rfl rfl rfl rfl rfl (Or.inr ⟨_, _, _, _, rfl, vd_35, rfl⟩) (fun σ' h => (m_123 ((-1)) (by omega) σ' h.1.1 ).le (Nat.le_of_ble_eq_true rfl) (fun v σ2 ⟨y, h1, h2, h3, h4⟩ => ⟨y, h1, h2, h.1.tr h3 sb61_d26300f, (h3.2 _ _ _ _ (by first | exact nMT rfl | (unfold MT; omega))).trans (h.2.1), (h3.2 _ _ _ _ (by first | exact nMT rfl | (unfold MT; omega))).trans (h.2.2.1), (h3.2 _ _ _ _ (by first | exact nMT rfl | (unfold MT; omega))).trans (h.2.2.2.1), (h3.2 _ _ _ _ (by first | exact nMT rfl | (unfold MT; omega))).trans (h.2.2.2.2.1), trivial⟩)) (pc' := 12) rfl (fun y24 => ?_)
    refine G_ex (fun hy24 => ?_)
    obtain rfl : y24 = (-1) := by omega
    exact T_iret zk_133_12 rfl (fun σ' h => ⟨_, rfl, (by omega), h.1, ⟨h.2.1, h.2.2.1, h.2.2.2.1, h.2.2.2.2.1, trivial⟩⟩)
theorem r_133u {xs : Nat × (Nat → Int32)} (p0 : Int) (n : Int) (u0 : Int) (u1 : Int) (u2 : Int) (hp0 : -2147483648 ≤ p0 ∧ p0 ≤ 2147483647) (hn : 0 ≤ n ∧ n ≤ 3) (hu0 : 0 ≤ u0 ∧ u0 ≤ 24) (hu1 : 0 ≤ u1 ∧ u1 ≤ 24) (hu2 : 0 ≤ u2 ∧ u2 ≤ 24) (σ : ZS) (hI : Inv σ) (s1 : σ 36 0 0 633 = n) (t0 : σ 36 0 0 250 = u0) (t1 : σ 36 0 0 251 = u1) (t2 : σ 36 0 0 252 = u2) : CT xs 2 133 [av 35 0 0, iv p0] σ (fun v σ' => ∃ y, v = some (iv y) ∧ ((y = -1 ∧ (¬ (0 ≤ p0 ∧ p0 ≤ 24))) ∨ (y = -6 ∧ ¬ (¬ (0 ≤ p0 ∧ p0 ≤ 24)) ∧ ((0 < n ∧ u0 = p0) ∨ (1 < n ∧ u1 = p0) ∨ (2 < n ∧ u2 = p0))) ∨ (y = -7 ∧ ¬ (¬ (0 ≤ p0 ∧ p0 ≤ 24)) ∧ ¬ ((0 < n ∧ u0 = p0) ∨ (1 < n ∧ u1 = p0) ∨ (2 < n ∧ u2 = p0)) ∧ (n = 3)) ∨ (y = n ∧ ¬ (¬ (0 ≤ p0 ∧ p0 ≤ 24)) ∧ ¬ ((0 < n ∧ u0 = p0) ∨ (1 < n ∧ u1 = p0) ∨ (2 < n ∧ u2 = p0)) ∧ ¬ (n = 3))) ∧ IF (MK 250 256 633 634) σ σ' ∧ (((y < 0 → σ' 36 0 0 633 = n) ∧ (0 ≤ y → σ' 36 0 0 633 = n + 1)) ∧ ((0 < n → σ' 36 0 0 250 = u0) ∧ (y = 0 → σ' 36 0 0 250 = p0)) ∧ ((1 < n → σ' 36 0 0 251 = u1) ∧ (y = 1 → σ' 36 0 0 251 = p0)) ∧ ((2 < n → σ' 36 0 0 252 = u2) ∧ (y = 2 → σ' 36 0 0 252 = p0)) ∧ True)) := by
  have hq : n = 0 ∨ n = 1 ∨ n = 2 ∨ n = 3 := by omega
  rcases hq with rfl | rfl | rfl | rfl
  · exact (r_133_0 p0 u0 (by omega) (by omega) σ hI s1 t0).le (Nat.le_of_ble_eq_true rfl) (fun v σ' ⟨y, h1, h2, h3, h4⟩ => ⟨y, h1, (by clear h3 h4; omega), h3, (by have k0 := h4.1; have k1 := h4.2.1; clear h3 h4; omega), (by have k0 := h4.1; have k1 := h4.2.1; clear h3 h4; omega), (by have k0 := h4.1; have k1 := h4.2.1; clear h3 h4; omega), (by have k0 := h4.1; have k1 := h4.2.1; clear h3 h4; omega), trivial⟩)
  · exact (r_133_1 p0 u0 u1 (by omega) (by omega) (by omega) σ hI s1 t0 t1).le (Nat.le_of_ble_eq_true rfl) (fun v σ' ⟨y, h1, h2, h3, h4⟩ => ⟨y, h1, (by clear h3 h4; omega), h3, (by have k0 := h4.1; have k1 := h4.2.1; have k2 := h4.2.2.1; clear h3 h4; omega), (by have k0 := h4.1; have k1 := h4.2.1; have k2 := h4.2.2.1; clear h3 h4; omega), (by have k0 := h4.1; have k1 := h4.2.1; have k2 := h4.2.2.1; clear h3 h4; omega), (by have k0 := h4.1; have k1 := h4.2.1; have k2 := h4.2.2.1; clear h3 h4; omega), trivial⟩)
  · exact (r_133_2 p0 u0 u1 u2 (by omega) (by omega) (by omega) (by omega) σ hI s1 t0 t1 t2).le (Nat.le_of_ble_eq_true rfl) (fun v σ' ⟨y, h1, h2, h3, h4⟩ => ⟨y, h1, (by clear h3 h4; omega), h3, (by have k0 := h4.1; have k1 := h4.2.1; have k2 := h4.2.2.1; have k3 := h4.2.2.2.1; clear h3 h4; omega), (by have k0 := h4.1; have k1 := h4.2.1; have k2 := h4.2.2.1; have k3 := h4.2.2.2.1; clear h3 h4; omega), (by have k0 := h4.1; have k1 := h4.2.1; have k2 := h4.2.2.1; have k3 := h4.2.2.2.1; clear h3 h4; omega), (by have k0 := h4.1; have k1 := h4.2.1; have k2 := h4.2.2.1; have k3 := h4.2.2.2.1; clear h3 h4; omega), trivial⟩)
  · exact (r_133_3 p0 u0 u1 u2 (by omega) (by omega) (by omega) (by omega) σ hI s1 t0 t1 t2).le (Nat.le_of_ble_eq_true rfl) (fun v σ' ⟨y, h1, h2, h3, h4⟩ => ⟨y, h1, (by clear h3 h4; omega), h3, (by have k0 := h4.1; have k1 := h4.2.1; have k2 := h4.2.2.1; have k3 := h4.2.2.2.1; clear h3 h4; omega), (by have k0 := h4.1; have k1 := h4.2.1; have k2 := h4.2.2.1; have k3 := h4.2.2.2.1; clear h3 h4; omega), (by have k0 := h4.1; have k1 := h4.2.1; have k2 := h4.2.2.1; have k3 := h4.2.2.2.1; clear h3 h4; omega), (by have k0 := h4.1; have k1 := h4.2.1; have k2 := h4.2.2.1; have k3 := h4.2.2.2.1; clear h3 h4; omega), trivial⟩)
