/-- WModel.copy -/
theorem r_137e {xs : Nat × (Nat → Int32)} (p0 : Int) (p1 : Int) (p2 : Int) (p3 : Int) (p4 : Int) (v0 : Int) (v1 : Int) (v2 : Int) (u0 : Int) (u1 : Int) (u2 : Int) (F : Nat → Int) (hp0 : 0 ≤ p0 ∧ p0 ≤ 7) (hp1 : 0 ≤ p1 ∧ p1 ≤ 7) (hp2 : -2147483648 ≤ p2 ∧ p2 ≤ 2147483647) (hp3 : -2147483648 ≤ p3 ∧ p3 ≤ 2147483647) (hp4 : -2147483648 ≤ p4 ∧ p4 ≤ 2147483647) (hv0 : 0 ≤ v0 ∧ v0 ≤ 2) (hv1 : 0 ≤ v1 ∧ v1 ≤ 3) (hv2 : 0 ≤ v2 ∧ v2 ≤ 96) (hu0 : 0 ≤ u0 ∧ u0 ≤ 2) (hu1 : 0 ≤ u1 ∧ u1 ≤ 3) (hu2 : 0 ≤ u2 ∧ u2 ≤ 96) (σ : ZS) (hI : Inv σ)  (t0 : σ 37 0 0 (Int.toNat p0) = v0) (t1 : σ 38 0 0 (Int.toNat p0) = v1) (t2 : σ 39 0 0 (Int.toNat p0) = v2) (s0 : σ 37 0 0 (Int.toNat p1) = u0) (s1 : σ 38 0 0 (Int.toNat p1) = u1) (s2 : σ 39 0 0 (Int.toNat p1) = u2) (rf : Eq (σ 41 0 0) F) : CT xs 2 137 [av 35 0 0, iv p0, iv p1, iv p2, iv p3, iv p4] σ (fun v σ' => ∃ y, v = some (iv y) ∧ ((y = cpr v0 v1 u0 u1 ∧ (¬ cpr v0 v1 u0 u1 = 0)) ∨ (y = -4 ∧ ¬ (¬ cpr v0 v1 u0 u1 = 0) ∧ (p4 < 0)) ∨ (y = -5 ∧ ¬ (¬ cpr v0 v1 u0 u1 = 0) ∧ ¬ (p4 < 0) ∧ (¬ (0 ≤ p2 ∧ p2 + p4 ≤ v2 ∧ 0 ≤ p3 ∧ p3 + p4 ≤ u2))) ∨ (y = 1 ∧ ¬ (¬ cpr v0 v1 u0 u1 = 0) ∧ ¬ (p4 < 0) ∧ ¬ (¬ (0 ≤ p2 ∧ p2 + p4 ≤ v2 ∧ 0 ≤ p3 ∧ p3 + p4 ≤ u2)))) ∧ IF (MEd (Int.toNat p1)) σ σ' ∧ (rcp (σ' 41 0 0) y (fcp F F (Int.toNat (96 * p0 + p2)) (Int.toNat (96 * p1 + p3)) (Int.toNat p4)) F ∧ True)) := by
  refine G_ct (J := (fun σ' => IF (MEd (Int.toNat p1)) σ σ' ∧ Eq (σ' 41 0 0) F ∧ True)) (L := [(0, av 35 0 0), (1, iv p0), (2, iv p1), (3, iv p2), (4, iv p3), (5, iv p4)]) (nL := 7) rfl rfl rfl ⟨IF.rf hI, rf, trivial⟩ ?_
  refine T_ld zk_137_0 rfl rfl rfl (pc' := 1) rfl ?_
  refine T_calli (K := fun y1 σ' => ((y1 = 0 ∧ (p0 < 0 ∨ 7 < p0)) ∨ (y1 = 1 ∧ 0 ≤ p0 ∧ p0 ≤ 7)) ∧ (fun σ' => IF (MEd (Int.toNat p1)) σ σ' ∧ Eq (σ' 41 0 0) F ∧ True) σ') (r := []) zk_137_1 rfl rfl rfl rfl rfl rfl (Or.inl (Or.inl rfl)) (fun σ' h => (m_125 p0 (by omega) σ' h.1.1 ).le (Nat.le_of_ble_eq_true rfl) (fun v σ2 ⟨y, h1, h2, h3, h4⟩ => ⟨y, h1, h2, h.1.tr h3 MN_sub, gf_mk (fun z => Eq z F) (funext fun j => h3.2 _ _ _ _ (fun q => q)) (h.2.1), trivial⟩)) (pc' := 4) rfl (fun y1 => ?_)
  refine G_ex (fun hy1 => ?_)
  refine T_if_eq zk_137_4 (by omega) (pc' := 7) rfl (fun h2 => ?_) (fun h3 => ?_)
  ·
    refine T_ld zk_137_14 rfl rfl rfl (pc' := 15) rfl ?_
    refine T_op zk_137_15 rfl X_ic (pc' := 16) rfl ?_
    refine T_calli (K := fun y4 σ' => (y4 = (-1)) ∧ (fun σ' => IF (MEd (Int.toNat p1)) σ σ' ∧ Eq (σ' 41 0 0) F ∧ True) σ') (r := []) zk_137_16 rfl rfl rfl rfl rfl rfl (Or.inr ⟨_, _, _, _, rfl, vd_35, rfl⟩) (fun σ' h => (m_123 ((-1)) (by omega) σ' h.1.1 ).le (Nat.le_of_ble_eq_true rfl) (fun v σ2 ⟨y, h1, h2, h3, h4⟩ => ⟨y, h1, h2, h.1.tr h3 (fun t i k j h => by unfold MT at h; unfold MEd; omega), gf_mk (fun z => Eq z F) (funext fun j => h3.2 _ _ _ _ (by first | exact nMT rfl | (unfold MT; omega))) (h.2.1), trivial⟩)) (pc' := 19) rfl (fun y4 => ?_)
    refine G_ex (fun hy4 => ?_)
    obtain rfl : y4 = (-1) := by omega
    exact T_iret zk_137_19 rfl (fun σ' h => ⟨_, rfl, (by first | omega | (have hd := (cpr_spec v0 v1 u0 u1).1 (by omega); omega) | (have hd := (cpr_spec v0 v1 u0 u1).2.1 (by omega); omega) | (have hd := (cpr_spec v0 v1 u0 u1).2.2.1 (by omega); omega) | (have hd := (cpr_spec v0 v1 u0 u1).2.2.2 (by omega); omega)), h.1, ⟨⟨fun q => by exfalso; omega, fun _ => h.2.1⟩, trivial⟩⟩)
  ·
    refine T_ld zk_137_7 rfl rfl rfl (pc' := 8) rfl ?_
    refine T_calli (K := fun y5 σ' => ((y5 = 0 ∧ (p1 < 0 ∨ 7 < p1)) ∨ (y5 = 1 ∧ 0 ≤ p1 ∧ p1 ≤ 7)) ∧ (fun σ' => IF (MEd (Int.toNat p1)) σ σ' ∧ Eq (σ' 41 0 0) F ∧ True) σ') (r := []) zk_137_8 rfl rfl rfl rfl rfl rfl (Or.inl (Or.inl rfl)) (fun σ' h => (m_125 p1 (by omega) σ' h.1.1 ).le (Nat.le_of_ble_eq_true rfl) (fun v σ2 ⟨y, h1, h2, h3, h4⟩ => ⟨y, h1, h2, h.1.tr h3 MN_sub, gf_mk (fun z => Eq z F) (funext fun j => h3.2 _ _ _ _ (fun q => q)) (h.2.1), trivial⟩)) (pc' := 11) rfl (fun y5 => ?_)
    refine G_ex (fun hy5 => ?_)
    refine T_if_ne zk_137_11 (by omega) (pc' := 14) rfl (fun h6 => ?_) (fun h7 => ?_)
    ·
      refine T_ld zk_137_20 rfl rfl rfl (pc' := 21) rfl ?_
      refine T_getR (t' := 37) (i' := 0) (k' := 0) zk_137_21 rfl rfl rfl vd_35 (pc' := 24) rfl ?_
      refine T_ld zk_137_24 rfl rfl rfl (pc' := 25) rfl ?_
      refine G_ialdX (w := v0) (ln := 8) zk_137_25 rfl rfl vd_37 (by omega) (by omega) (by omega) (fun σ' h => (h.1.2 _ _ _ _ (by first | exact nMEd rfl | (unfold MEd; omega))).trans t0) (pc' := 26) rfl ?_
      refine T_op zk_137_26 rfl X_ic (pc' := 27) rfl ?_
      refine T_icmp_eq zk_137_27 (by omega) (by omega) (pc' := 30) rfl (fun h8 => ?_) (fun h9 => ?_)
      ·
        refine T_ld zk_137_75 rfl rfl rfl (pc' := 76) rfl ?_
        refine T_op zk_137_76 rfl (X_bi (v := -2) (by decide)) (pc' := 78) rfl ?_
        refine T_calli (K := fun y10 σ' => (y10 = (-2)) ∧ (fun σ' => IF (MEd (Int.toNat p1)) σ σ' ∧ Eq (σ' 41 0 0) F ∧ True) σ') (r := []) zk_137_78 rfl rfl rfl rfl rfl rfl (Or.inr ⟨_, _, _, _, rfl, vd_35, rfl⟩) (fun σ' h => (m_123 ((-2)) (by omega) σ' h.1.1 ).le (Nat.le_of_ble_eq_true rfl) (fun v σ2 ⟨y, h1, h2, h3, h4⟩ => ⟨y, h1, h2, h.1.tr h3 (fun t i k j h => by unfold MT at h; unfold MEd; omega), gf_mk (fun z => Eq z F) (funext fun j => h3.2 _ _ _ _ (by first | exact nMT rfl | (unfold MT; omega))) (h.2.1), trivial⟩)) (pc' := 81) rfl (fun y10 => ?_)
        refine G_ex (fun hy10 => ?_)
        obtain rfl : y10 = (-2) := by omega
        exact T_iret zk_137_81 rfl (fun σ' h => ⟨_, rfl, (by first | omega | (have hd := (cpr_spec v0 v1 u0 u1).1 (by omega); omega) | (have hd := (cpr_spec v0 v1 u0 u1).2.1 (by omega); omega) | (have hd := (cpr_spec v0 v1 u0 u1).2.2.1 (by omega); omega) | (have hd := (cpr_spec v0 v1 u0 u1).2.2.2 (by omega); omega)), h.1, ⟨⟨fun q => by exfalso; omega, fun _ => h.2.1⟩, trivial⟩⟩)
      ·
        refine T_ld zk_137_30 rfl rfl rfl (pc' := 31) rfl ?_
        refine T_getR (t' := 37) (i' := 0) (k' := 0) zk_137_31 rfl rfl rfl vd_35 (pc' := 34) rfl ?_
        refine T_ld zk_137_34 rfl rfl rfl (pc' := 35) rfl ?_
        refine G_ialdX (w := u0) (ln := 8) zk_137_35 rfl rfl vd_37 (by omega) (by omega) (by omega) (fun σ' h => (h.1.2 _ _ _ _ (by first | exact nMEd rfl | (unfold MEd; omega))).trans s0) (pc' := 36) rfl ?_
        refine T_op zk_137_36 rfl X_ic (pc' := 37) rfl ?_
        refine T_icmp_eq zk_137_37 (by omega) (by omega) (pc' := 40) rfl (fun h11 => ?_) (fun h12 => ?_)
        ·
          refine T_ld zk_137_75 rfl rfl rfl (pc' := 76) rfl ?_
          refine T_op zk_137_76 rfl (X_bi (v := -2) (by decide)) (pc' := 78) rfl ?_
          refine T_calli (K := fun y13 σ' => (y13 = (-2)) ∧ (fun σ' => IF (MEd (Int.toNat p1)) σ σ' ∧ Eq (σ' 41 0 0) F ∧ True) σ') (r := []) zk_137_78 rfl rfl rfl rfl rfl rfl (Or.inr ⟨_, _, _, _, rfl, vd_35, rfl⟩) (fun σ' h => (m_123 ((-2)) (by omega) σ' h.1.1 ).le (Nat.le_of_ble_eq_true rfl) (fun v σ2 ⟨y, h1, h2, h3, h4⟩ => ⟨y, h1, h2, h.1.tr h3 (fun t i k j h => by unfold MT at h; unfold MEd; omega), gf_mk (fun z => Eq z F) (funext fun j => h3.2 _ _ _ _ (by first | exact nMT rfl | (unfold MT; omega))) (h.2.1), trivial⟩)) (pc' := 81) rfl (fun y13 => ?_)
          refine G_ex (fun hy13 => ?_)
          obtain rfl : y13 = (-2) := by omega
          exact T_iret zk_137_81 rfl (fun σ' h => ⟨_, rfl, (by first | omega | (have hd := (cpr_spec v0 v1 u0 u1).1 (by omega); omega) | (have hd := (cpr_spec v0 v1 u0 u1).2.1 (by omega); omega) | (have hd := (cpr_spec v0 v1 u0 u1).2.2.1 (by omega); omega) | (have hd := (cpr_spec v0 v1 u0 u1).2.2.2 (by omega); omega)), h.1, ⟨⟨fun q => by exfalso; omega, fun _ => h.2.1⟩, trivial⟩⟩)
        ·
          refine T_ld zk_137_40 rfl rfl rfl (pc' := 41) rfl ?_
          refine T_getR (t' := 37) (i' := 0) (k' := 0) zk_137_41 rfl rfl rfl vd_35 (pc' := 44) rfl ?_
          refine T_ld zk_137_44 rfl rfl rfl (pc' := 45) rfl ?_
          refine G_ialdX (w := v0) (ln := 8) zk_137_45 rfl rfl vd_37 (by omega) (by omega) (by omega) (fun σ' h => (h.1.2 _ _ _ _ (by first | exact nMEd rfl | (unfold MEd; omega))).trans t0) (pc' := 46) rfl ?_
          refine T_op zk_137_46 rfl X_ic (pc' := 47) rfl ?_
          refine T_icmp_ne zk_137_47 (by omega) (by omega) (pc' := 50) rfl (fun h14 => ?_) (fun h15 => ?_)
          ·
            refine T_ld zk_137_82 rfl rfl rfl (pc' := 83) rfl ?_
            refine T_getR (t' := 37) (i' := 0) (k' := 0) zk_137_83 rfl rfl rfl vd_35 (pc' := 86) rfl ?_
            refine T_ld zk_137_86 rfl rfl rfl (pc' := 87) rfl ?_
            refine G_ialdX (w := v0) (ln := 8) zk_137_87 rfl rfl vd_37 (by omega) (by omega) (by omega) (fun σ' h => (h.1.2 _ _ _ _ (by first | exact nMEd rfl | (unfold MEd; omega))).trans t0) (pc' := 88) rfl ?_
            refine T_if_eq zk_137_88 (by omega) (pc' := 91) rfl (fun h16 => ?_) (fun h17 => ?_)
            ·
              refine T_ld zk_137_100 rfl rfl rfl (pc' := 101) rfl ?_
              refine T_op zk_137_101 rfl (X_bi (v := -3) (by decide)) (pc' := 103) rfl ?_
              refine T_calli (K := fun y18 σ' => (y18 = (-3)) ∧ (fun σ' => IF (MEd (Int.toNat p1)) σ σ' ∧ Eq (σ' 41 0 0) F ∧ True) σ') (r := []) zk_137_103 rfl rfl rfl rfl rfl rfl (Or.inr ⟨_, _, _, _, rfl, vd_35, rfl⟩) (fun σ' h => (m_123 ((-3)) (by omega) σ' h.1.1 ).le (Nat.le_of_ble_eq_true rfl) (fun v σ2 ⟨y, h1, h2, h3, h4⟩ => ⟨y, h1, h2, h.1.tr h3 (fun t i k j h => by unfold MT at h; unfold MEd; omega), gf_mk (fun z => Eq z F) (funext fun j => h3.2 _ _ _ _ (by first | exact nMT rfl | (unfold MT; omega))) (h.2.1), trivial⟩)) (pc' := 106) rfl (fun y18 => ?_)
              refine G_ex (fun hy18 => ?_)
              obtain rfl : y18 = (-3) := by omega
              exact T_iret zk_137_106 rfl (fun σ' h => ⟨_, rfl, (by first | omega | (have hd := (cpr_spec v0 v1 u0 u1).1 (by omega); omega) | (have hd := (cpr_spec v0 v1 u0 u1).2.1 (by omega); omega) | (have hd := (cpr_spec v0 v1 u0 u1).2.2.1 (by omega); omega) | (have hd := (cpr_spec v0 v1 u0 u1).2.2.2 (by omega); omega)), h.1, ⟨⟨fun q => by exfalso; omega, fun _ => h.2.1⟩, trivial⟩⟩)
            · exfalso; omega
          ·
            refine T_ld zk_137_50 rfl rfl rfl (pc' := 51) rfl ?_
            refine T_getR (t' := 37) (i' := 0) (k' := 0) zk_137_51 rfl rfl rfl vd_35 (pc' := 54) rfl ?_
            refine T_ld zk_137_54 rfl rfl rfl (pc' := 55) rfl ?_
            refine G_ialdX (w := u0) (ln := 8) zk_137_55 rfl rfl vd_37 (by omega) (by omega) (by omega) (fun σ' h => (h.1.2 _ _ _ _ (by first | exact nMEd rfl | (unfold MEd; omega))).trans s0) (pc' := 56) rfl ?_
            refine T_op zk_137_56 rfl X_ic (pc' := 57) rfl ?_
            refine T_icmp_ne zk_137_57 (by omega) (by omega) (pc' := 60) rfl (fun h19 => ?_) (fun h20 => ?_)
            ·
              refine T_ld zk_137_82 rfl rfl rfl (pc' := 83) rfl ?_
              refine T_getR (t' := 37) (i' := 0) (k' := 0) zk_137_83 rfl rfl rfl vd_35 (pc' := 86) rfl ?_
              refine T_ld zk_137_86 rfl rfl rfl (pc' := 87) rfl ?_
              refine G_ialdX (w := v0) (ln := 8) zk_137_87 rfl rfl vd_37 (by omega) (by omega) (by omega) (fun σ' h => (h.1.2 _ _ _ _ (by first | exact nMEd rfl | (unfold MEd; omega))).trans t0) (pc' := 88) rfl ?_
              refine T_if_eq zk_137_88 (by omega) (pc' := 91) rfl (fun h21 => ?_) (fun h22 => ?_)
              · exfalso; omega
              ·
                refine T_ld zk_137_91 rfl rfl rfl (pc' := 92) rfl ?_
                refine T_getR (t' := 37) (i' := 0) (k' := 0) zk_137_92 rfl rfl rfl vd_35 (pc' := 95) rfl ?_
                refine T_ld zk_137_95 rfl rfl rfl (pc' := 96) rfl ?_
                refine G_ialdX (w := u0) (ln := 8) zk_137_96 rfl rfl vd_37 (by omega) (by omega) (by omega) (fun σ' h => (h.1.2 _ _ _ _ (by first | exact nMEd rfl | (unfold MEd; omega))).trans s0) (pc' := 97) rfl ?_
                refine T_if_ne zk_137_97 (by omega) (pc' := 100) rfl (fun h23 => ?_) (fun h24 => ?_)
                · exfalso; omega
                ·
                  refine T_ld zk_137_100 rfl rfl rfl (pc' := 101) rfl ?_
                  refine T_op zk_137_101 rfl (X_bi (v := -3) (by decide)) (pc' := 103) rfl ?_
                  refine T_calli (K := fun y25 σ' => (y25 = (-3)) ∧ (fun σ' => IF (MEd (Int.toNat p1)) σ σ' ∧ Eq (σ' 41 0 0) F ∧ True) σ') (r := []) zk_137_103 rfl rfl rfl rfl rfl rfl (Or.inr ⟨_, _, _, _, rfl, vd_35, rfl⟩) (fun σ' h => (m_123 ((-3)) (by omega) σ' h.1.1 ).le (Nat.le_of_ble_eq_true rfl) (fun v σ2 ⟨y, h1, h2, h3, h4⟩ => ⟨y, h1, h2, h.1.tr h3 (fun t i k j h => by unfold MT at h; unfold MEd; omega), gf_mk (fun z => Eq z F) (funext fun j => h3.2 _ _ _ _ (by first | exact nMT rfl | (unfold MT; omega))) (h.2.1), trivial⟩)) (pc' := 106) rfl (fun y25 => ?_)
                  refine G_ex (fun hy25 => ?_)
                  obtain rfl : y25 = (-3) := by omega
                  exact T_iret zk_137_106 rfl (fun σ' h => ⟨_, rfl, (by first | omega | (have hd := (cpr_spec v0 v1 u0 u1).1 (by omega); omega) | (have hd := (cpr_spec v0 v1 u0 u1).2.1 (by omega); omega) | (have hd := (cpr_spec v0 v1 u0 u1).2.2.1 (by omega); omega) | (have hd := (cpr_spec v0 v1 u0 u1).2.2.2 (by omega); omega)), h.1, ⟨⟨fun q => by exfalso; omega, fun _ => h.2.1⟩, trivial⟩⟩)
            ·
              refine T_ld zk_137_60 rfl rfl rfl (pc' := 61) rfl ?_
              refine T_getR (t' := 38) (i' := 0) (k' := 0) zk_137_61 rfl rfl rfl vd_35 (pc' := 64) rfl ?_
              refine T_ld zk_137_64 rfl rfl rfl (pc' := 65) rfl ?_
              refine G_ialdX (w := v1) (ln := 8) zk_137_65 rfl rfl vd_38 (by omega) (by omega) (by omega) (fun σ' h => (h.1.2 _ _ _ _ (by first | exact nMEd rfl | (unfold MEd; omega))).trans t1) (pc' := 66) rfl ?_
              refine T_ld zk_137_66 rfl rfl rfl (pc' := 67) rfl ?_
              refine T_getR (t' := 38) (i' := 0) (k' := 0) zk_137_67 rfl rfl rfl vd_35 (pc' := 70) rfl ?_
              refine T_ld zk_137_70 rfl rfl rfl (pc' := 71) rfl ?_
              refine G_ialdX (w := u1) (ln := 8) zk_137_71 rfl rfl vd_38 (by omega) (by omega) (by omega) (fun σ' h => (h.1.2 _ _ _ _ (by first | exact nMEd rfl | (unfold MEd; omega))).trans s1) (pc' := 72) rfl ?_
              refine T_icmp_eq zk_137_72 (by omega) (by omega) (pc' := 75) rfl (fun h26 => ?_) (fun h27 => ?_)
              ·
                refine T_ld zk_137_82 rfl rfl rfl (pc' := 83) rfl ?_
                refine T_getR (t' := 37) (i' := 0) (k' := 0) zk_137_83 rfl rfl rfl vd_35 (pc' := 86) rfl ?_
                refine T_ld zk_137_86 rfl rfl rfl (pc' := 87) rfl ?_
                refine G_ialdX (w := v0) (ln := 8) zk_137_87 rfl rfl vd_37 (by omega) (by omega) (by omega) (fun σ' h => (h.1.2 _ _ _ _ (by first | exact nMEd rfl | (unfold MEd; omega))).trans t0) (pc' := 88) rfl ?_
                refine T_if_eq zk_137_88 (by omega) (pc' := 91) rfl (fun h28 => ?_) (fun h29 => ?_)
                · exfalso; omega
                ·
                  refine T_ld zk_137_91 rfl rfl rfl (pc' := 92) rfl ?_
                  refine T_getR (t' := 37) (i' := 0) (k' := 0) zk_137_92 rfl rfl rfl vd_35 (pc' := 95) rfl ?_
                  refine T_ld zk_137_95 rfl rfl rfl (pc' := 96) rfl ?_
                  refine G_ialdX (w := u0) (ln := 8) zk_137_96 rfl rfl vd_37 (by omega) (by omega) (by omega) (fun σ' h => (h.1.2 _ _ _ _ (by first | exact nMEd rfl | (unfold MEd; omega))).trans s0) (pc' := 97) rfl ?_
                  refine T_if_ne zk_137_97 (by omega) (pc' := 100) rfl (fun h30 => ?_) (fun h31 => ?_)
                  ·
                    refine T_ld zk_137_107 rfl rfl rfl (pc' := 109) rfl ?_
                    refine T_if_ge zk_137_109 (by omega) (pc' := 112) rfl (fun h32 => ?_) (fun h33 => ?_)
                    ·
                      refine T_ld zk_137_119 rfl rfl rfl (pc' := 120) rfl ?_
                      refine T_if_lt zk_137_120 (by omega) (pc' := 123) rfl (fun h34 => ?_) (fun h35 => ?_)
                      ·
                        refine T_ld zk_137_155 rfl rfl rfl (pc' := 156) rfl ?_
                        refine T_op zk_137_156 rfl (X_bi (v := -5) (by decide)) (pc' := 158) rfl ?_
                        refine T_calli (K := fun y36 σ' => (y36 = (-5)) ∧ (fun σ' => IF (MEd (Int.toNat p1)) σ σ' ∧ Eq (σ' 41 0 0) F ∧ True) σ') (r := []) zk_137_158 rfl rfl rfl rfl rfl rfl (Or.inr ⟨_, _, _, _, rfl, vd_35, rfl⟩) (fun σ' h => (m_123 ((-5)) (by omega) σ' h.1.1 ).le (Nat.le_of_ble_eq_true rfl) (fun v σ2 ⟨y, h1, h2, h3, h4⟩ => ⟨y, h1, h2, h.1.tr h3 (fun t i k j h => by unfold MT at h; unfold MEd; omega), gf_mk (fun z => Eq z F) (funext fun j => h3.2 _ _ _ _ (by first | exact nMT rfl | (unfold MT; omega))) (h.2.1), trivial⟩)) (pc' := 161) rfl (fun y36 => ?_)
                        refine G_ex (fun hy36 => ?_)
                        obtain rfl : y36 = (-5) := by omega
                        exact T_iret zk_137_161 rfl (fun σ' h => ⟨_, rfl, (by first | omega | (have hd := (cpr_spec v0 v1 u0 u1).1 (by omega); omega) | (have hd := (cpr_spec v0 v1 u0 u1).2.1 (by omega); omega) | (have hd := (cpr_spec v0 v1 u0 u1).2.2.1 (by omega); omega) | (have hd := (cpr_spec v0 v1 u0 u1).2.2.2 (by omega); omega)), h.1, ⟨⟨fun q => by exfalso; omega, fun _ => h.2.1⟩, trivial⟩⟩)
                      ·
                        refine T_ld zk_137_123 rfl rfl rfl (pc' := 125) rfl ?_
                        refine T_if_lt zk_137_125 (by omega) (pc' := 128) rfl (fun h37 => ?_) (fun h38 => ?_)
                        ·
                          refine T_ld zk_137_155 rfl rfl rfl (pc' := 156) rfl ?_
                          refine T_op zk_137_156 rfl (X_bi (v := -5) (by decide)) (pc' := 158) rfl ?_
                          refine T_calli (K := fun y39 σ' => (y39 = (-5)) ∧ (fun σ' => IF (MEd (Int.toNat p1)) σ σ' ∧ Eq (σ' 41 0 0) F ∧ True) σ') (r := []) zk_137_158 rfl rfl rfl rfl rfl rfl (Or.inr ⟨_, _, _, _, rfl, vd_35, rfl⟩) (fun σ' h => (m_123 ((-5)) (by omega) σ' h.1.1 ).le (Nat.le_of_ble_eq_true rfl) (fun v σ2 ⟨y, h1, h2, h3, h4⟩ => ⟨y, h1, h2, h.1.tr h3 (fun t i k j h => by unfold MT at h; unfold MEd; omega), gf_mk (fun z => Eq z F) (funext fun j => h3.2 _ _ _ _ (by first | exact nMT rfl | (unfold MT; omega))) (h.2.1), trivial⟩)) (pc' := 161) rfl (fun y39 => ?_)
                          refine G_ex (fun hy39 => ?_)
                          obtain rfl : y39 = (-5) := by omega
                          exact T_iret zk_137_161 rfl (fun σ' h => ⟨_, rfl, (by first | omega | (have hd := (cpr_spec v0 v1 u0 u1).1 (by omega); omega) | (have hd := (cpr_spec v0 v1 u0 u1).2.1 (by omega); omega) | (have hd := (cpr_spec v0 v1 u0 u1).2.2.1 (by omega); omega) | (have hd := (cpr_spec v0 v1 u0 u1).2.2.2 (by omega); omega)), h.1, ⟨⟨fun q => by exfalso; omega, fun _ => h.2.1⟩, trivial⟩⟩)
                        ·
                          refine T_ld zk_137_128 rfl rfl rfl (pc' := 129) rfl ?_
                          refine T_ld zk_137_129 rfl rfl rfl (pc' := 130) rfl ?_
                          refine T_getR (t' := 39) (i' := 0) (k' := 0) zk_137_130 rfl rfl rfl vd_35 (pc' := 133) rfl ?_
                          refine T_ld zk_137_133 rfl rfl rfl (pc' := 134) rfl ?_
                          refine G_ialdX (w := v2) (ln := 8) zk_137_134 rfl rfl vd_39 (by omega) (by omega) (by omega) (fun σ' h => (h.1.2 _ _ _ _ (by first | exact nMEd rfl | (unfold MEd; omega))).trans t2) (pc' := 135) rfl ?_
                          refine T_ld zk_137_135 rfl rfl rfl (pc' := 137) rfl ?_
                          refine T_op zk_137_137 rfl X_sub (pc' := 138) rfl ?_
                          refine T_icmp_gt zk_137_138 (by omega) (by omega) (pc' := 141) rfl (fun h40 => ?_) (fun h41 => ?_)
                          ·
                            refine T_ld zk_137_155 rfl rfl rfl (pc' := 156) rfl ?_
                            refine T_op zk_137_156 rfl (X_bi (v := -5) (by decide)) (pc' := 158) rfl ?_
                            refine T_calli (K := fun y42 σ' => (y42 = (-5)) ∧ (fun σ' => IF (MEd (Int.toNat p1)) σ σ' ∧ Eq (σ' 41 0 0) F ∧ True) σ') (r := []) zk_137_158 rfl rfl rfl rfl rfl rfl (Or.inr ⟨_, _, _, _, rfl, vd_35, rfl⟩) (fun σ' h => (m_123 ((-5)) (by omega) σ' h.1.1 ).le (Nat.le_of_ble_eq_true rfl) (fun v σ2 ⟨y, h1, h2, h3, h4⟩ => ⟨y, h1, h2, h.1.tr h3 (fun t i k j h => by unfold MT at h; unfold MEd; omega), gf_mk (fun z => Eq z F) (funext fun j => h3.2 _ _ _ _ (by first | exact nMT rfl | (unfold MT; omega))) (h.2.1), trivial⟩)) (pc' := 161) rfl (fun y42 => ?_)
                            refine G_ex (fun hy42 => ?_)
                            obtain rfl : y42 = (-5) := by omega
                            exact T_iret zk_137_161 rfl (fun σ' h => ⟨_, rfl, (by first | omega | (have hd := (cpr_spec v0 v1 u0 u1).1 (by omega); omega) | (have hd := (cpr_spec v0 v1 u0 u1).2.1 (by omega); omega) | (have hd := (cpr_spec v0 v1 u0 u1).2.2.1 (by omega); omega) | (have hd := (cpr_spec v0 v1 u0 u1).2.2.2 (by omega); omega)), h.1, ⟨⟨fun q => by exfalso; omega, fun _ => h.2.1⟩, trivial⟩⟩)
                          ·
                            refine T_ld zk_137_141 rfl rfl rfl (pc' := 143) rfl ?_
                            refine T_ld zk_137_143 rfl rfl rfl (pc' := 144) rfl ?_
                            refine T_getR (t' := 39) (i' := 0) (k' := 0) zk_137_144 rfl rfl rfl vd_35 (pc' := 147) rfl ?_
                            refine T_ld zk_137_147 rfl rfl rfl (pc' := 148) rfl ?_
                            refine G_ialdX (w := u2) (ln := 8) zk_137_148 rfl rfl vd_39 (by omega) (by omega) (by omega) (fun σ' h => (h.1.2 _ _ _ _ (by first | exact nMEd rfl | (unfold MEd; omega))).trans s2) (pc' := 149) rfl ?_
                            refine T_ld zk_137_149 rfl rfl rfl (pc' := 151) rfl ?_
                            refine T_op zk_137_151 rfl X_sub (pc' := 152) rfl ?_
                            refine T_icmp_le zk_137_152 (by omega) (by omega) (pc' := 155) rfl (fun h43 => ?_) (fun h44 => ?_)
                            ·
                              refine G_know (J' := (fun σ' => IF (MEd (Int.toNat p1)) σ σ' ∧ Eq (σ' 41 0 0) F ∧ eqn (fun q => F ((Int.toNat (96 * p0 + p2)) + q)) (σ' 42 0 0) (Int.toNat 0) ∧ True)) (fun σ' h => ⟨h.1, h.2.1, (fun j hj => by simp at hj), trivial⟩) ?_
                              refine T_op zk_137_162 rfl X_ic (pc' := 163) rfl ?_
                              refine T_st (L' := [(0, av 35 0 0), (1, iv p0), (2, iv p1), (3, iv p2), (4, iv p3), (5, iv p4), (6, iv 0)]) zk_137_163 (nL := 7) rfl rfl rfl rfl rfl (pc' := 165) rfl ?_
                              refine T_loop1 (fun x45 => ((96 - x45 : Int)).toNat) (fun x45 => (0 ≤ x45 ∧ x45 ≤ 96) ∧ x45 ≤ p4) (fun x45 => TJ xs (fun σ' => IF (MEd (Int.toNat p1)) σ σ' ∧ Eq (σ' 41 0 0) F ∧ eqn (fun q => F ((Int.toNat (96 * p0 + p2)) + q)) (σ' 42 0 0) (Int.toNat x45) ∧ True) 1 137 165 [(0, av 35 0 0), (1, iv p0), (2, iv p1), (3, iv p2), (4, iv p3), (5, iv p4), (6, iv x45)] [] _) ?_ 0 (by omega)
                              intro x45 hp47 ih46
                              refine T_ld zk_137_165 rfl rfl rfl (pc' := 167) rfl ?_
                              refine T_ld zk_137_167 rfl rfl rfl (pc' := 169) rfl ?_
                              refine T_icmp_ge zk_137_169 (by omega) (by omega) (pc' := 172) rfl (fun h48 => ?_) (fun h49 => ?_)
                              ·
                                refine T_op zk_137_199 rfl X_ic (pc' := 200) rfl ?_
                                refine T_st (L' := [(0, av 35 0 0), (1, iv p0), (2, iv p1), (3, iv p2), (4, iv p3), (5, iv p4), (6, iv 0)]) zk_137_200 (nL := 7) rfl rfl rfl rfl rfl (pc' := 202) rfl ?_
                                refine G_know (J' := (fun σ' => IF (MEd (Int.toNat p1)) σ σ' ∧ eqn (fun q => F ((Int.toNat (96 * p0 + p2)) + q)) (σ' 42 0 0) (Int.toNat p4) ∧ Eq (σ' 41 0 0) (fcp F F (Int.toNat (96 * p0 + p2)) (Int.toNat (96 * p1 + p3)) (Int.toNat 0)) ∧ True)) (fun σ' h => ⟨h.1, (eqn_le (h.2.2.1) (by omega)), ((h.2.1).trans fcp_0.symm), trivial⟩) ?_
                                refine T_loop1 (fun x50 => ((96 - x50 : Int)).toNat) (fun x50 => (0 ≤ x50 ∧ x50 ≤ 96) ∧ x50 ≤ p4) (fun x50 => TJ xs (fun σ' => IF (MEd (Int.toNat p1)) σ σ' ∧ eqn (fun q => F ((Int.toNat (96 * p0 + p2)) + q)) (σ' 42 0 0) (Int.toNat p4) ∧ Eq (σ' 41 0 0) (fcp F F (Int.toNat (96 * p0 + p2)) (Int.toNat (96 * p1 + p3)) (Int.toNat x50)) ∧ True) 1 137 202 [(0, av 35 0 0), (1, iv p0), (2, iv p1), (3, iv p2), (4, iv p3), (5, iv p4), (6, iv x50)] [] _) ?_ 0 (by omega)
                                intro x50 hp52 ih51
                                refine T_ld zk_137_202 rfl rfl rfl (pc' := 204) rfl ?_
                                refine T_ld zk_137_204 rfl rfl rfl (pc' := 206) rfl ?_
                                refine T_icmp_ge zk_137_206 (by omega) (by omega) (pc' := 209) rfl (fun h53 => ?_) (fun h54 => ?_)
                                ·
                                  refine T_op zk_137_237 rfl X_ic (pc' := 238) rfl ?_
                                  exact T_iret zk_137_238 rfl (fun σ' h => ⟨_, rfl, (by first | omega | (have hd := (cpr_spec v0 v1 u0 u1).1 (by omega); omega) | (have hd := (cpr_spec v0 v1 u0 u1).2.1 (by omega); omega) | (have hd := (cpr_spec v0 v1 u0 u1).2.2.1 (by omega); omega) | (have hd := (cpr_spec v0 v1 u0 u1).2.2.2 (by omega); omega)), h.1, ⟨⟨fun _ => (h.2.2.1).trans (by rw [show (Int.toNat x50) = Int.toNat p4 from by omega]), fun q => absurd rfl q⟩, trivial⟩⟩)
                                ·
                                  refine T_ld zk_137_209 rfl rfl rfl (pc' := 210) rfl ?_
                                  refine T_getR (t' := 41) (i' := 0) (k' := 0) zk_137_210 rfl rfl rfl vd_35 (pc' := 213) rfl ?_
                                  refine T_op zk_137_213 rfl (X_bi (v := 96) (by decide)) (pc' := 215) rfl ?_
                                  refine T_ld zk_137_215 rfl rfl rfl (pc' := 216) rfl ?_
                                  refine T_op zk_137_216 rfl X_mul (pc' := 217) rfl ?_
                                  refine T_ld zk_137_217 rfl rfl rfl (pc' := 219) rfl ?_
                                  refine T_op zk_137_219 rfl X_add (pc' := 220) rfl ?_
                                  refine T_ld zk_137_220 rfl rfl rfl (pc' := 222) rfl ?_
                                  refine T_op zk_137_222 rfl X_add (pc' := 223) rfl ?_
                                  refine T_ld zk_137_223 rfl rfl rfl (pc' := 224) rfl ?_
                                  refine T_getR (t' := 42) (i' := 0) (k' := 0) zk_137_224 rfl rfl rfl vd_35 (pc' := 227) rfl ?_
                                  refine T_ld zk_137_227 rfl rfl rfl (pc' := 229) rfl ?_
                                  refine G_laldX (w := F ((Int.toNat (96 * p0 + p2)) + Int.toNat x50)) (ln := 96) zk_137_229 rfl rfl vd_42 (by omega) (by omega) (by omega) (fun σ' h => h.2.1 _ (by omega)) (pc' := 230) rfl ?_
                                  refine G_last (J' := (fun σ' => IF (MEd (Int.toNat p1)) σ σ' ∧ eqn (fun q => F ((Int.toNat (96 * p0 + p2)) + q)) (σ' 42 0 0) (Int.toNat p4) ∧ Eq (σ' 41 0 0) (fcp F F (Int.toNat (96 * p0 + p2)) (Int.toNat (96 * p1 + p3)) (Int.toNat (x50 + 1))) ∧ True)) (ln := 768) zk_137_230 rfl rfl vd_41 (by omega) (by omega) (by omega) (fun σ' h => ⟨h.1.up ⟨by omega, trivial⟩ (by first | exact pMEd rfl | (unfold MEd; omega)), gf_mk (fun z => eqn (fun q => F ((Int.toNat (96 * p0 + p2)) + q)) z (Int.toNat p4)) (up_row (by omega)) (h.2.1), fcp_push (h.2.2.1) (by omega) (by omega) (congrArg F (by omega)), trivial⟩) (pc' := 231) rfl ?_
                                  refine T_iinc (L' := [(0, av 35 0 0), (1, iv p0), (2, iv p1), (3, iv p2), (4, iv p3), (5, iv p4), (6, iv (x50 + 1))]) zk_137_231 (nL := 7) rfl rfl rfl rfl (pc' := 234) rfl ?_
                                  refine T_goto zk_137_234 ?_
                                  exact ih51 (x50 + 1) (by omega) (by omega)
                              ·
                                refine T_ld zk_137_172 rfl rfl rfl (pc' := 173) rfl ?_
                                refine T_getR (t' := 42) (i' := 0) (k' := 0) zk_137_173 rfl rfl rfl vd_35 (pc' := 176) rfl ?_
                                refine T_ld zk_137_176 rfl rfl rfl (pc' := 178) rfl ?_
                                refine T_ld zk_137_178 rfl rfl rfl (pc' := 179) rfl ?_
                                refine T_getR (t' := 41) (i' := 0) (k' := 0) zk_137_179 rfl rfl rfl vd_35 (pc' := 182) rfl ?_
                                refine T_op zk_137_182 rfl (X_bi (v := 96) (by decide)) (pc' := 184) rfl ?_
                                refine T_ld zk_137_184 rfl rfl rfl (pc' := 185) rfl ?_
                                refine T_op zk_137_185 rfl X_mul (pc' := 186) rfl ?_
                                refine T_ld zk_137_186 rfl rfl rfl (pc' := 187) rfl ?_
                                refine T_op zk_137_187 rfl X_add (pc' := 188) rfl ?_
                                refine T_ld zk_137_188 rfl rfl rfl (pc' := 190) rfl ?_
                                refine T_op zk_137_190 rfl X_add (pc' := 191) rfl ?_
                                refine G_laldX (w := F (Int.toNat (96 * p0 + p2 + x45))) (ln := 768) zk_137_191 rfl rfl vd_41 (by omega) (by omega) (by omega) (fun σ' h => congrFun (h.2.1) _) (pc' := 192) rfl ?_
                                refine G_last (J' := (fun σ' => IF (MEd (Int.toNat p1)) σ σ' ∧ Eq (σ' 41 0 0) F ∧ eqn (fun q => F ((Int.toNat (96 * p0 + p2)) + q)) (σ' 42 0 0) (Int.toNat (x45 + 1)) ∧ True)) (ln := 96) zk_137_192 rfl rfl vd_42 (by omega) (by omega) (by omega) (fun σ' h => ⟨h.1.up ⟨by omega, trivial⟩ (by first | exact pMEd rfl | (unfold MEd; omega)), gf_mk (fun z => Eq z F) (up_row (by omega)) (h.2.1), eqn_push (h.2.2.1) (by omega) (by omega) (congrArg F (by omega)), trivial⟩) (pc' := 193) rfl ?_
                                refine T_iinc (L' := [(0, av 35 0 0), (1, iv p0), (2, iv p1), (3, iv p2), (4, iv p3), (5, iv p4), (6, iv (x45 + 1))]) zk_137_193 (nL := 7) rfl rfl rfl rfl (pc' := 196) rfl ?_
                                refine T_goto zk_137_196 ?_
                                exact ih46 (x45 + 1) (by omega) (by omega)
                            ·
                              refine T_ld zk_137_155 rfl rfl rfl (pc' := 156) rfl ?_
                              refine T_op zk_137_156 rfl (X_bi (v := -5) (by decide)) (pc' := 158) rfl ?_
                              refine T_calli (K := fun y55 σ' => (y55 = (-5)) ∧ (fun σ' => IF (MEd (Int.toNat p1)) σ σ' ∧ Eq (σ' 41 0 0) F ∧ True) σ') (r := []) zk_137_158 rfl rfl rfl rfl rfl rfl (Or.inr ⟨_, _, _, _, rfl, vd_35, rfl⟩) (fun σ' h => (m_123 ((-5)) (by omega) σ' h.1.1 ).le (Nat.le_of_ble_eq_true rfl) (fun v σ2 ⟨y, h1, h2, h3, h4⟩ => ⟨y, h1, h2, h.1.tr h3 (fun t i k j h => by unfold MT at h; unfold MEd; omega), gf_mk (fun z => Eq z F) (funext fun j => h3.2 _ _ _ _ (by first | exact nMT rfl | (unfold MT; omega))) (h.2.1), trivial⟩)) (pc' := 161) rfl (fun y55 => ?_)
                              refine G_ex (fun hy55 => ?_)
                              obtain rfl : y55 = (-5) := by omega
                              exact T_iret zk_137_161 rfl (fun σ' h => ⟨_, rfl, (by first | omega | (have hd := (cpr_spec v0 v1 u0 u1).1 (by omega); omega) | (have hd := (cpr_spec v0 v1 u0 u1).2.1 (by omega); omega) | (have hd := (cpr_spec v0 v1 u0 u1).2.2.1 (by omega); omega) | (have hd := (cpr_spec v0 v1 u0 u1).2.2.2 (by omega); omega)), h.1, ⟨⟨fun q => by exfalso; omega, fun _ => h.2.1⟩, trivial⟩⟩)
                    ·
                      refine T_ld zk_137_112 rfl rfl rfl (pc' := 113) rfl ?_
                      refine T_op zk_137_113 rfl (X_bi (v := -4) (by decide)) (pc' := 115) rfl ?_
                      refine T_calli (K := fun y56 σ' => (y56 = (-4)) ∧ (fun σ' => IF (MEd (Int.toNat p1)) σ σ' ∧ Eq (σ' 41 0 0) F ∧ True) σ') (r := []) zk_137_115 rfl rfl rfl rfl rfl rfl (Or.inr ⟨_, _, _, _, rfl, vd_35, rfl⟩) (fun σ' h => (m_123 ((-4)) (by omega) σ' h.1.1 ).le (Nat.le_of_ble_eq_true rfl) (fun v σ2 ⟨y, h1, h2, h3, h4⟩ => ⟨y, h1, h2, h.1.tr h3 (fun t i k j h => by unfold MT at h; unfold MEd; omega), gf_mk (fun z => Eq z F) (funext fun j => h3.2 _ _ _ _ (by first | exact nMT rfl | (unfold MT; omega))) (h.2.1), trivial⟩)) (pc' := 118) rfl (fun y56 => ?_)
                      refine G_ex (fun hy56 => ?_)
                      obtain rfl : y56 = (-4) := by omega
                      exact T_iret zk_137_118 rfl (fun σ' h => ⟨_, rfl, (by first | omega | (have hd := (cpr_spec v0 v1 u0 u1).1 (by omega); omega) | (have hd := (cpr_spec v0 v1 u0 u1).2.1 (by omega); omega) | (have hd := (cpr_spec v0 v1 u0 u1).2.2.1 (by omega); omega) | (have hd := (cpr_spec v0 v1 u0 u1).2.2.2 (by omega); omega)), h.1, ⟨⟨fun q => by exfalso; omega, fun _ => h.2.1⟩, trivial⟩⟩)
                  · exfalso; omega
              ·
                refine T_ld zk_137_75 rfl rfl rfl (pc' := 76) rfl ?_
                refine T_op zk_137_76 rfl (X_bi (v := -2) (by decide)) (pc' := 78) rfl ?_
                refine T_calli (K := fun y57 σ' => (y57 = (-2)) ∧ (fun σ' => IF (MEd (Int.toNat p1)) σ σ' ∧ Eq (σ' 41 0 0) F ∧ True) σ') (r := []) zk_137_78 rfl rfl rfl rfl rfl rfl (Or.inr ⟨_, _, _, _, rfl, vd_35, rfl⟩) (fun σ' h => (m_123 ((-2)) (by omega) σ' h.1.1 ).le (Nat.le_of_ble_eq_true rfl) (fun v σ2 ⟨y, h1, h2, h3, h4⟩ => ⟨y, h1, h2, h.1.tr h3 (fun t i k j h => by unfold MT at h; unfold MEd; omega), gf_mk (fun z => Eq z F) (funext fun j => h3.2 _ _ _ _ (by first | exact nMT rfl | (unfold MT; omega))) (h.2.1), trivial⟩)) (pc' := 81) rfl (fun y57 => ?_)
                refine G_ex (fun hy57 => ?_)
                obtain rfl : y57 = (-2) := by omega
                exact T_iret zk_137_81 rfl (fun σ' h => ⟨_, rfl, (by first | omega | (have hd := (cpr_spec v0 v1 u0 u1).1 (by omega); omega) | (have hd := (cpr_spec v0 v1 u0 u1).2.1 (by omega); omega) | (have hd := (cpr_spec v0 v1 u0 u1).2.2.1 (by omega); omega) | (have hd := (cpr_spec v0 v1 u0 u1).2.2.2 (by omega); omega)), h.1, ⟨⟨fun q => by exfalso; omega, fun _ => h.2.1⟩, trivial⟩⟩)
    ·
      refine T_ld zk_137_14 rfl rfl rfl (pc' := 15) rfl ?_
      refine T_op zk_137_15 rfl X_ic (pc' := 16) rfl ?_
      refine T_calli (K := fun y58 σ' => (y58 = (-1)) ∧ (fun σ' => IF (MEd (Int.toNat p1)) σ σ' ∧ Eq (σ' 41 0 0) F ∧ True) σ') (r := []) zk_137_16 rfl rfl rfl rfl rfl rfl (Or.inr ⟨_, _, _, _, rfl, vd_35, rfl⟩) (fun σ' h => (m_123 ((-1)) (by omega) σ' h.1.1 ).le (Nat.le_of_ble_eq_true rfl) (fun v σ2 ⟨y, h1, h2, h3, h4⟩ => ⟨y, h1, h2, h.1.tr h3 (fun t i k j h => by unfold MT at h; unfold MEd; omega), gf_mk (fun z => Eq z F) (funext fun j => h3.2 _ _ _ _ (by first | exact nMT rfl | (unfold MT; omega))) (h.2.1), trivial⟩)) (pc' := 19) rfl (fun y58 => ?_)
      refine G_ex (fun hy58 => ?_)
      obtain rfl : y58 = (-1) := by omega
      exact T_iret zk_137_19 rfl (fun σ' h => ⟨_, rfl, (by first | omega | (have hd := (cpr_spec v0 v1 u0 u1).1 (by omega); omega) | (have hd := (cpr_spec v0 v1 u0 u1).2.1 (by omega); omega) | (have hd := (cpr_spec v0 v1 u0 u1).2.2.1 (by omega); omega) | (have hd := (cpr_spec v0 v1 u0 u1).2.2.2 (by omega); omega)), h.1, ⟨⟨fun q => by exfalso; omega, fun _ => h.2.1⟩, trivial⟩⟩)
/-- WModel.element -/
theorem r_138 {xs : Nat × (Nat → Int32)} (p0 : Int) (p1 : Int) (u0 : Int) (u2 : Int) (a : Int) (hp0 : 0 ≤ p0 ∧ p0 ≤ 7) (hp1 : -2147483648 ≤ p1 ∧ p1 ≤ 2147483647) (hu0 : 0 ≤ u0 ∧ u0 ≤ 2) (hu2 : 0 ≤ u2 ∧ u2 ≤ 96) (σ : ZS) (hI : Inv σ)  (s0 : σ 37 0 0 (Int.toNat p0) = u0) (s2 : σ 39 0 0 (Int.toNat p0) = u2) (sa : σ 41 0 0 (Int.toNat (96 * p0 + p1)) = a) : CT xs 2 138 [av 35 0 0, iv p0, iv p1] σ (fun v σ' => ∃ y, v = some (jv y) ∧ ((y = 0 ∧ (¬ u0 = 1)) ∨ (y = 0 ∧ ¬ (¬ u0 = 1) ∧ (¬ (0 ≤ p1 ∧ p1 < u2))) ∨ (y = a ∧ ¬ (¬ u0 = 1) ∧ ¬ (¬ (0 ≤ p1 ∧ p1 < u2)))) ∧ IF MN σ σ' ∧ (True)) := by
  refine G_ct (J := (fun σ' => IF MN σ σ' ∧ True)) (L := [(0, av 35 0 0), (1, iv p0), (2, iv p1)]) (nL := 3) rfl rfl rfl ⟨IF.rf hI, trivial⟩ ?_
  refine T_ld zk_138_0 rfl rfl rfl (pc' := 1) rfl ?_
  refine T_calli (K := fun y1 σ' => ((y1 = 0 ∧ (p0 < 0 ∨ 7 < p0)) ∨ (y1 = 1 ∧ 0 ≤ p0 ∧ p0 ≤ 7)) ∧ (fun σ' => IF MN σ σ' ∧ True) σ') (r := []) zk_138_1 rfl rfl rfl rfl rfl rfl (Or.inl (Or.inl rfl)) (fun σ' h => (m_125 p0 (by omega) σ' h.1.1 ).le (Nat.le_of_ble_eq_true rfl) (fun v σ2 ⟨y, h1, h2, h3, h4⟩ => ⟨y, h1, h2, h.1.tr h3 MN_sub, trivial⟩)) (pc' := 4) rfl (fun y1 => ?_)
  refine G_ex (fun hy1 => ?_)
  refine T_if_eq zk_138_4 (by omega) (pc' := 7) rfl (fun h2 => ?_) (fun h3 => ?_)
  ·
    refine T_op zk_138_45 rfl (X_lc (v := 0) (by decide)) (pc' := 46) rfl ?_
    exact T_lret zk_138_46 rfl (fun σ' h => ⟨_, rfl, (by omega), h.1, trivial⟩)
  ·
    refine T_ld zk_138_7 rfl rfl rfl (pc' := 8) rfl ?_
    refine T_getR (t' := 37) (i' := 0) (k' := 0) zk_138_8 rfl rfl rfl vd_35 (pc' := 11) rfl ?_
    refine T_ld zk_138_11 rfl rfl rfl (pc' := 12) rfl ?_
    refine G_ialdX (w := u0) (ln := 8) zk_138_12 rfl rfl vd_37 (by omega) (by omega) (by omega) (fun σ' h => (h.1.2 _ _ _ _ (fun q => q)).trans s0) (pc' := 13) rfl ?_
    refine T_op zk_138_13 rfl X_ic (pc' := 14) rfl ?_
    refine T_icmp_ne zk_138_14 (by omega) (by omega) (pc' := 17) rfl (fun h4 => ?_) (fun h5 => ?_)
    ·
      refine T_op zk_138_45 rfl (X_lc (v := 0) (by decide)) (pc' := 46) rfl ?_
      exact T_lret zk_138_46 rfl (fun σ' h => ⟨_, rfl, (by omega), h.1, trivial⟩)
    ·
      refine T_ld zk_138_17 rfl rfl rfl (pc' := 18) rfl ?_
      refine T_if_lt zk_138_18 (by omega) (pc' := 21) rfl (fun h6 => ?_) (fun h7 => ?_)
      ·
        refine T_op zk_138_45 rfl (X_lc (v := 0) (by decide)) (pc' := 46) rfl ?_
        exact T_lret zk_138_46 rfl (fun σ' h => ⟨_, rfl, (by omega), h.1, trivial⟩)
      ·
        refine T_ld zk_138_21 rfl rfl rfl (pc' := 22) rfl ?_
        refine T_ld zk_138_22 rfl rfl rfl (pc' := 23) rfl ?_
        refine T_getR (t' := 39) (i' := 0) (k' := 0) zk_138_23 rfl rfl rfl vd_35 (pc' := 26) rfl ?_
        refine T_ld zk_138_26 rfl rfl rfl (pc' := 27) rfl ?_
        refine G_ialdX (w := u2) (ln := 8) zk_138_27 rfl rfl vd_39 (by omega) (by omega) (by omega) (fun σ' h => (h.1.2 _ _ _ _ (fun q => q)).trans s2) (pc' := 28) rfl ?_
        refine T_icmp_ge zk_138_28 (by omega) (by omega) (pc' := 31) rfl (fun h8 => ?_) (fun h9 => ?_)
        ·
          refine T_op zk_138_45 rfl (X_lc (v := 0) (by decide)) (pc' := 46) rfl ?_
          exact T_lret zk_138_46 rfl (fun σ' h => ⟨_, rfl, (by omega), h.1, trivial⟩)
        ·
          refine T_ld zk_138_31 rfl rfl rfl (pc' := 32) rfl ?_
          refine T_getR (t' := 41) (i' := 0) (k' := 0) zk_138_32 rfl rfl rfl vd_35 (pc' := 35) rfl ?_
          refine T_op zk_138_35 rfl (X_bi (v := 96) (by decide)) (pc' := 37) rfl ?_
          refine T_ld zk_138_37 rfl rfl rfl (pc' := 38) rfl ?_
          refine T_op zk_138_38 rfl X_mul (pc' := 39) rfl ?_
          refine T_ld zk_138_39 rfl rfl rfl (pc' := 40) rfl ?_
          refine T_op zk_138_40 rfl X_add (pc' := 41) rfl ?_
          refine G_laldX (w := a) (ln := 768) zk_138_41 rfl rfl vd_41 (by omega) (by omega) (by omega) (fun σ' h => (h.1.2 _ _ _ _ (fun q => q)).trans sa) (pc' := 42) rfl ?_
          refine T_goto zk_138_42 ?_
          exact T_lret zk_138_46 rfl (fun σ' h => ⟨_, rfl, (by omega), h.1, trivial⟩)
/-- WModel.element -/
theorem r_138o {xs : Nat × (Nat → Int32)} (p0 : Int) (p1 : Int) (hp0 : -2147483648 ≤ p0 ∧ p0 ≤ 2147483647) (hp1 : -2147483648 ≤ p1 ∧ p1 ≤ 2147483647) (ho : p0 < 0 ∨ 7 < p0) (σ : ZS) (hI : Inv σ)   : CT xs 2 138 [av 35 0 0, iv p0, iv p1] σ (fun v σ' => ∃ y, v = some (jv y) ∧ (y = 0) ∧ IF MN σ σ' ∧ (True)) := by
  refine G_ct (J := (fun σ' => IF MN σ σ' ∧ True)) (L := [(0, av 35 0 0), (1, iv p0), (2, iv p1)]) (nL := 3) rfl rfl rfl ⟨IF.rf hI, trivial⟩ ?_
  refine T_ld zk_138_0 rfl rfl rfl (pc' := 1) rfl ?_
  refine T_calli (K := fun y1 σ' => ((y1 = 0 ∧ (p0 < 0 ∨ 7 < p0)) ∨ (y1 = 1 ∧ 0 ≤ p0 ∧ p0 ≤ 7)) ∧ (fun σ' => IF MN σ σ' ∧ True) σ') (r := []) zk_138_1 rfl rfl rfl rfl rfl rfl (Or.inl (Or.inl rfl)) (fun σ' h => (m_125 p0 (by omega) σ' h.1.1 ).le (Nat.le_of_ble_eq_true rfl) (fun v σ2 ⟨y, h1, h2, h3, h4⟩ => ⟨y, h1, h2, h.1.tr h3 MN_sub, trivial⟩)) (pc' := 4) rfl (fun y1 => ?_)
  refine G_ex (fun hy1 => ?_)
  refine T_if_eq zk_138_4 (by omega) (pc' := 7) rfl (fun h2 => ?_) (fun h3 => ?_)
  ·
    refine T_op zk_138_45 rfl (X_lc (v := 0) (by decide)) (pc' := 46) rfl ?_
    exact T_lret zk_138_46 rfl (fun σ' h => ⟨_, rfl, (by omega), h.1, trivial⟩)
  · exfalso; omega
