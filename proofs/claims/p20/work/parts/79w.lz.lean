/-- WModel.letter -/
theorem r_148 {xs : Nat × (Nat → Int32)}  (a : Int) (m : Int) (b : Int) (F : Nat → Int) (ha : 0 ≤ a ∧ a ≤ 96) (hm : 0 ≤ m ∧ m ≤ 96) (hb : 0 ≤ b ∧ b ≤ 672) (σ : ZS) (hI : Inv σ)  (s1 : σ 35 0 0 19 = a) (s2 : σ 35 0 0 20 = m) (s3 : σ 35 0 0 21 = b) (rf : Eq (σ 41 0 0) F) : CT xs 1 148 [av 35 0 0] σ (fun v σ' => ∃ y, v = some (iv y) ∧ (y = lt (LC F (b)) (m) (a) ∧ -2147483648 ≤ y ∧ y ≤ 2147483647) ∧ IF MN σ σ' ∧ (True)) := by
  refine G_ct (J := (fun σ' => IF MN σ σ' ∧ Eq (σ' 41 0 0) F ∧ True)) (L := [(0, av 35 0 0)]) (nL := 1) rfl rfl rfl ⟨IF.rf hI, rf, trivial⟩ ?_
  have hlta := lt_cells F b m a (by omega)
  refine T_ld zk_148_0 rfl rfl rfl (pc' := 1) rfl ?_
  refine G_getX (w := a) zk_148_1 rfl vd_35 (fun σ' h => (h.1.2 _ _ _ _ (fun q => q)).trans s1) (pc' := 4) rfl ?_
  refine T_ld zk_148_4 rfl rfl rfl (pc' := 5) rfl ?_
  refine G_getX (w := m) zk_148_5 rfl vd_35 (fun σ' h => (h.1.2 _ _ _ _ (fun q => q)).trans s2) (pc' := 8) rfl ?_
  refine T_icmp_ge zk_148_8 (by omega) (by omega) (pc' := 11) rfl (fun h1 => ?_) (fun h2 => ?_)
  ·
    refine T_op zk_148_29 rfl X_ic (pc' := 30) rfl ?_
    exact T_iret zk_148_30 rfl (fun σ' h => ⟨_, rfl, (by omega), h.1, trivial⟩)
  ·
    refine T_ld zk_148_11 rfl rfl rfl (pc' := 12) rfl ?_
    refine T_getR (t' := 41) (i' := 0) (k' := 0) zk_148_12 rfl rfl rfl vd_35 (pc' := 15) rfl ?_
    refine T_ld zk_148_15 rfl rfl rfl (pc' := 16) rfl ?_
    refine G_getX (w := b) zk_148_16 rfl vd_35 (fun σ' h => (h.1.2 _ _ _ _ (fun q => q)).trans s3) (pc' := 19) rfl ?_
    refine T_ld zk_148_19 rfl rfl rfl (pc' := 20) rfl ?_
    refine G_getX (w := a) zk_148_20 rfl vd_35 (fun σ' h => (h.1.2 _ _ _ _ (fun q => q)).trans s1) (pc' := 23) rfl ?_
    refine T_op zk_148_23 rfl X_add (pc' := 24) rfl ?_
    refine G_laldX (w := F (Int.toNat (b + a))) (ln := 768) zk_148_24 rfl rfl vd_41 (by omega) (by omega) (by omega) (fun σ' h => congrFun (h.2.1) _) (pc' := 25) rfl ?_
    refine T_l2iX zk_148_25 (fun hl3 hl3' => ?_)
    refine T_goto zk_148_26 ?_
    exact T_iret zk_148_30 rfl (fun σ' h => ⟨_, rfl, (by omega), h.1, trivial⟩)
/-- WModel.is -/
theorem r_149 {xs : Nat × (Nat → Int32)} (p0 : Int) (a : Int) (m : Int) (b : Int) (F : Nat → Int) (hp0 : 0 ≤ p0 ∧ p0 ≤ 127) (ha : 0 ≤ a ∧ a ≤ 96) (hm : 0 ≤ m ∧ m ≤ 96) (hb : 0 ≤ b ∧ b ≤ 672) (σ : ZS) (hI : Inv σ)  (s1 : σ 35 0 0 19 = a) (s2 : σ 35 0 0 20 = m) (s3 : σ 35 0 0 21 = b) (rf : Eq (σ 41 0 0) F) : CT xs 2 149 [av 35 0 0, iv p0] σ (fun v σ' => ∃ y, v = some (iv y) ∧ ((y = 0 ∧ (¬ lt (LC F (b)) (m) (a) = p0)) ∨ (y = 1 ∧ ¬ (¬ lt (LC F (b)) (m) (a) = p0))) ∧ IF MN σ σ' ∧ (True)) := by
  refine G_ct (J := (fun σ' => IF MN σ σ' ∧ Eq (σ' 41 0 0) F ∧ True)) (L := [(0, av 35 0 0), (1, iv p0)]) (nL := 2) rfl rfl rfl ⟨IF.rf hI, rf, trivial⟩ ?_
  have hlta := lt_cells F b m a (by omega)
  refine T_ld zk_149_0 rfl rfl rfl (pc' := 1) rfl ?_
  refine G_getX (w := a) zk_149_1 rfl vd_35 (fun σ' h => (h.1.2 _ _ _ _ (fun q => q)).trans s1) (pc' := 4) rfl ?_
  refine T_ld zk_149_4 rfl rfl rfl (pc' := 5) rfl ?_
  refine G_getX (w := m) zk_149_5 rfl vd_35 (fun σ' h => (h.1.2 _ _ _ _ (fun q => q)).trans s2) (pc' := 8) rfl ?_
  refine T_icmp_ge zk_149_8 (by omega) (by omega) (pc' := 11) rfl (fun h1 => ?_) (fun h2 => ?_)
  ·
    refine T_op zk_149_23 rfl X_ic (pc' := 24) rfl ?_
    exact T_zret zk_149_24 rfl (by omega) (fun σ' h => ⟨_, rfl, (by omega), h.1, trivial⟩)
  ·
    refine T_ld zk_149_11 rfl rfl rfl (pc' := 12) rfl ?_
    refine T_calli (K := fun y3 σ' => (y3 = lt (LC F (b)) (m) (a) ∧ -2147483648 ≤ y3 ∧ y3 ≤ 2147483647) ∧ (fun σ' => IF MN σ σ' ∧ Eq (σ' 41 0 0) F ∧ True) σ') (r := []) zk_149_12 rfl rfl rfl rfl rfl rfl (Or.inr ⟨_, _, _, _, rfl, vd_35, rfl⟩) (fun σ' h => (r_148 a m b F (by omega) (by omega) (by omega) σ' h.1.1 ((h.1.2 _ _ _ _ (fun q => q)).trans s1) ((h.1.2 _ _ _ _ (fun q => q)).trans s2) ((h.1.2 _ _ _ _ (fun q => q)).trans s3) (h.2.1)).le (Nat.le_of_ble_eq_true rfl) (fun v σ2 ⟨y, h1, h2, h3, h4⟩ => ⟨y, h1, h2, h.1.tr h3 MN_sub, gf_mk (fun z => Eq z F) (funext fun j => h3.2 _ _ _ _ (fun q => q)) (h.2.1), trivial⟩)) (pc' := 15) rfl (fun y3 => ?_)
    refine G_ex (fun hy3 => ?_)
    obtain rfl : y3 = lt (LC F (b)) (m) (a) := by omega
    refine T_ld zk_149_15 rfl rfl rfl (pc' := 16) rfl ?_
    refine T_icmp_ne zk_149_16 (by omega) (by omega) (pc' := 19) rfl (fun h4 => ?_) (fun h5 => ?_)
    ·
      refine T_op zk_149_23 rfl X_ic (pc' := 24) rfl ?_
      exact T_zret zk_149_24 rfl (by omega) (fun σ' h => ⟨_, rfl, (by omega), h.1, trivial⟩)
    ·
      refine T_op zk_149_19 rfl X_ic (pc' := 20) rfl ?_
      refine T_goto zk_149_20 ?_
      exact T_zret zk_149_24 rfl (by omega) (fun σ' h => ⟨_, rfl, (by omega), h.1, trivial⟩)
/-- WModel.reads -/
theorem r_150 {xs : Nat × (Nat → Int32)} (p0 : Int) (a : Int) (m : Int) (b : Int) (t0 : Int) (F : Nat → Int) (hp0 : 0 ≤ p0 ∧ p0 ≤ 5) (ha : 0 ≤ a ∧ a ≤ 96) (hm : 0 ≤ m ∧ m ≤ 96) (hb : 0 ≤ b ∧ b ≤ 672) (ht0 : 0 ≤ t0 ∧ t0 ≤ 31) (σ : ZS) (hI : Inv σ)  (s1 : σ 35 0 0 19 = a) (s2 : σ 35 0 0 20 = m) (s3 : σ 35 0 0 21 = b) (rf : Eq (σ 41 0 0) F) (s4 : σ 35 0 0 23 = t0) : CT xs 3 150 [av 35 0 0, iv p0] σ (fun v σ' => ∃ y, v = some (iv y) ∧ ((y = 1 ∧ tk (LC F (b)) (m) (a) = 1) ∨ (y = 0 ∧ tk (LC F (b)) (m) (a) = 0)) ∧ IF MRd σ σ' ∧ (σ' 35 0 0 19 = te (LC F (b)) (m) (a) ∧ (y = 1 → σ' 35 0 0 23 = t0 + 1) ∧ True)) := by
  refine G_ct (J := (fun σ' => IF MRd σ σ' ∧ σ' 35 0 0 19 = a ∧ Eq (σ' 41 0 0) F ∧ σ' 35 0 0 23 = t0 ∧ True)) (L := [(0, av 35 0 0), (1, iv p0)]) (nL := 5) rfl rfl rfl ⟨IF.rf hI, s1, rf, s4, trivial⟩ ?_
  refine T_joinP (a < m ∧ ff (lt (LC F (b)) (m) (a)) = 1) (fun q => TJ xs (fun σ' => IF MRd σ σ' ∧ σ' 35 0 0 19 = a ∧ Eq (σ' 41 0 0) F ∧ σ' 35 0 0 23 = t0 ∧ True) 2 150 56 [(0, av 35 0 0), (1, iv p0)] [] q) ?_ (fun hj1 => ?_)
  ·
    intro hp2
    refine T_op zk_150_56 rfl (X_bi (v := 50) (by decide)) (pc' := 58) rfl ?_
    refine T_ld zk_150_58 rfl rfl rfl (pc' := 59) rfl ?_
    refine T_op zk_150_59 rfl X_mul (pc' := 60) rfl ?_
    refine T_ld zk_150_60 rfl rfl rfl (pc' := 61) rfl ?_
    refine G_getX (w := t0) zk_150_61 rfl vd_35 (fun σ' h => h.2.2.2.1) (pc' := 64) rfl ?_
    refine T_op zk_150_64 rfl X_add (pc' := 65) rfl ?_
    refine T_st (L' := [(0, av 35 0 0), (1, iv p0), (2, iv (50 * p0 + t0))]) zk_150_65 (nL := 5) rfl rfl rfl rfl rfl (pc' := 66) rfl ?_
    refine T_ld zk_150_66 rfl rfl rfl (pc' := 67) rfl ?_
    refine T_getR (t' := 46) (i' := 0) (k' := 0) zk_150_67 rfl rfl rfl vd_35 (pc' := 70) rfl ?_
    refine T_ld zk_150_70 rfl rfl rfl (pc' := 71) rfl ?_
    refine T_ld zk_150_71 rfl rfl rfl (pc' := 72) rfl ?_
    refine T_calli (K := fun y3 σ' => (y3 = lt (LC F (b)) (m) (a) ∧ -2147483648 ≤ y3 ∧ y3 ≤ 2147483647) ∧ (fun σ' => IF MRd σ σ' ∧ σ' 35 0 0 19 = a ∧ Eq (σ' 41 0 0) F ∧ σ' 35 0 0 23 = t0 ∧ True) σ') (r := [iv (50 * p0 + t0), av 46 0 0]) zk_150_72 rfl rfl rfl rfl rfl rfl (Or.inr ⟨_, _, _, _, rfl, vd_35, rfl⟩) (fun σ' h => (r_148 a m b F (by omega) (by omega) (by omega) σ' h.1.1 (h.2.1) ((h.1.2 _ _ _ _ (by first | exact nMRd rfl | (unfold MRd; omega))).trans s2) ((h.1.2 _ _ _ _ (by first | exact nMRd rfl | (unfold MRd; omega))).trans s3) (h.2.2.1)).le (Nat.le_of_ble_eq_true rfl) (fun v σ2 ⟨y, h1, h2, h3, h4⟩ => ⟨y, h1, h2, h.1.tr h3 MN_sub, (h3.2 _ _ _ _ (fun q => q)).trans (h.2.1), gf_mk (fun z => Eq z F) (funext fun j => h3.2 _ _ _ _ (fun q => q)) (h.2.2.1), (h3.2 _ _ _ _ (fun q => q)).trans (h.2.2.2.1), trivial⟩)) (pc' := 75) rfl (fun y3 => ?_)
    refine G_ex (fun hy3 => ?_)
    obtain rfl : y3 = lt (LC F (b)) (m) (a) := by omega
    refine G_iast (J' := (fun σ' => IF MRd σ σ' ∧ σ' 35 0 0 19 = a ∧ Eq (σ' 41 0 0) F ∧ σ' 35 0 0 23 = t0 ∧ True)) (ln := 300) zk_150_75 rfl rfl vd_46 (by omega) (by omega) (by omega) (fun σ' h => ⟨h.1.up ⟨by omega, trivial⟩ (by first | exact pMRd rfl | (unfold MRd; omega)), (up_ne (by omega)).trans (h.2.1), gf_mk (fun z => Eq z F) (up_row (by omega)) (h.2.2.1), (up_ne (by omega)).trans (h.2.2.2.1), trivial⟩) (pc' := 76) rfl ?_
    refine T_ld zk_150_76 rfl rfl rfl (pc' := 77) rfl ?_
    refine T_op (st' := [av 35 0 0, av 35 0 0]) zk_150_77 rfl rfl (pc' := 78) rfl ?_
    refine G_getX (w := a) zk_150_78 rfl vd_35 (fun σ' h => h.2.1) (pc' := 81) rfl ?_
    refine T_op zk_150_81 rfl X_ic (pc' := 82) rfl ?_
    refine T_op zk_150_82 rfl X_add (pc' := 83) rfl ?_
    refine T_putf (J' := (fun σ' => IF MRd σ σ' ∧ Eq (σ' 41 0 0) F ∧ σ' 35 0 0 23 = t0 ∧ σ' 35 0 0 19 = a + 1 ∧ True)) zk_150_83 rfl rfl vd_35 (fun σ' h => ⟨h.1.up (by simp only [rgP] <;> omega) (by first | exact pMRd rfl | (unfold MRd; omega)), gf_mk (fun z => Eq z F) (up_row (by omega)) (h.2.2.1), (up_ne (by omega)).trans (h.2.2.2.1), up_eq, trivial⟩) (pc' := 86) rfl ?_
    refine T_joinP (a + 1 < m ∧ sg (lt (LC F (b)) (m) (a + 1)) = 1) (fun q => TJ xs (fun σ' => IF MRd σ σ' ∧ Eq (σ' 41 0 0) F ∧ σ' 35 0 0 23 = t0 ∧ σ' 35 0 0 19 = a + 1 ∧ True) 2 150 115 [(0, av 35 0 0), (1, iv p0), (2, iv (50 * p0 + t0))] [] q) ?_ (fun hj4 => ?_)
    ·
      intro hp5
      have hlta2 := lt_cells F b m (a + 2) (by omega)
      have hlta3 := lt_cells F b m (a + 3) (by omega)
      have hlta4 := lt_cells F b m (a + 4) (by omega)
      have hnd := nd_spec (LC F (b)) m (a + 2)
      rw [show a + 2 + 1 = a + 3 from by omega, show a + 2 + 2 = a + 4 from by omega] at hnd
      have htk3 : ¬ 0 < nd (LC F (b)) m (a + 2) → tk (LC F (b)) m a = 0 ∧ te (LC F (b)) m a = a + 2 + nd (LC F (b)) m (a + 2) := fun q => (tk_spec (LC F (b)) m a).2.2.1 ⟨by omega, by omega, q⟩
      have htk4 : 0 < nd (LC F (b)) m (a + 2) → tk (LC F (b)) m a = 1 ∧ te (LC F (b)) m a = a + 2 + nd (LC F (b)) m (a + 2) := fun q => (tk_spec (LC F (b)) m a).2.2.2 ⟨by omega, by omega, q⟩
      refine T_ld zk_150_115 rfl rfl rfl (pc' := 116) rfl ?_
      refine T_getR (t' := 47) (i' := 0) (k' := 0) zk_150_116 rfl rfl rfl vd_35 (pc' := 119) rfl ?_
      refine T_ld zk_150_119 rfl rfl rfl (pc' := 120) rfl ?_
      refine T_ld zk_150_120 rfl rfl rfl (pc' := 121) rfl ?_
      refine T_calli (K := fun y6 σ' => (y6 = lt (LC F (b)) (m) (a + 1) ∧ -2147483648 ≤ y6 ∧ y6 ≤ 2147483647) ∧ (fun σ' => IF MRd σ σ' ∧ Eq (σ' 41 0 0) F ∧ σ' 35 0 0 23 = t0 ∧ σ' 35 0 0 19 = a + 1 ∧ True) σ') (r := [iv (50 * p0 + t0), av 47 0 0]) zk_150_121 rfl rfl rfl rfl rfl rfl (Or.inr ⟨_, _, _, _, rfl, vd_35, rfl⟩) (fun σ' h => (r_148 (a + 1) m b F (by omega) (by omega) (by omega) σ' h.1.1 (h.2.2.2.1) ((h.1.2 _ _ _ _ (by first | exact nMRd rfl | (unfold MRd; omega))).trans s2) ((h.1.2 _ _ _ _ (by first | exact nMRd rfl | (unfold MRd; omega))).trans s3) (h.2.1)).le (Nat.le_of_ble_eq_true rfl) (fun v σ2 ⟨y, h1, h2, h3, h4⟩ => ⟨y, h1, h2, h.1.tr h3 MN_sub, gf_mk (fun z => Eq z F) (funext fun j => h3.2 _ _ _ _ (fun q => q)) (h.2.1), (h3.2 _ _ _ _ (fun q => q)).trans (h.2.2.1), (h3.2 _ _ _ _ (fun q => q)).trans (h.2.2.2.1), trivial⟩)) (pc' := 124) rfl (fun y6 => ?_)
      refine G_ex (fun hy6 => ?_)
      obtain rfl : y6 = lt (LC F (b)) (m) (a + 1) := by omega
      refine G_iast (J' := (fun σ' => IF MRd σ σ' ∧ Eq (σ' 41 0 0) F ∧ σ' 35 0 0 23 = t0 ∧ σ' 35 0 0 19 = a + 1 ∧ True)) (ln := 300) zk_150_124 rfl rfl vd_47 (by omega) (by omega) (by omega) (fun σ' h => ⟨h.1.up ⟨by omega, trivial⟩ (by first | exact pMRd rfl | (unfold MRd; omega)), gf_mk (fun z => Eq z F) (up_row (by omega)) (h.2.1), (up_ne (by omega)).trans (h.2.2.1), (up_ne (by omega)).trans (h.2.2.2.1), trivial⟩) (pc' := 125) rfl ?_
      refine T_ld zk_150_125 rfl rfl rfl (pc' := 126) rfl ?_
      refine T_op (st' := [av 35 0 0, av 35 0 0]) zk_150_126 rfl rfl (pc' := 127) rfl ?_
      refine G_getX (w := a + 1) zk_150_127 rfl vd_35 (fun σ' h => h.2.2.2.1) (pc' := 130) rfl ?_
      refine T_op zk_150_130 rfl X_ic (pc' := 131) rfl ?_
      refine T_opc (w := a + 2) zk_150_131 rfl X_add (by omega) (pc' := 132) rfl ?_
      refine T_putf (J' := (fun σ' => IF MRd σ σ' ∧ Eq (σ' 41 0 0) F ∧ σ' 35 0 0 23 = t0 ∧ σ' 35 0 0 19 = a + 2 ∧ True)) zk_150_132 rfl rfl vd_35 (fun σ' h => ⟨h.1.up (by simp only [rgP] <;> omega) (by first | exact pMRd rfl | (unfold MRd; omega)), gf_mk (fun z => Eq z F) (up_row (by omega)) (h.2.1), (up_ne (by omega)).trans (h.2.2.1), up_eq, trivial⟩) (pc' := 135) rfl ?_
      refine T_op zk_150_135 rfl X_ic (pc' := 136) rfl ?_
      refine T_st (L' := [(0, av 35 0 0), (1, iv p0), (2, iv (50 * p0 + t0)), (3, iv 0)]) zk_150_136 (nL := 5) rfl rfl rfl rfl rfl (pc' := 137) rfl ?_
      refine T_op zk_150_137 rfl X_ic (pc' := 138) rfl ?_
      refine T_st (L' := [(0, av 35 0 0), (1, iv p0), (2, iv (50 * p0 + t0)), (3, iv 0), (4, iv 0)]) zk_150_138 (nL := 5) rfl rfl rfl rfl rfl (pc' := 140) rfl ?_
      refine T_ld zk_150_140 rfl rfl rfl (pc' := 141) rfl ?_
      refine G_getX (w := a + 2) zk_150_141 rfl vd_35 (fun σ' h => h.2.2.2.1) (pc' := 144) rfl ?_
      refine T_ld zk_150_144 rfl rfl rfl (pc' := 145) rfl ?_
      refine G_getX (w := m) zk_150_145 rfl vd_35 (fun σ' h => (h.1.2 _ _ _ _ (by first | exact nMRd rfl | (unfold MRd; omega))).trans s2) (pc' := 148) rfl ?_
      refine T_icmp_ge zk_150_148 (by omega) (by omega) (pc' := 151) rfl (fun h7 => ?_) (fun h8 => ?_)
      ·
        refine T_ld zk_150_213 rfl rfl rfl (pc' := 215) rfl ?_
        refine T_if_ne zk_150_215 (by omega) (pc' := 218) rfl (fun h9 => ?_) (fun h10 => ?_)
        · exfalso; omega
        ·
          refine T_op zk_150_218 rfl X_ic (pc' := 219) rfl ?_
          exact T_zret zk_150_219 rfl (by omega) (fun σ' h => ⟨_, rfl, (by omega), h.1, ⟨(h.2.2.2.1).trans (by omega), (by have e := h.2.2.1; omega), trivial⟩⟩)
      ·
        refine T_ld zk_150_151 rfl rfl rfl (pc' := 152) rfl ?_
        refine T_calli (K := fun y11 σ' => (y11 = lt (LC F (b)) (m) (a + 2) ∧ -2147483648 ≤ y11 ∧ y11 ≤ 2147483647) ∧ (fun σ' => IF MRd σ σ' ∧ Eq (σ' 41 0 0) F ∧ σ' 35 0 0 23 = t0 ∧ σ' 35 0 0 19 = a + 2 ∧ True) σ') (r := []) zk_150_152 rfl rfl rfl rfl rfl rfl (Or.inr ⟨_, _, _, _, rfl, vd_35, rfl⟩) (fun σ' h => (r_148 (a + 2) m b F (by omega) (by omega) (by omega) σ' h.1.1 (h.2.2.2.1) ((h.1.2 _ _ _ _ (by first | exact nMRd rfl | (unfold MRd; omega))).trans s2) ((h.1.2 _ _ _ _ (by first | exact nMRd rfl | (unfold MRd; omega))).trans s3) (h.2.1)).le (Nat.le_of_ble_eq_true rfl) (fun v σ2 ⟨y, h1, h2, h3, h4⟩ => ⟨y, h1, h2, h.1.tr h3 MN_sub, gf_mk (fun z => Eq z F) (funext fun j => h3.2 _ _ _ _ (fun q => q)) (h.2.1), (h3.2 _ _ _ _ (fun q => q)).trans (h.2.2.1), (h3.2 _ _ _ _ (fun q => q)).trans (h.2.2.2.1), trivial⟩)) (pc' := 155) rfl (fun y11 => ?_)
        refine G_ex (fun hy11 => ?_)
        obtain rfl : y11 = lt (LC F (b)) (m) (a + 2) := by omega
        refine T_op zk_150_155 rfl (X_bi (v := 48) (by decide)) (pc' := 157) rfl ?_
        refine T_icmp_lt zk_150_157 (by omega) (by omega) (pc' := 160) rfl (fun h12 => ?_) (fun h13 => ?_)
        ·
          refine T_ld zk_150_213 rfl rfl rfl (pc' := 215) rfl ?_
          refine T_if_ne zk_150_215 (by omega) (pc' := 218) rfl (fun h14 => ?_) (fun h15 => ?_)
          · exfalso; omega
          ·
            refine T_op zk_150_218 rfl X_ic (pc' := 219) rfl ?_
            exact T_zret zk_150_219 rfl (by omega) (fun σ' h => ⟨_, rfl, (by omega), h.1, ⟨(h.2.2.2.1).trans (by omega), (by have e := h.2.2.1; omega), trivial⟩⟩)
        ·
          refine T_ld zk_150_160 rfl rfl rfl (pc' := 161) rfl ?_
          refine T_calli (K := fun y16 σ' => (y16 = lt (LC F (b)) (m) (a + 2) ∧ -2147483648 ≤ y16 ∧ y16 ≤ 2147483647) ∧ (fun σ' => IF MRd σ σ' ∧ Eq (σ' 41 0 0) F ∧ σ' 35 0 0 23 = t0 ∧ σ' 35 0 0 19 = a + 2 ∧ True) σ') (r := []) zk_150_161 rfl rfl rfl rfl rfl rfl (Or.inr ⟨_, _, _, _, rfl, vd_35, rfl⟩) (fun σ' h => (r_148 (a + 2) m b F (by omega) (by omega) (by omega) σ' h.1.1 (h.2.2.2.1) ((h.1.2 _ _ _ _ (by first | exact nMRd rfl | (unfold MRd; omega))).trans s2) ((h.1.2 _ _ _ _ (by first | exact nMRd rfl | (unfold MRd; omega))).trans s3) (h.2.1)).le (Nat.le_of_ble_eq_true rfl) (fun v σ2 ⟨y, h1, h2, h3, h4⟩ => ⟨y, h1, h2, h.1.tr h3 MN_sub, gf_mk (fun z => Eq z F) (funext fun j => h3.2 _ _ _ _ (fun q => q)) (h.2.1), (h3.2 _ _ _ _ (fun q => q)).trans (h.2.2.1), (h3.2 _ _ _ _ (fun q => q)).trans (h.2.2.2.1), trivial⟩)) (pc' := 164) rfl (fun y16 => ?_)
          refine G_ex (fun hy16 => ?_)
          obtain rfl : y16 = lt (LC F (b)) (m) (a + 2) := by omega
          refine T_op zk_150_164 rfl (X_bi (v := 57) (by decide)) (pc' := 166) rfl ?_
          refine T_icmp_gt zk_150_166 (by omega) (by omega) (pc' := 169) rfl (fun h17 => ?_) (fun h18 => ?_)
          ·
            refine T_ld zk_150_213 rfl rfl rfl (pc' := 215) rfl ?_
            refine T_if_ne zk_150_215 (by omega) (pc' := 218) rfl (fun h19 => ?_) (fun h20 => ?_)
            · exfalso; omega
            ·
              refine T_op zk_150_218 rfl X_ic (pc' := 219) rfl ?_
              exact T_zret zk_150_219 rfl (by omega) (fun σ' h => ⟨_, rfl, (by omega), h.1, ⟨(h.2.2.2.1).trans (by omega), (by have e := h.2.2.1; omega), trivial⟩⟩)
          ·
            refine T_ld zk_150_169 rfl rfl rfl (pc' := 171) rfl ?_
            refine T_op zk_150_171 rfl X_ic (pc' := 172) rfl ?_
            refine T_icmp_ge zk_150_172 (by omega) (by omega) (pc' := 175) rfl (fun h21 => ?_) (fun h22 => ?_)
            · exfalso; omega
            ·
              refine T_ld zk_150_175 rfl rfl rfl (pc' := 177) rfl ?_
              refine T_if_le zk_150_177 (by omega) (pc' := 180) rfl (fun h23 => ?_) (fun h24 => ?_)
              ·
                refine T_op zk_150_184 rfl (X_bi (v := 10) (by decide)) (pc' := 186) rfl ?_
                refine T_ld zk_150_186 rfl rfl rfl (pc' := 187) rfl ?_
                refine T_opc (w := 0) zk_150_187 rfl X_mul (by omega) (pc' := 188) rfl ?_
                refine T_ld zk_150_188 rfl rfl rfl (pc' := 189) rfl ?_
                refine T_calli (K := fun y25 σ' => (y25 = lt (LC F (b)) (m) (a + 2) ∧ -2147483648 ≤ y25 ∧ y25 ≤ 2147483647) ∧ (fun σ' => IF MRd σ σ' ∧ Eq (σ' 41 0 0) F ∧ σ' 35 0 0 23 = t0 ∧ σ' 35 0 0 19 = a + 2 ∧ True) σ') (r := [iv 0]) zk_150_189 rfl rfl rfl rfl rfl rfl (Or.inr ⟨_, _, _, _, rfl, vd_35, rfl⟩) (fun σ' h => (r_148 (a + 2) m b F (by omega) (by omega) (by omega) σ' h.1.1 (h.2.2.2.1) ((h.1.2 _ _ _ _ (by first | exact nMRd rfl | (unfold MRd; omega))).trans s2) ((h.1.2 _ _ _ _ (by first | exact nMRd rfl | (unfold MRd; omega))).trans s3) (h.2.1)).le (Nat.le_of_ble_eq_true rfl) (fun v σ2 ⟨y, h1, h2, h3, h4⟩ => ⟨y, h1, h2, h.1.tr h3 MN_sub, gf_mk (fun z => Eq z F) (funext fun j => h3.2 _ _ _ _ (fun q => q)) (h.2.1), (h3.2 _ _ _ _ (fun q => q)).trans (h.2.2.1), (h3.2 _ _ _ _ (fun q => q)).trans (h.2.2.2.1), trivial⟩)) (pc' := 192) rfl (fun y25 => ?_)
                refine G_ex (fun hy25 => ?_)
                obtain rfl : y25 = lt (LC F (b)) (m) (a + 2) := by omega
                refine T_op zk_150_192 rfl X_add (pc' := 193) rfl ?_
                refine T_op zk_150_193 rfl (X_bi (v := 48) (by decide)) (pc' := 195) rfl ?_
                refine T_op zk_150_195 rfl X_sub (pc' := 196) rfl ?_
                refine T_st (L' := [(0, av 35 0 0), (1, iv p0), (2, iv (50 * p0 + t0)), (3, iv (0 + lt (LC F (b)) (m) (a + 2) - 48)), (4, iv 0)]) zk_150_196 (nL := 5) rfl rfl rfl rfl rfl (pc' := 197) rfl ?_
                refine T_iinc (L' := [(0, av 35 0 0), (1, iv p0), (2, iv (50 * p0 + t0)), (3, iv (0 + lt (LC F (b)) (m) (a + 2) - 48)), (4, iv 1)]) zk_150_197 (nL := 5) rfl rfl rfl rfl (pc' := 200) rfl ?_
                refine T_ld zk_150_200 rfl rfl rfl (pc' := 201) rfl ?_
                refine T_op (st' := [av 35 0 0, av 35 0 0]) zk_150_201 rfl rfl (pc' := 202) rfl ?_
                refine G_getX (w := a + 2) zk_150_202 rfl vd_35 (fun σ' h => h.2.2.2.1) (pc' := 205) rfl ?_
                refine T_op zk_150_205 rfl X_ic (pc' := 206) rfl ?_
                refine T_opc (w := a + 3) zk_150_206 rfl X_add (by omega) (pc' := 207) rfl ?_
                refine T_putf (J' := (fun σ' => IF MRd σ σ' ∧ Eq (σ' 41 0 0) F ∧ σ' 35 0 0 23 = t0 ∧ σ' 35 0 0 19 = a + 3 ∧ True)) zk_150_207 rfl rfl vd_35 (fun σ' h => ⟨h.1.up (by simp only [rgP] <;> omega) (by first | exact pMRd rfl | (unfold MRd; omega)), gf_mk (fun z => Eq z F) (up_row (by omega)) (h.2.1), (up_ne (by omega)).trans (h.2.2.1), up_eq, trivial⟩) (pc' := 210) rfl ?_
                refine T_goto zk_150_210 ?_
                refine T_ld zk_150_140 rfl rfl rfl (pc' := 141) rfl ?_
                refine G_getX (w := a + 3) zk_150_141 rfl vd_35 (fun σ' h => h.2.2.2.1) (pc' := 144) rfl ?_
                refine T_ld zk_150_144 rfl rfl rfl (pc' := 145) rfl ?_
                refine G_getX (w := m) zk_150_145 rfl vd_35 (fun σ' h => (h.1.2 _ _ _ _ (by first | exact nMRd rfl | (unfold MRd; omega))).trans s2) (pc' := 148) rfl ?_
                refine T_icmp_ge zk_150_148 (by omega) (by omega) (pc' := 151) rfl (fun h26 => ?_) (fun h27 => ?_)
                ·
                  refine T_ld zk_150_213 rfl rfl rfl (pc' := 215) rfl ?_
                  refine T_if_ne zk_150_215 (by omega) (pc' := 218) rfl (fun h28 => ?_) (fun h29 => ?_)
                  ·
                    refine T_ld zk_150_220 rfl rfl rfl (pc' := 221) rfl ?_
                    refine T_getR (t' := 48) (i' := 0) (k' := 0) zk_150_221 rfl rfl rfl vd_35 (pc' := 224) rfl ?_
                    refine T_ld zk_150_224 rfl rfl rfl (pc' := 225) rfl ?_
                    refine T_ld zk_150_225 rfl rfl rfl (pc' := 226) rfl ?_
                    refine G_iast (J' := (fun σ' => IF MRd σ σ' ∧ Eq (σ' 41 0 0) F ∧ σ' 35 0 0 23 = t0 ∧ σ' 35 0 0 19 = a + 3 ∧ True)) (ln := 300) zk_150_226 rfl rfl vd_48 (by omega) (by omega) (by omega) (fun σ' h => ⟨h.1.up ⟨by omega, trivial⟩ (by first | exact pMRd rfl | (unfold MRd; omega)), gf_mk (fun z => Eq z F) (up_row (by omega)) (h.2.1), (up_ne (by omega)).trans (h.2.2.1), (up_ne (by omega)).trans (h.2.2.2.1), trivial⟩) (pc' := 227) rfl ?_
                    refine T_ld zk_150_227 rfl rfl rfl (pc' := 228) rfl ?_
                    refine T_op (st' := [av 35 0 0, av 35 0 0]) zk_150_228 rfl rfl (pc' := 229) rfl ?_
                    refine G_getX (w := t0) zk_150_229 rfl vd_35 (fun σ' h => h.2.2.1) (pc' := 232) rfl ?_
                    refine T_op zk_150_232 rfl X_ic (pc' := 233) rfl ?_
                    refine T_op zk_150_233 rfl X_add (pc' := 234) rfl ?_
                    refine T_putf (J' := (fun σ' => IF MRd σ σ' ∧ Eq (σ' 41 0 0) F ∧ σ' 35 0 0 19 = a + 3 ∧ σ' 35 0 0 23 = t0 + 1 ∧ True)) zk_150_234 rfl rfl vd_35 (fun σ' h => ⟨h.1.up (by simp only [rgP] <;> omega) (by first | exact pMRd rfl | (unfold MRd; omega)), gf_mk (fun z => Eq z F) (up_row (by omega)) (h.2.1), (up_ne (by omega)).trans (h.2.2.2.1), up_eq, trivial⟩) (pc' := 237) rfl ?_
                    refine T_op zk_150_237 rfl X_ic (pc' := 238) rfl ?_
                    exact T_zret zk_150_238 rfl (by omega) (fun σ' h => ⟨_, rfl, (by omega), h.1, ⟨(h.2.2.1).trans (by omega), (by have e := h.2.2.2.1; omega), trivial⟩⟩)
                  · exfalso; omega
                ·
                  refine T_ld zk_150_151 rfl rfl rfl (pc' := 152) rfl ?_
                  refine T_calli (K := fun y30 σ' => (y30 = lt (LC F (b)) (m) (a + 3) ∧ -2147483648 ≤ y30 ∧ y30 ≤ 2147483647) ∧ (fun σ' => IF MRd σ σ' ∧ Eq (σ' 41 0 0) F ∧ σ' 35 0 0 23 = t0 ∧ σ' 35 0 0 19 = a + 3 ∧ True) σ') (r := []) zk_150_152 rfl rfl rfl rfl rfl rfl (Or.inr ⟨_, _, _, _, rfl, vd_35, rfl⟩) (fun σ' h => (r_148 (a + 3) m b F (by omega) (by omega) (by omega) σ' h.1.1 (h.2.2.2.1) ((h.1.2 _ _ _ _ (by first | exact nMRd rfl | (unfold MRd; omega))).trans s2) ((h.1.2 _ _ _ _ (by first | exact nMRd rfl | (unfold MRd; omega))).trans s3) (h.2.1)).le (Nat.le_of_ble_eq_true rfl) (fun v σ2 ⟨y, h1, h2, h3, h4⟩ => ⟨y, h1, h2, h.1.tr h3 MN_sub, gf_mk (fun z => Eq z F) (funext fun j => h3.2 _ _ _ _ (fun q => q)) (h.2.1), (h3.2 _ _ _ _ (fun q => q)).trans (h.2.2.1), (h3.2 _ _ _ _ (fun q => q)).trans (h.2.2.2.1), trivial⟩)) (pc' := 155) rfl (fun y30 => ?_)
                  refine G_ex (fun hy30 => ?_)
                  obtain rfl : y30 = lt (LC F (b)) (m) (a + 3) := by omega
                  refine T_op zk_150_155 rfl (X_bi (v := 48) (by decide)) (pc' := 157) rfl ?_
                  refine T_icmp_lt zk_150_157 (by omega) (by omega) (pc' := 160) rfl (fun h31 => ?_) (fun h32 => ?_)
                  ·
                    refine T_ld zk_150_213 rfl rfl rfl (pc' := 215) rfl ?_
                    refine T_if_ne zk_150_215 (by omega) (pc' := 218) rfl (fun h33 => ?_) (fun h34 => ?_)
                    ·
                      refine T_ld zk_150_220 rfl rfl rfl (pc' := 221) rfl ?_
                      refine T_getR (t' := 48) (i' := 0) (k' := 0) zk_150_221 rfl rfl rfl vd_35 (pc' := 224) rfl ?_
                      refine T_ld zk_150_224 rfl rfl rfl (pc' := 225) rfl ?_
                      refine T_ld zk_150_225 rfl rfl rfl (pc' := 226) rfl ?_
                      refine G_iast (J' := (fun σ' => IF MRd σ σ' ∧ Eq (σ' 41 0 0) F ∧ σ' 35 0 0 23 = t0 ∧ σ' 35 0 0 19 = a + 3 ∧ True)) (ln := 300) zk_150_226 rfl rfl vd_48 (by omega) (by omega) (by omega) (fun σ' h => ⟨h.1.up ⟨by omega, trivial⟩ (by first | exact pMRd rfl | (unfold MRd; omega)), gf_mk (fun z => Eq z F) (up_row (by omega)) (h.2.1), (up_ne (by omega)).trans (h.2.2.1), (up_ne (by omega)).trans (h.2.2.2.1), trivial⟩) (pc' := 227) rfl ?_
                      refine T_ld zk_150_227 rfl rfl rfl (pc' := 228) rfl ?_
                      refine T_op (st' := [av 35 0 0, av 35 0 0]) zk_150_228 rfl rfl (pc' := 229) rfl ?_
                      refine G_getX (w := t0) zk_150_229 rfl vd_35 (fun σ' h => h.2.2.1) (pc' := 232) rfl ?_
                      refine T_op zk_150_232 rfl X_ic (pc' := 233) rfl ?_
                      refine T_op zk_150_233 rfl X_add (pc' := 234) rfl ?_
                      refine T_putf (J' := (fun σ' => IF MRd σ σ' ∧ Eq (σ' 41 0 0) F ∧ σ' 35 0 0 19 = a + 3 ∧ σ' 35 0 0 23 = t0 + 1 ∧ True)) zk_150_234 rfl rfl vd_35 (fun σ' h => ⟨h.1.up (by simp only [rgP] <;> omega) (by first | exact pMRd rfl | (unfold MRd; omega)), gf_mk (fun z => Eq z F) (up_row (by omega)) (h.2.1), (up_ne (by omega)).trans (h.2.2.2.1), up_eq, trivial⟩) (pc' := 237) rfl ?_
                      refine T_op zk_150_237 rfl X_ic (pc' := 238) rfl ?_
                      exact T_zret zk_150_238 rfl (by omega) (fun σ' h => ⟨_, rfl, (by omega), h.1, ⟨(h.2.2.1).trans (by omega), (by have e := h.2.2.2.1; omega), trivial⟩⟩)
                    · exfalso; omega
                  ·
                    refine T_ld zk_150_160 rfl rfl rfl (pc' := 161) rfl ?_
                    refine T_calli (K := fun y35 σ' => (y35 = lt (LC F (b)) (m) (a + 3) ∧ -2147483648 ≤ y35 ∧ y35 ≤ 2147483647) ∧ (fun σ' => IF MRd σ σ' ∧ Eq (σ' 41 0 0) F ∧ σ' 35 0 0 23 = t0 ∧ σ' 35 0 0 19 = a + 3 ∧ True) σ') (r := []) zk_150_161 rfl rfl rfl rfl rfl rfl (Or.inr ⟨_, _, _, _, rfl, vd_35, rfl⟩) (fun σ' h => (r_148 (a + 3) m b F (by omega) (by omega) (by omega) σ' h.1.1 (h.2.2.2.1) ((h.1.2 _ _ _ _ (by first | exact nMRd rfl | (unfold MRd; omega))).trans s2) ((h.1.2 _ _ _ _ (by first | exact nMRd rfl | (unfold MRd; omega))).trans s3) (h.2.1)).le (Nat.le_of_ble_eq_true rfl) (fun v σ2 ⟨y, h1, h2, h3, h4⟩ => ⟨y, h1, h2, h.1.tr h3 MN_sub, gf_mk (fun z => Eq z F) (funext fun j => h3.2 _ _ _ _ (fun q => q)) (h.2.1), (h3.2 _ _ _ _ (fun q => q)).trans (h.2.2.1), (h3.2 _ _ _ _ (fun q => q)).trans (h.2.2.2.1), trivial⟩)) (pc' := 164) rfl (fun y35 => ?_)
                    refine G_ex (fun hy35 => ?_)
                    obtain rfl : y35 = lt (LC F (b)) (m) (a + 3) := by omega
                    refine T_op zk_150_164 rfl (X_bi (v := 57) (by decide)) (pc' := 166) rfl ?_
                    refine T_icmp_gt zk_150_166 (by omega) (by omega) (pc' := 169) rfl (fun h36 => ?_) (fun h37 => ?_)
                    ·
                      refine T_ld zk_150_213 rfl rfl rfl (pc' := 215) rfl ?_
                      refine T_if_ne zk_150_215 (by omega) (pc' := 218) rfl (fun h38 => ?_) (fun h39 => ?_)
                      ·
                        refine T_ld zk_150_220 rfl rfl rfl (pc' := 221) rfl ?_
                        refine T_getR (t' := 48) (i' := 0) (k' := 0) zk_150_221 rfl rfl rfl vd_35 (pc' := 224) rfl ?_
                        refine T_ld zk_150_224 rfl rfl rfl (pc' := 225) rfl ?_
                        refine T_ld zk_150_225 rfl rfl rfl (pc' := 226) rfl ?_
                        refine G_iast (J' := (fun σ' => IF MRd σ σ' ∧ Eq (σ' 41 0 0) F ∧ σ' 35 0 0 23 = t0 ∧ σ' 35 0 0 19 = a + 3 ∧ True)) (ln := 300) zk_150_226 rfl rfl vd_48 (by omega) (by omega) (by omega) (fun σ' h => ⟨h.1.up ⟨by omega, trivial⟩ (by first | exact pMRd rfl | (unfold MRd; omega)), gf_mk (fun z => Eq z F) (up_row (by omega)) (h.2.1), (up_ne (by omega)).trans (h.2.2.1), (up_ne (by omega)).trans (h.2.2.2.1), trivial⟩) (pc' := 227) rfl ?_
                        refine T_ld zk_150_227 rfl rfl rfl (pc' := 228) rfl ?_
                        refine T_op (st' := [av 35 0 0, av 35 0 0]) zk_150_228 rfl rfl (pc' := 229) rfl ?_
                        refine G_getX (w := t0) zk_150_229 rfl vd_35 (fun σ' h => h.2.2.1) (pc' := 232) rfl ?_
                        refine T_op zk_150_232 rfl X_ic (pc' := 233) rfl ?_
                        refine T_op zk_150_233 rfl X_add (pc' := 234) rfl ?_
                        refine T_putf (J' := (fun σ' => IF MRd σ σ' ∧ Eq (σ' 41 0 0) F ∧ σ' 35 0 0 19 = a + 3 ∧ σ' 35 0 0 23 = t0 + 1 ∧ True)) zk_150_234 rfl rfl vd_35 (fun σ' h => ⟨h.1.up (by simp only [rgP] <;> omega) (by first | exact pMRd rfl | (unfold MRd; omega)), gf_mk (fun z => Eq z F) (up_row (by omega)) (h.2.1), (up_ne (by omega)).trans (h.2.2.2.1), up_eq, trivial⟩) (pc' := 237) rfl ?_
                        refine T_op zk_150_237 rfl X_ic (pc' := 238) rfl ?_
                        exact T_zret zk_150_238 rfl (by omega) (fun σ' h => ⟨_, rfl, (by omega), h.1, ⟨(h.2.2.1).trans (by omega), (by have e := h.2.2.2.1; omega), trivial⟩⟩)
                      · exfalso; omega
                    ·
                      refine T_ld zk_150_169 rfl rfl rfl (pc' := 171) rfl ?_
                      refine T_op zk_150_171 rfl X_ic (pc' := 172) rfl ?_
                      refine T_icmp_ge zk_150_172 (by omega) (by omega) (pc' := 175) rfl (fun h40 => ?_) (fun h41 => ?_)
                      · exfalso; omega
                      ·
                        refine T_ld zk_150_175 rfl rfl rfl (pc' := 177) rfl ?_
                        refine T_if_le zk_150_177 (by omega) (pc' := 180) rfl (fun h42 => ?_) (fun h43 => ?_)
                        · exfalso; omega
                        ·
                          refine T_ld zk_150_180 rfl rfl rfl (pc' := 181) rfl ?_
                          refine T_if_eq zk_150_181 (by omega) (pc' := 184) rfl (fun h44 => ?_) (fun h45 => ?_)
                          ·
                            refine T_ld zk_150_213 rfl rfl rfl (pc' := 215) rfl ?_
                            refine T_if_ne zk_150_215 (by omega) (pc' := 218) rfl (fun h46 => ?_) (fun h47 => ?_)
                            ·
                              refine T_ld zk_150_220 rfl rfl rfl (pc' := 221) rfl ?_
                              refine T_getR (t' := 48) (i' := 0) (k' := 0) zk_150_221 rfl rfl rfl vd_35 (pc' := 224) rfl ?_
                              refine T_ld zk_150_224 rfl rfl rfl (pc' := 225) rfl ?_
                              refine T_ld zk_150_225 rfl rfl rfl (pc' := 226) rfl ?_
                              refine G_iast (J' := (fun σ' => IF MRd σ σ' ∧ Eq (σ' 41 0 0) F ∧ σ' 35 0 0 23 = t0 ∧ σ' 35 0 0 19 = a + 3 ∧ True)) (ln := 300) zk_150_226 rfl rfl vd_48 (by omega) (by omega) (by omega) (fun σ' h => ⟨h.1.up ⟨by omega, trivial⟩ (by first | exact pMRd rfl | (unfold MRd; omega)), gf_mk (fun z => Eq z F) (up_row (by omega)) (h.2.1), (up_ne (by omega)).trans (h.2.2.1), (up_ne (by omega)).trans (h.2.2.2.1), trivial⟩) (pc' := 227) rfl ?_
                              refine T_ld zk_150_227 rfl rfl rfl (pc' := 228) rfl ?_
                              refine T_op (st' := [av 35 0 0, av 35 0 0]) zk_150_228 rfl rfl (pc' := 229) rfl ?_
                              refine G_getX (w := t0) zk_150_229 rfl vd_35 (fun σ' h => h.2.2.1) (pc' := 232) rfl ?_
                              refine T_op zk_150_232 rfl X_ic (pc' := 233) rfl ?_
                              refine T_op zk_150_233 rfl X_add (pc' := 234) rfl ?_
                              refine T_putf (J' := (fun σ' => IF MRd σ σ' ∧ Eq (σ' 41 0 0) F ∧ σ' 35 0 0 19 = a + 3 ∧ σ' 35 0 0 23 = t0 + 1 ∧ True)) zk_150_234 rfl rfl vd_35 (fun σ' h => ⟨h.1.up (by simp only [rgP] <;> omega) (by first | exact pMRd rfl | (unfold MRd; omega)), gf_mk (fun z => Eq z F) (up_row (by omega)) (h.2.1), (up_ne (by omega)).trans (h.2.2.2.1), up_eq, trivial⟩) (pc' := 237) rfl ?_
                              refine T_op zk_150_237 rfl X_ic (pc' := 238) rfl ?_
                              exact T_zret zk_150_238 rfl (by omega) (fun σ' h => ⟨_, rfl, (by omega), h.1, ⟨(h.2.2.1).trans (by omega), (by have e := h.2.2.2.1; omega), trivial⟩⟩)
                            · exfalso; omega
                          ·
                            refine T_op zk_150_184 rfl (X_bi (v := 10) (by decide)) (pc' := 186) rfl ?_
                            refine T_ld zk_150_186 rfl rfl rfl (pc' := 187) rfl ?_
                            refine T_op zk_150_187 rfl X_mul (pc' := 188) rfl ?_
                            refine T_ld zk_150_188 rfl rfl rfl (pc' := 189) rfl ?_
                            refine T_calli (K := fun y48 σ' => (y48 = lt (LC F (b)) (m) (a + 3) ∧ -2147483648 ≤ y48 ∧ y48 ≤ 2147483647) ∧ (fun σ' => IF MRd σ σ' ∧ Eq (σ' 41 0 0) F ∧ σ' 35 0 0 23 = t0 ∧ σ' 35 0 0 19 = a + 3 ∧ True) σ') (r := [iv (10 * (0 + lt (LC F (b)) (m) (a + 2) - 48))]) zk_150_189 rfl rfl rfl rfl rfl rfl (Or.inr ⟨_, _, _, _, rfl, vd_35, rfl⟩) (fun σ' h => (r_148 (a + 3) m b F (by omega) (by omega) (by omega) σ' h.1.1 (h.2.2.2.1) ((h.1.2 _ _ _ _ (by first | exact nMRd rfl | (unfold MRd; omega))).trans s2) ((h.1.2 _ _ _ _ (by first | exact nMRd rfl | (unfold MRd; omega))).trans s3) (h.2.1)).le (Nat.le_of_ble_eq_true rfl) (fun v σ2 ⟨y, h1, h2, h3, h4⟩ => ⟨y, h1, h2, h.1.tr h3 MN_sub, gf_mk (fun z => Eq z F) (funext fun j => h3.2 _ _ _ _ (fun q => q)) (h.2.1), (h3.2 _ _ _ _ (fun q => q)).trans (h.2.2.1), (h3.2 _ _ _ _ (fun q => q)).trans (h.2.2.2.1), trivial⟩)) (pc' := 192) rfl (fun y48 => ?_)
                            refine G_ex (fun hy48 => ?_)
                            obtain rfl : y48 = lt (LC F (b)) (m) (a + 3) := by omega
                            refine T_op zk_150_192 rfl X_add (pc' := 193) rfl ?_
                            refine T_op zk_150_193 rfl (X_bi (v := 48) (by decide)) (pc' := 195) rfl ?_
                            refine T_op zk_150_195 rfl X_sub (pc' := 196) rfl ?_
                            refine T_st (L' := [(0, av 35 0 0), (1, iv p0), (2, iv (50 * p0 + t0)), (3, iv (10 * (0 + lt (LC F (b)) (m) (a + 2) - 48) + lt (LC F (b)) (m) (a + 3) - 48)), (4, iv 1)]) zk_150_196 (nL := 5) rfl rfl rfl rfl rfl (pc' := 197) rfl ?_
                            refine T_iinc (L' := [(0, av 35 0 0), (1, iv p0), (2, iv (50 * p0 + t0)), (3, iv (10 * (0 + lt (LC F (b)) (m) (a + 2) - 48) + lt (LC F (b)) (m) (a + 3) - 48)), (4, iv 2)]) zk_150_197 (nL := 5) rfl rfl rfl rfl (pc' := 200) rfl ?_
                            refine T_ld zk_150_200 rfl rfl rfl (pc' := 201) rfl ?_
                            refine T_op (st' := [av 35 0 0, av 35 0 0]) zk_150_201 rfl rfl (pc' := 202) rfl ?_
                            refine G_getX (w := a + 3) zk_150_202 rfl vd_35 (fun σ' h => h.2.2.2.1) (pc' := 205) rfl ?_
                            refine T_op zk_150_205 rfl X_ic (pc' := 206) rfl ?_
                            refine T_opc (w := a + 4) zk_150_206 rfl X_add (by omega) (pc' := 207) rfl ?_
                            refine T_putf (J' := (fun σ' => IF MRd σ σ' ∧ Eq (σ' 41 0 0) F ∧ σ' 35 0 0 23 = t0 ∧ σ' 35 0 0 19 = a + 4 ∧ True)) zk_150_207 rfl rfl vd_35 (fun σ' h => ⟨h.1.up (by simp only [rgP] <;> omega) (by first | exact pMRd rfl | (unfold MRd; omega)), gf_mk (fun z => Eq z F) (up_row (by omega)) (h.2.1), (up_ne (by omega)).trans (h.2.2.1), up_eq, trivial⟩) (pc' := 210) rfl ?_
                            refine T_goto zk_150_210 ?_
                            refine T_ld zk_150_140 rfl rfl rfl (pc' := 141) rfl ?_
                            refine G_getX (w := a + 4) zk_150_141 rfl vd_35 (fun σ' h => h.2.2.2.1) (pc' := 144) rfl ?_
                            refine T_ld zk_150_144 rfl rfl rfl (pc' := 145) rfl ?_
                            refine G_getX (w := m) zk_150_145 rfl vd_35 (fun σ' h => (h.1.2 _ _ _ _ (by first | exact nMRd rfl | (unfold MRd; omega))).trans s2) (pc' := 148) rfl ?_
                            refine T_icmp_ge zk_150_148 (by omega) (by omega) (pc' := 151) rfl (fun h49 => ?_) (fun h50 => ?_)
                            ·
                              refine T_ld zk_150_213 rfl rfl rfl (pc' := 215) rfl ?_
                              refine T_if_ne zk_150_215 (by omega) (pc' := 218) rfl (fun h51 => ?_) (fun h52 => ?_)
                              ·
                                refine T_ld zk_150_220 rfl rfl rfl (pc' := 221) rfl ?_
                                refine T_getR (t' := 48) (i' := 0) (k' := 0) zk_150_221 rfl rfl rfl vd_35 (pc' := 224) rfl ?_
                                refine T_ld zk_150_224 rfl rfl rfl (pc' := 225) rfl ?_
                                refine T_ld zk_150_225 rfl rfl rfl (pc' := 226) rfl ?_
                                refine G_iast (J' := (fun σ' => IF MRd σ σ' ∧ Eq (σ' 41 0 0) F ∧ σ' 35 0 0 23 = t0 ∧ σ' 35 0 0 19 = a + 4 ∧ True)) (ln := 300) zk_150_226 rfl rfl vd_48 (by omega) (by omega) (by omega) (fun σ' h => ⟨h.1.up ⟨by omega, trivial⟩ (by first | exact pMRd rfl | (unfold MRd; omega)), gf_mk (fun z => Eq z F) (up_row (by omega)) (h.2.1), (up_ne (by omega)).trans (h.2.2.1), (up_ne (by omega)).trans (h.2.2.2.1), trivial⟩) (pc' := 227) rfl ?_
                                refine T_ld zk_150_227 rfl rfl rfl (pc' := 228) rfl ?_
                                refine T_op (st' := [av 35 0 0, av 35 0 0]) zk_150_228 rfl rfl (pc' := 229) rfl ?_
                                refine G_getX (w := t0) zk_150_229 rfl vd_35 (fun σ' h => h.2.2.1) (pc' := 232) rfl ?_
                                refine T_op zk_150_232 rfl X_ic (pc' := 233) rfl ?_
                                refine T_op zk_150_233 rfl X_add (pc' := 234) rfl ?_
                                refine T_putf (J' := (fun σ' => IF MRd σ σ' ∧ Eq (σ' 41 0 0) F ∧ σ' 35 0 0 19 = a + 4 ∧ σ' 35 0 0 23 = t0 + 1 ∧ True)) zk_150_234 rfl rfl vd_35 (fun σ' h => ⟨h.1.up (by simp only [rgP] <;> omega) (by first | exact pMRd rfl | (unfold MRd; omega)), gf_mk (fun z => Eq z F) (up_row (by omega)) (h.2.1), (up_ne (by omega)).trans (h.2.2.2.1), up_eq, trivial⟩) (pc' := 237) rfl ?_
                                refine T_op zk_150_237 rfl X_ic (pc' := 238) rfl ?_
                                exact T_zret zk_150_238 rfl (by omega) (fun σ' h => ⟨_, rfl, (by omega), h.1, ⟨(h.2.2.1).trans (by omega), (by have e := h.2.2.2.1; omega), trivial⟩⟩)
                              · exfalso; omega
                            ·
                              refine T_ld zk_150_151 rfl rfl rfl (pc' := 152) rfl ?_
                              refine T_calli (K := fun y53 σ' => (y53 = lt (LC F (b)) (m) (a + 4) ∧ -2147483648 ≤ y53 ∧ y53 ≤ 2147483647) ∧ (fun σ' => IF MRd σ σ' ∧ Eq (σ' 41 0 0) F ∧ σ' 35 0 0 23 = t0 ∧ σ' 35 0 0 19 = a + 4 ∧ True) σ') (r := []) zk_150_152 rfl rfl rfl rfl rfl rfl (Or.inr ⟨_, _, _, _, rfl, vd_35, rfl⟩) (fun σ' h => (r_148 (a + 4) m b F (by omega) (by omega) (by omega) σ' h.1.1 (h.2.2.2.1) ((h.1.2 _ _ _ _ (by first | exact nMRd rfl | (unfold MRd; omega))).trans s2) ((h.1.2 _ _ _ _ (by first | exact nMRd rfl | (unfold MRd; omega))).trans s3) (h.2.1)).le (Nat.le_of_ble_eq_true rfl) (fun v σ2 ⟨y, h1, h2, h3, h4⟩ => ⟨y, h1, h2, h.1.tr h3 MN_sub, gf_mk (fun z => Eq z F) (funext fun j => h3.2 _ _ _ _ (fun q => q)) (h.2.1), (h3.2 _ _ _ _ (fun q => q)).trans (h.2.2.1), (h3.2 _ _ _ _ (fun q => q)).trans (h.2.2.2.1), trivial⟩)) (pc' := 155) rfl (fun y53 => ?_)
                              refine G_ex (fun hy53 => ?_)
                              obtain rfl : y53 = lt (LC F (b)) (m) (a + 4) := by omega
                              refine T_op zk_150_155 rfl (X_bi (v := 48) (by decide)) (pc' := 157) rfl ?_
                              refine T_icmp_lt zk_150_157 (by omega) (by omega) (pc' := 160) rfl (fun h54 => ?_) (fun h55 => ?_)
                              ·
                                refine T_ld zk_150_213 rfl rfl rfl (pc' := 215) rfl ?_
                                refine T_if_ne zk_150_215 (by omega) (pc' := 218) rfl (fun h56 => ?_) (fun h57 => ?_)
                                ·
                                  refine T_ld zk_150_220 rfl rfl rfl (pc' := 221) rfl ?_
                                  refine T_getR (t' := 48) (i' := 0) (k' := 0) zk_150_221 rfl rfl rfl vd_35 (pc' := 224) rfl ?_
                                  refine T_ld zk_150_224 rfl rfl rfl (pc' := 225) rfl ?_
                                  refine T_ld zk_150_225 rfl rfl rfl (pc' := 226) rfl ?_
                                  refine G_iast (J' := (fun σ' => IF MRd σ σ' ∧ Eq (σ' 41 0 0) F ∧ σ' 35 0 0 23 = t0 ∧ σ' 35 0 0 19 = a + 4 ∧ True)) (ln := 300) zk_150_226 rfl rfl vd_48 (by omega) (by omega) (by omega) (fun σ' h => ⟨h.1.up ⟨by omega, trivial⟩ (by first | exact pMRd rfl | (unfold MRd; omega)), gf_mk (fun z => Eq z F) (up_row (by omega)) (h.2.1), (up_ne (by omega)).trans (h.2.2.1), (up_ne (by omega)).trans (h.2.2.2.1), trivial⟩) (pc' := 227) rfl ?_
                                  refine T_ld zk_150_227 rfl rfl rfl (pc' := 228) rfl ?_
                                  refine T_op (st' := [av 35 0 0, av 35 0 0]) zk_150_228 rfl rfl (pc' := 229) rfl ?_
                                  refine G_getX (w := t0) zk_150_229 rfl vd_35 (fun σ' h => h.2.2.1) (pc' := 232) rfl ?_
                                  refine T_op zk_150_232 rfl X_ic (pc' := 233) rfl ?_
                                  refine T_op zk_150_233 rfl X_add (pc' := 234) rfl ?_
                                  refine T_putf (J' := (fun σ' => IF MRd σ σ' ∧ Eq (σ' 41 0 0) F ∧ σ' 35 0 0 19 = a + 4 ∧ σ' 35 0 0 23 = t0 + 1 ∧ True)) zk_150_234 rfl rfl vd_35 (fun σ' h => ⟨h.1.up (by simp only [rgP] <;> omega) (by first | exact pMRd rfl | (unfold MRd; omega)), gf_mk (fun z => Eq z F) (up_row (by omega)) (h.2.1), (up_ne (by omega)).trans (h.2.2.2.1), up_eq, trivial⟩) (pc' := 237) rfl ?_
                                  refine T_op zk_150_237 rfl X_ic (pc' := 238) rfl ?_
                                  exact T_zret zk_150_238 rfl (by omega) (fun σ' h => ⟨_, rfl, (by omega), h.1, ⟨(h.2.2.1).trans (by omega), (by have e := h.2.2.2.1; omega), trivial⟩⟩)
                                · exfalso; omega
                              ·
                                refine T_ld zk_150_160 rfl rfl rfl (pc' := 161) rfl ?_
                                refine T_calli (K := fun y58 σ' => (y58 = lt (LC F (b)) (m) (a + 4) ∧ -2147483648 ≤ y58 ∧ y58 ≤ 2147483647) ∧ (fun σ' => IF MRd σ σ' ∧ Eq (σ' 41 0 0) F ∧ σ' 35 0 0 23 = t0 ∧ σ' 35 0 0 19 = a + 4 ∧ True) σ') (r := []) zk_150_161 rfl rfl rfl rfl rfl rfl (Or.inr ⟨_, _, _, _, rfl, vd_35, rfl⟩) (fun σ' h => (r_148 (a + 4) m b F (by omega) (by omega) (by omega) σ' h.1.1 (h.2.2.2.1) ((h.1.2 _ _ _ _ (by first | exact nMRd rfl | (unfold MRd; omega))).trans s2) ((h.1.2 _ _ _ _ (by first | exact nMRd rfl | (unfold MRd; omega))).trans s3) (h.2.1)).le (Nat.le_of_ble_eq_true rfl) (fun v σ2 ⟨y, h1, h2, h3, h4⟩ => ⟨y, h1, h2, h.1.tr h3 MN_sub, gf_mk (fun z => Eq z F) (funext fun j => h3.2 _ _ _ _ (fun q => q)) (h.2.1), (h3.2 _ _ _ _ (fun q => q)).trans (h.2.2.1), (h3.2 _ _ _ _ (fun q => q)).trans (h.2.2.2.1), trivial⟩)) (pc' := 164) rfl (fun y58 => ?_)
                                refine G_ex (fun hy58 => ?_)
                                obtain rfl : y58 = lt (LC F (b)) (m) (a + 4) := by omega
                                refine T_op zk_150_164 rfl (X_bi (v := 57) (by decide)) (pc' := 166) rfl ?_
                                refine T_icmp_gt zk_150_166 (by omega) (by omega) (pc' := 169) rfl (fun h59 => ?_) (fun h60 => ?_)
                                ·
                                  refine T_ld zk_150_213 rfl rfl rfl (pc' := 215) rfl ?_
                                  refine T_if_ne zk_150_215 (by omega) (pc' := 218) rfl (fun h61 => ?_) (fun h62 => ?_)
                                  ·
                                    refine T_ld zk_150_220 rfl rfl rfl (pc' := 221) rfl ?_
                                    refine T_getR (t' := 48) (i' := 0) (k' := 0) zk_150_221 rfl rfl rfl vd_35 (pc' := 224) rfl ?_
                                    refine T_ld zk_150_224 rfl rfl rfl (pc' := 225) rfl ?_
                                    refine T_ld zk_150_225 rfl rfl rfl (pc' := 226) rfl ?_
                                    refine G_iast (J' := (fun σ' => IF MRd σ σ' ∧ Eq (σ' 41 0 0) F ∧ σ' 35 0 0 23 = t0 ∧ σ' 35 0 0 19 = a + 4 ∧ True)) (ln := 300) zk_150_226 rfl rfl vd_48 (by omega) (by omega) (by omega) (fun σ' h => ⟨h.1.up ⟨by omega, trivial⟩ (by first | exact pMRd rfl | (unfold MRd; omega)), gf_mk (fun z => Eq z F) (up_row (by omega)) (h.2.1), (up_ne (by omega)).trans (h.2.2.1), (up_ne (by omega)).trans (h.2.2.2.1), trivial⟩) (pc' := 227) rfl ?_
                                    refine T_ld zk_150_227 rfl rfl rfl (pc' := 228) rfl ?_
                                    refine T_op (st' := [av 35 0 0, av 35 0 0]) zk_150_228 rfl rfl (pc' := 229) rfl ?_
                                    refine G_getX (w := t0) zk_150_229 rfl vd_35 (fun σ' h => h.2.2.1) (pc' := 232) rfl ?_
                                    refine T_op zk_150_232 rfl X_ic (pc' := 233) rfl ?_
                                    refine T_op zk_150_233 rfl X_add (pc' := 234) rfl ?_
                                    refine T_putf (J' := (fun σ' => IF MRd σ σ' ∧ Eq (σ' 41 0 0) F ∧ σ' 35 0 0 19 = a + 4 ∧ σ' 35 0 0 23 = t0 + 1 ∧ True)) zk_150_234 rfl rfl vd_35 (fun σ' h => ⟨h.1.up (by simp only [rgP] <;> omega) (by first | exact pMRd rfl | (unfold MRd; omega)), gf_mk (fun z => Eq z F) (up_row (by omega)) (h.2.1), (up_ne (by omega)).trans (h.2.2.2.1), up_eq, trivial⟩) (pc' := 237) rfl ?_
                                    refine T_op zk_150_237 rfl X_ic (pc' := 238) rfl ?_
                                    exact T_zret zk_150_238 rfl (by omega) (fun σ' h => ⟨_, rfl, (by omega), h.1, ⟨(h.2.2.1).trans (by omega), (by have e := h.2.2.2.1; omega), trivial⟩⟩)
                                  · exfalso; omega
                                ·
                                  refine T_ld zk_150_169 rfl rfl rfl (pc' := 171) rfl ?_
                                  refine T_op zk_150_171 rfl X_ic (pc' := 172) rfl ?_
                                  refine T_icmp_ge zk_150_172 (by omega) (by omega) (pc' := 175) rfl (fun h63 => ?_) (fun h64 => ?_)
                                  · exfalso; omega
                                  ·
                                    refine T_ld zk_150_175 rfl rfl rfl (pc' := 177) rfl ?_
                                    refine T_if_le zk_150_177 (by omega) (pc' := 180) rfl (fun h65 => ?_) (fun h66 => ?_)
                                    · exfalso; omega
                                    ·
                                      refine T_ld zk_150_180 rfl rfl rfl (pc' := 181) rfl ?_
                                      refine T_if_eq zk_150_181 (by omega) (pc' := 184) rfl (fun h67 => ?_) (fun h68 => ?_)
                                      · exfalso; omega
                                      ·
                                        refine T_op zk_150_184 rfl (X_bi (v := 10) (by decide)) (pc' := 186) rfl ?_
                                        refine T_ld zk_150_186 rfl rfl rfl (pc' := 187) rfl ?_
                                        refine T_op zk_150_187 rfl X_mul (pc' := 188) rfl ?_
                                        refine T_ld zk_150_188 rfl rfl rfl (pc' := 189) rfl ?_
                                        refine T_calli (K := fun y69 σ' => (y69 = lt (LC F (b)) (m) (a + 4) ∧ -2147483648 ≤ y69 ∧ y69 ≤ 2147483647) ∧ (fun σ' => IF MRd σ σ' ∧ Eq (σ' 41 0 0) F ∧ σ' 35 0 0 23 = t0 ∧ σ' 35 0 0 19 = a + 4 ∧ True) σ') (r := [iv (10 * (10 * (0 + lt (LC F (b)) (m) (a + 2) - 48) + lt (LC F (b)) (m) (a + 3) - 48))]) zk_150_189 rfl rfl rfl rfl rfl rfl (Or.inr ⟨_, _, _, _, rfl, vd_35, rfl⟩) (fun σ' h => (r_148 (a + 4) m b F (by omega) (by omega) (by omega) σ' h.1.1 (h.2.2.2.1) ((h.1.2 _ _ _ _ (by first | exact nMRd rfl | (unfold MRd; omega))).trans s2) ((h.1.2 _ _ _ _ (by first | exact nMRd rfl | (unfold MRd; omega))).trans s3) (h.2.1)).le (Nat.le_of_ble_eq_true rfl) (fun v σ2 ⟨y, h1, h2, h3, h4⟩ => ⟨y, h1, h2, h.1.tr h3 MN_sub, gf_mk (fun z => Eq z F) (funext fun j => h3.2 _ _ _ _ (fun q => q)) (h.2.1), (h3.2 _ _ _ _ (fun q => q)).trans (h.2.2.1), (h3.2 _ _ _ _ (fun q => q)).trans (h.2.2.2.1), trivial⟩)) (pc' := 192) rfl (fun y69 => ?_)
                                        refine G_ex (fun hy69 => ?_)
                                        obtain rfl : y69 = lt (LC F (b)) (m) (a + 4) := by omega
                                        refine T_op zk_150_192 rfl X_add (pc' := 193) rfl ?_
                                        refine T_op zk_150_193 rfl (X_bi (v := 48) (by decide)) (pc' := 195) rfl ?_
                                        refine T_op zk_150_195 rfl X_sub (pc' := 196) rfl ?_
                                        refine T_st (L' := [(0, av 35 0 0), (1, iv p0), (2, iv (50 * p0 + t0)), (3, iv (10 * (10 * (0 + lt (LC F (b)) (m) (a + 2) - 48) + lt (LC F (b)) (m) (a + 3) - 48) + lt (LC F (b)) (m) (a + 4) - 48)), (4, iv 2)]) zk_150_196 (nL := 5) rfl rfl rfl rfl rfl (pc' := 197) rfl ?_
                                        refine T_iinc (L' := [(0, av 35 0 0), (1, iv p0), (2, iv (50 * p0 + t0)), (3, iv (10 * (10 * (0 + lt (LC F (b)) (m) (a + 2) - 48) + lt (LC F (b)) (m) (a + 3) - 48) + lt (LC F (b)) (m) (a + 4) - 48)), (4, iv 3)]) zk_150_197 (nL := 5) rfl rfl rfl rfl (pc' := 200) rfl ?_
                                        refine T_ld zk_150_200 rfl rfl rfl (pc' := 201) rfl ?_
                                        refine T_op (st' := [av 35 0 0, av 35 0 0]) zk_150_201 rfl rfl (pc' := 202) rfl ?_
                                        refine G_getX (w := a + 4) zk_150_202 rfl vd_35 (fun σ' h => h.2.2.2.1) (pc' := 205) rfl ?_
                                        refine T_op zk_150_205 rfl X_ic (pc' := 206) rfl ?_
                                        refine T_opc (w := a + 5) zk_150_206 rfl X_add (by omega) (pc' := 207) rfl ?_
                                        refine T_putf (J' := (fun σ' => IF MRd σ σ' ∧ Eq (σ' 41 0 0) F ∧ σ' 35 0 0 23 = t0 ∧ σ' 35 0 0 19 = a + 5 ∧ True)) zk_150_207 rfl rfl vd_35 (fun σ' h => ⟨h.1.up (by simp only [rgP] <;> omega) (by first | exact pMRd rfl | (unfold MRd; omega)), gf_mk (fun z => Eq z F) (up_row (by omega)) (h.2.1), (up_ne (by omega)).trans (h.2.2.1), up_eq, trivial⟩) (pc' := 210) rfl ?_
                                        refine T_goto zk_150_210 ?_
                                        refine T_ld zk_150_140 rfl rfl rfl (pc' := 141) rfl ?_
                                        refine G_getX (w := a + 5) zk_150_141 rfl vd_35 (fun σ' h => h.2.2.2.1) (pc' := 144) rfl ?_
                                        refine T_ld zk_150_144 rfl rfl rfl (pc' := 145) rfl ?_
                                        refine G_getX (w := m) zk_150_145 rfl vd_35 (fun σ' h => (h.1.2 _ _ _ _ (by first | exact nMRd rfl | (unfold MRd; omega))).trans s2) (pc' := 148) rfl ?_
                                        refine T_icmp_ge zk_150_148 (by omega) (by omega) (pc' := 151) rfl (fun h70 => ?_) (fun h71 => ?_)
                                        ·
                                          refine T_ld zk_150_213 rfl rfl rfl (pc' := 215) rfl ?_
                                          refine T_if_ne zk_150_215 (by omega) (pc' := 218) rfl (fun h72 => ?_) (fun h73 => ?_)
                                          ·
                                            refine T_ld zk_150_220 rfl rfl rfl (pc' := 221) rfl ?_
                                            refine T_getR (t' := 48) (i' := 0) (k' := 0) zk_150_221 rfl rfl rfl vd_35 (pc' := 224) rfl ?_
                                            refine T_ld zk_150_224 rfl rfl rfl (pc' := 225) rfl ?_
                                            refine T_ld zk_150_225 rfl rfl rfl (pc' := 226) rfl ?_
                                            refine G_iast (J' := (fun σ' => IF MRd σ σ' ∧ Eq (σ' 41 0 0) F ∧ σ' 35 0 0 23 = t0 ∧ σ' 35 0 0 19 = a + 5 ∧ True)) (ln := 300) zk_150_226 rfl rfl vd_48 (by omega) (by omega) (by omega) (fun σ' h => ⟨h.1.up ⟨by omega, trivial⟩ (by first | exact pMRd rfl | (unfold MRd; omega)), gf_mk (fun z => Eq z F) (up_row (by omega)) (h.2.1), (up_ne (by omega)).trans (h.2.2.1), (up_ne (by omega)).trans (h.2.2.2.1), trivial⟩) (pc' := 227) rfl ?_
                                            refine T_ld zk_150_227 rfl rfl rfl (pc' := 228) rfl ?_
                                            refine T_op (st' := [av 35 0 0, av 35 0 0]) zk_150_228 rfl rfl (pc' := 229) rfl ?_
                                            refine G_getX (w := t0) zk_150_229 rfl vd_35 (fun σ' h => h.2.2.1) (pc' := 232) rfl ?_
                                            refine T_op zk_150_232 rfl X_ic (pc' := 233) rfl ?_
                                            refine T_op zk_150_233 rfl X_add (pc' := 234) rfl ?_
                                            refine T_putf (J' := (fun σ' => IF MRd σ σ' ∧ Eq (σ' 41 0 0) F ∧ σ' 35 0 0 19 = a + 5 ∧ σ' 35 0 0 23 = t0 + 1 ∧ True)) zk_150_234 rfl rfl vd_35 (fun σ' h => ⟨h.1.up (by simp only [rgP] <;> omega) (by first | exact pMRd rfl | (unfold MRd; omega)), gf_mk (fun z => Eq z F) (up_row (by omega)) (h.2.1), (up_ne (by omega)).trans (h.2.2.2.1), up_eq, trivial⟩) (pc' := 237) rfl ?_
                                            refine T_op zk_150_237 rfl X_ic (pc' := 238) rfl ?_
                                            exact T_zret zk_150_238 rfl (by omega) (fun σ' h => ⟨_, rfl, (by omega), h.1, ⟨(h.2.2.1).trans (by omega), (by have e := h.2.2.2.1; omega), trivial⟩⟩)
                                          · exfalso; omega
                                        ·
                                          refine T_ld zk_150_151 rfl rfl rfl (pc' := 152) rfl ?_
                                          refine T_calli (K := fun y74 σ' => (y74 = lt (LC F (b)) (m) (a + 5) ∧ -2147483648 ≤ y74 ∧ y74 ≤ 2147483647) ∧ (fun σ' => IF MRd σ σ' ∧ Eq (σ' 41 0 0) F ∧ σ' 35 0 0 23 = t0 ∧ σ' 35 0 0 19 = a + 5 ∧ True) σ') (r := []) zk_150_152 rfl rfl rfl rfl rfl rfl (Or.inr ⟨_, _, _, _, rfl, vd_35, rfl⟩) (fun σ' h => (r_148 (a + 5) m b F (by omega) (by omega) (by omega) σ' h.1.1 (h.2.2.2.1) ((h.1.2 _ _ _ _ (by first | exact nMRd rfl | (unfold MRd; omega))).trans s2) ((h.1.2 _ _ _ _ (by first | exact nMRd rfl | (unfold MRd; omega))).trans s3) (h.2.1)).le (Nat.le_of_ble_eq_true rfl) (fun v σ2 ⟨y, h1, h2, h3, h4⟩ => ⟨y, h1, h2, h.1.tr h3 MN_sub, gf_mk (fun z => Eq z F) (funext fun j => h3.2 _ _ _ _ (fun q => q)) (h.2.1), (h3.2 _ _ _ _ (fun q => q)).trans (h.2.2.1), (h3.2 _ _ _ _ (fun q => q)).trans (h.2.2.2.1), trivial⟩)) (pc' := 155) rfl (fun y74 => ?_)
                                          refine G_ex (fun hy74 => ?_)
                                          obtain rfl : y74 = lt (LC F (b)) (m) (a + 5) := by omega
                                          refine T_op zk_150_155 rfl (X_bi (v := 48) (by decide)) (pc' := 157) rfl ?_
                                          refine T_icmp_lt zk_150_157 (by omega) (by omega) (pc' := 160) rfl (fun h75 => ?_) (fun h76 => ?_)
                                          ·
                                            refine T_ld zk_150_213 rfl rfl rfl (pc' := 215) rfl ?_
                                            refine T_if_ne zk_150_215 (by omega) (pc' := 218) rfl (fun h77 => ?_) (fun h78 => ?_)
                                            ·
                                              refine T_ld zk_150_220 rfl rfl rfl (pc' := 221) rfl ?_
                                              refine T_getR (t' := 48) (i' := 0) (k' := 0) zk_150_221 rfl rfl rfl vd_35 (pc' := 224) rfl ?_
                                              refine T_ld zk_150_224 rfl rfl rfl (pc' := 225) rfl ?_
                                              refine T_ld zk_150_225 rfl rfl rfl (pc' := 226) rfl ?_
                                              refine G_iast (J' := (fun σ' => IF MRd σ σ' ∧ Eq (σ' 41 0 0) F ∧ σ' 35 0 0 23 = t0 ∧ σ' 35 0 0 19 = a + 5 ∧ True)) (ln := 300) zk_150_226 rfl rfl vd_48 (by omega) (by omega) (by omega) (fun σ' h => ⟨h.1.up ⟨by omega, trivial⟩ (by first | exact pMRd rfl | (unfold MRd; omega)), gf_mk (fun z => Eq z F) (up_row (by omega)) (h.2.1), (up_ne (by omega)).trans (h.2.2.1), (up_ne (by omega)).trans (h.2.2.2.1), trivial⟩) (pc' := 227) rfl ?_
                                              refine T_ld zk_150_227 rfl rfl rfl (pc' := 228) rfl ?_
                                              refine T_op (st' := [av 35 0 0, av 35 0 0]) zk_150_228 rfl rfl (pc' := 229) rfl ?_
                                              refine G_getX (w := t0) zk_150_229 rfl vd_35 (fun σ' h => h.2.2.1) (pc' := 232) rfl ?_
                                              refine T_op zk_150_232 rfl X_ic (pc' := 233) rfl ?_
                                              refine T_op zk_150_233 rfl X_add (pc' := 234) rfl ?_
                                              refine T_putf (J' := (fun σ' => IF MRd σ σ' ∧ Eq (σ' 41 0 0) F ∧ σ' 35 0 0 19 = a + 5 ∧ σ' 35 0 0 23 = t0 + 1 ∧ True)) zk_150_234 rfl rfl vd_35 (fun σ' h => ⟨h.1.up (by simp only [rgP] <;> omega) (by first | exact pMRd rfl | (unfold MRd; omega)), gf_mk (fun z => Eq z F) (up_row (by omega)) (h.2.1), (up_ne (by omega)).trans (h.2.2.2.1), up_eq, trivial⟩) (pc' := 237) rfl ?_
                                              refine T_op zk_150_237 rfl X_ic (pc' := 238) rfl ?_
                                              exact T_zret zk_150_238 rfl (by omega) (fun σ' h => ⟨_, rfl, (by omega), h.1, ⟨(h.2.2.1).trans (by omega), (by have e := h.2.2.2.1; omega), trivial⟩⟩)
                                            · exfalso; omega
                                          ·
                                            refine T_ld zk_150_160 rfl rfl rfl (pc' := 161) rfl ?_
                                            refine T_calli (K := fun y79 σ' => (y79 = lt (LC F (b)) (m) (a + 5) ∧ -2147483648 ≤ y79 ∧ y79 ≤ 2147483647) ∧ (fun σ' => IF MRd σ σ' ∧ Eq (σ' 41 0 0) F ∧ σ' 35 0 0 23 = t0 ∧ σ' 35 0 0 19 = a + 5 ∧ True) σ') (r := []) zk_150_161 rfl rfl rfl rfl rfl rfl (Or.inr ⟨_, _, _, _, rfl, vd_35, rfl⟩) (fun σ' h => (r_148 (a + 5) m b F (by omega) (by omega) (by omega) σ' h.1.1 (h.2.2.2.1) ((h.1.2 _ _ _ _ (by first | exact nMRd rfl | (unfold MRd; omega))).trans s2) ((h.1.2 _ _ _ _ (by first | exact nMRd rfl | (unfold MRd; omega))).trans s3) (h.2.1)).le (Nat.le_of_ble_eq_true rfl) (fun v σ2 ⟨y, h1, h2, h3, h4⟩ => ⟨y, h1, h2, h.1.tr h3 MN_sub, gf_mk (fun z => Eq z F) (funext fun j => h3.2 _ _ _ _ (fun q => q)) (h.2.1), (h3.2 _ _ _ _ (fun q => q)).trans (h.2.2.1), (h3.2 _ _ _ _ (fun q => q)).trans (h.2.2.2.1), trivial⟩)) (pc' := 164) rfl (fun y79 => ?_)
                                            refine G_ex (fun hy79 => ?_)
                                            obtain rfl : y79 = lt (LC F (b)) (m) (a + 5) := by omega
                                            refine T_op zk_150_164 rfl (X_bi (v := 57) (by decide)) (pc' := 166) rfl ?_
                                            refine T_icmp_gt zk_150_166 (by omega) (by omega) (pc' := 169) rfl (fun h80 => ?_) (fun h81 => ?_)
                                            ·
                                              refine T_ld zk_150_213 rfl rfl rfl (pc' := 215) rfl ?_
                                              refine T_if_ne zk_150_215 (by omega) (pc' := 218) rfl (fun h82 => ?_) (fun h83 => ?_)
                                              ·
                                                refine T_ld zk_150_220 rfl rfl rfl (pc' := 221) rfl ?_
                                                refine T_getR (t' := 48) (i' := 0) (k' := 0) zk_150_221 rfl rfl rfl vd_35 (pc' := 224) rfl ?_
                                                refine T_ld zk_150_224 rfl rfl rfl (pc' := 225) rfl ?_
                                                refine T_ld zk_150_225 rfl rfl rfl (pc' := 226) rfl ?_
                                                refine G_iast (J' := (fun σ' => IF MRd σ σ' ∧ Eq (σ' 41 0 0) F ∧ σ' 35 0 0 23 = t0 ∧ σ' 35 0 0 19 = a + 5 ∧ True)) (ln := 300) zk_150_226 rfl rfl vd_48 (by omega) (by omega) (by omega) (fun σ' h => ⟨h.1.up ⟨by omega, trivial⟩ (by first | exact pMRd rfl | (unfold MRd; omega)), gf_mk (fun z => Eq z F) (up_row (by omega)) (h.2.1), (up_ne (by omega)).trans (h.2.2.1), (up_ne (by omega)).trans (h.2.2.2.1), trivial⟩) (pc' := 227) rfl ?_
                                                refine T_ld zk_150_227 rfl rfl rfl (pc' := 228) rfl ?_
                                                refine T_op (st' := [av 35 0 0, av 35 0 0]) zk_150_228 rfl rfl (pc' := 229) rfl ?_
                                                refine G_getX (w := t0) zk_150_229 rfl vd_35 (fun σ' h => h.2.2.1) (pc' := 232) rfl ?_
                                                refine T_op zk_150_232 rfl X_ic (pc' := 233) rfl ?_
                                                refine T_op zk_150_233 rfl X_add (pc' := 234) rfl ?_
                                                refine T_putf (J' := (fun σ' => IF MRd σ σ' ∧ Eq (σ' 41 0 0) F ∧ σ' 35 0 0 19 = a + 5 ∧ σ' 35 0 0 23 = t0 + 1 ∧ True)) zk_150_234 rfl rfl vd_35 (fun σ' h => ⟨h.1.up (by simp only [rgP] <;> omega) (by first | exact pMRd rfl | (unfold MRd; omega)), gf_mk (fun z => Eq z F) (up_row (by omega)) (h.2.1), (up_ne (by omega)).trans (h.2.2.2.1), up_eq, trivial⟩) (pc' := 237) rfl ?_
                                                refine T_op zk_150_237 rfl X_ic (pc' := 238) rfl ?_
                                                exact T_zret zk_150_238 rfl (by omega) (fun σ' h => ⟨_, rfl, (by omega), h.1, ⟨(h.2.2.1).trans (by omega), (by have e := h.2.2.2.1; omega), trivial⟩⟩)
                                              · exfalso; omega
                                            ·
                                              refine T_ld zk_150_169 rfl rfl rfl (pc' := 171) rfl ?_
                                              refine T_op zk_150_171 rfl X_ic (pc' := 172) rfl ?_
                                              refine T_icmp_ge zk_150_172 (by omega) (by omega) (pc' := 175) rfl (fun h84 => ?_) (fun h85 => ?_)
                                              ·
                                                refine T_ld zk_150_213 rfl rfl rfl (pc' := 215) rfl ?_
                                                refine T_if_ne zk_150_215 (by omega) (pc' := 218) rfl (fun h86 => ?_) (fun h87 => ?_)
                                                ·
                                                  refine T_ld zk_150_220 rfl rfl rfl (pc' := 221) rfl ?_
                                                  refine T_getR (t' := 48) (i' := 0) (k' := 0) zk_150_221 rfl rfl rfl vd_35 (pc' := 224) rfl ?_
                                                  refine T_ld zk_150_224 rfl rfl rfl (pc' := 225) rfl ?_
                                                  refine T_ld zk_150_225 rfl rfl rfl (pc' := 226) rfl ?_
                                                  refine G_iast (J' := (fun σ' => IF MRd σ σ' ∧ Eq (σ' 41 0 0) F ∧ σ' 35 0 0 23 = t0 ∧ σ' 35 0 0 19 = a + 5 ∧ True)) (ln := 300) zk_150_226 rfl rfl vd_48 (by omega) (by omega) (by omega) (fun σ' h => ⟨h.1.up ⟨by omega, trivial⟩ (by first | exact pMRd rfl | (unfold MRd; omega)), gf_mk (fun z => Eq z F) (up_row (by omega)) (h.2.1), (up_ne (by omega)).trans (h.2.2.1), (up_ne (by omega)).trans (h.2.2.2.1), trivial⟩) (pc' := 227) rfl ?_
                                                  refine T_ld zk_150_227 rfl rfl rfl (pc' := 228) rfl ?_
                                                  refine T_op (st' := [av 35 0 0, av 35 0 0]) zk_150_228 rfl rfl (pc' := 229) rfl ?_
                                                  refine G_getX (w := t0) zk_150_229 rfl vd_35 (fun σ' h => h.2.2.1) (pc' := 232) rfl ?_
                                                  refine T_op zk_150_232 rfl X_ic (pc' := 233) rfl ?_
                                                  refine T_op zk_150_233 rfl X_add (pc' := 234) rfl ?_
                                                  refine T_putf (J' := (fun σ' => IF MRd σ σ' ∧ Eq (σ' 41 0 0) F ∧ σ' 35 0 0 19 = a + 5 ∧ σ' 35 0 0 23 = t0 + 1 ∧ True)) zk_150_234 rfl rfl vd_35 (fun σ' h => ⟨h.1.up (by simp only [rgP] <;> omega) (by first | exact pMRd rfl | (unfold MRd; omega)), gf_mk (fun z => Eq z F) (up_row (by omega)) (h.2.1), (up_ne (by omega)).trans (h.2.2.2.1), up_eq, trivial⟩) (pc' := 237) rfl ?_
                                                  refine T_op zk_150_237 rfl X_ic (pc' := 238) rfl ?_
                                                  exact T_zret zk_150_238 rfl (by omega) (fun σ' h => ⟨_, rfl, (by omega), h.1, ⟨(h.2.2.1).trans (by omega), (by have e := h.2.2.2.1; omega), trivial⟩⟩)
                                                · exfalso; omega
                                              · exfalso; omega
              · exfalso; omega
    ·
      skip
      have hlta1 := lt_cells F b m (a + 1) (by omega)
      have hsg := sg_spec (lt (LC F (b)) (m) (a + 1))
      have htk2 : ¬ sg (lt (LC F (b)) (m) (a + 1)) = 1 → tk (LC F (b)) m a = 0 ∧ te (LC F (b)) m a = a + 1 := fun q => (tk_spec (LC F (b)) m a).2.1 ⟨by omega, q⟩
      refine T_ld zk_150_86 rfl rfl rfl (pc' := 87) rfl ?_
      refine T_op zk_150_87 rfl (X_bi (v := 60) (by decide)) (pc' := 89) rfl ?_
      refine T_calli (K := fun y88 σ' => ((y88 = 0 ∧ (¬ lt (LC F (b)) (m) (a + 1) = 60)) ∨ (y88 = 1 ∧ ¬ (¬ lt (LC F (b)) (m) (a + 1) = 60))) ∧ (fun σ' => IF MRd σ σ' ∧ Eq (σ' 41 0 0) F ∧ σ' 35 0 0 23 = t0 ∧ σ' 35 0 0 19 = a + 1 ∧ True) σ') (r := []) zk_150_89 rfl rfl rfl rfl rfl rfl (Or.inr ⟨_, _, _, _, rfl, vd_35, rfl⟩) (fun σ' h => (r_149 60 (a + 1) m b F (by omega) (by omega) (by omega) (by omega) σ' h.1.1 (h.2.2.2.1) ((h.1.2 _ _ _ _ (by first | exact nMRd rfl | (unfold MRd; omega))).trans s2) ((h.1.2 _ _ _ _ (by first | exact nMRd rfl | (unfold MRd; omega))).trans s3) (h.2.1)).le (Nat.le_of_ble_eq_true rfl) (fun v σ2 ⟨y, h1, h2, h3, h4⟩ => ⟨y, h1, h2, h.1.tr h3 MN_sub, gf_mk (fun z => Eq z F) (funext fun j => h3.2 _ _ _ _ (fun q => q)) (h.2.1), (h3.2 _ _ _ _ (fun q => q)).trans (h.2.2.1), (h3.2 _ _ _ _ (fun q => q)).trans (h.2.2.2.1), trivial⟩)) (pc' := 92) rfl (fun y88 => ?_)
      refine G_ex (fun hy88 => ?_)
      refine T_if_ne zk_150_92 (by omega) (pc' := 95) rfl (fun h89 => ?_) (fun h90 => ?_)
      ·
        exact hj4 (by omega)
      ·
        refine T_ld zk_150_95 rfl rfl rfl (pc' := 96) rfl ?_
        refine T_op zk_150_96 rfl (X_bi (v := 62) (by decide)) (pc' := 98) rfl ?_
        refine T_calli (K := fun y91 σ' => ((y91 = 0 ∧ (¬ lt (LC F (b)) (m) (a + 1) = 62)) ∨ (y91 = 1 ∧ ¬ (¬ lt (LC F (b)) (m) (a + 1) = 62))) ∧ (fun σ' => IF MRd σ σ' ∧ Eq (σ' 41 0 0) F ∧ σ' 35 0 0 23 = t0 ∧ σ' 35 0 0 19 = a + 1 ∧ True) σ') (r := []) zk_150_98 rfl rfl rfl rfl rfl rfl (Or.inr ⟨_, _, _, _, rfl, vd_35, rfl⟩) (fun σ' h => (r_149 62 (a + 1) m b F (by omega) (by omega) (by omega) (by omega) σ' h.1.1 (h.2.2.2.1) ((h.1.2 _ _ _ _ (by first | exact nMRd rfl | (unfold MRd; omega))).trans s2) ((h.1.2 _ _ _ _ (by first | exact nMRd rfl | (unfold MRd; omega))).trans s3) (h.2.1)).le (Nat.le_of_ble_eq_true rfl) (fun v σ2 ⟨y, h1, h2, h3, h4⟩ => ⟨y, h1, h2, h.1.tr h3 MN_sub, gf_mk (fun z => Eq z F) (funext fun j => h3.2 _ _ _ _ (fun q => q)) (h.2.1), (h3.2 _ _ _ _ (fun q => q)).trans (h.2.2.1), (h3.2 _ _ _ _ (fun q => q)).trans (h.2.2.2.1), trivial⟩)) (pc' := 101) rfl (fun y91 => ?_)
        refine G_ex (fun hy91 => ?_)
        refine T_if_ne zk_150_101 (by omega) (pc' := 104) rfl (fun h92 => ?_) (fun h93 => ?_)
        ·
          exact hj4 (by omega)
        ·
          refine T_ld zk_150_104 rfl rfl rfl (pc' := 105) rfl ?_
          refine T_op zk_150_105 rfl (X_bi (v := 61) (by decide)) (pc' := 107) rfl ?_
          refine T_calli (K := fun y94 σ' => ((y94 = 0 ∧ (¬ lt (LC F (b)) (m) (a + 1) = 61)) ∨ (y94 = 1 ∧ ¬ (¬ lt (LC F (b)) (m) (a + 1) = 61))) ∧ (fun σ' => IF MRd σ σ' ∧ Eq (σ' 41 0 0) F ∧ σ' 35 0 0 23 = t0 ∧ σ' 35 0 0 19 = a + 1 ∧ True) σ') (r := []) zk_150_107 rfl rfl rfl rfl rfl rfl (Or.inr ⟨_, _, _, _, rfl, vd_35, rfl⟩) (fun σ' h => (r_149 61 (a + 1) m b F (by omega) (by omega) (by omega) (by omega) σ' h.1.1 (h.2.2.2.1) ((h.1.2 _ _ _ _ (by first | exact nMRd rfl | (unfold MRd; omega))).trans s2) ((h.1.2 _ _ _ _ (by first | exact nMRd rfl | (unfold MRd; omega))).trans s3) (h.2.1)).le (Nat.le_of_ble_eq_true rfl) (fun v σ2 ⟨y, h1, h2, h3, h4⟩ => ⟨y, h1, h2, h.1.tr h3 MN_sub, gf_mk (fun z => Eq z F) (funext fun j => h3.2 _ _ _ _ (fun q => q)) (h.2.1), (h3.2 _ _ _ _ (fun q => q)).trans (h.2.2.1), (h3.2 _ _ _ _ (fun q => q)).trans (h.2.2.2.1), trivial⟩)) (pc' := 110) rfl (fun y94 => ?_)
          refine G_ex (fun hy94 => ?_)
          refine T_if_ne zk_150_110 (by omega) (pc' := 113) rfl (fun h95 => ?_) (fun h96 => ?_)
          ·
            exact hj4 (by omega)
          ·
            refine T_op zk_150_113 rfl X_ic (pc' := 114) rfl ?_
            exact T_zret zk_150_114 rfl (by omega) (fun σ' h => ⟨_, rfl, (by omega), h.1, ⟨(h.2.2.2.1).trans (by omega), (by have e := h.2.2.1; omega), trivial⟩⟩)
  ·
    skip
    have hlta := lt_cells F b m a (by omega)
    have hff := ff_spec (lt (LC F (b)) (m) (a))
    have htk1 := (tk_spec (LC F (b)) m a).1
    refine T_ld zk_150_0 rfl rfl rfl (pc' := 1) rfl ?_
    refine T_op zk_150_1 rfl (X_bi (v := 102) (by decide)) (pc' := 3) rfl ?_
    refine T_calli (K := fun y97 σ' => ((y97 = 0 ∧ (¬ lt (LC F (b)) (m) (a) = 102)) ∨ (y97 = 1 ∧ ¬ (¬ lt (LC F (b)) (m) (a) = 102))) ∧ (fun σ' => IF MRd σ σ' ∧ σ' 35 0 0 19 = a ∧ Eq (σ' 41 0 0) F ∧ σ' 35 0 0 23 = t0 ∧ True) σ') (r := []) zk_150_3 rfl rfl rfl rfl rfl rfl (Or.inr ⟨_, _, _, _, rfl, vd_35, rfl⟩) (fun σ' h => (r_149 102 a m b F (by omega) (by omega) (by omega) (by omega) σ' h.1.1 (h.2.1) ((h.1.2 _ _ _ _ (by first | exact nMRd rfl | (unfold MRd; omega))).trans s2) ((h.1.2 _ _ _ _ (by first | exact nMRd rfl | (unfold MRd; omega))).trans s3) (h.2.2.1)).le (Nat.le_of_ble_eq_true rfl) (fun v σ2 ⟨y, h1, h2, h3, h4⟩ => ⟨y, h1, h2, h.1.tr h3 MN_sub, (h3.2 _ _ _ _ (fun q => q)).trans (h.2.1), gf_mk (fun z => Eq z F) (funext fun j => h3.2 _ _ _ _ (fun q => q)) (h.2.2.1), (h3.2 _ _ _ _ (fun q => q)).trans (h.2.2.2.1), trivial⟩)) (pc' := 6) rfl (fun y97 => ?_)
    refine G_ex (fun hy97 => ?_)
    refine T_if_ne zk_150_6 (by omega) (pc' := 9) rfl (fun h98 => ?_) (fun h99 => ?_)
    ·
      exact hj1 (by omega)
    ·
      refine T_ld zk_150_9 rfl rfl rfl (pc' := 10) rfl ?_
      refine T_op zk_150_10 rfl (X_bi (v := 115) (by decide)) (pc' := 12) rfl ?_
      refine T_calli (K := fun y100 σ' => ((y100 = 0 ∧ (¬ lt (LC F (b)) (m) (a) = 115)) ∨ (y100 = 1 ∧ ¬ (¬ lt (LC F (b)) (m) (a) = 115))) ∧ (fun σ' => IF MRd σ σ' ∧ σ' 35 0 0 19 = a ∧ Eq (σ' 41 0 0) F ∧ σ' 35 0 0 23 = t0 ∧ True) σ') (r := []) zk_150_12 rfl rfl rfl rfl rfl rfl (Or.inr ⟨_, _, _, _, rfl, vd_35, rfl⟩) (fun σ' h => (r_149 115 a m b F (by omega) (by omega) (by omega) (by omega) σ' h.1.1 (h.2.1) ((h.1.2 _ _ _ _ (by first | exact nMRd rfl | (unfold MRd; omega))).trans s2) ((h.1.2 _ _ _ _ (by first | exact nMRd rfl | (unfold MRd; omega))).trans s3) (h.2.2.1)).le (Nat.le_of_ble_eq_true rfl) (fun v σ2 ⟨y, h1, h2, h3, h4⟩ => ⟨y, h1, h2, h.1.tr h3 MN_sub, (h3.2 _ _ _ _ (fun q => q)).trans (h.2.1), gf_mk (fun z => Eq z F) (funext fun j => h3.2 _ _ _ _ (fun q => q)) (h.2.2.1), (h3.2 _ _ _ _ (fun q => q)).trans (h.2.2.2.1), trivial⟩)) (pc' := 15) rfl (fun y100 => ?_)
      refine G_ex (fun hy100 => ?_)
      refine T_if_ne zk_150_15 (by omega) (pc' := 18) rfl (fun h101 => ?_) (fun h102 => ?_)
      ·
        exact hj1 (by omega)
      ·
        refine T_ld zk_150_18 rfl rfl rfl (pc' := 19) rfl ?_
        refine T_op zk_150_19 rfl (X_bi (v := 108) (by decide)) (pc' := 21) rfl ?_
        refine T_calli (K := fun y103 σ' => ((y103 = 0 ∧ (¬ lt (LC F (b)) (m) (a) = 108)) ∨ (y103 = 1 ∧ ¬ (¬ lt (LC F (b)) (m) (a) = 108))) ∧ (fun σ' => IF MRd σ σ' ∧ σ' 35 0 0 19 = a ∧ Eq (σ' 41 0 0) F ∧ σ' 35 0 0 23 = t0 ∧ True) σ') (r := []) zk_150_21 rfl rfl rfl rfl rfl rfl (Or.inr ⟨_, _, _, _, rfl, vd_35, rfl⟩) (fun σ' h => (r_149 108 a m b F (by omega) (by omega) (by omega) (by omega) σ' h.1.1 (h.2.1) ((h.1.2 _ _ _ _ (by first | exact nMRd rfl | (unfold MRd; omega))).trans s2) ((h.1.2 _ _ _ _ (by first | exact nMRd rfl | (unfold MRd; omega))).trans s3) (h.2.2.1)).le (Nat.le_of_ble_eq_true rfl) (fun v σ2 ⟨y, h1, h2, h3, h4⟩ => ⟨y, h1, h2, h.1.tr h3 MN_sub, (h3.2 _ _ _ _ (fun q => q)).trans (h.2.1), gf_mk (fun z => Eq z F) (funext fun j => h3.2 _ _ _ _ (fun q => q)) (h.2.2.1), (h3.2 _ _ _ _ (fun q => q)).trans (h.2.2.2.1), trivial⟩)) (pc' := 24) rfl (fun y103 => ?_)
        refine G_ex (fun hy103 => ?_)
        refine T_if_ne zk_150_24 (by omega) (pc' := 27) rfl (fun h104 => ?_) (fun h105 => ?_)
        ·
          exact hj1 (by omega)
        ·
          refine T_ld zk_150_27 rfl rfl rfl (pc' := 28) rfl ?_
          refine T_op zk_150_28 rfl (X_bi (v := 104) (by decide)) (pc' := 30) rfl ?_
          refine T_calli (K := fun y106 σ' => ((y106 = 0 ∧ (¬ lt (LC F (b)) (m) (a) = 104)) ∨ (y106 = 1 ∧ ¬ (¬ lt (LC F (b)) (m) (a) = 104))) ∧ (fun σ' => IF MRd σ σ' ∧ σ' 35 0 0 19 = a ∧ Eq (σ' 41 0 0) F ∧ σ' 35 0 0 23 = t0 ∧ True) σ') (r := []) zk_150_30 rfl rfl rfl rfl rfl rfl (Or.inr ⟨_, _, _, _, rfl, vd_35, rfl⟩) (fun σ' h => (r_149 104 a m b F (by omega) (by omega) (by omega) (by omega) σ' h.1.1 (h.2.1) ((h.1.2 _ _ _ _ (by first | exact nMRd rfl | (unfold MRd; omega))).trans s2) ((h.1.2 _ _ _ _ (by first | exact nMRd rfl | (unfold MRd; omega))).trans s3) (h.2.2.1)).le (Nat.le_of_ble_eq_true rfl) (fun v σ2 ⟨y, h1, h2, h3, h4⟩ => ⟨y, h1, h2, h.1.tr h3 MN_sub, (h3.2 _ _ _ _ (fun q => q)).trans (h.2.1), gf_mk (fun z => Eq z F) (funext fun j => h3.2 _ _ _ _ (fun q => q)) (h.2.2.1), (h3.2 _ _ _ _ (fun q => q)).trans (h.2.2.2.1), trivial⟩)) (pc' := 33) rfl (fun y106 => ?_)
          refine G_ex (fun hy106 => ?_)
          refine T_if_ne zk_150_33 (by omega) (pc' := 36) rfl (fun h107 => ?_) (fun h108 => ?_)
          ·
            exact hj1 (by omega)
          ·
            refine T_ld zk_150_36 rfl rfl rfl (pc' := 37) rfl ?_
            refine T_op zk_150_37 rfl (X_bi (v := 119) (by decide)) (pc' := 39) rfl ?_
            refine T_calli (K := fun y109 σ' => ((y109 = 0 ∧ (¬ lt (LC F (b)) (m) (a) = 119)) ∨ (y109 = 1 ∧ ¬ (¬ lt (LC F (b)) (m) (a) = 119))) ∧ (fun σ' => IF MRd σ σ' ∧ σ' 35 0 0 19 = a ∧ Eq (σ' 41 0 0) F ∧ σ' 35 0 0 23 = t0 ∧ True) σ') (r := []) zk_150_39 rfl rfl rfl rfl rfl rfl (Or.inr ⟨_, _, _, _, rfl, vd_35, rfl⟩) (fun σ' h => (r_149 119 a m b F (by omega) (by omega) (by omega) (by omega) σ' h.1.1 (h.2.1) ((h.1.2 _ _ _ _ (by first | exact nMRd rfl | (unfold MRd; omega))).trans s2) ((h.1.2 _ _ _ _ (by first | exact nMRd rfl | (unfold MRd; omega))).trans s3) (h.2.2.1)).le (Nat.le_of_ble_eq_true rfl) (fun v σ2 ⟨y, h1, h2, h3, h4⟩ => ⟨y, h1, h2, h.1.tr h3 MN_sub, (h3.2 _ _ _ _ (fun q => q)).trans (h.2.1), gf_mk (fun z => Eq z F) (funext fun j => h3.2 _ _ _ _ (fun q => q)) (h.2.2.1), (h3.2 _ _ _ _ (fun q => q)).trans (h.2.2.2.1), trivial⟩)) (pc' := 42) rfl (fun y109 => ?_)
            refine G_ex (fun hy109 => ?_)
            refine T_if_ne zk_150_42 (by omega) (pc' := 45) rfl (fun h110 => ?_) (fun h111 => ?_)
            ·
              exact hj1 (by omega)
            ·
              refine T_ld zk_150_45 rfl rfl rfl (pc' := 46) rfl ?_
              refine T_op zk_150_46 rfl (X_bi (v := 100) (by decide)) (pc' := 48) rfl ?_
              refine T_calli (K := fun y112 σ' => ((y112 = 0 ∧ (¬ lt (LC F (b)) (m) (a) = 100)) ∨ (y112 = 1 ∧ ¬ (¬ lt (LC F (b)) (m) (a) = 100))) ∧ (fun σ' => IF MRd σ σ' ∧ σ' 35 0 0 19 = a ∧ Eq (σ' 41 0 0) F ∧ σ' 35 0 0 23 = t0 ∧ True) σ') (r := []) zk_150_48 rfl rfl rfl rfl rfl rfl (Or.inr ⟨_, _, _, _, rfl, vd_35, rfl⟩) (fun σ' h => (r_149 100 a m b F (by omega) (by omega) (by omega) (by omega) σ' h.1.1 (h.2.1) ((h.1.2 _ _ _ _ (by first | exact nMRd rfl | (unfold MRd; omega))).trans s2) ((h.1.2 _ _ _ _ (by first | exact nMRd rfl | (unfold MRd; omega))).trans s3) (h.2.2.1)).le (Nat.le_of_ble_eq_true rfl) (fun v σ2 ⟨y, h1, h2, h3, h4⟩ => ⟨y, h1, h2, h.1.tr h3 MN_sub, (h3.2 _ _ _ _ (fun q => q)).trans (h.2.1), gf_mk (fun z => Eq z F) (funext fun j => h3.2 _ _ _ _ (fun q => q)) (h.2.2.1), (h3.2 _ _ _ _ (fun q => q)).trans (h.2.2.2.1), trivial⟩)) (pc' := 51) rfl (fun y112 => ?_)
              refine G_ex (fun hy112 => ?_)
              refine T_if_ne zk_150_51 (by omega) (pc' := 54) rfl (fun h113 => ?_) (fun h114 => ?_)
              ·
                exact hj1 (by omega)
              ·
                refine T_op zk_150_54 rfl X_ic (pc' := 55) rfl ?_
                exact T_zret zk_150_55 rfl (by omega) (fun σ' h => ⟨_, rfl, (by omega), h.1, ⟨(h.2.1).trans (by omega), (by have e := h.2.2.2.1; omega), trivial⟩⟩)
