/-- W.law -/
theorem s_93 {xs : Nat × (Nat → Int32)} (p0 : Int) (u0 : Int) (u2 : Int) (n : Int) (w : Int) (F : Nat → Int) (hp0 : 0 ≤ p0 ∧ p0 ≤ 7) (hu0 : -2147483648 ≤ u0 ∧ u0 ≤ 2147483647) (hu2 : 0 ≤ u2 ∧ u2 ≤ 96) (hn : 0 ≤ n ∧ n ≤ 5) (σ : ZS) (hI : Inv σ)  (s0 : σ 33 0 (Int.toNat p0) 0 = u0) (s2 : σ 33 0 (Int.toNat p0) 2 = u2) (rf : Eq (σ 34 0 (Int.toNat p0)) F) (sn : σ 1 0 0 5 = n) (sw : σ 0 0 0 7 = w) : CT xs 68 93 [av 0 0 0, iv p0] σ (fun v σ' => ∃ y, v = some (iv y) ∧ ((y = -2 ∧ (u0 = 2)) ∨ (y = -3 ∧ ¬ (u0 = 2) ∧ (u0 = 0)) ∨ (y = -6 ∧ ¬ (u0 = 2) ∧ ¬ (u0 = 0) ∧ (¬ LAWF (fun q => L2I (F q)) u2 = -1)) ∨ (y = -7 ∧ ¬ (u0 = 2) ∧ ¬ (u0 = 0) ∧ ¬ (¬ LAWF (fun q => L2I (F q)) u2 = -1) ∧ (5 ≤ n)) ∨ (y = n ∧ ¬ (u0 = 2) ∧ ¬ (u0 = 0) ∧ ¬ (¬ LAWF (fun q => L2I (F q)) u2 = -1) ∧ ¬ (5 ≤ n))) ∧ IF MLw σ σ' ∧ (((y < 0 → σ' 1 0 0 5 = n) ∧ (0 ≤ y → σ' 1 0 0 5 = n + 1)) ∧ ((u0 = 2 ∨ u0 = 0 → σ' 0 0 0 7 = w) ∧ (¬ u0 = 2 ∧ ¬ u0 = 0 → σ' 0 0 0 7 = LAWF (fun q => L2I (F q)) u2)) ∧ True)) := by
  refine G_ct (J := (fun σ' => IF MLw σ σ' ∧ Eq (σ' 34 0 (Int.toNat p0)) F ∧ σ' 1 0 0 5 = n ∧ σ' 0 0 0 7 = w ∧ True)) (L := [(0, av 0 0 0), (1, iv p0)]) (nL := 3) rfl rfl rfl ⟨IF.rf hI, rf, sn, sw, trivial⟩ ?_
  refine T_ld zk_93_0 rfl rfl rfl (pc' := 1) rfl ?_
  refine T_ld zk_93_1 rfl rfl rfl (pc' := 2) rfl ?_
  refine T_calli (K := fun y1 σ' => ((y1 = -2 ∧ (u0 = 2)) ∨ (y1 = -3 ∧ ¬ (u0 = 2) ∧ (u0 = 0)) ∨ (y1 = 0 ∧ ¬ (u0 = 2) ∧ ¬ (u0 = 0))) ∧ (fun σ' => IF MLw σ σ' ∧ Eq (σ' 34 0 (Int.toNat p0)) F ∧ σ' 1 0 0 5 = n ∧ σ' 0 0 0 7 = w ∧ True) σ') (r := []) zk_93_2 rfl rfl rfl rfl rfl rfl (Or.inr ⟨_, _, _, _, rfl, vd_0, rfl⟩) (fun σ' h => (s_119 p0 u0 (by omega) (by omega) σ' h.1.1 ((h.1.2 _ _ _ _ (by first | exact nMLw rfl | (unfold MLw; omega))).trans s0)).le (Nat.le_of_ble_eq_true rfl) (fun v σ2 ⟨y, h1, h2, h3, h4⟩ => ⟨y, h1, h2, h.1.tr h3 MN_sub, gf_mk (fun z => Eq z F) (funext fun j => h3.2 _ _ _ _ (fun q => q)) (h.2.1), (h3.2 _ _ _ _ (fun q => q)).trans (h.2.2.1), (h3.2 _ _ _ _ (fun q => q)).trans (h.2.2.2.1), trivial⟩)) (pc' := 5) rfl (fun y1 => ?_)
  refine G_ex (fun hy1 => ?_)
  refine T_st (L' := [(0, av 0 0 0), (1, iv p0), (2, iv y1)]) zk_93_5 (nL := 3) rfl rfl rfl rfl rfl (pc' := 6) rfl ?_
  refine T_ld zk_93_6 rfl rfl rfl (pc' := 7) rfl ?_
  refine T_if_eq zk_93_7 (by omega) (pc' := 10) rfl (fun h2 => ?_) (fun h3 => ?_)
  ·
    refine T_ld zk_93_16 rfl rfl rfl (pc' := 17) rfl ?_
    refine T_ld zk_93_17 rfl rfl rfl (pc' := 18) rfl ?_
    refine T_getR (t' := 29) (i' := 0) (k' := 0) zk_93_18 rfl rfl rfl vd_0 (pc' := 21) rfl ?_
    refine T_ld zk_93_21 rfl rfl rfl (pc' := 22) rfl ?_
    refine T_getR (t' := 27) (i' := 0) (k' := 0) zk_93_22 rfl rfl rfl vd_0 (pc' := 25) rfl ?_
    refine T_ld zk_93_25 rfl rfl rfl (pc' := 26) rfl ?_
    refine G_aald (t' := 33) (im := 0) (i' := 0) (ln := 8) zk_93_26 rfl rfl rfl vd_27 (by omega) (by omega) (by omega) (pc' := 27) rfl ?_
    refine T_calli (K := fun y4 σ' => (y4 = LAWF (fun q => L2I (F q)) u2 ∧ -2147483648 ≤ y4 ∧ y4 ≤ 2147483647) ∧ (fun σ' => IF MLw σ σ' ∧ Eq (σ' 34 0 (Int.toNat p0)) F ∧ σ' 1 0 0 5 = n ∧ σ' 0 0 0 7 = w ∧ σ' 30 0 0 1 = 1 ∧ True) σ') (r := [av 0 0 0]) zk_93_27 rfl rfl rfl rfl rfl rfl (Or.inr ⟨_, _, _, _, rfl, vd_29, rfl⟩) (fun σ' h => (s_48 (Int.toNat p0) u2 F (by omega) (by omega) σ' h.1.1 ((h.1.2 _ _ _ _ (by first | exact nMLw rfl | (unfold MLw; omega))).trans s2) (h.2.1)).le (Nat.le_of_ble_eq_true rfl) (fun v σ2 ⟨y, h1, h2, h3, h4⟩ => ⟨y, h1, h2, h.1.tr h3 sb55_973b360, gf_mk (fun z => Eq z F) (funext fun j => h3.2 _ _ _ _ (by first | exact nMR rfl | (unfold MR; omega))) (h.2.1), (h3.2 _ _ _ _ (by first | exact nMR rfl | (unfold MR; omega))).trans (h.2.2.1), (h3.2 _ _ _ _ (by first | exact nMR rfl | (unfold MR; omega))).trans (h.2.2.2.1), h4.1, trivial⟩)) (pc' := 30) rfl (fun y4 => ?_)
    refine G_ex (fun hy4 => ?_)
    refine T_putf (J' := (fun σ' => IF MLw σ σ' ∧ Eq (σ' 34 0 (Int.toNat p0)) F ∧ σ' 1 0 0 5 = n ∧ σ' 30 0 0 1 = 1 ∧ σ' 0 0 0 7 = y4 ∧ True)) zk_93_30 rfl rfl vd_0 (fun σ' h => ⟨h.1.up (by simp only [rgP] <;> omega) (by first | exact pMLw rfl | (unfold MLw; omega)), gf_mk (fun z => Eq z F) (up_row (by omega)) (h.2.1), (up_ne (by omega)).trans (h.2.2.1), (up_ne (by omega)).trans (h.2.2.2.2.1), up_eq, trivial⟩) (pc' := 33) rfl ?_
    refine T_ld zk_93_33 rfl rfl rfl (pc' := 34) rfl ?_
    refine G_getX (w := y4) zk_93_34 rfl vd_0 (fun σ' h => h.2.2.2.2.1) (pc' := 37) rfl ?_
    refine T_op zk_93_37 rfl X_ic (pc' := 38) rfl ?_
    refine T_icmp_eq zk_93_38 (by omega) (by omega) (pc' := 41) rfl (fun h5 => ?_) (fun h6 => ?_)
    ·
      refine T_ld zk_93_48 rfl rfl rfl (pc' := 49) rfl ?_
      refine T_getR (t' := 1) (i' := 0) (k' := 0) zk_93_49 rfl rfl rfl vd_0 (pc' := 52) rfl ?_
      refine G_getX (w := n) zk_93_52 rfl (vd_1 (by omega)) (fun σ' h => h.2.2.1) (pc' := 55) rfl ?_
      refine T_op zk_93_55 rfl X_ic (pc' := 56) rfl ?_
      refine T_icmp_lt zk_93_56 (by omega) (by omega) (pc' := 59) rfl (fun h7 => ?_) (fun h8 => ?_)
      ·
        refine T_ld zk_93_66 rfl rfl rfl (pc' := 67) rfl ?_
        refine T_getR (t' := 1) (i' := 0) (k' := 0) zk_93_67 rfl rfl rfl vd_0 (pc' := 70) rfl ?_
        refine T_getR (t' := 14) (i' := 0) (k' := 0) zk_93_70 rfl rfl rfl (vd_1 (by omega)) (pc' := 73) rfl ?_
        refine T_ld zk_93_73 rfl rfl rfl (pc' := 74) rfl ?_
        refine T_getR (t' := 1) (i' := 0) (k' := 0) zk_93_74 rfl rfl rfl vd_0 (pc' := 77) rfl ?_
        refine G_getX (w := n) zk_93_77 rfl (vd_1 (by omega)) (fun σ' h => h.2.2.1) (pc' := 80) rfl ?_
        refine G_aald (t' := 23) (im := 9) (i' := 0) (ln := 5) zk_93_80 rfl rfl rfl (vd_14 (by omega)) (by omega) (by omega) (by omega) (pc' := 81) rfl ?_
        refine T_ld zk_93_81 rfl rfl rfl (pc' := 82) rfl ?_
        refine T_getR (t' := 29) (i' := 0) (k' := 0) zk_93_82 rfl rfl rfl vd_0 (pc' := 85) rfl ?_
        refine T_getR (t' := 30) (i' := 0) (k' := 0) zk_93_85 rfl rfl rfl vd_29 (pc' := 88) rfl ?_
        refine T_callv (J' := (fun σ' => IF MLw σ σ' ∧ Eq (σ' 34 0 (Int.toNat p0)) F ∧ σ' 1 0 0 5 = n ∧ σ' 30 0 0 1 = 1 ∧ σ' 0 0 0 7 = y4 ∧ True)) (r := []) zk_93_88 rfl rfl rfl rfl rfl rfl (Or.inr ⟨_, _, _, _, rfl, (vd_23 (by omega) (by omega)), rfl⟩) (fun σ' h => (w_46d (Int.toNat n) (by omega) σ' h.1.1 ).le (Nat.le_of_ble_eq_true rfl) (fun v σ2 ⟨h1, h3, h4⟩ => ⟨h1, h.1.tr h3 sb55_19a476b, gf_mk (fun z => Eq z F) (funext fun j => h3.2 _ _ _ _ (by first | exact nMI rfl | (unfold MI; omega))) (h.2.1), (h3.2 _ _ _ _ (by first | exact nMI rfl | (unfold MI; omega))).trans (h.2.2.1), (h3.2 _ _ _ _ (by first | exact nMI rfl | (unfold MI; omega))).trans (h.2.2.2.1), (h3.2 _ _ _ _ (by first | exact nMI rfl | (unfold MI; omega))).trans (h.2.2.2.2.1), trivial⟩)) (pc' := 91) rfl ?_
        refine T_ld zk_93_91 rfl rfl rfl (pc' := 92) rfl ?_
        refine T_getR (t' := 1) (i' := 0) (k' := 0) zk_93_92 rfl rfl rfl vd_0 (pc' := 95) rfl ?_
        refine T_op (st' := [av 1 0 0, av 1 0 0]) zk_93_95 rfl rfl (pc' := 96) rfl ?_
        refine G_getX (w := n) zk_93_96 rfl (vd_1 (by omega)) (fun σ' h => h.2.2.1) (pc' := 99) rfl ?_
        refine T_op zk_93_99 rfl X_ic (pc' := 100) rfl ?_
        refine T_op zk_93_100 rfl X_add (pc' := 101) rfl ?_
        refine T_putf (J' := (fun σ' => IF MLw σ σ' ∧ Eq (σ' 34 0 (Int.toNat p0)) F ∧ σ' 30 0 0 1 = 1 ∧ σ' 0 0 0 7 = y4 ∧ σ' 1 0 0 5 = n + 1 ∧ True)) zk_93_101 rfl rfl (vd_1 (by omega)) (fun σ' h => ⟨h.1.up (by simp only [rgP] <;> omega) (by first | exact pMLw rfl | (unfold MLw; omega)), gf_mk (fun z => Eq z F) (up_row (by omega)) (h.2.1), (up_ne (by omega)).trans (h.2.2.2.1), (up_ne (by omega)).trans (h.2.2.2.2.1), up_eq, trivial⟩) (pc' := 104) rfl ?_
        refine T_ld zk_93_104 rfl rfl rfl (pc' := 105) rfl ?_
        refine T_getR (t' := 1) (i' := 0) (k' := 0) zk_93_105 rfl rfl rfl vd_0 (pc' := 108) rfl ?_
        refine G_getX (w := n + 1) zk_93_108 rfl (vd_1 (by omega)) (fun σ' h => h.2.2.2.2.1) (pc' := 111) rfl ?_
        refine T_op zk_93_111 rfl X_ic (pc' := 112) rfl ?_
        refine T_op zk_93_112 rfl X_sub (pc' := 113) rfl ?_
        exact T_iret zk_93_113 rfl (fun σ' h => ⟨_, rfl, (by omega), h.1, ⟨(by have e := h.2.2.2.2.1; omega), (by have e := h.2.2.2.1; omega), trivial⟩⟩)
      ·
        refine T_ld zk_93_59 rfl rfl rfl (pc' := 60) rfl ?_
        refine T_op zk_93_60 rfl (X_bi (v := -7) (by decide)) (pc' := 62) rfl ?_
        refine T_calli (K := fun y10 σ' => (y10 = (-7)) ∧ (fun σ' => IF MLw σ σ' ∧ Eq (σ' 34 0 (Int.toNat p0)) F ∧ σ' 1 0 0 5 = n ∧ σ' 30 0 0 1 = 1 ∧ σ' 0 0 0 7 = y4 ∧ True) σ') (r := []) zk_93_62 rfl rfl rfl rfl rfl rfl (Or.inr ⟨_, _, _, _, rfl, vd_0, rfl⟩) (fun σ' h => (w_113 ((-7)) (by omega) σ' h.1.1 ).le (Nat.le_of_ble_eq_true rfl) (fun v σ2 ⟨y, h1, h2, h3, h4⟩ => ⟨y, h1, h2, h.1.tr h3 sb55_cdeb806, gf_mk (fun z => Eq z F) (funext fun j => h3.2 _ _ _ _ (by first | exact nMI rfl | (unfold MI; omega))) (h.2.1), (h3.2 _ _ _ _ (by first | exact nMI rfl | (unfold MI; omega))).trans (h.2.2.1), (h3.2 _ _ _ _ (by first | exact nMI rfl | (unfold MI; omega))).trans (h.2.2.2.1), (h3.2 _ _ _ _ (by first | exact nMI rfl | (unfold MI; omega))).trans (h.2.2.2.2.1), trivial⟩)) (pc' := 65) rfl (fun y10 => ?_)
        refine G_ex (fun hy10 => ?_)
        obtain rfl : y10 = (-7) := by omega
        exact T_iret zk_93_65 rfl (fun σ' h => ⟨_, rfl, (by omega), h.1, ⟨(by have e := h.2.2.1; omega), (by have e := h.2.2.2.2.1; omega), trivial⟩⟩)
    ·
      refine T_ld zk_93_41 rfl rfl rfl (pc' := 42) rfl ?_
      refine T_op zk_93_42 rfl (X_bi (v := -6) (by decide)) (pc' := 44) rfl ?_
      refine T_calli (K := fun y11 σ' => (y11 = (-6)) ∧ (fun σ' => IF MLw σ σ' ∧ Eq (σ' 34 0 (Int.toNat p0)) F ∧ σ' 1 0 0 5 = n ∧ σ' 30 0 0 1 = 1 ∧ σ' 0 0 0 7 = y4 ∧ True) σ') (r := []) zk_93_44 rfl rfl rfl rfl rfl rfl (Or.inr ⟨_, _, _, _, rfl, vd_0, rfl⟩) (fun σ' h => (w_113 ((-6)) (by omega) σ' h.1.1 ).le (Nat.le_of_ble_eq_true rfl) (fun v σ2 ⟨y, h1, h2, h3, h4⟩ => ⟨y, h1, h2, h.1.tr h3 sb55_cdeb806, gf_mk (fun z => Eq z F) (funext fun j => h3.2 _ _ _ _ (by first | exact nMI rfl | (unfold MI; omega))) (h.2.1), (h3.2 _ _ _ _ (by first | exact nMI rfl | (unfold MI; omega))).trans (h.2.2.1), (h3.2 _ _ _ _ (by first | exact nMI rfl | (unfold MI; omega))).trans (h.2.2.2.1), (h3.2 _ _ _ _ (by first | exact nMI rfl | (unfold MI; omega))).trans (h.2.2.2.2.1), trivial⟩)) (pc' := 47) rfl (fun y11 => ?_)
      refine G_ex (fun hy11 => ?_)
      obtain rfl : y11 = (-6) := by omega
      exact T_iret zk_93_47 rfl (fun σ' h => ⟨_, rfl, (by omega), h.1, ⟨(by have e := h.2.2.1; omega), (by have e := h.2.2.2.2.1; omega), trivial⟩⟩)
  ·
    refine T_ld zk_93_10 rfl rfl rfl (pc' := 11) rfl ?_
    refine T_ld zk_93_11 rfl rfl rfl (pc' := 12) rfl ?_
    refine T_calli (K := fun y12 σ' => (y12 = y1) ∧ (fun σ' => IF MLw σ σ' ∧ Eq (σ' 34 0 (Int.toNat p0)) F ∧ σ' 1 0 0 5 = n ∧ σ' 0 0 0 7 = w ∧ True) σ') (r := []) zk_93_12 rfl rfl rfl rfl rfl rfl (Or.inr ⟨_, _, _, _, rfl, vd_0, rfl⟩) (fun σ' h => (w_113 y1 (by omega) σ' h.1.1 ).le (Nat.le_of_ble_eq_true rfl) (fun v σ2 ⟨y, h1, h2, h3, h4⟩ => ⟨y, h1, h2, h.1.tr h3 sb55_cdeb806, gf_mk (fun z => Eq z F) (funext fun j => h3.2 _ _ _ _ (by first | exact nMI rfl | (unfold MI; omega))) (h.2.1), (h3.2 _ _ _ _ (by first | exact nMI rfl | (unfold MI; omega))).trans (h.2.2.1), (h3.2 _ _ _ _ (by first | exact nMI rfl | (unfold MI; omega))).trans (h.2.2.2.1), trivial⟩)) (pc' := 15) rfl (fun y12 => ?_)
    refine G_ex (fun hy12 => ?_)
    obtain rfl : y12 = y1 := by omega
    exact T_iret zk_93_15 rfl (fun σ' h => ⟨_, rfl, (by omega), h.1, ⟨(by have e := h.2.2.1; omega), (by have e := h.2.2.2.1; omega), trivial⟩⟩)
/-- W.law -/
theorem s_93o {xs : Nat × (Nat → Int32)} (p0 : Int) (hp0 : -2147483648 ≤ p0 ∧ p0 ≤ 2147483647) (ho : p0 < 0 ∨ 7 < p0) (σ : ZS) (hI : Inv σ)   : CT xs 3 93 [av 0 0 0, iv p0] σ (fun v σ' => ∃ y, v = some (iv y) ∧ (y = -1) ∧ IF (MI 0 28 28 28 28) σ σ' ∧ (True)) := by
  refine G_ct (J := (fun σ' => IF (MI 0 28 28 28 28) σ σ' ∧ True)) (L := [(0, av 0 0 0), (1, iv p0)]) (nL := 3) rfl rfl rfl ⟨IF.rf hI, trivial⟩ ?_
  refine T_ld zk_93_0 rfl rfl rfl (pc' := 1) rfl ?_
  refine T_ld zk_93_1 rfl rfl rfl (pc' := 2) rfl ?_
  refine T_calli (K := fun y1 σ' => ((y1 = -1 ∧ (p0 < 0 ∨ 7 < p0)) ∨ ((y1 = -3 ∨ y1 = -2 ∨ y1 = 0) ∧ 0 ≤ p0 ∧ p0 ≤ 7)) ∧ (fun σ' => IF (MI 0 28 28 28 28) σ σ' ∧ True) σ') (r := []) zk_93_2 rfl rfl rfl rfl rfl rfl (Or.inr ⟨_, _, _, _, rfl, vd_0, rfl⟩) (fun σ' h => (w_119 p0 (by omega) σ' h.1.1 ).le (Nat.le_of_ble_eq_true rfl) (fun v σ2 ⟨y, h1, h2, h3, h4⟩ => ⟨y, h1, h2, h.1.tr h3 MN_sub, trivial⟩)) (pc' := 5) rfl (fun y1 => ?_)
  refine G_ex (fun hy1 => ?_)
  refine T_st (L' := [(0, av 0 0 0), (1, iv p0), (2, iv y1)]) zk_93_5 (nL := 3) rfl rfl rfl rfl rfl (pc' := 6) rfl ?_
  refine T_ld zk_93_6 rfl rfl rfl (pc' := 7) rfl ?_
  refine T_if_eq zk_93_7 (by omega) (pc' := 10) rfl (fun h2 => ?_) (fun h3 => ?_)
  · exfalso; omega
  ·
    refine T_ld zk_93_10 rfl rfl rfl (pc' := 11) rfl ?_
    refine T_ld zk_93_11 rfl rfl rfl (pc' := 12) rfl ?_
    refine T_calli (K := fun y4 σ' => (y4 = y1) ∧ (fun σ' => IF (MI 0 28 28 28 28) σ σ' ∧ True) σ') (r := []) zk_93_12 rfl rfl rfl rfl rfl rfl (Or.inr ⟨_, _, _, _, rfl, vd_0, rfl⟩) (fun σ' h => (w_113 y1 (by omega) σ' h.1.1 ).le (Nat.le_of_ble_eq_true rfl) (fun v σ2 ⟨y, h1, h2, h3, h4⟩ => ⟨y, h1, h2, h.1.tr h3 (fun _ _ _ _ h => h), trivial⟩)) (pc' := 15) rfl (fun y4 => ?_)
    refine G_ex (fun hy4 => ?_)
    obtain rfl : y4 = y1 := by omega
    exact T_iret zk_93_15 rfl (fun σ' h => ⟨_, rfl, (by omega), h.1, trivial⟩)
