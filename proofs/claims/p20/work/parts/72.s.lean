theorem sb72_644d648 : ∀ t i k j, MYl 1 t i k j → MY 1 t i k j := by
  intro t i k j h
  unfold MYl at h
  unfold MY
  omega
theorem sb72_93ede0b : ∀ t i k j, MI 1 11 12 13 13 t i k j → MY 1 t i k j := by
  intro t i k j h
  unfold MI at h
  unfold MY
  omega
theorem sb72_5e083c8 : ∀ t i k j, MYt 1 0 t i k j → MY 1 t i k j := by
  intro t i k j h
  unfold MYt at h
  unfold MY
  omega
theorem sb72_72ea14c : ∀ t i k j, MYt 1 1 t i k j → MY 1 t i k j := by
  intro t i k j h
  unfold MYt at h
  unfold MY
  omega
theorem sb72_e13aa76 : ∀ t i k j, MI 1 26 26 26 26 t i k j → MY 1 t i k j := by
  intro t i k j h
  unfold MI at h
  unfold MY
  omega
theorem sb72_a631b4c : ∀ t i k j, MI 1 25 25 25 25 t i k j → MY 1 t i k j := by
  intro t i k j h
  unfold MI at h
  unfold MY
  omega
theorem sb72_5fad9a3 : ∀ t i k j, MI 1 23 24 24 24 t i k j → MY 1 t i k j := by
  intro t i k j h
  unfold MI at h
  unfold MY
  omega
theorem sb72_5cb13b0 : ∀ t i k j, MYl 0 t i k j → MY 0 t i k j := by
  intro t i k j h
  unfold MYl at h
  unfold MY
  omega
theorem sb72_1cca568 : ∀ t i k j, MI 0 11 12 13 13 t i k j → MY 0 t i k j := by
  intro t i k j h
  unfold MI at h
  unfold MY
  omega
theorem sb72_c835090 : ∀ t i k j, MYt 0 0 t i k j → MY 0 t i k j := by
  intro t i k j h
  unfold MYt at h
  unfold MY
  omega
theorem sb72_1529f72 : ∀ t i k j, MYt 0 1 t i k j → MY 0 t i k j := by
  intro t i k j h
  unfold MYt at h
  unfold MY
  omega
theorem sb72_1c2198f : ∀ t i k j, MI 0 26 26 26 26 t i k j → MY 0 t i k j := by
  intro t i k j h
  unfold MI at h
  unfold MY
  omega
theorem sb72_a41fece : ∀ t i k j, MI 0 25 25 25 25 t i k j → MY 0 t i k j := by
  intro t i k j h
  unfold MI at h
  unfold MY
  omega
theorem sb72_f3781e5 : ∀ t i k j, MI 0 23 24 24 24 t i k j → MY 0 t i k j := by
  intro t i k j h
  unfold MI at h
  unfold MY
  omega
/-- W.restore -/
theorem s_109n {xs : Nat × (Nat → Int32)}   (σ : ZS) (hI : Inv σ)  (s0 : σ 0 0 0 3 = 0) : CT xs 3 109 [av 0 0 0] σ (fun v σ' => ∃ y, v = some (iv y) ∧ (y = -6) ∧ IF (MI 0 28 28 28 28) σ σ' ∧ (True)) := by
  refine G_ct (J := (fun σ' => IF (MI 0 28 28 28 28) σ σ' ∧ True)) (L := [(0, av 0 0 0)]) (nL := 2) rfl rfl rfl ⟨IF.rf hI, trivial⟩ ?_
  refine T_ld zk_109_0 rfl rfl rfl (pc' := 1) rfl ?_
  refine G_getX (w := 0) zk_109_1 rfl vd_0 (fun σ' h => (h.1.2 _ _ _ _ (by first | exact nMI rfl | (unfold MI; omega))).trans s0) (pc' := 4) rfl ?_
  refine T_if_ne zk_109_4 (by omega) (pc' := 7) rfl (fun h1 => ?_) (fun h2 => ?_)
  · exfalso; omega
  ·
    refine T_ld zk_109_7 rfl rfl rfl (pc' := 8) rfl ?_
    refine T_op zk_109_8 rfl (X_bi (v := -6) (by decide)) (pc' := 10) rfl ?_
    refine T_calli (K := fun y3 σ' => (y3 = (-6)) ∧ (fun σ' => IF (MI 0 28 28 28 28) σ σ' ∧ True) σ') (r := []) zk_109_10 rfl rfl rfl rfl rfl rfl (Or.inr ⟨_, _, _, _, rfl, vd_0, rfl⟩) (fun σ' h => (w_113 ((-6)) (by omega) σ' h.1.1 ).le (Nat.le_of_ble_eq_true rfl) (fun v σ2 ⟨y, h1, h2, h3, h4⟩ => ⟨y, h1, h2, h.1.tr h3 (fun _ _ _ _ h => h), trivial⟩)) (pc' := 13) rfl (fun y3 => ?_)
    refine G_ex (fun hy3 => ?_)
    obtain rfl : y3 = (-6) := by omega
    exact T_iret zk_109_13 rfl (fun σ' h => ⟨_, rfl, (by omega), h.1, trivial⟩)
/-- W.house -/
theorem s_98 {xs : Nat × (Nat → Int32)} (p0 : Int) (p1 : Int) (p2 : Int) (p3 : Int) (p4 : Int) (n : Int) (hp0 : -2147483648 ≤ p0 ∧ p0 ≤ 2147483647) (hp1 : -2147483648 ≤ p1 ∧ p1 ≤ 2147483647) (hp2 : -2147483648 ≤ p2 ∧ p2 ≤ 2147483647) (hp3 : -2147483648 ≤ p3 ∧ p3 ≤ 2147483647) (hp4 : -2147483648 ≤ p4 ∧ p4 ≤ 2147483647) (hn : 0 ≤ n ∧ n ≤ 12) (σ : ZS) (hI : Inv σ)  (s1 : σ 1 0 0 6 = n) : CT xs 3 98 [av 0 0 0, iv p0, iv p1, iv p2, iv p3, iv p4] σ (fun v σ' => ∃ y, v = some (iv y) ∧ ((y = -1 ∧ (¬ (0 ≤ p0 ∧ p0 ≤ 2) ∨ ¬ (0 ≤ p1 ∧ p1 ≤ 24))) ∨ (y = -6 ∧ ¬ (¬ (0 ≤ p0 ∧ p0 ≤ 2) ∨ ¬ (0 ≤ p1 ∧ p1 ≤ 24)) ∧ (¬ (0 ≤ p2 ∧ p2 ≤ 200) ∨ ¬ (0 ≤ p3 ∧ p3 ≤ 99) ∨ ¬ (0 ≤ p4 ∧ p4 ≤ 99))) ∨ (y = -7 ∧ ¬ (¬ (0 ≤ p0 ∧ p0 ≤ 2) ∨ ¬ (0 ≤ p1 ∧ p1 ≤ 24)) ∧ ¬ (¬ (0 ≤ p2 ∧ p2 ≤ 200) ∨ ¬ (0 ≤ p3 ∧ p3 ≤ 99) ∨ ¬ (0 ≤ p4 ∧ p4 ≤ 99)) ∧ (12 ≤ n)) ∨ (y = n ∧ ¬ (¬ (0 ≤ p0 ∧ p0 ≤ 2) ∨ ¬ (0 ≤ p1 ∧ p1 ≤ 24)) ∧ ¬ (¬ (0 ≤ p2 ∧ p2 ≤ 200) ∨ ¬ (0 ≤ p3 ∧ p3 ≤ 99) ∨ ¬ (0 ≤ p4 ∧ p4 ≤ 99)) ∧ ¬ (12 ≤ n))) ∧ IF (MC 6 7 25) σ σ' ∧ (((y < 0 → σ' 1 0 0 6 = n) ∧ (0 ≤ y → σ' 1 0 0 6 = n + 1)) ∧ True)) := by
  refine G_ct (J := (fun σ' => IF (MC 6 7 25) σ σ' ∧ σ' 1 0 0 6 = n ∧ True)) (L := [(0, av 0 0 0), (1, iv p0), (2, iv p1), (3, iv p2), (4, iv p3), (5, iv p4)]) (nL := 7) rfl rfl rfl ⟨IF.rf hI, s1, trivial⟩ ?_
  refine T_ld zk_98_0 rfl rfl rfl (pc' := 1) rfl ?_
  refine T_op zk_98_1 rfl X_ic (pc' := 2) rfl ?_
  refine T_op zk_98_2 rfl X_ic (pc' := 3) rfl ?_
  refine T_calli (K := fun y1 σ' => ((y1 = 0 ∧ (p0 < 0 ∨ 2 < p0)) ∨ (y1 = 1 ∧ 0 ≤ p0 ∧ p0 ≤ 2)) ∧ (fun σ' => IF (MC 6 7 25) σ σ' ∧ σ' 1 0 0 6 = n ∧ True) σ') (r := []) zk_98_3 rfl rfl rfl rfl rfl rfl (Or.inl (Or.inl rfl)) (fun σ' h => (w_114 p0 0 2 (by omega) (by omega) (by omega) σ' h.1.1 ).le (Nat.le_of_ble_eq_true rfl) (fun v σ2 ⟨y, h1, h2, h3, h4⟩ => ⟨y, h1, h2, h.1.tr h3 MN_sub, (h3.2 _ _ _ _ (fun q => q)).trans (h.2.1), trivial⟩)) (pc' := 6) rfl (fun y1 => ?_)
  refine G_ex (fun hy1 => ?_)
  refine T_if_eq zk_98_6 (by omega) (pc' := 9) rfl (fun h2 => ?_) (fun h3 => ?_)
  ·
    refine T_ld zk_98_16 rfl rfl rfl (pc' := 17) rfl ?_
    refine T_op zk_98_17 rfl X_ic (pc' := 18) rfl ?_
    refine T_calli (K := fun y4 σ' => (y4 = (-1)) ∧ (fun σ' => IF (MC 6 7 25) σ σ' ∧ σ' 1 0 0 6 = n ∧ True) σ') (r := []) zk_98_18 rfl rfl rfl rfl rfl rfl (Or.inr ⟨_, _, _, _, rfl, vd_0, rfl⟩) (fun σ' h => (w_113 ((-1)) (by omega) σ' h.1.1 ).le (Nat.le_of_ble_eq_true rfl) (fun v σ2 ⟨y, h1, h2, h3, h4⟩ => ⟨y, h1, h2, h.1.tr h3 sb56_42dc7be, (h3.2 _ _ _ _ (by first | exact nMI rfl | (unfold MI; omega))).trans (h.2.1), trivial⟩)) (pc' := 21) rfl (fun y4 => ?_)
    refine G_ex (fun hy4 => ?_)
    obtain rfl : y4 = (-1) := by omega
    exact T_iret zk_98_21 rfl (fun σ' h => ⟨_, rfl, (by omega), h.1, ⟨(by have e := h.2.1; omega), trivial⟩⟩)
  ·
    refine T_ld zk_98_9 rfl rfl rfl (pc' := 10) rfl ?_
    refine T_calli (K := fun y5 σ' => ((y5 = 0 ∧ (p1 < 0 ∨ 24 < p1)) ∨ (y5 = 1 ∧ 0 ≤ p1 ∧ p1 ≤ 24)) ∧ (fun σ' => IF (MC 6 7 25) σ σ' ∧ σ' 1 0 0 6 = n ∧ True) σ') (r := []) zk_98_10 rfl rfl rfl rfl rfl rfl (Or.inl (Or.inl rfl)) (fun σ' h => (w_115 p1 (by omega) σ' h.1.1 ).le (Nat.le_of_ble_eq_true rfl) (fun v σ2 ⟨y, h1, h2, h3, h4⟩ => ⟨y, h1, h2, h.1.tr h3 MN_sub, (h3.2 _ _ _ _ (fun q => q)).trans (h.2.1), trivial⟩)) (pc' := 13) rfl (fun y5 => ?_)
    refine G_ex (fun hy5 => ?_)
    refine T_if_ne zk_98_13 (by omega) (pc' := 16) rfl (fun h6 => ?_) (fun h7 => ?_)
    ·
      refine T_ld zk_98_22 rfl rfl rfl (pc' := 23) rfl ?_
      refine T_op zk_98_23 rfl X_ic (pc' := 24) rfl ?_
      refine T_op zk_98_24 rfl (X_si (v := 200) (by decide)) (pc' := 27) rfl ?_
      refine T_calli (K := fun y8 σ' => ((y8 = 0 ∧ (p2 < 0 ∨ 200 < p2)) ∨ (y8 = 1 ∧ 0 ≤ p2 ∧ p2 ≤ 200)) ∧ (fun σ' => IF (MC 6 7 25) σ σ' ∧ σ' 1 0 0 6 = n ∧ True) σ') (r := []) zk_98_27 rfl rfl rfl rfl rfl rfl (Or.inl (Or.inl rfl)) (fun σ' h => (w_114 p2 0 200 (by omega) (by omega) (by omega) σ' h.1.1 ).le (Nat.le_of_ble_eq_true rfl) (fun v σ2 ⟨y, h1, h2, h3, h4⟩ => ⟨y, h1, h2, h.1.tr h3 MN_sub, (h3.2 _ _ _ _ (fun q => q)).trans (h.2.1), trivial⟩)) (pc' := 30) rfl (fun y8 => ?_)
      refine G_ex (fun hy8 => ?_)
      refine T_if_eq zk_98_30 (by omega) (pc' := 33) rfl (fun h9 => ?_) (fun h10 => ?_)
      ·
        refine T_ld zk_98_55 rfl rfl rfl (pc' := 56) rfl ?_
        refine T_op zk_98_56 rfl (X_bi (v := -6) (by decide)) (pc' := 58) rfl ?_
        refine T_calli (K := fun y11 σ' => (y11 = (-6)) ∧ (fun σ' => IF (MC 6 7 25) σ σ' ∧ σ' 1 0 0 6 = n ∧ True) σ') (r := []) zk_98_58 rfl rfl rfl rfl rfl rfl (Or.inr ⟨_, _, _, _, rfl, vd_0, rfl⟩) (fun σ' h => (w_113 ((-6)) (by omega) σ' h.1.1 ).le (Nat.le_of_ble_eq_true rfl) (fun v σ2 ⟨y, h1, h2, h3, h4⟩ => ⟨y, h1, h2, h.1.tr h3 sb56_42dc7be, (h3.2 _ _ _ _ (by first | exact nMI rfl | (unfold MI; omega))).trans (h.2.1), trivial⟩)) (pc' := 61) rfl (fun y11 => ?_)
        refine G_ex (fun hy11 => ?_)
        obtain rfl : y11 = (-6) := by omega
        exact T_iret zk_98_61 rfl (fun σ' h => ⟨_, rfl, (by omega), h.1, ⟨(by have e := h.2.1; omega), trivial⟩⟩)
      ·
        refine T_ld zk_98_33 rfl rfl rfl (pc' := 35) rfl ?_
        refine T_op zk_98_35 rfl X_ic (pc' := 36) rfl ?_
        refine T_op zk_98_36 rfl (X_bi (v := 99) (by decide)) (pc' := 38) rfl ?_
        refine T_calli (K := fun y12 σ' => ((y12 = 0 ∧ (p3 < 0 ∨ 99 < p3)) ∨ (y12 = 1 ∧ 0 ≤ p3 ∧ p3 ≤ 99)) ∧ (fun σ' => IF (MC 6 7 25) σ σ' ∧ σ' 1 0 0 6 = n ∧ True) σ') (r := []) zk_98_38 rfl rfl rfl rfl rfl rfl (Or.inl (Or.inl rfl)) (fun σ' h => (w_114 p3 0 99 (by omega) (by omega) (by omega) σ' h.1.1 ).le (Nat.le_of_ble_eq_true rfl) (fun v σ2 ⟨y, h1, h2, h3, h4⟩ => ⟨y, h1, h2, h.1.tr h3 MN_sub, (h3.2 _ _ _ _ (fun q => q)).trans (h.2.1), trivial⟩)) (pc' := 41) rfl (fun y12 => ?_)
        refine G_ex (fun hy12 => ?_)
        refine T_if_eq zk_98_41 (by omega) (pc' := 44) rfl (fun h13 => ?_) (fun h14 => ?_)
        ·
          refine T_ld zk_98_55 rfl rfl rfl (pc' := 56) rfl ?_
          refine T_op zk_98_56 rfl (X_bi (v := -6) (by decide)) (pc' := 58) rfl ?_
          refine T_calli (K := fun y15 σ' => (y15 = (-6)) ∧ (fun σ' => IF (MC 6 7 25) σ σ' ∧ σ' 1 0 0 6 = n ∧ True) σ') (r := []) zk_98_58 rfl rfl rfl rfl rfl rfl (Or.inr ⟨_, _, _, _, rfl, vd_0, rfl⟩) (fun σ' h => (w_113 ((-6)) (by omega) σ' h.1.1 ).le (Nat.le_of_ble_eq_true rfl) (fun v σ2 ⟨y, h1, h2, h3, h4⟩ => ⟨y, h1, h2, h.1.tr h3 sb56_42dc7be, (h3.2 _ _ _ _ (by first | exact nMI rfl | (unfold MI; omega))).trans (h.2.1), trivial⟩)) (pc' := 61) rfl (fun y15 => ?_)
          refine G_ex (fun hy15 => ?_)
          obtain rfl : y15 = (-6) := by omega
          exact T_iret zk_98_61 rfl (fun σ' h => ⟨_, rfl, (by omega), h.1, ⟨(by have e := h.2.1; omega), trivial⟩⟩)
        ·
          refine T_ld zk_98_44 rfl rfl rfl (pc' := 46) rfl ?_
          refine T_op zk_98_46 rfl X_ic (pc' := 47) rfl ?_
          refine T_op zk_98_47 rfl (X_bi (v := 99) (by decide)) (pc' := 49) rfl ?_
          refine T_calli (K := fun y16 σ' => ((y16 = 0 ∧ (p4 < 0 ∨ 99 < p4)) ∨ (y16 = 1 ∧ 0 ≤ p4 ∧ p4 ≤ 99)) ∧ (fun σ' => IF (MC 6 7 25) σ σ' ∧ σ' 1 0 0 6 = n ∧ True) σ') (r := []) zk_98_49 rfl rfl rfl rfl rfl rfl (Or.inl (Or.inl rfl)) (fun σ' h => (w_114 p4 0 99 (by omega) (by omega) (by omega) σ' h.1.1 ).le (Nat.le_of_ble_eq_true rfl) (fun v σ2 ⟨y, h1, h2, h3, h4⟩ => ⟨y, h1, h2, h.1.tr h3 MN_sub, (h3.2 _ _ _ _ (fun q => q)).trans (h.2.1), trivial⟩)) (pc' := 52) rfl (fun y16 => ?_)
          refine G_ex (fun hy16 => ?_)
          refine T_if_ne zk_98_52 (by omega) (pc' := 55) rfl (fun h17 => ?_) (fun h18 => ?_)
          ·
            refine T_ld zk_98_62 rfl rfl rfl (pc' := 63) rfl ?_
            refine T_getR (t' := 1) (i' := 0) (k' := 0) zk_98_63 rfl rfl rfl vd_0 (pc' := 66) rfl ?_
            refine G_getX (w := n) zk_98_66 rfl (vd_1 (by omega)) (fun σ' h => h.2.1) (pc' := 69) rfl ?_
            refine T_op zk_98_69 rfl (X_bi (v := 12) (by decide)) (pc' := 71) rfl ?_
            refine T_icmp_lt zk_98_71 (by omega) (by omega) (pc' := 74) rfl (fun h19 => ?_) (fun h20 => ?_)
            ·
              refine T_ld zk_98_81 rfl rfl rfl (pc' := 82) rfl ?_
              refine T_getR (t' := 1) (i' := 0) (k' := 0) zk_98_82 rfl rfl rfl vd_0 (pc' := 85) rfl ?_
              refine T_getR (t' := 15) (i' := 0) (k' := 0) zk_98_85 rfl rfl rfl (vd_1 (by omega)) (pc' := 88) rfl ?_
              refine T_ld zk_98_88 rfl rfl rfl (pc' := 89) rfl ?_
              refine T_getR (t' := 1) (i' := 0) (k' := 0) zk_98_89 rfl rfl rfl vd_0 (pc' := 92) rfl ?_
              refine G_getX (w := n) zk_98_92 rfl (vd_1 (by omega)) (fun σ' h => h.2.1) (pc' := 95) rfl ?_
              refine G_aald (t' := 25) (im := 9) (i' := 0) (ln := 12) zk_98_95 rfl rfl rfl (vd_15 (by omega)) (by omega) (by omega) (by omega) (pc' := 96) rfl ?_
              refine T_st (L' := [(0, av 0 0 0), (1, iv p0), (2, iv p1), (3, iv p2), (4, iv p3), (5, iv p4), (6, av 25 0 (Int.toNat n))]) zk_98_96 (nL := 7) rfl rfl rfl rfl rfl (pc' := 98) rfl ?_
              refine T_ld zk_98_98 rfl rfl rfl (pc' := 100) rfl ?_
              refine T_ld zk_98_100 rfl rfl rfl (pc' := 101) rfl ?_
              refine T_ld zk_98_101 rfl rfl rfl (pc' := 102) rfl ?_
              refine T_ld zk_98_102 rfl rfl rfl (pc' := 103) rfl ?_
              refine T_ld zk_98_103 rfl rfl rfl (pc' := 105) rfl ?_
              refine T_ld zk_98_105 rfl rfl rfl (pc' := 107) rfl ?_
              refine T_callv (J' := (fun σ' => IF (MC 6 7 25) σ σ' ∧ σ' 1 0 0 6 = n ∧ True)) (r := []) zk_98_107 rfl rfl rfl rfl rfl rfl (Or.inr ⟨_, _, _, _, rfl, (vd_25 (by omega) (by omega)), rfl⟩) (fun σ' h => (w_24 0 (Int.toNat n) p0 p1 p2 p3 p4 (by omega) (by omega) (by omega) (by omega) (by omega) (by omega) (by omega) σ' h.1.1 ).le (Nat.le_of_ble_eq_true rfl) (fun v σ2 ⟨h1, h3, h4⟩ => ⟨h1, h.1.tr h3 sb56_cf6fa6c, (h3.2 _ _ _ _ (by first | exact nMI rfl | (unfold MI; omega))).trans (h.2.1), trivial⟩)) (pc' := 110) rfl ?_
              refine T_ld zk_98_110 rfl rfl rfl (pc' := 111) rfl ?_
              refine T_getR (t' := 1) (i' := 0) (k' := 0) zk_98_111 rfl rfl rfl vd_0 (pc' := 114) rfl ?_
              refine T_op (st' := [av 1 0 0, av 1 0 0]) zk_98_114 rfl rfl (pc' := 115) rfl ?_
              refine G_getX (w := n) zk_98_115 rfl (vd_1 (by omega)) (fun σ' h => h.2.1) (pc' := 118) rfl ?_
              refine T_op zk_98_118 rfl X_ic (pc' := 119) rfl ?_
              refine T_op zk_98_119 rfl X_add (pc' := 120) rfl ?_
              refine T_putf (J' := (fun σ' => IF (MC 6 7 25) σ σ' ∧ σ' 1 0 0 6 = n + 1 ∧ True)) zk_98_120 rfl rfl (vd_1 (by omega)) (fun σ' h => ⟨h.1.up (by simp only [rgP] <;> omega) (by first | exact pMC rfl | (unfold MC; omega)), up_eq, trivial⟩) (pc' := 123) rfl ?_
              refine T_ld zk_98_123 rfl rfl rfl (pc' := 124) rfl ?_
              refine T_getR (t' := 1) (i' := 0) (k' := 0) zk_98_124 rfl rfl rfl vd_0 (pc' := 127) rfl ?_
              refine G_getX (w := n + 1) zk_98_127 rfl (vd_1 (by omega)) (fun σ' h => h.2.1) (pc' := 130) rfl ?_
              refine T_op zk_98_130 rfl X_ic (pc' := 131) rfl ?_
              refine T_op zk_98_131 rfl X_sub (pc' := 132) rfl ?_
              exact T_iret zk_98_132 rfl (fun σ' h => ⟨_, rfl, (by omega), h.1, ⟨(by have e := h.2.1; omega), trivial⟩⟩)
            ·
              refine T_ld zk_98_74 rfl rfl rfl (pc' := 75) rfl ?_
              refine T_op zk_98_75 rfl (X_bi (v := -7) (by decide)) (pc' := 77) rfl ?_
              refine T_calli (K := fun y22 σ' => (y22 = (-7)) ∧ (fun σ' => IF (MC 6 7 25) σ σ' ∧ σ' 1 0 0 6 = n ∧ True) σ') (r := []) zk_98_77 rfl rfl rfl rfl rfl rfl (Or.inr ⟨_, _, _, _, rfl, vd_0, rfl⟩) (fun σ' h => (w_113 ((-7)) (by omega) σ' h.1.1 ).le (Nat.le_of_ble_eq_true rfl) (fun v σ2 ⟨y, h1, h2, h3, h4⟩ => ⟨y, h1, h2, h.1.tr h3 sb56_42dc7be, (h3.2 _ _ _ _ (by first | exact nMI rfl | (unfold MI; omega))).trans (h.2.1), trivial⟩)) (pc' := 80) rfl (fun y22 => ?_)
              refine G_ex (fun hy22 => ?_)
              obtain rfl : y22 = (-7) := by omega
              exact T_iret zk_98_80 rfl (fun σ' h => ⟨_, rfl, (by omega), h.1, ⟨(by have e := h.2.1; omega), trivial⟩⟩)
          ·
            refine T_ld zk_98_55 rfl rfl rfl (pc' := 56) rfl ?_
            refine T_op zk_98_56 rfl (X_bi (v := -6) (by decide)) (pc' := 58) rfl ?_
            refine T_calli (K := fun y23 σ' => (y23 = (-6)) ∧ (fun σ' => IF (MC 6 7 25) σ σ' ∧ σ' 1 0 0 6 = n ∧ True) σ') (r := []) zk_98_58 rfl rfl rfl rfl rfl rfl (Or.inr ⟨_, _, _, _, rfl, vd_0, rfl⟩) (fun σ' h => (w_113 ((-6)) (by omega) σ' h.1.1 ).le (Nat.le_of_ble_eq_true rfl) (fun v σ2 ⟨y, h1, h2, h3, h4⟩ => ⟨y, h1, h2, h.1.tr h3 sb56_42dc7be, (h3.2 _ _ _ _ (by first | exact nMI rfl | (unfold MI; omega))).trans (h.2.1), trivial⟩)) (pc' := 61) rfl (fun y23 => ?_)
            refine G_ex (fun hy23 => ?_)
            obtain rfl : y23 = (-6) := by omega
            exact T_iret zk_98_61 rfl (fun σ' h => ⟨_, rfl, (by omega), h.1, ⟨(by have e := h.2.1; omega), trivial⟩⟩)
    ·
      refine T_ld zk_98_16 rfl rfl rfl (pc' := 17) rfl ?_
      refine T_op zk_98_17 rfl X_ic (pc' := 18) rfl ?_
      refine T_calli (K := fun y24 σ' => (y24 = (-1)) ∧ (fun σ' => IF (MC 6 7 25) σ σ' ∧ σ' 1 0 0 6 = n ∧ True) σ') (r := []) zk_98_18 rfl rfl rfl rfl rfl rfl (Or.inr ⟨_, _, _, _, rfl, vd_0, rfl⟩) (fun σ' h => (w_113 ((-1)) (by omega) σ' h.1.1 ).le (Nat.le_of_ble_eq_true rfl) (fun v σ2 ⟨y, h1, h2, h3, h4⟩ => ⟨y, h1, h2, h.1.tr h3 sb56_42dc7be, (h3.2 _ _ _ _ (by first | exact nMI rfl | (unfold MI; omega))).trans (h.2.1), trivial⟩)) (pc' := 21) rfl (fun y24 => ?_)
      refine G_ex (fun hy24 => ?_)
      obtain rfl : y24 = (-1) := by omega
      exact T_iret zk_98_21 rfl (fun σ' h => ⟨_, rfl, (by omega), h.1, ⟨(by have e := h.2.1; omega), trivial⟩⟩)
