def MBt (a : Nat) (t i k j : Nat) : Prop := ((t = 37 ∨ t = 40) ∧ j = a) ∨ t = 49
theorem nMBt {a t i k j : Nat} (hb : decide ((((t = 37 ∨ t = 40) ∧ j = a) ∨ t = 49)) = false) : ¬ MBt a t i k j := fun h => of_decide_eq_false hb (by unfold MBt at h; omega)
theorem pMBt {a t i k j : Nat} (hb : decide ((((t = 37 ∨ t = 40) ∧ j = a) ∨ t = 49)) = true) : MBt a t i k j := by
  have h := of_decide_eq_true hb
  unfold MBt
  omega
/-- WModel.wants -/
theorem r_143 {xs : Nat × (Nat → Int32)} (p0 : Int) (u0 : Int) (hp0 : 0 ≤ p0 ∧ p0 ≤ 7) (hu0 : 0 ≤ u0 ∧ u0 ≤ 2) (σ : ZS) (hI : Inv σ)  (s0 : σ 37 0 0 (Int.toNat p0) = u0) : CT xs 2 143 [av 35 0 0, iv p0] σ (fun v σ' => ∃ y, v = some (iv y) ∧ ((y = -2 ∧ (u0 = 2)) ∨ (y = -3 ∧ ¬ (u0 = 2) ∧ (u0 = 0)) ∨ (y = 0 ∧ ¬ (u0 = 2) ∧ ¬ (u0 = 0))) ∧ IF MN σ σ' ∧ (True)) := by
  refine G_ct (J := (fun σ' => IF MN σ σ' ∧ True)) (L := [(0, av 35 0 0), (1, iv p0)]) (nL := 2) rfl rfl rfl ⟨IF.rf hI, trivial⟩ ?_
  refine T_ld zk_143_0 rfl rfl rfl (pc' := 1) rfl ?_
  refine T_calli (K := fun y1 σ' => ((y1 = 0 ∧ (p0 < 0 ∨ 7 < p0)) ∨ (y1 = 1 ∧ 0 ≤ p0 ∧ p0 ≤ 7)) ∧ (fun σ' => IF MN σ σ' ∧ True) σ') (r := []) zk_143_1 rfl rfl rfl rfl rfl rfl (Or.inl (Or.inl rfl)) (fun σ' h => (m_125 p0 (by omega) σ' h.1.1 ).le (Nat.le_of_ble_eq_true rfl) (fun v σ2 ⟨y, h1, h2, h3, h4⟩ => ⟨y, h1, h2, h.1.tr h3 MN_sub, trivial⟩)) (pc' := 4) rfl (fun y1 => ?_)
  refine G_ex (fun hy1 => ?_)
  refine T_if_ne zk_143_4 (by omega) (pc' := 7) rfl (fun h2 => ?_) (fun h3 => ?_)
  ·
    refine T_ld zk_143_11 rfl rfl rfl (pc' := 12) rfl ?_
    refine T_getR (t' := 37) (i' := 0) (k' := 0) zk_143_12 rfl rfl rfl vd_35 (pc' := 15) rfl ?_
    refine T_ld zk_143_15 rfl rfl rfl (pc' := 16) rfl ?_
    refine G_ialdX (w := u0) (ln := 8) zk_143_16 rfl rfl vd_37 (by omega) (by omega) (by omega) (fun σ' h => (h.1.2 _ _ _ _ (fun q => q)).trans s0) (pc' := 17) rfl ?_
    refine T_op zk_143_17 rfl X_ic (pc' := 18) rfl ?_
    refine T_icmp_ne zk_143_18 (by omega) (by omega) (pc' := 21) rfl (fun h4 => ?_) (fun h5 => ?_)
    ·
      refine T_ld zk_143_26 rfl rfl rfl (pc' := 27) rfl ?_
      refine T_getR (t' := 37) (i' := 0) (k' := 0) zk_143_27 rfl rfl rfl vd_35 (pc' := 30) rfl ?_
      refine T_ld zk_143_30 rfl rfl rfl (pc' := 31) rfl ?_
      refine G_ialdX (w := u0) (ln := 8) zk_143_31 rfl rfl vd_37 (by omega) (by omega) (by omega) (fun σ' h => (h.1.2 _ _ _ _ (fun q => q)).trans s0) (pc' := 32) rfl ?_
      refine T_if_ne zk_143_32 (by omega) (pc' := 35) rfl (fun h6 => ?_) (fun h7 => ?_)
      ·
        refine T_op zk_143_40 rfl X_ic (pc' := 41) rfl ?_
        exact T_iret zk_143_41 rfl (fun σ' h => ⟨_, rfl, (by omega), h.1, trivial⟩)
      ·
        refine T_op zk_143_35 rfl (X_bi (v := -3) (by decide)) (pc' := 37) rfl ?_
        refine T_goto zk_143_37 ?_
        exact T_iret zk_143_41 rfl (fun σ' h => ⟨_, rfl, (by omega), h.1, trivial⟩)
    ·
      refine T_op zk_143_21 rfl (X_bi (v := -2) (by decide)) (pc' := 23) rfl ?_
      refine T_goto zk_143_23 ?_
      exact T_iret zk_143_41 rfl (fun σ' h => ⟨_, rfl, (by omega), h.1, trivial⟩)
  ·
    refine T_op zk_143_7 rfl X_ic (pc' := 8) rfl ?_
    refine T_goto zk_143_8 ?_
    exact T_iret zk_143_41 rfl (fun σ' h => ⟨_, rfl, (by omega), h.1, trivial⟩)
theorem sb76_7633768 (v0 : Nat) : ∀ t i k j, MT 49 49 49 49 t i k j → MBt v0 t i k j := by
  intro t i k j h
  unfold MT at h
  unfold MBt
  omega
/-- WModel.show -/
theorem r_140 {xs : Nat × (Nat → Int32)} (p0 : Int) (p1 : Int) (n : Int) (u0 : Int) (u3 : Int) (hp0 : 0 ≤ p0 ∧ p0 ≤ 7) (hp1 : -2147483648 ≤ p1 ∧ p1 ≤ 2147483647) (hn : 0 ≤ n ∧ n ≤ 12) (hu0 : 0 ≤ u0 ∧ u0 ≤ 2) (hu3 : -1 ≤ u3 ∧ u3 ≤ 11) (σ : ZS) (hI : Inv σ)  (q0 : σ 36 0 0 641 = n) (s0 : σ 37 0 0 (Int.toNat p0) = u0) (s3 : σ 40 0 0 (Int.toNat p0) = u3) : CT xs 2 140 [av 35 0 0, iv p0, iv p1] σ (fun v σ' => ∃ y, v = some (iv y) ∧ ((y = -1 ∧ (¬ (p1 = -1 ∨ (0 ≤ p1 ∧ p1 < n)))) ∨ (y = 0 ∧ ¬ (¬ (p1 = -1 ∨ (0 ≤ p1 ∧ p1 < n))) ∧ (p1 = -1)) ∨ (y = 1 ∧ ¬ (¬ (p1 = -1 ∨ (0 ≤ p1 ∧ p1 < n))) ∧ ¬ (p1 = -1))) ∧ IF (MBt (Int.toNat p0)) σ σ' ∧ (((y = 1 → σ' 37 0 0 (Int.toNat p0) = 2) ∧ (y = 0 → σ' 37 0 0 (Int.toNat p0) = 0) ∧ (y < 0 → σ' 37 0 0 (Int.toNat p0) = u0)) ∧ ((y = 1 → σ' 40 0 0 (Int.toNat p0) = p1) ∧ (y < 0 → σ' 40 0 0 (Int.toNat p0) = u3)) ∧ True)) := by
  refine G_ct (J := (fun σ' => IF (MBt (Int.toNat p0)) σ σ' ∧ σ' 37 0 0 (Int.toNat p0) = u0 ∧ σ' 40 0 0 (Int.toNat p0) = u3 ∧ True)) (L := [(0, av 35 0 0), (1, iv p0), (2, iv p1)]) (nL := 3) rfl rfl rfl ⟨IF.rf hI, s0, s3, trivial⟩ ?_
  refine T_ld zk_140_0 rfl rfl rfl (pc' := 1) rfl ?_
  refine T_calli (K := fun y1 σ' => ((y1 = 0 ∧ (p0 < 0 ∨ 7 < p0)) ∨ (y1 = 1 ∧ 0 ≤ p0 ∧ p0 ≤ 7)) ∧ (fun σ' => IF (MBt (Int.toNat p0)) σ σ' ∧ σ' 37 0 0 (Int.toNat p0) = u0 ∧ σ' 40 0 0 (Int.toNat p0) = u3 ∧ True) σ') (r := []) zk_140_1 rfl rfl rfl rfl rfl rfl (Or.inl (Or.inl rfl)) (fun σ' h => (m_125 p0 (by omega) σ' h.1.1 ).le (Nat.le_of_ble_eq_true rfl) (fun v σ2 ⟨y, h1, h2, h3, h4⟩ => ⟨y, h1, h2, h.1.tr h3 MN_sub, (h3.2 _ _ _ _ (fun q => q)).trans (h.2.1), (h3.2 _ _ _ _ (fun q => q)).trans (h.2.2.1), trivial⟩)) (pc' := 4) rfl (fun y1 => ?_)
  refine G_ex (fun hy1 => ?_)
  refine T_if_eq zk_140_4 (by omega) (pc' := 7) rfl (fun h2 => ?_) (fun h3 => ?_)
  ·
    refine T_ld zk_140_20 rfl rfl rfl (pc' := 21) rfl ?_
    refine T_op zk_140_21 rfl X_ic (pc' := 22) rfl ?_
    refine T_calli (K := fun y4 σ' => (y4 = (-1)) ∧ (fun σ' => IF (MBt (Int.toNat p0)) σ σ' ∧ σ' 37 0 0 (Int.toNat p0) = u0 ∧ σ' 40 0 0 (Int.toNat p0) = u3 ∧ True) σ') (r := []) zk_140_22 rfl rfl rfl rfl rfl rfl (Or.inr ⟨_, _, _, _, rfl, vd_35, rfl⟩) (fun σ' h => (m_123 ((-1)) (by omega) σ' h.1.1 ).le (Nat.le_of_ble_eq_true rfl) (fun v σ2 ⟨y, h1, h2, h3, h4⟩ => ⟨y, h1, h2, h.1.tr h3 (sb76_7633768 (Int.toNat p0)), (h3.2 _ _ _ _ (by first | exact nMT rfl | (unfold MT; omega))).trans (h.2.1), (h3.2 _ _ _ _ (by first | exact nMT rfl | (unfold MT; omega))).trans (h.2.2.1), trivial⟩)) (pc' := 25) rfl (fun y4 => ?_)
    refine G_ex (fun hy4 => ?_)
    obtain rfl : y4 = (-1) := by omega
    exact T_iret zk_140_25 rfl (fun σ' h => ⟨_, rfl, (by omega), h.1, ⟨(by have e := h.2.1; omega), (by have e := h.2.2.1; omega), trivial⟩⟩)
  ·
    refine T_ld zk_140_7 rfl rfl rfl (pc' := 8) rfl ?_
    refine T_op zk_140_8 rfl X_ic (pc' := 9) rfl ?_
    refine T_icmp_eq zk_140_9 (by omega) (by omega) (pc' := 12) rfl (fun h5 => ?_) (fun h6 => ?_)
    ·
      refine T_ld zk_140_26 rfl rfl rfl (pc' := 27) rfl ?_
      refine T_getR (t' := 37) (i' := 0) (k' := 0) zk_140_27 rfl rfl rfl vd_35 (pc' := 30) rfl ?_
      refine T_ld zk_140_30 rfl rfl rfl (pc' := 31) rfl ?_
      refine T_ld zk_140_31 rfl rfl rfl (pc' := 32) rfl ?_
      refine T_op zk_140_32 rfl X_ic (pc' := 33) rfl ?_
      refine T_icmp_ne zk_140_33 (by omega) (by omega) (pc' := 36) rfl (fun h7 => ?_) (fun h8 => ?_)
      · exfalso; omega
      ·
        refine T_op zk_140_36 rfl X_ic (pc' := 37) rfl ?_
        refine T_goto zk_140_37 ?_
        refine G_iast (J' := (fun σ' => IF (MBt (Int.toNat p0)) σ σ' ∧ σ' 40 0 0 (Int.toNat p0) = u3 ∧ σ' 37 0 0 (Int.toNat p0) = 0 ∧ True)) (ln := 8) zk_140_41 rfl rfl vd_37 (by omega) (by omega) (by omega) (fun σ' h => ⟨h.1.up (by simp only [rgP] <;> omega) (by first | exact pMBt rfl | (unfold MBt; omega)), (up_ne (by omega)).trans (h.2.2.1), up_eq, trivial⟩) (pc' := 42) rfl ?_
        refine T_ld zk_140_42 rfl rfl rfl (pc' := 43) rfl ?_
        refine T_getR (t' := 40) (i' := 0) (k' := 0) zk_140_43 rfl rfl rfl vd_35 (pc' := 46) rfl ?_
        refine T_ld zk_140_46 rfl rfl rfl (pc' := 47) rfl ?_
        refine T_ld zk_140_47 rfl rfl rfl (pc' := 48) rfl ?_
        refine G_iast (J' := (fun σ' => IF (MBt (Int.toNat p0)) σ σ' ∧ σ' 37 0 0 (Int.toNat p0) = 0 ∧ σ' 40 0 0 (Int.toNat p0) = p1 ∧ True)) (ln := 8) zk_140_48 rfl rfl vd_40 (by omega) (by omega) (by omega) (fun σ' h => ⟨h.1.up (by simp only [rgP] <;> omega) (by first | exact pMBt rfl | (unfold MBt; omega)), (up_ne (by omega)).trans (h.2.2.1), up_eq, trivial⟩) (pc' := 49) rfl ?_
        refine T_ld zk_140_49 rfl rfl rfl (pc' := 50) rfl ?_
        refine T_op zk_140_50 rfl X_ic (pc' := 51) rfl ?_
        refine T_icmp_ne zk_140_51 (by omega) (by omega) (pc' := 54) rfl (fun h9 => ?_) (fun h10 => ?_)
        · exfalso; omega
        ·
          refine T_op zk_140_54 rfl X_ic (pc' := 55) rfl ?_
          refine T_goto zk_140_55 ?_
          exact T_iret zk_140_59 rfl (fun σ' h => ⟨_, rfl, (by omega), h.1, ⟨(by have e := h.2.1; omega), (by have e := h.2.2.1; omega), trivial⟩⟩)
    ·
      refine T_ld zk_140_12 rfl rfl rfl (pc' := 13) rfl ?_
      refine T_ld zk_140_13 rfl rfl rfl (pc' := 14) rfl ?_
      refine T_calli (K := fun y11 σ' => ((y11 = 0 ∧ (p1 < 0 ∨ n ≤ p1)) ∨ (y11 = 1 ∧ 0 ≤ p1 ∧ p1 < n)) ∧ (fun σ' => IF (MBt (Int.toNat p0)) σ σ' ∧ σ' 37 0 0 (Int.toNat p0) = u0 ∧ σ' 40 0 0 (Int.toNat p0) = u3 ∧ True) σ') (r := []) zk_140_14 rfl rfl rfl rfl rfl rfl (Or.inr ⟨_, _, _, _, rfl, vd_35, rfl⟩) (fun σ' h => (m_139 p1 n (by omega) (by omega) σ' h.1.1 ((h.1.2 _ _ _ _ (by first | exact nMBt rfl | (unfold MBt; omega))).trans q0)).le (Nat.le_of_ble_eq_true rfl) (fun v σ2 ⟨y, h1, h2, h3, h4⟩ => ⟨y, h1, h2, h.1.tr h3 MN_sub, (h3.2 _ _ _ _ (fun q => q)).trans (h.2.1), (h3.2 _ _ _ _ (fun q => q)).trans (h.2.2.1), trivial⟩)) (pc' := 17) rfl (fun y11 => ?_)
      refine G_ex (fun hy11 => ?_)
      refine T_if_ne zk_140_17 (by omega) (pc' := 20) rfl (fun h12 => ?_) (fun h13 => ?_)
      ·
        refine T_ld zk_140_26 rfl rfl rfl (pc' := 27) rfl ?_
        refine T_getR (t' := 37) (i' := 0) (k' := 0) zk_140_27 rfl rfl rfl vd_35 (pc' := 30) rfl ?_
        refine T_ld zk_140_30 rfl rfl rfl (pc' := 31) rfl ?_
        refine T_ld zk_140_31 rfl rfl rfl (pc' := 32) rfl ?_
        refine T_op zk_140_32 rfl X_ic (pc' := 33) rfl ?_
        refine T_icmp_ne zk_140_33 (by omega) (by omega) (pc' := 36) rfl (fun h14 => ?_) (fun h15 => ?_)
        ·
          refine T_op zk_140_40 rfl X_ic (pc' := 41) rfl ?_
          refine G_iast (J' := (fun σ' => IF (MBt (Int.toNat p0)) σ σ' ∧ σ' 40 0 0 (Int.toNat p0) = u3 ∧ σ' 37 0 0 (Int.toNat p0) = 2 ∧ True)) (ln := 8) zk_140_41 rfl rfl vd_37 (by omega) (by omega) (by omega) (fun σ' h => ⟨h.1.up (by simp only [rgP] <;> omega) (by first | exact pMBt rfl | (unfold MBt; omega)), (up_ne (by omega)).trans (h.2.2.1), up_eq, trivial⟩) (pc' := 42) rfl ?_
          refine T_ld zk_140_42 rfl rfl rfl (pc' := 43) rfl ?_
          refine T_getR (t' := 40) (i' := 0) (k' := 0) zk_140_43 rfl rfl rfl vd_35 (pc' := 46) rfl ?_
          refine T_ld zk_140_46 rfl rfl rfl (pc' := 47) rfl ?_
          refine T_ld zk_140_47 rfl rfl rfl (pc' := 48) rfl ?_
          refine G_iast (J' := (fun σ' => IF (MBt (Int.toNat p0)) σ σ' ∧ σ' 37 0 0 (Int.toNat p0) = 2 ∧ σ' 40 0 0 (Int.toNat p0) = p1 ∧ True)) (ln := 8) zk_140_48 rfl rfl vd_40 (by omega) (by omega) (by omega) (fun σ' h => ⟨h.1.up (by simp only [rgP] <;> omega) (by first | exact pMBt rfl | (unfold MBt; omega)), (up_ne (by omega)).trans (h.2.2.1), up_eq, trivial⟩) (pc' := 49) rfl ?_
          refine T_ld zk_140_49 rfl rfl rfl (pc' := 50) rfl ?_
          refine T_op zk_140_50 rfl X_ic (pc' := 51) rfl ?_
          refine T_icmp_ne zk_140_51 (by omega) (by omega) (pc' := 54) rfl (fun h16 => ?_) (fun h17 => ?_)
          ·
            refine T_op zk_140_58 rfl X_ic (pc' := 59) rfl ?_
            exact T_iret zk_140_59 rfl (fun σ' h => ⟨_, rfl, (by omega), h.1, ⟨(by have e := h.2.1; omega), (by have e := h.2.2.1; omega), trivial⟩⟩)
          · exfalso; omega
        · exfalso; omega
      ·
        refine T_ld zk_140_20 rfl rfl rfl (pc' := 21) rfl ?_
        refine T_op zk_140_21 rfl X_ic (pc' := 22) rfl ?_
        refine T_calli (K := fun y18 σ' => (y18 = (-1)) ∧ (fun σ' => IF (MBt (Int.toNat p0)) σ σ' ∧ σ' 37 0 0 (Int.toNat p0) = u0 ∧ σ' 40 0 0 (Int.toNat p0) = u3 ∧ True) σ') (r := []) zk_140_22 rfl rfl rfl rfl rfl rfl (Or.inr ⟨_, _, _, _, rfl, vd_35, rfl⟩) (fun σ' h => (m_123 ((-1)) (by omega) σ' h.1.1 ).le (Nat.le_of_ble_eq_true rfl) (fun v σ2 ⟨y, h1, h2, h3, h4⟩ => ⟨y, h1, h2, h.1.tr h3 (sb76_7633768 (Int.toNat p0)), (h3.2 _ _ _ _ (by first | exact nMT rfl | (unfold MT; omega))).trans (h.2.1), (h3.2 _ _ _ _ (by first | exact nMT rfl | (unfold MT; omega))).trans (h.2.2.1), trivial⟩)) (pc' := 25) rfl (fun y18 => ?_)
        refine G_ex (fun hy18 => ?_)
        obtain rfl : y18 = (-1) := by omega
        exact T_iret zk_140_25 rfl (fun σ' h => ⟨_, rfl, (by omega), h.1, ⟨(by have e := h.2.1; omega), (by have e := h.2.2.1; omega), trivial⟩⟩)
/-- WModel.show -/
theorem r_140o {xs : Nat × (Nat → Int32)} (p0 : Int) (p1 : Int) (hp0 : -2147483648 ≤ p0 ∧ p0 ≤ 2147483647) (hp1 : -2147483648 ≤ p1 ∧ p1 ≤ 2147483647) (ho : p0 < 0 ∨ 7 < p0) (σ : ZS) (hI : Inv σ)   : CT xs 2 140 [av 35 0 0, iv p0, iv p1] σ (fun v σ' => ∃ y, v = some (iv y) ∧ (y = -1) ∧ IF (MT 49 49 49 49) σ σ' ∧ (True)) := by
  refine G_ct (J := (fun σ' => IF (MT 49 49 49 49) σ σ' ∧ True)) (L := [(0, av 35 0 0), (1, iv p0), (2, iv p1)]) (nL := 3) rfl rfl rfl ⟨IF.rf hI, trivial⟩ ?_
  refine T_ld zk_140_0 rfl rfl rfl (pc' := 1) rfl ?_
  refine T_calli (K := fun y1 σ' => ((y1 = 0 ∧ (p0 < 0 ∨ 7 < p0)) ∨ (y1 = 1 ∧ 0 ≤ p0 ∧ p0 ≤ 7)) ∧ (fun σ' => IF (MT 49 49 49 49) σ σ' ∧ True) σ') (r := []) zk_140_1 rfl rfl rfl rfl rfl rfl (Or.inl (Or.inl rfl)) (fun σ' h => (m_125 p0 (by omega) σ' h.1.1 ).le (Nat.le_of_ble_eq_true rfl) (fun v σ2 ⟨y, h1, h2, h3, h4⟩ => ⟨y, h1, h2, h.1.tr h3 MN_sub, trivial⟩)) (pc' := 4) rfl (fun y1 => ?_)
  refine G_ex (fun hy1 => ?_)
  refine T_if_eq zk_140_4 (by omega) (pc' := 7) rfl (fun h2 => ?_) (fun h3 => ?_)
  ·
    refine T_ld zk_140_20 rfl rfl rfl (pc' := 21) rfl ?_
    refine T_op zk_140_21 rfl X_ic (pc' := 22) rfl ?_
    refine T_calli (K := fun y4 σ' => (y4 = (-1)) ∧ (fun σ' => IF (MT 49 49 49 49) σ σ' ∧ True) σ') (r := []) zk_140_22 rfl rfl rfl rfl rfl rfl (Or.inr ⟨_, _, _, _, rfl, vd_35, rfl⟩) (fun σ' h => (m_123 ((-1)) (by omega) σ' h.1.1 ).le (Nat.le_of_ble_eq_true rfl) (fun v σ2 ⟨y, h1, h2, h3, h4⟩ => ⟨y, h1, h2, h.1.tr h3 (fun _ _ _ _ h => h), trivial⟩)) (pc' := 25) rfl (fun y4 => ?_)
    refine G_ex (fun hy4 => ?_)
    obtain rfl : y4 = (-1) := by omega
    exact T_iret zk_140_25 rfl (fun σ' h => ⟨_, rfl, (by omega), h.1, trivial⟩)
  · exfalso; omega
/-- WModel.set -/
theorem r_136o {xs : Nat × (Nat → Int32)} (p0 : Int) (p1 : Int) (vv : Int) (hp0 : -2147483648 ≤ p0 ∧ p0 ≤ 2147483647) (hp1 : -2147483648 ≤ p1 ∧ p1 ≤ 2147483647) (ho : p0 < 0 ∨ 7 < p0) (σ : ZS) (hI : Inv σ)   : CT xs 2 136 [av 35 0 0, iv p0, iv p1, jv vv] σ (fun v σ' => ∃ y, v = some (iv y) ∧ (y = -1) ∧ IF (MT 49 49 49 49) σ σ' ∧ (True)) := by
  refine G_ct (J := (fun σ' => IF (MT 49 49 49 49) σ σ' ∧ True)) (L := [(0, av 35 0 0), (1, iv p0), (2, iv p1), (3, jv vv)]) (nL := 5) rfl rfl rfl ⟨IF.rf hI, trivial⟩ ?_
  refine T_ld zk_136_0 rfl rfl rfl (pc' := 1) rfl ?_
  refine T_calli (K := fun y1 σ' => ((y1 = 0 ∧ (p0 < 0 ∨ 7 < p0)) ∨ (y1 = 1 ∧ 0 ≤ p0 ∧ p0 ≤ 7)) ∧ (fun σ' => IF (MT 49 49 49 49) σ σ' ∧ True) σ') (r := []) zk_136_1 rfl rfl rfl rfl rfl rfl (Or.inl (Or.inl rfl)) (fun σ' h => (m_125 p0 (by omega) σ' h.1.1 ).le (Nat.le_of_ble_eq_true rfl) (fun v σ2 ⟨y, h1, h2, h3, h4⟩ => ⟨y, h1, h2, h.1.tr h3 MN_sub, trivial⟩)) (pc' := 4) rfl (fun y1 => ?_)
  refine G_ex (fun hy1 => ?_)
  refine T_if_ne zk_136_4 (by omega) (pc' := 7) rfl (fun h2 => ?_) (fun h3 => ?_)
  · exfalso; omega
  ·
    refine T_ld zk_136_7 rfl rfl rfl (pc' := 8) rfl ?_
    refine T_op zk_136_8 rfl X_ic (pc' := 9) rfl ?_
    refine T_calli (K := fun y4 σ' => (y4 = (-1)) ∧ (fun σ' => IF (MT 49 49 49 49) σ σ' ∧ True) σ') (r := []) zk_136_9 rfl rfl rfl rfl rfl rfl (Or.inr ⟨_, _, _, _, rfl, vd_35, rfl⟩) (fun σ' h => (m_123 ((-1)) (by omega) σ' h.1.1 ).le (Nat.le_of_ble_eq_true rfl) (fun v σ2 ⟨y, h1, h2, h3, h4⟩ => ⟨y, h1, h2, h.1.tr h3 (fun _ _ _ _ h => h), trivial⟩)) (pc' := 12) rfl (fun y4 => ?_)
    refine G_ex (fun hy4 => ?_)
    obtain rfl : y4 = (-1) := by omega
    exact T_iret zk_136_12 rfl (fun σ' h => ⟨_, rfl, (by omega), h.1, trivial⟩)
/-- WModel.copy -/
theorem r_137o {xs : Nat × (Nat → Int32)} (p0 : Int) (p1 : Int) (p2 : Int) (p3 : Int) (p4 : Int) (hp0 : -2147483648 ≤ p0 ∧ p0 ≤ 2147483647) (hp1 : -2147483648 ≤ p1 ∧ p1 ≤ 2147483647) (hp2 : -2147483648 ≤ p2 ∧ p2 ≤ 2147483647) (hp3 : -2147483648 ≤ p3 ∧ p3 ≤ 2147483647) (hp4 : -2147483648 ≤ p4 ∧ p4 ≤ 2147483647) (ho : ¬ (0 ≤ p0 ∧ p0 ≤ 7) ∨ ¬ (0 ≤ p1 ∧ p1 ≤ 7)) (σ : ZS) (hI : Inv σ)   : CT xs 2 137 [av 35 0 0, iv p0, iv p1, iv p2, iv p3, iv p4] σ (fun v σ' => ∃ y, v = some (iv y) ∧ (y = -1) ∧ IF (MT 49 49 49 49) σ σ' ∧ (True)) := by
  refine G_ct (J := (fun σ' => IF (MT 49 49 49 49) σ σ' ∧ True)) (L := [(0, av 35 0 0), (1, iv p0), (2, iv p1), (3, iv p2), (4, iv p3), (5, iv p4)]) (nL := 7) rfl rfl rfl ⟨IF.rf hI, trivial⟩ ?_
  refine T_ld zk_137_0 rfl rfl rfl (pc' := 1) rfl ?_
  refine T_calli (K := fun y1 σ' => ((y1 = 0 ∧ (p0 < 0 ∨ 7 < p0)) ∨ (y1 = 1 ∧ 0 ≤ p0 ∧ p0 ≤ 7)) ∧ (fun σ' => IF (MT 49 49 49 49) σ σ' ∧ True) σ') (r := []) zk_137_1 rfl rfl rfl rfl rfl rfl (Or.inl (Or.inl rfl)) (fun σ' h => (m_125 p0 (by omega) σ' h.1.1 ).le (Nat.le_of_ble_eq_true rfl) (fun v σ2 ⟨y, h1, h2, h3, h4⟩ => ⟨y, h1, h2, h.1.tr h3 MN_sub, trivial⟩)) (pc' := 4) rfl (fun y1 => ?_)
  refine G_ex (fun hy1 => ?_)
  refine T_if_eq zk_137_4 (by omega) (pc' := 7) rfl (fun h2 => ?_) (fun h3 => ?_)
  ·
    refine T_ld zk_137_14 rfl rfl rfl (pc' := 15) rfl ?_
    refine T_op zk_137_15 rfl X_ic (pc' := 16) rfl ?_
    refine T_calli (K := fun y4 σ' => (y4 = (-1)) ∧ (fun σ' => IF (MT 49 49 49 49) σ σ' ∧ True) σ') (r := []) zk_137_16 rfl rfl rfl rfl rfl rfl (Or.inr ⟨_, _, _, _, rfl, vd_35, rfl⟩) (fun σ' h => (m_123 ((-1)) (by omega) σ' h.1.1 ).le (Nat.le_of_ble_eq_true rfl) (fun v σ2 ⟨y, h1, h2, h3, h4⟩ => ⟨y, h1, h2, h.1.tr h3 (fun _ _ _ _ h => h), trivial⟩)) (pc' := 19) rfl (fun y4 => ?_)
    refine G_ex (fun hy4 => ?_)
    obtain rfl : y4 = (-1) := by omega
    exact T_iret zk_137_19 rfl (fun σ' h => ⟨_, rfl, (by omega), h.1, trivial⟩)
  ·
    refine T_ld zk_137_7 rfl rfl rfl (pc' := 8) rfl ?_
    refine T_calli (K := fun y5 σ' => ((y5 = 0 ∧ (p1 < 0 ∨ 7 < p1)) ∨ (y5 = 1 ∧ 0 ≤ p1 ∧ p1 ≤ 7)) ∧ (fun σ' => IF (MT 49 49 49 49) σ σ' ∧ True) σ') (r := []) zk_137_8 rfl rfl rfl rfl rfl rfl (Or.inl (Or.inl rfl)) (fun σ' h => (m_125 p1 (by omega) σ' h.1.1 ).le (Nat.le_of_ble_eq_true rfl) (fun v σ2 ⟨y, h1, h2, h3, h4⟩ => ⟨y, h1, h2, h.1.tr h3 MN_sub, trivial⟩)) (pc' := 11) rfl (fun y5 => ?_)
    refine G_ex (fun hy5 => ?_)
    refine T_if_ne zk_137_11 (by omega) (pc' := 14) rfl (fun h6 => ?_) (fun h7 => ?_)
    · exfalso; omega
    ·
      refine T_ld zk_137_14 rfl rfl rfl (pc' := 15) rfl ?_
      refine T_op zk_137_15 rfl X_ic (pc' := 16) rfl ?_
      refine T_calli (K := fun y8 σ' => (y8 = (-1)) ∧ (fun σ' => IF (MT 49 49 49 49) σ σ' ∧ True) σ') (r := []) zk_137_16 rfl rfl rfl rfl rfl rfl (Or.inr ⟨_, _, _, _, rfl, vd_35, rfl⟩) (fun σ' h => (m_123 ((-1)) (by omega) σ' h.1.1 ).le (Nat.le_of_ble_eq_true rfl) (fun v σ2 ⟨y, h1, h2, h3, h4⟩ => ⟨y, h1, h2, h.1.tr h3 (fun _ _ _ _ h => h), trivial⟩)) (pc' := 19) rfl (fun y8 => ?_)
      refine G_ex (fun hy8 => ?_)
      obtain rfl : y8 = (-1) := by omega
      exact T_iret zk_137_19 rfl (fun σ' h => ⟨_, rfl, (by omega), h.1, trivial⟩)
