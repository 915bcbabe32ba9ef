def MX36 (b : Nat) (t i k j : Nat) : Prop := t = 36 ∧ i = 0 ∧ k = 0 ∧ j = b
def MW36 (b : Nat) (t i k j : Nat) : Prop := (t = 36 ∧ i = 0 ∧ k = 0 ∧ j = b) ∨ t = 49
theorem pMW36 {b t i k j : Nat} (hb : decide (t = 49) = true) : MW36 b t i k j := by
  have h := of_decide_eq_true hb
  unfold MW36
  omega
/-- WModel.turns -/
theorem r_129 {xs : Nat × (Nat → Int32)} (p0 : Int) (p1 : Int) (a : Int) (hp0 : 100 ≤ p0 ∧ p0 ≤ 199) (hp1 : 0 ≤ p1 ∧ p1 ≤ 1) (ha : -2147483648 ≤ a ∧ a ≤ 2147483647) (σ : ZS) (hI : Inv σ)  (s1 : σ 36 0 0 (Int.toNat p0) = a) : CT xs 1 129 [av 35 0 0, iv p0, iv p1] σ (fun v σ' => ∃ y, v = some (iv y) ∧ ((y = 0 ∧ (a = p1)) ∨ (y = 1 ∧ ¬ (a = p1))) ∧ IF (MX36 (Int.toNat p0)) σ σ' ∧ (σ' 36 0 0 (Int.toNat p0) = p1 ∧ True)) := by
  refine G_ct (J := (fun σ' => IF (MX36 (Int.toNat p0)) σ σ' ∧ σ' 36 0 0 (Int.toNat p0) = a ∧ True)) (L := [(0, av 35 0 0), (1, iv p0), (2, iv p1)]) (nL := 4) rfl rfl rfl ⟨IF.rf hI, s1, trivial⟩ ?_
  refine T_ld zk_129_0 rfl rfl rfl (pc' := 1) rfl ?_
  refine T_if_eq zk_129_1 (by omega) (pc' := 4) rfl (fun h1 => ?_) (fun h2 => ?_)
  ·
    refine T_op zk_129_8 rfl X_ic (pc' := 9) rfl ?_
    refine T_st (L' := [(0, av 35 0 0), (1, iv p0), (2, iv p1), (3, iv 0)]) zk_129_9 (nL := 4) rfl rfl rfl rfl rfl (pc' := 10) rfl ?_
    refine T_ld zk_129_10 rfl rfl rfl (pc' := 11) rfl ?_
    refine T_getR (t' := 36) (i' := 0) (k' := 0) zk_129_11 rfl rfl rfl vd_35 (pc' := 14) rfl ?_
    refine T_ld zk_129_14 rfl rfl rfl (pc' := 15) rfl ?_
    refine G_ialdX (w := a) (ln := 646) zk_129_15 rfl rfl (vd_36 (by omega)) (by omega) (by omega) (by omega) (fun σ' h => h.2.1) (pc' := 16) rfl ?_
    refine T_ld zk_129_16 rfl rfl rfl (pc' := 17) rfl ?_
    refine T_icmp_ne zk_129_17 (by omega) (by omega) (pc' := 20) rfl (fun h3 => ?_) (fun h4 => ?_)
    ·
      refine T_ld zk_129_22 rfl rfl rfl (pc' := 23) rfl ?_
      refine T_getR (t' := 36) (i' := 0) (k' := 0) zk_129_23 rfl rfl rfl vd_35 (pc' := 26) rfl ?_
      refine T_ld zk_129_26 rfl rfl rfl (pc' := 27) rfl ?_
      refine T_ld zk_129_27 rfl rfl rfl (pc' := 28) rfl ?_
      refine G_iast (J' := (fun σ' => IF (MX36 (Int.toNat p0)) σ σ' ∧ σ' 36 0 0 (Int.toNat p0) = 0 ∧ True)) (ln := 646) zk_129_28 rfl rfl (vd_36 (by omega)) (by omega) (by omega) (by omega) (fun σ' h => ⟨h.1.up (by simp only [rgP] <;> omega) (by unfold MX36; omega), up_eq, trivial⟩) (pc' := 29) rfl ?_
      refine T_op zk_129_29 rfl X_ic (pc' := 30) rfl ?_
      exact T_iret zk_129_30 rfl (fun σ' h => ⟨_, rfl, (by omega), h.1, ⟨(h.2.1).trans (by omega), trivial⟩⟩)
    ·
      refine T_op zk_129_20 rfl X_ic (pc' := 21) rfl ?_
      exact T_iret zk_129_21 rfl (fun σ' h => ⟨_, rfl, (by omega), h.1, ⟨(h.2.1).trans (by omega), trivial⟩⟩)
  ·
    refine T_op zk_129_4 rfl X_ic (pc' := 5) rfl ?_
    refine T_goto zk_129_5 ?_
    refine T_st (L' := [(0, av 35 0 0), (1, iv p0), (2, iv p1), (3, iv 1)]) zk_129_9 (nL := 4) rfl rfl rfl rfl rfl (pc' := 10) rfl ?_
    refine T_ld zk_129_10 rfl rfl rfl (pc' := 11) rfl ?_
    refine T_getR (t' := 36) (i' := 0) (k' := 0) zk_129_11 rfl rfl rfl vd_35 (pc' := 14) rfl ?_
    refine T_ld zk_129_14 rfl rfl rfl (pc' := 15) rfl ?_
    refine G_ialdX (w := a) (ln := 646) zk_129_15 rfl rfl (vd_36 (by omega)) (by omega) (by omega) (by omega) (fun σ' h => h.2.1) (pc' := 16) rfl ?_
    refine T_ld zk_129_16 rfl rfl rfl (pc' := 17) rfl ?_
    refine T_icmp_ne zk_129_17 (by omega) (by omega) (pc' := 20) rfl (fun h5 => ?_) (fun h6 => ?_)
    ·
      refine T_ld zk_129_22 rfl rfl rfl (pc' := 23) rfl ?_
      refine T_getR (t' := 36) (i' := 0) (k' := 0) zk_129_23 rfl rfl rfl vd_35 (pc' := 26) rfl ?_
      refine T_ld zk_129_26 rfl rfl rfl (pc' := 27) rfl ?_
      refine T_ld zk_129_27 rfl rfl rfl (pc' := 28) rfl ?_
      refine G_iast (J' := (fun σ' => IF (MX36 (Int.toNat p0)) σ σ' ∧ σ' 36 0 0 (Int.toNat p0) = 1 ∧ True)) (ln := 646) zk_129_28 rfl rfl (vd_36 (by omega)) (by omega) (by omega) (by omega) (fun σ' h => ⟨h.1.up (by simp only [rgP] <;> omega) (by unfold MX36; omega), up_eq, trivial⟩) (pc' := 29) rfl ?_
      refine T_op zk_129_29 rfl X_ic (pc' := 30) rfl ?_
      exact T_iret zk_129_30 rfl (fun σ' h => ⟨_, rfl, (by omega), h.1, ⟨(h.2.1).trans (by omega), trivial⟩⟩)
    ·
      refine T_op zk_129_20 rfl X_ic (pc' := 21) rfl ?_
      exact T_iret zk_129_21 rfl (fun σ' h => ⟨_, rfl, (by omega), h.1, ⟨(h.2.1).trans (by omega), trivial⟩⟩)
theorem sb76_078072e (v0 : Nat) : ∀ t i k j, MX36 v0 t i k j → MW36 v0 t i k j := by
  intro t i k j h
  unfold MX36 at h
  unfold MW36
  omega
theorem sb76_924f093 (v0 : Nat) : ∀ t i k j, MT 49 49 49 49 t i k j → MW36 v0 t i k j := by
  intro t i k j h
  unfold MT at h
  unfold MW36
  omega
/-- WModel.close -/
theorem r_130 {xs : Nat × (Nat → Int32)} (p0 : Int) (p1 : Int) (p2 : Int) (a : Int) (hp0 : -2147483648 ≤ p0 ∧ p0 ≤ 2147483647) (hp1 : -2147483648 ≤ p1 ∧ p1 ≤ 2147483647) (hp2 : 0 ≤ p2 ∧ p2 ≤ 1) (ha : -2147483648 ≤ a ∧ a ≤ 2147483647) (σ : ZS) (hI : Inv σ)  (s1 : σ 36 0 0 (Int.toNat (100 + wM p0 p1)) = a) : CT xs 3 130 [av 35 0 0, iv p0, iv p1, iv p2] σ (fun v σ' => ∃ y, v = some (iv y) ∧ ((y = -1 ∧ (¬ 0 ≤ wM p0 p1)) ∨ (y = 0 ∧ ¬ (¬ 0 ≤ wM p0 p1) ∧ (a = p2)) ∨ (y = 1 ∧ ¬ (¬ 0 ≤ wM p0 p1) ∧ ¬ (a = p2))) ∧ IF (MW36 (Int.toNat (100 + wM p0 p1))) σ σ' ∧ (((0 ≤ wM p0 p1 → σ' 36 0 0 (Int.toNat (100 + wM p0 p1)) = p2) ∧ (¬ 0 ≤ wM p0 p1 → σ' 36 0 0 (Int.toNat (100 + wM p0 p1)) = a)) ∧ True)) := by
  refine G_ct (J := (fun σ' => IF (MW36 (Int.toNat (100 + wM p0 p1))) σ σ' ∧ σ' 36 0 0 (Int.toNat (100 + wM p0 p1)) = a ∧ True)) (L := [(0, av 35 0 0), (1, iv p0), (2, iv p1), (3, iv p2)]) (nL := 5) rfl rfl rfl ⟨IF.rf hI, s1, trivial⟩ ?_
  have hw := wM_rg p0 p1
  refine T_ld zk_130_0 rfl rfl rfl (pc' := 1) rfl ?_
  refine T_ld zk_130_1 rfl rfl rfl (pc' := 2) rfl ?_
  refine T_calli (K := fun y1 σ' => (y1 = wM p0 p1) ∧ (fun σ' => IF (MW36 (Int.toNat (100 + wM p0 p1))) σ σ' ∧ σ' 36 0 0 (Int.toNat (100 + wM p0 p1)) = a ∧ True) σ') (r := []) zk_130_2 rfl rfl rfl rfl rfl rfl (Or.inl (Or.inl rfl)) (fun σ' h => (r_126 p0 p1 (by omega) (by omega) σ' h.1.1 ).le (Nat.le_of_ble_eq_true rfl) (fun v σ2 ⟨y, h1, h2, h3, h4⟩ => ⟨y, h1, h2, h.1.tr h3 MN_sub, (h3.2 _ _ _ _ (fun q => q)).trans (h.2.1), trivial⟩)) (pc' := 5) rfl (fun y1 => ?_)
  refine G_ex (fun hy1 => ?_)
  obtain rfl : y1 = wM p0 p1 := by omega
  refine T_st (L' := [(0, av 35 0 0), (1, iv p0), (2, iv p1), (3, iv p2), (4, iv (wM p0 p1))]) zk_130_5 (nL := 5) rfl rfl rfl rfl rfl (pc' := 7) rfl ?_
  refine T_ld zk_130_7 rfl rfl rfl (pc' := 9) rfl ?_
  refine T_op zk_130_9 rfl X_ic (pc' := 10) rfl ?_
  refine T_icmp_ne zk_130_10 (by omega) (by omega) (pc' := 13) rfl (fun h2 => ?_) (fun h3 => ?_)
  ·
    refine T_ld zk_130_21 rfl rfl rfl (pc' := 22) rfl ?_
    refine T_op zk_130_22 rfl (X_bi (v := 100) (by decide)) (pc' := 24) rfl ?_
    refine T_ld zk_130_24 rfl rfl rfl (pc' := 26) rfl ?_
    refine T_op zk_130_26 rfl X_add (pc' := 27) rfl ?_
    refine T_ld zk_130_27 rfl rfl rfl (pc' := 28) rfl ?_
    refine T_calli (K := fun y4 σ' => ((y4 = 0 ∧ (a = p2)) ∨ (y4 = 1 ∧ ¬ (a = p2))) ∧ (fun σ' => IF (MW36 (Int.toNat (100 + wM p0 p1))) σ σ' ∧ σ' 36 0 0 (Int.toNat (100 + wM p0 p1)) = p2 ∧ True) σ') (r := []) zk_130_28 rfl rfl rfl rfl rfl rfl (Or.inr ⟨_, _, _, _, rfl, vd_35, rfl⟩) (fun σ' h => (r_129 (100 + wM p0 p1) p2 a (by omega) (by omega) (by omega) σ' h.1.1 (h.2.1)).le (Nat.le_of_ble_eq_true rfl) (fun v σ2 ⟨y, h1, h2, h3, h4⟩ => ⟨y, h1, h2, h.1.tr h3 (sb76_078072e (Int.toNat (100 + wM p0 p1))), h4.1, trivial⟩)) (pc' := 31) rfl (fun y4 => ?_)
    refine G_ex (fun hy4 => ?_)
    exact T_iret zk_130_31 rfl (fun σ' h => ⟨_, rfl, (by omega), h.1, ⟨(by have e := h.2.1; omega), trivial⟩⟩)
  ·
    refine T_ld zk_130_13 rfl rfl rfl (pc' := 14) rfl ?_
    refine T_op zk_130_14 rfl X_ic (pc' := 15) rfl ?_
    refine T_calli (K := fun y5 σ' => (y5 = (-1)) ∧ (fun σ' => IF (MW36 (Int.toNat (100 + wM p0 p1))) σ σ' ∧ σ' 36 0 0 (Int.toNat (100 + wM p0 p1)) = a ∧ True) σ') (r := []) zk_130_15 rfl rfl rfl rfl rfl rfl (Or.inr ⟨_, _, _, _, rfl, vd_35, rfl⟩) (fun σ' h => (m_123 ((-1)) (by omega) σ' h.1.1 ).le (Nat.le_of_ble_eq_true rfl) (fun v σ2 ⟨y, h1, h2, h3, h4⟩ => ⟨y, h1, h2, h.1.tr h3 (sb76_924f093 (Int.toNat (100 + wM p0 p1))), (h3.2 _ _ _ _ (by first | exact nMT rfl | (unfold MT; omega))).trans (h.2.1), trivial⟩)) (pc' := 18) rfl (fun y5 => ?_)
    refine G_ex (fun hy5 => ?_)
    obtain rfl : y5 = (-1) := by omega
    refine T_goto zk_130_18 ?_
    exact T_iret zk_130_31 rfl (fun σ' h => ⟨_, rfl, (by omega), h.1, ⟨(by have e := h.2.1; omega), trivial⟩⟩)
/-- WModel.narrow -/
theorem r_131 {xs : Nat × (Nat → Int32)} (p0 : Int) (p1 : Int) (p2 : Int) (a : Int) (hp0 : -2147483648 ≤ p0 ∧ p0 ≤ 2147483647) (hp1 : -2147483648 ≤ p1 ∧ p1 ≤ 2147483647) (hp2 : 0 ≤ p2 ∧ p2 ≤ 1) (ha : -2147483648 ≤ a ∧ a ≤ 2147483647) (σ : ZS) (hI : Inv σ)  (s1 : σ 36 0 0 (Int.toNat (150 + wM p0 p1)) = a) : CT xs 3 131 [av 35 0 0, iv p0, iv p1, iv p2] σ (fun v σ' => ∃ y, v = some (iv y) ∧ ((y = -1 ∧ (¬ 0 ≤ wM p0 p1)) ∨ (y = 0 ∧ ¬ (¬ 0 ≤ wM p0 p1) ∧ (a = p2)) ∨ (y = 1 ∧ ¬ (¬ 0 ≤ wM p0 p1) ∧ ¬ (a = p2))) ∧ IF (MW36 (Int.toNat (150 + wM p0 p1))) σ σ' ∧ (((0 ≤ wM p0 p1 → σ' 36 0 0 (Int.toNat (150 + wM p0 p1)) = p2) ∧ (¬ 0 ≤ wM p0 p1 → σ' 36 0 0 (Int.toNat (150 + wM p0 p1)) = a)) ∧ True)) := by
  refine G_ct (J := (fun σ' => IF (MW36 (Int.toNat (150 + wM p0 p1))) σ σ' ∧ σ' 36 0 0 (Int.toNat (150 + wM p0 p1)) = a ∧ True)) (L := [(0, av 35 0 0), (1, iv p0), (2, iv p1), (3, iv p2)]) (nL := 5) rfl rfl rfl ⟨IF.rf hI, s1, trivial⟩ ?_
  have hw := wM_rg p0 p1
  refine T_ld zk_131_0 rfl rfl rfl (pc' := 1) rfl ?_
  refine T_ld zk_131_1 rfl rfl rfl (pc' := 2) rfl ?_
  refine T_calli (K := fun y1 σ' => (y1 = wM p0 p1) ∧ (fun σ' => IF (MW36 (Int.toNat (150 + wM p0 p1))) σ σ' ∧ σ' 36 0 0 (Int.toNat (150 + wM p0 p1)) = a ∧ True) σ') (r := []) zk_131_2 rfl rfl rfl rfl rfl rfl (Or.inl (Or.inl rfl)) (fun σ' h => (r_126 p0 p1 (by omega) (by omega) σ' h.1.1 ).le (Nat.le_of_ble_eq_true rfl) (fun v σ2 ⟨y, h1, h2, h3, h4⟩ => ⟨y, h1, h2, h.1.tr h3 MN_sub, (h3.2 _ _ _ _ (fun q => q)).trans (h.2.1), trivial⟩)) (pc' := 5) rfl (fun y1 => ?_)
  refine G_ex (fun hy1 => ?_)
  obtain rfl : y1 = wM p0 p1 := by omega
  refine T_st (L' := [(0, av 35 0 0), (1, iv p0), (2, iv p1), (3, iv p2), (4, iv (wM p0 p1))]) zk_131_5 (nL := 5) rfl rfl rfl rfl rfl (pc' := 7) rfl ?_
  refine T_ld zk_131_7 rfl rfl rfl (pc' := 9) rfl ?_
  refine T_op zk_131_9 rfl X_ic (pc' := 10) rfl ?_
  refine T_icmp_ne zk_131_10 (by omega) (by omega) (pc' := 13) rfl (fun h2 => ?_) (fun h3 => ?_)
  ·
    refine T_ld zk_131_21 rfl rfl rfl (pc' := 22) rfl ?_
    refine T_op zk_131_22 rfl (X_si (v := 150) (by decide)) (pc' := 25) rfl ?_
    refine T_ld zk_131_25 rfl rfl rfl (pc' := 27) rfl ?_
    refine T_op zk_131_27 rfl X_add (pc' := 28) rfl ?_
    refine T_ld zk_131_28 rfl rfl rfl (pc' := 29) rfl ?_
    refine T_calli (K := fun y4 σ' => ((y4 = 0 ∧ (a = p2)) ∨ (y4 = 1 ∧ ¬ (a = p2))) ∧ (fun σ' => IF (MW36 (Int.toNat (150 + wM p0 p1))) σ σ' ∧ σ' 36 0 0 (Int.toNat (150 + wM p0 p1)) = p2 ∧ True) σ') (r := []) zk_131_29 rfl rfl rfl rfl rfl rfl (Or.inr ⟨_, _, _, _, rfl, vd_35, rfl⟩) (fun σ' h => (r_129 (150 + wM p0 p1) p2 a (by omega) (by omega) (by omega) σ' h.1.1 (h.2.1)).le (Nat.le_of_ble_eq_true rfl) (fun v σ2 ⟨y, h1, h2, h3, h4⟩ => ⟨y, h1, h2, h.1.tr h3 (sb76_078072e (Int.toNat (150 + wM p0 p1))), h4.1, trivial⟩)) (pc' := 32) rfl (fun y4 => ?_)
    refine G_ex (fun hy4 => ?_)
    exact T_iret zk_131_32 rfl (fun σ' h => ⟨_, rfl, (by omega), h.1, ⟨(by have e := h.2.1; omega), trivial⟩⟩)
  ·
    refine T_ld zk_131_13 rfl rfl rfl (pc' := 14) rfl ?_
    refine T_op zk_131_14 rfl X_ic (pc' := 15) rfl ?_
    refine T_calli (K := fun y5 σ' => (y5 = (-1)) ∧ (fun σ' => IF (MW36 (Int.toNat (150 + wM p0 p1))) σ σ' ∧ σ' 36 0 0 (Int.toNat (150 + wM p0 p1)) = a ∧ True) σ') (r := []) zk_131_15 rfl rfl rfl rfl rfl rfl (Or.inr ⟨_, _, _, _, rfl, vd_35, rfl⟩) (fun σ' h => (m_123 ((-1)) (by omega) σ' h.1.1 ).le (Nat.le_of_ble_eq_true rfl) (fun v σ2 ⟨y, h1, h2, h3, h4⟩ => ⟨y, h1, h2, h.1.tr h3 (sb76_924f093 (Int.toNat (150 + wM p0 p1))), (h3.2 _ _ _ _ (by first | exact nMT rfl | (unfold MT; omega))).trans (h.2.1), trivial⟩)) (pc' := 18) rfl (fun y5 => ?_)
    refine G_ex (fun hy5 => ?_)
    obtain rfl : y5 = (-1) := by omega
    refine T_goto zk_131_18 ?_
    exact T_iret zk_131_32 rfl (fun σ' h => ⟨_, rfl, (by omega), h.1, ⟨(by have e := h.2.1; omega), trivial⟩⟩)
/-- WModel.bridge -/
theorem r_132 {xs : Nat × (Nat → Int32)} (p0 : Int) (p1 : Int) (p2 : Int) (a : Int) (hp0 : -2147483648 ≤ p0 ∧ p0 ≤ 2147483647) (hp1 : -2147483648 ≤ p1 ∧ p1 ≤ 2147483647) (hp2 : -2147483648 ≤ p2 ∧ p2 ≤ 2147483647) (ha : -2147483648 ≤ a ∧ a ≤ 2147483647) (σ : ZS) (hI : Inv σ)  (s1 : σ 36 0 0 (Int.toNat (200 + wM p0 p1)) = a) : CT xs 3 132 [av 35 0 0, iv p0, iv p1, iv p2] σ (fun v σ' => ∃ y, v = some (iv y) ∧ ((y = -1 ∧ (¬ 0 ≤ wM p0 p1)) ∨ (y = -6 ∧ ¬ (¬ 0 ≤ wM p0 p1) ∧ (¬ (-1 ≤ p2 ∧ p2 ≤ 99))) ∨ (y = a ∧ ¬ (¬ 0 ≤ wM p0 p1) ∧ ¬ (¬ (-1 ≤ p2 ∧ p2 ≤ 99)))) ∧ IF (MW36 (Int.toNat (200 + wM p0 p1))) σ σ' ∧ (((0 ≤ wM p0 p1 ∧ -1 ≤ p2 ∧ p2 ≤ 99 → σ' 36 0 0 (Int.toNat (200 + wM p0 p1)) = p2) ∧ (¬ (0 ≤ wM p0 p1 ∧ -1 ≤ p2 ∧ p2 ≤ 99) → σ' 36 0 0 (Int.toNat (200 + wM p0 p1)) = a)) ∧ True)) := by
  refine G_ct (J := (fun σ' => IF (MW36 (Int.toNat (200 + wM p0 p1))) σ σ' ∧ σ' 36 0 0 (Int.toNat (200 + wM p0 p1)) = a ∧ True)) (L := [(0, av 35 0 0), (1, iv p0), (2, iv p1), (3, iv p2)]) (nL := 6) rfl rfl rfl ⟨IF.rf hI, s1, trivial⟩ ?_
  have hw := wM_rg p0 p1
  refine T_ld zk_132_0 rfl rfl rfl (pc' := 1) rfl ?_
  refine T_ld zk_132_1 rfl rfl rfl (pc' := 2) rfl ?_
  refine T_calli (K := fun y1 σ' => (y1 = wM p0 p1) ∧ (fun σ' => IF (MW36 (Int.toNat (200 + wM p0 p1))) σ σ' ∧ σ' 36 0 0 (Int.toNat (200 + wM p0 p1)) = a ∧ True) σ') (r := []) zk_132_2 rfl rfl rfl rfl rfl rfl (Or.inl (Or.inl rfl)) (fun σ' h => (r_126 p0 p1 (by omega) (by omega) σ' h.1.1 ).le (Nat.le_of_ble_eq_true rfl) (fun v σ2 ⟨y, h1, h2, h3, h4⟩ => ⟨y, h1, h2, h.1.tr h3 MN_sub, (h3.2 _ _ _ _ (fun q => q)).trans (h.2.1), trivial⟩)) (pc' := 5) rfl (fun y1 => ?_)
  refine G_ex (fun hy1 => ?_)
  obtain rfl : y1 = wM p0 p1 := by omega
  refine T_st (L' := [(0, av 35 0 0), (1, iv p0), (2, iv p1), (3, iv p2), (4, iv (wM p0 p1))]) zk_132_5 (nL := 6) rfl rfl rfl rfl rfl (pc' := 7) rfl ?_
  refine T_ld zk_132_7 rfl rfl rfl (pc' := 9) rfl ?_
  refine T_op zk_132_9 rfl X_ic (pc' := 10) rfl ?_
  refine T_icmp_ne zk_132_10 (by omega) (by omega) (pc' := 13) rfl (fun h2 => ?_) (fun h3 => ?_)
  ·
    refine T_ld zk_132_19 rfl rfl rfl (pc' := 20) rfl ?_
    refine T_op zk_132_20 rfl X_ic (pc' := 21) rfl ?_
    refine T_icmp_lt zk_132_21 (by omega) (by omega) (pc' := 24) rfl (fun h4 => ?_) (fun h5 => ?_)
    ·
      refine T_ld zk_132_30 rfl rfl rfl (pc' := 31) rfl ?_
      refine T_op zk_132_31 rfl (X_bi (v := -6) (by decide)) (pc' := 33) rfl ?_
      refine T_calli (K := fun y6 σ' => (y6 = (-6)) ∧ (fun σ' => IF (MW36 (Int.toNat (200 + wM p0 p1))) σ σ' ∧ σ' 36 0 0 (Int.toNat (200 + wM p0 p1)) = a ∧ True) σ') (r := []) zk_132_33 rfl rfl rfl rfl rfl rfl (Or.inr ⟨_, _, _, _, rfl, vd_35, rfl⟩) (fun σ' h => (m_123 ((-6)) (by omega) σ' h.1.1 ).le (Nat.le_of_ble_eq_true rfl) (fun v σ2 ⟨y, h1, h2, h3, h4⟩ => ⟨y, h1, h2, h.1.tr h3 (sb76_924f093 (Int.toNat (200 + wM p0 p1))), (h3.2 _ _ _ _ (by first | exact nMT rfl | (unfold MT; omega))).trans (h.2.1), trivial⟩)) (pc' := 36) rfl (fun y6 => ?_)
      refine G_ex (fun hy6 => ?_)
      obtain rfl : y6 = (-6) := by omega
      exact T_iret zk_132_36 rfl (fun σ' h => ⟨_, rfl, (by omega), h.1, ⟨(by have e := h.2.1; omega), trivial⟩⟩)
    ·
      refine T_ld zk_132_24 rfl rfl rfl (pc' := 25) rfl ?_
      refine T_op zk_132_25 rfl (X_bi (v := 99) (by decide)) (pc' := 27) rfl ?_
      refine T_icmp_le zk_132_27 (by omega) (by omega) (pc' := 30) rfl (fun h7 => ?_) (fun h8 => ?_)
      ·
        refine T_ld zk_132_37 rfl rfl rfl (pc' := 38) rfl ?_
        refine T_getR (t' := 36) (i' := 0) (k' := 0) zk_132_38 rfl rfl rfl vd_35 (pc' := 41) rfl ?_
        refine T_op zk_132_41 rfl (X_si (v := 200) (by decide)) (pc' := 44) rfl ?_
        refine T_ld zk_132_44 rfl rfl rfl (pc' := 46) rfl ?_
        refine T_op zk_132_46 rfl X_add (pc' := 47) rfl ?_
        refine G_ialdX (w := a) (ln := 646) zk_132_47 rfl rfl (vd_36 (by omega)) (by omega) (by omega) (by omega) (fun σ' h => h.2.1) (pc' := 48) rfl ?_
        refine T_st (L' := [(0, av 35 0 0), (1, iv p0), (2, iv p1), (3, iv p2), (4, iv (wM p0 p1)), (5, iv a)]) zk_132_48 (nL := 6) rfl rfl rfl rfl rfl (pc' := 50) rfl ?_
        refine T_ld zk_132_50 rfl rfl rfl (pc' := 51) rfl ?_
        refine T_getR (t' := 36) (i' := 0) (k' := 0) zk_132_51 rfl rfl rfl vd_35 (pc' := 54) rfl ?_
        refine T_op zk_132_54 rfl (X_si (v := 200) (by decide)) (pc' := 57) rfl ?_
        refine T_ld zk_132_57 rfl rfl rfl (pc' := 59) rfl ?_
        refine T_op zk_132_59 rfl X_add (pc' := 60) rfl ?_
        refine T_ld zk_132_60 rfl rfl rfl (pc' := 61) rfl ?_
        refine G_iast (J' := (fun σ' => IF (MW36 (Int.toNat (200 + wM p0 p1))) σ σ' ∧ σ' 36 0 0 (Int.toNat (200 + wM p0 p1)) = p2 ∧ True)) (ln := 646) zk_132_61 rfl rfl (vd_36 (by omega)) (by omega) (by omega) (by omega) (fun σ' h => ⟨h.1.up (by simp only [rgP] <;> omega) (by first | exact pMW36 rfl | (unfold MW36; omega)), up_eq, trivial⟩) (pc' := 62) rfl ?_
        refine T_ld zk_132_62 rfl rfl rfl (pc' := 64) rfl ?_
        exact T_iret zk_132_64 rfl (fun σ' h => ⟨_, rfl, (by omega), h.1, ⟨(by have e := h.2.1; omega), trivial⟩⟩)
      ·
        refine T_ld zk_132_30 rfl rfl rfl (pc' := 31) rfl ?_
        refine T_op zk_132_31 rfl (X_bi (v := -6) (by decide)) (pc' := 33) rfl ?_
        refine T_calli (K := fun y9 σ' => (y9 = (-6)) ∧ (fun σ' => IF (MW36 (Int.toNat (200 + wM p0 p1))) σ σ' ∧ σ' 36 0 0 (Int.toNat (200 + wM p0 p1)) = a ∧ True) σ') (r := []) zk_132_33 rfl rfl rfl rfl rfl rfl (Or.inr ⟨_, _, _, _, rfl, vd_35, rfl⟩) (fun σ' h => (m_123 ((-6)) (by omega) σ' h.1.1 ).le (Nat.le_of_ble_eq_true rfl) (fun v σ2 ⟨y, h1, h2, h3, h4⟩ => ⟨y, h1, h2, h.1.tr h3 (sb76_924f093 (Int.toNat (200 + wM p0 p1))), (h3.2 _ _ _ _ (by first | exact nMT rfl | (unfold MT; omega))).trans (h.2.1), trivial⟩)) (pc' := 36) rfl (fun y9 => ?_)
        refine G_ex (fun hy9 => ?_)
        obtain rfl : y9 = (-6) := by omega
        exact T_iret zk_132_36 rfl (fun σ' h => ⟨_, rfl, (by omega), h.1, ⟨(by have e := h.2.1; omega), trivial⟩⟩)
  ·
    refine T_ld zk_132_13 rfl rfl rfl (pc' := 14) rfl ?_
    refine T_op zk_132_14 rfl X_ic (pc' := 15) rfl ?_
    refine T_calli (K := fun y10 σ' => (y10 = (-1)) ∧ (fun σ' => IF (MW36 (Int.toNat (200 + wM p0 p1))) σ σ' ∧ σ' 36 0 0 (Int.toNat (200 + wM p0 p1)) = a ∧ True) σ') (r := []) zk_132_15 rfl rfl rfl rfl rfl rfl (Or.inr ⟨_, _, _, _, rfl, vd_35, rfl⟩) (fun σ' h => (m_123 ((-1)) (by omega) σ' h.1.1 ).le (Nat.le_of_ble_eq_true rfl) (fun v σ2 ⟨y, h1, h2, h3, h4⟩ => ⟨y, h1, h2, h.1.tr h3 (sb76_924f093 (Int.toNat (200 + wM p0 p1))), (h3.2 _ _ _ _ (by first | exact nMT rfl | (unfold MT; omega))).trans (h.2.1), trivial⟩)) (pc' := 18) rfl (fun y10 => ?_)
    refine G_ex (fun hy10 => ?_)
    obtain rfl : y10 = (-1) := by omega
    exact T_iret zk_132_18 rfl (fun σ' h => ⟨_, rfl, (by omega), h.1, ⟨(by have e := h.2.1; omega), trivial⟩⟩)
/-- WModel.way -/
theorem r_187 {xs : Nat × (Nat → Int32)} (p0 : Int) (p1 : Int) (p2 : Int) (a : Int) (b : Int) (c : Int) (hp0 : -2147483648 ≤ p0 ∧ p0 ≤ 2147483647) (hp1 : -2147483648 ≤ p1 ∧ p1 ≤ 2147483647) (hp2 : -2147483648 ≤ p2 ∧ p2 ≤ 2147483647) (ha : -2147483648 ≤ a ∧ a ≤ 2147483647) (hb : -2147483648 ≤ b ∧ b ≤ 2147483647) (hc : -2147483648 ≤ c ∧ c ≤ 2147483647) (σ : ZS) (hI : Inv σ)  (s1 : σ 36 0 0 (Int.toNat (100 + wM p0 p1)) = a) (s2 : σ 36 0 0 (Int.toNat (150 + wM p0 p1)) = b) (s3 : σ 36 0 0 (Int.toNat (200 + wM p0 p1)) = c) : CT xs 3 187 [av 35 0 0, iv p0, iv p1, iv p2] σ (fun v σ' => ∃ y, v = some (iv y) ∧ ((y = -1 ∧ (¬ 0 ≤ wM p0 p1)) ∨ (y = a ∧ ¬ (¬ 0 ≤ wM p0 p1) ∧ (p2 = 0)) ∨ (y = b ∧ ¬ (¬ 0 ≤ wM p0 p1) ∧ ¬ (p2 = 0) ∧ (p2 = 1)) ∨ (y = c ∧ ¬ (¬ 0 ≤ wM p0 p1) ∧ ¬ (p2 = 0) ∧ ¬ (p2 = 1) ∧ (p2 = 2)) ∨ (y = -1 ∧ ¬ (¬ 0 ≤ wM p0 p1) ∧ ¬ (p2 = 0) ∧ ¬ (p2 = 1) ∧ ¬ (p2 = 2))) ∧ IF MN σ σ' ∧ (True)) := by
  refine G_ct (J := (fun σ' => IF MN σ σ' ∧ True)) (L := [(0, av 35 0 0), (1, iv p0), (2, iv p1), (3, iv p2)]) (nL := 5) rfl rfl rfl ⟨IF.rf hI, trivial⟩ ?_
  have hw := wM_rg p0 p1
  refine T_ld zk_187_0 rfl rfl rfl (pc' := 1) rfl ?_
  refine T_ld zk_187_1 rfl rfl rfl (pc' := 2) rfl ?_
  refine T_calli (K := fun y1 σ' => (y1 = wM p0 p1) ∧ (fun σ' => IF MN σ σ' ∧ True) σ') (r := []) zk_187_2 rfl rfl rfl rfl rfl rfl (Or.inl (Or.inl rfl)) (fun σ' h => (r_126 p0 p1 (by omega) (by omega) σ' h.1.1 ).le (Nat.le_of_ble_eq_true rfl) (fun v σ2 ⟨y, h1, h2, h3, h4⟩ => ⟨y, h1, h2, h.1.tr h3 MN_sub, trivial⟩)) (pc' := 5) rfl (fun y1 => ?_)
  refine G_ex (fun hy1 => ?_)
  obtain rfl : y1 = wM p0 p1 := by omega
  refine T_st (L' := [(0, av 35 0 0), (1, iv p0), (2, iv p1), (3, iv p2), (4, iv (wM p0 p1))]) zk_187_5 (nL := 5) rfl rfl rfl rfl rfl (pc' := 7) rfl ?_
  refine T_ld zk_187_7 rfl rfl rfl (pc' := 9) rfl ?_
  refine T_op zk_187_9 rfl X_ic (pc' := 10) rfl ?_
  refine T_icmp_eq zk_187_10 (by omega) (by omega) (pc' := 13) rfl (fun h2 => ?_) (fun h3 => ?_)
  ·
    refine T_op zk_187_22 rfl X_ic (pc' := 23) rfl ?_
    exact T_iret zk_187_23 rfl (fun σ' h => ⟨_, rfl, (by omega), h.1, trivial⟩)
  ·
    refine T_ld zk_187_13 rfl rfl rfl (pc' := 14) rfl ?_
    refine T_if_lt zk_187_14 (by omega) (pc' := 17) rfl (fun h4 => ?_) (fun h5 => ?_)
    ·
      refine T_op zk_187_22 rfl X_ic (pc' := 23) rfl ?_
      exact T_iret zk_187_23 rfl (fun σ' h => ⟨_, rfl, (by omega), h.1, trivial⟩)
    ·
      refine T_ld zk_187_17 rfl rfl rfl (pc' := 18) rfl ?_
      refine T_op zk_187_18 rfl X_ic (pc' := 19) rfl ?_
      refine T_icmp_le zk_187_19 (by omega) (by omega) (pc' := 22) rfl (fun h6 => ?_) (fun h7 => ?_)
      ·
        refine T_ld zk_187_24 rfl rfl rfl (pc' := 25) rfl ?_
        refine T_getR (t' := 36) (i' := 0) (k' := 0) zk_187_25 rfl rfl rfl vd_35 (pc' := 28) rfl ?_
        refine T_ld zk_187_28 rfl rfl rfl (pc' := 29) rfl ?_
        refine T_if_ne zk_187_29 (by omega) (pc' := 32) rfl (fun h8 => ?_) (fun h9 => ?_)
        ·
          refine T_ld zk_187_37 rfl rfl rfl (pc' := 38) rfl ?_
          refine T_op zk_187_38 rfl X_ic (pc' := 39) rfl ?_
          refine T_icmp_ne zk_187_39 (by omega) (by omega) (pc' := 42) rfl (fun h10 => ?_) (fun h11 => ?_)
          ·
            refine T_op zk_187_48 rfl (X_si (v := 200) (by decide)) (pc' := 51) rfl ?_
            refine T_ld zk_187_51 rfl rfl rfl (pc' := 53) rfl ?_
            refine T_op zk_187_53 rfl X_add (pc' := 54) rfl ?_
            refine G_ialdX (w := c) (ln := 646) zk_187_54 rfl rfl (vd_36 (by omega)) (by omega) (by omega) (by omega) (fun σ' h => (h.1.2 _ _ _ _ (fun q => q)).trans s3) (pc' := 55) rfl ?_
            exact T_iret zk_187_55 rfl (fun σ' h => ⟨_, rfl, (by omega), h.1, trivial⟩)
          ·
            refine T_op zk_187_42 rfl (X_si (v := 150) (by decide)) (pc' := 45) rfl ?_
            refine T_goto zk_187_45 ?_
            refine T_ld zk_187_51 rfl rfl rfl (pc' := 53) rfl ?_
            refine T_op zk_187_53 rfl X_add (pc' := 54) rfl ?_
            refine G_ialdX (w := b) (ln := 646) zk_187_54 rfl rfl (vd_36 (by omega)) (by omega) (by omega) (by omega) (fun σ' h => (h.1.2 _ _ _ _ (fun q => q)).trans s2) (pc' := 55) rfl ?_
            exact T_iret zk_187_55 rfl (fun σ' h => ⟨_, rfl, (by omega), h.1, trivial⟩)
        ·
          refine T_op zk_187_32 rfl (X_bi (v := 100) (by decide)) (pc' := 34) rfl ?_
          refine T_goto zk_187_34 ?_
          refine T_ld zk_187_51 rfl rfl rfl (pc' := 53) rfl ?_
          refine T_op zk_187_53 rfl X_add (pc' := 54) rfl ?_
          refine G_ialdX (w := a) (ln := 646) zk_187_54 rfl rfl (vd_36 (by omega)) (by omega) (by omega) (by omega) (fun σ' h => (h.1.2 _ _ _ _ (fun q => q)).trans s1) (pc' := 55) rfl ?_
          exact T_iret zk_187_55 rfl (fun σ' h => ⟨_, rfl, (by omega), h.1, trivial⟩)
      ·
        refine T_op zk_187_22 rfl X_ic (pc' := 23) rfl ?_
        exact T_iret zk_187_23 rfl (fun σ' h => ⟨_, rfl, (by omega), h.1, trivial⟩)
