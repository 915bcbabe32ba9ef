theorem zk_142_0 : zc 142 0 = some (.iload_n 1, 0, 0, 0, 0) := rfl
theorem zk_142_1 : zc 142 1 = some (.invokestatic 115, 125, 1, 1, 132) := rfl
theorem zk_142_4 : zc 142 4 = some (.ifCond .eq 12, 16, 0, 0, 0) := rfl
theorem zk_142_7 : zc 142 7 = some (.iload_n 2, 0, 0, 0, 0) := rfl
theorem zk_142_8 : zc 142 8 = some (.ifCond .lt 8, 16, 0, 0, 0) := rfl
theorem zk_142_11 : zc 142 11 = some (.iload_n 2, 0, 0, 0, 0) := rfl
theorem zk_142_12 : zc 142 12 = some (.iconst 2, 0, 0, 0, 0) := rfl
theorem zk_142_13 : zc 142 13 = some (.if_icmp .le 9, 22, 0, 0, 0) := rfl
theorem zk_142_16 : zc 142 16 = some (.aload_n 0, 0, 0, 0, 0) := rfl
theorem zk_142_17 : zc 142 17 = some (.iconst (-1), 0, 0, 0, 0) := rfl
theorem zk_142_18 : zc 142 18 = some (.invokevirtual 103, 123, 0, 2, 129) := rfl
theorem zk_142_21 : zc 142 21 = some (.ireturn, 0, 0, 0, 0) := rfl
theorem zk_142_22 : zc 142 22 = some (.aload_n 0, 0, 0, 0, 0) := rfl
theorem zk_142_23 : zc 142 23 = some (.getfield 19, 11, 4, 0, 142) := rfl
theorem zk_142_26 : zc 142 26 = some (.iload_n 1, 0, 0, 0, 0) := rfl
theorem zk_142_27 : zc 142 27 = some (.iaload, 0, 0, 0, 0) := rfl
theorem zk_142_28 : zc 142 28 = some (.iconst 1, 0, 0, 0, 0) := rfl
theorem zk_142_29 : zc 142 29 = some (.if_icmp .eq 36, 65, 0, 0, 0) := rfl
theorem zk_142_32 : zc 142 32 = some (.aload_n 0, 0, 0, 0, 0) := rfl
theorem zk_142_33 : zc 142 33 = some (.getfield 19, 11, 4, 0, 142) := rfl
theorem zk_142_36 : zc 142 36 = some (.iload_n 1, 0, 0, 0, 0) := rfl
theorem zk_142_37 : zc 142 37 = some (.iaload, 0, 0, 0, 0) := rfl
theorem zk_142_38 : zc 142 38 = some (.iconst 2, 0, 0, 0, 0) := rfl
theorem zk_142_39 : zc 142 39 = some (.if_icmp .ne 33, 72, 0, 0, 0) := rfl
theorem zk_142_72 : zc 142 72 = some (.aload_n 0, 0, 0, 0, 0) := rfl
theorem zk_142_73 : zc 142 73 = some (.getfield 19, 11, 4, 0, 142) := rfl
theorem zk_142_76 : zc 142 76 = some (.iload_n 1, 0, 0, 0, 0) := rfl
theorem zk_142_77 : zc 142 77 = some (.iaload, 0, 0, 0, 0) := rfl
theorem zk_142_78 : zc 142 78 = some (.ifCond .ne 10, 88, 0, 0, 0) := rfl
theorem zk_142_81 : zc 142 81 = some (.aload_n 0, 0, 0, 0, 0) := rfl
theorem zk_142_82 : zc 142 82 = some (.bipush (-3), 0, 0, 0, 0) := rfl
theorem zk_142_84 : zc 142 84 = some (.invokevirtual 103, 123, 0, 2, 129) := rfl
theorem zk_142_87 : zc 142 87 = some (.ireturn, 0, 0, 0, 0) := rfl
theorem zk_144_0 : zc 144 0 = some (.aload_n 0, 0, 0, 0, 0) := rfl
theorem zk_144_1 : zc 144 1 = some (.iload_n 1, 0, 0, 0, 0) := rfl
theorem zk_144_2 : zc 144 2 = some (.invokevirtual 121, 143, 0, 2, 134) := rfl
theorem zk_144_5 : zc 144 5 = some (.istore_n 3, 0, 0, 0, 0) := rfl
theorem zk_144_6 : zc 144 6 = some (.iload_n 3, 0, 0, 0, 0) := rfl
theorem zk_144_7 : zc 144 7 = some (.ifCond .eq 9, 16, 0, 0, 0) := rfl
theorem zk_144_10 : zc 144 10 = some (.aload_n 0, 0, 0, 0, 0) := rfl
theorem zk_144_11 : zc 144 11 = some (.iload_n 3, 0, 0, 0, 0) := rfl
theorem zk_144_12 : zc 144 12 = some (.invokevirtual 103, 123, 0, 2, 129) := rfl
theorem zk_144_15 : zc 144 15 = some (.ireturn, 0, 0, 0, 0) := rfl
theorem zk_146_0 : zc 146 0 = some (.iload_n 1, 0, 0, 0, 0) := rfl
theorem zk_146_1 : zc 146 1 = some (.ifCond .ge 9, 10, 0, 0, 0) := rfl
theorem zk_146_4 : zc 146 4 = some (.sipush 1000, 0, 0, 0, 0) := rfl
theorem zk_146_7 : zc 146 7 = some (.goto 9, 16, 0, 0, 0) := rfl
theorem zk_146_10 : zc 146 10 = some (.aload_n 0, 0, 0, 0, 0) := rfl
theorem zk_146_11 : zc 146 11 = some (.iload_n 1, 0, 0, 0, 0) := rfl
theorem zk_146_12 : zc 146 12 = some (.iload_n 2, 0, 0, 0, 0) := rfl
theorem zk_146_13 : zc 146 13 = some (.invokevirtual 134, 145, 0, 3, 135) := rfl
theorem zk_146_16 : zc 146 16 = some (.ireturn, 0, 0, 0, 0) := rfl
theorem zk_155_0 : zc 155 0 = some (.aload_n 0, 0, 0, 0, 0) := rfl
theorem zk_155_1 : zc 155 1 = some (.iload_n 1, 0, 0, 0, 0) := rfl
theorem zk_155_2 : zc 155 2 = some (.invokevirtual 121, 143, 0, 2, 134) := rfl
theorem zk_155_5 : zc 155 5 = some (.istore_n 2, 0, 0, 0, 0) := rfl
theorem zk_155_6 : zc 155 6 = some (.iload_n 2, 0, 0, 0, 0) := rfl
theorem zk_155_7 : zc 155 7 = some (.ifCond .eq 9, 16, 0, 0, 0) := rfl
theorem zk_155_10 : zc 155 10 = some (.aload_n 0, 0, 0, 0, 0) := rfl
theorem zk_155_11 : zc 155 11 = some (.iload_n 2, 0, 0, 0, 0) := rfl
theorem zk_155_12 : zc 155 12 = some (.invokevirtual 103, 123, 0, 2, 129) := rfl
theorem zk_155_15 : zc 155 15 = some (.ireturn, 0, 0, 0, 0) := rfl
theorem zk_156_0 : zc 156 0 = some (.aload_n 0, 0, 0, 0, 0) := rfl
theorem zk_156_1 : zc 156 1 = some (.getfield 56, 11, 16, 0, 154) := rfl
theorem zk_156_4 : zc 156 4 = some (.ireturn, 0, 0, 0, 0) := rfl
theorem zk_158_0 : zc 158 0 = some (.aload_n 0, 0, 0, 0, 0) := rfl
theorem zk_158_1 : zc 158 1 = some (.iload_n 1, 0, 0, 0, 0) := rfl
theorem zk_158_2 : zc 158 2 = some (.invokevirtual 183, 157, 0, 2, 143) := rfl
theorem zk_158_5 : zc 158 5 = some (.ifCond .eq 16, 21, 0, 0, 0) := rfl
theorem zk_158_21 : zc 158 21 = some (.aload_n 0, 0, 0, 0, 0) := rfl
theorem zk_158_22 : zc 158 22 = some (.iconst (-1), 0, 0, 0, 0) := rfl
theorem zk_158_23 : zc 158 23 = some (.invokevirtual 103, 123, 0, 2, 129) := rfl
theorem zk_158_26 : zc 158 26 = some (.ireturn, 0, 0, 0, 0) := rfl
theorem zk_163_0 : zc 163 0 = some (.aload_n 0, 0, 0, 0, 0) := rfl
theorem zk_163_1 : zc 163 1 = some (.iload_n 1, 0, 0, 0, 0) := rfl
theorem zk_163_2 : zc 163 2 = some (.invokevirtual 183, 157, 0, 2, 143) := rfl
theorem zk_163_5 : zc 163 5 = some (.ifCond .eq 19, 24, 0, 0, 0) := rfl
theorem zk_163_24 : zc 163 24 = some (.iconst (-1), 0, 0, 0, 0) := rfl
theorem zk_163_25 : zc 163 25 = some (.ireturn, 0, 0, 0, 0) := rfl
/-- WModel.harm -/
theorem m_harm {xs : Nat × (Nat → Int32)} (p0 : Int) (p1 : Int) (h0 : -2147483648 ≤ p0 ∧ p0 ≤ 2147483647) (h1 : -2147483648 ≤ p1 ∧ p1 ≤ 2147483647) (σ : ZS) (hI : Inv σ) (hm : ∀ t i k j, 35 ≤ t → σ t i k j = σ0 t i k j)  : CT xs 2 142 [av 35 0 0, iv p0, iv p1] σ (fun v σ' => ∃ y, v = some (iv y) ∧ ((y = -1 ∧ (¬ (0 ≤ p0 ∧ p0 ≤ 7) ∨ ¬ (0 ≤ p1 ∧ p1 ≤ 2))) ∨ (y = -3 ∧ ¬ (¬ (0 ≤ p0 ∧ p0 ≤ 7) ∨ ¬ (0 ≤ p1 ∧ p1 ≤ 2)))) ∧ IF (MT 49 49 49 49) σ σ' ∧ (True)) := by
  refine G_ct (J := (fun σ' => IF (MT 49 49 49 49) σ σ' ∧ True)) (L := [(0, av 35 0 0), (1, iv p0), (2, iv p1)]) (nL := 3) rfl rfl rfl ⟨IF.rf hI, trivial⟩ ?_
  refine T_ld zk_142_0 rfl rfl rfl (pc' := 1) rfl ?_
  refine T_calli (K := fun y1 σ' => ((y1 = 0 ∧ (p0 < 0 ∨ 7 < p0)) ∨ (y1 = 1 ∧ 0 ≤ p0 ∧ p0 ≤ 7)) ∧ (fun σ' => IF (MT 49 49 49 49) σ σ' ∧ True) σ') (r := []) zk_142_1 rfl rfl rfl rfl rfl rfl (Or.inl (Or.inl rfl)) (fun σ' h => (m_125 p0 (by omega) σ' h.1.1 ).le (Nat.le_of_ble_eq_true rfl) (fun v σ2 ⟨y, h1, h2, h3, h4⟩ => ⟨y, h1, h2, h.1.tr h3 MN_sub, trivial⟩)) (pc' := 4) rfl (fun y1 => ?_)
  refine G_ex (fun hy1 => ?_)
  refine T_if_eq zk_142_4 (by omega) (pc' := 7) rfl (fun h2 => ?_) (fun h3 => ?_)
  ·
    refine T_ld zk_142_16 rfl rfl rfl (pc' := 17) rfl ?_
    refine T_op zk_142_17 rfl X_ic (pc' := 18) rfl ?_
    refine T_calli (K := fun y4 σ' => (y4 = (-1)) ∧ (fun σ' => IF (MT 49 49 49 49) σ σ' ∧ True) σ') (r := []) zk_142_18 rfl rfl rfl rfl rfl rfl (Or.inr ⟨_, _, _, _, rfl, vd_35, rfl⟩) (fun σ' h => (m_123 ((-1)) (by omega) σ' h.1.1 ).le (Nat.le_of_ble_eq_true rfl) (fun v σ2 ⟨y, h1, h2, h3, h4⟩ => ⟨y, h1, h2, h.1.tr h3 (fun _ _ _ _ h => h), trivial⟩)) (pc' := 21) rfl (fun y4 => ?_)
    refine G_ex (fun hy4 => ?_)
    obtain rfl : y4 = (-1) := by omega
    exact T_iret zk_142_21 rfl (fun σ' h => ⟨_, rfl, (by omega), h.1, trivial⟩)
  ·
    refine T_ld zk_142_7 rfl rfl rfl (pc' := 8) rfl ?_
    refine T_if_lt zk_142_8 (by omega) (pc' := 11) rfl (fun h5 => ?_) (fun h6 => ?_)
    ·
      refine T_ld zk_142_16 rfl rfl rfl (pc' := 17) rfl ?_
      refine T_op zk_142_17 rfl X_ic (pc' := 18) rfl ?_
      refine T_calli (K := fun y7 σ' => (y7 = (-1)) ∧ (fun σ' => IF (MT 49 49 49 49) σ σ' ∧ True) σ') (r := []) zk_142_18 rfl rfl rfl rfl rfl rfl (Or.inr ⟨_, _, _, _, rfl, vd_35, rfl⟩) (fun σ' h => (m_123 ((-1)) (by omega) σ' h.1.1 ).le (Nat.le_of_ble_eq_true rfl) (fun v σ2 ⟨y, h1, h2, h3, h4⟩ => ⟨y, h1, h2, h.1.tr h3 (fun _ _ _ _ h => h), trivial⟩)) (pc' := 21) rfl (fun y7 => ?_)
      refine G_ex (fun hy7 => ?_)
      obtain rfl : y7 = (-1) := by omega
      exact T_iret zk_142_21 rfl (fun σ' h => ⟨_, rfl, (by omega), h.1, trivial⟩)
    ·
      refine T_ld zk_142_11 rfl rfl rfl (pc' := 12) rfl ?_
      refine T_op zk_142_12 rfl X_ic (pc' := 13) rfl ?_
      refine T_icmp_le zk_142_13 (by omega) (by omega) (pc' := 16) rfl (fun h8 => ?_) (fun h9 => ?_)
      ·
        refine T_ld zk_142_22 rfl rfl rfl (pc' := 23) rfl ?_
        refine T_getR (t' := 37) (i' := 0) (k' := 0) zk_142_23 rfl rfl rfl vd_35 (pc' := 26) rfl ?_
        refine T_ld zk_142_26 rfl rfl rfl (pc' := 27) rfl ?_
        refine G_ialdX (w := 0) (ln := 8) zk_142_27 rfl rfl vd_37 (by omega) (by omega) (by omega) (fun σ' h => (h.1.2 _ _ _ _ (by unfold MT; omega)).trans (hm _ _ _ _ (by decide))) (pc' := 28) rfl ?_
        refine T_op zk_142_28 rfl X_ic (pc' := 29) rfl ?_
        refine T_icmp_eq zk_142_29 (by omega) (by omega) (pc' := 32) rfl (fun h10 => ?_) (fun h11 => ?_)
        · exfalso; omega
        ·
          refine T_ld zk_142_32 rfl rfl rfl (pc' := 33) rfl ?_
          refine T_getR (t' := 37) (i' := 0) (k' := 0) zk_142_33 rfl rfl rfl vd_35 (pc' := 36) rfl ?_
          refine T_ld zk_142_36 rfl rfl rfl (pc' := 37) rfl ?_
          refine G_ialdX (w := 0) (ln := 8) zk_142_37 rfl rfl vd_37 (by omega) (by omega) (by omega) (fun σ' h => (h.1.2 _ _ _ _ (by unfold MT; omega)).trans (hm _ _ _ _ (by decide))) (pc' := 38) rfl ?_
          refine T_op zk_142_38 rfl X_ic (pc' := 39) rfl ?_
          refine T_icmp_ne zk_142_39 (by omega) (by omega) (pc' := 42) rfl (fun h12 => ?_) (fun h13 => ?_)
          ·
            refine T_ld zk_142_72 rfl rfl rfl (pc' := 73) rfl ?_
            refine T_getR (t' := 37) (i' := 0) (k' := 0) zk_142_73 rfl rfl rfl vd_35 (pc' := 76) rfl ?_
            refine T_ld zk_142_76 rfl rfl rfl (pc' := 77) rfl ?_
            refine G_ialdX (w := 0) (ln := 8) zk_142_77 rfl rfl vd_37 (by omega) (by omega) (by omega) (fun σ' h => (h.1.2 _ _ _ _ (by unfold MT; omega)).trans (hm _ _ _ _ (by decide))) (pc' := 78) rfl ?_
            refine T_if_ne zk_142_78 (by omega) (pc' := 81) rfl (fun h14 => ?_) (fun h15 => ?_)
            · exfalso; omega
            ·
              refine T_ld zk_142_81 rfl rfl rfl (pc' := 82) rfl ?_
              refine T_op zk_142_82 rfl (X_bi (v := -3) (by decide)) (pc' := 84) rfl ?_
              refine T_calli (K := fun y16 σ' => (y16 = (-3)) ∧ (fun σ' => IF (MT 49 49 49 49) σ σ' ∧ True) σ') (r := []) zk_142_84 rfl rfl rfl rfl rfl rfl (Or.inr ⟨_, _, _, _, rfl, vd_35, rfl⟩) (fun σ' h => (m_123 ((-3)) (by omega) σ' h.1.1 ).le (Nat.le_of_ble_eq_true rfl) (fun v σ2 ⟨y, h1, h2, h3, h4⟩ => ⟨y, h1, h2, h.1.tr h3 (fun _ _ _ _ h => h), trivial⟩)) (pc' := 87) rfl (fun y16 => ?_)
              refine G_ex (fun hy16 => ?_)
              obtain rfl : y16 = (-3) := by omega
              exact T_iret zk_142_87 rfl (fun σ' h => ⟨_, rfl, (by omega), h.1, trivial⟩)
          · exfalso; omega
      ·
        refine T_ld zk_142_16 rfl rfl rfl (pc' := 17) rfl ?_
        refine T_op zk_142_17 rfl X_ic (pc' := 18) rfl ?_
        refine T_calli (K := fun y17 σ' => (y17 = (-1)) ∧ (fun σ' => IF (MT 49 49 49 49) σ σ' ∧ True) σ') (r := []) zk_142_18 rfl rfl rfl rfl rfl rfl (Or.inr ⟨_, _, _, _, rfl, vd_35, rfl⟩) (fun σ' h => (m_123 ((-1)) (by omega) σ' h.1.1 ).le (Nat.le_of_ble_eq_true rfl) (fun v σ2 ⟨y, h1, h2, h3, h4⟩ => ⟨y, h1, h2, h.1.tr h3 (fun _ _ _ _ h => h), trivial⟩)) (pc' := 21) rfl (fun y17 => ?_)
        refine G_ex (fun hy17 => ?_)
        obtain rfl : y17 = (-1) := by omega
        exact T_iret zk_142_21 rfl (fun σ' h => ⟨_, rfl, (by omega), h.1, trivial⟩)
/-- WModel.sea -/
theorem m_sea {xs : Nat × (Nat → Int32)} (p0 : Int) (p1 : Int) (h0 : -2147483648 ≤ p0 ∧ p0 ≤ 2147483647) (h1 : 0 ≤ p1 ∧ p1 ≤ 1) (σ : ZS) (hI : Inv σ) (hm : ∀ t i k j, 35 ≤ t → σ t i k j = σ0 t i k j)  : CT xs 3 144 [av 35 0 0, iv p0, iv p1] σ (fun v σ' => ∃ y, v = some (iv y) ∧ ((y = -1 ∧ (¬ (0 ≤ p0 ∧ p0 ≤ 7))) ∨ (y = -3 ∧ ¬ (¬ (0 ≤ p0 ∧ p0 ≤ 7)))) ∧ IF (MT 49 49 49 49) σ σ' ∧ (True)) := by
  refine G_ct (J := (fun σ' => IF (MT 49 49 49 49) σ σ' ∧ True)) (L := [(0, av 35 0 0), (1, iv p0), (2, iv p1)]) (nL := 10) rfl rfl rfl ⟨IF.rf hI, trivial⟩ ?_
  refine T_ld zk_144_0 rfl rfl rfl (pc' := 1) rfl ?_
  refine T_ld zk_144_1 rfl rfl rfl (pc' := 2) rfl ?_
  refine T_calli (K := fun y1 σ' => ((y1 = -1 ∧ (p0 < 0 ∨ 7 < p0)) ∨ (y1 = -3 ∧ 0 ≤ p0 ∧ p0 ≤ 7)) ∧ (fun σ' => IF (MT 49 49 49 49) σ σ' ∧ True) σ') (r := []) zk_144_2 rfl rfl rfl rfl rfl rfl (Or.inr ⟨_, _, _, _, rfl, vd_35, rfl⟩) (fun σ' h => (m_143e p0 (by omega) σ' h.1.1 (fun j a b => (h.1.2 _ _ _ _ (by unfold MT; omega)).trans (hm _ _ _ _ (by decide)))).le (Nat.le_of_ble_eq_true rfl) (fun v σ2 ⟨y, h1, h2, h3, h4⟩ => ⟨y, h1, h2, h.1.tr h3 MN_sub, trivial⟩)) (pc' := 5) rfl (fun y1 => ?_)
  refine G_ex (fun hy1 => ?_)
  refine T_st (L' := [(0, av 35 0 0), (1, iv p0), (2, iv p1), (3, iv y1)]) zk_144_5 (nL := 10) rfl rfl rfl rfl rfl (pc' := 6) rfl ?_
  refine T_ld zk_144_6 rfl rfl rfl (pc' := 7) rfl ?_
  refine T_if_eq zk_144_7 (by omega) (pc' := 10) rfl (fun h2 => ?_) (fun h3 => ?_)
  · exfalso; omega
  ·
    refine T_ld zk_144_10 rfl rfl rfl (pc' := 11) rfl ?_
    refine T_ld zk_144_11 rfl rfl rfl (pc' := 12) rfl ?_
    refine T_calli (K := fun y4 σ' => (y4 = y1) ∧ (fun σ' => IF (MT 49 49 49 49) σ σ' ∧ True) σ') (r := []) zk_144_12 rfl rfl rfl rfl rfl rfl (Or.inr ⟨_, _, _, _, rfl, vd_35, rfl⟩) (fun σ' h => (m_123 y1 (by omega) σ' h.1.1 ).le (Nat.le_of_ble_eq_true rfl) (fun v σ2 ⟨y, h1, h2, h3, h4⟩ => ⟨y, h1, h2, h.1.tr h3 (fun _ _ _ _ h => h), trivial⟩)) (pc' := 15) rfl (fun y4 => ?_)
    refine G_ex (fun hy4 => ?_)
    obtain rfl : y4 = y1 := by omega
    exact T_iret zk_144_15 rfl (fun σ' h => ⟨_, rfl, (by omega), h.1, trivial⟩)
/-- WModel.seaAt -/
theorem m_seaAt {xs : Nat × (Nat → Int32)} (p0 : Int) (p1 : Int) (h0 : -2147483648 ≤ p0 ∧ p0 ≤ 2147483647) (h1 : 0 ≤ p1 ∧ p1 ≤ 1) (σ : ZS) (hI : Inv σ) (hm : ∀ t i k j, 35 ≤ t → σ t i k j = σ0 t i k j)  : CT xs 2 146 [av 35 0 0, iv p0, iv p1] σ (fun v σ' => ∃ y, v = some (iv y) ∧ ((y = 1000 ∧ (p0 < 0)) ∨ (y = 0 ∧ ¬ (p0 < 0))) ∧ IF MN σ σ' ∧ (True)) := by
  refine G_ct (J := (fun σ' => IF MN σ σ' ∧ True)) (L := [(0, av 35 0 0), (1, iv p0), (2, iv p1)]) (nL := 3) rfl rfl rfl ⟨IF.rf hI, trivial⟩ ?_
  refine T_ld zk_146_0 rfl rfl rfl (pc' := 1) rfl ?_
  refine T_if_ge zk_146_1 (by omega) (pc' := 4) rfl (fun h1 => ?_) (fun h2 => ?_)
  ·
    refine T_ld zk_146_10 rfl rfl rfl (pc' := 11) rfl ?_
    refine T_ld zk_146_11 rfl rfl rfl (pc' := 12) rfl ?_
    refine T_ld zk_146_12 rfl rfl rfl (pc' := 13) rfl ?_
    refine T_calli (K := fun y3 σ' => (y3 = 0) ∧ (fun σ' => IF MN σ σ' ∧ True) σ') (r := []) zk_146_13 rfl rfl rfl rfl rfl rfl (Or.inr ⟨_, _, _, _, rfl, vd_35, rfl⟩) (fun σ' h => (m_145e p0 p1 (by omega) (by omega) σ' h.1.1 ((h.1.2 _ _ _ _ (fun q => q)).trans ((hm _ _ _ _ (by decide)).trans (s0_z (by omega)))) ((h.1.2 _ _ _ _ (fun q => q)).trans ((hm _ _ _ _ (by decide)).trans (s0_z (by omega))))).le (Nat.le_of_ble_eq_true rfl) (fun v σ2 ⟨y, h1, h2, h3, h4⟩ => ⟨y, h1, h2, h.1.tr h3 MN_sub, trivial⟩)) (pc' := 16) rfl (fun y3 => ?_)
    refine G_ex (fun hy3 => ?_)
    obtain rfl : y3 = 0 := by omega
    exact T_iret zk_146_16 rfl (fun σ' h => ⟨_, rfl, (by omega), h.1, trivial⟩)
  ·
    refine T_op zk_146_4 rfl (X_si (v := 1000) (by decide)) (pc' := 7) rfl ?_
    refine T_goto zk_146_7 ?_
    exact T_iret zk_146_16 rfl (fun σ' h => ⟨_, rfl, (by omega), h.1, trivial⟩)
/-- WModel.law -/
theorem m_law {xs : Nat × (Nat → Int32)} (p0 : Int) (h0 : -2147483648 ≤ p0 ∧ p0 ≤ 2147483647) (σ : ZS) (hI : Inv σ) (hm : ∀ t i k j, 35 ≤ t → σ t i k j = σ0 t i k j)  : CT xs 3 155 [av 35 0 0, iv p0] σ (fun v σ' => ∃ y, v = some (iv y) ∧ ((y = -1 ∧ (¬ (0 ≤ p0 ∧ p0 ≤ 7))) ∨ (y = -3 ∧ ¬ (¬ (0 ≤ p0 ∧ p0 ≤ 7)))) ∧ IF (MT 49 49 49 49) σ σ' ∧ (True)) := by
  refine G_ct (J := (fun σ' => IF (MT 49 49 49 49) σ σ' ∧ True)) (L := [(0, av 35 0 0), (1, iv p0)]) (nL := 4) rfl rfl rfl ⟨IF.rf hI, trivial⟩ ?_
  refine T_ld zk_155_0 rfl rfl rfl (pc' := 1) rfl ?_
  refine T_ld zk_155_1 rfl rfl rfl (pc' := 2) rfl ?_
  refine T_calli (K := fun y1 σ' => ((y1 = -1 ∧ (p0 < 0 ∨ 7 < p0)) ∨ (y1 = -3 ∧ 0 ≤ p0 ∧ p0 ≤ 7)) ∧ (fun σ' => IF (MT 49 49 49 49) σ σ' ∧ True) σ') (r := []) zk_155_2 rfl rfl rfl rfl rfl rfl (Or.inr ⟨_, _, _, _, rfl, vd_35, rfl⟩) (fun σ' h => (m_143e p0 (by omega) σ' h.1.1 (fun j a b => (h.1.2 _ _ _ _ (by unfold MT; omega)).trans (hm _ _ _ _ (by decide)))).le (Nat.le_of_ble_eq_true rfl) (fun v σ2 ⟨y, h1, h2, h3, h4⟩ => ⟨y, h1, h2, h.1.tr h3 MN_sub, trivial⟩)) (pc' := 5) rfl (fun y1 => ?_)
  refine G_ex (fun hy1 => ?_)
  refine T_st (L' := [(0, av 35 0 0), (1, iv p0), (2, iv y1)]) zk_155_5 (nL := 4) rfl rfl rfl rfl rfl (pc' := 6) rfl ?_
  refine T_ld zk_155_6 rfl rfl rfl (pc' := 7) rfl ?_
  refine T_if_eq zk_155_7 (by omega) (pc' := 10) rfl (fun h2 => ?_) (fun h3 => ?_)
  · exfalso; omega
  ·
    refine T_ld zk_155_10 rfl rfl rfl (pc' := 11) rfl ?_
    refine T_ld zk_155_11 rfl rfl rfl (pc' := 12) rfl ?_
    refine T_calli (K := fun y4 σ' => (y4 = y1) ∧ (fun σ' => IF (MT 49 49 49 49) σ σ' ∧ True) σ') (r := []) zk_155_12 rfl rfl rfl rfl rfl rfl (Or.inr ⟨_, _, _, _, rfl, vd_35, rfl⟩) (fun σ' h => (m_123 y1 (by omega) σ' h.1.1 ).le (Nat.le_of_ble_eq_true rfl) (fun v σ2 ⟨y, h1, h2, h3, h4⟩ => ⟨y, h1, h2, h.1.tr h3 (fun _ _ _ _ h => h), trivial⟩)) (pc' := 15) rfl (fun y4 => ?_)
    refine G_ex (fun hy4 => ?_)
    obtain rfl : y4 = y1 := by omega
    exact T_iret zk_155_15 rfl (fun σ' h => ⟨_, rfl, (by omega), h.1, trivial⟩)
/-- WModel.fault -/
theorem m_fault {xs : Nat × (Nat → Int32)}   (σ : ZS) (hI : Inv σ) (hm : ∀ t i k j, 35 ≤ t → σ t i k j = σ0 t i k j)  : CT xs 1 156 [av 35 0 0] σ (fun v σ' => ∃ y, v = some (iv y) ∧ (y = -1) ∧ IF MN σ σ' ∧ (True)) := by
  refine G_ct (J := (fun σ' => IF MN σ σ' ∧ True)) (L := [(0, av 35 0 0)]) (nL := 1) rfl rfl rfl ⟨IF.rf hI, trivial⟩ ?_
  refine T_ld zk_156_0 rfl rfl rfl (pc' := 1) rfl ?_
  refine G_getX (w := (-1)) zk_156_1 rfl vd_35 (fun σ' h => (h.1.2 _ _ _ _ (fun q => q)).trans (hm _ _ _ _ (by decide))) (pc' := 4) rfl ?_
  exact T_iret zk_156_4 rfl (fun σ' h => ⟨_, rfl, (by omega), h.1, trivial⟩)
/-- WModel.force -/
theorem m_force {xs : Nat × (Nat → Int32)} (p0 : Int) (p1 : Int) (h0 : -2147483648 ≤ p0 ∧ p0 ≤ 2147483647) (h1 : 0 ≤ p1 ∧ p1 ≤ 1) (σ : ZS) (hI : Inv σ) (hm : ∀ t i k j, 35 ≤ t → σ t i k j = σ0 t i k j)  : CT xs 2 158 [av 35 0 0, iv p0, iv p1] σ (fun v σ' => ∃ y, v = some (iv y) ∧ (y = -1) ∧ IF (MT 49 49 49 49) σ σ' ∧ (True)) := by
  refine G_ct (J := (fun σ' => IF (MT 49 49 49 49) σ σ' ∧ True)) (L := [(0, av 35 0 0), (1, iv p0), (2, iv p1)]) (nL := 3) rfl rfl rfl ⟨IF.rf hI, trivial⟩ ?_
  refine T_ld zk_158_0 rfl rfl rfl (pc' := 1) rfl ?_
  refine T_ld zk_158_1 rfl rfl rfl (pc' := 2) rfl ?_
  refine T_calli (K := fun y1 σ' => (y1 = 0) ∧ (fun σ' => IF (MT 49 49 49 49) σ σ' ∧ True) σ') (r := []) zk_158_2 rfl rfl rfl rfl rfl rfl (Or.inr ⟨_, _, _, _, rfl, vd_35, rfl⟩) (fun σ' h => (m_157e p0 (by omega) σ' h.1.1 ((h.1.2 _ _ _ _ (by unfold MT; omega)).trans ((hm _ _ _ _ (by decide)).trans (s0_z (by omega))))).le (Nat.le_of_ble_eq_true rfl) (fun v σ2 ⟨y, h1, h2, h3, h4⟩ => ⟨y, h1, h2, h.1.tr h3 MN_sub, trivial⟩)) (pc' := 5) rfl (fun y1 => ?_)
  refine G_ex (fun hy1 => ?_)
  obtain rfl : y1 = 0 := by omega
  refine T_if_eq zk_158_5 (by omega) (pc' := 8) rfl (fun h2 => ?_) (fun h3 => ?_)
  ·
    refine T_ld zk_158_21 rfl rfl rfl (pc' := 22) rfl ?_
    refine T_op zk_158_22 rfl X_ic (pc' := 23) rfl ?_
    refine T_calli (K := fun y4 σ' => (y4 = (-1)) ∧ (fun σ' => IF (MT 49 49 49 49) σ σ' ∧ True) σ') (r := []) zk_158_23 rfl rfl rfl rfl rfl rfl (Or.inr ⟨_, _, _, _, rfl, vd_35, rfl⟩) (fun σ' h => (m_123 ((-1)) (by omega) σ' h.1.1 ).le (Nat.le_of_ble_eq_true rfl) (fun v σ2 ⟨y, h1, h2, h3, h4⟩ => ⟨y, h1, h2, h.1.tr h3 (fun _ _ _ _ h => h), trivial⟩)) (pc' := 26) rfl (fun y4 => ?_)
    refine G_ex (fun hy4 => ?_)
    obtain rfl : y4 = (-1) := by omega
    exact T_iret zk_158_26 rfl (fun σ' h => ⟨_, rfl, (by omega), h.1, trivial⟩)
  · exfalso; omega
/-- WModel.says -/
theorem m_says {xs : Nat × (Nat → Int32)} (p0 : Int) (h0 : -2147483648 ≤ p0 ∧ p0 ≤ 2147483647) (σ : ZS) (hI : Inv σ) (hm : ∀ t i k j, 35 ≤ t → σ t i k j = σ0 t i k j)  : CT xs 2 163 [av 35 0 0, iv p0] σ (fun v σ' => ∃ y, v = some (iv y) ∧ (y = -1) ∧ IF MN σ σ' ∧ (True)) := by
  refine G_ct (J := (fun σ' => IF MN σ σ' ∧ True)) (L := [(0, av 35 0 0), (1, iv p0)]) (nL := 2) rfl rfl rfl ⟨IF.rf hI, trivial⟩ ?_
  refine T_ld zk_163_0 rfl rfl rfl (pc' := 1) rfl ?_
  refine T_ld zk_163_1 rfl rfl rfl (pc' := 2) rfl ?_
  refine T_calli (K := fun y1 σ' => (y1 = 0) ∧ (fun σ' => IF MN σ σ' ∧ True) σ') (r := []) zk_163_2 rfl rfl rfl rfl rfl rfl (Or.inr ⟨_, _, _, _, rfl, vd_35, rfl⟩) (fun σ' h => (m_157e p0 (by omega) σ' h.1.1 ((h.1.2 _ _ _ _ (fun q => q)).trans ((hm _ _ _ _ (by decide)).trans (s0_z (by omega))))).le (Nat.le_of_ble_eq_true rfl) (fun v σ2 ⟨y, h1, h2, h3, h4⟩ => ⟨y, h1, h2, h.1.tr h3 MN_sub, trivial⟩)) (pc' := 5) rfl (fun y1 => ?_)
  refine G_ex (fun hy1 => ?_)
  obtain rfl : y1 = 0 := by omega
  refine T_if_eq zk_163_5 (by omega) (pc' := 8) rfl (fun h2 => ?_) (fun h3 => ?_)
  ·
    refine T_op zk_163_24 rfl X_ic (pc' := 25) rfl ?_
    exact T_iret zk_163_25 rfl (fun σ' h => ⟨_, rfl, (by omega), h.1, trivial⟩)
  · exfalso; omega
