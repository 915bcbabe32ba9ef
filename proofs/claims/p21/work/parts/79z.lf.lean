theorem k_154f {xs : Nat × (Nat → Int32)} (p0 p1 m : Int) (F G H : Nat → Int) (hp0 : 0 ≤ p0 ∧ p0 ≤ 7) (hp1 : 0 ≤ p1 ∧ p1 ≤ 5) (hm : 0 ≤ m ∧ m ≤ 96) (σ : ZS) (hI : Inv σ) (s1 : Eq (σ 44 0 0) F) (s2 : Eq (σ 45 0 0) G) (s3 : Eq (σ 41 0 0) H) (s4 : σ 39 0 0 (Int.toNat p0) = m) : CT xs 7 154 [av 35 0 0, iv p0, iv p1] σ (fun v σ' => ∃ y, v = some (iv y) ∧ (y = LAWF (LC H (96 * p0)) m ∧ -1 ≤ y ∧ y ≤ 96) ∧ IF (MCo (Int.toNat p1)) σ σ' ∧ ((Eo (σ' 44 0 0) (Int.toNat p1) F) ∧ (Er (σ' 45 0 0) (Int.toNat p1) G) ∧ (y = -1 → okc (σ' 45 0 0) (Int.toNat (120 * p1)) (Int.toNat (σ' 44 0 0 (Int.toNat p1)))) ∧ True)) :=
  (k_154 p0 p1 m H hp0 hp1 hm σ hI s3 s4).le (Nat.le_refl _) (fun v σ' ⟨y, h1, h2, h3, h4⟩ => ⟨y, h1, h2, h3, fun q hq => (h3.2 44 0 0 q (by unfold MCo; omega)).trans (congrFun s1 q), fun q hq => (h3.2 45 0 0 q (by unfold MCo; omega)).trans (congrFun s2 q), h4.1, trivial⟩)
/-- WModel.law -/
theorem r_155o {xs : Nat × (Nat → Int32)} (p0 : Int) (hp0 : -2147483648 ≤ p0 ∧ p0 ≤ 2147483647) (ho : p0 < 0 ∨ 7 < p0) (σ : ZS) (hI : Inv σ)   : CT xs 3 155 [av 35 0 0, iv p0] σ (fun v σ' => ∃ y, v = some (iv y) ∧ (y = -1) ∧ IF (MT 49 49 49 49) σ σ' ∧ (True)) := by
  refine G_ct (J := (fun σ' => IF (MT 49 49 49 49) σ σ' ∧ True)) (L := [(0, av 35 0 0), (1, iv p0)]) (nL := 4) rfl rfl rfl ⟨IF.rf hI, trivial⟩ ?_
  refine T_ld zk_155_0 rfl rfl rfl (pc' := 1) rfl ?_
  refine T_ld zk_155_1 rfl rfl rfl (pc' := 2) rfl ?_
  refine T_calli (K := fun y1 σ' => ((y1 = -1 ∧ (p0 < 0 ∨ 7 < p0)) ∨ ((y1 = -3 ∨ y1 = -2 ∨ y1 = 0) ∧ 0 ≤ p0 ∧ p0 ≤ 7)) ∧ (fun σ' => IF (MT 49 49 49 49) σ σ' ∧ True) σ') (r := []) zk_155_2 rfl rfl rfl rfl rfl rfl (Or.inr ⟨_, _, _, _, rfl, vd_35, rfl⟩) (fun σ' h => (m_143 p0 (by omega) σ' h.1.1 ).le (Nat.le_of_ble_eq_true rfl) (fun v σ2 ⟨y, h1, h2, h3, h4⟩ => ⟨y, h1, h2, h.1.tr h3 MN_sub, trivial⟩)) (pc' := 5) rfl (fun y1 => ?_)
  refine G_ex (fun hy1 => ?_)
  refine T_st (L' := [(0, av 35 0 0), (1, iv p0), (2, iv y1)]) zk_155_5 (nL := 4) rfl rfl rfl rfl rfl (pc' := 6) rfl ?_
  refine T_ld zk_155_6 rfl rfl rfl (pc' := 7) rfl ?_
  refine T_if_eq zk_155_7 (by omega) (pc' := 10) rfl (fun h2 => ?_) (fun h3 => ?_)
  · exfalso; omega
  ·
    refine T_ld zk_155_10 rfl rfl rfl (pc' := 11) rfl ?_
    refine T_ld zk_155_11 rfl rfl rfl (pc' := 12) rfl ?_
    refine T_calli (K := fun y4 σ' => (y4 = y1) ∧ (fun σ' => IF (MT 49 49 49 49) σ σ' ∧ True) σ') (r := []) zk_155_12 rfl rfl rfl rfl rfl rfl (Or.inr ⟨_, _, _, _, rfl, vd_35, rfl⟩) (fun σ' h => (m_123 y1 (by omega) σ' h.1.1 ).le (Nat.le_of_ble_eq_true rfl) (fun v σ2 ⟨y, h1, h2, h3, h4⟩ => ⟨y, h1, h2, h.1.tr h3 (fun _ _ _ _ h => h), trivial⟩)) (pc' := 15) rfl (fun y4 => ?_)
    refine G_ex (fun hy4 => ?_)
    obtain rfl : y4 = y1 := by omega
    exact T_iret zk_155_15 rfl (fun σ' h => ⟨_, rfl, (by omega), h.1, trivial⟩)
