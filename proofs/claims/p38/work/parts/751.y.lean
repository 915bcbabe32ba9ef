/-- W$City.takeCity -/
theorem s_22w_0 {xs : Nat × (Nat → Int32)}  (a6 : Int) (a7 : Int) (a10 : Int) (a11 : Int) (a12 : Int) (a13 : Int) (F G H : Nat → Int) (ha6 : 0 ≤ a6 ∧ a6 ≤ 12) (ha7 : 0 ≤ a7 ∧ a7 ≤ 6) (ha10 : 0 ≤ a10 ∧ a10 ≤ 99) (ha11 : 1 ≤ a11 ∧ a11 ≤ 9) (ha12 : 0 ≤ a12 ∧ a12 ≤ 9999) (ha13 : -2147483648 ≤ a13 ∧ a13 ≤ 2147483647) (σ : ZS) (hI : Inv σ)  (s0 : σ 1 1 0 6 = a6) (s1 : σ 1 1 0 7 = a7) (s2 : σ 1 1 0 10 = a10) (s3 : σ 1 1 0 11 = a11) (s4 : σ 1 1 0 12 = a12) (s5 : σ 1 1 0 13 = a13) (r0 : (∀ j, 0 ≤ j → j < 40 → σ 7 1 0 j = F j)) (r1 : (∀ j, 0 ≤ j → j < 40 → σ 8 1 0 j = G j)) (r2 : (∀ j, 0 ≤ j → j < 40 → σ 9 1 0 j = H j)) : CT xs 3 22 [av 1 0 0, av 1 1 0] σ (fun v σ' => v = none ∧ IF (MY 0) σ σ' ∧ (σ' 1 0 0 6 = a6 ∧ σ' 1 0 0 7 = a7 ∧ σ' 1 0 0 10 = a10 ∧ σ' 1 0 0 11 = a11 ∧ σ' 1 0 0 12 = a12 ∧ σ' 1 0 0 13 = a13 ∧ (∀ j, 0 ≤ j → j < 40 → σ' 7 0 0 j = F j) ∧ (∀ j, 0 ≤ j → j < 40 → σ' 8 0 0 j = G j) ∧ (∀ j, 0 ≤ j → j < 40 → σ' 9 0 0 j = H j) ∧ True)) := by
  refine G_ct (J := (fun σ' => IF (MY 0) σ σ' ∧ True)) (L := [(0, av 1 0 0), (1, av 1 1 0)]) (nL := 3) rfl rfl rfl ⟨IF.rf hI, trivial⟩ ?_
  refine T_ld zk_22_0 rfl rfl rfl (pc' := 1) rfl ?_
  refine T_getR (t' := 2) (i' := 0) (k' := 0) zk_22_1 rfl rfl rfl (vd_1 (by omega)) (pc' := 4) rfl ?_
  refine T_ld zk_22_4 rfl rfl rfl (pc' := 5) rfl ?_
  refine T_getR (t' := 2) (i' := 1) (k' := 0) zk_22_5 rfl rfl rfl (vd_1 (by omega)) (pc' := 8) rfl ?_
  refine T_callv (J' := (fun σ' => IF (MY 0) σ σ' ∧ (∀ j, 0 ≤ j → j < 40 → σ' 7 0 0 j = F j) ∧ (∀ j, 0 ≤ j → j < 40 → σ' 8 0 0 j = G j) ∧ (∀ j, 0 ≤ j → j < 40 → σ' 9 0 0 j = H j) ∧ True)) (r := []) zk_22_8 rfl rfl rfl rfl rfl rfl (Or.inr ⟨_, _, _, _, rfl, (vd_2 (by omega)), rfl⟩) (fun σ' h => (s_39_0 F G H  σ' h.1.1 (fun j a b => (h.1.2 _ _ _ _ (by first | exact nMY rfl | (unfold MY; omega))).trans (r0 j (by omega) (by omega))) (fun j a b => (h.1.2 _ _ _ _ (by first | exact nMY rfl | (unfold MY; omega))).trans (r1 j (by omega) (by omega))) (fun j a b => (h.1.2 _ _ _ _ (by first | exact nMY rfl | (unfold MY; omega))).trans (r2 j (by omega) (by omega)))).le (Nat.le_of_ble_eq_true rfl) (fun v σ2 ⟨h1, h3, h4⟩ => ⟨h1, h.1.tr h3 sb72_5cb13b0, h4.1, h4.2.1, h4.2.2.1, trivial⟩)) (pc' := 11) rfl ?_
  refine T_ld zk_22_11 rfl rfl rfl (pc' := 12) rfl ?_
  refine T_getR (t' := 11) (i' := 0) (k' := 0) zk_22_12 rfl rfl rfl (vd_1 (by omega)) (pc' := 15) rfl ?_
  refine T_ld zk_22_15 rfl rfl rfl (pc' := 16) rfl ?_
  refine T_getR (t' := 11) (i' := 1) (k' := 0) zk_22_16 rfl rfl rfl (vd_1 (by omega)) (pc' := 19) rfl ?_
  refine T_callv (J' := (fun σ' => IF (MY 0) σ σ' ∧ (∀ j, 0 ≤ j → j < 40 → σ' 7 0 0 j = F j) ∧ (∀ j, 0 ≤ j → j < 40 → σ' 8 0 0 j = G j) ∧ (∀ j, 0 ≤ j → j < 40 → σ' 9 0 0 j = H j) ∧ True)) (r := []) zk_22_19 rfl rfl rfl rfl rfl rfl (Or.inr ⟨_, _, _, _, rfl, (vd_11 (by omega)), rfl⟩) (fun σ' h => (w_64 0 1 (by omega) (by omega) σ' h.1.1 ).le (Nat.le_of_ble_eq_true rfl) (fun v σ2 ⟨h1, h3, h4⟩ => ⟨h1, h.1.tr h3 sb72_1cca568, fun j a b => (h3.2 _ _ _ _ (by first | exact nMI rfl | (unfold MI; omega))).trans (h.2.1 j a b), fun j a b => (h3.2 _ _ _ _ (by first | exact nMI rfl | (unfold MI; omega))).trans (h.2.2.1 j a b), fun j a b => (h3.2 _ _ _ _ (by first | exact nMI rfl | (unfold MI; omega))).trans (h.2.2.2.1 j a b), trivial⟩)) (pc' := 22) rfl ?_
  refine T_ld zk_22_22 rfl rfl rfl (pc' := 23) rfl ?_
  refine T_getR (t' := 17) (i' := 0) (k' := 0) zk_22_23 rfl rfl rfl (vd_1 (by omega)) (pc' := 26) rfl ?_
  refine T_ld zk_22_26 rfl rfl rfl (pc' := 27) rfl ?_
  refine T_getR (t' := 17) (i' := 1) (k' := 0) zk_22_27 rfl rfl rfl (vd_1 (by omega)) (pc' := 30) rfl ?_
  refine T_callv (J' := (fun σ' => IF (MY 0) σ σ' ∧ (∀ j, 0 ≤ j → j < 40 → σ' 7 0 0 j = F j) ∧ (∀ j, 0 ≤ j → j < 40 → σ' 8 0 0 j = G j) ∧ (∀ j, 0 ≤ j → j < 40 → σ' 9 0 0 j = H j) ∧ True)) (r := []) zk_22_30 rfl rfl rfl rfl rfl rfl (Or.inr ⟨_, _, _, _, rfl, (vd_17 (by omega) (by omega)), rfl⟩) (fun σ' h => (w_72 0 0 1 (by omega) (by omega) (by omega) σ' h.1.1 ).le (Nat.le_of_ble_eq_true rfl) (fun v σ2 ⟨h1, h3, h4⟩ => ⟨h1, h.1.tr h3 sb72_c835090, fun j a b => (h3.2 _ _ _ _ (by first | exact nMYt rfl | (unfold MYt; omega))).trans (h.2.1 j a b), fun j a b => (h3.2 _ _ _ _ (by first | exact nMYt rfl | (unfold MYt; omega))).trans (h.2.2.1 j a b), fun j a b => (h3.2 _ _ _ _ (by first | exact nMYt rfl | (unfold MYt; omega))).trans (h.2.2.2.1 j a b), trivial⟩)) (pc' := 33) rfl ?_
  refine T_ld zk_22_33 rfl rfl rfl (pc' := 34) rfl ?_
  refine T_getR (t' := 17) (i' := 0) (k' := 1) zk_22_34 rfl rfl rfl (vd_1 (by omega)) (pc' := 37) rfl ?_
  refine T_ld zk_22_37 rfl rfl rfl (pc' := 38) rfl ?_
  refine T_getR (t' := 17) (i' := 1) (k' := 1) zk_22_38 rfl rfl rfl (vd_1 (by omega)) (pc' := 41) rfl ?_
  refine T_callv (J' := (fun σ' => IF (MY 0) σ σ' ∧ (∀ j, 0 ≤ j → j < 40 → σ' 7 0 0 j = F j) ∧ (∀ j, 0 ≤ j → j < 40 → σ' 8 0 0 j = G j) ∧ (∀ j, 0 ≤ j → j < 40 → σ' 9 0 0 j = H j) ∧ True)) (r := []) zk_22_41 rfl rfl rfl rfl rfl rfl (Or.inr ⟨_, _, _, _, rfl, (vd_17 (by omega) (by omega)), rfl⟩) (fun σ' h => (w_72 0 1 1 (by omega) (by omega) (by omega) σ' h.1.1 ).le (Nat.le_of_ble_eq_true rfl) (fun v σ2 ⟨h1, h3, h4⟩ => ⟨h1, h.1.tr h3 sb72_1529f72, fun j a b => (h3.2 _ _ _ _ (by first | exact nMYt rfl | (unfold MYt; omega))).trans (h.2.1 j a b), fun j a b => (h3.2 _ _ _ _ (by first | exact nMYt rfl | (unfold MYt; omega))).trans (h.2.2.1 j a b), fun j a b => (h3.2 _ _ _ _ (by first | exact nMYt rfl | (unfold MYt; omega))).trans (h.2.2.2.1 j a b), trivial⟩)) (pc' := 44) rfl ?_
  refine T_ld zk_22_44 rfl rfl rfl (pc' := 45) rfl ?_
  refine T_ld zk_22_45 rfl rfl rfl (pc' := 46) rfl ?_
  refine G_getf (lo := 0) (hi := 5) zk_22_46 rfl (vd_1 (by omega)) (fun σ' h => h.1.1) (fun _ h => h.2.1 (by omega) (by omega)) (pc' := 49) rfl (fun y5 hy5 hy5' => ?_)
  refine T_putf (J' := (fun σ' => IF (MY 0) σ σ' ∧ (∀ j, 0 ≤ j → j < 40 → σ' 7 0 0 j = F j) ∧ (∀ j, 0 ≤ j → j < 40 → σ' 8 0 0 j = G j) ∧ (∀ j, 0 ≤ j → j < 40 → σ' 9 0 0 j = H j) ∧ σ' 1 0 0 5 = y5 ∧ True)) zk_22_49 rfl rfl (vd_1 (by omega)) (fun σ' h => ⟨h.1.up (by simp only [rgP] <;> omega) (by unfold MY; omega), fun j a b => (up_ne (by omega)).trans (h.2.1 j a b), fun j a b => (up_ne (by omega)).trans (h.2.2.1 j a b), fun j a b => (up_ne (by omega)).trans (h.2.2.2.1 j a b), up_eq, trivial⟩) (pc' := 52) rfl ?_
  refine T_op zk_22_52 rfl X_ic (pc' := 53) rfl ?_
  refine T_st (L' := [(0, av 1 0 0), (1, av 1 1 0), (2, iv 0)]) zk_22_53 (nL := 3) rfl rfl rfl rfl rfl (pc' := 54) rfl ?_
  refine G_know (J' := (fun σ' => IF (MY 0) σ σ' ∧ (∀ j, 0 ≤ j → j < 40 → σ' 7 0 0 j = F j) ∧ (∀ j, 0 ≤ j → j < 40 → σ' 8 0 0 j = G j) ∧ (∀ j, 0 ≤ j → j < 40 → σ' 9 0 0 j = H j) ∧ True)) (fun σ' h => ⟨h.1, h.2.1, h.2.2.1, h.2.2.2.1, trivial⟩) ?_
  refine T_loop1 (fun x6 => ((5 - x6 : Int)).toNat) (fun x6 => (0 ≤ x6 ∧ x6 ≤ 5)) (fun x6 => TJ xs (fun σ' => IF (MY 0) σ σ' ∧ (∀ j, 0 ≤ j → j < 40 → σ' 7 0 0 j = F j) ∧ (∀ j, 0 ≤ j → j < 40 → σ' 8 0 0 j = G j) ∧ (∀ j, 0 ≤ j → j < 40 → σ' 9 0 0 j = H j) ∧ True) 2 22 54 [(0, av 1 0 0), (1, av 1 1 0), (2, iv x6)] [] _) ?_ 0 (by omega)
  intro x6 hp8 ih7
  refine T_ld zk_22_54 rfl rfl rfl (pc' := 55) rfl ?_
  refine T_ld zk_22_55 rfl rfl rfl (pc' := 56) rfl ?_
  refine G_getf (lo := 0) (hi := 5) zk_22_56 rfl (vd_1 (by omega)) (fun σ' h => h.1.1) (fun _ h => h.2.1 (by omega) (by omega)) (pc' := 59) rfl (fun y9 hy9 hy9' => ?_)
  refine T_icmp_ge zk_22_59 (by omega) (by omega) (pc' := 62) rfl (fun h10 => ?_) (fun h11 => ?_)
  ·
    refine T_ld zk_22_83 rfl rfl rfl (pc' := 84) rfl ?_
    refine T_ld zk_22_84 rfl rfl rfl (pc' := 85) rfl ?_
    refine G_getX (w := a6) zk_22_85 rfl (vd_1 (by omega)) (fun σ' h => (h.1.2 _ _ _ _ (by first | exact nMY rfl | (unfold MY; omega))).trans s0) (pc' := 88) rfl ?_
    refine T_putf (J' := (fun σ' => IF (MY 0) σ σ' ∧ (∀ j, 0 ≤ j → j < 40 → σ' 7 0 0 j = F j) ∧ (∀ j, 0 ≤ j → j < 40 → σ' 8 0 0 j = G j) ∧ (∀ j, 0 ≤ j → j < 40 → σ' 9 0 0 j = H j) ∧ σ' 1 0 0 6 = a6 ∧ True)) zk_22_88 rfl rfl (vd_1 (by omega)) (fun σ' h => ⟨h.1.up (by simp only [rgP] <;> omega) (by unfold MY; omega), fun j a b => (up_ne (by omega)).trans (h.2.1 j a b), fun j a b => (up_ne (by omega)).trans (h.2.2.1 j a b), fun j a b => (up_ne (by omega)).trans (h.2.2.2.1 j a b), up_eq, trivial⟩) (pc' := 91) rfl ?_
    refine T_op zk_22_91 rfl X_ic (pc' := 92) rfl ?_
    refine T_st (L' := [(0, av 1 0 0), (1, av 1 1 0), (2, iv 0)]) zk_22_92 (nL := 3) rfl rfl rfl rfl rfl (pc' := 93) rfl ?_
    refine G_know (J' := (fun σ' => IF (MY 0) σ σ' ∧ σ' 1 0 0 6 = a6 ∧ (∀ j, 0 ≤ j → j < 40 → σ' 7 0 0 j = F j) ∧ (∀ j, 0 ≤ j → j < 40 → σ' 8 0 0 j = G j) ∧ (∀ j, 0 ≤ j → j < 40 → σ' 9 0 0 j = H j) ∧ True)) (fun σ' h => ⟨h.1, h.2.2.2.2.1, h.2.1, h.2.2.1, h.2.2.2.1, trivial⟩) ?_
    refine T_loop1 (fun x12 => ((12 - x12 : Int)).toNat) (fun x12 => (0 ≤ x12 ∧ x12 ≤ 12)) (fun x12 => TJ xs (fun σ' => IF (MY 0) σ σ' ∧ σ' 1 0 0 6 = a6 ∧ (∀ j, 0 ≤ j → j < 40 → σ' 7 0 0 j = F j) ∧ (∀ j, 0 ≤ j → j < 40 → σ' 8 0 0 j = G j) ∧ (∀ j, 0 ≤ j → j < 40 → σ' 9 0 0 j = H j) ∧ True) 2 22 93 [(0, av 1 0 0), (1, av 1 1 0), (2, iv x12)] [] _) ?_ 0 (by omega)
    intro x12 hp14 ih13
    refine T_ld zk_22_93 rfl rfl rfl (pc' := 94) rfl ?_
    refine T_ld zk_22_94 rfl rfl rfl (pc' := 95) rfl ?_
    refine G_getX (w := a6) zk_22_95 rfl (vd_1 (by omega)) (fun σ' h => h.2.1) (pc' := 98) rfl ?_
    refine T_icmp_ge zk_22_98 (by omega) (by omega) (pc' := 101) rfl (fun h15 => ?_) (fun h16 => ?_)
    ·
      refine T_ld zk_22_122 rfl rfl rfl (pc' := 123) rfl ?_
      refine T_ld zk_22_123 rfl rfl rfl (pc' := 124) rfl ?_
      refine G_getX (w := a7) zk_22_124 rfl (vd_1 (by omega)) (fun σ' h => (h.1.2 _ _ _ _ (by first | exact nMY rfl | (unfold MY; omega))).trans s1) (pc' := 127) rfl ?_
      refine T_putf (J' := (fun σ' => IF (MY 0) σ σ' ∧ σ' 1 0 0 6 = a6 ∧ (∀ j, 0 ≤ j → j < 40 → σ' 7 0 0 j = F j) ∧ (∀ j, 0 ≤ j → j < 40 → σ' 8 0 0 j = G j) ∧ (∀ j, 0 ≤ j → j < 40 → σ' 9 0 0 j = H j) ∧ σ' 1 0 0 7 = a7 ∧ True)) zk_22_127 rfl rfl (vd_1 (by omega)) (fun σ' h => ⟨h.1.up (by simp only [rgP] <;> omega) (by unfold MY; omega), (up_ne (by omega)).trans (h.2.1), fun j a b => (up_ne (by omega)).trans (h.2.2.1 j a b), fun j a b => (up_ne (by omega)).trans (h.2.2.2.1 j a b), fun j a b => (up_ne (by omega)).trans (h.2.2.2.2.1 j a b), up_eq, trivial⟩) (pc' := 130) rfl ?_
      refine T_op zk_22_130 rfl X_ic (pc' := 131) rfl ?_
      refine T_st (L' := [(0, av 1 0 0), (1, av 1 1 0), (2, iv 0)]) zk_22_131 (nL := 3) rfl rfl rfl rfl rfl (pc' := 132) rfl ?_
      refine G_know (J' := (fun σ' => IF (MY 0) σ σ' ∧ σ' 1 0 0 6 = a6 ∧ σ' 1 0 0 7 = a7 ∧ (∀ j, 0 ≤ j → j < 40 → σ' 7 0 0 j = F j) ∧ (∀ j, 0 ≤ j → j < 40 → σ' 8 0 0 j = G j) ∧ (∀ j, 0 ≤ j → j < 40 → σ' 9 0 0 j = H j) ∧ True)) (fun σ' h => ⟨h.1, h.2.1, h.2.2.2.2.2.1, h.2.2.1, h.2.2.2.1, h.2.2.2.2.1, trivial⟩) ?_
      refine T_loop1 (fun x17 => ((6 - x17 : Int)).toNat) (fun x17 => (0 ≤ x17 ∧ x17 ≤ 6)) (fun x17 => TJ xs (fun σ' => IF (MY 0) σ σ' ∧ σ' 1 0 0 6 = a6 ∧ σ' 1 0 0 7 = a7 ∧ (∀ j, 0 ≤ j → j < 40 → σ' 7 0 0 j = F j) ∧ (∀ j, 0 ≤ j → j < 40 → σ' 8 0 0 j = G j) ∧ (∀ j, 0 ≤ j → j < 40 → σ' 9 0 0 j = H j) ∧ True) 2 22 132 [(0, av 1 0 0), (1, av 1 1 0), (2, iv x17)] [] _) ?_ 0 (by omega)
      intro x17 hp19 ih18
      refine T_ld zk_22_132 rfl rfl rfl (pc' := 133) rfl ?_
      refine T_ld zk_22_133 rfl rfl rfl (pc' := 134) rfl ?_
      refine G_getX (w := a7) zk_22_134 rfl (vd_1 (by omega)) (fun σ' h => h.2.2.1) (pc' := 137) rfl ?_
      refine T_icmp_ge zk_22_137 (by omega) (by omega) (pc' := 140) rfl (fun h20 => ?_) (fun h21 => ?_)
      ·
        refine T_ld zk_22_161 rfl rfl rfl (pc' := 162) rfl ?_
        refine T_ld zk_22_162 rfl rfl rfl (pc' := 163) rfl ?_
        refine G_getX (w := a10) zk_22_163 rfl (vd_1 (by omega)) (fun σ' h => (h.1.2 _ _ _ _ (by first | exact nMY rfl | (unfold MY; omega))).trans s2) (pc' := 166) rfl ?_
        refine T_putf (J' := (fun σ' => IF (MY 0) σ σ' ∧ σ' 1 0 0 6 = a6 ∧ σ' 1 0 0 7 = a7 ∧ (∀ j, 0 ≤ j → j < 40 → σ' 7 0 0 j = F j) ∧ (∀ j, 0 ≤ j → j < 40 → σ' 8 0 0 j = G j) ∧ (∀ j, 0 ≤ j → j < 40 → σ' 9 0 0 j = H j) ∧ σ' 1 0 0 10 = a10 ∧ True)) zk_22_166 rfl rfl (vd_1 (by omega)) (fun σ' h => ⟨h.1.up (by simp only [rgP] <;> omega) (by unfold MY; omega), (up_ne (by omega)).trans (h.2.1), (up_ne (by omega)).trans (h.2.2.1), fun j a b => (up_ne (by omega)).trans (h.2.2.2.1 j a b), fun j a b => (up_ne (by omega)).trans (h.2.2.2.2.1 j a b), fun j a b => (up_ne (by omega)).trans (h.2.2.2.2.2.1 j a b), up_eq, trivial⟩) (pc' := 169) rfl ?_
        refine T_ld zk_22_169 rfl rfl rfl (pc' := 170) rfl ?_
        refine T_ld zk_22_170 rfl rfl rfl (pc' := 171) rfl ?_
        refine G_getX (w := a11) zk_22_171 rfl (vd_1 (by omega)) (fun σ' h => (h.1.2 _ _ _ _ (by first | exact nMY rfl | (unfold MY; omega))).trans s3) (pc' := 174) rfl ?_
        refine T_putf (J' := (fun σ' => IF (MY 0) σ σ' ∧ σ' 1 0 0 6 = a6 ∧ σ' 1 0 0 7 = a7 ∧ (∀ j, 0 ≤ j → j < 40 → σ' 7 0 0 j = F j) ∧ (∀ j, 0 ≤ j → j < 40 → σ' 8 0 0 j = G j) ∧ (∀ j, 0 ≤ j → j < 40 → σ' 9 0 0 j = H j) ∧ σ' 1 0 0 10 = a10 ∧ σ' 1 0 0 11 = a11 ∧ True)) zk_22_174 rfl rfl (vd_1 (by omega)) (fun σ' h => ⟨h.1.up (by simp only [rgP] <;> omega) (by unfold MY; omega), (up_ne (by omega)).trans (h.2.1), (up_ne (by omega)).trans (h.2.2.1), fun j a b => (up_ne (by omega)).trans (h.2.2.2.1 j a b), fun j a b => (up_ne (by omega)).trans (h.2.2.2.2.1 j a b), fun j a b => (up_ne (by omega)).trans (h.2.2.2.2.2.1 j a b), (up_ne (by omega)).trans (h.2.2.2.2.2.2.1), up_eq, trivial⟩) (pc' := 177) rfl ?_
        refine T_ld zk_22_177 rfl rfl rfl (pc' := 178) rfl ?_
        refine T_ld zk_22_178 rfl rfl rfl (pc' := 179) rfl ?_
        refine G_getX (w := a12) zk_22_179 rfl (vd_1 (by omega)) (fun σ' h => (h.1.2 _ _ _ _ (by first | exact nMY rfl | (unfold MY; omega))).trans s4) (pc' := 182) rfl ?_
        refine T_putf (J' := (fun σ' => IF (MY 0) σ σ' ∧ σ' 1 0 0 6 = a6 ∧ σ' 1 0 0 7 = a7 ∧ (∀ j, 0 ≤ j → j < 40 → σ' 7 0 0 j = F j) ∧ (∀ j, 0 ≤ j → j < 40 → σ' 8 0 0 j = G j) ∧ (∀ j, 0 ≤ j → j < 40 → σ' 9 0 0 j = H j) ∧ σ' 1 0 0 10 = a10 ∧ σ' 1 0 0 11 = a11 ∧ σ' 1 0 0 12 = a12 ∧ True)) zk_22_182 rfl rfl (vd_1 (by omega)) (fun σ' h => ⟨h.1.up (by simp only [rgP] <;> omega) (by unfold MY; omega), (up_ne (by omega)).trans (h.2.1), (up_ne (by omega)).trans (h.2.2.1), fun j a b => (up_ne (by omega)).trans (h.2.2.2.1 j a b), fun j a b => (up_ne (by omega)).trans (h.2.2.2.2.1 j a b), fun j a b => (up_ne (by omega)).trans (h.2.2.2.2.2.1 j a b), (up_ne (by omega)).trans (h.2.2.2.2.2.2.1), (up_ne (by omega)).trans (h.2.2.2.2.2.2.2.1), up_eq, trivial⟩) (pc' := 185) rfl ?_
        refine T_ld zk_22_185 rfl rfl rfl (pc' := 186) rfl ?_
        refine T_ld zk_22_186 rfl rfl rfl (pc' := 187) rfl ?_
        refine G_getX (w := a13) zk_22_187 rfl (vd_1 (by omega)) (fun σ' h => (h.1.2 _ _ _ _ (by first | exact nMY rfl | (unfold MY; omega))).trans s5) (pc' := 190) rfl ?_
        refine T_putf (J' := (fun σ' => IF (MY 0) σ σ' ∧ σ' 1 0 0 6 = a6 ∧ σ' 1 0 0 7 = a7 ∧ (∀ j, 0 ≤ j → j < 40 → σ' 7 0 0 j = F j) ∧ (∀ j, 0 ≤ j → j < 40 → σ' 8 0 0 j = G j) ∧ (∀ j, 0 ≤ j → j < 40 → σ' 9 0 0 j = H j) ∧ σ' 1 0 0 10 = a10 ∧ σ' 1 0 0 11 = a11 ∧ σ' 1 0 0 12 = a12 ∧ σ' 1 0 0 13 = a13 ∧ True)) zk_22_190 rfl rfl (vd_1 (by omega)) (fun σ' h => ⟨h.1.up (by simp only [rgP] <;> omega) (by unfold MY; omega), (up_ne (by omega)).trans (h.2.1), (up_ne (by omega)).trans (h.2.2.1), fun j a b => (up_ne (by omega)).trans (h.2.2.2.1 j a b), fun j a b => (up_ne (by omega)).trans (h.2.2.2.2.1 j a b), fun j a b => (up_ne (by omega)).trans (h.2.2.2.2.2.1 j a b), (up_ne (by omega)).trans (h.2.2.2.2.2.2.1), (up_ne (by omega)).trans (h.2.2.2.2.2.2.2.1), (up_ne (by omega)).trans (h.2.2.2.2.2.2.2.2.1), up_eq, trivial⟩) (pc' := 193) rfl ?_
        refine T_ld zk_22_193 rfl rfl rfl (pc' := 194) rfl ?_
        refine T_ld zk_22_194 rfl rfl rfl (pc' := 195) rfl ?_
        refine G_getf (lo := -2147483648) (hi := 2147483647) zk_22_195 rfl (vd_1 (by omega)) (fun σ' h => h.1.1) (fun _ h => (by have q := h.1; omega)) (pc' := 198) rfl (fun y22 hy22 hy22' => ?_)
        refine T_putf (J' := (fun σ' => IF (MY 0) σ σ' ∧ σ' 1 0 0 6 = a6 ∧ σ' 1 0 0 7 = a7 ∧ (∀ j, 0 ≤ j → j < 40 → σ' 7 0 0 j = F j) ∧ (∀ j, 0 ≤ j → j < 40 → σ' 8 0 0 j = G j) ∧ (∀ j, 0 ≤ j → j < 40 → σ' 9 0 0 j = H j) ∧ σ' 1 0 0 10 = a10 ∧ σ' 1 0 0 11 = a11 ∧ σ' 1 0 0 12 = a12 ∧ σ' 1 0 0 13 = a13 ∧ σ' 1 0 0 14 = y22 ∧ True)) zk_22_198 rfl rfl (vd_1 (by omega)) (fun σ' h => ⟨h.1.up (by simp only [rgP] <;> omega) (by unfold MY; omega), (up_ne (by omega)).trans (h.2.1), (up_ne (by omega)).trans (h.2.2.1), fun j a b => (up_ne (by omega)).trans (h.2.2.2.1 j a b), fun j a b => (up_ne (by omega)).trans (h.2.2.2.2.1 j a b), fun j a b => (up_ne (by omega)).trans (h.2.2.2.2.2.1 j a b), (up_ne (by omega)).trans (h.2.2.2.2.2.2.1), (up_ne (by omega)).trans (h.2.2.2.2.2.2.2.1), (up_ne (by omega)).trans (h.2.2.2.2.2.2.2.2.1), (up_ne (by omega)).trans (h.2.2.2.2.2.2.2.2.2.1), up_eq, trivial⟩) (pc' := 201) rfl ?_
        refine T_ld zk_22_201 rfl rfl rfl (pc' := 202) rfl ?_
        refine T_ld zk_22_202 rfl rfl rfl (pc' := 203) rfl ?_
        refine G_getf (lo := -2147483648) (hi := 2147483647) zk_22_203 rfl (vd_1 (by omega)) (fun σ' h => h.1.1) (fun _ h => (by have q := h.1; omega)) (pc' := 206) rfl (fun y23 hy23 hy23' => ?_)
        refine T_putf (J' := (fun σ' => IF (MY 0) σ σ' ∧ σ' 1 0 0 6 = a6 ∧ σ' 1 0 0 7 = a7 ∧ (∀ j, 0 ≤ j → j < 40 → σ' 7 0 0 j = F j) ∧ (∀ j, 0 ≤ j → j < 40 → σ' 8 0 0 j = G j) ∧ (∀ j, 0 ≤ j → j < 40 → σ' 9 0 0 j = H j) ∧ σ' 1 0 0 10 = a10 ∧ σ' 1 0 0 11 = a11 ∧ σ' 1 0 0 12 = a12 ∧ σ' 1 0 0 13 = a13 ∧ σ' 1 0 0 14 = y22 ∧ σ' 1 0 0 15 = y23 ∧ True)) zk_22_206 rfl rfl (vd_1 (by omega)) (fun σ' h => ⟨h.1.up (by simp only [rgP] <;> omega) (by unfold MY; omega), (up_ne (by omega)).trans (h.2.1), (up_ne (by omega)).trans (h.2.2.1), fun j a b => (up_ne (by omega)).trans (h.2.2.2.1 j a b), fun j a b => (up_ne (by omega)).trans (h.2.2.2.2.1 j a b), fun j a b => (up_ne (by omega)).trans (h.2.2.2.2.2.1 j a b), (up_ne (by omega)).trans (h.2.2.2.2.2.2.1), (up_ne (by omega)).trans (h.2.2.2.2.2.2.2.1), (up_ne (by omega)).trans (h.2.2.2.2.2.2.2.2.1), (up_ne (by omega)).trans (h.2.2.2.2.2.2.2.2.2.1), (up_ne (by omega)).trans (h.2.2.2.2.2.2.2.2.2.2.1), up_eq, trivial⟩) (pc' := 209) rfl ?_
        refine T_ld zk_22_209 rfl rfl rfl (pc' := 210) rfl ?_
        refine T_ld zk_22_210 rfl rfl rfl (pc' := 211) rfl ?_
        refine G_getf (lo := -2147483648) (hi := 2147483647) zk_22_211 rfl (vd_1 (by omega)) (fun σ' h => h.1.1) (fun _ h => (by have q := h.1; omega)) (pc' := 214) rfl (fun y24 hy24 hy24' => ?_)
        refine T_putf (J' := (fun σ' => IF (MY 0) σ σ' ∧ σ' 1 0 0 6 = a6 ∧ σ' 1 0 0 7 = a7 ∧ (∀ j, 0 ≤ j → j < 40 → σ' 7 0 0 j = F j) ∧ (∀ j, 0 ≤ j → j < 40 → σ' 8 0 0 j = G j) ∧ (∀ j, 0 ≤ j → j < 40 → σ' 9 0 0 j = H j) ∧ σ' 1 0 0 10 = a10 ∧ σ' 1 0 0 11 = a11 ∧ σ' 1 0 0 12 = a12 ∧ σ' 1 0 0 13 = a13 ∧ σ' 1 0 0 14 = y22 ∧ σ' 1 0 0 15 = y23 ∧ σ' 1 0 0 16 = y24 ∧ True)) zk_22_214 rfl rfl (vd_1 (by omega)) (fun σ' h => ⟨h.1.up (by simp only [rgP] <;> omega) (by unfold MY; omega), (up_ne (by omega)).trans (h.2.1), (up_ne (by omega)).trans (h.2.2.1), fun j a b => (up_ne (by omega)).trans (h.2.2.2.1 j a b), fun j a b => (up_ne (by omega)).trans (h.2.2.2.2.1 j a b), fun j a b => (up_ne (by omega)).trans (h.2.2.2.2.2.1 j a b), (up_ne (by omega)).trans (h.2.2.2.2.2.2.1), (up_ne (by omega)).trans (h.2.2.2.2.2.2.2.1), (up_ne (by omega)).trans (h.2.2.2.2.2.2.2.2.1), (up_ne (by omega)).trans (h.2.2.2.2.2.2.2.2.2.1), (up_ne (by omega)).trans (h.2.2.2.2.2.2.2.2.2.2.1), (up_ne (by omega)).trans (h.2.2.2.2.2.2.2.2.2.2.2.1), up_eq, trivial⟩) (pc' := 217) rfl ?_
        exact T_vret zk_22_217 rfl (fun σ' h => ⟨rfl, h.1, ⟨h.2.1, h.2.2.1, h.2.2.2.2.2.2.1, h.2.2.2.2.2.2.2.1, h.2.2.2.2.2.2.2.2.1, h.2.2.2.2.2.2.2.2.2.1, h.2.2.2.1, h.2.2.2.2.1, h.2.2.2.2.2.1, trivial⟩⟩)
      ·
        refine T_ld zk_22_140 rfl rfl rfl (pc' := 141) rfl ?_
        refine T_getR (t' := 16) (i' := 0) (k' := 0) zk_22_141 rfl rfl rfl (vd_1 (by omega)) (pc' := 144) rfl ?_
        refine T_ld zk_22_144 rfl rfl rfl (pc' := 145) rfl ?_
        refine G_aald (t' := 26) (im := 9) (i' := 0) (ln := 6) zk_22_145 rfl rfl rfl (vd_16 (by omega)) (by omega) (by omega) (by omega) (pc' := 146) rfl ?_
        refine T_ld zk_22_146 rfl rfl rfl (pc' := 147) rfl ?_
        refine T_getR (t' := 16) (i' := 1) (k' := 0) zk_22_147 rfl rfl rfl (vd_1 (by omega)) (pc' := 150) rfl ?_
        refine T_ld zk_22_150 rfl rfl rfl (pc' := 151) rfl ?_
        refine G_aald (t' := 26) (im := 9) (i' := 1) (ln := 6) zk_22_151 rfl rfl rfl (vd_16 (by omega)) (by omega) (by omega) (by omega) (pc' := 152) rfl ?_
        refine T_callv (J' := (fun σ' => IF (MY 0) σ σ' ∧ σ' 1 0 0 6 = a6 ∧ σ' 1 0 0 7 = a7 ∧ (∀ j, 0 ≤ j → j < 40 → σ' 7 0 0 j = F j) ∧ (∀ j, 0 ≤ j → j < 40 → σ' 8 0 0 j = G j) ∧ (∀ j, 0 ≤ j → j < 40 → σ' 9 0 0 j = H j) ∧ True)) (r := []) zk_22_152 rfl rfl rfl rfl rfl rfl (Or.inr ⟨_, _, _, _, rfl, (vd_26 (by omega) (by omega)), rfl⟩) (fun σ' h => (w_3 0 (Int.toNat x17) 1 (by omega) (by omega) (by omega) σ' h.1.1 ).le (Nat.le_of_ble_eq_true rfl) (fun v σ2 ⟨h1, h3, h4⟩ => ⟨h1, h.1.tr h3 sb72_1c2198f, (h3.2 _ _ _ _ (by first | exact nMI rfl | (unfold MI; omega))).trans (h.2.1), (h3.2 _ _ _ _ (by first | exact nMI rfl | (unfold MI; omega))).trans (h.2.2.1), fun j a b => (h3.2 _ _ _ _ (by first | exact nMI rfl | (unfold MI; omega))).trans (h.2.2.2.1 j a b), fun j a b => (h3.2 _ _ _ _ (by first | exact nMI rfl | (unfold MI; omega))).trans (h.2.2.2.2.1 j a b), fun j a b => (h3.2 _ _ _ _ (by first | exact nMI rfl | (unfold MI; omega))).trans (h.2.2.2.2.2.1 j a b), trivial⟩)) (pc' := 155) rfl ?_
        refine T_iinc (L' := [(0, av 1 0 0), (1, av 1 1 0), (2, iv (x17 + 1))]) zk_22_155 (nL := 3) rfl rfl rfl rfl (pc' := 158) rfl ?_
        refine T_goto zk_22_158 ?_
        exact ih18 (x17 + 1) (by omega) (by omega)
    ·
      refine T_ld zk_22_101 rfl rfl rfl (pc' := 102) rfl ?_
      refine T_getR (t' := 15) (i' := 0) (k' := 0) zk_22_102 rfl rfl rfl (vd_1 (by omega)) (pc' := 105) rfl ?_
      refine T_ld zk_22_105 rfl rfl rfl (pc' := 106) rfl ?_
      refine G_aald (t' := 25) (im := 9) (i' := 0) (ln := 12) zk_22_106 rfl rfl rfl (vd_15 (by omega)) (by omega) (by omega) (by omega) (pc' := 107) rfl ?_
      refine T_ld zk_22_107 rfl rfl rfl (pc' := 108) rfl ?_
      refine T_getR (t' := 15) (i' := 1) (k' := 0) zk_22_108 rfl rfl rfl (vd_1 (by omega)) (pc' := 111) rfl ?_
      refine T_ld zk_22_111 rfl rfl rfl (pc' := 112) rfl ?_
      refine G_aald (t' := 25) (im := 9) (i' := 1) (ln := 12) zk_22_112 rfl rfl rfl (vd_15 (by omega)) (by omega) (by omega) (by omega) (pc' := 113) rfl ?_
      refine T_callv (J' := (fun σ' => IF (MY 0) σ σ' ∧ σ' 1 0 0 6 = a6 ∧ (∀ j, 0 ≤ j → j < 40 → σ' 7 0 0 j = F j) ∧ (∀ j, 0 ≤ j → j < 40 → σ' 8 0 0 j = G j) ∧ (∀ j, 0 ≤ j → j < 40 → σ' 9 0 0 j = H j) ∧ True)) (r := []) zk_22_113 rfl rfl rfl rfl rfl rfl (Or.inr ⟨_, _, _, _, rfl, (vd_25 (by omega) (by omega)), rfl⟩) (fun σ' h => (w_28 0 (Int.toNat x12) 1 (by omega) (by omega) (by omega) σ' h.1.1 ).le (Nat.le_of_ble_eq_true rfl) (fun v σ2 ⟨h1, h3, h4⟩ => ⟨h1, h.1.tr h3 sb72_a41fece, (h3.2 _ _ _ _ (by first | exact nMI rfl | (unfold MI; omega))).trans (h.2.1), fun j a b => (h3.2 _ _ _ _ (by first | exact nMI rfl | (unfold MI; omega))).trans (h.2.2.1 j a b), fun j a b => (h3.2 _ _ _ _ (by first | exact nMI rfl | (unfold MI; omega))).trans (h.2.2.2.1 j a b), fun j a b => (h3.2 _ _ _ _ (by first | exact nMI rfl | (unfold MI; omega))).trans (h.2.2.2.2.1 j a b), trivial⟩)) (pc' := 116) rfl ?_
      refine T_iinc (L' := [(0, av 1 0 0), (1, av 1 1 0), (2, iv (x12 + 1))]) zk_22_116 (nL := 3) rfl rfl rfl rfl (pc' := 119) rfl ?_
      refine T_goto zk_22_119 ?_
      exact ih13 (x12 + 1) (by omega) (by omega)
  ·
    refine T_ld zk_22_62 rfl rfl rfl (pc' := 63) rfl ?_
    refine T_getR (t' := 14) (i' := 0) (k' := 0) zk_22_63 rfl rfl rfl (vd_1 (by omega)) (pc' := 66) rfl ?_
    refine T_ld zk_22_66 rfl rfl rfl (pc' := 67) rfl ?_
    refine G_aald (t' := 23) (im := 9) (i' := 0) (ln := 5) zk_22_67 rfl rfl rfl (vd_14 (by omega)) (by omega) (by omega) (by omega) (pc' := 68) rfl ?_
    refine T_ld zk_22_68 rfl rfl rfl (pc' := 69) rfl ?_
    refine T_getR (t' := 14) (i' := 1) (k' := 0) zk_22_69 rfl rfl rfl (vd_1 (by omega)) (pc' := 72) rfl ?_
    refine T_ld zk_22_72 rfl rfl rfl (pc' := 73) rfl ?_
    refine G_aald (t' := 23) (im := 9) (i' := 1) (ln := 5) zk_22_73 rfl rfl rfl (vd_14 (by omega)) (by omega) (by omega) (by omega) (pc' := 74) rfl ?_
    refine T_callv (J' := (fun σ' => IF (MY 0) σ σ' ∧ (∀ j, 0 ≤ j → j < 40 → σ' 7 0 0 j = F j) ∧ (∀ j, 0 ≤ j → j < 40 → σ' 8 0 0 j = G j) ∧ (∀ j, 0 ≤ j → j < 40 → σ' 9 0 0 j = H j) ∧ True)) (r := []) zk_22_74 rfl rfl rfl rfl rfl rfl (Or.inr ⟨_, _, _, _, rfl, (vd_23 (by omega) (by omega)), rfl⟩) (fun σ' h => (w_46 0 (Int.toNat x6) 1 (by omega) (by omega) (by omega) σ' h.1.1 ).le (Nat.le_of_ble_eq_true rfl) (fun v σ2 ⟨h1, h3, h4⟩ => ⟨h1, h.1.tr h3 sb72_f3781e5, fun j a b => (h3.2 _ _ _ _ (by first | exact nMI rfl | (unfold MI; omega))).trans (h.2.1 j a b), fun j a b => (h3.2 _ _ _ _ (by first | exact nMI rfl | (unfold MI; omega))).trans (h.2.2.1 j a b), fun j a b => (h3.2 _ _ _ _ (by first | exact nMI rfl | (unfold MI; omega))).trans (h.2.2.2.1 j a b), trivial⟩)) (pc' := 77) rfl ?_
    refine T_iinc (L' := [(0, av 1 0 0), (1, av 1 1 0), (2, iv (x6 + 1))]) zk_22_77 (nL := 3) rfl rfl rfl rfl (pc' := 80) rfl ?_
    refine T_goto zk_22_80 ?_
    exact ih7 (x6 + 1) (by omega) (by omega)
/-- W.image -/
theorem s_108w {xs : Nat × (Nat → Int32)}  (a6 : Int) (a7 : Int) (a10 : Int) (a11 : Int) (a12 : Int) (a13 : Int) (F G H : Nat → Int) (ha6 : 0 ≤ a6 ∧ a6 ≤ 12) (ha7 : 0 ≤ a7 ∧ a7 ≤ 6) (ha10 : 0 ≤ a10 ∧ a10 ≤ 99) (ha11 : 1 ≤ a11 ∧ a11 ≤ 9) (ha12 : 0 ≤ a12 ∧ a12 ≤ 9999) (ha13 : -2147483648 ≤ a13 ∧ a13 ≤ 2147483647) (σ : ZS) (hI : Inv σ)  (s0 : σ 1 0 0 6 = a6) (s1 : σ 1 0 0 7 = a7) (s2 : σ 1 0 0 10 = a10) (s3 : σ 1 0 0 11 = a11) (s4 : σ 1 0 0 12 = a12) (s5 : σ 1 0 0 13 = a13) (r0 : (∀ j, 0 ≤ j → j < 40 → σ 7 0 0 j = F j)) (r1 : (∀ j, 0 ≤ j → j < 40 → σ 8 0 0 j = G j)) (r2 : (∀ j, 0 ≤ j → j < 40 → σ 9 0 0 j = H j)) : CT xs 4 108 [av 0 0 0] σ (fun v σ' => ∃ y, v = some (iv y) ∧ (y = a13) ∧ IF MIg σ σ' ∧ (σ' 1 1 0 6 = a6 ∧ σ' 1 1 0 7 = a7 ∧ σ' 1 1 0 10 = a10 ∧ σ' 1 1 0 11 = a11 ∧ σ' 1 1 0 12 = a12 ∧ σ' 1 1 0 13 = a13 ∧ σ' 0 0 0 3 = 1 ∧ (∀ j, 0 ≤ j → j < 40 → σ' 7 1 0 j = F j) ∧ (∀ j, 0 ≤ j → j < 40 → σ' 8 1 0 j = G j) ∧ (∀ j, 0 ≤ j → j < 40 → σ' 9 1 0 j = H j) ∧ True)) := by
  refine G_ct (J := (fun σ' => IF MIg σ σ' ∧ True)) (L := [(0, av 0 0 0)]) (nL := 1) rfl rfl rfl ⟨IF.rf hI, trivial⟩ ?_
  refine T_ld zk_108_0 rfl rfl rfl (pc' := 1) rfl ?_
  refine T_getR (t' := 1) (i' := 1) (k' := 0) zk_108_1 rfl rfl rfl vd_0 (pc' := 4) rfl ?_
  refine T_ld zk_108_4 rfl rfl rfl (pc' := 5) rfl ?_
  refine T_getR (t' := 1) (i' := 0) (k' := 0) zk_108_5 rfl rfl rfl vd_0 (pc' := 8) rfl ?_
  refine T_callv (J' := (fun σ' => IF MIg σ σ' ∧ σ' 1 1 0 6 = a6 ∧ σ' 1 1 0 7 = a7 ∧ σ' 1 1 0 10 = a10 ∧ σ' 1 1 0 11 = a11 ∧ σ' 1 1 0 12 = a12 ∧ σ' 1 1 0 13 = a13 ∧ (∀ j, 0 ≤ j → j < 40 → σ' 7 1 0 j = F j) ∧ (∀ j, 0 ≤ j → j < 40 → σ' 8 1 0 j = G j) ∧ (∀ j, 0 ≤ j → j < 40 → σ' 9 1 0 j = H j) ∧ True)) (r := []) zk_108_8 rfl rfl rfl rfl rfl rfl (Or.inr ⟨_, _, _, _, rfl, (vd_1 (by omega)), rfl⟩) (fun σ' h => (s_22w_1 a6 a7 a10 a11 a12 a13 F G H (by omega) (by omega) (by omega) (by omega) (by omega) (by omega) σ' h.1.1 ((h.1.2 _ _ _ _ (by first | exact nMIg rfl | (unfold MIg; omega))).trans s0) ((h.1.2 _ _ _ _ (by first | exact nMIg rfl | (unfold MIg; omega))).trans s1) ((h.1.2 _ _ _ _ (by first | exact nMIg rfl | (unfold MIg; omega))).trans s2) ((h.1.2 _ _ _ _ (by first | exact nMIg rfl | (unfold MIg; omega))).trans s3) ((h.1.2 _ _ _ _ (by first | exact nMIg rfl | (unfold MIg; omega))).trans s4) ((h.1.2 _ _ _ _ (by first | exact nMIg rfl | (unfold MIg; omega))).trans s5) (fun j a b => (h.1.2 _ _ _ _ (by first | exact nMIg rfl | (unfold MIg; omega))).trans (r0 j (by omega) (by omega))) (fun j a b => (h.1.2 _ _ _ _ (by first | exact nMIg rfl | (unfold MIg; omega))).trans (r1 j (by omega) (by omega))) (fun j a b => (h.1.2 _ _ _ _ (by first | exact nMIg rfl | (unfold MIg; omega))).trans (r2 j (by omega) (by omega)))).le (Nat.le_of_ble_eq_true rfl) (fun v σ2 ⟨h1, h3, h4⟩ => ⟨h1, h.1.tr h3 sb56_a084065, h4.1, h4.2.1, h4.2.2.1, h4.2.2.2.1, h4.2.2.2.2.1, h4.2.2.2.2.2.1, h4.2.2.2.2.2.2.1, h4.2.2.2.2.2.2.2.1, h4.2.2.2.2.2.2.2.2.1, trivial⟩)) (pc' := 11) rfl ?_
  refine T_ld zk_108_11 rfl rfl rfl (pc' := 12) rfl ?_
  refine T_op zk_108_12 rfl X_ic (pc' := 13) rfl ?_
  refine T_putz (J' := (fun σ' => IF MIg σ σ' ∧ σ' 1 1 0 6 = a6 ∧ σ' 1 1 0 7 = a7 ∧ σ' 1 1 0 10 = a10 ∧ σ' 1 1 0 11 = a11 ∧ σ' 1 1 0 12 = a12 ∧ σ' 1 1 0 13 = a13 ∧ (∀ j, 0 ≤ j → j < 40 → σ' 7 1 0 j = F j) ∧ (∀ j, 0 ≤ j → j < 40 → σ' 8 1 0 j = G j) ∧ (∀ j, 0 ≤ j → j < 40 → σ' 9 1 0 j = H j) ∧ σ' 0 0 0 3 = 1 ∧ True)) zk_108_13 rfl rfl (by omega) vd_0 (fun σ' h => ⟨h.1.up (by simp only [rgP] <;> omega) (by first | exact pMIg rfl | (unfold MIg; omega)), (up_ne (by omega)).trans (h.2.1), (up_ne (by omega)).trans (h.2.2.1), (up_ne (by omega)).trans (h.2.2.2.1), (up_ne (by omega)).trans (h.2.2.2.2.1), (up_ne (by omega)).trans (h.2.2.2.2.2.1), (up_ne (by omega)).trans (h.2.2.2.2.2.2.1), fun j a b => (up_ne (by omega)).trans (h.2.2.2.2.2.2.2.1 j a b), fun j a b => (up_ne (by omega)).trans (h.2.2.2.2.2.2.2.2.1 j a b), fun j a b => (up_ne (by omega)).trans (h.2.2.2.2.2.2.2.2.2.1 j a b), up_eq, trivial⟩) (pc' := 16) rfl ?_
  refine T_ld zk_108_16 rfl rfl rfl (pc' := 17) rfl ?_
  refine T_getR (t' := 1) (i' := 0) (k' := 0) zk_108_17 rfl rfl rfl vd_0 (pc' := 20) rfl ?_
  refine G_getX (w := a13) zk_108_20 rfl (vd_1 (by omega)) (fun σ' h => (h.1.2 _ _ _ _ (by first | exact nMIg rfl | (unfold MIg; omega))).trans s5) (pc' := 23) rfl ?_
  exact T_iret zk_108_23 rfl (fun σ' h => ⟨_, rfl, (by omega), h.1, ⟨h.2.1, h.2.2.1, h.2.2.2.1, h.2.2.2.2.1, h.2.2.2.2.2.1, h.2.2.2.2.2.2.1, h.2.2.2.2.2.2.2.2.2.2.1, h.2.2.2.2.2.2.2.1, h.2.2.2.2.2.2.2.2.1, h.2.2.2.2.2.2.2.2.2.1, trivial⟩⟩)
/-- W.restore -/
theorem s_109w {xs : Nat × (Nat → Int32)}  (a6 : Int) (a7 : Int) (a10 : Int) (a11 : Int) (a12 : Int) (a13 : Int) (F G H : Nat → Int) (ha6 : 0 ≤ a6 ∧ a6 ≤ 12) (ha7 : 0 ≤ a7 ∧ a7 ≤ 6) (ha10 : 0 ≤ a10 ∧ a10 ≤ 99) (ha11 : 1 ≤ a11 ∧ a11 ≤ 9) (ha12 : 0 ≤ a12 ∧ a12 ≤ 9999) (ha13 : -2147483648 ≤ a13 ∧ a13 ≤ 2147483647) (σ : ZS) (hI : Inv σ)  (s0 : σ 0 0 0 3 = 1) (t0 : σ 1 1 0 6 = a6) (t1 : σ 1 1 0 7 = a7) (t2 : σ 1 1 0 10 = a10) (t3 : σ 1 1 0 11 = a11) (t4 : σ 1 1 0 12 = a12) (t5 : σ 1 1 0 13 = a13) (r0 : (∀ j, 0 ≤ j → j < 40 → σ 7 1 0 j = F j)) (r1 : (∀ j, 0 ≤ j → j < 40 → σ 8 1 0 j = G j)) (r2 : (∀ j, 0 ≤ j → j < 40 → σ 9 1 0 j = H j)) : CT xs 4 109 [av 0 0 0] σ (fun v σ' => ∃ y, v = some (iv y) ∧ (y = a13) ∧ IF MRs σ σ' ∧ (σ' 1 0 0 6 = a6 ∧ σ' 1 0 0 7 = a7 ∧ σ' 1 0 0 10 = a10 ∧ σ' 1 0 0 11 = a11 ∧ σ' 1 0 0 12 = a12 ∧ σ' 1 0 0 13 = a13 ∧ (∀ j, 0 ≤ j → j < 40 → σ' 7 0 0 j = F j) ∧ (∀ j, 0 ≤ j → j < 40 → σ' 8 0 0 j = G j) ∧ (∀ j, 0 ≤ j → j < 40 → σ' 9 0 0 j = H j) ∧ True)) := by
  refine G_ct (J := (fun σ' => IF MRs σ σ' ∧ True)) (L := [(0, av 0 0 0)]) (nL := 2) rfl rfl rfl ⟨IF.rf hI, trivial⟩ ?_
  refine T_ld zk_109_0 rfl rfl rfl (pc' := 1) rfl ?_
  refine G_getX (w := 1) zk_109_1 rfl vd_0 (fun σ' h => (h.1.2 _ _ _ _ (by first | exact nMRs rfl | (unfold MRs; omega))).trans s0) (pc' := 4) rfl ?_
  refine T_if_ne zk_109_4 (by omega) (pc' := 7) rfl (fun h1 => ?_) (fun h2 => ?_)
  ·
    refine T_ld zk_109_14 rfl rfl rfl (pc' := 15) rfl ?_
    refine T_getR (t' := 1) (i' := 0) (k' := 0) zk_109_15 rfl rfl rfl vd_0 (pc' := 18) rfl ?_
    refine T_ld zk_109_18 rfl rfl rfl (pc' := 19) rfl ?_
    refine T_getR (t' := 1) (i' := 1) (k' := 0) zk_109_19 rfl rfl rfl vd_0 (pc' := 22) rfl ?_
    refine T_callv (J' := (fun σ' => IF MRs σ σ' ∧ σ' 1 0 0 6 = a6 ∧ σ' 1 0 0 7 = a7 ∧ σ' 1 0 0 10 = a10 ∧ σ' 1 0 0 11 = a11 ∧ σ' 1 0 0 12 = a12 ∧ σ' 1 0 0 13 = a13 ∧ (∀ j, 0 ≤ j → j < 40 → σ' 7 0 0 j = F j) ∧ (∀ j, 0 ≤ j → j < 40 → σ' 8 0 0 j = G j) ∧ (∀ j, 0 ≤ j → j < 40 → σ' 9 0 0 j = H j) ∧ True)) (r := []) zk_109_22 rfl rfl rfl rfl rfl rfl (Or.inr ⟨_, _, _, _, rfl, (vd_1 (by omega)), rfl⟩) (fun σ' h => (s_22w_0 a6 a7 a10 a11 a12 a13 F G H (by omega) (by omega) (by omega) (by omega) (by omega) (by omega) σ' h.1.1 ((h.1.2 _ _ _ _ (by first | exact nMRs rfl | (unfold MRs; omega))).trans t0) ((h.1.2 _ _ _ _ (by first | exact nMRs rfl | (unfold MRs; omega))).trans t1) ((h.1.2 _ _ _ _ (by first | exact nMRs rfl | (unfold MRs; omega))).trans t2) ((h.1.2 _ _ _ _ (by first | exact nMRs rfl | (unfold MRs; omega))).trans t3) ((h.1.2 _ _ _ _ (by first | exact nMRs rfl | (unfold MRs; omega))).trans t4) ((h.1.2 _ _ _ _ (by first | exact nMRs rfl | (unfold MRs; omega))).trans t5) (fun j a b => (h.1.2 _ _ _ _ (by first | exact nMRs rfl | (unfold MRs; omega))).trans (r0 j (by omega) (by omega))) (fun j a b => (h.1.2 _ _ _ _ (by first | exact nMRs rfl | (unfold MRs; omega))).trans (r1 j (by omega) (by omega))) (fun j a b => (h.1.2 _ _ _ _ (by first | exact nMRs rfl | (unfold MRs; omega))).trans (r2 j (by omega) (by omega)))).le (Nat.le_of_ble_eq_true rfl) (fun v σ2 ⟨h1, h3, h4⟩ => ⟨h1, h.1.tr h3 sb56_b1b531c, h4.1, h4.2.1, h4.2.2.1, h4.2.2.2.1, h4.2.2.2.2.1, h4.2.2.2.2.2.1, h4.2.2.2.2.2.2.1, h4.2.2.2.2.2.2.2.1, h4.2.2.2.2.2.2.2.2.1, trivial⟩)) (pc' := 25) rfl ?_
    refine T_op zk_109_25 rfl X_ic (pc' := 26) rfl ?_
    refine T_st (L' := [(0, av 0 0 0), (1, iv 0)]) zk_109_26 (nL := 2) rfl rfl rfl rfl rfl (pc' := 27) rfl ?_
    refine T_loop1 (fun x4 => ((8 - x4 : Int)).toNat) (fun x4 => (0 ≤ x4 ∧ x4 ≤ 8)) (fun x4 => TJ xs (fun σ' => IF MRs σ σ' ∧ σ' 1 0 0 6 = a6 ∧ σ' 1 0 0 7 = a7 ∧ σ' 1 0 0 10 = a10 ∧ σ' 1 0 0 11 = a11 ∧ σ' 1 0 0 12 = a12 ∧ σ' 1 0 0 13 = a13 ∧ (∀ j, 0 ≤ j → j < 40 → σ' 7 0 0 j = F j) ∧ (∀ j, 0 ≤ j → j < 40 → σ' 8 0 0 j = G j) ∧ (∀ j, 0 ≤ j → j < 40 → σ' 9 0 0 j = H j) ∧ True) 3 109 27 [(0, av 0 0 0), (1, iv x4)] [] _) ?_ 0 (by omega)
    intro x4 hp6 ih5
    refine T_ld zk_109_27 rfl rfl rfl (pc' := 28) rfl ?_
    refine T_op zk_109_28 rfl (X_bi (v := 8) (by decide)) (pc' := 30) rfl ?_
    refine T_icmp_ge zk_109_30 (by omega) (by omega) (pc' := 33) rfl (fun h7 => ?_) (fun h8 => ?_)
    ·
      refine T_ld zk_109_78 rfl rfl rfl (pc' := 79) rfl ?_
      refine T_getR (t' := 1) (i' := 0) (k' := 0) zk_109_79 rfl rfl rfl vd_0 (pc' := 82) rfl ?_
      refine G_getX (w := a13) zk_109_82 rfl (vd_1 (by omega)) (fun σ' h => h.2.2.2.2.2.2.1) (pc' := 85) rfl ?_
      exact T_iret zk_109_85 rfl (fun σ' h => ⟨_, rfl, (by omega), h.1, ⟨h.2.1, h.2.2.1, h.2.2.2.1, h.2.2.2.2.1, h.2.2.2.2.2.1, h.2.2.2.2.2.2.1, h.2.2.2.2.2.2.2.1, h.2.2.2.2.2.2.2.2.1, h.2.2.2.2.2.2.2.2.2.1, trivial⟩⟩)
    ·
      refine T_ld zk_109_33 rfl rfl rfl (pc' := 34) rfl ?_
      refine T_getR (t' := 27) (i' := 0) (k' := 0) zk_109_34 rfl rfl rfl vd_0 (pc' := 37) rfl ?_
      refine T_ld zk_109_37 rfl rfl rfl (pc' := 38) rfl ?_
      refine G_aald (t' := 33) (im := 0) (i' := 0) (ln := 8) zk_109_38 rfl rfl rfl vd_27 (by omega) (by omega) (by omega) (pc' := 39) rfl ?_
      refine G_getf (lo := -2147483648) (hi := 2147483647) zk_109_39 rfl (vd_33 (by omega)) (fun σ' h => h.1.1) (fun _ h => (by have q := h.1; omega)) (pc' := 42) rfl (fun y9 hy9 hy9' => ?_)
      refine T_op zk_109_42 rfl X_ic (pc' := 43) rfl ?_
      refine T_icmp_ne zk_109_43 (by omega) (by omega) (pc' := 46) rfl (fun h10 => ?_) (fun h11 => ?_)
      ·
        refine T_iinc (L' := [(0, av 0 0 0), (1, iv (x4 + 1))]) zk_109_72 (nL := 2) rfl rfl rfl rfl (pc' := 75) rfl ?_
        refine T_goto zk_109_75 ?_
        exact ih5 (x4 + 1) (by omega) (by omega)
      ·
        refine T_ld zk_109_46 rfl rfl rfl (pc' := 47) rfl ?_
        refine T_ld zk_109_47 rfl rfl rfl (pc' := 48) rfl ?_
        refine T_getR (t' := 27) (i' := 0) (k' := 0) zk_109_48 rfl rfl rfl vd_0 (pc' := 51) rfl ?_
        refine T_ld zk_109_51 rfl rfl rfl (pc' := 52) rfl ?_
        refine G_aald (t' := 33) (im := 0) (i' := 0) (ln := 8) zk_109_52 rfl rfl rfl vd_27 (by omega) (by omega) (by omega) (pc' := 53) rfl ?_
        refine G_getf (lo := -2147483648) (hi := 2147483647) zk_109_53 rfl (vd_33 (by omega)) (fun σ' h => h.1.1) (fun _ h => (by have q := h.1; omega)) (pc' := 56) rfl (fun y12 hy12 hy12' => ?_)
        refine T_calli (K := fun y13 σ' => ((y13 = 0 ∧ (y12 < 0 ∨ a6 ≤ y12)) ∨ (y13 = 1 ∧ 0 ≤ y12 ∧ y12 < a6)) ∧ (fun σ' => IF MRs σ σ' ∧ σ' 1 0 0 6 = a6 ∧ σ' 1 0 0 7 = a7 ∧ σ' 1 0 0 10 = a10 ∧ σ' 1 0 0 11 = a11 ∧ σ' 1 0 0 12 = a12 ∧ σ' 1 0 0 13 = a13 ∧ (∀ j, 0 ≤ j → j < 40 → σ' 7 0 0 j = F j) ∧ (∀ j, 0 ≤ j → j < 40 → σ' 8 0 0 j = G j) ∧ (∀ j, 0 ≤ j → j < 40 → σ' 9 0 0 j = H j) ∧ True) σ') (r := []) zk_109_56 rfl rfl rfl rfl rfl rfl (Or.inr ⟨_, _, _, _, rfl, vd_0, rfl⟩) (fun σ' h => (w_117 y12 a6 (by omega) (by omega) σ' h.1.1 (h.2.1)).le (Nat.le_of_ble_eq_true rfl) (fun v σ2 ⟨y, h1, h2, h3, h4⟩ => ⟨y, h1, h2, h.1.tr h3 MN_sub, (h3.2 _ _ _ _ (fun q => q)).trans (h.2.1), (h3.2 _ _ _ _ (fun q => q)).trans (h.2.2.1), (h3.2 _ _ _ _ (fun q => q)).trans (h.2.2.2.1), (h3.2 _ _ _ _ (fun q => q)).trans (h.2.2.2.2.1), (h3.2 _ _ _ _ (fun q => q)).trans (h.2.2.2.2.2.1), (h3.2 _ _ _ _ (fun q => q)).trans (h.2.2.2.2.2.2.1), fun j a b => (h3.2 _ _ _ _ (fun q => q)).trans (h.2.2.2.2.2.2.2.1 j a b), fun j a b => (h3.2 _ _ _ _ (fun q => q)).trans (h.2.2.2.2.2.2.2.2.1 j a b), fun j a b => (h3.2 _ _ _ _ (fun q => q)).trans (h.2.2.2.2.2.2.2.2.2.1 j a b), trivial⟩)) (pc' := 59) rfl (fun y13 => ?_)
        refine G_ex (fun hy13 => ?_)
        refine T_if_ne zk_109_59 (by omega) (pc' := 62) rfl (fun h14 => ?_) (fun h15 => ?_)
        ·
          refine T_iinc (L' := [(0, av 0 0 0), (1, iv (x4 + 1))]) zk_109_72 (nL := 2) rfl rfl rfl rfl (pc' := 75) rfl ?_
          refine T_goto zk_109_75 ?_
          exact ih5 (x4 + 1) (by omega) (by omega)
        ·
          refine T_ld zk_109_62 rfl rfl rfl (pc' := 63) rfl ?_
          refine T_getR (t' := 27) (i' := 0) (k' := 0) zk_109_63 rfl rfl rfl vd_0 (pc' := 66) rfl ?_
          refine T_ld zk_109_66 rfl rfl rfl (pc' := 67) rfl ?_
          refine G_aald (t' := 33) (im := 0) (i' := 0) (ln := 8) zk_109_67 rfl rfl rfl vd_27 (by omega) (by omega) (by omega) (pc' := 68) rfl ?_
          refine T_op zk_109_68 rfl X_ic (pc' := 69) rfl ?_
          refine T_putf (J' := (fun σ' => IF MRs σ σ' ∧ σ' 1 0 0 6 = a6 ∧ σ' 1 0 0 7 = a7 ∧ σ' 1 0 0 10 = a10 ∧ σ' 1 0 0 11 = a11 ∧ σ' 1 0 0 12 = a12 ∧ σ' 1 0 0 13 = a13 ∧ (∀ j, 0 ≤ j → j < 40 → σ' 7 0 0 j = F j) ∧ (∀ j, 0 ≤ j → j < 40 → σ' 8 0 0 j = G j) ∧ (∀ j, 0 ≤ j → j < 40 → σ' 9 0 0 j = H j) ∧ σ' 33 0 (Int.toNat x4) 0 = 0 ∧ True)) zk_109_69 rfl rfl (vd_33 (by omega)) (fun σ' h => ⟨h.1.up (by simp only [rgP] <;> omega) (by first | exact pMRs rfl | (unfold MRs; omega)), (up_ne (by omega)).trans (h.2.1), (up_ne (by omega)).trans (h.2.2.1), (up_ne (by omega)).trans (h.2.2.2.1), (up_ne (by omega)).trans (h.2.2.2.2.1), (up_ne (by omega)).trans (h.2.2.2.2.2.1), (up_ne (by omega)).trans (h.2.2.2.2.2.2.1), fun j a b => (up_ne (by omega)).trans (h.2.2.2.2.2.2.2.1 j a b), fun j a b => (up_ne (by omega)).trans (h.2.2.2.2.2.2.2.2.1 j a b), fun j a b => (up_ne (by omega)).trans (h.2.2.2.2.2.2.2.2.2.1 j a b), up_eq, trivial⟩) (pc' := 72) rfl ?_
          refine T_iinc (L' := [(0, av 0 0 0), (1, iv (x4 + 1))]) zk_109_72 (nL := 2) rfl rfl rfl rfl (pc' := 75) rfl ?_
          refine T_goto zk_109_75 ?_
          refine G_know (J' := (fun σ' => IF MRs σ σ' ∧ σ' 1 0 0 6 = a6 ∧ σ' 1 0 0 7 = a7 ∧ σ' 1 0 0 10 = a10 ∧ σ' 1 0 0 11 = a11 ∧ σ' 1 0 0 12 = a12 ∧ σ' 1 0 0 13 = a13 ∧ (∀ j, 0 ≤ j → j < 40 → σ' 7 0 0 j = F j) ∧ (∀ j, 0 ≤ j → j < 40 → σ' 8 0 0 j = G j) ∧ (∀ j, 0 ≤ j → j < 40 → σ' 9 0 0 j = H j) ∧ True)) (fun σ' h => ⟨h.1, h.2.1, h.2.2.1, h.2.2.2.1, h.2.2.2.2.1, h.2.2.2.2.2.1, h.2.2.2.2.2.2.1, h.2.2.2.2.2.2.2.1, h.2.2.2.2.2.2.2.2.1, h.2.2.2.2.2.2.2.2.2.1, trivial⟩) ?_
          exact ih5 (x4 + 1) (by omega) (by omega)
  · exfalso; omega
