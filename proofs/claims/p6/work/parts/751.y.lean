/-- W.image -/
theorem s_108w {xs : Nat × (Nat → Int32)}  (a6 : Int) (a7 : Int) (a10 : Int) (a11 : Int) (a12 : Int) (a13 : Int) (F G H : Nat → Int) (ha6 : 0 ≤ a6 ∧ a6 ≤ 12) (ha7 : 0 ≤ a7 ∧ a7 ≤ 6) (ha10 : 0 ≤ a10 ∧ a10 ≤ 99) (ha11 : 1 ≤ a11 ∧ a11 ≤ 9) (ha12 : 0 ≤ a12 ∧ a12 ≤ 9999) (ha13 : -2147483648 ≤ a13 ∧ a13 ≤ 2147483647) (σ : ZS) (hI : Inv σ)  (s0 : σ 1 0 0 6 = a6) (s1 : σ 1 0 0 7 = a7) (s2 : σ 1 0 0 10 = a10) (s3 : σ 1 0 0 11 = a11) (s4 : σ 1 0 0 12 = a12) (s5 : σ 1 0 0 13 = a13) (r0 : (∀ j, 0 ≤ j → j < 40 → σ 7 0 0 j = F j)) (r1 : (∀ j, 0 ≤ j → j < 40 → σ 8 0 0 j = G j)) (r2 : (∀ j, 0 ≤ j → j < 40 → σ 9 0 0 j = H j)) : CT xs 4 108 [av 0 0 0] σ (fun v σ' => ∃ y, v = some (iv y) ∧ (y = a13) ∧ IF MIg σ σ' ∧ (σ' 1 1 0 6 = a6 ∧ σ' 1 1 0 7 = a7 ∧ σ' 1 1 0 10 = a10 ∧ σ' 1 1 0 11 = a11 ∧ σ' 1 1 0 12 = a12 ∧ σ' 1 1 0 13 = a13 ∧ σ' 0 0 0 3 = 1 ∧ (∀ j, 0 ≤ j → j < 40 → σ' 7 1 0 j = F j) ∧ (∀ j, 0 ≤ j → j < 40 → σ' 8 1 0 j = G j) ∧ (∀ j, 0 ≤ j → j < 40 → σ' 9 1 0 j = H j) ∧ True)) := by
  refine G_ct (J := (fun σ' => IF MIg σ σ' ∧ True)) (L := [(0, av 0 0 0)]) (nL := 1) rfl rfl rfl ⟨IF.rf hI, trivial⟩ ?_
  refine T_ld zk_108_0 rfl rfl rfl (pc' := 1) rfl ?_
  refine T_getR (t' := 1) (i' := 1) (k' := 0) zk_108_1 rfl rfl rfl vd_0 (pc' := 4) rfl ?_
  refine T_ld zk_108_4 rfl rfl rfl (pc' := 5) rfl ?_
  refine T_getR (t' := 1) (i' := 0) (k' := 0) zk_108_5 rfl rfl rfl vd_0 (pc' := 8) rfl ?_
  refine T_callv (J' := (fun σ' => IF MIg σ σ' ∧ σ' 1 1 0 6 = a6 ∧ σ' 1 1 0 7 = a7 ∧ σ' 1 1 0 10 = a10 ∧ σ' 1 1 0 11 = a11 ∧ σ' 1 1 0 12 = a12 ∧ σ' 1 1 0 13 = a13 ∧ (∀ j, 0 ≤ j → j < 40 → σ' 7 1 0 j = F j) ∧ (∀ j, 0 ≤ j → j < 40 → σ' 8 1 0 j = G j) ∧ (∀ j, 0 ≤ j → j < 40 → σ' 9 1 0 j = H j) ∧ True)) (r := []) zk_108_8 rfl rfl rfl rfl rfl rfl (Or.inr ⟨_, _, _, _, rfl, (vd_1 (by omega)), rfl⟩) (fun σ' h => (s_22w_1 a6 a7 a10 a11 a12 a13 F G H (by omega) (by omega) (by omega) (by omega) (by omega) (by omega) σ' h.1.1 ((h.1.2 _ _ _ _ (by first | exact nMIg rfl | (unfold MIg; omega))).trans s0) ((h.1.2 _ _ _ _ (by first | exact nMIg rfl | (unfold MIg; omega))).trans s1) ((h.1.2 _ _ _ _ (by first | exact nMIg rfl | (unfold MIg; omega))).trans s2) ((h.1.2 _ _ _ _ (by first | exact nMIg rfl | (unfold MIg; omega))).trans s3) ((h.1.2 _ _ _ _ (by first | exact nMIg rfl | (unfold MIg; omega))).trans s4) ((h.1.2 _ _ _ _ (by first | exact nMIg rfl | (unfold MIg; omega))).trans s5) (fun j a b => (h.1.2 _ _ _ _ (by first | exact nMIg rfl | (unfold MIg; omega))).trans (r0 j (by omega) (by omega))) (fun j a b => (h.1.2 _ _ _ _ (by first | exact nMIg rfl | (unfold MIg; omega))).trans (r1 j (by omega) (by omega))) (fun j a b => (h.1.2 _ _ _ _ (by first | exact nMIg rfl | (unfold MIg; omega))).trans (r2 j (by omega) (by omega)))).le (Nat.le_of_ble_eq_true rfl) (fun v σ2 ⟨h1, h3, h4⟩ => ⟨h1, h.1.tr h3 sb56_a084065, h4.1, h4.2.1, h4.2.2.1, h4.2.2.2.1, h4.2.2.2.2.1, h4.2.2.2.2.2.1, h4.2.2.2.2.2.2.1, h4.2.2.2.2.2.2.2.1, h4.2.2.2.2.2.2.2.2.1, trivial⟩)) (pc' := 11) rfl ?_
  refine T_ld zk_108_11 rfl rfl rfl (pc' := 12) rfl ?_
  refine T_op zk_108_12 rfl X_ic (pc' := 13) rfl ?_
  refine T_putz (J' := (fun σ' => IF MIg σ σ' ∧ σ' 1 1 0 6 = a6 ∧ σ' 1 1 0 7 = a7 ∧ σ' 1 1 0 10 = a10 ∧ σ' 1 1 0 11 = a11 ∧ σ' 1 1 0 12 = a12 ∧ σ' 1 1 0 13 = a13 ∧ (∀ j, 0 ≤ j → j < 40 → σ' 7 1 0 j = F j) ∧ (∀ j, 0 ≤ j → j < 40 → σ' 8 1 0 j = G j) ∧ (∀ j, 0 ≤ j → j < 40 → σ' 9 1 0 j = H j) ∧ σ' 0 0 0 3 = 1 ∧ True)) zk_108_13 rfl rfl (by omega) vd_0 (fun σ' h => ⟨h.1.up (by simp only [rgP] <;> omega) (by first | exact pMIg rfl | (unfold MIg; omega)), (up_ne (by omega)).trans (h.2.1), (up_ne (by omega)).trans (h.2.2.1), (up_ne (by omega)).trans (h.2.2.2.1), (up_ne (by omega)).trans (h.2.2.2.2.1), (up_ne (by omega)).trans (h.2.2.2.2.2.1), (up_ne (by omega)).trans (h.2.2.2.2.2.2.1), fun j a b => (up_ne (by omega)).trans (h.2.2.2.2.2.2.2.1 j a b), fun j a b => (up_ne (by omega)).trans (h.2.2.2.2.2.2.2.2.1 j a b), fun j a b => (up_ne (by omega)).trans (h.2.2.2.2.2.2.2.2.2.1 j a b), up_eq, trivial⟩) (pc' := 16) rfl ?_
  refine T_ld zk_108_16 rfl rfl rfl (pc' := 17) rfl ?_
  refine T_getR (t' := 1) (i' := 0) (k' := 0) zk_108_17 rfl rfl rfl vd_0 (pc' := 20) rfl ?_
  refine G_getX (w := a13) zk_108_20 rfl (vd_1 (by omega)) (fun σ' h => (h.1.2 _ _ _ _ (by first | exact nMIg rfl | (unfold MIg; omega))).trans s5) (pc' := 23) rfl ?_
  exact T_iret zk_108_23 rfl (fun σ' h => ⟨_, rfl, (by omega), h.1, ⟨h.2.1, h.2.2.1, h.2.2.2.1, h.2.2.2.2.1, h.2.2.2.2.2.1, h.2.2.2.2.2.2.1, h.2.2.2.2.2.2.2.2.2.2.1, h.2.2.2.2.2.2.2.1, h.2.2.2.2.2.2.2.2.1, h.2.2.2.2.2.2.2.2.2.1, trivial⟩⟩)
/-- W.restore -/
theorem s_109w {xs : Nat × (Nat → Int32)}  (a6 : Int) (a7 : Int) (a10 : Int) (a11 : Int) (a12 : Int) (a13 : Int) (F G H : Nat → Int) (ha6 : 0 ≤ a6 ∧ a6 ≤ 12) (ha7 : 0 ≤ a7 ∧ a7 ≤ 6) (ha10 : 0 ≤ a10 ∧ a10 ≤ 99) (ha11 : 1 ≤ a11 ∧ a11 ≤ 9) (ha12 : 0 ≤ a12 ∧ a12 ≤ 9999) (ha13 : -2147483648 ≤ a13 ∧ a13 ≤ 2147483647) (σ : ZS) (hI : Inv σ)  (s0 : σ 0 0 0 3 = 1) (t0 : σ 1 1 0 6 = a6) (t1 : σ 1 1 0 7 = a7) (t2 : σ 1 1 0 10 = a10) (t3 : σ 1 1 0 11 = a11) (t4 : σ 1 1 0 12 = a12) (t5 : σ 1 1 0 13 = a13) (r0 : (∀ j, 0 ≤ j → j < 40 → σ 7 1 0 j = F j)) (r1 : (∀ j, 0 ≤ j → j < 40 → σ 8 1 0 j = G j)) (r2 : (∀ j, 0 ≤ j → j < 40 → σ 9 1 0 j = H j)) : CT xs 4 109 [av 0 0 0] σ (fun v σ' => ∃ y, v = some (iv y) ∧ (y = a13) ∧ IF MRs σ σ' ∧ (σ' 1 0 0 6 = a6 ∧ σ' 1 0 0 7 = a7 ∧ σ' 1 0 0 10 = a10 ∧ σ' 1 0 0 11 = a11 ∧ σ' 1 0 0 12 = a12 ∧ σ' 1 0 0 13 = a13 ∧ (∀ j, 0 ≤ j → j < 40 → σ' 7 0 0 j = F j) ∧ (∀ j, 0 ≤ j → j < 40 → σ' 8 0 0 j = G j) ∧ (∀ j, 0 ≤ j → j < 40 → σ' 9 0 0 j = H j) ∧ True)) := by
  refine G_ct (J := (fun σ' => IF MRs σ σ' ∧ True)) (L := [(0, av 0 0 0)]) (nL := 2) rfl rfl rfl ⟨IF.rf hI, trivial⟩ ?_
  refine T_ld zk_109_0 rfl rfl rfl (pc' := 1) rfl ?_
  refine G_getX (w := 1) zk_109_1 rfl vd_0 (fun σ' h => (h.1.2 _ _ _ _ (by first | exact nMRs rfl | (unfold MRs; omega))).trans s0) (pc' := 4) rfl ?_
  refine T_if_ne zk_109_4 (by omega) (pc' := 7) rfl (fun h1 => ?_) (fun h2 => ?_)
  ·
    refine T_ld zk_109_14 rfl rfl rfl (pc' := 15) rfl ?_
    refine T_getR (t' := 1) (i' := 0) (k' := 0) zk_109_15 rfl rfl rfl vd_0 (pc' := 18) rfl ?_
    refine T_ld zk_109_18 rfl rfl rfl (pc' := 19) rfl ?_
    refine T_getR (t' := 1) (i' := 1) (k' := 0) zk_109_19 rfl rfl rfl vd_0 (pc' := 22) rfl ?_
    refine T_callv (J' := (fun σ' => IF MRs σ σ' ∧ σ' 1 0 0 6 = a6 ∧ σ' 1 0 0 7 = a7 ∧ σ' 1 0 0 10 = a10 ∧ σ' 1 0 0 11 = a11 ∧ σ' 1 0 0 12 = a12 ∧ σ' 1 0 0 13 = a13 ∧ (∀ j, 0 ≤ j → j < 40 → σ' 7 0 0 j = F j) ∧ (∀ j, 0 ≤ j → j < 40 → σ' 8 0 0 j = G j) ∧ (∀ j, 0 ≤ j → j < 40 → σ' 9 0 0 j = H j) ∧ True)) (r := []) zk_109_22 rfl rfl rfl rfl rfl rfl (Or.inr ⟨_, _, _, _, rfl, (vd_1 (by omega)), rfl⟩) (fun σ' h => (s_22w_0 a6 a7 a10 a11 a12 a13 F G H (by omega) (by omega) (by omega) (by omega) (by omega) (by omega) σ' h.1.1 ((h.1.2 _ _ _ _ (by first | exact nMRs rfl | (unfold MRs; omega))).trans t0) ((h.1.2 _ _ _ _ (by first | exact nMRs rfl | (unfold MRs; omega))).trans t1) ((h.1.2 _ _ _ _ (by first | exact nMRs rfl | (unfold MRs; omega))).trans t2) ((h.1.2 _ _ _ _ (by first | exact nMRs rfl | (unfold MRs; omega))).trans t3) ((h.1.2 _ _ _ _ (by first | exact nMRs rfl | (unfold MRs; omega))).trans t4) ((h.1.2 _ _ _ _ (by first | exact nMRs rfl | (unfold MRs; omega))).trans t5) (fun j a b => (h.1.2 _ _ _ _ (by first | exact nMRs rfl | (unfold MRs; omega))).trans (r0 j (by omega) (by omega))) (fun j a b => (h.1.2 _ _ _ _ (by first | exact nMRs rfl | (unfold MRs; omega))).trans (r1 j (by omega) (by omega))) (fun j a b => (h.1.2 _ _ _ _ (by first | exact nMRs rfl | (unfold MRs; omega))).trans (r2 j (by omega) (by omega)))).le (Nat.le_of_ble_eq_true rfl) (fun v σ2 ⟨h1, h3, h4⟩ => ⟨h1, h.1.tr h3 sb56_b1b531c, h4.1, h4.2.1, h4.2.2.1, h4.2.2.2.1, h4.2.2.2.2.1, h4.2.2.2.2.2.1, h4.2.2.2.2.2.2.1, h4.2.2.2.2.2.2.2.1, h4.2.2.2.2.2.2.2.2.1, trivial⟩)) (pc' := 25) rfl ?_
    refine T_op zk_109_25 rfl X_ic (pc' := 26) rfl ?_
    refine T_st (L' := [(0, av 0 0 0), (1, iv 0)]) zk_109_26 (nL := 2) rfl rfl rfl rfl rfl (pc' := 27) rfl ?_
    refine T_loop1 (fun x4 => ((8 - x4 : Int)).toNat) (fun x4 => (0 ≤ x4 ∧ x4 ≤ 8)) (fun x4 => TJ xs (fun σ' => IF MRs σ σ' ∧ σ' 1 0 0 6 = a6 ∧ σ' 1 0 0 7 = a7 ∧ σ' 1 0 0 10 = a10 ∧ σ' 1 0 0 11 = a11 ∧ σ' 1 0 0 12 = a12 ∧ σ' 1 0 0 13 = a13 ∧ (∀ j, 0 ≤ j → j < 40 → σ' 7 0 0 j = F j) ∧ (∀ j, 0 ≤ j → j < 40 → σ' 8 0 0 j = G j) ∧ (∀ j, 0 ≤ j → j < 40 → σ' 9 0 0 j = H j) ∧ True) 3 109 27 [(0, av 0 0 0), (1, iv x4)] [] _) ?_ 0 (by omega)
    intro x4 hp6 ih5
    refine T_ld zk_109_27 rfl rfl rfl (pc' := 28) rfl ?_
    refine T_op zk_109_28 rfl (X_bi (v := 8) (by decide)) (pc' := 30) rfl ?_
    refine T_icmp_ge zk_109_30 (by omega) (by omega) (pc' := 33) rfl (fun h7 => ?_) (fun h8 => ?_)
    ·
      refine T_ld zk_109_78 rfl rfl rfl (pc' := 79) rfl ?_
      refine T_getR (t' := 1) (i' := 0) (k' := 0) zk_109_79 rfl rfl rfl vd_0 (pc' := 82) rfl ?_
      refine G_getX (w := a13) zk_109_82 rfl (vd_1 (by omega)) (fun σ' h => h.2.2.2.2.2.2.1) (pc' := 85) rfl ?_
      exact T_iret zk_109_85 rfl (fun σ' h => ⟨_, rfl, (by omega), h.1, ⟨h.2.1, h.2.2.1, h.2.2.2.1, h.2.2.2.2.1, h.2.2.2.2.2.1, h.2.2.2.2.2.2.1, h.2.2.2.2.2.2.2.1, h.2.2.2.2.2.2.2.2.1, h.2.2.2.2.2.2.2.2.2.1, trivial⟩⟩)
    ·
      refine T_ld zk_109_33 rfl rfl rfl (pc' := 34) rfl ?_
      refine T_getR (t' := 27) (i' := 0) (k' := 0) zk_109_34 rfl rfl rfl vd_0 (pc' := 37) rfl ?_
      refine T_ld zk_109_37 rfl rfl rfl (pc' := 38) rfl ?_
      refine G_aald (t' := 33) (im := 0) (i' := 0) (ln := 8) zk_109_38 rfl rfl rfl vd_27 (by omega) (by omega) (by omega) (pc' := 39) rfl ?_
      refine G_getf (lo := -2147483648) (hi := 2147483647) zk_109_39 rfl (vd_33 (by omega)) (fun σ' h => h.1.1) (fun _ h => (by have q := h.1; omega)) (pc' := 42) rfl (fun y9 hy9 hy9' => ?_)
      refine T_op zk_109_42 rfl X_ic (pc' := 43) rfl ?_
      refine T_icmp_ne zk_109_43 (by omega) (by omega) (pc' := 46) rfl (fun h10 => ?_) (fun h11 => ?_)
      ·
        refine T_iinc (L' := [(0, av 0 0 0), (1, iv (x4 + 1))]) zk_109_72 (nL := 2) rfl rfl rfl rfl (pc' := 75) rfl ?_
        refine T_goto zk_109_75 ?_
        exact ih5 (x4 + 1) (by omega) (by omega)
      ·
        refine T_ld zk_109_46 rfl rfl rfl (pc' := 47) rfl ?_
        refine T_ld zk_109_47 rfl rfl rfl (pc' := 48) rfl ?_
        refine T_getR (t' := 27) (i' := 0) (k' := 0) zk_109_48 rfl rfl rfl vd_0 (pc' := 51) rfl ?_
        refine T_ld zk_109_51 rfl rfl rfl (pc' := 52) rfl ?_
        refine G_aald (t' := 33) (im := 0) (i' := 0) (ln := 8) zk_109_52 rfl rfl rfl vd_27 (by omega) (by omega) (by omega) (pc' := 53) rfl ?_
        refine G_getf (lo := -2147483648) (hi := 2147483647) zk_109_53 rfl (vd_33 (by omega)) (fun σ' h => h.1.1) (fun _ h => (by have q := h.1; omega)) (pc' := 56) rfl (fun y12 hy12 hy12' => ?_)
        refine T_calli (K := fun y13 σ' => ((y13 = 0 ∧ (y12 < 0 ∨ a6 ≤ y12)) ∨ (y13 = 1 ∧ 0 ≤ y12 ∧ y12 < a6)) ∧ (fun σ' => IF MRs σ σ' ∧ σ' 1 0 0 6 = a6 ∧ σ' 1 0 0 7 = a7 ∧ σ' 1 0 0 10 = a10 ∧ σ' 1 0 0 11 = a11 ∧ σ' 1 0 0 12 = a12 ∧ σ' 1 0 0 13 = a13 ∧ (∀ j, 0 ≤ j → j < 40 → σ' 7 0 0 j = F j) ∧ (∀ j, 0 ≤ j → j < 40 → σ' 8 0 0 j = G j) ∧ (∀ j, 0 ≤ j → j < 40 → σ' 9 0 0 j = H j) ∧ True) σ') (r := []) zk_109_56 rfl rfl rfl rfl rfl rfl (Or.inr ⟨_, _, _, _, rfl, vd_0, rfl⟩) (fun σ' h => (w_117 y12 a6 (by omega) (by omega) σ' h.1.1 (h.2.1)).le (Nat.le_of_ble_eq_true rfl) (fun v σ2 ⟨y, h1, h2, h3, h4⟩ => ⟨y, h1, h2, h.1.tr h3 MN_sub, (h3.2 _ _ _ _ (fun q => q)).trans (h.2.1), (h3.2 _ _ _ _ (fun q => q)).trans (h.2.2.1), (h3.2 _ _ _ _ (fun q => q)).trans (h.2.2.2.1), (h3.2 _ _ _ _ (fun q => q)).trans (h.2.2.2.2.1), (h3.2 _ _ _ _ (fun q => q)).trans (h.2.2.2.2.2.1), (h3.2 _ _ _ _ (fun q => q)).trans (h.2.2.2.2.2.2.1), fun j a b => (h3.2 _ _ _ _ (fun q => q)).trans (h.2.2.2.2.2.2.2.1 j a b), fun j a b => (h3.2 _ _ _ _ (fun q => q)).trans (h.2.2.2.2.2.2.2.2.1 j a b), fun j a b => (h3.2 _ _ _ _ (fun q => q)).trans (h.2.2.2.2.2.2.2.2.2.1 j a b), trivial⟩)) (pc' := 59) rfl (fun y13 => ?_)
        refine G_ex (fun hy13 => ?_)
        refine T_if_ne zk_109_59 (by omega) (pc' := 62) rfl (fun h14 => ?_) (fun h15 => ?_)
        ·
          refine T_iinc (L' := [(0, av 0 0 0), (1, iv (x4 + 1))]) zk_109_72 (nL := 2) rfl rfl rfl rfl (pc' := 75) rfl ?_
          refine T_goto zk_109_75 ?_
          exact ih5 (x4 + 1) (by omega) (by omega)
        ·
          refine T_ld zk_109_62 rfl rfl rfl (pc' := 63) rfl ?_
          refine T_getR (t' := 27) (i' := 0) (k' := 0) zk_109_63 rfl rfl rfl vd_0 (pc' := 66) rfl ?_
          refine T_ld zk_109_66 rfl rfl rfl (pc' := 67) rfl ?_
          refine G_aald (t' := 33) (im := 0) (i' := 0) (ln := 8) zk_109_67 rfl rfl rfl vd_27 (by omega) (by omega) (by omega) (pc' := 68) rfl ?_
          refine T_op zk_109_68 rfl X_ic (pc' := 69) rfl ?_
          refine T_putf (J' := (fun σ' => IF MRs σ σ' ∧ σ' 1 0 0 6 = a6 ∧ σ' 1 0 0 7 = a7 ∧ σ' 1 0 0 10 = a10 ∧ σ' 1 0 0 11 = a11 ∧ σ' 1 0 0 12 = a12 ∧ σ' 1 0 0 13 = a13 ∧ (∀ j, 0 ≤ j → j < 40 → σ' 7 0 0 j = F j) ∧ (∀ j, 0 ≤ j → j < 40 → σ' 8 0 0 j = G j) ∧ (∀ j, 0 ≤ j → j < 40 → σ' 9 0 0 j = H j) ∧ σ' 33 0 (Int.toNat x4) 0 = 0 ∧ True)) zk_109_69 rfl rfl (vd_33 (by omega)) (fun σ' h => ⟨h.1.up (by simp only [rgP] <;> omega) (by first | exact pMRs rfl | (unfold MRs; omega)), (up_ne (by omega)).trans (h.2.1), (up_ne (by omega)).trans (h.2.2.1), (up_ne (by omega)).trans (h.2.2.2.1), (up_ne (by omega)).trans (h.2.2.2.2.1), (up_ne (by omega)).trans (h.2.2.2.2.2.1), (up_ne (by omega)).trans (h.2.2.2.2.2.2.1), fun j a b => (up_ne (by omega)).trans (h.2.2.2.2.2.2.2.1 j a b), fun j a b => (up_ne (by omega)).trans (h.2.2.2.2.2.2.2.2.1 j a b), fun j a b => (up_ne (by omega)).trans (h.2.2.2.2.2.2.2.2.2.1 j a b), up_eq, trivial⟩) (pc' := 72) rfl ?_
          refine T_iinc (L' := [(0, av 0 0 0), (1, iv (x4 + 1))]) zk_109_72 (nL := 2) rfl rfl rfl rfl (pc' := 75) rfl ?_
          refine T_goto zk_109_75 ?_
          refine G_know (J' := (fun σ' => IF MRs σ σ' ∧ σ' 1 0 0 6 = a6 ∧ σ' 1 0 0 7 = a7 ∧ σ' 1 0 0 10 = a10 ∧ σ' 1 0 0 11 = a11 ∧ σ' 1 0 0 12 = a12 ∧ σ' 1 0 0 13 = a13 ∧ (∀ j, 0 ≤ j → j < 40 → σ' 7 0 0 j = F j) ∧ (∀ j, 0 ≤ j → j < 40 → σ' 8 0 0 j = G j) ∧ (∀ j, 0 ≤ j → j < 40 → σ' 9 0 0 j = H j) ∧ True)) (fun σ' h => ⟨h.1, h.2.1, h.2.2.1, h.2.2.2.1, h.2.2.2.2.1, h.2.2.2.2.2.1, h.2.2.2.2.2.2.1, h.2.2.2.2.2.2.2.1, h.2.2.2.2.2.2.2.2.1, h.2.2.2.2.2.2.2.2.2.1, trivial⟩) ?_
          exact ih5 (x4 + 1) (by omega) (by omega)
  · exfalso; omega
