/-- W$LawReader.readBoth -/
theorem s_53_14 {xs : Nat × (Nat → Int32)}  (n : Int) (p : Int) (F : Nat → Int) (st : List Bool) (hn : 0 ≤ n ∧ n ≤ 96) (hp : 0 ≤ p ∧ p ≤ 200) (hpn : p ≤ n) (hln : (st.length : Int) = 14) (hcl : cls st = st) (σ : ZS) (hI : Inv σ)  (sp : σ 29 0 0 3 = p) (sn : σ 29 0 0 2 = n) (sl : eqn F (σ 32 0 0) (Int.toNat n)) : CT xs 23 53 [av 29 0 0, iv 14] σ (fun v σ' => ∃ y, v = some (iv y) ∧ (y = 0 ∨ y = 1) ∧ IF MRp σ σ' ∧ (((p ≤ σ' 29 0 0 3 ∧ σ' 29 0 0 3 ≤ n) ∧ (y = 1 → RUN F n (p) st 1 = RUN F n (σ' 29 0 0 3) st 0 ∧ ¬ lt F n (σ' 29 0 0 3) = 38) ∧ (y = 0 → RUN F n (p) st 1 = σ' 29 0 0 3)) ∧ True)) := by
  refine G_ct (J := (fun σ' => IF MRp σ σ' ∧ σ' 29 0 0 3 = p ∧ eqn F (σ' 32 0 0) (Int.toNat n) ∧ True)) (L := [(0, av 29 0 0), (1, iv 14)]) (nL := 4) rfl rfl rfl ⟨IF.rf hI, sp, sl, trivial⟩ ?_
  refine T_ld zk_53_0 rfl rfl rfl (pc' := 1) rfl ?_
  refine T_ld zk_53_1 rfl rfl rfl (pc' := 2) rfl ?_
  refine T_calli (K := fun y1 σ' => (y1 = 0 ∨ y1 = 1) ∧ (fun σ' => IF MRp σ σ' ∧ eqn F (σ' 32 0 0) (Int.toNat n) ∧ ((p ≤ σ' 29 0 0 3 ∧ σ' 29 0 0 3 ≤ n) ∧ (y1 = 1 → RUN F n (p) st 1 = RUN F n (σ' 29 0 0 3) st 0) ∧ (y1 = 0 → RUN F n (p) st 1 = σ' 29 0 0 3)) ∧ True) σ') (r := []) zk_53_2 rfl rfl rfl rfl rfl rfl (Or.inr ⟨_, _, _, _, rfl, vd_29, rfl⟩) (fun σ' h => (s_54_14 n p F st st (by omega) (by omega) (by omega) hln hcl σ' h.1.1 (h.2.1) ((h.1.2 _ _ _ _ (by first | exact nMRp rfl | (unfold MRp; omega))).trans sn) (h.2.2.1)).le (Nat.le_of_ble_eq_true rfl) (fun v σ2 ⟨y, h1, h2, h3, h4⟩ => ⟨y, h1, h2, h.1.tr h3 (fun _ _ _ _ h => h), gf_mk (fun z => eqn F z (Int.toNat n)) (funext fun j => h3.2 _ _ _ _ (by first | exact nMRp rfl | (unfold MRp; omega))) (h.2.2.1), h4.1, trivial⟩)) (pc' := 5) rfl (fun y1 => ?_)
  refine G_ex (fun hy1 => ?_)
  refine T_st (L' := [(0, av 29 0 0), (1, iv 14), (2, iv y1)]) zk_53_5 (nL := 4) rfl rfl rfl rfl rfl (pc' := 6) rfl ?_
  refine T_op zk_53_6 rfl X_ic (pc' := 7) rfl ?_
  refine T_st (L' := [(0, av 29 0 0), (1, iv 14), (2, iv y1), (3, iv 0)]) zk_53_7 (nL := 4) rfl rfl rfl rfl rfl (pc' := 8) rfl ?_
  refine G_know (J' := (fun σ' => IF MRp σ σ' ∧ eqn F (σ' 32 0 0) (Int.toNat n) ∧ (0 ≤ σ' 29 0 0 3 ∧ p ≤ σ' 29 0 0 3 ∧ σ' 29 0 0 3 ≤ n ∧ (y1 = 1 → RUN F n (p) st 1 = RUN F n (σ' 29 0 0 3) st 0) ∧ (y1 = 0 → RUN F n (p) st 1 = σ' 29 0 0 3)) ∧ True)) (fun σ' h => ⟨h.1, h.2.1, (by have e := h.2.2.1; omega), trivial⟩) ?_
  refine T_loop2 (fun x2 x3 => ((96 - x3 : Int)).toNat) (fun x2 x3 => (0 ≤ x2 ∧ x2 ≤ 1) ∧ (0 ≤ x3 ∧ x3 ≤ 96)) (fun x2 x3 => TJ xs (fun σ' => IF MRp σ σ' ∧ eqn F (σ' 32 0 0) (Int.toNat n) ∧ (x3 ≤ σ' 29 0 0 3 ∧ p ≤ σ' 29 0 0 3 ∧ σ' 29 0 0 3 ≤ n ∧ (x2 = 1 → RUN F n (p) st 1 = RUN F n (σ' 29 0 0 3) st 0) ∧ (x2 = 0 → RUN F n (p) st 1 = σ' 29 0 0 3)) ∧ True) 22 53 8 [(0, av 29 0 0), (1, iv 14), (2, iv x2), (3, iv x3)] [] _) ?_ y1 0 (by omega)
  intro x2 x3 hp5 ih4
  refine T_ld zk_53_8 rfl rfl rfl (pc' := 9) rfl ?_
  refine T_op zk_53_9 rfl (X_bi (v := 96) (by decide)) (pc' := 11) rfl ?_
  refine T_icmp_ge zk_53_11 (by omega) (by omega) (pc' := 14) rfl (fun h6 => ?_) (fun h7 => ?_)
  ·
    refine G_learnG (G := fun z => (x3 ≤ z ∧ p ≤ z ∧ z ≤ n ∧ (x2 = 1 → RUN F n (p) st 1 = RUN F n (z) st 0) ∧ (x2 = 0 → RUN F n (p) st 1 = z))) (t := 29) (i := 0) (k := 0) (j := 3) (lo := -2147483648) (hi := 2147483647) (J2 := fun y8 => (fun σ' => IF MRp σ σ' ∧ eqn F (σ' 32 0 0) (Int.toNat n) ∧ (x3 ≤ σ' 29 0 0 3 ∧ p ≤ σ' 29 0 0 3 ∧ σ' 29 0 0 3 ≤ n ∧ (x2 = 1 → RUN F n (p) st 1 = RUN F n (σ' 29 0 0 3) st 0) ∧ (x2 = 0 → RUN F n (p) st 1 = σ' 29 0 0 3)) ∧ σ' 29 0 0 3 = y8 ∧ True)) vd_29 (fun σ' h => h.1.1) (fun _ h => (by have q := h.1; omega)) (fun σ' h => h.2.2.1) (fun σ' y h hy => ⟨h.1, h.2.1, h.2.2.1, hy, trivial⟩) (fun y8 hy8 hy8' gy8 => ?_)
    refine G_know (J' := (fun σ' => IF MRp σ σ' ∧ eqn F (σ' 32 0 0) (Int.toNat n) ∧ σ' 29 0 0 3 = y8 ∧ True)) (fun σ' h => ⟨h.1, h.2.1, h.2.2.2.1, trivial⟩) ?_
    have hly8 := lt_spec F n y8
    refine T_ld zk_53_48 rfl rfl rfl (pc' := 49) rfl ?_
    exact T_zret zk_53_49 rfl (by omega) (fun σ' h => ⟨_, rfl, (by omega), h.1, ⟨(by rw [h.2.2.1]; omega), trivial⟩⟩)
  ·
    refine T_ld zk_53_14 rfl rfl rfl (pc' := 15) rfl ?_
    refine T_if_eq zk_53_15 (by omega) (pc' := 18) rfl (fun h9 => ?_) (fun h10 => ?_)
    ·
      refine G_learnG (G := fun z => (x3 ≤ z ∧ p ≤ z ∧ z ≤ n ∧ (x2 = 1 → RUN F n (p) st 1 = RUN F n (z) st 0) ∧ (x2 = 0 → RUN F n (p) st 1 = z))) (t := 29) (i := 0) (k := 0) (j := 3) (lo := -2147483648) (hi := 2147483647) (J2 := fun y11 => (fun σ' => IF MRp σ σ' ∧ eqn F (σ' 32 0 0) (Int.toNat n) ∧ (x3 ≤ σ' 29 0 0 3 ∧ p ≤ σ' 29 0 0 3 ∧ σ' 29 0 0 3 ≤ n ∧ (x2 = 1 → RUN F n (p) st 1 = RUN F n (σ' 29 0 0 3) st 0) ∧ (x2 = 0 → RUN F n (p) st 1 = σ' 29 0 0 3)) ∧ σ' 29 0 0 3 = y11 ∧ True)) vd_29 (fun σ' h => h.1.1) (fun _ h => (by have q := h.1; omega)) (fun σ' h => h.2.2.1) (fun σ' y h hy => ⟨h.1, h.2.1, h.2.2.1, hy, trivial⟩) (fun y11 hy11 hy11' gy11 => ?_)
      refine G_know (J' := (fun σ' => IF MRp σ σ' ∧ eqn F (σ' 32 0 0) (Int.toNat n) ∧ σ' 29 0 0 3 = y11 ∧ True)) (fun σ' h => ⟨h.1, h.2.1, h.2.2.2.1, trivial⟩) ?_
      have hly11 := lt_spec F n y11
      refine T_ld zk_53_48 rfl rfl rfl (pc' := 49) rfl ?_
      exact T_zret zk_53_49 rfl (by omega) (fun σ' h => ⟨_, rfl, (by omega), h.1, ⟨(by rw [h.2.2.1]; omega), trivial⟩⟩)
    ·
      refine G_learnG (G := fun z => (x3 ≤ z ∧ p ≤ z ∧ z ≤ n ∧ (x2 = 1 → RUN F n (p) st 1 = RUN F n (z) st 0) ∧ (x2 = 0 → RUN F n (p) st 1 = z))) (t := 29) (i := 0) (k := 0) (j := 3) (lo := -2147483648) (hi := 2147483647) (J2 := fun y12 => (fun σ' => IF MRp σ σ' ∧ eqn F (σ' 32 0 0) (Int.toNat n) ∧ (x3 ≤ σ' 29 0 0 3 ∧ p ≤ σ' 29 0 0 3 ∧ σ' 29 0 0 3 ≤ n ∧ (x2 = 1 → RUN F n (p) st 1 = RUN F n (σ' 29 0 0 3) st 0) ∧ (x2 = 0 → RUN F n (p) st 1 = σ' 29 0 0 3)) ∧ σ' 29 0 0 3 = y12 ∧ True)) vd_29 (fun σ' h => h.1.1) (fun _ h => (by have q := h.1; omega)) (fun σ' h => h.2.2.1) (fun σ' y h hy => ⟨h.1, h.2.1, h.2.2.1, hy, trivial⟩) (fun y12 hy12 hy12' gy12 => ?_)
      refine G_know (J' := (fun σ' => IF MRp σ σ' ∧ eqn F (σ' 32 0 0) (Int.toNat n) ∧ σ' 29 0 0 3 = y12 ∧ True)) (fun σ' h => ⟨h.1, h.2.1, h.2.2.2.1, trivial⟩) ?_
      obtain ⟨gA, gB, gC, gD, gE⟩ := gy12
      have gF := gD (by omega)
      clear gD gE
      refine T_ld zk_53_18 rfl rfl rfl (pc' := 19) rfl ?_
      refine T_op zk_53_19 rfl (X_bi (v := 38) (by decide)) (pc' := 21) rfl ?_
      refine T_calli (K := fun y13 σ' => ((y13 = 0 ∧ (¬ lt F n (y12) = 38)) ∨ (y13 = 1 ∧ ¬ (¬ lt F n (y12) = 38))) ∧ (fun σ' => IF MRp σ σ' ∧ eqn F (σ' 32 0 0) (Int.toNat n) ∧ ((y13 = 1 → σ' 29 0 0 3 = y12 + 1) ∧ (y13 = 0 → σ' 29 0 0 3 = y12)) ∧ True) σ') (r := []) zk_53_21 rfl rfl rfl rfl rfl rfl (Or.inr ⟨_, _, _, _, rfl, vd_29, rfl⟩) (fun σ' h => (s_50 38 n y12 F (by omega) (by omega) (by omega) σ' h.1.1 (h.2.2.1) ((h.1.2 _ _ _ _ (by first | exact nMRp rfl | (unfold MRp; omega))).trans sn) (h.2.1)).le (Nat.le_of_ble_eq_true rfl) (fun v σ2 ⟨y, h1, h2, h3, h4⟩ => ⟨y, h1, h2, h.1.tr h3 (fun _ _ _ _ h => h), gf_mk (fun z => eqn F z (Int.toNat n)) (funext fun j => h3.2 _ _ _ _ (by first | exact nMRp rfl | (unfold MRp; omega))) (h.2.1), h4.1, trivial⟩)) (pc' := 24) rfl (fun y13 => ?_)
      refine G_ex (fun hy13 => ?_)
      refine T_if_eq zk_53_24 (by omega) (pc' := 27) rfl (fun h14 => ?_) (fun h15 => ?_)
      ·
        refine G_learnG (G := fun z => ((y13 = 1 → z = y12 + 1) ∧ (y13 = 0 → z = y12))) (t := 29) (i := 0) (k := 0) (j := 3) (lo := -2147483648) (hi := 2147483647) (J2 := fun y16 => (fun σ' => IF MRp σ σ' ∧ eqn F (σ' 32 0 0) (Int.toNat n) ∧ ((y13 = 1 → σ' 29 0 0 3 = y12 + 1) ∧ (y13 = 0 → σ' 29 0 0 3 = y12)) ∧ σ' 29 0 0 3 = y16 ∧ True)) vd_29 (fun σ' h => h.1.1) (fun _ h => (by have q := h.1; omega)) (fun σ' h => h.2.2.1) (fun σ' y h hy => ⟨h.1, h.2.1, h.2.2.1, hy, trivial⟩) (fun y16 hy16 hy16' gy16 => ?_)
        refine G_know (J' := (fun σ' => IF MRp σ σ' ∧ eqn F (σ' 32 0 0) (Int.toNat n) ∧ σ' 29 0 0 3 = y16 ∧ True)) (fun σ' h => ⟨h.1, h.2.1, h.2.2.2.1, trivial⟩) ?_
        have hv17 : y16 = y12 := by omega
        try clear gy16
        refine G_know (J' := (fun σ' => IF MRp σ σ' ∧ eqn F (σ' 32 0 0) (Int.toNat n) ∧ σ' 29 0 0 3 = y12 ∧ True)) (fun σ' h => ⟨h.1, h.2.1, (h.2.2.1).trans hv17, trivial⟩) ?_
        refine T_ld zk_53_48 rfl rfl rfl (pc' := 49) rfl ?_
        exact T_zret zk_53_49 rfl (by omega) (fun σ' h => ⟨_, rfl, (by omega), h.1, ⟨(by rw [h.2.2.1]; omega), trivial⟩⟩)
      ·
        refine G_learnG (G := fun z => ((y13 = 1 → z = y12 + 1) ∧ (y13 = 0 → z = y12))) (t := 29) (i := 0) (k := 0) (j := 3) (lo := -2147483648) (hi := 2147483647) (J2 := fun y18 => (fun σ' => IF MRp σ σ' ∧ eqn F (σ' 32 0 0) (Int.toNat n) ∧ ((y13 = 1 → σ' 29 0 0 3 = y12 + 1) ∧ (y13 = 0 → σ' 29 0 0 3 = y12)) ∧ σ' 29 0 0 3 = y18 ∧ True)) vd_29 (fun σ' h => h.1.1) (fun _ h => (by have q := h.1; omega)) (fun σ' h => h.2.2.1) (fun σ' y h hy => ⟨h.1, h.2.1, h.2.2.1, hy, trivial⟩) (fun y18 hy18 hy18' gy18 => ?_)
        refine G_know (J' := (fun σ' => IF MRp σ σ' ∧ eqn F (σ' 32 0 0) (Int.toNat n) ∧ σ' 29 0 0 3 = y18 ∧ True)) (fun σ' h => ⟨h.1, h.2.1, h.2.2.2.1, trivial⟩) ?_
        have hv19 : y18 = y12 + 1 := by omega
        try clear gy18
        refine G_know (J' := (fun σ' => IF MRp σ σ' ∧ eqn F (σ' 32 0 0) (Int.toNat n) ∧ σ' 29 0 0 3 = y12 + 1 ∧ True)) (fun σ' h => ⟨h.1, h.2.1, (h.2.2.1).trans hv19, trivial⟩) ?_
        have hin := lt_in (L := F) (n := n) (p := y12) (by omega)
        have hs := R_sign (L := F) (n := n) (p := y12) st (by omega) (by omega) (by omega)
        refine T_ld zk_53_27 rfl rfl rfl (pc' := 28) rfl ?_
        refine T_ld zk_53_28 rfl rfl rfl (pc' := 29) rfl ?_
        refine T_calli (K := fun y20 σ' => (y20 = 0 ∨ y20 = 1) ∧ (fun σ' => IF MRp σ σ' ∧ eqn F (σ' 32 0 0) (Int.toNat n) ∧ (((y12 + 1) ≤ σ' 29 0 0 3 ∧ σ' 29 0 0 3 ≤ n) ∧ (y20 = 1 → RUN F n ((y12 + 1)) st 1 = RUN F n (σ' 29 0 0 3) st 0) ∧ (y20 = 0 → RUN F n ((y12 + 1)) st 1 = σ' 29 0 0 3)) ∧ True) σ') (r := []) zk_53_29 rfl rfl rfl rfl rfl rfl (Or.inr ⟨_, _, _, _, rfl, vd_29, rfl⟩) (fun σ' h => (s_54_14 n (y12 + 1) F st st (by omega) (by omega) (by omega) hln hcl σ' h.1.1 (h.2.2.1) ((h.1.2 _ _ _ _ (by first | exact nMRp rfl | (unfold MRp; omega))).trans sn) (h.2.1)).le (Nat.le_of_ble_eq_true rfl) (fun v σ2 ⟨y, h1, h2, h3, h4⟩ => ⟨y, h1, h2, h.1.tr h3 (fun _ _ _ _ h => h), gf_mk (fun z => eqn F z (Int.toNat n)) (funext fun j => h3.2 _ _ _ _ (by first | exact nMRp rfl | (unfold MRp; omega))) (h.2.1), h4.1, trivial⟩)) (pc' := 32) rfl (fun y20 => ?_)
        refine G_ex (fun hy20 => ?_)
        refine T_st (L' := [(0, av 29 0 0), (1, iv 14), (2, iv y20), (3, iv x3)]) zk_53_32 (nL := 4) rfl rfl rfl rfl rfl (pc' := 33) rfl ?_
        refine T_ld zk_53_33 rfl rfl rfl (pc' := 34) rfl ?_
        refine T_getR (t' := 30) (i' := 0) (k' := 0) zk_53_34 rfl rfl rfl vd_29 (pc' := 37) rfl ?_
        refine T_op zk_53_37 rfl (X_bi (v := -2) (by decide)) (pc' := 39) rfl ?_
        refine T_callv (J' := (fun σ' => IF MRp σ σ' ∧ eqn F (σ' 32 0 0) (Int.toNat n) ∧ (((y12 + 1) ≤ σ' 29 0 0 3 ∧ σ' 29 0 0 3 ≤ n) ∧ (y20 = 1 → RUN F n ((y12 + 1)) st 1 = RUN F n (σ' 29 0 0 3) st 0) ∧ (y20 = 0 → RUN F n ((y12 + 1)) st 1 = σ' 29 0 0 3)) ∧ True)) (r := []) zk_53_39 rfl rfl rfl rfl rfl rfl (Or.inr ⟨_, _, _, _, rfl, vd_30, rfl⟩) (fun σ' h => (s_42 ((-2)) (by omega) σ' h.1.1 ).le (Nat.le_of_ble_eq_true rfl) (fun v σ2 ⟨h1, h3, h4⟩ => ⟨h1, h.1.tr h3 sb79v_2c1b94d, gf_mk (fun z => eqn F z (Int.toNat n)) (funext fun j => h3.2 _ _ _ _ (by first | exact nMRq rfl | (unfold MRq; omega))) (h.2.1), gh_mk (fun z => ((y12 + 1) ≤ z ∧ z ≤ n) ∧ (y20 = 1 → RUN F n ((y12 + 1)) st 1 = RUN F n (z) st 0) ∧ (y20 = 0 → RUN F n ((y12 + 1)) st 1 = z)) (h3.2 _ _ _ _ (by first | exact nMRq rfl | (unfold MRq; omega))) (h.2.2.1), trivial⟩)) (pc' := 42) rfl ?_
        refine T_iinc (L' := [(0, av 29 0 0), (1, iv 14), (2, iv y20), (3, iv (x3 + 1))]) zk_53_42 (nL := 4) rfl rfl rfl rfl (pc' := 45) rfl ?_
        refine T_goto zk_53_45 ?_
        refine G_know (J' := (fun σ' => IF MRp σ σ' ∧ eqn F (σ' 32 0 0) (Int.toNat n) ∧ ((x3 + 1) ≤ σ' 29 0 0 3 ∧ p ≤ σ' 29 0 0 3 ∧ σ' 29 0 0 3 ≤ n ∧ (y20 = 1 → RUN F n (p) st 1 = RUN F n (σ' 29 0 0 3) st 0) ∧ (y20 = 0 → RUN F n (p) st 1 = σ' 29 0 0 3)) ∧ True)) (fun σ' h => ⟨h.1, h.2.1, (by have e := h.2.2.1; omega), trivial⟩) ?_
        exact ih4 y20 (x3 + 1) (by omega) (by omega)
/-- W$LawReader.readEither -/
theorem s_52_14 {xs : Nat × (Nat → Int32)}  (n : Int) (p : Int) (F : Nat → Int) (st : List Bool) (hn : 0 ≤ n ∧ n ≤ 96) (hp : 0 ≤ p ∧ p ≤ 200) (hpn : p ≤ n) (hln : (st.length : Int) = 14) (hcl : cls st = st) (σ : ZS) (hI : Inv σ)  (sp : σ 29 0 0 3 = p) (sn : σ 29 0 0 2 = n) (sl : eqn F (σ 32 0 0) (Int.toNat n)) : CT xs 24 52 [av 29 0 0, iv 14] σ (fun v σ' => ∃ y, v = some (iv y) ∧ (y = 0 ∨ y = 1) ∧ IF MRp σ σ' ∧ (((p ≤ σ' 29 0 0 3 ∧ σ' 29 0 0 3 ≤ n) ∧ (y = 1 → RUN F n (p) st 1 = RUN F n (σ' 29 0 0 3) st 0 ∧ ¬ lt F n (σ' 29 0 0 3) = 38 ∧ ¬ lt F n (σ' 29 0 0 3) = 124) ∧ (y = 0 → RUN F n (p) st 1 = σ' 29 0 0 3)) ∧ True)) := by
  refine G_ct (J := (fun σ' => IF MRp σ σ' ∧ σ' 29 0 0 3 = p ∧ eqn F (σ' 32 0 0) (Int.toNat n) ∧ True)) (L := [(0, av 29 0 0), (1, iv 14)]) (nL := 4) rfl rfl rfl ⟨IF.rf hI, sp, sl, trivial⟩ ?_
  refine T_ld zk_52_0 rfl rfl rfl (pc' := 1) rfl ?_
  refine T_ld zk_52_1 rfl rfl rfl (pc' := 2) rfl ?_
  refine T_calli (K := fun y1 σ' => (y1 = 0 ∨ y1 = 1) ∧ (fun σ' => IF MRp σ σ' ∧ eqn F (σ' 32 0 0) (Int.toNat n) ∧ ((p ≤ σ' 29 0 0 3 ∧ σ' 29 0 0 3 ≤ n) ∧ (y1 = 1 → RUN F n (p) st 1 = RUN F n (σ' 29 0 0 3) st 0 ∧ ¬ lt F n (σ' 29 0 0 3) = 38) ∧ (y1 = 0 → RUN F n (p) st 1 = σ' 29 0 0 3)) ∧ True) σ') (r := []) zk_52_2 rfl rfl rfl rfl rfl rfl (Or.inr ⟨_, _, _, _, rfl, vd_29, rfl⟩) (fun σ' h => (s_53_14 n p F st (by omega) (by omega) (by omega) hln hcl σ' h.1.1 (h.2.1) ((h.1.2 _ _ _ _ (by first | exact nMRp rfl | (unfold MRp; omega))).trans sn) (h.2.2.1)).le (Nat.le_of_ble_eq_true rfl) (fun v σ2 ⟨y, h1, h2, h3, h4⟩ => ⟨y, h1, h2, h.1.tr h3 (fun _ _ _ _ h => h), gf_mk (fun z => eqn F z (Int.toNat n)) (funext fun j => h3.2 _ _ _ _ (by first | exact nMRp rfl | (unfold MRp; omega))) (h.2.2.1), h4.1, trivial⟩)) (pc' := 5) rfl (fun y1 => ?_)
  refine G_ex (fun hy1 => ?_)
  refine T_st (L' := [(0, av 29 0 0), (1, iv 14), (2, iv y1)]) zk_52_5 (nL := 4) rfl rfl rfl rfl rfl (pc' := 6) rfl ?_
  refine T_op zk_52_6 rfl X_ic (pc' := 7) rfl ?_
  refine T_st (L' := [(0, av 29 0 0), (1, iv 14), (2, iv y1), (3, iv 0)]) zk_52_7 (nL := 4) rfl rfl rfl rfl rfl (pc' := 8) rfl ?_
  refine G_know (J' := (fun σ' => IF MRp σ σ' ∧ eqn F (σ' 32 0 0) (Int.toNat n) ∧ (0 ≤ σ' 29 0 0 3 ∧ p ≤ σ' 29 0 0 3 ∧ σ' 29 0 0 3 ≤ n ∧ (y1 = 1 → RUN F n (p) st 1 = RUN F n (σ' 29 0 0 3) st 0 ∧ ¬ lt F n (σ' 29 0 0 3) = 38) ∧ (y1 = 0 → RUN F n (p) st 1 = σ' 29 0 0 3)) ∧ True)) (fun σ' h => ⟨h.1, h.2.1, (by have e := h.2.2.1; omega), trivial⟩) ?_
  refine T_loop2 (fun x2 x3 => ((96 - x3 : Int)).toNat) (fun x2 x3 => (0 ≤ x2 ∧ x2 ≤ 1) ∧ (0 ≤ x3 ∧ x3 ≤ 96)) (fun x2 x3 => TJ xs (fun σ' => IF MRp σ σ' ∧ eqn F (σ' 32 0 0) (Int.toNat n) ∧ (x3 ≤ σ' 29 0 0 3 ∧ p ≤ σ' 29 0 0 3 ∧ σ' 29 0 0 3 ≤ n ∧ (x2 = 1 → RUN F n (p) st 1 = RUN F n (σ' 29 0 0 3) st 0 ∧ ¬ lt F n (σ' 29 0 0 3) = 38) ∧ (x2 = 0 → RUN F n (p) st 1 = σ' 29 0 0 3)) ∧ True) 23 52 8 [(0, av 29 0 0), (1, iv 14), (2, iv x2), (3, iv x3)] [] _) ?_ y1 0 (by omega)
  intro x2 x3 hp5 ih4
  refine T_ld zk_52_8 rfl rfl rfl (pc' := 9) rfl ?_
  refine T_op zk_52_9 rfl (X_bi (v := 96) (by decide)) (pc' := 11) rfl ?_
  refine T_icmp_ge zk_52_11 (by omega) (by omega) (pc' := 14) rfl (fun h6 => ?_) (fun h7 => ?_)
  ·
    refine G_learnG (G := fun z => (x3 ≤ z ∧ p ≤ z ∧ z ≤ n ∧ (x2 = 1 → RUN F n (p) st 1 = RUN F n (z) st 0 ∧ ¬ lt F n (z) = 38) ∧ (x2 = 0 → RUN F n (p) st 1 = z))) (t := 29) (i := 0) (k := 0) (j := 3) (lo := -2147483648) (hi := 2147483647) (J2 := fun y8 => (fun σ' => IF MRp σ σ' ∧ eqn F (σ' 32 0 0) (Int.toNat n) ∧ (x3 ≤ σ' 29 0 0 3 ∧ p ≤ σ' 29 0 0 3 ∧ σ' 29 0 0 3 ≤ n ∧ (x2 = 1 → RUN F n (p) st 1 = RUN F n (σ' 29 0 0 3) st 0 ∧ ¬ lt F n (σ' 29 0 0 3) = 38) ∧ (x2 = 0 → RUN F n (p) st 1 = σ' 29 0 0 3)) ∧ σ' 29 0 0 3 = y8 ∧ True)) vd_29 (fun σ' h => h.1.1) (fun _ h => (by have q := h.1; omega)) (fun σ' h => h.2.2.1) (fun σ' y h hy => ⟨h.1, h.2.1, h.2.2.1, hy, trivial⟩) (fun y8 hy8 hy8' gy8 => ?_)
    refine G_know (J' := (fun σ' => IF MRp σ σ' ∧ eqn F (σ' 32 0 0) (Int.toNat n) ∧ σ' 29 0 0 3 = y8 ∧ True)) (fun σ' h => ⟨h.1, h.2.1, h.2.2.2.1, trivial⟩) ?_
    have hly8 := lt_spec F n y8
    refine T_ld zk_52_48 rfl rfl rfl (pc' := 49) rfl ?_
    exact T_zret zk_52_49 rfl (by omega) (fun σ' h => ⟨_, rfl, (by omega), h.1, ⟨(by rw [h.2.2.1]; omega), trivial⟩⟩)
  ·
    refine T_ld zk_52_14 rfl rfl rfl (pc' := 15) rfl ?_
    refine T_if_eq zk_52_15 (by omega) (pc' := 18) rfl (fun h9 => ?_) (fun h10 => ?_)
    ·
      refine G_learnG (G := fun z => (x3 ≤ z ∧ p ≤ z ∧ z ≤ n ∧ (x2 = 1 → RUN F n (p) st 1 = RUN F n (z) st 0 ∧ ¬ lt F n (z) = 38) ∧ (x2 = 0 → RUN F n (p) st 1 = z))) (t := 29) (i := 0) (k := 0) (j := 3) (lo := -2147483648) (hi := 2147483647) (J2 := fun y11 => (fun σ' => IF MRp σ σ' ∧ eqn F (σ' 32 0 0) (Int.toNat n) ∧ (x3 ≤ σ' 29 0 0 3 ∧ p ≤ σ' 29 0 0 3 ∧ σ' 29 0 0 3 ≤ n ∧ (x2 = 1 → RUN F n (p) st 1 = RUN F n (σ' 29 0 0 3) st 0 ∧ ¬ lt F n (σ' 29 0 0 3) = 38) ∧ (x2 = 0 → RUN F n (p) st 1 = σ' 29 0 0 3)) ∧ σ' 29 0 0 3 = y11 ∧ True)) vd_29 (fun σ' h => h.1.1) (fun _ h => (by have q := h.1; omega)) (fun σ' h => h.2.2.1) (fun σ' y h hy => ⟨h.1, h.2.1, h.2.2.1, hy, trivial⟩) (fun y11 hy11 hy11' gy11 => ?_)
      refine G_know (J' := (fun σ' => IF MRp σ σ' ∧ eqn F (σ' 32 0 0) (Int.toNat n) ∧ σ' 29 0 0 3 = y11 ∧ True)) (fun σ' h => ⟨h.1, h.2.1, h.2.2.2.1, trivial⟩) ?_
      have hly11 := lt_spec F n y11
      refine T_ld zk_52_48 rfl rfl rfl (pc' := 49) rfl ?_
      exact T_zret zk_52_49 rfl (by omega) (fun σ' h => ⟨_, rfl, (by omega), h.1, ⟨(by rw [h.2.2.1]; omega), trivial⟩⟩)
    ·
      refine G_learnG (G := fun z => (x3 ≤ z ∧ p ≤ z ∧ z ≤ n ∧ (x2 = 1 → RUN F n (p) st 1 = RUN F n (z) st 0 ∧ ¬ lt F n (z) = 38) ∧ (x2 = 0 → RUN F n (p) st 1 = z))) (t := 29) (i := 0) (k := 0) (j := 3) (lo := -2147483648) (hi := 2147483647) (J2 := fun y12 => (fun σ' => IF MRp σ σ' ∧ eqn F (σ' 32 0 0) (Int.toNat n) ∧ (x3 ≤ σ' 29 0 0 3 ∧ p ≤ σ' 29 0 0 3 ∧ σ' 29 0 0 3 ≤ n ∧ (x2 = 1 → RUN F n (p) st 1 = RUN F n (σ' 29 0 0 3) st 0 ∧ ¬ lt F n (σ' 29 0 0 3) = 38) ∧ (x2 = 0 → RUN F n (p) st 1 = σ' 29 0 0 3)) ∧ σ' 29 0 0 3 = y12 ∧ True)) vd_29 (fun σ' h => h.1.1) (fun _ h => (by have q := h.1; omega)) (fun σ' h => h.2.2.1) (fun σ' y h hy => ⟨h.1, h.2.1, h.2.2.1, hy, trivial⟩) (fun y12 hy12 hy12' gy12 => ?_)
      refine G_know (J' := (fun σ' => IF MRp σ σ' ∧ eqn F (σ' 32 0 0) (Int.toNat n) ∧ σ' 29 0 0 3 = y12 ∧ True)) (fun σ' h => ⟨h.1, h.2.1, h.2.2.2.1, trivial⟩) ?_
      obtain ⟨gA, gB, gC, gD, gE⟩ := gy12
      have gF := gD (by omega)
      clear gD gE
      refine T_ld zk_52_18 rfl rfl rfl (pc' := 19) rfl ?_
      refine T_op zk_52_19 rfl (X_bi (v := 124) (by decide)) (pc' := 21) rfl ?_
      refine T_calli (K := fun y13 σ' => ((y13 = 0 ∧ (¬ lt F n (y12) = 124)) ∨ (y13 = 1 ∧ ¬ (¬ lt F n (y12) = 124))) ∧ (fun σ' => IF MRp σ σ' ∧ eqn F (σ' 32 0 0) (Int.toNat n) ∧ ((y13 = 1 → σ' 29 0 0 3 = y12 + 1) ∧ (y13 = 0 → σ' 29 0 0 3 = y12)) ∧ True) σ') (r := []) zk_52_21 rfl rfl rfl rfl rfl rfl (Or.inr ⟨_, _, _, _, rfl, vd_29, rfl⟩) (fun σ' h => (s_50 124 n y12 F (by omega) (by omega) (by omega) σ' h.1.1 (h.2.2.1) ((h.1.2 _ _ _ _ (by first | exact nMRp rfl | (unfold MRp; omega))).trans sn) (h.2.1)).le (Nat.le_of_ble_eq_true rfl) (fun v σ2 ⟨y, h1, h2, h3, h4⟩ => ⟨y, h1, h2, h.1.tr h3 (fun _ _ _ _ h => h), gf_mk (fun z => eqn F z (Int.toNat n)) (funext fun j => h3.2 _ _ _ _ (by first | exact nMRp rfl | (unfold MRp; omega))) (h.2.1), h4.1, trivial⟩)) (pc' := 24) rfl (fun y13 => ?_)
      refine G_ex (fun hy13 => ?_)
      refine T_if_eq zk_52_24 (by omega) (pc' := 27) rfl (fun h14 => ?_) (fun h15 => ?_)
      ·
        refine G_learnG (G := fun z => ((y13 = 1 → z = y12 + 1) ∧ (y13 = 0 → z = y12))) (t := 29) (i := 0) (k := 0) (j := 3) (lo := -2147483648) (hi := 2147483647) (J2 := fun y16 => (fun σ' => IF MRp σ σ' ∧ eqn F (σ' 32 0 0) (Int.toNat n) ∧ ((y13 = 1 → σ' 29 0 0 3 = y12 + 1) ∧ (y13 = 0 → σ' 29 0 0 3 = y12)) ∧ σ' 29 0 0 3 = y16 ∧ True)) vd_29 (fun σ' h => h.1.1) (fun _ h => (by have q := h.1; omega)) (fun σ' h => h.2.2.1) (fun σ' y h hy => ⟨h.1, h.2.1, h.2.2.1, hy, trivial⟩) (fun y16 hy16 hy16' gy16 => ?_)
        refine G_know (J' := (fun σ' => IF MRp σ σ' ∧ eqn F (σ' 32 0 0) (Int.toNat n) ∧ σ' 29 0 0 3 = y16 ∧ True)) (fun σ' h => ⟨h.1, h.2.1, h.2.2.2.1, trivial⟩) ?_
        have hv17 : y16 = y12 := by omega
        try clear gy16
        refine G_know (J' := (fun σ' => IF MRp σ σ' ∧ eqn F (σ' 32 0 0) (Int.toNat n) ∧ σ' 29 0 0 3 = y12 ∧ True)) (fun σ' h => ⟨h.1, h.2.1, (h.2.2.1).trans hv17, trivial⟩) ?_
        refine T_ld zk_52_48 rfl rfl rfl (pc' := 49) rfl ?_
        exact T_zret zk_52_49 rfl (by omega) (fun σ' h => ⟨_, rfl, (by omega), h.1, ⟨(by rw [h.2.2.1]; omega), trivial⟩⟩)
      ·
        refine G_learnG (G := fun z => ((y13 = 1 → z = y12 + 1) ∧ (y13 = 0 → z = y12))) (t := 29) (i := 0) (k := 0) (j := 3) (lo := -2147483648) (hi := 2147483647) (J2 := fun y18 => (fun σ' => IF MRp σ σ' ∧ eqn F (σ' 32 0 0) (Int.toNat n) ∧ ((y13 = 1 → σ' 29 0 0 3 = y12 + 1) ∧ (y13 = 0 → σ' 29 0 0 3 = y12)) ∧ σ' 29 0 0 3 = y18 ∧ True)) vd_29 (fun σ' h => h.1.1) (fun _ h => (by have q := h.1; omega)) (fun σ' h => h.2.2.1) (fun σ' y h hy => ⟨h.1, h.2.1, h.2.2.1, hy, trivial⟩) (fun y18 hy18 hy18' gy18 => ?_)
        refine G_know (J' := (fun σ' => IF MRp σ σ' ∧ eqn F (σ' 32 0 0) (Int.toNat n) ∧ σ' 29 0 0 3 = y18 ∧ True)) (fun σ' h => ⟨h.1, h.2.1, h.2.2.2.1, trivial⟩) ?_
        have hv19 : y18 = y12 + 1 := by omega
        try clear gy18
        refine G_know (J' := (fun σ' => IF MRp σ σ' ∧ eqn F (σ' 32 0 0) (Int.toNat n) ∧ σ' 29 0 0 3 = y12 + 1 ∧ True)) (fun σ' h => ⟨h.1, h.2.1, (h.2.2.1).trans hv19, trivial⟩) ?_
        have hin := lt_in (L := F) (n := n) (p := y12) (by omega)
        have hs := R_sign (L := F) (n := n) (p := y12) st (by omega) (by omega) (by omega)
        refine T_ld zk_52_27 rfl rfl rfl (pc' := 28) rfl ?_
        refine T_ld zk_52_28 rfl rfl rfl (pc' := 29) rfl ?_
        refine T_calli (K := fun y20 σ' => (y20 = 0 ∨ y20 = 1) ∧ (fun σ' => IF MRp σ σ' ∧ eqn F (σ' 32 0 0) (Int.toNat n) ∧ (((y12 + 1) ≤ σ' 29 0 0 3 ∧ σ' 29 0 0 3 ≤ n) ∧ (y20 = 1 → RUN F n ((y12 + 1)) st 1 = RUN F n (σ' 29 0 0 3) st 0 ∧ ¬ lt F n (σ' 29 0 0 3) = 38) ∧ (y20 = 0 → RUN F n ((y12 + 1)) st 1 = σ' 29 0 0 3)) ∧ True) σ') (r := []) zk_52_29 rfl rfl rfl rfl rfl rfl (Or.inr ⟨_, _, _, _, rfl, vd_29, rfl⟩) (fun σ' h => (s_53_14 n (y12 + 1) F st (by omega) (by omega) (by omega) hln hcl σ' h.1.1 (h.2.2.1) ((h.1.2 _ _ _ _ (by first | exact nMRp rfl | (unfold MRp; omega))).trans sn) (h.2.1)).le (Nat.le_of_ble_eq_true rfl) (fun v σ2 ⟨y, h1, h2, h3, h4⟩ => ⟨y, h1, h2, h.1.tr h3 (fun _ _ _ _ h => h), gf_mk (fun z => eqn F z (Int.toNat n)) (funext fun j => h3.2 _ _ _ _ (by first | exact nMRp rfl | (unfold MRp; omega))) (h.2.1), h4.1, trivial⟩)) (pc' := 32) rfl (fun y20 => ?_)
        refine G_ex (fun hy20 => ?_)
        refine T_st (L' := [(0, av 29 0 0), (1, iv 14), (2, iv y20), (3, iv x3)]) zk_52_32 (nL := 4) rfl rfl rfl rfl rfl (pc' := 33) rfl ?_
        refine T_ld zk_52_33 rfl rfl rfl (pc' := 34) rfl ?_
        refine T_getR (t' := 30) (i' := 0) (k' := 0) zk_52_34 rfl rfl rfl vd_29 (pc' := 37) rfl ?_
        refine T_op zk_52_37 rfl (X_bi (v := -3) (by decide)) (pc' := 39) rfl ?_
        refine T_callv (J' := (fun σ' => IF MRp σ σ' ∧ eqn F (σ' 32 0 0) (Int.toNat n) ∧ (((y12 + 1) ≤ σ' 29 0 0 3 ∧ σ' 29 0 0 3 ≤ n) ∧ (y20 = 1 → RUN F n ((y12 + 1)) st 1 = RUN F n (σ' 29 0 0 3) st 0 ∧ ¬ lt F n (σ' 29 0 0 3) = 38) ∧ (y20 = 0 → RUN F n ((y12 + 1)) st 1 = σ' 29 0 0 3)) ∧ True)) (r := []) zk_52_39 rfl rfl rfl rfl rfl rfl (Or.inr ⟨_, _, _, _, rfl, vd_30, rfl⟩) (fun σ' h => (s_42 ((-3)) (by omega) σ' h.1.1 ).le (Nat.le_of_ble_eq_true rfl) (fun v σ2 ⟨h1, h3, h4⟩ => ⟨h1, h.1.tr h3 sb79v_2c1b94d, gf_mk (fun z => eqn F z (Int.toNat n)) (funext fun j => h3.2 _ _ _ _ (by first | exact nMRq rfl | (unfold MRq; omega))) (h.2.1), gh_mk (fun z => ((y12 + 1) ≤ z ∧ z ≤ n) ∧ (y20 = 1 → RUN F n ((y12 + 1)) st 1 = RUN F n (z) st 0 ∧ ¬ lt F n (z) = 38) ∧ (y20 = 0 → RUN F n ((y12 + 1)) st 1 = z)) (h3.2 _ _ _ _ (by first | exact nMRq rfl | (unfold MRq; omega))) (h.2.2.1), trivial⟩)) (pc' := 42) rfl ?_
        refine T_iinc (L' := [(0, av 29 0 0), (1, iv 14), (2, iv y20), (3, iv (x3 + 1))]) zk_52_42 (nL := 4) rfl rfl rfl rfl (pc' := 45) rfl ?_
        refine T_goto zk_52_45 ?_
        refine G_know (J' := (fun σ' => IF MRp σ σ' ∧ eqn F (σ' 32 0 0) (Int.toNat n) ∧ ((x3 + 1) ≤ σ' 29 0 0 3 ∧ p ≤ σ' 29 0 0 3 ∧ σ' 29 0 0 3 ≤ n ∧ (y20 = 1 → RUN F n (p) st 1 = RUN F n (σ' 29 0 0 3) st 0 ∧ ¬ lt F n (σ' 29 0 0 3) = 38) ∧ (y20 = 0 → RUN F n (p) st 1 = σ' 29 0 0 3)) ∧ True)) (fun σ' h => ⟨h.1, h.2.1, (by have e := h.2.2.1; omega), trivial⟩) ?_
        exact ih4 y20 (x3 + 1) (by omega) (by omega)
/-- W$LawReader.readPart -/
theorem s_54_13 {xs : Nat × (Nat → Int32)}  (n : Int) (p : Int) (F : Nat → Int) (st : List Bool) (su : List Bool) (hn : 0 ≤ n ∧ n ≤ 96) (hp : 0 ≤ p ∧ p ≤ 200) (hpn : p ≤ n) (hln : (st.length : Int) = 13) (hsu : cls st = su) (σ : ZS) (hI : Inv σ)  (sp : σ 29 0 0 3 = p) (sn : σ 29 0 0 2 = n) (sl : eqn F (σ 32 0 0) (Int.toNat n)) : CT xs 25 54 [av 29 0 0, iv 13] σ (fun v σ' => ∃ y, v = some (iv y) ∧ (y = 0 ∨ y = 1) ∧ IF MRp σ σ' ∧ (((p ≤ σ' 29 0 0 3 ∧ σ' 29 0 0 3 ≤ n) ∧ (y = 1 → RUN F n (p) st 1 = RUN F n (σ' 29 0 0 3) su 0) ∧ (y = 0 → RUN F n (p) st 1 = σ' 29 0 0 3)) ∧ True)) := by
  refine G_ct (J := (fun σ' => IF MRp σ σ' ∧ σ' 29 0 0 3 = p ∧ eqn F (σ' 32 0 0) (Int.toNat n) ∧ True)) (L := [(0, av 29 0 0), (1, iv 13)]) (nL := 3) rfl rfl rfl ⟨IF.rf hI, sp, sl, trivial⟩ ?_
  have hw0 := fun (_ : Unit) => R_want (L := F) (n := n) (p := p) (d := 13) (by omega) (by omega) hln hsu
  refine T_ld zk_54_0 rfl rfl rfl (pc' := 1) rfl ?_
  refine T_calli (K := fun y1 σ' => (y1 = lt F n (p) ∧ -2147483648 ≤ y1 ∧ y1 ≤ 2147483647) ∧ (fun σ' => IF MRp σ σ' ∧ σ' 29 0 0 3 = p ∧ eqn F (σ' 32 0 0) (Int.toNat n) ∧ True) σ') (r := []) zk_54_1 rfl rfl rfl rfl rfl rfl (Or.inr ⟨_, _, _, _, rfl, vd_29, rfl⟩) (fun σ' h => (s_49 n p F (by omega) (by omega) σ' h.1.1 (h.2.1) ((h.1.2 _ _ _ _ (by first | exact nMRp rfl | (unfold MRp; omega))).trans sn) (h.2.2.1)).le (Nat.le_of_ble_eq_true rfl) (fun v σ2 ⟨y, h1, h2, h3, h4⟩ => ⟨y, h1, h2, h.1.tr h3 MN_sub, (h3.2 _ _ _ _ (fun q => q)).trans (h.2.1), gf_mk (fun z => eqn F z (Int.toNat n)) (funext fun j => h3.2 _ _ _ _ (fun q => q)) (h.2.2.1), trivial⟩)) (pc' := 4) rfl (fun y1 => ?_)
  refine G_ex (fun hy1 => ?_)
  obtain rfl : y1 = lt F n (p) := by omega
  refine T_op zk_54_4 rfl (X_bi (v := 33) (by decide)) (pc' := 6) rfl ?_
  refine T_icmp_eq zk_54_6 (by omega) (by omega) (pc' := 9) rfl (fun h2 => ?_) (fun h3 => ?_)
  ·
    have hin := lt_in (L := F) (n := n) (p := p) (by omega)
    refine T_ld zk_54_23 rfl rfl rfl (pc' := 24) rfl ?_
    refine T_op zk_54_24 rfl (X_bi (v := 20) (by decide)) (pc' := 26) rfl ?_
    refine T_icmp_lt zk_54_26 (by omega) (by omega) (pc' := 29) rfl (fun h4 => ?_) (fun h5 => ?_)
    ·
      refine T_ld zk_54_31 rfl rfl rfl (pc' := 32) rfl ?_
      refine T_op zk_54_32 rfl (X_bi (v := 40) (by decide)) (pc' := 34) rfl ?_
      refine T_calli (K := fun y6 σ' => ((y6 = 0 ∧ (¬ lt F n (p) = 40)) ∨ (y6 = 1 ∧ ¬ (¬ lt F n (p) = 40))) ∧ (fun σ' => IF MRp σ σ' ∧ eqn F (σ' 32 0 0) (Int.toNat n) ∧ ((y6 = 1 → σ' 29 0 0 3 = p + 1) ∧ (y6 = 0 → σ' 29 0 0 3 = p)) ∧ True) σ') (r := []) zk_54_34 rfl rfl rfl rfl rfl rfl (Or.inr ⟨_, _, _, _, rfl, vd_29, rfl⟩) (fun σ' h => (s_50 40 n p F (by omega) (by omega) (by omega) σ' h.1.1 (h.2.1) ((h.1.2 _ _ _ _ (by first | exact nMRp rfl | (unfold MRp; omega))).trans sn) (h.2.2.1)).le (Nat.le_of_ble_eq_true rfl) (fun v σ2 ⟨y, h1, h2, h3, h4⟩ => ⟨y, h1, h2, h.1.tr h3 (fun _ _ _ _ h => h), gf_mk (fun z => eqn F z (Int.toNat n)) (funext fun j => h3.2 _ _ _ _ (by first | exact nMRp rfl | (unfold MRp; omega))) (h.2.2.1), h4.1, trivial⟩)) (pc' := 37) rfl (fun y6 => ?_)
      refine G_ex (fun hy6 => ?_)
      refine T_if_eq zk_54_37 (by omega) (pc' := 40) rfl (fun h7 => ?_) (fun h8 => ?_)
      ·
        refine G_learnG (G := fun z => ((y6 = 1 → z = p + 1) ∧ (y6 = 0 → z = p))) (t := 29) (i := 0) (k := 0) (j := 3) (lo := -2147483648) (hi := 2147483647) (J2 := fun y9 => (fun σ' => IF MRp σ σ' ∧ eqn F (σ' 32 0 0) (Int.toNat n) ∧ ((y6 = 1 → σ' 29 0 0 3 = p + 1) ∧ (y6 = 0 → σ' 29 0 0 3 = p)) ∧ σ' 29 0 0 3 = y9 ∧ True)) vd_29 (fun σ' h => h.1.1) (fun _ h => (by have q := h.1; omega)) (fun σ' h => h.2.2.1) (fun σ' y h hy => ⟨h.1, h.2.1, h.2.2.1, hy, trivial⟩) (fun y9 hy9 hy9' gy9 => ?_)
        refine G_know (J' := (fun σ' => IF MRp σ σ' ∧ eqn F (σ' 32 0 0) (Int.toNat n) ∧ σ' 29 0 0 3 = y9 ∧ True)) (fun σ' h => ⟨h.1, h.2.1, h.2.2.2.1, trivial⟩) ?_
        have hv10 : y9 = p := by omega
        try clear gy9
        refine G_know (J' := (fun σ' => IF MRp σ σ' ∧ eqn F (σ' 32 0 0) (Int.toNat n) ∧ σ' 29 0 0 3 = p ∧ True)) (fun σ' h => ⟨h.1, h.2.1, (h.2.2.1).trans hv10, trivial⟩) ?_
        have hw5 := (hw0 ()).1 ⟨by omega, by omega⟩
        refine T_ld zk_54_65 rfl rfl rfl (pc' := 66) rfl ?_
        refine T_op (st' := [av 29 0 0, av 29 0 0]) zk_54_66 rfl rfl (pc' := 67) rfl ?_
        refine G_getX (w := p) zk_54_67 rfl vd_29 (fun σ' h => h.2.2.1) (pc' := 70) rfl ?_
        refine T_op zk_54_70 rfl X_ic (pc' := 71) rfl ?_
        refine T_op zk_54_71 rfl X_add (pc' := 72) rfl ?_
        refine T_putf (J' := (fun σ' => IF MRp σ σ' ∧ eqn F (σ' 32 0 0) (Int.toNat n) ∧ σ' 29 0 0 3 = p + 1 ∧ True)) zk_54_72 rfl rfl vd_29 (fun σ' h => ⟨h.1.up (by simp only [rgP] <;> omega) (by first | exact pMRp rfl | (unfold MRp; omega)), gf_mk (fun z => eqn F z (Int.toNat n)) (up_row (by omega)) (h.2.1), up_eq, trivial⟩) (pc' := 75) rfl ?_
        refine T_ld zk_54_75 rfl rfl rfl (pc' := 76) rfl ?_
        refine T_ld zk_54_76 rfl rfl rfl (pc' := 77) rfl ?_
        refine T_op zk_54_77 rfl X_ic (pc' := 78) rfl ?_
        refine T_opc (w := 14) zk_54_78 rfl X_add (by omega) (pc' := 79) rfl ?_
        refine T_calli (K := fun y11 σ' => (y11 = 0 ∨ y11 = 1) ∧ (fun σ' => IF MRp σ σ' ∧ eqn F (σ' 32 0 0) (Int.toNat n) ∧ (((p + 1) ≤ σ' 29 0 0 3 ∧ σ' 29 0 0 3 ≤ n) ∧ (y11 = 1 → RUN F n ((p + 1)) (false :: st) 1 = RUN F n (σ' 29 0 0 3) su 0) ∧ (y11 = 0 → RUN F n ((p + 1)) (false :: st) 1 = σ' 29 0 0 3)) ∧ True) σ') (r := []) zk_54_79 rfl rfl rfl rfl rfl rfl (Or.inr ⟨_, _, _, _, rfl, vd_29, rfl⟩) (fun σ' h => (s_54_14 n (p + 1) F ((false :: st)) su (by omega) (by omega) (by omega) (by rw [List.length_cons]; omega) (by rw [cls_f]; exact hsu) σ' h.1.1 (h.2.2.1) ((h.1.2 _ _ _ _ (by first | exact nMRp rfl | (unfold MRp; omega))).trans sn) (h.2.1)).le (Nat.le_of_ble_eq_true rfl) (fun v σ2 ⟨y, h1, h2, h3, h4⟩ => ⟨y, h1, h2, h.1.tr h3 (fun _ _ _ _ h => h), gf_mk (fun z => eqn F z (Int.toNat n)) (funext fun j => h3.2 _ _ _ _ (by first | exact nMRp rfl | (unfold MRp; omega))) (h.2.1), h4.1, trivial⟩)) (pc' := 82) rfl (fun y11 => ?_)
        refine G_ex (fun hy11 => ?_)
        refine T_st (L' := [(0, av 29 0 0), (1, iv 13), (2, iv y11)]) zk_54_82 (nL := 3) rfl rfl rfl rfl rfl (pc' := 83) rfl ?_
        refine T_ld zk_54_83 rfl rfl rfl (pc' := 84) rfl ?_
        refine T_getR (t' := 30) (i' := 0) (k' := 0) zk_54_84 rfl rfl rfl vd_29 (pc' := 87) rfl ?_
        refine T_op zk_54_87 rfl X_ic (pc' := 88) rfl ?_
        refine T_callv (J' := (fun σ' => IF MRp σ σ' ∧ eqn F (σ' 32 0 0) (Int.toNat n) ∧ (((p + 1) ≤ σ' 29 0 0 3 ∧ σ' 29 0 0 3 ≤ n) ∧ (y11 = 1 → RUN F n ((p + 1)) (false :: st) 1 = RUN F n (σ' 29 0 0 3) su 0) ∧ (y11 = 0 → RUN F n ((p + 1)) (false :: st) 1 = σ' 29 0 0 3)) ∧ True)) (r := []) zk_54_88 rfl rfl rfl rfl rfl rfl (Or.inr ⟨_, _, _, _, rfl, vd_30, rfl⟩) (fun σ' h => (s_42 ((-1)) (by omega) σ' h.1.1 ).le (Nat.le_of_ble_eq_true rfl) (fun v σ2 ⟨h1, h3, h4⟩ => ⟨h1, h.1.tr h3 sb79v_2c1b94d, gf_mk (fun z => eqn F z (Int.toNat n)) (funext fun j => h3.2 _ _ _ _ (by first | exact nMRq rfl | (unfold MRq; omega))) (h.2.1), gh_mk (fun z => ((p + 1) ≤ z ∧ z ≤ n) ∧ (y11 = 1 → RUN F n ((p + 1)) (false :: st) 1 = RUN F n (z) su 0) ∧ (y11 = 0 → RUN F n ((p + 1)) (false :: st) 1 = z)) (h3.2 _ _ _ _ (by first | exact nMRq rfl | (unfold MRq; omega))) (h.2.2.1), trivial⟩)) (pc' := 91) rfl ?_
        refine T_ld zk_54_91 rfl rfl rfl (pc' := 92) rfl ?_
        exact T_zret zk_54_92 rfl (by omega) (fun σ' h => ⟨_, rfl, (by omega), h.1, ⟨(by have e := h.2.2.1; omega), trivial⟩⟩)
      ·
        exfalso; omega
    · exfalso; omega
  ·
    refine T_ld zk_54_9 rfl rfl rfl (pc' := 10) rfl ?_
    refine T_calli (K := fun y13 σ' => (y13 = lt F n (p) ∧ -2147483648 ≤ y13 ∧ y13 ≤ 2147483647) ∧ (fun σ' => IF MRp σ σ' ∧ σ' 29 0 0 3 = p ∧ eqn F (σ' 32 0 0) (Int.toNat n) ∧ True) σ') (r := []) zk_54_10 rfl rfl rfl rfl rfl rfl (Or.inr ⟨_, _, _, _, rfl, vd_29, rfl⟩) (fun σ' h => (s_49 n p F (by omega) (by omega) σ' h.1.1 (h.2.1) ((h.1.2 _ _ _ _ (by first | exact nMRp rfl | (unfold MRp; omega))).trans sn) (h.2.2.1)).le (Nat.le_of_ble_eq_true rfl) (fun v σ2 ⟨y, h1, h2, h3, h4⟩ => ⟨y, h1, h2, h.1.tr h3 MN_sub, (h3.2 _ _ _ _ (fun q => q)).trans (h.2.1), gf_mk (fun z => eqn F z (Int.toNat n)) (funext fun j => h3.2 _ _ _ _ (fun q => q)) (h.2.2.1), trivial⟩)) (pc' := 13) rfl (fun y13 => ?_)
    refine G_ex (fun hy13 => ?_)
    obtain rfl : y13 = lt F n (p) := by omega
    refine T_op zk_54_13 rfl (X_bi (v := 40) (by decide)) (pc' := 15) rfl ?_
    refine T_icmp_eq zk_54_15 (by omega) (by omega) (pc' := 18) rfl (fun h14 => ?_) (fun h15 => ?_)
    ·
      have hin := lt_in (L := F) (n := n) (p := p) (by omega)
      refine T_ld zk_54_23 rfl rfl rfl (pc' := 24) rfl ?_
      refine T_op zk_54_24 rfl (X_bi (v := 20) (by decide)) (pc' := 26) rfl ?_
      refine T_icmp_lt zk_54_26 (by omega) (by omega) (pc' := 29) rfl (fun h16 => ?_) (fun h17 => ?_)
      ·
        refine T_ld zk_54_31 rfl rfl rfl (pc' := 32) rfl ?_
        refine T_op zk_54_32 rfl (X_bi (v := 40) (by decide)) (pc' := 34) rfl ?_
        refine T_calli (K := fun y18 σ' => ((y18 = 0 ∧ (¬ lt F n (p) = 40)) ∨ (y18 = 1 ∧ ¬ (¬ lt F n (p) = 40))) ∧ (fun σ' => IF MRp σ σ' ∧ eqn F (σ' 32 0 0) (Int.toNat n) ∧ ((y18 = 1 → σ' 29 0 0 3 = p + 1) ∧ (y18 = 0 → σ' 29 0 0 3 = p)) ∧ True) σ') (r := []) zk_54_34 rfl rfl rfl rfl rfl rfl (Or.inr ⟨_, _, _, _, rfl, vd_29, rfl⟩) (fun σ' h => (s_50 40 n p F (by omega) (by omega) (by omega) σ' h.1.1 (h.2.1) ((h.1.2 _ _ _ _ (by first | exact nMRp rfl | (unfold MRp; omega))).trans sn) (h.2.2.1)).le (Nat.le_of_ble_eq_true rfl) (fun v σ2 ⟨y, h1, h2, h3, h4⟩ => ⟨y, h1, h2, h.1.tr h3 (fun _ _ _ _ h => h), gf_mk (fun z => eqn F z (Int.toNat n)) (funext fun j => h3.2 _ _ _ _ (by first | exact nMRp rfl | (unfold MRp; omega))) (h.2.2.1), h4.1, trivial⟩)) (pc' := 37) rfl (fun y18 => ?_)
        refine G_ex (fun hy18 => ?_)
        refine T_if_eq zk_54_37 (by omega) (pc' := 40) rfl (fun h19 => ?_) (fun h20 => ?_)
        ·
          exfalso; omega
        ·
          refine G_learnG (G := fun z => ((y18 = 1 → z = p + 1) ∧ (y18 = 0 → z = p))) (t := 29) (i := 0) (k := 0) (j := 3) (lo := -2147483648) (hi := 2147483647) (J2 := fun y21 => (fun σ' => IF MRp σ σ' ∧ eqn F (σ' 32 0 0) (Int.toNat n) ∧ ((y18 = 1 → σ' 29 0 0 3 = p + 1) ∧ (y18 = 0 → σ' 29 0 0 3 = p)) ∧ σ' 29 0 0 3 = y21 ∧ True)) vd_29 (fun σ' h => h.1.1) (fun _ h => (by have q := h.1; omega)) (fun σ' h => h.2.2.1) (fun σ' y h hy => ⟨h.1, h.2.1, h.2.2.1, hy, trivial⟩) (fun y21 hy21 hy21' gy21 => ?_)
          refine G_know (J' := (fun σ' => IF MRp σ σ' ∧ eqn F (σ' 32 0 0) (Int.toNat n) ∧ σ' 29 0 0 3 = y21 ∧ True)) (fun σ' h => ⟨h.1, h.2.1, h.2.2.2.1, trivial⟩) ?_
          have hv22 : y21 = p + 1 := by omega
          try clear gy21
          refine G_know (J' := (fun σ' => IF MRp σ σ' ∧ eqn F (σ' 32 0 0) (Int.toNat n) ∧ σ' 29 0 0 3 = p + 1 ∧ True)) (fun σ' h => ⟨h.1, h.2.1, (h.2.2.1).trans hv22, trivial⟩) ?_
          have hw4 := (hw0 ()).2.1 ⟨by omega, by omega⟩
          refine T_ld zk_54_40 rfl rfl rfl (pc' := 41) rfl ?_
          refine T_ld zk_54_41 rfl rfl rfl (pc' := 42) rfl ?_
          refine T_op zk_54_42 rfl X_ic (pc' := 43) rfl ?_
          refine T_opc (w := 14) zk_54_43 rfl X_add (by omega) (pc' := 44) rfl ?_
          refine T_calli (K := fun y23 σ' => (y23 = 0 ∨ y23 = 1) ∧ (fun σ' => IF MRp σ σ' ∧ eqn F (σ' 32 0 0) (Int.toNat n) ∧ (((p + 1) ≤ σ' 29 0 0 3 ∧ σ' 29 0 0 3 ≤ n) ∧ (y23 = 1 → RUN F n ((p + 1)) (true :: st) 1 = RUN F n (σ' 29 0 0 3) (true :: st) 0 ∧ ¬ lt F n (σ' 29 0 0 3) = 38 ∧ ¬ lt F n (σ' 29 0 0 3) = 124) ∧ (y23 = 0 → RUN F n ((p + 1)) (true :: st) 1 = σ' 29 0 0 3)) ∧ True) σ') (r := []) zk_54_44 rfl rfl rfl rfl rfl rfl (Or.inr ⟨_, _, _, _, rfl, vd_29, rfl⟩) (fun σ' h => (s_52_14 n (p + 1) F ((true :: st)) (by omega) (by omega) (by omega) (by rw [List.length_cons]; omega) (cls_t st) σ' h.1.1 (h.2.2.1) ((h.1.2 _ _ _ _ (by first | exact nMRp rfl | (unfold MRp; omega))).trans sn) (h.2.1)).le (Nat.le_of_ble_eq_true rfl) (fun v σ2 ⟨y, h1, h2, h3, h4⟩ => ⟨y, h1, h2, h.1.tr h3 (fun _ _ _ _ h => h), gf_mk (fun z => eqn F z (Int.toNat n)) (funext fun j => h3.2 _ _ _ _ (by first | exact nMRp rfl | (unfold MRp; omega))) (h.2.1), h4.1, trivial⟩)) (pc' := 47) rfl (fun y23 => ?_)
          refine G_ex (fun hy23 => ?_)
          refine T_if_eq zk_54_47 (by omega) (pc' := 50) rfl (fun h24 => ?_) (fun h25 => ?_)
          ·
            refine T_op zk_54_63 rfl X_ic (pc' := 64) rfl ?_
            exact T_zret zk_54_64 rfl (by omega) (fun σ' h => ⟨_, rfl, (by omega), h.1, ⟨(by have e := h.2.2.1; omega), trivial⟩⟩)
          ·
            refine G_learnG (G := fun z => (((p + 1) ≤ z ∧ z ≤ n) ∧ (y23 = 1 → RUN F n ((p + 1)) (true :: st) 1 = RUN F n (z) (true :: st) 0 ∧ ¬ lt F n (z) = 38 ∧ ¬ lt F n (z) = 124) ∧ (y23 = 0 → RUN F n ((p + 1)) (true :: st) 1 = z))) (t := 29) (i := 0) (k := 0) (j := 3) (lo := -2147483648) (hi := 2147483647) (J2 := fun y26 => (fun σ' => IF MRp σ σ' ∧ eqn F (σ' 32 0 0) (Int.toNat n) ∧ (((p + 1) ≤ σ' 29 0 0 3 ∧ σ' 29 0 0 3 ≤ n) ∧ (y23 = 1 → RUN F n ((p + 1)) (true :: st) 1 = RUN F n (σ' 29 0 0 3) (true :: st) 0 ∧ ¬ lt F n (σ' 29 0 0 3) = 38 ∧ ¬ lt F n (σ' 29 0 0 3) = 124) ∧ (y23 = 0 → RUN F n ((p + 1)) (true :: st) 1 = σ' 29 0 0 3)) ∧ σ' 29 0 0 3 = y26 ∧ True)) vd_29 (fun σ' h => h.1.1) (fun _ h => (by have q := h.1; omega)) (fun σ' h => h.2.2.1) (fun σ' y h hy => ⟨h.1, h.2.1, h.2.2.1, hy, trivial⟩) (fun y26 hy26 hy26' gy26 => ?_)
            refine G_know (J' := (fun σ' => IF MRp σ σ' ∧ eqn F (σ' 32 0 0) (Int.toNat n) ∧ σ' 29 0 0 3 = y26 ∧ True)) (fun σ' h => ⟨h.1, h.2.1, h.2.2.2.1, trivial⟩) ?_
            obtain ⟨gA, gB, gD⟩ := gy26
            have gC := gB (by omega)
            clear gB gD
            refine T_ld zk_54_50 rfl rfl rfl (pc' := 51) rfl ?_
            refine T_op zk_54_51 rfl (X_bi (v := 41) (by decide)) (pc' := 53) rfl ?_
            refine T_calli (K := fun y27 σ' => ((y27 = 0 ∧ (¬ lt F n (y26) = 41)) ∨ (y27 = 1 ∧ ¬ (¬ lt F n (y26) = 41))) ∧ (fun σ' => IF MRp σ σ' ∧ eqn F (σ' 32 0 0) (Int.toNat n) ∧ ((y27 = 1 → σ' 29 0 0 3 = y26 + 1) ∧ (y27 = 0 → σ' 29 0 0 3 = y26)) ∧ True) σ') (r := []) zk_54_53 rfl rfl rfl rfl rfl rfl (Or.inr ⟨_, _, _, _, rfl, vd_29, rfl⟩) (fun σ' h => (s_50 41 n y26 F (by omega) (by omega) (by omega) σ' h.1.1 (h.2.2.1) ((h.1.2 _ _ _ _ (by first | exact nMRp rfl | (unfold MRp; omega))).trans sn) (h.2.1)).le (Nat.le_of_ble_eq_true rfl) (fun v σ2 ⟨y, h1, h2, h3, h4⟩ => ⟨y, h1, h2, h.1.tr h3 (fun _ _ _ _ h => h), gf_mk (fun z => eqn F z (Int.toNat n)) (funext fun j => h3.2 _ _ _ _ (by first | exact nMRp rfl | (unfold MRp; omega))) (h.2.1), h4.1, trivial⟩)) (pc' := 56) rfl (fun y27 => ?_)
            refine G_ex (fun hy27 => ?_)
            refine T_if_eq zk_54_56 (by omega) (pc' := 59) rfl (fun h28 => ?_) (fun h29 => ?_)
            ·
              refine G_learnG (G := fun z => ((y27 = 1 → z = y26 + 1) ∧ (y27 = 0 → z = y26))) (t := 29) (i := 0) (k := 0) (j := 3) (lo := -2147483648) (hi := 2147483647) (J2 := fun y30 => (fun σ' => IF MRp σ σ' ∧ eqn F (σ' 32 0 0) (Int.toNat n) ∧ ((y27 = 1 → σ' 29 0 0 3 = y26 + 1) ∧ (y27 = 0 → σ' 29 0 0 3 = y26)) ∧ σ' 29 0 0 3 = y30 ∧ True)) vd_29 (fun σ' h => h.1.1) (fun _ h => (by have q := h.1; omega)) (fun σ' h => h.2.2.1) (fun σ' y h hy => ⟨h.1, h.2.1, h.2.2.1, hy, trivial⟩) (fun y30 hy30 hy30' gy30 => ?_)
              refine G_know (J' := (fun σ' => IF MRp σ σ' ∧ eqn F (σ' 32 0 0) (Int.toNat n) ∧ σ' 29 0 0 3 = y30 ∧ True)) (fun σ' h => ⟨h.1, h.2.1, h.2.2.2.1, trivial⟩) ?_
              have hv31 : y30 = y26 := by omega
              try clear gy30
              refine G_know (J' := (fun σ' => IF MRp σ σ' ∧ eqn F (σ' 32 0 0) (Int.toNat n) ∧ σ' 29 0 0 3 = y26 ∧ True)) (fun σ' h => ⟨h.1, h.2.1, (h.2.2.1).trans hv31, trivial⟩) ?_
              have hsh := (R_shut (L := F) (n := n) (p := y26) st (by omega) (by omega)).2 (by omega)
              refine T_op zk_54_63 rfl X_ic (pc' := 64) rfl ?_
              exact T_zret zk_54_64 rfl (by omega) (fun σ' h => ⟨_, rfl, (by omega), h.1, ⟨(by rw [h.2.2.1]; omega), trivial⟩⟩)
            ·
              refine G_learnG (G := fun z => ((y27 = 1 → z = y26 + 1) ∧ (y27 = 0 → z = y26))) (t := 29) (i := 0) (k := 0) (j := 3) (lo := -2147483648) (hi := 2147483647) (J2 := fun y32 => (fun σ' => IF MRp σ σ' ∧ eqn F (σ' 32 0 0) (Int.toNat n) ∧ ((y27 = 1 → σ' 29 0 0 3 = y26 + 1) ∧ (y27 = 0 → σ' 29 0 0 3 = y26)) ∧ σ' 29 0 0 3 = y32 ∧ True)) vd_29 (fun σ' h => h.1.1) (fun _ h => (by have q := h.1; omega)) (fun σ' h => h.2.2.1) (fun σ' y h hy => ⟨h.1, h.2.1, h.2.2.1, hy, trivial⟩) (fun y32 hy32 hy32' gy32 => ?_)
              refine G_know (J' := (fun σ' => IF MRp σ σ' ∧ eqn F (σ' 32 0 0) (Int.toNat n) ∧ σ' 29 0 0 3 = y32 ∧ True)) (fun σ' h => ⟨h.1, h.2.1, h.2.2.2.1, trivial⟩) ?_
              have hv33 : y32 = y26 + 1 := by omega
              try clear gy32
              refine G_know (J' := (fun σ' => IF MRp σ σ' ∧ eqn F (σ' 32 0 0) (Int.toNat n) ∧ σ' 29 0 0 3 = y26 + 1 ∧ True)) (fun σ' h => ⟨h.1, h.2.1, (h.2.2.1).trans hv33, trivial⟩) ?_
              have hin2 := lt_in (L := F) (n := n) (p := y26) (by omega)
              have hsh := (R_shut (L := F) (n := n) (p := y26) st (by omega) (by omega)).1 (by omega)
              rw [hsu] at hsh
              refine T_op zk_54_59 rfl X_ic (pc' := 60) rfl ?_
              refine T_goto zk_54_60 ?_
              exact T_zret zk_54_64 rfl (by omega) (fun σ' h => ⟨_, rfl, (by omega), h.1, ⟨(by rw [h.2.2.1]; omega), trivial⟩⟩)
      · exfalso; omega
    ·
      obtain ⟨ht1, ht2, _⟩ := te_in (L := F) (n := n) (p := p) (by omega) (by omega)
      have hw1 : tk F n p = 1 → RUN F n p st 1 = RUN F n (te F n p) su 0 := fun q => (hw0 ()).2.2.2.1 ⟨by omega, by omega, q⟩
      have hw2 : ¬ tk F n p = 1 → RUN F n p st 1 = te F n p := fun q => (hw0 ()).2.2.2.2 ⟨by omega, by omega, q⟩
      refine T_ld zk_54_18 rfl rfl rfl (pc' := 19) rfl ?_
      refine T_calli (K := fun y34 σ' => ((y34 = 1 ∧ tk F n (p) = 1) ∨ (y34 = 0 ∧ tk F n (p) = 0)) ∧ (fun σ' => IF MRp σ σ' ∧ eqn F (σ' 32 0 0) (Int.toNat n) ∧ σ' 29 0 0 3 = te F n (p) ∧ True) σ') (r := []) zk_54_19 rfl rfl rfl rfl rfl rfl (Or.inr ⟨_, _, _, _, rfl, vd_29, rfl⟩) (fun σ' h => (s_55 n p F (by omega) (by omega) σ' h.1.1 (h.2.1) ((h.1.2 _ _ _ _ (by first | exact nMRp rfl | (unfold MRp; omega))).trans sn) (h.2.2.1)).le (Nat.le_of_ble_eq_true rfl) (fun v σ2 ⟨y, h1, h2, h3, h4⟩ => ⟨y, h1, h2, h.1.tr h3 (fun _ _ _ _ h => h), gf_mk (fun z => eqn F z (Int.toNat n)) (funext fun j => h3.2 _ _ _ _ (by first | exact nMRp rfl | (unfold MRp; omega))) (h.2.2.1), h4.1, trivial⟩)) (pc' := 22) rfl (fun y34 => ?_)
      refine G_ex (fun hy34 => ?_)
      exact T_zret zk_54_22 rfl (by omega) (fun σ' h => ⟨_, rfl, (by omega), h.1, ⟨(by rw [h.2.2.1]; omega), trivial⟩⟩)
/-- W$LawReader.readBoth -/
theorem s_53_13 {xs : Nat × (Nat → Int32)}  (n : Int) (p : Int) (F : Nat → Int) (st : List Bool) (hn : 0 ≤ n ∧ n ≤ 96) (hp : 0 ≤ p ∧ p ≤ 200) (hpn : p ≤ n) (hln : (st.length : Int) = 13) (hcl : cls st = st) (σ : ZS) (hI : Inv σ)  (sp : σ 29 0 0 3 = p) (sn : σ 29 0 0 2 = n) (sl : eqn F (σ 32 0 0) (Int.toNat n)) : CT xs 26 53 [av 29 0 0, iv 13] σ (fun v σ' => ∃ y, v = some (iv y) ∧ (y = 0 ∨ y = 1) ∧ IF MRp σ σ' ∧ (((p ≤ σ' 29 0 0 3 ∧ σ' 29 0 0 3 ≤ n) ∧ (y = 1 → RUN F n (p) st 1 = RUN F n (σ' 29 0 0 3) st 0 ∧ ¬ lt F n (σ' 29 0 0 3) = 38) ∧ (y = 0 → RUN F n (p) st 1 = σ' 29 0 0 3)) ∧ True)) := by
  refine G_ct (J := (fun σ' => IF MRp σ σ' ∧ σ' 29 0 0 3 = p ∧ eqn F (σ' 32 0 0) (Int.toNat n) ∧ True)) (L := [(0, av 29 0 0), (1, iv 13)]) (nL := 4) rfl rfl rfl ⟨IF.rf hI, sp, sl, trivial⟩ ?_
  refine T_ld zk_53_0 rfl rfl rfl (pc' := 1) rfl ?_
  refine T_ld zk_53_1 rfl rfl rfl (pc' := 2) rfl ?_
  refine T_calli (K := fun y1 σ' => (y1 = 0 ∨ y1 = 1) ∧ (fun σ' => IF MRp σ σ' ∧ eqn F (σ' 32 0 0) (Int.toNat n) ∧ ((p ≤ σ' 29 0 0 3 ∧ σ' 29 0 0 3 ≤ n) ∧ (y1 = 1 → RUN F n (p) st 1 = RUN F n (σ' 29 0 0 3) st 0) ∧ (y1 = 0 → RUN F n (p) st 1 = σ' 29 0 0 3)) ∧ True) σ') (r := []) zk_53_2 rfl rfl rfl rfl rfl rfl (Or.inr ⟨_, _, _, _, rfl, vd_29, rfl⟩) (fun σ' h => (s_54_13 n p F st st (by omega) (by omega) (by omega) hln hcl σ' h.1.1 (h.2.1) ((h.1.2 _ _ _ _ (by first | exact nMRp rfl | (unfold MRp; omega))).trans sn) (h.2.2.1)).le (Nat.le_of_ble_eq_true rfl) (fun v σ2 ⟨y, h1, h2, h3, h4⟩ => ⟨y, h1, h2, h.1.tr h3 (fun _ _ _ _ h => h), gf_mk (fun z => eqn F z (Int.toNat n)) (funext fun j => h3.2 _ _ _ _ (by first | exact nMRp rfl | (unfold MRp; omega))) (h.2.2.1), h4.1, trivial⟩)) (pc' := 5) rfl (fun y1 => ?_)
  refine G_ex (fun hy1 => ?_)
  refine T_st (L' := [(0, av 29 0 0), (1, iv 13), (2, iv y1)]) zk_53_5 (nL := 4) rfl rfl rfl rfl rfl (pc' := 6) rfl ?_
  refine T_op zk_53_6 rfl X_ic (pc' := 7) rfl ?_
  refine T_st (L' := [(0, av 29 0 0), (1, iv 13), (2, iv y1), (3, iv 0)]) zk_53_7 (nL := 4) rfl rfl rfl rfl rfl (pc' := 8) rfl ?_
  refine G_know (J' := (fun σ' => IF MRp σ σ' ∧ eqn F (σ' 32 0 0) (Int.toNat n) ∧ (0 ≤ σ' 29 0 0 3 ∧ p ≤ σ' 29 0 0 3 ∧ σ' 29 0 0 3 ≤ n ∧ (y1 = 1 → RUN F n (p) st 1 = RUN F n (σ' 29 0 0 3) st 0) ∧ (y1 = 0 → RUN F n (p) st 1 = σ' 29 0 0 3)) ∧ True)) (fun σ' h => ⟨h.1, h.2.1, (by have e := h.2.2.1; omega), trivial⟩) ?_
  refine T_loop2 (fun x2 x3 => ((96 - x3 : Int)).toNat) (fun x2 x3 => (0 ≤ x2 ∧ x2 ≤ 1) ∧ (0 ≤ x3 ∧ x3 ≤ 96)) (fun x2 x3 => TJ xs (fun σ' => IF MRp σ σ' ∧ eqn F (σ' 32 0 0) (Int.toNat n) ∧ (x3 ≤ σ' 29 0 0 3 ∧ p ≤ σ' 29 0 0 3 ∧ σ' 29 0 0 3 ≤ n ∧ (x2 = 1 → RUN F n (p) st 1 = RUN F n (σ' 29 0 0 3) st 0) ∧ (x2 = 0 → RUN F n (p) st 1 = σ' 29 0 0 3)) ∧ True) 25 53 8 [(0, av 29 0 0), (1, iv 13), (2, iv x2), (3, iv x3)] [] _) ?_ y1 0 (by omega)
  intro x2 x3 hp5 ih4
  refine T_ld zk_53_8 rfl rfl rfl (pc' := 9) rfl ?_
  refine T_op zk_53_9 rfl (X_bi (v := 96) (by decide)) (pc' := 11) rfl ?_
  refine T_icmp_ge zk_53_11 (by omega) (by omega) (pc' := 14) rfl (fun h6 => ?_) (fun h7 => ?_)
  ·
    refine G_learnG (G := fun z => (x3 ≤ z ∧ p ≤ z ∧ z ≤ n ∧ (x2 = 1 → RUN F n (p) st 1 = RUN F n (z) st 0) ∧ (x2 = 0 → RUN F n (p) st 1 = z))) (t := 29) (i := 0) (k := 0) (j := 3) (lo := -2147483648) (hi := 2147483647) (J2 := fun y8 => (fun σ' => IF MRp σ σ' ∧ eqn F (σ' 32 0 0) (Int.toNat n) ∧ (x3 ≤ σ' 29 0 0 3 ∧ p ≤ σ' 29 0 0 3 ∧ σ' 29 0 0 3 ≤ n ∧ (x2 = 1 → RUN F n (p) st 1 = RUN F n (σ' 29 0 0 3) st 0) ∧ (x2 = 0 → RUN F n (p) st 1 = σ' 29 0 0 3)) ∧ σ' 29 0 0 3 = y8 ∧ True)) vd_29 (fun σ' h => h.1.1) (fun _ h => (by have q := h.1; omega)) (fun σ' h => h.2.2.1) (fun σ' y h hy => ⟨h.1, h.2.1, h.2.2.1, hy, trivial⟩) (fun y8 hy8 hy8' gy8 => ?_)
    refine G_know (J' := (fun σ' => IF MRp σ σ' ∧ eqn F (σ' 32 0 0) (Int.toNat n) ∧ σ' 29 0 0 3 = y8 ∧ True)) (fun σ' h => ⟨h.1, h.2.1, h.2.2.2.1, trivial⟩) ?_
    have hly8 := lt_spec F n y8
    refine T_ld zk_53_48 rfl rfl rfl (pc' := 49) rfl ?_
    exact T_zret zk_53_49 rfl (by omega) (fun σ' h => ⟨_, rfl, (by omega), h.1, ⟨(by rw [h.2.2.1]; omega), trivial⟩⟩)
  ·
    refine T_ld zk_53_14 rfl rfl rfl (pc' := 15) rfl ?_
    refine T_if_eq zk_53_15 (by omega) (pc' := 18) rfl (fun h9 => ?_) (fun h10 => ?_)
    ·
      refine G_learnG (G := fun z => (x3 ≤ z ∧ p ≤ z ∧ z ≤ n ∧ (x2 = 1 → RUN F n (p) st 1 = RUN F n (z) st 0) ∧ (x2 = 0 → RUN F n (p) st 1 = z))) (t := 29) (i := 0) (k := 0) (j := 3) (lo := -2147483648) (hi := 2147483647) (J2 := fun y11 => (fun σ' => IF MRp σ σ' ∧ eqn F (σ' 32 0 0) (Int.toNat n) ∧ (x3 ≤ σ' 29 0 0 3 ∧ p ≤ σ' 29 0 0 3 ∧ σ' 29 0 0 3 ≤ n ∧ (x2 = 1 → RUN F n (p) st 1 = RUN F n (σ' 29 0 0 3) st 0) ∧ (x2 = 0 → RUN F n (p) st 1 = σ' 29 0 0 3)) ∧ σ' 29 0 0 3 = y11 ∧ True)) vd_29 (fun σ' h => h.1.1) (fun _ h => (by have q := h.1; omega)) (fun σ' h => h.2.2.1) (fun σ' y h hy => ⟨h.1, h.2.1, h.2.2.1, hy, trivial⟩) (fun y11 hy11 hy11' gy11 => ?_)
      refine G_know (J' := (fun σ' => IF MRp σ σ' ∧ eqn F (σ' 32 0 0) (Int.toNat n) ∧ σ' 29 0 0 3 = y11 ∧ True)) (fun σ' h => ⟨h.1, h.2.1, h.2.2.2.1, trivial⟩) ?_
      have hly11 := lt_spec F n y11
      refine T_ld zk_53_48 rfl rfl rfl (pc' := 49) rfl ?_
      exact T_zret zk_53_49 rfl (by omega) (fun σ' h => ⟨_, rfl, (by omega), h.1, ⟨(by rw [h.2.2.1]; omega), trivial⟩⟩)
    ·
      refine G_learnG (G := fun z => (x3 ≤ z ∧ p ≤ z ∧ z ≤ n ∧ (x2 = 1 → RUN F n (p) st 1 = RUN F n (z) st 0) ∧ (x2 = 0 → RUN F n (p) st 1 = z))) (t := 29) (i := 0) (k := 0) (j := 3) (lo := -2147483648) (hi := 2147483647) (J2 := fun y12 => (fun σ' => IF MRp σ σ' ∧ eqn F (σ' 32 0 0) (Int.toNat n) ∧ (x3 ≤ σ' 29 0 0 3 ∧ p ≤ σ' 29 0 0 3 ∧ σ' 29 0 0 3 ≤ n ∧ (x2 = 1 → RUN F n (p) st 1 = RUN F n (σ' 29 0 0 3) st 0) ∧ (x2 = 0 → RUN F n (p) st 1 = σ' 29 0 0 3)) ∧ σ' 29 0 0 3 = y12 ∧ True)) vd_29 (fun σ' h => h.1.1) (fun _ h => (by have q := h.1; omega)) (fun σ' h => h.2.2.1) (fun σ' y h hy => ⟨h.1, h.2.1, h.2.2.1, hy, trivial⟩) (fun y12 hy12 hy12' gy12 => ?_)
      refine G_know (J' := (fun σ' => IF MRp σ σ' ∧ eqn F (σ' 32 0 0) (Int.toNat n) ∧ σ' 29 0 0 3 = y12 ∧ True)) (fun σ' h => ⟨h.1, h.2.1, h.2.2.2.1, trivial⟩) ?_
      obtain ⟨gA, gB, gC, gD, gE⟩ := gy12
      have gF := gD (by omega)
      clear gD gE
      refine T_ld zk_53_18 rfl rfl rfl (pc' := 19) rfl ?_
      refine T_op zk_53_19 rfl (X_bi (v := 38) (by decide)) (pc' := 21) rfl ?_
      refine T_calli (K := fun y13 σ' => ((y13 = 0 ∧ (¬ lt F n (y12) = 38)) ∨ (y13 = 1 ∧ ¬ (¬ lt F n (y12) = 38))) ∧ (fun σ' => IF MRp σ σ' ∧ eqn F (σ' 32 0 0) (Int.toNat n) ∧ ((y13 = 1 → σ' 29 0 0 3 = y12 + 1) ∧ (y13 = 0 → σ' 29 0 0 3 = y12)) ∧ True) σ') (r := []) zk_53_21 rfl rfl rfl rfl rfl rfl (Or.inr ⟨_, _, _, _, rfl, vd_29, rfl⟩) (fun σ' h => (s_50 38 n y12 F (by omega) (by omega) (by omega) σ' h.1.1 (h.2.2.1) ((h.1.2 _ _ _ _ (by first | exact nMRp rfl | (unfold MRp; omega))).trans sn) (h.2.1)).le (Nat.le_of_ble_eq_true rfl) (fun v σ2 ⟨y, h1, h2, h3, h4⟩ => ⟨y, h1, h2, h.1.tr h3 (fun _ _ _ _ h => h), gf_mk (fun z => eqn F z (Int.toNat n)) (funext fun j => h3.2 _ _ _ _ (by first | exact nMRp rfl | (unfold MRp; omega))) (h.2.1), h4.1, trivial⟩)) (pc' := 24) rfl (fun y13 => ?_)
      refine G_ex (fun hy13 => ?_)
      refine T_if_eq zk_53_24 (by omega) (pc' := 27) rfl (fun h14 => ?_) (fun h15 => ?_)
      ·
        refine G_learnG (G := fun z => ((y13 = 1 → z = y12 + 1) ∧ (y13 = 0 → z = y12))) (t := 29) (i := 0) (k := 0) (j := 3) (lo := -2147483648) (hi := 2147483647) (J2 := fun y16 => (fun σ' => IF MRp σ σ' ∧ eqn F (σ' 32 0 0) (Int.toNat n) ∧ ((y13 = 1 → σ' 29 0 0 3 = y12 + 1) ∧ (y13 = 0 → σ' 29 0 0 3 = y12)) ∧ σ' 29 0 0 3 = y16 ∧ True)) vd_29 (fun σ' h => h.1.1) (fun _ h => (by have q := h.1; omega)) (fun σ' h => h.2.2.1) (fun σ' y h hy => ⟨h.1, h.2.1, h.2.2.1, hy, trivial⟩) (fun y16 hy16 hy16' gy16 => ?_)
        refine G_know (J' := (fun σ' => IF MRp σ σ' ∧ eqn F (σ' 32 0 0) (Int.toNat n) ∧ σ' 29 0 0 3 = y16 ∧ True)) (fun σ' h => ⟨h.1, h.2.1, h.2.2.2.1, trivial⟩) ?_
        have hv17 : y16 = y12 := by omega
        try clear gy16
        refine G_know (J' := (fun σ' => IF MRp σ σ' ∧ eqn F (σ' 32 0 0) (Int.toNat n) ∧ σ' 29 0 0 3 = y12 ∧ True)) (fun σ' h => ⟨h.1, h.2.1, (h.2.2.1).trans hv17, trivial⟩) ?_
        refine T_ld zk_53_48 rfl rfl rfl (pc' := 49) rfl ?_
        exact T_zret zk_53_49 rfl (by omega) (fun σ' h => ⟨_, rfl, (by omega), h.1, ⟨(by rw [h.2.2.1]; omega), trivial⟩⟩)
      ·
        refine G_learnG (G := fun z => ((y13 = 1 → z = y12 + 1) ∧ (y13 = 0 → z = y12))) (t := 29) (i := 0) (k := 0) (j := 3) (lo := -2147483648) (hi := 2147483647) (J2 := fun y18 => (fun σ' => IF MRp σ σ' ∧ eqn F (σ' 32 0 0) (Int.toNat n) ∧ ((y13 = 1 → σ' 29 0 0 3 = y12 + 1) ∧ (y13 = 0 → σ' 29 0 0 3 = y12)) ∧ σ' 29 0 0 3 = y18 ∧ True)) vd_29 (fun σ' h => h.1.1) (fun _ h => (by have q := h.1; omega)) (fun σ' h => h.2.2.1) (fun σ' y h hy => ⟨h.1, h.2.1, h.2.2.1, hy, trivial⟩) (fun y18 hy18 hy18' gy18 => ?_)
        refine G_know (J' := (fun σ' => IF MRp σ σ' ∧ eqn F (σ' 32 0 0) (Int.toNat n) ∧ σ' 29 0 0 3 = y18 ∧ True)) (fun σ' h => ⟨h.1, h.2.1, h.2.2.2.1, trivial⟩) ?_
        have hv19 : y18 = y12 + 1 := by omega
        try clear gy18
        refine G_know (J' := (fun σ' => IF MRp σ σ' ∧ eqn F (σ' 32 0 0) (Int.toNat n) ∧ σ' 29 0 0 3 = y12 + 1 ∧ True)) (fun σ' h => ⟨h.1, h.2.1, (h.2.2.1).trans hv19, trivial⟩) ?_
        have hin := lt_in (L := F) (n := n) (p := y12) (by omega)
        have hs := R_sign (L := F) (n := n) (p := y12) st (by omega) (by omega) (by omega)
        refine T_ld zk_53_27 rfl rfl rfl (pc' := 28) rfl ?_
        refine T_ld zk_53_28 rfl rfl rfl (pc' := 29) rfl ?_
        refine T_calli (K := fun y20 σ' => (y20 = 0 ∨ y20 = 1) ∧ (fun σ' => IF MRp σ σ' ∧ eqn F (σ' 32 0 0) (Int.toNat n) ∧ (((y12 + 1) ≤ σ' 29 0 0 3 ∧ σ' 29 0 0 3 ≤ n) ∧ (y20 = 1 → RUN F n ((y12 + 1)) st 1 = RUN F n (σ' 29 0 0 3) st 0) ∧ (y20 = 0 → RUN F n ((y12 + 1)) st 1 = σ' 29 0 0 3)) ∧ True) σ') (r := []) zk_53_29 rfl rfl rfl rfl rfl rfl (Or.inr ⟨_, _, _, _, rfl, vd_29, rfl⟩) (fun σ' h => (s_54_13 n (y12 + 1) F st st (by omega) (by omega) (by omega) hln hcl σ' h.1.1 (h.2.2.1) ((h.1.2 _ _ _ _ (by first | exact nMRp rfl | (unfold MRp; omega))).trans sn) (h.2.1)).le (Nat.le_of_ble_eq_true rfl) (fun v σ2 ⟨y, h1, h2, h3, h4⟩ => ⟨y, h1, h2, h.1.tr h3 (fun _ _ _ _ h => h), gf_mk (fun z => eqn F z (Int.toNat n)) (funext fun j => h3.2 _ _ _ _ (by first | exact nMRp rfl | (unfold MRp; omega))) (h.2.1), h4.1, trivial⟩)) (pc' := 32) rfl (fun y20 => ?_)
        refine G_ex (fun hy20 => ?_)
        refine T_st (L' := [(0, av 29 0 0), (1, iv 13), (2, iv y20), (3, iv x3)]) zk_53_32 (nL := 4) rfl rfl rfl rfl rfl (pc' := 33) rfl ?_
        refine T_ld zk_53_33 rfl rfl rfl (pc' := 34) rfl ?_
        refine T_getR (t' := 30) (i' := 0) (k' := 0) zk_53_34 rfl rfl rfl vd_29 (pc' := 37) rfl ?_
        refine T_op zk_53_37 rfl (X_bi (v := -2) (by decide)) (pc' := 39) rfl ?_
        refine T_callv (J' := (fun σ' => IF MRp σ σ' ∧ eqn F (σ' 32 0 0) (Int.toNat n) ∧ (((y12 + 1) ≤ σ' 29 0 0 3 ∧ σ' 29 0 0 3 ≤ n) ∧ (y20 = 1 → RUN F n ((y12 + 1)) st 1 = RUN F n (σ' 29 0 0 3) st 0) ∧ (y20 = 0 → RUN F n ((y12 + 1)) st 1 = σ' 29 0 0 3)) ∧ True)) (r := []) zk_53_39 rfl rfl rfl rfl rfl rfl (Or.inr ⟨_, _, _, _, rfl, vd_30, rfl⟩) (fun σ' h => (s_42 ((-2)) (by omega) σ' h.1.1 ).le (Nat.le_of_ble_eq_true rfl) (fun v σ2 ⟨h1, h3, h4⟩ => ⟨h1, h.1.tr h3 sb79v_2c1b94d, gf_mk (fun z => eqn F z (Int.toNat n)) (funext fun j => h3.2 _ _ _ _ (by first | exact nMRq rfl | (unfold MRq; omega))) (h.2.1), gh_mk (fun z => ((y12 + 1) ≤ z ∧ z ≤ n) ∧ (y20 = 1 → RUN F n ((y12 + 1)) st 1 = RUN F n (z) st 0) ∧ (y20 = 0 → RUN F n ((y12 + 1)) st 1 = z)) (h3.2 _ _ _ _ (by first | exact nMRq rfl | (unfold MRq; omega))) (h.2.2.1), trivial⟩)) (pc' := 42) rfl ?_
        refine T_iinc (L' := [(0, av 29 0 0), (1, iv 13), (2, iv y20), (3, iv (x3 + 1))]) zk_53_42 (nL := 4) rfl rfl rfl rfl (pc' := 45) rfl ?_
        refine T_goto zk_53_45 ?_
        refine G_know (J' := (fun σ' => IF MRp σ σ' ∧ eqn F (σ' 32 0 0) (Int.toNat n) ∧ ((x3 + 1) ≤ σ' 29 0 0 3 ∧ p ≤ σ' 29 0 0 3 ∧ σ' 29 0 0 3 ≤ n ∧ (y20 = 1 → RUN F n (p) st 1 = RUN F n (σ' 29 0 0 3) st 0) ∧ (y20 = 0 → RUN F n (p) st 1 = σ' 29 0 0 3)) ∧ True)) (fun σ' h => ⟨h.1, h.2.1, (by have e := h.2.2.1; omega), trivial⟩) ?_
        exact ih4 y20 (x3 + 1) (by omega) (by omega)
/-- W$LawReader.readEither -/
theorem s_52_13 {xs : Nat × (Nat → Int32)}  (n : Int) (p : Int) (F : Nat → Int) (st : List Bool) (hn : 0 ≤ n ∧ n ≤ 96) (hp : 0 ≤ p ∧ p ≤ 200) (hpn : p ≤ n) (hln : (st.length : Int) = 13) (hcl : cls st = st) (σ : ZS) (hI : Inv σ)  (sp : σ 29 0 0 3 = p) (sn : σ 29 0 0 2 = n) (sl : eqn F (σ 32 0 0) (Int.toNat n)) : CT xs 27 52 [av 29 0 0, iv 13] σ (fun v σ' => ∃ y, v = some (iv y) ∧ (y = 0 ∨ y = 1) ∧ IF MRp σ σ' ∧ (((p ≤ σ' 29 0 0 3 ∧ σ' 29 0 0 3 ≤ n) ∧ (y = 1 → RUN F n (p) st 1 = RUN F n (σ' 29 0 0 3) st 0 ∧ ¬ lt F n (σ' 29 0 0 3) = 38 ∧ ¬ lt F n (σ' 29 0 0 3) = 124) ∧ (y = 0 → RUN F n (p) st 1 = σ' 29 0 0 3)) ∧ True)) := by
  refine G_ct (J := (fun σ' => IF MRp σ σ' ∧ σ' 29 0 0 3 = p ∧ eqn F (σ' 32 0 0) (Int.toNat n) ∧ True)) (L := [(0, av 29 0 0), (1, iv 13)]) (nL := 4) rfl rfl rfl ⟨IF.rf hI, sp, sl, trivial⟩ ?_
  refine T_ld zk_52_0 rfl rfl rfl (pc' := 1) rfl ?_
  refine T_ld zk_52_1 rfl rfl rfl (pc' := 2) rfl ?_
  refine T_calli (K := fun y1 σ' => (y1 = 0 ∨ y1 = 1) ∧ (fun σ' => IF MRp σ σ' ∧ eqn F (σ' 32 0 0) (Int.toNat n) ∧ ((p ≤ σ' 29 0 0 3 ∧ σ' 29 0 0 3 ≤ n) ∧ (y1 = 1 → RUN F n (p) st 1 = RUN F n (σ' 29 0 0 3) st 0 ∧ ¬ lt F n (σ' 29 0 0 3) = 38) ∧ (y1 = 0 → RUN F n (p) st 1 = σ' 29 0 0 3)) ∧ True) σ') (r := []) zk_52_2 rfl rfl rfl rfl rfl rfl (Or.inr ⟨_, _, _, _, rfl, vd_29, rfl⟩) (fun σ' h => (s_53_13 n p F st (by omega) (by omega) (by omega) hln hcl σ' h.1.1 (h.2.1) ((h.1.2 _ _ _ _ (by first | exact nMRp rfl | (unfold MRp; omega))).trans sn) (h.2.2.1)).le (Nat.le_of_ble_eq_true rfl) (fun v σ2 ⟨y, h1, h2, h3, h4⟩ => ⟨y, h1, h2, h.1.tr h3 (fun _ _ _ _ h => h), gf_mk (fun z => eqn F z (Int.toNat n)) (funext fun j => h3.2 _ _ _ _ (by first | exact nMRp rfl | (unfold MRp; omega))) (h.2.2.1), h4.1, trivial⟩)) (pc' := 5) rfl (fun y1 => ?_)
  refine G_ex (fun hy1 => ?_)
  refine T_st (L' := [(0, av 29 0 0), (1, iv 13), (2, iv y1)]) zk_52_5 (nL := 4) rfl rfl rfl rfl rfl (pc' := 6) rfl ?_
  refine T_op zk_52_6 rfl X_ic (pc' := 7) rfl ?_
  refine T_st (L' := [(0, av 29 0 0), (1, iv 13), (2, iv y1), (3, iv 0)]) zk_52_7 (nL := 4) rfl rfl rfl rfl rfl (pc' := 8) rfl ?_
  refine G_know (J' := (fun σ' => IF MRp σ σ' ∧ eqn F (σ' 32 0 0) (Int.toNat n) ∧ (0 ≤ σ' 29 0 0 3 ∧ p ≤ σ' 29 0 0 3 ∧ σ' 29 0 0 3 ≤ n ∧ (y1 = 1 → RUN F n (p) st 1 = RUN F n (σ' 29 0 0 3) st 0 ∧ ¬ lt F n (σ' 29 0 0 3) = 38) ∧ (y1 = 0 → RUN F n (p) st 1 = σ' 29 0 0 3)) ∧ True)) (fun σ' h => ⟨h.1, h.2.1, (by have e := h.2.2.1; omega), trivial⟩) ?_
  refine T_loop2 (fun x2 x3 => ((96 - x3 : Int)).toNat) (fun x2 x3 => (0 ≤ x2 ∧ x2 ≤ 1) ∧ (0 ≤ x3 ∧ x3 ≤ 96)) (fun x2 x3 => TJ xs (fun σ' => IF MRp σ σ' ∧ eqn F (σ' 32 0 0) (Int.toNat n) ∧ (x3 ≤ σ' 29 0 0 3 ∧ p ≤ σ' 29 0 0 3 ∧ σ' 29 0 0 3 ≤ n ∧ (x2 = 1 → RUN F n (p) st 1 = RUN F n (σ' 29 0 0 3) st 0 ∧ ¬ lt F n (σ' 29 0 0 3) = 38) ∧ (x2 = 0 → RUN F n (p) st 1 = σ' 29 0 0 3)) ∧ True) 26 52 8 [(0, av 29 0 0), (1, iv 13), (2, iv x2), (3, iv x3)] [] _) ?_ y1 0 (by omega)
  intro x2 x3 hp5 ih4
  refine T_ld zk_52_8 rfl rfl rfl (pc' := 9) rfl ?_
  refine T_op zk_52_9 rfl (X_bi (v := 96) (by decide)) (pc' := 11) rfl ?_
  refine T_icmp_ge zk_52_11 (by omega) (by omega) (pc' := 14) rfl (fun h6 => ?_) (fun h7 => ?_)
  ·
    refine G_learnG (G := fun z => (x3 ≤ z ∧ p ≤ z ∧ z ≤ n ∧ (x2 = 1 → RUN F n (p) st 1 = RUN F n (z) st 0 ∧ ¬ lt F n (z) = 38) ∧ (x2 = 0 → RUN F n (p) st 1 = z))) (t := 29) (i := 0) (k := 0) (j := 3) (lo := -2147483648) (hi := 2147483647) (J2 := fun y8 => (fun σ' => IF MRp σ σ' ∧ eqn F (σ' 32 0 0) (Int.toNat n) ∧ (x3 ≤ σ' 29 0 0 3 ∧ p ≤ σ' 29 0 0 3 ∧ σ' 29 0 0 3 ≤ n ∧ (x2 = 1 → RUN F n (p) st 1 = RUN F n (σ' 29 0 0 3) st 0 ∧ ¬ lt F n (σ' 29 0 0 3) = 38) ∧ (x2 = 0 → RUN F n (p) st 1 = σ' 29 0 0 3)) ∧ σ' 29 0 0 3 = y8 ∧ True)) vd_29 (fun σ' h => h.1.1) (fun _ h => (by have q := h.1; omega)) (fun σ' h => h.2.2.1) (fun σ' y h hy => ⟨h.1, h.2.1, h.2.2.1, hy, trivial⟩) (fun y8 hy8 hy8' gy8 => ?_)
    refine G_know (J' := (fun σ' => IF MRp σ σ' ∧ eqn F (σ' 32 0 0) (Int.toNat n) ∧ σ' 29 0 0 3 = y8 ∧ True)) (fun σ' h => ⟨h.1, h.2.1, h.2.2.2.1, trivial⟩) ?_
    have hly8 := lt_spec F n y8
    refine T_ld zk_52_48 rfl rfl rfl (pc' := 49) rfl ?_
    exact T_zret zk_52_49 rfl (by omega) (fun σ' h => ⟨_, rfl, (by omega), h.1, ⟨(by rw [h.2.2.1]; omega), trivial⟩⟩)
  ·
    refine T_ld zk_52_14 rfl rfl rfl (pc' := 15) rfl ?_
    refine T_if_eq zk_52_15 (by omega) (pc' := 18) rfl (fun h9 => ?_) (fun h10 => ?_)
    ·
      refine G_learnG (G := fun z => (x3 ≤ z ∧ p ≤ z ∧ z ≤ n ∧ (x2 = 1 → RUN F n (p) st 1 = RUN F n (z) st 0 ∧ ¬ lt F n (z) = 38) ∧ (x2 = 0 → RUN F n (p) st 1 = z))) (t := 29) (i := 0) (k := 0) (j := 3) (lo := -2147483648) (hi := 2147483647) (J2 := fun y11 => (fun σ' => IF MRp σ σ' ∧ eqn F (σ' 32 0 0) (Int.toNat n) ∧ (x3 ≤ σ' 29 0 0 3 ∧ p ≤ σ' 29 0 0 3 ∧ σ' 29 0 0 3 ≤ n ∧ (x2 = 1 → RUN F n (p) st 1 = RUN F n (σ' 29 0 0 3) st 0 ∧ ¬ lt F n (σ' 29 0 0 3) = 38) ∧ (x2 = 0 → RUN F n (p) st 1 = σ' 29 0 0 3)) ∧ σ' 29 0 0 3 = y11 ∧ True)) vd_29 (fun σ' h => h.1.1) (fun _ h => (by have q := h.1; omega)) (fun σ' h => h.2.2.1) (fun σ' y h hy => ⟨h.1, h.2.1, h.2.2.1, hy, trivial⟩) (fun y11 hy11 hy11' gy11 => ?_)
      refine G_know (J' := (fun σ' => IF MRp σ σ' ∧ eqn F (σ' 32 0 0) (Int.toNat n) ∧ σ' 29 0 0 3 = y11 ∧ True)) (fun σ' h => ⟨h.1, h.2.1, h.2.2.2.1, trivial⟩) ?_
      have hly11 := lt_spec F n y11
      refine T_ld zk_52_48 rfl rfl rfl (pc' := 49) rfl ?_
      exact T_zret zk_52_49 rfl (by omega) (fun σ' h => ⟨_, rfl, (by omega), h.1, ⟨(by rw [h.2.2.1]; omega), trivial⟩⟩)
    ·
      refine G_learnG (G := fun z => (x3 ≤ z ∧ p ≤ z ∧ z ≤ n ∧ (x2 = 1 → RUN F n (p) st 1 = RUN F n (z) st 0 ∧ ¬ lt F n (z) = 38) ∧ (x2 = 0 → RUN F n (p) st 1 = z))) (t := 29) (i := 0) (k := 0) (j := 3) (lo := -2147483648) (hi := 2147483647) (J2 := fun y12 => (fun σ' => IF MRp σ σ' ∧ eqn F (σ' 32 0 0) (Int.toNat n) ∧ (x3 ≤ σ' 29 0 0 3 ∧ p ≤ σ' 29 0 0 3 ∧ σ' 29 0 0 3 ≤ n ∧ (x2 = 1 → RUN F n (p) st 1 = RUN F n (σ' 29 0 0 3) st 0 ∧ ¬ lt F n (σ' 29 0 0 3) = 38) ∧ (x2 = 0 → RUN F n (p) st 1 = σ' 29 0 0 3)) ∧ σ' 29 0 0 3 = y12 ∧ True)) vd_29 (fun σ' h => h.1.1) (fun _ h => (by have q := h.1; omega)) (fun σ' h => h.2.2.1) (fun σ' y h hy => ⟨h.1, h.2.1, h.2.2.1, hy, trivial⟩) (fun y12 hy12 hy12' gy12 => ?_)
      refine G_know (J' := (fun σ' => IF MRp σ σ' ∧ eqn F (σ' 32 0 0) (Int.toNat n) ∧ σ' 29 0 0 3 = y12 ∧ True)) (fun σ' h => ⟨h.1, h.2.1, h.2.2.2.1, trivial⟩) ?_
      obtain ⟨gA, gB, gC, gD, gE⟩ := gy12
      have gF := gD (by omega)
      clear gD gE
      refine T_ld zk_52_18 rfl rfl rfl (pc' := 19) rfl ?_
      refine T_op zk_52_19 rfl (X_bi (v := 124) (by decide)) (pc' := 21) rfl ?_
      refine T_calli (K := fun y13 σ' => ((y13 = 0 ∧ (¬ lt F n (y12) = 124)) ∨ (y13 = 1 ∧ ¬ (¬ lt F n (y12) = 124))) ∧ (fun σ' => IF MRp σ σ' ∧ eqn F (σ' 32 0 0) (Int.toNat n) ∧ ((y13 = 1 → σ' 29 0 0 3 = y12 + 1) ∧ (y13 = 0 → σ' 29 0 0 3 = y12)) ∧ True) σ') (r := []) zk_52_21 rfl rfl rfl rfl rfl rfl (Or.inr ⟨_, _, _, _, rfl, vd_29, rfl⟩) (fun σ' h => (s_50 124 n y12 F (by omega) (by omega) (by omega) σ' h.1.1 (h.2.2.1) ((h.1.2 _ _ _ _ (by first | exact nMRp rfl | (unfold MRp; omega))).trans sn) (h.2.1)).le (Nat.le_of_ble_eq_true rfl) (fun v σ2 ⟨y, h1, h2, h3, h4⟩ => ⟨y, h1, h2, h.1.tr h3 (fun _ _ _ _ h => h), gf_mk (fun z => eqn F z (Int.toNat n)) (funext fun j => h3.2 _ _ _ _ (by first | exact nMRp rfl | (unfold MRp; omega))) (h.2.1), h4.1, trivial⟩)) (pc' := 24) rfl (fun y13 => ?_)
      refine G_ex (fun hy13 => ?_)
      refine T_if_eq zk_52_24 (by omega) (pc' := 27) rfl (fun h14 => ?_) (fun h15 => ?_)
      ·
        refine G_learnG (G := fun z => ((y13 = 1 → z = y12 + 1) ∧ (y13 = 0 → z = y12))) (t := 29) (i := 0) (k := 0) (j := 3) (lo := -2147483648) (hi := 2147483647) (J2 := fun y16 => (fun σ' => IF MRp σ σ' ∧ eqn F (σ' 32 0 0) (Int.toNat n) ∧ ((y13 = 1 → σ' 29 0 0 3 = y12 + 1) ∧ (y13 = 0 → σ' 29 0 0 3 = y12)) ∧ σ' 29 0 0 3 = y16 ∧ True)) vd_29 (fun σ' h => h.1.1) (fun _ h => (by have q := h.1; omega)) (fun σ' h => h.2.2.1) (fun σ' y h hy => ⟨h.1, h.2.1, h.2.2.1, hy, trivial⟩) (fun y16 hy16 hy16' gy16 => ?_)
        refine G_know (J' := (fun σ' => IF MRp σ σ' ∧ eqn F (σ' 32 0 0) (Int.toNat n) ∧ σ' 29 0 0 3 = y16 ∧ True)) (fun σ' h => ⟨h.1, h.2.1, h.2.2.2.1, trivial⟩) ?_
        have hv17 : y16 = y12 := by omega
        try clear gy16
        refine G_know (J' := (fun σ' => IF MRp σ σ' ∧ eqn F (σ' 32 0 0) (Int.toNat n) ∧ σ' 29 0 0 3 = y12 ∧ True)) (fun σ' h => ⟨h.1, h.2.1, (h.2.2.1).trans hv17, trivial⟩) ?_
        refine T_ld zk_52_48 rfl rfl rfl (pc' := 49) rfl ?_
        exact T_zret zk_52_49 rfl (by omega) (fun σ' h => ⟨_, rfl, (by omega), h.1, ⟨(by rw [h.2.2.1]; omega), trivial⟩⟩)
      ·
        refine G_learnG (G := fun z => ((y13 = 1 → z = y12 + 1) ∧ (y13 = 0 → z = y12))) (t := 29) (i := 0) (k := 0) (j := 3) (lo := -2147483648) (hi := 2147483647) (J2 := fun y18 => (fun σ' => IF MRp σ σ' ∧ eqn F (σ' 32 0 0) (Int.toNat n) ∧ ((y13 = 1 → σ' 29 0 0 3 = y12 + 1) ∧ (y13 = 0 → σ' 29 0 0 3 = y12)) ∧ σ' 29 0 0 3 = y18 ∧ True)) vd_29 (fun σ' h => h.1.1) (fun _ h => (by have q := h.1; omega)) (fun σ' h => h.2.2.1) (fun σ' y h hy => ⟨h.1, h.2.1, h.2.2.1, hy, trivial⟩) (fun y18 hy18 hy18' gy18 => ?_)
        refine G_know (J' := (fun σ' => IF MRp σ σ' ∧ eqn F (σ' 32 0 0) (Int.toNat n) ∧ σ' 29 0 0 3 = y18 ∧ True)) (fun σ' h => ⟨h.1, h.2.1, h.2.2.2.1, trivial⟩) ?_
        have hv19 : y18 = y12 + 1 := by omega
        try clear gy18
        refine G_know (J' := (fun σ' => IF MRp σ σ' ∧ eqn F (σ' 32 0 0) (Int.toNat n) ∧ σ' 29 0 0 3 = y12 + 1 ∧ True)) (fun σ' h => ⟨h.1, h.2.1, (h.2.2.1).trans hv19, trivial⟩) ?_
        have hin := lt_in (L := F) (n := n) (p := y12) (by omega)
        have hs := R_sign (L := F) (n := n) (p := y12) st (by omega) (by omega) (by omega)
        refine T_ld zk_52_27 rfl rfl rfl (pc' := 28) rfl ?_
        refine T_ld zk_52_28 rfl rfl rfl (pc' := 29) rfl ?_
        refine T_calli (K := fun y20 σ' => (y20 = 0 ∨ y20 = 1) ∧ (fun σ' => IF MRp σ σ' ∧ eqn F (σ' 32 0 0) (Int.toNat n) ∧ (((y12 + 1) ≤ σ' 29 0 0 3 ∧ σ' 29 0 0 3 ≤ n) ∧ (y20 = 1 → RUN F n ((y12 + 1)) st 1 = RUN F n (σ' 29 0 0 3) st 0 ∧ ¬ lt F n (σ' 29 0 0 3) = 38) ∧ (y20 = 0 → RUN F n ((y12 + 1)) st 1 = σ' 29 0 0 3)) ∧ True) σ') (r := []) zk_52_29 rfl rfl rfl rfl rfl rfl (Or.inr ⟨_, _, _, _, rfl, vd_29, rfl⟩) (fun σ' h => (s_53_13 n (y12 + 1) F st (by omega) (by omega) (by omega) hln hcl σ' h.1.1 (h.2.2.1) ((h.1.2 _ _ _ _ (by first | exact nMRp rfl | (unfold MRp; omega))).trans sn) (h.2.1)).le (Nat.le_of_ble_eq_true rfl) (fun v σ2 ⟨y, h1, h2, h3, h4⟩ => ⟨y, h1, h2, h.1.tr h3 (fun _ _ _ _ h => h), gf_mk (fun z => eqn F z (Int.toNat n)) (funext fun j => h3.2 _ _ _ _ (by first | exact nMRp rfl | (unfold MRp; omega))) (h.2.1), h4.1, trivial⟩)) (pc' := 32) rfl (fun y20 => ?_)
        refine G_ex (fun hy20 => ?_)
        refine T_st (L' := [(0, av 29 0 0), (1, iv 13), (2, iv y20), (3, iv x3)]) zk_52_32 (nL := 4) rfl rfl rfl rfl rfl (pc' := 33) rfl ?_
        refine T_ld zk_52_33 rfl rfl rfl (pc' := 34) rfl ?_
        refine T_getR (t' := 30) (i' := 0) (k' := 0) zk_52_34 rfl rfl rfl vd_29 (pc' := 37) rfl ?_
        refine T_op zk_52_37 rfl (X_bi (v := -3) (by decide)) (pc' := 39) rfl ?_
        refine T_callv (J' := (fun σ' => IF MRp σ σ' ∧ eqn F (σ' 32 0 0) (Int.toNat n) ∧ (((y12 + 1) ≤ σ' 29 0 0 3 ∧ σ' 29 0 0 3 ≤ n) ∧ (y20 = 1 → RUN F n ((y12 + 1)) st 1 = RUN F n (σ' 29 0 0 3) st 0 ∧ ¬ lt F n (σ' 29 0 0 3) = 38) ∧ (y20 = 0 → RUN F n ((y12 + 1)) st 1 = σ' 29 0 0 3)) ∧ True)) (r := []) zk_52_39 rfl rfl rfl rfl rfl rfl (Or.inr ⟨_, _, _, _, rfl, vd_30, rfl⟩) (fun σ' h => (s_42 ((-3)) (by omega) σ' h.1.1 ).le (Nat.le_of_ble_eq_true rfl) (fun v σ2 ⟨h1, h3, h4⟩ => ⟨h1, h.1.tr h3 sb79v_2c1b94d, gf_mk (fun z => eqn F z (Int.toNat n)) (funext fun j => h3.2 _ _ _ _ (by first | exact nMRq rfl | (unfold MRq; omega))) (h.2.1), gh_mk (fun z => ((y12 + 1) ≤ z ∧ z ≤ n) ∧ (y20 = 1 → RUN F n ((y12 + 1)) st 1 = RUN F n (z) st 0 ∧ ¬ lt F n (z) = 38) ∧ (y20 = 0 → RUN F n ((y12 + 1)) st 1 = z)) (h3.2 _ _ _ _ (by first | exact nMRq rfl | (unfold MRq; omega))) (h.2.2.1), trivial⟩)) (pc' := 42) rfl ?_
        refine T_iinc (L' := [(0, av 29 0 0), (1, iv 13), (2, iv y20), (3, iv (x3 + 1))]) zk_52_42 (nL := 4) rfl rfl rfl rfl (pc' := 45) rfl ?_
        refine T_goto zk_52_45 ?_
        refine G_know (J' := (fun σ' => IF MRp σ σ' ∧ eqn F (σ' 32 0 0) (Int.toNat n) ∧ ((x3 + 1) ≤ σ' 29 0 0 3 ∧ p ≤ σ' 29 0 0 3 ∧ σ' 29 0 0 3 ≤ n ∧ (y20 = 1 → RUN F n (p) st 1 = RUN F n (σ' 29 0 0 3) st 0 ∧ ¬ lt F n (σ' 29 0 0 3) = 38) ∧ (y20 = 0 → RUN F n (p) st 1 = σ' 29 0 0 3)) ∧ True)) (fun σ' h => ⟨h.1, h.2.1, (by have e := h.2.2.1; omega), trivial⟩) ?_
        exact ih4 y20 (x3 + 1) (by omega) (by omega)
/-- W$LawReader.readPart -/
theorem s_54_12 {xs : Nat × (Nat → Int32)}  (n : Int) (p : Int) (F : Nat → Int) (st : List Bool) (su : List Bool) (hn : 0 ≤ n ∧ n ≤ 96) (hp : 0 ≤ p ∧ p ≤ 200) (hpn : p ≤ n) (hln : (st.length : Int) = 12) (hsu : cls st = su) (σ : ZS) (hI : Inv σ)  (sp : σ 29 0 0 3 = p) (sn : σ 29 0 0 2 = n) (sl : eqn F (σ 32 0 0) (Int.toNat n)) : CT xs 28 54 [av 29 0 0, iv 12] σ (fun v σ' => ∃ y, v = some (iv y) ∧ (y = 0 ∨ y = 1) ∧ IF MRp σ σ' ∧ (((p ≤ σ' 29 0 0 3 ∧ σ' 29 0 0 3 ≤ n) ∧ (y = 1 → RUN F n (p) st 1 = RUN F n (σ' 29 0 0 3) su 0) ∧ (y = 0 → RUN F n (p) st 1 = σ' 29 0 0 3)) ∧ True)) := by
  refine G_ct (J := (fun σ' => IF MRp σ σ' ∧ σ' 29 0 0 3 = p ∧ eqn F (σ' 32 0 0) (Int.toNat n) ∧ True)) (L := [(0, av 29 0 0), (1, iv 12)]) (nL := 3) rfl rfl rfl ⟨IF.rf hI, sp, sl, trivial⟩ ?_
  have hw0 := fun (_ : Unit) => R_want (L := F) (n := n) (p := p) (d := 12) (by omega) (by omega) hln hsu
  refine T_ld zk_54_0 rfl rfl rfl (pc' := 1) rfl ?_
  refine T_calli (K := fun y1 σ' => (y1 = lt F n (p) ∧ -2147483648 ≤ y1 ∧ y1 ≤ 2147483647) ∧ (fun σ' => IF MRp σ σ' ∧ σ' 29 0 0 3 = p ∧ eqn F (σ' 32 0 0) (Int.toNat n) ∧ True) σ') (r := []) zk_54_1 rfl rfl rfl rfl rfl rfl (Or.inr ⟨_, _, _, _, rfl, vd_29, rfl⟩) (fun σ' h => (s_49 n p F (by omega) (by omega) σ' h.1.1 (h.2.1) ((h.1.2 _ _ _ _ (by first | exact nMRp rfl | (unfold MRp; omega))).trans sn) (h.2.2.1)).le (Nat.le_of_ble_eq_true rfl) (fun v σ2 ⟨y, h1, h2, h3, h4⟩ => ⟨y, h1, h2, h.1.tr h3 MN_sub, (h3.2 _ _ _ _ (fun q => q)).trans (h.2.1), gf_mk (fun z => eqn F z (Int.toNat n)) (funext fun j => h3.2 _ _ _ _ (fun q => q)) (h.2.2.1), trivial⟩)) (pc' := 4) rfl (fun y1 => ?_)
  refine G_ex (fun hy1 => ?_)
  obtain rfl : y1 = lt F n (p) := by omega
  refine T_op zk_54_4 rfl (X_bi (v := 33) (by decide)) (pc' := 6) rfl ?_
  refine T_icmp_eq zk_54_6 (by omega) (by omega) (pc' := 9) rfl (fun h2 => ?_) (fun h3 => ?_)
  ·
    have hin := lt_in (L := F) (n := n) (p := p) (by omega)
    refine T_ld zk_54_23 rfl rfl rfl (pc' := 24) rfl ?_
    refine T_op zk_54_24 rfl (X_bi (v := 20) (by decide)) (pc' := 26) rfl ?_
    refine T_icmp_lt zk_54_26 (by omega) (by omega) (pc' := 29) rfl (fun h4 => ?_) (fun h5 => ?_)
    ·
      refine T_ld zk_54_31 rfl rfl rfl (pc' := 32) rfl ?_
      refine T_op zk_54_32 rfl (X_bi (v := 40) (by decide)) (pc' := 34) rfl ?_
      refine T_calli (K := fun y6 σ' => ((y6 = 0 ∧ (¬ lt F n (p) = 40)) ∨ (y6 = 1 ∧ ¬ (¬ lt F n (p) = 40))) ∧ (fun σ' => IF MRp σ σ' ∧ eqn F (σ' 32 0 0) (Int.toNat n) ∧ ((y6 = 1 → σ' 29 0 0 3 = p + 1) ∧ (y6 = 0 → σ' 29 0 0 3 = p)) ∧ True) σ') (r := []) zk_54_34 rfl rfl rfl rfl rfl rfl (Or.inr ⟨_, _, _, _, rfl, vd_29, rfl⟩) (fun σ' h => (s_50 40 n p F (by omega) (by omega) (by omega) σ' h.1.1 (h.2.1) ((h.1.2 _ _ _ _ (by first | exact nMRp rfl | (unfold MRp; omega))).trans sn) (h.2.2.1)).le (Nat.le_of_ble_eq_true rfl) (fun v σ2 ⟨y, h1, h2, h3, h4⟩ => ⟨y, h1, h2, h.1.tr h3 (fun _ _ _ _ h => h), gf_mk (fun z => eqn F z (Int.toNat n)) (funext fun j => h3.2 _ _ _ _ (by first | exact nMRp rfl | (unfold MRp; omega))) (h.2.2.1), h4.1, trivial⟩)) (pc' := 37) rfl (fun y6 => ?_)
      refine G_ex (fun hy6 => ?_)
      refine T_if_eq zk_54_37 (by omega) (pc' := 40) rfl (fun h7 => ?_) (fun h8 => ?_)
      ·
        refine G_learnG (G := fun z => ((y6 = 1 → z = p + 1) ∧ (y6 = 0 → z = p))) (t := 29) (i := 0) (k := 0) (j := 3) (lo := -2147483648) (hi := 2147483647) (J2 := fun y9 => (fun σ' => IF MRp σ σ' ∧ eqn F (σ' 32 0 0) (Int.toNat n) ∧ ((y6 = 1 → σ' 29 0 0 3 = p + 1) ∧ (y6 = 0 → σ' 29 0 0 3 = p)) ∧ σ' 29 0 0 3 = y9 ∧ True)) vd_29 (fun σ' h => h.1.1) (fun _ h => (by have q := h.1; omega)) (fun σ' h => h.2.2.1) (fun σ' y h hy => ⟨h.1, h.2.1, h.2.2.1, hy, trivial⟩) (fun y9 hy9 hy9' gy9 => ?_)
        refine G_know (J' := (fun σ' => IF MRp σ σ' ∧ eqn F (σ' 32 0 0) (Int.toNat n) ∧ σ' 29 0 0 3 = y9 ∧ True)) (fun σ' h => ⟨h.1, h.2.1, h.2.2.2.1, trivial⟩) ?_
        have hv10 : y9 = p := by omega
        try clear gy9
        refine G_know (J' := (fun σ' => IF MRp σ σ' ∧ eqn F (σ' 32 0 0) (Int.toNat n) ∧ σ' 29 0 0 3 = p ∧ True)) (fun σ' h => ⟨h.1, h.2.1, (h.2.2.1).trans hv10, trivial⟩) ?_
        have hw5 := (hw0 ()).1 ⟨by omega, by omega⟩
        refine T_ld zk_54_65 rfl rfl rfl (pc' := 66) rfl ?_
        refine T_op (st' := [av 29 0 0, av 29 0 0]) zk_54_66 rfl rfl (pc' := 67) rfl ?_
        refine G_getX (w := p) zk_54_67 rfl vd_29 (fun σ' h => h.2.2.1) (pc' := 70) rfl ?_
        refine T_op zk_54_70 rfl X_ic (pc' := 71) rfl ?_
        refine T_op zk_54_71 rfl X_add (pc' := 72) rfl ?_
        refine T_putf (J' := (fun σ' => IF MRp σ σ' ∧ eqn F (σ' 32 0 0) (Int.toNat n) ∧ σ' 29 0 0 3 = p + 1 ∧ True)) zk_54_72 rfl rfl vd_29 (fun σ' h => ⟨h.1.up (by simp only [rgP] <;> omega) (by first | exact pMRp rfl | (unfold MRp; omega)), gf_mk (fun z => eqn F z (Int.toNat n)) (up_row (by omega)) (h.2.1), up_eq, trivial⟩) (pc' := 75) rfl ?_
        refine T_ld zk_54_75 rfl rfl rfl (pc' := 76) rfl ?_
        refine T_ld zk_54_76 rfl rfl rfl (pc' := 77) rfl ?_
        refine T_op zk_54_77 rfl X_ic (pc' := 78) rfl ?_
        refine T_opc (w := 13) zk_54_78 rfl X_add (by omega) (pc' := 79) rfl ?_
        refine T_calli (K := fun y11 σ' => (y11 = 0 ∨ y11 = 1) ∧ (fun σ' => IF MRp σ σ' ∧ eqn F (σ' 32 0 0) (Int.toNat n) ∧ (((p + 1) ≤ σ' 29 0 0 3 ∧ σ' 29 0 0 3 ≤ n) ∧ (y11 = 1 → RUN F n ((p + 1)) (false :: st) 1 = RUN F n (σ' 29 0 0 3) su 0) ∧ (y11 = 0 → RUN F n ((p + 1)) (false :: st) 1 = σ' 29 0 0 3)) ∧ True) σ') (r := []) zk_54_79 rfl rfl rfl rfl rfl rfl (Or.inr ⟨_, _, _, _, rfl, vd_29, rfl⟩) (fun σ' h => (s_54_13 n (p + 1) F ((false :: st)) su (by omega) (by omega) (by omega) (by rw [List.length_cons]; omega) (by rw [cls_f]; exact hsu) σ' h.1.1 (h.2.2.1) ((h.1.2 _ _ _ _ (by first | exact nMRp rfl | (unfold MRp; omega))).trans sn) (h.2.1)).le (Nat.le_of_ble_eq_true rfl) (fun v σ2 ⟨y, h1, h2, h3, h4⟩ => ⟨y, h1, h2, h.1.tr h3 (fun _ _ _ _ h => h), gf_mk (fun z => eqn F z (Int.toNat n)) (funext fun j => h3.2 _ _ _ _ (by first | exact nMRp rfl | (unfold MRp; omega))) (h.2.1), h4.1, trivial⟩)) (pc' := 82) rfl (fun y11 => ?_)
        refine G_ex (fun hy11 => ?_)
        refine T_st (L' := [(0, av 29 0 0), (1, iv 12), (2, iv y11)]) zk_54_82 (nL := 3) rfl rfl rfl rfl rfl (pc' := 83) rfl ?_
        refine T_ld zk_54_83 rfl rfl rfl (pc' := 84) rfl ?_
        refine T_getR (t' := 30) (i' := 0) (k' := 0) zk_54_84 rfl rfl rfl vd_29 (pc' := 87) rfl ?_
        refine T_op zk_54_87 rfl X_ic (pc' := 88) rfl ?_
        refine T_callv (J' := (fun σ' => IF MRp σ σ' ∧ eqn F (σ' 32 0 0) (Int.toNat n) ∧ (((p + 1) ≤ σ' 29 0 0 3 ∧ σ' 29 0 0 3 ≤ n) ∧ (y11 = 1 → RUN F n ((p + 1)) (false :: st) 1 = RUN F n (σ' 29 0 0 3) su 0) ∧ (y11 = 0 → RUN F n ((p + 1)) (false :: st) 1 = σ' 29 0 0 3)) ∧ True)) (r := []) zk_54_88 rfl rfl rfl rfl rfl rfl (Or.inr ⟨_, _, _, _, rfl, vd_30, rfl⟩) (fun σ' h => (s_42 ((-1)) (by omega) σ' h.1.1 ).le (Nat.le_of_ble_eq_true rfl) (fun v σ2 ⟨h1, h3, h4⟩ => ⟨h1, h.1.tr h3 sb79v_2c1b94d, gf_mk (fun z => eqn F z (Int.toNat n)) (funext fun j => h3.2 _ _ _ _ (by first | exact nMRq rfl | (unfold MRq; omega))) (h.2.1), gh_mk (fun z => ((p + 1) ≤ z ∧ z ≤ n) ∧ (y11 = 1 → RUN F n ((p + 1)) (false :: st) 1 = RUN F n (z) su 0) ∧ (y11 = 0 → RUN F n ((p + 1)) (false :: st) 1 = z)) (h3.2 _ _ _ _ (by first | exact nMRq rfl | (unfold MRq; omega))) (h.2.2.1), trivial⟩)) (pc' := 91) rfl ?_
        refine T_ld zk_54_91 rfl rfl rfl (pc' := 92) rfl ?_
        exact T_zret zk_54_92 rfl (by omega) (fun σ' h => ⟨_, rfl, (by omega), h.1, ⟨(by have e := h.2.2.1; omega), trivial⟩⟩)
      ·
        exfalso; omega
    · exfalso; omega
  ·
    refine T_ld zk_54_9 rfl rfl rfl (pc' := 10) rfl ?_
    refine T_calli (K := fun y13 σ' => (y13 = lt F n (p) ∧ -2147483648 ≤ y13 ∧ y13 ≤ 2147483647) ∧ (fun σ' => IF MRp σ σ' ∧ σ' 29 0 0 3 = p ∧ eqn F (σ' 32 0 0) (Int.toNat n) ∧ True) σ') (r := []) zk_54_10 rfl rfl rfl rfl rfl rfl (Or.inr ⟨_, _, _, _, rfl, vd_29, rfl⟩) (fun σ' h => (s_49 n p F (by omega) (by omega) σ' h.1.1 (h.2.1) ((h.1.2 _ _ _ _ (by first | exact nMRp rfl | (unfold MRp; omega))).trans sn) (h.2.2.1)).le (Nat.le_of_ble_eq_true rfl) (fun v σ2 ⟨y, h1, h2, h3, h4⟩ => ⟨y, h1, h2, h.1.tr h3 MN_sub, (h3.2 _ _ _ _ (fun q => q)).trans (h.2.1), gf_mk (fun z => eqn F z (Int.toNat n)) (funext fun j => h3.2 _ _ _ _ (fun q => q)) (h.2.2.1), trivial⟩)) (pc' := 13) rfl (fun y13 => ?_)
    refine G_ex (fun hy13 => ?_)
    obtain rfl : y13 = lt F n (p) := by omega
    refine T_op zk_54_13 rfl (X_bi (v := 40) (by decide)) (pc' := 15) rfl ?_
    refine T_icmp_eq zk_54_15 (by omega) (by omega) (pc' := 18) rfl (fun h14 => ?_) (fun h15 => ?_)
    ·
      have hin := lt_in (L := F) (n := n) (p := p) (by omega)
      refine T_ld zk_54_23 rfl rfl rfl (pc' := 24) rfl ?_
      refine T_op zk_54_24 rfl (X_bi (v := 20) (by decide)) (pc' := 26) rfl ?_
      refine T_icmp_lt zk_54_26 (by omega) (by omega) (pc' := 29) rfl (fun h16 => ?_) (fun h17 => ?_)
      ·
        refine T_ld zk_54_31 rfl rfl rfl (pc' := 32) rfl ?_
        refine T_op zk_54_32 rfl (X_bi (v := 40) (by decide)) (pc' := 34) rfl ?_
        refine T_calli (K := fun y18 σ' => ((y18 = 0 ∧ (¬ lt F n (p) = 40)) ∨ (y18 = 1 ∧ ¬ (¬ lt F n (p) = 40))) ∧ (fun σ' => IF MRp σ σ' ∧ eqn F (σ' 32 0 0) (Int.toNat n) ∧ ((y18 = 1 → σ' 29 0 0 3 = p + 1) ∧ (y18 = 0 → σ' 29 0 0 3 = p)) ∧ True) σ') (r := []) zk_54_34 rfl rfl rfl rfl rfl rfl (Or.inr ⟨_, _, _, _, rfl, vd_29, rfl⟩) (fun σ' h => (s_50 40 n p F (by omega) (by omega) (by omega) σ' h.1.1 (h.2.1) ((h.1.2 _ _ _ _ (by first | exact nMRp rfl | (unfold MRp; omega))).trans sn) (h.2.2.1)).le (Nat.le_of_ble_eq_true rfl) (fun v σ2 ⟨y, h1, h2, h3, h4⟩ => ⟨y, h1, h2, h.1.tr h3 (fun _ _ _ _ h => h), gf_mk (fun z => eqn F z (Int.toNat n)) (funext fun j => h3.2 _ _ _ _ (by first | exact nMRp rfl | (unfold MRp; omega))) (h.2.2.1), h4.1, trivial⟩)) (pc' := 37) rfl (fun y18 => ?_)
        refine G_ex (fun hy18 => ?_)
        refine T_if_eq zk_54_37 (by omega) (pc' := 40) rfl (fun h19 => ?_) (fun h20 => ?_)
        ·
          exfalso; omega
        ·
          refine G_learnG (G := fun z => ((y18 = 1 → z = p + 1) ∧ (y18 = 0 → z = p))) (t := 29) (i := 0) (k := 0) (j := 3) (lo := -2147483648) (hi := 2147483647) (J2 := fun y21 => (fun σ' => IF MRp σ σ' ∧ eqn F (σ' 32 0 0) (Int.toNat n) ∧ ((y18 = 1 → σ' 29 0 0 3 = p + 1) ∧ (y18 = 0 → σ' 29 0 0 3 = p)) ∧ σ' 29 0 0 3 = y21 ∧ True)) vd_29 (fun σ' h => h.1.1) (fun _ h => (by have q := h.1; omega)) (fun σ' h => h.2.2.1) (fun σ' y h hy => ⟨h.1, h.2.1, h.2.2.1, hy, trivial⟩) (fun y21 hy21 hy21' gy21 => ?_)
          refine G_know (J' := (fun σ' => IF MRp σ σ' ∧ eqn F (σ' 32 0 0) (Int.toNat n) ∧ σ' 29 0 0 3 = y21 ∧ True)) (fun σ' h => ⟨h.1, h.2.1, h.2.2.2.1, trivial⟩) ?_
          have hv22 : y21 = p + 1 := by omega
          try clear gy21
          refine G_know (J' := (fun σ' => IF MRp σ σ' ∧ eqn F (σ' 32 0 0) (Int.toNat n) ∧ σ' 29 0 0 3 = p + 1 ∧ True)) (fun σ' h => ⟨h.1, h.2.1, (h.2.2.1).trans hv22, trivial⟩) ?_
          have hw4 := (hw0 ()).2.1 ⟨by omega, by omega⟩
          refine T_ld zk_54_40 rfl rfl rfl (pc' := 41) rfl ?_
          refine T_ld zk_54_41 rfl rfl rfl (pc' := 42) rfl ?_
          refine T_op zk_54_42 rfl X_ic (pc' := 43) rfl ?_
          refine T_opc (w := 13) zk_54_43 rfl X_add (by omega) (pc' := 44) rfl ?_
          refine T_calli (K := fun y23 σ' => (y23 = 0 ∨ y23 = 1) ∧ (fun σ' => IF MRp σ σ' ∧ eqn F (σ' 32 0 0) (Int.toNat n) ∧ (((p + 1) ≤ σ' 29 0 0 3 ∧ σ' 29 0 0 3 ≤ n) ∧ (y23 = 1 → RUN F n ((p + 1)) (true :: st) 1 = RUN F n (σ' 29 0 0 3) (true :: st) 0 ∧ ¬ lt F n (σ' 29 0 0 3) = 38 ∧ ¬ lt F n (σ' 29 0 0 3) = 124) ∧ (y23 = 0 → RUN F n ((p + 1)) (true :: st) 1 = σ' 29 0 0 3)) ∧ True) σ') (r := []) zk_54_44 rfl rfl rfl rfl rfl rfl (Or.inr ⟨_, _, _, _, rfl, vd_29, rfl⟩) (fun σ' h => (s_52_13 n (p + 1) F ((true :: st)) (by omega) (by omega) (by omega) (by rw [List.length_cons]; omega) (cls_t st) σ' h.1.1 (h.2.2.1) ((h.1.2 _ _ _ _ (by first | exact nMRp rfl | (unfold MRp; omega))).trans sn) (h.2.1)).le (Nat.le_of_ble_eq_true rfl) (fun v σ2 ⟨y, h1, h2, h3, h4⟩ => ⟨y, h1, h2, h.1.tr h3 (fun _ _ _ _ h => h), gf_mk (fun z => eqn F z (Int.toNat n)) (funext fun j => h3.2 _ _ _ _ (by first | exact nMRp rfl | (unfold MRp; omega))) (h.2.1), h4.1, trivial⟩)) (pc' := 47) rfl (fun y23 => ?_)
          refine G_ex (fun hy23 => ?_)
          refine T_if_eq zk_54_47 (by omega) (pc' := 50) rfl (fun h24 => ?_) (fun h25 => ?_)
          ·
            refine T_op zk_54_63 rfl X_ic (pc' := 64) rfl ?_
            exact T_zret zk_54_64 rfl (by omega) (fun σ' h => ⟨_, rfl, (by omega), h.1, ⟨(by have e := h.2.2.1; omega), trivial⟩⟩)
          ·
            refine G_learnG (G := fun z => (((p + 1) ≤ z ∧ z ≤ n) ∧ (y23 = 1 → RUN F n ((p + 1)) (true :: st) 1 = RUN F n (z) (true :: st) 0 ∧ ¬ lt F n (z) = 38 ∧ ¬ lt F n (z) = 124) ∧ (y23 = 0 → RUN F n ((p + 1)) (true :: st) 1 = z))) (t := 29) (i := 0) (k := 0) (j := 3) (lo := -2147483648) (hi := 2147483647) (J2 := fun y26 => (fun σ' => IF MRp σ σ' ∧ eqn F (σ' 32 0 0) (Int.toNat n) ∧ (((p + 1) ≤ σ' 29 0 0 3 ∧ σ' 29 0 0 3 ≤ n) ∧ (y23 = 1 → RUN F n ((p + 1)) (true :: st) 1 = RUN F n (σ' 29 0 0 3) (true :: st) 0 ∧ ¬ lt F n (σ' 29 0 0 3) = 38 ∧ ¬ lt F n (σ' 29 0 0 3) = 124) ∧ (y23 = 0 → RUN F n ((p + 1)) (true :: st) 1 = σ' 29 0 0 3)) ∧ σ' 29 0 0 3 = y26 ∧ True)) vd_29 (fun σ' h => h.1.1) (fun _ h => (by have q := h.1; omega)) (fun σ' h => h.2.2.1) (fun σ' y h hy => ⟨h.1, h.2.1, h.2.2.1, hy, trivial⟩) (fun y26 hy26 hy26' gy26 => ?_)
            refine G_know (J' := (fun σ' => IF MRp σ σ' ∧ eqn F (σ' 32 0 0) (Int.toNat n) ∧ σ' 29 0 0 3 = y26 ∧ True)) (fun σ' h => ⟨h.1, h.2.1, h.2.2.2.1, trivial⟩) ?_
            obtain ⟨gA, gB, gD⟩ := gy26
            have gC := gB (by omega)
            clear gB gD
            refine T_ld zk_54_50 rfl rfl rfl (pc' := 51) rfl ?_
            refine T_op zk_54_51 rfl (X_bi (v := 41) (by decide)) (pc' := 53) rfl ?_
            refine T_calli (K := fun y27 σ' => ((y27 = 0 ∧ (¬ lt F n (y26) = 41)) ∨ (y27 = 1 ∧ ¬ (¬ lt F n (y26) = 41))) ∧ (fun σ' => IF MRp σ σ' ∧ eqn F (σ' 32 0 0) (Int.toNat n) ∧ ((y27 = 1 → σ' 29 0 0 3 = y26 + 1) ∧ (y27 = 0 → σ' 29 0 0 3 = y26)) ∧ True) σ') (r := []) zk_54_53 rfl rfl rfl rfl rfl rfl (Or.inr ⟨_, _, _, _, rfl, vd_29, rfl⟩) (fun σ' h => (s_50 41 n y26 F (by omega) (by omega) (by omega) σ' h.1.1 (h.2.2.1) ((h.1.2 _ _ _ _ (by first | exact nMRp rfl | (unfold MRp; omega))).trans sn) (h.2.1)).le (Nat.le_of_ble_eq_true rfl) (fun v σ2 ⟨y, h1, h2, h3, h4⟩ => ⟨y, h1, h2, h.1.tr h3 (fun _ _ _ _ h => h), gf_mk (fun z => eqn F z (Int.toNat n)) (funext fun j => h3.2 _ _ _ _ (by first | exact nMRp rfl | (unfold MRp; omega))) (h.2.1), h4.1, trivial⟩)) (pc' := 56) rfl (fun y27 => ?_)
            refine G_ex (fun hy27 => ?_)
            refine T_if_eq zk_54_56 (by omega) (pc' := 59) rfl (fun h28 => ?_) (fun h29 => ?_)
            ·
              refine G_learnG (G := fun z => ((y27 = 1 → z = y26 + 1) ∧ (y27 = 0 → z = y26))) (t := 29) (i := 0) (k := 0) (j := 3) (lo := -2147483648) (hi := 2147483647) (J2 := fun y30 => (fun σ' => IF MRp σ σ' ∧ eqn F (σ' 32 0 0) (Int.toNat n) ∧ ((y27 = 1 → σ' 29 0 0 3 = y26 + 1) ∧ (y27 = 0 → σ' 29 0 0 3 = y26)) ∧ σ' 29 0 0 3 = y30 ∧ True)) vd_29 (fun σ' h => h.1.1) (fun _ h => (by have q := h.1; omega)) (fun σ' h => h.2.2.1) (fun σ' y h hy => ⟨h.1, h.2.1, h.2.2.1, hy, trivial⟩) (fun y30 hy30 hy30' gy30 => ?_)
              refine G_know (J' := (fun σ' => IF MRp σ σ' ∧ eqn F (σ' 32 0 0) (Int.toNat n) ∧ σ' 29 0 0 3 = y30 ∧ True)) (fun σ' h => ⟨h.1, h.2.1, h.2.2.2.1, trivial⟩) ?_
              have hv31 : y30 = y26 := by omega
              try clear gy30
              refine G_know (J' := (fun σ' => IF MRp σ σ' ∧ eqn F (σ' 32 0 0) (Int.toNat n) ∧ σ' 29 0 0 3 = y26 ∧ True)) (fun σ' h => ⟨h.1, h.2.1, (h.2.2.1).trans hv31, trivial⟩) ?_
              have hsh := (R_shut (L := F) (n := n) (p := y26) st (by omega) (by omega)).2 (by omega)
              refine T_op zk_54_63 rfl X_ic (pc' := 64) rfl ?_
              exact T_zret zk_54_64 rfl (by omega) (fun σ' h => ⟨_, rfl, (by omega), h.1, ⟨(by rw [h.2.2.1]; omega), trivial⟩⟩)
            ·
              refine G_learnG (G := fun z => ((y27 = 1 → z = y26 + 1) ∧ (y27 = 0 → z = y26))) (t := 29) (i := 0) (k := 0) (j := 3) (lo := -2147483648) (hi := 2147483647) (J2 := fun y32 => (fun σ' => IF MRp σ σ' ∧ eqn F (σ' 32 0 0) (Int.toNat n) ∧ ((y27 = 1 → σ' 29 0 0 3 = y26 + 1) ∧ (y27 = 0 → σ' 29 0 0 3 = y26)) ∧ σ' 29 0 0 3 = y32 ∧ True)) vd_29 (fun σ' h => h.1.1) (fun _ h => (by have q := h.1; omega)) (fun σ' h => h.2.2.1) (fun σ' y h hy => ⟨h.1, h.2.1, h.2.2.1, hy, trivial⟩) (fun y32 hy32 hy32' gy32 => ?_)
              refine G_know (J' := (fun σ' => IF MRp σ σ' ∧ eqn F (σ' 32 0 0) (Int.toNat n) ∧ σ' 29 0 0 3 = y32 ∧ True)) (fun σ' h => ⟨h.1, h.2.1, h.2.2.2.1, trivial⟩) ?_
              have hv33 : y32 = y26 + 1 := by omega
              try clear gy32
              refine G_know (J' := (fun σ' => IF MRp σ σ' ∧ eqn F (σ' 32 0 0) (Int.toNat n) ∧ σ' 29 0 0 3 = y26 + 1 ∧ True)) (fun σ' h => ⟨h.1, h.2.1, (h.2.2.1).trans hv33, trivial⟩) ?_
              have hin2 := lt_in (L := F) (n := n) (p := y26) (by omega)
              have hsh := (R_shut (L := F) (n := n) (p := y26) st (by omega) (by omega)).1 (by omega)
              rw [hsu] at hsh
              refine T_op zk_54_59 rfl X_ic (pc' := 60) rfl ?_
              refine T_goto zk_54_60 ?_
              exact T_zret zk_54_64 rfl (by omega) (fun σ' h => ⟨_, rfl, (by omega), h.1, ⟨(by rw [h.2.2.1]; omega), trivial⟩⟩)
      · exfalso; omega
    ·
      obtain ⟨ht1, ht2, _⟩ := te_in (L := F) (n := n) (p := p) (by omega) (by omega)
      have hw1 : tk F n p = 1 → RUN F n p st 1 = RUN F n (te F n p) su 0 := fun q => (hw0 ()).2.2.2.1 ⟨by omega, by omega, q⟩
      have hw2 : ¬ tk F n p = 1 → RUN F n p st 1 = te F n p := fun q => (hw0 ()).2.2.2.2 ⟨by omega, by omega, q⟩
      refine T_ld zk_54_18 rfl rfl rfl (pc' := 19) rfl ?_
      refine T_calli (K := fun y34 σ' => ((y34 = 1 ∧ tk F n (p) = 1) ∨ (y34 = 0 ∧ tk F n (p) = 0)) ∧ (fun σ' => IF MRp σ σ' ∧ eqn F (σ' 32 0 0) (Int.toNat n) ∧ σ' 29 0 0 3 = te F n (p) ∧ True) σ') (r := []) zk_54_19 rfl rfl rfl rfl rfl rfl (Or.inr ⟨_, _, _, _, rfl, vd_29, rfl⟩) (fun σ' h => (s_55 n p F (by omega) (by omega) σ' h.1.1 (h.2.1) ((h.1.2 _ _ _ _ (by first | exact nMRp rfl | (unfold MRp; omega))).trans sn) (h.2.2.1)).le (Nat.le_of_ble_eq_true rfl) (fun v σ2 ⟨y, h1, h2, h3, h4⟩ => ⟨y, h1, h2, h.1.tr h3 (fun _ _ _ _ h => h), gf_mk (fun z => eqn F z (Int.toNat n)) (funext fun j => h3.2 _ _ _ _ (by first | exact nMRp rfl | (unfold MRp; omega))) (h.2.2.1), h4.1, trivial⟩)) (pc' := 22) rfl (fun y34 => ?_)
      refine G_ex (fun hy34 => ?_)
      exact T_zret zk_54_22 rfl (by omega) (fun σ' h => ⟨_, rfl, (by omega), h.1, ⟨(by rw [h.2.2.1]; omega), trivial⟩⟩)
/-- W$LawReader.readBoth -/
theorem s_53_12 {xs : Nat × (Nat → Int32)}  (n : Int) (p : Int) (F : Nat → Int) (st : List Bool) (hn : 0 ≤ n ∧ n ≤ 96) (hp : 0 ≤ p ∧ p ≤ 200) (hpn : p ≤ n) (hln : (st.length : Int) = 12) (hcl : cls st = st) (σ : ZS) (hI : Inv σ)  (sp : σ 29 0 0 3 = p) (sn : σ 29 0 0 2 = n) (sl : eqn F (σ 32 0 0) (Int.toNat n)) : CT xs 29 53 [av 29 0 0, iv 12] σ (fun v σ' => ∃ y, v = some (iv y) ∧ (y = 0 ∨ y = 1) ∧ IF MRp σ σ' ∧ (((p ≤ σ' 29 0 0 3 ∧ σ' 29 0 0 3 ≤ n) ∧ (y = 1 → RUN F n (p) st 1 = RUN F n (σ' 29 0 0 3) st 0 ∧ ¬ lt F n (σ' 29 0 0 3) = 38) ∧ (y = 0 → RUN F n (p) st 1 = σ' 29 0 0 3)) ∧ True)) := by
  refine G_ct (J := (fun σ' => IF MRp σ σ' ∧ σ' 29 0 0 3 = p ∧ eqn F (σ' 32 0 0) (Int.toNat n) ∧ True)) (L := [(0, av 29 0 0), (1, iv 12)]) (nL := 4) rfl rfl rfl ⟨IF.rf hI, sp, sl, trivial⟩ ?_
  refine T_ld zk_53_0 rfl rfl rfl (pc' := 1) rfl ?_
  refine T_ld zk_53_1 rfl rfl rfl (pc' := 2) rfl ?_
  refine T_calli (K := fun y1 σ' => (y1 = 0 ∨ y1 = 1) ∧ (fun σ' => IF MRp σ σ' ∧ eqn F (σ' 32 0 0) (Int.toNat n) ∧ ((p ≤ σ' 29 0 0 3 ∧ σ' 29 0 0 3 ≤ n) ∧ (y1 = 1 → RUN F n (p) st 1 = RUN F n (σ' 29 0 0 3) st 0) ∧ (y1 = 0 → RUN F n (p) st 1 = σ' 29 0 0 3)) ∧ True) σ') (r := []) zk_53_2 rfl rfl rfl rfl rfl rfl (Or.inr ⟨_, _, _, _, rfl, vd_29, rfl⟩) (fun σ' h => (s_54_12 n p F st st (by omega) (by omega) (by omega) hln hcl σ' h.1.1 (h.2.1) ((h.1.2 _ _ _ _ (by first | exact nMRp rfl | (unfold MRp; omega))).trans sn) (h.2.2.1)).le (Nat.le_of_ble_eq_true rfl) (fun v σ2 ⟨y, h1, h2, h3, h4⟩ => ⟨y, h1, h2, h.1.tr h3 (fun _ _ _ _ h => h), gf_mk (fun z => eqn F z (Int.toNat n)) (funext fun j => h3.2 _ _ _ _ (by first | exact nMRp rfl | (unfold MRp; omega))) (h.2.2.1), h4.1, trivial⟩)) (pc' := 5) rfl (fun y1 => ?_)
  refine G_ex (fun hy1 => ?_)
  refine T_st (L' := [(0, av 29 0 0), (1, iv 12), (2, iv y1)]) zk_53_5 (nL := 4) rfl rfl rfl rfl rfl (pc' := 6) rfl ?_
  refine T_op zk_53_6 rfl X_ic (pc' := 7) rfl ?_
  refine T_st (L' := [(0, av 29 0 0), (1, iv 12), (2, iv y1), (3, iv 0)]) zk_53_7 (nL := 4) rfl rfl rfl rfl rfl (pc' := 8) rfl ?_
  refine G_know (J' := (fun σ' => IF MRp σ σ' ∧ eqn F (σ' 32 0 0) (Int.toNat n) ∧ (0 ≤ σ' 29 0 0 3 ∧ p ≤ σ' 29 0 0 3 ∧ σ' 29 0 0 3 ≤ n ∧ (y1 = 1 → RUN F n (p) st 1 = RUN F n (σ' 29 0 0 3) st 0) ∧ (y1 = 0 → RUN F n (p) st 1 = σ' 29 0 0 3)) ∧ True)) (fun σ' h => ⟨h.1, h.2.1, (by have e := h.2.2.1; omega), trivial⟩) ?_
  refine T_loop2 (fun x2 x3 => ((96 - x3 : Int)).toNat) (fun x2 x3 => (0 ≤ x2 ∧ x2 ≤ 1) ∧ (0 ≤ x3 ∧ x3 ≤ 96)) (fun x2 x3 => TJ xs (fun σ' => IF MRp σ σ' ∧ eqn F (σ' 32 0 0) (Int.toNat n) ∧ (x3 ≤ σ' 29 0 0 3 ∧ p ≤ σ' 29 0 0 3 ∧ σ' 29 0 0 3 ≤ n ∧ (x2 = 1 → RUN F n (p) st 1 = RUN F n (σ' 29 0 0 3) st 0) ∧ (x2 = 0 → RUN F n (p) st 1 = σ' 29 0 0 3)) ∧ True) 28 53 8 [(0, av 29 0 0), (1, iv 12), (2, iv x2), (3, iv x3)] [] _) ?_ y1 0 (by omega)
  intro x2 x3 hp5 ih4
  refine T_ld zk_53_8 rfl rfl rfl (pc' := 9) rfl ?_
  refine T_op zk_53_9 rfl (X_bi (v := 96) (by decide)) (pc' := 11) rfl ?_
  refine T_icmp_ge zk_53_11 (by omega) (by omega) (pc' := 14) rfl (fun h6 => ?_) (fun h7 => ?_)
  ·
    refine G_learnG (G := fun z => (x3 ≤ z ∧ p ≤ z ∧ z ≤ n ∧ (x2 = 1 → RUN F n (p) st 1 = RUN F n (z) st 0) ∧ (x2 = 0 → RUN F n (p) st 1 = z))) (t := 29) (i := 0) (k := 0) (j := 3) (lo := -2147483648) (hi := 2147483647) (J2 := fun y8 => (fun σ' => IF MRp σ σ' ∧ eqn F (σ' 32 0 0) (Int.toNat n) ∧ (x3 ≤ σ' 29 0 0 3 ∧ p ≤ σ' 29 0 0 3 ∧ σ' 29 0 0 3 ≤ n ∧ (x2 = 1 → RUN F n (p) st 1 = RUN F n (σ' 29 0 0 3) st 0) ∧ (x2 = 0 → RUN F n (p) st 1 = σ' 29 0 0 3)) ∧ σ' 29 0 0 3 = y8 ∧ True)) vd_29 (fun σ' h => h.1.1) (fun _ h => (by have q := h.1; omega)) (fun σ' h => h.2.2.1) (fun σ' y h hy => ⟨h.1, h.2.1, h.2.2.1, hy, trivial⟩) (fun y8 hy8 hy8' gy8 => ?_)
    refine G_know (J' := (fun σ' => IF MRp σ σ' ∧ eqn F (σ' 32 0 0) (Int.toNat n) ∧ σ' 29 0 0 3 = y8 ∧ True)) (fun σ' h => ⟨h.1, h.2.1, h.2.2.2.1, trivial⟩) ?_
    have hly8 := lt_spec F n y8
    refine T_ld zk_53_48 rfl rfl rfl (pc' := 49) rfl ?_
    exact T_zret zk_53_49 rfl (by omega) (fun σ' h => ⟨_, rfl, (by omega), h.1, ⟨(by rw [h.2.2.1]; omega), trivial⟩⟩)
  ·
    refine T_ld zk_53_14 rfl rfl rfl (pc' := 15) rfl ?_
    refine T_if_eq zk_53_15 (by omega) (pc' := 18) rfl (fun h9 => ?_) (fun h10 => ?_)
    ·
      refine G_learnG (G := fun z => (x3 ≤ z ∧ p ≤ z ∧ z ≤ n ∧ (x2 = 1 → RUN F n (p) st 1 = RUN F n (z) st 0) ∧ (x2 = 0 → RUN F n (p) st 1 = z))) (t := 29) (i := 0) (k := 0) (j := 3) (lo := -2147483648) (hi := 2147483647) (J2 := fun y11 => (fun σ' => IF MRp σ σ' ∧ eqn F (σ' 32 0 0) (Int.toNat n) ∧ (x3 ≤ σ' 29 0 0 3 ∧ p ≤ σ' 29 0 0 3 ∧ σ' 29 0 0 3 ≤ n ∧ (x2 = 1 → RUN F n (p) st 1 = RUN F n (σ' 29 0 0 3) st 0) ∧ (x2 = 0 → RUN F n (p) st 1 = σ' 29 0 0 3)) ∧ σ' 29 0 0 3 = y11 ∧ True)) vd_29 (fun σ' h => h.1.1) (fun _ h => (by have q := h.1; omega)) (fun σ' h => h.2.2.1) (fun σ' y h hy => ⟨h.1, h.2.1, h.2.2.1, hy, trivial⟩) (fun y11 hy11 hy11' gy11 => ?_)
      refine G_know (J' := (fun σ' => IF MRp σ σ' ∧ eqn F (σ' 32 0 0) (Int.toNat n) ∧ σ' 29 0 0 3 = y11 ∧ True)) (fun σ' h => ⟨h.1, h.2.1, h.2.2.2.1, trivial⟩) ?_
      have hly11 := lt_spec F n y11
      refine T_ld zk_53_48 rfl rfl rfl (pc' := 49) rfl ?_
      exact T_zret zk_53_49 rfl (by omega) (fun σ' h => ⟨_, rfl, (by omega), h.1, ⟨(by rw [h.2.2.1]; omega), trivial⟩⟩)
    ·
      refine G_learnG (G := fun z => (x3 ≤ z ∧ p ≤ z ∧ z ≤ n ∧ (x2 = 1 → RUN F n (p) st 1 = RUN F n (z) st 0) ∧ (x2 = 0 → RUN F n (p) st 1 = z))) (t := 29) (i := 0) (k := 0) (j := 3) (lo := -2147483648) (hi := 2147483647) (J2 := fun y12 => (fun σ' => IF MRp σ σ' ∧ eqn F (σ' 32 0 0) (Int.toNat n) ∧ (x3 ≤ σ' 29 0 0 3 ∧ p ≤ σ' 29 0 0 3 ∧ σ' 29 0 0 3 ≤ n ∧ (x2 = 1 → RUN F n (p) st 1 = RUN F n (σ' 29 0 0 3) st 0) ∧ (x2 = 0 → RUN F n (p) st 1 = σ' 29 0 0 3)) ∧ σ' 29 0 0 3 = y12 ∧ True)) vd_29 (fun σ' h => h.1.1) (fun _ h => (by have q := h.1; omega)) (fun σ' h => h.2.2.1) (fun σ' y h hy => ⟨h.1, h.2.1, h.2.2.1, hy, trivial⟩) (fun y12 hy12 hy12' gy12 => ?_)
      refine G_know (J' := (fun σ' => IF MRp σ σ' ∧ eqn F (σ' 32 0 0) (Int.toNat n) ∧ σ' 29 0 0 3 = y12 ∧ True)) (fun σ' h => ⟨h.1, h.2.1, h.2.2.2.1, trivial⟩) ?_
      obtain ⟨gA, gB, gC, gD, gE⟩ := gy12
      have gF := gD (by omega)
      clear gD gE
      refine T_ld zk_53_18 rfl rfl rfl (pc' := 19) rfl ?_
      refine T_op zk_53_19 rfl (X_bi (v := 38) (by decide)) (pc' := 21) rfl ?_
      refine T_calli (K := fun y13 σ' => ((y13 = 0 ∧ (¬ lt F n (y12) = 38)) ∨ (y13 = 1 ∧ ¬ (¬ lt F n (y12) = 38))) ∧ (fun σ' => IF MRp σ σ' ∧ eqn F (σ' 32 0 0) (Int.toNat n) ∧ ((y13 = 1 → σ' 29 0 0 3 = y12 + 1) ∧ (y13 = 0 → σ' 29 0 0 3 = y12)) ∧ True) σ') (r := []) zk_53_21 rfl rfl rfl rfl rfl rfl (Or.inr ⟨_, _, _, _, rfl, vd_29, rfl⟩) (fun σ' h => (s_50 38 n y12 F (by omega) (by omega) (by omega) σ' h.1.1 (h.2.2.1) ((h.1.2 _ _ _ _ (by first | exact nMRp rfl | (unfold MRp; omega))).trans sn) (h.2.1)).le (Nat.le_of_ble_eq_true rfl) (fun v σ2 ⟨y, h1, h2, h3, h4⟩ => ⟨y, h1, h2, h.1.tr h3 (fun _ _ _ _ h => h), gf_mk (fun z => eqn F z (Int.toNat n)) (funext fun j => h3.2 _ _ _ _ (by first | exact nMRp rfl | (unfold MRp; omega))) (h.2.1), h4.1, trivial⟩)) (pc' := 24) rfl (fun y13 => ?_)
      refine G_ex (fun hy13 => ?_)
      refine T_if_eq zk_53_24 (by omega) (pc' := 27) rfl (fun h14 => ?_) (fun h15 => ?_)
      ·
        refine G_learnG (G := fun z => ((y13 = 1 → z = y12 + 1) ∧ (y13 = 0 → z = y12))) (t := 29) (i := 0) (k := 0) (j := 3) (lo := -2147483648) (hi := 2147483647) (J2 := fun y16 => (fun σ' => IF MRp σ σ' ∧ eqn F (σ' 32 0 0) (Int.toNat n) ∧ ((y13 = 1 → σ' 29 0 0 3 = y12 + 1) ∧ (y13 = 0 → σ' 29 0 0 3 = y12)) ∧ σ' 29 0 0 3 = y16 ∧ True)) vd_29 (fun σ' h => h.1.1) (fun _ h => (by have q := h.1; omega)) (fun σ' h => h.2.2.1) (fun σ' y h hy => ⟨h.1, h.2.1, h.2.2.1, hy, trivial⟩) (fun y16 hy16 hy16' gy16 => ?_)
        refine G_know (J' := (fun σ' => IF MRp σ σ' ∧ eqn F (σ' 32 0 0) (Int.toNat n) ∧ σ' 29 0 0 3 = y16 ∧ True)) (fun σ' h => ⟨h.1, h.2.1, h.2.2.2.1, trivial⟩) ?_
        have hv17 : y16 = y12 := by omega
        try clear gy16
        refine G_know (J' := (fun σ' => IF MRp σ σ' ∧ eqn F (σ' 32 0 0) (Int.toNat n) ∧ σ' 29 0 0 3 = y12 ∧ True)) (fun σ' h => ⟨h.1, h.2.1, (h.2.2.1).trans hv17, trivial⟩) ?_
        refine T_ld zk_53_48 rfl rfl rfl (pc' := 49) rfl ?_
        exact T_zret zk_53_49 rfl (by omega) (fun σ' h => ⟨_, rfl, (by omega), h.1, ⟨(by rw [h.2.2.1]; omega), trivial⟩⟩)
      ·
        refine G_learnG (G := fun z => ((y13 = 1 → z = y12 + 1) ∧ (y13 = 0 → z = y12))) (t := 29) (i := 0) (k := 0) (j := 3) (lo := -2147483648) (hi := 2147483647) (J2 := fun y18 => (fun σ' => IF MRp σ σ' ∧ eqn F (σ' 32 0 0) (Int.toNat n) ∧ ((y13 = 1 → σ' 29 0 0 3 = y12 + 1) ∧ (y13 = 0 → σ' 29 0 0 3 = y12)) ∧ σ' 29 0 0 3 = y18 ∧ True)) vd_29 (fun σ' h => h.1.1) (fun _ h => (by have q := h.1; omega)) (fun σ' h => h.2.2.1) (fun σ' y h hy => ⟨h.1, h.2.1, h.2.2.1, hy, trivial⟩) (fun y18 hy18 hy18' gy18 => ?_)
        refine G_know (J' := (fun σ' => IF MRp σ σ' ∧ eqn F (σ' 32 0 0) (Int.toNat n) ∧ σ' 29 0 0 3 = y18 ∧ True)) (fun σ' h => ⟨h.1, h.2.1, h.2.2.2.1, trivial⟩) ?_
        have hv19 : y18 = y12 + 1 := by omega
        try clear gy18
        refine G_know (J' := (fun σ' => IF MRp σ σ' ∧ eqn F (σ' 32 0 0) (Int.toNat n) ∧ σ' 29 0 0 3 = y12 + 1 ∧ True)) (fun σ' h => ⟨h.1, h.2.1, (h.2.2.1).trans hv19, trivial⟩) ?_
        have hin := lt_in (L := F) (n := n) (p := y12) (by omega)
        have hs := R_sign (L := F) (n := n) (p := y12) st (by omega) (by omega) (by omega)
        refine T_ld zk_53_27 rfl rfl rfl (pc' := 28) rfl ?_
        refine T_ld zk_53_28 rfl rfl rfl (pc' := 29) rfl ?_
        refine T_calli (K := fun y20 σ' => (y20 = 0 ∨ y20 = 1) ∧ (fun σ' => IF MRp σ σ' ∧ eqn F (σ' 32 0 0) (Int.toNat n) ∧ (((y12 + 1) ≤ σ' 29 0 0 3 ∧ σ' 29 0 0 3 ≤ n) ∧ (y20 = 1 → RUN F n ((y12 + 1)) st 1 = RUN F n (σ' 29 0 0 3) st 0) ∧ (y20 = 0 → RUN F n ((y12 + 1)) st 1 = σ' 29 0 0 3)) ∧ True) σ') (r := []) zk_53_29 rfl rfl rfl rfl rfl rfl (Or.inr ⟨_, _, _, _, rfl, vd_29, rfl⟩) (fun σ' h => (s_54_12 n (y12 + 1) F st st (by omega) (by omega) (by omega) hln hcl σ' h.1.1 (h.2.2.1) ((h.1.2 _ _ _ _ (by first | exact nMRp rfl | (unfold MRp; omega))).trans sn) (h.2.1)).le (Nat.le_of_ble_eq_true rfl) (fun v σ2 ⟨y, h1, h2, h3, h4⟩ => ⟨y, h1, h2, h.1.tr h3 (fun _ _ _ _ h => h), gf_mk (fun z => eqn F z (Int.toNat n)) (funext fun j => h3.2 _ _ _ _ (by first | exact nMRp rfl | (unfold MRp; omega))) (h.2.1), h4.1, trivial⟩)) (pc' := 32) rfl (fun y20 => ?_)
        refine G_ex (fun hy20 => ?_)
        refine T_st (L' := [(0, av 29 0 0), (1, iv 12), (2, iv y20), (3, iv x3)]) zk_53_32 (nL := 4) rfl rfl rfl rfl rfl (pc' := 33) rfl ?_
        refine T_ld zk_53_33 rfl rfl rfl (pc' := 34) rfl ?_
        refine T_getR (t' := 30) (i' := 0) (k' := 0) zk_53_34 rfl rfl rfl vd_29 (pc' := 37) rfl ?_
        refine T_op zk_53_37 rfl (X_bi (v := -2) (by decide)) (pc' := 39) rfl ?_
        refine T_callv (J' := (fun σ' => IF MRp σ σ' ∧ eqn F (σ' 32 0 0) (Int.toNat n) ∧ (((y12 + 1) ≤ σ' 29 0 0 3 ∧ σ' 29 0 0 3 ≤ n) ∧ (y20 = 1 → RUN F n ((y12 + 1)) st 1 = RUN F n (σ' 29 0 0 3) st 0) ∧ (y20 = 0 → RUN F n ((y12 + 1)) st 1 = σ' 29 0 0 3)) ∧ True)) (r := []) zk_53_39 rfl rfl rfl rfl rfl rfl (Or.inr ⟨_, _, _, _, rfl, vd_30, rfl⟩) (fun σ' h => (s_42 ((-2)) (by omega) σ' h.1.1 ).le (Nat.le_of_ble_eq_true rfl) (fun v σ2 ⟨h1, h3, h4⟩ => ⟨h1, h.1.tr h3 sb79v_2c1b94d, gf_mk (fun z => eqn F z (Int.toNat n)) (funext fun j => h3.2 _ _ _ _ (by first | exact nMRq rfl | (unfold MRq; omega))) (h.2.1), gh_mk (fun z => ((y12 + 1) ≤ z ∧ z ≤ n) ∧ (y20 = 1 → RUN F n ((y12 + 1)) st 1 = RUN F n (z) st 0) ∧ (y20 = 0 → RUN F n ((y12 + 1)) st 1 = z)) (h3.2 _ _ _ _ (by first | exact nMRq rfl | (unfold MRq; omega))) (h.2.2.1), trivial⟩)) (pc' := 42) rfl ?_
        refine T_iinc (L' := [(0, av 29 0 0), (1, iv 12), (2, iv y20), (3, iv (x3 + 1))]) zk_53_42 (nL := 4) rfl rfl rfl rfl (pc' := 45) rfl ?_
        refine T_goto zk_53_45 ?_
        refine G_know (J' := (fun σ' => IF MRp σ σ' ∧ eqn F (σ' 32 0 0) (Int.toNat n) ∧ ((x3 + 1) ≤ σ' 29 0 0 3 ∧ p ≤ σ' 29 0 0 3 ∧ σ' 29 0 0 3 ≤ n ∧ (y20 = 1 → RUN F n (p) st 1 = RUN F n (σ' 29 0 0 3) st 0) ∧ (y20 = 0 → RUN F n (p) st 1 = σ' 29 0 0 3)) ∧ True)) (fun σ' h => ⟨h.1, h.2.1, (by have e := h.2.2.1; omega), trivial⟩) ?_
        exact ih4 y20 (x3 + 1) (by omega) (by omega)
/-- W$LawReader.readEither -/
theorem s_52_12 {xs : Nat × (Nat → Int32)}  (n : Int) (p : Int) (F : Nat → Int) (st : List Bool) (hn : 0 ≤ n ∧ n ≤ 96) (hp : 0 ≤ p ∧ p ≤ 200) (hpn : p ≤ n) (hln : (st.length : Int) = 12) (hcl : cls st = st) (σ : ZS) (hI : Inv σ)  (sp : σ 29 0 0 3 = p) (sn : σ 29 0 0 2 = n) (sl : eqn F (σ 32 0 0) (Int.toNat n)) : CT xs 30 52 [av 29 0 0, iv 12] σ (fun v σ' => ∃ y, v = some (iv y) ∧ (y = 0 ∨ y = 1) ∧ IF MRp σ σ' ∧ (((p ≤ σ' 29 0 0 3 ∧ σ' 29 0 0 3 ≤ n) ∧ (y = 1 → RUN F n (p) st 1 = RUN F n (σ' 29 0 0 3) st 0 ∧ ¬ lt F n (σ' 29 0 0 3) = 38 ∧ ¬ lt F n (σ' 29 0 0 3) = 124) ∧ (y = 0 → RUN F n (p) st 1 = σ' 29 0 0 3)) ∧ True)) := by
  refine G_ct (J := (fun σ' => IF MRp σ σ' ∧ σ' 29 0 0 3 = p ∧ eqn F (σ' 32 0 0) (Int.toNat n) ∧ True)) (L := [(0, av 29 0 0), (1, iv 12)]) (nL := 4) rfl rfl rfl ⟨IF.rf hI, sp, sl, trivial⟩ ?_
  refine T_ld zk_52_0 rfl rfl rfl (pc' := 1) rfl ?_
  refine T_ld zk_52_1 rfl rfl rfl (pc' := 2) rfl ?_
  refine T_calli (K := fun y1 σ' => (y1 = 0 ∨ y1 = 1) ∧ (fun σ' => IF MRp σ σ' ∧ eqn F (σ' 32 0 0) (Int.toNat n) ∧ ((p ≤ σ' 29 0 0 3 ∧ σ' 29 0 0 3 ≤ n) ∧ (y1 = 1 → RUN F n (p) st 1 = RUN F n (σ' 29 0 0 3) st 0 ∧ ¬ lt F n (σ' 29 0 0 3) = 38) ∧ (y1 = 0 → RUN F n (p) st 1 = σ' 29 0 0 3)) ∧ True) σ') (r := []) zk_52_2 rfl rfl rfl rfl rfl rfl (Or.inr ⟨_, _, _, _, rfl, vd_29, rfl⟩) (fun σ' h => (s_53_12 n p F st (by omega) (by omega) (by omega) hln hcl σ' h.1.1 (h.2.1) ((h.1.2 _ _ _ _ (by first | exact nMRp rfl | (unfold MRp; omega))).trans sn) (h.2.2.1)).le (Nat.le_of_ble_eq_true rfl) (fun v σ2 ⟨y, h1, h2, h3, h4⟩ => ⟨y, h1, h2, h.1.tr h3 (fun _ _ _ _ h => h), gf_mk (fun z => eqn F z (Int.toNat n)) (funext fun j => h3.2 _ _ _ _ (by first | exact nMRp rfl | (unfold MRp; omega))) (h.2.2.1), h4.1, trivial⟩)) (pc' := 5) rfl (fun y1 => ?_)
  refine G_ex (fun hy1 => ?_)
  refine T_st (L' := [(0, av 29 0 0), (1, iv 12), (2, iv y1)]) zk_52_5 (nL := 4) rfl rfl rfl rfl rfl (pc' := 6) rfl ?_
  refine T_op zk_52_6 rfl X_ic (pc' := 7) rfl ?_
  refine T_st (L' := [(0, av 29 0 0), (1, iv 12), (2, iv y1), (3, iv 0)]) zk_52_7 (nL := 4) rfl rfl rfl rfl rfl (pc' := 8) rfl ?_
  refine G_know (J' := (fun σ' => IF MRp σ σ' ∧ eqn F (σ' 32 0 0) (Int.toNat n) ∧ (0 ≤ σ' 29 0 0 3 ∧ p ≤ σ' 29 0 0 3 ∧ σ' 29 0 0 3 ≤ n ∧ (y1 = 1 → RUN F n (p) st 1 = RUN F n (σ' 29 0 0 3) st 0 ∧ ¬ lt F n (σ' 29 0 0 3) = 38) ∧ (y1 = 0 → RUN F n (p) st 1 = σ' 29 0 0 3)) ∧ True)) (fun σ' h => ⟨h.1, h.2.1, (by have e := h.2.2.1; omega), trivial⟩) ?_
  refine T_loop2 (fun x2 x3 => ((96 - x3 : Int)).toNat) (fun x2 x3 => (0 ≤ x2 ∧ x2 ≤ 1) ∧ (0 ≤ x3 ∧ x3 ≤ 96)) (fun x2 x3 => TJ xs (fun σ' => IF MRp σ σ' ∧ eqn F (σ' 32 0 0) (Int.toNat n) ∧ (x3 ≤ σ' 29 0 0 3 ∧ p ≤ σ' 29 0 0 3 ∧ σ' 29 0 0 3 ≤ n ∧ (x2 = 1 → RUN F n (p) st 1 = RUN F n (σ' 29 0 0 3) st 0 ∧ ¬ lt F n (σ' 29 0 0 3) = 38) ∧ (x2 = 0 → RUN F n (p) st 1 = σ' 29 0 0 3)) ∧ True) 29 52 8 [(0, av 29 0 0), (1, iv 12), (2, iv x2), (3, iv x3)] [] _) ?_ y1 0 (by omega)
  intro x2 x3 hp5 ih4
  refine T_ld zk_52_8 rfl rfl rfl (pc' := 9) rfl ?_
  refine T_op zk_52_9 rfl (X_bi (v := 96) (by decide)) (pc' := 11) rfl ?_
  refine T_icmp_ge zk_52_11 (by omega) (by omega) (pc' := 14) rfl (fun h6 => ?_) (fun h7 => ?_)
  ·
    refine G_learnG (G := fun z => (x3 ≤ z ∧ p ≤ z ∧ z ≤ n ∧ (x2 = 1 → RUN F n (p) st 1 = RUN F n (z) st 0 ∧ ¬ lt F n (z) = 38) ∧ (x2 = 0 → RUN F n (p) st 1 = z))) (t := 29) (i := 0) (k := 0) (j := 3) (lo := -2147483648) (hi := 2147483647) (J2 := fun y8 => (fun σ' => IF MRp σ σ' ∧ eqn F (σ' 32 0 0) (Int.toNat n) ∧ (x3 ≤ σ' 29 0 0 3 ∧ p ≤ σ' 29 0 0 3 ∧ σ' 29 0 0 3 ≤ n ∧ (x2 = 1 → RUN F n (p) st 1 = RUN F n (σ' 29 0 0 3) st 0 ∧ ¬ lt F n (σ' 29 0 0 3) = 38) ∧ (x2 = 0 → RUN F n (p) st 1 = σ' 29 0 0 3)) ∧ σ' 29 0 0 3 = y8 ∧ True)) vd_29 (fun σ' h => h.1.1) (fun _ h => (by have q := h.1; omega)) (fun σ' h => h.2.2.1) (fun σ' y h hy => ⟨h.1, h.2.1, h.2.2.1, hy, trivial⟩) (fun y8 hy8 hy8' gy8 => ?_)
    refine G_know (J' := (fun σ' => IF MRp σ σ' ∧ eqn F (σ' 32 0 0) (Int.toNat n) ∧ σ' 29 0 0 3 = y8 ∧ True)) (fun σ' h => ⟨h.1, h.2.1, h.2.2.2.1, trivial⟩) ?_
    have hly8 := lt_spec F n y8
    refine T_ld zk_52_48 rfl rfl rfl (pc' := 49) rfl ?_
    exact T_zret zk_52_49 rfl (by omega) (fun σ' h => ⟨_, rfl, (by omega), h.1, ⟨(by rw [h.2.2.1]; omega), trivial⟩⟩)
  ·
    refine T_ld zk_52_14 rfl rfl rfl (pc' := 15) rfl ?_
    refine T_if_eq zk_52_15 (by omega) (pc' := 18) rfl (fun h9 => ?_) (fun h10 => ?_)
    ·
      refine G_learnG (G := fun z => (x3 ≤ z ∧ p ≤ z ∧ z ≤ n ∧ (x2 = 1 → RUN F n (p) st 1 = RUN F n (z) st 0 ∧ ¬ lt F n (z) = 38) ∧ (x2 = 0 → RUN F n (p) st 1 = z))) (t := 29) (i := 0) (k := 0) (j := 3) (lo := -2147483648) (hi := 2147483647) (J2 := fun y11 => (fun σ' => IF MRp σ σ' ∧ eqn F (σ' 32 0 0) (Int.toNat n) ∧ (x3 ≤ σ' 29 0 0 3 ∧ p ≤ σ' 29 0 0 3 ∧ σ' 29 0 0 3 ≤ n ∧ (x2 = 1 → RUN F n (p) st 1 = RUN F n (σ' 29 0 0 3) st 0 ∧ ¬ lt F n (σ' 29 0 0 3) = 38) ∧ (x2 = 0 → RUN F n (p) st 1 = σ' 29 0 0 3)) ∧ σ' 29 0 0 3 = y11 ∧ True)) vd_29 (fun σ' h => h.1.1) (fun _ h => (by have q := h.1; omega)) (fun σ' h => h.2.2.1) (fun σ' y h hy => ⟨h.1, h.2.1, h.2.2.1, hy, trivial⟩) (fun y11 hy11 hy11' gy11 => ?_)
      refine G_know (J' := (fun σ' => IF MRp σ σ' ∧ eqn F (σ' 32 0 0) (Int.toNat n) ∧ σ' 29 0 0 3 = y11 ∧ True)) (fun σ' h => ⟨h.1, h.2.1, h.2.2.2.1, trivial⟩) ?_
      have hly11 := lt_spec F n y11
      refine T_ld zk_52_48 rfl rfl rfl (pc' := 49) rfl ?_
      exact T_zret zk_52_49 rfl (by omega) (fun σ' h => ⟨_, rfl, (by omega), h.1, ⟨(by rw [h.2.2.1]; omega), trivial⟩⟩)
    ·
      refine G_learnG (G := fun z => (x3 ≤ z ∧ p ≤ z ∧ z ≤ n ∧ (x2 = 1 → RUN F n (p) st 1 = RUN F n (z) st 0 ∧ ¬ lt F n (z) = 38) ∧ (x2 = 0 → RUN F n (p) st 1 = z))) (t := 29) (i := 0) (k := 0) (j := 3) (lo := -2147483648) (hi := 2147483647) (J2 := fun y12 => (fun σ' => IF MRp σ σ' ∧ eqn F (σ' 32 0 0) (Int.toNat n) ∧ (x3 ≤ σ' 29 0 0 3 ∧ p ≤ σ' 29 0 0 3 ∧ σ' 29 0 0 3 ≤ n ∧ (x2 = 1 → RUN F n (p) st 1 = RUN F n (σ' 29 0 0 3) st 0 ∧ ¬ lt F n (σ' 29 0 0 3) = 38) ∧ (x2 = 0 → RUN F n (p) st 1 = σ' 29 0 0 3)) ∧ σ' 29 0 0 3 = y12 ∧ True)) vd_29 (fun σ' h => h.1.1) (fun _ h => (by have q := h.1; omega)) (fun σ' h => h.2.2.1) (fun σ' y h hy => ⟨h.1, h.2.1, h.2.2.1, hy, trivial⟩) (fun y12 hy12 hy12' gy12 => ?_)
      refine G_know (J' := (fun σ' => IF MRp σ σ' ∧ eqn F (σ' 32 0 0) (Int.toNat n) ∧ σ' 29 0 0 3 = y12 ∧ True)) (fun σ' h => ⟨h.1, h.2.1, h.2.2.2.1, trivial⟩) ?_
      obtain ⟨gA, gB, gC, gD, gE⟩ := gy12
      have gF := gD (by omega)
      clear gD gE
      refine T_ld zk_52_18 rfl rfl rfl (pc' := 19) rfl ?_
      refine T_op zk_52_19 rfl (X_bi (v := 124) (by decide)) (pc' := 21) rfl ?_
      refine T_calli (K := fun y13 σ' => ((y13 = 0 ∧ (¬ lt F n (y12) = 124)) ∨ (y13 = 1 ∧ ¬ (¬ lt F n (y12) = 124))) ∧ (fun σ' => IF MRp σ σ' ∧ eqn F (σ' 32 0 0) (Int.toNat n) ∧ ((y13 = 1 → σ' 29 0 0 3 = y12 + 1) ∧ (y13 = 0 → σ' 29 0 0 3 = y12)) ∧ True) σ') (r := []) zk_52_21 rfl rfl rfl rfl rfl rfl (Or.inr ⟨_, _, _, _, rfl, vd_29, rfl⟩) (fun σ' h => (s_50 124 n y12 F (by omega) (by omega) (by omega) σ' h.1.1 (h.2.2.1) ((h.1.2 _ _ _ _ (by first | exact nMRp rfl | (unfold MRp; omega))).trans sn) (h.2.1)).le (Nat.le_of_ble_eq_true rfl) (fun v σ2 ⟨y, h1, h2, h3, h4⟩ => ⟨y, h1, h2, h.1.tr h3 (fun _ _ _ _ h => h), gf_mk (fun z => eqn F z (Int.toNat n)) (funext fun j => h3.2 _ _ _ _ (by first | exact nMRp rfl | (unfold MRp; omega))) (h.2.1), h4.1, trivial⟩)) (pc' := 24) rfl (fun y13 => ?_)
      refine G_ex (fun hy13 => ?_)
      refine T_if_eq zk_52_24 (by omega) (pc' := 27) rfl (fun h14 => ?_) (fun h15 => ?_)
      ·
        refine G_learnG (G := fun z => ((y13 = 1 → z = y12 + 1) ∧ (y13 = 0 → z = y12))) (t := 29) (i := 0) (k := 0) (j := 3) (lo := -2147483648) (hi := 2147483647) (J2 := fun y16 => (fun σ' => IF MRp σ σ' ∧ eqn F (σ' 32 0 0) (Int.toNat n) ∧ ((y13 = 1 → σ' 29 0 0 3 = y12 + 1) ∧ (y13 = 0 → σ' 29 0 0 3 = y12)) ∧ σ' 29 0 0 3 = y16 ∧ True)) vd_29 (fun σ' h => h.1.1) (fun _ h => (by have q := h.1; omega)) (fun σ' h => h.2.2.1) (fun σ' y h hy => ⟨h.1, h.2.1, h.2.2.1, hy, trivial⟩) (fun y16 hy16 hy16' gy16 => ?_)
        refine G_know (J' := (fun σ' => IF MRp σ σ' ∧ eqn F (σ' 32 0 0) (Int.toNat n) ∧ σ' 29 0 0 3 = y16 ∧ True)) (fun σ' h => ⟨h.1, h.2.1, h.2.2.2.1, trivial⟩) ?_
        have hv17 : y16 = y12 := by omega
        try clear gy16
        refine G_know (J' := (fun σ' => IF MRp σ σ' ∧ eqn F (σ' 32 0 0) (Int.toNat n) ∧ σ' 29 0 0 3 = y12 ∧ True)) (fun σ' h => ⟨h.1, h.2.1, (h.2.2.1).trans hv17, trivial⟩) ?_
        refine T_ld zk_52_48 rfl rfl rfl (pc' := 49) rfl ?_
        exact T_zret zk_52_49 rfl (by omega) (fun σ' h => ⟨_, rfl, (by omega), h.1, ⟨(by rw [h.2.2.1]; omega), trivial⟩⟩)
      ·
        refine G_learnG (G := fun z => ((y13 = 1 → z = y12 + 1) ∧ (y13 = 0 → z = y12))) (t := 29) (i := 0) (k := 0) (j := 3) (lo := -2147483648) (hi := 2147483647) (J2 := fun y18 => (fun σ' => IF MRp σ σ' ∧ eqn F (σ' 32 0 0) (Int.toNat n) ∧ ((y13 = 1 → σ' 29 0 0 3 = y12 + 1) ∧ (y13 = 0 → σ' 29 0 0 3 = y12)) ∧ σ' 29 0 0 3 = y18 ∧ True)) vd_29 (fun σ' h => h.1.1) (fun _ h => (by have q := h.1; omega)) (fun σ' h => h.2.2.1) (fun σ' y h hy => ⟨h.1, h.2.1, h.2.2.1, hy, trivial⟩) (fun y18 hy18 hy18' gy18 => ?_)
        refine G_know (J' := (fun σ' => IF MRp σ σ' ∧ eqn F (σ' 32 0 0) (Int.toNat n) ∧ σ' 29 0 0 3 = y18 ∧ True)) (fun σ' h => ⟨h.1, h.2.1, h.2.2.2.1, trivial⟩) ?_
        have hv19 : y18 = y12 + 1 := by omega
        try clear gy18
        refine G_know (J' := (fun σ' => IF MRp σ σ' ∧ eqn F (σ' 32 0 0) (Int.toNat n) ∧ σ' 29 0 0 3 = y12 + 1 ∧ True)) (fun σ' h => ⟨h.1, h.2.1, (h.2.2.1).trans hv19, trivial⟩) ?_
        have hin := lt_in (L := F) (n := n) (p := y12) (by omega)
        have hs := R_sign (L := F) (n := n) (p := y12) st (by omega) (by omega) (by omega)
        refine T_ld zk_52_27 rfl rfl rfl (pc' := 28) rfl ?_
        refine T_ld zk_52_28 rfl rfl rfl (pc' := 29) rfl ?_
        refine T_calli (K := fun y20 σ' => (y20 = 0 ∨ y20 = 1) ∧ (fun σ' => IF MRp σ σ' ∧ eqn F (σ' 32 0 0) (Int.toNat n) ∧ (((y12 + 1) ≤ σ' 29 0 0 3 ∧ σ' 29 0 0 3 ≤ n) ∧ (y20 = 1 → RUN F n ((y12 + 1)) st 1 = RUN F n (σ' 29 0 0 3) st 0 ∧ ¬ lt F n (σ' 29 0 0 3) = 38) ∧ (y20 = 0 → RUN F n ((y12 + 1)) st 1 = σ' 29 0 0 3)) ∧ True) σ') (r := []) zk_52_29 rfl rfl rfl rfl rfl rfl (Or.inr ⟨_, _, _, _, rfl, vd_29, rfl⟩) (fun σ' h => (s_53_12 n (y12 + 1) F st (by omega) (by omega) (by omega) hln hcl σ' h.1.1 (h.2.2.1) ((h.1.2 _ _ _ _ (by first | exact nMRp rfl | (unfold MRp; omega))).trans sn) (h.2.1)).le (Nat.le_of_ble_eq_true rfl) (fun v σ2 ⟨y, h1, h2, h3, h4⟩ => ⟨y, h1, h2, h.1.tr h3 (fun _ _ _ _ h => h), gf_mk (fun z => eqn F z (Int.toNat n)) (funext fun j => h3.2 _ _ _ _ (by first | exact nMRp rfl | (unfold MRp; omega))) (h.2.1), h4.1, trivial⟩)) (pc' := 32) rfl (fun y20 => ?_)
        refine G_ex (fun hy20 => ?_)
        refine T_st (L' := [(0, av 29 0 0), (1, iv 12), (2, iv y20), (3, iv x3)]) zk_52_32 (nL := 4) rfl rfl rfl rfl rfl (pc' := 33) rfl ?_
        refine T_ld zk_52_33 rfl rfl rfl (pc' := 34) rfl ?_
        refine T_getR (t' := 30) (i' := 0) (k' := 0) zk_52_34 rfl rfl rfl vd_29 (pc' := 37) rfl ?_
        refine T_op zk_52_37 rfl (X_bi (v := -3) (by decide)) (pc' := 39) rfl ?_
        refine T_callv (J' := (fun σ' => IF MRp σ σ' ∧ eqn F (σ' 32 0 0) (Int.toNat n) ∧ (((y12 + 1) ≤ σ' 29 0 0 3 ∧ σ' 29 0 0 3 ≤ n) ∧ (y20 = 1 → RUN F n ((y12 + 1)) st 1 = RUN F n (σ' 29 0 0 3) st 0 ∧ ¬ lt F n (σ' 29 0 0 3) = 38) ∧ (y20 = 0 → RUN F n ((y12 + 1)) st 1 = σ' 29 0 0 3)) ∧ True)) (r := []) zk_52_39 rfl rfl rfl rfl rfl rfl (Or.inr ⟨_, _, _, _, rfl, vd_30, rfl⟩) (fun σ' h => (s_42 ((-3)) (by omega) σ' h.1.1 ).le (Nat.le_of_ble_eq_true rfl) (fun v σ2 ⟨h1, h3, h4⟩ => ⟨h1, h.1.tr h3 sb79v_2c1b94d, gf_mk (fun z => eqn F z (Int.toNat n)) (funext fun j => h3.2 _ _ _ _ (by first | exact nMRq rfl | (unfold MRq; omega))) (h.2.1), gh_mk (fun z => ((y12 + 1) ≤ z ∧ z ≤ n) ∧ (y20 = 1 → RUN F n ((y12 + 1)) st 1 = RUN F n (z) st 0 ∧ ¬ lt F n (z) = 38) ∧ (y20 = 0 → RUN F n ((y12 + 1)) st 1 = z)) (h3.2 _ _ _ _ (by first | exact nMRq rfl | (unfold MRq; omega))) (h.2.2.1), trivial⟩)) (pc' := 42) rfl ?_
        refine T_iinc (L' := [(0, av 29 0 0), (1, iv 12), (2, iv y20), (3, iv (x3 + 1))]) zk_52_42 (nL := 4) rfl rfl rfl rfl (pc' := 45) rfl ?_
        refine T_goto zk_52_45 ?_
        refine G_know (J' := (fun σ' => IF MRp σ σ' ∧ eqn F (σ' 32 0 0) (Int.toNat n) ∧ ((x3 + 1) ≤ σ' 29 0 0 3 ∧ p ≤ σ' 29 0 0 3 ∧ σ' 29 0 0 3 ≤ n ∧ (y20 = 1 → RUN F n (p) st 1 = RUN F n (σ' 29 0 0 3) st 0 ∧ ¬ lt F n (σ' 29 0 0 3) = 38) ∧ (y20 = 0 → RUN F n (p) st 1 = σ' 29 0 0 3)) ∧ True)) (fun σ' h => ⟨h.1, h.2.1, (by have e := h.2.2.1; omega), trivial⟩) ?_
        exact ih4 y20 (x3 + 1) (by omega) (by omega)
