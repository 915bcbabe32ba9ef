def MSw (a : Nat) (t i k j : Nat) : Prop := (t = 33 ∧ k = a) ∨ t = 28
theorem nMSw {a t i k j : Nat} (hb : decide ((t = 33 ∨ t = 28)) = false) : ¬ MSw a t i k j := fun h => of_decide_eq_false hb (by unfold MSw at h; omega)
theorem pMSw {a t i k j : Nat} (hb : decide (t = 28) = true) : MSw a t i k j := by
  have h := of_decide_eq_true hb
  unfold MSw
  omega
/-- why nothing is copied between two shelves, or 0 -/
def cpr (g0 g1 u0 u1 : Int) : Int := if g0 = 2 ∨ u0 = 2 then -2 else if g0 = 0 ∨ u0 = 0 then -3 else if g1 = u1 then 0 else -2
theorem cpr_spec (g0 g1 u0 u1 : Int) : (g0 = 2 ∨ u0 = 2 → cpr g0 g1 u0 u1 = -2) ∧ (¬ g0 = 2 ∧ ¬ u0 = 2 ∧ (g0 = 0 ∨ u0 = 0) → cpr g0 g1 u0 u1 = -3) ∧ (¬ g0 = 2 ∧ ¬ u0 = 2 ∧ ¬ g0 = 0 ∧ ¬ u0 = 0 ∧ g1 = u1 → cpr g0 g1 u0 u1 = 0) ∧ (¬ g0 = 2 ∧ ¬ u0 = 2 ∧ ¬ g0 = 0 ∧ ¬ u0 = 0 ∧ ¬ g1 = u1 → cpr g0 g1 u0 u1 = -2) := by
  unfold cpr
  refine ⟨fun h => if_pos h, fun h => ?_, fun h => ?_, fun h => ?_⟩
  · rw [if_neg (by omega), if_pos h.2.2]
  · rw [if_neg (by omega), if_neg (by omega), if_pos h.2.2.2.2]
  · rw [if_neg (by omega), if_neg (by omega), if_neg h.2.2.2.2]
theorem cpr_rg (g0 g1 u0 u1 : Int) : -3 ≤ cpr g0 g1 u0 u1 ∧ cpr g0 g1 u0 u1 ≤ 0 := by unfold cpr; repeat' (first | omega | split)
/-- W.rowRefusal -/
theorem s_119 {xs : Nat × (Nat → Int32)} (p0 : Int) (u0 : Int) (hp0 : 0 ≤ p0 ∧ p0 ≤ 7) (hu0 : -2147483648 ≤ u0 ∧ u0 ≤ 2147483647) (σ : ZS) (hI : Inv σ)  (s0 : σ 33 0 (Int.toNat p0) 0 = u0) : CT xs 2 119 [av 0 0 0, iv p0] σ (fun v σ' => ∃ y, v = some (iv y) ∧ ((y = -2 ∧ (u0 = 2)) ∨ (y = -3 ∧ ¬ (u0 = 2) ∧ (u0 = 0)) ∨ (y = 0 ∧ ¬ (u0 = 2) ∧ ¬ (u0 = 0))) ∧ IF MN σ σ' ∧ (True)) := by
  refine G_ct (J := (fun σ' => IF MN σ σ' ∧ True)) (L := [(0, av 0 0 0), (1, iv p0)]) (nL := 2) rfl rfl rfl ⟨IF.rf hI, trivial⟩ ?_
  refine T_ld zk_119_0 rfl rfl rfl (pc' := 1) rfl ?_
  refine T_calli (K := fun y1 σ' => ((y1 = 0 ∧ (p0 < 0 ∨ 7 < p0)) ∨ (y1 = 1 ∧ 0 ≤ p0 ∧ p0 ≤ 7)) ∧ (fun σ' => IF MN σ σ' ∧ True) σ') (r := []) zk_119_1 rfl rfl rfl rfl rfl rfl (Or.inl (Or.inl rfl)) (fun σ' h => (w_116 p0 (by omega) σ' h.1.1 ).le (Nat.le_of_ble_eq_true rfl) (fun v σ2 ⟨y, h1, h2, h3, h4⟩ => ⟨y, h1, h2, h.1.tr h3 MN_sub, trivial⟩)) (pc' := 4) rfl (fun y1 => ?_)
  refine G_ex (fun hy1 => ?_)
  refine T_if_ne zk_119_4 (by omega) (pc' := 7) rfl (fun h2 => ?_) (fun h3 => ?_)
  ·
    refine T_ld zk_119_9 rfl rfl rfl (pc' := 10) rfl ?_
    refine T_getR (t' := 27) (i' := 0) (k' := 0) zk_119_10 rfl rfl rfl vd_0 (pc' := 13) rfl ?_
    refine T_ld zk_119_13 rfl rfl rfl (pc' := 14) rfl ?_
    refine G_aald (t' := 33) (im := 0) (i' := 0) (ln := 8) zk_119_14 rfl rfl rfl vd_27 (by omega) (by omega) (by omega) (pc' := 15) rfl ?_
    refine G_getX (w := u0) zk_119_15 rfl (vd_33 (by omega)) (fun σ' h => (h.1.2 _ _ _ _ (fun q => q)).trans s0) (pc' := 18) rfl ?_
    refine T_op zk_119_18 rfl X_ic (pc' := 19) rfl ?_
    refine T_icmp_ne zk_119_19 (by omega) (by omega) (pc' := 22) rfl (fun h4 => ?_) (fun h5 => ?_)
    ·
      refine T_ld zk_119_25 rfl rfl rfl (pc' := 26) rfl ?_
      refine T_getR (t' := 27) (i' := 0) (k' := 0) zk_119_26 rfl rfl rfl vd_0 (pc' := 29) rfl ?_
      refine T_ld zk_119_29 rfl rfl rfl (pc' := 30) rfl ?_
      refine G_aald (t' := 33) (im := 0) (i' := 0) (ln := 8) zk_119_30 rfl rfl rfl vd_27 (by omega) (by omega) (by omega) (pc' := 31) rfl ?_
      refine G_getX (w := u0) zk_119_31 rfl (vd_33 (by omega)) (fun σ' h => (h.1.2 _ _ _ _ (fun q => q)).trans s0) (pc' := 34) rfl ?_
      refine T_if_ne zk_119_34 (by omega) (pc' := 37) rfl (fun h6 => ?_) (fun h7 => ?_)
      ·
        refine T_op zk_119_42 rfl X_ic (pc' := 43) rfl ?_
        exact T_iret zk_119_43 rfl (fun σ' h => ⟨_, rfl, (by omega), h.1, trivial⟩)
      ·
        refine T_op zk_119_37 rfl (X_bi (v := -3) (by decide)) (pc' := 39) rfl ?_
        refine T_goto zk_119_39 ?_
        exact T_iret zk_119_43 rfl (fun σ' h => ⟨_, rfl, (by omega), h.1, trivial⟩)
    ·
      refine T_op zk_119_22 rfl (X_bi (v := -2) (by decide)) (pc' := 24) rfl ?_
      exact T_iret zk_119_24 rfl (fun σ' h => ⟨_, rfl, (by omega), h.1, trivial⟩)
  ·
    refine T_op zk_119_7 rfl X_ic (pc' := 8) rfl ?_
    exact T_iret zk_119_8 rfl (fun σ' h => ⟨_, rfl, (by omega), h.1, trivial⟩)
/-- W.copyRefusal -/
theorem s_120 {xs : Nat × (Nat → Int32)} (p0 : Int) (p1 : Int) (g0 : Int) (g1 : Int) (u0 : Int) (u1 : Int) (hp0 : 0 ≤ p0 ∧ p0 ≤ 7) (hp1 : 0 ≤ p1 ∧ p1 ≤ 7) (hg0 : -2147483648 ≤ g0 ∧ g0 ≤ 2147483647) (hg1 : -2147483648 ≤ g1 ∧ g1 ≤ 2147483647) (hu0 : -2147483648 ≤ u0 ∧ u0 ≤ 2147483647) (hu1 : -2147483648 ≤ u1 ∧ u1 ≤ 2147483647) (σ : ZS) (hI : Inv σ)  (t0 : σ 33 0 (Int.toNat p0) 0 = g0) (t1 : σ 33 0 (Int.toNat p0) 1 = g1) (s0 : σ 33 0 (Int.toNat p1) 0 = u0) (s1 : σ 33 0 (Int.toNat p1) 1 = u1) : CT xs 3 120 [av 0 0 0, iv p0, iv p1] σ (fun v σ' => ∃ y, v = some (iv y) ∧ (y = cpr g0 g1 u0 u1) ∧ IF MN σ σ' ∧ (True)) := by
  refine G_ct (J := (fun σ' => IF MN σ σ' ∧ True)) (L := [(0, av 0 0 0), (1, iv p0), (2, iv p1)]) (nL := 5) rfl rfl rfl ⟨IF.rf hI, trivial⟩ ?_
  have hcp := cpr_spec g0 g1 u0 u1
  refine T_ld zk_120_0 rfl rfl rfl (pc' := 1) rfl ?_
  refine T_ld zk_120_1 rfl rfl rfl (pc' := 2) rfl ?_
  refine T_calli (K := fun y1 σ' => ((y1 = -2 ∧ (g0 = 2)) ∨ (y1 = -3 ∧ ¬ (g0 = 2) ∧ (g0 = 0)) ∨ (y1 = 0 ∧ ¬ (g0 = 2) ∧ ¬ (g0 = 0))) ∧ (fun σ' => IF MN σ σ' ∧ True) σ') (r := []) zk_120_2 rfl rfl rfl rfl rfl rfl (Or.inr ⟨_, _, _, _, rfl, vd_0, rfl⟩) (fun σ' h => (s_119 p0 g0 (by omega) (by omega) σ' h.1.1 ((h.1.2 _ _ _ _ (fun q => q)).trans t0)).le (Nat.le_of_ble_eq_true rfl) (fun v σ2 ⟨y, h1, h2, h3, h4⟩ => ⟨y, h1, h2, h.1.tr h3 MN_sub, trivial⟩)) (pc' := 5) rfl (fun y1 => ?_)
  refine G_ex (fun hy1 => ?_)
  refine T_st (L' := [(0, av 0 0 0), (1, iv p0), (2, iv p1), (3, iv y1)]) zk_120_5 (nL := 5) rfl rfl rfl rfl rfl (pc' := 6) rfl ?_
  refine T_ld zk_120_6 rfl rfl rfl (pc' := 7) rfl ?_
  refine T_ld zk_120_7 rfl rfl rfl (pc' := 8) rfl ?_
  refine T_calli (K := fun y2 σ' => ((y2 = -2 ∧ (u0 = 2)) ∨ (y2 = -3 ∧ ¬ (u0 = 2) ∧ (u0 = 0)) ∨ (y2 = 0 ∧ ¬ (u0 = 2) ∧ ¬ (u0 = 0))) ∧ (fun σ' => IF MN σ σ' ∧ True) σ') (r := []) zk_120_8 rfl rfl rfl rfl rfl rfl (Or.inr ⟨_, _, _, _, rfl, vd_0, rfl⟩) (fun σ' h => (s_119 p1 u0 (by omega) (by omega) σ' h.1.1 ((h.1.2 _ _ _ _ (fun q => q)).trans s0)).le (Nat.le_of_ble_eq_true rfl) (fun v σ2 ⟨y, h1, h2, h3, h4⟩ => ⟨y, h1, h2, h.1.tr h3 MN_sub, trivial⟩)) (pc' := 11) rfl (fun y2 => ?_)
  refine G_ex (fun hy2 => ?_)
  refine T_st (L' := [(0, av 0 0 0), (1, iv p0), (2, iv p1), (3, iv y1), (4, iv y2)]) zk_120_11 (nL := 5) rfl rfl rfl rfl rfl (pc' := 13) rfl ?_
  refine T_ld zk_120_13 rfl rfl rfl (pc' := 14) rfl ?_
  refine T_op zk_120_14 rfl X_ic (pc' := 15) rfl ?_
  refine T_icmp_eq zk_120_15 (by omega) (by omega) (pc' := 18) rfl (fun h3 => ?_) (fun h4 => ?_)
  ·
    refine T_op zk_120_24 rfl X_ic (pc' := 25) rfl ?_
    exact T_iret zk_120_25 rfl (fun σ' h => ⟨_, rfl, (by omega), h.1, trivial⟩)
  ·
    refine T_ld zk_120_18 rfl rfl rfl (pc' := 20) rfl ?_
    refine T_op zk_120_20 rfl X_ic (pc' := 21) rfl ?_
    refine T_icmp_ne zk_120_21 (by omega) (by omega) (pc' := 24) rfl (fun h5 => ?_) (fun h6 => ?_)
    ·
      refine T_ld zk_120_26 rfl rfl rfl (pc' := 27) rfl ?_
      refine T_op zk_120_27 rfl (X_bi (v := -2) (by decide)) (pc' := 29) rfl ?_
      refine T_icmp_eq zk_120_29 (by omega) (by omega) (pc' := 32) rfl (fun h7 => ?_) (fun h8 => ?_)
      ·
        refine T_op zk_120_39 rfl (X_bi (v := -2) (by decide)) (pc' := 41) rfl ?_
        exact T_iret zk_120_41 rfl (fun σ' h => ⟨_, rfl, (by omega), h.1, trivial⟩)
      ·
        refine T_ld zk_120_32 rfl rfl rfl (pc' := 34) rfl ?_
        refine T_op zk_120_34 rfl (X_bi (v := -2) (by decide)) (pc' := 36) rfl ?_
        refine T_icmp_ne zk_120_36 (by omega) (by omega) (pc' := 39) rfl (fun h9 => ?_) (fun h10 => ?_)
        ·
          refine T_ld zk_120_42 rfl rfl rfl (pc' := 43) rfl ?_
          refine T_op zk_120_43 rfl (X_bi (v := -3) (by decide)) (pc' := 45) rfl ?_
          refine T_icmp_eq zk_120_45 (by omega) (by omega) (pc' := 48) rfl (fun h11 => ?_) (fun h12 => ?_)
          ·
            refine T_op zk_120_55 rfl (X_bi (v := -3) (by decide)) (pc' := 57) rfl ?_
            exact T_iret zk_120_57 rfl (fun σ' h => ⟨_, rfl, (by omega), h.1, trivial⟩)
          ·
            refine T_ld zk_120_48 rfl rfl rfl (pc' := 50) rfl ?_
            refine T_op zk_120_50 rfl (X_bi (v := -3) (by decide)) (pc' := 52) rfl ?_
            refine T_icmp_ne zk_120_52 (by omega) (by omega) (pc' := 55) rfl (fun h13 => ?_) (fun h14 => ?_)
            ·
              refine T_ld zk_120_58 rfl rfl rfl (pc' := 59) rfl ?_
              refine T_getR (t' := 27) (i' := 0) (k' := 0) zk_120_59 rfl rfl rfl vd_0 (pc' := 62) rfl ?_
              refine T_ld zk_120_62 rfl rfl rfl (pc' := 63) rfl ?_
              refine G_aald (t' := 33) (im := 0) (i' := 0) (ln := 8) zk_120_63 rfl rfl rfl vd_27 (by omega) (by omega) (by omega) (pc' := 64) rfl ?_
              refine G_getX (w := g1) zk_120_64 rfl (vd_33 (by omega)) (fun σ' h => (h.1.2 _ _ _ _ (fun q => q)).trans t1) (pc' := 67) rfl ?_
              refine T_ld zk_120_67 rfl rfl rfl (pc' := 68) rfl ?_
              refine T_getR (t' := 27) (i' := 0) (k' := 0) zk_120_68 rfl rfl rfl vd_0 (pc' := 71) rfl ?_
              refine T_ld zk_120_71 rfl rfl rfl (pc' := 72) rfl ?_
              refine G_aald (t' := 33) (im := 0) (i' := 0) (ln := 8) zk_120_72 rfl rfl rfl vd_27 (by omega) (by omega) (by omega) (pc' := 73) rfl ?_
              refine G_getX (w := u1) zk_120_73 rfl (vd_33 (by omega)) (fun σ' h => (h.1.2 _ _ _ _ (fun q => q)).trans s1) (pc' := 76) rfl ?_
              refine T_icmp_ne zk_120_76 (by omega) (by omega) (pc' := 79) rfl (fun h15 => ?_) (fun h16 => ?_)
              ·
                refine T_op zk_120_83 rfl (X_bi (v := -2) (by decide)) (pc' := 85) rfl ?_
                exact T_iret zk_120_85 rfl (fun σ' h => ⟨_, rfl, (by omega), h.1, trivial⟩)
              ·
                refine T_op zk_120_79 rfl X_ic (pc' := 80) rfl ?_
                refine T_goto zk_120_80 ?_
                exact T_iret zk_120_85 rfl (fun σ' h => ⟨_, rfl, (by omega), h.1, trivial⟩)
            ·
              refine T_op zk_120_55 rfl (X_bi (v := -3) (by decide)) (pc' := 57) rfl ?_
              exact T_iret zk_120_57 rfl (fun σ' h => ⟨_, rfl, (by omega), h.1, trivial⟩)
        ·
          refine T_op zk_120_39 rfl (X_bi (v := -2) (by decide)) (pc' := 41) rfl ?_
          exact T_iret zk_120_41 rfl (fun σ' h => ⟨_, rfl, (by omega), h.1, trivial⟩)
    ·
      refine T_op zk_120_24 rfl X_ic (pc' := 25) rfl ?_
      exact T_iret zk_120_25 rfl (fun σ' h => ⟨_, rfl, (by omega), h.1, trivial⟩)
/-- W.copyRefusal -/
theorem s_120o {xs : Nat × (Nat → Int32)} (p0 : Int) (p1 : Int) (hp0 : -2147483648 ≤ p0 ∧ p0 ≤ 2147483647) (hp1 : -2147483648 ≤ p1 ∧ p1 ≤ 2147483647) (ho : ¬ (0 ≤ p0 ∧ p0 ≤ 7) ∨ ¬ (0 ≤ p1 ∧ p1 ≤ 7)) (σ : ZS) (hI : Inv σ)   : CT xs 3 120 [av 0 0 0, iv p0, iv p1] σ (fun v σ' => ∃ y, v = some (iv y) ∧ (y = -1) ∧ IF MN σ σ' ∧ (True)) := by
  refine G_ct (J := (fun σ' => IF MN σ σ' ∧ True)) (L := [(0, av 0 0 0), (1, iv p0), (2, iv p1)]) (nL := 5) rfl rfl rfl ⟨IF.rf hI, trivial⟩ ?_
  refine T_ld zk_120_0 rfl rfl rfl (pc' := 1) rfl ?_
  refine T_ld zk_120_1 rfl rfl rfl (pc' := 2) rfl ?_
  refine T_calli (K := fun y1 σ' => ((y1 = -1 ∧ (p0 < 0 ∨ 7 < p0)) ∨ ((y1 = -3 ∨ y1 = -2 ∨ y1 = 0) ∧ 0 ≤ p0 ∧ p0 ≤ 7)) ∧ (fun σ' => IF MN σ σ' ∧ True) σ') (r := []) zk_120_2 rfl rfl rfl rfl rfl rfl (Or.inr ⟨_, _, _, _, rfl, vd_0, rfl⟩) (fun σ' h => (w_119 p0 (by omega) σ' h.1.1 ).le (Nat.le_of_ble_eq_true rfl) (fun v σ2 ⟨y, h1, h2, h3, h4⟩ => ⟨y, h1, h2, h.1.tr h3 MN_sub, trivial⟩)) (pc' := 5) rfl (fun y1 => ?_)
  refine G_ex (fun hy1 => ?_)
  refine T_st (L' := [(0, av 0 0 0), (1, iv p0), (2, iv p1), (3, iv y1)]) zk_120_5 (nL := 5) rfl rfl rfl rfl rfl (pc' := 6) rfl ?_
  refine T_ld zk_120_6 rfl rfl rfl (pc' := 7) rfl ?_
  refine T_ld zk_120_7 rfl rfl rfl (pc' := 8) rfl ?_
  refine T_calli (K := fun y2 σ' => ((y2 = -1 ∧ (p1 < 0 ∨ 7 < p1)) ∨ ((y2 = -3 ∨ y2 = -2 ∨ y2 = 0) ∧ 0 ≤ p1 ∧ p1 ≤ 7)) ∧ (fun σ' => IF MN σ σ' ∧ True) σ') (r := []) zk_120_8 rfl rfl rfl rfl rfl rfl (Or.inr ⟨_, _, _, _, rfl, vd_0, rfl⟩) (fun σ' h => (w_119 p1 (by omega) σ' h.1.1 ).le (Nat.le_of_ble_eq_true rfl) (fun v σ2 ⟨y, h1, h2, h3, h4⟩ => ⟨y, h1, h2, h.1.tr h3 MN_sub, trivial⟩)) (pc' := 11) rfl (fun y2 => ?_)
  refine G_ex (fun hy2 => ?_)
  refine T_st (L' := [(0, av 0 0 0), (1, iv p0), (2, iv p1), (3, iv y1), (4, iv y2)]) zk_120_11 (nL := 5) rfl rfl rfl rfl rfl (pc' := 13) rfl ?_
  refine T_ld zk_120_13 rfl rfl rfl (pc' := 14) rfl ?_
  refine T_op zk_120_14 rfl X_ic (pc' := 15) rfl ?_
  refine T_icmp_eq zk_120_15 (by omega) (by omega) (pc' := 18) rfl (fun h3 => ?_) (fun h4 => ?_)
  ·
    refine T_op zk_120_24 rfl X_ic (pc' := 25) rfl ?_
    exact T_iret zk_120_25 rfl (fun σ' h => ⟨_, rfl, (by omega), h.1, trivial⟩)
  ·
    refine T_ld zk_120_18 rfl rfl rfl (pc' := 20) rfl ?_
    refine T_op zk_120_20 rfl X_ic (pc' := 21) rfl ?_
    refine T_icmp_ne zk_120_21 (by omega) (by omega) (pc' := 24) rfl (fun h5 => ?_) (fun h6 => ?_)
    ·
      refine T_ld zk_120_26 rfl rfl rfl (pc' := 27) rfl ?_
      refine T_op zk_120_27 rfl (X_bi (v := -2) (by decide)) (pc' := 29) rfl ?_
      refine T_icmp_eq zk_120_29 (by omega) (by omega) (pc' := 32) rfl (fun h7 => ?_) (fun h8 => ?_)
      ·
        refine T_op zk_120_39 rfl (X_bi (v := -2) (by decide)) (pc' := 41) rfl ?_
        exact T_iret zk_120_41 rfl (fun σ' h => ⟨_, rfl, (by omega), h.1, trivial⟩)
      ·
        refine T_ld zk_120_32 rfl rfl rfl (pc' := 34) rfl ?_
        refine T_op zk_120_34 rfl (X_bi (v := -2) (by decide)) (pc' := 36) rfl ?_
        refine T_icmp_ne zk_120_36 (by omega) (by omega) (pc' := 39) rfl (fun h9 => ?_) (fun h10 => ?_)
        ·
          refine T_ld zk_120_42 rfl rfl rfl (pc' := 43) rfl ?_
          refine T_op zk_120_43 rfl (X_bi (v := -3) (by decide)) (pc' := 45) rfl ?_
          refine T_icmp_eq zk_120_45 (by omega) (by omega) (pc' := 48) rfl (fun h11 => ?_) (fun h12 => ?_)
          ·
            refine T_op zk_120_55 rfl (X_bi (v := -3) (by decide)) (pc' := 57) rfl ?_
            exact T_iret zk_120_57 rfl (fun σ' h => ⟨_, rfl, (by omega), h.1, trivial⟩)
          ·
            refine T_ld zk_120_48 rfl rfl rfl (pc' := 50) rfl ?_
            refine T_op zk_120_50 rfl (X_bi (v := -3) (by decide)) (pc' := 52) rfl ?_
            refine T_icmp_ne zk_120_52 (by omega) (by omega) (pc' := 55) rfl (fun h13 => ?_) (fun h14 => ?_)
            ·
              refine T_ld zk_120_58 rfl rfl rfl (pc' := 59) rfl ?_
              refine T_getR (t' := 27) (i' := 0) (k' := 0) zk_120_59 rfl rfl rfl vd_0 (pc' := 62) rfl ?_
              refine T_ld zk_120_62 rfl rfl rfl (pc' := 63) rfl ?_
              refine G_aald (t' := 33) (im := 0) (i' := 0) (ln := 8) zk_120_63 rfl rfl rfl vd_27 (by omega) (by omega) (by omega) (pc' := 64) rfl ?_
              refine G_getf (lo := -2147483648) (hi := 2147483647) zk_120_64 rfl (vd_33 (by omega)) (fun σ' h => h.1.1) (fun _ h => (by have q := h.1; omega)) (pc' := 67) rfl (fun y15 hy15 hy15' => ?_)
              refine T_ld zk_120_67 rfl rfl rfl (pc' := 68) rfl ?_
              refine T_getR (t' := 27) (i' := 0) (k' := 0) zk_120_68 rfl rfl rfl vd_0 (pc' := 71) rfl ?_
              refine T_ld zk_120_71 rfl rfl rfl (pc' := 72) rfl ?_
              refine G_aald (t' := 33) (im := 0) (i' := 0) (ln := 8) zk_120_72 rfl rfl rfl vd_27 (by omega) (by omega) (by omega) (pc' := 73) rfl ?_
              refine G_getf (lo := -2147483648) (hi := 2147483647) zk_120_73 rfl (vd_33 (by omega)) (fun σ' h => h.1.1) (fun _ h => (by have q := h.1; omega)) (pc' := 76) rfl (fun y16 hy16 hy16' => ?_)
              refine T_icmp_ne zk_120_76 (by omega) (by omega) (pc' := 79) rfl (fun h17 => ?_) (fun h18 => ?_)
              ·
                refine T_op zk_120_83 rfl (X_bi (v := -2) (by decide)) (pc' := 85) rfl ?_
                exact T_iret zk_120_85 rfl (fun σ' h => ⟨_, rfl, (by omega), h.1, trivial⟩)
              ·
                refine T_op zk_120_79 rfl X_ic (pc' := 80) rfl ?_
                refine T_goto zk_120_80 ?_
                exact T_iret zk_120_85 rfl (fun σ' h => ⟨_, rfl, (by omega), h.1, trivial⟩)
            ·
              refine T_op zk_120_55 rfl (X_bi (v := -3) (by decide)) (pc' := 57) rfl ?_
              exact T_iret zk_120_57 rfl (fun σ' h => ⟨_, rfl, (by omega), h.1, trivial⟩)
        ·
          refine T_op zk_120_39 rfl (X_bi (v := -2) (by decide)) (pc' := 41) rfl ?_
          exact T_iret zk_120_41 rfl (fun σ' h => ⟨_, rfl, (by omega), h.1, trivial⟩)
    ·
      refine T_op zk_120_24 rfl X_ic (pc' := 25) rfl ?_
      exact T_iret zk_120_25 rfl (fun σ' h => ⟨_, rfl, (by omega), h.1, trivial⟩)
/-- W$Shelf.hasStretch -/
theorem s_68 {xs : Nat × (Nat → Int32)} (k : Nat) (p0 : Int) (p1 : Int) (z : Int) (hk : k < 8) (hp0 : -2147483648 ≤ p0 ∧ p0 ≤ 2147483647) (hp1 : -2147483648 ≤ p1 ∧ p1 ≤ 2147483647) (hz : 0 ≤ z ∧ z ≤ 96) (σ : ZS) (hI : Inv σ)  (s2 : σ 33 0 k 2 = z) : CT xs 1 68 [av 33 0 k, iv p0, iv p1] σ (fun v σ' => ∃ y, v = some (iv y) ∧ (y = 0 ∧ ¬ (0 ≤ p0 ∧ p0 + p1 ≤ z) ∨ (y = 1 ∧ 0 ≤ p0 ∧ p0 + p1 ≤ z)) ∧ IF MN σ σ' ∧ (True)) := by
  refine G_ct (J := (fun σ' => IF MN σ σ' ∧ True)) (L := [(0, av 33 0 k), (1, iv p0), (2, iv p1)]) (nL := 3) rfl rfl rfl ⟨IF.rf hI, trivial⟩ ?_
  refine T_ld zk_68_0 rfl rfl rfl (pc' := 1) rfl ?_
  refine T_if_lt zk_68_1 (by omega) (pc' := 4) rfl (fun h1 => ?_) (fun h2 => ?_)
  ·
    refine T_op zk_68_22 rfl X_ic (pc' := 23) rfl ?_
    exact T_zret zk_68_23 rfl (by omega) (fun σ' h => ⟨_, rfl, (by omega), h.1, trivial⟩)
  ·
    refine T_ld zk_68_4 rfl rfl rfl (pc' := 5) rfl ?_
    refine T_i2l (by omega) zk_68_5 ?_
    refine T_ld zk_68_6 rfl rfl rfl (pc' := 7) rfl ?_
    refine T_i2l (by omega) zk_68_7 ?_
    refine T_op zk_68_8 rfl X_ladd (pc' := 9) rfl ?_
    refine T_ld zk_68_9 rfl rfl rfl (pc' := 10) rfl ?_
    refine G_getX (w := z) zk_68_10 rfl (vd_33 (by omega)) (fun σ' h => (h.1.2 _ _ _ _ (fun q => q)).trans s2) (pc' := 13) rfl ?_
    refine T_i2l (by omega) zk_68_13 ?_
    refine T_lcmpE zk_68_14 (by omega) (by omega) (fun y3 hy3 hy3' ey3 fy3 => ?_)
    refine T_if_gt zk_68_15 (by omega) (pc' := 18) rfl (fun h4 => ?_) (fun h5 => ?_)
    ·
      refine T_op zk_68_22 rfl X_ic (pc' := 23) rfl ?_
      exact T_zret zk_68_23 rfl (by omega) (fun σ' h => ⟨_, rfl, (by omega), h.1, trivial⟩)
    ·
      refine T_op zk_68_18 rfl X_ic (pc' := 19) rfl ?_
      refine T_goto zk_68_19 ?_
      exact T_zret zk_68_23 rfl (by omega) (fun σ' h => ⟨_, rfl, (by omega), h.1, trivial⟩)
theorem sb75_a995968 (v0 : Nat) : ∀ t i k j, MI 0 28 28 28 28 t i k j → MSw v0 t i k j := by
  intro t i k j h
  unfold MI at h
  unfold MSw
  omega
/-- W.show -/
theorem s_87 {xs : Nat × (Nat → Int32)} (p0 : Int) (p1 : Int) (n : Int) (u0 : Int) (u1 : Int) (u2 : Int) (u3 : Int) (hp0 : 0 ≤ p0 ∧ p0 ≤ 7) (hp1 : -2147483648 ≤ p1 ∧ p1 ≤ 2147483647) (hn : 0 ≤ n ∧ n ≤ 12) (hu0 : -2147483648 ≤ u0 ∧ u0 ≤ 2147483647) (hu1 : -2147483648 ≤ u1 ∧ u1 ≤ 2147483647) (hu2 : 0 ≤ u2 ∧ u2 ≤ 96) (hu3 : -2147483648 ≤ u3 ∧ u3 ≤ 2147483647) (σ : ZS) (hI : Inv σ)  (q0 : σ 1 0 0 6 = n) (s0 : σ 33 0 (Int.toNat p0) 0 = u0) (s1 : σ 33 0 (Int.toNat p0) 1 = u1) (s2 : σ 33 0 (Int.toNat p0) 2 = u2) (s3 : σ 33 0 (Int.toNat p0) 3 = u3) : CT xs 3 87 [av 0 0 0, iv p0, iv p1] σ (fun v σ' => ∃ y, v = some (iv y) ∧ ((y = -1 ∧ (¬ (p1 = -1 ∨ (0 ≤ p1 ∧ p1 < n)))) ∨ (y = 0 ∧ ¬ (¬ (p1 = -1 ∨ (0 ≤ p1 ∧ p1 < n))) ∧ (p1 = -1)) ∨ (y = 1 ∧ ¬ (¬ (p1 = -1 ∨ (0 ≤ p1 ∧ p1 < n))) ∧ ¬ (p1 = -1))) ∧ IF (MSw (Int.toNat p0)) σ σ' ∧ (((y = 1 → σ' 33 0 (Int.toNat p0) 0 = 2) ∧ (y = 0 → σ' 33 0 (Int.toNat p0) 0 = 0) ∧ (y < 0 → σ' 33 0 (Int.toNat p0) 0 = u0)) ∧ (σ' 33 0 (Int.toNat p0) 1 = u1) ∧ (σ' 33 0 (Int.toNat p0) 2 = u2) ∧ ((y = 1 → σ' 33 0 (Int.toNat p0) 3 = p1) ∧ (y < 0 → σ' 33 0 (Int.toNat p0) 3 = u3)) ∧ True)) := by
  refine G_ct (J := (fun σ' => IF (MSw (Int.toNat p0)) σ σ' ∧ σ' 33 0 (Int.toNat p0) 0 = u0 ∧ σ' 33 0 (Int.toNat p0) 1 = u1 ∧ σ' 33 0 (Int.toNat p0) 2 = u2 ∧ σ' 33 0 (Int.toNat p0) 3 = u3 ∧ True)) (L := [(0, av 0 0 0), (1, iv p0), (2, iv p1)]) (nL := 3) rfl rfl rfl ⟨IF.rf hI, s0, s1, s2, s3, trivial⟩ ?_
  refine T_ld zk_87_0 rfl rfl rfl (pc' := 1) rfl ?_
  refine T_calli (K := fun y1 σ' => ((y1 = 0 ∧ (p0 < 0 ∨ 7 < p0)) ∨ (y1 = 1 ∧ 0 ≤ p0 ∧ p0 ≤ 7)) ∧ (fun σ' => IF (MSw (Int.toNat p0)) σ σ' ∧ σ' 33 0 (Int.toNat p0) 0 = u0 ∧ σ' 33 0 (Int.toNat p0) 1 = u1 ∧ σ' 33 0 (Int.toNat p0) 2 = u2 ∧ σ' 33 0 (Int.toNat p0) 3 = u3 ∧ True) σ') (r := []) zk_87_1 rfl rfl rfl rfl rfl rfl (Or.inl (Or.inl rfl)) (fun σ' h => (w_116 p0 (by omega) σ' h.1.1 ).le (Nat.le_of_ble_eq_true rfl) (fun v σ2 ⟨y, h1, h2, h3, h4⟩ => ⟨y, h1, h2, h.1.tr h3 MN_sub, (h3.2 _ _ _ _ (fun q => q)).trans (h.2.1), (h3.2 _ _ _ _ (fun q => q)).trans (h.2.2.1), (h3.2 _ _ _ _ (fun q => q)).trans (h.2.2.2.1), (h3.2 _ _ _ _ (fun q => q)).trans (h.2.2.2.2.1), trivial⟩)) (pc' := 4) rfl (fun y1 => ?_)
  refine G_ex (fun hy1 => ?_)
  refine T_if_eq zk_87_4 (by omega) (pc' := 7) rfl (fun h2 => ?_) (fun h3 => ?_)
  ·
    refine T_ld zk_87_20 rfl rfl rfl (pc' := 21) rfl ?_
    refine T_op zk_87_21 rfl X_ic (pc' := 22) rfl ?_
    refine T_calli (K := fun y4 σ' => (y4 = (-1)) ∧ (fun σ' => IF (MSw (Int.toNat p0)) σ σ' ∧ σ' 33 0 (Int.toNat p0) 0 = u0 ∧ σ' 33 0 (Int.toNat p0) 1 = u1 ∧ σ' 33 0 (Int.toNat p0) 2 = u2 ∧ σ' 33 0 (Int.toNat p0) 3 = u3 ∧ True) σ') (r := []) zk_87_22 rfl rfl rfl rfl rfl rfl (Or.inr ⟨_, _, _, _, rfl, vd_0, rfl⟩) (fun σ' h => (w_113 ((-1)) (by omega) σ' h.1.1 ).le (Nat.le_of_ble_eq_true rfl) (fun v σ2 ⟨y, h1, h2, h3, h4⟩ => ⟨y, h1, h2, h.1.tr h3 (sb75_a995968 (Int.toNat p0)), (h3.2 _ _ _ _ (by first | exact nMI rfl | (unfold MI; omega))).trans (h.2.1), (h3.2 _ _ _ _ (by first | exact nMI rfl | (unfold MI; omega))).trans (h.2.2.1), (h3.2 _ _ _ _ (by first | exact nMI rfl | (unfold MI; omega))).trans (h.2.2.2.1), (h3.2 _ _ _ _ (by first | exact nMI rfl | (unfold MI; omega))).trans (h.2.2.2.2.1), trivial⟩)) (pc' := 25) rfl (fun y4 => ?_)
    refine G_ex (fun hy4 => ?_)
    obtain rfl : y4 = (-1) := by omega
    exact T_iret zk_87_25 rfl (fun σ' h => ⟨_, rfl, (by omega), h.1, ⟨(by have e := h.2.1; omega), (by have e := h.2.2.1; omega), (by have e := h.2.2.2.1; omega), (by have e := h.2.2.2.2.1; omega), trivial⟩⟩)
  ·
    refine T_ld zk_87_7 rfl rfl rfl (pc' := 8) rfl ?_
    refine T_op zk_87_8 rfl X_ic (pc' := 9) rfl ?_
    refine T_icmp_eq zk_87_9 (by omega) (by omega) (pc' := 12) rfl (fun h5 => ?_) (fun h6 => ?_)
    ·
      refine T_ld zk_87_26 rfl rfl rfl (pc' := 27) rfl ?_
      refine T_op zk_87_27 rfl X_ic (pc' := 28) rfl ?_
      refine T_icmp_ne zk_87_28 (by omega) (by omega) (pc' := 31) rfl (fun h7 => ?_) (fun h8 => ?_)
      · exfalso; omega
      ·
        refine T_ld zk_87_31 rfl rfl rfl (pc' := 32) rfl ?_
        refine T_getR (t' := 27) (i' := 0) (k' := 0) zk_87_32 rfl rfl rfl vd_0 (pc' := 35) rfl ?_
        refine T_ld zk_87_35 rfl rfl rfl (pc' := 36) rfl ?_
        refine G_aald (t' := 33) (im := 0) (i' := 0) (ln := 8) zk_87_36 rfl rfl rfl vd_27 (by omega) (by omega) (by omega) (pc' := 37) rfl ?_
        refine T_op zk_87_37 rfl X_ic (pc' := 38) rfl ?_
        refine T_putf (J' := (fun σ' => IF (MSw (Int.toNat p0)) σ σ' ∧ σ' 33 0 (Int.toNat p0) 1 = u1 ∧ σ' 33 0 (Int.toNat p0) 2 = u2 ∧ σ' 33 0 (Int.toNat p0) 3 = u3 ∧ σ' 33 0 (Int.toNat p0) 0 = 0 ∧ True)) zk_87_38 rfl rfl (vd_33 (by omega)) (fun σ' h => ⟨h.1.up (by simp only [rgP] <;> omega) (by first | exact pMSw rfl | (unfold MSw; omega)), (up_ne (by omega)).trans (h.2.2.1), (up_ne (by omega)).trans (h.2.2.2.1), (up_ne (by omega)).trans (h.2.2.2.2.1), up_eq, trivial⟩) (pc' := 41) rfl ?_
        refine T_op zk_87_41 rfl X_ic (pc' := 42) rfl ?_
        exact T_iret zk_87_42 rfl (fun σ' h => ⟨_, rfl, (by omega), h.1, ⟨(by have e := h.2.2.2.2.1; omega), (by have e := h.2.1; omega), (by have e := h.2.2.1; omega), (by have e := h.2.2.2.1; omega), trivial⟩⟩)
    ·
      refine T_ld zk_87_12 rfl rfl rfl (pc' := 13) rfl ?_
      refine T_ld zk_87_13 rfl rfl rfl (pc' := 14) rfl ?_
      refine T_calli (K := fun y9 σ' => ((y9 = 0 ∧ (p1 < 0 ∨ n ≤ p1)) ∨ (y9 = 1 ∧ 0 ≤ p1 ∧ p1 < n)) ∧ (fun σ' => IF (MSw (Int.toNat p0)) σ σ' ∧ σ' 33 0 (Int.toNat p0) 0 = u0 ∧ σ' 33 0 (Int.toNat p0) 1 = u1 ∧ σ' 33 0 (Int.toNat p0) 2 = u2 ∧ σ' 33 0 (Int.toNat p0) 3 = u3 ∧ True) σ') (r := []) zk_87_14 rfl rfl rfl rfl rfl rfl (Or.inr ⟨_, _, _, _, rfl, vd_0, rfl⟩) (fun σ' h => (w_117 p1 n (by omega) (by omega) σ' h.1.1 ((h.1.2 _ _ _ _ (by first | exact nMSw rfl | (unfold MSw; omega))).trans q0)).le (Nat.le_of_ble_eq_true rfl) (fun v σ2 ⟨y, h1, h2, h3, h4⟩ => ⟨y, h1, h2, h.1.tr h3 MN_sub, (h3.2 _ _ _ _ (fun q => q)).trans (h.2.1), (h3.2 _ _ _ _ (fun q => q)).trans (h.2.2.1), (h3.2 _ _ _ _ (fun q => q)).trans (h.2.2.2.1), (h3.2 _ _ _ _ (fun q => q)).trans (h.2.2.2.2.1), trivial⟩)) (pc' := 17) rfl (fun y9 => ?_)
      refine G_ex (fun hy9 => ?_)
      refine T_if_ne zk_87_17 (by omega) (pc' := 20) rfl (fun h10 => ?_) (fun h11 => ?_)
      ·
        refine T_ld zk_87_26 rfl rfl rfl (pc' := 27) rfl ?_
        refine T_op zk_87_27 rfl X_ic (pc' := 28) rfl ?_
        refine T_icmp_ne zk_87_28 (by omega) (by omega) (pc' := 31) rfl (fun h12 => ?_) (fun h13 => ?_)
        ·
          refine T_ld zk_87_43 rfl rfl rfl (pc' := 44) rfl ?_
          refine T_getR (t' := 27) (i' := 0) (k' := 0) zk_87_44 rfl rfl rfl vd_0 (pc' := 47) rfl ?_
          refine T_ld zk_87_47 rfl rfl rfl (pc' := 48) rfl ?_
          refine G_aald (t' := 33) (im := 0) (i' := 0) (ln := 8) zk_87_48 rfl rfl rfl vd_27 (by omega) (by omega) (by omega) (pc' := 49) rfl ?_
          refine T_op zk_87_49 rfl X_ic (pc' := 50) rfl ?_
          refine T_putf (J' := (fun σ' => IF (MSw (Int.toNat p0)) σ σ' ∧ σ' 33 0 (Int.toNat p0) 1 = u1 ∧ σ' 33 0 (Int.toNat p0) 2 = u2 ∧ σ' 33 0 (Int.toNat p0) 3 = u3 ∧ σ' 33 0 (Int.toNat p0) 0 = 2 ∧ True)) zk_87_50 rfl rfl (vd_33 (by omega)) (fun σ' h => ⟨h.1.up (by simp only [rgP] <;> omega) (by first | exact pMSw rfl | (unfold MSw; omega)), (up_ne (by omega)).trans (h.2.2.1), (up_ne (by omega)).trans (h.2.2.2.1), (up_ne (by omega)).trans (h.2.2.2.2.1), up_eq, trivial⟩) (pc' := 53) rfl ?_
          refine T_ld zk_87_53 rfl rfl rfl (pc' := 54) rfl ?_
          refine T_getR (t' := 27) (i' := 0) (k' := 0) zk_87_54 rfl rfl rfl vd_0 (pc' := 57) rfl ?_
          refine T_ld zk_87_57 rfl rfl rfl (pc' := 58) rfl ?_
          refine G_aald (t' := 33) (im := 0) (i' := 0) (ln := 8) zk_87_58 rfl rfl rfl vd_27 (by omega) (by omega) (by omega) (pc' := 59) rfl ?_
          refine T_ld zk_87_59 rfl rfl rfl (pc' := 60) rfl ?_
          refine T_putf (J' := (fun σ' => IF (MSw (Int.toNat p0)) σ σ' ∧ σ' 33 0 (Int.toNat p0) 1 = u1 ∧ σ' 33 0 (Int.toNat p0) 2 = u2 ∧ σ' 33 0 (Int.toNat p0) 0 = 2 ∧ σ' 33 0 (Int.toNat p0) 3 = p1 ∧ True)) zk_87_60 rfl rfl (vd_33 (by omega)) (fun σ' h => ⟨h.1.up (by simp only [rgP] <;> omega) (by first | exact pMSw rfl | (unfold MSw; omega)), (up_ne (by omega)).trans (h.2.1), (up_ne (by omega)).trans (h.2.2.1), (up_ne (by omega)).trans (h.2.2.2.2.1), up_eq, trivial⟩) (pc' := 63) rfl ?_
          refine T_op zk_87_63 rfl X_ic (pc' := 64) rfl ?_
          exact T_iret zk_87_64 rfl (fun σ' h => ⟨_, rfl, (by omega), h.1, ⟨(by have e := h.2.2.2.1; omega), (by have e := h.2.1; omega), (by have e := h.2.2.1; omega), (by have e := h.2.2.2.2.1; omega), trivial⟩⟩)
        · exfalso; omega
      ·
        refine T_ld zk_87_20 rfl rfl rfl (pc' := 21) rfl ?_
        refine T_op zk_87_21 rfl X_ic (pc' := 22) rfl ?_
        refine T_calli (K := fun y14 σ' => (y14 = (-1)) ∧ (fun σ' => IF (MSw (Int.toNat p0)) σ σ' ∧ σ' 33 0 (Int.toNat p0) 0 = u0 ∧ σ' 33 0 (Int.toNat p0) 1 = u1 ∧ σ' 33 0 (Int.toNat p0) 2 = u2 ∧ σ' 33 0 (Int.toNat p0) 3 = u3 ∧ True) σ') (r := []) zk_87_22 rfl rfl rfl rfl rfl rfl (Or.inr ⟨_, _, _, _, rfl, vd_0, rfl⟩) (fun σ' h => (w_113 ((-1)) (by omega) σ' h.1.1 ).le (Nat.le_of_ble_eq_true rfl) (fun v σ2 ⟨y, h1, h2, h3, h4⟩ => ⟨y, h1, h2, h.1.tr h3 (sb75_a995968 (Int.toNat p0)), (h3.2 _ _ _ _ (by first | exact nMI rfl | (unfold MI; omega))).trans (h.2.1), (h3.2 _ _ _ _ (by first | exact nMI rfl | (unfold MI; omega))).trans (h.2.2.1), (h3.2 _ _ _ _ (by first | exact nMI rfl | (unfold MI; omega))).trans (h.2.2.2.1), (h3.2 _ _ _ _ (by first | exact nMI rfl | (unfold MI; omega))).trans (h.2.2.2.2.1), trivial⟩)) (pc' := 25) rfl (fun y14 => ?_)
        refine G_ex (fun hy14 => ?_)
        obtain rfl : y14 = (-1) := by omega
        exact T_iret zk_87_25 rfl (fun σ' h => ⟨_, rfl, (by omega), h.1, ⟨(by have e := h.2.1; omega), (by have e := h.2.2.1; omega), (by have e := h.2.2.2.1; omega), (by have e := h.2.2.2.2.1; omega), trivial⟩⟩)
/-- W.show -/
theorem s_87o {xs : Nat × (Nat → Int32)} (p0 : Int) (p1 : Int) (hp0 : -2147483648 ≤ p0 ∧ p0 ≤ 2147483647) (hp1 : -2147483648 ≤ p1 ∧ p1 ≤ 2147483647) (ho : p0 < 0 ∨ 7 < p0) (σ : ZS) (hI : Inv σ)   : CT xs 3 87 [av 0 0 0, iv p0, iv p1] σ (fun v σ' => ∃ y, v = some (iv y) ∧ (y = -1) ∧ IF (MI 0 28 28 28 28) σ σ' ∧ (True)) := by
  refine G_ct (J := (fun σ' => IF (MI 0 28 28 28 28) σ σ' ∧ True)) (L := [(0, av 0 0 0), (1, iv p0), (2, iv p1)]) (nL := 3) rfl rfl rfl ⟨IF.rf hI, trivial⟩ ?_
  refine T_ld zk_87_0 rfl rfl rfl (pc' := 1) rfl ?_
  refine T_calli (K := fun y1 σ' => ((y1 = 0 ∧ (p0 < 0 ∨ 7 < p0)) ∨ (y1 = 1 ∧ 0 ≤ p0 ∧ p0 ≤ 7)) ∧ (fun σ' => IF (MI 0 28 28 28 28) σ σ' ∧ True) σ') (r := []) zk_87_1 rfl rfl rfl rfl rfl rfl (Or.inl (Or.inl rfl)) (fun σ' h => (w_116 p0 (by omega) σ' h.1.1 ).le (Nat.le_of_ble_eq_true rfl) (fun v σ2 ⟨y, h1, h2, h3, h4⟩ => ⟨y, h1, h2, h.1.tr h3 MN_sub, trivial⟩)) (pc' := 4) rfl (fun y1 => ?_)
  refine G_ex (fun hy1 => ?_)
  refine T_if_eq zk_87_4 (by omega) (pc' := 7) rfl (fun h2 => ?_) (fun h3 => ?_)
  ·
    refine T_ld zk_87_20 rfl rfl rfl (pc' := 21) rfl ?_
    refine T_op zk_87_21 rfl X_ic (pc' := 22) rfl ?_
    refine T_calli (K := fun y4 σ' => (y4 = (-1)) ∧ (fun σ' => IF (MI 0 28 28 28 28) σ σ' ∧ True) σ') (r := []) zk_87_22 rfl rfl rfl rfl rfl rfl (Or.inr ⟨_, _, _, _, rfl, vd_0, rfl⟩) (fun σ' h => (w_113 ((-1)) (by omega) σ' h.1.1 ).le (Nat.le_of_ble_eq_true rfl) (fun v σ2 ⟨y, h1, h2, h3, h4⟩ => ⟨y, h1, h2, h.1.tr h3 (fun _ _ _ _ h => h), trivial⟩)) (pc' := 25) rfl (fun y4 => ?_)
    refine G_ex (fun hy4 => ?_)
    obtain rfl : y4 = (-1) := by omega
    exact T_iret zk_87_25 rfl (fun σ' h => ⟨_, rfl, (by omega), h.1, trivial⟩)
  · exfalso; omega
/-- W.set -/
theorem s_84o {xs : Nat × (Nat → Int32)} (p0 : Int) (p1 : Int) (vv : Int) (hp0 : -2147483648 ≤ p0 ∧ p0 ≤ 2147483647) (hp1 : -2147483648 ≤ p1 ∧ p1 ≤ 2147483647) (ho : p0 < 0 ∨ 7 < p0) (σ : ZS) (hI : Inv σ)   : CT xs 3 84 [av 0 0 0, iv p0, iv p1, jv vv] σ (fun v σ' => ∃ y, v = some (iv y) ∧ (y = -1) ∧ IF (MI 0 28 28 28 28) σ σ' ∧ (True)) := by
  refine G_ct (J := (fun σ' => IF (MI 0 28 28 28 28) σ σ' ∧ True)) (L := [(0, av 0 0 0), (1, iv p0), (2, iv p1), (3, jv vv)]) (nL := 6) rfl rfl rfl ⟨IF.rf hI, trivial⟩ ?_
  refine T_ld zk_84_0 rfl rfl rfl (pc' := 1) rfl ?_
  refine T_ld zk_84_1 rfl rfl rfl (pc' := 2) rfl ?_
  refine T_calli (K := fun y1 σ' => ((y1 = -1 ∧ (p0 < 0 ∨ 7 < p0)) ∨ ((y1 = -3 ∨ y1 = -2 ∨ y1 = 0) ∧ 0 ≤ p0 ∧ p0 ≤ 7)) ∧ (fun σ' => IF (MI 0 28 28 28 28) σ σ' ∧ True) σ') (r := []) zk_84_2 rfl rfl rfl rfl rfl rfl (Or.inr ⟨_, _, _, _, rfl, vd_0, rfl⟩) (fun σ' h => (w_119 p0 (by omega) σ' h.1.1 ).le (Nat.le_of_ble_eq_true rfl) (fun v σ2 ⟨y, h1, h2, h3, h4⟩ => ⟨y, h1, h2, h.1.tr h3 MN_sub, trivial⟩)) (pc' := 5) rfl (fun y1 => ?_)
  refine G_ex (fun hy1 => ?_)
  refine T_st (L' := [(0, av 0 0 0), (1, iv p0), (2, iv p1), (3, jv vv), (5, iv y1)]) zk_84_5 (nL := 6) rfl rfl rfl rfl rfl (pc' := 7) rfl ?_
  refine T_ld zk_84_7 rfl rfl rfl (pc' := 9) rfl ?_
  refine T_if_eq zk_84_9 (by omega) (pc' := 12) rfl (fun h2 => ?_) (fun h3 => ?_)
  · exfalso; omega
  ·
    refine T_ld zk_84_12 rfl rfl rfl (pc' := 13) rfl ?_
    refine T_ld zk_84_13 rfl rfl rfl (pc' := 15) rfl ?_
    refine T_calli (K := fun y4 σ' => (y4 = y1) ∧ (fun σ' => IF (MI 0 28 28 28 28) σ σ' ∧ True) σ') (r := []) zk_84_15 rfl rfl rfl rfl rfl rfl (Or.inr ⟨_, _, _, _, rfl, vd_0, rfl⟩) (fun σ' h => (w_113 y1 (by omega) σ' h.1.1 ).le (Nat.le_of_ble_eq_true rfl) (fun v σ2 ⟨y, h1, h2, h3, h4⟩ => ⟨y, h1, h2, h.1.tr h3 (fun _ _ _ _ h => h), trivial⟩)) (pc' := 18) rfl (fun y4 => ?_)
    refine G_ex (fun hy4 => ?_)
    obtain rfl : y4 = y1 := by omega
    exact T_iret zk_84_18 rfl (fun σ' h => ⟨_, rfl, (by omega), h.1, trivial⟩)
/-- W.copy -/
theorem s_85o {xs : Nat × (Nat → Int32)} (p0 : Int) (p1 : Int) (p2 : Int) (p3 : Int) (p4 : Int) (hp0 : -2147483648 ≤ p0 ∧ p0 ≤ 2147483647) (hp1 : -2147483648 ≤ p1 ∧ p1 ≤ 2147483647) (hp2 : -2147483648 ≤ p2 ∧ p2 ≤ 2147483647) (hp3 : -2147483648 ≤ p3 ∧ p3 ≤ 2147483647) (hp4 : -2147483648 ≤ p4 ∧ p4 ≤ 2147483647) (ho : ¬ (0 ≤ p0 ∧ p0 ≤ 7) ∨ ¬ (0 ≤ p1 ∧ p1 ≤ 7)) (σ : ZS) (hI : Inv σ)   : CT xs 4 85 [av 0 0 0, iv p0, iv p1, iv p2, iv p3, iv p4] σ (fun v σ' => ∃ y, v = some (iv y) ∧ (y = -1) ∧ IF (MI 0 28 28 28 28) σ σ' ∧ (True)) := by
  refine G_ct (J := (fun σ' => IF (MI 0 28 28 28 28) σ σ' ∧ True)) (L := [(0, av 0 0 0), (1, iv p0), (2, iv p1), (3, iv p2), (4, iv p3), (5, iv p4)]) (nL := 7) rfl rfl rfl ⟨IF.rf hI, trivial⟩ ?_
  refine T_ld zk_85_0 rfl rfl rfl (pc' := 1) rfl ?_
  refine T_ld zk_85_1 rfl rfl rfl (pc' := 2) rfl ?_
  refine T_ld zk_85_2 rfl rfl rfl (pc' := 3) rfl ?_
  refine T_calli (K := fun y1 σ' => (y1 = -1) ∧ (fun σ' => IF (MI 0 28 28 28 28) σ σ' ∧ True) σ') (r := []) zk_85_3 rfl rfl rfl rfl rfl rfl (Or.inr ⟨_, _, _, _, rfl, vd_0, rfl⟩) (fun σ' h => (s_120o p0 p1 (by omega) (by omega) (by omega) σ' h.1.1 ).le (Nat.le_of_ble_eq_true rfl) (fun v σ2 ⟨y, h1, h2, h3, h4⟩ => ⟨y, h1, h2, h.1.tr h3 MN_sub, trivial⟩)) (pc' := 6) rfl (fun y1 => ?_)
  refine G_ex (fun hy1 => ?_)
  refine T_st (L' := [(0, av 0 0 0), (1, iv p0), (2, iv p1), (3, iv p2), (4, iv p3), (5, iv p4), (6, iv y1)]) zk_85_6 (nL := 7) rfl rfl rfl rfl rfl (pc' := 8) rfl ?_
  refine T_ld zk_85_8 rfl rfl rfl (pc' := 10) rfl ?_
  refine T_if_eq zk_85_10 (by omega) (pc' := 13) rfl (fun h2 => ?_) (fun h3 => ?_)
  · exfalso; omega
  ·
    refine T_ld zk_85_13 rfl rfl rfl (pc' := 14) rfl ?_
    refine T_ld zk_85_14 rfl rfl rfl (pc' := 16) rfl ?_
    refine T_calli (K := fun y4 σ' => (y4 = y1) ∧ (fun σ' => IF (MI 0 28 28 28 28) σ σ' ∧ True) σ') (r := []) zk_85_16 rfl rfl rfl rfl rfl rfl (Or.inr ⟨_, _, _, _, rfl, vd_0, rfl⟩) (fun σ' h => (w_113 y1 (by omega) σ' h.1.1 ).le (Nat.le_of_ble_eq_true rfl) (fun v σ2 ⟨y, h1, h2, h3, h4⟩ => ⟨y, h1, h2, h.1.tr h3 (fun _ _ _ _ h => h), trivial⟩)) (pc' := 19) rfl (fun y4 => ?_)
    refine G_ex (fun hy4 => ?_)
    obtain rfl : y4 = y1 := by omega
    exact T_iret zk_85_19 rfl (fun σ' h => ⟨_, rfl, (by omega), h.1, trivial⟩)
