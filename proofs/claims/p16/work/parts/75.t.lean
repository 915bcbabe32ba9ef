def MSh (a : Nat) (t i k j : Nat) : Prop := (t = 33 ∧ k = a) ∨ t = 34 ∨ t = 28
def MSw (a : Nat) (t i k j : Nat) : Prop := (t = 33 ∧ k = a) ∨ t = 28
theorem nMSw {a t i k j : Nat} (hb : decide ((t = 33 ∨ t = 28)) = false) : ¬ MSw a t i k j := fun h => of_decide_eq_false hb (by unfold MSw at h; omega)
theorem pMSw {a t i k j : Nat} (hb : decide (t = 28) = true) : MSw a t i k j := by
  have h := of_decide_eq_true hb
  unfold MSw
  omega
def MSr (a : Nat) (t i k j : Nat) : Prop := (t = 33 ∧ k = a ∧ j < 3) ∨ t = 34
theorem nMSr {a t i k j : Nat} (hb : decide (((t = 33 ∧ j < 3) ∨ t = 34)) = false) : ¬ MSr a t i k j := fun h => of_decide_eq_false hb (by unfold MSr at h; omega)
theorem pMSr {a t i k j : Nat} (hb : decide (t = 34) = true) : MSr a t i k j := by
  have h := of_decide_eq_true hb
  unfold MSr
  omega
theorem sb75_e6252fb (v0 : Nat) : ∀ t i k j, MT 34 34 34 34 t i k j → MSr v0 t i k j := by
  intro t i k j h
  unfold MT at h
  unfold MSr
  omega
/-- W$Shelf.putRow -/
theorem s_66 {xs : Nat × (Nat → Int32)} (k : Nat) (p0 : Int) (p1 : Int) (hk : k < 8) (hp0 : -2147483648 ≤ p0 ∧ p0 ≤ 2147483647) (hp1 : 0 ≤ p1 ∧ p1 ≤ 96) (σ : ZS) (hI : Inv σ)   : CT xs 2 66 [av 33 0 k, iv p0, iv p1] σ (fun v σ' => v = none ∧ IF (MSr k) σ σ' ∧ (σ' 33 0 k 0 = 1 ∧ σ' 33 0 k 1 = p0 ∧ σ' 33 0 k 2 = p1 ∧ True)) := by
  refine G_ct (J := (fun σ' => IF (MSr k) σ σ' ∧ True)) (L := [(0, av 33 0 k), (1, iv p0), (2, iv p1)]) (nL := 3) rfl rfl rfl ⟨IF.rf hI, trivial⟩ ?_
  refine T_ld zk_66_0 rfl rfl rfl (pc' := 1) rfl ?_
  refine T_op zk_66_1 rfl X_ic (pc' := 2) rfl ?_
  refine T_putf (J' := (fun σ' => IF (MSr k) σ σ' ∧ σ' 33 0 k 0 = 1 ∧ True)) zk_66_2 rfl rfl (vd_33 (by omega)) (fun σ' h => ⟨h.1.up (by simp only [rgP] <;> omega) (by first | exact pMSr rfl | (unfold MSr; omega)), up_eq, trivial⟩) (pc' := 5) rfl ?_
  refine T_ld zk_66_5 rfl rfl rfl (pc' := 6) rfl ?_
  refine T_ld zk_66_6 rfl rfl rfl (pc' := 7) rfl ?_
  refine T_putf (J' := (fun σ' => IF (MSr k) σ σ' ∧ σ' 33 0 k 0 = 1 ∧ σ' 33 0 k 1 = p0 ∧ True)) zk_66_7 rfl rfl (vd_33 (by omega)) (fun σ' h => ⟨h.1.up (by simp only [rgP] <;> omega) (by first | exact pMSr rfl | (unfold MSr; omega)), (up_ne (by omega)).trans (h.2.1), up_eq, trivial⟩) (pc' := 10) rfl ?_
  refine T_ld zk_66_10 rfl rfl rfl (pc' := 11) rfl ?_
  refine T_ld zk_66_11 rfl rfl rfl (pc' := 12) rfl ?_
  refine T_putf (J' := (fun σ' => IF (MSr k) σ σ' ∧ σ' 33 0 k 0 = 1 ∧ σ' 33 0 k 1 = p0 ∧ σ' 33 0 k 2 = p1 ∧ True)) zk_66_12 rfl rfl (vd_33 (by omega)) (fun σ' h => ⟨h.1.up (by simp only [rgP] <;> omega) (by first | exact pMSr rfl | (unfold MSr; omega)), (up_ne (by omega)).trans (h.2.1), (up_ne (by omega)).trans (h.2.2.1), up_eq, trivial⟩) (pc' := 15) rfl ?_
  refine T_ld zk_66_15 rfl rfl rfl (pc' := 16) rfl ?_
  refine T_getR (t' := 34) (i' := 0) (k' := k) zk_66_16 rfl rfl rfl (vd_33 (by omega)) (pc' := 19) rfl ?_
  refine T_op zk_66_19 rfl (X_lc (v := 0) (by decide)) (pc' := 20) rfl ?_
  refine T_callv (J' := (fun σ' => IF (MSr k) σ σ' ∧ σ' 33 0 k 0 = 1 ∧ σ' 33 0 k 1 = p0 ∧ σ' 33 0 k 2 = p1 ∧ True)) (r := []) zk_66_20 rfl rfl rfl rfl rfl rfl (Or.inl (Or.inl rfl)) (fun σ' h => (w_189 k 0 (by omega) σ' h.1.1 ).le (Nat.le_of_ble_eq_true rfl) (fun v σ2 ⟨h1, h3, h4⟩ => ⟨h1, h.1.tr h3 (sb75_e6252fb k), (h3.2 _ _ _ _ (by first | exact nMT rfl | (unfold MT; omega))).trans (h.2.1), (h3.2 _ _ _ _ (by first | exact nMT rfl | (unfold MT; omega))).trans (h.2.2.1), (h3.2 _ _ _ _ (by first | exact nMT rfl | (unfold MT; omega))).trans (h.2.2.2.1), trivial⟩)) (pc' := 23) rfl ?_
  exact T_vret zk_66_23 rfl (fun σ' h => ⟨rfl, h.1, ⟨h.2.1, h.2.2.1, h.2.2.2.1, trivial⟩⟩)
/-- W.rowRefusal -/
theorem s_119 {xs : Nat × (Nat → Int32)} (p0 : Int) (u0 : Int) (hp0 : 0 ≤ p0 ∧ p0 ≤ 7) (hu0 : -2147483648 ≤ u0 ∧ u0 ≤ 2147483647) (σ : ZS) (hI : Inv σ)  (s0 : σ 33 0 (Int.toNat p0) 0 = u0) : CT xs 2 119 [av 0 0 0, iv p0] σ (fun v σ' => ∃ y, v = some (iv y) ∧ ((y = -2 ∧ (u0 = 2)) ∨ (y = -3 ∧ ¬ (u0 = 2) ∧ (u0 = 0)) ∨ (y = 0 ∧ ¬ (u0 = 2) ∧ ¬ (u0 = 0))) ∧ IF MN σ σ' ∧ (True)) := by
  refine G_ct (J := (fun σ' => IF MN σ σ' ∧ True)) (L := [(0, av 0 0 0), (1, iv p0)]) (nL := 2) rfl rfl rfl ⟨IF.rf hI, trivial⟩ ?_
  refine T_ld zk_119_0 rfl rfl rfl (pc' := 1) rfl ?_
  refine T_calli (K := fun y1 σ' => ((y1 = 0 ∧ (p0 < 0 ∨ 7 < p0)) ∨ (y1 = 1 ∧ 0 ≤ p0 ∧ p0 ≤ 7)) ∧ (fun σ' => IF MN σ σ' ∧ True) σ') (r := []) zk_119_1 rfl rfl rfl rfl rfl rfl (Or.inl (Or.inl rfl)) (fun σ' h => (w_116 p0 (by omega) σ' h.1.1 ).le (Nat.le_of_ble_eq_true rfl) (fun v σ2 ⟨y, h1, h2, h3, h4⟩ => ⟨y, h1, h2, h.1.tr h3 MN_sub, trivial⟩)) (pc' := 4) rfl (fun y1 => ?_)
  refine G_ex (fun hy1 => ?_)
  refine T_if_ne zk_119_4 (by omega) (pc' := 7) rfl (fun h2 => ?_) (fun h3 => ?_)
  ·
    refine T_ld zk_119_9 rfl rfl rfl (pc' := 10) rfl ?_
    refine T_getR (t' := 27) (i' := 0) (k' := 0) zk_119_10 rfl rfl rfl vd_0 (pc' := 13) rfl ?_
    refine T_ld zk_119_13 rfl rfl rfl (pc' := 14) rfl ?_
    refine G_aald (t' := 33) (im := 0) (i' := 0) (ln := 8) zk_119_14 rfl rfl rfl vd_27 (by omega) (by omega) (by omega) (pc' := 15) rfl ?_
    refine G_getX (w := u0) zk_119_15 rfl (vd_33 (by omega)) (fun σ' h => (h.1.2 _ _ _ _ (fun q => q)).trans s0) (pc' := 18) rfl ?_
    refine T_op zk_119_18 rfl X_ic (pc' := 19) rfl ?_
    refine T_icmp_ne zk_119_19 (by omega) (by omega) (pc' := 22) rfl (fun h4 => ?_) (fun h5 => ?_)
    ·
      refine T_ld zk_119_25 rfl rfl rfl (pc' := 26) rfl ?_
      refine T_getR (t' := 27) (i' := 0) (k' := 0) zk_119_26 rfl rfl rfl vd_0 (pc' := 29) rfl ?_
      refine T_ld zk_119_29 rfl rfl rfl (pc' := 30) rfl ?_
      refine G_aald (t' := 33) (im := 0) (i' := 0) (ln := 8) zk_119_30 rfl rfl rfl vd_27 (by omega) (by omega) (by omega) (pc' := 31) rfl ?_
      refine G_getX (w := u0) zk_119_31 rfl (vd_33 (by omega)) (fun σ' h => (h.1.2 _ _ _ _ (fun q => q)).trans s0) (pc' := 34) rfl ?_
      refine T_if_ne zk_119_34 (by omega) (pc' := 37) rfl (fun h6 => ?_) (fun h7 => ?_)
      ·
        refine T_op zk_119_42 rfl X_ic (pc' := 43) rfl ?_
        exact T_iret zk_119_43 rfl (fun σ' h => ⟨_, rfl, (by omega), h.1, trivial⟩)
      ·
        refine T_op zk_119_37 rfl (X_bi (v := -3) (by decide)) (pc' := 39) rfl ?_
        refine T_goto zk_119_39 ?_
        exact T_iret zk_119_43 rfl (fun σ' h => ⟨_, rfl, (by omega), h.1, trivial⟩)
    ·
      refine T_op zk_119_22 rfl (X_bi (v := -2) (by decide)) (pc' := 24) rfl ?_
      exact T_iret zk_119_24 rfl (fun σ' h => ⟨_, rfl, (by omega), h.1, trivial⟩)
  ·
    refine T_op zk_119_7 rfl X_ic (pc' := 8) rfl ?_
    exact T_iret zk_119_8 rfl (fun σ' h => ⟨_, rfl, (by omega), h.1, trivial⟩)
theorem sb75_040ff15 (v0 : Nat) : ∀ t i k j, MSr v0 t i k j → MSh v0 t i k j := by
  intro t i k j h
  unfold MSr at h
  unfold MSh
  omega
theorem sb75_81bb991 (v0 : Nat) : ∀ t i k j, MI 0 28 28 28 28 t i k j → MSh v0 t i k j := by
  intro t i k j h
  unfold MI at h
  unfold MSh
  omega
/-- W.row -/
theorem s_83 {xs : Nat × (Nat → Int32)} (p0 : Int) (p1 : Int) (p2 : Int) (u0 : Int) (u1 : Int) (u2 : Int) (u3 : Int) (hp0 : 0 ≤ p0 ∧ p0 ≤ 7) (hp1 : -2147483648 ≤ p1 ∧ p1 ≤ 2147483647) (hp2 : -2147483648 ≤ p2 ∧ p2 ≤ 2147483647) (hu0 : -2147483648 ≤ u0 ∧ u0 ≤ 2147483647) (hu1 : -2147483648 ≤ u1 ∧ u1 ≤ 2147483647) (hu2 : 0 ≤ u2 ∧ u2 ≤ 96) (hu3 : -2147483648 ≤ u3 ∧ u3 ≤ 2147483647) (σ : ZS) (hI : Inv σ)  (s0 : σ 33 0 (Int.toNat p0) 0 = u0) (s1 : σ 33 0 (Int.toNat p0) 1 = u1) (s2 : σ 33 0 (Int.toNat p0) 2 = u2) (s3 : σ 33 0 (Int.toNat p0) 3 = u3) : CT xs 3 83 [av 0 0 0, iv p0, iv p1, iv p2] σ (fun v σ' => ∃ y, v = some (iv y) ∧ ((y = -4 ∧ (p2 < 0)) ∨ (y = -6 ∧ ¬ (p2 < 0) ∧ (¬ (0 ≤ p1 ∧ p1 ≤ 3))) ∨ (y = -7 ∧ ¬ (p2 < 0) ∧ ¬ (¬ (0 ≤ p1 ∧ p1 ≤ 3)) ∧ (96 < p2)) ∨ (y = 1 ∧ ¬ (p2 < 0) ∧ ¬ (¬ (0 ≤ p1 ∧ p1 ≤ 3)) ∧ ¬ (96 < p2))) ∧ IF (MSh (Int.toNat p0)) σ σ' ∧ (((y = 1 → σ' 33 0 (Int.toNat p0) 0 = 1) ∧ (¬ y = 1 → σ' 33 0 (Int.toNat p0) 0 = u0)) ∧ ((y = 1 → σ' 33 0 (Int.toNat p0) 1 = p1) ∧ (¬ y = 1 → σ' 33 0 (Int.toNat p0) 1 = u1)) ∧ ((y = 1 → σ' 33 0 (Int.toNat p0) 2 = p2) ∧ (¬ y = 1 → σ' 33 0 (Int.toNat p0) 2 = u2)) ∧ (σ' 33 0 (Int.toNat p0) 3 = u3) ∧ True)) := by
  refine G_ct (J := (fun σ' => IF (MSh (Int.toNat p0)) σ σ' ∧ σ' 33 0 (Int.toNat p0) 0 = u0 ∧ σ' 33 0 (Int.toNat p0) 1 = u1 ∧ σ' 33 0 (Int.toNat p0) 2 = u2 ∧ σ' 33 0 (Int.toNat p0) 3 = u3 ∧ True)) (L := [(0, av 0 0 0), (1, iv p0), (2, iv p1), (3, iv p2)]) (nL := 4) rfl rfl rfl ⟨IF.rf hI, s0, s1, s2, s3, trivial⟩ ?_
  refine T_ld zk_83_0 rfl rfl rfl (pc' := 1) rfl ?_
  refine T_calli (K := fun y1 σ' => ((y1 = 0 ∧ (p0 < 0 ∨ 7 < p0)) ∨ (y1 = 1 ∧ 0 ≤ p0 ∧ p0 ≤ 7)) ∧ (fun σ' => IF (MSh (Int.toNat p0)) σ σ' ∧ σ' 33 0 (Int.toNat p0) 0 = u0 ∧ σ' 33 0 (Int.toNat p0) 1 = u1 ∧ σ' 33 0 (Int.toNat p0) 2 = u2 ∧ σ' 33 0 (Int.toNat p0) 3 = u3 ∧ True) σ') (r := []) zk_83_1 rfl rfl rfl rfl rfl rfl (Or.inl (Or.inl rfl)) (fun σ' h => (w_116 p0 (by omega) σ' h.1.1 ).le (Nat.le_of_ble_eq_true rfl) (fun v σ2 ⟨y, h1, h2, h3, h4⟩ => ⟨y, h1, h2, h.1.tr h3 MN_sub, (h3.2 _ _ _ _ (fun q => q)).trans (h.2.1), (h3.2 _ _ _ _ (fun q => q)).trans (h.2.2.1), (h3.2 _ _ _ _ (fun q => q)).trans (h.2.2.2.1), (h3.2 _ _ _ _ (fun q => q)).trans (h.2.2.2.2.1), trivial⟩)) (pc' := 4) rfl (fun y1 => ?_)
  refine G_ex (fun hy1 => ?_)
  refine T_if_ne zk_83_4 (by omega) (pc' := 7) rfl (fun h2 => ?_) (fun h3 => ?_)
  ·
    refine T_ld zk_83_13 rfl rfl rfl (pc' := 14) rfl ?_
    refine T_if_ge zk_83_14 (by omega) (pc' := 17) rfl (fun h4 => ?_) (fun h5 => ?_)
    ·
      refine T_ld zk_83_24 rfl rfl rfl (pc' := 25) rfl ?_
      refine T_op zk_83_25 rfl X_ic (pc' := 26) rfl ?_
      refine T_op zk_83_26 rfl X_ic (pc' := 27) rfl ?_
      refine T_calli (K := fun y6 σ' => ((y6 = 0 ∧ (p1 < 0 ∨ 3 < p1)) ∨ (y6 = 1 ∧ 0 ≤ p1 ∧ p1 ≤ 3)) ∧ (fun σ' => IF (MSh (Int.toNat p0)) σ σ' ∧ σ' 33 0 (Int.toNat p0) 0 = u0 ∧ σ' 33 0 (Int.toNat p0) 1 = u1 ∧ σ' 33 0 (Int.toNat p0) 2 = u2 ∧ σ' 33 0 (Int.toNat p0) 3 = u3 ∧ True) σ') (r := []) zk_83_27 rfl rfl rfl rfl rfl rfl (Or.inl (Or.inl rfl)) (fun σ' h => (w_114 p1 0 3 (by omega) (by omega) (by omega) σ' h.1.1 ).le (Nat.le_of_ble_eq_true rfl) (fun v σ2 ⟨y, h1, h2, h3, h4⟩ => ⟨y, h1, h2, h.1.tr h3 MN_sub, (h3.2 _ _ _ _ (fun q => q)).trans (h.2.1), (h3.2 _ _ _ _ (fun q => q)).trans (h.2.2.1), (h3.2 _ _ _ _ (fun q => q)).trans (h.2.2.2.1), (h3.2 _ _ _ _ (fun q => q)).trans (h.2.2.2.2.1), trivial⟩)) (pc' := 30) rfl (fun y6 => ?_)
      refine G_ex (fun hy6 => ?_)
      refine T_if_ne zk_83_30 (by omega) (pc' := 33) rfl (fun h7 => ?_) (fun h8 => ?_)
      ·
        refine T_ld zk_83_40 rfl rfl rfl (pc' := 41) rfl ?_
        refine T_op zk_83_41 rfl (X_bi (v := 96) (by decide)) (pc' := 43) rfl ?_
        refine T_icmp_le zk_83_43 (by omega) (by omega) (pc' := 46) rfl (fun h9 => ?_) (fun h10 => ?_)
        ·
          refine T_ld zk_83_53 rfl rfl rfl (pc' := 54) rfl ?_
          refine T_getR (t' := 27) (i' := 0) (k' := 0) zk_83_54 rfl rfl rfl vd_0 (pc' := 57) rfl ?_
          refine T_ld zk_83_57 rfl rfl rfl (pc' := 58) rfl ?_
          refine G_aald (t' := 33) (im := 0) (i' := 0) (ln := 8) zk_83_58 rfl rfl rfl vd_27 (by omega) (by omega) (by omega) (pc' := 59) rfl ?_
          refine T_ld zk_83_59 rfl rfl rfl (pc' := 60) rfl ?_
          refine T_ld zk_83_60 rfl rfl rfl (pc' := 61) rfl ?_
          refine T_callv (J' := (fun σ' => IF (MSh (Int.toNat p0)) σ σ' ∧ σ' 33 0 (Int.toNat p0) 3 = u3 ∧ σ' 33 0 (Int.toNat p0) 0 = 1 ∧ σ' 33 0 (Int.toNat p0) 1 = p1 ∧ σ' 33 0 (Int.toNat p0) 2 = p2 ∧ True)) (r := []) zk_83_61 rfl rfl rfl rfl rfl rfl (Or.inr ⟨_, _, _, _, rfl, (vd_33 (by omega)), rfl⟩) (fun σ' h => (s_66 (Int.toNat p0) p1 p2 (by omega) (by omega) (by omega) σ' h.1.1 ).le (Nat.le_of_ble_eq_true rfl) (fun v σ2 ⟨h1, h3, h4⟩ => ⟨h1, h.1.tr h3 (sb75_040ff15 (Int.toNat p0)), (h3.2 _ _ _ _ (by first | exact nMSr rfl | (unfold MSr; omega))).trans (h.2.2.2.2.1), h4.1, h4.2.1, h4.2.2.1, trivial⟩)) (pc' := 64) rfl ?_
          refine T_op zk_83_64 rfl X_ic (pc' := 65) rfl ?_
          exact T_iret zk_83_65 rfl (fun σ' h => ⟨_, rfl, (by omega), h.1, ⟨(by have e := h.2.2.1; omega), (by have e := h.2.2.2.1; omega), (by have e := h.2.2.2.2.1; omega), (by have e := h.2.1; omega), trivial⟩⟩)
        ·
          refine T_ld zk_83_46 rfl rfl rfl (pc' := 47) rfl ?_
          refine T_op zk_83_47 rfl (X_bi (v := -7) (by decide)) (pc' := 49) rfl ?_
          refine T_calli (K := fun y12 σ' => (y12 = (-7)) ∧ (fun σ' => IF (MSh (Int.toNat p0)) σ σ' ∧ σ' 33 0 (Int.toNat p0) 0 = u0 ∧ σ' 33 0 (Int.toNat p0) 1 = u1 ∧ σ' 33 0 (Int.toNat p0) 2 = u2 ∧ σ' 33 0 (Int.toNat p0) 3 = u3 ∧ True) σ') (r := []) zk_83_49 rfl rfl rfl rfl rfl rfl (Or.inr ⟨_, _, _, _, rfl, vd_0, rfl⟩) (fun σ' h => (w_113 ((-7)) (by omega) σ' h.1.1 ).le (Nat.le_of_ble_eq_true rfl) (fun v σ2 ⟨y, h1, h2, h3, h4⟩ => ⟨y, h1, h2, h.1.tr h3 (sb75_81bb991 (Int.toNat p0)), (h3.2 _ _ _ _ (by first | exact nMI rfl | (unfold MI; omega))).trans (h.2.1), (h3.2 _ _ _ _ (by first | exact nMI rfl | (unfold MI; omega))).trans (h.2.2.1), (h3.2 _ _ _ _ (by first | exact nMI rfl | (unfold MI; omega))).trans (h.2.2.2.1), (h3.2 _ _ _ _ (by first | exact nMI rfl | (unfold MI; omega))).trans (h.2.2.2.2.1), trivial⟩)) (pc' := 52) rfl (fun y12 => ?_)
          refine G_ex (fun hy12 => ?_)
          obtain rfl : y12 = (-7) := by omega
          exact T_iret zk_83_52 rfl (fun σ' h => ⟨_, rfl, (by omega), h.1, ⟨(by have e := h.2.1; omega), (by have e := h.2.2.1; omega), (by have e := h.2.2.2.1; omega), (by have e := h.2.2.2.2.1; omega), trivial⟩⟩)
      ·
        refine T_ld zk_83_33 rfl rfl rfl (pc' := 34) rfl ?_
        refine T_op zk_83_34 rfl (X_bi (v := -6) (by decide)) (pc' := 36) rfl ?_
        refine T_calli (K := fun y13 σ' => (y13 = (-6)) ∧ (fun σ' => IF (MSh (Int.toNat p0)) σ σ' ∧ σ' 33 0 (Int.toNat p0) 0 = u0 ∧ σ' 33 0 (Int.toNat p0) 1 = u1 ∧ σ' 33 0 (Int.toNat p0) 2 = u2 ∧ σ' 33 0 (Int.toNat p0) 3 = u3 ∧ True) σ') (r := []) zk_83_36 rfl rfl rfl rfl rfl rfl (Or.inr ⟨_, _, _, _, rfl, vd_0, rfl⟩) (fun σ' h => (w_113 ((-6)) (by omega) σ' h.1.1 ).le (Nat.le_of_ble_eq_true rfl) (fun v σ2 ⟨y, h1, h2, h3, h4⟩ => ⟨y, h1, h2, h.1.tr h3 (sb75_81bb991 (Int.toNat p0)), (h3.2 _ _ _ _ (by first | exact nMI rfl | (unfold MI; omega))).trans (h.2.1), (h3.2 _ _ _ _ (by first | exact nMI rfl | (unfold MI; omega))).trans (h.2.2.1), (h3.2 _ _ _ _ (by first | exact nMI rfl | (unfold MI; omega))).trans (h.2.2.2.1), (h3.2 _ _ _ _ (by first | exact nMI rfl | (unfold MI; omega))).trans (h.2.2.2.2.1), trivial⟩)) (pc' := 39) rfl (fun y13 => ?_)
        refine G_ex (fun hy13 => ?_)
        obtain rfl : y13 = (-6) := by omega
        exact T_iret zk_83_39 rfl (fun σ' h => ⟨_, rfl, (by omega), h.1, ⟨(by have e := h.2.1; omega), (by have e := h.2.2.1; omega), (by have e := h.2.2.2.1; omega), (by have e := h.2.2.2.2.1; omega), trivial⟩⟩)
    ·
      refine T_ld zk_83_17 rfl rfl rfl (pc' := 18) rfl ?_
      refine T_op zk_83_18 rfl (X_bi (v := -4) (by decide)) (pc' := 20) rfl ?_
      refine T_calli (K := fun y14 σ' => (y14 = (-4)) ∧ (fun σ' => IF (MSh (Int.toNat p0)) σ σ' ∧ σ' 33 0 (Int.toNat p0) 0 = u0 ∧ σ' 33 0 (Int.toNat p0) 1 = u1 ∧ σ' 33 0 (Int.toNat p0) 2 = u2 ∧ σ' 33 0 (Int.toNat p0) 3 = u3 ∧ True) σ') (r := []) zk_83_20 rfl rfl rfl rfl rfl rfl (Or.inr ⟨_, _, _, _, rfl, vd_0, rfl⟩) (fun σ' h => (w_113 ((-4)) (by omega) σ' h.1.1 ).le (Nat.le_of_ble_eq_true rfl) (fun v σ2 ⟨y, h1, h2, h3, h4⟩ => ⟨y, h1, h2, h.1.tr h3 (sb75_81bb991 (Int.toNat p0)), (h3.2 _ _ _ _ (by first | exact nMI rfl | (unfold MI; omega))).trans (h.2.1), (h3.2 _ _ _ _ (by first | exact nMI rfl | (unfold MI; omega))).trans (h.2.2.1), (h3.2 _ _ _ _ (by first | exact nMI rfl | (unfold MI; omega))).trans (h.2.2.2.1), (h3.2 _ _ _ _ (by first | exact nMI rfl | (unfold MI; omega))).trans (h.2.2.2.2.1), trivial⟩)) (pc' := 23) rfl (fun y14 => ?_)
      refine G_ex (fun hy14 => ?_)
      obtain rfl : y14 = (-4) := by omega
      exact T_iret zk_83_23 rfl (fun σ' h => ⟨_, rfl, (by omega), h.1, ⟨(by have e := h.2.1; omega), (by have e := h.2.2.1; omega), (by have e := h.2.2.2.1; omega), (by have e := h.2.2.2.2.1; omega), trivial⟩⟩)
  ·
    refine T_ld zk_83_7 rfl rfl rfl (pc' := 8) rfl ?_
    refine T_op zk_83_8 rfl X_ic (pc' := 9) rfl ?_
    refine T_calli (K := fun y15 σ' => (y15 = (-1)) ∧ (fun σ' => IF (MSh (Int.toNat p0)) σ σ' ∧ σ' 33 0 (Int.toNat p0) 0 = u0 ∧ σ' 33 0 (Int.toNat p0) 1 = u1 ∧ σ' 33 0 (Int.toNat p0) 2 = u2 ∧ σ' 33 0 (Int.toNat p0) 3 = u3 ∧ True) σ') (r := []) zk_83_9 rfl rfl rfl rfl rfl rfl (Or.inr ⟨_, _, _, _, rfl, vd_0, rfl⟩) (fun σ' h => (w_113 ((-1)) (by omega) σ' h.1.1 ).le (Nat.le_of_ble_eq_true rfl) (fun v σ2 ⟨y, h1, h2, h3, h4⟩ => ⟨y, h1, h2, h.1.tr h3 (sb75_81bb991 (Int.toNat p0)), (h3.2 _ _ _ _ (by first | exact nMI rfl | (unfold MI; omega))).trans (h.2.1), (h3.2 _ _ _ _ (by first | exact nMI rfl | (unfold MI; omega))).trans (h.2.2.1), (h3.2 _ _ _ _ (by first | exact nMI rfl | (unfold MI; omega))).trans (h.2.2.2.1), (h3.2 _ _ _ _ (by first | exact nMI rfl | (unfold MI; omega))).trans (h.2.2.2.2.1), trivial⟩)) (pc' := 12) rfl (fun y15 => ?_)
    refine G_ex (fun hy15 => ?_)
    obtain rfl : y15 = (-1) := by omega
    exact T_iret zk_83_12 rfl (fun σ' h => ⟨_, rfl, (by omega), h.1, ⟨(by have e := h.2.1; omega), (by have e := h.2.2.1; omega), (by have e := h.2.2.2.1; omega), (by have e := h.2.2.2.2.1; omega), trivial⟩⟩)
/-- W.row -/
theorem s_83o {xs : Nat × (Nat → Int32)} (p0 : Int) (p1 : Int) (p2 : Int) (hp0 : -2147483648 ≤ p0 ∧ p0 ≤ 2147483647) (hp1 : -2147483648 ≤ p1 ∧ p1 ≤ 2147483647) (hp2 : -2147483648 ≤ p2 ∧ p2 ≤ 2147483647) (ho : p0 < 0 ∨ 7 < p0) (σ : ZS) (hI : Inv σ)   : CT xs 3 83 [av 0 0 0, iv p0, iv p1, iv p2] σ (fun v σ' => ∃ y, v = some (iv y) ∧ (y = -1) ∧ IF (MI 0 28 28 28 28) σ σ' ∧ (True)) := by
  refine G_ct (J := (fun σ' => IF (MI 0 28 28 28 28) σ σ' ∧ True)) (L := [(0, av 0 0 0), (1, iv p0), (2, iv p1), (3, iv p2)]) (nL := 4) rfl rfl rfl ⟨IF.rf hI, trivial⟩ ?_
  refine T_ld zk_83_0 rfl rfl rfl (pc' := 1) rfl ?_
  refine T_calli (K := fun y1 σ' => ((y1 = 0 ∧ (p0 < 0 ∨ 7 < p0)) ∨ (y1 = 1 ∧ 0 ≤ p0 ∧ p0 ≤ 7)) ∧ (fun σ' => IF (MI 0 28 28 28 28) σ σ' ∧ True) σ') (r := []) zk_83_1 rfl rfl rfl rfl rfl rfl (Or.inl (Or.inl rfl)) (fun σ' h => (w_116 p0 (by omega) σ' h.1.1 ).le (Nat.le_of_ble_eq_true rfl) (fun v σ2 ⟨y, h1, h2, h3, h4⟩ => ⟨y, h1, h2, h.1.tr h3 MN_sub, trivial⟩)) (pc' := 4) rfl (fun y1 => ?_)
  refine G_ex (fun hy1 => ?_)
  refine T_if_ne zk_83_4 (by omega) (pc' := 7) rfl (fun h2 => ?_) (fun h3 => ?_)
  · exfalso; omega
  ·
    refine T_ld zk_83_7 rfl rfl rfl (pc' := 8) rfl ?_
    refine T_op zk_83_8 rfl X_ic (pc' := 9) rfl ?_
    refine T_calli (K := fun y4 σ' => (y4 = (-1)) ∧ (fun σ' => IF (MI 0 28 28 28 28) σ σ' ∧ True) σ') (r := []) zk_83_9 rfl rfl rfl rfl rfl rfl (Or.inr ⟨_, _, _, _, rfl, vd_0, rfl⟩) (fun σ' h => (w_113 ((-1)) (by omega) σ' h.1.1 ).le (Nat.le_of_ble_eq_true rfl) (fun v σ2 ⟨y, h1, h2, h3, h4⟩ => ⟨y, h1, h2, h.1.tr h3 (fun _ _ _ _ h => h), trivial⟩)) (pc' := 12) rfl (fun y4 => ?_)
    refine G_ex (fun hy4 => ?_)
    obtain rfl : y4 = (-1) := by omega
    exact T_iret zk_83_12 rfl (fun σ' h => ⟨_, rfl, (by omega), h.1, trivial⟩)
theorem sb75_a995968 (v0 : Nat) : ∀ t i k j, MI 0 28 28 28 28 t i k j → MSw v0 t i k j := by
  intro t i k j h
  unfold MI at h
  unfold MSw
  omega
/-- W.show -/
theorem s_87 {xs : Nat × (Nat → Int32)} (p0 : Int) (p1 : Int) (n : Int) (u0 : Int) (u1 : Int) (u2 : Int) (u3 : Int) (hp0 : 0 ≤ p0 ∧ p0 ≤ 7) (hp1 : -2147483648 ≤ p1 ∧ p1 ≤ 2147483647) (hn : 0 ≤ n ∧ n ≤ 12) (hu0 : -2147483648 ≤ u0 ∧ u0 ≤ 2147483647) (hu1 : -2147483648 ≤ u1 ∧ u1 ≤ 2147483647) (hu2 : 0 ≤ u2 ∧ u2 ≤ 96) (hu3 : -2147483648 ≤ u3 ∧ u3 ≤ 2147483647) (σ : ZS) (hI : Inv σ)  (q0 : σ 1 0 0 6 = n) (s0 : σ 33 0 (Int.toNat p0) 0 = u0) (s1 : σ 33 0 (Int.toNat p0) 1 = u1) (s2 : σ 33 0 (Int.toNat p0) 2 = u2) (s3 : σ 33 0 (Int.toNat p0) 3 = u3) : CT xs 3 87 [av 0 0 0, iv p0, iv p1] σ (fun v σ' => ∃ y, v = some (iv y) ∧ ((y = -1 ∧ (¬ (p1 = -1 ∨ (0 ≤ p1 ∧ p1 < n)))) ∨ (y = 0 ∧ ¬ (¬ (p1 = -1 ∨ (0 ≤ p1 ∧ p1 < n))) ∧ (p1 = -1)) ∨ (y = 1 ∧ ¬ (¬ (p1 = -1 ∨ (0 ≤ p1 ∧ p1 < n))) ∧ ¬ (p1 = -1))) ∧ IF (MSw (Int.toNat p0)) σ σ' ∧ (((y = 1 → σ' 33 0 (Int.toNat p0) 0 = 2) ∧ (y = 0 → σ' 33 0 (Int.toNat p0) 0 = 0) ∧ (y < 0 → σ' 33 0 (Int.toNat p0) 0 = u0)) ∧ (σ' 33 0 (Int.toNat p0) 1 = u1) ∧ (σ' 33 0 (Int.toNat p0) 2 = u2) ∧ ((y = 1 → σ' 33 0 (Int.toNat p0) 3 = p1) ∧ (y < 0 → σ' 33 0 (Int.toNat p0) 3 = u3)) ∧ True)) := by
  refine G_ct (J := (fun σ' => IF (MSw (Int.toNat p0)) σ σ' ∧ σ' 33 0 (Int.toNat p0) 0 = u0 ∧ σ' 33 0 (Int.toNat p0) 1 = u1 ∧ σ' 33 0 (Int.toNat p0) 2 = u2 ∧ σ' 33 0 (Int.toNat p0) 3 = u3 ∧ True)) (L := [(0, av 0 0 0), (1, iv p0), (2, iv p1)]) (nL := 3) rfl rfl rfl ⟨IF.rf hI, s0, s1, s2, s3, trivial⟩ ?_
  refine T_ld zk_87_0 rfl rfl rfl (pc' := 1) rfl ?_
  refine T_calli (K := fun y1 σ' => ((y1 = 0 ∧ (p0 < 0 ∨ 7 < p0)) ∨ (y1 = 1 ∧ 0 ≤ p0 ∧ p0 ≤ 7)) ∧ (fun σ' => IF (MSw (Int.toNat p0)) σ σ' ∧ σ' 33 0 (Int.toNat p0) 0 = u0 ∧ σ' 33 0 (Int.toNat p0) 1 = u1 ∧ σ' 33 0 (Int.toNat p0) 2 = u2 ∧ σ' 33 0 (Int.toNat p0) 3 = u3 ∧ True) σ') (r := []) zk_87_1 rfl rfl rfl rfl rfl rfl (Or.inl (Or.inl rfl)) (fun σ' h => (w_116 p0 (by omega) σ' h.1.1 ).le (Nat.le_of_ble_eq_true rfl) (fun v σ2 ⟨y, h1, h2, h3, h4⟩ => ⟨y, h1, h2, h.1.tr h3 MN_sub, (h3.2 _ _ _ _ (fun q => q)).trans (h.2.1), (h3.2 _ _ _ _ (fun q => q)).trans (h.2.2.1), (h3.2 _ _ _ _ (fun q => q)).trans (h.2.2.2.1), (h3.2 _ _ _ _ (fun q => q)).trans (h.2.2.2.2.1), trivial⟩)) (pc' := 4) rfl (fun y1 => ?_)
  refine G_ex (fun hy1 => ?_)
  refine T_if_eq zk_87_4 (by omega) (pc' := 7) rfl (fun h2 => ?_) (fun h3 => ?_)
  ·
    refine T_ld zk_87_20 rfl rfl rfl (pc' := 21) rfl ?_
    refine T_op zk_87_21 rfl X_ic (pc' := 22) rfl ?_
    refine T_calli (K := fun y4 σ' => (y4 = (-1)) ∧ (fun σ' => IF (MSw (Int.toNat p0)) σ σ' ∧ σ' 33 0 (Int.toNat p0) 0 = u0 ∧ σ' 33 0 (Int.toNat p0) 1 = u1 ∧ σ' 33 0 (Int.toNat p0) 2 = u2 ∧ σ' 33 0 (Int.toNat p0) 3 = u3 ∧ True) σ') (r := []) zk_87_22 rfl rfl rfl rfl rfl rfl (Or.inr ⟨_, _, _, _, rfl, vd_0, rfl⟩) (fun σ' h => (w_113 ((-1)) (by omega) σ' h.1.1 ).le (Nat.le_of_ble_eq_true rfl) (fun v σ2 ⟨y, h1, h2, h3, h4⟩ => ⟨y, h1, h2, h.1.tr h3 (sb75_a995968 (Int.toNat p0)), (h3.2 _ _ _ _ (by first | exact nMI rfl | (unfold MI; omega))).trans (h.2.1), (h3.2 _ _ _ _ (by first | exact nMI rfl | (unfold MI; omega))).trans (h.2.2.1), (h3.2 _ _ _ _ (by first | exact nMI rfl | (unfold MI; omega))).trans (h.2.2.2.1), (h3.2 _ _ _ _ (by first | exact nMI rfl | (unfold MI; omega))).trans (h.2.2.2.2.1), trivial⟩)) (pc' := 25) rfl (fun y4 => ?_)
    refine G_ex (fun hy4 => ?_)
    obtain rfl : y4 = (-1) := by omega
    exact T_iret zk_87_25 rfl (fun σ' h => ⟨_, rfl, (by omega), h.1, ⟨(by have e := h.2.1; omega), (by have e := h.2.2.1; omega), (by have e := h.2.2.2.1; omega), (by have e := h.2.2.2.2.1; omega), trivial⟩⟩)
  ·
    refine T_ld zk_87_7 rfl rfl rfl (pc' := 8) rfl ?_
    refine T_op zk_87_8 rfl X_ic (pc' := 9) rfl ?_
    refine T_icmp_eq zk_87_9 (by omega) (by omega) (pc' := 12) rfl (fun h5 => ?_) (fun h6 => ?_)
    ·
      refine T_ld zk_87_26 rfl rfl rfl (pc' := 27) rfl ?_
      refine T_op zk_87_27 rfl X_ic (pc' := 28) rfl ?_
      refine T_icmp_ne zk_87_28 (by omega) (by omega) (pc' := 31) rfl (fun h7 => ?_) (fun h8 => ?_)
      · exfalso; omega
      ·
        refine T_ld zk_87_31 rfl rfl rfl (pc' := 32) rfl ?_
        refine T_getR (t' := 27) (i' := 0) (k' := 0) zk_87_32 rfl rfl rfl vd_0 (pc' := 35) rfl ?_
        refine T_ld zk_87_35 rfl rfl rfl (pc' := 36) rfl ?_
        refine G_aald (t' := 33) (im := 0) (i' := 0) (ln := 8) zk_87_36 rfl rfl rfl vd_27 (by omega) (by omega) (by omega) (pc' := 37) rfl ?_
        refine T_op zk_87_37 rfl X_ic (pc' := 38) rfl ?_
        refine T_putf (J' := (fun σ' => IF (MSw (Int.toNat p0)) σ σ' ∧ σ' 33 0 (Int.toNat p0) 1 = u1 ∧ σ' 33 0 (Int.toNat p0) 2 = u2 ∧ σ' 33 0 (Int.toNat p0) 3 = u3 ∧ σ' 33 0 (Int.toNat p0) 0 = 0 ∧ True)) zk_87_38 rfl rfl (vd_33 (by omega)) (fun σ' h => ⟨h.1.up (by simp only [rgP] <;> omega) (by first | exact pMSw rfl | (unfold MSw; omega)), (up_ne (by omega)).trans (h.2.2.1), (up_ne (by omega)).trans (h.2.2.2.1), (up_ne (by omega)).trans (h.2.2.2.2.1), up_eq, trivial⟩) (pc' := 41) rfl ?_
        refine T_op zk_87_41 rfl X_ic (pc' := 42) rfl ?_
        exact T_iret zk_87_42 rfl (fun σ' h => ⟨_, rfl, (by omega), h.1, ⟨(by have e := h.2.2.2.2.1; omega), (by have e := h.2.1; omega), (by have e := h.2.2.1; omega), (by have e := h.2.2.2.1; omega), trivial⟩⟩)
    ·
      refine T_ld zk_87_12 rfl rfl rfl (pc' := 13) rfl ?_
      refine T_ld zk_87_13 rfl rfl rfl (pc' := 14) rfl ?_
      refine T_calli (K := fun y9 σ' => ((y9 = 0 ∧ (p1 < 0 ∨ n ≤ p1)) ∨ (y9 = 1 ∧ 0 ≤ p1 ∧ p1 < n)) ∧ (fun σ' => IF (MSw (Int.toNat p0)) σ σ' ∧ σ' 33 0 (Int.toNat p0) 0 = u0 ∧ σ' 33 0 (Int.toNat p0) 1 = u1 ∧ σ' 33 0 (Int.toNat p0) 2 = u2 ∧ σ' 33 0 (Int.toNat p0) 3 = u3 ∧ True) σ') (r := []) zk_87_14 rfl rfl rfl rfl rfl rfl (Or.inr ⟨_, _, _, _, rfl, vd_0, rfl⟩) (fun σ' h => (w_117 p1 n (by omega) (by omega) σ' h.1.1 ((h.1.2 _ _ _ _ (by first | exact nMSw rfl | (unfold MSw; omega))).trans q0)).le (Nat.le_of_ble_eq_true rfl) (fun v σ2 ⟨y, h1, h2, h3, h4⟩ => ⟨y, h1, h2, h.1.tr h3 MN_sub, (h3.2 _ _ _ _ (fun q => q)).trans (h.2.1), (h3.2 _ _ _ _ (fun q => q)).trans (h.2.2.1), (h3.2 _ _ _ _ (fun q => q)).trans (h.2.2.2.1), (h3.2 _ _ _ _ (fun q => q)).trans (h.2.2.2.2.1), trivial⟩)) (pc' := 17) rfl (fun y9 => ?_)
      refine G_ex (fun hy9 => ?_)
      refine T_if_ne zk_87_17 (by omega) (pc' := 20) rfl (fun h10 => ?_) (fun h11 => ?_)
      ·
        refine T_ld zk_87_26 rfl rfl rfl (pc' := 27) rfl ?_
        refine T_op zk_87_27 rfl X_ic (pc' := 28) rfl ?_
        refine T_icmp_ne zk_87_28 (by omega) (by omega) (pc' := 31) rfl (fun h12 => ?_) (fun h13 => ?_)
        ·
          refine T_ld zk_87_43 rfl rfl rfl (pc' := 44) rfl ?_
          refine T_getR (t' := 27) (i' := 0) (k' := 0) zk_87_44 rfl rfl rfl vd_0 (pc' := 47) rfl ?_
          refine T_ld zk_87_47 rfl rfl rfl (pc' := 48) rfl ?_
          refine G_aald (t' := 33) (im := 0) (i' := 0) (ln := 8) zk_87_48 rfl rfl rfl vd_27 (by omega) (by omega) (by omega) (pc' := 49) rfl ?_
          refine T_op zk_87_49 rfl X_ic (pc' := 50) rfl ?_
          refine T_putf (J' := (fun σ' => IF (MSw (Int.toNat p0)) σ σ' ∧ σ' 33 0 (Int.toNat p0) 1 = u1 ∧ σ' 33 0 (Int.toNat p0) 2 = u2 ∧ σ' 33 0 (Int.toNat p0) 3 = u3 ∧ σ' 33 0 (Int.toNat p0) 0 = 2 ∧ True)) zk_87_50 rfl rfl (vd_33 (by omega)) (fun σ' h => ⟨h.1.up (by simp only [rgP] <;> omega) (by first | exact pMSw rfl | (unfold MSw; omega)), (up_ne (by omega)).trans (h.2.2.1), (up_ne (by omega)).trans (h.2.2.2.1), (up_ne (by omega)).trans (h.2.2.2.2.1), up_eq, trivial⟩) (pc' := 53) rfl ?_
          refine T_ld zk_87_53 rfl rfl rfl (pc' := 54) rfl ?_
          refine T_getR (t' := 27) (i' := 0) (k' := 0) zk_87_54 rfl rfl rfl vd_0 (pc' := 57) rfl ?_
          refine T_ld zk_87_57 rfl rfl rfl (pc' := 58) rfl ?_
          refine G_aald (t' := 33) (im := 0) (i' := 0) (ln := 8) zk_87_58 rfl rfl rfl vd_27 (by omega) (by omega) (by omega) (pc' := 59) rfl ?_
          refine T_ld zk_87_59 rfl rfl rfl (pc' := 60) rfl ?_
          refine T_putf (J' := (fun σ' => IF (MSw (Int.toNat p0)) σ σ' ∧ σ' 33 0 (Int.toNat p0) 1 = u1 ∧ σ' 33 0 (Int.toNat p0) 2 = u2 ∧ σ' 33 0 (Int.toNat p0) 0 = 2 ∧ σ' 33 0 (Int.toNat p0) 3 = p1 ∧ True)) zk_87_60 rfl rfl (vd_33 (by omega)) (fun σ' h => ⟨h.1.up (by simp only [rgP] <;> omega) (by first | exact pMSw rfl | (unfold MSw; omega)), (up_ne (by omega)).trans (h.2.1), (up_ne (by omega)).trans (h.2.2.1), (up_ne (by omega)).trans (h.2.2.2.2.1), up_eq, trivial⟩) (pc' := 63) rfl ?_
          refine T_op zk_87_63 rfl X_ic (pc' := 64) rfl ?_
          exact T_iret zk_87_64 rfl (fun σ' h => ⟨_, rfl, (by omega), h.1, ⟨(by have e := h.2.2.2.1; omega), (by have e := h.2.1; omega), (by have e := h.2.2.1; omega), (by have e := h.2.2.2.2.1; omega), trivial⟩⟩)
        · exfalso; omega
      ·
        refine T_ld zk_87_20 rfl rfl rfl (pc' := 21) rfl ?_
        refine T_op zk_87_21 rfl X_ic (pc' := 22) rfl ?_
        refine T_calli (K := fun y14 σ' => (y14 = (-1)) ∧ (fun σ' => IF (MSw (Int.toNat p0)) σ σ' ∧ σ' 33 0 (Int.toNat p0) 0 = u0 ∧ σ' 33 0 (Int.toNat p0) 1 = u1 ∧ σ' 33 0 (Int.toNat p0) 2 = u2 ∧ σ' 33 0 (Int.toNat p0) 3 = u3 ∧ True) σ') (r := []) zk_87_22 rfl rfl rfl rfl rfl rfl (Or.inr ⟨_, _, _, _, rfl, vd_0, rfl⟩) (fun σ' h => (w_113 ((-1)) (by omega) σ' h.1.1 ).le (Nat.le_of_ble_eq_true rfl) (fun v σ2 ⟨y, h1, h2, h3, h4⟩ => ⟨y, h1, h2, h.1.tr h3 (sb75_a995968 (Int.toNat p0)), (h3.2 _ _ _ _ (by first | exact nMI rfl | (unfold MI; omega))).trans (h.2.1), (h3.2 _ _ _ _ (by first | exact nMI rfl | (unfold MI; omega))).trans (h.2.2.1), (h3.2 _ _ _ _ (by first | exact nMI rfl | (unfold MI; omega))).trans (h.2.2.2.1), (h3.2 _ _ _ _ (by first | exact nMI rfl | (unfold MI; omega))).trans (h.2.2.2.2.1), trivial⟩)) (pc' := 25) rfl (fun y14 => ?_)
        refine G_ex (fun hy14 => ?_)
        obtain rfl : y14 = (-1) := by omega
        exact T_iret zk_87_25 rfl (fun σ' h => ⟨_, rfl, (by omega), h.1, ⟨(by have e := h.2.1; omega), (by have e := h.2.2.1; omega), (by have e := h.2.2.2.1; omega), (by have e := h.2.2.2.2.1; omega), trivial⟩⟩)
/-- W.show -/
theorem s_87o {xs : Nat × (Nat → Int32)} (p0 : Int) (p1 : Int) (hp0 : -2147483648 ≤ p0 ∧ p0 ≤ 2147483647) (hp1 : -2147483648 ≤ p1 ∧ p1 ≤ 2147483647) (ho : p0 < 0 ∨ 7 < p0) (σ : ZS) (hI : Inv σ)   : CT xs 3 87 [av 0 0 0, iv p0, iv p1] σ (fun v σ' => ∃ y, v = some (iv y) ∧ (y = -1) ∧ IF (MI 0 28 28 28 28) σ σ' ∧ (True)) := by
  refine G_ct (J := (fun σ' => IF (MI 0 28 28 28 28) σ σ' ∧ True)) (L := [(0, av 0 0 0), (1, iv p0), (2, iv p1)]) (nL := 3) rfl rfl rfl ⟨IF.rf hI, trivial⟩ ?_
  refine T_ld zk_87_0 rfl rfl rfl (pc' := 1) rfl ?_
  refine T_calli (K := fun y1 σ' => ((y1 = 0 ∧ (p0 < 0 ∨ 7 < p0)) ∨ (y1 = 1 ∧ 0 ≤ p0 ∧ p0 ≤ 7)) ∧ (fun σ' => IF (MI 0 28 28 28 28) σ σ' ∧ True) σ') (r := []) zk_87_1 rfl rfl rfl rfl rfl rfl (Or.inl (Or.inl rfl)) (fun σ' h => (w_116 p0 (by omega) σ' h.1.1 ).le (Nat.le_of_ble_eq_true rfl) (fun v σ2 ⟨y, h1, h2, h3, h4⟩ => ⟨y, h1, h2, h.1.tr h3 MN_sub, trivial⟩)) (pc' := 4) rfl (fun y1 => ?_)
  refine G_ex (fun hy1 => ?_)
  refine T_if_eq zk_87_4 (by omega) (pc' := 7) rfl (fun h2 => ?_) (fun h3 => ?_)
  ·
    refine T_ld zk_87_20 rfl rfl rfl (pc' := 21) rfl ?_
    refine T_op zk_87_21 rfl X_ic (pc' := 22) rfl ?_
    refine T_calli (K := fun y4 σ' => (y4 = (-1)) ∧ (fun σ' => IF (MI 0 28 28 28 28) σ σ' ∧ True) σ') (r := []) zk_87_22 rfl rfl rfl rfl rfl rfl (Or.inr ⟨_, _, _, _, rfl, vd_0, rfl⟩) (fun σ' h => (w_113 ((-1)) (by omega) σ' h.1.1 ).le (Nat.le_of_ble_eq_true rfl) (fun v σ2 ⟨y, h1, h2, h3, h4⟩ => ⟨y, h1, h2, h.1.tr h3 (fun _ _ _ _ h => h), trivial⟩)) (pc' := 25) rfl (fun y4 => ?_)
    refine G_ex (fun hy4 => ?_)
    obtain rfl : y4 = (-1) := by omega
    exact T_iret zk_87_25 rfl (fun σ' h => ⟨_, rfl, (by omega), h.1, trivial⟩)
  · exfalso; omega
/-- W.sea -/
theorem s_90 {xs : Nat × (Nat → Int32)} (p0 : Int) (p1 : Int) (u0 : Int) (u2 : Int) (hp0 : 0 ≤ p0 ∧ p0 ≤ 7) (hp1 : 0 ≤ p1 ∧ p1 ≤ 1) (hu0 : -2147483648 ≤ u0 ∧ u0 ≤ 2147483647) (hu2 : 0 ≤ u2 ∧ u2 ≤ 96) (σ : ZS) (hI : Inv σ)  (s0 : σ 33 0 (Int.toNat p0) 0 = u0) (s2 : σ 33 0 (Int.toNat p0) 2 = u2) : CT xs 3 90 [av 0 0 0, iv p0, iv p1] σ (fun v σ' => ∃ y, v = some (iv y) ∧ ((y = -2 ∧ (u0 = 2)) ∨ (y = -3 ∧ ¬ (u0 = 2) ∧ (u0 = 0)) ∨ (y = u2 ∧ ¬ (u0 = 2) ∧ ¬ (u0 = 0))) ∧ IF (MI 0 17 18 28 28) σ σ' ∧ (True)) := by
  refine G_ct (J := (fun σ' => IF (MI 0 17 18 28 28) σ σ' ∧ True)) (L := [(0, av 0 0 0), (1, iv p0), (2, iv p1)]) (nL := 4) rfl rfl rfl ⟨IF.rf hI, trivial⟩ ?_
  refine T_ld zk_90_0 rfl rfl rfl (pc' := 1) rfl ?_
  refine T_ld zk_90_1 rfl rfl rfl (pc' := 2) rfl ?_
  refine T_calli (K := fun y1 σ' => ((y1 = -2 ∧ (u0 = 2)) ∨ (y1 = -3 ∧ ¬ (u0 = 2) ∧ (u0 = 0)) ∨ (y1 = 0 ∧ ¬ (u0 = 2) ∧ ¬ (u0 = 0))) ∧ (fun σ' => IF (MI 0 17 18 28 28) σ σ' ∧ True) σ') (r := []) zk_90_2 rfl rfl rfl rfl rfl rfl (Or.inr ⟨_, _, _, _, rfl, vd_0, rfl⟩) (fun σ' h => (s_119 p0 u0 (by omega) (by omega) σ' h.1.1 ((h.1.2 _ _ _ _ (by first | exact nMI rfl | (unfold MI; omega))).trans s0)).le (Nat.le_of_ble_eq_true rfl) (fun v σ2 ⟨y, h1, h2, h3, h4⟩ => ⟨y, h1, h2, h.1.tr h3 MN_sub, trivial⟩)) (pc' := 5) rfl (fun y1 => ?_)
  refine G_ex (fun hy1 => ?_)
  refine T_st (L' := [(0, av 0 0 0), (1, iv p0), (2, iv p1), (3, iv y1)]) zk_90_5 (nL := 4) rfl rfl rfl rfl rfl (pc' := 6) rfl ?_
  refine T_ld zk_90_6 rfl rfl rfl (pc' := 7) rfl ?_
  refine T_if_eq zk_90_7 (by omega) (pc' := 10) rfl (fun h2 => ?_) (fun h3 => ?_)
  ·
    refine T_ld zk_90_16 rfl rfl rfl (pc' := 17) rfl ?_
    refine T_getR (t' := 1) (i' := 0) (k' := 0) zk_90_17 rfl rfl rfl vd_0 (pc' := 20) rfl ?_
    refine T_ld zk_90_20 rfl rfl rfl (pc' := 21) rfl ?_
    refine T_callr (t := 17) (i := 0) (k := (Int.toNat p1)) (J' := (fun σ' => IF (MI 0 17 18 28 28) σ σ' ∧ True)) (r := []) zk_90_21 rfl rfl rfl rfl rfl rfl (Or.inr ⟨_, _, _, _, rfl, (vd_1 (by omega)), rfl⟩) (fun σ' h => (w_10 0 p1 (by omega) (by omega) σ' h.1.1 ).le (Nat.le_of_ble_eq_true rfl) (fun v σ2 ⟨h1, h3, h4⟩ => ⟨h1, h.1.tr h3 MN_sub, trivial⟩)) (pc' := 24) rfl ?_
    refine T_ld zk_90_24 rfl rfl rfl (pc' := 25) rfl ?_
    refine T_getR (t' := 27) (i' := 0) (k' := 0) zk_90_25 rfl rfl rfl vd_0 (pc' := 28) rfl ?_
    refine T_ld zk_90_28 rfl rfl rfl (pc' := 29) rfl ?_
    refine G_aald (t' := 33) (im := 0) (i' := 0) (ln := 8) zk_90_29 rfl rfl rfl vd_27 (by omega) (by omega) (by omega) (pc' := 30) rfl ?_
    refine T_callv (J' := (fun σ' => IF (MI 0 17 18 28 28) σ σ' ∧ True)) (r := []) zk_90_30 rfl rfl rfl rfl rfl rfl (Or.inr ⟨_, _, _, _, rfl, (vd_17 (by omega) (by omega)), rfl⟩) (fun σ' h => (w_71 0 (Int.toNat p1) (Int.toNat p0) (by omega) (by omega) (by omega) σ' h.1.1 ).le (Nat.le_of_ble_eq_true rfl) (fun v σ2 ⟨h1, h3, h4⟩ => ⟨h1, h.1.tr h3 (sb55_713855c (Int.toNat p1)), trivial⟩)) (pc' := 33) rfl ?_
    refine T_ld zk_90_33 rfl rfl rfl (pc' := 34) rfl ?_
    refine T_getR (t' := 27) (i' := 0) (k' := 0) zk_90_34 rfl rfl rfl vd_0 (pc' := 37) rfl ?_
    refine T_ld zk_90_37 rfl rfl rfl (pc' := 38) rfl ?_
    refine G_aald (t' := 33) (im := 0) (i' := 0) (ln := 8) zk_90_38 rfl rfl rfl vd_27 (by omega) (by omega) (by omega) (pc' := 39) rfl ?_
    refine G_getX (w := u2) zk_90_39 rfl (vd_33 (by omega)) (fun σ' h => (h.1.2 _ _ _ _ (by first | exact nMI rfl | (unfold MI; omega))).trans s2) (pc' := 42) rfl ?_
    exact T_iret zk_90_42 rfl (fun σ' h => ⟨_, rfl, (by omega), h.1, trivial⟩)
  ·
    refine T_ld zk_90_10 rfl rfl rfl (pc' := 11) rfl ?_
    refine T_ld zk_90_11 rfl rfl rfl (pc' := 12) rfl ?_
    refine T_calli (K := fun y6 σ' => (y6 = y1) ∧ (fun σ' => IF (MI 0 17 18 28 28) σ σ' ∧ True) σ') (r := []) zk_90_12 rfl rfl rfl rfl rfl rfl (Or.inr ⟨_, _, _, _, rfl, vd_0, rfl⟩) (fun σ' h => (w_113 y1 (by omega) σ' h.1.1 ).le (Nat.le_of_ble_eq_true rfl) (fun v σ2 ⟨y, h1, h2, h3, h4⟩ => ⟨y, h1, h2, h.1.tr h3 sb55_139e28b, trivial⟩)) (pc' := 15) rfl (fun y6 => ?_)
    refine G_ex (fun hy6 => ?_)
    obtain rfl : y6 = y1 := by omega
    exact T_iret zk_90_15 rfl (fun σ' h => ⟨_, rfl, (by omega), h.1, trivial⟩)
/-- W.sea -/
theorem s_90o {xs : Nat × (Nat → Int32)} (p0 : Int) (p1 : Int) (hp0 : -2147483648 ≤ p0 ∧ p0 ≤ 2147483647) (hp1 : 0 ≤ p1 ∧ p1 ≤ 1) (ho : p0 < 0 ∨ 7 < p0) (σ : ZS) (hI : Inv σ)   : CT xs 3 90 [av 0 0 0, iv p0, iv p1] σ (fun v σ' => ∃ y, v = some (iv y) ∧ (y = -1) ∧ IF (MI 0 17 18 28 28) σ σ' ∧ (True)) := by
  refine G_ct (J := (fun σ' => IF (MI 0 17 18 28 28) σ σ' ∧ True)) (L := [(0, av 0 0 0), (1, iv p0), (2, iv p1)]) (nL := 4) rfl rfl rfl ⟨IF.rf hI, trivial⟩ ?_
  refine T_ld zk_90_0 rfl rfl rfl (pc' := 1) rfl ?_
  refine T_ld zk_90_1 rfl rfl rfl (pc' := 2) rfl ?_
  refine T_calli (K := fun y1 σ' => ((y1 = -1 ∧ (p0 < 0 ∨ 7 < p0)) ∨ ((y1 = -3 ∨ y1 = -2 ∨ y1 = 0) ∧ 0 ≤ p0 ∧ p0 ≤ 7)) ∧ (fun σ' => IF (MI 0 17 18 28 28) σ σ' ∧ True) σ') (r := []) zk_90_2 rfl rfl rfl rfl rfl rfl (Or.inr ⟨_, _, _, _, rfl, vd_0, rfl⟩) (fun σ' h => (w_119 p0 (by omega) σ' h.1.1 ).le (Nat.le_of_ble_eq_true rfl) (fun v σ2 ⟨y, h1, h2, h3, h4⟩ => ⟨y, h1, h2, h.1.tr h3 MN_sub, trivial⟩)) (pc' := 5) rfl (fun y1 => ?_)
  refine G_ex (fun hy1 => ?_)
  refine T_st (L' := [(0, av 0 0 0), (1, iv p0), (2, iv p1), (3, iv y1)]) zk_90_5 (nL := 4) rfl rfl rfl rfl rfl (pc' := 6) rfl ?_
  refine T_ld zk_90_6 rfl rfl rfl (pc' := 7) rfl ?_
  refine T_if_eq zk_90_7 (by omega) (pc' := 10) rfl (fun h2 => ?_) (fun h3 => ?_)
  · exfalso; omega
  ·
    refine T_ld zk_90_10 rfl rfl rfl (pc' := 11) rfl ?_
    refine T_ld zk_90_11 rfl rfl rfl (pc' := 12) rfl ?_
    refine T_calli (K := fun y4 σ' => (y4 = y1) ∧ (fun σ' => IF (MI 0 17 18 28 28) σ σ' ∧ True) σ') (r := []) zk_90_12 rfl rfl rfl rfl rfl rfl (Or.inr ⟨_, _, _, _, rfl, vd_0, rfl⟩) (fun σ' h => (w_113 y1 (by omega) σ' h.1.1 ).le (Nat.le_of_ble_eq_true rfl) (fun v σ2 ⟨y, h1, h2, h3, h4⟩ => ⟨y, h1, h2, h.1.tr h3 sb55_139e28b, trivial⟩)) (pc' := 15) rfl (fun y4 => ?_)
    refine G_ex (fun hy4 => ?_)
    obtain rfl : y4 = y1 := by omega
    exact T_iret zk_90_15 rfl (fun σ' h => ⟨_, rfl, (by omega), h.1, trivial⟩)
