def MBs (a : Nat) (t i k j : Nat) : Prop := ((37 ≤ t ∧ t ≤ 40) ∧ j = a) ∨ t = 41 ∨ t = 49
theorem pMBs {a t i k j : Nat} (hb : decide ((((37 ≤ t ∧ t ≤ 40) ∧ j = a) ∨ t = 41 ∨ t = 49)) = true) : MBs a t i k j := by
  have h := of_decide_eq_true hb
  unfold MBs
  omega
def MBt (a : Nat) (t i k j : Nat) : Prop := ((t = 37 ∨ t = 40) ∧ j = a) ∨ t = 49
theorem nMBt {a t i k j : Nat} (hb : decide ((((t = 37 ∨ t = 40) ∧ j = a) ∨ t = 49)) = false) : ¬ MBt a t i k j := fun h => of_decide_eq_false hb (by unfold MBt at h; omega)
theorem pMBt {a t i k j : Nat} (hb : decide ((((t = 37 ∨ t = 40) ∧ j = a) ∨ t = 49)) = true) : MBt a t i k j := by
  have h := of_decide_eq_true hb
  unfold MBt
  omega
/-- WModel.wants -/
theorem r_143 {xs : Nat × (Nat → Int32)} (p0 : Int) (u0 : Int) (hp0 : 0 ≤ p0 ∧ p0 ≤ 7) (hu0 : 0 ≤ u0 ∧ u0 ≤ 2) (σ : ZS) (hI : Inv σ)  (s0 : σ 37 0 0 (Int.toNat p0) = u0) : CT xs 2 143 [av 35 0 0, iv p0] σ (fun v σ' => ∃ y, v = some (iv y) ∧ ((y = -2 ∧ (u0 = 2)) ∨ (y = -3 ∧ ¬ (u0 = 2) ∧ (u0 = 0)) ∨ (y = 0 ∧ ¬ (u0 = 2) ∧ ¬ (u0 = 0))) ∧ IF MN σ σ' ∧ (True)) := by
  refine G_ct (J := (fun σ' => IF MN σ σ' ∧ True)) (L := [(0, av 35 0 0), (1, iv p0)]) (nL := 2) rfl rfl rfl ⟨IF.rf hI, trivial⟩ ?_
  refine T_ld zk_143_0 rfl rfl rfl (pc' := 1) rfl ?_
  refine T_calli (K := fun y1 σ' => ((y1 = 0 ∧ (p0 < 0 ∨ 7 < p0)) ∨ (y1 = 1 ∧ 0 ≤ p0 ∧ p0 ≤ 7)) ∧ (fun σ' => IF MN σ σ' ∧ True) σ') (r := []) zk_143_1 rfl rfl rfl rfl rfl rfl (Or.inl (Or.inl rfl)) (fun σ' h => (m_125 p0 (by omega) σ' h.1.1 ).le (Nat.le_of_ble_eq_true rfl) (fun v σ2 ⟨y, h1, h2, h3, h4⟩ => ⟨y, h1, h2, h.1.tr h3 MN_sub, trivial⟩)) (pc' := 4) rfl (fun y1 => ?_)
  refine G_ex (fun hy1 => ?_)
  refine T_if_ne zk_143_4 (by omega) (pc' := 7) rfl (fun h2 => ?_) (fun h3 => ?_)
  ·
    refine T_ld zk_143_11 rfl rfl rfl (pc' := 12) rfl ?_
    refine T_getR (t' := 37) (i' := 0) (k' := 0) zk_143_12 rfl rfl rfl vd_35 (pc' := 15) rfl ?_
    refine T_ld zk_143_15 rfl rfl rfl (pc' := 16) rfl ?_
    refine G_ialdX (w := u0) (ln := 8) zk_143_16 rfl rfl vd_37 (by omega) (by omega) (by omega) (fun σ' h => (h.1.2 _ _ _ _ (fun q => q)).trans s0) (pc' := 17) rfl ?_
    refine T_op zk_143_17 rfl X_ic (pc' := 18) rfl ?_
    refine T_icmp_ne zk_143_18 (by omega) (by omega) (pc' := 21) rfl (fun h4 => ?_) (fun h5 => ?_)
    ·
      refine T_ld zk_143_26 rfl rfl rfl (pc' := 27) rfl ?_
      refine T_getR (t' := 37) (i' := 0) (k' := 0) zk_143_27 rfl rfl rfl vd_35 (pc' := 30) rfl ?_
      refine T_ld zk_143_30 rfl rfl rfl (pc' := 31) rfl ?_
      refine G_ialdX (w := u0) (ln := 8) zk_143_31 rfl rfl vd_37 (by omega) (by omega) (by omega) (fun σ' h => (h.1.2 _ _ _ _ (fun q => q)).trans s0) (pc' := 32) rfl ?_
      refine T_if_ne zk_143_32 (by omega) (pc' := 35) rfl (fun h6 => ?_) (fun h7 => ?_)
      ·
        refine T_op zk_143_40 rfl X_ic (pc' := 41) rfl ?_
        exact T_iret zk_143_41 rfl (fun σ' h => ⟨_, rfl, (by omega), h.1, trivial⟩)
      ·
        refine T_op zk_143_35 rfl (X_bi (v := -3) (by decide)) (pc' := 37) rfl ?_
        refine T_goto zk_143_37 ?_
        exact T_iret zk_143_41 rfl (fun σ' h => ⟨_, rfl, (by omega), h.1, trivial⟩)
    ·
      refine T_op zk_143_21 rfl (X_bi (v := -2) (by decide)) (pc' := 23) rfl ?_
      refine T_goto zk_143_23 ?_
      exact T_iret zk_143_41 rfl (fun σ' h => ⟨_, rfl, (by omega), h.1, trivial⟩)
  ·
    refine T_op zk_143_7 rfl X_ic (pc' := 8) rfl ?_
    refine T_goto zk_143_8 ?_
    exact T_iret zk_143_41 rfl (fun σ' h => ⟨_, rfl, (by omega), h.1, trivial⟩)
theorem sb76_d988043 (v0 : Nat) : ∀ t i k j, MT 49 49 49 49 t i k j → MBs v0 t i k j := by
  intro t i k j h
  unfold MT at h
  unfold MBs
  omega
/-- WModel.row -/
theorem r_135 {xs : Nat × (Nat → Int32)} (p0 : Int) (p1 : Int) (p2 : Int) (u0 : Int) (u1 : Int) (u2 : Int) (u3 : Int) (hp0 : 0 ≤ p0 ∧ p0 ≤ 7) (hp1 : -2147483648 ≤ p1 ∧ p1 ≤ 2147483647) (hp2 : -2147483648 ≤ p2 ∧ p2 ≤ 2147483647) (hu0 : 0 ≤ u0 ∧ u0 ≤ 2) (hu1 : 0 ≤ u1 ∧ u1 ≤ 3) (hu2 : 0 ≤ u2 ∧ u2 ≤ 96) (hu3 : -1 ≤ u3 ∧ u3 ≤ 11) (σ : ZS) (hI : Inv σ)  (s0 : σ 37 0 0 (Int.toNat p0) = u0) (s1 : σ 38 0 0 (Int.toNat p0) = u1) (s2 : σ 39 0 0 (Int.toNat p0) = u2) (s3 : σ 40 0 0 (Int.toNat p0) = u3) : CT xs 2 135 [av 35 0 0, iv p0, iv p1, iv p2] σ (fun v σ' => ∃ y, v = some (iv y) ∧ ((y = -4 ∧ (p2 < 0)) ∨ (y = -6 ∧ ¬ (p2 < 0) ∧ (¬ (0 ≤ p1 ∧ p1 ≤ 3))) ∨ (y = -7 ∧ ¬ (p2 < 0) ∧ ¬ (¬ (0 ≤ p1 ∧ p1 ≤ 3)) ∧ (96 < p2)) ∨ (y = 1 ∧ ¬ (p2 < 0) ∧ ¬ (¬ (0 ≤ p1 ∧ p1 ≤ 3)) ∧ ¬ (96 < p2))) ∧ IF (MBs (Int.toNat p0)) σ σ' ∧ (((y = 1 → σ' 37 0 0 (Int.toNat p0) = 1) ∧ (¬ y = 1 → σ' 37 0 0 (Int.toNat p0) = u0)) ∧ ((y = 1 → σ' 38 0 0 (Int.toNat p0) = p1) ∧ (¬ y = 1 → σ' 38 0 0 (Int.toNat p0) = u1)) ∧ ((y = 1 → σ' 39 0 0 (Int.toNat p0) = p2) ∧ (¬ y = 1 → σ' 39 0 0 (Int.toNat p0) = u2)) ∧ (σ' 40 0 0 (Int.toNat p0) = u3) ∧ True)) := by
  refine G_ct (J := (fun σ' => IF (MBs (Int.toNat p0)) σ σ' ∧ σ' 37 0 0 (Int.toNat p0) = u0 ∧ σ' 38 0 0 (Int.toNat p0) = u1 ∧ σ' 39 0 0 (Int.toNat p0) = u2 ∧ σ' 40 0 0 (Int.toNat p0) = u3 ∧ True)) (L := [(0, av 35 0 0), (1, iv p0), (2, iv p1), (3, iv p2)]) (nL := 5) rfl rfl rfl ⟨IF.rf hI, s0, s1, s2, s3, trivial⟩ ?_
  refine T_ld zk_135_0 rfl rfl rfl (pc' := 1) rfl ?_
  refine T_calli (K := fun y1 σ' => ((y1 = 0 ∧ (p0 < 0 ∨ 7 < p0)) ∨ (y1 = 1 ∧ 0 ≤ p0 ∧ p0 ≤ 7)) ∧ (fun σ' => IF (MBs (Int.toNat p0)) σ σ' ∧ σ' 37 0 0 (Int.toNat p0) = u0 ∧ σ' 38 0 0 (Int.toNat p0) = u1 ∧ σ' 39 0 0 (Int.toNat p0) = u2 ∧ σ' 40 0 0 (Int.toNat p0) = u3 ∧ True) σ') (r := []) zk_135_1 rfl rfl rfl rfl rfl rfl (Or.inl (Or.inl rfl)) (fun σ' h => (m_125 p0 (by omega) σ' h.1.1 ).le (Nat.le_of_ble_eq_true rfl) (fun v σ2 ⟨y, h1, h2, h3, h4⟩ => ⟨y, h1, h2, h.1.tr h3 MN_sub, (h3.2 _ _ _ _ (fun q => q)).trans (h.2.1), (h3.2 _ _ _ _ (fun q => q)).trans (h.2.2.1), (h3.2 _ _ _ _ (fun q => q)).trans (h.2.2.2.1), (h3.2 _ _ _ _ (fun q => q)).trans (h.2.2.2.2.1), trivial⟩)) (pc' := 4) rfl (fun y1 => ?_)
  refine G_ex (fun hy1 => ?_)
  refine T_if_ne zk_135_4 (by omega) (pc' := 7) rfl (fun h2 => ?_) (fun h3 => ?_)
  ·
    refine T_ld zk_135_13 rfl rfl rfl (pc' := 14) rfl ?_
    refine T_if_ge zk_135_14 (by omega) (pc' := 17) rfl (fun h4 => ?_) (fun h5 => ?_)
    ·
      refine T_ld zk_135_24 rfl rfl rfl (pc' := 25) rfl ?_
      refine T_if_lt zk_135_25 (by omega) (pc' := 28) rfl (fun h6 => ?_) (fun h7 => ?_)
      ·
        refine T_ld zk_135_33 rfl rfl rfl (pc' := 34) rfl ?_
        refine T_op zk_135_34 rfl (X_bi (v := -6) (by decide)) (pc' := 36) rfl ?_
        refine T_calli (K := fun y8 σ' => (y8 = (-6)) ∧ (fun σ' => IF (MBs (Int.toNat p0)) σ σ' ∧ σ' 37 0 0 (Int.toNat p0) = u0 ∧ σ' 38 0 0 (Int.toNat p0) = u1 ∧ σ' 39 0 0 (Int.toNat p0) = u2 ∧ σ' 40 0 0 (Int.toNat p0) = u3 ∧ True) σ') (r := []) zk_135_36 rfl rfl rfl rfl rfl rfl (Or.inr ⟨_, _, _, _, rfl, vd_35, rfl⟩) (fun σ' h => (m_123 ((-6)) (by omega) σ' h.1.1 ).le (Nat.le_of_ble_eq_true rfl) (fun v σ2 ⟨y, h1, h2, h3, h4⟩ => ⟨y, h1, h2, h.1.tr h3 (sb76_d988043 (Int.toNat p0)), (h3.2 _ _ _ _ (by first | exact nMT rfl | (unfold MT; omega))).trans (h.2.1), (h3.2 _ _ _ _ (by first | exact nMT rfl | (unfold MT; omega))).trans (h.2.2.1), (h3.2 _ _ _ _ (by first | exact nMT rfl | (unfold MT; omega))).trans (h.2.2.2.1), (h3.2 _ _ _ _ (by first | exact nMT rfl | (unfold MT; omega))).trans (h.2.2.2.2.1), trivial⟩)) (pc' := 39) rfl (fun y8 => ?_)
        refine G_ex (fun hy8 => ?_)
        obtain rfl : y8 = (-6) := by omega
        exact T_iret zk_135_39 rfl (fun σ' h => ⟨_, rfl, (by omega), h.1, ⟨(by have e := h.2.1; omega), (by have e := h.2.2.1; omega), (by have e := h.2.2.2.1; omega), (by have e := h.2.2.2.2.1; omega), trivial⟩⟩)
      ·
        refine T_ld zk_135_28 rfl rfl rfl (pc' := 29) rfl ?_
        refine T_op zk_135_29 rfl X_ic (pc' := 30) rfl ?_
        refine T_icmp_le zk_135_30 (by omega) (by omega) (pc' := 33) rfl (fun h9 => ?_) (fun h10 => ?_)
        ·
          refine T_ld zk_135_40 rfl rfl rfl (pc' := 41) rfl ?_
          refine T_op zk_135_41 rfl (X_bi (v := 96) (by decide)) (pc' := 43) rfl ?_
          refine T_icmp_le zk_135_43 (by omega) (by omega) (pc' := 46) rfl (fun h11 => ?_) (fun h12 => ?_)
          ·
            refine T_ld zk_135_53 rfl rfl rfl (pc' := 54) rfl ?_
            refine T_getR (t' := 37) (i' := 0) (k' := 0) zk_135_54 rfl rfl rfl vd_35 (pc' := 57) rfl ?_
            refine T_ld zk_135_57 rfl rfl rfl (pc' := 58) rfl ?_
            refine T_op zk_135_58 rfl X_ic (pc' := 59) rfl ?_
            refine G_iast (J' := (fun σ' => IF (MBs (Int.toNat p0)) σ σ' ∧ σ' 38 0 0 (Int.toNat p0) = u1 ∧ σ' 39 0 0 (Int.toNat p0) = u2 ∧ σ' 40 0 0 (Int.toNat p0) = u3 ∧ σ' 37 0 0 (Int.toNat p0) = 1 ∧ True)) (ln := 8) zk_135_59 rfl rfl vd_37 (by omega) (by omega) (by omega) (fun σ' h => ⟨h.1.up (by simp only [rgP] <;> omega) (by first | exact pMBs rfl | (unfold MBs; omega)), (up_ne (by omega)).trans (h.2.2.1), (up_ne (by omega)).trans (h.2.2.2.1), (up_ne (by omega)).trans (h.2.2.2.2.1), up_eq, trivial⟩) (pc' := 60) rfl ?_
            refine T_ld zk_135_60 rfl rfl rfl (pc' := 61) rfl ?_
            refine T_getR (t' := 38) (i' := 0) (k' := 0) zk_135_61 rfl rfl rfl vd_35 (pc' := 64) rfl ?_
            refine T_ld zk_135_64 rfl rfl rfl (pc' := 65) rfl ?_
            refine T_ld zk_135_65 rfl rfl rfl (pc' := 66) rfl ?_
            refine G_iast (J' := (fun σ' => IF (MBs (Int.toNat p0)) σ σ' ∧ σ' 39 0 0 (Int.toNat p0) = u2 ∧ σ' 40 0 0 (Int.toNat p0) = u3 ∧ σ' 37 0 0 (Int.toNat p0) = 1 ∧ σ' 38 0 0 (Int.toNat p0) = p1 ∧ True)) (ln := 8) zk_135_66 rfl rfl vd_38 (by omega) (by omega) (by omega) (fun σ' h => ⟨h.1.up (by simp only [rgP] <;> omega) (by first | exact pMBs rfl | (unfold MBs; omega)), (up_ne (by omega)).trans (h.2.2.1), (up_ne (by omega)).trans (h.2.2.2.1), (up_ne (by omega)).trans (h.2.2.2.2.1), up_eq, trivial⟩) (pc' := 67) rfl ?_
            refine T_ld zk_135_67 rfl rfl rfl (pc' := 68) rfl ?_
            refine T_getR (t' := 39) (i' := 0) (k' := 0) zk_135_68 rfl rfl rfl vd_35 (pc' := 71) rfl ?_
            refine T_ld zk_135_71 rfl rfl rfl (pc' := 72) rfl ?_
            refine T_ld zk_135_72 rfl rfl rfl (pc' := 73) rfl ?_
            refine G_iast (J' := (fun σ' => IF (MBs (Int.toNat p0)) σ σ' ∧ σ' 40 0 0 (Int.toNat p0) = u3 ∧ σ' 37 0 0 (Int.toNat p0) = 1 ∧ σ' 38 0 0 (Int.toNat p0) = p1 ∧ σ' 39 0 0 (Int.toNat p0) = p2 ∧ True)) (ln := 8) zk_135_73 rfl rfl vd_39 (by omega) (by omega) (by omega) (fun σ' h => ⟨h.1.up (by simp only [rgP] <;> omega) (by first | exact pMBs rfl | (unfold MBs; omega)), (up_ne (by omega)).trans (h.2.2.1), (up_ne (by omega)).trans (h.2.2.2.1), (up_ne (by omega)).trans (h.2.2.2.2.1), up_eq, trivial⟩) (pc' := 74) rfl ?_
            refine T_op zk_135_74 rfl X_ic (pc' := 75) rfl ?_
            refine T_st (L' := [(0, av 35 0 0), (1, iv p0), (2, iv p1), (3, iv p2), (4, iv 0)]) zk_135_75 (nL := 5) rfl rfl rfl rfl rfl (pc' := 77) rfl ?_
            refine G_know (J' := (fun σ' => IF (MBs (Int.toNat p0)) σ σ' ∧ σ' 37 0 0 (Int.toNat p0) = 1 ∧ σ' 38 0 0 (Int.toNat p0) = p1 ∧ σ' 39 0 0 (Int.toNat p0) = p2 ∧ σ' 40 0 0 (Int.toNat p0) = u3 ∧ True)) (fun σ' h => ⟨h.1, h.2.2.1, h.2.2.2.1, h.2.2.2.2.1, h.2.1, trivial⟩) ?_
            refine T_loop1 (fun x13 => ((96 - x13 : Int)).toNat) (fun x13 => (0 ≤ x13 ∧ x13 ≤ 96)) (fun x13 => TJ xs (fun σ' => IF (MBs (Int.toNat p0)) σ σ' ∧ σ' 37 0 0 (Int.toNat p0) = 1 ∧ σ' 38 0 0 (Int.toNat p0) = p1 ∧ σ' 39 0 0 (Int.toNat p0) = p2 ∧ σ' 40 0 0 (Int.toNat p0) = u3 ∧ True) 1 135 77 [(0, av 35 0 0), (1, iv p0), (2, iv p1), (3, iv p2), (4, iv x13)] [] _) ?_ 0 (by omega)
            intro x13 hp15 ih14
            refine T_ld zk_135_77 rfl rfl rfl (pc' := 79) rfl ?_
            refine T_op zk_135_79 rfl (X_bi (v := 96) (by decide)) (pc' := 81) rfl ?_
            refine T_icmp_ge zk_135_81 (by omega) (by omega) (pc' := 84) rfl (fun h16 => ?_) (fun h17 => ?_)
            ·
              refine T_op zk_135_103 rfl X_ic (pc' := 104) rfl ?_
              exact T_iret zk_135_104 rfl (fun σ' h => ⟨_, rfl, (by omega), h.1, ⟨(by have e := h.2.1; omega), (by have e := h.2.2.1; omega), (by have e := h.2.2.2.1; omega), (by have e := h.2.2.2.2.1; omega), trivial⟩⟩)
            ·
              refine T_ld zk_135_84 rfl rfl rfl (pc' := 85) rfl ?_
              refine T_getR (t' := 41) (i' := 0) (k' := 0) zk_135_85 rfl rfl rfl vd_35 (pc' := 88) rfl ?_
              refine T_op zk_135_88 rfl (X_bi (v := 96) (by decide)) (pc' := 90) rfl ?_
              refine T_ld zk_135_90 rfl rfl rfl (pc' := 91) rfl ?_
              refine T_op zk_135_91 rfl X_mul (pc' := 92) rfl ?_
              refine T_ld zk_135_92 rfl rfl rfl (pc' := 94) rfl ?_
              refine T_op zk_135_94 rfl X_add (pc' := 95) rfl ?_
              refine T_op zk_135_95 rfl (X_lc (v := 0) (by decide)) (pc' := 96) rfl ?_
              refine G_last (J' := (fun σ' => IF (MBs (Int.toNat p0)) σ σ' ∧ σ' 37 0 0 (Int.toNat p0) = 1 ∧ σ' 38 0 0 (Int.toNat p0) = p1 ∧ σ' 39 0 0 (Int.toNat p0) = p2 ∧ σ' 40 0 0 (Int.toNat p0) = u3 ∧ True)) (ln := 768) zk_135_96 rfl rfl vd_41 (by omega) (by omega) (by omega) (fun σ' h => ⟨h.1.up ⟨by omega, trivial⟩ (by first | exact pMBs rfl | (unfold MBs; omega)), (up_ne (by omega)).trans (h.2.1), (up_ne (by omega)).trans (h.2.2.1), (up_ne (by omega)).trans (h.2.2.2.1), (up_ne (by omega)).trans (h.2.2.2.2.1), trivial⟩) (pc' := 97) rfl ?_
              refine T_iinc (L' := [(0, av 35 0 0), (1, iv p0), (2, iv p1), (3, iv p2), (4, iv (x13 + 1))]) zk_135_97 (nL := 5) rfl rfl rfl rfl (pc' := 100) rfl ?_
              refine T_goto zk_135_100 ?_
              exact ih14 (x13 + 1) (by omega) (by omega)
          ·
            refine T_ld zk_135_46 rfl rfl rfl (pc' := 47) rfl ?_
            refine T_op zk_135_47 rfl (X_bi (v := -7) (by decide)) (pc' := 49) rfl ?_
            refine T_calli (K := fun y18 σ' => (y18 = (-7)) ∧ (fun σ' => IF (MBs (Int.toNat p0)) σ σ' ∧ σ' 37 0 0 (Int.toNat p0) = u0 ∧ σ' 38 0 0 (Int.toNat p0) = u1 ∧ σ' 39 0 0 (Int.toNat p0) = u2 ∧ σ' 40 0 0 (Int.toNat p0) = u3 ∧ True) σ') (r := []) zk_135_49 rfl rfl rfl rfl rfl rfl (Or.inr ⟨_, _, _, _, rfl, vd_35, rfl⟩) (fun σ' h => (m_123 ((-7)) (by omega) σ' h.1.1 ).le (Nat.le_of_ble_eq_true rfl) (fun v σ2 ⟨y, h1, h2, h3, h4⟩ => ⟨y, h1, h2, h.1.tr h3 (sb76_d988043 (Int.toNat p0)), (h3.2 _ _ _ _ (by first | exact nMT rfl | (unfold MT; omega))).trans (h.2.1), (h3.2 _ _ _ _ (by first | exact nMT rfl | (unfold MT; omega))).trans (h.2.2.1), (h3.2 _ _ _ _ (by first | exact nMT rfl | (unfold MT; omega))).trans (h.2.2.2.1), (h3.2 _ _ _ _ (by first | exact nMT rfl | (unfold MT; omega))).trans (h.2.2.2.2.1), trivial⟩)) (pc' := 52) rfl (fun y18 => ?_)
            refine G_ex (fun hy18 => ?_)
            obtain rfl : y18 = (-7) := by omega
            exact T_iret zk_135_52 rfl (fun σ' h => ⟨_, rfl, (by omega), h.1, ⟨(by have e := h.2.1; omega), (by have e := h.2.2.1; omega), (by have e := h.2.2.2.1; omega), (by have e := h.2.2.2.2.1; omega), trivial⟩⟩)
        ·
          refine T_ld zk_135_33 rfl rfl rfl (pc' := 34) rfl ?_
          refine T_op zk_135_34 rfl (X_bi (v := -6) (by decide)) (pc' := 36) rfl ?_
          refine T_calli (K := fun y19 σ' => (y19 = (-6)) ∧ (fun σ' => IF (MBs (Int.toNat p0)) σ σ' ∧ σ' 37 0 0 (Int.toNat p0) = u0 ∧ σ' 38 0 0 (Int.toNat p0) = u1 ∧ σ' 39 0 0 (Int.toNat p0) = u2 ∧ σ' 40 0 0 (Int.toNat p0) = u3 ∧ True) σ') (r := []) zk_135_36 rfl rfl rfl rfl rfl rfl (Or.inr ⟨_, _, _, _, rfl, vd_35, rfl⟩) (fun σ' h => (m_123 ((-6)) (by omega) σ' h.1.1 ).le (Nat.le_of_ble_eq_true rfl) (fun v σ2 ⟨y, h1, h2, h3, h4⟩ => ⟨y, h1, h2, h.1.tr h3 (sb76_d988043 (Int.toNat p0)), (h3.2 _ _ _ _ (by first | exact nMT rfl | (unfold MT; omega))).trans (h.2.1), (h3.2 _ _ _ _ (by first | exact nMT rfl | (unfold MT; omega))).trans (h.2.2.1), (h3.2 _ _ _ _ (by first | exact nMT rfl | (unfold MT; omega))).trans (h.2.2.2.1), (h3.2 _ _ _ _ (by first | exact nMT rfl | (unfold MT; omega))).trans (h.2.2.2.2.1), trivial⟩)) (pc' := 39) rfl (fun y19 => ?_)
          refine G_ex (fun hy19 => ?_)
          obtain rfl : y19 = (-6) := by omega
          exact T_iret zk_135_39 rfl (fun σ' h => ⟨_, rfl, (by omega), h.1, ⟨(by have e := h.2.1; omega), (by have e := h.2.2.1; omega), (by have e := h.2.2.2.1; omega), (by have e := h.2.2.2.2.1; omega), trivial⟩⟩)
    ·
      refine T_ld zk_135_17 rfl rfl rfl (pc' := 18) rfl ?_
      refine T_op zk_135_18 rfl (X_bi (v := -4) (by decide)) (pc' := 20) rfl ?_
      refine T_calli (K := fun y20 σ' => (y20 = (-4)) ∧ (fun σ' => IF (MBs (Int.toNat p0)) σ σ' ∧ σ' 37 0 0 (Int.toNat p0) = u0 ∧ σ' 38 0 0 (Int.toNat p0) = u1 ∧ σ' 39 0 0 (Int.toNat p0) = u2 ∧ σ' 40 0 0 (Int.toNat p0) = u3 ∧ True) σ') (r := []) zk_135_20 rfl rfl rfl rfl rfl rfl (Or.inr ⟨_, _, _, _, rfl, vd_35, rfl⟩) (fun σ' h => (m_123 ((-4)) (by omega) σ' h.1.1 ).le (Nat.le_of_ble_eq_true rfl) (fun v σ2 ⟨y, h1, h2, h3, h4⟩ => ⟨y, h1, h2, h.1.tr h3 (sb76_d988043 (Int.toNat p0)), (h3.2 _ _ _ _ (by first | exact nMT rfl | (unfold MT; omega))).trans (h.2.1), (h3.2 _ _ _ _ (by first | exact nMT rfl | (unfold MT; omega))).trans (h.2.2.1), (h3.2 _ _ _ _ (by first | exact nMT rfl | (unfold MT; omega))).trans (h.2.2.2.1), (h3.2 _ _ _ _ (by first | exact nMT rfl | (unfold MT; omega))).trans (h.2.2.2.2.1), trivial⟩)) (pc' := 23) rfl (fun y20 => ?_)
      refine G_ex (fun hy20 => ?_)
      obtain rfl : y20 = (-4) := by omega
      exact T_iret zk_135_23 rfl (fun σ' h => ⟨_, rfl, (by omega), h.1, ⟨(by have e := h.2.1; omega), (by have e := h.2.2.1; omega), (by have e := h.2.2.2.1; omega), (by have e := h.2.2.2.2.1; omega), trivial⟩⟩)
  ·
    refine T_ld zk_135_7 rfl rfl rfl (pc' := 8) rfl ?_
    refine T_op zk_135_8 rfl X_ic (pc' := 9) rfl ?_
    refine T_calli (K := fun y21 σ' => (y21 = (-1)) ∧ (fun σ' => IF (MBs (Int.toNat p0)) σ σ' ∧ σ' 37 0 0 (Int.toNat p0) = u0 ∧ σ' 38 0 0 (Int.toNat p0) = u1 ∧ σ' 39 0 0 (Int.toNat p0) = u2 ∧ σ' 40 0 0 (Int.toNat p0) = u3 ∧ True) σ') (r := []) zk_135_9 rfl rfl rfl rfl rfl rfl (Or.inr ⟨_, _, _, _, rfl, vd_35, rfl⟩) (fun σ' h => (m_123 ((-1)) (by omega) σ' h.1.1 ).le (Nat.le_of_ble_eq_true rfl) (fun v σ2 ⟨y, h1, h2, h3, h4⟩ => ⟨y, h1, h2, h.1.tr h3 (sb76_d988043 (Int.toNat p0)), (h3.2 _ _ _ _ (by first | exact nMT rfl | (unfold MT; omega))).trans (h.2.1), (h3.2 _ _ _ _ (by first | exact nMT rfl | (unfold MT; omega))).trans (h.2.2.1), (h3.2 _ _ _ _ (by first | exact nMT rfl | (unfold MT; omega))).trans (h.2.2.2.1), (h3.2 _ _ _ _ (by first | exact nMT rfl | (unfold MT; omega))).trans (h.2.2.2.2.1), trivial⟩)) (pc' := 12) rfl (fun y21 => ?_)
    refine G_ex (fun hy21 => ?_)
    obtain rfl : y21 = (-1) := by omega
    exact T_iret zk_135_12 rfl (fun σ' h => ⟨_, rfl, (by omega), h.1, ⟨(by have e := h.2.1; omega), (by have e := h.2.2.1; omega), (by have e := h.2.2.2.1; omega), (by have e := h.2.2.2.2.1; omega), trivial⟩⟩)
/-- WModel.row -/
theorem r_135o {xs : Nat × (Nat → Int32)} (p0 : Int) (p1 : Int) (p2 : Int) (hp0 : -2147483648 ≤ p0 ∧ p0 ≤ 2147483647) (hp1 : -2147483648 ≤ p1 ∧ p1 ≤ 2147483647) (hp2 : -2147483648 ≤ p2 ∧ p2 ≤ 2147483647) (ho : p0 < 0 ∨ 7 < p0) (σ : ZS) (hI : Inv σ)   : CT xs 2 135 [av 35 0 0, iv p0, iv p1, iv p2] σ (fun v σ' => ∃ y, v = some (iv y) ∧ (y = -1) ∧ IF (MT 49 49 49 49) σ σ' ∧ (True)) := by
  refine G_ct (J := (fun σ' => IF (MT 49 49 49 49) σ σ' ∧ True)) (L := [(0, av 35 0 0), (1, iv p0), (2, iv p1), (3, iv p2)]) (nL := 5) rfl rfl rfl ⟨IF.rf hI, trivial⟩ ?_
  refine T_ld zk_135_0 rfl rfl rfl (pc' := 1) rfl ?_
  refine T_calli (K := fun y1 σ' => ((y1 = 0 ∧ (p0 < 0 ∨ 7 < p0)) ∨ (y1 = 1 ∧ 0 ≤ p0 ∧ p0 ≤ 7)) ∧ (fun σ' => IF (MT 49 49 49 49) σ σ' ∧ True) σ') (r := []) zk_135_1 rfl rfl rfl rfl rfl rfl (Or.inl (Or.inl rfl)) (fun σ' h => (m_125 p0 (by omega) σ' h.1.1 ).le (Nat.le_of_ble_eq_true rfl) (fun v σ2 ⟨y, h1, h2, h3, h4⟩ => ⟨y, h1, h2, h.1.tr h3 MN_sub, trivial⟩)) (pc' := 4) rfl (fun y1 => ?_)
  refine G_ex (fun hy1 => ?_)
  refine T_if_ne zk_135_4 (by omega) (pc' := 7) rfl (fun h2 => ?_) (fun h3 => ?_)
  · exfalso; omega
  ·
    refine T_ld zk_135_7 rfl rfl rfl (pc' := 8) rfl ?_
    refine T_op zk_135_8 rfl X_ic (pc' := 9) rfl ?_
    refine T_calli (K := fun y4 σ' => (y4 = (-1)) ∧ (fun σ' => IF (MT 49 49 49 49) σ σ' ∧ True) σ') (r := []) zk_135_9 rfl rfl rfl rfl rfl rfl (Or.inr ⟨_, _, _, _, rfl, vd_35, rfl⟩) (fun σ' h => (m_123 ((-1)) (by omega) σ' h.1.1 ).le (Nat.le_of_ble_eq_true rfl) (fun v σ2 ⟨y, h1, h2, h3, h4⟩ => ⟨y, h1, h2, h.1.tr h3 (fun _ _ _ _ h => h), trivial⟩)) (pc' := 12) rfl (fun y4 => ?_)
    refine G_ex (fun hy4 => ?_)
    obtain rfl : y4 = (-1) := by omega
    exact T_iret zk_135_12 rfl (fun σ' h => ⟨_, rfl, (by omega), h.1, trivial⟩)
theorem sb76_7633768 (v0 : Nat) : ∀ t i k j, MT 49 49 49 49 t i k j → MBt v0 t i k j := by
  intro t i k j h
  unfold MT at h
  unfold MBt
  omega
/-- WModel.show -/
theorem r_140 {xs : Nat × (Nat → Int32)} (p0 : Int) (p1 : Int) (n : Int) (u0 : Int) (u3 : Int) (hp0 : 0 ≤ p0 ∧ p0 ≤ 7) (hp1 : -2147483648 ≤ p1 ∧ p1 ≤ 2147483647) (hn : 0 ≤ n ∧ n ≤ 12) (hu0 : 0 ≤ u0 ∧ u0 ≤ 2) (hu3 : -1 ≤ u3 ∧ u3 ≤ 11) (σ : ZS) (hI : Inv σ)  (q0 : σ 36 0 0 641 = n) (s0 : σ 37 0 0 (Int.toNat p0) = u0) (s3 : σ 40 0 0 (Int.toNat p0) = u3) : CT xs 2 140 [av 35 0 0, iv p0, iv p1] σ (fun v σ' => ∃ y, v = some (iv y) ∧ ((y = -1 ∧ (¬ (p1 = -1 ∨ (0 ≤ p1 ∧ p1 < n)))) ∨ (y = 0 ∧ ¬ (¬ (p1 = -1 ∨ (0 ≤ p1 ∧ p1 < n))) ∧ (p1 = -1)) ∨ (y = 1 ∧ ¬ (¬ (p1 = -1 ∨ (0 ≤ p1 ∧ p1 < n))) ∧ ¬ (p1 = -1))) ∧ IF (MBt (Int.toNat p0)) σ σ' ∧ (((y = 1 → σ' 37 0 0 (Int.toNat p0) = 2) ∧ (y = 0 → σ' 37 0 0 (Int.toNat p0) = 0) ∧ (y < 0 → σ' 37 0 0 (Int.toNat p0) = u0)) ∧ ((y = 1 → σ' 40 0 0 (Int.toNat p0) = p1) ∧ (y < 0 → σ' 40 0 0 (Int.toNat p0) = u3)) ∧ True)) := by
  refine G_ct (J := (fun σ' => IF (MBt (Int.toNat p0)) σ σ' ∧ σ' 37 0 0 (Int.toNat p0) = u0 ∧ σ' 40 0 0 (Int.toNat p0) = u3 ∧ True)) (L := [(0, av 35 0 0), (1, iv p0), (2, iv p1)]) (nL := 3) rfl rfl rfl ⟨IF.rf hI, s0, s3, trivial⟩ ?_
  refine T_ld zk_140_0 rfl rfl rfl (pc' := 1) rfl ?_
  refine T_calli (K := fun y1 σ' => ((y1 = 0 ∧ (p0 < 0 ∨ 7 < p0)) ∨ (y1 = 1 ∧ 0 ≤ p0 ∧ p0 ≤ 7)) ∧ (fun σ' => IF (MBt (Int.toNat p0)) σ σ' ∧ σ' 37 0 0 (Int.toNat p0) = u0 ∧ σ' 40 0 0 (Int.toNat p0) = u3 ∧ True) σ') (r := []) zk_140_1 rfl rfl rfl rfl rfl rfl (Or.inl (Or.inl rfl)) (fun σ' h => (m_125 p0 (by omega) σ' h.1.1 ).le (Nat.le_of_ble_eq_true rfl) (fun v σ2 ⟨y, h1, h2, h3, h4⟩ => ⟨y, h1, h2, h.1.tr h3 MN_sub, (h3.2 _ _ _ _ (fun q => q)).trans (h.2.1), (h3.2 _ _ _ _ (fun q => q)).trans (h.2.2.1), trivial⟩)) (pc' := 4) rfl (fun y1 => ?_)
  refine G_ex (fun hy1 => ?_)
  refine T_if_eq zk_140_4 (by omega) (pc' := 7) rfl (fun h2 => ?_) (fun h3 => ?_)
  ·
    refine T_ld zk_140_20 rfl rfl rfl (pc' := 21) rfl ?_
    refine T_op zk_140_21 rfl X_ic (pc' := 22) rfl ?_
    refine T_calli (K := fun y4 σ' => (y4 = (-1)) ∧ (fun σ' => IF (MBt (Int.toNat p0)) σ σ' ∧ σ' 37 0 0 (Int.toNat p0) = u0 ∧ σ' 40 0 0 (Int.toNat p0) = u3 ∧ True) σ') (r := []) zk_140_22 rfl rfl rfl rfl rfl rfl (Or.inr ⟨_, _, _, _, rfl, vd_35, rfl⟩) (fun σ' h => (m_123 ((-1)) (by omega) σ' h.1.1 ).le (Nat.le_of_ble_eq_true rfl) (fun v σ2 ⟨y, h1, h2, h3, h4⟩ => ⟨y, h1, h2, h.1.tr h3 (sb76_7633768 (Int.toNat p0)), (h3.2 _ _ _ _ (by first | exact nMT rfl | (unfold MT; omega))).trans (h.2.1), (h3.2 _ _ _ _ (by first | exact nMT rfl | (unfold MT; omega))).trans (h.2.2.1), trivial⟩)) (pc' := 25) rfl (fun y4 => ?_)
    refine G_ex (fun hy4 => ?_)
    obtain rfl : y4 = (-1) := by omega
    exact T_iret zk_140_25 rfl (fun σ' h => ⟨_, rfl, (by omega), h.1, ⟨(by have e := h.2.1; omega), (by have e := h.2.2.1; omega), trivial⟩⟩)
  ·
    refine T_ld zk_140_7 rfl rfl rfl (pc' := 8) rfl ?_
    refine T_op zk_140_8 rfl X_ic (pc' := 9) rfl ?_
    refine T_icmp_eq zk_140_9 (by omega) (by omega) (pc' := 12) rfl (fun h5 => ?_) (fun h6 => ?_)
    ·
      refine T_ld zk_140_26 rfl rfl rfl (pc' := 27) rfl ?_
      refine T_getR (t' := 37) (i' := 0) (k' := 0) zk_140_27 rfl rfl rfl vd_35 (pc' := 30) rfl ?_
      refine T_ld zk_140_30 rfl rfl rfl (pc' := 31) rfl ?_
      refine T_ld zk_140_31 rfl rfl rfl (pc' := 32) rfl ?_
      refine T_op zk_140_32 rfl X_ic (pc' := 33) rfl ?_
      refine T_icmp_ne zk_140_33 (by omega) (by omega) (pc' := 36) rfl (fun h7 => ?_) (fun h8 => ?_)
      · exfalso; omega
      ·
        refine T_op zk_140_36 rfl X_ic (pc' := 37) rfl ?_
        refine T_goto zk_140_37 ?_
        refine G_iast (J' := (fun σ' => IF (MBt (Int.toNat p0)) σ σ' ∧ σ' 40 0 0 (Int.toNat p0) = u3 ∧ σ' 37 0 0 (Int.toNat p0) = 0 ∧ True)) (ln := 8) zk_140_41 rfl rfl vd_37 (by omega) (by omega) (by omega) (fun σ' h => ⟨h.1.up (by simp only [rgP] <;> omega) (by first | exact pMBt rfl | (unfold MBt; omega)), (up_ne (by omega)).trans (h.2.2.1), up_eq, trivial⟩) (pc' := 42) rfl ?_
        refine T_ld zk_140_42 rfl rfl rfl (pc' := 43) rfl ?_
        refine T_getR (t' := 40) (i' := 0) (k' := 0) zk_140_43 rfl rfl rfl vd_35 (pc' := 46) rfl ?_
        refine T_ld zk_140_46 rfl rfl rfl (pc' := 47) rfl ?_
        refine T_ld zk_140_47 rfl rfl rfl (pc' := 48) rfl ?_
        refine G_iast (J' := (fun σ' => IF (MBt (Int.toNat p0)) σ σ' ∧ σ' 37 0 0 (Int.toNat p0) = 0 ∧ σ' 40 0 0 (Int.toNat p0) = p1 ∧ True)) (ln := 8) zk_140_48 rfl rfl vd_40 (by omega) (by omega) (by omega) (fun σ' h => ⟨h.1.up (by simp only [rgP] <;> omega) (by first | exact pMBt rfl | (unfold MBt; omega)), (up_ne (by omega)).trans (h.2.2.1), up_eq, trivial⟩) (pc' := 49) rfl ?_
        refine T_ld zk_140_49 rfl rfl rfl (pc' := 50) rfl ?_
        refine T_op zk_140_50 rfl X_ic (pc' := 51) rfl ?_
        refine T_icmp_ne zk_140_51 (by omega) (by omega) (pc' := 54) rfl (fun h9 => ?_) (fun h10 => ?_)
        · exfalso; omega
        ·
          refine T_op zk_140_54 rfl X_ic (pc' := 55) rfl ?_
          refine T_goto zk_140_55 ?_
          exact T_iret zk_140_59 rfl (fun σ' h => ⟨_, rfl, (by omega), h.1, ⟨(by have e := h.2.1; omega), (by have e := h.2.2.1; omega), trivial⟩⟩)
    ·
      refine T_ld zk_140_12 rfl rfl rfl (pc' := 13) rfl ?_
      refine T_ld zk_140_13 rfl rfl rfl (pc' := 14) rfl ?_
      refine T_calli (K := fun y11 σ' => ((y11 = 0 ∧ (p1 < 0 ∨ n ≤ p1)) ∨ (y11 = 1 ∧ 0 ≤ p1 ∧ p1 < n)) ∧ (fun σ' => IF (MBt (Int.toNat p0)) σ σ' ∧ σ' 37 0 0 (Int.toNat p0) = u0 ∧ σ' 40 0 0 (Int.toNat p0) = u3 ∧ True) σ') (r := []) zk_140_14 rfl rfl rfl rfl rfl rfl (Or.inr ⟨_, _, _, _, rfl, vd_35, rfl⟩) (fun σ' h => (m_139 p1 n (by omega) (by omega) σ' h.1.1 ((h.1.2 _ _ _ _ (by first | exact nMBt rfl | (unfold MBt; omega))).trans q0)).le (Nat.le_of_ble_eq_true rfl) (fun v σ2 ⟨y, h1, h2, h3, h4⟩ => ⟨y, h1, h2, h.1.tr h3 MN_sub, (h3.2 _ _ _ _ (fun q => q)).trans (h.2.1), (h3.2 _ _ _ _ (fun q => q)).trans (h.2.2.1), trivial⟩)) (pc' := 17) rfl (fun y11 => ?_)
      refine G_ex (fun hy11 => ?_)
      refine T_if_ne zk_140_17 (by omega) (pc' := 20) rfl (fun h12 => ?_) (fun h13 => ?_)
      ·
        refine T_ld zk_140_26 rfl rfl rfl (pc' := 27) rfl ?_
        refine T_getR (t' := 37) (i' := 0) (k' := 0) zk_140_27 rfl rfl rfl vd_35 (pc' := 30) rfl ?_
        refine T_ld zk_140_30 rfl rfl rfl (pc' := 31) rfl ?_
        refine T_ld zk_140_31 rfl rfl rfl (pc' := 32) rfl ?_
        refine T_op zk_140_32 rfl X_ic (pc' := 33) rfl ?_
        refine T_icmp_ne zk_140_33 (by omega) (by omega) (pc' := 36) rfl (fun h14 => ?_) (fun h15 => ?_)
        ·
          refine T_op zk_140_40 rfl X_ic (pc' := 41) rfl ?_
          refine G_iast (J' := (fun σ' => IF (MBt (Int.toNat p0)) σ σ' ∧ σ' 40 0 0 (Int.toNat p0) = u3 ∧ σ' 37 0 0 (Int.toNat p0) = 2 ∧ True)) (ln := 8) zk_140_41 rfl rfl vd_37 (by omega) (by omega) (by omega) (fun σ' h => ⟨h.1.up (by simp only [rgP] <;> omega) (by first | exact pMBt rfl | (unfold MBt; omega)), (up_ne (by omega)).trans (h.2.2.1), up_eq, trivial⟩) (pc' := 42) rfl ?_
          refine T_ld zk_140_42 rfl rfl rfl (pc' := 43) rfl ?_
          refine T_getR (t' := 40) (i' := 0) (k' := 0) zk_140_43 rfl rfl rfl vd_35 (pc' := 46) rfl ?_
          refine T_ld zk_140_46 rfl rfl rfl (pc' := 47) rfl ?_
          refine T_ld zk_140_47 rfl rfl rfl (pc' := 48) rfl ?_
          refine G_iast (J' := (fun σ' => IF (MBt (Int.toNat p0)) σ σ' ∧ σ' 37 0 0 (Int.toNat p0) = 2 ∧ σ' 40 0 0 (Int.toNat p0) = p1 ∧ True)) (ln := 8) zk_140_48 rfl rfl vd_40 (by omega) (by omega) (by omega) (fun σ' h => ⟨h.1.up (by simp only [rgP] <;> omega) (by first | exact pMBt rfl | (unfold MBt; omega)), (up_ne (by omega)).trans (h.2.2.1), up_eq, trivial⟩) (pc' := 49) rfl ?_
          refine T_ld zk_140_49 rfl rfl rfl (pc' := 50) rfl ?_
          refine T_op zk_140_50 rfl X_ic (pc' := 51) rfl ?_
          refine T_icmp_ne zk_140_51 (by omega) (by omega) (pc' := 54) rfl (fun h16 => ?_) (fun h17 => ?_)
          ·
            refine T_op zk_140_58 rfl X_ic (pc' := 59) rfl ?_
            exact T_iret zk_140_59 rfl (fun σ' h => ⟨_, rfl, (by omega), h.1, ⟨(by have e := h.2.1; omega), (by have e := h.2.2.1; omega), trivial⟩⟩)
          · exfalso; omega
        · exfalso; omega
      ·
        refine T_ld zk_140_20 rfl rfl rfl (pc' := 21) rfl ?_
        refine T_op zk_140_21 rfl X_ic (pc' := 22) rfl ?_
        refine T_calli (K := fun y18 σ' => (y18 = (-1)) ∧ (fun σ' => IF (MBt (Int.toNat p0)) σ σ' ∧ σ' 37 0 0 (Int.toNat p0) = u0 ∧ σ' 40 0 0 (Int.toNat p0) = u3 ∧ True) σ') (r := []) zk_140_22 rfl rfl rfl rfl rfl rfl (Or.inr ⟨_, _, _, _, rfl, vd_35, rfl⟩) (fun σ' h => (m_123 ((-1)) (by omega) σ' h.1.1 ).le (Nat.le_of_ble_eq_true rfl) (fun v σ2 ⟨y, h1, h2, h3, h4⟩ => ⟨y, h1, h2, h.1.tr h3 (sb76_7633768 (Int.toNat p0)), (h3.2 _ _ _ _ (by first | exact nMT rfl | (unfold MT; omega))).trans (h.2.1), (h3.2 _ _ _ _ (by first | exact nMT rfl | (unfold MT; omega))).trans (h.2.2.1), trivial⟩)) (pc' := 25) rfl (fun y18 => ?_)
        refine G_ex (fun hy18 => ?_)
        obtain rfl : y18 = (-1) := by omega
        exact T_iret zk_140_25 rfl (fun σ' h => ⟨_, rfl, (by omega), h.1, ⟨(by have e := h.2.1; omega), (by have e := h.2.2.1; omega), trivial⟩⟩)
/-- WModel.show -/
theorem r_140o {xs : Nat × (Nat → Int32)} (p0 : Int) (p1 : Int) (hp0 : -2147483648 ≤ p0 ∧ p0 ≤ 2147483647) (hp1 : -2147483648 ≤ p1 ∧ p1 ≤ 2147483647) (ho : p0 < 0 ∨ 7 < p0) (σ : ZS) (hI : Inv σ)   : CT xs 2 140 [av 35 0 0, iv p0, iv p1] σ (fun v σ' => ∃ y, v = some (iv y) ∧ (y = -1) ∧ IF (MT 49 49 49 49) σ σ' ∧ (True)) := by
  refine G_ct (J := (fun σ' => IF (MT 49 49 49 49) σ σ' ∧ True)) (L := [(0, av 35 0 0), (1, iv p0), (2, iv p1)]) (nL := 3) rfl rfl rfl ⟨IF.rf hI, trivial⟩ ?_
  refine T_ld zk_140_0 rfl rfl rfl (pc' := 1) rfl ?_
  refine T_calli (K := fun y1 σ' => ((y1 = 0 ∧ (p0 < 0 ∨ 7 < p0)) ∨ (y1 = 1 ∧ 0 ≤ p0 ∧ p0 ≤ 7)) ∧ (fun σ' => IF (MT 49 49 49 49) σ σ' ∧ True) σ') (r := []) zk_140_1 rfl rfl rfl rfl rfl rfl (Or.inl (Or.inl rfl)) (fun σ' h => (m_125 p0 (by omega) σ' h.1.1 ).le (Nat.le_of_ble_eq_true rfl) (fun v σ2 ⟨y, h1, h2, h3, h4⟩ => ⟨y, h1, h2, h.1.tr h3 MN_sub, trivial⟩)) (pc' := 4) rfl (fun y1 => ?_)
  refine G_ex (fun hy1 => ?_)
  refine T_if_eq zk_140_4 (by omega) (pc' := 7) rfl (fun h2 => ?_) (fun h3 => ?_)
  ·
    refine T_ld zk_140_20 rfl rfl rfl (pc' := 21) rfl ?_
    refine T_op zk_140_21 rfl X_ic (pc' := 22) rfl ?_
    refine T_calli (K := fun y4 σ' => (y4 = (-1)) ∧ (fun σ' => IF (MT 49 49 49 49) σ σ' ∧ True) σ') (r := []) zk_140_22 rfl rfl rfl rfl rfl rfl (Or.inr ⟨_, _, _, _, rfl, vd_35, rfl⟩) (fun σ' h => (m_123 ((-1)) (by omega) σ' h.1.1 ).le (Nat.le_of_ble_eq_true rfl) (fun v σ2 ⟨y, h1, h2, h3, h4⟩ => ⟨y, h1, h2, h.1.tr h3 (fun _ _ _ _ h => h), trivial⟩)) (pc' := 25) rfl (fun y4 => ?_)
    refine G_ex (fun hy4 => ?_)
    obtain rfl : y4 = (-1) := by omega
    exact T_iret zk_140_25 rfl (fun σ' h => ⟨_, rfl, (by omega), h.1, trivial⟩)
  · exfalso; omega
/-- WModel.sea -/
theorem r_144 {xs : Nat × (Nat → Int32)} (p0 : Int) (p1 : Int) (u0 : Int) (u2 : Int) (hp0 : 0 ≤ p0 ∧ p0 ≤ 7) (hp1 : 0 ≤ p1 ∧ p1 ≤ 1) (hu0 : 0 ≤ u0 ∧ u0 ≤ 2) (hu2 : 0 ≤ u2 ∧ u2 ≤ 96) (σ : ZS) (hI : Inv σ)  (s0 : σ 37 0 0 (Int.toNat p0) = u0) (s2 : σ 39 0 0 (Int.toNat p0) = u2) : CT xs 3 144 [av 35 0 0, iv p0, iv p1] σ (fun v σ' => ∃ y, v = some (iv y) ∧ ((y = -2 ∧ (u0 = 2)) ∨ (y = -3 ∧ ¬ (u0 = 2) ∧ (u0 = 0)) ∨ (y = u2 ∧ ¬ (u0 = 2) ∧ ¬ (u0 = 0))) ∧ IF (MK 256 448 635 637) σ σ' ∧ (True)) := by
  refine G_ct (J := (fun σ' => IF (MK 256 448 635 637) σ σ' ∧ True)) (L := [(0, av 35 0 0), (1, iv p0), (2, iv p1)]) (nL := 10) rfl rfl rfl ⟨IF.rf hI, trivial⟩ ?_
  refine T_ld zk_144_0 rfl rfl rfl (pc' := 1) rfl ?_
  refine T_ld zk_144_1 rfl rfl rfl (pc' := 2) rfl ?_
  refine T_calli (K := fun y1 σ' => ((y1 = -2 ∧ (u0 = 2)) ∨ (y1 = -3 ∧ ¬ (u0 = 2) ∧ (u0 = 0)) ∨ (y1 = 0 ∧ ¬ (u0 = 2) ∧ ¬ (u0 = 0))) ∧ (fun σ' => IF (MK 256 448 635 637) σ σ' ∧ True) σ') (r := []) zk_144_2 rfl rfl rfl rfl rfl rfl (Or.inr ⟨_, _, _, _, rfl, vd_35, rfl⟩) (fun σ' h => (r_143 p0 u0 (by omega) (by omega) σ' h.1.1 ((h.1.2 _ _ _ _ (by first | exact nMK rfl | (unfold MK; omega))).trans s0)).le (Nat.le_of_ble_eq_true rfl) (fun v σ2 ⟨y, h1, h2, h3, h4⟩ => ⟨y, h1, h2, h.1.tr h3 MN_sub, trivial⟩)) (pc' := 5) rfl (fun y1 => ?_)
  refine G_ex (fun hy1 => ?_)
  refine T_st (L' := [(0, av 35 0 0), (1, iv p0), (2, iv p1), (3, iv y1)]) zk_144_5 (nL := 10) rfl rfl rfl rfl rfl (pc' := 6) rfl ?_
  refine T_ld zk_144_6 rfl rfl rfl (pc' := 7) rfl ?_
  refine T_if_eq zk_144_7 (by omega) (pc' := 10) rfl (fun h2 => ?_) (fun h3 => ?_)
  ·
    refine T_ld zk_144_16 rfl rfl rfl (pc' := 17) rfl ?_
    refine T_if_eq zk_144_17 (by omega) (pc' := 20) rfl (fun h4 => ?_) (fun h5 => ?_)
    ·
      refine T_op zk_144_26 rfl (X_si (v := 256) (by decide)) (pc' := 29) rfl ?_
      refine T_st (L' := [(0, av 35 0 0), (1, iv p0), (2, iv p1), (3, iv y1), (4, iv 256)]) zk_144_29 (nL := 10) rfl rfl rfl rfl rfl (pc' := 31) rfl ?_
      refine T_ld zk_144_31 rfl rfl rfl (pc' := 32) rfl ?_
      refine T_getR (t' := 36) (i' := 0) (k' := 0) zk_144_32 rfl rfl rfl vd_35 (pc' := 35) rfl ?_
      refine T_ld zk_144_35 rfl rfl rfl (pc' := 36) rfl ?_
      refine T_if_eq zk_144_36 (by omega) (pc' := 39) rfl (fun h6 => ?_) (fun h7 => ?_)
      ·
        refine T_op zk_144_45 rfl (X_si (v := 635) (by decide)) (pc' := 48) rfl ?_
        refine T_ld zk_144_48 rfl rfl rfl (pc' := 49) rfl ?_
        refine T_getR (t' := 39) (i' := 0) (k' := 0) zk_144_49 rfl rfl rfl vd_35 (pc' := 52) rfl ?_
        refine T_ld zk_144_52 rfl rfl rfl (pc' := 53) rfl ?_
        refine G_ialdX (w := u2) (ln := 8) zk_144_53 rfl rfl vd_39 (by omega) (by omega) (by omega) (fun σ' h => (h.1.2 _ _ _ _ (by first | exact nMK rfl | (unfold MK; omega))).trans s2) (pc' := 54) rfl ?_
        refine G_iast (J' := (fun σ' => IF (MK 256 448 635 637) σ σ' ∧ True)) (ln := 646) zk_144_54 rfl rfl (vd_36 (by omega)) (by omega) (by omega) (by omega) (fun σ' h => ⟨h.1.up (by simp only [rgP] <;> omega) (by first | exact pMK rfl | (unfold MK; omega)), trivial⟩) (pc' := 55) rfl ?_
        refine T_op zk_144_55 rfl X_ic (pc' := 56) rfl ?_
        refine T_st (L' := [(0, av 35 0 0), (1, iv p0), (2, iv p1), (3, iv y1), (4, iv 256), (5, iv 0)]) zk_144_56 (nL := 10) rfl rfl rfl rfl rfl (pc' := 58) rfl ?_
        refine T_loop1 (fun x8 => ((96 - x8 : Int)).toNat) (fun x8 => (0 ≤ x8 ∧ x8 ≤ 96)) (fun x8 => TJ xs (fun σ' => IF (MK 256 448 635 637) σ σ' ∧ True) 2 144 58 [(0, av 35 0 0), (1, iv p0), (2, iv p1), (3, iv y1), (4, iv 256), (5, iv x8)] [] _) ?_ 0 (by omega)
        intro x8 hp10 ih9
        refine T_ld zk_144_58 rfl rfl rfl (pc' := 60) rfl ?_
        refine T_ld zk_144_60 rfl rfl rfl (pc' := 61) rfl ?_
        refine T_getR (t' := 39) (i' := 0) (k' := 0) zk_144_61 rfl rfl rfl vd_35 (pc' := 64) rfl ?_
        refine T_ld zk_144_64 rfl rfl rfl (pc' := 65) rfl ?_
        refine G_ialdX (w := u2) (ln := 8) zk_144_65 rfl rfl vd_39 (by omega) (by omega) (by omega) (fun σ' h => (h.1.2 _ _ _ _ (by first | exact nMK rfl | (unfold MK; omega))).trans s2) (pc' := 66) rfl ?_
        refine T_icmp_ge zk_144_66 (by omega) (by omega) (pc' := 69) rfl (fun h11 => ?_) (fun h12 => ?_)
        ·
          refine T_ld zk_144_207 rfl rfl rfl (pc' := 208) rfl ?_
          refine T_getR (t' := 39) (i' := 0) (k' := 0) zk_144_208 rfl rfl rfl vd_35 (pc' := 211) rfl ?_
          refine T_ld zk_144_211 rfl rfl rfl (pc' := 212) rfl ?_
          refine G_ialdX (w := u2) (ln := 8) zk_144_212 rfl rfl vd_39 (by omega) (by omega) (by omega) (fun σ' h => (h.1.2 _ _ _ _ (by first | exact nMK rfl | (unfold MK; omega))).trans s2) (pc' := 213) rfl ?_
          exact T_iret zk_144_213 rfl (fun σ' h => ⟨_, rfl, (by omega), h.1, trivial⟩)
        ·
          refine T_ld zk_144_69 rfl rfl rfl (pc' := 70) rfl ?_
          refine T_getR (t' := 41) (i' := 0) (k' := 0) zk_144_70 rfl rfl rfl vd_35 (pc' := 73) rfl ?_
          refine T_op zk_144_73 rfl (X_bi (v := 96) (by decide)) (pc' := 75) rfl ?_
          refine T_ld zk_144_75 rfl rfl rfl (pc' := 76) rfl ?_
          refine T_op zk_144_76 rfl X_mul (pc' := 77) rfl ?_
          refine T_ld zk_144_77 rfl rfl rfl (pc' := 79) rfl ?_
          refine T_op zk_144_79 rfl X_add (pc' := 80) rfl ?_
          refine G_lald (ln := 768) zk_144_80 rfl rfl vd_41 (by omega) (by omega) (by omega) (pc' := 81) rfl (fun y13 => ?_)
          refine T_st (L' := [(0, av 35 0 0), (1, iv p0), (2, iv p1), (3, iv y1), (4, iv 256), (5, iv x8), (6, jv y13)]) zk_144_81 (nL := 10) rfl rfl rfl rfl rfl (pc' := 83) rfl ?_
          refine T_ld zk_144_83 rfl rfl rfl (pc' := 85) rfl ?_
          refine T_ld zk_144_85 rfl rfl rfl (pc' := 86) rfl ?_
          refine T_getR (t' := 38) (i' := 0) (k' := 0) zk_144_86 rfl rfl rfl vd_35 (pc' := 89) rfl ?_
          refine T_ld zk_144_89 rfl rfl rfl (pc' := 90) rfl ?_
          refine G_iald (lo := 0) (hi := 3) (ln := 8) zk_144_90 rfl rfl vd_38 (by omega) (by omega) (by omega) (fun σ' h => h.1.1) (fun _ h => h.2 (by omega) (by omega)) (pc' := 91) rfl (fun y14 hy14 hy14' => ?_)
          refine T_if_ne zk_144_91 (by omega) (pc' := 94) rfl (fun h15 => ?_) (fun h16 => ?_)
          ·
            refine T_ld zk_144_100 rfl rfl rfl (pc' := 101) rfl ?_
            refine T_getR (t' := 38) (i' := 0) (k' := 0) zk_144_101 rfl rfl rfl vd_35 (pc' := 104) rfl ?_
            refine T_ld zk_144_104 rfl rfl rfl (pc' := 105) rfl ?_
            refine G_iald (lo := 0) (hi := 3) (ln := 8) zk_144_105 rfl rfl vd_38 (by omega) (by omega) (by omega) (fun σ' h => h.1.1) (fun _ h => h.2 (by omega) (by omega)) (pc' := 106) rfl (fun y17 hy17 hy17' => ?_)
            refine T_op zk_144_106 rfl X_ic (pc' := 107) rfl ?_
            refine T_icmp_ne zk_144_107 (by omega) (by omega) (pc' := 110) rfl (fun h18 => ?_) (fun h19 => ?_)
            ·
              refine T_ld zk_144_116 rfl rfl rfl (pc' := 117) rfl ?_
              refine T_getR (t' := 38) (i' := 0) (k' := 0) zk_144_117 rfl rfl rfl vd_35 (pc' := 120) rfl ?_
              refine T_ld zk_144_120 rfl rfl rfl (pc' := 121) rfl ?_
              refine G_iald (lo := 0) (hi := 3) (ln := 8) zk_144_121 rfl rfl vd_38 (by omega) (by omega) (by omega) (fun σ' h => h.1.1) (fun _ h => h.2 (by omega) (by omega)) (pc' := 122) rfl (fun y20 hy20 hy20' => ?_)
              refine T_op zk_144_122 rfl X_ic (pc' := 123) rfl ?_
              refine T_icmp_ne zk_144_123 (by omega) (by omega) (pc' := 126) rfl (fun h21 => ?_) (fun h22 => ?_)
              ·
                refine T_ldc2 zk_144_132 (pc' := 135) rfl ?_
                refine T_lcmp zk_144_135 (fun y23 hy23 hy23' ey23 => ?_)
                refine T_if_ne zk_144_136 (by omega) (pc' := 139) rfl (fun h24 => ?_) (fun h25 => ?_)
                ·
                  refine T_op zk_144_143 rfl X_ic (pc' := 144) rfl ?_
                  refine T_st (L' := [(0, av 35 0 0), (1, iv p0), (2, iv p1), (3, iv y1), (4, iv 256), (5, iv x8), (6, jv y13), (8, iv 0)]) zk_144_144 (nL := 10) rfl rfl rfl rfl rfl (pc' := 146) rfl ?_
                  refine T_ld zk_144_146 rfl rfl rfl (pc' := 148) rfl ?_
                  refine T_l2iU zk_144_148 (fun y26 hy26 hy26' _ => ?_)
                  refine T_st (L' := [(0, av 35 0 0), (1, iv p0), (2, iv p1), (3, iv y1), (4, iv 256), (5, iv x8), (6, jv y13), (8, iv 0), (9, iv y26)]) zk_144_149 (nL := 10) rfl rfl rfl rfl rfl (pc' := 151) rfl ?_
                  refine T_ld zk_144_151 rfl rfl rfl (pc' := 152) rfl ?_
                  refine T_getR (t' := 36) (i' := 0) (k' := 0) zk_144_152 rfl rfl rfl vd_35 (pc' := 155) rfl ?_
                  refine T_ld zk_144_155 rfl rfl rfl (pc' := 157) rfl ?_
                  refine T_ld zk_144_157 rfl rfl rfl (pc' := 159) rfl ?_
                  refine T_op zk_144_159 rfl X_add (pc' := 160) rfl ?_
                  refine T_ld zk_144_160 rfl rfl rfl (pc' := 162) rfl ?_
                  refine T_if_eq zk_144_162 (by omega) (pc' := 165) rfl (fun h27 => ?_) (fun h28 => ?_)
                  ·
                    refine T_ld zk_144_170 rfl rfl rfl (pc' := 172) rfl ?_
                    refine T_op zk_144_172 rfl (X_si (v := -300) (by decide)) (pc' := 175) rfl ?_
                    refine T_icmp_ge zk_144_175 (by omega) (by omega) (pc' := 178) rfl (fun h29 => ?_) (fun h30 => ?_)
                    ·
                      refine T_ld zk_144_184 rfl rfl rfl (pc' := 186) rfl ?_
                      refine T_op zk_144_186 rfl (X_si (v := 300) (by decide)) (pc' := 189) rfl ?_
                      refine T_icmp_le zk_144_189 (by omega) (by omega) (pc' := 192) rfl (fun h31 => ?_) (fun h32 => ?_)
                      ·
                        refine T_ld zk_144_198 rfl rfl rfl (pc' := 200) rfl ?_
                        refine G_iast (J' := (fun σ' => IF (MK 256 448 635 637) σ σ' ∧ True)) (ln := 646) zk_144_200 rfl rfl (vd_36 (by omega)) (by omega) (by omega) (by omega) (fun σ' h => ⟨h.1.up (by simp only [rgP] <;> omega) (by first | exact pMK rfl | (unfold MK; omega)), trivial⟩) (pc' := 201) rfl ?_
                        refine T_iinc (L' := [(0, av 35 0 0), (1, iv p0), (2, iv p1), (3, iv y1), (4, iv 256), (5, iv (x8 + 1)), (6, jv y13), (8, iv 0), (9, iv y26)]) zk_144_201 (nL := 10) rfl rfl rfl rfl (pc' := 204) rfl ?_
                        refine T_goto zk_144_204 ?_
                        refine T_loc (L := [(0, av 35 0 0), (1, iv p0), (2, iv p1), (3, iv y1), (4, iv 256), (5, iv (x8 + 1))]) (E := [(6, jv y13), (8, iv 0), (9, iv y26)]) rfl ?_
                        exact ih9 (x8 + 1) (by omega) (by omega)
                      ·
                        refine T_op zk_144_192 rfl (X_si (v := 300) (by decide)) (pc' := 195) rfl ?_
                        refine T_goto zk_144_195 ?_
                        refine G_iast (J' := (fun σ' => IF (MK 256 448 635 637) σ σ' ∧ True)) (ln := 646) zk_144_200 rfl rfl (vd_36 (by omega)) (by omega) (by omega) (by omega) (fun σ' h => ⟨h.1.up (by simp only [rgP] <;> omega) (by first | exact pMK rfl | (unfold MK; omega)), trivial⟩) (pc' := 201) rfl ?_
                        refine T_iinc (L' := [(0, av 35 0 0), (1, iv p0), (2, iv p1), (3, iv y1), (4, iv 256), (5, iv (x8 + 1)), (6, jv y13), (8, iv 0), (9, iv y26)]) zk_144_201 (nL := 10) rfl rfl rfl rfl (pc' := 204) rfl ?_
                        refine T_goto zk_144_204 ?_
                        refine T_loc (L := [(0, av 35 0 0), (1, iv p0), (2, iv p1), (3, iv y1), (4, iv 256), (5, iv (x8 + 1))]) (E := [(6, jv y13), (8, iv 0), (9, iv y26)]) rfl ?_
                        exact ih9 (x8 + 1) (by omega) (by omega)
                    ·
                      refine T_op zk_144_178 rfl (X_si (v := -300) (by decide)) (pc' := 181) rfl ?_
                      refine T_goto zk_144_181 ?_
                      refine G_iast (J' := (fun σ' => IF (MK 256 448 635 637) σ σ' ∧ True)) (ln := 646) zk_144_200 rfl rfl (vd_36 (by omega)) (by omega) (by omega) (by omega) (fun σ' h => ⟨h.1.up (by simp only [rgP] <;> omega) (by first | exact pMK rfl | (unfold MK; omega)), trivial⟩) (pc' := 201) rfl ?_
                      refine T_iinc (L' := [(0, av 35 0 0), (1, iv p0), (2, iv p1), (3, iv y1), (4, iv 256), (5, iv (x8 + 1)), (6, jv y13), (8, iv 0), (9, iv y26)]) zk_144_201 (nL := 10) rfl rfl rfl rfl (pc' := 204) rfl ?_
                      refine T_goto zk_144_204 ?_
                      refine T_loc (L := [(0, av 35 0 0), (1, iv p0), (2, iv p1), (3, iv y1), (4, iv 256), (5, iv (x8 + 1))]) (E := [(6, jv y13), (8, iv 0), (9, iv y26)]) rfl ?_
                      exact ih9 (x8 + 1) (by omega) (by omega)
                  · exfalso; omega
                ·
                  refine T_op zk_144_139 rfl X_ic (pc' := 140) rfl ?_
                  refine T_goto zk_144_140 ?_
                  refine T_st (L' := [(0, av 35 0 0), (1, iv p0), (2, iv p1), (3, iv y1), (4, iv 256), (5, iv x8), (6, jv y13), (8, iv 1)]) zk_144_144 (nL := 10) rfl rfl rfl rfl rfl (pc' := 146) rfl ?_
                  refine T_ld zk_144_146 rfl rfl rfl (pc' := 148) rfl ?_
                  refine T_l2iU zk_144_148 (fun y33 hy33 hy33' _ => ?_)
                  refine T_st (L' := [(0, av 35 0 0), (1, iv p0), (2, iv p1), (3, iv y1), (4, iv 256), (5, iv x8), (6, jv y13), (8, iv 1), (9, iv y33)]) zk_144_149 (nL := 10) rfl rfl rfl rfl rfl (pc' := 151) rfl ?_
                  refine T_ld zk_144_151 rfl rfl rfl (pc' := 152) rfl ?_
                  refine T_getR (t' := 36) (i' := 0) (k' := 0) zk_144_152 rfl rfl rfl vd_35 (pc' := 155) rfl ?_
                  refine T_ld zk_144_155 rfl rfl rfl (pc' := 157) rfl ?_
                  refine T_ld zk_144_157 rfl rfl rfl (pc' := 159) rfl ?_
                  refine T_op zk_144_159 rfl X_add (pc' := 160) rfl ?_
                  refine T_ld zk_144_160 rfl rfl rfl (pc' := 162) rfl ?_
                  refine T_if_eq zk_144_162 (by omega) (pc' := 165) rfl (fun h34 => ?_) (fun h35 => ?_)
                  · exfalso; omega
                  ·
                    refine T_op zk_144_165 rfl (X_bi (v := 30) (by decide)) (pc' := 167) rfl ?_
                    refine T_goto zk_144_167 ?_
                    refine G_iast (J' := (fun σ' => IF (MK 256 448 635 637) σ σ' ∧ True)) (ln := 646) zk_144_200 rfl rfl (vd_36 (by omega)) (by omega) (by omega) (by omega) (fun σ' h => ⟨h.1.up (by simp only [rgP] <;> omega) (by first | exact pMK rfl | (unfold MK; omega)), trivial⟩) (pc' := 201) rfl ?_
                    refine T_iinc (L' := [(0, av 35 0 0), (1, iv p0), (2, iv p1), (3, iv y1), (4, iv 256), (5, iv (x8 + 1)), (6, jv y13), (8, iv 1), (9, iv y33)]) zk_144_201 (nL := 10) rfl rfl rfl rfl (pc' := 204) rfl ?_
                    refine T_goto zk_144_204 ?_
                    refine T_loc (L := [(0, av 35 0 0), (1, iv p0), (2, iv p1), (3, iv y1), (4, iv 256), (5, iv (x8 + 1))]) (E := [(6, jv y13), (8, iv 1), (9, iv y33)]) rfl ?_
                    exact ih9 (x8 + 1) (by omega) (by omega)
              ·
                refine T_ldc2 zk_144_126 (pc' := 129) rfl ?_
                refine T_goto zk_144_129 ?_
                refine T_lcmp zk_144_135 (fun y36 hy36 hy36' ey36 => ?_)
                refine T_if_ne zk_144_136 (by omega) (pc' := 139) rfl (fun h37 => ?_) (fun h38 => ?_)
                ·
                  refine T_op zk_144_143 rfl X_ic (pc' := 144) rfl ?_
                  refine T_st (L' := [(0, av 35 0 0), (1, iv p0), (2, iv p1), (3, iv y1), (4, iv 256), (5, iv x8), (6, jv y13), (8, iv 0)]) zk_144_144 (nL := 10) rfl rfl rfl rfl rfl (pc' := 146) rfl ?_
                  refine T_ld zk_144_146 rfl rfl rfl (pc' := 148) rfl ?_
                  refine T_l2iU zk_144_148 (fun y39 hy39 hy39' _ => ?_)
                  refine T_st (L' := [(0, av 35 0 0), (1, iv p0), (2, iv p1), (3, iv y1), (4, iv 256), (5, iv x8), (6, jv y13), (8, iv 0), (9, iv y39)]) zk_144_149 (nL := 10) rfl rfl rfl rfl rfl (pc' := 151) rfl ?_
                  refine T_ld zk_144_151 rfl rfl rfl (pc' := 152) rfl ?_
                  refine T_getR (t' := 36) (i' := 0) (k' := 0) zk_144_152 rfl rfl rfl vd_35 (pc' := 155) rfl ?_
                  refine T_ld zk_144_155 rfl rfl rfl (pc' := 157) rfl ?_
                  refine T_ld zk_144_157 rfl rfl rfl (pc' := 159) rfl ?_
                  refine T_op zk_144_159 rfl X_add (pc' := 160) rfl ?_
                  refine T_ld zk_144_160 rfl rfl rfl (pc' := 162) rfl ?_
                  refine T_if_eq zk_144_162 (by omega) (pc' := 165) rfl (fun h40 => ?_) (fun h41 => ?_)
                  ·
                    refine T_ld zk_144_170 rfl rfl rfl (pc' := 172) rfl ?_
                    refine T_op zk_144_172 rfl (X_si (v := -300) (by decide)) (pc' := 175) rfl ?_
                    refine T_icmp_ge zk_144_175 (by omega) (by omega) (pc' := 178) rfl (fun h42 => ?_) (fun h43 => ?_)
                    ·
                      refine T_ld zk_144_184 rfl rfl rfl (pc' := 186) rfl ?_
                      refine T_op zk_144_186 rfl (X_si (v := 300) (by decide)) (pc' := 189) rfl ?_
                      refine T_icmp_le zk_144_189 (by omega) (by omega) (pc' := 192) rfl (fun h44 => ?_) (fun h45 => ?_)
                      ·
                        refine T_ld zk_144_198 rfl rfl rfl (pc' := 200) rfl ?_
                        refine G_iast (J' := (fun σ' => IF (MK 256 448 635 637) σ σ' ∧ True)) (ln := 646) zk_144_200 rfl rfl (vd_36 (by omega)) (by omega) (by omega) (by omega) (fun σ' h => ⟨h.1.up (by simp only [rgP] <;> omega) (by first | exact pMK rfl | (unfold MK; omega)), trivial⟩) (pc' := 201) rfl ?_
                        refine T_iinc (L' := [(0, av 35 0 0), (1, iv p0), (2, iv p1), (3, iv y1), (4, iv 256), (5, iv (x8 + 1)), (6, jv y13), (8, iv 0), (9, iv y39)]) zk_144_201 (nL := 10) rfl rfl rfl rfl (pc' := 204) rfl ?_
                        refine T_goto zk_144_204 ?_
                        refine T_loc (L := [(0, av 35 0 0), (1, iv p0), (2, iv p1), (3, iv y1), (4, iv 256), (5, iv (x8 + 1))]) (E := [(6, jv y13), (8, iv 0), (9, iv y39)]) rfl ?_
                        exact ih9 (x8 + 1) (by omega) (by omega)
                      ·
                        refine T_op zk_144_192 rfl (X_si (v := 300) (by decide)) (pc' := 195) rfl ?_
                        refine T_goto zk_144_195 ?_
                        refine G_iast (J' := (fun σ' => IF (MK 256 448 635 637) σ σ' ∧ True)) (ln := 646) zk_144_200 rfl rfl (vd_36 (by omega)) (by omega) (by omega) (by omega) (fun σ' h => ⟨h.1.up (by simp only [rgP] <;> omega) (by first | exact pMK rfl | (unfold MK; omega)), trivial⟩) (pc' := 201) rfl ?_
                        refine T_iinc (L' := [(0, av 35 0 0), (1, iv p0), (2, iv p1), (3, iv y1), (4, iv 256), (5, iv (x8 + 1)), (6, jv y13), (8, iv 0), (9, iv y39)]) zk_144_201 (nL := 10) rfl rfl rfl rfl (pc' := 204) rfl ?_
                        refine T_goto zk_144_204 ?_
                        refine T_loc (L := [(0, av 35 0 0), (1, iv p0), (2, iv p1), (3, iv y1), (4, iv 256), (5, iv (x8 + 1))]) (E := [(6, jv y13), (8, iv 0), (9, iv y39)]) rfl ?_
                        exact ih9 (x8 + 1) (by omega) (by omega)
                    ·
                      refine T_op zk_144_178 rfl (X_si (v := -300) (by decide)) (pc' := 181) rfl ?_
                      refine T_goto zk_144_181 ?_
                      refine G_iast (J' := (fun σ' => IF (MK 256 448 635 637) σ σ' ∧ True)) (ln := 646) zk_144_200 rfl rfl (vd_36 (by omega)) (by omega) (by omega) (by omega) (fun σ' h => ⟨h.1.up (by simp only [rgP] <;> omega) (by first | exact pMK rfl | (unfold MK; omega)), trivial⟩) (pc' := 201) rfl ?_
                      refine T_iinc (L' := [(0, av 35 0 0), (1, iv p0), (2, iv p1), (3, iv y1), (4, iv 256), (5, iv (x8 + 1)), (6, jv y13), (8, iv 0), (9, iv y39)]) zk_144_201 (nL := 10) rfl rfl rfl rfl (pc' := 204) rfl ?_
                      refine T_goto zk_144_204 ?_
                      refine T_loc (L := [(0, av 35 0 0), (1, iv p0), (2, iv p1), (3, iv y1), (4, iv 256), (5, iv (x8 + 1))]) (E := [(6, jv y13), (8, iv 0), (9, iv y39)]) rfl ?_
                      exact ih9 (x8 + 1) (by omega) (by omega)
                  · exfalso; omega
                ·
                  refine T_op zk_144_139 rfl X_ic (pc' := 140) rfl ?_
                  refine T_goto zk_144_140 ?_
                  refine T_st (L' := [(0, av 35 0 0), (1, iv p0), (2, iv p1), (3, iv y1), (4, iv 256), (5, iv x8), (6, jv y13), (8, iv 1)]) zk_144_144 (nL := 10) rfl rfl rfl rfl rfl (pc' := 146) rfl ?_
                  refine T_ld zk_144_146 rfl rfl rfl (pc' := 148) rfl ?_
                  refine T_l2iU zk_144_148 (fun y46 hy46 hy46' _ => ?_)
                  refine T_st (L' := [(0, av 35 0 0), (1, iv p0), (2, iv p1), (3, iv y1), (4, iv 256), (5, iv x8), (6, jv y13), (8, iv 1), (9, iv y46)]) zk_144_149 (nL := 10) rfl rfl rfl rfl rfl (pc' := 151) rfl ?_
                  refine T_ld zk_144_151 rfl rfl rfl (pc' := 152) rfl ?_
                  refine T_getR (t' := 36) (i' := 0) (k' := 0) zk_144_152 rfl rfl rfl vd_35 (pc' := 155) rfl ?_
                  refine T_ld zk_144_155 rfl rfl rfl (pc' := 157) rfl ?_
                  refine T_ld zk_144_157 rfl rfl rfl (pc' := 159) rfl ?_
                  refine T_op zk_144_159 rfl X_add (pc' := 160) rfl ?_
                  refine T_ld zk_144_160 rfl rfl rfl (pc' := 162) rfl ?_
                  refine T_if_eq zk_144_162 (by omega) (pc' := 165) rfl (fun h47 => ?_) (fun h48 => ?_)
                  · exfalso; omega
                  ·
                    refine T_op zk_144_165 rfl (X_bi (v := 30) (by decide)) (pc' := 167) rfl ?_
                    refine T_goto zk_144_167 ?_
                    refine G_iast (J' := (fun σ' => IF (MK 256 448 635 637) σ σ' ∧ True)) (ln := 646) zk_144_200 rfl rfl (vd_36 (by omega)) (by omega) (by omega) (by omega) (fun σ' h => ⟨h.1.up (by simp only [rgP] <;> omega) (by first | exact pMK rfl | (unfold MK; omega)), trivial⟩) (pc' := 201) rfl ?_
                    refine T_iinc (L' := [(0, av 35 0 0), (1, iv p0), (2, iv p1), (3, iv y1), (4, iv 256), (5, iv (x8 + 1)), (6, jv y13), (8, iv 1), (9, iv y46)]) zk_144_201 (nL := 10) rfl rfl rfl rfl (pc' := 204) rfl ?_
                    refine T_goto zk_144_204 ?_
                    refine T_loc (L := [(0, av 35 0 0), (1, iv p0), (2, iv p1), (3, iv y1), (4, iv 256), (5, iv (x8 + 1))]) (E := [(6, jv y13), (8, iv 1), (9, iv y46)]) rfl ?_
                    exact ih9 (x8 + 1) (by omega) (by omega)
            ·
              refine T_ldc2 zk_144_110 (pc' := 113) rfl ?_
              refine T_goto zk_144_113 ?_
              refine T_lcmp zk_144_135 (fun y49 hy49 hy49' ey49 => ?_)
              refine T_if_ne zk_144_136 (by omega) (pc' := 139) rfl (fun h50 => ?_) (fun h51 => ?_)
              ·
                refine T_op zk_144_143 rfl X_ic (pc' := 144) rfl ?_
                refine T_st (L' := [(0, av 35 0 0), (1, iv p0), (2, iv p1), (3, iv y1), (4, iv 256), (5, iv x8), (6, jv y13), (8, iv 0)]) zk_144_144 (nL := 10) rfl rfl rfl rfl rfl (pc' := 146) rfl ?_
                refine T_ld zk_144_146 rfl rfl rfl (pc' := 148) rfl ?_
                refine T_l2iU zk_144_148 (fun y52 hy52 hy52' _ => ?_)
                refine T_st (L' := [(0, av 35 0 0), (1, iv p0), (2, iv p1), (3, iv y1), (4, iv 256), (5, iv x8), (6, jv y13), (8, iv 0), (9, iv y52)]) zk_144_149 (nL := 10) rfl rfl rfl rfl rfl (pc' := 151) rfl ?_
                refine T_ld zk_144_151 rfl rfl rfl (pc' := 152) rfl ?_
                refine T_getR (t' := 36) (i' := 0) (k' := 0) zk_144_152 rfl rfl rfl vd_35 (pc' := 155) rfl ?_
                refine T_ld zk_144_155 rfl rfl rfl (pc' := 157) rfl ?_
                refine T_ld zk_144_157 rfl rfl rfl (pc' := 159) rfl ?_
                refine T_op zk_144_159 rfl X_add (pc' := 160) rfl ?_
                refine T_ld zk_144_160 rfl rfl rfl (pc' := 162) rfl ?_
                refine T_if_eq zk_144_162 (by omega) (pc' := 165) rfl (fun h53 => ?_) (fun h54 => ?_)
                ·
                  refine T_ld zk_144_170 rfl rfl rfl (pc' := 172) rfl ?_
                  refine T_op zk_144_172 rfl (X_si (v := -300) (by decide)) (pc' := 175) rfl ?_
                  refine T_icmp_ge zk_144_175 (by omega) (by omega) (pc' := 178) rfl (fun h55 => ?_) (fun h56 => ?_)
                  ·
                    refine T_ld zk_144_184 rfl rfl rfl (pc' := 186) rfl ?_
                    refine T_op zk_144_186 rfl (X_si (v := 300) (by decide)) (pc' := 189) rfl ?_
                    refine T_icmp_le zk_144_189 (by omega) (by omega) (pc' := 192) rfl (fun h57 => ?_) (fun h58 => ?_)
                    ·
                      refine T_ld zk_144_198 rfl rfl rfl (pc' := 200) rfl ?_
                      refine G_iast (J' := (fun σ' => IF (MK 256 448 635 637) σ σ' ∧ True)) (ln := 646) zk_144_200 rfl rfl (vd_36 (by omega)) (by omega) (by omega) (by omega) (fun σ' h => ⟨h.1.up (by simp only [rgP] <;> omega) (by first | exact pMK rfl | (unfold MK; omega)), trivial⟩) (pc' := 201) rfl ?_
                      refine T_iinc (L' := [(0, av 35 0 0), (1, iv p0), (2, iv p1), (3, iv y1), (4, iv 256), (5, iv (x8 + 1)), (6, jv y13), (8, iv 0), (9, iv y52)]) zk_144_201 (nL := 10) rfl rfl rfl rfl (pc' := 204) rfl ?_
                      refine T_goto zk_144_204 ?_
                      refine T_loc (L := [(0, av 35 0 0), (1, iv p0), (2, iv p1), (3, iv y1), (4, iv 256), (5, iv (x8 + 1))]) (E := [(6, jv y13), (8, iv 0), (9, iv y52)]) rfl ?_
                      exact ih9 (x8 + 1) (by omega) (by omega)
                    ·
                      refine T_op zk_144_192 rfl (X_si (v := 300) (by decide)) (pc' := 195) rfl ?_
                      refine T_goto zk_144_195 ?_
                      refine G_iast (J' := (fun σ' => IF (MK 256 448 635 637) σ σ' ∧ True)) (ln := 646) zk_144_200 rfl rfl (vd_36 (by omega)) (by omega) (by omega) (by omega) (fun σ' h => ⟨h.1.up (by simp only [rgP] <;> omega) (by first | exact pMK rfl | (unfold MK; omega)), trivial⟩) (pc' := 201) rfl ?_
                      refine T_iinc (L' := [(0, av 35 0 0), (1, iv p0), (2, iv p1), (3, iv y1), (4, iv 256), (5, iv (x8 + 1)), (6, jv y13), (8, iv 0), (9, iv y52)]) zk_144_201 (nL := 10) rfl rfl rfl rfl (pc' := 204) rfl ?_
                      refine T_goto zk_144_204 ?_
                      refine T_loc (L := [(0, av 35 0 0), (1, iv p0), (2, iv p1), (3, iv y1), (4, iv 256), (5, iv (x8 + 1))]) (E := [(6, jv y13), (8, iv 0), (9, iv y52)]) rfl ?_
                      exact ih9 (x8 + 1) (by omega) (by omega)
                  ·
                    refine T_op zk_144_178 rfl (X_si (v := -300) (by decide)) (pc' := 181) rfl ?_
                    refine T_goto zk_144_181 ?_
                    refine G_iast (J' := (fun σ' => IF (MK 256 448 635 637) σ σ' ∧ True)) (ln := 646) zk_144_200 rfl rfl (vd_36 (by omega)) (by omega) (by omega) (by omega) (fun σ' h => ⟨h.1.up (by simp only [rgP] <;> omega) (by first | exact pMK rfl | (unfold MK; omega)), trivial⟩) (pc' := 201) rfl ?_
                    refine T_iinc (L' := [(0, av 35 0 0), (1, iv p0), (2, iv p1), (3, iv y1), (4, iv 256), (5, iv (x8 + 1)), (6, jv y13), (8, iv 0), (9, iv y52)]) zk_144_201 (nL := 10) rfl rfl rfl rfl (pc' := 204) rfl ?_
                    refine T_goto zk_144_204 ?_
                    refine T_loc (L := [(0, av 35 0 0), (1, iv p0), (2, iv p1), (3, iv y1), (4, iv 256), (5, iv (x8 + 1))]) (E := [(6, jv y13), (8, iv 0), (9, iv y52)]) rfl ?_
                    exact ih9 (x8 + 1) (by omega) (by omega)
                · exfalso; omega
              ·
                refine T_op zk_144_139 rfl X_ic (pc' := 140) rfl ?_
                refine T_goto zk_144_140 ?_
                refine T_st (L' := [(0, av 35 0 0), (1, iv p0), (2, iv p1), (3, iv y1), (4, iv 256), (5, iv x8), (6, jv y13), (8, iv 1)]) zk_144_144 (nL := 10) rfl rfl rfl rfl rfl (pc' := 146) rfl ?_
                refine T_ld zk_144_146 rfl rfl rfl (pc' := 148) rfl ?_
                refine T_l2iU zk_144_148 (fun y59 hy59 hy59' _ => ?_)
                refine T_st (L' := [(0, av 35 0 0), (1, iv p0), (2, iv p1), (3, iv y1), (4, iv 256), (5, iv x8), (6, jv y13), (8, iv 1), (9, iv y59)]) zk_144_149 (nL := 10) rfl rfl rfl rfl rfl (pc' := 151) rfl ?_
                refine T_ld zk_144_151 rfl rfl rfl (pc' := 152) rfl ?_
                refine T_getR (t' := 36) (i' := 0) (k' := 0) zk_144_152 rfl rfl rfl vd_35 (pc' := 155) rfl ?_
                refine T_ld zk_144_155 rfl rfl rfl (pc' := 157) rfl ?_
                refine T_ld zk_144_157 rfl rfl rfl (pc' := 159) rfl ?_
                refine T_op zk_144_159 rfl X_add (pc' := 160) rfl ?_
                refine T_ld zk_144_160 rfl rfl rfl (pc' := 162) rfl ?_
                refine T_if_eq zk_144_162 (by omega) (pc' := 165) rfl (fun h60 => ?_) (fun h61 => ?_)
                · exfalso; omega
                ·
                  refine T_op zk_144_165 rfl (X_bi (v := 30) (by decide)) (pc' := 167) rfl ?_
                  refine T_goto zk_144_167 ?_
                  refine G_iast (J' := (fun σ' => IF (MK 256 448 635 637) σ σ' ∧ True)) (ln := 646) zk_144_200 rfl rfl (vd_36 (by omega)) (by omega) (by omega) (by omega) (fun σ' h => ⟨h.1.up (by simp only [rgP] <;> omega) (by first | exact pMK rfl | (unfold MK; omega)), trivial⟩) (pc' := 201) rfl ?_
                  refine T_iinc (L' := [(0, av 35 0 0), (1, iv p0), (2, iv p1), (3, iv y1), (4, iv 256), (5, iv (x8 + 1)), (6, jv y13), (8, iv 1), (9, iv y59)]) zk_144_201 (nL := 10) rfl rfl rfl rfl (pc' := 204) rfl ?_
                  refine T_goto zk_144_204 ?_
                  refine T_loc (L := [(0, av 35 0 0), (1, iv p0), (2, iv p1), (3, iv y1), (4, iv 256), (5, iv (x8 + 1))]) (E := [(6, jv y13), (8, iv 1), (9, iv y59)]) rfl ?_
                  exact ih9 (x8 + 1) (by omega) (by omega)
          ·
            refine T_ldc2 zk_144_94 (pc' := 97) rfl ?_
            refine T_goto zk_144_97 ?_
            refine T_lcmp zk_144_135 (fun y62 hy62 hy62' ey62 => ?_)
            refine T_if_ne zk_144_136 (by omega) (pc' := 139) rfl (fun h63 => ?_) (fun h64 => ?_)
            ·
              refine T_op zk_144_143 rfl X_ic (pc' := 144) rfl ?_
              refine T_st (L' := [(0, av 35 0 0), (1, iv p0), (2, iv p1), (3, iv y1), (4, iv 256), (5, iv x8), (6, jv y13), (8, iv 0)]) zk_144_144 (nL := 10) rfl rfl rfl rfl rfl (pc' := 146) rfl ?_
              refine T_ld zk_144_146 rfl rfl rfl (pc' := 148) rfl ?_
              refine T_l2iU zk_144_148 (fun y65 hy65 hy65' _ => ?_)
              refine T_st (L' := [(0, av 35 0 0), (1, iv p0), (2, iv p1), (3, iv y1), (4, iv 256), (5, iv x8), (6, jv y13), (8, iv 0), (9, iv y65)]) zk_144_149 (nL := 10) rfl rfl rfl rfl rfl (pc' := 151) rfl ?_
              refine T_ld zk_144_151 rfl rfl rfl (pc' := 152) rfl ?_
              refine T_getR (t' := 36) (i' := 0) (k' := 0) zk_144_152 rfl rfl rfl vd_35 (pc' := 155) rfl ?_
              refine T_ld zk_144_155 rfl rfl rfl (pc' := 157) rfl ?_
              refine T_ld zk_144_157 rfl rfl rfl (pc' := 159) rfl ?_
              refine T_op zk_144_159 rfl X_add (pc' := 160) rfl ?_
              refine T_ld zk_144_160 rfl rfl rfl (pc' := 162) rfl ?_
              refine T_if_eq zk_144_162 (by omega) (pc' := 165) rfl (fun h66 => ?_) (fun h67 => ?_)
              ·
                refine T_ld zk_144_170 rfl rfl rfl (pc' := 172) rfl ?_
                refine T_op zk_144_172 rfl (X_si (v := -300) (by decide)) (pc' := 175) rfl ?_
                refine T_icmp_ge zk_144_175 (by omega) (by omega) (pc' := 178) rfl (fun h68 => ?_) (fun h69 => ?_)
                ·
                  refine T_ld zk_144_184 rfl rfl rfl (pc' := 186) rfl ?_
                  refine T_op zk_144_186 rfl (X_si (v := 300) (by decide)) (pc' := 189) rfl ?_
                  refine T_icmp_le zk_144_189 (by omega) (by omega) (pc' := 192) rfl (fun h70 => ?_) (fun h71 => ?_)
                  ·
                    refine T_ld zk_144_198 rfl rfl rfl (pc' := 200) rfl ?_
                    refine G_iast (J' := (fun σ' => IF (MK 256 448 635 637) σ σ' ∧ True)) (ln := 646) zk_144_200 rfl rfl (vd_36 (by omega)) (by omega) (by omega) (by omega) (fun σ' h => ⟨h.1.up (by simp only [rgP] <;> omega) (by first | exact pMK rfl | (unfold MK; omega)), trivial⟩) (pc' := 201) rfl ?_
                    refine T_iinc (L' := [(0, av 35 0 0), (1, iv p0), (2, iv p1), (3, iv y1), (4, iv 256), (5, iv (x8 + 1)), (6, jv y13), (8, iv 0), (9, iv y65)]) zk_144_201 (nL := 10) rfl rfl rfl rfl (pc' := 204) rfl ?_
                    refine T_goto zk_144_204 ?_
                    refine T_loc (L := [(0, av 35 0 0), (1, iv p0), (2, iv p1), (3, iv y1), (4, iv 256), (5, iv (x8 + 1))]) (E := [(6, jv y13), (8, iv 0), (9, iv y65)]) rfl ?_
                    exact ih9 (x8 + 1) (by omega) (by omega)
                  ·
                    refine T_op zk_144_192 rfl (X_si (v := 300) (by decide)) (pc' := 195) rfl ?_
                    refine T_goto zk_144_195 ?_
                    refine G_iast (J' := (fun σ' => IF (MK 256 448 635 637) σ σ' ∧ True)) (ln := 646) zk_144_200 rfl rfl (vd_36 (by omega)) (by omega) (by omega) (by omega) (fun σ' h => ⟨h.1.up (by simp only [rgP] <;> omega) (by first | exact pMK rfl | (unfold MK; omega)), trivial⟩) (pc' := 201) rfl ?_
                    refine T_iinc (L' := [(0, av 35 0 0), (1, iv p0), (2, iv p1), (3, iv y1), (4, iv 256), (5, iv (x8 + 1)), (6, jv y13), (8, iv 0), (9, iv y65)]) zk_144_201 (nL := 10) rfl rfl rfl rfl (pc' := 204) rfl ?_
                    refine T_goto zk_144_204 ?_
                    refine T_loc (L := [(0, av 35 0 0), (1, iv p0), (2, iv p1), (3, iv y1), (4, iv 256), (5, iv (x8 + 1))]) (E := [(6, jv y13), (8, iv 0), (9, iv y65)]) rfl ?_
                    exact ih9 (x8 + 1) (by omega) (by omega)
                ·
                  refine T_op zk_144_178 rfl (X_si (v := -300) (by decide)) (pc' := 181) rfl ?_
                  refine T_goto zk_144_181 ?_
                  refine G_iast (J' := (fun σ' => IF (MK 256 448 635 637) σ σ' ∧ True)) (ln := 646) zk_144_200 rfl rfl (vd_36 (by omega)) (by omega) (by omega) (by omega) (fun σ' h => ⟨h.1.up (by simp only [rgP] <;> omega) (by first | exact pMK rfl | (unfold MK; omega)), trivial⟩) (pc' := 201) rfl ?_
                  refine T_iinc (L' := [(0, av 35 0 0), (1, iv p0), (2, iv p1), (3, iv y1), (4, iv 256), (5, iv (x8 + 1)), (6, jv y13), (8, iv 0), (9, iv y65)]) zk_144_201 (nL := 10) rfl rfl rfl rfl (pc' := 204) rfl ?_
                  refine T_goto zk_144_204 ?_
                  refine T_loc (L := [(0, av 35 0 0), (1, iv p0), (2, iv p1), (3, iv y1), (4, iv 256), (5, iv (x8 + 1))]) (E := [(6, jv y13), (8, iv 0), (9, iv y65)]) rfl ?_
                  exact ih9 (x8 + 1) (by omega) (by omega)
              · exfalso; omega
            ·
              refine T_op zk_144_139 rfl X_ic (pc' := 140) rfl ?_
              refine T_goto zk_144_140 ?_
              refine T_st (L' := [(0, av 35 0 0), (1, iv p0), (2, iv p1), (3, iv y1), (4, iv 256), (5, iv x8), (6, jv y13), (8, iv 1)]) zk_144_144 (nL := 10) rfl rfl rfl rfl rfl (pc' := 146) rfl ?_
              refine T_ld zk_144_146 rfl rfl rfl (pc' := 148) rfl ?_
              refine T_l2iU zk_144_148 (fun y72 hy72 hy72' _ => ?_)
              refine T_st (L' := [(0, av 35 0 0), (1, iv p0), (2, iv p1), (3, iv y1), (4, iv 256), (5, iv x8), (6, jv y13), (8, iv 1), (9, iv y72)]) zk_144_149 (nL := 10) rfl rfl rfl rfl rfl (pc' := 151) rfl ?_
              refine T_ld zk_144_151 rfl rfl rfl (pc' := 152) rfl ?_
              refine T_getR (t' := 36) (i' := 0) (k' := 0) zk_144_152 rfl rfl rfl vd_35 (pc' := 155) rfl ?_
              refine T_ld zk_144_155 rfl rfl rfl (pc' := 157) rfl ?_
              refine T_ld zk_144_157 rfl rfl rfl (pc' := 159) rfl ?_
              refine T_op zk_144_159 rfl X_add (pc' := 160) rfl ?_
              refine T_ld zk_144_160 rfl rfl rfl (pc' := 162) rfl ?_
              refine T_if_eq zk_144_162 (by omega) (pc' := 165) rfl (fun h73 => ?_) (fun h74 => ?_)
              · exfalso; omega
              ·
                refine T_op zk_144_165 rfl (X_bi (v := 30) (by decide)) (pc' := 167) rfl ?_
                refine T_goto zk_144_167 ?_
                refine G_iast (J' := (fun σ' => IF (MK 256 448 635 637) σ σ' ∧ True)) (ln := 646) zk_144_200 rfl rfl (vd_36 (by omega)) (by omega) (by omega) (by omega) (fun σ' h => ⟨h.1.up (by simp only [rgP] <;> omega) (by first | exact pMK rfl | (unfold MK; omega)), trivial⟩) (pc' := 201) rfl ?_
                refine T_iinc (L' := [(0, av 35 0 0), (1, iv p0), (2, iv p1), (3, iv y1), (4, iv 256), (5, iv (x8 + 1)), (6, jv y13), (8, iv 1), (9, iv y72)]) zk_144_201 (nL := 10) rfl rfl rfl rfl (pc' := 204) rfl ?_
                refine T_goto zk_144_204 ?_
                refine T_loc (L := [(0, av 35 0 0), (1, iv p0), (2, iv p1), (3, iv y1), (4, iv 256), (5, iv (x8 + 1))]) (E := [(6, jv y13), (8, iv 1), (9, iv y72)]) rfl ?_
                exact ih9 (x8 + 1) (by omega) (by omega)
      · exfalso; omega
    ·
      refine T_op zk_144_20 rfl (X_si (v := 352) (by decide)) (pc' := 23) rfl ?_
      refine T_goto zk_144_23 ?_
      refine T_st (L' := [(0, av 35 0 0), (1, iv p0), (2, iv p1), (3, iv y1), (4, iv 352)]) zk_144_29 (nL := 10) rfl rfl rfl rfl rfl (pc' := 31) rfl ?_
      refine T_ld zk_144_31 rfl rfl rfl (pc' := 32) rfl ?_
      refine T_getR (t' := 36) (i' := 0) (k' := 0) zk_144_32 rfl rfl rfl vd_35 (pc' := 35) rfl ?_
      refine T_ld zk_144_35 rfl rfl rfl (pc' := 36) rfl ?_
      refine T_if_eq zk_144_36 (by omega) (pc' := 39) rfl (fun h75 => ?_) (fun h76 => ?_)
      · exfalso; omega
      ·
        refine T_op zk_144_39 rfl (X_si (v := 636) (by decide)) (pc' := 42) rfl ?_
        refine T_goto zk_144_42 ?_
        refine T_ld zk_144_48 rfl rfl rfl (pc' := 49) rfl ?_
        refine T_getR (t' := 39) (i' := 0) (k' := 0) zk_144_49 rfl rfl rfl vd_35 (pc' := 52) rfl ?_
        refine T_ld zk_144_52 rfl rfl rfl (pc' := 53) rfl ?_
        refine G_ialdX (w := u2) (ln := 8) zk_144_53 rfl rfl vd_39 (by omega) (by omega) (by omega) (fun σ' h => (h.1.2 _ _ _ _ (by first | exact nMK rfl | (unfold MK; omega))).trans s2) (pc' := 54) rfl ?_
        refine G_iast (J' := (fun σ' => IF (MK 256 448 635 637) σ σ' ∧ True)) (ln := 646) zk_144_54 rfl rfl (vd_36 (by omega)) (by omega) (by omega) (by omega) (fun σ' h => ⟨h.1.up (by simp only [rgP] <;> omega) (by first | exact pMK rfl | (unfold MK; omega)), trivial⟩) (pc' := 55) rfl ?_
        refine T_op zk_144_55 rfl X_ic (pc' := 56) rfl ?_
        refine T_st (L' := [(0, av 35 0 0), (1, iv p0), (2, iv p1), (3, iv y1), (4, iv 352), (5, iv 0)]) zk_144_56 (nL := 10) rfl rfl rfl rfl rfl (pc' := 58) rfl ?_
        refine T_loop1 (fun x77 => ((96 - x77 : Int)).toNat) (fun x77 => (0 ≤ x77 ∧ x77 ≤ 96)) (fun x77 => TJ xs (fun σ' => IF (MK 256 448 635 637) σ σ' ∧ True) 2 144 58 [(0, av 35 0 0), (1, iv p0), (2, iv p1), (3, iv y1), (4, iv 352), (5, iv x77)] [] _) ?_ 0 (by omega)
        intro x77 hp79 ih78
        refine T_ld zk_144_58 rfl rfl rfl (pc' := 60) rfl ?_
        refine T_ld zk_144_60 rfl rfl rfl (pc' := 61) rfl ?_
        refine T_getR (t' := 39) (i' := 0) (k' := 0) zk_144_61 rfl rfl rfl vd_35 (pc' := 64) rfl ?_
        refine T_ld zk_144_64 rfl rfl rfl (pc' := 65) rfl ?_
        refine G_ialdX (w := u2) (ln := 8) zk_144_65 rfl rfl vd_39 (by omega) (by omega) (by omega) (fun σ' h => (h.1.2 _ _ _ _ (by first | exact nMK rfl | (unfold MK; omega))).trans s2) (pc' := 66) rfl ?_
        refine T_icmp_ge zk_144_66 (by omega) (by omega) (pc' := 69) rfl (fun h80 => ?_) (fun h81 => ?_)
        ·
          refine T_ld zk_144_207 rfl rfl rfl (pc' := 208) rfl ?_
          refine T_getR (t' := 39) (i' := 0) (k' := 0) zk_144_208 rfl rfl rfl vd_35 (pc' := 211) rfl ?_
          refine T_ld zk_144_211 rfl rfl rfl (pc' := 212) rfl ?_
          refine G_ialdX (w := u2) (ln := 8) zk_144_212 rfl rfl vd_39 (by omega) (by omega) (by omega) (fun σ' h => (h.1.2 _ _ _ _ (by first | exact nMK rfl | (unfold MK; omega))).trans s2) (pc' := 213) rfl ?_
          exact T_iret zk_144_213 rfl (fun σ' h => ⟨_, rfl, (by omega), h.1, trivial⟩)
        ·
          refine T_ld zk_144_69 rfl rfl rfl (pc' := 70) rfl ?_
          refine T_getR (t' := 41) (i' := 0) (k' := 0) zk_144_70 rfl rfl rfl vd_35 (pc' := 73) rfl ?_
          refine T_op zk_144_73 rfl (X_bi (v := 96) (by decide)) (pc' := 75) rfl ?_
          refine T_ld zk_144_75 rfl rfl rfl (pc' := 76) rfl ?_
          refine T_op zk_144_76 rfl X_mul (pc' := 77) rfl ?_
          refine T_ld zk_144_77 rfl rfl rfl (pc' := 79) rfl ?_
          refine T_op zk_144_79 rfl X_add (pc' := 80) rfl ?_
          refine G_lald (ln := 768) zk_144_80 rfl rfl vd_41 (by omega) (by omega) (by omega) (pc' := 81) rfl (fun y82 => ?_)
          refine T_st (L' := [(0, av 35 0 0), (1, iv p0), (2, iv p1), (3, iv y1), (4, iv 352), (5, iv x77), (6, jv y82)]) zk_144_81 (nL := 10) rfl rfl rfl rfl rfl (pc' := 83) rfl ?_
          refine T_ld zk_144_83 rfl rfl rfl (pc' := 85) rfl ?_
          refine T_ld zk_144_85 rfl rfl rfl (pc' := 86) rfl ?_
          refine T_getR (t' := 38) (i' := 0) (k' := 0) zk_144_86 rfl rfl rfl vd_35 (pc' := 89) rfl ?_
          refine T_ld zk_144_89 rfl rfl rfl (pc' := 90) rfl ?_
          refine G_iald (lo := 0) (hi := 3) (ln := 8) zk_144_90 rfl rfl vd_38 (by omega) (by omega) (by omega) (fun σ' h => h.1.1) (fun _ h => h.2 (by omega) (by omega)) (pc' := 91) rfl (fun y83 hy83 hy83' => ?_)
          refine T_if_ne zk_144_91 (by omega) (pc' := 94) rfl (fun h84 => ?_) (fun h85 => ?_)
          ·
            refine T_ld zk_144_100 rfl rfl rfl (pc' := 101) rfl ?_
            refine T_getR (t' := 38) (i' := 0) (k' := 0) zk_144_101 rfl rfl rfl vd_35 (pc' := 104) rfl ?_
            refine T_ld zk_144_104 rfl rfl rfl (pc' := 105) rfl ?_
            refine G_iald (lo := 0) (hi := 3) (ln := 8) zk_144_105 rfl rfl vd_38 (by omega) (by omega) (by omega) (fun σ' h => h.1.1) (fun _ h => h.2 (by omega) (by omega)) (pc' := 106) rfl (fun y86 hy86 hy86' => ?_)
            refine T_op zk_144_106 rfl X_ic (pc' := 107) rfl ?_
            refine T_icmp_ne zk_144_107 (by omega) (by omega) (pc' := 110) rfl (fun h87 => ?_) (fun h88 => ?_)
            ·
              refine T_ld zk_144_116 rfl rfl rfl (pc' := 117) rfl ?_
              refine T_getR (t' := 38) (i' := 0) (k' := 0) zk_144_117 rfl rfl rfl vd_35 (pc' := 120) rfl ?_
              refine T_ld zk_144_120 rfl rfl rfl (pc' := 121) rfl ?_
              refine G_iald (lo := 0) (hi := 3) (ln := 8) zk_144_121 rfl rfl vd_38 (by omega) (by omega) (by omega) (fun σ' h => h.1.1) (fun _ h => h.2 (by omega) (by omega)) (pc' := 122) rfl (fun y89 hy89 hy89' => ?_)
              refine T_op zk_144_122 rfl X_ic (pc' := 123) rfl ?_
              refine T_icmp_ne zk_144_123 (by omega) (by omega) (pc' := 126) rfl (fun h90 => ?_) (fun h91 => ?_)
              ·
                refine T_ldc2 zk_144_132 (pc' := 135) rfl ?_
                refine T_lcmp zk_144_135 (fun y92 hy92 hy92' ey92 => ?_)
                refine T_if_ne zk_144_136 (by omega) (pc' := 139) rfl (fun h93 => ?_) (fun h94 => ?_)
                ·
                  refine T_op zk_144_143 rfl X_ic (pc' := 144) rfl ?_
                  refine T_st (L' := [(0, av 35 0 0), (1, iv p0), (2, iv p1), (3, iv y1), (4, iv 352), (5, iv x77), (6, jv y82), (8, iv 0)]) zk_144_144 (nL := 10) rfl rfl rfl rfl rfl (pc' := 146) rfl ?_
                  refine T_ld zk_144_146 rfl rfl rfl (pc' := 148) rfl ?_
                  refine T_l2iU zk_144_148 (fun y95 hy95 hy95' _ => ?_)
                  refine T_st (L' := [(0, av 35 0 0), (1, iv p0), (2, iv p1), (3, iv y1), (4, iv 352), (5, iv x77), (6, jv y82), (8, iv 0), (9, iv y95)]) zk_144_149 (nL := 10) rfl rfl rfl rfl rfl (pc' := 151) rfl ?_
                  refine T_ld zk_144_151 rfl rfl rfl (pc' := 152) rfl ?_
                  refine T_getR (t' := 36) (i' := 0) (k' := 0) zk_144_152 rfl rfl rfl vd_35 (pc' := 155) rfl ?_
                  refine T_ld zk_144_155 rfl rfl rfl (pc' := 157) rfl ?_
                  refine T_ld zk_144_157 rfl rfl rfl (pc' := 159) rfl ?_
                  refine T_op zk_144_159 rfl X_add (pc' := 160) rfl ?_
                  refine T_ld zk_144_160 rfl rfl rfl (pc' := 162) rfl ?_
                  refine T_if_eq zk_144_162 (by omega) (pc' := 165) rfl (fun h96 => ?_) (fun h97 => ?_)
                  ·
                    refine T_ld zk_144_170 rfl rfl rfl (pc' := 172) rfl ?_
                    refine T_op zk_144_172 rfl (X_si (v := -300) (by decide)) (pc' := 175) rfl ?_
                    refine T_icmp_ge zk_144_175 (by omega) (by omega) (pc' := 178) rfl (fun h98 => ?_) (fun h99 => ?_)
                    ·
                      refine T_ld zk_144_184 rfl rfl rfl (pc' := 186) rfl ?_
                      refine T_op zk_144_186 rfl (X_si (v := 300) (by decide)) (pc' := 189) rfl ?_
                      refine T_icmp_le zk_144_189 (by omega) (by omega) (pc' := 192) rfl (fun h100 => ?_) (fun h101 => ?_)
                      ·
                        refine T_ld zk_144_198 rfl rfl rfl (pc' := 200) rfl ?_
                        refine G_iast (J' := (fun σ' => IF (MK 256 448 635 637) σ σ' ∧ True)) (ln := 646) zk_144_200 rfl rfl (vd_36 (by omega)) (by omega) (by omega) (by omega) (fun σ' h => ⟨h.1.up (by simp only [rgP] <;> omega) (by first | exact pMK rfl | (unfold MK; omega)), trivial⟩) (pc' := 201) rfl ?_
                        refine T_iinc (L' := [(0, av 35 0 0), (1, iv p0), (2, iv p1), (3, iv y1), (4, iv 352), (5, iv (x77 + 1)), (6, jv y82), (8, iv 0), (9, iv y95)]) zk_144_201 (nL := 10) rfl rfl rfl rfl (pc' := 204) rfl ?_
                        refine T_goto zk_144_204 ?_
                        refine T_loc (L := [(0, av 35 0 0), (1, iv p0), (2, iv p1), (3, iv y1), (4, iv 352), (5, iv (x77 + 1))]) (E := [(6, jv y82), (8, iv 0), (9, iv y95)]) rfl ?_
                        exact ih78 (x77 + 1) (by omega) (by omega)
                      ·
                        refine T_op zk_144_192 rfl (X_si (v := 300) (by decide)) (pc' := 195) rfl ?_
                        refine T_goto zk_144_195 ?_
                        refine G_iast (J' := (fun σ' => IF (MK 256 448 635 637) σ σ' ∧ True)) (ln := 646) zk_144_200 rfl rfl (vd_36 (by omega)) (by omega) (by omega) (by omega) (fun σ' h => ⟨h.1.up (by simp only [rgP] <;> omega) (by first | exact pMK rfl | (unfold MK; omega)), trivial⟩) (pc' := 201) rfl ?_
                        refine T_iinc (L' := [(0, av 35 0 0), (1, iv p0), (2, iv p1), (3, iv y1), (4, iv 352), (5, iv (x77 + 1)), (6, jv y82), (8, iv 0), (9, iv y95)]) zk_144_201 (nL := 10) rfl rfl rfl rfl (pc' := 204) rfl ?_
                        refine T_goto zk_144_204 ?_
                        refine T_loc (L := [(0, av 35 0 0), (1, iv p0), (2, iv p1), (3, iv y1), (4, iv 352), (5, iv (x77 + 1))]) (E := [(6, jv y82), (8, iv 0), (9, iv y95)]) rfl ?_
                        exact ih78 (x77 + 1) (by omega) (by omega)
                    ·
                      refine T_op zk_144_178 rfl (X_si (v := -300) (by decide)) (pc' := 181) rfl ?_
                      refine T_goto zk_144_181 ?_
                      refine G_iast (J' := (fun σ' => IF (MK 256 448 635 637) σ σ' ∧ True)) (ln := 646) zk_144_200 rfl rfl (vd_36 (by omega)) (by omega) (by omega) (by omega) (fun σ' h => ⟨h.1.up (by simp only [rgP] <;> omega) (by first | exact pMK rfl | (unfold MK; omega)), trivial⟩) (pc' := 201) rfl ?_
                      refine T_iinc (L' := [(0, av 35 0 0), (1, iv p0), (2, iv p1), (3, iv y1), (4, iv 352), (5, iv (x77 + 1)), (6, jv y82), (8, iv 0), (9, iv y95)]) zk_144_201 (nL := 10) rfl rfl rfl rfl (pc' := 204) rfl ?_
                      refine T_goto zk_144_204 ?_
                      refine T_loc (L := [(0, av 35 0 0), (1, iv p0), (2, iv p1), (3, iv y1), (4, iv 352), (5, iv (x77 + 1))]) (E := [(6, jv y82), (8, iv 0), (9, iv y95)]) rfl ?_
                      exact ih78 (x77 + 1) (by omega) (by omega)
                  · exfalso; omega
                ·
                  refine T_op zk_144_139 rfl X_ic (pc' := 140) rfl ?_
                  refine T_goto zk_144_140 ?_
                  refine T_st (L' := [(0, av 35 0 0), (1, iv p0), (2, iv p1), (3, iv y1), (4, iv 352), (5, iv x77), (6, jv y82), (8, iv 1)]) zk_144_144 (nL := 10) rfl rfl rfl rfl rfl (pc' := 146) rfl ?_
                  refine T_ld zk_144_146 rfl rfl rfl (pc' := 148) rfl ?_
                  refine T_l2iU zk_144_148 (fun y102 hy102 hy102' _ => ?_)
                  refine T_st (L' := [(0, av 35 0 0), (1, iv p0), (2, iv p1), (3, iv y1), (4, iv 352), (5, iv x77), (6, jv y82), (8, iv 1), (9, iv y102)]) zk_144_149 (nL := 10) rfl rfl rfl rfl rfl (pc' := 151) rfl ?_
                  refine T_ld zk_144_151 rfl rfl rfl (pc' := 152) rfl ?_
                  refine T_getR (t' := 36) (i' := 0) (k' := 0) zk_144_152 rfl rfl rfl vd_35 (pc' := 155) rfl ?_
                  refine T_ld zk_144_155 rfl rfl rfl (pc' := 157) rfl ?_
                  refine T_ld zk_144_157 rfl rfl rfl (pc' := 159) rfl ?_
                  refine T_op zk_144_159 rfl X_add (pc' := 160) rfl ?_
                  refine T_ld zk_144_160 rfl rfl rfl (pc' := 162) rfl ?_
                  refine T_if_eq zk_144_162 (by omega) (pc' := 165) rfl (fun h103 => ?_) (fun h104 => ?_)
                  · exfalso; omega
                  ·
                    refine T_op zk_144_165 rfl (X_bi (v := 30) (by decide)) (pc' := 167) rfl ?_
                    refine T_goto zk_144_167 ?_
                    refine G_iast (J' := (fun σ' => IF (MK 256 448 635 637) σ σ' ∧ True)) (ln := 646) zk_144_200 rfl rfl (vd_36 (by omega)) (by omega) (by omega) (by omega) (fun σ' h => ⟨h.1.up (by simp only [rgP] <;> omega) (by first | exact pMK rfl | (unfold MK; omega)), trivial⟩) (pc' := 201) rfl ?_
                    refine T_iinc (L' := [(0, av 35 0 0), (1, iv p0), (2, iv p1), (3, iv y1), (4, iv 352), (5, iv (x77 + 1)), (6, jv y82), (8, iv 1), (9, iv y102)]) zk_144_201 (nL := 10) rfl rfl rfl rfl (pc' := 204) rfl ?_
                    refine T_goto zk_144_204 ?_
                    refine T_loc (L := [(0, av 35 0 0), (1, iv p0), (2, iv p1), (3, iv y1), (4, iv 352), (5, iv (x77 + 1))]) (E := [(6, jv y82), (8, iv 1), (9, iv y102)]) rfl ?_
                    exact ih78 (x77 + 1) (by omega) (by omega)
              ·
                refine T_ldc2 zk_144_126 (pc' := 129) rfl ?_
                refine T_goto zk_144_129 ?_
                refine T_lcmp zk_144_135 (fun y105 hy105 hy105' ey105 => ?_)
                refine T_if_ne zk_144_136 (by omega) (pc' := 139) rfl (fun h106 => ?_) (fun h107 => ?_)
                ·
                  refine T_op zk_144_143 rfl X_ic (pc' := 144) rfl ?_
                  refine T_st (L' := [(0, av 35 0 0), (1, iv p0), (2, iv p1), (3, iv y1), (4, iv 352), (5, iv x77), (6, jv y82), (8, iv 0)]) zk_144_144 (nL := 10) rfl rfl rfl rfl rfl (pc' := 146) rfl ?_
                  refine T_ld zk_144_146 rfl rfl rfl (pc' := 148) rfl ?_
                  refine T_l2iU zk_144_148 (fun y108 hy108 hy108' _ => ?_)
                  refine T_st (L' := [(0, av 35 0 0), (1, iv p0), (2, iv p1), (3, iv y1), (4, iv 352), (5, iv x77), (6, jv y82), (8, iv 0), (9, iv y108)]) zk_144_149 (nL := 10) rfl rfl rfl rfl rfl (pc' := 151) rfl ?_
                  refine T_ld zk_144_151 rfl rfl rfl (pc' := 152) rfl ?_
                  refine T_getR (t' := 36) (i' := 0) (k' := 0) zk_144_152 rfl rfl rfl vd_35 (pc' := 155) rfl ?_
                  refine T_ld zk_144_155 rfl rfl rfl (pc' := 157) rfl ?_
                  refine T_ld zk_144_157 rfl rfl rfl (pc' := 159) rfl ?_
                  refine T_op zk_144_159 rfl X_add (pc' := 160) rfl ?_
                  refine T_ld zk_144_160 rfl rfl rfl (pc' := 162) rfl ?_
                  refine T_if_eq zk_144_162 (by omega) (pc' := 165) rfl (fun h109 => ?_) (fun h110 => ?_)
                  ·
                    refine T_ld zk_144_170 rfl rfl rfl (pc' := 172) rfl ?_
                    refine T_op zk_144_172 rfl (X_si (v := -300) (by decide)) (pc' := 175) rfl ?_
                    refine T_icmp_ge zk_144_175 (by omega) (by omega) (pc' := 178) rfl (fun h111 => ?_) (fun h112 => ?_)
                    ·
                      refine T_ld zk_144_184 rfl rfl rfl (pc' := 186) rfl ?_
                      refine T_op zk_144_186 rfl (X_si (v := 300) (by decide)) (pc' := 189) rfl ?_
                      refine T_icmp_le zk_144_189 (by omega) (by omega) (pc' := 192) rfl (fun h113 => ?_) (fun h114 => ?_)
                      ·
                        refine T_ld zk_144_198 rfl rfl rfl (pc' := 200) rfl ?_
                        refine G_iast (J' := (fun σ' => IF (MK 256 448 635 637) σ σ' ∧ True)) (ln := 646) zk_144_200 rfl rfl (vd_36 (by omega)) (by omega) (by omega) (by omega) (fun σ' h => ⟨h.1.up (by simp only [rgP] <;> omega) (by first | exact pMK rfl | (unfold MK; omega)), trivial⟩) (pc' := 201) rfl ?_
                        refine T_iinc (L' := [(0, av 35 0 0), (1, iv p0), (2, iv p1), (3, iv y1), (4, iv 352), (5, iv (x77 + 1)), (6, jv y82), (8, iv 0), (9, iv y108)]) zk_144_201 (nL := 10) rfl rfl rfl rfl (pc' := 204) rfl ?_
                        refine T_goto zk_144_204 ?_
                        refine T_loc (L := [(0, av 35 0 0), (1, iv p0), (2, iv p1), (3, iv y1), (4, iv 352), (5, iv (x77 + 1))]) (E := [(6, jv y82), (8, iv 0), (9, iv y108)]) rfl ?_
                        exact ih78 (x77 + 1) (by omega) (by omega)
                      ·
                        refine T_op zk_144_192 rfl (X_si (v := 300) (by decide)) (pc' := 195) rfl ?_
                        refine T_goto zk_144_195 ?_
                        refine G_iast (J' := (fun σ' => IF (MK 256 448 635 637) σ σ' ∧ True)) (ln := 646) zk_144_200 rfl rfl (vd_36 (by omega)) (by omega) (by omega) (by omega) (fun σ' h => ⟨h.1.up (by simp only [rgP] <;> omega) (by first | exact pMK rfl | (unfold MK; omega)), trivial⟩) (pc' := 201) rfl ?_
                        refine T_iinc (L' := [(0, av 35 0 0), (1, iv p0), (2, iv p1), (3, iv y1), (4, iv 352), (5, iv (x77 + 1)), (6, jv y82), (8, iv 0), (9, iv y108)]) zk_144_201 (nL := 10) rfl rfl rfl rfl (pc' := 204) rfl ?_
                        refine T_goto zk_144_204 ?_
                        refine T_loc (L := [(0, av 35 0 0), (1, iv p0), (2, iv p1), (3, iv y1), (4, iv 352), (5, iv (x77 + 1))]) (E := [(6, jv y82), (8, iv 0), (9, iv y108)]) rfl ?_
                        exact ih78 (x77 + 1) (by omega) (by omega)
                    ·
                      refine T_op zk_144_178 rfl (X_si (v := -300) (by decide)) (pc' := 181) rfl ?_
                      refine T_goto zk_144_181 ?_
                      refine G_iast (J' := (fun σ' => IF (MK 256 448 635 637) σ σ' ∧ True)) (ln := 646) zk_144_200 rfl rfl (vd_36 (by omega)) (by omega) (by omega) (by omega) (fun σ' h => ⟨h.1.up (by simp only [rgP] <;> omega) (by first | exact pMK rfl | (unfold MK; omega)), trivial⟩) (pc' := 201) rfl ?_
                      refine T_iinc (L' := [(0, av 35 0 0), (1, iv p0), (2, iv p1), (3, iv y1), (4, iv 352), (5, iv (x77 + 1)), (6, jv y82), (8, iv 0), (9, iv y108)]) zk_144_201 (nL := 10) rfl rfl rfl rfl (pc' := 204) rfl ?_
                      refine T_goto zk_144_204 ?_
                      refine T_loc (L := [(0, av 35 0 0), (1, iv p0), (2, iv p1), (3, iv y1), (4, iv 352), (5, iv (x77 + 1))]) (E := [(6, jv y82), (8, iv 0), (9, iv y108)]) rfl ?_
                      exact ih78 (x77 + 1) (by omega) (by omega)
                  · exfalso; omega
                ·
                  refine T_op zk_144_139 rfl X_ic (pc' := 140) rfl ?_
                  refine T_goto zk_144_140 ?_
                  refine T_st (L' := [(0, av 35 0 0), (1, iv p0), (2, iv p1), (3, iv y1), (4, iv 352), (5, iv x77), (6, jv y82), (8, iv 1)]) zk_144_144 (nL := 10) rfl rfl rfl rfl rfl (pc' := 146) rfl ?_
                  refine T_ld zk_144_146 rfl rfl rfl (pc' := 148) rfl ?_
                  refine T_l2iU zk_144_148 (fun y115 hy115 hy115' _ => ?_)
                  refine T_st (L' := [(0, av 35 0 0), (1, iv p0), (2, iv p1), (3, iv y1), (4, iv 352), (5, iv x77), (6, jv y82), (8, iv 1), (9, iv y115)]) zk_144_149 (nL := 10) rfl rfl rfl rfl rfl (pc' := 151) rfl ?_
                  refine T_ld zk_144_151 rfl rfl rfl (pc' := 152) rfl ?_
                  refine T_getR (t' := 36) (i' := 0) (k' := 0) zk_144_152 rfl rfl rfl vd_35 (pc' := 155) rfl ?_
                  refine T_ld zk_144_155 rfl rfl rfl (pc' := 157) rfl ?_
                  refine T_ld zk_144_157 rfl rfl rfl (pc' := 159) rfl ?_
                  refine T_op zk_144_159 rfl X_add (pc' := 160) rfl ?_
                  refine T_ld zk_144_160 rfl rfl rfl (pc' := 162) rfl ?_
                  refine T_if_eq zk_144_162 (by omega) (pc' := 165) rfl (fun h116 => ?_) (fun h117 => ?_)
                  · exfalso; omega
                  ·
                    refine T_op zk_144_165 rfl (X_bi (v := 30) (by decide)) (pc' := 167) rfl ?_
                    refine T_goto zk_144_167 ?_
                    refine G_iast (J' := (fun σ' => IF (MK 256 448 635 637) σ σ' ∧ True)) (ln := 646) zk_144_200 rfl rfl (vd_36 (by omega)) (by omega) (by omega) (by omega) (fun σ' h => ⟨h.1.up (by simp only [rgP] <;> omega) (by first | exact pMK rfl | (unfold MK; omega)), trivial⟩) (pc' := 201) rfl ?_
                    refine T_iinc (L' := [(0, av 35 0 0), (1, iv p0), (2, iv p1), (3, iv y1), (4, iv 352), (5, iv (x77 + 1)), (6, jv y82), (8, iv 1), (9, iv y115)]) zk_144_201 (nL := 10) rfl rfl rfl rfl (pc' := 204) rfl ?_
                    refine T_goto zk_144_204 ?_
                    refine T_loc (L := [(0, av 35 0 0), (1, iv p0), (2, iv p1), (3, iv y1), (4, iv 352), (5, iv (x77 + 1))]) (E := [(6, jv y82), (8, iv 1), (9, iv y115)]) rfl ?_
                    exact ih78 (x77 + 1) (by omega) (by omega)
            ·
              refine T_ldc2 zk_144_110 (pc' := 113) rfl ?_
              refine T_goto zk_144_113 ?_
              refine T_lcmp zk_144_135 (fun y118 hy118 hy118' ey118 => ?_)
              refine T_if_ne zk_144_136 (by omega) (pc' := 139) rfl (fun h119 => ?_) (fun h120 => ?_)
              ·
                refine T_op zk_144_143 rfl X_ic (pc' := 144) rfl ?_
                refine T_st (L' := [(0, av 35 0 0), (1, iv p0), (2, iv p1), (3, iv y1), (4, iv 352), (5, iv x77), (6, jv y82), (8, iv 0)]) zk_144_144 (nL := 10) rfl rfl rfl rfl rfl (pc' := 146) rfl ?_
                refine T_ld zk_144_146 rfl rfl rfl (pc' := 148) rfl ?_
                refine T_l2iU zk_144_148 (fun y121 hy121 hy121' _ => ?_)
                refine T_st (L' := [(0, av 35 0 0), (1, iv p0), (2, iv p1), (3, iv y1), (4, iv 352), (5, iv x77), (6, jv y82), (8, iv 0), (9, iv y121)]) zk_144_149 (nL := 10) rfl rfl rfl rfl rfl (pc' := 151) rfl ?_
                refine T_ld zk_144_151 rfl rfl rfl (pc' := 152) rfl ?_
                refine T_getR (t' := 36) (i' := 0) (k' := 0) zk_144_152 rfl rfl rfl vd_35 (pc' := 155) rfl ?_
                refine T_ld zk_144_155 rfl rfl rfl (pc' := 157) rfl ?_
                refine T_ld zk_144_157 rfl rfl rfl (pc' := 159) rfl ?_
                refine T_op zk_144_159 rfl X_add (pc' := 160) rfl ?_
                refine T_ld zk_144_160 rfl rfl rfl (pc' := 162) rfl ?_
                refine T_if_eq zk_144_162 (by omega) (pc' := 165) rfl (fun h122 => ?_) (fun h123 => ?_)
                ·
                  refine T_ld zk_144_170 rfl rfl rfl (pc' := 172) rfl ?_
                  refine T_op zk_144_172 rfl (X_si (v := -300) (by decide)) (pc' := 175) rfl ?_
                  refine T_icmp_ge zk_144_175 (by omega) (by omega) (pc' := 178) rfl (fun h124 => ?_) (fun h125 => ?_)
                  ·
                    refine T_ld zk_144_184 rfl rfl rfl (pc' := 186) rfl ?_
                    refine T_op zk_144_186 rfl (X_si (v := 300) (by decide)) (pc' := 189) rfl ?_
                    refine T_icmp_le zk_144_189 (by omega) (by omega) (pc' := 192) rfl (fun h126 => ?_) (fun h127 => ?_)
                    ·
                      refine T_ld zk_144_198 rfl rfl rfl (pc' := 200) rfl ?_
                      refine G_iast (J' := (fun σ' => IF (MK 256 448 635 637) σ σ' ∧ True)) (ln := 646) zk_144_200 rfl rfl (vd_36 (by omega)) (by omega) (by omega) (by omega) (fun σ' h => ⟨h.1.up (by simp only [rgP] <;> omega) (by first | exact pMK rfl | (unfold MK; omega)), trivial⟩) (pc' := 201) rfl ?_
                      refine T_iinc (L' := [(0, av 35 0 0), (1, iv p0), (2, iv p1), (3, iv y1), (4, iv 352), (5, iv (x77 + 1)), (6, jv y82), (8, iv 0), (9, iv y121)]) zk_144_201 (nL := 10) rfl rfl rfl rfl (pc' := 204) rfl ?_
                      refine T_goto zk_144_204 ?_
                      refine T_loc (L := [(0, av 35 0 0), (1, iv p0), (2, iv p1), (3, iv y1), (4, iv 352), (5, iv (x77 + 1))]) (E := [(6, jv y82), (8, iv 0), (9, iv y121)]) rfl ?_
                      exact ih78 (x77 + 1) (by omega) (by omega)
                    ·
                      refine T_op zk_144_192 rfl (X_si (v := 300) (by decide)) (pc' := 195) rfl ?_
                      refine T_goto zk_144_195 ?_
                      refine G_iast (J' := (fun σ' => IF (MK 256 448 635 637) σ σ' ∧ True)) (ln := 646) zk_144_200 rfl rfl (vd_36 (by omega)) (by omega) (by omega) (by omega) (fun σ' h => ⟨h.1.up (by simp only [rgP] <;> omega) (by first | exact pMK rfl | (unfold MK; omega)), trivial⟩) (pc' := 201) rfl ?_
                      refine T_iinc (L' := [(0, av 35 0 0), (1, iv p0), (2, iv p1), (3, iv y1), (4, iv 352), (5, iv (x77 + 1)), (6, jv y82), (8, iv 0), (9, iv y121)]) zk_144_201 (nL := 10) rfl rfl rfl rfl (pc' := 204) rfl ?_
                      refine T_goto zk_144_204 ?_
                      refine T_loc (L := [(0, av 35 0 0), (1, iv p0), (2, iv p1), (3, iv y1), (4, iv 352), (5, iv (x77 + 1))]) (E := [(6, jv y82), (8, iv 0), (9, iv y121)]) rfl ?_
                      exact ih78 (x77 + 1) (by omega) (by omega)
                  ·
                    refine T_op zk_144_178 rfl (X_si (v := -300) (by decide)) (pc' := 181) rfl ?_
                    refine T_goto zk_144_181 ?_
                    refine G_iast (J' := (fun σ' => IF (MK 256 448 635 637) σ σ' ∧ True)) (ln := 646) zk_144_200 rfl rfl (vd_36 (by omega)) (by omega) (by omega) (by omega) (fun σ' h => ⟨h.1.up (by simp only [rgP] <;> omega) (by first | exact pMK rfl | (unfold MK; omega)), trivial⟩) (pc' := 201) rfl ?_
                    refine T_iinc (L' := [(0, av 35 0 0), (1, iv p0), (2, iv p1), (3, iv y1), (4, iv 352), (5, iv (x77 + 1)), (6, jv y82), (8, iv 0), (9, iv y121)]) zk_144_201 (nL := 10) rfl rfl rfl rfl (pc' := 204) rfl ?_
                    refine T_goto zk_144_204 ?_
                    refine T_loc (L := [(0, av 35 0 0), (1, iv p0), (2, iv p1), (3, iv y1), (4, iv 352), (5, iv (x77 + 1))]) (E := [(6, jv y82), (8, iv 0), (9, iv y121)]) rfl ?_
                    exact ih78 (x77 + 1) (by omega) (by omega)
                · exfalso; omega
              ·
                refine T_op zk_144_139 rfl X_ic (pc' := 140) rfl ?_
                refine T_goto zk_144_140 ?_
                refine T_st (L' := [(0, av 35 0 0), (1, iv p0), (2, iv p1), (3, iv y1), (4, iv 352), (5, iv x77), (6, jv y82), (8, iv 1)]) zk_144_144 (nL := 10) rfl rfl rfl rfl rfl (pc' := 146) rfl ?_
                refine T_ld zk_144_146 rfl rfl rfl (pc' := 148) rfl ?_
                refine T_l2iU zk_144_148 (fun y128 hy128 hy128' _ => ?_)
                refine T_st (L' := [(0, av 35 0 0), (1, iv p0), (2, iv p1), (3, iv y1), (4, iv 352), (5, iv x77), (6, jv y82), (8, iv 1), (9, iv y128)]) zk_144_149 (nL := 10) rfl rfl rfl rfl rfl (pc' := 151) rfl ?_
                refine T_ld zk_144_151 rfl rfl rfl (pc' := 152) rfl ?_
                refine T_getR (t' := 36) (i' := 0) (k' := 0) zk_144_152 rfl rfl rfl vd_35 (pc' := 155) rfl ?_
                refine T_ld zk_144_155 rfl rfl rfl (pc' := 157) rfl ?_
                refine T_ld zk_144_157 rfl rfl rfl (pc' := 159) rfl ?_
                refine T_op zk_144_159 rfl X_add (pc' := 160) rfl ?_
                refine T_ld zk_144_160 rfl rfl rfl (pc' := 162) rfl ?_
                refine T_if_eq zk_144_162 (by omega) (pc' := 165) rfl (fun h129 => ?_) (fun h130 => ?_)
                · exfalso; omega
                ·
                  refine T_op zk_144_165 rfl (X_bi (v := 30) (by decide)) (pc' := 167) rfl ?_
                  refine T_goto zk_144_167 ?_
                  refine G_iast (J' := (fun σ' => IF (MK 256 448 635 637) σ σ' ∧ True)) (ln := 646) zk_144_200 rfl rfl (vd_36 (by omega)) (by omega) (by omega) (by omega) (fun σ' h => ⟨h.1.up (by simp only [rgP] <;> omega) (by first | exact pMK rfl | (unfold MK; omega)), trivial⟩) (pc' := 201) rfl ?_
                  refine T_iinc (L' := [(0, av 35 0 0), (1, iv p0), (2, iv p1), (3, iv y1), (4, iv 352), (5, iv (x77 + 1)), (6, jv y82), (8, iv 1), (9, iv y128)]) zk_144_201 (nL := 10) rfl rfl rfl rfl (pc' := 204) rfl ?_
                  refine T_goto zk_144_204 ?_
                  refine T_loc (L := [(0, av 35 0 0), (1, iv p0), (2, iv p1), (3, iv y1), (4, iv 352), (5, iv (x77 + 1))]) (E := [(6, jv y82), (8, iv 1), (9, iv y128)]) rfl ?_
                  exact ih78 (x77 + 1) (by omega) (by omega)
          ·
            refine T_ldc2 zk_144_94 (pc' := 97) rfl ?_
            refine T_goto zk_144_97 ?_
            refine T_lcmp zk_144_135 (fun y131 hy131 hy131' ey131 => ?_)
            refine T_if_ne zk_144_136 (by omega) (pc' := 139) rfl (fun h132 => ?_) (fun h133 => ?_)
            ·
              refine T_op zk_144_143 rfl X_ic (pc' := 144) rfl ?_
              refine T_st (L' := [(0, av 35 0 0), (1, iv p0), (2, iv p1), (3, iv y1), (4, iv 352), (5, iv x77), (6, jv y82), (8, iv 0)]) zk_144_144 (nL := 10) rfl rfl rfl rfl rfl (pc' := 146) rfl ?_
              refine T_ld zk_144_146 rfl rfl rfl (pc' := 148) rfl ?_
              refine T_l2iU zk_144_148 (fun y134 hy134 hy134' _ => ?_)
              refine T_st (L' := [(0, av 35 0 0), (1, iv p0), (2, iv p1), (3, iv y1), (4, iv 352), (5, iv x77), (6, jv y82), (8, iv 0), (9, iv y134)]) zk_144_149 (nL := 10) rfl rfl rfl rfl rfl (pc' := 151) rfl ?_
              refine T_ld zk_144_151 rfl rfl rfl (pc' := 152) rfl ?_
              refine T_getR (t' := 36) (i' := 0) (k' := 0) zk_144_152 rfl rfl rfl vd_35 (pc' := 155) rfl ?_
              refine T_ld zk_144_155 rfl rfl rfl (pc' := 157) rfl ?_
              refine T_ld zk_144_157 rfl rfl rfl (pc' := 159) rfl ?_
              refine T_op zk_144_159 rfl X_add (pc' := 160) rfl ?_
              refine T_ld zk_144_160 rfl rfl rfl (pc' := 162) rfl ?_
              refine T_if_eq zk_144_162 (by omega) (pc' := 165) rfl (fun h135 => ?_) (fun h136 => ?_)
              ·
                refine T_ld zk_144_170 rfl rfl rfl (pc' := 172) rfl ?_
                refine T_op zk_144_172 rfl (X_si (v := -300) (by decide)) (pc' := 175) rfl ?_
                refine T_icmp_ge zk_144_175 (by omega) (by omega) (pc' := 178) rfl (fun h137 => ?_) (fun h138 => ?_)
                ·
                  refine T_ld zk_144_184 rfl rfl rfl (pc' := 186) rfl ?_
                  refine T_op zk_144_186 rfl (X_si (v := 300) (by decide)) (pc' := 189) rfl ?_
                  refine T_icmp_le zk_144_189 (by omega) (by omega) (pc' := 192) rfl (fun h139 => ?_) (fun h140 => ?_)
                  ·
                    refine T_ld zk_144_198 rfl rfl rfl (pc' := 200) rfl ?_
                    refine G_iast (J' := (fun σ' => IF (MK 256 448 635 637) σ σ' ∧ True)) (ln := 646) zk_144_200 rfl rfl (vd_36 (by omega)) (by omega) (by omega) (by omega) (fun σ' h => ⟨h.1.up (by simp only [rgP] <;> omega) (by first | exact pMK rfl | (unfold MK; omega)), trivial⟩) (pc' := 201) rfl ?_
                    refine T_iinc (L' := [(0, av 35 0 0), (1, iv p0), (2, iv p1), (3, iv y1), (4, iv 352), (5, iv (x77 + 1)), (6, jv y82), (8, iv 0), (9, iv y134)]) zk_144_201 (nL := 10) rfl rfl rfl rfl (pc' := 204) rfl ?_
                    refine T_goto zk_144_204 ?_
                    refine T_loc (L := [(0, av 35 0 0), (1, iv p0), (2, iv p1), (3, iv y1), (4, iv 352), (5, iv (x77 + 1))]) (E := [(6, jv y82), (8, iv 0), (9, iv y134)]) rfl ?_
                    exact ih78 (x77 + 1) (by omega) (by omega)
                  ·
                    refine T_op zk_144_192 rfl (X_si (v := 300) (by decide)) (pc' := 195) rfl ?_
                    refine T_goto zk_144_195 ?_
                    refine G_iast (J' := (fun σ' => IF (MK 256 448 635 637) σ σ' ∧ True)) (ln := 646) zk_144_200 rfl rfl (vd_36 (by omega)) (by omega) (by omega) (by omega) (fun σ' h => ⟨h.1.up (by simp only [rgP] <;> omega) (by first | exact pMK rfl | (unfold MK; omega)), trivial⟩) (pc' := 201) rfl ?_
                    refine T_iinc (L' := [(0, av 35 0 0), (1, iv p0), (2, iv p1), (3, iv y1), (4, iv 352), (5, iv (x77 + 1)), (6, jv y82), (8, iv 0), (9, iv y134)]) zk_144_201 (nL := 10) rfl rfl rfl rfl (pc' := 204) rfl ?_
                    refine T_goto zk_144_204 ?_
                    refine T_loc (L := [(0, av 35 0 0), (1, iv p0), (2, iv p1), (3, iv y1), (4, iv 352), (5, iv (x77 + 1))]) (E := [(6, jv y82), (8, iv 0), (9, iv y134)]) rfl ?_
                    exact ih78 (x77 + 1) (by omega) (by omega)
                ·
                  refine T_op zk_144_178 rfl (X_si (v := -300) (by decide)) (pc' := 181) rfl ?_
                  refine T_goto zk_144_181 ?_
                  refine G_iast (J' := (fun σ' => IF (MK 256 448 635 637) σ σ' ∧ True)) (ln := 646) zk_144_200 rfl rfl (vd_36 (by omega)) (by omega) (by omega) (by omega) (fun σ' h => ⟨h.1.up (by simp only [rgP] <;> omega) (by first | exact pMK rfl | (unfold MK; omega)), trivial⟩) (pc' := 201) rfl ?_
                  refine T_iinc (L' := [(0, av 35 0 0), (1, iv p0), (2, iv p1), (3, iv y1), (4, iv 352), (5, iv (x77 + 1)), (6, jv y82), (8, iv 0), (9, iv y134)]) zk_144_201 (nL := 10) rfl rfl rfl rfl (pc' := 204) rfl ?_
                  refine T_goto zk_144_204 ?_
                  refine T_loc (L := [(0, av 35 0 0), (1, iv p0), (2, iv p1), (3, iv y1), (4, iv 352), (5, iv (x77 + 1))]) (E := [(6, jv y82), (8, iv 0), (9, iv y134)]) rfl ?_
                  exact ih78 (x77 + 1) (by omega) (by omega)
              · exfalso; omega
            ·
              refine T_op zk_144_139 rfl X_ic (pc' := 140) rfl ?_
              refine T_goto zk_144_140 ?_
              refine T_st (L' := [(0, av 35 0 0), (1, iv p0), (2, iv p1), (3, iv y1), (4, iv 352), (5, iv x77), (6, jv y82), (8, iv 1)]) zk_144_144 (nL := 10) rfl rfl rfl rfl rfl (pc' := 146) rfl ?_
              refine T_ld zk_144_146 rfl rfl rfl (pc' := 148) rfl ?_
              refine T_l2iU zk_144_148 (fun y141 hy141 hy141' _ => ?_)
              refine T_st (L' := [(0, av 35 0 0), (1, iv p0), (2, iv p1), (3, iv y1), (4, iv 352), (5, iv x77), (6, jv y82), (8, iv 1), (9, iv y141)]) zk_144_149 (nL := 10) rfl rfl rfl rfl rfl (pc' := 151) rfl ?_
              refine T_ld zk_144_151 rfl rfl rfl (pc' := 152) rfl ?_
              refine T_getR (t' := 36) (i' := 0) (k' := 0) zk_144_152 rfl rfl rfl vd_35 (pc' := 155) rfl ?_
              refine T_ld zk_144_155 rfl rfl rfl (pc' := 157) rfl ?_
              refine T_ld zk_144_157 rfl rfl rfl (pc' := 159) rfl ?_
              refine T_op zk_144_159 rfl X_add (pc' := 160) rfl ?_
              refine T_ld zk_144_160 rfl rfl rfl (pc' := 162) rfl ?_
              refine T_if_eq zk_144_162 (by omega) (pc' := 165) rfl (fun h142 => ?_) (fun h143 => ?_)
              · exfalso; omega
              ·
                refine T_op zk_144_165 rfl (X_bi (v := 30) (by decide)) (pc' := 167) rfl ?_
                refine T_goto zk_144_167 ?_
                refine G_iast (J' := (fun σ' => IF (MK 256 448 635 637) σ σ' ∧ True)) (ln := 646) zk_144_200 rfl rfl (vd_36 (by omega)) (by omega) (by omega) (by omega) (fun σ' h => ⟨h.1.up (by simp only [rgP] <;> omega) (by first | exact pMK rfl | (unfold MK; omega)), trivial⟩) (pc' := 201) rfl ?_
                refine T_iinc (L' := [(0, av 35 0 0), (1, iv p0), (2, iv p1), (3, iv y1), (4, iv 352), (5, iv (x77 + 1)), (6, jv y82), (8, iv 1), (9, iv y141)]) zk_144_201 (nL := 10) rfl rfl rfl rfl (pc' := 204) rfl ?_
                refine T_goto zk_144_204 ?_
                refine T_loc (L := [(0, av 35 0 0), (1, iv p0), (2, iv p1), (3, iv y1), (4, iv 352), (5, iv (x77 + 1))]) (E := [(6, jv y82), (8, iv 1), (9, iv y141)]) rfl ?_
                exact ih78 (x77 + 1) (by omega) (by omega)
  ·
    refine T_ld zk_144_10 rfl rfl rfl (pc' := 11) rfl ?_
    refine T_ld zk_144_11 rfl rfl rfl (pc' := 12) rfl ?_
    refine T_calli (K := fun y144 σ' => (y144 = y1) ∧ (fun σ' => IF (MK 256 448 635 637) σ σ' ∧ True) σ') (r := []) zk_144_12 rfl rfl rfl rfl rfl rfl (Or.inr ⟨_, _, _, _, rfl, vd_35, rfl⟩) (fun σ' h => (m_123 y1 (by omega) σ' h.1.1 ).le (Nat.le_of_ble_eq_true rfl) (fun v σ2 ⟨y, h1, h2, h3, h4⟩ => ⟨y, h1, h2, h.1.tr h3 sb61_f0bfd6c, trivial⟩)) (pc' := 15) rfl (fun y144 => ?_)
    refine G_ex (fun hy144 => ?_)
    obtain rfl : y144 = y1 := by omega
    exact T_iret zk_144_15 rfl (fun σ' h => ⟨_, rfl, (by omega), h.1, trivial⟩)
/-- WModel.sea -/
theorem r_144o {xs : Nat × (Nat → Int32)} (p0 : Int) (p1 : Int) (hp0 : -2147483648 ≤ p0 ∧ p0 ≤ 2147483647) (hp1 : 0 ≤ p1 ∧ p1 ≤ 1) (ho : p0 < 0 ∨ 7 < p0) (σ : ZS) (hI : Inv σ)   : CT xs 3 144 [av 35 0 0, iv p0, iv p1] σ (fun v σ' => ∃ y, v = some (iv y) ∧ (y = -1) ∧ IF (MK 256 448 635 637) σ σ' ∧ (True)) := by
  refine G_ct (J := (fun σ' => IF (MK 256 448 635 637) σ σ' ∧ True)) (L := [(0, av 35 0 0), (1, iv p0), (2, iv p1)]) (nL := 10) rfl rfl rfl ⟨IF.rf hI, trivial⟩ ?_
  refine T_ld zk_144_0 rfl rfl rfl (pc' := 1) rfl ?_
  refine T_ld zk_144_1 rfl rfl rfl (pc' := 2) rfl ?_
  refine T_calli (K := fun y1 σ' => ((y1 = -1 ∧ (p0 < 0 ∨ 7 < p0)) ∨ ((y1 = -3 ∨ y1 = -2 ∨ y1 = 0) ∧ 0 ≤ p0 ∧ p0 ≤ 7)) ∧ (fun σ' => IF (MK 256 448 635 637) σ σ' ∧ True) σ') (r := []) zk_144_2 rfl rfl rfl rfl rfl rfl (Or.inr ⟨_, _, _, _, rfl, vd_35, rfl⟩) (fun σ' h => (m_143 p0 (by omega) σ' h.1.1 ).le (Nat.le_of_ble_eq_true rfl) (fun v σ2 ⟨y, h1, h2, h3, h4⟩ => ⟨y, h1, h2, h.1.tr h3 MN_sub, trivial⟩)) (pc' := 5) rfl (fun y1 => ?_)
  refine G_ex (fun hy1 => ?_)
  refine T_st (L' := [(0, av 35 0 0), (1, iv p0), (2, iv p1), (3, iv y1)]) zk_144_5 (nL := 10) rfl rfl rfl rfl rfl (pc' := 6) rfl ?_
  refine T_ld zk_144_6 rfl rfl rfl (pc' := 7) rfl ?_
  refine T_if_eq zk_144_7 (by omega) (pc' := 10) rfl (fun h2 => ?_) (fun h3 => ?_)
  · exfalso; omega
  ·
    refine T_ld zk_144_10 rfl rfl rfl (pc' := 11) rfl ?_
    refine T_ld zk_144_11 rfl rfl rfl (pc' := 12) rfl ?_
    refine T_calli (K := fun y4 σ' => (y4 = y1) ∧ (fun σ' => IF (MK 256 448 635 637) σ σ' ∧ True) σ') (r := []) zk_144_12 rfl rfl rfl rfl rfl rfl (Or.inr ⟨_, _, _, _, rfl, vd_35, rfl⟩) (fun σ' h => (m_123 y1 (by omega) σ' h.1.1 ).le (Nat.le_of_ble_eq_true rfl) (fun v σ2 ⟨y, h1, h2, h3, h4⟩ => ⟨y, h1, h2, h.1.tr h3 sb61_f0bfd6c, trivial⟩)) (pc' := 15) rfl (fun y4 => ?_)
    refine G_ex (fun hy4 => ?_)
    obtain rfl : y4 = y1 := by omega
    exact T_iret zk_144_15 rfl (fun σ' h => ⟨_, rfl, (by omega), h.1, trivial⟩)
