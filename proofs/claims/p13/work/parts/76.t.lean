def MBs (a : Nat) (t i k j : Nat) : Prop := ((37 ≤ t ∧ t ≤ 40) ∧ j = a) ∨ t = 41 ∨ t = 49
theorem pMBs {a t i k j : Nat} (hb : decide ((((37 ≤ t ∧ t ≤ 40) ∧ j = a) ∨ t = 41 ∨ t = 49)) = true) : MBs a t i k j := by
  have h := of_decide_eq_true hb
  unfold MBs
  omega
def MBt (a : Nat) (t i k j : Nat) : Prop := ((t = 37 ∨ t = 40) ∧ j = a) ∨ t = 49
theorem nMBt {a t i k j : Nat} (hb : decide ((((t = 37 ∨ t = 40) ∧ j = a) ∨ t = 49)) = false) : ¬ MBt a t i k j := fun h => of_decide_eq_false hb (by unfold MBt at h; omega)
theorem pMBt {a t i k j : Nat} (hb : decide ((((t = 37 ∨ t = 40) ∧ j = a) ∨ t = 49)) = true) : MBt a t i k j := by
  have h := of_decide_eq_true hb
  unfold MBt
  omega
theorem sb76_d988043 (v0 : Nat) : ∀ t i k j, MT 49 49 49 49 t i k j → MBs v0 t i k j := by
  intro t i k j h
  unfold MT at h
  unfold MBs
  omega
/-- WModel.row -/
theorem r_135 {xs : Nat × (Nat → Int32)} (p0 : Int) (p1 : Int) (p2 : Int) (u0 : Int) (u1 : Int) (u2 : Int) (u3 : Int) (hp0 : 0 ≤ p0 ∧ p0 ≤ 7) (hp1 : -2147483648 ≤ p1 ∧ p1 ≤ 2147483647) (hp2 : -2147483648 ≤ p2 ∧ p2 ≤ 2147483647) (hu0 : 0 ≤ u0 ∧ u0 ≤ 2) (hu1 : 0 ≤ u1 ∧ u1 ≤ 3) (hu2 : 0 ≤ u2 ∧ u2 ≤ 96) (hu3 : -1 ≤ u3 ∧ u3 ≤ 11) (σ : ZS) (hI : Inv σ)  (s0 : σ 37 0 0 (Int.toNat p0) = u0) (s1 : σ 38 0 0 (Int.toNat p0) = u1) (s2 : σ 39 0 0 (Int.toNat p0) = u2) (s3 : σ 40 0 0 (Int.toNat p0) = u3) : CT xs 2 135 [av 35 0 0, iv p0, iv p1, iv p2] σ (fun v σ' => ∃ y, v = some (iv y) ∧ ((y = -4 ∧ (p2 < 0)) ∨ (y = -6 ∧ ¬ (p2 < 0) ∧ (¬ (0 ≤ p1 ∧ p1 ≤ 3))) ∨ (y = -7 ∧ ¬ (p2 < 0) ∧ ¬ (¬ (0 ≤ p1 ∧ p1 ≤ 3)) ∧ (96 < p2)) ∨ (y = 1 ∧ ¬ (p2 < 0) ∧ ¬ (¬ (0 ≤ p1 ∧ p1 ≤ 3)) ∧ ¬ (96 < p2))) ∧ IF (MBs (Int.toNat p0)) σ σ' ∧ (((y = 1 → σ' 37 0 0 (Int.toNat p0) = 1) ∧ (¬ y = 1 → σ' 37 0 0 (Int.toNat p0) = u0)) ∧ ((y = 1 → σ' 38 0 0 (Int.toNat p0) = p1) ∧ (¬ y = 1 → σ' 38 0 0 (Int.toNat p0) = u1)) ∧ ((y = 1 → σ' 39 0 0 (Int.toNat p0) = p2) ∧ (¬ y = 1 → σ' 39 0 0 (Int.toNat p0) = u2)) ∧ (σ' 40 0 0 (Int.toNat p0) = u3) ∧ True)) := by
  refine G_ct (J := (fun σ' => IF (MBs (Int.toNat p0)) σ σ' ∧ σ' 37 0 0 (Int.toNat p0) = u0 ∧ σ' 38 0 0 (Int.toNat p0) = u1 ∧ σ' 39 0 0 (Int.toNat p0) = u2 ∧ σ' 40 0 0 (Int.toNat p0) = u3 ∧ True)) (L := [(0, av 35 0 0), (1, iv p0), (2, iv p1), (3, iv p2)]) (nL := 5) rfl rfl rfl ⟨IF.rf hI, s0, s1, s2, s3, trivial⟩ ?_
  refine T_ld zk_135_0 rfl rfl rfl (pc' := 1) rfl ?_
  refine T_calli (K := fun y1 σ' => ((y1 = 0 ∧ (p0 < 0 ∨ 7 < p0)) ∨ (y1 = 1 ∧ 0 ≤ p0 ∧ p0 ≤ 7)) ∧ (fun σ' => IF (MBs (Int.toNat p0)) σ σ' ∧ σ' 37 0 0 (Int.toNat p0) = u0 ∧ σ' 38 0 0 (Int.toNat p0) = u1 ∧ σ' 39 0 0 (Int.toNat p0) = u2 ∧ σ' 40 0 0 (Int.toNat p0) = u3 ∧ True) σ') (r := []) zk_135_1 rfl rfl rfl rfl rfl rfl (Or.inl (Or.inl rfl)) (fun σ' h => (m_125 p0 (by omega) σ' h.1.1 ).le (Nat.le_of_ble_eq_true rfl) (fun v σ2 ⟨y, h1, h2, h3, h4⟩ => ⟨y, h1, h2, h.1.tr h3 MN_sub, (h3.2 _ _ _ _ (fun q => q)).trans (h.2.1), (h3.2 _ _ _ _ (fun q => q)).trans (h.2.2.1), (h3.2 _ _ _ _ (fun q => q)).trans (h.2.2.2.1), (h3.2 _ _ _ _ (fun q => q)).trans (h.2.2.2.2.1), trivial⟩)) (pc' := 4) rfl (fun y1 => ?_)
  refine G_ex (fun hy1 => ?_)
  refine T_if_ne zk_135_4 (by omega) (pc' := 7) rfl (fun h2 => ?_) (fun h3 => ?_)
  ·
    refine T_ld zk_135_13 rfl rfl rfl (pc' := 14) rfl ?_
    refine T_if_ge zk_135_14 (by omega) (pc' := 17) rfl (fun h4 => ?_) (fun h5 => ?_)
    ·
      refine T_ld zk_135_24 rfl rfl rfl (pc' := 25) rfl ?_
      refine T_if_lt zk_135_25 (by omega) (pc' := 28) rfl (fun h6 => ?_) (fun h7 => ?_)
      ·
        refine T_ld zk_135_33 rfl rfl rfl (pc' := 34) rfl ?_
        refine T_op zk_135_34 rfl (X_bi (v := -6) (by decide)) (pc' := 36) rfl ?_
        refine T_calli (K := fun y8 σ' => (y8 = (-6)) ∧ (fun σ' => IF (MBs (Int.toNat p0)) σ σ' ∧ σ' 37 0 0 (Int.toNat p0) = u0 ∧ σ' 38 0 0 (Int.toNat p0) = u1 ∧ σ' 39 0 0 (Int.toNat p0) = u2 ∧ σ' 40 0 0 (Int.toNat p0) = u3 ∧ True) σ') (r := []) zk_135_36 rfl rfl rfl rfl rfl rfl (Or.inr ⟨_, _, _, _, rfl, vd_35, rfl⟩) (fun σ' h => (m_123 ((-6)) (by omega) σ' h.1.1 ).le (Nat.le_of_ble_eq_true rfl) (fun v σ2 ⟨y, h1, h2, h3, h4⟩ => ⟨y, h1, h2, h.1.tr h3 (sb76_d988043 (Int.toNat p0)), (h3.2 _ _ _ _ (by first | exact nMT rfl | (unfold MT; omega))).trans (h.2.1), (h3.2 _ _ _ _ (by first | exact nMT rfl | (unfold MT; omega))).trans (h.2.2.1), (h3.2 _ _ _ _ (by first | exact nMT rfl | (unfold MT; omega))).trans (h.2.2.2.1), (h3.2 _ _ _ _ (by first | exact nMT rfl | (unfold MT; omega))).trans (h.2.2.2.2.1), trivial⟩)) (pc' := 39) rfl (fun y8 => ?_)
        refine G_ex (fun hy8 => ?_)
        obtain rfl : y8 = (-6) := by omega
        exact T_iret zk_135_39 rfl (fun σ' h => ⟨_, rfl, (by omega), h.1, ⟨(by have e := h.2.1; omega), (by have e := h.2.2.1; omega), (by have e := h.2.2.2.1; omega), (by have e := h.2.2.2.2.1; omega), trivial⟩⟩)
      ·
        refine T_ld zk_135_28 rfl rfl rfl (pc' := 29) rfl ?_
        refine T_op zk_135_29 rfl X_ic (pc' := 30) rfl ?_
        refine T_icmp_le zk_135_30 (by omega) (by omega) (pc' := 33) rfl (fun h9 => ?_) (fun h10 => ?_)
        ·
          refine T_ld zk_135_40 rfl rfl rfl (pc' := 41) rfl ?_
          refine T_op zk_135_41 rfl (X_bi (v := 96) (by decide)) (pc' := 43) rfl ?_
          refine T_icmp_le zk_135_43 (by omega) (by omega) (pc' := 46) rfl (fun h11 => ?_) (fun h12 => ?_)
          ·
            refine T_ld zk_135_53 rfl rfl rfl (pc' := 54) rfl ?_
            refine T_getR (t' := 37) (i' := 0) (k' := 0) zk_135_54 rfl rfl rfl vd_35 (pc' := 57) rfl ?_
            refine T_ld zk_135_57 rfl rfl rfl (pc' := 58) rfl ?_
            refine T_op zk_135_58 rfl X_ic (pc' := 59) rfl ?_
            refine G_iast (J' := (fun σ' => IF (MBs (Int.toNat p0)) σ σ' ∧ σ' 38 0 0 (Int.toNat p0) = u1 ∧ σ' 39 0 0 (Int.toNat p0) = u2 ∧ σ' 40 0 0 (Int.toNat p0) = u3 ∧ σ' 37 0 0 (Int.toNat p0) = 1 ∧ True)) (ln := 8) zk_135_59 rfl rfl vd_37 (by omega) (by omega) (by omega) (fun σ' h => ⟨h.1.up (by simp only [rgP] <;> omega) (by first | exact pMBs rfl | (unfold MBs; omega)), (up_ne (by omega)).trans (h.2.2.1), (up_ne (by omega)).trans (h.2.2.2.1), (up_ne (by omega)).trans (h.2.2.2.2.1), up_eq, trivial⟩) (pc' := 60) rfl ?_
            refine T_ld zk_135_60 rfl rfl rfl (pc' := 61) rfl ?_
            refine T_getR (t' := 38) (i' := 0) (k' := 0) zk_135_61 rfl rfl rfl vd_35 (pc' := 64) rfl ?_
            refine T_ld zk_135_64 rfl rfl rfl (pc' := 65) rfl ?_
            refine T_ld zk_135_65 rfl rfl rfl (pc' := 66) rfl ?_
            refine G_iast (J' := (fun σ' => IF (MBs (Int.toNat p0)) σ σ' ∧ σ' 39 0 0 (Int.toNat p0) = u2 ∧ σ' 40 0 0 (Int.toNat p0) = u3 ∧ σ' 37 0 0 (Int.toNat p0) = 1 ∧ σ' 38 0 0 (Int.toNat p0) = p1 ∧ True)) (ln := 8) zk_135_66 rfl rfl vd_38 (by omega) (by omega) (by omega) (fun σ' h => ⟨h.1.up (by simp only [rgP] <;> omega) (by first | exact pMBs rfl | (unfold MBs; omega)), (up_ne (by omega)).trans (h.2.2.1), (up_ne (by omega)).trans (h.2.2.2.1), (up_ne (by omega)).trans (h.2.2.2.2.1), up_eq, trivial⟩) (pc' := 67) rfl ?_
            refine T_ld zk_135_67 rfl rfl rfl (pc' := 68) rfl ?_
            refine T_getR (t' := 39) (i' := 0) (k' := 0) zk_135_68 rfl rfl rfl vd_35 (pc' := 71) rfl ?_
            refine T_ld zk_135_71 rfl rfl rfl (pc' := 72) rfl ?_
            refine T_ld zk_135_72 rfl rfl rfl (pc' := 73) rfl ?_
            refine G_iast (J' := (fun σ' => IF (MBs (Int.toNat p0)) σ σ' ∧ σ' 40 0 0 (Int.toNat p0) = u3 ∧ σ' 37 0 0 (Int.toNat p0) = 1 ∧ σ' 38 0 0 (Int.toNat p0) = p1 ∧ σ' 39 0 0 (Int.toNat p0) = p2 ∧ True)) (ln := 8) zk_135_73 rfl rfl vd_39 (by omega) (by omega) (by omega) (fun σ' h => ⟨h.1.up (by simp only [rgP] <;> omega) (by first | exact pMBs rfl | (unfold MBs; omega)), (up_ne (by omega)).trans (h.2.2.1), (up_ne (by omega)).trans (h.2.2.2.1), (up_ne (by omega)).trans (h.2.2.2.2.1), up_eq, trivial⟩) (pc' := 74) rfl ?_
            refine T_op zk_135_74 rfl X_ic (pc' := 75) rfl ?_
            refine T_st (L' := [(0, av 35 0 0), (1, iv p0), (2, iv p1), (3, iv p2), (4, iv 0)]) zk_135_75 (nL := 5) rfl rfl rfl rfl rfl (pc' := 77) rfl ?_
            refine G_know (J' := (fun σ' => IF (MBs (Int.toNat p0)) σ σ' ∧ σ' 37 0 0 (Int.toNat p0) = 1 ∧ σ' 38 0 0 (Int.toNat p0) = p1 ∧ σ' 39 0 0 (Int.toNat p0) = p2 ∧ σ' 40 0 0 (Int.toNat p0) = u3 ∧ True)) (fun σ' h => ⟨h.1, h.2.2.1, h.2.2.2.1, h.2.2.2.2.1, h.2.1, trivial⟩) ?_
            refine T_loop1 (fun x13 => ((96 - x13 : Int)).toNat) (fun x13 => (0 ≤ x13 ∧ x13 ≤ 96)) (fun x13 => TJ xs (fun σ' => IF (MBs (Int.toNat p0)) σ σ' ∧ σ' 37 0 0 (Int.toNat p0) = 1 ∧ σ' 38 0 0 (Int.toNat p0) = p1 ∧ σ' 39 0 0 (Int.toNat p0) = p2 ∧ σ' 40 0 0 (Int.toNat p0) = u3 ∧ True) 1 135 77 [(0, av 35 0 0), (1, iv p0), (2, iv p1), (3, iv p2), (4, iv x13)] [] _) ?_ 0 (by omega)
            intro x13 hp15 ih14
            refine T_ld zk_135_77 rfl rfl rfl (pc' := 79) rfl ?_
            refine T_op zk_135_79 rfl (X_bi (v := 96) (by decide)) (pc' := 81) rfl ?_
            refine T_icmp_ge zk_135_81 (by omega) (by omega) (pc' := 84) rfl (fun h16 => ?_) (fun h17 => ?_)
            ·
              refine T_op zk_135_103 rfl X_ic (pc' := 104) rfl ?_
              exact T_iret zk_135_104 rfl (fun σ' h => ⟨_, rfl, (by omega), h.1, ⟨(by have e := h.2.1; omega), (by have e := h.2.2.1; omega), (by have e := h.2.2.2.1; omega), (by have e := h.2.2.2.2.1; omega), trivial⟩⟩)
            ·
              refine T_ld zk_135_84 rfl rfl rfl (pc' := 85) rfl ?_
              refine T_getR (t' := 41) (i' := 0) (k' := 0) zk_135_85 rfl rfl rfl vd_35 (pc' := 88) rfl ?_
              refine T_op zk_135_88 rfl (X_bi (v := 96) (by decide)) (pc' := 90) rfl ?_
              refine T_ld zk_135_90 rfl rfl rfl (pc' := 91) rfl ?_
              refine T_op zk_135_91 rfl X_mul (pc' := 92) rfl ?_
              refine T_ld zk_135_92 rfl rfl rfl (pc' := 94) rfl ?_
              refine T_op zk_135_94 rfl X_add (pc' := 95) rfl ?_
              refine T_op zk_135_95 rfl (X_lc (v := 0) (by decide)) (pc' := 96) rfl ?_
              refine G_last (J' := (fun σ' => IF (MBs (Int.toNat p0)) σ σ' ∧ σ' 37 0 0 (Int.toNat p0) = 1 ∧ σ' 38 0 0 (Int.toNat p0) = p1 ∧ σ' 39 0 0 (Int.toNat p0) = p2 ∧ σ' 40 0 0 (Int.toNat p0) = u3 ∧ True)) (ln := 768) zk_135_96 rfl rfl vd_41 (by omega) (by omega) (by omega) (fun σ' h => ⟨h.1.up ⟨by omega, trivial⟩ (by first | exact pMBs rfl | (unfold MBs; omega)), (up_ne (by omega)).trans (h.2.1), (up_ne (by omega)).trans (h.2.2.1), (up_ne (by omega)).trans (h.2.2.2.1), (up_ne (by omega)).trans (h.2.2.2.2.1), trivial⟩) (pc' := 97) rfl ?_
              refine T_iinc (L' := [(0, av 35 0 0), (1, iv p0), (2, iv p1), (3, iv p2), (4, iv (x13 + 1))]) zk_135_97 (nL := 5) rfl rfl rfl rfl (pc' := 100) rfl ?_
              refine T_goto zk_135_100 ?_
              exact ih14 (x13 + 1) (by omega) (by omega)
          ·
            refine T_ld zk_135_46 rfl rfl rfl (pc' := 47) rfl ?_
            refine T_op zk_135_47 rfl (X_bi (v := -7) (by decide)) (pc' := 49) rfl ?_
            refine T_calli (K := fun y18 σ' => (y18 = (-7)) ∧ (fun σ' => IF (MBs (Int.toNat p0)) σ σ' ∧ σ' 37 0 0 (Int.toNat p0) = u0 ∧ σ' 38 0 0 (Int.toNat p0) = u1 ∧ σ' 39 0 0 (Int.toNat p0) = u2 ∧ σ' 40 0 0 (Int.toNat p0) = u3 ∧ True) σ') (r := []) zk_135_49 rfl rfl rfl rfl rfl rfl (Or.inr ⟨_, _, _, _, rfl, vd_35, rfl⟩) (fun σ' h => (m_123 ((-7)) (by omega) σ' h.1.1 ).le (Nat.le_of_ble_eq_true rfl) (fun v σ2 ⟨y, h1, h2, h3, h4⟩ => ⟨y, h1, h2, h.1.tr h3 (sb76_d988043 (Int.toNat p0)), (h3.2 _ _ _ _ (by first | exact nMT rfl | (unfold MT; omega))).trans (h.2.1), (h3.2 _ _ _ _ (by first | exact nMT rfl | (unfold MT; omega))).trans (h.2.2.1), (h3.2 _ _ _ _ (by first | exact nMT rfl | (unfold MT; omega))).trans (h.2.2.2.1), (h3.2 _ _ _ _ (by first | exact nMT rfl | (unfold MT; omega))).trans (h.2.2.2.2.1), trivial⟩)) (pc' := 52) rfl (fun y18 => ?_)
            refine G_ex (fun hy18 => ?_)
            obtain rfl : y18 = (-7) := by omega
            exact T_iret zk_135_52 rfl (fun σ' h => ⟨_, rfl, (by omega), h.1, ⟨(by have e := h.2.1; omega), (by have e := h.2.2.1; omega), (by have e := h.2.2.2.1; omega), (by have e := h.2.2.2.2.1; omega), trivial⟩⟩)
        ·
          refine T_ld zk_135_33 rfl rfl rfl (pc' := 34) rfl ?_
          refine T_op zk_135_34 rfl (X_bi (v := -6) (by decide)) (pc' := 36) rfl ?_
          refine T_calli (K := fun y19 σ' => (y19 = (-6)) ∧ (fun σ' => IF (MBs (Int.toNat p0)) σ σ' ∧ σ' 37 0 0 (Int.toNat p0) = u0 ∧ σ' 38 0 0 (Int.toNat p0) = u1 ∧ σ' 39 0 0 (Int.toNat p0) = u2 ∧ σ' 40 0 0 (Int.toNat p0) = u3 ∧ True) σ') (r := []) zk_135_36 rfl rfl rfl rfl rfl rfl (Or.inr ⟨_, _, _, _, rfl, vd_35, rfl⟩) (fun σ' h => (m_123 ((-6)) (by omega) σ' h.1.1 ).le (Nat.le_of_ble_eq_true rfl) (fun v σ2 ⟨y, h1, h2, h3, h4⟩ => ⟨y, h1, h2, h.1.tr h3 (sb76_d988043 (Int.toNat p0)), (h3.2 _ _ _ _ (by first | exact nMT rfl | (unfold MT; omega))).trans (h.2.1), (h3.2 _ _ _ _ (by first | exact nMT rfl | (unfold MT; omega))).trans (h.2.2.1), (h3.2 _ _ _ _ (by first | exact nMT rfl | (unfold MT; omega))).trans (h.2.2.2.1), (h3.2 _ _ _ _ (by first | exact nMT rfl | (unfold MT; omega))).trans (h.2.2.2.2.1), trivial⟩)) (pc' := 39) rfl (fun y19 => ?_)
          refine G_ex (fun hy19 => ?_)
          obtain rfl : y19 = (-6) := by omega
          exact T_iret zk_135_39 rfl (fun σ' h => ⟨_, rfl, (by omega), h.1, ⟨(by have e := h.2.1; omega), (by have e := h.2.2.1; omega), (by have e := h.2.2.2.1; omega), (by have e := h.2.2.2.2.1; omega), trivial⟩⟩)
    ·
      refine T_ld zk_135_17 rfl rfl rfl (pc' := 18) rfl ?_
      refine T_op zk_135_18 rfl (X_bi (v := -4) (by decide)) (pc' := 20) rfl ?_
      refine T_calli (K := fun y20 σ' => (y20 = (-4)) ∧ (fun σ' => IF (MBs (Int.toNat p0)) σ σ' ∧ σ' 37 0 0 (Int.toNat p0) = u0 ∧ σ' 38 0 0 (Int.toNat p0) = u1 ∧ σ' 39 0 0 (Int.toNat p0) = u2 ∧ σ' 40 0 0 (Int.toNat p0) = u3 ∧ True) σ') (r := []) zk_135_20 rfl rfl rfl rfl rfl rfl (Or.inr ⟨_, _, _, _, rfl, vd_35, rfl⟩) (fun σ' h => (m_123 ((-4)) (by omega) σ' h.1.1 ).le (Nat.le_of_ble_eq_true rfl) (fun v σ2 ⟨y, h1, h2, h3, h4⟩ => ⟨y, h1, h2, h.1.tr h3 (sb76_d988043 (Int.toNat p0)), (h3.2 _ _ _ _ (by first | exact nMT rfl | (unfold MT; omega))).trans (h.2.1), (h3.2 _ _ _ _ (by first | exact nMT rfl | (unfold MT; omega))).trans (h.2.2.1), (h3.2 _ _ _ _ (by first | exact nMT rfl | (unfold MT; omega))).trans (h.2.2.2.1), (h3.2 _ _ _ _ (by first | exact nMT rfl | (unfold MT; omega))).trans (h.2.2.2.2.1), trivial⟩)) (pc' := 23) rfl (fun y20 => ?_)
      refine G_ex (fun hy20 => ?_)
      obtain rfl : y20 = (-4) := by omega
      exact T_iret zk_135_23 rfl (fun σ' h => ⟨_, rfl, (by omega), h.1, ⟨(by have e := h.2.1; omega), (by have e := h.2.2.1; omega), (by have e := h.2.2.2.1; omega), (by have e := h.2.2.2.2.1; omega), trivial⟩⟩)
  ·
    refine T_ld zk_135_7 rfl rfl rfl (pc' := 8) rfl ?_
    refine T_op zk_135_8 rfl X_ic (pc' := 9) rfl ?_
    refine T_calli (K := fun y21 σ' => (y21 = (-1)) ∧ (fun σ' => IF (MBs (Int.toNat p0)) σ σ' ∧ σ' 37 0 0 (Int.toNat p0) = u0 ∧ σ' 38 0 0 (Int.toNat p0) = u1 ∧ σ' 39 0 0 (Int.toNat p0) = u2 ∧ σ' 40 0 0 (Int.toNat p0) = u3 ∧ True) σ') (r := []) zk_135_9 rfl rfl rfl rfl rfl rfl (Or.inr ⟨_, _, _, _, rfl, vd_35, rfl⟩) (fun σ' h => (m_123 ((-1)) (by omega) σ' h.1.1 ).le (Nat.le_of_ble_eq_true rfl) (fun v σ2 ⟨y, h1, h2, h3, h4⟩ => ⟨y, h1, h2, h.1.tr h3 (sb76_d988043 (Int.toNat p0)), (h3.2 _ _ _ _ (by first | exact nMT rfl | (unfold MT; omega))).trans (h.2.1), (h3.2 _ _ _ _ (by first | exact nMT rfl | (unfold MT; omega))).trans (h.2.2.1), (h3.2 _ _ _ _ (by first | exact nMT rfl | (unfold MT; omega))).trans (h.2.2.2.1), (h3.2 _ _ _ _ (by first | exact nMT rfl | (unfold MT; omega))).trans (h.2.2.2.2.1), trivial⟩)) (pc' := 12) rfl (fun y21 => ?_)
    refine G_ex (fun hy21 => ?_)
    obtain rfl : y21 = (-1) := by omega
    exact T_iret zk_135_12 rfl (fun σ' h => ⟨_, rfl, (by omega), h.1, ⟨(by have e := h.2.1; omega), (by have e := h.2.2.1; omega), (by have e := h.2.2.2.1; omega), (by have e := h.2.2.2.2.1; omega), trivial⟩⟩)
/-- WModel.row -/
theorem r_135o {xs : Nat × (Nat → Int32)} (p0 : Int) (p1 : Int) (p2 : Int) (hp0 : -2147483648 ≤ p0 ∧ p0 ≤ 2147483647) (hp1 : -2147483648 ≤ p1 ∧ p1 ≤ 2147483647) (hp2 : -2147483648 ≤ p2 ∧ p2 ≤ 2147483647) (ho : p0 < 0 ∨ 7 < p0) (σ : ZS) (hI : Inv σ)   : CT xs 2 135 [av 35 0 0, iv p0, iv p1, iv p2] σ (fun v σ' => ∃ y, v = some (iv y) ∧ (y = -1) ∧ IF (MT 49 49 49 49) σ σ' ∧ (True)) := by
  refine G_ct (J := (fun σ' => IF (MT 49 49 49 49) σ σ' ∧ True)) (L := [(0, av 35 0 0), (1, iv p0), (2, iv p1), (3, iv p2)]) (nL := 5) rfl rfl rfl ⟨IF.rf hI, trivial⟩ ?_
  refine T_ld zk_135_0 rfl rfl rfl (pc' := 1) rfl ?_
  refine T_calli (K := fun y1 σ' => ((y1 = 0 ∧ (p0 < 0 ∨ 7 < p0)) ∨ (y1 = 1 ∧ 0 ≤ p0 ∧ p0 ≤ 7)) ∧ (fun σ' => IF (MT 49 49 49 49) σ σ' ∧ True) σ') (r := []) zk_135_1 rfl rfl rfl rfl rfl rfl (Or.inl (Or.inl rfl)) (fun σ' h => (m_125 p0 (by omega) σ' h.1.1 ).le (Nat.le_of_ble_eq_true rfl) (fun v σ2 ⟨y, h1, h2, h3, h4⟩ => ⟨y, h1, h2, h.1.tr h3 MN_sub, trivial⟩)) (pc' := 4) rfl (fun y1 => ?_)
  refine G_ex (fun hy1 => ?_)
  refine T_if_ne zk_135_4 (by omega) (pc' := 7) rfl (fun h2 => ?_) (fun h3 => ?_)
  · exfalso; omega
  ·
    refine T_ld zk_135_7 rfl rfl rfl (pc' := 8) rfl ?_
    refine T_op zk_135_8 rfl X_ic (pc' := 9) rfl ?_
    refine T_calli (K := fun y4 σ' => (y4 = (-1)) ∧ (fun σ' => IF (MT 49 49 49 49) σ σ' ∧ True) σ') (r := []) zk_135_9 rfl rfl rfl rfl rfl rfl (Or.inr ⟨_, _, _, _, rfl, vd_35, rfl⟩) (fun σ' h => (m_123 ((-1)) (by omega) σ' h.1.1 ).le (Nat.le_of_ble_eq_true rfl) (fun v σ2 ⟨y, h1, h2, h3, h4⟩ => ⟨y, h1, h2, h.1.tr h3 (fun _ _ _ _ h => h), trivial⟩)) (pc' := 12) rfl (fun y4 => ?_)
    refine G_ex (fun hy4 => ?_)
    obtain rfl : y4 = (-1) := by omega
    exact T_iret zk_135_12 rfl (fun σ' h => ⟨_, rfl, (by omega), h.1, trivial⟩)
theorem sb76_7633768 (v0 : Nat) : ∀ t i k j, MT 49 49 49 49 t i k j → MBt v0 t i k j := by
  intro t i k j h
  unfold MT at h
  unfold MBt
  omega
/-- WModel.show -/
theorem r_140 {xs : Nat × (Nat → Int32)} (p0 : Int) (p1 : Int) (n : Int) (u0 : Int) (u3 : Int) (hp0 : 0 ≤ p0 ∧ p0 ≤ 7) (hp1 : -2147483648 ≤ p1 ∧ p1 ≤ 2147483647) (hn : 0 ≤ n ∧ n ≤ 12) (hu0 : 0 ≤ u0 ∧ u0 ≤ 2) (hu3 : -1 ≤ u3 ∧ u3 ≤ 11) (σ : ZS) (hI : Inv σ)  (q0 : σ 36 0 0 641 = n) (s0 : σ 37 0 0 (Int.toNat p0) = u0) (s3 : σ 40 0 0 (Int.toNat p0) = u3) : CT xs 2 140 [av 35 0 0, iv p0, iv p1] σ (fun v σ' => ∃ y, v = some (iv y) ∧ ((y = -1 ∧ (¬ (p1 = -1 ∨ (0 ≤ p1 ∧ p1 < n)))) ∨ (y = 0 ∧ ¬ (¬ (p1 = -1 ∨ (0 ≤ p1 ∧ p1 < n))) ∧ (p1 = -1)) ∨ (y = 1 ∧ ¬ (¬ (p1 = -1 ∨ (0 ≤ p1 ∧ p1 < n))) ∧ ¬ (p1 = -1))) ∧ IF (MBt (Int.toNat p0)) σ σ' ∧ (((y = 1 → σ' 37 0 0 (Int.toNat p0) = 2) ∧ (y = 0 → σ' 37 0 0 (Int.toNat p0) = 0) ∧ (y < 0 → σ' 37 0 0 (Int.toNat p0) = u0)) ∧ ((y = 1 → σ' 40 0 0 (Int.toNat p0) = p1) ∧ (y < 0 → σ' 40 0 0 (Int.toNat p0) = u3)) ∧ True)) := by
  refine G_ct (J := (fun σ' => IF (MBt (Int.toNat p0)) σ σ' ∧ σ' 37 0 0 (Int.toNat p0) = u0 ∧ σ' 40 0 0 (Int.toNat p0) = u3 ∧ True)) (L := [(0, av 35 0 0), (1, iv p0), (2, iv p1)]) (nL := 3) rfl rfl rfl ⟨IF.rf hI, s0, s3, trivial⟩ ?_
  refine T_ld zk_140_0 rfl rfl rfl (pc' := 1) rfl ?_
  refine T_calli (K := fun y1 σ' => ((y1 = 0 ∧ (p0 < 0 ∨ 7 < p0)) ∨ (y1 = 1 ∧ 0 ≤ p0 ∧ p0 ≤ 7)) ∧ (fun σ' => IF (MBt (Int.toNat p0)) σ σ' ∧ σ' 37 0 0 (Int.toNat p0) = u0 ∧ σ' 40 0 0 (Int.toNat p0) = u3 ∧ True) σ') (r := []) zk_140_1 rfl rfl rfl rfl rfl rfl (Or.inl (Or.inl rfl)) (fun σ' h => (m_125 p0 (by omega) σ' h.1.1 ).le (Nat.le_of_ble_eq_true rfl) (fun v σ2 ⟨y, h1, h2, h3, h4⟩ => ⟨y, h1, h2, h.1.tr h3 MN_sub, (h3.2 _ _ _ _ (fun q => q)).trans (h.2.1), (h3.2 _ _ _ _ (fun q => q)).trans (h.2.2.1), trivial⟩)) (pc' := 4) rfl (fun y1 => ?_)
  refine G_ex (fun hy1 => ?_)
  refine T_if_eq zk_140_4 (by omega) (pc' := 7) rfl (fun h2 => ?_) (fun h3 => ?_)
  ·
    refine T_ld zk_140_20 rfl rfl rfl (pc' := 21) rfl ?_
    refine T_op zk_140_21 rfl X_ic (pc' := 22) rfl ?_
    refine T_calli (K := fun y4 σ' => (y4 = (-1)) ∧ (fun σ' => IF (MBt (Int.toNat p0)) σ σ' ∧ σ' 37 0 0 (Int.toNat p0) = u0 ∧ σ' 40 0 0 (Int.toNat p0) = u3 ∧ True) σ') (r := []) zk_140_22 rfl rfl rfl rfl rfl rfl (Or.inr ⟨_, _, _, _, rfl, vd_35, rfl⟩) (fun σ' h => (m_123 ((-1)) (by omega) σ' h.1.1 ).le (Nat.le_of_ble_eq_true rfl) (fun v σ2 ⟨y, h1, h2, h3, h4⟩ => ⟨y, h1, h2, h.1.tr h3 (sb76_7633768 (Int.toNat p0)), (h3.2 _ _ _ _ (by first | exact nMT rfl | (unfold MT; omega))).trans (h.2.1), (h3.2 _ _ _ _ (by first | exact nMT rfl | (unfold MT; omega))).trans (h.2.2.1), trivial⟩)) (pc' := 25) rfl (fun y4 => ?_)
    refine G_ex (fun hy4 => ?_)
    obtain rfl : y4 = (-1) := by omega
    exact T_iret zk_140_25 rfl (fun σ' h => ⟨_, rfl, (by omega), h.1, ⟨(by have e := h.2.1; omega), (by have e := h.2.2.1; omega), trivial⟩⟩)
  ·
    refine T_ld zk_140_7 rfl rfl rfl (pc' := 8) rfl ?_
    refine T_op zk_140_8 rfl X_ic (pc' := 9) rfl ?_
    refine T_icmp_eq zk_140_9 (by omega) (by omega) (pc' := 12) rfl (fun h5 => ?_) (fun h6 => ?_)
    ·
      refine T_ld zk_140_26 rfl rfl rfl (pc' := 27) rfl ?_
      refine T_getR (t' := 37) (i' := 0) (k' := 0) zk_140_27 rfl rfl rfl vd_35 (pc' := 30) rfl ?_
      refine T_ld zk_140_30 rfl rfl rfl (pc' := 31) rfl ?_
      refine T_ld zk_140_31 rfl rfl rfl (pc' := 32) rfl ?_
      refine T_op zk_140_32 rfl X_ic (pc' := 33) rfl ?_
      refine T_icmp_ne zk_140_33 (by omega) (by omega) (pc' := 36) rfl (fun h7 => ?_) (fun h8 => ?_)
      · exfalso; omega
      ·
        refine T_op zk_140_36 rfl X_ic (pc' := 37) rfl ?_
        refine T_goto zk_140_37 ?_
        refine G_iast (J' := (fun σ' => IF (MBt (Int.toNat p0)) σ σ' ∧ σ' 40 0 0 (Int.toNat p0) = u3 ∧ σ' 37 0 0 (Int.toNat p0) = 0 ∧ True)) (ln := 8) zk_140_41 rfl rfl vd_37 (by omega) (by omega) (by omega) (fun σ' h => ⟨h.1.up (by simp only [rgP] <;> omega) (by first | exact pMBt rfl | (unfold MBt; omega)), (up_ne (by omega)).trans (h.2.2.1), up_eq, trivial⟩) (pc' := 42) rfl ?_
        refine T_ld zk_140_42 rfl rfl rfl (pc' := 43) rfl ?_
        refine T_getR (t' := 40) (i' := 0) (k' := 0) zk_140_43 rfl rfl rfl vd_35 (pc' := 46) rfl ?_
        refine T_ld zk_140_46 rfl rfl rfl (pc' := 47) rfl ?_
        refine T_ld zk_140_47 rfl rfl rfl (pc' := 48) rfl ?_
        refine G_iast (J' := (fun σ' => IF (MBt (Int.toNat p0)) σ σ' ∧ σ' 37 0 0 (Int.toNat p0) = 0 ∧ σ' 40 0 0 (Int.toNat p0) = p1 ∧ True)) (ln := 8) zk_140_48 rfl rfl vd_40 (by omega) (by omega) (by omega) (fun σ' h => ⟨h.1.up (by simp only [rgP] <;> omega) (by first | exact pMBt rfl | (unfold MBt; omega)), (up_ne (by omega)).trans (h.2.2.1), up_eq, trivial⟩) (pc' := 49) rfl ?_
        refine T_ld zk_140_49 rfl rfl rfl (pc' := 50) rfl ?_
        refine T_op zk_140_50 rfl X_ic (pc' := 51) rfl ?_
        refine T_icmp_ne zk_140_51 (by omega) (by omega) (pc' := 54) rfl (fun h9 => ?_) (fun h10 => ?_)
        · exfalso; omega
        ·
          refine T_op zk_140_54 rfl X_ic (pc' := 55) rfl ?_
          refine T_goto zk_140_55 ?_
          exact T_iret zk_140_59 rfl (fun σ' h => ⟨_, rfl, (by omega), h.1, ⟨(by have e := h.2.1; omega), (by have e := h.2.2.1; omega), trivial⟩⟩)
    ·
      refine T_ld zk_140_12 rfl rfl rfl (pc' := 13) rfl ?_
      refine T_ld zk_140_13 rfl rfl rfl (pc' := 14) rfl ?_
      refine T_calli (K := fun y11 σ' => ((y11 = 0 ∧ (p1 < 0 ∨ n ≤ p1)) ∨ (y11 = 1 ∧ 0 ≤ p1 ∧ p1 < n)) ∧ (fun σ' => IF (MBt (Int.toNat p0)) σ σ' ∧ σ' 37 0 0 (Int.toNat p0) = u0 ∧ σ' 40 0 0 (Int.toNat p0) = u3 ∧ True) σ') (r := []) zk_140_14 rfl rfl rfl rfl rfl rfl (Or.inr ⟨_, _, _, _, rfl, vd_35, rfl⟩) (fun σ' h => (m_139 p1 n (by omega) (by omega) σ' h.1.1 ((h.1.2 _ _ _ _ (by first | exact nMBt rfl | (unfold MBt; omega))).trans q0)).le (Nat.le_of_ble_eq_true rfl) (fun v σ2 ⟨y, h1, h2, h3, h4⟩ => ⟨y, h1, h2, h.1.tr h3 MN_sub, (h3.2 _ _ _ _ (fun q => q)).trans (h.2.1), (h3.2 _ _ _ _ (fun q => q)).trans (h.2.2.1), trivial⟩)) (pc' := 17) rfl (fun y11 => ?_)
      refine G_ex (fun hy11 => ?_)
      refine T_if_ne zk_140_17 (by omega) (pc' := 20) rfl (fun h12 => ?_) (fun h13 => ?_)
      ·
        refine T_ld zk_140_26 rfl rfl rfl (pc' := 27) rfl ?_
        refine T_getR (t' := 37) (i' := 0) (k' := 0) zk_140_27 rfl rfl rfl vd_35 (pc' := 30) rfl ?_
        refine T_ld zk_140_30 rfl rfl rfl (pc' := 31) rfl ?_
        refine T_ld zk_140_31 rfl rfl rfl (pc' := 32) rfl ?_
        refine T_op zk_140_32 rfl X_ic (pc' := 33) rfl ?_
        refine T_icmp_ne zk_140_33 (by omega) (by omega) (pc' := 36) rfl (fun h14 => ?_) (fun h15 => ?_)
        ·
          refine T_op zk_140_40 rfl X_ic (pc' := 41) rfl ?_
          refine G_iast (J' := (fun σ' => IF (MBt (Int.toNat p0)) σ σ' ∧ σ' 40 0 0 (Int.toNat p0) = u3 ∧ σ' 37 0 0 (Int.toNat p0) = 2 ∧ True)) (ln := 8) zk_140_41 rfl rfl vd_37 (by omega) (by omega) (by omega) (fun σ' h => ⟨h.1.up (by simp only [rgP] <;> omega) (by first | exact pMBt rfl | (unfold MBt; omega)), (up_ne (by omega)).trans (h.2.2.1), up_eq, trivial⟩) (pc' := 42) rfl ?_
          refine T_ld zk_140_42 rfl rfl rfl (pc' := 43) rfl ?_
          refine T_getR (t' := 40) (i' := 0) (k' := 0) zk_140_43 rfl rfl rfl vd_35 (pc' := 46) rfl ?_
          refine T_ld zk_140_46 rfl rfl rfl (pc' := 47) rfl ?_
          refine T_ld zk_140_47 rfl rfl rfl (pc' := 48) rfl ?_
          refine G_iast (J' := (fun σ' => IF (MBt (Int.toNat p0)) σ σ' ∧ σ' 37 0 0 (Int.toNat p0) = 2 ∧ σ' 40 0 0 (Int.toNat p0) = p1 ∧ True)) (ln := 8) zk_140_48 rfl rfl vd_40 (by omega) (by omega) (by omega) (fun σ' h => ⟨h.1.up (by simp only [rgP] <;> omega) (by first | exact pMBt rfl | (unfold MBt; omega)), (up_ne (by omega)).trans (h.2.2.1), up_eq, trivial⟩) (pc' := 49) rfl ?_
          refine T_ld zk_140_49 rfl rfl rfl (pc' := 50) rfl ?_
          refine T_op zk_140_50 rfl X_ic (pc' := 51) rfl ?_
          refine T_icmp_ne zk_140_51 (by omega) (by omega) (pc' := 54) rfl (fun h16 => ?_) (fun h17 => ?_)
          ·
            refine T_op zk_140_58 rfl X_ic (pc' := 59) rfl ?_
            exact T_iret zk_140_59 rfl (fun σ' h => ⟨_, rfl, (by omega), h.1, ⟨(by have e := h.2.1; omega), (by have e := h.2.2.1; omega), trivial⟩⟩)
          · exfalso; omega
        · exfalso; omega
      ·
        refine T_ld zk_140_20 rfl rfl rfl (pc' := 21) rfl ?_
        refine T_op zk_140_21 rfl X_ic (pc' := 22) rfl ?_
        refine T_calli (K := fun y18 σ' => (y18 = (-1)) ∧ (fun σ' => IF (MBt (Int.toNat p0)) σ σ' ∧ σ' 37 0 0 (Int.toNat p0) = u0 ∧ σ' 40 0 0 (Int.toNat p0) = u3 ∧ True) σ') (r := []) zk_140_22 rfl rfl rfl rfl rfl rfl (Or.inr ⟨_, _, _, _, rfl, vd_35, rfl⟩) (fun σ' h => (m_123 ((-1)) (by omega) σ' h.1.1 ).le (Nat.le_of_ble_eq_true rfl) (fun v σ2 ⟨y, h1, h2, h3, h4⟩ => ⟨y, h1, h2, h.1.tr h3 (sb76_7633768 (Int.toNat p0)), (h3.2 _ _ _ _ (by first | exact nMT rfl | (unfold MT; omega))).trans (h.2.1), (h3.2 _ _ _ _ (by first | exact nMT rfl | (unfold MT; omega))).trans (h.2.2.1), trivial⟩)) (pc' := 25) rfl (fun y18 => ?_)
        refine G_ex (fun hy18 => ?_)
        obtain rfl : y18 = (-1) := by omega
        exact T_iret zk_140_25 rfl (fun σ' h => ⟨_, rfl, (by omega), h.1, ⟨(by have e := h.2.1; omega), (by have e := h.2.2.1; omega), trivial⟩⟩)
/-- WModel.show -/
theorem r_140o {xs : Nat × (Nat → Int32)} (p0 : Int) (p1 : Int) (hp0 : -2147483648 ≤ p0 ∧ p0 ≤ 2147483647) (hp1 : -2147483648 ≤ p1 ∧ p1 ≤ 2147483647) (ho : p0 < 0 ∨ 7 < p0) (σ : ZS) (hI : Inv σ)   : CT xs 2 140 [av 35 0 0, iv p0, iv p1] σ (fun v σ' => ∃ y, v = some (iv y) ∧ (y = -1) ∧ IF (MT 49 49 49 49) σ σ' ∧ (True)) := by
  refine G_ct (J := (fun σ' => IF (MT 49 49 49 49) σ σ' ∧ True)) (L := [(0, av 35 0 0), (1, iv p0), (2, iv p1)]) (nL := 3) rfl rfl rfl ⟨IF.rf hI, trivial⟩ ?_
  refine T_ld zk_140_0 rfl rfl rfl (pc' := 1) rfl ?_
  refine T_calli (K := fun y1 σ' => ((y1 = 0 ∧ (p0 < 0 ∨ 7 < p0)) ∨ (y1 = 1 ∧ 0 ≤ p0 ∧ p0 ≤ 7)) ∧ (fun σ' => IF (MT 49 49 49 49) σ σ' ∧ True) σ') (r := []) zk_140_1 rfl rfl rfl rfl rfl rfl (Or.inl (Or.inl rfl)) (fun σ' h => (m_125 p0 (by omega) σ' h.1.1 ).le (Nat.le_of_ble_eq_true rfl) (fun v σ2 ⟨y, h1, h2, h3, h4⟩ => ⟨y, h1, h2, h.1.tr h3 MN_sub, trivial⟩)) (pc' := 4) rfl (fun y1 => ?_)
  refine G_ex (fun hy1 => ?_)
  refine T_if_eq zk_140_4 (by omega) (pc' := 7) rfl (fun h2 => ?_) (fun h3 => ?_)
  ·
    refine T_ld zk_140_20 rfl rfl rfl (pc' := 21) rfl ?_
    refine T_op zk_140_21 rfl X_ic (pc' := 22) rfl ?_
    refine T_calli (K := fun y4 σ' => (y4 = (-1)) ∧ (fun σ' => IF (MT 49 49 49 49) σ σ' ∧ True) σ') (r := []) zk_140_22 rfl rfl rfl rfl rfl rfl (Or.inr ⟨_, _, _, _, rfl, vd_35, rfl⟩) (fun σ' h => (m_123 ((-1)) (by omega) σ' h.1.1 ).le (Nat.le_of_ble_eq_true rfl) (fun v σ2 ⟨y, h1, h2, h3, h4⟩ => ⟨y, h1, h2, h.1.tr h3 (fun _ _ _ _ h => h), trivial⟩)) (pc' := 25) rfl (fun y4 => ?_)
    refine G_ex (fun hy4 => ?_)
    obtain rfl : y4 = (-1) := by omega
    exact T_iret zk_140_25 rfl (fun σ' h => ⟨_, rfl, (by omega), h.1, trivial⟩)
  · exfalso; omega
