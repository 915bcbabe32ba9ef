theorem k_154f {xs : Nat × (Nat → Int32)} (p0 p1 m : Int) (F G H : Nat → Int) (hp0 : 0 ≤ p0 ∧ p0 ≤ 7) (hp1 : 0 ≤ p1 ∧ p1 ≤ 5) (hm : 0 ≤ m ∧ m ≤ 96) (σ : ZS) (hI : Inv σ) (s1 : Eq (σ 44 0 0) F) (s2 : Eq (σ 45 0 0) G) (s3 : Eq (σ 41 0 0) H) (s4 : σ 39 0 0 (Int.toNat p0) = m) : CT xs 7 154 [av 35 0 0, iv p0, iv p1] σ (fun v σ' => ∃ y, v = some (iv y) ∧ (y = LAWF (LC H (96 * p0)) m ∧ -1 ≤ y ∧ y ≤ 96) ∧ IF (MCo (Int.toNat p1)) σ σ' ∧ ((Eo (σ' 44 0 0) (Int.toNat p1) F) ∧ (Er (σ' 45 0 0) (Int.toNat p1) G) ∧ (y = -1 → okc (σ' 45 0 0) (Int.toNat (120 * p1)) (Int.toNat (σ' 44 0 0 (Int.toNat p1)))) ∧ True)) :=
  (k_154 p0 p1 m H hp0 hp1 hm σ hI s3 s4).le (Nat.le_refl _) (fun v σ' ⟨y, h1, h2, h3, h4⟩ => ⟨y, h1, h2, h3, fun q hq => (h3.2 44 0 0 q (by unfold MCo; omega)).trans (congrFun s1 q), fun q hq => (h3.2 45 0 0 q (by unfold MCo; omega)).trans (congrFun s2 q), h4.1, trivial⟩)
/-- WModel.law -/
theorem r_155 {xs : Nat × (Nat → Int32)} (p0 : Int) (u0 : Int) (u2 : Int) (n : Int) (w : Int) (H : Nat → Int) (hp0 : 0 ≤ p0 ∧ p0 ≤ 7) (hu0 : 0 ≤ u0 ∧ u0 ≤ 2) (hu2 : 0 ≤ u2 ∧ u2 ≤ 96) (hn : 0 ≤ n ∧ n ≤ 5) (σ : ZS) (hI : Inv σ) (hW : WF σ) (s0 : σ 37 0 0 (Int.toNat p0) = u0) (s2 : σ 39 0 0 (Int.toNat p0) = u2) (rh : Eq (σ 41 0 0) H) (sn : σ 36 0 0 640 = n) (sw : σ 35 0 0 16 = w) : CT xs 8 155 [av 35 0 0, iv p0] σ (fun v σ' => ∃ y, v = some (iv y) ∧ ((y = -2 ∧ (u0 = 2)) ∨ (y = -3 ∧ ¬ (u0 = 2) ∧ (u0 = 0)) ∨ (y = -6 ∧ ¬ (u0 = 2) ∧ ¬ (u0 = 0) ∧ (¬ LAWF (LC H (96 * p0)) u2 = -1)) ∨ (y = -7 ∧ ¬ (u0 = 2) ∧ ¬ (u0 = 0) ∧ ¬ (¬ LAWF (LC H (96 * p0)) u2 = -1) ∧ (5 ≤ n)) ∨ (y = n ∧ ¬ (u0 = 2) ∧ ¬ (u0 = 0) ∧ ¬ (¬ LAWF (LC H (96 * p0)) u2 = -1) ∧ ¬ (5 ≤ n))) ∧ IF MLa σ σ' ∧ ((WF σ') ∧ ((y < 0 → σ' 36 0 0 640 = n) ∧ (0 ≤ y → σ' 36 0 0 640 = n + 1)) ∧ ((u0 = 2 ∨ u0 = 0 → σ' 35 0 0 16 = w) ∧ (¬ u0 = 2 ∧ ¬ u0 = 0 → σ' 35 0 0 16 = LAWF (LC H (96 * p0)) u2)) ∧ True)) := by
  refine G_ct (J := (fun σ' => IF MLa σ σ' ∧ Eq (σ' 41 0 0) H ∧ σ' 36 0 0 640 = n ∧ σ' 35 0 0 16 = w ∧ Eq (σ' 44 0 0) (σ 44 0 0) ∧ Eq (σ' 45 0 0) (σ 45 0 0) ∧ True)) (L := [(0, av 35 0 0), (1, iv p0)]) (nL := 4) rfl rfl rfl ⟨IF.rf hI, rh, sn, sw, rfl, rfl, trivial⟩ ?_
  have r6 := r640 hI 0 (by omega)
  refine T_ld zk_155_0 rfl rfl rfl (pc' := 1) rfl ?_
  refine T_ld zk_155_1 rfl rfl rfl (pc' := 2) rfl ?_
  refine T_calli (K := fun y1 σ' => ((y1 = -2 ∧ (u0 = 2)) ∨ (y1 = -3 ∧ ¬ (u0 = 2) ∧ (u0 = 0)) ∨ (y1 = 0 ∧ ¬ (u0 = 2) ∧ ¬ (u0 = 0))) ∧ (fun σ' => IF MLa σ σ' ∧ Eq (σ' 41 0 0) H ∧ σ' 36 0 0 640 = n ∧ σ' 35 0 0 16 = w ∧ Eq (σ' 44 0 0) (σ 44 0 0) ∧ Eq (σ' 45 0 0) (σ 45 0 0) ∧ True) σ') (r := []) zk_155_2 rfl rfl rfl rfl rfl rfl (Or.inr ⟨_, _, _, _, rfl, vd_35, rfl⟩) (fun σ' h => (r_143 p0 u0 (by omega) (by omega) σ' h.1.1 ((h.1.2 _ _ _ _ (by first | exact nMLa rfl | (unfold MLa; omega))).trans s0)).le (Nat.le_of_ble_eq_true rfl) (fun v σ2 ⟨y, h1, h2, h3, h4⟩ => ⟨y, h1, h2, h.1.tr h3 MN_sub, gf_mk (fun z => Eq z H) (funext fun j => h3.2 _ _ _ _ (fun q => q)) (h.2.1), (h3.2 _ _ _ _ (fun q => q)).trans (h.2.2.1), (h3.2 _ _ _ _ (fun q => q)).trans (h.2.2.2.1), gf_mk (fun z => Eq z (σ 44 0 0)) (funext fun j => h3.2 _ _ _ _ (fun q => q)) (h.2.2.2.2.1), gf_mk (fun z => Eq z (σ 45 0 0)) (funext fun j => h3.2 _ _ _ _ (fun q => q)) (h.2.2.2.2.2.1), trivial⟩)) (pc' := 5) rfl (fun y1 => ?_)
  refine G_ex (fun hy1 => ?_)
  refine T_st (L' := [(0, av 35 0 0), (1, iv p0), (2, iv y1)]) zk_155_5 (nL := 4) rfl rfl rfl rfl rfl (pc' := 6) rfl ?_
  refine T_ld zk_155_6 rfl rfl rfl (pc' := 7) rfl ?_
  refine T_if_eq zk_155_7 (by omega) (pc' := 10) rfl (fun h2 => ?_) (fun h3 => ?_)
  ·
    refine T_ld zk_155_16 rfl rfl rfl (pc' := 17) rfl ?_
    refine T_getR (t' := 36) (i' := 0) (k' := 0) zk_155_17 rfl rfl rfl vd_35 (pc' := 20) rfl ?_
    refine T_op zk_155_20 rfl (X_si (v := 640) (by decide)) (pc' := 23) rfl ?_
    refine G_ialdX (w := n) (ln := 646) zk_155_23 rfl rfl (vd_36 (by omega)) (by omega) (by omega) (by omega) (fun σ' h => h.2.2.1) (pc' := 24) rfl ?_
    refine T_op zk_155_24 rfl X_ic (pc' := 25) rfl ?_
    refine T_icmp_ge zk_155_25 (by omega) (by omega) (pc' := 28) rfl (fun h4 => ?_) (fun h5 => ?_)
    ·
      refine T_op zk_155_39 rfl X_ic (pc' := 40) rfl ?_
      refine T_st (L' := [(0, av 35 0 0), (1, iv p0), (2, iv y1), (3, iv 5)]) zk_155_40 (nL := 4) rfl rfl rfl rfl rfl (pc' := 41) rfl ?_
      refine T_ld zk_155_41 rfl rfl rfl (pc' := 42) rfl ?_
      refine T_ld zk_155_42 rfl rfl rfl (pc' := 43) rfl ?_
      refine T_ld zk_155_43 rfl rfl rfl (pc' := 44) rfl ?_
      refine T_ld zk_155_44 rfl rfl rfl (pc' := 45) rfl ?_
      refine T_calli (K := fun y6 σ' => (y6 = LAWF (LC H (96 * (p0))) u2 ∧ -1 ≤ y6 ∧ y6 ≤ 96) ∧ (fun σ' => IF MLa σ σ' ∧ Eq (σ' 41 0 0) H ∧ σ' 36 0 0 640 = n ∧ σ' 35 0 0 16 = w ∧ Eo (σ' 44 0 0) (Int.toNat 5) (σ 44 0 0) ∧ Er (σ' 45 0 0) (Int.toNat 5) (σ 45 0 0) ∧ (y6 = -1 → okc (σ' 45 0 0) (Int.toNat (120 * 5)) (Int.toNat (σ' 44 0 0 (Int.toNat 5)))) ∧ True) σ') (r := [av 35 0 0]) zk_155_45 rfl rfl rfl rfl rfl rfl (Or.inr ⟨_, _, _, _, rfl, vd_35, rfl⟩) (fun σ' h => (k_154f p0 5 u2 ((σ 44 0 0)) ((σ 45 0 0)) H (by omega) (by omega) (by omega) σ' h.1.1 (h.2.2.2.2.1) (h.2.2.2.2.2.1) (h.2.1) ((h.1.2 _ _ _ _ (by first | exact nMLa rfl | (unfold MLa; omega))).trans s2)).le (Nat.le_of_ble_eq_true rfl) (fun v σ2 ⟨y, h1, h2, h3, h4⟩ => ⟨y, h1, h2, h.1.tr h3 (fun t i k j h => by unfold MCo at h; unfold MLa; omega), gf_mk (fun z => Eq z H) (funext fun j => h3.2 _ _ _ _ (by first | exact nMCo rfl | (unfold MCo; omega))) (h.2.1), (h3.2 _ _ _ _ (by first | exact nMCo rfl | (unfold MCo; omega))).trans (h.2.2.1), (h3.2 _ _ _ _ (by first | exact nMCo rfl | (unfold MCo; omega))).trans (h.2.2.2.1), h4.1, h4.2.1, h4.2.2.1, trivial⟩)) (pc' := 48) rfl (fun y6 => ?_)
      refine G_ex (fun hy6 => ?_)
      refine T_putf (J' := (fun σ' => IF MLa σ σ' ∧ Eq (σ' 41 0 0) H ∧ σ' 36 0 0 640 = n ∧ Eo (σ' 44 0 0) (Int.toNat 5) (σ 44 0 0) ∧ Er (σ' 45 0 0) (Int.toNat 5) (σ 45 0 0) ∧ σ' 35 0 0 16 = y6 ∧ True)) zk_155_48 rfl rfl vd_35 (fun σ' h => ⟨h.1.up (by simp only [rgP] <;> omega) (by first | exact pMLa rfl | (unfold MLa; omega)), gf_mk (fun z => Eq z H) (up_row (by omega)) (h.2.1), (up_ne (by omega)).trans (h.2.2.1), gf_mk (fun z => Eo z (Int.toNat 5) (σ 44 0 0)) (up_row (by omega)) (h.2.2.2.2.1), gf_mk (fun z => Er z (Int.toNat 5) (σ 45 0 0)) (up_row (by omega)) (h.2.2.2.2.2.1), up_eq, trivial⟩) (pc' := 51) rfl ?_
      refine T_ld zk_155_51 rfl rfl rfl (pc' := 52) rfl ?_
      refine G_getX (w := y6) zk_155_52 rfl vd_35 (fun σ' h => h.2.2.2.2.2.1) (pc' := 55) rfl ?_
      refine T_op zk_155_55 rfl X_ic (pc' := 56) rfl ?_
      refine T_icmp_eq zk_155_56 (by omega) (by omega) (pc' := 59) rfl (fun h7 => ?_) (fun h8 => ?_)
      ·
        refine T_ld zk_155_66 rfl rfl rfl (pc' := 67) rfl ?_
        refine T_op zk_155_67 rfl X_ic (pc' := 68) rfl ?_
        refine T_icmp_ne zk_155_68 (by omega) (by omega) (pc' := 71) rfl (fun h9 => ?_) (fun h10 => ?_)
        · exfalso; omega
        ·
          refine T_ld zk_155_71 rfl rfl rfl (pc' := 72) rfl ?_
          refine T_op zk_155_72 rfl (X_bi (v := -7) (by decide)) (pc' := 74) rfl ?_
          refine T_calli (K := fun y11 σ' => (y11 = (-7)) ∧ (fun σ' => IF MLa σ σ' ∧ Eq (σ' 41 0 0) H ∧ σ' 36 0 0 640 = n ∧ Eo (σ' 44 0 0) (Int.toNat 5) (σ 44 0 0) ∧ Er (σ' 45 0 0) (Int.toNat 5) (σ 45 0 0) ∧ σ' 35 0 0 16 = y6 ∧ True) σ') (r := []) zk_155_74 rfl rfl rfl rfl rfl rfl (Or.inr ⟨_, _, _, _, rfl, vd_35, rfl⟩) (fun σ' h => (m_123 ((-7)) (by omega) σ' h.1.1 ).le (Nat.le_of_ble_eq_true rfl) (fun v σ2 ⟨y, h1, h2, h3, h4⟩ => ⟨y, h1, h2, h.1.tr h3 sb71_d492d80, gf_mk (fun z => Eq z H) (funext fun j => h3.2 _ _ _ _ (by first | exact nMT rfl | (unfold MT; omega))) (h.2.1), (h3.2 _ _ _ _ (by first | exact nMT rfl | (unfold MT; omega))).trans (h.2.2.1), gf_mk (fun z => Eo z (Int.toNat 5) (σ 44 0 0)) (funext fun j => h3.2 _ _ _ _ (by first | exact nMT rfl | (unfold MT; omega))) (h.2.2.2.1), gf_mk (fun z => Er z (Int.toNat 5) (σ 45 0 0)) (funext fun j => h3.2 _ _ _ _ (by first | exact nMT rfl | (unfold MT; omega))) (h.2.2.2.2.1), (h3.2 _ _ _ _ (by first | exact nMT rfl | (unfold MT; omega))).trans (h.2.2.2.2.2.1), trivial⟩)) (pc' := 77) rfl (fun y11 => ?_)
          refine G_ex (fun hy11 => ?_)
          obtain rfl : y11 = (-7) := by omega
          refine G_know (J' := (fun σ' => IF MLa σ σ' ∧ Eq (σ' 41 0 0) H ∧ σ' 36 0 0 640 = n ∧ Eo (σ' 44 0 0) (Int.toNat 5) (σ 44 0 0) ∧ Er (σ' 45 0 0) (Int.toNat 5) (σ 45 0 0) ∧ σ' 35 0 0 16 = y6 ∧ (WF σ') ∧ True)) (fun σ' h => ⟨h.1, h.2.1, h.2.2.1, h.2.2.2.1, h.2.2.2.2.1, h.2.2.2.2.2.1, WF_keep hI hW (k := 5) (by omega) (((h.2.2.1).trans sn.symm)) (h.2.2.2.1) (h.2.2.2.2.1), trivial⟩) ?_
          exact T_iret zk_155_77 rfl (fun σ' h => ⟨_, rfl, (by omega), h.1, ⟨h.2.2.2.2.2.2.1, (by have e := h.2.2.1; omega), (by have e := h.2.2.2.2.2.1; omega), trivial⟩⟩)
      ·
        refine T_ld zk_155_59 rfl rfl rfl (pc' := 60) rfl ?_
        refine T_op zk_155_60 rfl (X_bi (v := -6) (by decide)) (pc' := 62) rfl ?_
        refine T_calli (K := fun y12 σ' => (y12 = (-6)) ∧ (fun σ' => IF MLa σ σ' ∧ Eq (σ' 41 0 0) H ∧ σ' 36 0 0 640 = n ∧ Eo (σ' 44 0 0) (Int.toNat 5) (σ 44 0 0) ∧ Er (σ' 45 0 0) (Int.toNat 5) (σ 45 0 0) ∧ σ' 35 0 0 16 = y6 ∧ True) σ') (r := []) zk_155_62 rfl rfl rfl rfl rfl rfl (Or.inr ⟨_, _, _, _, rfl, vd_35, rfl⟩) (fun σ' h => (m_123 ((-6)) (by omega) σ' h.1.1 ).le (Nat.le_of_ble_eq_true rfl) (fun v σ2 ⟨y, h1, h2, h3, h4⟩ => ⟨y, h1, h2, h.1.tr h3 sb71_d492d80, gf_mk (fun z => Eq z H) (funext fun j => h3.2 _ _ _ _ (by first | exact nMT rfl | (unfold MT; omega))) (h.2.1), (h3.2 _ _ _ _ (by first | exact nMT rfl | (unfold MT; omega))).trans (h.2.2.1), gf_mk (fun z => Eo z (Int.toNat 5) (σ 44 0 0)) (funext fun j => h3.2 _ _ _ _ (by first | exact nMT rfl | (unfold MT; omega))) (h.2.2.2.1), gf_mk (fun z => Er z (Int.toNat 5) (σ 45 0 0)) (funext fun j => h3.2 _ _ _ _ (by first | exact nMT rfl | (unfold MT; omega))) (h.2.2.2.2.1), (h3.2 _ _ _ _ (by first | exact nMT rfl | (unfold MT; omega))).trans (h.2.2.2.2.2.1), trivial⟩)) (pc' := 65) rfl (fun y12 => ?_)
        refine G_ex (fun hy12 => ?_)
        obtain rfl : y12 = (-6) := by omega
        refine G_know (J' := (fun σ' => IF MLa σ σ' ∧ Eq (σ' 41 0 0) H ∧ σ' 36 0 0 640 = n ∧ Eo (σ' 44 0 0) (Int.toNat 5) (σ 44 0 0) ∧ Er (σ' 45 0 0) (Int.toNat 5) (σ 45 0 0) ∧ σ' 35 0 0 16 = y6 ∧ (WF σ') ∧ True)) (fun σ' h => ⟨h.1, h.2.1, h.2.2.1, h.2.2.2.1, h.2.2.2.2.1, h.2.2.2.2.2.1, WF_keep hI hW (k := 5) (by omega) (((h.2.2.1).trans sn.symm)) (h.2.2.2.1) (h.2.2.2.2.1), trivial⟩) ?_
        exact T_iret zk_155_65 rfl (fun σ' h => ⟨_, rfl, (by omega), h.1, ⟨h.2.2.2.2.2.2.1, (by have e := h.2.2.1; omega), (by have e := h.2.2.2.2.2.1; omega), trivial⟩⟩)
    ·
      refine T_ld zk_155_28 rfl rfl rfl (pc' := 29) rfl ?_
      refine T_getR (t' := 36) (i' := 0) (k' := 0) zk_155_29 rfl rfl rfl vd_35 (pc' := 32) rfl ?_
      refine T_op zk_155_32 rfl (X_si (v := 640) (by decide)) (pc' := 35) rfl ?_
      refine G_ialdX (w := n) (ln := 646) zk_155_35 rfl rfl (vd_36 (by omega)) (by omega) (by omega) (by omega) (fun σ' h => h.2.2.1) (pc' := 36) rfl ?_
      refine T_goto zk_155_36 ?_
      refine T_st (L' := [(0, av 35 0 0), (1, iv p0), (2, iv y1), (3, iv n)]) zk_155_40 (nL := 4) rfl rfl rfl rfl rfl (pc' := 41) rfl ?_
      refine T_ld zk_155_41 rfl rfl rfl (pc' := 42) rfl ?_
      refine T_ld zk_155_42 rfl rfl rfl (pc' := 43) rfl ?_
      refine T_ld zk_155_43 rfl rfl rfl (pc' := 44) rfl ?_
      refine T_ld zk_155_44 rfl rfl rfl (pc' := 45) rfl ?_
      refine T_calli (K := fun y13 σ' => (y13 = LAWF (LC H (96 * (p0))) u2 ∧ -1 ≤ y13 ∧ y13 ≤ 96) ∧ (fun σ' => IF MLa σ σ' ∧ Eq (σ' 41 0 0) H ∧ σ' 36 0 0 640 = n ∧ σ' 35 0 0 16 = w ∧ Eo (σ' 44 0 0) (Int.toNat n) (σ 44 0 0) ∧ Er (σ' 45 0 0) (Int.toNat n) (σ 45 0 0) ∧ (y13 = -1 → okc (σ' 45 0 0) (Int.toNat (120 * n)) (Int.toNat (σ' 44 0 0 (Int.toNat n)))) ∧ True) σ') (r := [av 35 0 0]) zk_155_45 rfl rfl rfl rfl rfl rfl (Or.inr ⟨_, _, _, _, rfl, vd_35, rfl⟩) (fun σ' h => (k_154f p0 n u2 ((σ 44 0 0)) ((σ 45 0 0)) H (by omega) (by omega) (by omega) σ' h.1.1 (h.2.2.2.2.1) (h.2.2.2.2.2.1) (h.2.1) ((h.1.2 _ _ _ _ (by first | exact nMLa rfl | (unfold MLa; omega))).trans s2)).le (Nat.le_of_ble_eq_true rfl) (fun v σ2 ⟨y, h1, h2, h3, h4⟩ => ⟨y, h1, h2, h.1.tr h3 (fun t i k j h => by unfold MCo at h; unfold MLa; omega), gf_mk (fun z => Eq z H) (funext fun j => h3.2 _ _ _ _ (by first | exact nMCo rfl | (unfold MCo; omega))) (h.2.1), (h3.2 _ _ _ _ (by first | exact nMCo rfl | (unfold MCo; omega))).trans (h.2.2.1), (h3.2 _ _ _ _ (by first | exact nMCo rfl | (unfold MCo; omega))).trans (h.2.2.2.1), h4.1, h4.2.1, h4.2.2.1, trivial⟩)) (pc' := 48) rfl (fun y13 => ?_)
      refine G_ex (fun hy13 => ?_)
      refine G_learn (t := 44) (i := 0) (k := 0) (j := Int.toNat n) (lo := 0) (hi := 120) (J2 := fun y14 => (fun σ' => IF MLa σ σ' ∧ Eq (σ' 41 0 0) H ∧ σ' 36 0 0 640 = n ∧ σ' 35 0 0 16 = w ∧ Eo (σ' 44 0 0) (Int.toNat n) (σ 44 0 0) ∧ Er (σ' 45 0 0) (Int.toNat n) (σ 45 0 0) ∧ (y13 = -1 → okc (σ' 45 0 0) (Int.toNat (120 * n)) (Int.toNat (σ' 44 0 0 (Int.toNat n)))) ∧ σ' 44 0 0 (Int.toNat n) = y14 ∧ True)) vd_44 (fun σ' h => h.1.1) (fun _ h => h.2 (by omega) (by omega)) (fun σ' y h hy => ⟨h.1, h.2.1, h.2.2.1, h.2.2.2.1, h.2.2.2.2.1, h.2.2.2.2.2.1, h.2.2.2.2.2.2.1, hy, trivial⟩) (fun y14 hy14 hy14' => ?_)
      refine G_know (J' := (fun σ' => IF MLa σ σ' ∧ Eq (σ' 41 0 0) H ∧ σ' 36 0 0 640 = n ∧ σ' 35 0 0 16 = w ∧ Eo (σ' 44 0 0) (Int.toNat n) (σ 44 0 0) ∧ Er (σ' 45 0 0) (Int.toNat n) (σ 45 0 0) ∧ (y13 = -1 → okc (σ' 45 0 0) (Int.toNat (120 * n)) (Int.toNat (σ' 44 0 0 (Int.toNat n)))) ∧ σ' 44 0 0 (Int.toNat n) = y14 ∧ okcI (σ' 45 0 0) (Int.toNat (120 * n)) (Int.toNat y14) (y13 = -1) ∧ True)) (fun σ' h => ⟨h.1, h.2.1, h.2.2.1, h.2.2.2.1, h.2.2.2.2.1, h.2.2.2.2.2.1, h.2.2.2.2.2.2.1, h.2.2.2.2.2.2.2.1, (fun q => by have e := (h.2.2.2.2.2.2.1) q; rw [h.2.2.2.2.2.2.2.1] at e; exact e), trivial⟩) ?_
      refine T_putf (J' := (fun σ' => IF MLa σ σ' ∧ Eq (σ' 41 0 0) H ∧ σ' 36 0 0 640 = n ∧ Eo (σ' 44 0 0) (Int.toNat n) (σ 44 0 0) ∧ Er (σ' 45 0 0) (Int.toNat n) (σ 45 0 0) ∧ σ' 44 0 0 (Int.toNat n) = y14 ∧ okcI (σ' 45 0 0) (Int.toNat (120 * n)) (Int.toNat y14) (y13 = -1) ∧ σ' 35 0 0 16 = y13 ∧ True)) zk_155_48 rfl rfl vd_35 (fun σ' h => ⟨h.1.up (by simp only [rgP] <;> omega) (by first | exact pMLa rfl | (unfold MLa; omega)), gf_mk (fun z => Eq z H) (up_row (by omega)) (h.2.1), (up_ne (by omega)).trans (h.2.2.1), gf_mk (fun z => Eo z (Int.toNat n) (σ 44 0 0)) (up_row (by omega)) (h.2.2.2.2.1), gf_mk (fun z => Er z (Int.toNat n) (σ 45 0 0)) (up_row (by omega)) (h.2.2.2.2.2.1), (up_ne (by omega)).trans (h.2.2.2.2.2.2.2.1), gf_mk (fun z => okcI z (Int.toNat (120 * n)) (Int.toNat y14) (y13 = -1)) (up_row (by omega)) (h.2.2.2.2.2.2.2.2.1), up_eq, trivial⟩) (pc' := 51) rfl ?_
      refine T_ld zk_155_51 rfl rfl rfl (pc' := 52) rfl ?_
      refine G_getX (w := y13) zk_155_52 rfl vd_35 (fun σ' h => h.2.2.2.2.2.2.2.1) (pc' := 55) rfl ?_
      refine T_op zk_155_55 rfl X_ic (pc' := 56) rfl ?_
      refine T_icmp_eq zk_155_56 (by omega) (by omega) (pc' := 59) rfl (fun h15 => ?_) (fun h16 => ?_)
      ·
        refine T_ld zk_155_66 rfl rfl rfl (pc' := 67) rfl ?_
        refine T_op zk_155_67 rfl X_ic (pc' := 68) rfl ?_
        refine T_icmp_ne zk_155_68 (by omega) (by omega) (pc' := 71) rfl (fun h17 => ?_) (fun h18 => ?_)
        ·
          refine T_ld zk_155_78 rfl rfl rfl (pc' := 79) rfl ?_
          refine T_getR (t' := 36) (i' := 0) (k' := 0) zk_155_79 rfl rfl rfl vd_35 (pc' := 82) rfl ?_
          refine T_op zk_155_82 rfl (X_si (v := 628) (by decide)) (pc' := 85) rfl ?_
          refine T_ld zk_155_85 rfl rfl rfl (pc' := 86) rfl ?_
          refine T_op zk_155_86 rfl X_add (pc' := 87) rfl ?_
          refine T_op zk_155_87 rfl X_ic (pc' := 88) rfl ?_
          refine G_iast (J' := (fun σ' => IF MLa σ σ' ∧ Eq (σ' 41 0 0) H ∧ σ' 36 0 0 640 = n ∧ Eo (σ' 44 0 0) (Int.toNat n) (σ 44 0 0) ∧ Er (σ' 45 0 0) (Int.toNat n) (σ 45 0 0) ∧ σ' 44 0 0 (Int.toNat n) = y14 ∧ okcI (σ' 45 0 0) (Int.toNat (120 * n)) (Int.toNat y14) (y13 = -1) ∧ σ' 35 0 0 16 = y13 ∧ σ' 36 0 0 (Int.toNat (628 + n)) = 1 ∧ True)) (ln := 646) zk_155_88 rfl rfl (vd_36 (by omega)) (by omega) (by omega) (by omega) (fun σ' h => ⟨h.1.up (by simp only [rgP] <;> omega) (by first | exact pMLa rfl | (unfold MLa; omega)), gf_mk (fun z => Eq z H) (up_row (by omega)) (h.2.1), (up_ne (by omega)).trans (h.2.2.1), gf_mk (fun z => Eo z (Int.toNat n) (σ 44 0 0)) (up_row (by omega)) (h.2.2.2.1), gf_mk (fun z => Er z (Int.toNat n) (σ 45 0 0)) (up_row (by omega)) (h.2.2.2.2.1), (up_ne (by omega)).trans (h.2.2.2.2.2.1), gf_mk (fun z => okcI z (Int.toNat (120 * n)) (Int.toNat y14) (y13 = -1)) (up_row (by omega)) (h.2.2.2.2.2.2.1), (up_ne (by omega)).trans (h.2.2.2.2.2.2.2.1), up_eq, trivial⟩) (pc' := 89) rfl ?_
          refine T_ld zk_155_89 rfl rfl rfl (pc' := 90) rfl ?_
          refine T_getR (t' := 36) (i' := 0) (k' := 0) zk_155_90 rfl rfl rfl vd_35 (pc' := 93) rfl ?_
          refine T_op zk_155_93 rfl (X_si (v := 640) (by decide)) (pc' := 96) rfl ?_
          refine T_op (st' := [iv 640, av 36 0 0, iv 640, av 36 0 0]) zk_155_96 rfl rfl (pc' := 97) rfl ?_
          refine G_ialdX (w := n) (ln := 646) zk_155_97 rfl rfl (vd_36 (by omega)) (by omega) (by omega) (by omega) (fun σ' h => h.2.2.1) (pc' := 98) rfl ?_
          refine T_op (st' := [iv n, iv 640, av 36 0 0, iv n]) zk_155_98 rfl rfl (pc' := 99) rfl ?_
          refine T_op zk_155_99 rfl X_ic (pc' := 100) rfl ?_
          refine T_op zk_155_100 rfl X_add (pc' := 101) rfl ?_
          refine G_iast (J' := (fun σ' => IF MLa σ σ' ∧ Eq (σ' 41 0 0) H ∧ Eo (σ' 44 0 0) (Int.toNat n) (σ 44 0 0) ∧ Er (σ' 45 0 0) (Int.toNat n) (σ 45 0 0) ∧ σ' 44 0 0 (Int.toNat n) = y14 ∧ okcI (σ' 45 0 0) (Int.toNat (120 * n)) (Int.toNat y14) (y13 = -1) ∧ σ' 35 0 0 16 = y13 ∧ σ' 36 0 0 640 = n + 1 ∧ True)) (ln := 646) zk_155_101 rfl rfl (vd_36 (by omega)) (by omega) (by omega) (by omega) (fun σ' h => ⟨h.1.up (by simp only [rgP] <;> omega) (by first | exact pMLa rfl | (unfold MLa; omega)), gf_mk (fun z => Eq z H) (up_row (by omega)) (h.2.1), gf_mk (fun z => Eo z (Int.toNat n) (σ 44 0 0)) (up_row (by omega)) (h.2.2.2.1), gf_mk (fun z => Er z (Int.toNat n) (σ 45 0 0)) (up_row (by omega)) (h.2.2.2.2.1), (up_ne (by omega)).trans (h.2.2.2.2.2.1), gf_mk (fun z => okcI z (Int.toNat (120 * n)) (Int.toNat y14) (y13 = -1)) (up_row (by omega)) (h.2.2.2.2.2.2.1), (up_ne (by omega)).trans (h.2.2.2.2.2.2.2.1), up_eq, trivial⟩) (pc' := 102) rfl ?_
          refine G_know (J' := (fun σ' => IF MLa σ σ' ∧ Eq (σ' 41 0 0) H ∧ Eo (σ' 44 0 0) (Int.toNat n) (σ 44 0 0) ∧ Er (σ' 45 0 0) (Int.toNat n) (σ 45 0 0) ∧ σ' 44 0 0 (Int.toNat n) = y14 ∧ okcI (σ' 45 0 0) (Int.toNat (120 * n)) (Int.toNat y14) (y13 = -1) ∧ σ' 35 0 0 16 = y13 ∧ σ' 36 0 0 640 = n + 1 ∧ (WF σ') ∧ True)) (fun σ' h => ⟨h.1, h.2.1, h.2.2.1, h.2.2.2.1, h.2.2.2.2.1, h.2.2.2.2.2.1, h.2.2.2.2.2.2.1, h.2.2.2.2.2.2.2.1, WF_new hI hW (k := n) sn (h.2.2.2.2.2.2.2.1) (h.2.2.1) (h.2.2.2.1) (by rw [h.2.2.2.2.1]; exact (h.2.2.2.2.2.1) (by omega)), trivial⟩) ?_
          exact T_iret zk_155_102 rfl (fun σ' h => ⟨_, rfl, (by omega), h.1, ⟨h.2.2.2.2.2.2.2.2.1, (by have e := h.2.2.2.2.2.2.2.1; omega), (by have e := h.2.2.2.2.2.2.1; omega), trivial⟩⟩)
        · exfalso; omega
      ·
        refine T_ld zk_155_59 rfl rfl rfl (pc' := 60) rfl ?_
        refine T_op zk_155_60 rfl (X_bi (v := -6) (by decide)) (pc' := 62) rfl ?_
        refine T_calli (K := fun y19 σ' => (y19 = (-6)) ∧ (fun σ' => IF MLa σ σ' ∧ Eq (σ' 41 0 0) H ∧ σ' 36 0 0 640 = n ∧ Eo (σ' 44 0 0) (Int.toNat n) (σ 44 0 0) ∧ Er (σ' 45 0 0) (Int.toNat n) (σ 45 0 0) ∧ σ' 44 0 0 (Int.toNat n) = y14 ∧ okcI (σ' 45 0 0) (Int.toNat (120 * n)) (Int.toNat y14) (y13 = -1) ∧ σ' 35 0 0 16 = y13 ∧ True) σ') (r := []) zk_155_62 rfl rfl rfl rfl rfl rfl (Or.inr ⟨_, _, _, _, rfl, vd_35, rfl⟩) (fun σ' h => (m_123 ((-6)) (by omega) σ' h.1.1 ).le (Nat.le_of_ble_eq_true rfl) (fun v σ2 ⟨y, h1, h2, h3, h4⟩ => ⟨y, h1, h2, h.1.tr h3 sb71_d492d80, gf_mk (fun z => Eq z H) (funext fun j => h3.2 _ _ _ _ (by first | exact nMT rfl | (unfold MT; omega))) (h.2.1), (h3.2 _ _ _ _ (by first | exact nMT rfl | (unfold MT; omega))).trans (h.2.2.1), gf_mk (fun z => Eo z (Int.toNat n) (σ 44 0 0)) (funext fun j => h3.2 _ _ _ _ (by first | exact nMT rfl | (unfold MT; omega))) (h.2.2.2.1), gf_mk (fun z => Er z (Int.toNat n) (σ 45 0 0)) (funext fun j => h3.2 _ _ _ _ (by first | exact nMT rfl | (unfold MT; omega))) (h.2.2.2.2.1), (h3.2 _ _ _ _ (by first | exact nMT rfl | (unfold MT; omega))).trans (h.2.2.2.2.2.1), gf_mk (fun z => okcI z (Int.toNat (120 * n)) (Int.toNat y14) (y13 = -1)) (funext fun j => h3.2 _ _ _ _ (by first | exact nMT rfl | (unfold MT; omega))) (h.2.2.2.2.2.2.1), (h3.2 _ _ _ _ (by first | exact nMT rfl | (unfold MT; omega))).trans (h.2.2.2.2.2.2.2.1), trivial⟩)) (pc' := 65) rfl (fun y19 => ?_)
        refine G_ex (fun hy19 => ?_)
        obtain rfl : y19 = (-6) := by omega
        refine G_know (J' := (fun σ' => IF MLa σ σ' ∧ Eq (σ' 41 0 0) H ∧ σ' 36 0 0 640 = n ∧ Eo (σ' 44 0 0) (Int.toNat n) (σ 44 0 0) ∧ Er (σ' 45 0 0) (Int.toNat n) (σ 45 0 0) ∧ σ' 44 0 0 (Int.toNat n) = y14 ∧ okcI (σ' 45 0 0) (Int.toNat (120 * n)) (Int.toNat y14) (y13 = -1) ∧ σ' 35 0 0 16 = y13 ∧ (WF σ') ∧ True)) (fun σ' h => ⟨h.1, h.2.1, h.2.2.1, h.2.2.2.1, h.2.2.2.2.1, h.2.2.2.2.2.1, h.2.2.2.2.2.2.1, h.2.2.2.2.2.2.2.1, WF_keep hI hW (k := n) (by omega) (((h.2.2.1).trans sn.symm)) (h.2.2.2.1) (h.2.2.2.2.1), trivial⟩) ?_
        exact T_iret zk_155_65 rfl (fun σ' h => ⟨_, rfl, (by omega), h.1, ⟨h.2.2.2.2.2.2.2.2.1, (by have e := h.2.2.1; omega), (by have e := h.2.2.2.2.2.2.2.1; omega), trivial⟩⟩)
  ·
    refine T_ld zk_155_10 rfl rfl rfl (pc' := 11) rfl ?_
    refine T_ld zk_155_11 rfl rfl rfl (pc' := 12) rfl ?_
    refine T_calli (K := fun y20 σ' => (y20 = y1) ∧ (fun σ' => IF MLa σ σ' ∧ Eq (σ' 41 0 0) H ∧ σ' 36 0 0 640 = n ∧ σ' 35 0 0 16 = w ∧ Eq (σ' 44 0 0) (σ 44 0 0) ∧ Eq (σ' 45 0 0) (σ 45 0 0) ∧ True) σ') (r := []) zk_155_12 rfl rfl rfl rfl rfl rfl (Or.inr ⟨_, _, _, _, rfl, vd_35, rfl⟩) (fun σ' h => (m_123 y1 (by omega) σ' h.1.1 ).le (Nat.le_of_ble_eq_true rfl) (fun v σ2 ⟨y, h1, h2, h3, h4⟩ => ⟨y, h1, h2, h.1.tr h3 sb71_d492d80, gf_mk (fun z => Eq z H) (funext fun j => h3.2 _ _ _ _ (by first | exact nMT rfl | (unfold MT; omega))) (h.2.1), (h3.2 _ _ _ _ (by first | exact nMT rfl | (unfold MT; omega))).trans (h.2.2.1), (h3.2 _ _ _ _ (by first | exact nMT rfl | (unfold MT; omega))).trans (h.2.2.2.1), gf_mk (fun z => Eq z (σ 44 0 0)) (funext fun j => h3.2 _ _ _ _ (by first | exact nMT rfl | (unfold MT; omega))) (h.2.2.2.2.1), gf_mk (fun z => Eq z (σ 45 0 0)) (funext fun j => h3.2 _ _ _ _ (by first | exact nMT rfl | (unfold MT; omega))) (h.2.2.2.2.2.1), trivial⟩)) (pc' := 15) rfl (fun y20 => ?_)
    refine G_ex (fun hy20 => ?_)
    obtain rfl : y20 = y1 := by omega
    refine G_know (J' := (fun σ' => IF MLa σ σ' ∧ Eq (σ' 41 0 0) H ∧ σ' 36 0 0 640 = n ∧ σ' 35 0 0 16 = w ∧ Eq (σ' 44 0 0) (σ 44 0 0) ∧ Eq (σ' 45 0 0) (σ 45 0 0) ∧ (WF σ') ∧ True)) (fun σ' h => ⟨h.1, h.2.1, h.2.2.1, h.2.2.2.1, h.2.2.2.2.1, h.2.2.2.2.2.1, hW.fr (fun j => congrFun (h.2.2.2.2.1) j) (fun j => congrFun (h.2.2.2.2.2.1) j) (((h.2.2.1).trans sn.symm)), trivial⟩) ?_
    exact T_iret zk_155_15 rfl (fun σ' h => ⟨_, rfl, (by omega), h.1, ⟨h.2.2.2.2.2.2.1, (by have e := h.2.2.1; omega), (by have e := h.2.2.2.1; omega), trivial⟩⟩)
/-- WModel.law -/
theorem r_155o {xs : Nat × (Nat → Int32)} (p0 : Int) (hp0 : -2147483648 ≤ p0 ∧ p0 ≤ 2147483647) (ho : p0 < 0 ∨ 7 < p0) (σ : ZS) (hI : Inv σ)   : CT xs 3 155 [av 35 0 0, iv p0] σ (fun v σ' => ∃ y, v = some (iv y) ∧ (y = -1) ∧ IF (MT 49 49 49 49) σ σ' ∧ (True)) := by
  refine G_ct (J := (fun σ' => IF (MT 49 49 49 49) σ σ' ∧ True)) (L := [(0, av 35 0 0), (1, iv p0)]) (nL := 4) rfl rfl rfl ⟨IF.rf hI, trivial⟩ ?_
  refine T_ld zk_155_0 rfl rfl rfl (pc' := 1) rfl ?_
  refine T_ld zk_155_1 rfl rfl rfl (pc' := 2) rfl ?_
  refine T_calli (K := fun y1 σ' => ((y1 = -1 ∧ (p0 < 0 ∨ 7 < p0)) ∨ ((y1 = -3 ∨ y1 = -2 ∨ y1 = 0) ∧ 0 ≤ p0 ∧ p0 ≤ 7)) ∧ (fun σ' => IF (MT 49 49 49 49) σ σ' ∧ True) σ') (r := []) zk_155_2 rfl rfl rfl rfl rfl rfl (Or.inr ⟨_, _, _, _, rfl, vd_35, rfl⟩) (fun σ' h => (m_143 p0 (by omega) σ' h.1.1 ).le (Nat.le_of_ble_eq_true rfl) (fun v σ2 ⟨y, h1, h2, h3, h4⟩ => ⟨y, h1, h2, h.1.tr h3 MN_sub, trivial⟩)) (pc' := 5) rfl (fun y1 => ?_)
  refine G_ex (fun hy1 => ?_)
  refine T_st (L' := [(0, av 35 0 0), (1, iv p0), (2, iv y1)]) zk_155_5 (nL := 4) rfl rfl rfl rfl rfl (pc' := 6) rfl ?_
  refine T_ld zk_155_6 rfl rfl rfl (pc' := 7) rfl ?_
  refine T_if_eq zk_155_7 (by omega) (pc' := 10) rfl (fun h2 => ?_) (fun h3 => ?_)
  · exfalso; omega
  ·
    refine T_ld zk_155_10 rfl rfl rfl (pc' := 11) rfl ?_
    refine T_ld zk_155_11 rfl rfl rfl (pc' := 12) rfl ?_
    refine T_calli (K := fun y4 σ' => (y4 = y1) ∧ (fun σ' => IF (MT 49 49 49 49) σ σ' ∧ True) σ') (r := []) zk_155_12 rfl rfl rfl rfl rfl rfl (Or.inr ⟨_, _, _, _, rfl, vd_35, rfl⟩) (fun σ' h => (m_123 y1 (by omega) σ' h.1.1 ).le (Nat.le_of_ble_eq_true rfl) (fun v σ2 ⟨y, h1, h2, h3, h4⟩ => ⟨y, h1, h2, h.1.tr h3 (fun _ _ _ _ h => h), trivial⟩)) (pc' := 15) rfl (fun y4 => ?_)
    refine G_ex (fun hy4 => ?_)
    obtain rfl : y4 = y1 := by omega
    exact T_iret zk_155_15 rfl (fun σ' h => ⟨_, rfl, (by omega), h.1, trivial⟩)
/-- W.fault -/
theorem s_94 {xs : Nat × (Nat → Int32)}  (w : Int) (hw : -2147483648 ≤ w ∧ w ≤ 2147483647) (σ : ZS) (hI : Inv σ)  (s1 : σ 0 0 0 7 = w) : CT xs 1 94 [av 0 0 0] σ (fun v σ' => ∃ y, v = some (iv y) ∧ (y = w) ∧ IF MN σ σ' ∧ (True)) := by
  refine G_ct (J := (fun σ' => IF MN σ σ' ∧ True)) (L := [(0, av 0 0 0)]) (nL := 1) rfl rfl rfl ⟨IF.rf hI, trivial⟩ ?_
  refine T_ld zk_94_0 rfl rfl rfl (pc' := 1) rfl ?_
  refine G_getX (w := w) zk_94_1 rfl vd_0 (fun σ' h => (h.1.2 _ _ _ _ (fun q => q)).trans s1) (pc' := 4) rfl ?_
  exact T_iret zk_94_4 rfl (fun σ' h => ⟨_, rfl, (by omega), h.1, trivial⟩)
/-- WModel.fault -/
theorem r_156 {xs : Nat × (Nat → Int32)}  (w : Int) (hw : -2147483648 ≤ w ∧ w ≤ 2147483647) (σ : ZS) (hI : Inv σ)  (s1 : σ 35 0 0 16 = w) : CT xs 1 156 [av 35 0 0] σ (fun v σ' => ∃ y, v = some (iv y) ∧ (y = w) ∧ IF MN σ σ' ∧ (True)) := by
  refine G_ct (J := (fun σ' => IF MN σ σ' ∧ True)) (L := [(0, av 35 0 0)]) (nL := 1) rfl rfl rfl ⟨IF.rf hI, trivial⟩ ?_
  refine T_ld zk_156_0 rfl rfl rfl (pc' := 1) rfl ?_
  refine G_getX (w := w) zk_156_1 rfl vd_35 (fun σ' h => (h.1.2 _ _ _ _ (fun q => q)).trans s1) (pc' := 4) rfl ?_
  exact T_iret zk_156_4 rfl (fun σ' h => ⟨_, rfl, (by omega), h.1, trivial⟩)
/-- W$City.takeCity -/
theorem s_22l_1 {xs : Nat × (Nat → Int32)}  (a6 : Int) (a7 : Int) (a10 : Int) (a11 : Int) (a12 : Int) (a13 : Int) (a5 : Int) (ha6 : 0 ≤ a6 ∧ a6 ≤ 12) (ha7 : 0 ≤ a7 ∧ a7 ≤ 6) (ha10 : 0 ≤ a10 ∧ a10 ≤ 99) (ha11 : 1 ≤ a11 ∧ a11 ≤ 9) (ha12 : 0 ≤ a12 ∧ a12 ≤ 9999) (ha13 : -2147483648 ≤ a13 ∧ a13 ≤ 2147483647) (ha5 : 0 ≤ a5 ∧ a5 ≤ 5) (σ : ZS) (hI : Inv σ)  (s0 : σ 1 0 0 5 = a5) (s1 : σ 1 0 0 6 = a6) (s2 : σ 1 0 0 7 = a7) (s3 : σ 1 0 0 10 = a10) (s4 : σ 1 0 0 11 = a11) (s5 : σ 1 0 0 12 = a12) (s6 : σ 1 0 0 13 = a13) : CT xs 3 22 [av 1 1 0, av 1 0 0] σ (fun v σ' => v = none ∧ IF (MY 1) σ σ' ∧ (σ' 1 1 0 5 = a5 ∧ σ' 1 1 0 6 = a6 ∧ σ' 1 1 0 7 = a7 ∧ σ' 1 1 0 10 = a10 ∧ σ' 1 1 0 11 = a11 ∧ σ' 1 1 0 12 = a12 ∧ σ' 1 1 0 13 = a13 ∧ True)) := by
  refine G_ct (J := (fun σ' => IF (MY 1) σ σ' ∧ True)) (L := [(0, av 1 1 0), (1, av 1 0 0)]) (nL := 3) rfl rfl rfl ⟨IF.rf hI, trivial⟩ ?_
  refine T_ld zk_22_0 rfl rfl rfl (pc' := 1) rfl ?_
  refine T_getR (t' := 2) (i' := 1) (k' := 0) zk_22_1 rfl rfl rfl (vd_1 (by omega)) (pc' := 4) rfl ?_
  refine T_ld zk_22_4 rfl rfl rfl (pc' := 5) rfl ?_
  refine T_getR (t' := 2) (i' := 0) (k' := 0) zk_22_5 rfl rfl rfl (vd_1 (by omega)) (pc' := 8) rfl ?_
  refine T_callv (J' := (fun σ' => IF (MY 1) σ σ' ∧ True)) (r := []) zk_22_8 rfl rfl rfl rfl rfl rfl (Or.inr ⟨_, _, _, _, rfl, (vd_2 (by omega)), rfl⟩) (fun σ' h => (w_39 1 0 (by omega) (by omega) σ' h.1.1 ).le (Nat.le_of_ble_eq_true rfl) (fun v σ2 ⟨h1, h3, h4⟩ => ⟨h1, h.1.tr h3 sb72_644d648, trivial⟩)) (pc' := 11) rfl ?_
  refine T_ld zk_22_11 rfl rfl rfl (pc' := 12) rfl ?_
  refine T_getR (t' := 11) (i' := 1) (k' := 0) zk_22_12 rfl rfl rfl (vd_1 (by omega)) (pc' := 15) rfl ?_
  refine T_ld zk_22_15 rfl rfl rfl (pc' := 16) rfl ?_
  refine T_getR (t' := 11) (i' := 0) (k' := 0) zk_22_16 rfl rfl rfl (vd_1 (by omega)) (pc' := 19) rfl ?_
  refine T_callv (J' := (fun σ' => IF (MY 1) σ σ' ∧ True)) (r := []) zk_22_19 rfl rfl rfl rfl rfl rfl (Or.inr ⟨_, _, _, _, rfl, (vd_11 (by omega)), rfl⟩) (fun σ' h => (w_64 1 0 (by omega) (by omega) σ' h.1.1 ).le (Nat.le_of_ble_eq_true rfl) (fun v σ2 ⟨h1, h3, h4⟩ => ⟨h1, h.1.tr h3 sb72_93ede0b, trivial⟩)) (pc' := 22) rfl ?_
  refine T_ld zk_22_22 rfl rfl rfl (pc' := 23) rfl ?_
  refine T_getR (t' := 17) (i' := 1) (k' := 0) zk_22_23 rfl rfl rfl (vd_1 (by omega)) (pc' := 26) rfl ?_
  refine T_ld zk_22_26 rfl rfl rfl (pc' := 27) rfl ?_
  refine T_getR (t' := 17) (i' := 0) (k' := 0) zk_22_27 rfl rfl rfl (vd_1 (by omega)) (pc' := 30) rfl ?_
  refine T_callv (J' := (fun σ' => IF (MY 1) σ σ' ∧ True)) (r := []) zk_22_30 rfl rfl rfl rfl rfl rfl (Or.inr ⟨_, _, _, _, rfl, (vd_17 (by omega) (by omega)), rfl⟩) (fun σ' h => (w_72 1 0 0 (by omega) (by omega) (by omega) σ' h.1.1 ).le (Nat.le_of_ble_eq_true rfl) (fun v σ2 ⟨h1, h3, h4⟩ => ⟨h1, h.1.tr h3 sb72_5e083c8, trivial⟩)) (pc' := 33) rfl ?_
  refine T_ld zk_22_33 rfl rfl rfl (pc' := 34) rfl ?_
  refine T_getR (t' := 17) (i' := 1) (k' := 1) zk_22_34 rfl rfl rfl (vd_1 (by omega)) (pc' := 37) rfl ?_
  refine T_ld zk_22_37 rfl rfl rfl (pc' := 38) rfl ?_
  refine T_getR (t' := 17) (i' := 0) (k' := 1) zk_22_38 rfl rfl rfl (vd_1 (by omega)) (pc' := 41) rfl ?_
  refine T_callv (J' := (fun σ' => IF (MY 1) σ σ' ∧ True)) (r := []) zk_22_41 rfl rfl rfl rfl rfl rfl (Or.inr ⟨_, _, _, _, rfl, (vd_17 (by omega) (by omega)), rfl⟩) (fun σ' h => (w_72 1 1 0 (by omega) (by omega) (by omega) σ' h.1.1 ).le (Nat.le_of_ble_eq_true rfl) (fun v σ2 ⟨h1, h3, h4⟩ => ⟨h1, h.1.tr h3 sb72_72ea14c, trivial⟩)) (pc' := 44) rfl ?_
  refine T_ld zk_22_44 rfl rfl rfl (pc' := 45) rfl ?_
  refine T_ld zk_22_45 rfl rfl rfl (pc' := 46) rfl ?_
  refine G_getX (w := a5) zk_22_46 rfl (vd_1 (by omega)) (fun σ' h => (h.1.2 _ _ _ _ (by first | exact nMY rfl | (unfold MY; omega))).trans s0) (pc' := 49) rfl ?_
  refine T_putf (J' := (fun σ' => IF (MY 1) σ σ' ∧ σ' 1 1 0 5 = a5 ∧ True)) zk_22_49 rfl rfl (vd_1 (by omega)) (fun σ' h => ⟨h.1.up (by simp only [rgP] <;> omega) (by unfold MY; omega), up_eq, trivial⟩) (pc' := 52) rfl ?_
  refine T_op zk_22_52 rfl X_ic (pc' := 53) rfl ?_
  refine T_st (L' := [(0, av 1 1 0), (1, av 1 0 0), (2, iv 0)]) zk_22_53 (nL := 3) rfl rfl rfl rfl rfl (pc' := 54) rfl ?_
  refine T_loop1 (fun x5 => ((5 - x5 : Int)).toNat) (fun x5 => (0 ≤ x5 ∧ x5 ≤ 5)) (fun x5 => TJ xs (fun σ' => IF (MY 1) σ σ' ∧ σ' 1 1 0 5 = a5 ∧ True) 2 22 54 [(0, av 1 1 0), (1, av 1 0 0), (2, iv x5)] [] _) ?_ 0 (by omega)
  intro x5 hp7 ih6
  refine T_ld zk_22_54 rfl rfl rfl (pc' := 55) rfl ?_
  refine T_ld zk_22_55 rfl rfl rfl (pc' := 56) rfl ?_
  refine G_getX (w := a5) zk_22_56 rfl (vd_1 (by omega)) (fun σ' h => h.2.1) (pc' := 59) rfl ?_
  refine T_icmp_ge zk_22_59 (by omega) (by omega) (pc' := 62) rfl (fun h8 => ?_) (fun h9 => ?_)
  ·
    refine T_ld zk_22_83 rfl rfl rfl (pc' := 84) rfl ?_
    refine T_ld zk_22_84 rfl rfl rfl (pc' := 85) rfl ?_
    refine G_getX (w := a6) zk_22_85 rfl (vd_1 (by omega)) (fun σ' h => (h.1.2 _ _ _ _ (by first | exact nMY rfl | (unfold MY; omega))).trans s1) (pc' := 88) rfl ?_
    refine T_putf (J' := (fun σ' => IF (MY 1) σ σ' ∧ σ' 1 1 0 5 = a5 ∧ σ' 1 1 0 6 = a6 ∧ True)) zk_22_88 rfl rfl (vd_1 (by omega)) (fun σ' h => ⟨h.1.up (by simp only [rgP] <;> omega) (by unfold MY; omega), (up_ne (by omega)).trans (h.2.1), up_eq, trivial⟩) (pc' := 91) rfl ?_
    refine T_op zk_22_91 rfl X_ic (pc' := 92) rfl ?_
    refine T_st (L' := [(0, av 1 1 0), (1, av 1 0 0), (2, iv 0)]) zk_22_92 (nL := 3) rfl rfl rfl rfl rfl (pc' := 93) rfl ?_
    refine T_loop1 (fun x10 => ((12 - x10 : Int)).toNat) (fun x10 => (0 ≤ x10 ∧ x10 ≤ 12)) (fun x10 => TJ xs (fun σ' => IF (MY 1) σ σ' ∧ σ' 1 1 0 5 = a5 ∧ σ' 1 1 0 6 = a6 ∧ True) 2 22 93 [(0, av 1 1 0), (1, av 1 0 0), (2, iv x10)] [] _) ?_ 0 (by omega)
    intro x10 hp12 ih11
    refine T_ld zk_22_93 rfl rfl rfl (pc' := 94) rfl ?_
    refine T_ld zk_22_94 rfl rfl rfl (pc' := 95) rfl ?_
    refine G_getX (w := a6) zk_22_95 rfl (vd_1 (by omega)) (fun σ' h => h.2.2.1) (pc' := 98) rfl ?_
    refine T_icmp_ge zk_22_98 (by omega) (by omega) (pc' := 101) rfl (fun h13 => ?_) (fun h14 => ?_)
    ·
      refine T_ld zk_22_122 rfl rfl rfl (pc' := 123) rfl ?_
      refine T_ld zk_22_123 rfl rfl rfl (pc' := 124) rfl ?_
      refine G_getX (w := a7) zk_22_124 rfl (vd_1 (by omega)) (fun σ' h => (h.1.2 _ _ _ _ (by first | exact nMY rfl | (unfold MY; omega))).trans s2) (pc' := 127) rfl ?_
      refine T_putf (J' := (fun σ' => IF (MY 1) σ σ' ∧ σ' 1 1 0 5 = a5 ∧ σ' 1 1 0 6 = a6 ∧ σ' 1 1 0 7 = a7 ∧ True)) zk_22_127 rfl rfl (vd_1 (by omega)) (fun σ' h => ⟨h.1.up (by simp only [rgP] <;> omega) (by unfold MY; omega), (up_ne (by omega)).trans (h.2.1), (up_ne (by omega)).trans (h.2.2.1), up_eq, trivial⟩) (pc' := 130) rfl ?_
      refine T_op zk_22_130 rfl X_ic (pc' := 131) rfl ?_
      refine T_st (L' := [(0, av 1 1 0), (1, av 1 0 0), (2, iv 0)]) zk_22_131 (nL := 3) rfl rfl rfl rfl rfl (pc' := 132) rfl ?_
      refine T_loop1 (fun x15 => ((6 - x15 : Int)).toNat) (fun x15 => (0 ≤ x15 ∧ x15 ≤ 6)) (fun x15 => TJ xs (fun σ' => IF (MY 1) σ σ' ∧ σ' 1 1 0 5 = a5 ∧ σ' 1 1 0 6 = a6 ∧ σ' 1 1 0 7 = a7 ∧ True) 2 22 132 [(0, av 1 1 0), (1, av 1 0 0), (2, iv x15)] [] _) ?_ 0 (by omega)
      intro x15 hp17 ih16
      refine T_ld zk_22_132 rfl rfl rfl (pc' := 133) rfl ?_
      refine T_ld zk_22_133 rfl rfl rfl (pc' := 134) rfl ?_
      refine G_getX (w := a7) zk_22_134 rfl (vd_1 (by omega)) (fun σ' h => h.2.2.2.1) (pc' := 137) rfl ?_
      refine T_icmp_ge zk_22_137 (by omega) (by omega) (pc' := 140) rfl (fun h18 => ?_) (fun h19 => ?_)
      ·
        refine T_ld zk_22_161 rfl rfl rfl (pc' := 162) rfl ?_
        refine T_ld zk_22_162 rfl rfl rfl (pc' := 163) rfl ?_
        refine G_getX (w := a10) zk_22_163 rfl (vd_1 (by omega)) (fun σ' h => (h.1.2 _ _ _ _ (by first | exact nMY rfl | (unfold MY; omega))).trans s3) (pc' := 166) rfl ?_
        refine T_putf (J' := (fun σ' => IF (MY 1) σ σ' ∧ σ' 1 1 0 5 = a5 ∧ σ' 1 1 0 6 = a6 ∧ σ' 1 1 0 7 = a7 ∧ σ' 1 1 0 10 = a10 ∧ True)) zk_22_166 rfl rfl (vd_1 (by omega)) (fun σ' h => ⟨h.1.up (by simp only [rgP] <;> omega) (by unfold MY; omega), (up_ne (by omega)).trans (h.2.1), (up_ne (by omega)).trans (h.2.2.1), (up_ne (by omega)).trans (h.2.2.2.1), up_eq, trivial⟩) (pc' := 169) rfl ?_
        refine T_ld zk_22_169 rfl rfl rfl (pc' := 170) rfl ?_
        refine T_ld zk_22_170 rfl rfl rfl (pc' := 171) rfl ?_
        refine G_getX (w := a11) zk_22_171 rfl (vd_1 (by omega)) (fun σ' h => (h.1.2 _ _ _ _ (by first | exact nMY rfl | (unfold MY; omega))).trans s4) (pc' := 174) rfl ?_
        refine T_putf (J' := (fun σ' => IF (MY 1) σ σ' ∧ σ' 1 1 0 5 = a5 ∧ σ' 1 1 0 6 = a6 ∧ σ' 1 1 0 7 = a7 ∧ σ' 1 1 0 10 = a10 ∧ σ' 1 1 0 11 = a11 ∧ True)) zk_22_174 rfl rfl (vd_1 (by omega)) (fun σ' h => ⟨h.1.up (by simp only [rgP] <;> omega) (by unfold MY; omega), (up_ne (by omega)).trans (h.2.1), (up_ne (by omega)).trans (h.2.2.1), (up_ne (by omega)).trans (h.2.2.2.1), (up_ne (by omega)).trans (h.2.2.2.2.1), up_eq, trivial⟩) (pc' := 177) rfl ?_
        refine T_ld zk_22_177 rfl rfl rfl (pc' := 178) rfl ?_
        refine T_ld zk_22_178 rfl rfl rfl (pc' := 179) rfl ?_
        refine G_getX (w := a12) zk_22_179 rfl (vd_1 (by omega)) (fun σ' h => (h.1.2 _ _ _ _ (by first | exact nMY rfl | (unfold MY; omega))).trans s5) (pc' := 182) rfl ?_
        refine T_putf (J' := (fun σ' => IF (MY 1) σ σ' ∧ σ' 1 1 0 5 = a5 ∧ σ' 1 1 0 6 = a6 ∧ σ' 1 1 0 7 = a7 ∧ σ' 1 1 0 10 = a10 ∧ σ' 1 1 0 11 = a11 ∧ σ' 1 1 0 12 = a12 ∧ True)) zk_22_182 rfl rfl (vd_1 (by omega)) (fun σ' h => ⟨h.1.up (by simp only [rgP] <;> omega) (by unfold MY; omega), (up_ne (by omega)).trans (h.2.1), (up_ne (by omega)).trans (h.2.2.1), (up_ne (by omega)).trans (h.2.2.2.1), (up_ne (by omega)).trans (h.2.2.2.2.1), (up_ne (by omega)).trans (h.2.2.2.2.2.1), up_eq, trivial⟩) (pc' := 185) rfl ?_
        refine T_ld zk_22_185 rfl rfl rfl (pc' := 186) rfl ?_
        refine T_ld zk_22_186 rfl rfl rfl (pc' := 187) rfl ?_
        refine G_getX (w := a13) zk_22_187 rfl (vd_1 (by omega)) (fun σ' h => (h.1.2 _ _ _ _ (by first | exact nMY rfl | (unfold MY; omega))).trans s6) (pc' := 190) rfl ?_
        refine T_putf (J' := (fun σ' => IF (MY 1) σ σ' ∧ σ' 1 1 0 5 = a5 ∧ σ' 1 1 0 6 = a6 ∧ σ' 1 1 0 7 = a7 ∧ σ' 1 1 0 10 = a10 ∧ σ' 1 1 0 11 = a11 ∧ σ' 1 1 0 12 = a12 ∧ σ' 1 1 0 13 = a13 ∧ True)) zk_22_190 rfl rfl (vd_1 (by omega)) (fun σ' h => ⟨h.1.up (by simp only [rgP] <;> omega) (by unfold MY; omega), (up_ne (by omega)).trans (h.2.1), (up_ne (by omega)).trans (h.2.2.1), (up_ne (by omega)).trans (h.2.2.2.1), (up_ne (by omega)).trans (h.2.2.2.2.1), (up_ne (by omega)).trans (h.2.2.2.2.2.1), (up_ne (by omega)).trans (h.2.2.2.2.2.2.1), up_eq, trivial⟩) (pc' := 193) rfl ?_
        refine T_ld zk_22_193 rfl rfl rfl (pc' := 194) rfl ?_
        refine T_ld zk_22_194 rfl rfl rfl (pc' := 195) rfl ?_
        refine G_getf (lo := -2147483648) (hi := 2147483647) zk_22_195 rfl (vd_1 (by omega)) (fun σ' h => h.1.1) (fun _ h => (by have q := h.1; omega)) (pc' := 198) rfl (fun y20 hy20 hy20' => ?_)
        refine T_putf (J' := (fun σ' => IF (MY 1) σ σ' ∧ σ' 1 1 0 5 = a5 ∧ σ' 1 1 0 6 = a6 ∧ σ' 1 1 0 7 = a7 ∧ σ' 1 1 0 10 = a10 ∧ σ' 1 1 0 11 = a11 ∧ σ' 1 1 0 12 = a12 ∧ σ' 1 1 0 13 = a13 ∧ σ' 1 1 0 14 = y20 ∧ True)) zk_22_198 rfl rfl (vd_1 (by omega)) (fun σ' h => ⟨h.1.up (by simp only [rgP] <;> omega) (by unfold MY; omega), (up_ne (by omega)).trans (h.2.1), (up_ne (by omega)).trans (h.2.2.1), (up_ne (by omega)).trans (h.2.2.2.1), (up_ne (by omega)).trans (h.2.2.2.2.1), (up_ne (by omega)).trans (h.2.2.2.2.2.1), (up_ne (by omega)).trans (h.2.2.2.2.2.2.1), (up_ne (by omega)).trans (h.2.2.2.2.2.2.2.1), up_eq, trivial⟩) (pc' := 201) rfl ?_
        refine T_ld zk_22_201 rfl rfl rfl (pc' := 202) rfl ?_
        refine T_ld zk_22_202 rfl rfl rfl (pc' := 203) rfl ?_
        refine G_getf (lo := -2147483648) (hi := 2147483647) zk_22_203 rfl (vd_1 (by omega)) (fun σ' h => h.1.1) (fun _ h => (by have q := h.1; omega)) (pc' := 206) rfl (fun y21 hy21 hy21' => ?_)
        refine T_putf (J' := (fun σ' => IF (MY 1) σ σ' ∧ σ' 1 1 0 5 = a5 ∧ σ' 1 1 0 6 = a6 ∧ σ' 1 1 0 7 = a7 ∧ σ' 1 1 0 10 = a10 ∧ σ' 1 1 0 11 = a11 ∧ σ' 1 1 0 12 = a12 ∧ σ' 1 1 0 13 = a13 ∧ σ' 1 1 0 14 = y20 ∧ σ' 1 1 0 15 = y21 ∧ True)) zk_22_206 rfl rfl (vd_1 (by omega)) (fun σ' h => ⟨h.1.up (by simp only [rgP] <;> omega) (by unfold MY; omega), (up_ne (by omega)).trans (h.2.1), (up_ne (by omega)).trans (h.2.2.1), (up_ne (by omega)).trans (h.2.2.2.1), (up_ne (by omega)).trans (h.2.2.2.2.1), (up_ne (by omega)).trans (h.2.2.2.2.2.1), (up_ne (by omega)).trans (h.2.2.2.2.2.2.1), (up_ne (by omega)).trans (h.2.2.2.2.2.2.2.1), (up_ne (by omega)).trans (h.2.2.2.2.2.2.2.2.1), up_eq, trivial⟩) (pc' := 209) rfl ?_
        refine T_ld zk_22_209 rfl rfl rfl (pc' := 210) rfl ?_
        refine T_ld zk_22_210 rfl rfl rfl (pc' := 211) rfl ?_
        refine G_getf (lo := -2147483648) (hi := 2147483647) zk_22_211 rfl (vd_1 (by omega)) (fun σ' h => h.1.1) (fun _ h => (by have q := h.1; omega)) (pc' := 214) rfl (fun y22 hy22 hy22' => ?_)
        refine T_putf (J' := (fun σ' => IF (MY 1) σ σ' ∧ σ' 1 1 0 5 = a5 ∧ σ' 1 1 0 6 = a6 ∧ σ' 1 1 0 7 = a7 ∧ σ' 1 1 0 10 = a10 ∧ σ' 1 1 0 11 = a11 ∧ σ' 1 1 0 12 = a12 ∧ σ' 1 1 0 13 = a13 ∧ σ' 1 1 0 14 = y20 ∧ σ' 1 1 0 15 = y21 ∧ σ' 1 1 0 16 = y22 ∧ True)) zk_22_214 rfl rfl (vd_1 (by omega)) (fun σ' h => ⟨h.1.up (by simp only [rgP] <;> omega) (by unfold MY; omega), (up_ne (by omega)).trans (h.2.1), (up_ne (by omega)).trans (h.2.2.1), (up_ne (by omega)).trans (h.2.2.2.1), (up_ne (by omega)).trans (h.2.2.2.2.1), (up_ne (by omega)).trans (h.2.2.2.2.2.1), (up_ne (by omega)).trans (h.2.2.2.2.2.2.1), (up_ne (by omega)).trans (h.2.2.2.2.2.2.2.1), (up_ne (by omega)).trans (h.2.2.2.2.2.2.2.2.1), (up_ne (by omega)).trans (h.2.2.2.2.2.2.2.2.2.1), up_eq, trivial⟩) (pc' := 217) rfl ?_
        exact T_vret zk_22_217 rfl (fun σ' h => ⟨rfl, h.1, ⟨h.2.1, h.2.2.1, h.2.2.2.1, h.2.2.2.2.1, h.2.2.2.2.2.1, h.2.2.2.2.2.2.1, h.2.2.2.2.2.2.2.1, trivial⟩⟩)
      ·
        refine T_ld zk_22_140 rfl rfl rfl (pc' := 141) rfl ?_
        refine T_getR (t' := 16) (i' := 1) (k' := 0) zk_22_141 rfl rfl rfl (vd_1 (by omega)) (pc' := 144) rfl ?_
        refine T_ld zk_22_144 rfl rfl rfl (pc' := 145) rfl ?_
        refine G_aald (t' := 26) (im := 9) (i' := 1) (ln := 6) zk_22_145 rfl rfl rfl (vd_16 (by omega)) (by omega) (by omega) (by omega) (pc' := 146) rfl ?_
        refine T_ld zk_22_146 rfl rfl rfl (pc' := 147) rfl ?_
        refine T_getR (t' := 16) (i' := 0) (k' := 0) zk_22_147 rfl rfl rfl (vd_1 (by omega)) (pc' := 150) rfl ?_
        refine T_ld zk_22_150 rfl rfl rfl (pc' := 151) rfl ?_
        refine G_aald (t' := 26) (im := 9) (i' := 0) (ln := 6) zk_22_151 rfl rfl rfl (vd_16 (by omega)) (by omega) (by omega) (by omega) (pc' := 152) rfl ?_
        refine T_callv (J' := (fun σ' => IF (MY 1) σ σ' ∧ σ' 1 1 0 5 = a5 ∧ σ' 1 1 0 6 = a6 ∧ σ' 1 1 0 7 = a7 ∧ True)) (r := []) zk_22_152 rfl rfl rfl rfl rfl rfl (Or.inr ⟨_, _, _, _, rfl, (vd_26 (by omega) (by omega)), rfl⟩) (fun σ' h => (w_3 1 (Int.toNat x15) 0 (by omega) (by omega) (by omega) σ' h.1.1 ).le (Nat.le_of_ble_eq_true rfl) (fun v σ2 ⟨h1, h3, h4⟩ => ⟨h1, h.1.tr h3 sb72_e13aa76, (h3.2 _ _ _ _ (by first | exact nMI rfl | (unfold MI; omega))).trans (h.2.1), (h3.2 _ _ _ _ (by first | exact nMI rfl | (unfold MI; omega))).trans (h.2.2.1), (h3.2 _ _ _ _ (by first | exact nMI rfl | (unfold MI; omega))).trans (h.2.2.2.1), trivial⟩)) (pc' := 155) rfl ?_
        refine T_iinc (L' := [(0, av 1 1 0), (1, av 1 0 0), (2, iv (x15 + 1))]) zk_22_155 (nL := 3) rfl rfl rfl rfl (pc' := 158) rfl ?_
        refine T_goto zk_22_158 ?_
        exact ih16 (x15 + 1) (by omega) (by omega)
    ·
      refine T_ld zk_22_101 rfl rfl rfl (pc' := 102) rfl ?_
      refine T_getR (t' := 15) (i' := 1) (k' := 0) zk_22_102 rfl rfl rfl (vd_1 (by omega)) (pc' := 105) rfl ?_
      refine T_ld zk_22_105 rfl rfl rfl (pc' := 106) rfl ?_
      refine G_aald (t' := 25) (im := 9) (i' := 1) (ln := 12) zk_22_106 rfl rfl rfl (vd_15 (by omega)) (by omega) (by omega) (by omega) (pc' := 107) rfl ?_
      refine T_ld zk_22_107 rfl rfl rfl (pc' := 108) rfl ?_
      refine T_getR (t' := 15) (i' := 0) (k' := 0) zk_22_108 rfl rfl rfl (vd_1 (by omega)) (pc' := 111) rfl ?_
      refine T_ld zk_22_111 rfl rfl rfl (pc' := 112) rfl ?_
      refine G_aald (t' := 25) (im := 9) (i' := 0) (ln := 12) zk_22_112 rfl rfl rfl (vd_15 (by omega)) (by omega) (by omega) (by omega) (pc' := 113) rfl ?_
      refine T_callv (J' := (fun σ' => IF (MY 1) σ σ' ∧ σ' 1 1 0 5 = a5 ∧ σ' 1 1 0 6 = a6 ∧ True)) (r := []) zk_22_113 rfl rfl rfl rfl rfl rfl (Or.inr ⟨_, _, _, _, rfl, (vd_25 (by omega) (by omega)), rfl⟩) (fun σ' h => (w_28 1 (Int.toNat x10) 0 (by omega) (by omega) (by omega) σ' h.1.1 ).le (Nat.le_of_ble_eq_true rfl) (fun v σ2 ⟨h1, h3, h4⟩ => ⟨h1, h.1.tr h3 sb72_a631b4c, (h3.2 _ _ _ _ (by first | exact nMI rfl | (unfold MI; omega))).trans (h.2.1), (h3.2 _ _ _ _ (by first | exact nMI rfl | (unfold MI; omega))).trans (h.2.2.1), trivial⟩)) (pc' := 116) rfl ?_
      refine T_iinc (L' := [(0, av 1 1 0), (1, av 1 0 0), (2, iv (x10 + 1))]) zk_22_116 (nL := 3) rfl rfl rfl rfl (pc' := 119) rfl ?_
      refine T_goto zk_22_119 ?_
      exact ih11 (x10 + 1) (by omega) (by omega)
  ·
    refine T_ld zk_22_62 rfl rfl rfl (pc' := 63) rfl ?_
    refine T_getR (t' := 14) (i' := 1) (k' := 0) zk_22_63 rfl rfl rfl (vd_1 (by omega)) (pc' := 66) rfl ?_
    refine T_ld zk_22_66 rfl rfl rfl (pc' := 67) rfl ?_
    refine G_aald (t' := 23) (im := 9) (i' := 1) (ln := 5) zk_22_67 rfl rfl rfl (vd_14 (by omega)) (by omega) (by omega) (by omega) (pc' := 68) rfl ?_
    refine T_ld zk_22_68 rfl rfl rfl (pc' := 69) rfl ?_
    refine T_getR (t' := 14) (i' := 0) (k' := 0) zk_22_69 rfl rfl rfl (vd_1 (by omega)) (pc' := 72) rfl ?_
    refine T_ld zk_22_72 rfl rfl rfl (pc' := 73) rfl ?_
    refine G_aald (t' := 23) (im := 9) (i' := 0) (ln := 5) zk_22_73 rfl rfl rfl (vd_14 (by omega)) (by omega) (by omega) (by omega) (pc' := 74) rfl ?_
    refine T_callv (J' := (fun σ' => IF (MY 1) σ σ' ∧ σ' 1 1 0 5 = a5 ∧ True)) (r := []) zk_22_74 rfl rfl rfl rfl rfl rfl (Or.inr ⟨_, _, _, _, rfl, (vd_23 (by omega) (by omega)), rfl⟩) (fun σ' h => (w_46 1 (Int.toNat x5) 0 (by omega) (by omega) (by omega) σ' h.1.1 ).le (Nat.le_of_ble_eq_true rfl) (fun v σ2 ⟨h1, h3, h4⟩ => ⟨h1, h.1.tr h3 sb72_5fad9a3, (h3.2 _ _ _ _ (by first | exact nMI rfl | (unfold MI; omega))).trans (h.2.1), trivial⟩)) (pc' := 77) rfl ?_
    refine T_iinc (L' := [(0, av 1 1 0), (1, av 1 0 0), (2, iv (x5 + 1))]) zk_22_77 (nL := 3) rfl rfl rfl rfl (pc' := 80) rfl ?_
    refine T_goto zk_22_80 ?_
    exact ih6 (x5 + 1) (by omega) (by omega)
/-- W$City.takeCity -/
theorem s_22l_0 {xs : Nat × (Nat → Int32)}  (a6 : Int) (a7 : Int) (a10 : Int) (a11 : Int) (a12 : Int) (a13 : Int) (a5 : Int) (ha6 : 0 ≤ a6 ∧ a6 ≤ 12) (ha7 : 0 ≤ a7 ∧ a7 ≤ 6) (ha10 : 0 ≤ a10 ∧ a10 ≤ 99) (ha11 : 1 ≤ a11 ∧ a11 ≤ 9) (ha12 : 0 ≤ a12 ∧ a12 ≤ 9999) (ha13 : -2147483648 ≤ a13 ∧ a13 ≤ 2147483647) (ha5 : 0 ≤ a5 ∧ a5 ≤ 5) (σ : ZS) (hI : Inv σ)  (s0 : σ 1 1 0 5 = a5) (s1 : σ 1 1 0 6 = a6) (s2 : σ 1 1 0 7 = a7) (s3 : σ 1 1 0 10 = a10) (s4 : σ 1 1 0 11 = a11) (s5 : σ 1 1 0 12 = a12) (s6 : σ 1 1 0 13 = a13) : CT xs 3 22 [av 1 0 0, av 1 1 0] σ (fun v σ' => v = none ∧ IF (MY 0) σ σ' ∧ (σ' 1 0 0 5 = a5 ∧ σ' 1 0 0 6 = a6 ∧ σ' 1 0 0 7 = a7 ∧ σ' 1 0 0 10 = a10 ∧ σ' 1 0 0 11 = a11 ∧ σ' 1 0 0 12 = a12 ∧ σ' 1 0 0 13 = a13 ∧ True)) := by
  refine G_ct (J := (fun σ' => IF (MY 0) σ σ' ∧ True)) (L := [(0, av 1 0 0), (1, av 1 1 0)]) (nL := 3) rfl rfl rfl ⟨IF.rf hI, trivial⟩ ?_
  refine T_ld zk_22_0 rfl rfl rfl (pc' := 1) rfl ?_
  refine T_getR (t' := 2) (i' := 0) (k' := 0) zk_22_1 rfl rfl rfl (vd_1 (by omega)) (pc' := 4) rfl ?_
  refine T_ld zk_22_4 rfl rfl rfl (pc' := 5) rfl ?_
  refine T_getR (t' := 2) (i' := 1) (k' := 0) zk_22_5 rfl rfl rfl (vd_1 (by omega)) (pc' := 8) rfl ?_
  refine T_callv (J' := (fun σ' => IF (MY 0) σ σ' ∧ True)) (r := []) zk_22_8 rfl rfl rfl rfl rfl rfl (Or.inr ⟨_, _, _, _, rfl, (vd_2 (by omega)), rfl⟩) (fun σ' h => (w_39 0 1 (by omega) (by omega) σ' h.1.1 ).le (Nat.le_of_ble_eq_true rfl) (fun v σ2 ⟨h1, h3, h4⟩ => ⟨h1, h.1.tr h3 sb72_5cb13b0, trivial⟩)) (pc' := 11) rfl ?_
  refine T_ld zk_22_11 rfl rfl rfl (pc' := 12) rfl ?_
  refine T_getR (t' := 11) (i' := 0) (k' := 0) zk_22_12 rfl rfl rfl (vd_1 (by omega)) (pc' := 15) rfl ?_
  refine T_ld zk_22_15 rfl rfl rfl (pc' := 16) rfl ?_
  refine T_getR (t' := 11) (i' := 1) (k' := 0) zk_22_16 rfl rfl rfl (vd_1 (by omega)) (pc' := 19) rfl ?_
  refine T_callv (J' := (fun σ' => IF (MY 0) σ σ' ∧ True)) (r := []) zk_22_19 rfl rfl rfl rfl rfl rfl (Or.inr ⟨_, _, _, _, rfl, (vd_11 (by omega)), rfl⟩) (fun σ' h => (w_64 0 1 (by omega) (by omega) σ' h.1.1 ).le (Nat.le_of_ble_eq_true rfl) (fun v σ2 ⟨h1, h3, h4⟩ => ⟨h1, h.1.tr h3 sb72_1cca568, trivial⟩)) (pc' := 22) rfl ?_
  refine T_ld zk_22_22 rfl rfl rfl (pc' := 23) rfl ?_
  refine T_getR (t' := 17) (i' := 0) (k' := 0) zk_22_23 rfl rfl rfl (vd_1 (by omega)) (pc' := 26) rfl ?_
  refine T_ld zk_22_26 rfl rfl rfl (pc' := 27) rfl ?_
  refine T_getR (t' := 17) (i' := 1) (k' := 0) zk_22_27 rfl rfl rfl (vd_1 (by omega)) (pc' := 30) rfl ?_
  refine T_callv (J' := (fun σ' => IF (MY 0) σ σ' ∧ True)) (r := []) zk_22_30 rfl rfl rfl rfl rfl rfl (Or.inr ⟨_, _, _, _, rfl, (vd_17 (by omega) (by omega)), rfl⟩) (fun σ' h => (w_72 0 0 1 (by omega) (by omega) (by omega) σ' h.1.1 ).le (Nat.le_of_ble_eq_true rfl) (fun v σ2 ⟨h1, h3, h4⟩ => ⟨h1, h.1.tr h3 sb72_c835090, trivial⟩)) (pc' := 33) rfl ?_
  refine T_ld zk_22_33 rfl rfl rfl (pc' := 34) rfl ?_
  refine T_getR (t' := 17) (i' := 0) (k' := 1) zk_22_34 rfl rfl rfl (vd_1 (by omega)) (pc' := 37) rfl ?_
  refine T_ld zk_22_37 rfl rfl rfl (pc' := 38) rfl ?_
  refine T_getR (t' := 17) (i' := 1) (k' := 1) zk_22_38 rfl rfl rfl (vd_1 (by omega)) (pc' := 41) rfl ?_
  refine T_callv (J' := (fun σ' => IF (MY 0) σ σ' ∧ True)) (r := []) zk_22_41 rfl rfl rfl rfl rfl rfl (Or.inr ⟨_, _, _, _, rfl, (vd_17 (by omega) (by omega)), rfl⟩) (fun σ' h => (w_72 0 1 1 (by omega) (by omega) (by omega) σ' h.1.1 ).le (Nat.le_of_ble_eq_true rfl) (fun v σ2 ⟨h1, h3, h4⟩ => ⟨h1, h.1.tr h3 sb72_1529f72, trivial⟩)) (pc' := 44) rfl ?_
  refine T_ld zk_22_44 rfl rfl rfl (pc' := 45) rfl ?_
  refine T_ld zk_22_45 rfl rfl rfl (pc' := 46) rfl ?_
  refine G_getX (w := a5) zk_22_46 rfl (vd_1 (by omega)) (fun σ' h => (h.1.2 _ _ _ _ (by first | exact nMY rfl | (unfold MY; omega))).trans s0) (pc' := 49) rfl ?_
  refine T_putf (J' := (fun σ' => IF (MY 0) σ σ' ∧ σ' 1 0 0 5 = a5 ∧ True)) zk_22_49 rfl rfl (vd_1 (by omega)) (fun σ' h => ⟨h.1.up (by simp only [rgP] <;> omega) (by unfold MY; omega), up_eq, trivial⟩) (pc' := 52) rfl ?_
  refine T_op zk_22_52 rfl X_ic (pc' := 53) rfl ?_
  refine T_st (L' := [(0, av 1 0 0), (1, av 1 1 0), (2, iv 0)]) zk_22_53 (nL := 3) rfl rfl rfl rfl rfl (pc' := 54) rfl ?_
  refine T_loop1 (fun x5 => ((5 - x5 : Int)).toNat) (fun x5 => (0 ≤ x5 ∧ x5 ≤ 5)) (fun x5 => TJ xs (fun σ' => IF (MY 0) σ σ' ∧ σ' 1 0 0 5 = a5 ∧ True) 2 22 54 [(0, av 1 0 0), (1, av 1 1 0), (2, iv x5)] [] _) ?_ 0 (by omega)
  intro x5 hp7 ih6
  refine T_ld zk_22_54 rfl rfl rfl (pc' := 55) rfl ?_
  refine T_ld zk_22_55 rfl rfl rfl (pc' := 56) rfl ?_
  refine G_getX (w := a5) zk_22_56 rfl (vd_1 (by omega)) (fun σ' h => h.2.1) (pc' := 59) rfl ?_
  refine T_icmp_ge zk_22_59 (by omega) (by omega) (pc' := 62) rfl (fun h8 => ?_) (fun h9 => ?_)
  ·
    refine T_ld zk_22_83 rfl rfl rfl (pc' := 84) rfl ?_
    refine T_ld zk_22_84 rfl rfl rfl (pc' := 85) rfl ?_
    refine G_getX (w := a6) zk_22_85 rfl (vd_1 (by omega)) (fun σ' h => (h.1.2 _ _ _ _ (by first | exact nMY rfl | (unfold MY; omega))).trans s1) (pc' := 88) rfl ?_
    refine T_putf (J' := (fun σ' => IF (MY 0) σ σ' ∧ σ' 1 0 0 5 = a5 ∧ σ' 1 0 0 6 = a6 ∧ True)) zk_22_88 rfl rfl (vd_1 (by omega)) (fun σ' h => ⟨h.1.up (by simp only [rgP] <;> omega) (by unfold MY; omega), (up_ne (by omega)).trans (h.2.1), up_eq, trivial⟩) (pc' := 91) rfl ?_
    refine T_op zk_22_91 rfl X_ic (pc' := 92) rfl ?_
    refine T_st (L' := [(0, av 1 0 0), (1, av 1 1 0), (2, iv 0)]) zk_22_92 (nL := 3) rfl rfl rfl rfl rfl (pc' := 93) rfl ?_
    refine T_loop1 (fun x10 => ((12 - x10 : Int)).toNat) (fun x10 => (0 ≤ x10 ∧ x10 ≤ 12)) (fun x10 => TJ xs (fun σ' => IF (MY 0) σ σ' ∧ σ' 1 0 0 5 = a5 ∧ σ' 1 0 0 6 = a6 ∧ True) 2 22 93 [(0, av 1 0 0), (1, av 1 1 0), (2, iv x10)] [] _) ?_ 0 (by omega)
    intro x10 hp12 ih11
    refine T_ld zk_22_93 rfl rfl rfl (pc' := 94) rfl ?_
    refine T_ld zk_22_94 rfl rfl rfl (pc' := 95) rfl ?_
    refine G_getX (w := a6) zk_22_95 rfl (vd_1 (by omega)) (fun σ' h => h.2.2.1) (pc' := 98) rfl ?_
    refine T_icmp_ge zk_22_98 (by omega) (by omega) (pc' := 101) rfl (fun h13 => ?_) (fun h14 => ?_)
    ·
      refine T_ld zk_22_122 rfl rfl rfl (pc' := 123) rfl ?_
      refine T_ld zk_22_123 rfl rfl rfl (pc' := 124) rfl ?_
      refine G_getX (w := a7) zk_22_124 rfl (vd_1 (by omega)) (fun σ' h => (h.1.2 _ _ _ _ (by first | exact nMY rfl | (unfold MY; omega))).trans s2) (pc' := 127) rfl ?_
      refine T_putf (J' := (fun σ' => IF (MY 0) σ σ' ∧ σ' 1 0 0 5 = a5 ∧ σ' 1 0 0 6 = a6 ∧ σ' 1 0 0 7 = a7 ∧ True)) zk_22_127 rfl rfl (vd_1 (by omega)) (fun σ' h => ⟨h.1.up (by simp only [rgP] <;> omega) (by unfold MY; omega), (up_ne (by omega)).trans (h.2.1), (up_ne (by omega)).trans (h.2.2.1), up_eq, trivial⟩) (pc' := 130) rfl ?_
      refine T_op zk_22_130 rfl X_ic (pc' := 131) rfl ?_
      refine T_st (L' := [(0, av 1 0 0), (1, av 1 1 0), (2, iv 0)]) zk_22_131 (nL := 3) rfl rfl rfl rfl rfl (pc' := 132) rfl ?_
      refine T_loop1 (fun x15 => ((6 - x15 : Int)).toNat) (fun x15 => (0 ≤ x15 ∧ x15 ≤ 6)) (fun x15 => TJ xs (fun σ' => IF (MY 0) σ σ' ∧ σ' 1 0 0 5 = a5 ∧ σ' 1 0 0 6 = a6 ∧ σ' 1 0 0 7 = a7 ∧ True) 2 22 132 [(0, av 1 0 0), (1, av 1 1 0), (2, iv x15)] [] _) ?_ 0 (by omega)
      intro x15 hp17 ih16
      refine T_ld zk_22_132 rfl rfl rfl (pc' := 133) rfl ?_
      refine T_ld zk_22_133 rfl rfl rfl (pc' := 134) rfl ?_
      refine G_getX (w := a7) zk_22_134 rfl (vd_1 (by omega)) (fun σ' h => h.2.2.2.1) (pc' := 137) rfl ?_
      refine T_icmp_ge zk_22_137 (by omega) (by omega) (pc' := 140) rfl (fun h18 => ?_) (fun h19 => ?_)
      ·
        refine T_ld zk_22_161 rfl rfl rfl (pc' := 162) rfl ?_
        refine T_ld zk_22_162 rfl rfl rfl (pc' := 163) rfl ?_
        refine G_getX (w := a10) zk_22_163 rfl (vd_1 (by omega)) (fun σ' h => (h.1.2 _ _ _ _ (by first | exact nMY rfl | (unfold MY; omega))).trans s3) (pc' := 166) rfl ?_
        refine T_putf (J' := (fun σ' => IF (MY 0) σ σ' ∧ σ' 1 0 0 5 = a5 ∧ σ' 1 0 0 6 = a6 ∧ σ' 1 0 0 7 = a7 ∧ σ' 1 0 0 10 = a10 ∧ True)) zk_22_166 rfl rfl (vd_1 (by omega)) (fun σ' h => ⟨h.1.up (by simp only [rgP] <;> omega) (by unfold MY; omega), (up_ne (by omega)).trans (h.2.1), (up_ne (by omega)).trans (h.2.2.1), (up_ne (by omega)).trans (h.2.2.2.1), up_eq, trivial⟩) (pc' := 169) rfl ?_
        refine T_ld zk_22_169 rfl rfl rfl (pc' := 170) rfl ?_
        refine T_ld zk_22_170 rfl rfl rfl (pc' := 171) rfl ?_
        refine G_getX (w := a11) zk_22_171 rfl (vd_1 (by omega)) (fun σ' h => (h.1.2 _ _ _ _ (by first | exact nMY rfl | (unfold MY; omega))).trans s4) (pc' := 174) rfl ?_
        refine T_putf (J' := (fun σ' => IF (MY 0) σ σ' ∧ σ' 1 0 0 5 = a5 ∧ σ' 1 0 0 6 = a6 ∧ σ' 1 0 0 7 = a7 ∧ σ' 1 0 0 10 = a10 ∧ σ' 1 0 0 11 = a11 ∧ True)) zk_22_174 rfl rfl (vd_1 (by omega)) (fun σ' h => ⟨h.1.up (by simp only [rgP] <;> omega) (by unfold MY; omega), (up_ne (by omega)).trans (h.2.1), (up_ne (by omega)).trans (h.2.2.1), (up_ne (by omega)).trans (h.2.2.2.1), (up_ne (by omega)).trans (h.2.2.2.2.1), up_eq, trivial⟩) (pc' := 177) rfl ?_
        refine T_ld zk_22_177 rfl rfl rfl (pc' := 178) rfl ?_
        refine T_ld zk_22_178 rfl rfl rfl (pc' := 179) rfl ?_
        refine G_getX (w := a12) zk_22_179 rfl (vd_1 (by omega)) (fun σ' h => (h.1.2 _ _ _ _ (by first | exact nMY rfl | (unfold MY; omega))).trans s5) (pc' := 182) rfl ?_
        refine T_putf (J' := (fun σ' => IF (MY 0) σ σ' ∧ σ' 1 0 0 5 = a5 ∧ σ' 1 0 0 6 = a6 ∧ σ' 1 0 0 7 = a7 ∧ σ' 1 0 0 10 = a10 ∧ σ' 1 0 0 11 = a11 ∧ σ' 1 0 0 12 = a12 ∧ True)) zk_22_182 rfl rfl (vd_1 (by omega)) (fun σ' h => ⟨h.1.up (by simp only [rgP] <;> omega) (by unfold MY; omega), (up_ne (by omega)).trans (h.2.1), (up_ne (by omega)).trans (h.2.2.1), (up_ne (by omega)).trans (h.2.2.2.1), (up_ne (by omega)).trans (h.2.2.2.2.1), (up_ne (by omega)).trans (h.2.2.2.2.2.1), up_eq, trivial⟩) (pc' := 185) rfl ?_
        refine T_ld zk_22_185 rfl rfl rfl (pc' := 186) rfl ?_
        refine T_ld zk_22_186 rfl rfl rfl (pc' := 187) rfl ?_
        refine G_getX (w := a13) zk_22_187 rfl (vd_1 (by omega)) (fun σ' h => (h.1.2 _ _ _ _ (by first | exact nMY rfl | (unfold MY; omega))).trans s6) (pc' := 190) rfl ?_
        refine T_putf (J' := (fun σ' => IF (MY 0) σ σ' ∧ σ' 1 0 0 5 = a5 ∧ σ' 1 0 0 6 = a6 ∧ σ' 1 0 0 7 = a7 ∧ σ' 1 0 0 10 = a10 ∧ σ' 1 0 0 11 = a11 ∧ σ' 1 0 0 12 = a12 ∧ σ' 1 0 0 13 = a13 ∧ True)) zk_22_190 rfl rfl (vd_1 (by omega)) (fun σ' h => ⟨h.1.up (by simp only [rgP] <;> omega) (by unfold MY; omega), (up_ne (by omega)).trans (h.2.1), (up_ne (by omega)).trans (h.2.2.1), (up_ne (by omega)).trans (h.2.2.2.1), (up_ne (by omega)).trans (h.2.2.2.2.1), (up_ne (by omega)).trans (h.2.2.2.2.2.1), (up_ne (by omega)).trans (h.2.2.2.2.2.2.1), up_eq, trivial⟩) (pc' := 193) rfl ?_
        refine T_ld zk_22_193 rfl rfl rfl (pc' := 194) rfl ?_
        refine T_ld zk_22_194 rfl rfl rfl (pc' := 195) rfl ?_
        refine G_getf (lo := -2147483648) (hi := 2147483647) zk_22_195 rfl (vd_1 (by omega)) (fun σ' h => h.1.1) (fun _ h => (by have q := h.1; omega)) (pc' := 198) rfl (fun y20 hy20 hy20' => ?_)
        refine T_putf (J' := (fun σ' => IF (MY 0) σ σ' ∧ σ' 1 0 0 5 = a5 ∧ σ' 1 0 0 6 = a6 ∧ σ' 1 0 0 7 = a7 ∧ σ' 1 0 0 10 = a10 ∧ σ' 1 0 0 11 = a11 ∧ σ' 1 0 0 12 = a12 ∧ σ' 1 0 0 13 = a13 ∧ σ' 1 0 0 14 = y20 ∧ True)) zk_22_198 rfl rfl (vd_1 (by omega)) (fun σ' h => ⟨h.1.up (by simp only [rgP] <;> omega) (by unfold MY; omega), (up_ne (by omega)).trans (h.2.1), (up_ne (by omega)).trans (h.2.2.1), (up_ne (by omega)).trans (h.2.2.2.1), (up_ne (by omega)).trans (h.2.2.2.2.1), (up_ne (by omega)).trans (h.2.2.2.2.2.1), (up_ne (by omega)).trans (h.2.2.2.2.2.2.1), (up_ne (by omega)).trans (h.2.2.2.2.2.2.2.1), up_eq, trivial⟩) (pc' := 201) rfl ?_
        refine T_ld zk_22_201 rfl rfl rfl (pc' := 202) rfl ?_
        refine T_ld zk_22_202 rfl rfl rfl (pc' := 203) rfl ?_
        refine G_getf (lo := -2147483648) (hi := 2147483647) zk_22_203 rfl (vd_1 (by omega)) (fun σ' h => h.1.1) (fun _ h => (by have q := h.1; omega)) (pc' := 206) rfl (fun y21 hy21 hy21' => ?_)
        refine T_putf (J' := (fun σ' => IF (MY 0) σ σ' ∧ σ' 1 0 0 5 = a5 ∧ σ' 1 0 0 6 = a6 ∧ σ' 1 0 0 7 = a7 ∧ σ' 1 0 0 10 = a10 ∧ σ' 1 0 0 11 = a11 ∧ σ' 1 0 0 12 = a12 ∧ σ' 1 0 0 13 = a13 ∧ σ' 1 0 0 14 = y20 ∧ σ' 1 0 0 15 = y21 ∧ True)) zk_22_206 rfl rfl (vd_1 (by omega)) (fun σ' h => ⟨h.1.up (by simp only [rgP] <;> omega) (by unfold MY; omega), (up_ne (by omega)).trans (h.2.1), (up_ne (by omega)).trans (h.2.2.1), (up_ne (by omega)).trans (h.2.2.2.1), (up_ne (by omega)).trans (h.2.2.2.2.1), (up_ne (by omega)).trans (h.2.2.2.2.2.1), (up_ne (by omega)).trans (h.2.2.2.2.2.2.1), (up_ne (by omega)).trans (h.2.2.2.2.2.2.2.1), (up_ne (by omega)).trans (h.2.2.2.2.2.2.2.2.1), up_eq, trivial⟩) (pc' := 209) rfl ?_
        refine T_ld zk_22_209 rfl rfl rfl (pc' := 210) rfl ?_
        refine T_ld zk_22_210 rfl rfl rfl (pc' := 211) rfl ?_
        refine G_getf (lo := -2147483648) (hi := 2147483647) zk_22_211 rfl (vd_1 (by omega)) (fun σ' h => h.1.1) (fun _ h => (by have q := h.1; omega)) (pc' := 214) rfl (fun y22 hy22 hy22' => ?_)
        refine T_putf (J' := (fun σ' => IF (MY 0) σ σ' ∧ σ' 1 0 0 5 = a5 ∧ σ' 1 0 0 6 = a6 ∧ σ' 1 0 0 7 = a7 ∧ σ' 1 0 0 10 = a10 ∧ σ' 1 0 0 11 = a11 ∧ σ' 1 0 0 12 = a12 ∧ σ' 1 0 0 13 = a13 ∧ σ' 1 0 0 14 = y20 ∧ σ' 1 0 0 15 = y21 ∧ σ' 1 0 0 16 = y22 ∧ True)) zk_22_214 rfl rfl (vd_1 (by omega)) (fun σ' h => ⟨h.1.up (by simp only [rgP] <;> omega) (by unfold MY; omega), (up_ne (by omega)).trans (h.2.1), (up_ne (by omega)).trans (h.2.2.1), (up_ne (by omega)).trans (h.2.2.2.1), (up_ne (by omega)).trans (h.2.2.2.2.1), (up_ne (by omega)).trans (h.2.2.2.2.2.1), (up_ne (by omega)).trans (h.2.2.2.2.2.2.1), (up_ne (by omega)).trans (h.2.2.2.2.2.2.2.1), (up_ne (by omega)).trans (h.2.2.2.2.2.2.2.2.1), (up_ne (by omega)).trans (h.2.2.2.2.2.2.2.2.2.1), up_eq, trivial⟩) (pc' := 217) rfl ?_
        exact T_vret zk_22_217 rfl (fun σ' h => ⟨rfl, h.1, ⟨h.2.1, h.2.2.1, h.2.2.2.1, h.2.2.2.2.1, h.2.2.2.2.2.1, h.2.2.2.2.2.2.1, h.2.2.2.2.2.2.2.1, trivial⟩⟩)
      ·
        refine T_ld zk_22_140 rfl rfl rfl (pc' := 141) rfl ?_
        refine T_getR (t' := 16) (i' := 0) (k' := 0) zk_22_141 rfl rfl rfl (vd_1 (by omega)) (pc' := 144) rfl ?_
        refine T_ld zk_22_144 rfl rfl rfl (pc' := 145) rfl ?_
        refine G_aald (t' := 26) (im := 9) (i' := 0) (ln := 6) zk_22_145 rfl rfl rfl (vd_16 (by omega)) (by omega) (by omega) (by omega) (pc' := 146) rfl ?_
        refine T_ld zk_22_146 rfl rfl rfl (pc' := 147) rfl ?_
        refine T_getR (t' := 16) (i' := 1) (k' := 0) zk_22_147 rfl rfl rfl (vd_1 (by omega)) (pc' := 150) rfl ?_
        refine T_ld zk_22_150 rfl rfl rfl (pc' := 151) rfl ?_
        refine G_aald (t' := 26) (im := 9) (i' := 1) (ln := 6) zk_22_151 rfl rfl rfl (vd_16 (by omega)) (by omega) (by omega) (by omega) (pc' := 152) rfl ?_
        refine T_callv (J' := (fun σ' => IF (MY 0) σ σ' ∧ σ' 1 0 0 5 = a5 ∧ σ' 1 0 0 6 = a6 ∧ σ' 1 0 0 7 = a7 ∧ True)) (r := []) zk_22_152 rfl rfl rfl rfl rfl rfl (Or.inr ⟨_, _, _, _, rfl, (vd_26 (by omega) (by omega)), rfl⟩) (fun σ' h => (w_3 0 (Int.toNat x15) 1 (by omega) (by omega) (by omega) σ' h.1.1 ).le (Nat.le_of_ble_eq_true rfl) (fun v σ2 ⟨h1, h3, h4⟩ => ⟨h1, h.1.tr h3 sb72_1c2198f, (h3.2 _ _ _ _ (by first | exact nMI rfl | (unfold MI; omega))).trans (h.2.1), (h3.2 _ _ _ _ (by first | exact nMI rfl | (unfold MI; omega))).trans (h.2.2.1), (h3.2 _ _ _ _ (by first | exact nMI rfl | (unfold MI; omega))).trans (h.2.2.2.1), trivial⟩)) (pc' := 155) rfl ?_
        refine T_iinc (L' := [(0, av 1 0 0), (1, av 1 1 0), (2, iv (x15 + 1))]) zk_22_155 (nL := 3) rfl rfl rfl rfl (pc' := 158) rfl ?_
        refine T_goto zk_22_158 ?_
        exact ih16 (x15 + 1) (by omega) (by omega)
    ·
      refine T_ld zk_22_101 rfl rfl rfl (pc' := 102) rfl ?_
      refine T_getR (t' := 15) (i' := 0) (k' := 0) zk_22_102 rfl rfl rfl (vd_1 (by omega)) (pc' := 105) rfl ?_
      refine T_ld zk_22_105 rfl rfl rfl (pc' := 106) rfl ?_
      refine G_aald (t' := 25) (im := 9) (i' := 0) (ln := 12) zk_22_106 rfl rfl rfl (vd_15 (by omega)) (by omega) (by omega) (by omega) (pc' := 107) rfl ?_
      refine T_ld zk_22_107 rfl rfl rfl (pc' := 108) rfl ?_
      refine T_getR (t' := 15) (i' := 1) (k' := 0) zk_22_108 rfl rfl rfl (vd_1 (by omega)) (pc' := 111) rfl ?_
      refine T_ld zk_22_111 rfl rfl rfl (pc' := 112) rfl ?_
      refine G_aald (t' := 25) (im := 9) (i' := 1) (ln := 12) zk_22_112 rfl rfl rfl (vd_15 (by omega)) (by omega) (by omega) (by omega) (pc' := 113) rfl ?_
      refine T_callv (J' := (fun σ' => IF (MY 0) σ σ' ∧ σ' 1 0 0 5 = a5 ∧ σ' 1 0 0 6 = a6 ∧ True)) (r := []) zk_22_113 rfl rfl rfl rfl rfl rfl (Or.inr ⟨_, _, _, _, rfl, (vd_25 (by omega) (by omega)), rfl⟩) (fun σ' h => (w_28 0 (Int.toNat x10) 1 (by omega) (by omega) (by omega) σ' h.1.1 ).le (Nat.le_of_ble_eq_true rfl) (fun v σ2 ⟨h1, h3, h4⟩ => ⟨h1, h.1.tr h3 sb72_a41fece, (h3.2 _ _ _ _ (by first | exact nMI rfl | (unfold MI; omega))).trans (h.2.1), (h3.2 _ _ _ _ (by first | exact nMI rfl | (unfold MI; omega))).trans (h.2.2.1), trivial⟩)) (pc' := 116) rfl ?_
      refine T_iinc (L' := [(0, av 1 0 0), (1, av 1 1 0), (2, iv (x10 + 1))]) zk_22_116 (nL := 3) rfl rfl rfl rfl (pc' := 119) rfl ?_
      refine T_goto zk_22_119 ?_
      exact ih11 (x10 + 1) (by omega) (by omega)
  ·
    refine T_ld zk_22_62 rfl rfl rfl (pc' := 63) rfl ?_
    refine T_getR (t' := 14) (i' := 0) (k' := 0) zk_22_63 rfl rfl rfl (vd_1 (by omega)) (pc' := 66) rfl ?_
    refine T_ld zk_22_66 rfl rfl rfl (pc' := 67) rfl ?_
    refine G_aald (t' := 23) (im := 9) (i' := 0) (ln := 5) zk_22_67 rfl rfl rfl (vd_14 (by omega)) (by omega) (by omega) (by omega) (pc' := 68) rfl ?_
    refine T_ld zk_22_68 rfl rfl rfl (pc' := 69) rfl ?_
    refine T_getR (t' := 14) (i' := 1) (k' := 0) zk_22_69 rfl rfl rfl (vd_1 (by omega)) (pc' := 72) rfl ?_
    refine T_ld zk_22_72 rfl rfl rfl (pc' := 73) rfl ?_
    refine G_aald (t' := 23) (im := 9) (i' := 1) (ln := 5) zk_22_73 rfl rfl rfl (vd_14 (by omega)) (by omega) (by omega) (by omega) (pc' := 74) rfl ?_
    refine T_callv (J' := (fun σ' => IF (MY 0) σ σ' ∧ σ' 1 0 0 5 = a5 ∧ True)) (r := []) zk_22_74 rfl rfl rfl rfl rfl rfl (Or.inr ⟨_, _, _, _, rfl, (vd_23 (by omega) (by omega)), rfl⟩) (fun σ' h => (w_46 0 (Int.toNat x5) 1 (by omega) (by omega) (by omega) σ' h.1.1 ).le (Nat.le_of_ble_eq_true rfl) (fun v σ2 ⟨h1, h3, h4⟩ => ⟨h1, h.1.tr h3 sb72_f3781e5, (h3.2 _ _ _ _ (by first | exact nMI rfl | (unfold MI; omega))).trans (h.2.1), trivial⟩)) (pc' := 77) rfl ?_
    refine T_iinc (L' := [(0, av 1 0 0), (1, av 1 1 0), (2, iv (x5 + 1))]) zk_22_77 (nL := 3) rfl rfl rfl rfl (pc' := 80) rfl ?_
    refine T_goto zk_22_80 ?_
    exact ih6 (x5 + 1) (by omega) (by omega)
/-- W.image -/
theorem s_108l {xs : Nat × (Nat → Int32)}  (a6 : Int) (a7 : Int) (a10 : Int) (a11 : Int) (a12 : Int) (a13 : Int) (a5 : Int) (ha6 : 0 ≤ a6 ∧ a6 ≤ 12) (ha7 : 0 ≤ a7 ∧ a7 ≤ 6) (ha10 : 0 ≤ a10 ∧ a10 ≤ 99) (ha11 : 1 ≤ a11 ∧ a11 ≤ 9) (ha12 : 0 ≤ a12 ∧ a12 ≤ 9999) (ha13 : -2147483648 ≤ a13 ∧ a13 ≤ 2147483647) (ha5 : 0 ≤ a5 ∧ a5 ≤ 5) (σ : ZS) (hI : Inv σ)  (s0 : σ 1 0 0 5 = a5) (s1 : σ 1 0 0 6 = a6) (s2 : σ 1 0 0 7 = a7) (s3 : σ 1 0 0 10 = a10) (s4 : σ 1 0 0 11 = a11) (s5 : σ 1 0 0 12 = a12) (s6 : σ 1 0 0 13 = a13) : CT xs 4 108 [av 0 0 0] σ (fun v σ' => ∃ y, v = some (iv y) ∧ (y = a13) ∧ IF MIg σ σ' ∧ (σ' 1 1 0 5 = a5 ∧ σ' 1 1 0 6 = a6 ∧ σ' 1 1 0 7 = a7 ∧ σ' 1 1 0 10 = a10 ∧ σ' 1 1 0 11 = a11 ∧ σ' 1 1 0 12 = a12 ∧ σ' 1 1 0 13 = a13 ∧ σ' 0 0 0 3 = 1 ∧ True)) := by
  refine G_ct (J := (fun σ' => IF MIg σ σ' ∧ True)) (L := [(0, av 0 0 0)]) (nL := 1) rfl rfl rfl ⟨IF.rf hI, trivial⟩ ?_
  refine T_ld zk_108_0 rfl rfl rfl (pc' := 1) rfl ?_
  refine T_getR (t' := 1) (i' := 1) (k' := 0) zk_108_1 rfl rfl rfl vd_0 (pc' := 4) rfl ?_
  refine T_ld zk_108_4 rfl rfl rfl (pc' := 5) rfl ?_
  refine T_getR (t' := 1) (i' := 0) (k' := 0) zk_108_5 rfl rfl rfl vd_0 (pc' := 8) rfl ?_
  refine T_callv (J' := (fun σ' => IF MIg σ σ' ∧ σ' 1 1 0 5 = a5 ∧ σ' 1 1 0 6 = a6 ∧ σ' 1 1 0 7 = a7 ∧ σ' 1 1 0 10 = a10 ∧ σ' 1 1 0 11 = a11 ∧ σ' 1 1 0 12 = a12 ∧ σ' 1 1 0 13 = a13 ∧ True)) (r := []) zk_108_8 rfl rfl rfl rfl rfl rfl (Or.inr ⟨_, _, _, _, rfl, (vd_1 (by omega)), rfl⟩) (fun σ' h => (s_22l_1 a6 a7 a10 a11 a12 a13 a5 (by omega) (by omega) (by omega) (by omega) (by omega) (by omega) (by omega) σ' h.1.1 ((h.1.2 _ _ _ _ (by first | exact nMIg rfl | (unfold MIg; omega))).trans s0) ((h.1.2 _ _ _ _ (by first | exact nMIg rfl | (unfold MIg; omega))).trans s1) ((h.1.2 _ _ _ _ (by first | exact nMIg rfl | (unfold MIg; omega))).trans s2) ((h.1.2 _ _ _ _ (by first | exact nMIg rfl | (unfold MIg; omega))).trans s3) ((h.1.2 _ _ _ _ (by first | exact nMIg rfl | (unfold MIg; omega))).trans s4) ((h.1.2 _ _ _ _ (by first | exact nMIg rfl | (unfold MIg; omega))).trans s5) ((h.1.2 _ _ _ _ (by first | exact nMIg rfl | (unfold MIg; omega))).trans s6)).le (Nat.le_of_ble_eq_true rfl) (fun v σ2 ⟨h1, h3, h4⟩ => ⟨h1, h.1.tr h3 sb56_a084065, h4.1, h4.2.1, h4.2.2.1, h4.2.2.2.1, h4.2.2.2.2.1, h4.2.2.2.2.2.1, h4.2.2.2.2.2.2.1, trivial⟩)) (pc' := 11) rfl ?_
  refine T_ld zk_108_11 rfl rfl rfl (pc' := 12) rfl ?_
  refine T_op zk_108_12 rfl X_ic (pc' := 13) rfl ?_
  refine T_putz (J' := (fun σ' => IF MIg σ σ' ∧ σ' 1 1 0 5 = a5 ∧ σ' 1 1 0 6 = a6 ∧ σ' 1 1 0 7 = a7 ∧ σ' 1 1 0 10 = a10 ∧ σ' 1 1 0 11 = a11 ∧ σ' 1 1 0 12 = a12 ∧ σ' 1 1 0 13 = a13 ∧ σ' 0 0 0 3 = 1 ∧ True)) zk_108_13 rfl rfl (by omega) vd_0 (fun σ' h => ⟨h.1.up (by simp only [rgP] <;> omega) (by first | exact pMIg rfl | (unfold MIg; omega)), (up_ne (by omega)).trans (h.2.1), (up_ne (by omega)).trans (h.2.2.1), (up_ne (by omega)).trans (h.2.2.2.1), (up_ne (by omega)).trans (h.2.2.2.2.1), (up_ne (by omega)).trans (h.2.2.2.2.2.1), (up_ne (by omega)).trans (h.2.2.2.2.2.2.1), (up_ne (by omega)).trans (h.2.2.2.2.2.2.2.1), up_eq, trivial⟩) (pc' := 16) rfl ?_
  refine T_ld zk_108_16 rfl rfl rfl (pc' := 17) rfl ?_
  refine T_getR (t' := 1) (i' := 0) (k' := 0) zk_108_17 rfl rfl rfl vd_0 (pc' := 20) rfl ?_
  refine G_getX (w := a13) zk_108_20 rfl (vd_1 (by omega)) (fun σ' h => (h.1.2 _ _ _ _ (by first | exact nMIg rfl | (unfold MIg; omega))).trans s6) (pc' := 23) rfl ?_
  exact T_iret zk_108_23 rfl (fun σ' h => ⟨_, rfl, (by omega), h.1, ⟨h.2.1, h.2.2.1, h.2.2.2.1, h.2.2.2.2.1, h.2.2.2.2.2.1, h.2.2.2.2.2.2.1, h.2.2.2.2.2.2.2.1, h.2.2.2.2.2.2.2.2.1, trivial⟩⟩)
theorem s_109_0l {xs : Nat × (Nat → Int32)} {Q : Option Value → ZS → Prop}  (σ : ZS) (hI : Inv σ) (hc : σ 0 0 0 3 = 1) (hret : ∀ σ', IF MRs0 σ σ' → (σ' 1 0 0 5 = σ 1 1 0 5 ∧ σ' 1 0 0 6 = σ 1 1 0 6 ∧ σ' 1 0 0 7 = σ 1 1 0 7 ∧ σ' 1 0 0 10 = σ 1 1 0 10 ∧ σ' 1 0 0 11 = σ 1 1 0 11 ∧ σ' 1 0 0 12 = σ 1 1 0 12 ∧ σ' 1 0 0 13 = σ 1 1 0 13) → (∀ k : Nat, k < 8 → σ' 33 0 k 0 = rvh (σ 33 0 k 0) (σ 33 0 k 3) (σ 1 1 0 6)) → Q (some (iv (σ 1 1 0 13))) σ') : TT xs 60 109 0 [(0, av 0 0 0)] [] σ Q := by
  have q_5 : 0 ≤ σ 1 1 0 5 ∧ σ 1 1 0 5 ≤ 5 := (fun h => h.2.1 (by omega) (by omega)) (hI 1 1 0 5 (vd_1 (by omega)))
  have q_6 : 0 ≤ σ 1 1 0 6 ∧ σ 1 1 0 6 ≤ 12 := (fun h => h.2.2.1 (by omega) (by omega)) (hI 1 1 0 6 (vd_1 (by omega)))
  have q_7 : 0 ≤ σ 1 1 0 7 ∧ σ 1 1 0 7 ≤ 6 := (fun h => h.2.2.2.1 (by omega) (by omega)) (hI 1 1 0 7 (vd_1 (by omega)))
  have q_10 : 0 ≤ σ 1 1 0 10 ∧ σ 1 1 0 10 ≤ 99 := (fun h => h.2.2.2.2.1 (by omega) (by omega)) (hI 1 1 0 10 (vd_1 (by omega)))
  have q_11 : 1 ≤ σ 1 1 0 11 ∧ σ 1 1 0 11 ≤ 9 := (fun h => h.2.2.2.2.2.1 (by omega) (by omega)) (hI 1 1 0 11 (vd_1 (by omega)))
  have q_12 : 0 ≤ σ 1 1 0 12 ∧ σ 1 1 0 12 ≤ 9999 := (fun h => h.2.2.2.2.2.2 (by omega) (by omega)) (hI 1 1 0 12 (vd_1 (by omega)))
  have q_13 : -2147483648 ≤ σ 1 1 0 13 ∧ σ 1 1 0 13 ≤ 2147483647 := (fun h => (by have q := h.1; omega)) (hI 1 1 0 13 (vd_1 (by omega)))
  refine (show TJ xs (fun σ' => IF (MYr 0) σ σ' ∧ σ' 0 0 0 3 = 1 ∧ σ' 1 1 0 5 = σ 1 1 0 5 ∧ σ' 1 1 0 6 = σ 1 1 0 6 ∧ σ' 1 1 0 7 = σ 1 1 0 7 ∧ σ' 1 1 0 10 = σ 1 1 0 10 ∧ σ' 1 1 0 11 = σ 1 1 0 11 ∧ σ' 1 1 0 12 = σ 1 1 0 12 ∧ σ' 1 1 0 13 = σ 1 1 0 13 ∧ True) 60 109 0 [(0, av 0 0 0)] [] Q from ?_) σ ⟨IF.rf hI, hc, rfl, rfl, rfl, rfl, rfl, rfl, rfl, trivial⟩
  refine T_ld zk_109_0 rfl rfl rfl (pc' := 1) rfl ?_
  refine G_getX (w := 1) zk_109_1 rfl vd_0 (fun σ' h => h.2.1) (pc' := 4) rfl ?_
  refine T_if_ne zk_109_4 (by omega) (pc' := 7) rfl (fun h1 => ?_) (fun h2 => ?_)
  ·
    refine T_ld zk_109_14 rfl rfl rfl (pc' := 15) rfl ?_
    refine T_getR (t' := 1) (i' := 0) (k' := 0) zk_109_15 rfl rfl rfl vd_0 (pc' := 18) rfl ?_
    refine T_ld zk_109_18 rfl rfl rfl (pc' := 19) rfl ?_
    refine T_getR (t' := 1) (i' := 1) (k' := 0) zk_109_19 rfl rfl rfl vd_0 (pc' := 22) rfl ?_
    refine T_callv (J' := (fun σ' => IF (MYr 0) σ σ' ∧ σ' 0 0 0 3 = 1 ∧ σ' 1 1 0 5 = σ 1 1 0 5 ∧ σ' 1 1 0 6 = σ 1 1 0 6 ∧ σ' 1 1 0 7 = σ 1 1 0 7 ∧ σ' 1 1 0 10 = σ 1 1 0 10 ∧ σ' 1 1 0 11 = σ 1 1 0 11 ∧ σ' 1 1 0 12 = σ 1 1 0 12 ∧ σ' 1 1 0 13 = σ 1 1 0 13 ∧ σ' 1 0 0 5 = σ 1 1 0 5 ∧ σ' 1 0 0 6 = σ 1 1 0 6 ∧ σ' 1 0 0 7 = σ 1 1 0 7 ∧ σ' 1 0 0 10 = σ 1 1 0 10 ∧ σ' 1 0 0 11 = σ 1 1 0 11 ∧ σ' 1 0 0 12 = σ 1 1 0 12 ∧ σ' 1 0 0 13 = σ 1 1 0 13 ∧ True)) (r := []) zk_109_22 rfl rfl rfl rfl rfl rfl (Or.inr ⟨_, _, _, _, rfl, (vd_1 (by omega)), rfl⟩) (fun σ' h => (s_22l_0 (σ 1 1 0 6) (σ 1 1 0 7) (σ 1 1 0 10) (σ 1 1 0 11) (σ 1 1 0 12) (σ 1 1 0 13) (σ 1 1 0 5) (by omega) (by omega) (by omega) (by omega) (by omega) (by omega) (by omega) σ' h.1.1 (h.2.2.1) (h.2.2.2.1) (h.2.2.2.2.1) (h.2.2.2.2.2.1) (h.2.2.2.2.2.2.1) (h.2.2.2.2.2.2.2.1) (h.2.2.2.2.2.2.2.2.1)).le (Nat.le_of_ble_eq_true rfl) (fun v σ2 ⟨h1, h3, h4⟩ => ⟨h1, h.1.tr h3 sb77_7c016a8, (h3.2 _ _ _ _ (by first | exact nMY rfl | (unfold MY; omega))).trans (h.2.1), (h3.2 _ _ _ _ (by first | exact nMY rfl | (unfold MY; omega))).trans (h.2.2.1), (h3.2 _ _ _ _ (by first | exact nMY rfl | (unfold MY; omega))).trans (h.2.2.2.1), (h3.2 _ _ _ _ (by first | exact nMY rfl | (unfold MY; omega))).trans (h.2.2.2.2.1), (h3.2 _ _ _ _ (by first | exact nMY rfl | (unfold MY; omega))).trans (h.2.2.2.2.2.1), (h3.2 _ _ _ _ (by first | exact nMY rfl | (unfold MY; omega))).trans (h.2.2.2.2.2.2.1), (h3.2 _ _ _ _ (by first | exact nMY rfl | (unfold MY; omega))).trans (h.2.2.2.2.2.2.2.1), (h3.2 _ _ _ _ (by first | exact nMY rfl | (unfold MY; omega))).trans (h.2.2.2.2.2.2.2.2.1), h4.1, h4.2.1, h4.2.2.1, h4.2.2.2.1, h4.2.2.2.2.1, h4.2.2.2.2.2.1, h4.2.2.2.2.2.2.1, trivial⟩)) (pc' := 25) rfl ?_
    refine T_op zk_109_25 rfl X_ic (pc' := 26) rfl ?_
    refine T_st (L' := [(0, av 0 0 0), (1, iv 0)]) zk_109_26 (nL := 2) rfl rfl rfl rfl rfl (pc' := 27) rfl ?_
    refine fun σ' h => s_109_go 8 0 (by omega) (by omega) σ' h.1.1 (fun σ2 h1 h2 => ?_)
    rw [show σ' 1 0 0 13 = σ 1 1 0 13 from (h.2.2.2.2.2.2.2.2.2.2.2.2.2.2.2.1)]
    refine hret σ2 ((h.1.mono (fun t i k j q => by unfold MYr at q; unfold MRs0; omega)).tr h1 (fun t i k j q => by unfold MQa at q; unfold MRs0; omega)) ⟨(h1.2 1 0 0 5 (by unfold MQa; omega)).trans (h.2.2.2.2.2.2.2.2.2.1), (h1.2 1 0 0 6 (by unfold MQa; omega)).trans (h.2.2.2.2.2.2.2.2.2.2.1), (h1.2 1 0 0 7 (by unfold MQa; omega)).trans (h.2.2.2.2.2.2.2.2.2.2.2.1), (h1.2 1 0 0 10 (by unfold MQa; omega)).trans (h.2.2.2.2.2.2.2.2.2.2.2.2.1), (h1.2 1 0 0 11 (by unfold MQa; omega)).trans (h.2.2.2.2.2.2.2.2.2.2.2.2.2.1), (h1.2 1 0 0 12 (by unfold MQa; omega)).trans (h.2.2.2.2.2.2.2.2.2.2.2.2.2.2.1), (h1.2 1 0 0 13 (by unfold MQa; omega)).trans (h.2.2.2.2.2.2.2.2.2.2.2.2.2.2.2.1)⟩ (fun k hk => ?_)
    have e2 := h2 k hk
    rw [if_pos (by omega), show σ' 1 0 0 6 = σ 1 1 0 6 from (h.2.2.2.2.2.2.2.2.2.2.1), show σ' 33 0 k 0 = σ 33 0 k 0 from h.1.2 33 0 k 0 (by unfold MYr; omega), show σ' 33 0 k 3 = σ 33 0 k 3 from h.1.2 33 0 k 3 (by unfold MYr; omega)] at e2
    exact e2
  · exfalso; omega
theorem s_109l {xs : Nat × (Nat → Int32)} (a5 : Int) (a6 : Int) (a7 : Int) (a10 : Int) (a11 : Int) (a12 : Int) (a13 : Int) (σ : ZS) (hI : Inv σ) (s0 : σ 0 0 0 3 = 1) (t0 : σ 1 1 0 5 = a5) (t1 : σ 1 1 0 6 = a6) (t2 : σ 1 1 0 7 = a7) (t3 : σ 1 1 0 10 = a10) (t4 : σ 1 1 0 11 = a11) (t5 : σ 1 1 0 12 = a12) (t6 : σ 1 1 0 13 = a13) : CT xs 61 109 [av 0 0 0] σ (fun v σ' => ∃ y, v = some (iv y) ∧ (y = a13) ∧ IF MRs0 σ σ' ∧ (σ' 1 0 0 5 = a5 ∧ σ' 1 0 0 6 = a6 ∧ σ' 1 0 0 7 = a7 ∧ σ' 1 0 0 10 = a10 ∧ σ' 1 0 0 11 = a11 ∧ σ' 1 0 0 12 = a12 ∧ σ' 1 0 0 13 = a13 ∧ ((∀ k : Nat, k < 8 → σ' 33 0 k 0 = rvh (σ 33 0 k 0) (σ 33 0 k 3) a6)) ∧ True)) := by
  subst t0 t1 t2 t3 t4 t5 t6
  exact CT.of (nL := 2) rfl (Nat.le_of_ble_eq_true rfl) (L := [(0, av 0 0 0)]) rfl (s_109_0l σ hI s0 (fun σ' h1 h2 h3 => ⟨_, rfl, rfl, h1, h2.1, h2.2.1, h2.2.2.1, h2.2.2.2.1, h2.2.2.2.2.1, h2.2.2.2.2.2.1, h2.2.2.2.2.2.2, h3, trivial⟩))
