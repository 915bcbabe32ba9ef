theorem te_3 {L : Nat → Int} {n p : Int} : tk L n p = 1 → p + 3 ≤ te L n p := by
  intro h
  have a := tk_spec L n p
  by_cases c0 : ff (lt L n p) = 1
  · by_cases c1 : sg (lt L n (p + 1)) = 1
    · by_cases c2 : 0 < nd L n (p + 2)
      · have := a.2.2.2 ⟨c0, c1, c2⟩; omega
      · have := a.2.2.1 ⟨c0, c1, c2⟩; omega
    · have := a.2.1 ⟨c0, c1⟩; omega
  · have := a.1 c0; omega
theorem k_152_it {xs : Nat × (Nat → Int32)} {Q : Option Value → ZS → Prop} (p0 P O : Int) (st : List Bool) (hp0 : 0 ≤ p0 ∧ p0 ≤ 5) (σ : ZS) (hI : Inv σ) (hP : PSt σ p0 1 P 0) (hK : KM σ O st) (hend : ∀ σ', IF (MCl (Int.toNat p0)) σ σ' → PSt σ' p0 1 P 0 → KT σ' O (cls st) → Q none σ') (ih : ∀ σ' s2, IF (MCl (Int.toNat p0)) σ σ' → PSt σ' p0 1 P 0 → KM σ' O s2 → cls st = cls s2 → σ' 35 0 0 24 < σ 35 0 0 24 → TT xs 1 152 0 [(0, av 35 0 0), (1, iv p0)] [] σ' Q) : TT xs 1 152 0 [(0, av 35 0 0), (1, iv p0)] [] σ Q := by
  have hk3 := hK.2.2.1
  have hk5 := hK.2.2.2.2.1
  obtain ⟨⟨a1, a2, a3, a4, a5⟩, ⟨b1, b2, b3, b4, b5⟩, ⟨c1, c2, c3⟩, d1⟩ := id hP
  have r50 := (hI 50 0 0 (Int.toNat (σ 35 0 0 24 - 1)) vd_50).1
  refine (show TJ xs (fun σ' => IF (MCl (Int.toNat p0)) σ σ' ∧ σ' 35 0 0 22 = σ 35 0 0 22 ∧ σ' 35 0 0 24 = σ 35 0 0 24 ∧ σ' 35 0 0 25 = σ 35 0 0 25 ∧ Eq (σ' 45 0 0) (σ 45 0 0) ∧ True) 1 152 0 [(0, av 35 0 0), (1, iv p0)] [] Q from ?_) σ ⟨IF.rf hI, rfl, rfl, rfl, rfl, trivial⟩
  refine T_ld zk_152_0 rfl rfl rfl (pc' := 1) rfl ?_
  refine G_getX (w := σ 35 0 0 24) zk_152_1 rfl vd_35 (fun σ' h => h.2.2.1) (pc' := 4) rfl ?_
  refine T_if_le zk_152_4 (by omega) (pc' := 7) rfl (fun h1 => ?_) (fun h2 => ?_)
  ·
    exact T_vret zk_152_52 rfl (fun σ' h => hend σ' h.1 (PSt_same hP (h.1.2 35 0 0 19 (by unfold MCl; omega)) (h.1.2 35 0 0 20 (by unfold MCl; omega)) (h.1.2 35 0 0 21 (by unfold MCl; omega)) (h.2.1) (h.1.2 35 0 0 23 (by unfold MCl; omega)) (h.2.2.1) (h.2.2.2.2.1) (funext fun q => h.1.2 50 0 0 q (by unfold MCl; omega))) (KT_of (KM_same hK (h.2.2.1) (h.2.2.2.1) (funext fun q => h.1.2 50 0 0 q (by unfold MCl; omega))) (fun q2 => by have e1 := (h.2.2.1); have e2 := (funext fun q => h.1.2 50 0 0 q (by unfold MCl; omega)); rw [e1] at q2 ⊢; rw [e2]; omega)))
  ·
    refine T_ld zk_152_7 rfl rfl rfl (pc' := 8) rfl ?_
    refine T_getR (t' := 50) (i' := 0) (k' := 0) zk_152_8 rfl rfl rfl vd_35 (pc' := 11) rfl ?_
    refine T_ld zk_152_11 rfl rfl rfl (pc' := 12) rfl ?_
    refine G_getX (w := σ 35 0 0 24) zk_152_12 rfl vd_35 (fun σ' h => h.2.2.1) (pc' := 15) rfl ?_
    refine T_op zk_152_15 rfl X_ic (pc' := 16) rfl ?_
    refine T_op zk_152_16 rfl X_sub (pc' := 17) rfl ?_
    refine G_ialdX (w := σ 50 0 0 (Int.toNat (σ 35 0 0 24 - 1))) (ln := 120) zk_152_17 rfl rfl vd_50 (by omega) (by omega) (by omega) (fun σ' h => h.1.2 _ _ _ _ (by first | exact nMCl rfl | (unfold MCl; omega))) (pc' := 18) rfl ?_
    refine T_op zk_152_18 rfl (X_bi (v := 33) (by decide)) (pc' := 20) rfl ?_
    refine T_icmp_ne zk_152_20 (by omega) (by omega) (pc' := 23) rfl (fun h3 => ?_) (fun h4 => ?_)
    ·
      exact T_vret zk_152_52 rfl (fun σ' h => hend σ' h.1 (PSt_same hP (h.1.2 35 0 0 19 (by unfold MCl; omega)) (h.1.2 35 0 0 20 (by unfold MCl; omega)) (h.1.2 35 0 0 21 (by unfold MCl; omega)) (h.2.1) (h.1.2 35 0 0 23 (by unfold MCl; omega)) (h.2.2.1) (h.2.2.2.2.1) (funext fun q => h.1.2 50 0 0 q (by unfold MCl; omega))) (KT_of (KM_same hK (h.2.2.1) (h.2.2.2.1) (funext fun q => h.1.2 50 0 0 q (by unfold MCl; omega))) (fun q2 => by have e1 := (h.2.2.1); have e2 := (funext fun q => h.1.2 50 0 0 q (by unfold MCl; omega)); rw [e1] at q2 ⊢; rw [e2]; omega)))
    ·
      refine T_ld zk_152_23 rfl rfl rfl (pc' := 24) rfl ?_
      refine T_op (st' := [av 35 0 0, av 35 0 0]) zk_152_24 rfl rfl (pc' := 25) rfl ?_
      refine G_getX (w := σ 35 0 0 24) zk_152_25 rfl vd_35 (fun σ' h => h.2.2.1) (pc' := 28) rfl ?_
      refine T_op zk_152_28 rfl X_ic (pc' := 29) rfl ?_
      refine T_op zk_152_29 rfl X_sub (pc' := 30) rfl ?_
      refine T_putf (J' := (fun σ' => IF (MCl (Int.toNat p0)) σ σ' ∧ σ' 35 0 0 22 = σ 35 0 0 22 ∧ σ' 35 0 0 25 = σ 35 0 0 25 ∧ Eq (σ' 45 0 0) (σ 45 0 0) ∧ σ' 35 0 0 24 = σ 35 0 0 24 - 1 ∧ True)) zk_152_30 rfl rfl vd_35 (fun σ' h => ⟨h.1.up (by simp only [rgP] <;> omega) (by first | exact pMCl rfl | (unfold MCl; omega)), (up_ne (by omega)).trans (h.2.1), (up_ne (by omega)).trans (h.2.2.2.1), gf_mk (fun z => Eq z (σ 45 0 0)) (up_row (by omega)) (h.2.2.2.2.1), up_eq, trivial⟩) (pc' := 33) rfl ?_
      refine T_ld zk_152_33 rfl rfl rfl (pc' := 34) rfl ?_
      refine T_op (st' := [av 35 0 0, av 35 0 0]) zk_152_34 rfl rfl (pc' := 35) rfl ?_
      refine G_getX (w := σ 35 0 0 25) zk_152_35 rfl vd_35 (fun σ' h => h.2.2.1) (pc' := 38) rfl ?_
      refine T_op zk_152_38 rfl X_ic (pc' := 39) rfl ?_
      refine T_op zk_152_39 rfl X_sub (pc' := 40) rfl ?_
      refine T_putf (J' := (fun σ' => IF (MCl (Int.toNat p0)) σ σ' ∧ σ' 35 0 0 22 = σ 35 0 0 22 ∧ Eq (σ' 45 0 0) (σ 45 0 0) ∧ σ' 35 0 0 24 = σ 35 0 0 24 - 1 ∧ σ' 35 0 0 25 = σ 35 0 0 25 - 1 ∧ True)) zk_152_40 rfl rfl vd_35 (fun σ' h => ⟨h.1.up (by simp only [rgP] <;> omega) (by first | exact pMCl rfl | (unfold MCl; omega)), (up_ne (by omega)).trans (h.2.1), gf_mk (fun z => Eq z (σ 45 0 0)) (up_row (by omega)) (h.2.2.2.1), (up_ne (by omega)).trans (h.2.2.2.2.1), up_eq, trivial⟩) (pc' := 43) rfl ?_
      refine T_ld zk_152_43 rfl rfl rfl (pc' := 44) rfl ?_
      refine T_ld zk_152_44 rfl rfl rfl (pc' := 45) rfl ?_
      refine T_op zk_152_45 rfl X_ic (pc' := 46) rfl ?_
      refine T_callv (J' := (fun σ' => IF (MCl (Int.toNat p0)) σ σ' ∧ σ' 35 0 0 24 = σ 35 0 0 24 - 1 ∧ σ' 35 0 0 25 = σ 35 0 0 25 - 1 ∧ σ' 35 0 0 22 = σ 35 0 0 22 + 1 ∧ Eq (σ' 45 0 0) (fun q => if q = Int.toNat (120 * p0 + (σ 35 0 0 22)) then (-1) else (σ 45 0 0) q) ∧ True)) (r := []) zk_152_46 rfl rfl rfl rfl rfl rfl (Or.inr ⟨_, _, _, _, rfl, vd_35, rfl⟩) (fun σ' h => (m_151 p0 ((-1)) (σ 35 0 0 22) ((σ 45 0 0)) (by omega) (by omega) (by omega) σ' h.1.1 (h.2.1) (h.2.2.1)).le (Nat.le_of_ble_eq_true rfl) (fun v σ2 ⟨h1, h3, h4⟩ => ⟨h1, h.1.tr h3 (fun t i k j h => by unfold MEm at h; unfold MCl; omega), (h3.2 _ _ _ _ (by first | exact nMEm rfl | (unfold MEm; omega))).trans (h.2.2.2.1), (h3.2 _ _ _ _ (by first | exact nMEm rfl | (unfold MEm; omega))).trans (h.2.2.2.2.1), h4.1, h4.2.1, trivial⟩)) (pc' := 49) rfl ?_
      refine T_goto zk_152_49 ?_
      exact fun σ' h => Exists.elim (KM_close (σ' := σ') hK (by omega) (by omega) (h.2.1) (by rw [(h.2.2.1)]) (funext fun q => h.1.2 50 0 0 q (by unfold MCl; omega))) (fun s2 hs => ih σ' s2 h.1 (PSt_close hP (by omega) (by omega) (by omega) (h.2.1) (h.2.2.2.1) (h.2.2.2.2.1) (funext fun q => h.1.2 50 0 0 q (by unfold MCl; omega)) (h.1.2 35 0 0 19 (by unfold MCl; omega)) (h.1.2 35 0 0 20 (by unfold MCl; omega)) (h.1.2 35 0 0 21 (by unfold MCl; omega)) (h.1.2 35 0 0 23 (by unfold MCl; omega))) hs.2 hs.1 (by rw [(h.2.1)]; omega))
theorem k_152_go {xs : Nat × (Nat → Int32)} {Q : Option Value → ZS → Prop} (p0 P O : Int) (hp0 : 0 ≤ p0 ∧ p0 ≤ 5) : ∀ (n : Nat) (σ : ZS) (st : List Bool), Inv σ → PSt σ p0 1 P 0 → KM σ O st → σ 35 0 0 24 ≤ n → (∀ σ', IF (MCl (Int.toNat p0)) σ σ' → PSt σ' p0 1 P 0 → KT σ' O (cls st) → Q none σ') → TT xs 1 152 0 [(0, av 35 0 0), (1, iv p0)] [] σ Q := by
  intro n
  induction n with
  | zero => exact fun σ st hI hP hK hn hend => k_152_it p0 P O st hp0 σ hI hP hK hend (fun σ' s2 _ _ h3 _ h5 => absurd h3.2.2.2.2.2 (by omega))
  | succ n IHn => exact fun σ st hI hP hK hn hend => k_152_it p0 P O st hp0 σ hI hP hK hend (fun σ' s2 h1 h2 h3 h4 h5 => IHn σ' s2 h1.1 h2 h3 (by omega) (fun σ2 g1 g2 g3 => hend σ2 (h1.tr g1 (fun _ _ _ _ q => q)) g2 (h4 ▸ g3)))
theorem k_152 {xs : Nat × (Nat → Int32)} (p0 pp oo : Int) (ss : List Bool) (hp0 : 0 ≤ p0 ∧ p0 ≤ 5) (σ : ZS) (hI : Inv σ) (s1 : PSt σ p0 1 pp 0) (s2 : KM σ oo ss) : CT xs 2 152 [av 35 0 0, iv p0] σ (fun v σ' => v = none ∧ IF (MCl (Int.toNat p0)) σ σ' ∧ ((PSt σ' p0 1 pp 0) ∧ (KT σ' oo (cls ss)) ∧ True)) :=
  CT.of (nL := 2) rfl (Nat.le_of_ble_eq_true rfl) (L := [(0, av 35 0 0), (1, iv p0)]) rfl (k_152_go p0 pp oo hp0 (σ 35 0 0 24).toNat σ ss hI s1 s2 (by omega) (fun σ' h1 h2 h3 => ⟨rfl, h1, h2, h3, trivial⟩))
theorem k_153_it {xs : Nat × (Nat → Int32)} {Q : Option Value → ZS → Prop} (p0 p1 P O : Int) (st : List Bool) (hp0 : 0 ≤ p0 ∧ p0 ≤ 5) (hp1 : 0 ≤ p1 ∧ p1 ≤ 1) (σ : ZS) (hI : Inv σ) (hP : PSt σ p0 1 P 0) (hK : KT σ O st) (hend : ∀ σ', IF (MCl (Int.toNat p0)) σ σ' → PSt σ' p0 1 P 0 → KT σ' O st → (p1 = 0 → 0 < σ' 35 0 0 24 → ¬ (σ' 50 0 0 (Int.toNat (σ' 35 0 0 24 - 1)) = 38 ∨ σ' 50 0 0 (Int.toNat (σ' 35 0 0 24 - 1)) = 124)) → Q none σ') (ih : ∀ σ', IF (MCl (Int.toNat p0)) σ σ' → PSt σ' p0 1 P 0 → KT σ' O st → σ' 35 0 0 24 < σ 35 0 0 24 → TT xs 1 153 0 [(0, av 35 0 0), (1, iv p0), (2, iv p1)] [] σ' Q) : TT xs 1 153 0 [(0, av 35 0 0), (1, iv p0), (2, iv p1)] [] σ Q := by
  have hk3 := hK.1.2.2.1
  have hk5 := hK.1.2.2.2.2.1
  obtain ⟨⟨a1, a2, a3, a4, a5⟩, ⟨b1, b2, b3, b4, b5⟩, ⟨c1, c2, c3⟩, d1⟩ := id hP
  have r50 := (hI 50 0 0 (Int.toNat (σ 35 0 0 24 - 1)) vd_50).1
  refine (show TJ xs (fun σ' => IF (MCl (Int.toNat p0)) σ σ' ∧ σ' 35 0 0 22 = σ 35 0 0 22 ∧ σ' 35 0 0 24 = σ 35 0 0 24 ∧ σ' 35 0 0 25 = σ 35 0 0 25 ∧ Eq (σ' 45 0 0) (σ 45 0 0) ∧ True) 1 153 0 [(0, av 35 0 0), (1, iv p0), (2, iv p1)] [] Q from ?_) σ ⟨IF.rf hI, rfl, rfl, rfl, rfl, trivial⟩
  refine T_ld zk_153_0 rfl rfl rfl (pc' := 1) rfl ?_
  refine G_getX (w := σ 35 0 0 24) zk_153_1 rfl vd_35 (fun σ' h => h.2.2.1) (pc' := 4) rfl ?_
  refine T_if_le zk_153_4 (by omega) (pc' := 7) rfl (fun h1 => ?_) (fun h2 => ?_)
  ·
    exact T_vret zk_153_82 rfl (fun σ' h => hend σ' h.1 (PSt_same hP (h.1.2 35 0 0 19 (by unfold MCl; omega)) (h.1.2 35 0 0 20 (by unfold MCl; omega)) (h.1.2 35 0 0 21 (by unfold MCl; omega)) (h.2.1) (h.1.2 35 0 0 23 (by unfold MCl; omega)) (h.2.2.1) (h.2.2.2.2.1) (funext fun q => h.1.2 50 0 0 q (by unfold MCl; omega))) (KT_same hK (h.2.2.1) (h.2.2.2.1) (funext fun q => h.1.2 50 0 0 q (by unfold MCl; omega))) (fun q1 q2 => by have e1 := (h.2.2.1); have e2 := (funext fun q => h.1.2 50 0 0 q (by unfold MCl; omega)); rw [e1] at q2 ⊢; rw [e2]; omega))
  ·
    refine T_ld zk_153_7 rfl rfl rfl (pc' := 8) rfl ?_
    refine T_getR (t' := 50) (i' := 0) (k' := 0) zk_153_8 rfl rfl rfl vd_35 (pc' := 11) rfl ?_
    refine T_ld zk_153_11 rfl rfl rfl (pc' := 12) rfl ?_
    refine G_getX (w := σ 35 0 0 24) zk_153_12 rfl vd_35 (fun σ' h => h.2.2.1) (pc' := 15) rfl ?_
    refine T_op zk_153_15 rfl X_ic (pc' := 16) rfl ?_
    refine T_op zk_153_16 rfl X_sub (pc' := 17) rfl ?_
    refine G_ialdX (w := σ 50 0 0 (Int.toNat (σ 35 0 0 24 - 1))) (ln := 120) zk_153_17 rfl rfl vd_50 (by omega) (by omega) (by omega) (fun σ' h => h.1.2 _ _ _ _ (by first | exact nMCl rfl | (unfold MCl; omega))) (pc' := 18) rfl ?_
    refine T_op zk_153_18 rfl (X_bi (v := 38) (by decide)) (pc' := 20) rfl ?_
    refine T_icmp_eq zk_153_20 (by omega) (by omega) (pc' := 23) rfl (fun h3 => ?_) (fun h4 => ?_)
    ·
      refine T_ld zk_153_43 rfl rfl rfl (pc' := 44) rfl ?_
      refine T_op (st' := [av 35 0 0, av 35 0 0]) zk_153_44 rfl rfl (pc' := 45) rfl ?_
      refine G_getX (w := σ 35 0 0 24) zk_153_45 rfl vd_35 (fun σ' h => h.2.2.1) (pc' := 48) rfl ?_
      refine T_op zk_153_48 rfl X_ic (pc' := 49) rfl ?_
      refine T_op zk_153_49 rfl X_sub (pc' := 50) rfl ?_
      refine T_putf (J' := (fun σ' => IF (MCl (Int.toNat p0)) σ σ' ∧ σ' 35 0 0 22 = σ 35 0 0 22 ∧ σ' 35 0 0 25 = σ 35 0 0 25 ∧ Eq (σ' 45 0 0) (σ 45 0 0) ∧ σ' 35 0 0 24 = σ 35 0 0 24 - 1 ∧ True)) zk_153_50 rfl rfl vd_35 (fun σ' h => ⟨h.1.up (by simp only [rgP] <;> omega) (by first | exact pMCl rfl | (unfold MCl; omega)), (up_ne (by omega)).trans (h.2.1), (up_ne (by omega)).trans (h.2.2.2.1), gf_mk (fun z => Eq z (σ 45 0 0)) (up_row (by omega)) (h.2.2.2.2.1), up_eq, trivial⟩) (pc' := 53) rfl ?_
      refine T_ld zk_153_53 rfl rfl rfl (pc' := 54) rfl ?_
      refine T_ld zk_153_54 rfl rfl rfl (pc' := 55) rfl ?_
      refine T_ld zk_153_55 rfl rfl rfl (pc' := 56) rfl ?_
      refine T_getR (t' := 50) (i' := 0) (k' := 0) zk_153_56 rfl rfl rfl vd_35 (pc' := 59) rfl ?_
      refine T_ld zk_153_59 rfl rfl rfl (pc' := 60) rfl ?_
      refine G_getX (w := σ 35 0 0 24 - 1) zk_153_60 rfl vd_35 (fun σ' h => h.2.2.2.2.1) (pc' := 63) rfl ?_
      refine G_ialdX (w := σ 50 0 0 (Int.toNat (σ 35 0 0 24 - 1))) (ln := 120) zk_153_63 rfl rfl vd_50 (by omega) (by omega) (by omega) (fun σ' h => h.1.2 _ _ _ _ (by first | exact nMCl rfl | (unfold MCl; omega))) (pc' := 64) rfl ?_
      refine T_op zk_153_64 rfl (X_bi (v := 38) (by decide)) (pc' := 66) rfl ?_
      refine T_icmp_ne zk_153_66 (by omega) (by omega) (pc' := 69) rfl (fun h5 => ?_) (fun h6 => ?_)
      · exfalso; omega
      ·
        refine T_op zk_153_69 rfl (X_bi (v := -2) (by decide)) (pc' := 71) rfl ?_
        refine T_goto zk_153_71 ?_
        refine T_callv (J' := (fun σ' => IF (MCl (Int.toNat p0)) σ σ' ∧ σ' 35 0 0 25 = σ 35 0 0 25 ∧ σ' 35 0 0 24 = σ 35 0 0 24 - 1 ∧ σ' 35 0 0 22 = σ 35 0 0 22 + 1 ∧ Eq (σ' 45 0 0) (fun q => if q = Int.toNat (120 * p0 + (σ 35 0 0 22)) then (-2) else (σ 45 0 0) q) ∧ True)) (r := []) zk_153_76 rfl rfl rfl rfl rfl rfl (Or.inr ⟨_, _, _, _, rfl, vd_35, rfl⟩) (fun σ' h => (m_151 p0 ((-2)) (σ 35 0 0 22) ((σ 45 0 0)) (by omega) (by omega) (by omega) σ' h.1.1 (h.2.1) (h.2.2.2.1)).le (Nat.le_of_ble_eq_true rfl) (fun v σ2 ⟨h1, h3, h4⟩ => ⟨h1, h.1.tr h3 (fun t i k j h => by unfold MEm at h; unfold MCl; omega), (h3.2 _ _ _ _ (by first | exact nMEm rfl | (unfold MEm; omega))).trans (h.2.2.1), (h3.2 _ _ _ _ (by first | exact nMEm rfl | (unfold MEm; omega))).trans (h.2.2.2.2.1), h4.1, h4.2.1, trivial⟩)) (pc' := 79) rfl ?_
        refine T_goto zk_153_79 ?_
        exact fun σ' h => ih σ' h.1 (PSt_pop hP (by omega) (by omega) (by omega) (by omega) (h.2.2.1) (h.2.2.2.1) (h.2.2.2.2.1) (funext fun q => h.1.2 50 0 0 q (by unfold MCl; omega)) (h.1.2 35 0 0 19 (by unfold MCl; omega)) (h.1.2 35 0 0 20 (by unfold MCl; omega)) (h.1.2 35 0 0 21 (by unfold MCl; omega)) (h.1.2 35 0 0 23 (by unfold MCl; omega))) (KT_pop hK (by omega) (by omega) (h.2.2.1) (h.2.1) (funext fun q => h.1.2 50 0 0 q (by unfold MCl; omega))) (by rw [(h.2.2.1)]; omega)
    ·
      refine T_ld zk_153_23 rfl rfl rfl (pc' := 24) rfl ?_
      refine T_getR (t' := 50) (i' := 0) (k' := 0) zk_153_24 rfl rfl rfl vd_35 (pc' := 27) rfl ?_
      refine T_ld zk_153_27 rfl rfl rfl (pc' := 28) rfl ?_
      refine G_getX (w := σ 35 0 0 24) zk_153_28 rfl vd_35 (fun σ' h => h.2.2.1) (pc' := 31) rfl ?_
      refine T_op zk_153_31 rfl X_ic (pc' := 32) rfl ?_
      refine T_op zk_153_32 rfl X_sub (pc' := 33) rfl ?_
      refine G_ialdX (w := σ 50 0 0 (Int.toNat (σ 35 0 0 24 - 1))) (ln := 120) zk_153_33 rfl rfl vd_50 (by omega) (by omega) (by omega) (fun σ' h => h.1.2 _ _ _ _ (by first | exact nMCl rfl | (unfold MCl; omega))) (pc' := 34) rfl ?_
      refine T_op zk_153_34 rfl (X_bi (v := 124) (by decide)) (pc' := 36) rfl ?_
      refine T_icmp_ne zk_153_36 (by omega) (by omega) (pc' := 39) rfl (fun h8 => ?_) (fun h9 => ?_)
      ·
        exact T_vret zk_153_82 rfl (fun σ' h => hend σ' h.1 (PSt_same hP (h.1.2 35 0 0 19 (by unfold MCl; omega)) (h.1.2 35 0 0 20 (by unfold MCl; omega)) (h.1.2 35 0 0 21 (by unfold MCl; omega)) (h.2.1) (h.1.2 35 0 0 23 (by unfold MCl; omega)) (h.2.2.1) (h.2.2.2.2.1) (funext fun q => h.1.2 50 0 0 q (by unfold MCl; omega))) (KT_same hK (h.2.2.1) (h.2.2.2.1) (funext fun q => h.1.2 50 0 0 q (by unfold MCl; omega))) (fun q1 q2 => by have e1 := (h.2.2.1); have e2 := (funext fun q => h.1.2 50 0 0 q (by unfold MCl; omega)); rw [e1] at q2 ⊢; rw [e2]; omega))
      ·
        refine T_ld zk_153_39 rfl rfl rfl (pc' := 40) rfl ?_
        refine T_if_ne zk_153_40 (by omega) (pc' := 43) rfl (fun h10 => ?_) (fun h11 => ?_)
        ·
          exact T_vret zk_153_82 rfl (fun σ' h => hend σ' h.1 (PSt_same hP (h.1.2 35 0 0 19 (by unfold MCl; omega)) (h.1.2 35 0 0 20 (by unfold MCl; omega)) (h.1.2 35 0 0 21 (by unfold MCl; omega)) (h.2.1) (h.1.2 35 0 0 23 (by unfold MCl; omega)) (h.2.2.1) (h.2.2.2.2.1) (funext fun q => h.1.2 50 0 0 q (by unfold MCl; omega))) (KT_same hK (h.2.2.1) (h.2.2.2.1) (funext fun q => h.1.2 50 0 0 q (by unfold MCl; omega))) (fun q1 q2 => by have e1 := (h.2.2.1); have e2 := (funext fun q => h.1.2 50 0 0 q (by unfold MCl; omega)); rw [e1] at q2 ⊢; rw [e2]; omega))
        ·
          refine T_ld zk_153_43 rfl rfl rfl (pc' := 44) rfl ?_
          refine T_op (st' := [av 35 0 0, av 35 0 0]) zk_153_44 rfl rfl (pc' := 45) rfl ?_
          refine G_getX (w := σ 35 0 0 24) zk_153_45 rfl vd_35 (fun σ' h => h.2.2.1) (pc' := 48) rfl ?_
          refine T_op zk_153_48 rfl X_ic (pc' := 49) rfl ?_
          refine T_op zk_153_49 rfl X_sub (pc' := 50) rfl ?_
          refine T_putf (J' := (fun σ' => IF (MCl (Int.toNat p0)) σ σ' ∧ σ' 35 0 0 22 = σ 35 0 0 22 ∧ σ' 35 0 0 25 = σ 35 0 0 25 ∧ Eq (σ' 45 0 0) (σ 45 0 0) ∧ σ' 35 0 0 24 = σ 35 0 0 24 - 1 ∧ True)) zk_153_50 rfl rfl vd_35 (fun σ' h => ⟨h.1.up (by simp only [rgP] <;> omega) (by first | exact pMCl rfl | (unfold MCl; omega)), (up_ne (by omega)).trans (h.2.1), (up_ne (by omega)).trans (h.2.2.2.1), gf_mk (fun z => Eq z (σ 45 0 0)) (up_row (by omega)) (h.2.2.2.2.1), up_eq, trivial⟩) (pc' := 53) rfl ?_
          refine T_ld zk_153_53 rfl rfl rfl (pc' := 54) rfl ?_
          refine T_ld zk_153_54 rfl rfl rfl (pc' := 55) rfl ?_
          refine T_ld zk_153_55 rfl rfl rfl (pc' := 56) rfl ?_
          refine T_getR (t' := 50) (i' := 0) (k' := 0) zk_153_56 rfl rfl rfl vd_35 (pc' := 59) rfl ?_
          refine T_ld zk_153_59 rfl rfl rfl (pc' := 60) rfl ?_
          refine G_getX (w := σ 35 0 0 24 - 1) zk_153_60 rfl vd_35 (fun σ' h => h.2.2.2.2.1) (pc' := 63) rfl ?_
          refine G_ialdX (w := σ 50 0 0 (Int.toNat (σ 35 0 0 24 - 1))) (ln := 120) zk_153_63 rfl rfl vd_50 (by omega) (by omega) (by omega) (fun σ' h => h.1.2 _ _ _ _ (by first | exact nMCl rfl | (unfold MCl; omega))) (pc' := 64) rfl ?_
          refine T_op zk_153_64 rfl (X_bi (v := 38) (by decide)) (pc' := 66) rfl ?_
          refine T_icmp_ne zk_153_66 (by omega) (by omega) (pc' := 69) rfl (fun h12 => ?_) (fun h13 => ?_)
          ·
            refine T_op zk_153_74 rfl (X_bi (v := -3) (by decide)) (pc' := 76) rfl ?_
            refine T_callv (J' := (fun σ' => IF (MCl (Int.toNat p0)) σ σ' ∧ σ' 35 0 0 25 = σ 35 0 0 25 ∧ σ' 35 0 0 24 = σ 35 0 0 24 - 1 ∧ σ' 35 0 0 22 = σ 35 0 0 22 + 1 ∧ Eq (σ' 45 0 0) (fun q => if q = Int.toNat (120 * p0 + (σ 35 0 0 22)) then (-3) else (σ 45 0 0) q) ∧ True)) (r := []) zk_153_76 rfl rfl rfl rfl rfl rfl (Or.inr ⟨_, _, _, _, rfl, vd_35, rfl⟩) (fun σ' h => (m_151 p0 ((-3)) (σ 35 0 0 22) ((σ 45 0 0)) (by omega) (by omega) (by omega) σ' h.1.1 (h.2.1) (h.2.2.2.1)).le (Nat.le_of_ble_eq_true rfl) (fun v σ2 ⟨h1, h3, h4⟩ => ⟨h1, h.1.tr h3 (fun t i k j h => by unfold MEm at h; unfold MCl; omega), (h3.2 _ _ _ _ (by first | exact nMEm rfl | (unfold MEm; omega))).trans (h.2.2.1), (h3.2 _ _ _ _ (by first | exact nMEm rfl | (unfold MEm; omega))).trans (h.2.2.2.2.1), h4.1, h4.2.1, trivial⟩)) (pc' := 79) rfl ?_
            refine T_goto zk_153_79 ?_
            exact fun σ' h => ih σ' h.1 (PSt_pop hP (by omega) (by omega) (by omega) (by omega) (h.2.2.1) (h.2.2.2.1) (h.2.2.2.2.1) (funext fun q => h.1.2 50 0 0 q (by unfold MCl; omega)) (h.1.2 35 0 0 19 (by unfold MCl; omega)) (h.1.2 35 0 0 20 (by unfold MCl; omega)) (h.1.2 35 0 0 21 (by unfold MCl; omega)) (h.1.2 35 0 0 23 (by unfold MCl; omega))) (KT_pop hK (by omega) (by omega) (h.2.2.1) (h.2.1) (funext fun q => h.1.2 50 0 0 q (by unfold MCl; omega))) (by rw [(h.2.2.1)]; omega)
          · exfalso; omega
theorem k_153_go {xs : Nat × (Nat → Int32)} {Q : Option Value → ZS → Prop} (p0 p1 P O : Int) (st : List Bool) (hp0 : 0 ≤ p0 ∧ p0 ≤ 5) (hp1 : 0 ≤ p1 ∧ p1 ≤ 1) : ∀ (n : Nat) (σ : ZS), Inv σ → PSt σ p0 1 P 0 → KT σ O st → σ 35 0 0 24 ≤ n → (∀ σ', IF (MCl (Int.toNat p0)) σ σ' → PSt σ' p0 1 P 0 → KT σ' O st → (p1 = 0 → 0 < σ' 35 0 0 24 → ¬ (σ' 50 0 0 (Int.toNat (σ' 35 0 0 24 - 1)) = 38 ∨ σ' 50 0 0 (Int.toNat (σ' 35 0 0 24 - 1)) = 124)) → Q none σ') → TT xs 1 153 0 [(0, av 35 0 0), (1, iv p0), (2, iv p1)] [] σ Q := by
  intro n
  induction n with
  | zero => exact fun σ hI hP hK hn hend => k_153_it p0 p1 P O st hp0 hp1 σ hI hP hK hend (fun σ' _ _ h3 h5 => absurd h3.1.2.2.2.2.2 (by omega))
  | succ n IHn => exact fun σ hI hP hK hn hend => k_153_it p0 p1 P O st hp0 hp1 σ hI hP hK hend (fun σ' h1 h2 h3 h5 => IHn σ' h1.1 h2 h3 (by omega) (fun σ2 g1 => hend σ2 (h1.tr g1 (fun _ _ _ _ q => q))))
theorem k_153 {xs : Nat × (Nat → Int32)} (p0 p1 pp oo : Int) (ss : List Bool) (hp0 : 0 ≤ p0 ∧ p0 ≤ 5) (hp1 : 0 ≤ p1 ∧ p1 ≤ 1) (σ : ZS) (hI : Inv σ) (s1 : PSt σ p0 1 pp 0) (s2 : KT σ oo ss) : CT xs 2 153 [av 35 0 0, iv p0, iv p1] σ (fun v σ' => v = none ∧ IF (MCl (Int.toNat p0)) σ σ' ∧ ((PSt σ' p0 1 pp 0) ∧ (KT σ' oo ss) ∧ (p1 = 0 → 0 < σ' 35 0 0 24 → ¬ (σ' 50 0 0 (Int.toNat (σ' 35 0 0 24 - 1)) = 38 ∨ σ' 50 0 0 (Int.toNat (σ' 35 0 0 24 - 1)) = 124)) ∧ True)) :=
  CT.of (nL := 3) rfl (Nat.le_of_ble_eq_true rfl) (L := [(0, av 35 0 0), (1, iv p0), (2, iv p1)]) rfl (k_153_go p0 p1 pp oo ss hp0 hp1 (σ 35 0 0 24).toNat σ hI s1 s2 (by omega) (fun σ' h1 h2 h3 h4 => ⟨rfl, h1, h2, h3, h4, trivial⟩))
theorem k_154_e {xs : Nat × (Nat → Int32)} {Q : Option Value → ZS → Prop} (p0 p1 O T0 n b R : Int) (F : Nat → Int) (st : List Bool) (hp0 : 0 ≤ p0 ∧ p0 ≤ 7) (hp1 : 0 ≤ p1 ∧ p1 ≤ 5) (σ : ZS) (hI : Inv σ) (P : Int) (hP : PSt σ p1 1 P 0) (hR : R = -1) (hret : ∀ y σ', IF (MCo (Int.toNat p1)) σ σ' → (-1 ≤ y ∧ y ≤ 96) → (y = -1 → okc (σ' 45 0 0) (Int.toNat (120 * p1)) (Int.toNat (σ' 44 0 0 (Int.toNat p1)))) → y = R → Q (some (iv y)) σ') : TT xs 6 154 445 [(0, av 35 0 0), (1, iv p0), (2, iv p1), (3, iv O), (4, iv 0)] [] σ Q := by
  obtain ⟨⟨a1, a2, a3, a4, a5⟩, ⟨b1, b2, b3, b4, b5⟩, ⟨c1, c2, c3⟩, d1⟩ := id hP
  refine (show TJ xs (fun σ' => IF (MCo (Int.toNat p1)) σ σ' ∧ σ' 35 0 0 19 = σ 35 0 0 19 ∧ σ' 35 0 0 20 = σ 35 0 0 20 ∧ σ' 35 0 0 21 = σ 35 0 0 21 ∧ σ' 35 0 0 22 = σ 35 0 0 22 ∧ σ' 35 0 0 23 = σ 35 0 0 23 ∧ σ' 35 0 0 24 = σ 35 0 0 24 ∧ σ' 35 0 0 25 = σ 35 0 0 25 ∧ Eq (σ' 45 0 0) (σ 45 0 0) ∧ Eq (σ' 50 0 0) (σ 50 0 0) ∧ True) 6 154 445 [(0, av 35 0 0), (1, iv p0), (2, iv p1), (3, iv O), (4, iv 0)] [] Q from ?_) σ ⟨IF.rf hI, rfl, rfl, rfl, rfl, rfl, rfl, rfl, rfl, rfl, trivial⟩
  refine T_ld zk_154_445 rfl rfl rfl (pc' := 446) rfl ?_
  refine T_getR (t' := 44) (i' := 0) (k' := 0) zk_154_446 rfl rfl rfl vd_35 (pc' := 449) rfl ?_
  refine T_ld zk_154_449 rfl rfl rfl (pc' := 450) rfl ?_
  refine T_ld zk_154_450 rfl rfl rfl (pc' := 451) rfl ?_
  refine G_getX (w := σ 35 0 0 22) zk_154_451 rfl vd_35 (fun σ' h => h.2.2.2.2.1) (pc' := 454) rfl ?_
  refine G_iast (J' := (fun σ' => IF (MCo (Int.toNat p1)) σ σ' ∧ σ' 35 0 0 19 = σ 35 0 0 19 ∧ σ' 35 0 0 20 = σ 35 0 0 20 ∧ σ' 35 0 0 21 = σ 35 0 0 21 ∧ σ' 35 0 0 22 = σ 35 0 0 22 ∧ σ' 35 0 0 23 = σ 35 0 0 23 ∧ σ' 35 0 0 24 = σ 35 0 0 24 ∧ σ' 35 0 0 25 = σ 35 0 0 25 ∧ Eq (σ' 45 0 0) (σ 45 0 0) ∧ Eq (σ' 50 0 0) (σ 50 0 0) ∧ σ' 44 0 0 (Int.toNat p1) = σ 35 0 0 22 ∧ True)) (ln := 6) zk_154_454 rfl rfl vd_44 (by omega) (by omega) (by omega) (fun σ' h => ⟨h.1.up (by simp only [rgP] <;> omega) (by first | exact pMCo rfl | (unfold MCo; omega)), (up_ne (by omega)).trans (h.2.1), (up_ne (by omega)).trans (h.2.2.1), (up_ne (by omega)).trans (h.2.2.2.1), (up_ne (by omega)).trans (h.2.2.2.2.1), (up_ne (by omega)).trans (h.2.2.2.2.2.1), (up_ne (by omega)).trans (h.2.2.2.2.2.2.1), (up_ne (by omega)).trans (h.2.2.2.2.2.2.2.1), gf_mk (fun z => Eq z (σ 45 0 0)) (up_row (by omega)) (h.2.2.2.2.2.2.2.2.1), gf_mk (fun z => Eq z (σ 50 0 0)) (up_row (by omega)) (h.2.2.2.2.2.2.2.2.2.1), up_eq, trivial⟩) (pc' := 455) rfl ?_
  refine T_op zk_154_455 rfl X_ic (pc' := 456) rfl ?_
  exact T_iret zk_154_456 rfl (fun σ' h => hret _ σ' h.1 (by omega) (fun _ => by rw [(h.2.2.2.2.2.2.2.2.1), show σ' 44 0 0 (Int.toNat p1) = _ from h.2.2.2.2.2.2.2.2.2.2.1]; exact c1) hR.symm)
theorem k_154_c {xs : Nat × (Nat → Int32)} {Q : Option Value → ZS → Prop} (p0 p1 O T0 c n b R : Int) (F : Nat → Int) (st : List Bool) (hp0 : 0 ≤ p0 ∧ p0 ≤ 7) (hp1 : 0 ≤ p1 ∧ p1 ≤ 5) (hcc : -2147483648 ≤ c ∧ c ≤ 2147483647) (σ : ZS) (hI : Inv σ) (hP : PSt σ p1 1 O 0) (hO : 0 ≤ O ∧ O ≤ σ 35 0 0 19) (hlt : σ 35 0 0 19 < σ 35 0 0 20) (hT : T0 ≤ σ 35 0 0 19) (hc : c = 38 ∨ c = 124) (hK : KT σ O st) (hq41 : σ 41 0 0 = F) (hq20 : σ 35 0 0 20 = n) (hq21 : σ 35 0 0 21 = b) (hR : R = RUN (LC F b) n (σ 35 0 0 19 + 1) st 1) (hgo : ∀ σ' O' W' st', IF (MCo (Int.toNat p1)) σ σ' → PSt σ' p1 (1 - W') O' 0 → (0 ≤ O' ∧ O' ≤ σ' 35 0 0 19) → (W' = 0 ∨ W' = 1) → T0 < σ' 35 0 0 19 → (σ' 41 0 0 = F ∧ σ' 35 0 0 20 = n ∧ σ' 35 0 0 21 = b ∧ (W' = 1 → KM σ' O' st') ∧ (W' = 0 → KT σ' O' st') ∧ R = RUN (LC F b) n (σ' 35 0 0 19) st' W') → TT xs 6 154 153 [(0, av 35 0 0), (1, iv p0), (2, iv p1), (3, iv (O')), (4, iv (W'))] [] σ' Q) : TT xs 6 154 325 [(0, av 35 0 0), (1, iv p0), (2, iv p1), (3, iv O), (4, iv 0), (5, iv c)] [] σ Q := by
  have hk3 := hK.1.2.2.1
  have hk5 := hK.1.2.2.2.2.1
  obtain ⟨⟨a1, a2, a3, a4, a5⟩, ⟨b1, b2, b3, b4, b5⟩, ⟨c1, c2, c3⟩, d1⟩ := id hP
  have hb1 := bB_spec c
  have hb2 := bP_spec c
  refine (show TJ xs (fun σ' => IF (MCo (Int.toNat p1)) σ σ' ∧ σ' 35 0 0 19 = σ 35 0 0 19 ∧ σ' 35 0 0 20 = σ 35 0 0 20 ∧ σ' 35 0 0 21 = σ 35 0 0 21 ∧ σ' 35 0 0 22 = σ 35 0 0 22 ∧ σ' 35 0 0 23 = σ 35 0 0 23 ∧ σ' 35 0 0 24 = σ 35 0 0 24 ∧ σ' 35 0 0 25 = σ 35 0 0 25 ∧ Eq (σ' 45 0 0) (σ 45 0 0) ∧ Eq (σ' 50 0 0) (σ 50 0 0) ∧ True) 6 154 325 [(0, av 35 0 0), (1, iv p0), (2, iv p1), (3, iv O), (4, iv 0), (5, iv c)] [] Q from ?_) σ ⟨IF.rf hI, rfl, rfl, rfl, rfl, rfl, rfl, rfl, rfl, rfl, trivial⟩
  refine T_ld zk_154_325 rfl rfl rfl (pc' := 326) rfl ?_
  refine T_getR (t' := 50) (i' := 0) (k' := 0) zk_154_326 rfl rfl rfl vd_35 (pc' := 329) rfl ?_
  refine T_ld zk_154_329 rfl rfl rfl (pc' := 330) rfl ?_
  refine T_op (st' := [av 35 0 0, av 35 0 0, av 50 0 0]) zk_154_330 rfl rfl (pc' := 331) rfl ?_
  refine G_getX (w := σ 35 0 0 24) zk_154_331 rfl vd_35 (fun σ' h => h.2.2.2.2.2.2.1) (pc' := 334) rfl ?_
  refine T_op (st' := [iv (σ 35 0 0 24), av 35 0 0, iv (σ 35 0 0 24), av 50 0 0]) zk_154_334 rfl rfl (pc' := 335) rfl ?_
  refine T_op zk_154_335 rfl X_ic (pc' := 336) rfl ?_
  refine T_op zk_154_336 rfl X_add (pc' := 337) rfl ?_
  refine T_putf (J' := (fun σ' => IF (MCo (Int.toNat p1)) σ σ' ∧ σ' 35 0 0 19 = σ 35 0 0 19 ∧ σ' 35 0 0 20 = σ 35 0 0 20 ∧ σ' 35 0 0 21 = σ 35 0 0 21 ∧ σ' 35 0 0 22 = σ 35 0 0 22 ∧ σ' 35 0 0 23 = σ 35 0 0 23 ∧ σ' 35 0 0 25 = σ 35 0 0 25 ∧ Eq (σ' 45 0 0) (σ 45 0 0) ∧ Eq (σ' 50 0 0) (σ 50 0 0) ∧ σ' 35 0 0 24 = σ 35 0 0 24 + 1 ∧ True)) zk_154_337 rfl rfl vd_35 (fun σ' h => ⟨h.1.up (by simp only [rgP] <;> omega) (by first | exact pMCo rfl | (unfold MCo; omega)), (up_ne (by omega)).trans (h.2.1), (up_ne (by omega)).trans (h.2.2.1), (up_ne (by omega)).trans (h.2.2.2.1), (up_ne (by omega)).trans (h.2.2.2.2.1), (up_ne (by omega)).trans (h.2.2.2.2.2.1), (up_ne (by omega)).trans (h.2.2.2.2.2.2.2.1), gf_mk (fun z => Eq z (σ 45 0 0)) (up_row (by omega)) (h.2.2.2.2.2.2.2.2.1), gf_mk (fun z => Eq z (σ 50 0 0)) (up_row (by omega)) (h.2.2.2.2.2.2.2.2.2.1), up_eq, trivial⟩) (pc' := 340) rfl ?_
  refine T_ld zk_154_340 rfl rfl rfl (pc' := 342) rfl ?_
  refine G_iast (J' := (fun σ' => IF (MCo (Int.toNat p1)) σ σ' ∧ σ' 35 0 0 19 = σ 35 0 0 19 ∧ σ' 35 0 0 20 = σ 35 0 0 20 ∧ σ' 35 0 0 21 = σ 35 0 0 21 ∧ σ' 35 0 0 22 = σ 35 0 0 22 ∧ σ' 35 0 0 23 = σ 35 0 0 23 ∧ σ' 35 0 0 25 = σ 35 0 0 25 ∧ Eq (σ' 45 0 0) (σ 45 0 0) ∧ Eq (σ' 50 0 0) (fun q => if q = Int.toNat (σ 35 0 0 24) then c else (σ 50 0 0) q) ∧ σ' 35 0 0 24 = σ 35 0 0 24 + 1 ∧ True)) (ln := 120) zk_154_342 rfl rfl vd_50 (by omega) (by omega) (by omega) (fun σ' h => ⟨h.1.up ⟨by omega, trivial⟩ (by first | exact pMCo rfl | (unfold MCo; omega)), (up_ne (by omega)).trans (h.2.1), (up_ne (by omega)).trans (h.2.2.1), (up_ne (by omega)).trans (h.2.2.2.1), (up_ne (by omega)).trans (h.2.2.2.2.1), (up_ne (by omega)).trans (h.2.2.2.2.2.1), (up_ne (by omega)).trans (h.2.2.2.2.2.2.1), gf_mk (fun z => Eq z (σ 45 0 0)) (up_row (by omega)) (h.2.2.2.2.2.2.2.1), Eq_put (h.2.2.2.2.2.2.2.2.1), (up_ne (by omega)).trans (h.2.2.2.2.2.2.2.2.2.1), trivial⟩) (pc' := 343) rfl ?_
  refine T_op zk_154_343 rfl X_ic (pc' := 344) rfl ?_
  refine T_st (L' := [(0, av 35 0 0), (1, iv p0), (2, iv p1), (3, iv O), (4, iv 1), (5, iv c)]) zk_154_344 (nL := 6) rfl rfl rfl rfl rfl (pc' := 346) rfl ?_
  refine T_ld zk_154_346 rfl rfl rfl (pc' := 347) rfl ?_
  refine T_op (st' := [av 35 0 0, av 35 0 0]) zk_154_347 rfl rfl (pc' := 348) rfl ?_
  refine G_getX (w := σ 35 0 0 19) zk_154_348 rfl vd_35 (fun σ' h => h.2.1) (pc' := 351) rfl ?_
  refine T_op zk_154_351 rfl X_ic (pc' := 352) rfl ?_
  refine T_op zk_154_352 rfl X_add (pc' := 353) rfl ?_
  refine T_putf (J' := (fun σ' => IF (MCo (Int.toNat p1)) σ σ' ∧ σ' 35 0 0 20 = σ 35 0 0 20 ∧ σ' 35 0 0 21 = σ 35 0 0 21 ∧ σ' 35 0 0 22 = σ 35 0 0 22 ∧ σ' 35 0 0 23 = σ 35 0 0 23 ∧ σ' 35 0 0 25 = σ 35 0 0 25 ∧ Eq (σ' 45 0 0) (σ 45 0 0) ∧ Eq (σ' 50 0 0) (fun q => if q = Int.toNat (σ 35 0 0 24) then c else (σ 50 0 0) q) ∧ σ' 35 0 0 24 = σ 35 0 0 24 + 1 ∧ σ' 35 0 0 19 = σ 35 0 0 19 + 1 ∧ True)) zk_154_353 rfl rfl vd_35 (fun σ' h => ⟨h.1.up (by simp only [rgP] <;> omega) (by first | exact pMCo rfl | (unfold MCo; omega)), (up_ne (by omega)).trans (h.2.2.1), (up_ne (by omega)).trans (h.2.2.2.1), (up_ne (by omega)).trans (h.2.2.2.2.1), (up_ne (by omega)).trans (h.2.2.2.2.2.1), (up_ne (by omega)).trans (h.2.2.2.2.2.2.1), gf_mk (fun z => Eq z (σ 45 0 0)) (up_row (by omega)) (h.2.2.2.2.2.2.2.1), gf_mk (fun z => Eq z (fun q => if q = Int.toNat (σ 35 0 0 24) then c else (σ 50 0 0) q)) (up_row (by omega)) (h.2.2.2.2.2.2.2.2.1), (up_ne (by omega)).trans (h.2.2.2.2.2.2.2.2.2.1), up_eq, trivial⟩) (pc' := 356) rfl ?_
  refine T_goto zk_154_356 ?_
  refine T_goto zk_154_422 ?_
  refine T_loc (L := [(0, av 35 0 0), (1, iv p0), (2, iv p1), (3, iv O), (4, iv 1)]) (E := [(5, iv c)]) rfl ?_
  exact fun σ' h => hgo σ' _ _ st h.1 (PSt_sign hP (by omega) (by omega) ⟨(h.2.2.2.2.2.2.2.2.2.1), by omega⟩ (h.2.1) (h.2.2.1) (h.2.2.2.1) (h.2.2.2.2.1) (h.2.2.2.2.2.2.2.2.1) (h.2.2.2.2.2.2.1) (h.2.2.2.2.2.2.2.1)) (by rw [(h.2.2.2.2.2.2.2.2.2.1)]; omega) (Or.inr rfl) (by rw [(h.2.2.2.2.2.2.2.2.2.1)]; omega) ⟨(funext fun q => h.1.2 41 0 0 q (by unfold MCo; omega)).trans hq41, (h.2.1).trans hq20, (h.2.2.1).trans hq21, (fun _ => KM_sign hK hc (h.2.2.2.2.2.2.2.2.1) (h.2.2.2.2.2.1) (h.2.2.2.2.2.2.2.1)), (fun q => absurd q (by decide)), hR.trans (by rw [(h.2.2.2.2.2.2.2.2.2.1)])⟩
theorem k_154_d2 {xs : Nat × (Nat → Int32)} {Q : Option Value → ZS → Prop} (p0 p1 O T0 c n b R : Int) (F : Nat → Int) (st : List Bool) (hp0 : 0 ≤ p0 ∧ p0 ≤ 7) (hp1 : 0 ≤ p1 ∧ p1 ≤ 5) (hcc : -2147483648 ≤ c ∧ c ≤ 2147483647) (σ : ZS) (hI : Inv σ) (hP : PSt σ p1 1 O 0) (hO : 0 ≤ O ∧ O ≤ σ 35 0 0 19) (hlt : σ 35 0 0 19 < σ 35 0 0 20) (hT : T0 ≤ σ 35 0 0 19) (hK : KT σ O st) (hq41 : σ 41 0 0 = F) (hq20 : σ 35 0 0 20 = n) (hq21 : σ 35 0 0 21 = b) (hR : R = RUN (LC F b) n (σ 35 0 0 19 + 1) st 0) (hgo : ∀ σ' O' W' st', IF (MCo (Int.toNat p1)) σ σ' → PSt σ' p1 (1 - W') O' 0 → (0 ≤ O' ∧ O' ≤ σ' 35 0 0 19) → (W' = 0 ∨ W' = 1) → T0 < σ' 35 0 0 19 → (σ' 41 0 0 = F ∧ σ' 35 0 0 20 = n ∧ σ' 35 0 0 21 = b ∧ (W' = 1 → KM σ' O' st') ∧ (W' = 0 → KT σ' O' st') ∧ R = RUN (LC F b) n (σ' 35 0 0 19) st' W') → TT xs 6 154 153 [(0, av 35 0 0), (1, iv p0), (2, iv p1), (3, iv (O')), (4, iv (W'))] [] σ' Q) : TT xs 6 154 404 [(0, av 35 0 0), (1, iv p0), (2, iv p1), (3, iv O), (4, iv 0), (5, iv c)] [] σ Q := by
  have hk3 := hK.1.2.2.1
  have hk5 := hK.1.2.2.2.2.1
  obtain ⟨⟨a1, a2, a3, a4, a5⟩, ⟨b1, b2, b3, b4, b5⟩, ⟨c1, c2, c3⟩, d1⟩ := id hP
  refine (show TJ xs (fun σ' => IF (MCo (Int.toNat p1)) σ σ' ∧ σ' 35 0 0 19 = σ 35 0 0 19 ∧ σ' 35 0 0 20 = σ 35 0 0 20 ∧ σ' 35 0 0 21 = σ 35 0 0 21 ∧ σ' 35 0 0 22 = σ 35 0 0 22 ∧ σ' 35 0 0 23 = σ 35 0 0 23 ∧ σ' 35 0 0 24 = σ 35 0 0 24 ∧ σ' 35 0 0 25 = σ 35 0 0 25 ∧ Eq (σ' 45 0 0) (σ 45 0 0) ∧ Eq (σ' 50 0 0) (σ 50 0 0) ∧ True) 6 154 404 [(0, av 35 0 0), (1, iv p0), (2, iv p1), (3, iv O), (4, iv 0), (5, iv c)] [] Q from ?_) σ ⟨IF.rf hI, rfl, rfl, rfl, rfl, rfl, rfl, rfl, rfl, rfl, trivial⟩
  refine T_ld zk_154_404 rfl rfl rfl (pc' := 405) rfl ?_
  refine T_op (st' := [av 35 0 0, av 35 0 0]) zk_154_405 rfl rfl (pc' := 406) rfl ?_
  refine G_getX (w := σ 35 0 0 19) zk_154_406 rfl vd_35 (fun σ' h => h.2.1) (pc' := 409) rfl ?_
  refine T_op zk_154_409 rfl X_ic (pc' := 410) rfl ?_
  refine T_op zk_154_410 rfl X_add (pc' := 411) rfl ?_
  refine T_putf (J' := (fun σ' => IF (MCo (Int.toNat p1)) σ σ' ∧ σ' 35 0 0 20 = σ 35 0 0 20 ∧ σ' 35 0 0 21 = σ 35 0 0 21 ∧ σ' 35 0 0 22 = σ 35 0 0 22 ∧ σ' 35 0 0 23 = σ 35 0 0 23 ∧ σ' 35 0 0 24 = σ 35 0 0 24 ∧ σ' 35 0 0 25 = σ 35 0 0 25 ∧ Eq (σ' 45 0 0) (σ 45 0 0) ∧ Eq (σ' 50 0 0) (σ 50 0 0) ∧ σ' 35 0 0 19 = σ 35 0 0 19 + 1 ∧ True)) zk_154_411 rfl rfl vd_35 (fun σ' h => ⟨h.1.up (by simp only [rgP] <;> omega) (by first | exact pMCo rfl | (unfold MCo; omega)), (up_ne (by omega)).trans (h.2.2.1), (up_ne (by omega)).trans (h.2.2.2.1), (up_ne (by omega)).trans (h.2.2.2.2.1), (up_ne (by omega)).trans (h.2.2.2.2.2.1), (up_ne (by omega)).trans (h.2.2.2.2.2.2.1), (up_ne (by omega)).trans (h.2.2.2.2.2.2.2.1), gf_mk (fun z => Eq z (σ 45 0 0)) (up_row (by omega)) (h.2.2.2.2.2.2.2.2.1), gf_mk (fun z => Eq z (σ 50 0 0)) (up_row (by omega)) (h.2.2.2.2.2.2.2.2.2.1), up_eq, trivial⟩) (pc' := 414) rfl ?_
  refine T_goto zk_154_414 ?_
  refine T_goto zk_154_422 ?_
  refine T_loc (L := [(0, av 35 0 0), (1, iv p0), (2, iv p1), (3, iv O), (4, iv 0)]) (E := [(5, iv c)]) rfl ?_
  exact fun σ' h => hgo σ' _ _ st h.1 (PSt_e (PSt_at hP ⟨(h.2.2.2.2.2.2.2.2.2.1), by omega⟩ (h.2.1) (h.2.2.1) (h.2.2.2.1) (h.2.2.2.2.1) (h.2.2.2.2.2.1) (h.2.2.2.2.2.2.2.1) (h.2.2.2.2.2.2.2.2.1)) (by omega) rfl) (by rw [(h.2.2.2.2.2.2.2.2.2.1)]; omega) (Or.inl rfl) (by rw [(h.2.2.2.2.2.2.2.2.2.1)]; omega) ⟨(funext fun q => h.1.2 41 0 0 q (by unfold MCo; omega)).trans hq41, (h.2.1).trans hq20, (h.2.2.1).trans hq21, (fun q => absurd q (by decide)), (fun _ => KT_same hK (h.2.2.2.2.2.1) (h.2.2.2.2.2.2.1) (h.2.2.2.2.2.2.2.2.1)), hR.trans (by rw [(h.2.2.2.2.2.2.2.2.2.1)])⟩
theorem k_154_d {xs : Nat × (Nat → Int32)} {Q : Option Value → ZS → Prop} (p0 p1 O T0 c n b R : Int) (F : Nat → Int) (st : List Bool) (hp0 : 0 ≤ p0 ∧ p0 ≤ 7) (hp1 : 0 ≤ p1 ∧ p1 ≤ 5) (hcc : -2147483648 ≤ c ∧ c ≤ 2147483647) (σ : ZS) (hI : Inv σ) (hP : PSt σ p1 1 O 0) (hO : 0 ≤ O ∧ O ≤ σ 35 0 0 19) (hlt : σ 35 0 0 19 < σ 35 0 0 20) (hT : T0 ≤ σ 35 0 0 19) (hpos : 0 < O) (hb : 0 < σ 35 0 0 24 → ¬ (σ 50 0 0 (Int.toNat (σ 35 0 0 24 - 1)) = 38 ∨ σ 50 0 0 (Int.toNat (σ 35 0 0 24 - 1)) = 124)) (hK : KT σ O st) (hq41 : σ 41 0 0 = F) (hq20 : σ 35 0 0 20 = n) (hq21 : σ 35 0 0 21 = b) (hR : R = RUN (LC F b) n (σ 35 0 0 19 + 1) (cls st.tail) 0) (hgo : ∀ σ' O' W' st', IF (MCo (Int.toNat p1)) σ σ' → PSt σ' p1 (1 - W') O' 0 → (0 ≤ O' ∧ O' ≤ σ' 35 0 0 19) → (W' = 0 ∨ W' = 1) → T0 < σ' 35 0 0 19 → (σ' 41 0 0 = F ∧ σ' 35 0 0 20 = n ∧ σ' 35 0 0 21 = b ∧ (W' = 1 → KM σ' O' st') ∧ (W' = 0 → KT σ' O' st') ∧ R = RUN (LC F b) n (σ' 35 0 0 19) st' W') → TT xs 6 154 153 [(0, av 35 0 0), (1, iv p0), (2, iv p1), (3, iv (O')), (4, iv (W'))] [] σ' Q) : TT xs 6 154 376 [(0, av 35 0 0), (1, iv p0), (2, iv p1), (3, iv O), (4, iv 0), (5, iv c)] [] σ Q := by
  have hk3 := hK.1.2.2.1
  have hk5 := hK.1.2.2.2.2.1
  obtain ⟨⟨a1, a2, a3, a4, a5⟩, ⟨b1, b2, b3, b4, b5⟩, ⟨c1, c2, c3⟩, d1⟩ := id hP
  have ho := PSt_open0 hP hpos
  refine (show TJ xs (fun σ' => IF (MCo (Int.toNat p1)) σ σ' ∧ σ' 35 0 0 19 = σ 35 0 0 19 ∧ σ' 35 0 0 20 = σ 35 0 0 20 ∧ σ' 35 0 0 21 = σ 35 0 0 21 ∧ σ' 35 0 0 22 = σ 35 0 0 22 ∧ σ' 35 0 0 23 = σ 35 0 0 23 ∧ σ' 35 0 0 24 = σ 35 0 0 24 ∧ σ' 35 0 0 25 = σ 35 0 0 25 ∧ Eq (σ' 45 0 0) (σ 45 0 0) ∧ Eq (σ' 50 0 0) (σ 50 0 0) ∧ True) 6 154 376 [(0, av 35 0 0), (1, iv p0), (2, iv p1), (3, iv O), (4, iv 0), (5, iv c)] [] Q from ?_) σ ⟨IF.rf hI, rfl, rfl, rfl, rfl, rfl, rfl, rfl, rfl, rfl, trivial⟩
  refine T_ld zk_154_376 rfl rfl rfl (pc' := 377) rfl ?_
  refine T_op (st' := [av 35 0 0, av 35 0 0]) zk_154_377 rfl rfl (pc' := 378) rfl ?_
  refine G_getX (w := σ 35 0 0 24) zk_154_378 rfl vd_35 (fun σ' h => h.2.2.2.2.2.2.1) (pc' := 381) rfl ?_
  refine T_op zk_154_381 rfl X_ic (pc' := 382) rfl ?_
  refine T_op zk_154_382 rfl X_sub (pc' := 383) rfl ?_
  refine T_putf (J' := (fun σ' => IF (MCo (Int.toNat p1)) σ σ' ∧ σ' 35 0 0 19 = σ 35 0 0 19 ∧ σ' 35 0 0 20 = σ 35 0 0 20 ∧ σ' 35 0 0 21 = σ 35 0 0 21 ∧ σ' 35 0 0 22 = σ 35 0 0 22 ∧ σ' 35 0 0 23 = σ 35 0 0 23 ∧ σ' 35 0 0 25 = σ 35 0 0 25 ∧ Eq (σ' 45 0 0) (σ 45 0 0) ∧ Eq (σ' 50 0 0) (σ 50 0 0) ∧ σ' 35 0 0 24 = σ 35 0 0 24 - 1 ∧ True)) zk_154_383 rfl rfl vd_35 (fun σ' h => ⟨h.1.up (by simp only [rgP] <;> omega) (by first | exact pMCo rfl | (unfold MCo; omega)), (up_ne (by omega)).trans (h.2.1), (up_ne (by omega)).trans (h.2.2.1), (up_ne (by omega)).trans (h.2.2.2.1), (up_ne (by omega)).trans (h.2.2.2.2.1), (up_ne (by omega)).trans (h.2.2.2.2.2.1), (up_ne (by omega)).trans (h.2.2.2.2.2.2.2.1), gf_mk (fun z => Eq z (σ 45 0 0)) (up_row (by omega)) (h.2.2.2.2.2.2.2.2.1), gf_mk (fun z => Eq z (σ 50 0 0)) (up_row (by omega)) (h.2.2.2.2.2.2.2.2.2.1), up_eq, trivial⟩) (pc' := 386) rfl ?_
  refine T_ld zk_154_386 rfl rfl rfl (pc' := 387) rfl ?_
  refine T_op (st' := [av 35 0 0, av 35 0 0]) zk_154_387 rfl rfl (pc' := 388) rfl ?_
  refine G_getX (w := σ 35 0 0 25) zk_154_388 rfl vd_35 (fun σ' h => h.2.2.2.2.2.2.1) (pc' := 391) rfl ?_
  refine T_op zk_154_391 rfl X_ic (pc' := 392) rfl ?_
  refine T_op zk_154_392 rfl X_sub (pc' := 393) rfl ?_
  refine T_putf (J' := (fun σ' => IF (MCo (Int.toNat p1)) σ σ' ∧ σ' 35 0 0 19 = σ 35 0 0 19 ∧ σ' 35 0 0 20 = σ 35 0 0 20 ∧ σ' 35 0 0 21 = σ 35 0 0 21 ∧ σ' 35 0 0 22 = σ 35 0 0 22 ∧ σ' 35 0 0 23 = σ 35 0 0 23 ∧ Eq (σ' 45 0 0) (σ 45 0 0) ∧ Eq (σ' 50 0 0) (σ 50 0 0) ∧ σ' 35 0 0 24 = σ 35 0 0 24 - 1 ∧ σ' 35 0 0 25 = σ 35 0 0 25 - 1 ∧ True)) zk_154_393 rfl rfl vd_35 (fun σ' h => ⟨h.1.up (by simp only [rgP] <;> omega) (by first | exact pMCo rfl | (unfold MCo; omega)), (up_ne (by omega)).trans (h.2.1), (up_ne (by omega)).trans (h.2.2.1), (up_ne (by omega)).trans (h.2.2.2.1), (up_ne (by omega)).trans (h.2.2.2.2.1), (up_ne (by omega)).trans (h.2.2.2.2.2.1), gf_mk (fun z => Eq z (σ 45 0 0)) (up_row (by omega)) (h.2.2.2.2.2.2.2.1), gf_mk (fun z => Eq z (σ 50 0 0)) (up_row (by omega)) (h.2.2.2.2.2.2.2.2.1), (up_ne (by omega)).trans (h.2.2.2.2.2.2.2.2.2.1), up_eq, trivial⟩) (pc' := 396) rfl ?_
  refine T_iinc (L' := [(0, av 35 0 0), (1, iv p0), (2, iv p1), (3, iv (O + (-1))), (4, iv 0), (5, iv c)]) zk_154_396 (nL := 6) rfl rfl rfl rfl (pc' := 399) rfl ?_
  refine G_know (J' := (fun σ' => IF (MCo (Int.toNat p1)) σ σ' ∧ σ' 35 0 0 19 = σ 35 0 0 19 ∧ σ' 35 0 0 20 = σ 35 0 0 20 ∧ σ' 35 0 0 21 = σ 35 0 0 21 ∧ σ' 35 0 0 22 = σ 35 0 0 22 ∧ σ' 35 0 0 23 = σ 35 0 0 23 ∧ Eq (σ' 45 0 0) (σ 45 0 0) ∧ Eq (σ' 50 0 0) (σ 50 0 0) ∧ σ' 35 0 0 24 = σ 35 0 0 24 - 1 ∧ σ' 35 0 0 25 = σ 35 0 0 25 - 1 ∧ (PSt σ' p1 1 (O + (-1)) 0) ∧ (KM σ' (O - 1) st.tail) ∧ True)) (fun σ' h => ⟨h.1, h.2.1, h.2.2.1, h.2.2.2.1, h.2.2.2.2.1, h.2.2.2.2.2.1, h.2.2.2.2.2.2.1, h.2.2.2.2.2.2.2.1, h.2.2.2.2.2.2.2.2.1, h.2.2.2.2.2.2.2.2.2.1, PSt_e (PSt_shut hP ho (hb ho) (h.2.1) (h.2.2.1) (h.2.2.2.1) (h.2.2.2.2.1) (h.2.2.2.2.2.1) (h.2.2.2.2.2.2.2.2.1) (h.2.2.2.2.2.2.1) (h.2.2.2.2.2.2.2.1)) rfl (by omega), KM_shut hK hpos ho (hb ho) (h.2.2.2.2.2.2.2.2.1) (h.2.2.2.2.2.2.2.2.2.1) (h.2.2.2.2.2.2.2.1), trivial⟩) ?_
  refine T_ld zk_154_399 rfl rfl rfl (pc' := 400) rfl ?_
  refine T_ld zk_154_400 rfl rfl rfl (pc' := 401) rfl ?_
  refine T_callv (J' := (fun σ' => IF (MCo (Int.toNat p1)) σ σ' ∧ σ' 35 0 0 19 = σ 35 0 0 19 ∧ σ' 35 0 0 20 = σ 35 0 0 20 ∧ σ' 35 0 0 21 = σ 35 0 0 21 ∧ σ' 35 0 0 23 = σ 35 0 0 23 ∧ Eq (σ' 50 0 0) (σ 50 0 0) ∧ (PSt σ' p1 1 (O + (-1)) 0) ∧ (KT σ' (O - 1) (cls st.tail)) ∧ True)) (r := []) zk_154_401 rfl rfl rfl rfl rfl rfl (Or.inr ⟨_, _, _, _, rfl, vd_35, rfl⟩) (fun σ' h => (k_152 p1 ((O + (-1))) ((O - 1)) (st.tail) (by omega) σ' h.1.1 (h.2.2.2.2.2.2.2.2.2.2.1) (h.2.2.2.2.2.2.2.2.2.2.2.1)).le (Nat.le_of_ble_eq_true rfl) (fun v σ2 ⟨h1, h3, h4⟩ => ⟨h1, h.1.tr h3 (fun t i k j h => by unfold MCl at h; unfold MCo; omega), (h3.2 _ _ _ _ (by first | exact nMCl rfl | (unfold MCl; omega))).trans (h.2.1), (h3.2 _ _ _ _ (by first | exact nMCl rfl | (unfold MCl; omega))).trans (h.2.2.1), (h3.2 _ _ _ _ (by first | exact nMCl rfl | (unfold MCl; omega))).trans (h.2.2.2.1), (h3.2 _ _ _ _ (by first | exact nMCl rfl | (unfold MCl; omega))).trans (h.2.2.2.2.2.1), gf_mk (fun z => Eq z (σ 50 0 0)) (funext fun j => h3.2 _ _ _ _ (by first | exact nMCl rfl | (unfold MCl; omega))) (h.2.2.2.2.2.2.2.1), h4.1, h4.2.1, trivial⟩)) (pc' := 404) rfl ?_
  exact fun σ' h => k_154_d2 p0 p1 (O + (-1)) T0 c n b R F (cls st.tail) hp0 hp1 hcc σ' h.1.1 (h.2.2.2.2.2.2.1) (by rw [(h.2.1)]; omega) (by rw [(h.2.1), (h.2.2.1)]; omega) (by rw [(h.2.1)]; omega) (by have q := h.2.2.2.2.2.2.2.1; rwa [show O - 1 = O + (-1) from by omega] at q) ((funext fun q => h.1.2 41 0 0 q (by unfold MCo; omega)).trans hq41) ((h.2.2.1).trans hq20) ((h.2.2.2.1).trans hq21) (hR.trans (by rw [(h.2.1)])) (fun σ2 O2 W2 s2 h1 => hgo σ2 O2 W2 s2 (h.1.tr h1 (fun _ _ _ _ q => q)))
theorem k_154_b {xs : Nat × (Nat → Int32)} {Q : Option Value → ZS → Prop} (p0 p1 O T0 c n b R : Int) (F : Nat → Int) (st : List Bool) (hp0 : 0 ≤ p0 ∧ p0 ≤ 7) (hp1 : 0 ≤ p1 ∧ p1 ≤ 5) (hcc : -2147483648 ≤ c ∧ c ≤ 2147483647) (σ : ZS) (hI : Inv σ) (hP : PSt σ p1 0 O 1) (hO : 0 ≤ O ∧ O ≤ σ 35 0 0 19) (hT : T0 < σ 35 0 0 19) (hK : KM σ O st) (hq41 : σ 41 0 0 = F) (hq20 : σ 35 0 0 20 = n) (hq21 : σ 35 0 0 21 = b) (hR : R = RUN (LC F b) n (σ 35 0 0 19) (cls st) 0) (hgo : ∀ σ' O' W' st', IF (MCo (Int.toNat p1)) σ σ' → PSt σ' p1 (1 - W') O' 0 → (0 ≤ O' ∧ O' ≤ σ' 35 0 0 19) → (W' = 0 ∨ W' = 1) → T0 < σ' 35 0 0 19 → (σ' 41 0 0 = F ∧ σ' 35 0 0 20 = n ∧ σ' 35 0 0 21 = b ∧ (W' = 1 → KM σ' O' st') ∧ (W' = 0 → KT σ' O' st') ∧ R = RUN (LC F b) n (σ' 35 0 0 19) st' W') → TT xs 6 154 153 [(0, av 35 0 0), (1, iv p0), (2, iv p1), (3, iv (O')), (4, iv (W'))] [] σ' Q) : TT xs 6 154 272 [(0, av 35 0 0), (1, iv p0), (2, iv p1), (3, iv O), (4, iv 1), (5, iv c)] [] σ Q := by
  have hk3 := hK.2.2.1
  have hk5 := hK.2.2.2.2.1
  obtain ⟨⟨a1, a2, a3, a4, a5⟩, ⟨b1, b2, b3, b4, b5⟩, ⟨c1, c2, c3⟩, d1⟩ := id hP
  refine (show TJ xs (fun σ' => IF (MCo (Int.toNat p1)) σ σ' ∧ σ' 35 0 0 19 = σ 35 0 0 19 ∧ σ' 35 0 0 20 = σ 35 0 0 20 ∧ σ' 35 0 0 21 = σ 35 0 0 21 ∧ σ' 35 0 0 22 = σ 35 0 0 22 ∧ σ' 35 0 0 23 = σ 35 0 0 23 ∧ σ' 35 0 0 24 = σ 35 0 0 24 ∧ σ' 35 0 0 25 = σ 35 0 0 25 ∧ Eq (σ' 45 0 0) (σ 45 0 0) ∧ Eq (σ' 50 0 0) (σ 50 0 0) ∧ True) 6 154 272 [(0, av 35 0 0), (1, iv p0), (2, iv p1), (3, iv O), (4, iv 1), (5, iv c)] [] Q from ?_) σ ⟨IF.rf hI, rfl, rfl, rfl, rfl, rfl, rfl, rfl, rfl, rfl, trivial⟩
  refine T_ld zk_154_272 rfl rfl rfl (pc' := 273) rfl ?_
  refine T_ld zk_154_273 rfl rfl rfl (pc' := 274) rfl ?_
  refine T_ld zk_154_274 rfl rfl rfl (pc' := 275) rfl ?_
  refine G_getX (w := σ 35 0 0 23) zk_154_275 rfl vd_35 (fun σ' h => h.2.2.2.2.2.1) (pc' := 278) rfl ?_
  refine T_op zk_154_278 rfl X_ic (pc' := 279) rfl ?_
  refine T_op zk_154_279 rfl X_sub (pc' := 280) rfl ?_
  refine T_callv (J' := (fun σ' => IF (MCo (Int.toNat p1)) σ σ' ∧ σ' 35 0 0 19 = σ 35 0 0 19 ∧ σ' 35 0 0 20 = σ 35 0 0 20 ∧ σ' 35 0 0 21 = σ 35 0 0 21 ∧ σ' 35 0 0 23 = σ 35 0 0 23 ∧ σ' 35 0 0 24 = σ 35 0 0 24 ∧ σ' 35 0 0 25 = σ 35 0 0 25 ∧ Eq (σ' 50 0 0) (σ 50 0 0) ∧ σ' 35 0 0 22 = σ 35 0 0 22 + 1 ∧ Eq (σ' 45 0 0) (fun q => if q = Int.toNat (120 * p1 + (σ 35 0 0 22)) then (σ 35 0 0 23 - 1) else (σ 45 0 0) q) ∧ True)) (r := []) zk_154_280 rfl rfl rfl rfl rfl rfl (Or.inr ⟨_, _, _, _, rfl, vd_35, rfl⟩) (fun σ' h => (m_151 p1 (σ 35 0 0 23 - 1) (σ 35 0 0 22) ((σ 45 0 0)) (by omega) (by omega) (by omega) σ' h.1.1 (h.2.2.2.2.1) (h.2.2.2.2.2.2.2.2.1)).le (Nat.le_of_ble_eq_true rfl) (fun v σ2 ⟨h1, h3, h4⟩ => ⟨h1, h.1.tr h3 (fun t i k j h => by unfold MEm at h; unfold MCo; omega), (h3.2 _ _ _ _ (by first | exact nMEm rfl | (unfold MEm; omega))).trans (h.2.1), (h3.2 _ _ _ _ (by first | exact nMEm rfl | (unfold MEm; omega))).trans (h.2.2.1), (h3.2 _ _ _ _ (by first | exact nMEm rfl | (unfold MEm; omega))).trans (h.2.2.2.1), (h3.2 _ _ _ _ (by first | exact nMEm rfl | (unfold MEm; omega))).trans (h.2.2.2.2.2.1), (h3.2 _ _ _ _ (by first | exact nMEm rfl | (unfold MEm; omega))).trans (h.2.2.2.2.2.2.1), (h3.2 _ _ _ _ (by first | exact nMEm rfl | (unfold MEm; omega))).trans (h.2.2.2.2.2.2.2.1), gf_mk (fun z => Eq z (σ 50 0 0)) (funext fun j => h3.2 _ _ _ _ (by first | exact nMEm rfl | (unfold MEm; omega))) (h.2.2.2.2.2.2.2.2.2.1), h4.1, h4.2.1, trivial⟩)) (pc' := 283) rfl ?_
  refine G_know (J' := (fun σ' => IF (MCo (Int.toNat p1)) σ σ' ∧ σ' 35 0 0 19 = σ 35 0 0 19 ∧ σ' 35 0 0 20 = σ 35 0 0 20 ∧ σ' 35 0 0 21 = σ 35 0 0 21 ∧ σ' 35 0 0 23 = σ 35 0 0 23 ∧ σ' 35 0 0 24 = σ 35 0 0 24 ∧ σ' 35 0 0 25 = σ 35 0 0 25 ∧ Eq (σ' 50 0 0) (σ 50 0 0) ∧ σ' 35 0 0 22 = σ 35 0 0 22 + 1 ∧ Eq (σ' 45 0 0) (fun q => if q = Int.toNat (120 * p1 + (σ 35 0 0 22)) then (σ 35 0 0 23 - 1) else (σ 45 0 0) q) ∧ (PSt σ' p1 1 O 0) ∧ (KM σ' O st) ∧ True)) (fun σ' h => ⟨h.1, h.2.1, h.2.2.1, h.2.2.2.1, h.2.2.2.2.1, h.2.2.2.2.2.1, h.2.2.2.2.2.2.1, h.2.2.2.2.2.2.2.1, h.2.2.2.2.2.2.2.2.1, h.2.2.2.2.2.2.2.2.2.1, PSt_test hP (by omega) (by omega) (h.2.2.2.2.2.1) (h.2.2.2.2.2.2.2.2.1) (h.2.2.2.2.2.2.2.2.2.1) (h.2.2.2.2.2.2.2.1) (h.2.1) (h.2.2.1) (h.2.2.2.1) (h.2.2.2.2.1), KM_same hK (h.2.2.2.2.2.1) (h.2.2.2.2.2.2.1) (h.2.2.2.2.2.2.2.1), trivial⟩) ?_
  refine T_ld zk_154_283 rfl rfl rfl (pc' := 284) rfl ?_
  refine T_ld zk_154_284 rfl rfl rfl (pc' := 285) rfl ?_
  refine T_callv (J' := (fun σ' => IF (MCo (Int.toNat p1)) σ σ' ∧ σ' 35 0 0 19 = σ 35 0 0 19 ∧ σ' 35 0 0 20 = σ 35 0 0 20 ∧ σ' 35 0 0 21 = σ 35 0 0 21 ∧ σ' 35 0 0 23 = σ 35 0 0 23 ∧ Eq (σ' 50 0 0) (σ 50 0 0) ∧ (PSt σ' p1 1 O 0) ∧ (KT σ' O (cls st)) ∧ True)) (r := []) zk_154_285 rfl rfl rfl rfl rfl rfl (Or.inr ⟨_, _, _, _, rfl, vd_35, rfl⟩) (fun σ' h => (k_152 p1 O O st (by omega) σ' h.1.1 (h.2.2.2.2.2.2.2.2.2.2.1) (h.2.2.2.2.2.2.2.2.2.2.2.1)).le (Nat.le_of_ble_eq_true rfl) (fun v σ2 ⟨h1, h3, h4⟩ => ⟨h1, h.1.tr h3 (fun t i k j h => by unfold MCl at h; unfold MCo; omega), (h3.2 _ _ _ _ (by first | exact nMCl rfl | (unfold MCl; omega))).trans (h.2.1), (h3.2 _ _ _ _ (by first | exact nMCl rfl | (unfold MCl; omega))).trans (h.2.2.1), (h3.2 _ _ _ _ (by first | exact nMCl rfl | (unfold MCl; omega))).trans (h.2.2.2.1), (h3.2 _ _ _ _ (by first | exact nMCl rfl | (unfold MCl; omega))).trans (h.2.2.2.2.1), gf_mk (fun z => Eq z (σ 50 0 0)) (funext fun j => h3.2 _ _ _ _ (by first | exact nMCl rfl | (unfold MCl; omega))) (h.2.2.2.2.2.2.2.1), h4.1, h4.2.1, trivial⟩)) (pc' := 288) rfl ?_
  refine T_op zk_154_288 rfl X_ic (pc' := 289) rfl ?_
  refine T_st (L' := [(0, av 35 0 0), (1, iv p0), (2, iv p1), (3, iv O), (4, iv 0), (5, iv c)]) zk_154_289 (nL := 6) rfl rfl rfl rfl rfl (pc' := 291) rfl ?_
  refine T_goto zk_154_291 ?_
  refine T_goto zk_154_422 ?_
  refine T_loc (L := [(0, av 35 0 0), (1, iv p0), (2, iv p1), (3, iv O), (4, iv 0)]) (E := [(5, iv c)]) rfl ?_
  exact fun σ' h => hgo σ' _ _ (cls st) h.1 (PSt_e (h.2.2.2.2.2.2.1) (by omega) rfl) (by rw [(h.2.1)]; omega) (Or.inl rfl) (by rw [(h.2.1)]; omega) ⟨(funext fun q => h.1.2 41 0 0 q (by unfold MCo; omega)).trans hq41, (h.2.2.1).trans hq20, (h.2.2.2.1).trans hq21, (fun q => absurd q (by decide)), (fun _ => h.2.2.2.2.2.2.2.1), hR.trans (by rw [(h.2.1)])⟩
set_option maxHeartbeats 6000000 in
theorem k_154_a {xs : Nat × (Nat → Int32)} {Q : Option Value → ZS → Prop} (p0 p1 O W : Int) (F : Nat → Int) (st : List Bool) (hp0 : 0 ≤ p0 ∧ p0 ≤ 7) (hp1 : 0 ≤ p1 ∧ p1 ≤ 5) (hW : W = 0 ∨ W = 1) (σ : ZS) (hI : Inv σ) (hP : PSt σ p1 (1 - W) O 0) (hO : 0 ≤ O ∧ O ≤ σ 35 0 0 19) (hq41 : σ 41 0 0 = F) (hK1 : W = 1 → KM σ O st) (hK0 : W = 0 → KT σ O st) (hret : ∀ y σ', IF (MCo (Int.toNat p1)) σ σ' → (-1 ≤ y ∧ y ≤ 96) → (y = -1 → okc (σ' 45 0 0) (Int.toNat (120 * p1)) (Int.toNat (σ' 44 0 0 (Int.toNat p1)))) → y = RUN (LC F (σ 35 0 0 21)) (σ 35 0 0 20) (σ 35 0 0 19) st W → Q (some (iv y)) σ') (hgo : ∀ σ' O' W' st', IF (MCo (Int.toNat p1)) σ σ' → PSt σ' p1 (1 - W') O' 0 → (0 ≤ O' ∧ O' ≤ σ' 35 0 0 19) → (W' = 0 ∨ W' = 1) → σ 35 0 0 19 < σ' 35 0 0 19 → (σ' 41 0 0 = F ∧ σ' 35 0 0 20 = σ 35 0 0 20 ∧ σ' 35 0 0 21 = σ 35 0 0 21 ∧ (W' = 1 → KM σ' O' st') ∧ (W' = 0 → KT σ' O' st') ∧ RUN (LC F (σ 35 0 0 21)) (σ 35 0 0 20) (σ 35 0 0 19) st W = RUN (LC F (σ 35 0 0 21)) (σ 35 0 0 20) (σ' 35 0 0 19) st' W') → TT xs 6 154 153 [(0, av 35 0 0), (1, iv p0), (2, iv p1), (3, iv (O')), (4, iv (W'))] [] σ' Q) : TT xs 6 154 153 [(0, av 35 0 0), (1, iv p0), (2, iv p1), (3, iv O), (4, iv W)] [] σ Q := by
  have hk25 : 0 ≤ σ 35 0 0 25 ∧ σ 35 0 0 25 ≤ 20 := hW.elim (fun q => by have w := hK0 q; have w1 := w.1.2.2.1; have w2 := w.1.2.2.2.2.1; omega) (fun q => by have w := hK1 q; have w1 := w.2.2.1; have w2 := w.2.2.2.2.1; omega)
  obtain ⟨⟨a1, a2, a3, a4, a5⟩, ⟨b1, b2, b3, b4, b5⟩, ⟨c1, c2, c3⟩, d1⟩ := id hP
  have r25 := (hI 35 0 0 25 vd_35).1
  refine (show TJ xs (fun σ' => IF (MCo (Int.toNat p1)) σ σ' ∧ σ' 35 0 0 19 = σ 35 0 0 19 ∧ σ' 35 0 0 20 = σ 35 0 0 20 ∧ σ' 35 0 0 21 = σ 35 0 0 21 ∧ σ' 35 0 0 22 = σ 35 0 0 22 ∧ σ' 35 0 0 23 = σ 35 0 0 23 ∧ σ' 35 0 0 24 = σ 35 0 0 24 ∧ σ' 35 0 0 25 = σ 35 0 0 25 ∧ Eq (σ' 45 0 0) (σ 45 0 0) ∧ Eq (σ' 50 0 0) (σ 50 0 0) ∧ Eq (σ' 41 0 0) F ∧ True) 6 154 153 [(0, av 35 0 0), (1, iv p0), (2, iv p1), (3, iv O), (4, iv W)] [] Q from ?_) σ ⟨IF.rf hI, rfl, rfl, rfl, rfl, rfl, rfl, rfl, rfl, rfl, hq41, trivial⟩
  refine T_ld zk_154_153 rfl rfl rfl (pc' := 154) rfl ?_
  refine G_getX (w := σ 35 0 0 19) zk_154_154 rfl vd_35 (fun σ' h => h.2.1) (pc' := 157) rfl ?_
  refine T_ld zk_154_157 rfl rfl rfl (pc' := 158) rfl ?_
  refine G_getX (w := σ 35 0 0 20) zk_154_158 rfl vd_35 (fun σ' h => h.2.2.1) (pc' := 161) rfl ?_
  refine T_icmp_ge zk_154_161 (by omega) (by omega) (pc' := 164) rfl (fun h1 => ?_) (fun h2 => ?_)
  ·
    refine T_ld zk_154_425 rfl rfl rfl (pc' := 427) rfl ?_
    refine T_if_ne zk_154_427 (by omega) (pc' := 430) rfl (fun h3 => ?_) (fun h4 => ?_)
    ·
      refine T_ld zk_154_434 rfl rfl rfl (pc' := 435) rfl ?_
      refine G_getX (w := σ 35 0 0 20) zk_154_435 rfl vd_35 (fun σ' h => h.2.2.1) (pc' := 438) rfl ?_
      have hpn : σ 35 0 0 19 = σ 35 0 0 20 := by omega
      rcases hW with rfl | rfl
      · have hK := hK0 rfl
        have hnb := hK.1.2.2.2.1
        have he := R_end2 (L := LC F (σ 35 0 0 21)) (n := σ 35 0 0 20) (st := st) hK.2.1 (by omega)
        exact T_iret zk_154_438 rfl (fun σ' h => hret _ σ' h.1 (by omega) (fun q => by exfalso; omega) (by rw [hpn]; exact (he.1 (by omega)).symm))
      · exact T_iret zk_154_438 rfl (fun σ' h => hret _ σ' h.1 (by omega) (fun q => by exfalso; omega) (by rw [hpn]; exact (R_endw (by omega)).symm))
    ·
      refine T_ld zk_154_430 rfl rfl rfl (pc' := 431) rfl ?_
      refine T_if_le zk_154_431 (by omega) (pc' := 434) rfl (fun h5 => ?_) (fun h6 => ?_)
      ·
        obtain rfl : W = 0 := by omega
        have hK := hK0 rfl
        clear hK1 hK0
        refine G_know (J' := (fun σ' => IF (MCo (Int.toNat p1)) σ σ' ∧ σ' 35 0 0 19 = σ 35 0 0 19 ∧ σ' 35 0 0 20 = σ 35 0 0 20 ∧ σ' 35 0 0 21 = σ 35 0 0 21 ∧ σ' 35 0 0 22 = σ 35 0 0 22 ∧ σ' 35 0 0 23 = σ 35 0 0 23 ∧ σ' 35 0 0 24 = σ 35 0 0 24 ∧ σ' 35 0 0 25 = σ 35 0 0 25 ∧ Eq (σ' 45 0 0) (σ 45 0 0) ∧ Eq (σ' 50 0 0) (σ 50 0 0) ∧ Eq (σ' 41 0 0) F ∧ (PSt σ' p1 1 O 0) ∧ (KT σ' O st) ∧ True)) (fun σ' h => ⟨h.1, h.2.1, h.2.2.1, h.2.2.2.1, h.2.2.2.2.1, h.2.2.2.2.2.1, h.2.2.2.2.2.2.1, h.2.2.2.2.2.2.2.1, h.2.2.2.2.2.2.2.2.1, h.2.2.2.2.2.2.2.2.2.1, h.2.2.2.2.2.2.2.2.2.2.1, PSt_e (PSt_same hP (h.2.1) (h.2.2.1) (h.2.2.2.1) (h.2.2.2.2.1) (h.2.2.2.2.2.1) (h.2.2.2.2.2.2.1) (h.2.2.2.2.2.2.2.2.1) (h.2.2.2.2.2.2.2.2.2.1)) (by omega) rfl, KT_same hK (h.2.2.2.2.2.2.1) (h.2.2.2.2.2.2.2.1) (h.2.2.2.2.2.2.2.2.2.1), trivial⟩) ?_
        refine T_ld zk_154_439 rfl rfl rfl (pc' := 440) rfl ?_
        refine T_ld zk_154_440 rfl rfl rfl (pc' := 441) rfl ?_
        refine T_op zk_154_441 rfl X_ic (pc' := 442) rfl ?_
        refine T_callv (J' := (fun σ' => IF (MCo (Int.toNat p1)) σ σ' ∧ σ' 35 0 0 19 = σ 35 0 0 19 ∧ σ' 35 0 0 20 = σ 35 0 0 20 ∧ σ' 35 0 0 21 = σ 35 0 0 21 ∧ σ' 35 0 0 23 = σ 35 0 0 23 ∧ Eq (σ' 50 0 0) (σ 50 0 0) ∧ Eq (σ' 41 0 0) F ∧ (PSt σ' p1 1 O 0) ∧ (KT σ' O st) ∧ (0 = 0 → 0 < σ' 35 0 0 24 → ¬ (σ' 50 0 0 (Int.toNat (σ' 35 0 0 24 - 1)) = 38 ∨ σ' 50 0 0 (Int.toNat (σ' 35 0 0 24 - 1)) = 124)) ∧ True)) (r := []) zk_154_442 rfl rfl rfl rfl rfl rfl (Or.inr ⟨_, _, _, _, rfl, vd_35, rfl⟩) (fun σ' h => (k_153 p1 0 O O st (by omega) (by omega) σ' h.1.1 (h.2.2.2.2.2.2.2.2.2.2.2.1) (h.2.2.2.2.2.2.2.2.2.2.2.2.1)).le (Nat.le_of_ble_eq_true rfl) (fun v σ2 ⟨h1, h3, h4⟩ => ⟨h1, h.1.tr h3 (fun t i k j h => by unfold MCl at h; unfold MCo; omega), (h3.2 _ _ _ _ (by first | exact nMCl rfl | (unfold MCl; omega))).trans (h.2.1), (h3.2 _ _ _ _ (by first | exact nMCl rfl | (unfold MCl; omega))).trans (h.2.2.1), (h3.2 _ _ _ _ (by first | exact nMCl rfl | (unfold MCl; omega))).trans (h.2.2.2.1), (h3.2 _ _ _ _ (by first | exact nMCl rfl | (unfold MCl; omega))).trans (h.2.2.2.2.2.1), gf_mk (fun z => Eq z (σ 50 0 0)) (funext fun j => h3.2 _ _ _ _ (by first | exact nMCl rfl | (unfold MCl; omega))) (h.2.2.2.2.2.2.2.2.2.1), gf_mk (fun z => Eq z F) (funext fun j => h3.2 _ _ _ _ (by first | exact nMCl rfl | (unfold MCl; omega))) (h.2.2.2.2.2.2.2.2.2.2.1), h4.1, h4.2.1, h4.2.2.1, trivial⟩)) (pc' := 445) rfl ?_
        have hnb := hK.1.2.2.2.1
        have he := R_end2 (L := LC F (σ 35 0 0 21)) (n := σ 35 0 0 20) (st := st) hK.2.1 (by omega)
        have hpn : σ 35 0 0 19 = σ 35 0 0 20 := by omega
        exact fun σ' h => k_154_e p0 p1 O (σ 35 0 0 19) (σ 35 0 0 20) (σ 35 0 0 21) (RUN (LC F (σ 35 0 0 21)) (σ 35 0 0 20) (σ 35 0 0 19) st 0) F st hp0 hp1 σ' h.1.1 O (h.2.2.2.2.2.2.2.1) (by rw [hpn]; exact he.2 (by omega)) (fun y σ2 h1 => hret y σ2 (h.1.tr h1 (fun _ _ _ _ q => q)))
      ·
        refine T_ld zk_154_434 rfl rfl rfl (pc' := 435) rfl ?_
        refine G_getX (w := σ 35 0 0 20) zk_154_435 rfl vd_35 (fun σ' h => h.2.2.1) (pc' := 438) rfl ?_
        have hpn : σ 35 0 0 19 = σ 35 0 0 20 := by omega
        rcases hW with rfl | rfl
        · have hK := hK0 rfl
          have hnb := hK.1.2.2.2.1
          have he := R_end2 (L := LC F (σ 35 0 0 21)) (n := σ 35 0 0 20) (st := st) hK.2.1 (by omega)
          exact T_iret zk_154_438 rfl (fun σ' h => hret _ σ' h.1 (by omega) (fun q => by exfalso; omega) (by rw [hpn]; exact (he.1 (by omega)).symm))
        · exact T_iret zk_154_438 rfl (fun σ' h => hret _ σ' h.1 (by omega) (fun q => by exfalso; omega) (by rw [hpn]; exact (R_endw (by omega)).symm))
  ·
    refine T_ld zk_154_164 rfl rfl rfl (pc' := 165) rfl ?_
    refine T_calli (K := fun y8 σ' => (y8 = lt (LC F (σ 35 0 0 21)) (σ 35 0 0 20) (σ 35 0 0 19) ∧ -2147483648 ≤ y8 ∧ y8 ≤ 2147483647) ∧ (fun σ' => IF (MCo (Int.toNat p1)) σ σ' ∧ σ' 35 0 0 19 = σ 35 0 0 19 ∧ σ' 35 0 0 20 = σ 35 0 0 20 ∧ σ' 35 0 0 21 = σ 35 0 0 21 ∧ σ' 35 0 0 22 = σ 35 0 0 22 ∧ σ' 35 0 0 23 = σ 35 0 0 23 ∧ σ' 35 0 0 24 = σ 35 0 0 24 ∧ σ' 35 0 0 25 = σ 35 0 0 25 ∧ Eq (σ' 45 0 0) (σ 45 0 0) ∧ Eq (σ' 50 0 0) (σ 50 0 0) ∧ Eq (σ' 41 0 0) F ∧ True) σ') (r := []) zk_154_165 rfl rfl rfl rfl rfl rfl (Or.inr ⟨_, _, _, _, rfl, vd_35, rfl⟩) (fun σ' h => (r_148 (σ 35 0 0 19) (σ 35 0 0 20) (σ 35 0 0 21) F (by omega) (by omega) (by omega) σ' h.1.1 (h.2.1) (h.2.2.1) (h.2.2.2.1) (h.2.2.2.2.2.2.2.2.2.2.1)).le (Nat.le_of_ble_eq_true rfl) (fun v σ2 ⟨y, h1, h2, h3, h4⟩ => ⟨y, h1, h2, h.1.tr h3 MN_sub, (h3.2 _ _ _ _ (fun q => q)).trans (h.2.1), (h3.2 _ _ _ _ (fun q => q)).trans (h.2.2.1), (h3.2 _ _ _ _ (fun q => q)).trans (h.2.2.2.1), (h3.2 _ _ _ _ (fun q => q)).trans (h.2.2.2.2.1), (h3.2 _ _ _ _ (fun q => q)).trans (h.2.2.2.2.2.1), (h3.2 _ _ _ _ (fun q => q)).trans (h.2.2.2.2.2.2.1), (h3.2 _ _ _ _ (fun q => q)).trans (h.2.2.2.2.2.2.2.1), gf_mk (fun z => Eq z (σ 45 0 0)) (funext fun j => h3.2 _ _ _ _ (fun q => q)) (h.2.2.2.2.2.2.2.2.1), gf_mk (fun z => Eq z (σ 50 0 0)) (funext fun j => h3.2 _ _ _ _ (fun q => q)) (h.2.2.2.2.2.2.2.2.2.1), gf_mk (fun z => Eq z F) (funext fun j => h3.2 _ _ _ _ (fun q => q)) (h.2.2.2.2.2.2.2.2.2.2.1), trivial⟩)) (pc' := 168) rfl (fun y8 => ?_)
    refine G_ex (fun hy8 => ?_)
    obtain rfl : y8 = lt (LC F (σ 35 0 0 21)) (σ 35 0 0 20) (σ 35 0 0 19) := by omega
    refine T_st (L' := [(0, av 35 0 0), (1, iv p0), (2, iv p1), (3, iv O), (4, iv W), (5, iv (lt (LC F (σ 35 0 0 21)) (σ 35 0 0 20) (σ 35 0 0 19)))]) zk_154_168 (nL := 6) rfl rfl rfl rfl rfl (pc' := 170) rfl ?_
    refine T_ld zk_154_170 rfl rfl rfl (pc' := 172) rfl ?_
    refine T_if_eq zk_154_172 (by omega) (pc' := 175) rfl (fun h9 => ?_) (fun h10 => ?_)
    ·
      refine T_ld zk_154_254 rfl rfl rfl (pc' := 256) rfl ?_
      refine T_if_eq zk_154_256 (by omega) (pc' := 259) rfl (fun h11 => ?_) (fun h12 => ?_)
      ·
        refine T_ld zk_154_294 rfl rfl rfl (pc' := 296) rfl ?_
        refine T_op zk_154_296 rfl (X_bi (v := 38) (by decide)) (pc' := 298) rfl ?_
        refine T_icmp_eq zk_154_298 (by omega) (by omega) (pc' := 301) rfl (fun h13 => ?_) (fun h14 => ?_)
        ·
          obtain rfl : W = 0 := by omega
          have hK := hK0 rfl
          clear hK1 hK0
          refine G_know (J' := (fun σ' => IF (MCo (Int.toNat p1)) σ σ' ∧ σ' 35 0 0 19 = σ 35 0 0 19 ∧ σ' 35 0 0 20 = σ 35 0 0 20 ∧ σ' 35 0 0 21 = σ 35 0 0 21 ∧ σ' 35 0 0 22 = σ 35 0 0 22 ∧ σ' 35 0 0 23 = σ 35 0 0 23 ∧ σ' 35 0 0 24 = σ 35 0 0 24 ∧ σ' 35 0 0 25 = σ 35 0 0 25 ∧ Eq (σ' 45 0 0) (σ 45 0 0) ∧ Eq (σ' 50 0 0) (σ 50 0 0) ∧ Eq (σ' 41 0 0) F ∧ (PSt σ' p1 1 O 0) ∧ (KT σ' O st) ∧ True)) (fun σ' h => ⟨h.1, h.2.1, h.2.2.1, h.2.2.2.1, h.2.2.2.2.1, h.2.2.2.2.2.1, h.2.2.2.2.2.2.1, h.2.2.2.2.2.2.2.1, h.2.2.2.2.2.2.2.2.1, h.2.2.2.2.2.2.2.2.2.1, h.2.2.2.2.2.2.2.2.2.2.1, PSt_e (PSt_same hP (h.2.1) (h.2.2.1) (h.2.2.2.1) (h.2.2.2.2.1) (h.2.2.2.2.2.1) (h.2.2.2.2.2.2.1) (h.2.2.2.2.2.2.2.2.1) (h.2.2.2.2.2.2.2.2.2.1)) (by omega) rfl, KT_same hK (h.2.2.2.2.2.2.1) (h.2.2.2.2.2.2.2.1) (h.2.2.2.2.2.2.2.2.2.1), trivial⟩) ?_
          refine T_ld zk_154_308 rfl rfl rfl (pc' := 309) rfl ?_
          refine T_ld zk_154_309 rfl rfl rfl (pc' := 310) rfl ?_
          refine T_ld zk_154_310 rfl rfl rfl (pc' := 312) rfl ?_
          refine T_op zk_154_312 rfl (X_bi (v := 38) (by decide)) (pc' := 314) rfl ?_
          refine T_icmp_ne zk_154_314 (by omega) (by omega) (pc' := 317) rfl (fun h15 => ?_) (fun h16 => ?_)
          · exfalso; omega
          ·
            refine T_op zk_154_317 rfl X_ic (pc' := 318) rfl ?_
            refine T_goto zk_154_318 ?_
            refine T_callv (J' := (fun σ' => IF (MCo (Int.toNat p1)) σ σ' ∧ σ' 35 0 0 19 = σ 35 0 0 19 ∧ σ' 35 0 0 20 = σ 35 0 0 20 ∧ σ' 35 0 0 21 = σ 35 0 0 21 ∧ σ' 35 0 0 23 = σ 35 0 0 23 ∧ Eq (σ' 50 0 0) (σ 50 0 0) ∧ Eq (σ' 41 0 0) F ∧ (PSt σ' p1 1 O 0) ∧ (KT σ' O st) ∧ (1 = 0 → 0 < σ' 35 0 0 24 → ¬ (σ' 50 0 0 (Int.toNat (σ' 35 0 0 24 - 1)) = 38 ∨ σ' 50 0 0 (Int.toNat (σ' 35 0 0 24 - 1)) = 124)) ∧ True)) (r := []) zk_154_322 rfl rfl rfl rfl rfl rfl (Or.inr ⟨_, _, _, _, rfl, vd_35, rfl⟩) (fun σ' h => (k_153 p1 1 O O st (by omega) (by omega) σ' h.1.1 (h.2.2.2.2.2.2.2.2.2.2.2.1) (h.2.2.2.2.2.2.2.2.2.2.2.2.1)).le (Nat.le_of_ble_eq_true rfl) (fun v σ2 ⟨h1, h3, h4⟩ => ⟨h1, h.1.tr h3 (fun t i k j h => by unfold MCl at h; unfold MCo; omega), (h3.2 _ _ _ _ (by first | exact nMCl rfl | (unfold MCl; omega))).trans (h.2.1), (h3.2 _ _ _ _ (by first | exact nMCl rfl | (unfold MCl; omega))).trans (h.2.2.1), (h3.2 _ _ _ _ (by first | exact nMCl rfl | (unfold MCl; omega))).trans (h.2.2.2.1), (h3.2 _ _ _ _ (by first | exact nMCl rfl | (unfold MCl; omega))).trans (h.2.2.2.2.2.1), gf_mk (fun z => Eq z (σ 50 0 0)) (funext fun j => h3.2 _ _ _ _ (by first | exact nMCl rfl | (unfold MCl; omega))) (h.2.2.2.2.2.2.2.2.2.1), gf_mk (fun z => Eq z F) (funext fun j => h3.2 _ _ _ _ (by first | exact nMCl rfl | (unfold MCl; omega))) (h.2.2.2.2.2.2.2.2.2.2.1), h4.1, h4.2.1, h4.2.2.1, trivial⟩)) (pc' := 325) rfl ?_
            have hs := R_sign (L := LC F (σ 35 0 0 21)) (n := σ 35 0 0 20) (p := σ 35 0 0 19) st (by omega) (by omega) (by omega)
            exact fun σ' h => k_154_c p0 p1 O (σ 35 0 0 19) (lt (LC F (σ 35 0 0 21)) (σ 35 0 0 20) (σ 35 0 0 19)) (σ 35 0 0 20) (σ 35 0 0 21) (RUN (LC F (σ 35 0 0 21)) (σ 35 0 0 20) (σ 35 0 0 19) st 0) F st hp0 hp1 (by omega) σ' h.1.1 (h.2.2.2.2.2.2.2.1) (by rw [(h.2.1)]; omega) (by rw [(h.2.1), (h.2.2.1)]; omega) (by rw [(h.2.1)]; omega) (by omega) (h.2.2.2.2.2.2.2.2.1) ((funext fun q => h.1.2 41 0 0 q (by unfold MCo; omega)).trans hq41) (h.2.2.1) (h.2.2.2.1) (hs.trans (by rw [(h.2.1)])) (fun σ2 O2 W2 s2 h1 => hgo σ2 O2 W2 s2 (h.1.tr h1 (fun _ _ _ _ q => q)))
        ·
          refine T_ld zk_154_301 rfl rfl rfl (pc' := 303) rfl ?_
          refine T_op zk_154_303 rfl (X_bi (v := 124) (by decide)) (pc' := 305) rfl ?_
          refine T_icmp_ne zk_154_305 (by omega) (by omega) (pc' := 308) rfl (fun h18 => ?_) (fun h19 => ?_)
          ·
            refine T_ld zk_154_359 rfl rfl rfl (pc' := 361) rfl ?_
            refine T_op zk_154_361 rfl (X_bi (v := 41) (by decide)) (pc' := 363) rfl ?_
            refine T_icmp_ne zk_154_363 (by omega) (by omega) (pc' := 366) rfl (fun h20 => ?_) (fun h21 => ?_)
            ·
              refine T_ld zk_154_417 rfl rfl rfl (pc' := 418) rfl ?_
              refine G_getX (w := σ 35 0 0 19) zk_154_418 rfl vd_35 (fun σ' h => h.2.1) (pc' := 421) rfl ?_
              obtain rfl : W = 0 := by omega
              have hK := hK0 rfl
              clear hK1 hK0
              have hnb := hK.1.2.2.2.1
              have hs := R_stop2 (L := LC F (σ 35 0 0 21)) (n := σ 35 0 0 20) (p := σ 35 0 0 19) (st := st) hK.2.1 (by omega) (by omega) (by omega) (by omega)
              exact T_iret zk_154_421 rfl (fun σ' h => hret _ σ' h.1 (by omega) (fun q => by exfalso; omega) hs.symm)
            ·
              refine T_ld zk_154_366 rfl rfl rfl (pc' := 367) rfl ?_
              refine T_if_le zk_154_367 (by omega) (pc' := 370) rfl (fun h22 => ?_) (fun h23 => ?_)
              ·
                refine T_ld zk_154_417 rfl rfl rfl (pc' := 418) rfl ?_
                refine G_getX (w := σ 35 0 0 19) zk_154_418 rfl vd_35 (fun σ' h => h.2.1) (pc' := 421) rfl ?_
                obtain rfl : W = 0 := by omega
                have hK := hK0 rfl
                clear hK1 hK0
                have hnb := hK.1.2.2.2.1
                have hs := R_stop2 (L := LC F (σ 35 0 0 21)) (n := σ 35 0 0 20) (p := σ 35 0 0 19) (st := st) hK.2.1 (by omega) (by omega) (by omega) (by omega)
                exact T_iret zk_154_421 rfl (fun σ' h => hret _ σ' h.1 (by omega) (fun q => by exfalso; omega) hs.symm)
              ·
                obtain rfl : W = 0 := by omega
                have hK := hK0 rfl
                clear hK1 hK0
                refine G_know (J' := (fun σ' => IF (MCo (Int.toNat p1)) σ σ' ∧ σ' 35 0 0 19 = σ 35 0 0 19 ∧ σ' 35 0 0 20 = σ 35 0 0 20 ∧ σ' 35 0 0 21 = σ 35 0 0 21 ∧ σ' 35 0 0 22 = σ 35 0 0 22 ∧ σ' 35 0 0 23 = σ 35 0 0 23 ∧ σ' 35 0 0 24 = σ 35 0 0 24 ∧ σ' 35 0 0 25 = σ 35 0 0 25 ∧ Eq (σ' 45 0 0) (σ 45 0 0) ∧ Eq (σ' 50 0 0) (σ 50 0 0) ∧ Eq (σ' 41 0 0) F ∧ (PSt σ' p1 1 O 0) ∧ (KT σ' O st) ∧ True)) (fun σ' h => ⟨h.1, h.2.1, h.2.2.1, h.2.2.2.1, h.2.2.2.2.1, h.2.2.2.2.2.1, h.2.2.2.2.2.2.1, h.2.2.2.2.2.2.2.1, h.2.2.2.2.2.2.2.2.1, h.2.2.2.2.2.2.2.2.2.1, h.2.2.2.2.2.2.2.2.2.2.1, PSt_e (PSt_same hP (h.2.1) (h.2.2.1) (h.2.2.2.1) (h.2.2.2.2.1) (h.2.2.2.2.2.1) (h.2.2.2.2.2.2.1) (h.2.2.2.2.2.2.2.2.1) (h.2.2.2.2.2.2.2.2.2.1)) (by omega) rfl, KT_same hK (h.2.2.2.2.2.2.1) (h.2.2.2.2.2.2.2.1) (h.2.2.2.2.2.2.2.2.2.1), trivial⟩) ?_
                refine T_ld zk_154_370 rfl rfl rfl (pc' := 371) rfl ?_
                refine T_ld zk_154_371 rfl rfl rfl (pc' := 372) rfl ?_
                refine T_op zk_154_372 rfl X_ic (pc' := 373) rfl ?_
                refine T_callv (J' := (fun σ' => IF (MCo (Int.toNat p1)) σ σ' ∧ σ' 35 0 0 19 = σ 35 0 0 19 ∧ σ' 35 0 0 20 = σ 35 0 0 20 ∧ σ' 35 0 0 21 = σ 35 0 0 21 ∧ σ' 35 0 0 23 = σ 35 0 0 23 ∧ Eq (σ' 50 0 0) (σ 50 0 0) ∧ Eq (σ' 41 0 0) F ∧ (PSt σ' p1 1 O 0) ∧ (KT σ' O st) ∧ (0 = 0 → 0 < σ' 35 0 0 24 → ¬ (σ' 50 0 0 (Int.toNat (σ' 35 0 0 24 - 1)) = 38 ∨ σ' 50 0 0 (Int.toNat (σ' 35 0 0 24 - 1)) = 124)) ∧ True)) (r := []) zk_154_373 rfl rfl rfl rfl rfl rfl (Or.inr ⟨_, _, _, _, rfl, vd_35, rfl⟩) (fun σ' h => (k_153 p1 0 O O st (by omega) (by omega) σ' h.1.1 (h.2.2.2.2.2.2.2.2.2.2.2.1) (h.2.2.2.2.2.2.2.2.2.2.2.2.1)).le (Nat.le_of_ble_eq_true rfl) (fun v σ2 ⟨h1, h3, h4⟩ => ⟨h1, h.1.tr h3 (fun t i k j h => by unfold MCl at h; unfold MCo; omega), (h3.2 _ _ _ _ (by first | exact nMCl rfl | (unfold MCl; omega))).trans (h.2.1), (h3.2 _ _ _ _ (by first | exact nMCl rfl | (unfold MCl; omega))).trans (h.2.2.1), (h3.2 _ _ _ _ (by first | exact nMCl rfl | (unfold MCl; omega))).trans (h.2.2.2.1), (h3.2 _ _ _ _ (by first | exact nMCl rfl | (unfold MCl; omega))).trans (h.2.2.2.2.2.1), gf_mk (fun z => Eq z (σ 50 0 0)) (funext fun j => h3.2 _ _ _ _ (by first | exact nMCl rfl | (unfold MCl; omega))) (h.2.2.2.2.2.2.2.2.2.1), gf_mk (fun z => Eq z F) (funext fun j => h3.2 _ _ _ _ (by first | exact nMCl rfl | (unfold MCl; omega))) (h.2.2.2.2.2.2.2.2.2.2.1), h4.1, h4.2.1, h4.2.2.1, trivial⟩)) (pc' := 376) rfl ?_
                have hs := R_shut2 (L := LC F (σ 35 0 0 21)) (n := σ 35 0 0 20) (p := σ 35 0 0 19) (st := st) (by omega) (by omega) (KT_open hK (by omega)) (by omega)
                exact fun σ' h => k_154_d p0 p1 O (σ 35 0 0 19) (lt (LC F (σ 35 0 0 21)) (σ 35 0 0 20) (σ 35 0 0 19)) (σ 35 0 0 20) (σ 35 0 0 21) (RUN (LC F (σ 35 0 0 21)) (σ 35 0 0 20) (σ 35 0 0 19) st 0) F st hp0 hp1 (by omega) σ' h.1.1 (h.2.2.2.2.2.2.2.1) (by rw [(h.2.1)]; omega) (by rw [(h.2.1), (h.2.2.1)]; omega) (by rw [(h.2.1)]; omega) (by omega) ((h.2.2.2.2.2.2.2.2.2.1) rfl) (h.2.2.2.2.2.2.2.2.1) ((funext fun q => h.1.2 41 0 0 q (by unfold MCo; omega)).trans hq41) (h.2.2.1) (h.2.2.2.1) (hs.trans (by rw [(h.2.1)])) (fun σ2 O2 W2 s2 h1 => hgo σ2 O2 W2 s2 (h.1.tr h1 (fun _ _ _ _ q => q)))
          ·
            obtain rfl : W = 0 := by omega
            have hK := hK0 rfl
            clear hK1 hK0
            refine G_know (J' := (fun σ' => IF (MCo (Int.toNat p1)) σ σ' ∧ σ' 35 0 0 19 = σ 35 0 0 19 ∧ σ' 35 0 0 20 = σ 35 0 0 20 ∧ σ' 35 0 0 21 = σ 35 0 0 21 ∧ σ' 35 0 0 22 = σ 35 0 0 22 ∧ σ' 35 0 0 23 = σ 35 0 0 23 ∧ σ' 35 0 0 24 = σ 35 0 0 24 ∧ σ' 35 0 0 25 = σ 35 0 0 25 ∧ Eq (σ' 45 0 0) (σ 45 0 0) ∧ Eq (σ' 50 0 0) (σ 50 0 0) ∧ Eq (σ' 41 0 0) F ∧ (PSt σ' p1 1 O 0) ∧ (KT σ' O st) ∧ True)) (fun σ' h => ⟨h.1, h.2.1, h.2.2.1, h.2.2.2.1, h.2.2.2.2.1, h.2.2.2.2.2.1, h.2.2.2.2.2.2.1, h.2.2.2.2.2.2.2.1, h.2.2.2.2.2.2.2.2.1, h.2.2.2.2.2.2.2.2.2.1, h.2.2.2.2.2.2.2.2.2.2.1, PSt_e (PSt_same hP (h.2.1) (h.2.2.1) (h.2.2.2.1) (h.2.2.2.2.1) (h.2.2.2.2.2.1) (h.2.2.2.2.2.2.1) (h.2.2.2.2.2.2.2.2.1) (h.2.2.2.2.2.2.2.2.2.1)) (by omega) rfl, KT_same hK (h.2.2.2.2.2.2.1) (h.2.2.2.2.2.2.2.1) (h.2.2.2.2.2.2.2.2.2.1), trivial⟩) ?_
            refine T_ld zk_154_308 rfl rfl rfl (pc' := 309) rfl ?_
            refine T_ld zk_154_309 rfl rfl rfl (pc' := 310) rfl ?_
            refine T_ld zk_154_310 rfl rfl rfl (pc' := 312) rfl ?_
            refine T_op zk_154_312 rfl (X_bi (v := 38) (by decide)) (pc' := 314) rfl ?_
            refine T_icmp_ne zk_154_314 (by omega) (by omega) (pc' := 317) rfl (fun h25 => ?_) (fun h26 => ?_)
            ·
              refine T_op zk_154_321 rfl X_ic (pc' := 322) rfl ?_
              refine T_callv (J' := (fun σ' => IF (MCo (Int.toNat p1)) σ σ' ∧ σ' 35 0 0 19 = σ 35 0 0 19 ∧ σ' 35 0 0 20 = σ 35 0 0 20 ∧ σ' 35 0 0 21 = σ 35 0 0 21 ∧ σ' 35 0 0 23 = σ 35 0 0 23 ∧ Eq (σ' 50 0 0) (σ 50 0 0) ∧ Eq (σ' 41 0 0) F ∧ (PSt σ' p1 1 O 0) ∧ (KT σ' O st) ∧ (0 = 0 → 0 < σ' 35 0 0 24 → ¬ (σ' 50 0 0 (Int.toNat (σ' 35 0 0 24 - 1)) = 38 ∨ σ' 50 0 0 (Int.toNat (σ' 35 0 0 24 - 1)) = 124)) ∧ True)) (r := []) zk_154_322 rfl rfl rfl rfl rfl rfl (Or.inr ⟨_, _, _, _, rfl, vd_35, rfl⟩) (fun σ' h => (k_153 p1 0 O O st (by omega) (by omega) σ' h.1.1 (h.2.2.2.2.2.2.2.2.2.2.2.1) (h.2.2.2.2.2.2.2.2.2.2.2.2.1)).le (Nat.le_of_ble_eq_true rfl) (fun v σ2 ⟨h1, h3, h4⟩ => ⟨h1, h.1.tr h3 (fun t i k j h => by unfold MCl at h; unfold MCo; omega), (h3.2 _ _ _ _ (by first | exact nMCl rfl | (unfold MCl; omega))).trans (h.2.1), (h3.2 _ _ _ _ (by first | exact nMCl rfl | (unfold MCl; omega))).trans (h.2.2.1), (h3.2 _ _ _ _ (by first | exact nMCl rfl | (unfold MCl; omega))).trans (h.2.2.2.1), (h3.2 _ _ _ _ (by first | exact nMCl rfl | (unfold MCl; omega))).trans (h.2.2.2.2.2.1), gf_mk (fun z => Eq z (σ 50 0 0)) (funext fun j => h3.2 _ _ _ _ (by first | exact nMCl rfl | (unfold MCl; omega))) (h.2.2.2.2.2.2.2.2.2.1), gf_mk (fun z => Eq z F) (funext fun j => h3.2 _ _ _ _ (by first | exact nMCl rfl | (unfold MCl; omega))) (h.2.2.2.2.2.2.2.2.2.2.1), h4.1, h4.2.1, h4.2.2.1, trivial⟩)) (pc' := 325) rfl ?_
              have hs := R_sign (L := LC F (σ 35 0 0 21)) (n := σ 35 0 0 20) (p := σ 35 0 0 19) st (by omega) (by omega) (by omega)
              exact fun σ' h => k_154_c p0 p1 O (σ 35 0 0 19) (lt (LC F (σ 35 0 0 21)) (σ 35 0 0 20) (σ 35 0 0 19)) (σ 35 0 0 20) (σ 35 0 0 21) (RUN (LC F (σ 35 0 0 21)) (σ 35 0 0 20) (σ 35 0 0 19) st 0) F st hp0 hp1 (by omega) σ' h.1.1 (h.2.2.2.2.2.2.2.1) (by rw [(h.2.1)]; omega) (by rw [(h.2.1), (h.2.2.1)]; omega) (by rw [(h.2.1)]; omega) (by omega) (h.2.2.2.2.2.2.2.2.1) ((funext fun q => h.1.2 41 0 0 q (by unfold MCo; omega)).trans hq41) (h.2.2.1) (h.2.2.2.1) (hs.trans (by rw [(h.2.1)])) (fun σ2 O2 W2 s2 h1 => hgo σ2 O2 W2 s2 (h.1.tr h1 (fun _ _ _ _ q => q)))
            · exfalso; omega
      · exfalso; omega
    ·
      refine T_ld zk_154_175 rfl rfl rfl (pc' := 177) rfl ?_
      refine T_op zk_154_177 rfl (X_bi (v := 33) (by decide)) (pc' := 179) rfl ?_
      refine T_icmp_eq zk_154_179 (by omega) (by omega) (pc' := 182) rfl (fun h28 => ?_) (fun h29 => ?_)
      ·
        refine T_ld zk_154_189 rfl rfl rfl (pc' := 190) rfl ?_
        refine G_getX (w := σ 35 0 0 25) zk_154_190 rfl vd_35 (fun σ' h => h.2.2.2.2.2.2.2.1) (pc' := 193) rfl ?_
        refine T_op zk_154_193 rfl (X_bi (v := 20) (by decide)) (pc' := 195) rfl ?_
        refine T_icmp_ne zk_154_195 (by omega) (by omega) (pc' := 198) rfl (fun h30 => ?_) (fun h31 => ?_)
        ·
          refine T_ld zk_154_203 rfl rfl rfl (pc' := 204) rfl ?_
          refine T_op (st' := [av 35 0 0, av 35 0 0]) zk_154_204 rfl rfl (pc' := 205) rfl ?_
          refine G_getX (w := σ 35 0 0 25) zk_154_205 rfl vd_35 (fun σ' h => h.2.2.2.2.2.2.2.1) (pc' := 208) rfl ?_
          refine T_op zk_154_208 rfl X_ic (pc' := 209) rfl ?_
          refine T_op zk_154_209 rfl X_add (pc' := 210) rfl ?_
          refine T_putf (J' := (fun σ' => IF (MCo (Int.toNat p1)) σ σ' ∧ σ' 35 0 0 19 = σ 35 0 0 19 ∧ σ' 35 0 0 20 = σ 35 0 0 20 ∧ σ' 35 0 0 21 = σ 35 0 0 21 ∧ σ' 35 0 0 22 = σ 35 0 0 22 ∧ σ' 35 0 0 23 = σ 35 0 0 23 ∧ σ' 35 0 0 24 = σ 35 0 0 24 ∧ Eq (σ' 45 0 0) (σ 45 0 0) ∧ Eq (σ' 50 0 0) (σ 50 0 0) ∧ Eq (σ' 41 0 0) F ∧ σ' 35 0 0 25 = σ 35 0 0 25 + 1 ∧ True)) zk_154_210 rfl rfl vd_35 (fun σ' h => ⟨h.1.up (by simp only [rgP] <;> omega) (by first | exact pMCo rfl | (unfold MCo; omega)), (up_ne (by omega)).trans (h.2.1), (up_ne (by omega)).trans (h.2.2.1), (up_ne (by omega)).trans (h.2.2.2.1), (up_ne (by omega)).trans (h.2.2.2.2.1), (up_ne (by omega)).trans (h.2.2.2.2.2.1), (up_ne (by omega)).trans (h.2.2.2.2.2.2.1), gf_mk (fun z => Eq z (σ 45 0 0)) (up_row (by omega)) (h.2.2.2.2.2.2.2.2.1), gf_mk (fun z => Eq z (σ 50 0 0)) (up_row (by omega)) (h.2.2.2.2.2.2.2.2.2.1), gf_mk (fun z => Eq z F) (up_row (by omega)) (h.2.2.2.2.2.2.2.2.2.2.1), up_eq, trivial⟩) (pc' := 213) rfl ?_
          refine T_ld zk_154_213 rfl rfl rfl (pc' := 214) rfl ?_
          refine T_getR (t' := 50) (i' := 0) (k' := 0) zk_154_214 rfl rfl rfl vd_35 (pc' := 217) rfl ?_
          refine T_ld zk_154_217 rfl rfl rfl (pc' := 218) rfl ?_
          refine T_op (st' := [av 35 0 0, av 35 0 0, av 50 0 0]) zk_154_218 rfl rfl (pc' := 219) rfl ?_
          refine G_getX (w := σ 35 0 0 24) zk_154_219 rfl vd_35 (fun σ' h => h.2.2.2.2.2.2.1) (pc' := 222) rfl ?_
          refine T_op (st' := [iv (σ 35 0 0 24), av 35 0 0, iv (σ 35 0 0 24), av 50 0 0]) zk_154_222 rfl rfl (pc' := 223) rfl ?_
          refine T_op zk_154_223 rfl X_ic (pc' := 224) rfl ?_
          refine T_op zk_154_224 rfl X_add (pc' := 225) rfl ?_
          refine T_putf (J' := (fun σ' => IF (MCo (Int.toNat p1)) σ σ' ∧ σ' 35 0 0 19 = σ 35 0 0 19 ∧ σ' 35 0 0 20 = σ 35 0 0 20 ∧ σ' 35 0 0 21 = σ 35 0 0 21 ∧ σ' 35 0 0 22 = σ 35 0 0 22 ∧ σ' 35 0 0 23 = σ 35 0 0 23 ∧ Eq (σ' 45 0 0) (σ 45 0 0) ∧ Eq (σ' 50 0 0) (σ 50 0 0) ∧ Eq (σ' 41 0 0) F ∧ σ' 35 0 0 25 = σ 35 0 0 25 + 1 ∧ σ' 35 0 0 24 = σ 35 0 0 24 + 1 ∧ True)) zk_154_225 rfl rfl vd_35 (fun σ' h => ⟨h.1.up (by simp only [rgP] <;> omega) (by first | exact pMCo rfl | (unfold MCo; omega)), (up_ne (by omega)).trans (h.2.1), (up_ne (by omega)).trans (h.2.2.1), (up_ne (by omega)).trans (h.2.2.2.1), (up_ne (by omega)).trans (h.2.2.2.2.1), (up_ne (by omega)).trans (h.2.2.2.2.2.1), gf_mk (fun z => Eq z (σ 45 0 0)) (up_row (by omega)) (h.2.2.2.2.2.2.2.1), gf_mk (fun z => Eq z (σ 50 0 0)) (up_row (by omega)) (h.2.2.2.2.2.2.2.2.1), gf_mk (fun z => Eq z F) (up_row (by omega)) (h.2.2.2.2.2.2.2.2.2.1), (up_ne (by omega)).trans (h.2.2.2.2.2.2.2.2.2.2.1), up_eq, trivial⟩) (pc' := 228) rfl ?_
          refine T_ld zk_154_228 rfl rfl rfl (pc' := 230) rfl ?_
          refine G_iast (J' := (fun σ' => IF (MCo (Int.toNat p1)) σ σ' ∧ σ' 35 0 0 19 = σ 35 0 0 19 ∧ σ' 35 0 0 20 = σ 35 0 0 20 ∧ σ' 35 0 0 21 = σ 35 0 0 21 ∧ σ' 35 0 0 22 = σ 35 0 0 22 ∧ σ' 35 0 0 23 = σ 35 0 0 23 ∧ Eq (σ' 45 0 0) (σ 45 0 0) ∧ Eq (σ' 50 0 0) (fun q => if q = Int.toNat (σ 35 0 0 24) then lt (LC F (σ 35 0 0 21)) (σ 35 0 0 20) (σ 35 0 0 19) else (σ 50 0 0) q) ∧ Eq (σ' 41 0 0) F ∧ σ' 35 0 0 25 = σ 35 0 0 25 + 1 ∧ σ' 35 0 0 24 = σ 35 0 0 24 + 1 ∧ True)) (ln := 120) zk_154_230 rfl rfl vd_50 (by omega) (by omega) (by omega) (fun σ' h => ⟨h.1.up ⟨by omega, trivial⟩ (by first | exact pMCo rfl | (unfold MCo; omega)), (up_ne (by omega)).trans (h.2.1), (up_ne (by omega)).trans (h.2.2.1), (up_ne (by omega)).trans (h.2.2.2.1), (up_ne (by omega)).trans (h.2.2.2.2.1), (up_ne (by omega)).trans (h.2.2.2.2.2.1), gf_mk (fun z => Eq z (σ 45 0 0)) (up_row (by omega)) (h.2.2.2.2.2.2.1), Eq_put (h.2.2.2.2.2.2.2.1), gf_mk (fun z => Eq z F) (up_row (by omega)) (h.2.2.2.2.2.2.2.2.1), (up_ne (by omega)).trans (h.2.2.2.2.2.2.2.2.2.1), (up_ne (by omega)).trans (h.2.2.2.2.2.2.2.2.2.2.1), trivial⟩) (pc' := 231) rfl ?_
          refine T_ld zk_154_231 rfl rfl rfl (pc' := 233) rfl ?_
          refine T_op zk_154_233 rfl (X_bi (v := 40) (by decide)) (pc' := 235) rfl ?_
          refine T_icmp_ne zk_154_235 (by omega) (by omega) (pc' := 238) rfl (fun h32 => ?_) (fun h33 => ?_)
          ·
            refine T_ld zk_154_241 rfl rfl rfl (pc' := 242) rfl ?_
            refine T_op (st' := [av 35 0 0, av 35 0 0]) zk_154_242 rfl rfl (pc' := 243) rfl ?_
            refine G_getX (w := σ 35 0 0 19) zk_154_243 rfl vd_35 (fun σ' h => h.2.1) (pc' := 246) rfl ?_
            refine T_op zk_154_246 rfl X_ic (pc' := 247) rfl ?_
            refine T_op zk_154_247 rfl X_add (pc' := 248) rfl ?_
            refine T_putf (J' := (fun σ' => IF (MCo (Int.toNat p1)) σ σ' ∧ σ' 35 0 0 20 = σ 35 0 0 20 ∧ σ' 35 0 0 21 = σ 35 0 0 21 ∧ σ' 35 0 0 22 = σ 35 0 0 22 ∧ σ' 35 0 0 23 = σ 35 0 0 23 ∧ Eq (σ' 45 0 0) (σ 45 0 0) ∧ Eq (σ' 50 0 0) (fun q => if q = Int.toNat (σ 35 0 0 24) then lt (LC F (σ 35 0 0 21)) (σ 35 0 0 20) (σ 35 0 0 19) else (σ 50 0 0) q) ∧ Eq (σ' 41 0 0) F ∧ σ' 35 0 0 25 = σ 35 0 0 25 + 1 ∧ σ' 35 0 0 24 = σ 35 0 0 24 + 1 ∧ σ' 35 0 0 19 = σ 35 0 0 19 + 1 ∧ True)) zk_154_248 rfl rfl vd_35 (fun σ' h => ⟨h.1.up (by simp only [rgP] <;> omega) (by first | exact pMCo rfl | (unfold MCo; omega)), (up_ne (by omega)).trans (h.2.2.1), (up_ne (by omega)).trans (h.2.2.2.1), (up_ne (by omega)).trans (h.2.2.2.2.1), (up_ne (by omega)).trans (h.2.2.2.2.2.1), gf_mk (fun z => Eq z (σ 45 0 0)) (up_row (by omega)) (h.2.2.2.2.2.2.1), gf_mk (fun z => Eq z (fun q => if q = Int.toNat (σ 35 0 0 24) then lt (LC F (σ 35 0 0 21)) (σ 35 0 0 20) (σ 35 0 0 19) else (σ 50 0 0) q)) (up_row (by omega)) (h.2.2.2.2.2.2.2.1), gf_mk (fun z => Eq z F) (up_row (by omega)) (h.2.2.2.2.2.2.2.2.1), (up_ne (by omega)).trans (h.2.2.2.2.2.2.2.2.2.1), (up_ne (by omega)).trans (h.2.2.2.2.2.2.2.2.2.2.1), up_eq, trivial⟩) (pc' := 251) rfl ?_
            refine T_goto zk_154_251 ?_
            refine T_goto zk_154_422 ?_
            have hb1 := bB_spec (lt (LC F (σ 35 0 0 21)) (σ 35 0 0 20) (σ 35 0 0 19))
            have hb2 := bP_spec (lt (LC F (σ 35 0 0 21)) (σ 35 0 0 20) (σ 35 0 0 19))
            obtain rfl : W = 1 := by omega
            have hK := hK1 rfl
            clear hK1 hK0
            have hw := R_want (L := LC F (σ 35 0 0 21)) (n := σ 35 0 0 20) (p := σ 35 0 0 19) (by omega) (by omega) hK.2.2.1.symm (rfl : cls st = cls st)
            refine T_loc (L := [(0, av 35 0 0), (1, iv p0), (2, iv p1), (3, iv O), (4, iv 1)]) (E := [(5, iv (lt (LC F (σ 35 0 0 21)) (σ 35 0 0 20) (σ 35 0 0 19)))]) rfl ?_
            have h40 : ¬ (lt (LC F (σ 35 0 0 21)) (σ 35 0 0 20) (σ 35 0 0 19)) = 40 := by omega
            exact fun σ' h => hgo σ' _ _ (false :: st) h.1 (PSt_sign hP (by omega) (by omega) ⟨(h.2.2.2.2.2.2.2.2.2.2.1), by omega⟩ (h.2.1) (h.2.2.1) (h.2.2.2.1) (h.2.2.2.2.1) (h.2.2.2.2.2.2.2.2.2.1) (h.2.2.2.2.2.1) (h.2.2.2.2.2.2.1)) (by rw [(h.2.2.2.2.2.2.2.2.2.2.1)]; omega) (Or.inr rfl) (by rw [(h.2.2.2.2.2.2.2.2.2.2.1)]; omega) ⟨(funext fun q => h.1.2 41 0 0 q (by unfold MCo; omega)).trans hq41, (h.2.1), (h.2.2.1), (fun _ => by have q := KM_push (σ' := σ') hK (v := lt (LC F (σ 35 0 0 21)) (σ 35 0 0 20) (σ 35 0 0 19)) (by omega) (by omega) (h.2.2.2.2.2.2.2.2.2.1) (h.2.2.2.2.2.2.2.2.1) (h.2.2.2.2.2.2.1); rw [if_neg h40, decide_eq_false h40] at q; exact q), (fun q => absurd q (by decide)), ((hw.1 (by omega)).trans (by rw [(h.2.2.2.2.2.2.2.2.2.2.1)]))⟩
          · exfalso; omega
        ·
          refine T_ld zk_154_198 rfl rfl rfl (pc' := 199) rfl ?_
          refine G_getX (w := σ 35 0 0 19) zk_154_199 rfl vd_35 (fun σ' h => h.2.1) (pc' := 202) rfl ?_
          obtain rfl : W = 1 := by omega
          have hK := hK1 rfl
          clear hK1 hK0
          have hw := R_want (L := LC F (σ 35 0 0 21)) (n := σ 35 0 0 20) (p := σ 35 0 0 19) (by omega) (by omega) hK.2.2.1.symm (rfl : cls st = cls st)
          have hw5 := hw.2.2.1 (by omega)
          clear hw
          exact T_iret zk_154_202 rfl (fun σ' h => hret _ σ' h.1 (by omega) (fun q => by exfalso; omega) (by omega))
      ·
        refine T_ld zk_154_182 rfl rfl rfl (pc' := 184) rfl ?_
        refine T_op zk_154_184 rfl (X_bi (v := 40) (by decide)) (pc' := 186) rfl ?_
        refine T_icmp_ne zk_154_186 (by omega) (by omega) (pc' := 189) rfl (fun h34 => ?_) (fun h35 => ?_)
        ·
          refine T_ld zk_154_254 rfl rfl rfl (pc' := 256) rfl ?_
          refine T_if_eq zk_154_256 (by omega) (pc' := 259) rfl (fun h36 => ?_) (fun h37 => ?_)
          · exfalso; omega
          ·
            refine T_ld zk_154_259 rfl rfl rfl (pc' := 260) rfl ?_
            refine T_ld zk_154_260 rfl rfl rfl (pc' := 261) rfl ?_
            refine T_calli (K := fun y38 σ' => ((y38 = 1 ∧ tk (LC F (σ 35 0 0 21)) (σ 35 0 0 20) (σ 35 0 0 19) = 1) ∨ (y38 = 0 ∧ tk (LC F (σ 35 0 0 21)) (σ 35 0 0 20) (σ 35 0 0 19) = 0)) ∧ (fun σ' => IF (MCo (Int.toNat p1)) σ σ' ∧ σ' 35 0 0 20 = σ 35 0 0 20 ∧ σ' 35 0 0 21 = σ 35 0 0 21 ∧ σ' 35 0 0 22 = σ 35 0 0 22 ∧ σ' 35 0 0 24 = σ 35 0 0 24 ∧ σ' 35 0 0 25 = σ 35 0 0 25 ∧ Eq (σ' 45 0 0) (σ 45 0 0) ∧ Eq (σ' 50 0 0) (σ 50 0 0) ∧ Eq (σ' 41 0 0) F ∧ σ' 35 0 0 19 = te (LC F (σ 35 0 0 21)) (σ 35 0 0 20) (σ 35 0 0 19) ∧ (y38 = 1 → σ' 35 0 0 23 = (σ 35 0 0 23) + 1) ∧ True) σ') (r := []) zk_154_261 rfl rfl rfl rfl rfl rfl (Or.inr ⟨_, _, _, _, rfl, vd_35, rfl⟩) (fun σ' h => (r_150 p1 (σ 35 0 0 19) (σ 35 0 0 20) (σ 35 0 0 21) (σ 35 0 0 23) F (by omega) (by omega) (by omega) (by omega) (by omega) σ' h.1.1 (h.2.1) (h.2.2.1) (h.2.2.2.1) (h.2.2.2.2.2.2.2.2.2.2.1) (h.2.2.2.2.2.1)).le (Nat.le_of_ble_eq_true rfl) (fun v σ2 ⟨y, h1, h2, h3, h4⟩ => ⟨y, h1, h2, h.1.tr h3 (fun t i k j h => by unfold MRd at h; unfold MCo; omega), (h3.2 _ _ _ _ (by first | exact nMRd rfl | (unfold MRd; omega))).trans (h.2.2.1), (h3.2 _ _ _ _ (by first | exact nMRd rfl | (unfold MRd; omega))).trans (h.2.2.2.1), (h3.2 _ _ _ _ (by first | exact nMRd rfl | (unfold MRd; omega))).trans (h.2.2.2.2.1), (h3.2 _ _ _ _ (by first | exact nMRd rfl | (unfold MRd; omega))).trans (h.2.2.2.2.2.2.1), (h3.2 _ _ _ _ (by first | exact nMRd rfl | (unfold MRd; omega))).trans (h.2.2.2.2.2.2.2.1), gf_mk (fun z => Eq z (σ 45 0 0)) (funext fun j => h3.2 _ _ _ _ (by first | exact nMRd rfl | (unfold MRd; omega))) (h.2.2.2.2.2.2.2.2.1), gf_mk (fun z => Eq z (σ 50 0 0)) (funext fun j => h3.2 _ _ _ _ (by first | exact nMRd rfl | (unfold MRd; omega))) (h.2.2.2.2.2.2.2.2.2.1), gf_mk (fun z => Eq z F) (funext fun j => h3.2 _ _ _ _ (by first | exact nMRd rfl | (unfold MRd; omega))) (h.2.2.2.2.2.2.2.2.2.2.1), h4.1, h4.2.1, trivial⟩)) (pc' := 264) rfl (fun y38 => ?_)
            refine G_ex (fun hy38 => ?_)
            refine T_if_ne zk_154_264 (by omega) (pc' := 267) rfl (fun h39 => ?_) (fun h40 => ?_)
            ·
              obtain rfl : W = 1 := by omega
              have hK := hK1 rfl
              clear hK1 hK0
              have hw := R_want (L := LC F (σ 35 0 0 21)) (n := σ 35 0 0 20) (p := σ 35 0 0 19) (by omega) (by omega) hK.2.2.1.symm (rfl : cls st = cls st)
              have hw4 := hw.2.2.2.1 (by omega)
              clear hw
              obtain ⟨ht1, ht2, _⟩ := te_in (L := LC F (σ 35 0 0 21)) (n := σ 35 0 0 20) (p := σ 35 0 0 19) (by omega) (by omega)
              have ht3 := te_3 (L := LC F (σ 35 0 0 21)) (n := σ 35 0 0 20) (p := σ 35 0 0 19) (by omega)
              exact fun σ' h => k_154_b p0 p1 O (σ 35 0 0 19) (lt (LC F (σ 35 0 0 21)) (σ 35 0 0 20) (σ 35 0 0 19)) (σ 35 0 0 20) (σ 35 0 0 21) (RUN (LC F (σ 35 0 0 21)) (σ 35 0 0 20) (σ 35 0 0 19) st 1) F st hp0 hp1 (by omega) σ' h.1.1 (PSt_read (PSt_e hP (by omega) rfl) (by have e1 := h.2.2.2.2.2.2.2.2.2.1; have e2 := (h.2.1); omega) (h.2.1) (h.2.2.1) (h.2.2.2.1) (by have e1 := h.2.2.2.2.2.2.2.2.2.2.1; omega) (h.2.2.2.2.1) (h.2.2.2.2.2.2.1) (h.2.2.2.2.2.2.2.1)) (by have e1 := h.2.2.2.2.2.2.2.2.2.1; omega) (by have e1 := h.2.2.2.2.2.2.2.2.2.1; omega) (KM_same hK (h.2.2.2.2.1) (h.2.2.2.2.2.1) (h.2.2.2.2.2.2.2.1)) ((funext fun q => h.1.2 41 0 0 q (by unfold MCo; omega)).trans hq41) (h.2.1) (h.2.2.1) (hw4.trans (by rw [show σ' 35 0 0 19 = _ from h.2.2.2.2.2.2.2.2.2.1])) (fun σ2 O2 W2 s2 h1 => hgo σ2 O2 W2 s2 (h.1.tr h1 (fun _ _ _ _ q => q)))
            ·
              refine T_ld zk_154_267 rfl rfl rfl (pc' := 268) rfl ?_
              refine G_getX (w := te (LC F (σ 35 0 0 21)) (σ 35 0 0 20) (σ 35 0 0 19)) zk_154_268 rfl vd_35 (fun σ' h => h.2.2.2.2.2.2.2.2.2.1) (pc' := 271) rfl ?_
              obtain rfl : W = 1 := by omega
              have hK := hK1 rfl
              clear hK1 hK0
              have hw := R_want (L := LC F (σ 35 0 0 21)) (n := σ 35 0 0 20) (p := σ 35 0 0 19) (by omega) (by omega) hK.2.2.1.symm (rfl : cls st = cls st)
              have hw5 := hw.2.2.2.2 (by omega)
              clear hw
              obtain ⟨ht1, ht2, _⟩ := te_in (L := LC F (σ 35 0 0 21)) (n := σ 35 0 0 20) (p := σ 35 0 0 19) (by omega) (by omega)
              exact T_iret zk_154_271 rfl (fun σ' h => hret _ σ' h.1 (by omega) (fun q => by exfalso; omega) (by omega))
        ·
          refine T_ld zk_154_189 rfl rfl rfl (pc' := 190) rfl ?_
          refine G_getX (w := σ 35 0 0 25) zk_154_190 rfl vd_35 (fun σ' h => h.2.2.2.2.2.2.2.1) (pc' := 193) rfl ?_
          refine T_op zk_154_193 rfl (X_bi (v := 20) (by decide)) (pc' := 195) rfl ?_
          refine T_icmp_ne zk_154_195 (by omega) (by omega) (pc' := 198) rfl (fun h41 => ?_) (fun h42 => ?_)
          ·
            refine T_ld zk_154_203 rfl rfl rfl (pc' := 204) rfl ?_
            refine T_op (st' := [av 35 0 0, av 35 0 0]) zk_154_204 rfl rfl (pc' := 205) rfl ?_
            refine G_getX (w := σ 35 0 0 25) zk_154_205 rfl vd_35 (fun σ' h => h.2.2.2.2.2.2.2.1) (pc' := 208) rfl ?_
            refine T_op zk_154_208 rfl X_ic (pc' := 209) rfl ?_
            refine T_op zk_154_209 rfl X_add (pc' := 210) rfl ?_
            refine T_putf (J' := (fun σ' => IF (MCo (Int.toNat p1)) σ σ' ∧ σ' 35 0 0 19 = σ 35 0 0 19 ∧ σ' 35 0 0 20 = σ 35 0 0 20 ∧ σ' 35 0 0 21 = σ 35 0 0 21 ∧ σ' 35 0 0 22 = σ 35 0 0 22 ∧ σ' 35 0 0 23 = σ 35 0 0 23 ∧ σ' 35 0 0 24 = σ 35 0 0 24 ∧ Eq (σ' 45 0 0) (σ 45 0 0) ∧ Eq (σ' 50 0 0) (σ 50 0 0) ∧ Eq (σ' 41 0 0) F ∧ σ' 35 0 0 25 = σ 35 0 0 25 + 1 ∧ True)) zk_154_210 rfl rfl vd_35 (fun σ' h => ⟨h.1.up (by simp only [rgP] <;> omega) (by first | exact pMCo rfl | (unfold MCo; omega)), (up_ne (by omega)).trans (h.2.1), (up_ne (by omega)).trans (h.2.2.1), (up_ne (by omega)).trans (h.2.2.2.1), (up_ne (by omega)).trans (h.2.2.2.2.1), (up_ne (by omega)).trans (h.2.2.2.2.2.1), (up_ne (by omega)).trans (h.2.2.2.2.2.2.1), gf_mk (fun z => Eq z (σ 45 0 0)) (up_row (by omega)) (h.2.2.2.2.2.2.2.2.1), gf_mk (fun z => Eq z (σ 50 0 0)) (up_row (by omega)) (h.2.2.2.2.2.2.2.2.2.1), gf_mk (fun z => Eq z F) (up_row (by omega)) (h.2.2.2.2.2.2.2.2.2.2.1), up_eq, trivial⟩) (pc' := 213) rfl ?_
            refine T_ld zk_154_213 rfl rfl rfl (pc' := 214) rfl ?_
            refine T_getR (t' := 50) (i' := 0) (k' := 0) zk_154_214 rfl rfl rfl vd_35 (pc' := 217) rfl ?_
            refine T_ld zk_154_217 rfl rfl rfl (pc' := 218) rfl ?_
            refine T_op (st' := [av 35 0 0, av 35 0 0, av 50 0 0]) zk_154_218 rfl rfl (pc' := 219) rfl ?_
            refine G_getX (w := σ 35 0 0 24) zk_154_219 rfl vd_35 (fun σ' h => h.2.2.2.2.2.2.1) (pc' := 222) rfl ?_
            refine T_op (st' := [iv (σ 35 0 0 24), av 35 0 0, iv (σ 35 0 0 24), av 50 0 0]) zk_154_222 rfl rfl (pc' := 223) rfl ?_
            refine T_op zk_154_223 rfl X_ic (pc' := 224) rfl ?_
            refine T_op zk_154_224 rfl X_add (pc' := 225) rfl ?_
            refine T_putf (J' := (fun σ' => IF (MCo (Int.toNat p1)) σ σ' ∧ σ' 35 0 0 19 = σ 35 0 0 19 ∧ σ' 35 0 0 20 = σ 35 0 0 20 ∧ σ' 35 0 0 21 = σ 35 0 0 21 ∧ σ' 35 0 0 22 = σ 35 0 0 22 ∧ σ' 35 0 0 23 = σ 35 0 0 23 ∧ Eq (σ' 45 0 0) (σ 45 0 0) ∧ Eq (σ' 50 0 0) (σ 50 0 0) ∧ Eq (σ' 41 0 0) F ∧ σ' 35 0 0 25 = σ 35 0 0 25 + 1 ∧ σ' 35 0 0 24 = σ 35 0 0 24 + 1 ∧ True)) zk_154_225 rfl rfl vd_35 (fun σ' h => ⟨h.1.up (by simp only [rgP] <;> omega) (by first | exact pMCo rfl | (unfold MCo; omega)), (up_ne (by omega)).trans (h.2.1), (up_ne (by omega)).trans (h.2.2.1), (up_ne (by omega)).trans (h.2.2.2.1), (up_ne (by omega)).trans (h.2.2.2.2.1), (up_ne (by omega)).trans (h.2.2.2.2.2.1), gf_mk (fun z => Eq z (σ 45 0 0)) (up_row (by omega)) (h.2.2.2.2.2.2.2.1), gf_mk (fun z => Eq z (σ 50 0 0)) (up_row (by omega)) (h.2.2.2.2.2.2.2.2.1), gf_mk (fun z => Eq z F) (up_row (by omega)) (h.2.2.2.2.2.2.2.2.2.1), (up_ne (by omega)).trans (h.2.2.2.2.2.2.2.2.2.2.1), up_eq, trivial⟩) (pc' := 228) rfl ?_
            refine T_ld zk_154_228 rfl rfl rfl (pc' := 230) rfl ?_
            refine G_iast (J' := (fun σ' => IF (MCo (Int.toNat p1)) σ σ' ∧ σ' 35 0 0 19 = σ 35 0 0 19 ∧ σ' 35 0 0 20 = σ 35 0 0 20 ∧ σ' 35 0 0 21 = σ 35 0 0 21 ∧ σ' 35 0 0 22 = σ 35 0 0 22 ∧ σ' 35 0 0 23 = σ 35 0 0 23 ∧ Eq (σ' 45 0 0) (σ 45 0 0) ∧ Eq (σ' 50 0 0) (fun q => if q = Int.toNat (σ 35 0 0 24) then lt (LC F (σ 35 0 0 21)) (σ 35 0 0 20) (σ 35 0 0 19) else (σ 50 0 0) q) ∧ Eq (σ' 41 0 0) F ∧ σ' 35 0 0 25 = σ 35 0 0 25 + 1 ∧ σ' 35 0 0 24 = σ 35 0 0 24 + 1 ∧ True)) (ln := 120) zk_154_230 rfl rfl vd_50 (by omega) (by omega) (by omega) (fun σ' h => ⟨h.1.up ⟨by omega, trivial⟩ (by first | exact pMCo rfl | (unfold MCo; omega)), (up_ne (by omega)).trans (h.2.1), (up_ne (by omega)).trans (h.2.2.1), (up_ne (by omega)).trans (h.2.2.2.1), (up_ne (by omega)).trans (h.2.2.2.2.1), (up_ne (by omega)).trans (h.2.2.2.2.2.1), gf_mk (fun z => Eq z (σ 45 0 0)) (up_row (by omega)) (h.2.2.2.2.2.2.1), Eq_put (h.2.2.2.2.2.2.2.1), gf_mk (fun z => Eq z F) (up_row (by omega)) (h.2.2.2.2.2.2.2.2.1), (up_ne (by omega)).trans (h.2.2.2.2.2.2.2.2.2.1), (up_ne (by omega)).trans (h.2.2.2.2.2.2.2.2.2.2.1), trivial⟩) (pc' := 231) rfl ?_
            refine T_ld zk_154_231 rfl rfl rfl (pc' := 233) rfl ?_
            refine T_op zk_154_233 rfl (X_bi (v := 40) (by decide)) (pc' := 235) rfl ?_
            refine T_icmp_ne zk_154_235 (by omega) (by omega) (pc' := 238) rfl (fun h43 => ?_) (fun h44 => ?_)
            · exfalso; omega
            ·
              refine T_iinc (L' := [(0, av 35 0 0), (1, iv p0), (2, iv p1), (3, iv (O + 1)), (4, iv W), (5, iv (lt (LC F (σ 35 0 0 21)) (σ 35 0 0 20) (σ 35 0 0 19)))]) zk_154_238 (nL := 6) rfl rfl rfl rfl (pc' := 241) rfl ?_
              refine T_ld zk_154_241 rfl rfl rfl (pc' := 242) rfl ?_
              refine T_op (st' := [av 35 0 0, av 35 0 0]) zk_154_242 rfl rfl (pc' := 243) rfl ?_
              refine G_getX (w := σ 35 0 0 19) zk_154_243 rfl vd_35 (fun σ' h => h.2.1) (pc' := 246) rfl ?_
              refine T_op zk_154_246 rfl X_ic (pc' := 247) rfl ?_
              refine T_op zk_154_247 rfl X_add (pc' := 248) rfl ?_
              refine T_putf (J' := (fun σ' => IF (MCo (Int.toNat p1)) σ σ' ∧ σ' 35 0 0 20 = σ 35 0 0 20 ∧ σ' 35 0 0 21 = σ 35 0 0 21 ∧ σ' 35 0 0 22 = σ 35 0 0 22 ∧ σ' 35 0 0 23 = σ 35 0 0 23 ∧ Eq (σ' 45 0 0) (σ 45 0 0) ∧ Eq (σ' 50 0 0) (fun q => if q = Int.toNat (σ 35 0 0 24) then lt (LC F (σ 35 0 0 21)) (σ 35 0 0 20) (σ 35 0 0 19) else (σ 50 0 0) q) ∧ Eq (σ' 41 0 0) F ∧ σ' 35 0 0 25 = σ 35 0 0 25 + 1 ∧ σ' 35 0 0 24 = σ 35 0 0 24 + 1 ∧ σ' 35 0 0 19 = σ 35 0 0 19 + 1 ∧ True)) zk_154_248 rfl rfl vd_35 (fun σ' h => ⟨h.1.up (by simp only [rgP] <;> omega) (by first | exact pMCo rfl | (unfold MCo; omega)), (up_ne (by omega)).trans (h.2.2.1), (up_ne (by omega)).trans (h.2.2.2.1), (up_ne (by omega)).trans (h.2.2.2.2.1), (up_ne (by omega)).trans (h.2.2.2.2.2.1), gf_mk (fun z => Eq z (σ 45 0 0)) (up_row (by omega)) (h.2.2.2.2.2.2.1), gf_mk (fun z => Eq z (fun q => if q = Int.toNat (σ 35 0 0 24) then lt (LC F (σ 35 0 0 21)) (σ 35 0 0 20) (σ 35 0 0 19) else (σ 50 0 0) q)) (up_row (by omega)) (h.2.2.2.2.2.2.2.1), gf_mk (fun z => Eq z F) (up_row (by omega)) (h.2.2.2.2.2.2.2.2.1), (up_ne (by omega)).trans (h.2.2.2.2.2.2.2.2.2.1), (up_ne (by omega)).trans (h.2.2.2.2.2.2.2.2.2.2.1), up_eq, trivial⟩) (pc' := 251) rfl ?_
              refine T_goto zk_154_251 ?_
              refine T_goto zk_154_422 ?_
              have hb1 := bB_spec (lt (LC F (σ 35 0 0 21)) (σ 35 0 0 20) (σ 35 0 0 19))
              have hb2 := bP_spec (lt (LC F (σ 35 0 0 21)) (σ 35 0 0 20) (σ 35 0 0 19))
              obtain rfl : W = 1 := by omega
              have hK := hK1 rfl
              clear hK1 hK0
              have hw := R_want (L := LC F (σ 35 0 0 21)) (n := σ 35 0 0 20) (p := σ 35 0 0 19) (by omega) (by omega) hK.2.2.1.symm (rfl : cls st = cls st)
              refine T_loc (L := [(0, av 35 0 0), (1, iv p0), (2, iv p1), (3, iv (O + 1)), (4, iv 1)]) (E := [(5, iv (lt (LC F (σ 35 0 0 21)) (σ 35 0 0 20) (σ 35 0 0 19)))]) rfl ?_
              have h40 : (lt (LC F (σ 35 0 0 21)) (σ 35 0 0 20) (σ 35 0 0 19)) = 40 := by omega
              exact fun σ' h => hgo σ' _ _ (true :: st) h.1 (PSt_sign hP (by omega) (by omega) ⟨(h.2.2.2.2.2.2.2.2.2.2.1), by omega⟩ (h.2.1) (h.2.2.1) (h.2.2.2.1) (h.2.2.2.2.1) (h.2.2.2.2.2.2.2.2.2.1) (h.2.2.2.2.2.1) (h.2.2.2.2.2.2.1)) (by rw [(h.2.2.2.2.2.2.2.2.2.2.1)]; omega) (Or.inr rfl) (by rw [(h.2.2.2.2.2.2.2.2.2.2.1)]; omega) ⟨(funext fun q => h.1.2 41 0 0 q (by unfold MCo; omega)).trans hq41, (h.2.1), (h.2.2.1), (fun _ => by have q := KM_push (σ' := σ') hK (v := lt (LC F (σ 35 0 0 21)) (σ 35 0 0 20) (σ 35 0 0 19)) (by omega) (by omega) (h.2.2.2.2.2.2.2.2.2.1) (h.2.2.2.2.2.2.2.2.1) (h.2.2.2.2.2.2.1); rw [if_pos h40, decide_eq_true h40] at q; exact q), (fun q => absurd q (by decide)), ((hw.2.1 (by omega)).trans (by rw [(h.2.2.2.2.2.2.2.2.2.2.1)]))⟩
          ·
            refine T_ld zk_154_198 rfl rfl rfl (pc' := 199) rfl ?_
            refine G_getX (w := σ 35 0 0 19) zk_154_199 rfl vd_35 (fun σ' h => h.2.1) (pc' := 202) rfl ?_
            obtain rfl : W = 1 := by omega
            have hK := hK1 rfl
            clear hK1 hK0
            have hw := R_want (L := LC F (σ 35 0 0 21)) (n := σ 35 0 0 20) (p := σ 35 0 0 19) (by omega) (by omega) hK.2.2.1.symm (rfl : cls st = cls st)
            have hw5 := hw.2.2.1 (by omega)
            clear hw
            exact T_iret zk_154_202 rfl (fun σ' h => hret _ σ' h.1 (by omega) (fun q => by exfalso; omega) (by omega))
theorem k_154_go {xs : Nat × (Nat → Int32)} {Q : Option Value → ZS → Prop} (p0 p1 n b R : Int) (F : Nat → Int) (hp0 : 0 ≤ p0 ∧ p0 ≤ 7) (hp1 : 0 ≤ p1 ∧ p1 ≤ 5) : ∀ (k : Nat) (O W : Int) (st : List Bool) (hW : W = 0 ∨ W = 1) (σ : ZS), Inv σ → PSt σ p1 (1 - W) O 0 → (0 ≤ O ∧ O ≤ σ 35 0 0 19) → 96 - σ 35 0 0 19 ≤ k → σ 41 0 0 = F → σ 35 0 0 20 = n → σ 35 0 0 21 = b → (W = 1 → KM σ O st) → (W = 0 → KT σ O st) → R = RUN (LC F b) n (σ 35 0 0 19) st W → (∀ y σ', IF (MCo (Int.toNat p1)) σ σ' → (-1 ≤ y ∧ y ≤ 96) → (y = -1 → okc (σ' 45 0 0) (Int.toNat (120 * p1)) (Int.toNat (σ' 44 0 0 (Int.toNat p1)))) → y = R → Q (some (iv y)) σ') → TT xs 6 154 153 [(0, av 35 0 0), (1, iv p0), (2, iv p1), (3, iv O), (4, iv W)] [] σ Q := by
  intro k
  induction k with
  | zero =>
    exact fun O W st hW σ hI hP hO hn hq41 hq20 hq21 hK1 hK0 hR hret => by
      subst hq20 hq21 hR
      exact k_154_a p0 p1 O W F st hp0 hp1 hW σ hI hP hO hq41 hK1 hK0 hret (fun σ' _ _ _ _ h2 _ _ h3 _ => absurd h2.1 (by omega))
  | succ k IHn =>
    exact fun O W st hW σ hI hP hO hn hq41 hq20 hq21 hK1 hK0 hR hret => by
      subst hq20 hq21 hR
      exact k_154_a p0 p1 O W F st hp0 hp1 hW σ hI hP hO hq41 hK1 hK0 hret (fun σ' O' W' st' h1 h2 h4 h5 h3 h6 => IHn O' W' st' h5 σ' h1.1 h2 h4 (by omega) h6.1 h6.2.1 h6.2.2.1 h6.2.2.2.1 h6.2.2.2.2.1 h6.2.2.2.2.2 (fun y σ2 g1 => hret y σ2 (h1.tr g1 (fun _ _ _ _ q => q))))
theorem k_154_0 {xs : Nat × (Nat → Int32)} {Q : Option Value → ZS → Prop} (p0 p1 m R : Int) (F : Nat → Int) (hp0 : 0 ≤ p0 ∧ p0 ≤ 7) (hp1 : 0 ≤ p1 ∧ p1 ≤ 5) (hm : 0 ≤ m ∧ m ≤ 96) (σ : ZS) (hI : Inv σ) (hq41 : σ 41 0 0 = F) (hq39 : σ 39 0 0 (Int.toNat p0) = m) (hR : R = LAWF (LC F (96 * p0)) m) (hret : ∀ y σ', IF (MCo (Int.toNat p1)) σ σ' → (-1 ≤ y ∧ y ≤ 96) → (y = -1 → okc (σ' 45 0 0) (Int.toNat (120 * p1)) (Int.toNat (σ' 44 0 0 (Int.toNat p1)))) → y = R → Q (some (iv y)) σ') : TT xs 6 154 0 [(0, av 35 0 0), (1, iv p0), (2, iv p1)] [] σ Q := by
  have hla := LAWF_spec (LC F (96 * p0)) m
  have hl0 := lt_cells F (96 * p0) m 0 (by omega)
  have hl1 := lt_cells F (96 * p0) m 1 (by omega)
  have hl2 := lt_cells F (96 * p0) m 2 (by omega)
  refine (show TJ xs (fun σ' => IF (MCo (Int.toNat p1)) σ σ' ∧ Eq (σ' 41 0 0) F ∧ σ' 39 0 0 (Int.toNat p0) = m ∧ True) 6 154 0 [(0, av 35 0 0), (1, iv p0), (2, iv p1)] [] Q from ?_) σ ⟨IF.rf hI, hq41, hq39, trivial⟩
  refine T_ld zk_154_0 rfl rfl rfl (pc' := 1) rfl ?_
  refine T_op zk_154_1 rfl (X_bi (v := 96) (by decide)) (pc' := 3) rfl ?_
  refine T_ld zk_154_3 rfl rfl rfl (pc' := 4) rfl ?_
  refine T_op zk_154_4 rfl X_mul (pc' := 5) rfl ?_
  refine T_putf (J' := (fun σ' => IF (MCo (Int.toNat p1)) σ σ' ∧ Eq (σ' 41 0 0) F ∧ σ' 39 0 0 (Int.toNat p0) = m ∧ σ' 35 0 0 21 = 96 * p0 ∧ True)) zk_154_5 rfl rfl vd_35 (fun σ' h => ⟨h.1.up (by simp only [rgP] <;> omega) (by first | exact pMCo rfl | (unfold MCo; omega)), gf_mk (fun z => Eq z F) (up_row (by omega)) (h.2.1), (up_ne (by omega)).trans (h.2.2.1), up_eq, trivial⟩) (pc' := 8) rfl ?_
  refine T_ld zk_154_8 rfl rfl rfl (pc' := 9) rfl ?_
  refine T_ld zk_154_9 rfl rfl rfl (pc' := 10) rfl ?_
  refine T_getR (t' := 39) (i' := 0) (k' := 0) zk_154_10 rfl rfl rfl vd_35 (pc' := 13) rfl ?_
  refine T_ld zk_154_13 rfl rfl rfl (pc' := 14) rfl ?_
  refine G_ialdX (w := m) (ln := 8) zk_154_14 rfl rfl vd_39 (by omega) (by omega) (by omega) (fun σ' h => h.2.2.1) (pc' := 15) rfl ?_
  refine T_putf (J' := (fun σ' => IF (MCo (Int.toNat p1)) σ σ' ∧ Eq (σ' 41 0 0) F ∧ σ' 39 0 0 (Int.toNat p0) = m ∧ σ' 35 0 0 21 = 96 * p0 ∧ σ' 35 0 0 20 = m ∧ True)) zk_154_15 rfl rfl vd_35 (fun σ' h => ⟨h.1.up (by simp only [rgP] <;> omega) (by first | exact pMCo rfl | (unfold MCo; omega)), gf_mk (fun z => Eq z F) (up_row (by omega)) (h.2.1), (up_ne (by omega)).trans (h.2.2.1), (up_ne (by omega)).trans (h.2.2.2.1), up_eq, trivial⟩) (pc' := 18) rfl ?_
  refine T_ld zk_154_18 rfl rfl rfl (pc' := 19) rfl ?_
  refine T_op zk_154_19 rfl X_ic (pc' := 20) rfl ?_
  refine T_putf (J' := (fun σ' => IF (MCo (Int.toNat p1)) σ σ' ∧ Eq (σ' 41 0 0) F ∧ σ' 39 0 0 (Int.toNat p0) = m ∧ σ' 35 0 0 21 = 96 * p0 ∧ σ' 35 0 0 20 = m ∧ σ' 35 0 0 19 = 0 ∧ True)) zk_154_20 rfl rfl vd_35 (fun σ' h => ⟨h.1.up (by simp only [rgP] <;> omega) (by first | exact pMCo rfl | (unfold MCo; omega)), gf_mk (fun z => Eq z F) (up_row (by omega)) (h.2.1), (up_ne (by omega)).trans (h.2.2.1), (up_ne (by omega)).trans (h.2.2.2.1), (up_ne (by omega)).trans (h.2.2.2.2.1), up_eq, trivial⟩) (pc' := 23) rfl ?_
  refine T_ld zk_154_23 rfl rfl rfl (pc' := 24) rfl ?_
  refine T_op zk_154_24 rfl X_ic (pc' := 25) rfl ?_
  refine T_putf (J' := (fun σ' => IF (MCo (Int.toNat p1)) σ σ' ∧ Eq (σ' 41 0 0) F ∧ σ' 39 0 0 (Int.toNat p0) = m ∧ σ' 35 0 0 21 = 96 * p0 ∧ σ' 35 0 0 20 = m ∧ σ' 35 0 0 19 = 0 ∧ σ' 35 0 0 22 = 0 ∧ True)) zk_154_25 rfl rfl vd_35 (fun σ' h => ⟨h.1.up (by simp only [rgP] <;> omega) (by first | exact pMCo rfl | (unfold MCo; omega)), gf_mk (fun z => Eq z F) (up_row (by omega)) (h.2.1), (up_ne (by omega)).trans (h.2.2.1), (up_ne (by omega)).trans (h.2.2.2.1), (up_ne (by omega)).trans (h.2.2.2.2.1), (up_ne (by omega)).trans (h.2.2.2.2.2.1), up_eq, trivial⟩) (pc' := 28) rfl ?_
  refine T_ld zk_154_28 rfl rfl rfl (pc' := 29) rfl ?_
  refine T_op zk_154_29 rfl X_ic (pc' := 30) rfl ?_
  refine T_putf (J' := (fun σ' => IF (MCo (Int.toNat p1)) σ σ' ∧ Eq (σ' 41 0 0) F ∧ σ' 39 0 0 (Int.toNat p0) = m ∧ σ' 35 0 0 21 = 96 * p0 ∧ σ' 35 0 0 20 = m ∧ σ' 35 0 0 19 = 0 ∧ σ' 35 0 0 22 = 0 ∧ σ' 35 0 0 23 = 0 ∧ True)) zk_154_30 rfl rfl vd_35 (fun σ' h => ⟨h.1.up (by simp only [rgP] <;> omega) (by first | exact pMCo rfl | (unfold MCo; omega)), gf_mk (fun z => Eq z F) (up_row (by omega)) (h.2.1), (up_ne (by omega)).trans (h.2.2.1), (up_ne (by omega)).trans (h.2.2.2.1), (up_ne (by omega)).trans (h.2.2.2.2.1), (up_ne (by omega)).trans (h.2.2.2.2.2.1), (up_ne (by omega)).trans (h.2.2.2.2.2.2.1), up_eq, trivial⟩) (pc' := 33) rfl ?_
  refine T_ld zk_154_33 rfl rfl rfl (pc' := 34) rfl ?_
  refine T_op zk_154_34 rfl X_ic (pc' := 35) rfl ?_
  refine T_putf (J' := (fun σ' => IF (MCo (Int.toNat p1)) σ σ' ∧ Eq (σ' 41 0 0) F ∧ σ' 39 0 0 (Int.toNat p0) = m ∧ σ' 35 0 0 21 = 96 * p0 ∧ σ' 35 0 0 20 = m ∧ σ' 35 0 0 19 = 0 ∧ σ' 35 0 0 22 = 0 ∧ σ' 35 0 0 23 = 0 ∧ σ' 35 0 0 24 = 0 ∧ True)) zk_154_35 rfl rfl vd_35 (fun σ' h => ⟨h.1.up (by simp only [rgP] <;> omega) (by first | exact pMCo rfl | (unfold MCo; omega)), gf_mk (fun z => Eq z F) (up_row (by omega)) (h.2.1), (up_ne (by omega)).trans (h.2.2.1), (up_ne (by omega)).trans (h.2.2.2.1), (up_ne (by omega)).trans (h.2.2.2.2.1), (up_ne (by omega)).trans (h.2.2.2.2.2.1), (up_ne (by omega)).trans (h.2.2.2.2.2.2.1), (up_ne (by omega)).trans (h.2.2.2.2.2.2.2.1), up_eq, trivial⟩) (pc' := 38) rfl ?_
  refine T_ld zk_154_38 rfl rfl rfl (pc' := 39) rfl ?_
  refine T_op zk_154_39 rfl X_ic (pc' := 40) rfl ?_
  refine T_putf (J' := (fun σ' => IF (MCo (Int.toNat p1)) σ σ' ∧ Eq (σ' 41 0 0) F ∧ σ' 39 0 0 (Int.toNat p0) = m ∧ σ' 35 0 0 21 = 96 * p0 ∧ σ' 35 0 0 20 = m ∧ σ' 35 0 0 19 = 0 ∧ σ' 35 0 0 22 = 0 ∧ σ' 35 0 0 23 = 0 ∧ σ' 35 0 0 24 = 0 ∧ σ' 35 0 0 25 = 0 ∧ True)) zk_154_40 rfl rfl vd_35 (fun σ' h => ⟨h.1.up (by simp only [rgP] <;> omega) (by first | exact pMCo rfl | (unfold MCo; omega)), gf_mk (fun z => Eq z F) (up_row (by omega)) (h.2.1), (up_ne (by omega)).trans (h.2.2.1), (up_ne (by omega)).trans (h.2.2.2.1), (up_ne (by omega)).trans (h.2.2.2.2.1), (up_ne (by omega)).trans (h.2.2.2.2.2.1), (up_ne (by omega)).trans (h.2.2.2.2.2.2.1), (up_ne (by omega)).trans (h.2.2.2.2.2.2.2.1), (up_ne (by omega)).trans (h.2.2.2.2.2.2.2.2.1), up_eq, trivial⟩) (pc' := 43) rfl ?_
  refine T_ld zk_154_43 rfl rfl rfl (pc' := 44) rfl ?_
  refine T_op zk_154_44 rfl (X_bi (v := 103) (by decide)) (pc' := 46) rfl ?_
  refine T_calli (K := fun y1 σ' => ((y1 = 0 ∧ (¬ lt (LC F (96 * p0)) (m) (0) = 103)) ∨ (y1 = 1 ∧ ¬ (¬ lt (LC F (96 * p0)) (m) (0) = 103))) ∧ (fun σ' => IF (MCo (Int.toNat p1)) σ σ' ∧ Eq (σ' 41 0 0) F ∧ σ' 39 0 0 (Int.toNat p0) = m ∧ σ' 35 0 0 21 = 96 * p0 ∧ σ' 35 0 0 20 = m ∧ σ' 35 0 0 19 = 0 ∧ σ' 35 0 0 22 = 0 ∧ σ' 35 0 0 23 = 0 ∧ σ' 35 0 0 24 = 0 ∧ σ' 35 0 0 25 = 0 ∧ True) σ') (r := []) zk_154_46 rfl rfl rfl rfl rfl rfl (Or.inr ⟨_, _, _, _, rfl, vd_35, rfl⟩) (fun σ' h => (r_149 103 0 m (96 * p0) F (by omega) (by omega) (by omega) (by omega) σ' h.1.1 (h.2.2.2.2.2.1) (h.2.2.2.2.1) (h.2.2.2.1) (h.2.1)).le (Nat.le_of_ble_eq_true rfl) (fun v σ2 ⟨y, h1, h2, h3, h4⟩ => ⟨y, h1, h2, h.1.tr h3 MN_sub, gf_mk (fun z => Eq z F) (funext fun j => h3.2 _ _ _ _ (fun q => q)) (h.2.1), (h3.2 _ _ _ _ (fun q => q)).trans (h.2.2.1), (h3.2 _ _ _ _ (fun q => q)).trans (h.2.2.2.1), (h3.2 _ _ _ _ (fun q => q)).trans (h.2.2.2.2.1), (h3.2 _ _ _ _ (fun q => q)).trans (h.2.2.2.2.2.1), (h3.2 _ _ _ _ (fun q => q)).trans (h.2.2.2.2.2.2.1), (h3.2 _ _ _ _ (fun q => q)).trans (h.2.2.2.2.2.2.2.1), (h3.2 _ _ _ _ (fun q => q)).trans (h.2.2.2.2.2.2.2.2.1), (h3.2 _ _ _ _ (fun q => q)).trans (h.2.2.2.2.2.2.2.2.2.1), trivial⟩)) (pc' := 49) rfl (fun y1 => ?_)
  refine G_ex (fun hy1 => ?_)
  refine T_if_ne zk_154_49 (by omega) (pc' := 52) rfl (fun h2 => ?_) (fun h3 => ?_)
  ·
    refine T_ld zk_154_57 rfl rfl rfl (pc' := 58) rfl ?_
    refine T_op (st' := [av 35 0 0, av 35 0 0]) zk_154_58 rfl rfl (pc' := 59) rfl ?_
    refine G_getX (w := 0) zk_154_59 rfl vd_35 (fun σ' h => h.2.2.2.2.2.1) (pc' := 62) rfl ?_
    refine T_op zk_154_62 rfl X_ic (pc' := 63) rfl ?_
    refine T_opc (w := 1) zk_154_63 rfl X_add (by omega) (pc' := 64) rfl ?_
    refine T_putf (J' := (fun σ' => IF (MCo (Int.toNat p1)) σ σ' ∧ Eq (σ' 41 0 0) F ∧ σ' 39 0 0 (Int.toNat p0) = m ∧ σ' 35 0 0 21 = 96 * p0 ∧ σ' 35 0 0 20 = m ∧ σ' 35 0 0 22 = 0 ∧ σ' 35 0 0 23 = 0 ∧ σ' 35 0 0 24 = 0 ∧ σ' 35 0 0 25 = 0 ∧ σ' 35 0 0 19 = 1 ∧ True)) zk_154_64 rfl rfl vd_35 (fun σ' h => ⟨h.1.up (by simp only [rgP] <;> omega) (by first | exact pMCo rfl | (unfold MCo; omega)), gf_mk (fun z => Eq z F) (up_row (by omega)) (h.2.1), (up_ne (by omega)).trans (h.2.2.1), (up_ne (by omega)).trans (h.2.2.2.1), (up_ne (by omega)).trans (h.2.2.2.2.1), (up_ne (by omega)).trans (h.2.2.2.2.2.2.1), (up_ne (by omega)).trans (h.2.2.2.2.2.2.2.1), (up_ne (by omega)).trans (h.2.2.2.2.2.2.2.2.1), (up_ne (by omega)).trans (h.2.2.2.2.2.2.2.2.2.1), up_eq, trivial⟩) (pc' := 67) rfl ?_
    refine T_ld zk_154_67 rfl rfl rfl (pc' := 68) rfl ?_
    refine G_getX (w := 1) zk_154_68 rfl vd_35 (fun σ' h => h.2.2.2.2.2.2.2.2.2.1) (pc' := 71) rfl ?_
    refine T_ld zk_154_71 rfl rfl rfl (pc' := 72) rfl ?_
    refine G_getX (w := m) zk_154_72 rfl vd_35 (fun σ' h => h.2.2.2.2.1) (pc' := 75) rfl ?_
    refine T_icmp_eq zk_154_75 (by omega) (by omega) (pc' := 78) rfl (fun h4 => ?_) (fun h5 => ?_)
    ·
      refine T_ld zk_154_96 rfl rfl rfl (pc' := 97) rfl ?_
      refine G_getX (w := 1) zk_154_97 rfl vd_35 (fun σ' h => h.2.2.2.2.2.2.2.2.2.1) (pc' := 100) rfl ?_
      exact T_iret zk_154_100 rfl (fun σ' h => hret _ σ' h.1 (by omega) (fun q => by exfalso; omega) (by omega))
    ·
      refine T_ld zk_154_78 rfl rfl rfl (pc' := 79) rfl ?_
      refine T_calli (K := fun y6 σ' => (y6 = lt (LC F (96 * p0)) (m) (1) ∧ -2147483648 ≤ y6 ∧ y6 ≤ 2147483647) ∧ (fun σ' => IF (MCo (Int.toNat p1)) σ σ' ∧ Eq (σ' 41 0 0) F ∧ σ' 39 0 0 (Int.toNat p0) = m ∧ σ' 35 0 0 21 = 96 * p0 ∧ σ' 35 0 0 20 = m ∧ σ' 35 0 0 22 = 0 ∧ σ' 35 0 0 23 = 0 ∧ σ' 35 0 0 24 = 0 ∧ σ' 35 0 0 25 = 0 ∧ σ' 35 0 0 19 = 1 ∧ True) σ') (r := []) zk_154_79 rfl rfl rfl rfl rfl rfl (Or.inr ⟨_, _, _, _, rfl, vd_35, rfl⟩) (fun σ' h => (r_148 1 m (96 * p0) F (by omega) (by omega) (by omega) σ' h.1.1 (h.2.2.2.2.2.2.2.2.2.1) (h.2.2.2.2.1) (h.2.2.2.1) (h.2.1)).le (Nat.le_of_ble_eq_true rfl) (fun v σ2 ⟨y, h1, h2, h3, h4⟩ => ⟨y, h1, h2, h.1.tr h3 MN_sub, gf_mk (fun z => Eq z F) (funext fun j => h3.2 _ _ _ _ (fun q => q)) (h.2.1), (h3.2 _ _ _ _ (fun q => q)).trans (h.2.2.1), (h3.2 _ _ _ _ (fun q => q)).trans (h.2.2.2.1), (h3.2 _ _ _ _ (fun q => q)).trans (h.2.2.2.2.1), (h3.2 _ _ _ _ (fun q => q)).trans (h.2.2.2.2.2.1), (h3.2 _ _ _ _ (fun q => q)).trans (h.2.2.2.2.2.2.1), (h3.2 _ _ _ _ (fun q => q)).trans (h.2.2.2.2.2.2.2.1), (h3.2 _ _ _ _ (fun q => q)).trans (h.2.2.2.2.2.2.2.2.1), (h3.2 _ _ _ _ (fun q => q)).trans (h.2.2.2.2.2.2.2.2.2.1), trivial⟩)) (pc' := 82) rfl (fun y6 => ?_)
      refine G_ex (fun hy6 => ?_)
      obtain rfl : y6 = lt (LC F (96 * p0)) (m) (1) := by omega
      refine T_op zk_154_82 rfl (X_bi (v := 48) (by decide)) (pc' := 84) rfl ?_
      refine T_icmp_lt zk_154_84 (by omega) (by omega) (pc' := 87) rfl (fun h7 => ?_) (fun h8 => ?_)
      ·
        refine T_ld zk_154_96 rfl rfl rfl (pc' := 97) rfl ?_
        refine G_getX (w := 1) zk_154_97 rfl vd_35 (fun σ' h => h.2.2.2.2.2.2.2.2.2.1) (pc' := 100) rfl ?_
        exact T_iret zk_154_100 rfl (fun σ' h => hret _ σ' h.1 (by omega) (fun q => by exfalso; omega) (by omega))
      ·
        refine T_ld zk_154_87 rfl rfl rfl (pc' := 88) rfl ?_
        refine T_calli (K := fun y9 σ' => (y9 = lt (LC F (96 * p0)) (m) (1) ∧ -2147483648 ≤ y9 ∧ y9 ≤ 2147483647) ∧ (fun σ' => IF (MCo (Int.toNat p1)) σ σ' ∧ Eq (σ' 41 0 0) F ∧ σ' 39 0 0 (Int.toNat p0) = m ∧ σ' 35 0 0 21 = 96 * p0 ∧ σ' 35 0 0 20 = m ∧ σ' 35 0 0 22 = 0 ∧ σ' 35 0 0 23 = 0 ∧ σ' 35 0 0 24 = 0 ∧ σ' 35 0 0 25 = 0 ∧ σ' 35 0 0 19 = 1 ∧ True) σ') (r := []) zk_154_88 rfl rfl rfl rfl rfl rfl (Or.inr ⟨_, _, _, _, rfl, vd_35, rfl⟩) (fun σ' h => (r_148 1 m (96 * p0) F (by omega) (by omega) (by omega) σ' h.1.1 (h.2.2.2.2.2.2.2.2.2.1) (h.2.2.2.2.1) (h.2.2.2.1) (h.2.1)).le (Nat.le_of_ble_eq_true rfl) (fun v σ2 ⟨y, h1, h2, h3, h4⟩ => ⟨y, h1, h2, h.1.tr h3 MN_sub, gf_mk (fun z => Eq z F) (funext fun j => h3.2 _ _ _ _ (fun q => q)) (h.2.1), (h3.2 _ _ _ _ (fun q => q)).trans (h.2.2.1), (h3.2 _ _ _ _ (fun q => q)).trans (h.2.2.2.1), (h3.2 _ _ _ _ (fun q => q)).trans (h.2.2.2.2.1), (h3.2 _ _ _ _ (fun q => q)).trans (h.2.2.2.2.2.1), (h3.2 _ _ _ _ (fun q => q)).trans (h.2.2.2.2.2.2.1), (h3.2 _ _ _ _ (fun q => q)).trans (h.2.2.2.2.2.2.2.1), (h3.2 _ _ _ _ (fun q => q)).trans (h.2.2.2.2.2.2.2.2.1), (h3.2 _ _ _ _ (fun q => q)).trans (h.2.2.2.2.2.2.2.2.2.1), trivial⟩)) (pc' := 91) rfl (fun y9 => ?_)
        refine G_ex (fun hy9 => ?_)
        obtain rfl : y9 = lt (LC F (96 * p0)) (m) (1) := by omega
        refine T_op zk_154_91 rfl (X_bi (v := 50) (by decide)) (pc' := 93) rfl ?_
        refine T_icmp_le zk_154_93 (by omega) (by omega) (pc' := 96) rfl (fun h10 => ?_) (fun h11 => ?_)
        ·
          refine T_ld zk_154_101 rfl rfl rfl (pc' := 102) rfl ?_
          refine T_getR (t' := 43) (i' := 0) (k' := 0) zk_154_102 rfl rfl rfl vd_35 (pc' := 105) rfl ?_
          refine T_ld zk_154_105 rfl rfl rfl (pc' := 106) rfl ?_
          refine T_ld zk_154_106 rfl rfl rfl (pc' := 107) rfl ?_
          refine T_calli (K := fun y12 σ' => (y12 = lt (LC F (96 * p0)) (m) (1) ∧ -2147483648 ≤ y12 ∧ y12 ≤ 2147483647) ∧ (fun σ' => IF (MCo (Int.toNat p1)) σ σ' ∧ Eq (σ' 41 0 0) F ∧ σ' 39 0 0 (Int.toNat p0) = m ∧ σ' 35 0 0 21 = 96 * p0 ∧ σ' 35 0 0 20 = m ∧ σ' 35 0 0 22 = 0 ∧ σ' 35 0 0 23 = 0 ∧ σ' 35 0 0 24 = 0 ∧ σ' 35 0 0 25 = 0 ∧ σ' 35 0 0 19 = 1 ∧ True) σ') (r := [iv p1, av 43 0 0]) zk_154_107 rfl rfl rfl rfl rfl rfl (Or.inr ⟨_, _, _, _, rfl, vd_35, rfl⟩) (fun σ' h => (r_148 1 m (96 * p0) F (by omega) (by omega) (by omega) σ' h.1.1 (h.2.2.2.2.2.2.2.2.2.1) (h.2.2.2.2.1) (h.2.2.2.1) (h.2.1)).le (Nat.le_of_ble_eq_true rfl) (fun v σ2 ⟨y, h1, h2, h3, h4⟩ => ⟨y, h1, h2, h.1.tr h3 MN_sub, gf_mk (fun z => Eq z F) (funext fun j => h3.2 _ _ _ _ (fun q => q)) (h.2.1), (h3.2 _ _ _ _ (fun q => q)).trans (h.2.2.1), (h3.2 _ _ _ _ (fun q => q)).trans (h.2.2.2.1), (h3.2 _ _ _ _ (fun q => q)).trans (h.2.2.2.2.1), (h3.2 _ _ _ _ (fun q => q)).trans (h.2.2.2.2.2.1), (h3.2 _ _ _ _ (fun q => q)).trans (h.2.2.2.2.2.2.1), (h3.2 _ _ _ _ (fun q => q)).trans (h.2.2.2.2.2.2.2.1), (h3.2 _ _ _ _ (fun q => q)).trans (h.2.2.2.2.2.2.2.2.1), (h3.2 _ _ _ _ (fun q => q)).trans (h.2.2.2.2.2.2.2.2.2.1), trivial⟩)) (pc' := 110) rfl (fun y12 => ?_)
          refine G_ex (fun hy12 => ?_)
          obtain rfl : y12 = lt (LC F (96 * p0)) (m) (1) := by omega
          refine T_op zk_154_110 rfl (X_bi (v := 48) (by decide)) (pc' := 112) rfl ?_
          refine T_op zk_154_112 rfl X_sub (pc' := 113) rfl ?_
          refine G_iast (J' := (fun σ' => IF (MCo (Int.toNat p1)) σ σ' ∧ Eq (σ' 41 0 0) F ∧ σ' 39 0 0 (Int.toNat p0) = m ∧ σ' 35 0 0 21 = 96 * p0 ∧ σ' 35 0 0 20 = m ∧ σ' 35 0 0 22 = 0 ∧ σ' 35 0 0 23 = 0 ∧ σ' 35 0 0 24 = 0 ∧ σ' 35 0 0 25 = 0 ∧ σ' 35 0 0 19 = 1 ∧ True)) (ln := 6) zk_154_113 rfl rfl vd_43 (by omega) (by omega) (by omega) (fun σ' h => ⟨h.1.up ⟨by omega, trivial⟩ (by first | exact pMCo rfl | (unfold MCo; omega)), gf_mk (fun z => Eq z F) (up_row (by omega)) (h.2.1), (up_ne (by omega)).trans (h.2.2.1), (up_ne (by omega)).trans (h.2.2.2.1), (up_ne (by omega)).trans (h.2.2.2.2.1), (up_ne (by omega)).trans (h.2.2.2.2.2.1), (up_ne (by omega)).trans (h.2.2.2.2.2.2.1), (up_ne (by omega)).trans (h.2.2.2.2.2.2.2.1), (up_ne (by omega)).trans (h.2.2.2.2.2.2.2.2.1), (up_ne (by omega)).trans (h.2.2.2.2.2.2.2.2.2.1), trivial⟩) (pc' := 114) rfl ?_
          refine T_ld zk_154_114 rfl rfl rfl (pc' := 115) rfl ?_
          refine T_op (st' := [av 35 0 0, av 35 0 0]) zk_154_115 rfl rfl (pc' := 116) rfl ?_
          refine G_getX (w := 1) zk_154_116 rfl vd_35 (fun σ' h => h.2.2.2.2.2.2.2.2.2.1) (pc' := 119) rfl ?_
          refine T_op zk_154_119 rfl X_ic (pc' := 120) rfl ?_
          refine T_opc (w := 2) zk_154_120 rfl X_add (by omega) (pc' := 121) rfl ?_
          refine T_putf (J' := (fun σ' => IF (MCo (Int.toNat p1)) σ σ' ∧ Eq (σ' 41 0 0) F ∧ σ' 39 0 0 (Int.toNat p0) = m ∧ σ' 35 0 0 21 = 96 * p0 ∧ σ' 35 0 0 20 = m ∧ σ' 35 0 0 22 = 0 ∧ σ' 35 0 0 23 = 0 ∧ σ' 35 0 0 24 = 0 ∧ σ' 35 0 0 25 = 0 ∧ σ' 35 0 0 19 = 2 ∧ True)) zk_154_121 rfl rfl vd_35 (fun σ' h => ⟨h.1.up (by simp only [rgP] <;> omega) (by first | exact pMCo rfl | (unfold MCo; omega)), gf_mk (fun z => Eq z F) (up_row (by omega)) (h.2.1), (up_ne (by omega)).trans (h.2.2.1), (up_ne (by omega)).trans (h.2.2.2.1), (up_ne (by omega)).trans (h.2.2.2.2.1), (up_ne (by omega)).trans (h.2.2.2.2.2.1), (up_ne (by omega)).trans (h.2.2.2.2.2.2.1), (up_ne (by omega)).trans (h.2.2.2.2.2.2.2.1), (up_ne (by omega)).trans (h.2.2.2.2.2.2.2.2.1), up_eq, trivial⟩) (pc' := 124) rfl ?_
          refine T_ld zk_154_124 rfl rfl rfl (pc' := 125) rfl ?_
          refine T_op zk_154_125 rfl (X_bi (v := 58) (by decide)) (pc' := 127) rfl ?_
          refine T_calli (K := fun y13 σ' => ((y13 = 0 ∧ (¬ lt (LC F (96 * p0)) (m) (2) = 58)) ∨ (y13 = 1 ∧ ¬ (¬ lt (LC F (96 * p0)) (m) (2) = 58))) ∧ (fun σ' => IF (MCo (Int.toNat p1)) σ σ' ∧ Eq (σ' 41 0 0) F ∧ σ' 39 0 0 (Int.toNat p0) = m ∧ σ' 35 0 0 21 = 96 * p0 ∧ σ' 35 0 0 20 = m ∧ σ' 35 0 0 22 = 0 ∧ σ' 35 0 0 23 = 0 ∧ σ' 35 0 0 24 = 0 ∧ σ' 35 0 0 25 = 0 ∧ σ' 35 0 0 19 = 2 ∧ True) σ') (r := []) zk_154_127 rfl rfl rfl rfl rfl rfl (Or.inr ⟨_, _, _, _, rfl, vd_35, rfl⟩) (fun σ' h => (r_149 58 2 m (96 * p0) F (by omega) (by omega) (by omega) (by omega) σ' h.1.1 (h.2.2.2.2.2.2.2.2.2.1) (h.2.2.2.2.1) (h.2.2.2.1) (h.2.1)).le (Nat.le_of_ble_eq_true rfl) (fun v σ2 ⟨y, h1, h2, h3, h4⟩ => ⟨y, h1, h2, h.1.tr h3 MN_sub, gf_mk (fun z => Eq z F) (funext fun j => h3.2 _ _ _ _ (fun q => q)) (h.2.1), (h3.2 _ _ _ _ (fun q => q)).trans (h.2.2.1), (h3.2 _ _ _ _ (fun q => q)).trans (h.2.2.2.1), (h3.2 _ _ _ _ (fun q => q)).trans (h.2.2.2.2.1), (h3.2 _ _ _ _ (fun q => q)).trans (h.2.2.2.2.2.1), (h3.2 _ _ _ _ (fun q => q)).trans (h.2.2.2.2.2.2.1), (h3.2 _ _ _ _ (fun q => q)).trans (h.2.2.2.2.2.2.2.1), (h3.2 _ _ _ _ (fun q => q)).trans (h.2.2.2.2.2.2.2.2.1), (h3.2 _ _ _ _ (fun q => q)).trans (h.2.2.2.2.2.2.2.2.2.1), trivial⟩)) (pc' := 130) rfl (fun y13 => ?_)
          refine G_ex (fun hy13 => ?_)
          refine T_if_ne zk_154_130 (by omega) (pc' := 133) rfl (fun h14 => ?_) (fun h15 => ?_)
          ·
            refine T_ld zk_154_138 rfl rfl rfl (pc' := 139) rfl ?_
            refine T_op (st' := [av 35 0 0, av 35 0 0]) zk_154_139 rfl rfl (pc' := 140) rfl ?_
            refine G_getX (w := 2) zk_154_140 rfl vd_35 (fun σ' h => h.2.2.2.2.2.2.2.2.2.1) (pc' := 143) rfl ?_
            refine T_op zk_154_143 rfl X_ic (pc' := 144) rfl ?_
            refine T_opc (w := 3) zk_154_144 rfl X_add (by omega) (pc' := 145) rfl ?_
            refine T_putf (J' := (fun σ' => IF (MCo (Int.toNat p1)) σ σ' ∧ Eq (σ' 41 0 0) F ∧ σ' 39 0 0 (Int.toNat p0) = m ∧ σ' 35 0 0 21 = 96 * p0 ∧ σ' 35 0 0 20 = m ∧ σ' 35 0 0 22 = 0 ∧ σ' 35 0 0 23 = 0 ∧ σ' 35 0 0 24 = 0 ∧ σ' 35 0 0 25 = 0 ∧ σ' 35 0 0 19 = 3 ∧ True)) zk_154_145 rfl rfl vd_35 (fun σ' h => ⟨h.1.up (by simp only [rgP] <;> omega) (by first | exact pMCo rfl | (unfold MCo; omega)), gf_mk (fun z => Eq z F) (up_row (by omega)) (h.2.1), (up_ne (by omega)).trans (h.2.2.1), (up_ne (by omega)).trans (h.2.2.2.1), (up_ne (by omega)).trans (h.2.2.2.2.1), (up_ne (by omega)).trans (h.2.2.2.2.2.1), (up_ne (by omega)).trans (h.2.2.2.2.2.2.1), (up_ne (by omega)).trans (h.2.2.2.2.2.2.2.1), (up_ne (by omega)).trans (h.2.2.2.2.2.2.2.2.1), up_eq, trivial⟩) (pc' := 148) rfl ?_
            refine T_op zk_154_148 rfl X_ic (pc' := 149) rfl ?_
            refine T_st (L' := [(0, av 35 0 0), (1, iv p0), (2, iv p1), (3, iv 0)]) zk_154_149 (nL := 6) rfl rfl rfl rfl rfl (pc' := 150) rfl ?_
            refine T_op zk_154_150 rfl X_ic (pc' := 151) rfl ?_
            refine T_st (L' := [(0, av 35 0 0), (1, iv p0), (2, iv p1), (3, iv 0), (4, iv 1)]) zk_154_151 (nL := 6) rfl rfl rfl rfl rfl (pc' := 153) rfl ?_
            exact fun σ' h => k_154_go p0 p1 m (96 * p0) R F hp0 hp1 96 _ _ [] (Or.inr rfl) σ' h.1.1 (PSt_e (PSt_0 (by have e1 := h.2.2.2.2.2.2.2.2.2.1; have e2 := h.2.2.2.2.1; omega) (by have e1 := h.2.2.2.1; omega) h.2.2.2.2.2.1 h.2.2.2.2.2.2.1 h.2.2.2.2.2.2.2.1) rfl rfl) (by have e1 := h.2.2.2.2.2.2.2.2.2.1; omega) (by have e1 := h.2.2.2.2.2.2.2.2.2.1; omega) ((funext fun q => h.1.2 41 0 0 q (by unfold MCo; omega)).trans hq41) (h.2.2.2.2.1) (h.2.2.2.1) (fun _ => KM_0 h.2.2.2.2.2.2.2.1 h.2.2.2.2.2.2.2.2.1) (fun q => absurd q (by decide)) (hR.trans (by rw [show σ' 35 0 0 19 = 3 from h.2.2.2.2.2.2.2.2.2.1]; exact hla.2.2.2 (by omega))) (fun y σ2 h1 => hret y σ2 (h.1.tr h1 (fun _ _ _ _ q => q)))
          ·
            refine T_ld zk_154_133 rfl rfl rfl (pc' := 134) rfl ?_
            refine G_getX (w := 2) zk_154_134 rfl vd_35 (fun σ' h => h.2.2.2.2.2.2.2.2.2.1) (pc' := 137) rfl ?_
            exact T_iret zk_154_137 rfl (fun σ' h => hret _ σ' h.1 (by omega) (fun q => by exfalso; omega) (by omega))
        ·
          refine T_ld zk_154_96 rfl rfl rfl (pc' := 97) rfl ?_
          refine G_getX (w := 1) zk_154_97 rfl vd_35 (fun σ' h => h.2.2.2.2.2.2.2.2.2.1) (pc' := 100) rfl ?_
          exact T_iret zk_154_100 rfl (fun σ' h => hret _ σ' h.1 (by omega) (fun q => by exfalso; omega) (by omega))
  ·
    refine T_ld zk_154_52 rfl rfl rfl (pc' := 53) rfl ?_
    refine G_getX (w := 0) zk_154_53 rfl vd_35 (fun σ' h => h.2.2.2.2.2.1) (pc' := 56) rfl ?_
    exact T_iret zk_154_56 rfl (fun σ' h => hret _ σ' h.1 (by omega) (fun q => by exfalso; omega) (by omega))
