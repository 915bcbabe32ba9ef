def MLW (c : Nat) (t i k j : Nat) : Prop := i = c ∧ (t = 4 ∨ t = 6 ∨ t = 10 ∨ t = 13 ∨ t = 21 ∨ (t = 1 ∧ 15 ≤ j ∧ j ≤ 16))
theorem nMLW {c t i k j : Nat} (hb : decide ((t = 4 ∨ t = 6 ∨ t = 10 ∨ t = 13 ∨ t = 21 ∨ (t = 1 ∧ 15 ≤ j ∧ j ≤ 16))) = false) : ¬ MLW c t i k j := fun h => of_decide_eq_false hb (by unfold MLW at h; omega)
theorem sb72_3244a36 (v0 : Nat) : ∀ t i k j, MI v0 21 21 21 21 t i k j → MLW v0 t i k j := by
  intro t i k j h
  unfold MI at h
  unfold MLW
  omega
theorem sb72_35d6239 (v0 : Nat) : ∀ t i k j, MI v0 13 13 13 13 t i k j → MLW v0 t i k j := by
  intro t i k j h
  unfold MI at h
  unfold MLW
  omega
theorem sb72_91e579d (v0 : Nat) : ∀ t i k j, MI v0 4 6 10 10 t i k j → MLW v0 t i k j := by
  intro t i k j h
  unfold MI at h
  unfold MLW
  omega
/-- W$City.liveWaters -/
theorem s_12 {xs : Nat × (Nat → Int32)} (c : Nat) (p0 : Int) (hc : c < 3) (hp0 : 0 ≤ p0 ∧ p0 ≤ 1) (σ : ZS) (hI : Inv σ)   : CT xs 4 12 [av 1 c 0, iv p0] σ (fun v σ' => v = none ∧ IF (MLW c) σ σ' ∧ (True)) := by
  refine G_ct (J := (fun σ' => IF (MLW c) σ σ' ∧ True)) (L := [(0, av 1 c 0), (1, iv p0)]) (nL := 6) rfl rfl rfl ⟨IF.rf hI, trivial⟩ ?_
  refine T_ld zk_12_0 rfl rfl rfl (pc' := 1) rfl ?_
  refine T_callv (J' := (fun σ' => IF (MLW c) σ σ' ∧ True)) (r := []) zk_12_1 rfl rfl rfl rfl rfl rfl (Or.inr ⟨_, _, _, _, rfl, (vd_1 hc), rfl⟩) (fun σ' h => (w_11 c hc σ' h.1.1 ).le (Nat.le_of_ble_eq_true rfl) (fun v σ2 ⟨h1, h3, h4⟩ => ⟨h1, h.1.tr h3 (sb72_3244a36 c), trivial⟩)) (pc' := 4) rfl ?_
  refine T_ld zk_12_4 rfl rfl rfl (pc' := 5) rfl ?_
  refine T_callv (J' := (fun σ' => IF (MLW c) σ σ' ∧ True)) (r := []) zk_12_5 rfl rfl rfl rfl rfl rfl (Or.inr ⟨_, _, _, _, rfl, (vd_1 hc), rfl⟩) (fun σ' h => (w_14 c hc σ' h.1.1 ).le (Nat.le_of_ble_eq_true rfl) (fun v σ2 ⟨h1, h3, h4⟩ => ⟨h1, h.1.tr h3 (sb72_35d6239 c), trivial⟩)) (pc' := 8) rfl ?_
  refine T_ld zk_12_8 rfl rfl rfl (pc' := 9) rfl ?_
  refine T_ld zk_12_9 rfl rfl rfl (pc' := 10) rfl ?_
  refine T_callr (t := 17) (i := c) (k := (Int.toNat p0)) (J' := (fun σ' => IF (MLW c) σ σ' ∧ True)) (r := []) zk_12_10 rfl rfl rfl rfl rfl rfl (Or.inr ⟨_, _, _, _, rfl, (vd_1 hc), rfl⟩) (fun σ' h => (w_10 c p0 hc (by omega) σ' h.1.1 ).le (Nat.le_of_ble_eq_true rfl) (fun v σ2 ⟨h1, h3, h4⟩ => ⟨h1, h.1.tr h3 MN_sub, trivial⟩)) (pc' := 13) rfl ?_
  refine T_ld zk_12_13 rfl rfl rfl (pc' := 14) rfl ?_
  refine G_getf (lo := -2147483648) (hi := 2147483647) zk_12_14 rfl (vd_1 hc) (fun σ' h => h.1.1) (fun _ h => (by have q := h.1; omega)) (pc' := 17) rfl (fun y4 hy4 hy4' => ?_)
  refine T_calli (K := fun y5 σ' => (-300 ≤ y5 ∧ y5 ≤ 300) ∧ (fun σ' => IF (MLW c) σ σ' ∧ True) σ') (r := []) zk_12_17 rfl rfl rfl rfl rfl rfl (Or.inr ⟨_, _, _, _, rfl, (vd_17 hc (by omega)), rfl⟩) (fun σ' h => (w_73 c (Int.toNat p0) y4 hc (by omega) (by omega) σ' h.1.1 ).le (Nat.le_of_ble_eq_true rfl) (fun v σ2 ⟨y, h1, h2, h3, h4⟩ => ⟨y, h1, h2, h.1.tr h3 MN_sub, trivial⟩)) (pc' := 20) rfl (fun y5 => ?_)
  refine G_ex (fun hy5 => ?_)
  refine T_st (L' := [(0, av 1 c 0), (1, iv p0), (2, iv y5)]) zk_12_20 (nL := 6) rfl rfl rfl rfl rfl (pc' := 21) rfl ?_
  refine T_ld zk_12_21 rfl rfl rfl (pc' := 22) rfl ?_
  refine T_getR (t' := 11) (i' := c) (k' := 0) zk_12_22 rfl rfl rfl (vd_1 hc) (pc' := 25) rfl ?_
  refine T_calli (K := fun y6 σ' => (0 ≤ y6 ∧ y6 ≤ 3) ∧ (fun σ' => IF (MLW c) σ σ' ∧ True) σ') (r := []) zk_12_25 rfl rfl rfl rfl rfl rfl (Or.inr ⟨_, _, _, _, rfl, (vd_11 hc), rfl⟩) (fun σ' h => (w_63 c hc σ' h.1.1 ).le (Nat.le_of_ble_eq_true rfl) (fun v σ2 ⟨y, h1, h2, h3, h4⟩ => ⟨y, h1, h2, h.1.tr h3 MN_sub, trivial⟩)) (pc' := 28) rfl (fun y6 => ?_)
  refine G_ex (fun hy6 => ?_)
  refine T_if_le zk_12_28 (by omega) (pc' := 31) rfl (fun h7 => ?_) (fun h8 => ?_)
  ·
    refine T_op zk_12_51 rfl X_ic (pc' := 52) rfl ?_
    refine T_st (L' := [(0, av 1 c 0), (1, iv p0), (2, iv y5), (3, iv 0)]) zk_12_52 (nL := 6) rfl rfl rfl rfl rfl (pc' := 53) rfl ?_
    refine T_loop1 (fun x9 => ((3 - x9 : Int)).toNat) (fun x9 => (0 ≤ x9 ∧ x9 ≤ 3)) (fun x9 => TJ xs (fun σ' => IF (MLW c) σ σ' ∧ True) 3 12 53 [(0, av 1 c 0), (1, iv p0), (2, iv y5), (3, iv x9)] [] _) ?_ 0 (by omega)
    intro x9 hp11 ih10
    refine T_ld zk_12_53 rfl rfl rfl (pc' := 54) rfl ?_
    refine T_ld zk_12_54 rfl rfl rfl (pc' := 55) rfl ?_
    refine T_getR (t' := 11) (i' := c) (k' := 0) zk_12_55 rfl rfl rfl (vd_1 hc) (pc' := 58) rfl ?_
    refine G_getf (lo := 0) (hi := 3) zk_12_58 rfl (vd_11 hc) (fun σ' h => h.1.1) (fun _ h => h.2 (by omega) (by omega)) (pc' := 61) rfl (fun y12 hy12 hy12' => ?_)
    refine T_icmp_ge zk_12_61 (by omega) (by omega) (pc' := 64) rfl (fun h13 => ?_) (fun h14 => ?_)
    ·
      refine T_ld zk_12_135 rfl rfl rfl (pc' := 136) rfl ?_
      refine T_getR (t' := 2) (i' := c) (k' := 0) zk_12_136 rfl rfl rfl (vd_1 hc) (pc' := 139) rfl ?_
      refine T_callv (J' := (fun σ' => IF (MLW c) σ σ' ∧ True)) (r := []) zk_12_139 rfl rfl rfl rfl rfl rfl (Or.inr ⟨_, _, _, _, rfl, (vd_2 hc), rfl⟩) (fun σ' h => (w_35 c hc σ' h.1.1 ).le (Nat.le_of_ble_eq_true rfl) (fun v σ2 ⟨h1, h3, h4⟩ => ⟨h1, h.1.tr h3 (sb72_91e579d c), trivial⟩)) (pc' := 142) rfl ?_
      exact T_vret zk_12_142 rfl (fun σ' h => ⟨rfl, h.1, trivial⟩)
    ·
      refine T_ld zk_12_64 rfl rfl rfl (pc' := 65) rfl ?_
      refine T_getR (t' := 11) (i' := c) (k' := 0) zk_12_65 rfl rfl rfl (vd_1 hc) (pc' := 68) rfl ?_
      refine T_getR (t' := 13) (i' := c) (k' := 0) zk_12_68 rfl rfl rfl (vd_11 hc) (pc' := 71) rfl ?_
      refine T_ld zk_12_71 rfl rfl rfl (pc' := 72) rfl ?_
      refine G_bald (lo := 0) (hi := 1) (ln := 3) zk_12_72 rfl rfl (vd_13 hc) (by omega) (by omega) (by omega) (fun σ' h => h.1.1) (fun _ h => h.2 (by omega) (by omega)) (pc' := 73) rfl (fun y16 hy16 hy16' => ?_)
      refine T_if_ne zk_12_73 (by omega) (pc' := 76) rfl (fun h17 => ?_) (fun h18 => ?_)
      ·
        refine T_iinc (L' := [(0, av 1 c 0), (1, iv p0), (2, iv y5), (3, iv (x9 + 1))]) zk_12_129 (nL := 6) rfl rfl rfl rfl (pc' := 132) rfl ?_
        refine T_goto zk_12_132 ?_
        exact ih10 (x9 + 1) (by omega) (by omega)
      ·
        refine T_ld zk_12_76 rfl rfl rfl (pc' := 77) rfl ?_
        refine T_getR (t' := 11) (i' := c) (k' := 0) zk_12_77 rfl rfl rfl (vd_1 hc) (pc' := 80) rfl ?_
        refine T_getR (t' := 12) (i' := c) (k' := 0) zk_12_80 rfl rfl rfl (vd_11 hc) (pc' := 83) rfl ?_
        refine T_ld zk_12_83 rfl rfl rfl (pc' := 84) rfl ?_
        refine G_iald (lo := 0) (hi := 24) (ln := 3) zk_12_84 rfl rfl (vd_12 hc) (by omega) (by omega) (by omega) (fun σ' h => h.1.1) (fun _ h => h.2 (by omega) (by omega)) (pc' := 85) rfl (fun y19 hy19 hy19' => ?_)
        refine T_st (L' := [(0, av 1 c 0), (1, iv p0), (2, iv y5), (3, iv x9), (4, iv y19)]) zk_12_85 (nL := 6) rfl rfl rfl rfl rfl (pc' := 87) rfl ?_
        refine T_ld zk_12_87 rfl rfl rfl (pc' := 88) rfl ?_
        refine T_ld zk_12_88 rfl rfl rfl (pc' := 89) rfl ?_
        refine T_getR (t' := 2) (i' := c) (k' := 0) zk_12_89 rfl rfl rfl (vd_1 hc) (pc' := 92) rfl ?_
        refine T_getR (t' := 4) (i' := c) (k' := 0) zk_12_92 rfl rfl rfl (vd_2 hc) (pc' := 95) rfl ?_
        refine T_ld zk_12_95 rfl rfl rfl (pc' := 97) rfl ?_
        refine G_iald (lo := -2147483648) (hi := 2147483647) (ln := 25) zk_12_97 rfl rfl (vd_4 hc) (by omega) (by omega) (by omega) (fun σ' h => h.1.1) (fun _ h => (by have q := h.1; omega)) (pc' := 98) rfl (fun y20 hy20 hy20' => ?_)
        refine G_unk zk_12_98 rfl (pc' := 99) rfl (fun y21 hy21 hy21' => ?_)
        refine T_op zk_12_99 rfl X_ic (pc' := 100) rfl ?_
        refine G_unkD zk_12_100 (by first | exact Or.inl rfl | exact Or.inr rfl) (by omega) (pc' := 101) rfl (fun y22 hy22 hy22' => ?_)
        refine T_st (L' := [(0, av 1 c 0), (1, iv p0), (2, iv y5), (3, iv x9), (4, iv y19), (5, iv y22)]) zk_12_101 (nL := 6) rfl rfl rfl rfl rfl (pc' := 103) rfl ?_
        refine T_ld zk_12_103 rfl rfl rfl (pc' := 104) rfl ?_
        refine T_getR (t' := 2) (i' := c) (k' := 0) zk_12_104 rfl rfl rfl (vd_1 hc) (pc' := 107) rfl ?_
        refine T_getR (t' := 4) (i' := c) (k' := 0) zk_12_107 rfl rfl rfl (vd_2 hc) (pc' := 110) rfl ?_
        refine T_ld zk_12_110 rfl rfl rfl (pc' := 112) rfl ?_
        refine T_op (st' := [iv y19, av 4 c 0, iv y19, av 4 c 0]) zk_12_112 rfl rfl (pc' := 113) rfl ?_
        refine G_iald (lo := -2147483648) (hi := 2147483647) (ln := 25) zk_12_113 rfl rfl (vd_4 hc) (by omega) (by omega) (by omega) (fun σ' h => h.1.1) (fun _ h => (by have q := h.1; omega)) (pc' := 114) rfl (fun y23 hy23 hy23' => ?_)
        refine T_ld zk_12_114 rfl rfl rfl (pc' := 116) rfl ?_
        refine G_unk zk_12_116 rfl (pc' := 117) rfl (fun y24 hy24 hy24' => ?_)
        refine G_iast (J' := (fun σ' => IF (MLW c) σ σ' ∧ True)) (ln := 25) zk_12_117 rfl rfl (vd_4 hc) (by omega) (by omega) (by omega) (fun σ' h => ⟨h.1.up ⟨by omega, trivial⟩ (by unfold MLW; omega), trivial⟩) (pc' := 118) rfl ?_
        refine T_ld zk_12_118 rfl rfl rfl (pc' := 119) rfl ?_
        refine T_op (st' := [av 1 c 0, av 1 c 0]) zk_12_119 rfl rfl (pc' := 120) rfl ?_
        refine G_getf (lo := -2147483648) (hi := 2147483647) zk_12_120 rfl (vd_1 hc) (fun σ' h => h.1.1) (fun _ h => (by have q := h.1; omega)) (pc' := 123) rfl (fun y25 hy25 hy25' => ?_)
        refine T_ld zk_12_123 rfl rfl rfl (pc' := 125) rfl ?_
        refine G_unk zk_12_125 rfl (pc' := 126) rfl (fun y26 hy26 hy26' => ?_)
        refine T_putf (J' := (fun σ' => IF (MLW c) σ σ' ∧ σ' 1 c 0 16 = y26 ∧ True)) zk_12_126 rfl rfl (vd_1 hc) (fun σ' h => ⟨h.1.up (by simp only [rgP] <;> omega) (by unfold MLW; omega), up_eq, trivial⟩) (pc' := 129) rfl ?_
        refine T_iinc (L' := [(0, av 1 c 0), (1, iv p0), (2, iv y5), (3, iv (x9 + 1)), (4, iv y19), (5, iv y22)]) zk_12_129 (nL := 6) rfl rfl rfl rfl (pc' := 132) rfl ?_
        refine T_goto zk_12_132 ?_
        refine G_know (J' := (fun σ' => IF (MLW c) σ σ' ∧ True)) (fun σ' h => ⟨h.1, trivial⟩) ?_
        refine T_loc (L := [(0, av 1 c 0), (1, iv p0), (2, iv y5), (3, iv (x9 + 1))]) (E := [(4, iv y19), (5, iv y22)]) rfl ?_
        exact ih10 (x9 + 1) (by omega) (by omega)
  ·
    refine T_ld zk_12_31 rfl rfl rfl (pc' := 32) rfl ?_
    refine T_ld zk_12_32 rfl rfl rfl (pc' := 33) rfl ?_
    refine T_getR (t' := 21) (i' := c) (k' := 0) zk_12_33 rfl rfl rfl (vd_1 hc) (pc' := 36) rfl ?_
    refine T_op zk_12_36 rfl X_ic (pc' := 37) rfl ?_
    refine G_iald (lo := -2147483648) (hi := 2147483647) (ln := 6) zk_12_37 rfl rfl (vd_21 hc) (by omega) (by omega) (by omega) (fun σ' h => h.1.1) (fun _ h => (by have q := h.1; omega)) (pc' := 38) rfl (fun y27 hy27 hy27' => ?_)
    refine T_icmp_gt zk_12_38 (by omega) (by omega) (pc' := 41) rfl (fun h28 => ?_) (fun h29 => ?_)
    ·
      refine T_op zk_12_51 rfl X_ic (pc' := 52) rfl ?_
      refine T_st (L' := [(0, av 1 c 0), (1, iv p0), (2, iv y5), (3, iv 0)]) zk_12_52 (nL := 6) rfl rfl rfl rfl rfl (pc' := 53) rfl ?_
      refine T_loop1 (fun x30 => ((3 - x30 : Int)).toNat) (fun x30 => (0 ≤ x30 ∧ x30 ≤ 3)) (fun x30 => TJ xs (fun σ' => IF (MLW c) σ σ' ∧ True) 3 12 53 [(0, av 1 c 0), (1, iv p0), (2, iv y5), (3, iv x30)] [] _) ?_ 0 (by omega)
      intro x30 hp32 ih31
      refine T_ld zk_12_53 rfl rfl rfl (pc' := 54) rfl ?_
      refine T_ld zk_12_54 rfl rfl rfl (pc' := 55) rfl ?_
      refine T_getR (t' := 11) (i' := c) (k' := 0) zk_12_55 rfl rfl rfl (vd_1 hc) (pc' := 58) rfl ?_
      refine G_getf (lo := 0) (hi := 3) zk_12_58 rfl (vd_11 hc) (fun σ' h => h.1.1) (fun _ h => h.2 (by omega) (by omega)) (pc' := 61) rfl (fun y33 hy33 hy33' => ?_)
      refine T_icmp_ge zk_12_61 (by omega) (by omega) (pc' := 64) rfl (fun h34 => ?_) (fun h35 => ?_)
      ·
        refine T_ld zk_12_135 rfl rfl rfl (pc' := 136) rfl ?_
        refine T_getR (t' := 2) (i' := c) (k' := 0) zk_12_136 rfl rfl rfl (vd_1 hc) (pc' := 139) rfl ?_
        refine T_callv (J' := (fun σ' => IF (MLW c) σ σ' ∧ True)) (r := []) zk_12_139 rfl rfl rfl rfl rfl rfl (Or.inr ⟨_, _, _, _, rfl, (vd_2 hc), rfl⟩) (fun σ' h => (w_35 c hc σ' h.1.1 ).le (Nat.le_of_ble_eq_true rfl) (fun v σ2 ⟨h1, h3, h4⟩ => ⟨h1, h.1.tr h3 (sb72_91e579d c), trivial⟩)) (pc' := 142) rfl ?_
        exact T_vret zk_12_142 rfl (fun σ' h => ⟨rfl, h.1, trivial⟩)
      ·
        refine T_ld zk_12_64 rfl rfl rfl (pc' := 65) rfl ?_
        refine T_getR (t' := 11) (i' := c) (k' := 0) zk_12_65 rfl rfl rfl (vd_1 hc) (pc' := 68) rfl ?_
        refine T_getR (t' := 13) (i' := c) (k' := 0) zk_12_68 rfl rfl rfl (vd_11 hc) (pc' := 71) rfl ?_
        refine T_ld zk_12_71 rfl rfl rfl (pc' := 72) rfl ?_
        refine G_bald (lo := 0) (hi := 1) (ln := 3) zk_12_72 rfl rfl (vd_13 hc) (by omega) (by omega) (by omega) (fun σ' h => h.1.1) (fun _ h => h.2 (by omega) (by omega)) (pc' := 73) rfl (fun y37 hy37 hy37' => ?_)
        refine T_if_ne zk_12_73 (by omega) (pc' := 76) rfl (fun h38 => ?_) (fun h39 => ?_)
        ·
          refine T_iinc (L' := [(0, av 1 c 0), (1, iv p0), (2, iv y5), (3, iv (x30 + 1))]) zk_12_129 (nL := 6) rfl rfl rfl rfl (pc' := 132) rfl ?_
          refine T_goto zk_12_132 ?_
          exact ih31 (x30 + 1) (by omega) (by omega)
        ·
          refine T_ld zk_12_76 rfl rfl rfl (pc' := 77) rfl ?_
          refine T_getR (t' := 11) (i' := c) (k' := 0) zk_12_77 rfl rfl rfl (vd_1 hc) (pc' := 80) rfl ?_
          refine T_getR (t' := 12) (i' := c) (k' := 0) zk_12_80 rfl rfl rfl (vd_11 hc) (pc' := 83) rfl ?_
          refine T_ld zk_12_83 rfl rfl rfl (pc' := 84) rfl ?_
          refine G_iald (lo := 0) (hi := 24) (ln := 3) zk_12_84 rfl rfl (vd_12 hc) (by omega) (by omega) (by omega) (fun σ' h => h.1.1) (fun _ h => h.2 (by omega) (by omega)) (pc' := 85) rfl (fun y40 hy40 hy40' => ?_)
          refine T_st (L' := [(0, av 1 c 0), (1, iv p0), (2, iv y5), (3, iv x30), (4, iv y40)]) zk_12_85 (nL := 6) rfl rfl rfl rfl rfl (pc' := 87) rfl ?_
          refine T_ld zk_12_87 rfl rfl rfl (pc' := 88) rfl ?_
          refine T_ld zk_12_88 rfl rfl rfl (pc' := 89) rfl ?_
          refine T_getR (t' := 2) (i' := c) (k' := 0) zk_12_89 rfl rfl rfl (vd_1 hc) (pc' := 92) rfl ?_
          refine T_getR (t' := 4) (i' := c) (k' := 0) zk_12_92 rfl rfl rfl (vd_2 hc) (pc' := 95) rfl ?_
          refine T_ld zk_12_95 rfl rfl rfl (pc' := 97) rfl ?_
          refine G_iald (lo := -2147483648) (hi := 2147483647) (ln := 25) zk_12_97 rfl rfl (vd_4 hc) (by omega) (by omega) (by omega) (fun σ' h => h.1.1) (fun _ h => (by have q := h.1; omega)) (pc' := 98) rfl (fun y41 hy41 hy41' => ?_)
          refine G_unk zk_12_98 rfl (pc' := 99) rfl (fun y42 hy42 hy42' => ?_)
          refine T_op zk_12_99 rfl X_ic (pc' := 100) rfl ?_
          refine G_unkD zk_12_100 (by first | exact Or.inl rfl | exact Or.inr rfl) (by omega) (pc' := 101) rfl (fun y43 hy43 hy43' => ?_)
          refine T_st (L' := [(0, av 1 c 0), (1, iv p0), (2, iv y5), (3, iv x30), (4, iv y40), (5, iv y43)]) zk_12_101 (nL := 6) rfl rfl rfl rfl rfl (pc' := 103) rfl ?_
          refine T_ld zk_12_103 rfl rfl rfl (pc' := 104) rfl ?_
          refine T_getR (t' := 2) (i' := c) (k' := 0) zk_12_104 rfl rfl rfl (vd_1 hc) (pc' := 107) rfl ?_
          refine T_getR (t' := 4) (i' := c) (k' := 0) zk_12_107 rfl rfl rfl (vd_2 hc) (pc' := 110) rfl ?_
          refine T_ld zk_12_110 rfl rfl rfl (pc' := 112) rfl ?_
          refine T_op (st' := [iv y40, av 4 c 0, iv y40, av 4 c 0]) zk_12_112 rfl rfl (pc' := 113) rfl ?_
          refine G_iald (lo := -2147483648) (hi := 2147483647) (ln := 25) zk_12_113 rfl rfl (vd_4 hc) (by omega) (by omega) (by omega) (fun σ' h => h.1.1) (fun _ h => (by have q := h.1; omega)) (pc' := 114) rfl (fun y44 hy44 hy44' => ?_)
          refine T_ld zk_12_114 rfl rfl rfl (pc' := 116) rfl ?_
          refine G_unk zk_12_116 rfl (pc' := 117) rfl (fun y45 hy45 hy45' => ?_)
          refine G_iast (J' := (fun σ' => IF (MLW c) σ σ' ∧ True)) (ln := 25) zk_12_117 rfl rfl (vd_4 hc) (by omega) (by omega) (by omega) (fun σ' h => ⟨h.1.up ⟨by omega, trivial⟩ (by unfold MLW; omega), trivial⟩) (pc' := 118) rfl ?_
          refine T_ld zk_12_118 rfl rfl rfl (pc' := 119) rfl ?_
          refine T_op (st' := [av 1 c 0, av 1 c 0]) zk_12_119 rfl rfl (pc' := 120) rfl ?_
          refine G_getf (lo := -2147483648) (hi := 2147483647) zk_12_120 rfl (vd_1 hc) (fun σ' h => h.1.1) (fun _ h => (by have q := h.1; omega)) (pc' := 123) rfl (fun y46 hy46 hy46' => ?_)
          refine T_ld zk_12_123 rfl rfl rfl (pc' := 125) rfl ?_
          refine G_unk zk_12_125 rfl (pc' := 126) rfl (fun y47 hy47 hy47' => ?_)
          refine T_putf (J' := (fun σ' => IF (MLW c) σ σ' ∧ σ' 1 c 0 16 = y47 ∧ True)) zk_12_126 rfl rfl (vd_1 hc) (fun σ' h => ⟨h.1.up (by simp only [rgP] <;> omega) (by unfold MLW; omega), up_eq, trivial⟩) (pc' := 129) rfl ?_
          refine T_iinc (L' := [(0, av 1 c 0), (1, iv p0), (2, iv y5), (3, iv (x30 + 1)), (4, iv y40), (5, iv y43)]) zk_12_129 (nL := 6) rfl rfl rfl rfl (pc' := 132) rfl ?_
          refine T_goto zk_12_132 ?_
          refine G_know (J' := (fun σ' => IF (MLW c) σ σ' ∧ True)) (fun σ' h => ⟨h.1, trivial⟩) ?_
          refine T_loc (L := [(0, av 1 c 0), (1, iv p0), (2, iv y5), (3, iv (x30 + 1))]) (E := [(4, iv y40), (5, iv y43)]) rfl ?_
          exact ih31 (x30 + 1) (by omega) (by omega)
    ·
      refine T_ld zk_12_41 rfl rfl rfl (pc' := 42) rfl ?_
      refine T_op (st' := [av 1 c 0, av 1 c 0]) zk_12_42 rfl rfl (pc' := 43) rfl ?_
      refine G_getf (lo := -2147483648) (hi := 2147483647) zk_12_43 rfl (vd_1 hc) (fun σ' h => h.1.1) (fun _ h => (by have q := h.1; omega)) (pc' := 46) rfl (fun y48 hy48 hy48' => ?_)
      refine T_op zk_12_46 rfl X_ic (pc' := 47) rfl ?_
      refine G_unk zk_12_47 rfl (pc' := 48) rfl (fun y49 hy49 hy49' => ?_)
      refine T_putf (J' := (fun σ' => IF (MLW c) σ σ' ∧ σ' 1 c 0 15 = y49 ∧ True)) zk_12_48 rfl rfl (vd_1 hc) (fun σ' h => ⟨h.1.up (by simp only [rgP] <;> omega) (by unfold MLW; omega), up_eq, trivial⟩) (pc' := 51) rfl ?_
      refine T_op zk_12_51 rfl X_ic (pc' := 52) rfl ?_
      refine T_st (L' := [(0, av 1 c 0), (1, iv p0), (2, iv y5), (3, iv 0)]) zk_12_52 (nL := 6) rfl rfl rfl rfl rfl (pc' := 53) rfl ?_
      refine G_know (J' := (fun σ' => IF (MLW c) σ σ' ∧ True)) (fun σ' h => ⟨h.1, trivial⟩) ?_
      refine T_loop1 (fun x50 => ((3 - x50 : Int)).toNat) (fun x50 => (0 ≤ x50 ∧ x50 ≤ 3)) (fun x50 => TJ xs (fun σ' => IF (MLW c) σ σ' ∧ True) 3 12 53 [(0, av 1 c 0), (1, iv p0), (2, iv y5), (3, iv x50)] [] _) ?_ 0 (by omega)
      intro x50 hp52 ih51
      refine T_ld zk_12_53 rfl rfl rfl (pc' := 54) rfl ?_
      refine T_ld zk_12_54 rfl rfl rfl (pc' := 55) rfl ?_
      refine T_getR (t' := 11) (i' := c) (k' := 0) zk_12_55 rfl rfl rfl (vd_1 hc) (pc' := 58) rfl ?_
      refine G_getf (lo := 0) (hi := 3) zk_12_58 rfl (vd_11 hc) (fun σ' h => h.1.1) (fun _ h => h.2 (by omega) (by omega)) (pc' := 61) rfl (fun y53 hy53 hy53' => ?_)
      refine T_icmp_ge zk_12_61 (by omega) (by omega) (pc' := 64) rfl (fun h54 => ?_) (fun h55 => ?_)
      ·
        refine T_ld zk_12_135 rfl rfl rfl (pc' := 136) rfl ?_
        refine T_getR (t' := 2) (i' := c) (k' := 0) zk_12_136 rfl rfl rfl (vd_1 hc) (pc' := 139) rfl ?_
        refine T_callv (J' := (fun σ' => IF (MLW c) σ σ' ∧ True)) (r := []) zk_12_139 rfl rfl rfl rfl rfl rfl (Or.inr ⟨_, _, _, _, rfl, (vd_2 hc), rfl⟩) (fun σ' h => (w_35 c hc σ' h.1.1 ).le (Nat.le_of_ble_eq_true rfl) (fun v σ2 ⟨h1, h3, h4⟩ => ⟨h1, h.1.tr h3 (sb72_91e579d c), trivial⟩)) (pc' := 142) rfl ?_
        exact T_vret zk_12_142 rfl (fun σ' h => ⟨rfl, h.1, trivial⟩)
      ·
        refine T_ld zk_12_64 rfl rfl rfl (pc' := 65) rfl ?_
        refine T_getR (t' := 11) (i' := c) (k' := 0) zk_12_65 rfl rfl rfl (vd_1 hc) (pc' := 68) rfl ?_
        refine T_getR (t' := 13) (i' := c) (k' := 0) zk_12_68 rfl rfl rfl (vd_11 hc) (pc' := 71) rfl ?_
        refine T_ld zk_12_71 rfl rfl rfl (pc' := 72) rfl ?_
        refine G_bald (lo := 0) (hi := 1) (ln := 3) zk_12_72 rfl rfl (vd_13 hc) (by omega) (by omega) (by omega) (fun σ' h => h.1.1) (fun _ h => h.2 (by omega) (by omega)) (pc' := 73) rfl (fun y57 hy57 hy57' => ?_)
        refine T_if_ne zk_12_73 (by omega) (pc' := 76) rfl (fun h58 => ?_) (fun h59 => ?_)
        ·
          refine T_iinc (L' := [(0, av 1 c 0), (1, iv p0), (2, iv y5), (3, iv (x50 + 1))]) zk_12_129 (nL := 6) rfl rfl rfl rfl (pc' := 132) rfl ?_
          refine T_goto zk_12_132 ?_
          exact ih51 (x50 + 1) (by omega) (by omega)
        ·
          refine T_ld zk_12_76 rfl rfl rfl (pc' := 77) rfl ?_
          refine T_getR (t' := 11) (i' := c) (k' := 0) zk_12_77 rfl rfl rfl (vd_1 hc) (pc' := 80) rfl ?_
          refine T_getR (t' := 12) (i' := c) (k' := 0) zk_12_80 rfl rfl rfl (vd_11 hc) (pc' := 83) rfl ?_
          refine T_ld zk_12_83 rfl rfl rfl (pc' := 84) rfl ?_
          refine G_iald (lo := 0) (hi := 24) (ln := 3) zk_12_84 rfl rfl (vd_12 hc) (by omega) (by omega) (by omega) (fun σ' h => h.1.1) (fun _ h => h.2 (by omega) (by omega)) (pc' := 85) rfl (fun y60 hy60 hy60' => ?_)
          refine T_st (L' := [(0, av 1 c 0), (1, iv p0), (2, iv y5), (3, iv x50), (4, iv y60)]) zk_12_85 (nL := 6) rfl rfl rfl rfl rfl (pc' := 87) rfl ?_
          refine T_ld zk_12_87 rfl rfl rfl (pc' := 88) rfl ?_
          refine T_ld zk_12_88 rfl rfl rfl (pc' := 89) rfl ?_
          refine T_getR (t' := 2) (i' := c) (k' := 0) zk_12_89 rfl rfl rfl (vd_1 hc) (pc' := 92) rfl ?_
          refine T_getR (t' := 4) (i' := c) (k' := 0) zk_12_92 rfl rfl rfl (vd_2 hc) (pc' := 95) rfl ?_
          refine T_ld zk_12_95 rfl rfl rfl (pc' := 97) rfl ?_
          refine G_iald (lo := -2147483648) (hi := 2147483647) (ln := 25) zk_12_97 rfl rfl (vd_4 hc) (by omega) (by omega) (by omega) (fun σ' h => h.1.1) (fun _ h => (by have q := h.1; omega)) (pc' := 98) rfl (fun y61 hy61 hy61' => ?_)
          refine G_unk zk_12_98 rfl (pc' := 99) rfl (fun y62 hy62 hy62' => ?_)
          refine T_op zk_12_99 rfl X_ic (pc' := 100) rfl ?_
          refine G_unkD zk_12_100 (by first | exact Or.inl rfl | exact Or.inr rfl) (by omega) (pc' := 101) rfl (fun y63 hy63 hy63' => ?_)
          refine T_st (L' := [(0, av 1 c 0), (1, iv p0), (2, iv y5), (3, iv x50), (4, iv y60), (5, iv y63)]) zk_12_101 (nL := 6) rfl rfl rfl rfl rfl (pc' := 103) rfl ?_
          refine T_ld zk_12_103 rfl rfl rfl (pc' := 104) rfl ?_
          refine T_getR (t' := 2) (i' := c) (k' := 0) zk_12_104 rfl rfl rfl (vd_1 hc) (pc' := 107) rfl ?_
          refine T_getR (t' := 4) (i' := c) (k' := 0) zk_12_107 rfl rfl rfl (vd_2 hc) (pc' := 110) rfl ?_
          refine T_ld zk_12_110 rfl rfl rfl (pc' := 112) rfl ?_
          refine T_op (st' := [iv y60, av 4 c 0, iv y60, av 4 c 0]) zk_12_112 rfl rfl (pc' := 113) rfl ?_
          refine G_iald (lo := -2147483648) (hi := 2147483647) (ln := 25) zk_12_113 rfl rfl (vd_4 hc) (by omega) (by omega) (by omega) (fun σ' h => h.1.1) (fun _ h => (by have q := h.1; omega)) (pc' := 114) rfl (fun y64 hy64 hy64' => ?_)
          refine T_ld zk_12_114 rfl rfl rfl (pc' := 116) rfl ?_
          refine G_unk zk_12_116 rfl (pc' := 117) rfl (fun y65 hy65 hy65' => ?_)
          refine G_iast (J' := (fun σ' => IF (MLW c) σ σ' ∧ True)) (ln := 25) zk_12_117 rfl rfl (vd_4 hc) (by omega) (by omega) (by omega) (fun σ' h => ⟨h.1.up ⟨by omega, trivial⟩ (by unfold MLW; omega), trivial⟩) (pc' := 118) rfl ?_
          refine T_ld zk_12_118 rfl rfl rfl (pc' := 119) rfl ?_
          refine T_op (st' := [av 1 c 0, av 1 c 0]) zk_12_119 rfl rfl (pc' := 120) rfl ?_
          refine G_getf (lo := -2147483648) (hi := 2147483647) zk_12_120 rfl (vd_1 hc) (fun σ' h => h.1.1) (fun _ h => (by have q := h.1; omega)) (pc' := 123) rfl (fun y66 hy66 hy66' => ?_)
          refine T_ld zk_12_123 rfl rfl rfl (pc' := 125) rfl ?_
          refine G_unk zk_12_125 rfl (pc' := 126) rfl (fun y67 hy67 hy67' => ?_)
          refine T_putf (J' := (fun σ' => IF (MLW c) σ σ' ∧ σ' 1 c 0 16 = y67 ∧ True)) zk_12_126 rfl rfl (vd_1 hc) (fun σ' h => ⟨h.1.up (by simp only [rgP] <;> omega) (by unfold MLW; omega), up_eq, trivial⟩) (pc' := 129) rfl ?_
          refine T_iinc (L' := [(0, av 1 c 0), (1, iv p0), (2, iv y5), (3, iv (x50 + 1)), (4, iv y60), (5, iv y63)]) zk_12_129 (nL := 6) rfl rfl rfl rfl (pc' := 132) rfl ?_
          refine T_goto zk_12_132 ?_
          refine G_know (J' := (fun σ' => IF (MLW c) σ σ' ∧ True)) (fun σ' h => ⟨h.1, trivial⟩) ?_
          refine T_loc (L := [(0, av 1 c 0), (1, iv p0), (2, iv y5), (3, iv (x50 + 1))]) (E := [(4, iv y60), (5, iv y63)]) rfl ?_
          exact ih51 (x50 + 1) (by omega) (by omega)
theorem sb72_6ca60cf (v0 : Nat) : ∀ t i k j, MI v0 20 20 20 20 t i k j → MI v0 5 20 22 26 t i k j := by
  intro t i k j h
  unfold MI at h
  unfold MI
  omega
theorem sb72_659ed53 (v0 : Nat) : ∀ t i k j, MI v0 5 5 5 5 t i k j → MI v0 5 20 22 26 t i k j := by
  intro t i k j h
  unfold MI at h
  unfold MI
  omega
/-- W$City.sailOne -/
theorem s_16 {xs : Nat × (Nat → Int32)} (c : Nat) (k : Nat) (hc : c < 3) (hk : k < 6) (σ : ZS) (hI : Inv σ)   : CT xs 5 16 [av 1 c 0, av 26 c k] σ (fun v σ' => v = none ∧ IF (MI c 5 20 22 26) σ σ' ∧ (True)) := by
  refine G_ct (J := (fun σ' => IF (MI c 5 20 22 26) σ σ' ∧ True)) (L := [(0, av 1 c 0), (1, av 26 c k)]) (nL := 4) rfl rfl rfl ⟨IF.rf hI, trivial⟩ ?_
  refine T_ld zk_16_0 rfl rfl rfl (pc' := 1) rfl ?_
  refine T_ld zk_16_1 rfl rfl rfl (pc' := 2) rfl ?_
  refine T_calli (K := fun y1 σ' => (-1 ≤ y1 ∧ y1 ≤ 24) ∧ (fun σ' => IF (MI c 5 20 22 26) σ σ' ∧ True) σ') (r := []) zk_16_2 rfl rfl rfl rfl rfl rfl (Or.inr ⟨_, _, _, _, rfl, (vd_1 hc), rfl⟩) (fun σ' h => (w_17 c k hc (by omega) σ' h.1.1 ).le (Nat.le_of_ble_eq_true rfl) (fun v σ2 ⟨y, h1, h2, h3, h4⟩ => ⟨y, h1, h2, h.1.tr h3 (sb72_6ca60cf c), trivial⟩)) (pc' := 5) rfl (fun y1 => ?_)
  refine G_ex (fun hy1 => ?_)
  refine T_st (L' := [(0, av 1 c 0), (1, av 26 c k), (2, iv y1)]) zk_16_5 (nL := 4) rfl rfl rfl rfl rfl (pc' := 6) rfl ?_
  refine T_ld zk_16_6 rfl rfl rfl (pc' := 7) rfl ?_
  refine G_getf (lo := 0) (hi := 24) zk_16_7 rfl (vd_26 hc (by omega)) (fun σ' h => h.1.1) (fun _ h => h.2.1 (by omega) (by omega)) (pc' := 10) rfl (fun y2 hy2 hy2' => ?_)
  refine T_ld zk_16_10 rfl rfl rfl (pc' := 11) rfl ?_
  refine T_calli (K := fun y3 σ' => ((y3 = -1 ∧ ¬ (0 ≤ y2 ∧ y2 ≤ 24 ∧ 0 ≤ y1 ∧ y1 ≤ 24 ∧ (y1 = y2 + 5 ∨ y2 = y1 + 5 ∨ (y1 = y2 + 1 ∧ y2 % 5 < 4) ∨ (y2 = y1 + 1 ∧ y1 % 5 < 4)))) ∨ (0 ≤ y3 ∧ y3 ≤ 39 ∧ (0 ≤ y2 ∧ y2 ≤ 24 ∧ 0 ≤ y1 ∧ y1 ≤ 24 ∧ (y1 = y2 + 5 ∨ y2 = y1 + 5 ∨ (y1 = y2 + 1 ∧ y2 % 5 < 4) ∨ (y2 = y1 + 1 ∧ y1 % 5 < 4))))) ∧ (fun σ' => IF (MI c 5 20 22 26) σ σ' ∧ True) σ') (r := []) zk_16_11 rfl rfl rfl rfl rfl rfl (Or.inl (Or.inl rfl)) (fun σ' h => (w_30 y2 y1 (by omega) (by omega) σ' h.1.1 ).le (Nat.le_of_ble_eq_true rfl) (fun v σ2 ⟨y, h1, h2, h3, h4⟩ => ⟨y, h1, h2, h.1.tr h3 MN_sub, trivial⟩)) (pc' := 14) rfl (fun y3 => ?_)
  refine G_ex (fun hy3 => ?_)
  refine T_st (L' := [(0, av 1 c 0), (1, av 26 c k), (2, iv y1), (3, iv y3)]) zk_16_14 (nL := 4) rfl rfl rfl rfl rfl (pc' := 15) rfl ?_
  refine T_ld zk_16_15 rfl rfl rfl (pc' := 16) rfl ?_
  refine T_op zk_16_16 rfl X_ic (pc' := 17) rfl ?_
  refine T_icmp_eq zk_16_17 (by omega) (by omega) (pc' := 20) rfl (fun h4 => ?_) (fun h5 => ?_)
  ·
    refine T_ld zk_16_41 rfl rfl rfl (pc' := 42) rfl ?_
    refine T_op (st' := [av 26 c k, av 26 c k]) zk_16_42 rfl rfl (pc' := 43) rfl ?_
    refine G_getf (lo := -2147483648) (hi := 2147483647) zk_16_43 rfl (vd_26 hc (by omega)) (fun σ' h => h.1.1) (fun _ h => (by have q := h.1; omega)) (pc' := 46) rfl (fun y6 hy6 hy6' => ?_)
    refine T_op zk_16_46 rfl X_ic (pc' := 47) rfl ?_
    refine G_unk zk_16_47 rfl (pc' := 48) rfl (fun y7 hy7 hy7' => ?_)
    refine T_putf (J' := (fun σ' => IF (MI c 5 20 22 26) σ σ' ∧ σ' 26 c k 6 = y7 ∧ True)) zk_16_48 rfl rfl (vd_26 hc (by omega)) (fun σ' h => ⟨h.1.up (by simp only [rgP] <;> omega) (by unfold MI; omega), up_eq, trivial⟩) (pc' := 51) rfl ?_
    exact T_vret zk_16_51 rfl (fun σ' h => ⟨rfl, h.1, trivial⟩)
  ·
    refine T_ld zk_16_20 rfl rfl rfl (pc' := 21) rfl ?_
    refine T_getR (t' := 2) (i' := c) (k' := 0) zk_16_21 rfl rfl rfl (vd_1 hc) (pc' := 24) rfl ?_
    refine T_getR (t' := 9) (i' := c) (k' := 0) zk_16_24 rfl rfl rfl (vd_2 hc) (pc' := 27) rfl ?_
    refine T_ld zk_16_27 rfl rfl rfl (pc' := 28) rfl ?_
    refine G_bald (lo := 0) (hi := 1) (ln := 40) zk_16_28 rfl rfl (vd_9 hc) (by omega) (by omega) (by omega) (fun σ' h => h.1.1) (fun _ h => h.2 (by omega) (by omega)) (pc' := 29) rfl (fun y8 hy8 hy8' => ?_)
    refine T_if_eq zk_16_29 (by omega) (pc' := 32) rfl (fun h9 => ?_) (fun h10 => ?_)
    ·
      refine T_ld zk_16_52 rfl rfl rfl (pc' := 53) rfl ?_
      refine T_getR (t' := 22) (i' := c) (k' := 0) zk_16_53 rfl rfl rfl (vd_1 hc) (pc' := 56) rfl ?_
      refine T_ld zk_16_56 rfl rfl rfl (pc' := 57) rfl ?_
      refine T_op zk_16_57 rfl X_ic (pc' := 58) rfl ?_
      refine G_bast (J' := (fun σ' => IF (MI c 5 20 22 26) σ σ' ∧ True)) (ln := 40) zk_16_58 rfl rfl (by omega) (vd_22 hc) (by omega) (by omega) (by omega) (fun σ' h => ⟨h.1.up (by simp only [rgP] <;> omega) (by unfold MI; omega), trivial⟩) (pc' := 59) rfl ?_
      refine T_ld zk_16_59 rfl rfl rfl (pc' := 60) rfl ?_
      refine T_ld zk_16_60 rfl rfl rfl (pc' := 61) rfl ?_
      refine T_putf (J' := (fun σ' => IF (MI c 5 20 22 26) σ σ' ∧ σ' 26 c k 0 = y1 ∧ True)) zk_16_61 rfl rfl (vd_26 hc (by omega)) (fun σ' h => ⟨h.1.up (by simp only [rgP] <;> omega) (by unfold MI; omega), up_eq, trivial⟩) (pc' := 64) rfl ?_
      refine T_ld zk_16_64 rfl rfl rfl (pc' := 65) rfl ?_
      refine T_op (st' := [av 26 c k, av 26 c k]) zk_16_65 rfl rfl (pc' := 66) rfl ?_
      refine G_getf (lo := -2147483648) (hi := 2147483647) zk_16_66 rfl (vd_26 hc (by omega)) (fun σ' h => h.1.1) (fun _ h => (by have q := h.1; omega)) (pc' := 69) rfl (fun y11 hy11 hy11' => ?_)
      refine T_op zk_16_69 rfl X_ic (pc' := 70) rfl ?_
      refine G_unk zk_16_70 rfl (pc' := 71) rfl (fun y12 hy12 hy12' => ?_)
      refine T_putf (J' := (fun σ' => IF (MI c 5 20 22 26) σ σ' ∧ σ' 26 c k 0 = y1 ∧ σ' 26 c k 9 = y12 ∧ True)) zk_16_71 rfl rfl (vd_26 hc (by omega)) (fun σ' h => ⟨h.1.up (by simp only [rgP] <;> omega) (by unfold MI; omega), (up_ne (by omega)).trans (h.2.1), up_eq, trivial⟩) (pc' := 74) rfl ?_
      refine T_ld zk_16_74 rfl rfl rfl (pc' := 75) rfl ?_
      refine T_op (st' := [av 26 c k, av 26 c k]) zk_16_75 rfl rfl (pc' := 76) rfl ?_
      refine G_getf (lo := -2147483648) (hi := 2147483647) zk_16_76 rfl (vd_26 hc (by omega)) (fun σ' h => h.1.1) (fun _ h => (by have q := h.1; omega)) (pc' := 79) rfl (fun y13 hy13 hy13' => ?_)
      refine T_ld zk_16_79 rfl rfl rfl (pc' := 80) rfl ?_
      refine T_getR (t' := 2) (i' := c) (k' := 0) zk_16_80 rfl rfl rfl (vd_1 hc) (pc' := 83) rfl ?_
      refine T_ld zk_16_83 rfl rfl rfl (pc' := 84) rfl ?_
      refine T_ld zk_16_84 rfl rfl rfl (pc' := 85) rfl ?_
      refine G_getf (lo := -2147483648) (hi := 2147483647) zk_16_85 rfl (vd_26 hc (by omega)) (fun σ' h => h.1.1) (fun _ h => (by have q := h.1; omega)) (pc' := 88) rfl (fun y14 hy14 hy14' => ?_)
      refine T_ld zk_16_88 rfl rfl rfl (pc' := 89) rfl ?_
      refine G_getf (lo := 1) (hi := 9) zk_16_89 rfl (vd_1 hc) (fun σ' h => h.1.1) (fun _ h => h.2.2.2.2.2.1 (by omega) (by omega)) (pc' := 92) rfl (fun y15 hy15 hy15' => ?_)
      refine T_min zk_16_92 rfl (by omega) (by omega) rfl (pc' := 95) rfl (fun y16 hy16 hy16' ey16 => ?_)
      refine T_calli (K := fun y17 σ' => (-2147483648 ≤ y17 ∧ y17 ≤ 2147483647) ∧ (fun σ' => IF (MI c 5 20 22 26) σ σ' ∧ σ' 26 c k 0 = y1 ∧ σ' 26 c k 9 = y12 ∧ True) σ') (r := [iv y13, av 26 c k]) zk_16_95 rfl rfl rfl rfl rfl rfl (Or.inr ⟨_, _, _, _, rfl, (vd_2 hc), rfl⟩) (fun σ' h => (w_37 c y1 y16 hc (by omega) (by omega) σ' h.1.1 ).le (Nat.le_of_ble_eq_true rfl) (fun v σ2 ⟨y, h1, h2, h3, h4⟩ => ⟨y, h1, h2, h.1.tr h3 (sb72_659ed53 c), (h3.2 _ _ _ _ (by first | exact nMI rfl | (unfold MI; omega))).trans (h.2.1), (h3.2 _ _ _ _ (by first | exact nMI rfl | (unfold MI; omega))).trans (h.2.2.1), trivial⟩)) (pc' := 98) rfl (fun y17 => ?_)
      refine G_ex (fun hy17 => ?_)
      refine G_unk zk_16_98 rfl (pc' := 99) rfl (fun y18 hy18 hy18' => ?_)
      refine T_putf (J' := (fun σ' => IF (MI c 5 20 22 26) σ σ' ∧ σ' 26 c k 0 = y1 ∧ σ' 26 c k 9 = y12 ∧ σ' 26 c k 8 = y18 ∧ True)) zk_16_99 rfl rfl (vd_26 hc (by omega)) (fun σ' h => ⟨h.1.up (by simp only [rgP] <;> omega) (by unfold MI; omega), (up_ne (by omega)).trans (h.2.1), (up_ne (by omega)).trans (h.2.2.1), up_eq, trivial⟩) (pc' := 102) rfl ?_
      refine T_ld zk_16_102 rfl rfl rfl (pc' := 103) rfl ?_
      refine T_ld zk_16_103 rfl rfl rfl (pc' := 104) rfl ?_
      refine G_getf (lo := -1) (hi := 24) zk_16_104 rfl (vd_26 hc (by omega)) (fun σ' h => h.1.1) (fun _ h => h.2.2 (by omega) (by omega)) (pc' := 107) rfl (fun y19 hy19 hy19' => ?_)
      refine T_icmp_ne zk_16_107 (by omega) (by omega) (pc' := 110) rfl (fun h20 => ?_) (fun h21 => ?_)
      ·
        exact T_vret zk_16_125 rfl (fun σ' h => ⟨rfl, h.1, trivial⟩)
      ·
        refine T_ld zk_16_110 rfl rfl rfl (pc' := 111) rfl ?_
        refine T_op zk_16_111 rfl X_ic (pc' := 112) rfl ?_
        refine T_putf (J' := (fun σ' => IF (MI c 5 20 22 26) σ σ' ∧ σ' 26 c k 0 = y1 ∧ σ' 26 c k 9 = y12 ∧ σ' 26 c k 8 = y18 ∧ σ' 26 c k 5 = (-1) ∧ True)) zk_16_112 rfl rfl (vd_26 hc (by omega)) (fun σ' h => ⟨h.1.up (by simp only [rgP] <;> omega) (by unfold MI; omega), (up_ne (by omega)).trans (h.2.1), (up_ne (by omega)).trans (h.2.2.1), (up_ne (by omega)).trans (h.2.2.2.1), up_eq, trivial⟩) (pc' := 115) rfl ?_
        refine T_ld zk_16_115 rfl rfl rfl (pc' := 116) rfl ?_
        refine T_op (st' := [av 26 c k, av 26 c k]) zk_16_116 rfl rfl (pc' := 117) rfl ?_
        refine G_getf (lo := -2147483648) (hi := 2147483647) zk_16_117 rfl (vd_26 hc (by omega)) (fun σ' h => h.1.1) (fun _ h => (by have q := h.1; omega)) (pc' := 120) rfl (fun y22 hy22 hy22' => ?_)
        refine T_op zk_16_120 rfl X_ic (pc' := 121) rfl ?_
        refine G_unk zk_16_121 rfl (pc' := 122) rfl (fun y23 hy23 hy23' => ?_)
        refine T_putf (J' := (fun σ' => IF (MI c 5 20 22 26) σ σ' ∧ σ' 26 c k 0 = y1 ∧ σ' 26 c k 9 = y12 ∧ σ' 26 c k 8 = y18 ∧ σ' 26 c k 5 = (-1) ∧ σ' 26 c k 7 = y23 ∧ True)) zk_16_122 rfl rfl (vd_26 hc (by omega)) (fun σ' h => ⟨h.1.up (by simp only [rgP] <;> omega) (by unfold MI; omega), (up_ne (by omega)).trans (h.2.1), (up_ne (by omega)).trans (h.2.2.1), (up_ne (by omega)).trans (h.2.2.2.1), (up_ne (by omega)).trans (h.2.2.2.2.1), up_eq, trivial⟩) (pc' := 125) rfl ?_
        exact T_vret zk_16_125 rfl (fun σ' h => ⟨rfl, h.1, trivial⟩)
    ·
      refine T_ld zk_16_32 rfl rfl rfl (pc' := 33) rfl ?_
      refine T_getR (t' := 22) (i' := c) (k' := 0) zk_16_33 rfl rfl rfl (vd_1 hc) (pc' := 36) rfl ?_
      refine T_ld zk_16_36 rfl rfl rfl (pc' := 37) rfl ?_
      refine G_bald (lo := 0) (hi := 1) (ln := 40) zk_16_37 rfl rfl (vd_22 hc) (by omega) (by omega) (by omega) (fun σ' h => h.1.1) (fun _ h => h.2 (by omega) (by omega)) (pc' := 38) rfl (fun y24 hy24 hy24' => ?_)
      refine T_if_eq zk_16_38 (by omega) (pc' := 41) rfl (fun h25 => ?_) (fun h26 => ?_)
      ·
        refine T_ld zk_16_52 rfl rfl rfl (pc' := 53) rfl ?_
        refine T_getR (t' := 22) (i' := c) (k' := 0) zk_16_53 rfl rfl rfl (vd_1 hc) (pc' := 56) rfl ?_
        refine T_ld zk_16_56 rfl rfl rfl (pc' := 57) rfl ?_
        refine T_op zk_16_57 rfl X_ic (pc' := 58) rfl ?_
        refine G_bast (J' := (fun σ' => IF (MI c 5 20 22 26) σ σ' ∧ True)) (ln := 40) zk_16_58 rfl rfl (by omega) (vd_22 hc) (by omega) (by omega) (by omega) (fun σ' h => ⟨h.1.up (by simp only [rgP] <;> omega) (by unfold MI; omega), trivial⟩) (pc' := 59) rfl ?_
        refine T_ld zk_16_59 rfl rfl rfl (pc' := 60) rfl ?_
        refine T_ld zk_16_60 rfl rfl rfl (pc' := 61) rfl ?_
        refine T_putf (J' := (fun σ' => IF (MI c 5 20 22 26) σ σ' ∧ σ' 26 c k 0 = y1 ∧ True)) zk_16_61 rfl rfl (vd_26 hc (by omega)) (fun σ' h => ⟨h.1.up (by simp only [rgP] <;> omega) (by unfold MI; omega), up_eq, trivial⟩) (pc' := 64) rfl ?_
        refine T_ld zk_16_64 rfl rfl rfl (pc' := 65) rfl ?_
        refine T_op (st' := [av 26 c k, av 26 c k]) zk_16_65 rfl rfl (pc' := 66) rfl ?_
        refine G_getf (lo := -2147483648) (hi := 2147483647) zk_16_66 rfl (vd_26 hc (by omega)) (fun σ' h => h.1.1) (fun _ h => (by have q := h.1; omega)) (pc' := 69) rfl (fun y27 hy27 hy27' => ?_)
        refine T_op zk_16_69 rfl X_ic (pc' := 70) rfl ?_
        refine G_unk zk_16_70 rfl (pc' := 71) rfl (fun y28 hy28 hy28' => ?_)
        refine T_putf (J' := (fun σ' => IF (MI c 5 20 22 26) σ σ' ∧ σ' 26 c k 0 = y1 ∧ σ' 26 c k 9 = y28 ∧ True)) zk_16_71 rfl rfl (vd_26 hc (by omega)) (fun σ' h => ⟨h.1.up (by simp only [rgP] <;> omega) (by unfold MI; omega), (up_ne (by omega)).trans (h.2.1), up_eq, trivial⟩) (pc' := 74) rfl ?_
        refine T_ld zk_16_74 rfl rfl rfl (pc' := 75) rfl ?_
        refine T_op (st' := [av 26 c k, av 26 c k]) zk_16_75 rfl rfl (pc' := 76) rfl ?_
        refine G_getf (lo := -2147483648) (hi := 2147483647) zk_16_76 rfl (vd_26 hc (by omega)) (fun σ' h => h.1.1) (fun _ h => (by have q := h.1; omega)) (pc' := 79) rfl (fun y29 hy29 hy29' => ?_)
        refine T_ld zk_16_79 rfl rfl rfl (pc' := 80) rfl ?_
        refine T_getR (t' := 2) (i' := c) (k' := 0) zk_16_80 rfl rfl rfl (vd_1 hc) (pc' := 83) rfl ?_
        refine T_ld zk_16_83 rfl rfl rfl (pc' := 84) rfl ?_
        refine T_ld zk_16_84 rfl rfl rfl (pc' := 85) rfl ?_
        refine G_getf (lo := -2147483648) (hi := 2147483647) zk_16_85 rfl (vd_26 hc (by omega)) (fun σ' h => h.1.1) (fun _ h => (by have q := h.1; omega)) (pc' := 88) rfl (fun y30 hy30 hy30' => ?_)
        refine T_ld zk_16_88 rfl rfl rfl (pc' := 89) rfl ?_
        refine G_getf (lo := 1) (hi := 9) zk_16_89 rfl (vd_1 hc) (fun σ' h => h.1.1) (fun _ h => h.2.2.2.2.2.1 (by omega) (by omega)) (pc' := 92) rfl (fun y31 hy31 hy31' => ?_)
        refine T_min zk_16_92 rfl (by omega) (by omega) rfl (pc' := 95) rfl (fun y32 hy32 hy32' ey32 => ?_)
        refine T_calli (K := fun y33 σ' => (-2147483648 ≤ y33 ∧ y33 ≤ 2147483647) ∧ (fun σ' => IF (MI c 5 20 22 26) σ σ' ∧ σ' 26 c k 0 = y1 ∧ σ' 26 c k 9 = y28 ∧ True) σ') (r := [iv y29, av 26 c k]) zk_16_95 rfl rfl rfl rfl rfl rfl (Or.inr ⟨_, _, _, _, rfl, (vd_2 hc), rfl⟩) (fun σ' h => (w_37 c y1 y32 hc (by omega) (by omega) σ' h.1.1 ).le (Nat.le_of_ble_eq_true rfl) (fun v σ2 ⟨y, h1, h2, h3, h4⟩ => ⟨y, h1, h2, h.1.tr h3 (sb72_659ed53 c), (h3.2 _ _ _ _ (by first | exact nMI rfl | (unfold MI; omega))).trans (h.2.1), (h3.2 _ _ _ _ (by first | exact nMI rfl | (unfold MI; omega))).trans (h.2.2.1), trivial⟩)) (pc' := 98) rfl (fun y33 => ?_)
        refine G_ex (fun hy33 => ?_)
        refine G_unk zk_16_98 rfl (pc' := 99) rfl (fun y34 hy34 hy34' => ?_)
        refine T_putf (J' := (fun σ' => IF (MI c 5 20 22 26) σ σ' ∧ σ' 26 c k 0 = y1 ∧ σ' 26 c k 9 = y28 ∧ σ' 26 c k 8 = y34 ∧ True)) zk_16_99 rfl rfl (vd_26 hc (by omega)) (fun σ' h => ⟨h.1.up (by simp only [rgP] <;> omega) (by unfold MI; omega), (up_ne (by omega)).trans (h.2.1), (up_ne (by omega)).trans (h.2.2.1), up_eq, trivial⟩) (pc' := 102) rfl ?_
        refine T_ld zk_16_102 rfl rfl rfl (pc' := 103) rfl ?_
        refine T_ld zk_16_103 rfl rfl rfl (pc' := 104) rfl ?_
        refine G_getf (lo := -1) (hi := 24) zk_16_104 rfl (vd_26 hc (by omega)) (fun σ' h => h.1.1) (fun _ h => h.2.2 (by omega) (by omega)) (pc' := 107) rfl (fun y35 hy35 hy35' => ?_)
        refine T_icmp_ne zk_16_107 (by omega) (by omega) (pc' := 110) rfl (fun h36 => ?_) (fun h37 => ?_)
        ·
          exact T_vret zk_16_125 rfl (fun σ' h => ⟨rfl, h.1, trivial⟩)
        ·
          refine T_ld zk_16_110 rfl rfl rfl (pc' := 111) rfl ?_
          refine T_op zk_16_111 rfl X_ic (pc' := 112) rfl ?_
          refine T_putf (J' := (fun σ' => IF (MI c 5 20 22 26) σ σ' ∧ σ' 26 c k 0 = y1 ∧ σ' 26 c k 9 = y28 ∧ σ' 26 c k 8 = y34 ∧ σ' 26 c k 5 = (-1) ∧ True)) zk_16_112 rfl rfl (vd_26 hc (by omega)) (fun σ' h => ⟨h.1.up (by simp only [rgP] <;> omega) (by unfold MI; omega), (up_ne (by omega)).trans (h.2.1), (up_ne (by omega)).trans (h.2.2.1), (up_ne (by omega)).trans (h.2.2.2.1), up_eq, trivial⟩) (pc' := 115) rfl ?_
          refine T_ld zk_16_115 rfl rfl rfl (pc' := 116) rfl ?_
          refine T_op (st' := [av 26 c k, av 26 c k]) zk_16_116 rfl rfl (pc' := 117) rfl ?_
          refine G_getf (lo := -2147483648) (hi := 2147483647) zk_16_117 rfl (vd_26 hc (by omega)) (fun σ' h => h.1.1) (fun _ h => (by have q := h.1; omega)) (pc' := 120) rfl (fun y38 hy38 hy38' => ?_)
          refine T_op zk_16_120 rfl X_ic (pc' := 121) rfl ?_
          refine G_unk zk_16_121 rfl (pc' := 122) rfl (fun y39 hy39 hy39' => ?_)
          refine T_putf (J' := (fun σ' => IF (MI c 5 20 22 26) σ σ' ∧ σ' 26 c k 0 = y1 ∧ σ' 26 c k 9 = y28 ∧ σ' 26 c k 8 = y34 ∧ σ' 26 c k 5 = (-1) ∧ σ' 26 c k 7 = y39 ∧ True)) zk_16_122 rfl rfl (vd_26 hc (by omega)) (fun σ' h => ⟨h.1.up (by simp only [rgP] <;> omega) (by unfold MI; omega), (up_ne (by omega)).trans (h.2.1), (up_ne (by omega)).trans (h.2.2.1), (up_ne (by omega)).trans (h.2.2.2.1), (up_ne (by omega)).trans (h.2.2.2.2.1), up_eq, trivial⟩) (pc' := 125) rfl ?_
          exact T_vret zk_16_125 rfl (fun σ' h => ⟨rfl, h.1, trivial⟩)
      ·
        refine T_ld zk_16_41 rfl rfl rfl (pc' := 42) rfl ?_
        refine T_op (st' := [av 26 c k, av 26 c k]) zk_16_42 rfl rfl (pc' := 43) rfl ?_
        refine G_getf (lo := -2147483648) (hi := 2147483647) zk_16_43 rfl (vd_26 hc (by omega)) (fun σ' h => h.1.1) (fun _ h => (by have q := h.1; omega)) (pc' := 46) rfl (fun y40 hy40 hy40' => ?_)
        refine T_op zk_16_46 rfl X_ic (pc' := 47) rfl ?_
        refine G_unk zk_16_47 rfl (pc' := 48) rfl (fun y41 hy41 hy41' => ?_)
        refine T_putf (J' := (fun σ' => IF (MI c 5 20 22 26) σ σ' ∧ σ' 26 c k 6 = y41 ∧ True)) zk_16_48 rfl rfl (vd_26 hc (by omega)) (fun σ' h => ⟨h.1.up (by simp only [rgP] <;> omega) (by unfold MI; omega), up_eq, trivial⟩) (pc' := 51) rfl ?_
        exact T_vret zk_16_51 rfl (fun σ' h => ⟨rfl, h.1, trivial⟩)
/-- W$City.sailAll -/
theorem s_15 {xs : Nat × (Nat → Int32)} (c : Nat) (hc : c < 3) (σ : ZS) (hI : Inv σ)   : CT xs 6 15 [av 1 c 0] σ (fun v σ' => v = none ∧ IF (MI c 5 20 22 26) σ σ' ∧ (True)) := by
  refine G_ct (J := (fun σ' => IF (MI c 5 20 22 26) σ σ' ∧ True)) (L := [(0, av 1 c 0)]) (nL := 3) rfl rfl rfl ⟨IF.rf hI, trivial⟩ ?_
  refine T_op zk_15_0 rfl X_ic (pc' := 1) rfl ?_
  refine T_st (L' := [(0, av 1 c 0), (1, iv 0)]) zk_15_1 (nL := 3) rfl rfl rfl rfl rfl (pc' := 2) rfl ?_
  refine T_loop1 (fun x1 => ((40 - x1 : Int)).toNat) (fun x1 => (0 ≤ x1 ∧ x1 ≤ 40)) (fun x1 => TJ xs (fun σ' => IF (MI c 5 20 22 26) σ σ' ∧ True) 5 15 2 [(0, av 1 c 0), (1, iv x1)] [] _) ?_ 0 (by omega)
  intro x1 hp3 ih2
  refine T_ld zk_15_2 rfl rfl rfl (pc' := 3) rfl ?_
  refine T_op zk_15_3 rfl (X_bi (v := 40) (by decide)) (pc' := 5) rfl ?_
  refine T_icmp_ge zk_15_5 (by omega) (by omega) (pc' := 8) rfl (fun h4 => ?_) (fun h5 => ?_)
  ·
    refine T_op zk_15_21 rfl (X_bi (v := 9) (by decide)) (pc' := 23) rfl ?_
    refine T_st (L' := [(0, av 1 c 0), (1, iv 9)]) zk_15_23 (nL := 3) rfl rfl rfl rfl rfl (pc' := 24) rfl ?_
    refine T_loop1 (fun x6 => ((x6 + 1 : Int)).toNat) (fun x6 => (-1 ≤ x6 ∧ x6 ≤ 9)) (fun x6 => TJ xs (fun σ' => IF (MI c 5 20 22 26) σ σ' ∧ True) 5 15 24 [(0, av 1 c 0), (1, iv x6)] [] _) ?_ 9 (by omega)
    intro x6 hp8 ih7
    refine T_ld zk_15_24 rfl rfl rfl (pc' := 25) rfl ?_
    refine T_if_lt zk_15_25 (by omega) (pc' := 28) rfl (fun h9 => ?_) (fun h10 => ?_)
    ·
      exact T_vret zk_15_86 rfl (fun σ' h => ⟨rfl, h.1, trivial⟩)
    ·
      refine T_op zk_15_28 rfl X_ic (pc' := 29) rfl ?_
      refine T_st (L' := [(0, av 1 c 0), (1, iv x6), (2, iv 0)]) zk_15_29 (nL := 3) rfl rfl rfl rfl rfl (pc' := 30) rfl ?_
      refine T_loop1 (fun x11 => ((6 - x11 : Int)).toNat) (fun x11 => (0 ≤ x11 ∧ x11 ≤ 6)) (fun x11 => TJ xs (fun σ' => IF (MI c 5 20 22 26) σ σ' ∧ True) 5 15 30 [(0, av 1 c 0), (1, iv x6), (2, iv x11)] [] _) ?_ 0 (by omega)
      intro x11 hp13 ih12
      refine T_ld zk_15_30 rfl rfl rfl (pc' := 31) rfl ?_
      refine T_ld zk_15_31 rfl rfl rfl (pc' := 32) rfl ?_
      refine G_getf (lo := 0) (hi := 6) zk_15_32 rfl (vd_1 hc) (fun σ' h => h.1.1) (fun _ h => h.2.2.2.1 (by omega) (by omega)) (pc' := 35) rfl (fun y14 hy14 hy14' => ?_)
      refine T_icmp_ge zk_15_35 (by omega) (by omega) (pc' := 38) rfl (fun h15 => ?_) (fun h16 => ?_)
      ·
        refine T_iinc (L' := [(0, av 1 c 0), (1, iv (x6 + (-1))), (2, iv x11)]) zk_15_80 (nL := 3) rfl rfl rfl rfl (pc' := 83) rfl ?_
        refine T_goto zk_15_83 ?_
        refine T_loc (L := [(0, av 1 c 0), (1, iv (x6 + (-1)))]) (E := [(2, iv x11)]) rfl ?_
        exact ih7 (x6 + (-1)) (by omega) (by omega)
      ·
        refine T_ld zk_15_38 rfl rfl rfl (pc' := 39) rfl ?_
        refine T_getR (t' := 16) (i' := c) (k' := 0) zk_15_39 rfl rfl rfl (vd_1 hc) (pc' := 42) rfl ?_
        refine T_ld zk_15_42 rfl rfl rfl (pc' := 43) rfl ?_
        refine G_aald (t' := 26) (im := 9) (i' := c) (ln := 6) zk_15_43 rfl rfl rfl (vd_16 hc) (by omega) (by omega) (by omega) (pc' := 44) rfl ?_
        refine G_getf (lo := -2147483648) (hi := 2147483647) zk_15_44 rfl (vd_26 hc (by omega)) (fun σ' h => h.1.1) (fun _ h => (by have q := h.1; omega)) (pc' := 47) rfl (fun y17 hy17 hy17' => ?_)
        refine T_ld zk_15_47 rfl rfl rfl (pc' := 48) rfl ?_
        refine T_icmp_ne zk_15_48 (by omega) (by omega) (pc' := 51) rfl (fun h18 => ?_) (fun h19 => ?_)
        ·
          refine T_iinc (L' := [(0, av 1 c 0), (1, iv x6), (2, iv (x11 + 1))]) zk_15_74 (nL := 3) rfl rfl rfl rfl (pc' := 77) rfl ?_
          refine T_goto zk_15_77 ?_
          exact ih12 (x11 + 1) (by omega) (by omega)
        ·
          refine T_ld zk_15_51 rfl rfl rfl (pc' := 52) rfl ?_
          refine T_getR (t' := 16) (i' := c) (k' := 0) zk_15_52 rfl rfl rfl (vd_1 hc) (pc' := 55) rfl ?_
          refine T_ld zk_15_55 rfl rfl rfl (pc' := 56) rfl ?_
          refine G_aald (t' := 26) (im := 9) (i' := c) (ln := 6) zk_15_56 rfl rfl rfl (vd_16 hc) (by omega) (by omega) (by omega) (pc' := 57) rfl ?_
          refine G_getf (lo := -1) (hi := 24) zk_15_57 rfl (vd_26 hc (by omega)) (fun σ' h => h.1.1) (fun _ h => h.2.2 (by omega) (by omega)) (pc' := 60) rfl (fun y20 hy20 hy20' => ?_)
          refine T_op zk_15_60 rfl X_ic (pc' := 61) rfl ?_
          refine T_icmp_eq zk_15_61 (by omega) (by omega) (pc' := 64) rfl (fun h21 => ?_) (fun h22 => ?_)
          ·
            refine T_iinc (L' := [(0, av 1 c 0), (1, iv x6), (2, iv (x11 + 1))]) zk_15_74 (nL := 3) rfl rfl rfl rfl (pc' := 77) rfl ?_
            refine T_goto zk_15_77 ?_
            exact ih12 (x11 + 1) (by omega) (by omega)
          ·
            refine T_ld zk_15_64 rfl rfl rfl (pc' := 65) rfl ?_
            refine T_ld zk_15_65 rfl rfl rfl (pc' := 66) rfl ?_
            refine T_getR (t' := 16) (i' := c) (k' := 0) zk_15_66 rfl rfl rfl (vd_1 hc) (pc' := 69) rfl ?_
            refine T_ld zk_15_69 rfl rfl rfl (pc' := 70) rfl ?_
            refine G_aald (t' := 26) (im := 9) (i' := c) (ln := 6) zk_15_70 rfl rfl rfl (vd_16 hc) (by omega) (by omega) (by omega) (pc' := 71) rfl ?_
            refine T_callv (J' := (fun σ' => IF (MI c 5 20 22 26) σ σ' ∧ True)) (r := []) zk_15_71 rfl rfl rfl rfl rfl rfl (Or.inr ⟨_, _, _, _, rfl, (vd_1 hc), rfl⟩) (fun σ' h => (s_16 c (Int.toNat x11) hc (by omega) σ' h.1.1 ).le (Nat.le_of_ble_eq_true rfl) (fun v σ2 ⟨h1, h3, h4⟩ => ⟨h1, h.1.tr h3 (fun _ _ _ _ h => h), trivial⟩)) (pc' := 74) rfl ?_
            refine T_iinc (L' := [(0, av 1 c 0), (1, iv x6), (2, iv (x11 + 1))]) zk_15_74 (nL := 3) rfl rfl rfl rfl (pc' := 77) rfl ?_
            refine T_goto zk_15_77 ?_
            exact ih12 (x11 + 1) (by omega) (by omega)
  ·
    refine T_ld zk_15_8 rfl rfl rfl (pc' := 9) rfl ?_
    refine T_getR (t' := 22) (i' := c) (k' := 0) zk_15_9 rfl rfl rfl (vd_1 hc) (pc' := 12) rfl ?_
    refine T_ld zk_15_12 rfl rfl rfl (pc' := 13) rfl ?_
    refine T_op zk_15_13 rfl X_ic (pc' := 14) rfl ?_
    refine G_bast (J' := (fun σ' => IF (MI c 5 20 22 26) σ σ' ∧ True)) (ln := 40) zk_15_14 rfl rfl (by omega) (vd_22 hc) (by omega) (by omega) (by omega) (fun σ' h => ⟨h.1.up (by simp only [rgP] <;> omega) (by unfold MI; omega), trivial⟩) (pc' := 15) rfl ?_
    refine T_iinc (L' := [(0, av 1 c 0), (1, iv (x1 + 1))]) zk_15_15 (nL := 3) rfl rfl rfl rfl (pc' := 18) rfl ?_
    refine T_goto zk_15_18 ?_
    exact ih2 (x1 + 1) (by omega) (by omega)
theorem sb72_5007d32 (v0 : Nat) : ∀ t i k j, MI v0 5 20 22 26 t i k j → ML v0 t i k j := by
  intro t i k j h
  unfold MI at h
  unfold ML
  omega
/-- W$City.livePeople -/
theorem s_13 {xs : Nat × (Nat → Int32)} (c : Nat) (n : Int) (hc : c < 3) (hn : 0 ≤ n ∧ n ≤ 29999) (σ : ZS) (hI : Inv σ)  (s1 : σ 1 c 0 13 = n) : CT xs 7 13 [av 1 c 0] σ (fun v σ' => v = none ∧ IF (ML c) σ σ' ∧ (σ' 1 c 0 13 = n + 1 ∧ True)) := by
  refine G_ct (J := (fun σ' => IF (ML c) σ σ' ∧ σ' 1 c 0 13 = n ∧ True)) (L := [(0, av 1 c 0)]) (nL := 3) rfl rfl rfl ⟨IF.rf hI, s1, trivial⟩ ?_
  refine T_ld zk_13_0 rfl rfl rfl (pc' := 1) rfl ?_
  refine T_callv (J' := (fun σ' => IF (ML c) σ σ' ∧ σ' 1 c 0 13 = n ∧ True)) (r := []) zk_13_1 rfl rfl rfl rfl rfl rfl (Or.inr ⟨_, _, _, _, rfl, (vd_1 hc), rfl⟩) (fun σ' h => (s_15 c hc σ' h.1.1 ).le (Nat.le_of_ble_eq_true rfl) (fun v σ2 ⟨h1, h3, h4⟩ => ⟨h1, h.1.tr h3 (sb72_5007d32 c), (h3.2 _ _ _ _ (by first | exact nMI rfl | (unfold MI; omega))).trans (h.2.1), trivial⟩)) (pc' := 4) rfl ?_
  refine T_op zk_13_4 rfl X_ic (pc' := 5) rfl ?_
  refine T_st (L' := [(0, av 1 c 0), (1, iv 0)]) zk_13_5 (nL := 3) rfl rfl rfl rfl rfl (pc' := 6) rfl ?_
  refine T_op zk_13_6 rfl X_ic (pc' := 7) rfl ?_
  refine T_st (L' := [(0, av 1 c 0), (1, iv 0), (2, iv 0)]) zk_13_7 (nL := 3) rfl rfl rfl rfl rfl (pc' := 8) rfl ?_
  refine T_loop2 (fun x2 x3 => ((12 - x3 : Int)).toNat) (fun x2 x3 => (0 ≤ x2 ∧ x2 ≤ 1) ∧ (0 ≤ x3 ∧ x3 ≤ 12)) (fun x2 x3 => TJ xs (fun σ' => IF (ML c) σ σ' ∧ σ' 1 c 0 13 = n ∧ True) 6 13 8 [(0, av 1 c 0), (1, iv x2), (2, iv x3)] [] _) ?_ 0 0 (by omega)
  intro x2 x3 hp5 ih4
  refine T_ld zk_13_8 rfl rfl rfl (pc' := 9) rfl ?_
  refine T_ld zk_13_9 rfl rfl rfl (pc' := 10) rfl ?_
  refine G_getf (lo := 0) (hi := 12) zk_13_10 rfl (vd_1 hc) (fun σ' h => h.1.1) (fun _ h => h.2.2.1 (by omega) (by omega)) (pc' := 13) rfl (fun y6 hy6 hy6' => ?_)
  refine T_icmp_ge zk_13_13 (by omega) (by omega) (pc' := 16) rfl (fun h7 => ?_) (fun h8 => ?_)
  ·
    refine T_ld zk_13_70 rfl rfl rfl (pc' := 71) rfl ?_
    refine T_if_eq zk_13_71 (by omega) (pc' := 74) rfl (fun h9 => ?_) (fun h10 => ?_)
    ·
      refine T_ld zk_13_94 rfl rfl rfl (pc' := 95) rfl ?_
      refine T_op (st' := [av 1 c 0, av 1 c 0]) zk_13_95 rfl rfl (pc' := 96) rfl ?_
      refine G_getX (w := n) zk_13_96 rfl (vd_1 hc) (fun σ' h => h.2.1) (pc' := 99) rfl ?_
      refine T_op zk_13_99 rfl X_ic (pc' := 100) rfl ?_
      refine T_op zk_13_100 rfl X_add (pc' := 101) rfl ?_
      refine T_putf (J' := (fun σ' => IF (ML c) σ σ' ∧ σ' 1 c 0 13 = n + 1 ∧ True)) zk_13_101 rfl rfl (vd_1 hc) (fun σ' h => ⟨h.1.up (by simp only [rgP] <;> omega) (by unfold ML; omega), up_eq, trivial⟩) (pc' := 104) rfl ?_
      refine T_ld zk_13_104 rfl rfl rfl (pc' := 105) rfl ?_
      refine G_getX (w := n + 1) zk_13_105 rfl (vd_1 hc) (fun σ' h => h.2.1) (pc' := 108) rfl ?_
      refine T_op zk_13_108 rfl (X_bi (v := 96) (by decide)) (pc' := 110) rfl ?_
      refine T_op zk_13_110 rfl (X_rem (by omega) (by omega)) (pc' := 111) rfl ?_
      refine T_if_ne zk_13_111 (by omega) (pc' := 114) rfl (fun h11 => ?_) (fun h12 => ?_)
      ·
        exact T_vret zk_13_157 rfl (fun σ' h => ⟨rfl, h.1, ⟨h.2.1, trivial⟩⟩)
      ·
        refine T_ld zk_13_114 rfl rfl rfl (pc' := 115) rfl ?_
        refine T_getR (t' := 2) (i' := c) (k' := 0) zk_13_115 rfl rfl rfl (vd_1 hc) (pc' := 118) rfl ?_
        refine T_ld zk_13_118 rfl rfl rfl (pc' := 119) rfl ?_
        refine G_getf (lo := 0) (hi := 9999) zk_13_119 rfl (vd_1 hc) (fun σ' h => h.1.1) (fun _ h => h.2.2.2.2.2.2 (by omega) (by omega)) (pc' := 122) rfl (fun y13 hy13 hy13' => ?_)
        refine T_callv (J' := (fun σ' => IF (ML c) σ σ' ∧ σ' 1 c 0 13 = n + 1 ∧ True)) (r := []) zk_13_122 rfl rfl rfl rfl rfl rfl (Or.inr ⟨_, _, _, _, rfl, (vd_2 hc), rfl⟩) (fun σ' h => (w_38 c y13 hc (by omega) σ' h.1.1 ).le (Nat.le_of_ble_eq_true rfl) (fun v σ2 ⟨h1, h3, h4⟩ => ⟨h1, h.1.tr h3 (sb51_7d5ee1e c), (h3.2 _ _ _ _ (by first | exact nMI rfl | (unfold MI; omega))).trans (h.2.1), trivial⟩)) (pc' := 125) rfl ?_
        refine T_op zk_13_125 rfl X_ic (pc' := 126) rfl ?_
        refine T_st (L' := [(0, av 1 c 0), (1, iv x2), (2, iv 0)]) zk_13_126 (nL := 3) rfl rfl rfl rfl rfl (pc' := 127) rfl ?_
        refine T_loop1 (fun x15 => ((12 - x15 : Int)).toNat) (fun x15 => (0 ≤ x15 ∧ x15 ≤ 12)) (fun x15 => TJ xs (fun σ' => IF (ML c) σ σ' ∧ σ' 1 c 0 13 = n + 1 ∧ True) 6 13 127 [(0, av 1 c 0), (1, iv x2), (2, iv x15)] [] _) ?_ 0 (by omega)
        intro x15 hp17 ih16
        refine T_ld zk_13_127 rfl rfl rfl (pc' := 128) rfl ?_
        refine T_ld zk_13_128 rfl rfl rfl (pc' := 129) rfl ?_
        refine G_getf (lo := 0) (hi := 12) zk_13_129 rfl (vd_1 hc) (fun σ' h => h.1.1) (fun _ h => h.2.2.1 (by omega) (by omega)) (pc' := 132) rfl (fun y18 hy18 hy18' => ?_)
        refine T_icmp_ge zk_13_132 (by omega) (by omega) (pc' := 135) rfl (fun h19 => ?_) (fun h20 => ?_)
        ·
          exact T_vret zk_13_157 rfl (fun σ' h => ⟨rfl, h.1, ⟨h.2.1, trivial⟩⟩)
        ·
          refine T_ld zk_13_135 rfl rfl rfl (pc' := 136) rfl ?_
          refine T_getR (t' := 15) (i' := c) (k' := 0) zk_13_136 rfl rfl rfl (vd_1 hc) (pc' := 139) rfl ?_
          refine T_ld zk_13_139 rfl rfl rfl (pc' := 140) rfl ?_
          refine G_aald (t' := 25) (im := 9) (i' := c) (ln := 12) zk_13_140 rfl rfl rfl (vd_15 hc) (by omega) (by omega) (by omega) (pc' := 141) rfl ?_
          refine T_ld zk_13_141 rfl rfl rfl (pc' := 142) rfl ?_
          refine G_getX (w := n + 1) zk_13_142 rfl (vd_1 hc) (fun σ' h => h.2.1) (pc' := 145) rfl ?_
          refine T_op zk_13_145 rfl (X_bi (v := 96) (by decide)) (pc' := 147) rfl ?_
          refine T_op zk_13_147 rfl (X_div (by omega) (by omega)) (pc' := 148) rfl ?_
          refine T_callv (J' := (fun σ' => IF (ML c) σ σ' ∧ σ' 1 c 0 13 = n + 1 ∧ True)) (r := []) zk_13_148 rfl rfl rfl rfl rfl rfl (Or.inr ⟨_, _, _, _, rfl, (vd_25 hc (by omega)), rfl⟩) (fun σ' h => (w_26 c (Int.toNat x15) ((n + 1) / 96) hc (by omega) (by omega) σ' h.1.1 ).le (Nat.le_of_ble_eq_true rfl) (fun v σ2 ⟨h1, h3, h4⟩ => ⟨h1, h.1.tr h3 (sb51_384f93d c), (h3.2 _ _ _ _ (by first | exact nMI rfl | (unfold MI; omega))).trans (h.2.1), trivial⟩)) (pc' := 151) rfl ?_
          refine T_iinc (L' := [(0, av 1 c 0), (1, iv x2), (2, iv (x15 + 1))]) zk_13_151 (nL := 3) rfl rfl rfl rfl (pc' := 154) rfl ?_
          refine T_goto zk_13_154 ?_
          exact ih16 (x15 + 1) (by omega) (by omega)
    ·
      refine T_ld zk_13_74 rfl rfl rfl (pc' := 75) rfl ?_
      refine T_getR (t' := 11) (i' := c) (k' := 0) zk_13_75 rfl rfl rfl (vd_1 hc) (pc' := 78) rfl ?_
      refine T_calli (K := fun y22 σ' => (0 ≤ y22 ∧ y22 ≤ 3) ∧ (fun σ' => IF (ML c) σ σ' ∧ σ' 1 c 0 13 = n ∧ True) σ') (r := []) zk_13_78 rfl rfl rfl rfl rfl rfl (Or.inr ⟨_, _, _, _, rfl, (vd_11 hc), rfl⟩) (fun σ' h => (w_63 c hc σ' h.1.1 ).le (Nat.le_of_ble_eq_true rfl) (fun v σ2 ⟨y, h1, h2, h3, h4⟩ => ⟨y, h1, h2, h.1.tr h3 MN_sub, (h3.2 _ _ _ _ (fun q => q)).trans (h.2.1), trivial⟩)) (pc' := 81) rfl (fun y22 => ?_)
      refine G_ex (fun hy22 => ?_)
      refine T_if_ne zk_13_81 (by omega) (pc' := 84) rfl (fun h23 => ?_) (fun h24 => ?_)
      ·
        refine T_ld zk_13_94 rfl rfl rfl (pc' := 95) rfl ?_
        refine T_op (st' := [av 1 c 0, av 1 c 0]) zk_13_95 rfl rfl (pc' := 96) rfl ?_
        refine G_getX (w := n) zk_13_96 rfl (vd_1 hc) (fun σ' h => h.2.1) (pc' := 99) rfl ?_
        refine T_op zk_13_99 rfl X_ic (pc' := 100) rfl ?_
        refine T_op zk_13_100 rfl X_add (pc' := 101) rfl ?_
        refine T_putf (J' := (fun σ' => IF (ML c) σ σ' ∧ σ' 1 c 0 13 = n + 1 ∧ True)) zk_13_101 rfl rfl (vd_1 hc) (fun σ' h => ⟨h.1.up (by simp only [rgP] <;> omega) (by unfold ML; omega), up_eq, trivial⟩) (pc' := 104) rfl ?_
        refine T_ld zk_13_104 rfl rfl rfl (pc' := 105) rfl ?_
        refine G_getX (w := n + 1) zk_13_105 rfl (vd_1 hc) (fun σ' h => h.2.1) (pc' := 108) rfl ?_
        refine T_op zk_13_108 rfl (X_bi (v := 96) (by decide)) (pc' := 110) rfl ?_
        refine T_op zk_13_110 rfl (X_rem (by omega) (by omega)) (pc' := 111) rfl ?_
        refine T_if_ne zk_13_111 (by omega) (pc' := 114) rfl (fun h25 => ?_) (fun h26 => ?_)
        ·
          exact T_vret zk_13_157 rfl (fun σ' h => ⟨rfl, h.1, ⟨h.2.1, trivial⟩⟩)
        ·
          refine T_ld zk_13_114 rfl rfl rfl (pc' := 115) rfl ?_
          refine T_getR (t' := 2) (i' := c) (k' := 0) zk_13_115 rfl rfl rfl (vd_1 hc) (pc' := 118) rfl ?_
          refine T_ld zk_13_118 rfl rfl rfl (pc' := 119) rfl ?_
          refine G_getf (lo := 0) (hi := 9999) zk_13_119 rfl (vd_1 hc) (fun σ' h => h.1.1) (fun _ h => h.2.2.2.2.2.2 (by omega) (by omega)) (pc' := 122) rfl (fun y27 hy27 hy27' => ?_)
          refine T_callv (J' := (fun σ' => IF (ML c) σ σ' ∧ σ' 1 c 0 13 = n + 1 ∧ True)) (r := []) zk_13_122 rfl rfl rfl rfl rfl rfl (Or.inr ⟨_, _, _, _, rfl, (vd_2 hc), rfl⟩) (fun σ' h => (w_38 c y27 hc (by omega) σ' h.1.1 ).le (Nat.le_of_ble_eq_true rfl) (fun v σ2 ⟨h1, h3, h4⟩ => ⟨h1, h.1.tr h3 (sb51_7d5ee1e c), (h3.2 _ _ _ _ (by first | exact nMI rfl | (unfold MI; omega))).trans (h.2.1), trivial⟩)) (pc' := 125) rfl ?_
          refine T_op zk_13_125 rfl X_ic (pc' := 126) rfl ?_
          refine T_st (L' := [(0, av 1 c 0), (1, iv x2), (2, iv 0)]) zk_13_126 (nL := 3) rfl rfl rfl rfl rfl (pc' := 127) rfl ?_
          refine T_loop1 (fun x29 => ((12 - x29 : Int)).toNat) (fun x29 => (0 ≤ x29 ∧ x29 ≤ 12)) (fun x29 => TJ xs (fun σ' => IF (ML c) σ σ' ∧ σ' 1 c 0 13 = n + 1 ∧ True) 6 13 127 [(0, av 1 c 0), (1, iv x2), (2, iv x29)] [] _) ?_ 0 (by omega)
          intro x29 hp31 ih30
          refine T_ld zk_13_127 rfl rfl rfl (pc' := 128) rfl ?_
          refine T_ld zk_13_128 rfl rfl rfl (pc' := 129) rfl ?_
          refine G_getf (lo := 0) (hi := 12) zk_13_129 rfl (vd_1 hc) (fun σ' h => h.1.1) (fun _ h => h.2.2.1 (by omega) (by omega)) (pc' := 132) rfl (fun y32 hy32 hy32' => ?_)
          refine T_icmp_ge zk_13_132 (by omega) (by omega) (pc' := 135) rfl (fun h33 => ?_) (fun h34 => ?_)
          ·
            exact T_vret zk_13_157 rfl (fun σ' h => ⟨rfl, h.1, ⟨h.2.1, trivial⟩⟩)
          ·
            refine T_ld zk_13_135 rfl rfl rfl (pc' := 136) rfl ?_
            refine T_getR (t' := 15) (i' := c) (k' := 0) zk_13_136 rfl rfl rfl (vd_1 hc) (pc' := 139) rfl ?_
            refine T_ld zk_13_139 rfl rfl rfl (pc' := 140) rfl ?_
            refine G_aald (t' := 25) (im := 9) (i' := c) (ln := 12) zk_13_140 rfl rfl rfl (vd_15 hc) (by omega) (by omega) (by omega) (pc' := 141) rfl ?_
            refine T_ld zk_13_141 rfl rfl rfl (pc' := 142) rfl ?_
            refine G_getX (w := n + 1) zk_13_142 rfl (vd_1 hc) (fun σ' h => h.2.1) (pc' := 145) rfl ?_
            refine T_op zk_13_145 rfl (X_bi (v := 96) (by decide)) (pc' := 147) rfl ?_
            refine T_op zk_13_147 rfl (X_div (by omega) (by omega)) (pc' := 148) rfl ?_
            refine T_callv (J' := (fun σ' => IF (ML c) σ σ' ∧ σ' 1 c 0 13 = n + 1 ∧ True)) (r := []) zk_13_148 rfl rfl rfl rfl rfl rfl (Or.inr ⟨_, _, _, _, rfl, (vd_25 hc (by omega)), rfl⟩) (fun σ' h => (w_26 c (Int.toNat x29) ((n + 1) / 96) hc (by omega) (by omega) σ' h.1.1 ).le (Nat.le_of_ble_eq_true rfl) (fun v σ2 ⟨h1, h3, h4⟩ => ⟨h1, h.1.tr h3 (sb51_384f93d c), (h3.2 _ _ _ _ (by first | exact nMI rfl | (unfold MI; omega))).trans (h.2.1), trivial⟩)) (pc' := 151) rfl ?_
            refine T_iinc (L' := [(0, av 1 c 0), (1, iv x2), (2, iv (x29 + 1))]) zk_13_151 (nL := 3) rfl rfl rfl rfl (pc' := 154) rfl ?_
            refine T_goto zk_13_154 ?_
            exact ih30 (x29 + 1) (by omega) (by omega)
      ·
        refine T_ld zk_13_84 rfl rfl rfl (pc' := 85) rfl ?_
        refine T_op (st' := [av 1 c 0, av 1 c 0]) zk_13_85 rfl rfl (pc' := 86) rfl ?_
        refine G_getf (lo := -2147483648) (hi := 2147483647) zk_13_86 rfl (vd_1 hc) (fun σ' h => h.1.1) (fun _ h => (by have q := h.1; omega)) (pc' := 89) rfl (fun y36 hy36 hy36' => ?_)
        refine T_op zk_13_89 rfl X_ic (pc' := 90) rfl ?_
        refine G_unk zk_13_90 rfl (pc' := 91) rfl (fun y37 hy37 hy37' => ?_)
        refine T_putf (J' := (fun σ' => IF (ML c) σ σ' ∧ σ' 1 c 0 13 = n ∧ σ' 1 c 0 14 = y37 ∧ True)) zk_13_91 rfl rfl (vd_1 hc) (fun σ' h => ⟨h.1.up (by simp only [rgP] <;> omega) (by unfold ML; omega), (up_ne (by omega)).trans (h.2.1), up_eq, trivial⟩) (pc' := 94) rfl ?_
        refine T_ld zk_13_94 rfl rfl rfl (pc' := 95) rfl ?_
        refine T_op (st' := [av 1 c 0, av 1 c 0]) zk_13_95 rfl rfl (pc' := 96) rfl ?_
        refine G_getX (w := n) zk_13_96 rfl (vd_1 hc) (fun σ' h => h.2.1) (pc' := 99) rfl ?_
        refine T_op zk_13_99 rfl X_ic (pc' := 100) rfl ?_
        refine T_op zk_13_100 rfl X_add (pc' := 101) rfl ?_
        refine T_putf (J' := (fun σ' => IF (ML c) σ σ' ∧ σ' 1 c 0 14 = y37 ∧ σ' 1 c 0 13 = n + 1 ∧ True)) zk_13_101 rfl rfl (vd_1 hc) (fun σ' h => ⟨h.1.up (by simp only [rgP] <;> omega) (by unfold ML; omega), (up_ne (by omega)).trans (h.2.2.1), up_eq, trivial⟩) (pc' := 104) rfl ?_
        refine T_ld zk_13_104 rfl rfl rfl (pc' := 105) rfl ?_
        refine G_getX (w := n + 1) zk_13_105 rfl (vd_1 hc) (fun σ' h => h.2.2.1) (pc' := 108) rfl ?_
        refine T_op zk_13_108 rfl (X_bi (v := 96) (by decide)) (pc' := 110) rfl ?_
        refine T_op zk_13_110 rfl (X_rem (by omega) (by omega)) (pc' := 111) rfl ?_
        refine T_if_ne zk_13_111 (by omega) (pc' := 114) rfl (fun h38 => ?_) (fun h39 => ?_)
        ·
          exact T_vret zk_13_157 rfl (fun σ' h => ⟨rfl, h.1, ⟨h.2.2.1, trivial⟩⟩)
        ·
          refine T_ld zk_13_114 rfl rfl rfl (pc' := 115) rfl ?_
          refine T_getR (t' := 2) (i' := c) (k' := 0) zk_13_115 rfl rfl rfl (vd_1 hc) (pc' := 118) rfl ?_
          refine T_ld zk_13_118 rfl rfl rfl (pc' := 119) rfl ?_
          refine G_getf (lo := 0) (hi := 9999) zk_13_119 rfl (vd_1 hc) (fun σ' h => h.1.1) (fun _ h => h.2.2.2.2.2.2 (by omega) (by omega)) (pc' := 122) rfl (fun y40 hy40 hy40' => ?_)
          refine T_callv (J' := (fun σ' => IF (ML c) σ σ' ∧ σ' 1 c 0 14 = y37 ∧ σ' 1 c 0 13 = n + 1 ∧ True)) (r := []) zk_13_122 rfl rfl rfl rfl rfl rfl (Or.inr ⟨_, _, _, _, rfl, (vd_2 hc), rfl⟩) (fun σ' h => (w_38 c y40 hc (by omega) σ' h.1.1 ).le (Nat.le_of_ble_eq_true rfl) (fun v σ2 ⟨h1, h3, h4⟩ => ⟨h1, h.1.tr h3 (sb51_7d5ee1e c), (h3.2 _ _ _ _ (by first | exact nMI rfl | (unfold MI; omega))).trans (h.2.1), (h3.2 _ _ _ _ (by first | exact nMI rfl | (unfold MI; omega))).trans (h.2.2.1), trivial⟩)) (pc' := 125) rfl ?_
          refine T_op zk_13_125 rfl X_ic (pc' := 126) rfl ?_
          refine T_st (L' := [(0, av 1 c 0), (1, iv x2), (2, iv 0)]) zk_13_126 (nL := 3) rfl rfl rfl rfl rfl (pc' := 127) rfl ?_
          refine G_know (J' := (fun σ' => IF (ML c) σ σ' ∧ σ' 1 c 0 13 = n + 1 ∧ True)) (fun σ' h => ⟨h.1, h.2.2.1, trivial⟩) ?_
          refine T_loop1 (fun x42 => ((12 - x42 : Int)).toNat) (fun x42 => (0 ≤ x42 ∧ x42 ≤ 12)) (fun x42 => TJ xs (fun σ' => IF (ML c) σ σ' ∧ σ' 1 c 0 13 = n + 1 ∧ True) 6 13 127 [(0, av 1 c 0), (1, iv x2), (2, iv x42)] [] _) ?_ 0 (by omega)
          intro x42 hp44 ih43
          refine T_ld zk_13_127 rfl rfl rfl (pc' := 128) rfl ?_
          refine T_ld zk_13_128 rfl rfl rfl (pc' := 129) rfl ?_
          refine G_getf (lo := 0) (hi := 12) zk_13_129 rfl (vd_1 hc) (fun σ' h => h.1.1) (fun _ h => h.2.2.1 (by omega) (by omega)) (pc' := 132) rfl (fun y45 hy45 hy45' => ?_)
          refine T_icmp_ge zk_13_132 (by omega) (by omega) (pc' := 135) rfl (fun h46 => ?_) (fun h47 => ?_)
          ·
            exact T_vret zk_13_157 rfl (fun σ' h => ⟨rfl, h.1, ⟨h.2.1, trivial⟩⟩)
          ·
            refine T_ld zk_13_135 rfl rfl rfl (pc' := 136) rfl ?_
            refine T_getR (t' := 15) (i' := c) (k' := 0) zk_13_136 rfl rfl rfl (vd_1 hc) (pc' := 139) rfl ?_
            refine T_ld zk_13_139 rfl rfl rfl (pc' := 140) rfl ?_
            refine G_aald (t' := 25) (im := 9) (i' := c) (ln := 12) zk_13_140 rfl rfl rfl (vd_15 hc) (by omega) (by omega) (by omega) (pc' := 141) rfl ?_
            refine T_ld zk_13_141 rfl rfl rfl (pc' := 142) rfl ?_
            refine G_getX (w := n + 1) zk_13_142 rfl (vd_1 hc) (fun σ' h => h.2.1) (pc' := 145) rfl ?_
            refine T_op zk_13_145 rfl (X_bi (v := 96) (by decide)) (pc' := 147) rfl ?_
            refine T_op zk_13_147 rfl (X_div (by omega) (by omega)) (pc' := 148) rfl ?_
            refine T_callv (J' := (fun σ' => IF (ML c) σ σ' ∧ σ' 1 c 0 13 = n + 1 ∧ True)) (r := []) zk_13_148 rfl rfl rfl rfl rfl rfl (Or.inr ⟨_, _, _, _, rfl, (vd_25 hc (by omega)), rfl⟩) (fun σ' h => (w_26 c (Int.toNat x42) ((n + 1) / 96) hc (by omega) (by omega) σ' h.1.1 ).le (Nat.le_of_ble_eq_true rfl) (fun v σ2 ⟨h1, h3, h4⟩ => ⟨h1, h.1.tr h3 (sb51_384f93d c), (h3.2 _ _ _ _ (by first | exact nMI rfl | (unfold MI; omega))).trans (h.2.1), trivial⟩)) (pc' := 151) rfl ?_
            refine T_iinc (L' := [(0, av 1 c 0), (1, iv x2), (2, iv (x42 + 1))]) zk_13_151 (nL := 3) rfl rfl rfl rfl (pc' := 154) rfl ?_
            refine T_goto zk_13_154 ?_
            exact ih43 (x42 + 1) (by omega) (by omega)
  ·
    refine T_ld zk_13_16 rfl rfl rfl (pc' := 17) rfl ?_
    refine T_getR (t' := 15) (i' := c) (k' := 0) zk_13_17 rfl rfl rfl (vd_1 hc) (pc' := 20) rfl ?_
    refine T_ld zk_13_20 rfl rfl rfl (pc' := 21) rfl ?_
    refine G_aald (t' := 25) (im := 9) (i' := c) (ln := 12) zk_13_21 rfl rfl rfl (vd_15 hc) (by omega) (by omega) (by omega) (pc' := 22) rfl ?_
    refine T_ld zk_13_22 rfl rfl rfl (pc' := 23) rfl ?_
    refine T_getR (t' := 2) (i' := c) (k' := 0) zk_13_23 rfl rfl rfl (vd_1 hc) (pc' := 26) rfl ?_
    refine T_getR (t' := 4) (i' := c) (k' := 0) zk_13_26 rfl rfl rfl (vd_2 hc) (pc' := 29) rfl ?_
    refine T_ld zk_13_29 rfl rfl rfl (pc' := 30) rfl ?_
    refine T_getR (t' := 15) (i' := c) (k' := 0) zk_13_30 rfl rfl rfl (vd_1 hc) (pc' := 33) rfl ?_
    refine T_ld zk_13_33 rfl rfl rfl (pc' := 34) rfl ?_
    refine G_aald (t' := 25) (im := 9) (i' := c) (ln := 12) zk_13_34 rfl rfl rfl (vd_15 hc) (by omega) (by omega) (by omega) (pc' := 35) rfl ?_
    refine G_getf (lo := 0) (hi := 24) zk_13_35 rfl (vd_25 hc (by omega)) (fun σ' h => h.1.1) (fun _ h => h.2.1 (by omega) (by omega)) (pc' := 38) rfl (fun y49 hy49 hy49' => ?_)
    refine G_iald (lo := -2147483648) (hi := 2147483647) (ln := 25) zk_13_38 rfl rfl (vd_4 hc) (by omega) (by omega) (by omega) (fun σ' h => h.1.1) (fun _ h => (by have q := h.1; omega)) (pc' := 39) rfl (fun y50 hy50 hy50' => ?_)
    refine T_callv (J' := (fun σ' => IF (ML c) σ σ' ∧ σ' 1 c 0 13 = n ∧ True)) (r := []) zk_13_39 rfl rfl rfl rfl rfl rfl (Or.inr ⟨_, _, _, _, rfl, (vd_25 hc (by omega)), rfl⟩) (fun σ' h => (w_25 c (Int.toNat x3) y50 hc (by omega) (by omega) σ' h.1.1 ).le (Nat.le_of_ble_eq_true rfl) (fun v σ2 ⟨h1, h3, h4⟩ => ⟨h1, h.1.tr h3 (sb51_384f93d c), (h3.2 _ _ _ _ (by first | exact nMI rfl | (unfold MI; omega))).trans (h.2.1), trivial⟩)) (pc' := 42) rfl ?_
    refine T_ld zk_13_42 rfl rfl rfl (pc' := 43) rfl ?_
    refine T_if_ne zk_13_43 (by omega) (pc' := 46) rfl (fun h52 => ?_) (fun h53 => ?_)
    ·
      refine T_op zk_13_58 rfl X_ic (pc' := 59) rfl ?_
      refine T_goto zk_13_59 ?_
      refine T_st (L' := [(0, av 1 c 0), (1, iv 1), (2, iv x3)]) zk_13_63 (nL := 3) rfl rfl rfl rfl rfl (pc' := 64) rfl ?_
      refine T_iinc (L' := [(0, av 1 c 0), (1, iv 1), (2, iv (x3 + 1))]) zk_13_64 (nL := 3) rfl rfl rfl rfl (pc' := 67) rfl ?_
      refine T_goto zk_13_67 ?_
      exact ih4 1 (x3 + 1) (by omega) (by omega)
    ·
      refine T_ld zk_13_46 rfl rfl rfl (pc' := 47) rfl ?_
      refine T_getR (t' := 15) (i' := c) (k' := 0) zk_13_47 rfl rfl rfl (vd_1 hc) (pc' := 50) rfl ?_
      refine T_ld zk_13_50 rfl rfl rfl (pc' := 51) rfl ?_
      refine G_aald (t' := 25) (im := 9) (i' := c) (ln := 12) zk_13_51 rfl rfl rfl (vd_15 hc) (by omega) (by omega) (by omega) (pc' := 52) rfl ?_
      refine G_getf (lo := 0) (hi := 1) zk_13_52 rfl (vd_25 hc (by omega)) (fun σ' h => h.1.1) (fun _ h => h.2.2 (by omega) (by omega)) (pc' := 55) rfl (fun y54 hy54 hy54' => ?_)
      refine T_if_eq zk_13_55 (by omega) (pc' := 58) rfl (fun h55 => ?_) (fun h56 => ?_)
      ·
        refine T_op zk_13_62 rfl X_ic (pc' := 63) rfl ?_
        refine T_st (L' := [(0, av 1 c 0), (1, iv 0), (2, iv x3)]) zk_13_63 (nL := 3) rfl rfl rfl rfl rfl (pc' := 64) rfl ?_
        refine T_iinc (L' := [(0, av 1 c 0), (1, iv 0), (2, iv (x3 + 1))]) zk_13_64 (nL := 3) rfl rfl rfl rfl (pc' := 67) rfl ?_
        refine T_goto zk_13_67 ?_
        exact ih4 0 (x3 + 1) (by omega) (by omega)
      ·
        refine T_op zk_13_58 rfl X_ic (pc' := 59) rfl ?_
        refine T_goto zk_13_59 ?_
        refine T_st (L' := [(0, av 1 c 0), (1, iv 1), (2, iv x3)]) zk_13_63 (nL := 3) rfl rfl rfl rfl rfl (pc' := 64) rfl ?_
        refine T_iinc (L' := [(0, av 1 c 0), (1, iv 1), (2, iv (x3 + 1))]) zk_13_64 (nL := 3) rfl rfl rfl rfl (pc' := 67) rfl ?_
        refine T_goto zk_13_67 ?_
        exact ih4 1 (x3 + 1) (by omega) (by omega)
theorem sb72_644d648 : ∀ t i k j, MYl 1 t i k j → MY 1 t i k j := by
  intro t i k j h
  unfold MYl at h
  unfold MY
  omega
theorem sb72_93ede0b : ∀ t i k j, MI 1 11 12 13 13 t i k j → MY 1 t i k j := by
  intro t i k j h
  unfold MI at h
  unfold MY
  omega
theorem sb72_5e083c8 : ∀ t i k j, MYt 1 0 t i k j → MY 1 t i k j := by
  intro t i k j h
  unfold MYt at h
  unfold MY
  omega
theorem sb72_72ea14c : ∀ t i k j, MYt 1 1 t i k j → MY 1 t i k j := by
  intro t i k j h
  unfold MYt at h
  unfold MY
  omega
theorem sb72_e13aa76 : ∀ t i k j, MI 1 26 26 26 26 t i k j → MY 1 t i k j := by
  intro t i k j h
  unfold MI at h
  unfold MY
  omega
theorem sb72_a631b4c : ∀ t i k j, MI 1 25 25 25 25 t i k j → MY 1 t i k j := by
  intro t i k j h
  unfold MI at h
  unfold MY
  omega
theorem sb72_5fad9a3 : ∀ t i k j, MI 1 23 24 24 24 t i k j → MY 1 t i k j := by
  intro t i k j h
  unfold MI at h
  unfold MY
  omega
/-- W$City.takeCity -/
theorem s_22_1 {xs : Nat × (Nat → Int32)}  (a6 : Int) (a7 : Int) (a10 : Int) (a11 : Int) (a12 : Int) (a13 : Int) (ha6 : 0 ≤ a6 ∧ a6 ≤ 12) (ha7 : 0 ≤ a7 ∧ a7 ≤ 6) (ha10 : 0 ≤ a10 ∧ a10 ≤ 99) (ha11 : 1 ≤ a11 ∧ a11 ≤ 9) (ha12 : 0 ≤ a12 ∧ a12 ≤ 9999) (ha13 : -2147483648 ≤ a13 ∧ a13 ≤ 2147483647) (σ : ZS) (hI : Inv σ)  (s0 : σ 1 0 0 6 = a6) (s1 : σ 1 0 0 7 = a7) (s2 : σ 1 0 0 10 = a10) (s3 : σ 1 0 0 11 = a11) (s4 : σ 1 0 0 12 = a12) (s5 : σ 1 0 0 13 = a13) : CT xs 3 22 [av 1 1 0, av 1 0 0] σ (fun v σ' => v = none ∧ IF (MY 1) σ σ' ∧ (σ' 1 1 0 6 = a6 ∧ σ' 1 1 0 7 = a7 ∧ σ' 1 1 0 10 = a10 ∧ σ' 1 1 0 11 = a11 ∧ σ' 1 1 0 12 = a12 ∧ σ' 1 1 0 13 = a13 ∧ True)) := by
  refine G_ct (J := (fun σ' => IF (MY 1) σ σ' ∧ True)) (L := [(0, av 1 1 0), (1, av 1 0 0)]) (nL := 3) rfl rfl rfl ⟨IF.rf hI, trivial⟩ ?_
  refine T_ld zk_22_0 rfl rfl rfl (pc' := 1) rfl ?_
  refine T_getR (t' := 2) (i' := 1) (k' := 0) zk_22_1 rfl rfl rfl (vd_1 (by omega)) (pc' := 4) rfl ?_
  refine T_ld zk_22_4 rfl rfl rfl (pc' := 5) rfl ?_
  refine T_getR (t' := 2) (i' := 0) (k' := 0) zk_22_5 rfl rfl rfl (vd_1 (by omega)) (pc' := 8) rfl ?_
  refine T_callv (J' := (fun σ' => IF (MY 1) σ σ' ∧ True)) (r := []) zk_22_8 rfl rfl rfl rfl rfl rfl (Or.inr ⟨_, _, _, _, rfl, (vd_2 (by omega)), rfl⟩) (fun σ' h => (w_39 1 0 (by omega) (by omega) σ' h.1.1 ).le (Nat.le_of_ble_eq_true rfl) (fun v σ2 ⟨h1, h3, h4⟩ => ⟨h1, h.1.tr h3 sb72_644d648, trivial⟩)) (pc' := 11) rfl ?_
  refine T_ld zk_22_11 rfl rfl rfl (pc' := 12) rfl ?_
  refine T_getR (t' := 11) (i' := 1) (k' := 0) zk_22_12 rfl rfl rfl (vd_1 (by omega)) (pc' := 15) rfl ?_
  refine T_ld zk_22_15 rfl rfl rfl (pc' := 16) rfl ?_
  refine T_getR (t' := 11) (i' := 0) (k' := 0) zk_22_16 rfl rfl rfl (vd_1 (by omega)) (pc' := 19) rfl ?_
  refine T_callv (J' := (fun σ' => IF (MY 1) σ σ' ∧ True)) (r := []) zk_22_19 rfl rfl rfl rfl rfl rfl (Or.inr ⟨_, _, _, _, rfl, (vd_11 (by omega)), rfl⟩) (fun σ' h => (w_64 1 0 (by omega) (by omega) σ' h.1.1 ).le (Nat.le_of_ble_eq_true rfl) (fun v σ2 ⟨h1, h3, h4⟩ => ⟨h1, h.1.tr h3 sb72_93ede0b, trivial⟩)) (pc' := 22) rfl ?_
  refine T_ld zk_22_22 rfl rfl rfl (pc' := 23) rfl ?_
  refine T_getR (t' := 17) (i' := 1) (k' := 0) zk_22_23 rfl rfl rfl (vd_1 (by omega)) (pc' := 26) rfl ?_
  refine T_ld zk_22_26 rfl rfl rfl (pc' := 27) rfl ?_
  refine T_getR (t' := 17) (i' := 0) (k' := 0) zk_22_27 rfl rfl rfl (vd_1 (by omega)) (pc' := 30) rfl ?_
  refine T_callv (J' := (fun σ' => IF (MY 1) σ σ' ∧ True)) (r := []) zk_22_30 rfl rfl rfl rfl rfl rfl (Or.inr ⟨_, _, _, _, rfl, (vd_17 (by omega) (by omega)), rfl⟩) (fun σ' h => (w_72 1 0 0 (by omega) (by omega) (by omega) σ' h.1.1 ).le (Nat.le_of_ble_eq_true rfl) (fun v σ2 ⟨h1, h3, h4⟩ => ⟨h1, h.1.tr h3 sb72_5e083c8, trivial⟩)) (pc' := 33) rfl ?_
  refine T_ld zk_22_33 rfl rfl rfl (pc' := 34) rfl ?_
  refine T_getR (t' := 17) (i' := 1) (k' := 1) zk_22_34 rfl rfl rfl (vd_1 (by omega)) (pc' := 37) rfl ?_
  refine T_ld zk_22_37 rfl rfl rfl (pc' := 38) rfl ?_
  refine T_getR (t' := 17) (i' := 0) (k' := 1) zk_22_38 rfl rfl rfl (vd_1 (by omega)) (pc' := 41) rfl ?_
  refine T_callv (J' := (fun σ' => IF (MY 1) σ σ' ∧ True)) (r := []) zk_22_41 rfl rfl rfl rfl rfl rfl (Or.inr ⟨_, _, _, _, rfl, (vd_17 (by omega) (by omega)), rfl⟩) (fun σ' h => (w_72 1 1 0 (by omega) (by omega) (by omega) σ' h.1.1 ).le (Nat.le_of_ble_eq_true rfl) (fun v σ2 ⟨h1, h3, h4⟩ => ⟨h1, h.1.tr h3 sb72_72ea14c, trivial⟩)) (pc' := 44) rfl ?_
  refine T_ld zk_22_44 rfl rfl rfl (pc' := 45) rfl ?_
  refine T_ld zk_22_45 rfl rfl rfl (pc' := 46) rfl ?_
  refine G_getf (lo := 0) (hi := 5) zk_22_46 rfl (vd_1 (by omega)) (fun σ' h => h.1.1) (fun _ h => h.2.1 (by omega) (by omega)) (pc' := 49) rfl (fun y5 hy5 hy5' => ?_)
  refine T_putf (J' := (fun σ' => IF (MY 1) σ σ' ∧ σ' 1 1 0 5 = y5 ∧ True)) zk_22_49 rfl rfl (vd_1 (by omega)) (fun σ' h => ⟨h.1.up (by simp only [rgP] <;> omega) (by unfold MY; omega), up_eq, trivial⟩) (pc' := 52) rfl ?_
  refine T_op zk_22_52 rfl X_ic (pc' := 53) rfl ?_
  refine T_st (L' := [(0, av 1 1 0), (1, av 1 0 0), (2, iv 0)]) zk_22_53 (nL := 3) rfl rfl rfl rfl rfl (pc' := 54) rfl ?_
  refine G_know (J' := (fun σ' => IF (MY 1) σ σ' ∧ True)) (fun σ' h => ⟨h.1, trivial⟩) ?_
  refine T_loop1 (fun x6 => ((5 - x6 : Int)).toNat) (fun x6 => (0 ≤ x6 ∧ x6 ≤ 5)) (fun x6 => TJ xs (fun σ' => IF (MY 1) σ σ' ∧ True) 2 22 54 [(0, av 1 1 0), (1, av 1 0 0), (2, iv x6)] [] _) ?_ 0 (by omega)
  intro x6 hp8 ih7
  refine T_ld zk_22_54 rfl rfl rfl (pc' := 55) rfl ?_
  refine T_ld zk_22_55 rfl rfl rfl (pc' := 56) rfl ?_
  refine G_getf (lo := 0) (hi := 5) zk_22_56 rfl (vd_1 (by omega)) (fun σ' h => h.1.1) (fun _ h => h.2.1 (by omega) (by omega)) (pc' := 59) rfl (fun y9 hy9 hy9' => ?_)
  refine T_icmp_ge zk_22_59 (by omega) (by omega) (pc' := 62) rfl (fun h10 => ?_) (fun h11 => ?_)
  ·
    refine T_ld zk_22_83 rfl rfl rfl (pc' := 84) rfl ?_
    refine T_ld zk_22_84 rfl rfl rfl (pc' := 85) rfl ?_
    refine G_getX (w := a6) zk_22_85 rfl (vd_1 (by omega)) (fun σ' h => (h.1.2 _ _ _ _ (by first | exact nMY rfl | (unfold MY; omega))).trans s0) (pc' := 88) rfl ?_
    refine T_putf (J' := (fun σ' => IF (MY 1) σ σ' ∧ σ' 1 1 0 6 = a6 ∧ True)) zk_22_88 rfl rfl (vd_1 (by omega)) (fun σ' h => ⟨h.1.up (by simp only [rgP] <;> omega) (by unfold MY; omega), up_eq, trivial⟩) (pc' := 91) rfl ?_
    refine T_op zk_22_91 rfl X_ic (pc' := 92) rfl ?_
    refine T_st (L' := [(0, av 1 1 0), (1, av 1 0 0), (2, iv 0)]) zk_22_92 (nL := 3) rfl rfl rfl rfl rfl (pc' := 93) rfl ?_
    refine T_loop1 (fun x12 => ((12 - x12 : Int)).toNat) (fun x12 => (0 ≤ x12 ∧ x12 ≤ 12)) (fun x12 => TJ xs (fun σ' => IF (MY 1) σ σ' ∧ σ' 1 1 0 6 = a6 ∧ True) 2 22 93 [(0, av 1 1 0), (1, av 1 0 0), (2, iv x12)] [] _) ?_ 0 (by omega)
    intro x12 hp14 ih13
    refine T_ld zk_22_93 rfl rfl rfl (pc' := 94) rfl ?_
    refine T_ld zk_22_94 rfl rfl rfl (pc' := 95) rfl ?_
    refine G_getX (w := a6) zk_22_95 rfl (vd_1 (by omega)) (fun σ' h => h.2.1) (pc' := 98) rfl ?_
    refine T_icmp_ge zk_22_98 (by omega) (by omega) (pc' := 101) rfl (fun h15 => ?_) (fun h16 => ?_)
    ·
      refine T_ld zk_22_122 rfl rfl rfl (pc' := 123) rfl ?_
      refine T_ld zk_22_123 rfl rfl rfl (pc' := 124) rfl ?_
      refine G_getX (w := a7) zk_22_124 rfl (vd_1 (by omega)) (fun σ' h => (h.1.2 _ _ _ _ (by first | exact nMY rfl | (unfold MY; omega))).trans s1) (pc' := 127) rfl ?_
      refine T_putf (J' := (fun σ' => IF (MY 1) σ σ' ∧ σ' 1 1 0 6 = a6 ∧ σ' 1 1 0 7 = a7 ∧ True)) zk_22_127 rfl rfl (vd_1 (by omega)) (fun σ' h => ⟨h.1.up (by simp only [rgP] <;> omega) (by unfold MY; omega), (up_ne (by omega)).trans (h.2.1), up_eq, trivial⟩) (pc' := 130) rfl ?_
      refine T_op zk_22_130 rfl X_ic (pc' := 131) rfl ?_
      refine T_st (L' := [(0, av 1 1 0), (1, av 1 0 0), (2, iv 0)]) zk_22_131 (nL := 3) rfl rfl rfl rfl rfl (pc' := 132) rfl ?_
      refine T_loop1 (fun x17 => ((6 - x17 : Int)).toNat) (fun x17 => (0 ≤ x17 ∧ x17 ≤ 6)) (fun x17 => TJ xs (fun σ' => IF (MY 1) σ σ' ∧ σ' 1 1 0 6 = a6 ∧ σ' 1 1 0 7 = a7 ∧ True) 2 22 132 [(0, av 1 1 0), (1, av 1 0 0), (2, iv x17)] [] _) ?_ 0 (by omega)
      intro x17 hp19 ih18
      refine T_ld zk_22_132 rfl rfl rfl (pc' := 133) rfl ?_
      refine T_ld zk_22_133 rfl rfl rfl (pc' := 134) rfl ?_
      refine G_getX (w := a7) zk_22_134 rfl (vd_1 (by omega)) (fun σ' h => h.2.2.1) (pc' := 137) rfl ?_
      refine T_icmp_ge zk_22_137 (by omega) (by omega) (pc' := 140) rfl (fun h20 => ?_) (fun h21 => ?_)
      ·
        refine T_ld zk_22_161 rfl rfl rfl (pc' := 162) rfl ?_
        refine T_ld zk_22_162 rfl rfl rfl (pc' := 163) rfl ?_
        refine G_getX (w := a10) zk_22_163 rfl (vd_1 (by omega)) (fun σ' h => (h.1.2 _ _ _ _ (by first | exact nMY rfl | (unfold MY; omega))).trans s2) (pc' := 166) rfl ?_
        refine T_putf (J' := (fun σ' => IF (MY 1) σ σ' ∧ σ' 1 1 0 6 = a6 ∧ σ' 1 1 0 7 = a7 ∧ σ' 1 1 0 10 = a10 ∧ True)) zk_22_166 rfl rfl (vd_1 (by omega)) (fun σ' h => ⟨h.1.up (by simp only [rgP] <;> omega) (by unfold MY; omega), (up_ne (by omega)).trans (h.2.1), (up_ne (by omega)).trans (h.2.2.1), up_eq, trivial⟩) (pc' := 169) rfl ?_
        refine T_ld zk_22_169 rfl rfl rfl (pc' := 170) rfl ?_
        refine T_ld zk_22_170 rfl rfl rfl (pc' := 171) rfl ?_
        refine G_getX (w := a11) zk_22_171 rfl (vd_1 (by omega)) (fun σ' h => (h.1.2 _ _ _ _ (by first | exact nMY rfl | (unfold MY; omega))).trans s3) (pc' := 174) rfl ?_
        refine T_putf (J' := (fun σ' => IF (MY 1) σ σ' ∧ σ' 1 1 0 6 = a6 ∧ σ' 1 1 0 7 = a7 ∧ σ' 1 1 0 10 = a10 ∧ σ' 1 1 0 11 = a11 ∧ True)) zk_22_174 rfl rfl (vd_1 (by omega)) (fun σ' h => ⟨h.1.up (by simp only [rgP] <;> omega) (by unfold MY; omega), (up_ne (by omega)).trans (h.2.1), (up_ne (by omega)).trans (h.2.2.1), (up_ne (by omega)).trans (h.2.2.2.1), up_eq, trivial⟩) (pc' := 177) rfl ?_
        refine T_ld zk_22_177 rfl rfl rfl (pc' := 178) rfl ?_
        refine T_ld zk_22_178 rfl rfl rfl (pc' := 179) rfl ?_
        refine G_getX (w := a12) zk_22_179 rfl (vd_1 (by omega)) (fun σ' h => (h.1.2 _ _ _ _ (by first | exact nMY rfl | (unfold MY; omega))).trans s4) (pc' := 182) rfl ?_
        refine T_putf (J' := (fun σ' => IF (MY 1) σ σ' ∧ σ' 1 1 0 6 = a6 ∧ σ' 1 1 0 7 = a7 ∧ σ' 1 1 0 10 = a10 ∧ σ' 1 1 0 11 = a11 ∧ σ' 1 1 0 12 = a12 ∧ True)) zk_22_182 rfl rfl (vd_1 (by omega)) (fun σ' h => ⟨h.1.up (by simp only [rgP] <;> omega) (by unfold MY; omega), (up_ne (by omega)).trans (h.2.1), (up_ne (by omega)).trans (h.2.2.1), (up_ne (by omega)).trans (h.2.2.2.1), (up_ne (by omega)).trans (h.2.2.2.2.1), up_eq, trivial⟩) (pc' := 185) rfl ?_
        refine T_ld zk_22_185 rfl rfl rfl (pc' := 186) rfl ?_
        refine T_ld zk_22_186 rfl rfl rfl (pc' := 187) rfl ?_
        refine G_getX (w := a13) zk_22_187 rfl (vd_1 (by omega)) (fun σ' h => (h.1.2 _ _ _ _ (by first | exact nMY rfl | (unfold MY; omega))).trans s5) (pc' := 190) rfl ?_
        refine T_putf (J' := (fun σ' => IF (MY 1) σ σ' ∧ σ' 1 1 0 6 = a6 ∧ σ' 1 1 0 7 = a7 ∧ σ' 1 1 0 10 = a10 ∧ σ' 1 1 0 11 = a11 ∧ σ' 1 1 0 12 = a12 ∧ σ' 1 1 0 13 = a13 ∧ True)) zk_22_190 rfl rfl (vd_1 (by omega)) (fun σ' h => ⟨h.1.up (by simp only [rgP] <;> omega) (by unfold MY; omega), (up_ne (by omega)).trans (h.2.1), (up_ne (by omega)).trans (h.2.2.1), (up_ne (by omega)).trans (h.2.2.2.1), (up_ne (by omega)).trans (h.2.2.2.2.1), (up_ne (by omega)).trans (h.2.2.2.2.2.1), up_eq, trivial⟩) (pc' := 193) rfl ?_
        refine T_ld zk_22_193 rfl rfl rfl (pc' := 194) rfl ?_
        refine T_ld zk_22_194 rfl rfl rfl (pc' := 195) rfl ?_
        refine G_getf (lo := -2147483648) (hi := 2147483647) zk_22_195 rfl (vd_1 (by omega)) (fun σ' h => h.1.1) (fun _ h => (by have q := h.1; omega)) (pc' := 198) rfl (fun y22 hy22 hy22' => ?_)
        refine T_putf (J' := (fun σ' => IF (MY 1) σ σ' ∧ σ' 1 1 0 6 = a6 ∧ σ' 1 1 0 7 = a7 ∧ σ' 1 1 0 10 = a10 ∧ σ' 1 1 0 11 = a11 ∧ σ' 1 1 0 12 = a12 ∧ σ' 1 1 0 13 = a13 ∧ σ' 1 1 0 14 = y22 ∧ True)) zk_22_198 rfl rfl (vd_1 (by omega)) (fun σ' h => ⟨h.1.up (by simp only [rgP] <;> omega) (by unfold MY; omega), (up_ne (by omega)).trans (h.2.1), (up_ne (by omega)).trans (h.2.2.1), (up_ne (by omega)).trans (h.2.2.2.1), (up_ne (by omega)).trans (h.2.2.2.2.1), (up_ne (by omega)).trans (h.2.2.2.2.2.1), (up_ne (by omega)).trans (h.2.2.2.2.2.2.1), up_eq, trivial⟩) (pc' := 201) rfl ?_
        refine T_ld zk_22_201 rfl rfl rfl (pc' := 202) rfl ?_
        refine T_ld zk_22_202 rfl rfl rfl (pc' := 203) rfl ?_
        refine G_getf (lo := -2147483648) (hi := 2147483647) zk_22_203 rfl (vd_1 (by omega)) (fun σ' h => h.1.1) (fun _ h => (by have q := h.1; omega)) (pc' := 206) rfl (fun y23 hy23 hy23' => ?_)
        refine T_putf (J' := (fun σ' => IF (MY 1) σ σ' ∧ σ' 1 1 0 6 = a6 ∧ σ' 1 1 0 7 = a7 ∧ σ' 1 1 0 10 = a10 ∧ σ' 1 1 0 11 = a11 ∧ σ' 1 1 0 12 = a12 ∧ σ' 1 1 0 13 = a13 ∧ σ' 1 1 0 14 = y22 ∧ σ' 1 1 0 15 = y23 ∧ True)) zk_22_206 rfl rfl (vd_1 (by omega)) (fun σ' h => ⟨h.1.up (by simp only [rgP] <;> omega) (by unfold MY; omega), (up_ne (by omega)).trans (h.2.1), (up_ne (by omega)).trans (h.2.2.1), (up_ne (by omega)).trans (h.2.2.2.1), (up_ne (by omega)).trans (h.2.2.2.2.1), (up_ne (by omega)).trans (h.2.2.2.2.2.1), (up_ne (by omega)).trans (h.2.2.2.2.2.2.1), (up_ne (by omega)).trans (h.2.2.2.2.2.2.2.1), up_eq, trivial⟩) (pc' := 209) rfl ?_
        refine T_ld zk_22_209 rfl rfl rfl (pc' := 210) rfl ?_
        refine T_ld zk_22_210 rfl rfl rfl (pc' := 211) rfl ?_
        refine G_getf (lo := -2147483648) (hi := 2147483647) zk_22_211 rfl (vd_1 (by omega)) (fun σ' h => h.1.1) (fun _ h => (by have q := h.1; omega)) (pc' := 214) rfl (fun y24 hy24 hy24' => ?_)
        refine T_putf (J' := (fun σ' => IF (MY 1) σ σ' ∧ σ' 1 1 0 6 = a6 ∧ σ' 1 1 0 7 = a7 ∧ σ' 1 1 0 10 = a10 ∧ σ' 1 1 0 11 = a11 ∧ σ' 1 1 0 12 = a12 ∧ σ' 1 1 0 13 = a13 ∧ σ' 1 1 0 14 = y22 ∧ σ' 1 1 0 15 = y23 ∧ σ' 1 1 0 16 = y24 ∧ True)) zk_22_214 rfl rfl (vd_1 (by omega)) (fun σ' h => ⟨h.1.up (by simp only [rgP] <;> omega) (by unfold MY; omega), (up_ne (by omega)).trans (h.2.1), (up_ne (by omega)).trans (h.2.2.1), (up_ne (by omega)).trans (h.2.2.2.1), (up_ne (by omega)).trans (h.2.2.2.2.1), (up_ne (by omega)).trans (h.2.2.2.2.2.1), (up_ne (by omega)).trans (h.2.2.2.2.2.2.1), (up_ne (by omega)).trans (h.2.2.2.2.2.2.2.1), (up_ne (by omega)).trans (h.2.2.2.2.2.2.2.2.1), up_eq, trivial⟩) (pc' := 217) rfl ?_
        exact T_vret zk_22_217 rfl (fun σ' h => ⟨rfl, h.1, ⟨h.2.1, h.2.2.1, h.2.2.2.1, h.2.2.2.2.1, h.2.2.2.2.2.1, h.2.2.2.2.2.2.1, trivial⟩⟩)
      ·
        refine T_ld zk_22_140 rfl rfl rfl (pc' := 141) rfl ?_
        refine T_getR (t' := 16) (i' := 1) (k' := 0) zk_22_141 rfl rfl rfl (vd_1 (by omega)) (pc' := 144) rfl ?_
        refine T_ld zk_22_144 rfl rfl rfl (pc' := 145) rfl ?_
        refine G_aald (t' := 26) (im := 9) (i' := 1) (ln := 6) zk_22_145 rfl rfl rfl (vd_16 (by omega)) (by omega) (by omega) (by omega) (pc' := 146) rfl ?_
        refine T_ld zk_22_146 rfl rfl rfl (pc' := 147) rfl ?_
        refine T_getR (t' := 16) (i' := 0) (k' := 0) zk_22_147 rfl rfl rfl (vd_1 (by omega)) (pc' := 150) rfl ?_
        refine T_ld zk_22_150 rfl rfl rfl (pc' := 151) rfl ?_
        refine G_aald (t' := 26) (im := 9) (i' := 0) (ln := 6) zk_22_151 rfl rfl rfl (vd_16 (by omega)) (by omega) (by omega) (by omega) (pc' := 152) rfl ?_
        refine T_callv (J' := (fun σ' => IF (MY 1) σ σ' ∧ σ' 1 1 0 6 = a6 ∧ σ' 1 1 0 7 = a7 ∧ True)) (r := []) zk_22_152 rfl rfl rfl rfl rfl rfl (Or.inr ⟨_, _, _, _, rfl, (vd_26 (by omega) (by omega)), rfl⟩) (fun σ' h => (w_3 1 (Int.toNat x17) 0 (by omega) (by omega) (by omega) σ' h.1.1 ).le (Nat.le_of_ble_eq_true rfl) (fun v σ2 ⟨h1, h3, h4⟩ => ⟨h1, h.1.tr h3 sb72_e13aa76, (h3.2 _ _ _ _ (by first | exact nMI rfl | (unfold MI; omega))).trans (h.2.1), (h3.2 _ _ _ _ (by first | exact nMI rfl | (unfold MI; omega))).trans (h.2.2.1), trivial⟩)) (pc' := 155) rfl ?_
        refine T_iinc (L' := [(0, av 1 1 0), (1, av 1 0 0), (2, iv (x17 + 1))]) zk_22_155 (nL := 3) rfl rfl rfl rfl (pc' := 158) rfl ?_
        refine T_goto zk_22_158 ?_
        exact ih18 (x17 + 1) (by omega) (by omega)
    ·
      refine T_ld zk_22_101 rfl rfl rfl (pc' := 102) rfl ?_
      refine T_getR (t' := 15) (i' := 1) (k' := 0) zk_22_102 rfl rfl rfl (vd_1 (by omega)) (pc' := 105) rfl ?_
      refine T_ld zk_22_105 rfl rfl rfl (pc' := 106) rfl ?_
      refine G_aald (t' := 25) (im := 9) (i' := 1) (ln := 12) zk_22_106 rfl rfl rfl (vd_15 (by omega)) (by omega) (by omega) (by omega) (pc' := 107) rfl ?_
      refine T_ld zk_22_107 rfl rfl rfl (pc' := 108) rfl ?_
      refine T_getR (t' := 15) (i' := 0) (k' := 0) zk_22_108 rfl rfl rfl (vd_1 (by omega)) (pc' := 111) rfl ?_
      refine T_ld zk_22_111 rfl rfl rfl (pc' := 112) rfl ?_
      refine G_aald (t' := 25) (im := 9) (i' := 0) (ln := 12) zk_22_112 rfl rfl rfl (vd_15 (by omega)) (by omega) (by omega) (by omega) (pc' := 113) rfl ?_
      refine T_callv (J' := (fun σ' => IF (MY 1) σ σ' ∧ σ' 1 1 0 6 = a6 ∧ True)) (r := []) zk_22_113 rfl rfl rfl rfl rfl rfl (Or.inr ⟨_, _, _, _, rfl, (vd_25 (by omega) (by omega)), rfl⟩) (fun σ' h => (w_28 1 (Int.toNat x12) 0 (by omega) (by omega) (by omega) σ' h.1.1 ).le (Nat.le_of_ble_eq_true rfl) (fun v σ2 ⟨h1, h3, h4⟩ => ⟨h1, h.1.tr h3 sb72_a631b4c, (h3.2 _ _ _ _ (by first | exact nMI rfl | (unfold MI; omega))).trans (h.2.1), trivial⟩)) (pc' := 116) rfl ?_
      refine T_iinc (L' := [(0, av 1 1 0), (1, av 1 0 0), (2, iv (x12 + 1))]) zk_22_116 (nL := 3) rfl rfl rfl rfl (pc' := 119) rfl ?_
      refine T_goto zk_22_119 ?_
      exact ih13 (x12 + 1) (by omega) (by omega)
  ·
    refine T_ld zk_22_62 rfl rfl rfl (pc' := 63) rfl ?_
    refine T_getR (t' := 14) (i' := 1) (k' := 0) zk_22_63 rfl rfl rfl (vd_1 (by omega)) (pc' := 66) rfl ?_
    refine T_ld zk_22_66 rfl rfl rfl (pc' := 67) rfl ?_
    refine G_aald (t' := 23) (im := 9) (i' := 1) (ln := 5) zk_22_67 rfl rfl rfl (vd_14 (by omega)) (by omega) (by omega) (by omega) (pc' := 68) rfl ?_
    refine T_ld zk_22_68 rfl rfl rfl (pc' := 69) rfl ?_
    refine T_getR (t' := 14) (i' := 0) (k' := 0) zk_22_69 rfl rfl rfl (vd_1 (by omega)) (pc' := 72) rfl ?_
    refine T_ld zk_22_72 rfl rfl rfl (pc' := 73) rfl ?_
    refine G_aald (t' := 23) (im := 9) (i' := 0) (ln := 5) zk_22_73 rfl rfl rfl (vd_14 (by omega)) (by omega) (by omega) (by omega) (pc' := 74) rfl ?_
    refine T_callv (J' := (fun σ' => IF (MY 1) σ σ' ∧ True)) (r := []) zk_22_74 rfl rfl rfl rfl rfl rfl (Or.inr ⟨_, _, _, _, rfl, (vd_23 (by omega) (by omega)), rfl⟩) (fun σ' h => (w_46 1 (Int.toNat x6) 0 (by omega) (by omega) (by omega) σ' h.1.1 ).le (Nat.le_of_ble_eq_true rfl) (fun v σ2 ⟨h1, h3, h4⟩ => ⟨h1, h.1.tr h3 sb72_5fad9a3, trivial⟩)) (pc' := 77) rfl ?_
    refine T_iinc (L' := [(0, av 1 1 0), (1, av 1 0 0), (2, iv (x6 + 1))]) zk_22_77 (nL := 3) rfl rfl rfl rfl (pc' := 80) rfl ?_
    refine T_goto zk_22_80 ?_
    exact ih7 (x6 + 1) (by omega) (by omega)
theorem sb72_5cb13b0 : ∀ t i k j, MYl 0 t i k j → MY 0 t i k j := by
  intro t i k j h
  unfold MYl at h
  unfold MY
  omega
theorem sb72_1cca568 : ∀ t i k j, MI 0 11 12 13 13 t i k j → MY 0 t i k j := by
  intro t i k j h
  unfold MI at h
  unfold MY
  omega
theorem sb72_c835090 : ∀ t i k j, MYt 0 0 t i k j → MY 0 t i k j := by
  intro t i k j h
  unfold MYt at h
  unfold MY
  omega
theorem sb72_1529f72 : ∀ t i k j, MYt 0 1 t i k j → MY 0 t i k j := by
  intro t i k j h
  unfold MYt at h
  unfold MY
  omega
theorem sb72_1c2198f : ∀ t i k j, MI 0 26 26 26 26 t i k j → MY 0 t i k j := by
  intro t i k j h
  unfold MI at h
  unfold MY
  omega
theorem sb72_a41fece : ∀ t i k j, MI 0 25 25 25 25 t i k j → MY 0 t i k j := by
  intro t i k j h
  unfold MI at h
  unfold MY
  omega
theorem sb72_f3781e5 : ∀ t i k j, MI 0 23 24 24 24 t i k j → MY 0 t i k j := by
  intro t i k j h
  unfold MI at h
  unfold MY
  omega
/-- W$City.takeCity -/
theorem s_22_0 {xs : Nat × (Nat → Int32)}  (a6 : Int) (a7 : Int) (a10 : Int) (a11 : Int) (a12 : Int) (a13 : Int) (ha6 : 0 ≤ a6 ∧ a6 ≤ 12) (ha7 : 0 ≤ a7 ∧ a7 ≤ 6) (ha10 : 0 ≤ a10 ∧ a10 ≤ 99) (ha11 : 1 ≤ a11 ∧ a11 ≤ 9) (ha12 : 0 ≤ a12 ∧ a12 ≤ 9999) (ha13 : -2147483648 ≤ a13 ∧ a13 ≤ 2147483647) (σ : ZS) (hI : Inv σ)  (s0 : σ 1 1 0 6 = a6) (s1 : σ 1 1 0 7 = a7) (s2 : σ 1 1 0 10 = a10) (s3 : σ 1 1 0 11 = a11) (s4 : σ 1 1 0 12 = a12) (s5 : σ 1 1 0 13 = a13) : CT xs 3 22 [av 1 0 0, av 1 1 0] σ (fun v σ' => v = none ∧ IF (MY 0) σ σ' ∧ (σ' 1 0 0 6 = a6 ∧ σ' 1 0 0 7 = a7 ∧ σ' 1 0 0 10 = a10 ∧ σ' 1 0 0 11 = a11 ∧ σ' 1 0 0 12 = a12 ∧ σ' 1 0 0 13 = a13 ∧ True)) := by
  refine G_ct (J := (fun σ' => IF (MY 0) σ σ' ∧ True)) (L := [(0, av 1 0 0), (1, av 1 1 0)]) (nL := 3) rfl rfl rfl ⟨IF.rf hI, trivial⟩ ?_
  refine T_ld zk_22_0 rfl rfl rfl (pc' := 1) rfl ?_
  refine T_getR (t' := 2) (i' := 0) (k' := 0) zk_22_1 rfl rfl rfl (vd_1 (by omega)) (pc' := 4) rfl ?_
  refine T_ld zk_22_4 rfl rfl rfl (pc' := 5) rfl ?_
  refine T_getR (t' := 2) (i' := 1) (k' := 0) zk_22_5 rfl rfl rfl (vd_1 (by omega)) (pc' := 8) rfl ?_
  refine T_callv (J' := (fun σ' => IF (MY 0) σ σ' ∧ True)) (r := []) zk_22_8 rfl rfl rfl rfl rfl rfl (Or.inr ⟨_, _, _, _, rfl, (vd_2 (by omega)), rfl⟩) (fun σ' h => (w_39 0 1 (by omega) (by omega) σ' h.1.1 ).le (Nat.le_of_ble_eq_true rfl) (fun v σ2 ⟨h1, h3, h4⟩ => ⟨h1, h.1.tr h3 sb72_5cb13b0, trivial⟩)) (pc' := 11) rfl ?_
  refine T_ld zk_22_11 rfl rfl rfl (pc' := 12) rfl ?_
  refine T_getR (t' := 11) (i' := 0) (k' := 0) zk_22_12 rfl rfl rfl (vd_1 (by omega)) (pc' := 15) rfl ?_
  refine T_ld zk_22_15 rfl rfl rfl (pc' := 16) rfl ?_
  refine T_getR (t' := 11) (i' := 1) (k' := 0) zk_22_16 rfl rfl rfl (vd_1 (by omega)) (pc' := 19) rfl ?_
  refine T_callv (J' := (fun σ' => IF (MY 0) σ σ' ∧ True)) (r := []) zk_22_19 rfl rfl rfl rfl rfl rfl (Or.inr ⟨_, _, _, _, rfl, (vd_11 (by omega)), rfl⟩) (fun σ' h => (w_64 0 1 (by omega) (by omega) σ' h.1.1 ).le (Nat.le_of_ble_eq_true rfl) (fun v σ2 ⟨h1, h3, h4⟩ => ⟨h1, h.1.tr h3 sb72_1cca568, trivial⟩)) (pc' := 22) rfl ?_
  refine T_ld zk_22_22 rfl rfl rfl (pc' := 23) rfl ?_
  refine T_getR (t' := 17) (i' := 0) (k' := 0) zk_22_23 rfl rfl rfl (vd_1 (by omega)) (pc' := 26) rfl ?_
  refine T_ld zk_22_26 rfl rfl rfl (pc' := 27) rfl ?_
  refine T_getR (t' := 17) (i' := 1) (k' := 0) zk_22_27 rfl rfl rfl (vd_1 (by omega)) (pc' := 30) rfl ?_
  refine T_callv (J' := (fun σ' => IF (MY 0) σ σ' ∧ True)) (r := []) zk_22_30 rfl rfl rfl rfl rfl rfl (Or.inr ⟨_, _, _, _, rfl, (vd_17 (by omega) (by omega)), rfl⟩) (fun σ' h => (w_72 0 0 1 (by omega) (by omega) (by omega) σ' h.1.1 ).le (Nat.le_of_ble_eq_true rfl) (fun v σ2 ⟨h1, h3, h4⟩ => ⟨h1, h.1.tr h3 sb72_c835090, trivial⟩)) (pc' := 33) rfl ?_
  refine T_ld zk_22_33 rfl rfl rfl (pc' := 34) rfl ?_
  refine T_getR (t' := 17) (i' := 0) (k' := 1) zk_22_34 rfl rfl rfl (vd_1 (by omega)) (pc' := 37) rfl ?_
  refine T_ld zk_22_37 rfl rfl rfl (pc' := 38) rfl ?_
  refine T_getR (t' := 17) (i' := 1) (k' := 1) zk_22_38 rfl rfl rfl (vd_1 (by omega)) (pc' := 41) rfl ?_
  refine T_callv (J' := (fun σ' => IF (MY 0) σ σ' ∧ True)) (r := []) zk_22_41 rfl rfl rfl rfl rfl rfl (Or.inr ⟨_, _, _, _, rfl, (vd_17 (by omega) (by omega)), rfl⟩) (fun σ' h => (w_72 0 1 1 (by omega) (by omega) (by omega) σ' h.1.1 ).le (Nat.le_of_ble_eq_true rfl) (fun v σ2 ⟨h1, h3, h4⟩ => ⟨h1, h.1.tr h3 sb72_1529f72, trivial⟩)) (pc' := 44) rfl ?_
  refine T_ld zk_22_44 rfl rfl rfl (pc' := 45) rfl ?_
  refine T_ld zk_22_45 rfl rfl rfl (pc' := 46) rfl ?_
  refine G_getf (lo := 0) (hi := 5) zk_22_46 rfl (vd_1 (by omega)) (fun σ' h => h.1.1) (fun _ h => h.2.1 (by omega) (by omega)) (pc' := 49) rfl (fun y5 hy5 hy5' => ?_)
  refine T_putf (J' := (fun σ' => IF (MY 0) σ σ' ∧ σ' 1 0 0 5 = y5 ∧ True)) zk_22_49 rfl rfl (vd_1 (by omega)) (fun σ' h => ⟨h.1.up (by simp only [rgP] <;> omega) (by unfold MY; omega), up_eq, trivial⟩) (pc' := 52) rfl ?_
  refine T_op zk_22_52 rfl X_ic (pc' := 53) rfl ?_
  refine T_st (L' := [(0, av 1 0 0), (1, av 1 1 0), (2, iv 0)]) zk_22_53 (nL := 3) rfl rfl rfl rfl rfl (pc' := 54) rfl ?_
  refine G_know (J' := (fun σ' => IF (MY 0) σ σ' ∧ True)) (fun σ' h => ⟨h.1, trivial⟩) ?_
  refine T_loop1 (fun x6 => ((5 - x6 : Int)).toNat) (fun x6 => (0 ≤ x6 ∧ x6 ≤ 5)) (fun x6 => TJ xs (fun σ' => IF (MY 0) σ σ' ∧ True) 2 22 54 [(0, av 1 0 0), (1, av 1 1 0), (2, iv x6)] [] _) ?_ 0 (by omega)
  intro x6 hp8 ih7
  refine T_ld zk_22_54 rfl rfl rfl (pc' := 55) rfl ?_
  refine T_ld zk_22_55 rfl rfl rfl (pc' := 56) rfl ?_
  refine G_getf (lo := 0) (hi := 5) zk_22_56 rfl (vd_1 (by omega)) (fun σ' h => h.1.1) (fun _ h => h.2.1 (by omega) (by omega)) (pc' := 59) rfl (fun y9 hy9 hy9' => ?_)
  refine T_icmp_ge zk_22_59 (by omega) (by omega) (pc' := 62) rfl (fun h10 => ?_) (fun h11 => ?_)
  ·
    refine T_ld zk_22_83 rfl rfl rfl (pc' := 84) rfl ?_
    refine T_ld zk_22_84 rfl rfl rfl (pc' := 85) rfl ?_
    refine G_getX (w := a6) zk_22_85 rfl (vd_1 (by omega)) (fun σ' h => (h.1.2 _ _ _ _ (by first | exact nMY rfl | (unfold MY; omega))).trans s0) (pc' := 88) rfl ?_
    refine T_putf (J' := (fun σ' => IF (MY 0) σ σ' ∧ σ' 1 0 0 6 = a6 ∧ True)) zk_22_88 rfl rfl (vd_1 (by omega)) (fun σ' h => ⟨h.1.up (by simp only [rgP] <;> omega) (by unfold MY; omega), up_eq, trivial⟩) (pc' := 91) rfl ?_
    refine T_op zk_22_91 rfl X_ic (pc' := 92) rfl ?_
    refine T_st (L' := [(0, av 1 0 0), (1, av 1 1 0), (2, iv 0)]) zk_22_92 (nL := 3) rfl rfl rfl rfl rfl (pc' := 93) rfl ?_
    refine T_loop1 (fun x12 => ((12 - x12 : Int)).toNat) (fun x12 => (0 ≤ x12 ∧ x12 ≤ 12)) (fun x12 => TJ xs (fun σ' => IF (MY 0) σ σ' ∧ σ' 1 0 0 6 = a6 ∧ True) 2 22 93 [(0, av 1 0 0), (1, av 1 1 0), (2, iv x12)] [] _) ?_ 0 (by omega)
    intro x12 hp14 ih13
    refine T_ld zk_22_93 rfl rfl rfl (pc' := 94) rfl ?_
    refine T_ld zk_22_94 rfl rfl rfl (pc' := 95) rfl ?_
    refine G_getX (w := a6) zk_22_95 rfl (vd_1 (by omega)) (fun σ' h => h.2.1) (pc' := 98) rfl ?_
    refine T_icmp_ge zk_22_98 (by omega) (by omega) (pc' := 101) rfl (fun h15 => ?_) (fun h16 => ?_)
    ·
      refine T_ld zk_22_122 rfl rfl rfl (pc' := 123) rfl ?_
      refine T_ld zk_22_123 rfl rfl rfl (pc' := 124) rfl ?_
      refine G_getX (w := a7) zk_22_124 rfl (vd_1 (by omega)) (fun σ' h => (h.1.2 _ _ _ _ (by first | exact nMY rfl | (unfold MY; omega))).trans s1) (pc' := 127) rfl ?_
      refine T_putf (J' := (fun σ' => IF (MY 0) σ σ' ∧ σ' 1 0 0 6 = a6 ∧ σ' 1 0 0 7 = a7 ∧ True)) zk_22_127 rfl rfl (vd_1 (by omega)) (fun σ' h => ⟨h.1.up (by simp only [rgP] <;> omega) (by unfold MY; omega), (up_ne (by omega)).trans (h.2.1), up_eq, trivial⟩) (pc' := 130) rfl ?_
      refine T_op zk_22_130 rfl X_ic (pc' := 131) rfl ?_
      refine T_st (L' := [(0, av 1 0 0), (1, av 1 1 0), (2, iv 0)]) zk_22_131 (nL := 3) rfl rfl rfl rfl rfl (pc' := 132) rfl ?_
      refine T_loop1 (fun x17 => ((6 - x17 : Int)).toNat) (fun x17 => (0 ≤ x17 ∧ x17 ≤ 6)) (fun x17 => TJ xs (fun σ' => IF (MY 0) σ σ' ∧ σ' 1 0 0 6 = a6 ∧ σ' 1 0 0 7 = a7 ∧ True) 2 22 132 [(0, av 1 0 0), (1, av 1 1 0), (2, iv x17)] [] _) ?_ 0 (by omega)
      intro x17 hp19 ih18
      refine T_ld zk_22_132 rfl rfl rfl (pc' := 133) rfl ?_
      refine T_ld zk_22_133 rfl rfl rfl (pc' := 134) rfl ?_
      refine G_getX (w := a7) zk_22_134 rfl (vd_1 (by omega)) (fun σ' h => h.2.2.1) (pc' := 137) rfl ?_
      refine T_icmp_ge zk_22_137 (by omega) (by omega) (pc' := 140) rfl (fun h20 => ?_) (fun h21 => ?_)
      ·
        refine T_ld zk_22_161 rfl rfl rfl (pc' := 162) rfl ?_
        refine T_ld zk_22_162 rfl rfl rfl (pc' := 163) rfl ?_
        refine G_getX (w := a10) zk_22_163 rfl (vd_1 (by omega)) (fun σ' h => (h.1.2 _ _ _ _ (by first | exact nMY rfl | (unfold MY; omega))).trans s2) (pc' := 166) rfl ?_
        refine T_putf (J' := (fun σ' => IF (MY 0) σ σ' ∧ σ' 1 0 0 6 = a6 ∧ σ' 1 0 0 7 = a7 ∧ σ' 1 0 0 10 = a10 ∧ True)) zk_22_166 rfl rfl (vd_1 (by omega)) (fun σ' h => ⟨h.1.up (by simp only [rgP] <;> omega) (by unfold MY; omega), (up_ne (by omega)).trans (h.2.1), (up_ne (by omega)).trans (h.2.2.1), up_eq, trivial⟩) (pc' := 169) rfl ?_
        refine T_ld zk_22_169 rfl rfl rfl (pc' := 170) rfl ?_
        refine T_ld zk_22_170 rfl rfl rfl (pc' := 171) rfl ?_
        refine G_getX (w := a11) zk_22_171 rfl (vd_1 (by omega)) (fun σ' h => (h.1.2 _ _ _ _ (by first | exact nMY rfl | (unfold MY; omega))).trans s3) (pc' := 174) rfl ?_
        refine T_putf (J' := (fun σ' => IF (MY 0) σ σ' ∧ σ' 1 0 0 6 = a6 ∧ σ' 1 0 0 7 = a7 ∧ σ' 1 0 0 10 = a10 ∧ σ' 1 0 0 11 = a11 ∧ True)) zk_22_174 rfl rfl (vd_1 (by omega)) (fun σ' h => ⟨h.1.up (by simp only [rgP] <;> omega) (by unfold MY; omega), (up_ne (by omega)).trans (h.2.1), (up_ne (by omega)).trans (h.2.2.1), (up_ne (by omega)).trans (h.2.2.2.1), up_eq, trivial⟩) (pc' := 177) rfl ?_
        refine T_ld zk_22_177 rfl rfl rfl (pc' := 178) rfl ?_
        refine T_ld zk_22_178 rfl rfl rfl (pc' := 179) rfl ?_
        refine G_getX (w := a12) zk_22_179 rfl (vd_1 (by omega)) (fun σ' h => (h.1.2 _ _ _ _ (by first | exact nMY rfl | (unfold MY; omega))).trans s4) (pc' := 182) rfl ?_
        refine T_putf (J' := (fun σ' => IF (MY 0) σ σ' ∧ σ' 1 0 0 6 = a6 ∧ σ' 1 0 0 7 = a7 ∧ σ' 1 0 0 10 = a10 ∧ σ' 1 0 0 11 = a11 ∧ σ' 1 0 0 12 = a12 ∧ True)) zk_22_182 rfl rfl (vd_1 (by omega)) (fun σ' h => ⟨h.1.up (by simp only [rgP] <;> omega) (by unfold MY; omega), (up_ne (by omega)).trans (h.2.1), (up_ne (by omega)).trans (h.2.2.1), (up_ne (by omega)).trans (h.2.2.2.1), (up_ne (by omega)).trans (h.2.2.2.2.1), up_eq, trivial⟩) (pc' := 185) rfl ?_
        refine T_ld zk_22_185 rfl rfl rfl (pc' := 186) rfl ?_
        refine T_ld zk_22_186 rfl rfl rfl (pc' := 187) rfl ?_
        refine G_getX (w := a13) zk_22_187 rfl (vd_1 (by omega)) (fun σ' h => (h.1.2 _ _ _ _ (by first | exact nMY rfl | (unfold MY; omega))).trans s5) (pc' := 190) rfl ?_
        refine T_putf (J' := (fun σ' => IF (MY 0) σ σ' ∧ σ' 1 0 0 6 = a6 ∧ σ' 1 0 0 7 = a7 ∧ σ' 1 0 0 10 = a10 ∧ σ' 1 0 0 11 = a11 ∧ σ' 1 0 0 12 = a12 ∧ σ' 1 0 0 13 = a13 ∧ True)) zk_22_190 rfl rfl (vd_1 (by omega)) (fun σ' h => ⟨h.1.up (by simp only [rgP] <;> omega) (by unfold MY; omega), (up_ne (by omega)).trans (h.2.1), (up_ne (by omega)).trans (h.2.2.1), (up_ne (by omega)).trans (h.2.2.2.1), (up_ne (by omega)).trans (h.2.2.2.2.1), (up_ne (by omega)).trans (h.2.2.2.2.2.1), up_eq, trivial⟩) (pc' := 193) rfl ?_
        refine T_ld zk_22_193 rfl rfl rfl (pc' := 194) rfl ?_
        refine T_ld zk_22_194 rfl rfl rfl (pc' := 195) rfl ?_
        refine G_getf (lo := -2147483648) (hi := 2147483647) zk_22_195 rfl (vd_1 (by omega)) (fun σ' h => h.1.1) (fun _ h => (by have q := h.1; omega)) (pc' := 198) rfl (fun y22 hy22 hy22' => ?_)
        refine T_putf (J' := (fun σ' => IF (MY 0) σ σ' ∧ σ' 1 0 0 6 = a6 ∧ σ' 1 0 0 7 = a7 ∧ σ' 1 0 0 10 = a10 ∧ σ' 1 0 0 11 = a11 ∧ σ' 1 0 0 12 = a12 ∧ σ' 1 0 0 13 = a13 ∧ σ' 1 0 0 14 = y22 ∧ True)) zk_22_198 rfl rfl (vd_1 (by omega)) (fun σ' h => ⟨h.1.up (by simp only [rgP] <;> omega) (by unfold MY; omega), (up_ne (by omega)).trans (h.2.1), (up_ne (by omega)).trans (h.2.2.1), (up_ne (by omega)).trans (h.2.2.2.1), (up_ne (by omega)).trans (h.2.2.2.2.1), (up_ne (by omega)).trans (h.2.2.2.2.2.1), (up_ne (by omega)).trans (h.2.2.2.2.2.2.1), up_eq, trivial⟩) (pc' := 201) rfl ?_
        refine T_ld zk_22_201 rfl rfl rfl (pc' := 202) rfl ?_
        refine T_ld zk_22_202 rfl rfl rfl (pc' := 203) rfl ?_
        refine G_getf (lo := -2147483648) (hi := 2147483647) zk_22_203 rfl (vd_1 (by omega)) (fun σ' h => h.1.1) (fun _ h => (by have q := h.1; omega)) (pc' := 206) rfl (fun y23 hy23 hy23' => ?_)
        refine T_putf (J' := (fun σ' => IF (MY 0) σ σ' ∧ σ' 1 0 0 6 = a6 ∧ σ' 1 0 0 7 = a7 ∧ σ' 1 0 0 10 = a10 ∧ σ' 1 0 0 11 = a11 ∧ σ' 1 0 0 12 = a12 ∧ σ' 1 0 0 13 = a13 ∧ σ' 1 0 0 14 = y22 ∧ σ' 1 0 0 15 = y23 ∧ True)) zk_22_206 rfl rfl (vd_1 (by omega)) (fun σ' h => ⟨h.1.up (by simp only [rgP] <;> omega) (by unfold MY; omega), (up_ne (by omega)).trans (h.2.1), (up_ne (by omega)).trans (h.2.2.1), (up_ne (by omega)).trans (h.2.2.2.1), (up_ne (by omega)).trans (h.2.2.2.2.1), (up_ne (by omega)).trans (h.2.2.2.2.2.1), (up_ne (by omega)).trans (h.2.2.2.2.2.2.1), (up_ne (by omega)).trans (h.2.2.2.2.2.2.2.1), up_eq, trivial⟩) (pc' := 209) rfl ?_
        refine T_ld zk_22_209 rfl rfl rfl (pc' := 210) rfl ?_
        refine T_ld zk_22_210 rfl rfl rfl (pc' := 211) rfl ?_
        refine G_getf (lo := -2147483648) (hi := 2147483647) zk_22_211 rfl (vd_1 (by omega)) (fun σ' h => h.1.1) (fun _ h => (by have q := h.1; omega)) (pc' := 214) rfl (fun y24 hy24 hy24' => ?_)
        refine T_putf (J' := (fun σ' => IF (MY 0) σ σ' ∧ σ' 1 0 0 6 = a6 ∧ σ' 1 0 0 7 = a7 ∧ σ' 1 0 0 10 = a10 ∧ σ' 1 0 0 11 = a11 ∧ σ' 1 0 0 12 = a12 ∧ σ' 1 0 0 13 = a13 ∧ σ' 1 0 0 14 = y22 ∧ σ' 1 0 0 15 = y23 ∧ σ' 1 0 0 16 = y24 ∧ True)) zk_22_214 rfl rfl (vd_1 (by omega)) (fun σ' h => ⟨h.1.up (by simp only [rgP] <;> omega) (by unfold MY; omega), (up_ne (by omega)).trans (h.2.1), (up_ne (by omega)).trans (h.2.2.1), (up_ne (by omega)).trans (h.2.2.2.1), (up_ne (by omega)).trans (h.2.2.2.2.1), (up_ne (by omega)).trans (h.2.2.2.2.2.1), (up_ne (by omega)).trans (h.2.2.2.2.2.2.1), (up_ne (by omega)).trans (h.2.2.2.2.2.2.2.1), (up_ne (by omega)).trans (h.2.2.2.2.2.2.2.2.1), up_eq, trivial⟩) (pc' := 217) rfl ?_
        exact T_vret zk_22_217 rfl (fun σ' h => ⟨rfl, h.1, ⟨h.2.1, h.2.2.1, h.2.2.2.1, h.2.2.2.2.1, h.2.2.2.2.2.1, h.2.2.2.2.2.2.1, trivial⟩⟩)
      ·
        refine T_ld zk_22_140 rfl rfl rfl (pc' := 141) rfl ?_
        refine T_getR (t' := 16) (i' := 0) (k' := 0) zk_22_141 rfl rfl rfl (vd_1 (by omega)) (pc' := 144) rfl ?_
        refine T_ld zk_22_144 rfl rfl rfl (pc' := 145) rfl ?_
        refine G_aald (t' := 26) (im := 9) (i' := 0) (ln := 6) zk_22_145 rfl rfl rfl (vd_16 (by omega)) (by omega) (by omega) (by omega) (pc' := 146) rfl ?_
        refine T_ld zk_22_146 rfl rfl rfl (pc' := 147) rfl ?_
        refine T_getR (t' := 16) (i' := 1) (k' := 0) zk_22_147 rfl rfl rfl (vd_1 (by omega)) (pc' := 150) rfl ?_
        refine T_ld zk_22_150 rfl rfl rfl (pc' := 151) rfl ?_
        refine G_aald (t' := 26) (im := 9) (i' := 1) (ln := 6) zk_22_151 rfl rfl rfl (vd_16 (by omega)) (by omega) (by omega) (by omega) (pc' := 152) rfl ?_
        refine T_callv (J' := (fun σ' => IF (MY 0) σ σ' ∧ σ' 1 0 0 6 = a6 ∧ σ' 1 0 0 7 = a7 ∧ True)) (r := []) zk_22_152 rfl rfl rfl rfl rfl rfl (Or.inr ⟨_, _, _, _, rfl, (vd_26 (by omega) (by omega)), rfl⟩) (fun σ' h => (w_3 0 (Int.toNat x17) 1 (by omega) (by omega) (by omega) σ' h.1.1 ).le (Nat.le_of_ble_eq_true rfl) (fun v σ2 ⟨h1, h3, h4⟩ => ⟨h1, h.1.tr h3 sb72_1c2198f, (h3.2 _ _ _ _ (by first | exact nMI rfl | (unfold MI; omega))).trans (h.2.1), (h3.2 _ _ _ _ (by first | exact nMI rfl | (unfold MI; omega))).trans (h.2.2.1), trivial⟩)) (pc' := 155) rfl ?_
        refine T_iinc (L' := [(0, av 1 0 0), (1, av 1 1 0), (2, iv (x17 + 1))]) zk_22_155 (nL := 3) rfl rfl rfl rfl (pc' := 158) rfl ?_
        refine T_goto zk_22_158 ?_
        exact ih18 (x17 + 1) (by omega) (by omega)
    ·
      refine T_ld zk_22_101 rfl rfl rfl (pc' := 102) rfl ?_
      refine T_getR (t' := 15) (i' := 0) (k' := 0) zk_22_102 rfl rfl rfl (vd_1 (by omega)) (pc' := 105) rfl ?_
      refine T_ld zk_22_105 rfl rfl rfl (pc' := 106) rfl ?_
      refine G_aald (t' := 25) (im := 9) (i' := 0) (ln := 12) zk_22_106 rfl rfl rfl (vd_15 (by omega)) (by omega) (by omega) (by omega) (pc' := 107) rfl ?_
      refine T_ld zk_22_107 rfl rfl rfl (pc' := 108) rfl ?_
      refine T_getR (t' := 15) (i' := 1) (k' := 0) zk_22_108 rfl rfl rfl (vd_1 (by omega)) (pc' := 111) rfl ?_
      refine T_ld zk_22_111 rfl rfl rfl (pc' := 112) rfl ?_
      refine G_aald (t' := 25) (im := 9) (i' := 1) (ln := 12) zk_22_112 rfl rfl rfl (vd_15 (by omega)) (by omega) (by omega) (by omega) (pc' := 113) rfl ?_
      refine T_callv (J' := (fun σ' => IF (MY 0) σ σ' ∧ σ' 1 0 0 6 = a6 ∧ True)) (r := []) zk_22_113 rfl rfl rfl rfl rfl rfl (Or.inr ⟨_, _, _, _, rfl, (vd_25 (by omega) (by omega)), rfl⟩) (fun σ' h => (w_28 0 (Int.toNat x12) 1 (by omega) (by omega) (by omega) σ' h.1.1 ).le (Nat.le_of_ble_eq_true rfl) (fun v σ2 ⟨h1, h3, h4⟩ => ⟨h1, h.1.tr h3 sb72_a41fece, (h3.2 _ _ _ _ (by first | exact nMI rfl | (unfold MI; omega))).trans (h.2.1), trivial⟩)) (pc' := 116) rfl ?_
      refine T_iinc (L' := [(0, av 1 0 0), (1, av 1 1 0), (2, iv (x12 + 1))]) zk_22_116 (nL := 3) rfl rfl rfl rfl (pc' := 119) rfl ?_
      refine T_goto zk_22_119 ?_
      exact ih13 (x12 + 1) (by omega) (by omega)
  ·
    refine T_ld zk_22_62 rfl rfl rfl (pc' := 63) rfl ?_
    refine T_getR (t' := 14) (i' := 0) (k' := 0) zk_22_63 rfl rfl rfl (vd_1 (by omega)) (pc' := 66) rfl ?_
    refine T_ld zk_22_66 rfl rfl rfl (pc' := 67) rfl ?_
    refine G_aald (t' := 23) (im := 9) (i' := 0) (ln := 5) zk_22_67 rfl rfl rfl (vd_14 (by omega)) (by omega) (by omega) (by omega) (pc' := 68) rfl ?_
    refine T_ld zk_22_68 rfl rfl rfl (pc' := 69) rfl ?_
    refine T_getR (t' := 14) (i' := 1) (k' := 0) zk_22_69 rfl rfl rfl (vd_1 (by omega)) (pc' := 72) rfl ?_
    refine T_ld zk_22_72 rfl rfl rfl (pc' := 73) rfl ?_
    refine G_aald (t' := 23) (im := 9) (i' := 1) (ln := 5) zk_22_73 rfl rfl rfl (vd_14 (by omega)) (by omega) (by omega) (by omega) (pc' := 74) rfl ?_
    refine T_callv (J' := (fun σ' => IF (MY 0) σ σ' ∧ True)) (r := []) zk_22_74 rfl rfl rfl rfl rfl rfl (Or.inr ⟨_, _, _, _, rfl, (vd_23 (by omega) (by omega)), rfl⟩) (fun σ' h => (w_46 0 (Int.toNat x6) 1 (by omega) (by omega) (by omega) σ' h.1.1 ).le (Nat.le_of_ble_eq_true rfl) (fun v σ2 ⟨h1, h3, h4⟩ => ⟨h1, h.1.tr h3 sb72_f3781e5, trivial⟩)) (pc' := 77) rfl ?_
    refine T_iinc (L' := [(0, av 1 0 0), (1, av 1 1 0), (2, iv (x6 + 1))]) zk_22_77 (nL := 3) rfl rfl rfl rfl (pc' := 80) rfl ?_
    refine T_goto zk_22_80 ?_
    exact ih7 (x6 + 1) (by omega) (by omega)
theorem sb72_a72532b : ∀ t i k j, MLW 0 t i k j → MLr 0 t i k j := by
  intro t i k j h
  unfold MLW at h
  unfold MLr
  omega
/-- W.quarters -/
theorem s_106 {xs : Nat × (Nat → Int32)} (p0 : Int) (n : Int) (hp0 : -2147483648 ≤ p0 ∧ p0 ≤ 2147483647) (hn : 0 ≤ n ∧ n ≤ 20000) (σ : ZS) (hI : Inv σ)  (s1 : σ 1 0 0 13 = n) : CT xs 8 106 [av 0 0 0, iv p0] σ (fun v σ' => ∃ y, v = some (iv y) ∧ ((y = -6 ∧ (¬ (1 ≤ p0 ∧ p0 ≤ 200))) ∨ (y = -7 ∧ ¬ (¬ (1 ≤ p0 ∧ p0 ≤ 200)) ∧ (20000 < n + p0)) ∨ (y = n + p0 ∧ ¬ (¬ (1 ≤ p0 ∧ p0 ≤ 200)) ∧ ¬ (20000 < n + p0))) ∧ IF (MLr 0) σ σ' ∧ (((y < 0 → σ' 1 0 0 13 = n) ∧ (0 ≤ y → σ' 1 0 0 13 = y)) ∧ True)) := by
  refine G_ct (J := (fun σ' => IF (MLr 0) σ σ' ∧ σ' 1 0 0 13 = n ∧ True)) (L := [(0, av 0 0 0), (1, iv p0)]) (nL := 3) rfl rfl rfl ⟨IF.rf hI, s1, trivial⟩ ?_
  refine T_ld zk_106_0 rfl rfl rfl (pc' := 1) rfl ?_
  refine T_op zk_106_1 rfl X_ic (pc' := 2) rfl ?_
  refine T_op zk_106_2 rfl (X_si (v := 200) (by decide)) (pc' := 5) rfl ?_
  refine T_calli (K := fun y1 σ' => ((y1 = 0 ∧ (p0 < 1 ∨ 200 < p0)) ∨ (y1 = 1 ∧ 1 ≤ p0 ∧ p0 ≤ 200)) ∧ (fun σ' => IF (MLr 0) σ σ' ∧ σ' 1 0 0 13 = n ∧ True) σ') (r := []) zk_106_5 rfl rfl rfl rfl rfl rfl (Or.inl (Or.inl rfl)) (fun σ' h => (w_114 p0 1 200 (by omega) (by omega) (by omega) σ' h.1.1 ).le (Nat.le_of_ble_eq_true rfl) (fun v σ2 ⟨y, h1, h2, h3, h4⟩ => ⟨y, h1, h2, h.1.tr h3 MN_sub, (h3.2 _ _ _ _ (fun q => q)).trans (h.2.1), trivial⟩)) (pc' := 8) rfl (fun y1 => ?_)
  refine G_ex (fun hy1 => ?_)
  refine T_if_ne zk_106_8 (by omega) (pc' := 11) rfl (fun h2 => ?_) (fun h3 => ?_)
  ·
    refine T_ld zk_106_18 rfl rfl rfl (pc' := 19) rfl ?_
    refine T_getR (t' := 1) (i' := 0) (k' := 0) zk_106_19 rfl rfl rfl vd_0 (pc' := 22) rfl ?_
    refine G_getX (w := n) zk_106_22 rfl (vd_1 (by omega)) (fun σ' h => h.2.1) (pc' := 25) rfl ?_
    refine T_ld zk_106_25 rfl rfl rfl (pc' := 26) rfl ?_
    refine T_op zk_106_26 rfl X_add (pc' := 27) rfl ?_
    refine T_op zk_106_27 rfl (X_si (v := 20000) (by decide)) (pc' := 30) rfl ?_
    refine T_icmp_le zk_106_30 (by omega) (by omega) (pc' := 33) rfl (fun h4 => ?_) (fun h5 => ?_)
    ·
      refine T_op zk_106_40 rfl X_ic (pc' := 41) rfl ?_
      refine T_st (L' := [(0, av 0 0 0), (1, iv p0), (2, iv 0)]) zk_106_41 (nL := 3) rfl rfl rfl rfl rfl (pc' := 42) rfl ?_
      refine G_know (J' := (fun σ' => IF (MLr 0) σ σ' ∧ σ' 1 0 0 13 = n + 0 ∧ True)) (fun σ' h => ⟨h.1, (h.2.1).trans (by omega), trivial⟩) ?_
      refine T_loop1 (fun x6 => ((200 - x6 : Int)).toNat) (fun x6 => (0 ≤ x6 ∧ x6 ≤ 200) ∧ x6 ≤ p0) (fun x6 => TJ xs (fun σ' => IF (MLr 0) σ σ' ∧ σ' 1 0 0 13 = n + x6 ∧ True) 7 106 42 [(0, av 0 0 0), (1, iv p0), (2, iv x6)] [] _) ?_ 0 (by omega)
      intro x6 hp8 ih7
      refine T_ld zk_106_42 rfl rfl rfl (pc' := 43) rfl ?_
      refine T_ld zk_106_43 rfl rfl rfl (pc' := 44) rfl ?_
      refine T_icmp_ge zk_106_44 (by omega) (by omega) (pc' := 47) rfl (fun h9 => ?_) (fun h10 => ?_)
      ·
        refine T_ld zk_106_68 rfl rfl rfl (pc' := 69) rfl ?_
        refine T_getR (t' := 1) (i' := 0) (k' := 0) zk_106_69 rfl rfl rfl vd_0 (pc' := 72) rfl ?_
        refine G_getX (w := n + x6) zk_106_72 rfl (vd_1 (by omega)) (fun σ' h => h.2.1) (pc' := 75) rfl ?_
        exact T_iret zk_106_75 rfl (fun σ' h => ⟨_, rfl, (by omega), h.1, ⟨(by have e := h.2.1; omega), trivial⟩⟩)
      ·
        refine T_ld zk_106_47 rfl rfl rfl (pc' := 48) rfl ?_
        refine T_getR (t' := 1) (i' := 0) (k' := 0) zk_106_48 rfl rfl rfl vd_0 (pc' := 51) rfl ?_
        refine T_op zk_106_51 rfl X_ic (pc' := 52) rfl ?_
        refine T_callv (J' := (fun σ' => IF (MLr 0) σ σ' ∧ σ' 1 0 0 13 = n + x6 ∧ True)) (r := []) zk_106_52 rfl rfl rfl rfl rfl rfl (Or.inr ⟨_, _, _, _, rfl, (vd_1 (by omega)), rfl⟩) (fun σ' h => (s_12 0 0 (by omega) (by omega) σ' h.1.1 ).le (Nat.le_of_ble_eq_true rfl) (fun v σ2 ⟨h1, h3, h4⟩ => ⟨h1, h.1.tr h3 sb72_a72532b, (h3.2 _ _ _ _ (by first | exact nMLW rfl | (unfold MLW; omega))).trans (h.2.1), trivial⟩)) (pc' := 55) rfl ?_
        refine T_ld zk_106_55 rfl rfl rfl (pc' := 56) rfl ?_
        refine T_getR (t' := 1) (i' := 0) (k' := 0) zk_106_56 rfl rfl rfl vd_0 (pc' := 59) rfl ?_
        refine T_callv (J' := (fun σ' => IF (MLr 0) σ σ' ∧ σ' 1 0 0 13 = n + x6 + 1 ∧ True)) (r := []) zk_106_59 rfl rfl rfl rfl rfl rfl (Or.inr ⟨_, _, _, _, rfl, (vd_1 (by omega)), rfl⟩) (fun σ' h => (s_13 0 (n + x6) (by omega) (by omega) σ' h.1.1 (h.2.1)).le (Nat.le_of_ble_eq_true rfl) (fun v σ2 ⟨h1, h3, h4⟩ => ⟨h1, h.1.tr h3 sb56_3ce2b2e, h4.1, trivial⟩)) (pc' := 62) rfl ?_
        refine T_iinc (L' := [(0, av 0 0 0), (1, iv p0), (2, iv (x6 + 1))]) zk_106_62 (nL := 3) rfl rfl rfl rfl (pc' := 65) rfl ?_
        refine T_goto zk_106_65 ?_
        refine G_know (J' := (fun σ' => IF (MLr 0) σ σ' ∧ σ' 1 0 0 13 = n + (x6 + 1) ∧ True)) (fun σ' h => ⟨h.1, (h.2.1).trans (by omega), trivial⟩) ?_
        exact ih7 (x6 + 1) (by omega) (by omega)
    ·
      refine T_ld zk_106_33 rfl rfl rfl (pc' := 34) rfl ?_
      refine T_op zk_106_34 rfl (X_bi (v := -7) (by decide)) (pc' := 36) rfl ?_
      refine T_calli (K := fun y13 σ' => (y13 = (-7)) ∧ (fun σ' => IF (MLr 0) σ σ' ∧ σ' 1 0 0 13 = n ∧ True) σ') (r := []) zk_106_36 rfl rfl rfl rfl rfl rfl (Or.inr ⟨_, _, _, _, rfl, vd_0, rfl⟩) (fun σ' h => (w_113 ((-7)) (by omega) σ' h.1.1 ).le (Nat.le_of_ble_eq_true rfl) (fun v σ2 ⟨y, h1, h2, h3, h4⟩ => ⟨y, h1, h2, h.1.tr h3 sb56_59a9b6f, (h3.2 _ _ _ _ (by first | exact nMI rfl | (unfold MI; omega))).trans (h.2.1), trivial⟩)) (pc' := 39) rfl (fun y13 => ?_)
      refine G_ex (fun hy13 => ?_)
      obtain rfl : y13 = (-7) := by omega
      exact T_iret zk_106_39 rfl (fun σ' h => ⟨_, rfl, (by omega), h.1, ⟨(by have e := h.2.1; omega), trivial⟩⟩)
  ·
    refine T_ld zk_106_11 rfl rfl rfl (pc' := 12) rfl ?_
    refine T_op zk_106_12 rfl (X_bi (v := -6) (by decide)) (pc' := 14) rfl ?_
    refine T_calli (K := fun y14 σ' => (y14 = (-6)) ∧ (fun σ' => IF (MLr 0) σ σ' ∧ σ' 1 0 0 13 = n ∧ True) σ') (r := []) zk_106_14 rfl rfl rfl rfl rfl rfl (Or.inr ⟨_, _, _, _, rfl, vd_0, rfl⟩) (fun σ' h => (w_113 ((-6)) (by omega) σ' h.1.1 ).le (Nat.le_of_ble_eq_true rfl) (fun v σ2 ⟨y, h1, h2, h3, h4⟩ => ⟨y, h1, h2, h.1.tr h3 sb56_59a9b6f, (h3.2 _ _ _ _ (by first | exact nMI rfl | (unfold MI; omega))).trans (h.2.1), trivial⟩)) (pc' := 17) rfl (fun y14 => ?_)
    refine G_ex (fun hy14 => ?_)
    obtain rfl : y14 = (-6) := by omega
    exact T_iret zk_106_17 rfl (fun σ' h => ⟨_, rfl, (by omega), h.1, ⟨(by have e := h.2.1; omega), trivial⟩⟩)
/-- W.image -/
theorem s_108 {xs : Nat × (Nat → Int32)}  (a6 : Int) (a7 : Int) (a10 : Int) (a11 : Int) (a12 : Int) (a13 : Int) (ha6 : 0 ≤ a6 ∧ a6 ≤ 12) (ha7 : 0 ≤ a7 ∧ a7 ≤ 6) (ha10 : 0 ≤ a10 ∧ a10 ≤ 99) (ha11 : 1 ≤ a11 ∧ a11 ≤ 9) (ha12 : 0 ≤ a12 ∧ a12 ≤ 9999) (ha13 : -2147483648 ≤ a13 ∧ a13 ≤ 2147483647) (σ : ZS) (hI : Inv σ)  (s0 : σ 1 0 0 6 = a6) (s1 : σ 1 0 0 7 = a7) (s2 : σ 1 0 0 10 = a10) (s3 : σ 1 0 0 11 = a11) (s4 : σ 1 0 0 12 = a12) (s5 : σ 1 0 0 13 = a13) : CT xs 4 108 [av 0 0 0] σ (fun v σ' => ∃ y, v = some (iv y) ∧ (y = a13) ∧ IF MIg σ σ' ∧ (σ' 1 1 0 6 = a6 ∧ σ' 1 1 0 7 = a7 ∧ σ' 1 1 0 10 = a10 ∧ σ' 1 1 0 11 = a11 ∧ σ' 1 1 0 12 = a12 ∧ σ' 1 1 0 13 = a13 ∧ σ' 0 0 0 3 = 1 ∧ True)) := by
  refine G_ct (J := (fun σ' => IF MIg σ σ' ∧ True)) (L := [(0, av 0 0 0)]) (nL := 1) rfl rfl rfl ⟨IF.rf hI, trivial⟩ ?_
  refine T_ld zk_108_0 rfl rfl rfl (pc' := 1) rfl ?_
  refine T_getR (t' := 1) (i' := 1) (k' := 0) zk_108_1 rfl rfl rfl vd_0 (pc' := 4) rfl ?_
  refine T_ld zk_108_4 rfl rfl rfl (pc' := 5) rfl ?_
  refine T_getR (t' := 1) (i' := 0) (k' := 0) zk_108_5 rfl rfl rfl vd_0 (pc' := 8) rfl ?_
  refine T_callv (J' := (fun σ' => IF MIg σ σ' ∧ σ' 1 1 0 6 = a6 ∧ σ' 1 1 0 7 = a7 ∧ σ' 1 1 0 10 = a10 ∧ σ' 1 1 0 11 = a11 ∧ σ' 1 1 0 12 = a12 ∧ σ' 1 1 0 13 = a13 ∧ True)) (r := []) zk_108_8 rfl rfl rfl rfl rfl rfl (Or.inr ⟨_, _, _, _, rfl, (vd_1 (by omega)), rfl⟩) (fun σ' h => (s_22_1 a6 a7 a10 a11 a12 a13 (by omega) (by omega) (by omega) (by omega) (by omega) (by omega) σ' h.1.1 ((h.1.2 _ _ _ _ (by first | exact nMIg rfl | (unfold MIg; omega))).trans s0) ((h.1.2 _ _ _ _ (by first | exact nMIg rfl | (unfold MIg; omega))).trans s1) ((h.1.2 _ _ _ _ (by first | exact nMIg rfl | (unfold MIg; omega))).trans s2) ((h.1.2 _ _ _ _ (by first | exact nMIg rfl | (unfold MIg; omega))).trans s3) ((h.1.2 _ _ _ _ (by first | exact nMIg rfl | (unfold MIg; omega))).trans s4) ((h.1.2 _ _ _ _ (by first | exact nMIg rfl | (unfold MIg; omega))).trans s5)).le (Nat.le_of_ble_eq_true rfl) (fun v σ2 ⟨h1, h3, h4⟩ => ⟨h1, h.1.tr h3 sb56_a084065, h4.1, h4.2.1, h4.2.2.1, h4.2.2.2.1, h4.2.2.2.2.1, h4.2.2.2.2.2.1, trivial⟩)) (pc' := 11) rfl ?_
  refine T_ld zk_108_11 rfl rfl rfl (pc' := 12) rfl ?_
  refine T_op zk_108_12 rfl X_ic (pc' := 13) rfl ?_
  refine T_putz (J' := (fun σ' => IF MIg σ σ' ∧ σ' 1 1 0 6 = a6 ∧ σ' 1 1 0 7 = a7 ∧ σ' 1 1 0 10 = a10 ∧ σ' 1 1 0 11 = a11 ∧ σ' 1 1 0 12 = a12 ∧ σ' 1 1 0 13 = a13 ∧ σ' 0 0 0 3 = 1 ∧ True)) zk_108_13 rfl rfl (by omega) vd_0 (fun σ' h => ⟨h.1.up (by simp only [rgP] <;> omega) (by first | exact pMIg rfl | (unfold MIg; omega)), (up_ne (by omega)).trans (h.2.1), (up_ne (by omega)).trans (h.2.2.1), (up_ne (by omega)).trans (h.2.2.2.1), (up_ne (by omega)).trans (h.2.2.2.2.1), (up_ne (by omega)).trans (h.2.2.2.2.2.1), (up_ne (by omega)).trans (h.2.2.2.2.2.2.1), up_eq, trivial⟩) (pc' := 16) rfl ?_
  refine T_ld zk_108_16 rfl rfl rfl (pc' := 17) rfl ?_
  refine T_getR (t' := 1) (i' := 0) (k' := 0) zk_108_17 rfl rfl rfl vd_0 (pc' := 20) rfl ?_
  refine G_getX (w := a13) zk_108_20 rfl (vd_1 (by omega)) (fun σ' h => (h.1.2 _ _ _ _ (by first | exact nMIg rfl | (unfold MIg; omega))).trans s5) (pc' := 23) rfl ?_
  exact T_iret zk_108_23 rfl (fun σ' h => ⟨_, rfl, (by omega), h.1, ⟨h.2.1, h.2.2.1, h.2.2.2.1, h.2.2.2.2.1, h.2.2.2.2.2.1, h.2.2.2.2.2.2.1, h.2.2.2.2.2.2.2.1, trivial⟩⟩)
/-- W.restore -/
theorem s_109n {xs : Nat × (Nat → Int32)}   (σ : ZS) (hI : Inv σ)  (s0 : σ 0 0 0 3 = 0) : CT xs 3 109 [av 0 0 0] σ (fun v σ' => ∃ y, v = some (iv y) ∧ (y = -6) ∧ IF (MI 0 28 28 28 28) σ σ' ∧ (True)) := by
  refine G_ct (J := (fun σ' => IF (MI 0 28 28 28 28) σ σ' ∧ True)) (L := [(0, av 0 0 0)]) (nL := 2) rfl rfl rfl ⟨IF.rf hI, trivial⟩ ?_
  refine T_ld zk_109_0 rfl rfl rfl (pc' := 1) rfl ?_
  refine G_getX (w := 0) zk_109_1 rfl vd_0 (fun σ' h => (h.1.2 _ _ _ _ (by first | exact nMI rfl | (unfold MI; omega))).trans s0) (pc' := 4) rfl ?_
  refine T_if_ne zk_109_4 (by omega) (pc' := 7) rfl (fun h1 => ?_) (fun h2 => ?_)
  · exfalso; omega
  ·
    refine T_ld zk_109_7 rfl rfl rfl (pc' := 8) rfl ?_
    refine T_op zk_109_8 rfl (X_bi (v := -6) (by decide)) (pc' := 10) rfl ?_
    refine T_calli (K := fun y3 σ' => (y3 = (-6)) ∧ (fun σ' => IF (MI 0 28 28 28 28) σ σ' ∧ True) σ') (r := []) zk_109_10 rfl rfl rfl rfl rfl rfl (Or.inr ⟨_, _, _, _, rfl, vd_0, rfl⟩) (fun σ' h => (w_113 ((-6)) (by omega) σ' h.1.1 ).le (Nat.le_of_ble_eq_true rfl) (fun v σ2 ⟨y, h1, h2, h3, h4⟩ => ⟨y, h1, h2, h.1.tr h3 (fun _ _ _ _ h => h), trivial⟩)) (pc' := 13) rfl (fun y3 => ?_)
    refine G_ex (fun hy3 => ?_)
    obtain rfl : y3 = (-6) := by omega
    exact T_iret zk_109_13 rfl (fun σ' h => ⟨_, rfl, (by omega), h.1, trivial⟩)
/-- W.restore -/
theorem s_109y {xs : Nat × (Nat → Int32)}  (a6 : Int) (a7 : Int) (a10 : Int) (a11 : Int) (a12 : Int) (a13 : Int) (ha6 : 0 ≤ a6 ∧ a6 ≤ 12) (ha7 : 0 ≤ a7 ∧ a7 ≤ 6) (ha10 : 0 ≤ a10 ∧ a10 ≤ 99) (ha11 : 1 ≤ a11 ∧ a11 ≤ 9) (ha12 : 0 ≤ a12 ∧ a12 ≤ 9999) (ha13 : -2147483648 ≤ a13 ∧ a13 ≤ 2147483647) (σ : ZS) (hI : Inv σ)  (s0 : σ 0 0 0 3 = 1) (t0 : σ 1 1 0 6 = a6) (t1 : σ 1 1 0 7 = a7) (t2 : σ 1 1 0 10 = a10) (t3 : σ 1 1 0 11 = a11) (t4 : σ 1 1 0 12 = a12) (t5 : σ 1 1 0 13 = a13) : CT xs 4 109 [av 0 0 0] σ (fun v σ' => ∃ y, v = some (iv y) ∧ (y = a13) ∧ IF MRs σ σ' ∧ (σ' 1 0 0 6 = a6 ∧ σ' 1 0 0 7 = a7 ∧ σ' 1 0 0 10 = a10 ∧ σ' 1 0 0 11 = a11 ∧ σ' 1 0 0 12 = a12 ∧ σ' 1 0 0 13 = a13 ∧ True)) := by
  refine G_ct (J := (fun σ' => IF MRs σ σ' ∧ True)) (L := [(0, av 0 0 0)]) (nL := 2) rfl rfl rfl ⟨IF.rf hI, trivial⟩ ?_
  refine T_ld zk_109_0 rfl rfl rfl (pc' := 1) rfl ?_
  refine G_getX (w := 1) zk_109_1 rfl vd_0 (fun σ' h => (h.1.2 _ _ _ _ (by first | exact nMRs rfl | (unfold MRs; omega))).trans s0) (pc' := 4) rfl ?_
  refine T_if_ne zk_109_4 (by omega) (pc' := 7) rfl (fun h1 => ?_) (fun h2 => ?_)
  ·
    refine T_ld zk_109_14 rfl rfl rfl (pc' := 15) rfl ?_
    refine T_getR (t' := 1) (i' := 0) (k' := 0) zk_109_15 rfl rfl rfl vd_0 (pc' := 18) rfl ?_
    refine T_ld zk_109_18 rfl rfl rfl (pc' := 19) rfl ?_
    refine T_getR (t' := 1) (i' := 1) (k' := 0) zk_109_19 rfl rfl rfl vd_0 (pc' := 22) rfl ?_
    refine T_callv (J' := (fun σ' => IF MRs σ σ' ∧ σ' 1 0 0 6 = a6 ∧ σ' 1 0 0 7 = a7 ∧ σ' 1 0 0 10 = a10 ∧ σ' 1 0 0 11 = a11 ∧ σ' 1 0 0 12 = a12 ∧ σ' 1 0 0 13 = a13 ∧ True)) (r := []) zk_109_22 rfl rfl rfl rfl rfl rfl (Or.inr ⟨_, _, _, _, rfl, (vd_1 (by omega)), rfl⟩) (fun σ' h => (s_22_0 a6 a7 a10 a11 a12 a13 (by omega) (by omega) (by omega) (by omega) (by omega) (by omega) σ' h.1.1 ((h.1.2 _ _ _ _ (by first | exact nMRs rfl | (unfold MRs; omega))).trans t0) ((h.1.2 _ _ _ _ (by first | exact nMRs rfl | (unfold MRs; omega))).trans t1) ((h.1.2 _ _ _ _ (by first | exact nMRs rfl | (unfold MRs; omega))).trans t2) ((h.1.2 _ _ _ _ (by first | exact nMRs rfl | (unfold MRs; omega))).trans t3) ((h.1.2 _ _ _ _ (by first | exact nMRs rfl | (unfold MRs; omega))).trans t4) ((h.1.2 _ _ _ _ (by first | exact nMRs rfl | (unfold MRs; omega))).trans t5)).le (Nat.le_of_ble_eq_true rfl) (fun v σ2 ⟨h1, h3, h4⟩ => ⟨h1, h.1.tr h3 sb56_b1b531c, h4.1, h4.2.1, h4.2.2.1, h4.2.2.2.1, h4.2.2.2.2.1, h4.2.2.2.2.2.1, trivial⟩)) (pc' := 25) rfl ?_
    refine T_op zk_109_25 rfl X_ic (pc' := 26) rfl ?_
    refine T_st (L' := [(0, av 0 0 0), (1, iv 0)]) zk_109_26 (nL := 2) rfl rfl rfl rfl rfl (pc' := 27) rfl ?_
    refine T_loop1 (fun x4 => ((8 - x4 : Int)).toNat) (fun x4 => (0 ≤ x4 ∧ x4 ≤ 8)) (fun x4 => TJ xs (fun σ' => IF MRs σ σ' ∧ σ' 1 0 0 6 = a6 ∧ σ' 1 0 0 7 = a7 ∧ σ' 1 0 0 10 = a10 ∧ σ' 1 0 0 11 = a11 ∧ σ' 1 0 0 12 = a12 ∧ σ' 1 0 0 13 = a13 ∧ True) 3 109 27 [(0, av 0 0 0), (1, iv x4)] [] _) ?_ 0 (by omega)
    intro x4 hp6 ih5
    refine T_ld zk_109_27 rfl rfl rfl (pc' := 28) rfl ?_
    refine T_op zk_109_28 rfl (X_bi (v := 8) (by decide)) (pc' := 30) rfl ?_
    refine T_icmp_ge zk_109_30 (by omega) (by omega) (pc' := 33) rfl (fun h7 => ?_) (fun h8 => ?_)
    ·
      refine T_ld zk_109_78 rfl rfl rfl (pc' := 79) rfl ?_
      refine T_getR (t' := 1) (i' := 0) (k' := 0) zk_109_79 rfl rfl rfl vd_0 (pc' := 82) rfl ?_
      refine G_getX (w := a13) zk_109_82 rfl (vd_1 (by omega)) (fun σ' h => h.2.2.2.2.2.2.1) (pc' := 85) rfl ?_
      exact T_iret zk_109_85 rfl (fun σ' h => ⟨_, rfl, (by omega), h.1, ⟨h.2.1, h.2.2.1, h.2.2.2.1, h.2.2.2.2.1, h.2.2.2.2.2.1, h.2.2.2.2.2.2.1, trivial⟩⟩)
    ·
      refine T_ld zk_109_33 rfl rfl rfl (pc' := 34) rfl ?_
      refine T_getR (t' := 27) (i' := 0) (k' := 0) zk_109_34 rfl rfl rfl vd_0 (pc' := 37) rfl ?_
      refine T_ld zk_109_37 rfl rfl rfl (pc' := 38) rfl ?_
      refine G_aald (t' := 33) (im := 0) (i' := 0) (ln := 8) zk_109_38 rfl rfl rfl vd_27 (by omega) (by omega) (by omega) (pc' := 39) rfl ?_
      refine G_getf (lo := -2147483648) (hi := 2147483647) zk_109_39 rfl (vd_33 (by omega)) (fun σ' h => h.1.1) (fun _ h => (by have q := h.1; omega)) (pc' := 42) rfl (fun y9 hy9 hy9' => ?_)
      refine T_op zk_109_42 rfl X_ic (pc' := 43) rfl ?_
      refine T_icmp_ne zk_109_43 (by omega) (by omega) (pc' := 46) rfl (fun h10 => ?_) (fun h11 => ?_)
      ·
        refine T_iinc (L' := [(0, av 0 0 0), (1, iv (x4 + 1))]) zk_109_72 (nL := 2) rfl rfl rfl rfl (pc' := 75) rfl ?_
        refine T_goto zk_109_75 ?_
        exact ih5 (x4 + 1) (by omega) (by omega)
      ·
        refine T_ld zk_109_46 rfl rfl rfl (pc' := 47) rfl ?_
        refine T_ld zk_109_47 rfl rfl rfl (pc' := 48) rfl ?_
        refine T_getR (t' := 27) (i' := 0) (k' := 0) zk_109_48 rfl rfl rfl vd_0 (pc' := 51) rfl ?_
        refine T_ld zk_109_51 rfl rfl rfl (pc' := 52) rfl ?_
        refine G_aald (t' := 33) (im := 0) (i' := 0) (ln := 8) zk_109_52 rfl rfl rfl vd_27 (by omega) (by omega) (by omega) (pc' := 53) rfl ?_
        refine G_getf (lo := -2147483648) (hi := 2147483647) zk_109_53 rfl (vd_33 (by omega)) (fun σ' h => h.1.1) (fun _ h => (by have q := h.1; omega)) (pc' := 56) rfl (fun y12 hy12 hy12' => ?_)
        refine T_calli (K := fun y13 σ' => ((y13 = 0 ∧ (y12 < 0 ∨ a6 ≤ y12)) ∨ (y13 = 1 ∧ 0 ≤ y12 ∧ y12 < a6)) ∧ (fun σ' => IF MRs σ σ' ∧ σ' 1 0 0 6 = a6 ∧ σ' 1 0 0 7 = a7 ∧ σ' 1 0 0 10 = a10 ∧ σ' 1 0 0 11 = a11 ∧ σ' 1 0 0 12 = a12 ∧ σ' 1 0 0 13 = a13 ∧ True) σ') (r := []) zk_109_56 rfl rfl rfl rfl rfl rfl (Or.inr ⟨_, _, _, _, rfl, vd_0, rfl⟩) (fun σ' h => (w_117 y12 a6 (by omega) (by omega) σ' h.1.1 (h.2.1)).le (Nat.le_of_ble_eq_true rfl) (fun v σ2 ⟨y, h1, h2, h3, h4⟩ => ⟨y, h1, h2, h.1.tr h3 MN_sub, (h3.2 _ _ _ _ (fun q => q)).trans (h.2.1), (h3.2 _ _ _ _ (fun q => q)).trans (h.2.2.1), (h3.2 _ _ _ _ (fun q => q)).trans (h.2.2.2.1), (h3.2 _ _ _ _ (fun q => q)).trans (h.2.2.2.2.1), (h3.2 _ _ _ _ (fun q => q)).trans (h.2.2.2.2.2.1), (h3.2 _ _ _ _ (fun q => q)).trans (h.2.2.2.2.2.2.1), trivial⟩)) (pc' := 59) rfl (fun y13 => ?_)
        refine G_ex (fun hy13 => ?_)
        refine T_if_ne zk_109_59 (by omega) (pc' := 62) rfl (fun h14 => ?_) (fun h15 => ?_)
        ·
          refine T_iinc (L' := [(0, av 0 0 0), (1, iv (x4 + 1))]) zk_109_72 (nL := 2) rfl rfl rfl rfl (pc' := 75) rfl ?_
          refine T_goto zk_109_75 ?_
          exact ih5 (x4 + 1) (by omega) (by omega)
        ·
          refine T_ld zk_109_62 rfl rfl rfl (pc' := 63) rfl ?_
          refine T_getR (t' := 27) (i' := 0) (k' := 0) zk_109_63 rfl rfl rfl vd_0 (pc' := 66) rfl ?_
          refine T_ld zk_109_66 rfl rfl rfl (pc' := 67) rfl ?_
          refine G_aald (t' := 33) (im := 0) (i' := 0) (ln := 8) zk_109_67 rfl rfl rfl vd_27 (by omega) (by omega) (by omega) (pc' := 68) rfl ?_
          refine T_op zk_109_68 rfl X_ic (pc' := 69) rfl ?_
          refine T_putf (J' := (fun σ' => IF MRs σ σ' ∧ σ' 1 0 0 6 = a6 ∧ σ' 1 0 0 7 = a7 ∧ σ' 1 0 0 10 = a10 ∧ σ' 1 0 0 11 = a11 ∧ σ' 1 0 0 12 = a12 ∧ σ' 1 0 0 13 = a13 ∧ σ' 33 0 (Int.toNat x4) 0 = 0 ∧ True)) zk_109_69 rfl rfl (vd_33 (by omega)) (fun σ' h => ⟨h.1.up (by simp only [rgP] <;> omega) (by first | exact pMRs rfl | (unfold MRs; omega)), (up_ne (by omega)).trans (h.2.1), (up_ne (by omega)).trans (h.2.2.1), (up_ne (by omega)).trans (h.2.2.2.1), (up_ne (by omega)).trans (h.2.2.2.2.1), (up_ne (by omega)).trans (h.2.2.2.2.2.1), (up_ne (by omega)).trans (h.2.2.2.2.2.2.1), up_eq, trivial⟩) (pc' := 72) rfl ?_
          refine T_iinc (L' := [(0, av 0 0 0), (1, iv (x4 + 1))]) zk_109_72 (nL := 2) rfl rfl rfl rfl (pc' := 75) rfl ?_
          refine T_goto zk_109_75 ?_
          refine G_know (J' := (fun σ' => IF MRs σ σ' ∧ σ' 1 0 0 6 = a6 ∧ σ' 1 0 0 7 = a7 ∧ σ' 1 0 0 10 = a10 ∧ σ' 1 0 0 11 = a11 ∧ σ' 1 0 0 12 = a12 ∧ σ' 1 0 0 13 = a13 ∧ True)) (fun σ' h => ⟨h.1, h.2.1, h.2.2.1, h.2.2.2.1, h.2.2.2.2.1, h.2.2.2.2.2.1, h.2.2.2.2.2.2.1, trivial⟩) ?_
          exact ih5 (x4 + 1) (by omega) (by omega)
  · exfalso; omega
