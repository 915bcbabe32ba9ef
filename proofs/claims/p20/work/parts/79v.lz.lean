def MRp (t i k j : Nat) : Prop := (t = 29 ∧ j = 3) ∨ (t = 30 ∧ (j = 0 ∨ j = 2)) ∨ t = 31
theorem nMRp { t i k j : Nat} (hb : decide (((t = 29 ∧ j = 3) ∨ (t = 30 ∧ (j = 0 ∨ j = 2)) ∨ t = 31)) = false) : ¬ MRp  t i k j := fun h => of_decide_eq_false hb (by unfold MRp at h; omega)
theorem pMRp { t i k j : Nat} (hb : decide (((t = 29 ∧ j = 3) ∨ (t = 30 ∧ (j = 0 ∨ j = 2)) ∨ t = 31)) = true) : MRp  t i k j := by
  have h := of_decide_eq_true hb
  unfold MRp
  omega
def MRq (t i k j : Nat) : Prop := (t = 30 ∧ j = 2) ∨ t = 31
theorem nMRq { t i k j : Nat} (hb : decide (((t = 30 ∧ j = 2) ∨ t = 31)) = false) : ¬ MRq  t i k j := fun h => of_decide_eq_false hb (by unfold MRq at h; omega)
theorem pMRq { t i k j : Nat} (hb : decide (((t = 30 ∧ j = 2) ∨ t = 31)) = true) : MRq  t i k j := by
  have h := of_decide_eq_true hb
  unfold MRq
  omega
def MRb (t i k j : Nat) : Prop := t = 30
theorem nMRb { t i k j : Nat} (hb : decide (t = 30) = false) : ¬ MRb  t i k j := fun h => of_decide_eq_false hb (by unfold MRb at h; omega)
theorem pMRb { t i k j : Nat} (hb : decide (t = 30) = true) : MRb  t i k j := by
  have h := of_decide_eq_true hb
  unfold MRb
  omega
/-- W$LawReader.here -/
theorem s_49 {xs : Nat × (Nat → Int32)}  (n : Int) (p : Int) (F : Nat → Int) (hn : 0 ≤ n ∧ n ≤ 96) (hp : 0 ≤ p ∧ p ≤ 200) (σ : ZS) (hI : Inv σ)  (sp : σ 29 0 0 3 = p) (sn : σ 29 0 0 2 = n) (sl : eqn F (σ 32 0 0) (Int.toNat n)) : CT xs 1 49 [av 29 0 0] σ (fun v σ' => ∃ y, v = some (iv y) ∧ (y = lt F n (p) ∧ -2147483648 ≤ y ∧ y ≤ 2147483647) ∧ IF MN σ σ' ∧ (True)) := by
  refine G_ct (J := (fun σ' => IF MN σ σ' ∧ eqn F (σ' 32 0 0) (Int.toNat n) ∧ True)) (L := [(0, av 29 0 0)]) (nL := 1) rfl rfl rfl ⟨IF.rf hI, sl, trivial⟩ ?_
  have hlt := lt_spec F n p
  refine T_ld zk_49_0 rfl rfl rfl (pc' := 1) rfl ?_
  refine G_getX (w := p) zk_49_1 rfl vd_29 (fun σ' h => (h.1.2 _ _ _ _ (fun q => q)).trans sp) (pc' := 4) rfl ?_
  refine T_if_lt zk_49_4 (by omega) (pc' := 7) rfl (fun h1 => ?_) (fun h2 => ?_)
  · exfalso; omega
  ·
    refine T_ld zk_49_7 rfl rfl rfl (pc' := 8) rfl ?_
    refine G_getX (w := p) zk_49_8 rfl vd_29 (fun σ' h => (h.1.2 _ _ _ _ (fun q => q)).trans sp) (pc' := 11) rfl ?_
    refine T_ld zk_49_11 rfl rfl rfl (pc' := 12) rfl ?_
    refine G_getX (w := n) zk_49_12 rfl vd_29 (fun σ' h => (h.1.2 _ _ _ _ (fun q => q)).trans sn) (pc' := 15) rfl ?_
    refine T_icmp_ge zk_49_15 (by omega) (by omega) (pc' := 18) rfl (fun h3 => ?_) (fun h4 => ?_)
    ·
      refine T_op zk_49_30 rfl X_ic (pc' := 31) rfl ?_
      exact T_iret zk_49_31 rfl (fun σ' h => ⟨_, rfl, (by omega), h.1, trivial⟩)
    ·
      refine T_ld zk_49_18 rfl rfl rfl (pc' := 19) rfl ?_
      refine T_getR (t' := 32) (i' := 0) (k' := 0) zk_49_19 rfl rfl rfl vd_29 (pc' := 22) rfl ?_
      refine T_ld zk_49_22 rfl rfl rfl (pc' := 23) rfl ?_
      refine G_getX (w := p) zk_49_23 rfl vd_29 (fun σ' h => (h.1.2 _ _ _ _ (fun q => q)).trans sp) (pc' := 26) rfl ?_
      refine G_pure (P := -2147483648 ≤ F (Int.toNat p) ∧ F (Int.toNat p) ≤ 2147483647) (fun σ' h => by have q : -2147483648 ≤ σ' 32 0 0 (Int.toNat p) ∧ σ' 32 0 0 (Int.toNat p) ≤ 2147483647 := (fun h => (by have q := h.1; omega)) (h.1.1 32 0 0 (Int.toNat p) vd_32); rw [h.2.1 _ (by omega)] at q; exact q) (fun hq5 => ?_)
      refine G_ialdX (w := F (Int.toNat p)) (ln := 96) zk_49_26 rfl rfl vd_32 (by omega) (by omega) (by omega) (fun σ' h => h.2.1 _ (by omega)) (pc' := 27) rfl ?_
      refine T_goto zk_49_27 ?_
      exact T_iret zk_49_31 rfl (fun σ' h => ⟨_, rfl, (by omega), h.1, trivial⟩)
/-- W$LawReader.step -/
theorem s_50 {xs : Nat × (Nat → Int32)} (p0 : Int) (n : Int) (p : Int) (F : Nat → Int) (hp0 : 0 ≤ p0 ∧ p0 ≤ 127) (hn : 0 ≤ n ∧ n ≤ 96) (hp : 0 ≤ p ∧ p ≤ 200) (σ : ZS) (hI : Inv σ)  (sp : σ 29 0 0 3 = p) (sn : σ 29 0 0 2 = n) (sl : eqn F (σ 32 0 0) (Int.toNat n)) : CT xs 2 50 [av 29 0 0, iv p0] σ (fun v σ' => ∃ y, v = some (iv y) ∧ ((y = 0 ∧ (¬ lt F n (p) = p0)) ∨ (y = 1 ∧ ¬ (¬ lt F n (p) = p0))) ∧ IF MRp σ σ' ∧ (((y = 1 → σ' 29 0 0 3 = p + 1) ∧ (y = 0 → σ' 29 0 0 3 = p)) ∧ True)) := by
  refine G_ct (J := (fun σ' => IF MRp σ σ' ∧ σ' 29 0 0 3 = p ∧ eqn F (σ' 32 0 0) (Int.toNat n) ∧ True)) (L := [(0, av 29 0 0), (1, iv p0)]) (nL := 2) rfl rfl rfl ⟨IF.rf hI, sp, sl, trivial⟩ ?_
  refine T_ld zk_50_0 rfl rfl rfl (pc' := 1) rfl ?_
  refine T_calli (K := fun y1 σ' => (y1 = lt F n (p) ∧ -2147483648 ≤ y1 ∧ y1 ≤ 2147483647) ∧ (fun σ' => IF MRp σ σ' ∧ σ' 29 0 0 3 = p ∧ eqn F (σ' 32 0 0) (Int.toNat n) ∧ True) σ') (r := []) zk_50_1 rfl rfl rfl rfl rfl rfl (Or.inr ⟨_, _, _, _, rfl, vd_29, rfl⟩) (fun σ' h => (s_49 n p F (by omega) (by omega) σ' h.1.1 (h.2.1) ((h.1.2 _ _ _ _ (by first | exact nMRp rfl | (unfold MRp; omega))).trans sn) (h.2.2.1)).le (Nat.le_of_ble_eq_true rfl) (fun v σ2 ⟨y, h1, h2, h3, h4⟩ => ⟨y, h1, h2, h.1.tr h3 MN_sub, (h3.2 _ _ _ _ (fun q => q)).trans (h.2.1), gf_mk (fun z => eqn F z (Int.toNat n)) (funext fun j => h3.2 _ _ _ _ (fun q => q)) (h.2.2.1), trivial⟩)) (pc' := 4) rfl (fun y1 => ?_)
  refine G_ex (fun hy1 => ?_)
  obtain rfl : y1 = lt F n (p) := by omega
  refine T_ld zk_50_4 rfl rfl rfl (pc' := 5) rfl ?_
  refine T_icmp_eq zk_50_5 (by omega) (by omega) (pc' := 8) rfl (fun h2 => ?_) (fun h3 => ?_)
  ·
    refine T_ld zk_50_10 rfl rfl rfl (pc' := 11) rfl ?_
    refine T_op (st' := [av 29 0 0, av 29 0 0]) zk_50_11 rfl rfl (pc' := 12) rfl ?_
    refine G_getX (w := p) zk_50_12 rfl vd_29 (fun σ' h => h.2.1) (pc' := 15) rfl ?_
    refine T_op zk_50_15 rfl X_ic (pc' := 16) rfl ?_
    refine T_op zk_50_16 rfl X_add (pc' := 17) rfl ?_
    refine T_putf (J' := (fun σ' => IF MRp σ σ' ∧ eqn F (σ' 32 0 0) (Int.toNat n) ∧ σ' 29 0 0 3 = p + 1 ∧ True)) zk_50_17 rfl rfl vd_29 (fun σ' h => ⟨h.1.up (by simp only [rgP] <;> omega) (by first | exact pMRp rfl | (unfold MRp; omega)), gf_mk (fun z => eqn F z (Int.toNat n)) (up_row (by omega)) (h.2.2.1), up_eq, trivial⟩) (pc' := 20) rfl ?_
    refine T_op zk_50_20 rfl X_ic (pc' := 21) rfl ?_
    exact T_zret zk_50_21 rfl (by omega) (fun σ' h => ⟨_, rfl, (by omega), h.1, ⟨(by have e := h.2.2.1; omega), trivial⟩⟩)
  ·
    refine T_op zk_50_8 rfl X_ic (pc' := 9) rfl ?_
    exact T_zret zk_50_9 rfl (by omega) (fun σ' h => ⟨_, rfl, (by omega), h.1, ⟨(by have e := h.2.1; omega), trivial⟩⟩)
/-- W$LawReader.isDigit -/
theorem s_57 {xs : Nat × (Nat → Int32)} (p0 : Int) (hp0 : -2147483648 ≤ p0 ∧ p0 ≤ 2147483647) (σ : ZS) (hI : Inv σ)   : CT xs 1 57 [iv p0] σ (fun v σ' => ∃ y, v = some (iv y) ∧ ((y = 1 ∧ (48 ≤ p0 ∧ p0 ≤ 57)) ∨ (y = 0 ∧ ¬ (48 ≤ p0 ∧ p0 ≤ 57))) ∧ IF MN σ σ' ∧ (True)) := by
  refine G_ct (J := (fun σ' => IF MN σ σ' ∧ True)) (L := [(0, iv p0)]) (nL := 1) rfl rfl rfl ⟨IF.rf hI, trivial⟩ ?_
  refine T_ld zk_57_0 rfl rfl rfl (pc' := 1) rfl ?_
  refine T_op zk_57_1 rfl (X_bi (v := 48) (by decide)) (pc' := 3) rfl ?_
  refine T_icmp_lt zk_57_3 (by omega) (by omega) (pc' := 6) rfl (fun h1 => ?_) (fun h2 => ?_)
  ·
    refine T_op zk_57_16 rfl X_ic (pc' := 17) rfl ?_
    exact T_zret zk_57_17 rfl (by omega) (fun σ' h => ⟨_, rfl, (by omega), h.1, trivial⟩)
  ·
    refine T_ld zk_57_6 rfl rfl rfl (pc' := 7) rfl ?_
    refine T_op zk_57_7 rfl (X_bi (v := 57) (by decide)) (pc' := 9) rfl ?_
    refine T_icmp_gt zk_57_9 (by omega) (by omega) (pc' := 12) rfl (fun h3 => ?_) (fun h4 => ?_)
    ·
      refine T_op zk_57_16 rfl X_ic (pc' := 17) rfl ?_
      exact T_zret zk_57_17 rfl (by omega) (fun σ' h => ⟨_, rfl, (by omega), h.1, trivial⟩)
    ·
      refine T_op zk_57_12 rfl X_ic (pc' := 13) rfl ?_
      refine T_goto zk_57_13 ?_
      exact T_zret zk_57_17 rfl (by omega) (fun σ' h => ⟨_, rfl, (by omega), h.1, trivial⟩)
/-- W$LawReader.fieldOf -/
theorem s_58 {xs : Nat × (Nat → Int32)} (p0 : Int) (hp0 : -2147483648 ≤ p0 ∧ p0 ≤ 2147483647) (σ : ZS) (hI : Inv σ)   : CT xs 1 58 [iv p0] σ (fun v σ' => ∃ y, v = some (iv y) ∧ ((y = -1 ∧ ff (p0) = 0) ∨ (0 ≤ y ∧ y ≤ 5 ∧ ff (p0) = 1)) ∧ IF MN σ σ' ∧ (True)) := by
  refine G_ct (J := (fun σ' => IF MN σ σ' ∧ True)) (L := [(0, iv p0)]) (nL := 1) rfl rfl rfl ⟨IF.rf hI, trivial⟩ ?_
  have hf := ff_spec p0
  refine T_ld zk_58_0 rfl rfl rfl (pc' := 1) rfl ?_
  by_cases h1 : p0 = 100
  · subst h1
    refine T_br (t := 106) zk_58_1 rfl rfl rfl (fun _ => rfl) rfl ?_
    refine T_op zk_58_106 rfl X_ic (pc' := 107) rfl ?_
    exact T_iret zk_58_107 rfl (fun σ' h => ⟨_, rfl, (by omega), h.1, trivial⟩)
  by_cases h2 : p0 = 101
  · subst h2
    refine T_br (t := 108) zk_58_1 rfl rfl rfl (fun _ => rfl) rfl ?_
    refine T_op zk_58_108 rfl X_ic (pc' := 109) rfl ?_
    exact T_iret zk_58_109 rfl (fun σ' h => ⟨_, rfl, (by omega), h.1, trivial⟩)
  by_cases h3 : p0 = 102
  · subst h3
    refine T_br (t := 96) zk_58_1 rfl rfl rfl (fun _ => rfl) rfl ?_
    refine T_op zk_58_96 rfl X_ic (pc' := 97) rfl ?_
    exact T_iret zk_58_97 rfl (fun σ' h => ⟨_, rfl, (by omega), h.1, trivial⟩)
  by_cases h4 : p0 = 103
  · subst h4
    refine T_br (t := 108) zk_58_1 rfl rfl rfl (fun _ => rfl) rfl ?_
    refine T_op zk_58_108 rfl X_ic (pc' := 109) rfl ?_
    exact T_iret zk_58_109 rfl (fun σ' h => ⟨_, rfl, (by omega), h.1, trivial⟩)
  by_cases h5 : p0 = 104
  · subst h5
    refine T_br (t := 102) zk_58_1 rfl rfl rfl (fun _ => rfl) rfl ?_
    refine T_op zk_58_102 rfl X_ic (pc' := 103) rfl ?_
    exact T_iret zk_58_103 rfl (fun σ' h => ⟨_, rfl, (by omega), h.1, trivial⟩)
  by_cases h6 : p0 = 105
  · subst h6
    refine T_br (t := 108) zk_58_1 rfl rfl rfl (fun _ => rfl) rfl ?_
    refine T_op zk_58_108 rfl X_ic (pc' := 109) rfl ?_
    exact T_iret zk_58_109 rfl (fun σ' h => ⟨_, rfl, (by omega), h.1, trivial⟩)
  by_cases h7 : p0 = 106
  · subst h7
    refine T_br (t := 108) zk_58_1 rfl rfl rfl (fun _ => rfl) rfl ?_
    refine T_op zk_58_108 rfl X_ic (pc' := 109) rfl ?_
    exact T_iret zk_58_109 rfl (fun σ' h => ⟨_, rfl, (by omega), h.1, trivial⟩)
  by_cases h8 : p0 = 107
  · subst h8
    refine T_br (t := 108) zk_58_1 rfl rfl rfl (fun _ => rfl) rfl ?_
    refine T_op zk_58_108 rfl X_ic (pc' := 109) rfl ?_
    exact T_iret zk_58_109 rfl (fun σ' h => ⟨_, rfl, (by omega), h.1, trivial⟩)
  by_cases h9 : p0 = 108
  · subst h9
    refine T_br (t := 100) zk_58_1 rfl rfl rfl (fun _ => rfl) rfl ?_
    refine T_op zk_58_100 rfl X_ic (pc' := 101) rfl ?_
    exact T_iret zk_58_101 rfl (fun σ' h => ⟨_, rfl, (by omega), h.1, trivial⟩)
  by_cases h10 : p0 = 109
  · subst h10
    refine T_br (t := 108) zk_58_1 rfl rfl rfl (fun _ => rfl) rfl ?_
    refine T_op zk_58_108 rfl X_ic (pc' := 109) rfl ?_
    exact T_iret zk_58_109 rfl (fun σ' h => ⟨_, rfl, (by omega), h.1, trivial⟩)
  by_cases h11 : p0 = 110
  · subst h11
    refine T_br (t := 108) zk_58_1 rfl rfl rfl (fun _ => rfl) rfl ?_
    refine T_op zk_58_108 rfl X_ic (pc' := 109) rfl ?_
    exact T_iret zk_58_109 rfl (fun σ' h => ⟨_, rfl, (by omega), h.1, trivial⟩)
  by_cases h12 : p0 = 111
  · subst h12
    refine T_br (t := 108) zk_58_1 rfl rfl rfl (fun _ => rfl) rfl ?_
    refine T_op zk_58_108 rfl X_ic (pc' := 109) rfl ?_
    exact T_iret zk_58_109 rfl (fun σ' h => ⟨_, rfl, (by omega), h.1, trivial⟩)
  by_cases h13 : p0 = 112
  · subst h13
    refine T_br (t := 108) zk_58_1 rfl rfl rfl (fun _ => rfl) rfl ?_
    refine T_op zk_58_108 rfl X_ic (pc' := 109) rfl ?_
    exact T_iret zk_58_109 rfl (fun σ' h => ⟨_, rfl, (by omega), h.1, trivial⟩)
  by_cases h14 : p0 = 113
  · subst h14
    refine T_br (t := 108) zk_58_1 rfl rfl rfl (fun _ => rfl) rfl ?_
    refine T_op zk_58_108 rfl X_ic (pc' := 109) rfl ?_
    exact T_iret zk_58_109 rfl (fun σ' h => ⟨_, rfl, (by omega), h.1, trivial⟩)
  by_cases h15 : p0 = 114
  · subst h15
    refine T_br (t := 108) zk_58_1 rfl rfl rfl (fun _ => rfl) rfl ?_
    refine T_op zk_58_108 rfl X_ic (pc' := 109) rfl ?_
    exact T_iret zk_58_109 rfl (fun σ' h => ⟨_, rfl, (by omega), h.1, trivial⟩)
  by_cases h16 : p0 = 115
  · subst h16
    refine T_br (t := 98) zk_58_1 rfl rfl rfl (fun _ => rfl) rfl ?_
    refine T_op zk_58_98 rfl X_ic (pc' := 99) rfl ?_
    exact T_iret zk_58_99 rfl (fun σ' h => ⟨_, rfl, (by omega), h.1, trivial⟩)
  by_cases h17 : p0 = 116
  · subst h17
    refine T_br (t := 108) zk_58_1 rfl rfl rfl (fun _ => rfl) rfl ?_
    refine T_op zk_58_108 rfl X_ic (pc' := 109) rfl ?_
    exact T_iret zk_58_109 rfl (fun σ' h => ⟨_, rfl, (by omega), h.1, trivial⟩)
  by_cases h18 : p0 = 117
  · subst h18
    refine T_br (t := 108) zk_58_1 rfl rfl rfl (fun _ => rfl) rfl ?_
    refine T_op zk_58_108 rfl X_ic (pc' := 109) rfl ?_
    exact T_iret zk_58_109 rfl (fun σ' h => ⟨_, rfl, (by omega), h.1, trivial⟩)
  by_cases h19 : p0 = 118
  · subst h19
    refine T_br (t := 108) zk_58_1 rfl rfl rfl (fun _ => rfl) rfl ?_
    refine T_op zk_58_108 rfl X_ic (pc' := 109) rfl ?_
    exact T_iret zk_58_109 rfl (fun σ' h => ⟨_, rfl, (by omega), h.1, trivial⟩)
  by_cases h20 : p0 = 119
  · subst h20
    refine T_br (t := 104) zk_58_1 rfl rfl rfl (fun _ => rfl) rfl ?_
    refine T_op zk_58_104 rfl X_ic (pc' := 105) rfl ?_
    exact T_iret zk_58_105 rfl (fun σ' h => ⟨_, rfl, (by omega), h.1, trivial⟩)
  refine T_tso (t := 108) zk_58_1 (by omega) (by omega) (by omega) ?_
  refine T_op zk_58_108 rfl X_ic (pc' := 109) rfl ?_
  exact T_iret zk_58_109 rfl (fun σ' h => ⟨_, rfl, (by omega), h.1, trivial⟩)
/-- W$LawReader.signOf -/
theorem s_59 {xs : Nat × (Nat → Int32)} (p0 : Int) (hp0 : -2147483648 ≤ p0 ∧ p0 ≤ 2147483647) (σ : ZS) (hI : Inv σ)   : CT xs 1 59 [iv p0] σ (fun v σ' => ∃ y, v = some (iv y) ∧ ((y = -1 ∧ sg (p0) = 0) ∨ (0 ≤ y ∧ y ≤ 2 ∧ sg (p0) = 1)) ∧ IF MN σ σ' ∧ (True)) := by
  refine G_ct (J := (fun σ' => IF MN σ σ' ∧ True)) (L := [(0, iv p0)]) (nL := 1) rfl rfl rfl ⟨IF.rf hI, trivial⟩ ?_
  have hf := sg_spec p0
  refine T_ld zk_59_0 rfl rfl rfl (pc' := 1) rfl ?_
  by_cases h1 : p0 = 60
  · subst h1
    refine T_br (t := 28) zk_59_1 rfl rfl rfl (fun _ => rfl) rfl ?_
    refine T_op zk_59_28 rfl X_ic (pc' := 29) rfl ?_
    exact T_iret zk_59_29 rfl (fun σ' h => ⟨_, rfl, (by omega), h.1, trivial⟩)
  by_cases h2 : p0 = 61
  · subst h2
    refine T_br (t := 32) zk_59_1 rfl rfl rfl (fun _ => rfl) rfl ?_
    refine T_op zk_59_32 rfl X_ic (pc' := 33) rfl ?_
    exact T_iret zk_59_33 rfl (fun σ' h => ⟨_, rfl, (by omega), h.1, trivial⟩)
  by_cases h3 : p0 = 62
  · subst h3
    refine T_br (t := 30) zk_59_1 rfl rfl rfl (fun _ => rfl) rfl ?_
    refine T_op zk_59_30 rfl X_ic (pc' := 31) rfl ?_
    exact T_iret zk_59_31 rfl (fun σ' h => ⟨_, rfl, (by omega), h.1, trivial⟩)
  refine T_tso (t := 34) zk_59_1 (by omega) (by omega) (by omega) ?_
  refine T_op zk_59_34 rfl X_ic (pc' := 35) rfl ?_
  exact T_iret zk_59_35 rfl (fun σ' h => ⟨_, rfl, (by omega), h.1, trivial⟩)
/-- W$Law.begin -/
theorem s_41 {xs : Nat × (Nat → Int32)}   (σ : ZS) (hI : Inv σ)   : CT xs 1 41 [av 30 0 0] σ (fun v σ' => v = none ∧ IF MRb σ σ' ∧ (σ' 30 0 0 1 = 1 ∧ True)) := by
  refine G_ct (J := (fun σ' => IF MRb σ σ' ∧ True)) (L := [(0, av 30 0 0)]) (nL := 1) rfl rfl rfl ⟨IF.rf hI, trivial⟩ ?_
  refine T_ld zk_41_0 rfl rfl rfl (pc' := 1) rfl ?_
  refine T_op zk_41_1 rfl X_ic (pc' := 2) rfl ?_
  refine T_putz (J' := (fun σ' => IF MRb σ σ' ∧ σ' 30 0 0 1 = 1 ∧ True)) zk_41_2 rfl rfl (by omega) vd_30 (fun σ' h => ⟨h.1.up (by simp only [rgP] <;> omega) (by first | exact pMRb rfl | (unfold MRb; omega)), up_eq, trivial⟩) (pc' := 5) rfl ?_
  refine T_ld zk_41_5 rfl rfl rfl (pc' := 6) rfl ?_
  refine T_op zk_41_6 rfl X_ic (pc' := 7) rfl ?_
  refine T_putf (J' := (fun σ' => IF MRb σ σ' ∧ σ' 30 0 0 1 = 1 ∧ True)) zk_41_7 rfl rfl vd_30 (fun σ' h => ⟨h.1.up (by simp only [rgP] <;> omega) (by first | exact pMRb rfl | (unfold MRb; omega)), (up_ne (by omega)).trans (h.2.1), trivial⟩) (pc' := 10) rfl ?_
  exact T_vret zk_41_10 rfl (fun σ' h => ⟨rfl, h.1, ⟨h.2.1, trivial⟩⟩)
/-- W$Law.write -/
theorem s_42 {xs : Nat × (Nat → Int32)} (p0 : Int) (hp0 : -2147483648 ≤ p0 ∧ p0 ≤ 2147483647) (σ : ZS) (hI : Inv σ)   : CT xs 1 42 [av 30 0 0, iv p0] σ (fun v σ' => v = none ∧ IF MRq σ σ' ∧ (True)) := by
  refine G_ct (J := (fun σ' => IF MRq σ σ' ∧ True)) (L := [(0, av 30 0 0), (1, iv p0)]) (nL := 2) rfl rfl rfl ⟨IF.rf hI, trivial⟩ ?_
  refine T_ld zk_42_0 rfl rfl rfl (pc' := 1) rfl ?_
  refine G_learn (t := 30) (i := 0) (k := 0) (j := 2) (lo := 0) (hi := 96) (J2 := fun y1 => (fun σ' => IF MRq σ σ' ∧ σ' 30 0 0 2 = y1 ∧ True)) vd_30 (fun σ' h => h.1.1) (fun _ h => h.2.1 (by omega) (by omega)) (fun σ' y h hy => ⟨h.1, hy, trivial⟩) (fun y1 hy1 hy1' => ?_)
  refine G_getX (w := y1) zk_42_1 rfl vd_30 (fun σ' h => h.2.1) (pc' := 4) rfl ?_
  refine T_op zk_42_4 rfl (X_bi (v := 96) (by decide)) (pc' := 6) rfl ?_
  refine T_icmp_ge zk_42_6 (by omega) (by omega) (pc' := 9) rfl (fun h2 => ?_) (fun h3 => ?_)
  ·
    exact T_vret zk_42_29 rfl (fun σ' h => ⟨rfl, h.1, trivial⟩)
  ·
    refine T_ld zk_42_9 rfl rfl rfl (pc' := 10) rfl ?_
    refine T_getR (t' := 31) (i' := 0) (k' := 0) zk_42_10 rfl rfl rfl vd_30 (pc' := 13) rfl ?_
    refine T_ld zk_42_13 rfl rfl rfl (pc' := 14) rfl ?_
    refine G_getX (w := y1) zk_42_14 rfl vd_30 (fun σ' h => h.2.1) (pc' := 17) rfl ?_
    refine T_ld zk_42_17 rfl rfl rfl (pc' := 18) rfl ?_
    refine G_iast (J' := (fun σ' => IF MRq σ σ' ∧ σ' 30 0 0 2 = y1 ∧ True)) (ln := 96) zk_42_18 rfl rfl vd_31 (by omega) (by omega) (by omega) (fun σ' h => ⟨h.1.up ⟨by omega, trivial⟩ (by first | exact pMRq rfl | (unfold MRq; omega)), (up_ne (by omega)).trans (h.2.1), trivial⟩) (pc' := 19) rfl ?_
    refine T_ld zk_42_19 rfl rfl rfl (pc' := 20) rfl ?_
    refine T_op (st' := [av 30 0 0, av 30 0 0]) zk_42_20 rfl rfl (pc' := 21) rfl ?_
    refine G_getX (w := y1) zk_42_21 rfl vd_30 (fun σ' h => h.2.1) (pc' := 24) rfl ?_
    refine T_op zk_42_24 rfl X_ic (pc' := 25) rfl ?_
    refine T_op zk_42_25 rfl X_add (pc' := 26) rfl ?_
    refine T_putf (J' := (fun σ' => IF MRq σ σ' ∧ σ' 30 0 0 2 = y1 + 1 ∧ True)) zk_42_26 rfl rfl vd_30 (fun σ' h => ⟨h.1.up (by simp only [rgP] <;> omega) (by first | exact pMRq rfl | (unfold MRq; omega)), up_eq, trivial⟩) (pc' := 29) rfl ?_
    exact T_vret zk_42_29 rfl (fun σ' h => ⟨rfl, h.1, trivial⟩)
/-- W$Law.writeTest -/
theorem s_43 {xs : Nat × (Nat → Int32)} (p0 : Int) (p1 : Int) (p2 : Int) (hp0 : -10 ≤ p0 ∧ p0 ≤ 10) (hp1 : -10 ≤ p1 ∧ p1 ≤ 10) (hp2 : -2147483648 ≤ p2 ∧ p2 ≤ 2147483647) (σ : ZS) (hI : Inv σ)   : CT xs 2 43 [av 30 0 0, iv p0, iv p1, iv p2] σ (fun v σ' => v = none ∧ IF MRq σ σ' ∧ (True)) := by
  refine G_ct (J := (fun σ' => IF MRq σ σ' ∧ True)) (L := [(0, av 30 0 0), (1, iv p0), (2, iv p1), (3, iv p2)]) (nL := 4) rfl rfl rfl ⟨IF.rf hI, trivial⟩ ?_
  refine T_ld zk_43_0 rfl rfl rfl (pc' := 1) rfl ?_
  refine T_ld zk_43_1 rfl rfl rfl (pc' := 2) rfl ?_
  refine T_op zk_43_2 rfl X_ic (pc' := 3) rfl ?_
  refine T_op zk_43_3 rfl X_mul (pc' := 4) rfl ?_
  refine T_ld zk_43_4 rfl rfl rfl (pc' := 5) rfl ?_
  refine T_op zk_43_5 rfl X_add (pc' := 6) rfl ?_
  refine T_op zk_43_6 rfl (X_si (v := 1000) (by decide)) (pc' := 9) rfl ?_
  refine T_op zk_43_9 rfl X_mul (pc' := 10) rfl ?_
  refine T_ld zk_43_10 rfl rfl rfl (pc' := 11) rfl ?_
  refine G_unk zk_43_11 rfl (pc' := 12) rfl (fun y1 hy1 hy1' => ?_)
  refine T_callv (J' := (fun σ' => IF MRq σ σ' ∧ True)) (r := []) zk_43_12 rfl rfl rfl rfl rfl rfl (Or.inr ⟨_, _, _, _, rfl, vd_30, rfl⟩) (fun σ' h => (s_42 y1 (by omega) σ' h.1.1 ).le (Nat.le_of_ble_eq_true rfl) (fun v σ2 ⟨h1, h3, h4⟩ => ⟨h1, h.1.tr h3 (fun _ _ _ _ h => h), trivial⟩)) (pc' := 15) rfl ?_
  exact T_vret zk_43_15 rfl (fun σ' h => ⟨rfl, h.1, trivial⟩)
/-- W$LawReader.readNumber -/
theorem s_56 {xs : Nat × (Nat → Int32)}  (n : Int) (p : Int) (F : Nat → Int) (hn : 0 ≤ n ∧ n ≤ 96) (hp : 0 ≤ p ∧ p ≤ 200) (σ : ZS) (hI : Inv σ)  (sp : σ 29 0 0 3 = p) (sn : σ 29 0 0 2 = n) (sl : eqn F (σ 32 0 0) (Int.toNat n)) : CT xs 2 56 [av 29 0 0] σ (fun v σ' => ∃ y, v = some (iv y) ∧ ((y = -1 ∧ nd F n (p) = 0) ∨ (0 ≤ y ∧ y ≤ 999 ∧ 0 < nd F n (p))) ∧ IF MRp σ σ' ∧ (σ' 29 0 0 3 = p + nd F n (p) ∧ True)) := by
  refine G_ct (J := (fun σ' => IF MRp σ σ' ∧ σ' 29 0 0 3 = p ∧ eqn F (σ' 32 0 0) (Int.toNat n) ∧ True)) (L := [(0, av 29 0 0)]) (nL := 3) rfl rfl rfl ⟨IF.rf hI, sp, sl, trivial⟩ ?_
  have hnd := nd_spec F n p
  refine T_ld zk_56_0 rfl rfl rfl (pc' := 1) rfl ?_
  refine T_calli (K := fun y1 σ' => (y1 = lt F n (p) ∧ -2147483648 ≤ y1 ∧ y1 ≤ 2147483647) ∧ (fun σ' => IF MRp σ σ' ∧ σ' 29 0 0 3 = p ∧ eqn F (σ' 32 0 0) (Int.toNat n) ∧ True) σ') (r := []) zk_56_1 rfl rfl rfl rfl rfl rfl (Or.inr ⟨_, _, _, _, rfl, vd_29, rfl⟩) (fun σ' h => (s_49 n p F (by omega) (by omega) σ' h.1.1 (h.2.1) ((h.1.2 _ _ _ _ (by first | exact nMRp rfl | (unfold MRp; omega))).trans sn) (h.2.2.1)).le (Nat.le_of_ble_eq_true rfl) (fun v σ2 ⟨y, h1, h2, h3, h4⟩ => ⟨y, h1, h2, h.1.tr h3 MN_sub, (h3.2 _ _ _ _ (fun q => q)).trans (h.2.1), gf_mk (fun z => eqn F z (Int.toNat n)) (funext fun j => h3.2 _ _ _ _ (fun q => q)) (h.2.2.1), trivial⟩)) (pc' := 4) rfl (fun y1 => ?_)
  refine G_ex (fun hy1 => ?_)
  obtain rfl : y1 = lt F n (p) := by omega
  refine T_calli (K := fun y2 σ' => ((y2 = 1 ∧ (48 ≤ lt F n (p) ∧ lt F n (p) ≤ 57)) ∨ (y2 = 0 ∧ ¬ (48 ≤ lt F n (p) ∧ lt F n (p) ≤ 57))) ∧ (fun σ' => IF MRp σ σ' ∧ σ' 29 0 0 3 = p ∧ eqn F (σ' 32 0 0) (Int.toNat n) ∧ True) σ') (r := []) zk_56_4 rfl rfl rfl rfl rfl rfl (Or.inl (Or.inl rfl)) (fun σ' h => (s_57 (lt F n (p)) (by omega) σ' h.1.1 ).le (Nat.le_of_ble_eq_true rfl) (fun v σ2 ⟨y, h1, h2, h3, h4⟩ => ⟨y, h1, h2, h.1.tr h3 MN_sub, (h3.2 _ _ _ _ (fun q => q)).trans (h.2.1), gf_mk (fun z => eqn F z (Int.toNat n)) (funext fun j => h3.2 _ _ _ _ (fun q => q)) (h.2.2.1), trivial⟩)) (pc' := 7) rfl (fun y2 => ?_)
  refine G_ex (fun hy2 => ?_)
  refine T_if_ne zk_56_7 (by omega) (pc' := 10) rfl (fun h3 => ?_) (fun h4 => ?_)
  ·
    have hin5 := lt_in (L := F) (n := n) (p := p) (by omega)
    refine T_ld zk_56_12 rfl rfl rfl (pc' := 13) rfl ?_
    refine T_calli (K := fun y6 σ' => (y6 = lt F n (p) ∧ -2147483648 ≤ y6 ∧ y6 ≤ 2147483647) ∧ (fun σ' => IF MRp σ σ' ∧ σ' 29 0 0 3 = p ∧ eqn F (σ' 32 0 0) (Int.toNat n) ∧ True) σ') (r := []) zk_56_13 rfl rfl rfl rfl rfl rfl (Or.inr ⟨_, _, _, _, rfl, vd_29, rfl⟩) (fun σ' h => (s_49 n p F (by omega) (by omega) σ' h.1.1 (h.2.1) ((h.1.2 _ _ _ _ (by first | exact nMRp rfl | (unfold MRp; omega))).trans sn) (h.2.2.1)).le (Nat.le_of_ble_eq_true rfl) (fun v σ2 ⟨y, h1, h2, h3, h4⟩ => ⟨y, h1, h2, h.1.tr h3 MN_sub, (h3.2 _ _ _ _ (fun q => q)).trans (h.2.1), gf_mk (fun z => eqn F z (Int.toNat n)) (funext fun j => h3.2 _ _ _ _ (fun q => q)) (h.2.2.1), trivial⟩)) (pc' := 16) rfl (fun y6 => ?_)
    refine G_ex (fun hy6 => ?_)
    obtain rfl : y6 = lt F n (p) := by omega
    refine T_op zk_56_16 rfl (X_bi (v := 48) (by decide)) (pc' := 18) rfl ?_
    refine T_op zk_56_18 rfl X_sub (pc' := 19) rfl ?_
    refine T_st (L' := [(0, av 29 0 0), (1, iv (lt F n (p) - 48))]) zk_56_19 (nL := 3) rfl rfl rfl rfl rfl (pc' := 20) rfl ?_
    refine T_ld zk_56_20 rfl rfl rfl (pc' := 21) rfl ?_
    refine T_op (st' := [av 29 0 0, av 29 0 0]) zk_56_21 rfl rfl (pc' := 22) rfl ?_
    refine G_getX (w := p) zk_56_22 rfl vd_29 (fun σ' h => h.2.1) (pc' := 25) rfl ?_
    refine T_op zk_56_25 rfl X_ic (pc' := 26) rfl ?_
    refine T_op zk_56_26 rfl X_add (pc' := 27) rfl ?_
    refine T_putf (J' := (fun σ' => IF MRp σ σ' ∧ eqn F (σ' 32 0 0) (Int.toNat n) ∧ σ' 29 0 0 3 = p + 1 ∧ True)) zk_56_27 rfl rfl vd_29 (fun σ' h => ⟨h.1.up (by simp only [rgP] <;> omega) (by first | exact pMRp rfl | (unfold MRp; omega)), gf_mk (fun z => eqn F z (Int.toNat n)) (up_row (by omega)) (h.2.2.1), up_eq, trivial⟩) (pc' := 30) rfl ?_
    refine T_op zk_56_30 rfl X_ic (pc' := 31) rfl ?_
    refine T_st (L' := [(0, av 29 0 0), (1, iv (lt F n (p) - 48)), (2, iv 1)]) zk_56_31 (nL := 3) rfl rfl rfl rfl rfl (pc' := 32) rfl ?_
    refine T_ld zk_56_32 rfl rfl rfl (pc' := 33) rfl ?_
    refine T_op zk_56_33 rfl X_ic (pc' := 34) rfl ?_
    refine T_icmp_ge zk_56_34 (by omega) (by omega) (pc' := 37) rfl (fun h7 => ?_) (fun h8 => ?_)
    · exfalso; omega
    ·
      refine T_ld zk_56_37 rfl rfl rfl (pc' := 38) rfl ?_
      refine T_if_le zk_56_38 (by omega) (pc' := 41) rfl (fun h9 => ?_) (fun h10 => ?_)
      ·
        refine T_ld zk_56_80 rfl rfl rfl (pc' := 81) rfl ?_
        exact T_iret zk_56_81 rfl (fun σ' h => ⟨_, rfl, (by omega), h.1, ⟨(h.2.2.1).trans (by omega), trivial⟩⟩)
      ·
        refine T_ld zk_56_41 rfl rfl rfl (pc' := 42) rfl ?_
        refine T_calli (K := fun y11 σ' => (y11 = lt F n (p + 1) ∧ -2147483648 ≤ y11 ∧ y11 ≤ 2147483647) ∧ (fun σ' => IF MRp σ σ' ∧ eqn F (σ' 32 0 0) (Int.toNat n) ∧ σ' 29 0 0 3 = p + 1 ∧ True) σ') (r := []) zk_56_42 rfl rfl rfl rfl rfl rfl (Or.inr ⟨_, _, _, _, rfl, vd_29, rfl⟩) (fun σ' h => (s_49 n (p + 1) F (by omega) (by omega) σ' h.1.1 (h.2.2.1) ((h.1.2 _ _ _ _ (by first | exact nMRp rfl | (unfold MRp; omega))).trans sn) (h.2.1)).le (Nat.le_of_ble_eq_true rfl) (fun v σ2 ⟨y, h1, h2, h3, h4⟩ => ⟨y, h1, h2, h.1.tr h3 MN_sub, gf_mk (fun z => eqn F z (Int.toNat n)) (funext fun j => h3.2 _ _ _ _ (fun q => q)) (h.2.1), (h3.2 _ _ _ _ (fun q => q)).trans (h.2.2.1), trivial⟩)) (pc' := 45) rfl (fun y11 => ?_)
        refine G_ex (fun hy11 => ?_)
        obtain rfl : y11 = lt F n (p + 1) := by omega
        refine T_calli (K := fun y12 σ' => ((y12 = 1 ∧ (48 ≤ lt F n (p + 1) ∧ lt F n (p + 1) ≤ 57)) ∨ (y12 = 0 ∧ ¬ (48 ≤ lt F n (p + 1) ∧ lt F n (p + 1) ≤ 57))) ∧ (fun σ' => IF MRp σ σ' ∧ eqn F (σ' 32 0 0) (Int.toNat n) ∧ σ' 29 0 0 3 = p + 1 ∧ True) σ') (r := []) zk_56_45 rfl rfl rfl rfl rfl rfl (Or.inl (Or.inl rfl)) (fun σ' h => (s_57 (lt F n (p + 1)) (by omega) σ' h.1.1 ).le (Nat.le_of_ble_eq_true rfl) (fun v σ2 ⟨y, h1, h2, h3, h4⟩ => ⟨y, h1, h2, h.1.tr h3 MN_sub, gf_mk (fun z => eqn F z (Int.toNat n)) (funext fun j => h3.2 _ _ _ _ (fun q => q)) (h.2.1), (h3.2 _ _ _ _ (fun q => q)).trans (h.2.2.1), trivial⟩)) (pc' := 48) rfl (fun y12 => ?_)
        refine G_ex (fun hy12 => ?_)
        refine T_if_eq zk_56_48 (by omega) (pc' := 51) rfl (fun h13 => ?_) (fun h14 => ?_)
        ·
          refine T_ld zk_56_80 rfl rfl rfl (pc' := 81) rfl ?_
          exact T_iret zk_56_81 rfl (fun σ' h => ⟨_, rfl, (by omega), h.1, ⟨(h.2.2.1).trans (by omega), trivial⟩⟩)
        ·
          have hin15 := lt_in (L := F) (n := n) (p := p + 1) (by omega)
          refine T_ld zk_56_51 rfl rfl rfl (pc' := 52) rfl ?_
          refine T_op zk_56_52 rfl (X_bi (v := 10) (by decide)) (pc' := 54) rfl ?_
          refine T_op zk_56_54 rfl X_mul (pc' := 55) rfl ?_
          refine T_ld zk_56_55 rfl rfl rfl (pc' := 56) rfl ?_
          refine T_calli (K := fun y16 σ' => (y16 = lt F n (p + 1) ∧ -2147483648 ≤ y16 ∧ y16 ≤ 2147483647) ∧ (fun σ' => IF MRp σ σ' ∧ eqn F (σ' 32 0 0) (Int.toNat n) ∧ σ' 29 0 0 3 = p + 1 ∧ True) σ') (r := [iv ((lt F n (p) - 48) * 10)]) zk_56_56 rfl rfl rfl rfl rfl rfl (Or.inr ⟨_, _, _, _, rfl, vd_29, rfl⟩) (fun σ' h => (s_49 n (p + 1) F (by omega) (by omega) σ' h.1.1 (h.2.2.1) ((h.1.2 _ _ _ _ (by first | exact nMRp rfl | (unfold MRp; omega))).trans sn) (h.2.1)).le (Nat.le_of_ble_eq_true rfl) (fun v σ2 ⟨y, h1, h2, h3, h4⟩ => ⟨y, h1, h2, h.1.tr h3 MN_sub, gf_mk (fun z => eqn F z (Int.toNat n)) (funext fun j => h3.2 _ _ _ _ (fun q => q)) (h.2.1), (h3.2 _ _ _ _ (fun q => q)).trans (h.2.2.1), trivial⟩)) (pc' := 59) rfl (fun y16 => ?_)
          refine G_ex (fun hy16 => ?_)
          obtain rfl : y16 = lt F n (p + 1) := by omega
          refine T_op zk_56_59 rfl X_add (pc' := 60) rfl ?_
          refine T_op zk_56_60 rfl (X_bi (v := 48) (by decide)) (pc' := 62) rfl ?_
          refine T_op zk_56_62 rfl X_sub (pc' := 63) rfl ?_
          refine T_st (L' := [(0, av 29 0 0), (1, iv ((lt F n (p) - 48) * 10 + lt F n (p + 1) - 48)), (2, iv 1)]) zk_56_63 (nL := 3) rfl rfl rfl rfl rfl (pc' := 64) rfl ?_
          refine T_ld zk_56_64 rfl rfl rfl (pc' := 65) rfl ?_
          refine T_op (st' := [av 29 0 0, av 29 0 0]) zk_56_65 rfl rfl (pc' := 66) rfl ?_
          refine G_getX (w := p + 1) zk_56_66 rfl vd_29 (fun σ' h => h.2.2.1) (pc' := 69) rfl ?_
          refine T_op zk_56_69 rfl X_ic (pc' := 70) rfl ?_
          refine T_opc (w := p + 2) zk_56_70 rfl X_add (by omega) (pc' := 71) rfl ?_
          refine T_putf (J' := (fun σ' => IF MRp σ σ' ∧ eqn F (σ' 32 0 0) (Int.toNat n) ∧ σ' 29 0 0 3 = p + 2 ∧ True)) zk_56_71 rfl rfl vd_29 (fun σ' h => ⟨h.1.up (by simp only [rgP] <;> omega) (by first | exact pMRp rfl | (unfold MRp; omega)), gf_mk (fun z => eqn F z (Int.toNat n)) (up_row (by omega)) (h.2.1), up_eq, trivial⟩) (pc' := 74) rfl ?_
          refine T_iinc (L' := [(0, av 29 0 0), (1, iv ((lt F n (p) - 48) * 10 + lt F n (p + 1) - 48)), (2, iv 2)]) zk_56_74 (nL := 3) rfl rfl rfl rfl (pc' := 77) rfl ?_
          refine T_goto zk_56_77 ?_
          refine T_ld zk_56_32 rfl rfl rfl (pc' := 33) rfl ?_
          refine T_op zk_56_33 rfl X_ic (pc' := 34) rfl ?_
          refine T_icmp_ge zk_56_34 (by omega) (by omega) (pc' := 37) rfl (fun h17 => ?_) (fun h18 => ?_)
          · exfalso; omega
          ·
            refine T_ld zk_56_37 rfl rfl rfl (pc' := 38) rfl ?_
            refine T_if_le zk_56_38 (by omega) (pc' := 41) rfl (fun h19 => ?_) (fun h20 => ?_)
            · exfalso; omega
            ·
              refine T_ld zk_56_41 rfl rfl rfl (pc' := 42) rfl ?_
              refine T_calli (K := fun y21 σ' => (y21 = lt F n (p + 2) ∧ -2147483648 ≤ y21 ∧ y21 ≤ 2147483647) ∧ (fun σ' => IF MRp σ σ' ∧ eqn F (σ' 32 0 0) (Int.toNat n) ∧ σ' 29 0 0 3 = p + 2 ∧ True) σ') (r := []) zk_56_42 rfl rfl rfl rfl rfl rfl (Or.inr ⟨_, _, _, _, rfl, vd_29, rfl⟩) (fun σ' h => (s_49 n (p + 2) F (by omega) (by omega) σ' h.1.1 (h.2.2.1) ((h.1.2 _ _ _ _ (by first | exact nMRp rfl | (unfold MRp; omega))).trans sn) (h.2.1)).le (Nat.le_of_ble_eq_true rfl) (fun v σ2 ⟨y, h1, h2, h3, h4⟩ => ⟨y, h1, h2, h.1.tr h3 MN_sub, gf_mk (fun z => eqn F z (Int.toNat n)) (funext fun j => h3.2 _ _ _ _ (fun q => q)) (h.2.1), (h3.2 _ _ _ _ (fun q => q)).trans (h.2.2.1), trivial⟩)) (pc' := 45) rfl (fun y21 => ?_)
              refine G_ex (fun hy21 => ?_)
              obtain rfl : y21 = lt F n (p + 2) := by omega
              refine T_calli (K := fun y22 σ' => ((y22 = 1 ∧ (48 ≤ lt F n (p + 2) ∧ lt F n (p + 2) ≤ 57)) ∨ (y22 = 0 ∧ ¬ (48 ≤ lt F n (p + 2) ∧ lt F n (p + 2) ≤ 57))) ∧ (fun σ' => IF MRp σ σ' ∧ eqn F (σ' 32 0 0) (Int.toNat n) ∧ σ' 29 0 0 3 = p + 2 ∧ True) σ') (r := []) zk_56_45 rfl rfl rfl rfl rfl rfl (Or.inl (Or.inl rfl)) (fun σ' h => (s_57 (lt F n (p + 2)) (by omega) σ' h.1.1 ).le (Nat.le_of_ble_eq_true rfl) (fun v σ2 ⟨y, h1, h2, h3, h4⟩ => ⟨y, h1, h2, h.1.tr h3 MN_sub, gf_mk (fun z => eqn F z (Int.toNat n)) (funext fun j => h3.2 _ _ _ _ (fun q => q)) (h.2.1), (h3.2 _ _ _ _ (fun q => q)).trans (h.2.2.1), trivial⟩)) (pc' := 48) rfl (fun y22 => ?_)
              refine G_ex (fun hy22 => ?_)
              refine T_if_eq zk_56_48 (by omega) (pc' := 51) rfl (fun h23 => ?_) (fun h24 => ?_)
              ·
                refine T_ld zk_56_80 rfl rfl rfl (pc' := 81) rfl ?_
                exact T_iret zk_56_81 rfl (fun σ' h => ⟨_, rfl, (by omega), h.1, ⟨(h.2.2.1).trans (by omega), trivial⟩⟩)
              ·
                have hin25 := lt_in (L := F) (n := n) (p := p + 2) (by omega)
                refine T_ld zk_56_51 rfl rfl rfl (pc' := 52) rfl ?_
                refine T_op zk_56_52 rfl (X_bi (v := 10) (by decide)) (pc' := 54) rfl ?_
                refine T_op zk_56_54 rfl X_mul (pc' := 55) rfl ?_
                refine T_ld zk_56_55 rfl rfl rfl (pc' := 56) rfl ?_
                refine T_calli (K := fun y26 σ' => (y26 = lt F n (p + 2) ∧ -2147483648 ≤ y26 ∧ y26 ≤ 2147483647) ∧ (fun σ' => IF MRp σ σ' ∧ eqn F (σ' 32 0 0) (Int.toNat n) ∧ σ' 29 0 0 3 = p + 2 ∧ True) σ') (r := [iv (((lt F n (p) - 48) * 10 + lt F n (p + 1) - 48) * 10)]) zk_56_56 rfl rfl rfl rfl rfl rfl (Or.inr ⟨_, _, _, _, rfl, vd_29, rfl⟩) (fun σ' h => (s_49 n (p + 2) F (by omega) (by omega) σ' h.1.1 (h.2.2.1) ((h.1.2 _ _ _ _ (by first | exact nMRp rfl | (unfold MRp; omega))).trans sn) (h.2.1)).le (Nat.le_of_ble_eq_true rfl) (fun v σ2 ⟨y, h1, h2, h3, h4⟩ => ⟨y, h1, h2, h.1.tr h3 MN_sub, gf_mk (fun z => eqn F z (Int.toNat n)) (funext fun j => h3.2 _ _ _ _ (fun q => q)) (h.2.1), (h3.2 _ _ _ _ (fun q => q)).trans (h.2.2.1), trivial⟩)) (pc' := 59) rfl (fun y26 => ?_)
                refine G_ex (fun hy26 => ?_)
                obtain rfl : y26 = lt F n (p + 2) := by omega
                refine T_op zk_56_59 rfl X_add (pc' := 60) rfl ?_
                refine T_op zk_56_60 rfl (X_bi (v := 48) (by decide)) (pc' := 62) rfl ?_
                refine T_op zk_56_62 rfl X_sub (pc' := 63) rfl ?_
                refine T_st (L' := [(0, av 29 0 0), (1, iv (((lt F n (p) - 48) * 10 + lt F n (p + 1) - 48) * 10 + lt F n (p + 2) - 48)), (2, iv 2)]) zk_56_63 (nL := 3) rfl rfl rfl rfl rfl (pc' := 64) rfl ?_
                refine T_ld zk_56_64 rfl rfl rfl (pc' := 65) rfl ?_
                refine T_op (st' := [av 29 0 0, av 29 0 0]) zk_56_65 rfl rfl (pc' := 66) rfl ?_
                refine G_getX (w := p + 2) zk_56_66 rfl vd_29 (fun σ' h => h.2.2.1) (pc' := 69) rfl ?_
                refine T_op zk_56_69 rfl X_ic (pc' := 70) rfl ?_
                refine T_opc (w := p + 3) zk_56_70 rfl X_add (by omega) (pc' := 71) rfl ?_
                refine T_putf (J' := (fun σ' => IF MRp σ σ' ∧ eqn F (σ' 32 0 0) (Int.toNat n) ∧ σ' 29 0 0 3 = p + 3 ∧ True)) zk_56_71 rfl rfl vd_29 (fun σ' h => ⟨h.1.up (by simp only [rgP] <;> omega) (by first | exact pMRp rfl | (unfold MRp; omega)), gf_mk (fun z => eqn F z (Int.toNat n)) (up_row (by omega)) (h.2.1), up_eq, trivial⟩) (pc' := 74) rfl ?_
                refine T_iinc (L' := [(0, av 29 0 0), (1, iv (((lt F n (p) - 48) * 10 + lt F n (p + 1) - 48) * 10 + lt F n (p + 2) - 48)), (2, iv 3)]) zk_56_74 (nL := 3) rfl rfl rfl rfl (pc' := 77) rfl ?_
                refine T_goto zk_56_77 ?_
                refine T_ld zk_56_32 rfl rfl rfl (pc' := 33) rfl ?_
                refine T_op zk_56_33 rfl X_ic (pc' := 34) rfl ?_
                refine T_icmp_ge zk_56_34 (by omega) (by omega) (pc' := 37) rfl (fun h27 => ?_) (fun h28 => ?_)
                ·
                  refine T_ld zk_56_80 rfl rfl rfl (pc' := 81) rfl ?_
                  exact T_iret zk_56_81 rfl (fun σ' h => ⟨_, rfl, (by omega), h.1, ⟨(h.2.2.1).trans (by omega), trivial⟩⟩)
                · exfalso; omega
  ·
    refine T_op zk_56_10 rfl X_ic (pc' := 11) rfl ?_
    exact T_iret zk_56_11 rfl (fun σ' h => ⟨_, rfl, (by omega), h.1, ⟨(h.2.1).trans (by omega), trivial⟩⟩)
theorem sb79v_2c1b94d : ∀ t i k j, MRq t i k j → MRp t i k j := by
  intro t i k j h
  unfold MRq at h
  unfold MRp
  omega
/-- W$LawReader.readTest -/
theorem s_55 {xs : Nat × (Nat → Int32)}  (n : Int) (p : Int) (F : Nat → Int) (hn : 0 ≤ n ∧ n ≤ 96) (hp : 0 ≤ p ∧ p ≤ 200) (σ : ZS) (hI : Inv σ)  (sp : σ 29 0 0 3 = p) (sn : σ 29 0 0 2 = n) (sl : eqn F (σ 32 0 0) (Int.toNat n)) : CT xs 3 55 [av 29 0 0] σ (fun v σ' => ∃ y, v = some (iv y) ∧ ((y = 1 ∧ tk F n (p) = 1) ∨ (y = 0 ∧ tk F n (p) = 0)) ∧ IF MRp σ σ' ∧ (σ' 29 0 0 3 = te F n (p) ∧ True)) := by
  refine G_ct (J := (fun σ' => IF MRp σ σ' ∧ σ' 29 0 0 3 = p ∧ eqn F (σ' 32 0 0) (Int.toNat n) ∧ True)) (L := [(0, av 29 0 0)]) (nL := 4) rfl rfl rfl ⟨IF.rf hI, sp, sl, trivial⟩ ?_
  have htk := tk_spec F n p
  refine T_ld zk_55_0 rfl rfl rfl (pc' := 1) rfl ?_
  refine T_calli (K := fun y1 σ' => (y1 = lt F n (p) ∧ -2147483648 ≤ y1 ∧ y1 ≤ 2147483647) ∧ (fun σ' => IF MRp σ σ' ∧ σ' 29 0 0 3 = p ∧ eqn F (σ' 32 0 0) (Int.toNat n) ∧ True) σ') (r := []) zk_55_1 rfl rfl rfl rfl rfl rfl (Or.inr ⟨_, _, _, _, rfl, vd_29, rfl⟩) (fun σ' h => (s_49 n p F (by omega) (by omega) σ' h.1.1 (h.2.1) ((h.1.2 _ _ _ _ (by first | exact nMRp rfl | (unfold MRp; omega))).trans sn) (h.2.2.1)).le (Nat.le_of_ble_eq_true rfl) (fun v σ2 ⟨y, h1, h2, h3, h4⟩ => ⟨y, h1, h2, h.1.tr h3 MN_sub, (h3.2 _ _ _ _ (fun q => q)).trans (h.2.1), gf_mk (fun z => eqn F z (Int.toNat n)) (funext fun j => h3.2 _ _ _ _ (fun q => q)) (h.2.2.1), trivial⟩)) (pc' := 4) rfl (fun y1 => ?_)
  refine G_ex (fun hy1 => ?_)
  obtain rfl : y1 = lt F n (p) := by omega
  refine T_calli (K := fun y2 σ' => ((y2 = -1 ∧ ff (lt F n (p)) = 0) ∨ (0 ≤ y2 ∧ y2 ≤ 5 ∧ ff (lt F n (p)) = 1)) ∧ (fun σ' => IF MRp σ σ' ∧ σ' 29 0 0 3 = p ∧ eqn F (σ' 32 0 0) (Int.toNat n) ∧ True) σ') (r := []) zk_55_4 rfl rfl rfl rfl rfl rfl (Or.inl (Or.inl rfl)) (fun σ' h => (s_58 (lt F n (p)) (by omega) σ' h.1.1 ).le (Nat.le_of_ble_eq_true rfl) (fun v σ2 ⟨y, h1, h2, h3, h4⟩ => ⟨y, h1, h2, h.1.tr h3 MN_sub, (h3.2 _ _ _ _ (fun q => q)).trans (h.2.1), gf_mk (fun z => eqn F z (Int.toNat n)) (funext fun j => h3.2 _ _ _ _ (fun q => q)) (h.2.2.1), trivial⟩)) (pc' := 7) rfl (fun y2 => ?_)
  refine G_ex (fun hy2 => ?_)
  refine T_st (L' := [(0, av 29 0 0), (1, iv y2)]) zk_55_7 (nL := 4) rfl rfl rfl rfl rfl (pc' := 8) rfl ?_
  refine T_ld zk_55_8 rfl rfl rfl (pc' := 9) rfl ?_
  refine T_op zk_55_9 rfl X_ic (pc' := 10) rfl ?_
  refine T_icmp_ne zk_55_10 (by omega) (by omega) (pc' := 13) rfl (fun h3 => ?_) (fun h4 => ?_)
  ·
    have hin5 := lt_in (L := F) (n := n) (p := p) (by have q := ff_in (c := lt F n (p)) (by omega); omega)
    refine T_ld zk_55_15 rfl rfl rfl (pc' := 16) rfl ?_
    refine T_op (st' := [av 29 0 0, av 29 0 0]) zk_55_16 rfl rfl (pc' := 17) rfl ?_
    refine G_getX (w := p) zk_55_17 rfl vd_29 (fun σ' h => h.2.1) (pc' := 20) rfl ?_
    refine T_op zk_55_20 rfl X_ic (pc' := 21) rfl ?_
    refine T_op zk_55_21 rfl X_add (pc' := 22) rfl ?_
    refine T_putf (J' := (fun σ' => IF MRp σ σ' ∧ eqn F (σ' 32 0 0) (Int.toNat n) ∧ σ' 29 0 0 3 = p + 1 ∧ True)) zk_55_22 rfl rfl vd_29 (fun σ' h => ⟨h.1.up (by simp only [rgP] <;> omega) (by first | exact pMRp rfl | (unfold MRp; omega)), gf_mk (fun z => eqn F z (Int.toNat n)) (up_row (by omega)) (h.2.2.1), up_eq, trivial⟩) (pc' := 25) rfl ?_
    refine T_ld zk_55_25 rfl rfl rfl (pc' := 26) rfl ?_
    refine T_calli (K := fun y6 σ' => (y6 = lt F n (p + 1) ∧ -2147483648 ≤ y6 ∧ y6 ≤ 2147483647) ∧ (fun σ' => IF MRp σ σ' ∧ eqn F (σ' 32 0 0) (Int.toNat n) ∧ σ' 29 0 0 3 = p + 1 ∧ True) σ') (r := []) zk_55_26 rfl rfl rfl rfl rfl rfl (Or.inr ⟨_, _, _, _, rfl, vd_29, rfl⟩) (fun σ' h => (s_49 n (p + 1) F (by omega) (by omega) σ' h.1.1 (h.2.2.1) ((h.1.2 _ _ _ _ (by first | exact nMRp rfl | (unfold MRp; omega))).trans sn) (h.2.1)).le (Nat.le_of_ble_eq_true rfl) (fun v σ2 ⟨y, h1, h2, h3, h4⟩ => ⟨y, h1, h2, h.1.tr h3 MN_sub, gf_mk (fun z => eqn F z (Int.toNat n)) (funext fun j => h3.2 _ _ _ _ (fun q => q)) (h.2.1), (h3.2 _ _ _ _ (fun q => q)).trans (h.2.2.1), trivial⟩)) (pc' := 29) rfl (fun y6 => ?_)
    refine G_ex (fun hy6 => ?_)
    obtain rfl : y6 = lt F n (p + 1) := by omega
    refine T_calli (K := fun y7 σ' => ((y7 = -1 ∧ sg (lt F n (p + 1)) = 0) ∨ (0 ≤ y7 ∧ y7 ≤ 2 ∧ sg (lt F n (p + 1)) = 1)) ∧ (fun σ' => IF MRp σ σ' ∧ eqn F (σ' 32 0 0) (Int.toNat n) ∧ σ' 29 0 0 3 = p + 1 ∧ True) σ') (r := []) zk_55_29 rfl rfl rfl rfl rfl rfl (Or.inl (Or.inl rfl)) (fun σ' h => (s_59 (lt F n (p + 1)) (by omega) σ' h.1.1 ).le (Nat.le_of_ble_eq_true rfl) (fun v σ2 ⟨y, h1, h2, h3, h4⟩ => ⟨y, h1, h2, h.1.tr h3 MN_sub, gf_mk (fun z => eqn F z (Int.toNat n)) (funext fun j => h3.2 _ _ _ _ (fun q => q)) (h.2.1), (h3.2 _ _ _ _ (fun q => q)).trans (h.2.2.1), trivial⟩)) (pc' := 32) rfl (fun y7 => ?_)
    refine G_ex (fun hy7 => ?_)
    refine T_st (L' := [(0, av 29 0 0), (1, iv y2), (2, iv y7)]) zk_55_32 (nL := 4) rfl rfl rfl rfl rfl (pc' := 33) rfl ?_
    refine T_ld zk_55_33 rfl rfl rfl (pc' := 34) rfl ?_
    refine T_op zk_55_34 rfl X_ic (pc' := 35) rfl ?_
    refine T_icmp_ne zk_55_35 (by omega) (by omega) (pc' := 38) rfl (fun h8 => ?_) (fun h9 => ?_)
    ·
      have hin10 := lt_in (L := F) (n := n) (p := p + 1) (by have q := sg_in (c := lt F n (p + 1)) (by omega); omega)
      refine T_ld zk_55_40 rfl rfl rfl (pc' := 41) rfl ?_
      refine T_op (st' := [av 29 0 0, av 29 0 0]) zk_55_41 rfl rfl (pc' := 42) rfl ?_
      refine G_getX (w := p + 1) zk_55_42 rfl vd_29 (fun σ' h => h.2.2.1) (pc' := 45) rfl ?_
      refine T_op zk_55_45 rfl X_ic (pc' := 46) rfl ?_
      refine T_opc (w := p + 2) zk_55_46 rfl X_add (by omega) (pc' := 47) rfl ?_
      refine T_putf (J' := (fun σ' => IF MRp σ σ' ∧ eqn F (σ' 32 0 0) (Int.toNat n) ∧ σ' 29 0 0 3 = p + 2 ∧ True)) zk_55_47 rfl rfl vd_29 (fun σ' h => ⟨h.1.up (by simp only [rgP] <;> omega) (by first | exact pMRp rfl | (unfold MRp; omega)), gf_mk (fun z => eqn F z (Int.toNat n)) (up_row (by omega)) (h.2.1), up_eq, trivial⟩) (pc' := 50) rfl ?_
      refine T_ld zk_55_50 rfl rfl rfl (pc' := 51) rfl ?_
      refine T_calli (K := fun y11 σ' => ((y11 = -1 ∧ nd F n (p + 2) = 0) ∨ (0 ≤ y11 ∧ y11 ≤ 999 ∧ 0 < nd F n (p + 2))) ∧ (fun σ' => IF MRp σ σ' ∧ eqn F (σ' 32 0 0) (Int.toNat n) ∧ σ' 29 0 0 3 = p + 2 + nd F n (p + 2) ∧ True) σ') (r := []) zk_55_51 rfl rfl rfl rfl rfl rfl (Or.inr ⟨_, _, _, _, rfl, vd_29, rfl⟩) (fun σ' h => (s_56 n (p + 2) F (by omega) (by omega) σ' h.1.1 (h.2.2.1) ((h.1.2 _ _ _ _ (by first | exact nMRp rfl | (unfold MRp; omega))).trans sn) (h.2.1)).le (Nat.le_of_ble_eq_true rfl) (fun v σ2 ⟨y, h1, h2, h3, h4⟩ => ⟨y, h1, h2, h.1.tr h3 (fun _ _ _ _ h => h), gf_mk (fun z => eqn F z (Int.toNat n)) (funext fun j => h3.2 _ _ _ _ (by first | exact nMRp rfl | (unfold MRp; omega))) (h.2.1), h4.1, trivial⟩)) (pc' := 54) rfl (fun y11 => ?_)
      refine G_ex (fun hy11 => ?_)
      refine T_st (L' := [(0, av 29 0 0), (1, iv y2), (2, iv y7), (3, iv y11)]) zk_55_54 (nL := 4) rfl rfl rfl rfl rfl (pc' := 55) rfl ?_
      refine T_ld zk_55_55 rfl rfl rfl (pc' := 56) rfl ?_
      refine T_op zk_55_56 rfl X_ic (pc' := 57) rfl ?_
      refine T_icmp_ne zk_55_57 (by omega) (by omega) (pc' := 60) rfl (fun h12 => ?_) (fun h13 => ?_)
      ·
        refine T_ld zk_55_62 rfl rfl rfl (pc' := 63) rfl ?_
        refine T_getR (t' := 30) (i' := 0) (k' := 0) zk_55_63 rfl rfl rfl vd_29 (pc' := 66) rfl ?_
        refine T_ld zk_55_66 rfl rfl rfl (pc' := 67) rfl ?_
        refine T_ld zk_55_67 rfl rfl rfl (pc' := 68) rfl ?_
        refine T_ld zk_55_68 rfl rfl rfl (pc' := 69) rfl ?_
        refine T_callv (J' := (fun σ' => IF MRp σ σ' ∧ eqn F (σ' 32 0 0) (Int.toNat n) ∧ σ' 29 0 0 3 = p + 2 + nd F n (p + 2) ∧ True)) (r := []) zk_55_69 rfl rfl rfl rfl rfl rfl (Or.inr ⟨_, _, _, _, rfl, vd_30, rfl⟩) (fun σ' h => (s_43 y2 y7 y11 (by omega) (by omega) (by omega) σ' h.1.1 ).le (Nat.le_of_ble_eq_true rfl) (fun v σ2 ⟨h1, h3, h4⟩ => ⟨h1, h.1.tr h3 sb79v_2c1b94d, gf_mk (fun z => eqn F z (Int.toNat n)) (funext fun j => h3.2 _ _ _ _ (by first | exact nMRq rfl | (unfold MRq; omega))) (h.2.1), (h3.2 _ _ _ _ (by first | exact nMRq rfl | (unfold MRq; omega))).trans (h.2.2.1), trivial⟩)) (pc' := 72) rfl ?_
        refine T_op zk_55_72 rfl X_ic (pc' := 73) rfl ?_
        exact T_zret zk_55_73 rfl (by omega) (fun σ' h => ⟨_, rfl, (by omega), h.1, ⟨(h.2.2.1).trans (by omega), trivial⟩⟩)
      ·
        refine T_op zk_55_60 rfl X_ic (pc' := 61) rfl ?_
        exact T_zret zk_55_61 rfl (by omega) (fun σ' h => ⟨_, rfl, (by omega), h.1, ⟨(h.2.2.1).trans (by omega), trivial⟩⟩)
    ·
      refine T_op zk_55_38 rfl X_ic (pc' := 39) rfl ?_
      exact T_zret zk_55_39 rfl (by omega) (fun σ' h => ⟨_, rfl, (by omega), h.1, ⟨(h.2.2.1).trans (by omega), trivial⟩⟩)
  ·
    refine T_op zk_55_13 rfl X_ic (pc' := 14) rfl ?_
    exact T_zret zk_55_14 rfl (by omega) (fun σ' h => ⟨_, rfl, (by omega), h.1, ⟨(h.2.1).trans (by omega), trivial⟩⟩)
/-- W$LawReader.readMouth -/
theorem s_51 {xs : Nat × (Nat → Int32)}  (n : Int) (F : Nat → Int) (hn : 0 ≤ n ∧ n ≤ 96) (σ : ZS) (hI : Inv σ)  (sp : σ 29 0 0 3 = 0) (sn : σ 29 0 0 2 = n) (sl : eqn F (σ 32 0 0) (Int.toNat n)) : CT xs 3 51 [av 29 0 0] σ (fun v σ' => ∃ y, v = some (iv y) ∧ (y = 0 ∨ y = 1) ∧ IF MRp σ σ' ∧ (((y = 1 → lt F n 0 = 103 ∧ 48 ≤ lt F n 1 ∧ lt F n 1 ≤ 50 ∧ lt F n 2 = 58 ∧ σ' 29 0 0 3 = 3) ∧ (y = 0 → LAWF F n = σ' 29 0 0 3)) ∧ True)) := by
  refine G_ct (J := (fun σ' => IF MRp σ σ' ∧ σ' 29 0 0 3 = 0 ∧ eqn F (σ' 32 0 0) (Int.toNat n) ∧ True)) (L := [(0, av 29 0 0)]) (nL := 1) rfl rfl rfl ⟨IF.rf hI, sp, sl, trivial⟩ ?_
  have hla := LAWF_spec F n
  refine T_ld zk_51_0 rfl rfl rfl (pc' := 1) rfl ?_
  refine T_op zk_51_1 rfl (X_bi (v := 103) (by decide)) (pc' := 3) rfl ?_
  refine T_calli (K := fun y1 σ' => ((y1 = 0 ∧ (¬ lt F n (0) = 103)) ∨ (y1 = 1 ∧ ¬ (¬ lt F n (0) = 103))) ∧ (fun σ' => IF MRp σ σ' ∧ eqn F (σ' 32 0 0) (Int.toNat n) ∧ ((y1 = 1 → σ' 29 0 0 3 = 0 + 1) ∧ (y1 = 0 → σ' 29 0 0 3 = 0)) ∧ True) σ') (r := []) zk_51_3 rfl rfl rfl rfl rfl rfl (Or.inr ⟨_, _, _, _, rfl, vd_29, rfl⟩) (fun σ' h => (s_50 103 n 0 F (by omega) (by omega) (by omega) σ' h.1.1 (h.2.1) ((h.1.2 _ _ _ _ (by first | exact nMRp rfl | (unfold MRp; omega))).trans sn) (h.2.2.1)).le (Nat.le_of_ble_eq_true rfl) (fun v σ2 ⟨y, h1, h2, h3, h4⟩ => ⟨y, h1, h2, h.1.tr h3 (fun _ _ _ _ h => h), gf_mk (fun z => eqn F z (Int.toNat n)) (funext fun j => h3.2 _ _ _ _ (by first | exact nMRp rfl | (unfold MRp; omega))) (h.2.2.1), h4.1, trivial⟩)) (pc' := 6) rfl (fun y1 => ?_)
  refine G_ex (fun hy1 => ?_)
  refine T_if_ne zk_51_6 (by omega) (pc' := 9) rfl (fun h2 => ?_) (fun h3 => ?_)
  ·
    refine G_learnG (G := fun z => ((y1 = 1 → z = 0 + 1) ∧ (y1 = 0 → z = 0))) (t := 29) (i := 0) (k := 0) (j := 3) (lo := -2147483648) (hi := 2147483647) (J2 := fun y4 => (fun σ' => IF MRp σ σ' ∧ eqn F (σ' 32 0 0) (Int.toNat n) ∧ ((y1 = 1 → σ' 29 0 0 3 = 0 + 1) ∧ (y1 = 0 → σ' 29 0 0 3 = 0)) ∧ σ' 29 0 0 3 = y4 ∧ True)) vd_29 (fun σ' h => h.1.1) (fun _ h => (by have q := h.1; omega)) (fun σ' h => h.2.2.1) (fun σ' y h hy => ⟨h.1, h.2.1, h.2.2.1, hy, trivial⟩) (fun y4 hy4 hy4' gy4 => ?_)
    refine G_know (J' := (fun σ' => IF MRp σ σ' ∧ eqn F (σ' 32 0 0) (Int.toNat n) ∧ σ' 29 0 0 3 = y4 ∧ True)) (fun σ' h => ⟨h.1, h.2.1, h.2.2.2.1, trivial⟩) ?_
    have hv5 : y4 = 1 := by omega
    refine G_know (J' := (fun σ' => IF MRp σ σ' ∧ eqn F (σ' 32 0 0) (Int.toNat n) ∧ σ' 29 0 0 3 = 1 ∧ True)) (fun σ' h => ⟨h.1, h.2.1, (h.2.2.1).trans hv5, trivial⟩) ?_
    refine T_ld zk_51_11 rfl rfl rfl (pc' := 12) rfl ?_
    refine T_calli (K := fun y6 σ' => (y6 = lt F n (1) ∧ -2147483648 ≤ y6 ∧ y6 ≤ 2147483647) ∧ (fun σ' => IF MRp σ σ' ∧ eqn F (σ' 32 0 0) (Int.toNat n) ∧ σ' 29 0 0 3 = 1 ∧ True) σ') (r := []) zk_51_12 rfl rfl rfl rfl rfl rfl (Or.inr ⟨_, _, _, _, rfl, vd_29, rfl⟩) (fun σ' h => (s_49 n 1 F (by omega) (by omega) σ' h.1.1 (h.2.2.1) ((h.1.2 _ _ _ _ (by first | exact nMRp rfl | (unfold MRp; omega))).trans sn) (h.2.1)).le (Nat.le_of_ble_eq_true rfl) (fun v σ2 ⟨y, h1, h2, h3, h4⟩ => ⟨y, h1, h2, h.1.tr h3 MN_sub, gf_mk (fun z => eqn F z (Int.toNat n)) (funext fun j => h3.2 _ _ _ _ (fun q => q)) (h.2.1), (h3.2 _ _ _ _ (fun q => q)).trans (h.2.2.1), trivial⟩)) (pc' := 15) rfl (fun y6 => ?_)
    refine G_ex (fun hy6 => ?_)
    obtain rfl : y6 = lt F n (1) := by omega
    refine T_op zk_51_15 rfl (X_bi (v := 48) (by decide)) (pc' := 17) rfl ?_
    refine T_icmp_lt zk_51_17 (by omega) (by omega) (pc' := 20) rfl (fun h7 => ?_) (fun h8 => ?_)
    ·
      refine T_op zk_51_29 rfl X_ic (pc' := 30) rfl ?_
      exact T_zret zk_51_30 rfl (by omega) (fun σ' h => ⟨_, rfl, (by omega), h.1, ⟨(by have e := h.2.2.1; omega), trivial⟩⟩)
    ·
      refine T_ld zk_51_20 rfl rfl rfl (pc' := 21) rfl ?_
      refine T_calli (K := fun y9 σ' => (y9 = lt F n (1) ∧ -2147483648 ≤ y9 ∧ y9 ≤ 2147483647) ∧ (fun σ' => IF MRp σ σ' ∧ eqn F (σ' 32 0 0) (Int.toNat n) ∧ σ' 29 0 0 3 = 1 ∧ True) σ') (r := []) zk_51_21 rfl rfl rfl rfl rfl rfl (Or.inr ⟨_, _, _, _, rfl, vd_29, rfl⟩) (fun σ' h => (s_49 n 1 F (by omega) (by omega) σ' h.1.1 (h.2.2.1) ((h.1.2 _ _ _ _ (by first | exact nMRp rfl | (unfold MRp; omega))).trans sn) (h.2.1)).le (Nat.le_of_ble_eq_true rfl) (fun v σ2 ⟨y, h1, h2, h3, h4⟩ => ⟨y, h1, h2, h.1.tr h3 MN_sub, gf_mk (fun z => eqn F z (Int.toNat n)) (funext fun j => h3.2 _ _ _ _ (fun q => q)) (h.2.1), (h3.2 _ _ _ _ (fun q => q)).trans (h.2.2.1), trivial⟩)) (pc' := 24) rfl (fun y9 => ?_)
      refine G_ex (fun hy9 => ?_)
      obtain rfl : y9 = lt F n (1) := by omega
      refine T_op zk_51_24 rfl (X_bi (v := 50) (by decide)) (pc' := 26) rfl ?_
      refine T_icmp_le zk_51_26 (by omega) (by omega) (pc' := 29) rfl (fun h10 => ?_) (fun h11 => ?_)
      ·
        refine T_ld zk_51_31 rfl rfl rfl (pc' := 32) rfl ?_
        refine T_getR (t' := 30) (i' := 0) (k' := 0) zk_51_32 rfl rfl rfl vd_29 (pc' := 35) rfl ?_
        refine T_ld zk_51_35 rfl rfl rfl (pc' := 36) rfl ?_
        refine T_calli (K := fun y12 σ' => (y12 = lt F n (1) ∧ -2147483648 ≤ y12 ∧ y12 ≤ 2147483647) ∧ (fun σ' => IF MRp σ σ' ∧ eqn F (σ' 32 0 0) (Int.toNat n) ∧ σ' 29 0 0 3 = 1 ∧ True) σ') (r := [av 30 0 0]) zk_51_36 rfl rfl rfl rfl rfl rfl (Or.inr ⟨_, _, _, _, rfl, vd_29, rfl⟩) (fun σ' h => (s_49 n 1 F (by omega) (by omega) σ' h.1.1 (h.2.2.1) ((h.1.2 _ _ _ _ (by first | exact nMRp rfl | (unfold MRp; omega))).trans sn) (h.2.1)).le (Nat.le_of_ble_eq_true rfl) (fun v σ2 ⟨y, h1, h2, h3, h4⟩ => ⟨y, h1, h2, h.1.tr h3 MN_sub, gf_mk (fun z => eqn F z (Int.toNat n)) (funext fun j => h3.2 _ _ _ _ (fun q => q)) (h.2.1), (h3.2 _ _ _ _ (fun q => q)).trans (h.2.2.1), trivial⟩)) (pc' := 39) rfl (fun y12 => ?_)
        refine G_ex (fun hy12 => ?_)
        obtain rfl : y12 = lt F n (1) := by omega
        refine T_op zk_51_39 rfl (X_bi (v := 48) (by decide)) (pc' := 41) rfl ?_
        refine T_op zk_51_41 rfl X_sub (pc' := 42) rfl ?_
        refine T_putf (J' := (fun σ' => IF MRp σ σ' ∧ eqn F (σ' 32 0 0) (Int.toNat n) ∧ σ' 29 0 0 3 = 1 ∧ True)) zk_51_42 rfl rfl vd_30 (fun σ' h => ⟨h.1.up (by simp only [rgP] <;> omega) (by first | exact pMRp rfl | (unfold MRp; omega)), gf_mk (fun z => eqn F z (Int.toNat n)) (up_row (by omega)) (h.2.1), (up_ne (by omega)).trans (h.2.2.1), trivial⟩) (pc' := 45) rfl ?_
        refine T_ld zk_51_45 rfl rfl rfl (pc' := 46) rfl ?_
        refine T_op (st' := [av 29 0 0, av 29 0 0]) zk_51_46 rfl rfl (pc' := 47) rfl ?_
        refine G_getX (w := 1) zk_51_47 rfl vd_29 (fun σ' h => h.2.2.1) (pc' := 50) rfl ?_
        refine T_op zk_51_50 rfl X_ic (pc' := 51) rfl ?_
        refine T_opc (w := 2) zk_51_51 rfl X_add (by omega) (pc' := 52) rfl ?_
        refine T_putf (J' := (fun σ' => IF MRp σ σ' ∧ eqn F (σ' 32 0 0) (Int.toNat n) ∧ σ' 29 0 0 3 = 2 ∧ True)) zk_51_52 rfl rfl vd_29 (fun σ' h => ⟨h.1.up (by simp only [rgP] <;> omega) (by first | exact pMRp rfl | (unfold MRp; omega)), gf_mk (fun z => eqn F z (Int.toNat n)) (up_row (by omega)) (h.2.1), up_eq, trivial⟩) (pc' := 55) rfl ?_
        refine T_ld zk_51_55 rfl rfl rfl (pc' := 56) rfl ?_
        refine T_op zk_51_56 rfl (X_bi (v := 58) (by decide)) (pc' := 58) rfl ?_
        refine T_calli (K := fun y13 σ' => ((y13 = 0 ∧ (¬ lt F n (2) = 58)) ∨ (y13 = 1 ∧ ¬ (¬ lt F n (2) = 58))) ∧ (fun σ' => IF MRp σ σ' ∧ eqn F (σ' 32 0 0) (Int.toNat n) ∧ ((y13 = 1 → σ' 29 0 0 3 = 2 + 1) ∧ (y13 = 0 → σ' 29 0 0 3 = 2)) ∧ True) σ') (r := []) zk_51_58 rfl rfl rfl rfl rfl rfl (Or.inr ⟨_, _, _, _, rfl, vd_29, rfl⟩) (fun σ' h => (s_50 58 n 2 F (by omega) (by omega) (by omega) σ' h.1.1 (h.2.2.1) ((h.1.2 _ _ _ _ (by first | exact nMRp rfl | (unfold MRp; omega))).trans sn) (h.2.1)).le (Nat.le_of_ble_eq_true rfl) (fun v σ2 ⟨y, h1, h2, h3, h4⟩ => ⟨y, h1, h2, h.1.tr h3 (fun _ _ _ _ h => h), gf_mk (fun z => eqn F z (Int.toNat n)) (funext fun j => h3.2 _ _ _ _ (by first | exact nMRp rfl | (unfold MRp; omega))) (h.2.1), h4.1, trivial⟩)) (pc' := 61) rfl (fun y13 => ?_)
        refine G_ex (fun hy13 => ?_)
        exact T_zret zk_51_61 rfl (by omega) (fun σ' h => ⟨_, rfl, (by omega), h.1, ⟨(by have e := h.2.2.1; omega), trivial⟩⟩)
      ·
        refine T_op zk_51_29 rfl X_ic (pc' := 30) rfl ?_
        exact T_zret zk_51_30 rfl (by omega) (fun σ' h => ⟨_, rfl, (by omega), h.1, ⟨(by have e := h.2.2.1; omega), trivial⟩⟩)
  ·
    refine T_op zk_51_9 rfl X_ic (pc' := 10) rfl ?_
    exact T_zret zk_51_10 rfl (by omega) (fun σ' h => ⟨_, rfl, (by omega), h.1, ⟨(by have e := h.2.2.1; omega), trivial⟩⟩)
/-- W$LawReader.readPart -/
theorem s_54_20 {xs : Nat × (Nat → Int32)}  (n : Int) (p : Int) (F : Nat → Int) (st : List Bool) (su : List Bool) (hn : 0 ≤ n ∧ n ≤ 96) (hp : 0 ≤ p ∧ p ≤ 200) (hpn : p ≤ n) (hln : (st.length : Int) = 20) (hsu : cls st = su) (σ : ZS) (hI : Inv σ)  (sp : σ 29 0 0 3 = p) (sn : σ 29 0 0 2 = n) (sl : eqn F (σ 32 0 0) (Int.toNat n)) : CT xs 4 54 [av 29 0 0, iv 20] σ (fun v σ' => ∃ y, v = some (iv y) ∧ (y = 0 ∨ y = 1) ∧ IF MRp σ σ' ∧ (((p ≤ σ' 29 0 0 3 ∧ σ' 29 0 0 3 ≤ n) ∧ (y = 1 → RUN F n (p) st 1 = RUN F n (σ' 29 0 0 3) su 0) ∧ (y = 0 → RUN F n (p) st 1 = σ' 29 0 0 3)) ∧ True)) := by
  refine G_ct (J := (fun σ' => IF MRp σ σ' ∧ σ' 29 0 0 3 = p ∧ eqn F (σ' 32 0 0) (Int.toNat n) ∧ True)) (L := [(0, av 29 0 0), (1, iv 20)]) (nL := 3) rfl rfl rfl ⟨IF.rf hI, sp, sl, trivial⟩ ?_
  have hw0 := fun (_ : Unit) => R_want (L := F) (n := n) (p := p) (d := 20) (by omega) (by omega) hln hsu
  refine T_ld zk_54_0 rfl rfl rfl (pc' := 1) rfl ?_
  refine T_calli (K := fun y1 σ' => (y1 = lt F n (p) ∧ -2147483648 ≤ y1 ∧ y1 ≤ 2147483647) ∧ (fun σ' => IF MRp σ σ' ∧ σ' 29 0 0 3 = p ∧ eqn F (σ' 32 0 0) (Int.toNat n) ∧ True) σ') (r := []) zk_54_1 rfl rfl rfl rfl rfl rfl (Or.inr ⟨_, _, _, _, rfl, vd_29, rfl⟩) (fun σ' h => (s_49 n p F (by omega) (by omega) σ' h.1.1 (h.2.1) ((h.1.2 _ _ _ _ (by first | exact nMRp rfl | (unfold MRp; omega))).trans sn) (h.2.2.1)).le (Nat.le_of_ble_eq_true rfl) (fun v σ2 ⟨y, h1, h2, h3, h4⟩ => ⟨y, h1, h2, h.1.tr h3 MN_sub, (h3.2 _ _ _ _ (fun q => q)).trans (h.2.1), gf_mk (fun z => eqn F z (Int.toNat n)) (funext fun j => h3.2 _ _ _ _ (fun q => q)) (h.2.2.1), trivial⟩)) (pc' := 4) rfl (fun y1 => ?_)
  refine G_ex (fun hy1 => ?_)
  obtain rfl : y1 = lt F n (p) := by omega
  refine T_op zk_54_4 rfl (X_bi (v := 33) (by decide)) (pc' := 6) rfl ?_
  refine T_icmp_eq zk_54_6 (by omega) (by omega) (pc' := 9) rfl (fun h2 => ?_) (fun h3 => ?_)
  ·
    have hin := lt_in (L := F) (n := n) (p := p) (by omega)
    refine T_ld zk_54_23 rfl rfl rfl (pc' := 24) rfl ?_
    refine T_op zk_54_24 rfl (X_bi (v := 20) (by decide)) (pc' := 26) rfl ?_
    refine T_icmp_lt zk_54_26 (by omega) (by omega) (pc' := 29) rfl (fun h4 => ?_) (fun h5 => ?_)
    · exfalso; omega
    ·
      have hw3 := (hw0 ()).2.2.1 ⟨by omega, by omega⟩
      refine T_op zk_54_29 rfl X_ic (pc' := 30) rfl ?_
      exact T_zret zk_54_30 rfl (by omega) (fun σ' h => ⟨_, rfl, (by omega), h.1, ⟨(by rw [h.2.1]; omega), trivial⟩⟩)
  ·
    refine T_ld zk_54_9 rfl rfl rfl (pc' := 10) rfl ?_
    refine T_calli (K := fun y6 σ' => (y6 = lt F n (p) ∧ -2147483648 ≤ y6 ∧ y6 ≤ 2147483647) ∧ (fun σ' => IF MRp σ σ' ∧ σ' 29 0 0 3 = p ∧ eqn F (σ' 32 0 0) (Int.toNat n) ∧ True) σ') (r := []) zk_54_10 rfl rfl rfl rfl rfl rfl (Or.inr ⟨_, _, _, _, rfl, vd_29, rfl⟩) (fun σ' h => (s_49 n p F (by omega) (by omega) σ' h.1.1 (h.2.1) ((h.1.2 _ _ _ _ (by first | exact nMRp rfl | (unfold MRp; omega))).trans sn) (h.2.2.1)).le (Nat.le_of_ble_eq_true rfl) (fun v σ2 ⟨y, h1, h2, h3, h4⟩ => ⟨y, h1, h2, h.1.tr h3 MN_sub, (h3.2 _ _ _ _ (fun q => q)).trans (h.2.1), gf_mk (fun z => eqn F z (Int.toNat n)) (funext fun j => h3.2 _ _ _ _ (fun q => q)) (h.2.2.1), trivial⟩)) (pc' := 13) rfl (fun y6 => ?_)
    refine G_ex (fun hy6 => ?_)
    obtain rfl : y6 = lt F n (p) := by omega
    refine T_op zk_54_13 rfl (X_bi (v := 40) (by decide)) (pc' := 15) rfl ?_
    refine T_icmp_eq zk_54_15 (by omega) (by omega) (pc' := 18) rfl (fun h7 => ?_) (fun h8 => ?_)
    ·
      have hin := lt_in (L := F) (n := n) (p := p) (by omega)
      refine T_ld zk_54_23 rfl rfl rfl (pc' := 24) rfl ?_
      refine T_op zk_54_24 rfl (X_bi (v := 20) (by decide)) (pc' := 26) rfl ?_
      refine T_icmp_lt zk_54_26 (by omega) (by omega) (pc' := 29) rfl (fun h9 => ?_) (fun h10 => ?_)
      · exfalso; omega
      ·
        have hw3 := (hw0 ()).2.2.1 ⟨by omega, by omega⟩
        refine T_op zk_54_29 rfl X_ic (pc' := 30) rfl ?_
        exact T_zret zk_54_30 rfl (by omega) (fun σ' h => ⟨_, rfl, (by omega), h.1, ⟨(by rw [h.2.1]; omega), trivial⟩⟩)
    ·
      obtain ⟨ht1, ht2, _⟩ := te_in (L := F) (n := n) (p := p) (by omega) (by omega)
      have hw1 : tk F n p = 1 → RUN F n p st 1 = RUN F n (te F n p) su 0 := fun q => (hw0 ()).2.2.2.1 ⟨by omega, by omega, q⟩
      have hw2 : ¬ tk F n p = 1 → RUN F n p st 1 = te F n p := fun q => (hw0 ()).2.2.2.2 ⟨by omega, by omega, q⟩
      refine T_ld zk_54_18 rfl rfl rfl (pc' := 19) rfl ?_
      refine T_calli (K := fun y11 σ' => ((y11 = 1 ∧ tk F n (p) = 1) ∨ (y11 = 0 ∧ tk F n (p) = 0)) ∧ (fun σ' => IF MRp σ σ' ∧ eqn F (σ' 32 0 0) (Int.toNat n) ∧ σ' 29 0 0 3 = te F n (p) ∧ True) σ') (r := []) zk_54_19 rfl rfl rfl rfl rfl rfl (Or.inr ⟨_, _, _, _, rfl, vd_29, rfl⟩) (fun σ' h => (s_55 n p F (by omega) (by omega) σ' h.1.1 (h.2.1) ((h.1.2 _ _ _ _ (by first | exact nMRp rfl | (unfold MRp; omega))).trans sn) (h.2.2.1)).le (Nat.le_of_ble_eq_true rfl) (fun v σ2 ⟨y, h1, h2, h3, h4⟩ => ⟨y, h1, h2, h.1.tr h3 (fun _ _ _ _ h => h), gf_mk (fun z => eqn F z (Int.toNat n)) (funext fun j => h3.2 _ _ _ _ (by first | exact nMRp rfl | (unfold MRp; omega))) (h.2.2.1), h4.1, trivial⟩)) (pc' := 22) rfl (fun y11 => ?_)
      refine G_ex (fun hy11 => ?_)
      exact T_zret zk_54_22 rfl (by omega) (fun σ' h => ⟨_, rfl, (by omega), h.1, ⟨(by rw [h.2.2.1]; omega), trivial⟩⟩)
/-- W$LawReader.readBoth -/
theorem s_53_20 {xs : Nat × (Nat → Int32)}  (n : Int) (p : Int) (F : Nat → Int) (st : List Bool) (hn : 0 ≤ n ∧ n ≤ 96) (hp : 0 ≤ p ∧ p ≤ 200) (hpn : p ≤ n) (hln : (st.length : Int) = 20) (hcl : cls st = st) (σ : ZS) (hI : Inv σ)  (sp : σ 29 0 0 3 = p) (sn : σ 29 0 0 2 = n) (sl : eqn F (σ 32 0 0) (Int.toNat n)) : CT xs 5 53 [av 29 0 0, iv 20] σ (fun v σ' => ∃ y, v = some (iv y) ∧ (y = 0 ∨ y = 1) ∧ IF MRp σ σ' ∧ (((p ≤ σ' 29 0 0 3 ∧ σ' 29 0 0 3 ≤ n) ∧ (y = 1 → RUN F n (p) st 1 = RUN F n (σ' 29 0 0 3) st 0 ∧ ¬ lt F n (σ' 29 0 0 3) = 38) ∧ (y = 0 → RUN F n (p) st 1 = σ' 29 0 0 3)) ∧ True)) := by
  refine G_ct (J := (fun σ' => IF MRp σ σ' ∧ σ' 29 0 0 3 = p ∧ eqn F (σ' 32 0 0) (Int.toNat n) ∧ True)) (L := [(0, av 29 0 0), (1, iv 20)]) (nL := 4) rfl rfl rfl ⟨IF.rf hI, sp, sl, trivial⟩ ?_
  refine T_ld zk_53_0 rfl rfl rfl (pc' := 1) rfl ?_
  refine T_ld zk_53_1 rfl rfl rfl (pc' := 2) rfl ?_
  refine T_calli (K := fun y1 σ' => (y1 = 0 ∨ y1 = 1) ∧ (fun σ' => IF MRp σ σ' ∧ eqn F (σ' 32 0 0) (Int.toNat n) ∧ ((p ≤ σ' 29 0 0 3 ∧ σ' 29 0 0 3 ≤ n) ∧ (y1 = 1 → RUN F n (p) st 1 = RUN F n (σ' 29 0 0 3) st 0) ∧ (y1 = 0 → RUN F n (p) st 1 = σ' 29 0 0 3)) ∧ True) σ') (r := []) zk_53_2 rfl rfl rfl rfl rfl rfl (Or.inr ⟨_, _, _, _, rfl, vd_29, rfl⟩) (fun σ' h => (s_54_20 n p F st st (by omega) (by omega) (by omega) hln hcl σ' h.1.1 (h.2.1) ((h.1.2 _ _ _ _ (by first | exact nMRp rfl | (unfold MRp; omega))).trans sn) (h.2.2.1)).le (Nat.le_of_ble_eq_true rfl) (fun v σ2 ⟨y, h1, h2, h3, h4⟩ => ⟨y, h1, h2, h.1.tr h3 (fun _ _ _ _ h => h), gf_mk (fun z => eqn F z (Int.toNat n)) (funext fun j => h3.2 _ _ _ _ (by first | exact nMRp rfl | (unfold MRp; omega))) (h.2.2.1), h4.1, trivial⟩)) (pc' := 5) rfl (fun y1 => ?_)
  refine G_ex (fun hy1 => ?_)
  refine T_st (L' := [(0, av 29 0 0), (1, iv 20), (2, iv y1)]) zk_53_5 (nL := 4) rfl rfl rfl rfl rfl (pc' := 6) rfl ?_
  refine T_op zk_53_6 rfl X_ic (pc' := 7) rfl ?_
  refine T_st (L' := [(0, av 29 0 0), (1, iv 20), (2, iv y1), (3, iv 0)]) zk_53_7 (nL := 4) rfl rfl rfl rfl rfl (pc' := 8) rfl ?_
  refine G_know (J' := (fun σ' => IF MRp σ σ' ∧ eqn F (σ' 32 0 0) (Int.toNat n) ∧ (0 ≤ σ' 29 0 0 3 ∧ p ≤ σ' 29 0 0 3 ∧ σ' 29 0 0 3 ≤ n ∧ (y1 = 1 → RUN F n (p) st 1 = RUN F n (σ' 29 0 0 3) st 0) ∧ (y1 = 0 → RUN F n (p) st 1 = σ' 29 0 0 3)) ∧ True)) (fun σ' h => ⟨h.1, h.2.1, (by have e := h.2.2.1; omega), trivial⟩) ?_
  refine T_loop2 (fun x2 x3 => ((96 - x3 : Int)).toNat) (fun x2 x3 => (0 ≤ x2 ∧ x2 ≤ 1) ∧ (0 ≤ x3 ∧ x3 ≤ 96)) (fun x2 x3 => TJ xs (fun σ' => IF MRp σ σ' ∧ eqn F (σ' 32 0 0) (Int.toNat n) ∧ (x3 ≤ σ' 29 0 0 3 ∧ p ≤ σ' 29 0 0 3 ∧ σ' 29 0 0 3 ≤ n ∧ (x2 = 1 → RUN F n (p) st 1 = RUN F n (σ' 29 0 0 3) st 0) ∧ (x2 = 0 → RUN F n (p) st 1 = σ' 29 0 0 3)) ∧ True) 4 53 8 [(0, av 29 0 0), (1, iv 20), (2, iv x2), (3, iv x3)] [] _) ?_ y1 0 (by omega)
  intro x2 x3 hp5 ih4
  refine T_ld zk_53_8 rfl rfl rfl (pc' := 9) rfl ?_
  refine T_op zk_53_9 rfl (X_bi (v := 96) (by decide)) (pc' := 11) rfl ?_
  refine T_icmp_ge zk_53_11 (by omega) (by omega) (pc' := 14) rfl (fun h6 => ?_) (fun h7 => ?_)
  ·
    refine G_learnG (G := fun z => (x3 ≤ z ∧ p ≤ z ∧ z ≤ n ∧ (x2 = 1 → RUN F n (p) st 1 = RUN F n (z) st 0) ∧ (x2 = 0 → RUN F n (p) st 1 = z))) (t := 29) (i := 0) (k := 0) (j := 3) (lo := -2147483648) (hi := 2147483647) (J2 := fun y8 => (fun σ' => IF MRp σ σ' ∧ eqn F (σ' 32 0 0) (Int.toNat n) ∧ (x3 ≤ σ' 29 0 0 3 ∧ p ≤ σ' 29 0 0 3 ∧ σ' 29 0 0 3 ≤ n ∧ (x2 = 1 → RUN F n (p) st 1 = RUN F n (σ' 29 0 0 3) st 0) ∧ (x2 = 0 → RUN F n (p) st 1 = σ' 29 0 0 3)) ∧ σ' 29 0 0 3 = y8 ∧ True)) vd_29 (fun σ' h => h.1.1) (fun _ h => (by have q := h.1; omega)) (fun σ' h => h.2.2.1) (fun σ' y h hy => ⟨h.1, h.2.1, h.2.2.1, hy, trivial⟩) (fun y8 hy8 hy8' gy8 => ?_)
    refine G_know (J' := (fun σ' => IF MRp σ σ' ∧ eqn F (σ' 32 0 0) (Int.toNat n) ∧ σ' 29 0 0 3 = y8 ∧ True)) (fun σ' h => ⟨h.1, h.2.1, h.2.2.2.1, trivial⟩) ?_
    have hly8 := lt_spec F n y8
    refine T_ld zk_53_48 rfl rfl rfl (pc' := 49) rfl ?_
    exact T_zret zk_53_49 rfl (by omega) (fun σ' h => ⟨_, rfl, (by omega), h.1, ⟨(by rw [h.2.2.1]; omega), trivial⟩⟩)
  ·
    refine T_ld zk_53_14 rfl rfl rfl (pc' := 15) rfl ?_
    refine T_if_eq zk_53_15 (by omega) (pc' := 18) rfl (fun h9 => ?_) (fun h10 => ?_)
    ·
      refine G_learnG (G := fun z => (x3 ≤ z ∧ p ≤ z ∧ z ≤ n ∧ (x2 = 1 → RUN F n (p) st 1 = RUN F n (z) st 0) ∧ (x2 = 0 → RUN F n (p) st 1 = z))) (t := 29) (i := 0) (k := 0) (j := 3) (lo := -2147483648) (hi := 2147483647) (J2 := fun y11 => (fun σ' => IF MRp σ σ' ∧ eqn F (σ' 32 0 0) (Int.toNat n) ∧ (x3 ≤ σ' 29 0 0 3 ∧ p ≤ σ' 29 0 0 3 ∧ σ' 29 0 0 3 ≤ n ∧ (x2 = 1 → RUN F n (p) st 1 = RUN F n (σ' 29 0 0 3) st 0) ∧ (x2 = 0 → RUN F n (p) st 1 = σ' 29 0 0 3)) ∧ σ' 29 0 0 3 = y11 ∧ True)) vd_29 (fun σ' h => h.1.1) (fun _ h => (by have q := h.1; omega)) (fun σ' h => h.2.2.1) (fun σ' y h hy => ⟨h.1, h.2.1, h.2.2.1, hy, trivial⟩) (fun y11 hy11 hy11' gy11 => ?_)
      refine G_know (J' := (fun σ' => IF MRp σ σ' ∧ eqn F (σ' 32 0 0) (Int.toNat n) ∧ σ' 29 0 0 3 = y11 ∧ True)) (fun σ' h => ⟨h.1, h.2.1, h.2.2.2.1, trivial⟩) ?_
      have hly11 := lt_spec F n y11
      refine T_ld zk_53_48 rfl rfl rfl (pc' := 49) rfl ?_
      exact T_zret zk_53_49 rfl (by omega) (fun σ' h => ⟨_, rfl, (by omega), h.1, ⟨(by rw [h.2.2.1]; omega), trivial⟩⟩)
    ·
      refine G_learnG (G := fun z => (x3 ≤ z ∧ p ≤ z ∧ z ≤ n ∧ (x2 = 1 → RUN F n (p) st 1 = RUN F n (z) st 0) ∧ (x2 = 0 → RUN F n (p) st 1 = z))) (t := 29) (i := 0) (k := 0) (j := 3) (lo := -2147483648) (hi := 2147483647) (J2 := fun y12 => (fun σ' => IF MRp σ σ' ∧ eqn F (σ' 32 0 0) (Int.toNat n) ∧ (x3 ≤ σ' 29 0 0 3 ∧ p ≤ σ' 29 0 0 3 ∧ σ' 29 0 0 3 ≤ n ∧ (x2 = 1 → RUN F n (p) st 1 = RUN F n (σ' 29 0 0 3) st 0) ∧ (x2 = 0 → RUN F n (p) st 1 = σ' 29 0 0 3)) ∧ σ' 29 0 0 3 = y12 ∧ True)) vd_29 (fun σ' h => h.1.1) (fun _ h => (by have q := h.1; omega)) (fun σ' h => h.2.2.1) (fun σ' y h hy => ⟨h.1, h.2.1, h.2.2.1, hy, trivial⟩) (fun y12 hy12 hy12' gy12 => ?_)
      refine G_know (J' := (fun σ' => IF MRp σ σ' ∧ eqn F (σ' 32 0 0) (Int.toNat n) ∧ σ' 29 0 0 3 = y12 ∧ True)) (fun σ' h => ⟨h.1, h.2.1, h.2.2.2.1, trivial⟩) ?_
      obtain ⟨gA, gB, gC, gD, gE⟩ := gy12
      have gF := gD (by omega)
      clear gD gE
      refine T_ld zk_53_18 rfl rfl rfl (pc' := 19) rfl ?_
      refine T_op zk_53_19 rfl (X_bi (v := 38) (by decide)) (pc' := 21) rfl ?_
      refine T_calli (K := fun y13 σ' => ((y13 = 0 ∧ (¬ lt F n (y12) = 38)) ∨ (y13 = 1 ∧ ¬ (¬ lt F n (y12) = 38))) ∧ (fun σ' => IF MRp σ σ' ∧ eqn F (σ' 32 0 0) (Int.toNat n) ∧ ((y13 = 1 → σ' 29 0 0 3 = y12 + 1) ∧ (y13 = 0 → σ' 29 0 0 3 = y12)) ∧ True) σ') (r := []) zk_53_21 rfl rfl rfl rfl rfl rfl (Or.inr ⟨_, _, _, _, rfl, vd_29, rfl⟩) (fun σ' h => (s_50 38 n y12 F (by omega) (by omega) (by omega) σ' h.1.1 (h.2.2.1) ((h.1.2 _ _ _ _ (by first | exact nMRp rfl | (unfold MRp; omega))).trans sn) (h.2.1)).le (Nat.le_of_ble_eq_true rfl) (fun v σ2 ⟨y, h1, h2, h3, h4⟩ => ⟨y, h1, h2, h.1.tr h3 (fun _ _ _ _ h => h), gf_mk (fun z => eqn F z (Int.toNat n)) (funext fun j => h3.2 _ _ _ _ (by first | exact nMRp rfl | (unfold MRp; omega))) (h.2.1), h4.1, trivial⟩)) (pc' := 24) rfl (fun y13 => ?_)
      refine G_ex (fun hy13 => ?_)
      refine T_if_eq zk_53_24 (by omega) (pc' := 27) rfl (fun h14 => ?_) (fun h15 => ?_)
      ·
        refine G_learnG (G := fun z => ((y13 = 1 → z = y12 + 1) ∧ (y13 = 0 → z = y12))) (t := 29) (i := 0) (k := 0) (j := 3) (lo := -2147483648) (hi := 2147483647) (J2 := fun y16 => (fun σ' => IF MRp σ σ' ∧ eqn F (σ' 32 0 0) (Int.toNat n) ∧ ((y13 = 1 → σ' 29 0 0 3 = y12 + 1) ∧ (y13 = 0 → σ' 29 0 0 3 = y12)) ∧ σ' 29 0 0 3 = y16 ∧ True)) vd_29 (fun σ' h => h.1.1) (fun _ h => (by have q := h.1; omega)) (fun σ' h => h.2.2.1) (fun σ' y h hy => ⟨h.1, h.2.1, h.2.2.1, hy, trivial⟩) (fun y16 hy16 hy16' gy16 => ?_)
        refine G_know (J' := (fun σ' => IF MRp σ σ' ∧ eqn F (σ' 32 0 0) (Int.toNat n) ∧ σ' 29 0 0 3 = y16 ∧ True)) (fun σ' h => ⟨h.1, h.2.1, h.2.2.2.1, trivial⟩) ?_
        have hv17 : y16 = y12 := by omega
        try clear gy16
        refine G_know (J' := (fun σ' => IF MRp σ σ' ∧ eqn F (σ' 32 0 0) (Int.toNat n) ∧ σ' 29 0 0 3 = y12 ∧ True)) (fun σ' h => ⟨h.1, h.2.1, (h.2.2.1).trans hv17, trivial⟩) ?_
        refine T_ld zk_53_48 rfl rfl rfl (pc' := 49) rfl ?_
        exact T_zret zk_53_49 rfl (by omega) (fun σ' h => ⟨_, rfl, (by omega), h.1, ⟨(by rw [h.2.2.1]; omega), trivial⟩⟩)
      ·
        refine G_learnG (G := fun z => ((y13 = 1 → z = y12 + 1) ∧ (y13 = 0 → z = y12))) (t := 29) (i := 0) (k := 0) (j := 3) (lo := -2147483648) (hi := 2147483647) (J2 := fun y18 => (fun σ' => IF MRp σ σ' ∧ eqn F (σ' 32 0 0) (Int.toNat n) ∧ ((y13 = 1 → σ' 29 0 0 3 = y12 + 1) ∧ (y13 = 0 → σ' 29 0 0 3 = y12)) ∧ σ' 29 0 0 3 = y18 ∧ True)) vd_29 (fun σ' h => h.1.1) (fun _ h => (by have q := h.1; omega)) (fun σ' h => h.2.2.1) (fun σ' y h hy => ⟨h.1, h.2.1, h.2.2.1, hy, trivial⟩) (fun y18 hy18 hy18' gy18 => ?_)
        refine G_know (J' := (fun σ' => IF MRp σ σ' ∧ eqn F (σ' 32 0 0) (Int.toNat n) ∧ σ' 29 0 0 3 = y18 ∧ True)) (fun σ' h => ⟨h.1, h.2.1, h.2.2.2.1, trivial⟩) ?_
        have hv19 : y18 = y12 + 1 := by omega
        try clear gy18
        refine G_know (J' := (fun σ' => IF MRp σ σ' ∧ eqn F (σ' 32 0 0) (Int.toNat n) ∧ σ' 29 0 0 3 = y12 + 1 ∧ True)) (fun σ' h => ⟨h.1, h.2.1, (h.2.2.1).trans hv19, trivial⟩) ?_
        have hin := lt_in (L := F) (n := n) (p := y12) (by omega)
        have hs := R_sign (L := F) (n := n) (p := y12) st (by omega) (by omega) (by omega)
        refine T_ld zk_53_27 rfl rfl rfl (pc' := 28) rfl ?_
        refine T_ld zk_53_28 rfl rfl rfl (pc' := 29) rfl ?_
        refine T_calli (K := fun y20 σ' => (y20 = 0 ∨ y20 = 1) ∧ (fun σ' => IF MRp σ σ' ∧ eqn F (σ' 32 0 0) (Int.toNat n) ∧ (((y12 + 1) ≤ σ' 29 0 0 3 ∧ σ' 29 0 0 3 ≤ n) ∧ (y20 = 1 → RUN F n ((y12 + 1)) st 1 = RUN F n (σ' 29 0 0 3) st 0) ∧ (y20 = 0 → RUN F n ((y12 + 1)) st 1 = σ' 29 0 0 3)) ∧ True) σ') (r := []) zk_53_29 rfl rfl rfl rfl rfl rfl (Or.inr ⟨_, _, _, _, rfl, vd_29, rfl⟩) (fun σ' h => (s_54_20 n (y12 + 1) F st st (by omega) (by omega) (by omega) hln hcl σ' h.1.1 (h.2.2.1) ((h.1.2 _ _ _ _ (by first | exact nMRp rfl | (unfold MRp; omega))).trans sn) (h.2.1)).le (Nat.le_of_ble_eq_true rfl) (fun v σ2 ⟨y, h1, h2, h3, h4⟩ => ⟨y, h1, h2, h.1.tr h3 (fun _ _ _ _ h => h), gf_mk (fun z => eqn F z (Int.toNat n)) (funext fun j => h3.2 _ _ _ _ (by first | exact nMRp rfl | (unfold MRp; omega))) (h.2.1), h4.1, trivial⟩)) (pc' := 32) rfl (fun y20 => ?_)
        refine G_ex (fun hy20 => ?_)
        refine T_st (L' := [(0, av 29 0 0), (1, iv 20), (2, iv y20), (3, iv x3)]) zk_53_32 (nL := 4) rfl rfl rfl rfl rfl (pc' := 33) rfl ?_
        refine T_ld zk_53_33 rfl rfl rfl (pc' := 34) rfl ?_
        refine T_getR (t' := 30) (i' := 0) (k' := 0) zk_53_34 rfl rfl rfl vd_29 (pc' := 37) rfl ?_
        refine T_op zk_53_37 rfl (X_bi (v := -2) (by decide)) (pc' := 39) rfl ?_
        refine T_callv (J' := (fun σ' => IF MRp σ σ' ∧ eqn F (σ' 32 0 0) (Int.toNat n) ∧ (((y12 + 1) ≤ σ' 29 0 0 3 ∧ σ' 29 0 0 3 ≤ n) ∧ (y20 = 1 → RUN F n ((y12 + 1)) st 1 = RUN F n (σ' 29 0 0 3) st 0) ∧ (y20 = 0 → RUN F n ((y12 + 1)) st 1 = σ' 29 0 0 3)) ∧ True)) (r := []) zk_53_39 rfl rfl rfl rfl rfl rfl (Or.inr ⟨_, _, _, _, rfl, vd_30, rfl⟩) (fun σ' h => (s_42 ((-2)) (by omega) σ' h.1.1 ).le (Nat.le_of_ble_eq_true rfl) (fun v σ2 ⟨h1, h3, h4⟩ => ⟨h1, h.1.tr h3 sb79v_2c1b94d, gf_mk (fun z => eqn F z (Int.toNat n)) (funext fun j => h3.2 _ _ _ _ (by first | exact nMRq rfl | (unfold MRq; omega))) (h.2.1), gh_mk (fun z => ((y12 + 1) ≤ z ∧ z ≤ n) ∧ (y20 = 1 → RUN F n ((y12 + 1)) st 1 = RUN F n (z) st 0) ∧ (y20 = 0 → RUN F n ((y12 + 1)) st 1 = z)) (h3.2 _ _ _ _ (by first | exact nMRq rfl | (unfold MRq; omega))) (h.2.2.1), trivial⟩)) (pc' := 42) rfl ?_
        refine T_iinc (L' := [(0, av 29 0 0), (1, iv 20), (2, iv y20), (3, iv (x3 + 1))]) zk_53_42 (nL := 4) rfl rfl rfl rfl (pc' := 45) rfl ?_
        refine T_goto zk_53_45 ?_
        refine G_know (J' := (fun σ' => IF MRp σ σ' ∧ eqn F (σ' 32 0 0) (Int.toNat n) ∧ ((x3 + 1) ≤ σ' 29 0 0 3 ∧ p ≤ σ' 29 0 0 3 ∧ σ' 29 0 0 3 ≤ n ∧ (y20 = 1 → RUN F n (p) st 1 = RUN F n (σ' 29 0 0 3) st 0) ∧ (y20 = 0 → RUN F n (p) st 1 = σ' 29 0 0 3)) ∧ True)) (fun σ' h => ⟨h.1, h.2.1, (by have e := h.2.2.1; omega), trivial⟩) ?_
        exact ih4 y20 (x3 + 1) (by omega) (by omega)
/-- W$LawReader.readEither -/
theorem s_52_20 {xs : Nat × (Nat → Int32)}  (n : Int) (p : Int) (F : Nat → Int) (st : List Bool) (hn : 0 ≤ n ∧ n ≤ 96) (hp : 0 ≤ p ∧ p ≤ 200) (hpn : p ≤ n) (hln : (st.length : Int) = 20) (hcl : cls st = st) (σ : ZS) (hI : Inv σ)  (sp : σ 29 0 0 3 = p) (sn : σ 29 0 0 2 = n) (sl : eqn F (σ 32 0 0) (Int.toNat n)) : CT xs 6 52 [av 29 0 0, iv 20] σ (fun v σ' => ∃ y, v = some (iv y) ∧ (y = 0 ∨ y = 1) ∧ IF MRp σ σ' ∧ (((p ≤ σ' 29 0 0 3 ∧ σ' 29 0 0 3 ≤ n) ∧ (y = 1 → RUN F n (p) st 1 = RUN F n (σ' 29 0 0 3) st 0 ∧ ¬ lt F n (σ' 29 0 0 3) = 38 ∧ ¬ lt F n (σ' 29 0 0 3) = 124) ∧ (y = 0 → RUN F n (p) st 1 = σ' 29 0 0 3)) ∧ True)) := by
  refine G_ct (J := (fun σ' => IF MRp σ σ' ∧ σ' 29 0 0 3 = p ∧ eqn F (σ' 32 0 0) (Int.toNat n) ∧ True)) (L := [(0, av 29 0 0), (1, iv 20)]) (nL := 4) rfl rfl rfl ⟨IF.rf hI, sp, sl, trivial⟩ ?_
  refine T_ld zk_52_0 rfl rfl rfl (pc' := 1) rfl ?_
  refine T_ld zk_52_1 rfl rfl rfl (pc' := 2) rfl ?_
  refine T_calli (K := fun y1 σ' => (y1 = 0 ∨ y1 = 1) ∧ (fun σ' => IF MRp σ σ' ∧ eqn F (σ' 32 0 0) (Int.toNat n) ∧ ((p ≤ σ' 29 0 0 3 ∧ σ' 29 0 0 3 ≤ n) ∧ (y1 = 1 → RUN F n (p) st 1 = RUN F n (σ' 29 0 0 3) st 0 ∧ ¬ lt F n (σ' 29 0 0 3) = 38) ∧ (y1 = 0 → RUN F n (p) st 1 = σ' 29 0 0 3)) ∧ True) σ') (r := []) zk_52_2 rfl rfl rfl rfl rfl rfl (Or.inr ⟨_, _, _, _, rfl, vd_29, rfl⟩) (fun σ' h => (s_53_20 n p F st (by omega) (by omega) (by omega) hln hcl σ' h.1.1 (h.2.1) ((h.1.2 _ _ _ _ (by first | exact nMRp rfl | (unfold MRp; omega))).trans sn) (h.2.2.1)).le (Nat.le_of_ble_eq_true rfl) (fun v σ2 ⟨y, h1, h2, h3, h4⟩ => ⟨y, h1, h2, h.1.tr h3 (fun _ _ _ _ h => h), gf_mk (fun z => eqn F z (Int.toNat n)) (funext fun j => h3.2 _ _ _ _ (by first | exact nMRp rfl | (unfold MRp; omega))) (h.2.2.1), h4.1, trivial⟩)) (pc' := 5) rfl (fun y1 => ?_)
  refine G_ex (fun hy1 => ?_)
  refine T_st (L' := [(0, av 29 0 0), (1, iv 20), (2, iv y1)]) zk_52_5 (nL := 4) rfl rfl rfl rfl rfl (pc' := 6) rfl ?_
  refine T_op zk_52_6 rfl X_ic (pc' := 7) rfl ?_
  refine T_st (L' := [(0, av 29 0 0), (1, iv 20), (2, iv y1), (3, iv 0)]) zk_52_7 (nL := 4) rfl rfl rfl rfl rfl (pc' := 8) rfl ?_
  refine G_know (J' := (fun σ' => IF MRp σ σ' ∧ eqn F (σ' 32 0 0) (Int.toNat n) ∧ (0 ≤ σ' 29 0 0 3 ∧ p ≤ σ' 29 0 0 3 ∧ σ' 29 0 0 3 ≤ n ∧ (y1 = 1 → RUN F n (p) st 1 = RUN F n (σ' 29 0 0 3) st 0 ∧ ¬ lt F n (σ' 29 0 0 3) = 38) ∧ (y1 = 0 → RUN F n (p) st 1 = σ' 29 0 0 3)) ∧ True)) (fun σ' h => ⟨h.1, h.2.1, (by have e := h.2.2.1; omega), trivial⟩) ?_
  refine T_loop2 (fun x2 x3 => ((96 - x3 : Int)).toNat) (fun x2 x3 => (0 ≤ x2 ∧ x2 ≤ 1) ∧ (0 ≤ x3 ∧ x3 ≤ 96)) (fun x2 x3 => TJ xs (fun σ' => IF MRp σ σ' ∧ eqn F (σ' 32 0 0) (Int.toNat n) ∧ (x3 ≤ σ' 29 0 0 3 ∧ p ≤ σ' 29 0 0 3 ∧ σ' 29 0 0 3 ≤ n ∧ (x2 = 1 → RUN F n (p) st 1 = RUN F n (σ' 29 0 0 3) st 0 ∧ ¬ lt F n (σ' 29 0 0 3) = 38) ∧ (x2 = 0 → RUN F n (p) st 1 = σ' 29 0 0 3)) ∧ True) 5 52 8 [(0, av 29 0 0), (1, iv 20), (2, iv x2), (3, iv x3)] [] _) ?_ y1 0 (by omega)
  intro x2 x3 hp5 ih4
  refine T_ld zk_52_8 rfl rfl rfl (pc' := 9) rfl ?_
  refine T_op zk_52_9 rfl (X_bi (v := 96) (by decide)) (pc' := 11) rfl ?_
  refine T_icmp_ge zk_52_11 (by omega) (by omega) (pc' := 14) rfl (fun h6 => ?_) (fun h7 => ?_)
  ·
    refine G_learnG (G := fun z => (x3 ≤ z ∧ p ≤ z ∧ z ≤ n ∧ (x2 = 1 → RUN F n (p) st 1 = RUN F n (z) st 0 ∧ ¬ lt F n (z) = 38) ∧ (x2 = 0 → RUN F n (p) st 1 = z))) (t := 29) (i := 0) (k := 0) (j := 3) (lo := -2147483648) (hi := 2147483647) (J2 := fun y8 => (fun σ' => IF MRp σ σ' ∧ eqn F (σ' 32 0 0) (Int.toNat n) ∧ (x3 ≤ σ' 29 0 0 3 ∧ p ≤ σ' 29 0 0 3 ∧ σ' 29 0 0 3 ≤ n ∧ (x2 = 1 → RUN F n (p) st 1 = RUN F n (σ' 29 0 0 3) st 0 ∧ ¬ lt F n (σ' 29 0 0 3) = 38) ∧ (x2 = 0 → RUN F n (p) st 1 = σ' 29 0 0 3)) ∧ σ' 29 0 0 3 = y8 ∧ True)) vd_29 (fun σ' h => h.1.1) (fun _ h => (by have q := h.1; omega)) (fun σ' h => h.2.2.1) (fun σ' y h hy => ⟨h.1, h.2.1, h.2.2.1, hy, trivial⟩) (fun y8 hy8 hy8' gy8 => ?_)
    refine G_know (J' := (fun σ' => IF MRp σ σ' ∧ eqn F (σ' 32 0 0) (Int.toNat n) ∧ σ' 29 0 0 3 = y8 ∧ True)) (fun σ' h => ⟨h.1, h.2.1, h.2.2.2.1, trivial⟩) ?_
    have hly8 := lt_spec F n y8
    refine T_ld zk_52_48 rfl rfl rfl (pc' := 49) rfl ?_
    exact T_zret zk_52_49 rfl (by omega) (fun σ' h => ⟨_, rfl, (by omega), h.1, ⟨(by rw [h.2.2.1]; omega), trivial⟩⟩)
  ·
    refine T_ld zk_52_14 rfl rfl rfl (pc' := 15) rfl ?_
    refine T_if_eq zk_52_15 (by omega) (pc' := 18) rfl (fun h9 => ?_) (fun h10 => ?_)
    ·
      refine G_learnG (G := fun z => (x3 ≤ z ∧ p ≤ z ∧ z ≤ n ∧ (x2 = 1 → RUN F n (p) st 1 = RUN F n (z) st 0 ∧ ¬ lt F n (z) = 38) ∧ (x2 = 0 → RUN F n (p) st 1 = z))) (t := 29) (i := 0) (k := 0) (j := 3) (lo := -2147483648) (hi := 2147483647) (J2 := fun y11 => (fun σ' => IF MRp σ σ' ∧ eqn F (σ' 32 0 0) (Int.toNat n) ∧ (x3 ≤ σ' 29 0 0 3 ∧ p ≤ σ' 29 0 0 3 ∧ σ' 29 0 0 3 ≤ n ∧ (x2 = 1 → RUN F n (p) st 1 = RUN F n (σ' 29 0 0 3) st 0 ∧ ¬ lt F n (σ' 29 0 0 3) = 38) ∧ (x2 = 0 → RUN F n (p) st 1 = σ' 29 0 0 3)) ∧ σ' 29 0 0 3 = y11 ∧ True)) vd_29 (fun σ' h => h.1.1) (fun _ h => (by have q := h.1; omega)) (fun σ' h => h.2.2.1) (fun σ' y h hy => ⟨h.1, h.2.1, h.2.2.1, hy, trivial⟩) (fun y11 hy11 hy11' gy11 => ?_)
      refine G_know (J' := (fun σ' => IF MRp σ σ' ∧ eqn F (σ' 32 0 0) (Int.toNat n) ∧ σ' 29 0 0 3 = y11 ∧ True)) (fun σ' h => ⟨h.1, h.2.1, h.2.2.2.1, trivial⟩) ?_
      have hly11 := lt_spec F n y11
      refine T_ld zk_52_48 rfl rfl rfl (pc' := 49) rfl ?_
      exact T_zret zk_52_49 rfl (by omega) (fun σ' h => ⟨_, rfl, (by omega), h.1, ⟨(by rw [h.2.2.1]; omega), trivial⟩⟩)
    ·
      refine G_learnG (G := fun z => (x3 ≤ z ∧ p ≤ z ∧ z ≤ n ∧ (x2 = 1 → RUN F n (p) st 1 = RUN F n (z) st 0 ∧ ¬ lt F n (z) = 38) ∧ (x2 = 0 → RUN F n (p) st 1 = z))) (t := 29) (i := 0) (k := 0) (j := 3) (lo := -2147483648) (hi := 2147483647) (J2 := fun y12 => (fun σ' => IF MRp σ σ' ∧ eqn F (σ' 32 0 0) (Int.toNat n) ∧ (x3 ≤ σ' 29 0 0 3 ∧ p ≤ σ' 29 0 0 3 ∧ σ' 29 0 0 3 ≤ n ∧ (x2 = 1 → RUN F n (p) st 1 = RUN F n (σ' 29 0 0 3) st 0 ∧ ¬ lt F n (σ' 29 0 0 3) = 38) ∧ (x2 = 0 → RUN F n (p) st 1 = σ' 29 0 0 3)) ∧ σ' 29 0 0 3 = y12 ∧ True)) vd_29 (fun σ' h => h.1.1) (fun _ h => (by have q := h.1; omega)) (fun σ' h => h.2.2.1) (fun σ' y h hy => ⟨h.1, h.2.1, h.2.2.1, hy, trivial⟩) (fun y12 hy12 hy12' gy12 => ?_)
      refine G_know (J' := (fun σ' => IF MRp σ σ' ∧ eqn F (σ' 32 0 0) (Int.toNat n) ∧ σ' 29 0 0 3 = y12 ∧ True)) (fun σ' h => ⟨h.1, h.2.1, h.2.2.2.1, trivial⟩) ?_
      obtain ⟨gA, gB, gC, gD, gE⟩ := gy12
      have gF := gD (by omega)
      clear gD gE
      refine T_ld zk_52_18 rfl rfl rfl (pc' := 19) rfl ?_
      refine T_op zk_52_19 rfl (X_bi (v := 124) (by decide)) (pc' := 21) rfl ?_
      refine T_calli (K := fun y13 σ' => ((y13 = 0 ∧ (¬ lt F n (y12) = 124)) ∨ (y13 = 1 ∧ ¬ (¬ lt F n (y12) = 124))) ∧ (fun σ' => IF MRp σ σ' ∧ eqn F (σ' 32 0 0) (Int.toNat n) ∧ ((y13 = 1 → σ' 29 0 0 3 = y12 + 1) ∧ (y13 = 0 → σ' 29 0 0 3 = y12)) ∧ True) σ') (r := []) zk_52_21 rfl rfl rfl rfl rfl rfl (Or.inr ⟨_, _, _, _, rfl, vd_29, rfl⟩) (fun σ' h => (s_50 124 n y12 F (by omega) (by omega) (by omega) σ' h.1.1 (h.2.2.1) ((h.1.2 _ _ _ _ (by first | exact nMRp rfl | (unfold MRp; omega))).trans sn) (h.2.1)).le (Nat.le_of_ble_eq_true rfl) (fun v σ2 ⟨y, h1, h2, h3, h4⟩ => ⟨y, h1, h2, h.1.tr h3 (fun _ _ _ _ h => h), gf_mk (fun z => eqn F z (Int.toNat n)) (funext fun j => h3.2 _ _ _ _ (by first | exact nMRp rfl | (unfold MRp; omega))) (h.2.1), h4.1, trivial⟩)) (pc' := 24) rfl (fun y13 => ?_)
      refine G_ex (fun hy13 => ?_)
      refine T_if_eq zk_52_24 (by omega) (pc' := 27) rfl (fun h14 => ?_) (fun h15 => ?_)
      ·
        refine G_learnG (G := fun z => ((y13 = 1 → z = y12 + 1) ∧ (y13 = 0 → z = y12))) (t := 29) (i := 0) (k := 0) (j := 3) (lo := -2147483648) (hi := 2147483647) (J2 := fun y16 => (fun σ' => IF MRp σ σ' ∧ eqn F (σ' 32 0 0) (Int.toNat n) ∧ ((y13 = 1 → σ' 29 0 0 3 = y12 + 1) ∧ (y13 = 0 → σ' 29 0 0 3 = y12)) ∧ σ' 29 0 0 3 = y16 ∧ True)) vd_29 (fun σ' h => h.1.1) (fun _ h => (by have q := h.1; omega)) (fun σ' h => h.2.2.1) (fun σ' y h hy => ⟨h.1, h.2.1, h.2.2.1, hy, trivial⟩) (fun y16 hy16 hy16' gy16 => ?_)
        refine G_know (J' := (fun σ' => IF MRp σ σ' ∧ eqn F (σ' 32 0 0) (Int.toNat n) ∧ σ' 29 0 0 3 = y16 ∧ True)) (fun σ' h => ⟨h.1, h.2.1, h.2.2.2.1, trivial⟩) ?_
        have hv17 : y16 = y12 := by omega
        try clear gy16
        refine G_know (J' := (fun σ' => IF MRp σ σ' ∧ eqn F (σ' 32 0 0) (Int.toNat n) ∧ σ' 29 0 0 3 = y12 ∧ True)) (fun σ' h => ⟨h.1, h.2.1, (h.2.2.1).trans hv17, trivial⟩) ?_
        refine T_ld zk_52_48 rfl rfl rfl (pc' := 49) rfl ?_
        exact T_zret zk_52_49 rfl (by omega) (fun σ' h => ⟨_, rfl, (by omega), h.1, ⟨(by rw [h.2.2.1]; omega), trivial⟩⟩)
      ·
        refine G_learnG (G := fun z => ((y13 = 1 → z = y12 + 1) ∧ (y13 = 0 → z = y12))) (t := 29) (i := 0) (k := 0) (j := 3) (lo := -2147483648) (hi := 2147483647) (J2 := fun y18 => (fun σ' => IF MRp σ σ' ∧ eqn F (σ' 32 0 0) (Int.toNat n) ∧ ((y13 = 1 → σ' 29 0 0 3 = y12 + 1) ∧ (y13 = 0 → σ' 29 0 0 3 = y12)) ∧ σ' 29 0 0 3 = y18 ∧ True)) vd_29 (fun σ' h => h.1.1) (fun _ h => (by have q := h.1; omega)) (fun σ' h => h.2.2.1) (fun σ' y h hy => ⟨h.1, h.2.1, h.2.2.1, hy, trivial⟩) (fun y18 hy18 hy18' gy18 => ?_)
        refine G_know (J' := (fun σ' => IF MRp σ σ' ∧ eqn F (σ' 32 0 0) (Int.toNat n) ∧ σ' 29 0 0 3 = y18 ∧ True)) (fun σ' h => ⟨h.1, h.2.1, h.2.2.2.1, trivial⟩) ?_
        have hv19 : y18 = y12 + 1 := by omega
        try clear gy18
        refine G_know (J' := (fun σ' => IF MRp σ σ' ∧ eqn F (σ' 32 0 0) (Int.toNat n) ∧ σ' 29 0 0 3 = y12 + 1 ∧ True)) (fun σ' h => ⟨h.1, h.2.1, (h.2.2.1).trans hv19, trivial⟩) ?_
        have hin := lt_in (L := F) (n := n) (p := y12) (by omega)
        have hs := R_sign (L := F) (n := n) (p := y12) st (by omega) (by omega) (by omega)
        refine T_ld zk_52_27 rfl rfl rfl (pc' := 28) rfl ?_
        refine T_ld zk_52_28 rfl rfl rfl (pc' := 29) rfl ?_
        refine T_calli (K := fun y20 σ' => (y20 = 0 ∨ y20 = 1) ∧ (fun σ' => IF MRp σ σ' ∧ eqn F (σ' 32 0 0) (Int.toNat n) ∧ (((y12 + 1) ≤ σ' 29 0 0 3 ∧ σ' 29 0 0 3 ≤ n) ∧ (y20 = 1 → RUN F n ((y12 + 1)) st 1 = RUN F n (σ' 29 0 0 3) st 0 ∧ ¬ lt F n (σ' 29 0 0 3) = 38) ∧ (y20 = 0 → RUN F n ((y12 + 1)) st 1 = σ' 29 0 0 3)) ∧ True) σ') (r := []) zk_52_29 rfl rfl rfl rfl rfl rfl (Or.inr ⟨_, _, _, _, rfl, vd_29, rfl⟩) (fun σ' h => (s_53_20 n (y12 + 1) F st (by omega) (by omega) (by omega) hln hcl σ' h.1.1 (h.2.2.1) ((h.1.2 _ _ _ _ (by first | exact nMRp rfl | (unfold MRp; omega))).trans sn) (h.2.1)).le (Nat.le_of_ble_eq_true rfl) (fun v σ2 ⟨y, h1, h2, h3, h4⟩ => ⟨y, h1, h2, h.1.tr h3 (fun _ _ _ _ h => h), gf_mk (fun z => eqn F z (Int.toNat n)) (funext fun j => h3.2 _ _ _ _ (by first | exact nMRp rfl | (unfold MRp; omega))) (h.2.1), h4.1, trivial⟩)) (pc' := 32) rfl (fun y20 => ?_)
        refine G_ex (fun hy20 => ?_)
        refine T_st (L' := [(0, av 29 0 0), (1, iv 20), (2, iv y20), (3, iv x3)]) zk_52_32 (nL := 4) rfl rfl rfl rfl rfl (pc' := 33) rfl ?_
        refine T_ld zk_52_33 rfl rfl rfl (pc' := 34) rfl ?_
        refine T_getR (t' := 30) (i' := 0) (k' := 0) zk_52_34 rfl rfl rfl vd_29 (pc' := 37) rfl ?_
        refine T_op zk_52_37 rfl (X_bi (v := -3) (by decide)) (pc' := 39) rfl ?_
        refine T_callv (J' := (fun σ' => IF MRp σ σ' ∧ eqn F (σ' 32 0 0) (Int.toNat n) ∧ (((y12 + 1) ≤ σ' 29 0 0 3 ∧ σ' 29 0 0 3 ≤ n) ∧ (y20 = 1 → RUN F n ((y12 + 1)) st 1 = RUN F n (σ' 29 0 0 3) st 0 ∧ ¬ lt F n (σ' 29 0 0 3) = 38) ∧ (y20 = 0 → RUN F n ((y12 + 1)) st 1 = σ' 29 0 0 3)) ∧ True)) (r := []) zk_52_39 rfl rfl rfl rfl rfl rfl (Or.inr ⟨_, _, _, _, rfl, vd_30, rfl⟩) (fun σ' h => (s_42 ((-3)) (by omega) σ' h.1.1 ).le (Nat.le_of_ble_eq_true rfl) (fun v σ2 ⟨h1, h3, h4⟩ => ⟨h1, h.1.tr h3 sb79v_2c1b94d, gf_mk (fun z => eqn F z (Int.toNat n)) (funext fun j => h3.2 _ _ _ _ (by first | exact nMRq rfl | (unfold MRq; omega))) (h.2.1), gh_mk (fun z => ((y12 + 1) ≤ z ∧ z ≤ n) ∧ (y20 = 1 → RUN F n ((y12 + 1)) st 1 = RUN F n (z) st 0 ∧ ¬ lt F n (z) = 38) ∧ (y20 = 0 → RUN F n ((y12 + 1)) st 1 = z)) (h3.2 _ _ _ _ (by first | exact nMRq rfl | (unfold MRq; omega))) (h.2.2.1), trivial⟩)) (pc' := 42) rfl ?_
        refine T_iinc (L' := [(0, av 29 0 0), (1, iv 20), (2, iv y20), (3, iv (x3 + 1))]) zk_52_42 (nL := 4) rfl rfl rfl rfl (pc' := 45) rfl ?_
        refine T_goto zk_52_45 ?_
        refine G_know (J' := (fun σ' => IF MRp σ σ' ∧ eqn F (σ' 32 0 0) (Int.toNat n) ∧ ((x3 + 1) ≤ σ' 29 0 0 3 ∧ p ≤ σ' 29 0 0 3 ∧ σ' 29 0 0 3 ≤ n ∧ (y20 = 1 → RUN F n (p) st 1 = RUN F n (σ' 29 0 0 3) st 0 ∧ ¬ lt F n (σ' 29 0 0 3) = 38) ∧ (y20 = 0 → RUN F n (p) st 1 = σ' 29 0 0 3)) ∧ True)) (fun σ' h => ⟨h.1, h.2.1, (by have e := h.2.2.1; omega), trivial⟩) ?_
        exact ih4 y20 (x3 + 1) (by omega) (by omega)
/-- W$LawReader.readPart -/
theorem s_54_19 {xs : Nat × (Nat → Int32)}  (n : Int) (p : Int) (F : Nat → Int) (st : List Bool) (su : List Bool) (hn : 0 ≤ n ∧ n ≤ 96) (hp : 0 ≤ p ∧ p ≤ 200) (hpn : p ≤ n) (hln : (st.length : Int) = 19) (hsu : cls st = su) (σ : ZS) (hI : Inv σ)  (sp : σ 29 0 0 3 = p) (sn : σ 29 0 0 2 = n) (sl : eqn F (σ 32 0 0) (Int.toNat n)) : CT xs 7 54 [av 29 0 0, iv 19] σ (fun v σ' => ∃ y, v = some (iv y) ∧ (y = 0 ∨ y = 1) ∧ IF MRp σ σ' ∧ (((p ≤ σ' 29 0 0 3 ∧ σ' 29 0 0 3 ≤ n) ∧ (y = 1 → RUN F n (p) st 1 = RUN F n (σ' 29 0 0 3) su 0) ∧ (y = 0 → RUN F n (p) st 1 = σ' 29 0 0 3)) ∧ True)) := by
  refine G_ct (J := (fun σ' => IF MRp σ σ' ∧ σ' 29 0 0 3 = p ∧ eqn F (σ' 32 0 0) (Int.toNat n) ∧ True)) (L := [(0, av 29 0 0), (1, iv 19)]) (nL := 3) rfl rfl rfl ⟨IF.rf hI, sp, sl, trivial⟩ ?_
  have hw0 := fun (_ : Unit) => R_want (L := F) (n := n) (p := p) (d := 19) (by omega) (by omega) hln hsu
  refine T_ld zk_54_0 rfl rfl rfl (pc' := 1) rfl ?_
  refine T_calli (K := fun y1 σ' => (y1 = lt F n (p) ∧ -2147483648 ≤ y1 ∧ y1 ≤ 2147483647) ∧ (fun σ' => IF MRp σ σ' ∧ σ' 29 0 0 3 = p ∧ eqn F (σ' 32 0 0) (Int.toNat n) ∧ True) σ') (r := []) zk_54_1 rfl rfl rfl rfl rfl rfl (Or.inr ⟨_, _, _, _, rfl, vd_29, rfl⟩) (fun σ' h => (s_49 n p F (by omega) (by omega) σ' h.1.1 (h.2.1) ((h.1.2 _ _ _ _ (by first | exact nMRp rfl | (unfold MRp; omega))).trans sn) (h.2.2.1)).le (Nat.le_of_ble_eq_true rfl) (fun v σ2 ⟨y, h1, h2, h3, h4⟩ => ⟨y, h1, h2, h.1.tr h3 MN_sub, (h3.2 _ _ _ _ (fun q => q)).trans (h.2.1), gf_mk (fun z => eqn F z (Int.toNat n)) (funext fun j => h3.2 _ _ _ _ (fun q => q)) (h.2.2.1), trivial⟩)) (pc' := 4) rfl (fun y1 => ?_)
  refine G_ex (fun hy1 => ?_)
  obtain rfl : y1 = lt F n (p) := by omega
  refine T_op zk_54_4 rfl (X_bi (v := 33) (by decide)) (pc' := 6) rfl ?_
  refine T_icmp_eq zk_54_6 (by omega) (by omega) (pc' := 9) rfl (fun h2 => ?_) (fun h3 => ?_)
  ·
    have hin := lt_in (L := F) (n := n) (p := p) (by omega)
    refine T_ld zk_54_23 rfl rfl rfl (pc' := 24) rfl ?_
    refine T_op zk_54_24 rfl (X_bi (v := 20) (by decide)) (pc' := 26) rfl ?_
    refine T_icmp_lt zk_54_26 (by omega) (by omega) (pc' := 29) rfl (fun h4 => ?_) (fun h5 => ?_)
    ·
      refine T_ld zk_54_31 rfl rfl rfl (pc' := 32) rfl ?_
      refine T_op zk_54_32 rfl (X_bi (v := 40) (by decide)) (pc' := 34) rfl ?_
      refine T_calli (K := fun y6 σ' => ((y6 = 0 ∧ (¬ lt F n (p) = 40)) ∨ (y6 = 1 ∧ ¬ (¬ lt F n (p) = 40))) ∧ (fun σ' => IF MRp σ σ' ∧ eqn F (σ' 32 0 0) (Int.toNat n) ∧ ((y6 = 1 → σ' 29 0 0 3 = p + 1) ∧ (y6 = 0 → σ' 29 0 0 3 = p)) ∧ True) σ') (r := []) zk_54_34 rfl rfl rfl rfl rfl rfl (Or.inr ⟨_, _, _, _, rfl, vd_29, rfl⟩) (fun σ' h => (s_50 40 n p F (by omega) (by omega) (by omega) σ' h.1.1 (h.2.1) ((h.1.2 _ _ _ _ (by first | exact nMRp rfl | (unfold MRp; omega))).trans sn) (h.2.2.1)).le (Nat.le_of_ble_eq_true rfl) (fun v σ2 ⟨y, h1, h2, h3, h4⟩ => ⟨y, h1, h2, h.1.tr h3 (fun _ _ _ _ h => h), gf_mk (fun z => eqn F z (Int.toNat n)) (funext fun j => h3.2 _ _ _ _ (by first | exact nMRp rfl | (unfold MRp; omega))) (h.2.2.1), h4.1, trivial⟩)) (pc' := 37) rfl (fun y6 => ?_)
      refine G_ex (fun hy6 => ?_)
      refine T_if_eq zk_54_37 (by omega) (pc' := 40) rfl (fun h7 => ?_) (fun h8 => ?_)
      ·
        refine G_learnG (G := fun z => ((y6 = 1 → z = p + 1) ∧ (y6 = 0 → z = p))) (t := 29) (i := 0) (k := 0) (j := 3) (lo := -2147483648) (hi := 2147483647) (J2 := fun y9 => (fun σ' => IF MRp σ σ' ∧ eqn F (σ' 32 0 0) (Int.toNat n) ∧ ((y6 = 1 → σ' 29 0 0 3 = p + 1) ∧ (y6 = 0 → σ' 29 0 0 3 = p)) ∧ σ' 29 0 0 3 = y9 ∧ True)) vd_29 (fun σ' h => h.1.1) (fun _ h => (by have q := h.1; omega)) (fun σ' h => h.2.2.1) (fun σ' y h hy => ⟨h.1, h.2.1, h.2.2.1, hy, trivial⟩) (fun y9 hy9 hy9' gy9 => ?_)
        refine G_know (J' := (fun σ' => IF MRp σ σ' ∧ eqn F (σ' 32 0 0) (Int.toNat n) ∧ σ' 29 0 0 3 = y9 ∧ True)) (fun σ' h => ⟨h.1, h.2.1, h.2.2.2.1, trivial⟩) ?_
        have hv10 : y9 = p := by omega
        try clear gy9
        refine G_know (J' := (fun σ' => IF MRp σ σ' ∧ eqn F (σ' 32 0 0) (Int.toNat n) ∧ σ' 29 0 0 3 = p ∧ True)) (fun σ' h => ⟨h.1, h.2.1, (h.2.2.1).trans hv10, trivial⟩) ?_
        have hw5 := (hw0 ()).1 ⟨by omega, by omega⟩
        refine T_ld zk_54_65 rfl rfl rfl (pc' := 66) rfl ?_
        refine T_op (st' := [av 29 0 0, av 29 0 0]) zk_54_66 rfl rfl (pc' := 67) rfl ?_
        refine G_getX (w := p) zk_54_67 rfl vd_29 (fun σ' h => h.2.2.1) (pc' := 70) rfl ?_
        refine T_op zk_54_70 rfl X_ic (pc' := 71) rfl ?_
        refine T_op zk_54_71 rfl X_add (pc' := 72) rfl ?_
        refine T_putf (J' := (fun σ' => IF MRp σ σ' ∧ eqn F (σ' 32 0 0) (Int.toNat n) ∧ σ' 29 0 0 3 = p + 1 ∧ True)) zk_54_72 rfl rfl vd_29 (fun σ' h => ⟨h.1.up (by simp only [rgP] <;> omega) (by first | exact pMRp rfl | (unfold MRp; omega)), gf_mk (fun z => eqn F z (Int.toNat n)) (up_row (by omega)) (h.2.1), up_eq, trivial⟩) (pc' := 75) rfl ?_
        refine T_ld zk_54_75 rfl rfl rfl (pc' := 76) rfl ?_
        refine T_ld zk_54_76 rfl rfl rfl (pc' := 77) rfl ?_
        refine T_op zk_54_77 rfl X_ic (pc' := 78) rfl ?_
        refine T_opc (w := 20) zk_54_78 rfl X_add (by omega) (pc' := 79) rfl ?_
        refine T_calli (K := fun y11 σ' => (y11 = 0 ∨ y11 = 1) ∧ (fun σ' => IF MRp σ σ' ∧ eqn F (σ' 32 0 0) (Int.toNat n) ∧ (((p + 1) ≤ σ' 29 0 0 3 ∧ σ' 29 0 0 3 ≤ n) ∧ (y11 = 1 → RUN F n ((p + 1)) (false :: st) 1 = RUN F n (σ' 29 0 0 3) su 0) ∧ (y11 = 0 → RUN F n ((p + 1)) (false :: st) 1 = σ' 29 0 0 3)) ∧ True) σ') (r := []) zk_54_79 rfl rfl rfl rfl rfl rfl (Or.inr ⟨_, _, _, _, rfl, vd_29, rfl⟩) (fun σ' h => (s_54_20 n (p + 1) F ((false :: st)) su (by omega) (by omega) (by omega) (by rw [List.length_cons]; omega) (by rw [cls_f]; exact hsu) σ' h.1.1 (h.2.2.1) ((h.1.2 _ _ _ _ (by first | exact nMRp rfl | (unfold MRp; omega))).trans sn) (h.2.1)).le (Nat.le_of_ble_eq_true rfl) (fun v σ2 ⟨y, h1, h2, h3, h4⟩ => ⟨y, h1, h2, h.1.tr h3 (fun _ _ _ _ h => h), gf_mk (fun z => eqn F z (Int.toNat n)) (funext fun j => h3.2 _ _ _ _ (by first | exact nMRp rfl | (unfold MRp; omega))) (h.2.1), h4.1, trivial⟩)) (pc' := 82) rfl (fun y11 => ?_)
        refine G_ex (fun hy11 => ?_)
        refine T_st (L' := [(0, av 29 0 0), (1, iv 19), (2, iv y11)]) zk_54_82 (nL := 3) rfl rfl rfl rfl rfl (pc' := 83) rfl ?_
        refine T_ld zk_54_83 rfl rfl rfl (pc' := 84) rfl ?_
        refine T_getR (t' := 30) (i' := 0) (k' := 0) zk_54_84 rfl rfl rfl vd_29 (pc' := 87) rfl ?_
        refine T_op zk_54_87 rfl X_ic (pc' := 88) rfl ?_
        refine T_callv (J' := (fun σ' => IF MRp σ σ' ∧ eqn F (σ' 32 0 0) (Int.toNat n) ∧ (((p + 1) ≤ σ' 29 0 0 3 ∧ σ' 29 0 0 3 ≤ n) ∧ (y11 = 1 → RUN F n ((p + 1)) (false :: st) 1 = RUN F n (σ' 29 0 0 3) su 0) ∧ (y11 = 0 → RUN F n ((p + 1)) (false :: st) 1 = σ' 29 0 0 3)) ∧ True)) (r := []) zk_54_88 rfl rfl rfl rfl rfl rfl (Or.inr ⟨_, _, _, _, rfl, vd_30, rfl⟩) (fun σ' h => (s_42 ((-1)) (by omega) σ' h.1.1 ).le (Nat.le_of_ble_eq_true rfl) (fun v σ2 ⟨h1, h3, h4⟩ => ⟨h1, h.1.tr h3 sb79v_2c1b94d, gf_mk (fun z => eqn F z (Int.toNat n)) (funext fun j => h3.2 _ _ _ _ (by first | exact nMRq rfl | (unfold MRq; omega))) (h.2.1), gh_mk (fun z => ((p + 1) ≤ z ∧ z ≤ n) ∧ (y11 = 1 → RUN F n ((p + 1)) (false :: st) 1 = RUN F n (z) su 0) ∧ (y11 = 0 → RUN F n ((p + 1)) (false :: st) 1 = z)) (h3.2 _ _ _ _ (by first | exact nMRq rfl | (unfold MRq; omega))) (h.2.2.1), trivial⟩)) (pc' := 91) rfl ?_
        refine T_ld zk_54_91 rfl rfl rfl (pc' := 92) rfl ?_
        exact T_zret zk_54_92 rfl (by omega) (fun σ' h => ⟨_, rfl, (by omega), h.1, ⟨(by have e := h.2.2.1; omega), trivial⟩⟩)
      ·
        exfalso; omega
    · exfalso; omega
  ·
    refine T_ld zk_54_9 rfl rfl rfl (pc' := 10) rfl ?_
    refine T_calli (K := fun y13 σ' => (y13 = lt F n (p) ∧ -2147483648 ≤ y13 ∧ y13 ≤ 2147483647) ∧ (fun σ' => IF MRp σ σ' ∧ σ' 29 0 0 3 = p ∧ eqn F (σ' 32 0 0) (Int.toNat n) ∧ True) σ') (r := []) zk_54_10 rfl rfl rfl rfl rfl rfl (Or.inr ⟨_, _, _, _, rfl, vd_29, rfl⟩) (fun σ' h => (s_49 n p F (by omega) (by omega) σ' h.1.1 (h.2.1) ((h.1.2 _ _ _ _ (by first | exact nMRp rfl | (unfold MRp; omega))).trans sn) (h.2.2.1)).le (Nat.le_of_ble_eq_true rfl) (fun v σ2 ⟨y, h1, h2, h3, h4⟩ => ⟨y, h1, h2, h.1.tr h3 MN_sub, (h3.2 _ _ _ _ (fun q => q)).trans (h.2.1), gf_mk (fun z => eqn F z (Int.toNat n)) (funext fun j => h3.2 _ _ _ _ (fun q => q)) (h.2.2.1), trivial⟩)) (pc' := 13) rfl (fun y13 => ?_)
    refine G_ex (fun hy13 => ?_)
    obtain rfl : y13 = lt F n (p) := by omega
    refine T_op zk_54_13 rfl (X_bi (v := 40) (by decide)) (pc' := 15) rfl ?_
    refine T_icmp_eq zk_54_15 (by omega) (by omega) (pc' := 18) rfl (fun h14 => ?_) (fun h15 => ?_)
    ·
      have hin := lt_in (L := F) (n := n) (p := p) (by omega)
      refine T_ld zk_54_23 rfl rfl rfl (pc' := 24) rfl ?_
      refine T_op zk_54_24 rfl (X_bi (v := 20) (by decide)) (pc' := 26) rfl ?_
      refine T_icmp_lt zk_54_26 (by omega) (by omega) (pc' := 29) rfl (fun h16 => ?_) (fun h17 => ?_)
      ·
        refine T_ld zk_54_31 rfl rfl rfl (pc' := 32) rfl ?_
        refine T_op zk_54_32 rfl (X_bi (v := 40) (by decide)) (pc' := 34) rfl ?_
        refine T_calli (K := fun y18 σ' => ((y18 = 0 ∧ (¬ lt F n (p) = 40)) ∨ (y18 = 1 ∧ ¬ (¬ lt F n (p) = 40))) ∧ (fun σ' => IF MRp σ σ' ∧ eqn F (σ' 32 0 0) (Int.toNat n) ∧ ((y18 = 1 → σ' 29 0 0 3 = p + 1) ∧ (y18 = 0 → σ' 29 0 0 3 = p)) ∧ True) σ') (r := []) zk_54_34 rfl rfl rfl rfl rfl rfl (Or.inr ⟨_, _, _, _, rfl, vd_29, rfl⟩) (fun σ' h => (s_50 40 n p F (by omega) (by omega) (by omega) σ' h.1.1 (h.2.1) ((h.1.2 _ _ _ _ (by first | exact nMRp rfl | (unfold MRp; omega))).trans sn) (h.2.2.1)).le (Nat.le_of_ble_eq_true rfl) (fun v σ2 ⟨y, h1, h2, h3, h4⟩ => ⟨y, h1, h2, h.1.tr h3 (fun _ _ _ _ h => h), gf_mk (fun z => eqn F z (Int.toNat n)) (funext fun j => h3.2 _ _ _ _ (by first | exact nMRp rfl | (unfold MRp; omega))) (h.2.2.1), h4.1, trivial⟩)) (pc' := 37) rfl (fun y18 => ?_)
        refine G_ex (fun hy18 => ?_)
        refine T_if_eq zk_54_37 (by omega) (pc' := 40) rfl (fun h19 => ?_) (fun h20 => ?_)
        ·
          exfalso; omega
        ·
          refine G_learnG (G := fun z => ((y18 = 1 → z = p + 1) ∧ (y18 = 0 → z = p))) (t := 29) (i := 0) (k := 0) (j := 3) (lo := -2147483648) (hi := 2147483647) (J2 := fun y21 => (fun σ' => IF MRp σ σ' ∧ eqn F (σ' 32 0 0) (Int.toNat n) ∧ ((y18 = 1 → σ' 29 0 0 3 = p + 1) ∧ (y18 = 0 → σ' 29 0 0 3 = p)) ∧ σ' 29 0 0 3 = y21 ∧ True)) vd_29 (fun σ' h => h.1.1) (fun _ h => (by have q := h.1; omega)) (fun σ' h => h.2.2.1) (fun σ' y h hy => ⟨h.1, h.2.1, h.2.2.1, hy, trivial⟩) (fun y21 hy21 hy21' gy21 => ?_)
          refine G_know (J' := (fun σ' => IF MRp σ σ' ∧ eqn F (σ' 32 0 0) (Int.toNat n) ∧ σ' 29 0 0 3 = y21 ∧ True)) (fun σ' h => ⟨h.1, h.2.1, h.2.2.2.1, trivial⟩) ?_
          have hv22 : y21 = p + 1 := by omega
          try clear gy21
          refine G_know (J' := (fun σ' => IF MRp σ σ' ∧ eqn F (σ' 32 0 0) (Int.toNat n) ∧ σ' 29 0 0 3 = p + 1 ∧ True)) (fun σ' h => ⟨h.1, h.2.1, (h.2.2.1).trans hv22, trivial⟩) ?_
          have hw4 := (hw0 ()).2.1 ⟨by omega, by omega⟩
          refine T_ld zk_54_40 rfl rfl rfl (pc' := 41) rfl ?_
          refine T_ld zk_54_41 rfl rfl rfl (pc' := 42) rfl ?_
          refine T_op zk_54_42 rfl X_ic (pc' := 43) rfl ?_
          refine T_opc (w := 20) zk_54_43 rfl X_add (by omega) (pc' := 44) rfl ?_
          refine T_calli (K := fun y23 σ' => (y23 = 0 ∨ y23 = 1) ∧ (fun σ' => IF MRp σ σ' ∧ eqn F (σ' 32 0 0) (Int.toNat n) ∧ (((p + 1) ≤ σ' 29 0 0 3 ∧ σ' 29 0 0 3 ≤ n) ∧ (y23 = 1 → RUN F n ((p + 1)) (true :: st) 1 = RUN F n (σ' 29 0 0 3) (true :: st) 0 ∧ ¬ lt F n (σ' 29 0 0 3) = 38 ∧ ¬ lt F n (σ' 29 0 0 3) = 124) ∧ (y23 = 0 → RUN F n ((p + 1)) (true :: st) 1 = σ' 29 0 0 3)) ∧ True) σ') (r := []) zk_54_44 rfl rfl rfl rfl rfl rfl (Or.inr ⟨_, _, _, _, rfl, vd_29, rfl⟩) (fun σ' h => (s_52_20 n (p + 1) F ((true :: st)) (by omega) (by omega) (by omega) (by rw [List.length_cons]; omega) (cls_t st) σ' h.1.1 (h.2.2.1) ((h.1.2 _ _ _ _ (by first | exact nMRp rfl | (unfold MRp; omega))).trans sn) (h.2.1)).le (Nat.le_of_ble_eq_true rfl) (fun v σ2 ⟨y, h1, h2, h3, h4⟩ => ⟨y, h1, h2, h.1.tr h3 (fun _ _ _ _ h => h), gf_mk (fun z => eqn F z (Int.toNat n)) (funext fun j => h3.2 _ _ _ _ (by first | exact nMRp rfl | (unfold MRp; omega))) (h.2.1), h4.1, trivial⟩)) (pc' := 47) rfl (fun y23 => ?_)
          refine G_ex (fun hy23 => ?_)
          refine T_if_eq zk_54_47 (by omega) (pc' := 50) rfl (fun h24 => ?_) (fun h25 => ?_)
          ·
            refine T_op zk_54_63 rfl X_ic (pc' := 64) rfl ?_
            exact T_zret zk_54_64 rfl (by omega) (fun σ' h => ⟨_, rfl, (by omega), h.1, ⟨(by have e := h.2.2.1; omega), trivial⟩⟩)
          ·
            refine G_learnG (G := fun z => (((p + 1) ≤ z ∧ z ≤ n) ∧ (y23 = 1 → RUN F n ((p + 1)) (true :: st) 1 = RUN F n (z) (true :: st) 0 ∧ ¬ lt F n (z) = 38 ∧ ¬ lt F n (z) = 124) ∧ (y23 = 0 → RUN F n ((p + 1)) (true :: st) 1 = z))) (t := 29) (i := 0) (k := 0) (j := 3) (lo := -2147483648) (hi := 2147483647) (J2 := fun y26 => (fun σ' => IF MRp σ σ' ∧ eqn F (σ' 32 0 0) (Int.toNat n) ∧ (((p + 1) ≤ σ' 29 0 0 3 ∧ σ' 29 0 0 3 ≤ n) ∧ (y23 = 1 → RUN F n ((p + 1)) (true :: st) 1 = RUN F n (σ' 29 0 0 3) (true :: st) 0 ∧ ¬ lt F n (σ' 29 0 0 3) = 38 ∧ ¬ lt F n (σ' 29 0 0 3) = 124) ∧ (y23 = 0 → RUN F n ((p + 1)) (true :: st) 1 = σ' 29 0 0 3)) ∧ σ' 29 0 0 3 = y26 ∧ True)) vd_29 (fun σ' h => h.1.1) (fun _ h => (by have q := h.1; omega)) (fun σ' h => h.2.2.1) (fun σ' y h hy => ⟨h.1, h.2.1, h.2.2.1, hy, trivial⟩) (fun y26 hy26 hy26' gy26 => ?_)
            refine G_know (J' := (fun σ' => IF MRp σ σ' ∧ eqn F (σ' 32 0 0) (Int.toNat n) ∧ σ' 29 0 0 3 = y26 ∧ True)) (fun σ' h => ⟨h.1, h.2.1, h.2.2.2.1, trivial⟩) ?_
            obtain ⟨gA, gB, gD⟩ := gy26
            have gC := gB (by omega)
            clear gB gD
            refine T_ld zk_54_50 rfl rfl rfl (pc' := 51) rfl ?_
            refine T_op zk_54_51 rfl (X_bi (v := 41) (by decide)) (pc' := 53) rfl ?_
            refine T_calli (K := fun y27 σ' => ((y27 = 0 ∧ (¬ lt F n (y26) = 41)) ∨ (y27 = 1 ∧ ¬ (¬ lt F n (y26) = 41))) ∧ (fun σ' => IF MRp σ σ' ∧ eqn F (σ' 32 0 0) (Int.toNat n) ∧ ((y27 = 1 → σ' 29 0 0 3 = y26 + 1) ∧ (y27 = 0 → σ' 29 0 0 3 = y26)) ∧ True) σ') (r := []) zk_54_53 rfl rfl rfl rfl rfl rfl (Or.inr ⟨_, _, _, _, rfl, vd_29, rfl⟩) (fun σ' h => (s_50 41 n y26 F (by omega) (by omega) (by omega) σ' h.1.1 (h.2.2.1) ((h.1.2 _ _ _ _ (by first | exact nMRp rfl | (unfold MRp; omega))).trans sn) (h.2.1)).le (Nat.le_of_ble_eq_true rfl) (fun v σ2 ⟨y, h1, h2, h3, h4⟩ => ⟨y, h1, h2, h.1.tr h3 (fun _ _ _ _ h => h), gf_mk (fun z => eqn F z (Int.toNat n)) (funext fun j => h3.2 _ _ _ _ (by first | exact nMRp rfl | (unfold MRp; omega))) (h.2.1), h4.1, trivial⟩)) (pc' := 56) rfl (fun y27 => ?_)
            refine G_ex (fun hy27 => ?_)
            refine T_if_eq zk_54_56 (by omega) (pc' := 59) rfl (fun h28 => ?_) (fun h29 => ?_)
            ·
              refine G_learnG (G := fun z => ((y27 = 1 → z = y26 + 1) ∧ (y27 = 0 → z = y26))) (t := 29) (i := 0) (k := 0) (j := 3) (lo := -2147483648) (hi := 2147483647) (J2 := fun y30 => (fun σ' => IF MRp σ σ' ∧ eqn F (σ' 32 0 0) (Int.toNat n) ∧ ((y27 = 1 → σ' 29 0 0 3 = y26 + 1) ∧ (y27 = 0 → σ' 29 0 0 3 = y26)) ∧ σ' 29 0 0 3 = y30 ∧ True)) vd_29 (fun σ' h => h.1.1) (fun _ h => (by have q := h.1; omega)) (fun σ' h => h.2.2.1) (fun σ' y h hy => ⟨h.1, h.2.1, h.2.2.1, hy, trivial⟩) (fun y30 hy30 hy30' gy30 => ?_)
              refine G_know (J' := (fun σ' => IF MRp σ σ' ∧ eqn F (σ' 32 0 0) (Int.toNat n) ∧ σ' 29 0 0 3 = y30 ∧ True)) (fun σ' h => ⟨h.1, h.2.1, h.2.2.2.1, trivial⟩) ?_
              have hv31 : y30 = y26 := by omega
              try clear gy30
              refine G_know (J' := (fun σ' => IF MRp σ σ' ∧ eqn F (σ' 32 0 0) (Int.toNat n) ∧ σ' 29 0 0 3 = y26 ∧ True)) (fun σ' h => ⟨h.1, h.2.1, (h.2.2.1).trans hv31, trivial⟩) ?_
              have hsh := (R_shut (L := F) (n := n) (p := y26) st (by omega) (by omega)).2 (by omega)
              refine T_op zk_54_63 rfl X_ic (pc' := 64) rfl ?_
              exact T_zret zk_54_64 rfl (by omega) (fun σ' h => ⟨_, rfl, (by omega), h.1, ⟨(by rw [h.2.2.1]; omega), trivial⟩⟩)
            ·
              refine G_learnG (G := fun z => ((y27 = 1 → z = y26 + 1) ∧ (y27 = 0 → z = y26))) (t := 29) (i := 0) (k := 0) (j := 3) (lo := -2147483648) (hi := 2147483647) (J2 := fun y32 => (fun σ' => IF MRp σ σ' ∧ eqn F (σ' 32 0 0) (Int.toNat n) ∧ ((y27 = 1 → σ' 29 0 0 3 = y26 + 1) ∧ (y27 = 0 → σ' 29 0 0 3 = y26)) ∧ σ' 29 0 0 3 = y32 ∧ True)) vd_29 (fun σ' h => h.1.1) (fun _ h => (by have q := h.1; omega)) (fun σ' h => h.2.2.1) (fun σ' y h hy => ⟨h.1, h.2.1, h.2.2.1, hy, trivial⟩) (fun y32 hy32 hy32' gy32 => ?_)
              refine G_know (J' := (fun σ' => IF MRp σ σ' ∧ eqn F (σ' 32 0 0) (Int.toNat n) ∧ σ' 29 0 0 3 = y32 ∧ True)) (fun σ' h => ⟨h.1, h.2.1, h.2.2.2.1, trivial⟩) ?_
              have hv33 : y32 = y26 + 1 := by omega
              try clear gy32
              refine G_know (J' := (fun σ' => IF MRp σ σ' ∧ eqn F (σ' 32 0 0) (Int.toNat n) ∧ σ' 29 0 0 3 = y26 + 1 ∧ True)) (fun σ' h => ⟨h.1, h.2.1, (h.2.2.1).trans hv33, trivial⟩) ?_
              have hin2 := lt_in (L := F) (n := n) (p := y26) (by omega)
              have hsh := (R_shut (L := F) (n := n) (p := y26) st (by omega) (by omega)).1 (by omega)
              rw [hsu] at hsh
              refine T_op zk_54_59 rfl X_ic (pc' := 60) rfl ?_
              refine T_goto zk_54_60 ?_
              exact T_zret zk_54_64 rfl (by omega) (fun σ' h => ⟨_, rfl, (by omega), h.1, ⟨(by rw [h.2.2.1]; omega), trivial⟩⟩)
      · exfalso; omega
    ·
      obtain ⟨ht1, ht2, _⟩ := te_in (L := F) (n := n) (p := p) (by omega) (by omega)
      have hw1 : tk F n p = 1 → RUN F n p st 1 = RUN F n (te F n p) su 0 := fun q => (hw0 ()).2.2.2.1 ⟨by omega, by omega, q⟩
      have hw2 : ¬ tk F n p = 1 → RUN F n p st 1 = te F n p := fun q => (hw0 ()).2.2.2.2 ⟨by omega, by omega, q⟩
      refine T_ld zk_54_18 rfl rfl rfl (pc' := 19) rfl ?_
      refine T_calli (K := fun y34 σ' => ((y34 = 1 ∧ tk F n (p) = 1) ∨ (y34 = 0 ∧ tk F n (p) = 0)) ∧ (fun σ' => IF MRp σ σ' ∧ eqn F (σ' 32 0 0) (Int.toNat n) ∧ σ' 29 0 0 3 = te F n (p) ∧ True) σ') (r := []) zk_54_19 rfl rfl rfl rfl rfl rfl (Or.inr ⟨_, _, _, _, rfl, vd_29, rfl⟩) (fun σ' h => (s_55 n p F (by omega) (by omega) σ' h.1.1 (h.2.1) ((h.1.2 _ _ _ _ (by first | exact nMRp rfl | (unfold MRp; omega))).trans sn) (h.2.2.1)).le (Nat.le_of_ble_eq_true rfl) (fun v σ2 ⟨y, h1, h2, h3, h4⟩ => ⟨y, h1, h2, h.1.tr h3 (fun _ _ _ _ h => h), gf_mk (fun z => eqn F z (Int.toNat n)) (funext fun j => h3.2 _ _ _ _ (by first | exact nMRp rfl | (unfold MRp; omega))) (h.2.2.1), h4.1, trivial⟩)) (pc' := 22) rfl (fun y34 => ?_)
      refine G_ex (fun hy34 => ?_)
      exact T_zret zk_54_22 rfl (by omega) (fun σ' h => ⟨_, rfl, (by omega), h.1, ⟨(by rw [h.2.2.1]; omega), trivial⟩⟩)
/-- W$LawReader.readBoth -/
theorem s_53_19 {xs : Nat × (Nat → Int32)}  (n : Int) (p : Int) (F : Nat → Int) (st : List Bool) (hn : 0 ≤ n ∧ n ≤ 96) (hp : 0 ≤ p ∧ p ≤ 200) (hpn : p ≤ n) (hln : (st.length : Int) = 19) (hcl : cls st = st) (σ : ZS) (hI : Inv σ)  (sp : σ 29 0 0 3 = p) (sn : σ 29 0 0 2 = n) (sl : eqn F (σ 32 0 0) (Int.toNat n)) : CT xs 8 53 [av 29 0 0, iv 19] σ (fun v σ' => ∃ y, v = some (iv y) ∧ (y = 0 ∨ y = 1) ∧ IF MRp σ σ' ∧ (((p ≤ σ' 29 0 0 3 ∧ σ' 29 0 0 3 ≤ n) ∧ (y = 1 → RUN F n (p) st 1 = RUN F n (σ' 29 0 0 3) st 0 ∧ ¬ lt F n (σ' 29 0 0 3) = 38) ∧ (y = 0 → RUN F n (p) st 1 = σ' 29 0 0 3)) ∧ True)) := by
  refine G_ct (J := (fun σ' => IF MRp σ σ' ∧ σ' 29 0 0 3 = p ∧ eqn F (σ' 32 0 0) (Int.toNat n) ∧ True)) (L := [(0, av 29 0 0), (1, iv 19)]) (nL := 4) rfl rfl rfl ⟨IF.rf hI, sp, sl, trivial⟩ ?_
  refine T_ld zk_53_0 rfl rfl rfl (pc' := 1) rfl ?_
  refine T_ld zk_53_1 rfl rfl rfl (pc' := 2) rfl ?_
  refine T_calli (K := fun y1 σ' => (y1 = 0 ∨ y1 = 1) ∧ (fun σ' => IF MRp σ σ' ∧ eqn F (σ' 32 0 0) (Int.toNat n) ∧ ((p ≤ σ' 29 0 0 3 ∧ σ' 29 0 0 3 ≤ n) ∧ (y1 = 1 → RUN F n (p) st 1 = RUN F n (σ' 29 0 0 3) st 0) ∧ (y1 = 0 → RUN F n (p) st 1 = σ' 29 0 0 3)) ∧ True) σ') (r := []) zk_53_2 rfl rfl rfl rfl rfl rfl (Or.inr ⟨_, _, _, _, rfl, vd_29, rfl⟩) (fun σ' h => (s_54_19 n p F st st (by omega) (by omega) (by omega) hln hcl σ' h.1.1 (h.2.1) ((h.1.2 _ _ _ _ (by first | exact nMRp rfl | (unfold MRp; omega))).trans sn) (h.2.2.1)).le (Nat.le_of_ble_eq_true rfl) (fun v σ2 ⟨y, h1, h2, h3, h4⟩ => ⟨y, h1, h2, h.1.tr h3 (fun _ _ _ _ h => h), gf_mk (fun z => eqn F z (Int.toNat n)) (funext fun j => h3.2 _ _ _ _ (by first | exact nMRp rfl | (unfold MRp; omega))) (h.2.2.1), h4.1, trivial⟩)) (pc' := 5) rfl (fun y1 => ?_)
  refine G_ex (fun hy1 => ?_)
  refine T_st (L' := [(0, av 29 0 0), (1, iv 19), (2, iv y1)]) zk_53_5 (nL := 4) rfl rfl rfl rfl rfl (pc' := 6) rfl ?_
  refine T_op zk_53_6 rfl X_ic (pc' := 7) rfl ?_
  refine T_st (L' := [(0, av 29 0 0), (1, iv 19), (2, iv y1), (3, iv 0)]) zk_53_7 (nL := 4) rfl rfl rfl rfl rfl (pc' := 8) rfl ?_
  refine G_know (J' := (fun σ' => IF MRp σ σ' ∧ eqn F (σ' 32 0 0) (Int.toNat n) ∧ (0 ≤ σ' 29 0 0 3 ∧ p ≤ σ' 29 0 0 3 ∧ σ' 29 0 0 3 ≤ n ∧ (y1 = 1 → RUN F n (p) st 1 = RUN F n (σ' 29 0 0 3) st 0) ∧ (y1 = 0 → RUN F n (p) st 1 = σ' 29 0 0 3)) ∧ True)) (fun σ' h => ⟨h.1, h.2.1, (by have e := h.2.2.1; omega), trivial⟩) ?_
  refine T_loop2 (fun x2 x3 => ((96 - x3 : Int)).toNat) (fun x2 x3 => (0 ≤ x2 ∧ x2 ≤ 1) ∧ (0 ≤ x3 ∧ x3 ≤ 96)) (fun x2 x3 => TJ xs (fun σ' => IF MRp σ σ' ∧ eqn F (σ' 32 0 0) (Int.toNat n) ∧ (x3 ≤ σ' 29 0 0 3 ∧ p ≤ σ' 29 0 0 3 ∧ σ' 29 0 0 3 ≤ n ∧ (x2 = 1 → RUN F n (p) st 1 = RUN F n (σ' 29 0 0 3) st 0) ∧ (x2 = 0 → RUN F n (p) st 1 = σ' 29 0 0 3)) ∧ True) 7 53 8 [(0, av 29 0 0), (1, iv 19), (2, iv x2), (3, iv x3)] [] _) ?_ y1 0 (by omega)
  intro x2 x3 hp5 ih4
  refine T_ld zk_53_8 rfl rfl rfl (pc' := 9) rfl ?_
  refine T_op zk_53_9 rfl (X_bi (v := 96) (by decide)) (pc' := 11) rfl ?_
  refine T_icmp_ge zk_53_11 (by omega) (by omega) (pc' := 14) rfl (fun h6 => ?_) (fun h7 => ?_)
  ·
    refine G_learnG (G := fun z => (x3 ≤ z ∧ p ≤ z ∧ z ≤ n ∧ (x2 = 1 → RUN F n (p) st 1 = RUN F n (z) st 0) ∧ (x2 = 0 → RUN F n (p) st 1 = z))) (t := 29) (i := 0) (k := 0) (j := 3) (lo := -2147483648) (hi := 2147483647) (J2 := fun y8 => (fun σ' => IF MRp σ σ' ∧ eqn F (σ' 32 0 0) (Int.toNat n) ∧ (x3 ≤ σ' 29 0 0 3 ∧ p ≤ σ' 29 0 0 3 ∧ σ' 29 0 0 3 ≤ n ∧ (x2 = 1 → RUN F n (p) st 1 = RUN F n (σ' 29 0 0 3) st 0) ∧ (x2 = 0 → RUN F n (p) st 1 = σ' 29 0 0 3)) ∧ σ' 29 0 0 3 = y8 ∧ True)) vd_29 (fun σ' h => h.1.1) (fun _ h => (by have q := h.1; omega)) (fun σ' h => h.2.2.1) (fun σ' y h hy => ⟨h.1, h.2.1, h.2.2.1, hy, trivial⟩) (fun y8 hy8 hy8' gy8 => ?_)
    refine G_know (J' := (fun σ' => IF MRp σ σ' ∧ eqn F (σ' 32 0 0) (Int.toNat n) ∧ σ' 29 0 0 3 = y8 ∧ True)) (fun σ' h => ⟨h.1, h.2.1, h.2.2.2.1, trivial⟩) ?_
    have hly8 := lt_spec F n y8
    refine T_ld zk_53_48 rfl rfl rfl (pc' := 49) rfl ?_
    exact T_zret zk_53_49 rfl (by omega) (fun σ' h => ⟨_, rfl, (by omega), h.1, ⟨(by rw [h.2.2.1]; omega), trivial⟩⟩)
  ·
    refine T_ld zk_53_14 rfl rfl rfl (pc' := 15) rfl ?_
    refine T_if_eq zk_53_15 (by omega) (pc' := 18) rfl (fun h9 => ?_) (fun h10 => ?_)
    ·
      refine G_learnG (G := fun z => (x3 ≤ z ∧ p ≤ z ∧ z ≤ n ∧ (x2 = 1 → RUN F n (p) st 1 = RUN F n (z) st 0) ∧ (x2 = 0 → RUN F n (p) st 1 = z))) (t := 29) (i := 0) (k := 0) (j := 3) (lo := -2147483648) (hi := 2147483647) (J2 := fun y11 => (fun σ' => IF MRp σ σ' ∧ eqn F (σ' 32 0 0) (Int.toNat n) ∧ (x3 ≤ σ' 29 0 0 3 ∧ p ≤ σ' 29 0 0 3 ∧ σ' 29 0 0 3 ≤ n ∧ (x2 = 1 → RUN F n (p) st 1 = RUN F n (σ' 29 0 0 3) st 0) ∧ (x2 = 0 → RUN F n (p) st 1 = σ' 29 0 0 3)) ∧ σ' 29 0 0 3 = y11 ∧ True)) vd_29 (fun σ' h => h.1.1) (fun _ h => (by have q := h.1; omega)) (fun σ' h => h.2.2.1) (fun σ' y h hy => ⟨h.1, h.2.1, h.2.2.1, hy, trivial⟩) (fun y11 hy11 hy11' gy11 => ?_)
      refine G_know (J' := (fun σ' => IF MRp σ σ' ∧ eqn F (σ' 32 0 0) (Int.toNat n) ∧ σ' 29 0 0 3 = y11 ∧ True)) (fun σ' h => ⟨h.1, h.2.1, h.2.2.2.1, trivial⟩) ?_
      have hly11 := lt_spec F n y11
      refine T_ld zk_53_48 rfl rfl rfl (pc' := 49) rfl ?_
      exact T_zret zk_53_49 rfl (by omega) (fun σ' h => ⟨_, rfl, (by omega), h.1, ⟨(by rw [h.2.2.1]; omega), trivial⟩⟩)
    ·
      refine G_learnG (G := fun z => (x3 ≤ z ∧ p ≤ z ∧ z ≤ n ∧ (x2 = 1 → RUN F n (p) st 1 = RUN F n (z) st 0) ∧ (x2 = 0 → RUN F n (p) st 1 = z))) (t := 29) (i := 0) (k := 0) (j := 3) (lo := -2147483648) (hi := 2147483647) (J2 := fun y12 => (fun σ' => IF MRp σ σ' ∧ eqn F (σ' 32 0 0) (Int.toNat n) ∧ (x3 ≤ σ' 29 0 0 3 ∧ p ≤ σ' 29 0 0 3 ∧ σ' 29 0 0 3 ≤ n ∧ (x2 = 1 → RUN F n (p) st 1 = RUN F n (σ' 29 0 0 3) st 0) ∧ (x2 = 0 → RUN F n (p) st 1 = σ' 29 0 0 3)) ∧ σ' 29 0 0 3 = y12 ∧ True)) vd_29 (fun σ' h => h.1.1) (fun _ h => (by have q := h.1; omega)) (fun σ' h => h.2.2.1) (fun σ' y h hy => ⟨h.1, h.2.1, h.2.2.1, hy, trivial⟩) (fun y12 hy12 hy12' gy12 => ?_)
      refine G_know (J' := (fun σ' => IF MRp σ σ' ∧ eqn F (σ' 32 0 0) (Int.toNat n) ∧ σ' 29 0 0 3 = y12 ∧ True)) (fun σ' h => ⟨h.1, h.2.1, h.2.2.2.1, trivial⟩) ?_
      obtain ⟨gA, gB, gC, gD, gE⟩ := gy12
      have gF := gD (by omega)
      clear gD gE
      refine T_ld zk_53_18 rfl rfl rfl (pc' := 19) rfl ?_
      refine T_op zk_53_19 rfl (X_bi (v := 38) (by decide)) (pc' := 21) rfl ?_
      refine T_calli (K := fun y13 σ' => ((y13 = 0 ∧ (¬ lt F n (y12) = 38)) ∨ (y13 = 1 ∧ ¬ (¬ lt F n (y12) = 38))) ∧ (fun σ' => IF MRp σ σ' ∧ eqn F (σ' 32 0 0) (Int.toNat n) ∧ ((y13 = 1 → σ' 29 0 0 3 = y12 + 1) ∧ (y13 = 0 → σ' 29 0 0 3 = y12)) ∧ True) σ') (r := []) zk_53_21 rfl rfl rfl rfl rfl rfl (Or.inr ⟨_, _, _, _, rfl, vd_29, rfl⟩) (fun σ' h => (s_50 38 n y12 F (by omega) (by omega) (by omega) σ' h.1.1 (h.2.2.1) ((h.1.2 _ _ _ _ (by first | exact nMRp rfl | (unfold MRp; omega))).trans sn) (h.2.1)).le (Nat.le_of_ble_eq_true rfl) (fun v σ2 ⟨y, h1, h2, h3, h4⟩ => ⟨y, h1, h2, h.1.tr h3 (fun _ _ _ _ h => h), gf_mk (fun z => eqn F z (Int.toNat n)) (funext fun j => h3.2 _ _ _ _ (by first | exact nMRp rfl | (unfold MRp; omega))) (h.2.1), h4.1, trivial⟩)) (pc' := 24) rfl (fun y13 => ?_)
      refine G_ex (fun hy13 => ?_)
      refine T_if_eq zk_53_24 (by omega) (pc' := 27) rfl (fun h14 => ?_) (fun h15 => ?_)
      ·
        refine G_learnG (G := fun z => ((y13 = 1 → z = y12 + 1) ∧ (y13 = 0 → z = y12))) (t := 29) (i := 0) (k := 0) (j := 3) (lo := -2147483648) (hi := 2147483647) (J2 := fun y16 => (fun σ' => IF MRp σ σ' ∧ eqn F (σ' 32 0 0) (Int.toNat n) ∧ ((y13 = 1 → σ' 29 0 0 3 = y12 + 1) ∧ (y13 = 0 → σ' 29 0 0 3 = y12)) ∧ σ' 29 0 0 3 = y16 ∧ True)) vd_29 (fun σ' h => h.1.1) (fun _ h => (by have q := h.1; omega)) (fun σ' h => h.2.2.1) (fun σ' y h hy => ⟨h.1, h.2.1, h.2.2.1, hy, trivial⟩) (fun y16 hy16 hy16' gy16 => ?_)
        refine G_know (J' := (fun σ' => IF MRp σ σ' ∧ eqn F (σ' 32 0 0) (Int.toNat n) ∧ σ' 29 0 0 3 = y16 ∧ True)) (fun σ' h => ⟨h.1, h.2.1, h.2.2.2.1, trivial⟩) ?_
        have hv17 : y16 = y12 := by omega
        try clear gy16
        refine G_know (J' := (fun σ' => IF MRp σ σ' ∧ eqn F (σ' 32 0 0) (Int.toNat n) ∧ σ' 29 0 0 3 = y12 ∧ True)) (fun σ' h => ⟨h.1, h.2.1, (h.2.2.1).trans hv17, trivial⟩) ?_
        refine T_ld zk_53_48 rfl rfl rfl (pc' := 49) rfl ?_
        exact T_zret zk_53_49 rfl (by omega) (fun σ' h => ⟨_, rfl, (by omega), h.1, ⟨(by rw [h.2.2.1]; omega), trivial⟩⟩)
      ·
        refine G_learnG (G := fun z => ((y13 = 1 → z = y12 + 1) ∧ (y13 = 0 → z = y12))) (t := 29) (i := 0) (k := 0) (j := 3) (lo := -2147483648) (hi := 2147483647) (J2 := fun y18 => (fun σ' => IF MRp σ σ' ∧ eqn F (σ' 32 0 0) (Int.toNat n) ∧ ((y13 = 1 → σ' 29 0 0 3 = y12 + 1) ∧ (y13 = 0 → σ' 29 0 0 3 = y12)) ∧ σ' 29 0 0 3 = y18 ∧ True)) vd_29 (fun σ' h => h.1.1) (fun _ h => (by have q := h.1; omega)) (fun σ' h => h.2.2.1) (fun σ' y h hy => ⟨h.1, h.2.1, h.2.2.1, hy, trivial⟩) (fun y18 hy18 hy18' gy18 => ?_)
        refine G_know (J' := (fun σ' => IF MRp σ σ' ∧ eqn F (σ' 32 0 0) (Int.toNat n) ∧ σ' 29 0 0 3 = y18 ∧ True)) (fun σ' h => ⟨h.1, h.2.1, h.2.2.2.1, trivial⟩) ?_
        have hv19 : y18 = y12 + 1 := by omega
        try clear gy18
        refine G_know (J' := (fun σ' => IF MRp σ σ' ∧ eqn F (σ' 32 0 0) (Int.toNat n) ∧ σ' 29 0 0 3 = y12 + 1 ∧ True)) (fun σ' h => ⟨h.1, h.2.1, (h.2.2.1).trans hv19, trivial⟩) ?_
        have hin := lt_in (L := F) (n := n) (p := y12) (by omega)
        have hs := R_sign (L := F) (n := n) (p := y12) st (by omega) (by omega) (by omega)
        refine T_ld zk_53_27 rfl rfl rfl (pc' := 28) rfl ?_
        refine T_ld zk_53_28 rfl rfl rfl (pc' := 29) rfl ?_
        refine T_calli (K := fun y20 σ' => (y20 = 0 ∨ y20 = 1) ∧ (fun σ' => IF MRp σ σ' ∧ eqn F (σ' 32 0 0) (Int.toNat n) ∧ (((y12 + 1) ≤ σ' 29 0 0 3 ∧ σ' 29 0 0 3 ≤ n) ∧ (y20 = 1 → RUN F n ((y12 + 1)) st 1 = RUN F n (σ' 29 0 0 3) st 0) ∧ (y20 = 0 → RUN F n ((y12 + 1)) st 1 = σ' 29 0 0 3)) ∧ True) σ') (r := []) zk_53_29 rfl rfl rfl rfl rfl rfl (Or.inr ⟨_, _, _, _, rfl, vd_29, rfl⟩) (fun σ' h => (s_54_19 n (y12 + 1) F st st (by omega) (by omega) (by omega) hln hcl σ' h.1.1 (h.2.2.1) ((h.1.2 _ _ _ _ (by first | exact nMRp rfl | (unfold MRp; omega))).trans sn) (h.2.1)).le (Nat.le_of_ble_eq_true rfl) (fun v σ2 ⟨y, h1, h2, h3, h4⟩ => ⟨y, h1, h2, h.1.tr h3 (fun _ _ _ _ h => h), gf_mk (fun z => eqn F z (Int.toNat n)) (funext fun j => h3.2 _ _ _ _ (by first | exact nMRp rfl | (unfold MRp; omega))) (h.2.1), h4.1, trivial⟩)) (pc' := 32) rfl (fun y20 => ?_)
        refine G_ex (fun hy20 => ?_)
        refine T_st (L' := [(0, av 29 0 0), (1, iv 19), (2, iv y20), (3, iv x3)]) zk_53_32 (nL := 4) rfl rfl rfl rfl rfl (pc' := 33) rfl ?_
        refine T_ld zk_53_33 rfl rfl rfl (pc' := 34) rfl ?_
        refine T_getR (t' := 30) (i' := 0) (k' := 0) zk_53_34 rfl rfl rfl vd_29 (pc' := 37) rfl ?_
        refine T_op zk_53_37 rfl (X_bi (v := -2) (by decide)) (pc' := 39) rfl ?_
        refine T_callv (J' := (fun σ' => IF MRp σ σ' ∧ eqn F (σ' 32 0 0) (Int.toNat n) ∧ (((y12 + 1) ≤ σ' 29 0 0 3 ∧ σ' 29 0 0 3 ≤ n) ∧ (y20 = 1 → RUN F n ((y12 + 1)) st 1 = RUN F n (σ' 29 0 0 3) st 0) ∧ (y20 = 0 → RUN F n ((y12 + 1)) st 1 = σ' 29 0 0 3)) ∧ True)) (r := []) zk_53_39 rfl rfl rfl rfl rfl rfl (Or.inr ⟨_, _, _, _, rfl, vd_30, rfl⟩) (fun σ' h => (s_42 ((-2)) (by omega) σ' h.1.1 ).le (Nat.le_of_ble_eq_true rfl) (fun v σ2 ⟨h1, h3, h4⟩ => ⟨h1, h.1.tr h3 sb79v_2c1b94d, gf_mk (fun z => eqn F z (Int.toNat n)) (funext fun j => h3.2 _ _ _ _ (by first | exact nMRq rfl | (unfold MRq; omega))) (h.2.1), gh_mk (fun z => ((y12 + 1) ≤ z ∧ z ≤ n) ∧ (y20 = 1 → RUN F n ((y12 + 1)) st 1 = RUN F n (z) st 0) ∧ (y20 = 0 → RUN F n ((y12 + 1)) st 1 = z)) (h3.2 _ _ _ _ (by first | exact nMRq rfl | (unfold MRq; omega))) (h.2.2.1), trivial⟩)) (pc' := 42) rfl ?_
        refine T_iinc (L' := [(0, av 29 0 0), (1, iv 19), (2, iv y20), (3, iv (x3 + 1))]) zk_53_42 (nL := 4) rfl rfl rfl rfl (pc' := 45) rfl ?_
        refine T_goto zk_53_45 ?_
        refine G_know (J' := (fun σ' => IF MRp σ σ' ∧ eqn F (σ' 32 0 0) (Int.toNat n) ∧ ((x3 + 1) ≤ σ' 29 0 0 3 ∧ p ≤ σ' 29 0 0 3 ∧ σ' 29 0 0 3 ≤ n ∧ (y20 = 1 → RUN F n (p) st 1 = RUN F n (σ' 29 0 0 3) st 0) ∧ (y20 = 0 → RUN F n (p) st 1 = σ' 29 0 0 3)) ∧ True)) (fun σ' h => ⟨h.1, h.2.1, (by have e := h.2.2.1; omega), trivial⟩) ?_
        exact ih4 y20 (x3 + 1) (by omega) (by omega)
