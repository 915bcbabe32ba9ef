def MX8 (b : Nat) (t i k j : Nat) : Prop := t = 8 ∧ i = 0 ∧ k = 0 ∧ j = b
def MW8 (b : Nat) (t i k j : Nat) : Prop := (t = 8 ∧ i = 0 ∧ k = 0 ∧ j = b) ∨ t = 28
def MX9 (b : Nat) (t i k j : Nat) : Prop := t = 9 ∧ i = 0 ∧ k = 0 ∧ j = b
def MW9 (b : Nat) (t i k j : Nat) : Prop := (t = 9 ∧ i = 0 ∧ k = 0 ∧ j = b) ∨ t = 28
def MW7 (b : Nat) (t i k j : Nat) : Prop := (t = 7 ∧ i = 0 ∧ k = 0 ∧ j = b) ∨ t = 28
theorem pMW7 {b t i k j : Nat} (hb : decide (t = 28) = true) : MW7 b t i k j := by
  have h := of_decide_eq_true hb
  unfold MW7
  omega
theorem upr_cpF {σ : ZS} {t i k t0 i0 k0 n : Nat} {x0 x1 m : Int} {g : Nat → Int} (h : ∀ j, 0 ≤ j → j < n → σ t0 i0 k0 j = g j) (h0 : x0 = 0 ∧ x1 = 0) (hm : m = n) : ∀ j, 0 ≤ j → j < n → upr σ t i k (fun j => if x1.toNat ≤ j ∧ j < x1.toNat + m.toNat then σ t0 i0 k0 (x0.toNat + (j - x1.toNat)) else σ t i k j) t i k j = g j := by
  intro j _ hj
  unfold upr
  rw [if_pos ⟨rfl, rfl, rfl⟩]
  dsimp only
  rw [if_pos (by omega)]
  have : x0.toNat + (j - x1.toNat) = j := by omega
  rw [this]
  exact h j (Nat.zero_le _) hj
/-- the number of a way, as the class has it; as the reference has it -/
def wC (a b : Int) : Int := if 0 ≤ a ∧ a ≤ 24 ∧ 0 ≤ b ∧ b ≤ 24 then (if b = a + 1 ∧ a % 5 < 4 then a - a / 5 else if a = b + 1 ∧ b % 5 < 4 then b - b / 5 else if b = a + 5 then 20 + a else if a = b + 5 then 20 + b else -1) else -1
def wM (a b : Int) : Int := if 0 ≤ a ∧ a ≤ 24 ∧ 0 ≤ b ∧ b ≤ 24 then (if b = a + 1 ∧ a % 5 < 4 then 2 * a else if a = b + 1 ∧ b % 5 < 4 then 2 * b else if b = a + 5 then 2 * a + 1 else if a = b + 5 then 2 * b + 1 else -1) else -1
def ixn (n : Nat) : Nat := if n < 20 then 2 * (n + n / 4) else 2 * (n - 20) + 1
theorem ixn_lt {n : Nat} (h : n < 40) : ixn n < 49 := by unfold ixn; split <;> omega
theorem ixn_inj {n m : Nat} (hn : n < 40) (hm : m < 40) (h : ixn n = ixn m) : n = m := by unfold ixn at h; split at h <;> split at h <;> omega
theorem wC_ix (a b : Int) : (wC a b = -1 ∧ wM a b = -1) ∨ (0 ≤ wC a b ∧ wC a b ≤ 39 ∧ 0 ≤ wM a b ∧ wM a b ≤ 48 ∧ Int.toNat (wM a b) = ixn (Int.toNat (wC a b))) := by
  unfold wC wM
  split
  · split
    · right; unfold ixn; split <;> omega
    · split
      · right; unfold ixn; split <;> omega
      · split
        · right; unfold ixn; split <;> omega
        · split
          · right; unfold ixn; split <;> omega
          · exact Or.inl ⟨rfl, rfl⟩
  · exact Or.inl ⟨rfl, rfl⟩
theorem wC_rg (a b : Int) : -1 ≤ wC a b ∧ wC a b ≤ 39 := by rcases wC_ix a b with h | h <;> omega
theorem wM_rg (a b : Int) : -1 ≤ wM a b ∧ wM a b ≤ 48 := by rcases wC_ix a b with h | h <;> omega
/-- W$Lagoon.wayBetween -/
theorem s_30 {xs : Nat × (Nat → Int32)} (p0 : Int) (p1 : Int) (hp0 : -2147483648 ≤ p0 ∧ p0 ≤ 2147483647) (hp1 : -2147483648 ≤ p1 ∧ p1 ≤ 2147483647) (σ : ZS) (hI : Inv σ)   : CT xs 2 30 [iv p0, iv p1] σ (fun v σ' => ∃ y, v = some (iv y) ∧ (y = wC p0 p1) ∧ IF MN σ σ' ∧ (True)) := by
  refine G_ct (J := (fun σ' => IF MN σ σ' ∧ True)) (L := [(0, iv p0), (1, iv p1)]) (nL := 4) rfl rfl rfl ⟨IF.rf hI, trivial⟩ ?_
  refine T_ld zk_30_0 rfl rfl rfl (pc' := 1) rfl ?_
  refine T_calli (K := fun y1 σ' => ((y1 = 0 ∧ (p0 < 0 ∨ 24 < p0)) ∨ (y1 = 1 ∧ 0 ≤ p0 ∧ p0 ≤ 24)) ∧ (fun σ' => IF MN σ σ' ∧ True) σ') (r := []) zk_30_1 rfl rfl rfl rfl rfl rfl (Or.inl (Or.inr rfl)) (fun σ' h => (w_115 p0 (by omega) σ' h.1.1 ).le (Nat.le_of_ble_eq_true rfl) (fun v σ2 ⟨y, h1, h2, h3, h4⟩ => ⟨y, h1, h2, h.1.tr h3 MN_sub, trivial⟩)) (pc' := 4) rfl (fun y1 => ?_)
  refine G_ex (fun hy1 => ?_)
  refine T_if_eq zk_30_4 (by omega) (pc' := 7) rfl (fun h2 => ?_) (fun h3 => ?_)
  ·
    refine T_op zk_30_14 rfl X_ic (pc' := 15) rfl ?_
    exact T_iret zk_30_15 rfl (fun σ' h => ⟨_, rfl, (by unfold wC; repeat' (first | omega | split)), h.1, trivial⟩)
  ·
    refine T_ld zk_30_7 rfl rfl rfl (pc' := 8) rfl ?_
    refine T_calli (K := fun y4 σ' => ((y4 = 0 ∧ (p1 < 0 ∨ 24 < p1)) ∨ (y4 = 1 ∧ 0 ≤ p1 ∧ p1 ≤ 24)) ∧ (fun σ' => IF MN σ σ' ∧ True) σ') (r := []) zk_30_8 rfl rfl rfl rfl rfl rfl (Or.inl (Or.inr rfl)) (fun σ' h => (w_115 p1 (by omega) σ' h.1.1 ).le (Nat.le_of_ble_eq_true rfl) (fun v σ2 ⟨y, h1, h2, h3, h4⟩ => ⟨y, h1, h2, h.1.tr h3 MN_sub, trivial⟩)) (pc' := 11) rfl (fun y4 => ?_)
    refine G_ex (fun hy4 => ?_)
    refine T_if_ne zk_30_11 (by omega) (pc' := 14) rfl (fun h5 => ?_) (fun h6 => ?_)
    ·
      refine T_ld zk_30_16 rfl rfl rfl (pc' := 17) rfl ?_
      refine T_ld zk_30_17 rfl rfl rfl (pc' := 18) rfl ?_
      refine T_min zk_30_18 rfl (by omega) (by omega) rfl (pc' := 21) rfl (fun y7 hy7 hy7' ey7 => ?_)
      refine T_st (L' := [(0, iv p0), (1, iv p1), (2, iv y7)]) zk_30_21 (nL := 4) rfl rfl rfl rfl rfl (pc' := 22) rfl ?_
      refine T_ld zk_30_22 rfl rfl rfl (pc' := 23) rfl ?_
      refine T_ld zk_30_23 rfl rfl rfl (pc' := 24) rfl ?_
      refine T_max zk_30_24 rfl (by omega) (by omega) rfl (pc' := 27) rfl (fun y8 hy8 hy8' ey8 => ?_)
      refine T_ld zk_30_27 rfl rfl rfl (pc' := 28) rfl ?_
      refine T_op zk_30_28 rfl X_sub (pc' := 29) rfl ?_
      refine T_st (L' := [(0, iv p0), (1, iv p1), (2, iv y7), (3, iv (y8 - y7))]) zk_30_29 (nL := 4) rfl rfl rfl rfl rfl (pc' := 30) rfl ?_
      refine T_ld zk_30_30 rfl rfl rfl (pc' := 31) rfl ?_
      refine T_op zk_30_31 rfl X_ic (pc' := 32) rfl ?_
      refine T_icmp_ne zk_30_32 (by omega) (by omega) (pc' := 35) rfl (fun h9 => ?_) (fun h10 => ?_)
      ·
        refine T_ld zk_30_48 rfl rfl rfl (pc' := 49) rfl ?_
        refine T_op zk_30_49 rfl X_ic (pc' := 50) rfl ?_
        refine T_icmp_ne zk_30_50 (by omega) (by omega) (pc' := 53) rfl (fun h11 => ?_) (fun h12 => ?_)
        ·
          refine T_op zk_30_60 rfl X_ic (pc' := 61) rfl ?_
          exact T_iret zk_30_61 rfl (fun σ' h => ⟨_, rfl, (by unfold wC; repeat' (first | omega | split)), h.1, trivial⟩)
        ·
          refine T_op zk_30_53 rfl (X_bi (v := 20) (by decide)) (pc' := 55) rfl ?_
          refine T_ld zk_30_55 rfl rfl rfl (pc' := 56) rfl ?_
          refine T_op zk_30_56 rfl X_add (pc' := 57) rfl ?_
          refine T_goto zk_30_57 ?_
          exact T_iret zk_30_61 rfl (fun σ' h => ⟨_, rfl, (by unfold wC; repeat' (first | omega | split)), h.1, trivial⟩)
      ·
        refine T_ld zk_30_35 rfl rfl rfl (pc' := 36) rfl ?_
        refine T_op zk_30_36 rfl X_ic (pc' := 37) rfl ?_
        refine T_op zk_30_37 rfl (X_rem (by omega) (by omega)) (pc' := 38) rfl ?_
        refine T_op zk_30_38 rfl X_ic (pc' := 39) rfl ?_
        refine T_icmp_ge zk_30_39 (by omega) (by omega) (pc' := 42) rfl (fun h13 => ?_) (fun h14 => ?_)
        ·
          refine T_ld zk_30_48 rfl rfl rfl (pc' := 49) rfl ?_
          refine T_op zk_30_49 rfl X_ic (pc' := 50) rfl ?_
          refine T_icmp_ne zk_30_50 (by omega) (by omega) (pc' := 53) rfl (fun h15 => ?_) (fun h16 => ?_)
          ·
            refine T_op zk_30_60 rfl X_ic (pc' := 61) rfl ?_
            exact T_iret zk_30_61 rfl (fun σ' h => ⟨_, rfl, (by unfold wC; repeat' (first | omega | split)), h.1, trivial⟩)
          · exfalso; omega
        ·
          refine T_ld zk_30_42 rfl rfl rfl (pc' := 43) rfl ?_
          refine T_ld zk_30_43 rfl rfl rfl (pc' := 44) rfl ?_
          refine T_op zk_30_44 rfl X_ic (pc' := 45) rfl ?_
          refine T_op zk_30_45 rfl (X_div (by omega) (by omega)) (pc' := 46) rfl ?_
          refine T_op zk_30_46 rfl X_sub (pc' := 47) rfl ?_
          exact T_iret zk_30_47 rfl (fun σ' h => ⟨_, rfl, (by unfold wC; repeat' (first | omega | split)), h.1, trivial⟩)
    ·
      refine T_op zk_30_14 rfl X_ic (pc' := 15) rfl ?_
      exact T_iret zk_30_15 rfl (fun σ' h => ⟨_, rfl, (by unfold wC; repeat' (first | omega | split)), h.1, trivial⟩)
/-- WModel.way -/
theorem r_126 {xs : Nat × (Nat → Int32)} (p0 : Int) (p1 : Int) (hp0 : -2147483648 ≤ p0 ∧ p0 ≤ 2147483647) (hp1 : -2147483648 ≤ p1 ∧ p1 ≤ 2147483647) (σ : ZS) (hI : Inv σ)   : CT xs 2 126 [iv p0, iv p1] σ (fun v σ' => ∃ y, v = some (iv y) ∧ (y = wM p0 p1) ∧ IF MN σ σ' ∧ (True)) := by
  refine G_ct (J := (fun σ' => IF MN σ σ' ∧ True)) (L := [(0, iv p0), (1, iv p1)]) (nL := 4) rfl rfl rfl ⟨IF.rf hI, trivial⟩ ?_
  refine T_ld zk_126_0 rfl rfl rfl (pc' := 1) rfl ?_
  refine T_calli (K := fun y1 σ' => ((y1 = 0 ∧ (p0 < 0 ∨ 24 < p0)) ∨ (y1 = 1 ∧ 0 ≤ p0 ∧ p0 ≤ 24)) ∧ (fun σ' => IF MN σ σ' ∧ True) σ') (r := []) zk_126_1 rfl rfl rfl rfl rfl rfl (Or.inl (Or.inl rfl)) (fun σ' h => (m_124 p0 (by omega) σ' h.1.1 ).le (Nat.le_of_ble_eq_true rfl) (fun v σ2 ⟨y, h1, h2, h3, h4⟩ => ⟨y, h1, h2, h.1.tr h3 MN_sub, trivial⟩)) (pc' := 4) rfl (fun y1 => ?_)
  refine G_ex (fun hy1 => ?_)
  refine T_if_eq zk_126_4 (by omega) (pc' := 7) rfl (fun h2 => ?_) (fun h3 => ?_)
  ·
    refine T_op zk_126_14 rfl X_ic (pc' := 15) rfl ?_
    exact T_iret zk_126_15 rfl (fun σ' h => ⟨_, rfl, (by unfold wM; repeat' (first | omega | split)), h.1, trivial⟩)
  ·
    refine T_ld zk_126_7 rfl rfl rfl (pc' := 8) rfl ?_
    refine T_calli (K := fun y4 σ' => ((y4 = 0 ∧ (p1 < 0 ∨ 24 < p1)) ∨ (y4 = 1 ∧ 0 ≤ p1 ∧ p1 ≤ 24)) ∧ (fun σ' => IF MN σ σ' ∧ True) σ') (r := []) zk_126_8 rfl rfl rfl rfl rfl rfl (Or.inl (Or.inl rfl)) (fun σ' h => (m_124 p1 (by omega) σ' h.1.1 ).le (Nat.le_of_ble_eq_true rfl) (fun v σ2 ⟨y, h1, h2, h3, h4⟩ => ⟨y, h1, h2, h.1.tr h3 MN_sub, trivial⟩)) (pc' := 11) rfl (fun y4 => ?_)
    refine G_ex (fun hy4 => ?_)
    refine T_if_ne zk_126_11 (by omega) (pc' := 14) rfl (fun h5 => ?_) (fun h6 => ?_)
    ·
      refine T_ld zk_126_16 rfl rfl rfl (pc' := 17) rfl ?_
      refine T_ld zk_126_17 rfl rfl rfl (pc' := 18) rfl ?_
      refine T_icmp_ge zk_126_18 (by omega) (by omega) (pc' := 21) rfl (fun h7 => ?_) (fun h8 => ?_)
      ·
        refine T_ld zk_126_25 rfl rfl rfl (pc' := 26) rfl ?_
        refine T_st (L' := [(0, iv p0), (1, iv p1), (2, iv p1)]) zk_126_26 (nL := 4) rfl rfl rfl rfl rfl (pc' := 27) rfl ?_
        refine T_ld zk_126_27 rfl rfl rfl (pc' := 28) rfl ?_
        refine T_ld zk_126_28 rfl rfl rfl (pc' := 29) rfl ?_
        refine T_icmp_ge zk_126_29 (by omega) (by omega) (pc' := 32) rfl (fun h9 => ?_) (fun h10 => ?_)
        ·
          refine T_ld zk_126_36 rfl rfl rfl (pc' := 37) rfl ?_
          refine T_st (L' := [(0, iv p0), (1, iv p1), (2, iv p1), (3, iv p0)]) zk_126_37 (nL := 4) rfl rfl rfl rfl rfl (pc' := 38) rfl ?_
          refine T_ld zk_126_38 rfl rfl rfl (pc' := 39) rfl ?_
          refine T_ld zk_126_39 rfl rfl rfl (pc' := 40) rfl ?_
          refine T_op zk_126_40 rfl X_ic (pc' := 41) rfl ?_
          refine T_op zk_126_41 rfl X_add (pc' := 42) rfl ?_
          refine T_icmp_ne zk_126_42 (by omega) (by omega) (pc' := 45) rfl (fun h11 => ?_) (fun h12 => ?_)
          ·
            refine T_ld zk_126_51 rfl rfl rfl (pc' := 52) rfl ?_
            refine T_ld zk_126_52 rfl rfl rfl (pc' := 53) rfl ?_
            refine T_op zk_126_53 rfl X_ic (pc' := 54) rfl ?_
            refine T_op zk_126_54 rfl X_add (pc' := 55) rfl ?_
            refine T_icmp_ne zk_126_55 (by omega) (by omega) (pc' := 58) rfl (fun h13 => ?_) (fun h14 => ?_)
            ·
              refine T_op zk_126_71 rfl X_ic (pc' := 72) rfl ?_
              exact T_iret zk_126_72 rfl (fun σ' h => ⟨_, rfl, (by unfold wM; repeat' (first | omega | split)), h.1, trivial⟩)
            ·
              refine T_ld zk_126_58 rfl rfl rfl (pc' := 59) rfl ?_
              refine T_op zk_126_59 rfl X_ic (pc' := 60) rfl ?_
              refine T_op zk_126_60 rfl (X_rem (by omega) (by omega)) (pc' := 61) rfl ?_
              refine T_op zk_126_61 rfl X_ic (pc' := 62) rfl ?_
              refine T_icmp_ge zk_126_62 (by omega) (by omega) (pc' := 65) rfl (fun h15 => ?_) (fun h16 => ?_)
              ·
                refine T_op zk_126_71 rfl X_ic (pc' := 72) rfl ?_
                exact T_iret zk_126_72 rfl (fun σ' h => ⟨_, rfl, (by unfold wM; repeat' (first | omega | split)), h.1, trivial⟩)
              ·
                refine T_op zk_126_65 rfl X_ic (pc' := 66) rfl ?_
                refine T_ld zk_126_66 rfl rfl rfl (pc' := 67) rfl ?_
                refine T_op zk_126_67 rfl X_mul (pc' := 68) rfl ?_
                refine T_goto zk_126_68 ?_
                exact T_iret zk_126_72 rfl (fun σ' h => ⟨_, rfl, (by unfold wM; repeat' (first | omega | split)), h.1, trivial⟩)
          ·
            refine T_op zk_126_45 rfl X_ic (pc' := 46) rfl ?_
            refine T_ld zk_126_46 rfl rfl rfl (pc' := 47) rfl ?_
            refine T_op zk_126_47 rfl X_mul (pc' := 48) rfl ?_
            refine T_op zk_126_48 rfl X_ic (pc' := 49) rfl ?_
            refine T_op zk_126_49 rfl X_add (pc' := 50) rfl ?_
            exact T_iret zk_126_50 rfl (fun σ' h => ⟨_, rfl, (by unfold wM; repeat' (first | omega | split)), h.1, trivial⟩)
        ·
          refine T_ld zk_126_32 rfl rfl rfl (pc' := 33) rfl ?_
          refine T_goto zk_126_33 ?_
          refine T_st (L' := [(0, iv p0), (1, iv p1), (2, iv p1), (3, iv p1)]) zk_126_37 (nL := 4) rfl rfl rfl rfl rfl (pc' := 38) rfl ?_
          refine T_ld zk_126_38 rfl rfl rfl (pc' := 39) rfl ?_
          refine T_ld zk_126_39 rfl rfl rfl (pc' := 40) rfl ?_
          refine T_op zk_126_40 rfl X_ic (pc' := 41) rfl ?_
          refine T_op zk_126_41 rfl X_add (pc' := 42) rfl ?_
          refine T_icmp_ne zk_126_42 (by omega) (by omega) (pc' := 45) rfl (fun h17 => ?_) (fun h18 => ?_)
          ·
            refine T_ld zk_126_51 rfl rfl rfl (pc' := 52) rfl ?_
            refine T_ld zk_126_52 rfl rfl rfl (pc' := 53) rfl ?_
            refine T_op zk_126_53 rfl X_ic (pc' := 54) rfl ?_
            refine T_op zk_126_54 rfl X_add (pc' := 55) rfl ?_
            refine T_icmp_ne zk_126_55 (by omega) (by omega) (pc' := 58) rfl (fun h19 => ?_) (fun h20 => ?_)
            ·
              refine T_op zk_126_71 rfl X_ic (pc' := 72) rfl ?_
              exact T_iret zk_126_72 rfl (fun σ' h => ⟨_, rfl, (by unfold wM; repeat' (first | omega | split)), h.1, trivial⟩)
            ·
              refine T_ld zk_126_58 rfl rfl rfl (pc' := 59) rfl ?_
              refine T_op zk_126_59 rfl X_ic (pc' := 60) rfl ?_
              refine T_op zk_126_60 rfl (X_rem (by omega) (by omega)) (pc' := 61) rfl ?_
              refine T_op zk_126_61 rfl X_ic (pc' := 62) rfl ?_
              refine T_icmp_ge zk_126_62 (by omega) (by omega) (pc' := 65) rfl (fun h21 => ?_) (fun h22 => ?_)
              ·
                refine T_op zk_126_71 rfl X_ic (pc' := 72) rfl ?_
                exact T_iret zk_126_72 rfl (fun σ' h => ⟨_, rfl, (by unfold wM; repeat' (first | omega | split)), h.1, trivial⟩)
              ·
                refine T_op zk_126_65 rfl X_ic (pc' := 66) rfl ?_
                refine T_ld zk_126_66 rfl rfl rfl (pc' := 67) rfl ?_
                refine T_op zk_126_67 rfl X_mul (pc' := 68) rfl ?_
                refine T_goto zk_126_68 ?_
                exact T_iret zk_126_72 rfl (fun σ' h => ⟨_, rfl, (by unfold wM; repeat' (first | omega | split)), h.1, trivial⟩)
          ·
            refine T_op zk_126_45 rfl X_ic (pc' := 46) rfl ?_
            refine T_ld zk_126_46 rfl rfl rfl (pc' := 47) rfl ?_
            refine T_op zk_126_47 rfl X_mul (pc' := 48) rfl ?_
            refine T_op zk_126_48 rfl X_ic (pc' := 49) rfl ?_
            refine T_op zk_126_49 rfl X_add (pc' := 50) rfl ?_
            exact T_iret zk_126_50 rfl (fun σ' h => ⟨_, rfl, (by unfold wM; repeat' (first | omega | split)), h.1, trivial⟩)
      ·
        refine T_ld zk_126_21 rfl rfl rfl (pc' := 22) rfl ?_
        refine T_goto zk_126_22 ?_
        refine T_st (L' := [(0, iv p0), (1, iv p1), (2, iv p0)]) zk_126_26 (nL := 4) rfl rfl rfl rfl rfl (pc' := 27) rfl ?_
        refine T_ld zk_126_27 rfl rfl rfl (pc' := 28) rfl ?_
        refine T_ld zk_126_28 rfl rfl rfl (pc' := 29) rfl ?_
        refine T_icmp_ge zk_126_29 (by omega) (by omega) (pc' := 32) rfl (fun h23 => ?_) (fun h24 => ?_)
        ·
          refine T_ld zk_126_36 rfl rfl rfl (pc' := 37) rfl ?_
          refine T_st (L' := [(0, iv p0), (1, iv p1), (2, iv p0), (3, iv p0)]) zk_126_37 (nL := 4) rfl rfl rfl rfl rfl (pc' := 38) rfl ?_
          refine T_ld zk_126_38 rfl rfl rfl (pc' := 39) rfl ?_
          refine T_ld zk_126_39 rfl rfl rfl (pc' := 40) rfl ?_
          refine T_op zk_126_40 rfl X_ic (pc' := 41) rfl ?_
          refine T_op zk_126_41 rfl X_add (pc' := 42) rfl ?_
          refine T_icmp_ne zk_126_42 (by omega) (by omega) (pc' := 45) rfl (fun h25 => ?_) (fun h26 => ?_)
          ·
            refine T_ld zk_126_51 rfl rfl rfl (pc' := 52) rfl ?_
            refine T_ld zk_126_52 rfl rfl rfl (pc' := 53) rfl ?_
            refine T_op zk_126_53 rfl X_ic (pc' := 54) rfl ?_
            refine T_op zk_126_54 rfl X_add (pc' := 55) rfl ?_
            refine T_icmp_ne zk_126_55 (by omega) (by omega) (pc' := 58) rfl (fun h27 => ?_) (fun h28 => ?_)
            ·
              refine T_op zk_126_71 rfl X_ic (pc' := 72) rfl ?_
              exact T_iret zk_126_72 rfl (fun σ' h => ⟨_, rfl, (by unfold wM; repeat' (first | omega | split)), h.1, trivial⟩)
            ·
              refine T_ld zk_126_58 rfl rfl rfl (pc' := 59) rfl ?_
              refine T_op zk_126_59 rfl X_ic (pc' := 60) rfl ?_
              refine T_op zk_126_60 rfl (X_rem (by omega) (by omega)) (pc' := 61) rfl ?_
              refine T_op zk_126_61 rfl X_ic (pc' := 62) rfl ?_
              refine T_icmp_ge zk_126_62 (by omega) (by omega) (pc' := 65) rfl (fun h29 => ?_) (fun h30 => ?_)
              ·
                refine T_op zk_126_71 rfl X_ic (pc' := 72) rfl ?_
                exact T_iret zk_126_72 rfl (fun σ' h => ⟨_, rfl, (by unfold wM; repeat' (first | omega | split)), h.1, trivial⟩)
              ·
                refine T_op zk_126_65 rfl X_ic (pc' := 66) rfl ?_
                refine T_ld zk_126_66 rfl rfl rfl (pc' := 67) rfl ?_
                refine T_op zk_126_67 rfl X_mul (pc' := 68) rfl ?_
                refine T_goto zk_126_68 ?_
                exact T_iret zk_126_72 rfl (fun σ' h => ⟨_, rfl, (by unfold wM; repeat' (first | omega | split)), h.1, trivial⟩)
          ·
            refine T_op zk_126_45 rfl X_ic (pc' := 46) rfl ?_
            refine T_ld zk_126_46 rfl rfl rfl (pc' := 47) rfl ?_
            refine T_op zk_126_47 rfl X_mul (pc' := 48) rfl ?_
            refine T_op zk_126_48 rfl X_ic (pc' := 49) rfl ?_
            refine T_op zk_126_49 rfl X_add (pc' := 50) rfl ?_
            exact T_iret zk_126_50 rfl (fun σ' h => ⟨_, rfl, (by unfold wM; repeat' (first | omega | split)), h.1, trivial⟩)
        ·
          refine T_ld zk_126_32 rfl rfl rfl (pc' := 33) rfl ?_
          refine T_goto zk_126_33 ?_
          refine T_st (L' := [(0, iv p0), (1, iv p1), (2, iv p0), (3, iv p1)]) zk_126_37 (nL := 4) rfl rfl rfl rfl rfl (pc' := 38) rfl ?_
          refine T_ld zk_126_38 rfl rfl rfl (pc' := 39) rfl ?_
          refine T_ld zk_126_39 rfl rfl rfl (pc' := 40) rfl ?_
          refine T_op zk_126_40 rfl X_ic (pc' := 41) rfl ?_
          refine T_op zk_126_41 rfl X_add (pc' := 42) rfl ?_
          refine T_icmp_ne zk_126_42 (by omega) (by omega) (pc' := 45) rfl (fun h31 => ?_) (fun h32 => ?_)
          ·
            refine T_ld zk_126_51 rfl rfl rfl (pc' := 52) rfl ?_
            refine T_ld zk_126_52 rfl rfl rfl (pc' := 53) rfl ?_
            refine T_op zk_126_53 rfl X_ic (pc' := 54) rfl ?_
            refine T_op zk_126_54 rfl X_add (pc' := 55) rfl ?_
            refine T_icmp_ne zk_126_55 (by omega) (by omega) (pc' := 58) rfl (fun h33 => ?_) (fun h34 => ?_)
            ·
              refine T_op zk_126_71 rfl X_ic (pc' := 72) rfl ?_
              exact T_iret zk_126_72 rfl (fun σ' h => ⟨_, rfl, (by unfold wM; repeat' (first | omega | split)), h.1, trivial⟩)
            ·
              refine T_ld zk_126_58 rfl rfl rfl (pc' := 59) rfl ?_
              refine T_op zk_126_59 rfl X_ic (pc' := 60) rfl ?_
              refine T_op zk_126_60 rfl (X_rem (by omega) (by omega)) (pc' := 61) rfl ?_
              refine T_op zk_126_61 rfl X_ic (pc' := 62) rfl ?_
              refine T_icmp_ge zk_126_62 (by omega) (by omega) (pc' := 65) rfl (fun h35 => ?_) (fun h36 => ?_)
              ·
                refine T_op zk_126_71 rfl X_ic (pc' := 72) rfl ?_
                exact T_iret zk_126_72 rfl (fun σ' h => ⟨_, rfl, (by unfold wM; repeat' (first | omega | split)), h.1, trivial⟩)
              ·
                refine T_op zk_126_65 rfl X_ic (pc' := 66) rfl ?_
                refine T_ld zk_126_66 rfl rfl rfl (pc' := 67) rfl ?_
                refine T_op zk_126_67 rfl X_mul (pc' := 68) rfl ?_
                refine T_goto zk_126_68 ?_
                exact T_iret zk_126_72 rfl (fun σ' h => ⟨_, rfl, (by unfold wM; repeat' (first | omega | split)), h.1, trivial⟩)
          ·
            refine T_op zk_126_45 rfl X_ic (pc' := 46) rfl ?_
            refine T_ld zk_126_46 rfl rfl rfl (pc' := 47) rfl ?_
            refine T_op zk_126_47 rfl X_mul (pc' := 48) rfl ?_
            refine T_op zk_126_48 rfl X_ic (pc' := 49) rfl ?_
            refine T_op zk_126_49 rfl X_add (pc' := 50) rfl ?_
            exact T_iret zk_126_50 rfl (fun σ' h => ⟨_, rfl, (by unfold wM; repeat' (first | omega | split)), h.1, trivial⟩)
    ·
      refine T_op zk_126_14 rfl X_ic (pc' := 15) rfl ?_
      exact T_iret zk_126_15 rfl (fun σ' h => ⟨_, rfl, (by unfold wM; repeat' (first | omega | split)), h.1, trivial⟩)
/-- W.turn -/
theorem s_121_8 {xs : Nat × (Nat → Int32)} (p0 : Int) (p1 : Int) (a : Int) (hp0 : 0 ≤ p0 ∧ p0 ≤ 39) (hp1 : 0 ≤ p1 ∧ p1 ≤ 1) (ha : 0 ≤ a ∧ a ≤ 1) (σ : ZS) (hI : Inv σ)  (s1 : σ 8 0 0 (Int.toNat p0) = a) : CT xs 1 121 [av 8 0 0, iv p0, iv p1] σ (fun v σ' => ∃ y, v = some (iv y) ∧ ((y = 0 ∧ (a = p1)) ∨ (y = 1 ∧ ¬ (a = p1))) ∧ IF (MX8 (Int.toNat p0)) σ σ' ∧ (σ' 8 0 0 (Int.toNat p0) = p1 ∧ True)) := by
  refine G_ct (J := (fun σ' => IF (MX8 (Int.toNat p0)) σ σ' ∧ σ' 8 0 0 (Int.toNat p0) = a ∧ True)) (L := [(0, av 8 0 0), (1, iv p0), (2, iv p1)]) (nL := 3) rfl rfl rfl ⟨IF.rf hI, s1, trivial⟩ ?_
  refine T_ld zk_121_0 rfl rfl rfl (pc' := 1) rfl ?_
  refine T_if_lt zk_121_1 (by omega) (pc' := 4) rfl (fun h1 => ?_) (fun h2 => ?_)
  · exfalso; omega
  ·
    refine T_ld zk_121_4 rfl rfl rfl (pc' := 5) rfl ?_
    refine T_ld zk_121_5 rfl rfl rfl (pc' := 6) rfl ?_
    refine T_alen (n := 40) zk_121_6 rfl rfl (vd_8 (by omega)) (pc' := 7) rfl ?_
    refine T_icmp_ge zk_121_7 (by omega) (by omega) (pc' := 10) rfl (fun h3 => ?_) (fun h4 => ?_)
    · exfalso; omega
    ·
      refine T_ld zk_121_10 rfl rfl rfl (pc' := 11) rfl ?_
      refine T_ld zk_121_11 rfl rfl rfl (pc' := 12) rfl ?_
      refine G_baldX (w := a) (ln := 40) zk_121_12 rfl rfl (vd_8 (by omega)) (by omega) (by omega) (by omega) (fun σ' h => h.2.1) (pc' := 13) rfl ?_
      refine T_ld zk_121_13 rfl rfl rfl (pc' := 14) rfl ?_
      refine T_icmp_ne zk_121_14 (by omega) (by omega) (pc' := 17) rfl (fun h5 => ?_) (fun h6 => ?_)
      ·
        refine T_ld zk_121_19 rfl rfl rfl (pc' := 20) rfl ?_
        refine T_ld zk_121_20 rfl rfl rfl (pc' := 21) rfl ?_
        refine T_ld zk_121_21 rfl rfl rfl (pc' := 22) rfl ?_
        refine G_bast (J' := (fun σ' => IF (MX8 (Int.toNat p0)) σ σ' ∧ σ' 8 0 0 (Int.toNat p0) = p1 ∧ True)) (ln := 40) zk_121_22 rfl rfl (by omega) (vd_8 (by omega)) (by omega) (by omega) (by omega) (fun σ' h => ⟨h.1.up (by simp only [rgP] <;> omega) (by unfold MX8; omega), up_eq, trivial⟩) (pc' := 23) rfl ?_
        refine T_op zk_121_23 rfl X_ic (pc' := 24) rfl ?_
        exact T_iret zk_121_24 rfl (fun σ' h => ⟨_, rfl, (by omega), h.1, ⟨h.2.1, trivial⟩⟩)
      ·
        refine T_op zk_121_17 rfl X_ic (pc' := 18) rfl ?_
        exact T_iret zk_121_18 rfl (fun σ' h => ⟨_, rfl, (by omega), h.1, ⟨(h.2.1).trans (by omega), trivial⟩⟩)
/-- W.turn -/
theorem s_121_9 {xs : Nat × (Nat → Int32)} (p0 : Int) (p1 : Int) (a : Int) (hp0 : 0 ≤ p0 ∧ p0 ≤ 39) (hp1 : 0 ≤ p1 ∧ p1 ≤ 1) (ha : 0 ≤ a ∧ a ≤ 1) (σ : ZS) (hI : Inv σ)  (s1 : σ 9 0 0 (Int.toNat p0) = a) : CT xs 1 121 [av 9 0 0, iv p0, iv p1] σ (fun v σ' => ∃ y, v = some (iv y) ∧ ((y = 0 ∧ (a = p1)) ∨ (y = 1 ∧ ¬ (a = p1))) ∧ IF (MX9 (Int.toNat p0)) σ σ' ∧ (σ' 9 0 0 (Int.toNat p0) = p1 ∧ True)) := by
  refine G_ct (J := (fun σ' => IF (MX9 (Int.toNat p0)) σ σ' ∧ σ' 9 0 0 (Int.toNat p0) = a ∧ True)) (L := [(0, av 9 0 0), (1, iv p0), (2, iv p1)]) (nL := 3) rfl rfl rfl ⟨IF.rf hI, s1, trivial⟩ ?_
  refine T_ld zk_121_0 rfl rfl rfl (pc' := 1) rfl ?_
  refine T_if_lt zk_121_1 (by omega) (pc' := 4) rfl (fun h1 => ?_) (fun h2 => ?_)
  · exfalso; omega
  ·
    refine T_ld zk_121_4 rfl rfl rfl (pc' := 5) rfl ?_
    refine T_ld zk_121_5 rfl rfl rfl (pc' := 6) rfl ?_
    refine T_alen (n := 40) zk_121_6 rfl rfl (vd_9 (by omega)) (pc' := 7) rfl ?_
    refine T_icmp_ge zk_121_7 (by omega) (by omega) (pc' := 10) rfl (fun h3 => ?_) (fun h4 => ?_)
    · exfalso; omega
    ·
      refine T_ld zk_121_10 rfl rfl rfl (pc' := 11) rfl ?_
      refine T_ld zk_121_11 rfl rfl rfl (pc' := 12) rfl ?_
      refine G_baldX (w := a) (ln := 40) zk_121_12 rfl rfl (vd_9 (by omega)) (by omega) (by omega) (by omega) (fun σ' h => h.2.1) (pc' := 13) rfl ?_
      refine T_ld zk_121_13 rfl rfl rfl (pc' := 14) rfl ?_
      refine T_icmp_ne zk_121_14 (by omega) (by omega) (pc' := 17) rfl (fun h5 => ?_) (fun h6 => ?_)
      ·
        refine T_ld zk_121_19 rfl rfl rfl (pc' := 20) rfl ?_
        refine T_ld zk_121_20 rfl rfl rfl (pc' := 21) rfl ?_
        refine T_ld zk_121_21 rfl rfl rfl (pc' := 22) rfl ?_
        refine G_bast (J' := (fun σ' => IF (MX9 (Int.toNat p0)) σ σ' ∧ σ' 9 0 0 (Int.toNat p0) = p1 ∧ True)) (ln := 40) zk_121_22 rfl rfl (by omega) (vd_9 (by omega)) (by omega) (by omega) (by omega) (fun σ' h => ⟨h.1.up (by simp only [rgP] <;> omega) (by unfold MX9; omega), up_eq, trivial⟩) (pc' := 23) rfl ?_
        refine T_op zk_121_23 rfl X_ic (pc' := 24) rfl ?_
        exact T_iret zk_121_24 rfl (fun σ' h => ⟨_, rfl, (by omega), h.1, ⟨h.2.1, trivial⟩⟩)
      ·
        refine T_op zk_121_17 rfl X_ic (pc' := 18) rfl ?_
        exact T_iret zk_121_18 rfl (fun σ' h => ⟨_, rfl, (by omega), h.1, ⟨(h.2.1).trans (by omega), trivial⟩⟩)
theorem sb75_b6b6c0e (v0 : Nat) : ∀ t i k j, MX8 v0 t i k j → MW8 v0 t i k j := by
  intro t i k j h
  unfold MX8 at h
  unfold MW8
  omega
theorem sb75_e44bbe2 (v0 : Nat) : ∀ t i k j, MI 0 28 28 28 28 t i k j → MW8 v0 t i k j := by
  intro t i k j h
  unfold MI at h
  unfold MW8
  omega
/-- W.close -/
theorem s_77 {xs : Nat × (Nat → Int32)} (p0 : Int) (p1 : Int) (p2 : Int) (a : Int) (hp0 : -2147483648 ≤ p0 ∧ p0 ≤ 2147483647) (hp1 : -2147483648 ≤ p1 ∧ p1 ≤ 2147483647) (hp2 : 0 ≤ p2 ∧ p2 ≤ 1) (ha : 0 ≤ a ∧ a ≤ 1) (σ : ZS) (hI : Inv σ)  (s1 : σ 8 0 0 (Int.toNat (wC p0 p1)) = a) : CT xs 3 77 [av 0 0 0, iv p0, iv p1, iv p2] σ (fun v σ' => ∃ y, v = some (iv y) ∧ ((y = -1 ∧ (¬ 0 ≤ wC p0 p1)) ∨ (y = 0 ∧ ¬ (¬ 0 ≤ wC p0 p1) ∧ (a = p2)) ∨ (y = 1 ∧ ¬ (¬ 0 ≤ wC p0 p1) ∧ ¬ (a = p2))) ∧ IF (MW8 (Int.toNat (wC p0 p1))) σ σ' ∧ (((0 ≤ wC p0 p1 → σ' 8 0 0 (Int.toNat (wC p0 p1)) = p2) ∧ (¬ 0 ≤ wC p0 p1 → σ' 8 0 0 (Int.toNat (wC p0 p1)) = a)) ∧ True)) := by
  refine G_ct (J := (fun σ' => IF (MW8 (Int.toNat (wC p0 p1))) σ σ' ∧ σ' 8 0 0 (Int.toNat (wC p0 p1)) = a ∧ True)) (L := [(0, av 0 0 0), (1, iv p0), (2, iv p1), (3, iv p2)]) (nL := 5) rfl rfl rfl ⟨IF.rf hI, s1, trivial⟩ ?_
  have hw := wC_rg p0 p1
  refine T_ld zk_77_0 rfl rfl rfl (pc' := 1) rfl ?_
  refine T_ld zk_77_1 rfl rfl rfl (pc' := 2) rfl ?_
  refine T_calli (K := fun y1 σ' => (y1 = wC p0 p1) ∧ (fun σ' => IF (MW8 (Int.toNat (wC p0 p1))) σ σ' ∧ σ' 8 0 0 (Int.toNat (wC p0 p1)) = a ∧ True) σ') (r := []) zk_77_2 rfl rfl rfl rfl rfl rfl (Or.inl (Or.inl rfl)) (fun σ' h => (s_30 p0 p1 (by omega) (by omega) σ' h.1.1 ).le (Nat.le_of_ble_eq_true rfl) (fun v σ2 ⟨y, h1, h2, h3, h4⟩ => ⟨y, h1, h2, h.1.tr h3 MN_sub, (h3.2 _ _ _ _ (fun q => q)).trans (h.2.1), trivial⟩)) (pc' := 5) rfl (fun y1 => ?_)
  refine G_ex (fun hy1 => ?_)
  obtain rfl : y1 = wC p0 p1 := by omega
  refine T_st (L' := [(0, av 0 0 0), (1, iv p0), (2, iv p1), (3, iv p2), (4, iv (wC p0 p1))]) zk_77_5 (nL := 5) rfl rfl rfl rfl rfl (pc' := 7) rfl ?_
  refine T_ld zk_77_7 rfl rfl rfl (pc' := 9) rfl ?_
  refine T_op zk_77_9 rfl X_ic (pc' := 10) rfl ?_
  refine T_icmp_ne zk_77_10 (by omega) (by omega) (pc' := 13) rfl (fun h2 => ?_) (fun h3 => ?_)
  ·
    refine T_ld zk_77_19 rfl rfl rfl (pc' := 20) rfl ?_
    refine T_getR (t' := 1) (i' := 0) (k' := 0) zk_77_20 rfl rfl rfl vd_0 (pc' := 23) rfl ?_
    refine T_getR (t' := 2) (i' := 0) (k' := 0) zk_77_23 rfl rfl rfl (vd_1 (by omega)) (pc' := 26) rfl ?_
    refine T_getR (t' := 8) (i' := 0) (k' := 0) zk_77_26 rfl rfl rfl (vd_2 (by omega)) (pc' := 29) rfl ?_
    refine T_ld zk_77_29 rfl rfl rfl (pc' := 31) rfl ?_
    refine T_ld zk_77_31 rfl rfl rfl (pc' := 32) rfl ?_
    refine T_calli (K := fun y4 σ' => ((y4 = 0 ∧ (a = p2)) ∨ (y4 = 1 ∧ ¬ (a = p2))) ∧ (fun σ' => IF (MW8 (Int.toNat (wC p0 p1))) σ σ' ∧ σ' 8 0 0 (Int.toNat (wC p0 p1)) = p2 ∧ True) σ') (r := []) zk_77_32 rfl rfl rfl rfl rfl rfl (Or.inl (Or.inl rfl)) (fun σ' h => (s_121_8 (wC p0 p1) p2 a (by omega) (by omega) (by omega) σ' h.1.1 (h.2.1)).le (Nat.le_of_ble_eq_true rfl) (fun v σ2 ⟨y, h1, h2, h3, h4⟩ => ⟨y, h1, h2, h.1.tr h3 (sb75_b6b6c0e (Int.toNat (wC p0 p1))), h4.1, trivial⟩)) (pc' := 35) rfl (fun y4 => ?_)
    refine G_ex (fun hy4 => ?_)
    exact T_iret zk_77_35 rfl (fun σ' h => ⟨_, rfl, (by omega), h.1, ⟨(by have e := h.2.1; omega), trivial⟩⟩)
  ·
    refine T_ld zk_77_13 rfl rfl rfl (pc' := 14) rfl ?_
    refine T_op zk_77_14 rfl X_ic (pc' := 15) rfl ?_
    refine T_calli (K := fun y5 σ' => (y5 = (-1)) ∧ (fun σ' => IF (MW8 (Int.toNat (wC p0 p1))) σ σ' ∧ σ' 8 0 0 (Int.toNat (wC p0 p1)) = a ∧ True) σ') (r := []) zk_77_15 rfl rfl rfl rfl rfl rfl (Or.inr ⟨_, _, _, _, rfl, vd_0, rfl⟩) (fun σ' h => (w_113 ((-1)) (by omega) σ' h.1.1 ).le (Nat.le_of_ble_eq_true rfl) (fun v σ2 ⟨y, h1, h2, h3, h4⟩ => ⟨y, h1, h2, h.1.tr h3 (sb75_e44bbe2 (Int.toNat (wC p0 p1))), (h3.2 _ _ _ _ (by first | exact nMI rfl | (unfold MI; omega))).trans (h.2.1), trivial⟩)) (pc' := 18) rfl (fun y5 => ?_)
    refine G_ex (fun hy5 => ?_)
    obtain rfl : y5 = (-1) := by omega
    exact T_iret zk_77_18 rfl (fun σ' h => ⟨_, rfl, (by omega), h.1, ⟨(by have e := h.2.1; omega), trivial⟩⟩)
theorem sb75_41114d1 (v0 : Nat) : ∀ t i k j, MX9 v0 t i k j → MW9 v0 t i k j := by
  intro t i k j h
  unfold MX9 at h
  unfold MW9
  omega
theorem sb75_384f7e4 (v0 : Nat) : ∀ t i k j, MI 0 28 28 28 28 t i k j → MW9 v0 t i k j := by
  intro t i k j h
  unfold MI at h
  unfold MW9
  omega
/-- W.narrow -/
theorem s_78 {xs : Nat × (Nat → Int32)} (p0 : Int) (p1 : Int) (p2 : Int) (a : Int) (hp0 : -2147483648 ≤ p0 ∧ p0 ≤ 2147483647) (hp1 : -2147483648 ≤ p1 ∧ p1 ≤ 2147483647) (hp2 : 0 ≤ p2 ∧ p2 ≤ 1) (ha : 0 ≤ a ∧ a ≤ 1) (σ : ZS) (hI : Inv σ)  (s1 : σ 9 0 0 (Int.toNat (wC p0 p1)) = a) : CT xs 3 78 [av 0 0 0, iv p0, iv p1, iv p2] σ (fun v σ' => ∃ y, v = some (iv y) ∧ ((y = -1 ∧ (¬ 0 ≤ wC p0 p1)) ∨ (y = 0 ∧ ¬ (¬ 0 ≤ wC p0 p1) ∧ (a = p2)) ∨ (y = 1 ∧ ¬ (¬ 0 ≤ wC p0 p1) ∧ ¬ (a = p2))) ∧ IF (MW9 (Int.toNat (wC p0 p1))) σ σ' ∧ (((0 ≤ wC p0 p1 → σ' 9 0 0 (Int.toNat (wC p0 p1)) = p2) ∧ (¬ 0 ≤ wC p0 p1 → σ' 9 0 0 (Int.toNat (wC p0 p1)) = a)) ∧ True)) := by
  refine G_ct (J := (fun σ' => IF (MW9 (Int.toNat (wC p0 p1))) σ σ' ∧ σ' 9 0 0 (Int.toNat (wC p0 p1)) = a ∧ True)) (L := [(0, av 0 0 0), (1, iv p0), (2, iv p1), (3, iv p2)]) (nL := 5) rfl rfl rfl ⟨IF.rf hI, s1, trivial⟩ ?_
  have hw := wC_rg p0 p1
  refine T_ld zk_78_0 rfl rfl rfl (pc' := 1) rfl ?_
  refine T_ld zk_78_1 rfl rfl rfl (pc' := 2) rfl ?_
  refine T_calli (K := fun y1 σ' => (y1 = wC p0 p1) ∧ (fun σ' => IF (MW9 (Int.toNat (wC p0 p1))) σ σ' ∧ σ' 9 0 0 (Int.toNat (wC p0 p1)) = a ∧ True) σ') (r := []) zk_78_2 rfl rfl rfl rfl rfl rfl (Or.inl (Or.inl rfl)) (fun σ' h => (s_30 p0 p1 (by omega) (by omega) σ' h.1.1 ).le (Nat.le_of_ble_eq_true rfl) (fun v σ2 ⟨y, h1, h2, h3, h4⟩ => ⟨y, h1, h2, h.1.tr h3 MN_sub, (h3.2 _ _ _ _ (fun q => q)).trans (h.2.1), trivial⟩)) (pc' := 5) rfl (fun y1 => ?_)
  refine G_ex (fun hy1 => ?_)
  obtain rfl : y1 = wC p0 p1 := by omega
  refine T_st (L' := [(0, av 0 0 0), (1, iv p0), (2, iv p1), (3, iv p2), (4, iv (wC p0 p1))]) zk_78_5 (nL := 5) rfl rfl rfl rfl rfl (pc' := 7) rfl ?_
  refine T_ld zk_78_7 rfl rfl rfl (pc' := 9) rfl ?_
  refine T_op zk_78_9 rfl X_ic (pc' := 10) rfl ?_
  refine T_icmp_ne zk_78_10 (by omega) (by omega) (pc' := 13) rfl (fun h2 => ?_) (fun h3 => ?_)
  ·
    refine T_ld zk_78_19 rfl rfl rfl (pc' := 20) rfl ?_
    refine T_getR (t' := 1) (i' := 0) (k' := 0) zk_78_20 rfl rfl rfl vd_0 (pc' := 23) rfl ?_
    refine T_getR (t' := 2) (i' := 0) (k' := 0) zk_78_23 rfl rfl rfl (vd_1 (by omega)) (pc' := 26) rfl ?_
    refine T_getR (t' := 9) (i' := 0) (k' := 0) zk_78_26 rfl rfl rfl (vd_2 (by omega)) (pc' := 29) rfl ?_
    refine T_ld zk_78_29 rfl rfl rfl (pc' := 31) rfl ?_
    refine T_ld zk_78_31 rfl rfl rfl (pc' := 32) rfl ?_
    refine T_calli (K := fun y4 σ' => ((y4 = 0 ∧ (a = p2)) ∨ (y4 = 1 ∧ ¬ (a = p2))) ∧ (fun σ' => IF (MW9 (Int.toNat (wC p0 p1))) σ σ' ∧ σ' 9 0 0 (Int.toNat (wC p0 p1)) = p2 ∧ True) σ') (r := []) zk_78_32 rfl rfl rfl rfl rfl rfl (Or.inl (Or.inl rfl)) (fun σ' h => (s_121_9 (wC p0 p1) p2 a (by omega) (by omega) (by omega) σ' h.1.1 (h.2.1)).le (Nat.le_of_ble_eq_true rfl) (fun v σ2 ⟨y, h1, h2, h3, h4⟩ => ⟨y, h1, h2, h.1.tr h3 (sb75_41114d1 (Int.toNat (wC p0 p1))), h4.1, trivial⟩)) (pc' := 35) rfl (fun y4 => ?_)
    refine G_ex (fun hy4 => ?_)
    exact T_iret zk_78_35 rfl (fun σ' h => ⟨_, rfl, (by omega), h.1, ⟨(by have e := h.2.1; omega), trivial⟩⟩)
  ·
    refine T_ld zk_78_13 rfl rfl rfl (pc' := 14) rfl ?_
    refine T_op zk_78_14 rfl X_ic (pc' := 15) rfl ?_
    refine T_calli (K := fun y5 σ' => (y5 = (-1)) ∧ (fun σ' => IF (MW9 (Int.toNat (wC p0 p1))) σ σ' ∧ σ' 9 0 0 (Int.toNat (wC p0 p1)) = a ∧ True) σ') (r := []) zk_78_15 rfl rfl rfl rfl rfl rfl (Or.inr ⟨_, _, _, _, rfl, vd_0, rfl⟩) (fun σ' h => (w_113 ((-1)) (by omega) σ' h.1.1 ).le (Nat.le_of_ble_eq_true rfl) (fun v σ2 ⟨y, h1, h2, h3, h4⟩ => ⟨y, h1, h2, h.1.tr h3 (sb75_384f7e4 (Int.toNat (wC p0 p1))), (h3.2 _ _ _ _ (by first | exact nMI rfl | (unfold MI; omega))).trans (h.2.1), trivial⟩)) (pc' := 18) rfl (fun y5 => ?_)
    refine G_ex (fun hy5 => ?_)
    obtain rfl : y5 = (-1) := by omega
    exact T_iret zk_78_18 rfl (fun σ' h => ⟨_, rfl, (by omega), h.1, ⟨(by have e := h.2.1; omega), trivial⟩⟩)
theorem sb75_0bf81de (v0 : Nat) : ∀ t i k j, MI 0 28 28 28 28 t i k j → MW7 v0 t i k j := by
  intro t i k j h
  unfold MI at h
  unfold MW7
  omega
/-- W.bridge -/
theorem s_79 {xs : Nat × (Nat → Int32)} (p0 : Int) (p1 : Int) (p2 : Int) (a : Int) (hp0 : -2147483648 ≤ p0 ∧ p0 ≤ 2147483647) (hp1 : -2147483648 ≤ p1 ∧ p1 ≤ 2147483647) (hp2 : -2147483648 ≤ p2 ∧ p2 ≤ 2147483647) (ha : -2147483648 ≤ a ∧ a ≤ 2147483647) (σ : ZS) (hI : Inv σ)  (s1 : σ 7 0 0 (Int.toNat (wC p0 p1)) = a) : CT xs 3 79 [av 0 0 0, iv p0, iv p1, iv p2] σ (fun v σ' => ∃ y, v = some (iv y) ∧ ((y = -1 ∧ (¬ 0 ≤ wC p0 p1)) ∨ (y = -6 ∧ ¬ (¬ 0 ≤ wC p0 p1) ∧ (¬ (-1 ≤ p2 ∧ p2 ≤ 99))) ∨ (y = a ∧ ¬ (¬ 0 ≤ wC p0 p1) ∧ ¬ (¬ (-1 ≤ p2 ∧ p2 ≤ 99)))) ∧ IF (MW7 (Int.toNat (wC p0 p1))) σ σ' ∧ (((0 ≤ wC p0 p1 ∧ -1 ≤ p2 ∧ p2 ≤ 99 → σ' 7 0 0 (Int.toNat (wC p0 p1)) = p2) ∧ (¬ (0 ≤ wC p0 p1 ∧ -1 ≤ p2 ∧ p2 ≤ 99) → σ' 7 0 0 (Int.toNat (wC p0 p1)) = a)) ∧ True)) := by
  refine G_ct (J := (fun σ' => IF (MW7 (Int.toNat (wC p0 p1))) σ σ' ∧ σ' 7 0 0 (Int.toNat (wC p0 p1)) = a ∧ True)) (L := [(0, av 0 0 0), (1, iv p0), (2, iv p1), (3, iv p2)]) (nL := 6) rfl rfl rfl ⟨IF.rf hI, s1, trivial⟩ ?_
  have hw := wC_rg p0 p1
  refine T_ld zk_79_0 rfl rfl rfl (pc' := 1) rfl ?_
  refine T_ld zk_79_1 rfl rfl rfl (pc' := 2) rfl ?_
  refine T_calli (K := fun y1 σ' => (y1 = wC p0 p1) ∧ (fun σ' => IF (MW7 (Int.toNat (wC p0 p1))) σ σ' ∧ σ' 7 0 0 (Int.toNat (wC p0 p1)) = a ∧ True) σ') (r := []) zk_79_2 rfl rfl rfl rfl rfl rfl (Or.inl (Or.inl rfl)) (fun σ' h => (s_30 p0 p1 (by omega) (by omega) σ' h.1.1 ).le (Nat.le_of_ble_eq_true rfl) (fun v σ2 ⟨y, h1, h2, h3, h4⟩ => ⟨y, h1, h2, h.1.tr h3 MN_sub, (h3.2 _ _ _ _ (fun q => q)).trans (h.2.1), trivial⟩)) (pc' := 5) rfl (fun y1 => ?_)
  refine G_ex (fun hy1 => ?_)
  obtain rfl : y1 = wC p0 p1 := by omega
  refine T_st (L' := [(0, av 0 0 0), (1, iv p0), (2, iv p1), (3, iv p2), (4, iv (wC p0 p1))]) zk_79_5 (nL := 6) rfl rfl rfl rfl rfl (pc' := 7) rfl ?_
  refine T_ld zk_79_7 rfl rfl rfl (pc' := 9) rfl ?_
  refine T_op zk_79_9 rfl X_ic (pc' := 10) rfl ?_
  refine T_icmp_ne zk_79_10 (by omega) (by omega) (pc' := 13) rfl (fun h2 => ?_) (fun h3 => ?_)
  ·
    refine T_ld zk_79_19 rfl rfl rfl (pc' := 20) rfl ?_
    refine T_op zk_79_20 rfl X_ic (pc' := 21) rfl ?_
    refine T_op zk_79_21 rfl (X_bi (v := 99) (by decide)) (pc' := 23) rfl ?_
    refine T_calli (K := fun y4 σ' => ((y4 = 0 ∧ (p2 < (-1) ∨ 99 < p2)) ∨ (y4 = 1 ∧ (-1) ≤ p2 ∧ p2 ≤ 99)) ∧ (fun σ' => IF (MW7 (Int.toNat (wC p0 p1))) σ σ' ∧ σ' 7 0 0 (Int.toNat (wC p0 p1)) = a ∧ True) σ') (r := []) zk_79_23 rfl rfl rfl rfl rfl rfl (Or.inl (Or.inl rfl)) (fun σ' h => (w_114 p2 ((-1)) 99 (by omega) (by omega) (by omega) σ' h.1.1 ).le (Nat.le_of_ble_eq_true rfl) (fun v σ2 ⟨y, h1, h2, h3, h4⟩ => ⟨y, h1, h2, h.1.tr h3 MN_sub, (h3.2 _ _ _ _ (fun q => q)).trans (h.2.1), trivial⟩)) (pc' := 26) rfl (fun y4 => ?_)
    refine G_ex (fun hy4 => ?_)
    refine T_if_ne zk_79_26 (by omega) (pc' := 29) rfl (fun h5 => ?_) (fun h6 => ?_)
    ·
      refine T_ld zk_79_36 rfl rfl rfl (pc' := 37) rfl ?_
      refine T_getR (t' := 1) (i' := 0) (k' := 0) zk_79_37 rfl rfl rfl vd_0 (pc' := 40) rfl ?_
      refine T_getR (t' := 2) (i' := 0) (k' := 0) zk_79_40 rfl rfl rfl (vd_1 (by omega)) (pc' := 43) rfl ?_
      refine T_getR (t' := 7) (i' := 0) (k' := 0) zk_79_43 rfl rfl rfl (vd_2 (by omega)) (pc' := 46) rfl ?_
      refine T_ld zk_79_46 rfl rfl rfl (pc' := 48) rfl ?_
      refine G_ialdX (w := a) (ln := 40) zk_79_48 rfl rfl (vd_7 (by omega)) (by omega) (by omega) (by omega) (fun σ' h => h.2.1) (pc' := 49) rfl ?_
      refine T_st (L' := [(0, av 0 0 0), (1, iv p0), (2, iv p1), (3, iv p2), (4, iv (wC p0 p1)), (5, iv a)]) zk_79_49 (nL := 6) rfl rfl rfl rfl rfl (pc' := 51) rfl ?_
      refine T_ld zk_79_51 rfl rfl rfl (pc' := 52) rfl ?_
      refine T_getR (t' := 1) (i' := 0) (k' := 0) zk_79_52 rfl rfl rfl vd_0 (pc' := 55) rfl ?_
      refine T_getR (t' := 2) (i' := 0) (k' := 0) zk_79_55 rfl rfl rfl (vd_1 (by omega)) (pc' := 58) rfl ?_
      refine T_getR (t' := 7) (i' := 0) (k' := 0) zk_79_58 rfl rfl rfl (vd_2 (by omega)) (pc' := 61) rfl ?_
      refine T_ld zk_79_61 rfl rfl rfl (pc' := 63) rfl ?_
      refine T_ld zk_79_63 rfl rfl rfl (pc' := 64) rfl ?_
      refine G_iast (J' := (fun σ' => IF (MW7 (Int.toNat (wC p0 p1))) σ σ' ∧ σ' 7 0 0 (Int.toNat (wC p0 p1)) = p2 ∧ True)) (ln := 40) zk_79_64 rfl rfl (vd_7 (by omega)) (by omega) (by omega) (by omega) (fun σ' h => ⟨h.1.up ⟨by omega, trivial⟩ (by first | exact pMW7 rfl | (unfold MW7; omega)), up_eq, trivial⟩) (pc' := 65) rfl ?_
      refine T_ld zk_79_65 rfl rfl rfl (pc' := 67) rfl ?_
      exact T_iret zk_79_67 rfl (fun σ' h => ⟨_, rfl, (by omega), h.1, ⟨(by have e := h.2.1; omega), trivial⟩⟩)
    ·
      refine T_ld zk_79_29 rfl rfl rfl (pc' := 30) rfl ?_
      refine T_op zk_79_30 rfl (X_bi (v := -6) (by decide)) (pc' := 32) rfl ?_
      refine T_calli (K := fun y7 σ' => (y7 = (-6)) ∧ (fun σ' => IF (MW7 (Int.toNat (wC p0 p1))) σ σ' ∧ σ' 7 0 0 (Int.toNat (wC p0 p1)) = a ∧ True) σ') (r := []) zk_79_32 rfl rfl rfl rfl rfl rfl (Or.inr ⟨_, _, _, _, rfl, vd_0, rfl⟩) (fun σ' h => (w_113 ((-6)) (by omega) σ' h.1.1 ).le (Nat.le_of_ble_eq_true rfl) (fun v σ2 ⟨y, h1, h2, h3, h4⟩ => ⟨y, h1, h2, h.1.tr h3 (sb75_0bf81de (Int.toNat (wC p0 p1))), (h3.2 _ _ _ _ (by first | exact nMI rfl | (unfold MI; omega))).trans (h.2.1), trivial⟩)) (pc' := 35) rfl (fun y7 => ?_)
      refine G_ex (fun hy7 => ?_)
      obtain rfl : y7 = (-6) := by omega
      exact T_iret zk_79_35 rfl (fun σ' h => ⟨_, rfl, (by omega), h.1, ⟨(by have e := h.2.1; omega), trivial⟩⟩)
  ·
    refine T_ld zk_79_13 rfl rfl rfl (pc' := 14) rfl ?_
    refine T_op zk_79_14 rfl X_ic (pc' := 15) rfl ?_
    refine T_calli (K := fun y8 σ' => (y8 = (-1)) ∧ (fun σ' => IF (MW7 (Int.toNat (wC p0 p1))) σ σ' ∧ σ' 7 0 0 (Int.toNat (wC p0 p1)) = a ∧ True) σ') (r := []) zk_79_15 rfl rfl rfl rfl rfl rfl (Or.inr ⟨_, _, _, _, rfl, vd_0, rfl⟩) (fun σ' h => (w_113 ((-1)) (by omega) σ' h.1.1 ).le (Nat.le_of_ble_eq_true rfl) (fun v σ2 ⟨y, h1, h2, h3, h4⟩ => ⟨y, h1, h2, h.1.tr h3 (sb75_0bf81de (Int.toNat (wC p0 p1))), (h3.2 _ _ _ _ (by first | exact nMI rfl | (unfold MI; omega))).trans (h.2.1), trivial⟩)) (pc' := 18) rfl (fun y8 => ?_)
    refine G_ex (fun hy8 => ?_)
    obtain rfl : y8 = (-1) := by omega
    exact T_iret zk_79_18 rfl (fun σ' h => ⟨_, rfl, (by omega), h.1, ⟨(by have e := h.2.1; omega), trivial⟩⟩)
/-- W.way -/
theorem s_111 {xs : Nat × (Nat → Int32)} (p0 : Int) (p1 : Int) (p2 : Int) (a : Int) (b : Int) (c : Int) (hp0 : -2147483648 ≤ p0 ∧ p0 ≤ 2147483647) (hp1 : -2147483648 ≤ p1 ∧ p1 ≤ 2147483647) (hp2 : -2147483648 ≤ p2 ∧ p2 ≤ 2147483647) (ha : 0 ≤ a ∧ a ≤ 1) (hb : 0 ≤ b ∧ b ≤ 1) (hc : -2147483648 ≤ c ∧ c ≤ 2147483647) (σ : ZS) (hI : Inv σ)  (s1 : σ 8 0 0 (Int.toNat (wC p0 p1)) = a) (s2 : σ 9 0 0 (Int.toNat (wC p0 p1)) = b) (s3 : σ 7 0 0 (Int.toNat (wC p0 p1)) = c) : CT xs 3 111 [av 0 0 0, iv p0, iv p1, iv p2] σ (fun v σ' => ∃ y, v = some (iv y) ∧ ((y = -1 ∧ (¬ 0 ≤ wC p0 p1)) ∨ (y = a ∧ ¬ (¬ 0 ≤ wC p0 p1) ∧ (p2 = 0)) ∨ (y = b ∧ ¬ (¬ 0 ≤ wC p0 p1) ∧ ¬ (p2 = 0) ∧ (p2 = 1)) ∨ (y = c ∧ ¬ (¬ 0 ≤ wC p0 p1) ∧ ¬ (p2 = 0) ∧ ¬ (p2 = 1) ∧ (p2 = 2)) ∨ (y = -1 ∧ ¬ (¬ 0 ≤ wC p0 p1) ∧ ¬ (p2 = 0) ∧ ¬ (p2 = 1) ∧ ¬ (p2 = 2))) ∧ IF MN σ σ' ∧ (True)) := by
  refine G_ct (J := (fun σ' => IF MN σ σ' ∧ True)) (L := [(0, av 0 0 0), (1, iv p0), (2, iv p1), (3, iv p2)]) (nL := 5) rfl rfl rfl ⟨IF.rf hI, trivial⟩ ?_
  have hw := wC_rg p0 p1
  refine T_ld zk_111_0 rfl rfl rfl (pc' := 1) rfl ?_
  refine T_ld zk_111_1 rfl rfl rfl (pc' := 2) rfl ?_
  refine T_calli (K := fun y1 σ' => (y1 = wC p0 p1) ∧ (fun σ' => IF MN σ σ' ∧ True) σ') (r := []) zk_111_2 rfl rfl rfl rfl rfl rfl (Or.inl (Or.inl rfl)) (fun σ' h => (s_30 p0 p1 (by omega) (by omega) σ' h.1.1 ).le (Nat.le_of_ble_eq_true rfl) (fun v σ2 ⟨y, h1, h2, h3, h4⟩ => ⟨y, h1, h2, h.1.tr h3 MN_sub, trivial⟩)) (pc' := 5) rfl (fun y1 => ?_)
  refine G_ex (fun hy1 => ?_)
  obtain rfl : y1 = wC p0 p1 := by omega
  refine T_st (L' := [(0, av 0 0 0), (1, iv p0), (2, iv p1), (3, iv p2), (4, iv (wC p0 p1))]) zk_111_5 (nL := 5) rfl rfl rfl rfl rfl (pc' := 7) rfl ?_
  refine T_ld zk_111_7 rfl rfl rfl (pc' := 9) rfl ?_
  refine T_op zk_111_9 rfl X_ic (pc' := 10) rfl ?_
  refine T_icmp_ne zk_111_10 (by omega) (by omega) (pc' := 13) rfl (fun h2 => ?_) (fun h3 => ?_)
  ·
    refine T_ld zk_111_15 rfl rfl rfl (pc' := 16) rfl ?_
    by_cases h4 : p2 = 0
    · subst h4
      refine T_br (t := 44) zk_111_16 rfl rfl rfl (fun _ => rfl) rfl ?_
      refine T_ld zk_111_44 rfl rfl rfl (pc' := 45) rfl ?_
      refine T_getR (t' := 1) (i' := 0) (k' := 0) zk_111_45 rfl rfl rfl vd_0 (pc' := 48) rfl ?_
      refine T_getR (t' := 2) (i' := 0) (k' := 0) zk_111_48 rfl rfl rfl (vd_1 (by omega)) (pc' := 51) rfl ?_
      refine T_getR (t' := 8) (i' := 0) (k' := 0) zk_111_51 rfl rfl rfl (vd_2 (by omega)) (pc' := 54) rfl ?_
      refine T_ld zk_111_54 rfl rfl rfl (pc' := 56) rfl ?_
      refine G_baldX (w := a) (ln := 40) zk_111_56 rfl rfl (vd_8 (by omega)) (by omega) (by omega) (by omega) (fun σ' h => (h.1.2 _ _ _ _ (fun q => q)).trans s1) (pc' := 57) rfl ?_
      refine T_if_eq zk_111_57 (by omega) (pc' := 60) rfl (fun h5 => ?_) (fun h6 => ?_)
      ·
        refine T_op zk_111_64 rfl X_ic (pc' := 65) rfl ?_
        exact T_iret zk_111_65 rfl (fun σ' h => ⟨_, rfl, (by omega), h.1, trivial⟩)
      ·
        refine T_op zk_111_60 rfl X_ic (pc' := 61) rfl ?_
        refine T_goto zk_111_61 ?_
        exact T_iret zk_111_65 rfl (fun σ' h => ⟨_, rfl, (by omega), h.1, trivial⟩)
    by_cases h7 : p2 = 1
    · subst h7
      refine T_br (t := 66) zk_111_16 rfl rfl rfl (fun _ => rfl) rfl ?_
      refine T_ld zk_111_66 rfl rfl rfl (pc' := 67) rfl ?_
      refine T_getR (t' := 1) (i' := 0) (k' := 0) zk_111_67 rfl rfl rfl vd_0 (pc' := 70) rfl ?_
      refine T_getR (t' := 2) (i' := 0) (k' := 0) zk_111_70 rfl rfl rfl (vd_1 (by omega)) (pc' := 73) rfl ?_
      refine T_getR (t' := 9) (i' := 0) (k' := 0) zk_111_73 rfl rfl rfl (vd_2 (by omega)) (pc' := 76) rfl ?_
      refine T_ld zk_111_76 rfl rfl rfl (pc' := 78) rfl ?_
      refine G_baldX (w := b) (ln := 40) zk_111_78 rfl rfl (vd_9 (by omega)) (by omega) (by omega) (by omega) (fun σ' h => (h.1.2 _ _ _ _ (fun q => q)).trans s2) (pc' := 79) rfl ?_
      refine T_if_eq zk_111_79 (by omega) (pc' := 82) rfl (fun h8 => ?_) (fun h9 => ?_)
      ·
        refine T_op zk_111_86 rfl X_ic (pc' := 87) rfl ?_
        exact T_iret zk_111_87 rfl (fun σ' h => ⟨_, rfl, (by omega), h.1, trivial⟩)
      ·
        refine T_op zk_111_82 rfl X_ic (pc' := 83) rfl ?_
        refine T_goto zk_111_83 ?_
        exact T_iret zk_111_87 rfl (fun σ' h => ⟨_, rfl, (by omega), h.1, trivial⟩)
    by_cases h10 : p2 = 2
    · subst h10
      refine T_br (t := 88) zk_111_16 rfl rfl rfl (fun _ => rfl) rfl ?_
      refine T_ld zk_111_88 rfl rfl rfl (pc' := 89) rfl ?_
      refine T_getR (t' := 1) (i' := 0) (k' := 0) zk_111_89 rfl rfl rfl vd_0 (pc' := 92) rfl ?_
      refine T_getR (t' := 2) (i' := 0) (k' := 0) zk_111_92 rfl rfl rfl (vd_1 (by omega)) (pc' := 95) rfl ?_
      refine T_getR (t' := 7) (i' := 0) (k' := 0) zk_111_95 rfl rfl rfl (vd_2 (by omega)) (pc' := 98) rfl ?_
      refine T_ld zk_111_98 rfl rfl rfl (pc' := 100) rfl ?_
      refine G_ialdX (w := c) (ln := 40) zk_111_100 rfl rfl (vd_7 (by omega)) (by omega) (by omega) (by omega) (fun σ' h => (h.1.2 _ _ _ _ (fun q => q)).trans s3) (pc' := 101) rfl ?_
      exact T_iret zk_111_101 rfl (fun σ' h => ⟨_, rfl, (by omega), h.1, trivial⟩)
    refine T_tso (t := 102) zk_111_16 (by omega) (by omega) (by omega) ?_
    refine T_op zk_111_102 rfl X_ic (pc' := 103) rfl ?_
    exact T_iret zk_111_103 rfl (fun σ' h => ⟨_, rfl, (by omega), h.1, trivial⟩)
  ·
    refine T_op zk_111_13 rfl X_ic (pc' := 14) rfl ?_
    exact T_iret zk_111_14 rfl (fun σ' h => ⟨_, rfl, (by omega), h.1, trivial⟩)
/-- W$Lagoon.takeLagoon -/
theorem s_39_1 {xs : Nat × (Nat → Int32)}  (F G H : Nat → Int)  (σ : ZS) (hI : Inv σ)  (r0 : (∀ j, 0 ≤ j → j < 40 → σ 7 0 0 j = F j)) (r1 : (∀ j, 0 ≤ j → j < 40 → σ 8 0 0 j = G j)) (r2 : (∀ j, 0 ≤ j → j < 40 → σ 9 0 0 j = H j)) : CT xs 1 39 [av 2 1 0, av 2 0 0] σ (fun v σ' => v = none ∧ IF (MYl 1) σ σ' ∧ ((∀ j, 0 ≤ j → j < 40 → σ' 7 1 0 j = F j) ∧ (∀ j, 0 ≤ j → j < 40 → σ' 8 1 0 j = G j) ∧ (∀ j, 0 ≤ j → j < 40 → σ' 9 1 0 j = H j) ∧ True)) := by
  refine G_ct (J := (fun σ' => IF (MYl 1) σ σ' ∧ True)) (L := [(0, av 2 1 0), (1, av 2 0 0)]) (nL := 3) rfl rfl rfl ⟨IF.rf hI, trivial⟩ ?_
  refine T_ld zk_39_0 rfl rfl rfl (pc' := 1) rfl ?_
  refine T_getR (t' := 3) (i' := 0) (k' := 0) zk_39_1 rfl rfl rfl (vd_2 (by omega)) (pc' := 4) rfl ?_
  refine T_op zk_39_4 rfl X_ic (pc' := 5) rfl ?_
  refine T_ld zk_39_5 rfl rfl rfl (pc' := 6) rfl ?_
  refine T_getR (t' := 3) (i' := 1) (k' := 0) zk_39_6 rfl rfl rfl (vd_2 (by omega)) (pc' := 9) rfl ?_
  refine T_op zk_39_9 rfl X_ic (pc' := 10) rfl ?_
  refine T_op zk_39_10 rfl (X_bi (v := 25) (by decide)) (pc' := 12) rfl ?_
  refine G_copy (J' := (fun σ' => IF (MYl 1) σ σ' ∧ True)) (l0 := 25) (l1 := 25) (kk := 12) zk_39_12 rfl rfl (by decide) rfl rfl rfl rfl (vd_3 (by omega)) (vd_3 (by omega)) (by omega) (by omega) (by omega) (by omega) (by omega) (fun σ' h => ⟨h.1.cp (rg_cp0 rfl (fun _ _ h => h) (fun j => h.1.1 3 0 0 j (vd_3 (by omega))) (fun j => h.1.1 3 1 0 j (vd_3 (by omega)))) (fun j => (by unfold MYl; omega)), trivial⟩) (pc' := 15) rfl ?_
  refine T_ld zk_39_15 rfl rfl rfl (pc' := 16) rfl ?_
  refine T_getR (t' := 4) (i' := 0) (k' := 0) zk_39_16 rfl rfl rfl (vd_2 (by omega)) (pc' := 19) rfl ?_
  refine T_op zk_39_19 rfl X_ic (pc' := 20) rfl ?_
  refine T_ld zk_39_20 rfl rfl rfl (pc' := 21) rfl ?_
  refine T_getR (t' := 4) (i' := 1) (k' := 0) zk_39_21 rfl rfl rfl (vd_2 (by omega)) (pc' := 24) rfl ?_
  refine T_op zk_39_24 rfl X_ic (pc' := 25) rfl ?_
  refine T_op zk_39_25 rfl (X_bi (v := 25) (by decide)) (pc' := 27) rfl ?_
  refine G_copy (J' := (fun σ' => IF (MYl 1) σ σ' ∧ True)) (l0 := 25) (l1 := 25) (kk := 12) zk_39_27 rfl rfl (by decide) rfl rfl rfl rfl (vd_4 (by omega)) (vd_4 (by omega)) (by omega) (by omega) (by omega) (by omega) (by omega) (fun σ' h => ⟨h.1.cp (rg_cp0 rfl (fun _ _ h => h) (fun j => h.1.1 4 0 0 j (vd_4 (by omega))) (fun j => h.1.1 4 1 0 j (vd_4 (by omega)))) (fun j => (by unfold MYl; omega)), trivial⟩) (pc' := 30) rfl ?_
  refine T_ld zk_39_30 rfl rfl rfl (pc' := 31) rfl ?_
  refine T_getR (t' := 5) (i' := 0) (k' := 0) zk_39_31 rfl rfl rfl (vd_2 (by omega)) (pc' := 34) rfl ?_
  refine T_op zk_39_34 rfl X_ic (pc' := 35) rfl ?_
  refine T_ld zk_39_35 rfl rfl rfl (pc' := 36) rfl ?_
  refine T_getR (t' := 5) (i' := 1) (k' := 0) zk_39_36 rfl rfl rfl (vd_2 (by omega)) (pc' := 39) rfl ?_
  refine T_op zk_39_39 rfl X_ic (pc' := 40) rfl ?_
  refine T_op zk_39_40 rfl (X_bi (v := 25) (by decide)) (pc' := 42) rfl ?_
  refine G_copy (J' := (fun σ' => IF (MYl 1) σ σ' ∧ True)) (l0 := 25) (l1 := 25) (kk := 12) zk_39_42 rfl rfl (by decide) rfl rfl rfl rfl (vd_5 (by omega)) (vd_5 (by omega)) (by omega) (by omega) (by omega) (by omega) (by omega) (fun σ' h => ⟨h.1.cp (rg_cp0 rfl (fun _ _ h => h) (fun j => h.1.1 5 0 0 j (vd_5 (by omega))) (fun j => h.1.1 5 1 0 j (vd_5 (by omega)))) (fun j => (by unfold MYl; omega)), trivial⟩) (pc' := 45) rfl ?_
  refine T_ld zk_39_45 rfl rfl rfl (pc' := 46) rfl ?_
  refine T_getR (t' := 6) (i' := 0) (k' := 0) zk_39_46 rfl rfl rfl (vd_2 (by omega)) (pc' := 49) rfl ?_
  refine T_op zk_39_49 rfl X_ic (pc' := 50) rfl ?_
  refine T_ld zk_39_50 rfl rfl rfl (pc' := 51) rfl ?_
  refine T_getR (t' := 6) (i' := 1) (k' := 0) zk_39_51 rfl rfl rfl (vd_2 (by omega)) (pc' := 54) rfl ?_
  refine T_op zk_39_54 rfl X_ic (pc' := 55) rfl ?_
  refine T_op zk_39_55 rfl (X_bi (v := 25) (by decide)) (pc' := 57) rfl ?_
  refine G_copy (J' := (fun σ' => IF (MYl 1) σ σ' ∧ True)) (l0 := 25) (l1 := 25) (kk := 12) zk_39_57 rfl rfl (by decide) rfl rfl rfl rfl (vd_6 (by omega)) (vd_6 (by omega)) (by omega) (by omega) (by omega) (by omega) (by omega) (fun σ' h => ⟨h.1.cp (rg_cp0 rfl (fun _ _ h => h) (fun j => h.1.1 6 0 0 j (vd_6 (by omega))) (fun j => h.1.1 6 1 0 j (vd_6 (by omega)))) (fun j => (by unfold MYl; omega)), trivial⟩) (pc' := 60) rfl ?_
  refine T_ld zk_39_60 rfl rfl rfl (pc' := 61) rfl ?_
  refine T_getR (t' := 7) (i' := 0) (k' := 0) zk_39_61 rfl rfl rfl (vd_2 (by omega)) (pc' := 64) rfl ?_
  refine T_op zk_39_64 rfl X_ic (pc' := 65) rfl ?_
  refine T_ld zk_39_65 rfl rfl rfl (pc' := 66) rfl ?_
  refine T_getR (t' := 7) (i' := 1) (k' := 0) zk_39_66 rfl rfl rfl (vd_2 (by omega)) (pc' := 69) rfl ?_
  refine T_op zk_39_69 rfl X_ic (pc' := 70) rfl ?_
  refine T_op zk_39_70 rfl (X_bi (v := 40) (by decide)) (pc' := 72) rfl ?_
  refine G_copy (J' := (fun σ' => IF (MYl 1) σ σ' ∧ (∀ j, 0 ≤ j → j < 40 → σ' 7 1 0 j = F j) ∧ True)) (l0 := 40) (l1 := 40) (kk := 12) zk_39_72 rfl rfl (by decide) rfl rfl rfl rfl (vd_7 (by omega)) (vd_7 (by omega)) (by omega) (by omega) (by omega) (by omega) (by omega) (fun σ' h => ⟨h.1.cp (rg_cp0 rfl (fun _ _ h => h) (fun j => h.1.1 7 0 0 j (vd_7 (by omega))) (fun j => h.1.1 7 1 0 j (vd_7 (by omega)))) (fun j => (by unfold MYl; omega)), upr_cpF ((fun j a b => (h.1.2 _ _ _ _ (by first | exact nMYl rfl | (unfold MYl; omega))).trans (r0 j a b))) (by omega) (by omega), trivial⟩) (pc' := 75) rfl ?_
  refine G_know (J' := (fun σ' => IF (MYl 1) σ σ' ∧ (∀ j, 0 ≤ j → j < 40 → σ' 7 1 0 j = F j) ∧ eqn G (σ' 8 1 0) (Int.toNat 0) ∧ eqn H (σ' 9 1 0) (Int.toNat 0) ∧ True)) (fun σ' h => ⟨h.1, h.2.1, (fun j hj => by simp at hj), (fun j hj => by simp at hj), trivial⟩) ?_
  refine T_op zk_39_75 rfl X_ic (pc' := 76) rfl ?_
  refine T_st (L' := [(0, av 2 1 0), (1, av 2 0 0), (2, iv 0)]) zk_39_76 (nL := 3) rfl rfl rfl rfl rfl (pc' := 77) rfl ?_
  refine T_loop1 (fun x1 => ((40 - x1 : Int)).toNat) (fun x1 => (0 ≤ x1 ∧ x1 ≤ 40)) (fun x1 => TJ xs (fun σ' => IF (MYl 1) σ σ' ∧ (∀ j, 0 ≤ j → j < 40 → σ' 7 1 0 j = F j) ∧ eqn G (σ' 8 1 0) (Int.toNat x1) ∧ eqn H (σ' 9 1 0) (Int.toNat x1) ∧ True) 0 39 77 [(0, av 2 1 0), (1, av 2 0 0), (2, iv x1)] [] _) ?_ 0 (by omega)
  intro x1 hp3 ih2
  refine T_ld zk_39_77 rfl rfl rfl (pc' := 78) rfl ?_
  refine T_op zk_39_78 rfl (X_bi (v := 40) (by decide)) (pc' := 80) rfl ?_
  refine T_icmp_ge zk_39_80 (by omega) (by omega) (pc' := 83) rfl (fun h4 => ?_) (fun h5 => ?_)
  ·
    exact T_vret zk_39_113 rfl (fun σ' h => ⟨rfl, h.1, ⟨h.2.1, (fun j a b => (h.2.2.1) j (by omega)), (fun j a b => (h.2.2.2.1) j (by omega)), trivial⟩⟩)
  ·
    refine T_ld zk_39_83 rfl rfl rfl (pc' := 84) rfl ?_
    refine T_getR (t' := 8) (i' := 1) (k' := 0) zk_39_84 rfl rfl rfl (vd_2 (by omega)) (pc' := 87) rfl ?_
    refine T_ld zk_39_87 rfl rfl rfl (pc' := 88) rfl ?_
    refine T_ld zk_39_88 rfl rfl rfl (pc' := 89) rfl ?_
    refine T_getR (t' := 8) (i' := 0) (k' := 0) zk_39_89 rfl rfl rfl (vd_2 (by omega)) (pc' := 92) rfl ?_
    refine T_ld zk_39_92 rfl rfl rfl (pc' := 93) rfl ?_
    refine G_pure (P := 0 ≤ G (Int.toNat x1) ∧ G (Int.toNat x1) ≤ 1) (fun σ' h => by have q := (fun h => h.2 (by omega) (by omega)) (h.1.1 8 0 0 (Int.toNat x1) (vd_8 (by omega))); rw [(h.1.2 _ _ _ _ (by first | exact nMYl rfl | (unfold MYl; omega))).trans (r1 _ (by omega) (by omega))] at q; exact q) (fun hq6 => ?_)
    refine G_baldX (w := G (Int.toNat x1)) (ln := 40) zk_39_93 rfl rfl (vd_8 (by omega)) (by omega) (by omega) (by omega) (fun σ' h => (h.1.2 _ _ _ _ (by first | exact nMYl rfl | (unfold MYl; omega))).trans (r1 _ (by omega) (by omega))) (pc' := 94) rfl ?_
    refine G_bast (J' := (fun σ' => IF (MYl 1) σ σ' ∧ (∀ j, 0 ≤ j → j < 40 → σ' 7 1 0 j = F j) ∧ eqn G (σ' 8 1 0) (Int.toNat (x1 + 1)) ∧ eqn H (σ' 9 1 0) (Int.toNat x1) ∧ True)) (ln := 40) zk_39_94 rfl rfl (by omega) (vd_8 (by omega)) (by omega) (by omega) (by omega) (fun σ' h => ⟨h.1.up (by simp only [rgP] <;> omega) (by unfold MYl; omega), fun j a b => (up_ne (by omega)).trans (h.2.1 j a b), eqn_push (h.2.2.1) (by omega) (by omega) rfl, gf_mk (fun z => eqn H z (Int.toNat x1)) (up_row (by omega)) (h.2.2.2.1), trivial⟩) (pc' := 95) rfl ?_
    refine T_ld zk_39_95 rfl rfl rfl (pc' := 96) rfl ?_
    refine T_getR (t' := 9) (i' := 1) (k' := 0) zk_39_96 rfl rfl rfl (vd_2 (by omega)) (pc' := 99) rfl ?_
    refine T_ld zk_39_99 rfl rfl rfl (pc' := 100) rfl ?_
    refine T_ld zk_39_100 rfl rfl rfl (pc' := 101) rfl ?_
    refine T_getR (t' := 9) (i' := 0) (k' := 0) zk_39_101 rfl rfl rfl (vd_2 (by omega)) (pc' := 104) rfl ?_
    refine T_ld zk_39_104 rfl rfl rfl (pc' := 105) rfl ?_
    refine G_pure (P := 0 ≤ H (Int.toNat x1) ∧ H (Int.toNat x1) ≤ 1) (fun σ' h => by have q := (fun h => h.2 (by omega) (by omega)) (h.1.1 9 0 0 (Int.toNat x1) (vd_9 (by omega))); rw [(h.1.2 _ _ _ _ (by first | exact nMYl rfl | (unfold MYl; omega))).trans (r2 _ (by omega) (by omega))] at q; exact q) (fun hq7 => ?_)
    refine G_baldX (w := H (Int.toNat x1)) (ln := 40) zk_39_105 rfl rfl (vd_9 (by omega)) (by omega) (by omega) (by omega) (fun σ' h => (h.1.2 _ _ _ _ (by first | exact nMYl rfl | (unfold MYl; omega))).trans (r2 _ (by omega) (by omega))) (pc' := 106) rfl ?_
    refine G_bast (J' := (fun σ' => IF (MYl 1) σ σ' ∧ (∀ j, 0 ≤ j → j < 40 → σ' 7 1 0 j = F j) ∧ eqn G (σ' 8 1 0) (Int.toNat (x1 + 1)) ∧ eqn H (σ' 9 1 0) (Int.toNat (x1 + 1)) ∧ True)) (ln := 40) zk_39_106 rfl rfl (by omega) (vd_9 (by omega)) (by omega) (by omega) (by omega) (fun σ' h => ⟨h.1.up (by simp only [rgP] <;> omega) (by unfold MYl; omega), fun j a b => (up_ne (by omega)).trans (h.2.1 j a b), gf_mk (fun z => eqn G z (Int.toNat (x1 + 1))) (up_row (by omega)) (h.2.2.1), eqn_push (h.2.2.2.1) (by omega) (by omega) rfl, trivial⟩) (pc' := 107) rfl ?_
    refine T_iinc (L' := [(0, av 2 1 0), (1, av 2 0 0), (2, iv (x1 + 1))]) zk_39_107 (nL := 3) rfl rfl rfl rfl (pc' := 110) rfl ?_
    refine T_goto zk_39_110 ?_
    exact ih2 (x1 + 1) (by omega) (by omega)
/-- W$City.takeCity -/
theorem s_22w_1 {xs : Nat × (Nat → Int32)}  (a6 : Int) (a7 : Int) (a10 : Int) (a11 : Int) (a12 : Int) (a13 : Int) (F G H : Nat → Int) (ha6 : 0 ≤ a6 ∧ a6 ≤ 12) (ha7 : 0 ≤ a7 ∧ a7 ≤ 6) (ha10 : 0 ≤ a10 ∧ a10 ≤ 99) (ha11 : 1 ≤ a11 ∧ a11 ≤ 9) (ha12 : 0 ≤ a12 ∧ a12 ≤ 9999) (ha13 : -2147483648 ≤ a13 ∧ a13 ≤ 2147483647) (σ : ZS) (hI : Inv σ)  (s0 : σ 1 0 0 6 = a6) (s1 : σ 1 0 0 7 = a7) (s2 : σ 1 0 0 10 = a10) (s3 : σ 1 0 0 11 = a11) (s4 : σ 1 0 0 12 = a12) (s5 : σ 1 0 0 13 = a13) (r0 : (∀ j, 0 ≤ j → j < 40 → σ 7 0 0 j = F j)) (r1 : (∀ j, 0 ≤ j → j < 40 → σ 8 0 0 j = G j)) (r2 : (∀ j, 0 ≤ j → j < 40 → σ 9 0 0 j = H j)) : CT xs 3 22 [av 1 1 0, av 1 0 0] σ (fun v σ' => v = none ∧ IF (MY 1) σ σ' ∧ (σ' 1 1 0 6 = a6 ∧ σ' 1 1 0 7 = a7 ∧ σ' 1 1 0 10 = a10 ∧ σ' 1 1 0 11 = a11 ∧ σ' 1 1 0 12 = a12 ∧ σ' 1 1 0 13 = a13 ∧ (∀ j, 0 ≤ j → j < 40 → σ' 7 1 0 j = F j) ∧ (∀ j, 0 ≤ j → j < 40 → σ' 8 1 0 j = G j) ∧ (∀ j, 0 ≤ j → j < 40 → σ' 9 1 0 j = H j) ∧ True)) := by
  refine G_ct (J := (fun σ' => IF (MY 1) σ σ' ∧ True)) (L := [(0, av 1 1 0), (1, av 1 0 0)]) (nL := 3) rfl rfl rfl ⟨IF.rf hI, trivial⟩ ?_
  refine T_ld zk_22_0 rfl rfl rfl (pc' := 1) rfl ?_
  refine T_getR (t' := 2) (i' := 1) (k' := 0) zk_22_1 rfl rfl rfl (vd_1 (by omega)) (pc' := 4) rfl ?_
  refine T_ld zk_22_4 rfl rfl rfl (pc' := 5) rfl ?_
  refine T_getR (t' := 2) (i' := 0) (k' := 0) zk_22_5 rfl rfl rfl (vd_1 (by omega)) (pc' := 8) rfl ?_
  refine T_callv (J' := (fun σ' => IF (MY 1) σ σ' ∧ (∀ j, 0 ≤ j → j < 40 → σ' 7 1 0 j = F j) ∧ (∀ j, 0 ≤ j → j < 40 → σ' 8 1 0 j = G j) ∧ (∀ j, 0 ≤ j → j < 40 → σ' 9 1 0 j = H j) ∧ True)) (r := []) zk_22_8 rfl rfl rfl rfl rfl rfl (Or.inr ⟨_, _, _, _, rfl, (vd_2 (by omega)), rfl⟩) (fun σ' h => (s_39_1 F G H  σ' h.1.1 (fun j a b => (h.1.2 _ _ _ _ (by first | exact nMY rfl | (unfold MY; omega))).trans (r0 j (by omega) (by omega))) (fun j a b => (h.1.2 _ _ _ _ (by first | exact nMY rfl | (unfold MY; omega))).trans (r1 j (by omega) (by omega))) (fun j a b => (h.1.2 _ _ _ _ (by first | exact nMY rfl | (unfold MY; omega))).trans (r2 j (by omega) (by omega)))).le (Nat.le_of_ble_eq_true rfl) (fun v σ2 ⟨h1, h3, h4⟩ => ⟨h1, h.1.tr h3 sb72_644d648, h4.1, h4.2.1, h4.2.2.1, trivial⟩)) (pc' := 11) rfl ?_
  refine T_ld zk_22_11 rfl rfl rfl (pc' := 12) rfl ?_
  refine T_getR (t' := 11) (i' := 1) (k' := 0) zk_22_12 rfl rfl rfl (vd_1 (by omega)) (pc' := 15) rfl ?_
  refine T_ld zk_22_15 rfl rfl rfl (pc' := 16) rfl ?_
  refine T_getR (t' := 11) (i' := 0) (k' := 0) zk_22_16 rfl rfl rfl (vd_1 (by omega)) (pc' := 19) rfl ?_
  refine T_callv (J' := (fun σ' => IF (MY 1) σ σ' ∧ (∀ j, 0 ≤ j → j < 40 → σ' 7 1 0 j = F j) ∧ (∀ j, 0 ≤ j → j < 40 → σ' 8 1 0 j = G j) ∧ (∀ j, 0 ≤ j → j < 40 → σ' 9 1 0 j = H j) ∧ True)) (r := []) zk_22_19 rfl rfl rfl rfl rfl rfl (Or.inr ⟨_, _, _, _, rfl, (vd_11 (by omega)), rfl⟩) (fun σ' h => (w_64 1 0 (by omega) (by omega) σ' h.1.1 ).le (Nat.le_of_ble_eq_true rfl) (fun v σ2 ⟨h1, h3, h4⟩ => ⟨h1, h.1.tr h3 sb72_93ede0b, fun j a b => (h3.2 _ _ _ _ (by first | exact nMI rfl | (unfold MI; omega))).trans (h.2.1 j a b), fun j a b => (h3.2 _ _ _ _ (by first | exact nMI rfl | (unfold MI; omega))).trans (h.2.2.1 j a b), fun j a b => (h3.2 _ _ _ _ (by first | exact nMI rfl | (unfold MI; omega))).trans (h.2.2.2.1 j a b), trivial⟩)) (pc' := 22) rfl ?_
  refine T_ld zk_22_22 rfl rfl rfl (pc' := 23) rfl ?_
  refine T_getR (t' := 17) (i' := 1) (k' := 0) zk_22_23 rfl rfl rfl (vd_1 (by omega)) (pc' := 26) rfl ?_
  refine T_ld zk_22_26 rfl rfl rfl (pc' := 27) rfl ?_
  refine T_getR (t' := 17) (i' := 0) (k' := 0) zk_22_27 rfl rfl rfl (vd_1 (by omega)) (pc' := 30) rfl ?_
  refine T_callv (J' := (fun σ' => IF (MY 1) σ σ' ∧ (∀ j, 0 ≤ j → j < 40 → σ' 7 1 0 j = F j) ∧ (∀ j, 0 ≤ j → j < 40 → σ' 8 1 0 j = G j) ∧ (∀ j, 0 ≤ j → j < 40 → σ' 9 1 0 j = H j) ∧ True)) (r := []) zk_22_30 rfl rfl rfl rfl rfl rfl (Or.inr ⟨_, _, _, _, rfl, (vd_17 (by omega) (by omega)), rfl⟩) (fun σ' h => (w_72 1 0 0 (by omega) (by omega) (by omega) σ' h.1.1 ).le (Nat.le_of_ble_eq_true rfl) (fun v σ2 ⟨h1, h3, h4⟩ => ⟨h1, h.1.tr h3 sb72_5e083c8, fun j a b => (h3.2 _ _ _ _ (by first | exact nMYt rfl | (unfold MYt; omega))).trans (h.2.1 j a b), fun j a b => (h3.2 _ _ _ _ (by first | exact nMYt rfl | (unfold MYt; omega))).trans (h.2.2.1 j a b), fun j a b => (h3.2 _ _ _ _ (by first | exact nMYt rfl | (unfold MYt; omega))).trans (h.2.2.2.1 j a b), trivial⟩)) (pc' := 33) rfl ?_
  refine T_ld zk_22_33 rfl rfl rfl (pc' := 34) rfl ?_
  refine T_getR (t' := 17) (i' := 1) (k' := 1) zk_22_34 rfl rfl rfl (vd_1 (by omega)) (pc' := 37) rfl ?_
  refine T_ld zk_22_37 rfl rfl rfl (pc' := 38) rfl ?_
  refine T_getR (t' := 17) (i' := 0) (k' := 1) zk_22_38 rfl rfl rfl (vd_1 (by omega)) (pc' := 41) rfl ?_
  refine T_callv (J' := (fun σ' => IF (MY 1) σ σ' ∧ (∀ j, 0 ≤ j → j < 40 → σ' 7 1 0 j = F j) ∧ (∀ j, 0 ≤ j → j < 40 → σ' 8 1 0 j = G j) ∧ (∀ j, 0 ≤ j → j < 40 → σ' 9 1 0 j = H j) ∧ True)) (r := []) zk_22_41 rfl rfl rfl rfl rfl rfl (Or.inr ⟨_, _, _, _, rfl, (vd_17 (by omega) (by omega)), rfl⟩) (fun σ' h => (w_72 1 1 0 (by omega) (by omega) (by omega) σ' h.1.1 ).le (Nat.le_of_ble_eq_true rfl) (fun v σ2 ⟨h1, h3, h4⟩ => ⟨h1, h.1.tr h3 sb72_72ea14c, fun j a b => (h3.2 _ _ _ _ (by first | exact nMYt rfl | (unfold MYt; omega))).trans (h.2.1 j a b), fun j a b => (h3.2 _ _ _ _ (by first | exact nMYt rfl | (unfold MYt; omega))).trans (h.2.2.1 j a b), fun j a b => (h3.2 _ _ _ _ (by first | exact nMYt rfl | (unfold MYt; omega))).trans (h.2.2.2.1 j a b), trivial⟩)) (pc' := 44) rfl ?_
  refine T_ld zk_22_44 rfl rfl rfl (pc' := 45) rfl ?_
  refine T_ld zk_22_45 rfl rfl rfl (pc' := 46) rfl ?_
  refine G_getf (lo := 0) (hi := 5) zk_22_46 rfl (vd_1 (by omega)) (fun σ' h => h.1.1) (fun _ h => h.2.1 (by omega) (by omega)) (pc' := 49) rfl (fun y5 hy5 hy5' => ?_)
  refine T_putf (J' := (fun σ' => IF (MY 1) σ σ' ∧ (∀ j, 0 ≤ j → j < 40 → σ' 7 1 0 j = F j) ∧ (∀ j, 0 ≤ j → j < 40 → σ' 8 1 0 j = G j) ∧ (∀ j, 0 ≤ j → j < 40 → σ' 9 1 0 j = H j) ∧ σ' 1 1 0 5 = y5 ∧ True)) zk_22_49 rfl rfl (vd_1 (by omega)) (fun σ' h => ⟨h.1.up (by simp only [rgP] <;> omega) (by unfold MY; omega), fun j a b => (up_ne (by omega)).trans (h.2.1 j a b), fun j a b => (up_ne (by omega)).trans (h.2.2.1 j a b), fun j a b => (up_ne (by omega)).trans (h.2.2.2.1 j a b), up_eq, trivial⟩) (pc' := 52) rfl ?_
  refine T_op zk_22_52 rfl X_ic (pc' := 53) rfl ?_
  refine T_st (L' := [(0, av 1 1 0), (1, av 1 0 0), (2, iv 0)]) zk_22_53 (nL := 3) rfl rfl rfl rfl rfl (pc' := 54) rfl ?_
  refine G_know (J' := (fun σ' => IF (MY 1) σ σ' ∧ (∀ j, 0 ≤ j → j < 40 → σ' 7 1 0 j = F j) ∧ (∀ j, 0 ≤ j → j < 40 → σ' 8 1 0 j = G j) ∧ (∀ j, 0 ≤ j → j < 40 → σ' 9 1 0 j = H j) ∧ True)) (fun σ' h => ⟨h.1, h.2.1, h.2.2.1, h.2.2.2.1, trivial⟩) ?_
  refine T_loop1 (fun x6 => ((5 - x6 : Int)).toNat) (fun x6 => (0 ≤ x6 ∧ x6 ≤ 5)) (fun x6 => TJ xs (fun σ' => IF (MY 1) σ σ' ∧ (∀ j, 0 ≤ j → j < 40 → σ' 7 1 0 j = F j) ∧ (∀ j, 0 ≤ j → j < 40 → σ' 8 1 0 j = G j) ∧ (∀ j, 0 ≤ j → j < 40 → σ' 9 1 0 j = H j) ∧ True) 2 22 54 [(0, av 1 1 0), (1, av 1 0 0), (2, iv x6)] [] _) ?_ 0 (by omega)
  intro x6 hp8 ih7
  refine T_ld zk_22_54 rfl rfl rfl (pc' := 55) rfl ?_
  refine T_ld zk_22_55 rfl rfl rfl (pc' := 56) rfl ?_
  refine G_getf (lo := 0) (hi := 5) zk_22_56 rfl (vd_1 (by omega)) (fun σ' h => h.1.1) (fun _ h => h.2.1 (by omega) (by omega)) (pc' := 59) rfl (fun y9 hy9 hy9' => ?_)
  refine T_icmp_ge zk_22_59 (by omega) (by omega) (pc' := 62) rfl (fun h10 => ?_) (fun h11 => ?_)
  ·
    refine T_ld zk_22_83 rfl rfl rfl (pc' := 84) rfl ?_
    refine T_ld zk_22_84 rfl rfl rfl (pc' := 85) rfl ?_
    refine G_getX (w := a6) zk_22_85 rfl (vd_1 (by omega)) (fun σ' h => (h.1.2 _ _ _ _ (by first | exact nMY rfl | (unfold MY; omega))).trans s0) (pc' := 88) rfl ?_
    refine T_putf (J' := (fun σ' => IF (MY 1) σ σ' ∧ (∀ j, 0 ≤ j → j < 40 → σ' 7 1 0 j = F j) ∧ (∀ j, 0 ≤ j → j < 40 → σ' 8 1 0 j = G j) ∧ (∀ j, 0 ≤ j → j < 40 → σ' 9 1 0 j = H j) ∧ σ' 1 1 0 6 = a6 ∧ True)) zk_22_88 rfl rfl (vd_1 (by omega)) (fun σ' h => ⟨h.1.up (by simp only [rgP] <;> omega) (by unfold MY; omega), fun j a b => (up_ne (by omega)).trans (h.2.1 j a b), fun j a b => (up_ne (by omega)).trans (h.2.2.1 j a b), fun j a b => (up_ne (by omega)).trans (h.2.2.2.1 j a b), up_eq, trivial⟩) (pc' := 91) rfl ?_
    refine T_op zk_22_91 rfl X_ic (pc' := 92) rfl ?_
    refine T_st (L' := [(0, av 1 1 0), (1, av 1 0 0), (2, iv 0)]) zk_22_92 (nL := 3) rfl rfl rfl rfl rfl (pc' := 93) rfl ?_
    refine G_know (J' := (fun σ' => IF (MY 1) σ σ' ∧ σ' 1 1 0 6 = a6 ∧ (∀ j, 0 ≤ j → j < 40 → σ' 7 1 0 j = F j) ∧ (∀ j, 0 ≤ j → j < 40 → σ' 8 1 0 j = G j) ∧ (∀ j, 0 ≤ j → j < 40 → σ' 9 1 0 j = H j) ∧ True)) (fun σ' h => ⟨h.1, h.2.2.2.2.1, h.2.1, h.2.2.1, h.2.2.2.1, trivial⟩) ?_
    refine T_loop1 (fun x12 => ((12 - x12 : Int)).toNat) (fun x12 => (0 ≤ x12 ∧ x12 ≤ 12)) (fun x12 => TJ xs (fun σ' => IF (MY 1) σ σ' ∧ σ' 1 1 0 6 = a6 ∧ (∀ j, 0 ≤ j → j < 40 → σ' 7 1 0 j = F j) ∧ (∀ j, 0 ≤ j → j < 40 → σ' 8 1 0 j = G j) ∧ (∀ j, 0 ≤ j → j < 40 → σ' 9 1 0 j = H j) ∧ True) 2 22 93 [(0, av 1 1 0), (1, av 1 0 0), (2, iv x12)] [] _) ?_ 0 (by omega)
    intro x12 hp14 ih13
    refine T_ld zk_22_93 rfl rfl rfl (pc' := 94) rfl ?_
    refine T_ld zk_22_94 rfl rfl rfl (pc' := 95) rfl ?_
    refine G_getX (w := a6) zk_22_95 rfl (vd_1 (by omega)) (fun σ' h => h.2.1) (pc' := 98) rfl ?_
    refine T_icmp_ge zk_22_98 (by omega) (by omega) (pc' := 101) rfl (fun h15 => ?_) (fun h16 => ?_)
    ·
      refine T_ld zk_22_122 rfl rfl rfl (pc' := 123) rfl ?_
      refine T_ld zk_22_123 rfl rfl rfl (pc' := 124) rfl ?_
      refine G_getX (w := a7) zk_22_124 rfl (vd_1 (by omega)) (fun σ' h => (h.1.2 _ _ _ _ (by first | exact nMY rfl | (unfold MY; omega))).trans s1) (pc' := 127) rfl ?_
      refine T_putf (J' := (fun σ' => IF (MY 1) σ σ' ∧ σ' 1 1 0 6 = a6 ∧ (∀ j, 0 ≤ j → j < 40 → σ' 7 1 0 j = F j) ∧ (∀ j, 0 ≤ j → j < 40 → σ' 8 1 0 j = G j) ∧ (∀ j, 0 ≤ j → j < 40 → σ' 9 1 0 j = H j) ∧ σ' 1 1 0 7 = a7 ∧ True)) zk_22_127 rfl rfl (vd_1 (by omega)) (fun σ' h => ⟨h.1.up (by simp only [rgP] <;> omega) (by unfold MY; omega), (up_ne (by omega)).trans (h.2.1), fun j a b => (up_ne (by omega)).trans (h.2.2.1 j a b), fun j a b => (up_ne (by omega)).trans (h.2.2.2.1 j a b), fun j a b => (up_ne (by omega)).trans (h.2.2.2.2.1 j a b), up_eq, trivial⟩) (pc' := 130) rfl ?_
      refine T_op zk_22_130 rfl X_ic (pc' := 131) rfl ?_
      refine T_st (L' := [(0, av 1 1 0), (1, av 1 0 0), (2, iv 0)]) zk_22_131 (nL := 3) rfl rfl rfl rfl rfl (pc' := 132) rfl ?_
      refine G_know (J' := (fun σ' => IF (MY 1) σ σ' ∧ σ' 1 1 0 6 = a6 ∧ σ' 1 1 0 7 = a7 ∧ (∀ j, 0 ≤ j → j < 40 → σ' 7 1 0 j = F j) ∧ (∀ j, 0 ≤ j → j < 40 → σ' 8 1 0 j = G j) ∧ (∀ j, 0 ≤ j → j < 40 → σ' 9 1 0 j = H j) ∧ True)) (fun σ' h => ⟨h.1, h.2.1, h.2.2.2.2.2.1, h.2.2.1, h.2.2.2.1, h.2.2.2.2.1, trivial⟩) ?_
      refine T_loop1 (fun x17 => ((6 - x17 : Int)).toNat) (fun x17 => (0 ≤ x17 ∧ x17 ≤ 6)) (fun x17 => TJ xs (fun σ' => IF (MY 1) σ σ' ∧ σ' 1 1 0 6 = a6 ∧ σ' 1 1 0 7 = a7 ∧ (∀ j, 0 ≤ j → j < 40 → σ' 7 1 0 j = F j) ∧ (∀ j, 0 ≤ j → j < 40 → σ' 8 1 0 j = G j) ∧ (∀ j, 0 ≤ j → j < 40 → σ' 9 1 0 j = H j) ∧ True) 2 22 132 [(0, av 1 1 0), (1, av 1 0 0), (2, iv x17)] [] _) ?_ 0 (by omega)
      intro x17 hp19 ih18
      refine T_ld zk_22_132 rfl rfl rfl (pc' := 133) rfl ?_
      refine T_ld zk_22_133 rfl rfl rfl (pc' := 134) rfl ?_
      refine G_getX (w := a7) zk_22_134 rfl (vd_1 (by omega)) (fun σ' h => h.2.2.1) (pc' := 137) rfl ?_
      refine T_icmp_ge zk_22_137 (by omega) (by omega) (pc' := 140) rfl (fun h20 => ?_) (fun h21 => ?_)
      ·
        refine T_ld zk_22_161 rfl rfl rfl (pc' := 162) rfl ?_
        refine T_ld zk_22_162 rfl rfl rfl (pc' := 163) rfl ?_
        refine G_getX (w := a10) zk_22_163 rfl (vd_1 (by omega)) (fun σ' h => (h.1.2 _ _ _ _ (by first | exact nMY rfl | (unfold MY; omega))).trans s2) (pc' := 166) rfl ?_
        refine T_putf (J' := (fun σ' => IF (MY 1) σ σ' ∧ σ' 1 1 0 6 = a6 ∧ σ' 1 1 0 7 = a7 ∧ (∀ j, 0 ≤ j → j < 40 → σ' 7 1 0 j = F j) ∧ (∀ j, 0 ≤ j → j < 40 → σ' 8 1 0 j = G j) ∧ (∀ j, 0 ≤ j → j < 40 → σ' 9 1 0 j = H j) ∧ σ' 1 1 0 10 = a10 ∧ True)) zk_22_166 rfl rfl (vd_1 (by omega)) (fun σ' h => ⟨h.1.up (by simp only [rgP] <;> omega) (by unfold MY; omega), (up_ne (by omega)).trans (h.2.1), (up_ne (by omega)).trans (h.2.2.1), fun j a b => (up_ne (by omega)).trans (h.2.2.2.1 j a b), fun j a b => (up_ne (by omega)).trans (h.2.2.2.2.1 j a b), fun j a b => (up_ne (by omega)).trans (h.2.2.2.2.2.1 j a b), up_eq, trivial⟩) (pc' := 169) rfl ?_
        refine T_ld zk_22_169 rfl rfl rfl (pc' := 170) rfl ?_
        refine T_ld zk_22_170 rfl rfl rfl (pc' := 171) rfl ?_
        refine G_getX (w := a11) zk_22_171 rfl (vd_1 (by omega)) (fun σ' h => (h.1.2 _ _ _ _ (by first | exact nMY rfl | (unfold MY; omega))).trans s3) (pc' := 174) rfl ?_
        refine T_putf (J' := (fun σ' => IF (MY 1) σ σ' ∧ σ' 1 1 0 6 = a6 ∧ σ' 1 1 0 7 = a7 ∧ (∀ j, 0 ≤ j → j < 40 → σ' 7 1 0 j = F j) ∧ (∀ j, 0 ≤ j → j < 40 → σ' 8 1 0 j = G j) ∧ (∀ j, 0 ≤ j → j < 40 → σ' 9 1 0 j = H j) ∧ σ' 1 1 0 10 = a10 ∧ σ' 1 1 0 11 = a11 ∧ True)) zk_22_174 rfl rfl (vd_1 (by omega)) (fun σ' h => ⟨h.1.up (by simp only [rgP] <;> omega) (by unfold MY; omega), (up_ne (by omega)).trans (h.2.1), (up_ne (by omega)).trans (h.2.2.1), fun j a b => (up_ne (by omega)).trans (h.2.2.2.1 j a b), fun j a b => (up_ne (by omega)).trans (h.2.2.2.2.1 j a b), fun j a b => (up_ne (by omega)).trans (h.2.2.2.2.2.1 j a b), (up_ne (by omega)).trans (h.2.2.2.2.2.2.1), up_eq, trivial⟩) (pc' := 177) rfl ?_
        refine T_ld zk_22_177 rfl rfl rfl (pc' := 178) rfl ?_
        refine T_ld zk_22_178 rfl rfl rfl (pc' := 179) rfl ?_
        refine G_getX (w := a12) zk_22_179 rfl (vd_1 (by omega)) (fun σ' h => (h.1.2 _ _ _ _ (by first | exact nMY rfl | (unfold MY; omega))).trans s4) (pc' := 182) rfl ?_
        refine T_putf (J' := (fun σ' => IF (MY 1) σ σ' ∧ σ' 1 1 0 6 = a6 ∧ σ' 1 1 0 7 = a7 ∧ (∀ j, 0 ≤ j → j < 40 → σ' 7 1 0 j = F j) ∧ (∀ j, 0 ≤ j → j < 40 → σ' 8 1 0 j = G j) ∧ (∀ j, 0 ≤ j → j < 40 → σ' 9 1 0 j = H j) ∧ σ' 1 1 0 10 = a10 ∧ σ' 1 1 0 11 = a11 ∧ σ' 1 1 0 12 = a12 ∧ True)) zk_22_182 rfl rfl (vd_1 (by omega)) (fun σ' h => ⟨h.1.up (by simp only [rgP] <;> omega) (by unfold MY; omega), (up_ne (by omega)).trans (h.2.1), (up_ne (by omega)).trans (h.2.2.1), fun j a b => (up_ne (by omega)).trans (h.2.2.2.1 j a b), fun j a b => (up_ne (by omega)).trans (h.2.2.2.2.1 j a b), fun j a b => (up_ne (by omega)).trans (h.2.2.2.2.2.1 j a b), (up_ne (by omega)).trans (h.2.2.2.2.2.2.1), (up_ne (by omega)).trans (h.2.2.2.2.2.2.2.1), up_eq, trivial⟩) (pc' := 185) rfl ?_
        refine T_ld zk_22_185 rfl rfl rfl (pc' := 186) rfl ?_
        refine T_ld zk_22_186 rfl rfl rfl (pc' := 187) rfl ?_
        refine G_getX (w := a13) zk_22_187 rfl (vd_1 (by omega)) (fun σ' h => (h.1.2 _ _ _ _ (by first | exact nMY rfl | (unfold MY; omega))).trans s5) (pc' := 190) rfl ?_
        refine T_putf (J' := (fun σ' => IF (MY 1) σ σ' ∧ σ' 1 1 0 6 = a6 ∧ σ' 1 1 0 7 = a7 ∧ (∀ j, 0 ≤ j → j < 40 → σ' 7 1 0 j = F j) ∧ (∀ j, 0 ≤ j → j < 40 → σ' 8 1 0 j = G j) ∧ (∀ j, 0 ≤ j → j < 40 → σ' 9 1 0 j = H j) ∧ σ' 1 1 0 10 = a10 ∧ σ' 1 1 0 11 = a11 ∧ σ' 1 1 0 12 = a12 ∧ σ' 1 1 0 13 = a13 ∧ True)) zk_22_190 rfl rfl (vd_1 (by omega)) (fun σ' h => ⟨h.1.up (by simp only [rgP] <;> omega) (by unfold MY; omega), (up_ne (by omega)).trans (h.2.1), (up_ne (by omega)).trans (h.2.2.1), fun j a b => (up_ne (by omega)).trans (h.2.2.2.1 j a b), fun j a b => (up_ne (by omega)).trans (h.2.2.2.2.1 j a b), fun j a b => (up_ne (by omega)).trans (h.2.2.2.2.2.1 j a b), (up_ne (by omega)).trans (h.2.2.2.2.2.2.1), (up_ne (by omega)).trans (h.2.2.2.2.2.2.2.1), (up_ne (by omega)).trans (h.2.2.2.2.2.2.2.2.1), up_eq, trivial⟩) (pc' := 193) rfl ?_
        refine T_ld zk_22_193 rfl rfl rfl (pc' := 194) rfl ?_
        refine T_ld zk_22_194 rfl rfl rfl (pc' := 195) rfl ?_
        refine G_getf (lo := -2147483648) (hi := 2147483647) zk_22_195 rfl (vd_1 (by omega)) (fun σ' h => h.1.1) (fun _ h => (by have q := h.1; omega)) (pc' := 198) rfl (fun y22 hy22 hy22' => ?_)
        refine T_putf (J' := (fun σ' => IF (MY 1) σ σ' ∧ σ' 1 1 0 6 = a6 ∧ σ' 1 1 0 7 = a7 ∧ (∀ j, 0 ≤ j → j < 40 → σ' 7 1 0 j = F j) ∧ (∀ j, 0 ≤ j → j < 40 → σ' 8 1 0 j = G j) ∧ (∀ j, 0 ≤ j → j < 40 → σ' 9 1 0 j = H j) ∧ σ' 1 1 0 10 = a10 ∧ σ' 1 1 0 11 = a11 ∧ σ' 1 1 0 12 = a12 ∧ σ' 1 1 0 13 = a13 ∧ σ' 1 1 0 14 = y22 ∧ True)) zk_22_198 rfl rfl (vd_1 (by omega)) (fun σ' h => ⟨h.1.up (by simp only [rgP] <;> omega) (by unfold MY; omega), (up_ne (by omega)).trans (h.2.1), (up_ne (by omega)).trans (h.2.2.1), fun j a b => (up_ne (by omega)).trans (h.2.2.2.1 j a b), fun j a b => (up_ne (by omega)).trans (h.2.2.2.2.1 j a b), fun j a b => (up_ne (by omega)).trans (h.2.2.2.2.2.1 j a b), (up_ne (by omega)).trans (h.2.2.2.2.2.2.1), (up_ne (by omega)).trans (h.2.2.2.2.2.2.2.1), (up_ne (by omega)).trans (h.2.2.2.2.2.2.2.2.1), (up_ne (by omega)).trans (h.2.2.2.2.2.2.2.2.2.1), up_eq, trivial⟩) (pc' := 201) rfl ?_
        refine T_ld zk_22_201 rfl rfl rfl (pc' := 202) rfl ?_
        refine T_ld zk_22_202 rfl rfl rfl (pc' := 203) rfl ?_
        refine G_getf (lo := -2147483648) (hi := 2147483647) zk_22_203 rfl (vd_1 (by omega)) (fun σ' h => h.1.1) (fun _ h => (by have q := h.1; omega)) (pc' := 206) rfl (fun y23 hy23 hy23' => ?_)
        refine T_putf (J' := (fun σ' => IF (MY 1) σ σ' ∧ σ' 1 1 0 6 = a6 ∧ σ' 1 1 0 7 = a7 ∧ (∀ j, 0 ≤ j → j < 40 → σ' 7 1 0 j = F j) ∧ (∀ j, 0 ≤ j → j < 40 → σ' 8 1 0 j = G j) ∧ (∀ j, 0 ≤ j → j < 40 → σ' 9 1 0 j = H j) ∧ σ' 1 1 0 10 = a10 ∧ σ' 1 1 0 11 = a11 ∧ σ' 1 1 0 12 = a12 ∧ σ' 1 1 0 13 = a13 ∧ σ' 1 1 0 14 = y22 ∧ σ' 1 1 0 15 = y23 ∧ True)) zk_22_206 rfl rfl (vd_1 (by omega)) (fun σ' h => ⟨h.1.up (by simp only [rgP] <;> omega) (by unfold MY; omega), (up_ne (by omega)).trans (h.2.1), (up_ne (by omega)).trans (h.2.2.1), fun j a b => (up_ne (by omega)).trans (h.2.2.2.1 j a b), fun j a b => (up_ne (by omega)).trans (h.2.2.2.2.1 j a b), fun j a b => (up_ne (by omega)).trans (h.2.2.2.2.2.1 j a b), (up_ne (by omega)).trans (h.2.2.2.2.2.2.1), (up_ne (by omega)).trans (h.2.2.2.2.2.2.2.1), (up_ne (by omega)).trans (h.2.2.2.2.2.2.2.2.1), (up_ne (by omega)).trans (h.2.2.2.2.2.2.2.2.2.1), (up_ne (by omega)).trans (h.2.2.2.2.2.2.2.2.2.2.1), up_eq, trivial⟩) (pc' := 209) rfl ?_
        refine T_ld zk_22_209 rfl rfl rfl (pc' := 210) rfl ?_
        refine T_ld zk_22_210 rfl rfl rfl (pc' := 211) rfl ?_
        refine G_getf (lo := -2147483648) (hi := 2147483647) zk_22_211 rfl (vd_1 (by omega)) (fun σ' h => h.1.1) (fun _ h => (by have q := h.1; omega)) (pc' := 214) rfl (fun y24 hy24 hy24' => ?_)
        refine T_putf (J' := (fun σ' => IF (MY 1) σ σ' ∧ σ' 1 1 0 6 = a6 ∧ σ' 1 1 0 7 = a7 ∧ (∀ j, 0 ≤ j → j < 40 → σ' 7 1 0 j = F j) ∧ (∀ j, 0 ≤ j → j < 40 → σ' 8 1 0 j = G j) ∧ (∀ j, 0 ≤ j → j < 40 → σ' 9 1 0 j = H j) ∧ σ' 1 1 0 10 = a10 ∧ σ' 1 1 0 11 = a11 ∧ σ' 1 1 0 12 = a12 ∧ σ' 1 1 0 13 = a13 ∧ σ' 1 1 0 14 = y22 ∧ σ' 1 1 0 15 = y23 ∧ σ' 1 1 0 16 = y24 ∧ True)) zk_22_214 rfl rfl (vd_1 (by omega)) (fun σ' h => ⟨h.1.up (by simp only [rgP] <;> omega) (by unfold MY; omega), (up_ne (by omega)).trans (h.2.1), (up_ne (by omega)).trans (h.2.2.1), fun j a b => (up_ne (by omega)).trans (h.2.2.2.1 j a b), fun j a b => (up_ne (by omega)).trans (h.2.2.2.2.1 j a b), fun j a b => (up_ne (by omega)).trans (h.2.2.2.2.2.1 j a b), (up_ne (by omega)).trans (h.2.2.2.2.2.2.1), (up_ne (by omega)).trans (h.2.2.2.2.2.2.2.1), (up_ne (by omega)).trans (h.2.2.2.2.2.2.2.2.1), (up_ne (by omega)).trans (h.2.2.2.2.2.2.2.2.2.1), (up_ne (by omega)).trans (h.2.2.2.2.2.2.2.2.2.2.1), (up_ne (by omega)).trans (h.2.2.2.2.2.2.2.2.2.2.2.1), up_eq, trivial⟩) (pc' := 217) rfl ?_
        exact T_vret zk_22_217 rfl (fun σ' h => ⟨rfl, h.1, ⟨h.2.1, h.2.2.1, h.2.2.2.2.2.2.1, h.2.2.2.2.2.2.2.1, h.2.2.2.2.2.2.2.2.1, h.2.2.2.2.2.2.2.2.2.1, h.2.2.2.1, h.2.2.2.2.1, h.2.2.2.2.2.1, trivial⟩⟩)
      ·
        refine T_ld zk_22_140 rfl rfl rfl (pc' := 141) rfl ?_
        refine T_getR (t' := 16) (i' := 1) (k' := 0) zk_22_141 rfl rfl rfl (vd_1 (by omega)) (pc' := 144) rfl ?_
        refine T_ld zk_22_144 rfl rfl rfl (pc' := 145) rfl ?_
        refine G_aald (t' := 26) (im := 9) (i' := 1) (ln := 6) zk_22_145 rfl rfl rfl (vd_16 (by omega)) (by omega) (by omega) (by omega) (pc' := 146) rfl ?_
        refine T_ld zk_22_146 rfl rfl rfl (pc' := 147) rfl ?_
        refine T_getR (t' := 16) (i' := 0) (k' := 0) zk_22_147 rfl rfl rfl (vd_1 (by omega)) (pc' := 150) rfl ?_
        refine T_ld zk_22_150 rfl rfl rfl (pc' := 151) rfl ?_
        refine G_aald (t' := 26) (im := 9) (i' := 0) (ln := 6) zk_22_151 rfl rfl rfl (vd_16 (by omega)) (by omega) (by omega) (by omega) (pc' := 152) rfl ?_
        refine T_callv (J' := (fun σ' => IF (MY 1) σ σ' ∧ σ' 1 1 0 6 = a6 ∧ σ' 1 1 0 7 = a7 ∧ (∀ j, 0 ≤ j → j < 40 → σ' 7 1 0 j = F j) ∧ (∀ j, 0 ≤ j → j < 40 → σ' 8 1 0 j = G j) ∧ (∀ j, 0 ≤ j → j < 40 → σ' 9 1 0 j = H j) ∧ True)) (r := []) zk_22_152 rfl rfl rfl rfl rfl rfl (Or.inr ⟨_, _, _, _, rfl, (vd_26 (by omega) (by omega)), rfl⟩) (fun σ' h => (w_3 1 (Int.toNat x17) 0 (by omega) (by omega) (by omega) σ' h.1.1 ).le (Nat.le_of_ble_eq_true rfl) (fun v σ2 ⟨h1, h3, h4⟩ => ⟨h1, h.1.tr h3 sb72_e13aa76, (h3.2 _ _ _ _ (by first | exact nMI rfl | (unfold MI; omega))).trans (h.2.1), (h3.2 _ _ _ _ (by first | exact nMI rfl | (unfold MI; omega))).trans (h.2.2.1), fun j a b => (h3.2 _ _ _ _ (by first | exact nMI rfl | (unfold MI; omega))).trans (h.2.2.2.1 j a b), fun j a b => (h3.2 _ _ _ _ (by first | exact nMI rfl | (unfold MI; omega))).trans (h.2.2.2.2.1 j a b), fun j a b => (h3.2 _ _ _ _ (by first | exact nMI rfl | (unfold MI; omega))).trans (h.2.2.2.2.2.1 j a b), trivial⟩)) (pc' := 155) rfl ?_
        refine T_iinc (L' := [(0, av 1 1 0), (1, av 1 0 0), (2, iv (x17 + 1))]) zk_22_155 (nL := 3) rfl rfl rfl rfl (pc' := 158) rfl ?_
        refine T_goto zk_22_158 ?_
        exact ih18 (x17 + 1) (by omega) (by omega)
    ·
      refine T_ld zk_22_101 rfl rfl rfl (pc' := 102) rfl ?_
      refine T_getR (t' := 15) (i' := 1) (k' := 0) zk_22_102 rfl rfl rfl (vd_1 (by omega)) (pc' := 105) rfl ?_
      refine T_ld zk_22_105 rfl rfl rfl (pc' := 106) rfl ?_
      refine G_aald (t' := 25) (im := 9) (i' := 1) (ln := 12) zk_22_106 rfl rfl rfl (vd_15 (by omega)) (by omega) (by omega) (by omega) (pc' := 107) rfl ?_
      refine T_ld zk_22_107 rfl rfl rfl (pc' := 108) rfl ?_
      refine T_getR (t' := 15) (i' := 0) (k' := 0) zk_22_108 rfl rfl rfl (vd_1 (by omega)) (pc' := 111) rfl ?_
      refine T_ld zk_22_111 rfl rfl rfl (pc' := 112) rfl ?_
      refine G_aald (t' := 25) (im := 9) (i' := 0) (ln := 12) zk_22_112 rfl rfl rfl (vd_15 (by omega)) (by omega) (by omega) (by omega) (pc' := 113) rfl ?_
      refine T_callv (J' := (fun σ' => IF (MY 1) σ σ' ∧ σ' 1 1 0 6 = a6 ∧ (∀ j, 0 ≤ j → j < 40 → σ' 7 1 0 j = F j) ∧ (∀ j, 0 ≤ j → j < 40 → σ' 8 1 0 j = G j) ∧ (∀ j, 0 ≤ j → j < 40 → σ' 9 1 0 j = H j) ∧ True)) (r := []) zk_22_113 rfl rfl rfl rfl rfl rfl (Or.inr ⟨_, _, _, _, rfl, (vd_25 (by omega) (by omega)), rfl⟩) (fun σ' h => (w_28 1 (Int.toNat x12) 0 (by omega) (by omega) (by omega) σ' h.1.1 ).le (Nat.le_of_ble_eq_true rfl) (fun v σ2 ⟨h1, h3, h4⟩ => ⟨h1, h.1.tr h3 sb72_a631b4c, (h3.2 _ _ _ _ (by first | exact nMI rfl | (unfold MI; omega))).trans (h.2.1), fun j a b => (h3.2 _ _ _ _ (by first | exact nMI rfl | (unfold MI; omega))).trans (h.2.2.1 j a b), fun j a b => (h3.2 _ _ _ _ (by first | exact nMI rfl | (unfold MI; omega))).trans (h.2.2.2.1 j a b), fun j a b => (h3.2 _ _ _ _ (by first | exact nMI rfl | (unfold MI; omega))).trans (h.2.2.2.2.1 j a b), trivial⟩)) (pc' := 116) rfl ?_
      refine T_iinc (L' := [(0, av 1 1 0), (1, av 1 0 0), (2, iv (x12 + 1))]) zk_22_116 (nL := 3) rfl rfl rfl rfl (pc' := 119) rfl ?_
      refine T_goto zk_22_119 ?_
      exact ih13 (x12 + 1) (by omega) (by omega)
  ·
    refine T_ld zk_22_62 rfl rfl rfl (pc' := 63) rfl ?_
    refine T_getR (t' := 14) (i' := 1) (k' := 0) zk_22_63 rfl rfl rfl (vd_1 (by omega)) (pc' := 66) rfl ?_
    refine T_ld zk_22_66 rfl rfl rfl (pc' := 67) rfl ?_
    refine G_aald (t' := 23) (im := 9) (i' := 1) (ln := 5) zk_22_67 rfl rfl rfl (vd_14 (by omega)) (by omega) (by omega) (by omega) (pc' := 68) rfl ?_
    refine T_ld zk_22_68 rfl rfl rfl (pc' := 69) rfl ?_
    refine T_getR (t' := 14) (i' := 0) (k' := 0) zk_22_69 rfl rfl rfl (vd_1 (by omega)) (pc' := 72) rfl ?_
    refine T_ld zk_22_72 rfl rfl rfl (pc' := 73) rfl ?_
    refine G_aald (t' := 23) (im := 9) (i' := 0) (ln := 5) zk_22_73 rfl rfl rfl (vd_14 (by omega)) (by omega) (by omega) (by omega) (pc' := 74) rfl ?_
    refine T_callv (J' := (fun σ' => IF (MY 1) σ σ' ∧ (∀ j, 0 ≤ j → j < 40 → σ' 7 1 0 j = F j) ∧ (∀ j, 0 ≤ j → j < 40 → σ' 8 1 0 j = G j) ∧ (∀ j, 0 ≤ j → j < 40 → σ' 9 1 0 j = H j) ∧ True)) (r := []) zk_22_74 rfl rfl rfl rfl rfl rfl (Or.inr ⟨_, _, _, _, rfl, (vd_23 (by omega) (by omega)), rfl⟩) (fun σ' h => (w_46 1 (Int.toNat x6) 0 (by omega) (by omega) (by omega) σ' h.1.1 ).le (Nat.le_of_ble_eq_true rfl) (fun v σ2 ⟨h1, h3, h4⟩ => ⟨h1, h.1.tr h3 sb72_5fad9a3, fun j a b => (h3.2 _ _ _ _ (by first | exact nMI rfl | (unfold MI; omega))).trans (h.2.1 j a b), fun j a b => (h3.2 _ _ _ _ (by first | exact nMI rfl | (unfold MI; omega))).trans (h.2.2.1 j a b), fun j a b => (h3.2 _ _ _ _ (by first | exact nMI rfl | (unfold MI; omega))).trans (h.2.2.2.1 j a b), trivial⟩)) (pc' := 77) rfl ?_
    refine T_iinc (L' := [(0, av 1 1 0), (1, av 1 0 0), (2, iv (x6 + 1))]) zk_22_77 (nL := 3) rfl rfl rfl rfl (pc' := 80) rfl ?_
    refine T_goto zk_22_80 ?_
    exact ih7 (x6 + 1) (by omega) (by omega)
/-- W$Lagoon.takeLagoon -/
theorem s_39_0 {xs : Nat × (Nat → Int32)}  (F G H : Nat → Int)  (σ : ZS) (hI : Inv σ)  (r0 : (∀ j, 0 ≤ j → j < 40 → σ 7 1 0 j = F j)) (r1 : (∀ j, 0 ≤ j → j < 40 → σ 8 1 0 j = G j)) (r2 : (∀ j, 0 ≤ j → j < 40 → σ 9 1 0 j = H j)) : CT xs 1 39 [av 2 0 0, av 2 1 0] σ (fun v σ' => v = none ∧ IF (MYl 0) σ σ' ∧ ((∀ j, 0 ≤ j → j < 40 → σ' 7 0 0 j = F j) ∧ (∀ j, 0 ≤ j → j < 40 → σ' 8 0 0 j = G j) ∧ (∀ j, 0 ≤ j → j < 40 → σ' 9 0 0 j = H j) ∧ True)) := by
  refine G_ct (J := (fun σ' => IF (MYl 0) σ σ' ∧ True)) (L := [(0, av 2 0 0), (1, av 2 1 0)]) (nL := 3) rfl rfl rfl ⟨IF.rf hI, trivial⟩ ?_
  refine T_ld zk_39_0 rfl rfl rfl (pc' := 1) rfl ?_
  refine T_getR (t' := 3) (i' := 1) (k' := 0) zk_39_1 rfl rfl rfl (vd_2 (by omega)) (pc' := 4) rfl ?_
  refine T_op zk_39_4 rfl X_ic (pc' := 5) rfl ?_
  refine T_ld zk_39_5 rfl rfl rfl (pc' := 6) rfl ?_
  refine T_getR (t' := 3) (i' := 0) (k' := 0) zk_39_6 rfl rfl rfl (vd_2 (by omega)) (pc' := 9) rfl ?_
  refine T_op zk_39_9 rfl X_ic (pc' := 10) rfl ?_
  refine T_op zk_39_10 rfl (X_bi (v := 25) (by decide)) (pc' := 12) rfl ?_
  refine G_copy (J' := (fun σ' => IF (MYl 0) σ σ' ∧ True)) (l0 := 25) (l1 := 25) (kk := 12) zk_39_12 rfl rfl (by decide) rfl rfl rfl rfl (vd_3 (by omega)) (vd_3 (by omega)) (by omega) (by omega) (by omega) (by omega) (by omega) (fun σ' h => ⟨h.1.cp (rg_cp0 rfl (fun _ _ h => h) (fun j => h.1.1 3 1 0 j (vd_3 (by omega))) (fun j => h.1.1 3 0 0 j (vd_3 (by omega)))) (fun j => (by unfold MYl; omega)), trivial⟩) (pc' := 15) rfl ?_
  refine T_ld zk_39_15 rfl rfl rfl (pc' := 16) rfl ?_
  refine T_getR (t' := 4) (i' := 1) (k' := 0) zk_39_16 rfl rfl rfl (vd_2 (by omega)) (pc' := 19) rfl ?_
  refine T_op zk_39_19 rfl X_ic (pc' := 20) rfl ?_
  refine T_ld zk_39_20 rfl rfl rfl (pc' := 21) rfl ?_
  refine T_getR (t' := 4) (i' := 0) (k' := 0) zk_39_21 rfl rfl rfl (vd_2 (by omega)) (pc' := 24) rfl ?_
  refine T_op zk_39_24 rfl X_ic (pc' := 25) rfl ?_
  refine T_op zk_39_25 rfl (X_bi (v := 25) (by decide)) (pc' := 27) rfl ?_
  refine G_copy (J' := (fun σ' => IF (MYl 0) σ σ' ∧ True)) (l0 := 25) (l1 := 25) (kk := 12) zk_39_27 rfl rfl (by decide) rfl rfl rfl rfl (vd_4 (by omega)) (vd_4 (by omega)) (by omega) (by omega) (by omega) (by omega) (by omega) (fun σ' h => ⟨h.1.cp (rg_cp0 rfl (fun _ _ h => h) (fun j => h.1.1 4 1 0 j (vd_4 (by omega))) (fun j => h.1.1 4 0 0 j (vd_4 (by omega)))) (fun j => (by unfold MYl; omega)), trivial⟩) (pc' := 30) rfl ?_
  refine T_ld zk_39_30 rfl rfl rfl (pc' := 31) rfl ?_
  refine T_getR (t' := 5) (i' := 1) (k' := 0) zk_39_31 rfl rfl rfl (vd_2 (by omega)) (pc' := 34) rfl ?_
  refine T_op zk_39_34 rfl X_ic (pc' := 35) rfl ?_
  refine T_ld zk_39_35 rfl rfl rfl (pc' := 36) rfl ?_
  refine T_getR (t' := 5) (i' := 0) (k' := 0) zk_39_36 rfl rfl rfl (vd_2 (by omega)) (pc' := 39) rfl ?_
  refine T_op zk_39_39 rfl X_ic (pc' := 40) rfl ?_
  refine T_op zk_39_40 rfl (X_bi (v := 25) (by decide)) (pc' := 42) rfl ?_
  refine G_copy (J' := (fun σ' => IF (MYl 0) σ σ' ∧ True)) (l0 := 25) (l1 := 25) (kk := 12) zk_39_42 rfl rfl (by decide) rfl rfl rfl rfl (vd_5 (by omega)) (vd_5 (by omega)) (by omega) (by omega) (by omega) (by omega) (by omega) (fun σ' h => ⟨h.1.cp (rg_cp0 rfl (fun _ _ h => h) (fun j => h.1.1 5 1 0 j (vd_5 (by omega))) (fun j => h.1.1 5 0 0 j (vd_5 (by omega)))) (fun j => (by unfold MYl; omega)), trivial⟩) (pc' := 45) rfl ?_
  refine T_ld zk_39_45 rfl rfl rfl (pc' := 46) rfl ?_
  refine T_getR (t' := 6) (i' := 1) (k' := 0) zk_39_46 rfl rfl rfl (vd_2 (by omega)) (pc' := 49) rfl ?_
  refine T_op zk_39_49 rfl X_ic (pc' := 50) rfl ?_
  refine T_ld zk_39_50 rfl rfl rfl (pc' := 51) rfl ?_
  refine T_getR (t' := 6) (i' := 0) (k' := 0) zk_39_51 rfl rfl rfl (vd_2 (by omega)) (pc' := 54) rfl ?_
  refine T_op zk_39_54 rfl X_ic (pc' := 55) rfl ?_
  refine T_op zk_39_55 rfl (X_bi (v := 25) (by decide)) (pc' := 57) rfl ?_
  refine G_copy (J' := (fun σ' => IF (MYl 0) σ σ' ∧ True)) (l0 := 25) (l1 := 25) (kk := 12) zk_39_57 rfl rfl (by decide) rfl rfl rfl rfl (vd_6 (by omega)) (vd_6 (by omega)) (by omega) (by omega) (by omega) (by omega) (by omega) (fun σ' h => ⟨h.1.cp (rg_cp0 rfl (fun _ _ h => h) (fun j => h.1.1 6 1 0 j (vd_6 (by omega))) (fun j => h.1.1 6 0 0 j (vd_6 (by omega)))) (fun j => (by unfold MYl; omega)), trivial⟩) (pc' := 60) rfl ?_
  refine T_ld zk_39_60 rfl rfl rfl (pc' := 61) rfl ?_
  refine T_getR (t' := 7) (i' := 1) (k' := 0) zk_39_61 rfl rfl rfl (vd_2 (by omega)) (pc' := 64) rfl ?_
  refine T_op zk_39_64 rfl X_ic (pc' := 65) rfl ?_
  refine T_ld zk_39_65 rfl rfl rfl (pc' := 66) rfl ?_
  refine T_getR (t' := 7) (i' := 0) (k' := 0) zk_39_66 rfl rfl rfl (vd_2 (by omega)) (pc' := 69) rfl ?_
  refine T_op zk_39_69 rfl X_ic (pc' := 70) rfl ?_
  refine T_op zk_39_70 rfl (X_bi (v := 40) (by decide)) (pc' := 72) rfl ?_
  refine G_copy (J' := (fun σ' => IF (MYl 0) σ σ' ∧ (∀ j, 0 ≤ j → j < 40 → σ' 7 0 0 j = F j) ∧ True)) (l0 := 40) (l1 := 40) (kk := 12) zk_39_72 rfl rfl (by decide) rfl rfl rfl rfl (vd_7 (by omega)) (vd_7 (by omega)) (by omega) (by omega) (by omega) (by omega) (by omega) (fun σ' h => ⟨h.1.cp (rg_cp0 rfl (fun _ _ h => h) (fun j => h.1.1 7 1 0 j (vd_7 (by omega))) (fun j => h.1.1 7 0 0 j (vd_7 (by omega)))) (fun j => (by unfold MYl; omega)), upr_cpF ((fun j a b => (h.1.2 _ _ _ _ (by first | exact nMYl rfl | (unfold MYl; omega))).trans (r0 j a b))) (by omega) (by omega), trivial⟩) (pc' := 75) rfl ?_
  refine G_know (J' := (fun σ' => IF (MYl 0) σ σ' ∧ (∀ j, 0 ≤ j → j < 40 → σ' 7 0 0 j = F j) ∧ eqn G (σ' 8 0 0) (Int.toNat 0) ∧ eqn H (σ' 9 0 0) (Int.toNat 0) ∧ True)) (fun σ' h => ⟨h.1, h.2.1, (fun j hj => by simp at hj), (fun j hj => by simp at hj), trivial⟩) ?_
  refine T_op zk_39_75 rfl X_ic (pc' := 76) rfl ?_
  refine T_st (L' := [(0, av 2 0 0), (1, av 2 1 0), (2, iv 0)]) zk_39_76 (nL := 3) rfl rfl rfl rfl rfl (pc' := 77) rfl ?_
  refine T_loop1 (fun x1 => ((40 - x1 : Int)).toNat) (fun x1 => (0 ≤ x1 ∧ x1 ≤ 40)) (fun x1 => TJ xs (fun σ' => IF (MYl 0) σ σ' ∧ (∀ j, 0 ≤ j → j < 40 → σ' 7 0 0 j = F j) ∧ eqn G (σ' 8 0 0) (Int.toNat x1) ∧ eqn H (σ' 9 0 0) (Int.toNat x1) ∧ True) 0 39 77 [(0, av 2 0 0), (1, av 2 1 0), (2, iv x1)] [] _) ?_ 0 (by omega)
  intro x1 hp3 ih2
  refine T_ld zk_39_77 rfl rfl rfl (pc' := 78) rfl ?_
  refine T_op zk_39_78 rfl (X_bi (v := 40) (by decide)) (pc' := 80) rfl ?_
  refine T_icmp_ge zk_39_80 (by omega) (by omega) (pc' := 83) rfl (fun h4 => ?_) (fun h5 => ?_)
  ·
    exact T_vret zk_39_113 rfl (fun σ' h => ⟨rfl, h.1, ⟨h.2.1, (fun j a b => (h.2.2.1) j (by omega)), (fun j a b => (h.2.2.2.1) j (by omega)), trivial⟩⟩)
  ·
    refine T_ld zk_39_83 rfl rfl rfl (pc' := 84) rfl ?_
    refine T_getR (t' := 8) (i' := 0) (k' := 0) zk_39_84 rfl rfl rfl (vd_2 (by omega)) (pc' := 87) rfl ?_
    refine T_ld zk_39_87 rfl rfl rfl (pc' := 88) rfl ?_
    refine T_ld zk_39_88 rfl rfl rfl (pc' := 89) rfl ?_
    refine T_getR (t' := 8) (i' := 1) (k' := 0) zk_39_89 rfl rfl rfl (vd_2 (by omega)) (pc' := 92) rfl ?_
    refine T_ld zk_39_92 rfl rfl rfl (pc' := 93) rfl ?_
    refine G_pure (P := 0 ≤ G (Int.toNat x1) ∧ G (Int.toNat x1) ≤ 1) (fun σ' h => by have q := (fun h => h.2 (by omega) (by omega)) (h.1.1 8 1 0 (Int.toNat x1) (vd_8 (by omega))); rw [(h.1.2 _ _ _ _ (by first | exact nMYl rfl | (unfold MYl; omega))).trans (r1 _ (by omega) (by omega))] at q; exact q) (fun hq6 => ?_)
    refine G_baldX (w := G (Int.toNat x1)) (ln := 40) zk_39_93 rfl rfl (vd_8 (by omega)) (by omega) (by omega) (by omega) (fun σ' h => (h.1.2 _ _ _ _ (by first | exact nMYl rfl | (unfold MYl; omega))).trans (r1 _ (by omega) (by omega))) (pc' := 94) rfl ?_
    refine G_bast (J' := (fun σ' => IF (MYl 0) σ σ' ∧ (∀ j, 0 ≤ j → j < 40 → σ' 7 0 0 j = F j) ∧ eqn G (σ' 8 0 0) (Int.toNat (x1 + 1)) ∧ eqn H (σ' 9 0 0) (Int.toNat x1) ∧ True)) (ln := 40) zk_39_94 rfl rfl (by omega) (vd_8 (by omega)) (by omega) (by omega) (by omega) (fun σ' h => ⟨h.1.up (by simp only [rgP] <;> omega) (by unfold MYl; omega), fun j a b => (up_ne (by omega)).trans (h.2.1 j a b), eqn_push (h.2.2.1) (by omega) (by omega) rfl, gf_mk (fun z => eqn H z (Int.toNat x1)) (up_row (by omega)) (h.2.2.2.1), trivial⟩) (pc' := 95) rfl ?_
    refine T_ld zk_39_95 rfl rfl rfl (pc' := 96) rfl ?_
    refine T_getR (t' := 9) (i' := 0) (k' := 0) zk_39_96 rfl rfl rfl (vd_2 (by omega)) (pc' := 99) rfl ?_
    refine T_ld zk_39_99 rfl rfl rfl (pc' := 100) rfl ?_
    refine T_ld zk_39_100 rfl rfl rfl (pc' := 101) rfl ?_
    refine T_getR (t' := 9) (i' := 1) (k' := 0) zk_39_101 rfl rfl rfl (vd_2 (by omega)) (pc' := 104) rfl ?_
    refine T_ld zk_39_104 rfl rfl rfl (pc' := 105) rfl ?_
    refine G_pure (P := 0 ≤ H (Int.toNat x1) ∧ H (Int.toNat x1) ≤ 1) (fun σ' h => by have q := (fun h => h.2 (by omega) (by omega)) (h.1.1 9 1 0 (Int.toNat x1) (vd_9 (by omega))); rw [(h.1.2 _ _ _ _ (by first | exact nMYl rfl | (unfold MYl; omega))).trans (r2 _ (by omega) (by omega))] at q; exact q) (fun hq7 => ?_)
    refine G_baldX (w := H (Int.toNat x1)) (ln := 40) zk_39_105 rfl rfl (vd_9 (by omega)) (by omega) (by omega) (by omega) (fun σ' h => (h.1.2 _ _ _ _ (by first | exact nMYl rfl | (unfold MYl; omega))).trans (r2 _ (by omega) (by omega))) (pc' := 106) rfl ?_
    refine G_bast (J' := (fun σ' => IF (MYl 0) σ σ' ∧ (∀ j, 0 ≤ j → j < 40 → σ' 7 0 0 j = F j) ∧ eqn G (σ' 8 0 0) (Int.toNat (x1 + 1)) ∧ eqn H (σ' 9 0 0) (Int.toNat (x1 + 1)) ∧ True)) (ln := 40) zk_39_106 rfl rfl (by omega) (vd_9 (by omega)) (by omega) (by omega) (by omega) (fun σ' h => ⟨h.1.up (by simp only [rgP] <;> omega) (by unfold MYl; omega), fun j a b => (up_ne (by omega)).trans (h.2.1 j a b), gf_mk (fun z => eqn G z (Int.toNat (x1 + 1))) (up_row (by omega)) (h.2.2.1), eqn_push (h.2.2.2.1) (by omega) (by omega) rfl, trivial⟩) (pc' := 107) rfl ?_
    refine T_iinc (L' := [(0, av 2 0 0), (1, av 2 1 0), (2, iv (x1 + 1))]) zk_39_107 (nL := 3) rfl rfl rfl rfl (pc' := 110) rfl ?_
    refine T_goto zk_39_110 ?_
    exact ih2 (x1 + 1) (by omega) (by omega)
