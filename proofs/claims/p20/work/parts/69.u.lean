theorem zk_151_0 : zc 151 0 = some (.aload_n 0, 0, 0, 0, 0) := rfl
theorem zk_151_1 : zc 151 1 = some (.getfield 44, 11, 12, 0, 150) := rfl
theorem zk_151_4 : zc 151 4 = some (.bipush 120, 0, 0, 0, 0) := rfl
theorem zk_151_6 : zc 151 6 = some (.iload_n 1, 0, 0, 0, 0) := rfl
theorem zk_151_7 : zc 151 7 = some (.imul, 0, 0, 0, 0) := rfl
theorem zk_151_8 : zc 151 8 = some (.aload_n 0, 0, 0, 0, 0) := rfl
theorem zk_151_9 : zc 151 9 = some (.dup, 0, 0, 0, 0) := rfl
theorem zk_151_10 : zc 151 10 = some (.getfield 156, 11, 22, 0, 172) := rfl
theorem zk_151_13 : zc 151 13 = some (.dup_x1, 0, 0, 0, 0) := rfl
theorem zk_151_14 : zc 151 14 = some (.iconst 1, 0, 0, 0, 0) := rfl
theorem zk_151_15 : zc 151 15 = some (.iadd, 0, 0, 0, 0) := rfl
theorem zk_151_16 : zc 151 16 = some (.putfield 156, 11, 22, 0, 172) := rfl
theorem zk_151_19 : zc 151 19 = some (.iadd, 0, 0, 0, 0) := rfl
theorem zk_151_20 : zc 151 20 = some (.iload_n 2, 0, 0, 0, 0) := rfl
theorem zk_151_21 : zc 151 21 = some (.iastore, 0, 0, 0, 0) := rfl
theorem zk_151_22 : zc 151 22 = some (.return_, 0, 0, 0, 0) := rfl
theorem zk_152_0 : zc 152 0 = some (.aload_n 0, 0, 0, 0, 0) := rfl
theorem zk_152_1 : zc 152 1 = some (.getfield 159, 11, 24, 0, 173) := rfl
theorem zk_152_4 : zc 152 4 = some (.ifCond .le 48, 52, 0, 0, 0) := rfl
theorem zk_152_7 : zc 152 7 = some (.aload_n 0, 0, 0, 0, 0) := rfl
theorem zk_152_8 : zc 152 8 = some (.getfield 63, 11, 18, 0, 156) := rfl
theorem zk_152_11 : zc 152 11 = some (.aload_n 0, 0, 0, 0, 0) := rfl
theorem zk_152_12 : zc 152 12 = some (.getfield 159, 11, 24, 0, 173) := rfl
theorem zk_152_15 : zc 152 15 = some (.iconst 1, 0, 0, 0, 0) := rfl
theorem zk_152_16 : zc 152 16 = some (.isub, 0, 0, 0, 0) := rfl
theorem zk_152_17 : zc 152 17 = some (.iaload, 0, 0, 0, 0) := rfl
theorem zk_152_18 : zc 152 18 = some (.bipush 33, 0, 0, 0, 0) := rfl
theorem zk_152_20 : zc 152 20 = some (.if_icmp .ne 32, 52, 0, 0, 0) := rfl
theorem zk_152_23 : zc 152 23 = some (.aload_n 0, 0, 0, 0, 0) := rfl
theorem zk_152_24 : zc 152 24 = some (.dup, 0, 0, 0, 0) := rfl
theorem zk_152_25 : zc 152 25 = some (.getfield 159, 11, 24, 0, 173) := rfl
theorem zk_152_28 : zc 152 28 = some (.iconst 1, 0, 0, 0, 0) := rfl
theorem zk_152_29 : zc 152 29 = some (.isub, 0, 0, 0, 0) := rfl
theorem zk_152_30 : zc 152 30 = some (.putfield 159, 11, 24, 0, 173) := rfl
theorem zk_152_33 : zc 152 33 = some (.aload_n 0, 0, 0, 0, 0) := rfl
theorem zk_152_34 : zc 152 34 = some (.dup, 0, 0, 0, 0) := rfl
theorem zk_152_35 : zc 152 35 = some (.getfield 162, 11, 25, 0, 174) := rfl
theorem zk_152_38 : zc 152 38 = some (.iconst 1, 0, 0, 0, 0) := rfl
theorem zk_152_39 : zc 152 39 = some (.isub, 0, 0, 0, 0) := rfl
theorem zk_152_40 : zc 152 40 = some (.putfield 162, 11, 25, 0, 174) := rfl
theorem zk_152_43 : zc 152 43 = some (.aload_n 0, 0, 0, 0, 0) := rfl
theorem zk_152_44 : zc 152 44 = some (.iload_n 1, 0, 0, 0, 0) := rfl
theorem zk_152_45 : zc 152 45 = some (.iconst (-1), 0, 0, 0, 0) := rfl
theorem zk_152_46 : zc 152 46 = some (.invokevirtual 165, 151, 0, 3, 138) := rfl
theorem zk_152_49 : zc 152 49 = some (.goto (-49), 0, 0, 0, 0) := rfl
theorem zk_152_52 : zc 152 52 = some (.return_, 0, 0, 0, 0) := rfl
theorem zk_153_0 : zc 153 0 = some (.aload_n 0, 0, 0, 0, 0) := rfl
theorem zk_153_1 : zc 153 1 = some (.getfield 159, 11, 24, 0, 173) := rfl
theorem zk_153_4 : zc 153 4 = some (.ifCond .le 78, 82, 0, 0, 0) := rfl
theorem zk_153_7 : zc 153 7 = some (.aload_n 0, 0, 0, 0, 0) := rfl
theorem zk_153_8 : zc 153 8 = some (.getfield 63, 11, 18, 0, 156) := rfl
theorem zk_153_11 : zc 153 11 = some (.aload_n 0, 0, 0, 0, 0) := rfl
theorem zk_153_12 : zc 153 12 = some (.getfield 159, 11, 24, 0, 173) := rfl
theorem zk_153_15 : zc 153 15 = some (.iconst 1, 0, 0, 0, 0) := rfl
theorem zk_153_16 : zc 153 16 = some (.isub, 0, 0, 0, 0) := rfl
theorem zk_153_17 : zc 153 17 = some (.iaload, 0, 0, 0, 0) := rfl
theorem zk_153_18 : zc 153 18 = some (.bipush 38, 0, 0, 0, 0) := rfl
theorem zk_153_20 : zc 153 20 = some (.if_icmp .eq 23, 43, 0, 0, 0) := rfl
theorem zk_153_23 : zc 153 23 = some (.aload_n 0, 0, 0, 0, 0) := rfl
theorem zk_153_24 : zc 153 24 = some (.getfield 63, 11, 18, 0, 156) := rfl
theorem zk_153_27 : zc 153 27 = some (.aload_n 0, 0, 0, 0, 0) := rfl
theorem zk_153_28 : zc 153 28 = some (.getfield 159, 11, 24, 0, 173) := rfl
theorem zk_153_31 : zc 153 31 = some (.iconst 1, 0, 0, 0, 0) := rfl
theorem zk_153_32 : zc 153 32 = some (.isub, 0, 0, 0, 0) := rfl
theorem zk_153_33 : zc 153 33 = some (.iaload, 0, 0, 0, 0) := rfl
theorem zk_153_34 : zc 153 34 = some (.bipush 124, 0, 0, 0, 0) := rfl
theorem zk_153_36 : zc 153 36 = some (.if_icmp .ne 46, 82, 0, 0, 0) := rfl
theorem zk_153_39 : zc 153 39 = some (.iload_n 2, 0, 0, 0, 0) := rfl
theorem zk_153_40 : zc 153 40 = some (.ifCond .ne 42, 82, 0, 0, 0) := rfl
theorem zk_153_43 : zc 153 43 = some (.aload_n 0, 0, 0, 0, 0) := rfl
theorem zk_153_44 : zc 153 44 = some (.dup, 0, 0, 0, 0) := rfl
theorem zk_153_45 : zc 153 45 = some (.getfield 159, 11, 24, 0, 173) := rfl
theorem zk_153_48 : zc 153 48 = some (.iconst 1, 0, 0, 0, 0) := rfl
theorem zk_153_49 : zc 153 49 = some (.isub, 0, 0, 0, 0) := rfl
theorem zk_153_50 : zc 153 50 = some (.putfield 159, 11, 24, 0, 173) := rfl
theorem zk_153_53 : zc 153 53 = some (.aload_n 0, 0, 0, 0, 0) := rfl
theorem zk_153_54 : zc 153 54 = some (.iload_n 1, 0, 0, 0, 0) := rfl
theorem zk_153_55 : zc 153 55 = some (.aload_n 0, 0, 0, 0, 0) := rfl
theorem zk_153_56 : zc 153 56 = some (.getfield 63, 11, 18, 0, 156) := rfl
theorem zk_153_59 : zc 153 59 = some (.aload_n 0, 0, 0, 0, 0) := rfl
theorem zk_153_60 : zc 153 60 = some (.getfield 159, 11, 24, 0, 173) := rfl
theorem zk_153_63 : zc 153 63 = some (.iaload, 0, 0, 0, 0) := rfl
theorem zk_153_64 : zc 153 64 = some (.bipush 38, 0, 0, 0, 0) := rfl
theorem zk_153_66 : zc 153 66 = some (.if_icmp .ne 8, 74, 0, 0, 0) := rfl
theorem zk_153_69 : zc 153 69 = some (.bipush (-2), 0, 0, 0, 0) := rfl
theorem zk_153_71 : zc 153 71 = some (.goto 5, 76, 0, 0, 0) := rfl
theorem zk_153_74 : zc 153 74 = some (.bipush (-3), 0, 0, 0, 0) := rfl
theorem zk_153_76 : zc 153 76 = some (.invokevirtual 165, 151, 0, 3, 138) := rfl
theorem zk_153_79 : zc 153 79 = some (.goto (-79), 0, 0, 0, 0) := rfl
theorem zk_153_82 : zc 153 82 = some (.return_, 0, 0, 0, 0) := rfl
def MEm (a : Nat) (t i k j : Nat) : Prop := (t = 45 ∧ 120 * a ≤ j ∧ j < 120 * a + 120) ∨ (t = 35 ∧ j = 22)
theorem nMEm {a t i k j : Nat} (hb : decide (((t = 45 ∧ 120 * a ≤ j ∧ j < 120 * a + 120) ∨ (t = 35 ∧ j = 22))) = false) : ¬ MEm a t i k j := fun h => of_decide_eq_false hb (by unfold MEm at h; omega)
theorem pMEm {a t i k j : Nat} (hb : decide (((t = 45 ∧ 120 * a ≤ j ∧ j < 120 * a + 120) ∨ (t = 35 ∧ j = 22))) = true) : MEm a t i k j := by
  have h := of_decide_eq_true hb
  unfold MEm
  omega
def MCl (a : Nat) (t i k j : Nat) : Prop := (t = 45 ∧ 120 * a ≤ j ∧ j < 120 * a + 120) ∨ (t = 35 ∧ (j = 22 ∨ j = 24 ∨ j = 25))
theorem nMCl {a t i k j : Nat} (hb : decide (((t = 45 ∧ 120 * a ≤ j ∧ j < 120 * a + 120) ∨ (t = 35 ∧ (j = 22 ∨ j = 24 ∨ j = 25)))) = false) : ¬ MCl a t i k j := fun h => of_decide_eq_false hb (by unfold MCl at h; omega)
theorem pMCl {a t i k j : Nat} (hb : decide (((t = 45 ∧ 120 * a ≤ j ∧ j < 120 * a + 120) ∨ (t = 35 ∧ (j = 22 ∨ j = 24 ∨ j = 25)))) = true) : MCl a t i k j := by
  have h := of_decide_eq_true hb
  unfold MCl
  omega
/-- WModel.emits -/
theorem m_151 {xs : Nat × (Nat → Int32)} (p0 : Int) (p1 : Int) (cn : Int) (F : Nat → Int) (hp0 : 0 ≤ p0 ∧ p0 ≤ 5) (hp1 : -3 ≤ p1 ∧ p1 ≤ 49) (hcn : 0 ≤ cn ∧ cn ≤ 119) (σ : ZS) (hI : Inv σ)  (s1 : σ 35 0 0 22 = cn) (s2 : Eq (σ 45 0 0) F) : CT xs 1 151 [av 35 0 0, iv p0, iv p1] σ (fun v σ' => v = none ∧ IF (MEm (Int.toNat p0)) σ σ' ∧ (σ' 35 0 0 22 = cn + 1 ∧ Eq (σ' 45 0 0) (fun q => if q = Int.toNat (120 * p0 + cn) then p1 else F q) ∧ True)) := by
  refine G_ct (J := (fun σ' => IF (MEm (Int.toNat p0)) σ σ' ∧ σ' 35 0 0 22 = cn ∧ Eq (σ' 45 0 0) F ∧ True)) (L := [(0, av 35 0 0), (1, iv p0), (2, iv p1)]) (nL := 3) rfl rfl rfl ⟨IF.rf hI, s1, s2, trivial⟩ ?_
  refine T_ld zk_151_0 rfl rfl rfl (pc' := 1) rfl ?_
  refine T_getR (t' := 45) (i' := 0) (k' := 0) zk_151_1 rfl rfl rfl vd_35 (pc' := 4) rfl ?_
  refine T_op zk_151_4 rfl (X_bi (v := 120) (by decide)) (pc' := 6) rfl ?_
  refine T_ld zk_151_6 rfl rfl rfl (pc' := 7) rfl ?_
  refine T_op zk_151_7 rfl X_mul (pc' := 8) rfl ?_
  refine T_ld zk_151_8 rfl rfl rfl (pc' := 9) rfl ?_
  refine T_op (st' := [av 35 0 0, av 35 0 0, iv (120 * p0), av 45 0 0]) zk_151_9 rfl rfl (pc' := 10) rfl ?_
  refine G_getX (w := cn) zk_151_10 rfl vd_35 (fun σ' h => h.2.1) (pc' := 13) rfl ?_
  refine T_op (st' := [iv cn, av 35 0 0, iv cn, iv (120 * p0), av 45 0 0]) zk_151_13 rfl rfl (pc' := 14) rfl ?_
  refine T_op zk_151_14 rfl X_ic (pc' := 15) rfl ?_
  refine T_op zk_151_15 rfl X_add (pc' := 16) rfl ?_
  refine T_putf (J' := (fun σ' => IF (MEm (Int.toNat p0)) σ σ' ∧ Eq (σ' 45 0 0) F ∧ σ' 35 0 0 22 = cn + 1 ∧ True)) zk_151_16 rfl rfl vd_35 (fun σ' h => ⟨h.1.up (by simp only [rgP] <;> omega) (by first | exact pMEm rfl | (unfold MEm; omega)), gf_mk (fun z => Eq z F) (up_row (by omega)) (h.2.2.1), up_eq, trivial⟩) (pc' := 19) rfl ?_
  refine T_op zk_151_19 rfl X_add (pc' := 20) rfl ?_
  refine T_ld zk_151_20 rfl rfl rfl (pc' := 21) rfl ?_
  refine G_iast (J' := (fun σ' => IF (MEm (Int.toNat p0)) σ σ' ∧ Eq (σ' 45 0 0) (fun q => if q = Int.toNat (120 * p0 + cn) then p1 else F q) ∧ σ' 35 0 0 22 = cn + 1 ∧ True)) (ln := 720) zk_151_21 rfl rfl vd_45 (by omega) (by omega) (by omega) (fun σ' h => ⟨h.1.up (by simp only [rgP] <;> omega) (by first | exact pMEm rfl | (unfold MEm; omega)), Eq_put (h.2.1), (up_ne (by omega)).trans (h.2.2.1), trivial⟩) (pc' := 22) rfl ?_
  exact T_vret zk_151_22 rfl (fun σ' h => ⟨rfl, h.1, ⟨h.2.2.1, h.2.1, trivial⟩⟩)
