theorem zk_155_0 : zc 155 0 = some (.aload_n 0, 0, 0, 0, 0) := rfl
theorem zk_155_1 : zc 155 1 = some (.iload_n 1, 0, 0, 0, 0) := rfl
theorem zk_155_2 : zc 155 2 = some (.invokevirtual 121, 143, 0, 2, 134) := rfl
theorem zk_155_5 : zc 155 5 = some (.istore_n 2, 0, 0, 0, 0) := rfl
theorem zk_155_6 : zc 155 6 = some (.iload_n 2, 0, 0, 0, 0) := rfl
theorem zk_155_7 : zc 155 7 = some (.ifCond .eq 9, 16, 0, 0, 0) := rfl
theorem zk_155_10 : zc 155 10 = some (.aload_n 0, 0, 0, 0, 0) := rfl
theorem zk_155_11 : zc 155 11 = some (.iload_n 2, 0, 0, 0, 0) := rfl
theorem zk_155_12 : zc 155 12 = some (.invokevirtual 103, 123, 0, 2, 129) := rfl
theorem zk_155_15 : zc 155 15 = some (.ireturn, 0, 0, 0, 0) := rfl
theorem zk_155_16 : zc 155 16 = some (.aload_n 0, 0, 0, 0, 0) := rfl
theorem zk_155_17 : zc 155 17 = some (.getfield 7, 11, 0, 0, 139) := rfl
theorem zk_155_20 : zc 155 20 = some (.sipush 640, 0, 0, 0, 0) := rfl
theorem zk_155_23 : zc 155 23 = some (.iaload, 0, 0, 0, 0) := rfl
theorem zk_155_24 : zc 155 24 = some (.iconst 5, 0, 0, 0, 0) := rfl
theorem zk_155_25 : zc 155 25 = some (.if_icmp .ge 14, 39, 0, 0, 0) := rfl
theorem zk_155_28 : zc 155 28 = some (.aload_n 0, 0, 0, 0, 0) := rfl
theorem zk_155_29 : zc 155 29 = some (.getfield 7, 11, 0, 0, 139) := rfl
theorem zk_155_32 : zc 155 32 = some (.sipush 640, 0, 0, 0, 0) := rfl
theorem zk_155_35 : zc 155 35 = some (.iaload, 0, 0, 0, 0) := rfl
theorem zk_155_36 : zc 155 36 = some (.goto 4, 40, 0, 0, 0) := rfl
theorem zk_155_39 : zc 155 39 = some (.iconst 5, 0, 0, 0, 0) := rfl
theorem zk_155_40 : zc 155 40 = some (.istore_n 3, 0, 0, 0, 0) := rfl
theorem zk_155_41 : zc 155 41 = some (.aload_n 0, 0, 0, 0, 0) := rfl
theorem zk_155_42 : zc 155 42 = some (.aload_n 0, 0, 0, 0, 0) := rfl
theorem zk_155_43 : zc 155 43 = some (.iload_n 1, 0, 0, 0, 0) := rfl
theorem zk_155_44 : zc 155 44 = some (.iload_n 3, 0, 0, 0, 0) := rfl
theorem zk_155_45 : zc 155 45 = some (.invokevirtual 180, 154, 0, 3, 142) := rfl
theorem zk_155_48 : zc 155 48 = some (.putfield 56, 11, 16, 0, 154) := rfl
theorem zk_155_51 : zc 155 51 = some (.aload_n 0, 0, 0, 0, 0) := rfl
theorem zk_155_52 : zc 155 52 = some (.getfield 56, 11, 16, 0, 154) := rfl
theorem zk_155_55 : zc 155 55 = some (.iconst (-1), 0, 0, 0, 0) := rfl
theorem zk_155_56 : zc 155 56 = some (.if_icmp .eq 10, 66, 0, 0, 0) := rfl
theorem zk_155_59 : zc 155 59 = some (.aload_n 0, 0, 0, 0, 0) := rfl
theorem zk_155_60 : zc 155 60 = some (.bipush (-6), 0, 0, 0, 0) := rfl
theorem zk_155_62 : zc 155 62 = some (.invokevirtual 103, 123, 0, 2, 129) := rfl
theorem zk_155_65 : zc 155 65 = some (.ireturn, 0, 0, 0, 0) := rfl
theorem zk_155_66 : zc 155 66 = some (.iload_n 3, 0, 0, 0, 0) := rfl
theorem zk_155_67 : zc 155 67 = some (.iconst 5, 0, 0, 0, 0) := rfl
theorem zk_155_68 : zc 155 68 = some (.if_icmp .ne 10, 78, 0, 0, 0) := rfl
theorem zk_155_71 : zc 155 71 = some (.aload_n 0, 0, 0, 0, 0) := rfl
theorem zk_155_72 : zc 155 72 = some (.bipush (-7), 0, 0, 0, 0) := rfl
theorem zk_155_74 : zc 155 74 = some (.invokevirtual 103, 123, 0, 2, 129) := rfl
theorem zk_155_77 : zc 155 77 = some (.ireturn, 0, 0, 0, 0) := rfl
theorem zk_155_78 : zc 155 78 = some (.aload_n 0, 0, 0, 0, 0) := rfl
theorem zk_155_79 : zc 155 79 = some (.getfield 7, 11, 0, 0, 139) := rfl
theorem zk_155_82 : zc 155 82 = some (.sipush 628, 0, 0, 0, 0) := rfl
theorem zk_155_85 : zc 155 85 = some (.iload_n 3, 0, 0, 0, 0) := rfl
theorem zk_155_86 : zc 155 86 = some (.iadd, 0, 0, 0, 0) := rfl
theorem zk_155_87 : zc 155 87 = some (.iconst 1, 0, 0, 0, 0) := rfl
theorem zk_155_88 : zc 155 88 = some (.iastore, 0, 0, 0, 0) := rfl
theorem zk_155_89 : zc 155 89 = some (.aload_n 0, 0, 0, 0, 0) := rfl
theorem zk_155_90 : zc 155 90 = some (.getfield 7, 11, 0, 0, 139) := rfl
theorem zk_155_93 : zc 155 93 = some (.sipush 640, 0, 0, 0, 0) := rfl
theorem zk_155_96 : zc 155 96 = some (.dup2, 0, 0, 0, 0) := rfl
theorem zk_155_97 : zc 155 97 = some (.iaload, 0, 0, 0, 0) := rfl
theorem zk_155_98 : zc 155 98 = some (.dup_x2, 0, 0, 0, 0) := rfl
theorem zk_155_99 : zc 155 99 = some (.iconst 1, 0, 0, 0, 0) := rfl
theorem zk_155_100 : zc 155 100 = some (.iadd, 0, 0, 0, 0) := rfl
theorem zk_155_101 : zc 155 101 = some (.iastore, 0, 0, 0, 0) := rfl
theorem zk_155_102 : zc 155 102 = some (.ireturn, 0, 0, 0, 0) := rfl
def MLa (t i k j : Nat) : Prop := (t = 36 ∧ k = 0 ∧ ((628 ≤ j ∧ j < 633) ∨ j = 640)) ∨ (43 ≤ t ∧ t ≤ 50) ∨ (t = 35 ∧ (j = 16 ∨ (19 ≤ j ∧ j ≤ 25)))
theorem pMLa { t i k j : Nat} (hb : decide (((43 ≤ t ∧ t ≤ 50) ∨ (t = 35 ∧ (j = 16 ∨ (19 ≤ j ∧ j ≤ 25))))) = true) : MLa  t i k j := by
  have h := of_decide_eq_true hb
  unfold MLa
  omega
theorem sb71_d492d80 : ∀ t i k j, MT 49 49 49 49 t i k j → MLa t i k j := by
  intro t i k j h
  unfold MT at h
  unfold MLa
  omega
/-- WModel.law -/
theorem m_155 {xs : Nat × (Nat → Int32)} (p0 : Int) (hp0 : -2147483648 ≤ p0 ∧ p0 ≤ 2147483647) (σ : ZS) (hI : Inv σ) (hW : WF σ)  : CT xs 8 155 [av 35 0 0, iv p0] σ (fun v σ' => ∃ y, v = some (iv y) ∧ (-2147483648 ≤ y ∧ y ≤ 2147483647) ∧ IF MLa σ σ' ∧ ((WF σ') ∧ True)) := by
  refine G_ct (J := (fun σ' => IF MLa σ σ' ∧ Eq (σ' 44 0 0) (σ 44 0 0) ∧ Eq (σ' 45 0 0) (σ 45 0 0) ∧ σ' 36 0 0 640 = σ 36 0 0 640 ∧ True)) (L := [(0, av 35 0 0), (1, iv p0)]) (nL := 4) rfl rfl rfl ⟨IF.rf hI, rfl, rfl, rfl, trivial⟩ ?_
  have r6 := r640 hI 0 (by omega)
  refine T_ld zk_155_0 rfl rfl rfl (pc' := 1) rfl ?_
  refine T_ld zk_155_1 rfl rfl rfl (pc' := 2) rfl ?_
  refine T_calli (K := fun y1 σ' => ((y1 = -1 ∧ (p0 < 0 ∨ 7 < p0)) ∨ ((y1 = -3 ∨ y1 = -2 ∨ y1 = 0) ∧ 0 ≤ p0 ∧ p0 ≤ 7)) ∧ (fun σ' => IF MLa σ σ' ∧ Eq (σ' 44 0 0) (σ 44 0 0) ∧ Eq (σ' 45 0 0) (σ 45 0 0) ∧ σ' 36 0 0 640 = σ 36 0 0 640 ∧ True) σ') (r := []) zk_155_2 rfl rfl rfl rfl rfl rfl (Or.inr ⟨_, _, _, _, rfl, vd_35, rfl⟩) (fun σ' h => (m_143 p0 (by omega) σ' h.1.1 ).le (Nat.le_of_ble_eq_true rfl) (fun v σ2 ⟨y, h1, h2, h3, h4⟩ => ⟨y, h1, h2, h.1.tr h3 MN_sub, gf_mk (fun z => Eq z (σ 44 0 0)) (funext fun j => h3.2 _ _ _ _ (fun q => q)) (h.2.1), gf_mk (fun z => Eq z (σ 45 0 0)) (funext fun j => h3.2 _ _ _ _ (fun q => q)) (h.2.2.1), (h3.2 _ _ _ _ (fun q => q)).trans (h.2.2.2.1), trivial⟩)) (pc' := 5) rfl (fun y1 => ?_)
  refine G_ex (fun hy1 => ?_)
  refine T_st (L' := [(0, av 35 0 0), (1, iv p0), (2, iv y1)]) zk_155_5 (nL := 4) rfl rfl rfl rfl rfl (pc' := 6) rfl ?_
  refine T_ld zk_155_6 rfl rfl rfl (pc' := 7) rfl ?_
  refine T_if_eq zk_155_7 (by omega) (pc' := 10) rfl (fun h2 => ?_) (fun h3 => ?_)
  ·
    refine T_ld zk_155_16 rfl rfl rfl (pc' := 17) rfl ?_
    refine T_getR (t' := 36) (i' := 0) (k' := 0) zk_155_17 rfl rfl rfl vd_35 (pc' := 20) rfl ?_
    refine T_op zk_155_20 rfl (X_si (v := 640) (by decide)) (pc' := 23) rfl ?_
    refine G_ialdX (w := σ 36 0 0 640) (ln := 646) zk_155_23 rfl rfl (vd_36 (by omega)) (by omega) (by omega) (by omega) (fun σ' h => h.2.2.2.1) (pc' := 24) rfl ?_
    refine T_op zk_155_24 rfl X_ic (pc' := 25) rfl ?_
    refine T_icmp_ge zk_155_25 (by omega) (by omega) (pc' := 28) rfl (fun h4 => ?_) (fun h5 => ?_)
    ·
      refine T_op zk_155_39 rfl X_ic (pc' := 40) rfl ?_
      refine T_st (L' := [(0, av 35 0 0), (1, iv p0), (2, iv y1), (3, iv 5)]) zk_155_40 (nL := 4) rfl rfl rfl rfl rfl (pc' := 41) rfl ?_
      refine T_ld zk_155_41 rfl rfl rfl (pc' := 42) rfl ?_
      refine T_ld zk_155_42 rfl rfl rfl (pc' := 43) rfl ?_
      refine T_ld zk_155_43 rfl rfl rfl (pc' := 44) rfl ?_
      refine T_ld zk_155_44 rfl rfl rfl (pc' := 45) rfl ?_
      refine T_calli (K := fun y6 σ' => (-1 ≤ y6 ∧ y6 ≤ 96) ∧ (fun σ' => IF MLa σ σ' ∧ σ' 36 0 0 640 = σ 36 0 0 640 ∧ Eo (σ' 44 0 0) (Int.toNat 5) (σ 44 0 0) ∧ Er (σ' 45 0 0) (Int.toNat 5) (σ 45 0 0) ∧ (y6 = -1 → okc (σ' 45 0 0) (Int.toNat (120 * 5)) (Int.toNat (σ' 44 0 0 (Int.toNat 5)))) ∧ True) σ') (r := [av 35 0 0]) zk_155_45 rfl rfl rfl rfl rfl rfl (Or.inr ⟨_, _, _, _, rfl, vd_35, rfl⟩) (fun σ' h => (m_154f p0 5 ((σ 44 0 0)) ((σ 45 0 0)) (by omega) (by omega) σ' h.1.1 (h.2.1) (h.2.2.1)).le (Nat.le_of_ble_eq_true rfl) (fun v σ2 ⟨y, h1, h2, h3, h4⟩ => ⟨y, h1, h2, h.1.tr h3 (fun t i k j h => by unfold MCo at h; unfold MLa; omega), (h3.2 _ _ _ _ (by first | exact nMCo rfl | (unfold MCo; omega))).trans (h.2.2.2.1), h4.1, h4.2.1, h4.2.2.1, trivial⟩)) (pc' := 48) rfl (fun y6 => ?_)
      refine G_ex (fun hy6 => ?_)
      refine T_putf (J' := (fun σ' => IF MLa σ σ' ∧ σ' 36 0 0 640 = σ 36 0 0 640 ∧ Eo (σ' 44 0 0) (Int.toNat 5) (σ 44 0 0) ∧ Er (σ' 45 0 0) (Int.toNat 5) (σ 45 0 0) ∧ σ' 35 0 0 16 = y6 ∧ True)) zk_155_48 rfl rfl vd_35 (fun σ' h => ⟨h.1.up (by simp only [rgP] <;> omega) (by first | exact pMLa rfl | (unfold MLa; omega)), (up_ne (by omega)).trans (h.2.1), gf_mk (fun z => Eo z (Int.toNat 5) (σ 44 0 0)) (up_row (by omega)) (h.2.2.1), gf_mk (fun z => Er z (Int.toNat 5) (σ 45 0 0)) (up_row (by omega)) (h.2.2.2.1), up_eq, trivial⟩) (pc' := 51) rfl ?_
      refine T_ld zk_155_51 rfl rfl rfl (pc' := 52) rfl ?_
      refine G_getX (w := y6) zk_155_52 rfl vd_35 (fun σ' h => h.2.2.2.2.1) (pc' := 55) rfl ?_
      refine T_op zk_155_55 rfl X_ic (pc' := 56) rfl ?_
      refine T_icmp_eq zk_155_56 (by omega) (by omega) (pc' := 59) rfl (fun h7 => ?_) (fun h8 => ?_)
      ·
        refine T_ld zk_155_66 rfl rfl rfl (pc' := 67) rfl ?_
        refine T_op zk_155_67 rfl X_ic (pc' := 68) rfl ?_
        refine T_icmp_ne zk_155_68 (by omega) (by omega) (pc' := 71) rfl (fun h9 => ?_) (fun h10 => ?_)
        · exfalso; omega
        ·
          refine T_ld zk_155_71 rfl rfl rfl (pc' := 72) rfl ?_
          refine T_op zk_155_72 rfl (X_bi (v := -7) (by decide)) (pc' := 74) rfl ?_
          refine T_calli (K := fun y11 σ' => (y11 = (-7)) ∧ (fun σ' => IF MLa σ σ' ∧ σ' 36 0 0 640 = σ 36 0 0 640 ∧ Eo (σ' 44 0 0) (Int.toNat 5) (σ 44 0 0) ∧ Er (σ' 45 0 0) (Int.toNat 5) (σ 45 0 0) ∧ σ' 35 0 0 16 = y6 ∧ True) σ') (r := []) zk_155_74 rfl rfl rfl rfl rfl rfl (Or.inr ⟨_, _, _, _, rfl, vd_35, rfl⟩) (fun σ' h => (m_123 ((-7)) (by omega) σ' h.1.1 ).le (Nat.le_of_ble_eq_true rfl) (fun v σ2 ⟨y, h1, h2, h3, h4⟩ => ⟨y, h1, h2, h.1.tr h3 sb71_d492d80, (h3.2 _ _ _ _ (by first | exact nMT rfl | (unfold MT; omega))).trans (h.2.1), gf_mk (fun z => Eo z (Int.toNat 5) (σ 44 0 0)) (funext fun j => h3.2 _ _ _ _ (by first | exact nMT rfl | (unfold MT; omega))) (h.2.2.1), gf_mk (fun z => Er z (Int.toNat 5) (σ 45 0 0)) (funext fun j => h3.2 _ _ _ _ (by first | exact nMT rfl | (unfold MT; omega))) (h.2.2.2.1), (h3.2 _ _ _ _ (by first | exact nMT rfl | (unfold MT; omega))).trans (h.2.2.2.2.1), trivial⟩)) (pc' := 77) rfl (fun y11 => ?_)
          refine G_ex (fun hy11 => ?_)
          obtain rfl : y11 = (-7) := by omega
          refine G_know (J' := (fun σ' => IF MLa σ σ' ∧ σ' 36 0 0 640 = σ 36 0 0 640 ∧ Eo (σ' 44 0 0) (Int.toNat 5) (σ 44 0 0) ∧ Er (σ' 45 0 0) (Int.toNat 5) (σ 45 0 0) ∧ σ' 35 0 0 16 = y6 ∧ (WF σ') ∧ True)) (fun σ' h => ⟨h.1, h.2.1, h.2.2.1, h.2.2.2.1, h.2.2.2.2.1, WF_keep hI hW (k := 5) (by omega) (h.2.1) (h.2.2.1) (h.2.2.2.1), trivial⟩) ?_
          exact T_iret zk_155_77 rfl (fun σ' h => ⟨_, rfl, (by omega), h.1, ⟨h.2.2.2.2.2.1, trivial⟩⟩)
      ·
        refine T_ld zk_155_59 rfl rfl rfl (pc' := 60) rfl ?_
        refine T_op zk_155_60 rfl (X_bi (v := -6) (by decide)) (pc' := 62) rfl ?_
        refine T_calli (K := fun y12 σ' => (y12 = (-6)) ∧ (fun σ' => IF MLa σ σ' ∧ σ' 36 0 0 640 = σ 36 0 0 640 ∧ Eo (σ' 44 0 0) (Int.toNat 5) (σ 44 0 0) ∧ Er (σ' 45 0 0) (Int.toNat 5) (σ 45 0 0) ∧ σ' 35 0 0 16 = y6 ∧ True) σ') (r := []) zk_155_62 rfl rfl rfl rfl rfl rfl (Or.inr ⟨_, _, _, _, rfl, vd_35, rfl⟩) (fun σ' h => (m_123 ((-6)) (by omega) σ' h.1.1 ).le (Nat.le_of_ble_eq_true rfl) (fun v σ2 ⟨y, h1, h2, h3, h4⟩ => ⟨y, h1, h2, h.1.tr h3 sb71_d492d80, (h3.2 _ _ _ _ (by first | exact nMT rfl | (unfold MT; omega))).trans (h.2.1), gf_mk (fun z => Eo z (Int.toNat 5) (σ 44 0 0)) (funext fun j => h3.2 _ _ _ _ (by first | exact nMT rfl | (unfold MT; omega))) (h.2.2.1), gf_mk (fun z => Er z (Int.toNat 5) (σ 45 0 0)) (funext fun j => h3.2 _ _ _ _ (by first | exact nMT rfl | (unfold MT; omega))) (h.2.2.2.1), (h3.2 _ _ _ _ (by first | exact nMT rfl | (unfold MT; omega))).trans (h.2.2.2.2.1), trivial⟩)) (pc' := 65) rfl (fun y12 => ?_)
        refine G_ex (fun hy12 => ?_)
        obtain rfl : y12 = (-6) := by omega
        refine G_know (J' := (fun σ' => IF MLa σ σ' ∧ σ' 36 0 0 640 = σ 36 0 0 640 ∧ Eo (σ' 44 0 0) (Int.toNat 5) (σ 44 0 0) ∧ Er (σ' 45 0 0) (Int.toNat 5) (σ 45 0 0) ∧ σ' 35 0 0 16 = y6 ∧ (WF σ') ∧ True)) (fun σ' h => ⟨h.1, h.2.1, h.2.2.1, h.2.2.2.1, h.2.2.2.2.1, WF_keep hI hW (k := 5) (by omega) (h.2.1) (h.2.2.1) (h.2.2.2.1), trivial⟩) ?_
        exact T_iret zk_155_65 rfl (fun σ' h => ⟨_, rfl, (by omega), h.1, ⟨h.2.2.2.2.2.1, trivial⟩⟩)
    ·
      refine T_ld zk_155_28 rfl rfl rfl (pc' := 29) rfl ?_
      refine T_getR (t' := 36) (i' := 0) (k' := 0) zk_155_29 rfl rfl rfl vd_35 (pc' := 32) rfl ?_
      refine T_op zk_155_32 rfl (X_si (v := 640) (by decide)) (pc' := 35) rfl ?_
      refine G_ialdX (w := σ 36 0 0 640) (ln := 646) zk_155_35 rfl rfl (vd_36 (by omega)) (by omega) (by omega) (by omega) (fun σ' h => h.2.2.2.1) (pc' := 36) rfl ?_
      refine T_goto zk_155_36 ?_
      refine T_st (L' := [(0, av 35 0 0), (1, iv p0), (2, iv y1), (3, iv (σ 36 0 0 640))]) zk_155_40 (nL := 4) rfl rfl rfl rfl rfl (pc' := 41) rfl ?_
      refine T_ld zk_155_41 rfl rfl rfl (pc' := 42) rfl ?_
      refine T_ld zk_155_42 rfl rfl rfl (pc' := 43) rfl ?_
      refine T_ld zk_155_43 rfl rfl rfl (pc' := 44) rfl ?_
      refine T_ld zk_155_44 rfl rfl rfl (pc' := 45) rfl ?_
      refine T_calli (K := fun y13 σ' => (-1 ≤ y13 ∧ y13 ≤ 96) ∧ (fun σ' => IF MLa σ σ' ∧ σ' 36 0 0 640 = σ 36 0 0 640 ∧ Eo (σ' 44 0 0) (Int.toNat (σ 36 0 0 640)) (σ 44 0 0) ∧ Er (σ' 45 0 0) (Int.toNat (σ 36 0 0 640)) (σ 45 0 0) ∧ (y13 = -1 → okc (σ' 45 0 0) (Int.toNat (120 * (σ 36 0 0 640))) (Int.toNat (σ' 44 0 0 (Int.toNat (σ 36 0 0 640))))) ∧ True) σ') (r := [av 35 0 0]) zk_155_45 rfl rfl rfl rfl rfl rfl (Or.inr ⟨_, _, _, _, rfl, vd_35, rfl⟩) (fun σ' h => (m_154f p0 (σ 36 0 0 640) ((σ 44 0 0)) ((σ 45 0 0)) (by omega) (by omega) σ' h.1.1 (h.2.1) (h.2.2.1)).le (Nat.le_of_ble_eq_true rfl) (fun v σ2 ⟨y, h1, h2, h3, h4⟩ => ⟨y, h1, h2, h.1.tr h3 (fun t i k j h => by unfold MCo at h; unfold MLa; omega), (h3.2 _ _ _ _ (by first | exact nMCo rfl | (unfold MCo; omega))).trans (h.2.2.2.1), h4.1, h4.2.1, h4.2.2.1, trivial⟩)) (pc' := 48) rfl (fun y13 => ?_)
      refine G_ex (fun hy13 => ?_)
      refine G_learn (t := 44) (i := 0) (k := 0) (j := Int.toNat (σ 36 0 0 640)) (lo := 0) (hi := 120) (J2 := fun y14 => (fun σ' => IF MLa σ σ' ∧ σ' 36 0 0 640 = σ 36 0 0 640 ∧ Eo (σ' 44 0 0) (Int.toNat (σ 36 0 0 640)) (σ 44 0 0) ∧ Er (σ' 45 0 0) (Int.toNat (σ 36 0 0 640)) (σ 45 0 0) ∧ (y13 = -1 → okc (σ' 45 0 0) (Int.toNat (120 * (σ 36 0 0 640))) (Int.toNat (σ' 44 0 0 (Int.toNat (σ 36 0 0 640))))) ∧ σ' 44 0 0 (Int.toNat (σ 36 0 0 640)) = y14 ∧ True)) vd_44 (fun σ' h => h.1.1) (fun _ h => h.2 (by omega) (by omega)) (fun σ' y h hy => ⟨h.1, h.2.1, h.2.2.1, h.2.2.2.1, h.2.2.2.2.1, hy, trivial⟩) (fun y14 hy14 hy14' => ?_)
      refine G_know (J' := (fun σ' => IF MLa σ σ' ∧ σ' 36 0 0 640 = σ 36 0 0 640 ∧ Eo (σ' 44 0 0) (Int.toNat (σ 36 0 0 640)) (σ 44 0 0) ∧ Er (σ' 45 0 0) (Int.toNat (σ 36 0 0 640)) (σ 45 0 0) ∧ (y13 = -1 → okc (σ' 45 0 0) (Int.toNat (120 * (σ 36 0 0 640))) (Int.toNat (σ' 44 0 0 (Int.toNat (σ 36 0 0 640))))) ∧ σ' 44 0 0 (Int.toNat (σ 36 0 0 640)) = y14 ∧ okcI (σ' 45 0 0) (Int.toNat (120 * (σ 36 0 0 640))) (Int.toNat y14) (y13 = -1) ∧ True)) (fun σ' h => ⟨h.1, h.2.1, h.2.2.1, h.2.2.2.1, h.2.2.2.2.1, h.2.2.2.2.2.1, (fun q => by have e := (h.2.2.2.2.1) q; rw [h.2.2.2.2.2.1] at e; exact e), trivial⟩) ?_
      refine T_putf (J' := (fun σ' => IF MLa σ σ' ∧ σ' 36 0 0 640 = σ 36 0 0 640 ∧ Eo (σ' 44 0 0) (Int.toNat (σ 36 0 0 640)) (σ 44 0 0) ∧ Er (σ' 45 0 0) (Int.toNat (σ 36 0 0 640)) (σ 45 0 0) ∧ σ' 44 0 0 (Int.toNat (σ 36 0 0 640)) = y14 ∧ okcI (σ' 45 0 0) (Int.toNat (120 * (σ 36 0 0 640))) (Int.toNat y14) (y13 = -1) ∧ σ' 35 0 0 16 = y13 ∧ True)) zk_155_48 rfl rfl vd_35 (fun σ' h => ⟨h.1.up (by simp only [rgP] <;> omega) (by first | exact pMLa rfl | (unfold MLa; omega)), (up_ne (by omega)).trans (h.2.1), gf_mk (fun z => Eo z (Int.toNat (σ 36 0 0 640)) (σ 44 0 0)) (up_row (by omega)) (h.2.2.1), gf_mk (fun z => Er z (Int.toNat (σ 36 0 0 640)) (σ 45 0 0)) (up_row (by omega)) (h.2.2.2.1), (up_ne (by omega)).trans (h.2.2.2.2.2.1), gf_mk (fun z => okcI z (Int.toNat (120 * (σ 36 0 0 640))) (Int.toNat y14) (y13 = -1)) (up_row (by omega)) (h.2.2.2.2.2.2.1), up_eq, trivial⟩) (pc' := 51) rfl ?_
      refine T_ld zk_155_51 rfl rfl rfl (pc' := 52) rfl ?_
      refine G_getX (w := y13) zk_155_52 rfl vd_35 (fun σ' h => h.2.2.2.2.2.2.1) (pc' := 55) rfl ?_
      refine T_op zk_155_55 rfl X_ic (pc' := 56) rfl ?_
      refine T_icmp_eq zk_155_56 (by omega) (by omega) (pc' := 59) rfl (fun h15 => ?_) (fun h16 => ?_)
      ·
        refine T_ld zk_155_66 rfl rfl rfl (pc' := 67) rfl ?_
        refine T_op zk_155_67 rfl X_ic (pc' := 68) rfl ?_
        refine T_icmp_ne zk_155_68 (by omega) (by omega) (pc' := 71) rfl (fun h17 => ?_) (fun h18 => ?_)
        ·
          refine T_ld zk_155_78 rfl rfl rfl (pc' := 79) rfl ?_
          refine T_getR (t' := 36) (i' := 0) (k' := 0) zk_155_79 rfl rfl rfl vd_35 (pc' := 82) rfl ?_
          refine T_op zk_155_82 rfl (X_si (v := 628) (by decide)) (pc' := 85) rfl ?_
          refine T_ld zk_155_85 rfl rfl rfl (pc' := 86) rfl ?_
          refine T_op zk_155_86 rfl X_add (pc' := 87) rfl ?_
          refine T_op zk_155_87 rfl X_ic (pc' := 88) rfl ?_
          refine G_iast (J' := (fun σ' => IF MLa σ σ' ∧ σ' 36 0 0 640 = σ 36 0 0 640 ∧ Eo (σ' 44 0 0) (Int.toNat (σ 36 0 0 640)) (σ 44 0 0) ∧ Er (σ' 45 0 0) (Int.toNat (σ 36 0 0 640)) (σ 45 0 0) ∧ σ' 44 0 0 (Int.toNat (σ 36 0 0 640)) = y14 ∧ okcI (σ' 45 0 0) (Int.toNat (120 * (σ 36 0 0 640))) (Int.toNat y14) (y13 = -1) ∧ σ' 35 0 0 16 = y13 ∧ σ' 36 0 0 (Int.toNat (628 + σ 36 0 0 640)) = 1 ∧ True)) (ln := 646) zk_155_88 rfl rfl (vd_36 (by omega)) (by omega) (by omega) (by omega) (fun σ' h => ⟨h.1.up (by simp only [rgP] <;> omega) (by first | exact pMLa rfl | (unfold MLa; omega)), (up_ne (by omega)).trans (h.2.1), gf_mk (fun z => Eo z (Int.toNat (σ 36 0 0 640)) (σ 44 0 0)) (up_row (by omega)) (h.2.2.1), gf_mk (fun z => Er z (Int.toNat (σ 36 0 0 640)) (σ 45 0 0)) (up_row (by omega)) (h.2.2.2.1), (up_ne (by omega)).trans (h.2.2.2.2.1), gf_mk (fun z => okcI z (Int.toNat (120 * (σ 36 0 0 640))) (Int.toNat y14) (y13 = -1)) (up_row (by omega)) (h.2.2.2.2.2.1), (up_ne (by omega)).trans (h.2.2.2.2.2.2.1), up_eq, trivial⟩) (pc' := 89) rfl ?_
          refine T_ld zk_155_89 rfl rfl rfl (pc' := 90) rfl ?_
          refine T_getR (t' := 36) (i' := 0) (k' := 0) zk_155_90 rfl rfl rfl vd_35 (pc' := 93) rfl ?_
          refine T_op zk_155_93 rfl (X_si (v := 640) (by decide)) (pc' := 96) rfl ?_
          refine T_op (st' := [iv 640, av 36 0 0, iv 640, av 36 0 0]) zk_155_96 rfl rfl (pc' := 97) rfl ?_
          refine G_ialdX (w := σ 36 0 0 640) (ln := 646) zk_155_97 rfl rfl (vd_36 (by omega)) (by omega) (by omega) (by omega) (fun σ' h => h.2.1) (pc' := 98) rfl ?_
          refine T_op (st' := [iv (σ 36 0 0 640), iv 640, av 36 0 0, iv (σ 36 0 0 640)]) zk_155_98 rfl rfl (pc' := 99) rfl ?_
          refine T_op zk_155_99 rfl X_ic (pc' := 100) rfl ?_
          refine T_op zk_155_100 rfl X_add (pc' := 101) rfl ?_
          refine G_iast (J' := (fun σ' => IF MLa σ σ' ∧ Eo (σ' 44 0 0) (Int.toNat (σ 36 0 0 640)) (σ 44 0 0) ∧ Er (σ' 45 0 0) (Int.toNat (σ 36 0 0 640)) (σ 45 0 0) ∧ σ' 44 0 0 (Int.toNat (σ 36 0 0 640)) = y14 ∧ okcI (σ' 45 0 0) (Int.toNat (120 * (σ 36 0 0 640))) (Int.toNat y14) (y13 = -1) ∧ σ' 35 0 0 16 = y13 ∧ σ' 36 0 0 640 = σ 36 0 0 640 + 1 ∧ True)) (ln := 646) zk_155_101 rfl rfl (vd_36 (by omega)) (by omega) (by omega) (by omega) (fun σ' h => ⟨h.1.up (by simp only [rgP] <;> omega) (by first | exact pMLa rfl | (unfold MLa; omega)), gf_mk (fun z => Eo z (Int.toNat (σ 36 0 0 640)) (σ 44 0 0)) (up_row (by omega)) (h.2.2.1), gf_mk (fun z => Er z (Int.toNat (σ 36 0 0 640)) (σ 45 0 0)) (up_row (by omega)) (h.2.2.2.1), (up_ne (by omega)).trans (h.2.2.2.2.1), gf_mk (fun z => okcI z (Int.toNat (120 * (σ 36 0 0 640))) (Int.toNat y14) (y13 = -1)) (up_row (by omega)) (h.2.2.2.2.2.1), (up_ne (by omega)).trans (h.2.2.2.2.2.2.1), up_eq, trivial⟩) (pc' := 102) rfl ?_
          refine G_know (J' := (fun σ' => IF MLa σ σ' ∧ Eo (σ' 44 0 0) (Int.toNat (σ 36 0 0 640)) (σ 44 0 0) ∧ Er (σ' 45 0 0) (Int.toNat (σ 36 0 0 640)) (σ 45 0 0) ∧ σ' 44 0 0 (Int.toNat (σ 36 0 0 640)) = y14 ∧ okcI (σ' 45 0 0) (Int.toNat (120 * (σ 36 0 0 640))) (Int.toNat y14) (y13 = -1) ∧ σ' 35 0 0 16 = y13 ∧ σ' 36 0 0 640 = σ 36 0 0 640 + 1 ∧ (WF σ') ∧ True)) (fun σ' h => ⟨h.1, h.2.1, h.2.2.1, h.2.2.2.1, h.2.2.2.2.1, h.2.2.2.2.2.1, h.2.2.2.2.2.2.1, WF_new hI hW (k := σ 36 0 0 640) rfl (h.2.2.2.2.2.2.1) (h.2.1) (h.2.2.1) (by rw [h.2.2.2.1]; exact (h.2.2.2.2.1) (by omega)), trivial⟩) ?_
          exact T_iret zk_155_102 rfl (fun σ' h => ⟨_, rfl, (by omega), h.1, ⟨h.2.2.2.2.2.2.2.1, trivial⟩⟩)
        · exfalso; omega
      ·
        refine T_ld zk_155_59 rfl rfl rfl (pc' := 60) rfl ?_
        refine T_op zk_155_60 rfl (X_bi (v := -6) (by decide)) (pc' := 62) rfl ?_
        refine T_calli (K := fun y19 σ' => (y19 = (-6)) ∧ (fun σ' => IF MLa σ σ' ∧ σ' 36 0 0 640 = σ 36 0 0 640 ∧ Eo (σ' 44 0 0) (Int.toNat (σ 36 0 0 640)) (σ 44 0 0) ∧ Er (σ' 45 0 0) (Int.toNat (σ 36 0 0 640)) (σ 45 0 0) ∧ σ' 44 0 0 (Int.toNat (σ 36 0 0 640)) = y14 ∧ okcI (σ' 45 0 0) (Int.toNat (120 * (σ 36 0 0 640))) (Int.toNat y14) (y13 = -1) ∧ σ' 35 0 0 16 = y13 ∧ True) σ') (r := []) zk_155_62 rfl rfl rfl rfl rfl rfl (Or.inr ⟨_, _, _, _, rfl, vd_35, rfl⟩) (fun σ' h => (m_123 ((-6)) (by omega) σ' h.1.1 ).le (Nat.le_of_ble_eq_true rfl) (fun v σ2 ⟨y, h1, h2, h3, h4⟩ => ⟨y, h1, h2, h.1.tr h3 sb71_d492d80, (h3.2 _ _ _ _ (by first | exact nMT rfl | (unfold MT; omega))).trans (h.2.1), gf_mk (fun z => Eo z (Int.toNat (σ 36 0 0 640)) (σ 44 0 0)) (funext fun j => h3.2 _ _ _ _ (by first | exact nMT rfl | (unfold MT; omega))) (h.2.2.1), gf_mk (fun z => Er z (Int.toNat (σ 36 0 0 640)) (σ 45 0 0)) (funext fun j => h3.2 _ _ _ _ (by first | exact nMT rfl | (unfold MT; omega))) (h.2.2.2.1), (h3.2 _ _ _ _ (by first | exact nMT rfl | (unfold MT; omega))).trans (h.2.2.2.2.1), gf_mk (fun z => okcI z (Int.toNat (120 * (σ 36 0 0 640))) (Int.toNat y14) (y13 = -1)) (funext fun j => h3.2 _ _ _ _ (by first | exact nMT rfl | (unfold MT; omega))) (h.2.2.2.2.2.1), (h3.2 _ _ _ _ (by first | exact nMT rfl | (unfold MT; omega))).trans (h.2.2.2.2.2.2.1), trivial⟩)) (pc' := 65) rfl (fun y19 => ?_)
        refine G_ex (fun hy19 => ?_)
        obtain rfl : y19 = (-6) := by omega
        refine G_know (J' := (fun σ' => IF MLa σ σ' ∧ σ' 36 0 0 640 = σ 36 0 0 640 ∧ Eo (σ' 44 0 0) (Int.toNat (σ 36 0 0 640)) (σ 44 0 0) ∧ Er (σ' 45 0 0) (Int.toNat (σ 36 0 0 640)) (σ 45 0 0) ∧ σ' 44 0 0 (Int.toNat (σ 36 0 0 640)) = y14 ∧ okcI (σ' 45 0 0) (Int.toNat (120 * (σ 36 0 0 640))) (Int.toNat y14) (y13 = -1) ∧ σ' 35 0 0 16 = y13 ∧ (WF σ') ∧ True)) (fun σ' h => ⟨h.1, h.2.1, h.2.2.1, h.2.2.2.1, h.2.2.2.2.1, h.2.2.2.2.2.1, h.2.2.2.2.2.2.1, WF_keep hI hW (k := σ 36 0 0 640) (by omega) (h.2.1) (h.2.2.1) (h.2.2.2.1), trivial⟩) ?_
        exact T_iret zk_155_65 rfl (fun σ' h => ⟨_, rfl, (by omega), h.1, ⟨h.2.2.2.2.2.2.2.1, trivial⟩⟩)
  ·
    refine T_ld zk_155_10 rfl rfl rfl (pc' := 11) rfl ?_
    refine T_ld zk_155_11 rfl rfl rfl (pc' := 12) rfl ?_
    refine T_calli (K := fun y20 σ' => (y20 = y1) ∧ (fun σ' => IF MLa σ σ' ∧ Eq (σ' 44 0 0) (σ 44 0 0) ∧ Eq (σ' 45 0 0) (σ 45 0 0) ∧ σ' 36 0 0 640 = σ 36 0 0 640 ∧ True) σ') (r := []) zk_155_12 rfl rfl rfl rfl rfl rfl (Or.inr ⟨_, _, _, _, rfl, vd_35, rfl⟩) (fun σ' h => (m_123 y1 (by omega) σ' h.1.1 ).le (Nat.le_of_ble_eq_true rfl) (fun v σ2 ⟨y, h1, h2, h3, h4⟩ => ⟨y, h1, h2, h.1.tr h3 sb71_d492d80, gf_mk (fun z => Eq z (σ 44 0 0)) (funext fun j => h3.2 _ _ _ _ (by first | exact nMT rfl | (unfold MT; omega))) (h.2.1), gf_mk (fun z => Eq z (σ 45 0 0)) (funext fun j => h3.2 _ _ _ _ (by first | exact nMT rfl | (unfold MT; omega))) (h.2.2.1), (h3.2 _ _ _ _ (by first | exact nMT rfl | (unfold MT; omega))).trans (h.2.2.2.1), trivial⟩)) (pc' := 15) rfl (fun y20 => ?_)
    refine G_ex (fun hy20 => ?_)
    obtain rfl : y20 = y1 := by omega
    refine G_know (J' := (fun σ' => IF MLa σ σ' ∧ Eq (σ' 44 0 0) (σ 44 0 0) ∧ Eq (σ' 45 0 0) (σ 45 0 0) ∧ σ' 36 0 0 640 = σ 36 0 0 640 ∧ (WF σ') ∧ True)) (fun σ' h => ⟨h.1, h.2.1, h.2.2.1, h.2.2.2.1, hW.fr (fun j => congrFun (h.2.1) j) (fun j => congrFun (h.2.2.1) j) (h.2.2.2.1), trivial⟩) ?_
    exact T_iret zk_155_15 rfl (fun σ' h => ⟨_, rfl, (by omega), h.1, ⟨h.2.2.2.2.1, trivial⟩⟩)
