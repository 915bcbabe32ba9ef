/-- WModel.sea -/
theorem r_144_1 {xs : Nat × (Nat → Int32)} (p0 : Int) (u0 : Int) (u1 : Int) (u2 : Int) (n : Int) (F G : Nat → Int) (hp0 : 0 ≤ p0 ∧ p0 ≤ 7) (hu0 : 0 ≤ u0 ∧ u0 ≤ 2) (hu1 : 0 ≤ u1 ∧ u1 ≤ 3) (hu2 : 0 ≤ u2 ∧ u2 ≤ 96) (hn : 0 ≤ n ∧ n ≤ 96) (σ : ZS) (hI : Inv σ)  (s0 : σ 37 0 0 (Int.toNat p0) = u0) (s1 : σ 38 0 0 (Int.toNat p0) = u1) (s2 : σ 39 0 0 (Int.toNat p0) = u2) (sn : σ 36 0 0 636 = n) (rf : eqo (Int.toNat (96 * p0)) F (σ 41 0 0) 96) (rg : eqo 352 G (σ 36 0 0) 96) : CT xs 3 144 [av 35 0 0, iv p0, iv 1] σ (fun v σ' => ∃ y, v = some (iv y) ∧ ((y = -2 ∧ (u0 = 2)) ∨ (y = -3 ∧ ¬ (u0 = 2) ∧ (u0 = 0)) ∨ (y = u2 ∧ ¬ (u0 = 2) ∧ ¬ (u0 = 0))) ∧ IF (MK 352 448 636 637) σ σ' ∧ (((0 ≤ y → σ' 36 0 0 636 = u2) ∧ (y < 0 → σ' 36 0 0 636 = n)) ∧ rco 352 96 (σ' 36 0 0) y (fhv F G u1 (Int.toNat u2)) G ∧ True)) := by
  refine G_ct (J := (fun σ' => IF (MK 352 448 636 637) σ σ' ∧ σ' 36 0 0 636 = n ∧ eqo (Int.toNat (96 * p0)) F (σ' 41 0 0) 96 ∧ eqo 352 G (σ' 36 0 0) 96 ∧ True)) (L := [(0, av 35 0 0), (1, iv p0), (2, iv 1)]) (nL := 10) rfl rfl rfl ⟨IF.rf hI, sn, rf, rg, trivial⟩ ?_
  refine T_ld zk_144_0 rfl rfl rfl (pc' := 1) rfl ?_
  refine T_ld zk_144_1 rfl rfl rfl (pc' := 2) rfl ?_
  refine T_calli (K := fun y1 σ' => ((y1 = -2 ∧ (u0 = 2)) ∨ (y1 = -3 ∧ ¬ (u0 = 2) ∧ (u0 = 0)) ∨ (y1 = 0 ∧ ¬ (u0 = 2) ∧ ¬ (u0 = 0))) ∧ (fun σ' => IF (MK 352 448 636 637) σ σ' ∧ σ' 36 0 0 636 = n ∧ eqo (Int.toNat (96 * p0)) F (σ' 41 0 0) 96 ∧ eqo 352 G (σ' 36 0 0) 96 ∧ True) σ') (r := []) zk_144_2 rfl rfl rfl rfl rfl rfl (Or.inr ⟨_, _, _, _, rfl, vd_35, rfl⟩) (fun σ' h => (r_143 p0 u0 (by omega) (by omega) σ' h.1.1 ((h.1.2 _ _ _ _ (by first | exact nMK rfl | (unfold MK; omega))).trans s0)).le (Nat.le_of_ble_eq_true rfl) (fun v σ2 ⟨y, h1, h2, h3, h4⟩ => ⟨y, h1, h2, h.1.tr h3 MN_sub, (h3.2 _ _ _ _ (fun q => q)).trans (h.2.1), gf_mk (fun z => eqo (Int.toNat (96 * p0)) F z 96) (funext fun j => h3.2 _ _ _ _ (fun q => q)) (h.2.2.1), gf_mk (fun z => eqo 352 G z 96) (funext fun j => h3.2 _ _ _ _ (fun q => q)) (h.2.2.2.1), trivial⟩)) (pc' := 5) rfl (fun y1 => ?_)
  refine G_ex (fun hy1 => ?_)
  refine T_st (L' := [(0, av 35 0 0), (1, iv p0), (2, iv 1), (3, iv y1)]) zk_144_5 (nL := 10) rfl rfl rfl rfl rfl (pc' := 6) rfl ?_
  refine T_ld zk_144_6 rfl rfl rfl (pc' := 7) rfl ?_
  refine T_if_eq zk_144_7 (by omega) (pc' := 10) rfl (fun h2 => ?_) (fun h3 => ?_)
  ·
    refine T_ld zk_144_16 rfl rfl rfl (pc' := 17) rfl ?_
    refine T_if_eq zk_144_17 (by omega) (pc' := 20) rfl (fun h4 => ?_) (fun h5 => ?_)
    · exfalso; omega
    ·
      refine T_op zk_144_20 rfl (X_si (v := 352) (by decide)) (pc' := 23) rfl ?_
      refine T_goto zk_144_23 ?_
      refine T_st (L' := [(0, av 35 0 0), (1, iv p0), (2, iv 1), (3, iv y1), (4, iv 352)]) zk_144_29 (nL := 10) rfl rfl rfl rfl rfl (pc' := 31) rfl ?_
      refine T_ld zk_144_31 rfl rfl rfl (pc' := 32) rfl ?_
      refine T_getR (t' := 36) (i' := 0) (k' := 0) zk_144_32 rfl rfl rfl vd_35 (pc' := 35) rfl ?_
      refine T_ld zk_144_35 rfl rfl rfl (pc' := 36) rfl ?_
      refine T_if_eq zk_144_36 (by omega) (pc' := 39) rfl (fun h6 => ?_) (fun h7 => ?_)
      · exfalso; omega
      ·
        refine T_op zk_144_39 rfl (X_si (v := 636) (by decide)) (pc' := 42) rfl ?_
        refine T_goto zk_144_42 ?_
        refine T_ld zk_144_48 rfl rfl rfl (pc' := 49) rfl ?_
        refine T_getR (t' := 39) (i' := 0) (k' := 0) zk_144_49 rfl rfl rfl vd_35 (pc' := 52) rfl ?_
        refine T_ld zk_144_52 rfl rfl rfl (pc' := 53) rfl ?_
        refine G_ialdX (w := u2) (ln := 8) zk_144_53 rfl rfl vd_39 (by omega) (by omega) (by omega) (fun σ' h => (h.1.2 _ _ _ _ (by first | exact nMK rfl | (unfold MK; omega))).trans s2) (pc' := 54) rfl ?_
        refine G_iast (J' := (fun σ' => IF (MK 352 448 636 637) σ σ' ∧ eqo (Int.toNat (96 * p0)) F (σ' 41 0 0) 96 ∧ eqo 352 G (σ' 36 0 0) 96 ∧ σ' 36 0 0 636 = u2 ∧ True)) (ln := 646) zk_144_54 rfl rfl (vd_36 (by omega)) (by omega) (by omega) (by omega) (fun σ' h => ⟨h.1.up (by simp only [rgP] <;> omega) (by first | exact pMK rfl | (unfold MK; omega)), gf_mk (fun z => eqo (Int.toNat (96 * p0)) F z 96) (up_row (by omega)) (h.2.2.1), eqo_out (h.2.2.2.1) (by omega), up_eq, trivial⟩) (pc' := 55) rfl ?_
        refine T_op zk_144_55 rfl X_ic (pc' := 56) rfl ?_
        refine T_st (L' := [(0, av 35 0 0), (1, iv p0), (2, iv 1), (3, iv y1), (4, iv 352), (5, iv 0)]) zk_144_56 (nL := 10) rfl rfl rfl rfl rfl (pc' := 58) rfl ?_
        refine G_know (J' := (fun σ' => IF (MK 352 448 636 637) σ σ' ∧ eqo (Int.toNat (96 * p0)) F (σ' 41 0 0) 96 ∧ σ' 36 0 0 636 = u2 ∧ eqo 352 (fhv F G u1 (Int.toNat 0)) (σ' 36 0 0) 96 ∧ True)) (fun σ' h => ⟨h.1, h.2.1, h.2.2.2.1, (by rw [show (Int.toNat 0) = 0 from rfl, fhv_0]; exact h.2.2.1), trivial⟩) ?_
        refine T_loop1 (fun x8 => ((96 - x8 : Int)).toNat) (fun x8 => (0 ≤ x8 ∧ x8 ≤ 96) ∧ x8 ≤ u2) (fun x8 => TJ xs (fun σ' => IF (MK 352 448 636 637) σ σ' ∧ eqo (Int.toNat (96 * p0)) F (σ' 41 0 0) 96 ∧ σ' 36 0 0 636 = u2 ∧ eqo 352 (fhv F G u1 (Int.toNat x8)) (σ' 36 0 0) 96 ∧ True) 2 144 58 [(0, av 35 0 0), (1, iv p0), (2, iv 1), (3, iv y1), (4, iv 352), (5, iv x8)] [] _) ?_ 0 (by omega)
        intro x8 hp10 ih9
        have hh := hv_spec u1 (F (Int.toNat x8))
        refine T_ld zk_144_58 rfl rfl rfl (pc' := 60) rfl ?_
        refine T_ld zk_144_60 rfl rfl rfl (pc' := 61) rfl ?_
        refine T_getR (t' := 39) (i' := 0) (k' := 0) zk_144_61 rfl rfl rfl vd_35 (pc' := 64) rfl ?_
        refine T_ld zk_144_64 rfl rfl rfl (pc' := 65) rfl ?_
        refine G_ialdX (w := u2) (ln := 8) zk_144_65 rfl rfl vd_39 (by omega) (by omega) (by omega) (fun σ' h => (h.1.2 _ _ _ _ (by first | exact nMK rfl | (unfold MK; omega))).trans s2) (pc' := 66) rfl ?_
        refine T_icmp_ge zk_144_66 (by omega) (by omega) (pc' := 69) rfl (fun h11 => ?_) (fun h12 => ?_)
        ·
          refine T_ld zk_144_207 rfl rfl rfl (pc' := 208) rfl ?_
          refine T_getR (t' := 39) (i' := 0) (k' := 0) zk_144_208 rfl rfl rfl vd_35 (pc' := 211) rfl ?_
          refine T_ld zk_144_211 rfl rfl rfl (pc' := 212) rfl ?_
          refine G_ialdX (w := u2) (ln := 8) zk_144_212 rfl rfl vd_39 (by omega) (by omega) (by omega) (fun σ' h => (h.1.2 _ _ _ _ (by first | exact nMK rfl | (unfold MK; omega))).trans s2) (pc' := 213) rfl ?_
          exact T_iret zk_144_213 rfl (fun σ' h => ⟨_, rfl, (by omega), h.1, ⟨(by have e := h.2.2.1; omega), ⟨fun _ => (by rw [show Int.toNat u2 = (Int.toNat x8) from by omega]; exact h.2.2.2.1), fun q => by exfalso; omega⟩, trivial⟩⟩)
        ·
          refine T_ld zk_144_69 rfl rfl rfl (pc' := 70) rfl ?_
          refine T_getR (t' := 41) (i' := 0) (k' := 0) zk_144_70 rfl rfl rfl vd_35 (pc' := 73) rfl ?_
          refine T_op zk_144_73 rfl (X_bi (v := 96) (by decide)) (pc' := 75) rfl ?_
          refine T_ld zk_144_75 rfl rfl rfl (pc' := 76) rfl ?_
          refine T_op zk_144_76 rfl X_mul (pc' := 77) rfl ?_
          refine T_ld zk_144_77 rfl rfl rfl (pc' := 79) rfl ?_
          refine T_op zk_144_79 rfl X_add (pc' := 80) rfl ?_
          refine G_laldX (w := F (Int.toNat x8)) (ln := 768) zk_144_80 rfl rfl vd_41 (by omega) (by omega) (by omega) (fun σ' h => (congrArg (σ' 41 0 0) (show Int.toNat (96 * p0 + x8) = Int.toNat (96 * p0) + Int.toNat x8 from by omega)).trans (h.2.1 _ (by omega))) (pc' := 81) rfl ?_
          refine T_st (L' := [(0, av 35 0 0), (1, iv p0), (2, iv 1), (3, iv y1), (4, iv 352), (5, iv x8), (6, jv (F (Int.toNat x8)))]) zk_144_81 (nL := 10) rfl rfl rfl rfl rfl (pc' := 83) rfl ?_
          refine T_ld zk_144_83 rfl rfl rfl (pc' := 85) rfl ?_
          refine T_ld zk_144_85 rfl rfl rfl (pc' := 86) rfl ?_
          refine T_getR (t' := 38) (i' := 0) (k' := 0) zk_144_86 rfl rfl rfl vd_35 (pc' := 89) rfl ?_
          refine T_ld zk_144_89 rfl rfl rfl (pc' := 90) rfl ?_
          refine G_ialdX (w := u1) (ln := 8) zk_144_90 rfl rfl vd_38 (by omega) (by omega) (by omega) (fun σ' h => (h.1.2 _ _ _ _ (by first | exact nMK rfl | (unfold MK; omega))).trans s1) (pc' := 91) rfl ?_
          refine T_if_ne zk_144_91 (by omega) (pc' := 94) rfl (fun h13 => ?_) (fun h14 => ?_)
          ·
            refine T_ld zk_144_100 rfl rfl rfl (pc' := 101) rfl ?_
            refine T_getR (t' := 38) (i' := 0) (k' := 0) zk_144_101 rfl rfl rfl vd_35 (pc' := 104) rfl ?_
            refine T_ld zk_144_104 rfl rfl rfl (pc' := 105) rfl ?_
            refine G_ialdX (w := u1) (ln := 8) zk_144_105 rfl rfl vd_38 (by omega) (by omega) (by omega) (fun σ' h => (h.1.2 _ _ _ _ (by first | exact nMK rfl | (unfold MK; omega))).trans s1) (pc' := 106) rfl ?_
            refine T_op zk_144_106 rfl X_ic (pc' := 107) rfl ?_
            refine T_icmp_ne zk_144_107 (by omega) (by omega) (pc' := 110) rfl (fun h15 => ?_) (fun h16 => ?_)
            ·
              refine T_ld zk_144_116 rfl rfl rfl (pc' := 117) rfl ?_
              refine T_getR (t' := 38) (i' := 0) (k' := 0) zk_144_117 rfl rfl rfl vd_35 (pc' := 120) rfl ?_
              refine T_ld zk_144_120 rfl rfl rfl (pc' := 121) rfl ?_
              refine G_ialdX (w := u1) (ln := 8) zk_144_121 rfl rfl vd_38 (by omega) (by omega) (by omega) (fun σ' h => (h.1.2 _ _ _ _ (by first | exact nMK rfl | (unfold MK; omega))).trans s1) (pc' := 122) rfl ?_
              refine T_op zk_144_122 rfl X_ic (pc' := 123) rfl ?_
              refine T_icmp_ne zk_144_123 (by omega) (by omega) (pc' := 126) rfl (fun h17 => ?_) (fun h18 => ?_)
              ·
                refine T_ldc2 zk_144_132 (pc' := 135) rfl ?_
                refine T_lcmp zk_144_135 (fun y19 hy19 hy19' ey19 => ?_)
                have emy19 := (ey19).trans (mz_iff (s := u1) (v := F (Int.toNat x8)) (c := (-9223372036854775808)) (by unfold mk; repeat' (first | omega | split)))
                have eoy19 := mz_01 u1 (F (Int.toNat x8))
                refine T_if_ne zk_144_136 (by omega) (pc' := 139) rfl (fun h20 => ?_) (fun h21 => ?_)
                ·
                  refine T_op zk_144_143 rfl X_ic (pc' := 144) rfl ?_
                  refine T_st (L' := [(0, av 35 0 0), (1, iv p0), (2, iv 1), (3, iv y1), (4, iv 352), (5, iv x8), (6, jv (F (Int.toNat x8))), (8, iv 0)]) zk_144_144 (nL := 10) rfl rfl rfl rfl rfl (pc' := 146) rfl ?_
                  refine T_ld zk_144_146 rfl rfl rfl (pc' := 148) rfl ?_
                  refine T_l2iX zk_144_148 (fun hl22 hl22' => ?_)
                  refine T_st (L' := [(0, av 35 0 0), (1, iv p0), (2, iv 1), (3, iv y1), (4, iv 352), (5, iv x8), (6, jv (F (Int.toNat x8))), (8, iv 0), (9, iv (L2I (F (Int.toNat x8))))]) zk_144_149 (nL := 10) rfl rfl rfl rfl rfl (pc' := 151) rfl ?_
                  refine T_ld zk_144_151 rfl rfl rfl (pc' := 152) rfl ?_
                  refine T_getR (t' := 36) (i' := 0) (k' := 0) zk_144_152 rfl rfl rfl vd_35 (pc' := 155) rfl ?_
                  refine T_ld zk_144_155 rfl rfl rfl (pc' := 157) rfl ?_
                  refine T_ld zk_144_157 rfl rfl rfl (pc' := 159) rfl ?_
                  refine T_op zk_144_159 rfl X_add (pc' := 160) rfl ?_
                  refine T_ld zk_144_160 rfl rfl rfl (pc' := 162) rfl ?_
                  refine T_if_eq zk_144_162 (by omega) (pc' := 165) rfl (fun h23 => ?_) (fun h24 => ?_)
                  ·
                    refine T_ld zk_144_170 rfl rfl rfl (pc' := 172) rfl ?_
                    refine T_op zk_144_172 rfl (X_si (v := -300) (by decide)) (pc' := 175) rfl ?_
                    refine T_icmp_ge zk_144_175 (by omega) (by omega) (pc' := 178) rfl (fun h25 => ?_) (fun h26 => ?_)
                    ·
                      refine T_ld zk_144_184 rfl rfl rfl (pc' := 186) rfl ?_
                      refine T_op zk_144_186 rfl (X_si (v := 300) (by decide)) (pc' := 189) rfl ?_
                      refine T_icmp_le zk_144_189 (by omega) (by omega) (pc' := 192) rfl (fun h27 => ?_) (fun h28 => ?_)
                      ·
                        refine T_ld zk_144_198 rfl rfl rfl (pc' := 200) rfl ?_
                        refine G_iast (J' := (fun σ' => IF (MK 352 448 636 637) σ σ' ∧ eqo (Int.toNat (96 * p0)) F (σ' 41 0 0) 96 ∧ σ' 36 0 0 636 = u2 ∧ eqo 352 (fhv F G u1 (Int.toNat (x8 + 1))) (σ' 36 0 0) 96 ∧ σ' 36 0 0 (Int.toNat (352 + x8)) = L2I (F (Int.toNat x8)) ∧ True)) (ln := 646) zk_144_200 rfl rfl (vd_36 (by omega)) (by omega) (by omega) (by omega) (fun σ' h => ⟨h.1.up (by simp only [rgP] <;> omega) (by first | exact pMK rfl | (unfold MK; omega)), gf_mk (fun z => eqo (Int.toNat (96 * p0)) F z 96) (up_row (by omega)) (h.2.1), (up_ne (by omega)).trans (h.2.2.1), fho_push (h.2.2.2.1) (by omega) (by omega) (by omega), up_eq, trivial⟩) (pc' := 201) rfl ?_
                        refine T_iinc (L' := [(0, av 35 0 0), (1, iv p0), (2, iv 1), (3, iv y1), (4, iv 352), (5, iv (x8 + 1)), (6, jv (F (Int.toNat x8))), (8, iv 0), (9, iv (L2I (F (Int.toNat x8))))]) zk_144_201 (nL := 10) rfl rfl rfl rfl (pc' := 204) rfl ?_
                        refine T_goto zk_144_204 ?_
                        refine G_know (J' := (fun σ' => IF (MK 352 448 636 637) σ σ' ∧ eqo (Int.toNat (96 * p0)) F (σ' 41 0 0) 96 ∧ σ' 36 0 0 636 = u2 ∧ eqo 352 (fhv F G u1 (Int.toNat (x8 + 1))) (σ' 36 0 0) 96 ∧ True)) (fun σ' h => ⟨h.1, h.2.1, h.2.2.1, h.2.2.2.1, trivial⟩) ?_
                        refine T_loc (L := [(0, av 35 0 0), (1, iv p0), (2, iv 1), (3, iv y1), (4, iv 352), (5, iv (x8 + 1))]) (E := [(6, jv (F (Int.toNat x8))), (8, iv 0), (9, iv (L2I (F (Int.toNat x8))))]) rfl ?_
                        exact ih9 (x8 + 1) (by omega) (by omega)
                      ·
                        refine T_op zk_144_192 rfl (X_si (v := 300) (by decide)) (pc' := 195) rfl ?_
                        refine T_goto zk_144_195 ?_
                        refine G_iast (J' := (fun σ' => IF (MK 352 448 636 637) σ σ' ∧ eqo (Int.toNat (96 * p0)) F (σ' 41 0 0) 96 ∧ σ' 36 0 0 636 = u2 ∧ eqo 352 (fhv F G u1 (Int.toNat (x8 + 1))) (σ' 36 0 0) 96 ∧ σ' 36 0 0 (Int.toNat (352 + x8)) = 300 ∧ True)) (ln := 646) zk_144_200 rfl rfl (vd_36 (by omega)) (by omega) (by omega) (by omega) (fun σ' h => ⟨h.1.up (by simp only [rgP] <;> omega) (by first | exact pMK rfl | (unfold MK; omega)), gf_mk (fun z => eqo (Int.toNat (96 * p0)) F z 96) (up_row (by omega)) (h.2.1), (up_ne (by omega)).trans (h.2.2.1), fho_push (h.2.2.2.1) (by omega) (by omega) (by omega), up_eq, trivial⟩) (pc' := 201) rfl ?_
                        refine T_iinc (L' := [(0, av 35 0 0), (1, iv p0), (2, iv 1), (3, iv y1), (4, iv 352), (5, iv (x8 + 1)), (6, jv (F (Int.toNat x8))), (8, iv 0), (9, iv (L2I (F (Int.toNat x8))))]) zk_144_201 (nL := 10) rfl rfl rfl rfl (pc' := 204) rfl ?_
                        refine T_goto zk_144_204 ?_
                        refine G_know (J' := (fun σ' => IF (MK 352 448 636 637) σ σ' ∧ eqo (Int.toNat (96 * p0)) F (σ' 41 0 0) 96 ∧ σ' 36 0 0 636 = u2 ∧ eqo 352 (fhv F G u1 (Int.toNat (x8 + 1))) (σ' 36 0 0) 96 ∧ True)) (fun σ' h => ⟨h.1, h.2.1, h.2.2.1, h.2.2.2.1, trivial⟩) ?_
                        refine T_loc (L := [(0, av 35 0 0), (1, iv p0), (2, iv 1), (3, iv y1), (4, iv 352), (5, iv (x8 + 1))]) (E := [(6, jv (F (Int.toNat x8))), (8, iv 0), (9, iv (L2I (F (Int.toNat x8))))]) rfl ?_
                        exact ih9 (x8 + 1) (by omega) (by omega)
                    ·
                      refine T_op zk_144_178 rfl (X_si (v := -300) (by decide)) (pc' := 181) rfl ?_
                      refine T_goto zk_144_181 ?_
                      refine G_iast (J' := (fun σ' => IF (MK 352 448 636 637) σ σ' ∧ eqo (Int.toNat (96 * p0)) F (σ' 41 0 0) 96 ∧ σ' 36 0 0 636 = u2 ∧ eqo 352 (fhv F G u1 (Int.toNat (x8 + 1))) (σ' 36 0 0) 96 ∧ σ' 36 0 0 (Int.toNat (352 + x8)) = (-300) ∧ True)) (ln := 646) zk_144_200 rfl rfl (vd_36 (by omega)) (by omega) (by omega) (by omega) (fun σ' h => ⟨h.1.up (by simp only [rgP] <;> omega) (by first | exact pMK rfl | (unfold MK; omega)), gf_mk (fun z => eqo (Int.toNat (96 * p0)) F z 96) (up_row (by omega)) (h.2.1), (up_ne (by omega)).trans (h.2.2.1), fho_push (h.2.2.2.1) (by omega) (by omega) (by omega), up_eq, trivial⟩) (pc' := 201) rfl ?_
                      refine T_iinc (L' := [(0, av 35 0 0), (1, iv p0), (2, iv 1), (3, iv y1), (4, iv 352), (5, iv (x8 + 1)), (6, jv (F (Int.toNat x8))), (8, iv 0), (9, iv (L2I (F (Int.toNat x8))))]) zk_144_201 (nL := 10) rfl rfl rfl rfl (pc' := 204) rfl ?_
                      refine T_goto zk_144_204 ?_
                      refine G_know (J' := (fun σ' => IF (MK 352 448 636 637) σ σ' ∧ eqo (Int.toNat (96 * p0)) F (σ' 41 0 0) 96 ∧ σ' 36 0 0 636 = u2 ∧ eqo 352 (fhv F G u1 (Int.toNat (x8 + 1))) (σ' 36 0 0) 96 ∧ True)) (fun σ' h => ⟨h.1, h.2.1, h.2.2.1, h.2.2.2.1, trivial⟩) ?_
                      refine T_loc (L := [(0, av 35 0 0), (1, iv p0), (2, iv 1), (3, iv y1), (4, iv 352), (5, iv (x8 + 1))]) (E := [(6, jv (F (Int.toNat x8))), (8, iv 0), (9, iv (L2I (F (Int.toNat x8))))]) rfl ?_
                      exact ih9 (x8 + 1) (by omega) (by omega)
                  · exfalso; omega
                ·
                  refine T_op zk_144_139 rfl X_ic (pc' := 140) rfl ?_
                  refine T_goto zk_144_140 ?_
                  refine T_st (L' := [(0, av 35 0 0), (1, iv p0), (2, iv 1), (3, iv y1), (4, iv 352), (5, iv x8), (6, jv (F (Int.toNat x8))), (8, iv 1)]) zk_144_144 (nL := 10) rfl rfl rfl rfl rfl (pc' := 146) rfl ?_
                  refine T_ld zk_144_146 rfl rfl rfl (pc' := 148) rfl ?_
                  refine T_l2iX zk_144_148 (fun hl29 hl29' => ?_)
                  refine T_st (L' := [(0, av 35 0 0), (1, iv p0), (2, iv 1), (3, iv y1), (4, iv 352), (5, iv x8), (6, jv (F (Int.toNat x8))), (8, iv 1), (9, iv (L2I (F (Int.toNat x8))))]) zk_144_149 (nL := 10) rfl rfl rfl rfl rfl (pc' := 151) rfl ?_
                  refine T_ld zk_144_151 rfl rfl rfl (pc' := 152) rfl ?_
                  refine T_getR (t' := 36) (i' := 0) (k' := 0) zk_144_152 rfl rfl rfl vd_35 (pc' := 155) rfl ?_
                  refine T_ld zk_144_155 rfl rfl rfl (pc' := 157) rfl ?_
                  refine T_ld zk_144_157 rfl rfl rfl (pc' := 159) rfl ?_
                  refine T_op zk_144_159 rfl X_add (pc' := 160) rfl ?_
                  refine T_ld zk_144_160 rfl rfl rfl (pc' := 162) rfl ?_
                  refine T_if_eq zk_144_162 (by omega) (pc' := 165) rfl (fun h30 => ?_) (fun h31 => ?_)
                  · exfalso; omega
                  ·
                    refine T_op zk_144_165 rfl (X_bi (v := 30) (by decide)) (pc' := 167) rfl ?_
                    refine T_goto zk_144_167 ?_
                    refine G_iast (J' := (fun σ' => IF (MK 352 448 636 637) σ σ' ∧ eqo (Int.toNat (96 * p0)) F (σ' 41 0 0) 96 ∧ σ' 36 0 0 636 = u2 ∧ eqo 352 (fhv F G u1 (Int.toNat (x8 + 1))) (σ' 36 0 0) 96 ∧ σ' 36 0 0 (Int.toNat (352 + x8)) = 30 ∧ True)) (ln := 646) zk_144_200 rfl rfl (vd_36 (by omega)) (by omega) (by omega) (by omega) (fun σ' h => ⟨h.1.up (by simp only [rgP] <;> omega) (by first | exact pMK rfl | (unfold MK; omega)), gf_mk (fun z => eqo (Int.toNat (96 * p0)) F z 96) (up_row (by omega)) (h.2.1), (up_ne (by omega)).trans (h.2.2.1), fho_push (h.2.2.2.1) (by omega) (by omega) (by omega), up_eq, trivial⟩) (pc' := 201) rfl ?_
                    refine T_iinc (L' := [(0, av 35 0 0), (1, iv p0), (2, iv 1), (3, iv y1), (4, iv 352), (5, iv (x8 + 1)), (6, jv (F (Int.toNat x8))), (8, iv 1), (9, iv (L2I (F (Int.toNat x8))))]) zk_144_201 (nL := 10) rfl rfl rfl rfl (pc' := 204) rfl ?_
                    refine T_goto zk_144_204 ?_
                    refine G_know (J' := (fun σ' => IF (MK 352 448 636 637) σ σ' ∧ eqo (Int.toNat (96 * p0)) F (σ' 41 0 0) 96 ∧ σ' 36 0 0 636 = u2 ∧ eqo 352 (fhv F G u1 (Int.toNat (x8 + 1))) (σ' 36 0 0) 96 ∧ True)) (fun σ' h => ⟨h.1, h.2.1, h.2.2.1, h.2.2.2.1, trivial⟩) ?_
                    refine T_loc (L := [(0, av 35 0 0), (1, iv p0), (2, iv 1), (3, iv y1), (4, iv 352), (5, iv (x8 + 1))]) (E := [(6, jv (F (Int.toNat x8))), (8, iv 1), (9, iv (L2I (F (Int.toNat x8))))]) rfl ?_
                    exact ih9 (x8 + 1) (by omega) (by omega)
              ·
                refine T_ldc2 zk_144_126 (pc' := 129) rfl ?_
                refine T_goto zk_144_129 ?_
                refine T_lcmp zk_144_135 (fun y32 hy32 hy32' ey32 => ?_)
                have emy32 := (ey32).trans (mz_iff (s := u1) (v := F (Int.toNat x8)) (c := (-2147483648)) (by unfold mk; repeat' (first | omega | split)))
                have eoy32 := mz_01 u1 (F (Int.toNat x8))
                refine T_if_ne zk_144_136 (by omega) (pc' := 139) rfl (fun h33 => ?_) (fun h34 => ?_)
                ·
                  refine T_op zk_144_143 rfl X_ic (pc' := 144) rfl ?_
                  refine T_st (L' := [(0, av 35 0 0), (1, iv p0), (2, iv 1), (3, iv y1), (4, iv 352), (5, iv x8), (6, jv (F (Int.toNat x8))), (8, iv 0)]) zk_144_144 (nL := 10) rfl rfl rfl rfl rfl (pc' := 146) rfl ?_
                  refine T_ld zk_144_146 rfl rfl rfl (pc' := 148) rfl ?_
                  refine T_l2iX zk_144_148 (fun hl35 hl35' => ?_)
                  refine T_st (L' := [(0, av 35 0 0), (1, iv p0), (2, iv 1), (3, iv y1), (4, iv 352), (5, iv x8), (6, jv (F (Int.toNat x8))), (8, iv 0), (9, iv (L2I (F (Int.toNat x8))))]) zk_144_149 (nL := 10) rfl rfl rfl rfl rfl (pc' := 151) rfl ?_
                  refine T_ld zk_144_151 rfl rfl rfl (pc' := 152) rfl ?_
                  refine T_getR (t' := 36) (i' := 0) (k' := 0) zk_144_152 rfl rfl rfl vd_35 (pc' := 155) rfl ?_
                  refine T_ld zk_144_155 rfl rfl rfl (pc' := 157) rfl ?_
                  refine T_ld zk_144_157 rfl rfl rfl (pc' := 159) rfl ?_
                  refine T_op zk_144_159 rfl X_add (pc' := 160) rfl ?_
                  refine T_ld zk_144_160 rfl rfl rfl (pc' := 162) rfl ?_
                  refine T_if_eq zk_144_162 (by omega) (pc' := 165) rfl (fun h36 => ?_) (fun h37 => ?_)
                  ·
                    refine T_ld zk_144_170 rfl rfl rfl (pc' := 172) rfl ?_
                    refine T_op zk_144_172 rfl (X_si (v := -300) (by decide)) (pc' := 175) rfl ?_
                    refine T_icmp_ge zk_144_175 (by omega) (by omega) (pc' := 178) rfl (fun h38 => ?_) (fun h39 => ?_)
                    ·
                      refine T_ld zk_144_184 rfl rfl rfl (pc' := 186) rfl ?_
                      refine T_op zk_144_186 rfl (X_si (v := 300) (by decide)) (pc' := 189) rfl ?_
                      refine T_icmp_le zk_144_189 (by omega) (by omega) (pc' := 192) rfl (fun h40 => ?_) (fun h41 => ?_)
                      ·
                        refine T_ld zk_144_198 rfl rfl rfl (pc' := 200) rfl ?_
                        refine G_iast (J' := (fun σ' => IF (MK 352 448 636 637) σ σ' ∧ eqo (Int.toNat (96 * p0)) F (σ' 41 0 0) 96 ∧ σ' 36 0 0 636 = u2 ∧ eqo 352 (fhv F G u1 (Int.toNat (x8 + 1))) (σ' 36 0 0) 96 ∧ σ' 36 0 0 (Int.toNat (352 + x8)) = L2I (F (Int.toNat x8)) ∧ True)) (ln := 646) zk_144_200 rfl rfl (vd_36 (by omega)) (by omega) (by omega) (by omega) (fun σ' h => ⟨h.1.up (by simp only [rgP] <;> omega) (by first | exact pMK rfl | (unfold MK; omega)), gf_mk (fun z => eqo (Int.toNat (96 * p0)) F z 96) (up_row (by omega)) (h.2.1), (up_ne (by omega)).trans (h.2.2.1), fho_push (h.2.2.2.1) (by omega) (by omega) (by omega), up_eq, trivial⟩) (pc' := 201) rfl ?_
                        refine T_iinc (L' := [(0, av 35 0 0), (1, iv p0), (2, iv 1), (3, iv y1), (4, iv 352), (5, iv (x8 + 1)), (6, jv (F (Int.toNat x8))), (8, iv 0), (9, iv (L2I (F (Int.toNat x8))))]) zk_144_201 (nL := 10) rfl rfl rfl rfl (pc' := 204) rfl ?_
                        refine T_goto zk_144_204 ?_
                        refine G_know (J' := (fun σ' => IF (MK 352 448 636 637) σ σ' ∧ eqo (Int.toNat (96 * p0)) F (σ' 41 0 0) 96 ∧ σ' 36 0 0 636 = u2 ∧ eqo 352 (fhv F G u1 (Int.toNat (x8 + 1))) (σ' 36 0 0) 96 ∧ True)) (fun σ' h => ⟨h.1, h.2.1, h.2.2.1, h.2.2.2.1, trivial⟩) ?_
                        refine T_loc (L := [(0, av 35 0 0), (1, iv p0), (2, iv 1), (3, iv y1), (4, iv 352), (5, iv (x8 + 1))]) (E := [(6, jv (F (Int.toNat x8))), (8, iv 0), (9, iv (L2I (F (Int.toNat x8))))]) rfl ?_
                        exact ih9 (x8 + 1) (by omega) (by omega)
                      ·
                        refine T_op zk_144_192 rfl (X_si (v := 300) (by decide)) (pc' := 195) rfl ?_
                        refine T_goto zk_144_195 ?_
                        refine G_iast (J' := (fun σ' => IF (MK 352 448 636 637) σ σ' ∧ eqo (Int.toNat (96 * p0)) F (σ' 41 0 0) 96 ∧ σ' 36 0 0 636 = u2 ∧ eqo 352 (fhv F G u1 (Int.toNat (x8 + 1))) (σ' 36 0 0) 96 ∧ σ' 36 0 0 (Int.toNat (352 + x8)) = 300 ∧ True)) (ln := 646) zk_144_200 rfl rfl (vd_36 (by omega)) (by omega) (by omega) (by omega) (fun σ' h => ⟨h.1.up (by simp only [rgP] <;> omega) (by first | exact pMK rfl | (unfold MK; omega)), gf_mk (fun z => eqo (Int.toNat (96 * p0)) F z 96) (up_row (by omega)) (h.2.1), (up_ne (by omega)).trans (h.2.2.1), fho_push (h.2.2.2.1) (by omega) (by omega) (by omega), up_eq, trivial⟩) (pc' := 201) rfl ?_
                        refine T_iinc (L' := [(0, av 35 0 0), (1, iv p0), (2, iv 1), (3, iv y1), (4, iv 352), (5, iv (x8 + 1)), (6, jv (F (Int.toNat x8))), (8, iv 0), (9, iv (L2I (F (Int.toNat x8))))]) zk_144_201 (nL := 10) rfl rfl rfl rfl (pc' := 204) rfl ?_
                        refine T_goto zk_144_204 ?_
                        refine G_know (J' := (fun σ' => IF (MK 352 448 636 637) σ σ' ∧ eqo (Int.toNat (96 * p0)) F (σ' 41 0 0) 96 ∧ σ' 36 0 0 636 = u2 ∧ eqo 352 (fhv F G u1 (Int.toNat (x8 + 1))) (σ' 36 0 0) 96 ∧ True)) (fun σ' h => ⟨h.1, h.2.1, h.2.2.1, h.2.2.2.1, trivial⟩) ?_
                        refine T_loc (L := [(0, av 35 0 0), (1, iv p0), (2, iv 1), (3, iv y1), (4, iv 352), (5, iv (x8 + 1))]) (E := [(6, jv (F (Int.toNat x8))), (8, iv 0), (9, iv (L2I (F (Int.toNat x8))))]) rfl ?_
                        exact ih9 (x8 + 1) (by omega) (by omega)
                    ·
                      refine T_op zk_144_178 rfl (X_si (v := -300) (by decide)) (pc' := 181) rfl ?_
                      refine T_goto zk_144_181 ?_
                      refine G_iast (J' := (fun σ' => IF (MK 352 448 636 637) σ σ' ∧ eqo (Int.toNat (96 * p0)) F (σ' 41 0 0) 96 ∧ σ' 36 0 0 636 = u2 ∧ eqo 352 (fhv F G u1 (Int.toNat (x8 + 1))) (σ' 36 0 0) 96 ∧ σ' 36 0 0 (Int.toNat (352 + x8)) = (-300) ∧ True)) (ln := 646) zk_144_200 rfl rfl (vd_36 (by omega)) (by omega) (by omega) (by omega) (fun σ' h => ⟨h.1.up (by simp only [rgP] <;> omega) (by first | exact pMK rfl | (unfold MK; omega)), gf_mk (fun z => eqo (Int.toNat (96 * p0)) F z 96) (up_row (by omega)) (h.2.1), (up_ne (by omega)).trans (h.2.2.1), fho_push (h.2.2.2.1) (by omega) (by omega) (by omega), up_eq, trivial⟩) (pc' := 201) rfl ?_
                      refine T_iinc (L' := [(0, av 35 0 0), (1, iv p0), (2, iv 1), (3, iv y1), (4, iv 352), (5, iv (x8 + 1)), (6, jv (F (Int.toNat x8))), (8, iv 0), (9, iv (L2I (F (Int.toNat x8))))]) zk_144_201 (nL := 10) rfl rfl rfl rfl (pc' := 204) rfl ?_
                      refine T_goto zk_144_204 ?_
                      refine G_know (J' := (fun σ' => IF (MK 352 448 636 637) σ σ' ∧ eqo (Int.toNat (96 * p0)) F (σ' 41 0 0) 96 ∧ σ' 36 0 0 636 = u2 ∧ eqo 352 (fhv F G u1 (Int.toNat (x8 + 1))) (σ' 36 0 0) 96 ∧ True)) (fun σ' h => ⟨h.1, h.2.1, h.2.2.1, h.2.2.2.1, trivial⟩) ?_
                      refine T_loc (L := [(0, av 35 0 0), (1, iv p0), (2, iv 1), (3, iv y1), (4, iv 352), (5, iv (x8 + 1))]) (E := [(6, jv (F (Int.toNat x8))), (8, iv 0), (9, iv (L2I (F (Int.toNat x8))))]) rfl ?_
                      exact ih9 (x8 + 1) (by omega) (by omega)
                  · exfalso; omega
                ·
                  refine T_op zk_144_139 rfl X_ic (pc' := 140) rfl ?_
                  refine T_goto zk_144_140 ?_
                  refine T_st (L' := [(0, av 35 0 0), (1, iv p0), (2, iv 1), (3, iv y1), (4, iv 352), (5, iv x8), (6, jv (F (Int.toNat x8))), (8, iv 1)]) zk_144_144 (nL := 10) rfl rfl rfl rfl rfl (pc' := 146) rfl ?_
                  refine T_ld zk_144_146 rfl rfl rfl (pc' := 148) rfl ?_
                  refine T_l2iX zk_144_148 (fun hl42 hl42' => ?_)
                  refine T_st (L' := [(0, av 35 0 0), (1, iv p0), (2, iv 1), (3, iv y1), (4, iv 352), (5, iv x8), (6, jv (F (Int.toNat x8))), (8, iv 1), (9, iv (L2I (F (Int.toNat x8))))]) zk_144_149 (nL := 10) rfl rfl rfl rfl rfl (pc' := 151) rfl ?_
                  refine T_ld zk_144_151 rfl rfl rfl (pc' := 152) rfl ?_
                  refine T_getR (t' := 36) (i' := 0) (k' := 0) zk_144_152 rfl rfl rfl vd_35 (pc' := 155) rfl ?_
                  refine T_ld zk_144_155 rfl rfl rfl (pc' := 157) rfl ?_
                  refine T_ld zk_144_157 rfl rfl rfl (pc' := 159) rfl ?_
                  refine T_op zk_144_159 rfl X_add (pc' := 160) rfl ?_
                  refine T_ld zk_144_160 rfl rfl rfl (pc' := 162) rfl ?_
                  refine T_if_eq zk_144_162 (by omega) (pc' := 165) rfl (fun h43 => ?_) (fun h44 => ?_)
                  · exfalso; omega
                  ·
                    refine T_op zk_144_165 rfl (X_bi (v := 30) (by decide)) (pc' := 167) rfl ?_
                    refine T_goto zk_144_167 ?_
                    refine G_iast (J' := (fun σ' => IF (MK 352 448 636 637) σ σ' ∧ eqo (Int.toNat (96 * p0)) F (σ' 41 0 0) 96 ∧ σ' 36 0 0 636 = u2 ∧ eqo 352 (fhv F G u1 (Int.toNat (x8 + 1))) (σ' 36 0 0) 96 ∧ σ' 36 0 0 (Int.toNat (352 + x8)) = 30 ∧ True)) (ln := 646) zk_144_200 rfl rfl (vd_36 (by omega)) (by omega) (by omega) (by omega) (fun σ' h => ⟨h.1.up (by simp only [rgP] <;> omega) (by first | exact pMK rfl | (unfold MK; omega)), gf_mk (fun z => eqo (Int.toNat (96 * p0)) F z 96) (up_row (by omega)) (h.2.1), (up_ne (by omega)).trans (h.2.2.1), fho_push (h.2.2.2.1) (by omega) (by omega) (by omega), up_eq, trivial⟩) (pc' := 201) rfl ?_
                    refine T_iinc (L' := [(0, av 35 0 0), (1, iv p0), (2, iv 1), (3, iv y1), (4, iv 352), (5, iv (x8 + 1)), (6, jv (F (Int.toNat x8))), (8, iv 1), (9, iv (L2I (F (Int.toNat x8))))]) zk_144_201 (nL := 10) rfl rfl rfl rfl (pc' := 204) rfl ?_
                    refine T_goto zk_144_204 ?_
                    refine G_know (J' := (fun σ' => IF (MK 352 448 636 637) σ σ' ∧ eqo (Int.toNat (96 * p0)) F (σ' 41 0 0) 96 ∧ σ' 36 0 0 636 = u2 ∧ eqo 352 (fhv F G u1 (Int.toNat (x8 + 1))) (σ' 36 0 0) 96 ∧ True)) (fun σ' h => ⟨h.1, h.2.1, h.2.2.1, h.2.2.2.1, trivial⟩) ?_
                    refine T_loc (L := [(0, av 35 0 0), (1, iv p0), (2, iv 1), (3, iv y1), (4, iv 352), (5, iv (x8 + 1))]) (E := [(6, jv (F (Int.toNat x8))), (8, iv 1), (9, iv (L2I (F (Int.toNat x8))))]) rfl ?_
                    exact ih9 (x8 + 1) (by omega) (by omega)
            ·
              refine T_ldc2 zk_144_110 (pc' := 113) rfl ?_
              refine T_goto zk_144_113 ?_
              refine T_lcmp zk_144_135 (fun y45 hy45 hy45' ey45 => ?_)
              have emy45 := (ey45).trans (mz_iff (s := u1) (v := F (Int.toNat x8)) (c := (-32768)) (by unfold mk; repeat' (first | omega | split)))
              have eoy45 := mz_01 u1 (F (Int.toNat x8))
              refine T_if_ne zk_144_136 (by omega) (pc' := 139) rfl (fun h46 => ?_) (fun h47 => ?_)
              ·
                refine T_op zk_144_143 rfl X_ic (pc' := 144) rfl ?_
                refine T_st (L' := [(0, av 35 0 0), (1, iv p0), (2, iv 1), (3, iv y1), (4, iv 352), (5, iv x8), (6, jv (F (Int.toNat x8))), (8, iv 0)]) zk_144_144 (nL := 10) rfl rfl rfl rfl rfl (pc' := 146) rfl ?_
                refine T_ld zk_144_146 rfl rfl rfl (pc' := 148) rfl ?_
                refine T_l2iX zk_144_148 (fun hl48 hl48' => ?_)
                refine T_st (L' := [(0, av 35 0 0), (1, iv p0), (2, iv 1), (3, iv y1), (4, iv 352), (5, iv x8), (6, jv (F (Int.toNat x8))), (8, iv 0), (9, iv (L2I (F (Int.toNat x8))))]) zk_144_149 (nL := 10) rfl rfl rfl rfl rfl (pc' := 151) rfl ?_
                refine T_ld zk_144_151 rfl rfl rfl (pc' := 152) rfl ?_
                refine T_getR (t' := 36) (i' := 0) (k' := 0) zk_144_152 rfl rfl rfl vd_35 (pc' := 155) rfl ?_
                refine T_ld zk_144_155 rfl rfl rfl (pc' := 157) rfl ?_
                refine T_ld zk_144_157 rfl rfl rfl (pc' := 159) rfl ?_
                refine T_op zk_144_159 rfl X_add (pc' := 160) rfl ?_
                refine T_ld zk_144_160 rfl rfl rfl (pc' := 162) rfl ?_
                refine T_if_eq zk_144_162 (by omega) (pc' := 165) rfl (fun h49 => ?_) (fun h50 => ?_)
                ·
                  refine T_ld zk_144_170 rfl rfl rfl (pc' := 172) rfl ?_
                  refine T_op zk_144_172 rfl (X_si (v := -300) (by decide)) (pc' := 175) rfl ?_
                  refine T_icmp_ge zk_144_175 (by omega) (by omega) (pc' := 178) rfl (fun h51 => ?_) (fun h52 => ?_)
                  ·
                    refine T_ld zk_144_184 rfl rfl rfl (pc' := 186) rfl ?_
                    refine T_op zk_144_186 rfl (X_si (v := 300) (by decide)) (pc' := 189) rfl ?_
                    refine T_icmp_le zk_144_189 (by omega) (by omega) (pc' := 192) rfl (fun h53 => ?_) (fun h54 => ?_)
                    ·
                      refine T_ld zk_144_198 rfl rfl rfl (pc' := 200) rfl ?_
                      refine G_iast (J' := (fun σ' => IF (MK 352 448 636 637) σ σ' ∧ eqo (Int.toNat (96 * p0)) F (σ' 41 0 0) 96 ∧ σ' 36 0 0 636 = u2 ∧ eqo 352 (fhv F G u1 (Int.toNat (x8 + 1))) (σ' 36 0 0) 96 ∧ σ' 36 0 0 (Int.toNat (352 + x8)) = L2I (F (Int.toNat x8)) ∧ True)) (ln := 646) zk_144_200 rfl rfl (vd_36 (by omega)) (by omega) (by omega) (by omega) (fun σ' h => ⟨h.1.up (by simp only [rgP] <;> omega) (by first | exact pMK rfl | (unfold MK; omega)), gf_mk (fun z => eqo (Int.toNat (96 * p0)) F z 96) (up_row (by omega)) (h.2.1), (up_ne (by omega)).trans (h.2.2.1), fho_push (h.2.2.2.1) (by omega) (by omega) (by omega), up_eq, trivial⟩) (pc' := 201) rfl ?_
                      refine T_iinc (L' := [(0, av 35 0 0), (1, iv p0), (2, iv 1), (3, iv y1), (4, iv 352), (5, iv (x8 + 1)), (6, jv (F (Int.toNat x8))), (8, iv 0), (9, iv (L2I (F (Int.toNat x8))))]) zk_144_201 (nL := 10) rfl rfl rfl rfl (pc' := 204) rfl ?_
                      refine T_goto zk_144_204 ?_
                      refine G_know (J' := (fun σ' => IF (MK 352 448 636 637) σ σ' ∧ eqo (Int.toNat (96 * p0)) F (σ' 41 0 0) 96 ∧ σ' 36 0 0 636 = u2 ∧ eqo 352 (fhv F G u1 (Int.toNat (x8 + 1))) (σ' 36 0 0) 96 ∧ True)) (fun σ' h => ⟨h.1, h.2.1, h.2.2.1, h.2.2.2.1, trivial⟩) ?_
                      refine T_loc (L := [(0, av 35 0 0), (1, iv p0), (2, iv 1), (3, iv y1), (4, iv 352), (5, iv (x8 + 1))]) (E := [(6, jv (F (Int.toNat x8))), (8, iv 0), (9, iv (L2I (F (Int.toNat x8))))]) rfl ?_
                      exact ih9 (x8 + 1) (by omega) (by omega)
                    ·
                      refine T_op zk_144_192 rfl (X_si (v := 300) (by decide)) (pc' := 195) rfl ?_
                      refine T_goto zk_144_195 ?_
                      refine G_iast (J' := (fun σ' => IF (MK 352 448 636 637) σ σ' ∧ eqo (Int.toNat (96 * p0)) F (σ' 41 0 0) 96 ∧ σ' 36 0 0 636 = u2 ∧ eqo 352 (fhv F G u1 (Int.toNat (x8 + 1))) (σ' 36 0 0) 96 ∧ σ' 36 0 0 (Int.toNat (352 + x8)) = 300 ∧ True)) (ln := 646) zk_144_200 rfl rfl (vd_36 (by omega)) (by omega) (by omega) (by omega) (fun σ' h => ⟨h.1.up (by simp only [rgP] <;> omega) (by first | exact pMK rfl | (unfold MK; omega)), gf_mk (fun z => eqo (Int.toNat (96 * p0)) F z 96) (up_row (by omega)) (h.2.1), (up_ne (by omega)).trans (h.2.2.1), fho_push (h.2.2.2.1) (by omega) (by omega) (by omega), up_eq, trivial⟩) (pc' := 201) rfl ?_
                      refine T_iinc (L' := [(0, av 35 0 0), (1, iv p0), (2, iv 1), (3, iv y1), (4, iv 352), (5, iv (x8 + 1)), (6, jv (F (Int.toNat x8))), (8, iv 0), (9, iv (L2I (F (Int.toNat x8))))]) zk_144_201 (nL := 10) rfl rfl rfl rfl (pc' := 204) rfl ?_
                      refine T_goto zk_144_204 ?_
                      refine G_know (J' := (fun σ' => IF (MK 352 448 636 637) σ σ' ∧ eqo (Int.toNat (96 * p0)) F (σ' 41 0 0) 96 ∧ σ' 36 0 0 636 = u2 ∧ eqo 352 (fhv F G u1 (Int.toNat (x8 + 1))) (σ' 36 0 0) 96 ∧ True)) (fun σ' h => ⟨h.1, h.2.1, h.2.2.1, h.2.2.2.1, trivial⟩) ?_
                      refine T_loc (L := [(0, av 35 0 0), (1, iv p0), (2, iv 1), (3, iv y1), (4, iv 352), (5, iv (x8 + 1))]) (E := [(6, jv (F (Int.toNat x8))), (8, iv 0), (9, iv (L2I (F (Int.toNat x8))))]) rfl ?_
                      exact ih9 (x8 + 1) (by omega) (by omega)
                  ·
                    refine T_op zk_144_178 rfl (X_si (v := -300) (by decide)) (pc' := 181) rfl ?_
                    refine T_goto zk_144_181 ?_
                    refine G_iast (J' := (fun σ' => IF (MK 352 448 636 637) σ σ' ∧ eqo (Int.toNat (96 * p0)) F (σ' 41 0 0) 96 ∧ σ' 36 0 0 636 = u2 ∧ eqo 352 (fhv F G u1 (Int.toNat (x8 + 1))) (σ' 36 0 0) 96 ∧ σ' 36 0 0 (Int.toNat (352 + x8)) = (-300) ∧ True)) (ln := 646) zk_144_200 rfl rfl (vd_36 (by omega)) (by omega) (by omega) (by omega) (fun σ' h => ⟨h.1.up (by simp only [rgP] <;> omega) (by first | exact pMK rfl | (unfold MK; omega)), gf_mk (fun z => eqo (Int.toNat (96 * p0)) F z 96) (up_row (by omega)) (h.2.1), (up_ne (by omega)).trans (h.2.2.1), fho_push (h.2.2.2.1) (by omega) (by omega) (by omega), up_eq, trivial⟩) (pc' := 201) rfl ?_
                    refine T_iinc (L' := [(0, av 35 0 0), (1, iv p0), (2, iv 1), (3, iv y1), (4, iv 352), (5, iv (x8 + 1)), (6, jv (F (Int.toNat x8))), (8, iv 0), (9, iv (L2I (F (Int.toNat x8))))]) zk_144_201 (nL := 10) rfl rfl rfl rfl (pc' := 204) rfl ?_
                    refine T_goto zk_144_204 ?_
                    refine G_know (J' := (fun σ' => IF (MK 352 448 636 637) σ σ' ∧ eqo (Int.toNat (96 * p0)) F (σ' 41 0 0) 96 ∧ σ' 36 0 0 636 = u2 ∧ eqo 352 (fhv F G u1 (Int.toNat (x8 + 1))) (σ' 36 0 0) 96 ∧ True)) (fun σ' h => ⟨h.1, h.2.1, h.2.2.1, h.2.2.2.1, trivial⟩) ?_
                    refine T_loc (L := [(0, av 35 0 0), (1, iv p0), (2, iv 1), (3, iv y1), (4, iv 352), (5, iv (x8 + 1))]) (E := [(6, jv (F (Int.toNat x8))), (8, iv 0), (9, iv (L2I (F (Int.toNat x8))))]) rfl ?_
                    exact ih9 (x8 + 1) (by omega) (by omega)
                · exfalso; omega
              ·
                refine T_op zk_144_139 rfl X_ic (pc' := 140) rfl ?_
                refine T_goto zk_144_140 ?_
                refine T_st (L' := [(0, av 35 0 0), (1, iv p0), (2, iv 1), (3, iv y1), (4, iv 352), (5, iv x8), (6, jv (F (Int.toNat x8))), (8, iv 1)]) zk_144_144 (nL := 10) rfl rfl rfl rfl rfl (pc' := 146) rfl ?_
                refine T_ld zk_144_146 rfl rfl rfl (pc' := 148) rfl ?_
                refine T_l2iX zk_144_148 (fun hl55 hl55' => ?_)
                refine T_st (L' := [(0, av 35 0 0), (1, iv p0), (2, iv 1), (3, iv y1), (4, iv 352), (5, iv x8), (6, jv (F (Int.toNat x8))), (8, iv 1), (9, iv (L2I (F (Int.toNat x8))))]) zk_144_149 (nL := 10) rfl rfl rfl rfl rfl (pc' := 151) rfl ?_
                refine T_ld zk_144_151 rfl rfl rfl (pc' := 152) rfl ?_
                refine T_getR (t' := 36) (i' := 0) (k' := 0) zk_144_152 rfl rfl rfl vd_35 (pc' := 155) rfl ?_
                refine T_ld zk_144_155 rfl rfl rfl (pc' := 157) rfl ?_
                refine T_ld zk_144_157 rfl rfl rfl (pc' := 159) rfl ?_
                refine T_op zk_144_159 rfl X_add (pc' := 160) rfl ?_
                refine T_ld zk_144_160 rfl rfl rfl (pc' := 162) rfl ?_
                refine T_if_eq zk_144_162 (by omega) (pc' := 165) rfl (fun h56 => ?_) (fun h57 => ?_)
                · exfalso; omega
                ·
                  refine T_op zk_144_165 rfl (X_bi (v := 30) (by decide)) (pc' := 167) rfl ?_
                  refine T_goto zk_144_167 ?_
                  refine G_iast (J' := (fun σ' => IF (MK 352 448 636 637) σ σ' ∧ eqo (Int.toNat (96 * p0)) F (σ' 41 0 0) 96 ∧ σ' 36 0 0 636 = u2 ∧ eqo 352 (fhv F G u1 (Int.toNat (x8 + 1))) (σ' 36 0 0) 96 ∧ σ' 36 0 0 (Int.toNat (352 + x8)) = 30 ∧ True)) (ln := 646) zk_144_200 rfl rfl (vd_36 (by omega)) (by omega) (by omega) (by omega) (fun σ' h => ⟨h.1.up (by simp only [rgP] <;> omega) (by first | exact pMK rfl | (unfold MK; omega)), gf_mk (fun z => eqo (Int.toNat (96 * p0)) F z 96) (up_row (by omega)) (h.2.1), (up_ne (by omega)).trans (h.2.2.1), fho_push (h.2.2.2.1) (by omega) (by omega) (by omega), up_eq, trivial⟩) (pc' := 201) rfl ?_
                  refine T_iinc (L' := [(0, av 35 0 0), (1, iv p0), (2, iv 1), (3, iv y1), (4, iv 352), (5, iv (x8 + 1)), (6, jv (F (Int.toNat x8))), (8, iv 1), (9, iv (L2I (F (Int.toNat x8))))]) zk_144_201 (nL := 10) rfl rfl rfl rfl (pc' := 204) rfl ?_
                  refine T_goto zk_144_204 ?_
                  refine G_know (J' := (fun σ' => IF (MK 352 448 636 637) σ σ' ∧ eqo (Int.toNat (96 * p0)) F (σ' 41 0 0) 96 ∧ σ' 36 0 0 636 = u2 ∧ eqo 352 (fhv F G u1 (Int.toNat (x8 + 1))) (σ' 36 0 0) 96 ∧ True)) (fun σ' h => ⟨h.1, h.2.1, h.2.2.1, h.2.2.2.1, trivial⟩) ?_
                  refine T_loc (L := [(0, av 35 0 0), (1, iv p0), (2, iv 1), (3, iv y1), (4, iv 352), (5, iv (x8 + 1))]) (E := [(6, jv (F (Int.toNat x8))), (8, iv 1), (9, iv (L2I (F (Int.toNat x8))))]) rfl ?_
                  exact ih9 (x8 + 1) (by omega) (by omega)
          ·
            refine T_ldc2 zk_144_94 (pc' := 97) rfl ?_
            refine T_goto zk_144_97 ?_
            refine T_lcmp zk_144_135 (fun y58 hy58 hy58' ey58 => ?_)
            have emy58 := (ey58).trans (mz_iff (s := u1) (v := F (Int.toNat x8)) (c := (-128)) (by unfold mk; repeat' (first | omega | split)))
            have eoy58 := mz_01 u1 (F (Int.toNat x8))
            refine T_if_ne zk_144_136 (by omega) (pc' := 139) rfl (fun h59 => ?_) (fun h60 => ?_)
            ·
              refine T_op zk_144_143 rfl X_ic (pc' := 144) rfl ?_
              refine T_st (L' := [(0, av 35 0 0), (1, iv p0), (2, iv 1), (3, iv y1), (4, iv 352), (5, iv x8), (6, jv (F (Int.toNat x8))), (8, iv 0)]) zk_144_144 (nL := 10) rfl rfl rfl rfl rfl (pc' := 146) rfl ?_
              refine T_ld zk_144_146 rfl rfl rfl (pc' := 148) rfl ?_
              refine T_l2iX zk_144_148 (fun hl61 hl61' => ?_)
              refine T_st (L' := [(0, av 35 0 0), (1, iv p0), (2, iv 1), (3, iv y1), (4, iv 352), (5, iv x8), (6, jv (F (Int.toNat x8))), (8, iv 0), (9, iv (L2I (F (Int.toNat x8))))]) zk_144_149 (nL := 10) rfl rfl rfl rfl rfl (pc' := 151) rfl ?_
              refine T_ld zk_144_151 rfl rfl rfl (pc' := 152) rfl ?_
              refine T_getR (t' := 36) (i' := 0) (k' := 0) zk_144_152 rfl rfl rfl vd_35 (pc' := 155) rfl ?_
              refine T_ld zk_144_155 rfl rfl rfl (pc' := 157) rfl ?_
              refine T_ld zk_144_157 rfl rfl rfl (pc' := 159) rfl ?_
              refine T_op zk_144_159 rfl X_add (pc' := 160) rfl ?_
              refine T_ld zk_144_160 rfl rfl rfl (pc' := 162) rfl ?_
              refine T_if_eq zk_144_162 (by omega) (pc' := 165) rfl (fun h62 => ?_) (fun h63 => ?_)
              ·
                refine T_ld zk_144_170 rfl rfl rfl (pc' := 172) rfl ?_
                refine T_op zk_144_172 rfl (X_si (v := -300) (by decide)) (pc' := 175) rfl ?_
                refine T_icmp_ge zk_144_175 (by omega) (by omega) (pc' := 178) rfl (fun h64 => ?_) (fun h65 => ?_)
                ·
                  refine T_ld zk_144_184 rfl rfl rfl (pc' := 186) rfl ?_
                  refine T_op zk_144_186 rfl (X_si (v := 300) (by decide)) (pc' := 189) rfl ?_
                  refine T_icmp_le zk_144_189 (by omega) (by omega) (pc' := 192) rfl (fun h66 => ?_) (fun h67 => ?_)
                  ·
                    refine T_ld zk_144_198 rfl rfl rfl (pc' := 200) rfl ?_
                    refine G_iast (J' := (fun σ' => IF (MK 352 448 636 637) σ σ' ∧ eqo (Int.toNat (96 * p0)) F (σ' 41 0 0) 96 ∧ σ' 36 0 0 636 = u2 ∧ eqo 352 (fhv F G u1 (Int.toNat (x8 + 1))) (σ' 36 0 0) 96 ∧ σ' 36 0 0 (Int.toNat (352 + x8)) = L2I (F (Int.toNat x8)) ∧ True)) (ln := 646) zk_144_200 rfl rfl (vd_36 (by omega)) (by omega) (by omega) (by omega) (fun σ' h => ⟨h.1.up (by simp only [rgP] <;> omega) (by first | exact pMK rfl | (unfold MK; omega)), gf_mk (fun z => eqo (Int.toNat (96 * p0)) F z 96) (up_row (by omega)) (h.2.1), (up_ne (by omega)).trans (h.2.2.1), fho_push (h.2.2.2.1) (by omega) (by omega) (by omega), up_eq, trivial⟩) (pc' := 201) rfl ?_
                    refine T_iinc (L' := [(0, av 35 0 0), (1, iv p0), (2, iv 1), (3, iv y1), (4, iv 352), (5, iv (x8 + 1)), (6, jv (F (Int.toNat x8))), (8, iv 0), (9, iv (L2I (F (Int.toNat x8))))]) zk_144_201 (nL := 10) rfl rfl rfl rfl (pc' := 204) rfl ?_
                    refine T_goto zk_144_204 ?_
                    refine G_know (J' := (fun σ' => IF (MK 352 448 636 637) σ σ' ∧ eqo (Int.toNat (96 * p0)) F (σ' 41 0 0) 96 ∧ σ' 36 0 0 636 = u2 ∧ eqo 352 (fhv F G u1 (Int.toNat (x8 + 1))) (σ' 36 0 0) 96 ∧ True)) (fun σ' h => ⟨h.1, h.2.1, h.2.2.1, h.2.2.2.1, trivial⟩) ?_
                    refine T_loc (L := [(0, av 35 0 0), (1, iv p0), (2, iv 1), (3, iv y1), (4, iv 352), (5, iv (x8 + 1))]) (E := [(6, jv (F (Int.toNat x8))), (8, iv 0), (9, iv (L2I (F (Int.toNat x8))))]) rfl ?_
                    exact ih9 (x8 + 1) (by omega) (by omega)
                  ·
                    refine T_op zk_144_192 rfl (X_si (v := 300) (by decide)) (pc' := 195) rfl ?_
                    refine T_goto zk_144_195 ?_
                    refine G_iast (J' := (fun σ' => IF (MK 352 448 636 637) σ σ' ∧ eqo (Int.toNat (96 * p0)) F (σ' 41 0 0) 96 ∧ σ' 36 0 0 636 = u2 ∧ eqo 352 (fhv F G u1 (Int.toNat (x8 + 1))) (σ' 36 0 0) 96 ∧ σ' 36 0 0 (Int.toNat (352 + x8)) = 300 ∧ True)) (ln := 646) zk_144_200 rfl rfl (vd_36 (by omega)) (by omega) (by omega) (by omega) (fun σ' h => ⟨h.1.up (by simp only [rgP] <;> omega) (by first | exact pMK rfl | (unfold MK; omega)), gf_mk (fun z => eqo (Int.toNat (96 * p0)) F z 96) (up_row (by omega)) (h.2.1), (up_ne (by omega)).trans (h.2.2.1), fho_push (h.2.2.2.1) (by omega) (by omega) (by omega), up_eq, trivial⟩) (pc' := 201) rfl ?_
                    refine T_iinc (L' := [(0, av 35 0 0), (1, iv p0), (2, iv 1), (3, iv y1), (4, iv 352), (5, iv (x8 + 1)), (6, jv (F (Int.toNat x8))), (8, iv 0), (9, iv (L2I (F (Int.toNat x8))))]) zk_144_201 (nL := 10) rfl rfl rfl rfl (pc' := 204) rfl ?_
                    refine T_goto zk_144_204 ?_
                    refine G_know (J' := (fun σ' => IF (MK 352 448 636 637) σ σ' ∧ eqo (Int.toNat (96 * p0)) F (σ' 41 0 0) 96 ∧ σ' 36 0 0 636 = u2 ∧ eqo 352 (fhv F G u1 (Int.toNat (x8 + 1))) (σ' 36 0 0) 96 ∧ True)) (fun σ' h => ⟨h.1, h.2.1, h.2.2.1, h.2.2.2.1, trivial⟩) ?_
                    refine T_loc (L := [(0, av 35 0 0), (1, iv p0), (2, iv 1), (3, iv y1), (4, iv 352), (5, iv (x8 + 1))]) (E := [(6, jv (F (Int.toNat x8))), (8, iv 0), (9, iv (L2I (F (Int.toNat x8))))]) rfl ?_
                    exact ih9 (x8 + 1) (by omega) (by omega)
                ·
                  refine T_op zk_144_178 rfl (X_si (v := -300) (by decide)) (pc' := 181) rfl ?_
                  refine T_goto zk_144_181 ?_
                  refine G_iast (J' := (fun σ' => IF (MK 352 448 636 637) σ σ' ∧ eqo (Int.toNat (96 * p0)) F (σ' 41 0 0) 96 ∧ σ' 36 0 0 636 = u2 ∧ eqo 352 (fhv F G u1 (Int.toNat (x8 + 1))) (σ' 36 0 0) 96 ∧ σ' 36 0 0 (Int.toNat (352 + x8)) = (-300) ∧ True)) (ln := 646) zk_144_200 rfl rfl (vd_36 (by omega)) (by omega) (by omega) (by omega) (fun σ' h => ⟨h.1.up (by simp only [rgP] <;> omega) (by first | exact pMK rfl | (unfold MK; omega)), gf_mk (fun z => eqo (Int.toNat (96 * p0)) F z 96) (up_row (by omega)) (h.2.1), (up_ne (by omega)).trans (h.2.2.1), fho_push (h.2.2.2.1) (by omega) (by omega) (by omega), up_eq, trivial⟩) (pc' := 201) rfl ?_
                  refine T_iinc (L' := [(0, av 35 0 0), (1, iv p0), (2, iv 1), (3, iv y1), (4, iv 352), (5, iv (x8 + 1)), (6, jv (F (Int.toNat x8))), (8, iv 0), (9, iv (L2I (F (Int.toNat x8))))]) zk_144_201 (nL := 10) rfl rfl rfl rfl (pc' := 204) rfl ?_
                  refine T_goto zk_144_204 ?_
                  refine G_know (J' := (fun σ' => IF (MK 352 448 636 637) σ σ' ∧ eqo (Int.toNat (96 * p0)) F (σ' 41 0 0) 96 ∧ σ' 36 0 0 636 = u2 ∧ eqo 352 (fhv F G u1 (Int.toNat (x8 + 1))) (σ' 36 0 0) 96 ∧ True)) (fun σ' h => ⟨h.1, h.2.1, h.2.2.1, h.2.2.2.1, trivial⟩) ?_
                  refine T_loc (L := [(0, av 35 0 0), (1, iv p0), (2, iv 1), (3, iv y1), (4, iv 352), (5, iv (x8 + 1))]) (E := [(6, jv (F (Int.toNat x8))), (8, iv 0), (9, iv (L2I (F (Int.toNat x8))))]) rfl ?_
                  exact ih9 (x8 + 1) (by omega) (by omega)
              · exfalso; omega
            ·
              refine T_op zk_144_139 rfl X_ic (pc' := 140) rfl ?_
              refine T_goto zk_144_140 ?_
              refine T_st (L' := [(0, av 35 0 0), (1, iv p0), (2, iv 1), (3, iv y1), (4, iv 352), (5, iv x8), (6, jv (F (Int.toNat x8))), (8, iv 1)]) zk_144_144 (nL := 10) rfl rfl rfl rfl rfl (pc' := 146) rfl ?_
              refine T_ld zk_144_146 rfl rfl rfl (pc' := 148) rfl ?_
              refine T_l2iX zk_144_148 (fun hl68 hl68' => ?_)
              refine T_st (L' := [(0, av 35 0 0), (1, iv p0), (2, iv 1), (3, iv y1), (4, iv 352), (5, iv x8), (6, jv (F (Int.toNat x8))), (8, iv 1), (9, iv (L2I (F (Int.toNat x8))))]) zk_144_149 (nL := 10) rfl rfl rfl rfl rfl (pc' := 151) rfl ?_
              refine T_ld zk_144_151 rfl rfl rfl (pc' := 152) rfl ?_
              refine T_getR (t' := 36) (i' := 0) (k' := 0) zk_144_152 rfl rfl rfl vd_35 (pc' := 155) rfl ?_
              refine T_ld zk_144_155 rfl rfl rfl (pc' := 157) rfl ?_
              refine T_ld zk_144_157 rfl rfl rfl (pc' := 159) rfl ?_
              refine T_op zk_144_159 rfl X_add (pc' := 160) rfl ?_
              refine T_ld zk_144_160 rfl rfl rfl (pc' := 162) rfl ?_
              refine T_if_eq zk_144_162 (by omega) (pc' := 165) rfl (fun h69 => ?_) (fun h70 => ?_)
              · exfalso; omega
              ·
                refine T_op zk_144_165 rfl (X_bi (v := 30) (by decide)) (pc' := 167) rfl ?_
                refine T_goto zk_144_167 ?_
                refine G_iast (J' := (fun σ' => IF (MK 352 448 636 637) σ σ' ∧ eqo (Int.toNat (96 * p0)) F (σ' 41 0 0) 96 ∧ σ' 36 0 0 636 = u2 ∧ eqo 352 (fhv F G u1 (Int.toNat (x8 + 1))) (σ' 36 0 0) 96 ∧ σ' 36 0 0 (Int.toNat (352 + x8)) = 30 ∧ True)) (ln := 646) zk_144_200 rfl rfl (vd_36 (by omega)) (by omega) (by omega) (by omega) (fun σ' h => ⟨h.1.up (by simp only [rgP] <;> omega) (by first | exact pMK rfl | (unfold MK; omega)), gf_mk (fun z => eqo (Int.toNat (96 * p0)) F z 96) (up_row (by omega)) (h.2.1), (up_ne (by omega)).trans (h.2.2.1), fho_push (h.2.2.2.1) (by omega) (by omega) (by omega), up_eq, trivial⟩) (pc' := 201) rfl ?_
                refine T_iinc (L' := [(0, av 35 0 0), (1, iv p0), (2, iv 1), (3, iv y1), (4, iv 352), (5, iv (x8 + 1)), (6, jv (F (Int.toNat x8))), (8, iv 1), (9, iv (L2I (F (Int.toNat x8))))]) zk_144_201 (nL := 10) rfl rfl rfl rfl (pc' := 204) rfl ?_
                refine T_goto zk_144_204 ?_
                refine G_know (J' := (fun σ' => IF (MK 352 448 636 637) σ σ' ∧ eqo (Int.toNat (96 * p0)) F (σ' 41 0 0) 96 ∧ σ' 36 0 0 636 = u2 ∧ eqo 352 (fhv F G u1 (Int.toNat (x8 + 1))) (σ' 36 0 0) 96 ∧ True)) (fun σ' h => ⟨h.1, h.2.1, h.2.2.1, h.2.2.2.1, trivial⟩) ?_
                refine T_loc (L := [(0, av 35 0 0), (1, iv p0), (2, iv 1), (3, iv y1), (4, iv 352), (5, iv (x8 + 1))]) (E := [(6, jv (F (Int.toNat x8))), (8, iv 1), (9, iv (L2I (F (Int.toNat x8))))]) rfl ?_
                exact ih9 (x8 + 1) (by omega) (by omega)
  ·
    refine T_ld zk_144_10 rfl rfl rfl (pc' := 11) rfl ?_
    refine T_ld zk_144_11 rfl rfl rfl (pc' := 12) rfl ?_
    refine T_calli (K := fun y71 σ' => (y71 = y1) ∧ (fun σ' => IF (MK 352 448 636 637) σ σ' ∧ σ' 36 0 0 636 = n ∧ eqo (Int.toNat (96 * p0)) F (σ' 41 0 0) 96 ∧ eqo 352 G (σ' 36 0 0) 96 ∧ True) σ') (r := []) zk_144_12 rfl rfl rfl rfl rfl rfl (Or.inr ⟨_, _, _, _, rfl, vd_35, rfl⟩) (fun σ' h => (m_123 y1 (by omega) σ' h.1.1 ).le (Nat.le_of_ble_eq_true rfl) (fun v σ2 ⟨y, h1, h2, h3, h4⟩ => ⟨y, h1, h2, h.1.tr h3 sb79t_02c46c1, (h3.2 _ _ _ _ (by first | exact nMT rfl | (unfold MT; omega))).trans (h.2.1), gf_mk (fun z => eqo (Int.toNat (96 * p0)) F z 96) (funext fun j => h3.2 _ _ _ _ (by first | exact nMT rfl | (unfold MT; omega))) (h.2.2.1), gf_mk (fun z => eqo 352 G z 96) (funext fun j => h3.2 _ _ _ _ (by first | exact nMT rfl | (unfold MT; omega))) (h.2.2.2.1), trivial⟩)) (pc' := 15) rfl (fun y71 => ?_)
    refine G_ex (fun hy71 => ?_)
    obtain rfl : y71 = y1 := by omega
    exact T_iret zk_144_15 rfl (fun σ' h => ⟨_, rfl, (by omega), h.1, ⟨(by have e := h.2.1; omega), ⟨fun q => by exfalso; omega, fun _ => h.2.2.2.1⟩, trivial⟩⟩)
/-- WModel.sea -/
theorem r_144o_1 {xs : Nat × (Nat → Int32)} (p0 : Int) (hp0 : -2147483648 ≤ p0 ∧ p0 ≤ 2147483647) (ho : p0 < 0 ∨ 7 < p0) (σ : ZS) (hI : Inv σ)   : CT xs 3 144 [av 35 0 0, iv p0, iv 1] σ (fun v σ' => ∃ y, v = some (iv y) ∧ (y = -1) ∧ IF (MT 49 49 49 49) σ σ' ∧ (True)) := by
  refine G_ct (J := (fun σ' => IF (MT 49 49 49 49) σ σ' ∧ True)) (L := [(0, av 35 0 0), (1, iv p0), (2, iv 1)]) (nL := 10) rfl rfl rfl ⟨IF.rf hI, trivial⟩ ?_
  refine T_ld zk_144_0 rfl rfl rfl (pc' := 1) rfl ?_
  refine T_ld zk_144_1 rfl rfl rfl (pc' := 2) rfl ?_
  refine T_calli (K := fun y1 σ' => ((y1 = -1 ∧ (p0 < 0 ∨ 7 < p0)) ∨ ((y1 = -3 ∨ y1 = -2 ∨ y1 = 0) ∧ 0 ≤ p0 ∧ p0 ≤ 7)) ∧ (fun σ' => IF (MT 49 49 49 49) σ σ' ∧ True) σ') (r := []) zk_144_2 rfl rfl rfl rfl rfl rfl (Or.inr ⟨_, _, _, _, rfl, vd_35, rfl⟩) (fun σ' h => (m_143 p0 (by omega) σ' h.1.1 ).le (Nat.le_of_ble_eq_true rfl) (fun v σ2 ⟨y, h1, h2, h3, h4⟩ => ⟨y, h1, h2, h.1.tr h3 MN_sub, trivial⟩)) (pc' := 5) rfl (fun y1 => ?_)
  refine G_ex (fun hy1 => ?_)
  refine T_st (L' := [(0, av 35 0 0), (1, iv p0), (2, iv 1), (3, iv y1)]) zk_144_5 (nL := 10) rfl rfl rfl rfl rfl (pc' := 6) rfl ?_
  refine T_ld zk_144_6 rfl rfl rfl (pc' := 7) rfl ?_
  refine T_if_eq zk_144_7 (by omega) (pc' := 10) rfl (fun h2 => ?_) (fun h3 => ?_)
  · exfalso; omega
  ·
    refine T_ld zk_144_10 rfl rfl rfl (pc' := 11) rfl ?_
    refine T_ld zk_144_11 rfl rfl rfl (pc' := 12) rfl ?_
    refine T_calli (K := fun y4 σ' => (y4 = y1) ∧ (fun σ' => IF (MT 49 49 49 49) σ σ' ∧ True) σ') (r := []) zk_144_12 rfl rfl rfl rfl rfl rfl (Or.inr ⟨_, _, _, _, rfl, vd_35, rfl⟩) (fun σ' h => (m_123 y1 (by omega) σ' h.1.1 ).le (Nat.le_of_ble_eq_true rfl) (fun v σ2 ⟨y, h1, h2, h3, h4⟩ => ⟨y, h1, h2, h.1.tr h3 (fun _ _ _ _ h => h), trivial⟩)) (pc' := 15) rfl (fun y4 => ?_)
    refine G_ex (fun hy4 => ?_)
    obtain rfl : y4 = y1 := by omega
    exact T_iret zk_144_15 rfl (fun σ' h => ⟨_, rfl, (by omega), h.1, trivial⟩)
/-- WModel.seaOf -/
theorem r_145_1 {xs : Nat × (Nat → Int32)} (p0 : Int) (n : Int) (a : Int) (hp0 : 0 ≤ p0 ∧ p0 ≤ 2147483647) (hn : 0 ≤ n ∧ n ≤ 96) (ha : -2147483648 ≤ a ∧ a ≤ 2147483647) (σ : ZS) (hI : Inv σ)  (sn : σ 36 0 0 636 = n) (sa : σ 36 0 0 (Int.toNat (352 + p0 % n)) = a) : CT xs 1 145 [av 35 0 0, iv p0, iv 1] σ (fun v σ' => ∃ y, v = some (iv y) ∧ ((y = 0 ∧ (n ≤ 0)) ∨ (y = a ∧ ¬ (n ≤ 0))) ∧ IF MN σ σ' ∧ (True)) := by
  refine G_ct (J := (fun σ' => IF MN σ σ' ∧ True)) (L := [(0, av 35 0 0), (1, iv p0), (2, iv 1)]) (nL := 4) rfl rfl rfl ⟨IF.rf hI, trivial⟩ ?_
  refine T_ld zk_145_0 rfl rfl rfl (pc' := 1) rfl ?_
  refine T_getR (t' := 36) (i' := 0) (k' := 0) zk_145_1 rfl rfl rfl vd_35 (pc' := 4) rfl ?_
  refine T_ld zk_145_4 rfl rfl rfl (pc' := 5) rfl ?_
  refine T_if_eq zk_145_5 (by omega) (pc' := 8) rfl (fun h1 => ?_) (fun h2 => ?_)
  · exfalso; omega
  ·
    refine T_op zk_145_8 rfl (X_si (v := 636) (by decide)) (pc' := 11) rfl ?_
    refine T_goto zk_145_11 ?_
    refine G_ialdX (w := n) (ln := 646) zk_145_17 rfl rfl (vd_36 (by omega)) (by omega) (by omega) (by omega) (fun σ' h => (h.1.2 _ _ _ _ (fun q => q)).trans sn) (pc' := 18) rfl ?_
    refine T_st (L' := [(0, av 35 0 0), (1, iv p0), (2, iv 1), (3, iv n)]) zk_145_18 (nL := 4) rfl rfl rfl rfl rfl (pc' := 19) rfl ?_
    refine T_ld zk_145_19 rfl rfl rfl (pc' := 20) rfl ?_
    refine T_if_ne zk_145_20 (by omega) (pc' := 23) rfl (fun h3 => ?_) (fun h4 => ?_)
    ·
      refine T_ld zk_145_27 rfl rfl rfl (pc' := 28) rfl ?_
      refine T_getR (t' := 36) (i' := 0) (k' := 0) zk_145_28 rfl rfl rfl vd_35 (pc' := 31) rfl ?_
      refine T_ld zk_145_31 rfl rfl rfl (pc' := 32) rfl ?_
      refine T_if_eq zk_145_32 (by omega) (pc' := 35) rfl (fun h5 => ?_) (fun h6 => ?_)
      · exfalso; omega
      ·
        refine T_op zk_145_35 rfl (X_si (v := 352) (by decide)) (pc' := 38) rfl ?_
        refine T_goto zk_145_38 ?_
        refine T_ld zk_145_44 rfl rfl rfl (pc' := 45) rfl ?_
        refine T_ld zk_145_45 rfl rfl rfl (pc' := 46) rfl ?_
        have hm7 : 0 ≤ p0 % n := Int.emod_nonneg _ (by omega)
        have hm7' : p0 % n < n := Int.emod_lt_of_pos _ (by omega)
        refine T_op zk_145_46 rfl (X_rem (by omega) (by omega)) (pc' := 47) rfl ?_
        refine T_op zk_145_47 rfl X_add (pc' := 48) rfl ?_
        refine G_ialdX (w := a) (ln := 646) zk_145_48 rfl rfl (vd_36 (by omega)) (by omega) (by omega) (by omega) (fun σ' h => (h.1.2 _ _ _ _ (fun q => q)).trans sa) (pc' := 49) rfl ?_
        exact T_iret zk_145_49 rfl (fun σ' h => ⟨_, rfl, (by omega), h.1, trivial⟩)
    ·
      refine T_op zk_145_23 rfl X_ic (pc' := 24) rfl ?_
      refine T_goto zk_145_24 ?_
      exact T_iret zk_145_49 rfl (fun σ' h => ⟨_, rfl, (by omega), h.1, trivial⟩)
/-- WModel.seaAt -/
theorem r_146_1 {xs : Nat × (Nat → Int32)} (p0 : Int) (n : Int) (a : Int) (hp0 : -2147483648 ≤ p0 ∧ p0 ≤ 2147483647) (hn : 0 ≤ n ∧ n ≤ 96) (ha : -2147483648 ≤ a ∧ a ≤ 2147483647) (σ : ZS) (hI : Inv σ)  (sn : σ 36 0 0 636 = n) (sa : σ 36 0 0 (Int.toNat (352 + p0 % n)) = a) : CT xs 2 146 [av 35 0 0, iv p0, iv 1] σ (fun v σ' => ∃ y, v = some (iv y) ∧ ((y = 1000 ∧ (p0 < 0)) ∨ (y = 0 ∧ ¬ (p0 < 0) ∧ (n ≤ 0)) ∨ (y = a ∧ ¬ (p0 < 0) ∧ ¬ (n ≤ 0))) ∧ IF MN σ σ' ∧ (True)) := by
  refine G_ct (J := (fun σ' => IF MN σ σ' ∧ True)) (L := [(0, av 35 0 0), (1, iv p0), (2, iv 1)]) (nL := 3) rfl rfl rfl ⟨IF.rf hI, trivial⟩ ?_
  refine T_ld zk_146_0 rfl rfl rfl (pc' := 1) rfl ?_
  refine T_if_ge zk_146_1 (by omega) (pc' := 4) rfl (fun h1 => ?_) (fun h2 => ?_)
  ·
    refine T_ld zk_146_10 rfl rfl rfl (pc' := 11) rfl ?_
    refine T_ld zk_146_11 rfl rfl rfl (pc' := 12) rfl ?_
    refine T_ld zk_146_12 rfl rfl rfl (pc' := 13) rfl ?_
    refine T_calli (K := fun y3 σ' => ((y3 = 0 ∧ (n ≤ 0)) ∨ (y3 = a ∧ ¬ (n ≤ 0))) ∧ (fun σ' => IF MN σ σ' ∧ True) σ') (r := []) zk_146_13 rfl rfl rfl rfl rfl rfl (Or.inr ⟨_, _, _, _, rfl, vd_35, rfl⟩) (fun σ' h => (r_145_1 p0 n a (by omega) (by omega) (by omega) σ' h.1.1 ((h.1.2 _ _ _ _ (fun q => q)).trans sn) ((h.1.2 _ _ _ _ (fun q => q)).trans sa)).le (Nat.le_of_ble_eq_true rfl) (fun v σ2 ⟨y, h1, h2, h3, h4⟩ => ⟨y, h1, h2, h.1.tr h3 MN_sub, trivial⟩)) (pc' := 16) rfl (fun y3 => ?_)
    refine G_ex (fun hy3 => ?_)
    exact T_iret zk_146_16 rfl (fun σ' h => ⟨_, rfl, (by omega), h.1, trivial⟩)
  ·
    refine T_op zk_146_4 rfl (X_si (v := 1000) (by decide)) (pc' := 7) rfl ?_
    refine T_goto zk_146_7 ?_
    exact T_iret zk_146_16 rfl (fun σ' h => ⟨_, rfl, (by omega), h.1, trivial⟩)
