def MQ1 (a : Nat) (t i k j : Nat) : Prop := t = 33 ∧ k = a ∧ j = 0
theorem nMQ1 {a t i k j : Nat} (hb : decide ((t = 33 ∧ j = 0)) = false) : ¬ MQ1 a t i k j := fun h => of_decide_eq_false hb (by unfold MQ1 at h; omega)
def MQ2 (a : Nat) (t i k j : Nat) : Prop := t = 37 ∧ j = a
theorem nMQ2 {a t i k j : Nat} (hb : decide ((t = 37 ∧ j = a)) = false) : ¬ MQ2 a t i k j := fun h => of_decide_eq_false hb (by unfold MQ2 at h; omega)
theorem pMQ2 {a t i k j : Nat} (hb : decide ((t = 37 ∧ j = a)) = true) : MQ2 a t i k j := by
  have h := of_decide_eq_true hb
  unfold MQ2
  omega
def MRs0 (t i k j : Nat) : Prop := (i = 0 ∧ 1 ≤ t ∧ t ≤ 26) ∨ t = 28 ∨ (t = 33 ∧ j = 0)
def MRm0 (t i k j : Nat) : Prop := (t = 36 ∧ k = 0) ∨ (43 ≤ t ∧ t ≤ 49)
theorem nMRm0 { t i k j : Nat} (hb : decide ((t = 36 ∨ (43 ≤ t ∧ t ≤ 49))) = false) : ¬ MRm0  t i k j := fun h => of_decide_eq_false hb (by unfold MRm0 at h; omega)
theorem pMRm0 { t i k j : Nat} (hb : decide ((43 ≤ t ∧ t ≤ 49)) = true) : MRm0  t i k j := by
  have h := of_decide_eq_true hb
  unfold MRm0
  omega
theorem IF.mono {M M' : Nat → Nat → Nat → Nat → Prop} {σ σ' : ZS} (h : IF M σ σ') (hM : ∀ t i k j, M t i k j → M' t i k j) : IF M' σ σ' := ⟨h.1, fun t i k j n => h.2 t i k j (fun m => n (hM t i k j m))⟩
def rvh (h g n : Int) : Int := if h = 2 ∧ ¬ (0 ≤ g ∧ g < n) then 0 else h
theorem s_109_it {xs : Nat × (Nat → Int32)} {Q : Option Value → ZS → Prop} (s : Int) (hs : 0 ≤ s ∧ s ≤ 8) (σ : ZS) (hI : Inv σ) (hend : 8 ≤ s → ∀ σ', IF (MQ1 (Int.toNat s)) σ σ' → Q (some (iv (σ 1 0 0 13))) σ') (ih : s < 8 → ∀ σ', IF (MQ1 (Int.toNat s)) σ σ' → σ' 33 0 (Int.toNat s) 0 = rvh (σ 33 0 (Int.toNat s) 0) (σ 33 0 (Int.toNat s) 3) (σ 1 0 0 6) → TT xs 60 109 27 [(0, av 0 0 0), (1, iv (s + 1))] [] σ' Q) : TT xs 60 109 27 [(0, av 0 0 0), (1, iv s)] [] σ Q := by
  have rn := (hI 1 0 0 6 (vd_1 (by omega)))
  simp only [rgP] at rn
  have rv := (hI 1 0 0 13 (vd_1 (by omega))).1
  refine (show TJ xs (fun σ' => IF (MQ1 (Int.toNat s)) σ σ' ∧ σ' 33 0 (Int.toNat s) 0 = σ 33 0 (Int.toNat s) 0 ∧ True) 60 109 27 [(0, av 0 0 0), (1, iv s)] [] Q from ?_) σ ⟨IF.rf hI, rfl, trivial⟩
  refine T_ld zk_109_27 rfl rfl rfl (pc' := 28) rfl ?_
  refine T_op zk_109_28 rfl (X_bi (v := 8) (by decide)) (pc' := 30) rfl ?_
  refine T_icmp_ge zk_109_30 (by omega) (by omega) (pc' := 33) rfl (fun h1 => ?_) (fun h2 => ?_)
  ·
    refine T_ld zk_109_78 rfl rfl rfl (pc' := 79) rfl ?_
    refine T_getR (t' := 1) (i' := 0) (k' := 0) zk_109_79 rfl rfl rfl vd_0 (pc' := 82) rfl ?_
    refine G_getX (w := σ 1 0 0 13) zk_109_82 rfl (vd_1 (by omega)) (fun σ' h => h.1.2 _ _ _ _ (by first | exact nMQ1 rfl | (unfold MQ1; omega))) (pc' := 85) rfl ?_
    exact T_iret zk_109_85 rfl (fun σ' h => hend (by omega) σ' h.1)
  ·
    have r0 := (hI 33 0 (Int.toNat s) 0 (vd_33 (by omega))).1
    have r3 := (hI 33 0 (Int.toNat s) 3 (vd_33 (by omega))).1
    refine T_ld zk_109_33 rfl rfl rfl (pc' := 34) rfl ?_
    refine T_getR (t' := 27) (i' := 0) (k' := 0) zk_109_34 rfl rfl rfl vd_0 (pc' := 37) rfl ?_
    refine T_ld zk_109_37 rfl rfl rfl (pc' := 38) rfl ?_
    refine G_aald (t' := 33) (im := 0) (i' := 0) (ln := 8) zk_109_38 rfl rfl rfl vd_27 (by omega) (by omega) (by omega) (pc' := 39) rfl ?_
    refine G_getX (w := σ 33 0 (Int.toNat s) 0) zk_109_39 rfl (vd_33 (by omega)) (fun σ' h => h.2.1) (pc' := 42) rfl ?_
    refine T_op zk_109_42 rfl X_ic (pc' := 43) rfl ?_
    refine T_icmp_ne zk_109_43 (by omega) (by omega) (pc' := 46) rfl (fun h3 => ?_) (fun h4 => ?_)
    ·
      refine T_iinc (L' := [(0, av 0 0 0), (1, iv (s + 1))]) zk_109_72 (nL := 2) rfl rfl rfl rfl (pc' := 75) rfl ?_
      refine T_goto zk_109_75 ?_
      exact fun σ' h => ih (by omega) σ' h.1 (by have e1 := (h.2.1); unfold rvh; split <;> omega)
    ·
      refine T_ld zk_109_46 rfl rfl rfl (pc' := 47) rfl ?_
      refine T_ld zk_109_47 rfl rfl rfl (pc' := 48) rfl ?_
      refine T_getR (t' := 27) (i' := 0) (k' := 0) zk_109_48 rfl rfl rfl vd_0 (pc' := 51) rfl ?_
      refine T_ld zk_109_51 rfl rfl rfl (pc' := 52) rfl ?_
      refine G_aald (t' := 33) (im := 0) (i' := 0) (ln := 8) zk_109_52 rfl rfl rfl vd_27 (by omega) (by omega) (by omega) (pc' := 53) rfl ?_
      refine G_getX (w := σ 33 0 (Int.toNat s) 3) zk_109_53 rfl (vd_33 (by omega)) (fun σ' h => h.1.2 _ _ _ _ (by first | exact nMQ1 rfl | (unfold MQ1; omega))) (pc' := 56) rfl ?_
      refine T_calli (K := fun y5 σ' => ((y5 = 0 ∧ (σ 33 0 (Int.toNat s) 3 < 0 ∨ σ 1 0 0 6 ≤ σ 33 0 (Int.toNat s) 3)) ∨ (y5 = 1 ∧ 0 ≤ σ 33 0 (Int.toNat s) 3 ∧ σ 33 0 (Int.toNat s) 3 < σ 1 0 0 6)) ∧ (fun σ' => IF (MQ1 (Int.toNat s)) σ σ' ∧ σ' 33 0 (Int.toNat s) 0 = σ 33 0 (Int.toNat s) 0 ∧ True) σ') (r := []) zk_109_56 rfl rfl rfl rfl rfl rfl (Or.inr ⟨_, _, _, _, rfl, vd_0, rfl⟩) (fun σ' h => (w_117 (σ 33 0 (Int.toNat s) 3) (σ 1 0 0 6) (by omega) (by omega) σ' h.1.1 (h.1.2 _ _ _ _ (by first | exact nMQ1 rfl | (unfold MQ1; omega)))).le (Nat.le_of_ble_eq_true rfl) (fun v σ2 ⟨y, h1, h2, h3, h4⟩ => ⟨y, h1, h2, h.1.tr h3 MN_sub, (h3.2 _ _ _ _ (fun q => q)).trans (h.2.1), trivial⟩)) (pc' := 59) rfl (fun y5 => ?_)
      refine G_ex (fun hy5 => ?_)
      refine T_if_ne zk_109_59 (by omega) (pc' := 62) rfl (fun h6 => ?_) (fun h7 => ?_)
      ·
        refine T_iinc (L' := [(0, av 0 0 0), (1, iv (s + 1))]) zk_109_72 (nL := 2) rfl rfl rfl rfl (pc' := 75) rfl ?_
        refine T_goto zk_109_75 ?_
        exact fun σ' h => ih (by omega) σ' h.1 (by have e1 := (h.2.1); unfold rvh; split <;> omega)
      ·
        refine T_ld zk_109_62 rfl rfl rfl (pc' := 63) rfl ?_
        refine T_getR (t' := 27) (i' := 0) (k' := 0) zk_109_63 rfl rfl rfl vd_0 (pc' := 66) rfl ?_
        refine T_ld zk_109_66 rfl rfl rfl (pc' := 67) rfl ?_
        refine G_aald (t' := 33) (im := 0) (i' := 0) (ln := 8) zk_109_67 rfl rfl rfl vd_27 (by omega) (by omega) (by omega) (pc' := 68) rfl ?_
        refine T_op zk_109_68 rfl X_ic (pc' := 69) rfl ?_
        refine T_putf (J' := (fun σ' => IF (MQ1 (Int.toNat s)) σ σ' ∧ σ' 33 0 (Int.toNat s) 0 = 0 ∧ True)) zk_109_69 rfl rfl (vd_33 (by omega)) (fun σ' h => ⟨h.1.up (by simp only [rgP] <;> omega) (by unfold MQ1; omega), up_eq, trivial⟩) (pc' := 72) rfl ?_
        refine T_iinc (L' := [(0, av 0 0 0), (1, iv (s + 1))]) zk_109_72 (nL := 2) rfl rfl rfl rfl (pc' := 75) rfl ?_
        refine T_goto zk_109_75 ?_
        exact fun σ' h => ih (by omega) σ' h.1 (by have e1 := (h.2.1); unfold rvh; split <;> omega)
def MQa (t i k j : Nat) : Prop := t = 33 ∧ j = 0
def MQb (t i k j : Nat) : Prop := t = 37
theorem s_109_go {xs : Nat × (Nat → Int32)} {Q : Option Value → ZS → Prop} : ∀ (n : Nat) (s : Int) (hs : 0 ≤ s ∧ s ≤ 8) (hn : 8 - s ≤ n) (σ : ZS) (hI : Inv σ) (hend : ∀ σ', IF MQa σ σ' → (∀ k : Nat, k < 8 → σ' 33 0 k 0 = if s ≤ k then rvh (σ 33 0 k 0) (σ 33 0 k 3) (σ 1 0 0 6) else σ 33 0 k 0) → Q (some (iv (σ 1 0 0 13))) σ'), TT xs 60 109 27 [(0, av 0 0 0), (1, iv s)] [] σ Q := by
  intro n
  induction n with
  | zero =>
    intro s hs hn σ hI hend
    exact s_109_it s hs σ hI (fun h8 σ' h => hend σ' (h.mono (fun t i k j q => by unfold MQ1 at q; unfold MQa; omega)) (fun k hk => by rw [if_neg (by omega)]; exact h.2 33 0 k 0 (by unfold MQ1; omega))) (fun h8 => absurd h8 (by omega))
  | succ n IHn =>
    intro s hs hn σ hI hend
    refine s_109_it s hs σ hI (fun h8 σ' h => hend σ' (h.mono (fun t i k j q => by unfold MQ1 at q; unfold MQa; omega)) (fun k hk => by rw [if_neg (by omega)]; exact h.2 33 0 k 0 (by unfold MQ1; omega))) (fun h8 σ' h e => ?_)
    refine IHn (s + 1) (by omega) (by omega) σ' h.1 (fun σ2 h2 e2 => ?_)
    have ev : σ' 1 0 0 13 = σ 1 0 0 13 := h.2 1 0 0 13 (by unfold MQ1; omega)
    have en : σ' 1 0 0 6 = σ 1 0 0 6 := h.2 1 0 0 6 (by unfold MQ1; omega)
    rw [ev]
    refine hend σ2 ((h.mono (fun t i k j q => by unfold MQ1 at q; unfold MQa; omega)).tr h2 (fun _ _ _ _ q => q)) (fun k hk => ?_)
    have e3 := e2 k hk
    by_cases hq : k = Int.toNat s
    · subst hq
      rw [if_neg (by omega)] at e3
      rw [if_pos (by omega), e3, e]
    · have e4 : σ' 33 0 k 0 = σ 33 0 k 0 := h.2 33 0 k 0 (by unfold MQ1; omega)
      have e5 : σ' 33 0 k 3 = σ 33 0 k 3 := h.2 33 0 k 3 (by unfold MQ1; omega)
      rw [e4, e5, en] at e3
      rw [e3]
      by_cases hs1 : s + 1 ≤ (k : Int)
      · rw [if_pos hs1, if_pos (by omega)]
      · rw [if_neg hs1, if_neg (by omega)]
theorem r_185_it {xs : Nat × (Nat → Int32)} {Q : Option Value → ZS → Prop} (s : Int) (hs : 0 ≤ s ∧ s ≤ 8) (σ : ZS) (hI : Inv σ) (hend : 8 ≤ s → ∀ σ', IF (MQ2 (Int.toNat s)) σ σ' → Q (some (iv (σ 36 0 0 634))) σ') (ih : s < 8 → ∀ σ', IF (MQ2 (Int.toNat s)) σ σ' → σ' 37 0 0 (Int.toNat s) = rvh (σ 37 0 0 (Int.toNat s)) (σ 40 0 0 (Int.toNat s)) (σ 36 0 0 641) → TT xs 20 185 143 [(0, av 35 0 0), (1, iv (s + 1))] [] σ' Q) : TT xs 20 185 143 [(0, av 35 0 0), (1, iv s)] [] σ Q := by
  have rn : 0 ≤ σ 36 0 0 641 ∧ σ 36 0 0 641 ≤ 12 := (fun h => h.2.2.2.2.2.2.2.2.2.2.2.2.1 (by omega) (by omega)) (hI 36 0 0 641 (vd_36 (by omega)))
  have rv : 0 ≤ σ 36 0 0 634 ∧ σ 36 0 0 634 ≤ 30000 := (fun h => h.2.2.2.2.2.2.1 (by omega) (by omega)) (hI 36 0 0 634 (vd_36 (by omega)))
  refine (show TJ xs (fun σ' => IF (MQ2 (Int.toNat s)) σ σ' ∧ σ' 37 0 0 (Int.toNat s) = σ 37 0 0 (Int.toNat s) ∧ True) 20 185 143 [(0, av 35 0 0), (1, iv s)] [] Q from ?_) σ ⟨IF.rf hI, rfl, trivial⟩
  refine T_ld zk_185_143 rfl rfl rfl (pc' := 144) rfl ?_
  refine T_op zk_185_144 rfl (X_bi (v := 8) (by decide)) (pc' := 146) rfl ?_
  refine T_icmp_ge zk_185_146 (by omega) (by omega) (pc' := 149) rfl (fun h1 => ?_) (fun h2 => ?_)
  ·
    refine T_ld zk_185_185 rfl rfl rfl (pc' := 186) rfl ?_
    refine T_getR (t' := 36) (i' := 0) (k' := 0) zk_185_186 rfl rfl rfl vd_35 (pc' := 189) rfl ?_
    refine T_op zk_185_189 rfl (X_si (v := 634) (by decide)) (pc' := 192) rfl ?_
    refine G_ialdX (w := σ 36 0 0 634) (ln := 646) zk_185_192 rfl rfl (vd_36 (by omega)) (by omega) (by omega) (by omega) (fun σ' h => h.1.2 _ _ _ _ (by first | exact nMQ2 rfl | (unfold MQ2; omega))) (pc' := 193) rfl ?_
    exact T_iret zk_185_193 rfl (fun σ' h => hend (by omega) σ' h.1)
  ·
    have r0 : 0 ≤ σ 37 0 0 (Int.toNat s) ∧ σ 37 0 0 (Int.toNat s) ≤ 2 := (fun h => h.2 (by omega) (by omega)) (hI 37 0 0 (Int.toNat s) vd_37)
    have r3 : -1 ≤ σ 40 0 0 (Int.toNat s) ∧ σ 40 0 0 (Int.toNat s) ≤ 11 := (fun h => h.2 (by omega) (by omega)) (hI 40 0 0 (Int.toNat s) vd_40)
    refine T_ld zk_185_149 rfl rfl rfl (pc' := 150) rfl ?_
    refine T_getR (t' := 37) (i' := 0) (k' := 0) zk_185_150 rfl rfl rfl vd_35 (pc' := 153) rfl ?_
    refine T_ld zk_185_153 rfl rfl rfl (pc' := 154) rfl ?_
    refine G_ialdX (w := σ 37 0 0 (Int.toNat s)) (ln := 8) zk_185_154 rfl rfl vd_37 (by omega) (by omega) (by omega) (fun σ' h => h.2.1) (pc' := 155) rfl ?_
    refine T_op zk_185_155 rfl X_ic (pc' := 156) rfl ?_
    refine T_icmp_ne zk_185_156 (by omega) (by omega) (pc' := 159) rfl (fun h3 => ?_) (fun h4 => ?_)
    ·
      refine T_iinc (L' := [(0, av 35 0 0), (1, iv (s + 1))]) zk_185_179 (nL := 2) rfl rfl rfl rfl (pc' := 182) rfl ?_
      refine T_goto zk_185_182 ?_
      exact fun σ' h => ih (by omega) σ' h.1 (by have e1 := (h.2.1); unfold rvh; split <;> omega)
    ·
      refine T_ld zk_185_159 rfl rfl rfl (pc' := 160) rfl ?_
      refine T_ld zk_185_160 rfl rfl rfl (pc' := 161) rfl ?_
      refine T_getR (t' := 40) (i' := 0) (k' := 0) zk_185_161 rfl rfl rfl vd_35 (pc' := 164) rfl ?_
      refine T_ld zk_185_164 rfl rfl rfl (pc' := 165) rfl ?_
      refine G_ialdX (w := σ 40 0 0 (Int.toNat s)) (ln := 8) zk_185_165 rfl rfl vd_40 (by omega) (by omega) (by omega) (fun σ' h => h.1.2 _ _ _ _ (by first | exact nMQ2 rfl | (unfold MQ2; omega))) (pc' := 166) rfl ?_
      refine T_calli (K := fun y5 σ' => ((y5 = 0 ∧ (σ 40 0 0 (Int.toNat s) < 0 ∨ σ 36 0 0 641 ≤ σ 40 0 0 (Int.toNat s))) ∨ (y5 = 1 ∧ 0 ≤ σ 40 0 0 (Int.toNat s) ∧ σ 40 0 0 (Int.toNat s) < σ 36 0 0 641)) ∧ (fun σ' => IF (MQ2 (Int.toNat s)) σ σ' ∧ σ' 37 0 0 (Int.toNat s) = σ 37 0 0 (Int.toNat s) ∧ True) σ') (r := []) zk_185_166 rfl rfl rfl rfl rfl rfl (Or.inr ⟨_, _, _, _, rfl, vd_35, rfl⟩) (fun σ' h => (m_139 (σ 40 0 0 (Int.toNat s)) (σ 36 0 0 641) (by omega) (by omega) σ' h.1.1 (h.1.2 _ _ _ _ (by first | exact nMQ2 rfl | (unfold MQ2; omega)))).le (Nat.le_of_ble_eq_true rfl) (fun v σ2 ⟨y, h1, h2, h3, h4⟩ => ⟨y, h1, h2, h.1.tr h3 MN_sub, (h3.2 _ _ _ _ (fun q => q)).trans (h.2.1), trivial⟩)) (pc' := 169) rfl (fun y5 => ?_)
      refine G_ex (fun hy5 => ?_)
      refine T_if_ne zk_185_169 (by omega) (pc' := 172) rfl (fun h6 => ?_) (fun h7 => ?_)
      ·
        refine T_iinc (L' := [(0, av 35 0 0), (1, iv (s + 1))]) zk_185_179 (nL := 2) rfl rfl rfl rfl (pc' := 182) rfl ?_
        refine T_goto zk_185_182 ?_
        exact fun σ' h => ih (by omega) σ' h.1 (by have e1 := (h.2.1); unfold rvh; split <;> omega)
      ·
        refine T_ld zk_185_172 rfl rfl rfl (pc' := 173) rfl ?_
        refine T_getR (t' := 37) (i' := 0) (k' := 0) zk_185_173 rfl rfl rfl vd_35 (pc' := 176) rfl ?_
        refine T_ld zk_185_176 rfl rfl rfl (pc' := 177) rfl ?_
        refine T_op zk_185_177 rfl X_ic (pc' := 178) rfl ?_
        refine G_iast (J' := (fun σ' => IF (MQ2 (Int.toNat s)) σ σ' ∧ σ' 37 0 0 (Int.toNat s) = 0 ∧ True)) (ln := 8) zk_185_178 rfl rfl vd_37 (by omega) (by omega) (by omega) (fun σ' h => ⟨h.1.up (by simp only [rgP] <;> omega) (by first | exact pMQ2 rfl | (unfold MQ2; omega)), up_eq, trivial⟩) (pc' := 179) rfl ?_
        refine T_iinc (L' := [(0, av 35 0 0), (1, iv (s + 1))]) zk_185_179 (nL := 2) rfl rfl rfl rfl (pc' := 182) rfl ?_
        refine T_goto zk_185_182 ?_
        exact fun σ' h => ih (by omega) σ' h.1 (by have e1 := (h.2.1); unfold rvh; split <;> omega)
theorem r_185_go {xs : Nat × (Nat → Int32)} {Q : Option Value → ZS → Prop} : ∀ (n : Nat) (s : Int) (hs : 0 ≤ s ∧ s ≤ 8) (hn : 8 - s ≤ n) (σ : ZS) (hI : Inv σ) (hend : ∀ σ', IF MQb σ σ' → (∀ k : Nat, k < 8 → σ' 37 0 0 k = if s ≤ k then rvh (σ 37 0 0 k) (σ 40 0 0 k) (σ 36 0 0 641) else σ 37 0 0 k) → Q (some (iv (σ 36 0 0 634))) σ'), TT xs 20 185 143 [(0, av 35 0 0), (1, iv s)] [] σ Q := by
  intro n
  induction n with
  | zero =>
    intro s hs hn σ hI hend
    exact r_185_it s hs σ hI (fun h8 σ' h => hend σ' (h.mono (fun t i k j q => by unfold MQ2 at q; unfold MQb; omega)) (fun k hk => by rw [if_neg (by omega)]; exact h.2 37 0 0 k (by unfold MQ2; omega))) (fun h8 => absurd h8 (by omega))
  | succ n IHn =>
    intro s hs hn σ hI hend
    refine r_185_it s hs σ hI (fun h8 σ' h => hend σ' (h.mono (fun t i k j q => by unfold MQ2 at q; unfold MQb; omega)) (fun k hk => by rw [if_neg (by omega)]; exact h.2 37 0 0 k (by unfold MQ2; omega))) (fun h8 σ' h e => ?_)
    refine IHn (s + 1) (by omega) (by omega) σ' h.1 (fun σ2 h2 e2 => ?_)
    have ev : σ' 36 0 0 634 = σ 36 0 0 634 := h.2 36 0 0 634 (by unfold MQ2; omega)
    have en : σ' 36 0 0 641 = σ 36 0 0 641 := h.2 36 0 0 641 (by unfold MQ2; omega)
    rw [ev]
    refine hend σ2 ((h.mono (fun t i k j q => by unfold MQ2 at q; unfold MQb; omega)).tr h2 (fun _ _ _ _ q => q)) (fun k hk => ?_)
    have e3 := e2 k hk
    by_cases hq : k = Int.toNat s
    · subst hq
      rw [if_neg (by omega)] at e3
      rw [if_pos (by omega), e3, e]
    · have e4 : σ' 37 0 0 k = σ 37 0 0 k := h.2 37 0 0 k (by unfold MQ2; omega)
      have e5 : σ' 40 0 0 k = σ 40 0 0 k := h.2 40 0 0 k (by unfold MQ2; omega)
      rw [e4, e5, en] at e3
      rw [e3]
      by_cases hs1 : s + 1 ≤ (k : Int)
      · rw [if_pos hs1, if_pos (by omega)]
      · rw [if_neg hs1, if_neg (by omega)]
theorem sb77_7c016a8 : ∀ t i k j, MY 0 t i k j → MYr 0 t i k j := by
  intro t i k j h
  unfold MY at h
  unfold MYr
  omega
theorem sb77_de3abaa : ∀ t i k j, MV 0 t i k j → MRm0 t i k j := by
  intro t i k j h
  unfold MV at h
  unfold MRm0
  omega
theorem r_185_0 {xs : Nat × (Nat → Int32)} {Q : Option Value → ZS → Prop}  (σ : ZS) (hI : Inv σ) (hc : σ 35 0 0 3 = 1) (hret : ∀ σ', IF MRm σ σ' → (∀ j, 0 ≤ j → j < 646 → σ' 36 0 0 j = σ 36 0 2 j) → eqn (σ 57 0 0) (σ' 44 0 0) 5 → eqn (σ 58 0 0) (σ' 45 0 0) 600 → (∀ k : Nat, k < 8 → σ' 37 0 0 k = rvh (σ 37 0 0 k) (σ 40 0 0 k) (σ 36 0 2 641)) → Q (some (iv (σ 36 0 2 634))) σ') : TT xs 20 185 0 [(0, av 35 0 0)] [] σ Q := by
  refine (show TJ xs (fun σ' => IF MRm0 σ σ' ∧ σ' 35 0 0 3 = 1 ∧ (∀ j, 0 ≤ j → j < 646 → σ' 36 0 2 j = σ 36 0 2 j) ∧ True) 20 185 0 [(0, av 35 0 0)] [] Q from ?_) σ ⟨IF.rf hI, hc, (fun _ _ _ => rfl), trivial⟩
  refine T_ld zk_185_0 rfl rfl rfl (pc' := 1) rfl ?_
  refine G_getX (w := 1) zk_185_1 rfl vd_35 (fun σ' h => h.2.1) (pc' := 4) rfl ?_
  refine T_if_ne zk_185_4 (by omega) (pc' := 7) rfl (fun h1 => ?_) (fun h2 => ?_)
  ·
    refine T_ld zk_185_14 rfl rfl rfl (pc' := 15) rfl ?_
    refine T_ld zk_185_15 rfl rfl rfl (pc' := 16) rfl ?_
    refine T_getR (t' := 36) (i' := 0) (k' := 2) zk_185_16 rfl rfl rfl vd_35 (pc' := 19) rfl ?_
    refine T_ld zk_185_19 rfl rfl rfl (pc' := 20) rfl ?_
    refine T_getR (t' := 36) (i' := 0) (k' := 0) zk_185_20 rfl rfl rfl vd_35 (pc' := 23) rfl ?_
    refine T_callv (J' := (fun σ' => IF MRm0 σ σ' ∧ σ' 35 0 0 3 = 1 ∧ (∀ j, 0 ≤ j → j < 646 → σ' 36 0 2 j = σ 36 0 2 j) ∧ (∀ j, 0 ≤ j → j < 646 → σ' 36 0 0 j = σ 36 0 2 j) ∧ True)) (r := []) zk_185_23 rfl rfl rfl rfl rfl rfl (Or.inr ⟨_, _, _, _, rfl, vd_35, rfl⟩) (fun σ' h => (m_179_20 ((σ 36 0 2))  σ' h.1.1 (fun j a b => h.2.2.1 j (by omega) (by omega))).le (Nat.le_of_ble_eq_true rfl) (fun v σ2 ⟨h1, h3, h4⟩ => ⟨h1, h.1.tr h3 sb77_de3abaa, (h3.2 _ _ _ _ (by first | exact nMV rfl | (unfold MV; omega))).trans (h.2.1), fun j a b => (h3.2 _ _ _ _ (by first | exact nMV rfl | (unfold MV; omega))).trans (h.2.2.1 j a b), h4.1, trivial⟩)) (pc' := 26) rfl ?_
    refine T_op zk_185_26 rfl X_ic (pc' := 27) rfl ?_
    refine G_know (J' := (fun σ' => IF MRm0 σ σ' ∧ σ' 35 0 0 3 = 1 ∧ (∀ j, 0 ≤ j → j < 646 → σ' 36 0 2 j = σ 36 0 2 j) ∧ (∀ j, 0 ≤ j → j < 646 → σ' 36 0 0 j = σ 36 0 2 j) ∧ eqn (σ 57 0 0) (σ' 44 0 0) (Int.toNat 0) ∧ True)) (fun σ' h => ⟨h.1, h.2.1, h.2.2.1, h.2.2.2.1, (fun j hj => by simp at hj), trivial⟩) ?_
    refine T_st (L' := [(0, av 35 0 0), (1, iv 0)]) zk_185_27 (nL := 2) rfl rfl rfl rfl rfl (pc' := 28) rfl ?_
    refine T_loop1 (fun x4 => ((5 - x4 : Int)).toNat) (fun x4 => (0 ≤ x4 ∧ x4 ≤ 5)) (fun x4 => TJ xs (fun σ' => IF MRm0 σ σ' ∧ σ' 35 0 0 3 = 1 ∧ (∀ j, 0 ≤ j → j < 646 → σ' 36 0 2 j = σ 36 0 2 j) ∧ (∀ j, 0 ≤ j → j < 646 → σ' 36 0 0 j = σ 36 0 2 j) ∧ eqn (σ 57 0 0) (σ' 44 0 0) (Int.toNat x4) ∧ True) 20 185 28 [(0, av 35 0 0), (1, iv x4)] [] _) ?_ 0 (by omega)
    intro x4 hp6 ih5
    have hr57 := hI 57 0 0 (Int.toNat x4) vd_57
    simp only [rgP] at hr57
    refine T_ld zk_185_28 rfl rfl rfl (pc' := 29) rfl ?_
    refine T_op zk_185_29 rfl X_ic (pc' := 30) rfl ?_
    refine T_icmp_ge zk_185_30 (by omega) (by omega) (pc' := 33) rfl (fun h7 => ?_) (fun h8 => ?_)
    ·
      refine T_op zk_185_63 rfl X_ic (pc' := 64) rfl ?_
      refine G_know (J' := (fun σ' => IF MRm0 σ σ' ∧ σ' 35 0 0 3 = 1 ∧ (∀ j, 0 ≤ j → j < 646 → σ' 36 0 2 j = σ 36 0 2 j) ∧ (∀ j, 0 ≤ j → j < 646 → σ' 36 0 0 j = σ 36 0 2 j) ∧ eqn (σ 57 0 0) (σ' 44 0 0) (Int.toNat x4) ∧ eqn (σ 58 0 0) (σ' 45 0 0) (Int.toNat 0) ∧ True)) (fun σ' h => ⟨h.1, h.2.1, h.2.2.1, h.2.2.2.1, h.2.2.2.2.1, (fun j hj => by simp at hj), trivial⟩) ?_
      refine T_st (L' := [(0, av 35 0 0), (1, iv 0)]) zk_185_64 (nL := 2) rfl rfl rfl rfl rfl (pc' := 65) rfl ?_
      refine G_know (J' := (fun σ' => IF MRm0 σ σ' ∧ σ' 35 0 0 3 = 1 ∧ (∀ j, 0 ≤ j → j < 646 → σ' 36 0 2 j = σ 36 0 2 j) ∧ (∀ j, 0 ≤ j → j < 646 → σ' 36 0 0 j = σ 36 0 2 j) ∧ eqn (σ 57 0 0) (σ' 44 0 0) 5 ∧ eqn (σ 58 0 0) (σ' 45 0 0) (Int.toNat 0) ∧ True)) (fun σ' h => ⟨h.1, h.2.1, h.2.2.1, h.2.2.2.1, (eqn_le (h.2.2.2.2.1) (by omega)), h.2.2.2.2.2.1, trivial⟩) ?_
      refine T_loop1 (fun x9 => ((600 - x9 : Int)).toNat) (fun x9 => (0 ≤ x9 ∧ x9 ≤ 600)) (fun x9 => TJ xs (fun σ' => IF MRm0 σ σ' ∧ σ' 35 0 0 3 = 1 ∧ (∀ j, 0 ≤ j → j < 646 → σ' 36 0 2 j = σ 36 0 2 j) ∧ (∀ j, 0 ≤ j → j < 646 → σ' 36 0 0 j = σ 36 0 2 j) ∧ eqn (σ 57 0 0) (σ' 44 0 0) 5 ∧ eqn (σ 58 0 0) (σ' 45 0 0) (Int.toNat x9) ∧ True) 20 185 65 [(0, av 35 0 0), (1, iv x9)] [] _) ?_ 0 (by omega)
      intro x9 hp11 ih10
      have hr58 := hI 58 0 0 (Int.toNat x9) vd_58
      simp only [rgP] at hr58
      refine T_ld zk_185_65 rfl rfl rfl (pc' := 66) rfl ?_
      refine T_op zk_185_66 rfl (X_si (v := 600) (by decide)) (pc' := 69) rfl ?_
      refine T_icmp_ge zk_185_69 (by omega) (by omega) (pc' := 72) rfl (fun h12 => ?_) (fun h13 => ?_)
      ·
        refine T_op zk_185_90 rfl X_ic (pc' := 91) rfl ?_
        refine T_st (L' := [(0, av 35 0 0), (1, iv 0)]) zk_185_91 (nL := 2) rfl rfl rfl rfl rfl (pc' := 92) rfl ?_
        refine G_know (J' := (fun σ' => IF MRm0 σ σ' ∧ σ' 35 0 0 3 = 1 ∧ (∀ j, 0 ≤ j → j < 646 → σ' 36 0 2 j = σ 36 0 2 j) ∧ (∀ j, 0 ≤ j → j < 646 → σ' 36 0 0 j = σ 36 0 2 j) ∧ eqn (σ 57 0 0) (σ' 44 0 0) 5 ∧ eqn (σ 58 0 0) (σ' 45 0 0) 600 ∧ True)) (fun σ' h => ⟨h.1, h.2.1, h.2.2.1, h.2.2.2.1, h.2.2.2.2.1, (eqn_le (h.2.2.2.2.2.1) (by omega)), trivial⟩) ?_
        refine T_loop1 (fun x14 => ((250 - x14 : Int)).toNat) (fun x14 => (0 ≤ x14 ∧ x14 ≤ 250)) (fun x14 => TJ xs (fun σ' => IF MRm0 σ σ' ∧ σ' 35 0 0 3 = 1 ∧ (∀ j, 0 ≤ j → j < 646 → σ' 36 0 2 j = σ 36 0 2 j) ∧ (∀ j, 0 ≤ j → j < 646 → σ' 36 0 0 j = σ 36 0 2 j) ∧ eqn (σ 57 0 0) (σ' 44 0 0) 5 ∧ eqn (σ 58 0 0) (σ' 45 0 0) 600 ∧ True) 20 185 92 [(0, av 35 0 0), (1, iv x14)] [] _) ?_ 0 (by omega)
        intro x14 hp16 ih15
        refine T_ld zk_185_92 rfl rfl rfl (pc' := 93) rfl ?_
        refine T_op zk_185_93 rfl (X_si (v := 250) (by decide)) (pc' := 96) rfl ?_
        refine T_icmp_ge zk_185_96 (by omega) (by omega) (pc' := 99) rfl (fun h17 => ?_) (fun h18 => ?_)
        ·
          refine T_op zk_185_141 rfl X_ic (pc' := 142) rfl ?_
          refine T_st (L' := [(0, av 35 0 0), (1, iv 0)]) zk_185_142 (nL := 2) rfl rfl rfl rfl rfl (pc' := 143) rfl ?_
          refine fun σ' h => r_185_go 8 0 (by omega) (by omega) σ' h.1.1 (fun σ2 h1 h2 => ?_)
          have hb : ∀ j, 0 ≤ j → j < 646 → σ' 36 0 0 j = σ 36 0 2 j := h.2.2.2.1
          rw [show σ' 36 0 0 634 = σ 36 0 2 634 from hb 634 (by omega) (by omega)]
          refine hret σ2 ((h.1.mono (fun t i k j q => by unfold MRm0 at q; unfold MRm; omega)).tr h1 (fun t i k j q => by unfold MQb at q; unfold MRm; omega)) (fun j a b => (h1.2 36 0 0 j (by unfold MQb; omega)).trans (hb j a b)) (gf_mk (fun z => eqn (σ 57 0 0) z 5) (funext fun j => h1.2 44 0 0 j (by unfold MQb; omega)) (h.2.2.2.2.1)) (gf_mk (fun z => eqn (σ 58 0 0) z 600) (funext fun j => h1.2 45 0 0 j (by unfold MQb; omega)) (h.2.2.2.2.2.1)) (fun k hk => ?_)
          have e2 := h2 k hk
          rw [if_pos (by omega), hb 641 (by omega) (by omega), show σ' 37 0 0 k = σ 37 0 0 k from h.1.2 37 0 0 k (by unfold MRm0; omega), show σ' 40 0 0 k = σ 40 0 0 k from h.1.2 40 0 0 k (by unfold MRm0; omega)] at e2
          exact e2
        ·
          refine T_ld zk_185_99 rfl rfl rfl (pc' := 100) rfl ?_
          refine T_getR (t' := 46) (i' := 0) (k' := 0) zk_185_100 rfl rfl rfl vd_35 (pc' := 103) rfl ?_
          refine T_ld zk_185_103 rfl rfl rfl (pc' := 104) rfl ?_
          refine T_ld zk_185_104 rfl rfl rfl (pc' := 105) rfl ?_
          refine T_getR (t' := 59) (i' := 0) (k' := 0) zk_185_105 rfl rfl rfl vd_35 (pc' := 108) rfl ?_
          refine T_ld zk_185_108 rfl rfl rfl (pc' := 109) rfl ?_
          refine G_iald (lo := -2147483648) (hi := 2147483647) (ln := 250) zk_185_109 rfl rfl vd_59 (by omega) (by omega) (by omega) (fun σ' h => h.1.1) (fun _ h => (by have q := h.1; omega)) (pc' := 110) rfl (fun y19 hy19 hy19' => ?_)
          refine G_iast (J' := (fun σ' => IF MRm0 σ σ' ∧ σ' 35 0 0 3 = 1 ∧ (∀ j, 0 ≤ j → j < 646 → σ' 36 0 2 j = σ 36 0 2 j) ∧ (∀ j, 0 ≤ j → j < 646 → σ' 36 0 0 j = σ 36 0 2 j) ∧ eqn (σ 57 0 0) (σ' 44 0 0) 5 ∧ eqn (σ 58 0 0) (σ' 45 0 0) 600 ∧ True)) (ln := 300) zk_185_110 rfl rfl vd_46 (by omega) (by omega) (by omega) (fun σ' h => ⟨h.1.up ⟨by omega, trivial⟩ (by first | exact pMRm0 rfl | (unfold MRm0; omega)), (up_ne (by omega)).trans (h.2.1), fun j a b => (up_ne (by omega)).trans (h.2.2.1 j a b), fun j a b => (up_ne (by omega)).trans (h.2.2.2.1 j a b), gf_mk (fun z => eqn (σ 57 0 0) z 5) (up_row (by omega)) (h.2.2.2.2.1), gf_mk (fun z => eqn (σ 58 0 0) z 600) (up_row (by omega)) (h.2.2.2.2.2.1), trivial⟩) (pc' := 111) rfl ?_
          refine T_ld zk_185_111 rfl rfl rfl (pc' := 112) rfl ?_
          refine T_getR (t' := 47) (i' := 0) (k' := 0) zk_185_112 rfl rfl rfl vd_35 (pc' := 115) rfl ?_
          refine T_ld zk_185_115 rfl rfl rfl (pc' := 116) rfl ?_
          refine T_ld zk_185_116 rfl rfl rfl (pc' := 117) rfl ?_
          refine T_getR (t' := 60) (i' := 0) (k' := 0) zk_185_117 rfl rfl rfl vd_35 (pc' := 120) rfl ?_
          refine T_ld zk_185_120 rfl rfl rfl (pc' := 121) rfl ?_
          refine G_iald (lo := -2147483648) (hi := 2147483647) (ln := 250) zk_185_121 rfl rfl vd_60 (by omega) (by omega) (by omega) (fun σ' h => h.1.1) (fun _ h => (by have q := h.1; omega)) (pc' := 122) rfl (fun y20 hy20 hy20' => ?_)
          refine G_iast (J' := (fun σ' => IF MRm0 σ σ' ∧ σ' 35 0 0 3 = 1 ∧ (∀ j, 0 ≤ j → j < 646 → σ' 36 0 2 j = σ 36 0 2 j) ∧ (∀ j, 0 ≤ j → j < 646 → σ' 36 0 0 j = σ 36 0 2 j) ∧ eqn (σ 57 0 0) (σ' 44 0 0) 5 ∧ eqn (σ 58 0 0) (σ' 45 0 0) 600 ∧ True)) (ln := 300) zk_185_122 rfl rfl vd_47 (by omega) (by omega) (by omega) (fun σ' h => ⟨h.1.up ⟨by omega, trivial⟩ (by first | exact pMRm0 rfl | (unfold MRm0; omega)), (up_ne (by omega)).trans (h.2.1), fun j a b => (up_ne (by omega)).trans (h.2.2.1 j a b), fun j a b => (up_ne (by omega)).trans (h.2.2.2.1 j a b), gf_mk (fun z => eqn (σ 57 0 0) z 5) (up_row (by omega)) (h.2.2.2.2.1), gf_mk (fun z => eqn (σ 58 0 0) z 600) (up_row (by omega)) (h.2.2.2.2.2.1), trivial⟩) (pc' := 123) rfl ?_
          refine T_ld zk_185_123 rfl rfl rfl (pc' := 124) rfl ?_
          refine T_getR (t' := 48) (i' := 0) (k' := 0) zk_185_124 rfl rfl rfl vd_35 (pc' := 127) rfl ?_
          refine T_ld zk_185_127 rfl rfl rfl (pc' := 128) rfl ?_
          refine T_ld zk_185_128 rfl rfl rfl (pc' := 129) rfl ?_
          refine T_getR (t' := 61) (i' := 0) (k' := 0) zk_185_129 rfl rfl rfl vd_35 (pc' := 132) rfl ?_
          refine T_ld zk_185_132 rfl rfl rfl (pc' := 133) rfl ?_
          refine G_iald (lo := -2147483648) (hi := 2147483647) (ln := 250) zk_185_133 rfl rfl vd_61 (by omega) (by omega) (by omega) (fun σ' h => h.1.1) (fun _ h => (by have q := h.1; omega)) (pc' := 134) rfl (fun y21 hy21 hy21' => ?_)
          refine G_iast (J' := (fun σ' => IF MRm0 σ σ' ∧ σ' 35 0 0 3 = 1 ∧ (∀ j, 0 ≤ j → j < 646 → σ' 36 0 2 j = σ 36 0 2 j) ∧ (∀ j, 0 ≤ j → j < 646 → σ' 36 0 0 j = σ 36 0 2 j) ∧ eqn (σ 57 0 0) (σ' 44 0 0) 5 ∧ eqn (σ 58 0 0) (σ' 45 0 0) 600 ∧ True)) (ln := 300) zk_185_134 rfl rfl vd_48 (by omega) (by omega) (by omega) (fun σ' h => ⟨h.1.up ⟨by omega, trivial⟩ (by first | exact pMRm0 rfl | (unfold MRm0; omega)), (up_ne (by omega)).trans (h.2.1), fun j a b => (up_ne (by omega)).trans (h.2.2.1 j a b), fun j a b => (up_ne (by omega)).trans (h.2.2.2.1 j a b), gf_mk (fun z => eqn (σ 57 0 0) z 5) (up_row (by omega)) (h.2.2.2.2.1), gf_mk (fun z => eqn (σ 58 0 0) z 600) (up_row (by omega)) (h.2.2.2.2.2.1), trivial⟩) (pc' := 135) rfl ?_
          refine T_iinc (L' := [(0, av 35 0 0), (1, iv (x14 + 1))]) zk_185_135 (nL := 2) rfl rfl rfl rfl (pc' := 138) rfl ?_
          refine T_goto zk_185_138 ?_
          exact ih15 (x14 + 1) (by omega) (by omega)
      ·
        refine T_ld zk_185_72 rfl rfl rfl (pc' := 73) rfl ?_
        refine T_getR (t' := 45) (i' := 0) (k' := 0) zk_185_73 rfl rfl rfl vd_35 (pc' := 76) rfl ?_
        refine T_ld zk_185_76 rfl rfl rfl (pc' := 77) rfl ?_
        refine T_ld zk_185_77 rfl rfl rfl (pc' := 78) rfl ?_
        refine T_getR (t' := 58) (i' := 0) (k' := 0) zk_185_78 rfl rfl rfl vd_35 (pc' := 81) rfl ?_
        refine T_ld zk_185_81 rfl rfl rfl (pc' := 82) rfl ?_
        refine G_ialdX (w := σ 58 0 0 (Int.toNat x9)) (ln := 600) zk_185_82 rfl rfl vd_58 (by omega) (by omega) (by omega) (fun σ' h => h.1.2 _ _ _ _ (by first | exact nMRm0 rfl | (unfold MRm0; omega))) (pc' := 83) rfl ?_
        refine G_iast (J' := (fun σ' => IF MRm0 σ σ' ∧ σ' 35 0 0 3 = 1 ∧ (∀ j, 0 ≤ j → j < 646 → σ' 36 0 2 j = σ 36 0 2 j) ∧ (∀ j, 0 ≤ j → j < 646 → σ' 36 0 0 j = σ 36 0 2 j) ∧ eqn (σ 57 0 0) (σ' 44 0 0) 5 ∧ eqn (σ 58 0 0) (σ' 45 0 0) (Int.toNat (x9 + 1)) ∧ True)) (ln := 720) zk_185_83 rfl rfl vd_45 (by omega) (by omega) (by omega) (fun σ' h => ⟨h.1.up (by simp only [rgP] <;> omega) (by first | exact pMRm0 rfl | (unfold MRm0; omega)), (up_ne (by omega)).trans (h.2.1), fun j a b => (up_ne (by omega)).trans (h.2.2.1 j a b), fun j a b => (up_ne (by omega)).trans (h.2.2.2.1 j a b), gf_mk (fun z => eqn (σ 57 0 0) z 5) (up_row (by omega)) (h.2.2.2.2.1), eqn_push (h.2.2.2.2.2.1) (by omega) (by omega) rfl, trivial⟩) (pc' := 84) rfl ?_
        refine T_iinc (L' := [(0, av 35 0 0), (1, iv (x9 + 1))]) zk_185_84 (nL := 2) rfl rfl rfl rfl (pc' := 87) rfl ?_
        refine T_goto zk_185_87 ?_
        exact ih10 (x9 + 1) (by omega) (by omega)
    ·
      refine T_ld zk_185_33 rfl rfl rfl (pc' := 34) rfl ?_
      refine T_getR (t' := 43) (i' := 0) (k' := 0) zk_185_34 rfl rfl rfl vd_35 (pc' := 37) rfl ?_
      refine T_ld zk_185_37 rfl rfl rfl (pc' := 38) rfl ?_
      refine T_ld zk_185_38 rfl rfl rfl (pc' := 39) rfl ?_
      refine T_getR (t' := 56) (i' := 0) (k' := 0) zk_185_39 rfl rfl rfl vd_35 (pc' := 42) rfl ?_
      refine T_ld zk_185_42 rfl rfl rfl (pc' := 43) rfl ?_
      refine G_iald (lo := -2147483648) (hi := 2147483647) (ln := 5) zk_185_43 rfl rfl vd_56 (by omega) (by omega) (by omega) (fun σ' h => h.1.1) (fun _ h => (by have q := h.1; omega)) (pc' := 44) rfl (fun y22 hy22 hy22' => ?_)
      refine G_iast (J' := (fun σ' => IF MRm0 σ σ' ∧ σ' 35 0 0 3 = 1 ∧ (∀ j, 0 ≤ j → j < 646 → σ' 36 0 2 j = σ 36 0 2 j) ∧ (∀ j, 0 ≤ j → j < 646 → σ' 36 0 0 j = σ 36 0 2 j) ∧ eqn (σ 57 0 0) (σ' 44 0 0) (Int.toNat x4) ∧ True)) (ln := 6) zk_185_44 rfl rfl vd_43 (by omega) (by omega) (by omega) (fun σ' h => ⟨h.1.up ⟨by omega, trivial⟩ (by first | exact pMRm0 rfl | (unfold MRm0; omega)), (up_ne (by omega)).trans (h.2.1), fun j a b => (up_ne (by omega)).trans (h.2.2.1 j a b), fun j a b => (up_ne (by omega)).trans (h.2.2.2.1 j a b), gf_mk (fun z => eqn (σ 57 0 0) z (Int.toNat x4)) (up_row (by omega)) (h.2.2.2.2.1), trivial⟩) (pc' := 45) rfl ?_
      refine T_ld zk_185_45 rfl rfl rfl (pc' := 46) rfl ?_
      refine T_getR (t' := 44) (i' := 0) (k' := 0) zk_185_46 rfl rfl rfl vd_35 (pc' := 49) rfl ?_
      refine T_ld zk_185_49 rfl rfl rfl (pc' := 50) rfl ?_
      refine T_ld zk_185_50 rfl rfl rfl (pc' := 51) rfl ?_
      refine T_getR (t' := 57) (i' := 0) (k' := 0) zk_185_51 rfl rfl rfl vd_35 (pc' := 54) rfl ?_
      refine T_ld zk_185_54 rfl rfl rfl (pc' := 55) rfl ?_
      refine G_ialdX (w := σ 57 0 0 (Int.toNat x4)) (ln := 5) zk_185_55 rfl rfl vd_57 (by omega) (by omega) (by omega) (fun σ' h => h.1.2 _ _ _ _ (by first | exact nMRm0 rfl | (unfold MRm0; omega))) (pc' := 56) rfl ?_
      refine G_iast (J' := (fun σ' => IF MRm0 σ σ' ∧ σ' 35 0 0 3 = 1 ∧ (∀ j, 0 ≤ j → j < 646 → σ' 36 0 2 j = σ 36 0 2 j) ∧ (∀ j, 0 ≤ j → j < 646 → σ' 36 0 0 j = σ 36 0 2 j) ∧ eqn (σ 57 0 0) (σ' 44 0 0) (Int.toNat (x4 + 1)) ∧ True)) (ln := 6) zk_185_56 rfl rfl vd_44 (by omega) (by omega) (by omega) (fun σ' h => ⟨h.1.up (by simp only [rgP] <;> omega) (by first | exact pMRm0 rfl | (unfold MRm0; omega)), (up_ne (by omega)).trans (h.2.1), fun j a b => (up_ne (by omega)).trans (h.2.2.1 j a b), fun j a b => (up_ne (by omega)).trans (h.2.2.2.1 j a b), eqn_push (h.2.2.2.2.1) (by omega) (by omega) rfl, trivial⟩) (pc' := 57) rfl ?_
      refine T_iinc (L' := [(0, av 35 0 0), (1, iv (x4 + 1))]) zk_185_57 (nL := 2) rfl rfl rfl rfl (pc' := 60) rfl ?_
      refine T_goto zk_185_60 ?_
      exact ih5 (x4 + 1) (by omega) (by omega)
  · exfalso; omega
theorem r_185r {xs : Nat × (Nat → Int32)} (n : Int) (σ : ZS) (hI : Inv σ) (s1 : σ 35 0 0 3 = 1) (s2 : σ 36 0 2 634 = n) : CT xs 21 185 [av 35 0 0] σ (fun v σ' => ∃ y, v = some (iv y) ∧ (y = n) ∧ IF MRm σ σ' ∧ ((∀ j, 0 ≤ j → j < 646 → σ' 36 0 0 j = σ 36 0 2 j) ∧ eqn (σ 57 0 0) (σ' 44 0 0) 5 ∧ eqn (σ 58 0 0) (σ' 45 0 0) 600 ∧ (∀ k : Nat, k < 8 → σ' 37 0 0 k = rvh (σ 37 0 0 k) (σ 40 0 0 k) (σ 36 0 2 641)) ∧ True)) := by
  subst s2
  exact CT.of (nL := 2) rfl (Nat.le_of_ble_eq_true rfl) (L := [(0, av 35 0 0)]) rfl (r_185_0 σ hI s1 (fun σ' h1 h2 h3 h4 h5 => ⟨_, rfl, rfl, h1, h2, h3, h4, h5, trivial⟩))
