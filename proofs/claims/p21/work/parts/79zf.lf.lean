def MLkd (c a : Nat) (t i k j : Nat) : Prop := (t = 23 ∨ t = 24) ∧ i = c ∧ k = a
theorem nMLkd {c a t i k j : Nat} (hb : decide ((t = 23 ∨ t = 24)) = false) : ¬ MLkd c a t i k j := fun h => of_decide_eq_false hb (by unfold MLkd at h; omega)
def MLd (c : Nat) (t i k j : Nat) : Prop := (t = 23 ∨ t = 24) ∧ i = c
def MLx (a : Nat) (t i k j : Nat) : Prop := (29 ≤ t ∧ t ≤ 32) ∨ t = 28 ∨ (t = 0 ∧ j = 7) ∨ (i = 0 ∧ t = 1 ∧ j = 5) ∨ ((t = 23 ∨ t = 24) ∧ i = 0 ∧ k = a)
theorem nMLx {a t i k j : Nat} (hb : decide (((29 ≤ t ∧ t ≤ 32) ∨ t = 28 ∨ (t = 0 ∧ j = 7) ∨ (t = 1 ∧ j = 5) ∨ (t = 23 ∨ t = 24))) = false) : ¬ MLx a t i k j := fun h => of_decide_eq_false hb (by unfold MLx at h; omega)
theorem pMLx {a t i k j : Nat} (hb : decide (((29 ≤ t ∧ t ≤ 32) ∨ t = 28 ∨ (t = 0 ∧ j = 7))) = true) : MLx a t i k j := by
  have h := of_decide_eq_true hb
  unfold MLx
  omega
def MFo (a : Nat) (t i k j : Nat) : Prop := (t = 23 ∧ i = 0 ∧ k = a ∧ j = 1) ∨ t = 28
theorem nMFo {a t i k j : Nat} (hb : decide (((t = 23 ∧ j = 1) ∨ t = 28)) = false) : ¬ MFo a t i k j := fun h => of_decide_eq_false hb (by unfold MFo at h; omega)
theorem pMFo {a t i k j : Nat} (hb : decide (t = 28) = true) : MFo a t i k j := by
  have h := of_decide_eq_true hb
  unfold MFo
  omega
def MG36 (b : Nat) (t i k j : Nat) : Prop := t = 36 ∧ i = 0 ∧ k = 0 ∧ j = b
def MH36 (b : Nat) (t i k j : Nat) : Prop := (t = 36 ∧ i = 0 ∧ k = 0 ∧ j = b) ∨ t = 49
def MYh (c : Nat) (t i k j : Nat) : Prop := i = c ∧ (t = 25 ∨ t = 26 ∨ (t = 1 ∧ 6 ≤ j))
theorem nMYh {c t i k j : Nat} (hb : decide ((t = 25 ∨ t = 26 ∨ (t = 1 ∧ 6 ≤ j))) = false) : ¬ MYh c t i k j := fun h => of_decide_eq_false hb (by unfold MYh at h; omega)
def MLb (a : Nat) (t i k j : Nat) : Prop := (t = 36 ∧ k = 0 ∧ (j = a ∨ j = 640)) ∨ (43 ≤ t ∧ t ≤ 50) ∨ (t = 35 ∧ (j = 16 ∨ (19 ≤ j ∧ j ≤ 25)))
theorem nMLb {a t i k j : Nat} (hb : decide (((t = 36 ∧ (j = a ∨ j = 640)) ∨ (43 ≤ t ∧ t ≤ 50) ∨ (t = 35 ∧ (j = 16 ∨ (19 ≤ j ∧ j ≤ 25))))) = false) : ¬ MLb a t i k j := fun h => of_decide_eq_false hb (by unfold MLb at h; omega)
theorem pMLb {a t i k j : Nat} (hb : decide (((43 ≤ t ∧ t ≤ 50) ∨ (t = 35 ∧ (j = 16 ∨ (19 ≤ j ∧ j ≤ 25))))) = true) : MLb a t i k j := by
  have h := of_decide_eq_true hb
  unfold MLb
  omega
/-- W$Law.takeLaw -/
theorem s_46d {xs : Nat × (Nat → Int32)} (k : Nat) (f : Int) (hk : k < 5) (hf : 0 ≤ f ∧ f ≤ 1) (σ : ZS) (hI : Inv σ)  (sf : σ 30 0 0 1 = f) : CT xs 1 46 [av 23 0 k, av 30 0 0] σ (fun v σ' => v = none ∧ IF (MLkd 0 k) σ σ' ∧ (σ' 23 0 k 1 = f ∧ True)) := by
  refine G_ct (J := (fun σ' => IF (MLkd 0 k) σ σ' ∧ True)) (L := [(0, av 23 0 k), (1, av 30 0 0)]) (nL := 2) rfl rfl rfl ⟨IF.rf hI, trivial⟩ ?_
  refine T_ld zk_46_0 rfl rfl rfl (pc' := 1) rfl ?_
  refine T_ld zk_46_1 rfl rfl rfl (pc' := 2) rfl ?_
  refine G_getf (lo := -2147483648) (hi := 2147483647) zk_46_2 rfl vd_30 (fun σ' h => h.1.1) (fun _ h => (by have q := h.1; omega)) (pc' := 5) rfl (fun y1 hy1 hy1' => ?_)
  refine T_putf (J' := (fun σ' => IF (MLkd 0 k) σ σ' ∧ σ' 23 0 k 0 = y1 ∧ True)) zk_46_5 rfl rfl (vd_23 (by omega) (by omega)) (fun σ' h => ⟨h.1.up (by simp only [rgP] <;> omega) (by unfold MLkd; omega), up_eq, trivial⟩) (pc' := 8) rfl ?_
  refine T_ld zk_46_8 rfl rfl rfl (pc' := 9) rfl ?_
  refine T_ld zk_46_9 rfl rfl rfl (pc' := 10) rfl ?_
  refine G_getX (w := f) zk_46_10 rfl vd_30 (fun σ' h => (h.1.2 _ _ _ _ (by first | exact nMLkd rfl | (unfold MLkd; omega))).trans sf) (pc' := 13) rfl ?_
  refine T_putz (J' := (fun σ' => IF (MLkd 0 k) σ σ' ∧ σ' 23 0 k 0 = y1 ∧ σ' 23 0 k 1 = f ∧ True)) zk_46_13 rfl rfl (by omega) (vd_23 (by omega) (by omega)) (fun σ' h => ⟨h.1.up (by simp only [rgP] <;> omega) (by unfold MLkd; omega), (up_ne (by omega)).trans (h.2.1), up_eq, trivial⟩) (pc' := 16) rfl ?_
  refine T_ld zk_46_16 rfl rfl rfl (pc' := 17) rfl ?_
  refine T_ld zk_46_17 rfl rfl rfl (pc' := 18) rfl ?_
  refine G_getf (lo := 0) (hi := 96) zk_46_18 rfl vd_30 (fun σ' h => h.1.1) (fun _ h => h.2.1 (by omega) (by omega)) (pc' := 21) rfl (fun y2 hy2 hy2' => ?_)
  refine T_putf (J' := (fun σ' => IF (MLkd 0 k) σ σ' ∧ σ' 23 0 k 0 = y1 ∧ σ' 23 0 k 1 = f ∧ σ' 23 0 k 2 = y2 ∧ True)) zk_46_21 rfl rfl (vd_23 (by omega) (by omega)) (fun σ' h => ⟨h.1.up (by simp only [rgP] <;> omega) (by unfold MLkd; omega), (up_ne (by omega)).trans (h.2.1), (up_ne (by omega)).trans (h.2.2.1), up_eq, trivial⟩) (pc' := 24) rfl ?_
  refine T_ld zk_46_24 rfl rfl rfl (pc' := 25) rfl ?_
  refine T_getR (t' := 31) (i' := 0) (k' := 0) zk_46_25 rfl rfl rfl vd_30 (pc' := 28) rfl ?_
  refine T_op zk_46_28 rfl X_ic (pc' := 29) rfl ?_
  refine T_ld zk_46_29 rfl rfl rfl (pc' := 30) rfl ?_
  refine T_getR (t' := 24) (i' := 0) (k' := k) zk_46_30 rfl rfl rfl (vd_23 (by omega) (by omega)) (pc' := 33) rfl ?_
  refine T_op zk_46_33 rfl X_ic (pc' := 34) rfl ?_
  refine T_op zk_46_34 rfl (X_bi (v := 96) (by decide)) (pc' := 36) rfl ?_
  refine G_copy (J' := (fun σ' => IF (MLkd 0 k) σ σ' ∧ σ' 23 0 k 0 = y1 ∧ σ' 23 0 k 1 = f ∧ σ' 23 0 k 2 = y2 ∧ True)) (l0 := 96) (l1 := 96) (kk := 12) zk_46_36 rfl rfl (by decide) rfl rfl rfl rfl vd_31 (vd_24 (by omega) (by omega)) (by omega) (by omega) (by omega) (by omega) (by omega) (fun σ' h => ⟨h.1.cp (rg_cp0 rfl (fun _ _ h => ⟨by have q := h.1; omega, trivial⟩) (fun j => h.1.1 31 0 0 j vd_31) (fun j => h.1.1 24 0 k j (vd_24 (by omega) (by omega)))) (fun j => (by unfold MLkd; omega)), (congrFun (upr_oth _ _ _ (by omega)) _).trans (h.2.1), (congrFun (upr_oth _ _ _ (by omega)) _).trans (h.2.2.1), (congrFun (upr_oth _ _ _ (by omega)) _).trans (h.2.2.2.1), trivial⟩) (pc' := 39) rfl ?_
  exact T_vret zk_46_39 rfl (fun σ' h => ⟨rfl, h.1, ⟨h.2.2.1, trivial⟩⟩)
/-- W$Law.takeLaw -/
theorem s_46f_1 {xs : Nat × (Nat → Int32)} (k : Nat) (f : Int) (hk : k < 5) (hf : 0 ≤ f ∧ f ≤ 1) (σ : ZS) (hI : Inv σ)  (sf : σ 23 0 k 1 = f) : CT xs 1 46 [av 23 1 k, av 23 0 k] σ (fun v σ' => v = none ∧ IF (MLkd 1 k) σ σ' ∧ (σ' 23 1 k 1 = f ∧ True)) := by
  refine G_ct (J := (fun σ' => IF (MLkd 1 k) σ σ' ∧ True)) (L := [(0, av 23 1 k), (1, av 23 0 k)]) (nL := 2) rfl rfl rfl ⟨IF.rf hI, trivial⟩ ?_
  refine T_ld zk_46_0 rfl rfl rfl (pc' := 1) rfl ?_
  refine T_ld zk_46_1 rfl rfl rfl (pc' := 2) rfl ?_
  refine G_getf (lo := -2147483648) (hi := 2147483647) zk_46_2 rfl (vd_23 (by omega) (by omega)) (fun σ' h => h.1.1) (fun _ h => (by have q := h.1; omega)) (pc' := 5) rfl (fun y1 hy1 hy1' => ?_)
  refine T_putf (J' := (fun σ' => IF (MLkd 1 k) σ σ' ∧ σ' 23 1 k 0 = y1 ∧ True)) zk_46_5 rfl rfl (vd_23 (by omega) (by omega)) (fun σ' h => ⟨h.1.up (by simp only [rgP] <;> omega) (by unfold MLkd; omega), up_eq, trivial⟩) (pc' := 8) rfl ?_
  refine T_ld zk_46_8 rfl rfl rfl (pc' := 9) rfl ?_
  refine T_ld zk_46_9 rfl rfl rfl (pc' := 10) rfl ?_
  refine G_getX (w := f) zk_46_10 rfl (vd_23 (by omega) (by omega)) (fun σ' h => (h.1.2 _ _ _ _ (by first | exact nMLkd rfl | (unfold MLkd; omega))).trans sf) (pc' := 13) rfl ?_
  refine T_putz (J' := (fun σ' => IF (MLkd 1 k) σ σ' ∧ σ' 23 1 k 0 = y1 ∧ σ' 23 1 k 1 = f ∧ True)) zk_46_13 rfl rfl (by omega) (vd_23 (by omega) (by omega)) (fun σ' h => ⟨h.1.up (by simp only [rgP] <;> omega) (by unfold MLkd; omega), (up_ne (by omega)).trans (h.2.1), up_eq, trivial⟩) (pc' := 16) rfl ?_
  refine T_ld zk_46_16 rfl rfl rfl (pc' := 17) rfl ?_
  refine T_ld zk_46_17 rfl rfl rfl (pc' := 18) rfl ?_
  refine G_getf (lo := 0) (hi := 96) zk_46_18 rfl (vd_23 (by omega) (by omega)) (fun σ' h => h.1.1) (fun _ h => h.2.1 (by omega) (by omega)) (pc' := 21) rfl (fun y2 hy2 hy2' => ?_)
  refine T_putf (J' := (fun σ' => IF (MLkd 1 k) σ σ' ∧ σ' 23 1 k 0 = y1 ∧ σ' 23 1 k 1 = f ∧ σ' 23 1 k 2 = y2 ∧ True)) zk_46_21 rfl rfl (vd_23 (by omega) (by omega)) (fun σ' h => ⟨h.1.up (by simp only [rgP] <;> omega) (by unfold MLkd; omega), (up_ne (by omega)).trans (h.2.1), (up_ne (by omega)).trans (h.2.2.1), up_eq, trivial⟩) (pc' := 24) rfl ?_
  refine T_ld zk_46_24 rfl rfl rfl (pc' := 25) rfl ?_
  refine T_getR (t' := 24) (i' := 0) (k' := k) zk_46_25 rfl rfl rfl (vd_23 (by omega) (by omega)) (pc' := 28) rfl ?_
  refine T_op zk_46_28 rfl X_ic (pc' := 29) rfl ?_
  refine T_ld zk_46_29 rfl rfl rfl (pc' := 30) rfl ?_
  refine T_getR (t' := 24) (i' := 1) (k' := k) zk_46_30 rfl rfl rfl (vd_23 (by omega) (by omega)) (pc' := 33) rfl ?_
  refine T_op zk_46_33 rfl X_ic (pc' := 34) rfl ?_
  refine T_op zk_46_34 rfl (X_bi (v := 96) (by decide)) (pc' := 36) rfl ?_
  refine G_copy (J' := (fun σ' => IF (MLkd 1 k) σ σ' ∧ σ' 23 1 k 0 = y1 ∧ σ' 23 1 k 1 = f ∧ σ' 23 1 k 2 = y2 ∧ True)) (l0 := 96) (l1 := 96) (kk := 12) zk_46_36 rfl rfl (by decide) rfl rfl rfl rfl (vd_24 (by omega) (by omega)) (vd_24 (by omega) (by omega)) (by omega) (by omega) (by omega) (by omega) (by omega) (fun σ' h => ⟨h.1.cp (rg_cp0 rfl (fun _ _ h => h) (fun j => h.1.1 24 0 k j (vd_24 (by omega) (by omega))) (fun j => h.1.1 24 1 k j (vd_24 (by omega) (by omega)))) (fun j => (by unfold MLkd; omega)), (congrFun (upr_oth _ _ _ (by omega)) _).trans (h.2.1), (congrFun (upr_oth _ _ _ (by omega)) _).trans (h.2.2.1), (congrFun (upr_oth _ _ _ (by omega)) _).trans (h.2.2.2.1), trivial⟩) (pc' := 39) rfl ?_
  exact T_vret zk_46_39 rfl (fun σ' h => ⟨rfl, h.1, ⟨h.2.2.1, trivial⟩⟩)
/-- W$Law.takeLaw -/
theorem s_46f_0 {xs : Nat × (Nat → Int32)} (k : Nat) (f : Int) (hk : k < 5) (hf : 0 ≤ f ∧ f ≤ 1) (σ : ZS) (hI : Inv σ)  (sf : σ 23 1 k 1 = f) : CT xs 1 46 [av 23 0 k, av 23 1 k] σ (fun v σ' => v = none ∧ IF (MLkd 0 k) σ σ' ∧ (σ' 23 0 k 1 = f ∧ True)) := by
  refine G_ct (J := (fun σ' => IF (MLkd 0 k) σ σ' ∧ True)) (L := [(0, av 23 0 k), (1, av 23 1 k)]) (nL := 2) rfl rfl rfl ⟨IF.rf hI, trivial⟩ ?_
  refine T_ld zk_46_0 rfl rfl rfl (pc' := 1) rfl ?_
  refine T_ld zk_46_1 rfl rfl rfl (pc' := 2) rfl ?_
  refine G_getf (lo := -2147483648) (hi := 2147483647) zk_46_2 rfl (vd_23 (by omega) (by omega)) (fun σ' h => h.1.1) (fun _ h => (by have q := h.1; omega)) (pc' := 5) rfl (fun y1 hy1 hy1' => ?_)
  refine T_putf (J' := (fun σ' => IF (MLkd 0 k) σ σ' ∧ σ' 23 0 k 0 = y1 ∧ True)) zk_46_5 rfl rfl (vd_23 (by omega) (by omega)) (fun σ' h => ⟨h.1.up (by simp only [rgP] <;> omega) (by unfold MLkd; omega), up_eq, trivial⟩) (pc' := 8) rfl ?_
  refine T_ld zk_46_8 rfl rfl rfl (pc' := 9) rfl ?_
  refine T_ld zk_46_9 rfl rfl rfl (pc' := 10) rfl ?_
  refine G_getX (w := f) zk_46_10 rfl (vd_23 (by omega) (by omega)) (fun σ' h => (h.1.2 _ _ _ _ (by first | exact nMLkd rfl | (unfold MLkd; omega))).trans sf) (pc' := 13) rfl ?_
  refine T_putz (J' := (fun σ' => IF (MLkd 0 k) σ σ' ∧ σ' 23 0 k 0 = y1 ∧ σ' 23 0 k 1 = f ∧ True)) zk_46_13 rfl rfl (by omega) (vd_23 (by omega) (by omega)) (fun σ' h => ⟨h.1.up (by simp only [rgP] <;> omega) (by unfold MLkd; omega), (up_ne (by omega)).trans (h.2.1), up_eq, trivial⟩) (pc' := 16) rfl ?_
  refine T_ld zk_46_16 rfl rfl rfl (pc' := 17) rfl ?_
  refine T_ld zk_46_17 rfl rfl rfl (pc' := 18) rfl ?_
  refine G_getf (lo := 0) (hi := 96) zk_46_18 rfl (vd_23 (by omega) (by omega)) (fun σ' h => h.1.1) (fun _ h => h.2.1 (by omega) (by omega)) (pc' := 21) rfl (fun y2 hy2 hy2' => ?_)
  refine T_putf (J' := (fun σ' => IF (MLkd 0 k) σ σ' ∧ σ' 23 0 k 0 = y1 ∧ σ' 23 0 k 1 = f ∧ σ' 23 0 k 2 = y2 ∧ True)) zk_46_21 rfl rfl (vd_23 (by omega) (by omega)) (fun σ' h => ⟨h.1.up (by simp only [rgP] <;> omega) (by unfold MLkd; omega), (up_ne (by omega)).trans (h.2.1), (up_ne (by omega)).trans (h.2.2.1), up_eq, trivial⟩) (pc' := 24) rfl ?_
  refine T_ld zk_46_24 rfl rfl rfl (pc' := 25) rfl ?_
  refine T_getR (t' := 24) (i' := 1) (k' := k) zk_46_25 rfl rfl rfl (vd_23 (by omega) (by omega)) (pc' := 28) rfl ?_
  refine T_op zk_46_28 rfl X_ic (pc' := 29) rfl ?_
  refine T_ld zk_46_29 rfl rfl rfl (pc' := 30) rfl ?_
  refine T_getR (t' := 24) (i' := 0) (k' := k) zk_46_30 rfl rfl rfl (vd_23 (by omega) (by omega)) (pc' := 33) rfl ?_
  refine T_op zk_46_33 rfl X_ic (pc' := 34) rfl ?_
  refine T_op zk_46_34 rfl (X_bi (v := 96) (by decide)) (pc' := 36) rfl ?_
  refine G_copy (J' := (fun σ' => IF (MLkd 0 k) σ σ' ∧ σ' 23 0 k 0 = y1 ∧ σ' 23 0 k 1 = f ∧ σ' 23 0 k 2 = y2 ∧ True)) (l0 := 96) (l1 := 96) (kk := 12) zk_46_36 rfl rfl (by decide) rfl rfl rfl rfl (vd_24 (by omega) (by omega)) (vd_24 (by omega) (by omega)) (by omega) (by omega) (by omega) (by omega) (by omega) (fun σ' h => ⟨h.1.cp (rg_cp0 rfl (fun _ _ h => h) (fun j => h.1.1 24 1 k j (vd_24 (by omega) (by omega))) (fun j => h.1.1 24 0 k j (vd_24 (by omega) (by omega)))) (fun j => (by unfold MLkd; omega)), (congrFun (upr_oth _ _ _ (by omega)) _).trans (h.2.1), (congrFun (upr_oth _ _ _ (by omega)) _).trans (h.2.2.1), (congrFun (upr_oth _ _ _ (by omega)) _).trans (h.2.2.2.1), trivial⟩) (pc' := 39) rfl ?_
  exact T_vret zk_46_39 rfl (fun σ' h => ⟨rfl, h.1, ⟨h.2.2.1, trivial⟩⟩)
theorem sb79zf_e148169 (v0 : Nat) : ∀ t i k j, MR t i k j → MLx v0 t i k j := by
  intro t i k j h
  unfold MR at h
  unfold MLx
  omega
theorem sb79zf_5a6c416 (v0 : Nat) : ∀ t i k j, MLkd 0 v0 t i k j → MLx v0 t i k j := by
  intro t i k j h
  unfold MLkd at h
  unfold MLx
  omega
theorem sb79zf_87f10dd (v0 : Nat) : ∀ t i k j, MI 0 28 28 28 28 t i k j → MLx v0 t i k j := by
  intro t i k j h
  unfold MI at h
  unfold MLx
  omega
/-- W.law -/
theorem s_93f {xs : Nat × (Nat → Int32)} (p0 : Int) (u0 : Int) (u2 : Int) (n : Int) (g : Int) (F : Nat → Int) (hp0 : 0 ≤ p0 ∧ p0 ≤ 7) (hu0 : -2147483648 ≤ u0 ∧ u0 ≤ 2147483647) (hu2 : 0 ≤ u2 ∧ u2 ≤ 96) (hn : 0 ≤ n ∧ n ≤ 5) (σ : ZS) (hI : Inv σ)  (s0 : σ 33 0 (Int.toNat p0) 0 = u0) (s2 : σ 33 0 (Int.toNat p0) 2 = u2) (rf : Eq (σ 34 0 (Int.toNat p0)) F) (sn : σ 1 0 0 5 = n) (sg : σ 23 0 (Int.toNat n) 1 = g) : CT xs 68 93 [av 0 0 0, iv p0] σ (fun v σ' => ∃ y, v = some (iv y) ∧ ((y = -2 ∧ (u0 = 2)) ∨ (y = -3 ∧ ¬ (u0 = 2) ∧ (u0 = 0)) ∨ (y = -6 ∧ ¬ (u0 = 2) ∧ ¬ (u0 = 0) ∧ (¬ LAWF (fun q => L2I (F q)) u2 = -1)) ∨ (y = -7 ∧ ¬ (u0 = 2) ∧ ¬ (u0 = 0) ∧ ¬ (¬ LAWF (fun q => L2I (F q)) u2 = -1) ∧ (5 ≤ n)) ∨ (y = n ∧ ¬ (u0 = 2) ∧ ¬ (u0 = 0) ∧ ¬ (¬ LAWF (fun q => L2I (F q)) u2 = -1) ∧ ¬ (5 ≤ n))) ∧ IF (MLx (Int.toNat n)) σ σ' ∧ (((y < 0 → σ' 1 0 0 5 = n) ∧ (0 ≤ y → σ' 1 0 0 5 = n + 1)) ∧ ((0 ≤ y → σ' 23 0 (Int.toNat n) 1 = 1) ∧ (y < 0 → σ' 23 0 (Int.toNat n) 1 = g)) ∧ True)) := by
  refine G_ct (J := (fun σ' => IF (MLx (Int.toNat n)) σ σ' ∧ Eq (σ' 34 0 (Int.toNat p0)) F ∧ σ' 1 0 0 5 = n ∧ σ' 23 0 (Int.toNat n) 1 = g ∧ True)) (L := [(0, av 0 0 0), (1, iv p0)]) (nL := 3) rfl rfl rfl ⟨IF.rf hI, rf, sn, sg, trivial⟩ ?_
  refine T_ld zk_93_0 rfl rfl rfl (pc' := 1) rfl ?_
  refine T_ld zk_93_1 rfl rfl rfl (pc' := 2) rfl ?_
  refine T_calli (K := fun y1 σ' => ((y1 = -2 ∧ (u0 = 2)) ∨ (y1 = -3 ∧ ¬ (u0 = 2) ∧ (u0 = 0)) ∨ (y1 = 0 ∧ ¬ (u0 = 2) ∧ ¬ (u0 = 0))) ∧ (fun σ' => IF (MLx (Int.toNat n)) σ σ' ∧ Eq (σ' 34 0 (Int.toNat p0)) F ∧ σ' 1 0 0 5 = n ∧ σ' 23 0 (Int.toNat n) 1 = g ∧ True) σ') (r := []) zk_93_2 rfl rfl rfl rfl rfl rfl (Or.inr ⟨_, _, _, _, rfl, vd_0, rfl⟩) (fun σ' h => (s_119 p0 u0 (by omega) (by omega) σ' h.1.1 ((h.1.2 _ _ _ _ (by first | exact nMLx rfl | (unfold MLx; omega))).trans s0)).le (Nat.le_of_ble_eq_true rfl) (fun v σ2 ⟨y, h1, h2, h3, h4⟩ => ⟨y, h1, h2, h.1.tr h3 MN_sub, gf_mk (fun z => Eq z F) (funext fun j => h3.2 _ _ _ _ (fun q => q)) (h.2.1), (h3.2 _ _ _ _ (fun q => q)).trans (h.2.2.1), (h3.2 _ _ _ _ (fun q => q)).trans (h.2.2.2.1), trivial⟩)) (pc' := 5) rfl (fun y1 => ?_)
  refine G_ex (fun hy1 => ?_)
  refine T_st (L' := [(0, av 0 0 0), (1, iv p0), (2, iv y1)]) zk_93_5 (nL := 3) rfl rfl rfl rfl rfl (pc' := 6) rfl ?_
  refine T_ld zk_93_6 rfl rfl rfl (pc' := 7) rfl ?_
  refine T_if_eq zk_93_7 (by omega) (pc' := 10) rfl (fun h2 => ?_) (fun h3 => ?_)
  ·
    refine T_ld zk_93_16 rfl rfl rfl (pc' := 17) rfl ?_
    refine T_ld zk_93_17 rfl rfl rfl (pc' := 18) rfl ?_
    refine T_getR (t' := 29) (i' := 0) (k' := 0) zk_93_18 rfl rfl rfl vd_0 (pc' := 21) rfl ?_
    refine T_ld zk_93_21 rfl rfl rfl (pc' := 22) rfl ?_
    refine T_getR (t' := 27) (i' := 0) (k' := 0) zk_93_22 rfl rfl rfl vd_0 (pc' := 25) rfl ?_
    refine T_ld zk_93_25 rfl rfl rfl (pc' := 26) rfl ?_
    refine G_aald (t' := 33) (im := 0) (i' := 0) (ln := 8) zk_93_26 rfl rfl rfl vd_27 (by omega) (by omega) (by omega) (pc' := 27) rfl ?_
    refine T_calli (K := fun y4 σ' => (y4 = LAWF (fun q => L2I (F q)) u2 ∧ -2147483648 ≤ y4 ∧ y4 ≤ 2147483647) ∧ (fun σ' => IF (MLx (Int.toNat n)) σ σ' ∧ Eq (σ' 34 0 (Int.toNat p0)) F ∧ σ' 1 0 0 5 = n ∧ σ' 23 0 (Int.toNat n) 1 = g ∧ σ' 30 0 0 1 = 1 ∧ True) σ') (r := [av 0 0 0]) zk_93_27 rfl rfl rfl rfl rfl rfl (Or.inr ⟨_, _, _, _, rfl, vd_29, rfl⟩) (fun σ' h => (s_48 (Int.toNat p0) u2 F (by omega) (by omega) σ' h.1.1 ((h.1.2 _ _ _ _ (by first | exact nMLx rfl | (unfold MLx; omega))).trans s2) (h.2.1)).le (Nat.le_of_ble_eq_true rfl) (fun v σ2 ⟨y, h1, h2, h3, h4⟩ => ⟨y, h1, h2, h.1.tr h3 (sb79zf_e148169 (Int.toNat n)), gf_mk (fun z => Eq z F) (funext fun j => h3.2 _ _ _ _ (by first | exact nMR rfl | (unfold MR; omega))) (h.2.1), (h3.2 _ _ _ _ (by first | exact nMR rfl | (unfold MR; omega))).trans (h.2.2.1), (h3.2 _ _ _ _ (by first | exact nMR rfl | (unfold MR; omega))).trans (h.2.2.2.1), h4.1, trivial⟩)) (pc' := 30) rfl (fun y4 => ?_)
    refine G_ex (fun hy4 => ?_)
    refine T_putf (J' := (fun σ' => IF (MLx (Int.toNat n)) σ σ' ∧ Eq (σ' 34 0 (Int.toNat p0)) F ∧ σ' 1 0 0 5 = n ∧ σ' 23 0 (Int.toNat n) 1 = g ∧ σ' 30 0 0 1 = 1 ∧ σ' 0 0 0 7 = y4 ∧ True)) zk_93_30 rfl rfl vd_0 (fun σ' h => ⟨h.1.up (by simp only [rgP] <;> omega) (by first | exact pMLx rfl | (unfold MLx; omega)), gf_mk (fun z => Eq z F) (up_row (by omega)) (h.2.1), (up_ne (by omega)).trans (h.2.2.1), (up_ne (by omega)).trans (h.2.2.2.1), (up_ne (by omega)).trans (h.2.2.2.2.1), up_eq, trivial⟩) (pc' := 33) rfl ?_
    refine T_ld zk_93_33 rfl rfl rfl (pc' := 34) rfl ?_
    refine G_getX (w := y4) zk_93_34 rfl vd_0 (fun σ' h => h.2.2.2.2.2.1) (pc' := 37) rfl ?_
    refine T_op zk_93_37 rfl X_ic (pc' := 38) rfl ?_
    refine T_icmp_eq zk_93_38 (by omega) (by omega) (pc' := 41) rfl (fun h5 => ?_) (fun h6 => ?_)
    ·
      refine T_ld zk_93_48 rfl rfl rfl (pc' := 49) rfl ?_
      refine T_getR (t' := 1) (i' := 0) (k' := 0) zk_93_49 rfl rfl rfl vd_0 (pc' := 52) rfl ?_
      refine G_getX (w := n) zk_93_52 rfl (vd_1 (by omega)) (fun σ' h => h.2.2.1) (pc' := 55) rfl ?_
      refine T_op zk_93_55 rfl X_ic (pc' := 56) rfl ?_
      refine T_icmp_lt zk_93_56 (by omega) (by omega) (pc' := 59) rfl (fun h7 => ?_) (fun h8 => ?_)
      ·
        refine T_ld zk_93_66 rfl rfl rfl (pc' := 67) rfl ?_
        refine T_getR (t' := 1) (i' := 0) (k' := 0) zk_93_67 rfl rfl rfl vd_0 (pc' := 70) rfl ?_
        refine T_getR (t' := 14) (i' := 0) (k' := 0) zk_93_70 rfl rfl rfl (vd_1 (by omega)) (pc' := 73) rfl ?_
        refine T_ld zk_93_73 rfl rfl rfl (pc' := 74) rfl ?_
        refine T_getR (t' := 1) (i' := 0) (k' := 0) zk_93_74 rfl rfl rfl vd_0 (pc' := 77) rfl ?_
        refine G_getX (w := n) zk_93_77 rfl (vd_1 (by omega)) (fun σ' h => h.2.2.1) (pc' := 80) rfl ?_
        refine G_aald (t' := 23) (im := 9) (i' := 0) (ln := 5) zk_93_80 rfl rfl rfl (vd_14 (by omega)) (by omega) (by omega) (by omega) (pc' := 81) rfl ?_
        refine T_ld zk_93_81 rfl rfl rfl (pc' := 82) rfl ?_
        refine T_getR (t' := 29) (i' := 0) (k' := 0) zk_93_82 rfl rfl rfl vd_0 (pc' := 85) rfl ?_
        refine T_getR (t' := 30) (i' := 0) (k' := 0) zk_93_85 rfl rfl rfl vd_29 (pc' := 88) rfl ?_
        refine T_callv (J' := (fun σ' => IF (MLx (Int.toNat n)) σ σ' ∧ Eq (σ' 34 0 (Int.toNat p0)) F ∧ σ' 1 0 0 5 = n ∧ σ' 30 0 0 1 = 1 ∧ σ' 0 0 0 7 = y4 ∧ σ' 23 0 (Int.toNat n) 1 = 1 ∧ True)) (r := []) zk_93_88 rfl rfl rfl rfl rfl rfl (Or.inr ⟨_, _, _, _, rfl, (vd_23 (by omega) (by omega)), rfl⟩) (fun σ' h => (s_46d (Int.toNat n) 1 (by omega) (by omega) σ' h.1.1 (h.2.2.2.2.1)).le (Nat.le_of_ble_eq_true rfl) (fun v σ2 ⟨h1, h3, h4⟩ => ⟨h1, h.1.tr h3 (sb79zf_5a6c416 (Int.toNat n)), gf_mk (fun z => Eq z F) (funext fun j => h3.2 _ _ _ _ (by first | exact nMLkd rfl | (unfold MLkd; omega))) (h.2.1), (h3.2 _ _ _ _ (by first | exact nMLkd rfl | (unfold MLkd; omega))).trans (h.2.2.1), (h3.2 _ _ _ _ (by first | exact nMLkd rfl | (unfold MLkd; omega))).trans (h.2.2.2.2.1), (h3.2 _ _ _ _ (by first | exact nMLkd rfl | (unfold MLkd; omega))).trans (h.2.2.2.2.2.1), h4.1, trivial⟩)) (pc' := 91) rfl ?_
        refine T_ld zk_93_91 rfl rfl rfl (pc' := 92) rfl ?_
        refine T_getR (t' := 1) (i' := 0) (k' := 0) zk_93_92 rfl rfl rfl vd_0 (pc' := 95) rfl ?_
        refine T_op (st' := [av 1 0 0, av 1 0 0]) zk_93_95 rfl rfl (pc' := 96) rfl ?_
        refine G_getX (w := n) zk_93_96 rfl (vd_1 (by omega)) (fun σ' h => h.2.2.1) (pc' := 99) rfl ?_
        refine T_op zk_93_99 rfl X_ic (pc' := 100) rfl ?_
        refine T_op zk_93_100 rfl X_add (pc' := 101) rfl ?_
        refine T_putf (J' := (fun σ' => IF (MLx (Int.toNat n)) σ σ' ∧ Eq (σ' 34 0 (Int.toNat p0)) F ∧ σ' 30 0 0 1 = 1 ∧ σ' 0 0 0 7 = y4 ∧ σ' 23 0 (Int.toNat n) 1 = 1 ∧ σ' 1 0 0 5 = n + 1 ∧ True)) zk_93_101 rfl rfl (vd_1 (by omega)) (fun σ' h => ⟨h.1.up (by simp only [rgP] <;> omega) (by first | exact pMLx rfl | (unfold MLx; omega)), gf_mk (fun z => Eq z F) (up_row (by omega)) (h.2.1), (up_ne (by omega)).trans (h.2.2.2.1), (up_ne (by omega)).trans (h.2.2.2.2.1), (up_ne (by omega)).trans (h.2.2.2.2.2.1), up_eq, trivial⟩) (pc' := 104) rfl ?_
        refine T_ld zk_93_104 rfl rfl rfl (pc' := 105) rfl ?_
        refine T_getR (t' := 1) (i' := 0) (k' := 0) zk_93_105 rfl rfl rfl vd_0 (pc' := 108) rfl ?_
        refine G_getX (w := n + 1) zk_93_108 rfl (vd_1 (by omega)) (fun σ' h => h.2.2.2.2.2.1) (pc' := 111) rfl ?_
        refine T_op zk_93_111 rfl X_ic (pc' := 112) rfl ?_
        refine T_op zk_93_112 rfl X_sub (pc' := 113) rfl ?_
        exact T_iret zk_93_113 rfl (fun σ' h => ⟨_, rfl, (by omega), h.1, ⟨(by have e := h.2.2.2.2.2.1; omega), (by have e := h.2.2.2.2.1; omega), trivial⟩⟩)
      ·
        refine T_ld zk_93_59 rfl rfl rfl (pc' := 60) rfl ?_
        refine T_op zk_93_60 rfl (X_bi (v := -7) (by decide)) (pc' := 62) rfl ?_
        refine T_calli (K := fun y10 σ' => (y10 = (-7)) ∧ (fun σ' => IF (MLx (Int.toNat n)) σ σ' ∧ Eq (σ' 34 0 (Int.toNat p0)) F ∧ σ' 1 0 0 5 = n ∧ σ' 23 0 (Int.toNat n) 1 = g ∧ σ' 30 0 0 1 = 1 ∧ σ' 0 0 0 7 = y4 ∧ True) σ') (r := []) zk_93_62 rfl rfl rfl rfl rfl rfl (Or.inr ⟨_, _, _, _, rfl, vd_0, rfl⟩) (fun σ' h => (w_113 ((-7)) (by omega) σ' h.1.1 ).le (Nat.le_of_ble_eq_true rfl) (fun v σ2 ⟨y, h1, h2, h3, h4⟩ => ⟨y, h1, h2, h.1.tr h3 (sb79zf_87f10dd (Int.toNat n)), gf_mk (fun z => Eq z F) (funext fun j => h3.2 _ _ _ _ (by first | exact nMI rfl | (unfold MI; omega))) (h.2.1), (h3.2 _ _ _ _ (by first | exact nMI rfl | (unfold MI; omega))).trans (h.2.2.1), (h3.2 _ _ _ _ (by first | exact nMI rfl | (unfold MI; omega))).trans (h.2.2.2.1), (h3.2 _ _ _ _ (by first | exact nMI rfl | (unfold MI; omega))).trans (h.2.2.2.2.1), (h3.2 _ _ _ _ (by first | exact nMI rfl | (unfold MI; omega))).trans (h.2.2.2.2.2.1), trivial⟩)) (pc' := 65) rfl (fun y10 => ?_)
        refine G_ex (fun hy10 => ?_)
        obtain rfl : y10 = (-7) := by omega
        exact T_iret zk_93_65 rfl (fun σ' h => ⟨_, rfl, (by omega), h.1, ⟨(by have e := h.2.2.1; omega), (by have e := h.2.2.2.1; omega), trivial⟩⟩)
    ·
      refine T_ld zk_93_41 rfl rfl rfl (pc' := 42) rfl ?_
      refine T_op zk_93_42 rfl (X_bi (v := -6) (by decide)) (pc' := 44) rfl ?_
      refine T_calli (K := fun y11 σ' => (y11 = (-6)) ∧ (fun σ' => IF (MLx (Int.toNat n)) σ σ' ∧ Eq (σ' 34 0 (Int.toNat p0)) F ∧ σ' 1 0 0 5 = n ∧ σ' 23 0 (Int.toNat n) 1 = g ∧ σ' 30 0 0 1 = 1 ∧ σ' 0 0 0 7 = y4 ∧ True) σ') (r := []) zk_93_44 rfl rfl rfl rfl rfl rfl (Or.inr ⟨_, _, _, _, rfl, vd_0, rfl⟩) (fun σ' h => (w_113 ((-6)) (by omega) σ' h.1.1 ).le (Nat.le_of_ble_eq_true rfl) (fun v σ2 ⟨y, h1, h2, h3, h4⟩ => ⟨y, h1, h2, h.1.tr h3 (sb79zf_87f10dd (Int.toNat n)), gf_mk (fun z => Eq z F) (funext fun j => h3.2 _ _ _ _ (by first | exact nMI rfl | (unfold MI; omega))) (h.2.1), (h3.2 _ _ _ _ (by first | exact nMI rfl | (unfold MI; omega))).trans (h.2.2.1), (h3.2 _ _ _ _ (by first | exact nMI rfl | (unfold MI; omega))).trans (h.2.2.2.1), (h3.2 _ _ _ _ (by first | exact nMI rfl | (unfold MI; omega))).trans (h.2.2.2.2.1), (h3.2 _ _ _ _ (by first | exact nMI rfl | (unfold MI; omega))).trans (h.2.2.2.2.2.1), trivial⟩)) (pc' := 47) rfl (fun y11 => ?_)
      refine G_ex (fun hy11 => ?_)
      obtain rfl : y11 = (-6) := by omega
      exact T_iret zk_93_47 rfl (fun σ' h => ⟨_, rfl, (by omega), h.1, ⟨(by have e := h.2.2.1; omega), (by have e := h.2.2.2.1; omega), trivial⟩⟩)
  ·
    refine T_ld zk_93_10 rfl rfl rfl (pc' := 11) rfl ?_
    refine T_ld zk_93_11 rfl rfl rfl (pc' := 12) rfl ?_
    refine T_calli (K := fun y12 σ' => (y12 = y1) ∧ (fun σ' => IF (MLx (Int.toNat n)) σ σ' ∧ Eq (σ' 34 0 (Int.toNat p0)) F ∧ σ' 1 0 0 5 = n ∧ σ' 23 0 (Int.toNat n) 1 = g ∧ True) σ') (r := []) zk_93_12 rfl rfl rfl rfl rfl rfl (Or.inr ⟨_, _, _, _, rfl, vd_0, rfl⟩) (fun σ' h => (w_113 y1 (by omega) σ' h.1.1 ).le (Nat.le_of_ble_eq_true rfl) (fun v σ2 ⟨y, h1, h2, h3, h4⟩ => ⟨y, h1, h2, h.1.tr h3 (sb79zf_87f10dd (Int.toNat n)), gf_mk (fun z => Eq z F) (funext fun j => h3.2 _ _ _ _ (by first | exact nMI rfl | (unfold MI; omega))) (h.2.1), (h3.2 _ _ _ _ (by first | exact nMI rfl | (unfold MI; omega))).trans (h.2.2.1), (h3.2 _ _ _ _ (by first | exact nMI rfl | (unfold MI; omega))).trans (h.2.2.2.1), trivial⟩)) (pc' := 15) rfl (fun y12 => ?_)
    refine G_ex (fun hy12 => ?_)
    obtain rfl : y12 = y1 := by omega
    exact T_iret zk_93_15 rfl (fun σ' h => ⟨_, rfl, (by omega), h.1, ⟨(by have e := h.2.2.1; omega), (by have e := h.2.2.2.1; omega), trivial⟩⟩)
theorem sb79zf_3e0a8ff (v0 : Nat) : ∀ t i k j, MI 0 28 28 28 28 t i k j → MFo v0 t i k j := by
  intro t i k j h
  unfold MI at h
  unfold MFo
  omega
/-- W.force -/
theorem s_95 {xs : Nat × (Nat → Int32)} (p0 : Int) (p1 : Int) (n : Int) (a : Int) (hp0 : 0 ≤ p0 ∧ p0 ≤ 4) (hp1 : 0 ≤ p1 ∧ p1 ≤ 1) (hn : 0 ≤ n ∧ n ≤ 5) (ha : 0 ≤ a ∧ a ≤ 1) (σ : ZS) (hI : Inv σ)  (sn : σ 1 0 0 5 = n) (sa : σ 23 0 (Int.toNat p0) 1 = a) : CT xs 3 95 [av 0 0 0, iv p0, iv p1] σ (fun v σ' => ∃ y, v = some (iv y) ∧ ((y = -1 ∧ (¬ (0 ≤ p0 ∧ p0 < n))) ∨ (y = 0 ∧ ¬ (¬ (0 ≤ p0 ∧ p0 < n)) ∧ (a = p1)) ∨ (y = 1 ∧ ¬ (¬ (0 ≤ p0 ∧ p0 < n)) ∧ ¬ (a = p1))) ∧ IF (MFo (Int.toNat p0)) σ σ' ∧ (((0 ≤ y → σ' 23 0 (Int.toNat p0) 1 = p1) ∧ (y < 0 → σ' 23 0 (Int.toNat p0) 1 = a)) ∧ True)) := by
  refine G_ct (J := (fun σ' => IF (MFo (Int.toNat p0)) σ σ' ∧ σ' 23 0 (Int.toNat p0) 1 = a ∧ True)) (L := [(0, av 0 0 0), (1, iv p0), (2, iv p1)]) (nL := 4) rfl rfl rfl ⟨IF.rf hI, sa, trivial⟩ ?_
  refine T_ld zk_95_0 rfl rfl rfl (pc' := 1) rfl ?_
  refine T_op zk_95_1 rfl X_ic (pc' := 2) rfl ?_
  refine T_ld zk_95_2 rfl rfl rfl (pc' := 3) rfl ?_
  refine T_getR (t' := 1) (i' := 0) (k' := 0) zk_95_3 rfl rfl rfl vd_0 (pc' := 6) rfl ?_
  refine G_getX (w := n) zk_95_6 rfl (vd_1 (by omega)) (fun σ' h => (h.1.2 _ _ _ _ (by first | exact nMFo rfl | (unfold MFo; omega))).trans sn) (pc' := 9) rfl ?_
  refine T_op zk_95_9 rfl X_ic (pc' := 10) rfl ?_
  refine T_op zk_95_10 rfl X_sub (pc' := 11) rfl ?_
  refine T_calli (K := fun y1 σ' => ((y1 = 0 ∧ (p0 < 0 ∨ n - 1 < p0)) ∨ (y1 = 1 ∧ 0 ≤ p0 ∧ p0 ≤ n - 1)) ∧ (fun σ' => IF (MFo (Int.toNat p0)) σ σ' ∧ σ' 23 0 (Int.toNat p0) 1 = a ∧ True) σ') (r := []) zk_95_11 rfl rfl rfl rfl rfl rfl (Or.inl (Or.inl rfl)) (fun σ' h => (w_114 p0 0 (n - 1) (by omega) (by omega) (by omega) σ' h.1.1 ).le (Nat.le_of_ble_eq_true rfl) (fun v σ2 ⟨y, h1, h2, h3, h4⟩ => ⟨y, h1, h2, h.1.tr h3 MN_sub, (h3.2 _ _ _ _ (fun q => q)).trans (h.2.1), trivial⟩)) (pc' := 14) rfl (fun y1 => ?_)
  refine G_ex (fun hy1 => ?_)
  refine T_if_ne zk_95_14 (by omega) (pc' := 17) rfl (fun h2 => ?_) (fun h3 => ?_)
  ·
    refine T_ld zk_95_23 rfl rfl rfl (pc' := 24) rfl ?_
    refine T_getR (t' := 1) (i' := 0) (k' := 0) zk_95_24 rfl rfl rfl vd_0 (pc' := 27) rfl ?_
    refine T_getR (t' := 14) (i' := 0) (k' := 0) zk_95_27 rfl rfl rfl (vd_1 (by omega)) (pc' := 30) rfl ?_
    refine T_ld zk_95_30 rfl rfl rfl (pc' := 31) rfl ?_
    refine G_aald (t' := 23) (im := 9) (i' := 0) (ln := 5) zk_95_31 rfl rfl rfl (vd_14 (by omega)) (by omega) (by omega) (by omega) (pc' := 32) rfl ?_
    refine G_getX (w := a) zk_95_32 rfl (vd_23 (by omega) (by omega)) (fun σ' h => h.2.1) (pc' := 35) rfl ?_
    refine T_st (L' := [(0, av 0 0 0), (1, iv p0), (2, iv p1), (3, iv a)]) zk_95_35 (nL := 4) rfl rfl rfl rfl rfl (pc' := 36) rfl ?_
    refine T_ld zk_95_36 rfl rfl rfl (pc' := 37) rfl ?_
    refine T_getR (t' := 1) (i' := 0) (k' := 0) zk_95_37 rfl rfl rfl vd_0 (pc' := 40) rfl ?_
    refine T_getR (t' := 14) (i' := 0) (k' := 0) zk_95_40 rfl rfl rfl (vd_1 (by omega)) (pc' := 43) rfl ?_
    refine T_ld zk_95_43 rfl rfl rfl (pc' := 44) rfl ?_
    refine G_aald (t' := 23) (im := 9) (i' := 0) (ln := 5) zk_95_44 rfl rfl rfl (vd_14 (by omega)) (by omega) (by omega) (by omega) (pc' := 45) rfl ?_
    refine T_ld zk_95_45 rfl rfl rfl (pc' := 46) rfl ?_
    refine T_putz (J' := (fun σ' => IF (MFo (Int.toNat p0)) σ σ' ∧ σ' 23 0 (Int.toNat p0) 1 = p1 ∧ True)) zk_95_46 rfl rfl (by omega) (vd_23 (by omega) (by omega)) (fun σ' h => ⟨h.1.up (by simp only [rgP] <;> omega) (by first | exact pMFo rfl | (unfold MFo; omega)), up_eq, trivial⟩) (pc' := 49) rfl ?_
    refine T_ld zk_95_49 rfl rfl rfl (pc' := 50) rfl ?_
    refine T_ld zk_95_50 rfl rfl rfl (pc' := 51) rfl ?_
    refine T_icmp_ne zk_95_51 (by omega) (by omega) (pc' := 54) rfl (fun h4 => ?_) (fun h5 => ?_)
    ·
      refine T_op zk_95_58 rfl X_ic (pc' := 59) rfl ?_
      exact T_iret zk_95_59 rfl (fun σ' h => ⟨_, rfl, (by omega), h.1, ⟨(by have e := h.2.1; omega), trivial⟩⟩)
    ·
      refine T_op zk_95_54 rfl X_ic (pc' := 55) rfl ?_
      refine T_goto zk_95_55 ?_
      exact T_iret zk_95_59 rfl (fun σ' h => ⟨_, rfl, (by omega), h.1, ⟨(by have e := h.2.1; omega), trivial⟩⟩)
  ·
    refine T_ld zk_95_17 rfl rfl rfl (pc' := 18) rfl ?_
    refine T_op zk_95_18 rfl X_ic (pc' := 19) rfl ?_
    refine T_calli (K := fun y6 σ' => (y6 = (-1)) ∧ (fun σ' => IF (MFo (Int.toNat p0)) σ σ' ∧ σ' 23 0 (Int.toNat p0) 1 = a ∧ True) σ') (r := []) zk_95_19 rfl rfl rfl rfl rfl rfl (Or.inr ⟨_, _, _, _, rfl, vd_0, rfl⟩) (fun σ' h => (w_113 ((-1)) (by omega) σ' h.1.1 ).le (Nat.le_of_ble_eq_true rfl) (fun v σ2 ⟨y, h1, h2, h3, h4⟩ => ⟨y, h1, h2, h.1.tr h3 (sb79zf_3e0a8ff (Int.toNat p0)), (h3.2 _ _ _ _ (by first | exact nMI rfl | (unfold MI; omega))).trans (h.2.1), trivial⟩)) (pc' := 22) rfl (fun y6 => ?_)
    refine G_ex (fun hy6 => ?_)
    obtain rfl : y6 = (-1) := by omega
    exact T_iret zk_95_22 rfl (fun σ' h => ⟨_, rfl, (by omega), h.1, ⟨(by have e := h.2.1; omega), trivial⟩⟩)
/-- W.force -/
theorem s_95o {xs : Nat × (Nat → Int32)} (p0 : Int) (p1 : Int) (n : Int) (hp0 : -2147483648 ≤ p0 ∧ p0 ≤ 2147483647) (hp1 : 0 ≤ p1 ∧ p1 ≤ 1) (hn : 0 ≤ n ∧ n ≤ 5) (ho : p0 < 0 ∨ 4 < p0) (σ : ZS) (hI : Inv σ)  (sn : σ 1 0 0 5 = n) : CT xs 3 95 [av 0 0 0, iv p0, iv p1] σ (fun v σ' => ∃ y, v = some (iv y) ∧ (y = -1) ∧ IF (MI 0 28 28 28 28) σ σ' ∧ (True)) := by
  refine G_ct (J := (fun σ' => IF (MI 0 28 28 28 28) σ σ' ∧ True)) (L := [(0, av 0 0 0), (1, iv p0), (2, iv p1)]) (nL := 4) rfl rfl rfl ⟨IF.rf hI, trivial⟩ ?_
  refine T_ld zk_95_0 rfl rfl rfl (pc' := 1) rfl ?_
  refine T_op zk_95_1 rfl X_ic (pc' := 2) rfl ?_
  refine T_ld zk_95_2 rfl rfl rfl (pc' := 3) rfl ?_
  refine T_getR (t' := 1) (i' := 0) (k' := 0) zk_95_3 rfl rfl rfl vd_0 (pc' := 6) rfl ?_
  refine G_getX (w := n) zk_95_6 rfl (vd_1 (by omega)) (fun σ' h => (h.1.2 _ _ _ _ (by first | exact nMI rfl | (unfold MI; omega))).trans sn) (pc' := 9) rfl ?_
  refine T_op zk_95_9 rfl X_ic (pc' := 10) rfl ?_
  refine T_op zk_95_10 rfl X_sub (pc' := 11) rfl ?_
  refine T_calli (K := fun y1 σ' => ((y1 = 0 ∧ (p0 < 0 ∨ n - 1 < p0)) ∨ (y1 = 1 ∧ 0 ≤ p0 ∧ p0 ≤ n - 1)) ∧ (fun σ' => IF (MI 0 28 28 28 28) σ σ' ∧ True) σ') (r := []) zk_95_11 rfl rfl rfl rfl rfl rfl (Or.inl (Or.inl rfl)) (fun σ' h => (w_114 p0 0 (n - 1) (by omega) (by omega) (by omega) σ' h.1.1 ).le (Nat.le_of_ble_eq_true rfl) (fun v σ2 ⟨y, h1, h2, h3, h4⟩ => ⟨y, h1, h2, h.1.tr h3 MN_sub, trivial⟩)) (pc' := 14) rfl (fun y1 => ?_)
  refine G_ex (fun hy1 => ?_)
  refine T_if_ne zk_95_14 (by omega) (pc' := 17) rfl (fun h2 => ?_) (fun h3 => ?_)
  · exfalso; omega
  ·
    refine T_ld zk_95_17 rfl rfl rfl (pc' := 18) rfl ?_
    refine T_op zk_95_18 rfl X_ic (pc' := 19) rfl ?_
    refine T_calli (K := fun y4 σ' => (y4 = (-1)) ∧ (fun σ' => IF (MI 0 28 28 28 28) σ σ' ∧ True) σ') (r := []) zk_95_19 rfl rfl rfl rfl rfl rfl (Or.inr ⟨_, _, _, _, rfl, vd_0, rfl⟩) (fun σ' h => (w_113 ((-1)) (by omega) σ' h.1.1 ).le (Nat.le_of_ble_eq_true rfl) (fun v σ2 ⟨y, h1, h2, h3, h4⟩ => ⟨y, h1, h2, h.1.tr h3 (fun _ _ _ _ h => h), trivial⟩)) (pc' := 22) rfl (fun y4 => ?_)
    refine G_ex (fun hy4 => ?_)
    obtain rfl : y4 = (-1) := by omega
    exact T_iret zk_95_22 rfl (fun σ' h => ⟨_, rfl, (by omega), h.1, trivial⟩)
/-- WModel.turns -/
theorem r_129f {xs : Nat × (Nat → Int32)} (p0 : Int) (p1 : Int) (a : Int) (hp0 : 628 ≤ p0 ∧ p0 ≤ 632) (hp1 : 0 ≤ p1 ∧ p1 ≤ 1) (ha : -2147483648 ≤ a ∧ a ≤ 2147483647) (σ : ZS) (hI : Inv σ)  (s1 : σ 36 0 0 (Int.toNat p0) = a) : CT xs 1 129 [av 35 0 0, iv p0, iv p1] σ (fun v σ' => ∃ y, v = some (iv y) ∧ ((y = 0 ∧ (a = p1)) ∨ (y = 1 ∧ ¬ (a = p1))) ∧ IF (MG36 (Int.toNat p0)) σ σ' ∧ (σ' 36 0 0 (Int.toNat p0) = p1 ∧ True)) := by
  refine G_ct (J := (fun σ' => IF (MG36 (Int.toNat p0)) σ σ' ∧ σ' 36 0 0 (Int.toNat p0) = a ∧ True)) (L := [(0, av 35 0 0), (1, iv p0), (2, iv p1)]) (nL := 4) rfl rfl rfl ⟨IF.rf hI, s1, trivial⟩ ?_
  refine T_ld zk_129_0 rfl rfl rfl (pc' := 1) rfl ?_
  refine T_if_eq zk_129_1 (by omega) (pc' := 4) rfl (fun h1 => ?_) (fun h2 => ?_)
  ·
    refine T_op zk_129_8 rfl X_ic (pc' := 9) rfl ?_
    refine T_st (L' := [(0, av 35 0 0), (1, iv p0), (2, iv p1), (3, iv 0)]) zk_129_9 (nL := 4) rfl rfl rfl rfl rfl (pc' := 10) rfl ?_
    refine T_ld zk_129_10 rfl rfl rfl (pc' := 11) rfl ?_
    refine T_getR (t' := 36) (i' := 0) (k' := 0) zk_129_11 rfl rfl rfl vd_35 (pc' := 14) rfl ?_
    refine T_ld zk_129_14 rfl rfl rfl (pc' := 15) rfl ?_
    refine G_ialdX (w := a) (ln := 646) zk_129_15 rfl rfl (vd_36 (by omega)) (by omega) (by omega) (by omega) (fun σ' h => h.2.1) (pc' := 16) rfl ?_
    refine T_ld zk_129_16 rfl rfl rfl (pc' := 17) rfl ?_
    refine T_icmp_ne zk_129_17 (by omega) (by omega) (pc' := 20) rfl (fun h3 => ?_) (fun h4 => ?_)
    ·
      refine T_ld zk_129_22 rfl rfl rfl (pc' := 23) rfl ?_
      refine T_getR (t' := 36) (i' := 0) (k' := 0) zk_129_23 rfl rfl rfl vd_35 (pc' := 26) rfl ?_
      refine T_ld zk_129_26 rfl rfl rfl (pc' := 27) rfl ?_
      refine T_ld zk_129_27 rfl rfl rfl (pc' := 28) rfl ?_
      refine G_iast (J' := (fun σ' => IF (MG36 (Int.toNat p0)) σ σ' ∧ σ' 36 0 0 (Int.toNat p0) = 0 ∧ True)) (ln := 646) zk_129_28 rfl rfl (vd_36 (by omega)) (by omega) (by omega) (by omega) (fun σ' h => ⟨h.1.up (by simp only [rgP] <;> omega) (by unfold MG36; omega), up_eq, trivial⟩) (pc' := 29) rfl ?_
      refine T_op zk_129_29 rfl X_ic (pc' := 30) rfl ?_
      exact T_iret zk_129_30 rfl (fun σ' h => ⟨_, rfl, (by omega), h.1, ⟨(h.2.1).trans (by omega), trivial⟩⟩)
    ·
      refine T_op zk_129_20 rfl X_ic (pc' := 21) rfl ?_
      exact T_iret zk_129_21 rfl (fun σ' h => ⟨_, rfl, (by omega), h.1, ⟨(h.2.1).trans (by omega), trivial⟩⟩)
  ·
    refine T_op zk_129_4 rfl X_ic (pc' := 5) rfl ?_
    refine T_goto zk_129_5 ?_
    refine T_st (L' := [(0, av 35 0 0), (1, iv p0), (2, iv p1), (3, iv 1)]) zk_129_9 (nL := 4) rfl rfl rfl rfl rfl (pc' := 10) rfl ?_
    refine T_ld zk_129_10 rfl rfl rfl (pc' := 11) rfl ?_
    refine T_getR (t' := 36) (i' := 0) (k' := 0) zk_129_11 rfl rfl rfl vd_35 (pc' := 14) rfl ?_
    refine T_ld zk_129_14 rfl rfl rfl (pc' := 15) rfl ?_
    refine G_ialdX (w := a) (ln := 646) zk_129_15 rfl rfl (vd_36 (by omega)) (by omega) (by omega) (by omega) (fun σ' h => h.2.1) (pc' := 16) rfl ?_
    refine T_ld zk_129_16 rfl rfl rfl (pc' := 17) rfl ?_
    refine T_icmp_ne zk_129_17 (by omega) (by omega) (pc' := 20) rfl (fun h5 => ?_) (fun h6 => ?_)
    ·
      refine T_ld zk_129_22 rfl rfl rfl (pc' := 23) rfl ?_
      refine T_getR (t' := 36) (i' := 0) (k' := 0) zk_129_23 rfl rfl rfl vd_35 (pc' := 26) rfl ?_
      refine T_ld zk_129_26 rfl rfl rfl (pc' := 27) rfl ?_
      refine T_ld zk_129_27 rfl rfl rfl (pc' := 28) rfl ?_
      refine G_iast (J' := (fun σ' => IF (MG36 (Int.toNat p0)) σ σ' ∧ σ' 36 0 0 (Int.toNat p0) = 1 ∧ True)) (ln := 646) zk_129_28 rfl rfl (vd_36 (by omega)) (by omega) (by omega) (by omega) (fun σ' h => ⟨h.1.up (by simp only [rgP] <;> omega) (by unfold MG36; omega), up_eq, trivial⟩) (pc' := 29) rfl ?_
      refine T_op zk_129_29 rfl X_ic (pc' := 30) rfl ?_
      exact T_iret zk_129_30 rfl (fun σ' h => ⟨_, rfl, (by omega), h.1, ⟨(h.2.1).trans (by omega), trivial⟩⟩)
    ·
      refine T_op zk_129_20 rfl X_ic (pc' := 21) rfl ?_
      exact T_iret zk_129_21 rfl (fun σ' h => ⟨_, rfl, (by omega), h.1, ⟨(h.2.1).trans (by omega), trivial⟩⟩)
/-- WModel.isLaw -/
theorem r_157 {xs : Nat × (Nat → Int32)} (p0 : Int) (n : Int) (hp0 : -2147483648 ≤ p0 ∧ p0 ≤ 2147483647) (hn : 0 ≤ n ∧ n ≤ 5) (σ : ZS) (hI : Inv σ)  (s1 : σ 36 0 0 640 = n) : CT xs 1 157 [av 35 0 0, iv p0] σ (fun v σ' => ∃ y, v = some (iv y) ∧ ((y = 0 ∧ (p0 < 0 ∨ n ≤ p0)) ∨ (y = 1 ∧ 0 ≤ p0 ∧ p0 < n)) ∧ IF MN σ σ' ∧ (True)) := by
  refine G_ct (J := (fun σ' => IF MN σ σ' ∧ True)) (L := [(0, av 35 0 0), (1, iv p0)]) (nL := 2) rfl rfl rfl ⟨IF.rf hI, trivial⟩ ?_
  refine T_ld zk_157_0 rfl rfl rfl (pc' := 1) rfl ?_
  refine T_if_lt zk_157_1 (by omega) (pc' := 4) rfl (fun h1 => ?_) (fun h2 => ?_)
  ·
    refine T_op zk_157_20 rfl X_ic (pc' := 21) rfl ?_
    exact T_zret zk_157_21 rfl (by omega) (fun σ' h => ⟨_, rfl, (by omega), h.1, trivial⟩)
  ·
    refine T_ld zk_157_4 rfl rfl rfl (pc' := 5) rfl ?_
    refine T_ld zk_157_5 rfl rfl rfl (pc' := 6) rfl ?_
    refine T_getR (t' := 36) (i' := 0) (k' := 0) zk_157_6 rfl rfl rfl vd_35 (pc' := 9) rfl ?_
    refine T_op zk_157_9 rfl (X_si (v := 640) (by decide)) (pc' := 12) rfl ?_
    refine G_ialdX (w := n) (ln := 646) zk_157_12 rfl rfl (vd_36 (by omega)) (by omega) (by omega) (by omega) (fun σ' h => (h.1.2 _ _ _ _ (fun q => q)).trans s1) (pc' := 13) rfl ?_
    refine T_icmp_ge zk_157_13 (by omega) (by omega) (pc' := 16) rfl (fun h3 => ?_) (fun h4 => ?_)
    ·
      refine T_op zk_157_20 rfl X_ic (pc' := 21) rfl ?_
      exact T_zret zk_157_21 rfl (by omega) (fun σ' h => ⟨_, rfl, (by omega), h.1, trivial⟩)
    ·
      refine T_op zk_157_16 rfl X_ic (pc' := 17) rfl ?_
      refine T_goto zk_157_17 ?_
      exact T_zret zk_157_21 rfl (by omega) (fun σ' h => ⟨_, rfl, (by omega), h.1, trivial⟩)
theorem sb79zf_ce07850 (v0 : Nat) : ∀ t i k j, MT 49 49 49 49 t i k j → MH36 v0 t i k j := by
  intro t i k j h
  unfold MT at h
  unfold MH36
  omega
theorem sb79zf_591fdf2 (v0 : Nat) : ∀ t i k j, MG36 v0 t i k j → MH36 v0 t i k j := by
  intro t i k j h
  unfold MG36 at h
  unfold MH36
  omega
/-- WModel.force -/
theorem r_158 {xs : Nat × (Nat → Int32)} (p0 : Int) (p1 : Int) (n : Int) (a : Int) (hp0 : 0 ≤ p0 ∧ p0 ≤ 4) (hp1 : 0 ≤ p1 ∧ p1 ≤ 1) (hn : 0 ≤ n ∧ n ≤ 5) (ha : -2147483648 ≤ a ∧ a ≤ 2147483647) (σ : ZS) (hI : Inv σ)  (sn : σ 36 0 0 640 = n) (sa : σ 36 0 0 (Int.toNat (628 + p0)) = a) : CT xs 2 158 [av 35 0 0, iv p0, iv p1] σ (fun v σ' => ∃ y, v = some (iv y) ∧ ((y = -1 ∧ (¬ (0 ≤ p0 ∧ p0 < n))) ∨ (y = 0 ∧ ¬ (¬ (0 ≤ p0 ∧ p0 < n)) ∧ (a = p1)) ∨ (y = 1 ∧ ¬ (¬ (0 ≤ p0 ∧ p0 < n)) ∧ ¬ (a = p1))) ∧ IF (MH36 (Int.toNat (628 + p0))) σ σ' ∧ (((0 ≤ y → σ' 36 0 0 (Int.toNat (628 + p0)) = p1) ∧ (y < 0 → σ' 36 0 0 (Int.toNat (628 + p0)) = a)) ∧ True)) := by
  refine G_ct (J := (fun σ' => IF (MH36 (Int.toNat (628 + p0))) σ σ' ∧ σ' 36 0 0 640 = n ∧ σ' 36 0 0 (Int.toNat (628 + p0)) = a ∧ True)) (L := [(0, av 35 0 0), (1, iv p0), (2, iv p1)]) (nL := 3) rfl rfl rfl ⟨IF.rf hI, sn, sa, trivial⟩ ?_
  refine T_ld zk_158_0 rfl rfl rfl (pc' := 1) rfl ?_
  refine T_ld zk_158_1 rfl rfl rfl (pc' := 2) rfl ?_
  refine T_calli (K := fun y1 σ' => ((y1 = 0 ∧ (p0 < 0 ∨ n ≤ p0)) ∨ (y1 = 1 ∧ 0 ≤ p0 ∧ p0 < n)) ∧ (fun σ' => IF (MH36 (Int.toNat (628 + p0))) σ σ' ∧ σ' 36 0 0 640 = n ∧ σ' 36 0 0 (Int.toNat (628 + p0)) = a ∧ True) σ') (r := []) zk_158_2 rfl rfl rfl rfl rfl rfl (Or.inr ⟨_, _, _, _, rfl, vd_35, rfl⟩) (fun σ' h => (r_157 p0 n (by omega) (by omega) σ' h.1.1 (h.2.1)).le (Nat.le_of_ble_eq_true rfl) (fun v σ2 ⟨y, h1, h2, h3, h4⟩ => ⟨y, h1, h2, h.1.tr h3 MN_sub, (h3.2 _ _ _ _ (fun q => q)).trans (h.2.1), (h3.2 _ _ _ _ (fun q => q)).trans (h.2.2.1), trivial⟩)) (pc' := 5) rfl (fun y1 => ?_)
  refine G_ex (fun hy1 => ?_)
  refine T_if_eq zk_158_5 (by omega) (pc' := 8) rfl (fun h2 => ?_) (fun h3 => ?_)
  ·
    refine T_ld zk_158_21 rfl rfl rfl (pc' := 22) rfl ?_
    refine T_op zk_158_22 rfl X_ic (pc' := 23) rfl ?_
    refine T_calli (K := fun y4 σ' => (y4 = (-1)) ∧ (fun σ' => IF (MH36 (Int.toNat (628 + p0))) σ σ' ∧ σ' 36 0 0 640 = n ∧ σ' 36 0 0 (Int.toNat (628 + p0)) = a ∧ True) σ') (r := []) zk_158_23 rfl rfl rfl rfl rfl rfl (Or.inr ⟨_, _, _, _, rfl, vd_35, rfl⟩) (fun σ' h => (m_123 ((-1)) (by omega) σ' h.1.1 ).le (Nat.le_of_ble_eq_true rfl) (fun v σ2 ⟨y, h1, h2, h3, h4⟩ => ⟨y, h1, h2, h.1.tr h3 (sb79zf_ce07850 (Int.toNat (628 + p0))), (h3.2 _ _ _ _ (by first | exact nMT rfl | (unfold MT; omega))).trans (h.2.1), (h3.2 _ _ _ _ (by first | exact nMT rfl | (unfold MT; omega))).trans (h.2.2.1), trivial⟩)) (pc' := 26) rfl (fun y4 => ?_)
    refine G_ex (fun hy4 => ?_)
    obtain rfl : y4 = (-1) := by omega
    exact T_iret zk_158_26 rfl (fun σ' h => ⟨_, rfl, (by omega), h.1, ⟨(by have e := h.2.2.1; omega), trivial⟩⟩)
  ·
    refine T_ld zk_158_8 rfl rfl rfl (pc' := 9) rfl ?_
    refine T_op zk_158_9 rfl (X_si (v := 628) (by decide)) (pc' := 12) rfl ?_
    refine T_ld zk_158_12 rfl rfl rfl (pc' := 13) rfl ?_
    refine T_op zk_158_13 rfl X_add (pc' := 14) rfl ?_
    refine T_ld zk_158_14 rfl rfl rfl (pc' := 15) rfl ?_
    refine T_calli (K := fun y5 σ' => ((y5 = 0 ∧ (a = p1)) ∨ (y5 = 1 ∧ ¬ (a = p1))) ∧ (fun σ' => IF (MH36 (Int.toNat (628 + p0))) σ σ' ∧ σ' 36 0 0 (Int.toNat (628 + p0)) = p1 ∧ True) σ') (r := []) zk_158_15 rfl rfl rfl rfl rfl rfl (Or.inr ⟨_, _, _, _, rfl, vd_35, rfl⟩) (fun σ' h => (r_129f (628 + p0) p1 a (by omega) (by omega) (by omega) σ' h.1.1 (h.2.2.1)).le (Nat.le_of_ble_eq_true rfl) (fun v σ2 ⟨y, h1, h2, h3, h4⟩ => ⟨y, h1, h2, h.1.tr h3 (sb79zf_591fdf2 (Int.toNat (628 + p0))), h4.1, trivial⟩)) (pc' := 18) rfl (fun y5 => ?_)
    refine G_ex (fun hy5 => ?_)
    refine T_goto zk_158_18 ?_
    exact T_iret zk_158_26 rfl (fun σ' h => ⟨_, rfl, (by omega), h.1, ⟨(by have e := h.2.1; omega), trivial⟩⟩)
/-- WModel.force -/
theorem r_158o {xs : Nat × (Nat → Int32)} (p0 : Int) (p1 : Int) (n : Int) (hp0 : -2147483648 ≤ p0 ∧ p0 ≤ 2147483647) (hp1 : 0 ≤ p1 ∧ p1 ≤ 1) (hn : 0 ≤ n ∧ n ≤ 5) (ho : p0 < 0 ∨ 4 < p0) (σ : ZS) (hI : Inv σ)  (sn : σ 36 0 0 640 = n) : CT xs 2 158 [av 35 0 0, iv p0, iv p1] σ (fun v σ' => ∃ y, v = some (iv y) ∧ (y = -1) ∧ IF (MT 49 49 49 49) σ σ' ∧ (True)) := by
  refine G_ct (J := (fun σ' => IF (MT 49 49 49 49) σ σ' ∧ True)) (L := [(0, av 35 0 0), (1, iv p0), (2, iv p1)]) (nL := 3) rfl rfl rfl ⟨IF.rf hI, trivial⟩ ?_
  refine T_ld zk_158_0 rfl rfl rfl (pc' := 1) rfl ?_
  refine T_ld zk_158_1 rfl rfl rfl (pc' := 2) rfl ?_
  refine T_calli (K := fun y1 σ' => ((y1 = 0 ∧ (p0 < 0 ∨ n ≤ p0)) ∨ (y1 = 1 ∧ 0 ≤ p0 ∧ p0 < n)) ∧ (fun σ' => IF (MT 49 49 49 49) σ σ' ∧ True) σ') (r := []) zk_158_2 rfl rfl rfl rfl rfl rfl (Or.inr ⟨_, _, _, _, rfl, vd_35, rfl⟩) (fun σ' h => (r_157 p0 n (by omega) (by omega) σ' h.1.1 ((h.1.2 _ _ _ _ (by first | exact nMT rfl | (unfold MT; omega))).trans sn)).le (Nat.le_of_ble_eq_true rfl) (fun v σ2 ⟨y, h1, h2, h3, h4⟩ => ⟨y, h1, h2, h.1.tr h3 MN_sub, trivial⟩)) (pc' := 5) rfl (fun y1 => ?_)
  refine G_ex (fun hy1 => ?_)
  refine T_if_eq zk_158_5 (by omega) (pc' := 8) rfl (fun h2 => ?_) (fun h3 => ?_)
  ·
    refine T_ld zk_158_21 rfl rfl rfl (pc' := 22) rfl ?_
    refine T_op zk_158_22 rfl X_ic (pc' := 23) rfl ?_
    refine T_calli (K := fun y4 σ' => (y4 = (-1)) ∧ (fun σ' => IF (MT 49 49 49 49) σ σ' ∧ True) σ') (r := []) zk_158_23 rfl rfl rfl rfl rfl rfl (Or.inr ⟨_, _, _, _, rfl, vd_35, rfl⟩) (fun σ' h => (m_123 ((-1)) (by omega) σ' h.1.1 ).le (Nat.le_of_ble_eq_true rfl) (fun v σ2 ⟨y, h1, h2, h3, h4⟩ => ⟨y, h1, h2, h.1.tr h3 (fun _ _ _ _ h => h), trivial⟩)) (pc' := 26) rfl (fun y4 => ?_)
    refine G_ex (fun hy4 => ?_)
    obtain rfl : y4 = (-1) := by omega
    exact T_iret zk_158_26 rfl (fun σ' h => ⟨_, rfl, (by omega), h.1, trivial⟩)
  · exfalso; omega
theorem s_22f_it_1 {xs : Nat × (Nat → Int32)} {Q : Option Value → ZS → Prop} (s : Int) (hs : 0 ≤ s ∧ s ≤ 5) (σ : ZS) (hI : Inv σ) (hend : σ 1 1 0 5 ≤ s → ∀ σ', IF (MLkd 1 (Int.toNat s)) σ σ' → TT xs 20 22 83 [(0, av 1 1 0), (1, av 1 0 0), (2, iv s)] [] σ' Q) (ih : s < σ 1 1 0 5 → ∀ σ', IF (MLkd 1 (Int.toNat s)) σ σ' → σ' 23 1 (Int.toNat s) 1 = σ 23 0 (Int.toNat s) 1 → TT xs 20 22 54 [(0, av 1 1 0), (1, av 1 0 0), (2, iv (s + 1))] [] σ' Q) : TT xs 20 22 54 [(0, av 1 1 0), (1, av 1 0 0), (2, iv s)] [] σ Q := by
  have rn : 0 ≤ σ 1 1 0 5 ∧ σ 1 1 0 5 ≤ 5 := (fun h => h.2.1 (by omega) (by omega)) (hI 1 1 0 5 (vd_1 (by omega)))
  refine (show TJ xs (fun σ' => IF (MLkd 1 (Int.toNat s)) σ σ' ∧ True) 20 22 54 [(0, av 1 1 0), (1, av 1 0 0), (2, iv s)] [] Q from ?_) σ ⟨IF.rf hI, trivial⟩
  refine T_ld zk_22_54 rfl rfl rfl (pc' := 55) rfl ?_
  refine T_ld zk_22_55 rfl rfl rfl (pc' := 56) rfl ?_
  refine G_getX (w := σ 1 1 0 5) zk_22_56 rfl (vd_1 (by omega)) (fun σ' h => h.1.2 _ _ _ _ (by first | exact nMLkd rfl | (unfold MLkd; omega))) (pc' := 59) rfl ?_
  refine T_icmp_ge zk_22_59 (by omega) (by omega) (pc' := 62) rfl (fun h1 => ?_) (fun h2 => ?_)
  ·
    exact fun σ' h => hend (by omega) σ' h.1
  ·
    have rf : 0 ≤ σ 23 0 (Int.toNat s) 1 ∧ σ 23 0 (Int.toNat s) 1 ≤ 1 := (fun h => h.2.2 (by omega) (by omega)) (hI 23 0 (Int.toNat s) 1 (vd_23 (by omega) (by omega)))
    refine T_ld zk_22_62 rfl rfl rfl (pc' := 63) rfl ?_
    refine T_getR (t' := 14) (i' := 1) (k' := 0) zk_22_63 rfl rfl rfl (vd_1 (by omega)) (pc' := 66) rfl ?_
    refine T_ld zk_22_66 rfl rfl rfl (pc' := 67) rfl ?_
    refine G_aald (t' := 23) (im := 9) (i' := 1) (ln := 5) zk_22_67 rfl rfl rfl (vd_14 (by omega)) (by omega) (by omega) (by omega) (pc' := 68) rfl ?_
    refine T_ld zk_22_68 rfl rfl rfl (pc' := 69) rfl ?_
    refine T_getR (t' := 14) (i' := 0) (k' := 0) zk_22_69 rfl rfl rfl (vd_1 (by omega)) (pc' := 72) rfl ?_
    refine T_ld zk_22_72 rfl rfl rfl (pc' := 73) rfl ?_
    refine G_aald (t' := 23) (im := 9) (i' := 0) (ln := 5) zk_22_73 rfl rfl rfl (vd_14 (by omega)) (by omega) (by omega) (by omega) (pc' := 74) rfl ?_
    refine T_callv (J' := (fun σ' => IF (MLkd 1 (Int.toNat s)) σ σ' ∧ σ' 23 1 (Int.toNat s) 1 = σ 23 0 (Int.toNat s) 1 ∧ True)) (r := []) zk_22_74 rfl rfl rfl rfl rfl rfl (Or.inr ⟨_, _, _, _, rfl, (vd_23 (by omega) (by omega)), rfl⟩) (fun σ' h => (s_46f_1 (Int.toNat s) (σ 23 0 (Int.toNat s) 1) (by omega) (by omega) σ' h.1.1 (h.1.2 _ _ _ _ (by first | exact nMLkd rfl | (unfold MLkd; omega)))).le (Nat.le_of_ble_eq_true rfl) (fun v σ2 ⟨h1, h3, h4⟩ => ⟨h1, h.1.tr h3 (fun _ _ _ _ h => h), h4.1, trivial⟩)) (pc' := 77) rfl ?_
    refine T_iinc (L' := [(0, av 1 1 0), (1, av 1 0 0), (2, iv (s + 1))]) zk_22_77 (nL := 3) rfl rfl rfl rfl (pc' := 80) rfl ?_
    refine T_goto zk_22_80 ?_
    exact fun σ' h => ih (by omega) σ' h.1 (h.2.1)
theorem s_22f_go_1 {xs : Nat × (Nat → Int32)} {Q : Option Value → ZS → Prop} : ∀ (n : Nat) (s : Int) (hs : 0 ≤ s ∧ s ≤ 5) (hn : 5 - s ≤ n) (σ : ZS) (hI : Inv σ) (hend : ∀ σ' s', (0 ≤ s' ∧ s' ≤ 5) → IF (MLd 1) σ σ' → (∀ k : Nat, k < 5 → s ≤ (k : Int) → (k : Int) < σ 1 1 0 5 → σ' 23 1 k 1 = σ 23 0 k 1) → (∀ k : Nat, (k : Int) < s → σ' 23 1 k 1 = σ 23 1 k 1) → TT xs 20 22 83 [(0, av 1 1 0), (1, av 1 0 0), (2, iv (s'))] [] σ' Q), TT xs 20 22 54 [(0, av 1 1 0), (1, av 1 0 0), (2, iv s)] [] σ Q := by
  intro n
  induction n with
  | zero =>
    intro s hs hn σ hI hend
    have rn := (hI 1 1 0 5 (vd_1 (by omega)))
    simp only [rgP] at rn
    exact s_22f_it_1 s hs σ hI (fun h8 σ' h => hend σ' s hs (h.mono (fun t i k j q => by unfold MLkd at q; unfold MLd; omega)) (fun k hk h1 h2 => absurd h1 (by omega)) (fun k hk => h.2 23 1 k 1 (by unfold MLkd; omega))) (fun h8 => absurd h8 (by omega))
  | succ n IHn =>
    intro s hs hn σ hI hend
    have rn := (hI 1 1 0 5 (vd_1 (by omega)))
    simp only [rgP] at rn
    refine s_22f_it_1 s hs σ hI (fun h8 σ' h => hend σ' s hs (h.mono (fun t i k j q => by unfold MLkd at q; unfold MLd; omega)) (fun k hk h1 h2 => absurd h1 (by omega)) (fun k hk => h.2 23 1 k 1 (by unfold MLkd; omega))) (fun h8 σ' h e => ?_)
    refine IHn (s + 1) (by omega) (by omega) σ' h.1 (fun σ2 s' hs' h2 e2 e3 => ?_)
    refine hend σ2 s' hs' ((h.mono (fun t i k j q => by unfold MLkd at q; unfold MLd; omega)).tr h2 (fun _ _ _ _ q => q)) (fun k hk h1 h3 => ?_) (fun k hk => (e3 k (by omega)).trans (h.2 23 1 k 1 (by unfold MLkd; omega)))
    by_cases hq : k = Int.toNat s
    · subst hq
      rw [e3 _ (by omega), e]
    · have en : σ' 1 1 0 5 = σ 1 1 0 5 := h.2 1 1 0 5 (by unfold MLkd; omega)
      rw [e2 k hk (by omega) (by omega)]
      exact h.2 23 0 k 1 (by unfold MLkd; omega)
theorem s_22f_a_1 {xs : Nat × (Nat → Int32)} {Q : Option Value → ZS → Prop}  (σ : ZS) (hI : Inv σ) (hgo : ∀ σ', IF (MY 1) σ σ' → σ' 1 1 0 5 = σ 1 0 0 5 → TT xs 20 22 54 [(0, av 1 1 0), (1, av 1 0 0), (2, iv 0)] [] σ' Q) : TT xs 20 22 0 [(0, av 1 1 0), (1, av 1 0 0)] [] σ Q := by
  have rn : 0 ≤ σ 1 0 0 5 ∧ σ 1 0 0 5 ≤ 5 := (fun h => h.2.1 (by omega) (by omega)) (hI 1 0 0 5 (vd_1 (by omega)))
  refine (show TJ xs (fun σ' => IF (MY 1) σ σ' ∧ True) 20 22 0 [(0, av 1 1 0), (1, av 1 0 0)] [] Q from ?_) σ ⟨IF.rf hI, trivial⟩
  refine T_ld zk_22_0 rfl rfl rfl (pc' := 1) rfl ?_
  refine T_getR (t' := 2) (i' := 1) (k' := 0) zk_22_1 rfl rfl rfl (vd_1 (by omega)) (pc' := 4) rfl ?_
  refine T_ld zk_22_4 rfl rfl rfl (pc' := 5) rfl ?_
  refine T_getR (t' := 2) (i' := 0) (k' := 0) zk_22_5 rfl rfl rfl (vd_1 (by omega)) (pc' := 8) rfl ?_
  refine T_callv (J' := (fun σ' => IF (MY 1) σ σ' ∧ True)) (r := []) zk_22_8 rfl rfl rfl rfl rfl rfl (Or.inr ⟨_, _, _, _, rfl, (vd_2 (by omega)), rfl⟩) (fun σ' h => (w_39 1 0 (by omega) (by omega) σ' h.1.1 ).le (Nat.le_of_ble_eq_true rfl) (fun v σ2 ⟨h1, h3, h4⟩ => ⟨h1, h.1.tr h3 sb72_644d648, trivial⟩)) (pc' := 11) rfl ?_
  refine T_ld zk_22_11 rfl rfl rfl (pc' := 12) rfl ?_
  refine T_getR (t' := 11) (i' := 1) (k' := 0) zk_22_12 rfl rfl rfl (vd_1 (by omega)) (pc' := 15) rfl ?_
  refine T_ld zk_22_15 rfl rfl rfl (pc' := 16) rfl ?_
  refine T_getR (t' := 11) (i' := 0) (k' := 0) zk_22_16 rfl rfl rfl (vd_1 (by omega)) (pc' := 19) rfl ?_
  refine T_callv (J' := (fun σ' => IF (MY 1) σ σ' ∧ True)) (r := []) zk_22_19 rfl rfl rfl rfl rfl rfl (Or.inr ⟨_, _, _, _, rfl, (vd_11 (by omega)), rfl⟩) (fun σ' h => (w_64 1 0 (by omega) (by omega) σ' h.1.1 ).le (Nat.le_of_ble_eq_true rfl) (fun v σ2 ⟨h1, h3, h4⟩ => ⟨h1, h.1.tr h3 sb72_93ede0b, trivial⟩)) (pc' := 22) rfl ?_
  refine T_ld zk_22_22 rfl rfl rfl (pc' := 23) rfl ?_
  refine T_getR (t' := 17) (i' := 1) (k' := 0) zk_22_23 rfl rfl rfl (vd_1 (by omega)) (pc' := 26) rfl ?_
  refine T_ld zk_22_26 rfl rfl rfl (pc' := 27) rfl ?_
  refine T_getR (t' := 17) (i' := 0) (k' := 0) zk_22_27 rfl rfl rfl (vd_1 (by omega)) (pc' := 30) rfl ?_
  refine T_callv (J' := (fun σ' => IF (MY 1) σ σ' ∧ True)) (r := []) zk_22_30 rfl rfl rfl rfl rfl rfl (Or.inr ⟨_, _, _, _, rfl, (vd_17 (by omega) (by omega)), rfl⟩) (fun σ' h => (w_72 1 0 0 (by omega) (by omega) (by omega) σ' h.1.1 ).le (Nat.le_of_ble_eq_true rfl) (fun v σ2 ⟨h1, h3, h4⟩ => ⟨h1, h.1.tr h3 sb72_5e083c8, trivial⟩)) (pc' := 33) rfl ?_
  refine T_ld zk_22_33 rfl rfl rfl (pc' := 34) rfl ?_
  refine T_getR (t' := 17) (i' := 1) (k' := 1) zk_22_34 rfl rfl rfl (vd_1 (by omega)) (pc' := 37) rfl ?_
  refine T_ld zk_22_37 rfl rfl rfl (pc' := 38) rfl ?_
  refine T_getR (t' := 17) (i' := 0) (k' := 1) zk_22_38 rfl rfl rfl (vd_1 (by omega)) (pc' := 41) rfl ?_
  refine T_callv (J' := (fun σ' => IF (MY 1) σ σ' ∧ True)) (r := []) zk_22_41 rfl rfl rfl rfl rfl rfl (Or.inr ⟨_, _, _, _, rfl, (vd_17 (by omega) (by omega)), rfl⟩) (fun σ' h => (w_72 1 1 0 (by omega) (by omega) (by omega) σ' h.1.1 ).le (Nat.le_of_ble_eq_true rfl) (fun v σ2 ⟨h1, h3, h4⟩ => ⟨h1, h.1.tr h3 sb72_72ea14c, trivial⟩)) (pc' := 44) rfl ?_
  refine T_ld zk_22_44 rfl rfl rfl (pc' := 45) rfl ?_
  refine T_ld zk_22_45 rfl rfl rfl (pc' := 46) rfl ?_
  refine G_getX (w := σ 1 0 0 5) zk_22_46 rfl (vd_1 (by omega)) (fun σ' h => h.1.2 _ _ _ _ (by first | exact nMY rfl | (unfold MY; omega))) (pc' := 49) rfl ?_
  refine T_putf (J' := (fun σ' => IF (MY 1) σ σ' ∧ σ' 1 1 0 5 = σ 1 0 0 5 ∧ True)) zk_22_49 rfl rfl (vd_1 (by omega)) (fun σ' h => ⟨h.1.up (by simp only [rgP] <;> omega) (by unfold MY; omega), up_eq, trivial⟩) (pc' := 52) rfl ?_
  refine T_op zk_22_52 rfl X_ic (pc' := 53) rfl ?_
  refine T_st (L' := [(0, av 1 1 0), (1, av 1 0 0), (2, iv 0)]) zk_22_53 (nL := 3) rfl rfl rfl rfl rfl (pc' := 54) rfl ?_
  exact fun σ' h => hgo σ' h.1 (h.2.1)
theorem sb79zf_f5199ce : ∀ t i k j, MI 1 26 26 26 26 t i k j → MYh 1 t i k j := by
  intro t i k j h
  unfold MI at h
  unfold MYh
  omega
theorem sb79zf_61eb801 : ∀ t i k j, MI 1 25 25 25 25 t i k j → MYh 1 t i k j := by
  intro t i k j h
  unfold MI at h
  unfold MYh
  omega
theorem s_22f_b_1 {xs : Nat × (Nat → Int32)} {Q : Option Value → ZS → Prop} (s : Int) (hs : 0 ≤ s ∧ s ≤ 5) (σ : ZS) (hI : Inv σ) (hret : ∀ σ', IF (MYh 1) σ σ' → (σ' 1 1 0 6 = σ 1 0 0 6 ∧ σ' 1 1 0 7 = σ 1 0 0 7 ∧ σ' 1 1 0 10 = σ 1 0 0 10 ∧ σ' 1 1 0 11 = σ 1 0 0 11 ∧ σ' 1 1 0 12 = σ 1 0 0 12 ∧ σ' 1 1 0 13 = σ 1 0 0 13) → Q none σ') : TT xs 20 22 83 [(0, av 1 1 0), (1, av 1 0 0), (2, iv s)] [] σ Q := by
  have q_6 : 0 ≤ σ 1 0 0 6 ∧ σ 1 0 0 6 ≤ 12 := (fun h => h.2.2.1 (by omega) (by omega)) (hI 1 0 0 6 (vd_1 (by omega)))
  have q_7 : 0 ≤ σ 1 0 0 7 ∧ σ 1 0 0 7 ≤ 6 := (fun h => h.2.2.2.1 (by omega) (by omega)) (hI 1 0 0 7 (vd_1 (by omega)))
  have q_10 : 0 ≤ σ 1 0 0 10 ∧ σ 1 0 0 10 ≤ 99 := (fun h => h.2.2.2.2.1 (by omega) (by omega)) (hI 1 0 0 10 (vd_1 (by omega)))
  have q_11 : 1 ≤ σ 1 0 0 11 ∧ σ 1 0 0 11 ≤ 9 := (fun h => h.2.2.2.2.2.1 (by omega) (by omega)) (hI 1 0 0 11 (vd_1 (by omega)))
  have q_12 : 0 ≤ σ 1 0 0 12 ∧ σ 1 0 0 12 ≤ 9999 := (fun h => h.2.2.2.2.2.2 (by omega) (by omega)) (hI 1 0 0 12 (vd_1 (by omega)))
  have q_13 : -2147483648 ≤ σ 1 0 0 13 ∧ σ 1 0 0 13 ≤ 2147483647 := (fun h => (by have q := h.1; omega)) (hI 1 0 0 13 (vd_1 (by omega)))
  have q_14 : -2147483648 ≤ σ 1 0 0 14 ∧ σ 1 0 0 14 ≤ 2147483647 := (fun h => (by have q := h.1; omega)) (hI 1 0 0 14 (vd_1 (by omega)))
  have q_15 : -2147483648 ≤ σ 1 0 0 15 ∧ σ 1 0 0 15 ≤ 2147483647 := (fun h => (by have q := h.1; omega)) (hI 1 0 0 15 (vd_1 (by omega)))
  have q_16 : -2147483648 ≤ σ 1 0 0 16 ∧ σ 1 0 0 16 ≤ 2147483647 := (fun h => (by have q := h.1; omega)) (hI 1 0 0 16 (vd_1 (by omega)))
  refine (show TJ xs (fun σ' => IF (MYh 1) σ σ' ∧ True) 20 22 83 [(0, av 1 1 0), (1, av 1 0 0), (2, iv s)] [] Q from ?_) σ ⟨IF.rf hI, trivial⟩
  refine T_ld zk_22_83 rfl rfl rfl (pc' := 84) rfl ?_
  refine T_ld zk_22_84 rfl rfl rfl (pc' := 85) rfl ?_
  refine G_getX (w := σ 1 0 0 6) zk_22_85 rfl (vd_1 (by omega)) (fun σ' h => h.1.2 _ _ _ _ (by first | exact nMYh rfl | (unfold MYh; omega))) (pc' := 88) rfl ?_
  refine T_putf (J' := (fun σ' => IF (MYh 1) σ σ' ∧ σ' 1 1 0 6 = σ 1 0 0 6 ∧ True)) zk_22_88 rfl rfl (vd_1 (by omega)) (fun σ' h => ⟨h.1.up (by simp only [rgP] <;> omega) (by unfold MYh; omega), up_eq, trivial⟩) (pc' := 91) rfl ?_
  refine T_op zk_22_91 rfl X_ic (pc' := 92) rfl ?_
  refine T_st (L' := [(0, av 1 1 0), (1, av 1 0 0), (2, iv 0)]) zk_22_92 (nL := 3) rfl rfl rfl rfl rfl (pc' := 93) rfl ?_
  refine T_loop1 (fun x1 => ((12 - x1 : Int)).toNat) (fun x1 => (0 ≤ x1 ∧ x1 ≤ 12)) (fun x1 => TJ xs (fun σ' => IF (MYh 1) σ σ' ∧ σ' 1 1 0 6 = σ 1 0 0 6 ∧ True) 20 22 93 [(0, av 1 1 0), (1, av 1 0 0), (2, iv x1)] [] _) ?_ 0 (by omega)
  intro x1 hp3 ih2
  refine T_ld zk_22_93 rfl rfl rfl (pc' := 94) rfl ?_
  refine T_ld zk_22_94 rfl rfl rfl (pc' := 95) rfl ?_
  refine G_getX (w := σ 1 0 0 6) zk_22_95 rfl (vd_1 (by omega)) (fun σ' h => h.2.1) (pc' := 98) rfl ?_
  refine T_icmp_ge zk_22_98 (by omega) (by omega) (pc' := 101) rfl (fun h4 => ?_) (fun h5 => ?_)
  ·
    refine T_ld zk_22_122 rfl rfl rfl (pc' := 123) rfl ?_
    refine T_ld zk_22_123 rfl rfl rfl (pc' := 124) rfl ?_
    refine G_getX (w := σ 1 0 0 7) zk_22_124 rfl (vd_1 (by omega)) (fun σ' h => h.1.2 _ _ _ _ (by first | exact nMYh rfl | (unfold MYh; omega))) (pc' := 127) rfl ?_
    refine T_putf (J' := (fun σ' => IF (MYh 1) σ σ' ∧ σ' 1 1 0 6 = σ 1 0 0 6 ∧ σ' 1 1 0 7 = σ 1 0 0 7 ∧ True)) zk_22_127 rfl rfl (vd_1 (by omega)) (fun σ' h => ⟨h.1.up (by simp only [rgP] <;> omega) (by unfold MYh; omega), (up_ne (by omega)).trans (h.2.1), up_eq, trivial⟩) (pc' := 130) rfl ?_
    refine T_op zk_22_130 rfl X_ic (pc' := 131) rfl ?_
    refine T_st (L' := [(0, av 1 1 0), (1, av 1 0 0), (2, iv 0)]) zk_22_131 (nL := 3) rfl rfl rfl rfl rfl (pc' := 132) rfl ?_
    refine T_loop1 (fun x6 => ((6 - x6 : Int)).toNat) (fun x6 => (0 ≤ x6 ∧ x6 ≤ 6)) (fun x6 => TJ xs (fun σ' => IF (MYh 1) σ σ' ∧ σ' 1 1 0 6 = σ 1 0 0 6 ∧ σ' 1 1 0 7 = σ 1 0 0 7 ∧ True) 20 22 132 [(0, av 1 1 0), (1, av 1 0 0), (2, iv x6)] [] _) ?_ 0 (by omega)
    intro x6 hp8 ih7
    refine T_ld zk_22_132 rfl rfl rfl (pc' := 133) rfl ?_
    refine T_ld zk_22_133 rfl rfl rfl (pc' := 134) rfl ?_
    refine G_getX (w := σ 1 0 0 7) zk_22_134 rfl (vd_1 (by omega)) (fun σ' h => h.2.2.1) (pc' := 137) rfl ?_
    refine T_icmp_ge zk_22_137 (by omega) (by omega) (pc' := 140) rfl (fun h9 => ?_) (fun h10 => ?_)
    ·
      refine T_ld zk_22_161 rfl rfl rfl (pc' := 162) rfl ?_
      refine T_ld zk_22_162 rfl rfl rfl (pc' := 163) rfl ?_
      refine G_getX (w := σ 1 0 0 10) zk_22_163 rfl (vd_1 (by omega)) (fun σ' h => h.1.2 _ _ _ _ (by first | exact nMYh rfl | (unfold MYh; omega))) (pc' := 166) rfl ?_
      refine T_putf (J' := (fun σ' => IF (MYh 1) σ σ' ∧ σ' 1 1 0 6 = σ 1 0 0 6 ∧ σ' 1 1 0 7 = σ 1 0 0 7 ∧ σ' 1 1 0 10 = σ 1 0 0 10 ∧ True)) zk_22_166 rfl rfl (vd_1 (by omega)) (fun σ' h => ⟨h.1.up (by simp only [rgP] <;> omega) (by unfold MYh; omega), (up_ne (by omega)).trans (h.2.1), (up_ne (by omega)).trans (h.2.2.1), up_eq, trivial⟩) (pc' := 169) rfl ?_
      refine T_ld zk_22_169 rfl rfl rfl (pc' := 170) rfl ?_
      refine T_ld zk_22_170 rfl rfl rfl (pc' := 171) rfl ?_
      refine G_getX (w := σ 1 0 0 11) zk_22_171 rfl (vd_1 (by omega)) (fun σ' h => h.1.2 _ _ _ _ (by first | exact nMYh rfl | (unfold MYh; omega))) (pc' := 174) rfl ?_
      refine T_putf (J' := (fun σ' => IF (MYh 1) σ σ' ∧ σ' 1 1 0 6 = σ 1 0 0 6 ∧ σ' 1 1 0 7 = σ 1 0 0 7 ∧ σ' 1 1 0 10 = σ 1 0 0 10 ∧ σ' 1 1 0 11 = σ 1 0 0 11 ∧ True)) zk_22_174 rfl rfl (vd_1 (by omega)) (fun σ' h => ⟨h.1.up (by simp only [rgP] <;> omega) (by unfold MYh; omega), (up_ne (by omega)).trans (h.2.1), (up_ne (by omega)).trans (h.2.2.1), (up_ne (by omega)).trans (h.2.2.2.1), up_eq, trivial⟩) (pc' := 177) rfl ?_
      refine T_ld zk_22_177 rfl rfl rfl (pc' := 178) rfl ?_
      refine T_ld zk_22_178 rfl rfl rfl (pc' := 179) rfl ?_
      refine G_getX (w := σ 1 0 0 12) zk_22_179 rfl (vd_1 (by omega)) (fun σ' h => h.1.2 _ _ _ _ (by first | exact nMYh rfl | (unfold MYh; omega))) (pc' := 182) rfl ?_
      refine T_putf (J' := (fun σ' => IF (MYh 1) σ σ' ∧ σ' 1 1 0 6 = σ 1 0 0 6 ∧ σ' 1 1 0 7 = σ 1 0 0 7 ∧ σ' 1 1 0 10 = σ 1 0 0 10 ∧ σ' 1 1 0 11 = σ 1 0 0 11 ∧ σ' 1 1 0 12 = σ 1 0 0 12 ∧ True)) zk_22_182 rfl rfl (vd_1 (by omega)) (fun σ' h => ⟨h.1.up (by simp only [rgP] <;> omega) (by unfold MYh; omega), (up_ne (by omega)).trans (h.2.1), (up_ne (by omega)).trans (h.2.2.1), (up_ne (by omega)).trans (h.2.2.2.1), (up_ne (by omega)).trans (h.2.2.2.2.1), up_eq, trivial⟩) (pc' := 185) rfl ?_
      refine T_ld zk_22_185 rfl rfl rfl (pc' := 186) rfl ?_
      refine T_ld zk_22_186 rfl rfl rfl (pc' := 187) rfl ?_
      refine G_getX (w := σ 1 0 0 13) zk_22_187 rfl (vd_1 (by omega)) (fun σ' h => h.1.2 _ _ _ _ (by first | exact nMYh rfl | (unfold MYh; omega))) (pc' := 190) rfl ?_
      refine T_putf (J' := (fun σ' => IF (MYh 1) σ σ' ∧ σ' 1 1 0 6 = σ 1 0 0 6 ∧ σ' 1 1 0 7 = σ 1 0 0 7 ∧ σ' 1 1 0 10 = σ 1 0 0 10 ∧ σ' 1 1 0 11 = σ 1 0 0 11 ∧ σ' 1 1 0 12 = σ 1 0 0 12 ∧ σ' 1 1 0 13 = σ 1 0 0 13 ∧ True)) zk_22_190 rfl rfl (vd_1 (by omega)) (fun σ' h => ⟨h.1.up (by simp only [rgP] <;> omega) (by unfold MYh; omega), (up_ne (by omega)).trans (h.2.1), (up_ne (by omega)).trans (h.2.2.1), (up_ne (by omega)).trans (h.2.2.2.1), (up_ne (by omega)).trans (h.2.2.2.2.1), (up_ne (by omega)).trans (h.2.2.2.2.2.1), up_eq, trivial⟩) (pc' := 193) rfl ?_
      refine T_ld zk_22_193 rfl rfl rfl (pc' := 194) rfl ?_
      refine T_ld zk_22_194 rfl rfl rfl (pc' := 195) rfl ?_
      refine G_getX (w := σ 1 0 0 14) zk_22_195 rfl (vd_1 (by omega)) (fun σ' h => h.1.2 _ _ _ _ (by first | exact nMYh rfl | (unfold MYh; omega))) (pc' := 198) rfl ?_
      refine T_putf (J' := (fun σ' => IF (MYh 1) σ σ' ∧ σ' 1 1 0 6 = σ 1 0 0 6 ∧ σ' 1 1 0 7 = σ 1 0 0 7 ∧ σ' 1 1 0 10 = σ 1 0 0 10 ∧ σ' 1 1 0 11 = σ 1 0 0 11 ∧ σ' 1 1 0 12 = σ 1 0 0 12 ∧ σ' 1 1 0 13 = σ 1 0 0 13 ∧ σ' 1 1 0 14 = σ 1 0 0 14 ∧ True)) zk_22_198 rfl rfl (vd_1 (by omega)) (fun σ' h => ⟨h.1.up (by simp only [rgP] <;> omega) (by unfold MYh; omega), (up_ne (by omega)).trans (h.2.1), (up_ne (by omega)).trans (h.2.2.1), (up_ne (by omega)).trans (h.2.2.2.1), (up_ne (by omega)).trans (h.2.2.2.2.1), (up_ne (by omega)).trans (h.2.2.2.2.2.1), (up_ne (by omega)).trans (h.2.2.2.2.2.2.1), up_eq, trivial⟩) (pc' := 201) rfl ?_
      refine T_ld zk_22_201 rfl rfl rfl (pc' := 202) rfl ?_
      refine T_ld zk_22_202 rfl rfl rfl (pc' := 203) rfl ?_
      refine G_getX (w := σ 1 0 0 15) zk_22_203 rfl (vd_1 (by omega)) (fun σ' h => h.1.2 _ _ _ _ (by first | exact nMYh rfl | (unfold MYh; omega))) (pc' := 206) rfl ?_
      refine T_putf (J' := (fun σ' => IF (MYh 1) σ σ' ∧ σ' 1 1 0 6 = σ 1 0 0 6 ∧ σ' 1 1 0 7 = σ 1 0 0 7 ∧ σ' 1 1 0 10 = σ 1 0 0 10 ∧ σ' 1 1 0 11 = σ 1 0 0 11 ∧ σ' 1 1 0 12 = σ 1 0 0 12 ∧ σ' 1 1 0 13 = σ 1 0 0 13 ∧ σ' 1 1 0 14 = σ 1 0 0 14 ∧ σ' 1 1 0 15 = σ 1 0 0 15 ∧ True)) zk_22_206 rfl rfl (vd_1 (by omega)) (fun σ' h => ⟨h.1.up (by simp only [rgP] <;> omega) (by unfold MYh; omega), (up_ne (by omega)).trans (h.2.1), (up_ne (by omega)).trans (h.2.2.1), (up_ne (by omega)).trans (h.2.2.2.1), (up_ne (by omega)).trans (h.2.2.2.2.1), (up_ne (by omega)).trans (h.2.2.2.2.2.1), (up_ne (by omega)).trans (h.2.2.2.2.2.2.1), (up_ne (by omega)).trans (h.2.2.2.2.2.2.2.1), up_eq, trivial⟩) (pc' := 209) rfl ?_
      refine T_ld zk_22_209 rfl rfl rfl (pc' := 210) rfl ?_
      refine T_ld zk_22_210 rfl rfl rfl (pc' := 211) rfl ?_
      refine G_getX (w := σ 1 0 0 16) zk_22_211 rfl (vd_1 (by omega)) (fun σ' h => h.1.2 _ _ _ _ (by first | exact nMYh rfl | (unfold MYh; omega))) (pc' := 214) rfl ?_
      refine T_putf (J' := (fun σ' => IF (MYh 1) σ σ' ∧ σ' 1 1 0 6 = σ 1 0 0 6 ∧ σ' 1 1 0 7 = σ 1 0 0 7 ∧ σ' 1 1 0 10 = σ 1 0 0 10 ∧ σ' 1 1 0 11 = σ 1 0 0 11 ∧ σ' 1 1 0 12 = σ 1 0 0 12 ∧ σ' 1 1 0 13 = σ 1 0 0 13 ∧ σ' 1 1 0 14 = σ 1 0 0 14 ∧ σ' 1 1 0 15 = σ 1 0 0 15 ∧ σ' 1 1 0 16 = σ 1 0 0 16 ∧ True)) zk_22_214 rfl rfl (vd_1 (by omega)) (fun σ' h => ⟨h.1.up (by simp only [rgP] <;> omega) (by unfold MYh; omega), (up_ne (by omega)).trans (h.2.1), (up_ne (by omega)).trans (h.2.2.1), (up_ne (by omega)).trans (h.2.2.2.1), (up_ne (by omega)).trans (h.2.2.2.2.1), (up_ne (by omega)).trans (h.2.2.2.2.2.1), (up_ne (by omega)).trans (h.2.2.2.2.2.2.1), (up_ne (by omega)).trans (h.2.2.2.2.2.2.2.1), (up_ne (by omega)).trans (h.2.2.2.2.2.2.2.2.1), up_eq, trivial⟩) (pc' := 217) rfl ?_
      exact T_vret zk_22_217 rfl (fun σ' h => hret σ' h.1 ⟨(h.2.1), (h.2.2.1), (h.2.2.2.1), (h.2.2.2.2.1), (h.2.2.2.2.2.1), (h.2.2.2.2.2.2.1)⟩)
    ·
      refine T_ld zk_22_140 rfl rfl rfl (pc' := 141) rfl ?_
      refine T_getR (t' := 16) (i' := 1) (k' := 0) zk_22_141 rfl rfl rfl (vd_1 (by omega)) (pc' := 144) rfl ?_
      refine T_ld zk_22_144 rfl rfl rfl (pc' := 145) rfl ?_
      refine G_aald (t' := 26) (im := 9) (i' := 1) (ln := 6) zk_22_145 rfl rfl rfl (vd_16 (by omega)) (by omega) (by omega) (by omega) (pc' := 146) rfl ?_
      refine T_ld zk_22_146 rfl rfl rfl (pc' := 147) rfl ?_
      refine T_getR (t' := 16) (i' := 0) (k' := 0) zk_22_147 rfl rfl rfl (vd_1 (by omega)) (pc' := 150) rfl ?_
      refine T_ld zk_22_150 rfl rfl rfl (pc' := 151) rfl ?_
      refine G_aald (t' := 26) (im := 9) (i' := 0) (ln := 6) zk_22_151 rfl rfl rfl (vd_16 (by omega)) (by omega) (by omega) (by omega) (pc' := 152) rfl ?_
      refine T_callv (J' := (fun σ' => IF (MYh 1) σ σ' ∧ σ' 1 1 0 6 = σ 1 0 0 6 ∧ σ' 1 1 0 7 = σ 1 0 0 7 ∧ True)) (r := []) zk_22_152 rfl rfl rfl rfl rfl rfl (Or.inr ⟨_, _, _, _, rfl, (vd_26 (by omega) (by omega)), rfl⟩) (fun σ' h => (w_3 1 (Int.toNat x6) 0 (by omega) (by omega) (by omega) σ' h.1.1 ).le (Nat.le_of_ble_eq_true rfl) (fun v σ2 ⟨h1, h3, h4⟩ => ⟨h1, h.1.tr h3 sb79zf_f5199ce, (h3.2 _ _ _ _ (by first | exact nMI rfl | (unfold MI; omega))).trans (h.2.1), (h3.2 _ _ _ _ (by first | exact nMI rfl | (unfold MI; omega))).trans (h.2.2.1), trivial⟩)) (pc' := 155) rfl ?_
      refine T_iinc (L' := [(0, av 1 1 0), (1, av 1 0 0), (2, iv (x6 + 1))]) zk_22_155 (nL := 3) rfl rfl rfl rfl (pc' := 158) rfl ?_
      refine T_goto zk_22_158 ?_
      exact ih7 (x6 + 1) (by omega) (by omega)
  ·
    refine T_ld zk_22_101 rfl rfl rfl (pc' := 102) rfl ?_
    refine T_getR (t' := 15) (i' := 1) (k' := 0) zk_22_102 rfl rfl rfl (vd_1 (by omega)) (pc' := 105) rfl ?_
    refine T_ld zk_22_105 rfl rfl rfl (pc' := 106) rfl ?_
    refine G_aald (t' := 25) (im := 9) (i' := 1) (ln := 12) zk_22_106 rfl rfl rfl (vd_15 (by omega)) (by omega) (by omega) (by omega) (pc' := 107) rfl ?_
    refine T_ld zk_22_107 rfl rfl rfl (pc' := 108) rfl ?_
    refine T_getR (t' := 15) (i' := 0) (k' := 0) zk_22_108 rfl rfl rfl (vd_1 (by omega)) (pc' := 111) rfl ?_
    refine T_ld zk_22_111 rfl rfl rfl (pc' := 112) rfl ?_
    refine G_aald (t' := 25) (im := 9) (i' := 0) (ln := 12) zk_22_112 rfl rfl rfl (vd_15 (by omega)) (by omega) (by omega) (by omega) (pc' := 113) rfl ?_
    refine T_callv (J' := (fun σ' => IF (MYh 1) σ σ' ∧ σ' 1 1 0 6 = σ 1 0 0 6 ∧ True)) (r := []) zk_22_113 rfl rfl rfl rfl rfl rfl (Or.inr ⟨_, _, _, _, rfl, (vd_25 (by omega) (by omega)), rfl⟩) (fun σ' h => (w_28 1 (Int.toNat x1) 0 (by omega) (by omega) (by omega) σ' h.1.1 ).le (Nat.le_of_ble_eq_true rfl) (fun v σ2 ⟨h1, h3, h4⟩ => ⟨h1, h.1.tr h3 sb79zf_61eb801, (h3.2 _ _ _ _ (by first | exact nMI rfl | (unfold MI; omega))).trans (h.2.1), trivial⟩)) (pc' := 116) rfl ?_
    refine T_iinc (L' := [(0, av 1 1 0), (1, av 1 0 0), (2, iv (x1 + 1))]) zk_22_116 (nL := 3) rfl rfl rfl rfl (pc' := 119) rfl ?_
    refine T_goto zk_22_119 ?_
    exact ih2 (x1 + 1) (by omega) (by omega)
theorem s_22f_1 {xs : Nat × (Nat → Int32)} (a5 : Int) (a6 : Int) (a7 : Int) (a10 : Int) (a11 : Int) (a12 : Int) (a13 : Int) (H : Nat → Int) (σ : ZS) (hI : Inv σ) (t0 : σ 1 0 0 5 = a5) (t1 : σ 1 0 0 6 = a6) (t2 : σ 1 0 0 7 = a7) (t3 : σ 1 0 0 10 = a10) (t4 : σ 1 0 0 11 = a11) (t5 : σ 1 0 0 12 = a12) (t6 : σ 1 0 0 13 = a13) (sH : ∀ k : Nat, k < 5 → σ 23 0 k 1 = H k) : CT xs 21 22 [av 1 1 0, av 1 0 0] σ (fun v σ' => v = none ∧ IF (MY 1) σ σ' ∧ (σ' 1 1 0 5 = a5 ∧ σ' 1 1 0 6 = a6 ∧ σ' 1 1 0 7 = a7 ∧ σ' 1 1 0 10 = a10 ∧ σ' 1 1 0 11 = a11 ∧ σ' 1 1 0 12 = a12 ∧ σ' 1 1 0 13 = a13 ∧ (∀ k : Nat, k < 5 → (k : Int) < a5 → σ' 23 1 k 1 = H k) ∧ True)) :=
  CT.of (nL := 3) rfl (Nat.le_of_ble_eq_true rfl) (L := [(0, av 1 1 0), (1, av 1 0 0)]) rfl (s_22f_a_1 σ hI (fun σ1 h1 e5 => s_22f_go_1 5 0 (by omega) (by omega) σ1 h1.1 (fun σ2 s' hs' h2 e2 e3 => s_22f_b_1 s' hs' σ2 h2.1 (fun σ3 h3 e4 => ⟨rfl, (h1.tr h2 (fun t i k j q => by unfold MLd at q; unfold MY; omega)).tr h3 (fun t i k j q => by unfold MYh at q; unfold MY; omega), (h3.2 1 1 0 5 (by unfold MYh; omega)).trans ((h2.2 1 1 0 5 (by unfold MLd; omega)).trans (e5.trans t0)), (e4.1).trans ((h2.2 1 0 0 6 (by unfold MLd; omega)).trans ((h1.2 1 0 0 6 (by unfold MY; omega)).trans t1)), (e4.2.1).trans ((h2.2 1 0 0 7 (by unfold MLd; omega)).trans ((h1.2 1 0 0 7 (by unfold MY; omega)).trans t2)), (e4.2.2.1).trans ((h2.2 1 0 0 10 (by unfold MLd; omega)).trans ((h1.2 1 0 0 10 (by unfold MY; omega)).trans t3)), (e4.2.2.2.1).trans ((h2.2 1 0 0 11 (by unfold MLd; omega)).trans ((h1.2 1 0 0 11 (by unfold MY; omega)).trans t4)), (e4.2.2.2.2.1).trans ((h2.2 1 0 0 12 (by unfold MLd; omega)).trans ((h1.2 1 0 0 12 (by unfold MY; omega)).trans t5)), (e4.2.2.2.2.2).trans ((h2.2 1 0 0 13 (by unfold MLd; omega)).trans ((h1.2 1 0 0 13 (by unfold MY; omega)).trans t6)), fun k hk hl => (h3.2 23 1 k 1 (by unfold MYh; omega)).trans ((e2 k hk (by omega) (by rw [e5, t0]; exact hl)).trans ((h1.2 23 0 k 1 (by unfold MY; omega)).trans (sH k hk))), trivial⟩))))
theorem s_22f_it_0 {xs : Nat × (Nat → Int32)} {Q : Option Value → ZS → Prop} (s : Int) (hs : 0 ≤ s ∧ s ≤ 5) (σ : ZS) (hI : Inv σ) (hend : σ 1 0 0 5 ≤ s → ∀ σ', IF (MLkd 0 (Int.toNat s)) σ σ' → TT xs 20 22 83 [(0, av 1 0 0), (1, av 1 1 0), (2, iv s)] [] σ' Q) (ih : s < σ 1 0 0 5 → ∀ σ', IF (MLkd 0 (Int.toNat s)) σ σ' → σ' 23 0 (Int.toNat s) 1 = σ 23 1 (Int.toNat s) 1 → TT xs 20 22 54 [(0, av 1 0 0), (1, av 1 1 0), (2, iv (s + 1))] [] σ' Q) : TT xs 20 22 54 [(0, av 1 0 0), (1, av 1 1 0), (2, iv s)] [] σ Q := by
  have rn : 0 ≤ σ 1 0 0 5 ∧ σ 1 0 0 5 ≤ 5 := (fun h => h.2.1 (by omega) (by omega)) (hI 1 0 0 5 (vd_1 (by omega)))
  refine (show TJ xs (fun σ' => IF (MLkd 0 (Int.toNat s)) σ σ' ∧ True) 20 22 54 [(0, av 1 0 0), (1, av 1 1 0), (2, iv s)] [] Q from ?_) σ ⟨IF.rf hI, trivial⟩
  refine T_ld zk_22_54 rfl rfl rfl (pc' := 55) rfl ?_
  refine T_ld zk_22_55 rfl rfl rfl (pc' := 56) rfl ?_
  refine G_getX (w := σ 1 0 0 5) zk_22_56 rfl (vd_1 (by omega)) (fun σ' h => h.1.2 _ _ _ _ (by first | exact nMLkd rfl | (unfold MLkd; omega))) (pc' := 59) rfl ?_
  refine T_icmp_ge zk_22_59 (by omega) (by omega) (pc' := 62) rfl (fun h1 => ?_) (fun h2 => ?_)
  ·
    exact fun σ' h => hend (by omega) σ' h.1
  ·
    have rf : 0 ≤ σ 23 1 (Int.toNat s) 1 ∧ σ 23 1 (Int.toNat s) 1 ≤ 1 := (fun h => h.2.2 (by omega) (by omega)) (hI 23 1 (Int.toNat s) 1 (vd_23 (by omega) (by omega)))
    refine T_ld zk_22_62 rfl rfl rfl (pc' := 63) rfl ?_
    refine T_getR (t' := 14) (i' := 0) (k' := 0) zk_22_63 rfl rfl rfl (vd_1 (by omega)) (pc' := 66) rfl ?_
    refine T_ld zk_22_66 rfl rfl rfl (pc' := 67) rfl ?_
    refine G_aald (t' := 23) (im := 9) (i' := 0) (ln := 5) zk_22_67 rfl rfl rfl (vd_14 (by omega)) (by omega) (by omega) (by omega) (pc' := 68) rfl ?_
    refine T_ld zk_22_68 rfl rfl rfl (pc' := 69) rfl ?_
    refine T_getR (t' := 14) (i' := 1) (k' := 0) zk_22_69 rfl rfl rfl (vd_1 (by omega)) (pc' := 72) rfl ?_
    refine T_ld zk_22_72 rfl rfl rfl (pc' := 73) rfl ?_
    refine G_aald (t' := 23) (im := 9) (i' := 1) (ln := 5) zk_22_73 rfl rfl rfl (vd_14 (by omega)) (by omega) (by omega) (by omega) (pc' := 74) rfl ?_
    refine T_callv (J' := (fun σ' => IF (MLkd 0 (Int.toNat s)) σ σ' ∧ σ' 23 0 (Int.toNat s) 1 = σ 23 1 (Int.toNat s) 1 ∧ True)) (r := []) zk_22_74 rfl rfl rfl rfl rfl rfl (Or.inr ⟨_, _, _, _, rfl, (vd_23 (by omega) (by omega)), rfl⟩) (fun σ' h => (s_46f_0 (Int.toNat s) (σ 23 1 (Int.toNat s) 1) (by omega) (by omega) σ' h.1.1 (h.1.2 _ _ _ _ (by first | exact nMLkd rfl | (unfold MLkd; omega)))).le (Nat.le_of_ble_eq_true rfl) (fun v σ2 ⟨h1, h3, h4⟩ => ⟨h1, h.1.tr h3 (fun _ _ _ _ h => h), h4.1, trivial⟩)) (pc' := 77) rfl ?_
    refine T_iinc (L' := [(0, av 1 0 0), (1, av 1 1 0), (2, iv (s + 1))]) zk_22_77 (nL := 3) rfl rfl rfl rfl (pc' := 80) rfl ?_
    refine T_goto zk_22_80 ?_
    exact fun σ' h => ih (by omega) σ' h.1 (h.2.1)
theorem s_22f_go_0 {xs : Nat × (Nat → Int32)} {Q : Option Value → ZS → Prop} : ∀ (n : Nat) (s : Int) (hs : 0 ≤ s ∧ s ≤ 5) (hn : 5 - s ≤ n) (σ : ZS) (hI : Inv σ) (hend : ∀ σ' s', (0 ≤ s' ∧ s' ≤ 5) → IF (MLd 0) σ σ' → (∀ k : Nat, k < 5 → s ≤ (k : Int) → (k : Int) < σ 1 0 0 5 → σ' 23 0 k 1 = σ 23 1 k 1) → (∀ k : Nat, (k : Int) < s → σ' 23 0 k 1 = σ 23 0 k 1) → TT xs 20 22 83 [(0, av 1 0 0), (1, av 1 1 0), (2, iv (s'))] [] σ' Q), TT xs 20 22 54 [(0, av 1 0 0), (1, av 1 1 0), (2, iv s)] [] σ Q := by
  intro n
  induction n with
  | zero =>
    intro s hs hn σ hI hend
    have rn := (hI 1 0 0 5 (vd_1 (by omega)))
    simp only [rgP] at rn
    exact s_22f_it_0 s hs σ hI (fun h8 σ' h => hend σ' s hs (h.mono (fun t i k j q => by unfold MLkd at q; unfold MLd; omega)) (fun k hk h1 h2 => absurd h1 (by omega)) (fun k hk => h.2 23 0 k 1 (by unfold MLkd; omega))) (fun h8 => absurd h8 (by omega))
  | succ n IHn =>
    intro s hs hn σ hI hend
    have rn := (hI 1 0 0 5 (vd_1 (by omega)))
    simp only [rgP] at rn
    refine s_22f_it_0 s hs σ hI (fun h8 σ' h => hend σ' s hs (h.mono (fun t i k j q => by unfold MLkd at q; unfold MLd; omega)) (fun k hk h1 h2 => absurd h1 (by omega)) (fun k hk => h.2 23 0 k 1 (by unfold MLkd; omega))) (fun h8 σ' h e => ?_)
    refine IHn (s + 1) (by omega) (by omega) σ' h.1 (fun σ2 s' hs' h2 e2 e3 => ?_)
    refine hend σ2 s' hs' ((h.mono (fun t i k j q => by unfold MLkd at q; unfold MLd; omega)).tr h2 (fun _ _ _ _ q => q)) (fun k hk h1 h3 => ?_) (fun k hk => (e3 k (by omega)).trans (h.2 23 0 k 1 (by unfold MLkd; omega)))
    by_cases hq : k = Int.toNat s
    · subst hq
      rw [e3 _ (by omega), e]
    · have en : σ' 1 0 0 5 = σ 1 0 0 5 := h.2 1 0 0 5 (by unfold MLkd; omega)
      rw [e2 k hk (by omega) (by omega)]
      exact h.2 23 1 k 1 (by unfold MLkd; omega)
theorem s_22f_a_0 {xs : Nat × (Nat → Int32)} {Q : Option Value → ZS → Prop}  (σ : ZS) (hI : Inv σ) (hgo : ∀ σ', IF (MY 0) σ σ' → σ' 1 0 0 5 = σ 1 1 0 5 → TT xs 20 22 54 [(0, av 1 0 0), (1, av 1 1 0), (2, iv 0)] [] σ' Q) : TT xs 20 22 0 [(0, av 1 0 0), (1, av 1 1 0)] [] σ Q := by
  have rn : 0 ≤ σ 1 1 0 5 ∧ σ 1 1 0 5 ≤ 5 := (fun h => h.2.1 (by omega) (by omega)) (hI 1 1 0 5 (vd_1 (by omega)))
  refine (show TJ xs (fun σ' => IF (MY 0) σ σ' ∧ True) 20 22 0 [(0, av 1 0 0), (1, av 1 1 0)] [] Q from ?_) σ ⟨IF.rf hI, trivial⟩
  refine T_ld zk_22_0 rfl rfl rfl (pc' := 1) rfl ?_
  refine T_getR (t' := 2) (i' := 0) (k' := 0) zk_22_1 rfl rfl rfl (vd_1 (by omega)) (pc' := 4) rfl ?_
  refine T_ld zk_22_4 rfl rfl rfl (pc' := 5) rfl ?_
  refine T_getR (t' := 2) (i' := 1) (k' := 0) zk_22_5 rfl rfl rfl (vd_1 (by omega)) (pc' := 8) rfl ?_
  refine T_callv (J' := (fun σ' => IF (MY 0) σ σ' ∧ True)) (r := []) zk_22_8 rfl rfl rfl rfl rfl rfl (Or.inr ⟨_, _, _, _, rfl, (vd_2 (by omega)), rfl⟩) (fun σ' h => (w_39 0 1 (by omega) (by omega) σ' h.1.1 ).le (Nat.le_of_ble_eq_true rfl) (fun v σ2 ⟨h1, h3, h4⟩ => ⟨h1, h.1.tr h3 sb72_5cb13b0, trivial⟩)) (pc' := 11) rfl ?_
  refine T_ld zk_22_11 rfl rfl rfl (pc' := 12) rfl ?_
  refine T_getR (t' := 11) (i' := 0) (k' := 0) zk_22_12 rfl rfl rfl (vd_1 (by omega)) (pc' := 15) rfl ?_
  refine T_ld zk_22_15 rfl rfl rfl (pc' := 16) rfl ?_
  refine T_getR (t' := 11) (i' := 1) (k' := 0) zk_22_16 rfl rfl rfl (vd_1 (by omega)) (pc' := 19) rfl ?_
  refine T_callv (J' := (fun σ' => IF (MY 0) σ σ' ∧ True)) (r := []) zk_22_19 rfl rfl rfl rfl rfl rfl (Or.inr ⟨_, _, _, _, rfl, (vd_11 (by omega)), rfl⟩) (fun σ' h => (w_64 0 1 (by omega) (by omega) σ' h.1.1 ).le (Nat.le_of_ble_eq_true rfl) (fun v σ2 ⟨h1, h3, h4⟩ => ⟨h1, h.1.tr h3 sb72_1cca568, trivial⟩)) (pc' := 22) rfl ?_
  refine T_ld zk_22_22 rfl rfl rfl (pc' := 23) rfl ?_
  refine T_getR (t' := 17) (i' := 0) (k' := 0) zk_22_23 rfl rfl rfl (vd_1 (by omega)) (pc' := 26) rfl ?_
  refine T_ld zk_22_26 rfl rfl rfl (pc' := 27) rfl ?_
  refine T_getR (t' := 17) (i' := 1) (k' := 0) zk_22_27 rfl rfl rfl (vd_1 (by omega)) (pc' := 30) rfl ?_
  refine T_callv (J' := (fun σ' => IF (MY 0) σ σ' ∧ True)) (r := []) zk_22_30 rfl rfl rfl rfl rfl rfl (Or.inr ⟨_, _, _, _, rfl, (vd_17 (by omega) (by omega)), rfl⟩) (fun σ' h => (w_72 0 0 1 (by omega) (by omega) (by omega) σ' h.1.1 ).le (Nat.le_of_ble_eq_true rfl) (fun v σ2 ⟨h1, h3, h4⟩ => ⟨h1, h.1.tr h3 sb72_c835090, trivial⟩)) (pc' := 33) rfl ?_
  refine T_ld zk_22_33 rfl rfl rfl (pc' := 34) rfl ?_
  refine T_getR (t' := 17) (i' := 0) (k' := 1) zk_22_34 rfl rfl rfl (vd_1 (by omega)) (pc' := 37) rfl ?_
  refine T_ld zk_22_37 rfl rfl rfl (pc' := 38) rfl ?_
  refine T_getR (t' := 17) (i' := 1) (k' := 1) zk_22_38 rfl rfl rfl (vd_1 (by omega)) (pc' := 41) rfl ?_
  refine T_callv (J' := (fun σ' => IF (MY 0) σ σ' ∧ True)) (r := []) zk_22_41 rfl rfl rfl rfl rfl rfl (Or.inr ⟨_, _, _, _, rfl, (vd_17 (by omega) (by omega)), rfl⟩) (fun σ' h => (w_72 0 1 1 (by omega) (by omega) (by omega) σ' h.1.1 ).le (Nat.le_of_ble_eq_true rfl) (fun v σ2 ⟨h1, h3, h4⟩ => ⟨h1, h.1.tr h3 sb72_1529f72, trivial⟩)) (pc' := 44) rfl ?_
  refine T_ld zk_22_44 rfl rfl rfl (pc' := 45) rfl ?_
  refine T_ld zk_22_45 rfl rfl rfl (pc' := 46) rfl ?_
  refine G_getX (w := σ 1 1 0 5) zk_22_46 rfl (vd_1 (by omega)) (fun σ' h => h.1.2 _ _ _ _ (by first | exact nMY rfl | (unfold MY; omega))) (pc' := 49) rfl ?_
  refine T_putf (J' := (fun σ' => IF (MY 0) σ σ' ∧ σ' 1 0 0 5 = σ 1 1 0 5 ∧ True)) zk_22_49 rfl rfl (vd_1 (by omega)) (fun σ' h => ⟨h.1.up (by simp only [rgP] <;> omega) (by unfold MY; omega), up_eq, trivial⟩) (pc' := 52) rfl ?_
  refine T_op zk_22_52 rfl X_ic (pc' := 53) rfl ?_
  refine T_st (L' := [(0, av 1 0 0), (1, av 1 1 0), (2, iv 0)]) zk_22_53 (nL := 3) rfl rfl rfl rfl rfl (pc' := 54) rfl ?_
  exact fun σ' h => hgo σ' h.1 (h.2.1)
theorem sb79zf_c0ab520 : ∀ t i k j, MI 0 26 26 26 26 t i k j → MYh 0 t i k j := by
  intro t i k j h
  unfold MI at h
  unfold MYh
  omega
theorem sb79zf_e4f9a5a : ∀ t i k j, MI 0 25 25 25 25 t i k j → MYh 0 t i k j := by
  intro t i k j h
  unfold MI at h
  unfold MYh
  omega
theorem s_22f_b_0 {xs : Nat × (Nat → Int32)} {Q : Option Value → ZS → Prop} (s : Int) (hs : 0 ≤ s ∧ s ≤ 5) (σ : ZS) (hI : Inv σ) (hret : ∀ σ', IF (MYh 0) σ σ' → (σ' 1 0 0 6 = σ 1 1 0 6 ∧ σ' 1 0 0 7 = σ 1 1 0 7 ∧ σ' 1 0 0 10 = σ 1 1 0 10 ∧ σ' 1 0 0 11 = σ 1 1 0 11 ∧ σ' 1 0 0 12 = σ 1 1 0 12 ∧ σ' 1 0 0 13 = σ 1 1 0 13) → Q none σ') : TT xs 20 22 83 [(0, av 1 0 0), (1, av 1 1 0), (2, iv s)] [] σ Q := by
  have q_6 : 0 ≤ σ 1 1 0 6 ∧ σ 1 1 0 6 ≤ 12 := (fun h => h.2.2.1 (by omega) (by omega)) (hI 1 1 0 6 (vd_1 (by omega)))
  have q_7 : 0 ≤ σ 1 1 0 7 ∧ σ 1 1 0 7 ≤ 6 := (fun h => h.2.2.2.1 (by omega) (by omega)) (hI 1 1 0 7 (vd_1 (by omega)))
  have q_10 : 0 ≤ σ 1 1 0 10 ∧ σ 1 1 0 10 ≤ 99 := (fun h => h.2.2.2.2.1 (by omega) (by omega)) (hI 1 1 0 10 (vd_1 (by omega)))
  have q_11 : 1 ≤ σ 1 1 0 11 ∧ σ 1 1 0 11 ≤ 9 := (fun h => h.2.2.2.2.2.1 (by omega) (by omega)) (hI 1 1 0 11 (vd_1 (by omega)))
  have q_12 : 0 ≤ σ 1 1 0 12 ∧ σ 1 1 0 12 ≤ 9999 := (fun h => h.2.2.2.2.2.2 (by omega) (by omega)) (hI 1 1 0 12 (vd_1 (by omega)))
  have q_13 : -2147483648 ≤ σ 1 1 0 13 ∧ σ 1 1 0 13 ≤ 2147483647 := (fun h => (by have q := h.1; omega)) (hI 1 1 0 13 (vd_1 (by omega)))
  have q_14 : -2147483648 ≤ σ 1 1 0 14 ∧ σ 1 1 0 14 ≤ 2147483647 := (fun h => (by have q := h.1; omega)) (hI 1 1 0 14 (vd_1 (by omega)))
  have q_15 : -2147483648 ≤ σ 1 1 0 15 ∧ σ 1 1 0 15 ≤ 2147483647 := (fun h => (by have q := h.1; omega)) (hI 1 1 0 15 (vd_1 (by omega)))
  have q_16 : -2147483648 ≤ σ 1 1 0 16 ∧ σ 1 1 0 16 ≤ 2147483647 := (fun h => (by have q := h.1; omega)) (hI 1 1 0 16 (vd_1 (by omega)))
  refine (show TJ xs (fun σ' => IF (MYh 0) σ σ' ∧ True) 20 22 83 [(0, av 1 0 0), (1, av 1 1 0), (2, iv s)] [] Q from ?_) σ ⟨IF.rf hI, trivial⟩
  refine T_ld zk_22_83 rfl rfl rfl (pc' := 84) rfl ?_
  refine T_ld zk_22_84 rfl rfl rfl (pc' := 85) rfl ?_
  refine G_getX (w := σ 1 1 0 6) zk_22_85 rfl (vd_1 (by omega)) (fun σ' h => h.1.2 _ _ _ _ (by first | exact nMYh rfl | (unfold MYh; omega))) (pc' := 88) rfl ?_
  refine T_putf (J' := (fun σ' => IF (MYh 0) σ σ' ∧ σ' 1 0 0 6 = σ 1 1 0 6 ∧ True)) zk_22_88 rfl rfl (vd_1 (by omega)) (fun σ' h => ⟨h.1.up (by simp only [rgP] <;> omega) (by unfold MYh; omega), up_eq, trivial⟩) (pc' := 91) rfl ?_
  refine T_op zk_22_91 rfl X_ic (pc' := 92) rfl ?_
  refine T_st (L' := [(0, av 1 0 0), (1, av 1 1 0), (2, iv 0)]) zk_22_92 (nL := 3) rfl rfl rfl rfl rfl (pc' := 93) rfl ?_
  refine T_loop1 (fun x1 => ((12 - x1 : Int)).toNat) (fun x1 => (0 ≤ x1 ∧ x1 ≤ 12)) (fun x1 => TJ xs (fun σ' => IF (MYh 0) σ σ' ∧ σ' 1 0 0 6 = σ 1 1 0 6 ∧ True) 20 22 93 [(0, av 1 0 0), (1, av 1 1 0), (2, iv x1)] [] _) ?_ 0 (by omega)
  intro x1 hp3 ih2
  refine T_ld zk_22_93 rfl rfl rfl (pc' := 94) rfl ?_
  refine T_ld zk_22_94 rfl rfl rfl (pc' := 95) rfl ?_
  refine G_getX (w := σ 1 1 0 6) zk_22_95 rfl (vd_1 (by omega)) (fun σ' h => h.2.1) (pc' := 98) rfl ?_
  refine T_icmp_ge zk_22_98 (by omega) (by omega) (pc' := 101) rfl (fun h4 => ?_) (fun h5 => ?_)
  ·
    refine T_ld zk_22_122 rfl rfl rfl (pc' := 123) rfl ?_
    refine T_ld zk_22_123 rfl rfl rfl (pc' := 124) rfl ?_
    refine G_getX (w := σ 1 1 0 7) zk_22_124 rfl (vd_1 (by omega)) (fun σ' h => h.1.2 _ _ _ _ (by first | exact nMYh rfl | (unfold MYh; omega))) (pc' := 127) rfl ?_
    refine T_putf (J' := (fun σ' => IF (MYh 0) σ σ' ∧ σ' 1 0 0 6 = σ 1 1 0 6 ∧ σ' 1 0 0 7 = σ 1 1 0 7 ∧ True)) zk_22_127 rfl rfl (vd_1 (by omega)) (fun σ' h => ⟨h.1.up (by simp only [rgP] <;> omega) (by unfold MYh; omega), (up_ne (by omega)).trans (h.2.1), up_eq, trivial⟩) (pc' := 130) rfl ?_
    refine T_op zk_22_130 rfl X_ic (pc' := 131) rfl ?_
    refine T_st (L' := [(0, av 1 0 0), (1, av 1 1 0), (2, iv 0)]) zk_22_131 (nL := 3) rfl rfl rfl rfl rfl (pc' := 132) rfl ?_
    refine T_loop1 (fun x6 => ((6 - x6 : Int)).toNat) (fun x6 => (0 ≤ x6 ∧ x6 ≤ 6)) (fun x6 => TJ xs (fun σ' => IF (MYh 0) σ σ' ∧ σ' 1 0 0 6 = σ 1 1 0 6 ∧ σ' 1 0 0 7 = σ 1 1 0 7 ∧ True) 20 22 132 [(0, av 1 0 0), (1, av 1 1 0), (2, iv x6)] [] _) ?_ 0 (by omega)
    intro x6 hp8 ih7
    refine T_ld zk_22_132 rfl rfl rfl (pc' := 133) rfl ?_
    refine T_ld zk_22_133 rfl rfl rfl (pc' := 134) rfl ?_
    refine G_getX (w := σ 1 1 0 7) zk_22_134 rfl (vd_1 (by omega)) (fun σ' h => h.2.2.1) (pc' := 137) rfl ?_
    refine T_icmp_ge zk_22_137 (by omega) (by omega) (pc' := 140) rfl (fun h9 => ?_) (fun h10 => ?_)
    ·
      refine T_ld zk_22_161 rfl rfl rfl (pc' := 162) rfl ?_
      refine T_ld zk_22_162 rfl rfl rfl (pc' := 163) rfl ?_
      refine G_getX (w := σ 1 1 0 10) zk_22_163 rfl (vd_1 (by omega)) (fun σ' h => h.1.2 _ _ _ _ (by first | exact nMYh rfl | (unfold MYh; omega))) (pc' := 166) rfl ?_
      refine T_putf (J' := (fun σ' => IF (MYh 0) σ σ' ∧ σ' 1 0 0 6 = σ 1 1 0 6 ∧ σ' 1 0 0 7 = σ 1 1 0 7 ∧ σ' 1 0 0 10 = σ 1 1 0 10 ∧ True)) zk_22_166 rfl rfl (vd_1 (by omega)) (fun σ' h => ⟨h.1.up (by simp only [rgP] <;> omega) (by unfold MYh; omega), (up_ne (by omega)).trans (h.2.1), (up_ne (by omega)).trans (h.2.2.1), up_eq, trivial⟩) (pc' := 169) rfl ?_
      refine T_ld zk_22_169 rfl rfl rfl (pc' := 170) rfl ?_
      refine T_ld zk_22_170 rfl rfl rfl (pc' := 171) rfl ?_
      refine G_getX (w := σ 1 1 0 11) zk_22_171 rfl (vd_1 (by omega)) (fun σ' h => h.1.2 _ _ _ _ (by first | exact nMYh rfl | (unfold MYh; omega))) (pc' := 174) rfl ?_
      refine T_putf (J' := (fun σ' => IF (MYh 0) σ σ' ∧ σ' 1 0 0 6 = σ 1 1 0 6 ∧ σ' 1 0 0 7 = σ 1 1 0 7 ∧ σ' 1 0 0 10 = σ 1 1 0 10 ∧ σ' 1 0 0 11 = σ 1 1 0 11 ∧ True)) zk_22_174 rfl rfl (vd_1 (by omega)) (fun σ' h => ⟨h.1.up (by simp only [rgP] <;> omega) (by unfold MYh; omega), (up_ne (by omega)).trans (h.2.1), (up_ne (by omega)).trans (h.2.2.1), (up_ne (by omega)).trans (h.2.2.2.1), up_eq, trivial⟩) (pc' := 177) rfl ?_
      refine T_ld zk_22_177 rfl rfl rfl (pc' := 178) rfl ?_
      refine T_ld zk_22_178 rfl rfl rfl (pc' := 179) rfl ?_
      refine G_getX (w := σ 1 1 0 12) zk_22_179 rfl (vd_1 (by omega)) (fun σ' h => h.1.2 _ _ _ _ (by first | exact nMYh rfl | (unfold MYh; omega))) (pc' := 182) rfl ?_
      refine T_putf (J' := (fun σ' => IF (MYh 0) σ σ' ∧ σ' 1 0 0 6 = σ 1 1 0 6 ∧ σ' 1 0 0 7 = σ 1 1 0 7 ∧ σ' 1 0 0 10 = σ 1 1 0 10 ∧ σ' 1 0 0 11 = σ 1 1 0 11 ∧ σ' 1 0 0 12 = σ 1 1 0 12 ∧ True)) zk_22_182 rfl rfl (vd_1 (by omega)) (fun σ' h => ⟨h.1.up (by simp only [rgP] <;> omega) (by unfold MYh; omega), (up_ne (by omega)).trans (h.2.1), (up_ne (by omega)).trans (h.2.2.1), (up_ne (by omega)).trans (h.2.2.2.1), (up_ne (by omega)).trans (h.2.2.2.2.1), up_eq, trivial⟩) (pc' := 185) rfl ?_
      refine T_ld zk_22_185 rfl rfl rfl (pc' := 186) rfl ?_
      refine T_ld zk_22_186 rfl rfl rfl (pc' := 187) rfl ?_
      refine G_getX (w := σ 1 1 0 13) zk_22_187 rfl (vd_1 (by omega)) (fun σ' h => h.1.2 _ _ _ _ (by first | exact nMYh rfl | (unfold MYh; omega))) (pc' := 190) rfl ?_
      refine T_putf (J' := (fun σ' => IF (MYh 0) σ σ' ∧ σ' 1 0 0 6 = σ 1 1 0 6 ∧ σ' 1 0 0 7 = σ 1 1 0 7 ∧ σ' 1 0 0 10 = σ 1 1 0 10 ∧ σ' 1 0 0 11 = σ 1 1 0 11 ∧ σ' 1 0 0 12 = σ 1 1 0 12 ∧ σ' 1 0 0 13 = σ 1 1 0 13 ∧ True)) zk_22_190 rfl rfl (vd_1 (by omega)) (fun σ' h => ⟨h.1.up (by simp only [rgP] <;> omega) (by unfold MYh; omega), (up_ne (by omega)).trans (h.2.1), (up_ne (by omega)).trans (h.2.2.1), (up_ne (by omega)).trans (h.2.2.2.1), (up_ne (by omega)).trans (h.2.2.2.2.1), (up_ne (by omega)).trans (h.2.2.2.2.2.1), up_eq, trivial⟩) (pc' := 193) rfl ?_
      refine T_ld zk_22_193 rfl rfl rfl (pc' := 194) rfl ?_
      refine T_ld zk_22_194 rfl rfl rfl (pc' := 195) rfl ?_
      refine G_getX (w := σ 1 1 0 14) zk_22_195 rfl (vd_1 (by omega)) (fun σ' h => h.1.2 _ _ _ _ (by first | exact nMYh rfl | (unfold MYh; omega))) (pc' := 198) rfl ?_
      refine T_putf (J' := (fun σ' => IF (MYh 0) σ σ' ∧ σ' 1 0 0 6 = σ 1 1 0 6 ∧ σ' 1 0 0 7 = σ 1 1 0 7 ∧ σ' 1 0 0 10 = σ 1 1 0 10 ∧ σ' 1 0 0 11 = σ 1 1 0 11 ∧ σ' 1 0 0 12 = σ 1 1 0 12 ∧ σ' 1 0 0 13 = σ 1 1 0 13 ∧ σ' 1 0 0 14 = σ 1 1 0 14 ∧ True)) zk_22_198 rfl rfl (vd_1 (by omega)) (fun σ' h => ⟨h.1.up (by simp only [rgP] <;> omega) (by unfold MYh; omega), (up_ne (by omega)).trans (h.2.1), (up_ne (by omega)).trans (h.2.2.1), (up_ne (by omega)).trans (h.2.2.2.1), (up_ne (by omega)).trans (h.2.2.2.2.1), (up_ne (by omega)).trans (h.2.2.2.2.2.1), (up_ne (by omega)).trans (h.2.2.2.2.2.2.1), up_eq, trivial⟩) (pc' := 201) rfl ?_
      refine T_ld zk_22_201 rfl rfl rfl (pc' := 202) rfl ?_
      refine T_ld zk_22_202 rfl rfl rfl (pc' := 203) rfl ?_
      refine G_getX (w := σ 1 1 0 15) zk_22_203 rfl (vd_1 (by omega)) (fun σ' h => h.1.2 _ _ _ _ (by first | exact nMYh rfl | (unfold MYh; omega))) (pc' := 206) rfl ?_
      refine T_putf (J' := (fun σ' => IF (MYh 0) σ σ' ∧ σ' 1 0 0 6 = σ 1 1 0 6 ∧ σ' 1 0 0 7 = σ 1 1 0 7 ∧ σ' 1 0 0 10 = σ 1 1 0 10 ∧ σ' 1 0 0 11 = σ 1 1 0 11 ∧ σ' 1 0 0 12 = σ 1 1 0 12 ∧ σ' 1 0 0 13 = σ 1 1 0 13 ∧ σ' 1 0 0 14 = σ 1 1 0 14 ∧ σ' 1 0 0 15 = σ 1 1 0 15 ∧ True)) zk_22_206 rfl rfl (vd_1 (by omega)) (fun σ' h => ⟨h.1.up (by simp only [rgP] <;> omega) (by unfold MYh; omega), (up_ne (by omega)).trans (h.2.1), (up_ne (by omega)).trans (h.2.2.1), (up_ne (by omega)).trans (h.2.2.2.1), (up_ne (by omega)).trans (h.2.2.2.2.1), (up_ne (by omega)).trans (h.2.2.2.2.2.1), (up_ne (by omega)).trans (h.2.2.2.2.2.2.1), (up_ne (by omega)).trans (h.2.2.2.2.2.2.2.1), up_eq, trivial⟩) (pc' := 209) rfl ?_
      refine T_ld zk_22_209 rfl rfl rfl (pc' := 210) rfl ?_
      refine T_ld zk_22_210 rfl rfl rfl (pc' := 211) rfl ?_
      refine G_getX (w := σ 1 1 0 16) zk_22_211 rfl (vd_1 (by omega)) (fun σ' h => h.1.2 _ _ _ _ (by first | exact nMYh rfl | (unfold MYh; omega))) (pc' := 214) rfl ?_
      refine T_putf (J' := (fun σ' => IF (MYh 0) σ σ' ∧ σ' 1 0 0 6 = σ 1 1 0 6 ∧ σ' 1 0 0 7 = σ 1 1 0 7 ∧ σ' 1 0 0 10 = σ 1 1 0 10 ∧ σ' 1 0 0 11 = σ 1 1 0 11 ∧ σ' 1 0 0 12 = σ 1 1 0 12 ∧ σ' 1 0 0 13 = σ 1 1 0 13 ∧ σ' 1 0 0 14 = σ 1 1 0 14 ∧ σ' 1 0 0 15 = σ 1 1 0 15 ∧ σ' 1 0 0 16 = σ 1 1 0 16 ∧ True)) zk_22_214 rfl rfl (vd_1 (by omega)) (fun σ' h => ⟨h.1.up (by simp only [rgP] <;> omega) (by unfold MYh; omega), (up_ne (by omega)).trans (h.2.1), (up_ne (by omega)).trans (h.2.2.1), (up_ne (by omega)).trans (h.2.2.2.1), (up_ne (by omega)).trans (h.2.2.2.2.1), (up_ne (by omega)).trans (h.2.2.2.2.2.1), (up_ne (by omega)).trans (h.2.2.2.2.2.2.1), (up_ne (by omega)).trans (h.2.2.2.2.2.2.2.1), (up_ne (by omega)).trans (h.2.2.2.2.2.2.2.2.1), up_eq, trivial⟩) (pc' := 217) rfl ?_
      exact T_vret zk_22_217 rfl (fun σ' h => hret σ' h.1 ⟨(h.2.1), (h.2.2.1), (h.2.2.2.1), (h.2.2.2.2.1), (h.2.2.2.2.2.1), (h.2.2.2.2.2.2.1)⟩)
    ·
      refine T_ld zk_22_140 rfl rfl rfl (pc' := 141) rfl ?_
      refine T_getR (t' := 16) (i' := 0) (k' := 0) zk_22_141 rfl rfl rfl (vd_1 (by omega)) (pc' := 144) rfl ?_
      refine T_ld zk_22_144 rfl rfl rfl (pc' := 145) rfl ?_
      refine G_aald (t' := 26) (im := 9) (i' := 0) (ln := 6) zk_22_145 rfl rfl rfl (vd_16 (by omega)) (by omega) (by omega) (by omega) (pc' := 146) rfl ?_
      refine T_ld zk_22_146 rfl rfl rfl (pc' := 147) rfl ?_
      refine T_getR (t' := 16) (i' := 1) (k' := 0) zk_22_147 rfl rfl rfl (vd_1 (by omega)) (pc' := 150) rfl ?_
      refine T_ld zk_22_150 rfl rfl rfl (pc' := 151) rfl ?_
      refine G_aald (t' := 26) (im := 9) (i' := 1) (ln := 6) zk_22_151 rfl rfl rfl (vd_16 (by omega)) (by omega) (by omega) (by omega) (pc' := 152) rfl ?_
      refine T_callv (J' := (fun σ' => IF (MYh 0) σ σ' ∧ σ' 1 0 0 6 = σ 1 1 0 6 ∧ σ' 1 0 0 7 = σ 1 1 0 7 ∧ True)) (r := []) zk_22_152 rfl rfl rfl rfl rfl rfl (Or.inr ⟨_, _, _, _, rfl, (vd_26 (by omega) (by omega)), rfl⟩) (fun σ' h => (w_3 0 (Int.toNat x6) 1 (by omega) (by omega) (by omega) σ' h.1.1 ).le (Nat.le_of_ble_eq_true rfl) (fun v σ2 ⟨h1, h3, h4⟩ => ⟨h1, h.1.tr h3 sb79zf_c0ab520, (h3.2 _ _ _ _ (by first | exact nMI rfl | (unfold MI; omega))).trans (h.2.1), (h3.2 _ _ _ _ (by first | exact nMI rfl | (unfold MI; omega))).trans (h.2.2.1), trivial⟩)) (pc' := 155) rfl ?_
      refine T_iinc (L' := [(0, av 1 0 0), (1, av 1 1 0), (2, iv (x6 + 1))]) zk_22_155 (nL := 3) rfl rfl rfl rfl (pc' := 158) rfl ?_
      refine T_goto zk_22_158 ?_
      exact ih7 (x6 + 1) (by omega) (by omega)
  ·
    refine T_ld zk_22_101 rfl rfl rfl (pc' := 102) rfl ?_
    refine T_getR (t' := 15) (i' := 0) (k' := 0) zk_22_102 rfl rfl rfl (vd_1 (by omega)) (pc' := 105) rfl ?_
    refine T_ld zk_22_105 rfl rfl rfl (pc' := 106) rfl ?_
    refine G_aald (t' := 25) (im := 9) (i' := 0) (ln := 12) zk_22_106 rfl rfl rfl (vd_15 (by omega)) (by omega) (by omega) (by omega) (pc' := 107) rfl ?_
    refine T_ld zk_22_107 rfl rfl rfl (pc' := 108) rfl ?_
    refine T_getR (t' := 15) (i' := 1) (k' := 0) zk_22_108 rfl rfl rfl (vd_1 (by omega)) (pc' := 111) rfl ?_
    refine T_ld zk_22_111 rfl rfl rfl (pc' := 112) rfl ?_
    refine G_aald (t' := 25) (im := 9) (i' := 1) (ln := 12) zk_22_112 rfl rfl rfl (vd_15 (by omega)) (by omega) (by omega) (by omega) (pc' := 113) rfl ?_
    refine T_callv (J' := (fun σ' => IF (MYh 0) σ σ' ∧ σ' 1 0 0 6 = σ 1 1 0 6 ∧ True)) (r := []) zk_22_113 rfl rfl rfl rfl rfl rfl (Or.inr ⟨_, _, _, _, rfl, (vd_25 (by omega) (by omega)), rfl⟩) (fun σ' h => (w_28 0 (Int.toNat x1) 1 (by omega) (by omega) (by omega) σ' h.1.1 ).le (Nat.le_of_ble_eq_true rfl) (fun v σ2 ⟨h1, h3, h4⟩ => ⟨h1, h.1.tr h3 sb79zf_e4f9a5a, (h3.2 _ _ _ _ (by first | exact nMI rfl | (unfold MI; omega))).trans (h.2.1), trivial⟩)) (pc' := 116) rfl ?_
    refine T_iinc (L' := [(0, av 1 0 0), (1, av 1 1 0), (2, iv (x1 + 1))]) zk_22_116 (nL := 3) rfl rfl rfl rfl (pc' := 119) rfl ?_
    refine T_goto zk_22_119 ?_
    exact ih2 (x1 + 1) (by omega) (by omega)
theorem s_22f_0 {xs : Nat × (Nat → Int32)} (a5 : Int) (a6 : Int) (a7 : Int) (a10 : Int) (a11 : Int) (a12 : Int) (a13 : Int) (H : Nat → Int) (σ : ZS) (hI : Inv σ) (t0 : σ 1 1 0 5 = a5) (t1 : σ 1 1 0 6 = a6) (t2 : σ 1 1 0 7 = a7) (t3 : σ 1 1 0 10 = a10) (t4 : σ 1 1 0 11 = a11) (t5 : σ 1 1 0 12 = a12) (t6 : σ 1 1 0 13 = a13) (sH : ∀ k : Nat, k < 5 → σ 23 1 k 1 = H k) : CT xs 21 22 [av 1 0 0, av 1 1 0] σ (fun v σ' => v = none ∧ IF (MY 0) σ σ' ∧ (σ' 1 0 0 5 = a5 ∧ σ' 1 0 0 6 = a6 ∧ σ' 1 0 0 7 = a7 ∧ σ' 1 0 0 10 = a10 ∧ σ' 1 0 0 11 = a11 ∧ σ' 1 0 0 12 = a12 ∧ σ' 1 0 0 13 = a13 ∧ (∀ k : Nat, k < 5 → (k : Int) < a5 → σ' 23 0 k 1 = H k) ∧ True)) :=
  CT.of (nL := 3) rfl (Nat.le_of_ble_eq_true rfl) (L := [(0, av 1 0 0), (1, av 1 1 0)]) rfl (s_22f_a_0 σ hI (fun σ1 h1 e5 => s_22f_go_0 5 0 (by omega) (by omega) σ1 h1.1 (fun σ2 s' hs' h2 e2 e3 => s_22f_b_0 s' hs' σ2 h2.1 (fun σ3 h3 e4 => ⟨rfl, (h1.tr h2 (fun t i k j q => by unfold MLd at q; unfold MY; omega)).tr h3 (fun t i k j q => by unfold MYh at q; unfold MY; omega), (h3.2 1 0 0 5 (by unfold MYh; omega)).trans ((h2.2 1 0 0 5 (by unfold MLd; omega)).trans (e5.trans t0)), (e4.1).trans ((h2.2 1 1 0 6 (by unfold MLd; omega)).trans ((h1.2 1 1 0 6 (by unfold MY; omega)).trans t1)), (e4.2.1).trans ((h2.2 1 1 0 7 (by unfold MLd; omega)).trans ((h1.2 1 1 0 7 (by unfold MY; omega)).trans t2)), (e4.2.2.1).trans ((h2.2 1 1 0 10 (by unfold MLd; omega)).trans ((h1.2 1 1 0 10 (by unfold MY; omega)).trans t3)), (e4.2.2.2.1).trans ((h2.2 1 1 0 11 (by unfold MLd; omega)).trans ((h1.2 1 1 0 11 (by unfold MY; omega)).trans t4)), (e4.2.2.2.2.1).trans ((h2.2 1 1 0 12 (by unfold MLd; omega)).trans ((h1.2 1 1 0 12 (by unfold MY; omega)).trans t5)), (e4.2.2.2.2.2).trans ((h2.2 1 1 0 13 (by unfold MLd; omega)).trans ((h1.2 1 1 0 13 (by unfold MY; omega)).trans t6)), fun k hk hl => (h3.2 23 0 k 1 (by unfold MYh; omega)).trans ((e2 k hk (by omega) (by rw [e5, t0]; exact hl)).trans ((h1.2 23 1 k 1 (by unfold MY; omega)).trans (sH k hk))), trivial⟩))))
/-- W.image -/
theorem s_108f {xs : Nat × (Nat → Int32)}  (a6 : Int) (a7 : Int) (a10 : Int) (a11 : Int) (a12 : Int) (a13 : Int) (a5 : Int) (H : Nat → Int) (ha6 : 0 ≤ a6 ∧ a6 ≤ 12) (ha7 : 0 ≤ a7 ∧ a7 ≤ 6) (ha10 : 0 ≤ a10 ∧ a10 ≤ 99) (ha11 : 1 ≤ a11 ∧ a11 ≤ 9) (ha12 : 0 ≤ a12 ∧ a12 ≤ 9999) (ha13 : -2147483648 ≤ a13 ∧ a13 ≤ 2147483647) (ha5 : 0 ≤ a5 ∧ a5 ≤ 5) (σ : ZS) (hI : Inv σ)  (s0 : σ 1 0 0 5 = a5) (s1 : σ 1 0 0 6 = a6) (s2 : σ 1 0 0 7 = a7) (s3 : σ 1 0 0 10 = a10) (s4 : σ 1 0 0 11 = a11) (s5 : σ 1 0 0 12 = a12) (s6 : σ 1 0 0 13 = a13) (sH : (∀ k : Nat, k < 5 → σ 23 0 k 1 = H k)) : CT xs 22 108 [av 0 0 0] σ (fun v σ' => ∃ y, v = some (iv y) ∧ (y = a13) ∧ IF MIg σ σ' ∧ (σ' 1 1 0 5 = a5 ∧ σ' 1 1 0 6 = a6 ∧ σ' 1 1 0 7 = a7 ∧ σ' 1 1 0 10 = a10 ∧ σ' 1 1 0 11 = a11 ∧ σ' 1 1 0 12 = a12 ∧ σ' 1 1 0 13 = a13 ∧ σ' 0 0 0 3 = 1 ∧ (∀ k : Nat, k < 5 → (k : Int) < a5 → σ' 23 1 k 1 = H k) ∧ True)) := by
  refine G_ct (J := (fun σ' => IF MIg σ σ' ∧ (∀ k : Nat, k < 5 → σ' 23 0 k 1 = H k) ∧ True)) (L := [(0, av 0 0 0)]) (nL := 1) rfl rfl rfl ⟨IF.rf hI, sH, trivial⟩ ?_
  refine T_ld zk_108_0 rfl rfl rfl (pc' := 1) rfl ?_
  refine T_getR (t' := 1) (i' := 1) (k' := 0) zk_108_1 rfl rfl rfl vd_0 (pc' := 4) rfl ?_
  refine T_ld zk_108_4 rfl rfl rfl (pc' := 5) rfl ?_
  refine T_getR (t' := 1) (i' := 0) (k' := 0) zk_108_5 rfl rfl rfl vd_0 (pc' := 8) rfl ?_
  refine T_callv (J' := (fun σ' => IF MIg σ σ' ∧ (∀ k : Nat, k < 5 → σ' 23 0 k 1 = H k) ∧ σ' 1 1 0 5 = a5 ∧ σ' 1 1 0 6 = a6 ∧ σ' 1 1 0 7 = a7 ∧ σ' 1 1 0 10 = a10 ∧ σ' 1 1 0 11 = a11 ∧ σ' 1 1 0 12 = a12 ∧ σ' 1 1 0 13 = a13 ∧ (∀ k : Nat, k < 5 → (k : Int) < a5 → σ' 23 1 k 1 = H k) ∧ True)) (r := []) zk_108_8 rfl rfl rfl rfl rfl rfl (Or.inr ⟨_, _, _, _, rfl, (vd_1 (by omega)), rfl⟩) (fun σ' h => (s_22f_1 a5 a6 a7 a10 a11 a12 a13 H  σ' h.1.1 ((h.1.2 _ _ _ _ (by first | exact nMIg rfl | (unfold MIg; omega))).trans s0) ((h.1.2 _ _ _ _ (by first | exact nMIg rfl | (unfold MIg; omega))).trans s1) ((h.1.2 _ _ _ _ (by first | exact nMIg rfl | (unfold MIg; omega))).trans s2) ((h.1.2 _ _ _ _ (by first | exact nMIg rfl | (unfold MIg; omega))).trans s3) ((h.1.2 _ _ _ _ (by first | exact nMIg rfl | (unfold MIg; omega))).trans s4) ((h.1.2 _ _ _ _ (by first | exact nMIg rfl | (unfold MIg; omega))).trans s5) ((h.1.2 _ _ _ _ (by first | exact nMIg rfl | (unfold MIg; omega))).trans s6) (h.2.1)).le (Nat.le_of_ble_eq_true rfl) (fun v σ2 ⟨h1, h3, h4⟩ => ⟨h1, h.1.tr h3 sb56_a084065, (fun k a => (h3.2 _ _ _ _ (by first | exact nMY rfl | (unfold MY; omega))).trans ((h.2.1) k a)), h4.1, h4.2.1, h4.2.2.1, h4.2.2.2.1, h4.2.2.2.2.1, h4.2.2.2.2.2.1, h4.2.2.2.2.2.2.1, h4.2.2.2.2.2.2.2.1, trivial⟩)) (pc' := 11) rfl ?_
  refine T_ld zk_108_11 rfl rfl rfl (pc' := 12) rfl ?_
  refine T_op zk_108_12 rfl X_ic (pc' := 13) rfl ?_
  refine T_putz (J' := (fun σ' => IF MIg σ σ' ∧ (∀ k : Nat, k < 5 → σ' 23 0 k 1 = H k) ∧ σ' 1 1 0 5 = a5 ∧ σ' 1 1 0 6 = a6 ∧ σ' 1 1 0 7 = a7 ∧ σ' 1 1 0 10 = a10 ∧ σ' 1 1 0 11 = a11 ∧ σ' 1 1 0 12 = a12 ∧ σ' 1 1 0 13 = a13 ∧ (∀ k : Nat, k < 5 → (k : Int) < a5 → σ' 23 1 k 1 = H k) ∧ σ' 0 0 0 3 = 1 ∧ True)) zk_108_13 rfl rfl (by omega) vd_0 (fun σ' h => ⟨h.1.up (by simp only [rgP] <;> omega) (by first | exact pMIg rfl | (unfold MIg; omega)), (fun k a => (up_ne (by omega)).trans ((h.2.1) k a)), (up_ne (by omega)).trans (h.2.2.1), (up_ne (by omega)).trans (h.2.2.2.1), (up_ne (by omega)).trans (h.2.2.2.2.1), (up_ne (by omega)).trans (h.2.2.2.2.2.1), (up_ne (by omega)).trans (h.2.2.2.2.2.2.1), (up_ne (by omega)).trans (h.2.2.2.2.2.2.2.1), (up_ne (by omega)).trans (h.2.2.2.2.2.2.2.2.1), (fun k a b => (up_ne (by omega)).trans ((h.2.2.2.2.2.2.2.2.2.1) k a b)), up_eq, trivial⟩) (pc' := 16) rfl ?_
  refine T_ld zk_108_16 rfl rfl rfl (pc' := 17) rfl ?_
  refine T_getR (t' := 1) (i' := 0) (k' := 0) zk_108_17 rfl rfl rfl vd_0 (pc' := 20) rfl ?_
  refine G_getX (w := a13) zk_108_20 rfl (vd_1 (by omega)) (fun σ' h => (h.1.2 _ _ _ _ (by first | exact nMIg rfl | (unfold MIg; omega))).trans s6) (pc' := 23) rfl ?_
  exact T_iret zk_108_23 rfl (fun σ' h => ⟨_, rfl, (by omega), h.1, ⟨h.2.2.1, h.2.2.2.1, h.2.2.2.2.1, h.2.2.2.2.2.1, h.2.2.2.2.2.2.1, h.2.2.2.2.2.2.2.1, h.2.2.2.2.2.2.2.2.1, h.2.2.2.2.2.2.2.2.2.2.1, h.2.2.2.2.2.2.2.2.2.1, trivial⟩⟩)
theorem s_109_0f {xs : Nat × (Nat → Int32)} {Q : Option Value → ZS → Prop}  (σ : ZS) (hI : Inv σ) (hc : σ 0 0 0 3 = 1) (hret : ∀ σ', IF MRs0 σ σ' → (σ' 1 0 0 5 = σ 1 1 0 5 ∧ σ' 1 0 0 6 = σ 1 1 0 6 ∧ σ' 1 0 0 7 = σ 1 1 0 7 ∧ σ' 1 0 0 10 = σ 1 1 0 10 ∧ σ' 1 0 0 11 = σ 1 1 0 11 ∧ σ' 1 0 0 12 = σ 1 1 0 12 ∧ σ' 1 0 0 13 = σ 1 1 0 13) → (∀ k : Nat, k < 8 → σ' 33 0 k 0 = rvh (σ 33 0 k 0) (σ 33 0 k 3) (σ 1 1 0 6)) → (∀ k : Nat, k < 5 → (k : Int) < σ 1 1 0 5 → σ' 23 0 k 1 = σ 23 1 k 1) → Q (some (iv (σ 1 1 0 13))) σ') : TT xs 60 109 0 [(0, av 0 0 0)] [] σ Q := by
  have q_5 : 0 ≤ σ 1 1 0 5 ∧ σ 1 1 0 5 ≤ 5 := (fun h => h.2.1 (by omega) (by omega)) (hI 1 1 0 5 (vd_1 (by omega)))
  have q_6 : 0 ≤ σ 1 1 0 6 ∧ σ 1 1 0 6 ≤ 12 := (fun h => h.2.2.1 (by omega) (by omega)) (hI 1 1 0 6 (vd_1 (by omega)))
  have q_7 : 0 ≤ σ 1 1 0 7 ∧ σ 1 1 0 7 ≤ 6 := (fun h => h.2.2.2.1 (by omega) (by omega)) (hI 1 1 0 7 (vd_1 (by omega)))
  have q_10 : 0 ≤ σ 1 1 0 10 ∧ σ 1 1 0 10 ≤ 99 := (fun h => h.2.2.2.2.1 (by omega) (by omega)) (hI 1 1 0 10 (vd_1 (by omega)))
  have q_11 : 1 ≤ σ 1 1 0 11 ∧ σ 1 1 0 11 ≤ 9 := (fun h => h.2.2.2.2.2.1 (by omega) (by omega)) (hI 1 1 0 11 (vd_1 (by omega)))
  have q_12 : 0 ≤ σ 1 1 0 12 ∧ σ 1 1 0 12 ≤ 9999 := (fun h => h.2.2.2.2.2.2 (by omega) (by omega)) (hI 1 1 0 12 (vd_1 (by omega)))
  have q_13 : -2147483648 ≤ σ 1 1 0 13 ∧ σ 1 1 0 13 ≤ 2147483647 := (fun h => (by have q := h.1; omega)) (hI 1 1 0 13 (vd_1 (by omega)))
  refine (show TJ xs (fun σ' => IF (MYr 0) σ σ' ∧ σ' 0 0 0 3 = 1 ∧ σ' 1 1 0 5 = σ 1 1 0 5 ∧ σ' 1 1 0 6 = σ 1 1 0 6 ∧ σ' 1 1 0 7 = σ 1 1 0 7 ∧ σ' 1 1 0 10 = σ 1 1 0 10 ∧ σ' 1 1 0 11 = σ 1 1 0 11 ∧ σ' 1 1 0 12 = σ 1 1 0 12 ∧ σ' 1 1 0 13 = σ 1 1 0 13 ∧ (∀ k : Nat, k < 5 → σ' 23 1 k 1 = (fun k => σ 23 1 k 1) k) ∧ True) 60 109 0 [(0, av 0 0 0)] [] Q from ?_) σ ⟨IF.rf hI, hc, rfl, rfl, rfl, rfl, rfl, rfl, rfl, (fun _ _ => rfl), trivial⟩
  refine T_ld zk_109_0 rfl rfl rfl (pc' := 1) rfl ?_
  refine G_getX (w := 1) zk_109_1 rfl vd_0 (fun σ' h => h.2.1) (pc' := 4) rfl ?_
  refine T_if_ne zk_109_4 (by omega) (pc' := 7) rfl (fun h1 => ?_) (fun h2 => ?_)
  ·
    refine T_ld zk_109_14 rfl rfl rfl (pc' := 15) rfl ?_
    refine T_getR (t' := 1) (i' := 0) (k' := 0) zk_109_15 rfl rfl rfl vd_0 (pc' := 18) rfl ?_
    refine T_ld zk_109_18 rfl rfl rfl (pc' := 19) rfl ?_
    refine T_getR (t' := 1) (i' := 1) (k' := 0) zk_109_19 rfl rfl rfl vd_0 (pc' := 22) rfl ?_
    refine T_callv (J' := (fun σ' => IF (MYr 0) σ σ' ∧ σ' 0 0 0 3 = 1 ∧ σ' 1 1 0 5 = σ 1 1 0 5 ∧ σ' 1 1 0 6 = σ 1 1 0 6 ∧ σ' 1 1 0 7 = σ 1 1 0 7 ∧ σ' 1 1 0 10 = σ 1 1 0 10 ∧ σ' 1 1 0 11 = σ 1 1 0 11 ∧ σ' 1 1 0 12 = σ 1 1 0 12 ∧ σ' 1 1 0 13 = σ 1 1 0 13 ∧ (∀ k : Nat, k < 5 → σ' 23 1 k 1 = (fun k => σ 23 1 k 1) k) ∧ σ' 1 0 0 5 = σ 1 1 0 5 ∧ σ' 1 0 0 6 = σ 1 1 0 6 ∧ σ' 1 0 0 7 = σ 1 1 0 7 ∧ σ' 1 0 0 10 = σ 1 1 0 10 ∧ σ' 1 0 0 11 = σ 1 1 0 11 ∧ σ' 1 0 0 12 = σ 1 1 0 12 ∧ σ' 1 0 0 13 = σ 1 1 0 13 ∧ (∀ k : Nat, k < 5 → (k : Int) < (σ 1 1 0 5) → σ' 23 0 k 1 = (fun k => σ 23 1 k 1) k) ∧ True)) (r := []) zk_109_22 rfl rfl rfl rfl rfl rfl (Or.inr ⟨_, _, _, _, rfl, (vd_1 (by omega)), rfl⟩) (fun σ' h => (s_22f_0 (σ 1 1 0 5) (σ 1 1 0 6) (σ 1 1 0 7) (σ 1 1 0 10) (σ 1 1 0 11) (σ 1 1 0 12) (σ 1 1 0 13) ((fun k => σ 23 1 k 1))  σ' h.1.1 (h.2.2.1) (h.2.2.2.1) (h.2.2.2.2.1) (h.2.2.2.2.2.1) (h.2.2.2.2.2.2.1) (h.2.2.2.2.2.2.2.1) (h.2.2.2.2.2.2.2.2.1) (h.2.2.2.2.2.2.2.2.2.1)).le (Nat.le_of_ble_eq_true rfl) (fun v σ2 ⟨h1, h3, h4⟩ => ⟨h1, h.1.tr h3 sb77_7c016a8, (h3.2 _ _ _ _ (by first | exact nMY rfl | (unfold MY; omega))).trans (h.2.1), (h3.2 _ _ _ _ (by first | exact nMY rfl | (unfold MY; omega))).trans (h.2.2.1), (h3.2 _ _ _ _ (by first | exact nMY rfl | (unfold MY; omega))).trans (h.2.2.2.1), (h3.2 _ _ _ _ (by first | exact nMY rfl | (unfold MY; omega))).trans (h.2.2.2.2.1), (h3.2 _ _ _ _ (by first | exact nMY rfl | (unfold MY; omega))).trans (h.2.2.2.2.2.1), (h3.2 _ _ _ _ (by first | exact nMY rfl | (unfold MY; omega))).trans (h.2.2.2.2.2.2.1), (h3.2 _ _ _ _ (by first | exact nMY rfl | (unfold MY; omega))).trans (h.2.2.2.2.2.2.2.1), (h3.2 _ _ _ _ (by first | exact nMY rfl | (unfold MY; omega))).trans (h.2.2.2.2.2.2.2.2.1), (fun k a => (h3.2 _ _ _ _ (by first | exact nMY rfl | (unfold MY; omega))).trans ((h.2.2.2.2.2.2.2.2.2.1) k a)), h4.1, h4.2.1, h4.2.2.1, h4.2.2.2.1, h4.2.2.2.2.1, h4.2.2.2.2.2.1, h4.2.2.2.2.2.2.1, h4.2.2.2.2.2.2.2.1, trivial⟩)) (pc' := 25) rfl ?_
    refine T_op zk_109_25 rfl X_ic (pc' := 26) rfl ?_
    refine T_st (L' := [(0, av 0 0 0), (1, iv 0)]) zk_109_26 (nL := 2) rfl rfl rfl rfl rfl (pc' := 27) rfl ?_
    refine fun σ' h => s_109_go 8 0 (by omega) (by omega) σ' h.1.1 (fun σ2 h1 h2 => ?_)
    rw [show σ' 1 0 0 13 = σ 1 1 0 13 from (h.2.2.2.2.2.2.2.2.2.2.2.2.2.2.2.2.1)]
    refine hret σ2 ((h.1.mono (fun t i k j q => by unfold MYr at q; unfold MRs0; omega)).tr h1 (fun t i k j q => by unfold MQa at q; unfold MRs0; omega)) ⟨(h1.2 1 0 0 5 (by unfold MQa; omega)).trans (h.2.2.2.2.2.2.2.2.2.2.1), (h1.2 1 0 0 6 (by unfold MQa; omega)).trans (h.2.2.2.2.2.2.2.2.2.2.2.1), (h1.2 1 0 0 7 (by unfold MQa; omega)).trans (h.2.2.2.2.2.2.2.2.2.2.2.2.1), (h1.2 1 0 0 10 (by unfold MQa; omega)).trans (h.2.2.2.2.2.2.2.2.2.2.2.2.2.1), (h1.2 1 0 0 11 (by unfold MQa; omega)).trans (h.2.2.2.2.2.2.2.2.2.2.2.2.2.2.1), (h1.2 1 0 0 12 (by unfold MQa; omega)).trans (h.2.2.2.2.2.2.2.2.2.2.2.2.2.2.2.1), (h1.2 1 0 0 13 (by unfold MQa; omega)).trans (h.2.2.2.2.2.2.2.2.2.2.2.2.2.2.2.2.1)⟩ (fun k hk => ?_) (fun k hk hl => (h1.2 23 0 k 1 (by unfold MQa; omega)).trans ((h.2.2.2.2.2.2.2.2.2.2.2.2.2.2.2.2.2.1) k hk hl))
    have e2 := h2 k hk
    rw [if_pos (by omega), show σ' 1 0 0 6 = σ 1 1 0 6 from (h.2.2.2.2.2.2.2.2.2.2.2.1), show σ' 33 0 k 0 = σ 33 0 k 0 from h.1.2 33 0 k 0 (by unfold MYr; omega), show σ' 33 0 k 3 = σ 33 0 k 3 from h.1.2 33 0 k 3 (by unfold MYr; omega)] at e2
    exact e2
  · exfalso; omega
theorem s_109f {xs : Nat × (Nat → Int32)} (a5 : Int) (a6 : Int) (a7 : Int) (a10 : Int) (a11 : Int) (a12 : Int) (a13 : Int) (σ : ZS) (hI : Inv σ) (s0 : σ 0 0 0 3 = 1) (t0 : σ 1 1 0 5 = a5) (t1 : σ 1 1 0 6 = a6) (t2 : σ 1 1 0 7 = a7) (t3 : σ 1 1 0 10 = a10) (t4 : σ 1 1 0 11 = a11) (t5 : σ 1 1 0 12 = a12) (t6 : σ 1 1 0 13 = a13) : CT xs 61 109 [av 0 0 0] σ (fun v σ' => ∃ y, v = some (iv y) ∧ (y = a13) ∧ IF MRs0 σ σ' ∧ (σ' 1 0 0 5 = a5 ∧ σ' 1 0 0 6 = a6 ∧ σ' 1 0 0 7 = a7 ∧ σ' 1 0 0 10 = a10 ∧ σ' 1 0 0 11 = a11 ∧ σ' 1 0 0 12 = a12 ∧ σ' 1 0 0 13 = a13 ∧ ((∀ k : Nat, k < 8 → σ' 33 0 k 0 = rvh (σ 33 0 k 0) (σ 33 0 k 3) a6)) ∧ (∀ k : Nat, k < 5 → (k : Int) < a5 → σ' 23 0 k 1 = σ 23 1 k 1) ∧ True)) := by
  subst t0 t1 t2 t3 t4 t5 t6
  exact CT.of (nL := 2) rfl (Nat.le_of_ble_eq_true rfl) (L := [(0, av 0 0 0)]) rfl (s_109_0f σ hI s0 (fun σ' h1 h2 h3 h4 => ⟨_, rfl, rfl, h1, h2.1, h2.2.1, h2.2.2.1, h2.2.2.2.1, h2.2.2.2.2.1, h2.2.2.2.2.2.1, h2.2.2.2.2.2.2, h3, h4, trivial⟩))
theorem sb79zf_f75e978 (v0 : Nat) : ∀ t i k j, MT 49 49 49 49 t i k j → MLb v0 t i k j := by
  intro t i k j h
  unfold MT at h
  unfold MLb
  omega
