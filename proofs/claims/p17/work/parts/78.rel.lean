/-! shelves -/
def RSh (σ : ZS) : Prop := ∀ k, k < 8 → σ 33 0 k 0 = σ 37 0 0 k ∧ σ 33 0 k 1 = σ 38 0 0 k ∧ σ 33 0 k 2 = σ 39 0 0 k ∧ (σ 33 0 k 0 = 2 → σ 33 0 k 3 = σ 40 0 0 k)
def rws (t i k j : Nat) : Prop := (t = 33 ∧ i = 0 ∧ k < 8 ∧ j < 4) ∨ (37 ≤ t ∧ t ≤ 40 ∧ i = 0 ∧ k = 0 ∧ j < 8)
theorem RSh.fr {M : Nat → Nat → Nat → Nat → Prop} {σ σ' : ZS} (h : RSh σ) (g : IF M σ σ') (hM : ∀ t i k j, M t i k j → ¬ rws t i k j) : RSh σ' := fun k hk => by
  rw [g.2 33 0 k 0 (fun m => hM _ _ _ _ m (by unfold rws; omega)), g.2 33 0 k 1 (fun m => hM _ _ _ _ m (by unfold rws; omega)), g.2 33 0 k 2 (fun m => hM _ _ _ _ m (by unfold rws; omega)), g.2 33 0 k 3 (fun m => hM _ _ _ _ m (by unfold rws; omega)), g.2 37 0 0 k (fun m => hM _ _ _ _ m (by unfold rws; omega)), g.2 38 0 0 k (fun m => hM _ _ _ _ m (by unfold rws; omega)), g.2 39 0 0 k (fun m => hM _ _ _ _ m (by unfold rws; omega)), g.2 40 0 0 k (fun m => hM _ _ _ _ m (by unfold rws; omega))]
  exact h k hk
def RE (σ : ZS) : Prop := ∀ k, k < 8 → ∀ j, j < 96 → σ 34 0 k j = σ 41 0 0 (96 * k + j)
def RT1 (σ : ZS) (c k : Nat) : Prop := (σ 17 c 0 0 = σ 36 0 k 635 ∧ σ 17 c 1 0 = σ 36 0 k 636) ∧ ∀ j, j < 96 → σ 18 c 0 j = σ 36 0 k (256 + j) ∧ σ 18 c 1 j = σ 36 0 k (352 + j)
def RTi (σ : ZS) : Prop := RT1 σ 0 0 ∧ (σ 35 0 0 3 = 1 → RT1 σ 1 2)
def RX (σ : ZS) : Prop := RSh σ ∧ RE σ ∧ RTi σ
def rwt (t i k j : Nat) : Prop := (17 ≤ t ∧ t ≤ 18 ∧ i < 2 ∧ k < 2 ∧ j < 96) ∨ (t = 36 ∧ i = 0 ∧ (k = 0 ∨ k = 2) ∧ ((256 ≤ j ∧ j < 448) ∨ j = 635 ∨ j = 636)) ∨ (t = 35 ∧ i = 0 ∧ k = 0 ∧ j = 3)
def rwx (t i k j : Nat) : Prop := (t = 33 ∧ i = 0 ∧ k < 8 ∧ j < 4) ∨ (37 ≤ t ∧ t ≤ 40 ∧ i = 0 ∧ k = 0 ∧ j < 8) ∨ (t = 34 ∧ i = 0 ∧ k < 8 ∧ j < 96) ∨ (t = 41 ∧ i = 0 ∧ k = 0 ∧ j < 768) ∨ (17 ≤ t ∧ t ≤ 18 ∧ i < 2 ∧ k < 2 ∧ j < 96) ∨ (t = 36 ∧ i = 0 ∧ (k = 0 ∨ k = 2) ∧ ((256 ≤ j ∧ j < 448) ∨ j = 635 ∨ j = 636)) ∨ (t = 35 ∧ i = 0 ∧ k = 0 ∧ j = 3)
theorem RE.fr {M : Nat → Nat → Nat → Nat → Prop} {σ σ' : ZS} (h : RE σ) (g : IF M σ σ') (hM : ∀ t i k j, M t i k j → ¬ (t = 34 ∨ t = 41)) : RE σ' := fun k hk j hj => by
  rw [g.2 34 0 k j (fun m => hM _ _ _ _ m (by omega)), g.2 41 0 0 (96 * k + j) (fun m => hM _ _ _ _ m (by omega))]
  exact h k hk j hj
theorem RT1.eq {σ σ' : ZS} {c k : Nat} (h : RT1 σ c k) (e : ∀ t d j, 17 ≤ t → t ≤ 18 → d < 2 → j < 96 → σ' t c d j = σ t c d j) (f : ∀ j, (256 ≤ j ∧ j < 448) ∨ j = 635 ∨ j = 636 → σ' 36 0 k j = σ 36 0 k j) : RT1 σ' c k := by
  refine ⟨⟨?_, ?_⟩, fun j hj => ⟨?_, ?_⟩⟩
  · rw [e 17 0 0 (by omega) (by omega) (by omega) (by omega), f 635 (by omega)]; exact h.1.1
  · rw [e 17 1 0 (by omega) (by omega) (by omega) (by omega), f 636 (by omega)]; exact h.1.2
  · rw [e 18 0 j (by omega) (by omega) (by omega) hj, f (256 + j) (by omega)]; exact (h.2 j hj).1
  · rw [e 18 1 j (by omega) (by omega) (by omega) hj, f (352 + j) (by omega)]; exact (h.2 j hj).2
theorem RTi.eq {σ σ' : ZS} (h : RTi σ) (e : ∀ t i k j, rwt t i k j → σ' t i k j = σ t i k j) : RTi σ' :=
  ⟨h.1.eq (fun t d j a b q w => e t 0 d j (by unfold rwt; omega)) (fun j hj => e 36 0 0 j (by unfold rwt; omega)), fun q => (h.2 ((e 35 0 0 3 (by unfold rwt; omega)).symm.trans q)).eq (fun t d j a b q w => e t 1 d j (by unfold rwt; omega)) (fun j hj => e 36 0 2 j (by unfold rwt; omega))⟩
theorem RTi.fr {M : Nat → Nat → Nat → Nat → Prop} {σ σ' : ZS} (h : RTi σ) (g : IF M σ σ') (hM : ∀ t i k j, M t i k j → ¬ rwt t i k j) : RTi σ' := h.eq (fun t i k j q => g.2 t i k j (fun m => hM t i k j m q))
theorem rwx_33 {k j : Nat} (hk : k < 8) (hj : j < 4) : rwx 33 0 k j := Or.inl ⟨rfl, rfl, hk, hj⟩
theorem rwx_37 {t j : Nat} (h1 : 37 ≤ t) (h2 : t ≤ 40) (hj : j < 8) : rwx t 0 0 j := Or.inr (Or.inl ⟨h1, h2, rfl, rfl, hj⟩)
theorem rwx_34 {k j : Nat} (hk : k < 8) (hj : j < 96) : rwx 34 0 k j := Or.inr (Or.inr (Or.inl ⟨rfl, rfl, hk, hj⟩))
theorem rwx_41 {j : Nat} (hj : j < 768) : rwx 41 0 0 j := Or.inr (Or.inr (Or.inr (Or.inl ⟨rfl, rfl, rfl, hj⟩)))
theorem rwt_x {t i k j : Nat} (q : rwt t i k j) : rwx t i k j := Or.inr (Or.inr (Or.inr (Or.inr q)))
theorem RX.eq {σ σ' : ZS} (h : RX σ) (e : ∀ t i k j, rwx t i k j → σ' t i k j = σ t i k j) : RX σ' :=
  ⟨fun k hk => by
    rw [e 33 0 k 0 (rwx_33 hk (by omega)), e 33 0 k 1 (rwx_33 hk (by omega)), e 33 0 k 2 (rwx_33 hk (by omega)), e 33 0 k 3 (rwx_33 hk (by omega)), e 37 0 0 k (rwx_37 (by omega) (by omega) hk), e 38 0 0 k (rwx_37 (by omega) (by omega) hk), e 39 0 0 k (rwx_37 (by omega) (by omega) hk), e 40 0 0 k (rwx_37 (by omega) (by omega) hk)]
    exact h.1 k hk, fun k hk j hj => by
    rw [e 34 0 k j (rwx_34 hk hj), e 41 0 0 (96 * k + j) (rwx_41 (by omega))]
    exact h.2.1 k hk j hj, h.2.2.eq (fun t i k j q => e t i k j (rwt_x q))⟩
theorem RX.fr {M : Nat → Nat → Nat → Nat → Prop} {σ σ' : ZS} (h : RX σ) (g : IF M σ σ') (hM : ∀ t i k j, M t i k j → ¬ rwx t i k j) : RX σ' := h.eq (fun t i k j q => g.2 t i k j (fun m => hM t i k j m q))
theorem RX.fm {M : Nat → Nat → Nat → Nat → Prop} {σ σ' : ZS} (h : RX σ) (g : IF M σ σ') (hM : ∀ t i k j, M t i k j → rwx t i k j → t = 36 ∧ i = 0 ∧ k = 0 ∧ j < 646) (hr : ∀ j, 0 ≤ j → j < 646 → σ' 36 0 0 j = σ 36 0 0 j) : RX σ' := h.eq (fun t i k j q => by
  by_cases hq : t = 36 ∧ i = 0 ∧ k = 0 ∧ j < 646
  · obtain ⟨rfl, rfl, rfl, h1⟩ := hq
    exact hr j (Nat.zero_le _) h1
  · exact g.2 t i k j (fun m => hq (hM t i k j m q)))
/-! the relation of the single numbers -/
def RC1 (σ : ZS) (c k : Nat) : Prop := σ 1 c 0 6 = σ 36 0 k 641
def R1 (σ : ZS) : Prop := RC1 σ 0 0 ∧ σ 0 0 0 3 = σ 35 0 0 3 ∧ (σ 35 0 0 3 = 1 → RC1 σ 1 2)
def JR (σ : ZS) : Prop := JL σ ∧ R1 σ ∧ RX σ
def rw1 (t i k j : Nat) : Prop := (t = 1 ∧ (i = 0 ∨ i = 1) ∧ k = 0 ∧ (j = 6)) ∨ (t = 0 ∧ i = 0 ∧ k = 0 ∧ j = 3) ∨ (t = 36 ∧ i = 0 ∧ (k = 0 ∨ k = 2) ∧ (j = 641)) ∨ (t = 35 ∧ i = 0 ∧ k = 0 ∧ j = 3)
theorem R1.eq {σ σ' : ZS} (hR : R1 σ) (e : ∀ t i k j, rw1 t i k j → σ' t i k j = σ t i k j) : R1 σ' := by
  unfold R1 RC1 at hR ⊢
  rw [e 1 0 0 6 (by unfold rw1; omega), e 1 1 0 6 (by unfold rw1; omega), e 0 0 0 3 (by unfold rw1; omega), e 36 0 0 641 (by unfold rw1; omega), e 36 0 2 641 (by unfold rw1; omega), e 35 0 0 3 (by unfold rw1; omega)]
  exact hR
theorem R1.fr {M : Nat → Nat → Nat → Nat → Prop} {σ σ' : ZS} (hR : R1 σ) (h : IF M σ σ') (hM : ∀ t i k j, M t i k j → ¬ rw1 t i k j) : R1 σ' := hR.eq (fun t i k j q => h.2 t i k j (fun m => hM t i k j m q))
/-- what is foretold: the row of numbers is put back -/
theorem R1.fm {M : Nat → Nat → Nat → Nat → Prop} {σ σ' : ZS} (hR : R1 σ) (h : IF M σ σ') (hM : ∀ t i k j, M t i k j → rw1 t i k j → t = 36 ∧ i = 0 ∧ k = 0 ∧ j < 646) (hr : ∀ j, 0 ≤ j → j < 646 → σ' 36 0 0 j = σ 36 0 0 j) : R1 σ' := hR.eq (fun t i k j q => by
  by_cases hq : t = 36 ∧ i = 0 ∧ k = 0 ∧ j < 646
  · obtain ⟨rfl, rfl, rfl, h1⟩ := hq
    exact hr j (Nat.zero_le _) h1
  · exact h.2 t i k j (fun m => hq (hM t i k j m q)))
