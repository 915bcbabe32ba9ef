/-! mouths -/
def RMo (σ : ZS) (c k : Nat) : Prop := σ 11 c 0 0 = σ 36 0 k 633 ∧ (0 < σ 36 0 k 633 → σ 12 c 0 0 = σ 36 0 k 250) ∧ (1 < σ 36 0 k 633 → σ 12 c 0 1 = σ 36 0 k 251) ∧ (2 < σ 36 0 k 633 → σ 12 c 0 2 = σ 36 0 k 252)
def RX (σ : ZS) : Prop := RMo σ 0 0 ∧ (σ 35 0 0 3 = 1 → RMo σ 1 2)
def rwx (t i k j : Nat) : Prop := (t = 11 ∧ i < 2 ∧ k = 0 ∧ j = 0) ∨ (t = 12 ∧ i < 2 ∧ k = 0 ∧ j < 3) ∨ (t = 36 ∧ i = 0 ∧ (k = 0 ∨ k = 2) ∧ ((250 ≤ j ∧ j < 253) ∨ j = 633)) ∨ (t = 35 ∧ i = 0 ∧ k = 0 ∧ j = 3)
theorem RMo.eq {σ σ' : ZS} {c k : Nat} (h : RMo σ c k) (e0 : σ' 11 c 0 0 = σ 11 c 0 0) (e : ∀ q, q < 3 → σ' 12 c 0 q = σ 12 c 0 q) (f : ∀ j, (250 ≤ j ∧ j < 253) ∨ j = 633 → σ' 36 0 k j = σ 36 0 k j) : RMo σ' c k := by
  unfold RMo at h ⊢
  rw [e0, e 0 (by omega), e 1 (by omega), e 2 (by omega), f 633 (by omega), f 250 (by omega), f 251 (by omega), f 252 (by omega)]
  exact h
theorem RX.eq {σ σ' : ZS} (h : RX σ) (e : ∀ t i k j, rwx t i k j → σ' t i k j = σ t i k j) : RX σ' :=
  ⟨h.1.eq (e 11 0 0 0 (by unfold rwx; omega)) (fun q hq => e 12 0 0 q (by unfold rwx; omega)) (fun j hj => e 36 0 0 j (by unfold rwx; omega)), fun q => (h.2 ((e 35 0 0 3 (by unfold rwx; omega)).symm.trans q)).eq (e 11 1 0 0 (by unfold rwx; omega)) (fun q hq => e 12 1 0 q (by unfold rwx; omega)) (fun j hj => e 36 0 2 j (by unfold rwx; omega))⟩
theorem RX.fr {M : Nat → Nat → Nat → Nat → Prop} {σ σ' : ZS} (h : RX σ) (g : IF M σ σ') (hM : ∀ t i k j, M t i k j → ¬ rwx t i k j) : RX σ' := h.eq (fun t i k j q => g.2 t i k j (fun m => hM t i k j m q))
theorem RX.fm {M : Nat → Nat → Nat → Nat → Prop} {σ σ' : ZS} (h : RX σ) (g : IF M σ σ') (hM : ∀ t i k j, M t i k j → rwx t i k j → t = 36 ∧ i = 0 ∧ k = 0 ∧ j < 646) (hr : ∀ j, 0 ≤ j → j < 646 → σ' 36 0 0 j = σ 36 0 0 j) : RX σ' := h.eq (fun t i k j q => by
  by_cases hq : t = 36 ∧ i = 0 ∧ k = 0 ∧ j < 646
  · obtain ⟨rfl, rfl, rfl, h1⟩ := hq
    exact hr j (Nat.zero_le _) h1
  · exact g.2 t i k j (fun m => hq (hM t i k j m q)))
/-! the relation of the single numbers -/
def RC1 (σ : ZS) (c k : Nat) : Prop := σ 1 c 0 10 = σ 36 0 k 637 ∧ σ 1 c 0 11 = σ 36 0 k 638 ∧ σ 1 c 0 12 = σ 36 0 k 639
def R1 (σ : ZS) : Prop := RC1 σ 0 0 ∧ σ 0 0 0 3 = σ 35 0 0 3 ∧ (σ 35 0 0 3 = 1 → RC1 σ 1 2)
def JR (σ : ZS) : Prop := JL σ ∧ R1 σ ∧ RX σ
def rw1 (t i k j : Nat) : Prop := (t = 1 ∧ (i = 0 ∨ i = 1) ∧ k = 0 ∧ (j = 10 ∨ j = 11 ∨ j = 12)) ∨ (t = 0 ∧ i = 0 ∧ k = 0 ∧ j = 3) ∨ (t = 36 ∧ i = 0 ∧ (k = 0 ∨ k = 2) ∧ (j = 637 ∨ j = 638 ∨ j = 639)) ∨ (t = 35 ∧ i = 0 ∧ k = 0 ∧ j = 3)
theorem R1.eq {σ σ' : ZS} (hR : R1 σ) (e : ∀ t i k j, rw1 t i k j → σ' t i k j = σ t i k j) : R1 σ' := by
  unfold R1 RC1 at hR ⊢
  rw [e 1 0 0 10 (by unfold rw1; omega), e 1 0 0 11 (by unfold rw1; omega), e 1 0 0 12 (by unfold rw1; omega), e 1 1 0 10 (by unfold rw1; omega), e 1 1 0 11 (by unfold rw1; omega), e 1 1 0 12 (by unfold rw1; omega), e 0 0 0 3 (by unfold rw1; omega), e 36 0 0 637 (by unfold rw1; omega), e 36 0 0 638 (by unfold rw1; omega), e 36 0 0 639 (by unfold rw1; omega), e 36 0 2 637 (by unfold rw1; omega), e 36 0 2 638 (by unfold rw1; omega), e 36 0 2 639 (by unfold rw1; omega), e 35 0 0 3 (by unfold rw1; omega)]
  exact hR
theorem R1.fr {M : Nat → Nat → Nat → Nat → Prop} {σ σ' : ZS} (hR : R1 σ) (h : IF M σ σ') (hM : ∀ t i k j, M t i k j → ¬ rw1 t i k j) : R1 σ' := hR.eq (fun t i k j q => h.2 t i k j (fun m => hM t i k j m q))
/-- what is foretold: the row of numbers is put back -/
theorem R1.fm {M : Nat → Nat → Nat → Nat → Prop} {σ σ' : ZS} (hR : R1 σ) (h : IF M σ σ') (hM : ∀ t i k j, M t i k j → rw1 t i k j → t = 36 ∧ i = 0 ∧ k = 0 ∧ j < 646) (hr : ∀ j, 0 ≤ j → j < 646 → σ' 36 0 0 j = σ 36 0 0 j) : R1 σ' := hR.eq (fun t i k j q => by
  by_cases hq : t = 36 ∧ i = 0 ∧ k = 0 ∧ j < 646
  · obtain ⟨rfl, rfl, rfl, h1⟩ := hq
    exact hr j (Nat.zero_le _) h1
  · exact h.2 t i k j (fun m => hq (hM t i k j m q)))
