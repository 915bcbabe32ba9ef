/-! ways -/
def RW (σ : ZS) (c k : Nat) : Prop := ∀ n, n < 40 → σ 8 c 0 n = σ 36 0 k (100 + ixn n) ∧ σ 9 c 0 n = σ 36 0 k (150 + ixn n) ∧ σ 7 c 0 n = σ 36 0 k (200 + ixn n)
def RX (σ : ZS) : Prop := RW σ 0 0 ∧ (σ 35 0 0 3 = 1 → RW σ 1 2)
def rwx (t i k j : Nat) : Prop := (7 ≤ t ∧ t ≤ 9 ∧ i < 2 ∧ k = 0 ∧ j < 40) ∨ (t = 36 ∧ i = 0 ∧ (k = 0 ∨ k = 2) ∧ 100 ≤ j ∧ j < 250) ∨ (t = 35 ∧ i = 0 ∧ k = 0 ∧ j = 3)
theorem RW.eq {σ σ' : ZS} {c k : Nat} (h : RW σ c k) (e : ∀ t n, 7 ≤ t → t ≤ 9 → n < 40 → σ' t c 0 n = σ t c 0 n) (f : ∀ j, 100 ≤ j → j < 250 → σ' 36 0 k j = σ 36 0 k j) : RW σ' c k := fun n hn => by
  have hx := ixn_lt hn
  rw [e 8 n (by omega) (by omega) hn, e 9 n (by omega) (by omega) hn, e 7 n (by omega) (by omega) hn, f (100 + ixn n) (by omega) (by omega), f (150 + ixn n) (by omega) (by omega), f (200 + ixn n) (by omega) (by omega)]
  exact h n hn
theorem RX.eq {σ σ' : ZS} (h : RX σ) (e : ∀ t i k j, rwx t i k j → σ' t i k j = σ t i k j) : RX σ' :=
  ⟨h.1.eq (fun t n a b q => e t 0 0 n (by unfold rwx; omega)) (fun j a b => e 36 0 0 j (by unfold rwx; omega)), fun q => (h.2 ((e 35 0 0 3 (by unfold rwx; omega)).symm.trans q)).eq (fun t n a b q => e t 1 0 n (by unfold rwx; omega)) (fun j a b => e 36 0 2 j (by unfold rwx; omega))⟩
theorem RX.fr {M : Nat → Nat → Nat → Nat → Prop} {σ σ' : ZS} (h : RX σ) (g : IF M σ σ') (hM : ∀ t i k j, M t i k j → ¬ rwx t i k j) : RX σ' := h.eq (fun t i k j q => g.2 t i k j (fun m => hM t i k j m q))
theorem RX.fm {M : Nat → Nat → Nat → Nat → Prop} {σ σ' : ZS} (h : RX σ) (g : IF M σ σ') (hM : ∀ t i k j, M t i k j → rwx t i k j → t = 36 ∧ i = 0 ∧ k = 0 ∧ j < 646) (hr : ∀ j, 0 ≤ j → j < 646 → σ' 36 0 0 j = σ 36 0 0 j) : RX σ' := h.eq (fun t i k j q => by
  by_cases hq : t = 36 ∧ i = 0 ∧ k = 0 ∧ j < 646
  · obtain ⟨rfl, rfl, rfl, h1⟩ := hq
    exact hr j (Nat.zero_le _) h1
  · exact g.2 t i k j (fun m => hq (hM t i k j m q)))
/-! the relation of the single numbers -/
def RC1 (σ : ZS) (c k : Nat) : Prop := σ 1 c 0 10 = σ 36 0 k 637 ∧ σ 1 c 0 11 = σ 36 0 k 638 ∧ σ 1 c 0 12 = σ 36 0 k 639
def R1 (σ : ZS) : Prop := RC1 σ 0 0 ∧ σ 0 0 0 3 = σ 35 0 0 3 ∧ (σ 35 0 0 3 = 1 → RC1 σ 1 2)
def JR (σ : ZS) : Prop := JL σ ∧ R1 σ ∧ RX σ
def rw1 (t i k j : Nat) : Prop := (t = 1 ∧ (i = 0 ∨ i = 1) ∧ k = 0 ∧ (j = 10 ∨ j = 11 ∨ j = 12)) ∨ (t = 0 ∧ i = 0 ∧ k = 0 ∧ j = 3) ∨ (t = 36 ∧ i = 0 ∧ (k = 0 ∨ k = 2) ∧ (j = 637 ∨ j = 638 ∨ j = 639)) ∨ (t = 35 ∧ i = 0 ∧ k = 0 ∧ j = 3)
theorem R1.eq {σ σ' : ZS} (hR : R1 σ) (e : ∀ t i k j, rw1 t i k j → σ' t i k j = σ t i k j) : R1 σ' := by
  unfold R1 RC1 at hR ⊢
  rw [e 1 0 0 10 (by unfold rw1; omega), e 1 0 0 11 (by unfold rw1; omega), e 1 0 0 12 (by unfold rw1; omega), e 1 1 0 10 (by unfold rw1; omega), e 1 1 0 11 (by unfold rw1; omega), e 1 1 0 12 (by unfold rw1; omega), e 0 0 0 3 (by unfold rw1; omega), e 36 0 0 637 (by unfold rw1; omega), e 36 0 0 638 (by unfold rw1; omega), e 36 0 0 639 (by unfold rw1; omega), e 36 0 2 637 (by unfold rw1; omega), e 36 0 2 638 (by unfold rw1; omega), e 36 0 2 639 (by unfold rw1; omega), e 35 0 0 3 (by unfold rw1; omega)]
  exact hR
theorem R1.fr {M : Nat → Nat → Nat → Nat → Prop} {σ σ' : ZS} (hR : R1 σ) (h : IF M σ σ') (hM : ∀ t i k j, M t i k j → ¬ rw1 t i k j) : R1 σ' := hR.eq (fun t i k j q => h.2 t i k j (fun m => hM t i k j m q))
/-- what is foretold: the row of numbers is put back -/
theorem R1.fm {M : Nat → Nat → Nat → Nat → Prop} {σ σ' : ZS} (hR : R1 σ) (h : IF M σ σ') (hM : ∀ t i k j, M t i k j → rw1 t i k j → t = 36 ∧ i = 0 ∧ k = 0 ∧ j < 646) (hr : ∀ j, 0 ≤ j → j < 646 → σ' 36 0 0 j = σ 36 0 0 j) : R1 σ' := hR.eq (fun t i k j q => by
  by_cases hq : t = 36 ∧ i = 0 ∧ k = 0 ∧ j < 646
  · obtain ⟨rfl, rfl, rfl, h1⟩ := hq
    exact hr j (Nat.zero_le _) h1
  · exact h.2 t i k j (fun m => hq (hM t i k j m q)))
