/-! shelves -/
def RSh (σ : ZS) : Prop := ∀ k, k < 8 → σ 33 0 k 0 = σ 37 0 0 k ∧ σ 33 0 k 1 = σ 38 0 0 k ∧ σ 33 0 k 2 = σ 39 0 0 k ∧ (σ 33 0 k 0 = 2 → σ 33 0 k 3 = σ 40 0 0 k)
def rws (t i k j : Nat) : Prop := (t = 33 ∧ i = 0 ∧ k < 8 ∧ j < 4) ∨ (37 ≤ t ∧ t ≤ 40 ∧ i = 0 ∧ k = 0 ∧ j < 8)
theorem RSh.fr {M : Nat → Nat → Nat → Nat → Prop} {σ σ' : ZS} (h : RSh σ) (g : IF M σ σ') (hM : ∀ t i k j, M t i k j → ¬ rws t i k j) : RSh σ' := fun k hk => by
  rw [g.2 33 0 k 0 (fun m => hM _ _ _ _ m (by unfold rws; omega)), g.2 33 0 k 1 (fun m => hM _ _ _ _ m (by unfold rws; omega)), g.2 33 0 k 2 (fun m => hM _ _ _ _ m (by unfold rws; omega)), g.2 33 0 k 3 (fun m => hM _ _ _ _ m (by unfold rws; omega)), g.2 37 0 0 k (fun m => hM _ _ _ _ m (by unfold rws; omega)), g.2 38 0 0 k (fun m => hM _ _ _ _ m (by unfold rws; omega)), g.2 39 0 0 k (fun m => hM _ _ _ _ m (by unfold rws; omega)), g.2 40 0 0 k (fun m => hM _ _ _ _ m (by unfold rws; omega))]
  exact h k hk
def RE (σ : ZS) : Prop := ∀ k, k < 8 → ∀ j, j < 96 → σ 34 0 k j = σ 41 0 0 (96 * k + j)
def RX (σ : ZS) : Prop := RSh σ ∧ RE σ ∧ σ 0 0 0 7 = σ 35 0 0 16
def rwx (t i k j : Nat) : Prop := (t = 33 ∧ i = 0 ∧ k < 8 ∧ j < 4) ∨ (37 ≤ t ∧ t ≤ 40 ∧ i = 0 ∧ k = 0 ∧ j < 8) ∨ (t = 34 ∧ i = 0 ∧ k < 8 ∧ j < 96) ∨ (t = 41 ∧ i = 0 ∧ k = 0 ∧ j < 768) ∨ (t = 0 ∧ i = 0 ∧ k = 0 ∧ j = 7) ∨ (t = 35 ∧ i = 0 ∧ k = 0 ∧ j = 16)
theorem rwx_34 {k j : Nat} (hk : k < 8) (hj : j < 96) : rwx 34 0 k j := Or.inr (Or.inr (Or.inl ⟨rfl, rfl, hk, hj⟩))
theorem rwx_41 {j : Nat} (hj : j < 768) : rwx 41 0 0 j := Or.inr (Or.inr (Or.inr (Or.inl ⟨rfl, rfl, rfl, hj⟩)))
theorem rws_x {t i k j : Nat} (q : rws t i k j) : rwx t i k j := q.elim Or.inl (fun q => Or.inr (Or.inl q))
theorem RE.fr {M : Nat → Nat → Nat → Nat → Prop} {σ σ' : ZS} (h : RE σ) (g : IF M σ σ') (hM : ∀ t i k j, M t i k j → ¬ (t = 34 ∨ t = 41)) : RE σ' := fun k hk j hj => by
  rw [g.2 34 0 k j (fun m => hM _ _ _ _ m (by omega)), g.2 41 0 0 (96 * k + j) (fun m => hM _ _ _ _ m (by omega))]
  exact h k hk j hj
theorem RX.fr {M : Nat → Nat → Nat → Nat → Prop} {σ σ' : ZS} (h : RX σ) (g : IF M σ σ') (hM : ∀ t i k j, M t i k j → ¬ rwx t i k j) : RX σ' :=
  ⟨h.1.fr g (fun t i k j m w => hM t i k j m (rws_x w)), fun k hk j hj => by
    rw [g.2 34 0 k j (fun m => hM _ _ _ _ m (rwx_34 hk hj)), g.2 41 0 0 (96 * k + j) (fun m => hM _ _ _ _ m (rwx_41 (by omega)))]
    exact h.2.1 k hk j hj, by
    rw [g.2 0 0 0 7 (fun m => hM _ _ _ _ m (Or.inr (Or.inr (Or.inr (Or.inr (Or.inl ⟨rfl, rfl, rfl, rfl⟩)))))), g.2 35 0 0 16 (fun m => hM _ _ _ _ m (Or.inr (Or.inr (Or.inr (Or.inr (Or.inr ⟨rfl, rfl, rfl, rfl⟩))))))]
    exact h.2.2⟩
/-! the relation of the single numbers -/
def RC1 (σ : ZS) (c k : Nat) : Prop := σ 1 c 0 6 = σ 36 0 k 641 ∧ σ 1 c 0 5 = σ 36 0 k 640
def R1 (σ : ZS) : Prop := RC1 σ 0 0 ∧ σ 0 0 0 3 = σ 35 0 0 3 ∧ (σ 35 0 0 3 = 1 → RC1 σ 1 2)
def JR (σ : ZS) : Prop := JL σ ∧ R1 σ ∧ RX σ
def rw1 (t i k j : Nat) : Prop := (t = 1 ∧ (i = 0 ∨ i = 1) ∧ k = 0 ∧ (j = 6 ∨ j = 5)) ∨ (t = 0 ∧ i = 0 ∧ k = 0 ∧ j = 3) ∨ (t = 36 ∧ i = 0 ∧ (k = 0 ∨ k = 2) ∧ (j = 641 ∨ j = 640)) ∨ (t = 35 ∧ i = 0 ∧ k = 0 ∧ j = 3)
theorem R1.eq {σ σ' : ZS} (hR : R1 σ) (e : ∀ t i k j, rw1 t i k j → σ' t i k j = σ t i k j) : R1 σ' := by
  unfold R1 RC1 at hR ⊢
  rw [e 1 0 0 6 (by unfold rw1; omega), e 1 0 0 5 (by unfold rw1; omega), e 1 1 0 6 (by unfold rw1; omega), e 1 1 0 5 (by unfold rw1; omega), e 0 0 0 3 (by unfold rw1; omega), e 36 0 0 641 (by unfold rw1; omega), e 36 0 0 640 (by unfold rw1; omega), e 36 0 2 641 (by unfold rw1; omega), e 36 0 2 640 (by unfold rw1; omega), e 35 0 0 3 (by unfold rw1; omega)]
  exact hR
theorem R1.fr {M : Nat → Nat → Nat → Nat → Prop} {σ σ' : ZS} (hR : R1 σ) (h : IF M σ σ') (hM : ∀ t i k j, M t i k j → ¬ rw1 t i k j) : R1 σ' := hR.eq (fun t i k j q => h.2 t i k j (fun m => hM t i k j m q))
/-- what is foretold: the row of numbers is put back -/
theorem R1.fm {M : Nat → Nat → Nat → Nat → Prop} {σ σ' : ZS} (hR : R1 σ) (h : IF M σ σ') (hM : ∀ t i k j, M t i k j → rw1 t i k j → t = 36 ∧ i = 0 ∧ k = 0 ∧ j < 646) (hr : ∀ j, 0 ≤ j → j < 646 → σ' 36 0 0 j = σ 36 0 0 j) : R1 σ' := hR.eq (fun t i k j q => by
  by_cases hq : t = 36 ∧ i = 0 ∧ k = 0 ∧ j < 646
  · obtain ⟨rfl, rfl, rfl, h1⟩ := hq
    exact hr j (Nat.zero_le _) h1
  · exact h.2 t i k j (fun m => hq (hM t i k j m q)))
