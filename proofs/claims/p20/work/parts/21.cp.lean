/-- a row copied place by place -/
theorem rg_cp0 {t t0 n : Nat} {f g : Nat → Int} {x0 x1 : Int} (hx : x0 = x1) (ht : ∀ j v, rgP t0 j v → rgP t j v) (hf : ∀ j, rgP t0 j (f j)) (hg : ∀ j, rgP t j (g j)) : ∀ j, rgP t j (if x1.toNat ≤ j ∧ j < x1.toNat + n then f (x0.toNat + (j - x1.toNat)) else g j) := by
  intro j
  split
  · next hj =>
    have : x0.toNat + (j - x1.toNat) = j := by omega
    rw [this]
    exact ht _ _ (hf _)
  · exact hg j
