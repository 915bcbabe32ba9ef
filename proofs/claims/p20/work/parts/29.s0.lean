/-! the row of numbers on a fresh object -/
theorem s0_e (j : Nat) : σ0 36 0 0 j = (if j < 25 then 20 else if 50 ≤ j ∧ j < 75 then 1000 else if 200 ≤ j ∧ j < 250 then -1 else if j = 638 then 9 else 0) := rfl
theorem s0_a {j : Nat} (h : j < 25) : σ0 36 0 0 j = 20 := by rw [s0_e, if_pos h]
theorem s0_b {j : Nat} (h : 50 ≤ j ∧ j < 75) : σ0 36 0 0 j = 1000 := by rw [s0_e, if_neg (by omega), if_pos h]
theorem s0_c {j : Nat} (h : 200 ≤ j ∧ j < 250) : σ0 36 0 0 j = -1 := by rw [s0_e, if_neg (by omega), if_neg (by omega), if_pos h]
theorem s0_z {j : Nat} (h : (25 ≤ j ∧ j < 50) ∨ (75 ≤ j ∧ j < 200) ∨ (250 ≤ j ∧ ¬ j = 638)) : σ0 36 0 0 j = 0 := by rw [s0_e, if_neg (by omega), if_neg (by omega), if_neg (by omega), if_neg (by omega)]
