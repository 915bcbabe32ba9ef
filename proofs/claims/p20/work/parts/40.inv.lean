/-- what the cells hold on a fresh object is in range -/
theorem zt62 {t : Nat} (h : t < 62) : t = 0 ∨ t = 1 ∨ t = 2 ∨ t = 3 ∨ t = 4 ∨ t = 5 ∨ t = 6 ∨ t = 7 ∨ t = 8 ∨ t = 9 ∨ t = 10 ∨ t = 11 ∨ t = 12 ∨ t = 13 ∨ t = 14 ∨ t = 15 ∨ t = 16 ∨ t = 17 ∨ t = 18 ∨ t = 19 ∨ t = 20 ∨ t = 21 ∨ t = 22 ∨ t = 23 ∨ t = 24 ∨ t = 25 ∨ t = 26 ∨ t = 27 ∨ t = 28 ∨ t = 29 ∨ t = 30 ∨ t = 31 ∨ t = 32 ∨ t = 33 ∨ t = 34 ∨ t = 35 ∨ t = 36 ∨ t = 37 ∨ t = 38 ∨ t = 39 ∨ t = 40 ∨ t = 41 ∨ t = 42 ∨ t = 43 ∨ t = 44 ∨ t = 45 ∨ t = 46 ∨ t = 47 ∨ t = 48 ∨ t = 49 ∨ t = 50 ∨ t = 51 ∨ t = 52 ∨ t = 53 ∨ t = 54 ∨ t = 55 ∨ t = 56 ∨ t = 57 ∨ t = 58 ∨ t = 59 ∨ t = 60 ∨ t = 61 := by omega
theorem Inv0 : Inv σ0 := by
  intro t i k j hv
  have ht : t < 62 := by
    rcases Nat.lt_or_ge t 62 with h1 | h1
    · exact h1
    · exfalso
      have h2 : tRow t = (0, 0, 0, 0, 0, 0, 0) := by
        unfold tRow
        rw [List.getD_eq_getElem?_getD, List.getElem?_eq_none (by exact h1)]
        rfl
      have h3 := hv.1
      simp only [tni, h2] at h3
      exact absurd h3 (Nat.not_lt_zero _)
  rcases zt62 ht with rfl | rfl | rfl | rfl | rfl | rfl | rfl | rfl | rfl | rfl | rfl | rfl | rfl | rfl | rfl | rfl | rfl | rfl | rfl | rfl | rfl | rfl | rfl | rfl | rfl | rfl | rfl | rfl | rfl | rfl | rfl | rfl | rfl | rfl | rfl | rfl | rfl | rfl | rfl | rfl | rfl | rfl | rfl | rfl | rfl | rfl | rfl | rfl | rfl | rfl | rfl | rfl | rfl | rfl | rfl | rfl | rfl | rfl | rfl | rfl | rfl | rfl
  · show rgP 0 j (σ0 0 i k j)
    rw [show σ0 0 i k j = (if j = 7 then -1 else 0) from rfl]
    by_cases hj : j = 7
    · rw [if_pos hj]; simp only [rgP] <;> omega
    · rw [if_neg hj]; simp only [rgP] <;> omega
  · show rgP 1 j (σ0 1 i k j)
    rw [show σ0 1 i k j = (if j = 11 then 9 else 0) from rfl]
    by_cases hj : j = 11
    · rw [if_pos hj]; simp only [rgP] <;> omega
    · rw [if_neg hj]; simp only [rgP] <;> omega
  · show rgP 2 j (σ0 2 i k j)
    rw [show σ0 2 i k j = 0 from rfl]; exact ⟨by omega, trivial⟩
  · show rgP 3 j (σ0 3 i k j)
    rw [show σ0 3 i k j = 20 from rfl]; exact ⟨by omega, trivial⟩
  · show rgP 4 j (σ0 4 i k j)
    rw [show σ0 4 i k j = 0 from rfl]; exact ⟨by omega, trivial⟩
  · show rgP 5 j (σ0 5 i k j)
    rw [show σ0 5 i k j = 1000 from rfl]; exact ⟨by omega, trivial⟩
  · show rgP 6 j (σ0 6 i k j)
    rw [show σ0 6 i k j = 0 from rfl]; exact ⟨by omega, trivial⟩
  · show rgP 7 j (σ0 7 i k j)
    rw [show σ0 7 i k j = -1 from rfl]; exact ⟨by omega, trivial⟩
  · show rgP 8 j (σ0 8 i k j)
    rw [show σ0 8 i k j = 0 from rfl]; simp only [rgP] <;> omega
  · show rgP 9 j (σ0 9 i k j)
    rw [show σ0 9 i k j = 0 from rfl]; simp only [rgP] <;> omega
  · show rgP 10 j (σ0 10 i k j)
    rw [show σ0 10 i k j = 0 from rfl]; exact ⟨by omega, trivial⟩
  · show rgP 11 j (σ0 11 i k j)
    rw [show σ0 11 i k j = 0 from rfl]; simp only [rgP] <;> omega
  · show rgP 12 j (σ0 12 i k j)
    rw [show σ0 12 i k j = 0 from rfl]; simp only [rgP] <;> omega
  · show rgP 13 j (σ0 13 i k j)
    rw [show σ0 13 i k j = 0 from rfl]; simp only [rgP] <;> omega
  · show rgP 14 j (σ0 14 i k j)
    rw [show σ0 14 i k j = 0 from rfl]; exact ⟨by omega, trivial⟩
  · show rgP 15 j (σ0 15 i k j)
    rw [show σ0 15 i k j = 0 from rfl]; exact ⟨by omega, trivial⟩
  · show rgP 16 j (σ0 16 i k j)
    rw [show σ0 16 i k j = 0 from rfl]; exact ⟨by omega, trivial⟩
  · show rgP 17 j (σ0 17 i k j)
    rw [show σ0 17 i k j = 0 from rfl]; simp only [rgP] <;> omega
  · show rgP 18 j (σ0 18 i k j)
    rw [show σ0 18 i k j = 0 from rfl]; simp only [rgP] <;> omega
  · show rgP 19 j (σ0 19 i k j)
    rw [show σ0 19 i k j = 0 from rfl]; exact ⟨by omega, trivial⟩
  · show rgP 20 j (σ0 20 i k j)
    rw [show σ0 20 i k j = 0 from rfl]; exact ⟨by omega, trivial⟩
  · show rgP 21 j (σ0 21 i k j)
    rw [show σ0 21 i k j = 0 from rfl]; exact ⟨by omega, trivial⟩
  · show rgP 22 j (σ0 22 i k j)
    rw [show σ0 22 i k j = 0 from rfl]; simp only [rgP] <;> omega
  · show rgP 23 j (σ0 23 i k j)
    rw [show σ0 23 i k j = 0 from rfl]; simp only [rgP] <;> omega
  · show rgP 24 j (σ0 24 i k j)
    rw [show σ0 24 i k j = 0 from rfl]; exact ⟨by omega, trivial⟩
  · show rgP 25 j (σ0 25 i k j)
    rw [show σ0 25 i k j = 0 from rfl]; simp only [rgP] <;> omega
  · show rgP 26 j (σ0 26 i k j)
    rw [show σ0 26 i k j = (if j = 5 then -1 else 0) from rfl]
    by_cases hj : j = 5
    · rw [if_pos hj]; simp only [rgP] <;> omega
    · rw [if_neg hj]; simp only [rgP] <;> omega
  · show rgP 27 j (σ0 27 i k j)
    rw [show σ0 27 i k j = 0 from rfl]; exact ⟨by omega, trivial⟩
  · show rgP 28 j (σ0 28 i k j)
    rw [show σ0 28 i k j = 0 from rfl]; exact ⟨by omega, trivial⟩
  · show rgP 29 j (σ0 29 i k j)
    rw [show σ0 29 i k j = 0 from rfl]; simp only [rgP] <;> omega
  · show rgP 30 j (σ0 30 i k j)
    rw [show σ0 30 i k j = 0 from rfl]; simp only [rgP] <;> omega
  · show rgP 31 j (σ0 31 i k j)
    rw [show σ0 31 i k j = 0 from rfl]; exact ⟨by omega, trivial⟩
  · show rgP 32 j (σ0 32 i k j)
    rw [show σ0 32 i k j = 0 from rfl]; exact ⟨by omega, trivial⟩
  · show rgP 33 j (σ0 33 i k j)
    rw [show σ0 33 i k j = 0 from rfl]; simp only [rgP] <;> omega
  · show rgP 34 j (σ0 34 i k j)
    rw [show σ0 34 i k j = 0 from rfl]; exact ⟨by omega, trivial⟩
  · show rgP 35 j (σ0 35 i k j)
    rw [show σ0 35 i k j = (if j = 16 then -1 else 0) from rfl]
    by_cases hj : j = 16
    · rw [if_pos hj]; simp only [rgP] <;> omega
    · rw [if_neg hj]; simp only [rgP] <;> omega
  · show rgP 36 j (σ0 36 i k j)
    by_cases hk : k = 0
    · subst hk
      rw [show σ0 36 i 0 j = σ0 36 0 0 j from rfl, s0_e]
      repeat' split
      all_goals (simp only [rgP] <;> omega)
    · rw [show σ0 36 i k j = 0 from by unfold σ0; simp [hk]]
      simp only [rgP] <;> omega
  · show rgP 37 j (σ0 37 i k j)
    rw [show σ0 37 i k j = 0 from rfl]; simp only [rgP] <;> omega
  · show rgP 38 j (σ0 38 i k j)
    rw [show σ0 38 i k j = 0 from rfl]; simp only [rgP] <;> omega
  · show rgP 39 j (σ0 39 i k j)
    rw [show σ0 39 i k j = 0 from rfl]; simp only [rgP] <;> omega
  · show rgP 40 j (σ0 40 i k j)
    rw [show σ0 40 i k j = 0 from rfl]; simp only [rgP] <;> omega
  · show rgP 41 j (σ0 41 i k j)
    rw [show σ0 41 i k j = 0 from rfl]; exact ⟨by omega, trivial⟩
  · show rgP 42 j (σ0 42 i k j)
    rw [show σ0 42 i k j = 0 from rfl]; exact ⟨by omega, trivial⟩
  · show rgP 43 j (σ0 43 i k j)
    rw [show σ0 43 i k j = 0 from rfl]; exact ⟨by omega, trivial⟩
  · show rgP 44 j (σ0 44 i k j)
    rw [show σ0 44 i k j = 0 from rfl]; simp only [rgP] <;> omega
  · show rgP 45 j (σ0 45 i k j)
    rw [show σ0 45 i k j = 0 from rfl]; simp only [rgP] <;> omega
  · show rgP 46 j (σ0 46 i k j)
    rw [show σ0 46 i k j = 0 from rfl]; exact ⟨by omega, trivial⟩
  · show rgP 47 j (σ0 47 i k j)
    rw [show σ0 47 i k j = 0 from rfl]; exact ⟨by omega, trivial⟩
  · show rgP 48 j (σ0 48 i k j)
    rw [show σ0 48 i k j = 0 from rfl]; exact ⟨by omega, trivial⟩
  · show rgP 49 j (σ0 49 i k j)
    rw [show σ0 49 i k j = 0 from rfl]; exact ⟨by omega, trivial⟩
  · show rgP 50 j (σ0 50 i k j)
    rw [show σ0 50 i k j = 0 from rfl]; exact ⟨by omega, trivial⟩
  · show rgP 51 j (σ0 51 i k j)
    rw [show σ0 51 i k j = 0 from rfl]; exact ⟨by omega, trivial⟩
  · show rgP 52 j (σ0 52 i k j)
    rw [show σ0 52 i k j = 0 from rfl]; exact ⟨by omega, trivial⟩
  · show rgP 53 j (σ0 53 i k j)
    rw [show σ0 53 i k j = 0 from rfl]; simp only [rgP] <;> omega
  · show rgP 54 j (σ0 54 i k j)
    rw [show σ0 54 i k j = 0 from rfl]; exact ⟨by omega, trivial⟩
  · show rgP 55 j (σ0 55 i k j)
    rw [show σ0 55 i k j = 0 from rfl]; exact ⟨by omega, trivial⟩
  · show rgP 56 j (σ0 56 i k j)
    rw [show σ0 56 i k j = 0 from rfl]; exact ⟨by omega, trivial⟩
  · show rgP 57 j (σ0 57 i k j)
    rw [show σ0 57 i k j = 0 from rfl]; simp only [rgP] <;> omega
  · show rgP 58 j (σ0 58 i k j)
    rw [show σ0 58 i k j = 0 from rfl]; simp only [rgP] <;> omega
  · show rgP 59 j (σ0 59 i k j)
    rw [show σ0 59 i k j = 0 from rfl]; exact ⟨by omega, trivial⟩
  · show rgP 60 j (σ0 60 i k j)
    rw [show σ0 60 i k j = 0 from rfl]; exact ⟨by omega, trivial⟩
  · show rgP 61 j (σ0 61 i k j)
    rw [show σ0 61 i k j = 0 from rfl]; exact ⟨by omega, trivial⟩
