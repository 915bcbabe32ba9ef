theorem u_75 {xs : Nat × (Nat → Int32)} (p0 : Int) (p1 : Int) (hp0 : -2147483648 ≤ p0 ∧ p0 ≤ 2147483647) (hp1 : -2147483648 ≤ p1 ∧ p1 ≤ 2147483647) (σ : ZS) (hJ : JR σ) : CT xs 120 75 [av 0 0 0, iv p0, iv p1] σ (fun v σ' => ∃ y, v = some (iv y) ∧ (True) ∧ JR σ') := by
  have hN := hJ.1.2.2.2
  unfold NB at hN
  exact (w_75 p0 p1 (by omega) (by omega) σ hJ.1.1  ).le (Nat.le_of_ble_eq_true rfl) (fun v σ' ⟨y, h1, h2, h3, h4⟩ => ⟨y, h1, trivial, hJ.1.fr h3 (fun t i k j q => by unfold MI at q; unfold wj; omega), hJ.2.1.fr h3 (fun t i k j q => by unfold MI at q; unfold rw1; omega), hJ.2.2.fr h3 (fun t i k j q => by unfold MI at q; unfold rwx; omega)⟩)
theorem u_76 {xs : Nat × (Nat → Int32)} (p0 : Int) (p1 : Int) (hp0 : -2147483648 ≤ p0 ∧ p0 ≤ 2147483647) (hp1 : -2147483648 ≤ p1 ∧ p1 ≤ 2147483647) (σ : ZS) (hJ : JR σ) : CT xs 120 76 [av 0 0 0, iv p0, iv p1] σ (fun v σ' => ∃ y, v = some (iv y) ∧ (True) ∧ JR σ') := by
  have hN := hJ.1.2.2.2
  unfold NB at hN
  exact (w_76 p0 p1 (by omega) (by omega) σ hJ.1.1  ).le (Nat.le_of_ble_eq_true rfl) (fun v σ' ⟨y, h1, h2, h3, h4⟩ => ⟨y, h1, trivial, hJ.1.fr h3 (fun t i k j q => by unfold MC at q; unfold wj; omega), hJ.2.1.fr h3 (fun t i k j q => by unfold MC at q; unfold rw1; omega), hJ.2.2.fr h3 (fun t i k j q => by unfold MC at q; unfold rwx; omega)⟩)
theorem u_77 {xs : Nat × (Nat → Int32)} (p0 : Int) (p1 : Int) (p2 : Int) (hp0 : -2147483648 ≤ p0 ∧ p0 ≤ 2147483647) (hp1 : -2147483648 ≤ p1 ∧ p1 ≤ 2147483647) (hp2 : 0 ≤ p2 ∧ p2 ≤ 1) (σ : ZS) (hJ : JR σ) : CT xs 120 77 [av 0 0 0, iv p0, iv p1, iv p2] σ (fun v σ' => ∃ y, v = some (iv y) ∧ (True) ∧ JR σ') := by
  have hN := hJ.1.2.2.2
  unfold NB at hN
  exact (w_77 p0 p1 p2 (by omega) (by omega) (by omega) σ hJ.1.1  ).le (Nat.le_of_ble_eq_true rfl) (fun v σ' ⟨y, h1, h2, h3, h4⟩ => ⟨y, h1, trivial, hJ.1.fr h3 (fun t i k j q => by unfold MI at q; unfold wj; omega), hJ.2.1.fr h3 (fun t i k j q => by unfold MI at q; unfold rw1; omega), hJ.2.2.fr h3 (fun t i k j q => by unfold MI at q; unfold rwx; omega)⟩)
theorem u_78 {xs : Nat × (Nat → Int32)} (p0 : Int) (p1 : Int) (p2 : Int) (hp0 : -2147483648 ≤ p0 ∧ p0 ≤ 2147483647) (hp1 : -2147483648 ≤ p1 ∧ p1 ≤ 2147483647) (hp2 : 0 ≤ p2 ∧ p2 ≤ 1) (σ : ZS) (hJ : JR σ) : CT xs 120 78 [av 0 0 0, iv p0, iv p1, iv p2] σ (fun v σ' => ∃ y, v = some (iv y) ∧ (True) ∧ JR σ') := by
  have hN := hJ.1.2.2.2
  unfold NB at hN
  exact (w_78 p0 p1 p2 (by omega) (by omega) (by omega) σ hJ.1.1  ).le (Nat.le_of_ble_eq_true rfl) (fun v σ' ⟨y, h1, h2, h3, h4⟩ => ⟨y, h1, trivial, hJ.1.fr h3 (fun t i k j q => by unfold MI at q; unfold wj; omega), hJ.2.1.fr h3 (fun t i k j q => by unfold MI at q; unfold rw1; omega), hJ.2.2.fr h3 (fun t i k j q => by unfold MI at q; unfold rwx; omega)⟩)
theorem u_79 {xs : Nat × (Nat → Int32)} (p0 : Int) (p1 : Int) (p2 : Int) (hp0 : -2147483648 ≤ p0 ∧ p0 ≤ 2147483647) (hp1 : -2147483648 ≤ p1 ∧ p1 ≤ 2147483647) (hp2 : -2147483648 ≤ p2 ∧ p2 ≤ 2147483647) (σ : ZS) (hJ : JR σ) : CT xs 120 79 [av 0 0 0, iv p0, iv p1, iv p2] σ (fun v σ' => ∃ y, v = some (iv y) ∧ (True) ∧ JR σ') := by
  have hN := hJ.1.2.2.2
  unfold NB at hN
  exact (w_79 p0 p1 p2 (by omega) (by omega) (by omega) σ hJ.1.1  ).le (Nat.le_of_ble_eq_true rfl) (fun v σ' ⟨y, h1, h2, h3, h4⟩ => ⟨y, h1, trivial, hJ.1.fr h3 (fun t i k j q => by unfold MI at q; unfold wj; omega), hJ.2.1.fr h3 (fun t i k j q => by unfold MI at q; unfold rw1; omega), hJ.2.2.fr h3 (fun t i k j q => by unfold MI at q; unfold rwx; omega)⟩)
theorem u_80 {xs : Nat × (Nat → Int32)} (p0 : Int) (p1 : Int) (hp0 : -2147483648 ≤ p0 ∧ p0 ≤ 2147483647) (hp1 : -2147483648 ≤ p1 ∧ p1 ≤ 2147483647) (σ : ZS) (hJ : JR σ) : CT xs 120 80 [av 0 0 0, iv p0, iv p1] σ (fun v σ' => ∃ y, v = some (iv y) ∧ (True) ∧ JR σ') := by
  have hN := hJ.1.2.2.2
  unfold NB at hN
  exact (w_80 p0 p1 (by omega) (by omega) σ hJ.1.1  ).le (Nat.le_of_ble_eq_true rfl) (fun v σ' ⟨y, h1, h2, h3, h4⟩ => ⟨y, h1, trivial, hJ.1.fr h3 (fun t i k j q => by unfold MI at q; unfold wj; omega), hJ.2.1.fr h3 (fun t i k j q => by unfold MI at q; unfold rw1; omega), hJ.2.2.fr h3 (fun t i k j q => by unfold MI at q; unfold rwx; omega)⟩)
theorem u_81 {xs : Nat × (Nat → Int32)} (p0 : Int) (hp0 : -2147483648 ≤ p0 ∧ p0 ≤ 2147483647) (σ : ZS) (hJ : JR σ) : CT xs 120 81 [av 0 0 0, iv p0] σ (fun v σ' => ∃ y, v = some (iv y) ∧ (True) ∧ JR σ') := by
  have hN := hJ.1.2.2.2
  unfold NB at hN
  exact (w_81 p0 (by omega) σ hJ.1.1  ).le (Nat.le_of_ble_eq_true rfl) (fun v σ' ⟨y, h1, h2, h3, h4⟩ => ⟨y, h1, trivial, hJ.1.fr h3 (fun t i k j q => by unfold MI at q; unfold wj; omega), hJ.2.1.fr h3 (fun t i k j q => by unfold MI at q; unfold rw1; omega), hJ.2.2.fr h3 (fun t i k j q => by unfold MI at q; unfold rwx; omega)⟩)
theorem u_82 {xs : Nat × (Nat → Int32)} (p0 : Int) (p1 : Int) (hp0 : -2147483648 ≤ p0 ∧ p0 ≤ 2147483647) (hp1 : 0 ≤ p1 ∧ p1 ≤ 1) (σ : ZS) (hJ : JR σ) : CT xs 120 82 [av 0 0 0, iv p0, iv p1] σ (fun v σ' => ∃ y, v = some (iv y) ∧ (True) ∧ JR σ') := by
  have hN := hJ.1.2.2.2
  unfold NB at hN
  exact (w_82 p0 p1 (by omega) (by omega) σ hJ.1.1  ).le (Nat.le_of_ble_eq_true rfl) (fun v σ' ⟨y, h1, h2, h3, h4⟩ => ⟨y, h1, trivial, hJ.1.fr h3 (fun t i k j q => by unfold MI at q; unfold wj; omega), hJ.2.1.fr h3 (fun t i k j q => by unfold MI at q; unfold rw1; omega), hJ.2.2.fr h3 (fun t i k j q => by unfold MI at q; unfold rwx; omega)⟩)
theorem u_86 {xs : Nat × (Nat → Int32)} (p0 : Int) (p1 : Int) (hp0 : -2147483648 ≤ p0 ∧ p0 ≤ 2147483647) (hp1 : -2147483648 ≤ p1 ∧ p1 ≤ 2147483647) (σ : ZS) (hJ : JR σ) : CT xs 120 86 [av 0 0 0, iv p0, iv p1] σ (fun v σ' => ∃ y, v = some (jv y) ∧ (True) ∧ JR σ') := by
  have hN := hJ.1.2.2.2
  unfold NB at hN
  exact (w_86 p0 p1 (by omega) (by omega) σ hJ.1.1  ).le (Nat.le_of_ble_eq_true rfl) (fun v σ' ⟨y, h1, h2, h3, h4⟩ => ⟨y, h1, trivial, hJ.1.fr h3 (fun _ _ _ _ q => q.elim), hJ.2.1.fr h3 (fun _ _ _ _ q => q.elim), hJ.2.2.fr h3 (fun _ _ _ _ q => q.elim)⟩)
theorem u_88 {xs : Nat × (Nat → Int32)} (p0 : Int) (hp0 : -2147483648 ≤ p0 ∧ p0 ≤ 2147483647) (σ : ZS) (hJ : JR σ) : CT xs 120 88 [av 0 0 0, iv p0] σ (fun v σ' => ∃ y, v = some (iv y) ∧ (True) ∧ JR σ') := by
  have hN := hJ.1.2.2.2
  unfold NB at hN
  exact (w_88 p0 (by omega) σ hJ.1.1  ).le (Nat.le_of_ble_eq_true rfl) (fun v σ' ⟨y, h1, h2, h3, h4⟩ => ⟨y, h1, trivial, hJ.1.fr h3 (fun _ _ _ _ q => q.elim), hJ.2.1.fr h3 (fun _ _ _ _ q => q.elim), hJ.2.2.fr h3 (fun _ _ _ _ q => q.elim)⟩)
theorem u_89 {xs : Nat × (Nat → Int32)} (p0 : Int) (p1 : Int) (hp0 : -2147483648 ≤ p0 ∧ p0 ≤ 2147483647) (hp1 : -2147483648 ≤ p1 ∧ p1 ≤ 2147483647) (σ : ZS) (hJ : JR σ) : CT xs 120 89 [av 0 0 0, iv p0, iv p1] σ (fun v σ' => ∃ y, v = some (iv y) ∧ (True) ∧ JR σ') := by
  have hN := hJ.1.2.2.2
  unfold NB at hN
  exact (w_89 p0 p1 (by omega) (by omega) σ hJ.1.1  ).le (Nat.le_of_ble_eq_true rfl) (fun v σ' ⟨y, h1, h2, h3, h4⟩ => ⟨y, h1, trivial, hJ.1.fr h3 (fun t i k j q => by unfold MT at q; unfold wj; omega), hJ.2.1.fr h3 (fun t i k j q => by unfold MT at q; unfold rw1; omega), hJ.2.2.fr h3 (fun t i k j q => by unfold MT at q; unfold rwx; omega)⟩)
theorem u_90 {xs : Nat × (Nat → Int32)} (p0 : Int) (p1 : Int) (hp0 : -2147483648 ≤ p0 ∧ p0 ≤ 2147483647) (hp1 : 0 ≤ p1 ∧ p1 ≤ 1) (σ : ZS) (hJ : JR σ) : CT xs 120 90 [av 0 0 0, iv p0, iv p1] σ (fun v σ' => ∃ y, v = some (iv y) ∧ (True) ∧ JR σ') := by
  have hN := hJ.1.2.2.2
  unfold NB at hN
  exact (w_90 p0 p1 (by omega) (by omega) σ hJ.1.1  ).le (Nat.le_of_ble_eq_true rfl) (fun v σ' ⟨y, h1, h2, h3, h4⟩ => ⟨y, h1, trivial, hJ.1.fr h3 (fun t i k j q => by unfold MI at q; unfold wj; omega), hJ.2.1.fr h3 (fun t i k j q => by unfold MI at q; unfold rw1; omega), hJ.2.2.fr h3 (fun t i k j q => by unfold MI at q; unfold rwx; omega)⟩)
theorem u_91 {xs : Nat × (Nat → Int32)} (p0 : Int) (p1 : Int) (hp0 : -2147483648 ≤ p0 ∧ p0 ≤ 2147483647) (hp1 : 0 ≤ p1 ∧ p1 ≤ 1) (σ : ZS) (hJ : JR σ) : CT xs 120 91 [av 0 0 0, iv p0, iv p1] σ (fun v σ' => ∃ y, v = some (iv y) ∧ (True) ∧ JR σ') := by
  have hN := hJ.1.2.2.2
  unfold NB at hN
  exact (w_91 p0 p1 (by omega) (by omega) σ hJ.1.1  ).le (Nat.le_of_ble_eq_true rfl) (fun v σ' ⟨y, h1, h2, h3, h4⟩ => ⟨y, h1, trivial, hJ.1.fr h3 (fun _ _ _ _ q => q.elim), hJ.2.1.fr h3 (fun _ _ _ _ q => q.elim), hJ.2.2.fr h3 (fun _ _ _ _ q => q.elim)⟩)
theorem u_92 {xs : Nat × (Nat → Int32)} (p0 : Int) (p1 : Int) (hp0 : -2147483648 ≤ p0 ∧ p0 ≤ 2147483647) (hp1 : -2147483648 ≤ p1 ∧ p1 ≤ 2147483647) (σ : ZS) (hJ : JR σ) : CT xs 120 92 [av 0 0 0, iv p0, iv p1] σ (fun v σ' => ∃ y, v = some (iv y) ∧ (True) ∧ JR σ') := by
  have hN := hJ.1.2.2.2
  unfold NB at hN
  exact (w_92 p0 p1 (by omega) (by omega) σ hJ.1.1  ).le (Nat.le_of_ble_eq_true rfl) (fun v σ' ⟨y, h1, h2, h3, h4⟩ => ⟨y, h1, trivial, hJ.1.fr h3 (fun t i k j q => by unfold MC at q; unfold wj; omega), hJ.2.1.fr h3 (fun t i k j q => by unfold MC at q; unfold rw1; omega), hJ.2.2.fr h3 (fun t i k j q => by unfold MC at q; unfold rwx; omega)⟩)
theorem u_95 {xs : Nat × (Nat → Int32)} (p0 : Int) (p1 : Int) (hp0 : -2147483648 ≤ p0 ∧ p0 ≤ 2147483647) (hp1 : 0 ≤ p1 ∧ p1 ≤ 1) (σ : ZS) (hJ : JR σ) : CT xs 120 95 [av 0 0 0, iv p0, iv p1] σ (fun v σ' => ∃ y, v = some (iv y) ∧ (True) ∧ JR σ') := by
  have hN := hJ.1.2.2.2
  unfold NB at hN
  exact (w_95 p0 p1 (by omega) (by omega) σ hJ.1.1  ).le (Nat.le_of_ble_eq_true rfl) (fun v σ' ⟨y, h1, h2, h3, h4⟩ => ⟨y, h1, trivial, hJ.1.fr h3 (fun t i k j q => by unfold MI at q; unfold wj; omega), hJ.2.1.fr h3 (fun t i k j q => by unfold MI at q; unfold rw1; omega), hJ.2.2.fr h3 (fun t i k j q => by unfold MI at q; unfold rwx; omega)⟩)
theorem u_96 {xs : Nat × (Nat → Int32)} (p0 : Int) (hp0 : -2147483648 ≤ p0 ∧ p0 ≤ 2147483647) (σ : ZS) (hJ : JR σ) : CT xs 120 96 [av 0 0 0, iv p0] σ (fun v σ' => ∃ y, v = some (iv y) ∧ (True) ∧ JR σ') := by
  have hN := hJ.1.2.2.2
  unfold NB at hN
  exact (w_96 p0 (by omega) σ hJ.1.1  ).le (Nat.le_of_ble_eq_true rfl) (fun v σ' ⟨y, h1, h2, h3, h4⟩ => ⟨y, h1, trivial, hJ.1.fr h3 (fun t i k j q => by unfold MI at q; unfold wj; omega), hJ.2.1.fr h3 (fun t i k j q => by unfold MI at q; unfold rw1; omega), hJ.2.2.fr h3 (fun t i k j q => by unfold MI at q; unfold rwx; omega)⟩)
theorem u_97 {xs : Nat × (Nat → Int32)} (p0 : Int) (p1 : Int) (hp0 : -2147483648 ≤ p0 ∧ p0 ≤ 2147483647) (hp1 : -2147483648 ≤ p1 ∧ p1 ≤ 2147483647) (σ : ZS) (hJ : JR σ) : CT xs 120 97 [av 0 0 0, iv p0, iv p1] σ (fun v σ' => ∃ y, v = some (iv y) ∧ (True) ∧ JR σ') := by
  have hN := hJ.1.2.2.2
  unfold NB at hN
  exact (w_97 p0 p1 (by omega) (by omega) σ hJ.1.1  ).le (Nat.le_of_ble_eq_true rfl) (fun v σ' ⟨y, h1, h2, h3, h4⟩ => ⟨y, h1, trivial, hJ.1.fr h3 (fun t i k j q => by unfold MYr at q; unfold wj; omega), hJ.2.1.fr h3 (fun t i k j q => by unfold MYr at q; unfold rw1; omega), hJ.2.2.fr h3 (fun t i k j q => by unfold MYr at q; unfold rwx; omega)⟩)
theorem u_99 {xs : Nat × (Nat → Int32)} (p0 : Int) (p1 : Int) (hp0 : -2147483648 ≤ p0 ∧ p0 ≤ 2147483647) (hp1 : -2147483648 ≤ p1 ∧ p1 ≤ 2147483647) (σ : ZS) (hJ : JR σ) : CT xs 120 99 [av 0 0 0, iv p0, iv p1] σ (fun v σ' => ∃ y, v = some (iv y) ∧ (True) ∧ JR σ') := by
  have hN := hJ.1.2.2.2
  unfold NB at hN
  exact (w_99 p0 p1 (by omega) (by omega) σ hJ.1.1  ).le (Nat.le_of_ble_eq_true rfl) (fun v σ' ⟨y, h1, h2, h3, h4⟩ => ⟨y, h1, trivial, hJ.1.fr h3 (fun t i k j q => by unfold MI at q; unfold wj; omega), hJ.2.1.fr h3 (fun t i k j q => by unfold MI at q; unfold rw1; omega), hJ.2.2.fr h3 (fun t i k j q => by unfold MI at q; unfold rwx; omega)⟩)
theorem u_100 {xs : Nat × (Nat → Int32)} (p0 : Int) (p1 : Int) (hp0 : -2147483648 ≤ p0 ∧ p0 ≤ 2147483647) (hp1 : -2147483648 ≤ p1 ∧ p1 ≤ 2147483647) (σ : ZS) (hJ : JR σ) : CT xs 120 100 [av 0 0 0, iv p0, iv p1] σ (fun v σ' => ∃ y, v = some (iv y) ∧ (True) ∧ JR σ') := by
  have hN := hJ.1.2.2.2
  unfold NB at hN
  exact (w_100 p0 p1 (by omega) (by omega) σ hJ.1.1  ).le (Nat.le_of_ble_eq_true rfl) (fun v σ' ⟨y, h1, h2, h3, h4⟩ => ⟨y, h1, trivial, hJ.1.fr h3 (fun _ _ _ _ q => q.elim), hJ.2.1.fr h3 (fun _ _ _ _ q => q.elim), hJ.2.2.fr h3 (fun _ _ _ _ q => q.elim)⟩)
theorem u_101 {xs : Nat × (Nat → Int32)} (p0 : Int) (p1 : Int) (p2 : Int) (p3 : Int) (p4 : Int) (hp0 : -2147483648 ≤ p0 ∧ p0 ≤ 2147483647) (hp1 : -2147483648 ≤ p1 ∧ p1 ≤ 2147483647) (hp2 : -2147483648 ≤ p2 ∧ p2 ≤ 2147483647) (hp3 : -2147483648 ≤ p3 ∧ p3 ≤ 2147483647) (hp4 : -2147483648 ≤ p4 ∧ p4 ≤ 2147483647) (σ : ZS) (hJ : JR σ) : CT xs 120 101 [av 0 0 0, iv p0, iv p1, iv p2, iv p3, iv p4] σ (fun v σ' => ∃ y, v = some (iv y) ∧ (True) ∧ JR σ') := by
  have hN := hJ.1.2.2.2
  unfold NB at hN
  exact (w_101 p0 p1 p2 p3 p4 (by omega) (by omega) (by omega) (by omega) (by omega) σ hJ.1.1  ).le (Nat.le_of_ble_eq_true rfl) (fun v σ' ⟨y, h1, h2, h3, h4⟩ => ⟨y, h1, trivial, hJ.1.fr h3 (fun t i k j q => by unfold MC at q; unfold wj; omega), hJ.2.1.fr h3 (fun t i k j q => by unfold MC at q; unfold rw1; omega), hJ.2.2.fr h3 (fun t i k j q => by unfold MC at q; unfold rwx; omega)⟩)
theorem u_102 {xs : Nat × (Nat → Int32)} (p0 : Int) (p1 : Int) (hp0 : -2147483648 ≤ p0 ∧ p0 ≤ 2147483647) (hp1 : -2147483648 ≤ p1 ∧ p1 ≤ 2147483647) (σ : ZS) (hJ : JR σ) : CT xs 120 102 [av 0 0 0, iv p0, iv p1] σ (fun v σ' => ∃ y, v = some (iv y) ∧ (True) ∧ JR σ') := by
  have hN := hJ.1.2.2.2
  unfold NB at hN
  exact (w_102 p0 p1 (by omega) (by omega) σ hJ.1.1  ).le (Nat.le_of_ble_eq_true rfl) (fun v σ' ⟨y, h1, h2, h3, h4⟩ => ⟨y, h1, trivial, hJ.1.fr h3 (fun t i k j q => by unfold MI at q; unfold wj; omega), hJ.2.1.fr h3 (fun t i k j q => by unfold MI at q; unfold rw1; omega), hJ.2.2.fr h3 (fun t i k j q => by unfold MI at q; unfold rwx; omega)⟩)
theorem u_103 {xs : Nat × (Nat → Int32)} (p0 : Int) (hp0 : -2147483648 ≤ p0 ∧ p0 ≤ 2147483647) (σ : ZS) (hJ : JR σ) : CT xs 120 103 [av 0 0 0, iv p0] σ (fun v σ' => ∃ y, v = some (iv y) ∧ (True) ∧ JR σ') := by
  have hN := hJ.1.2.2.2
  unfold NB at hN
  exact (w_103 p0 (by omega) σ hJ.1.1  ).le (Nat.le_of_ble_eq_true rfl) (fun v σ' ⟨y, h1, h2, h3, h4⟩ => ⟨y, h1, trivial, hJ.1.fr h3 (fun t i k j q => by unfold MI at q; unfold wj; omega), hJ.2.1.fr h3 (fun t i k j q => by unfold MI at q; unfold rw1; omega), hJ.2.2.fr h3 (fun t i k j q => by unfold MI at q; unfold rwx; omega)⟩)
theorem u_104 {xs : Nat × (Nat → Int32)} (p0 : Int) (p1 : Int) (p2 : Int) (hp0 : -2147483648 ≤ p0 ∧ p0 ≤ 2147483647) (hp1 : -2147483648 ≤ p1 ∧ p1 ≤ 2147483647) (hp2 : -2147483648 ≤ p2 ∧ p2 ≤ 2147483647) (σ : ZS) (hJ : JR σ) : CT xs 120 104 [av 0 0 0, iv p0, iv p1, iv p2] σ (fun v σ' => ∃ y, v = some (iv y) ∧ (True) ∧ JR σ') := by
  have hN := hJ.1.2.2.2
  unfold NB at hN
  exact (w_104 p0 p1 p2 (by omega) (by omega) (by omega) σ hJ.1.1  ).le (Nat.le_of_ble_eq_true rfl) (fun v σ' ⟨y, h1, h2, h3, h4⟩ => ⟨y, h1, trivial, hJ.1.fr h3 (fun t i k j q => by unfold MYr at q; unfold wj; omega), hJ.2.1.fr h3 (fun t i k j q => by unfold MYr at q; unfold rw1; omega), hJ.2.2.fr h3 (fun t i k j q => by unfold MYr at q; unfold rwx; omega)⟩)
theorem u_105 {xs : Nat × (Nat → Int32)} (p0 : Int) (p1 : Int) (hp0 : -2147483648 ≤ p0 ∧ p0 ≤ 2147483647) (hp1 : -2147483648 ≤ p1 ∧ p1 ≤ 2147483647) (σ : ZS) (hJ : JR σ) : CT xs 120 105 [av 0 0 0, iv p0, iv p1] σ (fun v σ' => ∃ y, v = some (iv y) ∧ (True) ∧ JR σ') := by
  have hN := hJ.1.2.2.2
  unfold NB at hN
  exact (w_105 p0 p1 (by omega) (by omega) σ hJ.1.1  ).le (Nat.le_of_ble_eq_true rfl) (fun v σ' ⟨y, h1, h2, h3, h4⟩ => ⟨y, h1, trivial, hJ.1.fr h3 (fun _ _ _ _ q => q.elim), hJ.2.1.fr h3 (fun _ _ _ _ q => q.elim), hJ.2.2.fr h3 (fun _ _ _ _ q => q.elim)⟩)
theorem u_106 {xs : Nat × (Nat → Int32)} (p0 : Int) (hp0 : -2147483648 ≤ p0 ∧ p0 ≤ 2147483647) (σ : ZS) (hJ : JR σ) : CT xs 120 106 [av 0 0 0, iv p0] σ (fun v σ' => ∃ y, v = some (iv y) ∧ (True) ∧ JR σ') := by
  have hN := hJ.1.2.2.2
  unfold NB at hN
  exact (w_106 p0 (by omega) σ hJ.1.1  ).le (Nat.le_of_ble_eq_true rfl) (fun v σ' ⟨y, h1, h2, h3, h4⟩ => ⟨y, h1, trivial, hJ.1.fr h3 (fun t i k j q => by unfold MLr at q; unfold wj; omega), hJ.2.1.fr h3 (fun t i k j q => by unfold MLr at q; unfold rw1; omega), hJ.2.2.fr h3 (fun t i k j q => by unfold MLr at q; unfold rwx; omega)⟩)
theorem u_107 {xs : Nat × (Nat → Int32)} (p0 : Int) (p1 : Int) (hp0 : -2147483648 ≤ p0 ∧ p0 ≤ 2147483647) (hp1 : -2147483648 ≤ p1 ∧ p1 ≤ 2147483647) (σ : ZS) (hJ : JR σ) : CT xs 120 107 [av 0 0 0, iv p0, iv p1] σ (fun v σ' => ∃ y, v = some (iv y) ∧ (True) ∧ JR σ') := by
  have hN := hJ.1.2.2.2
  unfold NB at hN
  exact (w_107 p0 p1 (by omega) (by omega) σ hJ.1.1  ).le (Nat.le_of_ble_eq_true rfl) (fun v σ' ⟨y, h1, h2, h3, h4⟩ => ⟨y, h1, trivial, hJ.1.fr h3 (fun t i k j q => by unfold MY at q; unfold wj; omega), hJ.2.1.fr h3 (fun t i k j q => by unfold MY at q; unfold rw1; omega), hJ.2.2.fr h3 (fun t i k j q => by unfold MY at q; unfold rwx; omega)⟩)
theorem u_110 {xs : Nat × (Nat → Int32)} (p0 : Int) (p1 : Int) (hp0 : -2147483648 ≤ p0 ∧ p0 ≤ 2147483647) (hp1 : -2147483648 ≤ p1 ∧ p1 ≤ 2147483647) (σ : ZS) (hJ : JR σ) : CT xs 120 110 [av 0 0 0, iv p0, iv p1] σ (fun v σ' => ∃ y, v = some (iv y) ∧ (True) ∧ JR σ') := by
  have hN := hJ.1.2.2.2
  unfold NB at hN
  exact (w_110 p0 p1 (by omega) (by omega) σ hJ.1.1  ).le (Nat.le_of_ble_eq_true rfl) (fun v σ' ⟨y, h1, h2, h3, h4⟩ => ⟨y, h1, trivial, hJ.1.fr h3 (fun _ _ _ _ q => q.elim), hJ.2.1.fr h3 (fun _ _ _ _ q => q.elim), hJ.2.2.fr h3 (fun _ _ _ _ q => q.elim)⟩)
theorem u_111 {xs : Nat × (Nat → Int32)} (p0 : Int) (p1 : Int) (p2 : Int) (hp0 : -2147483648 ≤ p0 ∧ p0 ≤ 2147483647) (hp1 : -2147483648 ≤ p1 ∧ p1 ≤ 2147483647) (hp2 : -2147483648 ≤ p2 ∧ p2 ≤ 2147483647) (σ : ZS) (hJ : JR σ) : CT xs 120 111 [av 0 0 0, iv p0, iv p1, iv p2] σ (fun v σ' => ∃ y, v = some (iv y) ∧ (True) ∧ JR σ') := by
  have hN := hJ.1.2.2.2
  unfold NB at hN
  exact (w_111 p0 p1 p2 (by omega) (by omega) (by omega) σ hJ.1.1  ).le (Nat.le_of_ble_eq_true rfl) (fun v σ' ⟨y, h1, h2, h3, h4⟩ => ⟨y, h1, trivial, hJ.1.fr h3 (fun _ _ _ _ q => q.elim), hJ.2.1.fr h3 (fun _ _ _ _ q => q.elim), hJ.2.2.fr h3 (fun _ _ _ _ q => q.elim)⟩)
theorem u_112 {xs : Nat × (Nat → Int32)} (p0 : Int) (hp0 : -2147483648 ≤ p0 ∧ p0 ≤ 2147483647) (σ : ZS) (hJ : JR σ) : CT xs 120 112 [av 0 0 0, iv p0] σ (fun v σ' => ∃ y, v = some (iv y) ∧ (True) ∧ JR σ') := by
  have hN := hJ.1.2.2.2
  unfold NB at hN
  exact (w_112 p0 (by omega) σ hJ.1.1  ).le (Nat.le_of_ble_eq_true rfl) (fun v σ' ⟨y, h1, h2, h3, h4⟩ => ⟨y, h1, trivial, hJ.1.fr h3 (fun _ _ _ _ q => q.elim), hJ.2.1.fr h3 (fun _ _ _ _ q => q.elim), hJ.2.2.fr h3 (fun _ _ _ _ q => q.elim)⟩)
theorem u_127 {xs : Nat × (Nat → Int32)} (p0 : Int) (p1 : Int) (hp0 : -2147483648 ≤ p0 ∧ p0 ≤ 2147483647) (hp1 : -2147483648 ≤ p1 ∧ p1 ≤ 2147483647) (σ : ZS) (hJ : JR σ) : CT xs 120 127 [av 35 0 0, iv p0, iv p1] σ (fun v σ' => ∃ y, v = some (iv y) ∧ (True) ∧ JR σ') := by
  have hN := hJ.1.2.2.2
  unfold NB at hN
  exact (m_127 p0 p1 (by omega) (by omega) σ hJ.1.1  ).le (Nat.le_of_ble_eq_true rfl) (fun v σ' ⟨y, h1, h2, h3, h4⟩ => ⟨y, h1, trivial, hJ.1.fr h3 (fun t i k j q => by unfold MJ at q; unfold wj; omega), hJ.2.1.fr h3 (fun t i k j q => by unfold MJ at q; unfold rw1; omega), hJ.2.2.fr h3 (fun t i k j q => by unfold MJ at q; unfold rwx; omega)⟩)
theorem u_128 {xs : Nat × (Nat → Int32)} (p0 : Int) (p1 : Int) (hp0 : -2147483648 ≤ p0 ∧ p0 ≤ 2147483647) (hp1 : -2147483648 ≤ p1 ∧ p1 ≤ 2147483647) (σ : ZS) (hJ : JR σ) : CT xs 120 128 [av 35 0 0, iv p0, iv p1] σ (fun v σ' => ∃ y, v = some (iv y) ∧ (True) ∧ JR σ') := by
  have hN := hJ.1.2.2.2
  unfold NB at hN
  exact (m_128 p0 p1 (by omega) (by omega) σ hJ.1.1  ).le (Nat.le_of_ble_eq_true rfl) (fun v σ' ⟨y, h1, h2, h3, h4⟩ => ⟨y, h1, trivial, hJ.1.fr h3 (fun t i k j q => by unfold MK at q; unfold wj; omega), hJ.2.1.fr h3 (fun t i k j q => by unfold MK at q; unfold rw1; omega), hJ.2.2.fr h3 (fun t i k j q => by unfold MK at q; unfold rwx; omega)⟩)
theorem u_130 {xs : Nat × (Nat → Int32)} (p0 : Int) (p1 : Int) (p2 : Int) (hp0 : -2147483648 ≤ p0 ∧ p0 ≤ 2147483647) (hp1 : -2147483648 ≤ p1 ∧ p1 ≤ 2147483647) (hp2 : 0 ≤ p2 ∧ p2 ≤ 1) (σ : ZS) (hJ : JR σ) : CT xs 120 130 [av 35 0 0, iv p0, iv p1, iv p2] σ (fun v σ' => ∃ y, v = some (iv y) ∧ (True) ∧ JR σ') := by
  have hN := hJ.1.2.2.2
  unfold NB at hN
  exact (m_130 p0 p1 p2 (by omega) (by omega) (by omega) σ hJ.1.1  ).le (Nat.le_of_ble_eq_true rfl) (fun v σ' ⟨y, h1, h2, h3, h4⟩ => ⟨y, h1, trivial, hJ.1.fr h3 (fun t i k j q => by unfold MJ at q; unfold wj; omega), hJ.2.1.fr h3 (fun t i k j q => by unfold MJ at q; unfold rw1; omega), hJ.2.2.fr h3 (fun t i k j q => by unfold MJ at q; unfold rwx; omega)⟩)
theorem u_131 {xs : Nat × (Nat → Int32)} (p0 : Int) (p1 : Int) (p2 : Int) (hp0 : -2147483648 ≤ p0 ∧ p0 ≤ 2147483647) (hp1 : -2147483648 ≤ p1 ∧ p1 ≤ 2147483647) (hp2 : 0 ≤ p2 ∧ p2 ≤ 1) (σ : ZS) (hJ : JR σ) : CT xs 120 131 [av 35 0 0, iv p0, iv p1, iv p2] σ (fun v σ' => ∃ y, v = some (iv y) ∧ (True) ∧ JR σ') := by
  have hN := hJ.1.2.2.2
  unfold NB at hN
  exact (m_131 p0 p1 p2 (by omega) (by omega) (by omega) σ hJ.1.1  ).le (Nat.le_of_ble_eq_true rfl) (fun v σ' ⟨y, h1, h2, h3, h4⟩ => ⟨y, h1, trivial, hJ.1.fr h3 (fun t i k j q => by unfold MJ at q; unfold wj; omega), hJ.2.1.fr h3 (fun t i k j q => by unfold MJ at q; unfold rw1; omega), hJ.2.2.fr h3 (fun t i k j q => by unfold MJ at q; unfold rwx; omega)⟩)
theorem u_132 {xs : Nat × (Nat → Int32)} (p0 : Int) (p1 : Int) (p2 : Int) (hp0 : -2147483648 ≤ p0 ∧ p0 ≤ 2147483647) (hp1 : -2147483648 ≤ p1 ∧ p1 ≤ 2147483647) (hp2 : -2147483648 ≤ p2 ∧ p2 ≤ 2147483647) (σ : ZS) (hJ : JR σ) : CT xs 120 132 [av 35 0 0, iv p0, iv p1, iv p2] σ (fun v σ' => ∃ y, v = some (iv y) ∧ (True) ∧ JR σ') := by
  have hN := hJ.1.2.2.2
  unfold NB at hN
  exact (m_132 p0 p1 p2 (by omega) (by omega) (by omega) σ hJ.1.1  ).le (Nat.le_of_ble_eq_true rfl) (fun v σ' ⟨y, h1, h2, h3, h4⟩ => ⟨y, h1, trivial, hJ.1.fr h3 (fun t i k j q => by unfold MJ at q; unfold wj; omega), hJ.2.1.fr h3 (fun t i k j q => by unfold MJ at q; unfold rw1; omega), hJ.2.2.fr h3 (fun t i k j q => by unfold MJ at q; unfold rwx; omega)⟩)
theorem u_133 {xs : Nat × (Nat → Int32)} (p0 : Int) (hp0 : -2147483648 ≤ p0 ∧ p0 ≤ 2147483647) (σ : ZS) (hJ : JR σ) : CT xs 120 133 [av 35 0 0, iv p0] σ (fun v σ' => ∃ y, v = some (iv y) ∧ (True) ∧ JR σ') := by
  have hN := hJ.1.2.2.2
  unfold NB at hN
  exact (m_133 p0 (by omega) σ hJ.1.1  ).le (Nat.le_of_ble_eq_true rfl) (fun v σ' ⟨y, h1, h2, h3, h4⟩ => ⟨y, h1, trivial, hJ.1.fr h3 (fun t i k j q => by unfold MK at q; unfold wj; omega), hJ.2.1.fr h3 (fun t i k j q => by unfold MK at q; unfold rw1; omega), hJ.2.2.fr h3 (fun t i k j q => by unfold MK at q; unfold rwx; omega)⟩)
theorem u_134 {xs : Nat × (Nat → Int32)} (p0 : Int) (p1 : Int) (hp0 : -2147483648 ≤ p0 ∧ p0 ≤ 2147483647) (hp1 : 0 ≤ p1 ∧ p1 ≤ 1) (σ : ZS) (hJ : JR σ) : CT xs 120 134 [av 35 0 0, iv p0, iv p1] σ (fun v σ' => ∃ y, v = some (iv y) ∧ (True) ∧ JR σ') := by
  have hN := hJ.1.2.2.2
  unfold NB at hN
  exact (m_134 p0 p1 (by omega) (by omega) σ hJ.1.1  ).le (Nat.le_of_ble_eq_true rfl) (fun v σ' ⟨y, h1, h2, h3, h4⟩ => ⟨y, h1, trivial, hJ.1.fr h3 (fun t i k j q => by unfold MJ at q; unfold wj; omega), hJ.2.1.fr h3 (fun t i k j q => by unfold MJ at q; unfold rw1; omega), hJ.2.2.fr h3 (fun t i k j q => by unfold MJ at q; unfold rwx; omega)⟩)
theorem u_138 {xs : Nat × (Nat → Int32)} (p0 : Int) (p1 : Int) (hp0 : -2147483648 ≤ p0 ∧ p0 ≤ 2147483647) (hp1 : -2147483648 ≤ p1 ∧ p1 ≤ 2147483647) (σ : ZS) (hJ : JR σ) : CT xs 120 138 [av 35 0 0, iv p0, iv p1] σ (fun v σ' => ∃ y, v = some (jv y) ∧ (True) ∧ JR σ') := by
  have hN := hJ.1.2.2.2
  unfold NB at hN
  exact (m_138 p0 p1 (by omega) (by omega) σ hJ.1.1  ).le (Nat.le_of_ble_eq_true rfl) (fun v σ' ⟨y, h1, h2, h3, h4⟩ => ⟨y, h1, trivial, hJ.1.fr h3 (fun _ _ _ _ q => q.elim), hJ.2.1.fr h3 (fun _ _ _ _ q => q.elim), hJ.2.2.fr h3 (fun _ _ _ _ q => q.elim)⟩)
theorem u_141 {xs : Nat × (Nat → Int32)} (p0 : Int) (hp0 : -2147483648 ≤ p0 ∧ p0 ≤ 2147483647) (σ : ZS) (hJ : JR σ) : CT xs 120 141 [av 35 0 0, iv p0] σ (fun v σ' => ∃ y, v = some (iv y) ∧ (True) ∧ JR σ') := by
  have hN := hJ.1.2.2.2
  unfold NB at hN
  exact (m_141 p0 (by omega) σ hJ.1.1  ).le (Nat.le_of_ble_eq_true rfl) (fun v σ' ⟨y, h1, h2, h3, h4⟩ => ⟨y, h1, trivial, hJ.1.fr h3 (fun _ _ _ _ q => q.elim), hJ.2.1.fr h3 (fun _ _ _ _ q => q.elim), hJ.2.2.fr h3 (fun _ _ _ _ q => q.elim)⟩)
theorem u_142 {xs : Nat × (Nat → Int32)} (p0 : Int) (p1 : Int) (hp0 : -2147483648 ≤ p0 ∧ p0 ≤ 2147483647) (hp1 : -2147483648 ≤ p1 ∧ p1 ≤ 2147483647) (σ : ZS) (hJ : JR σ) : CT xs 120 142 [av 35 0 0, iv p0, iv p1] σ (fun v σ' => ∃ y, v = some (iv y) ∧ (True) ∧ JR σ') := by
  have hN := hJ.1.2.2.2
  unfold NB at hN
  exact (m_142 p0 p1 (by omega) (by omega) σ hJ.1.1  ).le (Nat.le_of_ble_eq_true rfl) (fun v σ' ⟨y, h1, h2, h3, h4⟩ => ⟨y, h1, trivial, hJ.1.fr h3 (fun t i k j q => by unfold MT at q; unfold wj; omega), hJ.2.1.fr h3 (fun t i k j q => by unfold MT at q; unfold rw1; omega), hJ.2.2.fr h3 (fun t i k j q => by unfold MT at q; unfold rwx; omega)⟩)
theorem u_144 {xs : Nat × (Nat → Int32)} (p0 : Int) (p1 : Int) (hp0 : -2147483648 ≤ p0 ∧ p0 ≤ 2147483647) (hp1 : 0 ≤ p1 ∧ p1 ≤ 1) (σ : ZS) (hJ : JR σ) : CT xs 120 144 [av 35 0 0, iv p0, iv p1] σ (fun v σ' => ∃ y, v = some (iv y) ∧ (True) ∧ JR σ') := by
  have hN := hJ.1.2.2.2
  unfold NB at hN
  exact (m_144 p0 p1 (by omega) (by omega) σ hJ.1.1  ).le (Nat.le_of_ble_eq_true rfl) (fun v σ' ⟨y, h1, h2, h3, h4⟩ => ⟨y, h1, trivial, hJ.1.fr h3 (fun t i k j q => by unfold MK at q; unfold wj; omega), hJ.2.1.fr h3 (fun t i k j q => by unfold MK at q; unfold rw1; omega), hJ.2.2.fr h3 (fun t i k j q => by unfold MK at q; unfold rwx; omega)⟩)
theorem u_146 {xs : Nat × (Nat → Int32)} (p0 : Int) (p1 : Int) (hp0 : -2147483648 ≤ p0 ∧ p0 ≤ 2147483647) (hp1 : 0 ≤ p1 ∧ p1 ≤ 1) (σ : ZS) (hJ : JR σ) : CT xs 120 146 [av 35 0 0, iv p0, iv p1] σ (fun v σ' => ∃ y, v = some (iv y) ∧ (True) ∧ JR σ') := by
  have hN := hJ.1.2.2.2
  unfold NB at hN
  exact (m_146 p0 p1 (by omega) (by omega) σ hJ.1.1  ).le (Nat.le_of_ble_eq_true rfl) (fun v σ' ⟨y, h1, h2, h3, h4⟩ => ⟨y, h1, trivial, hJ.1.fr h3 (fun _ _ _ _ q => q.elim), hJ.2.1.fr h3 (fun _ _ _ _ q => q.elim), hJ.2.2.fr h3 (fun _ _ _ _ q => q.elim)⟩)
theorem u_147 {xs : Nat × (Nat → Int32)} (p0 : Int) (p1 : Int) (hp0 : -2147483648 ≤ p0 ∧ p0 ≤ 2147483647) (hp1 : -2147483648 ≤ p1 ∧ p1 ≤ 2147483647) (σ : ZS) (hJ : JR σ) : CT xs 120 147 [av 35 0 0, iv p0, iv p1] σ (fun v σ' => ∃ y, v = some (iv y) ∧ (True) ∧ JR σ') := by
  have hN := hJ.1.2.2.2
  unfold NB at hN
  exact (m_147 p0 p1 (by omega) (by omega) σ hJ.1.1  ).le (Nat.le_of_ble_eq_true rfl) (fun v σ' ⟨y, h1, h2, h3, h4⟩ => ⟨y, h1, trivial, hJ.1.fr h3 (fun t i k j q => by unfold MJ at q; unfold wj; omega), hJ.2.1.fr h3 (fun t i k j q => by unfold MJ at q; unfold rw1; omega), hJ.2.2.fr h3 (fun t i k j q => by unfold MJ at q; unfold rwx; omega)⟩)
theorem u_158 {xs : Nat × (Nat → Int32)} (p0 : Int) (p1 : Int) (hp0 : -2147483648 ≤ p0 ∧ p0 ≤ 2147483647) (hp1 : 0 ≤ p1 ∧ p1 ≤ 1) (σ : ZS) (hJ : JR σ) : CT xs 120 158 [av 35 0 0, iv p0, iv p1] σ (fun v σ' => ∃ y, v = some (iv y) ∧ (True) ∧ JR σ') := by
  have hN := hJ.1.2.2.2
  unfold NB at hN
  exact (m_158 p0 p1 (by omega) (by omega) σ hJ.1.1  ).le (Nat.le_of_ble_eq_true rfl) (fun v σ' ⟨y, h1, h2, h3, h4⟩ => ⟨y, h1, trivial, hJ.1.fr h3 (fun t i k j q => by unfold MJ at q; unfold wj; omega), hJ.2.1.fr h3 (fun t i k j q => by unfold MJ at q; unfold rw1; omega), hJ.2.2.fr h3 (fun t i k j q => by unfold MJ at q; unfold rwx; omega)⟩)
theorem u_163 {xs : Nat × (Nat → Int32)} (p0 : Int) (hp0 : -2147483648 ≤ p0 ∧ p0 ≤ 2147483647) (σ : ZS) (hJ : JR σ) : CT xs 120 163 [av 35 0 0, iv p0] σ (fun v σ' => ∃ y, v = some (iv y) ∧ (True) ∧ JR σ') := by
  have hN := hJ.1.2.2.2
  unfold NB at hN
  exact (m_163 p0 (by omega) σ hJ.1.1 hJ.1.2.1 ).le (Nat.le_of_ble_eq_true rfl) (fun v σ' ⟨y, h1, h2, h3, h4⟩ => ⟨y, h1, trivial, hJ.1.fr h3 (fun t i k j q => by unfold MT at q; unfold wj; omega), hJ.2.1.fr h3 (fun t i k j q => by unfold MT at q; unfold rw1; omega), hJ.2.2.fr h3 (fun t i k j q => by unfold MT at q; unfold rwx; omega)⟩)
theorem u_165 {xs : Nat × (Nat → Int32)} (p0 : Int) (p1 : Int) (hp0 : -2147483648 ≤ p0 ∧ p0 ≤ 2147483647) (hp1 : -2147483648 ≤ p1 ∧ p1 ≤ 2147483647) (σ : ZS) (hJ : JR σ) : CT xs 120 165 [av 35 0 0, iv p0, iv p1] σ (fun v σ' => ∃ y, v = some (iv y) ∧ (True) ∧ JR σ') := by
  have hN := hJ.1.2.2.2
  unfold NB at hN
  exact (m_165 p0 p1 (by omega) (by omega) σ hJ.1.1  ).le (Nat.le_of_ble_eq_true rfl) (fun v σ' ⟨y, h1, h2, h3, h4⟩ => ⟨y, h1, trivial, hJ.1.fr h3 (fun t i k j q => by unfold MJ at q; unfold wj; omega), hJ.2.1.fr h3 (fun t i k j q => by unfold MJ at q; unfold rw1; omega), hJ.2.2.fr h3 (fun t i k j q => by unfold MJ at q; unfold rwx; omega)⟩)
theorem u_166 {xs : Nat × (Nat → Int32)} (p0 : Int) (p1 : Int) (hp0 : -2147483648 ≤ p0 ∧ p0 ≤ 2147483647) (hp1 : -2147483648 ≤ p1 ∧ p1 ≤ 2147483647) (σ : ZS) (hJ : JR σ) : CT xs 120 166 [av 35 0 0, iv p0, iv p1] σ (fun v σ' => ∃ y, v = some (iv y) ∧ (True) ∧ JR σ') := by
  have hN := hJ.1.2.2.2
  unfold NB at hN
  exact (m_166 p0 p1 (by omega) (by omega) σ hJ.1.1  ).le (Nat.le_of_ble_eq_true rfl) (fun v σ' ⟨y, h1, h2, h3, h4⟩ => ⟨y, h1, trivial, hJ.1.fr h3 (fun _ _ _ _ q => q.elim), hJ.2.1.fr h3 (fun _ _ _ _ q => q.elim), hJ.2.2.fr h3 (fun _ _ _ _ q => q.elim)⟩)
theorem u_168 {xs : Nat × (Nat → Int32)} (p0 : Int) (p1 : Int) (p2 : Int) (p3 : Int) (p4 : Int) (hp0 : -2147483648 ≤ p0 ∧ p0 ≤ 2147483647) (hp1 : -2147483648 ≤ p1 ∧ p1 ≤ 2147483647) (hp2 : -2147483648 ≤ p2 ∧ p2 ≤ 2147483647) (hp3 : -2147483648 ≤ p3 ∧ p3 ≤ 2147483647) (hp4 : -2147483648 ≤ p4 ∧ p4 ≤ 2147483647) (σ : ZS) (hJ : JR σ) : CT xs 120 168 [av 35 0 0, iv p0, iv p1, iv p2, iv p3, iv p4] σ (fun v σ' => ∃ y, v = some (iv y) ∧ (True) ∧ JR σ') := by
  have hN := hJ.1.2.2.2
  unfold NB at hN
  exact (m_168 p0 p1 p2 p3 p4 (by omega) (by omega) (by omega) (by omega) (by omega) σ hJ.1.1  ).le (Nat.le_of_ble_eq_true rfl) (fun v σ' ⟨y, h1, h2, h3, h4⟩ => ⟨y, h1, trivial, hJ.1.fr h3 (fun t i k j q => by unfold MK at q; unfold wj; omega), hJ.2.1.fr h3 (fun t i k j q => by unfold MK at q; unfold rw1; omega), hJ.2.2.fr h3 (fun t i k j q => by unfold MK at q; unfold rwx; omega)⟩)
theorem u_169 {xs : Nat × (Nat → Int32)} (p0 : Int) (p1 : Int) (hp0 : -2147483648 ≤ p0 ∧ p0 ≤ 2147483647) (hp1 : -2147483648 ≤ p1 ∧ p1 ≤ 2147483647) (σ : ZS) (hJ : JR σ) : CT xs 120 169 [av 35 0 0, iv p0, iv p1] σ (fun v σ' => ∃ y, v = some (iv y) ∧ (True) ∧ JR σ') := by
  have hN := hJ.1.2.2.2
  unfold NB at hN
  exact (m_169 p0 p1 (by omega) (by omega) σ hJ.1.1  ).le (Nat.le_of_ble_eq_true rfl) (fun v σ' ⟨y, h1, h2, h3, h4⟩ => ⟨y, h1, trivial, hJ.1.fr h3 (fun t i k j q => by unfold MJ at q; unfold wj; omega), hJ.2.1.fr h3 (fun t i k j q => by unfold MJ at q; unfold rw1; omega), hJ.2.2.fr h3 (fun t i k j q => by unfold MJ at q; unfold rwx; omega)⟩)
theorem u_173 {xs : Nat × (Nat → Int32)} (p0 : Int) (hp0 : -2147483648 ≤ p0 ∧ p0 ≤ 2147483647) (σ : ZS) (hJ : JR σ) : CT xs 120 173 [av 35 0 0, iv p0] σ (fun v σ' => ∃ y, v = some (iv y) ∧ (True) ∧ JR σ') := by
  have hN := hJ.1.2.2.2
  unfold NB at hN
  exact (m_173 p0 (by omega) σ hJ.1.1  ).le (Nat.le_of_ble_eq_true rfl) (fun v σ' ⟨y, h1, h2, h3, h4⟩ => ⟨y, h1, trivial, hJ.1.fr h3 (fun t i k j q => by unfold MT at q; unfold wj; omega), hJ.2.1.fr h3 (fun t i k j q => by unfold MT at q; unfold rw1; omega), hJ.2.2.fr h3 (fun t i k j q => by unfold MT at q; unfold rwx; omega)⟩)
theorem u_174 {xs : Nat × (Nat → Int32)} (p0 : Int) (p1 : Int) (hp0 : -2147483648 ≤ p0 ∧ p0 ≤ 2147483647) (hp1 : -2147483648 ≤ p1 ∧ p1 ≤ 2147483647) (σ : ZS) (hJ : JR σ) : CT xs 120 174 [av 35 0 0, iv p0, iv p1] σ (fun v σ' => ∃ y, v = some (iv y) ∧ (True) ∧ JR σ') := by
  have hN := hJ.1.2.2.2
  unfold NB at hN
  exact (m_174 p0 p1 (by omega) (by omega) σ hJ.1.1  ).le (Nat.le_of_ble_eq_true rfl) (fun v σ' ⟨y, h1, h2, h3, h4⟩ => ⟨y, h1, trivial, hJ.1.fr h3 (fun _ _ _ _ q => q.elim), hJ.2.1.fr h3 (fun _ _ _ _ q => q.elim), hJ.2.2.fr h3 (fun _ _ _ _ q => q.elim)⟩)
theorem u_178 {xs : Nat × (Nat → Int32)} (p0 : Int) (hp0 : -2147483648 ≤ p0 ∧ p0 ≤ 2147483647) (σ : ZS) (hJ : JR σ) : CT xs 120 178 [av 35 0 0, iv p0] σ (fun v σ' => ∃ y, v = some (iv y) ∧ (True) ∧ JR σ') := by
  have hN := hJ.1.2.2.2
  unfold NB at hN
  exact (m_178 p0 (σ 36 0 0 634) (by omega) (by omega) σ hJ.1.1 hJ.1.2.1 rfl).le (Nat.le_of_ble_eq_true rfl) (fun v σ' ⟨y, h1, h2, h3, h4⟩ => ⟨y, h1, trivial, hJ.1.fq h3 (fun t i k j q q2 => by unfold MQm at q; unfold wj at q2; omega) h4.1, hJ.2.1.fr h3 (fun t i k j q => by unfold MQm at q; unfold rw1; omega), hJ.2.2.fr h3 (fun t i k j q => by unfold MQm at q; unfold rwx; omega)⟩)
theorem u_180 {xs : Nat × (Nat → Int32)} (p0 : Int) (p1 : Int) (p2 : Int) (hp0 : -2147483648 ≤ p0 ∧ p0 ≤ 2147483647) (hp1 : -2147483648 ≤ p1 ∧ p1 ≤ 2147483647) (hp2 : -2147483648 ≤ p2 ∧ p2 ≤ 2147483647) (σ : ZS) (hJ : JR σ) : CT xs 120 180 [av 35 0 0, iv p0, iv p1, iv p2] σ (fun v σ' => ∃ y, v = some (iv y) ∧ (True) ∧ JR σ') := by
  have hN := hJ.1.2.2.2
  unfold NB at hN
  exact (m_180 p0 p1 p2 (σ 36 0 0 634) (by omega) (by omega) (by omega) (by omega) σ hJ.1.1 hJ.1.2.1 rfl).le (Nat.le_of_ble_eq_true rfl) (fun v σ' ⟨y, h1, h2, h3, h4⟩ => ⟨y, h1, trivial, hJ.1.fm h3 (fun t i k j q q2 => by unfold MFm at q; unfold wj at q2; omega) h4.1, hJ.2.1.fm h3 (fun t i k j q q2 => by unfold MFm at q; unfold rw1 at q2; omega) h4.1, hJ.2.2.fr h3 (fun t i k j q => by unfold MFm at q; unfold rwx; omega)⟩)
theorem u_181 {xs : Nat × (Nat → Int32)} (p0 : Int) (p1 : Int) (hp0 : -2147483648 ≤ p0 ∧ p0 ≤ 2147483647) (hp1 : -2147483648 ≤ p1 ∧ p1 ≤ 2147483647) (σ : ZS) (hJ : JR σ) : CT xs 120 181 [av 35 0 0, iv p0, iv p1] σ (fun v σ' => ∃ y, v = some (iv y) ∧ (True) ∧ JR σ') := by
  have hN := hJ.1.2.2.2
  unfold NB at hN
  exact (m_181 p0 p1 (σ 36 0 0 634) (by omega) (by omega) (by omega) σ hJ.1.1 hJ.1.2.1 rfl).le (Nat.le_of_ble_eq_true rfl) (fun v σ' ⟨y, h1, h2, h3, h4⟩ => ⟨y, h1, trivial, hJ.1.fm h3 (fun t i k j q q2 => by unfold MFm at q; unfold wj at q2; omega) h4.1, hJ.2.1.fm h3 (fun t i k j q q2 => by unfold MFm at q; unfold rw1 at q2; omega) h4.1, hJ.2.2.fr h3 (fun t i k j q => by unfold MFm at q; unfold rwx; omega)⟩)
theorem u_182 {xs : Nat × (Nat → Int32)} (p0 : Int) (p1 : Int) (hp0 : -2147483648 ≤ p0 ∧ p0 ≤ 2147483647) (hp1 : -2147483648 ≤ p1 ∧ p1 ≤ 2147483647) (σ : ZS) (hJ : JR σ) : CT xs 120 182 [av 35 0 0, iv p0, iv p1] σ (fun v σ' => ∃ y, v = some (iv y) ∧ (True) ∧ JR σ') := by
  have hN := hJ.1.2.2.2
  unfold NB at hN
  exact (m_182 p0 p1 (σ 36 0 0 634) (by omega) (by omega) (by omega) σ hJ.1.1 hJ.1.2.1 rfl).le (Nat.le_of_ble_eq_true rfl) (fun v σ' ⟨y, h1, h2, h3, h4⟩ => ⟨y, h1, trivial, hJ.1.fm h3 (fun t i k j q q2 => by unfold MFm at q; unfold wj at q2; omega) h4.1, hJ.2.1.fm h3 (fun t i k j q q2 => by unfold MFm at q; unfold rw1 at q2; omega) h4.1, hJ.2.2.fr h3 (fun t i k j q => by unfold MFm at q; unfold rwx; omega)⟩)
theorem u_183 {xs : Nat × (Nat → Int32)} (p0 : Int) (p1 : Int) (hp0 : -2147483648 ≤ p0 ∧ p0 ≤ 2147483647) (hp1 : -2147483648 ≤ p1 ∧ p1 ≤ 2147483647) (σ : ZS) (hJ : JR σ) : CT xs 120 183 [av 35 0 0, iv p0, iv p1] σ (fun v σ' => ∃ y, v = some (iv y) ∧ (True) ∧ JR σ') := by
  have hN := hJ.1.2.2.2
  unfold NB at hN
  exact (m_183 p0 p1 (by omega) (by omega) σ hJ.1.1  ).le (Nat.le_of_ble_eq_true rfl) (fun v σ' ⟨y, h1, h2, h3, h4⟩ => ⟨y, h1, trivial, hJ.1.fr h3 (fun t i k j q => by unfold MJ at q; unfold wj; omega), hJ.2.1.fr h3 (fun t i k j q => by unfold MJ at q; unfold rw1; omega), hJ.2.2.fr h3 (fun t i k j q => by unfold MJ at q; unfold rwx; omega)⟩)
theorem u_186 {xs : Nat × (Nat → Int32)} (p0 : Int) (p1 : Int) (hp0 : -2147483648 ≤ p0 ∧ p0 ≤ 2147483647) (hp1 : -2147483648 ≤ p1 ∧ p1 ≤ 2147483647) (σ : ZS) (hJ : JR σ) : CT xs 120 186 [av 35 0 0, iv p0, iv p1] σ (fun v σ' => ∃ y, v = some (iv y) ∧ (True) ∧ JR σ') := by
  have hN := hJ.1.2.2.2
  unfold NB at hN
  exact (m_186 p0 p1 (by omega) (by omega) σ hJ.1.1  ).le (Nat.le_of_ble_eq_true rfl) (fun v σ' ⟨y, h1, h2, h3, h4⟩ => ⟨y, h1, trivial, hJ.1.fr h3 (fun _ _ _ _ q => q.elim), hJ.2.1.fr h3 (fun _ _ _ _ q => q.elim), hJ.2.2.fr h3 (fun _ _ _ _ q => q.elim)⟩)
theorem u_187 {xs : Nat × (Nat → Int32)} (p0 : Int) (p1 : Int) (p2 : Int) (hp0 : -2147483648 ≤ p0 ∧ p0 ≤ 2147483647) (hp1 : -2147483648 ≤ p1 ∧ p1 ≤ 2147483647) (hp2 : -2147483648 ≤ p2 ∧ p2 ≤ 2147483647) (σ : ZS) (hJ : JR σ) : CT xs 120 187 [av 35 0 0, iv p0, iv p1, iv p2] σ (fun v σ' => ∃ y, v = some (iv y) ∧ (True) ∧ JR σ') := by
  have hN := hJ.1.2.2.2
  unfold NB at hN
  exact (m_187 p0 p1 p2 (by omega) (by omega) (by omega) σ hJ.1.1  ).le (Nat.le_of_ble_eq_true rfl) (fun v σ' ⟨y, h1, h2, h3, h4⟩ => ⟨y, h1, trivial, hJ.1.fr h3 (fun _ _ _ _ q => q.elim), hJ.2.1.fr h3 (fun _ _ _ _ q => q.elim), hJ.2.2.fr h3 (fun _ _ _ _ q => q.elim)⟩)
theorem u_188 {xs : Nat × (Nat → Int32)} (p0 : Int) (hp0 : -2147483648 ≤ p0 ∧ p0 ≤ 2147483647) (σ : ZS) (hJ : JR σ) : CT xs 120 188 [av 35 0 0, iv p0] σ (fun v σ' => ∃ y, v = some (iv y) ∧ (True) ∧ JR σ') := by
  have hN := hJ.1.2.2.2
  unfold NB at hN
  exact (m_188 p0 (by omega) σ hJ.1.1  ).le (Nat.le_of_ble_eq_true rfl) (fun v σ' ⟨y, h1, h2, h3, h4⟩ => ⟨y, h1, trivial, hJ.1.fr h3 (fun _ _ _ _ q => q.elim), hJ.2.1.fr h3 (fun _ _ _ _ q => q.elim), hJ.2.2.fr h3 (fun _ _ _ _ q => q.elim)⟩)
