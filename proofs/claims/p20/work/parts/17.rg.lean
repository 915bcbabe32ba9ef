/-! what the cells hold: ranges, by program -/
def rgP (t j : Nat) (v : Int) : Prop := (t = 34 ∨ t = 41 ∨ t = 42 ∨ (-2147483648 ≤ v ∧ v ≤ 2147483647)) ∧ match t with
  | 0 => (3 ≤ j → j < 4 → 0 ≤ v ∧ v ≤ 1)
  | 1 => (5 ≤ j → j < 6 → 0 ≤ v ∧ v ≤ 5) ∧ (6 ≤ j → j < 7 → 0 ≤ v ∧ v ≤ 12) ∧ (7 ≤ j → j < 8 → 0 ≤ v ∧ v ≤ 6) ∧ (10 ≤ j → j < 11 → 0 ≤ v ∧ v ≤ 99) ∧ (11 ≤ j → j < 12 → 1 ≤ v ∧ v ≤ 9) ∧ (12 ≤ j → j < 13 → 0 ≤ v ∧ v ≤ 9999)
  | 8 => (0 ≤ j → j < 100 → 0 ≤ v ∧ v ≤ 1)
  | 9 => (0 ≤ j → j < 100 → 0 ≤ v ∧ v ≤ 1)
  | 11 => (0 ≤ j → j < 1 → 0 ≤ v ∧ v ≤ 3)
  | 12 => (0 ≤ j → j < 3 → 0 ≤ v ∧ v ≤ 24)
  | 13 => (0 ≤ j → j < 100 → 0 ≤ v ∧ v ≤ 1)
  | 17 => (0 ≤ j → j < 1 → 0 ≤ v ∧ v ≤ 96)
  | 18 => (0 ≤ j → j < 96 → -300 ≤ v ∧ v ≤ 300)
  | 22 => (0 ≤ j → j < 100 → 0 ≤ v ∧ v ≤ 1)
  | 23 => (2 ≤ j → j < 3 → 0 ≤ v ∧ v ≤ 96) ∧ (1 ≤ j → j < 2 → 0 ≤ v ∧ v ≤ 1)
  | 25 => (1 ≤ j → j < 2 → 0 ≤ v ∧ v ≤ 24) ∧ (9 ≤ j → j < 10 → 0 ≤ v ∧ v ≤ 1)
  | 26 => (0 ≤ j → j < 1 → 0 ≤ v ∧ v ≤ 24) ∧ (5 ≤ j → j < 6 → -1 ≤ v ∧ v ≤ 24)
  | 29 => (2 ≤ j → j < 3 → 0 ≤ v ∧ v ≤ 96)
  | 30 => (2 ≤ j → j < 3 → 0 ≤ v ∧ v ≤ 96) ∧ (1 ≤ j → j < 2 → 0 ≤ v ∧ v ≤ 1)
  | 33 => (2 ≤ j → j < 3 → 0 ≤ v ∧ v ≤ 96)
  | 35 => (3 ≤ j → j < 4 → 0 ≤ v ∧ v ≤ 1)
  | 36 => (250 ≤ j → j < 253 → 0 ≤ v ∧ v ≤ 24) ∧ (460 ≤ j → j < 472 → 0 ≤ v ∧ v ≤ 24) ∧ (568 ≤ j → j < 574 → 0 ≤ v ∧ v ≤ 24) ∧ (598 ≤ j → j < 604 → -1 ≤ v ∧ v ≤ 24) ∧ (633 ≤ j → j < 634 → 0 ≤ v ∧ v ≤ 3) ∧ (634 ≤ j → j < 635 → 0 ≤ v ∧ v ≤ 30000) ∧ (635 ≤ j → j < 637 → 0 ≤ v ∧ v ≤ 96) ∧ (637 ≤ j → j < 638 → 0 ≤ v ∧ v ≤ 99) ∧ (638 ≤ j → j < 639 → 0 ≤ v ∧ v ≤ 9) ∧ (639 ≤ j → j < 640 → 0 ≤ v ∧ v ≤ 9999) ∧ (640 ≤ j → j < 641 → 0 ≤ v ∧ v ≤ 5) ∧ (641 ≤ j → j < 642 → 0 ≤ v ∧ v ≤ 12) ∧ (642 ≤ j → j < 643 → 0 ≤ v ∧ v ≤ 6)
  | 37 => (0 ≤ j → j < 8 → 0 ≤ v ∧ v ≤ 2)
  | 38 => (0 ≤ j → j < 8 → 0 ≤ v ∧ v ≤ 3)
  | 39 => (0 ≤ j → j < 8 → 0 ≤ v ∧ v ≤ 96)
  | 40 => (0 ≤ j → j < 8 → -1 ≤ v ∧ v ≤ 11)
  | 44 => (0 ≤ j → j < 6 → 0 ≤ v ∧ v ≤ 120)
  | 45 => (0 ≤ j → j < 720 → -3 ≤ v ∧ v ≤ 49)
  | 53 => (0 ≤ j → j < 25 → 0 ≤ v ∧ v ≤ 24)
  | 57 => (0 ≤ j → j < 5 → 0 ≤ v ∧ v ≤ 120)
  | 58 => (0 ≤ j → j < 600 → -3 ≤ v ∧ v ≤ 49)
  | _ => True
def Inv (σ : ZS) : Prop := ∀ t i k j, vd t i k → rgP t j (σ t i k j)
theorem vd_0 : vd 0 0 0 := ⟨Nat.one_pos, Nat.one_pos⟩
theorem vd_1 {i : Nat} (h1 : i < 3) : vd 1 i 0 := ⟨h1, Nat.one_pos⟩
theorem vd_2 {i : Nat} (h1 : i < 3) : vd 2 i 0 := ⟨h1, Nat.one_pos⟩
theorem vd_3 {i : Nat} (h1 : i < 3) : vd 3 i 0 := ⟨h1, Nat.one_pos⟩
theorem vd_4 {i : Nat} (h1 : i < 3) : vd 4 i 0 := ⟨h1, Nat.one_pos⟩
theorem vd_5 {i : Nat} (h1 : i < 3) : vd 5 i 0 := ⟨h1, Nat.one_pos⟩
theorem vd_6 {i : Nat} (h1 : i < 3) : vd 6 i 0 := ⟨h1, Nat.one_pos⟩
theorem vd_7 {i : Nat} (h1 : i < 3) : vd 7 i 0 := ⟨h1, Nat.one_pos⟩
theorem vd_8 {i : Nat} (h1 : i < 3) : vd 8 i 0 := ⟨h1, Nat.one_pos⟩
theorem vd_9 {i : Nat} (h1 : i < 3) : vd 9 i 0 := ⟨h1, Nat.one_pos⟩
theorem vd_10 {i : Nat} (h1 : i < 3) : vd 10 i 0 := ⟨h1, Nat.one_pos⟩
theorem vd_11 {i : Nat} (h1 : i < 3) : vd 11 i 0 := ⟨h1, Nat.one_pos⟩
theorem vd_12 {i : Nat} (h1 : i < 3) : vd 12 i 0 := ⟨h1, Nat.one_pos⟩
theorem vd_13 {i : Nat} (h1 : i < 3) : vd 13 i 0 := ⟨h1, Nat.one_pos⟩
theorem vd_14 {i : Nat} (h1 : i < 3) : vd 14 i 0 := ⟨h1, Nat.one_pos⟩
theorem vd_15 {i : Nat} (h1 : i < 3) : vd 15 i 0 := ⟨h1, Nat.one_pos⟩
theorem vd_16 {i : Nat} (h1 : i < 3) : vd 16 i 0 := ⟨h1, Nat.one_pos⟩
theorem vd_17 {i k : Nat} (h1 : i < 3) (h2 : k < 2) : vd 17 i k := ⟨h1, h2⟩
theorem vd_18 {i k : Nat} (h1 : i < 3) (h2 : k < 2) : vd 18 i k := ⟨h1, h2⟩
theorem vd_19 {i : Nat} (h1 : i < 3) : vd 19 i 0 := ⟨h1, Nat.one_pos⟩
theorem vd_20 {i : Nat} (h1 : i < 3) : vd 20 i 0 := ⟨h1, Nat.one_pos⟩
theorem vd_21 {i : Nat} (h1 : i < 3) : vd 21 i 0 := ⟨h1, Nat.one_pos⟩
theorem vd_22 {i : Nat} (h1 : i < 3) : vd 22 i 0 := ⟨h1, Nat.one_pos⟩
theorem vd_23 {i k : Nat} (h1 : i < 3) (h2 : k < 5) : vd 23 i k := ⟨h1, h2⟩
theorem vd_24 {i k : Nat} (h1 : i < 3) (h2 : k < 5) : vd 24 i k := ⟨h1, h2⟩
theorem vd_25 {i k : Nat} (h1 : i < 3) (h2 : k < 12) : vd 25 i k := ⟨h1, h2⟩
theorem vd_26 {i k : Nat} (h1 : i < 3) (h2 : k < 6) : vd 26 i k := ⟨h1, h2⟩
theorem vd_27 : vd 27 0 0 := ⟨Nat.one_pos, Nat.one_pos⟩
theorem vd_28 : vd 28 0 0 := ⟨Nat.one_pos, Nat.one_pos⟩
theorem vd_29 : vd 29 0 0 := ⟨Nat.one_pos, Nat.one_pos⟩
theorem vd_30 : vd 30 0 0 := ⟨Nat.one_pos, Nat.one_pos⟩
theorem vd_31 : vd 31 0 0 := ⟨Nat.one_pos, Nat.one_pos⟩
theorem vd_32 : vd 32 0 0 := ⟨Nat.one_pos, Nat.one_pos⟩
theorem vd_33 {k : Nat} (h2 : k < 8) : vd 33 0 k := ⟨Nat.one_pos, h2⟩
theorem vd_34 {k : Nat} (h2 : k < 8) : vd 34 0 k := ⟨Nat.one_pos, h2⟩
theorem vd_35 : vd 35 0 0 := ⟨Nat.one_pos, Nat.one_pos⟩
theorem vd_36 {k : Nat} (h2 : k < 3) : vd 36 0 k := ⟨Nat.one_pos, h2⟩
theorem vd_37 : vd 37 0 0 := ⟨Nat.one_pos, Nat.one_pos⟩
theorem vd_38 : vd 38 0 0 := ⟨Nat.one_pos, Nat.one_pos⟩
theorem vd_39 : vd 39 0 0 := ⟨Nat.one_pos, Nat.one_pos⟩
theorem vd_40 : vd 40 0 0 := ⟨Nat.one_pos, Nat.one_pos⟩
theorem vd_41 : vd 41 0 0 := ⟨Nat.one_pos, Nat.one_pos⟩
theorem vd_42 : vd 42 0 0 := ⟨Nat.one_pos, Nat.one_pos⟩
theorem vd_43 : vd 43 0 0 := ⟨Nat.one_pos, Nat.one_pos⟩
theorem vd_44 : vd 44 0 0 := ⟨Nat.one_pos, Nat.one_pos⟩
theorem vd_45 : vd 45 0 0 := ⟨Nat.one_pos, Nat.one_pos⟩
theorem vd_46 : vd 46 0 0 := ⟨Nat.one_pos, Nat.one_pos⟩
theorem vd_47 : vd 47 0 0 := ⟨Nat.one_pos, Nat.one_pos⟩
theorem vd_48 : vd 48 0 0 := ⟨Nat.one_pos, Nat.one_pos⟩
theorem vd_49 : vd 49 0 0 := ⟨Nat.one_pos, Nat.one_pos⟩
theorem vd_50 : vd 50 0 0 := ⟨Nat.one_pos, Nat.one_pos⟩
theorem vd_51 : vd 51 0 0 := ⟨Nat.one_pos, Nat.one_pos⟩
theorem vd_52 : vd 52 0 0 := ⟨Nat.one_pos, Nat.one_pos⟩
theorem vd_53 : vd 53 0 0 := ⟨Nat.one_pos, Nat.one_pos⟩
theorem vd_54 : vd 54 0 0 := ⟨Nat.one_pos, Nat.one_pos⟩
theorem vd_55 : vd 55 0 0 := ⟨Nat.one_pos, Nat.one_pos⟩
theorem vd_56 : vd 56 0 0 := ⟨Nat.one_pos, Nat.one_pos⟩
theorem vd_57 : vd 57 0 0 := ⟨Nat.one_pos, Nat.one_pos⟩
theorem vd_58 : vd 58 0 0 := ⟨Nat.one_pos, Nat.one_pos⟩
theorem vd_59 : vd 59 0 0 := ⟨Nat.one_pos, Nat.one_pos⟩
theorem vd_60 : vd 60 0 0 := ⟨Nat.one_pos, Nat.one_pos⟩
theorem vd_61 : vd 61 0 0 := ⟨Nat.one_pos, Nat.one_pos⟩
def IF (M : Nat → Nat → Nat → Nat → Prop) (σ0 σ : ZS) : Prop := Inv σ ∧ ∀ t i k j, ¬ M t i k j → σ t i k j = σ0 t i k j
theorem IF.rf {M : Nat → Nat → Nat → Nat → Prop} {σ : ZS} (h : Inv σ) : IF M σ σ := ⟨h, fun _ _ _ _ _ => rfl⟩
theorem IF.up {M : Nat → Nat → Nat → Nat → Prop} {σ0 σ : ZS} {t i k j : Nat} {v : Int} (h : IF M σ0 σ) (hw : rgP t j v) (hM : M t i k j) : IF M σ0 (up σ t i k j v) := by
  refine ⟨fun t' i' k' j' hv => ?_, fun t' i' k' j' hn => ?_⟩
  · by_cases hq : t' = t ∧ i' = i ∧ k' = k ∧ j' = j
    · obtain ⟨rfl, rfl, rfl, rfl⟩ := hq
      rw [up_eq]
      exact hw
    · rw [up_ne hq]
      exact h.1 t' i' k' j' hv
  · rw [up_ne (fun q => hn (by rw [q.1, q.2.1, q.2.2.1, q.2.2.2]; exact hM))]
    exact h.2 t' i' k' j' hn
theorem IF.tr {M M' : Nat → Nat → Nat → Nat → Prop} {σ0 σ σ' : ZS} (h : IF M σ0 σ) (h' : IF M' σ σ') (hM : ∀ t i k j, M' t i k j → M t i k j) : IF M σ0 σ' :=
  ⟨h'.1, fun t i k j hn => (h'.2 t i k j (fun q => hn (hM _ _ _ _ q))).trans (h.2 t i k j hn)⟩
def MN (_ _ _ _ : Nat) : Prop := False
theorem MN_sub {M : Nat → Nat → Nat → Nat → Prop} : ∀ t i k j, MN t i k j → M t i k j := fun _ _ _ _ h => h.elim
section LW
variable {xs : Nat × (Nat → Int32)} {d m pc pc' : Nat} {L L' : XL} {st st' r : List Value} {Q : Option Value → ZS → Prop} {a1 a2 p : Nat} {c : Int} {t i k : Nat} {M : Nat → Nat → Nat → Nat → Prop} {σ0 : ZS} {lo hi : Int} {ln : Nat}
theorem W_norm {x : Int} (kk : ∀ z : Int, -2147483648 ≤ z → z ≤ 2147483647 → TJ xs (IF M σ0) d m pc L (iv z :: r) Q) : TJ xs (IF M σ0) d m pc L (iv x :: r) Q := by
  have h := kk (Int32.ofInt x).toInt (Int32.le_toInt _) (Int32.toInt_le _)
  rwa [iv_of] at h
theorem W_unk {ii : Instr} {x y : Int} (hz : zc m pc = some (ii, a1, a2, c, p)) (hu : xun ii = true) (hp' : pc + 1 = pc') (kk : ∀ z : Int, -2147483648 ≤ z → z ≤ 2147483647 → TJ xs (IF M σ0) d m pc' L (iv z :: r) Q) : TJ xs (IF M σ0) d m pc L (iv y :: iv x :: r) Q := by
  subst hp'
  exact T_unk hz hu (fun z => W_norm kk)
theorem W_unkD {ii : Instr} {x y : Int} (hz : zc m pc = some (ii, a1, a2, c, p)) (hu : ii = .idiv ∨ ii = .irem) (hy : 0 < y ∧ y ≤ 2147483647) (hp' : pc + 1 = pc') (kk : ∀ z : Int, -2147483648 ≤ z → z ≤ 2147483647 → TJ xs (IF M σ0) d m pc' L (iv z :: r) Q) : TJ xs (IF M σ0) d m pc L (iv y :: iv x :: r) Q := by
  subst hp'
  exact T_unkD hz hu (I_ne0 hy) (fun z => W_norm kk)
theorem W_unkI {ii : Instr} {x : Int} (hz : zc m pc = some (ii, a1, a2, c, p)) (hu : xunI ii = true) (hp' : pc + 1 = pc') (kk : ∀ z : Int, -2147483648 ≤ z → z ≤ 2147483647 → TJ xs (IF M σ0) d m pc' L (iv z :: r) Q) : TJ xs (IF M σ0) d m pc L (iv x :: r) Q := by
  subst hp'
  exact T_unkI hz hu (fun z => W_norm kk)
theorem W_getf {idx ci jj : Nat} (hz : zc m pc = some (.getfield idx, ci, jj, c, p)) (hs : slotI t ci jj = true) (hv : vd t i k) (hP : ∀ v, rgP t jj v → lo ≤ v ∧ v ≤ hi) (hp' : pc + 3 = pc') (kk : ∀ y, lo ≤ y → y ≤ hi → TJ xs (IF M σ0) d m pc' L (iv y :: r) Q) : TJ xs (IF M σ0) d m pc L (av t i k :: r) Q :=
  T_getf (Pp := fun v => lo ≤ v ∧ v ≤ hi) hz hs hv (fun σ hσ => hP _ (hσ.1 t i k jj hv)) hp' (fun y hy => kk y hy.1 hy.2)
theorem W_getfQ {idx ci jj : Nat} (hz : zc m pc = some (.getfield idx, ci, jj, c, p)) (hs : slotI t ci jj = true) (hv : vd t i k) (hP : ∀ v, rgP t jj v → lo ≤ v ∧ v ≤ hi) (hM : ¬ M t i k jj) (hp' : pc + 3 = pc') (kk : ∀ y, y = σ0 t i k jj → lo ≤ y → y ≤ hi → TJ xs (IF M σ0) d m pc' L (iv y :: r) Q) : TJ xs (IF M σ0) d m pc L (av t i k :: r) Q :=
  T_getf (Pp := fun v => v = σ0 t i k jj ∧ lo ≤ v ∧ v ≤ hi) hz hs hv (fun σ hσ => ⟨hσ.2 _ _ _ _ hM, hP _ (hσ.1 t i k jj hv)⟩) hp' (fun y hy => kk y hy.1 hy.2.1 hy.2.2)
theorem W_iald {x : Int} (hz : zc m pc = some (.iaload, a1, a2, c, p)) (hs : arrK t 12 = true) (hln : tln t = ln) (hv : vd t i k) (h0 : 0 ≤ x) (h1 : x < ln) (h2 : x ≤ 2147483647) (hP : ∀ v, rgP t x.toNat v → lo ≤ v ∧ v ≤ hi) (hp' : pc + 1 = pc') (kk : ∀ y, lo ≤ y → y ≤ hi → TJ xs (IF M σ0) d m pc' L (iv y :: r) Q) : TJ xs (IF M σ0) d m pc L (iv x :: av t i k :: r) Q :=
  T_iald (Pp := fun v => lo ≤ v ∧ v ≤ hi) hz hs hv h0 (by rw [hln]; exact h1) h2 (fun σ hσ => hP _ (hσ.1 t i k _ hv)) hp' (fun y hy => kk y hy.1 hy.2)
theorem W_ialdQ {x : Int} (hz : zc m pc = some (.iaload, a1, a2, c, p)) (hs : arrK t 12 = true) (hln : tln t = ln) (hv : vd t i k) (h0 : 0 ≤ x) (h1 : x < ln) (h2 : x ≤ 2147483647) (hP : ∀ v, rgP t x.toNat v → lo ≤ v ∧ v ≤ hi) (hM : ¬ M t i k x.toNat) (hp' : pc + 1 = pc') (kk : ∀ y, y = σ0 t i k x.toNat → lo ≤ y → y ≤ hi → TJ xs (IF M σ0) d m pc' L (iv y :: r) Q) : TJ xs (IF M σ0) d m pc L (iv x :: av t i k :: r) Q :=
  T_iald (Pp := fun v => v = σ0 t i k x.toNat ∧ lo ≤ v ∧ v ≤ hi) hz hs hv h0 (by rw [hln]; exact h1) h2 (fun σ hσ => ⟨hσ.2 _ _ _ _ hM, hP _ (hσ.1 t i k _ hv)⟩) hp' (fun y hy => kk y hy.1 hy.2.1 hy.2.2)
theorem W_bald {x : Int} (hz : zc m pc = some (.baload, a1, a2, c, p)) (hs : arrK t 14 = true) (hln : tln t = ln) (hv : vd t i k) (h0 : 0 ≤ x) (h1 : x < ln) (h2 : x ≤ 2147483647) (hP : ∀ v, rgP t x.toNat v → lo ≤ v ∧ v ≤ hi) (hp' : pc + 1 = pc') (kk : ∀ y, lo ≤ y → y ≤ hi → TJ xs (IF M σ0) d m pc' L (iv y :: r) Q) : TJ xs (IF M σ0) d m pc L (iv x :: av t i k :: r) Q :=
  T_bald (Pp := fun v => lo ≤ v ∧ v ≤ hi) hz hs hv h0 (by rw [hln]; exact h1) h2 (fun σ hσ => hP _ (hσ.1 t i k _ hv)) hp' (fun y hy => kk y hy.1 hy.2)
theorem W_lald {x : Int} (hz : zc m pc = some (.laload, a1, a2, c, p)) (hs : arrK t 13 = true) (hln : tln t = ln) (hv : vd t i k) (h0 : 0 ≤ x) (h1 : x < ln) (h2 : x ≤ 2147483647) (hp' : pc + 1 = pc') (kk : ∀ y, TJ xs (IF M σ0) d m pc' L (jv y :: r) Q) : TJ xs (IF M σ0) d m pc L (iv x :: av t i k :: r) Q :=
  T_laldE hz hs hv h0 (by rw [hln]; exact h1) h2 hp' (fun y σ hJ => kk y σ hJ.1)
theorem W_aald {x : Int} {t' im i' : Nat} (hz : zc m pc = some (.aaload, a1, a2, c, p)) (hs : arrQ t t' im = true) (hi' : ixi im i = i') (hln : tln t = ln) (hv : vd t i k) (h0 : 0 ≤ x) (h1 : x < ln) (h2 : x ≤ 2147483647) (hp' : pc + 1 = pc') (kk : TJ xs (IF M σ0) d m pc' L (av t' i' x.toNat :: r) Q) : TJ xs (IF M σ0) d m pc L (iv x :: av t i k :: r) Q :=
  T_aald hz hs hi' hv h0 (by rw [hln]; exact h1) h2 hp' kk
theorem W_putf {idx ci jj : Nat} {v : Int} (hz : zc m pc = some (.putfield idx, ci, jj, c, p)) (hs : slotI t ci jj = true) (hf : zFt ci jj = 0) (hv : vd t i k) (hw : rgP t jj v) (hM : M t i k jj) (hp' : pc + 3 = pc') (kk : TJ xs (IF M σ0) d m pc' L r Q) : TJ xs (IF M σ0) d m pc L (iv v :: av t i k :: r) Q := T_putf hz hs hf hv (fun σ hσ => hσ.up hw hM) hp' kk
theorem W_putz {idx ci jj : Nat} {v : Int} (hz : zc m pc = some (.putfield idx, ci, jj, c, p)) (hs : slotI t ci jj = true) (hf : zFt ci jj = 1) (hb : v = 0 ∨ v = 1) (hv : vd t i k) (hw : rgP t jj v) (hM : M t i k jj) (hp' : pc + 3 = pc') (kk : TJ xs (IF M σ0) d m pc' L r Q) : TJ xs (IF M σ0) d m pc L (iv v :: av t i k :: r) Q := T_putz hz hs hf hb hv (fun σ hσ => hσ.up hw hM) hp' kk
theorem W_iast {x v : Int} (hz : zc m pc = some (.iastore, a1, a2, c, p)) (hs : arrK t 12 = true) (hln : tln t = ln) (hv : vd t i k) (h0 : 0 ≤ x) (h1 : x < ln) (h2 : x ≤ 2147483647) (hw : rgP t x.toNat v) (hM : M t i k x.toNat) (hp' : pc + 1 = pc') (kk : TJ xs (IF M σ0) d m pc' L r Q) : TJ xs (IF M σ0) d m pc L (iv v :: iv x :: av t i k :: r) Q := T_iast hz hs hv h0 (by rw [hln]; exact h1) h2 (fun σ hσ => hσ.up hw hM) hp' kk
theorem W_bast {x v : Int} (hz : zc m pc = some (.bastore, a1, a2, c, p)) (hs : arrK t 14 = true) (hln : tln t = ln) (hb : v = 0 ∨ v = 1) (hv : vd t i k) (h0 : 0 ≤ x) (h1 : x < ln) (h2 : x ≤ 2147483647) (hw : rgP t x.toNat v) (hM : M t i k x.toNat) (hp' : pc + 1 = pc') (kk : TJ xs (IF M σ0) d m pc' L r Q) : TJ xs (IF M σ0) d m pc L (iv v :: iv x :: av t i k :: r) Q := T_bast hz hs hb hv h0 (by rw [hln]; exact h1) h2 (fun σ hσ => hσ.up hw hM) hp' kk
/-- calls: what the callee says, and that it changes no more than the caller may -/
theorem W_calli {ii : Instr} {cal mode d' : Nat} {N : Int} {a : List Value} {M' : Nat → Nat → Nat → Nat → Prop} {P : Int → Prop} (hz : zc m pc = some (ii, cal, mode, N, p)) (hi : xinv ii = true) (hm : Nat.blt mode 5 = true) (ha : (st.take N.toNat).reverse = a) (hr : st.drop N.toNat = r) (hl : Nat.ble N.toNat st.length = true) (hcat : Nat.ble (r.map fun v => v.category).sum 8 = true) (hv : xrv mode (zMo cal) a) (hC : ∀ σ, IF M σ0 σ → CT xs d' cal a σ (fun v σ' => ∃ y, v = some (iv y) ∧ P y ∧ IF M' σ σ')) (hd : d' ≤ d) (hM : ∀ t i k j, M' t i k j → M t i k j) (hp' : pc + 3 = pc') (kk : ∀ y, P y → TJ xs (IF M σ0) d m pc' L (iv y :: r) Q) : TJ xs (IF M σ0) d m pc L st Q :=
  T_calli (K := fun y σ' => P y ∧ IF M σ0 σ') hz hi hm ha hr hl hcat hv (fun σ hσ => (hC σ hσ).le hd (fun v σ' ⟨y, h1, h2, h3⟩ => ⟨y, h1, h2, hσ.tr h3 hM⟩)) hp' (fun y σ hσ => kk y hσ.1 σ hσ.2)
theorem W_callv {ii : Instr} {cal mode d' : Nat} {N : Int} {a : List Value} {M' : Nat → Nat → Nat → Nat → Prop} (hz : zc m pc = some (ii, cal, mode, N, p)) (hi : xinv ii = true) (hm : Nat.blt mode 5 = true) (ha : (st.take N.toNat).reverse = a) (hr : st.drop N.toNat = r) (hl : Nat.ble N.toNat st.length = true) (hcat : Nat.ble (r.map fun v => v.category).sum 8 = true) (hv : xrv mode (zMo cal) a) (hC : ∀ σ, IF M σ0 σ → CT xs d' cal a σ (fun v σ' => v = none ∧ IF M' σ σ')) (hd : d' ≤ d) (hM : ∀ t i k j, M' t i k j → M t i k j) (hp' : pc + 3 = pc') (kk : TJ xs (IF M σ0) d m pc' L r Q) : TJ xs (IF M σ0) d m pc L st Q :=
  T_callv (J' := IF M σ0) hz hi hm ha hr hl hcat hv (fun σ hσ => (hC σ hσ).le hd (fun v σ' ⟨h1, h3⟩ => ⟨h1, hσ.tr h3 hM⟩)) hp' kk
theorem W_iret {x : Int} {P : Int → Prop} (hz : zc m pc = some (.ireturn, a1, a2, c, p)) (hr : zMr m = some .int) (hP : P x) : TJ xs (IF M σ0) d m pc L [iv x] (fun v σ' => ∃ y, v = some (iv y) ∧ P y ∧ IF M σ0 σ') := T_iret hz hr (fun σ hσ => ⟨x, rfl, hP, hσ⟩)
theorem W_zret {x : Int} {P : Int → Prop} (hz : zc m pc = some (.ireturn, a1, a2, c, p)) (hr : zMr m = some .boolean) (hb : x = 0 ∨ x = 1) (hP : P x) : TJ xs (IF M σ0) d m pc L [iv x] (fun v σ' => ∃ y, v = some (iv y) ∧ P y ∧ IF M σ0 σ') := T_zret hz hr hb (fun σ hσ => ⟨x, rfl, hP, hσ⟩)
theorem W_vret (hz : zc m pc = some (.return_, a1, a2, c, p)) (hr : zMr m = none) : TJ xs (IF M σ0) d m pc L [] (fun v σ' => v = none ∧ IF M σ0 σ') := T_vret hz hr (fun σ hσ => ⟨rfl, hσ⟩)
/-- a contract out of a walk -/
theorem W_ct {nL : Nat} {a : List Value} {σ : ZS} (hn : zMl m = nL) (hl : Nat.ble (lg_sl a).length nL = true) (hL : xent 0 a = L) (hI : Inv σ) (h : TJ xs (IF M σ) d m 0 L [] Q) : CT xs (d + 1) m a σ Q := CT.of hn (by simpa using hl) hL (h σ (IF.rf hI))
end LW
theorem T_loop1 (mu : Int → Nat) (P G : Int → Prop) (h : ∀ a, P a → (∀ a', P a' → mu a' < mu a → G a') → G a) : ∀ a, P a → G a := T_loop mu P G h
theorem T_loop2 (mu : Int → Int → Nat) (P G : Int → Int → Prop) (h : ∀ a b, P a b → (∀ a' b', P a' b' → mu a' b' < mu a b → G a' b') → G a b) : ∀ a b, P a b → G a b := fun a b hP => T_loop (α := Int × Int) (fun q => mu q.1 q.2) (fun q => P q.1 q.2) (fun q => G q.1 q.2) (fun q hq ih => h q.1 q.2 hq (fun a' b' h1 h2 => ih (a', b') h1 h2)) (a, b) hP
theorem T_loop3 (mu : Int → Int → Int → Nat) (P G : Int → Int → Int → Prop) (h : ∀ a b e, P a b e → (∀ a' b' e', P a' b' e' → mu a' b' e' < mu a b e → G a' b' e') → G a b e) : ∀ a b e, P a b e → G a b e := fun a b e hP => T_loop (α := Int × Int × Int) (fun q => mu q.1 q.2.1 q.2.2) (fun q => P q.1 q.2.1 q.2.2) (fun q => G q.1 q.2.1 q.2.2) (fun q hq ih => h q.1 q.2.1 q.2.2 hq (fun a' b' e' h1 h2 => ih (a', b', e') h1 h2)) (a, b, e) hP
theorem T_loop4 (mu : Int → Int → Int → Int → Nat) (P G : Int → Int → Int → Int → Prop) (h : ∀ a b e f, P a b e f → (∀ a' b' e' f', P a' b' e' f' → mu a' b' e' f' < mu a b e f → G a' b' e' f') → G a b e f) : ∀ a b e f, P a b e f → G a b e f := fun a b e f hP => T_loop (α := Int × Int × Int × Int) (fun q => mu q.1 q.2.1 q.2.2.1 q.2.2.2) (fun q => P q.1 q.2.1 q.2.2.1 q.2.2.2) (fun q => G q.1 q.2.1 q.2.2.1 q.2.2.2) (fun q hq ih => h q.1 q.2.1 q.2.2.1 q.2.2.2 hq (fun a' b' e' f' h1 h2 => ih (a', b', e', f') h1 h2)) (a, b, e, f) hP
