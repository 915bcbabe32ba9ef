/-! more rules for walks: what a place holds is learned, ways that meet again, rows as functions -/
section LW48
variable {xs : Nat × (Nat → Int32)} {d m pc pc' : Nat} {L : XL} {st r : List Value} {Q : Option Value → ZS → Prop} {J J' : ZS → Prop} {a1 a2 p t i k j : Nat} {c lo hi : Int}
theorem G_learn {J2 : Int → ZS → Prop} (hv : vd t i k) (hI : ∀ σ', J σ' → Inv σ') (hP : ∀ v, rgP t j v → lo ≤ v ∧ v ≤ hi) (hJ2 : ∀ σ' y, J σ' → σ' t i k j = y → J2 y σ') (kk : ∀ y, lo ≤ y → y ≤ hi → TJ xs (J2 y) d m pc L st Q) : TJ xs J d m pc L st Q := fun σ hJ =>
  kk _ (hP _ (hI σ hJ t i k j hv)).1 (hP _ (hI σ hJ t i k j hv)).2 σ (hJ2 σ _ hJ rfl)
theorem G_learnG {G : Int → Prop} {J2 : Int → ZS → Prop} (hv : vd t i k) (hI : ∀ σ', J σ' → Inv σ') (hP : ∀ v, rgP t j v → lo ≤ v ∧ v ≤ hi) (hG : ∀ σ', J σ' → G (σ' t i k j)) (hJ2 : ∀ σ' y, J σ' → σ' t i k j = y → J2 y σ') (kk : ∀ y, lo ≤ y → y ≤ hi → G y → TJ xs (J2 y) d m pc L st Q) : TJ xs J d m pc L st Q := fun σ hJ =>
  kk _ (hP _ (hI σ hJ t i k j hv)).1 (hP _ (hI σ hJ t i k j hv)).2 (hG σ hJ) σ (hJ2 σ _ hJ rfl)
theorem G_pure {P : Prop} (hP : ∀ σ', J σ' → P) (kk : P → TJ xs J d m pc L st Q) : TJ xs J d m pc L st Q := fun σ hJ => kk (hP σ hJ) σ hJ
theorem T_join0 (G : (Option Value → ZS → Prop) → Prop) (h1 : G Q) (h2 : G Q → TJ xs J d m pc L st Q) : TJ xs J d m pc L st Q := h2 h1
theorem T_joinP (P : Prop) (G : (Option Value → ZS → Prop) → Prop) (h1 : P → G Q) (h2 : (P → G Q) → TJ xs J d m pc L st Q) : TJ xs J d m pc L st Q := h2 h1
theorem T_join1 (P : Int → Prop) (G : Int → (Option Value → ZS → Prop) → Prop) (h1 : ∀ a, P a → G a Q) (h2 : (∀ a, P a → G a Q) → TJ xs J d m pc L st Q) : TJ xs J d m pc L st Q := h2 h1
theorem T_join2 (P : Int → Int → Prop) (G : Int → Int → (Option Value → ZS → Prop) → Prop) (h1 : ∀ a b, P a b → G a b Q) (h2 : (∀ a b, P a b → G a b Q) → TJ xs J d m pc L st Q) : TJ xs J d m pc L st Q := h2 h1
theorem T_join3 (P : Int → Int → Int → Prop) (G : Int → Int → Int → (Option Value → ZS → Prop) → Prop) (h1 : ∀ a b e, P a b e → G a b e Q) (h2 : (∀ a b e, P a b e → G a b e Q) → TJ xs J d m pc L st Q) : TJ xs J d m pc L st Q := h2 h1
theorem T_icmp_eqS {x y off : Int} (hz : zc m pc = some (.if_icmp .eq off, a1, a2, c, p)) (he : x = y) (kt : TJ xs J d m a1 L r Q) : TJ xs J d m pc L (iv y :: iv x :: r) Q := by
  subst he
  exact T_br hz rfl rfl rfl (fun _ => rfl) (t := a1) (by simp only [xbr]; rw [if_pos trivial]) kt
theorem X_ladd {x y : Int} : xop .ladd (jv y :: jv x :: r) = some (jv (x + y) :: r) := by
  simp only [xop, ← Int64.ofInt_add]
end LW48
theorem gh_mk (P : Int → Prop) {x y : Int} (e : x = y) (h : P y) : P x := e ▸ h
theorem gf_mk (P : (Nat → Int) → Prop) {f g : Nat → Int} (e : f = g) (h : P g) : P f := e ▸ h
theorem up_row {σ : ZS} {t i k j t' i' k' : Nat} {v : Int} (h : ¬ (t' = t ∧ i' = i ∧ k' = k)) : up σ t i k j v t' i' k' = σ t' i' k' := up_oth t' i' k' h
theorem up_self {σ : ZS} {t i k j : Nat} {v : Int} : up σ t i k j v t i k = fun j' => if j' = j then v else σ t i k j' := by
  funext j'
  unfold up
  by_cases h : j' = j
  · rw [if_pos ⟨rfl, rfl, rfl, h⟩, if_pos h]
  · rw [if_neg (fun q => h q.2.2.2), if_neg h]
/-! sums over the first places of a row -/
def csum (w : Int → Int) (f : Nat → Int) : Nat → Int
  | 0 => 0
  | n + 1 => csum w f n + w (f n)
theorem csum_hi {w : Int → Int} {f : Nat → Int} {j : Nat} {v : Int} : ∀ {n : Nat}, n ≤ j → csum w (fun q => if q = j then v else f q) n = csum w f n
  | 0, _ => rfl
  | n + 1, h => by
    simp only [csum]
    rw [csum_hi (by omega), if_neg (by omega)]
theorem csum_mid {w : Int → Int} {f : Nat → Int} {j : Nat} {v : Int} : ∀ {n : Nat}, j < n → csum w (fun q => if q = j then v else f q) n = csum w f n - w (f j) + w v
  | 0, h => absurd h (Nat.not_lt_zero _)
  | n + 1, h => by
    simp only [csum]
    rcases Nat.lt_or_ge j n with h1 | h1
    · rw [csum_mid h1, if_neg (by omega)]
      omega
    · obtain rfl : j = n := by omega
      rw [csum_hi (Nat.le_refl _), if_pos rfl]
      omega
theorem csum_nn {w : Int → Int} (hw : ∀ v, 0 ≤ w v) {f : Nat → Int} : ∀ n, 0 ≤ csum w f n
  | 0 => Int.le_refl 0
  | n + 1 => by
    have h1 := csum_nn hw (f := f) n
    have h2 := hw (f n)
    simp only [csum]
    omega
theorem csum_le {w : Int → Int} (hw : ∀ v, w v ≤ 1) {f : Nat → Int} : ∀ n : Nat, csum w f n ≤ n
  | 0 => Int.le_refl 0
  | n + 1 => by
    have h1 := csum_le hw (f := f) n
    have h2 := hw (f n)
    simp only [csum]
    omega
theorem csum_one {w : Int → Int} (hw : ∀ v, w v ≤ 1) {f : Nat → Int} {j : Nat} : ∀ {n : Nat}, j < n → csum w f n ≤ (n : Int) - 1 + w (f j)
  | 0, h => absurd h (Nat.not_lt_zero _)
  | n + 1, h => by
    simp only [csum]
    rcases Nat.lt_or_ge j n with h1 | h1
    · have h2 := csum_one hw (f := f) h1
      have h3 := hw (f n)
      omega
    · obtain rfl : j = n := by omega
      have h2 := csum_le hw (f := f) j
      omega
theorem csum_ge {w : Int → Int} (hw : ∀ v, 0 ≤ w v) {f : Nat → Int} {j : Nat} : ∀ {n : Nat}, j < n → w (f j) ≤ csum w f n
  | 0, h => absurd h (Nat.not_lt_zero _)
  | n + 1, h => by
    simp only [csum]
    rcases Nat.lt_or_ge j n with h1 | h1
    · have h2 := csum_ge hw (f := f) h1
      have h3 := hw (f n)
      omega
    · obtain rfl : j = n := by omega
      have h2 := csum_nn hw (f := f) j
      omega
def bnd (f : Nat → Int) (n : Nat) (lo hi : Int) : Prop := ∀ j, j < n → lo ≤ f j ∧ f j ≤ hi
/-! programs of laws: their heights -/
def stp (c : Int) : Int := if 0 ≤ c then 1 else if c = -1 then 0 else -1
def hgt (f : Nat → Int) (b : Nat) : Nat → Int
  | 0 => 0
  | n + 1 => hgt f b n + stp (f (b + n))
def okc (f : Nat → Int) (b n : Nat) : Prop := ∀ i, i < n → (0 ≤ f (b + i) → hgt f b i ≤ 58) ∧ (f (b + i) = -1 → 1 ≤ hgt f b i) ∧ (f (b + i) < -1 → 2 ≤ hgt f b i)
theorem hgt_eq {f g : Nat → Int} {b : Nat} : ∀ {n : Nat}, (∀ i, i < n → f (b + i) = g (b + i)) → hgt f b n = hgt g b n
  | 0, _ => rfl
  | n + 1, h => by
    simp only [hgt]
    rw [hgt_eq (fun i hi => h i (by omega)), h n (by omega)]
theorem okc_eq {f g : Nat → Int} {b n : Nat} (h : ∀ i, i < n → f (b + i) = g (b + i)) (hg : okc g b n) : okc f b n := by
  intro i hi
  rw [h i hi, hgt_eq (fun i' h' => h i' (by omega))]
  exact hg i hi
def WFg (n : Int) (lc cd : Nat → Int) : Prop := ∀ l : Int, 0 ≤ l → l < n → okc cd (120 * l).toNat (lc l.toNat).toNat
def WF (σ : ZS) : Prop := WFg (σ 36 0 0 640) (σ 44 0 0) (σ 45 0 0)
def WK (σ : ZS) : Prop := WFg (σ 36 0 2 640) (σ 57 0 0) (σ 58 0 0)
theorem WF.fr {σ σ' : ZS} (h : WF σ) (h44 : ∀ j, σ' 44 0 0 j = σ 44 0 0 j) (h45 : ∀ j, σ' 45 0 0 j = σ 45 0 0 j) (h640 : σ' 36 0 0 640 = σ 36 0 0 640) : WF σ' := by
  unfold WF at h ⊢
  rw [show σ' 44 0 0 = σ 44 0 0 from funext h44, show σ' 45 0 0 = σ 45 0 0 from funext h45, h640]
  exact h
theorem WK.fr {σ σ' : ZS} (h : WK σ) (h57 : ∀ j, σ' 57 0 0 j = σ 57 0 0 j) (h58 : ∀ j, σ' 58 0 0 j = σ 58 0 0 j) (h640 : σ' 36 0 2 640 = σ 36 0 2 640) : WK σ' := by
  unfold WK at h ⊢
  rw [show σ' 57 0 0 = σ 57 0 0 from funext h57, show σ' 58 0 0 = σ 58 0 0 from funext h58, h640]
  exact h
theorem WF.at {σ : ZS} (h : WF σ) {l x : Int} (h0 : 0 ≤ l) (h1 : l < σ 36 0 0 640) (h2 : 0 ≤ x) (h3 : x < σ 44 0 0 l.toNat) :
    (0 ≤ σ 45 0 0 (Int.toNat (120 * l + x)) → hgt (σ 45 0 0) (Int.toNat (120 * l)) (Int.toNat x) ≤ 58 ∧ hgt (σ 45 0 0) (Int.toNat (120 * l)) (Int.toNat (x + 1)) = hgt (σ 45 0 0) (Int.toNat (120 * l)) (Int.toNat x) + 1) ∧
    (σ 45 0 0 (Int.toNat (120 * l + x)) = -1 → 1 ≤ hgt (σ 45 0 0) (Int.toNat (120 * l)) (Int.toNat x) ∧ hgt (σ 45 0 0) (Int.toNat (120 * l)) (Int.toNat (x + 1)) = hgt (σ 45 0 0) (Int.toNat (120 * l)) (Int.toNat x)) ∧
    (σ 45 0 0 (Int.toNat (120 * l + x)) < -1 → 2 ≤ hgt (σ 45 0 0) (Int.toNat (120 * l)) (Int.toNat x) ∧ hgt (σ 45 0 0) (Int.toNat (120 * l)) (Int.toNat (x + 1)) = hgt (σ 45 0 0) (Int.toNat (120 * l)) (Int.toNat x) - 1) := by
  have h4 := h l h0 h1 x.toNat (by omega)
  have e1 : Int.toNat (120 * l + x) = (120 * l).toNat + x.toNat := by omega
  have e2 : Int.toNat (x + 1) = x.toNat + 1 := by omega
  rw [e1, e2]
  simp only [hgt]
  generalize σ 45 0 0 ((120 * l).toNat + x.toNat) = w at h4 ⊢
  generalize hgt (σ 45 0 0) (120 * l).toNat x.toNat = g at h4 ⊢
  refine ⟨fun q => ⟨h4.1 q, ?_⟩, fun q => ⟨h4.2.1 q, ?_⟩, fun q => ⟨h4.2.2 q, ?_⟩⟩
  · unfold stp; rw [if_pos q]
  · unfold stp; rw [if_neg (by omega), if_pos q]; omega
  · unfold stp; rw [if_neg (by omega), if_neg (by omega)]; omega
theorem J_toInt {x : Int} (h1 : -9223372036854775808 ≤ x) (h2 : x ≤ 9223372036854775807) : (Int64.ofInt x).toInt = x := Int64.toInt_ofInt_of_le (by simpa using h1) (by omega)
theorem T_lcmpE {xs : Nat × (Nat → Int32)} {d m pc : Nat} {L : XL} {r : List Value} {Q : Option Value → ZS → Prop} {J : ZS → Prop} {a1 a2 p : Nat} {c x y : Int} (hz : zc m pc = some (.lcmp, a1, a2, c, p)) (hx : -9223372036854775808 ≤ x ∧ x ≤ 9223372036854775807) (hy : -9223372036854775808 ≤ y ∧ y ≤ 9223372036854775807) (k : ∀ z : Int, -1 ≤ z → z ≤ 1 → (z = 0 ↔ x = y) → (z < 0 ↔ x < y) → TJ xs J d m (pc + 1) L (iv z :: r) Q) : TJ xs J d m pc L (jv y :: jv x :: r) Q := by
  refine T_op hz rfl (st' := .int (lg_cmp (Int64.ofInt x) (Int64.ofInt y)) :: r) rfl rfl ?_
  have ex := J_toInt hx.1 hx.2
  have ey := J_toInt hy.1 hy.2
  unfold lg_cmp
  split
  · rename_i hlt
    rw [gt_iff_lt, Int64.lt_iff_toInt_lt, ex, ey] at hlt
    exact k 1 (by omega) (by omega) ⟨fun q => by omega, fun q => by omega⟩ ⟨fun q => by omega, fun q => by omega⟩
  · rename_i hnl
    rw [gt_iff_lt, Int64.lt_iff_toInt_lt, ex, ey] at hnl
    split
    · rename_i he
      rw [← Int64.toInt_inj, ex, ey] at he
      exact k 0 (by omega) (by omega) ⟨fun _ => he, fun _ => rfl⟩ ⟨fun q => by omega, fun q => by omega⟩
    · rename_i he
      rw [← Int64.toInt_inj, ex, ey] at he
      exact k (-1) (by omega) (by omega) ⟨fun q => by omega, fun q => absurd q he⟩ ⟨fun q => by omega, fun q => by omega⟩
theorem off_d {x d : Int} : ∀ {l : List (Int × Int)}, (∀ q, q ∈ l → ¬ x = q.1) → Op.lookupswitch.offset l d x = d
  | [], _ => rfl
  | (a, o) :: r, h => by
    rw [Op.lookupswitch.offset_cons, if_neg (fun q => h (a, o) List.mem_cons_self q.symm)]
    exact off_d (fun q hq => h q (List.mem_cons_of_mem _ hq))
/-- a switch by values with no case for it -/
theorem T_lso {xs : Nat × (Nat → Int32)} {J : ZS → Prop} {d m pc t a1 a2 p : Nat} {L : XL} {r : List Value} {Q : Option Value → ZS → Prop} {c x dflt : Int} {ps : Array (Int × Int)} (hz : zc m pc = some (.lookupswitch dflt ps, a1, a2, c, p)) (hx : -2147483648 ≤ x ∧ x ≤ 2147483647) (hn : ∀ q, q ∈ ps.toList → ¬ x = q.1) (ht : (pc : Int) + dflt = t) (kk : TJ xs J d m t L r Q) : TJ xs J d m pc L (iv x :: r) Q := by
  refine T_br (t := t) hz rfl rfl rfl (fun _ => rfl) ?_ kk
  simp only [xbr]
  rw [I_toInt hx.1 hx.2, off_d hn, if_pos (by omega)]
  rw [show ((pc : Int) + dflt).toNat = t from by omega]
