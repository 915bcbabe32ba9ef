/-! the law's first steps, both constructors, decided once -/
theorem xhp_xs {xs0 xs : Nat × (Nat → Int32)} (h0 : xs0.1 = 0) {ini : Bool} {o : Nat} {en : zE} {st : List Value} {h : XH} {r : List Value × XH} (ho : xhp xs0 ini o en st h = some r) : xhp xs ini o en st h = some r := by
  obtain ⟨i1, a1, a2, cst, pos⟩ := en
  cases i1
  case iaload =>
    simp only [xhp] at ho ⊢
    split at ho
    · rw [h0] at ho
      rw [if_neg (fun q => q (Or.inr (Nat.zero_le _)))] at ho
      cases ho
    · exact ho
    · cases ho
  case arraylength =>
    simp only [xhp] at ho ⊢
    split at ho
    · rw [if_pos h0] at ho
      cases ho
    · exact ho
    · cases ho
  all_goals exact ho
theorem xone_xs {xs0 xs : Nat × (Nat → Int32)} (h0 : xs0.1 = 0) {c1 c2 : XF} (hs : xSub c1 c2) {m pc : Nat} {L : XL} {st : List Value} {h : XH} {s' : XS} (ho : xone xs0 c1 m pc L st h = some (.inl s')) : xone xs c2 m pc L st h = some (.inl s') := by
  have ho := xone_sub hs ho
  unfold xone at ho ⊢
  cases hen : zc m pc with
  | none => rw [hen] at ho; cases ho
  | some en =>
    rw [hen] at ho
    dsimp only at ho ⊢
    by_cases hinv : xinv en.1 = true
    · rw [if_pos hinv] at ho ⊢
      exact ho
    · rw [if_neg hinv] at ho ⊢
      cases h1 : xop en.1 st with
      | some z => rw [h1] at ho; exact ho
      | none =>
        rw [h1] at ho
        dsimp only at ho ⊢
        cases h2 : xld en.1 L with
        | some z => rw [h2] at ho; exact ho
        | none =>
          rw [h2] at ho
          dsimp only at ho ⊢
          cases h3 : xst (zMl m) en.1 L st with
          | some z => rw [h3] at ho; exact ho
          | none =>
            rw [h3] at ho
            dsimp only at ho ⊢
            cases h4 : xbr en.1 en.2.1 pc st with
            | some z => rw [h4] at ho; exact ho
            | none =>
              rw [h4] at ho
              dsimp only at ho ⊢
              cases h5 : xhp xs0 ((zMrow m).2.1 == "<init>") (zMo m) en st h with
              | some z => rw [h5] at ho; rw [xhp_xs h0 h5]; exact ho
              | none =>
                rw [h5] at ho
                dsimp only at ho
                split at ho
                · cases ho
                · cases ho
theorem xout_xs {xs0 xs : Nat × (Nat → Int32)} {c1 c2 : XF} {m pc : Nat} {L : XL} {st : List Value} {h : XH} {r : XR} (ho : xone xs0 c1 m pc L st h = some (.inr r)) : xone xs c2 m pc L st h = some (.inr r) := by
  unfold xone at ho ⊢
  cases hen : zc m pc with
  | none => rw [hen] at ho; cases ho
  | some en =>
    rw [hen] at ho
    dsimp only at ho ⊢
    by_cases hinv : xinv en.1 = true
    · rw [if_pos hinv] at ho
      exfalso
      split at ho
      · split at ho <;> cases ho
      · split at ho <;> cases ho
    · rw [if_neg hinv] at ho ⊢
      cases h1 : xop en.1 st with
      | some z => rw [h1] at ho; cases ho
      | none =>
        rw [h1] at ho
        dsimp only at ho ⊢
        cases h2 : xld en.1 L with
        | some z => rw [h2] at ho; cases ho
        | none =>
          rw [h2] at ho
          dsimp only at ho ⊢
          cases h3 : xst (zMl m) en.1 L st with
          | some z => rw [h3] at ho; cases ho
          | none =>
            rw [h3] at ho
            dsimp only at ho ⊢
            cases h4 : xbr en.1 en.2.1 pc st with
            | some z => rw [h4] at ho; cases ho
            | none =>
              rw [h4] at ho
              dsimp only at ho ⊢
              cases h5 : xhp xs0 ((zMrow m).2.1 == "<init>") (zMo m) en st h with
              | some z => rw [h5] at ho; cases ho
              | none =>
                rw [h5] at ho
                dsimp only at ho
                split at ho
                · rename_i v hv
                  cases ho
                  rw [xrt_hp hv]
                · cases ho
theorem xgo_xs {xs0 xs : Nat × (Nat → Int32)} (h0 : xs0.1 = 0) {c1 c2 : XF} (hs : xSub c1 c2) {m : Nat} : ∀ {n n' pc : Nat} {L : XL} {st : List Value} {h : XH} {r : XR}, n ≤ n' → xgo xs0 c1 m n pc L st h = some r → xgo xs c2 m n' pc L st h = some r := by
  intro n
  induction n with
  | zero => intro n' pc L st h r _ q; cases q
  | succ n ih =>
    intro n' pc L st h r hn q
    obtain ⟨n', rfl⟩ : ∃ k, n' = k + 1 := ⟨n' - 1, by omega⟩
    simp only [xgo] at q ⊢
    split at q
    · rename_i s' hs'
      rw [xone_xs h0 hs hs']
      exact ih (by omega) q
    · rename_i r' hs'
      rw [xout_xs hs']
      exact q
    · cases q
theorem xrun_xs {xs0 xs : Nat × (Nat → Int32)} (h0 : xs0.1 = 0) {n n' : Nat} (hn : n ≤ n') : ∀ {d d' : Nat}, d ≤ d' → xSub (xrun xs0 n d) (xrun xs n' d') := by
  intro d
  induction d with
  | zero => intro d' _ m a h r q; cases q
  | succ d ih =>
    intro d' hd m a h r q
    obtain ⟨d', rfl⟩ : ∃ k, d' = k + 1 := ⟨d' - 1, by omega⟩
    simp only [xrun] at q ⊢
    split at q
    · rename_i hl
      rw [if_pos hl]
      exact xgo_xs h0 (ih (by omega)) hn q
    · cases q
def xupto (xs : Nat × (Nat → Int32)) (call : XF) (m stop : Nat) : Nat → Nat → XL → List Value → XH → Option (XL × List Value × XH)
  | 0, _, _, _, _ => none
  | n + 1, pc, L, st, h => if pc = stop then some (L, st, h) else match xone xs call m pc L st h with
    | some (.inl s) => xupto xs call m stop n s.1 s.2.1 s.2.2.1 s.2.2.2
    | _ => none
theorem xupto_go {xs0 xs : Nat × (Nat → Int32)} (h0 : xs0.1 = 0) {c1 c2 : XF} (hs : xSub c1 c2) {m stop : Nat} {L' : XL} {st' : List Value} {h' : XH} {k : Nat} {r : XR} : ∀ {n pc : Nat} {L : XL} {st : List Value} {h : XH}, xupto xs0 c1 m stop n pc L st h = some (L', st', h') → xgo xs c2 m k stop L' st' h' = some r → xgo xs c2 m (k + n) pc L st h = some r := by
  intro n
  induction n with
  | zero => intro pc L st h q; cases q
  | succ n ih =>
    intro pc L st h q hk
    simp only [xupto] at q
    split at q
    · rename_i hp
      cases q
      rw [hp]
      exact xgo_sub (fun _ _ _ _ q => q) (by omega) hk
    · split at q
      · rename_i s' hs'
        show xgo xs c2 m ((k + n) + 1) pc L st h = some r
        simp only [xgo]
        rw [xone_xs h0 hs hs']
        exact ih q hk
      · cases q
abbrev zL0 : XL := [(0, .ref 0), (1, .ref 1), (2, .ref 180), (3, .int 0)]
def zPre : Bool := match xupto (0, fun _ => 0) (xrun (0, fun _ => 0) 4000 6) zLawI 18 12 0 [(0, .ref 0)] [] [] with
  | some (L, st, h) => decide (L = zL0) && (st.isEmpty && hEq h (hp σ0))
  | none => false
theorem zPre_ok : zPre = true := by decide +kernel
theorem zsl_R {h1 h2 : XH} (h : hR h1 h2) : zsl h2 = zsl h1 := by
  unfold zsl
  congr 1
  apply List.ext_getElem?
  intro n
  rw [List.getElem?_map, List.getElem?_map]
  cases h3 : h1[n]? with
  | none =>
    have : h2[n]? = none := List.getElem?_eq_none (by rw [← h.1]; exact List.getElem?_eq_none_iff.mp h3)
    rw [this]
  | some cc =>
    obtain ⟨f, g1, -⟩ := h.get h3
    rw [g1]
    rfl
theorem zsl_hp (σ : ZS) : zsl (hp σ) ≤ 7302250 := by
  have : (hp σ).map (fun c => c.2.1) = (List.range zNC).map (fun n => tln (loc n).1) := by
    unfold hp
    rw [List.map_map]
    rfl
  unfold zsl
  rw [this]
  decide +kernel
theorem hR.symm {h1 h2 : XH} (h : hR h1 h2) : hR h2 h1 := ⟨h.1.symm, fun n c1 c2 g1 g2 => by
  obtain ⟨q1, q2, q3⟩ := h.2 n c2 c1 g2 g1
  exact ⟨q1.symm, q2.symm, fun j hj => (q3 j (by rw [q2]; exact hj)).symm⟩⟩
/-- the law's run out of its run behind the constructors -/
theorem z_pre {xs : Nat × (Nat → Int32)} {d : Nat} (hd : 6 ≤ d) (h : TT xs d zLawI 18 zL0 [] σ0 (fun v _ => v = some (.int 1))) : ∃ (n : Nat) (h' : XH), xgo xs (xrun xs n d) zLawI n 0 [(0, .ref 0)] [] [] = some (some (.int 1), h') ∧ h'.length ≤ 600000 ∧ zsl h' ≤ 7302250 := by
  obtain ⟨n, v, σ', h1, rfl⟩ := h
  have hp0 := zPre_ok
  unfold zPre at hp0
  split at hp0
  · rename_i L st hh hu
    simp only [Bool.and_eq_true, decide_eq_true_eq] at hp0
    obtain ⟨rfl, h2, h3⟩ := hp0
    obtain rfl : st = [] := List.isEmpty_iff.mp h2
    have hR0 := (hEq_R h3).symm
    have h4 : xgo xs (xrun xs (n + 4000) d) zLawI n 18 zL0 [] (hp σ0) = some (some (.int 1), hp σ') := xgo_sub (xrun_sub (by omega) (Nat.le_refl d)) (Nat.le_refl n) h1
    obtain ⟨h', h5, h6⟩ := xgo_R (xrun_R d) hR0 h4
    have h7 := xupto_go (xs := xs) (xs0 := (0, fun _ => 0)) rfl (xrun_xs (xs := xs) (n := 4000) (n' := n + 4000) rfl (by omega) hd) hu h5
    refine ⟨n + 4000, h', xgo_sub (fun _ _ _ _ q => q) (by omega) h7, ?_, ?_⟩
    · rw [← h6.1]
      show (hp σ').length ≤ 600000
      unfold hp
      rw [List.length_map, List.length_range]
      decide
    · rw [zsl_R h6]
      exact zsl_hp σ'
  · cases hp0
