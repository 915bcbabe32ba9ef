/-! behind the constructors: the cells as the layout has them; what lies outside a cell's length says nothing -/
def σ0 : ZS := fun t _ k j =>
  if t = 0 then (if j = 7 then -1 else 0)
  else if t = 1 then (if j = 11 then 9 else 0)
  else if t = 3 then 20 else if t = 5 then 1000 else if t = 7 then -1
  else if t = 26 then (if j = 5 then -1 else 0)
  else if t = 35 then (if j = 16 then -1 else 0)
  else if t = 36 ∧ k = 0 then (if j < 25 then 20 else if 50 ≤ j ∧ j < 75 then 1000 else if 200 ≤ j ∧ j < 250 then -1 else if j = 638 then 9 else 0)
  else 0
def hR (h1 h2 : XH) : Prop := h1.length = h2.length ∧ ∀ (n : Nat) (c1 c2 : XC), h1[n]? = some c1 → h2[n]? = some c2 → c1.1 = c2.1 ∧ c1.2.1 = c2.2.1 ∧ ∀ j, j < c1.2.1 → c1.2.2 j = c2.2.2 j
def hEq (h1 h2 : XH) : Bool := h1.length == h2.length && (h1.zip h2).all (fun q => q.1.1 == q.2.1 && (q.1.2.1 == q.2.2.1 && (List.range q.1.2.1).all (fun j => decide (q.1.2.2 j = q.2.2.2 j))))
theorem hEq_R {h1 h2 : XH} (h : hEq h1 h2 = true) : hR h1 h2 := by
  simp only [hEq, Bool.and_eq_true, beq_iff_eq] at h
  refine ⟨h.1, fun n c1 c2 g1 g2 => ?_⟩
  have hz : (h1.zip h2)[n]? = some (c1, c2) := by rw [List.getElem?_zip_eq_some]; exact ⟨g1, g2⟩
  have h3 := List.all_eq_true.mp h.2 _ (List.mem_of_getElem? hz)
  simp only [Bool.and_eq_true, beq_iff_eq, List.all_eq_true, List.mem_range, decide_eq_true_eq] at h3
  exact h3
theorem hR.get {h1 h2 : XH} (h : hR h1 h2) {n : Nat} {c : XC} (hc : h1[n]? = some c) : ∃ f, h2[n]? = some (c.1, c.2.1, f) ∧ ∀ j, j < c.2.1 → c.2.2 j = f j := by
  have hl : n < h2.length := by rw [← h.1]; exact (List.getElem?_eq_some_iff.mp hc).1
  have h3 : h2[n]? = some h2[n] := List.getElem?_eq_getElem hl
  obtain ⟨g1, g2, g3⟩ := h.2 n c _ hc h3
  refine ⟨h2[n].2.2, ?_, g3⟩
  rw [h3, g1, g2]
theorem hR.set {h1 h2 : XH} (h : hR h1 h2) {n k l : Nat} {f g : Nat → Value} (hfg : ∀ j, j < l → f j = g j) : hR (h1.set n (k, l, f)) (h2.set n (k, l, g)) := by
  refine ⟨by simpa using h.1, fun q c1 c2 g1 g2 => ?_⟩
  rw [List.getElem?_set] at g1 g2
  by_cases hq : n = q
  · rw [if_pos hq] at g1 g2
    split at g1
    · split at g2
      · cases g1; cases g2; exact ⟨rfl, rfl, hfg⟩
      · cases g2
    · cases g1
  · rw [if_neg hq] at g1 g2
    exact h.2 q c1 c2 g1 g2
theorem hR.app {h1 h2 : XH} (h : hR h1 h2) {c : XC} : hR (h1 ++ [c]) (h2 ++ [c]) := by
  refine ⟨by simpa using h.1, fun q c1 c2 g1 g2 => ?_⟩
  by_cases hq : q < h1.length
  · rw [List.getElem?_append_left hq] at g1
    rw [List.getElem?_append_left (by rw [← h.1]; exact hq)] at g2
    exact h.2 q c1 c2 g1 g2
  · rw [List.getElem?_append_right (by omega)] at g1
    rw [List.getElem?_append_right (by rw [← h.1]; omega), ← h.1] at g2
    rw [g1] at g2
    cases g2
    exact ⟨rfl, rfl, fun _ _ => rfl⟩
theorem updV_R {f g : Nat → Value} {l k : Nat} {v : Value} (h : ∀ j, j < l → f j = g j) : ∀ j, j < l → updV f k v j = updV g k v j := by
  intro j hj
  simp only [updV]
  split
  · rfl
  · exact h j hj
theorem idx_lt {i : Int32} {n : Nat} (h : ¬ (i < 0 ∨ n ≤ i.toNatClampNeg)) : i.toNatClampNeg < n := Nat.not_le.mp (fun q => h (Or.inr q))
theorem xhp_R {xs : Nat × (Nat → Int32)} {ini : Bool} {o : Nat} {en : zE} {st st' : List Value} {h1 h2 h1' : XH} (hr : hR h1 h2) (ho : xhp xs ini o en st h1 = some (st', h1')) : ∃ h2', xhp xs ini o en st h2 = some (st', h2') ∧ hR h1' h2' := by
  obtain ⟨i1, a1, a2, cst, pos⟩ := en
  cases i1
  case getfield i =>
    simp only [xhp] at ho
    split at ho
    · split at ho
      · rename_i cc hcc
        split at ho
        · rename_i hc
          cases ho
          obtain ⟨f, g1, g2⟩ := hr.get hcc
          exact ⟨h2, by simp only [xhp, g1]; rw [if_pos hc, g2 _ hc.2], hr⟩
        · cases ho
      · cases ho
    · cases ho
  case putfield i =>
    simp only [xhp] at ho
    split at ho
    · split at ho
      · rename_i cc hcc
        split at ho
        · rename_i hc
          cases ho
          obtain ⟨f, g1, g2⟩ := hr.get hcc
          exact ⟨_, by simp only [xhp, g1]; rw [if_pos hc], hr.set (updV_R g2)⟩
        · cases ho
      · cases ho
    · cases ho
  case iaload =>
    simp only [xhp] at ho
    split at ho
    · split at ho
      · rename_i hc
        cases ho
        exact ⟨h2, by simp only [xhp]; rw [if_pos hc], hr⟩
      · cases ho
    · split at ho
      · rename_i cc hcc
        split at ho
        · rename_i hc
          cases ho
          obtain ⟨f, g1, g2⟩ := hr.get hcc
          exact ⟨h2, by simp only [xhp, g1]; rw [if_pos hc, g2 _ (idx_lt hc.2)], hr⟩
        · cases ho
      · cases ho
    · cases ho
  case baload =>
    simp only [xhp] at ho
    split at ho
    · split at ho
      · rename_i cc hcc
        split at ho
        · rename_i hc
          cases ho
          obtain ⟨f, g1, g2⟩ := hr.get hcc
          exact ⟨h2, by simp only [xhp, g1]; rw [if_pos hc, g2 _ (idx_lt hc.2)], hr⟩
        · cases ho
      · cases ho
    · cases ho
  case laload =>
    simp only [xhp] at ho
    split at ho
    · split at ho
      · rename_i cc hcc
        split at ho
        · rename_i hc
          cases ho
          obtain ⟨f, g1, g2⟩ := hr.get hcc
          exact ⟨h2, by simp only [xhp, g1]; rw [if_pos hc, g2 _ (idx_lt hc.2)], hr⟩
        · cases ho
      · cases ho
    · cases ho
  case aaload =>
    simp only [xhp] at ho
    split at ho
    · split at ho
      · rename_i cc hcc
        split at ho
        · rename_i hc
          cases ho
          obtain ⟨f, g1, g2⟩ := hr.get hcc
          exact ⟨h2, by simp only [xhp, g1]; rw [if_pos hc, g2 _ (idx_lt hc.2.2)], hr⟩
        · cases ho
      · cases ho
    · cases ho
  case iastore =>
    simp only [xhp] at ho
    split at ho
    · split at ho
      · rename_i cc hcc
        split at ho
        · rename_i hc
          cases ho
          obtain ⟨f, g1, g2⟩ := hr.get hcc
          exact ⟨_, by simp only [xhp, g1]; rw [if_pos hc], hr.set (updV_R g2)⟩
        · cases ho
      · cases ho
    · cases ho
  case bastore =>
    simp only [xhp] at ho
    split at ho
    · split at ho
      · rename_i cc hcc
        split at ho
        · rename_i hc
          cases ho
          obtain ⟨f, g1, g2⟩ := hr.get hcc
          exact ⟨_, by simp only [xhp, g1]; rw [if_pos hc], hr.set (updV_R g2)⟩
        · cases ho
      · cases ho
    · cases ho
  case lastore =>
    simp only [xhp] at ho
    split at ho
    · split at ho
      · rename_i cc hcc
        split at ho
        · rename_i hc
          cases ho
          obtain ⟨f, g1, g2⟩ := hr.get hcc
          exact ⟨_, by simp only [xhp, g1]; rw [if_pos hc], hr.set (updV_R g2)⟩
        · cases ho
      · cases ho
    · cases ho
  case aastore =>
    simp only [xhp] at ho
    split at ho
    · split at ho
      · rename_i cc hcc
        split at ho
        · rename_i dd hdd
          split at ho
          · rename_i hc
            cases ho
            obtain ⟨f, g1, g2⟩ := hr.get hcc
            obtain ⟨f', g1', g2'⟩ := hr.get hdd
            exact ⟨_, by simp only [xhp, g1, g1']; rw [if_pos hc], hr.set (updV_R g2)⟩
          · cases ho
        · cases ho
      · cases ho
    · cases ho
  case arraylength =>
    simp only [xhp] at ho
    split at ho
    · split at ho
      · cases ho
      · rename_i hc
        cases ho
        exact ⟨h2, by simp only [xhp]; rw [if_neg hc], hr⟩
    · split at ho
      · rename_i cc hcc
        split at ho
        · rename_i hc
          cases ho
          obtain ⟨f, g1, g2⟩ := hr.get hcc
          exact ⟨h2, by simp only [xhp, g1]; rw [if_pos hc], hr⟩
        · cases ho
      · cases ho
    · cases ho
  case new i =>
    simp only [xhp] at ho
    split at ho
    · rename_i cc hcc
      cases ho
      exact ⟨_, by simp only [xhp, hcc]; rw [hr.1], hr.app⟩
    · cases ho
  case newarray at_ =>
    simp only [xhp] at ho
    split at ho
    · split at ho
      · rename_i hc
        cases ho
        exact ⟨_, by simp only [xhp]; rw [if_pos hc, hr.1], hr.app⟩
      · cases ho
    · cases ho
  case anewarray i =>
    simp only [xhp] at ho
    split at ho
    · split at ho
      · rename_i hc
        cases ho
        exact ⟨_, by simp only [xhp]; rw [if_pos hc, hr.1], hr.app⟩
      · cases ho
    · cases ho
  case ldc i => simp only [xhp] at ho; cases ho; exact ⟨h2, rfl, hr⟩
  case ldc_w i => simp only [xhp] at ho; cases ho; exact ⟨h2, rfl, hr⟩
  case ldc2_w i => simp only [xhp] at ho; cases ho; exact ⟨h2, rfl, hr⟩
  all_goals (exact absurd ho (by simp [xhp]))
theorem xnat_R {k : Nat} {st st' : List Value} {h1 h2 h1' : XH} (hr : hR h1 h2) (ho : xnat k st h1 = some (st', h1')) : ∃ h2', xnat k st h2 = some (st', h2') ∧ hR h1' h2' := by
  unfold xnat at ho
  by_cases k5 : k = 5
  · subst k5
    rw [if_pos rfl] at ho
    split at ho
    · split at ho
      · rename_i hc
        cases ho
        exact ⟨h2, by simp [xnat, hc], hr⟩
      · cases ho
    · cases ho
  rw [if_neg k5] at ho
  by_cases k6 : k = 6
  · subst k6
    rw [if_pos rfl] at ho
    split at ho
    · rename_i n dp q1 sp q0 r
      split at ho
      · rename_i hc
        split at ho
        · rename_i cc hcc
          split at ho
          · rename_i dd hdd
            split at ho
            · rename_i hx hcp
              cases ho
              unfold xcpy at hcp
              split at hcp
              · rename_i hcond
                cases hcp
                obtain ⟨f, g1, g2⟩ := hr.get hcc
                obtain ⟨f', g1', g2'⟩ := hr.get hdd
                refine ⟨_, ?_, hr.set (g := va_cpy f f' sp.toNatClampNeg dp.toNatClampNeg n.toNatClampNeg) ?_⟩
                · unfold xnat
                  rw [if_neg (by decide), if_pos rfl]
                  simp only [if_pos hc, g1, g1']
                  unfold xcpy
                  rw [if_pos hcond]
                · intro j hj
                  simp only [va_cpy]
                  split
                  · exact g2 _ (by omega)
                  · exact g2' _ hj
              · cases hcp
            · cases ho
          · cases ho
        · cases ho
      · cases ho
    · cases ho
  rw [if_neg k6] at ho
  by_cases k7 : k = 7
  · subst k7
    rw [if_pos rfl] at ho
    split at ho
    · split at ho
      · rename_i hc
        cases ho
        exact ⟨h2, by simp [xnat, hc], hr⟩
      · cases ho
    · cases ho
  rw [if_neg k7] at ho
  by_cases k8 : k = 8
  · subst k8
    rw [if_pos rfl] at ho
    split at ho
    · split at ho
      · rename_i hc
        cases ho
        exact ⟨h2, by simp [xnat, hc], hr⟩
      · cases ho
    · cases ho
  rw [if_neg k8] at ho
  by_cases k9 : k = 9
  · subst k9
    rw [if_pos rfl] at ho
    split at ho
    · split at ho
      · rename_i hc
        cases ho
        exact ⟨h2, by simp [xnat, hc], hr⟩
      · cases ho
    · cases ho
  rw [if_neg k9] at ho
  cases ho
theorem xrt_hp {ret : Option FieldType} {xs : Nat × (Nat → Int32)} {ini : Bool} {o : Nat} {en : zE} {st : List Value} {h : XH} {v : Option Value} (hq : xrt ret en.1 st = some v) : xhp xs ini o en st h = none := by
  obtain ⟨i, r⟩ := en
  cases i <;> first | rfl | (exact absurd hq (by simp [xrt]))
def XCong (call : XF) : Prop := ∀ (m : Nat) (a : List Value) (h1 h2 : XH) (v : Option Value) (h1' : XH), hR h1 h2 → call m a h1 = some (v, h1') → ∃ h2', call m a h2 = some (v, h2') ∧ hR h1' h2'
theorem xrcv_R {k ci : Nat} {a : List Value} {h1 h2 : XH} (hr : hR h1 h2) (h : xrcv k ci a h1 = true) : xrcv k ci a h2 = true := by
  unfold xrcv at h ⊢
  split at h
  · rename_i hk
    rw [if_pos hk]
  · rename_i hk
    rw [if_neg hk]
    split at h
    · split at h
      · rename_i cc hcc
        obtain ⟨f, g1, g2⟩ := hr.get hcc
        simp only [g1]
        exact h
      · cases h
    · cases h
theorem xcall_R {call : XF} (hg : XCong call) {en : zE} {st st' : List Value} {h1 h2 h1' : XH} (hr : hR h1 h2) (ho : xcall call en st h1 = some (st', h1')) : ∃ h2', xcall call en st h2 = some (st', h2') ∧ hR h1' h2' := by
  simp only [xcall] at ho
  split at ho
  · rename_i hc
    split at ho
    · rename_i v hx hcl
      cases ho
      obtain ⟨h2', q1, q2⟩ := hg _ _ _ _ _ _ hr hcl
      refine ⟨h2', ?_, q2⟩
      simp only [xcall]
      rw [if_pos ⟨hc.1, hc.2.1, xrcv_R hr hc.2.2⟩, q1]
    · cases ho
  · cases ho
theorem xone_R {xs : Nat × (Nat → Int32)} {call : XF} (hg : XCong call) {m pc : Nat} {L : XL} {st : List Value} {h1 h2 : XH} (hr : hR h1 h2) : (∀ pc' L' st' h1', xone xs call m pc L st h1 = some (.inl (pc', L', st', h1')) → ∃ h2', xone xs call m pc L st h2 = some (.inl (pc', L', st', h2')) ∧ hR h1' h2') ∧ ∀ v h1', xone xs call m pc L st h1 = some (.inr (v, h1')) → ∃ h2', xone xs call m pc L st h2 = some (.inr (v, h2')) ∧ hR h1' h2' := by
  unfold xone
  cases hen : zc m pc with
  | none => exact ⟨fun _ _ _ _ q => (by cases q), fun _ _ q => (by cases q)⟩
  | some en =>
    dsimp only
    by_cases hinv : xinv en.1 = true
    · rw [if_pos hinv, if_pos hinv]
      by_cases h5 : en.2.2.1 < 5
      · rw [if_pos h5, if_pos h5]
        cases hx : xcall call en st h1 with
        | none => exact ⟨fun _ _ _ _ q => (by cases q), fun _ _ q => (by cases q)⟩
        | some r =>
          obtain ⟨st2, h3⟩ := r
          obtain ⟨h2', q1, q2⟩ := xcall_R hg hr hx
          rw [q1]
          exact ⟨fun _ _ _ _ q => by cases q; exact ⟨_, rfl, q2⟩, fun _ _ q => (by cases q)⟩
      · rw [if_neg h5, if_neg h5]
        cases hx : xnat en.2.2.1 st h1 with
        | none => exact ⟨fun _ _ _ _ q => (by cases q), fun _ _ q => (by cases q)⟩
        | some r =>
          obtain ⟨st2, h3⟩ := r
          obtain ⟨h2', q1, q2⟩ := xnat_R hr hx
          rw [q1]
          exact ⟨fun _ _ _ _ q => by cases q; exact ⟨_, rfl, q2⟩, fun _ _ q => (by cases q)⟩
    · rw [if_neg hinv, if_neg hinv]
      cases xop en.1 st with
      | some z => exact ⟨fun _ _ _ _ q => by cases q; exact ⟨_, rfl, hr⟩, fun _ _ q => (by cases q)⟩
      | none =>
        cases xld en.1 L with
        | some z => exact ⟨fun _ _ _ _ q => by cases q; exact ⟨_, rfl, hr⟩, fun _ _ q => (by cases q)⟩
        | none =>
          cases xst (zMl m) en.1 L st with
          | some z => obtain ⟨z1, z2⟩ := z; exact ⟨fun _ _ _ _ q => by cases q; exact ⟨_, rfl, hr⟩, fun _ _ q => (by cases q)⟩
          | none =>
            cases xbr en.1 en.2.1 pc st with
            | some z => obtain ⟨z1, z2⟩ := z; exact ⟨fun _ _ _ _ q => by cases q; exact ⟨_, rfl, hr⟩, fun _ _ q => (by cases q)⟩
            | none =>
              dsimp only
              cases hx : xhp xs ((zMrow m).2.1 == "<init>") (zMo m) en st h1 with
              | some r =>
                obtain ⟨st2, h3⟩ := r
                obtain ⟨h2', q1, q2⟩ := xhp_R hr hx
                rw [q1]
                exact ⟨fun _ _ _ _ q => by cases q; exact ⟨_, rfl, q2⟩, fun _ _ q => (by cases q)⟩
              | none =>
                dsimp only
                cases hq : xrt (zMr m) en.1 st with
                | none => exact ⟨fun _ _ _ _ q => (by cases q), fun _ _ q => (by cases q)⟩
                | some v =>
                  have hn : xhp xs ((zMrow m).2.1 == "<init>") (zMo m) en st h2 = none := xrt_hp hq
                  rw [hn]
                  exact ⟨fun _ _ _ _ q => (by cases q), fun _ _ q => by cases q; exact ⟨_, rfl, hr⟩⟩
theorem xgo_R {xs : Nat × (Nat → Int32)} {call : XF} (hg : XCong call) {m : Nat} : ∀ {n pc : Nat} {L : XL} {st : List Value} {h1 h2 : XH} {v : Option Value} {h1' : XH}, hR h1 h2 → xgo xs call m n pc L st h1 = some (v, h1') → ∃ h2', xgo xs call m n pc L st h2 = some (v, h2') ∧ hR h1' h2' := by
  intro n
  induction n with
  | zero => intro pc L st h1 h2 v h1' _ q; cases q
  | succ n ih =>
    intro pc L st h1 h2 v h1' hr q
    simp only [xgo] at q ⊢
    split at q
    · rename_i s' hs
      obtain ⟨pc', L', st', h3⟩ := s'
      obtain ⟨h4, q1, q2⟩ := (xone_R hg hr).1 _ _ _ _ hs
      rw [q1]
      exact ih q2 q
    · rename_i r hs
      cases q
      obtain ⟨h4, q1, q2⟩ := (xone_R hg hr).2 _ _ hs
      rw [q1]
      exact ⟨h4, rfl, q2⟩
    · cases q
theorem xrun_R {xs : Nat × (Nat → Int32)} {n : Nat} : ∀ d, XCong (xrun xs n d) := by
  intro d
  induction d with
  | zero => intro m a h1 h2 v h1' _ q; cases q
  | succ d ih =>
    intro m a h1 h2 v h1' hr q
    simp only [xrun] at q ⊢
    split at q
    · rename_i hl
      rw [if_pos hl]
      exact xgo_R ih hr q
    · cases q
