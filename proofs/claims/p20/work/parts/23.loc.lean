/-! locals that a walk no longer needs may be forgotten -/
def xndB : XL → Bool
  | [] => true
  | (j, _) :: t => t.all (fun q => !(Nat.beq q.1 j)) && xndB t
def xnd (L : XL) : Prop := L.Pairwise (fun a b => ¬ a.1 = b.1)
theorem xnd_of {L : XL} (h : xndB L = true) : xnd L := by
  induction L with
  | nil => exact List.Pairwise.nil
  | cons q t ih =>
    obtain ⟨j, v⟩ := q
    simp only [xndB, Bool.and_eq_true, List.all_eq_true] at h
    refine List.Pairwise.cons (fun b hb => ?_) (ih h.2)
    have h2 := h.1 b hb
    intro he
    dsimp only at he
    rw [← he] at h2
    simp at h2
theorem xgetM {L : XL} {j : Nat} {w : Value} (h : xget L j = some w) : (j, w) ∈ L := by
  induction L with
  | nil => cases h
  | cons q t ih =>
    obtain ⟨a, u⟩ := q
    simp only [xget] at h
    cases hb : (a == j) with
    | true =>
      rw [hb] at h
      cases h
      rw [eq_of_beq hb]
      exact List.mem_cons_self
    | false =>
      rw [hb] at h
      exact List.mem_cons_of_mem _ (ih h)
theorem xget_f1 {L : XL} {j : Nat} {w : Value} {K : Nat × Value → Bool} (h : xget L j = some w) (hk : K (j, w) = true) : xget (L.filter K) j = some w := by
  induction L with
  | nil => cases h
  | cons q t ih =>
    obtain ⟨a, u⟩ := q
    simp only [xget] at h
    cases hb : (a == j) with
    | true =>
      rw [hb] at h
      cases h
      have : a = j := eq_of_beq hb
      subst this
      rw [List.filter_cons_of_pos hk]
      simp only [xget, hb, cond_true]
    | false =>
      rw [hb] at h
      cases hq : K (a, u) with
      | true =>
        rw [List.filter_cons_of_pos hq]
        simp only [xget, hb, cond_false]
        exact ih h
      | false =>
        rw [List.filter_cons_of_neg (by rw [hq]; decide)]
        exact ih h
theorem xget_f2 {L : XL} {j : Nat} {w : Value} {K : Nat × Value → Bool} (hn : xnd L) (h : xget (L.filter K) j = some w) : xget L j = some w ∧ K (j, w) = true := by
  induction L with
  | nil => cases h
  | cons q t ih =>
    obtain ⟨a, u⟩ := q
    obtain ⟨h1, h2⟩ := List.pairwise_cons.mp hn
    simp only [xget]
    cases hq : K (a, u) with
    | true =>
      rw [List.filter_cons_of_pos hq] at h
      simp only [xget] at h
      cases hb : (a == j) with
      | true =>
        rw [hb] at h
        cases h
        have : a = j := eq_of_beq hb
        subst this
        exact ⟨rfl, hq⟩
      | false =>
        rw [hb] at h
        exact ih h2 h
    | false =>
      rw [List.filter_cons_of_neg (by rw [hq]; decide)] at h
      obtain ⟨g1, g2⟩ := ih h2 h
      cases hb : (a == j) with
      | true => exact absurd (eq_of_beq hb) (h1 _ (xgetM g1))
      | false => exact ⟨g1, g2⟩
theorem xget_fk {L : XL} {i j : Nat} (hj : ¬ j = i) : xget (L.filter (fun q => !(q.1 == i))) j = xget L j := by
  induction L with
  | nil => rfl
  | cons q t ih =>
    obtain ⟨a, u⟩ := q
    cases hb : (a == i) with
    | true =>
      rw [List.filter_cons_of_neg (by simp [hb]), ih]
      have : (a == j) = false := by
        rw [beq_eq_false_iff_ne]
        intro he
        exact hj (he.symm.trans (eq_of_beq hb))
      simp only [xget, this, cond_false]
    | false =>
      rw [List.filter_cons_of_pos (by simp [hb])]
      simp only [xget, ih]
theorem xget_ins {L : XL} {i j : Nat} {v : Value} : xget (xins i v L) j = if j = i then some v else xget L j := by
  induction L with
  | nil =>
    simp only [xins, xget]
    by_cases hj : j = i
    · subst hj; simp
    · rw [if_neg hj, beq_eq_false_iff_ne.mpr (fun q => hj q.symm)]; rfl
  | cons q t ih =>
    obtain ⟨a, u⟩ := q
    simp only [xins]
    cases hb : (a == i) with
    | true =>
      have ha : a = i := eq_of_beq hb
      subst ha
      simp only [cond_true, xget]
      by_cases hj : j = a
      · subst hj; simp
      · rw [if_neg hj, beq_eq_false_iff_ne.mpr (fun q => hj q.symm)]
        exact xget_fk hj
    | false =>
      simp only [cond_false, xget]
      cases hc : (a == j) with
      | true =>
        have ha : a = j := eq_of_beq hc
        subst ha
        rw [if_neg (beq_eq_false_iff_ne.mp hb)]
        rfl
      | false => exact ih
theorem xinsM {L : XL} {i : Nat} {v : Value} {b : Nat × Value} (h : b ∈ xins i v L) : b = (i, v) ∨ b ∈ L := by
  induction L with
  | nil => exact Or.inl (List.mem_singleton.mp h)
  | cons q t ih =>
    obtain ⟨a, u⟩ := q
    simp only [xins] at h
    cases hb : (a == i) with
    | true =>
      rw [hb] at h
      rcases List.mem_cons.mp h with h | h
      · exact Or.inl h
      · exact Or.inr (List.mem_cons_of_mem _ (List.mem_filter.mp h).1)
    | false =>
      rw [hb] at h
      rcases List.mem_cons.mp h with h | h
      · exact Or.inr (by rw [h]; exact List.mem_cons_self)
      · exact (ih h).imp id (List.mem_cons_of_mem _)
theorem xnd_ins {L : XL} {i : Nat} {v : Value} (hn : xnd L) : xnd (xins i v L) := by
  induction L with
  | nil => exact List.pairwise_singleton _ _
  | cons q t ih =>
    obtain ⟨a, u⟩ := q
    obtain ⟨h1, h2⟩ := List.pairwise_cons.mp hn
    simp only [xins]
    cases hb : (a == i) with
    | true =>
      refine List.Pairwise.cons (fun b hq => ?_) (h2.filter _)
      have h3 := (List.mem_filter.mp hq).2
      intro he
      dsimp only at he
      rw [← he] at h3
      simp at h3
    | false =>
      refine List.Pairwise.cons (fun b hq => ?_) (ih h2)
      rcases xinsM hq with h | h
      · rw [h]; exact beq_eq_false_iff_ne.mp hb
      · exact h1 b h
def xsb (L L' : XL) : Prop := xnd L ∧ ∀ k v, xget L k = some v → xget L' k = some v
theorem xsb_put {L L' : XL} {i : Nat} {v : Value} (h : xsb L L') : xsb (xput i v L) (xput i v L') := by
  refine ⟨xnd_ins (h.1.filter _), fun k w hk => ?_⟩
  unfold xput at hk ⊢
  rw [xget_ins] at hk ⊢
  split
  · next he => rw [if_pos he] at hk; exact hk
  · next he =>
    rw [if_neg he] at hk
    obtain ⟨g1, g2⟩ := xget_f2 h.1 hk
    exact xget_f1 (h.2 _ _ g1) g2
theorem xsb_app {L E : XL} (h : xndB L = true) : xsb L (L ++ E) := by
  refine ⟨xnd_of h, fun k v hk => ?_⟩
  clear h
  induction L with
  | nil => cases hk
  | cons q t ih =>
    obtain ⟨a, u⟩ := q
    simp only [List.cons_append, xget] at hk ⊢
    cases hb : (a == k) with
    | true => rw [hb] at hk; exact hk
    | false => rw [hb] at hk; exact ih hk
theorem bind_sb {L L' : XL} {k : Nat} {f : Value → Option Value} {v : Value} (h : xsb L L') (hb : (xget L k).bind f = some v) : (xget L' k).bind f = some v := by
  cases hk : xget L k with
  | none => rw [hk] at hb; cases hb
  | some w => rw [hk] at hb; rw [h.2 _ _ hk]; exact hb
theorem xld_sb {i : Instr} {L L' : XL} {v : Value} (h : xsb L L') (hv : xld i L = some v) : xld i L' = some v := by
  unfold xld at hv ⊢
  split at hv
  all_goals first | exact bind_sb h hv | cases hv
theorem xld_non {i : Instr} {L : XL} {v : Value} (hv : xld i L = some v) : (∀ n L st, xst n i L st = none) ∧ (∀ t pc st, xbr i t pc st = none) ∧ (∀ xs b q a1 a2 c p st h, xhp xs b q (i, a1, a2, c, p) st h = none) ∧ (∀ r st, xrt r i st = none) := by
  unfold xld at hv
  split at hv
  all_goals first | cases hv; done | exact ⟨fun _ _ _ => rfl, fun _ _ _ => rfl, fun _ _ _ _ _ _ _ _ _ => rfl, fun _ _ => rfl⟩
theorem xst_non {i : Instr} {n : Nat} {L : XL} {st : List Value} {q : XL × List Value} (hv : xst n i L st = some q) : (∀ t pc st, xbr i t pc st = none) ∧ (∀ xs b q a1 a2 c p st h, xhp xs b q (i, a1, a2, c, p) st h = none) ∧ (∀ r st, xrt r i st = none) := by
  unfold xst at hv
  split at hv
  all_goals first | cases hv; done | exact ⟨fun _ _ _ => rfl, fun _ _ _ _ _ _ _ _ _ => rfl, fun _ _ => rfl⟩
theorem xstI_sb {n k : Nat} {L L' L1 : XL} {st st1 : List Value} (h : xsb L L') (hv : xstI n k L st = some (L1, st1)) : ∃ L2, xstI n k L' st = some (L2, st1) ∧ xsb L1 L2 := by
  unfold xstI at hv ⊢
  split at hv
  · split at hv
    · next hk => cases hv; exact ⟨_, if_pos hk, xsb_put h⟩
    · cases hv
  · cases hv
theorem xstJ_sb {n k : Nat} {L L' L1 : XL} {st st1 : List Value} (h : xsb L L') (hv : xstJ n k L st = some (L1, st1)) : ∃ L2, xstJ n k L' st = some (L2, st1) ∧ xsb L1 L2 := by
  unfold xstJ at hv ⊢
  split at hv
  · split at hv
    · next hk => cases hv; exact ⟨_, if_pos hk, xsb_put h⟩
    · cases hv
  · cases hv
theorem xstR_sb {n k : Nat} {L L' L1 : XL} {st st1 : List Value} (h : xsb L L') (hv : xstR n k L st = some (L1, st1)) : ∃ L2, xstR n k L' st = some (L2, st1) ∧ xsb L1 L2 := by
  unfold xstR at hv ⊢
  split at hv
  · split at hv
    · next hk => cases hv; exact ⟨_, if_pos hk, xsb_put h⟩
    · cases hv
  · cases hv
theorem xst_sb {i : Instr} {n : Nat} {L L' L1 : XL} {st st1 : List Value} (h : xsb L L') (hv : xst n i L st = some (L1, st1)) : ∃ L2, xst n i L' st = some (L2, st1) ∧ xsb L1 L2 := by
  unfold xst at hv ⊢
  split at hv
  case h_7 k c =>
    split at hv
    · next hk =>
      split at hv
      · next x hx =>
        cases hv
        rw [if_pos hk, h.2 _ _ hx]
        exact ⟨_, rfl, xsb_put h⟩
      · cases hv
    · cases hv
  all_goals first | exact xstI_sb h hv | exact xstJ_sb h hv | exact xstR_sb h hv | cases hv
theorem xone_sb {xs : Nat × (Nat → Int32)} {call : XF} {m pc : Nat} {L L' : XL} {st : List Value} {h : XH} (hs : xsb L L') :
    (∀ pc' L1 st' h', xone xs call m pc L st h = some (.inl (pc', L1, st', h')) → ∃ L2, xone xs call m pc L' st h = some (.inl (pc', L2, st', h')) ∧ xsb L1 L2) ∧ (∀ r, xone xs call m pc L st h = some (.inr r) → xone xs call m pc L' st h = some (.inr r)) := by
  unfold xone
  cases hz : zc m pc with
  | none => exact ⟨fun _ _ _ _ q => (by cases q), fun _ q => (by cases q)⟩
  | some e =>
    dsimp only
    by_cases hi : xinv e.1 = true
    · rw [if_pos hi, if_pos hi]
      by_cases h5 : e.2.2.1 < 5
      · rw [if_pos h5, if_pos h5]
        split
        · exact ⟨fun _ _ _ _ q => (by cases q; exact ⟨_, rfl, hs⟩), fun _ q => (by cases q)⟩
        · exact ⟨fun _ _ _ _ q => (by cases q), fun _ q => (by cases q)⟩
      · rw [if_neg h5, if_neg h5]
        split
        · exact ⟨fun _ _ _ _ q => (by cases q; exact ⟨_, rfl, hs⟩), fun _ q => (by cases q)⟩
        · exact ⟨fun _ _ _ _ q => (by cases q), fun _ q => (by cases q)⟩
    · rw [if_neg hi, if_neg hi]
      cases ho : xop e.1 st with
      | some st' => exact ⟨fun _ _ _ _ q => (by cases q; exact ⟨_, rfl, hs⟩), fun _ q => (by cases q)⟩
      | none =>
        dsimp only
        cases hl : xld e.1 L with
        | some v =>
          rw [xld_sb hs hl]
          exact ⟨fun _ _ _ _ q => (by cases q; exact ⟨_, rfl, hs⟩), fun _ q => (by cases q)⟩
        | none =>
          cases hl' : xld e.1 L' with
          | some v =>
            obtain ⟨i, a1, a2, c, p⟩ := e
            obtain ⟨g1, g2, g3, g4⟩ := xld_non hl'
            dsimp only at g1 g2 g3 g4 ⊢
            rw [g1, g2, g3, g4]
            exact ⟨fun _ _ _ _ q => (by cases q), fun _ q => (by cases q)⟩
          | none =>
            dsimp only
            cases ht : xst (zMl m) e.1 L st with
            | some q =>
              obtain ⟨L1, st1⟩ := q
              obtain ⟨L2, g1, g2⟩ := xst_sb hs ht
              rw [g1]
              exact ⟨fun _ _ _ _ q => (by cases q; exact ⟨_, rfl, g2⟩), fun _ q => (by cases q)⟩
            | none =>
              cases ht' : xst (zMl m) e.1 L' st with
              | some q =>
                obtain ⟨i, a1, a2, c, p⟩ := e
                obtain ⟨g2, g3, g4⟩ := xst_non ht'
                dsimp only at g2 g3 g4 ⊢
                rw [g2, g3, g4]
                exact ⟨fun _ _ _ _ q => (by cases q), fun _ q => (by cases q)⟩
              | none =>
                dsimp only
                split
                · exact ⟨fun _ _ _ _ q => (by cases q; exact ⟨_, rfl, hs⟩), fun _ q => (by cases q)⟩
                · split
                  · exact ⟨fun _ _ _ _ q => (by cases q; exact ⟨_, rfl, hs⟩), fun _ q => (by cases q)⟩
                  · split
                    · exact ⟨fun _ _ _ _ q => (by cases q), fun _ q => q⟩
                    · exact ⟨fun _ _ _ _ q => (by cases q), fun _ q => (by cases q)⟩
theorem xgo_sb {xs : Nat × (Nat → Int32)} {call : XF} {m : Nat} {r : XR} : ∀ {n pc : Nat} {L L' : XL} {st : List Value} {h : XH}, xsb L L' → xgo xs call m n pc L st h = some r → xgo xs call m n pc L' st h = some r := by
  intro n
  induction n with
  | zero => intro pc L L' st h _ q; cases q
  | succ n ih =>
    intro pc L L' st h hs q
    simp only [xgo] at q ⊢
    cases ho : xone xs call m pc L st h with
    | none => rw [ho] at q; cases q
    | some s =>
      cases s with
      | inl s =>
        obtain ⟨pc', L1, st', h'⟩ := s
        obtain ⟨L2, g1, g2⟩ := (xone_sb hs).1 _ _ _ _ ho
        rw [ho] at q
        rw [g1]
        exact ih g2 q
      | inr s =>
        rw [ho] at q
        rw [(xone_sb hs).2 _ ho]
        exact q
theorem T_loc {xs : Nat × (Nat → Int32)} {J : ZS → Prop} {d m pc : Nat} {L E : XL} {st : List Value} {Q : Option Value → ZS → Prop} (h : xndB L = true) (kk : TJ xs J d m pc L st Q) : TJ xs J d m pc (L ++ E) st Q := fun σ hJ => by
  obtain ⟨n, v, σ', h1, h2⟩ := kk σ hJ
  exact ⟨n, v, σ', xgo_sb (xsb_app h) h1, h2⟩
