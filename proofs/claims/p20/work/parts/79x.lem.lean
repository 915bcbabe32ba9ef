/-! the reference's stack of signs, and what is open -/
def nbr : List Bool → Int
  | [] => 0
  | true :: s => nbr s + 1
  | false :: s => nbr s
theorem nbr_t (s : List Bool) : nbr (true :: s) = nbr s + 1 := rfl
theorem nbr_f (s : List Bool) : nbr (false :: s) = nbr s := rfl
theorem nbr_pos : ∀ {s : List Bool}, 0 ≤ nbr s
  | [] => by unfold nbr; omega
  | true :: s => by rw [nbr_t]; have := nbr_pos (s := s); omega
  | false :: s => by rw [nbr_f]; exact nbr_pos
theorem len_cls : ∀ s : List Bool, (cls s).length ≤ s.length
  | [] => Nat.le_refl _
  | true :: _ => Nat.le_refl _
  | false :: s => Nat.le_succ_of_le (len_cls s)
/-- what the stack holds -/
def KM (σ : ZS) (O : Int) (st : List Bool) : Prop := opl (σ 50 0 0) (Int.toNat (σ 35 0 0 24)) = st ∧ opg (σ 50 0 0) (Int.toNat (σ 35 0 0 24)) ∧ σ 35 0 0 25 = (st.length : Int) ∧ O = nbr st ∧ st.length ≤ 20 ∧ 0 ≤ σ 35 0 0 24
/-- and no denial is open at its top -/
def KT (σ : ZS) (O : Int) (st : List Bool) : Prop := KM σ O st ∧ cls st = st ∧ (0 < σ 35 0 0 24 → ¬ σ 50 0 0 (Int.toNat (σ 35 0 0 24 - 1)) = 33)
theorem KM_same {σ σ' : ZS} {O : Int} {st : List Bool} (h : KM σ O st) (e24 : σ' 35 0 0 24 = σ 35 0 0 24) (e25 : σ' 35 0 0 25 = σ 35 0 0 25) (e50 : σ' 50 0 0 = σ 50 0 0) : KM σ' O st := by
  unfold KM at h ⊢
  rw [e24, e25, e50]
  exact h
theorem KT_same {σ σ' : ZS} {O : Int} {st : List Bool} (h : KT σ O st) (e24 : σ' 35 0 0 24 = σ 35 0 0 24) (e25 : σ' 35 0 0 25 = σ 35 0 0 25) (e50 : σ' 50 0 0 = σ 50 0 0) : KT σ' O st :=
  ⟨KM_same h.1 e24 e25 e50, h.2.1, by rw [e24, e50]; exact h.2.2⟩
theorem KM_0 {σ : ZS} (e24 : σ 35 0 0 24 = 0) (e25 : σ 35 0 0 25 = 0) : KM σ 0 [] := by
  unfold KM
  rw [e24, e25]
  exact ⟨rfl, trivial, rfl, rfl, Nat.zero_le _, Int.le_refl _⟩
theorem opl_put {f : Nat → Int} {n : Nat} {v : Int} : opl (fun q => if q = n then v else f q) n = opl f n := opl_ext (fun q hq => by rw [if_neg (by omega)])
theorem opg_put {f : Nat → Int} {n : Nat} {v : Int} (h : opg f n) : opg (fun q => if q = n then v else f q) n := opg_ext (fun q hq => by rw [if_neg (by omega)]) h
/-- a denial or a bracket is opened -/
theorem KM_push {σ σ' : ZS} {O v : Int} {st : List Bool} (h : KM σ O st) (hv : v = 33 ∨ v = 40) (hl : ¬ σ 35 0 0 25 = 20) (e24 : σ' 35 0 0 24 = σ 35 0 0 24 + 1) (e25 : σ' 35 0 0 25 = σ 35 0 0 25 + 1) (e50 : σ' 50 0 0 = fun q => if q = Int.toNat (σ 35 0 0 24) then v else σ 50 0 0 q) : KM σ' (if v = 40 then O + 1 else O) (decide (v = 40) :: st) := by
  obtain ⟨h1, h2, h3, h4, h5, h6⟩ := h
  unfold KM
  rw [e24, e25, e50, show Int.toNat (σ 35 0 0 24 + 1) = Int.toNat (σ 35 0 0 24) + 1 from by omega]
  refine ⟨?_, ⟨opg_put h2, ?_⟩, ?_, ?_, ?_, by omega⟩
  · unfold opl
    rw [opl_put, h1, if_pos rfl]
    rcases hv with rfl | rfl
    · rfl
    · rfl
  · dsimp only
    rw [if_pos rfl]
    rcases hv with q | q
    · exact Or.inl q
    · exact Or.inr (Or.inl q)
  · rw [h3, List.length_cons]; omega
  · rcases hv with rfl | rfl
    · rw [if_neg (by omega)]; exact h4
    · rw [if_pos rfl, h4]; rfl
  · rw [List.length_cons]; omega
/-- a sign is put upon it -/
theorem KM_sign {σ σ' : ZS} {O v : Int} {st : List Bool} (h : KT σ O st) (hv : v = 38 ∨ v = 124) (e24 : σ' 35 0 0 24 = σ 35 0 0 24 + 1) (e25 : σ' 35 0 0 25 = σ 35 0 0 25) (e50 : σ' 50 0 0 = fun q => if q = Int.toNat (σ 35 0 0 24) then v else σ 50 0 0 q) : KM σ' O st := by
  obtain ⟨⟨h1, h2, h3, h4, h5, h6⟩, -, h7⟩ := h
  unfold KM
  rw [e24, e25, e50, show Int.toNat (σ 35 0 0 24 + 1) = Int.toNat (σ 35 0 0 24) + 1 from by omega]
  refine ⟨?_, ⟨opg_put h2, ?_⟩, h3, h4, h5, by omega⟩
  · unfold opl
    rw [opl_put, h1, if_pos rfl, if_neg (by omega), if_neg (by omega)]
  · dsimp only
    rw [if_pos rfl]
    refine Or.inr (Or.inr ⟨hv, fun h0 => ?_⟩)
    rw [if_neg (by omega), show Int.toNat (σ 35 0 0 24) - 1 = Int.toNat (σ 35 0 0 24 - 1) from by omega]
    exact h7 (by omega)
theorem opl_top {f : Nat → Int} {n : Nat} (h : 0 < n) : opl f n = if f (n - 1) = 33 then false :: opl f (n - 1) else if f (n - 1) = 40 then true :: opl f (n - 1) else opl f (n - 1) := by
  obtain ⟨m, rfl⟩ : ∃ m, n = m + 1 := ⟨n - 1, by omega⟩
  rw [show m + 1 - 1 = m from by omega]
  rfl
theorem opg_top {f : Nat → Int} {n : Nat} (h : 0 < n) (hg : opg f n) : opg f (n - 1) ∧ (f (n - 1) = 33 ∨ f (n - 1) = 40 ∨ ((f (n - 1) = 38 ∨ f (n - 1) = 124) ∧ (0 < n - 1 → ¬ f (n - 1 - 1) = 33))) := by
  obtain ⟨m, rfl⟩ : ∃ m, n = m + 1 := ⟨n - 1, by omega⟩
  rw [show m + 1 - 1 = m from by omega]
  exact hg
/-- a sign is taken off -/
theorem KT_pop {σ σ' : ZS} {O : Int} {st : List Bool} (h : KT σ O st) (ho : 0 < σ 35 0 0 24) (ht : σ 50 0 0 (Int.toNat (σ 35 0 0 24 - 1)) = 38 ∨ σ 50 0 0 (Int.toNat (σ 35 0 0 24 - 1)) = 124) (e24 : σ' 35 0 0 24 = σ 35 0 0 24 - 1) (e25 : σ' 35 0 0 25 = σ 35 0 0 25) (e50 : σ' 50 0 0 = σ 50 0 0) : KT σ' O st := by
  obtain ⟨⟨h1, h2, h3, h4, h5, h6⟩, hc, h7⟩ := h
  have hn : Int.toNat (σ 35 0 0 24 - 1) = Int.toNat (σ 35 0 0 24) - 1 := by omega
  rw [hn] at ht
  have h8 := opg_top (by omega) h2
  have h9 := opl_top (f := σ 50 0 0) (n := Int.toNat (σ 35 0 0 24)) (by omega)
  rw [if_neg (by omega), if_neg (by omega), h1] at h9
  unfold KT KM
  rw [e24, e25, e50, hn]
  refine ⟨⟨h9.symm, h8.1, h3, h4, h5, by omega⟩, hc, fun h0 => ?_⟩
  rcases h8.2 with q | q | q
  · omega
  · omega
  · rw [show Int.toNat (σ 35 0 0 24 - 1 - 1) = Int.toNat (σ 35 0 0 24) - 1 - 1 from by omega]
    exact q.2 (by omega)
/-- a denial is closed -/
theorem KM_close {σ σ' : ZS} {O : Int} {st : List Bool} (h : KM σ O st) (ho : 0 < σ 35 0 0 24) (ht : σ 50 0 0 (Int.toNat (σ 35 0 0 24 - 1)) = 33) (e24 : σ' 35 0 0 24 = σ 35 0 0 24 - 1) (e25 : σ' 35 0 0 25 = σ 35 0 0 25 - 1) (e50 : σ' 50 0 0 = σ 50 0 0) : ∃ s2, cls st = cls s2 ∧ KM σ' O s2 := by
  obtain ⟨h1, h2, h3, h4, h5, h6⟩ := h
  have hn : Int.toNat (σ 35 0 0 24 - 1) = Int.toNat (σ 35 0 0 24) - 1 := by omega
  rw [hn] at ht
  have h8 := opg_top (by omega) h2
  have h9 := opl_top (f := σ 50 0 0) (n := Int.toNat (σ 35 0 0 24)) (by omega)
  rw [if_pos ht, h1] at h9
  refine ⟨opl (σ 50 0 0) (Int.toNat (σ 35 0 0 24) - 1), by rw [h9, cls_f], ?_⟩
  unfold KM
  rw [e24, e25, e50, hn, h3, h4, h9]
  rw [h9, List.length_cons] at h5
  refine ⟨rfl, h8.1, ?_, rfl, by omega, by omega⟩
  rw [List.length_cons]; omega
theorem KT_of {σ : ZS} {O : Int} {st : List Bool} (h : KM σ O st) (h7 : 0 < σ 35 0 0 24 → ¬ σ 50 0 0 (Int.toNat (σ 35 0 0 24 - 1)) = 33) : KT σ O (cls st) := by
  have hc : cls st = st := by
    have := opl_cls h.2.1 (fun h0 => by rw [show Int.toNat (σ 35 0 0 24) - 1 = Int.toNat (σ 35 0 0 24 - 1) from by omega]; exact h7 (by omega))
    rw [h.1] at this
    exact this
  rw [hc]
  exact ⟨h, hc, h7⟩
/-- a bracket is open, so it lies at the top where neither a sign nor a denial does -/
theorem KT_open {σ : ZS} {O : Int} {st : List Bool} (h : KT σ O st) (hO : 0 < O) : st ≠ [] := by
  rintro rfl
  have := h.1.2.2.2.1
  unfold nbr at this
  omega
theorem KM_shut {σ σ' : ZS} {O : Int} {st : List Bool} (h : KT σ O st) (hO : 0 < O) (ho : 0 < σ 35 0 0 24) (hb : ¬ (σ 50 0 0 (Int.toNat (σ 35 0 0 24 - 1)) = 38 ∨ σ 50 0 0 (Int.toNat (σ 35 0 0 24 - 1)) = 124)) (e24 : σ' 35 0 0 24 = σ 35 0 0 24 - 1) (e25 : σ' 35 0 0 25 = σ 35 0 0 25 - 1) (e50 : σ' 50 0 0 = σ 50 0 0) : KM σ' (O - 1) st.tail := by
  obtain ⟨⟨h1, h2, h3, h4, h5, h6⟩, hc, h7⟩ := h
  have h7 := h7 ho
  have hn : Int.toNat (σ 35 0 0 24 - 1) = Int.toNat (σ 35 0 0 24) - 1 := by omega
  rw [hn] at hb h7
  have h8 := opg_top (by omega) h2
  have h40 : σ 50 0 0 (Int.toNat (σ 35 0 0 24) - 1) = 40 := by
    rcases h8.2 with q | q | q
    · exact absurd q h7
    · exact q
    · exact absurd q.1 hb
  have h9 := opl_top (f := σ 50 0 0) (n := Int.toNat (σ 35 0 0 24)) (by omega)
  rw [if_neg h7, if_pos h40, h1] at h9
  subst h9
  unfold KM
  rw [e24, e25, e50, hn, h3, h4]
  rw [List.length_cons] at h5
  refine ⟨rfl, h8.1, ?_, ?_, ?_, by omega⟩
  · rw [List.length_cons, List.tail_cons]; omega
  · rw [List.tail_cons, nbr_t]; omega
  · rw [List.tail_cons]; omega
theorem R_shut2 {L : Nat → Int} {n p : Int} {st : List Bool} (h0 : 0 ≤ p) (h1 : p < n) (hs : st ≠ []) (hc : lt L n p = 41) : RUN L n p st 0 = RUN L n (p + 1) (cls st.tail) 0 := by
  rw [RUN_step h0 (by omega), if_neg (by omega), if_neg (by omega), if_neg (by omega), if_pos ⟨hc, hs⟩]
theorem nbr_0 {st : List Bool} (hc : cls st = st) (h : ¬ 0 < nbr st) : st = [] := by
  match st, hc, h with
  | [], _, _ => rfl
  | true :: s, _, h => exact absurd (show 0 < nbr (true :: s) from by rw [nbr_t]; have := nbr_pos (s := s); omega) h
  | false :: s, hc, _ =>
    have h1 := len_cls s
    rw [cls_f] at hc
    rw [hc, List.length_cons] at h1
    omega
theorem R_stop2 {L : Nat → Int} {n p : Int} {st : List Bool} (hcl : cls st = st) (h0 : 0 ≤ p) (h1 : p < n) (ha : ¬ lt L n p = 38 ∧ ¬ lt L n p = 124) (hb : ¬ (lt L n p = 41 ∧ 0 < nbr st)) : RUN L n p st 0 = p := by
  have hs : ¬ (lt L n p = 41 ∧ st ≠ []) := fun q => hb ⟨q.1, by
    by_cases h : 0 < nbr st
    · exact h
    · exact absurd (nbr_0 hcl h) q.2⟩
  rw [RUN_step h0 (by omega), if_neg (by omega), if_neg (by omega), if_neg (by omega), if_neg hs]
theorem R_end2 {L : Nat → Int} {n : Int} {st : List Bool} (hcl : cls st = st) (h0 : 0 ≤ n) : (0 < nbr st → RUN L n n st 0 = n) ∧ (¬ 0 < nbr st → RUN L n n st 0 = -1) := by
  refine ⟨fun h => ?_, fun h => ?_⟩
  · rw [RUN_step h0 (by omega), if_neg (by omega), if_pos (by omega), if_neg (fun q => by rw [q] at h; unfold nbr at h; omega)]
  · rw [RUN_step h0 (by omega), if_neg (by omega), if_pos (by omega), if_pos (nbr_0 hcl h)]
theorem R_endw {L : Nat → Int} {n : Int} {st : List Bool} (h0 : 0 ≤ n) : RUN L n n st 1 = n := by
  have a := (lt_spec L n n).2 (by omega)
  have b : ¬ ff (lt L n n) = 1 := fun h => by have := ff_in h; omega
  have c := (tk_spec L n n).1 b
  rw [RUN_step h0 (by omega), if_pos rfl, if_neg (by omega), if_neg (by omega), c.2]
