/-! what a law is, place by place: a machine over the letters that the class's reader and the reference's both follow -/
def lt (L : Nat → Int) (n p : Int) : Int := if 0 ≤ p ∧ p < n then L (Int.toNat p) else -1
theorem lt_spec (L : Nat → Int) (n p : Int) : (0 ≤ p ∧ p < n → lt L n p = L (Int.toNat p)) ∧ (¬ (0 ≤ p ∧ p < n) → lt L n p = -1) := ⟨fun h => if_pos h, fun h => if_neg h⟩
def ff (c : Int) : Int := if c = 102 ∨ c = 115 ∨ c = 108 ∨ c = 104 ∨ c = 119 ∨ c = 100 then 1 else 0
theorem ff_spec (c : Int) : (c = 102 → ff c = 1) ∧ (c = 115 → ff c = 1) ∧ (c = 108 → ff c = 1) ∧ (c = 104 → ff c = 1) ∧ (c = 119 → ff c = 1) ∧ (c = 100 → ff c = 1) ∧ (¬ c = 102 ∧ ¬ c = 115 ∧ ¬ c = 108 ∧ ¬ c = 104 ∧ ¬ c = 119 ∧ ¬ c = 100 → ff c = 0) := by
  unfold ff
  refine ⟨fun h => if_pos (by omega), fun h => if_pos (by omega), fun h => if_pos (by omega), fun h => if_pos (by omega), fun h => if_pos (by omega), fun h => if_pos (by omega), fun h => if_neg (by omega)⟩
def sg (c : Int) : Int := if c = 60 ∨ c = 62 ∨ c = 61 then 1 else 0
theorem sg_spec (c : Int) : (c = 60 → sg c = 1) ∧ (c = 62 → sg c = 1) ∧ (c = 61 → sg c = 1) ∧ (¬ c = 60 ∧ ¬ c = 62 ∧ ¬ c = 61 → sg c = 0) := by
  unfold sg
  refine ⟨fun h => if_pos (by omega), fun h => if_pos (by omega), fun h => if_pos (by omega), fun h => if_neg (by omega)⟩
/-- how many digits a number has at a place -/
def nd3 (a b c : Int) : Int := if ¬ (48 ≤ a ∧ a ≤ 57) then 0 else if a = 48 then 1 else if ¬ (48 ≤ b ∧ b ≤ 57) then 1 else if ¬ (48 ≤ c ∧ c ≤ 57) then 2 else 3
def nd (L : Nat → Int) (n p : Int) : Int := nd3 (lt L n p) (lt L n (p + 1)) (lt L n (p + 2))
theorem nd3_spec (a b c : Int) : (¬ (48 ≤ a ∧ a ≤ 57) → nd3 a b c = 0) ∧ (a = 48 → nd3 a b c = 1) ∧ (49 ≤ a ∧ a ≤ 57 ∧ ¬ (48 ≤ b ∧ b ≤ 57) → nd3 a b c = 1) ∧ (49 ≤ a ∧ a ≤ 57 ∧ 48 ≤ b ∧ b ≤ 57 ∧ ¬ (48 ≤ c ∧ c ≤ 57) → nd3 a b c = 2) ∧ (49 ≤ a ∧ a ≤ 57 ∧ 48 ≤ b ∧ b ≤ 57 ∧ 48 ≤ c ∧ c ≤ 57 → nd3 a b c = 3) := by
  unfold nd3
  refine ⟨fun h => if_pos h, fun h => ?_, fun h => ?_, fun h => ?_, fun h => ?_⟩
  · rw [if_neg (by omega), if_pos h]
  · rw [if_neg (by omega), if_neg (by omega), if_pos h.2.2]
  · rw [if_neg (by omega), if_neg (by omega), if_neg (by omega), if_pos h.2.2.2.2]
  · rw [if_neg (by omega), if_neg (by omega), if_neg (by omega), if_neg (by omega)]
theorem nd_spec (L : Nat → Int) (n p : Int) : (¬ (48 ≤ lt L n p ∧ lt L n p ≤ 57) → nd L n p = 0) ∧ (lt L n p = 48 → nd L n p = 1) ∧ (49 ≤ lt L n p ∧ lt L n p ≤ 57 ∧ ¬ (48 ≤ lt L n (p + 1) ∧ lt L n (p + 1) ≤ 57) → nd L n p = 1) ∧ (49 ≤ lt L n p ∧ lt L n p ≤ 57 ∧ 48 ≤ lt L n (p + 1) ∧ lt L n (p + 1) ≤ 57 ∧ ¬ (48 ≤ lt L n (p + 2) ∧ lt L n (p + 2) ≤ 57) → nd L n p = 2) ∧ (49 ≤ lt L n p ∧ lt L n p ≤ 57 ∧ 48 ≤ lt L n (p + 1) ∧ lt L n (p + 1) ≤ 57 ∧ 48 ≤ lt L n (p + 2) ∧ lt L n (p + 2) ≤ 57 → nd L n p = 3) := nd3_spec _ _ _
theorem nd_03 (L : Nat → Int) (n p : Int) : 0 ≤ nd L n p ∧ nd L n p ≤ 3 := by
  unfold nd nd3
  repeat' (first | omega | split)
/-- is a test there; where it ends, or is at fault -/
def tk (L : Nat → Int) (n p : Int) : Int := if ff (lt L n p) = 1 ∧ sg (lt L n (p + 1)) = 1 ∧ 0 < nd L n (p + 2) then 1 else 0
def te (L : Nat → Int) (n p : Int) : Int := if ff (lt L n p) = 1 then (if sg (lt L n (p + 1)) = 1 then p + 2 + nd L n (p + 2) else p + 1) else p
theorem tk_spec (L : Nat → Int) (n p : Int) : (¬ ff (lt L n p) = 1 → tk L n p = 0 ∧ te L n p = p) ∧ (ff (lt L n p) = 1 ∧ ¬ sg (lt L n (p + 1)) = 1 → tk L n p = 0 ∧ te L n p = p + 1) ∧ (ff (lt L n p) = 1 ∧ sg (lt L n (p + 1)) = 1 ∧ ¬ 0 < nd L n (p + 2) → tk L n p = 0 ∧ te L n p = p + 2 + nd L n (p + 2)) ∧ (ff (lt L n p) = 1 ∧ sg (lt L n (p + 1)) = 1 ∧ 0 < nd L n (p + 2) → tk L n p = 1 ∧ te L n p = p + 2 + nd L n (p + 2)) := by
  unfold tk te
  refine ⟨fun h => ⟨if_neg (fun q => h q.1), if_neg h⟩, fun h => ⟨if_neg (fun q => h.2 q.2.1), ?_⟩, fun h => ⟨if_neg (fun q => h.2.2 q.2.2), ?_⟩, fun h => ⟨if_pos h, ?_⟩⟩
  · rw [if_pos h.1, if_neg h.2]
  · rw [if_pos h.1, if_pos h.2.1]
  · rw [if_pos h.1, if_pos h.2.1]
/-- a letter that says something stands before the end -/
theorem lt_in {L : Nat → Int} {n p : Int} (h : ¬ lt L n p = -1) : 0 ≤ p ∧ p < n := by
  by_cases q : 0 ≤ p ∧ p < n
  · exact q
  · exact absurd ((lt_spec L n p).2 q) h
theorem ff_in {c : Int} (h : ff c = 1) : 100 ≤ c ∧ c ≤ 119 := by
  unfold ff at h
  split at h <;> omega
theorem sg_in {c : Int} (h : sg c = 1) : 60 ≤ c ∧ c ≤ 62 := by
  unfold sg at h
  split at h <;> omega
theorem nd_in {L : Nat → Int} {n p : Int} (hp : p ≤ n) : p + nd L n p ≤ n := by
  have h := nd_spec L n p
  have a0 := lt_spec L n p
  have a1 := lt_spec L n (p + 1)
  have a2 := lt_spec L n (p + 2)
  have b := nd_03 L n p
  by_cases c0 : 48 ≤ lt L n p ∧ lt L n p ≤ 57
  · by_cases c1 : 48 ≤ lt L n (p + 1) ∧ lt L n (p + 1) ≤ 57
    · by_cases c2 : 48 ≤ lt L n (p + 2) ∧ lt L n (p + 2) ≤ 57
      · have := lt_in (L := L) (n := n) (p := p + 2) (by omega); omega
      · have := lt_in (L := L) (n := n) (p := p + 1) (by omega); omega
    · have := lt_in (L := L) (n := n) (p := p) (by omega); omega
  · omega
theorem te_in {L : Nat → Int} {n p : Int} (h0 : 0 ≤ p) (hp : p ≤ n) : p ≤ te L n p ∧ te L n p ≤ n ∧ (tk L n p = 1 → p < te L n p) := by
  have h := tk_spec L n p
  have b := nd_03 L n (p + 2)
  by_cases c0 : ff (lt L n p) = 1
  · have d0 := ff_in c0
    have e0 := lt_in (L := L) (n := n) (p := p) (by omega)
    by_cases c1 : sg (lt L n (p + 1)) = 1
    · have d1 := sg_in c1
      have e1 := lt_in (L := L) (n := n) (p := p + 1) (by omega)
      have e2 := nd_in (L := L) (n := n) (p := p + 2) (by omega)
      by_cases c2 : 0 < nd L n (p + 2)
      · have := h.2.2.2 ⟨c0, c1, c2⟩; omega
      · have := h.2.2.1 ⟨c0, c1, c2⟩; omega
    · have := h.2.1 ⟨c0, c1⟩; omega
  · have := h.1 c0; omega
/-- closing: what is denied is closed with what it denies; true is a bracket -/
def cls : List Bool → List Bool
  | false :: st => cls st
  | st => st
theorem cls_t (st : List Bool) : cls (true :: st) = true :: st := rfl
theorem cls_f (st : List Bool) : cls (false :: st) = cls st := rfl
/-- the machine: a place, what is open, whether a part is wanted; what is at fault, or -1 -/
def run (L : Nat → Int) (n : Int) : Nat → Int → List Bool → Int → Int
  | 0, p, _, _ => p
  | f + 1, p, st, w =>
    if w = 1 then
      (if lt L n p = 33 ∨ lt L n p = 40 then (if 20 ≤ st.length then p else run L n f (p + 1) (decide (lt L n p = 40) :: st) 1)
       else if tk L n p = 1 then run L n f (te L n p) (cls st) 0 else te L n p)
    else (if n ≤ p then (if st = [] then -1 else n)
      else if lt L n p = 38 ∨ lt L n p = 124 then run L n f (p + 1) st 1
      else if lt L n p = 41 ∧ st ≠ [] then run L n f (p + 1) (cls st.tail) 0
      else p)
theorem run_fuel {L : Nat → Int} {n : Int} : ∀ (f g : Nat) (p : Int) (st : List Bool) (w : Int), 0 ≤ p → p ≤ n → n + 1 - p ≤ f → n + 1 - p ≤ g → run L n f p st w = run L n g p st w := by
  intro f
  induction f with
  | zero => intro g p st w h0 h1 h2; exact absurd h2 (by omega)
  | succ f ih =>
    intro g p st w h0 h1 h2 h3
    cases g with
    | zero => exact absurd h3 (by omega)
    | succ g =>
      unfold run
      have ht := te_in (L := L) h0 h1
      split
      · split
        · rename_i hc
          have hi := lt_in (L := L) (n := n) (p := p) (by omega)
          split
          · rfl
          · exact ih g (p + 1) _ 1 (by omega) (by omega) (by omega) (by omega)
        · split
          · rename_i hk
            have := ht.2.2 hk
            exact ih g (te L n p) _ 0 (by omega) (by omega) (by omega) (by omega)
          · rfl
      · split
        · rfl
        · split
          · exact ih g (p + 1) st 1 (by omega) (by omega) (by omega) (by omega)
          · split
            · exact ih g (p + 1) _ 0 (by omega) (by omega) (by omega) (by omega)
            · rfl
def RUN (L : Nat → Int) (n p : Int) (st : List Bool) (w : Int) : Int := run L n (Int.toNat (n + 1 - p)) p st w
theorem RUN_step {L : Nat → Int} {n p : Int} {st : List Bool} {w : Int} (h0 : 0 ≤ p) (h1 : p ≤ n) : RUN L n p st w =
    if w = 1 then
      (if lt L n p = 33 ∨ lt L n p = 40 then (if 20 ≤ st.length then p else RUN L n (p + 1) (decide (lt L n p = 40) :: st) 1)
       else if tk L n p = 1 then RUN L n (te L n p) (cls st) 0 else te L n p)
    else (if n ≤ p then (if st = [] then -1 else n)
      else if lt L n p = 38 ∨ lt L n p = 124 then RUN L n (p + 1) st 1
      else if lt L n p = 41 ∧ st ≠ [] then RUN L n (p + 1) (cls st.tail) 0
      else p) := by
  have ht := te_in (L := L) h0 h1
  unfold RUN
  rw [show Int.toNat (n + 1 - p) = Int.toNat (n - p) + 1 from by omega]
  conv => lhs; unfold run
  split
  · split
    · rename_i hc
      have hi := lt_in (L := L) (n := n) (p := p) (by omega)
      split
      · rfl
      · exact run_fuel _ _ _ _ _ (by omega) (by omega) (by omega) (by omega)
    · split
      · rename_i hk
        have := ht.2.2 hk
        exact run_fuel _ _ _ _ _ (by omega) (by omega) (by omega) (by omega)
      · rfl
  · split
    · rfl
    · split
      · exact run_fuel _ _ _ _ _ (by omega) (by omega) (by omega) (by omega)
      · split
        · exact run_fuel _ _ _ _ _ (by omega) (by omega) (by omega) (by omega)
        · rfl
/-- a part is wanted -/
theorem R_want {L : Nat → Int} {n p d : Int} {st su : List Bool} (h0 : 0 ≤ p) (h1 : p ≤ n) (hd : (st.length : Int) = d) (hs : cls st = su) :
    (lt L n p = 33 ∧ d < 20 → RUN L n p st 1 = RUN L n (p + 1) (false :: st) 1) ∧ (lt L n p = 40 ∧ d < 20 → RUN L n p st 1 = RUN L n (p + 1) (true :: st) 1) ∧ ((lt L n p = 33 ∨ lt L n p = 40) ∧ 20 ≤ d → RUN L n p st 1 = p)
    ∧ (¬ lt L n p = 33 ∧ ¬ lt L n p = 40 ∧ tk L n p = 1 → RUN L n p st 1 = RUN L n (te L n p) su 0) ∧ (¬ lt L n p = 33 ∧ ¬ lt L n p = 40 ∧ ¬ tk L n p = 1 → RUN L n p st 1 = te L n p) := by
  have e := RUN_step (L := L) (st := st) (w := 1) h0 h1
  rw [if_pos rfl] at e
  subst hs
  refine ⟨fun h => ?_, fun h => ?_, fun h => ?_, fun h => ?_, fun h => ?_⟩
  · rw [e, if_pos (Or.inl h.1), if_neg (by omega), h.1]; rfl
  · rw [e, if_pos (Or.inr h.1), if_neg (by omega), h.1]; rfl
  · rw [e, if_pos h.1, if_pos (by omega)]
  · rw [e, if_neg (by omega), if_pos h.2.2]
  · rw [e, if_neg (by omega), if_neg h.2.2]
/-- behind a part -/
theorem R_sign {L : Nat → Int} {n p : Int} (st : List Bool) (h0 : 0 ≤ p) (h1 : p ≤ n) (hc : lt L n p = 38 ∨ lt L n p = 124) : RUN L n p st 0 = RUN L n (p + 1) st 1 := by
  have hi := lt_in (L := L) (n := n) (p := p) (by omega)
  rw [RUN_step h0 h1, if_neg (by omega), if_neg (by omega), if_pos hc]
theorem R_shut {L : Nat → Int} {n p : Int} (st : List Bool) (h0 : 0 ≤ p) (h1 : p ≤ n) : (lt L n p = 41 → RUN L n p (true :: st) 0 = RUN L n (p + 1) (cls st) 0) ∧ (¬ lt L n p = 41 ∧ ¬ lt L n p = 38 ∧ ¬ lt L n p = 124 → RUN L n p (true :: st) 0 = p) := by
  have e := RUN_step (L := L) (st := true :: st) (w := 0) h0 h1
  rw [if_neg (by omega)] at e
  refine ⟨fun h => ?_, fun h => ?_⟩
  · have hi := lt_in (L := L) (n := n) (p := p) (by omega)
    rw [e, if_neg (by omega), if_neg (by omega), if_pos ⟨h, by simp⟩]
    rfl
  · rw [e]
    by_cases q : n ≤ p
    · rw [if_pos q, if_neg (by simp)]; omega
    · rw [if_neg q, if_neg (by omega), if_neg (fun x => h.1 x.1)]
theorem R_top {L : Nat → Int} {n p : Int} (h0 : 0 ≤ p) (h1 : p ≤ n) : (p = n → RUN L n p [] 0 = -1) ∧ (¬ p = n ∧ ¬ lt L n p = 38 ∧ ¬ lt L n p = 124 → RUN L n p [] 0 = p) := by
  have e := RUN_step (L := L) (st := []) (w := 0) h0 h1
  rw [if_neg (by omega)] at e
  refine ⟨fun h => ?_, fun h => ?_⟩
  · rw [e, if_pos (by omega), if_pos rfl]
  · rw [e, if_neg (by omega), if_neg (by omega), if_neg (fun x => x.2 rfl)]
/-- a law read whole: its fault, or -1 -/
def LAWF (L : Nat → Int) (n : Int) : Int := if ¬ lt L n 0 = 103 then 0 else if ¬ (48 ≤ lt L n 1 ∧ lt L n 1 ≤ 50) then 1 else if ¬ lt L n 2 = 58 then 2 else RUN L n 3 [] 1
theorem LAWF_spec (L : Nat → Int) (n : Int) : (¬ lt L n 0 = 103 → LAWF L n = 0) ∧ (lt L n 0 = 103 ∧ ¬ (48 ≤ lt L n 1 ∧ lt L n 1 ≤ 50) → LAWF L n = 1) ∧ (lt L n 0 = 103 ∧ 48 ≤ lt L n 1 ∧ lt L n 1 ≤ 50 ∧ ¬ lt L n 2 = 58 → LAWF L n = 2) ∧ (lt L n 0 = 103 ∧ 48 ≤ lt L n 1 ∧ lt L n 1 ≤ 50 ∧ lt L n 2 = 58 → LAWF L n = RUN L n 3 [] 1) := by
  unfold LAWF
  refine ⟨fun h => if_pos h, fun h => ?_, fun h => ?_, fun h => ?_⟩
  · rw [if_neg (by omega), if_pos h.2]
  · rw [if_neg (by omega), if_neg (by omega), if_pos h.2.2.2]
  · rw [if_neg (by omega), if_neg (by omega), if_neg (by omega)]
theorem run_congr {L L' : Nat → Int} {n : Int} (h : ∀ p, lt L n p = lt L' n p) : ∀ (f : Nat) (p : Int) (st : List Bool) (w : Int), run L n f p st w = run L' n f p st w := by
  intro f
  induction f with
  | zero => intro p st w; rfl
  | succ f ih =>
    intro p st w
    have h' : lt L n = lt L' n := funext h
    have t1 : tk L n p = tk L' n p := by unfold tk nd; rw [h']
    have t2 : te L n p = te L' n p := by unfold te nd; rw [h']
    unfold run
    rw [h', t1, t2]
    simp only [ih]
theorem LAWF_congr {L L' : Nat → Int} {n : Int} (h : ∀ q : Nat, (q : Int) < n → L q = L' q) : LAWF L n = LAWF L' n := by
  have h2 : ∀ p, lt L n p = lt L' n p := fun p => by
    by_cases hp : 0 ≤ p ∧ p < n
    · rw [(lt_spec L n p).1 hp, (lt_spec L' n p).1 hp, h (Int.toNat p) (by omega)]
    · rw [(lt_spec L n p).2 hp, (lt_spec L' n p).2 hp]
  unfold LAWF RUN
  simp only [h2, run_congr h2]
/-- the letters of a shelf in the one row of the reference -/
def LC (f : Nat → Int) (b : Int) : Nat → Int := fun q => L2I (f (Int.toNat b + q))
theorem lt_cells (f : Nat → Int) (b m a : Int) (hb : 0 ≤ b) : (0 ≤ a ∧ a < m → lt (LC f b) m a = L2I (f (Int.toNat (b + a)))) ∧ (¬ (0 ≤ a ∧ a < m) → lt (LC f b) m a = -1) := by
  have h := lt_spec (LC f b) m a
  refine ⟨fun q => ?_, h.2⟩
  rw [h.1 q]
  unfold LC
  rw [show Int.toNat (b + a) = Int.toNat b + Int.toNat a from by omega]
/-- what is open, by the signs kept: denied, bracket -/
def opl (f : Nat → Int) : Nat → List Bool
  | 0 => []
  | n + 1 => if f n = 33 then false :: opl f n else if f n = 40 then true :: opl f n else opl f n
/-- no sign stands right above a denial; all are signs, denials, brackets -/
def opg (f : Nat → Int) : Nat → Prop
  | 0 => True
  | n + 1 => opg f n ∧ (f n = 33 ∨ f n = 40 ∨ ((f n = 38 ∨ f n = 124) ∧ (0 < n → ¬ f (n - 1) = 33)))
theorem opl_cls {f : Nat → Int} : ∀ {n : Nat}, opg f n → (0 < n → ¬ f (n - 1) = 33) → cls (opl f n) = opl f n := by
  intro n
  induction n with
  | zero => intro _ _; rfl
  | succ n ih =>
    intro h ht
    have h1 : ¬ f n = 33 := ht (by omega)
    unfold opl
    rw [if_neg h1]
    split
    · rfl
    · rename_i h2
      rcases h.2 with q | q | q
      · exact absurd q h1
      · exact absurd q h2
      · exact ih h.1 q.2
theorem opl_ext {f g : Nat → Int} : ∀ {n : Nat}, (∀ q, q < n → f q = g q) → opl f n = opl g n := by
  intro n
  induction n with
  | zero => intro _; rfl
  | succ n ih =>
    intro h
    unfold opl
    rw [h n (by omega), ih (fun q hq => h q (by omega))]
theorem opg_ext {f g : Nat → Int} : ∀ {n : Nat}, (∀ q, q < n → f q = g q) → opg f n → opg g n := by
  intro n
  induction n with
  | zero => intro _ _; trivial
  | succ n ih =>
    intro h hg
    refine ⟨ih (fun q hq => h q (by omega)) hg.1, ?_⟩
    rcases hg.2 with q | q | q
    · exact Or.inl ((h n (by omega)).symm.trans q)
    · exact Or.inr (Or.inl ((h n (by omega)).symm.trans q))
    · refine Or.inr (Or.inr ⟨?_, fun h0 => ?_⟩)
      · rw [← h n (by omega)]; exact q.1
      · rw [← h (n - 1) (by omega)]; exact q.2 h0
