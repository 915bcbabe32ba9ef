/-! how a list of cells lies in the heap -/
def zsl (h : XH) : Nat := (h.map (fun c => c.2.1)).sum
def zad (b b0 : Nat) : Nat → Nat
  | 0 => b
  | n + 1 => b0 + n
def zcv (b b0 : Nat) : Value → Value
  | .ref n => .ref (zad b b0 n)
  | v => v
theorem zcv_cat {b b0 : Nat} (v : Value) : (zcv b b0 v).category = v.category := by cases v <;> rfl
def zTys (cy : Nat → ClassId) : List (ClassId × FieldType) := [(cy 12, .int), (cy 13, .long), (cy 14, .boolean), (cy 15, .object "WaterCity$Boat"), (cy 16, .object "WaterCity$House"), (cy 17, .object "WaterCity$Law"), (cy 18, .object "WaterCity$Shelf")]
def zEl (b b0 : Nat) (cy : Nat → ClassId) (c : XC) : va_E :=
  if c.1 < 12 then .inr (c.1, (List.range c.2.1).map (fun j => zcv b b0 (c.2.2 j)))
  else if c.1 = 13 then .inl (cy c.1, c.2.1, .inr (.inl (fun j => xJ (c.2.2 j))))
  else if c.1 < 15 then .inl (cy c.1, c.2.1, .inl (fun j => xI (c.2.2 j)))
  else .inl (cy c.1, c.2.1, .inr (.inr (.inr (.inr (fun j => (xR (c.2.2 j)).map (zad b b0))))))
def zW (b b0 : Nat) (cy : Nat → ClassId) : Nat → XH → va_W
  | _, [] => []
  | k, c :: t => (b0 + k, zEl b b0 cy c) :: zW b b0 cy (k + 1) t
theorem zW_at {b b0 : Nat} {cy : Nat → ClassId} {h : XH} {c : XC} : ∀ {k n : Nat}, h[n]? = some c → (zW b b0 cy k h)[n]? = some (b0 + (k + n), zEl b b0 cy c) := by
  induction h with
  | nil => intro k n h; simp at h
  | cons x t ih =>
    intro k n hn
    cases n with
    | zero => simp at hn; subst hn; rfl
    | succ n =>
      have h1 := ih (k := k + 1) (n := n) (by simpa using hn)
      rw [show k + (n + 1) = k + 1 + n by omega]
      simpa [zW] using h1
theorem zW_len {b b0 : Nat} {cy : Nat → ClassId} {h : XH} : ∀ {k : Nat}, (zW b b0 cy k h).length = h.length := by
  induction h with
  | nil => intro k; rfl
  | cons x t ih => intro k; simp [zW, ih]
theorem zW_set {b b0 : Nat} {cy : Nat → ClassId} {h : XH} {c : XC} : ∀ {k n : Nat}, (zW b b0 cy k h).set n (b0 + (k + n), zEl b b0 cy c) = zW b b0 cy k (h.set n c) := by
  induction h with
  | nil => intro k n; rfl
  | cons x t ih =>
    intro k n
    cases n with
    | zero => rfl
    | succ n =>
      rw [show k + (n + 1) = k + 1 + n by omega]
      simp [zW, ih (k := k + 1) (n := n)]
theorem zW_app {b b0 : Nat} {cy : Nat → ClassId} {h : XH} {c : XC} : ∀ {k : Nat}, zW b b0 cy k (h ++ [c]) = zW b b0 cy k h ++ [(b0 + (k + h.length), zEl b b0 cy c)] := by
  induction h with
  | nil => intro k; rfl
  | cons x t ih =>
    intro k
    simp only [List.cons_append, zW, List.length_cons]
    rw [ih (k := k + 1), show k + (t.length + 1) = k + 1 + t.length by omega]
theorem zW_inv {b b0 : Nat} {cy : Nat → ClassId} {h : XH} {q : Nat × va_E} : ∀ {k n : Nat}, (zW b b0 cy k h)[n]? = some q → ∃ c, h[n]? = some c ∧ q = (b0 + (k + n), zEl b b0 cy c) := by
  intro k n hq
  have hl : n < h.length := by
    have := (List.getElem?_eq_some_iff.mp hq).1
    rwa [zW_len] at this
  have h1 : h[n]? = some h[n] := List.getElem?_eq_getElem hl
  have h2 := zW_at (b := b) (b0 := b0) (cy := cy) (k := k) h1
  exact ⟨_, h1, Option.some.inj (hq.symm.trans h2)⟩
theorem zEl_obj {b b0 : Nat} {cy : Nat → ClassId} {c : XC} (h : c.1 < 12) : zEl b b0 cy c = .inr (c.1, (List.range c.2.1).map (fun j => zcv b b0 (c.2.2 j))) := by unfold zEl; rw [if_pos h]
theorem zEl_J {b b0 : Nat} {cy : Nat → ClassId} {c : XC} (h : c.1 = 13) : zEl b b0 cy c = .inl (cy 13, c.2.1, .inr (.inl (fun j => xJ (c.2.2 j)))) := by unfold zEl; rw [if_neg (by omega), if_pos h, h]
theorem zEl_I {b b0 : Nat} {cy : Nat → ClassId} {c : XC} (h : c.1 = 12) : zEl b b0 cy c = .inl (cy 12, c.2.1, .inl (fun j => xI (c.2.2 j))) := by unfold zEl; rw [if_neg (by omega), if_neg (by omega), if_pos (by omega), h]
theorem zEl_Z {b b0 : Nat} {cy : Nat → ClassId} {c : XC} (h : c.1 = 14) : zEl b b0 cy c = .inl (cy 14, c.2.1, .inl (fun j => xI (c.2.2 j))) := by unfold zEl; rw [if_neg (by omega), if_neg (by omega), if_pos (by omega), h]
theorem zEl_Q {b b0 : Nat} {cy : Nat → ClassId} {c : XC} (h : 15 ≤ c.1) : zEl b b0 cy c = .inl (cy c.1, c.2.1, .inr (.inr (.inr (.inr (fun j => (xR (c.2.2 j)).map (zad b b0)))))) := by unfold zEl; rw [if_neg (by omega), if_neg (by omega), if_neg (by omega)]
def zA (H0 : Heap) : Nat → Prop := fun q => H0.size ≤ q
def zSt (D : va_G) (cy : Nat → ClassId) (b : Nat) (H0 : Heap) (h : XH) (H : Heap) (locs : List Loc) : Prop :=
  va_P D vwCl (zW b H0.size cy 0 h) H ∧ va_D (zA H0) (zW b H0.size cy 0 h) ∧ va_S (zA H0) H0 H locs
theorem zSt.lo {D : va_G} {cy : Nat → ClassId} {b : Nat} {H0 H : Heap} {h : XH} {locs : List Loc} (S : zSt D cy b H0 h H locs) : H0.size + h.length ≤ H.size := by
  obtain ⟨hP, -, hS⟩ := S
  cases hl : h.length with
  | zero => exact hS.1
  | succ n =>
    have h1 : h[n]? = some h[n] := List.getElem?_eq_getElem (by omega)
    have h2 := (hP n _ (zW_at (k := 0) h1)).lt
    simp only at h2
    omega
/-- the classes, by their places -/
def zFtok (t : Nat) (ty : FieldType) (fin : Bool) : Bool := match t, ty with
  | 0, .int => !fin
  | 1, .boolean => !fin
  | 2, .object _ => !fin
  | 2, .array _ => !fin
  | 3, .object _ => fin
  | 3, .array _ => fin
  | _, _ => false
def zty (r : vw_C) (k : Nat) : FieldType := (parseFieldDescriptor (r.2.1 k).2.2.1).getD .int
def zCls (ci : Nat) (r : vw_C) : Bool :=
  (u_ws r.1 r.2.1 r.2.2).all (fun w => decide (w ∈ lw_tbl)) && (List.range r.2.2).all (fun k => decide (parseFieldDescriptor (r.2.1 k).2.2.1 = some (zty r k)) && (decide ((r.2.1 k).1 = r.1) && zFtok (zFt ci k) (zty r k) (r.2.1 k).2.2.2))
  && (List.range r.2.2).all (fun k => (List.range r.2.2).all (fun j => k == j || !((r.2.1 k).2.1 == (r.2.1 j).2.1))) && decide ((zFts.getD ci []).length = r.2.2) && decide (Cond.instantiable r.1 r.2.2 ∈ lw_tbl) && decide (Cond.initialized r.1 ∈ lw_tbl) && decide (zNm ci = r.1)
set_option maxRecDepth 100000 in
theorem zCls_all : (List.range 12).all (fun ci => match vwCl[ci]? with | some r => zCls ci r | none => false) = true := by decide +kernel
theorem zCls_at {ci : Nat} {r : vw_C} (h : vwCl[ci]? = some r) : zCls ci r = true := by
  have hl : ci < 12 := (List.getElem?_eq_some_iff.mp h).1
  have := List.all_eq_true.mp zCls_all ci (List.mem_range.mpr hl)
  rw [h] at this
  exact this
theorem zCls_use {ci : Nat} {r : vw_C} (h : vwCl[ci]? = some r) : ci < 12 ∧ (∀ w ∈ u_ws r.1 r.2.1 r.2.2, w ∈ lw_tbl) ∧ (∀ k, k < r.2.2 → parseFieldDescriptor (r.2.1 k).2.2.1 = some (zty r k)) ∧ (∀ k, k < r.2.2 → (r.2.1 k).1 = r.1) ∧ (∀ k, k < r.2.2 → zFtok (zFt ci k) (zty r k) (r.2.1 k).2.2.2 = true)
    ∧ (∀ a, a < r.2.2 → ∀ j, j < r.2.2 → a ≠ j → (r.2.1 a).2.1 ≠ (r.2.1 j).2.1) ∧ (zFts.getD ci []).length = r.2.2 ∧ Cond.instantiable r.1 r.2.2 ∈ lw_tbl ∧ Cond.initialized r.1 ∈ lw_tbl ∧ zNm ci = r.1 := by
  have h1 := zCls_at h
  simp only [zCls, Bool.and_eq_true, List.all_eq_true, decide_eq_true_eq, List.mem_range] at h1
  obtain ⟨⟨⟨⟨⟨⟨h1, h2⟩, h3⟩, h4⟩, h5⟩, h6⟩, h7⟩ := h1
  refine ⟨(List.getElem?_eq_some_iff.mp h).1, h1, fun k hk => (h2 k hk).1, fun k hk => (h2 k hk).2.1, fun k hk => (h2 k hk).2.2, fun a ha j hj hne => ?_, h4, h5, h6, h7⟩
  have := h3 a ha j hj
  simp [hne] at this
  exact this
/-- the links, by their places -/
theorem zFl_all : zFl.all (fun q => match vwCl[q.2.2.1]? with | some r => decide (q.2.2.2 < r.2.2) && decide (Cond.fieldLink (zNm q.1) q.2.1 r.1 (r.2.1 q.2.2.2).2.1 (r.2.1 q.2.2.2).2.2.1 ∈ lw_tbl) | none => false) = true := by decide +kernel
theorem zFl_use {pos o i ci k : Nat} (h : zFl[pos]? = some (o, i, ci, k)) : ∃ r, vwCl[ci]? = some r ∧ k < r.2.2 ∧ Cond.fieldLink (zNm o) i r.1 (r.2.1 k).2.1 (r.2.1 k).2.2.1 ∈ lw_tbl := by
  have h1 := List.all_eq_true.mp zFl_all _ (List.mem_of_getElem? h)
  dsimp only at h1
  split at h1
  · rename_i r hr
    simp only [Bool.and_eq_true, decide_eq_true_eq] at h1
    exact ⟨r, hr, h1.1, h1.2⟩
  · cases h1
theorem zNl_all : zNl.all (fun q => match vwCl[q.2.2]? with | some r => decide (Cond.classLink (zNm q.1) q.2.1 r.1 ∈ lw_tbl) | none => false) = true := by decide +kernel
theorem zNl_use {pos o i ci : Nat} (h : zNl[pos]? = some (o, i, ci)) : ∃ r, vwCl[ci]? = some r ∧ Cond.classLink (zNm o) i r.1 ∈ lw_tbl := by
  have h1 := List.all_eq_true.mp zNl_all _ (List.mem_of_getElem? h)
  dsimp only at h1
  split at h1
  · rename_i r hr
    exact ⟨r, hr, by simpa using h1⟩
  · cases h1
theorem zAl_all : zAl.all (fun q => decide (15 ≤ q.2.2) && decide (q.2.2 ≤ 18) && decide (Cond.classLink (zNm q.1) q.2.1 (zNm (zAe q.2.2)) ∈ lw_tbl) && decide (Cond.arrayOver (.object (zNm (zAe q.2.2))) ∈ lw_tbl)) = true := by decide +kernel
theorem zAl_use {pos o i k : Nat} (h : zAl[pos]? = some (o, i, k)) : 15 ≤ k ∧ k ≤ 18 ∧ Cond.classLink (zNm o) i (zNm (zAe k)) ∈ lw_tbl ∧ Cond.arrayOver (.object (zNm (zAe k))) ∈ lw_tbl := by
  have h1 := List.all_eq_true.mp zAl_all _ (List.mem_of_getElem? h)
  simp only [Bool.and_eq_true, decide_eq_true_eq] at h1
  exact ⟨h1.1.1.1, h1.1.1.2, h1.1.2, h1.2⟩
theorem zKl_all : zKl.all (fun q => decide (Cond.constant (zNm q.1) q.2.1 (Int32.ofInt q.2.2) ∈ lw_tbl)) = true := by decide +kernel
theorem zKl_use {pos o i : Nat} {v : Int} (h : zKl[pos]? = some (o, i, v)) : Cond.constant (zNm o) i (Int32.ofInt v) ∈ lw_tbl := by
  have h1 := List.all_eq_true.mp zKl_all _ (List.mem_of_getElem? h)
  simpa using h1
theorem zLl_all : zLl.all (fun q => decide (Cond.constantLong (zNm q.1) q.2.1 (Int64.ofInt q.2.2) ∈ lw_tbl)) = true := by decide +kernel
theorem zLl_use {pos o i : Nat} {v : Int} (h : zLl[pos]? = some (o, i, v)) : Cond.constantLong (zNm o) i (Int64.ofInt v) ∈ lw_tbl := by
  have h1 := List.all_eq_true.mp zLl_all _ (List.mem_of_getElem? h)
  simpa using h1
/-- a call's words: 0 virtual, 1 static, 2 a constructor, 3 a nest mate's static, 4 a nest mate's constructor, 5 Object's constructor, 6 arraycopy -/
def zCok (o i cal k : Nat) (n : Int) (host : String) : Bool := match k with
  | 0 => decide (Cond.methodLink (zNm o) i (zMy cal) ∈ lw_tbl) && decide (Cond.instanceMethod (zMy cal) ∈ lw_tbl) && decide (Cond.selects (zMn cal) (zMy cal) (zMy cal) ∈ lw_tbl) && decide ((parseMethodDescriptor (zMy cal).desc).map (fun d => d.parameters.length + 1) = some n.toNat) && decide (zMo cal < 12)
  | 1 => decide (Cond.methodLink (zNm o) i (zMy cal) ∈ lw_tbl) && decide (Cond.static (zMy cal) ∈ lw_tbl) && decide ((parseMethodDescriptor (zMy cal).desc).map (fun d => d.parameters.length) = some n.toNat)
  | 2 => decide (Cond.methodLink (zNm o) i (zMy cal) ∈ lw_tbl) && decide (Cond.instanceMethod (zMy cal) ∈ lw_tbl) && decide ((zMrow cal).2.1 = "<init>") && decide ((parseMethodDescriptor (zMy cal).desc).map (fun d => d.parameters.length + 1) = some n.toNat) && decide (zMo cal < 12) && decide (zMr cal = none)
  | 3 => decide (Cond.methodLinkNest (zNm o) i (zMy cal) host ∈ lw_tbl) && decide (Cond.static (zMy cal) ∈ lw_tbl) && decide ((parseMethodDescriptor (zMy cal).desc).map (fun d => d.parameters.length) = some n.toNat)
  | 4 => decide (Cond.methodLinkNest (zNm o) i (zMy cal) host ∈ lw_tbl) && decide (Cond.instanceMethod (zMy cal) ∈ lw_tbl) && decide ((zMrow cal).2.1 = "<init>") && decide ((parseMethodDescriptor (zMy cal).desc).map (fun d => d.parameters.length + 1) = some n.toNat) && decide (zMo cal < 12) && decide (zMr cal = none)
  | 5 => decide (Cond.methodLink (zNm o) i objectInit ∈ lw_tbl)
  | 6 => decide (Cond.methodLink (zNm o) i arraycopyName ∈ lw_tbl)
  | _ => false
def zCgen (cal : Nat) : Bool := decide (Cond.code (zMy cal) (zMb cal) (zMl cal) (zMr cal) ∈ lw_tbl) && decide (Cond.initialized (zMn cal) ∈ lw_tbl) && decide ((zMy cal).cls ≠ "java/lang/invoke/MethodHandle") && decide ((zMy cal).cls ≠ "java/lang/invoke/VarHandle") && decide (zMl cal ≤ 25) && decide (plainName (zMy cal).cls = true) && decide (cal < 194)
theorem zCl_all : zCl.all (fun q => zCok q.1 q.2.1 q.2.2.1 q.2.2.2.1 q.2.2.2.2.1 q.2.2.2.2.2 && (decide (5 ≤ q.2.2.2.1) || zCgen q.2.2.1)) = true := by decide +kernel
theorem zCl_use {o i : Nat} {en : zE} (h : zLkc o i en = true) : ∃ host, zCok o i en.2.1 en.2.2.1 en.2.2.2.1 host = true ∧ (en.2.2.1 < 5 → zCgen en.2.1 = true) := by
  unfold zLkc at h
  split at h
  · rename_i r hr
    simp only [Bool.and_eq_true, beq_iff_eq] at h
    obtain ⟨h1, h2, h3, h4, h5⟩ := h
    have h6 := List.all_eq_true.mp zCl_all _ (List.mem_of_getElem? hr)
    simp only [Bool.and_eq_true, Bool.or_eq_true, decide_eq_true_eq] at h6
    rw [h1, h2, h3, h4, h5] at h6
    exact ⟨_, h6.1, fun h => h6.2.resolve_left (by omega)⟩
  · cases h
theorem zNat_words : Cond.instanceMethod objectInit ∈ lw_tbl ∧ Cond.code objectInit ⟨#[0xb1]⟩ 1 none ∈ lw_tbl ∧ Cond.native arraycopyName ∈ lw_tbl ∧ Cond.static arraycopyName ∈ lw_tbl ∧ Cond.initialized "java/lang/System" ∈ lw_tbl ∧ Cond.arrayClass .int ∈ lw_tbl ∧ Cond.arrayClass .long ∈ lw_tbl ∧ Cond.arrayClass .boolean ∈ lw_tbl := by decide +kernel
theorem zTbl_good : lw_tbl.all goodWord = true := by decide +kernel
