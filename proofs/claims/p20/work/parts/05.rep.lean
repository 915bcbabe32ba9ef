/-! how a list of cells lies in the heap -/
def zsl (h : XH) : Nat := (h.map (fun c => c.2.1)).sum
def zad (b b0 : Nat) : Nat → Nat
  | 0 => b
  | n + 1 => b0 + n
def zcv (b b0 : Nat) : Value → Value
  | .ref n => .ref (zad b b0 n)
  | v => v
theorem zcv_cat {b b0 : Nat} (v : Value) : (zcv b b0 v).category = v.category := by cases v <;> rfl
def zTys (cy : Nat → ClassId) : List (ClassId × FieldType) := [(cy 12, .int), (cy 13, .long), (cy 14, .boolean), (cy 15, .object "WaterCity$Boat"), (cy 16, .object "WaterCity$House"), (cy 17, .object "WaterCity$Law"), (cy 18, .object "WaterCity$Shelf")]
def zEl (b b0 : Nat) (cy : Nat → ClassId) (c : XC) : va_E :=
  if c.1 < 12 then .inr (c.1, (List.range c.2.1).map (fun j => zcv b b0 (c.2.2 j)))
  else if c.1 = 13 then .inl (cy c.1, c.2.1, .inr (.inl (fun j => xJ (c.2.2 j))))
  else if c.1 < 15 then .inl (cy c.1, c.2.1, .inl (fun j => xI (c.2.2 j)))
  else .inl (cy c.1, c.2.1, .inr (.inr (.inr (.inr (fun j => (xR (c.2.2 j)).map (zad b b0))))))
def zW (b b0 : Nat) (cy : Nat → ClassId) : Nat → XH → va_W
  | _, [] => []
  | k, c :: t => (b0 + k, zEl b b0 cy c) :: zW b b0 cy (k + 1) t
theorem zW_at {b b0 : Nat} {cy : Nat → ClassId} {h : XH} {c : XC} : ∀ {k n : Nat}, h[n]? = some c → (zW b b0 cy k h)[n]? = some (b0 + (k + n), zEl b b0 cy c) := by
  induction h with
  | nil => intro k n h; simp at h
  | cons x t ih =>
    intro k n hn
    cases n with
    | zero => simp at hn; subst hn; rfl
    | succ n =>
      have h1 := ih (k := k + 1) (n := n) (by simpa using hn)
      rw [show k + (n + 1) = k + 1 + n by omega]
      simpa [zW] using h1
theorem zW_len {b b0 : Nat} {cy : Nat → ClassId} {h : XH} : ∀ {k : Nat}, (zW b b0 cy k h).length = h.length := by
  induction h with
  | nil => intro k; rfl
  | cons x t ih => intro k; simp [zW, ih]
theorem zW_set {b b0 : Nat} {cy : Nat → ClassId} {h : XH} {c : XC} : ∀ {k n : Nat}, (zW b b0 cy k h).set n (b0 + (k + n), zEl b b0 cy c) = zW b b0 cy k (h.set n c) := by
  induction h with
  | nil => intro k n; rfl
  | cons x t ih =>
    intro k n
    cases n with
    | zero => rfl
    | succ n =>
      rw [show k + (n + 1) = k + 1 + n by omega]
      simp [zW, ih (k := k + 1) (n := n)]
theorem zW_app {b b0 : Nat} {cy : Nat → ClassId} {h : XH} {c : XC} : ∀ {k : Nat}, zW b b0 cy k (h ++ [c]) = zW b b0 cy k h ++ [(b0 + (k + h.length), zEl b b0 cy c)] := by
  induction h with
  | nil => intro k; rfl
  | cons x t ih =>
    intro k
    simp only [List.cons_append, zW, List.length_cons]
    rw [ih (k := k + 1), show k + (t.length + 1) = k + 1 + t.length by omega]
theorem zW_inv {b b0 : Nat} {cy : Nat → ClassId} {h : XH} {q : Nat × va_E} : ∀ {k n : Nat}, (zW b b0 cy k h)[n]? = some q → ∃ c, h[n]? = some c ∧ q = (b0 + (k + n), zEl b b0 cy c) := by
  intro k n hq
  have hl : n < h.length := by
    have := (List.getElem?_eq_some_iff.mp hq).1
    rwa [zW_len] at this
  have h1 : h[n]? = some h[n] := List.getElem?_eq_getElem hl
  have h2 := zW_at (b := b) (b0 := b0) (cy := cy) (k := k) h1
  exact ⟨_, h1, Option.some.inj (hq.symm.trans h2)⟩
theorem zEl_obj {b b0 : Nat} {cy : Nat → ClassId} {c : XC} (h : c.1 < 12) : zEl b b0 cy c = .inr (c.1, (List.range c.2.1).map (fun j => zcv b b0 (c.2.2 j))) := by unfold zEl; rw [if_pos h]
theorem zEl_J {b b0 : Nat} {cy : Nat → ClassId} {c : XC} (h : c.1 = 13) : zEl b b0 cy c = .inl (cy 13, c.2.1, .inr (.inl (fun j => xJ (c.2.2 j)))) := by unfold zEl; rw [if_neg (by omega), if_pos h, h]
theorem zEl_I {b b0 : Nat} {cy : Nat → ClassId} {c : XC} (h : c.1 = 12) : zEl b b0 cy c = .inl (cy 12, c.2.1, .inl (fun j => xI (c.2.2 j))) := by unfold zEl; rw [if_neg (by omega), if_neg (by omega), if_pos (by omega), h]
theorem zEl_Z {b b0 : Nat} {cy : Nat → ClassId} {c : XC} (h : c.1 = 14) : zEl b b0 cy c = .inl (cy 14, c.2.1, .inl (fun j => xI (c.2.2 j))) := by unfold zEl; rw [if_neg (by omega), if_neg (by omega), if_pos (by omega), h]
theorem zEl_Q {b b0 : Nat} {cy : Nat → ClassId} {c : XC} (h : 15 ≤ c.1) : zEl b b0 cy c = .inl (cy c.1, c.2.1, .inr (.inr (.inr (.inr (fun j => (xR (c.2.2 j)).map (zad b b0)))))) := by unfold zEl; rw [if_neg (by omega), if_neg (by omega), if_neg (by omega)]
def zA (H0 : Heap) : Nat → Prop := fun q => H0.size ≤ q
def zSt (D : va_G) (cy : Nat → ClassId) (b : Nat) (H0 : Heap) (h : XH) (H : Heap) (locs : List Loc) : Prop :=
  va_P D vwCl (zW b H0.size cy 0 h) H ∧ va_D (zA H0) (zW b H0.size cy 0 h) ∧ va_S (zA H0) H0 H locs
theorem zSt.lo {D : va_G} {cy : Nat → ClassId} {b : Nat} {H0 H : Heap} {h : XH} {locs : List Loc} (S : zSt D cy b H0 h H locs) : H0.size + h.length ≤ H.size := by
  obtain ⟨hP, -, hS⟩ := S
  cases hl : h.length with
  | zero => exact hS.1
  | succ n =>
    have h1 : h[n]? = some h[n] := List.getElem?_eq_getElem (by omega)
    have h2 := (hP n _ (zW_at (k := 0) h1)).lt
    simp only at h2
    omega
/-- the classes, by their places -/
def zFtok (t : Nat) (ty : FieldType) (fin : Bool) : Bool := match t, ty with
  | 0, .int => !fin
  | 1, .boolean => !fin
  | 2, .object _ => !fin
  | 2, .array _ => !fin
  | 3, .object _ => fin
  | 3, .array _ => fin
  | _, _ => false
def zty (r : vw_C) (k : Nat) : FieldType := (parseFieldDescriptor (r.2.1 k).2.2.1).getD .int
/-- words that keep, by their places -/
def zIn (p : Nat) (w : Cond) : Bool := decide (lw_tbl[p]? = some w) && goodWord w
def zI0 (p : Nat) (w : Cond) : Bool := decide (lw_tbl[p]? = some w)
def zWd : List Cond := lw_tbl.filter goodWord
theorem zIn_mem {p : Nat} {w : Cond} (h : zIn p w = true) : w ∈ zWd := by
  simp only [zIn, Bool.and_eq_true, decide_eq_true_eq] at h
  exact List.mem_filter.mpr ⟨List.mem_of_getElem? h.1, h.2⟩
theorem zI0_mem {p : Nat} {w : Cond} (h : zI0 p w = true) : w ∈ lw_tbl := by
  simp only [zI0, decide_eq_true_eq] at h
  exact List.mem_of_getElem? h
def zCls (ci : Nat) (r : vw_C) : Bool := match zXp[ci]? with
  | none => false
  | some x =>
  (List.range r.2.2).all (fun k => zIn (x.2.2.getD k 0) (u_lay r.1 r.2.1 k)) && (List.range r.2.2).all (fun k => decide (parseFieldDescriptor (r.2.1 k).2.2.1 = some (zty r k)) && (decide ((r.2.1 k).1 = r.1) && zFtok (zFt ci k) (zty r k) (r.2.1 k).2.2.2))
  && (List.range r.2.2).all (fun k => (List.range r.2.2).all (fun j => k == j || !((r.2.1 k).2.1 == (r.2.1 j).2.1))) && decide ((zFts.getD ci []).length = r.2.2) && zIn x.1 (Cond.instantiable r.1 r.2.2) && zIn x.2.1 (Cond.initialized r.1) && decide (zNm ci = r.1)
set_option maxRecDepth 100000 in
theorem zCls_all : (List.range 12).all (fun ci => match vwCl[ci]? with | some r => zCls ci r | none => false) = true := by decide +kernel
theorem zCls_at {ci : Nat} {r : vw_C} (h : vwCl[ci]? = some r) : zCls ci r = true := by
  have hl : ci < 12 := (List.getElem?_eq_some_iff.mp h).1
  have := List.all_eq_true.mp zCls_all ci (List.mem_range.mpr hl)
  rw [h] at this
  exact this
theorem zCls_use {ci : Nat} {r : vw_C} (h : vwCl[ci]? = some r) : ci < 12 ∧ (∀ w ∈ u_ws r.1 r.2.1 r.2.2, w ∈ zWd) ∧ (∀ k, k < r.2.2 → parseFieldDescriptor (r.2.1 k).2.2.1 = some (zty r k)) ∧ (∀ k, k < r.2.2 → (r.2.1 k).1 = r.1) ∧ (∀ k, k < r.2.2 → zFtok (zFt ci k) (zty r k) (r.2.1 k).2.2.2 = true)
    ∧ (∀ a, a < r.2.2 → ∀ j, j < r.2.2 → a ≠ j → (r.2.1 a).2.1 ≠ (r.2.1 j).2.1) ∧ (zFts.getD ci []).length = r.2.2 ∧ Cond.instantiable r.1 r.2.2 ∈ zWd ∧ Cond.initialized r.1 ∈ zWd ∧ zNm ci = r.1 := by
  have h1 := zCls_at h
  unfold zCls at h1
  split at h1
  · cases h1
  simp only [Bool.and_eq_true, List.all_eq_true, decide_eq_true_eq, List.mem_range] at h1
  obtain ⟨⟨⟨⟨⟨⟨h1, h2⟩, h3⟩, h4⟩, h5⟩, h6⟩, h7⟩ := h1
  refine ⟨(List.getElem?_eq_some_iff.mp h).1, fun w hw => ?_, fun k hk => (h2 k hk).1, fun k hk => (h2 k hk).2.1, fun k hk => (h2 k hk).2.2, fun a ha j hj hne => ?_, h4, zIn_mem h5, zIn_mem h6, h7⟩
  · unfold u_ws at hw
    obtain ⟨k, hk, rfl⟩ := List.mem_map.mp hw
    exact zIn_mem (h1 k (List.mem_range.mp hk))
  have := h3 a ha j hj
  simp [hne] at this
  exact this
/-- the links, by their places -/
theorem z_par {α β : Type} {f : α → β → Bool} {l : List α} {m : List β} (h : (l.zip m).all (fun q => f q.1 q.2) = true) (hl : l.length ≤ m.length) {i : Nat} {a : α} (ha : l[i]? = some a) : ∃ b, f a b = true := by
  have hi : i < l.length := (List.getElem?_eq_some_iff.mp ha).1
  have hm : m[i]? = some m[i] := List.getElem?_eq_getElem (by omega)
  have hz : (l.zip m)[i]? = some (a, m[i]) := by rw [List.getElem?_zip_eq_some]; exact ⟨ha, hm⟩
  exact ⟨_, List.all_eq_true.mp h _ (List.mem_of_getElem? hz)⟩
def zFck (q : Nat × Nat × Nat × Nat) (p : Nat) : Bool := match vwCl[q.2.2.1]? with
  | some r => decide (q.2.2.2 < r.2.2) && zIn p (Cond.fieldLink (zNm q.1) q.2.1 r.1 (r.2.1 q.2.2.2).2.1 (r.2.1 q.2.2.2).2.2.1)
  | none => false
theorem zFl_all : (zFl.zip zFp).all (fun q => zFck q.1 q.2) = true := by decide +kernel
theorem zFl_use {pos o i ci k : Nat} (h : zFl[pos]? = some (o, i, ci, k)) : ∃ r, vwCl[ci]? = some r ∧ k < r.2.2 ∧ Cond.fieldLink (zNm o) i r.1 (r.2.1 k).2.1 (r.2.1 k).2.2.1 ∈ zWd := by
  obtain ⟨p, h1⟩ := z_par zFl_all (by decide +kernel) h
  unfold zFck at h1
  dsimp only at h1
  split at h1
  · rename_i r hr
    simp only [Bool.and_eq_true, decide_eq_true_eq] at h1
    exact ⟨r, hr, h1.1, zIn_mem h1.2⟩
  · cases h1
def zNck (q : Nat × Nat × Nat) (p : Nat) : Bool := match vwCl[q.2.2]? with
  | some r => zIn p (Cond.classLink (zNm q.1) q.2.1 r.1)
  | none => false
theorem zNl_all : (zNl.zip zNp).all (fun q => zNck q.1 q.2) = true := by decide +kernel
theorem zNl_use {pos o i ci : Nat} (h : zNl[pos]? = some (o, i, ci)) : ∃ r, vwCl[ci]? = some r ∧ Cond.classLink (zNm o) i r.1 ∈ zWd := by
  obtain ⟨p, h1⟩ := z_par zNl_all (by decide +kernel) h
  unfold zNck at h1
  dsimp only at h1
  split at h1
  · rename_i r hr
    exact ⟨r, hr, zIn_mem h1⟩
  · cases h1
def zAck (q : Nat × Nat × Nat) (p : Nat) : Bool := decide (15 ≤ q.2.2) && decide (q.2.2 ≤ 18) && zIn p (Cond.classLink (zNm q.1) q.2.1 (zNm (zAe q.2.2))) && decide (Cond.arrayOver (.object (zNm (zAe q.2.2))) ∈ lw_tbl)
theorem zAl_all : (zAl.zip zAp).all (fun q => zAck q.1 q.2) = true := by decide +kernel
theorem zAl_use {pos o i k : Nat} (h : zAl[pos]? = some (o, i, k)) : 15 ≤ k ∧ k ≤ 18 ∧ Cond.classLink (zNm o) i (zNm (zAe k)) ∈ zWd ∧ Cond.arrayOver (.object (zNm (zAe k))) ∈ lw_tbl := by
  obtain ⟨p, h1⟩ := z_par zAl_all (by decide +kernel) h
  simp only [zAck, Bool.and_eq_true, decide_eq_true_eq] at h1
  exact ⟨h1.1.1.1, h1.1.1.2, zIn_mem h1.1.2, h1.2⟩
def zKck (q : Nat × Nat × Int) (p : Nat) : Bool := zIn p (Cond.constant (zNm q.1) q.2.1 (Int32.ofInt q.2.2))
theorem zKl_all : (zKl.zip zKp).all (fun q => zKck q.1 q.2) = true := by decide +kernel
theorem zKl_use {pos o i : Nat} {v : Int} (h : zKl[pos]? = some (o, i, v)) : Cond.constant (zNm o) i (Int32.ofInt v) ∈ zWd := by
  obtain ⟨p, h1⟩ := z_par zKl_all (by decide +kernel) h
  exact zIn_mem h1
def zLck (q : Nat × Nat × Int) (p : Nat) : Bool := zIn p (Cond.constantLong (zNm q.1) q.2.1 (Int64.ofInt q.2.2))
theorem zLl_all : (zLl.zip zLp).all (fun q => zLck q.1 q.2) = true := by decide +kernel
theorem zLl_use {pos o i : Nat} {v : Int} (h : zLl[pos]? = some (o, i, v)) : Cond.constantLong (zNm o) i (Int64.ofInt v) ∈ zWd := by
  obtain ⟨p, h1⟩ := z_par zLl_all (by decide +kernel) h
  exact zIn_mem h1
/-- a call's words: 0 virtual, 1 static, 2 a constructor, 3 a nest mate's static, 4 a nest mate's constructor, 5 Object's constructor, 6 arraycopy, 7 max, 8 min, 9 abs -/
def zNar (cal : Nat) (n : Int) (k : Nat) : Bool := decide ((parseMethodDescriptor (zMrow cal).2.2.1).map (fun d => d.parameters.length + k) = some n.toNat)
def zCok (q : Nat × Nat × Nat × Nat × Int × String) (p : Nat × Nat × Nat) : Bool := match q.2.2.2.1 with
  | 0 => zIn p.1 (Cond.methodLink (zNm q.1) q.2.1 (zMy q.2.2.1)) && (zIn p.2.1 (Cond.instanceMethod (zMy q.2.2.1)) && (zIn p.2.2 (Cond.selects (zMn q.2.2.1) (zMy q.2.2.1) (zMy q.2.2.1)) && (zNar q.2.2.1 q.2.2.2.2.1 1 && (decide (zMo q.2.2.1 < 12) && decide (q.2.2.1 < zLawI)))))
  | 1 => zIn p.1 (Cond.methodLink (zNm q.1) q.2.1 (zMy q.2.2.1)) && (zIn p.2.1 (Cond.static (zMy q.2.2.1)) && (zNar q.2.2.1 q.2.2.2.2.1 0 && decide (q.2.2.1 < zLawI)))
  | 2 => zIn p.1 (Cond.methodLink (zNm q.1) q.2.1 (zMy q.2.2.1)) && (zIn p.2.1 (Cond.instanceMethod (zMy q.2.2.1)) && (decide ((zMrow q.2.2.1).2.1 = "<init>") && (zNar q.2.2.1 q.2.2.2.2.1 1 && (decide (zMo q.2.2.1 < 12) && (decide (zMr q.2.2.1 = none) && decide (q.2.2.1 < zLawI))))))
  | 3 => zI0 p.1 (Cond.methodLinkNest (zNm q.1) q.2.1 (zMy q.2.2.1) q.2.2.2.2.2) && (zIn p.2.1 (Cond.static (zMy q.2.2.1)) && (zNar q.2.2.1 q.2.2.2.2.1 0 && decide (q.2.2.1 < zLawI)))
  | 4 => zI0 p.1 (Cond.methodLinkNest (zNm q.1) q.2.1 (zMy q.2.2.1) q.2.2.2.2.2) && (zIn p.2.1 (Cond.instanceMethod (zMy q.2.2.1)) && (decide ((zMrow q.2.2.1).2.1 = "<init>") && (zNar q.2.2.1 q.2.2.2.2.1 1 && (decide (zMo q.2.2.1 < 12) && (decide (zMr q.2.2.1 = none) && decide (q.2.2.1 < zLawI))))))
  | 5 => zIn p.1 (Cond.methodLink (zNm q.1) q.2.1 objectInit)
  | 6 => zIn p.1 (Cond.methodLink (zNm q.1) q.2.1 arraycopyName)
  | 7 => zIn p.1 (Cond.methodLink (zNm q.1) q.2.1 Lib.Math.max.name)
  | 8 => zIn p.1 (Cond.methodLink (zNm q.1) q.2.1 Lib.Math.min.name)
  | 9 => zIn p.1 (Cond.methodLink (zNm q.1) q.2.1 Lib.Math.abs.name)
  | _ => false
def zCod (w : Cond) (y : MethodName) (n : Nat) (ret : Option FieldType) : Bool := match w with
  | .code y' _ n' ret' => decide (y' = y) && decide (n' = n) && decide (ret' = ret)
  | _ => false
theorem zCod_eq {w : Cond} {y : MethodName} {n : Nat} {ret : Option FieldType} (h : zCod w y n ret = true) : w = Cond.code y (zBy w) n ret := by
  unfold zCod at h
  split at h
  · simp only [Bool.and_eq_true, decide_eq_true_eq] at h
    obtain ⟨⟨rfl, rfl⟩, rfl⟩ := h
    rfl
  · cases h
def zMck (cal : Nat) : Bool := match lw_tbl[(zMrow cal).2.2.2.2.2.1]? with
  | none => false
  | some w => zCod w (zMy cal) (zMl cal) (zMr cal) && (goodWord w && (zIn (zMrow cal).2.2.2.2.2.2 (Cond.initialized (zMn cal)) && (!(zMn cal == "java/lang/invoke/MethodHandle") && (!(zMn cal == "java/lang/invoke/VarHandle") && (decide (zMl cal ≤ 25) && plainName (zMn cal))))))
theorem zMck_all : (List.range zLawI).all zMck = true := by decide +kernel
theorem zMck_use {cal : Nat} (h : cal < zLawI) : Cond.code (zMy cal) (zMb cal) (zMl cal) (zMr cal) ∈ zWd ∧ Cond.initialized (zMn cal) ∈ zWd ∧ (zMn cal ≠ "java/lang/invoke/MethodHandle" ∧ zMn cal ≠ "java/lang/invoke/VarHandle") ∧ zMl cal ≤ 25 ∧ plainName (zMn cal) = true := by
  have h1 := List.all_eq_true.mp zMck_all cal (List.mem_range.mpr h)
  unfold zMck at h1
  split at h1
  · cases h1
  rename_i w hw
  simp only [Bool.and_eq_true, decide_eq_true_eq, Bool.not_eq_true', beq_eq_false_iff_ne] at h1
  have e1 : zMb cal = zBy w := by
    unfold zMb
    rw [if_neg (Nat.ne_of_lt h), List.getD_eq_getElem?_getD, hw]
    rfl
  refine ⟨?_, zIn_mem h1.2.2.1, ⟨h1.2.2.2.1, h1.2.2.2.2.1⟩, h1.2.2.2.2.2.1, h1.2.2.2.2.2.2⟩
  rw [e1, ← zCod_eq h1.1]
  exact List.mem_filter.mpr ⟨List.mem_of_getElem? hw, h1.2.1⟩
theorem zCl_all : (zCl.zip zCp).all (fun q => zCok q.1 q.2) = true := by decide +kernel
theorem zCl_use {o i : Nat} {en : zE} (h : zLkc o i en = true) : ∃ host p, zCok (o, i, en.2.1, en.2.2.1, en.2.2.2.1, host) p = true := by
  unfold zLkc at h
  split at h
  · rename_i r hr
    simp only [Bool.and_eq_true, beq_iff_eq] at h
    obtain ⟨r1, r2, r3, r4, r5, r6⟩ := r
    obtain ⟨rfl, rfl, rfl, rfl, rfl⟩ := h
    obtain ⟨p, h1⟩ := z_par zCl_all (by decide +kernel) hr
    exact ⟨_, _, h1⟩
  · cases h
def zOck : Bool := ([Cond.instanceMethod objectInit, Cond.code objectInit ⟨#[0xb1]⟩ 1 none, Cond.native arraycopyName, Cond.static arraycopyName, Cond.initialized "java/lang/System", Cond.static Lib.Math.max.name, Cond.static Lib.Math.min.name, Cond.static Lib.Math.abs.name, Cond.initialized "java/lang/Math", Cond.code Lib.Math.max.name Lib.Math.max.code 2 (some .int), Cond.code Lib.Math.min.name Lib.Math.min.code 2 (some .int), Cond.code Lib.Math.abs.name Lib.Math.abs.code 1 (some .int)].zip zOp).all (fun q => zIn q.2 q.1)
theorem zOck_all : zOck = true := by decide +kernel
theorem zNat_words : Cond.instanceMethod objectInit ∈ zWd ∧ Cond.code objectInit ⟨#[0xb1]⟩ 1 none ∈ zWd ∧ Cond.native arraycopyName ∈ zWd ∧ Cond.static arraycopyName ∈ zWd ∧ Cond.initialized "java/lang/System" ∈ zWd ∧ Cond.static Lib.Math.max.name ∈ zWd ∧ Cond.static Lib.Math.min.name ∈ zWd ∧ Cond.static Lib.Math.abs.name ∈ zWd ∧ Cond.initialized "java/lang/Math" ∈ zWd ∧ Cond.code Lib.Math.max.name Lib.Math.max.code 2 (some .int) ∈ zWd ∧ Cond.code Lib.Math.min.name Lib.Math.min.code 2 (some .int) ∈ zWd ∧ Cond.code Lib.Math.abs.name Lib.Math.abs.code 1 (some .int) ∈ zWd := by
  have h := zOck_all
  simp only [zOck, zOp, List.zip_cons_cons, List.all_cons, Bool.and_eq_true] at h
  exact ⟨zIn_mem h.1, zIn_mem h.2.1, zIn_mem h.2.2.1, zIn_mem h.2.2.2.1, zIn_mem h.2.2.2.2.1, zIn_mem h.2.2.2.2.2.1, zIn_mem h.2.2.2.2.2.2.1, zIn_mem h.2.2.2.2.2.2.2.1, zIn_mem h.2.2.2.2.2.2.2.2.1, zIn_mem h.2.2.2.2.2.2.2.2.2.1, zIn_mem h.2.2.2.2.2.2.2.2.2.2.1, zIn_mem h.2.2.2.2.2.2.2.2.2.2.2.1⟩
theorem zArr_words : Cond.arrayClass .int ∈ zWd ∧ Cond.arrayClass .long ∈ zWd ∧ Cond.arrayClass .boolean ∈ zWd := by
  refine ⟨List.mem_filter.mpr ⟨?_, rfl⟩, List.mem_filter.mpr ⟨?_, rfl⟩, List.mem_filter.mpr ⟨?_, rfl⟩⟩ <;> decide +kernel
