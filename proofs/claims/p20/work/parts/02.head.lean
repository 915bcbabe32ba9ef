/-- the length of an instruction (switches apart) -/
def zLen : Instr → Nat
  | .aload _ => 2 | .astore _ => 2 | .bipush _ => 2 | .iload _ => 2 | .istore _ => 2 | .ldc _ => 2 | .lload _ => 2 | .lstore _ => 2 | .newarray _ => 2
  | .anewarray _ => 3 | .getfield _ => 3 | .goto _ => 3 | .if_icmp _ _ => 3 | .ifCond _ _ => 3 | .iinc _ _ => 3 | .invokespecial _ => 3 | .invokestatic _ => 3 | .invokevirtual _ => 3
  | .ldc_w _ => 3 | .ldc2_w _ => 3 | .new _ => 3 | .putfield _ => 3 | .sipush _ => 3
  | _ => 1
def zMrow (m : Nat) : Nat × String × String × Nat × Option FieldType × Nat × Nat := zMT.getD m (0, "", "", 0, none, 0, 0)
abbrev zMo (m : Nat) : Nat := (zMrow m).1
def zBy : Jvm.Cond → ByteArray
  | .code _ b _ _ => b
  | _ => ByteArray.empty
def zMb (m : Nat) : ByteArray := if m = zLawI then code else zBy (lw_tbl.getD (zMrow m).2.2.2.2.2.1 .tt)
abbrev zMl (m : Nat) : Nat := (zMrow m).2.2.2.1
abbrev zMr (m : Nat) : Option FieldType := (zMrow m).2.2.2.2.1
abbrev zMn (m : Nat) : String := zNm (zMo m)
abbrev zMy (m : Nat) : MethodName := ⟨zNm (zMo m), (zMrow m).2.1, (zMrow m).2.2.1⟩
/-- the code of a method at a place -/
def zc (m pc : Nat) : Option zE := ((zCs[m]?).bind (fun l => l[pc]?)).join
/-- what an entry of the lists must be: what is decoded there, and a link that the tables have -/
def zLkc (o i : Nat) (e : zE) : Bool := match zCl[e.2.2.2.2]? with
  | some r => r.1 == o && (r.2.1 == i && (r.2.2.1 == e.2.1 && (r.2.2.2.1 == e.2.2.1 && r.2.2.2.2.1 == e.2.2.2.1)))
  | none => false
def zLink (o : Nat) (e : zE) : Bool := match e.1 with
  | .getfield i => decide (zFl[e.2.2.2.2]? = some (o, i, e.2.1, e.2.2.1))
  | .putfield i => decide (zFl[e.2.2.2.2]? = some (o, i, e.2.1, e.2.2.1))
  | .invokevirtual i => zLkc o i e && e.2.2.1 == 0
  | .invokestatic i => zLkc o i e && (e.2.2.1 == 1 || (e.2.2.1 == 3 || Nat.ble 6 e.2.2.1))
  | .invokespecial i => zLkc o i e && (e.2.2.1 == 2 || (e.2.2.1 == 4 || e.2.2.1 == 5))
  | .new i => decide (zNl[e.2.2.2.2]? = some (o, i, e.2.1))
  | .anewarray i => decide (zAl[e.2.2.2.2]? = some (o, i, e.2.1))
  | .ldc i => decide (zKl[e.2.2.2.2]? = some (o, i, e.2.2.2.1))
  | .ldc_w i => decide (zKl[e.2.2.2.2]? = some (o, i, e.2.2.2.1))
  | .ldc2_w i => decide (zLl[e.2.2.2.2]? = some (o, i, e.2.2.2.1))
  | .newarray t => match t with | .int => e.2.1 == 12 | .long => e.2.1 == 13 | .boolean => e.2.1 == 14 | _ => false
  | _ => true
def xsw (i : Instr) : Bool := match i with
  | .tableswitch _ _ _ _ => true
  | .lookupswitch _ _ => true
  | _ => false
def xbrl (i : Instr) (pc tgt ln : Nat) : Bool := match i with
  | .goto off => decide ((pc : Int) + off = tgt) && decide (ln = 3)
  | .if_icmp _ off => decide ((pc : Int) + off = tgt) && decide (ln = 3)
  | .ifCond _ off => decide ((pc : Int) + off = tgt) && decide (ln = 3)
  | .lookupswitch _ ps => (ps.toList.zip (ps.toList.drop 1)).all (fun (a, next) => decide (a.1 < next.1))
  | _ => true
def zDec (b : ByteArray) (pc : Nat) (e : zE) : Bool := match decode b pc with
  | .ok (i, n) => decide (i = e.1) && ((xsw e.1 || n == zLen e.1) && xbrl e.1 pc e.2.1 n)
  | _ => false
theorem zDec_use {b : ByteArray} {pc : Nat} {e : zE} (h : zDec b pc e = true) : ∃ n, decode b pc = .ok (e.1, n) ∧ (xsw e.1 = false → n = zLen e.1) ∧ xbrl e.1 pc e.2.1 n = true := by
  unfold zDec at h
  split at h
  · rename_i i n hd
    simp only [Bool.and_eq_true, Bool.or_eq_true, decide_eq_true_eq, beq_iff_eq] at h
    obtain ⟨rfl, h2, h3⟩ := h
    exact ⟨n, hd, fun q => h2.resolve_left (by rw [q]; decide), h3⟩
  · cases h
def zChk (o : Nat) (b : ByteArray) : Nat → List (Option zE) → Bool
  | _, [] => true
  | pc, none :: l => zChk o b (pc + 1) l
  | pc, some e :: l => zDec b pc e && (zLink o e && zChk o b (pc + 1) l)
theorem zChk_at {o : Nat} {b : ByteArray} : ∀ {l : List (Option zE)} {p0 : Nat}, zChk o b p0 l = true → ∀ {k : Nat} {e : zE}, l[k]? = some (some e) → zDec b (p0 + k) e = true ∧ zLink o e = true := by
  intro l
  induction l with
  | nil => intro p0 _ k e h; simp at h
  | cons x l ih =>
    intro p0 h k e hk
    cases x with
    | none =>
      simp only [zChk] at h
      cases k with
      | zero => simp at hk
      | succ k =>
        have := ih h (k := k) (e := e) (by simpa using hk)
        rwa [show p0 + (k + 1) = p0 + 1 + k by omega]
    | some y =>
      simp only [zChk, Bool.and_eq_true] at h
      cases k with
      | zero =>
        simp at hk
        subst hk
        exact ⟨h.1, h.2.1⟩
      | succ k =>
        have := ih h.2.2 (k := k) (e := e) (by simpa using hk)
        rwa [show p0 + (k + 1) = p0 + 1 + k by omega]
def zCk (m : Nat) : Bool := zChk (zMo m) (zMb m) 0 (zCs.getD m [])
theorem zall_step {P : Nat → Prop} {n : Nat} (h : ∀ m, m < n → P m) (hn : P n) : ∀ m, m < n + 1 → P m := by
  intro m hm
  rcases Nat.lt_or_eq_of_le (Nat.le_of_lt_succ hm) with h1 | h1
  · exact h m h1
  · rw [h1]; exact hn
theorem zChk_app {o : Nat} {b : ByteArray} {l1 l2 : List (Option zE)} {p q : Nat} (hq : p + l1.length = q) (h1 : zChk o b p l1 = true) (h2 : zChk o b q l2 = true) : zChk o b p (l1 ++ l2) = true := by
  induction l1 generalizing p with
  | nil => simp at hq; subst hq; exact h2
  | cons x l ih =>
    cases x with
    | none =>
      simp only [zChk, List.cons_append] at h1 ⊢
      exact ih (by simp at hq; omega) h1
    | some y =>
      simp only [zChk, List.cons_append, Bool.and_eq_true] at h1 ⊢
      exact ⟨h1.1, h1.2.1, ih (by simp at hq; omega) h1.2.2⟩
theorem zCk_of {m : Nat} {l : List (Option zE)} (h : zCs[m]? = some l) (hc : zChk (zMo m) (zMb m) 0 l = true) : zCk m = true := by
  unfold zCk
  rw [List.getD_eq_getElem?_getD, h]
  exact hc
