/-! the small machine's steps are the machine's -/
def zKn (D : va_G) (cy : Nat → ClassId) (b : Nat) (H0 : Heap) (xs : Nat × (Nat → Int32)) (U : State) : Prop :=
  va_K D vwCl (zTys cy) U ∧ va_X b (xs.1 - 1) xs.2 U H0 ∧ (∀ (a : String) (i : Nat) (x : MethodName) (h : String), Cond.methodLinkNest a i x h ∈ lw_tbl → va_Nw (.methodLinkNest a i x h) U) ∧ ∀ C : String, Cond.arrayOver (.object C) ∈ lw_tbl → va_AO C U
theorem zKn.warm {D : va_G} {cy : Nat → ClassId} {b : Nat} {H0 : Heap} {xs : Nat × (Nat → Int32)} {s U : State} (hW : s.WarmedH U.vm) (h : zKn D cy b H0 xs s) : zKn D cy b H0 xs U :=
  ⟨va_K.moved hW.alike h.1, va_X.moved hW.alike h.2.1, fun a i x q hq => va_Nw.warmM hW (h.2.2.1 a i x q hq), fun C hC => va_AO.moved hW.alike (h.2.2.2 C hC)⟩
theorem zKn.same {D : va_G} {cy : Nat → ClassId} {b : Nat} {H0 : Heap} {xs : Nat × (Nat → Int32)} {s U : State} (hv : s.vm = U.vm) (h : zKn D cy b H0 xs s) : zKn D cy b H0 xs U := by
  have hA : s.vm.Alike U.vm := by rw [hv]; exact Vm.Alike.refl _
  exact ⟨va_K.moved hA h.1, va_X.moved hA h.2.1, fun a i x q hq => va_Nw.same rfl hv (h.2.2.1 a i x q hq), fun C hC => va_AO.moved hA (h.2.2.2 C hC)⟩
def zLs (b b0 : Nat) (L : XL) : List (Nat × Value) := L.map (fun q => (q.1, zcv b b0 q.2))
def zFx (p : Program) (R : Room) (s : State) (m : MethodId) (args : Array Value) (meth : Method) (c : Code) (D : va_G) (cy : Nat → ClassId) (b : Nat) (H0 : Heap) (xs : Nat × (Nat → Int32)) (mi n0 : Nat) : Prop :=
  p.tables.exec = Jvm.exec ∧ c.code = zMb mi ∧ c.maxLocals = zMl mi ∧ s.vm.findClass (zMn mi) = some m.cls ∧ (((zMrow mi).2.1 == "<init>") = true → meth.name = "<init>") ∧ (∀ w ∈ zWd, w.before args s = true) ∧ zKn D cy b H0 xs s ∧ b < H0.size ∧ s.heap.size = H0.size + n0 ∧ 2 ≤ R.frames ∧ 80 ≤ R.locals
def zK (p : Program) (l : Launch) (e : Env) (R : Room) (s : State) (m : MethodId) (args : Array Value) (below : List Frame) (meth : Method) (c : Code) (Q : State → Prop) (D : va_G) (cy : Nat → ClassId) (b : Nat) (H0 : Heap) (nL n0 s0 : Nat) (pc : Nat) (L : XL) (st : List Value) (h : XH) : Prop :=
  ∀ (H : Heap) (locs : List Loc) (ls : Array Slot) (cells slots : Nat), zSt D cy b H0 h H locs → lv_has ls nL (zLs b H0.size L) → cells + n0 = h.length → slots + s0 = zsl h →
    W p l e R s m args below meth c H locs cells slots Q (F0 m pc ls (st.map (zcv b H0.size)))
theorem xget_mem {L : XL} {k : Nat} {v : Value} (h : xget L k = some v) : (k, v) ∈ L := by
  induction L with
  | nil => cases h
  | cons q t ih =>
    obtain ⟨j, w⟩ := q
    simp only [xget] at h
    cases hj : (j == k) with
    | true =>
      rw [hj] at h
      have e1 : j = k := by simpa using hj
      have e2 : w = v := by simpa using h
      rw [e1, e2]
      exact List.mem_cons_self
    | false =>
      rw [hj] at h
      exact List.mem_cons_of_mem _ (ih (by simpa using h))
theorem z_at {b b0 nL : Nat} {ls : Array Slot} {L : XL} {k : Nat} {v : Value} (hl : lv_has ls nL (zLs b b0 L)) (h : xget L k = some v) : ls[k]? = some (.val (zcv b b0 v)) :=
  hl.2.2 (k, zcv b b0 v) (List.mem_map.mpr ⟨(k, v), xget_mem h, rfl⟩)
theorem xins_mem {i : Nat} {v : Value} {q : Nat × Value} : ∀ {L : XL}, q ∈ xins i v L → q = (i, v) ∨ (q ∈ L ∧ ¬ q.1 = i) := by
  intro L
  induction L with
  | nil => intro h; exact Or.inl (by simpa [xins] using h)
  | cons x t ih =>
    obtain ⟨j, w⟩ := x
    intro h
    simp only [xins] at h
    cases hj : (j == i) with
    | true =>
      rw [hj] at h
      rcases (by simpa using h : q = (i, v) ∨ q ∈ t ∧ ¬ q.1 = i) with h1 | h1
      · exact Or.inl h1
      · exact Or.inr ⟨List.mem_cons_of_mem _ h1.1, h1.2⟩
    | false =>
      rw [hj] at h
      rcases List.mem_cons.mp (show q ∈ (j, w) :: xins i v t from h) with h1 | h1
      · refine Or.inr ⟨by rw [h1]; exact List.mem_cons_self, ?_⟩
        rw [h1]
        simpa using hj
      · rcases ih h1 with h2 | h2
        · exact Or.inl h2
        · exact Or.inr ⟨List.mem_cons_of_mem _ h2.1, h2.2⟩
theorem z_put1 {b b0 nL : Nat} {ls : Array Slot} {L : XL} {i : Nat} {v : Value} (hc : v.category = 1) (hl : lv_has ls nL ((i, zcv b b0 v) :: (zLs b b0 L).filter (fun q => !(q.1 == i) && !(q.1 + 1 == i && q.2.category == 2)))) : lv_has ls nL (zLs b b0 (xput i v L)) := by
  refine ⟨hl.1, hl.2.1, fun q hq => ?_⟩
  obtain ⟨q0, hq0, rfl⟩ := List.mem_map.mp hq
  rcases xins_mem hq0 with h1 | ⟨h1, h2⟩
  · subst h1
    exact hl.2.2 _ List.mem_cons_self
  · obtain ⟨h3, h4⟩ := List.mem_filter.mp h1
    refine hl.2.2 _ (List.mem_cons_of_mem _ (List.mem_filter.mpr ⟨List.mem_map.mpr ⟨q0, h3, rfl⟩, ?_⟩))
    simp only [xkeep, hc] at h4
    have h5 : (zcv b b0 q0.2).category = q0.2.category := zcv_cat _
    simp only [h5]
    simp at h4 ⊢
    exact ⟨h2, h4⟩
theorem z_put2 {b b0 nL : Nat} {ls : Array Slot} {L : XL} {i : Nat} {v : Value} (hc : v.category = 2) (hl : lv_has ls nL ((i, zcv b b0 v) :: (zLs b b0 L).filter (fun q => !(q.1 == i) && (!(q.1 == i + 1) && !(q.1 + 1 == i && q.2.category == 2))))) : lv_has ls nL (zLs b b0 (xput i v L)) := by
  refine ⟨hl.1, hl.2.1, fun q hq => ?_⟩
  obtain ⟨q0, hq0, rfl⟩ := List.mem_map.mp hq
  rcases xins_mem hq0 with h1 | ⟨h1, h2⟩
  · subst h1
    exact hl.2.2 _ List.mem_cons_self
  · obtain ⟨h3, h4⟩ := List.mem_filter.mp h1
    refine hl.2.2 _ (List.mem_cons_of_mem _ (List.mem_filter.mpr ⟨List.mem_map.mpr ⟨q0, h3, rfl⟩, ?_⟩))
    simp only [xkeep, hc] at h4
    have h5 : (zcv b b0 q0.2).category = q0.2.category := zcv_cat _
    simp only [h5]
    simp at h4 ⊢
    exact ⟨h2, h4.2, h4.1⟩
section ZS
variable {p : Program} {l : Launch} {e : Env} {R : Room} {s : State} {m : MethodId} {args : Array Value} {below : List Frame} {meth : Method} {c : Code} {Q : State → Prop}
variable {D : va_G} {cy : Nat → ClassId} {b : Nat} {H0 : Heap} {xs : Nat × (Nat → Int32)} {mi n0 s0 pc : Nat} {L : XL} {st : List Value} {h : XH}
theorem z_op {i : Instr} {st' : List Value} (F : zFx p R s m args meth c D cy b H0 xs mi n0) (hd : decode (zMb mi) pc = .ok (i, zLen i)) (ho : xop i st = some st') (k : zK p l e R s m args below meth c Q D cy b H0 (zMl mi) n0 s0 (pc + zLen i) L st' h) : zK p l e R s m args below meth c Q D cy b H0 (zMl mi) n0 s0 pc L st h := by
  obtain ⟨hx, hb, -⟩ := F
  intro H locs ls cells slots hS hl hc hs
  replace k := k H locs ls cells slots hS hl hc hs
  clear hS hl hc hs
  cases i
  case iconst n => simp only [xop] at ho; cases ho; exact lv_iconst hx hb hd rfl k
  case bipush n => simp only [xop] at ho; cases ho; exact lv_bipush hx hb hd rfl k
  case sipush n => simp only [xop] at ho; cases ho; exact lv_sipush hx hb hd rfl k
  case lconst n => simp only [xop] at ho; cases ho; exact lv_lconst hx hb hd rfl k
  case iadd =>
    simp only [xop] at ho
    split at ho
    · cases ho; exact lv_iadd hx hb hd k
    · cases ho
  case isub =>
    simp only [xop] at ho
    split at ho
    · cases ho; exact lv_isub hx hb hd k
    · cases ho
  case imul =>
    simp only [xop] at ho
    split at ho
    · cases ho; exact lv_imul hx hb hd k
    · cases ho
  case iand =>
    simp only [xop] at ho
    split at ho
    · cases ho; exact lv_iand hx hb hd k
    · cases ho
  case ior =>
    simp only [xop] at ho
    split at ho
    · cases ho; exact lv_ior hx hb hd k
    · cases ho
  case ishl =>
    simp only [xop] at ho
    split at ho
    · cases ho; exact lv_ishl hx hb hd k
    · cases ho
  case ishr =>
    simp only [xop] at ho
    split at ho
    · cases ho; exact lv_ishr hx hb hd k
    · cases ho
  case ladd =>
    simp only [xop] at ho
    split at ho
    · cases ho; exact lv_ladd hx hb hd k
    · cases ho
  case land =>
    simp only [xop] at ho
    split at ho
    · cases ho; exact lv_land hx hb hd k
    · cases ho
  case lor =>
    simp only [xop] at ho
    split at ho
    · cases ho; exact lv_lor hx hb hd k
    · cases ho
  case lxor =>
    simp only [xop] at ho
    split at ho
    · cases ho; exact lv_lxor hx hb hd k
    · cases ho
  case idiv =>
    simp only [xop] at ho
    split at ho
    · split at ho
      · cases ho
      · rename_i hy
        cases ho; exact lv_idiv hx hb hd hy k
    · cases ho
  case irem =>
    simp only [xop] at ho
    split at ho
    · split at ho
      · cases ho
      · rename_i hy
        cases ho; exact lv_irem hx hb hd hy k
    · cases ho
  case ineg =>
    simp only [xop] at ho
    split at ho
    · cases ho; exact lv_ineg hx hb hd k
    · cases ho
  case i2l =>
    simp only [xop] at ho
    split at ho
    · cases ho; exact lv_i2l hx hb hd rfl k
    · cases ho
  case l2i =>
    simp only [xop] at ho
    split at ho
    · cases ho; exact lv_l2i hx hb hd rfl k
    · cases ho
  case i2b =>
    simp only [xop] at ho
    split at ho
    · cases ho; exact lv_i2b hx hb hd rfl k
    · cases ho
  case i2s =>
    simp only [xop] at ho
    split at ho
    · cases ho; exact lv_i2s hx hb hd rfl k
    · cases ho
  case lshl =>
    simp only [xop] at ho
    split at ho
    · cases ho; exact lv_lshl hx hb hd rfl k
    · cases ho
  case lushr =>
    simp only [xop] at ho
    split at ho
    · cases ho; exact lv_lushr hx hb hd rfl k
    · cases ho
  case lcmp =>
    simp only [xop] at ho
    split at ho
    · cases ho; exact W.lcmp hx hb hd k
    · cases ho
  case dup =>
    simp only [xop] at ho
    split at ho
    · split at ho
      · rename_i hy
        cases ho; exact lv_dup hx hb hd (by rw [zcv_cat]; exact hy) k
      · cases ho
    · cases ho
  case pop =>
    simp only [xop] at ho
    split at ho
    · split at ho
      · rename_i hy
        cases ho; exact lv_pop hx hb hd (by rw [zcv_cat]; exact hy) k
      · cases ho
    · cases ho
  case pop2 =>
    simp only [xop] at ho
    split at ho
    · split at ho
      · rename_i hy
        cases ho; exact lv_pop2_2 hx hb hd (by rw [zcv_cat]; exact hy) k
      · cases ho
    · cases ho
  case dup_x1 =>
    simp only [xop] at ho
    split at ho
    · split at ho
      · rename_i hy
        cases ho; exact lv_dup_x1 hx hb hd (by rw [zcv_cat]; exact hy.1) (by rw [zcv_cat]; exact hy.2) k
      · cases ho
    · cases ho
  case dup_x2 =>
    simp only [xop] at ho
    split at ho
    · split at ho
      · rename_i hy
        cases ho; exact lv_dup_x2 hx hb hd (by rw [zcv_cat]; exact hy.1) (by rw [zcv_cat]; exact hy.2.1) (by rw [zcv_cat]; exact hy.2.2) k
      · cases ho
    · cases ho
  case dup2 =>
    simp only [xop] at ho
    split at ho
    · split at ho
      · rename_i hy
        cases ho; exact lv_dup2_11 hx hb hd (by rw [zcv_cat]; exact hy.1) (by rw [zcv_cat]; exact hy.2) k
      · cases ho
    · cases ho
  all_goals (exact absurd ho (by simp [xop]))
theorem oInt_eq {o : Option Value} {v : Value} (ho : o.bind oInt = some v) : ∃ x : Int32, o = some (.int x) ∧ v = .int x := by
  cases o with
  | none => cases ho
  | some w => cases w <;> simp [oInt] at ho; exact ⟨_, rfl, ho.symm⟩
theorem oLong_eq {o : Option Value} {v : Value} (ho : o.bind oLong = some v) : ∃ x : Int64, o = some (.long x) ∧ v = .long x := by
  cases o with
  | none => cases ho
  | some w => cases w <;> simp [oLong] at ho; exact ⟨_, rfl, ho.symm⟩
theorem oRef_eq {o : Option Value} {v : Value} (ho : o.bind oRef = some v) : ∃ x : Nat, o = some (.ref x) ∧ v = .ref x := by
  cases o with
  | none => cases ho
  | some w => cases w <;> simp [oRef] at ho; exact ⟨_, rfl, ho.symm⟩
theorem z_ld {i : Instr} {v : Value} (F : zFx p R s m args meth c D cy b H0 xs mi n0) (hd : decode (zMb mi) pc = .ok (i, zLen i)) (ho : xld i L = some v) (k : zK p l e R s m args below meth c Q D cy b H0 (zMl mi) n0 s0 (pc + zLen i) L (v :: st) h) : zK p l e R s m args below meth c Q D cy b H0 (zMl mi) n0 s0 pc L st h := by
  obtain ⟨hx, hb, -⟩ := F
  intro H locs ls cells slots hS hl hc hs
  replace k := k H locs ls cells slots hS hl hc hs
  cases i
  case iload n => obtain ⟨x, h1, rfl⟩ := oInt_eq ho; exact lv_iload hx hb hd (z_at hl h1) k
  case iload_n n => obtain ⟨x, h1, rfl⟩ := oInt_eq ho; exact lv_iload_n hx hb hd rfl (z_at hl h1) k
  case lload n => obtain ⟨x, h1, rfl⟩ := oLong_eq ho; exact lv_lload hx hb hd (z_at hl h1) k
  case lload_n n => obtain ⟨x, h1, rfl⟩ := oLong_eq ho; exact lv_lload_n hx hb hd rfl (z_at hl h1) k
  case aload n => obtain ⟨x, h1, rfl⟩ := oRef_eq ho; exact lv_aload hx hb hd (z_at hl h1) k
  case aload_n n => obtain ⟨x, h1, rfl⟩ := oRef_eq ho; exact lv_aload_n hx hb hd rfl (z_at hl h1) k
  all_goals (exact absurd ho (by simp [xld]))
theorem z_st {i : Instr} {L' : XL} {st' : List Value} (F : zFx p R s m args meth c D cy b H0 xs mi n0) (hd : decode (zMb mi) pc = .ok (i, zLen i)) (ho : xst (zMl mi) i L st = some (L', st')) (k : zK p l e R s m args below meth c Q D cy b H0 (zMl mi) n0 s0 (pc + zLen i) L' st' h) : zK p l e R s m args below meth c Q D cy b H0 (zMl mi) n0 s0 pc L st h := by
  obtain ⟨hx, hb, -⟩ := F
  intro H locs ls cells slots hS hl hc hs
  replace k := fun ls' hl' => k H locs ls' cells slots hS hl' hc hs
  clear hS hc hs
  cases i
  case istore n =>
    simp only [xst, xstI] at ho
    split at ho
    · split at ho
      · rename_i hn
        cases ho; exact lv_istore hx hb hd hl hn rfl (fun ls' hl' => k ls' (z_put1 rfl hl'))
      · cases ho
    · cases ho
  case istore_n n =>
    simp only [xst, xstI] at ho
    split at ho
    · split at ho
      · rename_i hn
        cases ho; exact lv_istore_n hx hb hd rfl hl hn rfl (fun ls' hl' => k ls' (z_put1 rfl hl'))
      · cases ho
    · cases ho
  case lstore n =>
    simp only [xst, xstJ] at ho
    split at ho
    · split at ho
      · rename_i hn
        cases ho; exact lv_lstore hx hb hd hl hn rfl (fun ls' hl' => k ls' (z_put2 rfl hl'))
      · cases ho
    · cases ho
  case lstore_n n =>
    simp only [xst, xstJ] at ho
    split at ho
    · split at ho
      · rename_i hn
        cases ho; exact lv_lstore_n hx hb hd rfl hl hn rfl (fun ls' hl' => k ls' (z_put2 rfl hl'))
      · cases ho
    · cases ho
  case astore n =>
    simp only [xst, xstR] at ho
    split at ho
    · split at ho
      · rename_i hn
        cases ho; exact lv_astore hx hb hd hl hn rfl (fun ls' hl' => k ls' (z_put1 rfl hl'))
      · cases ho
    · cases ho
  case astore_n n =>
    simp only [xst, xstR] at ho
    split at ho
    · split at ho
      · rename_i hn
        cases ho; exact lv_astore_n hx hb hd rfl hl hn rfl (fun ls' hl' => k ls' (z_put1 rfl hl'))
      · cases ho
    · cases ho
  case iinc i n =>
    simp only [xst] at ho
    split at ho
    · rename_i hn
      split at ho
      · rename_i x hg
        cases ho
        obtain ⟨kk, hkk⟩ := List.getElem?_of_mem (List.mem_map.mpr ⟨_, xget_mem hg, rfl⟩ : ((i, zcv b H0.size (.int x)) : Nat × Value) ∈ zLs b H0.size L)
        exact lv_iinc hx hb hd hl hkk rfl hn rfl (fun ls' hl' => k ls' (z_put1 rfl hl'))
      · cases ho
    · cases ho
  all_goals (exact absurd ho (by simp [xst]))
theorem z_br {i : Instr} {tgt t : Nat} {st' : List Value} {ln : Nat} (F : zFx p R s m args meth c D cy b H0 xs mi n0) (hd : decode (zMb mi) pc = .ok (i, ln)) (hln : xbrl i pc tgt ln = true) (ho : xbr i tgt pc st = some (t, st')) (k : zK p l e R s m args below meth c Q D cy b H0 (zMl mi) n0 s0 t L st' h) : zK p l e R s m args below meth c Q D cy b H0 (zMl mi) n0 s0 pc L st h := by
  obtain ⟨hx, hb, -⟩ := F
  intro H locs ls cells slots hS hl hc hs
  replace k := k H locs ls cells slots hS hl hc hs
  clear hS hl hc hs
  cases i
  case goto off =>
    simp only [xbrl, Bool.and_eq_true, decide_eq_true_eq] at hln
    simp only [xbr] at ho
    cases ho
    obtain ⟨h1, rfl⟩ := hln
    exact lv_goto hx hb hd h1 k
  case if_icmp cc off =>
    simp only [xbrl, Bool.and_eq_true, decide_eq_true_eq] at hln
    obtain ⟨h1, rfl⟩ := hln
    cases cc
    case eq =>
      simp only [xbr] at ho
      split at ho
      · cases ho; exact lv_icmp_eq hx hb hd h1 (fun q => by rw [if_pos q] at k; exact k) (fun q => by rw [if_neg q] at k; exact k)
      · cases ho
    case ne =>
      simp only [xbr] at ho
      split at ho
      · cases ho; exact lv_icmp_ne hx hb hd h1 (fun q => by rw [if_pos q] at k; exact k) (fun q => by rw [if_neg (fun z => z q)] at k; exact k)
      · cases ho
    case lt =>
      simp only [xbr] at ho
      split at ho
      · cases ho; exact lv_icmp_lt hx hb hd h1 (fun q => by rw [if_pos q] at k; exact k) (fun q => by rw [if_neg q] at k; exact k)
      · cases ho
    case ge =>
      simp only [xbr] at ho
      split at ho
      · cases ho; exact lv_icmp_ge hx hb hd h1 (fun q => by rw [if_pos q] at k; exact k) (fun q => by rw [if_neg q] at k; exact k)
      · cases ho
    case gt =>
      simp only [xbr] at ho
      split at ho
      · cases ho; exact lv_icmp_gt hx hb hd h1 (fun q => by rw [if_pos q] at k; exact k) (fun q => by rw [if_neg q] at k; exact k)
      · cases ho
    case le =>
      simp only [xbr] at ho
      split at ho
      · cases ho; exact lv_icmp_le hx hb hd h1 (fun q => by rw [if_pos q] at k; exact k) (fun q => by rw [if_neg q] at k; exact k)
      · cases ho
  case ifCond cc off =>
    simp only [xbrl, Bool.and_eq_true, decide_eq_true_eq] at hln
    obtain ⟨h1, rfl⟩ := hln
    cases cc
    case eq =>
      simp only [xbr] at ho
      split at ho
      · cases ho; exact lv_if_eq hx hb hd h1 (fun q => by rw [if_pos q] at k; exact k) (fun q => by rw [if_neg q] at k; exact k)
      · cases ho
    case ne =>
      simp only [xbr] at ho
      split at ho
      · cases ho; exact lv_if_ne hx hb hd h1 (fun q => by rw [if_pos q] at k; exact k) (fun q => by rw [if_neg (fun z => z q)] at k; exact k)
      · cases ho
    case lt =>
      simp only [xbr] at ho
      split at ho
      · cases ho; exact lv_if_lt hx hb hd h1 (fun q => by rw [if_pos q] at k; exact k) (fun q => by rw [if_neg q] at k; exact k)
      · cases ho
    case ge =>
      simp only [xbr] at ho
      split at ho
      · cases ho; exact lv_if_ge hx hb hd h1 (fun q => by rw [if_pos q] at k; exact k) (fun q => by rw [if_neg q] at k; exact k)
      · cases ho
    case gt =>
      simp only [xbr] at ho
      split at ho
      · cases ho; exact lv_if_gt hx hb hd h1 (fun q => by rw [if_pos q] at k; exact k) (fun q => by rw [if_neg q] at k; exact k)
      · cases ho
    case le =>
      simp only [xbr] at ho
      split at ho
      · cases ho; exact lv_if_le hx hb hd h1 (fun q => by rw [if_pos q] at k; exact k) (fun q => by rw [if_neg q] at k; exact k)
      · cases ho
  case tableswitch dflt lo hi offs =>
    simp only [xbr] at ho
    split at ho
    · rename_i x r
      split at ho
      · rename_i hout
        split at ho
        · rename_i hz
          cases ho
          exact lv_tableOut hx hb hd hout (by omega) k
        · cases ho
      · rename_i hout
        split at ho
        · rename_i off hoff
          split at ho
          · rename_i hz
            cases ho
            exact lv_tableIn hx hb hd (fun q => hout (Or.inl q)) (fun q => hout (Or.inr q)) hoff (by omega) k
          · cases ho
        · cases ho
    · cases ho
  case lookupswitch dflt ps =>
    simp only [xbrl] at hln
    simp only [xbr] at ho
    split at ho
    · rename_i x r
      split at ho
      · rename_i hz
        cases ho
        exact lv_lookup hx hb hd hln rfl (by omega) k
      · cases ho
    · cases ho
  all_goals (exact absurd ho (by simp [xbr]))
end ZS
