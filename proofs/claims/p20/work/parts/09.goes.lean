/-! runs of the small machine are the machine's -/
theorem zc_use {mi pc : Nat} {en : zE} (hck : zCk mi = true) (h : zc mi pc = some en) : zDec (zMb mi) pc en = true ∧ zLink (zMo mi) en = true := by
  unfold zc at h
  cases hl : zCs[mi]? with
  | none => rw [hl] at h; cases h
  | some ll =>
    rw [hl] at h
    simp only [Option.bind_some] at h
    have h1 : ll[pc]? = some (some en) := by
      cases hp : ll[pc]? with
      | none => rw [hp] at h; cases h
      | some x => rw [hp] at h; exact congrArg some h
    unfold zCk at hck
    rw [List.getD_eq_getElem?_getD, hl] at hck
    have := zChk_at hck h1
    rwa [Nat.zero_add] at this
theorem xsw_none {i : Instr} (hs : xsw i = true) : xinv i = false ∧ (∀ st, xop i st = none) ∧ (∀ L, xld i L = none) ∧ (∀ n L st, xst n i L st = none) ∧ ∀ ret st, xrt ret i st = none := by
  cases i <;> simp [xsw] at hs <;> exact ⟨rfl, fun _ => rfl, fun _ => rfl, fun _ _ _ => rfl, fun _ _ => rfl⟩
theorem xsw_hp {en : zE} (hs : xsw en.1 = true) (xs : Nat × (Nat → Int32)) (ini : Bool) (o : Nat) (st : List Value) (h : XH) : xhp xs ini o en st h = none := by
  obtain ⟨i, r⟩ := en
  cases i <;> simp [xsw] at hs <;> rfl
theorem zcal_lt {o : Nat} {en : zE} (hlk : zLink o en = true) (hinv : xinv en.1 = true) (h5 : en.2.2.1 < 5) : en.2.1 < zLawI := by
  have hlk' : ∃ i, zLkc o i en = true := by
    cases he : en.1 <;> rw [he] at hinv <;> simp [xinv] at hinv
    all_goals (rename_i i; refine ⟨i, ?_⟩; unfold zLink at hlk; rw [he] at hlk; simp at hlk; exact hlk.1)
  obtain ⟨i, hzl⟩ := hlk'
  obtain ⟨host, pp, hok⟩ := zCl_use hzl
  unfold zCok at hok
  rcases (show en.2.2.1 = 0 ∨ en.2.2.1 = 1 ∨ en.2.2.1 = 2 ∨ en.2.2.1 = 3 ∨ en.2.2.1 = 4 by omega) with h6 | h6 | h6 | h6 | h6 <;> rw [h6] at hok <;> simp only [Bool.and_eq_true, decide_eq_true_eq] at hok
  · exact hok.2.2.2.2.2
  · exact hok.2.2.2
  · exact hok.2.2.2.2.2.2
  · exact hok.2.2.2
  · exact hok.2.2.2.2.2.2
/-- cells come, none goes -/
def zLe (h h' : XH) : Prop := h.length ≤ h'.length ∧ zsl h ≤ zsl h'
theorem zLe.rf {h : XH} : zLe h h := ⟨Nat.le_refl _, Nat.le_refl _⟩
theorem zLe.tr {a b d : XH} (h1 : zLe a b) (h2 : zLe b d) : zLe a d := ⟨Nat.le_trans h1.1 h2.1, Nat.le_trans h1.2 h2.2⟩
theorem zLe.set {h : XH} {n : Nat} {c : XC} {f : Nat → Value} (hn : h[n]? = some c) : zLe h (h.set n (c.1, c.2.1, f)) := ⟨by simp, by rw [zsl_set hn]; exact Nat.le_refl _⟩
theorem zLe.app {h : XH} {c : XC} : zLe h (h ++ [c]) := ⟨by simp, by rw [zsl_app]; exact Nat.le_add_right _ _⟩
theorem xhp_le {xs : Nat × (Nat → Int32)} {ini : Bool} {o : Nat} {en : zE} {st st' : List Value} {h h' : XH} (ho : xhp xs ini o en st h = some (st', h')) : zLe h h' := by
  unfold xhp at ho
  repeat' split at ho
  all_goals first
    | (cases ho; done)
    | (cases ho; exact zLe.rf)
    | (cases ho; exact zLe.app)
    | (cases ho; exact zLe.set (by assumption))
def zMono (call : XF) : Prop := ∀ (cal : Nat) (a : List Value) (h : XH) (v : Option Value) (h' : XH), cal < zLawI → call cal a h = some (v, h') → zLe h h'
theorem xcall_le {call : XF} {o : Nat} {en : zE} {st st' : List Value} {h h' : XH} (hm : zMono call) (hlk : zLink o en = true) (hinv : xinv en.1 = true) (h5 : en.2.2.1 < 5) (ho : xcall call en st h = some (st', h')) : zLe h h' := by
  simp only [xcall] at ho
  split at ho
  · split at ho
    · rename_i hcl
      cases ho
      exact hm _ _ _ _ _ (zcal_lt hlk hinv h5) hcl
    · cases ho
  · cases ho
theorem xone_le {xs : Nat × (Nat → Int32)} {call : XF} {mi pc : Nat} {L : XL} {st : List Value} {h : XH} (hck : zCk mi = true) (hm : zMono call) : (∀ s', xone xs call mi pc L st h = some (.inl s') → zLe h s'.2.2.2) ∧ ∀ r, xone xs call mi pc L st h = some (.inr r) → r.2 = h := by
  unfold xone
  split
  · exact ⟨fun _ q => (by cases q), fun _ q => (by cases q)⟩
  · rename_i en hen
    obtain ⟨hdc, hlk⟩ := zc_use hck hen
    split
    · rename_i hinv
      split
      · rename_i h5
        split
        · rename_i st' h' hx2
          exact ⟨fun _ q => by cases q; exact xcall_le hm hlk hinv h5 hx2, fun _ q => by cases q⟩
        · exact ⟨fun _ q => (by cases q), fun _ q => (by cases q)⟩
      · split
        · rename_i st' h' hx2
          exact ⟨fun _ q => by cases q; exact xnat_len' hx2, fun _ q => by cases q⟩
        · exact ⟨fun _ q => (by cases q), fun _ q => (by cases q)⟩
    · split
      · exact ⟨fun _ q => by cases q; exact zLe.rf, fun _ q => by cases q⟩
      · split
        · exact ⟨fun _ q => by cases q; exact zLe.rf, fun _ q => by cases q⟩
        · split
          · exact ⟨fun _ q => by cases q; exact zLe.rf, fun _ q => by cases q⟩
          · split
            · exact ⟨fun _ q => by cases q; exact zLe.rf, fun _ q => by cases q⟩
            · split
              · rename_i hx2
                exact ⟨fun _ q => by cases q; exact xhp_le hx2, fun _ q => by cases q⟩
              · split
                · exact ⟨fun _ q => (by cases q), fun _ q => by cases q; rfl⟩
                · exact ⟨fun _ q => (by cases q), fun _ q => (by cases q)⟩
theorem xgo_le {xs : Nat × (Nat → Int32)} {call : XF} {mi : Nat} (hck : zCk mi = true) (hm : zMono call) : ∀ (n pc : Nat) (L : XL) (st : List Value) (h : XH) (v : Option Value) (h' : XH), xgo xs call mi n pc L st h = some (v, h') → zLe h h' := by
  intro n
  induction n with
  | zero => intro pc L st h v h' q; cases q
  | succ n ih =>
    intro pc L st h v h' q
    simp only [xgo] at q
    split at q
    · rename_i s' hs
      exact ((xone_le hck hm).1 _ hs).tr (ih _ _ _ _ _ _ q)
    · rename_i r hs
      cases q
      rw [show h' = h from (xone_le hck hm).2 _ hs]
      exact zLe.rf
    · cases q
theorem xrun_le {xs : Nat × (Nat → Int32)} {n : Nat} (hck : ∀ m, m < zLawI → zCk m = true) : ∀ d, zMono (xrun xs n d) := by
  intro d
  induction d with
  | zero => intro cal a h v h' _ q; cases q
  | succ d ih =>
    intro cal a h v h' hl q
    simp only [xrun] at q
    split at q
    · exact xgo_le (hck cal hl) ih _ _ _ _ _ _ _ q
    · cases q
section ZO
variable {p : Program} {l : Launch} {e : Env} {R : Room} {s : State} {m : MethodId} {args : Array Value} {below : List Frame} {meth : Method} {c : Code} {Q : State → Prop}
variable {D : va_G} {cy : Nat → ClassId} {b : Nat} {H0 : Heap} {xs : Nat × (Nat → Int32)} {mi n0 s0 pc : Nat} {L : XL} {st : List Value} {h : XH}
theorem z_ret {i : Instr} {v : Option Value} {H : Heap} {locs : List Loc} {ls : Array Slot} {cells slots : Nat} (F : zFx p R s m args meth c D cy b H0 xs mi n0) (hr : meth.sig.returnType = zMr mi) (hlocks : meth.locks = false) (hd : decode (zMb mi) pc = .ok (i, zLen i)) (ho : xrt (zMr mi) i st = some v) (S : zSt D cy b H0 h H locs) : W p l e R s m args below meth c H locs cells slots (MQ below (zQc D cy b H0 v h) args s cells slots (zA H0)) (F0 m pc ls (st.map (zcv b H0.size))) := by
  obtain ⟨hx, hb, hml, hown, hmn, hts, hKn, hbl, hsz0, hfr, hlo⟩ := F
  have hS' : ∀ t : State, t.heap = H → zSt D cy b H0 h t.heap [] := fun t ht => by rw [ht]; exact ⟨S.1, S.2.1, S.2.2.1, S.2.2.2.1, fun _ q => by cases q⟩
  cases i
  case ireturn =>
    simp only [xrt] at ho
    split at ho
    · split at ho
      · rename_i hc
        cases ho
        rcases hc with hc | ⟨hc, hv⟩
        · exact W.iret hx hb (hr.trans hc) (fun t ht _ => ⟨rfl, hS' t ht⟩) S.2.2.2.2 hd hlocks
        · exact W.zret hx hb (hr.trans hc) (by rcases hv with rfl | rfl <;> rfl) (fun t ht _ => ⟨rfl, hS' t ht⟩) S.2.2.2.2 hd hlocks
      · cases ho
    · cases ho
  case lreturn =>
    simp only [xrt] at ho
    split at ho
    · split at ho
      · rename_i hc
        cases ho
        exact W.lret hx hb (hr.trans hc) (fun t ht _ => ⟨rfl, hS' t ht⟩) S.2.2.2.2 hd hlocks
      · cases ho
    · cases ho
  case areturn =>
    simp only [xrt] at ho
    split at ho
    · split at ho
      · rename_i hc
        cases ho
        exact W.aret hx hb (hr.trans hc) (Or.inl ⟨_, rfl⟩) (Or.inr ⟨_, rfl⟩) (fun t ht _ => ⟨rfl, hS' t ht⟩) S.2.2.2.2 hd hlocks
      · cases ho
    · cases ho
  case return_ =>
    simp only [xrt] at ho
    split at ho
    · split at ho
      · rename_i hc
        cases ho
        exact W.vret hx hb (hr.trans hc) (fun t ht _ => ⟨rfl, hS' t ht⟩) S.2.2.2.2 hd hlocks
      · cases ho
    · cases ho
  all_goals (exact absurd ho (by simp [xrt]))
theorem z_one {d : Nat} {call : XF} {s' : XS} (F : zFx p R s m args meth c D cy b H0 xs mi n0) (hck : zCk mi = true) (hcal : zCal l D cy b H0 xs d call) (hR : d + 3 ≤ R.frames ∧ 48 * (d + 3) ≤ R.locals) (ho : xone xs call mi pc L st h = some (.inl s')) (hr1 : s'.2.2.2.length ≤ n0 + R.cells) (hr2 : zsl s'.2.2.2 ≤ s0 + R.slots) (kk : zK p l e R s m args below meth c Q D cy b H0 (zMl mi) n0 s0 s'.1 s'.2.1 s'.2.2.1 s'.2.2.2) : zK p l e R s m args below meth c Q D cy b H0 (zMl mi) n0 s0 pc L st h := by
  unfold xone at ho
  split at ho
  · cases ho
  · rename_i en hen
    obtain ⟨hdc, hlk⟩ := zc_use hck hen
    obtain ⟨n, hd, hn, hbr⟩ := zDec_use hdc
    split at ho
    · rename_i hinv
      have h3 : n = 3 := by
        have hsw : xsw en.1 = false := by
          cases hs : xsw en.1 with
          | false => rfl
          | true => rw [(xsw_none hs).1] at hinv; cases hinv
        rw [hn hsw]
        cases he : en.1 <;> rw [he] at hinv <;> simp [xinv] at hinv <;> rfl
      subst h3
      split at ho
      · rename_i h5
        split at ho
        · rename_i st' h' hx2
          cases ho
          exact z_call F hcal hR hd hinv hlk h5 hx2 hr1 hr2 kk
        · cases ho
      · rename_i h5
        split at ho
        · rename_i st' h' hx2
          cases ho
          exact z_nat F hd hinv hlk h5 hx2 hr1 hr2 kk
        · cases ho
    · cases hs : xsw en.1 with
      | true =>
        obtain ⟨-, q1, q2, q3, q4⟩ := xsw_none hs
        rw [q1] at ho
        simp only [q2, q3, xsw_hp hs, q4] at ho
        split at ho
        · rename_i hx2
          cases ho
          exact z_br F hd hbr hx2 kk
        · cases ho
      | false =>
        have hd' : decode (zMb mi) pc = .ok (en.1, zLen en.1) := by rw [← hn hs]; exact hd
        split at ho
        · rename_i hx2
          cases ho
          exact z_op F hd' hx2 kk
        · split at ho
          · rename_i hx2
            cases ho
            exact z_ld F hd' hx2 kk
          · split at ho
            · rename_i hx2
              cases ho
              exact z_st F hd' hx2 kk
            · split at ho
              · rename_i hx2
                cases ho
                exact z_br F hd hbr hx2 kk
              · split at ho
                · rename_i hx2
                  cases ho
                  exact z_hp F hd' hlk hx2 hr1 hr2 kk
                · split at ho
                  · cases ho
                  · cases ho
theorem z_out {call : XF} {v : Option Value} {h' : XH} (hck : zCk mi = true) (ho : xone xs call mi pc L st h = some (.inr (v, h'))) : h' = h ∧ ∃ i, decode (zMb mi) pc = .ok (i, zLen i) ∧ xrt (zMr mi) i st = some v := by
  unfold xone at ho
  split at ho
  · cases ho
  · rename_i en hen
    obtain ⟨hdc, hlk⟩ := zc_use hck hen
    obtain ⟨n, hd, hn, hbr⟩ := zDec_use hdc
    split at ho
    · split at ho
      · split at ho <;> cases ho
      · split at ho <;> cases ho
    · split at ho
      · cases ho
      · split at ho
        · cases ho
        · split at ho
          · cases ho
          · split at ho
            · cases ho
            · split at ho
              · cases ho
              · split at ho
                · rename_i hx2
                  cases ho
                  refine ⟨rfl, en.1, ?_, hx2⟩
                  cases hs : xsw en.1 with
                  | true => rw [(xsw_none hs).2.2.2.2] at hx2; cases hx2
                  | false => rw [← hn hs]; exact hd
                · cases ho
theorem z_go {d : Nat} {call : XF} (F : zFx p R s m args meth c D cy b H0 xs mi n0) (hck : zCk mi = true) (hcal : zCal l D cy b H0 xs d call) (hR : d + 3 ≤ R.frames ∧ 48 * (d + 3) ≤ R.locals) {v : Option Value} {h' : XH} (hr1 : h'.length ≤ n0 + R.cells) (hr2 : zsl h' ≤ s0 + R.slots)
    (hend : ∀ (pc : Nat) (i : Instr) (L : XL) (st : List Value), decode (zMb mi) pc = .ok (i, zLen i) → xrt (zMr mi) i st = some v → zK p l e R s m args below meth c Q D cy b H0 (zMl mi) n0 s0 pc L st h') : ∀ (n pc : Nat) (L : XL) (st : List Value) (h : XH), xgo xs call mi n pc L st h = some (v, h') → zK p l e R s m args below meth c Q D cy b H0 (zMl mi) n0 s0 pc L st h := by
  have hm : zMono call := fun cal a h v h' hl q => ⟨(hcal cal a h v h' hl q).1, (hcal cal a h v h' hl q).2.1⟩
  intro n
  induction n with
  | zero => intro pc L st h q; cases q
  | succ n ih =>
    intro pc L st h q
    simp only [xgo] at q
    split at q
    · rename_i s' hs
      have hle := xgo_le hck hm _ _ _ _ _ _ _ q
      exact z_one F hck hcal hR hs (Nat.le_trans hle.1 hr1) (Nat.le_trans hle.2 hr2) (ih _ _ _ _ q)
    · rename_i r hs
      cases q
      obtain ⟨rfl, i, hd, hx2⟩ := z_out hck hs
      exact hend pc i L st hd hx2
    · cases q
end ZO
theorem zent_args {b b0 : Nat} : ∀ (a : List Value) (k : Nat), zLs b b0 (xent k a) = lv_args k (a.map (zcv b b0)) := by
  intro a
  induction a with
  | nil => intro k; rfl
  | cons v t ih =>
    intro k
    show (k, zcv b b0 v) :: zLs b b0 (xent (k + v.category) t) = (k, zcv b b0 v) :: lv_args (if (zcv b b0 v).category = 2 then k + 2 else k + 1) (t.map (zcv b b0))
    rw [ih, zcv_cat]
    rcases lv_cat v with h1 | h1 <;> rw [h1] <;> rfl
theorem zsl_args {b b0 : Nat} : ∀ (a : List Value), (lg_sl (a.map (zcv b b0))).length = (lg_sl a).length := by
  intro a
  induction a with
  | nil => rfl
  | cons v t ih =>
    simp only [lg_sl, List.map_cons, List.flatMap_cons, List.length_append] at ih ⊢
    rw [ih, zcv_cat]
    split <;> rfl
/-- the runs, deep and deeper -/
theorem z_run (l : Launch) (D : va_G) (cy : Nat → ClassId) (b : Nat) (H0 : Heap) (xs : Nat × (Nat → Int32)) (n : Nat) (hbl : b < H0.size) (hck : ∀ m, m < zLawI → zCk m = true) : ∀ d, zCal l D cy b H0 xs d (xrun xs n d) := by
  intro d
  induction d with
  | zero => intro cal a h v h' _ q; cases q
  | succ d ih =>
    intro cal a h v h' hl q
    have hle := xrun_le hck (d + 1) cal a h v h' hl q
    refine ⟨hle.1, hle.2, ?_⟩
    simp only [xrun] at q
    split at q
    · rename_i hlen
      refine Met.ofW (cc := zMb cal) (maxL := zMl cal) (ret := zMr cal) (zMck_use hl).2.2.2.2 rfl ?_
      intro p e s m args below meth c s₁ B hml hv
      obtain ⟨rfl, hsz, hS, hKn⟩ := hv
      have hts0 := atoms_spec (ws := zws cal) B.pre
      have hown : s.vm.findClass (zMn cal) = some m.cls := findClass_of_methodNamed B.named
      have hnm : meth.name = (zMrow cal).2.1 := (name_of_methodNamed B.named B.method).1
      have F : zFx p (headSpec (zws cal) (zrm (d + 1) (h'.length - h.length) (zsl h' - zsl h))).room s m (a.map (zcv b H0.size)).toArray meth c D cy b H0 xs cal h.length :=
        ⟨B.exec, B.bytes, hml, hown, fun hq => by rw [hnm]; exact eq_of_beq hq, fun w hw => hts0 w (List.mem_cons_of_mem _ hw), hKn, hbl, hsz, by show 2 ≤ d + 1 + 2; omega, by show 80 ≤ 48 * (d + 1 + 2); omega⟩
      have hle1 := hle.1
      have hle2 := hle.2
      have K := z_go (below := below) (e := e) (Q := MQ below (zQc D cy b H0 v h') (a.map (zcv b H0.size)).toArray s (h'.length - h.length) (zsl h' - zsl h) (zA H0)) (l := l) (n0 := h.length) (s0 := zsl h) F (hck cal hl) ih ⟨by show d + 3 ≤ d + 1 + 2; omega, by show 48 * (d + 3) ≤ 48 * (d + 1 + 2); omega⟩ (v := v) (h' := h') (by show h'.length ≤ h.length + (h'.length - h.length); omega) (by show zsl h' ≤ zsl h + (zsl h' - zsl h); omega)
        (fun pc i L st hd hx2 => by
          intro H locs ls cells slots S hl2 hcc hss
          obtain rfl : cells = h'.length - h.length := by omega
          obtain rfl : slots = zsl h' - zsl h := by omega
          exact z_ret F B.returns B.notSynchronized hd hx2 S) n 0 (xent 0 a) [] h q
      rw [lg_entry_eq]
      refine K s.heap [] _ 0 0 hS ?_ (by omega) (by omega)
      rw [zent_args]
      exact lv_entry _ (by rw [zsl_args]; exact hlen)
    · cases q
