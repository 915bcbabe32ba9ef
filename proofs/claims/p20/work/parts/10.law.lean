def R_law : String := "WaterCityLaw"
def lw_P (b : Addr) (xs : List Int32) (args : Array Value) (s : State) : Prop := args = #[.ref b] ∧ s.IntsAt b xs ∧ xs.length ≤ 3072 ∧ (Jvm.Cond.and given_1 narrow_1).before args s = true
def lw_Q (_ : Array Value) (s : State) (o : Outcome) (t : State) : Prop := o = .returned (some (.int 1)) ∧ Framed s o t [] 600000 7302250
def lw_Z (below : List Frame) (a : Array Value) (s : State) : State → Prop := fun t => ∃ o, t.status = .running ∧ Ended t below o ∧ lw_Q a s o t
/-- the law's own end, with 1 on the stack, nothing written that was there before, its room as the claim has it -/
theorem lw_ret {p : Program} {l : Launch} {e : Env} {s : State} {m : MethodId} {below : List Frame} {meth : Method} {c : Code} {b : Nat} (hx : p.tables.exec = Jvm.exec) (hb : c.code = code) (hr : meth.sig.returnType = ret) (hlocks : meth.locks = false) {pc : Nat} {H : Heap} {ls : Array Slot} (hdg : decode code pc = .ok (.ireturn, 1)) : W p l e room_1 s m #[Value.ref b] below meth c H [] 600000 7302250 (lw_Z below #[Value.ref b] s) (F0 m pc ls [.int 1]) := by
  intro T hT X
  obtain ⟨fs, hret, hrun, hended, hW, hframe⟩ := X.leave (v := some (.int 1)) (hlocks := hlocks) (fun h => by rw [hr] at h; cases h)
  have hmeth' : T.vm.method? m = some meth := X.method'
  refine ⟨T.setFrames fs, ?_, .returned (some (.int 1)), hrun, hended, rfl, ⟨_, rfl⟩, hW, hframe⟩
  jvm_step X.here [X.here.top, hx, hb, hdg, hmeth', hr, ret, narrow_b1]
  (try refine ⟨rfl, ?_⟩); (try refine ⟨rfl, ?_⟩)
  first | (intro acts; rw [hret _ acts rfl rfl rfl]) | rw [hret _ _ rfl rfl rfl]
  exact Steps.refl _
/-- what holds at the law's entry: the machine, the code, the tables' words (any of lw_tbl by 'hts w (by decide +kernel)'), the script of L ints xs at the cell b, what the Statement gives of the start (any of its parts by flat_of_before) -/
def lw_At (p : Program) (s : State) (m : MethodId) (meth : Method) (c : Code) (b L : Nat) (xs : Nat → Int32) : Prop :=
  p.tables.exec = Jvm.exec ∧ c.code = code ∧ meth.sig.returnType = ret ∧ c.maxLocals = 4 ∧ s.vm.findClass R_law = some m.cls ∧ (∀ w ∈ lw_tbl, w.before #[Value.ref b] s = true) ∧ va_X b L xs s s.heap ∧ b < s.heap.size ∧ meth.locks = false ∧ (Jvm.Cond.and given_1 narrow_1).before #[Value.ref b] s = true
/-! the law's body out of a run of the small machine -/
theorem z_class {s : State} {args : Array Value} (hts : ∀ w ∈ lw_tbl, w.before args s = true) : ∃ D : va_G, ∀ (ci : Nat) (q : vw_C), vwCl[ci]? = some q → u_Kn s q.1 q.2.1 q.2.2 (D.1 ci) (D.2 ci) := by
  have h : ∀ ci : Nat, ∃ x : ClassId × (Nat → Nat), ∀ q : vw_C, vwCl[ci]? = some q → u_Kn s q.1 q.2.1 q.2.2 x.1 x.2 := by
    intro ci
    cases hq : vwCl[ci]? with
    | none => exact ⟨(0, fun _ => 0), fun q h => by cases h⟩
    | some q =>
      obtain ⟨h12, hin, hty, hdc, hft, hnm, hlen, hins, -⟩ := zCls_use hq
      obtain ⟨cC, iS, hK⟩ := u_known (ws := zWd) (fun w hw => hts w (List.mem_filter.mp hw).1) hin (hts _ (List.mem_filter.mp hins).1)
      exact ⟨(cC, iS), fun q' h => by cases h; exact hK⟩
  exact ⟨(fun ci => (Classical.choose (h ci)).1, fun ci => (Classical.choose (h ci)).2), fun ci => Classical.choose_spec (h ci)⟩
theorem z_arr {s : State} {args : Array Value} {ty : FieldType} (hob : ∀ C, ty ≠ .object C) (h : (Cond.arrayClass ty).before args s = true) : ∃ cA : ClassId, ArrOfT s cA ty ∧ va_RA s cA ty := by
  obtain ⟨cA, kA, comp, h1, h2, h3⟩ := Cond.arrayClass_spec h
  refine ⟨cA, fun n z => ⟨fun k h => (by cases h), kA, h2, comp, h3⟩, ?_⟩
  cases ty <;> first | exact h1 | exact absurd rfl (hob _)
theorem z_arq {s : State} {args : Array Value} {C : String} (h : (Cond.arrayOver (.object C)).before args s = true) : ∃ cA : ClassId, ArrOfT s cA (.object C) ∧ va_RA s cA (.object C) := by
  obtain ⟨comp, cA, kA, h1, -, h2, h3, h4⟩ := Cond.arrayOver_spec h
  exact ⟨cA, fun n z => ⟨fun k h => (by cases h), kA, h2, comp, h3⟩, kA, comp, h2, h3, h1, h4⟩
theorem zOver : ∀ k, 15 ≤ k → k ≤ 18 → Cond.arrayOver (.object (zNm (zAe k))) ∈ lw_tbl := by
  intro k h1 h2
  rcases (show k = 15 ∨ k = 16 ∨ k = 17 ∨ k = 18 by omega) with rfl | rfl | rfl | rfl <;> decide +kernel
theorem xrt_int {ret : Option FieldType} {i : Instr} {st : List Value} (h : xrt ret i st = some (some (.int 1))) : i = .ireturn ∧ st = [.int 1] := by
  unfold xrt at h
  repeat' split at h
  all_goals first | (cases h; done) | (cases h; exact ⟨rfl, rfl⟩)
theorem z_start {p : Program} {e : Env} {s : State} {m : MethodId} {below : List Frame} {meth : Method} {c : Code} (l : Launch) {b L : Nat} {xs : Nat → Int32} (C0 : lw_At p s m meth c b L xs) {n d : Nat} {h' : XH} (hck : ∀ m, m < zLawI + 1 → zCk m = true) (hdd : d ≤ 1700)
    (hrun : xgo (L + 1, xs) (xrun (L + 1, xs) n d) zLawI n 0 [(0, .ref 0)] [] [] = some (some (.int 1), h')) (hlen : h'.length ≤ 600000) (hsl : zsl h' ≤ 7302250) : W p l e room_1 s m #[Value.ref b] below meth c s.heap [] 0 0 (lw_Z below #[Value.ref b] s) (entryFrame m ([Value.ref b] : List Value).toArray 4) := by
  obtain ⟨hx, hb, hr, hml, hown, hts, hX, hbl, hlocks, -⟩ := C0
  obtain ⟨D, hD⟩ := z_class hts
  obtain ⟨w1, w2, w3⟩ := zArr_words
  obtain ⟨c12, a12⟩ := z_arr (by intro C h; cases h) (hts _ (List.mem_filter.mp w1).1)
  obtain ⟨c13, a13⟩ := z_arr (by intro C h; cases h) (hts _ (List.mem_filter.mp w2).1)
  obtain ⟨c14, a14⟩ := z_arr (by intro C h; cases h) (hts _ (List.mem_filter.mp w3).1)
  obtain ⟨c15, a15⟩ := z_arq (hts _ (zOver 15 (by omega) (by omega)))
  obtain ⟨c16, a16⟩ := z_arq (hts _ (zOver 16 (by omega) (by omega)))
  obtain ⟨c17, a17⟩ := z_arq (hts _ (zOver 17 (by omega) (by omega)))
  obtain ⟨c18, a18⟩ := z_arq (hts _ (zOver 18 (by omega) (by omega)))
  let cy : Nat → ClassId := fun k => if k = 12 then c12 else if k = 13 then c13 else if k = 14 then c14 else if k = 15 then c15 else if k = 16 then c16 else if k = 17 then c17 else c18
  have hKn : zKn D cy b s.heap (L + 1, xs) s := by
    refine ⟨⟨hD, ?_⟩, hX, fun a i x h hw => va_Nw.of rfl (hts _ hw), fun C hw => va_AO.of (hts _ hw)⟩
    intro k q hq
    have hk : k < 7 := (List.getElem?_eq_some_iff.mp hq).1
    rcases (show k = 0 ∨ k = 1 ∨ k = 2 ∨ k = 3 ∨ k = 4 ∨ k = 5 ∨ k = 6 by omega) with rfl | rfl | rfl | rfl | rfl | rfl | rfl <;> cases hq
    · exact a12
    · exact a13
    · exact a14
    · exact a15
    · exact a16
    · exact a17
    · exact a18
  have F : zFx p room_1 s m #[Value.ref b] meth c D cy b s.heap (L + 1, xs) zLawI 0 :=
    ⟨hx, hb, hml, hown, fun hq => (by rw [show ((zMrow zLawI).2.1 == "<init>") = false by decide +kernel] at hq; cases hq), fun w hw => hts w (List.mem_filter.mp hw).1, hKn, hbl, rfl, by decide, by decide⟩
  have K := z_go (below := below) (e := e) (Q := lw_Z below #[Value.ref b] s) (l := l) (n0 := 0) (s0 := 0) F (hck zLawI (Nat.lt_succ_self _)) (z_run l D cy b s.heap (L + 1, xs) n hbl (fun m hm => hck m (Nat.lt_succ_of_lt hm)) d) ⟨by show d + 3 ≤ 2048; omega, by show 48 * (d + 3) ≤ 84000; omega⟩ (v := some (.int 1)) (h' := h') (by show h'.length ≤ 0 + 600000; omega) (by show zsl h' ≤ 0 + 7302250; omega)
    (fun pc i L st hd hx2 => by
      intro H locs ls cells slots S hl2 hcc hss
      have hi := xrt_int hx2
      obtain ⟨rfl, rfl⟩ := hi
      refine W.widen (k := 600000) (n := 7302250) (by omega) (by omega) ?_
      refine va_forget S.2.2.2.2 ?_
      exact lw_ret hx hb hr hlocks hd) n 0 [(0, .ref 0)] [] [] hrun
  rw [lg_entry_eq]
  refine K s.heap [] _ 0 0 ⟨fun k q hq => by simp [zW] at hq, ⟨fun i j p q hp => by simp [zW] at hp, fun k q hq => by simp [zW] at hq⟩, va_S.rf⟩ ?_ rfl rfl
  exact lv_entry [Value.ref b] (Nat.le_of_ble_eq_true rfl)
