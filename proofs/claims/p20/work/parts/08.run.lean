/-! calls, ends, runs -/
def zPc (D : va_G) (cy : Nat → ClassId) (b : Nat) (H0 : Heap) (xs : Nat × (Nat → Int32)) (h : XH) (av : List Value) : Array Value → State → Prop := fun v U =>
  v = (av.map (zcv b H0.size)).toArray ∧ U.heap.size = H0.size + h.length ∧ zSt D cy b H0 h U.heap [] ∧ zKn D cy b H0 xs U
def zQc (D : va_G) (cy : Nat → ClassId) (b : Nat) (H0 : Heap) (v : Option Value) (h : XH) : Array Value → State → Outcome → State → Prop := fun _ _ o t =>
  o = .returned (v.map (zcv b H0.size)) ∧ zSt D cy b H0 h t.heap []
def zws (cal : Nat) : List Cond := .code (zMy cal) (zMb cal) (zMl cal) (zMr cal) :: zWd
theorem zWd_good : GoodIn zWd zWd := fun w hw => ⟨hw, good_of_word (List.mem_filter.mp hw).2⟩
theorem zws_good {cal : Nat} (h : cal < zLawI) : GoodIn zWd (zws cal) := by
  intro w hw
  rcases List.mem_cons.mp hw with h1 | h1
  · subst h1
    exact zWd_good _ (zMck_use h).1
  · exact zWd_good w h1
def zrm (d cs ss : Nat) : Room := { frames := d + 2, cells := cs, slots := ss, locals := 48 * (d + 2) }
/-- what a call comes to -/
def zCal (l : Launch) (D : va_G) (cy : Nat → ClassId) (b : Nat) (H0 : Heap) (xs : Nat × (Nat → Int32)) (d : Nat) (call : XF) : Prop :=
  ∀ (cal : Nat) (a : List Value) (h : XH) (v : Option Value) (h' : XH), cal < zLawI → call cal a h = some (v, h') → h.length ≤ h'.length ∧ zsl h ≤ zsl h' ∧
    Met l (zMy cal) (zws cal) (zrm d (h'.length - h.length) (zsl h' - zsl h)) (zPc D cy b H0 xs h a) (zQc D cy b H0 v h') (h'.length - h.length) (zsl h' - zsl h) (zA H0)
theorem xrcv_use {k ci : Nat} {a : List Value} {h : XH} (hr : xrcv k ci a h = true) (hk : ¬ (k = 1 ∨ k = 3)) : ∃ n As cc, a = .ref (n + 1) :: As ∧ h[n]? = some cc ∧ cc.1 = ci := by
  unfold xrcv at hr
  rw [if_neg hk] at hr
  split at hr
  · rename_i n As
    split at hr
    · rename_i cc hcc
      exact ⟨n, As, cc, rfl, hcc, eq_of_beq hr⟩
    · cases hr
  · cases hr
theorem z_cat {b b0 : Nat} {r : List Value} (h : (r.map fun v => v.category).sum ≤ 8) : ((r.map (zcv b b0)).map fun v => v.category).sum ≤ 8 := by
  rw [List.map_map]
  have : ((fun v : Value => v.category) ∘ zcv b b0) = fun v => v.category := funext fun v => zcv_cat v
  rw [this]
  exact h
theorem xnat_eq {k : Nat} {st st' : List Value} {h h' : XH} (ho : xnat k st h = some (st', h')) : h' = h ∨ ∃ (q1 : Nat) (d : XC) (f : Nat → Value), h[q1]? = some d ∧ h' = h.set q1 (d.1, d.2.1, f) := by
  unfold xnat at ho
  split at ho
  · repeat' split at ho
    all_goals first | (cases ho; done) | (cases ho; exact Or.inl rfl)
  · split at ho
    · split at ho
      · split at ho
        · split at ho
          · split at ho
            · rename_i d hd
              split at ho
              · rename_i h1 hcp
                cases ho
                unfold xcpy at hcp
                split at hcp
                · cases hcp
                  exact Or.inr ⟨_, d, _, hd, rfl⟩
                · cases hcp
              · cases ho
            · cases ho
          · cases ho
        · cases ho
      · cases ho
    · repeat' split at ho
      all_goals first | (cases ho; done) | (cases ho; exact Or.inl rfl)
theorem xnat_len' {k : Nat} {st st' : List Value} {h h' : XH} (ho : xnat k st h = some (st', h')) : h.length ≤ h'.length ∧ zsl h ≤ zsl h' := by
  rcases xnat_eq ho with rfl | ⟨q1, d, f, hd, rfl⟩
  · exact ⟨Nat.le_refl _, Nat.le_refl _⟩
  · exact ⟨by simp, by rw [zsl_set hd]; exact Nat.le_refl _⟩
section ZC
variable {p : Program} {l : Launch} {e : Env} {R : Room} {s : State} {m : MethodId} {args : Array Value} {below : List Frame} {meth : Method} {c : Code} {Q : State → Prop}
variable {D : va_G} {cy : Nat → ClassId} {b : Nat} {H0 : Heap} {xs : Nat × (Nat → Int32)} {mi n0 s0 pc : Nat} {L : XL} {st : List Value} {h : XH}
theorem z_back {H : Heap} {locs : List Loc} {ls : Array Slot} {cells slots mc ms : Nat} {v : Option Value} {h' : XH} {a : Array Value} {st0 rest : List Value} (hL : ∀ q ∈ locs, zA H0 q.base)
    (hr : va_Run p l e R s m args below meth c H locs cells slots mc ms (F0 m pc ls st0) rest (zQc D cy b H0 v h' a) (zA H0))
    (kk : ∀ (H1 : Heap) (locs1 : List Loc), zSt D cy b H0 h' H1 locs1 → W p l e R s m args below meth c H1 locs1 (cells + mc) (slots + ms) Q (F0 m (pc + 3) ls ((v.map (zcv b H0.size)).toList ++ rest))) : W p l e R s m args below meth c H locs cells slots Q (F0 m pc ls st0) := by
  intro T hT X
  obtain ⟨v1, st₀, t, T', LL, h0, X', hL', e1, e2, ⟨hv, hS⟩, st⟩ := hr T hT X
  cases hv
  obtain ⟨t2, a1, b1⟩ := kk T'.heap (locs ++ LL) (by
    rw [e1]
    exact ⟨hS.1, hS.2.1, hS.2.2.1, hS.2.2.2.1, fun q hq => by
      rcases List.mem_append.mp hq with h1 | h1
      · exact hL q h1
      · exact hL' q h1⟩) T' rfl X'
  exact ⟨t2, st t2 a1, b1⟩
theorem zPc_blind {av : List Value} : FrameBlind (zPc D cy b H0 xs h av) := fun a U g mk q => ⟨q.1, q.2.1, q.2.2.1, zKn.same rfl q.2.2.2⟩
theorem zPc_of {H : Heap} {locs : List Loc} (hK : zKn D cy b H0 xs s) (S : zSt D cy b H0 h H locs) (hsz : H.size = H0.size + h.length) (av : List Value) : ∀ U : State, U.heap = H → s.WarmedH U.vm → zPc D cy b H0 xs h av (av.map (zcv b H0.size)).toArray U := fun U hU hW =>
  ⟨rfl, by rw [hU]; exact hsz, by rw [hU]; exact ⟨S.1, S.2.1, S.2.2.1, S.2.2.2.1, fun _ hq => by cases hq⟩, hK.warm hW⟩
theorem z_call {d : Nat} {call : XF} {en : zE} {st' : List Value} {h' : XH} (F : zFx p R s m args meth c D cy b H0 xs mi n0) (hcal : zCal l D cy b H0 xs d call) (hR : d + 3 ≤ R.frames ∧ 48 * (d + 3) ≤ R.locals) (hd : decode (zMb mi) pc = .ok (en.1, 3)) (hinv : xinv en.1 = true) (hlk : zLink (zMo mi) en = true) (h5 : en.2.2.1 < 5) (ho : xcall call en st h = some (st', h'))
    (hr1 : h'.length ≤ n0 + R.cells) (hr2 : zsl h' ≤ s0 + R.slots) (kk : zK p l e R s m args below meth c Q D cy b H0 (zMl mi) n0 s0 (pc + 3) L st' h') : zK p l e R s m args below meth c Q D cy b H0 (zMl mi) n0 s0 pc L st h := by
  have F0' := F
  obtain ⟨hx, hb, hml, hown, hmn, hts, hKn, hbl, hsz0, hfr, hlo⟩ := F
  simp only [xcall] at ho
  split at ho
  · rename_i hcond
    obtain ⟨hlen, hcat, hrcv⟩ := hcond
    split at ho
    · rename_i v h1 hcl
      cases ho
      have hlk' : ∃ i, zLkc (zMo mi) i en = true ∧ ((en.1 = .invokevirtual i ∧ en.2.2.1 = 0) ∨ (en.1 = .invokestatic i ∧ (en.2.2.1 = 1 ∨ en.2.2.1 = 3)) ∨ (en.1 = .invokespecial i ∧ (en.2.2.1 = 2 ∨ en.2.2.1 = 4))) := by
        cases he : en.1 <;> rw [he] at hinv <;> simp [xinv] at hinv
        all_goals (rename_i i; refine ⟨i, ?_⟩; unfold zLink at hlk; rw [he] at hlk; simp at hlk; refine ⟨hlk.1, ?_⟩; simp; omega)
      obtain ⟨i, hzl, hform⟩ := hlk'
      obtain ⟨host, pp, hok⟩ := zCl_use hzl
      have hcalI : en.2.1 < zLawI := by
        unfold zCok at hok
        rcases (show en.2.2.1 = 0 ∨ en.2.2.1 = 1 ∨ en.2.2.1 = 2 ∨ en.2.2.1 = 3 ∨ en.2.2.1 = 4 by omega) with h6 | h6 | h6 | h6 | h6 <;> rw [h6] at hok <;> simp only [Bool.and_eq_true, decide_eq_true_eq] at hok
        · exact hok.2.2.2.2.2
        · exact hok.2.2.2
        · exact hok.2.2.2.2.2.2
        · exact hok.2.2.2
        · exact hok.2.2.2.2.2.2
      obtain ⟨hm1, hm2, hMet⟩ := hcal _ _ _ _ _ hcalI hcl
      obtain ⟨g1, g2, g3, g4, -⟩ := zMck_use hcalI
      have hsplit : st = (st.take en.2.2.2.1.toNat) ++ st.drop en.2.2.2.1.toNat := (List.take_append_drop _ _).symm
      generalize hN : en.2.2.2.1.toNat = N at *
      generalize hr : st.drop N = r at *
      intro H locs ls cells slots hS hl hcc hss
      refine z_size F0' hS hcc (fun hsz => ?_)
      have kk' : ∀ (H1 : Heap) (locs1 : List Loc), zSt D cy b H0 h' H1 locs1 → W p l e R s m args below meth c H1 locs1 (cells + (h'.length - h.length)) (slots + (zsl h' - zsl h)) Q (F0 m (pc + 3) ls ((v.map (zcv b H0.size)).toList ++ r.map (zcv b H0.size))) := fun H1 locs1 S1 => by
        have := kk H1 locs1 ls (cells + (h'.length - h.length)) (slots + (zsl h' - zsl h)) S1 hl (by omega) (by omega)
        rw [List.map_append] at this
        cases v <;> exact this
      have hfix : CallFix p m c (zMb mi) (zMl mi) s args zWd (zMn mi) := ⟨hx, hb, hml, hown, hts⟩
      have hroom : (zrm d (h'.length - h.length) (zsl h' - zsl h)).frames + 1 ≤ R.frames ∧ 8 + (zMl en.2.1 + 11) + (zrm d (h'.length - h.length) (zsl h' - zsl h)).locals ≤ R.locals := ⟨by show d + 2 + 1 ≤ _; omega, by show 8 + (zMl en.2.1 + 11) + 48 * (d + 2) ≤ _; omega⟩
      have hrc : ((r.map (zcv b H0.size)).map fun v => v.category).sum ≤ 8 := by
        rw [List.map_map]
        have : ((fun v : Value => v.category) ∘ zcv b H0.size) = fun v => v.category := funext fun v => zcv_cat v
        rw [this]
        exact hcat
      have hstat : ∀ (k : Nat), k = 1 ∨ k = 3 → en.2.2.1 = k → en.1 = .invokestatic i → (Cond.static (zMy en.2.1)).before args s = true → (parseMethodDescriptor (zMrow en.2.1).2.2.1).map (fun d => d.parameters.length + 0) = some N →
          ((Cond.methodLink (zMn mi) i (zMy en.2.1)).before args s = true ∨ va_Nw (.methodLinkNest (zMn mi) i (zMy en.2.1) host) s) → W p l e R s m args below meth c H locs cells slots Q (F0 m pc ls (st.map (zcv b H0.size))) := by
        intro k hk1 hk2 hform2 hst2 hnar hlink
        have hAs : (((st.take N).reverse).map (zcv b H0.size)).length = N := by simp; omega
        have hst3 : st.map (zcv b H0.size) = (((st.take N).reverse).map (zcv b H0.size)).reverse ++ r.map (zcv b H0.size) := by
          conv => lhs; rw [hsplit]
          simp
        rw [hform2] at hd
        rcases hlink with hlink | hlink
        · exact z_back hS.2.2.2.2 (va_runS hfix hMet ⟨callB_of N hts (zws_good hcalI) rfl rfl rfl (hts _ g2) hlink ⟨g3.1, g3.2, hnar⟩ hroom, hst2⟩ ⟨zPc_blind, zPc_of hKn hS hsz _⟩ rfl hAs hl.1 hst3 (lv_room hrc) hd ⟨by omega, by omega⟩) kk'
        · exact z_back hS.2.2.2.2 (va_runSN hfix hMet ⟨va_cnB N hts (zws_good hcalI) rfl rfl rfl hlink (hts _ g2) ⟨g3.1, g3.2, hnar⟩ hroom, hst2, trivial⟩ ⟨zPc_blind, zPc_of hKn hS hsz _⟩ rfl hAs hl.1 hst3 (lv_room hrc) hd ⟨by omega, by omega⟩) kk'
      have hobj : ¬ (en.2.2.1 = 1 ∨ en.2.2.1 = 3) → zMo en.2.1 < 12 → (parseMethodDescriptor (zMrow en.2.1).2.2.1).map (fun d => d.parameters.length + 1) = some N → ∃ (n : Nat) (As : List Value) (cc : XC), (st.take N).reverse = .ref (n + 1) :: As ∧ h[n]? = some cc ∧ cc.1 = zMo en.2.1 ∧ (As.map (zcv b H0.size)).length = N - 1 ∧ st.map (zcv b H0.size) = (As.map (zcv b H0.size)).reverse ++ .ref (H0.size + n) :: r.map (zcv b H0.size) ∧ (parseMethodDescriptor (zMrow en.2.1).2.2.1).map (fun d => d.parameters.length) = some (N - 1) := by
        intro hk h12 hnar
        obtain ⟨n, As, cc, ha, hcc1, hcc2⟩ := xrcv_use hrcv hk
        have hlen2 : (st.take N).reverse.length = N := by simp; omega
        rw [ha] at hlen2
        refine ⟨n, As, cc, ha, hcc1, hcc2, by simp at hlen2 ⊢; omega, ?_, ?_⟩
        · have : st.take N = As.reverse ++ [.ref (n + 1)] := by
            have := congrArg List.reverse ha
            simpa using this
          conv => lhs; rw [hsplit, this]
          simp [zcv, zad]
        · cases hpd : parseMethodDescriptor (zMrow en.2.1).2.2.1 with
          | none => rw [hpd] at hnar; cases hnar
          | some dd =>
            rw [hpd] at hnar
            simp only [Option.map_some, Option.some.injEq] at hnar ⊢
            omega
      have hrecv : ∀ (n : Nat) (cc : XC), h[n]? = some cc → cc.1 = zMo en.2.1 → zMo en.2.1 < 12 → ∃ cellB : Cell, H[H0.size + n]? = some cellB ∧ cellB.vm.isStatics = false ∧ s.vm.findClass (zMn en.2.1) = some cellB.cls := by
        intro n cc hcc1 hcc2 h12
        have he := zW_at0 (b := b) (b0 := H0.size) (cy := cy) hcc1
        rw [zEl_obj (by omega), hcc2] at he
        obtain ⟨rr, hrr⟩ : ∃ rr, vwCl[zMo en.2.1]? = some rr := ⟨_, List.getElem?_eq_getElem (by exact h12)⟩
        have := va_recv hKn.1 hS.1 hrr he
        rwa [← (zCls_use hrr).2.2.2.2.2.2.2.2.2] at this
      unfold zCok at hok
      rcases (show en.2.2.1 = 0 ∨ en.2.2.1 = 1 ∨ en.2.2.1 = 2 ∨ en.2.2.1 = 3 ∨ en.2.2.1 = 4 by omega) with h6 | h6 | h6 | h6 | h6 <;> rw [h6] at hok hform <;> simp only [Bool.and_eq_true, decide_eq_true_eq, zNar, hN] at hok
      · obtain ⟨o1, o2, o3, o4, o5, -⟩ := hok
        obtain ⟨n, As, cc, ha, hcc1, hcc2, hAs, hst3, hnar⟩ := hobj (by omega) o5 o4
        have hf : en.1 = .invokevirtual i := by
          rcases hform with ⟨q, -⟩ | ⟨-, q⟩ | ⟨-, q⟩ <;> first | exact q | omega
        rw [hf] at hd
        rw [ha] at hMet
        rw [hst3]
        exact z_back hS.2.2.2.2 (va_runV (C := zMn en.2.1) hfix hMet ⟨callB_of (N - 1) hts (zws_good hcalI) rfl rfl rfl (hts _ g2) (hts _ (zIn_mem o1)) ⟨g3.1, g3.2, hnar⟩ hroom, hts _ (zIn_mem o2), hts _ (zIn_mem o3)⟩ ⟨zPc_blind, hrecv n cc hcc1 hcc2 o5, zPc_of hKn hS hsz _⟩ rfl hAs hl.1 rfl (lv_room hrc) hd ⟨by omega, by omega⟩) kk'
      · obtain ⟨o1, o2, o3, -⟩ := hok
        have hf : en.1 = .invokestatic i := by
          rcases hform with ⟨-, q⟩ | ⟨q, -⟩ | ⟨-, q⟩ <;> first | exact q | omega
        exact hstat 1 (Or.inl rfl) h6 hf (hts _ (zIn_mem o2)) o3 (Or.inl (hts _ (zIn_mem o1)))
      · obtain ⟨o1, o2, o3, o4, o5, o6, -⟩ := hok
        obtain ⟨n, As, cc, ha, hcc1, hcc2, hAs, hst3, hnar⟩ := hobj (by omega) o5 o4
        have hf : en.1 = .invokespecial i := by
          rcases hform with ⟨-, q⟩ | ⟨-, q⟩ | ⟨q, -⟩ <;> first | exact q | omega
        rw [hf] at hd
        rw [ha] at hMet
        rw [hst3]
        exact z_back hS.2.2.2.2 (va_runI hfix hMet ⟨callB_of (N - 1) hts (zws_good hcalI) (by unfold zws; rw [o6]) rfl rfl (hts _ g2) (hts _ (zIn_mem o1)) ⟨g3.1, g3.2, hnar⟩ hroom, o3, hts _ (zIn_mem o2)⟩ ⟨zPc_blind, zPc_of hKn hS hsz _⟩ rfl hAs hl.1 rfl (lv_room hrc) hd ⟨by omega, by omega⟩) kk'
      · obtain ⟨o1, o2, o3, -⟩ := hok
        have hf : en.1 = .invokestatic i := by
          rcases hform with ⟨-, q⟩ | ⟨q, -⟩ | ⟨-, q⟩ <;> first | exact q | omega
        exact hstat 3 (Or.inr rfl) h6 hf (hts _ (zIn_mem o2)) o3 (Or.inr (hKn.2.2.1 _ _ _ _ (zI0_mem o1)))
      · obtain ⟨o1, o2, o3, o4, o5, o6, -⟩ := hok
        obtain ⟨n, As, cc, ha, hcc1, hcc2, hAs, hst3, hnar⟩ := hobj (by omega) o5 o4
        have hf : en.1 = .invokespecial i := by
          rcases hform with ⟨-, q⟩ | ⟨-, q⟩ | ⟨q, -⟩ <;> first | exact q | omega
        rw [hf] at hd
        rw [ha] at hMet
        rw [hst3]
        exact z_back hS.2.2.2.2 (va_runIN hfix hMet ⟨va_cnB (N - 1) hts (zws_good hcalI) (by unfold zws; rw [o6]) rfl rfl (hKn.2.2.1 _ _ _ _ (zI0_mem o1)) (hts _ g2) ⟨g3.1, g3.2, hnar⟩ hroom, o3, hts _ (zIn_mem o2)⟩ ⟨zPc_blind, zPc_of hKn hS hsz _⟩ rfl hAs hl.1 rfl (lv_room hrc) hd ⟨by omega, by omega⟩) kk'
    · cases ho
  · cases ho
theorem z_nat {en : zE} {st' : List Value} {h' : XH} (F : zFx p R s m args meth c D cy b H0 xs mi n0) (hd : decode (zMb mi) pc = .ok (en.1, 3)) (hinv : xinv en.1 = true) (hlk : zLink (zMo mi) en = true) (h5 : ¬ en.2.2.1 < 5) (ho : xnat en.2.2.1 st h = some (st', h')) (hr1 : h'.length ≤ n0 + R.cells) (hr2 : zsl h' ≤ s0 + R.slots) (kk : zK p l e R s m args below meth c Q D cy b H0 (zMl mi) n0 s0 (pc + 3) L st' h') : zK p l e R s m args below meth c Q D cy b H0 (zMl mi) n0 s0 pc L st h := by
  obtain ⟨hx, hb, hml, hown, hmn, hts, hKn, hbl, hsz0, hfr, hlo⟩ := F
  have hlk' : ∃ i, zLkc (zMo mi) i en = true ∧ ((en.1 = .invokestatic i ∧ 6 ≤ en.2.2.1) ∨ (en.1 = .invokespecial i ∧ en.2.2.1 = 5)) := by
    cases he : en.1 <;> rw [he] at hinv <;> simp [xinv] at hinv
    all_goals (rename_i i; refine ⟨i, ?_⟩; unfold zLink at hlk; rw [he] at hlk; simp at hlk; refine ⟨hlk.1, ?_⟩; simp; omega)
  obtain ⟨i, hzl, hform⟩ := hlk'
  obtain ⟨host, pp, hok⟩ := zCl_use hzl
  obtain ⟨w1, w2, w3, w4, w5, w6, w7, w8, w9, w10, w11, w12⟩ := zNat_words
  obtain ⟨hm1, hm2⟩ := xnat_len' ho
  unfold zCok at hok
  unfold xnat at ho
  intro H locs ls cells slots hS hl hcc hss
  have hc1 : cells ≤ R.cells := by omega
  have hs1 : slots ≤ R.slots := by omega
  split at ho
  · rename_i h6
    rw [h6] at hok hform
    have hf : en.1 = .invokespecial i := by
      rcases hform with ⟨-, q⟩ | ⟨q, -⟩ <;> first | exact q | omega
    rw [hf] at hd
    split at ho
    · split at ho
      · rename_i n r hcat
        cases ho
        refine W.objInit hx hb hown (hts _ (zIn_mem hok)) (hts _ w1) (hts _ w2) rfl (by rw [hml]; exact hl.1) rfl hd (by omega) ?_ (kk H locs ls cells slots hS hl hcc hss)
        have hrc := z_cat (b := b) (b0 := H0.size) hcat
        show 2 * 0 + _ + 12 ≤ _
        omega
      · cases ho
    · cases ho
  · split at ho
    · rename_i h6
      rw [h6] at hok hform
      have hf : en.1 = .invokestatic i := by
        rcases hform with ⟨q, -⟩ | ⟨-, q⟩ <;> first | exact q | omega
      rw [hf] at hd
      split at ho
      · rename_i n dp q1 sp q0 r
        split at ho
        · rename_i hcat
          split at ho
          · rename_i cc hcc1
            split at ho
            · rename_i dd hdd1
              split at ho
              · rename_i h1 hcp
                cases ho
                unfold xcpy at hcp
                split at hcp
                · rename_i hcond
                  cases hcp
                  obtain ⟨k1, k2, k3, k4, k5, k6, k7⟩ := hcond
                  have he0 := zW_at0 (b := b) (b0 := H0.size) (cy := cy) hcc1
                  have he1 := zW_at0 (b := b) (b0 := H0.size) (cy := cy) hdd1
                  have hrc := z_cat (b := b) (b0 := H0.size) hcat
                  have hnw : nativeFrameWords "java/lang/System" "arraycopy" 5 = 7 := by decide
                  rcases k1 with k1 | k1
                  · rw [zEl_I k1] at he0
                    rw [zEl_I (k2.trans k1)] at he1
                    refine va_copyi hx hb (by rw [hml]; exact hl.1.symm) hown (hts _ (zIn_mem hok)) (hts _ w3) (hts _ w4) (hts _ w5) hKn.1 hS.1 hS.2.1 hS.2.2 q0 q1 0 0 he0 he1 rfl rfl rfl k3 k4 k5 k6 k7 (fun _ _ => rfl) (by omega) (by rw [hnw]; omega) hd (fun H1 locs1 hP hD hS1 => kk H1 locs1 ls cells slots (zSt_put ?_ hP hD hS1) hl (by simpa using hcc) (by rw [zsl_set hdd1]; exact hss))
                    rw [zEl_I (by exact k2.trans k1)]
                    congr 4
                    funext j
                    simp only [va_cpy]
                    split <;> rfl
                  · rw [zEl_J k1] at he0
                    rw [zEl_J (k2.trans k1)] at he1
                    refine va_copyl hx hb (by rw [hml]; exact hl.1.symm) hown (hts _ (zIn_mem hok)) (hts _ w3) (hts _ w4) (hts _ w5) hKn.1 hS.1 hS.2.1 hS.2.2 q0 q1 1 1 he0 he1 rfl rfl rfl k3 k4 k5 k6 k7 (fun _ _ => rfl) (by omega) (by rw [hnw]; omega) hd (fun H1 locs1 hP hD hS1 => kk H1 locs1 ls cells slots (zSt_put ?_ hP hD hS1) hl (by simpa using hcc) (by rw [zsl_set hdd1]; exact hss))
                    rw [zEl_J (by exact k2.trans k1)]
                    congr 5
                    funext j
                    simp only [va_cpy]
                    split <;> rfl
                · cases hcp
              · cases ho
            · cases ho
          · cases ho
        · cases ho
      · cases ho
    · split at ho
      · rename_i h6
        rw [h6] at hok hform
        have hf : en.1 = .invokestatic i := by
          rcases hform with ⟨q, -⟩ | ⟨-, q⟩ <;> first | exact q | omega
        rw [hf] at hd
        split at ho
        · split at ho
          · rename_i hcat
            cases ho
            have hrc := z_cat (b := b) (b0 := H0.size) hcat
            exact va_mmax hx hb (by rw [hml]; exact hl.1.symm) hown (hts _ (zIn_mem hok)) (hts _ w6) (hts _ w9) (hts _ w10) (by omega) (by omega) hc1 hs1 hd (kk H locs ls cells slots hS hl hcc hss)
          · cases ho
        · cases ho
      · split at ho
        · rename_i h6
          rw [h6] at hok hform
          have hf : en.1 = .invokestatic i := by
            rcases hform with ⟨q, -⟩ | ⟨-, q⟩ <;> first | exact q | omega
          rw [hf] at hd
          split at ho
          · split at ho
            · rename_i hcat
              cases ho
              have hrc := z_cat (b := b) (b0 := H0.size) hcat
              exact va_mmin hx hb (by rw [hml]; exact hl.1.symm) hown (hts _ (zIn_mem hok)) (hts _ w7) (hts _ w9) (hts _ w11) (by omega) (by omega) hc1 hs1 hd (kk H locs ls cells slots hS hl hcc hss)
            · cases ho
          · cases ho
        · split at ho
          · rename_i h6
            rw [h6] at hok hform
            have hf : en.1 = .invokestatic i := by
              rcases hform with ⟨q, -⟩ | ⟨-, q⟩ <;> first | exact q | omega
            rw [hf] at hd
            split at ho
            · split at ho
              · rename_i hcat
                cases ho
                have hrc := z_cat (b := b) (b0 := H0.size) hcat
                exact va_mabs hx hb (by rw [hml]; exact hl.1.symm) hown (hts _ (zIn_mem hok)) (hts _ w8) (hts _ w9) (hts _ w12) (by omega) (by omega) hc1 hs1 hd (kk H locs ls cells slots hS hl hcc hss)
              · cases ho
            · cases ho
          · cases ho
theorem z_hp {en : zE} {st' : List Value} {h' : XH} (F : zFx p R s m args meth c D cy b H0 xs mi n0) (hd : decode (zMb mi) pc = .ok (en.1, zLen en.1)) (hlk : zLink (zMo mi) en = true) (ho : xhp xs ((zMrow mi).2.1 == "<init>") (zMo mi) en st h = some (st', h')) (hr1 : h'.length ≤ n0 + R.cells) (hr2 : zsl h' ≤ s0 + R.slots) (kk : zK p l e R s m args below meth c Q D cy b H0 (zMl mi) n0 s0 (pc + zLen en.1) L st' h') : zK p l e R s m args below meth c Q D cy b H0 (zMl mi) n0 s0 pc L st h := by
  obtain ⟨i1, a1, a2, cst, pos⟩ := en
  dsimp only at hd kk
  cases i1
  case getfield i =>
    simp only [zLink, decide_eq_true_eq] at hlk
    simp only [xhp] at ho
    split at ho
    · split at ho
      · rename_i cc hcc1
        split at ho
        · rename_i hc
          cases ho; exact z_getf F hd hlk hcc1 hc.1 hc.2 kk
        · cases ho
      · cases ho
    · cases ho
  case putfield i =>
    simp only [zLink, decide_eq_true_eq] at hlk
    simp only [xhp] at ho
    split at ho
    · split at ho
      · rename_i cc hcc1
        split at ho
        · rename_i hc
          cases ho; exact z_putf F hd hlk hcc1 hc.1 hc.2.1 hc.2.2.1 hc.2.2.2 kk
        · cases ho
      · cases ho
    · cases ho
  case iaload =>
    simp only [xhp] at ho
    split at ho
    · split at ho
      · rename_i hc
        cases ho; exact z_sald F hd hc kk
      · cases ho
    · split at ho
      · rename_i cc hcc1
        split at ho
        · rename_i hc
          cases ho; exact z_iald F hd hcc1 hc.1 hc.2 kk
        · cases ho
      · cases ho
    · cases ho
  case baload =>
    simp only [xhp] at ho
    split at ho
    · split at ho
      · rename_i cc hcc1
        split at ho
        · rename_i hc
          cases ho; exact z_zald F hd hcc1 hc.1 hc.2 kk
        · cases ho
      · cases ho
    · cases ho
  case laload =>
    simp only [xhp] at ho
    split at ho
    · split at ho
      · rename_i cc hcc1
        split at ho
        · rename_i hc
          cases ho; exact z_lald F hd hcc1 hc.1 hc.2 kk
        · cases ho
      · cases ho
    · cases ho
  case aaload =>
    simp only [xhp] at ho
    split at ho
    · split at ho
      · rename_i cc hcc1
        split at ho
        · rename_i hc
          cases ho; exact z_aald F hd hcc1 hc.1 hc.2.1 hc.2.2 kk
        · cases ho
      · cases ho
    · cases ho
  case iastore =>
    simp only [xhp] at ho
    split at ho
    · split at ho
      · rename_i cc hcc1
        split at ho
        · rename_i hc
          cases ho; exact z_iast F hd hcc1 hc.1 hc.2 kk
        · cases ho
      · cases ho
    · cases ho
  case bastore =>
    simp only [xhp] at ho
    split at ho
    · split at ho
      · rename_i cc hcc1
        split at ho
        · rename_i hc
          cases ho; exact z_zast F hd hcc1 hc.1 hc.2 kk
        · cases ho
      · cases ho
    · cases ho
  case lastore =>
    simp only [xhp] at ho
    split at ho
    · split at ho
      · rename_i cc hcc1
        split at ho
        · rename_i hc
          cases ho; exact z_last F hd hcc1 hc.1 hc.2 kk
        · cases ho
      · cases ho
    · cases ho
  case aastore =>
    simp only [xhp] at ho
    split at ho
    · split at ho
      · rename_i cc hcc1
        split at ho
        · rename_i dd hdd1
          split at ho
          · rename_i hc
            cases ho; exact z_aast F hd hcc1 hdd1 hc.1 hc.2.1 hc.2.2.1 hc.2.2.2 kk
          · cases ho
        · cases ho
      · cases ho
    · cases ho
  case arraylength =>
    simp only [xhp] at ho
    split at ho
    · split at ho
      · cases ho
      · cases ho; exact z_slen F hd kk
    · split at ho
      · rename_i cc hcc1
        split at ho
        · rename_i hc
          cases ho; exact z_alen F hd hcc1 hc.1 hc.2 kk
        · cases ho
      · cases ho
    · cases ho
  case new i =>
    simp only [zLink, decide_eq_true_eq] at hlk
    simp only [xhp] at ho
    split at ho
    · rename_i cc hcc1
      cases ho
      exact z_new F hd hlk hcc1 (by simpa using hr1) (by rw [zsl_app] at hr2; exact hr2) kk
    · cases ho
  case newarray at_ =>
    simp only [xhp] at ho
    split at ho
    · rename_i n r
      split at ho
      · rename_i hc
        cases ho
        obtain ⟨hc1, hc2⟩ := hc
        obtain ⟨w1, w2, w3⟩ := zArr_words
        simp only [zLink] at hlk
        cases at_ <;> simp at hlk
        case int =>
          subst hlk
          exact z_newa (ty := .int) (t0 := 0) F hd rfl w1 hc1 hc2 (by decide) (fun N => Or.inl ⟨by rw [zEl_I rfl]; rfl, rfl⟩) rfl (fun _ => by simp) (by simpa using hr1) (by rw [zsl_app] at hr2; exact hr2) kk
        case long =>
          subst hlk
          exact z_newa (ty := .long) (t0 := 1) F hd rfl w2 hc1 hc2 (by decide) (fun N => Or.inr ⟨by rw [zEl_J rfl]; rfl, rfl⟩) rfl (fun _ => by simp) (by simpa using hr1) (by rw [zsl_app] at hr2; exact hr2) kk
        case boolean =>
          subst hlk
          exact z_newa (ty := .boolean) (t0 := 2) F hd rfl w3 hc1 hc2 (by decide) (fun N => Or.inl ⟨by rw [zEl_Z rfl]; rfl, rfl⟩) rfl (fun _ => by simp) (by simpa using hr1) (by rw [zsl_app] at hr2; exact hr2) kk
      · cases ho
    · cases ho
  case anewarray i =>
    simp only [zLink, decide_eq_true_eq] at hlk
    simp only [xhp] at ho
    split at ho
    · split at ho
      · rename_i hc
        cases ho
        exact z_anew F hd hlk hc.1 hc.2 (by simpa using hr1) (by rw [zsl_app] at hr2; exact hr2) kk
      · cases ho
    · cases ho
  case ldc i =>
    simp only [zLink, decide_eq_true_eq] at hlk
    simp only [xhp] at ho
    cases ho; exact z_ldc F hd hlk kk
  case ldc_w i =>
    simp only [zLink, decide_eq_true_eq] at hlk
    simp only [xhp] at ho
    cases ho; exact z_ldcw F hd hlk kk
  case ldc2_w i =>
    simp only [zLink, decide_eq_true_eq] at hlk
    simp only [xhp] at ho
    cases ho; exact z_ldc2 F hd hlk kk
  all_goals (exact absurd ho (by simp [xhp]))
end ZC
