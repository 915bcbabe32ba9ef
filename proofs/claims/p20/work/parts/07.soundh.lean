/-! the small machine's steps on the heap are the machine's -/
theorem zW_at0 {b b0 : Nat} {cy : Nat → ClassId} {h : XH} {c : XC} {n : Nat} (hn : h[n]? = some c) : (zW b b0 cy 0 h)[n]? = some (b0 + n, zEl b b0 cy c) := by
  have := zW_at (b := b) (b0 := b0) (cy := cy) (k := 0) hn
  rwa [Nat.zero_add] at this
theorem zW_set0 {b b0 : Nat} {cy : Nat → ClassId} {h : XH} {c : XC} {n : Nat} : (zW b b0 cy 0 h).set n (b0 + n, zEl b b0 cy c) = zW b b0 cy 0 (h.set n c) := by
  have := zW_set (b := b) (b0 := b0) (cy := cy) (h := h) (c := c) (k := 0) (n := n)
  rwa [Nat.zero_add] at this
theorem zsl_set {h : XH} {n : Nat} {c : XC} {f : Nat → Value} (hn : h[n]? = some c) : zsl (h.set n (c.1, c.2.1, f)) = zsl h := by
  have hl : n < h.length := (List.getElem?_eq_some_iff.mp hn).1
  have hc : h[n] = c := (List.getElem?_eq_some_iff.mp hn).2
  unfold zsl
  rw [List.map_set]
  congr 1
  apply List.ext_getElem?
  intro j
  rw [List.getElem?_set]
  split
  · rename_i hj
    subst hj
    simp [hl, hc]
  · rfl
theorem zsl_app {h : XH} {c : XC} : zsl (h ++ [c]) = zsl h + c.2.1 := by simp [zsl]
theorem zEl_set_obj {b b0 : Nat} {cy : Nat → ClassId} {c : XC} {k : Nat} {v : Value} (hc : c.1 < 12) : zEl b b0 cy (c.1, c.2.1, updV c.2.2 k v) = .inr (c.1, ((List.range c.2.1).map (fun j => zcv b b0 (c.2.2 j))).set k (zcv b b0 v)) := by
  rw [zEl_obj (by exact hc)]
  congr 2
  apply List.ext_getElem?
  intro j
  rw [List.getElem?_set]
  simp only [List.length_map, List.length_range, List.getElem?_map]
  by_cases hj : j < c.2.1
  · rw [List.getElem?_range hj]
    by_cases hk : k = j
    · subst hk
      simp [hj, updV]
    · have : ¬ j = k := fun q => hk q.symm
      simp [hk, updV, this]
  · have : (List.range c.2.1)[j]? = none := by simp; omega
    rw [this]
    by_cases hk : k = j
    · subst hk
      simp [hj]
    · simp [hk]
theorem zFit {t : Nat} {ty : FieldType} {fin : Bool} {v : Value} {b b0 : Nat} (h1 : zFtok t ty fin = true) (h2 : xfit t v = true) : narrow ty (zcv b b0 v) = zcv b b0 v ∧ fits ty (zcv b b0 v) = true ∧ (fin = true → t = 3) := by
  unfold xfit at h2
  split at h2
  · rename_i x
    simp only [Bool.or_eq_true, Bool.and_eq_true, beq_iff_eq] at h2
    rcases h2 with rfl | ⟨rfl, h3⟩
    · unfold zFtok at h1
      split at h1 <;> first | cases h1 | skip
      all_goals (first | (rename_i h; cases h; done) | skip)
      · exact ⟨rfl, rfl, fun q => by rw [q] at h1; cases h1⟩
    · unfold zFtok at h1
      split at h1 <;> first | cases h1 | skip
      all_goals (first | (rename_i h; cases h; done) | skip)
      · rcases h3 with rfl | rfl
        · exact ⟨rfl, rfl, fun q => by rw [q] at h1; cases h1⟩
        · exact ⟨rfl, rfl, fun q => by rw [q] at h1; cases h1⟩
  · rename_i n
    simp only [Bool.and_eq_true, Bool.or_eq_true, beq_iff_eq] at h2
    rcases h2.1 with rfl | rfl
    · unfold zFtok at h1
      split at h1 <;> first | cases h1 | skip
      all_goals (first | (rename_i h; cases h; done) | skip)
      · exact ⟨rfl, rfl, fun q => by rw [q] at h1; cases h1⟩
      · exact ⟨rfl, rfl, fun q => by rw [q] at h1; cases h1⟩
    · unfold zFtok at h1
      split at h1 <;> first | cases h1 | skip
      all_goals (first | (rename_i h; cases h; done) | skip)
      · exact ⟨rfl, rfl, fun _ => rfl⟩
      · exact ⟨rfl, rfl, fun _ => rfl⟩
  · cases h2
theorem zDef_ok {t : Nat} {ty : FieldType} {fin : Bool} (h : zFtok t ty fin = true) : defaultValue ty = zDef t := by
  unfold zFtok at h
  split at h <;> first | rfl | cases h
theorem zDef_cv {t b b0 : Nat} : zcv b b0 (zDef t) = zDef t := by
  unfold zDef
  cases (t == 0 || t == 1) <;> rfl
section ZH
variable {p : Program} {l : Launch} {e : Env} {R : Room} {s : State} {m : MethodId} {args : Array Value} {below : List Frame} {meth : Method} {c : Code} {Q : State → Prop}
variable {D : va_G} {cy : Nat → ClassId} {b : Nat} {H0 : Heap} {xs : Nat × (Nat → Int32)} {mi n0 s0 pc : Nat} {L : XL} {r : List Value} {h : XH}
theorem z_size {H : Heap} {locs : List Loc} {cells slots : Nat} {g : JFrame} (F : zFx p R s m args meth c D cy b H0 xs mi n0) (S : zSt D cy b H0 h H locs) (hc : cells + n0 = h.length) (k : H.size = H0.size + h.length → W p l e R s m args below meth c H locs cells slots Q g) : W p l e R s m args below meth c H locs cells slots Q g := fun T hT X => k (by
  obtain ⟨-, -, h1, -⟩ := X.same
  have h2 := S.lo
  have h3 : T.heap.size ≤ s.heap.size + cells := h1
  obtain ⟨-, -, -, -, -, -, -, -, h4, -⟩ := F
  rw [hT] at h3
  omega) T hT X
theorem zSt_put {n : Nat} {cc : XC} {f : Nat → Value} {H1 : Heap} {locs1 : List Loc} {E : va_E} (hE : zEl b H0.size cy (cc.1, cc.2.1, f) = E) (hP : va_P D vwCl ((zW b H0.size cy 0 h).set n (H0.size + n, E)) H1) (hD : va_D (zA H0) ((zW b H0.size cy 0 h).set n (H0.size + n, E))) (hS : va_S (zA H0) H0 H1 locs1) : zSt D cy b H0 (h.set n (cc.1, cc.2.1, f)) H1 locs1 := by
  subst hE
  rw [zW_set0] at hP hD
  exact ⟨hP, hD, hS⟩
theorem z_getf {i ci k pos n : Nat} {cc : XC} (F : zFx p R s m args meth c D cy b H0 xs mi n0) (hd : decode (zMb mi) pc = .ok (.getfield i, 3)) (hz : zFl[pos]? = some (zMo mi, i, ci, k)) (hn : h[n]? = some cc) (hc1 : cc.1 = ci) (hk : k < cc.2.1) (kk : zK p l e R s m args below meth c Q D cy b H0 (zMl mi) n0 s0 (pc + 3) L (cc.2.2 k :: r) h) : zK p l e R s m args below meth c Q D cy b H0 (zMl mi) n0 s0 pc L (.ref (n + 1) :: r) h := by
  obtain ⟨hx, hb, -, hown, -, hts, hKn, -⟩ := F
  obtain ⟨q, hq, hkN, hw⟩ := zFl_use hz
  obtain ⟨h12, hin, hty, hdc, hft, hnm, hlen, -⟩ := zCls_use hq
  intro H locs ls cells slots hS hl hcc hss
  have kk := kk H locs ls cells slots hS hl hcc hss
  have he := zW_at0 (b := b) (b0 := H0.size) (cy := cy) hn
  rw [zEl_obj (by omega), hc1] at he
  exact va_get (own := zMn mi) (ref := q.1) (C := q.1) (T := q.2.1) (N := q.2.2) (ci := ci) hx hb hts hin hown hKn.1 hS.1 n he hq k hkN (hts _ hw) (fun x hx => by rw [hdc k hkN] at hx; exact hx) (v := zcv b H0.size (cc.2.2 k)) (by simp [hk]) hd kk
theorem z_putf {i ci k pos n : Nat} {cc : XC} {v : Value} (F : zFx p R s m args meth c D cy b H0 xs mi n0) (hd : decode (zMb mi) pc = .ok (.putfield i, 3)) (hz : zFl[pos]? = some (zMo mi, i, ci, k)) (hn : h[n]? = some cc) (hc1 : cc.1 = ci) (hk : k < cc.2.1) (hv : xfit (zFt ci k) v = true) (hf : zFt ci k = 3 → ((zMrow mi).2.1 == "<init>") = true ∧ zMo mi = ci) (kk : zK p l e R s m args below meth c Q D cy b H0 (zMl mi) n0 s0 (pc + 3) L r (h.set n (cc.1, cc.2.1, updV cc.2.2 k v))) : zK p l e R s m args below meth c Q D cy b H0 (zMl mi) n0 s0 pc L (v :: .ref (n + 1) :: r) h := by
  obtain ⟨hx, hb, -, hown, hmn, hts, hKn, -⟩ := F
  obtain ⟨q, hq, hkN, hw⟩ := zFl_use hz
  obtain ⟨h12, hin, hty, hdc, hft, hnm, hlen, -, -, hnmc⟩ := zCls_use hq
  obtain ⟨hv1, hv2, hv3⟩ := zFit (b := b) (b0 := H0.size) (hft k hkN) hv
  intro H locs ls cells slots hS hl hcc hss
  have he := zW_at0 (b := b) (b0 := H0.size) (cy := cy) hn
  rw [zEl_obj (by omega), hc1] at he
  have hEl : zEl b H0.size cy (cc.1, cc.2.1, updV cc.2.2 k v) = .inr (ci, ((List.range cc.2.1).map (fun j => zcv b H0.size (cc.2.2 j))).set k (zcv b H0.size v)) := by rw [← hc1]; exact zEl_set_obj (by omega)
  have fin : ∀ (H1 : Heap) (locs1 : List Loc), va_P D vwCl ((zW b H0.size cy 0 h).set n (H0.size + n, .inr (ci, ((List.range cc.2.1).map (fun j => zcv b H0.size (cc.2.2 j))).set k (zcv b H0.size v)))) H1 → va_D (zA H0) ((zW b H0.size cy 0 h).set n (H0.size + n, .inr (ci, ((List.range cc.2.1).map (fun j => zcv b H0.size (cc.2.2 j))).set k (zcv b H0.size v)))) → va_S (zA H0) H0 H1 locs1 → W p l e R s m args below meth c H1 locs1 cells slots Q (F0 m (pc + 3) ls (r.map (zcv b H0.size))) := fun H1 locs1 hP hD hS1 =>
    kk H1 locs1 ls cells slots (zSt_put hEl hP hD hS1) hl (by simpa using hcc) (by rw [zsl_set hn]; exact hss)
  cases hfi : (q.2.1 k).2.2.2 with
  | false =>
    exact va_put (own := zMn mi) (ref := q.1) (C := q.1) (T := q.2.1) (N := q.2.2) (ci := ci) hx hb hts hin (zty q) hty hnm hown hKn.1 hS.1 hS.2.1 hS.2.2 n he hq k hkN (hts _ hw) (fun x hx => by rw [hdc k hkN] at hx; exact hx) hfi (hty k hkN) hv1 hv2 (by simpa using hk) hd fin
  | true =>
    obtain ⟨h3, h4⟩ := hf (hv3 hfi)
    exact va_putF (own := zMn mi) (ref := q.1) (C := q.1) (T := q.2.1) (N := q.2.2) (ci := ci) hx hb hts hin (zty q) hty hnm hown hKn.1 hS.1 hS.2.1 hS.2.2 n he hq k hkN (hts _ hw) (fun x hx => by rw [hdc k hkN] at hx; exact hx) hfi (hmn h3) (by rw [hdc k hkN, ← hnmc, ← h4]) (hty k hkN) hv1 hv2 (by simpa using hk) hd fin
theorem z_iald {n : Nat} {i : Int32} {cc : XC} (F : zFx p R s m args meth c D cy b H0 xs mi n0) (hd : decode (zMb mi) pc = .ok (.iaload, 1)) (hn : h[n]? = some cc) (hc1 : cc.1 = 12) (hi : ¬ (i < 0 ∨ cc.2.1 ≤ i.toNatClampNeg)) (kk : zK p l e R s m args below meth c Q D cy b H0 (zMl mi) n0 s0 (pc + 1) L (.int (xI (cc.2.2 i.toNatClampNeg)) :: r) h) : zK p l e R s m args below meth c Q D cy b H0 (zMl mi) n0 s0 pc L (.int i :: .ref (n + 1) :: r) h := by
  obtain ⟨hx, hb, -, hown, -, hts, hKn, -⟩ := F
  intro H locs ls cells slots hS hl hcc hss
  have kk := kk H locs ls cells slots hS hl hcc hss
  have he := zW_at0 (b := b) (b0 := H0.size) (cy := cy) hn
  rw [zEl_I hc1] at he
  exact va_iald hx hb hKn.1 hS.1 n 0 he rfl hi hd kk
theorem z_sald {i : Int32} (F : zFx p R s m args meth c D cy b H0 xs mi n0) (hd : decode (zMb mi) pc = .ok (.iaload, 1)) (hi : ¬ (i < 0 ∨ xs.1 - 1 ≤ i.toNatClampNeg)) (kk : zK p l e R s m args below meth c Q D cy b H0 (zMl mi) n0 s0 (pc + 1) L (.int (xs.2 i.toNatClampNeg) :: r) h) : zK p l e R s m args below meth c Q D cy b H0 (zMl mi) n0 s0 pc L (.int i :: .ref 0 :: r) h := by
  obtain ⟨hx, hb, -, hown, -, hts, hKn, hbl, -⟩ := F
  intro H locs ls cells slots hS hl hcc hss
  have kk := kk H locs ls cells slots hS hl hcc hss
  exact va_sld hx hb hKn.2.1 hbl (fun q => Nat.lt_irrefl _ (Nat.lt_of_lt_of_le hbl q)) hS.2.2 hi hd kk
theorem z_slen (F : zFx p R s m args meth c D cy b H0 xs mi n0) (hd : decode (zMb mi) pc = .ok (.arraylength, 1)) (kk : zK p l e R s m args below meth c Q D cy b H0 (zMl mi) n0 s0 (pc + 1) L (.int (Int32.ofNat (xs.1 - 1)) :: r) h) : zK p l e R s m args below meth c Q D cy b H0 (zMl mi) n0 s0 pc L (.ref 0 :: r) h := by
  obtain ⟨hx, hb, -, hown, -, hts, hKn, hbl, -⟩ := F
  intro H locs ls cells slots hS hl hcc hss
  have kk := kk H locs ls cells slots hS hl hcc hss
  exact va_slen hx hb hKn.2.1 hbl (fun q => Nat.lt_irrefl _ (Nat.lt_of_lt_of_le hbl q)) hS.2.2 hd kk
theorem z_zald {n : Nat} {i : Int32} {cc : XC} (F : zFx p R s m args meth c D cy b H0 xs mi n0) (hd : decode (zMb mi) pc = .ok (.baload, 1)) (hn : h[n]? = some cc) (hc1 : cc.1 = 14) (hi : ¬ (i < 0 ∨ cc.2.1 ≤ i.toNatClampNeg)) (kk : zK p l e R s m args below meth c Q D cy b H0 (zMl mi) n0 s0 (pc + 1) L (.int (xI (cc.2.2 i.toNatClampNeg)) :: r) h) : zK p l e R s m args below meth c Q D cy b H0 (zMl mi) n0 s0 pc L (.int i :: .ref (n + 1) :: r) h := by
  obtain ⟨hx, hb, -, hown, -, hts, hKn, -⟩ := F
  intro H locs ls cells slots hS hl hcc hss
  have kk := kk H locs ls cells slots hS hl hcc hss
  have he := zW_at0 (b := b) (b0 := H0.size) (cy := cy) hn
  rw [zEl_Z hc1] at he
  exact va_zald hx hb hKn.1 hS.1 n 2 he rfl hi hd kk
theorem z_lald {n : Nat} {i : Int32} {cc : XC} (F : zFx p R s m args meth c D cy b H0 xs mi n0) (hd : decode (zMb mi) pc = .ok (.laload, 1)) (hn : h[n]? = some cc) (hc1 : cc.1 = 13) (hi : ¬ (i < 0 ∨ cc.2.1 ≤ i.toNatClampNeg)) (kk : zK p l e R s m args below meth c Q D cy b H0 (zMl mi) n0 s0 (pc + 1) L (.long (xJ (cc.2.2 i.toNatClampNeg)) :: r) h) : zK p l e R s m args below meth c Q D cy b H0 (zMl mi) n0 s0 pc L (.int i :: .ref (n + 1) :: r) h := by
  obtain ⟨hx, hb, -, hown, -, hts, hKn, -⟩ := F
  intro H locs ls cells slots hS hl hcc hss
  have kk := kk H locs ls cells slots hS hl hcc hss
  have he := zW_at0 (b := b) (b0 := H0.size) (cy := cy) hn
  rw [zEl_J hc1] at he
  exact va_lald hx hb hKn.1 hS.1 n 1 he rfl hi hd kk
theorem zTys_q {k : Nat} (h1 : 15 ≤ k) (h2 : k ≤ 18) : (zTys cy)[k - 12]? = some (cy k, .object (zNm (zAe k))) := by
  rcases (show k = 15 ∨ k = 16 ∨ k = 17 ∨ k = 18 by omega) with rfl | rfl | rfl | rfl <;> rfl
theorem zcv_rf (v : Option Nat) (b b0 : Nat) : zcv b b0 (va_rf v) = va_rf (v.map (zad b b0)) := by cases v <;> rfl
theorem z_aald {n : Nat} {i : Int32} {cc : XC} (F : zFx p R s m args meth c D cy b H0 xs mi n0) (hd : decode (zMb mi) pc = .ok (.aaload, 1)) (hn : h[n]? = some cc) (hc1 : 15 ≤ cc.1) (hc2 : cc.1 ≤ 18) (hi : ¬ (i < 0 ∨ cc.2.1 ≤ i.toNatClampNeg)) (kk : zK p l e R s m args below meth c Q D cy b H0 (zMl mi) n0 s0 (pc + 1) L (va_rf (xR (cc.2.2 i.toNatClampNeg)) :: r) h) : zK p l e R s m args below meth c Q D cy b H0 (zMl mi) n0 s0 pc L (.int i :: .ref (n + 1) :: r) h := by
  obtain ⟨hx, hb, -, hown, -, hts, hKn, -⟩ := F
  intro H locs ls cells slots hS hl hcc hss
  have kk := kk H locs ls cells slots hS hl hcc hss
  have he := zW_at0 (b := b) (b0 := H0.size) (cy := cy) hn
  rw [zEl_Q hc1] at he
  rw [List.map_cons, zcv_rf] at kk
  exact va_aldq hx hb hKn.1 hS.1 n (cc.1 - 12) he (zTys_q hc1 hc2) hi hd kk
theorem z_alen {n : Nat} {cc : XC} (F : zFx p R s m args meth c D cy b H0 xs mi n0) (hd : decode (zMb mi) pc = .ok (.arraylength, 1)) (hn : h[n]? = some cc) (hc1 : 12 ≤ cc.1) (hc2 : cc.1 ≤ 18) (kk : zK p l e R s m args below meth c Q D cy b H0 (zMl mi) n0 s0 (pc + 1) L (.int (Int32.ofNat cc.2.1) :: r) h) : zK p l e R s m args below meth c Q D cy b H0 (zMl mi) n0 s0 pc L (.ref (n + 1) :: r) h := by
  obtain ⟨hx, hb, -, hown, -, hts, hKn, -⟩ := F
  intro H locs ls cells slots hS hl hcc hss
  have kk := kk H locs ls cells slots hS hl hcc hss
  have he := zW_at0 (b := b) (b0 := H0.size) (cy := cy) hn
  rcases (show cc.1 = 12 ∨ cc.1 = 13 ∨ cc.1 = 14 ∨ 15 ≤ cc.1 by omega) with h1 | h1 | h1 | h1
  · rw [zEl_I h1] at he
    exact va_alen (ty := .int) hx hb hKn.1 hS.1 n 0 he rfl rfl hd kk
  · rw [zEl_J h1] at he
    exact va_alen (ty := .long) hx hb hKn.1 hS.1 n 1 he rfl rfl hd kk
  · rw [zEl_Z h1] at he
    exact va_alen (ty := .boolean) hx hb hKn.1 hS.1 n 2 he rfl rfl hd kk
  · rw [zEl_Q h1] at he
    exact va_alen hx hb hKn.1 hS.1 n (cc.1 - 12) he (zTys_q h1 hc2) rfl hd kk
theorem z_iast {n : Nat} {i x : Int32} {cc : XC} (F : zFx p R s m args meth c D cy b H0 xs mi n0) (hd : decode (zMb mi) pc = .ok (.iastore, 1)) (hn : h[n]? = some cc) (hc1 : cc.1 = 12) (hi : ¬ (i < 0 ∨ cc.2.1 ≤ i.toNatClampNeg)) (kk : zK p l e R s m args below meth c Q D cy b H0 (zMl mi) n0 s0 (pc + 1) L r (h.set n (cc.1, cc.2.1, updV cc.2.2 i.toNatClampNeg (.int x)))) : zK p l e R s m args below meth c Q D cy b H0 (zMl mi) n0 s0 pc L (.int x :: .int i :: .ref (n + 1) :: r) h := by
  obtain ⟨hx, hb, -, hown, -, hts, hKn, -⟩ := F
  intro H locs ls cells slots hS hl hcc hss
  have he := zW_at0 (b := b) (b0 := H0.size) (cy := cy) hn
  rw [zEl_I hc1] at he
  refine va_iast hx hb hKn.1 hS.1 hS.2.1 hS.2.2 n 0 he rfl hi hd (fun H1 locs1 hP hD hS1 => kk H1 locs1 ls cells slots (zSt_put ?_ hP hD hS1) hl (by simpa using hcc) (by rw [zsl_set hn]; exact hss))
  rw [zEl_I (by exact hc1)]
  congr 4
  funext j
  by_cases hj : j = i.toNatClampNeg <;> simp [updV, upd, hj, xI]
theorem z_zast {n : Nat} {i x : Int32} {cc : XC} (F : zFx p R s m args meth c D cy b H0 xs mi n0) (hd : decode (zMb mi) pc = .ok (.bastore, 1)) (hn : h[n]? = some cc) (hc1 : cc.1 = 14) (hi : ¬ (i < 0 ∨ cc.2.1 ≤ i.toNatClampNeg)) (kk : zK p l e R s m args below meth c Q D cy b H0 (zMl mi) n0 s0 (pc + 1) L r (h.set n (cc.1, cc.2.1, updV cc.2.2 i.toNatClampNeg (.int (vp_nar .boolean x))))) : zK p l e R s m args below meth c Q D cy b H0 (zMl mi) n0 s0 pc L (.int x :: .int i :: .ref (n + 1) :: r) h := by
  obtain ⟨hx, hb, -, hown, -, hts, hKn, -⟩ := F
  intro H locs ls cells slots hS hl hcc hss
  have he := zW_at0 (b := b) (b0 := H0.size) (cy := cy) hn
  rw [zEl_Z hc1] at he
  refine va_zast hx hb hKn.1 hS.1 hS.2.1 hS.2.2 n 2 he rfl hi hd (fun H1 locs1 hP hD hS1 => kk H1 locs1 ls cells slots (zSt_put ?_ hP hD hS1) hl (by simpa using hcc) (by rw [zsl_set hn]; exact hss))
  rw [zEl_Z (by exact hc1)]
  congr 4
  funext j
  by_cases hj : j = i.toNatClampNeg <;> simp [updV, upd, hj, xI]
theorem z_last {n : Nat} {i : Int32} {x : Int64} {cc : XC} (F : zFx p R s m args meth c D cy b H0 xs mi n0) (hd : decode (zMb mi) pc = .ok (.lastore, 1)) (hn : h[n]? = some cc) (hc1 : cc.1 = 13) (hi : ¬ (i < 0 ∨ cc.2.1 ≤ i.toNatClampNeg)) (kk : zK p l e R s m args below meth c Q D cy b H0 (zMl mi) n0 s0 (pc + 1) L r (h.set n (cc.1, cc.2.1, updV cc.2.2 i.toNatClampNeg (.long x)))) : zK p l e R s m args below meth c Q D cy b H0 (zMl mi) n0 s0 pc L (.long x :: .int i :: .ref (n + 1) :: r) h := by
  obtain ⟨hx, hb, -, hown, -, hts, hKn, -⟩ := F
  intro H locs ls cells slots hS hl hcc hss
  have he := zW_at0 (b := b) (b0 := H0.size) (cy := cy) hn
  rw [zEl_J hc1] at he
  refine va_last hx hb hKn.1 hS.1 hS.2.1 hS.2.2 n 1 he rfl hi hd (fun H1 locs1 hP hD hS1 => kk H1 locs1 ls cells slots (zSt_put ?_ hP hD hS1) hl (by simpa using hcc) (by rw [zsl_set hn]; exact hss))
  rw [zEl_J (by exact hc1)]
  congr 5
  funext j
  by_cases hj : j = i.toNatClampNeg <;> simp [updV, vp_updL, hj, xJ]
theorem z_aast {n v : Nat} {i : Int32} {cc dd : XC} (F : zFx p R s m args meth c D cy b H0 xs mi n0) (hd : decode (zMb mi) pc = .ok (.aastore, 1)) (hn : h[n]? = some cc) (hv : h[v]? = some dd) (hc1 : 15 ≤ cc.1) (hc2 : cc.1 ≤ 18) (hdk : dd.1 = zAe cc.1) (hi : ¬ (i < 0 ∨ cc.2.1 ≤ i.toNatClampNeg)) (kk : zK p l e R s m args below meth c Q D cy b H0 (zMl mi) n0 s0 (pc + 1) L r (h.set n (cc.1, cc.2.1, updV cc.2.2 i.toNatClampNeg (.ref (v + 1))))) : zK p l e R s m args below meth c Q D cy b H0 (zMl mi) n0 s0 pc L (.ref (v + 1) :: .int i :: .ref (n + 1) :: r) h := by
  obtain ⟨hx, hb, -, hown, -, hts, hKn, -⟩ := F
  intro H locs ls cells slots hS hl hcc hss
  have he := zW_at0 (b := b) (b0 := H0.size) (cy := cy) hn
  have hf := zW_at0 (b := b) (b0 := H0.size) (cy := cy) hv
  rw [zEl_Q hc1] at he
  have hd12 : dd.1 < 12 := by rw [hdk]; unfold zAe; (repeat' split) <;> omega
  rw [zEl_obj hd12] at hf
  obtain ⟨rr, hrr⟩ : ∃ rr, vwCl[dd.1]? = some rr := ⟨_, List.getElem?_eq_getElem (by exact hd12)⟩
  have hnm := (zCls_use hrr).2.2.2.2.2.2.2.2.2
  refine va_astq (r := rr) hx hb hKn.1 hS.1 hS.2.1 hS.2.2 n (cc.1 - 12) v dd.1 he (by rw [zTys_q hc1 hc2, ← hdk, hnm]) hf hrr hi hd (fun H1 locs1 hP hD hS1 => kk H1 locs1 ls cells slots (zSt_put ?_ hP hD hS1) hl (by simpa using hcc) (by rw [zsl_set hn]; exact hss))
  rw [zEl_Q (by exact hc1)]
  congr 7
  funext j
  by_cases hj : j = i.toNatClampNeg <;> simp [updV, va_up, hj, xR, zad]
/-- behind a new cell -/
theorem z_push {H H1 : Heap} {locs : List Loc} {cc : XC} (S : zSt D cy b H0 h H locs) (hsz : H.size = H0.size + h.length) (z1 : H1.size = H.size + 1) (o1 : ∀ q : Nat, q < H.size → H1[q]? = H[q]?) (hat : va_at D vwCl (H.size, zEl b H0.size cy cc) H1) : zSt D cy b H0 (h ++ [cc]) H1 locs := by
  obtain ⟨hP, hD, hS⟩ := S
  have hk : ∀ (k : Nat) (x : Nat × va_E), (zW b H0.size cy 0 h)[k]? = some x → H1[x.1]? = H[x.1]? := fun k x hx => o1 x.1 ((hP k x hx).lt)
  unfold zSt
  rw [zW_app, Nat.zero_add, ← hsz]
  refine ⟨(hP.kept hk).app (fun k x hx => ?_), hD.push hP rfl (by show H0.size ≤ H.size; exact hS.1), ⟨Nat.le_trans hS.1 (by omega), fun x h1 h2 => (o1 x (Nat.lt_of_lt_of_le h1 hS.1)).trans (hS.2.1 x h1 h2), hS.2.2⟩⟩
  have hz : k < 1 := (List.getElem?_eq_some_iff.mp hx).1
  rw [show k = 0 by omega] at hx
  cases hx
  exact hat
theorem z_new {i ci pos : Nat} {cc : XC} (F : zFx p R s m args meth c D cy b H0 xs mi n0) (hd : decode (zMb mi) pc = .ok (.new i, 3)) (hz : zNl[pos]? = some (zMo mi, i, ci)) (hc : zNw ci = some cc) (hr1 : h.length + 1 ≤ n0 + R.cells) (hr2 : zsl h + cc.2.1 ≤ s0 + R.slots) (kk : zK p l e R s m args below meth c Q D cy b H0 (zMl mi) n0 s0 (pc + 3) L (.ref (h.length + 1) :: r) (h ++ [cc])) : zK p l e R s m args below meth c Q D cy b H0 (zMl mi) n0 s0 pc L r h := by
  have F0' := F
  obtain ⟨hx, hb, -, hown, -, hts, hKn, -⟩ := F
  obtain ⟨q, hq, hw⟩ := zNl_use hz
  obtain ⟨h12, hin, hty, hdc, hft, hnm, hlen, hins, hini, -⟩ := zCls_use hq
  unfold zNw at hc
  split at hc
  · rename_i ll hll
    cases hc
    rw [List.getD_eq_getElem?_getD, hll] at hlen
    simp only [Option.getD_some] at hlen
    intro H locs ls cells slots hS hl hcc hss
    refine z_size F0' hS hcc (fun hsz => ?_)
    have hKq := hKn.1.1 ci _ hq
    refine W.newcK hx hb hown (hts _ hw) (hts _ hins) (hts _ hini) rfl hd (by omega) (by simp only at hr2; omega) hKq.2.1 rfl fun H1 kC hkC e1 z1 o1 => ?_
    have hat : va_at D vwCl (H.size, zEl b H0.size cy (ci, ll.length, fun j => match ll[j]? with | some t => zDef t | none => .null)) H1 := by
      rw [zEl_obj (by exact h12)]
      refine ⟨_, hq, (u_born (zty q) hts hin hKq hkC e1 hty).to (fun j hj => ?_)⟩
      have hj' : j < ll.length := by omega
      have h1 := hft j hj
      unfold zFt at h1
      rw [hll] at h1
      simp only [Option.bind_some, List.getElem?_eq_getElem hj', Option.getD_some] at h1
      simp only [vp_V, List.getD_eq_getElem?_getD, List.getElem?_map, List.getElem?_range hj', Option.map_some, Option.getD_some, List.getElem?_eq_getElem hj']
      rw [zDef_ok h1, zDef_cv]
    have kk := kk H1 locs ls (cells + 1) (slots + q.2.2) (z_push hS hsz z1 o1 hat) hl (by simp; omega) (by rw [zsl_app]; simp only; omega)
    have e2 : zad b H0.size (h.length + 1) = H.size := by rw [hsz]; rfl
    rw [List.map_cons] at kk
    simp only [zcv, e2] at kk
    exact kk
  · cases hc
theorem z_newa {at_ : ArrayType} {ty : FieldType} {k : Nat} {n : Int32} {t0 : Nat} {f : Nat → Value} (F : zFx p R s m args meth c D cy b H0 xs mi n0) (hd : decode (zMb mi) pc = .ok (.newarray at_, 2)) (hty : newarray.typeOf at_ = ty) (hw : Cond.arrayClass ty ∈ zWd) (hn : ¬ n < 0) (hbnd : n.toNatClampNeg ≤ 1000000) (hcb : componentBytes ty ≤ 8)
    (hEl : ∀ N, zEl b H0.size cy (k, N, f) = .inl (cy k, N, .inl (fun _ => 0)) ∧ defaultValue ty = .int 0 ∨ zEl b H0.size cy (k, N, f) = .inl (cy k, N, .inr (.inl (fun _ => 0))) ∧ defaultValue ty = .long 0) (ht0 : (zTys cy)[t0]? = some (cy k, ty)) (hob : ∀ C, ty ≠ .object C)
    (hr1 : h.length + 1 ≤ n0 + R.cells) (hr2 : zsl h + n.toNatClampNeg ≤ s0 + R.slots) (kk : zK p l e R s m args below meth c Q D cy b H0 (zMl mi) n0 s0 (pc + 2) L (.ref (h.length + 1) :: r) (h ++ [(k, n.toNatClampNeg, f)])) : zK p l e R s m args below meth c Q D cy b H0 (zMl mi) n0 s0 pc L (.int n :: r) h := by
  have F0' := F
  obtain ⟨hx, hb, -, hown, -, hts, hKn, -⟩ := F
  subst hty
  intro H locs ls cells slots hS hl hcc hss
  refine z_size F0' hS hcc (fun hsz => ?_)
  refine va_newaK hx hb (hts _ hw) rfl hd rfl hn rfl (Nat.le_trans (Nat.mul_le_mul hbnd hcb) (by decide)) (by omega) (by omega) rfl fun H1 cA e1 z1 o1 hAr hNm => ?_
  have hra := (hKn.1.2 t0 _ ht0).2
  have hcA : cA = cy k := by
    have h2 : s.vm.findClass ("[" ++ (newarray.typeOf at_).toString) = some (cy k) := by
      generalize newarray.typeOf at_ = tt at hra hob ⊢
      cases tt <;> first | exact hra | exact absurd rfl (hob _)
    exact Option.some.inj (hNm.symm.trans h2)
  subst hcA
  have hat : va_at D vwCl (H.size, zEl b H0.size cy (k, n.toNatClampNeg, f)) H1 := by
    rcases hEl n.toNatClampNeg with ⟨g1, g2⟩ | ⟨g1, g2⟩
    · rw [g1]
      show H1[H.size]? = some (vp_cell _ _)
      rw [e1, g2]
      rfl
    · rw [g1]
      show H1[H.size]? = some (vp_cell _ _)
      rw [e1, g2]
      rfl
  have kk := kk H1 locs ls (cells + 1) (slots + n.toNatClampNeg) (z_push hS hsz z1 o1 hat) hl (by simp; omega) (by rw [zsl_app]; simp only; omega)
  have e2 : zad b H0.size (h.length + 1) = H.size := by rw [hsz]; rfl
  rw [List.map_cons] at kk
  simp only [zcv, e2] at kk
  exact kk
theorem z_anew {i k pos : Nat} {n : Int32} (F : zFx p R s m args meth c D cy b H0 xs mi n0) (hd : decode (zMb mi) pc = .ok (.anewarray i, 3)) (hz : zAl[pos]? = some (zMo mi, i, k)) (hn : ¬ n < 0) (hbnd : n.toNatClampNeg ≤ 1000000)
    (hr1 : h.length + 1 ≤ n0 + R.cells) (hr2 : zsl h + n.toNatClampNeg ≤ s0 + R.slots) (kk : zK p l e R s m args below meth c Q D cy b H0 (zMl mi) n0 s0 (pc + 3) L (.ref (h.length + 1) :: r) (h ++ [(k, n.toNatClampNeg, fun _ => .null)])) : zK p l e R s m args below meth c Q D cy b H0 (zMl mi) n0 s0 pc L (.int n :: r) h := by
  have F0' := F
  obtain ⟨hx, hb, -, hown, -, hts, hKn, -⟩ := F
  obtain ⟨h15, h18, hw1, hw2⟩ := zAl_use hz
  intro H locs ls cells slots hS hl hcc hss
  refine z_size F0' hS hcc (fun hsz => ?_)
  refine W.anew hx hb hown (hts _ hw1) (va_AO.use (hKn.2.2.2 _ hw2)) rfl hd rfl hn (Nat.le_trans (Nat.mul_le_mul_right 4 hbnd) (by decide)) (by omega) (by omega) fun cA kA comp f1 f2 f3 f4 => ?_
  generalize hH1 : H.push ({ cls := cA, slots := Array.replicate n.toNatClampNeg .null, vm := .none } : Cell) = H1
  have z1 : H1.size = H.size + 1 := by rw [← hH1, Array.size_push]
  have e1 : H1[H.size]? = some (arrV cA n.toNatClampNeg (fun _ => .null)) := by rw [← hH1, Array.getElem?_push_size, ← arrV_new]
  have o1 : ∀ q : Nat, q < H.size → H1[q]? = H[q]? := fun q hq => by rw [← hH1, Array.getElem?_push, if_neg (Nat.ne_of_lt hq)]
  obtain ⟨kB, cB, g1, g2, g3, g4⟩ := (hKn.1.2 (k - 12) _ (zTys_q h15 h18)).2
  have hcA : cA = cy k := Option.some.inj (f1.symm.trans g4)
  subst hcA
  have hat : va_at D vwCl (H.size, zEl b H0.size cy (k, n.toNatClampNeg, fun _ => .null)) H1 := by
    rw [zEl_Q (by exact h15)]
    show H1[H.size]? = some (vp_cell _ _)
    rw [e1]
    rfl
  have kk := kk H1 locs ls (cells + 1) (slots + n.toNatClampNeg) (z_push hS hsz z1 o1 hat) hl (by simp; omega) (by rw [zsl_app]; simp only; omega)
  have e2 : zad b H0.size (h.length + 1) = H.size := by rw [hsz]; rfl
  rw [List.map_cons] at kk
  simp only [zcv, e2] at kk
  exact kk
theorem z_ldc {i : Nat} {v : Int} {pos : Nat} (F : zFx p R s m args meth c D cy b H0 xs mi n0) (hd : decode (zMb mi) pc = .ok (.ldc i, 2)) (hz : zKl[pos]? = some (zMo mi, i, v)) (kk : zK p l e R s m args below meth c Q D cy b H0 (zMl mi) n0 s0 (pc + 2) L (.int (Int32.ofInt v) :: r) h) : zK p l e R s m args below meth c Q D cy b H0 (zMl mi) n0 s0 pc L r h := by
  obtain ⟨hx, hb, -, hown, -, hts, hKn, -⟩ := F
  intro H locs ls cells slots hS hl hcc hss
  exact lv_ldc hx hb hown (hts _ (zKl_use hz)) hd (kk H locs ls cells slots hS hl hcc hss)
theorem z_ldcw {i : Nat} {v : Int} {pos : Nat} (F : zFx p R s m args meth c D cy b H0 xs mi n0) (hd : decode (zMb mi) pc = .ok (.ldc_w i, 3)) (hz : zKl[pos]? = some (zMo mi, i, v)) (kk : zK p l e R s m args below meth c Q D cy b H0 (zMl mi) n0 s0 (pc + 3) L (.int (Int32.ofInt v) :: r) h) : zK p l e R s m args below meth c Q D cy b H0 (zMl mi) n0 s0 pc L r h := by
  obtain ⟨hx, hb, -, hown, -, hts, hKn, -⟩ := F
  intro H locs ls cells slots hS hl hcc hss
  exact lv_ldcw hx hb hown (hts _ (zKl_use hz)) hd (kk H locs ls cells slots hS hl hcc hss)
theorem z_ldc2 {i : Nat} {v : Int} {pos : Nat} (F : zFx p R s m args meth c D cy b H0 xs mi n0) (hd : decode (zMb mi) pc = .ok (.ldc2_w i, 3)) (hz : zLl[pos]? = some (zMo mi, i, v)) (kk : zK p l e R s m args below meth c Q D cy b H0 (zMl mi) n0 s0 (pc + 3) L (.long (Int64.ofInt v) :: r) h) : zK p l e R s m args below meth c Q D cy b H0 (zMl mi) n0 s0 pc L r h := by
  obtain ⟨hx, hb, -, hown, -, hts, hKn, -⟩ := F
  intro H locs ls cells slots hS hl hcc hss
  exact lv_ldc2 hx hb hown (hts _ (zLl_use hz)) hd (kk H locs ls cells slots hS hl hcc hss)
end ZH
