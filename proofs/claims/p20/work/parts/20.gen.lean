/-! walks with what is known of single places: J any, the first part of it IF -/
section LGN
variable {xs : Nat × (Nat → Int32)} {d m pc pc' : Nat} {L L' : XL} {st st' r : List Value} {Q : Option Value → ZS → Prop} {a1 a2 p : Nat} {c : Int} {t i k : Nat} {lo hi : Int} {ln : Nat} {J J' : ZS → Prop}
theorem G_know (h : ∀ σ', J σ' → J' σ') (kk : TJ xs J' d m pc L st Q) : TJ xs J d m pc L st Q := fun σ hJ => kk σ (h σ hJ)
theorem G_ex {P : Prop} (kk : P → TJ xs J d m pc L st Q) : TJ xs (fun σ' => P ∧ J σ') d m pc L st Q := fun σ hJ => kk hJ.1 σ hJ.2
theorem G_norm {x : Int} (kk : ∀ z : Int, -2147483648 ≤ z → z ≤ 2147483647 → TJ xs J d m pc L (iv z :: r) Q) : TJ xs J d m pc L (iv x :: r) Q := by
  have h := kk (Int32.ofInt x).toInt (Int32.le_toInt _) (Int32.toInt_le _)
  rwa [iv_of] at h
theorem G_unk {ii : Instr} {x y : Int} (hz : zc m pc = some (ii, a1, a2, c, p)) (hu : xun ii = true) (hp' : pc + 1 = pc') (kk : ∀ z : Int, -2147483648 ≤ z → z ≤ 2147483647 → TJ xs J d m pc' L (iv z :: r) Q) : TJ xs J d m pc L (iv y :: iv x :: r) Q := by
  subst hp'
  exact T_unk hz hu (fun z => G_norm kk)
theorem G_unkD {ii : Instr} {x y : Int} (hz : zc m pc = some (ii, a1, a2, c, p)) (hu : ii = .idiv ∨ ii = .irem) (hy : 0 < y ∧ y ≤ 2147483647) (hp' : pc + 1 = pc') (kk : ∀ z : Int, -2147483648 ≤ z → z ≤ 2147483647 → TJ xs J d m pc' L (iv z :: r) Q) : TJ xs J d m pc L (iv y :: iv x :: r) Q := by
  subst hp'
  exact T_unkD hz hu (I_ne0 hy) (fun z => G_norm kk)
theorem G_unkI {ii : Instr} {x : Int} (hz : zc m pc = some (ii, a1, a2, c, p)) (hu : xunI ii = true) (hp' : pc + 1 = pc') (kk : ∀ z : Int, -2147483648 ≤ z → z ≤ 2147483647 → TJ xs J d m pc' L (iv z :: r) Q) : TJ xs J d m pc L (iv x :: r) Q := by
  subst hp'
  exact T_unkI hz hu (fun z => G_norm kk)
theorem G_rem {x y : Int} (hz : zc m pc = some (.irem, a1, a2, c, p)) (hx : 0 ≤ x ∧ x ≤ 2147483647) (hy : 0 < y ∧ y ≤ 2147483647) (hp' : pc + 1 = pc') (kk : ∀ z : Int, 0 ≤ z → z < y → TJ xs J d m pc' L (iv z :: r) Q) : TJ xs J d m pc L (iv y :: iv x :: r) Q :=
  T_op hz rfl (X_rem hx hy) hp' (kk _ (Int.emod_nonneg x (by omega)) (Int.emod_lt_of_pos x hy.1))
theorem G_getX {idx ci jj : Nat} {w : Int} (hz : zc m pc = some (.getfield idx, ci, jj, c, p)) (hs : slotI t ci jj = true) (hv : vd t i k) (hP : ∀ σ', J σ' → σ' t i k jj = w) (hp' : pc + 3 = pc') (kk : TJ xs J d m pc' L (iv w :: r) Q) : TJ xs J d m pc L (av t i k :: r) Q :=
  T_getf (Pp := fun v => v = w) hz hs hv hP hp' (fun y hy => by subst hy; exact kk)
theorem G_getf {idx ci jj : Nat} (hz : zc m pc = some (.getfield idx, ci, jj, c, p)) (hs : slotI t ci jj = true) (hv : vd t i k) (hI : ∀ σ', J σ' → Inv σ') (hP : ∀ v, rgP t jj v → lo ≤ v ∧ v ≤ hi) (hp' : pc + 3 = pc') (kk : ∀ y, lo ≤ y → y ≤ hi → TJ xs J d m pc' L (iv y :: r) Q) : TJ xs J d m pc L (av t i k :: r) Q :=
  T_getf (Pp := fun v => lo ≤ v ∧ v ≤ hi) hz hs hv (fun σ hσ => hP _ (hI σ hσ t i k jj hv)) hp' (fun y hy => kk y hy.1 hy.2)
theorem G_ialdX {x w : Int} (hz : zc m pc = some (.iaload, a1, a2, c, p)) (hs : arrK t 12 = true) (hln : tln t = ln) (hv : vd t i k) (h0 : 0 ≤ x) (h1 : x < ln) (h2 : x ≤ 2147483647) (hP : ∀ σ', J σ' → σ' t i k x.toNat = w) (hp' : pc + 1 = pc') (kk : TJ xs J d m pc' L (iv w :: r) Q) : TJ xs J d m pc L (iv x :: av t i k :: r) Q :=
  T_iald (Pp := fun v => v = w) hz hs hv h0 (by rw [hln]; exact h1) h2 hP hp' (fun y hy => by subst hy; exact kk)
theorem G_iald {x : Int} (hz : zc m pc = some (.iaload, a1, a2, c, p)) (hs : arrK t 12 = true) (hln : tln t = ln) (hv : vd t i k) (h0 : 0 ≤ x) (h1 : x < ln) (h2 : x ≤ 2147483647) (hI : ∀ σ', J σ' → Inv σ') (hP : ∀ v, rgP t x.toNat v → lo ≤ v ∧ v ≤ hi) (hp' : pc + 1 = pc') (kk : ∀ y, lo ≤ y → y ≤ hi → TJ xs J d m pc' L (iv y :: r) Q) : TJ xs J d m pc L (iv x :: av t i k :: r) Q :=
  T_iald (Pp := fun v => lo ≤ v ∧ v ≤ hi) hz hs hv h0 (by rw [hln]; exact h1) h2 (fun σ hσ => hP _ (hI σ hσ t i k _ hv)) hp' (fun y hy => kk y hy.1 hy.2)
theorem G_baldX {x w : Int} (hz : zc m pc = some (.baload, a1, a2, c, p)) (hs : arrK t 14 = true) (hln : tln t = ln) (hv : vd t i k) (h0 : 0 ≤ x) (h1 : x < ln) (h2 : x ≤ 2147483647) (hP : ∀ σ', J σ' → σ' t i k x.toNat = w) (hp' : pc + 1 = pc') (kk : TJ xs J d m pc' L (iv w :: r) Q) : TJ xs J d m pc L (iv x :: av t i k :: r) Q :=
  T_bald (Pp := fun v => v = w) hz hs hv h0 (by rw [hln]; exact h1) h2 hP hp' (fun y hy => by subst hy; exact kk)
theorem G_bald {x : Int} (hz : zc m pc = some (.baload, a1, a2, c, p)) (hs : arrK t 14 = true) (hln : tln t = ln) (hv : vd t i k) (h0 : 0 ≤ x) (h1 : x < ln) (h2 : x ≤ 2147483647) (hI : ∀ σ', J σ' → Inv σ') (hP : ∀ v, rgP t x.toNat v → lo ≤ v ∧ v ≤ hi) (hp' : pc + 1 = pc') (kk : ∀ y, lo ≤ y → y ≤ hi → TJ xs J d m pc' L (iv y :: r) Q) : TJ xs J d m pc L (iv x :: av t i k :: r) Q :=
  T_bald (Pp := fun v => lo ≤ v ∧ v ≤ hi) hz hs hv h0 (by rw [hln]; exact h1) h2 (fun σ hσ => hP _ (hI σ hσ t i k _ hv)) hp' (fun y hy => kk y hy.1 hy.2)
theorem G_lald {x : Int} (hz : zc m pc = some (.laload, a1, a2, c, p)) (hs : arrK t 13 = true) (hln : tln t = ln) (hv : vd t i k) (h0 : 0 ≤ x) (h1 : x < ln) (h2 : x ≤ 2147483647) (hp' : pc + 1 = pc') (kk : ∀ y, TJ xs J d m pc' L (jv y :: r) Q) : TJ xs J d m pc L (iv x :: av t i k :: r) Q :=
  T_laldE hz hs hv h0 (by rw [hln]; exact h1) h2 hp' (fun y σ hJ => kk y σ hJ.1)
theorem G_aald {x : Int} {t' im i' : Nat} (hz : zc m pc = some (.aaload, a1, a2, c, p)) (hs : arrQ t t' im = true) (hi' : ixi im i = i') (hln : tln t = ln) (hv : vd t i k) (h0 : 0 ≤ x) (h1 : x < ln) (h2 : x ≤ 2147483647) (hp' : pc + 1 = pc') (kk : TJ xs J d m pc' L (av t' i' x.toNat :: r) Q) : TJ xs J d m pc L (iv x :: av t i k :: r) Q :=
  T_aald hz hs hi' hv h0 (by rw [hln]; exact h1) h2 hp' kk
theorem G_iast {x v : Int} (hz : zc m pc = some (.iastore, a1, a2, c, p)) (hs : arrK t 12 = true) (hln : tln t = ln) (hv : vd t i k) (h0 : 0 ≤ x) (h1 : x < ln) (h2 : x ≤ 2147483647) (hJ' : ∀ σ', J σ' → J' (up σ' t i k x.toNat v)) (hp' : pc + 1 = pc') (kk : TJ xs J' d m pc' L r Q) : TJ xs J d m pc L (iv v :: iv x :: av t i k :: r) Q := T_iast hz hs hv h0 (by rw [hln]; exact h1) h2 hJ' hp' kk
theorem G_bast {x v : Int} (hz : zc m pc = some (.bastore, a1, a2, c, p)) (hs : arrK t 14 = true) (hln : tln t = ln) (hb : v = 0 ∨ v = 1) (hv : vd t i k) (h0 : 0 ≤ x) (h1 : x < ln) (h2 : x ≤ 2147483647) (hJ' : ∀ σ', J σ' → J' (up σ' t i k x.toNat v)) (hp' : pc + 1 = pc') (kk : TJ xs J' d m pc' L r Q) : TJ xs J d m pc L (iv v :: iv x :: av t i k :: r) Q := T_bast hz hs hb hv h0 (by rw [hln]; exact h1) h2 hJ' hp' kk
theorem G_last {x v : Int} (hz : zc m pc = some (.lastore, a1, a2, c, p)) (hs : arrK t 13 = true) (hln : tln t = ln) (hv : vd t i k) (h0 : 0 ≤ x) (h1 : x < ln) (h2 : x ≤ 2147483647) (hJ' : ∀ σ', J σ' → J' (up σ' t i k x.toNat v)) (hp' : pc + 1 = pc') (kk : TJ xs J' d m pc' L r Q) : TJ xs J d m pc L (jv v :: iv x :: av t i k :: r) Q := T_last hz hs hv h0 (by rw [hln]; exact h1) h2 hJ' hp' kk
/-- copying a row -/
theorem xcpy_hp {t0 i0 k0 : Nat} {σ σ' : ZS} {x0 x1 n : Int} {kk : Nat} (hk : kk = 12 ∨ kk = 13) (hs0 : arrK t0 kk = true) (hs1 : arrK t kk = true) (hv0 : vd t0 i0 k0) (hv1 : vd t i k) {l0 l1 : Nat} (hl0 : tln t0 = l0) (hl1 : tln t = l1) (h0 : 0 ≤ x0 ∧ x0 ≤ 2147483647) (h1 : 0 ≤ x1 ∧ x1 ≤ 2147483647) (hn : 0 ≤ n ∧ n ≤ 2147483647) (hb0 : x0 + n ≤ l0) (hb1 : x1 + n ≤ l1)
    (he : σ' = upr σ t i k (fun j => if x1.toNat ≤ j ∧ j < x1.toNat + n.toNat then σ t0 i0 k0 (x0.toNat + (j - x1.toNat)) else σ t i k j)) : xcpy (hp σ) (ad t0 i0 k0) (ad t i k) (kd t0, tln t0, sv σ t0 i0 k0) (kd t, tln t, sv σ t i k) (Int32.ofInt x0) (Int32.ofInt x1) (Int32.ofInt n) = some (hp σ') := by
  have nn : ∀ z : Int, 0 ≤ z → z ≤ 2147483647 → ¬ Int32.ofInt z < 0 ∧ (Int32.ofInt z).toNatClampNeg = z.toNat := by
    intro z g1 g2
    obtain ⟨e1, e2⟩ := I_idx (n := z.toNat + 1) g1 (by omega) g2
    exact ⟨fun q => e1 (Or.inl q), e2⟩
  obtain ⟨g1, g2⟩ := nn x0 h0.1 h0.2
  obtain ⟨g3, g4⟩ := nn x1 h1.1 h1.2
  obtain ⟨g5, g6⟩ := nn n hn.1 hn.2
  have k0' : kd t0 = kk := by simp only [arrK, Bool.and_eq_true, beq_iff_eq] at hs0; exact hs0.1
  have k1' : kd t = kk := by simp only [arrK, Bool.and_eq_true, beq_iff_eq] at hs1; exact hs1.1
  unfold xcpy
  rw [if_pos ⟨by simp only [k0']; exact hk, by simp only [k0', k1'], g1, g3, g5, by rw [g2, g6]; show _ ≤ tln t0; rw [hl0]; omega, by rw [g4, g6]; show _ ≤ tln t; rw [hl1]; omega⟩]
  refine congrArg some (hp_set hv1 (fun j => ?_) (fun t' i' k' hne => by rw [he]; exact upr_oth t' i' k' hne))
  have e3 : σ' t i k j = if x1.toNat ≤ j ∧ j < x1.toNat + n.toNat then σ t0 i0 k0 (x0.toNat + (j - x1.toNat)) else σ t i k j := by
    rw [he]
    unfold upr
    rw [if_pos ⟨rfl, rfl, rfl⟩]
  rw [g2, g4, g6]
  rcases hk with rfl | rfl
  · rw [(sv_A hs1 (by decide)).1, e3]
    simp only [va_cpy]
    split
    · rw [(sv_A hs0 (by decide)).1]
    · rw [(sv_A hs1 (by decide)).1]
  · rw [(sv_J hs1).1, e3]
    simp only [va_cpy]
    split
    · rw [(sv_J hs0).1]
    · rw [(sv_J hs1).1]
theorem G_copy {ii : Instr} {t0 i0 k0 l0 l1 kk : Nat} {x0 x1 n : Int} (hz : zc m pc = some (ii, a1, 6, c, p)) (hi : xinv ii = true) (hcat : Nat.ble (r.map fun v => v.category).sum 8 = true) (hk : kk = 12 ∨ kk = 13) (hs0 : arrK t0 kk = true) (hs1 : arrK t kk = true) (hl0 : tln t0 = l0) (hl1 : tln t = l1) (hv0 : vd t0 i0 k0) (hv1 : vd t i k) (h0 : 0 ≤ x0 ∧ x0 ≤ 2147483647) (h1 : 0 ≤ x1 ∧ x1 ≤ 2147483647) (hn : 0 ≤ n ∧ n ≤ 2147483647) (hb0 : x0 + n ≤ l0) (hb1 : x1 + n ≤ l1)
    (hJ' : ∀ σ', J σ' → J' (upr σ' t i k (fun j => if x1.toNat ≤ j ∧ j < x1.toNat + n.toNat then σ' t0 i0 k0 (x0.toNat + (j - x1.toNat)) else σ' t i k j))) (hp' : pc + 3 = pc') (kk' : TJ xs J' d m pc' L r Q) : TJ xs J d m pc L (iv n :: iv x1 :: av t i k :: iv x0 :: av t0 i0 k0 :: r) Q := fun σ hJ => by
  have hc : (r.map fun v => v.category).sum ≤ 8 := by simpa using hcat
  refine TT.step (h := []) (fun call => ?_) (kk' _ (hJ' σ hJ))
  rw [xone_nat (st' := r) (h' := hp (upr σ t i k (fun j => if x1.toNat ≤ j ∧ j < x1.toNat + n.toNat then σ t0 i0 k0 (x0.toNat + (j - x1.toNat)) else σ t i k j))) hz hi rfl ?_, hp']
  simp only [xnat]
  rw [if_neg (by decide), if_pos trivial, if_pos hc]
  simp only [hp_get hv0, hp_get hv1]
  rw [xcpy_hp hk hs0 hs1 hv0 hv1 hl0 hl1 h0 h1 hn hb0 hb1 rfl]
end LGN
theorem up_rng {σ : ZS} {t i k j0 jl jh : Nat} {v w : Int} (h : ∀ j, jl ≤ j → j < jh → σ t i k j = v) (hv : w = v) : ∀ j, jl ≤ j → j < jh → up σ t i k j0 w t i k j = v := by
  intro j h1 h2
  by_cases hj : j = j0
  · subst hj; rw [up_eq]; exact hv
  · rw [up_ne (fun q => hj q.2.2.2)]; exact h j h1 h2
theorem up_rngn {σ : ZS} {t i k j0 t' i' k' jl jh : Nat} {v w : Int} (h : ∀ j, jl ≤ j → j < jh → σ t i k j = v) (hn : ¬ (t = t' ∧ i = i' ∧ k = k')) : ∀ j, jl ≤ j → j < jh → up σ t' i' k' j0 w t i k j = v := fun j h1 h2 => (up_ne (fun q => hn ⟨q.1, q.2.1, q.2.2.1⟩)).trans (h j h1 h2)
theorem up_rngj {σ : ZS} {t i k j0 jl jh : Nat} {v w : Int} (h : ∀ j, jl ≤ j → j < jh → σ t i k j = v) (hn : ¬ (jl ≤ j0 ∧ j0 < jh)) : ∀ j, jl ≤ j → j < jh → up σ t i k j0 w t i k j = v := fun j h1 h2 => (up_ne (fun q => hn ⟨by rw [← q.2.2.2]; exact h1, by rw [← q.2.2.2]; exact h2⟩)).trans (h j h1 h2)
/-- a row that is copied stays within what its places may hold -/
theorem IF.cp {M : Nat → Nat → Nat → Nat → Prop} {σ0 σ : ZS} {t i k : Nat} {f : Nat → Int} (h : IF M σ0 σ) (hw : ∀ j, rgP t j (f j)) (hM : ∀ j, M t i k j) : IF M σ0 (upr σ t i k f) := by
  refine ⟨fun t' i' k' j' hv => ?_, fun t' i' k' j' hn => ?_⟩
  · by_cases hq : t' = t ∧ i' = i ∧ k' = k
    · obtain ⟨rfl, rfl, rfl⟩ := hq
      unfold upr
      rw [if_pos ⟨rfl, rfl, rfl⟩]
      exact hw j'
    · rw [upr_oth _ _ _ hq]
      exact h.1 t' i' k' j' hv
  · rw [upr_oth _ _ _ (fun q => hn (by rw [q.1, q.2.1, q.2.2]; exact hM j'))]
    exact h.2 t' i' k' j' hn
theorem G_ct {xs : Nat × (Nat → Int32)} {d m nL : Nat} {a : List Value} {L : XL} {σ : ZS} {Q : Option Value → ZS → Prop} {J : ZS → Prop} (hn : zMl m = nL) (hl : Nat.ble (lg_sl a).length nL = true) (hL : xent 0 a = L) (hJ : J σ) (h : TJ xs J d m 0 L [] Q) : CT xs (d + 1) m a σ Q := CT.of hn (by simpa using hl) hL (h σ hJ)
theorem T_opc {xs : Nat × (Nat → Int32)} {d m pc pc' : Nat} {L : XL} {st r : List Value} {Q : Option Value → ZS → Prop} {J : ZS → Prop} {i : Instr} {a1 a2 p : Nat} {c w x : Int} (hz : zc m pc = some (i, a1, a2, c, p)) (h1 : xinv i = false) (ho : xop i st = some (iv x :: r)) (hw : x = w) (hp' : pc + zLen i = pc') (k : TJ xs J d m pc' L (iv w :: r) Q) : TJ xs J d m pc L st Q := by
  subst hw
  exact T_op hz h1 ho hp' k
theorem T_callr {xs : Nat × (Nat → Int32)} {d m pc pc' : Nat} {L : XL} {st r : List Value} {Q : Option Value → ZS → Prop} {J J' : ZS → Prop} {p t i k : Nat} {ii : Instr} {cal mode : Nat} {N : Int} {a : List Value} (hz : zc m pc = some (ii, cal, mode, N, p)) (hi : xinv ii = true) (hm : Nat.blt mode 5 = true) (ha : (st.take N.toNat).reverse = a) (hr : st.drop N.toNat = r) (hl : Nat.ble N.toNat st.length = true) (hcat : Nat.ble (r.map fun v => v.category).sum 8 = true) (hv : xrv mode (zMo cal) a) (hC : ∀ σ, J σ → CT xs d cal a σ (fun v σ' => v = some (av t i k) ∧ J' σ')) (hp' : pc + 3 = pc') (kk : TJ xs J' d m pc' L (av t i k :: r) Q) : TJ xs J d m pc L st Q := fun σ hJ =>
  TT.call hz hi hm ha hr hl hcat hv (hC σ hJ) (fun v σ' ⟨hy, hK⟩ => by subst hy; subst hp'; exact kk σ' hK)
theorem rg_cp {t n b : Nat} {f g : Nat → Int} {t0 : Nat} (ht : ∀ j j' v, rgP t0 j' v → rgP t j v) (hf : ∀ j, rgP t0 j (f j)) (hg : ∀ j, rgP t j (g j)) : ∀ j, rgP t j (if b ≤ j ∧ j < b + n then f (j - b) else g j) := by
  intro j
  split
  · exact ht _ _ _ (hf _)
  · exact hg j
theorem upr_cp0 {σ : ZS} {t i k t0 i0 k0 n : Nat} {x0 x1 m : Int} {v : Int} (h : ∀ j, 0 ≤ j → j < n → σ t0 i0 k0 j = v) (h0 : x0 = 0 ∧ x1 = 0) (hm : m = n) : ∀ j, 0 ≤ j → j < n → upr σ t i k (fun j => if x1.toNat ≤ j ∧ j < x1.toNat + m.toNat then σ t0 i0 k0 (x0.toNat + (j - x1.toNat)) else σ t i k j) t i k j = v := by
  intro j _ hj
  unfold upr
  rw [if_pos ⟨rfl, rfl, rfl⟩]
  dsimp only
  rw [if_pos (by omega)]
  have : x0.toNat + (j - x1.toNat) = j := by omega
  rw [this]
  exact h j (Nat.zero_le _) hj
