/-! the logic's rules on cells, calls, ends, loops -/
def slotI (t ci j : Nat) : Bool := kd t == ci && (Nat.blt j (tln t) && ((rfO t j).isNone && !(kd t == 13)))
def arrK (t kk : Nat) : Bool := kd t == kk && (rfT.getD t []).isEmpty
def arrQ (t t' im : Nat) : Bool := Nat.ble 15 (kd t) && (Nat.ble (kd t) 18 && (List.range (tln t)).all (fun j => rfO t j == some (t', im, 98)))
theorem sv_I {σ : ZS} {t ci i k j : Nat} (h : slotI t ci j = true) : sv σ t i k j = iv (σ t i k j) ∧ kd t = ci ∧ j < tln t := by
  simp only [slotI, Bool.and_eq_true, beq_iff_eq, Nat.blt_eq, Option.isNone_iff_eq_none, Bool.not_eq_true', beq_eq_false_iff_ne] at h
  obtain ⟨h1, h2, h3, h4⟩ := h
  refine ⟨?_, h1, h2⟩
  unfold sv rfx
  rw [h3]
  simp only
  rw [if_neg h4]
theorem rfO_empty {t j : Nat} (h : (rfT.getD t []).isEmpty = true) : rfO t j = none := by
  unfold rfO
  rw [List.isEmpty_iff.mp h]
  rfl
theorem sv_A {σ : ZS} {t kk i k j : Nat} (h : arrK t kk = true) (h13 : ¬ kk = 13) : sv σ t i k j = iv (σ t i k j) ∧ kd t = kk := by
  simp only [arrK, Bool.and_eq_true, beq_iff_eq] at h
  refine ⟨?_, h.1⟩
  unfold sv rfx
  rw [rfO_empty h.2]
  simp only
  rw [if_neg (by rw [h.1]; exact h13)]
theorem sv_J {σ : ZS} {t i k j : Nat} (h : arrK t 13 = true) : sv σ t i k j = jv (σ t i k j) ∧ kd t = 13 := by
  simp only [arrK, Bool.and_eq_true, beq_iff_eq] at h
  refine ⟨?_, h.1⟩
  unfold sv rfx
  rw [rfO_empty h.2]
  simp only
  rw [if_pos h.1]
theorem up_sv {σ : ZS} {t i k j : Nat} {v : Int} {w : Value} (hw : ∀ σ' : ZS, sv σ' t i k j = w → True) : True := trivial
theorem sv_up {σ : ZS} {t i k j : Nat} {v : Int} (h : ∀ σ' : ZS, sv σ' t i k j = iv (σ' t i k j)) : ∀ j', updV (sv σ t i k) j (iv v) j' = sv (up σ t i k j v) t i k j' := by
  intro j'
  by_cases hj : j' = j
  · subst hj
    rw [h, up_eq]
    simp [updV]
  · have h1 : up σ t i k j v t i k j' = σ t i k j' := up_ne (fun q => hj q.2.2.2)
    simp only [updV, if_neg hj]
    unfold sv
    rw [h1]
theorem sv_upJ {σ : ZS} {t i k j : Nat} {v : Int} (h : ∀ σ' : ZS, sv σ' t i k j = jv (σ' t i k j)) : ∀ j', updV (sv σ t i k) j (jv v) j' = sv (up σ t i k j v) t i k j' := by
  intro j'
  by_cases hj : j' = j
  · subst hj
    rw [h, up_eq]
    simp [updV]
  · have h1 : up σ t i k j v t i k j' = σ t i k j' := up_ne (fun q => hj q.2.2.2)
    simp only [updV, if_neg hj]
    unfold sv
    rw [h1]
section LH
variable {xs : Nat × (Nat → Int32)} {d m pc pc' : Nat} {L L' : XL} {st st' r : List Value} {σ σ' : ZS} {Q : Option Value → ZS → Prop} {J J' : ZS → Prop} {a1 a2 p : Nat} {c : Int} {t i k : Nat} {Pp : Int → Prop}
theorem T_getE {idx ci jj : Nat} (hz : zc m pc = some (.getfield idx, ci, jj, c, p)) (hs : slotI t ci jj = true) (hv : vd t i k) (hp' : pc + 3 = pc') (kk : ∀ y, TJ xs (fun σ => J σ ∧ σ t i k jj = y) d m pc' L (iv y :: r) Q) : TJ xs J d m pc L (av t i k :: r) Q := fun σ hJ => by
  obtain ⟨h1, h2, h3⟩ := sv_I (σ := σ) (i := i) (k := k) hs
  refine TT.step (h := []) (fun call => ?_) (kk (σ t i k jj) σ ⟨hJ, rfl⟩)
  rw [xone_hp (st' := iv (σ t i k jj) :: r) (h' := hp σ) hz rfl rfl rfl (fun _ => rfl) (fun _ => rfl) (by simp only [xhp, hp_get hv]; rw [if_pos ⟨h2, h3⟩, h1])]
  rw [show pc + zLen (.getfield idx) = pc' from hp']
theorem T_getf {idx ci jj : Nat} (hz : zc m pc = some (.getfield idx, ci, jj, c, p)) (hs : slotI t ci jj = true) (hv : vd t i k) (hP : ∀ σ, J σ → Pp (σ t i k jj)) (hp' : pc + 3 = pc') (kk : ∀ y, Pp y → TJ xs J d m pc' L (iv y :: r) Q) : TJ xs J d m pc L (av t i k :: r) Q :=
  T_getE hz hs hv hp' (fun y σ hJ => kk y (hJ.2 ▸ hP σ hJ.1) σ hJ.1)
theorem T_getR {idx ci jj t' i' k' : Nat} (hz : zc m pc = some (.getfield idx, ci, jj, c, p)) (hs : kd t = ci) (hj : Nat.blt jj (tln t) = true) (hr : rfx t i k jj = some (t', i', k')) (hv : vd t i k) (hp' : pc + 3 = pc') (kk : TJ xs J d m pc' L (av t' i' k' :: r) Q) : TJ xs J d m pc L (av t i k :: r) Q := fun σ hJ => by
  refine TT.step (h := []) (fun call => ?_) (kk σ hJ)
  rw [xone_hp (st' := av t' i' k' :: r) (h' := hp σ) hz rfl rfl rfl (fun _ => rfl) (fun _ => rfl) (by simp only [xhp, hp_get hv]; rw [if_pos ⟨hs, by simpa using hj⟩]; unfold sv; rw [hr])]
  rw [show pc + zLen (.getfield idx) = pc' from hp']
theorem T_ialdE {x : Int} (hz : zc m pc = some (.iaload, a1, a2, c, p)) (hs : arrK t 12 = true) (hv : vd t i k) (h0 : 0 ≤ x) (h1 : x < tln t) (h2 : x ≤ 2147483647) (hp' : pc + 1 = pc') (kk : ∀ y, TJ xs (fun σ => J σ ∧ σ t i k x.toNat = y) d m pc' L (iv y :: r) Q) : TJ xs J d m pc L (iv x :: av t i k :: r) Q := fun σ hJ => by
  obtain ⟨g1, g2⟩ := sv_A (σ := σ) (i := i) (k := k) (j := x.toNat) hs (by decide)
  obtain ⟨e1, e2⟩ := I_idx h0 h1 h2
  refine TT.step (h := []) (fun call => ?_) (kk (σ t i k x.toNat) σ ⟨hJ, rfl⟩)
  rw [xone_hp (st' := iv (σ t i k x.toNat) :: r) (h' := hp σ) hz rfl rfl rfl (fun _ => rfl) (fun _ => rfl) (by simp only [xhp, hp_get hv]; rw [if_pos ⟨g2, e1⟩, e2, g1]; rfl)]
  rw [show pc + zLen .iaload = pc' from hp']
theorem T_iald {x : Int} (hz : zc m pc = some (.iaload, a1, a2, c, p)) (hs : arrK t 12 = true) (hv : vd t i k) (h0 : 0 ≤ x) (h1 : x < tln t) (h2 : x ≤ 2147483647) (hP : ∀ σ, J σ → Pp (σ t i k x.toNat)) (hp' : pc + 1 = pc') (kk : ∀ y, Pp y → TJ xs J d m pc' L (iv y :: r) Q) : TJ xs J d m pc L (iv x :: av t i k :: r) Q :=
  T_ialdE hz hs hv h0 h1 h2 hp' (fun y σ hJ => kk y (hJ.2 ▸ hP σ hJ.1) σ hJ.1)
theorem T_baldE {x : Int} (hz : zc m pc = some (.baload, a1, a2, c, p)) (hs : arrK t 14 = true) (hv : vd t i k) (h0 : 0 ≤ x) (h1 : x < tln t) (h2 : x ≤ 2147483647) (hp' : pc + 1 = pc') (kk : ∀ y, TJ xs (fun σ => J σ ∧ σ t i k x.toNat = y) d m pc' L (iv y :: r) Q) : TJ xs J d m pc L (iv x :: av t i k :: r) Q := fun σ hJ => by
  obtain ⟨g1, g2⟩ := sv_A (σ := σ) (i := i) (k := k) (j := x.toNat) hs (by decide)
  obtain ⟨e1, e2⟩ := I_idx h0 h1 h2
  refine TT.step (h := []) (fun call => ?_) (kk (σ t i k x.toNat) σ ⟨hJ, rfl⟩)
  rw [xone_hp (st' := iv (σ t i k x.toNat) :: r) (h' := hp σ) hz rfl rfl rfl (fun _ => rfl) (fun _ => rfl) (by simp only [xhp, hp_get hv]; rw [if_pos ⟨g2, e1⟩, e2, g1]; rfl)]
  rw [show pc + zLen .baload = pc' from hp']
theorem T_bald {x : Int} (hz : zc m pc = some (.baload, a1, a2, c, p)) (hs : arrK t 14 = true) (hv : vd t i k) (h0 : 0 ≤ x) (h1 : x < tln t) (h2 : x ≤ 2147483647) (hP : ∀ σ, J σ → Pp (σ t i k x.toNat)) (hp' : pc + 1 = pc') (kk : ∀ y, Pp y → TJ xs J d m pc' L (iv y :: r) Q) : TJ xs J d m pc L (iv x :: av t i k :: r) Q :=
  T_baldE hz hs hv h0 h1 h2 hp' (fun y σ hJ => kk y (hJ.2 ▸ hP σ hJ.1) σ hJ.1)
theorem T_laldE {x : Int} (hz : zc m pc = some (.laload, a1, a2, c, p)) (hs : arrK t 13 = true) (hv : vd t i k) (h0 : 0 ≤ x) (h1 : x < tln t) (h2 : x ≤ 2147483647) (hp' : pc + 1 = pc') (kk : ∀ y, TJ xs (fun σ => J σ ∧ σ t i k x.toNat = y) d m pc' L (jv y :: r) Q) : TJ xs J d m pc L (iv x :: av t i k :: r) Q := fun σ hJ => by
  obtain ⟨g1, g2⟩ := sv_J (σ := σ) (i := i) (k := k) (j := x.toNat) hs
  obtain ⟨e1, e2⟩ := I_idx h0 h1 h2
  refine TT.step (h := []) (fun call => ?_) (kk (σ t i k x.toNat) σ ⟨hJ, rfl⟩)
  rw [xone_hp (st' := jv (σ t i k x.toNat) :: r) (h' := hp σ) hz rfl rfl rfl (fun _ => rfl) (fun _ => rfl) (by simp only [xhp, hp_get hv]; rw [if_pos ⟨g2, e1⟩, e2, g1]; rfl)]
  rw [show pc + zLen .laload = pc' from hp']
theorem T_aald {x : Int} {t' im i' : Nat} (hz : zc m pc = some (.aaload, a1, a2, c, p)) (hs : arrQ t t' im = true) (hi : ixi im i = i') (hv : vd t i k) (h0 : 0 ≤ x) (h1 : x < tln t) (h2 : x ≤ 2147483647) (hp' : pc + 1 = pc') (kk : TJ xs J d m pc' L (av t' i' x.toNat :: r) Q) : TJ xs J d m pc L (iv x :: av t i k :: r) Q := fun σ hJ => by
  simp only [arrQ, Bool.and_eq_true, Nat.ble_eq, List.all_eq_true, List.mem_range, beq_iff_eq] at hs
  obtain ⟨g1, g2, g3⟩ := hs
  obtain ⟨e1, e2⟩ := I_idx h0 h1 h2
  have e3 : sv σ t i k x.toNat = av t' i' x.toNat := by
    unfold sv rfx
    rw [g3 x.toNat (by omega)]
    simp only [hi]
    rfl
  refine TT.step (h := []) (fun call => ?_) (kk σ hJ)
  rw [xone_hp (st' := av t' i' x.toNat :: r) (h' := hp σ) hz rfl rfl rfl (fun _ => rfl) (fun _ => rfl) (by simp only [xhp, hp_get hv]; rw [if_pos ⟨g1, g2, e1⟩, e2, e3]; rfl)]
  rw [show pc + zLen .aaload = pc' from hp']
theorem T_alen {n : Int} (hz : zc m pc = some (.arraylength, a1, a2, c, p)) (hs : (Nat.ble 12 (kd t) && Nat.ble (kd t) 18) = true) (hn : (tln t : Int) = n) (hv : vd t i k) (hp' : pc + 1 = pc') (kk : TJ xs J d m pc' L (iv n :: r) Q) : TJ xs J d m pc L (av t i k :: r) Q := fun σ hJ => by
  simp only [Bool.and_eq_true, Nat.ble_eq] at hs
  subst hn
  refine TT.step (h := []) (fun call => ?_) (kk σ hJ)
  rw [xone_hp (st' := iv (tln t) :: r) (h' := hp σ) hz rfl rfl rfl (fun _ => rfl) (fun _ => rfl) (by simp only [xhp, hp_get hv]; rw [if_pos hs]; rfl)]
  rw [show pc + zLen .arraylength = pc' from hp']
theorem T_putf {idx ci jj : Nat} {v : Int} (hz : zc m pc = some (.putfield idx, ci, jj, c, p)) (hs : slotI t ci jj = true) (hf : zFt ci jj = 0) (hv : vd t i k) (hJ' : ∀ σ, J σ → J' (up σ t i k jj v)) (hp' : pc + 3 = pc') (kk : TJ xs J' d m pc' L r Q) : TJ xs J d m pc L (iv v :: av t i k :: r) Q := fun σ hJ => by
  obtain ⟨h1, h2, h3⟩ := sv_I (σ := σ) (i := i) (k := k) hs
  refine TT.step (h := []) (fun call => ?_) (kk _ (hJ' σ hJ))
  rw [xone_hp (st' := r) (h' := hp (up σ t i k jj v)) hz rfl rfl rfl (fun _ => rfl) (fun _ => rfl) (by simp only [xhp, hp_get hv]; rw [if_pos ⟨h2, h3, by rw [hf]; rfl, by rw [hf]; intro q; cases q⟩, hp_set hv (sv_up (fun σ' => (sv_I hs).1)) up_oth])]
  rw [show pc + zLen (.putfield idx) = pc' from hp']
theorem T_putz {idx ci jj : Nat} {v : Int} (hz : zc m pc = some (.putfield idx, ci, jj, c, p)) (hs : slotI t ci jj = true) (hf : zFt ci jj = 1) (hb : v = 0 ∨ v = 1) (hv : vd t i k) (hJ' : ∀ σ, J σ → J' (up σ t i k jj v)) (hp' : pc + 3 = pc') (kk : TJ xs J' d m pc' L r Q) : TJ xs J d m pc L (iv v :: av t i k :: r) Q := fun σ hJ => by
  obtain ⟨h1, h2, h3⟩ := sv_I (σ := σ) (i := i) (k := k) hs
  refine TT.step (h := []) (fun call => ?_) (kk _ (hJ' σ hJ))
  rw [xone_hp (st' := r) (h' := hp (up σ t i k jj v)) hz rfl rfl rfl (fun _ => rfl) (fun _ => rfl) (by simp only [xhp, hp_get hv]; rw [if_pos ⟨h2, h3, by rw [hf]; rcases hb with rfl | rfl <;> rfl, by rw [hf]; intro q; cases q⟩, hp_set hv (sv_up (fun σ' => (sv_I hs).1)) up_oth])]
  rw [show pc + zLen (.putfield idx) = pc' from hp']
theorem T_iast {x v : Int} (hz : zc m pc = some (.iastore, a1, a2, c, p)) (hs : arrK t 12 = true) (hv : vd t i k) (h0 : 0 ≤ x) (h1 : x < tln t) (h2 : x ≤ 2147483647) (hJ' : ∀ σ, J σ → J' (up σ t i k x.toNat v)) (hp' : pc + 1 = pc') (kk : TJ xs J' d m pc' L r Q) : TJ xs J d m pc L (iv v :: iv x :: av t i k :: r) Q := fun σ hJ => by
  obtain ⟨g1, g2⟩ := sv_A (σ := σ) (i := i) (k := k) (j := x.toNat) hs (by decide)
  obtain ⟨e1, e2⟩ := I_idx h0 h1 h2
  refine TT.step (h := []) (fun call => ?_) (kk _ (hJ' σ hJ))
  rw [xone_hp (st' := r) (h' := hp (up σ t i k x.toNat v)) hz rfl rfl rfl (fun _ => rfl) (fun _ => rfl) (by simp only [xhp, hp_get hv]; rw [if_pos ⟨g2, e1⟩, e2, hp_set hv (sv_up (fun σ' => (sv_A hs (by decide)).1)) up_oth])]
  rw [show pc + zLen .iastore = pc' from hp']
theorem nar_01 {v : Int} (hb : v = 0 ∨ v = 1) : vp_nar .boolean (Int32.ofInt v) = Int32.ofInt v := by rcases hb with rfl | rfl <;> rfl
theorem T_bast {x v : Int} (hz : zc m pc = some (.bastore, a1, a2, c, p)) (hs : arrK t 14 = true) (hb : v = 0 ∨ v = 1) (hv : vd t i k) (h0 : 0 ≤ x) (h1 : x < tln t) (h2 : x ≤ 2147483647) (hJ' : ∀ σ, J σ → J' (up σ t i k x.toNat v)) (hp' : pc + 1 = pc') (kk : TJ xs J' d m pc' L r Q) : TJ xs J d m pc L (iv v :: iv x :: av t i k :: r) Q := fun σ hJ => by
  obtain ⟨g1, g2⟩ := sv_A (σ := σ) (i := i) (k := k) (j := x.toNat) hs (by decide)
  obtain ⟨e1, e2⟩ := I_idx h0 h1 h2
  refine TT.step (h := []) (fun call => ?_) (kk _ (hJ' σ hJ))
  rw [xone_hp (st' := r) (h' := hp (up σ t i k x.toNat v)) hz rfl rfl rfl (fun _ => rfl) (fun _ => rfl) (by simp only [xhp, hp_get hv]; rw [if_pos ⟨g2, e1⟩, e2, nar_01 hb, hp_set hv (sv_up (fun σ' => (sv_A hs (by decide)).1)) up_oth])]
  rw [show pc + zLen .bastore = pc' from hp']
theorem T_last {x v : Int} (hz : zc m pc = some (.lastore, a1, a2, c, p)) (hs : arrK t 13 = true) (hv : vd t i k) (h0 : 0 ≤ x) (h1 : x < tln t) (h2 : x ≤ 2147483647) (hJ' : ∀ σ, J σ → J' (up σ t i k x.toNat v)) (hp' : pc + 1 = pc') (kk : TJ xs J' d m pc' L r Q) : TJ xs J d m pc L (jv v :: iv x :: av t i k :: r) Q := fun σ hJ => by
  obtain ⟨g1, g2⟩ := sv_J (σ := σ) (i := i) (k := k) (j := x.toNat) hs
  obtain ⟨e1, e2⟩ := I_idx h0 h1 h2
  refine TT.step (h := []) (fun call => ?_) (kk _ (hJ' σ hJ))
  rw [xone_hp (st' := r) (h' := hp (up σ t i k x.toNat v)) hz rfl rfl rfl (fun _ => rfl) (fun _ => rfl) (by simp only [xhp, hp_get hv]; rw [if_pos ⟨g2, e1⟩, e2, hp_set hv (sv_upJ (fun σ' => (sv_J hs).1)) up_oth])]
  rw [show pc + zLen .lastore = pc' from hp']
theorem T_ldc {i' : Nat} {n : Int} (hz : zc m pc = some (.ldc i', a1, a2, n, p)) (hp' : pc + 2 = pc') (kk : TJ xs J d m pc' L (iv n :: st) Q) : TJ xs J d m pc L st Q := fun σ hJ => by
  refine TT.step (h := []) (fun call => ?_) (kk σ hJ)
  rw [xone_hp (st' := iv n :: st) (h' := hp σ) hz rfl rfl rfl (fun _ => rfl) (fun _ => rfl) rfl, show pc + zLen (.ldc i') = pc' from hp']
theorem T_ldcw {i' : Nat} {n : Int} (hz : zc m pc = some (.ldc_w i', a1, a2, n, p)) (hp' : pc + 3 = pc') (kk : TJ xs J d m pc' L (iv n :: st) Q) : TJ xs J d m pc L st Q := fun σ hJ => by
  refine TT.step (h := []) (fun call => ?_) (kk σ hJ)
  rw [xone_hp (st' := iv n :: st) (h' := hp σ) hz rfl rfl rfl (fun _ => rfl) (fun _ => rfl) rfl, show pc + zLen (.ldc_w i') = pc' from hp']
theorem T_ldc2 {i' : Nat} {n : Int} (hz : zc m pc = some (.ldc2_w i', a1, a2, n, p)) (hp' : pc + 3 = pc') (kk : TJ xs J d m pc' L (jv n :: st) Q) : TJ xs J d m pc L st Q := fun σ hJ => by
  refine TT.step (h := []) (fun call => ?_) (kk σ hJ)
  rw [xone_hp (st' := jv n :: st) (h' := hp σ) hz rfl rfl rfl (fun _ => rfl) (fun _ => rfl) rfl, show pc + zLen (.ldc2_w i') = pc' from hp']
/-- a method's end -/
theorem TT.out {v : Option Value} {en : zE} (hz : zc m pc = some en) (h1 : xinv en.1 = false) (h2 : xop en.1 st = none) (h3 : xld en.1 L = none) (h4 : ∀ n, xst n en.1 L st = none) (h5 : ∀ t, xbr en.1 t pc st = none) (h6 : ∀ xs ini o h, xhp xs ini o en st h = none) (h7 : xrt (zMr m) en.1 st = some v) (hQ : Q v σ) : TT xs d m pc L st σ Q := by
  refine ⟨1, v, σ, ?_, hQ⟩
  simp only [xgo]
  have : xone xs (xrun xs 1 d) m pc L st (hp σ) = some (.inr (v, hp σ)) := by
    unfold xone
    rw [hz]
    dsimp only
    rw [h1, if_neg (by decide), h2]
    dsimp only
    rw [h3]
    dsimp only
    rw [h4]
    dsimp only
    rw [h5]
    dsimp only
    rw [h6]
    dsimp only
    rw [h7]
  rw [this]
theorem T_iret {x : Int} (hz : zc m pc = some (.ireturn, a1, a2, c, p)) (hr : zMr m = some .int) (hQ : ∀ σ, J σ → Q (some (iv x)) σ) : TJ xs J d m pc L [iv x] Q := fun σ hJ => TT.out hz rfl rfl rfl (fun _ => rfl) (fun _ => rfl) (fun _ _ _ _ => rfl) (by simp only [xrt]; rw [if_pos (Or.inl hr)]) (hQ σ hJ)
theorem T_zret {x : Int} (hz : zc m pc = some (.ireturn, a1, a2, c, p)) (hr : zMr m = some .boolean) (hb : x = 0 ∨ x = 1) (hQ : ∀ σ, J σ → Q (some (iv x)) σ) : TJ xs J d m pc L [iv x] Q := fun σ hJ => TT.out hz rfl rfl rfl (fun _ => rfl) (fun _ => rfl) (fun _ _ _ _ => rfl) (by simp only [xrt]; rw [if_pos (Or.inr ⟨hr, hb.elim (fun q => Or.inl (by rw [q]; rfl)) (fun q => Or.inr (by rw [q]; rfl))⟩)]) (hQ σ hJ)
theorem T_lret {x : Int} (hz : zc m pc = some (.lreturn, a1, a2, c, p)) (hr : zMr m = some .long) (hQ : ∀ σ, J σ → Q (some (jv x)) σ) : TJ xs J d m pc L [jv x] Q := fun σ hJ => TT.out hz rfl rfl rfl (fun _ => rfl) (fun _ => rfl) (fun _ _ _ _ => rfl) (by simp only [xrt]; rw [if_pos hr]) (hQ σ hJ)
theorem T_aret {C : String} (hz : zc m pc = some (.areturn, a1, a2, c, p)) (hr : zMr m = some (.object C)) (hQ : ∀ σ, J σ → Q (some (av t i k)) σ) : TJ xs J d m pc L [av t i k] Q := fun σ hJ => TT.out hz rfl rfl rfl (fun _ => rfl) (fun _ => rfl) (fun _ _ _ _ => rfl) (by simp only [xrt, hr]) (hQ σ hJ)
theorem T_vret (hz : zc m pc = some (.return_, a1, a2, c, p)) (hr : zMr m = none) (hQ : ∀ σ, J σ → Q none σ) : TJ xs J d m pc L [] Q := fun σ hJ => TT.out hz rfl rfl rfl (fun _ => rfl) (fun _ => rfl) (fun _ _ _ _ => rfl) (by simp only [xrt]; rw [if_pos hr]) (hQ σ hJ)
/-- a call -/
def xrv (k ci : Nat) (a : List Value) : Prop := (k = 1 ∨ k = 3) ∨ ∃ t i k' As, a = av t i k' :: As ∧ vd t i k' ∧ kd t = ci
theorem xrv_ok {k ci : Nat} {a : List Value} (h : xrv k ci a) (σ : ZS) : xrcv k ci a (hp σ) = true := by
  unfold xrcv
  rcases h with h | ⟨t, i, k', As, rfl, hv, hk⟩
  · rw [if_pos h]
  · split
    · rfl
    · simp only [hp_get hv, hk, beq_self_eq_true]
theorem TT.call {ii : Instr} {cal mode : Nat} {N : Int} {a : List Value} {Q1 : Option Value → ZS → Prop} (hz : zc m pc = some (ii, cal, mode, N, p)) (hi : xinv ii = true) (hm : Nat.blt mode 5 = true) (ha : (st.take N.toNat).reverse = a) (hr : st.drop N.toNat = r) (hl : Nat.ble N.toNat st.length = true) (hcat : Nat.ble (r.map fun v => v.category).sum 8 = true) (hv : xrv mode (zMo cal) a) (hC : CT xs d cal a σ Q1) (kk : ∀ v σ', Q1 v σ' → TT xs d m (pc + 3) L (v.toList ++ r) σ' Q) : TT xs d m pc L st σ Q := by
  obtain ⟨n1, v, σ', h1, h2⟩ := hC
  obtain ⟨n2, v2, σ2, h3, h4⟩ := kk v σ' h2
  refine ⟨max n1 n2 + 1, v2, σ2, ?_, h4⟩
  have hx : xone xs (xrun xs (max n1 n2 + 1) d) m pc L st (hp σ) = some (.inl (pc + 3, L, v.toList ++ r, hp σ')) := by
    unfold xone
    rw [hz]
    dsimp only
    rw [if_pos hi, if_pos (by simpa using hm)]
    simp only [xcall]
    rw [ha, hr, if_pos ⟨by simpa using hl, by simpa using hcat, xrv_ok hv σ⟩, xrun_sub (Nat.le_succ_of_le (Nat.le_max_left n1 n2)) (Nat.le_refl d) _ _ _ _ h1]
  simp only [xgo, hx]
  exact xgo_sub (xrun_sub (Nat.le_succ_of_le (Nat.le_max_right n1 n2)) (Nat.le_refl d)) (Nat.le_max_right n1 n2) h3
theorem T_calli {ii : Instr} {cal mode : Nat} {N : Int} {a : List Value} {K : Int → ZS → Prop} (hz : zc m pc = some (ii, cal, mode, N, p)) (hi : xinv ii = true) (hm : Nat.blt mode 5 = true) (ha : (st.take N.toNat).reverse = a) (hr : st.drop N.toNat = r) (hl : Nat.ble N.toNat st.length = true) (hcat : Nat.ble (r.map fun v => v.category).sum 8 = true) (hv : xrv mode (zMo cal) a) (hC : ∀ σ, J σ → CT xs d cal a σ (fun v σ' => ∃ y, v = some (iv y) ∧ K y σ')) (hp' : pc + 3 = pc') (kk : ∀ y, TJ xs (K y) d m pc' L (iv y :: r) Q) : TJ xs J d m pc L st Q := fun σ hJ =>
  TT.call hz hi hm ha hr hl hcat hv (hC σ hJ) (fun v σ' ⟨y, hy, hK⟩ => by subst hy; subst hp'; exact kk y σ' hK)
theorem T_calll {ii : Instr} {cal mode : Nat} {N : Int} {a : List Value} {K : Int → ZS → Prop} (hz : zc m pc = some (ii, cal, mode, N, p)) (hi : xinv ii = true) (hm : Nat.blt mode 5 = true) (ha : (st.take N.toNat).reverse = a) (hr : st.drop N.toNat = r) (hl : Nat.ble N.toNat st.length = true) (hcat : Nat.ble (r.map fun v => v.category).sum 8 = true) (hv : xrv mode (zMo cal) a) (hC : ∀ σ, J σ → CT xs d cal a σ (fun v σ' => ∃ y, v = some (jv y) ∧ K y σ')) (hp' : pc + 3 = pc') (kk : ∀ y, TJ xs (K y) d m pc' L (jv y :: r) Q) : TJ xs J d m pc L st Q := fun σ hJ =>
  TT.call hz hi hm ha hr hl hcat hv (hC σ hJ) (fun v σ' ⟨y, hy, hK⟩ => by subst hy; subst hp'; exact kk y σ' hK)
theorem T_callv {ii : Instr} {cal mode : Nat} {N : Int} {a : List Value} (hz : zc m pc = some (ii, cal, mode, N, p)) (hi : xinv ii = true) (hm : Nat.blt mode 5 = true) (ha : (st.take N.toNat).reverse = a) (hr : st.drop N.toNat = r) (hl : Nat.ble N.toNat st.length = true) (hcat : Nat.ble (r.map fun v => v.category).sum 8 = true) (hv : xrv mode (zMo cal) a) (hC : ∀ σ, J σ → CT xs d cal a σ (fun v σ' => v = none ∧ J' σ')) (hp' : pc + 3 = pc') (kk : TJ xs J' d m pc' L r Q) : TJ xs J d m pc L st Q := fun σ hJ =>
  TT.call hz hi hm ha hr hl hcat hv (hC σ hJ) (fun v σ' ⟨hy, hK⟩ => by subst hy; subst hp'; exact kk σ' hK)
/-- max, min, abs, copying -/
theorem xone_nat {call : XF} {h h' : XH} {en : zE} (hz : zc m pc = some en) (h1 : xinv en.1 = true) (h2 : Nat.blt en.2.2.1 5 = false) (h3 : xnat en.2.2.1 st h = some (st', h')) : xone xs call m pc L st h = some (.inl (pc + 3, L, st', h')) := by
  unfold xone
  rw [hz]
  dsimp only
  rw [if_pos h1, if_neg (by intro q; rw [Nat.blt_eq.mpr q] at h2; cases h2), h3]
theorem xnat_7 {x y : Int32} {h : XH} (hc : (r.map fun v => v.category).sum ≤ 8) : xnat 7 (.int y :: .int x :: r) h = some (.int (if x < y then y else x) :: r, h) := by simp [xnat, hc]
theorem xnat_8 {x y : Int32} {h : XH} (hc : (r.map fun v => v.category).sum ≤ 8) : xnat 8 (.int y :: .int x :: r) h = some (.int (if y < x then y else x) :: r, h) := by simp [xnat, hc]
theorem xnat_9 {x : Int32} {h : XH} (hc : (r.map fun v => v.category).sum ≤ 8) : xnat 9 (.int x :: r) h = some (.int (if 0 ≤ x then x else 0 - x) :: r, h) := by simp [xnat, hc]
theorem T_max {ii : Instr} {x y : Int} (hz : zc m pc = some (ii, a1, 7, c, p)) (h1 : xinv ii = true) (hx : -2147483648 ≤ x ∧ x ≤ 2147483647) (hy : -2147483648 ≤ y ∧ y ≤ 2147483647) (hcat : Nat.ble (r.map fun v => v.category).sum 8 = true) (hp' : pc + 3 = pc') (kk : ∀ z, x ≤ z → y ≤ z → (z = x ∨ z = y) → TJ xs J d m pc' L (iv z :: r) Q) : TJ xs J d m pc L (iv y :: iv x :: r) Q := fun σ hJ => by
  have hc : (r.map fun v => v.category).sum ≤ 8 := by simpa using hcat
  by_cases hlt : x < y
  · refine TT.step (h := []) (fun call => ?_) (kk y (by omega) (by omega) (Or.inr rfl) σ hJ)
    rw [xone_nat (st' := iv y :: r) (h' := hp σ) hz h1 rfl (by rw [xnat_7 hc, if_pos ((I_lt hx hy).mpr hlt)]), hp']
  · refine TT.step (h := []) (fun call => ?_) (kk x (by omega) (by omega) (Or.inl rfl) σ hJ)
    rw [xone_nat (st' := iv x :: r) (h' := hp σ) hz h1 rfl (by rw [xnat_7 hc, if_neg (fun q => hlt ((I_lt hx hy).mp q))]), hp']
theorem T_min {ii : Instr} {x y : Int} (hz : zc m pc = some (ii, a1, 8, c, p)) (h1 : xinv ii = true) (hx : -2147483648 ≤ x ∧ x ≤ 2147483647) (hy : -2147483648 ≤ y ∧ y ≤ 2147483647) (hcat : Nat.ble (r.map fun v => v.category).sum 8 = true) (hp' : pc + 3 = pc') (kk : ∀ z, z ≤ x → z ≤ y → (z = x ∨ z = y) → TJ xs J d m pc' L (iv z :: r) Q) : TJ xs J d m pc L (iv y :: iv x :: r) Q := fun σ hJ => by
  have hc : (r.map fun v => v.category).sum ≤ 8 := by simpa using hcat
  by_cases hlt : y < x
  · refine TT.step (h := []) (fun call => ?_) (kk y (by omega) (by omega) (Or.inr rfl) σ hJ)
    rw [xone_nat (st' := iv y :: r) (h' := hp σ) hz h1 rfl (by rw [xnat_8 hc, if_pos ((I_lt hy hx).mpr hlt)]), hp']
  · refine TT.step (h := []) (fun call => ?_) (kk x (by omega) (by omega) (Or.inl rfl) σ hJ)
    rw [xone_nat (st' := iv x :: r) (h' := hp σ) hz h1 rfl (by rw [xnat_8 hc, if_neg (fun q => hlt ((I_lt hy hx).mp q))]), hp']
theorem T_mmU {ii : Instr} {x y : Int} {kn : Nat} (hz : zc m pc = some (ii, a1, kn, c, p)) (h1 : xinv ii = true) (hk : kn = 7 ∨ kn = 8) (hcat : Nat.ble (r.map fun v => v.category).sum 8 = true) (hp' : pc + 3 = pc') (kk : ∀ z, (z = x ∨ z = y) → TJ xs J d m pc' L (iv z :: r) Q) : TJ xs J d m pc L (iv y :: iv x :: r) Q := fun σ hJ => by
  have hc : (r.map fun v => v.category).sum ≤ 8 := by simpa using hcat
  have h : xnat kn (iv y :: iv x :: r) (hp σ) = some (iv y :: r, hp σ) ∨ xnat kn (iv y :: iv x :: r) (hp σ) = some (iv x :: r, hp σ) := by
    rcases hk with rfl | rfl
    · by_cases hlt : Int32.ofInt x < Int32.ofInt y
      · exact Or.inl (by rw [xnat_7 hc, if_pos hlt])
      · exact Or.inr (by rw [xnat_7 hc, if_neg hlt])
    · by_cases hlt : Int32.ofInt y < Int32.ofInt x
      · exact Or.inl (by rw [xnat_8 hc, if_pos hlt])
      · exact Or.inr (by rw [xnat_8 hc, if_neg hlt])
  have hb : Nat.blt kn 5 = false := by rcases hk with rfl | rfl <;> rfl
  rcases h with h | h
  · exact TT.step (h := []) (fun call => by rw [xone_nat hz h1 hb h, hp']) (kk y (Or.inr rfl) σ hJ)
  · exact TT.step (h := []) (fun call => by rw [xone_nat hz h1 hb h, hp']) (kk x (Or.inl rfl) σ hJ)
theorem T_absU {ii : Instr} {x : Int} (hz : zc m pc = some (ii, a1, 9, c, p)) (h1 : xinv ii = true) (hcat : Nat.ble (r.map fun v => v.category).sum 8 = true) (hp' : pc + 3 = pc') (kk : ∀ z, (x = 0 → z = 0) → TJ xs J d m pc' L (iv z :: r) Q) : TJ xs J d m pc L (iv x :: r) Q := fun σ hJ => by
  have hc : (r.map fun v => v.category).sum ≤ 8 := by simpa using hcat
  by_cases h0 : (0 : Int32) ≤ Int32.ofInt x
  · exact TT.step (h := []) (fun call => by rw [xone_nat (st' := iv x :: r) (h' := hp σ) hz h1 rfl (by rw [xnat_9 hc, if_pos h0]), hp']) (kk x (fun q => q) σ hJ)
  · refine TT.step (h := []) (fun call => ?_) (kk (0 - x) (fun q => by omega) σ hJ)
    rw [xone_nat (st' := iv (0 - x) :: r) (h' := hp σ) hz h1 rfl (by rw [xnat_9 hc, if_neg h0]; simp [Int32.ofInt_sub]), hp']
end LH
/-- a loop -/
theorem T_loop {α : Type} (mu : α → Nat) (P G : α → Prop) (h : ∀ a, P a → (∀ b, P b → mu b < mu a → G b) → G a) : ∀ a, P a → G a := by
  have H : ∀ n a, mu a < n → P a → G a := by
    intro n
    induction n with
    | zero => intro a ha; exact absurd ha (Nat.not_lt_zero _)
    | succ n ih => intro a ha hP; exact h a hP (fun b hb hlt => ih b (by omega) hb)
  intro a hP
  exact H (mu a + 1) a (Nat.lt_succ_self _) hP
