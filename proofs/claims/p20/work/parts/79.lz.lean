def MEr (a : Nat) (t i k j : Nat) : Prop := t = 34 ∧ k = a
theorem nMEr {a t i k j : Nat} (hb : decide (t = 34) = false) : ¬ MEr a t i k j := fun h => of_decide_eq_false hb (by unfold MEr at h; omega)
def MEs (a : Nat) (t i k j : Nat) : Prop := (t = 33 ∧ k = a ∧ j < 3) ∨ (t = 34 ∧ k = a)
theorem nMEs {a t i k j : Nat} (hb : decide (((t = 33 ∧ j < 3) ∨ t = 34)) = false) : ¬ MEs a t i k j := fun h => of_decide_eq_false hb (by unfold MEs at h; omega)
def MEh (a : Nat) (t i k j : Nat) : Prop := ((t = 33 ∨ t = 34) ∧ k = a) ∨ t = 28
def MEk (a b : Nat) (t i k j : Nat) : Prop := t = 34 ∧ k = a ∧ j = b
theorem nMEk {a b t i k j : Nat} (hb : decide ((t = 34 ∧ j = b)) = false) : ¬ MEk a b t i k j := fun h => of_decide_eq_false hb (by unfold MEk at h; omega)
def MEl (a b : Nat) (t i k j : Nat) : Prop := (t = 34 ∧ k = a ∧ j = b) ∨ t = 28
theorem nMEl {a b t i k j : Nat} (hb : decide (((t = 34 ∧ j = b) ∨ t = 28)) = false) : ¬ MEl a b t i k j := fun h => of_decide_eq_false hb (by unfold MEl at h; omega)
def MEq (a : Nat) (t i k j : Nat) : Prop := (t = 34 ∧ k = a) ∨ t = 28
theorem nMEq {a t i k j : Nat} (hb : decide ((t = 34 ∨ t = 28)) = false) : ¬ MEq a t i k j := fun h => of_decide_eq_false hb (by unfold MEq at h; omega)
theorem pMEq {a t i k j : Nat} (hb : decide (t = 28) = true) : MEq a t i k j := by
  have h := of_decide_eq_true hb
  unfold MEq
  omega
def MEb (a : Nat) (t i k j : Nat) : Prop := ((37 ≤ t ∧ t ≤ 40) ∧ j = a) ∨ (t = 41 ∧ 96 * a ≤ j ∧ j < 96 * a + 96) ∨ t = 49
theorem pMEb {a t i k j : Nat} (hb : decide ((((37 ≤ t ∧ t ≤ 40) ∧ j = a) ∨ (t = 41 ∧ 96 * a ≤ j ∧ j < 96 * a + 96) ∨ t = 49)) = true) : MEb a t i k j := by
  have h := of_decide_eq_true hb
  unfold MEb
  omega
def MEc (a : Nat) (t i k j : Nat) : Prop := (t = 41 ∧ j = a) ∨ t = 49
theorem nMEc {a t i k j : Nat} (hb : decide (((t = 41 ∧ j = a) ∨ t = 49)) = false) : ¬ MEc a t i k j := fun h => of_decide_eq_false hb (by unfold MEc at h; omega)
theorem pMEc {a t i k j : Nat} (hb : decide (((t = 41 ∧ j = a) ∨ t = 49)) = true) : MEc a t i k j := by
  have h := of_decide_eq_true hb
  unfold MEc
  omega
def MEd (a : Nat) (t i k j : Nat) : Prop := (t = 41 ∧ 96 * a ≤ j ∧ j < 96 * a + 96) ∨ t = 42 ∨ t = 49
theorem nMEd {a t i k j : Nat} (hb : decide (((t = 41 ∧ 96 * a ≤ j ∧ j < 96 * a + 96) ∨ t = 42 ∨ t = 49)) = false) : ¬ MEd a t i k j := fun h => of_decide_eq_false hb (by unfold MEd at h; omega)
theorem pMEd {a t i k j : Nat} (hb : decide (((t = 41 ∧ 96 * a ≤ j ∧ j < 96 * a + 96) ∨ t = 42 ∨ t = 49)) = true) : MEd a t i k j := by
  have h := of_decide_eq_true hb
  unfold MEd
  omega
/-! longs, exactly -/
def L2I (x : Int) : Int := (Int64.ofInt x).toInt32.toInt
def zXI (i : Instr) (x : Int) : Int := match xop i [iv x] with
  | some [.int w] => w.toInt
  | _ => 0
def zXL (i : Instr) (x y : Int) : Int := match xop i [jv y, jv x] with
  | some [.long w] => w.toInt
  | _ => 0
def zXS (i : Instr) (x y : Int) : Int := match xop i [iv y, jv x] with
  | some [.long w] => w.toInt
  | _ => 0
theorem T_l2iX {xs : Nat × (Nat → Int32)} {d m pc : Nat} {L : XL} {r : List Value} {Q : Option Value → ZS → Prop} {J : ZS → Prop} {a1 a2 p : Nat} {c x : Int} (hz : zc m pc = some (.l2i, a1, a2, c, p)) (k : -2147483648 ≤ L2I x → L2I x ≤ 2147483647 → TJ xs J d m (pc + 1) L (iv (L2I x) :: r) Q) : TJ xs J d m pc L (jv x :: r) Q := by
  refine T_op hz rfl (st' := .int (Int64.ofInt x).toInt32 :: r) rfl rfl ?_
  have := k (Int32.le_toInt _) (Int32.toInt_le _)
  unfold L2I at this
  rwa [iv_of] at this
theorem T_unkIX {xs : Nat × (Nat → Int32)} {d m pc : Nat} {L : XL} {r : List Value} {Q : Option Value → ZS → Prop} {J : ZS → Prop} {i : Instr} {a1 a2 p : Nat} {c x : Int} (hz : zc m pc = some (i, a1, a2, c, p)) (hu : xunI i = true) (k : -2147483648 ≤ zXI i x → zXI i x ≤ 2147483647 → TJ xs J d m (pc + 1) L (iv (zXI i x) :: r) Q) : TJ xs J d m pc L (iv x :: r) Q := by
  have h : ∃ w : Int32, xop i (iv x :: r) = some (.int w :: r) ∧ xinv i = false ∧ zLen i = 1 ∧ zXI i x = w.toInt := by
    cases i <;> simp [xunI] at hu <;> exact ⟨_, rfl, rfl, rfl, rfl⟩
  obtain ⟨w, h1, h2, h3, h4⟩ := h
  rw [h4] at k
  have h5 := k (Int32.le_toInt _) (Int32.toInt_le _)
  refine T_op hz h2 (h1.trans ?_) (by rw [h3]) h5
  rw [iv_of]
theorem T_unkLX {xs : Nat × (Nat → Int32)} {d m pc : Nat} {L : XL} {r : List Value} {Q : Option Value → ZS → Prop} {J : ZS → Prop} {i : Instr} {a1 a2 p : Nat} {c x y : Int} (hz : zc m pc = some (i, a1, a2, c, p)) (hu : xunL i = true) (k : TJ xs J d m (pc + 1) L (jv (zXL i x y) :: r) Q) : TJ xs J d m pc L (jv y :: jv x :: r) Q := by
  have h : ∃ w : Int64, xop i (jv y :: jv x :: r) = some (.long w :: r) ∧ xinv i = false ∧ zLen i = 1 ∧ zXL i x y = w.toInt := by
    cases i <;> simp [xunL] at hu <;> exact ⟨_, rfl, rfl, rfl, rfl⟩
  obtain ⟨w, h1, h2, h3, h4⟩ := h
  rw [h4] at k
  refine T_op hz h2 (h1.trans ?_) (by rw [h3]) k
  rw [jv_of]
theorem T_unkSX {xs : Nat × (Nat → Int32)} {d m pc : Nat} {L : XL} {r : List Value} {Q : Option Value → ZS → Prop} {J : ZS → Prop} {i : Instr} {a1 a2 p : Nat} {c x y : Int} (hz : zc m pc = some (i, a1, a2, c, p)) (hu : xunS i = true) (k : TJ xs J d m (pc + 1) L (jv (zXS i x y) :: r) Q) : TJ xs J d m pc L (iv y :: jv x :: r) Q := by
  have h : ∃ w : Int64, xop i (iv y :: jv x :: r) = some (.long w :: r) ∧ xinv i = false ∧ zLen i = 1 ∧ zXS i x y = w.toInt := by
    cases i <;> simp [xunS] at hu <;> exact ⟨_, rfl, rfl, rfl, rfl⟩
  obtain ⟨w, h1, h2, h3, h4⟩ := h
  rw [h4] at k
  refine T_op hz h2 (h1.trans ?_) (by rw [h3]) k
  rw [jv_of]
theorem G_laldX {xs : Nat × (Nat → Int32)} {d m pc pc' t i k ln : Nat} {L : XL} {r : List Value} {Q : Option Value → ZS → Prop} {J : ZS → Prop} {a1 a2 p : Nat} {c x w : Int} (hz : zc m pc = some (.laload, a1, a2, c, p)) (hs : arrK t 13 = true) (hln : tln t = ln) (hv : vd t i k) (h0 : 0 ≤ x) (h1 : x < ln) (h2 : x ≤ 2147483647) (hP : ∀ σ', J σ' → σ' t i k x.toNat = w) (hp' : pc + 1 = pc') (kk : TJ xs J d m pc' L (jv w :: r) Q) : TJ xs J d m pc L (iv x :: av t i k :: r) Q :=
  T_laldE hz hs hv h0 (by rw [hln]; exact h1) h2 hp' (fun y σ hJ => by
    have e := hP σ hJ.1
    rw [hJ.2] at e
    subst e
    exact kk σ hJ.1)
/-- an element of a sort -/
def cv (s v : Int) : Int := if s = 0 then zXI .i2b (L2I v) else if s = 1 then zXI .i2s (L2I v) else if s = 2 then L2I v else v
theorem cv_spec (s v : Int) : (s = 0 → cv s v = zXI .i2b (L2I v)) ∧ (s = 1 → cv s v = zXI .i2s (L2I v)) ∧ (s = 2 → cv s v = L2I v) ∧ (¬ s = 0 ∧ ¬ s = 1 ∧ ¬ s = 2 → cv s v = v) :=
  ⟨fun h => by unfold cv; rw [if_pos h], fun h => by unfold cv; rw [if_neg (by omega), if_pos h], fun h => by unfold cv; rw [if_neg (by omega), if_neg (by omega), if_pos h], fun h => by unfold cv; rw [if_neg h.1, if_neg h.2.1, if_neg h.2.2]⟩
def zf : Nat → Int := fun _ => 0
/-- a row that is so from a place on -/
def eqo (b : Nat) (g f : Nat → Int) (n : Nat) : Prop := ∀ q, q < n → f (b + q) = g q
theorem eqo_le {b n n' : Nat} {g f : Nat → Int} (h : eqo b g f n) (e : n' ≤ n) : eqo b g f n' := fun q hq => h q (by omega)
theorem eqo_push {σ : ZS} {t i k j n n' b : Nat} {v : Int} {g : Nat → Int} (h : eqo b g (σ t i k) n) (hj : j = b + n) (hn : n' = n + 1) (hv : v = g n) : eqo b g (up σ t i k j v t i k) n' := by
  subst hj hn hv
  intro q hq
  rw [up_self]
  dsimp only
  by_cases h1 : q = n
  · subst h1; rw [if_pos rfl]
  · rw [if_neg (by omega)]; exact h q (by omega)
/-- a stretch copied from one row into another -/
def fcp (f g : Nat → Int) (a b n : Nat) : Nat → Int := fun j => if b ≤ j ∧ j < b + n then f (a + (j - b)) else g j
theorem fcp_0 {f g : Nat → Int} {a b : Nat} : fcp f g a b 0 = g := funext fun j => by unfold fcp; rw [if_neg (by omega)]
theorem fcp_push {σ : ZS} {t i k j n n' a b : Nat} {v : Int} {f g : Nat → Int} (h : σ t i k = fcp f g a b n) (hj : j = b + n) (hn : n' = n + 1) (hv : v = f (a + n)) : up σ t i k j v t i k = fcp f g a b n' := by
  subst hj hn hv
  rw [up_self, h]
  funext q
  unfold fcp
  by_cases h1 : q = b + n
  · subst h1; rw [if_pos rfl, if_pos (by omega), show b + n - b = n from by omega]
  · rw [if_neg h1]
    by_cases h2 : b ≤ q ∧ q < b + n
    · rw [if_pos h2, if_pos (by omega)]
    · rw [if_neg h2, if_neg (by omega)]
theorem upr_row {σ : ZS} {t i k : Nat} {f : Nat → Int} : upr σ t i k f t i k = f := funext fun j => by unfold upr; rw [if_pos ⟨rfl, rfl, rfl⟩]
def rcp (z : Nat → Int) (y : Int) (f g : Nat → Int) : Prop := (y = 1 → z = f) ∧ (¬ y = 1 → z = g)
/-- java/util/Arrays.fill -/
theorem s_189 {xs : Nat × (Nat → Int32)} (k : Nat) (hk : k < 8) (σ : ZS) (hI : Inv σ)   : CT xs 1 189 [av 34 0 k, jv 0] σ (fun v σ' => v = none ∧ IF (MEr k) σ σ' ∧ (eqn zf (σ' 34 0 k) 96 ∧ True)) := by
  refine G_ct (J := (fun σ' => IF (MEr k) σ σ' ∧ True)) (L := [(0, av 34 0 k), (1, jv 0)]) (nL := 5) rfl rfl rfl ⟨IF.rf hI, trivial⟩ ?_
  refine G_know (J' := (fun σ' => IF (MEr k) σ σ' ∧ eqn zf (σ' 34 0 k) (Int.toNat 0) ∧ True)) (fun σ' h => ⟨h.1, (fun j hj => by simp at hj), trivial⟩) ?_
  refine T_op zk_189_0 rfl X_ic (pc' := 1) rfl ?_
  refine T_st (L' := [(0, av 34 0 k), (1, jv 0), (3, iv 0)]) zk_189_1 (nL := 5) rfl rfl rfl rfl rfl (pc' := 2) rfl ?_
  refine T_ld zk_189_2 rfl rfl rfl (pc' := 3) rfl ?_
  refine T_alen (n := 96) zk_189_3 rfl rfl (vd_34 (by omega)) (pc' := 4) rfl ?_
  refine T_st (L' := [(0, av 34 0 k), (1, jv 0), (3, iv 0), (4, iv 96)]) zk_189_4 (nL := 5) rfl rfl rfl rfl rfl (pc' := 6) rfl ?_
  refine T_loop1 (fun x1 => ((96 - x1 : Int)).toNat) (fun x1 => (0 ≤ x1 ∧ x1 ≤ 96)) (fun x1 => TJ xs (fun σ' => IF (MEr k) σ σ' ∧ eqn zf (σ' 34 0 k) (Int.toNat x1) ∧ True) 0 189 6 [(0, av 34 0 k), (1, jv 0), (3, iv x1), (4, iv 96)] [] _) ?_ 0 (by omega)
  intro x1 hp3 ih2
  refine T_ld zk_189_6 rfl rfl rfl (pc' := 7) rfl ?_
  refine T_ld zk_189_7 rfl rfl rfl (pc' := 9) rfl ?_
  refine T_icmp_ge zk_189_9 (by omega) (by omega) (pc' := 12) rfl (fun h4 => ?_) (fun h5 => ?_)
  ·
    exact T_vret zk_189_22 rfl (fun σ' h => ⟨rfl, h.1, ⟨(eqn_le (h.2.1) (by omega)), trivial⟩⟩)
  ·
    refine T_ld zk_189_12 rfl rfl rfl (pc' := 13) rfl ?_
    refine T_ld zk_189_13 rfl rfl rfl (pc' := 14) rfl ?_
    refine T_ld zk_189_14 rfl rfl rfl (pc' := 15) rfl ?_
    refine G_last (J' := (fun σ' => IF (MEr k) σ σ' ∧ eqn zf (σ' 34 0 k) (Int.toNat (x1 + 1)) ∧ True)) (ln := 96) zk_189_15 rfl rfl (vd_34 (by omega)) (by omega) (by omega) (by omega) (fun σ' h => ⟨h.1.up ⟨by omega, trivial⟩ (by unfold MEr; omega), eqn_push (h.2.1) (by omega) (by omega) rfl, trivial⟩) (pc' := 16) rfl ?_
    refine T_iinc (L' := [(0, av 34 0 k), (1, jv 0), (3, iv (x1 + 1)), (4, iv 96)]) zk_189_16 (nL := 5) rfl rfl rfl rfl (pc' := 19) rfl ?_
    refine T_goto zk_189_19 ?_
    exact ih2 (x1 + 1) (by omega) (by omega)
theorem sb79_ee6b164 (v0 : Nat) : ∀ t i k j, MEr v0 t i k j → MEs v0 t i k j := by
  intro t i k j h
  unfold MEr at h
  unfold MEs
  omega
/-- W$Shelf.putRow -/
theorem s_66e {xs : Nat × (Nat → Int32)} (k : Nat) (p0 : Int) (p1 : Int) (hk : k < 8) (hp0 : -2147483648 ≤ p0 ∧ p0 ≤ 2147483647) (hp1 : 0 ≤ p1 ∧ p1 ≤ 96) (σ : ZS) (hI : Inv σ)   : CT xs 2 66 [av 33 0 k, iv p0, iv p1] σ (fun v σ' => v = none ∧ IF (MEs k) σ σ' ∧ (σ' 33 0 k 0 = 1 ∧ σ' 33 0 k 1 = p0 ∧ σ' 33 0 k 2 = p1 ∧ eqn zf (σ' 34 0 k) 96 ∧ True)) := by
  refine G_ct (J := (fun σ' => IF (MEs k) σ σ' ∧ True)) (L := [(0, av 33 0 k), (1, iv p0), (2, iv p1)]) (nL := 3) rfl rfl rfl ⟨IF.rf hI, trivial⟩ ?_
  refine T_ld zk_66_0 rfl rfl rfl (pc' := 1) rfl ?_
  refine T_op zk_66_1 rfl X_ic (pc' := 2) rfl ?_
  refine T_putf (J' := (fun σ' => IF (MEs k) σ σ' ∧ σ' 33 0 k 0 = 1 ∧ True)) zk_66_2 rfl rfl (vd_33 (by omega)) (fun σ' h => ⟨h.1.up (by simp only [rgP] <;> omega) (by unfold MEs; omega), up_eq, trivial⟩) (pc' := 5) rfl ?_
  refine T_ld zk_66_5 rfl rfl rfl (pc' := 6) rfl ?_
  refine T_ld zk_66_6 rfl rfl rfl (pc' := 7) rfl ?_
  refine T_putf (J' := (fun σ' => IF (MEs k) σ σ' ∧ σ' 33 0 k 0 = 1 ∧ σ' 33 0 k 1 = p0 ∧ True)) zk_66_7 rfl rfl (vd_33 (by omega)) (fun σ' h => ⟨h.1.up (by simp only [rgP] <;> omega) (by unfold MEs; omega), (up_ne (by omega)).trans (h.2.1), up_eq, trivial⟩) (pc' := 10) rfl ?_
  refine T_ld zk_66_10 rfl rfl rfl (pc' := 11) rfl ?_
  refine T_ld zk_66_11 rfl rfl rfl (pc' := 12) rfl ?_
  refine T_putf (J' := (fun σ' => IF (MEs k) σ σ' ∧ σ' 33 0 k 0 = 1 ∧ σ' 33 0 k 1 = p0 ∧ σ' 33 0 k 2 = p1 ∧ True)) zk_66_12 rfl rfl (vd_33 (by omega)) (fun σ' h => ⟨h.1.up (by simp only [rgP] <;> omega) (by unfold MEs; omega), (up_ne (by omega)).trans (h.2.1), (up_ne (by omega)).trans (h.2.2.1), up_eq, trivial⟩) (pc' := 15) rfl ?_
  refine T_ld zk_66_15 rfl rfl rfl (pc' := 16) rfl ?_
  refine T_getR (t' := 34) (i' := 0) (k' := k) zk_66_16 rfl rfl rfl (vd_33 (by omega)) (pc' := 19) rfl ?_
  refine T_op zk_66_19 rfl (X_lc (v := 0) (by decide)) (pc' := 20) rfl ?_
  refine T_callv (J' := (fun σ' => IF (MEs k) σ σ' ∧ σ' 33 0 k 0 = 1 ∧ σ' 33 0 k 1 = p0 ∧ σ' 33 0 k 2 = p1 ∧ eqn zf (σ' 34 0 k) 96 ∧ True)) (r := []) zk_66_20 rfl rfl rfl rfl rfl rfl (Or.inl (Or.inl rfl)) (fun σ' h => (s_189 k (by omega) σ' h.1.1 ).le (Nat.le_of_ble_eq_true rfl) (fun v σ2 ⟨h1, h3, h4⟩ => ⟨h1, h.1.tr h3 (sb79_ee6b164 k), (h3.2 _ _ _ _ (by first | exact nMEr rfl | (unfold MEr; omega))).trans (h.2.1), (h3.2 _ _ _ _ (by first | exact nMEr rfl | (unfold MEr; omega))).trans (h.2.2.1), (h3.2 _ _ _ _ (by first | exact nMEr rfl | (unfold MEr; omega))).trans (h.2.2.2.1), h4.1, trivial⟩)) (pc' := 23) rfl ?_
  exact T_vret zk_66_23 rfl (fun σ' h => ⟨rfl, h.1, ⟨h.2.1, h.2.2.1, h.2.2.2.1, h.2.2.2.2.1, trivial⟩⟩)
/-- W$Shelf.putElement -/
theorem s_67 {xs : Nat × (Nat → Int32)} (k : Nat) (p0 : Int) (vv : Int) (u1 : Int) (hk : k < 8) (hp0 : 0 ≤ p0 ∧ p0 ≤ 95) (hu1 : -2147483648 ≤ u1 ∧ u1 ≤ 2147483647) (σ : ZS) (hI : Inv σ)  (s1 : σ 33 0 k 1 = u1) : CT xs 1 67 [av 33 0 k, iv p0, jv vv] σ (fun v σ' => v = none ∧ IF (MEk k (Int.toNat p0)) σ σ' ∧ ((σ' 34 0 k (Int.toNat p0) = cv u1 vv) ∧ True)) := by
  refine G_ct (J := (fun σ' => IF (MEk k (Int.toNat p0)) σ σ' ∧ True)) (L := [(0, av 33 0 k), (1, iv p0), (2, jv vv)]) (nL := 4) rfl rfl rfl ⟨IF.rf hI, trivial⟩ ?_
  have hcv := cv_spec u1 vv
  refine T_ld zk_67_0 rfl rfl rfl (pc' := 1) rfl ?_
  refine G_getX (w := u1) zk_67_1 rfl (vd_33 (by omega)) (fun σ' h => (h.1.2 _ _ _ _ (by first | exact nMEk rfl | (unfold MEk; omega))).trans s1) (pc' := 4) rfl ?_
  by_cases h1 : u1 = 0
  · subst h1
    refine T_br (t := 32) zk_67_4 rfl rfl rfl (fun _ => rfl) rfl ?_
    refine T_ld zk_67_32 rfl rfl rfl (pc' := 33) rfl ?_
    refine T_getR (t' := 34) (i' := 0) (k' := k) zk_67_33 rfl rfl rfl (vd_33 (by omega)) (pc' := 36) rfl ?_
    refine T_ld zk_67_36 rfl rfl rfl (pc' := 37) rfl ?_
    refine T_ld zk_67_37 rfl rfl rfl (pc' := 38) rfl ?_
    refine T_l2iX zk_67_38 (fun hl2 hl2' => ?_)
    refine T_unkIX zk_67_39 rfl (fun hl3 hl3' => ?_)
    refine T_i2l (by omega) zk_67_40 ?_
    refine G_last (J' := (fun σ' => IF (MEk k (Int.toNat p0)) σ σ' ∧ σ' 34 0 k (Int.toNat p0) = zXI .i2b (L2I vv) ∧ True)) (ln := 96) zk_67_41 rfl rfl (vd_34 (by omega)) (by omega) (by omega) (by omega) (fun σ' h => ⟨h.1.up ⟨by omega, trivial⟩ (by unfold MEk; omega), up_eq, trivial⟩) (pc' := 42) rfl ?_
    refine T_goto zk_67_42 ?_
    exact T_vret zk_67_77 rfl (fun σ' h => ⟨rfl, h.1, ⟨(by have e := h.2.1; omega), trivial⟩⟩)
  by_cases h4 : u1 = 1
  · subst h4
    refine T_br (t := 45) zk_67_4 rfl rfl rfl (fun _ => rfl) rfl ?_
    refine T_ld zk_67_45 rfl rfl rfl (pc' := 46) rfl ?_
    refine T_getR (t' := 34) (i' := 0) (k' := k) zk_67_46 rfl rfl rfl (vd_33 (by omega)) (pc' := 49) rfl ?_
    refine T_ld zk_67_49 rfl rfl rfl (pc' := 50) rfl ?_
    refine T_ld zk_67_50 rfl rfl rfl (pc' := 51) rfl ?_
    refine T_l2iX zk_67_51 (fun hl5 hl5' => ?_)
    refine T_unkIX zk_67_52 rfl (fun hl6 hl6' => ?_)
    refine T_i2l (by omega) zk_67_53 ?_
    refine G_last (J' := (fun σ' => IF (MEk k (Int.toNat p0)) σ σ' ∧ σ' 34 0 k (Int.toNat p0) = zXI .i2s (L2I vv) ∧ True)) (ln := 96) zk_67_54 rfl rfl (vd_34 (by omega)) (by omega) (by omega) (by omega) (fun σ' h => ⟨h.1.up ⟨by omega, trivial⟩ (by unfold MEk; omega), up_eq, trivial⟩) (pc' := 55) rfl ?_
    refine T_goto zk_67_55 ?_
    exact T_vret zk_67_77 rfl (fun σ' h => ⟨rfl, h.1, ⟨(by have e := h.2.1; omega), trivial⟩⟩)
  by_cases h7 : u1 = 2
  · subst h7
    refine T_br (t := 58) zk_67_4 rfl rfl rfl (fun _ => rfl) rfl ?_
    refine T_ld zk_67_58 rfl rfl rfl (pc' := 59) rfl ?_
    refine T_getR (t' := 34) (i' := 0) (k' := k) zk_67_59 rfl rfl rfl (vd_33 (by omega)) (pc' := 62) rfl ?_
    refine T_ld zk_67_62 rfl rfl rfl (pc' := 63) rfl ?_
    refine T_ld zk_67_63 rfl rfl rfl (pc' := 64) rfl ?_
    refine T_l2iX zk_67_64 (fun hl8 hl8' => ?_)
    refine T_i2l (by omega) zk_67_65 ?_
    refine G_last (J' := (fun σ' => IF (MEk k (Int.toNat p0)) σ σ' ∧ σ' 34 0 k (Int.toNat p0) = L2I vv ∧ True)) (ln := 96) zk_67_66 rfl rfl (vd_34 (by omega)) (by omega) (by omega) (by omega) (fun σ' h => ⟨h.1.up ⟨by omega, trivial⟩ (by unfold MEk; omega), up_eq, trivial⟩) (pc' := 67) rfl ?_
    refine T_goto zk_67_67 ?_
    exact T_vret zk_67_77 rfl (fun σ' h => ⟨rfl, h.1, ⟨(by have e := h.2.1; omega), trivial⟩⟩)
  refine T_tso (t := 70) zk_67_4 (by omega) (by omega) (by omega) ?_
  refine T_ld zk_67_70 rfl rfl rfl (pc' := 71) rfl ?_
  refine T_getR (t' := 34) (i' := 0) (k' := k) zk_67_71 rfl rfl rfl (vd_33 (by omega)) (pc' := 74) rfl ?_
  refine T_ld zk_67_74 rfl rfl rfl (pc' := 75) rfl ?_
  refine T_ld zk_67_75 rfl rfl rfl (pc' := 76) rfl ?_
  refine G_last (J' := (fun σ' => IF (MEk k (Int.toNat p0)) σ σ' ∧ σ' 34 0 k (Int.toNat p0) = vv ∧ True)) (ln := 96) zk_67_76 rfl rfl (vd_34 (by omega)) (by omega) (by omega) (by omega) (fun σ' h => ⟨h.1.up ⟨by omega, trivial⟩ (by unfold MEk; omega), up_eq, trivial⟩) (pc' := 77) rfl ?_
  exact T_vret zk_67_77 rfl (fun σ' h => ⟨rfl, h.1, ⟨(by have e := h.2.1; omega), trivial⟩⟩)
theorem sb79_92a2777 (v0 : Nat) : ∀ t i k j, MEs v0 t i k j → MEh v0 t i k j := by
  intro t i k j h
  unfold MEs at h
  unfold MEh
  omega
theorem sb79_7e1893f (v0 : Nat) : ∀ t i k j, MI 0 28 28 28 28 t i k j → MEh v0 t i k j := by
  intro t i k j h
  unfold MI at h
  unfold MEh
  omega
/-- W.row -/
theorem s_83e {xs : Nat × (Nat → Int32)} (p0 : Int) (p1 : Int) (p2 : Int) (u3 : Int) (hp0 : 0 ≤ p0 ∧ p0 ≤ 7) (hp1 : 0 ≤ p1 ∧ p1 ≤ 3) (hp2 : 0 ≤ p2 ∧ p2 ≤ 96) (hu3 : -2147483648 ≤ u3 ∧ u3 ≤ 2147483647) (σ : ZS) (hI : Inv σ)  (s3 : σ 33 0 (Int.toNat p0) 3 = u3) : CT xs 3 83 [av 0 0 0, iv p0, iv p1, iv p2] σ (fun v σ' => ∃ y, v = some (iv y) ∧ (y = 1) ∧ IF (MEh (Int.toNat p0)) σ σ' ∧ (σ' 33 0 (Int.toNat p0) 0 = 1 ∧ σ' 33 0 (Int.toNat p0) 1 = p1 ∧ σ' 33 0 (Int.toNat p0) 2 = p2 ∧ σ' 33 0 (Int.toNat p0) 3 = u3 ∧ eqn zf (σ' 34 0 (Int.toNat p0)) 96 ∧ True)) := by
  refine G_ct (J := (fun σ' => IF (MEh (Int.toNat p0)) σ σ' ∧ σ' 33 0 (Int.toNat p0) 3 = u3 ∧ True)) (L := [(0, av 0 0 0), (1, iv p0), (2, iv p1), (3, iv p2)]) (nL := 4) rfl rfl rfl ⟨IF.rf hI, s3, trivial⟩ ?_
  refine T_ld zk_83_0 rfl rfl rfl (pc' := 1) rfl ?_
  refine T_calli (K := fun y1 σ' => ((y1 = 0 ∧ (p0 < 0 ∨ 7 < p0)) ∨ (y1 = 1 ∧ 0 ≤ p0 ∧ p0 ≤ 7)) ∧ (fun σ' => IF (MEh (Int.toNat p0)) σ σ' ∧ σ' 33 0 (Int.toNat p0) 3 = u3 ∧ True) σ') (r := []) zk_83_1 rfl rfl rfl rfl rfl rfl (Or.inl (Or.inl rfl)) (fun σ' h => (w_116 p0 (by omega) σ' h.1.1 ).le (Nat.le_of_ble_eq_true rfl) (fun v σ2 ⟨y, h1, h2, h3, h4⟩ => ⟨y, h1, h2, h.1.tr h3 MN_sub, (h3.2 _ _ _ _ (fun q => q)).trans (h.2.1), trivial⟩)) (pc' := 4) rfl (fun y1 => ?_)
  refine G_ex (fun hy1 => ?_)
  refine T_if_ne zk_83_4 (by omega) (pc' := 7) rfl (fun h2 => ?_) (fun h3 => ?_)
  ·
    refine T_ld zk_83_13 rfl rfl rfl (pc' := 14) rfl ?_
    refine T_if_ge zk_83_14 (by omega) (pc' := 17) rfl (fun h4 => ?_) (fun h5 => ?_)
    ·
      refine T_ld zk_83_24 rfl rfl rfl (pc' := 25) rfl ?_
      refine T_op zk_83_25 rfl X_ic (pc' := 26) rfl ?_
      refine T_op zk_83_26 rfl X_ic (pc' := 27) rfl ?_
      refine T_calli (K := fun y6 σ' => ((y6 = 0 ∧ (p1 < 0 ∨ 3 < p1)) ∨ (y6 = 1 ∧ 0 ≤ p1 ∧ p1 ≤ 3)) ∧ (fun σ' => IF (MEh (Int.toNat p0)) σ σ' ∧ σ' 33 0 (Int.toNat p0) 3 = u3 ∧ True) σ') (r := []) zk_83_27 rfl rfl rfl rfl rfl rfl (Or.inl (Or.inl rfl)) (fun σ' h => (w_114 p1 0 3 (by omega) (by omega) (by omega) σ' h.1.1 ).le (Nat.le_of_ble_eq_true rfl) (fun v σ2 ⟨y, h1, h2, h3, h4⟩ => ⟨y, h1, h2, h.1.tr h3 MN_sub, (h3.2 _ _ _ _ (fun q => q)).trans (h.2.1), trivial⟩)) (pc' := 30) rfl (fun y6 => ?_)
      refine G_ex (fun hy6 => ?_)
      refine T_if_ne zk_83_30 (by omega) (pc' := 33) rfl (fun h7 => ?_) (fun h8 => ?_)
      ·
        refine T_ld zk_83_40 rfl rfl rfl (pc' := 41) rfl ?_
        refine T_op zk_83_41 rfl (X_bi (v := 96) (by decide)) (pc' := 43) rfl ?_
        refine T_icmp_le zk_83_43 (by omega) (by omega) (pc' := 46) rfl (fun h9 => ?_) (fun h10 => ?_)
        ·
          refine T_ld zk_83_53 rfl rfl rfl (pc' := 54) rfl ?_
          refine T_getR (t' := 27) (i' := 0) (k' := 0) zk_83_54 rfl rfl rfl vd_0 (pc' := 57) rfl ?_
          refine T_ld zk_83_57 rfl rfl rfl (pc' := 58) rfl ?_
          refine G_aald (t' := 33) (im := 0) (i' := 0) (ln := 8) zk_83_58 rfl rfl rfl vd_27 (by omega) (by omega) (by omega) (pc' := 59) rfl ?_
          refine T_ld zk_83_59 rfl rfl rfl (pc' := 60) rfl ?_
          refine T_ld zk_83_60 rfl rfl rfl (pc' := 61) rfl ?_
          refine T_callv (J' := (fun σ' => IF (MEh (Int.toNat p0)) σ σ' ∧ σ' 33 0 (Int.toNat p0) 3 = u3 ∧ σ' 33 0 (Int.toNat p0) 0 = 1 ∧ σ' 33 0 (Int.toNat p0) 1 = p1 ∧ σ' 33 0 (Int.toNat p0) 2 = p2 ∧ eqn zf (σ' 34 0 (Int.toNat p0)) 96 ∧ True)) (r := []) zk_83_61 rfl rfl rfl rfl rfl rfl (Or.inr ⟨_, _, _, _, rfl, (vd_33 (by omega)), rfl⟩) (fun σ' h => (s_66e (Int.toNat p0) p1 p2 (by omega) (by omega) (by omega) σ' h.1.1 ).le (Nat.le_of_ble_eq_true rfl) (fun v σ2 ⟨h1, h3, h4⟩ => ⟨h1, h.1.tr h3 (sb79_92a2777 (Int.toNat p0)), (h3.2 _ _ _ _ (by first | exact nMEs rfl | (unfold MEs; omega))).trans (h.2.1), h4.1, h4.2.1, h4.2.2.1, h4.2.2.2.1, trivial⟩)) (pc' := 64) rfl ?_
          refine T_op zk_83_64 rfl X_ic (pc' := 65) rfl ?_
          exact T_iret zk_83_65 rfl (fun σ' h => ⟨_, rfl, (by omega), h.1, ⟨h.2.2.1, h.2.2.2.1, h.2.2.2.2.1, h.2.1, h.2.2.2.2.2.1, trivial⟩⟩)
        · exfalso; omega
      ·
        refine T_ld zk_83_33 rfl rfl rfl (pc' := 34) rfl ?_
        refine T_op zk_83_34 rfl (X_bi (v := -6) (by decide)) (pc' := 36) rfl ?_
        refine T_calli (K := fun y12 σ' => (y12 = (-6)) ∧ (fun σ' => IF (MEh (Int.toNat p0)) σ σ' ∧ σ' 33 0 (Int.toNat p0) 3 = u3 ∧ True) σ') (r := []) zk_83_36 rfl rfl rfl rfl rfl rfl (Or.inr ⟨_, _, _, _, rfl, vd_0, rfl⟩) (fun σ' h => (w_113 ((-6)) (by omega) σ' h.1.1 ).le (Nat.le_of_ble_eq_true rfl) (fun v σ2 ⟨y, h1, h2, h3, h4⟩ => ⟨y, h1, h2, h.1.tr h3 (sb79_7e1893f (Int.toNat p0)), (h3.2 _ _ _ _ (by first | exact nMI rfl | (unfold MI; omega))).trans (h.2.1), trivial⟩)) (pc' := 39) rfl (fun y12 => ?_)
        refine G_ex (fun hy12 => ?_)
        obtain rfl : y12 = (-6) := by omega
        exfalso; omega
    · exfalso; omega
  ·
    refine T_ld zk_83_7 rfl rfl rfl (pc' := 8) rfl ?_
    refine T_op zk_83_8 rfl X_ic (pc' := 9) rfl ?_
    refine T_calli (K := fun y13 σ' => (y13 = (-1)) ∧ (fun σ' => IF (MEh (Int.toNat p0)) σ σ' ∧ σ' 33 0 (Int.toNat p0) 3 = u3 ∧ True) σ') (r := []) zk_83_9 rfl rfl rfl rfl rfl rfl (Or.inr ⟨_, _, _, _, rfl, vd_0, rfl⟩) (fun σ' h => (w_113 ((-1)) (by omega) σ' h.1.1 ).le (Nat.le_of_ble_eq_true rfl) (fun v σ2 ⟨y, h1, h2, h3, h4⟩ => ⟨y, h1, h2, h.1.tr h3 (sb79_7e1893f (Int.toNat p0)), (h3.2 _ _ _ _ (by first | exact nMI rfl | (unfold MI; omega))).trans (h.2.1), trivial⟩)) (pc' := 12) rfl (fun y13 => ?_)
    refine G_ex (fun hy13 => ?_)
    obtain rfl : y13 = (-1) := by omega
    exfalso; omega
/-- W.row -/
theorem s_83f {xs : Nat × (Nat → Int32)} (p0 : Int) (p1 : Int) (p2 : Int) (hp0 : -2147483648 ≤ p0 ∧ p0 ≤ 2147483647) (hp1 : -2147483648 ≤ p1 ∧ p1 ≤ 2147483647) (hp2 : -2147483648 ≤ p2 ∧ p2 ≤ 2147483647) (ho : (p0 < 0 ∨ 7 < p0) ∨ p2 < 0 ∨ (p1 < 0 ∨ 3 < p1) ∨ 96 < p2) (σ : ZS) (hI : Inv σ)   : CT xs 3 83 [av 0 0 0, iv p0, iv p1, iv p2] σ (fun v σ' => ∃ y, v = some (iv y) ∧ (y < 0) ∧ IF (MI 0 28 28 28 28) σ σ' ∧ (True)) := by
  refine G_ct (J := (fun σ' => IF (MI 0 28 28 28 28) σ σ' ∧ True)) (L := [(0, av 0 0 0), (1, iv p0), (2, iv p1), (3, iv p2)]) (nL := 4) rfl rfl rfl ⟨IF.rf hI, trivial⟩ ?_
  refine T_ld zk_83_0 rfl rfl rfl (pc' := 1) rfl ?_
  refine T_calli (K := fun y1 σ' => ((y1 = 0 ∧ (p0 < 0 ∨ 7 < p0)) ∨ (y1 = 1 ∧ 0 ≤ p0 ∧ p0 ≤ 7)) ∧ (fun σ' => IF (MI 0 28 28 28 28) σ σ' ∧ True) σ') (r := []) zk_83_1 rfl rfl rfl rfl rfl rfl (Or.inl (Or.inl rfl)) (fun σ' h => (w_116 p0 (by omega) σ' h.1.1 ).le (Nat.le_of_ble_eq_true rfl) (fun v σ2 ⟨y, h1, h2, h3, h4⟩ => ⟨y, h1, h2, h.1.tr h3 MN_sub, trivial⟩)) (pc' := 4) rfl (fun y1 => ?_)
  refine G_ex (fun hy1 => ?_)
  refine T_if_ne zk_83_4 (by omega) (pc' := 7) rfl (fun h2 => ?_) (fun h3 => ?_)
  ·
    refine T_ld zk_83_13 rfl rfl rfl (pc' := 14) rfl ?_
    refine T_if_ge zk_83_14 (by omega) (pc' := 17) rfl (fun h4 => ?_) (fun h5 => ?_)
    ·
      refine T_ld zk_83_24 rfl rfl rfl (pc' := 25) rfl ?_
      refine T_op zk_83_25 rfl X_ic (pc' := 26) rfl ?_
      refine T_op zk_83_26 rfl X_ic (pc' := 27) rfl ?_
      refine T_calli (K := fun y6 σ' => ((y6 = 0 ∧ (p1 < 0 ∨ 3 < p1)) ∨ (y6 = 1 ∧ 0 ≤ p1 ∧ p1 ≤ 3)) ∧ (fun σ' => IF (MI 0 28 28 28 28) σ σ' ∧ True) σ') (r := []) zk_83_27 rfl rfl rfl rfl rfl rfl (Or.inl (Or.inl rfl)) (fun σ' h => (w_114 p1 0 3 (by omega) (by omega) (by omega) σ' h.1.1 ).le (Nat.le_of_ble_eq_true rfl) (fun v σ2 ⟨y, h1, h2, h3, h4⟩ => ⟨y, h1, h2, h.1.tr h3 MN_sub, trivial⟩)) (pc' := 30) rfl (fun y6 => ?_)
      refine G_ex (fun hy6 => ?_)
      refine T_if_ne zk_83_30 (by omega) (pc' := 33) rfl (fun h7 => ?_) (fun h8 => ?_)
      ·
        refine T_ld zk_83_40 rfl rfl rfl (pc' := 41) rfl ?_
        refine T_op zk_83_41 rfl (X_bi (v := 96) (by decide)) (pc' := 43) rfl ?_
        refine T_icmp_le zk_83_43 (by omega) (by omega) (pc' := 46) rfl (fun h9 => ?_) (fun h10 => ?_)
        · exfalso; omega
        ·
          refine T_ld zk_83_46 rfl rfl rfl (pc' := 47) rfl ?_
          refine T_op zk_83_47 rfl (X_bi (v := -7) (by decide)) (pc' := 49) rfl ?_
          refine T_calli (K := fun y11 σ' => (y11 = (-7)) ∧ (fun σ' => IF (MI 0 28 28 28 28) σ σ' ∧ True) σ') (r := []) zk_83_49 rfl rfl rfl rfl rfl rfl (Or.inr ⟨_, _, _, _, rfl, vd_0, rfl⟩) (fun σ' h => (w_113 ((-7)) (by omega) σ' h.1.1 ).le (Nat.le_of_ble_eq_true rfl) (fun v σ2 ⟨y, h1, h2, h3, h4⟩ => ⟨y, h1, h2, h.1.tr h3 (fun _ _ _ _ h => h), trivial⟩)) (pc' := 52) rfl (fun y11 => ?_)
          refine G_ex (fun hy11 => ?_)
          obtain rfl : y11 = (-7) := by omega
          exact T_iret zk_83_52 rfl (fun σ' h => ⟨_, rfl, (by omega), h.1, trivial⟩)
      ·
        refine T_ld zk_83_33 rfl rfl rfl (pc' := 34) rfl ?_
        refine T_op zk_83_34 rfl (X_bi (v := -6) (by decide)) (pc' := 36) rfl ?_
        refine T_calli (K := fun y12 σ' => (y12 = (-6)) ∧ (fun σ' => IF (MI 0 28 28 28 28) σ σ' ∧ True) σ') (r := []) zk_83_36 rfl rfl rfl rfl rfl rfl (Or.inr ⟨_, _, _, _, rfl, vd_0, rfl⟩) (fun σ' h => (w_113 ((-6)) (by omega) σ' h.1.1 ).le (Nat.le_of_ble_eq_true rfl) (fun v σ2 ⟨y, h1, h2, h3, h4⟩ => ⟨y, h1, h2, h.1.tr h3 (fun _ _ _ _ h => h), trivial⟩)) (pc' := 39) rfl (fun y12 => ?_)
        refine G_ex (fun hy12 => ?_)
        obtain rfl : y12 = (-6) := by omega
        exact T_iret zk_83_39 rfl (fun σ' h => ⟨_, rfl, (by omega), h.1, trivial⟩)
    ·
      refine T_ld zk_83_17 rfl rfl rfl (pc' := 18) rfl ?_
      refine T_op zk_83_18 rfl (X_bi (v := -4) (by decide)) (pc' := 20) rfl ?_
      refine T_calli (K := fun y13 σ' => (y13 = (-4)) ∧ (fun σ' => IF (MI 0 28 28 28 28) σ σ' ∧ True) σ') (r := []) zk_83_20 rfl rfl rfl rfl rfl rfl (Or.inr ⟨_, _, _, _, rfl, vd_0, rfl⟩) (fun σ' h => (w_113 ((-4)) (by omega) σ' h.1.1 ).le (Nat.le_of_ble_eq_true rfl) (fun v σ2 ⟨y, h1, h2, h3, h4⟩ => ⟨y, h1, h2, h.1.tr h3 (fun _ _ _ _ h => h), trivial⟩)) (pc' := 23) rfl (fun y13 => ?_)
      refine G_ex (fun hy13 => ?_)
      obtain rfl : y13 = (-4) := by omega
      exact T_iret zk_83_23 rfl (fun σ' h => ⟨_, rfl, (by omega), h.1, trivial⟩)
  ·
    refine T_ld zk_83_7 rfl rfl rfl (pc' := 8) rfl ?_
    refine T_op zk_83_8 rfl X_ic (pc' := 9) rfl ?_
    refine T_calli (K := fun y14 σ' => (y14 = (-1)) ∧ (fun σ' => IF (MI 0 28 28 28 28) σ σ' ∧ True) σ') (r := []) zk_83_9 rfl rfl rfl rfl rfl rfl (Or.inr ⟨_, _, _, _, rfl, vd_0, rfl⟩) (fun σ' h => (w_113 ((-1)) (by omega) σ' h.1.1 ).le (Nat.le_of_ble_eq_true rfl) (fun v σ2 ⟨y, h1, h2, h3, h4⟩ => ⟨y, h1, h2, h.1.tr h3 (fun _ _ _ _ h => h), trivial⟩)) (pc' := 12) rfl (fun y14 => ?_)
    refine G_ex (fun hy14 => ?_)
    obtain rfl : y14 = (-1) := by omega
    exact T_iret zk_83_12 rfl (fun σ' h => ⟨_, rfl, (by omega), h.1, trivial⟩)
theorem sb79_49ac8f1 (v0 v1 : Nat) : ∀ t i k j, MEk v0 v1 t i k j → MEl v0 v1 t i k j := by
  intro t i k j h
  unfold MEk at h
  unfold MEl
  omega
theorem sb79_33b3415 (v0 v1 : Nat) : ∀ t i k j, MI 0 28 28 28 28 t i k j → MEl v0 v1 t i k j := by
  intro t i k j h
  unfold MI at h
  unfold MEl
  omega
/-- W.set -/
theorem s_84e {xs : Nat × (Nat → Int32)} (p0 : Int) (p1 : Int) (vv : Int) (u0 : Int) (u1 : Int) (u2 : Int) (a : Int) (hp0 : 0 ≤ p0 ∧ p0 ≤ 7) (hp1 : -2147483648 ≤ p1 ∧ p1 ≤ 2147483647) (hu0 : -2147483648 ≤ u0 ∧ u0 ≤ 2147483647) (hu1 : -2147483648 ≤ u1 ∧ u1 ≤ 2147483647) (hu2 : 0 ≤ u2 ∧ u2 ≤ 96) (σ : ZS) (hI : Inv σ)  (s0 : σ 33 0 (Int.toNat p0) 0 = u0) (s1 : σ 33 0 (Int.toNat p0) 1 = u1) (s2 : σ 33 0 (Int.toNat p0) 2 = u2) (sa : σ 34 0 (Int.toNat p0) (Int.toNat p1) = a) : CT xs 3 84 [av 0 0 0, iv p0, iv p1, jv vv] σ (fun v σ' => ∃ y, v = some (iv y) ∧ ((y = -2 ∧ (u0 = 2)) ∨ (y = -3 ∧ ¬ (u0 = 2) ∧ (u0 = 0)) ∨ (y = -5 ∧ ¬ (u0 = 2) ∧ ¬ (u0 = 0) ∧ (¬ (0 ≤ p1 ∧ p1 < u2))) ∨ (y = 1 ∧ ¬ (u0 = 2) ∧ ¬ (u0 = 0) ∧ ¬ (¬ (0 ≤ p1 ∧ p1 < u2)))) ∧ IF (MEl (Int.toNat p0) (Int.toNat p1)) σ σ' ∧ (((y = 1 → σ' 34 0 (Int.toNat p0) (Int.toNat p1) = cv u1 vv) ∧ (¬ y = 1 → σ' 34 0 (Int.toNat p0) (Int.toNat p1) = a)) ∧ True)) := by
  refine G_ct (J := (fun σ' => IF (MEl (Int.toNat p0) (Int.toNat p1)) σ σ' ∧ σ' 34 0 (Int.toNat p0) (Int.toNat p1) = a ∧ True)) (L := [(0, av 0 0 0), (1, iv p0), (2, iv p1), (3, jv vv)]) (nL := 6) rfl rfl rfl ⟨IF.rf hI, sa, trivial⟩ ?_
  refine T_ld zk_84_0 rfl rfl rfl (pc' := 1) rfl ?_
  refine T_ld zk_84_1 rfl rfl rfl (pc' := 2) rfl ?_
  refine T_calli (K := fun y1 σ' => ((y1 = -2 ∧ (u0 = 2)) ∨ (y1 = -3 ∧ ¬ (u0 = 2) ∧ (u0 = 0)) ∨ (y1 = 0 ∧ ¬ (u0 = 2) ∧ ¬ (u0 = 0))) ∧ (fun σ' => IF (MEl (Int.toNat p0) (Int.toNat p1)) σ σ' ∧ σ' 34 0 (Int.toNat p0) (Int.toNat p1) = a ∧ True) σ') (r := []) zk_84_2 rfl rfl rfl rfl rfl rfl (Or.inr ⟨_, _, _, _, rfl, vd_0, rfl⟩) (fun σ' h => (s_119 p0 u0 (by omega) (by omega) σ' h.1.1 ((h.1.2 _ _ _ _ (by first | exact nMEl rfl | (unfold MEl; omega))).trans s0)).le (Nat.le_of_ble_eq_true rfl) (fun v σ2 ⟨y, h1, h2, h3, h4⟩ => ⟨y, h1, h2, h.1.tr h3 MN_sub, (h3.2 _ _ _ _ (fun q => q)).trans (h.2.1), trivial⟩)) (pc' := 5) rfl (fun y1 => ?_)
  refine G_ex (fun hy1 => ?_)
  refine T_st (L' := [(0, av 0 0 0), (1, iv p0), (2, iv p1), (3, jv vv), (5, iv y1)]) zk_84_5 (nL := 6) rfl rfl rfl rfl rfl (pc' := 7) rfl ?_
  refine T_ld zk_84_7 rfl rfl rfl (pc' := 9) rfl ?_
  refine T_if_eq zk_84_9 (by omega) (pc' := 12) rfl (fun h2 => ?_) (fun h3 => ?_)
  ·
    refine T_ld zk_84_19 rfl rfl rfl (pc' := 20) rfl ?_
    refine T_op zk_84_20 rfl X_ic (pc' := 21) rfl ?_
    refine T_ld zk_84_21 rfl rfl rfl (pc' := 22) rfl ?_
    refine T_getR (t' := 27) (i' := 0) (k' := 0) zk_84_22 rfl rfl rfl vd_0 (pc' := 25) rfl ?_
    refine T_ld zk_84_25 rfl rfl rfl (pc' := 26) rfl ?_
    refine G_aald (t' := 33) (im := 0) (i' := 0) (ln := 8) zk_84_26 rfl rfl rfl vd_27 (by omega) (by omega) (by omega) (pc' := 27) rfl ?_
    refine G_getX (w := u2) zk_84_27 rfl (vd_33 (by omega)) (fun σ' h => (h.1.2 _ _ _ _ (by first | exact nMEl rfl | (unfold MEl; omega))).trans s2) (pc' := 30) rfl ?_
    refine T_op zk_84_30 rfl X_ic (pc' := 31) rfl ?_
    refine T_op zk_84_31 rfl X_sub (pc' := 32) rfl ?_
    refine T_calli (K := fun y4 σ' => ((y4 = 0 ∧ (p1 < 0 ∨ u2 - 1 < p1)) ∨ (y4 = 1 ∧ 0 ≤ p1 ∧ p1 ≤ u2 - 1)) ∧ (fun σ' => IF (MEl (Int.toNat p0) (Int.toNat p1)) σ σ' ∧ σ' 34 0 (Int.toNat p0) (Int.toNat p1) = a ∧ True) σ') (r := []) zk_84_32 rfl rfl rfl rfl rfl rfl (Or.inl (Or.inl rfl)) (fun σ' h => (w_114 p1 0 (u2 - 1) (by omega) (by omega) (by omega) σ' h.1.1 ).le (Nat.le_of_ble_eq_true rfl) (fun v σ2 ⟨y, h1, h2, h3, h4⟩ => ⟨y, h1, h2, h.1.tr h3 MN_sub, (h3.2 _ _ _ _ (fun q => q)).trans (h.2.1), trivial⟩)) (pc' := 35) rfl (fun y4 => ?_)
    refine G_ex (fun hy4 => ?_)
    refine T_if_ne zk_84_35 (by omega) (pc' := 38) rfl (fun h5 => ?_) (fun h6 => ?_)
    ·
      refine T_ld zk_84_45 rfl rfl rfl (pc' := 46) rfl ?_
      refine T_getR (t' := 27) (i' := 0) (k' := 0) zk_84_46 rfl rfl rfl vd_0 (pc' := 49) rfl ?_
      refine T_ld zk_84_49 rfl rfl rfl (pc' := 50) rfl ?_
      refine G_aald (t' := 33) (im := 0) (i' := 0) (ln := 8) zk_84_50 rfl rfl rfl vd_27 (by omega) (by omega) (by omega) (pc' := 51) rfl ?_
      refine T_ld zk_84_51 rfl rfl rfl (pc' := 52) rfl ?_
      refine T_ld zk_84_52 rfl rfl rfl (pc' := 53) rfl ?_
      refine T_callv (J' := (fun σ' => IF (MEl (Int.toNat p0) (Int.toNat p1)) σ σ' ∧ (σ' 34 0 (Int.toNat p0) (Int.toNat p1) = cv u1 vv) ∧ True)) (r := []) zk_84_53 rfl rfl rfl rfl rfl rfl (Or.inr ⟨_, _, _, _, rfl, (vd_33 (by omega)), rfl⟩) (fun σ' h => (s_67 (Int.toNat p0) p1 vv u1 (by omega) (by omega) (by omega) σ' h.1.1 ((h.1.2 _ _ _ _ (by first | exact nMEl rfl | (unfold MEl; omega))).trans s1)).le (Nat.le_of_ble_eq_true rfl) (fun v σ2 ⟨h1, h3, h4⟩ => ⟨h1, h.1.tr h3 (sb79_49ac8f1 (Int.toNat p0) (Int.toNat p1)), h4.1, trivial⟩)) (pc' := 56) rfl ?_
      refine T_op zk_84_56 rfl X_ic (pc' := 57) rfl ?_
      exact T_iret zk_84_57 rfl (fun σ' h => ⟨_, rfl, (by omega), h.1, ⟨(by have e := h.2.1; omega), trivial⟩⟩)
    ·
      refine T_ld zk_84_38 rfl rfl rfl (pc' := 39) rfl ?_
      refine T_op zk_84_39 rfl (X_bi (v := -5) (by decide)) (pc' := 41) rfl ?_
      refine T_calli (K := fun y8 σ' => (y8 = (-5)) ∧ (fun σ' => IF (MEl (Int.toNat p0) (Int.toNat p1)) σ σ' ∧ σ' 34 0 (Int.toNat p0) (Int.toNat p1) = a ∧ True) σ') (r := []) zk_84_41 rfl rfl rfl rfl rfl rfl (Or.inr ⟨_, _, _, _, rfl, vd_0, rfl⟩) (fun σ' h => (w_113 ((-5)) (by omega) σ' h.1.1 ).le (Nat.le_of_ble_eq_true rfl) (fun v σ2 ⟨y, h1, h2, h3, h4⟩ => ⟨y, h1, h2, h.1.tr h3 (sb79_33b3415 (Int.toNat p0) (Int.toNat p1)), (h3.2 _ _ _ _ (by first | exact nMI rfl | (unfold MI; omega))).trans (h.2.1), trivial⟩)) (pc' := 44) rfl (fun y8 => ?_)
      refine G_ex (fun hy8 => ?_)
      obtain rfl : y8 = (-5) := by omega
      exact T_iret zk_84_44 rfl (fun σ' h => ⟨_, rfl, (by omega), h.1, ⟨(by have e := h.2.1; omega), trivial⟩⟩)
  ·
    refine T_ld zk_84_12 rfl rfl rfl (pc' := 13) rfl ?_
    refine T_ld zk_84_13 rfl rfl rfl (pc' := 15) rfl ?_
    refine T_calli (K := fun y9 σ' => (y9 = y1) ∧ (fun σ' => IF (MEl (Int.toNat p0) (Int.toNat p1)) σ σ' ∧ σ' 34 0 (Int.toNat p0) (Int.toNat p1) = a ∧ True) σ') (r := []) zk_84_15 rfl rfl rfl rfl rfl rfl (Or.inr ⟨_, _, _, _, rfl, vd_0, rfl⟩) (fun σ' h => (w_113 y1 (by omega) σ' h.1.1 ).le (Nat.le_of_ble_eq_true rfl) (fun v σ2 ⟨y, h1, h2, h3, h4⟩ => ⟨y, h1, h2, h.1.tr h3 (sb79_33b3415 (Int.toNat p0) (Int.toNat p1)), (h3.2 _ _ _ _ (by first | exact nMI rfl | (unfold MI; omega))).trans (h.2.1), trivial⟩)) (pc' := 18) rfl (fun y9 => ?_)
    refine G_ex (fun hy9 => ?_)
    obtain rfl : y9 = y1 := by omega
    exact T_iret zk_84_18 rfl (fun σ' h => ⟨_, rfl, (by omega), h.1, ⟨(by have e := h.2.1; omega), trivial⟩⟩)
theorem sb79_171b8ca (v0 : Nat) : ∀ t i k j, MI 0 28 28 28 28 t i k j → MEq v0 t i k j := by
  intro t i k j h
  unfold MI at h
  unfold MEq
  omega
/-- W.copy -/
theorem s_85e {xs : Nat × (Nat → Int32)} (p0 : Int) (p1 : Int) (p2 : Int) (p3 : Int) (p4 : Int) (v0 : Int) (v1 : Int) (v2 : Int) (u0 : Int) (u1 : Int) (u2 : Int) (F G : Nat → Int) (hp0 : 0 ≤ p0 ∧ p0 ≤ 7) (hp1 : 0 ≤ p1 ∧ p1 ≤ 7) (hp2 : -2147483648 ≤ p2 ∧ p2 ≤ 2147483647) (hp3 : -2147483648 ≤ p3 ∧ p3 ≤ 2147483647) (hp4 : -2147483648 ≤ p4 ∧ p4 ≤ 2147483647) (hv0 : -2147483648 ≤ v0 ∧ v0 ≤ 2147483647) (hv1 : -2147483648 ≤ v1 ∧ v1 ≤ 2147483647) (hv2 : 0 ≤ v2 ∧ v2 ≤ 96) (hu0 : -2147483648 ≤ u0 ∧ u0 ≤ 2147483647) (hu1 : -2147483648 ≤ u1 ∧ u1 ≤ 2147483647) (hu2 : 0 ≤ u2 ∧ u2 ≤ 96) (σ : ZS) (hI : Inv σ)  (t0 : σ 33 0 (Int.toNat p0) 0 = v0) (t1 : σ 33 0 (Int.toNat p0) 1 = v1) (t2 : σ 33 0 (Int.toNat p0) 2 = v2) (s0 : σ 33 0 (Int.toNat p1) 0 = u0) (s1 : σ 33 0 (Int.toNat p1) 1 = u1) (s2 : σ 33 0 (Int.toNat p1) 2 = u2) (rf : Eq (σ 34 0 (Int.toNat p0)) F) (rg : Eq (σ 34 0 (Int.toNat p1)) G) : CT xs 4 85 [av 0 0 0, iv p0, iv p1, iv p2, iv p3, iv p4] σ (fun v σ' => ∃ y, v = some (iv y) ∧ ((y = cpr v0 v1 u0 u1 ∧ (¬ cpr v0 v1 u0 u1 = 0)) ∨ (y = -4 ∧ ¬ (¬ cpr v0 v1 u0 u1 = 0) ∧ (p4 < 0)) ∨ (y = -5 ∧ ¬ (¬ cpr v0 v1 u0 u1 = 0) ∧ ¬ (p4 < 0) ∧ (¬ (0 ≤ p2 ∧ p2 + p4 ≤ v2 ∧ 0 ≤ p3 ∧ p3 + p4 ≤ u2))) ∨ (y = 1 ∧ ¬ (¬ cpr v0 v1 u0 u1 = 0) ∧ ¬ (p4 < 0) ∧ ¬ (¬ (0 ≤ p2 ∧ p2 + p4 ≤ v2 ∧ 0 ≤ p3 ∧ p3 + p4 ≤ u2)))) ∧ IF (MEq (Int.toNat p1)) σ σ' ∧ (rcp (σ' 34 0 (Int.toNat p1)) y (fcp F G (Int.toNat p2) (Int.toNat p3) (Int.toNat p4)) G ∧ True)) := by
  refine G_ct (J := (fun σ' => IF (MEq (Int.toNat p1)) σ σ' ∧ Eq (σ' 34 0 (Int.toNat p0)) F ∧ Eq (σ' 34 0 (Int.toNat p1)) G ∧ True)) (L := [(0, av 0 0 0), (1, iv p0), (2, iv p1), (3, iv p2), (4, iv p3), (5, iv p4)]) (nL := 7) rfl rfl rfl ⟨IF.rf hI, rf, rg, trivial⟩ ?_
  have hcr := cpr_rg v0 v1 u0 u1
  refine T_ld zk_85_0 rfl rfl rfl (pc' := 1) rfl ?_
  refine T_ld zk_85_1 rfl rfl rfl (pc' := 2) rfl ?_
  refine T_ld zk_85_2 rfl rfl rfl (pc' := 3) rfl ?_
  refine T_calli (K := fun y1 σ' => (y1 = cpr v0 v1 u0 u1) ∧ (fun σ' => IF (MEq (Int.toNat p1)) σ σ' ∧ Eq (σ' 34 0 (Int.toNat p0)) F ∧ Eq (σ' 34 0 (Int.toNat p1)) G ∧ True) σ') (r := []) zk_85_3 rfl rfl rfl rfl rfl rfl (Or.inr ⟨_, _, _, _, rfl, vd_0, rfl⟩) (fun σ' h => (s_120 p0 p1 v0 v1 u0 u1 (by omega) (by omega) (by omega) (by omega) (by omega) (by omega) σ' h.1.1 ((h.1.2 _ _ _ _ (by first | exact nMEq rfl | (unfold MEq; omega))).trans t0) ((h.1.2 _ _ _ _ (by first | exact nMEq rfl | (unfold MEq; omega))).trans t1) ((h.1.2 _ _ _ _ (by first | exact nMEq rfl | (unfold MEq; omega))).trans s0) ((h.1.2 _ _ _ _ (by first | exact nMEq rfl | (unfold MEq; omega))).trans s1)).le (Nat.le_of_ble_eq_true rfl) (fun v σ2 ⟨y, h1, h2, h3, h4⟩ => ⟨y, h1, h2, h.1.tr h3 MN_sub, gf_mk (fun z => Eq z F) (funext fun j => h3.2 _ _ _ _ (fun q => q)) (h.2.1), gf_mk (fun z => Eq z G) (funext fun j => h3.2 _ _ _ _ (fun q => q)) (h.2.2.1), trivial⟩)) (pc' := 6) rfl (fun y1 => ?_)
  refine G_ex (fun hy1 => ?_)
  refine T_st (L' := [(0, av 0 0 0), (1, iv p0), (2, iv p1), (3, iv p2), (4, iv p3), (5, iv p4), (6, iv y1)]) zk_85_6 (nL := 7) rfl rfl rfl rfl rfl (pc' := 8) rfl ?_
  refine T_ld zk_85_8 rfl rfl rfl (pc' := 10) rfl ?_
  refine T_if_eq zk_85_10 (by omega) (pc' := 13) rfl (fun h2 => ?_) (fun h3 => ?_)
  ·
    refine T_ld zk_85_20 rfl rfl rfl (pc' := 22) rfl ?_
    refine T_if_ge zk_85_22 (by omega) (pc' := 25) rfl (fun h4 => ?_) (fun h5 => ?_)
    ·
      refine T_ld zk_85_32 rfl rfl rfl (pc' := 33) rfl ?_
      refine T_getR (t' := 27) (i' := 0) (k' := 0) zk_85_33 rfl rfl rfl vd_0 (pc' := 36) rfl ?_
      refine T_ld zk_85_36 rfl rfl rfl (pc' := 37) rfl ?_
      refine G_aald (t' := 33) (im := 0) (i' := 0) (ln := 8) zk_85_37 rfl rfl rfl vd_27 (by omega) (by omega) (by omega) (pc' := 38) rfl ?_
      refine T_ld zk_85_38 rfl rfl rfl (pc' := 39) rfl ?_
      refine T_ld zk_85_39 rfl rfl rfl (pc' := 41) rfl ?_
      refine T_calli (K := fun y6 σ' => (y6 = 0 ∧ ¬ (0 ≤ p2 ∧ p2 + p4 ≤ v2) ∨ (y6 = 1 ∧ 0 ≤ p2 ∧ p2 + p4 ≤ v2)) ∧ (fun σ' => IF (MEq (Int.toNat p1)) σ σ' ∧ Eq (σ' 34 0 (Int.toNat p0)) F ∧ Eq (σ' 34 0 (Int.toNat p1)) G ∧ True) σ') (r := []) zk_85_41 rfl rfl rfl rfl rfl rfl (Or.inr ⟨_, _, _, _, rfl, (vd_33 (by omega)), rfl⟩) (fun σ' h => (s_68 (Int.toNat p0) p2 p4 v2 (by omega) (by omega) (by omega) (by omega) σ' h.1.1 ((h.1.2 _ _ _ _ (by first | exact nMEq rfl | (unfold MEq; omega))).trans t2)).le (Nat.le_of_ble_eq_true rfl) (fun v σ2 ⟨y, h1, h2, h3, h4⟩ => ⟨y, h1, h2, h.1.tr h3 MN_sub, gf_mk (fun z => Eq z F) (funext fun j => h3.2 _ _ _ _ (fun q => q)) (h.2.1), gf_mk (fun z => Eq z G) (funext fun j => h3.2 _ _ _ _ (fun q => q)) (h.2.2.1), trivial⟩)) (pc' := 44) rfl (fun y6 => ?_)
      refine G_ex (fun hy6 => ?_)
      refine T_if_eq zk_85_44 (by omega) (pc' := 47) rfl (fun h7 => ?_) (fun h8 => ?_)
      ·
        refine T_ld zk_85_63 rfl rfl rfl (pc' := 64) rfl ?_
        refine T_op zk_85_64 rfl (X_bi (v := -5) (by decide)) (pc' := 66) rfl ?_
        refine T_calli (K := fun y9 σ' => (y9 = (-5)) ∧ (fun σ' => IF (MEq (Int.toNat p1)) σ σ' ∧ Eq (σ' 34 0 (Int.toNat p0)) F ∧ Eq (σ' 34 0 (Int.toNat p1)) G ∧ True) σ') (r := []) zk_85_66 rfl rfl rfl rfl rfl rfl (Or.inr ⟨_, _, _, _, rfl, vd_0, rfl⟩) (fun σ' h => (w_113 ((-5)) (by omega) σ' h.1.1 ).le (Nat.le_of_ble_eq_true rfl) (fun v σ2 ⟨y, h1, h2, h3, h4⟩ => ⟨y, h1, h2, h.1.tr h3 (sb79_171b8ca (Int.toNat p1)), gf_mk (fun z => Eq z F) (funext fun j => h3.2 _ _ _ _ (by first | exact nMI rfl | (unfold MI; omega))) (h.2.1), gf_mk (fun z => Eq z G) (funext fun j => h3.2 _ _ _ _ (by first | exact nMI rfl | (unfold MI; omega))) (h.2.2.1), trivial⟩)) (pc' := 69) rfl (fun y9 => ?_)
        refine G_ex (fun hy9 => ?_)
        obtain rfl : y9 = (-5) := by omega
        exact T_iret zk_85_69 rfl (fun σ' h => ⟨_, rfl, (by omega), h.1, ⟨⟨fun q => by exfalso; omega, fun _ => h.2.2.1⟩, trivial⟩⟩)
      ·
        refine T_ld zk_85_47 rfl rfl rfl (pc' := 48) rfl ?_
        refine T_getR (t' := 27) (i' := 0) (k' := 0) zk_85_48 rfl rfl rfl vd_0 (pc' := 51) rfl ?_
        refine T_ld zk_85_51 rfl rfl rfl (pc' := 52) rfl ?_
        refine G_aald (t' := 33) (im := 0) (i' := 0) (ln := 8) zk_85_52 rfl rfl rfl vd_27 (by omega) (by omega) (by omega) (pc' := 53) rfl ?_
        refine T_ld zk_85_53 rfl rfl rfl (pc' := 55) rfl ?_
        refine T_ld zk_85_55 rfl rfl rfl (pc' := 57) rfl ?_
        refine T_calli (K := fun y10 σ' => (y10 = 0 ∧ ¬ (0 ≤ p3 ∧ p3 + p4 ≤ u2) ∨ (y10 = 1 ∧ 0 ≤ p3 ∧ p3 + p4 ≤ u2)) ∧ (fun σ' => IF (MEq (Int.toNat p1)) σ σ' ∧ Eq (σ' 34 0 (Int.toNat p0)) F ∧ Eq (σ' 34 0 (Int.toNat p1)) G ∧ True) σ') (r := []) zk_85_57 rfl rfl rfl rfl rfl rfl (Or.inr ⟨_, _, _, _, rfl, (vd_33 (by omega)), rfl⟩) (fun σ' h => (s_68 (Int.toNat p1) p3 p4 u2 (by omega) (by omega) (by omega) (by omega) σ' h.1.1 ((h.1.2 _ _ _ _ (by first | exact nMEq rfl | (unfold MEq; omega))).trans s2)).le (Nat.le_of_ble_eq_true rfl) (fun v σ2 ⟨y, h1, h2, h3, h4⟩ => ⟨y, h1, h2, h.1.tr h3 MN_sub, gf_mk (fun z => Eq z F) (funext fun j => h3.2 _ _ _ _ (fun q => q)) (h.2.1), gf_mk (fun z => Eq z G) (funext fun j => h3.2 _ _ _ _ (fun q => q)) (h.2.2.1), trivial⟩)) (pc' := 60) rfl (fun y10 => ?_)
        refine G_ex (fun hy10 => ?_)
        refine T_if_ne zk_85_60 (by omega) (pc' := 63) rfl (fun h11 => ?_) (fun h12 => ?_)
        ·
          refine T_ld zk_85_70 rfl rfl rfl (pc' := 71) rfl ?_
          refine T_getR (t' := 27) (i' := 0) (k' := 0) zk_85_71 rfl rfl rfl vd_0 (pc' := 74) rfl ?_
          refine T_ld zk_85_74 rfl rfl rfl (pc' := 75) rfl ?_
          refine G_aald (t' := 33) (im := 0) (i' := 0) (ln := 8) zk_85_75 rfl rfl rfl vd_27 (by omega) (by omega) (by omega) (pc' := 76) rfl ?_
          refine T_getR (t' := 34) (i' := 0) (k' := (Int.toNat p0)) zk_85_76 rfl rfl rfl (vd_33 (by omega)) (pc' := 79) rfl ?_
          refine T_ld zk_85_79 rfl rfl rfl (pc' := 80) rfl ?_
          refine T_ld zk_85_80 rfl rfl rfl (pc' := 81) rfl ?_
          refine T_getR (t' := 27) (i' := 0) (k' := 0) zk_85_81 rfl rfl rfl vd_0 (pc' := 84) rfl ?_
          refine T_ld zk_85_84 rfl rfl rfl (pc' := 85) rfl ?_
          refine G_aald (t' := 33) (im := 0) (i' := 0) (ln := 8) zk_85_85 rfl rfl rfl vd_27 (by omega) (by omega) (by omega) (pc' := 86) rfl ?_
          refine T_getR (t' := 34) (i' := 0) (k' := (Int.toNat p1)) zk_85_86 rfl rfl rfl (vd_33 (by omega)) (pc' := 89) rfl ?_
          refine T_ld zk_85_89 rfl rfl rfl (pc' := 91) rfl ?_
          refine T_ld zk_85_91 rfl rfl rfl (pc' := 93) rfl ?_
          refine G_copy (J' := (fun σ' => IF (MEq (Int.toNat p1)) σ σ' ∧ Eq (σ' 34 0 (Int.toNat p1)) (fcp F G (Int.toNat p2) (Int.toNat p3) (Int.toNat p4)) ∧ True)) (l0 := 96) (l1 := 96) (kk := 13) zk_85_93 rfl rfl (by decide) rfl rfl rfl rfl (vd_34 (by omega)) (vd_34 (by omega)) (by omega) (by omega) (by omega) (by omega) (by omega) (fun σ' h => ⟨h.1.cp (rg_cp (f := fun q => σ' 34 0 (Int.toNat p0) (Int.toNat p2 + q)) (fun _ _ _ h => h) (fun q => h.1.1 34 0 (Int.toNat p0) _ (vd_34 (by omega))) (fun j => h.1.1 34 0 (Int.toNat p1) j (vd_34 (by omega)))) (fun j => (by first | exact pMEq rfl | (unfold MEq; omega))), upr_row.trans (by unfold fcp; rw [show _ = _ from (h.2.1), show _ = _ from (h.2.2.1)]), trivial⟩) (pc' := 96) rfl ?_
          refine T_op zk_85_96 rfl X_ic (pc' := 97) rfl ?_
          exact T_iret zk_85_97 rfl (fun σ' h => ⟨_, rfl, (by omega), h.1, ⟨⟨fun _ => h.2.1, fun q => absurd rfl q⟩, trivial⟩⟩)
        ·
          refine T_ld zk_85_63 rfl rfl rfl (pc' := 64) rfl ?_
          refine T_op zk_85_64 rfl (X_bi (v := -5) (by decide)) (pc' := 66) rfl ?_
          refine T_calli (K := fun y13 σ' => (y13 = (-5)) ∧ (fun σ' => IF (MEq (Int.toNat p1)) σ σ' ∧ Eq (σ' 34 0 (Int.toNat p0)) F ∧ Eq (σ' 34 0 (Int.toNat p1)) G ∧ True) σ') (r := []) zk_85_66 rfl rfl rfl rfl rfl rfl (Or.inr ⟨_, _, _, _, rfl, vd_0, rfl⟩) (fun σ' h => (w_113 ((-5)) (by omega) σ' h.1.1 ).le (Nat.le_of_ble_eq_true rfl) (fun v σ2 ⟨y, h1, h2, h3, h4⟩ => ⟨y, h1, h2, h.1.tr h3 (sb79_171b8ca (Int.toNat p1)), gf_mk (fun z => Eq z F) (funext fun j => h3.2 _ _ _ _ (by first | exact nMI rfl | (unfold MI; omega))) (h.2.1), gf_mk (fun z => Eq z G) (funext fun j => h3.2 _ _ _ _ (by first | exact nMI rfl | (unfold MI; omega))) (h.2.2.1), trivial⟩)) (pc' := 69) rfl (fun y13 => ?_)
          refine G_ex (fun hy13 => ?_)
          obtain rfl : y13 = (-5) := by omega
          exact T_iret zk_85_69 rfl (fun σ' h => ⟨_, rfl, (by omega), h.1, ⟨⟨fun q => by exfalso; omega, fun _ => h.2.2.1⟩, trivial⟩⟩)
    ·
      refine T_ld zk_85_25 rfl rfl rfl (pc' := 26) rfl ?_
      refine T_op zk_85_26 rfl (X_bi (v := -4) (by decide)) (pc' := 28) rfl ?_
      refine T_calli (K := fun y14 σ' => (y14 = (-4)) ∧ (fun σ' => IF (MEq (Int.toNat p1)) σ σ' ∧ Eq (σ' 34 0 (Int.toNat p0)) F ∧ Eq (σ' 34 0 (Int.toNat p1)) G ∧ True) σ') (r := []) zk_85_28 rfl rfl rfl rfl rfl rfl (Or.inr ⟨_, _, _, _, rfl, vd_0, rfl⟩) (fun σ' h => (w_113 ((-4)) (by omega) σ' h.1.1 ).le (Nat.le_of_ble_eq_true rfl) (fun v σ2 ⟨y, h1, h2, h3, h4⟩ => ⟨y, h1, h2, h.1.tr h3 (sb79_171b8ca (Int.toNat p1)), gf_mk (fun z => Eq z F) (funext fun j => h3.2 _ _ _ _ (by first | exact nMI rfl | (unfold MI; omega))) (h.2.1), gf_mk (fun z => Eq z G) (funext fun j => h3.2 _ _ _ _ (by first | exact nMI rfl | (unfold MI; omega))) (h.2.2.1), trivial⟩)) (pc' := 31) rfl (fun y14 => ?_)
      refine G_ex (fun hy14 => ?_)
      obtain rfl : y14 = (-4) := by omega
      exact T_iret zk_85_31 rfl (fun σ' h => ⟨_, rfl, (by omega), h.1, ⟨⟨fun q => by exfalso; omega, fun _ => h.2.2.1⟩, trivial⟩⟩)
  ·
    refine T_ld zk_85_13 rfl rfl rfl (pc' := 14) rfl ?_
    refine T_ld zk_85_14 rfl rfl rfl (pc' := 16) rfl ?_
    refine T_calli (K := fun y15 σ' => (y15 = y1) ∧ (fun σ' => IF (MEq (Int.toNat p1)) σ σ' ∧ Eq (σ' 34 0 (Int.toNat p0)) F ∧ Eq (σ' 34 0 (Int.toNat p1)) G ∧ True) σ') (r := []) zk_85_16 rfl rfl rfl rfl rfl rfl (Or.inr ⟨_, _, _, _, rfl, vd_0, rfl⟩) (fun σ' h => (w_113 y1 (by omega) σ' h.1.1 ).le (Nat.le_of_ble_eq_true rfl) (fun v σ2 ⟨y, h1, h2, h3, h4⟩ => ⟨y, h1, h2, h.1.tr h3 (sb79_171b8ca (Int.toNat p1)), gf_mk (fun z => Eq z F) (funext fun j => h3.2 _ _ _ _ (by first | exact nMI rfl | (unfold MI; omega))) (h.2.1), gf_mk (fun z => Eq z G) (funext fun j => h3.2 _ _ _ _ (by first | exact nMI rfl | (unfold MI; omega))) (h.2.2.1), trivial⟩)) (pc' := 19) rfl (fun y15 => ?_)
    refine G_ex (fun hy15 => ?_)
    obtain rfl : y15 = y1 := by omega
    exact T_iret zk_85_19 rfl (fun σ' h => ⟨_, rfl, (by omega), h.1, ⟨⟨fun q => by exfalso; omega, fun _ => h.2.2.1⟩, trivial⟩⟩)
/-- WModel.row -/
theorem r_135e {xs : Nat × (Nat → Int32)} (p0 : Int) (p1 : Int) (p2 : Int) (u3 : Int) (hp0 : 0 ≤ p0 ∧ p0 ≤ 7) (hp1 : 0 ≤ p1 ∧ p1 ≤ 3) (hp2 : 0 ≤ p2 ∧ p2 ≤ 96) (hu3 : -1 ≤ u3 ∧ u3 ≤ 11) (σ : ZS) (hI : Inv σ)  (s3 : σ 40 0 0 (Int.toNat p0) = u3) : CT xs 2 135 [av 35 0 0, iv p0, iv p1, iv p2] σ (fun v σ' => ∃ y, v = some (iv y) ∧ (y = 1) ∧ IF (MEb (Int.toNat p0)) σ σ' ∧ (σ' 37 0 0 (Int.toNat p0) = 1 ∧ σ' 38 0 0 (Int.toNat p0) = p1 ∧ σ' 39 0 0 (Int.toNat p0) = p2 ∧ σ' 40 0 0 (Int.toNat p0) = u3 ∧ eqo (Int.toNat (96 * p0)) zf (σ' 41 0 0) 96 ∧ True)) := by
  refine G_ct (J := (fun σ' => IF (MEb (Int.toNat p0)) σ σ' ∧ σ' 40 0 0 (Int.toNat p0) = u3 ∧ True)) (L := [(0, av 35 0 0), (1, iv p0), (2, iv p1), (3, iv p2)]) (nL := 5) rfl rfl rfl ⟨IF.rf hI, s3, trivial⟩ ?_
  refine T_ld zk_135_0 rfl rfl rfl (pc' := 1) rfl ?_
  refine T_calli (K := fun y1 σ' => ((y1 = 0 ∧ (p0 < 0 ∨ 7 < p0)) ∨ (y1 = 1 ∧ 0 ≤ p0 ∧ p0 ≤ 7)) ∧ (fun σ' => IF (MEb (Int.toNat p0)) σ σ' ∧ σ' 40 0 0 (Int.toNat p0) = u3 ∧ True) σ') (r := []) zk_135_1 rfl rfl rfl rfl rfl rfl (Or.inl (Or.inl rfl)) (fun σ' h => (m_125 p0 (by omega) σ' h.1.1 ).le (Nat.le_of_ble_eq_true rfl) (fun v σ2 ⟨y, h1, h2, h3, h4⟩ => ⟨y, h1, h2, h.1.tr h3 MN_sub, (h3.2 _ _ _ _ (fun q => q)).trans (h.2.1), trivial⟩)) (pc' := 4) rfl (fun y1 => ?_)
  refine G_ex (fun hy1 => ?_)
  refine T_if_ne zk_135_4 (by omega) (pc' := 7) rfl (fun h2 => ?_) (fun h3 => ?_)
  ·
    refine T_ld zk_135_13 rfl rfl rfl (pc' := 14) rfl ?_
    refine T_if_ge zk_135_14 (by omega) (pc' := 17) rfl (fun h4 => ?_) (fun h5 => ?_)
    ·
      refine T_ld zk_135_24 rfl rfl rfl (pc' := 25) rfl ?_
      refine T_if_lt zk_135_25 (by omega) (pc' := 28) rfl (fun h6 => ?_) (fun h7 => ?_)
      · exfalso; omega
      ·
        refine T_ld zk_135_28 rfl rfl rfl (pc' := 29) rfl ?_
        refine T_op zk_135_29 rfl X_ic (pc' := 30) rfl ?_
        refine T_icmp_le zk_135_30 (by omega) (by omega) (pc' := 33) rfl (fun h8 => ?_) (fun h9 => ?_)
        ·
          refine T_ld zk_135_40 rfl rfl rfl (pc' := 41) rfl ?_
          refine T_op zk_135_41 rfl (X_bi (v := 96) (by decide)) (pc' := 43) rfl ?_
          refine T_icmp_le zk_135_43 (by omega) (by omega) (pc' := 46) rfl (fun h10 => ?_) (fun h11 => ?_)
          ·
            refine T_ld zk_135_53 rfl rfl rfl (pc' := 54) rfl ?_
            refine T_getR (t' := 37) (i' := 0) (k' := 0) zk_135_54 rfl rfl rfl vd_35 (pc' := 57) rfl ?_
            refine T_ld zk_135_57 rfl rfl rfl (pc' := 58) rfl ?_
            refine T_op zk_135_58 rfl X_ic (pc' := 59) rfl ?_
            refine G_iast (J' := (fun σ' => IF (MEb (Int.toNat p0)) σ σ' ∧ σ' 40 0 0 (Int.toNat p0) = u3 ∧ σ' 37 0 0 (Int.toNat p0) = 1 ∧ True)) (ln := 8) zk_135_59 rfl rfl vd_37 (by omega) (by omega) (by omega) (fun σ' h => ⟨h.1.up (by simp only [rgP] <;> omega) (by first | exact pMEb rfl | (unfold MEb; omega)), (up_ne (by omega)).trans (h.2.1), up_eq, trivial⟩) (pc' := 60) rfl ?_
            refine T_ld zk_135_60 rfl rfl rfl (pc' := 61) rfl ?_
            refine T_getR (t' := 38) (i' := 0) (k' := 0) zk_135_61 rfl rfl rfl vd_35 (pc' := 64) rfl ?_
            refine T_ld zk_135_64 rfl rfl rfl (pc' := 65) rfl ?_
            refine T_ld zk_135_65 rfl rfl rfl (pc' := 66) rfl ?_
            refine G_iast (J' := (fun σ' => IF (MEb (Int.toNat p0)) σ σ' ∧ σ' 40 0 0 (Int.toNat p0) = u3 ∧ σ' 37 0 0 (Int.toNat p0) = 1 ∧ σ' 38 0 0 (Int.toNat p0) = p1 ∧ True)) (ln := 8) zk_135_66 rfl rfl vd_38 (by omega) (by omega) (by omega) (fun σ' h => ⟨h.1.up (by simp only [rgP] <;> omega) (by first | exact pMEb rfl | (unfold MEb; omega)), (up_ne (by omega)).trans (h.2.1), (up_ne (by omega)).trans (h.2.2.1), up_eq, trivial⟩) (pc' := 67) rfl ?_
            refine T_ld zk_135_67 rfl rfl rfl (pc' := 68) rfl ?_
            refine T_getR (t' := 39) (i' := 0) (k' := 0) zk_135_68 rfl rfl rfl vd_35 (pc' := 71) rfl ?_
            refine T_ld zk_135_71 rfl rfl rfl (pc' := 72) rfl ?_
            refine T_ld zk_135_72 rfl rfl rfl (pc' := 73) rfl ?_
            refine G_iast (J' := (fun σ' => IF (MEb (Int.toNat p0)) σ σ' ∧ σ' 40 0 0 (Int.toNat p0) = u3 ∧ σ' 37 0 0 (Int.toNat p0) = 1 ∧ σ' 38 0 0 (Int.toNat p0) = p1 ∧ σ' 39 0 0 (Int.toNat p0) = p2 ∧ True)) (ln := 8) zk_135_73 rfl rfl vd_39 (by omega) (by omega) (by omega) (fun σ' h => ⟨h.1.up (by simp only [rgP] <;> omega) (by first | exact pMEb rfl | (unfold MEb; omega)), (up_ne (by omega)).trans (h.2.1), (up_ne (by omega)).trans (h.2.2.1), (up_ne (by omega)).trans (h.2.2.2.1), up_eq, trivial⟩) (pc' := 74) rfl ?_
            refine T_op zk_135_74 rfl X_ic (pc' := 75) rfl ?_
            refine G_know (J' := (fun σ' => IF (MEb (Int.toNat p0)) σ σ' ∧ σ' 40 0 0 (Int.toNat p0) = u3 ∧ σ' 37 0 0 (Int.toNat p0) = 1 ∧ σ' 38 0 0 (Int.toNat p0) = p1 ∧ σ' 39 0 0 (Int.toNat p0) = p2 ∧ eqo (Int.toNat (96 * p0)) zf (σ' 41 0 0) (Int.toNat 0) ∧ True)) (fun σ' h => ⟨h.1, h.2.1, h.2.2.1, h.2.2.2.1, h.2.2.2.2.1, (fun j hj => by simp at hj), trivial⟩) ?_
            refine T_st (L' := [(0, av 35 0 0), (1, iv p0), (2, iv p1), (3, iv p2), (4, iv 0)]) zk_135_75 (nL := 5) rfl rfl rfl rfl rfl (pc' := 77) rfl ?_
            refine G_know (J' := (fun σ' => IF (MEb (Int.toNat p0)) σ σ' ∧ σ' 37 0 0 (Int.toNat p0) = 1 ∧ σ' 38 0 0 (Int.toNat p0) = p1 ∧ σ' 39 0 0 (Int.toNat p0) = p2 ∧ σ' 40 0 0 (Int.toNat p0) = u3 ∧ eqo (Int.toNat (96 * p0)) zf (σ' 41 0 0) (Int.toNat 0) ∧ True)) (fun σ' h => ⟨h.1, h.2.2.1, h.2.2.2.1, h.2.2.2.2.1, h.2.1, h.2.2.2.2.2.1, trivial⟩) ?_
            refine T_loop1 (fun x12 => ((96 - x12 : Int)).toNat) (fun x12 => (0 ≤ x12 ∧ x12 ≤ 96)) (fun x12 => TJ xs (fun σ' => IF (MEb (Int.toNat p0)) σ σ' ∧ σ' 37 0 0 (Int.toNat p0) = 1 ∧ σ' 38 0 0 (Int.toNat p0) = p1 ∧ σ' 39 0 0 (Int.toNat p0) = p2 ∧ σ' 40 0 0 (Int.toNat p0) = u3 ∧ eqo (Int.toNat (96 * p0)) zf (σ' 41 0 0) (Int.toNat x12) ∧ True) 1 135 77 [(0, av 35 0 0), (1, iv p0), (2, iv p1), (3, iv p2), (4, iv x12)] [] _) ?_ 0 (by omega)
            intro x12 hp14 ih13
            refine T_ld zk_135_77 rfl rfl rfl (pc' := 79) rfl ?_
            refine T_op zk_135_79 rfl (X_bi (v := 96) (by decide)) (pc' := 81) rfl ?_
            refine T_icmp_ge zk_135_81 (by omega) (by omega) (pc' := 84) rfl (fun h15 => ?_) (fun h16 => ?_)
            ·
              refine T_op zk_135_103 rfl X_ic (pc' := 104) rfl ?_
              exact T_iret zk_135_104 rfl (fun σ' h => ⟨_, rfl, (by omega), h.1, ⟨h.2.1, h.2.2.1, h.2.2.2.1, h.2.2.2.2.1, (eqo_le (h.2.2.2.2.2.1) (by omega)), trivial⟩⟩)
            ·
              refine T_ld zk_135_84 rfl rfl rfl (pc' := 85) rfl ?_
              refine T_getR (t' := 41) (i' := 0) (k' := 0) zk_135_85 rfl rfl rfl vd_35 (pc' := 88) rfl ?_
              refine T_op zk_135_88 rfl (X_bi (v := 96) (by decide)) (pc' := 90) rfl ?_
              refine T_ld zk_135_90 rfl rfl rfl (pc' := 91) rfl ?_
              refine T_op zk_135_91 rfl X_mul (pc' := 92) rfl ?_
              refine T_ld zk_135_92 rfl rfl rfl (pc' := 94) rfl ?_
              refine T_op zk_135_94 rfl X_add (pc' := 95) rfl ?_
              refine T_op zk_135_95 rfl (X_lc (v := 0) (by decide)) (pc' := 96) rfl ?_
              refine G_last (J' := (fun σ' => IF (MEb (Int.toNat p0)) σ σ' ∧ σ' 37 0 0 (Int.toNat p0) = 1 ∧ σ' 38 0 0 (Int.toNat p0) = p1 ∧ σ' 39 0 0 (Int.toNat p0) = p2 ∧ σ' 40 0 0 (Int.toNat p0) = u3 ∧ eqo (Int.toNat (96 * p0)) zf (σ' 41 0 0) (Int.toNat (x12 + 1)) ∧ True)) (ln := 768) zk_135_96 rfl rfl vd_41 (by omega) (by omega) (by omega) (fun σ' h => ⟨h.1.up ⟨by omega, trivial⟩ (by first | exact pMEb rfl | (unfold MEb; omega)), (up_ne (by omega)).trans (h.2.1), (up_ne (by omega)).trans (h.2.2.1), (up_ne (by omega)).trans (h.2.2.2.1), (up_ne (by omega)).trans (h.2.2.2.2.1), eqo_push (h.2.2.2.2.2.1) (by omega) (by omega) rfl, trivial⟩) (pc' := 97) rfl ?_
              refine T_iinc (L' := [(0, av 35 0 0), (1, iv p0), (2, iv p1), (3, iv p2), (4, iv (x12 + 1))]) zk_135_97 (nL := 5) rfl rfl rfl rfl (pc' := 100) rfl ?_
              refine T_goto zk_135_100 ?_
              exact ih13 (x12 + 1) (by omega) (by omega)
          · exfalso; omega
        · exfalso; omega
    · exfalso; omega
  ·
    refine T_ld zk_135_7 rfl rfl rfl (pc' := 8) rfl ?_
    refine T_op zk_135_8 rfl X_ic (pc' := 9) rfl ?_
    refine T_calli (K := fun y17 σ' => (y17 = (-1)) ∧ (fun σ' => IF (MEb (Int.toNat p0)) σ σ' ∧ σ' 40 0 0 (Int.toNat p0) = u3 ∧ True) σ') (r := []) zk_135_9 rfl rfl rfl rfl rfl rfl (Or.inr ⟨_, _, _, _, rfl, vd_35, rfl⟩) (fun σ' h => (m_123 ((-1)) (by omega) σ' h.1.1 ).le (Nat.le_of_ble_eq_true rfl) (fun v σ2 ⟨y, h1, h2, h3, h4⟩ => ⟨y, h1, h2, h.1.tr h3 (fun t i k j h => by unfold MT at h; unfold MEb; omega), (h3.2 _ _ _ _ (by first | exact nMT rfl | (unfold MT; omega))).trans (h.2.1), trivial⟩)) (pc' := 12) rfl (fun y17 => ?_)
    refine G_ex (fun hy17 => ?_)
    obtain rfl : y17 = (-1) := by omega
    exfalso; omega
/-- WModel.row -/
theorem r_135f {xs : Nat × (Nat → Int32)} (p0 : Int) (p1 : Int) (p2 : Int) (hp0 : -2147483648 ≤ p0 ∧ p0 ≤ 2147483647) (hp1 : -2147483648 ≤ p1 ∧ p1 ≤ 2147483647) (hp2 : -2147483648 ≤ p2 ∧ p2 ≤ 2147483647) (ho : (p0 < 0 ∨ 7 < p0) ∨ p2 < 0 ∨ (p1 < 0 ∨ 3 < p1) ∨ 96 < p2) (σ : ZS) (hI : Inv σ)   : CT xs 2 135 [av 35 0 0, iv p0, iv p1, iv p2] σ (fun v σ' => ∃ y, v = some (iv y) ∧ (y < 0) ∧ IF (MT 49 49 49 49) σ σ' ∧ (True)) := by
  refine G_ct (J := (fun σ' => IF (MT 49 49 49 49) σ σ' ∧ True)) (L := [(0, av 35 0 0), (1, iv p0), (2, iv p1), (3, iv p2)]) (nL := 5) rfl rfl rfl ⟨IF.rf hI, trivial⟩ ?_
  refine T_ld zk_135_0 rfl rfl rfl (pc' := 1) rfl ?_
  refine T_calli (K := fun y1 σ' => ((y1 = 0 ∧ (p0 < 0 ∨ 7 < p0)) ∨ (y1 = 1 ∧ 0 ≤ p0 ∧ p0 ≤ 7)) ∧ (fun σ' => IF (MT 49 49 49 49) σ σ' ∧ True) σ') (r := []) zk_135_1 rfl rfl rfl rfl rfl rfl (Or.inl (Or.inl rfl)) (fun σ' h => (m_125 p0 (by omega) σ' h.1.1 ).le (Nat.le_of_ble_eq_true rfl) (fun v σ2 ⟨y, h1, h2, h3, h4⟩ => ⟨y, h1, h2, h.1.tr h3 MN_sub, trivial⟩)) (pc' := 4) rfl (fun y1 => ?_)
  refine G_ex (fun hy1 => ?_)
  refine T_if_ne zk_135_4 (by omega) (pc' := 7) rfl (fun h2 => ?_) (fun h3 => ?_)
  ·
    refine T_ld zk_135_13 rfl rfl rfl (pc' := 14) rfl ?_
    refine T_if_ge zk_135_14 (by omega) (pc' := 17) rfl (fun h4 => ?_) (fun h5 => ?_)
    ·
      refine T_ld zk_135_24 rfl rfl rfl (pc' := 25) rfl ?_
      refine T_if_lt zk_135_25 (by omega) (pc' := 28) rfl (fun h6 => ?_) (fun h7 => ?_)
      ·
        refine T_ld zk_135_33 rfl rfl rfl (pc' := 34) rfl ?_
        refine T_op zk_135_34 rfl (X_bi (v := -6) (by decide)) (pc' := 36) rfl ?_
        refine T_calli (K := fun y8 σ' => (y8 = (-6)) ∧ (fun σ' => IF (MT 49 49 49 49) σ σ' ∧ True) σ') (r := []) zk_135_36 rfl rfl rfl rfl rfl rfl (Or.inr ⟨_, _, _, _, rfl, vd_35, rfl⟩) (fun σ' h => (m_123 ((-6)) (by omega) σ' h.1.1 ).le (Nat.le_of_ble_eq_true rfl) (fun v σ2 ⟨y, h1, h2, h3, h4⟩ => ⟨y, h1, h2, h.1.tr h3 (fun _ _ _ _ h => h), trivial⟩)) (pc' := 39) rfl (fun y8 => ?_)
        refine G_ex (fun hy8 => ?_)
        obtain rfl : y8 = (-6) := by omega
        exact T_iret zk_135_39 rfl (fun σ' h => ⟨_, rfl, (by omega), h.1, trivial⟩)
      ·
        refine T_ld zk_135_28 rfl rfl rfl (pc' := 29) rfl ?_
        refine T_op zk_135_29 rfl X_ic (pc' := 30) rfl ?_
        refine T_icmp_le zk_135_30 (by omega) (by omega) (pc' := 33) rfl (fun h9 => ?_) (fun h10 => ?_)
        ·
          refine T_ld zk_135_40 rfl rfl rfl (pc' := 41) rfl ?_
          refine T_op zk_135_41 rfl (X_bi (v := 96) (by decide)) (pc' := 43) rfl ?_
          refine T_icmp_le zk_135_43 (by omega) (by omega) (pc' := 46) rfl (fun h11 => ?_) (fun h12 => ?_)
          · exfalso; omega
          ·
            refine T_ld zk_135_46 rfl rfl rfl (pc' := 47) rfl ?_
            refine T_op zk_135_47 rfl (X_bi (v := -7) (by decide)) (pc' := 49) rfl ?_
            refine T_calli (K := fun y13 σ' => (y13 = (-7)) ∧ (fun σ' => IF (MT 49 49 49 49) σ σ' ∧ True) σ') (r := []) zk_135_49 rfl rfl rfl rfl rfl rfl (Or.inr ⟨_, _, _, _, rfl, vd_35, rfl⟩) (fun σ' h => (m_123 ((-7)) (by omega) σ' h.1.1 ).le (Nat.le_of_ble_eq_true rfl) (fun v σ2 ⟨y, h1, h2, h3, h4⟩ => ⟨y, h1, h2, h.1.tr h3 (fun _ _ _ _ h => h), trivial⟩)) (pc' := 52) rfl (fun y13 => ?_)
            refine G_ex (fun hy13 => ?_)
            obtain rfl : y13 = (-7) := by omega
            exact T_iret zk_135_52 rfl (fun σ' h => ⟨_, rfl, (by omega), h.1, trivial⟩)
        ·
          refine T_ld zk_135_33 rfl rfl rfl (pc' := 34) rfl ?_
          refine T_op zk_135_34 rfl (X_bi (v := -6) (by decide)) (pc' := 36) rfl ?_
          refine T_calli (K := fun y14 σ' => (y14 = (-6)) ∧ (fun σ' => IF (MT 49 49 49 49) σ σ' ∧ True) σ') (r := []) zk_135_36 rfl rfl rfl rfl rfl rfl (Or.inr ⟨_, _, _, _, rfl, vd_35, rfl⟩) (fun σ' h => (m_123 ((-6)) (by omega) σ' h.1.1 ).le (Nat.le_of_ble_eq_true rfl) (fun v σ2 ⟨y, h1, h2, h3, h4⟩ => ⟨y, h1, h2, h.1.tr h3 (fun _ _ _ _ h => h), trivial⟩)) (pc' := 39) rfl (fun y14 => ?_)
          refine G_ex (fun hy14 => ?_)
          obtain rfl : y14 = (-6) := by omega
          exact T_iret zk_135_39 rfl (fun σ' h => ⟨_, rfl, (by omega), h.1, trivial⟩)
    ·
      refine T_ld zk_135_17 rfl rfl rfl (pc' := 18) rfl ?_
      refine T_op zk_135_18 rfl (X_bi (v := -4) (by decide)) (pc' := 20) rfl ?_
      refine T_calli (K := fun y15 σ' => (y15 = (-4)) ∧ (fun σ' => IF (MT 49 49 49 49) σ σ' ∧ True) σ') (r := []) zk_135_20 rfl rfl rfl rfl rfl rfl (Or.inr ⟨_, _, _, _, rfl, vd_35, rfl⟩) (fun σ' h => (m_123 ((-4)) (by omega) σ' h.1.1 ).le (Nat.le_of_ble_eq_true rfl) (fun v σ2 ⟨y, h1, h2, h3, h4⟩ => ⟨y, h1, h2, h.1.tr h3 (fun _ _ _ _ h => h), trivial⟩)) (pc' := 23) rfl (fun y15 => ?_)
      refine G_ex (fun hy15 => ?_)
      obtain rfl : y15 = (-4) := by omega
      exact T_iret zk_135_23 rfl (fun σ' h => ⟨_, rfl, (by omega), h.1, trivial⟩)
  ·
    refine T_ld zk_135_7 rfl rfl rfl (pc' := 8) rfl ?_
    refine T_op zk_135_8 rfl X_ic (pc' := 9) rfl ?_
    refine T_calli (K := fun y16 σ' => (y16 = (-1)) ∧ (fun σ' => IF (MT 49 49 49 49) σ σ' ∧ True) σ') (r := []) zk_135_9 rfl rfl rfl rfl rfl rfl (Or.inr ⟨_, _, _, _, rfl, vd_35, rfl⟩) (fun σ' h => (m_123 ((-1)) (by omega) σ' h.1.1 ).le (Nat.le_of_ble_eq_true rfl) (fun v σ2 ⟨y, h1, h2, h3, h4⟩ => ⟨y, h1, h2, h.1.tr h3 (fun _ _ _ _ h => h), trivial⟩)) (pc' := 12) rfl (fun y16 => ?_)
    refine G_ex (fun hy16 => ?_)
    obtain rfl : y16 = (-1) := by omega
    exact T_iret zk_135_12 rfl (fun σ' h => ⟨_, rfl, (by omega), h.1, trivial⟩)
theorem sb79_3cc3e38 (v0 : Nat) : ∀ t i k j, MT 49 49 49 49 t i k j → MEc v0 t i k j := by
  intro t i k j h
  unfold MT at h
  unfold MEc
  omega
/-- WModel.set -/
theorem r_136e {xs : Nat × (Nat → Int32)} (p0 : Int) (p1 : Int) (vv : Int) (u0 : Int) (u1 : Int) (u2 : Int) (a : Int) (hp0 : 0 ≤ p0 ∧ p0 ≤ 7) (hp1 : -2147483648 ≤ p1 ∧ p1 ≤ 2147483647) (hu0 : 0 ≤ u0 ∧ u0 ≤ 2) (hu1 : 0 ≤ u1 ∧ u1 ≤ 3) (hu2 : 0 ≤ u2 ∧ u2 ≤ 96) (σ : ZS) (hI : Inv σ)  (s0 : σ 37 0 0 (Int.toNat p0) = u0) (s1 : σ 38 0 0 (Int.toNat p0) = u1) (s2 : σ 39 0 0 (Int.toNat p0) = u2) (sa : σ 41 0 0 (Int.toNat (96 * p0 + p1)) = a) : CT xs 2 136 [av 35 0 0, iv p0, iv p1, jv vv] σ (fun v σ' => ∃ y, v = some (iv y) ∧ ((y = -2 ∧ (u0 = 2)) ∨ (y = -3 ∧ ¬ (u0 = 2) ∧ (u0 = 0)) ∨ (y = -5 ∧ ¬ (u0 = 2) ∧ ¬ (u0 = 0) ∧ (¬ (0 ≤ p1 ∧ p1 < u2))) ∨ (y = 1 ∧ ¬ (u0 = 2) ∧ ¬ (u0 = 0) ∧ ¬ (¬ (0 ≤ p1 ∧ p1 < u2)))) ∧ IF (MEc (Int.toNat (96 * p0 + p1))) σ σ' ∧ (((y = 1 → σ' 41 0 0 (Int.toNat (96 * p0 + p1)) = cv u1 vv) ∧ (¬ y = 1 → σ' 41 0 0 (Int.toNat (96 * p0 + p1)) = a)) ∧ True)) := by
  refine G_ct (J := (fun σ' => IF (MEc (Int.toNat (96 * p0 + p1))) σ σ' ∧ σ' 41 0 0 (Int.toNat (96 * p0 + p1)) = a ∧ True)) (L := [(0, av 35 0 0), (1, iv p0), (2, iv p1), (3, jv vv)]) (nL := 5) rfl rfl rfl ⟨IF.rf hI, sa, trivial⟩ ?_
  have hcv := cv_spec u1 vv
  refine T_ld zk_136_0 rfl rfl rfl (pc' := 1) rfl ?_
  refine T_calli (K := fun y1 σ' => ((y1 = 0 ∧ (p0 < 0 ∨ 7 < p0)) ∨ (y1 = 1 ∧ 0 ≤ p0 ∧ p0 ≤ 7)) ∧ (fun σ' => IF (MEc (Int.toNat (96 * p0 + p1))) σ σ' ∧ σ' 41 0 0 (Int.toNat (96 * p0 + p1)) = a ∧ True) σ') (r := []) zk_136_1 rfl rfl rfl rfl rfl rfl (Or.inl (Or.inl rfl)) (fun σ' h => (m_125 p0 (by omega) σ' h.1.1 ).le (Nat.le_of_ble_eq_true rfl) (fun v σ2 ⟨y, h1, h2, h3, h4⟩ => ⟨y, h1, h2, h.1.tr h3 MN_sub, (h3.2 _ _ _ _ (fun q => q)).trans (h.2.1), trivial⟩)) (pc' := 4) rfl (fun y1 => ?_)
  refine G_ex (fun hy1 => ?_)
  refine T_if_ne zk_136_4 (by omega) (pc' := 7) rfl (fun h2 => ?_) (fun h3 => ?_)
  ·
    refine T_ld zk_136_13 rfl rfl rfl (pc' := 14) rfl ?_
    refine T_getR (t' := 37) (i' := 0) (k' := 0) zk_136_14 rfl rfl rfl vd_35 (pc' := 17) rfl ?_
    refine T_ld zk_136_17 rfl rfl rfl (pc' := 18) rfl ?_
    refine G_ialdX (w := u0) (ln := 8) zk_136_18 rfl rfl vd_37 (by omega) (by omega) (by omega) (fun σ' h => (h.1.2 _ _ _ _ (by first | exact nMEc rfl | (unfold MEc; omega))).trans s0) (pc' := 19) rfl ?_
    refine T_op zk_136_19 rfl X_ic (pc' := 20) rfl ?_
    refine T_icmp_ne zk_136_20 (by omega) (by omega) (pc' := 23) rfl (fun h4 => ?_) (fun h5 => ?_)
    ·
      refine T_ld zk_136_30 rfl rfl rfl (pc' := 31) rfl ?_
      refine T_getR (t' := 37) (i' := 0) (k' := 0) zk_136_31 rfl rfl rfl vd_35 (pc' := 34) rfl ?_
      refine T_ld zk_136_34 rfl rfl rfl (pc' := 35) rfl ?_
      refine G_ialdX (w := u0) (ln := 8) zk_136_35 rfl rfl vd_37 (by omega) (by omega) (by omega) (fun σ' h => (h.1.2 _ _ _ _ (by first | exact nMEc rfl | (unfold MEc; omega))).trans s0) (pc' := 36) rfl ?_
      refine T_if_ne zk_136_36 (by omega) (pc' := 39) rfl (fun h6 => ?_) (fun h7 => ?_)
      ·
        refine T_ld zk_136_46 rfl rfl rfl (pc' := 47) rfl ?_
        refine T_if_lt zk_136_47 (by omega) (pc' := 50) rfl (fun h8 => ?_) (fun h9 => ?_)
        ·
          refine T_ld zk_136_60 rfl rfl rfl (pc' := 61) rfl ?_
          refine T_op zk_136_61 rfl (X_bi (v := -5) (by decide)) (pc' := 63) rfl ?_
          refine T_calli (K := fun y10 σ' => (y10 = (-5)) ∧ (fun σ' => IF (MEc (Int.toNat (96 * p0 + p1))) σ σ' ∧ σ' 41 0 0 (Int.toNat (96 * p0 + p1)) = a ∧ True) σ') (r := []) zk_136_63 rfl rfl rfl rfl rfl rfl (Or.inr ⟨_, _, _, _, rfl, vd_35, rfl⟩) (fun σ' h => (m_123 ((-5)) (by omega) σ' h.1.1 ).le (Nat.le_of_ble_eq_true rfl) (fun v σ2 ⟨y, h1, h2, h3, h4⟩ => ⟨y, h1, h2, h.1.tr h3 (sb79_3cc3e38 (Int.toNat (96 * p0 + p1))), (h3.2 _ _ _ _ (by first | exact nMT rfl | (unfold MT; omega))).trans (h.2.1), trivial⟩)) (pc' := 66) rfl (fun y10 => ?_)
          refine G_ex (fun hy10 => ?_)
          obtain rfl : y10 = (-5) := by omega
          exact T_iret zk_136_66 rfl (fun σ' h => ⟨_, rfl, (by omega), h.1, ⟨(by have e := h.2.1; omega), trivial⟩⟩)
        ·
          refine T_ld zk_136_50 rfl rfl rfl (pc' := 51) rfl ?_
          refine T_ld zk_136_51 rfl rfl rfl (pc' := 52) rfl ?_
          refine T_getR (t' := 39) (i' := 0) (k' := 0) zk_136_52 rfl rfl rfl vd_35 (pc' := 55) rfl ?_
          refine T_ld zk_136_55 rfl rfl rfl (pc' := 56) rfl ?_
          refine G_ialdX (w := u2) (ln := 8) zk_136_56 rfl rfl vd_39 (by omega) (by omega) (by omega) (fun σ' h => (h.1.2 _ _ _ _ (by first | exact nMEc rfl | (unfold MEc; omega))).trans s2) (pc' := 57) rfl ?_
          refine T_icmp_lt zk_136_57 (by omega) (by omega) (pc' := 60) rfl (fun h11 => ?_) (fun h12 => ?_)
          ·
            refine T_ld zk_136_67 rfl rfl rfl (pc' := 68) rfl ?_
            refine T_getR (t' := 41) (i' := 0) (k' := 0) zk_136_68 rfl rfl rfl vd_35 (pc' := 71) rfl ?_
            refine T_op zk_136_71 rfl (X_bi (v := 96) (by decide)) (pc' := 73) rfl ?_
            refine T_ld zk_136_73 rfl rfl rfl (pc' := 74) rfl ?_
            refine T_op zk_136_74 rfl X_mul (pc' := 75) rfl ?_
            refine T_ld zk_136_75 rfl rfl rfl (pc' := 76) rfl ?_
            refine T_op zk_136_76 rfl X_add (pc' := 77) rfl ?_
            refine T_ld zk_136_77 rfl rfl rfl (pc' := 78) rfl ?_
            refine T_getR (t' := 38) (i' := 0) (k' := 0) zk_136_78 rfl rfl rfl vd_35 (pc' := 81) rfl ?_
            refine T_ld zk_136_81 rfl rfl rfl (pc' := 82) rfl ?_
            refine G_ialdX (w := u1) (ln := 8) zk_136_82 rfl rfl vd_38 (by omega) (by omega) (by omega) (fun σ' h => (h.1.2 _ _ _ _ (by first | exact nMEc rfl | (unfold MEc; omega))).trans s1) (pc' := 83) rfl ?_
            refine T_if_ne zk_136_83 (by omega) (pc' := 86) rfl (fun h13 => ?_) (fun h14 => ?_)
            ·
              refine T_ld zk_136_93 rfl rfl rfl (pc' := 94) rfl ?_
              refine T_getR (t' := 38) (i' := 0) (k' := 0) zk_136_94 rfl rfl rfl vd_35 (pc' := 97) rfl ?_
              refine T_ld zk_136_97 rfl rfl rfl (pc' := 98) rfl ?_
              refine G_ialdX (w := u1) (ln := 8) zk_136_98 rfl rfl vd_38 (by omega) (by omega) (by omega) (fun σ' h => (h.1.2 _ _ _ _ (by first | exact nMEc rfl | (unfold MEc; omega))).trans s1) (pc' := 99) rfl ?_
              refine T_op zk_136_99 rfl X_ic (pc' := 100) rfl ?_
              refine T_icmp_ne zk_136_100 (by omega) (by omega) (pc' := 103) rfl (fun h15 => ?_) (fun h16 => ?_)
              ·
                refine T_ld zk_136_110 rfl rfl rfl (pc' := 111) rfl ?_
                refine T_getR (t' := 38) (i' := 0) (k' := 0) zk_136_111 rfl rfl rfl vd_35 (pc' := 114) rfl ?_
                refine T_ld zk_136_114 rfl rfl rfl (pc' := 115) rfl ?_
                refine G_ialdX (w := u1) (ln := 8) zk_136_115 rfl rfl vd_38 (by omega) (by omega) (by omega) (fun σ' h => (h.1.2 _ _ _ _ (by first | exact nMEc rfl | (unfold MEc; omega))).trans s1) (pc' := 116) rfl ?_
                refine T_op zk_136_116 rfl X_ic (pc' := 117) rfl ?_
                refine T_icmp_ne zk_136_117 (by omega) (by omega) (pc' := 120) rfl (fun h17 => ?_) (fun h18 => ?_)
                ·
                  refine T_ld zk_136_126 rfl rfl rfl (pc' := 127) rfl ?_
                  refine G_last (J' := (fun σ' => IF (MEc (Int.toNat (96 * p0 + p1))) σ σ' ∧ σ' 41 0 0 (Int.toNat (96 * p0 + p1)) = vv ∧ True)) (ln := 768) zk_136_127 rfl rfl vd_41 (by omega) (by omega) (by omega) (fun σ' h => ⟨h.1.up ⟨by omega, trivial⟩ (by first | exact pMEc rfl | (unfold MEc; omega)), up_eq, trivial⟩) (pc' := 128) rfl ?_
                  refine T_op zk_136_128 rfl X_ic (pc' := 129) rfl ?_
                  exact T_iret zk_136_129 rfl (fun σ' h => ⟨_, rfl, (by omega), h.1, ⟨(by have e := h.2.1; omega), trivial⟩⟩)
                ·
                  refine T_ld zk_136_120 rfl rfl rfl (pc' := 121) rfl ?_
                  refine T_l2iX zk_136_121 (fun hl19 hl19' => ?_)
                  refine T_i2l (by omega) zk_136_122 ?_
                  refine T_goto zk_136_123 ?_
                  refine G_last (J' := (fun σ' => IF (MEc (Int.toNat (96 * p0 + p1))) σ σ' ∧ σ' 41 0 0 (Int.toNat (96 * p0 + p1)) = L2I vv ∧ True)) (ln := 768) zk_136_127 rfl rfl vd_41 (by omega) (by omega) (by omega) (fun σ' h => ⟨h.1.up ⟨by omega, trivial⟩ (by first | exact pMEc rfl | (unfold MEc; omega)), up_eq, trivial⟩) (pc' := 128) rfl ?_
                  refine T_op zk_136_128 rfl X_ic (pc' := 129) rfl ?_
                  exact T_iret zk_136_129 rfl (fun σ' h => ⟨_, rfl, (by omega), h.1, ⟨(by have e := h.2.1; omega), trivial⟩⟩)
              ·
                refine T_ld zk_136_103 rfl rfl rfl (pc' := 104) rfl ?_
                refine T_l2iX zk_136_104 (fun hl20 hl20' => ?_)
                refine T_unkIX zk_136_105 rfl (fun hl21 hl21' => ?_)
                refine T_i2l (by omega) zk_136_106 ?_
                refine T_goto zk_136_107 ?_
                refine G_last (J' := (fun σ' => IF (MEc (Int.toNat (96 * p0 + p1))) σ σ' ∧ σ' 41 0 0 (Int.toNat (96 * p0 + p1)) = zXI .i2s (L2I vv) ∧ True)) (ln := 768) zk_136_127 rfl rfl vd_41 (by omega) (by omega) (by omega) (fun σ' h => ⟨h.1.up ⟨by omega, trivial⟩ (by first | exact pMEc rfl | (unfold MEc; omega)), up_eq, trivial⟩) (pc' := 128) rfl ?_
                refine T_op zk_136_128 rfl X_ic (pc' := 129) rfl ?_
                exact T_iret zk_136_129 rfl (fun σ' h => ⟨_, rfl, (by omega), h.1, ⟨(by have e := h.2.1; omega), trivial⟩⟩)
            ·
              refine T_ld zk_136_86 rfl rfl rfl (pc' := 87) rfl ?_
              refine T_l2iX zk_136_87 (fun hl22 hl22' => ?_)
              refine T_unkIX zk_136_88 rfl (fun hl23 hl23' => ?_)
              refine T_i2l (by omega) zk_136_89 ?_
              refine T_goto zk_136_90 ?_
              refine G_last (J' := (fun σ' => IF (MEc (Int.toNat (96 * p0 + p1))) σ σ' ∧ σ' 41 0 0 (Int.toNat (96 * p0 + p1)) = zXI .i2b (L2I vv) ∧ True)) (ln := 768) zk_136_127 rfl rfl vd_41 (by omega) (by omega) (by omega) (fun σ' h => ⟨h.1.up ⟨by omega, trivial⟩ (by first | exact pMEc rfl | (unfold MEc; omega)), up_eq, trivial⟩) (pc' := 128) rfl ?_
              refine T_op zk_136_128 rfl X_ic (pc' := 129) rfl ?_
              exact T_iret zk_136_129 rfl (fun σ' h => ⟨_, rfl, (by omega), h.1, ⟨(by have e := h.2.1; omega), trivial⟩⟩)
          ·
            refine T_ld zk_136_60 rfl rfl rfl (pc' := 61) rfl ?_
            refine T_op zk_136_61 rfl (X_bi (v := -5) (by decide)) (pc' := 63) rfl ?_
            refine T_calli (K := fun y24 σ' => (y24 = (-5)) ∧ (fun σ' => IF (MEc (Int.toNat (96 * p0 + p1))) σ σ' ∧ σ' 41 0 0 (Int.toNat (96 * p0 + p1)) = a ∧ True) σ') (r := []) zk_136_63 rfl rfl rfl rfl rfl rfl (Or.inr ⟨_, _, _, _, rfl, vd_35, rfl⟩) (fun σ' h => (m_123 ((-5)) (by omega) σ' h.1.1 ).le (Nat.le_of_ble_eq_true rfl) (fun v σ2 ⟨y, h1, h2, h3, h4⟩ => ⟨y, h1, h2, h.1.tr h3 (sb79_3cc3e38 (Int.toNat (96 * p0 + p1))), (h3.2 _ _ _ _ (by first | exact nMT rfl | (unfold MT; omega))).trans (h.2.1), trivial⟩)) (pc' := 66) rfl (fun y24 => ?_)
            refine G_ex (fun hy24 => ?_)
            obtain rfl : y24 = (-5) := by omega
            exact T_iret zk_136_66 rfl (fun σ' h => ⟨_, rfl, (by omega), h.1, ⟨(by have e := h.2.1; omega), trivial⟩⟩)
      ·
        refine T_ld zk_136_39 rfl rfl rfl (pc' := 40) rfl ?_
        refine T_op zk_136_40 rfl (X_bi (v := -3) (by decide)) (pc' := 42) rfl ?_
        refine T_calli (K := fun y25 σ' => (y25 = (-3)) ∧ (fun σ' => IF (MEc (Int.toNat (96 * p0 + p1))) σ σ' ∧ σ' 41 0 0 (Int.toNat (96 * p0 + p1)) = a ∧ True) σ') (r := []) zk_136_42 rfl rfl rfl rfl rfl rfl (Or.inr ⟨_, _, _, _, rfl, vd_35, rfl⟩) (fun σ' h => (m_123 ((-3)) (by omega) σ' h.1.1 ).le (Nat.le_of_ble_eq_true rfl) (fun v σ2 ⟨y, h1, h2, h3, h4⟩ => ⟨y, h1, h2, h.1.tr h3 (sb79_3cc3e38 (Int.toNat (96 * p0 + p1))), (h3.2 _ _ _ _ (by first | exact nMT rfl | (unfold MT; omega))).trans (h.2.1), trivial⟩)) (pc' := 45) rfl (fun y25 => ?_)
        refine G_ex (fun hy25 => ?_)
        obtain rfl : y25 = (-3) := by omega
        exact T_iret zk_136_45 rfl (fun σ' h => ⟨_, rfl, (by omega), h.1, ⟨(by have e := h.2.1; omega), trivial⟩⟩)
    ·
      refine T_ld zk_136_23 rfl rfl rfl (pc' := 24) rfl ?_
      refine T_op zk_136_24 rfl (X_bi (v := -2) (by decide)) (pc' := 26) rfl ?_
      refine T_calli (K := fun y26 σ' => (y26 = (-2)) ∧ (fun σ' => IF (MEc (Int.toNat (96 * p0 + p1))) σ σ' ∧ σ' 41 0 0 (Int.toNat (96 * p0 + p1)) = a ∧ True) σ') (r := []) zk_136_26 rfl rfl rfl rfl rfl rfl (Or.inr ⟨_, _, _, _, rfl, vd_35, rfl⟩) (fun σ' h => (m_123 ((-2)) (by omega) σ' h.1.1 ).le (Nat.le_of_ble_eq_true rfl) (fun v σ2 ⟨y, h1, h2, h3, h4⟩ => ⟨y, h1, h2, h.1.tr h3 (sb79_3cc3e38 (Int.toNat (96 * p0 + p1))), (h3.2 _ _ _ _ (by first | exact nMT rfl | (unfold MT; omega))).trans (h.2.1), trivial⟩)) (pc' := 29) rfl (fun y26 => ?_)
      refine G_ex (fun hy26 => ?_)
      obtain rfl : y26 = (-2) := by omega
      exact T_iret zk_136_29 rfl (fun σ' h => ⟨_, rfl, (by omega), h.1, ⟨(by have e := h.2.1; omega), trivial⟩⟩)
  ·
    refine T_ld zk_136_7 rfl rfl rfl (pc' := 8) rfl ?_
    refine T_op zk_136_8 rfl X_ic (pc' := 9) rfl ?_
    refine T_calli (K := fun y27 σ' => (y27 = (-1)) ∧ (fun σ' => IF (MEc (Int.toNat (96 * p0 + p1))) σ σ' ∧ σ' 41 0 0 (Int.toNat (96 * p0 + p1)) = a ∧ True) σ') (r := []) zk_136_9 rfl rfl rfl rfl rfl rfl (Or.inr ⟨_, _, _, _, rfl, vd_35, rfl⟩) (fun σ' h => (m_123 ((-1)) (by omega) σ' h.1.1 ).le (Nat.le_of_ble_eq_true rfl) (fun v σ2 ⟨y, h1, h2, h3, h4⟩ => ⟨y, h1, h2, h.1.tr h3 (sb79_3cc3e38 (Int.toNat (96 * p0 + p1))), (h3.2 _ _ _ _ (by first | exact nMT rfl | (unfold MT; omega))).trans (h.2.1), trivial⟩)) (pc' := 12) rfl (fun y27 => ?_)
    refine G_ex (fun hy27 => ?_)
    obtain rfl : y27 = (-1) := by omega
    exact T_iret zk_136_12 rfl (fun σ' h => ⟨_, rfl, (by omega), h.1, ⟨(by have e := h.2.1; omega), trivial⟩⟩)
/-- WModel.copy -/
theorem r_137e {xs : Nat × (Nat → Int32)} (p0 : Int) (p1 : Int) (p2 : Int) (p3 : Int) (p4 : Int) (v0 : Int) (v1 : Int) (v2 : Int) (u0 : Int) (u1 : Int) (u2 : Int) (F : Nat → Int) (hp0 : 0 ≤ p0 ∧ p0 ≤ 7) (hp1 : 0 ≤ p1 ∧ p1 ≤ 7) (hp2 : -2147483648 ≤ p2 ∧ p2 ≤ 2147483647) (hp3 : -2147483648 ≤ p3 ∧ p3 ≤ 2147483647) (hp4 : -2147483648 ≤ p4 ∧ p4 ≤ 2147483647) (hv0 : 0 ≤ v0 ∧ v0 ≤ 2) (hv1 : 0 ≤ v1 ∧ v1 ≤ 3) (hv2 : 0 ≤ v2 ∧ v2 ≤ 96) (hu0 : 0 ≤ u0 ∧ u0 ≤ 2) (hu1 : 0 ≤ u1 ∧ u1 ≤ 3) (hu2 : 0 ≤ u2 ∧ u2 ≤ 96) (σ : ZS) (hI : Inv σ)  (t0 : σ 37 0 0 (Int.toNat p0) = v0) (t1 : σ 38 0 0 (Int.toNat p0) = v1) (t2 : σ 39 0 0 (Int.toNat p0) = v2) (s0 : σ 37 0 0 (Int.toNat p1) = u0) (s1 : σ 38 0 0 (Int.toNat p1) = u1) (s2 : σ 39 0 0 (Int.toNat p1) = u2) (rf : Eq (σ 41 0 0) F) : CT xs 2 137 [av 35 0 0, iv p0, iv p1, iv p2, iv p3, iv p4] σ (fun v σ' => ∃ y, v = some (iv y) ∧ ((y = cpr v0 v1 u0 u1 ∧ (¬ cpr v0 v1 u0 u1 = 0)) ∨ (y = -4 ∧ ¬ (¬ cpr v0 v1 u0 u1 = 0) ∧ (p4 < 0)) ∨ (y = -5 ∧ ¬ (¬ cpr v0 v1 u0 u1 = 0) ∧ ¬ (p4 < 0) ∧ (¬ (0 ≤ p2 ∧ p2 + p4 ≤ v2 ∧ 0 ≤ p3 ∧ p3 + p4 ≤ u2))) ∨ (y = 1 ∧ ¬ (¬ cpr v0 v1 u0 u1 = 0) ∧ ¬ (p4 < 0) ∧ ¬ (¬ (0 ≤ p2 ∧ p2 + p4 ≤ v2 ∧ 0 ≤ p3 ∧ p3 + p4 ≤ u2)))) ∧ IF (MEd (Int.toNat p1)) σ σ' ∧ (rcp (σ' 41 0 0) y (fcp F F (Int.toNat (96 * p0 + p2)) (Int.toNat (96 * p1 + p3)) (Int.toNat p4)) F ∧ True)) := by
  refine G_ct (J := (fun σ' => IF (MEd (Int.toNat p1)) σ σ' ∧ Eq (σ' 41 0 0) F ∧ True)) (L := [(0, av 35 0 0), (1, iv p0), (2, iv p1), (3, iv p2), (4, iv p3), (5, iv p4)]) (nL := 7) rfl rfl rfl ⟨IF.rf hI, rf, trivial⟩ ?_
  refine T_ld zk_137_0 rfl rfl rfl (pc' := 1) rfl ?_
  refine T_calli (K := fun y1 σ' => ((y1 = 0 ∧ (p0 < 0 ∨ 7 < p0)) ∨ (y1 = 1 ∧ 0 ≤ p0 ∧ p0 ≤ 7)) ∧ (fun σ' => IF (MEd (Int.toNat p1)) σ σ' ∧ Eq (σ' 41 0 0) F ∧ True) σ') (r := []) zk_137_1 rfl rfl rfl rfl rfl rfl (Or.inl (Or.inl rfl)) (fun σ' h => (m_125 p0 (by omega) σ' h.1.1 ).le (Nat.le_of_ble_eq_true rfl) (fun v σ2 ⟨y, h1, h2, h3, h4⟩ => ⟨y, h1, h2, h.1.tr h3 MN_sub, gf_mk (fun z => Eq z F) (funext fun j => h3.2 _ _ _ _ (fun q => q)) (h.2.1), trivial⟩)) (pc' := 4) rfl (fun y1 => ?_)
  refine G_ex (fun hy1 => ?_)
  refine T_if_eq zk_137_4 (by omega) (pc' := 7) rfl (fun h2 => ?_) (fun h3 => ?_)
  ·
    refine T_ld zk_137_14 rfl rfl rfl (pc' := 15) rfl ?_
    refine T_op zk_137_15 rfl X_ic (pc' := 16) rfl ?_
    refine T_calli (K := fun y4 σ' => (y4 = (-1)) ∧ (fun σ' => IF (MEd (Int.toNat p1)) σ σ' ∧ Eq (σ' 41 0 0) F ∧ True) σ') (r := []) zk_137_16 rfl rfl rfl rfl rfl rfl (Or.inr ⟨_, _, _, _, rfl, vd_35, rfl⟩) (fun σ' h => (m_123 ((-1)) (by omega) σ' h.1.1 ).le (Nat.le_of_ble_eq_true rfl) (fun v σ2 ⟨y, h1, h2, h3, h4⟩ => ⟨y, h1, h2, h.1.tr h3 (fun t i k j h => by unfold MT at h; unfold MEd; omega), gf_mk (fun z => Eq z F) (funext fun j => h3.2 _ _ _ _ (by first | exact nMT rfl | (unfold MT; omega))) (h.2.1), trivial⟩)) (pc' := 19) rfl (fun y4 => ?_)
    refine G_ex (fun hy4 => ?_)
    obtain rfl : y4 = (-1) := by omega
    exact T_iret zk_137_19 rfl (fun σ' h => ⟨_, rfl, (by first | omega | (have hd := (cpr_spec v0 v1 u0 u1).1 (by omega); omega) | (have hd := (cpr_spec v0 v1 u0 u1).2.1 (by omega); omega) | (have hd := (cpr_spec v0 v1 u0 u1).2.2.1 (by omega); omega) | (have hd := (cpr_spec v0 v1 u0 u1).2.2.2 (by omega); omega)), h.1, ⟨⟨fun q => by exfalso; omega, fun _ => h.2.1⟩, trivial⟩⟩)
  ·
    refine T_ld zk_137_7 rfl rfl rfl (pc' := 8) rfl ?_
    refine T_calli (K := fun y5 σ' => ((y5 = 0 ∧ (p1 < 0 ∨ 7 < p1)) ∨ (y5 = 1 ∧ 0 ≤ p1 ∧ p1 ≤ 7)) ∧ (fun σ' => IF (MEd (Int.toNat p1)) σ σ' ∧ Eq (σ' 41 0 0) F ∧ True) σ') (r := []) zk_137_8 rfl rfl rfl rfl rfl rfl (Or.inl (Or.inl rfl)) (fun σ' h => (m_125 p1 (by omega) σ' h.1.1 ).le (Nat.le_of_ble_eq_true rfl) (fun v σ2 ⟨y, h1, h2, h3, h4⟩ => ⟨y, h1, h2, h.1.tr h3 MN_sub, gf_mk (fun z => Eq z F) (funext fun j => h3.2 _ _ _ _ (fun q => q)) (h.2.1), trivial⟩)) (pc' := 11) rfl (fun y5 => ?_)
    refine G_ex (fun hy5 => ?_)
    refine T_if_ne zk_137_11 (by omega) (pc' := 14) rfl (fun h6 => ?_) (fun h7 => ?_)
    ·
      refine T_ld zk_137_20 rfl rfl rfl (pc' := 21) rfl ?_
      refine T_getR (t' := 37) (i' := 0) (k' := 0) zk_137_21 rfl rfl rfl vd_35 (pc' := 24) rfl ?_
      refine T_ld zk_137_24 rfl rfl rfl (pc' := 25) rfl ?_
      refine G_ialdX (w := v0) (ln := 8) zk_137_25 rfl rfl vd_37 (by omega) (by omega) (by omega) (fun σ' h => (h.1.2 _ _ _ _ (by first | exact nMEd rfl | (unfold MEd; omega))).trans t0) (pc' := 26) rfl ?_
      refine T_op zk_137_26 rfl X_ic (pc' := 27) rfl ?_
      refine T_icmp_eq zk_137_27 (by omega) (by omega) (pc' := 30) rfl (fun h8 => ?_) (fun h9 => ?_)
      ·
        refine T_ld zk_137_75 rfl rfl rfl (pc' := 76) rfl ?_
        refine T_op zk_137_76 rfl (X_bi (v := -2) (by decide)) (pc' := 78) rfl ?_
        refine T_calli (K := fun y10 σ' => (y10 = (-2)) ∧ (fun σ' => IF (MEd (Int.toNat p1)) σ σ' ∧ Eq (σ' 41 0 0) F ∧ True) σ') (r := []) zk_137_78 rfl rfl rfl rfl rfl rfl (Or.inr ⟨_, _, _, _, rfl, vd_35, rfl⟩) (fun σ' h => (m_123 ((-2)) (by omega) σ' h.1.1 ).le (Nat.le_of_ble_eq_true rfl) (fun v σ2 ⟨y, h1, h2, h3, h4⟩ => ⟨y, h1, h2, h.1.tr h3 (fun t i k j h => by unfold MT at h; unfold MEd; omega), gf_mk (fun z => Eq z F) (funext fun j => h3.2 _ _ _ _ (by first | exact nMT rfl | (unfold MT; omega))) (h.2.1), trivial⟩)) (pc' := 81) rfl (fun y10 => ?_)
        refine G_ex (fun hy10 => ?_)
        obtain rfl : y10 = (-2) := by omega
        exact T_iret zk_137_81 rfl (fun σ' h => ⟨_, rfl, (by first | omega | (have hd := (cpr_spec v0 v1 u0 u1).1 (by omega); omega) | (have hd := (cpr_spec v0 v1 u0 u1).2.1 (by omega); omega) | (have hd := (cpr_spec v0 v1 u0 u1).2.2.1 (by omega); omega) | (have hd := (cpr_spec v0 v1 u0 u1).2.2.2 (by omega); omega)), h.1, ⟨⟨fun q => by exfalso; omega, fun _ => h.2.1⟩, trivial⟩⟩)
      ·
        refine T_ld zk_137_30 rfl rfl rfl (pc' := 31) rfl ?_
        refine T_getR (t' := 37) (i' := 0) (k' := 0) zk_137_31 rfl rfl rfl vd_35 (pc' := 34) rfl ?_
        refine T_ld zk_137_34 rfl rfl rfl (pc' := 35) rfl ?_
        refine G_ialdX (w := u0) (ln := 8) zk_137_35 rfl rfl vd_37 (by omega) (by omega) (by omega) (fun σ' h => (h.1.2 _ _ _ _ (by first | exact nMEd rfl | (unfold MEd; omega))).trans s0) (pc' := 36) rfl ?_
        refine T_op zk_137_36 rfl X_ic (pc' := 37) rfl ?_
        refine T_icmp_eq zk_137_37 (by omega) (by omega) (pc' := 40) rfl (fun h11 => ?_) (fun h12 => ?_)
        ·
          refine T_ld zk_137_75 rfl rfl rfl (pc' := 76) rfl ?_
          refine T_op zk_137_76 rfl (X_bi (v := -2) (by decide)) (pc' := 78) rfl ?_
          refine T_calli (K := fun y13 σ' => (y13 = (-2)) ∧ (fun σ' => IF (MEd (Int.toNat p1)) σ σ' ∧ Eq (σ' 41 0 0) F ∧ True) σ') (r := []) zk_137_78 rfl rfl rfl rfl rfl rfl (Or.inr ⟨_, _, _, _, rfl, vd_35, rfl⟩) (fun σ' h => (m_123 ((-2)) (by omega) σ' h.1.1 ).le (Nat.le_of_ble_eq_true rfl) (fun v σ2 ⟨y, h1, h2, h3, h4⟩ => ⟨y, h1, h2, h.1.tr h3 (fun t i k j h => by unfold MT at h; unfold MEd; omega), gf_mk (fun z => Eq z F) (funext fun j => h3.2 _ _ _ _ (by first | exact nMT rfl | (unfold MT; omega))) (h.2.1), trivial⟩)) (pc' := 81) rfl (fun y13 => ?_)
          refine G_ex (fun hy13 => ?_)
          obtain rfl : y13 = (-2) := by omega
          exact T_iret zk_137_81 rfl (fun σ' h => ⟨_, rfl, (by first | omega | (have hd := (cpr_spec v0 v1 u0 u1).1 (by omega); omega) | (have hd := (cpr_spec v0 v1 u0 u1).2.1 (by omega); omega) | (have hd := (cpr_spec v0 v1 u0 u1).2.2.1 (by omega); omega) | (have hd := (cpr_spec v0 v1 u0 u1).2.2.2 (by omega); omega)), h.1, ⟨⟨fun q => by exfalso; omega, fun _ => h.2.1⟩, trivial⟩⟩)
        ·
          refine T_ld zk_137_40 rfl rfl rfl (pc' := 41) rfl ?_
          refine T_getR (t' := 37) (i' := 0) (k' := 0) zk_137_41 rfl rfl rfl vd_35 (pc' := 44) rfl ?_
          refine T_ld zk_137_44 rfl rfl rfl (pc' := 45) rfl ?_
          refine G_ialdX (w := v0) (ln := 8) zk_137_45 rfl rfl vd_37 (by omega) (by omega) (by omega) (fun σ' h => (h.1.2 _ _ _ _ (by first | exact nMEd rfl | (unfold MEd; omega))).trans t0) (pc' := 46) rfl ?_
          refine T_op zk_137_46 rfl X_ic (pc' := 47) rfl ?_
          refine T_icmp_ne zk_137_47 (by omega) (by omega) (pc' := 50) rfl (fun h14 => ?_) (fun h15 => ?_)
          ·
            refine T_ld zk_137_82 rfl rfl rfl (pc' := 83) rfl ?_
            refine T_getR (t' := 37) (i' := 0) (k' := 0) zk_137_83 rfl rfl rfl vd_35 (pc' := 86) rfl ?_
            refine T_ld zk_137_86 rfl rfl rfl (pc' := 87) rfl ?_
            refine G_ialdX (w := v0) (ln := 8) zk_137_87 rfl rfl vd_37 (by omega) (by omega) (by omega) (fun σ' h => (h.1.2 _ _ _ _ (by first | exact nMEd rfl | (unfold MEd; omega))).trans t0) (pc' := 88) rfl ?_
            refine T_if_eq zk_137_88 (by omega) (pc' := 91) rfl (fun h16 => ?_) (fun h17 => ?_)
            ·
              refine T_ld zk_137_100 rfl rfl rfl (pc' := 101) rfl ?_
              refine T_op zk_137_101 rfl (X_bi (v := -3) (by decide)) (pc' := 103) rfl ?_
              refine T_calli (K := fun y18 σ' => (y18 = (-3)) ∧ (fun σ' => IF (MEd (Int.toNat p1)) σ σ' ∧ Eq (σ' 41 0 0) F ∧ True) σ') (r := []) zk_137_103 rfl rfl rfl rfl rfl rfl (Or.inr ⟨_, _, _, _, rfl, vd_35, rfl⟩) (fun σ' h => (m_123 ((-3)) (by omega) σ' h.1.1 ).le (Nat.le_of_ble_eq_true rfl) (fun v σ2 ⟨y, h1, h2, h3, h4⟩ => ⟨y, h1, h2, h.1.tr h3 (fun t i k j h => by unfold MT at h; unfold MEd; omega), gf_mk (fun z => Eq z F) (funext fun j => h3.2 _ _ _ _ (by first | exact nMT rfl | (unfold MT; omega))) (h.2.1), trivial⟩)) (pc' := 106) rfl (fun y18 => ?_)
              refine G_ex (fun hy18 => ?_)
              obtain rfl : y18 = (-3) := by omega
              exact T_iret zk_137_106 rfl (fun σ' h => ⟨_, rfl, (by first | omega | (have hd := (cpr_spec v0 v1 u0 u1).1 (by omega); omega) | (have hd := (cpr_spec v0 v1 u0 u1).2.1 (by omega); omega) | (have hd := (cpr_spec v0 v1 u0 u1).2.2.1 (by omega); omega) | (have hd := (cpr_spec v0 v1 u0 u1).2.2.2 (by omega); omega)), h.1, ⟨⟨fun q => by exfalso; omega, fun _ => h.2.1⟩, trivial⟩⟩)
            · exfalso; omega
          ·
            refine T_ld zk_137_50 rfl rfl rfl (pc' := 51) rfl ?_
            refine T_getR (t' := 37) (i' := 0) (k' := 0) zk_137_51 rfl rfl rfl vd_35 (pc' := 54) rfl ?_
            refine T_ld zk_137_54 rfl rfl rfl (pc' := 55) rfl ?_
            refine G_ialdX (w := u0) (ln := 8) zk_137_55 rfl rfl vd_37 (by omega) (by omega) (by omega) (fun σ' h => (h.1.2 _ _ _ _ (by first | exact nMEd rfl | (unfold MEd; omega))).trans s0) (pc' := 56) rfl ?_
            refine T_op zk_137_56 rfl X_ic (pc' := 57) rfl ?_
            refine T_icmp_ne zk_137_57 (by omega) (by omega) (pc' := 60) rfl (fun h19 => ?_) (fun h20 => ?_)
            ·
              refine T_ld zk_137_82 rfl rfl rfl (pc' := 83) rfl ?_
              refine T_getR (t' := 37) (i' := 0) (k' := 0) zk_137_83 rfl rfl rfl vd_35 (pc' := 86) rfl ?_
              refine T_ld zk_137_86 rfl rfl rfl (pc' := 87) rfl ?_
              refine G_ialdX (w := v0) (ln := 8) zk_137_87 rfl rfl vd_37 (by omega) (by omega) (by omega) (fun σ' h => (h.1.2 _ _ _ _ (by first | exact nMEd rfl | (unfold MEd; omega))).trans t0) (pc' := 88) rfl ?_
              refine T_if_eq zk_137_88 (by omega) (pc' := 91) rfl (fun h21 => ?_) (fun h22 => ?_)
              · exfalso; omega
              ·
                refine T_ld zk_137_91 rfl rfl rfl (pc' := 92) rfl ?_
                refine T_getR (t' := 37) (i' := 0) (k' := 0) zk_137_92 rfl rfl rfl vd_35 (pc' := 95) rfl ?_
                refine T_ld zk_137_95 rfl rfl rfl (pc' := 96) rfl ?_
                refine G_ialdX (w := u0) (ln := 8) zk_137_96 rfl rfl vd_37 (by omega) (by omega) (by omega) (fun σ' h => (h.1.2 _ _ _ _ (by first | exact nMEd rfl | (unfold MEd; omega))).trans s0) (pc' := 97) rfl ?_
                refine T_if_ne zk_137_97 (by omega) (pc' := 100) rfl (fun h23 => ?_) (fun h24 => ?_)
                · exfalso; omega
                ·
                  refine T_ld zk_137_100 rfl rfl rfl (pc' := 101) rfl ?_
                  refine T_op zk_137_101 rfl (X_bi (v := -3) (by decide)) (pc' := 103) rfl ?_
                  refine T_calli (K := fun y25 σ' => (y25 = (-3)) ∧ (fun σ' => IF (MEd (Int.toNat p1)) σ σ' ∧ Eq (σ' 41 0 0) F ∧ True) σ') (r := []) zk_137_103 rfl rfl rfl rfl rfl rfl (Or.inr ⟨_, _, _, _, rfl, vd_35, rfl⟩) (fun σ' h => (m_123 ((-3)) (by omega) σ' h.1.1 ).le (Nat.le_of_ble_eq_true rfl) (fun v σ2 ⟨y, h1, h2, h3, h4⟩ => ⟨y, h1, h2, h.1.tr h3 (fun t i k j h => by unfold MT at h; unfold MEd; omega), gf_mk (fun z => Eq z F) (funext fun j => h3.2 _ _ _ _ (by first | exact nMT rfl | (unfold MT; omega))) (h.2.1), trivial⟩)) (pc' := 106) rfl (fun y25 => ?_)
                  refine G_ex (fun hy25 => ?_)
                  obtain rfl : y25 = (-3) := by omega
                  exact T_iret zk_137_106 rfl (fun σ' h => ⟨_, rfl, (by first | omega | (have hd := (cpr_spec v0 v1 u0 u1).1 (by omega); omega) | (have hd := (cpr_spec v0 v1 u0 u1).2.1 (by omega); omega) | (have hd := (cpr_spec v0 v1 u0 u1).2.2.1 (by omega); omega) | (have hd := (cpr_spec v0 v1 u0 u1).2.2.2 (by omega); omega)), h.1, ⟨⟨fun q => by exfalso; omega, fun _ => h.2.1⟩, trivial⟩⟩)
            ·
              refine T_ld zk_137_60 rfl rfl rfl (pc' := 61) rfl ?_
              refine T_getR (t' := 38) (i' := 0) (k' := 0) zk_137_61 rfl rfl rfl vd_35 (pc' := 64) rfl ?_
              refine T_ld zk_137_64 rfl rfl rfl (pc' := 65) rfl ?_
              refine G_ialdX (w := v1) (ln := 8) zk_137_65 rfl rfl vd_38 (by omega) (by omega) (by omega) (fun σ' h => (h.1.2 _ _ _ _ (by first | exact nMEd rfl | (unfold MEd; omega))).trans t1) (pc' := 66) rfl ?_
              refine T_ld zk_137_66 rfl rfl rfl (pc' := 67) rfl ?_
              refine T_getR (t' := 38) (i' := 0) (k' := 0) zk_137_67 rfl rfl rfl vd_35 (pc' := 70) rfl ?_
              refine T_ld zk_137_70 rfl rfl rfl (pc' := 71) rfl ?_
              refine G_ialdX (w := u1) (ln := 8) zk_137_71 rfl rfl vd_38 (by omega) (by omega) (by omega) (fun σ' h => (h.1.2 _ _ _ _ (by first | exact nMEd rfl | (unfold MEd; omega))).trans s1) (pc' := 72) rfl ?_
              refine T_icmp_eq zk_137_72 (by omega) (by omega) (pc' := 75) rfl (fun h26 => ?_) (fun h27 => ?_)
              ·
                refine T_ld zk_137_82 rfl rfl rfl (pc' := 83) rfl ?_
                refine T_getR (t' := 37) (i' := 0) (k' := 0) zk_137_83 rfl rfl rfl vd_35 (pc' := 86) rfl ?_
                refine T_ld zk_137_86 rfl rfl rfl (pc' := 87) rfl ?_
                refine G_ialdX (w := v0) (ln := 8) zk_137_87 rfl rfl vd_37 (by omega) (by omega) (by omega) (fun σ' h => (h.1.2 _ _ _ _ (by first | exact nMEd rfl | (unfold MEd; omega))).trans t0) (pc' := 88) rfl ?_
                refine T_if_eq zk_137_88 (by omega) (pc' := 91) rfl (fun h28 => ?_) (fun h29 => ?_)
                · exfalso; omega
                ·
                  refine T_ld zk_137_91 rfl rfl rfl (pc' := 92) rfl ?_
                  refine T_getR (t' := 37) (i' := 0) (k' := 0) zk_137_92 rfl rfl rfl vd_35 (pc' := 95) rfl ?_
                  refine T_ld zk_137_95 rfl rfl rfl (pc' := 96) rfl ?_
                  refine G_ialdX (w := u0) (ln := 8) zk_137_96 rfl rfl vd_37 (by omega) (by omega) (by omega) (fun σ' h => (h.1.2 _ _ _ _ (by first | exact nMEd rfl | (unfold MEd; omega))).trans s0) (pc' := 97) rfl ?_
                  refine T_if_ne zk_137_97 (by omega) (pc' := 100) rfl (fun h30 => ?_) (fun h31 => ?_)
                  ·
                    refine T_ld zk_137_107 rfl rfl rfl (pc' := 109) rfl ?_
                    refine T_if_ge zk_137_109 (by omega) (pc' := 112) rfl (fun h32 => ?_) (fun h33 => ?_)
                    ·
                      refine T_ld zk_137_119 rfl rfl rfl (pc' := 120) rfl ?_
                      refine T_if_lt zk_137_120 (by omega) (pc' := 123) rfl (fun h34 => ?_) (fun h35 => ?_)
                      ·
                        refine T_ld zk_137_155 rfl rfl rfl (pc' := 156) rfl ?_
                        refine T_op zk_137_156 rfl (X_bi (v := -5) (by decide)) (pc' := 158) rfl ?_
                        refine T_calli (K := fun y36 σ' => (y36 = (-5)) ∧ (fun σ' => IF (MEd (Int.toNat p1)) σ σ' ∧ Eq (σ' 41 0 0) F ∧ True) σ') (r := []) zk_137_158 rfl rfl rfl rfl rfl rfl (Or.inr ⟨_, _, _, _, rfl, vd_35, rfl⟩) (fun σ' h => (m_123 ((-5)) (by omega) σ' h.1.1 ).le (Nat.le_of_ble_eq_true rfl) (fun v σ2 ⟨y, h1, h2, h3, h4⟩ => ⟨y, h1, h2, h.1.tr h3 (fun t i k j h => by unfold MT at h; unfold MEd; omega), gf_mk (fun z => Eq z F) (funext fun j => h3.2 _ _ _ _ (by first | exact nMT rfl | (unfold MT; omega))) (h.2.1), trivial⟩)) (pc' := 161) rfl (fun y36 => ?_)
                        refine G_ex (fun hy36 => ?_)
                        obtain rfl : y36 = (-5) := by omega
                        exact T_iret zk_137_161 rfl (fun σ' h => ⟨_, rfl, (by first | omega | (have hd := (cpr_spec v0 v1 u0 u1).1 (by omega); omega) | (have hd := (cpr_spec v0 v1 u0 u1).2.1 (by omega); omega) | (have hd := (cpr_spec v0 v1 u0 u1).2.2.1 (by omega); omega) | (have hd := (cpr_spec v0 v1 u0 u1).2.2.2 (by omega); omega)), h.1, ⟨⟨fun q => by exfalso; omega, fun _ => h.2.1⟩, trivial⟩⟩)
                      ·
                        refine T_ld zk_137_123 rfl rfl rfl (pc' := 125) rfl ?_
                        refine T_if_lt zk_137_125 (by omega) (pc' := 128) rfl (fun h37 => ?_) (fun h38 => ?_)
                        ·
                          refine T_ld zk_137_155 rfl rfl rfl (pc' := 156) rfl ?_
                          refine T_op zk_137_156 rfl (X_bi (v := -5) (by decide)) (pc' := 158) rfl ?_
                          refine T_calli (K := fun y39 σ' => (y39 = (-5)) ∧ (fun σ' => IF (MEd (Int.toNat p1)) σ σ' ∧ Eq (σ' 41 0 0) F ∧ True) σ') (r := []) zk_137_158 rfl rfl rfl rfl rfl rfl (Or.inr ⟨_, _, _, _, rfl, vd_35, rfl⟩) (fun σ' h => (m_123 ((-5)) (by omega) σ' h.1.1 ).le (Nat.le_of_ble_eq_true rfl) (fun v σ2 ⟨y, h1, h2, h3, h4⟩ => ⟨y, h1, h2, h.1.tr h3 (fun t i k j h => by unfold MT at h; unfold MEd; omega), gf_mk (fun z => Eq z F) (funext fun j => h3.2 _ _ _ _ (by first | exact nMT rfl | (unfold MT; omega))) (h.2.1), trivial⟩)) (pc' := 161) rfl (fun y39 => ?_)
                          refine G_ex (fun hy39 => ?_)
                          obtain rfl : y39 = (-5) := by omega
                          exact T_iret zk_137_161 rfl (fun σ' h => ⟨_, rfl, (by first | omega | (have hd := (cpr_spec v0 v1 u0 u1).1 (by omega); omega) | (have hd := (cpr_spec v0 v1 u0 u1).2.1 (by omega); omega) | (have hd := (cpr_spec v0 v1 u0 u1).2.2.1 (by omega); omega) | (have hd := (cpr_spec v0 v1 u0 u1).2.2.2 (by omega); omega)), h.1, ⟨⟨fun q => by exfalso; omega, fun _ => h.2.1⟩, trivial⟩⟩)
                        ·
                          refine T_ld zk_137_128 rfl rfl rfl (pc' := 129) rfl ?_
                          refine T_ld zk_137_129 rfl rfl rfl (pc' := 130) rfl ?_
                          refine T_getR (t' := 39) (i' := 0) (k' := 0) zk_137_130 rfl rfl rfl vd_35 (pc' := 133) rfl ?_
                          refine T_ld zk_137_133 rfl rfl rfl (pc' := 134) rfl ?_
                          refine G_ialdX (w := v2) (ln := 8) zk_137_134 rfl rfl vd_39 (by omega) (by omega) (by omega) (fun σ' h => (h.1.2 _ _ _ _ (by first | exact nMEd rfl | (unfold MEd; omega))).trans t2) (pc' := 135) rfl ?_
                          refine T_ld zk_137_135 rfl rfl rfl (pc' := 137) rfl ?_
                          refine T_op zk_137_137 rfl X_sub (pc' := 138) rfl ?_
                          refine T_icmp_gt zk_137_138 (by omega) (by omega) (pc' := 141) rfl (fun h40 => ?_) (fun h41 => ?_)
                          ·
                            refine T_ld zk_137_155 rfl rfl rfl (pc' := 156) rfl ?_
                            refine T_op zk_137_156 rfl (X_bi (v := -5) (by decide)) (pc' := 158) rfl ?_
                            refine T_calli (K := fun y42 σ' => (y42 = (-5)) ∧ (fun σ' => IF (MEd (Int.toNat p1)) σ σ' ∧ Eq (σ' 41 0 0) F ∧ True) σ') (r := []) zk_137_158 rfl rfl rfl rfl rfl rfl (Or.inr ⟨_, _, _, _, rfl, vd_35, rfl⟩) (fun σ' h => (m_123 ((-5)) (by omega) σ' h.1.1 ).le (Nat.le_of_ble_eq_true rfl) (fun v σ2 ⟨y, h1, h2, h3, h4⟩ => ⟨y, h1, h2, h.1.tr h3 (fun t i k j h => by unfold MT at h; unfold MEd; omega), gf_mk (fun z => Eq z F) (funext fun j => h3.2 _ _ _ _ (by first | exact nMT rfl | (unfold MT; omega))) (h.2.1), trivial⟩)) (pc' := 161) rfl (fun y42 => ?_)
                            refine G_ex (fun hy42 => ?_)
                            obtain rfl : y42 = (-5) := by omega
                            exact T_iret zk_137_161 rfl (fun σ' h => ⟨_, rfl, (by first | omega | (have hd := (cpr_spec v0 v1 u0 u1).1 (by omega); omega) | (have hd := (cpr_spec v0 v1 u0 u1).2.1 (by omega); omega) | (have hd := (cpr_spec v0 v1 u0 u1).2.2.1 (by omega); omega) | (have hd := (cpr_spec v0 v1 u0 u1).2.2.2 (by omega); omega)), h.1, ⟨⟨fun q => by exfalso; omega, fun _ => h.2.1⟩, trivial⟩⟩)
                          ·
                            refine T_ld zk_137_141 rfl rfl rfl (pc' := 143) rfl ?_
                            refine T_ld zk_137_143 rfl rfl rfl (pc' := 144) rfl ?_
                            refine T_getR (t' := 39) (i' := 0) (k' := 0) zk_137_144 rfl rfl rfl vd_35 (pc' := 147) rfl ?_
                            refine T_ld zk_137_147 rfl rfl rfl (pc' := 148) rfl ?_
                            refine G_ialdX (w := u2) (ln := 8) zk_137_148 rfl rfl vd_39 (by omega) (by omega) (by omega) (fun σ' h => (h.1.2 _ _ _ _ (by first | exact nMEd rfl | (unfold MEd; omega))).trans s2) (pc' := 149) rfl ?_
                            refine T_ld zk_137_149 rfl rfl rfl (pc' := 151) rfl ?_
                            refine T_op zk_137_151 rfl X_sub (pc' := 152) rfl ?_
                            refine T_icmp_le zk_137_152 (by omega) (by omega) (pc' := 155) rfl (fun h43 => ?_) (fun h44 => ?_)
                            ·
                              refine G_know (J' := (fun σ' => IF (MEd (Int.toNat p1)) σ σ' ∧ Eq (σ' 41 0 0) F ∧ eqn (fun q => F ((Int.toNat (96 * p0 + p2)) + q)) (σ' 42 0 0) (Int.toNat 0) ∧ True)) (fun σ' h => ⟨h.1, h.2.1, (fun j hj => by simp at hj), trivial⟩) ?_
                              refine T_op zk_137_162 rfl X_ic (pc' := 163) rfl ?_
                              refine T_st (L' := [(0, av 35 0 0), (1, iv p0), (2, iv p1), (3, iv p2), (4, iv p3), (5, iv p4), (6, iv 0)]) zk_137_163 (nL := 7) rfl rfl rfl rfl rfl (pc' := 165) rfl ?_
                              refine T_loop1 (fun x45 => ((96 - x45 : Int)).toNat) (fun x45 => (0 ≤ x45 ∧ x45 ≤ 96) ∧ x45 ≤ p4) (fun x45 => TJ xs (fun σ' => IF (MEd (Int.toNat p1)) σ σ' ∧ Eq (σ' 41 0 0) F ∧ eqn (fun q => F ((Int.toNat (96 * p0 + p2)) + q)) (σ' 42 0 0) (Int.toNat x45) ∧ True) 1 137 165 [(0, av 35 0 0), (1, iv p0), (2, iv p1), (3, iv p2), (4, iv p3), (5, iv p4), (6, iv x45)] [] _) ?_ 0 (by omega)
                              intro x45 hp47 ih46
                              refine T_ld zk_137_165 rfl rfl rfl (pc' := 167) rfl ?_
                              refine T_ld zk_137_167 rfl rfl rfl (pc' := 169) rfl ?_
                              refine T_icmp_ge zk_137_169 (by omega) (by omega) (pc' := 172) rfl (fun h48 => ?_) (fun h49 => ?_)
                              ·
                                refine T_op zk_137_199 rfl X_ic (pc' := 200) rfl ?_
                                refine T_st (L' := [(0, av 35 0 0), (1, iv p0), (2, iv p1), (3, iv p2), (4, iv p3), (5, iv p4), (6, iv 0)]) zk_137_200 (nL := 7) rfl rfl rfl rfl rfl (pc' := 202) rfl ?_
                                refine G_know (J' := (fun σ' => IF (MEd (Int.toNat p1)) σ σ' ∧ eqn (fun q => F ((Int.toNat (96 * p0 + p2)) + q)) (σ' 42 0 0) (Int.toNat p4) ∧ Eq (σ' 41 0 0) (fcp F F (Int.toNat (96 * p0 + p2)) (Int.toNat (96 * p1 + p3)) (Int.toNat 0)) ∧ True)) (fun σ' h => ⟨h.1, (eqn_le (h.2.2.1) (by omega)), ((h.2.1).trans fcp_0.symm), trivial⟩) ?_
                                refine T_loop1 (fun x50 => ((96 - x50 : Int)).toNat) (fun x50 => (0 ≤ x50 ∧ x50 ≤ 96) ∧ x50 ≤ p4) (fun x50 => TJ xs (fun σ' => IF (MEd (Int.toNat p1)) σ σ' ∧ eqn (fun q => F ((Int.toNat (96 * p0 + p2)) + q)) (σ' 42 0 0) (Int.toNat p4) ∧ Eq (σ' 41 0 0) (fcp F F (Int.toNat (96 * p0 + p2)) (Int.toNat (96 * p1 + p3)) (Int.toNat x50)) ∧ True) 1 137 202 [(0, av 35 0 0), (1, iv p0), (2, iv p1), (3, iv p2), (4, iv p3), (5, iv p4), (6, iv x50)] [] _) ?_ 0 (by omega)
                                intro x50 hp52 ih51
                                refine T_ld zk_137_202 rfl rfl rfl (pc' := 204) rfl ?_
                                refine T_ld zk_137_204 rfl rfl rfl (pc' := 206) rfl ?_
                                refine T_icmp_ge zk_137_206 (by omega) (by omega) (pc' := 209) rfl (fun h53 => ?_) (fun h54 => ?_)
                                ·
                                  refine T_op zk_137_237 rfl X_ic (pc' := 238) rfl ?_
                                  exact T_iret zk_137_238 rfl (fun σ' h => ⟨_, rfl, (by first | omega | (have hd := (cpr_spec v0 v1 u0 u1).1 (by omega); omega) | (have hd := (cpr_spec v0 v1 u0 u1).2.1 (by omega); omega) | (have hd := (cpr_spec v0 v1 u0 u1).2.2.1 (by omega); omega) | (have hd := (cpr_spec v0 v1 u0 u1).2.2.2 (by omega); omega)), h.1, ⟨⟨fun _ => (h.2.2.1).trans (by rw [show (Int.toNat x50) = Int.toNat p4 from by omega]), fun q => absurd rfl q⟩, trivial⟩⟩)
                                ·
                                  refine T_ld zk_137_209 rfl rfl rfl (pc' := 210) rfl ?_
                                  refine T_getR (t' := 41) (i' := 0) (k' := 0) zk_137_210 rfl rfl rfl vd_35 (pc' := 213) rfl ?_
                                  refine T_op zk_137_213 rfl (X_bi (v := 96) (by decide)) (pc' := 215) rfl ?_
                                  refine T_ld zk_137_215 rfl rfl rfl (pc' := 216) rfl ?_
                                  refine T_op zk_137_216 rfl X_mul (pc' := 217) rfl ?_
                                  refine T_ld zk_137_217 rfl rfl rfl (pc' := 219) rfl ?_
                                  refine T_op zk_137_219 rfl X_add (pc' := 220) rfl ?_
                                  refine T_ld zk_137_220 rfl rfl rfl (pc' := 222) rfl ?_
                                  refine T_op zk_137_222 rfl X_add (pc' := 223) rfl ?_
                                  refine T_ld zk_137_223 rfl rfl rfl (pc' := 224) rfl ?_
                                  refine T_getR (t' := 42) (i' := 0) (k' := 0) zk_137_224 rfl rfl rfl vd_35 (pc' := 227) rfl ?_
                                  refine T_ld zk_137_227 rfl rfl rfl (pc' := 229) rfl ?_
                                  refine G_laldX (w := F ((Int.toNat (96 * p0 + p2)) + Int.toNat x50)) (ln := 96) zk_137_229 rfl rfl vd_42 (by omega) (by omega) (by omega) (fun σ' h => h.2.1 _ (by omega)) (pc' := 230) rfl ?_
                                  refine G_last (J' := (fun σ' => IF (MEd (Int.toNat p1)) σ σ' ∧ eqn (fun q => F ((Int.toNat (96 * p0 + p2)) + q)) (σ' 42 0 0) (Int.toNat p4) ∧ Eq (σ' 41 0 0) (fcp F F (Int.toNat (96 * p0 + p2)) (Int.toNat (96 * p1 + p3)) (Int.toNat (x50 + 1))) ∧ True)) (ln := 768) zk_137_230 rfl rfl vd_41 (by omega) (by omega) (by omega) (fun σ' h => ⟨h.1.up ⟨by omega, trivial⟩ (by first | exact pMEd rfl | (unfold MEd; omega)), gf_mk (fun z => eqn (fun q => F ((Int.toNat (96 * p0 + p2)) + q)) z (Int.toNat p4)) (up_row (by omega)) (h.2.1), fcp_push (h.2.2.1) (by omega) (by omega) (congrArg F (by omega)), trivial⟩) (pc' := 231) rfl ?_
                                  refine T_iinc (L' := [(0, av 35 0 0), (1, iv p0), (2, iv p1), (3, iv p2), (4, iv p3), (5, iv p4), (6, iv (x50 + 1))]) zk_137_231 (nL := 7) rfl rfl rfl rfl (pc' := 234) rfl ?_
                                  refine T_goto zk_137_234 ?_
                                  exact ih51 (x50 + 1) (by omega) (by omega)
                              ·
                                refine T_ld zk_137_172 rfl rfl rfl (pc' := 173) rfl ?_
                                refine T_getR (t' := 42) (i' := 0) (k' := 0) zk_137_173 rfl rfl rfl vd_35 (pc' := 176) rfl ?_
                                refine T_ld zk_137_176 rfl rfl rfl (pc' := 178) rfl ?_
                                refine T_ld zk_137_178 rfl rfl rfl (pc' := 179) rfl ?_
                                refine T_getR (t' := 41) (i' := 0) (k' := 0) zk_137_179 rfl rfl rfl vd_35 (pc' := 182) rfl ?_
                                refine T_op zk_137_182 rfl (X_bi (v := 96) (by decide)) (pc' := 184) rfl ?_
                                refine T_ld zk_137_184 rfl rfl rfl (pc' := 185) rfl ?_
                                refine T_op zk_137_185 rfl X_mul (pc' := 186) rfl ?_
                                refine T_ld zk_137_186 rfl rfl rfl (pc' := 187) rfl ?_
                                refine T_op zk_137_187 rfl X_add (pc' := 188) rfl ?_
                                refine T_ld zk_137_188 rfl rfl rfl (pc' := 190) rfl ?_
                                refine T_op zk_137_190 rfl X_add (pc' := 191) rfl ?_
                                refine G_laldX (w := F (Int.toNat (96 * p0 + p2 + x45))) (ln := 768) zk_137_191 rfl rfl vd_41 (by omega) (by omega) (by omega) (fun σ' h => congrFun (h.2.1) _) (pc' := 192) rfl ?_
                                refine G_last (J' := (fun σ' => IF (MEd (Int.toNat p1)) σ σ' ∧ Eq (σ' 41 0 0) F ∧ eqn (fun q => F ((Int.toNat (96 * p0 + p2)) + q)) (σ' 42 0 0) (Int.toNat (x45 + 1)) ∧ True)) (ln := 96) zk_137_192 rfl rfl vd_42 (by omega) (by omega) (by omega) (fun σ' h => ⟨h.1.up ⟨by omega, trivial⟩ (by first | exact pMEd rfl | (unfold MEd; omega)), gf_mk (fun z => Eq z F) (up_row (by omega)) (h.2.1), eqn_push (h.2.2.1) (by omega) (by omega) (congrArg F (by omega)), trivial⟩) (pc' := 193) rfl ?_
                                refine T_iinc (L' := [(0, av 35 0 0), (1, iv p0), (2, iv p1), (3, iv p2), (4, iv p3), (5, iv p4), (6, iv (x45 + 1))]) zk_137_193 (nL := 7) rfl rfl rfl rfl (pc' := 196) rfl ?_
                                refine T_goto zk_137_196 ?_
                                exact ih46 (x45 + 1) (by omega) (by omega)
                            ·
                              refine T_ld zk_137_155 rfl rfl rfl (pc' := 156) rfl ?_
                              refine T_op zk_137_156 rfl (X_bi (v := -5) (by decide)) (pc' := 158) rfl ?_
                              refine T_calli (K := fun y55 σ' => (y55 = (-5)) ∧ (fun σ' => IF (MEd (Int.toNat p1)) σ σ' ∧ Eq (σ' 41 0 0) F ∧ True) σ') (r := []) zk_137_158 rfl rfl rfl rfl rfl rfl (Or.inr ⟨_, _, _, _, rfl, vd_35, rfl⟩) (fun σ' h => (m_123 ((-5)) (by omega) σ' h.1.1 ).le (Nat.le_of_ble_eq_true rfl) (fun v σ2 ⟨y, h1, h2, h3, h4⟩ => ⟨y, h1, h2, h.1.tr h3 (fun t i k j h => by unfold MT at h; unfold MEd; omega), gf_mk (fun z => Eq z F) (funext fun j => h3.2 _ _ _ _ (by first | exact nMT rfl | (unfold MT; omega))) (h.2.1), trivial⟩)) (pc' := 161) rfl (fun y55 => ?_)
                              refine G_ex (fun hy55 => ?_)
                              obtain rfl : y55 = (-5) := by omega
                              exact T_iret zk_137_161 rfl (fun σ' h => ⟨_, rfl, (by first | omega | (have hd := (cpr_spec v0 v1 u0 u1).1 (by omega); omega) | (have hd := (cpr_spec v0 v1 u0 u1).2.1 (by omega); omega) | (have hd := (cpr_spec v0 v1 u0 u1).2.2.1 (by omega); omega) | (have hd := (cpr_spec v0 v1 u0 u1).2.2.2 (by omega); omega)), h.1, ⟨⟨fun q => by exfalso; omega, fun _ => h.2.1⟩, trivial⟩⟩)
                    ·
                      refine T_ld zk_137_112 rfl rfl rfl (pc' := 113) rfl ?_
                      refine T_op zk_137_113 rfl (X_bi (v := -4) (by decide)) (pc' := 115) rfl ?_
                      refine T_calli (K := fun y56 σ' => (y56 = (-4)) ∧ (fun σ' => IF (MEd (Int.toNat p1)) σ σ' ∧ Eq (σ' 41 0 0) F ∧ True) σ') (r := []) zk_137_115 rfl rfl rfl rfl rfl rfl (Or.inr ⟨_, _, _, _, rfl, vd_35, rfl⟩) (fun σ' h => (m_123 ((-4)) (by omega) σ' h.1.1 ).le (Nat.le_of_ble_eq_true rfl) (fun v σ2 ⟨y, h1, h2, h3, h4⟩ => ⟨y, h1, h2, h.1.tr h3 (fun t i k j h => by unfold MT at h; unfold MEd; omega), gf_mk (fun z => Eq z F) (funext fun j => h3.2 _ _ _ _ (by first | exact nMT rfl | (unfold MT; omega))) (h.2.1), trivial⟩)) (pc' := 118) rfl (fun y56 => ?_)
                      refine G_ex (fun hy56 => ?_)
                      obtain rfl : y56 = (-4) := by omega
                      exact T_iret zk_137_118 rfl (fun σ' h => ⟨_, rfl, (by first | omega | (have hd := (cpr_spec v0 v1 u0 u1).1 (by omega); omega) | (have hd := (cpr_spec v0 v1 u0 u1).2.1 (by omega); omega) | (have hd := (cpr_spec v0 v1 u0 u1).2.2.1 (by omega); omega) | (have hd := (cpr_spec v0 v1 u0 u1).2.2.2 (by omega); omega)), h.1, ⟨⟨fun q => by exfalso; omega, fun _ => h.2.1⟩, trivial⟩⟩)
                  · exfalso; omega
              ·
                refine T_ld zk_137_75 rfl rfl rfl (pc' := 76) rfl ?_
                refine T_op zk_137_76 rfl (X_bi (v := -2) (by decide)) (pc' := 78) rfl ?_
                refine T_calli (K := fun y57 σ' => (y57 = (-2)) ∧ (fun σ' => IF (MEd (Int.toNat p1)) σ σ' ∧ Eq (σ' 41 0 0) F ∧ True) σ') (r := []) zk_137_78 rfl rfl rfl rfl rfl rfl (Or.inr ⟨_, _, _, _, rfl, vd_35, rfl⟩) (fun σ' h => (m_123 ((-2)) (by omega) σ' h.1.1 ).le (Nat.le_of_ble_eq_true rfl) (fun v σ2 ⟨y, h1, h2, h3, h4⟩ => ⟨y, h1, h2, h.1.tr h3 (fun t i k j h => by unfold MT at h; unfold MEd; omega), gf_mk (fun z => Eq z F) (funext fun j => h3.2 _ _ _ _ (by first | exact nMT rfl | (unfold MT; omega))) (h.2.1), trivial⟩)) (pc' := 81) rfl (fun y57 => ?_)
                refine G_ex (fun hy57 => ?_)
                obtain rfl : y57 = (-2) := by omega
                exact T_iret zk_137_81 rfl (fun σ' h => ⟨_, rfl, (by first | omega | (have hd := (cpr_spec v0 v1 u0 u1).1 (by omega); omega) | (have hd := (cpr_spec v0 v1 u0 u1).2.1 (by omega); omega) | (have hd := (cpr_spec v0 v1 u0 u1).2.2.1 (by omega); omega) | (have hd := (cpr_spec v0 v1 u0 u1).2.2.2 (by omega); omega)), h.1, ⟨⟨fun q => by exfalso; omega, fun _ => h.2.1⟩, trivial⟩⟩)
    ·
      refine T_ld zk_137_14 rfl rfl rfl (pc' := 15) rfl ?_
      refine T_op zk_137_15 rfl X_ic (pc' := 16) rfl ?_
      refine T_calli (K := fun y58 σ' => (y58 = (-1)) ∧ (fun σ' => IF (MEd (Int.toNat p1)) σ σ' ∧ Eq (σ' 41 0 0) F ∧ True) σ') (r := []) zk_137_16 rfl rfl rfl rfl rfl rfl (Or.inr ⟨_, _, _, _, rfl, vd_35, rfl⟩) (fun σ' h => (m_123 ((-1)) (by omega) σ' h.1.1 ).le (Nat.le_of_ble_eq_true rfl) (fun v σ2 ⟨y, h1, h2, h3, h4⟩ => ⟨y, h1, h2, h.1.tr h3 (fun t i k j h => by unfold MT at h; unfold MEd; omega), gf_mk (fun z => Eq z F) (funext fun j => h3.2 _ _ _ _ (by first | exact nMT rfl | (unfold MT; omega))) (h.2.1), trivial⟩)) (pc' := 19) rfl (fun y58 => ?_)
      refine G_ex (fun hy58 => ?_)
      obtain rfl : y58 = (-1) := by omega
      exact T_iret zk_137_19 rfl (fun σ' h => ⟨_, rfl, (by first | omega | (have hd := (cpr_spec v0 v1 u0 u1).1 (by omega); omega) | (have hd := (cpr_spec v0 v1 u0 u1).2.1 (by omega); omega) | (have hd := (cpr_spec v0 v1 u0 u1).2.2.1 (by omega); omega) | (have hd := (cpr_spec v0 v1 u0 u1).2.2.2 (by omega); omega)), h.1, ⟨⟨fun q => by exfalso; omega, fun _ => h.2.1⟩, trivial⟩⟩)
