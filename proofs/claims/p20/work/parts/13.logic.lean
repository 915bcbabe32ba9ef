/-! a logic for the small machine over the layout -/
def TT (xs : Nat × (Nat → Int32)) (d m pc : Nat) (L : XL) (st : List Value) (σ : ZS) (Q : Option Value → ZS → Prop) : Prop := ∃ (n : Nat) (v : Option Value) (σ' : ZS), xgo xs (xrun xs n d) m n pc L st (hp σ) = some (v, hp σ') ∧ Q v σ'
def CT (xs : Nat × (Nat → Int32)) (d m : Nat) (a : List Value) (σ : ZS) (Q : Option Value → ZS → Prop) : Prop := ∃ (n : Nat) (v : Option Value) (σ' : ZS), xrun xs n d m a (hp σ) = some (v, hp σ') ∧ Q v σ'
def TJ (xs : Nat × (Nat → Int32)) (J : ZS → Prop) (d m pc : Nat) (L : XL) (st : List Value) (Q : Option Value → ZS → Prop) : Prop := ∀ σ, J σ → TT xs d m pc L st σ Q
theorem CT.le {xs : Nat × (Nat → Int32)} {d d' m : Nat} {a : List Value} {σ : ZS} {Q Q' : Option Value → ZS → Prop} (h : CT xs d m a σ Q) (hd : d ≤ d') (hq : ∀ v σ', Q v σ' → Q' v σ') : CT xs d' m a σ Q' := by
  obtain ⟨n, v, σ', h1, h2⟩ := h
  exact ⟨n, v, σ', xrun_sub (Nat.le_refl n) hd _ _ _ _ h1, hq _ _ h2⟩
theorem CT.of {xs : Nat × (Nat → Int32)} {d m nL : Nat} {a : List Value} {L : XL} {σ : ZS} {Q : Option Value → ZS → Prop} (hn : zMl m = nL) (hl : (lg_sl a).length ≤ nL) (hL : xent 0 a = L) (h : TT xs d m 0 L [] σ Q) : CT xs (d + 1) m a σ Q := by
  obtain ⟨n, v, σ', h1, h2⟩ := h
  refine ⟨n, v, σ', ?_, h2⟩
  simp only [xrun]
  rw [if_pos (by rw [hn]; exact hl), hL]
  exact h1
theorem iv_of (w : Int32) : iv w.toInt = .int w := congrArg Value.int (I_of w)
theorem jv_of (w : Int64) : jv w.toInt = .long w := congrArg Value.long (J_of w)
theorem J_i2l {x : Int} (hx : -2147483648 ≤ x ∧ x ≤ 2147483647) : (Int32.ofInt x).toInt64 = Int64.ofInt x := by
  rw [← Int64.toInt_inj, Int32.toInt_toInt64, I_toInt hx.1 hx.2, Int64.toInt_ofInt_of_le (by simp; omega) (by omega)]
section LG
variable {xs : Nat × (Nat → Int32)} {d m pc pc' : Nat} {L L' : XL} {st st' r : List Value} {σ σ' : ZS} {Q : Option Value → ZS → Prop} {J J' : ZS → Prop} {i : Instr} {a1 a2 p : Nat} {c : Int}
theorem TT.step {h : XH} (ho : ∀ call, xone xs call m pc L st (hp σ) = some (.inl (pc', L', st', hp σ'))) (k : TT xs d m pc' L' st' σ' Q) : TT xs d m pc L st σ Q := by
  obtain ⟨n, v, σ2, h, q⟩ := k
  refine ⟨n + 1, v, σ2, ?_, q⟩
  simp only [xgo, ho]
  exact xgo_sub (xrun_sub (Nat.le_succ n) (Nat.le_refl d)) (Nat.le_refl n) h
theorem xone_op {call : XF} {h : XH} {en : zE} (hz : zc m pc = some en) (h1 : xinv en.1 = false) (h2 : xop en.1 st = some st') : xone xs call m pc L st h = some (.inl (pc + zLen en.1, L, st', h)) := by
  unfold xone
  rw [hz]
  dsimp only
  rw [h1, if_neg (by decide), h2]
theorem xone_ld {call : XF} {h : XH} {en : zE} {v : Value} (hz : zc m pc = some en) (h1 : xinv en.1 = false) (h2 : xop en.1 st = none) (h3 : xld en.1 L = some v) : xone xs call m pc L st h = some (.inl (pc + zLen en.1, L, v :: st, h)) := by
  unfold xone
  rw [hz]
  dsimp only
  rw [h1, if_neg (by decide), h2]
  dsimp only
  rw [h3]
theorem xone_st {call : XF} {h : XH} {en : zE} (hz : zc m pc = some en) (h1 : xinv en.1 = false) (h2 : xop en.1 st = none) (h3 : xld en.1 L = none) (h4 : xst (zMl m) en.1 L st = some (L', st')) : xone xs call m pc L st h = some (.inl (pc + zLen en.1, L', st', h)) := by
  unfold xone
  rw [hz]
  dsimp only
  rw [h1, if_neg (by decide), h2]
  dsimp only
  rw [h3]
  dsimp only
  rw [h4]
theorem xone_br {call : XF} {h : XH} {en : zE} {t : Nat} (hz : zc m pc = some en) (h1 : xinv en.1 = false) (h2 : xop en.1 st = none) (h3 : xld en.1 L = none) (h4 : ∀ n, xst n en.1 L st = none) (h5 : xbr en.1 en.2.1 pc st = some (t, st')) : xone xs call m pc L st h = some (.inl (t, L, st', h)) := by
  unfold xone
  rw [hz]
  dsimp only
  rw [h1, if_neg (by decide), h2]
  dsimp only
  rw [h3]
  dsimp only
  rw [h4]
  dsimp only
  rw [h5]
theorem xone_hp {call : XF} {h h' : XH} {en : zE} (hz : zc m pc = some en) (h1 : xinv en.1 = false) (h2 : xop en.1 st = none) (h3 : xld en.1 L = none) (h4 : ∀ n, xst n en.1 L st = none) (h5 : ∀ t, xbr en.1 t pc st = none) (h6 : xhp xs ((zMrow m).2.1 == "<init>") (zMo m) en st h = some (st', h')) : xone xs call m pc L st h = some (.inl (pc + zLen en.1, L, st', h')) := by
  unfold xone
  rw [hz]
  dsimp only
  rw [h1, if_neg (by decide), h2]
  dsimp only
  rw [h3]
  dsimp only
  rw [h4]
  dsimp only
  rw [h5]
  dsimp only
  rw [h6]
/-- an instruction on the stack alone -/
theorem T_op (hz : zc m pc = some (i, a1, a2, c, p)) (h1 : xinv i = false) (ho : xop i st = some st') (hp' : pc + zLen i = pc') (k : TJ xs J d m pc' L st' Q) : TJ xs J d m pc L st Q := fun σ hJ => TT.step (h := []) (fun call => by rw [xone_op hz h1 ho, hp']) (k σ hJ)
theorem T_ld {v : Value} (hz : zc m pc = some (i, a1, a2, c, p)) (h1 : xinv i = false) (h2 : xop i st = none) (h3 : xld i L = some v) (hp' : pc + zLen i = pc') (k : TJ xs J d m pc' L (v :: st) Q) : TJ xs J d m pc L st Q := fun σ hJ => TT.step (h := []) (fun call => by rw [xone_ld hz h1 h2 h3, hp']) (k σ hJ)
theorem T_st {nL : Nat} (hz : zc m pc = some (i, a1, a2, c, p)) (hn : zMl m = nL) (h1 : xinv i = false) (h2 : xop i st = none) (h3 : xld i L = none) (h4 : xst nL i L st = some (L', st')) (hp' : pc + zLen i = pc') (k : TJ xs J d m pc' L' st' Q) : TJ xs J d m pc L st Q := fun σ hJ => TT.step (h := []) (fun call => by rw [xone_st hz h1 h2 h3 (by rw [hn]; exact h4), hp']) (k σ hJ)
theorem T_br {t : Nat} (hz : zc m pc = some (i, a1, a2, c, p)) (h1 : xinv i = false) (h2 : xop i st = none) (h3 : xld i L = none) (h4 : ∀ n, xst n i L st = none) (h5 : xbr i a1 pc st = some (t, st')) (k : TJ xs J d m t L st' Q) : TJ xs J d m pc L st Q := fun σ hJ => TT.step (h := []) (fun call => xone_br hz h1 h2 h3 h4 h5) (k σ hJ)
theorem T_goto {off : Int} (hz : zc m pc = some (.goto off, a1, a2, c, p)) (k : TJ xs J d m a1 L st Q) : TJ xs J d m pc L st Q := T_br hz rfl rfl rfl (fun _ => rfl) rfl k
/-- arithmetic -/
theorem X_add {x y : Int} : xop .iadd (iv y :: iv x :: r) = some (iv (x + y) :: r) := by simp [xop, Int32.ofInt_add]
theorem X_sub {x y : Int} : xop .isub (iv y :: iv x :: r) = some (iv (x - y) :: r) := by simp [xop, Int32.ofInt_sub]
theorem X_mul {x y : Int} : xop .imul (iv y :: iv x :: r) = some (iv (x * y) :: r) := by simp [xop, Int32.ofInt_mul]
theorem X_neg {x : Int} : xop .ineg (iv x :: r) = some (iv (-x) :: r) := by simp [xop, Int32.ofInt_neg]
theorem X_div {x y : Int} (hx : 0 ≤ x ∧ x ≤ 2147483647) (hy : 0 < y ∧ y ≤ 2147483647) : xop .idiv (iv y :: iv x :: r) = some (iv (x / y) :: r) := by simp only [xop, if_neg (I_ne0 hy), I_div hx hy]
theorem X_rem {x y : Int} (hx : 0 ≤ x ∧ x ≤ 2147483647) (hy : 0 < y ∧ y ≤ 2147483647) : xop .irem (iv y :: iv x :: r) = some (iv (x % y) :: r) := by simp only [xop, if_neg (I_ne0 hy), I_rem hx hy]
/-- what isn't followed: some int, some long -/
def xun (i : Instr) : Bool := match i with
  | .iand => true
  | .ior => true
  | .ishl => true
  | .ishr => true
  | .imul => true
  | .iadd => true
  | .isub => true
  | _ => false
theorem T_unk {x y : Int} (hz : zc m pc = some (i, a1, a2, c, p)) (hu : xun i = true) (k : ∀ z : Int, TJ xs J d m (pc + 1) L (iv z :: r) Q) : TJ xs J d m pc L (iv y :: iv x :: r) Q := by
  have h : ∃ w : Int32, xop i (iv y :: iv x :: r) = some (.int w :: r) ∧ xinv i = false ∧ zLen i = 1 := by
    cases i <;> simp [xun] at hu <;> exact ⟨_, rfl, rfl, rfl⟩
  obtain ⟨w, h1, h2, h3⟩ := h
  refine T_op hz h2 (h1.trans ?_) (by rw [h3]) (k w.toInt)
  rw [iv_of]
theorem T_unkD {x y : Int} (hz : zc m pc = some (i, a1, a2, c, p)) (hu : i = .idiv ∨ i = .irem) (hy : ¬ Int32.ofInt y = 0) (k : ∀ z : Int, TJ xs J d m (pc + 1) L (iv z :: r) Q) : TJ xs J d m pc L (iv y :: iv x :: r) Q := by
  rcases hu with rfl | rfl
  · refine T_op hz rfl (st' := .int (Int32.ofInt x / Int32.ofInt y) :: r) (by simp only [xop, if_neg hy]) rfl ?_
    have := k (Int32.ofInt x / Int32.ofInt y).toInt
    rwa [iv_of] at this
  · refine T_op hz rfl (st' := .int (Int32.ofInt x - Int32.ofInt x / Int32.ofInt y * Int32.ofInt y) :: r) (by simp only [xop, if_neg hy]) rfl ?_
    have := k (Int32.ofInt x - Int32.ofInt x / Int32.ofInt y * Int32.ofInt y).toInt
    rwa [iv_of] at this
def xunL (i : Instr) : Bool := match i with
  | .ladd => true
  | .land => true
  | .lor => true
  | .lxor => true
  | _ => false
theorem T_unkL {x y : Int} (hz : zc m pc = some (i, a1, a2, c, p)) (hu : xunL i = true) (k : ∀ z : Int, TJ xs J d m (pc + 1) L (jv z :: r) Q) : TJ xs J d m pc L (jv y :: jv x :: r) Q := by
  have h : ∃ w : Int64, xop i (jv y :: jv x :: r) = some (.long w :: r) ∧ xinv i = false ∧ zLen i = 1 := by
    cases i <;> simp [xunL] at hu <;> exact ⟨_, rfl, rfl, rfl⟩
  obtain ⟨w, h1, h2, h3⟩ := h
  refine T_op hz h2 (h1.trans ?_) (by rw [h3]) (k w.toInt)
  rw [jv_of]
def xunS (i : Instr) : Bool := match i with
  | .lshl => true
  | .lushr => true
  | _ => false
theorem T_unkS {x y : Int} (hz : zc m pc = some (i, a1, a2, c, p)) (hu : xunS i = true) (k : ∀ z : Int, TJ xs J d m (pc + 1) L (jv z :: r) Q) : TJ xs J d m pc L (iv y :: jv x :: r) Q := by
  have h : ∃ w : Int64, xop i (iv y :: jv x :: r) = some (.long w :: r) ∧ xinv i = false ∧ zLen i = 1 := by
    cases i <;> simp [xunS] at hu <;> exact ⟨_, rfl, rfl, rfl⟩
  obtain ⟨w, h1, h2, h3⟩ := h
  refine T_op hz h2 (h1.trans ?_) (by rw [h3]) (k w.toInt)
  rw [jv_of]
theorem T_lcmp {x y : Int} (hz : zc m pc = some (.lcmp, a1, a2, c, p)) (k : ∀ z : Int, -1 ≤ z → z ≤ 1 → (z = 0 ↔ Int64.ofInt x = Int64.ofInt y) → TJ xs J d m (pc + 1) L (iv z :: r) Q) : TJ xs J d m pc L (jv y :: jv x :: r) Q := by
  refine T_op hz rfl (st' := .int (lg_cmp (Int64.ofInt x) (Int64.ofInt y)) :: r) rfl rfl ?_
  unfold lg_cmp
  split
  · rename_i hlt
    exact k 1 (by omega) (by omega) ⟨fun q => by omega, fun q => by rw [q] at hlt; exact absurd hlt (Int64.lt_irrefl)⟩
  · split
    · rename_i he
      exact k 0 (by omega) (by omega) ⟨fun _ => he, fun _ => rfl⟩
    · rename_i he
      exact k (-1) (by omega) (by omega) ⟨fun q => by omega, fun q => absurd q he⟩
theorem T_i2l {x : Int} (hx : -2147483648 ≤ x ∧ x ≤ 2147483647) (hz : zc m pc = some (.i2l, a1, a2, c, p)) (k : TJ xs J d m (pc + 1) L (jv x :: r) Q) : TJ xs J d m pc L (iv x :: r) Q := by
  refine T_op hz rfl (st' := jv x :: r) ?_ rfl k
  simp only [xop, J_i2l hx]
def xunI (i : Instr) : Bool := match i with
  | .ineg => true
  | .i2b => true
  | .i2s => true
  | _ => false
theorem T_unkI {x : Int} (hz : zc m pc = some (i, a1, a2, c, p)) (hu : xunI i = true) (k : ∀ z : Int, TJ xs J d m (pc + 1) L (iv z :: r) Q) : TJ xs J d m pc L (iv x :: r) Q := by
  have h : ∃ w : Int32, xop i (iv x :: r) = some (.int w :: r) ∧ xinv i = false ∧ zLen i = 1 := by
    cases i <;> simp [xunI] at hu <;> exact ⟨_, rfl, rfl, rfl⟩
  obtain ⟨w, h1, h2, h3⟩ := h
  refine T_op hz h2 (h1.trans ?_) (by rw [h3]) (k w.toInt)
  rw [iv_of]
theorem T_i2lU {x : Int} (hz : zc m pc = some (.i2l, a1, a2, c, p)) (k : ∀ z : Int, TJ xs J d m (pc + 1) L (jv z :: r) Q) : TJ xs J d m pc L (iv x :: r) Q := by
  refine T_op hz rfl (st' := .long (Int32.ofInt x).toInt64 :: r) rfl rfl ?_
  have := k (Int32.ofInt x).toInt64.toInt
  rwa [jv_of] at this
theorem T_l2iU {x : Int} (hz : zc m pc = some (.l2i, a1, a2, c, p)) (k : ∀ z : Int, -2147483648 ≤ z → z ≤ 2147483647 → Int32.ofInt z = (Int64.ofInt x).toInt32 → TJ xs J d m (pc + 1) L (iv z :: r) Q) : TJ xs J d m pc L (jv x :: r) Q := by
  refine T_op hz rfl (st' := .int (Int64.ofInt x).toInt32 :: r) rfl rfl ?_
  have := k (Int64.ofInt x).toInt32.toInt (Int32.le_toInt _) (Int32.toInt_le _) (I_of _)
  rwa [iv_of] at this
theorem T_icmp_eq {x y : Int} {off : Int} (hz : zc m pc = some (.if_icmp .eq off, a1, a2, c, p)) (hx : -2147483648 ≤ x ∧ x ≤ 2147483647) (hy : -2147483648 ≤ y ∧ y ≤ 2147483647) (hp' : pc + 3 = pc') (kt : x = y → TJ xs J d m a1 L r Q) (kf : ¬ x = y → TJ xs J d m pc' L r Q) : TJ xs J d m pc L (iv y :: iv x :: r) Q := by
  by_cases hc : x = y
  · exact T_br hz rfl rfl rfl (fun _ => rfl) (t := a1) (by simp only [xbr, I_eq hx hy]; rw [if_pos hc]) (kt hc)
  · exact T_br hz rfl rfl rfl (fun _ => rfl) (t := pc') (by simp only [xbr, I_eq hx hy]; rw [if_neg hc, hp']) (kf (by omega))
theorem T_if_eq {x : Int} {off : Int} (hz : zc m pc = some (.ifCond .eq off, a1, a2, c, p)) (hx : -2147483648 ≤ x ∧ x ≤ 2147483647) (hp' : pc + 3 = pc') (kt : x = 0 → TJ xs J d m a1 L r Q) (kf : ¬ x = 0 → TJ xs J d m pc' L r Q) : TJ xs J d m pc L (iv x :: r) Q := by
  have hy : -2147483648 ≤ (0 : Int) ∧ (0 : Int) ≤ 2147483647 := by omega
  have h0 : (0 : Int32) = Int32.ofInt 0 := rfl
  by_cases hc : x = 0
  · exact T_br hz rfl rfl rfl (fun _ => rfl) (t := a1) (by simp only [xbr, h0, I_eq hx hy]; rw [if_pos hc]) (kt hc)
  · exact T_br hz rfl rfl rfl (fun _ => rfl) (t := pc') (by simp only [xbr, h0, I_eq hx hy]; rw [if_neg hc, hp']) (kf (by omega))
theorem T_ucmp_eq {x y : Int} {off : Int} (hz : zc m pc = some (.if_icmp .eq off, a1, a2, c, p)) (hp' : pc + 3 = pc') (kt : TJ xs J d m a1 L r Q) (kf : TJ xs J d m pc' L r Q) : TJ xs J d m pc L (iv y :: iv x :: r) Q := by
  by_cases hc : Int32.ofInt x = Int32.ofInt y
  · exact T_br hz rfl rfl rfl (fun _ => rfl) (t := a1) (by simp only [xbr]; rw [if_pos hc]) kt
  · exact T_br hz rfl rfl rfl (fun _ => rfl) (t := pc') (by simp only [xbr]; rw [if_neg hc, hp']) kf
theorem T_uif_eq {x : Int} {off : Int} (hz : zc m pc = some (.ifCond .eq off, a1, a2, c, p)) (hp' : pc + 3 = pc') (kt : TJ xs J d m a1 L r Q) (kf : TJ xs J d m pc' L r Q) : TJ xs J d m pc L (iv x :: r) Q := by
  by_cases hc : Int32.ofInt x = (0 : Int32)
  · exact T_br hz rfl rfl rfl (fun _ => rfl) (t := a1) (by simp only [xbr]; rw [if_pos hc]) kt
  · exact T_br hz rfl rfl rfl (fun _ => rfl) (t := pc') (by simp only [xbr]; rw [if_neg hc, hp']) kf
theorem T_icmp_ne {x y : Int} {off : Int} (hz : zc m pc = some (.if_icmp .ne off, a1, a2, c, p)) (hx : -2147483648 ≤ x ∧ x ≤ 2147483647) (hy : -2147483648 ≤ y ∧ y ≤ 2147483647) (hp' : pc + 3 = pc') (kt : ¬ x = y → TJ xs J d m a1 L r Q) (kf : x = y → TJ xs J d m pc' L r Q) : TJ xs J d m pc L (iv y :: iv x :: r) Q := by
  by_cases hc : ¬ x = y
  · exact T_br hz rfl rfl rfl (fun _ => rfl) (t := a1) (by simp only [xbr, I_eq hx hy]; rw [if_pos hc]) (kt hc)
  · exact T_br hz rfl rfl rfl (fun _ => rfl) (t := pc') (by simp only [xbr, I_eq hx hy]; rw [if_neg hc, hp']) (kf (by omega))
theorem T_if_ne {x : Int} {off : Int} (hz : zc m pc = some (.ifCond .ne off, a1, a2, c, p)) (hx : -2147483648 ≤ x ∧ x ≤ 2147483647) (hp' : pc + 3 = pc') (kt : ¬ x = 0 → TJ xs J d m a1 L r Q) (kf : x = 0 → TJ xs J d m pc' L r Q) : TJ xs J d m pc L (iv x :: r) Q := by
  have hy : -2147483648 ≤ (0 : Int) ∧ (0 : Int) ≤ 2147483647 := by omega
  have h0 : (0 : Int32) = Int32.ofInt 0 := rfl
  by_cases hc : ¬ x = 0
  · exact T_br hz rfl rfl rfl (fun _ => rfl) (t := a1) (by simp only [xbr, h0, I_eq hx hy]; rw [if_pos hc]) (kt hc)
  · exact T_br hz rfl rfl rfl (fun _ => rfl) (t := pc') (by simp only [xbr, h0, I_eq hx hy]; rw [if_neg hc, hp']) (kf (by omega))
theorem T_ucmp_ne {x y : Int} {off : Int} (hz : zc m pc = some (.if_icmp .ne off, a1, a2, c, p)) (hp' : pc + 3 = pc') (kt : TJ xs J d m a1 L r Q) (kf : TJ xs J d m pc' L r Q) : TJ xs J d m pc L (iv y :: iv x :: r) Q := by
  by_cases hc : ¬ Int32.ofInt x = Int32.ofInt y
  · exact T_br hz rfl rfl rfl (fun _ => rfl) (t := a1) (by simp only [xbr]; rw [if_pos hc]) kt
  · exact T_br hz rfl rfl rfl (fun _ => rfl) (t := pc') (by simp only [xbr]; rw [if_neg hc, hp']) kf
theorem T_uif_ne {x : Int} {off : Int} (hz : zc m pc = some (.ifCond .ne off, a1, a2, c, p)) (hp' : pc + 3 = pc') (kt : TJ xs J d m a1 L r Q) (kf : TJ xs J d m pc' L r Q) : TJ xs J d m pc L (iv x :: r) Q := by
  by_cases hc : ¬ Int32.ofInt x = (0 : Int32)
  · exact T_br hz rfl rfl rfl (fun _ => rfl) (t := a1) (by simp only [xbr]; rw [if_pos hc]) kt
  · exact T_br hz rfl rfl rfl (fun _ => rfl) (t := pc') (by simp only [xbr]; rw [if_neg hc, hp']) kf
theorem T_icmp_lt {x y : Int} {off : Int} (hz : zc m pc = some (.if_icmp .lt off, a1, a2, c, p)) (hx : -2147483648 ≤ x ∧ x ≤ 2147483647) (hy : -2147483648 ≤ y ∧ y ≤ 2147483647) (hp' : pc + 3 = pc') (kt : x < y → TJ xs J d m a1 L r Q) (kf : y ≤ x → TJ xs J d m pc' L r Q) : TJ xs J d m pc L (iv y :: iv x :: r) Q := by
  by_cases hc : x < y
  · exact T_br hz rfl rfl rfl (fun _ => rfl) (t := a1) (by simp only [xbr, I_lt hx hy]; rw [if_pos hc]) (kt hc)
  · exact T_br hz rfl rfl rfl (fun _ => rfl) (t := pc') (by simp only [xbr, I_lt hx hy]; rw [if_neg hc, hp']) (kf (by omega))
theorem T_if_lt {x : Int} {off : Int} (hz : zc m pc = some (.ifCond .lt off, a1, a2, c, p)) (hx : -2147483648 ≤ x ∧ x ≤ 2147483647) (hp' : pc + 3 = pc') (kt : x < 0 → TJ xs J d m a1 L r Q) (kf : 0 ≤ x → TJ xs J d m pc' L r Q) : TJ xs J d m pc L (iv x :: r) Q := by
  have hy : -2147483648 ≤ (0 : Int) ∧ (0 : Int) ≤ 2147483647 := by omega
  have h0 : (0 : Int32) = Int32.ofInt 0 := rfl
  by_cases hc : x < 0
  · exact T_br hz rfl rfl rfl (fun _ => rfl) (t := a1) (by simp only [xbr, h0, I_lt hx hy]; rw [if_pos hc]) (kt hc)
  · exact T_br hz rfl rfl rfl (fun _ => rfl) (t := pc') (by simp only [xbr, h0, I_lt hx hy]; rw [if_neg hc, hp']) (kf (by omega))
theorem T_ucmp_lt {x y : Int} {off : Int} (hz : zc m pc = some (.if_icmp .lt off, a1, a2, c, p)) (hp' : pc + 3 = pc') (kt : TJ xs J d m a1 L r Q) (kf : TJ xs J d m pc' L r Q) : TJ xs J d m pc L (iv y :: iv x :: r) Q := by
  by_cases hc : Int32.ofInt x < Int32.ofInt y
  · exact T_br hz rfl rfl rfl (fun _ => rfl) (t := a1) (by simp only [xbr]; rw [if_pos hc]) kt
  · exact T_br hz rfl rfl rfl (fun _ => rfl) (t := pc') (by simp only [xbr]; rw [if_neg hc, hp']) kf
theorem T_uif_lt {x : Int} {off : Int} (hz : zc m pc = some (.ifCond .lt off, a1, a2, c, p)) (hp' : pc + 3 = pc') (kt : TJ xs J d m a1 L r Q) (kf : TJ xs J d m pc' L r Q) : TJ xs J d m pc L (iv x :: r) Q := by
  by_cases hc : Int32.ofInt x < (0 : Int32)
  · exact T_br hz rfl rfl rfl (fun _ => rfl) (t := a1) (by simp only [xbr]; rw [if_pos hc]) kt
  · exact T_br hz rfl rfl rfl (fun _ => rfl) (t := pc') (by simp only [xbr]; rw [if_neg hc, hp']) kf
theorem T_icmp_ge {x y : Int} {off : Int} (hz : zc m pc = some (.if_icmp .ge off, a1, a2, c, p)) (hx : -2147483648 ≤ x ∧ x ≤ 2147483647) (hy : -2147483648 ≤ y ∧ y ≤ 2147483647) (hp' : pc + 3 = pc') (kt : y ≤ x → TJ xs J d m a1 L r Q) (kf : x < y → TJ xs J d m pc' L r Q) : TJ xs J d m pc L (iv y :: iv x :: r) Q := by
  by_cases hc : y ≤ x
  · exact T_br hz rfl rfl rfl (fun _ => rfl) (t := a1) (by simp only [xbr, I_le hy hx]; rw [if_pos hc]) (kt hc)
  · exact T_br hz rfl rfl rfl (fun _ => rfl) (t := pc') (by simp only [xbr, I_le hy hx]; rw [if_neg hc, hp']) (kf (by omega))
theorem T_if_ge {x : Int} {off : Int} (hz : zc m pc = some (.ifCond .ge off, a1, a2, c, p)) (hx : -2147483648 ≤ x ∧ x ≤ 2147483647) (hp' : pc + 3 = pc') (kt : 0 ≤ x → TJ xs J d m a1 L r Q) (kf : x < 0 → TJ xs J d m pc' L r Q) : TJ xs J d m pc L (iv x :: r) Q := by
  have hy : -2147483648 ≤ (0 : Int) ∧ (0 : Int) ≤ 2147483647 := by omega
  have h0 : (0 : Int32) = Int32.ofInt 0 := rfl
  by_cases hc : 0 ≤ x
  · exact T_br hz rfl rfl rfl (fun _ => rfl) (t := a1) (by simp only [xbr, h0, I_le hy hx]; rw [if_pos hc]) (kt hc)
  · exact T_br hz rfl rfl rfl (fun _ => rfl) (t := pc') (by simp only [xbr, h0, I_le hy hx]; rw [if_neg hc, hp']) (kf (by omega))
theorem T_ucmp_ge {x y : Int} {off : Int} (hz : zc m pc = some (.if_icmp .ge off, a1, a2, c, p)) (hp' : pc + 3 = pc') (kt : TJ xs J d m a1 L r Q) (kf : TJ xs J d m pc' L r Q) : TJ xs J d m pc L (iv y :: iv x :: r) Q := by
  by_cases hc : Int32.ofInt y ≤ Int32.ofInt x
  · exact T_br hz rfl rfl rfl (fun _ => rfl) (t := a1) (by simp only [xbr]; rw [if_pos hc]) kt
  · exact T_br hz rfl rfl rfl (fun _ => rfl) (t := pc') (by simp only [xbr]; rw [if_neg hc, hp']) kf
theorem T_uif_ge {x : Int} {off : Int} (hz : zc m pc = some (.ifCond .ge off, a1, a2, c, p)) (hp' : pc + 3 = pc') (kt : TJ xs J d m a1 L r Q) (kf : TJ xs J d m pc' L r Q) : TJ xs J d m pc L (iv x :: r) Q := by
  by_cases hc : (0 : Int32) ≤ Int32.ofInt x
  · exact T_br hz rfl rfl rfl (fun _ => rfl) (t := a1) (by simp only [xbr]; rw [if_pos hc]) kt
  · exact T_br hz rfl rfl rfl (fun _ => rfl) (t := pc') (by simp only [xbr]; rw [if_neg hc, hp']) kf
theorem T_icmp_gt {x y : Int} {off : Int} (hz : zc m pc = some (.if_icmp .gt off, a1, a2, c, p)) (hx : -2147483648 ≤ x ∧ x ≤ 2147483647) (hy : -2147483648 ≤ y ∧ y ≤ 2147483647) (hp' : pc + 3 = pc') (kt : y < x → TJ xs J d m a1 L r Q) (kf : x ≤ y → TJ xs J d m pc' L r Q) : TJ xs J d m pc L (iv y :: iv x :: r) Q := by
  by_cases hc : y < x
  · exact T_br hz rfl rfl rfl (fun _ => rfl) (t := a1) (by simp only [xbr, I_lt hy hx]; rw [if_pos hc]) (kt hc)
  · exact T_br hz rfl rfl rfl (fun _ => rfl) (t := pc') (by simp only [xbr, I_lt hy hx]; rw [if_neg hc, hp']) (kf (by omega))
theorem T_if_gt {x : Int} {off : Int} (hz : zc m pc = some (.ifCond .gt off, a1, a2, c, p)) (hx : -2147483648 ≤ x ∧ x ≤ 2147483647) (hp' : pc + 3 = pc') (kt : 0 < x → TJ xs J d m a1 L r Q) (kf : x ≤ 0 → TJ xs J d m pc' L r Q) : TJ xs J d m pc L (iv x :: r) Q := by
  have hy : -2147483648 ≤ (0 : Int) ∧ (0 : Int) ≤ 2147483647 := by omega
  have h0 : (0 : Int32) = Int32.ofInt 0 := rfl
  by_cases hc : 0 < x
  · exact T_br hz rfl rfl rfl (fun _ => rfl) (t := a1) (by simp only [xbr, h0, I_lt hy hx]; rw [if_pos hc]) (kt hc)
  · exact T_br hz rfl rfl rfl (fun _ => rfl) (t := pc') (by simp only [xbr, h0, I_lt hy hx]; rw [if_neg hc, hp']) (kf (by omega))
theorem T_ucmp_gt {x y : Int} {off : Int} (hz : zc m pc = some (.if_icmp .gt off, a1, a2, c, p)) (hp' : pc + 3 = pc') (kt : TJ xs J d m a1 L r Q) (kf : TJ xs J d m pc' L r Q) : TJ xs J d m pc L (iv y :: iv x :: r) Q := by
  by_cases hc : Int32.ofInt y < Int32.ofInt x
  · exact T_br hz rfl rfl rfl (fun _ => rfl) (t := a1) (by simp only [xbr]; rw [if_pos hc]) kt
  · exact T_br hz rfl rfl rfl (fun _ => rfl) (t := pc') (by simp only [xbr]; rw [if_neg hc, hp']) kf
theorem T_uif_gt {x : Int} {off : Int} (hz : zc m pc = some (.ifCond .gt off, a1, a2, c, p)) (hp' : pc + 3 = pc') (kt : TJ xs J d m a1 L r Q) (kf : TJ xs J d m pc' L r Q) : TJ xs J d m pc L (iv x :: r) Q := by
  by_cases hc : (0 : Int32) < Int32.ofInt x
  · exact T_br hz rfl rfl rfl (fun _ => rfl) (t := a1) (by simp only [xbr]; rw [if_pos hc]) kt
  · exact T_br hz rfl rfl rfl (fun _ => rfl) (t := pc') (by simp only [xbr]; rw [if_neg hc, hp']) kf
theorem T_icmp_le {x y : Int} {off : Int} (hz : zc m pc = some (.if_icmp .le off, a1, a2, c, p)) (hx : -2147483648 ≤ x ∧ x ≤ 2147483647) (hy : -2147483648 ≤ y ∧ y ≤ 2147483647) (hp' : pc + 3 = pc') (kt : x ≤ y → TJ xs J d m a1 L r Q) (kf : y < x → TJ xs J d m pc' L r Q) : TJ xs J d m pc L (iv y :: iv x :: r) Q := by
  by_cases hc : x ≤ y
  · exact T_br hz rfl rfl rfl (fun _ => rfl) (t := a1) (by simp only [xbr, I_le hx hy]; rw [if_pos hc]) (kt hc)
  · exact T_br hz rfl rfl rfl (fun _ => rfl) (t := pc') (by simp only [xbr, I_le hx hy]; rw [if_neg hc, hp']) (kf (by omega))
theorem T_if_le {x : Int} {off : Int} (hz : zc m pc = some (.ifCond .le off, a1, a2, c, p)) (hx : -2147483648 ≤ x ∧ x ≤ 2147483647) (hp' : pc + 3 = pc') (kt : x ≤ 0 → TJ xs J d m a1 L r Q) (kf : 0 < x → TJ xs J d m pc' L r Q) : TJ xs J d m pc L (iv x :: r) Q := by
  have hy : -2147483648 ≤ (0 : Int) ∧ (0 : Int) ≤ 2147483647 := by omega
  have h0 : (0 : Int32) = Int32.ofInt 0 := rfl
  by_cases hc : x ≤ 0
  · exact T_br hz rfl rfl rfl (fun _ => rfl) (t := a1) (by simp only [xbr, h0, I_le hx hy]; rw [if_pos hc]) (kt hc)
  · exact T_br hz rfl rfl rfl (fun _ => rfl) (t := pc') (by simp only [xbr, h0, I_le hx hy]; rw [if_neg hc, hp']) (kf (by omega))
theorem T_ucmp_le {x y : Int} {off : Int} (hz : zc m pc = some (.if_icmp .le off, a1, a2, c, p)) (hp' : pc + 3 = pc') (kt : TJ xs J d m a1 L r Q) (kf : TJ xs J d m pc' L r Q) : TJ xs J d m pc L (iv y :: iv x :: r) Q := by
  by_cases hc : Int32.ofInt x ≤ Int32.ofInt y
  · exact T_br hz rfl rfl rfl (fun _ => rfl) (t := a1) (by simp only [xbr]; rw [if_pos hc]) kt
  · exact T_br hz rfl rfl rfl (fun _ => rfl) (t := pc') (by simp only [xbr]; rw [if_neg hc, hp']) kf
theorem T_uif_le {x : Int} {off : Int} (hz : zc m pc = some (.ifCond .le off, a1, a2, c, p)) (hp' : pc + 3 = pc') (kt : TJ xs J d m a1 L r Q) (kf : TJ xs J d m pc' L r Q) : TJ xs J d m pc L (iv x :: r) Q := by
  by_cases hc : Int32.ofInt x ≤ (0 : Int32)
  · exact T_br hz rfl rfl rfl (fun _ => rfl) (t := a1) (by simp only [xbr]; rw [if_pos hc]) kt
  · exact T_br hz rfl rfl rfl (fun _ => rfl) (t := pc') (by simp only [xbr]; rw [if_neg hc, hp']) kf
end LG
