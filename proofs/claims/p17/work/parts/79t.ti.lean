def MTy (b : Nat) (t i k j : Nat) : Prop := (t = 17 ∨ t = 18) ∧ i = 0 ∧ k = b
theorem nMTy {b t i k j : Nat} (hb : decide ((t = 17 ∨ t = 18)) = false) : ¬ MTy b t i k j := fun h => of_decide_eq_false hb (by unfold MTy at h; omega)
def MTs (b : Nat) (t i k j : Nat) : Prop := ((t = 17 ∨ t = 18) ∧ i = 0 ∧ k = b) ∨ t = 28
theorem nMTs {b t i k j : Nat} (hb : decide (((t = 17 ∨ t = 18) ∨ t = 28)) = false) : ¬ MTs b t i k j := fun h => of_decide_eq_false hb (by unfold MTs at h; omega)
theorem upr_cpF {σ : ZS} {t i k t0 i0 k0 n : Nat} {x0 x1 m : Int} {g : Nat → Int} (h : ∀ j, 0 ≤ j → j < n → σ t0 i0 k0 j = g j) (h0 : x0 = 0 ∧ x1 = 0) (hm : m = n) : ∀ j, 0 ≤ j → j < n → upr σ t i k (fun j => if x1.toNat ≤ j ∧ j < x1.toNat + m.toNat then σ t0 i0 k0 (x0.toNat + (j - x1.toNat)) else σ t i k j) t i k j = g j := by
  intro j _ hj
  unfold upr
  rw [if_pos ⟨rfl, rfl, rfl⟩]
  dsimp only
  rw [if_pos (by omega)]
  have : x0.toNat + (j - x1.toNat) = j := by omega
  rw [this]
  exact h j (Nat.zero_le _) hj
/-! what a tide makes of an element -/
def mk (s : Int) : Int := if s = 0 then -128 else if s = 1 then -32768 else if s = 2 then -2147483648 else -9223372036854775808
def mz (s v : Int) : Int := if Int64.ofInt v = Int64.ofInt (mk s) then 1 else 0
theorem mz_iff {s v c : Int} (hc : mk s = c) : Int64.ofInt v = Int64.ofInt c ↔ mz s v = 1 := by
  subst hc
  unfold mz
  constructor
  · intro h; rw [if_pos h]
  · intro h
    by_cases hq : Int64.ofInt v = Int64.ofInt (mk s)
    · exact hq
    · rw [if_neg hq] at h; omega
theorem mz_01 (s v : Int) : mz s v = 0 ∨ mz s v = 1 := by unfold mz; split <;> omega
def hv (s v : Int) : Int := if mz s v = 1 then 30 else if L2I v < -300 then -300 else if 300 < L2I v then 300 else L2I v
theorem hv_spec (s v : Int) : (mz s v = 1 → hv s v = 30) ∧ (¬ mz s v = 1 → L2I v < -300 → hv s v = -300) ∧ (¬ mz s v = 1 → 300 < L2I v → hv s v = 300) ∧ (¬ mz s v = 1 → -300 ≤ L2I v → L2I v ≤ 300 → hv s v = L2I v) :=
  ⟨fun h => by unfold hv; rw [if_pos h], fun h a => by unfold hv; rw [if_neg h, if_pos a], fun h a => by unfold hv; rw [if_neg h, if_neg (by omega), if_pos a], fun h a b => by unfold hv; rw [if_neg h, if_neg (by omega), if_neg (by omega)]⟩
/-- the heights of a tide behind n elements -/
def fhv (f g : Nat → Int) (s : Int) (n : Nat) : Nat → Int := fun j => if j < n then hv s (f j) else g j
theorem fhv_0 {f g : Nat → Int} {s : Int} : fhv f g s 0 = g := funext fun j => by unfold fhv; rw [if_neg (by omega)]
theorem fhv_s {f g : Nat → Int} {s v : Int} {n q : Nat} (hv' : v = hv s (f n)) : (if q = n then v else fhv f g s n q) = fhv f g s (n + 1) q := by
  unfold fhv
  by_cases h : q = n
  · subst h; rw [if_pos rfl, if_pos (by omega), hv']
  · rw [if_neg h]
    by_cases h2 : q < n
    · rw [if_pos h2, if_pos (by omega)]
    · rw [if_neg h2, if_neg (by omega)]
theorem fhv_push {σ : ZS} {t i k j n n' : Nat} {s v : Int} {f g : Nat → Int} (h : σ t i k = fhv f g s n) (hj : j = n) (hn : n' = n + 1) (hv' : v = hv s (f n)) : up σ t i k j v t i k = fhv f g s n' := by
  subst hj hn
  rw [up_self, h]
  exact funext fun q => fhv_s hv'
theorem fho_push {σ : ZS} {t i k j n n' b m : Nat} {s v : Int} {f g : Nat → Int} (h : eqo b (fhv f g s n) (σ t i k) m) (hj : j = b + n) (hn : n' = n + 1) (hv' : v = hv s (f n)) : eqo b (fhv f g s n') (up σ t i k j v t i k) m := by
  subst hj hn
  intro q hq
  rw [up_self]
  dsimp only
  rw [← fhv_s hv']
  by_cases h1 : q = n
  · subst h1; rw [if_pos rfl, if_pos rfl]
  · rw [if_neg (by omega), if_neg h1]; exact h q hq
theorem eqo_out {σ : ZS} {t i k j n b : Nat} {v : Int} {g : Nat → Int} (h : eqo b g (σ t i k) n) (hj : j < b ∨ b + n ≤ j) : eqo b g (up σ t i k j v t i k) n := by
  intro q hq
  rw [up_self]
  dsimp only
  rw [if_neg (by omega)]
  exact h q hq
def rct (z : Nat → Int) (y : Int) (f g : Nat → Int) : Prop := (0 ≤ y → z = f) ∧ (y < 0 → z = g)
def rco (b m : Nat) (z : Nat → Int) (y : Int) (f g : Nat → Int) : Prop := (0 ≤ y → eqo b f z m) ∧ (y < 0 → eqo b g z m)
/-- W$Shelf.isMissing -/
theorem s_69 {xs : Nat × (Nat → Int32)} (k : Nat) (p0 : Int) (u1 : Int) (a : Int) (hk : k < 8) (hp0 : 0 ≤ p0 ∧ p0 ≤ 95) (hu1 : 0 ≤ u1 ∧ u1 ≤ 3) (σ : ZS) (hI : Inv σ)  (s1 : σ 33 0 k 1 = u1) (sa : σ 34 0 k (Int.toNat p0) = a) : CT xs 1 69 [av 33 0 k, iv p0] σ (fun v σ' => ∃ y, v = some (iv y) ∧ (y = mz u1 (a) ∧ 0 ≤ y ∧ y ≤ 1) ∧ IF MN σ σ' ∧ (True)) := by
  refine G_ct (J := (fun σ' => IF MN σ σ' ∧ True)) (L := [(0, av 33 0 k), (1, iv p0)]) (nL := 2) rfl rfl rfl ⟨IF.rf hI, trivial⟩ ?_
  refine T_ld zk_69_0 rfl rfl rfl (pc' := 1) rfl ?_
  refine G_getX (w := u1) zk_69_1 rfl (vd_33 (by omega)) (fun σ' h => (h.1.2 _ _ _ _ (fun q => q)).trans s1) (pc' := 4) rfl ?_
  by_cases h1 : u1 = 0
  · subst h1
    refine T_br (t := 32) zk_69_4 rfl rfl rfl (fun _ => rfl) rfl ?_
    refine T_ld zk_69_32 rfl rfl rfl (pc' := 33) rfl ?_
    refine T_getR (t' := 34) (i' := 0) (k' := k) zk_69_33 rfl rfl rfl (vd_33 (by omega)) (pc' := 36) rfl ?_
    refine T_ld zk_69_36 rfl rfl rfl (pc' := 37) rfl ?_
    refine G_laldX (w := a) (ln := 96) zk_69_37 rfl rfl (vd_34 (by omega)) (by omega) (by omega) (by omega) (fun σ' h => (h.1.2 _ _ _ _ (fun q => q)).trans sa) (pc' := 38) rfl ?_
    refine T_ldc2 zk_69_38 (pc' := 41) rfl ?_
    refine T_lcmp zk_69_41 (fun y2 hy2 hy2' ey2 => ?_)
    have emy2 := (ey2).trans (mz_iff (s := 0) (v := a) (c := (-128)) (by unfold mk; repeat' (first | omega | split)))
    have eoy2 := mz_01 0 a
    refine T_if_ne zk_69_42 (by omega) (pc' := 45) rfl (fun h3 => ?_) (fun h4 => ?_)
    ·
      refine T_op zk_69_49 rfl X_ic (pc' := 50) rfl ?_
      exact T_zret zk_69_50 rfl (by omega) (fun σ' h => ⟨_, rfl, (by omega), h.1, trivial⟩)
    ·
      refine T_op zk_69_45 rfl X_ic (pc' := 46) rfl ?_
      refine T_goto zk_69_46 ?_
      exact T_zret zk_69_50 rfl (by omega) (fun σ' h => ⟨_, rfl, (by omega), h.1, trivial⟩)
  by_cases h5 : u1 = 1
  · subst h5
    refine T_br (t := 51) zk_69_4 rfl rfl rfl (fun _ => rfl) rfl ?_
    refine T_ld zk_69_51 rfl rfl rfl (pc' := 52) rfl ?_
    refine T_getR (t' := 34) (i' := 0) (k' := k) zk_69_52 rfl rfl rfl (vd_33 (by omega)) (pc' := 55) rfl ?_
    refine T_ld zk_69_55 rfl rfl rfl (pc' := 56) rfl ?_
    refine G_laldX (w := a) (ln := 96) zk_69_56 rfl rfl (vd_34 (by omega)) (by omega) (by omega) (by omega) (fun σ' h => (h.1.2 _ _ _ _ (fun q => q)).trans sa) (pc' := 57) rfl ?_
    refine T_ldc2 zk_69_57 (pc' := 60) rfl ?_
    refine T_lcmp zk_69_60 (fun y6 hy6 hy6' ey6 => ?_)
    have emy6 := (ey6).trans (mz_iff (s := 1) (v := a) (c := (-32768)) (by unfold mk; repeat' (first | omega | split)))
    have eoy6 := mz_01 1 a
    refine T_if_ne zk_69_61 (by omega) (pc' := 64) rfl (fun h7 => ?_) (fun h8 => ?_)
    ·
      refine T_op zk_69_68 rfl X_ic (pc' := 69) rfl ?_
      exact T_zret zk_69_69 rfl (by omega) (fun σ' h => ⟨_, rfl, (by omega), h.1, trivial⟩)
    ·
      refine T_op zk_69_64 rfl X_ic (pc' := 65) rfl ?_
      refine T_goto zk_69_65 ?_
      exact T_zret zk_69_69 rfl (by omega) (fun σ' h => ⟨_, rfl, (by omega), h.1, trivial⟩)
  by_cases h9 : u1 = 2
  · subst h9
    refine T_br (t := 70) zk_69_4 rfl rfl rfl (fun _ => rfl) rfl ?_
    refine T_ld zk_69_70 rfl rfl rfl (pc' := 71) rfl ?_
    refine T_getR (t' := 34) (i' := 0) (k' := k) zk_69_71 rfl rfl rfl (vd_33 (by omega)) (pc' := 74) rfl ?_
    refine T_ld zk_69_74 rfl rfl rfl (pc' := 75) rfl ?_
    refine G_laldX (w := a) (ln := 96) zk_69_75 rfl rfl (vd_34 (by omega)) (by omega) (by omega) (by omega) (fun σ' h => (h.1.2 _ _ _ _ (fun q => q)).trans sa) (pc' := 76) rfl ?_
    refine T_ldc2 zk_69_76 (pc' := 79) rfl ?_
    refine T_lcmp zk_69_79 (fun y10 hy10 hy10' ey10 => ?_)
    have emy10 := (ey10).trans (mz_iff (s := 2) (v := a) (c := (-2147483648)) (by unfold mk; repeat' (first | omega | split)))
    have eoy10 := mz_01 2 a
    refine T_if_ne zk_69_80 (by omega) (pc' := 83) rfl (fun h11 => ?_) (fun h12 => ?_)
    ·
      refine T_op zk_69_87 rfl X_ic (pc' := 88) rfl ?_
      exact T_zret zk_69_88 rfl (by omega) (fun σ' h => ⟨_, rfl, (by omega), h.1, trivial⟩)
    ·
      refine T_op zk_69_83 rfl X_ic (pc' := 84) rfl ?_
      refine T_goto zk_69_84 ?_
      exact T_zret zk_69_88 rfl (by omega) (fun σ' h => ⟨_, rfl, (by omega), h.1, trivial⟩)
  refine T_tso (t := 89) zk_69_4 (by omega) (by omega) (by omega) ?_
  refine T_ld zk_69_89 rfl rfl rfl (pc' := 90) rfl ?_
  refine T_getR (t' := 34) (i' := 0) (k' := k) zk_69_90 rfl rfl rfl (vd_33 (by omega)) (pc' := 93) rfl ?_
  refine T_ld zk_69_93 rfl rfl rfl (pc' := 94) rfl ?_
  refine G_laldX (w := a) (ln := 96) zk_69_94 rfl rfl (vd_34 (by omega)) (by omega) (by omega) (by omega) (fun σ' h => (h.1.2 _ _ _ _ (fun q => q)).trans sa) (pc' := 95) rfl ?_
  refine T_ldc2 zk_69_95 (pc' := 98) rfl ?_
  refine T_lcmp zk_69_98 (fun y13 hy13 hy13' ey13 => ?_)
  have emy13 := (ey13).trans (mz_iff (s := u1) (v := a) (c := (-9223372036854775808)) (by unfold mk; repeat' (first | omega | split)))
  have eoy13 := mz_01 u1 a
  refine T_if_ne zk_69_99 (by omega) (pc' := 102) rfl (fun h14 => ?_) (fun h15 => ?_)
  ·
    refine T_op zk_69_106 rfl X_ic (pc' := 107) rfl ?_
    exact T_zret zk_69_107 rfl (by omega) (fun σ' h => ⟨_, rfl, (by omega), h.1, trivial⟩)
  ·
    refine T_op zk_69_102 rfl X_ic (pc' := 103) rfl ?_
    refine T_goto zk_69_103 ?_
    exact T_zret zk_69_107 rfl (by omega) (fun σ' h => ⟨_, rfl, (by omega), h.1, trivial⟩)
/-- W$City.tide -/
theorem s_10_0 {xs : Nat × (Nat → Int32)}   (σ : ZS) (hI : Inv σ)   : CT xs 1 10 [av 1 0 0, iv 0] σ (fun v σ' => v = some (av 17 0 0) ∧ IF MN σ σ' ∧ (True)) := by
  refine G_ct (J := (fun σ' => IF MN σ σ' ∧ True)) (L := [(0, av 1 0 0), (1, iv 0)]) (nL := 2) rfl rfl rfl ⟨IF.rf hI, trivial⟩ ?_
  refine T_ld zk_10_0 rfl rfl rfl (pc' := 1) rfl ?_
  refine T_if_eq zk_10_1 (by omega) (pc' := 4) rfl (fun h1 => ?_) (fun h2 => ?_)
  ·
    refine T_ld zk_10_11 rfl rfl rfl (pc' := 12) rfl ?_
    refine T_getR (t' := 17) (i' := 0) (k' := 0) zk_10_12 rfl rfl rfl (vd_1 (by omega)) (pc' := 15) rfl ?_
    exact T_aret zk_10_15 rfl (fun σ' h => ⟨rfl, h.1, trivial⟩)
  · exfalso; omega
/-- W$Tide.takeRow -/
theorem s_71_0 {xs : Nat × (Nat → Int32)} (k2 : Nat) (u1 : Int) (u2 : Int) (F G : Nat → Int) (hk2 : k2 < 8) (hu1 : 0 ≤ u1 ∧ u1 ≤ 3) (hu2 : 0 ≤ u2 ∧ u2 ≤ 96) (σ : ZS) (hI : Inv σ)  (s1 : σ 33 0 k2 1 = u1) (s2 : σ 33 0 k2 2 = u2) (rf : Eq (σ 34 0 k2) F) (rg : Eq (σ 18 0 0) G) : CT xs 2 71 [av 17 0 0, av 33 0 k2] σ (fun v σ' => v = none ∧ IF (MTy 0) σ σ' ∧ (σ' 17 0 0 0 = u2 ∧ Eq (σ' 18 0 0) (fhv F G u1 (Int.toNat u2)) ∧ True)) := by
  refine G_ct (J := (fun σ' => IF (MTy 0) σ σ' ∧ Eq (σ' 34 0 k2) F ∧ Eq (σ' 18 0 0) G ∧ True)) (L := [(0, av 17 0 0), (1, av 33 0 k2)]) (nL := 4) rfl rfl rfl ⟨IF.rf hI, rf, rg, trivial⟩ ?_
  refine T_ld zk_71_0 rfl rfl rfl (pc' := 1) rfl ?_
  refine T_ld zk_71_1 rfl rfl rfl (pc' := 2) rfl ?_
  refine G_getX (w := u2) zk_71_2 rfl (vd_33 (by omega)) (fun σ' h => (h.1.2 _ _ _ _ (by first | exact nMTy rfl | (unfold MTy; omega))).trans s2) (pc' := 5) rfl ?_
  refine T_putf (J' := (fun σ' => IF (MTy 0) σ σ' ∧ Eq (σ' 34 0 k2) F ∧ Eq (σ' 18 0 0) G ∧ σ' 17 0 0 0 = u2 ∧ True)) zk_71_5 rfl rfl (vd_17 (by omega) (by omega)) (fun σ' h => ⟨h.1.up (by simp only [rgP] <;> omega) (by unfold MTy; omega), gf_mk (fun z => Eq z F) (up_row (by omega)) (h.2.1), gf_mk (fun z => Eq z G) (up_row (by omega)) (h.2.2.1), up_eq, trivial⟩) (pc' := 8) rfl ?_
  refine T_op zk_71_8 rfl X_ic (pc' := 9) rfl ?_
  refine T_st (L' := [(0, av 17 0 0), (1, av 33 0 k2), (2, iv 0)]) zk_71_9 (nL := 4) rfl rfl rfl rfl rfl (pc' := 10) rfl ?_
  refine G_know (J' := (fun σ' => IF (MTy 0) σ σ' ∧ Eq (σ' 34 0 k2) F ∧ σ' 17 0 0 0 = u2 ∧ Eq (σ' 18 0 0) (fhv F G u1 (Int.toNat 0)) ∧ True)) (fun σ' h => ⟨h.1, h.2.1, h.2.2.2.1, ((h.2.2.1).trans fhv_0.symm), trivial⟩) ?_
  refine T_loop1 (fun x1 => ((96 - x1 : Int)).toNat) (fun x1 => (0 ≤ x1 ∧ x1 ≤ 96) ∧ x1 ≤ u2) (fun x1 => TJ xs (fun σ' => IF (MTy 0) σ σ' ∧ Eq (σ' 34 0 k2) F ∧ σ' 17 0 0 0 = u2 ∧ Eq (σ' 18 0 0) (fhv F G u1 (Int.toNat x1)) ∧ True) 1 71 10 [(0, av 17 0 0), (1, av 33 0 k2), (2, iv x1)] [] _) ?_ 0 (by omega)
  intro x1 hp3 ih2
  have hh := hv_spec u1 (F (Int.toNat x1))
  refine T_ld zk_71_10 rfl rfl rfl (pc' := 11) rfl ?_
  refine T_ld zk_71_11 rfl rfl rfl (pc' := 12) rfl ?_
  refine G_getX (w := u2) zk_71_12 rfl (vd_17 (by omega) (by omega)) (fun σ' h => h.2.2.1) (pc' := 15) rfl ?_
  refine T_icmp_ge zk_71_15 (by omega) (by omega) (pc' := 18) rfl (fun h4 => ?_) (fun h5 => ?_)
  ·
    exact T_vret zk_71_64 rfl (fun σ' h => ⟨rfl, h.1, ⟨h.2.2.1, ((h.2.2.2.1).trans (by rw [show (Int.toNat x1) = (Int.toNat u2) from by omega])), trivial⟩⟩)
  ·
    refine T_op zk_71_18 rfl (X_si (v := -300) (by decide)) (pc' := 21) rfl ?_
    refine T_op zk_71_21 rfl (X_si (v := 300) (by decide)) (pc' := 24) rfl ?_
    refine T_ld zk_71_24 rfl rfl rfl (pc' := 25) rfl ?_
    refine T_getR (t' := 34) (i' := 0) (k' := k2) zk_71_25 rfl rfl rfl (vd_33 (by omega)) (pc' := 28) rfl ?_
    refine T_ld zk_71_28 rfl rfl rfl (pc' := 29) rfl ?_
    refine G_laldX (w := F (Int.toNat x1)) (ln := 96) zk_71_29 rfl rfl (vd_34 (by omega)) (by omega) (by omega) (by omega) (fun σ' h => congrFun (h.2.1) _) (pc' := 30) rfl ?_
    refine T_l2iX zk_71_30 (fun hl6 hl6' => ?_)
    refine T_min zk_71_31 rfl (by omega) (by omega) rfl (pc' := 34) rfl (fun y7 hy7 hy7' ey7 => ?_)
    refine T_max zk_71_34 rfl (by omega) (by omega) rfl (pc' := 37) rfl (fun y8 hy8 hy8' ey8 => ?_)
    refine T_st (L' := [(0, av 17 0 0), (1, av 33 0 k2), (2, iv x1), (3, iv y8)]) zk_71_37 (nL := 4) rfl rfl rfl rfl rfl (pc' := 38) rfl ?_
    refine T_ld zk_71_38 rfl rfl rfl (pc' := 39) rfl ?_
    refine T_getR (t' := 18) (i' := 0) (k' := 0) zk_71_39 rfl rfl rfl (vd_17 (by omega) (by omega)) (pc' := 42) rfl ?_
    refine T_ld zk_71_42 rfl rfl rfl (pc' := 43) rfl ?_
    refine T_ld zk_71_43 rfl rfl rfl (pc' := 44) rfl ?_
    refine T_ld zk_71_44 rfl rfl rfl (pc' := 45) rfl ?_
    refine T_calli (K := fun y9 σ' => (y9 = mz u1 (F (Int.toNat x1)) ∧ 0 ≤ y9 ∧ y9 ≤ 1) ∧ (fun σ' => IF (MTy 0) σ σ' ∧ Eq (σ' 34 0 k2) F ∧ σ' 17 0 0 0 = u2 ∧ Eq (σ' 18 0 0) (fhv F G u1 (Int.toNat x1)) ∧ True) σ') (r := [iv x1, av 18 0 0]) zk_71_45 rfl rfl rfl rfl rfl rfl (Or.inr ⟨_, _, _, _, rfl, (vd_33 (by omega)), rfl⟩) (fun σ' h => (s_69 k2 x1 u1 (F (Int.toNat x1)) (by omega) (by omega) (by omega) σ' h.1.1 ((h.1.2 _ _ _ _ (by first | exact nMTy rfl | (unfold MTy; omega))).trans s1) (congrFun (h.2.1) _)).le (Nat.le_of_ble_eq_true rfl) (fun v σ2 ⟨y, h1, h2, h3, h4⟩ => ⟨y, h1, h2, h.1.tr h3 MN_sub, gf_mk (fun z => Eq z F) (funext fun j => h3.2 _ _ _ _ (fun q => q)) (h.2.1), (h3.2 _ _ _ _ (fun q => q)).trans (h.2.2.1), gf_mk (fun z => Eq z (fhv F G u1 (Int.toNat x1))) (funext fun j => h3.2 _ _ _ _ (fun q => q)) (h.2.2.2.1), trivial⟩)) (pc' := 48) rfl (fun y9 => ?_)
    refine G_ex (fun hy9 => ?_)
    refine T_if_eq zk_71_48 (by omega) (pc' := 51) rfl (fun h10 => ?_) (fun h11 => ?_)
    ·
      refine T_ld zk_71_56 rfl rfl rfl (pc' := 57) rfl ?_
      refine G_iast (J' := (fun σ' => IF (MTy 0) σ σ' ∧ Eq (σ' 34 0 k2) F ∧ σ' 17 0 0 0 = u2 ∧ Eq (σ' 18 0 0) (fhv F G u1 (Int.toNat (x1 + 1))) ∧ True)) (ln := 96) zk_71_57 rfl rfl (vd_18 (by omega) (by omega)) (by omega) (by omega) (by omega) (fun σ' h => ⟨h.1.up (by simp only [rgP] <;> omega) (by unfold MTy; omega), gf_mk (fun z => Eq z F) (up_row (by omega)) (h.2.1), (up_ne (by omega)).trans (h.2.2.1), fhv_push (h.2.2.2.1) (by omega) (by omega) (by omega), trivial⟩) (pc' := 58) rfl ?_
      refine T_iinc (L' := [(0, av 17 0 0), (1, av 33 0 k2), (2, iv (x1 + 1)), (3, iv y8)]) zk_71_58 (nL := 4) rfl rfl rfl rfl (pc' := 61) rfl ?_
      refine T_goto zk_71_61 ?_
      refine T_loc (L := [(0, av 17 0 0), (1, av 33 0 k2), (2, iv (x1 + 1))]) (E := [(3, iv y8)]) rfl ?_
      exact ih2 (x1 + 1) (by omega) (by omega)
    ·
      refine T_op zk_71_51 rfl (X_bi (v := 30) (by decide)) (pc' := 53) rfl ?_
      refine T_goto zk_71_53 ?_
      refine G_iast (J' := (fun σ' => IF (MTy 0) σ σ' ∧ Eq (σ' 34 0 k2) F ∧ σ' 17 0 0 0 = u2 ∧ Eq (σ' 18 0 0) (fhv F G u1 (Int.toNat (x1 + 1))) ∧ True)) (ln := 96) zk_71_57 rfl rfl (vd_18 (by omega) (by omega)) (by omega) (by omega) (by omega) (fun σ' h => ⟨h.1.up (by simp only [rgP] <;> omega) (by unfold MTy; omega), gf_mk (fun z => Eq z F) (up_row (by omega)) (h.2.1), (up_ne (by omega)).trans (h.2.2.1), fhv_push (h.2.2.2.1) (by omega) (by omega) (by omega), trivial⟩) (pc' := 58) rfl ?_
      refine T_iinc (L' := [(0, av 17 0 0), (1, av 33 0 k2), (2, iv (x1 + 1)), (3, iv y8)]) zk_71_58 (nL := 4) rfl rfl rfl rfl (pc' := 61) rfl ?_
      refine T_goto zk_71_61 ?_
      refine T_loc (L := [(0, av 17 0 0), (1, av 33 0 k2), (2, iv (x1 + 1))]) (E := [(3, iv y8)]) rfl ?_
      exact ih2 (x1 + 1) (by omega) (by omega)
theorem sb79t_02620cf : ∀ t i k j, MTy 0 t i k j → MTs 0 t i k j := by
  intro t i k j h
  unfold MTy at h
  unfold MTs
  omega
theorem sb79t_42743a3 : ∀ t i k j, MI 0 28 28 28 28 t i k j → MTs 0 t i k j := by
  intro t i k j h
  unfold MI at h
  unfold MTs
  omega
/-- W.sea -/
theorem s_90_0 {xs : Nat × (Nat → Int32)} (p0 : Int) (u0 : Int) (u1 : Int) (u2 : Int) (n : Int) (F G : Nat → Int) (hp0 : 0 ≤ p0 ∧ p0 ≤ 7) (hu0 : -2147483648 ≤ u0 ∧ u0 ≤ 2147483647) (hu1 : 0 ≤ u1 ∧ u1 ≤ 3) (hu2 : 0 ≤ u2 ∧ u2 ≤ 96) (hn : 0 ≤ n ∧ n ≤ 96) (σ : ZS) (hI : Inv σ)  (s0 : σ 33 0 (Int.toNat p0) 0 = u0) (s1 : σ 33 0 (Int.toNat p0) 1 = u1) (s2 : σ 33 0 (Int.toNat p0) 2 = u2) (sn : σ 17 0 0 0 = n) (rf : Eq (σ 34 0 (Int.toNat p0)) F) (rg : Eq (σ 18 0 0) G) : CT xs 3 90 [av 0 0 0, iv p0, iv 0] σ (fun v σ' => ∃ y, v = some (iv y) ∧ ((y = -2 ∧ (u0 = 2)) ∨ (y = -3 ∧ ¬ (u0 = 2) ∧ (u0 = 0)) ∨ (y = u2 ∧ ¬ (u0 = 2) ∧ ¬ (u0 = 0))) ∧ IF (MTs 0) σ σ' ∧ (((0 ≤ y → σ' 17 0 0 0 = u2) ∧ (y < 0 → σ' 17 0 0 0 = n)) ∧ rct (σ' 18 0 0) y (fhv F G u1 (Int.toNat u2)) G ∧ True)) := by
  refine G_ct (J := (fun σ' => IF (MTs 0) σ σ' ∧ σ' 17 0 0 0 = n ∧ Eq (σ' 34 0 (Int.toNat p0)) F ∧ Eq (σ' 18 0 0) G ∧ True)) (L := [(0, av 0 0 0), (1, iv p0), (2, iv 0)]) (nL := 4) rfl rfl rfl ⟨IF.rf hI, sn, rf, rg, trivial⟩ ?_
  refine T_ld zk_90_0 rfl rfl rfl (pc' := 1) rfl ?_
  refine T_ld zk_90_1 rfl rfl rfl (pc' := 2) rfl ?_
  refine T_calli (K := fun y1 σ' => ((y1 = -2 ∧ (u0 = 2)) ∨ (y1 = -3 ∧ ¬ (u0 = 2) ∧ (u0 = 0)) ∨ (y1 = 0 ∧ ¬ (u0 = 2) ∧ ¬ (u0 = 0))) ∧ (fun σ' => IF (MTs 0) σ σ' ∧ σ' 17 0 0 0 = n ∧ Eq (σ' 34 0 (Int.toNat p0)) F ∧ Eq (σ' 18 0 0) G ∧ True) σ') (r := []) zk_90_2 rfl rfl rfl rfl rfl rfl (Or.inr ⟨_, _, _, _, rfl, vd_0, rfl⟩) (fun σ' h => (s_119 p0 u0 (by omega) (by omega) σ' h.1.1 ((h.1.2 _ _ _ _ (by first | exact nMTs rfl | (unfold MTs; omega))).trans s0)).le (Nat.le_of_ble_eq_true rfl) (fun v σ2 ⟨y, h1, h2, h3, h4⟩ => ⟨y, h1, h2, h.1.tr h3 MN_sub, (h3.2 _ _ _ _ (fun q => q)).trans (h.2.1), gf_mk (fun z => Eq z F) (funext fun j => h3.2 _ _ _ _ (fun q => q)) (h.2.2.1), gf_mk (fun z => Eq z G) (funext fun j => h3.2 _ _ _ _ (fun q => q)) (h.2.2.2.1), trivial⟩)) (pc' := 5) rfl (fun y1 => ?_)
  refine G_ex (fun hy1 => ?_)
  refine T_st (L' := [(0, av 0 0 0), (1, iv p0), (2, iv 0), (3, iv y1)]) zk_90_5 (nL := 4) rfl rfl rfl rfl rfl (pc' := 6) rfl ?_
  refine T_ld zk_90_6 rfl rfl rfl (pc' := 7) rfl ?_
  refine T_if_eq zk_90_7 (by omega) (pc' := 10) rfl (fun h2 => ?_) (fun h3 => ?_)
  ·
    refine T_ld zk_90_16 rfl rfl rfl (pc' := 17) rfl ?_
    refine T_getR (t' := 1) (i' := 0) (k' := 0) zk_90_17 rfl rfl rfl vd_0 (pc' := 20) rfl ?_
    refine T_ld zk_90_20 rfl rfl rfl (pc' := 21) rfl ?_
    refine T_callr (t := 17) (i := 0) (k := 0) (J' := (fun σ' => IF (MTs 0) σ σ' ∧ σ' 17 0 0 0 = n ∧ Eq (σ' 34 0 (Int.toNat p0)) F ∧ Eq (σ' 18 0 0) G ∧ True)) (r := []) zk_90_21 rfl rfl rfl rfl rfl rfl (Or.inr ⟨_, _, _, _, rfl, (vd_1 (by omega)), rfl⟩) (fun σ' h => (s_10_0   σ' h.1.1 ).le (Nat.le_of_ble_eq_true rfl) (fun v σ2 ⟨h1, h3, h4⟩ => ⟨h1, h.1.tr h3 MN_sub, (h3.2 _ _ _ _ (fun q => q)).trans (h.2.1), gf_mk (fun z => Eq z F) (funext fun j => h3.2 _ _ _ _ (fun q => q)) (h.2.2.1), gf_mk (fun z => Eq z G) (funext fun j => h3.2 _ _ _ _ (fun q => q)) (h.2.2.2.1), trivial⟩)) (pc' := 24) rfl ?_
    refine T_ld zk_90_24 rfl rfl rfl (pc' := 25) rfl ?_
    refine T_getR (t' := 27) (i' := 0) (k' := 0) zk_90_25 rfl rfl rfl vd_0 (pc' := 28) rfl ?_
    refine T_ld zk_90_28 rfl rfl rfl (pc' := 29) rfl ?_
    refine G_aald (t' := 33) (im := 0) (i' := 0) (ln := 8) zk_90_29 rfl rfl rfl vd_27 (by omega) (by omega) (by omega) (pc' := 30) rfl ?_
    refine T_callv (J' := (fun σ' => IF (MTs 0) σ σ' ∧ Eq (σ' 34 0 (Int.toNat p0)) F ∧ σ' 17 0 0 0 = u2 ∧ Eq (σ' 18 0 0) (fhv F G u1 (Int.toNat u2)) ∧ True)) (r := []) zk_90_30 rfl rfl rfl rfl rfl rfl (Or.inr ⟨_, _, _, _, rfl, (vd_17 (by omega) (by omega)), rfl⟩) (fun σ' h => (s_71_0 (Int.toNat p0) u1 u2 F G (by omega) (by omega) (by omega) σ' h.1.1 ((h.1.2 _ _ _ _ (by first | exact nMTs rfl | (unfold MTs; omega))).trans s1) ((h.1.2 _ _ _ _ (by first | exact nMTs rfl | (unfold MTs; omega))).trans s2) (h.2.2.1) (h.2.2.2.1)).le (Nat.le_of_ble_eq_true rfl) (fun v σ2 ⟨h1, h3, h4⟩ => ⟨h1, h.1.tr h3 sb79t_02620cf, gf_mk (fun z => Eq z F) (funext fun j => h3.2 _ _ _ _ (by first | exact nMTy rfl | (unfold MTy; omega))) (h.2.2.1), h4.1, h4.2.1, trivial⟩)) (pc' := 33) rfl ?_
    refine T_ld zk_90_33 rfl rfl rfl (pc' := 34) rfl ?_
    refine T_getR (t' := 27) (i' := 0) (k' := 0) zk_90_34 rfl rfl rfl vd_0 (pc' := 37) rfl ?_
    refine T_ld zk_90_37 rfl rfl rfl (pc' := 38) rfl ?_
    refine G_aald (t' := 33) (im := 0) (i' := 0) (ln := 8) zk_90_38 rfl rfl rfl vd_27 (by omega) (by omega) (by omega) (pc' := 39) rfl ?_
    refine G_getX (w := u2) zk_90_39 rfl (vd_33 (by omega)) (fun σ' h => (h.1.2 _ _ _ _ (by first | exact nMTs rfl | (unfold MTs; omega))).trans s2) (pc' := 42) rfl ?_
    exact T_iret zk_90_42 rfl (fun σ' h => ⟨_, rfl, (by omega), h.1, ⟨(by have e := h.2.2.1; omega), ⟨fun _ => h.2.2.2.1, fun q => by exfalso; omega⟩, trivial⟩⟩)
  ·
    refine T_ld zk_90_10 rfl rfl rfl (pc' := 11) rfl ?_
    refine T_ld zk_90_11 rfl rfl rfl (pc' := 12) rfl ?_
    refine T_calli (K := fun y6 σ' => (y6 = y1) ∧ (fun σ' => IF (MTs 0) σ σ' ∧ σ' 17 0 0 0 = n ∧ Eq (σ' 34 0 (Int.toNat p0)) F ∧ Eq (σ' 18 0 0) G ∧ True) σ') (r := []) zk_90_12 rfl rfl rfl rfl rfl rfl (Or.inr ⟨_, _, _, _, rfl, vd_0, rfl⟩) (fun σ' h => (w_113 y1 (by omega) σ' h.1.1 ).le (Nat.le_of_ble_eq_true rfl) (fun v σ2 ⟨y, h1, h2, h3, h4⟩ => ⟨y, h1, h2, h.1.tr h3 sb79t_42743a3, (h3.2 _ _ _ _ (by first | exact nMI rfl | (unfold MI; omega))).trans (h.2.1), gf_mk (fun z => Eq z F) (funext fun j => h3.2 _ _ _ _ (by first | exact nMI rfl | (unfold MI; omega))) (h.2.2.1), gf_mk (fun z => Eq z G) (funext fun j => h3.2 _ _ _ _ (by first | exact nMI rfl | (unfold MI; omega))) (h.2.2.2.1), trivial⟩)) (pc' := 15) rfl (fun y6 => ?_)
    refine G_ex (fun hy6 => ?_)
    obtain rfl : y6 = y1 := by omega
    exact T_iret zk_90_15 rfl (fun σ' h => ⟨_, rfl, (by omega), h.1, ⟨(by have e := h.2.1; omega), ⟨fun q => by exfalso; omega, fun _ => h.2.2.2.1⟩, trivial⟩⟩)
/-- W.sea -/
theorem s_90o_0 {xs : Nat × (Nat → Int32)} (p0 : Int) (hp0 : -2147483648 ≤ p0 ∧ p0 ≤ 2147483647) (ho : p0 < 0 ∨ 7 < p0) (σ : ZS) (hI : Inv σ)   : CT xs 3 90 [av 0 0 0, iv p0, iv 0] σ (fun v σ' => ∃ y, v = some (iv y) ∧ (y = -1) ∧ IF (MI 0 28 28 28 28) σ σ' ∧ (True)) := by
  refine G_ct (J := (fun σ' => IF (MI 0 28 28 28 28) σ σ' ∧ True)) (L := [(0, av 0 0 0), (1, iv p0), (2, iv 0)]) (nL := 4) rfl rfl rfl ⟨IF.rf hI, trivial⟩ ?_
  refine T_ld zk_90_0 rfl rfl rfl (pc' := 1) rfl ?_
  refine T_ld zk_90_1 rfl rfl rfl (pc' := 2) rfl ?_
  refine T_calli (K := fun y1 σ' => ((y1 = -1 ∧ (p0 < 0 ∨ 7 < p0)) ∨ ((y1 = -3 ∨ y1 = -2 ∨ y1 = 0) ∧ 0 ≤ p0 ∧ p0 ≤ 7)) ∧ (fun σ' => IF (MI 0 28 28 28 28) σ σ' ∧ True) σ') (r := []) zk_90_2 rfl rfl rfl rfl rfl rfl (Or.inr ⟨_, _, _, _, rfl, vd_0, rfl⟩) (fun σ' h => (w_119 p0 (by omega) σ' h.1.1 ).le (Nat.le_of_ble_eq_true rfl) (fun v σ2 ⟨y, h1, h2, h3, h4⟩ => ⟨y, h1, h2, h.1.tr h3 MN_sub, trivial⟩)) (pc' := 5) rfl (fun y1 => ?_)
  refine G_ex (fun hy1 => ?_)
  refine T_st (L' := [(0, av 0 0 0), (1, iv p0), (2, iv 0), (3, iv y1)]) zk_90_5 (nL := 4) rfl rfl rfl rfl rfl (pc' := 6) rfl ?_
  refine T_ld zk_90_6 rfl rfl rfl (pc' := 7) rfl ?_
  refine T_if_eq zk_90_7 (by omega) (pc' := 10) rfl (fun h2 => ?_) (fun h3 => ?_)
  · exfalso; omega
  ·
    refine T_ld zk_90_10 rfl rfl rfl (pc' := 11) rfl ?_
    refine T_ld zk_90_11 rfl rfl rfl (pc' := 12) rfl ?_
    refine T_calli (K := fun y4 σ' => (y4 = y1) ∧ (fun σ' => IF (MI 0 28 28 28 28) σ σ' ∧ True) σ') (r := []) zk_90_12 rfl rfl rfl rfl rfl rfl (Or.inr ⟨_, _, _, _, rfl, vd_0, rfl⟩) (fun σ' h => (w_113 y1 (by omega) σ' h.1.1 ).le (Nat.le_of_ble_eq_true rfl) (fun v σ2 ⟨y, h1, h2, h3, h4⟩ => ⟨y, h1, h2, h.1.tr h3 (fun _ _ _ _ h => h), trivial⟩)) (pc' := 15) rfl (fun y4 => ?_)
    refine G_ex (fun hy4 => ?_)
    obtain rfl : y4 = y1 := by omega
    exact T_iret zk_90_15 rfl (fun σ' h => ⟨_, rfl, (by omega), h.1, trivial⟩)
/-- W$Tide.heightIn -/
theorem s_73_0 {xs : Nat × (Nat → Int32)} (p0 : Int) (n : Int) (a : Int) (hp0 : -2147483648 ≤ p0 ∧ p0 ≤ 2147483647) (hn : 0 ≤ n ∧ n ≤ 96) (ha : -2147483648 ≤ a ∧ a ≤ 2147483647) (σ : ZS) (hI : Inv σ)  (sn : σ 17 0 0 0 = n) (sa : σ 18 0 0 (Int.toNat (p0 % n)) = a) : CT xs 1 73 [av 17 0 0, iv p0] σ (fun v σ' => ∃ y, v = some (iv y) ∧ ((y = 0 ∧ (n ≤ 0 ∨ p0 < 0)) ∨ (y = a ∧ ¬ (n ≤ 0 ∨ p0 < 0))) ∧ IF MN σ σ' ∧ (True)) := by
  refine G_ct (J := (fun σ' => IF MN σ σ' ∧ True)) (L := [(0, av 17 0 0), (1, iv p0)]) (nL := 2) rfl rfl rfl ⟨IF.rf hI, trivial⟩ ?_
  refine T_ld zk_73_0 rfl rfl rfl (pc' := 1) rfl ?_
  refine G_getX (w := n) zk_73_1 rfl (vd_17 (by omega) (by omega)) (fun σ' h => (h.1.2 _ _ _ _ (fun q => q)).trans sn) (pc' := 4) rfl ?_
  refine T_if_le zk_73_4 (by omega) (pc' := 7) rfl (fun h1 => ?_) (fun h2 => ?_)
  ·
    refine T_op zk_73_11 rfl X_ic (pc' := 12) rfl ?_
    refine T_goto zk_73_12 ?_
    exact T_iret zk_73_26 rfl (fun σ' h => ⟨_, rfl, (by omega), h.1, trivial⟩)
  ·
    refine T_ld zk_73_7 rfl rfl rfl (pc' := 8) rfl ?_
    refine T_if_ge zk_73_8 (by omega) (pc' := 11) rfl (fun h3 => ?_) (fun h4 => ?_)
    ·
      refine T_ld zk_73_15 rfl rfl rfl (pc' := 16) rfl ?_
      refine T_getR (t' := 18) (i' := 0) (k' := 0) zk_73_16 rfl rfl rfl (vd_17 (by omega) (by omega)) (pc' := 19) rfl ?_
      refine T_ld zk_73_19 rfl rfl rfl (pc' := 20) rfl ?_
      refine T_ld zk_73_20 rfl rfl rfl (pc' := 21) rfl ?_
      refine G_getX (w := n) zk_73_21 rfl (vd_17 (by omega) (by omega)) (fun σ' h => (h.1.2 _ _ _ _ (fun q => q)).trans sn) (pc' := 24) rfl ?_
      have hm5 : 0 ≤ p0 % n := Int.emod_nonneg _ (by omega)
      have hm5' : p0 % n < n := Int.emod_lt_of_pos _ (by omega)
      refine T_op zk_73_24 rfl (X_rem (by omega) (by omega)) (pc' := 25) rfl ?_
      refine G_ialdX (w := a) (ln := 96) zk_73_25 rfl rfl (vd_18 (by omega) (by omega)) (by omega) (by omega) (by omega) (fun σ' h => (h.1.2 _ _ _ _ (fun q => q)).trans sa) (pc' := 26) rfl ?_
      exact T_iret zk_73_26 rfl (fun σ' h => ⟨_, rfl, (by omega), h.1, trivial⟩)
    ·
      refine T_op zk_73_11 rfl X_ic (pc' := 12) rfl ?_
      refine T_goto zk_73_12 ?_
      exact T_iret zk_73_26 rfl (fun σ' h => ⟨_, rfl, (by omega), h.1, trivial⟩)
/-- W.seaAt -/
theorem s_91_0 {xs : Nat × (Nat → Int32)} (p0 : Int) (n : Int) (a : Int) (hp0 : -2147483648 ≤ p0 ∧ p0 ≤ 2147483647) (hn : 0 ≤ n ∧ n ≤ 96) (ha : -2147483648 ≤ a ∧ a ≤ 2147483647) (σ : ZS) (hI : Inv σ)  (sn : σ 17 0 0 0 = n) (sa : σ 18 0 0 (Int.toNat (p0 % n)) = a) : CT xs 2 91 [av 0 0 0, iv p0, iv 0] σ (fun v σ' => ∃ y, v = some (iv y) ∧ ((y = 1000 ∧ (p0 < 0)) ∨ (y = 0 ∧ ¬ (p0 < 0) ∧ (n ≤ 0)) ∨ (y = a ∧ ¬ (p0 < 0) ∧ ¬ (n ≤ 0))) ∧ IF MN σ σ' ∧ (True)) := by
  refine G_ct (J := (fun σ' => IF MN σ σ' ∧ True)) (L := [(0, av 0 0 0), (1, iv p0), (2, iv 0)]) (nL := 3) rfl rfl rfl ⟨IF.rf hI, trivial⟩ ?_
  refine T_ld zk_91_0 rfl rfl rfl (pc' := 1) rfl ?_
  refine T_if_ge zk_91_1 (by omega) (pc' := 4) rfl (fun h1 => ?_) (fun h2 => ?_)
  ·
    refine T_ld zk_91_10 rfl rfl rfl (pc' := 11) rfl ?_
    refine T_getR (t' := 1) (i' := 0) (k' := 0) zk_91_11 rfl rfl rfl vd_0 (pc' := 14) rfl ?_
    refine T_ld zk_91_14 rfl rfl rfl (pc' := 15) rfl ?_
    refine T_callr (t := 17) (i := 0) (k := 0) (J' := (fun σ' => IF MN σ σ' ∧ True)) (r := []) zk_91_15 rfl rfl rfl rfl rfl rfl (Or.inr ⟨_, _, _, _, rfl, (vd_1 (by omega)), rfl⟩) (fun σ' h => (s_10_0   σ' h.1.1 ).le (Nat.le_of_ble_eq_true rfl) (fun v σ2 ⟨h1, h3, h4⟩ => ⟨h1, h.1.tr h3 MN_sub, trivial⟩)) (pc' := 18) rfl ?_
    refine T_ld zk_91_18 rfl rfl rfl (pc' := 19) rfl ?_
    refine T_calli (K := fun y4 σ' => ((y4 = 0 ∧ (n ≤ 0 ∨ p0 < 0)) ∨ (y4 = a ∧ ¬ (n ≤ 0 ∨ p0 < 0))) ∧ (fun σ' => IF MN σ σ' ∧ True) σ') (r := []) zk_91_19 rfl rfl rfl rfl rfl rfl (Or.inr ⟨_, _, _, _, rfl, (vd_17 (by omega) (by omega)), rfl⟩) (fun σ' h => (s_73_0 p0 n a (by omega) (by omega) (by omega) σ' h.1.1 ((h.1.2 _ _ _ _ (fun q => q)).trans sn) ((h.1.2 _ _ _ _ (fun q => q)).trans sa)).le (Nat.le_of_ble_eq_true rfl) (fun v σ2 ⟨y, h1, h2, h3, h4⟩ => ⟨y, h1, h2, h.1.tr h3 MN_sub, trivial⟩)) (pc' := 22) rfl (fun y4 => ?_)
    refine G_ex (fun hy4 => ?_)
    exact T_iret zk_91_22 rfl (fun σ' h => ⟨_, rfl, (by omega), h.1, trivial⟩)
  ·
    refine T_op zk_91_4 rfl (X_si (v := 1000) (by decide)) (pc' := 7) rfl ?_
    refine T_goto zk_91_7 ?_
    exact T_iret zk_91_22 rfl (fun σ' h => ⟨_, rfl, (by omega), h.1, trivial⟩)
/-- W$City.tide -/
theorem s_10_1 {xs : Nat × (Nat → Int32)}   (σ : ZS) (hI : Inv σ)   : CT xs 1 10 [av 1 0 0, iv 1] σ (fun v σ' => v = some (av 17 0 1) ∧ IF MN σ σ' ∧ (True)) := by
  refine G_ct (J := (fun σ' => IF MN σ σ' ∧ True)) (L := [(0, av 1 0 0), (1, iv 1)]) (nL := 2) rfl rfl rfl ⟨IF.rf hI, trivial⟩ ?_
  refine T_ld zk_10_0 rfl rfl rfl (pc' := 1) rfl ?_
  refine T_if_eq zk_10_1 (by omega) (pc' := 4) rfl (fun h1 => ?_) (fun h2 => ?_)
  · exfalso; omega
  ·
    refine T_ld zk_10_4 rfl rfl rfl (pc' := 5) rfl ?_
    refine T_getR (t' := 17) (i' := 0) (k' := 1) zk_10_5 rfl rfl rfl (vd_1 (by omega)) (pc' := 8) rfl ?_
    refine T_goto zk_10_8 ?_
    exact T_aret zk_10_15 rfl (fun σ' h => ⟨rfl, h.1, trivial⟩)
/-- W$Tide.takeRow -/
theorem s_71_1 {xs : Nat × (Nat → Int32)} (k2 : Nat) (u1 : Int) (u2 : Int) (F G : Nat → Int) (hk2 : k2 < 8) (hu1 : 0 ≤ u1 ∧ u1 ≤ 3) (hu2 : 0 ≤ u2 ∧ u2 ≤ 96) (σ : ZS) (hI : Inv σ)  (s1 : σ 33 0 k2 1 = u1) (s2 : σ 33 0 k2 2 = u2) (rf : Eq (σ 34 0 k2) F) (rg : Eq (σ 18 0 1) G) : CT xs 2 71 [av 17 0 1, av 33 0 k2] σ (fun v σ' => v = none ∧ IF (MTy 1) σ σ' ∧ (σ' 17 0 1 0 = u2 ∧ Eq (σ' 18 0 1) (fhv F G u1 (Int.toNat u2)) ∧ True)) := by
  refine G_ct (J := (fun σ' => IF (MTy 1) σ σ' ∧ Eq (σ' 34 0 k2) F ∧ Eq (σ' 18 0 1) G ∧ True)) (L := [(0, av 17 0 1), (1, av 33 0 k2)]) (nL := 4) rfl rfl rfl ⟨IF.rf hI, rf, rg, trivial⟩ ?_
  refine T_ld zk_71_0 rfl rfl rfl (pc' := 1) rfl ?_
  refine T_ld zk_71_1 rfl rfl rfl (pc' := 2) rfl ?_
  refine G_getX (w := u2) zk_71_2 rfl (vd_33 (by omega)) (fun σ' h => (h.1.2 _ _ _ _ (by first | exact nMTy rfl | (unfold MTy; omega))).trans s2) (pc' := 5) rfl ?_
  refine T_putf (J' := (fun σ' => IF (MTy 1) σ σ' ∧ Eq (σ' 34 0 k2) F ∧ Eq (σ' 18 0 1) G ∧ σ' 17 0 1 0 = u2 ∧ True)) zk_71_5 rfl rfl (vd_17 (by omega) (by omega)) (fun σ' h => ⟨h.1.up (by simp only [rgP] <;> omega) (by unfold MTy; omega), gf_mk (fun z => Eq z F) (up_row (by omega)) (h.2.1), gf_mk (fun z => Eq z G) (up_row (by omega)) (h.2.2.1), up_eq, trivial⟩) (pc' := 8) rfl ?_
  refine T_op zk_71_8 rfl X_ic (pc' := 9) rfl ?_
  refine T_st (L' := [(0, av 17 0 1), (1, av 33 0 k2), (2, iv 0)]) zk_71_9 (nL := 4) rfl rfl rfl rfl rfl (pc' := 10) rfl ?_
  refine G_know (J' := (fun σ' => IF (MTy 1) σ σ' ∧ Eq (σ' 34 0 k2) F ∧ σ' 17 0 1 0 = u2 ∧ Eq (σ' 18 0 1) (fhv F G u1 (Int.toNat 0)) ∧ True)) (fun σ' h => ⟨h.1, h.2.1, h.2.2.2.1, ((h.2.2.1).trans fhv_0.symm), trivial⟩) ?_
  refine T_loop1 (fun x1 => ((96 - x1 : Int)).toNat) (fun x1 => (0 ≤ x1 ∧ x1 ≤ 96) ∧ x1 ≤ u2) (fun x1 => TJ xs (fun σ' => IF (MTy 1) σ σ' ∧ Eq (σ' 34 0 k2) F ∧ σ' 17 0 1 0 = u2 ∧ Eq (σ' 18 0 1) (fhv F G u1 (Int.toNat x1)) ∧ True) 1 71 10 [(0, av 17 0 1), (1, av 33 0 k2), (2, iv x1)] [] _) ?_ 0 (by omega)
  intro x1 hp3 ih2
  have hh := hv_spec u1 (F (Int.toNat x1))
  refine T_ld zk_71_10 rfl rfl rfl (pc' := 11) rfl ?_
  refine T_ld zk_71_11 rfl rfl rfl (pc' := 12) rfl ?_
  refine G_getX (w := u2) zk_71_12 rfl (vd_17 (by omega) (by omega)) (fun σ' h => h.2.2.1) (pc' := 15) rfl ?_
  refine T_icmp_ge zk_71_15 (by omega) (by omega) (pc' := 18) rfl (fun h4 => ?_) (fun h5 => ?_)
  ·
    exact T_vret zk_71_64 rfl (fun σ' h => ⟨rfl, h.1, ⟨h.2.2.1, ((h.2.2.2.1).trans (by rw [show (Int.toNat x1) = (Int.toNat u2) from by omega])), trivial⟩⟩)
  ·
    refine T_op zk_71_18 rfl (X_si (v := -300) (by decide)) (pc' := 21) rfl ?_
    refine T_op zk_71_21 rfl (X_si (v := 300) (by decide)) (pc' := 24) rfl ?_
    refine T_ld zk_71_24 rfl rfl rfl (pc' := 25) rfl ?_
    refine T_getR (t' := 34) (i' := 0) (k' := k2) zk_71_25 rfl rfl rfl (vd_33 (by omega)) (pc' := 28) rfl ?_
    refine T_ld zk_71_28 rfl rfl rfl (pc' := 29) rfl ?_
    refine G_laldX (w := F (Int.toNat x1)) (ln := 96) zk_71_29 rfl rfl (vd_34 (by omega)) (by omega) (by omega) (by omega) (fun σ' h => congrFun (h.2.1) _) (pc' := 30) rfl ?_
    refine T_l2iX zk_71_30 (fun hl6 hl6' => ?_)
    refine T_min zk_71_31 rfl (by omega) (by omega) rfl (pc' := 34) rfl (fun y7 hy7 hy7' ey7 => ?_)
    refine T_max zk_71_34 rfl (by omega) (by omega) rfl (pc' := 37) rfl (fun y8 hy8 hy8' ey8 => ?_)
    refine T_st (L' := [(0, av 17 0 1), (1, av 33 0 k2), (2, iv x1), (3, iv y8)]) zk_71_37 (nL := 4) rfl rfl rfl rfl rfl (pc' := 38) rfl ?_
    refine T_ld zk_71_38 rfl rfl rfl (pc' := 39) rfl ?_
    refine T_getR (t' := 18) (i' := 0) (k' := 1) zk_71_39 rfl rfl rfl (vd_17 (by omega) (by omega)) (pc' := 42) rfl ?_
    refine T_ld zk_71_42 rfl rfl rfl (pc' := 43) rfl ?_
    refine T_ld zk_71_43 rfl rfl rfl (pc' := 44) rfl ?_
    refine T_ld zk_71_44 rfl rfl rfl (pc' := 45) rfl ?_
    refine T_calli (K := fun y9 σ' => (y9 = mz u1 (F (Int.toNat x1)) ∧ 0 ≤ y9 ∧ y9 ≤ 1) ∧ (fun σ' => IF (MTy 1) σ σ' ∧ Eq (σ' 34 0 k2) F ∧ σ' 17 0 1 0 = u2 ∧ Eq (σ' 18 0 1) (fhv F G u1 (Int.toNat x1)) ∧ True) σ') (r := [iv x1, av 18 0 1]) zk_71_45 rfl rfl rfl rfl rfl rfl (Or.inr ⟨_, _, _, _, rfl, (vd_33 (by omega)), rfl⟩) (fun σ' h => (s_69 k2 x1 u1 (F (Int.toNat x1)) (by omega) (by omega) (by omega) σ' h.1.1 ((h.1.2 _ _ _ _ (by first | exact nMTy rfl | (unfold MTy; omega))).trans s1) (congrFun (h.2.1) _)).le (Nat.le_of_ble_eq_true rfl) (fun v σ2 ⟨y, h1, h2, h3, h4⟩ => ⟨y, h1, h2, h.1.tr h3 MN_sub, gf_mk (fun z => Eq z F) (funext fun j => h3.2 _ _ _ _ (fun q => q)) (h.2.1), (h3.2 _ _ _ _ (fun q => q)).trans (h.2.2.1), gf_mk (fun z => Eq z (fhv F G u1 (Int.toNat x1))) (funext fun j => h3.2 _ _ _ _ (fun q => q)) (h.2.2.2.1), trivial⟩)) (pc' := 48) rfl (fun y9 => ?_)
    refine G_ex (fun hy9 => ?_)
    refine T_if_eq zk_71_48 (by omega) (pc' := 51) rfl (fun h10 => ?_) (fun h11 => ?_)
    ·
      refine T_ld zk_71_56 rfl rfl rfl (pc' := 57) rfl ?_
      refine G_iast (J' := (fun σ' => IF (MTy 1) σ σ' ∧ Eq (σ' 34 0 k2) F ∧ σ' 17 0 1 0 = u2 ∧ Eq (σ' 18 0 1) (fhv F G u1 (Int.toNat (x1 + 1))) ∧ True)) (ln := 96) zk_71_57 rfl rfl (vd_18 (by omega) (by omega)) (by omega) (by omega) (by omega) (fun σ' h => ⟨h.1.up (by simp only [rgP] <;> omega) (by unfold MTy; omega), gf_mk (fun z => Eq z F) (up_row (by omega)) (h.2.1), (up_ne (by omega)).trans (h.2.2.1), fhv_push (h.2.2.2.1) (by omega) (by omega) (by omega), trivial⟩) (pc' := 58) rfl ?_
      refine T_iinc (L' := [(0, av 17 0 1), (1, av 33 0 k2), (2, iv (x1 + 1)), (3, iv y8)]) zk_71_58 (nL := 4) rfl rfl rfl rfl (pc' := 61) rfl ?_
      refine T_goto zk_71_61 ?_
      refine T_loc (L := [(0, av 17 0 1), (1, av 33 0 k2), (2, iv (x1 + 1))]) (E := [(3, iv y8)]) rfl ?_
      exact ih2 (x1 + 1) (by omega) (by omega)
    ·
      refine T_op zk_71_51 rfl (X_bi (v := 30) (by decide)) (pc' := 53) rfl ?_
      refine T_goto zk_71_53 ?_
      refine G_iast (J' := (fun σ' => IF (MTy 1) σ σ' ∧ Eq (σ' 34 0 k2) F ∧ σ' 17 0 1 0 = u2 ∧ Eq (σ' 18 0 1) (fhv F G u1 (Int.toNat (x1 + 1))) ∧ True)) (ln := 96) zk_71_57 rfl rfl (vd_18 (by omega) (by omega)) (by omega) (by omega) (by omega) (fun σ' h => ⟨h.1.up (by simp only [rgP] <;> omega) (by unfold MTy; omega), gf_mk (fun z => Eq z F) (up_row (by omega)) (h.2.1), (up_ne (by omega)).trans (h.2.2.1), fhv_push (h.2.2.2.1) (by omega) (by omega) (by omega), trivial⟩) (pc' := 58) rfl ?_
      refine T_iinc (L' := [(0, av 17 0 1), (1, av 33 0 k2), (2, iv (x1 + 1)), (3, iv y8)]) zk_71_58 (nL := 4) rfl rfl rfl rfl (pc' := 61) rfl ?_
      refine T_goto zk_71_61 ?_
      refine T_loc (L := [(0, av 17 0 1), (1, av 33 0 k2), (2, iv (x1 + 1))]) (E := [(3, iv y8)]) rfl ?_
      exact ih2 (x1 + 1) (by omega) (by omega)
theorem sb79t_87528d0 : ∀ t i k j, MTy 1 t i k j → MTs 1 t i k j := by
  intro t i k j h
  unfold MTy at h
  unfold MTs
  omega
theorem sb79t_8fb63f9 : ∀ t i k j, MI 0 28 28 28 28 t i k j → MTs 1 t i k j := by
  intro t i k j h
  unfold MI at h
  unfold MTs
  omega
/-- W.sea -/
theorem s_90_1 {xs : Nat × (Nat → Int32)} (p0 : Int) (u0 : Int) (u1 : Int) (u2 : Int) (n : Int) (F G : Nat → Int) (hp0 : 0 ≤ p0 ∧ p0 ≤ 7) (hu0 : -2147483648 ≤ u0 ∧ u0 ≤ 2147483647) (hu1 : 0 ≤ u1 ∧ u1 ≤ 3) (hu2 : 0 ≤ u2 ∧ u2 ≤ 96) (hn : 0 ≤ n ∧ n ≤ 96) (σ : ZS) (hI : Inv σ)  (s0 : σ 33 0 (Int.toNat p0) 0 = u0) (s1 : σ 33 0 (Int.toNat p0) 1 = u1) (s2 : σ 33 0 (Int.toNat p0) 2 = u2) (sn : σ 17 0 1 0 = n) (rf : Eq (σ 34 0 (Int.toNat p0)) F) (rg : Eq (σ 18 0 1) G) : CT xs 3 90 [av 0 0 0, iv p0, iv 1] σ (fun v σ' => ∃ y, v = some (iv y) ∧ ((y = -2 ∧ (u0 = 2)) ∨ (y = -3 ∧ ¬ (u0 = 2) ∧ (u0 = 0)) ∨ (y = u2 ∧ ¬ (u0 = 2) ∧ ¬ (u0 = 0))) ∧ IF (MTs 1) σ σ' ∧ (((0 ≤ y → σ' 17 0 1 0 = u2) ∧ (y < 0 → σ' 17 0 1 0 = n)) ∧ rct (σ' 18 0 1) y (fhv F G u1 (Int.toNat u2)) G ∧ True)) := by
  refine G_ct (J := (fun σ' => IF (MTs 1) σ σ' ∧ σ' 17 0 1 0 = n ∧ Eq (σ' 34 0 (Int.toNat p0)) F ∧ Eq (σ' 18 0 1) G ∧ True)) (L := [(0, av 0 0 0), (1, iv p0), (2, iv 1)]) (nL := 4) rfl rfl rfl ⟨IF.rf hI, sn, rf, rg, trivial⟩ ?_
  refine T_ld zk_90_0 rfl rfl rfl (pc' := 1) rfl ?_
  refine T_ld zk_90_1 rfl rfl rfl (pc' := 2) rfl ?_
  refine T_calli (K := fun y1 σ' => ((y1 = -2 ∧ (u0 = 2)) ∨ (y1 = -3 ∧ ¬ (u0 = 2) ∧ (u0 = 0)) ∨ (y1 = 0 ∧ ¬ (u0 = 2) ∧ ¬ (u0 = 0))) ∧ (fun σ' => IF (MTs 1) σ σ' ∧ σ' 17 0 1 0 = n ∧ Eq (σ' 34 0 (Int.toNat p0)) F ∧ Eq (σ' 18 0 1) G ∧ True) σ') (r := []) zk_90_2 rfl rfl rfl rfl rfl rfl (Or.inr ⟨_, _, _, _, rfl, vd_0, rfl⟩) (fun σ' h => (s_119 p0 u0 (by omega) (by omega) σ' h.1.1 ((h.1.2 _ _ _ _ (by first | exact nMTs rfl | (unfold MTs; omega))).trans s0)).le (Nat.le_of_ble_eq_true rfl) (fun v σ2 ⟨y, h1, h2, h3, h4⟩ => ⟨y, h1, h2, h.1.tr h3 MN_sub, (h3.2 _ _ _ _ (fun q => q)).trans (h.2.1), gf_mk (fun z => Eq z F) (funext fun j => h3.2 _ _ _ _ (fun q => q)) (h.2.2.1), gf_mk (fun z => Eq z G) (funext fun j => h3.2 _ _ _ _ (fun q => q)) (h.2.2.2.1), trivial⟩)) (pc' := 5) rfl (fun y1 => ?_)
  refine G_ex (fun hy1 => ?_)
  refine T_st (L' := [(0, av 0 0 0), (1, iv p0), (2, iv 1), (3, iv y1)]) zk_90_5 (nL := 4) rfl rfl rfl rfl rfl (pc' := 6) rfl ?_
  refine T_ld zk_90_6 rfl rfl rfl (pc' := 7) rfl ?_
  refine T_if_eq zk_90_7 (by omega) (pc' := 10) rfl (fun h2 => ?_) (fun h3 => ?_)
  ·
    refine T_ld zk_90_16 rfl rfl rfl (pc' := 17) rfl ?_
    refine T_getR (t' := 1) (i' := 0) (k' := 0) zk_90_17 rfl rfl rfl vd_0 (pc' := 20) rfl ?_
    refine T_ld zk_90_20 rfl rfl rfl (pc' := 21) rfl ?_
    refine T_callr (t := 17) (i := 0) (k := 1) (J' := (fun σ' => IF (MTs 1) σ σ' ∧ σ' 17 0 1 0 = n ∧ Eq (σ' 34 0 (Int.toNat p0)) F ∧ Eq (σ' 18 0 1) G ∧ True)) (r := []) zk_90_21 rfl rfl rfl rfl rfl rfl (Or.inr ⟨_, _, _, _, rfl, (vd_1 (by omega)), rfl⟩) (fun σ' h => (s_10_1   σ' h.1.1 ).le (Nat.le_of_ble_eq_true rfl) (fun v σ2 ⟨h1, h3, h4⟩ => ⟨h1, h.1.tr h3 MN_sub, (h3.2 _ _ _ _ (fun q => q)).trans (h.2.1), gf_mk (fun z => Eq z F) (funext fun j => h3.2 _ _ _ _ (fun q => q)) (h.2.2.1), gf_mk (fun z => Eq z G) (funext fun j => h3.2 _ _ _ _ (fun q => q)) (h.2.2.2.1), trivial⟩)) (pc' := 24) rfl ?_
    refine T_ld zk_90_24 rfl rfl rfl (pc' := 25) rfl ?_
    refine T_getR (t' := 27) (i' := 0) (k' := 0) zk_90_25 rfl rfl rfl vd_0 (pc' := 28) rfl ?_
    refine T_ld zk_90_28 rfl rfl rfl (pc' := 29) rfl ?_
    refine G_aald (t' := 33) (im := 0) (i' := 0) (ln := 8) zk_90_29 rfl rfl rfl vd_27 (by omega) (by omega) (by omega) (pc' := 30) rfl ?_
    refine T_callv (J' := (fun σ' => IF (MTs 1) σ σ' ∧ Eq (σ' 34 0 (Int.toNat p0)) F ∧ σ' 17 0 1 0 = u2 ∧ Eq (σ' 18 0 1) (fhv F G u1 (Int.toNat u2)) ∧ True)) (r := []) zk_90_30 rfl rfl rfl rfl rfl rfl (Or.inr ⟨_, _, _, _, rfl, (vd_17 (by omega) (by omega)), rfl⟩) (fun σ' h => (s_71_1 (Int.toNat p0) u1 u2 F G (by omega) (by omega) (by omega) σ' h.1.1 ((h.1.2 _ _ _ _ (by first | exact nMTs rfl | (unfold MTs; omega))).trans s1) ((h.1.2 _ _ _ _ (by first | exact nMTs rfl | (unfold MTs; omega))).trans s2) (h.2.2.1) (h.2.2.2.1)).le (Nat.le_of_ble_eq_true rfl) (fun v σ2 ⟨h1, h3, h4⟩ => ⟨h1, h.1.tr h3 sb79t_87528d0, gf_mk (fun z => Eq z F) (funext fun j => h3.2 _ _ _ _ (by first | exact nMTy rfl | (unfold MTy; omega))) (h.2.2.1), h4.1, h4.2.1, trivial⟩)) (pc' := 33) rfl ?_
    refine T_ld zk_90_33 rfl rfl rfl (pc' := 34) rfl ?_
    refine T_getR (t' := 27) (i' := 0) (k' := 0) zk_90_34 rfl rfl rfl vd_0 (pc' := 37) rfl ?_
    refine T_ld zk_90_37 rfl rfl rfl (pc' := 38) rfl ?_
    refine G_aald (t' := 33) (im := 0) (i' := 0) (ln := 8) zk_90_38 rfl rfl rfl vd_27 (by omega) (by omega) (by omega) (pc' := 39) rfl ?_
    refine G_getX (w := u2) zk_90_39 rfl (vd_33 (by omega)) (fun σ' h => (h.1.2 _ _ _ _ (by first | exact nMTs rfl | (unfold MTs; omega))).trans s2) (pc' := 42) rfl ?_
    exact T_iret zk_90_42 rfl (fun σ' h => ⟨_, rfl, (by omega), h.1, ⟨(by have e := h.2.2.1; omega), ⟨fun _ => h.2.2.2.1, fun q => by exfalso; omega⟩, trivial⟩⟩)
  ·
    refine T_ld zk_90_10 rfl rfl rfl (pc' := 11) rfl ?_
    refine T_ld zk_90_11 rfl rfl rfl (pc' := 12) rfl ?_
    refine T_calli (K := fun y6 σ' => (y6 = y1) ∧ (fun σ' => IF (MTs 1) σ σ' ∧ σ' 17 0 1 0 = n ∧ Eq (σ' 34 0 (Int.toNat p0)) F ∧ Eq (σ' 18 0 1) G ∧ True) σ') (r := []) zk_90_12 rfl rfl rfl rfl rfl rfl (Or.inr ⟨_, _, _, _, rfl, vd_0, rfl⟩) (fun σ' h => (w_113 y1 (by omega) σ' h.1.1 ).le (Nat.le_of_ble_eq_true rfl) (fun v σ2 ⟨y, h1, h2, h3, h4⟩ => ⟨y, h1, h2, h.1.tr h3 sb79t_8fb63f9, (h3.2 _ _ _ _ (by first | exact nMI rfl | (unfold MI; omega))).trans (h.2.1), gf_mk (fun z => Eq z F) (funext fun j => h3.2 _ _ _ _ (by first | exact nMI rfl | (unfold MI; omega))) (h.2.2.1), gf_mk (fun z => Eq z G) (funext fun j => h3.2 _ _ _ _ (by first | exact nMI rfl | (unfold MI; omega))) (h.2.2.2.1), trivial⟩)) (pc' := 15) rfl (fun y6 => ?_)
    refine G_ex (fun hy6 => ?_)
    obtain rfl : y6 = y1 := by omega
    exact T_iret zk_90_15 rfl (fun σ' h => ⟨_, rfl, (by omega), h.1, ⟨(by have e := h.2.1; omega), ⟨fun q => by exfalso; omega, fun _ => h.2.2.2.1⟩, trivial⟩⟩)
/-- W.sea -/
theorem s_90o_1 {xs : Nat × (Nat → Int32)} (p0 : Int) (hp0 : -2147483648 ≤ p0 ∧ p0 ≤ 2147483647) (ho : p0 < 0 ∨ 7 < p0) (σ : ZS) (hI : Inv σ)   : CT xs 3 90 [av 0 0 0, iv p0, iv 1] σ (fun v σ' => ∃ y, v = some (iv y) ∧ (y = -1) ∧ IF (MI 0 28 28 28 28) σ σ' ∧ (True)) := by
  refine G_ct (J := (fun σ' => IF (MI 0 28 28 28 28) σ σ' ∧ True)) (L := [(0, av 0 0 0), (1, iv p0), (2, iv 1)]) (nL := 4) rfl rfl rfl ⟨IF.rf hI, trivial⟩ ?_
  refine T_ld zk_90_0 rfl rfl rfl (pc' := 1) rfl ?_
  refine T_ld zk_90_1 rfl rfl rfl (pc' := 2) rfl ?_
  refine T_calli (K := fun y1 σ' => ((y1 = -1 ∧ (p0 < 0 ∨ 7 < p0)) ∨ ((y1 = -3 ∨ y1 = -2 ∨ y1 = 0) ∧ 0 ≤ p0 ∧ p0 ≤ 7)) ∧ (fun σ' => IF (MI 0 28 28 28 28) σ σ' ∧ True) σ') (r := []) zk_90_2 rfl rfl rfl rfl rfl rfl (Or.inr ⟨_, _, _, _, rfl, vd_0, rfl⟩) (fun σ' h => (w_119 p0 (by omega) σ' h.1.1 ).le (Nat.le_of_ble_eq_true rfl) (fun v σ2 ⟨y, h1, h2, h3, h4⟩ => ⟨y, h1, h2, h.1.tr h3 MN_sub, trivial⟩)) (pc' := 5) rfl (fun y1 => ?_)
  refine G_ex (fun hy1 => ?_)
  refine T_st (L' := [(0, av 0 0 0), (1, iv p0), (2, iv 1), (3, iv y1)]) zk_90_5 (nL := 4) rfl rfl rfl rfl rfl (pc' := 6) rfl ?_
  refine T_ld zk_90_6 rfl rfl rfl (pc' := 7) rfl ?_
  refine T_if_eq zk_90_7 (by omega) (pc' := 10) rfl (fun h2 => ?_) (fun h3 => ?_)
  · exfalso; omega
  ·
    refine T_ld zk_90_10 rfl rfl rfl (pc' := 11) rfl ?_
    refine T_ld zk_90_11 rfl rfl rfl (pc' := 12) rfl ?_
    refine T_calli (K := fun y4 σ' => (y4 = y1) ∧ (fun σ' => IF (MI 0 28 28 28 28) σ σ' ∧ True) σ') (r := []) zk_90_12 rfl rfl rfl rfl rfl rfl (Or.inr ⟨_, _, _, _, rfl, vd_0, rfl⟩) (fun σ' h => (w_113 y1 (by omega) σ' h.1.1 ).le (Nat.le_of_ble_eq_true rfl) (fun v σ2 ⟨y, h1, h2, h3, h4⟩ => ⟨y, h1, h2, h.1.tr h3 (fun _ _ _ _ h => h), trivial⟩)) (pc' := 15) rfl (fun y4 => ?_)
    refine G_ex (fun hy4 => ?_)
    obtain rfl : y4 = y1 := by omega
    exact T_iret zk_90_15 rfl (fun σ' h => ⟨_, rfl, (by omega), h.1, trivial⟩)
/-- W$Tide.heightIn -/
theorem s_73_1 {xs : Nat × (Nat → Int32)} (p0 : Int) (n : Int) (a : Int) (hp0 : -2147483648 ≤ p0 ∧ p0 ≤ 2147483647) (hn : 0 ≤ n ∧ n ≤ 96) (ha : -2147483648 ≤ a ∧ a ≤ 2147483647) (σ : ZS) (hI : Inv σ)  (sn : σ 17 0 1 0 = n) (sa : σ 18 0 1 (Int.toNat (p0 % n)) = a) : CT xs 1 73 [av 17 0 1, iv p0] σ (fun v σ' => ∃ y, v = some (iv y) ∧ ((y = 0 ∧ (n ≤ 0 ∨ p0 < 0)) ∨ (y = a ∧ ¬ (n ≤ 0 ∨ p0 < 0))) ∧ IF MN σ σ' ∧ (True)) := by
  refine G_ct (J := (fun σ' => IF MN σ σ' ∧ True)) (L := [(0, av 17 0 1), (1, iv p0)]) (nL := 2) rfl rfl rfl ⟨IF.rf hI, trivial⟩ ?_
  refine T_ld zk_73_0 rfl rfl rfl (pc' := 1) rfl ?_
  refine G_getX (w := n) zk_73_1 rfl (vd_17 (by omega) (by omega)) (fun σ' h => (h.1.2 _ _ _ _ (fun q => q)).trans sn) (pc' := 4) rfl ?_
  refine T_if_le zk_73_4 (by omega) (pc' := 7) rfl (fun h1 => ?_) (fun h2 => ?_)
  ·
    refine T_op zk_73_11 rfl X_ic (pc' := 12) rfl ?_
    refine T_goto zk_73_12 ?_
    exact T_iret zk_73_26 rfl (fun σ' h => ⟨_, rfl, (by omega), h.1, trivial⟩)
  ·
    refine T_ld zk_73_7 rfl rfl rfl (pc' := 8) rfl ?_
    refine T_if_ge zk_73_8 (by omega) (pc' := 11) rfl (fun h3 => ?_) (fun h4 => ?_)
    ·
      refine T_ld zk_73_15 rfl rfl rfl (pc' := 16) rfl ?_
      refine T_getR (t' := 18) (i' := 0) (k' := 1) zk_73_16 rfl rfl rfl (vd_17 (by omega) (by omega)) (pc' := 19) rfl ?_
      refine T_ld zk_73_19 rfl rfl rfl (pc' := 20) rfl ?_
      refine T_ld zk_73_20 rfl rfl rfl (pc' := 21) rfl ?_
      refine G_getX (w := n) zk_73_21 rfl (vd_17 (by omega) (by omega)) (fun σ' h => (h.1.2 _ _ _ _ (fun q => q)).trans sn) (pc' := 24) rfl ?_
      have hm5 : 0 ≤ p0 % n := Int.emod_nonneg _ (by omega)
      have hm5' : p0 % n < n := Int.emod_lt_of_pos _ (by omega)
      refine T_op zk_73_24 rfl (X_rem (by omega) (by omega)) (pc' := 25) rfl ?_
      refine G_ialdX (w := a) (ln := 96) zk_73_25 rfl rfl (vd_18 (by omega) (by omega)) (by omega) (by omega) (by omega) (fun σ' h => (h.1.2 _ _ _ _ (fun q => q)).trans sa) (pc' := 26) rfl ?_
      exact T_iret zk_73_26 rfl (fun σ' h => ⟨_, rfl, (by omega), h.1, trivial⟩)
    ·
      refine T_op zk_73_11 rfl X_ic (pc' := 12) rfl ?_
      refine T_goto zk_73_12 ?_
      exact T_iret zk_73_26 rfl (fun σ' h => ⟨_, rfl, (by omega), h.1, trivial⟩)
/-- W.seaAt -/
theorem s_91_1 {xs : Nat × (Nat → Int32)} (p0 : Int) (n : Int) (a : Int) (hp0 : -2147483648 ≤ p0 ∧ p0 ≤ 2147483647) (hn : 0 ≤ n ∧ n ≤ 96) (ha : -2147483648 ≤ a ∧ a ≤ 2147483647) (σ : ZS) (hI : Inv σ)  (sn : σ 17 0 1 0 = n) (sa : σ 18 0 1 (Int.toNat (p0 % n)) = a) : CT xs 2 91 [av 0 0 0, iv p0, iv 1] σ (fun v σ' => ∃ y, v = some (iv y) ∧ ((y = 1000 ∧ (p0 < 0)) ∨ (y = 0 ∧ ¬ (p0 < 0) ∧ (n ≤ 0)) ∨ (y = a ∧ ¬ (p0 < 0) ∧ ¬ (n ≤ 0))) ∧ IF MN σ σ' ∧ (True)) := by
  refine G_ct (J := (fun σ' => IF MN σ σ' ∧ True)) (L := [(0, av 0 0 0), (1, iv p0), (2, iv 1)]) (nL := 3) rfl rfl rfl ⟨IF.rf hI, trivial⟩ ?_
  refine T_ld zk_91_0 rfl rfl rfl (pc' := 1) rfl ?_
  refine T_if_ge zk_91_1 (by omega) (pc' := 4) rfl (fun h1 => ?_) (fun h2 => ?_)
  ·
    refine T_ld zk_91_10 rfl rfl rfl (pc' := 11) rfl ?_
    refine T_getR (t' := 1) (i' := 0) (k' := 0) zk_91_11 rfl rfl rfl vd_0 (pc' := 14) rfl ?_
    refine T_ld zk_91_14 rfl rfl rfl (pc' := 15) rfl ?_
    refine T_callr (t := 17) (i := 0) (k := 1) (J' := (fun σ' => IF MN σ σ' ∧ True)) (r := []) zk_91_15 rfl rfl rfl rfl rfl rfl (Or.inr ⟨_, _, _, _, rfl, (vd_1 (by omega)), rfl⟩) (fun σ' h => (s_10_1   σ' h.1.1 ).le (Nat.le_of_ble_eq_true rfl) (fun v σ2 ⟨h1, h3, h4⟩ => ⟨h1, h.1.tr h3 MN_sub, trivial⟩)) (pc' := 18) rfl ?_
    refine T_ld zk_91_18 rfl rfl rfl (pc' := 19) rfl ?_
    refine T_calli (K := fun y4 σ' => ((y4 = 0 ∧ (n ≤ 0 ∨ p0 < 0)) ∨ (y4 = a ∧ ¬ (n ≤ 0 ∨ p0 < 0))) ∧ (fun σ' => IF MN σ σ' ∧ True) σ') (r := []) zk_91_19 rfl rfl rfl rfl rfl rfl (Or.inr ⟨_, _, _, _, rfl, (vd_17 (by omega) (by omega)), rfl⟩) (fun σ' h => (s_73_1 p0 n a (by omega) (by omega) (by omega) σ' h.1.1 ((h.1.2 _ _ _ _ (fun q => q)).trans sn) ((h.1.2 _ _ _ _ (fun q => q)).trans sa)).le (Nat.le_of_ble_eq_true rfl) (fun v σ2 ⟨y, h1, h2, h3, h4⟩ => ⟨y, h1, h2, h.1.tr h3 MN_sub, trivial⟩)) (pc' := 22) rfl (fun y4 => ?_)
    refine G_ex (fun hy4 => ?_)
    exact T_iret zk_91_22 rfl (fun σ' h => ⟨_, rfl, (by omega), h.1, trivial⟩)
  ·
    refine T_op zk_91_4 rfl (X_si (v := 1000) (by decide)) (pc' := 7) rfl ?_
    refine T_goto zk_91_7 ?_
    exact T_iret zk_91_22 rfl (fun σ' h => ⟨_, rfl, (by omega), h.1, trivial⟩)
/-- W$Tide.takeTide -/
theorem s_72_10 {xs : Nat × (Nat → Int32)}  (n : Int) (F : Nat → Int) (hn : 0 ≤ n ∧ n ≤ 96) (σ : ZS) (hI : Inv σ)  (sn : σ 17 0 0 0 = n) (rf : (∀ j, 0 ≤ j → j < 96 → σ 18 0 0 j = F j)) : CT xs 1 72 [av 17 1 0, av 17 0 0] σ (fun v σ' => v = none ∧ IF (MYt 1 0) σ σ' ∧ (σ' 17 1 0 0 = n ∧ (∀ j, 0 ≤ j → j < 96 → σ' 18 1 0 j = F j) ∧ True)) := by
  refine G_ct (J := (fun σ' => IF (MYt 1 0) σ σ' ∧ True)) (L := [(0, av 17 1 0), (1, av 17 0 0)]) (nL := 2) rfl rfl rfl ⟨IF.rf hI, trivial⟩ ?_
  refine T_ld zk_72_0 rfl rfl rfl (pc' := 1) rfl ?_
  refine T_ld zk_72_1 rfl rfl rfl (pc' := 2) rfl ?_
  refine G_getX (w := n) zk_72_2 rfl (vd_17 (by omega) (by omega)) (fun σ' h => (h.1.2 _ _ _ _ (by first | exact nMYt rfl | (unfold MYt; omega))).trans sn) (pc' := 5) rfl ?_
  refine T_putf (J' := (fun σ' => IF (MYt 1 0) σ σ' ∧ σ' 17 1 0 0 = n ∧ True)) zk_72_5 rfl rfl (vd_17 (by omega) (by omega)) (fun σ' h => ⟨h.1.up (by simp only [rgP] <;> omega) (by unfold MYt; omega), up_eq, trivial⟩) (pc' := 8) rfl ?_
  refine T_ld zk_72_8 rfl rfl rfl (pc' := 9) rfl ?_
  refine T_getR (t' := 18) (i' := 0) (k' := 0) zk_72_9 rfl rfl rfl (vd_17 (by omega) (by omega)) (pc' := 12) rfl ?_
  refine T_op zk_72_12 rfl X_ic (pc' := 13) rfl ?_
  refine T_ld zk_72_13 rfl rfl rfl (pc' := 14) rfl ?_
  refine T_getR (t' := 18) (i' := 1) (k' := 0) zk_72_14 rfl rfl rfl (vd_17 (by omega) (by omega)) (pc' := 17) rfl ?_
  refine T_op zk_72_17 rfl X_ic (pc' := 18) rfl ?_
  refine T_op zk_72_18 rfl (X_bi (v := 96) (by decide)) (pc' := 20) rfl ?_
  refine G_copy (J' := (fun σ' => IF (MYt 1 0) σ σ' ∧ σ' 17 1 0 0 = n ∧ (∀ j, 0 ≤ j → j < 96 → σ' 18 1 0 j = F j) ∧ True)) (l0 := 96) (l1 := 96) (kk := 12) zk_72_20 rfl rfl (by decide) rfl rfl rfl rfl (vd_18 (by omega) (by omega)) (vd_18 (by omega) (by omega)) (by omega) (by omega) (by omega) (by omega) (by omega) (fun σ' h => ⟨h.1.cp (rg_cp0 rfl (fun _ _ h => h) (fun j => h.1.1 18 0 0 j (vd_18 (by omega) (by omega))) (fun j => h.1.1 18 1 0 j (vd_18 (by omega) (by omega)))) (fun j => (by unfold MYt; omega)), (congrFun (upr_oth _ _ _ (by omega)) _).trans (h.2.1), upr_cpF ((fun j a b => (h.1.2 _ _ _ _ (by first | exact nMYt rfl | (unfold MYt; omega))).trans (rf j a b))) (by omega) (by omega), trivial⟩) (pc' := 23) rfl ?_
  exact T_vret zk_72_23 rfl (fun σ' h => ⟨rfl, h.1, ⟨h.2.1, h.2.2.1, trivial⟩⟩)
/-- W$Tide.takeTide -/
theorem s_72_11 {xs : Nat × (Nat → Int32)}  (n : Int) (F : Nat → Int) (hn : 0 ≤ n ∧ n ≤ 96) (σ : ZS) (hI : Inv σ)  (sn : σ 17 0 1 0 = n) (rf : (∀ j, 0 ≤ j → j < 96 → σ 18 0 1 j = F j)) : CT xs 1 72 [av 17 1 1, av 17 0 1] σ (fun v σ' => v = none ∧ IF (MYt 1 1) σ σ' ∧ (σ' 17 1 1 0 = n ∧ (∀ j, 0 ≤ j → j < 96 → σ' 18 1 1 j = F j) ∧ True)) := by
  refine G_ct (J := (fun σ' => IF (MYt 1 1) σ σ' ∧ True)) (L := [(0, av 17 1 1), (1, av 17 0 1)]) (nL := 2) rfl rfl rfl ⟨IF.rf hI, trivial⟩ ?_
  refine T_ld zk_72_0 rfl rfl rfl (pc' := 1) rfl ?_
  refine T_ld zk_72_1 rfl rfl rfl (pc' := 2) rfl ?_
  refine G_getX (w := n) zk_72_2 rfl (vd_17 (by omega) (by omega)) (fun σ' h => (h.1.2 _ _ _ _ (by first | exact nMYt rfl | (unfold MYt; omega))).trans sn) (pc' := 5) rfl ?_
  refine T_putf (J' := (fun σ' => IF (MYt 1 1) σ σ' ∧ σ' 17 1 1 0 = n ∧ True)) zk_72_5 rfl rfl (vd_17 (by omega) (by omega)) (fun σ' h => ⟨h.1.up (by simp only [rgP] <;> omega) (by unfold MYt; omega), up_eq, trivial⟩) (pc' := 8) rfl ?_
  refine T_ld zk_72_8 rfl rfl rfl (pc' := 9) rfl ?_
  refine T_getR (t' := 18) (i' := 0) (k' := 1) zk_72_9 rfl rfl rfl (vd_17 (by omega) (by omega)) (pc' := 12) rfl ?_
  refine T_op zk_72_12 rfl X_ic (pc' := 13) rfl ?_
  refine T_ld zk_72_13 rfl rfl rfl (pc' := 14) rfl ?_
  refine T_getR (t' := 18) (i' := 1) (k' := 1) zk_72_14 rfl rfl rfl (vd_17 (by omega) (by omega)) (pc' := 17) rfl ?_
  refine T_op zk_72_17 rfl X_ic (pc' := 18) rfl ?_
  refine T_op zk_72_18 rfl (X_bi (v := 96) (by decide)) (pc' := 20) rfl ?_
  refine G_copy (J' := (fun σ' => IF (MYt 1 1) σ σ' ∧ σ' 17 1 1 0 = n ∧ (∀ j, 0 ≤ j → j < 96 → σ' 18 1 1 j = F j) ∧ True)) (l0 := 96) (l1 := 96) (kk := 12) zk_72_20 rfl rfl (by decide) rfl rfl rfl rfl (vd_18 (by omega) (by omega)) (vd_18 (by omega) (by omega)) (by omega) (by omega) (by omega) (by omega) (by omega) (fun σ' h => ⟨h.1.cp (rg_cp0 rfl (fun _ _ h => h) (fun j => h.1.1 18 0 1 j (vd_18 (by omega) (by omega))) (fun j => h.1.1 18 1 1 j (vd_18 (by omega) (by omega)))) (fun j => (by unfold MYt; omega)), (congrFun (upr_oth _ _ _ (by omega)) _).trans (h.2.1), upr_cpF ((fun j a b => (h.1.2 _ _ _ _ (by first | exact nMYt rfl | (unfold MYt; omega))).trans (rf j a b))) (by omega) (by omega), trivial⟩) (pc' := 23) rfl ?_
  exact T_vret zk_72_23 rfl (fun σ' h => ⟨rfl, h.1, ⟨h.2.1, h.2.2.1, trivial⟩⟩)
/-- W$City.takeCity -/
theorem s_22t_1 {xs : Nat × (Nat → Int32)}  (a6 : Int) (a7 : Int) (a10 : Int) (a11 : Int) (a12 : Int) (a13 : Int) (n : Int) (m : Int) (F G : Nat → Int) (ha6 : 0 ≤ a6 ∧ a6 ≤ 12) (ha7 : 0 ≤ a7 ∧ a7 ≤ 6) (ha10 : 0 ≤ a10 ∧ a10 ≤ 99) (ha11 : 1 ≤ a11 ∧ a11 ≤ 9) (ha12 : 0 ≤ a12 ∧ a12 ≤ 9999) (ha13 : -2147483648 ≤ a13 ∧ a13 ≤ 2147483647) (hn : 0 ≤ n ∧ n ≤ 96) (hm : 0 ≤ m ∧ m ≤ 96) (σ : ZS) (hI : Inv σ)  (s0 : σ 1 0 0 6 = a6) (s1 : σ 1 0 0 7 = a7) (s2 : σ 1 0 0 10 = a10) (s3 : σ 1 0 0 11 = a11) (s4 : σ 1 0 0 12 = a12) (s5 : σ 1 0 0 13 = a13) (t0 : σ 17 0 0 0 = n) (t1 : (∀ j, 0 ≤ j → j < 96 → σ 18 0 0 j = F j)) (t2 : σ 17 0 1 0 = m) (t3 : (∀ j, 0 ≤ j → j < 96 → σ 18 0 1 j = G j)) : CT xs 3 22 [av 1 1 0, av 1 0 0] σ (fun v σ' => v = none ∧ IF (MY 1) σ σ' ∧ (σ' 1 1 0 6 = a6 ∧ σ' 1 1 0 7 = a7 ∧ σ' 1 1 0 10 = a10 ∧ σ' 1 1 0 11 = a11 ∧ σ' 1 1 0 12 = a12 ∧ σ' 1 1 0 13 = a13 ∧ σ' 17 1 0 0 = n ∧ (∀ j, 0 ≤ j → j < 96 → σ' 18 1 0 j = F j) ∧ σ' 17 1 1 0 = m ∧ (∀ j, 0 ≤ j → j < 96 → σ' 18 1 1 j = G j) ∧ True)) := by
  refine G_ct (J := (fun σ' => IF (MY 1) σ σ' ∧ True)) (L := [(0, av 1 1 0), (1, av 1 0 0)]) (nL := 3) rfl rfl rfl ⟨IF.rf hI, trivial⟩ ?_
  refine T_ld zk_22_0 rfl rfl rfl (pc' := 1) rfl ?_
  refine T_getR (t' := 2) (i' := 1) (k' := 0) zk_22_1 rfl rfl rfl (vd_1 (by omega)) (pc' := 4) rfl ?_
  refine T_ld zk_22_4 rfl rfl rfl (pc' := 5) rfl ?_
  refine T_getR (t' := 2) (i' := 0) (k' := 0) zk_22_5 rfl rfl rfl (vd_1 (by omega)) (pc' := 8) rfl ?_
  refine T_callv (J' := (fun σ' => IF (MY 1) σ σ' ∧ True)) (r := []) zk_22_8 rfl rfl rfl rfl rfl rfl (Or.inr ⟨_, _, _, _, rfl, (vd_2 (by omega)), rfl⟩) (fun σ' h => (w_39 1 0 (by omega) (by omega) σ' h.1.1 ).le (Nat.le_of_ble_eq_true rfl) (fun v σ2 ⟨h1, h3, h4⟩ => ⟨h1, h.1.tr h3 sb72_644d648, trivial⟩)) (pc' := 11) rfl ?_
  refine T_ld zk_22_11 rfl rfl rfl (pc' := 12) rfl ?_
  refine T_getR (t' := 11) (i' := 1) (k' := 0) zk_22_12 rfl rfl rfl (vd_1 (by omega)) (pc' := 15) rfl ?_
  refine T_ld zk_22_15 rfl rfl rfl (pc' := 16) rfl ?_
  refine T_getR (t' := 11) (i' := 0) (k' := 0) zk_22_16 rfl rfl rfl (vd_1 (by omega)) (pc' := 19) rfl ?_
  refine T_callv (J' := (fun σ' => IF (MY 1) σ σ' ∧ True)) (r := []) zk_22_19 rfl rfl rfl rfl rfl rfl (Or.inr ⟨_, _, _, _, rfl, (vd_11 (by omega)), rfl⟩) (fun σ' h => (w_64 1 0 (by omega) (by omega) σ' h.1.1 ).le (Nat.le_of_ble_eq_true rfl) (fun v σ2 ⟨h1, h3, h4⟩ => ⟨h1, h.1.tr h3 sb72_93ede0b, trivial⟩)) (pc' := 22) rfl ?_
  refine T_ld zk_22_22 rfl rfl rfl (pc' := 23) rfl ?_
  refine T_getR (t' := 17) (i' := 1) (k' := 0) zk_22_23 rfl rfl rfl (vd_1 (by omega)) (pc' := 26) rfl ?_
  refine T_ld zk_22_26 rfl rfl rfl (pc' := 27) rfl ?_
  refine T_getR (t' := 17) (i' := 0) (k' := 0) zk_22_27 rfl rfl rfl (vd_1 (by omega)) (pc' := 30) rfl ?_
  refine T_callv (J' := (fun σ' => IF (MY 1) σ σ' ∧ σ' 17 1 0 0 = n ∧ (∀ j, 0 ≤ j → j < 96 → σ' 18 1 0 j = F j) ∧ True)) (r := []) zk_22_30 rfl rfl rfl rfl rfl rfl (Or.inr ⟨_, _, _, _, rfl, (vd_17 (by omega) (by omega)), rfl⟩) (fun σ' h => (s_72_10 n F (by omega) σ' h.1.1 ((h.1.2 _ _ _ _ (by first | exact nMY rfl | (unfold MY; omega))).trans t0) (fun j a b => (h.1.2 _ _ _ _ (by first | exact nMY rfl | (unfold MY; omega))).trans (t1 j (by omega) (by omega)))).le (Nat.le_of_ble_eq_true rfl) (fun v σ2 ⟨h1, h3, h4⟩ => ⟨h1, h.1.tr h3 sb72_5e083c8, h4.1, h4.2.1, trivial⟩)) (pc' := 33) rfl ?_
  refine T_ld zk_22_33 rfl rfl rfl (pc' := 34) rfl ?_
  refine T_getR (t' := 17) (i' := 1) (k' := 1) zk_22_34 rfl rfl rfl (vd_1 (by omega)) (pc' := 37) rfl ?_
  refine T_ld zk_22_37 rfl rfl rfl (pc' := 38) rfl ?_
  refine T_getR (t' := 17) (i' := 0) (k' := 1) zk_22_38 rfl rfl rfl (vd_1 (by omega)) (pc' := 41) rfl ?_
  refine T_callv (J' := (fun σ' => IF (MY 1) σ σ' ∧ σ' 17 1 0 0 = n ∧ (∀ j, 0 ≤ j → j < 96 → σ' 18 1 0 j = F j) ∧ σ' 17 1 1 0 = m ∧ (∀ j, 0 ≤ j → j < 96 → σ' 18 1 1 j = G j) ∧ True)) (r := []) zk_22_41 rfl rfl rfl rfl rfl rfl (Or.inr ⟨_, _, _, _, rfl, (vd_17 (by omega) (by omega)), rfl⟩) (fun σ' h => (s_72_11 m G (by omega) σ' h.1.1 ((h.1.2 _ _ _ _ (by first | exact nMY rfl | (unfold MY; omega))).trans t2) (fun j a b => (h.1.2 _ _ _ _ (by first | exact nMY rfl | (unfold MY; omega))).trans (t3 j (by omega) (by omega)))).le (Nat.le_of_ble_eq_true rfl) (fun v σ2 ⟨h1, h3, h4⟩ => ⟨h1, h.1.tr h3 sb72_72ea14c, (h3.2 _ _ _ _ (by first | exact nMYt rfl | (unfold MYt; omega))).trans (h.2.1), fun j a b => (h3.2 _ _ _ _ (by first | exact nMYt rfl | (unfold MYt; omega))).trans (h.2.2.1 j a b), h4.1, h4.2.1, trivial⟩)) (pc' := 44) rfl ?_
  refine T_ld zk_22_44 rfl rfl rfl (pc' := 45) rfl ?_
  refine T_ld zk_22_45 rfl rfl rfl (pc' := 46) rfl ?_
  refine G_getf (lo := 0) (hi := 5) zk_22_46 rfl (vd_1 (by omega)) (fun σ' h => h.1.1) (fun _ h => h.2.1 (by omega) (by omega)) (pc' := 49) rfl (fun y5 hy5 hy5' => ?_)
  refine T_putf (J' := (fun σ' => IF (MY 1) σ σ' ∧ σ' 17 1 0 0 = n ∧ (∀ j, 0 ≤ j → j < 96 → σ' 18 1 0 j = F j) ∧ σ' 17 1 1 0 = m ∧ (∀ j, 0 ≤ j → j < 96 → σ' 18 1 1 j = G j) ∧ σ' 1 1 0 5 = y5 ∧ True)) zk_22_49 rfl rfl (vd_1 (by omega)) (fun σ' h => ⟨h.1.up (by simp only [rgP] <;> omega) (by unfold MY; omega), (up_ne (by omega)).trans (h.2.1), fun j a b => (up_ne (by omega)).trans (h.2.2.1 j a b), (up_ne (by omega)).trans (h.2.2.2.1), fun j a b => (up_ne (by omega)).trans (h.2.2.2.2.1 j a b), up_eq, trivial⟩) (pc' := 52) rfl ?_
  refine T_op zk_22_52 rfl X_ic (pc' := 53) rfl ?_
  refine T_st (L' := [(0, av 1 1 0), (1, av 1 0 0), (2, iv 0)]) zk_22_53 (nL := 3) rfl rfl rfl rfl rfl (pc' := 54) rfl ?_
  refine G_know (J' := (fun σ' => IF (MY 1) σ σ' ∧ σ' 17 1 0 0 = n ∧ (∀ j, 0 ≤ j → j < 96 → σ' 18 1 0 j = F j) ∧ σ' 17 1 1 0 = m ∧ (∀ j, 0 ≤ j → j < 96 → σ' 18 1 1 j = G j) ∧ True)) (fun σ' h => ⟨h.1, h.2.1, h.2.2.1, h.2.2.2.1, h.2.2.2.2.1, trivial⟩) ?_
  refine T_loop1 (fun x6 => ((5 - x6 : Int)).toNat) (fun x6 => (0 ≤ x6 ∧ x6 ≤ 5)) (fun x6 => TJ xs (fun σ' => IF (MY 1) σ σ' ∧ σ' 17 1 0 0 = n ∧ (∀ j, 0 ≤ j → j < 96 → σ' 18 1 0 j = F j) ∧ σ' 17 1 1 0 = m ∧ (∀ j, 0 ≤ j → j < 96 → σ' 18 1 1 j = G j) ∧ True) 2 22 54 [(0, av 1 1 0), (1, av 1 0 0), (2, iv x6)] [] _) ?_ 0 (by omega)
  intro x6 hp8 ih7
  refine T_ld zk_22_54 rfl rfl rfl (pc' := 55) rfl ?_
  refine T_ld zk_22_55 rfl rfl rfl (pc' := 56) rfl ?_
  refine G_getf (lo := 0) (hi := 5) zk_22_56 rfl (vd_1 (by omega)) (fun σ' h => h.1.1) (fun _ h => h.2.1 (by omega) (by omega)) (pc' := 59) rfl (fun y9 hy9 hy9' => ?_)
  refine T_icmp_ge zk_22_59 (by omega) (by omega) (pc' := 62) rfl (fun h10 => ?_) (fun h11 => ?_)
  ·
    refine T_ld zk_22_83 rfl rfl rfl (pc' := 84) rfl ?_
    refine T_ld zk_22_84 rfl rfl rfl (pc' := 85) rfl ?_
    refine G_getX (w := a6) zk_22_85 rfl (vd_1 (by omega)) (fun σ' h => (h.1.2 _ _ _ _ (by first | exact nMY rfl | (unfold MY; omega))).trans s0) (pc' := 88) rfl ?_
    refine T_putf (J' := (fun σ' => IF (MY 1) σ σ' ∧ σ' 17 1 0 0 = n ∧ (∀ j, 0 ≤ j → j < 96 → σ' 18 1 0 j = F j) ∧ σ' 17 1 1 0 = m ∧ (∀ j, 0 ≤ j → j < 96 → σ' 18 1 1 j = G j) ∧ σ' 1 1 0 6 = a6 ∧ True)) zk_22_88 rfl rfl (vd_1 (by omega)) (fun σ' h => ⟨h.1.up (by simp only [rgP] <;> omega) (by unfold MY; omega), (up_ne (by omega)).trans (h.2.1), fun j a b => (up_ne (by omega)).trans (h.2.2.1 j a b), (up_ne (by omega)).trans (h.2.2.2.1), fun j a b => (up_ne (by omega)).trans (h.2.2.2.2.1 j a b), up_eq, trivial⟩) (pc' := 91) rfl ?_
    refine T_op zk_22_91 rfl X_ic (pc' := 92) rfl ?_
    refine T_st (L' := [(0, av 1 1 0), (1, av 1 0 0), (2, iv 0)]) zk_22_92 (nL := 3) rfl rfl rfl rfl rfl (pc' := 93) rfl ?_
    refine G_know (J' := (fun σ' => IF (MY 1) σ σ' ∧ σ' 1 1 0 6 = a6 ∧ σ' 17 1 0 0 = n ∧ (∀ j, 0 ≤ j → j < 96 → σ' 18 1 0 j = F j) ∧ σ' 17 1 1 0 = m ∧ (∀ j, 0 ≤ j → j < 96 → σ' 18 1 1 j = G j) ∧ True)) (fun σ' h => ⟨h.1, h.2.2.2.2.2.1, h.2.1, h.2.2.1, h.2.2.2.1, h.2.2.2.2.1, trivial⟩) ?_
    refine T_loop1 (fun x12 => ((12 - x12 : Int)).toNat) (fun x12 => (0 ≤ x12 ∧ x12 ≤ 12)) (fun x12 => TJ xs (fun σ' => IF (MY 1) σ σ' ∧ σ' 1 1 0 6 = a6 ∧ σ' 17 1 0 0 = n ∧ (∀ j, 0 ≤ j → j < 96 → σ' 18 1 0 j = F j) ∧ σ' 17 1 1 0 = m ∧ (∀ j, 0 ≤ j → j < 96 → σ' 18 1 1 j = G j) ∧ True) 2 22 93 [(0, av 1 1 0), (1, av 1 0 0), (2, iv x12)] [] _) ?_ 0 (by omega)
    intro x12 hp14 ih13
    refine T_ld zk_22_93 rfl rfl rfl (pc' := 94) rfl ?_
    refine T_ld zk_22_94 rfl rfl rfl (pc' := 95) rfl ?_
    refine G_getX (w := a6) zk_22_95 rfl (vd_1 (by omega)) (fun σ' h => h.2.1) (pc' := 98) rfl ?_
    refine T_icmp_ge zk_22_98 (by omega) (by omega) (pc' := 101) rfl (fun h15 => ?_) (fun h16 => ?_)
    ·
      refine T_ld zk_22_122 rfl rfl rfl (pc' := 123) rfl ?_
      refine T_ld zk_22_123 rfl rfl rfl (pc' := 124) rfl ?_
      refine G_getX (w := a7) zk_22_124 rfl (vd_1 (by omega)) (fun σ' h => (h.1.2 _ _ _ _ (by first | exact nMY rfl | (unfold MY; omega))).trans s1) (pc' := 127) rfl ?_
      refine T_putf (J' := (fun σ' => IF (MY 1) σ σ' ∧ σ' 1 1 0 6 = a6 ∧ σ' 17 1 0 0 = n ∧ (∀ j, 0 ≤ j → j < 96 → σ' 18 1 0 j = F j) ∧ σ' 17 1 1 0 = m ∧ (∀ j, 0 ≤ j → j < 96 → σ' 18 1 1 j = G j) ∧ σ' 1 1 0 7 = a7 ∧ True)) zk_22_127 rfl rfl (vd_1 (by omega)) (fun σ' h => ⟨h.1.up (by simp only [rgP] <;> omega) (by unfold MY; omega), (up_ne (by omega)).trans (h.2.1), (up_ne (by omega)).trans (h.2.2.1), fun j a b => (up_ne (by omega)).trans (h.2.2.2.1 j a b), (up_ne (by omega)).trans (h.2.2.2.2.1), fun j a b => (up_ne (by omega)).trans (h.2.2.2.2.2.1 j a b), up_eq, trivial⟩) (pc' := 130) rfl ?_
      refine T_op zk_22_130 rfl X_ic (pc' := 131) rfl ?_
      refine T_st (L' := [(0, av 1 1 0), (1, av 1 0 0), (2, iv 0)]) zk_22_131 (nL := 3) rfl rfl rfl rfl rfl (pc' := 132) rfl ?_
      refine G_know (J' := (fun σ' => IF (MY 1) σ σ' ∧ σ' 1 1 0 6 = a6 ∧ σ' 1 1 0 7 = a7 ∧ σ' 17 1 0 0 = n ∧ (∀ j, 0 ≤ j → j < 96 → σ' 18 1 0 j = F j) ∧ σ' 17 1 1 0 = m ∧ (∀ j, 0 ≤ j → j < 96 → σ' 18 1 1 j = G j) ∧ True)) (fun σ' h => ⟨h.1, h.2.1, h.2.2.2.2.2.2.1, h.2.2.1, h.2.2.2.1, h.2.2.2.2.1, h.2.2.2.2.2.1, trivial⟩) ?_
      refine T_loop1 (fun x17 => ((6 - x17 : Int)).toNat) (fun x17 => (0 ≤ x17 ∧ x17 ≤ 6)) (fun x17 => TJ xs (fun σ' => IF (MY 1) σ σ' ∧ σ' 1 1 0 6 = a6 ∧ σ' 1 1 0 7 = a7 ∧ σ' 17 1 0 0 = n ∧ (∀ j, 0 ≤ j → j < 96 → σ' 18 1 0 j = F j) ∧ σ' 17 1 1 0 = m ∧ (∀ j, 0 ≤ j → j < 96 → σ' 18 1 1 j = G j) ∧ True) 2 22 132 [(0, av 1 1 0), (1, av 1 0 0), (2, iv x17)] [] _) ?_ 0 (by omega)
      intro x17 hp19 ih18
      refine T_ld zk_22_132 rfl rfl rfl (pc' := 133) rfl ?_
      refine T_ld zk_22_133 rfl rfl rfl (pc' := 134) rfl ?_
      refine G_getX (w := a7) zk_22_134 rfl (vd_1 (by omega)) (fun σ' h => h.2.2.1) (pc' := 137) rfl ?_
      refine T_icmp_ge zk_22_137 (by omega) (by omega) (pc' := 140) rfl (fun h20 => ?_) (fun h21 => ?_)
      ·
        refine T_ld zk_22_161 rfl rfl rfl (pc' := 162) rfl ?_
        refine T_ld zk_22_162 rfl rfl rfl (pc' := 163) rfl ?_
        refine G_getX (w := a10) zk_22_163 rfl (vd_1 (by omega)) (fun σ' h => (h.1.2 _ _ _ _ (by first | exact nMY rfl | (unfold MY; omega))).trans s2) (pc' := 166) rfl ?_
        refine T_putf (J' := (fun σ' => IF (MY 1) σ σ' ∧ σ' 1 1 0 6 = a6 ∧ σ' 1 1 0 7 = a7 ∧ σ' 17 1 0 0 = n ∧ (∀ j, 0 ≤ j → j < 96 → σ' 18 1 0 j = F j) ∧ σ' 17 1 1 0 = m ∧ (∀ j, 0 ≤ j → j < 96 → σ' 18 1 1 j = G j) ∧ σ' 1 1 0 10 = a10 ∧ True)) zk_22_166 rfl rfl (vd_1 (by omega)) (fun σ' h => ⟨h.1.up (by simp only [rgP] <;> omega) (by unfold MY; omega), (up_ne (by omega)).trans (h.2.1), (up_ne (by omega)).trans (h.2.2.1), (up_ne (by omega)).trans (h.2.2.2.1), fun j a b => (up_ne (by omega)).trans (h.2.2.2.2.1 j a b), (up_ne (by omega)).trans (h.2.2.2.2.2.1), fun j a b => (up_ne (by omega)).trans (h.2.2.2.2.2.2.1 j a b), up_eq, trivial⟩) (pc' := 169) rfl ?_
        refine T_ld zk_22_169 rfl rfl rfl (pc' := 170) rfl ?_
        refine T_ld zk_22_170 rfl rfl rfl (pc' := 171) rfl ?_
        refine G_getX (w := a11) zk_22_171 rfl (vd_1 (by omega)) (fun σ' h => (h.1.2 _ _ _ _ (by first | exact nMY rfl | (unfold MY; omega))).trans s3) (pc' := 174) rfl ?_
        refine T_putf (J' := (fun σ' => IF (MY 1) σ σ' ∧ σ' 1 1 0 6 = a6 ∧ σ' 1 1 0 7 = a7 ∧ σ' 17 1 0 0 = n ∧ (∀ j, 0 ≤ j → j < 96 → σ' 18 1 0 j = F j) ∧ σ' 17 1 1 0 = m ∧ (∀ j, 0 ≤ j → j < 96 → σ' 18 1 1 j = G j) ∧ σ' 1 1 0 10 = a10 ∧ σ' 1 1 0 11 = a11 ∧ True)) zk_22_174 rfl rfl (vd_1 (by omega)) (fun σ' h => ⟨h.1.up (by simp only [rgP] <;> omega) (by unfold MY; omega), (up_ne (by omega)).trans (h.2.1), (up_ne (by omega)).trans (h.2.2.1), (up_ne (by omega)).trans (h.2.2.2.1), fun j a b => (up_ne (by omega)).trans (h.2.2.2.2.1 j a b), (up_ne (by omega)).trans (h.2.2.2.2.2.1), fun j a b => (up_ne (by omega)).trans (h.2.2.2.2.2.2.1 j a b), (up_ne (by omega)).trans (h.2.2.2.2.2.2.2.1), up_eq, trivial⟩) (pc' := 177) rfl ?_
        refine T_ld zk_22_177 rfl rfl rfl (pc' := 178) rfl ?_
        refine T_ld zk_22_178 rfl rfl rfl (pc' := 179) rfl ?_
        refine G_getX (w := a12) zk_22_179 rfl (vd_1 (by omega)) (fun σ' h => (h.1.2 _ _ _ _ (by first | exact nMY rfl | (unfold MY; omega))).trans s4) (pc' := 182) rfl ?_
        refine T_putf (J' := (fun σ' => IF (MY 1) σ σ' ∧ σ' 1 1 0 6 = a6 ∧ σ' 1 1 0 7 = a7 ∧ σ' 17 1 0 0 = n ∧ (∀ j, 0 ≤ j → j < 96 → σ' 18 1 0 j = F j) ∧ σ' 17 1 1 0 = m ∧ (∀ j, 0 ≤ j → j < 96 → σ' 18 1 1 j = G j) ∧ σ' 1 1 0 10 = a10 ∧ σ' 1 1 0 11 = a11 ∧ σ' 1 1 0 12 = a12 ∧ True)) zk_22_182 rfl rfl (vd_1 (by omega)) (fun σ' h => ⟨h.1.up (by simp only [rgP] <;> omega) (by unfold MY; omega), (up_ne (by omega)).trans (h.2.1), (up_ne (by omega)).trans (h.2.2.1), (up_ne (by omega)).trans (h.2.2.2.1), fun j a b => (up_ne (by omega)).trans (h.2.2.2.2.1 j a b), (up_ne (by omega)).trans (h.2.2.2.2.2.1), fun j a b => (up_ne (by omega)).trans (h.2.2.2.2.2.2.1 j a b), (up_ne (by omega)).trans (h.2.2.2.2.2.2.2.1), (up_ne (by omega)).trans (h.2.2.2.2.2.2.2.2.1), up_eq, trivial⟩) (pc' := 185) rfl ?_
        refine T_ld zk_22_185 rfl rfl rfl (pc' := 186) rfl ?_
        refine T_ld zk_22_186 rfl rfl rfl (pc' := 187) rfl ?_
        refine G_getX (w := a13) zk_22_187 rfl (vd_1 (by omega)) (fun σ' h => (h.1.2 _ _ _ _ (by first | exact nMY rfl | (unfold MY; omega))).trans s5) (pc' := 190) rfl ?_
        refine T_putf (J' := (fun σ' => IF (MY 1) σ σ' ∧ σ' 1 1 0 6 = a6 ∧ σ' 1 1 0 7 = a7 ∧ σ' 17 1 0 0 = n ∧ (∀ j, 0 ≤ j → j < 96 → σ' 18 1 0 j = F j) ∧ σ' 17 1 1 0 = m ∧ (∀ j, 0 ≤ j → j < 96 → σ' 18 1 1 j = G j) ∧ σ' 1 1 0 10 = a10 ∧ σ' 1 1 0 11 = a11 ∧ σ' 1 1 0 12 = a12 ∧ σ' 1 1 0 13 = a13 ∧ True)) zk_22_190 rfl rfl (vd_1 (by omega)) (fun σ' h => ⟨h.1.up (by simp only [rgP] <;> omega) (by unfold MY; omega), (up_ne (by omega)).trans (h.2.1), (up_ne (by omega)).trans (h.2.2.1), (up_ne (by omega)).trans (h.2.2.2.1), fun j a b => (up_ne (by omega)).trans (h.2.2.2.2.1 j a b), (up_ne (by omega)).trans (h.2.2.2.2.2.1), fun j a b => (up_ne (by omega)).trans (h.2.2.2.2.2.2.1 j a b), (up_ne (by omega)).trans (h.2.2.2.2.2.2.2.1), (up_ne (by omega)).trans (h.2.2.2.2.2.2.2.2.1), (up_ne (by omega)).trans (h.2.2.2.2.2.2.2.2.2.1), up_eq, trivial⟩) (pc' := 193) rfl ?_
        refine T_ld zk_22_193 rfl rfl rfl (pc' := 194) rfl ?_
        refine T_ld zk_22_194 rfl rfl rfl (pc' := 195) rfl ?_
        refine G_getf (lo := -2147483648) (hi := 2147483647) zk_22_195 rfl (vd_1 (by omega)) (fun σ' h => h.1.1) (fun _ h => (by have q := h.1; omega)) (pc' := 198) rfl (fun y22 hy22 hy22' => ?_)
        refine T_putf (J' := (fun σ' => IF (MY 1) σ σ' ∧ σ' 1 1 0 6 = a6 ∧ σ' 1 1 0 7 = a7 ∧ σ' 17 1 0 0 = n ∧ (∀ j, 0 ≤ j → j < 96 → σ' 18 1 0 j = F j) ∧ σ' 17 1 1 0 = m ∧ (∀ j, 0 ≤ j → j < 96 → σ' 18 1 1 j = G j) ∧ σ' 1 1 0 10 = a10 ∧ σ' 1 1 0 11 = a11 ∧ σ' 1 1 0 12 = a12 ∧ σ' 1 1 0 13 = a13 ∧ σ' 1 1 0 14 = y22 ∧ True)) zk_22_198 rfl rfl (vd_1 (by omega)) (fun σ' h => ⟨h.1.up (by simp only [rgP] <;> omega) (by unfold MY; omega), (up_ne (by omega)).trans (h.2.1), (up_ne (by omega)).trans (h.2.2.1), (up_ne (by omega)).trans (h.2.2.2.1), fun j a b => (up_ne (by omega)).trans (h.2.2.2.2.1 j a b), (up_ne (by omega)).trans (h.2.2.2.2.2.1), fun j a b => (up_ne (by omega)).trans (h.2.2.2.2.2.2.1 j a b), (up_ne (by omega)).trans (h.2.2.2.2.2.2.2.1), (up_ne (by omega)).trans (h.2.2.2.2.2.2.2.2.1), (up_ne (by omega)).trans (h.2.2.2.2.2.2.2.2.2.1), (up_ne (by omega)).trans (h.2.2.2.2.2.2.2.2.2.2.1), up_eq, trivial⟩) (pc' := 201) rfl ?_
        refine T_ld zk_22_201 rfl rfl rfl (pc' := 202) rfl ?_
        refine T_ld zk_22_202 rfl rfl rfl (pc' := 203) rfl ?_
        refine G_getf (lo := -2147483648) (hi := 2147483647) zk_22_203 rfl (vd_1 (by omega)) (fun σ' h => h.1.1) (fun _ h => (by have q := h.1; omega)) (pc' := 206) rfl (fun y23 hy23 hy23' => ?_)
        refine T_putf (J' := (fun σ' => IF (MY 1) σ σ' ∧ σ' 1 1 0 6 = a6 ∧ σ' 1 1 0 7 = a7 ∧ σ' 17 1 0 0 = n ∧ (∀ j, 0 ≤ j → j < 96 → σ' 18 1 0 j = F j) ∧ σ' 17 1 1 0 = m ∧ (∀ j, 0 ≤ j → j < 96 → σ' 18 1 1 j = G j) ∧ σ' 1 1 0 10 = a10 ∧ σ' 1 1 0 11 = a11 ∧ σ' 1 1 0 12 = a12 ∧ σ' 1 1 0 13 = a13 ∧ σ' 1 1 0 14 = y22 ∧ σ' 1 1 0 15 = y23 ∧ True)) zk_22_206 rfl rfl (vd_1 (by omega)) (fun σ' h => ⟨h.1.up (by simp only [rgP] <;> omega) (by unfold MY; omega), (up_ne (by omega)).trans (h.2.1), (up_ne (by omega)).trans (h.2.2.1), (up_ne (by omega)).trans (h.2.2.2.1), fun j a b => (up_ne (by omega)).trans (h.2.2.2.2.1 j a b), (up_ne (by omega)).trans (h.2.2.2.2.2.1), fun j a b => (up_ne (by omega)).trans (h.2.2.2.2.2.2.1 j a b), (up_ne (by omega)).trans (h.2.2.2.2.2.2.2.1), (up_ne (by omega)).trans (h.2.2.2.2.2.2.2.2.1), (up_ne (by omega)).trans (h.2.2.2.2.2.2.2.2.2.1), (up_ne (by omega)).trans (h.2.2.2.2.2.2.2.2.2.2.1), (up_ne (by omega)).trans (h.2.2.2.2.2.2.2.2.2.2.2.1), up_eq, trivial⟩) (pc' := 209) rfl ?_
        refine T_ld zk_22_209 rfl rfl rfl (pc' := 210) rfl ?_
        refine T_ld zk_22_210 rfl rfl rfl (pc' := 211) rfl ?_
        refine G_getf (lo := -2147483648) (hi := 2147483647) zk_22_211 rfl (vd_1 (by omega)) (fun σ' h => h.1.1) (fun _ h => (by have q := h.1; omega)) (pc' := 214) rfl (fun y24 hy24 hy24' => ?_)
        refine T_putf (J' := (fun σ' => IF (MY 1) σ σ' ∧ σ' 1 1 0 6 = a6 ∧ σ' 1 1 0 7 = a7 ∧ σ' 17 1 0 0 = n ∧ (∀ j, 0 ≤ j → j < 96 → σ' 18 1 0 j = F j) ∧ σ' 17 1 1 0 = m ∧ (∀ j, 0 ≤ j → j < 96 → σ' 18 1 1 j = G j) ∧ σ' 1 1 0 10 = a10 ∧ σ' 1 1 0 11 = a11 ∧ σ' 1 1 0 12 = a12 ∧ σ' 1 1 0 13 = a13 ∧ σ' 1 1 0 14 = y22 ∧ σ' 1 1 0 15 = y23 ∧ σ' 1 1 0 16 = y24 ∧ True)) zk_22_214 rfl rfl (vd_1 (by omega)) (fun σ' h => ⟨h.1.up (by simp only [rgP] <;> omega) (by unfold MY; omega), (up_ne (by omega)).trans (h.2.1), (up_ne (by omega)).trans (h.2.2.1), (up_ne (by omega)).trans (h.2.2.2.1), fun j a b => (up_ne (by omega)).trans (h.2.2.2.2.1 j a b), (up_ne (by omega)).trans (h.2.2.2.2.2.1), fun j a b => (up_ne (by omega)).trans (h.2.2.2.2.2.2.1 j a b), (up_ne (by omega)).trans (h.2.2.2.2.2.2.2.1), (up_ne (by omega)).trans (h.2.2.2.2.2.2.2.2.1), (up_ne (by omega)).trans (h.2.2.2.2.2.2.2.2.2.1), (up_ne (by omega)).trans (h.2.2.2.2.2.2.2.2.2.2.1), (up_ne (by omega)).trans (h.2.2.2.2.2.2.2.2.2.2.2.1), (up_ne (by omega)).trans (h.2.2.2.2.2.2.2.2.2.2.2.2.1), up_eq, trivial⟩) (pc' := 217) rfl ?_
        exact T_vret zk_22_217 rfl (fun σ' h => ⟨rfl, h.1, ⟨h.2.1, h.2.2.1, h.2.2.2.2.2.2.2.1, h.2.2.2.2.2.2.2.2.1, h.2.2.2.2.2.2.2.2.2.1, h.2.2.2.2.2.2.2.2.2.2.1, h.2.2.2.1, h.2.2.2.2.1, h.2.2.2.2.2.1, h.2.2.2.2.2.2.1, trivial⟩⟩)
      ·
        refine T_ld zk_22_140 rfl rfl rfl (pc' := 141) rfl ?_
        refine T_getR (t' := 16) (i' := 1) (k' := 0) zk_22_141 rfl rfl rfl (vd_1 (by omega)) (pc' := 144) rfl ?_
        refine T_ld zk_22_144 rfl rfl rfl (pc' := 145) rfl ?_
        refine G_aald (t' := 26) (im := 9) (i' := 1) (ln := 6) zk_22_145 rfl rfl rfl (vd_16 (by omega)) (by omega) (by omega) (by omega) (pc' := 146) rfl ?_
        refine T_ld zk_22_146 rfl rfl rfl (pc' := 147) rfl ?_
        refine T_getR (t' := 16) (i' := 0) (k' := 0) zk_22_147 rfl rfl rfl (vd_1 (by omega)) (pc' := 150) rfl ?_
        refine T_ld zk_22_150 rfl rfl rfl (pc' := 151) rfl ?_
        refine G_aald (t' := 26) (im := 9) (i' := 0) (ln := 6) zk_22_151 rfl rfl rfl (vd_16 (by omega)) (by omega) (by omega) (by omega) (pc' := 152) rfl ?_
        refine T_callv (J' := (fun σ' => IF (MY 1) σ σ' ∧ σ' 1 1 0 6 = a6 ∧ σ' 1 1 0 7 = a7 ∧ σ' 17 1 0 0 = n ∧ (∀ j, 0 ≤ j → j < 96 → σ' 18 1 0 j = F j) ∧ σ' 17 1 1 0 = m ∧ (∀ j, 0 ≤ j → j < 96 → σ' 18 1 1 j = G j) ∧ True)) (r := []) zk_22_152 rfl rfl rfl rfl rfl rfl (Or.inr ⟨_, _, _, _, rfl, (vd_26 (by omega) (by omega)), rfl⟩) (fun σ' h => (w_3 1 (Int.toNat x17) 0 (by omega) (by omega) (by omega) σ' h.1.1 ).le (Nat.le_of_ble_eq_true rfl) (fun v σ2 ⟨h1, h3, h4⟩ => ⟨h1, h.1.tr h3 sb72_e13aa76, (h3.2 _ _ _ _ (by first | exact nMI rfl | (unfold MI; omega))).trans (h.2.1), (h3.2 _ _ _ _ (by first | exact nMI rfl | (unfold MI; omega))).trans (h.2.2.1), (h3.2 _ _ _ _ (by first | exact nMI rfl | (unfold MI; omega))).trans (h.2.2.2.1), fun j a b => (h3.2 _ _ _ _ (by first | exact nMI rfl | (unfold MI; omega))).trans (h.2.2.2.2.1 j a b), (h3.2 _ _ _ _ (by first | exact nMI rfl | (unfold MI; omega))).trans (h.2.2.2.2.2.1), fun j a b => (h3.2 _ _ _ _ (by first | exact nMI rfl | (unfold MI; omega))).trans (h.2.2.2.2.2.2.1 j a b), trivial⟩)) (pc' := 155) rfl ?_
        refine T_iinc (L' := [(0, av 1 1 0), (1, av 1 0 0), (2, iv (x17 + 1))]) zk_22_155 (nL := 3) rfl rfl rfl rfl (pc' := 158) rfl ?_
        refine T_goto zk_22_158 ?_
        exact ih18 (x17 + 1) (by omega) (by omega)
    ·
      refine T_ld zk_22_101 rfl rfl rfl (pc' := 102) rfl ?_
      refine T_getR (t' := 15) (i' := 1) (k' := 0) zk_22_102 rfl rfl rfl (vd_1 (by omega)) (pc' := 105) rfl ?_
      refine T_ld zk_22_105 rfl rfl rfl (pc' := 106) rfl ?_
      refine G_aald (t' := 25) (im := 9) (i' := 1) (ln := 12) zk_22_106 rfl rfl rfl (vd_15 (by omega)) (by omega) (by omega) (by omega) (pc' := 107) rfl ?_
      refine T_ld zk_22_107 rfl rfl rfl (pc' := 108) rfl ?_
      refine T_getR (t' := 15) (i' := 0) (k' := 0) zk_22_108 rfl rfl rfl (vd_1 (by omega)) (pc' := 111) rfl ?_
      refine T_ld zk_22_111 rfl rfl rfl (pc' := 112) rfl ?_
      refine G_aald (t' := 25) (im := 9) (i' := 0) (ln := 12) zk_22_112 rfl rfl rfl (vd_15 (by omega)) (by omega) (by omega) (by omega) (pc' := 113) rfl ?_
      refine T_callv (J' := (fun σ' => IF (MY 1) σ σ' ∧ σ' 1 1 0 6 = a6 ∧ σ' 17 1 0 0 = n ∧ (∀ j, 0 ≤ j → j < 96 → σ' 18 1 0 j = F j) ∧ σ' 17 1 1 0 = m ∧ (∀ j, 0 ≤ j → j < 96 → σ' 18 1 1 j = G j) ∧ True)) (r := []) zk_22_113 rfl rfl rfl rfl rfl rfl (Or.inr ⟨_, _, _, _, rfl, (vd_25 (by omega) (by omega)), rfl⟩) (fun σ' h => (w_28 1 (Int.toNat x12) 0 (by omega) (by omega) (by omega) σ' h.1.1 ).le (Nat.le_of_ble_eq_true rfl) (fun v σ2 ⟨h1, h3, h4⟩ => ⟨h1, h.1.tr h3 sb72_a631b4c, (h3.2 _ _ _ _ (by first | exact nMI rfl | (unfold MI; omega))).trans (h.2.1), (h3.2 _ _ _ _ (by first | exact nMI rfl | (unfold MI; omega))).trans (h.2.2.1), fun j a b => (h3.2 _ _ _ _ (by first | exact nMI rfl | (unfold MI; omega))).trans (h.2.2.2.1 j a b), (h3.2 _ _ _ _ (by first | exact nMI rfl | (unfold MI; omega))).trans (h.2.2.2.2.1), fun j a b => (h3.2 _ _ _ _ (by first | exact nMI rfl | (unfold MI; omega))).trans (h.2.2.2.2.2.1 j a b), trivial⟩)) (pc' := 116) rfl ?_
      refine T_iinc (L' := [(0, av 1 1 0), (1, av 1 0 0), (2, iv (x12 + 1))]) zk_22_116 (nL := 3) rfl rfl rfl rfl (pc' := 119) rfl ?_
      refine T_goto zk_22_119 ?_
      exact ih13 (x12 + 1) (by omega) (by omega)
  ·
    refine T_ld zk_22_62 rfl rfl rfl (pc' := 63) rfl ?_
    refine T_getR (t' := 14) (i' := 1) (k' := 0) zk_22_63 rfl rfl rfl (vd_1 (by omega)) (pc' := 66) rfl ?_
    refine T_ld zk_22_66 rfl rfl rfl (pc' := 67) rfl ?_
    refine G_aald (t' := 23) (im := 9) (i' := 1) (ln := 5) zk_22_67 rfl rfl rfl (vd_14 (by omega)) (by omega) (by omega) (by omega) (pc' := 68) rfl ?_
    refine T_ld zk_22_68 rfl rfl rfl (pc' := 69) rfl ?_
    refine T_getR (t' := 14) (i' := 0) (k' := 0) zk_22_69 rfl rfl rfl (vd_1 (by omega)) (pc' := 72) rfl ?_
    refine T_ld zk_22_72 rfl rfl rfl (pc' := 73) rfl ?_
    refine G_aald (t' := 23) (im := 9) (i' := 0) (ln := 5) zk_22_73 rfl rfl rfl (vd_14 (by omega)) (by omega) (by omega) (by omega) (pc' := 74) rfl ?_
    refine T_callv (J' := (fun σ' => IF (MY 1) σ σ' ∧ σ' 17 1 0 0 = n ∧ (∀ j, 0 ≤ j → j < 96 → σ' 18 1 0 j = F j) ∧ σ' 17 1 1 0 = m ∧ (∀ j, 0 ≤ j → j < 96 → σ' 18 1 1 j = G j) ∧ True)) (r := []) zk_22_74 rfl rfl rfl rfl rfl rfl (Or.inr ⟨_, _, _, _, rfl, (vd_23 (by omega) (by omega)), rfl⟩) (fun σ' h => (w_46 1 (Int.toNat x6) 0 (by omega) (by omega) (by omega) σ' h.1.1 ).le (Nat.le_of_ble_eq_true rfl) (fun v σ2 ⟨h1, h3, h4⟩ => ⟨h1, h.1.tr h3 sb72_5fad9a3, (h3.2 _ _ _ _ (by first | exact nMI rfl | (unfold MI; omega))).trans (h.2.1), fun j a b => (h3.2 _ _ _ _ (by first | exact nMI rfl | (unfold MI; omega))).trans (h.2.2.1 j a b), (h3.2 _ _ _ _ (by first | exact nMI rfl | (unfold MI; omega))).trans (h.2.2.2.1), fun j a b => (h3.2 _ _ _ _ (by first | exact nMI rfl | (unfold MI; omega))).trans (h.2.2.2.2.1 j a b), trivial⟩)) (pc' := 77) rfl ?_
    refine T_iinc (L' := [(0, av 1 1 0), (1, av 1 0 0), (2, iv (x6 + 1))]) zk_22_77 (nL := 3) rfl rfl rfl rfl (pc' := 80) rfl ?_
    refine T_goto zk_22_80 ?_
    exact ih7 (x6 + 1) (by omega) (by omega)
/-- W$Tide.takeTide -/
theorem s_72_00 {xs : Nat × (Nat → Int32)}  (n : Int) (F : Nat → Int) (hn : 0 ≤ n ∧ n ≤ 96) (σ : ZS) (hI : Inv σ)  (sn : σ 17 1 0 0 = n) (rf : (∀ j, 0 ≤ j → j < 96 → σ 18 1 0 j = F j)) : CT xs 1 72 [av 17 0 0, av 17 1 0] σ (fun v σ' => v = none ∧ IF (MYt 0 0) σ σ' ∧ (σ' 17 0 0 0 = n ∧ (∀ j, 0 ≤ j → j < 96 → σ' 18 0 0 j = F j) ∧ True)) := by
  refine G_ct (J := (fun σ' => IF (MYt 0 0) σ σ' ∧ True)) (L := [(0, av 17 0 0), (1, av 17 1 0)]) (nL := 2) rfl rfl rfl ⟨IF.rf hI, trivial⟩ ?_
  refine T_ld zk_72_0 rfl rfl rfl (pc' := 1) rfl ?_
  refine T_ld zk_72_1 rfl rfl rfl (pc' := 2) rfl ?_
  refine G_getX (w := n) zk_72_2 rfl (vd_17 (by omega) (by omega)) (fun σ' h => (h.1.2 _ _ _ _ (by first | exact nMYt rfl | (unfold MYt; omega))).trans sn) (pc' := 5) rfl ?_
  refine T_putf (J' := (fun σ' => IF (MYt 0 0) σ σ' ∧ σ' 17 0 0 0 = n ∧ True)) zk_72_5 rfl rfl (vd_17 (by omega) (by omega)) (fun σ' h => ⟨h.1.up (by simp only [rgP] <;> omega) (by unfold MYt; omega), up_eq, trivial⟩) (pc' := 8) rfl ?_
  refine T_ld zk_72_8 rfl rfl rfl (pc' := 9) rfl ?_
  refine T_getR (t' := 18) (i' := 1) (k' := 0) zk_72_9 rfl rfl rfl (vd_17 (by omega) (by omega)) (pc' := 12) rfl ?_
  refine T_op zk_72_12 rfl X_ic (pc' := 13) rfl ?_
  refine T_ld zk_72_13 rfl rfl rfl (pc' := 14) rfl ?_
  refine T_getR (t' := 18) (i' := 0) (k' := 0) zk_72_14 rfl rfl rfl (vd_17 (by omega) (by omega)) (pc' := 17) rfl ?_
  refine T_op zk_72_17 rfl X_ic (pc' := 18) rfl ?_
  refine T_op zk_72_18 rfl (X_bi (v := 96) (by decide)) (pc' := 20) rfl ?_
  refine G_copy (J' := (fun σ' => IF (MYt 0 0) σ σ' ∧ σ' 17 0 0 0 = n ∧ (∀ j, 0 ≤ j → j < 96 → σ' 18 0 0 j = F j) ∧ True)) (l0 := 96) (l1 := 96) (kk := 12) zk_72_20 rfl rfl (by decide) rfl rfl rfl rfl (vd_18 (by omega) (by omega)) (vd_18 (by omega) (by omega)) (by omega) (by omega) (by omega) (by omega) (by omega) (fun σ' h => ⟨h.1.cp (rg_cp0 rfl (fun _ _ h => h) (fun j => h.1.1 18 1 0 j (vd_18 (by omega) (by omega))) (fun j => h.1.1 18 0 0 j (vd_18 (by omega) (by omega)))) (fun j => (by unfold MYt; omega)), (congrFun (upr_oth _ _ _ (by omega)) _).trans (h.2.1), upr_cpF ((fun j a b => (h.1.2 _ _ _ _ (by first | exact nMYt rfl | (unfold MYt; omega))).trans (rf j a b))) (by omega) (by omega), trivial⟩) (pc' := 23) rfl ?_
  exact T_vret zk_72_23 rfl (fun σ' h => ⟨rfl, h.1, ⟨h.2.1, h.2.2.1, trivial⟩⟩)
/-- W$Tide.takeTide -/
theorem s_72_01 {xs : Nat × (Nat → Int32)}  (n : Int) (F : Nat → Int) (hn : 0 ≤ n ∧ n ≤ 96) (σ : ZS) (hI : Inv σ)  (sn : σ 17 1 1 0 = n) (rf : (∀ j, 0 ≤ j → j < 96 → σ 18 1 1 j = F j)) : CT xs 1 72 [av 17 0 1, av 17 1 1] σ (fun v σ' => v = none ∧ IF (MYt 0 1) σ σ' ∧ (σ' 17 0 1 0 = n ∧ (∀ j, 0 ≤ j → j < 96 → σ' 18 0 1 j = F j) ∧ True)) := by
  refine G_ct (J := (fun σ' => IF (MYt 0 1) σ σ' ∧ True)) (L := [(0, av 17 0 1), (1, av 17 1 1)]) (nL := 2) rfl rfl rfl ⟨IF.rf hI, trivial⟩ ?_
  refine T_ld zk_72_0 rfl rfl rfl (pc' := 1) rfl ?_
  refine T_ld zk_72_1 rfl rfl rfl (pc' := 2) rfl ?_
  refine G_getX (w := n) zk_72_2 rfl (vd_17 (by omega) (by omega)) (fun σ' h => (h.1.2 _ _ _ _ (by first | exact nMYt rfl | (unfold MYt; omega))).trans sn) (pc' := 5) rfl ?_
  refine T_putf (J' := (fun σ' => IF (MYt 0 1) σ σ' ∧ σ' 17 0 1 0 = n ∧ True)) zk_72_5 rfl rfl (vd_17 (by omega) (by omega)) (fun σ' h => ⟨h.1.up (by simp only [rgP] <;> omega) (by unfold MYt; omega), up_eq, trivial⟩) (pc' := 8) rfl ?_
  refine T_ld zk_72_8 rfl rfl rfl (pc' := 9) rfl ?_
  refine T_getR (t' := 18) (i' := 1) (k' := 1) zk_72_9 rfl rfl rfl (vd_17 (by omega) (by omega)) (pc' := 12) rfl ?_
  refine T_op zk_72_12 rfl X_ic (pc' := 13) rfl ?_
  refine T_ld zk_72_13 rfl rfl rfl (pc' := 14) rfl ?_
  refine T_getR (t' := 18) (i' := 0) (k' := 1) zk_72_14 rfl rfl rfl (vd_17 (by omega) (by omega)) (pc' := 17) rfl ?_
  refine T_op zk_72_17 rfl X_ic (pc' := 18) rfl ?_
  refine T_op zk_72_18 rfl (X_bi (v := 96) (by decide)) (pc' := 20) rfl ?_
  refine G_copy (J' := (fun σ' => IF (MYt 0 1) σ σ' ∧ σ' 17 0 1 0 = n ∧ (∀ j, 0 ≤ j → j < 96 → σ' 18 0 1 j = F j) ∧ True)) (l0 := 96) (l1 := 96) (kk := 12) zk_72_20 rfl rfl (by decide) rfl rfl rfl rfl (vd_18 (by omega) (by omega)) (vd_18 (by omega) (by omega)) (by omega) (by omega) (by omega) (by omega) (by omega) (fun σ' h => ⟨h.1.cp (rg_cp0 rfl (fun _ _ h => h) (fun j => h.1.1 18 1 1 j (vd_18 (by omega) (by omega))) (fun j => h.1.1 18 0 1 j (vd_18 (by omega) (by omega)))) (fun j => (by unfold MYt; omega)), (congrFun (upr_oth _ _ _ (by omega)) _).trans (h.2.1), upr_cpF ((fun j a b => (h.1.2 _ _ _ _ (by first | exact nMYt rfl | (unfold MYt; omega))).trans (rf j a b))) (by omega) (by omega), trivial⟩) (pc' := 23) rfl ?_
  exact T_vret zk_72_23 rfl (fun σ' h => ⟨rfl, h.1, ⟨h.2.1, h.2.2.1, trivial⟩⟩)
/-- W$City.takeCity -/
theorem s_22t_0 {xs : Nat × (Nat → Int32)}  (a6 : Int) (a7 : Int) (a10 : Int) (a11 : Int) (a12 : Int) (a13 : Int) (n : Int) (m : Int) (F G : Nat → Int) (ha6 : 0 ≤ a6 ∧ a6 ≤ 12) (ha7 : 0 ≤ a7 ∧ a7 ≤ 6) (ha10 : 0 ≤ a10 ∧ a10 ≤ 99) (ha11 : 1 ≤ a11 ∧ a11 ≤ 9) (ha12 : 0 ≤ a12 ∧ a12 ≤ 9999) (ha13 : -2147483648 ≤ a13 ∧ a13 ≤ 2147483647) (hn : 0 ≤ n ∧ n ≤ 96) (hm : 0 ≤ m ∧ m ≤ 96) (σ : ZS) (hI : Inv σ)  (s0 : σ 1 1 0 6 = a6) (s1 : σ 1 1 0 7 = a7) (s2 : σ 1 1 0 10 = a10) (s3 : σ 1 1 0 11 = a11) (s4 : σ 1 1 0 12 = a12) (s5 : σ 1 1 0 13 = a13) (t0 : σ 17 1 0 0 = n) (t1 : (∀ j, 0 ≤ j → j < 96 → σ 18 1 0 j = F j)) (t2 : σ 17 1 1 0 = m) (t3 : (∀ j, 0 ≤ j → j < 96 → σ 18 1 1 j = G j)) : CT xs 3 22 [av 1 0 0, av 1 1 0] σ (fun v σ' => v = none ∧ IF (MY 0) σ σ' ∧ (σ' 1 0 0 6 = a6 ∧ σ' 1 0 0 7 = a7 ∧ σ' 1 0 0 10 = a10 ∧ σ' 1 0 0 11 = a11 ∧ σ' 1 0 0 12 = a12 ∧ σ' 1 0 0 13 = a13 ∧ σ' 17 0 0 0 = n ∧ (∀ j, 0 ≤ j → j < 96 → σ' 18 0 0 j = F j) ∧ σ' 17 0 1 0 = m ∧ (∀ j, 0 ≤ j → j < 96 → σ' 18 0 1 j = G j) ∧ True)) := by
  refine G_ct (J := (fun σ' => IF (MY 0) σ σ' ∧ True)) (L := [(0, av 1 0 0), (1, av 1 1 0)]) (nL := 3) rfl rfl rfl ⟨IF.rf hI, trivial⟩ ?_
  refine T_ld zk_22_0 rfl rfl rfl (pc' := 1) rfl ?_
  refine T_getR (t' := 2) (i' := 0) (k' := 0) zk_22_1 rfl rfl rfl (vd_1 (by omega)) (pc' := 4) rfl ?_
  refine T_ld zk_22_4 rfl rfl rfl (pc' := 5) rfl ?_
  refine T_getR (t' := 2) (i' := 1) (k' := 0) zk_22_5 rfl rfl rfl (vd_1 (by omega)) (pc' := 8) rfl ?_
  refine T_callv (J' := (fun σ' => IF (MY 0) σ σ' ∧ True)) (r := []) zk_22_8 rfl rfl rfl rfl rfl rfl (Or.inr ⟨_, _, _, _, rfl, (vd_2 (by omega)), rfl⟩) (fun σ' h => (w_39 0 1 (by omega) (by omega) σ' h.1.1 ).le (Nat.le_of_ble_eq_true rfl) (fun v σ2 ⟨h1, h3, h4⟩ => ⟨h1, h.1.tr h3 sb72_5cb13b0, trivial⟩)) (pc' := 11) rfl ?_
  refine T_ld zk_22_11 rfl rfl rfl (pc' := 12) rfl ?_
  refine T_getR (t' := 11) (i' := 0) (k' := 0) zk_22_12 rfl rfl rfl (vd_1 (by omega)) (pc' := 15) rfl ?_
  refine T_ld zk_22_15 rfl rfl rfl (pc' := 16) rfl ?_
  refine T_getR (t' := 11) (i' := 1) (k' := 0) zk_22_16 rfl rfl rfl (vd_1 (by omega)) (pc' := 19) rfl ?_
  refine T_callv (J' := (fun σ' => IF (MY 0) σ σ' ∧ True)) (r := []) zk_22_19 rfl rfl rfl rfl rfl rfl (Or.inr ⟨_, _, _, _, rfl, (vd_11 (by omega)), rfl⟩) (fun σ' h => (w_64 0 1 (by omega) (by omega) σ' h.1.1 ).le (Nat.le_of_ble_eq_true rfl) (fun v σ2 ⟨h1, h3, h4⟩ => ⟨h1, h.1.tr h3 sb72_1cca568, trivial⟩)) (pc' := 22) rfl ?_
  refine T_ld zk_22_22 rfl rfl rfl (pc' := 23) rfl ?_
  refine T_getR (t' := 17) (i' := 0) (k' := 0) zk_22_23 rfl rfl rfl (vd_1 (by omega)) (pc' := 26) rfl ?_
  refine T_ld zk_22_26 rfl rfl rfl (pc' := 27) rfl ?_
  refine T_getR (t' := 17) (i' := 1) (k' := 0) zk_22_27 rfl rfl rfl (vd_1 (by omega)) (pc' := 30) rfl ?_
  refine T_callv (J' := (fun σ' => IF (MY 0) σ σ' ∧ σ' 17 0 0 0 = n ∧ (∀ j, 0 ≤ j → j < 96 → σ' 18 0 0 j = F j) ∧ True)) (r := []) zk_22_30 rfl rfl rfl rfl rfl rfl (Or.inr ⟨_, _, _, _, rfl, (vd_17 (by omega) (by omega)), rfl⟩) (fun σ' h => (s_72_00 n F (by omega) σ' h.1.1 ((h.1.2 _ _ _ _ (by first | exact nMY rfl | (unfold MY; omega))).trans t0) (fun j a b => (h.1.2 _ _ _ _ (by first | exact nMY rfl | (unfold MY; omega))).trans (t1 j (by omega) (by omega)))).le (Nat.le_of_ble_eq_true rfl) (fun v σ2 ⟨h1, h3, h4⟩ => ⟨h1, h.1.tr h3 sb72_c835090, h4.1, h4.2.1, trivial⟩)) (pc' := 33) rfl ?_
  refine T_ld zk_22_33 rfl rfl rfl (pc' := 34) rfl ?_
  refine T_getR (t' := 17) (i' := 0) (k' := 1) zk_22_34 rfl rfl rfl (vd_1 (by omega)) (pc' := 37) rfl ?_
  refine T_ld zk_22_37 rfl rfl rfl (pc' := 38) rfl ?_
  refine T_getR (t' := 17) (i' := 1) (k' := 1) zk_22_38 rfl rfl rfl (vd_1 (by omega)) (pc' := 41) rfl ?_
  refine T_callv (J' := (fun σ' => IF (MY 0) σ σ' ∧ σ' 17 0 0 0 = n ∧ (∀ j, 0 ≤ j → j < 96 → σ' 18 0 0 j = F j) ∧ σ' 17 0 1 0 = m ∧ (∀ j, 0 ≤ j → j < 96 → σ' 18 0 1 j = G j) ∧ True)) (r := []) zk_22_41 rfl rfl rfl rfl rfl rfl (Or.inr ⟨_, _, _, _, rfl, (vd_17 (by omega) (by omega)), rfl⟩) (fun σ' h => (s_72_01 m G (by omega) σ' h.1.1 ((h.1.2 _ _ _ _ (by first | exact nMY rfl | (unfold MY; omega))).trans t2) (fun j a b => (h.1.2 _ _ _ _ (by first | exact nMY rfl | (unfold MY; omega))).trans (t3 j (by omega) (by omega)))).le (Nat.le_of_ble_eq_true rfl) (fun v σ2 ⟨h1, h3, h4⟩ => ⟨h1, h.1.tr h3 sb72_1529f72, (h3.2 _ _ _ _ (by first | exact nMYt rfl | (unfold MYt; omega))).trans (h.2.1), fun j a b => (h3.2 _ _ _ _ (by first | exact nMYt rfl | (unfold MYt; omega))).trans (h.2.2.1 j a b), h4.1, h4.2.1, trivial⟩)) (pc' := 44) rfl ?_
  refine T_ld zk_22_44 rfl rfl rfl (pc' := 45) rfl ?_
  refine T_ld zk_22_45 rfl rfl rfl (pc' := 46) rfl ?_
  refine G_getf (lo := 0) (hi := 5) zk_22_46 rfl (vd_1 (by omega)) (fun σ' h => h.1.1) (fun _ h => h.2.1 (by omega) (by omega)) (pc' := 49) rfl (fun y5 hy5 hy5' => ?_)
  refine T_putf (J' := (fun σ' => IF (MY 0) σ σ' ∧ σ' 17 0 0 0 = n ∧ (∀ j, 0 ≤ j → j < 96 → σ' 18 0 0 j = F j) ∧ σ' 17 0 1 0 = m ∧ (∀ j, 0 ≤ j → j < 96 → σ' 18 0 1 j = G j) ∧ σ' 1 0 0 5 = y5 ∧ True)) zk_22_49 rfl rfl (vd_1 (by omega)) (fun σ' h => ⟨h.1.up (by simp only [rgP] <;> omega) (by unfold MY; omega), (up_ne (by omega)).trans (h.2.1), fun j a b => (up_ne (by omega)).trans (h.2.2.1 j a b), (up_ne (by omega)).trans (h.2.2.2.1), fun j a b => (up_ne (by omega)).trans (h.2.2.2.2.1 j a b), up_eq, trivial⟩) (pc' := 52) rfl ?_
  refine T_op zk_22_52 rfl X_ic (pc' := 53) rfl ?_
  refine T_st (L' := [(0, av 1 0 0), (1, av 1 1 0), (2, iv 0)]) zk_22_53 (nL := 3) rfl rfl rfl rfl rfl (pc' := 54) rfl ?_
  refine G_know (J' := (fun σ' => IF (MY 0) σ σ' ∧ σ' 17 0 0 0 = n ∧ (∀ j, 0 ≤ j → j < 96 → σ' 18 0 0 j = F j) ∧ σ' 17 0 1 0 = m ∧ (∀ j, 0 ≤ j → j < 96 → σ' 18 0 1 j = G j) ∧ True)) (fun σ' h => ⟨h.1, h.2.1, h.2.2.1, h.2.2.2.1, h.2.2.2.2.1, trivial⟩) ?_
  refine T_loop1 (fun x6 => ((5 - x6 : Int)).toNat) (fun x6 => (0 ≤ x6 ∧ x6 ≤ 5)) (fun x6 => TJ xs (fun σ' => IF (MY 0) σ σ' ∧ σ' 17 0 0 0 = n ∧ (∀ j, 0 ≤ j → j < 96 → σ' 18 0 0 j = F j) ∧ σ' 17 0 1 0 = m ∧ (∀ j, 0 ≤ j → j < 96 → σ' 18 0 1 j = G j) ∧ True) 2 22 54 [(0, av 1 0 0), (1, av 1 1 0), (2, iv x6)] [] _) ?_ 0 (by omega)
  intro x6 hp8 ih7
  refine T_ld zk_22_54 rfl rfl rfl (pc' := 55) rfl ?_
  refine T_ld zk_22_55 rfl rfl rfl (pc' := 56) rfl ?_
  refine G_getf (lo := 0) (hi := 5) zk_22_56 rfl (vd_1 (by omega)) (fun σ' h => h.1.1) (fun _ h => h.2.1 (by omega) (by omega)) (pc' := 59) rfl (fun y9 hy9 hy9' => ?_)
  refine T_icmp_ge zk_22_59 (by omega) (by omega) (pc' := 62) rfl (fun h10 => ?_) (fun h11 => ?_)
  ·
    refine T_ld zk_22_83 rfl rfl rfl (pc' := 84) rfl ?_
    refine T_ld zk_22_84 rfl rfl rfl (pc' := 85) rfl ?_
    refine G_getX (w := a6) zk_22_85 rfl (vd_1 (by omega)) (fun σ' h => (h.1.2 _ _ _ _ (by first | exact nMY rfl | (unfold MY; omega))).trans s0) (pc' := 88) rfl ?_
    refine T_putf (J' := (fun σ' => IF (MY 0) σ σ' ∧ σ' 17 0 0 0 = n ∧ (∀ j, 0 ≤ j → j < 96 → σ' 18 0 0 j = F j) ∧ σ' 17 0 1 0 = m ∧ (∀ j, 0 ≤ j → j < 96 → σ' 18 0 1 j = G j) ∧ σ' 1 0 0 6 = a6 ∧ True)) zk_22_88 rfl rfl (vd_1 (by omega)) (fun σ' h => ⟨h.1.up (by simp only [rgP] <;> omega) (by unfold MY; omega), (up_ne (by omega)).trans (h.2.1), fun j a b => (up_ne (by omega)).trans (h.2.2.1 j a b), (up_ne (by omega)).trans (h.2.2.2.1), fun j a b => (up_ne (by omega)).trans (h.2.2.2.2.1 j a b), up_eq, trivial⟩) (pc' := 91) rfl ?_
    refine T_op zk_22_91 rfl X_ic (pc' := 92) rfl ?_
    refine T_st (L' := [(0, av 1 0 0), (1, av 1 1 0), (2, iv 0)]) zk_22_92 (nL := 3) rfl rfl rfl rfl rfl (pc' := 93) rfl ?_
    refine G_know (J' := (fun σ' => IF (MY 0) σ σ' ∧ σ' 1 0 0 6 = a6 ∧ σ' 17 0 0 0 = n ∧ (∀ j, 0 ≤ j → j < 96 → σ' 18 0 0 j = F j) ∧ σ' 17 0 1 0 = m ∧ (∀ j, 0 ≤ j → j < 96 → σ' 18 0 1 j = G j) ∧ True)) (fun σ' h => ⟨h.1, h.2.2.2.2.2.1, h.2.1, h.2.2.1, h.2.2.2.1, h.2.2.2.2.1, trivial⟩) ?_
    refine T_loop1 (fun x12 => ((12 - x12 : Int)).toNat) (fun x12 => (0 ≤ x12 ∧ x12 ≤ 12)) (fun x12 => TJ xs (fun σ' => IF (MY 0) σ σ' ∧ σ' 1 0 0 6 = a6 ∧ σ' 17 0 0 0 = n ∧ (∀ j, 0 ≤ j → j < 96 → σ' 18 0 0 j = F j) ∧ σ' 17 0 1 0 = m ∧ (∀ j, 0 ≤ j → j < 96 → σ' 18 0 1 j = G j) ∧ True) 2 22 93 [(0, av 1 0 0), (1, av 1 1 0), (2, iv x12)] [] _) ?_ 0 (by omega)
    intro x12 hp14 ih13
    refine T_ld zk_22_93 rfl rfl rfl (pc' := 94) rfl ?_
    refine T_ld zk_22_94 rfl rfl rfl (pc' := 95) rfl ?_
    refine G_getX (w := a6) zk_22_95 rfl (vd_1 (by omega)) (fun σ' h => h.2.1) (pc' := 98) rfl ?_
    refine T_icmp_ge zk_22_98 (by omega) (by omega) (pc' := 101) rfl (fun h15 => ?_) (fun h16 => ?_)
    ·
      refine T_ld zk_22_122 rfl rfl rfl (pc' := 123) rfl ?_
      refine T_ld zk_22_123 rfl rfl rfl (pc' := 124) rfl ?_
      refine G_getX (w := a7) zk_22_124 rfl (vd_1 (by omega)) (fun σ' h => (h.1.2 _ _ _ _ (by first | exact nMY rfl | (unfold MY; omega))).trans s1) (pc' := 127) rfl ?_
      refine T_putf (J' := (fun σ' => IF (MY 0) σ σ' ∧ σ' 1 0 0 6 = a6 ∧ σ' 17 0 0 0 = n ∧ (∀ j, 0 ≤ j → j < 96 → σ' 18 0 0 j = F j) ∧ σ' 17 0 1 0 = m ∧ (∀ j, 0 ≤ j → j < 96 → σ' 18 0 1 j = G j) ∧ σ' 1 0 0 7 = a7 ∧ True)) zk_22_127 rfl rfl (vd_1 (by omega)) (fun σ' h => ⟨h.1.up (by simp only [rgP] <;> omega) (by unfold MY; omega), (up_ne (by omega)).trans (h.2.1), (up_ne (by omega)).trans (h.2.2.1), fun j a b => (up_ne (by omega)).trans (h.2.2.2.1 j a b), (up_ne (by omega)).trans (h.2.2.2.2.1), fun j a b => (up_ne (by omega)).trans (h.2.2.2.2.2.1 j a b), up_eq, trivial⟩) (pc' := 130) rfl ?_
      refine T_op zk_22_130 rfl X_ic (pc' := 131) rfl ?_
      refine T_st (L' := [(0, av 1 0 0), (1, av 1 1 0), (2, iv 0)]) zk_22_131 (nL := 3) rfl rfl rfl rfl rfl (pc' := 132) rfl ?_
      refine G_know (J' := (fun σ' => IF (MY 0) σ σ' ∧ σ' 1 0 0 6 = a6 ∧ σ' 1 0 0 7 = a7 ∧ σ' 17 0 0 0 = n ∧ (∀ j, 0 ≤ j → j < 96 → σ' 18 0 0 j = F j) ∧ σ' 17 0 1 0 = m ∧ (∀ j, 0 ≤ j → j < 96 → σ' 18 0 1 j = G j) ∧ True)) (fun σ' h => ⟨h.1, h.2.1, h.2.2.2.2.2.2.1, h.2.2.1, h.2.2.2.1, h.2.2.2.2.1, h.2.2.2.2.2.1, trivial⟩) ?_
      refine T_loop1 (fun x17 => ((6 - x17 : Int)).toNat) (fun x17 => (0 ≤ x17 ∧ x17 ≤ 6)) (fun x17 => TJ xs (fun σ' => IF (MY 0) σ σ' ∧ σ' 1 0 0 6 = a6 ∧ σ' 1 0 0 7 = a7 ∧ σ' 17 0 0 0 = n ∧ (∀ j, 0 ≤ j → j < 96 → σ' 18 0 0 j = F j) ∧ σ' 17 0 1 0 = m ∧ (∀ j, 0 ≤ j → j < 96 → σ' 18 0 1 j = G j) ∧ True) 2 22 132 [(0, av 1 0 0), (1, av 1 1 0), (2, iv x17)] [] _) ?_ 0 (by omega)
      intro x17 hp19 ih18
      refine T_ld zk_22_132 rfl rfl rfl (pc' := 133) rfl ?_
      refine T_ld zk_22_133 rfl rfl rfl (pc' := 134) rfl ?_
      refine G_getX (w := a7) zk_22_134 rfl (vd_1 (by omega)) (fun σ' h => h.2.2.1) (pc' := 137) rfl ?_
      refine T_icmp_ge zk_22_137 (by omega) (by omega) (pc' := 140) rfl (fun h20 => ?_) (fun h21 => ?_)
      ·
        refine T_ld zk_22_161 rfl rfl rfl (pc' := 162) rfl ?_
        refine T_ld zk_22_162 rfl rfl rfl (pc' := 163) rfl ?_
        refine G_getX (w := a10) zk_22_163 rfl (vd_1 (by omega)) (fun σ' h => (h.1.2 _ _ _ _ (by first | exact nMY rfl | (unfold MY; omega))).trans s2) (pc' := 166) rfl ?_
        refine T_putf (J' := (fun σ' => IF (MY 0) σ σ' ∧ σ' 1 0 0 6 = a6 ∧ σ' 1 0 0 7 = a7 ∧ σ' 17 0 0 0 = n ∧ (∀ j, 0 ≤ j → j < 96 → σ' 18 0 0 j = F j) ∧ σ' 17 0 1 0 = m ∧ (∀ j, 0 ≤ j → j < 96 → σ' 18 0 1 j = G j) ∧ σ' 1 0 0 10 = a10 ∧ True)) zk_22_166 rfl rfl (vd_1 (by omega)) (fun σ' h => ⟨h.1.up (by simp only [rgP] <;> omega) (by unfold MY; omega), (up_ne (by omega)).trans (h.2.1), (up_ne (by omega)).trans (h.2.2.1), (up_ne (by omega)).trans (h.2.2.2.1), fun j a b => (up_ne (by omega)).trans (h.2.2.2.2.1 j a b), (up_ne (by omega)).trans (h.2.2.2.2.2.1), fun j a b => (up_ne (by omega)).trans (h.2.2.2.2.2.2.1 j a b), up_eq, trivial⟩) (pc' := 169) rfl ?_
        refine T_ld zk_22_169 rfl rfl rfl (pc' := 170) rfl ?_
        refine T_ld zk_22_170 rfl rfl rfl (pc' := 171) rfl ?_
        refine G_getX (w := a11) zk_22_171 rfl (vd_1 (by omega)) (fun σ' h => (h.1.2 _ _ _ _ (by first | exact nMY rfl | (unfold MY; omega))).trans s3) (pc' := 174) rfl ?_
        refine T_putf (J' := (fun σ' => IF (MY 0) σ σ' ∧ σ' 1 0 0 6 = a6 ∧ σ' 1 0 0 7 = a7 ∧ σ' 17 0 0 0 = n ∧ (∀ j, 0 ≤ j → j < 96 → σ' 18 0 0 j = F j) ∧ σ' 17 0 1 0 = m ∧ (∀ j, 0 ≤ j → j < 96 → σ' 18 0 1 j = G j) ∧ σ' 1 0 0 10 = a10 ∧ σ' 1 0 0 11 = a11 ∧ True)) zk_22_174 rfl rfl (vd_1 (by omega)) (fun σ' h => ⟨h.1.up (by simp only [rgP] <;> omega) (by unfold MY; omega), (up_ne (by omega)).trans (h.2.1), (up_ne (by omega)).trans (h.2.2.1), (up_ne (by omega)).trans (h.2.2.2.1), fun j a b => (up_ne (by omega)).trans (h.2.2.2.2.1 j a b), (up_ne (by omega)).trans (h.2.2.2.2.2.1), fun j a b => (up_ne (by omega)).trans (h.2.2.2.2.2.2.1 j a b), (up_ne (by omega)).trans (h.2.2.2.2.2.2.2.1), up_eq, trivial⟩) (pc' := 177) rfl ?_
        refine T_ld zk_22_177 rfl rfl rfl (pc' := 178) rfl ?_
        refine T_ld zk_22_178 rfl rfl rfl (pc' := 179) rfl ?_
        refine G_getX (w := a12) zk_22_179 rfl (vd_1 (by omega)) (fun σ' h => (h.1.2 _ _ _ _ (by first | exact nMY rfl | (unfold MY; omega))).trans s4) (pc' := 182) rfl ?_
        refine T_putf (J' := (fun σ' => IF (MY 0) σ σ' ∧ σ' 1 0 0 6 = a6 ∧ σ' 1 0 0 7 = a7 ∧ σ' 17 0 0 0 = n ∧ (∀ j, 0 ≤ j → j < 96 → σ' 18 0 0 j = F j) ∧ σ' 17 0 1 0 = m ∧ (∀ j, 0 ≤ j → j < 96 → σ' 18 0 1 j = G j) ∧ σ' 1 0 0 10 = a10 ∧ σ' 1 0 0 11 = a11 ∧ σ' 1 0 0 12 = a12 ∧ True)) zk_22_182 rfl rfl (vd_1 (by omega)) (fun σ' h => ⟨h.1.up (by simp only [rgP] <;> omega) (by unfold MY; omega), (up_ne (by omega)).trans (h.2.1), (up_ne (by omega)).trans (h.2.2.1), (up_ne (by omega)).trans (h.2.2.2.1), fun j a b => (up_ne (by omega)).trans (h.2.2.2.2.1 j a b), (up_ne (by omega)).trans (h.2.2.2.2.2.1), fun j a b => (up_ne (by omega)).trans (h.2.2.2.2.2.2.1 j a b), (up_ne (by omega)).trans (h.2.2.2.2.2.2.2.1), (up_ne (by omega)).trans (h.2.2.2.2.2.2.2.2.1), up_eq, trivial⟩) (pc' := 185) rfl ?_
        refine T_ld zk_22_185 rfl rfl rfl (pc' := 186) rfl ?_
        refine T_ld zk_22_186 rfl rfl rfl (pc' := 187) rfl ?_
        refine G_getX (w := a13) zk_22_187 rfl (vd_1 (by omega)) (fun σ' h => (h.1.2 _ _ _ _ (by first | exact nMY rfl | (unfold MY; omega))).trans s5) (pc' := 190) rfl ?_
        refine T_putf (J' := (fun σ' => IF (MY 0) σ σ' ∧ σ' 1 0 0 6 = a6 ∧ σ' 1 0 0 7 = a7 ∧ σ' 17 0 0 0 = n ∧ (∀ j, 0 ≤ j → j < 96 → σ' 18 0 0 j = F j) ∧ σ' 17 0 1 0 = m ∧ (∀ j, 0 ≤ j → j < 96 → σ' 18 0 1 j = G j) ∧ σ' 1 0 0 10 = a10 ∧ σ' 1 0 0 11 = a11 ∧ σ' 1 0 0 12 = a12 ∧ σ' 1 0 0 13 = a13 ∧ True)) zk_22_190 rfl rfl (vd_1 (by omega)) (fun σ' h => ⟨h.1.up (by simp only [rgP] <;> omega) (by unfold MY; omega), (up_ne (by omega)).trans (h.2.1), (up_ne (by omega)).trans (h.2.2.1), (up_ne (by omega)).trans (h.2.2.2.1), fun j a b => (up_ne (by omega)).trans (h.2.2.2.2.1 j a b), (up_ne (by omega)).trans (h.2.2.2.2.2.1), fun j a b => (up_ne (by omega)).trans (h.2.2.2.2.2.2.1 j a b), (up_ne (by omega)).trans (h.2.2.2.2.2.2.2.1), (up_ne (by omega)).trans (h.2.2.2.2.2.2.2.2.1), (up_ne (by omega)).trans (h.2.2.2.2.2.2.2.2.2.1), up_eq, trivial⟩) (pc' := 193) rfl ?_
        refine T_ld zk_22_193 rfl rfl rfl (pc' := 194) rfl ?_
        refine T_ld zk_22_194 rfl rfl rfl (pc' := 195) rfl ?_
        refine G_getf (lo := -2147483648) (hi := 2147483647) zk_22_195 rfl (vd_1 (by omega)) (fun σ' h => h.1.1) (fun _ h => (by have q := h.1; omega)) (pc' := 198) rfl (fun y22 hy22 hy22' => ?_)
        refine T_putf (J' := (fun σ' => IF (MY 0) σ σ' ∧ σ' 1 0 0 6 = a6 ∧ σ' 1 0 0 7 = a7 ∧ σ' 17 0 0 0 = n ∧ (∀ j, 0 ≤ j → j < 96 → σ' 18 0 0 j = F j) ∧ σ' 17 0 1 0 = m ∧ (∀ j, 0 ≤ j → j < 96 → σ' 18 0 1 j = G j) ∧ σ' 1 0 0 10 = a10 ∧ σ' 1 0 0 11 = a11 ∧ σ' 1 0 0 12 = a12 ∧ σ' 1 0 0 13 = a13 ∧ σ' 1 0 0 14 = y22 ∧ True)) zk_22_198 rfl rfl (vd_1 (by omega)) (fun σ' h => ⟨h.1.up (by simp only [rgP] <;> omega) (by unfold MY; omega), (up_ne (by omega)).trans (h.2.1), (up_ne (by omega)).trans (h.2.2.1), (up_ne (by omega)).trans (h.2.2.2.1), fun j a b => (up_ne (by omega)).trans (h.2.2.2.2.1 j a b), (up_ne (by omega)).trans (h.2.2.2.2.2.1), fun j a b => (up_ne (by omega)).trans (h.2.2.2.2.2.2.1 j a b), (up_ne (by omega)).trans (h.2.2.2.2.2.2.2.1), (up_ne (by omega)).trans (h.2.2.2.2.2.2.2.2.1), (up_ne (by omega)).trans (h.2.2.2.2.2.2.2.2.2.1), (up_ne (by omega)).trans (h.2.2.2.2.2.2.2.2.2.2.1), up_eq, trivial⟩) (pc' := 201) rfl ?_
        refine T_ld zk_22_201 rfl rfl rfl (pc' := 202) rfl ?_
        refine T_ld zk_22_202 rfl rfl rfl (pc' := 203) rfl ?_
        refine G_getf (lo := -2147483648) (hi := 2147483647) zk_22_203 rfl (vd_1 (by omega)) (fun σ' h => h.1.1) (fun _ h => (by have q := h.1; omega)) (pc' := 206) rfl (fun y23 hy23 hy23' => ?_)
        refine T_putf (J' := (fun σ' => IF (MY 0) σ σ' ∧ σ' 1 0 0 6 = a6 ∧ σ' 1 0 0 7 = a7 ∧ σ' 17 0 0 0 = n ∧ (∀ j, 0 ≤ j → j < 96 → σ' 18 0 0 j = F j) ∧ σ' 17 0 1 0 = m ∧ (∀ j, 0 ≤ j → j < 96 → σ' 18 0 1 j = G j) ∧ σ' 1 0 0 10 = a10 ∧ σ' 1 0 0 11 = a11 ∧ σ' 1 0 0 12 = a12 ∧ σ' 1 0 0 13 = a13 ∧ σ' 1 0 0 14 = y22 ∧ σ' 1 0 0 15 = y23 ∧ True)) zk_22_206 rfl rfl (vd_1 (by omega)) (fun σ' h => ⟨h.1.up (by simp only [rgP] <;> omega) (by unfold MY; omega), (up_ne (by omega)).trans (h.2.1), (up_ne (by omega)).trans (h.2.2.1), (up_ne (by omega)).trans (h.2.2.2.1), fun j a b => (up_ne (by omega)).trans (h.2.2.2.2.1 j a b), (up_ne (by omega)).trans (h.2.2.2.2.2.1), fun j a b => (up_ne (by omega)).trans (h.2.2.2.2.2.2.1 j a b), (up_ne (by omega)).trans (h.2.2.2.2.2.2.2.1), (up_ne (by omega)).trans (h.2.2.2.2.2.2.2.2.1), (up_ne (by omega)).trans (h.2.2.2.2.2.2.2.2.2.1), (up_ne (by omega)).trans (h.2.2.2.2.2.2.2.2.2.2.1), (up_ne (by omega)).trans (h.2.2.2.2.2.2.2.2.2.2.2.1), up_eq, trivial⟩) (pc' := 209) rfl ?_
        refine T_ld zk_22_209 rfl rfl rfl (pc' := 210) rfl ?_
        refine T_ld zk_22_210 rfl rfl rfl (pc' := 211) rfl ?_
        refine G_getf (lo := -2147483648) (hi := 2147483647) zk_22_211 rfl (vd_1 (by omega)) (fun σ' h => h.1.1) (fun _ h => (by have q := h.1; omega)) (pc' := 214) rfl (fun y24 hy24 hy24' => ?_)
        refine T_putf (J' := (fun σ' => IF (MY 0) σ σ' ∧ σ' 1 0 0 6 = a6 ∧ σ' 1 0 0 7 = a7 ∧ σ' 17 0 0 0 = n ∧ (∀ j, 0 ≤ j → j < 96 → σ' 18 0 0 j = F j) ∧ σ' 17 0 1 0 = m ∧ (∀ j, 0 ≤ j → j < 96 → σ' 18 0 1 j = G j) ∧ σ' 1 0 0 10 = a10 ∧ σ' 1 0 0 11 = a11 ∧ σ' 1 0 0 12 = a12 ∧ σ' 1 0 0 13 = a13 ∧ σ' 1 0 0 14 = y22 ∧ σ' 1 0 0 15 = y23 ∧ σ' 1 0 0 16 = y24 ∧ True)) zk_22_214 rfl rfl (vd_1 (by omega)) (fun σ' h => ⟨h.1.up (by simp only [rgP] <;> omega) (by unfold MY; omega), (up_ne (by omega)).trans (h.2.1), (up_ne (by omega)).trans (h.2.2.1), (up_ne (by omega)).trans (h.2.2.2.1), fun j a b => (up_ne (by omega)).trans (h.2.2.2.2.1 j a b), (up_ne (by omega)).trans (h.2.2.2.2.2.1), fun j a b => (up_ne (by omega)).trans (h.2.2.2.2.2.2.1 j a b), (up_ne (by omega)).trans (h.2.2.2.2.2.2.2.1), (up_ne (by omega)).trans (h.2.2.2.2.2.2.2.2.1), (up_ne (by omega)).trans (h.2.2.2.2.2.2.2.2.2.1), (up_ne (by omega)).trans (h.2.2.2.2.2.2.2.2.2.2.1), (up_ne (by omega)).trans (h.2.2.2.2.2.2.2.2.2.2.2.1), (up_ne (by omega)).trans (h.2.2.2.2.2.2.2.2.2.2.2.2.1), up_eq, trivial⟩) (pc' := 217) rfl ?_
        exact T_vret zk_22_217 rfl (fun σ' h => ⟨rfl, h.1, ⟨h.2.1, h.2.2.1, h.2.2.2.2.2.2.2.1, h.2.2.2.2.2.2.2.2.1, h.2.2.2.2.2.2.2.2.2.1, h.2.2.2.2.2.2.2.2.2.2.1, h.2.2.2.1, h.2.2.2.2.1, h.2.2.2.2.2.1, h.2.2.2.2.2.2.1, trivial⟩⟩)
      ·
        refine T_ld zk_22_140 rfl rfl rfl (pc' := 141) rfl ?_
        refine T_getR (t' := 16) (i' := 0) (k' := 0) zk_22_141 rfl rfl rfl (vd_1 (by omega)) (pc' := 144) rfl ?_
        refine T_ld zk_22_144 rfl rfl rfl (pc' := 145) rfl ?_
        refine G_aald (t' := 26) (im := 9) (i' := 0) (ln := 6) zk_22_145 rfl rfl rfl (vd_16 (by omega)) (by omega) (by omega) (by omega) (pc' := 146) rfl ?_
        refine T_ld zk_22_146 rfl rfl rfl (pc' := 147) rfl ?_
        refine T_getR (t' := 16) (i' := 1) (k' := 0) zk_22_147 rfl rfl rfl (vd_1 (by omega)) (pc' := 150) rfl ?_
        refine T_ld zk_22_150 rfl rfl rfl (pc' := 151) rfl ?_
        refine G_aald (t' := 26) (im := 9) (i' := 1) (ln := 6) zk_22_151 rfl rfl rfl (vd_16 (by omega)) (by omega) (by omega) (by omega) (pc' := 152) rfl ?_
        refine T_callv (J' := (fun σ' => IF (MY 0) σ σ' ∧ σ' 1 0 0 6 = a6 ∧ σ' 1 0 0 7 = a7 ∧ σ' 17 0 0 0 = n ∧ (∀ j, 0 ≤ j → j < 96 → σ' 18 0 0 j = F j) ∧ σ' 17 0 1 0 = m ∧ (∀ j, 0 ≤ j → j < 96 → σ' 18 0 1 j = G j) ∧ True)) (r := []) zk_22_152 rfl rfl rfl rfl rfl rfl (Or.inr ⟨_, _, _, _, rfl, (vd_26 (by omega) (by omega)), rfl⟩) (fun σ' h => (w_3 0 (Int.toNat x17) 1 (by omega) (by omega) (by omega) σ' h.1.1 ).le (Nat.le_of_ble_eq_true rfl) (fun v σ2 ⟨h1, h3, h4⟩ => ⟨h1, h.1.tr h3 sb72_1c2198f, (h3.2 _ _ _ _ (by first | exact nMI rfl | (unfold MI; omega))).trans (h.2.1), (h3.2 _ _ _ _ (by first | exact nMI rfl | (unfold MI; omega))).trans (h.2.2.1), (h3.2 _ _ _ _ (by first | exact nMI rfl | (unfold MI; omega))).trans (h.2.2.2.1), fun j a b => (h3.2 _ _ _ _ (by first | exact nMI rfl | (unfold MI; omega))).trans (h.2.2.2.2.1 j a b), (h3.2 _ _ _ _ (by first | exact nMI rfl | (unfold MI; omega))).trans (h.2.2.2.2.2.1), fun j a b => (h3.2 _ _ _ _ (by first | exact nMI rfl | (unfold MI; omega))).trans (h.2.2.2.2.2.2.1 j a b), trivial⟩)) (pc' := 155) rfl ?_
        refine T_iinc (L' := [(0, av 1 0 0), (1, av 1 1 0), (2, iv (x17 + 1))]) zk_22_155 (nL := 3) rfl rfl rfl rfl (pc' := 158) rfl ?_
        refine T_goto zk_22_158 ?_
        exact ih18 (x17 + 1) (by omega) (by omega)
    ·
      refine T_ld zk_22_101 rfl rfl rfl (pc' := 102) rfl ?_
      refine T_getR (t' := 15) (i' := 0) (k' := 0) zk_22_102 rfl rfl rfl (vd_1 (by omega)) (pc' := 105) rfl ?_
      refine T_ld zk_22_105 rfl rfl rfl (pc' := 106) rfl ?_
      refine G_aald (t' := 25) (im := 9) (i' := 0) (ln := 12) zk_22_106 rfl rfl rfl (vd_15 (by omega)) (by omega) (by omega) (by omega) (pc' := 107) rfl ?_
      refine T_ld zk_22_107 rfl rfl rfl (pc' := 108) rfl ?_
      refine T_getR (t' := 15) (i' := 1) (k' := 0) zk_22_108 rfl rfl rfl (vd_1 (by omega)) (pc' := 111) rfl ?_
      refine T_ld zk_22_111 rfl rfl rfl (pc' := 112) rfl ?_
      refine G_aald (t' := 25) (im := 9) (i' := 1) (ln := 12) zk_22_112 rfl rfl rfl (vd_15 (by omega)) (by omega) (by omega) (by omega) (pc' := 113) rfl ?_
      refine T_callv (J' := (fun σ' => IF (MY 0) σ σ' ∧ σ' 1 0 0 6 = a6 ∧ σ' 17 0 0 0 = n ∧ (∀ j, 0 ≤ j → j < 96 → σ' 18 0 0 j = F j) ∧ σ' 17 0 1 0 = m ∧ (∀ j, 0 ≤ j → j < 96 → σ' 18 0 1 j = G j) ∧ True)) (r := []) zk_22_113 rfl rfl rfl rfl rfl rfl (Or.inr ⟨_, _, _, _, rfl, (vd_25 (by omega) (by omega)), rfl⟩) (fun σ' h => (w_28 0 (Int.toNat x12) 1 (by omega) (by omega) (by omega) σ' h.1.1 ).le (Nat.le_of_ble_eq_true rfl) (fun v σ2 ⟨h1, h3, h4⟩ => ⟨h1, h.1.tr h3 sb72_a41fece, (h3.2 _ _ _ _ (by first | exact nMI rfl | (unfold MI; omega))).trans (h.2.1), (h3.2 _ _ _ _ (by first | exact nMI rfl | (unfold MI; omega))).trans (h.2.2.1), fun j a b => (h3.2 _ _ _ _ (by first | exact nMI rfl | (unfold MI; omega))).trans (h.2.2.2.1 j a b), (h3.2 _ _ _ _ (by first | exact nMI rfl | (unfold MI; omega))).trans (h.2.2.2.2.1), fun j a b => (h3.2 _ _ _ _ (by first | exact nMI rfl | (unfold MI; omega))).trans (h.2.2.2.2.2.1 j a b), trivial⟩)) (pc' := 116) rfl ?_
      refine T_iinc (L' := [(0, av 1 0 0), (1, av 1 1 0), (2, iv (x12 + 1))]) zk_22_116 (nL := 3) rfl rfl rfl rfl (pc' := 119) rfl ?_
      refine T_goto zk_22_119 ?_
      exact ih13 (x12 + 1) (by omega) (by omega)
  ·
    refine T_ld zk_22_62 rfl rfl rfl (pc' := 63) rfl ?_
    refine T_getR (t' := 14) (i' := 0) (k' := 0) zk_22_63 rfl rfl rfl (vd_1 (by omega)) (pc' := 66) rfl ?_
    refine T_ld zk_22_66 rfl rfl rfl (pc' := 67) rfl ?_
    refine G_aald (t' := 23) (im := 9) (i' := 0) (ln := 5) zk_22_67 rfl rfl rfl (vd_14 (by omega)) (by omega) (by omega) (by omega) (pc' := 68) rfl ?_
    refine T_ld zk_22_68 rfl rfl rfl (pc' := 69) rfl ?_
    refine T_getR (t' := 14) (i' := 1) (k' := 0) zk_22_69 rfl rfl rfl (vd_1 (by omega)) (pc' := 72) rfl ?_
    refine T_ld zk_22_72 rfl rfl rfl (pc' := 73) rfl ?_
    refine G_aald (t' := 23) (im := 9) (i' := 1) (ln := 5) zk_22_73 rfl rfl rfl (vd_14 (by omega)) (by omega) (by omega) (by omega) (pc' := 74) rfl ?_
    refine T_callv (J' := (fun σ' => IF (MY 0) σ σ' ∧ σ' 17 0 0 0 = n ∧ (∀ j, 0 ≤ j → j < 96 → σ' 18 0 0 j = F j) ∧ σ' 17 0 1 0 = m ∧ (∀ j, 0 ≤ j → j < 96 → σ' 18 0 1 j = G j) ∧ True)) (r := []) zk_22_74 rfl rfl rfl rfl rfl rfl (Or.inr ⟨_, _, _, _, rfl, (vd_23 (by omega) (by omega)), rfl⟩) (fun σ' h => (w_46 0 (Int.toNat x6) 1 (by omega) (by omega) (by omega) σ' h.1.1 ).le (Nat.le_of_ble_eq_true rfl) (fun v σ2 ⟨h1, h3, h4⟩ => ⟨h1, h.1.tr h3 sb72_f3781e5, (h3.2 _ _ _ _ (by first | exact nMI rfl | (unfold MI; omega))).trans (h.2.1), fun j a b => (h3.2 _ _ _ _ (by first | exact nMI rfl | (unfold MI; omega))).trans (h.2.2.1 j a b), (h3.2 _ _ _ _ (by first | exact nMI rfl | (unfold MI; omega))).trans (h.2.2.2.1), fun j a b => (h3.2 _ _ _ _ (by first | exact nMI rfl | (unfold MI; omega))).trans (h.2.2.2.2.1 j a b), trivial⟩)) (pc' := 77) rfl ?_
    refine T_iinc (L' := [(0, av 1 0 0), (1, av 1 1 0), (2, iv (x6 + 1))]) zk_22_77 (nL := 3) rfl rfl rfl rfl (pc' := 80) rfl ?_
    refine T_goto zk_22_80 ?_
    exact ih7 (x6 + 1) (by omega) (by omega)
/-- W.image -/
theorem s_108t {xs : Nat × (Nat → Int32)}  (a6 : Int) (a7 : Int) (a10 : Int) (a11 : Int) (a12 : Int) (a13 : Int) (n : Int) (m : Int) (F G : Nat → Int) (ha6 : 0 ≤ a6 ∧ a6 ≤ 12) (ha7 : 0 ≤ a7 ∧ a7 ≤ 6) (ha10 : 0 ≤ a10 ∧ a10 ≤ 99) (ha11 : 1 ≤ a11 ∧ a11 ≤ 9) (ha12 : 0 ≤ a12 ∧ a12 ≤ 9999) (ha13 : -2147483648 ≤ a13 ∧ a13 ≤ 2147483647) (hn : 0 ≤ n ∧ n ≤ 96) (hm : 0 ≤ m ∧ m ≤ 96) (σ : ZS) (hI : Inv σ)  (s0 : σ 1 0 0 6 = a6) (s1 : σ 1 0 0 7 = a7) (s2 : σ 1 0 0 10 = a10) (s3 : σ 1 0 0 11 = a11) (s4 : σ 1 0 0 12 = a12) (s5 : σ 1 0 0 13 = a13) (t0 : σ 17 0 0 0 = n) (t1 : (∀ j, 0 ≤ j → j < 96 → σ 18 0 0 j = F j)) (t2 : σ 17 0 1 0 = m) (t3 : (∀ j, 0 ≤ j → j < 96 → σ 18 0 1 j = G j)) : CT xs 4 108 [av 0 0 0] σ (fun v σ' => ∃ y, v = some (iv y) ∧ (y = a13) ∧ IF MIg σ σ' ∧ (σ' 1 1 0 6 = a6 ∧ σ' 1 1 0 7 = a7 ∧ σ' 1 1 0 10 = a10 ∧ σ' 1 1 0 11 = a11 ∧ σ' 1 1 0 12 = a12 ∧ σ' 1 1 0 13 = a13 ∧ σ' 0 0 0 3 = 1 ∧ σ' 17 1 0 0 = n ∧ (∀ j, 0 ≤ j → j < 96 → σ' 18 1 0 j = F j) ∧ σ' 17 1 1 0 = m ∧ (∀ j, 0 ≤ j → j < 96 → σ' 18 1 1 j = G j) ∧ True)) := by
  refine G_ct (J := (fun σ' => IF MIg σ σ' ∧ True)) (L := [(0, av 0 0 0)]) (nL := 1) rfl rfl rfl ⟨IF.rf hI, trivial⟩ ?_
  refine T_ld zk_108_0 rfl rfl rfl (pc' := 1) rfl ?_
  refine T_getR (t' := 1) (i' := 1) (k' := 0) zk_108_1 rfl rfl rfl vd_0 (pc' := 4) rfl ?_
  refine T_ld zk_108_4 rfl rfl rfl (pc' := 5) rfl ?_
  refine T_getR (t' := 1) (i' := 0) (k' := 0) zk_108_5 rfl rfl rfl vd_0 (pc' := 8) rfl ?_
  refine T_callv (J' := (fun σ' => IF MIg σ σ' ∧ σ' 1 1 0 6 = a6 ∧ σ' 1 1 0 7 = a7 ∧ σ' 1 1 0 10 = a10 ∧ σ' 1 1 0 11 = a11 ∧ σ' 1 1 0 12 = a12 ∧ σ' 1 1 0 13 = a13 ∧ σ' 17 1 0 0 = n ∧ (∀ j, 0 ≤ j → j < 96 → σ' 18 1 0 j = F j) ∧ σ' 17 1 1 0 = m ∧ (∀ j, 0 ≤ j → j < 96 → σ' 18 1 1 j = G j) ∧ True)) (r := []) zk_108_8 rfl rfl rfl rfl rfl rfl (Or.inr ⟨_, _, _, _, rfl, (vd_1 (by omega)), rfl⟩) (fun σ' h => (s_22t_1 a6 a7 a10 a11 a12 a13 n m F G (by omega) (by omega) (by omega) (by omega) (by omega) (by omega) (by omega) (by omega) σ' h.1.1 ((h.1.2 _ _ _ _ (by first | exact nMIg rfl | (unfold MIg; omega))).trans s0) ((h.1.2 _ _ _ _ (by first | exact nMIg rfl | (unfold MIg; omega))).trans s1) ((h.1.2 _ _ _ _ (by first | exact nMIg rfl | (unfold MIg; omega))).trans s2) ((h.1.2 _ _ _ _ (by first | exact nMIg rfl | (unfold MIg; omega))).trans s3) ((h.1.2 _ _ _ _ (by first | exact nMIg rfl | (unfold MIg; omega))).trans s4) ((h.1.2 _ _ _ _ (by first | exact nMIg rfl | (unfold MIg; omega))).trans s5) ((h.1.2 _ _ _ _ (by first | exact nMIg rfl | (unfold MIg; omega))).trans t0) (fun j a b => (h.1.2 _ _ _ _ (by first | exact nMIg rfl | (unfold MIg; omega))).trans (t1 j (by omega) (by omega))) ((h.1.2 _ _ _ _ (by first | exact nMIg rfl | (unfold MIg; omega))).trans t2) (fun j a b => (h.1.2 _ _ _ _ (by first | exact nMIg rfl | (unfold MIg; omega))).trans (t3 j (by omega) (by omega)))).le (Nat.le_of_ble_eq_true rfl) (fun v σ2 ⟨h1, h3, h4⟩ => ⟨h1, h.1.tr h3 sb56_a084065, h4.1, h4.2.1, h4.2.2.1, h4.2.2.2.1, h4.2.2.2.2.1, h4.2.2.2.2.2.1, h4.2.2.2.2.2.2.1, h4.2.2.2.2.2.2.2.1, h4.2.2.2.2.2.2.2.2.1, h4.2.2.2.2.2.2.2.2.2.1, trivial⟩)) (pc' := 11) rfl ?_
  refine T_ld zk_108_11 rfl rfl rfl (pc' := 12) rfl ?_
  refine T_op zk_108_12 rfl X_ic (pc' := 13) rfl ?_
  refine T_putz (J' := (fun σ' => IF MIg σ σ' ∧ σ' 1 1 0 6 = a6 ∧ σ' 1 1 0 7 = a7 ∧ σ' 1 1 0 10 = a10 ∧ σ' 1 1 0 11 = a11 ∧ σ' 1 1 0 12 = a12 ∧ σ' 1 1 0 13 = a13 ∧ σ' 17 1 0 0 = n ∧ (∀ j, 0 ≤ j → j < 96 → σ' 18 1 0 j = F j) ∧ σ' 17 1 1 0 = m ∧ (∀ j, 0 ≤ j → j < 96 → σ' 18 1 1 j = G j) ∧ σ' 0 0 0 3 = 1 ∧ True)) zk_108_13 rfl rfl (by omega) vd_0 (fun σ' h => ⟨h.1.up (by simp only [rgP] <;> omega) (by first | exact pMIg rfl | (unfold MIg; omega)), (up_ne (by omega)).trans (h.2.1), (up_ne (by omega)).trans (h.2.2.1), (up_ne (by omega)).trans (h.2.2.2.1), (up_ne (by omega)).trans (h.2.2.2.2.1), (up_ne (by omega)).trans (h.2.2.2.2.2.1), (up_ne (by omega)).trans (h.2.2.2.2.2.2.1), (up_ne (by omega)).trans (h.2.2.2.2.2.2.2.1), fun j a b => (up_ne (by omega)).trans (h.2.2.2.2.2.2.2.2.1 j a b), (up_ne (by omega)).trans (h.2.2.2.2.2.2.2.2.2.1), fun j a b => (up_ne (by omega)).trans (h.2.2.2.2.2.2.2.2.2.2.1 j a b), up_eq, trivial⟩) (pc' := 16) rfl ?_
  refine T_ld zk_108_16 rfl rfl rfl (pc' := 17) rfl ?_
  refine T_getR (t' := 1) (i' := 0) (k' := 0) zk_108_17 rfl rfl rfl vd_0 (pc' := 20) rfl ?_
  refine G_getX (w := a13) zk_108_20 rfl (vd_1 (by omega)) (fun σ' h => (h.1.2 _ _ _ _ (by first | exact nMIg rfl | (unfold MIg; omega))).trans s5) (pc' := 23) rfl ?_
  exact T_iret zk_108_23 rfl (fun σ' h => ⟨_, rfl, (by omega), h.1, ⟨h.2.1, h.2.2.1, h.2.2.2.1, h.2.2.2.2.1, h.2.2.2.2.2.1, h.2.2.2.2.2.2.1, h.2.2.2.2.2.2.2.2.2.2.2.1, h.2.2.2.2.2.2.2.1, h.2.2.2.2.2.2.2.2.1, h.2.2.2.2.2.2.2.2.2.1, h.2.2.2.2.2.2.2.2.2.2.1, trivial⟩⟩)
