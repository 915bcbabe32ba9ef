/-! rows of numbers: what the search, the images and the reading of laws need -/
def bV (v : Int) : Int := if v = -1 then 0 else 1
theorem bV_nn : ∀ v, 0 ≤ bV v := fun v => by unfold bV; split <;> omega
theorem bV_le : ∀ v, bV v ≤ 1 := fun v => by unfold bV; split <;> omega
theorem csum_n {w : Int → Int} {f : Nat → Int} {n m : Nat} {s : Int} (e : n = m) (h : csum w f n = s) : csum w f m = s := e ▸ h
theorem csum_v {w : Int → Int} {f : Nat → Int} {n : Nat} {s s' : Int} (h : csum w f n = s) (e : s = s') : csum w f n = s' := h.trans e
theorem bnd_n {f : Nat → Int} {n m : Nat} {lo hi : Int} (e : n = m) (h : bnd f n lo hi) : bnd f m lo hi := e ▸ h
theorem bnd_le {f : Nat → Int} {n m : Nat} {lo hi hi' : Int} (h : bnd f n lo hi) (e : m ≤ n) (e' : hi ≤ hi') : bnd f m lo hi' := fun j hj => ⟨(h j (by omega)).1, by have := (h j (by omega)).2; omega⟩
section L59
variable {σ : ZS} {t i k j n n' : Nat} {lo hi hi' v s y : Int}
theorem cV_room {f : Nat → Int} (h : csum bV f 25 = s) (e : f j = y) (hy : y = -1) (hj : j < 25) : s ≤ 24 := by
  have h1 := csum_one bV_le (f := f) hj
  rw [h, e, hy, show bV (-1) = 0 from rfl] at h1
  omega
theorem cV_init (h : csum bV (σ t i k) n = 0) (hj : j = n) (hn : n' = n + 1) (hv : v = -1) : csum bV (up σ t i k j v t i k) n' = 0 := by
  subst hj; subst hn; subst hv
  rw [up_self]
  simp only [csum]
  rw [csum_hi (Nat.le_refl _), h, if_pos trivial]
  rfl
theorem cV_first (h : csum bV (σ t i k) 25 = 0) (hj : j < 25) (hv : ¬ v = -1) : csum bV (up σ t i k j v t i k) 25 = 1 := by
  have h1 := csum_ge bV_nn (f := σ t i k) hj
  have h2 := bV_nn (σ t i k j)
  rw [up_self, csum_mid hj, h, show bV v = 1 from if_neg hv]
  omega
theorem cV_push (h : csum bV (σ t i k) 25 = s) (e : σ t i k j = y) (hy : y = -1) (hj : j < 25) (hv : ¬ v = -1) : csum bV (up σ t i k j v t i k) 25 = s + 1 := by
  rw [up_self, csum_mid hj, h, e, hy, show bV v = 1 from if_neg hv, show bV (-1) = 0 from rfl]
  omega
theorem bnd_push (h : bnd (σ t i k) n lo hi) (hj : j = n) (hn : n' = n + 1) (hv : lo ≤ v ∧ v ≤ hi) : bnd (up σ t i k j v t i k) n' lo hi := by
  rw [up_self]
  intro q hq
  dsimp only
  split
  · exact hv
  · exact h q (by omega)
theorem bnd_put (h : bnd (σ t i k) n lo hi) (hv : lo ≤ v ∧ v ≤ hi') (hh : hi ≤ hi') : bnd (up σ t i k j v t i k) n lo hi' := by
  rw [up_self]
  intro q hq
  dsimp only
  split
  · exact hv
  · have := h q hq; omega
def eqn (g f : Nat → Int) (n : Nat) : Prop := ∀ q, q < n → f q = g q
theorem eqn_le {g f : Nat → Int} (h : eqn g f n) (e : n' ≤ n) : eqn g f n' := fun q hq => h q (by omega)
theorem eqn_push {g : Nat → Int} (h : eqn g (σ t i k) n) (hj : j = n) (hn : n' = n + 1) (hv : v = g j) : eqn g (up σ t i k j v t i k) n' := by
  rw [up_self]
  intro q hq
  dsimp only
  split
  · next e => rw [e]; exact hv
  · exact h q (by omega)
theorem Eq_put {F : Nat → Int} (h : σ t i k = F) : up σ t i k j v t i k = fun q => if q = j then v else F q := by rw [up_self, h]
end L59
theorem WFg_eq {n n' : Int} {lc lc' cd cd' : Nat → Int} (h : WFg n lc cd) (hn : n' = n) (h5 : n ≤ 5) (hl : ∀ q, q < 5 → 0 ≤ lc q ∧ lc q ≤ 120) (e1 : eqn lc lc' 5) (e2 : eqn cd cd' 600) : WFg n' lc' cd' := by
  subst hn
  intro l h0 h1
  have h2 := hl l.toNat (by omega)
  rw [e1 l.toNat (by omega)]
  exact okc_eq (fun q hq => e2 _ (by omega)) (h l h0 h1)
/-! the reading of a law -/
def bB (v : Int) : Int := if v = 38 ∨ v = 124 then 1 else 0
def bP (v : Int) : Int := if v = 40 then 1 else 0
theorem bB_nn : ∀ v, 0 ≤ bB v := fun v => by unfold bB; split <;> omega
/-- l: the law's place; e: 1 behind an operand; P: open brackets; D: a test read and not yet written. 19 at, 20 n, 21 base, 22 codeN, 23 tests, 24 opsN; 45 code, 50 ops -/
def PSt (σ : ZS) (l e P D : Int) : Prop :=
  (0 ≤ σ 35 0 0 19 ∧ σ 35 0 0 19 ≤ σ 35 0 0 20 ∧ σ 35 0 0 20 ≤ 96 ∧ 0 ≤ σ 35 0 0 21 ∧ σ 35 0 0 21 ≤ 672) ∧
  (0 ≤ σ 35 0 0 22 ∧ D ≤ σ 35 0 0 23 ∧ 0 ≤ σ 35 0 0 24 ∧ σ 35 0 0 22 + σ 35 0 0 24 + 2 * σ 35 0 0 23 + D ≤ σ 35 0 0 19 ∧ 3 * σ 35 0 0 23 ≤ σ 35 0 0 19) ∧
  (okc (σ 45 0 0) (Int.toNat (120 * l)) (Int.toNat (σ 35 0 0 22)) ∧ hgt (σ 45 0 0) (Int.toNat (120 * l)) (Int.toNat (σ 35 0 0 22)) = csum bB (σ 50 0 0) (Int.toNat (σ 35 0 0 24)) + e ∧ hgt (σ 45 0 0) (Int.toNat (120 * l)) (Int.toNat (σ 35 0 0 22)) + D ≤ σ 35 0 0 23) ∧
  P ≤ csum bP (σ 50 0 0) (Int.toNat (σ 35 0 0 24))
theorem okc_push {f : Nat → Int} {b n : Nat} {c : Int} (h : okc f b n) (hc : (0 ≤ c → hgt f b n ≤ 58) ∧ (c = -1 → 1 ≤ hgt f b n) ∧ (c < -1 → 2 ≤ hgt f b n)) :
    okc (fun q => if q = b + n then c else f q) b (n + 1) ∧ hgt (fun q => if q = b + n then c else f q) b (n + 1) = hgt f b n + stp c := by
  have e : ∀ m, m ≤ n → hgt (fun q => if q = b + n then c else f q) b m = hgt f b m := fun m hm => hgt_eq (fun q hq => by rw [if_neg (by omega)])
  refine ⟨fun q hq => ?_, ?_⟩
  · rw [e q (by omega)]
    by_cases h1 : q = n
    · subst h1
      dsimp only
      first | rw [if_pos rfl] | rw [if_pos trivial]
      exact hc
    · dsimp only
      rw [if_neg (by omega)]
      exact h q (by omega)
  · simp only [hgt]
    rw [e n (Nat.le_refl _), if_pos trivial]
theorem PSt_same {σ σ' : ZS} {l e P D : Int} (h : PSt σ l e P D) (e19 : σ' 35 0 0 19 = σ 35 0 0 19) (e20 : σ' 35 0 0 20 = σ 35 0 0 20) (e21 : σ' 35 0 0 21 = σ 35 0 0 21) (e22 : σ' 35 0 0 22 = σ 35 0 0 22) (e23 : σ' 35 0 0 23 = σ 35 0 0 23) (e24 : σ' 35 0 0 24 = σ 35 0 0 24) (e45 : σ' 45 0 0 = σ 45 0 0) (e50 : σ' 50 0 0 = σ 50 0 0) : PSt σ' l e P D := by
  unfold PSt at h ⊢
  rw [e19, e20, e21, e22, e23, e24, e45, e50]
  exact h
/-- a sign written behind the program, the stack of signs as it is or one less -/
theorem PSt_emit {σ σ' : ZS} {l e e' P P' D D' c : Int} (h : PSt σ l e P D) (hl : 0 ≤ l) (e45 : σ' 45 0 0 = fun q => if q = Int.toNat (120 * l + σ 35 0 0 22) then c else σ 45 0 0 q) (e50 : σ' 50 0 0 = σ 50 0 0) (e22 : σ' 35 0 0 22 = σ 35 0 0 22 + 1) (e19 : σ' 35 0 0 19 = σ 35 0 0 19) (e20 : σ' 35 0 0 20 = σ 35 0 0 20) (e21 : σ' 35 0 0 21 = σ 35 0 0 21) (e23 : σ' 35 0 0 23 = σ 35 0 0 23)
    (hc : (c = -1 → e = 1) ∧ (c < -1 → 1 ≤ csum bB (σ 50 0 0) (Int.toNat (σ 35 0 0 24)) ∧ e = 1)) (hD : D' = 0 ∧ 0 ≤ D) (hd : 0 ≤ c → D = 1) (h24 : 0 ≤ σ' 35 0 0 24 ∧ 1 + σ' 35 0 0 24 ≤ σ 35 0 0 24 + D)
    (hB : csum bB (σ 50 0 0) (Int.toNat (σ' 35 0 0 24)) + e' = csum bB (σ 50 0 0) (Int.toNat (σ 35 0 0 24)) + e + stp c) (hP : P' ≤ csum bP (σ 50 0 0) (Int.toNat (σ' 35 0 0 24))) : PSt σ' l e' P' D' := by
  obtain ⟨h1, ⟨h2, h3, h4, h41, h42⟩, ⟨h5, h6, h7⟩, -⟩ := h
  have e1 : Int.toNat (120 * l + σ 35 0 0 22) = Int.toNat (120 * l) + Int.toNat (σ 35 0 0 22) := by omega
  have e2 : Int.toNat (σ' 35 0 0 22) = Int.toNat (σ 35 0 0 22) + 1 := by omega
  have hs : stp c ≤ 1 ∧ (c < 0 → stp c ≤ 0) := by
    unfold stp
    repeat' split
    all_goals omega
  have hb := csum_nn bB_nn (f := σ 50 0 0) (Int.toNat (σ 35 0 0 24))
  rw [e1] at e45
  obtain ⟨g1, g2⟩ := okc_push (c := c) h5 ⟨by omega, by omega, by omega⟩
  unfold PSt
  rw [e19, e20, e21, e23, e50]
  refine ⟨h1, ⟨by omega, by omega, h24.1, by omega, by omega⟩, ⟨?_, ?_, ?_⟩, hP⟩
  · rw [e45, e2]; exact g1
  · rw [e45, e2, g2]; omega
  · rw [e45, e2, g2]; omega
theorem csum_top {w : Int → Int} {f : Nat → Int} {o : Int} (ho : 0 < o) : csum w f (Int.toNat o) = csum w f (Int.toNat (o - 1)) + w (f (Int.toNat (o - 1))) := by
  have : Int.toNat o = Int.toNat (o - 1) + 1 := by omega
  rw [this]
  rfl
/-- `!` taken off, and written -/
theorem PSt_close {σ σ' : ZS} {l P : Int} (h : PSt σ l 1 P 0) (hl : 0 ≤ l) (ho : 0 < σ 35 0 0 24) (ht : σ 50 0 0 (Int.toNat (σ 35 0 0 24 - 1)) = 33) (e24 : σ' 35 0 0 24 = σ 35 0 0 24 - 1) (e22 : σ' 35 0 0 22 = σ 35 0 0 22 + 1) (e45 : σ' 45 0 0 = fun q => if q = Int.toNat (120 * l + σ 35 0 0 22) then (-1) else σ 45 0 0 q) (e50 : σ' 50 0 0 = σ 50 0 0) (e19 : σ' 35 0 0 19 = σ 35 0 0 19) (e20 : σ' 35 0 0 20 = σ 35 0 0 20) (e21 : σ' 35 0 0 21 = σ 35 0 0 21) (e23 : σ' 35 0 0 23 = σ 35 0 0 23) : PSt σ' l 1 P 0 := by
  have hb := csum_top (w := bB) (f := σ 50 0 0) ho
  have hp := csum_top (w := bP) (f := σ 50 0 0) ho
  rw [ht, show bB 33 = 0 from rfl] at hb
  rw [ht, show bP 33 = 0 from rfl] at hp
  have hP := h.2.2.2
  exact PSt_emit h hl e45 e50 e22 e19 e20 e21 e23 ⟨fun _ => rfl, fun q => by omega⟩ ⟨rfl, by omega⟩ (fun q => by omega) (by rw [e24]; omega) (by rw [e24, show stp (-1) = 0 from rfl]; omega) (by rw [e24]; omega)
/-- `&` or `|` taken off, and written -/
theorem PSt_pop {σ σ' : ZS} {l P c : Int} (h : PSt σ l 1 P 0) (hl : 0 ≤ l) (ho : 0 < σ 35 0 0 24) (hc : c = -2 ∨ c = -3) (ht : σ 50 0 0 (Int.toNat (σ 35 0 0 24 - 1)) = 38 ∨ σ 50 0 0 (Int.toNat (σ 35 0 0 24 - 1)) = 124) (e24 : σ' 35 0 0 24 = σ 35 0 0 24 - 1) (e22 : σ' 35 0 0 22 = σ 35 0 0 22 + 1) (e45 : σ' 45 0 0 = fun q => if q = Int.toNat (120 * l + σ 35 0 0 22) then c else σ 45 0 0 q) (e50 : σ' 50 0 0 = σ 50 0 0) (e19 : σ' 35 0 0 19 = σ 35 0 0 19) (e20 : σ' 35 0 0 20 = σ 35 0 0 20) (e21 : σ' 35 0 0 21 = σ 35 0 0 21) (e23 : σ' 35 0 0 23 = σ 35 0 0 23) : PSt σ' l 1 P 0 := by
  have hb := csum_top (w := bB) (f := σ 50 0 0) ho
  have hp := csum_top (w := bP) (f := σ 50 0 0) ho
  have h1 : bB (σ 50 0 0 (Int.toNat (σ 35 0 0 24 - 1))) = 1 ∧ bP (σ 50 0 0 (Int.toNat (σ 35 0 0 24 - 1))) = 0 := by
    rcases ht with q | q <;> rw [q] <;> exact ⟨rfl, rfl⟩
  have hn := csum_nn bB_nn (f := σ 50 0 0) (Int.toNat (σ 35 0 0 24 - 1))
  have hP := h.2.2.2
  have hs : stp c = -1 := by rcases hc with q | q <;> rw [q] <;> rfl
  exact PSt_emit h hl e45 e50 e22 e19 e20 e21 e23 ⟨fun q => by omega, fun q => by omega⟩ ⟨rfl, by omega⟩ (fun q => by omega) (by rw [e24]; omega) (by rw [e24, hs]; omega) (by rw [e24]; omega)
/-- a test written -/
theorem PSt_test {σ σ' : ZS} {l P c : Int} (h : PSt σ l 0 P 1) (hl : 0 ≤ l) (hc : 0 ≤ c) (e24 : σ' 35 0 0 24 = σ 35 0 0 24) (e22 : σ' 35 0 0 22 = σ 35 0 0 22 + 1) (e45 : σ' 45 0 0 = fun q => if q = Int.toNat (120 * l + σ 35 0 0 22) then c else σ 45 0 0 q) (e50 : σ' 50 0 0 = σ 50 0 0) (e19 : σ' 35 0 0 19 = σ 35 0 0 19) (e20 : σ' 35 0 0 20 = σ 35 0 0 20) (e21 : σ' 35 0 0 21 = σ 35 0 0 21) (e23 : σ' 35 0 0 23 = σ 35 0 0 23) : PSt σ' l 1 P 0 := by
  have hP := h.2.2.2
  have ho := h.2.1.2.2.1
  exact PSt_emit h hl e45 e50 e22 e19 e20 e21 e23 ⟨fun q => by omega, fun q => by omega⟩ ⟨rfl, by omega⟩ (fun _ => rfl) (by rw [e24]; omega) (by rw [e24, show stp c = 1 from if_pos hc]; omega) (by rw [e24]; omega)
/-- a test read -/
theorem PSt_read {σ σ' : ZS} {l P : Int} (h : PSt σ l 0 P 0) (e19 : σ 35 0 0 19 + 3 ≤ σ' 35 0 0 19 ∧ σ' 35 0 0 19 ≤ σ' 35 0 0 20) (e20 : σ' 35 0 0 20 = σ 35 0 0 20) (e21 : σ' 35 0 0 21 = σ 35 0 0 21) (e22 : σ' 35 0 0 22 = σ 35 0 0 22) (e23 : σ' 35 0 0 23 = σ 35 0 0 23 + 1) (e24 : σ' 35 0 0 24 = σ 35 0 0 24) (e45 : σ' 45 0 0 = σ 45 0 0) (e50 : σ' 50 0 0 = σ 50 0 0) : PSt σ' l 0 P 1 := by
  unfold PSt at h ⊢
  rw [e22, e24, e45, e50]
  obtain ⟨⟨h1, h2, h3, h4, h5⟩, ⟨g1, g2, g3, g4, g5⟩, ⟨f1, f2, f3⟩, f4⟩ := h
  exact ⟨⟨by omega, by omega, by omega, by omega, by omega⟩, ⟨by omega, by omega, by omega, by omega, by omega⟩, ⟨f1, by omega, by omega⟩, by omega⟩
/-- a sign pushed: `!` or `(` ahead of an operand, `&` or `|` behind one -/
theorem PSt_sign {σ σ' : ZS} {l e e' P P' v : Int} (h : PSt σ l e P 0) (hv : e' + bB v = e) (hp : P' ≤ P + bP v) (e19 : σ' 35 0 0 19 = σ 35 0 0 19 + 1 ∧ σ 35 0 0 19 < σ 35 0 0 20) (e20 : σ' 35 0 0 20 = σ 35 0 0 20) (e21 : σ' 35 0 0 21 = σ 35 0 0 21) (e22 : σ' 35 0 0 22 = σ 35 0 0 22) (e23 : σ' 35 0 0 23 = σ 35 0 0 23) (e24 : σ' 35 0 0 24 = σ 35 0 0 24 + 1) (e45 : σ' 45 0 0 = σ 45 0 0) (e50 : σ' 50 0 0 = fun q => if q = Int.toNat (σ 35 0 0 24) then v else σ 50 0 0 q) : PSt σ' l e' P' 0 := by
  unfold PSt at h ⊢
  obtain ⟨⟨h1, h2, h3, h4, h5⟩, ⟨g1, g2, g3, g4, g5⟩, ⟨f1, f2, f3⟩, f4⟩ := h
  have hn : Int.toNat (σ 35 0 0 24 + 1) = Int.toNat (σ 35 0 0 24) + 1 := by omega
  have hs : ∀ w, csum w (fun q => if q = Int.toNat (σ 35 0 0 24) then v else σ 50 0 0 q) (Int.toNat (σ 35 0 0 24) + 1) = csum w (σ 50 0 0) (Int.toNat (σ 35 0 0 24)) + w v := fun w => by
    simp only [csum]
    rw [csum_hi (Nat.le_refl _), if_pos trivial]
  rw [e22, e24, e45, e50, hn, hs, hs]
  exact ⟨⟨by omega, by omega, by omega, by omega, by omega⟩, ⟨by omega, by omega, by omega, by omega, by omega⟩, ⟨f1, by omega, by omega⟩, by omega⟩
/-- a sign taken off that is neither `&` nor `|` -/
theorem PSt_shut {σ σ' : ZS} {l P : Int} (h : PSt σ l 1 P 0) (ho : 0 < σ 35 0 0 24) (hb : ¬ (σ 50 0 0 (Int.toNat (σ 35 0 0 24 - 1)) = 38 ∨ σ 50 0 0 (Int.toNat (σ 35 0 0 24 - 1)) = 124)) (e19 : σ' 35 0 0 19 = σ 35 0 0 19) (e20 : σ' 35 0 0 20 = σ 35 0 0 20) (e21 : σ' 35 0 0 21 = σ 35 0 0 21) (e22 : σ' 35 0 0 22 = σ 35 0 0 22) (e23 : σ' 35 0 0 23 = σ 35 0 0 23) (e24 : σ' 35 0 0 24 = σ 35 0 0 24 - 1) (e45 : σ' 45 0 0 = σ 45 0 0) (e50 : σ' 50 0 0 = σ 50 0 0) : PSt σ' l 1 (P - 1) 0 := by
  have h1 := csum_top (w := bB) (f := σ 50 0 0) ho
  have h2 := csum_top (w := bP) (f := σ 50 0 0) ho
  rw [show bB (σ 50 0 0 (Int.toNat (σ 35 0 0 24 - 1))) = 0 from if_neg hb] at h1
  have h3 : bP (σ 50 0 0 (Int.toNat (σ 35 0 0 24 - 1))) ≤ 1 := by unfold bP; split <;> omega
  unfold PSt at h ⊢
  obtain ⟨⟨g1, g2, g3, g4, g5⟩, ⟨g6, g7, g8, g9, g10⟩, ⟨f1, f2, f3⟩, f4⟩ := h
  rw [e22, e24, e45, e50]
  exact ⟨⟨by omega, by omega, by omega, by omega, by omega⟩, ⟨by omega, by omega, by omega, by omega, by omega⟩, ⟨f1, by omega, by omega⟩, by omega⟩
theorem PSt_open0 {σ : ZS} {l P : Int} (h : PSt σ l 1 P 0) (hp : 0 < P) : 0 < σ 35 0 0 24 := by
  rcases Int.lt_or_le 0 (σ 35 0 0 24) with q | q
  · exact q
  · have h1 := h.2.2.2
    rw [show Int.toNat (σ 35 0 0 24) = 0 from by omega, show csum bP (σ 50 0 0) 0 = 0 from rfl] at h1
    omega
theorem PSt_e {σ : ZS} {l e e' P P' D : Int} (h : PSt σ l e P D) (he : e = e') (hP : P = P') : PSt σ l e' P' D := he ▸ hP ▸ h
theorem bB_spec (v : Int) : (v = 38 ∨ v = 124 → bB v = 1) ∧ (¬ (v = 38 ∨ v = 124) → bB v = 0) := ⟨fun h => if_pos h, fun h => if_neg h⟩
theorem bP_spec (v : Int) : (v = 40 → bP v = 1) ∧ (¬ v = 40 → bP v = 0) := ⟨fun h => if_pos h, fun h => if_neg h⟩
/-- a letter passed -/
theorem PSt_at {σ σ' : ZS} {l e P D : Int} (h : PSt σ l e P D) (e19 : σ' 35 0 0 19 = σ 35 0 0 19 + 1 ∧ σ 35 0 0 19 < σ 35 0 0 20) (e20 : σ' 35 0 0 20 = σ 35 0 0 20) (e21 : σ' 35 0 0 21 = σ 35 0 0 21) (e22 : σ' 35 0 0 22 = σ 35 0 0 22) (e23 : σ' 35 0 0 23 = σ 35 0 0 23) (e24 : σ' 35 0 0 24 = σ 35 0 0 24) (e45 : σ' 45 0 0 = σ 45 0 0) (e50 : σ' 50 0 0 = σ 50 0 0) : PSt σ' l e P D := by
  unfold PSt at h ⊢
  rw [e22, e24, e45, e50]
  obtain ⟨⟨h1, h2, h3, h4, h5⟩, ⟨g1, g2, g3, g4, g5⟩, ⟨f1, f2, f3⟩, f4⟩ := h
  exact ⟨⟨by omega, by omega, by omega, by omega, by omega⟩, ⟨by omega, by omega, by omega, by omega, by omega⟩, ⟨f1, by omega, by omega⟩, f4⟩
/-- at the start -/
theorem PSt_0 {σ : ZS} {l : Int} (e19 : σ 35 0 0 19 = 3 ∧ 3 ≤ σ 35 0 0 20 ∧ σ 35 0 0 20 ≤ 96) (e21 : 0 ≤ σ 35 0 0 21 ∧ σ 35 0 0 21 ≤ 672) (e22 : σ 35 0 0 22 = 0) (e23 : σ 35 0 0 23 = 0) (e24 : σ 35 0 0 24 = 0) : PSt σ l 0 0 0 := by
  unfold PSt
  rw [e22, e23, e24]
  exact ⟨⟨by omega, by omega, by omega, by omega, by omega⟩, ⟨by omega, by omega, by omega, by omega, by omega⟩, ⟨fun i hi => absurd hi (by simp), rfl, Int.le_refl 0⟩, Int.le_refl 0⟩
/-! laws: the place that is written, and the others -/
def Eo (f : Nat → Int) (a : Nat) (F : Nat → Int) : Prop := ∀ q, ¬ q = a → f q = F q
def Er (f : Nat → Int) (a : Nat) (F : Nat → Int) : Prop := ∀ q, ¬ (120 * a ≤ q ∧ q < 120 * a + 120) → f q = F q
def okcI (f : Nat → Int) (b n : Nat) (P : Prop) : Prop := P → okc f b n
theorem r44 {σ : ZS} (hI : Inv σ) {l : Int} (h0 : 0 ≤ l) (h1 : l ≤ 5) : 0 ≤ σ 44 0 0 l.toNat ∧ σ 44 0 0 l.toNat ≤ 120 := by
  have h := hI 44 0 0 l.toNat vd_44
  simp only [rgP] at h
  exact h.2 (by omega) (by omega)
theorem r640 {σ : ZS} (hI : Inv σ) (k : Nat) (hk : k < 3) : 0 ≤ σ 36 0 k 640 ∧ σ 36 0 k 640 ≤ 5 := by
  have h := hI 36 0 k 640 (vd_36 hk)
  simp only [rgP] at h
  omega
theorem WF_keep {σ σ' : ZS} (hI : Inv σ) (hW : WF σ) {k : Int} (hk : σ 36 0 0 640 ≤ k) (e640 : σ' 36 0 0 640 = σ 36 0 0 640) (h44 : Eo (σ' 44 0 0) (Int.toNat k) (σ 44 0 0)) (h45 : Er (σ' 45 0 0) (Int.toNat k) (σ 45 0 0)) : WF σ' := by
  intro l h0 h1
  rw [e640] at h1
  have h2 := r640 hI 0 (by omega)
  have h3 := r44 hI h0 (by omega)
  rw [h44 l.toNat (by omega)]
  exact okc_eq (fun q hq => h45 _ (by omega)) (hW l h0 h1)
theorem WF_new {σ σ' : ZS} (hI : Inv σ) (hW : WF σ) {k : Int} (hk : σ 36 0 0 640 = k) (e640 : σ' 36 0 0 640 = k + 1) (h44 : Eo (σ' 44 0 0) (Int.toNat k) (σ 44 0 0)) (h45 : Er (σ' 45 0 0) (Int.toNat k) (σ 45 0 0)) (hn : okc (σ' 45 0 0) (Int.toNat (120 * k)) (Int.toNat (σ' 44 0 0 (Int.toNat k)))) : WF σ' := by
  intro l h0 h1
  rw [e640] at h1
  by_cases hl : l = k
  · subst hl
    exact hn
  · have h2 := r640 hI 0 (by omega)
    have h3 := r44 hI h0 (by omega)
    rw [h44 l.toNat (by omega)]
    exact okc_eq (fun q hq => h45 _ (by omega)) (hW l h0 (by omega))
/-! what holds between calls -/
def NB (σ : ZS) : Prop := (0 ≤ σ 36 0 0 634 ∧ σ 36 0 0 634 ≤ 20000) ∧ (0 ≤ σ 36 0 2 634 ∧ σ 36 0 2 634 ≤ 20000)
def JL (σ : ZS) : Prop := Inv σ ∧ WF σ ∧ WK σ ∧ NB σ
def wj (t k j : Nat) : Prop := t = 44 ∨ t = 45 ∨ t = 57 ∨ t = 58 ∨ (t = 36 ∧ (k = 0 ∨ k = 2) ∧ (j = 634 ∨ j = 640))
theorem JL.fr {M : Nat → Nat → Nat → Nat → Prop} {σ σ' : ZS} (hJ : JL σ) (h : IF M σ σ') (hM : ∀ t i k j, M t i k j → ¬ wj t k j) : JL σ' := by
  have e : ∀ t i k j, wj t k j → σ' t i k j = σ t i k j := fun t i k j q => h.2 t i k j (fun m => hM t i k j m q)
  refine ⟨h.1, hJ.2.1.fr (fun j => e 44 0 0 j (Or.inl rfl)) (fun j => e 45 0 0 j (Or.inr (Or.inl rfl))) (e 36 0 0 640 (by unfold wj; omega)), hJ.2.2.1.fr (fun j => e 57 0 0 j (by unfold wj; omega)) (fun j => e 58 0 0 j (by unfold wj; omega)) (e 36 0 2 640 (by unfold wj; omega)), ?_⟩
  have h1 := hJ.2.2.2
  unfold NB at h1 ⊢
  rw [e 36 0 0 634 (by unfold wj; omega), e 36 0 2 634 (by unfold wj; omega)]
  exact h1
/-- quarters: all but NOW is in the frame -/
theorem JL.fq {M : Nat → Nat → Nat → Nat → Prop} {σ σ' : ZS} (hJ : JL σ) (h : IF M σ σ') (hM : ∀ t i k j, M t i k j → wj t k j → t = 36 ∧ k = 0 ∧ j = 634) (hn : 0 ≤ σ' 36 0 0 634 ∧ σ' 36 0 0 634 ≤ 20000) : JL σ' := by
  have e : ∀ t i k j, wj t k j → ¬ (t = 36 ∧ k = 0 ∧ j = 634) → σ' t i k j = σ t i k j := fun t i k j q q2 => h.2 t i k j (fun m => q2 (hM t i k j m q))
  refine ⟨h.1, hJ.2.1.fr (fun j => e 44 0 0 j (Or.inl rfl) (by omega)) (fun j => e 45 0 0 j (Or.inr (Or.inl rfl)) (by omega)) (e 36 0 0 640 (by unfold wj; omega) (by omega)), hJ.2.2.1.fr (fun j => e 57 0 0 j (by unfold wj; omega) (by omega)) (fun j => e 58 0 0 j (by unfold wj; omega) (by omega)) (e 36 0 2 640 (by unfold wj; omega) (by omega)), ?_⟩
  have h1 := hJ.2.2.2
  unfold NB at h1 ⊢
  rw [e 36 0 2 634 (by unfold wj; omega) (by omega)]
  exact ⟨hn, h1.2⟩
/-- what is foretold: the row of numbers is put back -/
theorem JL.fm {M : Nat → Nat → Nat → Nat → Prop} {σ σ' : ZS} (hJ : JL σ) (h : IF M σ σ') (hM : ∀ t i k j, M t i k j → wj t k j → t = 36 ∧ k = 0) (hr : ∀ j, 0 ≤ j → j < 646 → σ' 36 0 0 j = σ 36 0 0 j) : JL σ' := by
  have e : ∀ t i k j, wj t k j → ¬ (t = 36 ∧ k = 0) → σ' t i k j = σ t i k j := fun t i k j q q2 => h.2 t i k j (fun m => q2 (hM t i k j m q))
  refine ⟨h.1, hJ.2.1.fr (fun j => e 44 0 0 j (Or.inl rfl) (by omega)) (fun j => e 45 0 0 j (Or.inr (Or.inl rfl)) (by omega)) (hr 640 (by omega) (by omega)), hJ.2.2.1.fr (fun j => e 57 0 0 j (by unfold wj; omega) (by omega)) (fun j => e 58 0 0 j (by unfold wj; omega) (by omega)) (e 36 0 2 640 (by unfold wj; omega) (by omega)), ?_⟩
  have h1 := hJ.2.2.2
  unfold NB at h1 ⊢
  rw [hr 634 (by omega) (by omega), e 36 0 2 634 (by unfold wj; omega) (by omega)]
  exact h1
/-- a law read -/
theorem JL.fl {M : Nat → Nat → Nat → Nat → Prop} {σ σ' : ZS} (hJ : JL σ) (h : IF M σ σ') (hM : ∀ t i k j, M t i k j → wj t k j → t = 44 ∨ t = 45 ∨ (t = 36 ∧ k = 0 ∧ j = 640)) (hw : WF σ') : JL σ' := by
  have e : ∀ t i k j, wj t k j → ¬ (t = 44 ∨ t = 45 ∨ (t = 36 ∧ k = 0 ∧ j = 640)) → σ' t i k j = σ t i k j := fun t i k j q q2 => h.2 t i k j (fun m => q2 (hM t i k j m q))
  refine ⟨h.1, hw, hJ.2.2.1.fr (fun j => e 57 0 0 j (by unfold wj; omega) (by omega)) (fun j => e 58 0 0 j (by unfold wj; omega) (by omega)) (e 36 0 2 640 (by unfold wj; omega) (by omega)), ?_⟩
  have h1 := hJ.2.2.2
  unfold NB at h1 ⊢
  rw [e 36 0 0 634 (by unfold wj; omega) (by omega), e 36 0 2 634 (by unfold wj; omega) (by omega)]
  exact h1
theorem r57 {σ : ZS} (hI : Inv σ) : ∀ q, q < 5 → 0 ≤ σ 57 0 0 q ∧ σ 57 0 0 q ≤ 120 := by
  intro q hq
  have h := hI 57 0 0 q vd_57
  simp only [rgP] at h
  exact h.2 (by omega) (by omega)
/-- an image taken -/
theorem JL.fi {M : Nat → Nat → Nat → Nat → Prop} {σ σ' : ZS} (hJ : JL σ) (h : IF M σ σ') (hM : ∀ t i k j, M t i k j → wj t k j → t = 57 ∨ t = 58 ∨ (t = 36 ∧ k = 2)) (hr : ∀ j, 0 ≤ j → j < 646 → σ' 36 0 2 j = σ 36 0 0 j) (e57 : eqn (σ 44 0 0) (σ' 57 0 0) 5) (e58 : eqn (σ 45 0 0) (σ' 58 0 0) 600) : JL σ' := by
  have e : ∀ t i k j, wj t k j → ¬ (t = 57 ∨ t = 58 ∨ (t = 36 ∧ k = 2)) → σ' t i k j = σ t i k j := fun t i k j q q2 => h.2 t i k j (fun m => q2 (hM t i k j m q))
  refine ⟨h.1, hJ.2.1.fr (fun j => e 44 0 0 j (Or.inl rfl) (by omega)) (fun j => e 45 0 0 j (Or.inr (Or.inl rfl)) (by omega)) (e 36 0 0 640 (by unfold wj; omega) (by omega)), ?_, ?_⟩
  · exact WFg_eq hJ.2.1 (hr 640 (by omega) (by omega)) (r640 hJ.1 0 (by omega)).2 (fun q hq => by have := r44 hJ.1 (l := (q : Int)) (by omega) (by omega); simpa using this) e57 e58
  · have h1 := hJ.2.2.2
    unfold NB at h1 ⊢
    rw [hr 634 (by omega) (by omega), e 36 0 0 634 (by unfold wj; omega) (by omega)]
    exact ⟨h1.1, h1.1⟩
/-- an image put back -/
theorem JL.fb {M : Nat → Nat → Nat → Nat → Prop} {σ σ' : ZS} (hJ : JL σ) (h : IF M σ σ') (hM : ∀ t i k j, M t i k j → wj t k j → t = 44 ∨ t = 45 ∨ (t = 36 ∧ k = 0)) (hr : ∀ j, 0 ≤ j → j < 646 → σ' 36 0 0 j = σ 36 0 2 j) (e44 : eqn (σ 57 0 0) (σ' 44 0 0) 5) (e45 : eqn (σ 58 0 0) (σ' 45 0 0) 600) : JL σ' := by
  have e : ∀ t i k j, wj t k j → ¬ (t = 44 ∨ t = 45 ∨ (t = 36 ∧ k = 0)) → σ' t i k j = σ t i k j := fun t i k j q q2 => h.2 t i k j (fun m => q2 (hM t i k j m q))
  refine ⟨h.1, ?_, hJ.2.2.1.fr (fun j => e 57 0 0 j (by unfold wj; omega) (by omega)) (fun j => e 58 0 0 j (by unfold wj; omega) (by omega)) (e 36 0 2 640 (by unfold wj; omega) (by omega)), ?_⟩
  · exact WFg_eq hJ.2.2.1 (hr 640 (by omega) (by omega)) (r640 hJ.1 2 (by omega)).2 (r57 hJ.1) e44 e45
  · have h1 := hJ.2.2.2
    unfold NB at h1 ⊢
    rw [hr 634 (by omega) (by omega), e 36 0 2 634 (by unfold wj; omega) (by omega)]
    exact ⟨h1.2, h1.2⟩
