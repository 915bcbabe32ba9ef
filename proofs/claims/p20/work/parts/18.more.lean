/-! small rules for the walks that a program writes -/
theorem X_bi {n v : Int} {st : List Value} (h : (Int8.ofInt n).toInt32 = Int32.ofInt v) : xop (.bipush n) st = some (iv v :: st) := by simp only [xop, h]
theorem X_si {n v : Int} {st : List Value} (h : (Int16.ofInt n).toInt32 = Int32.ofInt v) : xop (.sipush n) st = some (iv v :: st) := by simp only [xop, h]
theorem X_ic {n : Int} {st : List Value} : xop (.iconst n) st = some (iv n :: st) := rfl
theorem X_lc {n : Fin 2} {v : Int} {st : List Value} (h : Int64.ofNat (n : Nat) = Int64.ofInt v) : xop (.lconst n) st = some (jv v :: st) := by simp only [xop, h]
theorem T_iinc {xs : Nat × (Nat → Int32)} {J : ZS → Prop} {d m pc pc' k nL : Nat} {n x : Int} {L L' : XL} {st : List Value} {Q : Option Value → ZS → Prop} {a1 a2 p : Nat} {c : Int} (hz : zc m pc = some (.iinc k n, a1, a2, c, p)) (hn : zMl m = nL) (hk : Nat.blt k nL = true) (hg : xget L k = some (iv x)) (hL : xput k (iv (x + n)) L = L') (hp' : pc + 3 = pc') (kk : TJ xs J d m pc' L' st Q) : TJ xs J d m pc L st Q := by
  refine T_st (st' := st) (L' := L') hz hn rfl rfl rfl ?_ hp' kk
  simp only [xst]
  rw [if_pos (by simpa using hk), hg]
  simp only
  rw [← Int32.ofInt_add, hL]
