/-- a switch with no case for it -/
theorem T_tso {xs : Nat × (Nat → Int32)} {J : ZS → Prop} {d m pc t a1 a2 p : Nat} {L : XL} {r : List Value} {Q : Option Value → ZS → Prop} {c x dflt lo hi : Int} {offs : Array Int} (hz : zc m pc = some (.tableswitch dflt lo hi offs, a1, a2, c, p)) (hx : -2147483648 ≤ x ∧ x ≤ 2147483647) (ho : x < lo ∨ hi < x) (ht : (pc : Int) + dflt = t) (kk : TJ xs J d m t L r Q) : TJ xs J d m pc L (iv x :: r) Q := by
  refine T_br (t := t) hz rfl rfl rfl (fun _ => rfl) ?_ kk
  simp only [xbr]
  rw [I_toInt hx.1 hx.2, if_pos ho, if_pos (by omega)]
  rw [show ((pc : Int) + dflt).toNat = t from by omega]
