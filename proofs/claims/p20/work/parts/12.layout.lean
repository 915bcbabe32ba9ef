/-! where the cells lie behind both constructors: a cell is a tag, a city or 0, a number of its kind; tables by program -/
-- 0 WC, 1 City, 2 Lagoon, 3 depth, 4 level, 5 wall, 6 ran, 7 bridge, 8 closed, 9 narrow, 10 levelBefore, 11 Mouths, 12 mcells, 13 mshut, 14 laws, 15 houses, 16 boats, 17 Tide, 18 heights, 19 Chart, 20 beside, 21 fields, 22 crossed, 23 Law, 24 lcode, 25 House, 26 Boat, 27 shelves, 28 refusals, 29 Reader, 30 draft, 31 dcode, 32 letters, 33 Shelf, 34 elements, 35 Model, 36 S, 37 M_shelf, 38 M_sort, 39 M_size, 40 M_shown, 41 M_cells, 42 M_carried, 43 M_lawMouth, 44 M_lawCode, 45 M_code, 46 M_field, 47 M_sign, 48 M_number, 49 M_refused, 50 M_ops, 51 M_worths, 52 M_far, 53 M_queue, 54 M_flow, 55 M_went, 56 M_imageMouth, 57 M_imageCode, 58 M_imageProgram, 59 M_imageField, 60 M_imageSign, 61 M_imageNumber
/-- kind, first place, stride and number of cities, stride and number of its kind, length -/
def tTab : List (Nat × Nat × Nat × Nat × Nat × Nat × Nat) := [(10, 0, 0, 1, 0, 1, 8), (2, 1, 52, 3, 0, 1, 20), (4, 2, 52, 3, 0, 1, 8), (12, 3, 52, 3, 0, 1, 25), (12, 4, 52, 3, 0, 1, 25), (12, 5, 52, 3, 0, 1, 25), (12, 6, 52, 3, 0, 1, 25), (12, 7, 52, 3, 0, 1, 40), (14, 8, 52, 3, 0, 1, 40), (14, 9, 52, 3, 0, 1, 40), (12, 10, 52, 3, 0, 1, 25), (7, 11, 52, 3, 0, 1, 3), (12, 12, 52, 3, 0, 1, 3), (14, 13, 52, 3, 0, 1, 3), (17, 14, 52, 3, 0, 1, 5), (16, 15, 52, 3, 0, 1, 12), (15, 16, 52, 3, 0, 1, 6), (9, 17, 52, 3, 2, 2, 2), (12, 18, 52, 3, 2, 2, 96), (1, 21, 52, 3, 0, 1, 1), (12, 22, 52, 3, 0, 1, 25), (12, 23, 52, 3, 0, 1, 6), (14, 24, 52, 3, 0, 1, 40), (5, 25, 52, 3, 2, 5, 4), (12, 26, 52, 3, 2, 5, 96), (3, 35, 52, 3, 1, 12, 10), (0, 47, 52, 3, 1, 6, 10), (18, 157, 0, 1, 0, 1, 8), (12, 158, 0, 1, 0, 1, 8), (6, 159, 0, 1, 0, 1, 4), (5, 160, 0, 1, 0, 1, 4), (12, 161, 0, 1, 0, 1, 96), (12, 162, 0, 1, 0, 1, 96), (8, 163, 0, 1, 2, 8, 5), (13, 164, 0, 1, 2, 8, 96), (11, 179, 0, 1, 0, 1, 40), (12, 180, 0, 1, 1, 3, 646), (12, 183, 0, 1, 0, 1, 8), (12, 184, 0, 1, 0, 1, 8), (12, 185, 0, 1, 0, 1, 8), (12, 186, 0, 1, 0, 1, 8), (13, 187, 0, 1, 0, 1, 768), (13, 188, 0, 1, 0, 1, 96), (12, 189, 0, 1, 0, 1, 6), (12, 190, 0, 1, 0, 1, 6), (12, 191, 0, 1, 0, 1, 720), (12, 192, 0, 1, 0, 1, 300), (12, 193, 0, 1, 0, 1, 300), (12, 194, 0, 1, 0, 1, 300), (12, 195, 0, 1, 0, 1, 8), (12, 196, 0, 1, 0, 1, 120), (12, 197, 0, 1, 0, 1, 60), (12, 198, 0, 1, 0, 1, 25), (12, 199, 0, 1, 0, 1, 25), (12, 200, 0, 1, 0, 1, 25), (12, 201, 0, 1, 0, 1, 50), (12, 202, 0, 1, 0, 1, 5), (12, 203, 0, 1, 0, 1, 5), (12, 204, 0, 1, 0, 1, 600), (12, 205, 0, 1, 0, 1, 250), (12, 206, 0, 1, 0, 1, 250), (12, 207, 0, 1, 0, 1, 250)]
def rfT : List (List (Option (Nat × Nat × Nat))) := [[some (1, 0, 0), some (1, 1, 0), some (1, 2, 0), none, some (27, 0, 0), some (28, 0, 0), some (29, 0, 0), none], [some (2, 9, 0), some (11, 9, 0), some (14, 9, 0), some (15, 9, 0), some (16, 9, 0), none, none, none, some (17, 9, 0), some (17, 9, 1), none, none, none, none, none, none, none, some (19, 9, 0), some (21, 9, 0), some (22, 9, 0)], [some (3, 9, 0), some (4, 9, 0), some (5, 9, 0), some (6, 9, 0), some (7, 9, 0), some (8, 9, 0), some (9, 9, 0), some (10, 9, 0)], [], [], [], [], [], [], [], [], [none, some (12, 9, 0), some (13, 9, 0)], [], [], [some (23, 9, 98), some (23, 9, 98), some (23, 9, 98), some (23, 9, 98), some (23, 9, 98)], [some (25, 9, 98), some (25, 9, 98), some (25, 9, 98), some (25, 9, 98), some (25, 9, 98), some (25, 9, 98), some (25, 9, 98), some (25, 9, 98), some (25, 9, 98), some (25, 9, 98), some (25, 9, 98), some (25, 9, 98)], [some (26, 9, 98), some (26, 9, 98), some (26, 9, 98), some (26, 9, 98), some (26, 9, 98), some (26, 9, 98)], [none, some (18, 9, 99)], [], [some (20, 9, 0)], [], [], [], [none, none, none, some (24, 9, 99)], [], [], [], [some (33, 0, 98), some (33, 0, 98), some (33, 0, 98), some (33, 0, 98), some (33, 0, 98), some (33, 0, 98), some (33, 0, 98), some (33, 0, 98)], [], [some (30, 0, 0), some (32, 0, 0), none, none], [none, none, none, some (31, 0, 0)], [], [], [none, none, none, none, some (34, 0, 99)], [], [some (36, 0, 0), some (36, 0, 1), some (36, 0, 2), none, some (37, 0, 0), some (38, 0, 0), some (39, 0, 0), some (40, 0, 0), some (41, 0, 0), some (42, 0, 0), some (43, 0, 0), some (44, 0, 0), some (45, 0, 0), some (46, 0, 0), some (47, 0, 0), some (48, 0, 0), none, some (49, 0, 0), some (50, 0, 0), none, none, none, none, none, none, none, some (51, 0, 0), some (52, 0, 0), some (53, 0, 0), some (54, 0, 0), some (55, 0, 0), none, none, none, some (56, 0, 0), some (57, 0, 0), some (58, 0, 0), some (59, 0, 0), some (60, 0, 0), some (61, 0, 0)], [], [], [], [], [], [], [], [], [], [], [], [], [], [], [], [], [], [], [], [], [], [], [], [], [], []]
def locT : List (Nat × Nat × Nat) := [(0, 0, 0), (1, 0, 0), (2, 0, 0), (3, 0, 0), (4, 0, 0), (5, 0, 0), (6, 0, 0), (7, 0, 0), (8, 0, 0), (9, 0, 0), (10, 0, 0), (11, 0, 0), (12, 0, 0), (13, 0, 0), (14, 0, 0), (15, 0, 0), (16, 0, 0), (17, 0, 0), (18, 0, 0), (17, 0, 1), (18, 0, 1), (19, 0, 0), (20, 0, 0), (21, 0, 0), (22, 0, 0), (23, 0, 0), (24, 0, 0), (23, 0, 1), (24, 0, 1), (23, 0, 2), (24, 0, 2), (23, 0, 3), (24, 0, 3), (23, 0, 4), (24, 0, 4), (25, 0, 0), (25, 0, 1), (25, 0, 2), (25, 0, 3), (25, 0, 4), (25, 0, 5), (25, 0, 6), (25, 0, 7), (25, 0, 8), (25, 0, 9), (25, 0, 10), (25, 0, 11), (26, 0, 0), (26, 0, 1), (26, 0, 2), (26, 0, 3), (26, 0, 4), (26, 0, 5), (1, 1, 0), (2, 1, 0), (3, 1, 0), (4, 1, 0), (5, 1, 0), (6, 1, 0), (7, 1, 0), (8, 1, 0), (9, 1, 0), (10, 1, 0), (11, 1, 0), (12, 1, 0), (13, 1, 0), (14, 1, 0), (15, 1, 0), (16, 1, 0), (17, 1, 0), (18, 1, 0), (17, 1, 1), (18, 1, 1), (19, 1, 0), (20, 1, 0), (21, 1, 0), (22, 1, 0), (23, 1, 0), (24, 1, 0), (23, 1, 1), (24, 1, 1), (23, 1, 2), (24, 1, 2), (23, 1, 3), (24, 1, 3), (23, 1, 4), (24, 1, 4), (25, 1, 0), (25, 1, 1), (25, 1, 2), (25, 1, 3), (25, 1, 4), (25, 1, 5), (25, 1, 6), (25, 1, 7), (25, 1, 8), (25, 1, 9), (25, 1, 10), (25, 1, 11), (26, 1, 0), (26, 1, 1), (26, 1, 2), (26, 1, 3), (26, 1, 4), (26, 1, 5), (1, 2, 0), (2, 2, 0), (3, 2, 0), (4, 2, 0), (5, 2, 0), (6, 2, 0), (7, 2, 0), (8, 2, 0), (9, 2, 0), (10, 2, 0), (11, 2, 0), (12, 2, 0), (13, 2, 0), (14, 2, 0), (15, 2, 0), (16, 2, 0), (17, 2, 0), (18, 2, 0), (17, 2, 1), (18, 2, 1), (19, 2, 0), (20, 2, 0), (21, 2, 0), (22, 2, 0), (23, 2, 0), (24, 2, 0), (23, 2, 1), (24, 2, 1), (23, 2, 2), (24, 2, 2), (23, 2, 3), (24, 2, 3), (23, 2, 4), (24, 2, 4), (25, 2, 0), (25, 2, 1), (25, 2, 2), (25, 2, 3), (25, 2, 4), (25, 2, 5), (25, 2, 6), (25, 2, 7), (25, 2, 8), (25, 2, 9), (25, 2, 10), (25, 2, 11), (26, 2, 0), (26, 2, 1), (26, 2, 2), (26, 2, 3), (26, 2, 4), (26, 2, 5), (27, 0, 0), (28, 0, 0), (29, 0, 0), (30, 0, 0), (31, 0, 0), (32, 0, 0), (33, 0, 0), (34, 0, 0), (33, 0, 1), (34, 0, 1), (33, 0, 2), (34, 0, 2), (33, 0, 3), (34, 0, 3), (33, 0, 4), (34, 0, 4), (33, 0, 5), (34, 0, 5), (33, 0, 6), (34, 0, 6), (33, 0, 7), (34, 0, 7), (35, 0, 0), (36, 0, 0), (36, 0, 1), (36, 0, 2), (37, 0, 0), (38, 0, 0), (39, 0, 0), (40, 0, 0), (41, 0, 0), (42, 0, 0), (43, 0, 0), (44, 0, 0), (45, 0, 0), (46, 0, 0), (47, 0, 0), (48, 0, 0), (49, 0, 0), (50, 0, 0), (51, 0, 0), (52, 0, 0), (53, 0, 0), (54, 0, 0), (55, 0, 0), (56, 0, 0), (57, 0, 0), (58, 0, 0), (59, 0, 0), (60, 0, 0), (61, 0, 0)]
abbrev zNC : Nat := 208
abbrev zNT : Nat := 62
abbrev ZS : Type := Nat → Nat → Nat → Nat → Int
def tRow (t : Nat) : Nat × Nat × Nat × Nat × Nat × Nat × Nat := tTab.getD t (0, 0, 0, 0, 0, 0, 0)
abbrev kd (t : Nat) : Nat := (tRow t).1
abbrev tni (t : Nat) : Nat := (tRow t).2.2.2.1
abbrev tnk (t : Nat) : Nat := (tRow t).2.2.2.2.2.1
abbrev tln (t : Nat) : Nat := (tRow t).2.2.2.2.2.2
def ad (t i k : Nat) : Nat := (tRow t).2.1 + (tRow t).2.2.1 * i + (tRow t).2.2.2.2.1 * k
def vd (t i k : Nat) : Prop := i < tni t ∧ k < tnk t
def rfO (t j : Nat) : Option (Nat × Nat × Nat) := ((rfT.getD t [])[j]?).join
def ixi (im i : Nat) : Nat := if im = 9 then i else im
def ixk (km k j : Nat) : Nat := if km = 99 then k else if km = 98 then j else km
def rfx (t i k j : Nat) : Option (Nat × Nat × Nat) := match rfO t j with
  | some (t', im, km) => some (t', ixi im i, ixk km k j)
  | none => none
abbrev iv (x : Int) : Value := .int (Int32.ofInt x)
abbrev jv (x : Int) : Value := .long (Int64.ofInt x)
abbrev av (t i k : Nat) : Value := .ref (ad t i k + 1)
/-- what a place holds -/
def sv (σ : ZS) (t i k j : Nat) : Value := match rfx t i k j with
  | some (t', i', k') => av t' i' k'
  | none => if kd t = 13 then jv (σ t i k j) else iv (σ t i k j)
def loc (n : Nat) : Nat × Nat × Nat := locT.getD n (0, 0, 0)
def cel (σ : ZS) (q : Nat × Nat × Nat) : XC := (kd q.1, tln q.1, sv σ q.1 q.2.1 q.2.2)
def hp (σ : ZS) : XH := (List.range zNC).map (fun n => cel σ (loc n))
theorem loc_chk : (List.range zNT).all (fun t => (List.range (tni t)).all (fun i => (List.range (tnk t)).all (fun k => decide (loc (ad t i k) = (t, i, k)) && decide (ad t i k < zNC)))) = true := by decide +kernel
theorem ad_chk : (List.range zNC).all (fun n => decide ((loc n).2.1 < tni (loc n).1) && decide ((loc n).2.2 < tnk (loc n).1) && decide (ad (loc n).1 (loc n).2.1 (loc n).2.2 = n)) = true := by decide +kernel
theorem loc_ad {t i k : Nat} (h : vd t i k) : loc (ad t i k) = (t, i, k) ∧ ad t i k < zNC := by
  have ht : t < zNT := by
    rcases Nat.lt_or_ge t zNT with h1 | h1
    · exact h1
    · exfalso
      have h2 : tRow t = (0, 0, 0, 0, 0, 0, 0) := by
        unfold tRow
        rw [List.getD_eq_getElem?_getD, List.getElem?_eq_none (by exact h1)]
        rfl
      have h3 := h.1
      simp only [tni, h2] at h3
      exact absurd h3 (Nat.not_lt_zero _)
  have h1 := List.all_eq_true.mp (List.all_eq_true.mp (List.all_eq_true.mp loc_chk t (List.mem_range.mpr ht)) i (List.mem_range.mpr h.1)) k (List.mem_range.mpr h.2)
  simp only [Bool.and_eq_true, decide_eq_true_eq] at h1
  exact h1
theorem ad_loc {n : Nat} (h : n < zNC) : vd (loc n).1 (loc n).2.1 (loc n).2.2 ∧ ad (loc n).1 (loc n).2.1 (loc n).2.2 = n := by
  have h1 := List.all_eq_true.mp ad_chk n (List.mem_range.mpr h)
  simp only [Bool.and_eq_true, decide_eq_true_eq] at h1
  exact ⟨⟨h1.1.1, h1.1.2⟩, h1.2⟩
theorem hp_get {t i k : Nat} (h : vd t i k) (σ : ZS) : (hp σ)[ad t i k]? = some (kd t, tln t, sv σ t i k) := by
  obtain ⟨h1, h2⟩ := loc_ad h
  unfold hp
  rw [List.getElem?_map, List.getElem?_range h2, Option.map_some, h1]
  rfl
theorem hp_set {t i k : Nat} {σ σ' : ZS} {f : Nat → Value} (h : vd t i k) (hf : ∀ j, f j = sv σ' t i k j) (ho : ∀ t' i' k', ¬ (t' = t ∧ i' = i ∧ k' = k) → σ' t' i' k' = σ t' i' k') : (hp σ).set (ad t i k) (kd t, tln t, f) = hp σ' := by
  obtain ⟨h1, h2⟩ := loc_ad h
  apply List.ext_getElem?
  intro n
  rw [List.getElem?_set]
  unfold hp
  simp only [List.length_map, List.length_range, List.getElem?_map]
  split
  · rename_i hn
    subst hn
    try rw [if_pos h2]
    rw [List.getElem?_range h2, Option.map_some, h1]
    exact congrArg some (congrArg (fun z => (kd t, tln t, z)) (funext hf))
  · rename_i hn
    by_cases hl : n < zNC
    · rw [List.getElem?_range hl, Option.map_some, Option.map_some]
      obtain ⟨g1, g2⟩ := ad_loc hl
      have hne : ¬ ((loc n).1 = t ∧ (loc n).2.1 = i ∧ (loc n).2.2 = k) := by
        rintro ⟨e1, e2, e3⟩
        rw [e1, e2, e3] at g2
        exact hn g2
      have h3 := ho _ _ _ hne
      refine congrArg some (congrArg (fun z => (kd (loc n).1, tln (loc n).1, z)) (funext fun j => ?_))
      unfold sv
      rw [h3]
    · have : (List.range zNC)[n]? = none := List.getElem?_eq_none (by simpa using hl)
      rw [this]
      rfl
def up (σ : ZS) (t i k j : Nat) (v : Int) : ZS := fun t' i' k' j' => if t' = t ∧ i' = i ∧ k' = k ∧ j' = j then v else σ t' i' k' j'
def upr (σ : ZS) (t i k : Nat) (f : Nat → Int) : ZS := fun t' i' k' j' => if t' = t ∧ i' = i ∧ k' = k then f j' else σ t' i' k' j'
theorem up_oth {σ : ZS} {t i k j : Nat} {v : Int} : ∀ t' i' k', ¬ (t' = t ∧ i' = i ∧ k' = k) → up σ t i k j v t' i' k' = σ t' i' k' := by
  intro t' i' k' h
  funext j'
  unfold up
  rw [if_neg (fun q => h ⟨q.1, q.2.1, q.2.2.1⟩)]
theorem upr_oth {σ : ZS} {t i k : Nat} {f : Nat → Int} : ∀ t' i' k', ¬ (t' = t ∧ i' = i ∧ k' = k) → upr σ t i k f t' i' k' = σ t' i' k' := by
  intro t' i' k' h
  funext j'
  unfold upr
  rw [if_neg h]
theorem up_ne {σ : ZS} {t i k j t' i' k' j' : Nat} {v : Int} (h : ¬ (t' = t ∧ i' = i ∧ k' = k ∧ j' = j)) : up σ t i k j v t' i' k' j' = σ t' i' k' j' := if_neg h
theorem up_eq {σ : ZS} {t i k j : Nat} {v : Int} : up σ t i k j v t i k j = v := if_pos ⟨rfl, rfl, rfl, rfl⟩
/-! ints -/
theorem I_toInt {x : Int} (h1 : -2147483648 ≤ x) (h2 : x ≤ 2147483647) : (Int32.ofInt x).toInt = x := Int32.toInt_ofInt_of_le (by simpa using h1) (by omega)
theorem I_of (w : Int32) : Int32.ofInt w.toInt = w := Int32.ofInt_toInt w
theorem J_of (w : Int64) : Int64.ofInt w.toInt = w := Int64.ofInt_toInt w
theorem I_lt {x y : Int} (hx : -2147483648 ≤ x ∧ x ≤ 2147483647) (hy : -2147483648 ≤ y ∧ y ≤ 2147483647) : Int32.ofInt x < Int32.ofInt y ↔ x < y := by
  rw [Int32.lt_iff_toInt_lt, I_toInt hx.1 hx.2, I_toInt hy.1 hy.2]
theorem I_le {x y : Int} (hx : -2147483648 ≤ x ∧ x ≤ 2147483647) (hy : -2147483648 ≤ y ∧ y ≤ 2147483647) : Int32.ofInt x ≤ Int32.ofInt y ↔ x ≤ y := by
  rw [Int32.le_iff_toInt_le, I_toInt hx.1 hx.2, I_toInt hy.1 hy.2]
theorem I_eq {x y : Int} (hx : -2147483648 ≤ x ∧ x ≤ 2147483647) (hy : -2147483648 ≤ y ∧ y ≤ 2147483647) : Int32.ofInt x = Int32.ofInt y ↔ x = y := by
  rw [← Int32.toInt_inj, I_toInt hx.1 hx.2, I_toInt hy.1 hy.2]
theorem I_idx {x : Int} {n : Nat} (h0 : 0 ≤ x) (h1 : x < n) (h2 : x ≤ 2147483647) : ¬ (Int32.ofInt x < 0 ∨ n ≤ (Int32.ofInt x).toNatClampNeg) ∧ (Int32.ofInt x).toNatClampNeg = x.toNat := by
  have e1 : (Int32.ofInt x).toInt = x := I_toInt (by omega) h2
  have e2 : (Int32.ofInt x).toNatClampNeg = x.toNat := by
    show (Int32.ofInt x).toInt.toNat = x.toNat
    rw [e1]
  refine ⟨?_, e2⟩
  rw [e2, Int32.lt_iff_toInt_lt, e1]
  have : (0 : Int32).toInt = 0 := rfl
  omega
theorem I_div {x y : Int} (hx : 0 ≤ x ∧ x ≤ 2147483647) (hy : 0 < y ∧ y ≤ 2147483647) : Int32.ofInt x / Int32.ofInt y = Int32.ofInt (x / y) := by
  have h1 : 0 ≤ x / y := Int.ediv_nonneg hx.1 (by omega)
  have h2 : x / y ≤ x := Int.ediv_le_self _ hx.1
  rw [← Int32.toInt_inj, Int32.toInt_div, I_toInt (by omega) hx.2, I_toInt (by omega) hy.2, I_toInt (by omega) (by omega), Int.tdiv_eq_ediv_of_nonneg hx.1]
  rw [Int.bmod_eq_of_le (by omega) (by omega)]
theorem I_rem {x y : Int} (hx : 0 ≤ x ∧ x ≤ 2147483647) (hy : 0 < y ∧ y ≤ 2147483647) : Int32.ofInt x - Int32.ofInt x / Int32.ofInt y * Int32.ofInt y = Int32.ofInt (x % y) := by
  rw [I_div hx hy, ← Int32.ofInt_mul, ← Int32.ofInt_sub]
  congr 1
  have := Int.mul_ediv_add_emod x y
  rw [Int.mul_comm] at this
  omega
theorem I_ne0 {y : Int} (hy : 0 < y ∧ y ≤ 2147483647) : ¬ Int32.ofInt y = 0 := by
  intro h
  have h1 := congrArg Int32.toInt h
  rw [I_toInt (by omega) hy.2] at h1
  have : (0 : Int32).toInt = 0 := rfl
  omega
/-! more steps, more depth, the same end -/
def xSub (c1 c2 : XF) : Prop := ∀ m a h r, c1 m a h = some r → c2 m a h = some r
theorem xcall_sub {c1 c2 : XF} (hs : xSub c1 c2) {en : zE} {st : List Value} {h : XH} {r : List Value × XH} (ho : xcall c1 en st h = some r) : xcall c2 en st h = some r := by
  simp only [xcall] at ho ⊢
  split at ho
  · rename_i hc
    rw [if_pos hc]
    split at ho
    · rename_i v h1 hcl
      rw [hs _ _ _ _ hcl]
      exact ho
    · cases ho
  · cases ho
theorem xone_sub {xs : Nat × (Nat → Int32)} {c1 c2 : XF} (hs : xSub c1 c2) {m pc : Nat} {L : XL} {st : List Value} {h : XH} {r : XS ⊕ XR} (ho : xone xs c1 m pc L st h = some r) : xone xs c2 m pc L st h = some r := by
  unfold xone at ho ⊢
  cases hen : zc m pc with
  | none => rw [hen] at ho; cases ho
  | some en =>
    rw [hen] at ho
    dsimp only at ho ⊢
    split at ho
    · rename_i hinv
      rw [if_pos hinv]
      split at ho
      · rename_i h5
        rw [if_pos h5]
        split at ho
        · rename_i st' h' hx2
          rw [xcall_sub hs hx2]
          exact ho
        · cases ho
      · rename_i h5
        rw [if_neg h5]
        exact ho
    · rename_i hinv
      rw [if_neg hinv]
      exact ho
theorem xgo_sub {xs : Nat × (Nat → Int32)} {c1 c2 : XF} (hs : xSub c1 c2) {m : Nat} : ∀ {n n' pc : Nat} {L : XL} {st : List Value} {h : XH} {r : XR}, n ≤ n' → xgo xs c1 m n pc L st h = some r → xgo xs c2 m n' pc L st h = some r := by
  intro n
  induction n with
  | zero => intro n' pc L st h r _ q; cases q
  | succ n ih =>
    intro n' pc L st h r hn q
    obtain ⟨n', rfl⟩ : ∃ k, n' = k + 1 := ⟨n' - 1, by omega⟩
    simp only [xgo] at q ⊢
    split at q
    · rename_i s' hs'
      rw [xone_sub hs hs']
      exact ih (by omega) q
    · rename_i r' hs'
      rw [xone_sub hs hs']
      exact q
    · cases q
theorem xrun_sub {xs : Nat × (Nat → Int32)} {n n' : Nat} (hn : n ≤ n') : ∀ {d d' : Nat}, d ≤ d' → xSub (xrun xs n d) (xrun xs n' d') := by
  intro d
  induction d with
  | zero => intro d' _ m a h r q; cases q
  | succ d ih =>
    intro d' hd m a h r q
    obtain ⟨d', rfl⟩ : ∃ k, d' = k + 1 := ⟨d' - 1, by omega⟩
    simp only [xrun] at q ⊢
    split at q
    · rename_i hl
      rw [if_pos hl]
      exact xgo_sub (ih (by omega)) hn q
    · cases q
