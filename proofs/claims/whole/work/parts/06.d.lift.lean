/-! squares of numbers, lifting -/
def flat (n : Nat) (G : Nat → Nat → Int32) : Nat → Int32 := fun k => G (k / n) (k % n)
theorem dm_at {n y x : Nat} (hx : x < n) : (n * y + x) / n = y ∧ (n * y + x) % n = x := by
  have h0 : 0 < n := by omega
  constructor
  · rw [Nat.mul_add_div h0, Nat.div_eq_of_lt hx, Nat.add_zero]
  · rw [Nat.mul_add_mod, Nat.mod_eq_of_lt hx]
theorem flat_at {n : Nat} {G : Nat → Nat → Int32} {y x : Nat} (hx : x < n) : flat n G (n * y + x) = G y x := by
  unfold flat
  rw [(dm_at hx).1, (dm_at hx).2]
def up2 (G : Nat → Nat → Int32) (y x : Nat) (v : Int32) : Nat → Nat → Int32 := fun b a => if b = y ∧ a = x then v else G b a
theorem flat_up {n : Nat} {G : Nat → Nat → Int32} {y x : Nat} {v : Int32} (hx : x < n) : upd (flat n G) (n * y + x) v = flat n (up2 G y x v) := by
  funext k
  unfold upd flat up2
  by_cases e : k = n * y + x
  · subst e
    rw [if_pos rfl, if_pos (dm_at hx)]
  · rw [if_neg e, if_neg]
    rintro ⟨h1, h2⟩
    apply e
    rw [← h1, ← h2]
    exact (Nat.div_add_mod k n).symm
def lfD (x : Nat → Int32) (m i : Nat) : Int32 := x (2 * i + 1) - ((x (2 * i) + x (if 2 * i + 2 < m then 2 * i + 2 else m - 2)) >>> (nI 1 &&& 31))
def lfS (x : Nat → Int32) (m i : Nat) : Int32 := x (2 * i) + ((lfD x m (i - 1) + lfD x m i + nI 2) >>> (nI 2 &&& 31))
def lfR (m : Nat) (x : Nat → Int32) : Nat → Int32 := fun i => if i < m / 2 then lfS x m i else if i < m then lfD x m (i - m / 2) else x i
def drE (x : Nat → Int32) (m i : Nat) : Int32 := x i - ((x (m / 2 + (i - 1)) + x (m / 2 + i) + nI 2) >>> (nI 2 &&& 31))
def drO (x : Nat → Int32) (m i : Nat) : Int32 := x (m / 2 + i) + ((drE x m i + drE x m (if 2 * i + 2 < m then i + 1 else m / 2 - 1)) >>> (nI 1 &&& 31))
def drR (m : Nat) (x : Nat → Int32) : Nat → Int32 := fun j => if j < m then (if j % 2 = 0 then drE x m (j / 2) else drO x m (j / 2)) else x j
/-- a line of a square: its places from, from + step .. -/
def lnU (fr st m : Nat) (f F : Nat → Int32) : Nat → Int32 := fun k => if fr ≤ k ∧ (k - fr) % st = 0 ∧ (k - fr) / st < m then F ((k - fr) / st) else f k
theorem lnU_at {fr st m i : Nat} {f F : Nat → Int32} (hs : 0 < st) (hi : i < m) : lnU fr st m f F (fr + i * st) = F i := by
  unfold lnU
  have e : fr + i * st - fr = i * st := by omega
  rw [e, Nat.mul_mod_left, Nat.mul_div_cancel _ hs, if_pos ⟨by omega, rfl, hi⟩]
/-- the first j rows, the first j columns are lifted (R := lfR m), or undone (R := drR m) -/
def rowsU (R : (Nat → Int32) → Nat → Int32) (j : Nat) (G : Nat → Nat → Int32) : Nat → Nat → Int32 := fun y x => if y < j then R (G y) x else G y x
def colsU (R : (Nat → Int32) → Nat → Int32) (j : Nat) (G : Nat → Nat → Int32) : Nat → Nat → Int32 := fun y x => if x < j then R (fun i => G i x) y else G y x
def levL (m : Nat) (G : Nat → Nat → Int32) : Nat → Nat → Int32 := colsU (lfR m) m (rowsU (lfR m) m G)
def levD (m : Nat) (G : Nat → Nat → Int32) : Nat → Nat → Int32 := rowsU (drR m) m (colsU (drR m) m G)
def liftN (n : Nat) (G : Nat → Nat → Int32) : Nat → Nat → Int32 := if n = 8 then levL 2 (levL 4 (levL 8 G)) else levL 2 (levL 4 G)
def undoN (n : Nat) (G : Nat → Nat → Int32) : Nat → Nat → Int32 := if n = 8 then levD 8 (levD 4 (levD 2 G)) else levD 4 (levD 2 G)
/-- lines leave what lies behind m -/
def keepsM (R : (Nat → Int32) → Nat → Int32) (m : Nat) : Prop := (∀ x i, m ≤ i → R x i = x i) ∧ ∀ x x' i, (∀ j, j < m → x j = x' j) → i < m → R x i = R x' i
theorem lfR_keeps {m : Nat} (hm : m % 2 = 0) (h2 : 2 ≤ m) : keepsM (lfR m) m := by
  refine ⟨fun x i h => ?_, fun x x' i h hi => ?_⟩
  · unfold lfR
    rw [if_neg (by omega), if_neg (by omega)]
  · have hd : ∀ j, j < m / 2 → lfD x m j = lfD x' m j := by
      intro j hj
      unfold lfD
      rw [h (2 * j + 1) (by omega), h (2 * j) (by omega)]
      split
      · rw [h (2 * j + 2) (by omega)]
      · rw [h (m - 2) (by omega)]
    unfold lfR
    by_cases h1 : i < m / 2
    · rw [if_pos h1, if_pos h1]
      unfold lfS
      rw [h (2 * i) (by omega), hd i h1, hd (i - 1) (by omega)]
    · rw [if_neg h1, if_neg h1, if_pos hi, if_pos hi, hd _ (by omega)]
theorem drR_keeps {m : Nat} (hm : m % 2 = 0) (h2 : 2 ≤ m) : keepsM (drR m) m := by
  refine ⟨fun x i h => ?_, fun x x' i h hi => ?_⟩
  · unfold drR
    rw [if_neg (by omega)]
  · have he : ∀ j, j < m / 2 → drE x m j = drE x' m j := by
      intro j hj
      unfold drE
      rw [h j (by omega), h (m / 2 + (j - 1)) (by omega), h (m / 2 + j) (by omega)]
    unfold drR
    rw [if_pos hi, if_pos hi]
    split
    · exact he _ (by omega)
    · unfold drO
      rw [h (m / 2 + i / 2) (by omega), he (i / 2) (by omega)]
      split
      · rw [he (i / 2 + 1) (by omega)]
      · rw [he (m / 2 - 1) (by omega)]
