/-! the document's bytes as a list; a code's bytes behind it -/
def rowOf (l : List Nat) : Nat → Int32 := fun k => nI (l.getD k 0)
theorem getD_lt {l : List Nat} {k : Nat} (h : k < l.length) : ∃ v, l[k]? = some v ∧ l.getD k 0 = v := ⟨l[k], by simp [h], by simp [List.getD_eq_getElem?_getD, h]⟩
theorem getD_ge {l : List Nat} {k : Nat} (h : l.length ≤ k) : l.getD k 0 = 0 := by
  rw [List.getD_eq_getElem?_getD, List.getElem?_eq_none h]
  rfl
theorem getD_app1 {l l' : List Nat} {k : Nat} (h : k < l.length) : (l ++ l').getD k 0 = l.getD k 0 := by
  rw [List.getD_eq_getElem?_getD, List.getD_eq_getElem?_getD, List.getElem?_append_left h]
theorem getD_app2 {l l' : List Nat} {k : Nat} (h : l.length ≤ k) : (l ++ l').getD k 0 = l'.getD (k - l.length) 0 := by
  rw [List.getD_eq_getElem?_getD, List.getD_eq_getElem?_getD, List.getElem?_append_right h]
theorem rowOf_app (l : List Nat) (v : Nat) : upd (rowOf l) l.length (nI v) = rowOf (l ++ [v]) := by
  funext k
  unfold upd rowOf
  by_cases e : k = l.length
  · subst e
    rw [if_pos rfl, getD_app2 (Nat.le_refl _)]
    simp
  · rw [if_neg e]
    by_cases h : k < l.length
    · rw [getD_app1 h]
    · rw [getD_ge (by omega), getD_ge (by simp; omega)]
theorem rowOf_set {l : List Nat} {i : Nat} (v : Nat) (hi : i < l.length) : upd (rowOf l) i (nI v) = rowOf (l.set i v) := by
  funext k
  unfold upd rowOf
  by_cases e : k = i
  · subst e
    rw [if_pos rfl, List.getD_eq_getElem?_getD, List.getElem?_set_self hi]
    rfl
  · rw [if_neg e, List.getD_eq_getElem?_getD, List.getD_eq_getElem?_getD, List.getElem?_set_ne (Ne.symm e)]
def rowW (l : List Nat) (v sc : Nat) : Nat → Int32 := fun k => if k < l.length then nI (l.getD k 0) else nI (cbyte v sc (k - l.length))
def cbytes (v sc : Nat) : List Nat := (List.range ((16 + sc + 7) / 8)).map (cbyte v sc)
theorem cbyte_0 (sc j : Nat) : cbyte 0 sc j = 0 := by simp [cbyte, FF]
theorem rowW_0 (l : List Nat) (sc : Nat) : rowW l 0 sc = rowOf l := by
  funext k
  unfold rowW rowOf
  split
  · rfl
  · rw [cbyte_0, getD_ge (by omega)]
theorem rowW_end (l : List Nat) (v sc : Nat) : rowW l v sc = rowOf (l ++ cbytes v sc) := by
  funext k
  unfold rowW rowOf
  split
  · rename_i h
    rw [getD_app1 h]
  · rename_i h
    rw [getD_app2 (by omega)]
    generalize k - l.length = j
    congr 1
    by_cases hj : j < (16 + sc + 7) / 8
    · rw [List.getD_eq_getElem?_getD]
      simp [cbytes, hj]
    · rw [getD_ge (by simp [cbytes]; omega), cbyte_hi (by omega)]
theorem cbyte_scale (v sc n j : Nat) : cbyte (v * 2 ^ n) (sc + n) j = cbyte v sc j := by
  unfold cbyte
  rw [FF_scale]
theorem rowW_scale (l : List Nat) (v sc n : Nat) : rowW l (v * 2 ^ n) (sc + n) = rowW l v sc := by
  funext k
  unfold rowW
  rw [cbyte_scale]
theorem FF_256 (v sc m : Nat) : FF v sc (m + 8) / 256 = FF v sc m := by
  unfold FF
  rw [Nat.div_div_eq_div_mul, Nat.pow_add, ← Nat.mul_assoc]
  rw [Nat.mul_div_mul_right _ _ (by decide)]
theorem FF_mono {v v' : Nat} (h : v ≤ v') (sc m : Nat) : FF v sc m ≤ FF v' sc m := Nat.div_le_div_right (Nat.mul_le_mul_right _ h)
theorem FF_add {v s sc m : Nat} (h : 16 + sc ≤ m) : FF (v + s) sc m = FF v sc m + s * 2 ^ (m - (16 + sc)) := by
  rw [FF_hi h, FF_hi h, Nat.add_mul]
/-- the row while s is added: bytes below j aren't reached yet -/
def rowM (l : List Nat) (v s sc j : Nat) : Nat → Int32 := fun k => if k < l.length then nI (l.getD k 0) else if k - l.length < j then nI (cbyte v sc (k - l.length)) else nI (cbyte (v + s) sc (k - l.length))
theorem rowM_start (l : List Nat) (v s sc : Nat) : rowM l v s sc (sc / 8 + 3) = rowW l v sc := by
  funext k
  unfold rowM rowW
  split
  · rfl
  · split
    · rfl
    · rw [cbyte_hi (by omega), cbyte_hi (by omega)]
theorem rowM_0 (l : List Nat) (v s sc : Nat) : rowM l v s sc 0 = rowW l (v + s) sc := by
  funext k
  unfold rowM rowW
  split
  · rfl
  · rw [if_neg (by omega)]
theorem rowM_at (l : List Nat) (v s sc j : Nat) : rowM l v s sc (j + 1) (l.length + j) = nI (cbyte v sc j) := by
  unfold rowM
  rw [if_neg (by omega), if_pos (by omega), show l.length + j - l.length = j by omega]
theorem rowM_up (l : List Nat) (v s sc j : Nat) : upd (rowM l v s sc (j + 1)) (l.length + j) (nI (cbyte (v + s) sc j)) = rowM l v s sc j := by
  funext k
  unfold upd rowM
  by_cases e : k = l.length + j
  · subst e
    rw [if_pos rfl, if_neg (by omega), if_neg (by omega), show l.length + j - l.length = j by omega]
  · rw [if_neg e]
    by_cases h : k < l.length
    · rw [if_pos h, if_pos h]
    · rw [if_neg h, if_neg h]
      by_cases h2 : k - l.length < j
      · rw [if_pos h2, if_pos (by omega)]
      · rw [if_neg h2, if_neg (by omega)]
/-- nothing is carried on: the bytes ahead stay -/
theorem rowM_stop {l : List Nat} {v s sc j : Nat} (h : FF (v + s) sc (8 * j) = FF v sc (8 * j)) : rowM l v s sc j = rowM l v s sc 0 := by
  have key : ∀ i d, i + d = j → FF (v + s) sc (8 * i) = FF v sc (8 * i) := by
    intro i d
    induction d generalizing i with
    | zero => intro e; rw [Nat.add_zero] at e; subst e; exact h
    | succ d ih =>
      intro e
      have h1 := ih (i + 1) (by omega)
      rw [show 8 * (i + 1) = 8 * i + 8 by omega] at h1
      rw [← FF_256, ← FF_256 v, h1]
  funext k
  unfold rowM
  split
  · rfl
  · rw [if_neg (show ¬ k - l.length < 0 by omega)]
    split
    · rename_i h2
      congr 1
      unfold cbyte
      have h3 := key (k - l.length + 1) (j - (k - l.length + 1)) (by omega)
      rw [show 8 * (k - l.length + 1) = 8 * (k - l.length) + 8 by omega] at h3
      rw [h3]
    · rfl
