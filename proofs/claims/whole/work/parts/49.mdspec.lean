/-! the reference keeps a code's digits, one to a place: those before 16 + scale are the number v, those behind are still to come (D) -/
def rdg (D : Nat → Nat) (v sc : Nat) : Nat → Nat := fun i => if i < 16 + sc then v / 2 ^ (15 + sc - i) % 2 else D i
theorem rdg_le {D : Nat → Nat} (hD : ∀ i, D i ≤ 1) (v sc i : Nat) : rdg D v sc i ≤ 1 := by
  unfold rdg
  split
  · omega
  · exact hD i
theorem rdg_1 {D : Nat → Nat} (hD : ∀ i, D i ≤ 1) (v sc : Nat) : rdg D (2 * v + D (16 + sc)) (sc + 1) = rdg D v sc := by
  funext i
  unfold rdg
  have h := hD (16 + sc)
  by_cases h1 : i < 16 + sc
  · rw [if_pos h1, if_pos (by omega), show 15 + (sc + 1) - i = 1 + (15 + sc - i) by omega, Nat.pow_add, ← Nat.div_div_eq_div_mul]
    congr 2
    omega
  · rw [if_neg h1]
    by_cases h2 : i = 16 + sc
    · subst h2
      rw [if_pos (by omega), show 15 + (sc + 1) - (16 + sc) = 0 by omega]
      omega
    · rw [if_neg (by omega)]
theorem rdg_shin {D : Nat → Nat} (hD : ∀ i, D i ≤ 1) : ∀ (n v sc : Nat), rdg D (shin D (16 + sc) n v) (sc + n) = rdg D v sc
  | 0, v, sc => rfl
  | n + 1, v, sc => by
    show rdg D (shin D (16 + sc + 1) n (2 * v + D (16 + sc))) (sc + (n + 1)) = _
    have h := rdg_shin hD n (2 * v + D (16 + sc)) (sc + 1)
    rw [rdg_1 hD, show sc + 1 + n = sc + (n + 1) by omega, show 16 + (sc + 1) = 16 + sc + 1 by omega] at h
    exact h
def mdD (md : Option (Nat → Nat)) : Nat → Nat := match md with
  | none => fun _ => 0
  | some D => D
theorem shin_0 : ∀ (n pos v : Nat), shin (fun _ => 0) pos n v = v * 2 ^ n
  | 0, pos, v => by simp [shin]
  | n + 1, pos, v => by
    show shin (fun _ => 0) (pos + 1) n (2 * v + 0) = _
    rw [shin_0 n, Nat.add_zero, Nat.pow_succ, Nat.mul_comm 2 v, Nat.mul_assoc, Nat.mul_comm 2]
/-- the number behind a bit, before the doublings -/
def kAdd (md : Option (Nat → Nat)) (S : CS × Nat) (c b : Nat) : Nat := match md with
  | none => S.2 + (if b = 0 then 0 else csSplit S.1 c)
  | some _ => S.2 - (if rBit S c = 0 then 0 else csSplit S.1 c)
theorem kStep_eq (md : Option (Nat → Nat)) (S : CS × Nat) (c b : Nat) : kStep md S c b = (csStep S.1 c (kBit md S c b), shin (mdD md) (16 + S.1.2.2.2) (csN S.1 c (kBit md S c b)) (kAdd md S c b)) := by
  cases md with
  | none =>
    show (csStep S.1 c b, _) = (csStep S.1 c b, shin (fun _ => 0) _ _ _)
    rw [shin_0]
    rfl
  | some D => rfl
theorem cdig_rdg (v sc : Nat) : cdig v sc = rdg (fun _ => 0) v sc := by
  funext i
  unfold rdg
  split
  · rename_i h
    unfold cdig
    rw [FF_lo (by omega), show 16 + sc - (i + 1) = 15 + sc - i by omega]
  · rename_i h
    exact cdig_hi (by omega)
/-- while v becomes v': the places from j on are done -/
def mid (D : Nat → Nat) (v v' sc j : Nat) : Nat → Nat := fun i => if i < 16 + sc then (if i < j then v / 2 ^ (15 + sc - i) % 2 else v' / 2 ^ (15 + sc - i) % 2) else D i
theorem mid_top (D : Nat → Nat) (v v' sc : Nat) : mid D v v' sc (16 + sc) = rdg D v sc := by
  funext i
  unfold mid rdg
  split <;> rfl
theorem mid_0 (D : Nat → Nat) (v v' sc : Nat) : mid D v v' sc 0 = rdg D v' sc := by
  funext i
  unfold mid rdg
  split <;> rfl
theorem mid_at {D : Nat → Nat} {v v' sc j : Nat} (hj : j < 16 + sc) : mid D v v' sc (j + 1) j = v / 2 ^ (15 + sc - j) % 2 := by
  unfold mid
  rw [if_pos hj, if_pos (by omega)]
theorem mid_up {D : Nat → Nat} {v v' sc j : Nat} (hj : j < 16 + sc) : upN (mid D v v' sc (j + 1)) j (v' / 2 ^ (15 + sc - j) % 2) = mid D v v' sc j := by
  funext i
  unfold upN mid
  by_cases e : i = j
  · subst e
    rw [if_pos rfl, if_pos hj, if_neg (by omega)]
  · rw [if_neg e]
    by_cases h1 : i < 16 + sc
    · rw [if_pos h1, if_pos h1]
      by_cases h2 : i < j
      · rw [if_pos h2, if_pos (by omega)]
      · rw [if_neg h2, if_neg (by omega)]
    · rw [if_neg h1, if_neg h1]
theorem pow_j {sc j : Nat} (hj : j < 16 + sc) (v : Nat) : v / 2 ^ (16 + sc - j) = v / 2 ^ (16 + sc - (j + 1)) / 2 := by
  rw [Nat.div_div_eq_div_mul, ← Nat.pow_succ]
  congr 2
  omega
theorem pow_j2 (sc j : Nat) : 16 + sc - (j + 1) = 15 + sc - j := by omega
/-- the window of 16 digits -/
theorem rdg_win {D : Nat → Nat} {v sc i : Nat} (hi : i < 16) : 2 * (v / 2 ^ (16 - i)) + rdg D v sc (sc + i) = v / 2 ^ (16 - (i + 1)) := by
  unfold rdg
  rw [if_pos (by omega), show 15 + sc - (sc + i) = 15 - i by omega, show 16 - (i + 1) = 15 - i by omega, show 16 - i = (15 - i) + 1 by omega, Nat.pow_succ, ← Nat.div_div_eq_div_mul]
  omega
/-- eight digits from 8 k on -/
theorem acc8_rdg (v sc k i : Nat) : acc8 v sc k (i + 1) = 2 * acc8 v sc k i + rdg (fun _ => 0) v sc (8 * k + i) := by
  rw [← cdig_rdg]
  rfl
theorem acc8_lt (v sc k : Nat) : ∀ i, acc8 v sc k i < 2 ^ i
  | 0 => by simp [acc8]
  | i + 1 => by
    have h1 := acc8_lt v sc k i
    have h2 := cdig_lt v sc (8 * k + i)
    unfold acc8
    rw [Nat.pow_succ]
    omega
theorem rdg_00 : rdg (fun _ => 0) 0 0 = fun _ => 0 := by
  funext i
  unfold rdg
  split <;> simp
/-- a code's digits as they are laid: all of D -/
theorem rdg_load {D : Nat → Nat} (hD : ∀ i, D i ≤ 1) : rdg D (shin D 0 16 0) 0 = D := by
  have key : ∀ (n : Nat), n ≤ 16 → ∀ i, i < n → shin D 0 n 0 / 2 ^ (n - 1 - i) % 2 = D i := by
    have app : ∀ (n pos v : Nat), shin D pos (n + 1) v = 2 * shin D pos n v + D (pos + n) := by
      intro n
      induction n with
      | zero => intro pos v; rfl
      | succ n ih =>
        intro pos v
        show shin D (pos + 1) (n + 1) (2 * v + D pos) = 2 * shin D (pos + 1) n (2 * v + D pos) + _
        rw [ih, show pos + 1 + n = pos + (n + 1) by omega]
    intro n
    induction n with
    | zero => intro _ i hi; omega
    | succ n ih =>
      intro hn i hi
      have h := hD (0 + n)
      rw [app]
      by_cases e : i = n
      · subst e
        rw [show i + 1 - 1 - i = 0 by omega, Nat.zero_add] at *
        omega
      · rw [show n + 1 - 1 - i = 1 + (n - 1 - i) by omega, Nat.pow_add, ← Nat.div_div_eq_div_mul, show (2 * shin D 0 n 0 + D (0 + n)) / 2 ^ 1 = shin D 0 n 0 by omega]
        exact ih (by omega) i (by omega)
  funext i
  unfold rdg
  split
  · rename_i h
    exact key 16 (Nat.le_refl _) i (by omega)
  · rfl
