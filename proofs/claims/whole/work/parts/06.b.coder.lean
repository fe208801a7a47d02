/-! the code's own mathematics: counts, width, scale (CS); the sum that is written, the rest that is read -/
def upN (f : Nat → Nat) (k v : Nat) : Nat → Nat := fun j => if j = k then v else f j
abbrev CS : Type := (Nat → Nat) × (Nat → Nat) × Nat × Nat
def csSplit (K : CS) (c : Nat) : Nat := K.2.2.1 * K.1 c / (K.1 c + K.2.1 c)
def csHalf (z o : Nat) : Nat × Nat := if z + o = 32 then ((z + 1) / 2, (o + 1) / 2) else (z, o)
def nsh : Nat → Nat → Nat
  | 0, _ => 0
  | f + 1, w => if w ≤ 32768 then nsh f (2 * w) + 1 else 0
def csW (K : CS) (c b : Nat) : Nat := if b = 0 then csSplit K c else K.2.2.1 - csSplit K c
def csC (K : CS) (c b : Nat) : Nat × Nat := if b = 0 then csHalf (K.1 c + 1) (K.2.1 c) else csHalf (K.1 c) (K.2.1 c + 1)
def csN (K : CS) (c b : Nat) : Nat := nsh 16 (csW K c b)
def csStep (K : CS) (c b : Nat) : CS := (upN K.1 c (csC K c b).1, upN K.2.1 c (csC K c b).2, csW K c b * 2 ^ csN K c b, K.2.2.2 + csN K c b)
def csInit : CS := (fun _ => 1, fun _ => 1, 65536, 0)
def csOK (K : CS) : Prop := (∀ c, c < 48 → 1 ≤ K.1 c ∧ 1 ≤ K.2.1 c ∧ K.1 c + K.2.1 c ≤ 31) ∧ 32768 < K.2.2.1 ∧ K.2.2.1 ≤ 65536
theorem csInit_ok : csOK csInit := ⟨fun c _ => by simp [csInit], by simp [csInit], by simp [csInit]⟩
theorem csSplit_bd {K : CS} {c : Nat} (h : csOK K) (hc : c < 48) : 1057 ≤ csSplit K c ∧ csSplit K c + 1057 ≤ K.2.2.1 := by
  obtain ⟨z, o, w, sc⟩ := K
  obtain ⟨h1, h2, h3⟩ := h
  obtain ⟨hz, ho, hs⟩ := h1 c hc
  unfold csSplit
  dsimp only at *
  generalize z c = a at *
  generalize o c = b at *
  constructor
  · rw [Nat.le_div_iff_mul_le (by omega)]
    have h4 : w * 1 ≤ w * a := Nat.mul_le_mul_left _ hz
    omega
  · have h4 : w * a / (a + b) ≤ w - 1057 := by
      apply Nat.div_le_of_le_mul
      rw [Nat.add_mul]
      have e2 : w * a = a * 1057 + a * (w - 1057) := by
        rw [← Nat.mul_add, show 1057 + (w - 1057) = w by omega, Nat.mul_comm]
      have h5 : 1 * (w - 1057) ≤ b * (w - 1057) := Nat.mul_le_mul_right _ ho
      omega
    omega
theorem csW_bd {K : CS} {c b : Nat} (h : csOK K) (hc : c < 48) : 1057 ≤ csW K c b ∧ csW K c b ≤ 65536 := by
  have h1 := csSplit_bd h hc
  have h2 := h.2.2
  unfold csW
  split <;> omega
theorem nsh_spec : ∀ (f w : Nat), 1 ≤ w → w ≤ 65536 → 32768 < w * 2 ^ f → 32768 < w * 2 ^ nsh f w ∧ w * 2 ^ nsh f w ≤ 65536
  | 0, w, h1, h2, h3 => by simp [nsh] at *; omega
  | f + 1, w, h1, h2, h3 => by
    unfold nsh
    split
    · rename_i h
      have h4 := nsh_spec f (2 * w) (by omega) (by omega) (by rw [Nat.pow_succ] at h3; rw [Nat.mul_comm 2 w, Nat.mul_assoc, Nat.mul_comm 2]; exact h3)
      rw [Nat.pow_succ]
      have e : 2 * w * 2 ^ nsh f (2 * w) = w * (2 ^ nsh f (2 * w) * 2) := by
        rw [Nat.mul_comm 2 w, Nat.mul_assoc, Nat.mul_comm 2]
      rw [e] at h4
      exact h4
    · simp; omega
theorem nsh_le5 {w : Nat} (h : 1057 ≤ w) : nsh 16 w ≤ 5 := by
  have s : ∀ f v, 32768 < v → nsh f v = 0 := by
    intro f v hv
    cases f with
    | zero => rfl
    | succ f => unfold nsh; rw [if_neg (by omega)]
  have t : ∀ f v k, (∀ u, 2 * v ≤ u → nsh f u ≤ k) → nsh (f + 1) v ≤ k + 1 := by
    intro f v k hk
    unfold nsh
    split
    · have := hk (2 * v) (Nat.le_refl _)
      omega
    · omega
  refine t 15 w 4 (fun u hu => t 14 u 3 (fun u2 h2 => t 13 u2 2 (fun u3 h3 => t 12 u3 1 (fun u4 h4 => t 11 u4 0 (fun u5 h5 => ?_)))))
  rw [s 11 u5 (by omega)]
  exact Nat.le_refl _
theorem csHalf_bd {z o : Nat} (h1 : 1 ≤ z) (h2 : 1 ≤ o) (h3 : z + o ≤ 32) : 1 ≤ (csHalf z o).1 ∧ 1 ≤ (csHalf z o).2 ∧ (csHalf z o).1 + (csHalf z o).2 ≤ 31 := by
  unfold csHalf
  split
  · dsimp only
    omega
  · dsimp only
    omega
theorem csStep_ok {K : CS} {c b : Nat} (h : csOK K) (hc : c < 48) : csOK (csStep K c b) := by
  have hw := csW_bd (b := b) h hc
  have hn := nsh_spec 16 (csW K c b) (by omega) hw.2 (by have : 1057 * 2 ^ 16 ≤ csW K c b * 2 ^ 16 := Nat.mul_le_mul_right _ hw.1; omega)
  refine ⟨fun i hi => ?_, hn.1, hn.2⟩
  have hi0 := h.1 i hi
  by_cases e : i = c
  · subst e
    have key : 1 ≤ (csC K i b).1 ∧ 1 ≤ (csC K i b).2 ∧ (csC K i b).1 + (csC K i b).2 ≤ 31 := by
      unfold csC
      split
      · exact csHalf_bd (by omega) (by omega) (by omega)
      · exact csHalf_bd (by omega) (by omega) (by omega)
    simp only [csStep, upN, if_true]
    exact key
  · simp only [csStep, upN, if_neg e]
    exact hi0
theorem csStep_sc {K : CS} {c b : Nat} (h : csOK K) (hc : c < 48) : (csStep K c b).2.2.2 ≤ K.2.2.2 + 5 := by
  have hw := csW_bd (b := b) h hc
  have := nsh_le5 hw.1
  show K.2.2.2 + nsh 16 (csW K c b) ≤ _
  omega
/-- what is written: the sum in steps of 1 / 2^(16 + scale) -/
def wStep (S : CS × Nat) (c b : Nat) : CS × Nat := (csStep S.1 c b, (S.2 + (if b = 0 then 0 else csSplit S.1 c)) * 2 ^ csN S.1 c b)
/-- what is read: the bit, and the rest with further digits behind it -/
def rBit (S : CS × Nat) (c : Nat) : Nat := if S.2 < csSplit S.1 c then 0 else 1
def shin (D : Nat → Nat) : Nat → Nat → Nat → Nat
  | _, 0, v => v
  | pos, n + 1, v => shin D (pos + 1) n (2 * v + D pos)
def rStep (D : Nat → Nat) (S : CS × Nat) (c : Nat) : CS × Nat := (csStep S.1 c (rBit S c), shin D (16 + S.1.2.2.2) (csN S.1 c (rBit S c)) (S.2 - (if rBit S c = 0 then 0 else csSplit S.1 c)))
theorem rBit_01 (S : CS × Nat) (c : Nat) : rBit S c = 0 ∨ rBit S c = 1 := by
  unfold rBit
  split
  · exact Or.inl rfl
  · exact Or.inr rfl
theorem shin_lt {D : Nat → Nat} (hD : ∀ i, D i ≤ 1) : ∀ (n pos v w : Nat), v < w → shin D pos n v < w * 2 ^ n
  | 0, pos, v, w, h => by simpa [shin] using h
  | n + 1, pos, v, w, h => by
    have := shin_lt hD n (pos + 1) (2 * v + D pos) (2 * w) (by have := hD pos; omega)
    have e : w * 2 ^ (n + 1) = 2 * w * 2 ^ n := by rw [Nat.pow_succ, Nat.mul_comm (2 ^ n) 2, ← Nat.mul_assoc, Nat.mul_comm w 2]
    rw [e]
    exact this
/-- the rest stays below the width -/
theorem rStep_lt {D : Nat → Nat} {S : CS × Nat} {c : Nat} (hD : ∀ i, D i ≤ 1) (h : S.2 < S.1.2.2.1) : (rStep D S c).2 < (rStep D S c).1.2.2.1 := by
  show shin D _ (csN S.1 c (rBit S c)) _ < csW S.1 c (rBit S c) * 2 ^ csN S.1 c (rBit S c)
  apply shin_lt hD
  unfold csW rBit
  split
  · rename_i e
    simp only [if_true]
    simpa using e
  · rename_i e
    simp
    omega
/-- the fraction's first m digits as a number -/
def FF (v sc m : Nat) : Nat := v * 2 ^ m / 2 ^ (16 + sc)
def cbyte (v sc j : Nat) : Nat := FF v sc (8 * j + 8) % 256
def cdig (v sc i : Nat) : Nat := FF v sc (i + 1) % 2
theorem FF_half (v sc m : Nat) : FF v sc (m + 1) / 2 = FF v sc m := by
  unfold FF
  rw [Nat.div_div_eq_div_mul, Nat.pow_succ, ← Nat.mul_assoc]
  rw [Nat.mul_div_mul_right _ _ (by decide)]
theorem FF_scale (v sc n m : Nat) : FF (v * 2 ^ n) (sc + n) m = FF v sc m := by
  unfold FF
  rw [show 16 + (sc + n) = (16 + sc) + n by omega, Nat.pow_add, Nat.mul_right_comm]
  rw [Nat.mul_div_mul_right _ _ (Nat.pow_pos (by decide))]
theorem FF_hi {v sc m : Nat} (h : 16 + sc ≤ m) : FF v sc m = v * 2 ^ (m - (16 + sc)) := by
  unfold FF
  obtain ⟨d, rfl⟩ : ∃ d, m = (16 + sc) + d := ⟨m - (16 + sc), by omega⟩
  rw [Nat.pow_add, Nat.mul_comm (2 ^ (16 + sc)), ← Nat.mul_assoc, Nat.mul_div_cancel _ (Nat.pow_pos (by decide))]
  congr 2
  omega
theorem FF_lo {v sc m : Nat} (h : m ≤ 16 + sc) : FF v sc m = v / 2 ^ (16 + sc - m) := by
  unfold FF
  obtain ⟨d, hd⟩ : ∃ d, 16 + sc = d + m := ⟨16 + sc - m, by omega⟩
  rw [hd, Nat.pow_add, Nat.mul_div_mul_right _ _ (Nat.pow_pos (by decide))]
  congr 2
  omega
theorem cdig_lt (v sc i : Nat) : cdig v sc i < 2 := Nat.mod_lt _ (by decide)
theorem cbyte_lt (v sc i : Nat) : cbyte v sc i < 256 := Nat.mod_lt _ (by decide)
theorem cdig_hi {v sc i : Nat} (h : 16 + sc ≤ i) : cdig v sc i = 0 := by
  unfold cdig
  rw [FF_hi (by omega), show i + 1 - (16 + sc) = (i - (16 + sc)) + 1 by omega, Nat.pow_succ, ← Nat.mul_assoc]
  exact Nat.mul_mod_left _ _
theorem cbyte_hi {v sc j : Nat} (h : 16 + sc ≤ 8 * j) : cbyte v sc j = 0 := by
  unfold cbyte
  rw [FF_hi (by omega), show 8 * j + 8 - (16 + sc) = (8 * j - (16 + sc)) + 8 by omega, Nat.pow_add, ← Nat.mul_assoc]
  exact Nat.mul_mod_left _ _
/-- eight digits make a byte -/
def acc8 (v sc k : Nat) : Nat → Nat
  | 0 => 0
  | i + 1 => 2 * acc8 v sc k i + cdig v sc (8 * k + i)
theorem acc8_eq (v sc k : Nat) : ∀ i, acc8 v sc k i + 2 ^ i * FF v sc (8 * k) = FF v sc (8 * k + i)
  | 0 => by simp [acc8]
  | i + 1 => by
    have h1 := acc8_eq v sc k i
    have h2 := FF_half v sc (8 * k + i)
    unfold acc8 cdig
    rw [Nat.pow_succ, Nat.mul_comm (2 ^ i) 2, Nat.mul_assoc]
    have e : 8 * k + (i + 1) = 8 * k + i + 1 := by omega
    rw [e]
    omega
theorem acc8_byte (v sc k : Nat) : acc8 v sc k 8 = cbyte v sc k := by
  have h := acc8_eq v sc k 8
  have key : ∀ i, acc8 v sc k i < 2 ^ i := by
    intro i
    induction i with
    | zero => simp [acc8]
    | succ i ih =>
      have := cdig_lt v sc (8 * k + i)
      unfold acc8
      rw [Nat.pow_succ]
      omega
  have h2 := key 8
  unfold cbyte
  rw [← h]
  omega
