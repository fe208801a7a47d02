/-! masks: a shape's places, a row's bytes -/
def mskN (w : Nat) : Nat → Nat
  | 0 => 0
  | y + 1 => mskN w y ||| (2 ^ w - 1) * 2 ^ (8 * y)
theorem msk_lt {w : Nat} (hw : w ≤ 8) : ∀ h, h ≤ 8 → mskN w h < 2 ^ 64
  | 0, _ => by show 0 < 2 ^ 64; decide
  | h + 1, hh => by
    have ih := msk_lt hw h (by omega)
    have h1 : (2 ^ w - 1) * 2 ^ (8 * h) < 2 ^ 64 := by
      have a : 2 ^ w ≤ 2 ^ 8 := Nat.pow_le_pow_right (by decide) hw
      have b : 2 ^ (8 * h) ≤ 2 ^ 56 := Nat.pow_le_pow_right (by decide) (by omega)
      have c : (2 ^ w - 1) * 2 ^ (8 * h) ≤ 255 * 2 ^ 56 := Nat.mul_le_mul (by omega) b
      omega
    exact Nat.or_lt_two_pow ih h1
theorem msk_tb {w : Nat} (hw : w ≤ 8) {i j : Nat} (hi : i < 8) : ∀ h, (mskN w h).testBit (8 * j + i) = decide (i < w ∧ j < h)
  | 0 => by simp [mskN]
  | h + 1 => by
    show (mskN w h ||| (2 ^ w - 1) * 2 ^ (8 * h)).testBit (8 * j + i) = _
    rw [Nat.testBit_or, msk_tb hw hi h, Nat.testBit_mul_two_pow, Nat.testBit_two_pow_sub_one]
    by_cases h1 : i < w ∧ j < h
    · rw [decide_eq_true h1, decide_eq_true (show i < w ∧ j < h + 1 by omega)]
      rfl
    · rw [decide_eq_false h1, Bool.false_or, ← Bool.decide_and]
      apply decide_eq_decide.mpr
      omega
theorem bytes0 {N : Nat} (hl : N < 2 ^ 64) (hz : ∀ x, x < 8 → N / 2 ^ (8 * x) % 256 = 0) : N = 0 := by
  apply Nat.eq_of_testBit_eq
  intro i
  rw [Nat.zero_testBit]
  by_cases h : i < 64
  · have e2 := congrArg (fun t => t.testBit (i % 8)) (hz (i / 8) (by omega))
    rw [show 256 = 2 ^ 8 from rfl, Nat.testBit_mod_two_pow, Nat.testBit_div_two_pow, Nat.zero_testBit, decide_eq_true (show i % 8 < 8 from Nat.mod_lt _ (by decide)), Bool.true_and, show i % 8 + 8 * (i / 8) = i by omega] at e2
    exact e2
  · exact Nat.testBit_lt_two_pow (Nat.lt_of_lt_of_le hl (Nat.pow_le_pow_right (by decide) (by omega)))
theorem tops0 {oc : Nat} (ho : oc < 2 ^ 64) : oc &&& 13889313184910721216 = 0 ↔ ∀ x, x < 8 → oc / 2 ^ (8 * x) % 256 ≤ 63 := by
  have hM : ∀ x, x < 8 → 13889313184910721216 / 2 ^ (8 * x) % 256 = 192 := by decide
  have hb : ∀ b, b < 256 → (b &&& 192 = 0 ↔ b ≤ 63) := by decide +kernel
  have hx : ∀ x, x < 8 → (oc &&& 13889313184910721216) / 2 ^ (8 * x) % 256 = oc / 2 ^ (8 * x) % 256 &&& 192 := by
    intro x h
    rw [Nat.and_div_two_pow, show 256 = 2 ^ 8 from rfl, Nat.and_mod_two_pow, show (2 ^ 8 : Nat) = 256 from rfl, hM x h]
  constructor
  · intro h x h8
    have := hx x h8
    rw [h, Nat.zero_div, Nat.zero_mod] at this
    exact (hb _ (Nat.mod_lt _ (by decide))).mp this.symm
  · intro h
    have hz : ∀ x, x < 8 → (oc &&& 13889313184910721216) / 2 ^ (8 * x) % 256 = 0 := by
      intro x h8
      rw [hx x h8]
      exact (hb _ (Nat.mod_lt _ (by decide))).mpr (h x h8)
    have hl : oc &&& 13889313184910721216 < 2 ^ 64 := Nat.and_lt_two_pow _ (by decide)
    exact bytes0 hl hz
theorem high0 {oc : Nat} (ho : oc < 2 ^ 64) : oc / 2 ^ 32 = 0 ↔ ∀ x, x < 8 → 4 ≤ x → oc / 2 ^ (8 * x) % 256 = 0 := by
  constructor
  · intro h x h8 h4
    have e : oc / 2 ^ (8 * x) = 0 := by
      rw [show 8 * x = 32 + (8 * x - 32) by omega, Nat.pow_add, ← Nat.div_div_eq_div_mul, h, Nat.zero_div]
    rw [e]
  · intro h
    have h4 := h 4 (by decide) (by decide)
    have h5 := h 5 (by decide) (by decide)
    have h6 := h 6 (by decide) (by decide)
    have h7 := h 7 (by decide) (by decide)
    simp only [Nat.reduceMul, Nat.reducePow] at h4 h5 h6 h7 ⊢
    omega
/-- bits only where the mask has them -/
theorem andn_ok {b M : Nat} : (∀ i, b.testBit i = true → M.testBit i = true) ↔ b &&& M = b := by
  constructor
  · intro h
    apply Nat.eq_of_testBit_eq
    intro i
    rw [Nat.testBit_and]
    cases e : b.testBit i
    · rfl
    · rw [h i e]; rfl
  · intro h i hi
    rw [← h, Nat.testBit_and, Bool.and_eq_true] at hi
    exact hi.2
theorem msk_ok {b w h : Nat} (hb : b < 2 ^ 64) (hw : w ≤ 8) : b &&& mskN w h = b ↔ ∀ i j, i < 8 → b.testBit (8 * j + i) = true → i < w ∧ j < h := by
  rw [← andn_ok]
  constructor
  · intro H i j hi hq
    have := H _ hq
    rw [msk_tb hw hi h] at this
    exact of_decide_eq_true this
  · intro H i hq
    have := H (i % 8) (i / 8) (Nat.mod_lt _ (by decide))
    rw [Nat.div_add_mod] at this
    have e := msk_tb hw (i := i % 8) (j := i / 8) (Nat.mod_lt _ (by decide)) h
    rw [Nat.div_add_mod] at e
    rw [e]
    exact decide_eq_true (this hq)
