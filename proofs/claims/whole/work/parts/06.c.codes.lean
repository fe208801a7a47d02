/-! shapes, layers: what their codes are, in the mode of writing (none) or of reading digits D (some D) -/
def kBit (md : Option (Nat → Nat)) (S : CS × Nat) (c b : Nat) : Nat := match md with
  | none => b
  | some _ => rBit S c
def kStep (md : Option (Nat → Nat)) (S : CS × Nat) (c b : Nat) : CS × Nat := match md with
  | none => wStep S c b
  | some D => rStep D S c
theorem kStep_cs (md : Option (Nat → Nat)) (S : CS × Nat) (c b : Nat) : (kStep md S c b).1 = csStep S.1 c (kBit md S c b) := by
  cases md <;> rfl
theorem kBit_01 {md : Option (Nat → Nat)} {S : CS × Nat} {c b : Nat} (hb : b ≤ 1) : kBit md S c b ≤ 1 := by
  cases md with
  | none => exact hb
  | some D => rcases rBit_01 S c with h | h <;> (show rBit S c ≤ 1) <;> omega
/-- the digits read are digits, and the rest lies below the width -/
def mdOK (md : Option (Nat → Nat)) (S : CS × Nat) : Prop := match md with
  | none => True
  | some D => (∀ i, D i ≤ 1) ∧ S.2 < S.1.2.2.1
theorem mdOK_step {md : Option (Nat → Nat)} {S : CS × Nat} {c b : Nat} (h : mdOK md S) : mdOK md (kStep md S c b) := by
  cases md with
  | none => trivial
  | some D => exact ⟨h.1, rStep_lt h.1 h.2⟩
def kv0 (md : Option (Nat → Nat)) : Nat := match md with
  | none => 0
  | some D => shin D 0 16 0
def kInit (md : Option (Nat → Nat)) : CS × Nat := (csInit, kv0 md)
theorem mdOK_init {md : Option (Nat → Nat)} (h : ∀ D, md = some D → ∀ i, D i ≤ 1) : mdOK md (kInit md) := by
  cases md with
  | none => trivial
  | some D =>
    refine ⟨h D rfl, ?_⟩
    have := shin_lt (h D rfl) 16 0 0 1 (by decide)
    show shin D 0 16 0 < 65536
    omega
def sb (n w h : Nat) (x y : Int) : Nat := if 0 ≤ x ∧ x < w ∧ 0 ≤ y ∧ y < h then n / 2 ^ (8 * y.toNat + x.toNat) % 2 else 0
theorem sb_le (n w h : Nat) (x y : Int) : sb n w h x y ≤ 1 := by
  unfold sb
  split <;> omega
def cxA (f : Int → Int → Nat) (x y : Int) : Nat := f (x - 1) y + 2 * f (x - 1) (y - 1) + 4 * f x (y - 1) + 8 * f (x + 1) (y - 1)
def cxB (f p : Int → Int → Nat) (x y : Int) : Nat := 16 + f (x - 1) y + 2 * f x (y - 1) + 4 * p x y + 8 * p (x + 1) y + 16 * p x (y + 1)
def cxS (hb : Bool) (f p : Int → Int → Nat) (x y : Int) : Nat := if hb then cxB f p x y else cxA f x y
theorem cxS_lt {hb : Bool} {f p : Int → Int → Nat} (hf : ∀ x y, f x y ≤ 1) (hp : ∀ x y, p x y ≤ 1) (x y : Int) : cxS hb f p x y < 48 := by
  unfold cxS cxA cxB
  have h1 := hf (x - 1) y
  have h2 := hf (x - 1) (y - 1)
  have h3 := hf x (y - 1)
  have h4 := hf (x + 1) (y - 1)
  have h5 := hp x y
  have h6 := hp (x + 1) y
  have h7 := hp x (y + 1)
  split <;> omega
abbrev SH : Type := (CS × Nat) × Nat
def shStep (md : Option (Nat → Nat)) (hb : Bool) (p giv : Int → Int → Nat) (y x : Nat) (s : SH) : SH :=
  (kStep md s.1 (cxS hb (sb s.2 8 8) p x y) (giv x y), if kBit md s.1 (cxS hb (sb s.2 8 8) p x y) (giv x y) = 0 then s.2 else s.2 ||| 2 ^ (8 * y + x))
def shX (md : Option (Nat → Nat)) (hb : Bool) (p giv : Int → Int → Nat) (y : Nat) (s : SH) : Nat → SH
  | 0 => s
  | x + 1 => shStep md hb p giv y x (shX md hb p giv y s x)
def shY (md : Option (Nat → Nat)) (hb : Bool) (p giv : Int → Int → Nat) (w : Nat) : Nat → SH
  | 0 => (kInit md, 0)
  | y + 1 => shX md hb p giv y (shY md hb p giv w y) w
/-- what holds at every point of a shape's code: counts, rest, scale, and the bits that stand -/
def shInv (md : Option (Nat → Nat)) (w y x t : Nat) (s : SH) : Prop :=
  csOK s.1.1 ∧ mdOK md s.1 ∧ s.1.1.2.2.2 ≤ 5 * t ∧ s.2 < 2 ^ 64 ∧ ∀ i j, i < 8 → s.2.testBit (8 * j + i) = true → i < w ∧ (j < y ∨ (j = y ∧ i < x))
theorem shStep_inv {md : Option (Nat → Nat)} {hb : Bool} {p giv : Int → Int → Nat} {w y x t : Nat} {s : SH} (hp : ∀ x y, p x y ≤ 1) (hx : x < w) (hw : w ≤ 8) (hy : y < 8) (h : shInv md w y x t s) : shInv md w y (x + 1) (t + 1) (shStep md hb p giv y x s) := by
  obtain ⟨h1, h2, h3, h4, h5⟩ := h
  have hc := cxS_lt (hb := hb) (sb_le s.2 8 8) hp x y
  refine ⟨?_, mdOK_step h2, ?_, ?_, ?_⟩
  · show csOK (kStep md s.1 _ _).1
    rw [kStep_cs]
    exact csStep_ok h1 hc
  · show (kStep md s.1 _ _).1.2.2.2 ≤ _
    rw [kStep_cs]
    have := csStep_sc (b := kBit md s.1 (cxS hb (sb s.2 8 8) p x y) (giv x y)) h1 hc
    omega
  · show (if _ then _ else _) < 2 ^ 64
    split
    · exact h4
    · exact Nat.or_lt_two_pow h4 (Nat.pow_lt_pow_right (by decide) (by omega))
  · intro i j hi hb2
    show i < w ∧ (j < y ∨ (j = y ∧ i < x + 1))
    have hb3 : (if kBit md s.1 (cxS hb (sb s.2 8 8) p x y) (giv x y) = 0 then s.2 else s.2 ||| 2 ^ (8 * y + x)).testBit (8 * j + i) = true := hb2
    split at hb3
    · have := h5 i j hi hb3
      omega
    · rw [Nat.testBit_or, Bool.or_eq_true] at hb3
      rcases hb3 with hb3 | hb3
      · have := h5 i j hi hb3
        omega
      · rw [Nat.testBit_two_pow] at hb3
        have e : 8 * y + x = 8 * j + i := by simpa using hb3
        omega
theorem shX_inv {md : Option (Nat → Nat)} {hb : Bool} {p giv : Int → Int → Nat} {w y t : Nat} {s : SH} (hp : ∀ x y, p x y ≤ 1) (hw : w ≤ 8) (hy : y < 8) (h : shInv md w y 0 t s) : ∀ x, x ≤ w → shInv md w y x (t + x) (shX md hb p giv y s x)
  | 0, _ => h
  | x + 1, hx => shStep_inv hp (by omega) hw hy (shX_inv hp hw hy h x (by omega))
theorem shInv_next {md : Option (Nat → Nat)} {w y t : Nat} {s : SH} (h : shInv md w y w t s) : shInv md w (y + 1) 0 t s := by
  obtain ⟨h1, h2, h3, h4, h5⟩ := h
  refine ⟨h1, h2, h3, h4, fun i j hi hb => ?_⟩
  have := h5 i j hi hb
  omega
theorem shY_inv {md : Option (Nat → Nat)} {hb : Bool} {p giv : Int → Int → Nat} {w : Nat} (hD : ∀ D, md = some D → ∀ i, D i ≤ 1) (hp : ∀ x y, p x y ≤ 1) (hw : w ≤ 8) : ∀ y, y ≤ 8 → shInv md w y 0 (w * y) (shY md hb p giv w y)
  | 0, _ => ⟨csInit_ok, mdOK_init hD, by simp [shY, kInit, csInit], by simp [shY], fun i j _ hb => by simp [shY] at hb⟩
  | y + 1, hy => shInv_next (shX_inv hp hw (by omega) (shY_inv hD hp hw y (by omega)) w (Nat.le_refl _))
/-! layers -/
def gbit (c : Int32) (b : Nat) : Nat := (((if 0 ≤ c then c else 0 - c) >>> (nI b &&& 31)) &&& 1).toNatClampNeg
abbrev LY : Type := (CS × Nat) × (Nat → Nat) × (Nat → Bool)
def lyC (n : Nat) (pf : Nat → Nat) (k : Nat) : Nat := if pf k = 0 then (if 0 < k % n ∧ 0 < pf (k - 1) then 1 else 0) + (if n ≤ k ∧ 0 < pf (k - n) then 1 else 0) else 4
def upB (f : Nat → Bool) (k : Nat) (v : Bool) : Nat → Bool := fun j => if j = k then v else f j
def lyStep (md : Option (Nat → Nat)) (n : Nat) (cf : Nat → Int32) (b k : Nat) (s : LY) : LY :=
  let c := lyC n s.2.1 k
  let v := kBit md s.1 c (gbit (cf k) b)
  let S1 := kStep md s.1 c (gbit (cf k) b)
  let sg := if s.2.2 k then 1 else 0
  if s.2.1 k = 0 ∧ v = 1 then (kStep md S1 3 sg, upN s.2.1 k 1, upB s.2.2 k (decide (kBit md S1 3 sg = 1)))
  else (S1, upN s.2.1 k (2 * s.2.1 k + v), s.2.2)
def lyK (md : Option (Nat → Nat)) (n : Nat) (cf : Nat → Int32) (b : Nat) (s : LY) : Nat → LY
  | 0 => s
  | k + 1 => lyStep md n cf b k (lyK md n cf b s k)
def lyP (md : Option (Nat → Nat)) (n : Nat) (cf : Nat → Int32) : Nat → LY
  | 0 => (kInit md, fun _ => 0, fun k => decide (cf k < 0))
  | p + 1 => lyK md n cf (9 - p) (lyP md n cf p) (n * n)
/-- how many of the first N have begun -/
def cntB (pf : Nat → Nat) : Nat → Nat
  | 0 => 0
  | N + 1 => cntB pf N + (if 0 < pf N then 1 else 0)
theorem cntB_le (pf : Nat → Nat) : ∀ N, cntB pf N ≤ N
  | 0 => Nat.le_refl _
  | N + 1 => by
    have := cntB_le pf N
    unfold cntB
    split <;> omega
theorem cntB_up {pf : Nat → Nat} {k v : Nat} (hv : 0 < pf k → 0 < v) : ∀ N, cntB pf N ≤ cntB (upN pf k v) N
  | 0 => Nat.le_refl _
  | N + 1 => by
    have := cntB_up hv N
    unfold cntB
    by_cases e : N = k
    · subst e
      simp only [upN, if_true]
      by_cases h : 0 < pf N
      · simp only [h, hv h, if_true]; omega
      · simp only [h, if_false]; split <;> omega
    · simp only [upN, if_neg e]; omega
theorem cntB_new {pf : Nat → Nat} {k : Nat} (h0 : pf k = 0) : ∀ N, k < N → cntB pf N + 1 ≤ cntB (upN pf k 1) N
  | 0, h => by omega
  | N + 1, h => by
    unfold cntB
    by_cases e : N = k
    · subst e
      have := cntB_up (pf := pf) (k := N) (v := 1) (fun _ => by decide) N
      simp only [upN, if_true, h0]
      simp
      omega
    · have := cntB_new h0 N (by omega)
      simp only [upN, if_neg e]
      omega
def lyInv (md : Option (Nat → Nat)) (N t : Nat) (s : LY) : Prop := csOK s.1.1 ∧ mdOK md s.1 ∧ s.1.1.2.2.2 ≤ 5 * (t + cntB s.2.1 N)
theorem lyC_lt {n : Nat} {pf : Nat → Nat} {k : Nat} : lyC n pf k < 48 := by
  unfold lyC
  split
  · split <;> split <;> omega
  · omega
theorem lyStep_inv {md : Option (Nat → Nat)} {n : Nat} {cf : Nat → Int32} {b k N t : Nat} {s : LY} (hk : k < N) (h : lyInv md N t s) : lyInv md N (t + 1) (lyStep md n cf b k s) := by
  obtain ⟨h1, h2, h3⟩ := h
  have a1 : csOK (kStep md s.1 (lyC n s.2.1 k) (gbit (cf k) b)).1 := by rw [kStep_cs]; exact csStep_ok h1 lyC_lt
  have a2 : mdOK md (kStep md s.1 (lyC n s.2.1 k) (gbit (cf k) b)) := mdOK_step h2
  have a3 : (kStep md s.1 (lyC n s.2.1 k) (gbit (cf k) b)).1.2.2.2 ≤ s.1.1.2.2.2 + 5 := by rw [kStep_cs]; exact csStep_sc h1 lyC_lt
  unfold lyStep
  dsimp only
  split
  · rename_i e
    refine ⟨by rw [kStep_cs]; exact csStep_ok a1 (by decide), mdOK_step a2, ?_⟩
    show (kStep md _ 3 _).1.2.2.2 ≤ 5 * (t + 1 + cntB (upN s.2.1 k 1) N)
    rw [kStep_cs]
    have a4 := csStep_sc (c := 3) (b := kBit md (kStep md s.1 (lyC n s.2.1 k) (gbit (cf k) b)) 3 (if s.2.2 k = true then 1 else 0)) a1 (by decide)
    have a5 := cntB_new e.1 N hk
    omega
  · refine ⟨a1, a2, ?_⟩
    show (kStep md s.1 (lyC n s.2.1 k) (gbit (cf k) b)).1.2.2.2 ≤ 5 * (t + 1 + cntB (upN s.2.1 k _) N)
    have a5 := cntB_up (pf := s.2.1) (k := k) (v := 2 * s.2.1 k + kBit md s.1 (lyC n s.2.1 k) (gbit (cf k) b)) (fun h => by omega) N
    omega
theorem lyK_inv {md : Option (Nat → Nat)} {n : Nat} {cf : Nat → Int32} {b N t : Nat} {s : LY} (h : lyInv md N t s) : ∀ k, k ≤ N → lyInv md N (t + k) (lyK md n cf b s k)
  | 0, _ => h
  | k + 1, hk => lyStep_inv (by omega) (lyK_inv h k (by omega))
theorem lyP_inv {md : Option (Nat → Nat)} {n : Nat} {cf : Nat → Int32} (hD : ∀ D, md = some D → ∀ i, D i ≤ 1) : ∀ p, lyInv md (n * n) (p * (n * n)) (lyP md n cf p)
  | 0 => ⟨csInit_ok, mdOK_init hD, by simp [lyP, kInit, csInit]⟩
  | p + 1 => by
    have := lyK_inv (n := n) (cf := cf) (b := 9 - p) (lyP_inv (n := n) (cf := cf) hD p) (n * n) (Nat.le_refl _)
    rw [← Nat.succ_mul] at this
    exact this
