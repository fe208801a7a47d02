/-! a document's chunks, one behind the other; what a reader finds in them -/
def wPg (g : Gl) (A : Nat → Nat) (nS nP : Nat) (ps sp ce0 co0 cd0 li0 : Nat → Int32) (cm0 : Bool) (ce1 co1 cd1 li1 : Nat → Int32) (cm1 : Bool) (F : Nat → List Value) : va_W := [pgC A nS nP, shA g A, iaC g (A 2) 20 ps, iaC g (A 3) 20 sp] ++ wLy g (fun i => A (4 + i)) 8 ce0 co0 cd0 li0 cm0 ++ wLy g (fun i => A (9 + i)) 4 ce1 co1 cd1 li1 cm1 ++ pool A F
def lenC (l : List Nat) (p : Nat) : Nat := 256 * l.getD (p + 1) 0 + l.getD (p + 2) 0
def hd (l : List Nat) : Nat → Nat
  | 0 => 2
  | k + 1 => hd l k + 3 + lenC l (hd l k)
def kdA (l : List Nat) (k : Nat) : Nat := l.getD (hd l k) 0
def lnA (l : List Nat) (k : Nat) : Nat := lenC l (hd l k)
def cK (l : List Nat) (kd : Nat) : Nat → Nat
  | 0 => 0
  | k + 1 => cK l kd k + (if kdA l k = kd then 1 else 0)
def cP (l : List Nat) : Nat → Nat
  | 0 => 0
  | k + 1 => cP l k + (if kdA l k = 2 then lnA l k / 2 else 0)
def bS (l : List Nat) : Nat → Nat → Nat
  | 0 => fun _ => 0
  | k + 1 => if kdA l k = 1 then upN (bS l k) (cK l 1 k) (rdBits l (fun i => sb (bS l k i) 8 8) (hd l k + 3) (lnA l k)) else bS l k
def pS (l : List Nat) (o : Nat) : Nat → Nat → Nat
  | 0 => fun _ => 0
  | k + 1 => if kdA l k = 2 then plU l (hd l k + 3) (cP l k) o (pS l o k) (lnA l k / 2) else pS l o k
def lyCV (l : List Nat) (n fr sz : Nat) : Nat → Int32 := cdV (lyP (some (dgt l (fr + 1) (fr + sz))) n (fun _ => nI 0) (l.getD fr 0)).2.1 (lyP (some (dgt l (fr + 1) (fr + sz))) n (fun _ => nI 0) (l.getD fr 0)).2.2 (10 - l.getD fr 0)
def lyCE (l : List Nat) (n fr sz : Nat) : Nat → Int32 := fun k => clp (flat n (undoN n (fun y x => lyCV l n fr sz (n * y + x))) k)
def oS (l : List Nat) (kd n : Nat) : Nat → Nat → Int32
  | 0 => fun _ => nI 0
  | k + 1 => if kdA l k = kd then lyCV l n (hd l k + 3) (lnA l k) else oS l kd n k
def eS (l : List Nat) (kd n : Nat) : Nat → Nat → Int32
  | 0 => fun _ => nI 0
  | k + 1 => if kdA l k = kd then lyCE l n (hd l k + 3) (lnA l k) else eS l kd n k
def lyG (l : List Nat) (came : Nat) (fr sz : Nat) : Prop := came = 0 ∧ 1 ≤ sz ∧ l.getD fr 0 ≤ 10
/-- the fault v of chunk k (0: none), if the chunks before have none -/
def FL (l : List Nat) (k v : Nat) : Prop :=
  (l.length < hd l k + 3 + lnA l k ∧ v = 2) ∨
  (hd l k + 3 + lnA l k ≤ l.length ∧ ¬ (1 ≤ kdA l k ∧ kdA l k ≤ 4 ∧ k < 16) ∧ v = 3) ∨
  (hd l k + 3 + lnA l k ≤ l.length ∧ k < 16 ∧ kdA l k = 1 ∧ ((shG l (cK l 1 k) (hd l k + 3) (lnA l k) ∧ v = 0) ∨ (¬ shG l (cK l 1 k) (hd l k + 3) (lnA l k) ∧ v = 4))) ∨
  (hd l k + 3 + lnA l k ≤ l.length ∧ k < 16 ∧ kdA l k = 2 ∧ ((plG l (cK l 1 k) (cP l k) (hd l k + 3) (lnA l k) ∧ v = 0) ∨ (¬ plG l (cK l 1 k) (cP l k) (hd l k + 3) (lnA l k) ∧ v = 5))) ∨
  (hd l k + 3 + lnA l k ≤ l.length ∧ k < 16 ∧ (kdA l k = 3 ∨ kdA l k = 4) ∧ ((lyG l (cK l (kdA l k) k) (hd l k + 3) (lnA l k) ∧ v = 0) ∨ (¬ lyG l (cK l (kdA l k) k) (hd l k + 3) (lnA l k) ∧ v = 6)))
theorem FL_fun {l : List Nat} {k v v' : Nat} (h : FL l k v) (h' : FL l k v') : v = v' := by
  unfold FL at h h'
  by_cases s : shG l (cK l 1 k) (hd l k + 3) (lnA l k) <;> by_cases p : plG l (cK l 1 k) (cP l k) (hd l k + 3) (lnA l k) <;> by_cases y : lyG l (cK l (kdA l k) k) (hd l k + 3) (lnA l k) <;> simp only [s, p, y, true_and, false_and, not_true, not_false_eq_true, or_false, false_or] at h h' <;> omega
def stG (l : List Nat) : Prop := l.getD 0 0 = 80 ∧ l.getD 1 0 = 71
/-- all that a reader answers: v, behind K chunks without a fault -/
def RD (l : List Nat) (K v : Nat) : Prop := (¬ stG l ∧ K = 0 ∧ v = 1) ∨ (stG l ∧ (∀ j, j < K → hd l j < l.length ∧ FL l j 0) ∧ ((l.length ≤ hd l K ∧ v = 0) ∨ (hd l K < l.length ∧ FL l K v ∧ v ≠ 0)))
theorem RD_fun {l : List Nat} {K v K' v' : Nat} (h : RD l K v) (h' : RD l K' v') : K = K' ∧ v = v' := by
  rcases h with ⟨a, b, c⟩ | ⟨a, b, c⟩
  · rcases h' with ⟨a', b', c'⟩ | ⟨a', b', c'⟩
    · omega
    · exact absurd a' a
  · rcases h' with ⟨a', b', c'⟩ | ⟨a', b', c'⟩
    · exact absurd a a'
    · have key : ∀ {K v K' v' : Nat}, (∀ j, j < K → hd l j < l.length ∧ FL l j 0) → ((l.length ≤ hd l K' ∧ v' = 0) ∨ (hd l K' < l.length ∧ FL l K' v' ∧ v' ≠ 0)) → ¬ K' < K := by
        intro K v K' v' b c q
        obtain ⟨h1, h2⟩ := b K' q
        rcases c with ⟨c1, _⟩ | ⟨_, c2, c3⟩
        · omega
        · exact c3 (FL_fun c2 h2)
      have e1 := key (v := v) b c'
      have e2 := key (v := v) b' c
      have e : K = K' := by omega
      subst e
      refine ⟨rfl, ?_⟩
      rcases c with ⟨c1, c2⟩ | ⟨c1, c2, c3⟩ <;> rcases c' with ⟨d1, d2⟩ | ⟨d1, d2, d3⟩
      · omega
      · omega
      · omega
      · exact FL_fun c2 d2
def pgOK (nS nP : Nat) (b w h ps sp : Nat → Nat) : Prop := nS ≤ 8 ∧ nP ≤ 20 ∧ (∀ k, k < 8 → b k < 2 ^ 64 ∧ w k ≤ 8 ∧ h k ≤ 8) ∧ ∀ i, i < nP → ps i < nS ∧ sp i < 256
def pgIs (l : List Nat) (K nS nP : Nat) (b w h ps sp : Nat → Nat) (ce0 co0 : Nat → Int32) (cm0 : Bool) (ce1 co1 : Nat → Int32) (cm1 : Bool) : Prop :=
  (nS = cK l 1 K ∧ nP = cP l K) ∧ (∀ k, k < nS → b k = bS l K k ∧ sb (b k) (w k) (h k) = sb (b k) 8 8) ∧ (∀ i, i < nP → ps i = pS l 0 K i ∧ sp i = pS l 1 K i) ∧ (ce0 = eS l 3 8 K ∧ co0 = oS l 3 8 K ∧ cm0 = decide (0 < cK l 3 K)) ∧ (ce1 = eS l 4 4 K ∧ co1 = oS l 4 4 K ∧ cm1 = decide (0 < cK l 4 K))
theorem upF_shV (b w h : Nat → Nat) (bs : Nat → Int32) (k b1 w1 h1 : Nat) (bs1 : Int32) : upF (fun k => shV (b k) (w k) (h k) (bs k)) k (shV b1 w1 h1 bs1) = fun j => shV (upN b k b1 j) (upN w k w1 j) (upN h k h1 j) (if j = k then bs1 else bs j) := by
  funext j
  unfold upF upN
  by_cases e : j = k
  · simp only [if_pos e]
  · simp only [if_neg e]
theorem rdBits_cong {l : List Nat} {P Q : Nat → Int → Int → Nat} {fr sz : Nat} (h : l.getD fr 0 ≠ 0 → P (l.getD fr 0 - 1) = Q (l.getD fr 0 - 1)) : rdBits l P fr sz = rdBits l Q fr sz := by
  unfold rdBits
  by_cases e : l.getD fr 0 = 0
  · rw [if_pos e, if_pos e]
  · rw [if_neg e, if_neg e, h e]
theorem rdBits_ok {l : List Nat} {P : Nat → Int → Int → Nat} {fr sz : Nat} (hP : ∀ k x y, P k x y ≤ 1) (hw : l.getD (fr + 1) 0 / 16 < 8) (hh : l.getD (fr + 1) 0 % 16 < 8) : rdBits l P fr sz < 2 ^ 64 ∧ sb (rdBits l P fr sz) (l.getD (fr + 1) 0 / 16 + 1) (l.getD (fr + 1) 0 % 16 + 1) = sb (rdBits l P fr sz) 8 8 := by
  have key : ∀ (hb : Bool) (p : Int → Int → Nat), (∀ x y, p x y ≤ 1) → ∀ s, s = (shY (some (dgt l (fr + 2) (fr + sz))) hb p (fun _ _ => 0) (l.getD (fr + 1) 0 / 16 + 1) (l.getD (fr + 1) 0 % 16 + 1)).2 → s < 2 ^ 64 ∧ sb s (l.getD (fr + 1) 0 / 16 + 1) (l.getD (fr + 1) 0 % 16 + 1) = sb s 8 8 := by
    intro hb p hp s hs
    have h1 := shY_inv (md := some (dgt l (fr + 2) (fr + sz))) (hb := hb) (p := p) (giv := fun _ _ => 0) (w := l.getD (fr + 1) 0 / 16 + 1) (fun D h => by cases h; exact dgt_le l (fr + 2) (fr + sz)) hp (by omega) (l.getD (fr + 1) 0 % 16 + 1) (by omega)
    rw [hs]
    refine ⟨h1.2.2.2.1, sb_88 (by omega) (by omega) (fun i j hi hq => ?_)⟩
    have := h1.2.2.2.2 i j hi hq
    omega
  unfold rdBits
  split
  · exact key _ _ (fun _ _ => Nat.zero_le _) _ rfl
  · exact key _ _ (hP _) _ rfl
theorem cK_no {l : List Nat} {K kd : Nat} (h : ¬ kdA l K = kd) : cK l kd (K + 1) = cK l kd K := by
  show cK l kd K + (if kdA l K = kd then 1 else 0) = _
  rw [if_neg h]
  rfl
theorem cK_yes {l : List Nat} {K kd : Nat} (h : kdA l K = kd) : cK l kd (K + 1) = cK l kd K + 1 := by
  show cK l kd K + (if kdA l K = kd then 1 else 0) = _
  rw [if_pos h]
theorem cP_no {l : List Nat} {K : Nat} (h : ¬ kdA l K = 2) : cP l (K + 1) = cP l K := by
  show cP l K + (if kdA l K = 2 then lnA l K / 2 else 0) = _
  rw [if_neg h]
  rfl
theorem bS_no {l : List Nat} {K : Nat} (h : ¬ kdA l K = 1) : bS l (K + 1) = bS l K := by
  show (if kdA l K = 1 then _ else bS l K) = _
  rw [if_neg h]
theorem pS_no {l : List Nat} {K o : Nat} (h : ¬ kdA l K = 2) : pS l o (K + 1) = pS l o K := by
  show (if kdA l K = 2 then _ else pS l o K) = _
  rw [if_neg h]
theorem oS_no {l : List Nat} {K kd n : Nat} (h : ¬ kdA l K = kd) : oS l kd n (K + 1) = oS l kd n K := by
  show (if kdA l K = kd then _ else oS l kd n K) = _
  rw [if_neg h]
theorem eS_no {l : List Nat} {K kd n : Nat} (h : ¬ kdA l K = kd) : eS l kd n (K + 1) = eS l kd n K := by
  show (if kdA l K = kd then _ else eS l kd n K) = _
  rw [if_neg h]
theorem is_sh {l : List Nat} {K nS nP : Nat} {b w h ps sp : Nat → Nat} {ce0 co0 ce1 co1 : Nat → Int32} {cm0 cm1 : Bool} (O : pgOK nS nP b w h ps sp) (I : pgIs l K nS nP b w h ps sp ce0 co0 cm0 ce1 co1 cm1) (hk : kdA l K = 1) (G : shG l nS (hd l K + 3) (lnA l K)) : pgOK (nS + 1) nP (upN b nS (rdBits l (fun i => sb (b i) (w i) (h i)) (hd l K + 3) (lnA l K))) (upN w nS (l.getD (hd l K + 3 + 1) 0 / 16 + 1)) (upN h nS (l.getD (hd l K + 3 + 1) 0 % 16 + 1)) ps sp ∧ pgIs l (K + 1) (nS + 1) nP (upN b nS (rdBits l (fun i => sb (b i) (w i) (h i)) (hd l K + 3) (lnA l K))) (upN w nS (l.getD (hd l K + 3 + 1) 0 / 16 + 1)) (upN h nS (l.getD (hd l K + 3 + 1) 0 % 16 + 1)) ps sp ce0 co0 cm0 ce1 co1 cm1 := by
  obtain ⟨o1, o2, o3, o4⟩ := O
  obtain ⟨⟨i1, i2⟩, i3, i4, ⟨i5, i6, i7⟩, i8, i9, i10⟩ := I
  obtain ⟨g1, g2, g3, g4, g5⟩ := G
  have hr := rdBits_ok (l := l) (P := fun i => sb (b i) (w i) (h i)) (fr := hd l K + 3) (sz := lnA l K) (fun k x y => sb_le _ _ _ _ _) g3 g4
  refine ⟨⟨by omega, o2, ?_, fun i hi => ?_⟩, ⟨by rw [cK_yes hk, i1], by rw [cP_no (by omega)]; exact i2⟩, ?_, ?_, ⟨by rw [eS_no (by omega)]; exact i5, by rw [oS_no (by omega)]; exact i6, by rw [cK_no (by omega)]; exact i7⟩, by rw [eS_no (by omega)]; exact i8, by rw [oS_no (by omega)]; exact i9, by rw [cK_no (by omega)]; exact i10⟩
  · intro k hk8
    by_cases e : k = nS
    · subst e
      rw [upN_at, upN_at, upN_at]
      exact ⟨hr.1, by omega, by omega⟩
    · rw [upN_ne e, upN_ne e, upN_ne e]
      exact o3 k hk8
  · have := o4 i hi
    omega
  · intro k hk8
    have e0 : bS l (K + 1) = upN (bS l K) (cK l 1 K) (rdBits l (fun i => sb (bS l K i) 8 8) (hd l K + 3) (lnA l K)) := by
      show (if kdA l K = 1 then _ else _) = _
      rw [if_pos hk]
    rw [e0, ← i1]
    by_cases e : k = nS
    · subst e
      rw [upN_at, upN_at, upN_at, upN_at]
      refine ⟨rdBits_cong (fun hne => ?_), hr.2⟩
      have := i3 (l.getD (hd l K + 3) 0 - 1) (by omega)
      rw [this.2, this.1]
    · rw [upN_ne e, upN_ne e, upN_ne e, upN_ne e]
      exact i3 k (by omega)
  · rw [pS_no (by omega), pS_no (by omega)]
    exact i4
theorem plU_lo {l : List Nat} {fr nP o : Nat} {ps : Nat → Nat} {i : Nat} (hi : i < nP) : ∀ m, plU l fr nP o ps m i = ps i
  | 0 => rfl
  | m + 1 => by
    show upN (plU l fr nP o ps m) (nP + m) _ i = _
    rw [upN_ne (by omega)]
    exact plU_lo hi m
theorem plU_hi {l : List Nat} {fr nP o : Nat} {ps : Nat → Nat} {i : Nat} : ∀ m, i < m → plU l fr nP o ps m (nP + i) = l.getD (fr + 2 * i + o) 0
  | 0, h => absurd h (Nat.not_lt_zero _)
  | m + 1, h => by
    show upN (plU l fr nP o ps m) (nP + m) _ (nP + i) = _
    by_cases e : i = m
    · subst e
      rw [upN_at]
    · rw [upN_ne (by omega)]
      exact plU_hi m (by omega)
theorem plU_cong {l : List Nat} {fr nP o : Nat} {ps qs : Nat → Nat} (h : ∀ i, i < nP → ps i = qs i) {m i : Nat} (hi : i < nP + m) : plU l fr nP o ps m i = plU l fr nP o qs m i := by
  by_cases e : i < nP
  · rw [plU_lo e, plU_lo e, h i e]
  · obtain ⟨j, rfl⟩ : ∃ j, i = nP + j := ⟨i - nP, by omega⟩
    rw [plU_hi m (by omega), plU_hi m (by omega)]
theorem is_pl {l : List Nat} {K nS nP : Nat} {b w h ps sp : Nat → Nat} {ce0 co0 ce1 co1 : Nat → Int32} {cm0 cm1 : Bool} (hl : bytesOK l) (O : pgOK nS nP b w h ps sp) (I : pgIs l K nS nP b w h ps sp ce0 co0 cm0 ce1 co1 cm1) (hk : kdA l K = 2) (G : plG l nS nP (hd l K + 3) (lnA l K)) : pgOK nS (nP + lnA l K / 2) b w h (plU l (hd l K + 3) nP 0 ps (lnA l K / 2)) (plU l (hd l K + 3) nP 1 sp (lnA l K / 2)) ∧ pgIs l (K + 1) nS (nP + lnA l K / 2) b w h (plU l (hd l K + 3) nP 0 ps (lnA l K / 2)) (plU l (hd l K + 3) nP 1 sp (lnA l K / 2)) ce0 co0 cm0 ce1 co1 cm1 := by
  obtain ⟨o1, o2, o3, o4⟩ := O
  obtain ⟨⟨i1, i2⟩, i3, i4, ⟨i5, i6, i7⟩, i8, i9, i10⟩ := I
  obtain ⟨g1, g2, g3⟩ := G
  refine ⟨⟨o1, by omega, o3, fun i hi => ?_⟩, ⟨by rw [cK_no (by omega)]; exact i1, ?_⟩, ?_, ?_, ⟨by rw [eS_no (by omega)]; exact i5, by rw [oS_no (by omega)]; exact i6, by rw [cK_no (by omega)]; exact i7⟩, by rw [eS_no (by omega)]; exact i8, by rw [oS_no (by omega)]; exact i9, by rw [cK_no (by omega)]; exact i10⟩
  · by_cases e : i < nP
    · rw [plU_lo e, plU_lo e]
      exact o4 i e
    · obtain ⟨j, rfl⟩ : ∃ j, i = nP + j := ⟨i - nP, by omega⟩
      rw [plU_hi _ (by omega), plU_hi _ (by omega)]
      exact ⟨g3 j (by omega), hl.2 _⟩
  · show _ = cP l K + (if kdA l K = 2 then lnA l K / 2 else 0)
    rw [if_pos hk, i2]
  · rw [bS_no (by omega)]
    exact i3
  · have e0 : ∀ o, pS l o (K + 1) = plU l (hd l K + 3) (cP l K) o (pS l o K) (lnA l K / 2) := by
      intro o
      show (if kdA l K = 2 then _ else _) = _
      rw [if_pos hk]
    intro i hi
    rw [e0, e0, ← i2]
    exact ⟨plU_cong (fun j hj => (i4 j hj).1) hi, plU_cong (fun j hj => (i4 j hj).2) hi⟩
theorem is_l0 {l : List Nat} {K nS nP : Nat} {b w h ps sp : Nat → Nat} {ce0 co0 ce1 co1 : Nat → Int32} {cm0 cm1 : Bool} (I : pgIs l K nS nP b w h ps sp ce0 co0 cm0 ce1 co1 cm1) (hk : kdA l K = 3) : pgIs l (K + 1) nS nP b w h ps sp (lyCE l 8 (hd l K + 3) (lnA l K)) (lyCV l 8 (hd l K + 3) (lnA l K)) true ce1 co1 cm1 := by
  obtain ⟨⟨i1, i2⟩, i3, i4, ⟨i5, i6, i7⟩, i8, i9, i10⟩ := I
  refine ⟨⟨by rw [cK_no (by omega)]; exact i1, by rw [cP_no (by omega)]; exact i2⟩, by rw [bS_no (by omega)]; exact i3, by rw [pS_no (by omega), pS_no (by omega)]; exact i4, ⟨?_, ?_, ?_⟩, by rw [eS_no (by omega)]; exact i8, by rw [oS_no (by omega)]; exact i9, by rw [cK_no (by omega)]; exact i10⟩
  · show _ = (if kdA l K = 3 then _ else _)
    rw [if_pos hk]
  · show _ = (if kdA l K = 3 then _ else _)
    rw [if_pos hk]
  · rw [cK_yes hk, decide_eq_true (by omega)]
theorem is_l1 {l : List Nat} {K nS nP : Nat} {b w h ps sp : Nat → Nat} {ce0 co0 ce1 co1 : Nat → Int32} {cm0 cm1 : Bool} (I : pgIs l K nS nP b w h ps sp ce0 co0 cm0 ce1 co1 cm1) (hk : kdA l K = 4) : pgIs l (K + 1) nS nP b w h ps sp ce0 co0 cm0 (lyCE l 4 (hd l K + 3) (lnA l K)) (lyCV l 4 (hd l K + 3) (lnA l K)) true := by
  obtain ⟨⟨i1, i2⟩, i3, i4, ⟨i5, i6, i7⟩, i8, i9, i10⟩ := I
  refine ⟨⟨by rw [cK_no (by omega)]; exact i1, by rw [cP_no (by omega)]; exact i2⟩, by rw [bS_no (by omega)]; exact i3, by rw [pS_no (by omega), pS_no (by omega)]; exact i4, ⟨by rw [eS_no (by omega)]; exact i5, by rw [oS_no (by omega)]; exact i6, by rw [cK_no (by omega)]; exact i7⟩, ?_, ?_, ?_⟩
  · show _ = (if kdA l K = 4 then _ else _)
    rw [if_pos hk]
  · show _ = (if kdA l K = 4 then _ else _)
    rw [if_pos hk]
  · rw [cK_yes hk, decide_eq_true (by omega)]
/-- before a layer of its kind comes, the coefficients are 0 -/
theorem oS_0 {l : List Nat} {kd n : Nat} : ∀ {K : Nat}, cK l kd K = 0 → oS l kd n K = fun _ => nI 0
  | 0, _ => rfl
  | K + 1, h => by
    by_cases e : kdA l K = kd
    · rw [cK_yes e] at h; omega
    · rw [cK_no e] at h
      rw [oS_no e]
      exact oS_0 h
theorem pgIs_0 (l : List Nat) (b w h ps sp : Nat → Nat) : pgIs l 0 0 0 b w h ps sp (fun _ => nI 0) (fun _ => nI 0) false (fun _ => nI 0) (fun _ => nI 0) false :=
  ⟨⟨rfl, rfl⟩, fun k hk => absurd hk (Nat.not_lt_zero _), fun k hk => absurd hk (Nat.not_lt_zero _), ⟨rfl, rfl, rfl⟩, rfl, rfl, rfl⟩
/-- a chunk that is without a fault -/
theorem szO_eq (l : List Nat) (k : Nat) (hh : hd l k < l.length) : (szO l (hd l k) = none ∧ (l.length < hd l k + 3 + lnA l k)) ∨ (szO l (hd l k) = some (lnA l k) ∧ hd l k + 3 + lnA l k ≤ l.length) := by
  unfold szO
  by_cases h1 : l.length < hd l k + 3
  · rw [if_pos h1]
    exact Or.inl ⟨rfl, by omega⟩
  · rw [if_neg h1]
    by_cases h2 : l.length < hd l k + 3 + (256 * l.getD (hd l k + 1) 0 + l.getD (hd l k + 2) 0)
    · rw [if_pos h2]
      exact Or.inl ⟨rfl, h2⟩
    · rw [if_neg h2]
      exact Or.inr ⟨rfl, by show hd l k + 3 + (256 * l.getD (hd l k + 1) 0 + l.getD (hd l k + 2) 0) ≤ _; omega⟩
