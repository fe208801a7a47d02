/-! LayeredPage$Layer: cells -/
def wLy (g : Gl) (A : Nat → Nat) (n : Nat) (ce co cd li : Nat → Int32) (cm : Bool) : va_W := [(A 0, .inr (4, [.int (nI n), .ref (A 1), .ref (A 2), .ref (A 3), .ref (A 4), .int (bI cm)])), (A 1, .inl (g.2.1, n * n, .inl ce)), (A 2, .inl (g.2.1, n * n, .inl co)), (A 3, .inl (g.2.1, n * n, .inl cd)), (A 4, .inl (g.2.1, n, .inl li))]
theorem nn_le {n : Nat} (hn : n = 4 ∨ n = 8) : n * n ≤ 64 ∧ 4 ≤ n ∧ n ≤ 8 := by
  rcases hn with rfl | rfl <;> decide
theorem ix_lt {n y x : Nat} (hy : y < n) (hx : x < n) : n * y + x < n * n := by
  have h : n * (y + 1) ≤ n * n := Nat.mul_le_mul_left _ hy
  rw [Nat.mul_add] at h
  omega
def inR (n : Nat) (x : Int32) : Bool := decide (0 ≤ x ∧ x < nI n)
theorem inR_lo {n : Nat} {x : Int32} (h : x < 0) : inR n x = false := by
  unfold inR
  rw [decide_eq_false_iff_not]
  exact fun q => Int32.not_lt.mpr q.1 h
theorem inR_hi {n : Nat} {x : Int32} (h : nI n ≤ x) : inR n x = false := by
  unfold inR
  rw [decide_eq_false_iff_not]
  exact fun q => Int32.not_lt.mpr h q.2
theorem inR_in {n j : Nat} (h : j < n) (hn : n < 2 ^ 31) : inR n (nI j) = true := by
  unfold inR
  rw [decide_eq_true_iff]
  exact ⟨nI_pos' (by omega), nI_lt h hn⟩
theorem inR_of {n : Nat} {x : Int32} (hn : n < 2 ^ 31) (h : inR n x = true) : ∃ j, j < n ∧ x = nI j := by
  unfold inR at h
  rw [decide_eq_true_iff] at h
  exact i32_nat (Int32.not_lt.mpr h.1) (fun q => Int32.not_lt.mpr q h.2) hn
def lyAt (n : Nat) (ce : Nat → Int32) (x y d : Int32) : Int32 := if inR n x && inR n y then ce (n * y.toNatClampNeg + x.toNatClampNeg) else d
theorem lyAt_in {n i j : Nat} {ce : Nat → Int32} {d : Int32} (hi : i < n) (hj : j < n) (hn : n < 2 ^ 31) : lyAt n ce (nI i) (nI j) d = ce (n * j + i) := by
  unfold lyAt
  rw [inR_in hi hn, inR_in hj hn, nI_clamp (by omega), nI_clamp (by omega)]
  rfl
theorem lyAt_out {n : Nat} {ce : Nat → Int32} {x y d : Int32} (h : (inR n x && inR n y) = false) : lyAt n ce x y d = d := by
  unfold lyAt
  rw [h]
  rfl
set_option maxRecDepth 100000 in
set_option maxHeartbeats 4000000 in
theorem c_Ly_empty (l : Launch) (g : Gl) (A : Nat → Nat) (n : Nat) (ce co cd li : Nat → Int32) (cm : Bool) (hn : n = 4 ∨ n = 8) : Ct l g y_Ly_makeEmpty b_Ly_makeEmpty 1 none (rmD 1) [.ref (A 0)] (wLy g A n ce co cd li cm) (fun u w => u = none ∧ w = wLy g A n (fun _ => nI 0) (fun _ => nI 0) cd li false) := by
  refine ct_of [some (.ref (A 0))] (by decide) (Nat.le_of_ble_eq_true rfl) rfl ?_
  intro X C E
  obtain ⟨hnn, hn4, hn8⟩ := nn_le hn
  refine sw_aload_n (pc := 0) C d_Ly_makeEmpty_0 rfl rfl ?_
  refine sw_get (pc := 1) C inLy 0 rfl rfl 1 (by decide) t_141 rfl rfl d_Ly_makeEmpty_1 ?_
  refine sw_iconst (pc := 4) C (nI 0) d_Ly_makeEmpty_4 (by decide) ?_
  refine sw_callSP (pc := 5) C (c_fill l g (A 1) (n * n) ce (nI 0) (by omega)) ss_Ar_fill t_309 [1] rfl rfl rfl rfl (Nat.le_of_ble_eq_true rfl) (Nat.le_of_ble_eq_true rfl) (Nat.le_of_ble_eq_true rfl) (Nat.le_of_ble_eq_true rfl) (Nat.le_of_ble_eq_true rfl) d_Ly_makeEmpty_5 (fun v w1 hp => ?_)
  obtain ⟨rfl, rfl⟩ := hp
  refine ⟨rfl, ?_⟩
  refine sw_ws (ws' := wLy g A n (fun _ => nI 0) co cd li cm) rfl ?_
  refine sw_aload_n (pc := 8) C d_Ly_makeEmpty_8 rfl rfl ?_
  refine sw_get (pc := 9) C inLy 0 rfl rfl 2 (by decide) t_142 rfl rfl d_Ly_makeEmpty_9 ?_
  refine sw_iconst (pc := 12) C (nI 0) d_Ly_makeEmpty_12 (by decide) ?_
  refine sw_callSP (pc := 13) C (c_fill l g (A 2) (n * n) co (nI 0) (by omega)) ss_Ar_fill t_309 [2] rfl rfl rfl rfl (Nat.le_of_ble_eq_true rfl) (Nat.le_of_ble_eq_true rfl) (Nat.le_of_ble_eq_true rfl) (Nat.le_of_ble_eq_true rfl) (Nat.le_of_ble_eq_true rfl) d_Ly_makeEmpty_13 (fun v w1 hp => ?_)
  obtain ⟨rfl, rfl⟩ := hp
  refine ⟨rfl, ?_⟩
  refine sw_ws (ws' := wLy g A n (fun _ => nI 0) (fun _ => nI 0) cd li cm) rfl ?_
  refine sw_aload_n (pc := 16) C d_Ly_makeEmpty_16 rfl rfl ?_
  refine sw_iconst (pc := 17) C (nI 0) d_Ly_makeEmpty_17 (by decide) ?_
  refine sw_put (pc := 18) C inLy 0 rfl rfl 5 (by decide) tyLy okLy nmLy t_145 rfl rfl (ty := .boolean) (by decide +kernel) rfl rfl (Nat.le_of_ble_eq_true rfl) d_Ly_makeEmpty_18 ?_
  exact sw_vret (pc := 21) C E rfl (Nat.le_of_ble_eq_true rfl) (Nat.le_of_ble_eq_true rfl) d_Ly_makeEmpty_21 ⟨rfl, rfl⟩
set_option maxRecDepth 100000 in
set_option maxHeartbeats 4000000 in
theorem c_hasCell (l : Launch) (g : Gl) (A : Nat → Nat) (n : Nat) (ce co cd li : Nat → Int32) (cm : Bool) (hn : n = 4 ∨ n = 8) (x y : Int32) : Ct l g y_Ly_hasCell b_Ly_hasCell 3 (some .boolean) (rmD 0) [.ref (A 0), .int x, .int y] (wLy g A n ce co cd li cm) (fun u w => u = some (.int (bI (inR n x && inR n y))) ∧ w = wLy g A n ce co cd li cm) := by
  refine ct_of [some (.ref (A 0)), some (.int x), some (.int y)] (by decide) (Nat.le_of_ble_eq_true rfl) rfl ?_
  intro X C E
  obtain ⟨hnn, hn4, hn8⟩ := nn_le hn
  refine sw_iload_n (pc := 0) C d_Ly_hasCell_0 rfl rfl ?_
  refine sw_if_lt (pc := 1) C 28 d_Ly_hasCell_1 (by decide) (fun h1 => ?_) (fun h1 => ?_)
  · skip
    refine sw_iconst (pc := 28) C (nI 0) d_Ly_hasCell_28 (by decide) ?_
    refine sw_topi (z := bI (inR n x && inR n y)) (by rw [inR_lo h1]; simp [bI]; rfl) ?_
    exact sw_zret (pc := 29) C E rfl (bI_nar _) (Nat.le_of_ble_eq_true rfl) (Nat.le_of_ble_eq_true rfl) d_Ly_hasCell_29 ⟨rfl, rfl⟩
  refine sw_iload_n (pc := 4) C d_Ly_hasCell_4 rfl rfl ?_
  refine sw_aload_n (pc := 5) C d_Ly_hasCell_5 rfl rfl ?_
  refine sw_get (pc := 6) C inLy 0 rfl rfl 0 (by decide) t_139 rfl rfl d_Ly_hasCell_6 ?_
  refine sw_topi (z := nI n) rfl ?_
  refine sw_icmp_ge (pc := 9) C 28 d_Ly_hasCell_9 (by decide) (fun h2 => ?_) (fun h2 => ?_)
  · skip
    refine sw_iconst (pc := 28) C (nI 0) d_Ly_hasCell_28 (by decide) ?_
    refine sw_topi (z := bI (inR n x && inR n y)) (by rw [inR_hi h2]; simp [bI]; rfl) ?_
    exact sw_zret (pc := 29) C E rfl (bI_nar _) (Nat.le_of_ble_eq_true rfl) (Nat.le_of_ble_eq_true rfl) d_Ly_hasCell_29 ⟨rfl, rfl⟩
  refine sw_iload_n (pc := 12) C d_Ly_hasCell_12 rfl rfl ?_
  refine sw_if_lt (pc := 13) C 28 d_Ly_hasCell_13 (by decide) (fun h3 => ?_) (fun h3 => ?_)
  · skip
    refine sw_iconst (pc := 28) C (nI 0) d_Ly_hasCell_28 (by decide) ?_
    refine sw_topi (z := bI (inR n x && inR n y)) (by rw [inR_lo (x := y) h3]; simp [bI]; rfl) ?_
    exact sw_zret (pc := 29) C E rfl (bI_nar _) (Nat.le_of_ble_eq_true rfl) (Nat.le_of_ble_eq_true rfl) d_Ly_hasCell_29 ⟨rfl, rfl⟩
  refine sw_iload_n (pc := 16) C d_Ly_hasCell_16 rfl rfl ?_
  refine sw_aload_n (pc := 17) C d_Ly_hasCell_17 rfl rfl ?_
  refine sw_get (pc := 18) C inLy 0 rfl rfl 0 (by decide) t_139 rfl rfl d_Ly_hasCell_18 ?_
  refine sw_topi (z := nI n) rfl ?_
  refine sw_icmp_ge (pc := 21) C 28 d_Ly_hasCell_21 (by decide) (fun h4 => ?_) (fun h4 => ?_)
  · skip
    refine sw_iconst (pc := 28) C (nI 0) d_Ly_hasCell_28 (by decide) ?_
    refine sw_topi (z := bI (inR n x && inR n y)) (by rw [inR_hi (x := y) h4]; simp [bI]; rfl) ?_
    exact sw_zret (pc := 29) C E rfl (bI_nar _) (Nat.le_of_ble_eq_true rfl) (Nat.le_of_ble_eq_true rfl) d_Ly_hasCell_29 ⟨rfl, rfl⟩
  obtain ⟨i, hi, rfl⟩ := i32_nat h1 h2 (by omega)
  obtain ⟨j, hj, rfl⟩ := i32_nat h3 h4 (by omega)
  refine sw_iconst (pc := 24) C (nI 1) d_Ly_hasCell_24 (by decide) ?_
  refine sw_goto (pc := 25) C 29 d_Ly_hasCell_25 (by decide) ?_
  refine sw_topi (z := bI (inR n (nI i) && inR n (nI j))) (by rw [inR_in hi (by omega), inR_in hj (by omega)]; rfl) ?_
  exact sw_zret (pc := 29) C E rfl (bI_nar _) (Nat.le_of_ble_eq_true rfl) (Nat.le_of_ble_eq_true rfl) d_Ly_hasCell_29 ⟨rfl, rfl⟩
set_option maxRecDepth 100000 in
set_option maxHeartbeats 4000000 in
theorem c_indexOf (l : Launch) (g : Gl) (A : Nat → Nat) (n : Nat) (ce co cd li : Nat → Int32) (cm : Bool) (hn : n = 4 ∨ n = 8) (x y : Nat) : Ct l g y_Ly_indexOf b_Ly_indexOf 3 (some .int) (rmD 0) [.ref (A 0), .int (nI x), .int (nI y)] (wLy g A n ce co cd li cm) (fun u w => u = some (.int (nI (n * y + x))) ∧ w = wLy g A n ce co cd li cm) := by
  refine ct_of [some (.ref (A 0)), some (.int (nI x)), some (.int (nI y))] (by decide) (Nat.le_of_ble_eq_true rfl) rfl ?_
  intro X C E
  refine sw_aload_n (pc := 0) C d_Ly_indexOf_0 rfl rfl ?_
  refine sw_get (pc := 1) C inLy 0 rfl rfl 0 (by decide) t_139 rfl rfl d_Ly_indexOf_1 ?_
  refine sw_topi (z := nI n) rfl ?_
  refine sw_iload_n (pc := 4) C d_Ly_indexOf_4 rfl rfl ?_
  refine sw_imul (pc := 5) C d_Ly_indexOf_5 ?_
  refine sw_topi (z := nI (n * y)) (pk_mul _ _) ?_
  refine sw_iload_n (pc := 6) C d_Ly_indexOf_6 rfl rfl ?_
  refine sw_iadd (pc := 7) C d_Ly_indexOf_7 ?_
  refine sw_topi (z := nI ((n * y) + x)) (nI_add _ _) ?_
  exact sw_iret (pc := 8) C E rfl (Nat.le_of_ble_eq_true rfl) (Nat.le_of_ble_eq_true rfl) d_Ly_indexOf_8 ⟨rfl, rfl⟩
set_option maxRecDepth 100000 in
set_option maxHeartbeats 4000000 in
theorem c_cellAt (l : Launch) (g : Gl) (A : Nat → Nat) (n : Nat) (ce co cd li : Nat → Int32) (cm : Bool) (hn : n = 4 ∨ n = 8) (x y : Int32) : Ct l g y_Ly_cellAt b_Ly_cellAt 3 (some .int) (rmD 1) [.ref (A 0), .int x, .int y] (wLy g A n ce co cd li cm) (fun u w => u = some (.int (lyAt n ce x y (-1))) ∧ w = wLy g A n ce co cd li cm) := by
  refine ct_of [some (.ref (A 0)), some (.int x), some (.int y)] (by decide) (Nat.le_of_ble_eq_true rfl) rfl ?_
  intro X C E
  obtain ⟨hnn, hn4, hn8⟩ := nn_le hn
  refine sw_aload_n (pc := 0) C d_Ly_cellAt_0 rfl rfl ?_
  refine sw_iload_n (pc := 1) C d_Ly_cellAt_1 rfl rfl ?_
  refine sw_iload_n (pc := 2) C d_Ly_cellAt_2 rfl rfl ?_
  refine sw_callVR (pc := 3) C (c_hasCell l g A n ce co cd li cm hn x y) sv_Ly_hasCell t_533 rfl rfl rfl [0, 1, 2, 3, 4] rfl rfl rfl rfl (Nat.le_of_ble_eq_true rfl) (Nat.le_of_ble_eq_true rfl) (Nat.le_of_ble_eq_true rfl) (Nat.le_of_ble_eq_true rfl) (Nat.le_of_ble_eq_true rfl) d_Ly_cellAt_3 (fun v w1 hp => ?_)
  obtain ⟨rfl, rfl⟩ := hp
  refine ⟨rfl, ?_⟩
  refine sw_if_eqB (pc := 6) C 23 d_Ly_cellAt_6 (by decide) (fun h1 => ?_) (fun h1 => ?_)
  · skip
    refine sw_iconst (pc := 23) C (-1) d_Ly_cellAt_23 (by decide) ?_
    exact sw_iret (pc := 24) C E rfl (Nat.le_of_ble_eq_true rfl) (Nat.le_of_ble_eq_true rfl) d_Ly_cellAt_24 ⟨by rw [lyAt_out h1], rfl⟩
  obtain ⟨i, hi, rfl⟩ := inR_of (by omega) (Bool.and_eq_true_iff.mp h1).1
  obtain ⟨j, hj, rfl⟩ := inR_of (by omega) (Bool.and_eq_true_iff.mp h1).2
  have hix := ix_lt hj hi
  refine sw_aload_n (pc := 9) C d_Ly_cellAt_9 rfl rfl ?_
  refine sw_get (pc := 10) C inLy 0 rfl rfl 1 (by decide) t_141 rfl rfl d_Ly_cellAt_10 ?_
  refine sw_aload_n (pc := 13) C d_Ly_cellAt_13 rfl rfl ?_
  refine sw_iload_n (pc := 14) C d_Ly_cellAt_14 rfl rfl ?_
  refine sw_iload_n (pc := 15) C d_Ly_cellAt_15 rfl rfl ?_
  refine sw_callVR (pc := 16) C (c_indexOf l g A n ce co cd li cm hn i j) sv_Ly_indexOf t_293 rfl rfl rfl [0, 1, 2, 3, 4] rfl rfl rfl rfl (Nat.le_of_ble_eq_true rfl) (Nat.le_of_ble_eq_true rfl) (Nat.le_of_ble_eq_true rfl) (Nat.le_of_ble_eq_true rfl) (Nat.le_of_ble_eq_true rfl) d_Ly_cellAt_16 (fun v w1 hp => ?_)
  obtain ⟨rfl, rfl⟩ := hp
  refine ⟨rfl, ?_⟩
  refine sw_ialdN (pc := 19) C 1 (n * j + i) rfl rfl (by omega) (by omega) d_Ly_cellAt_19 ?_
  refine sw_goto (pc := 20) C 24 d_Ly_cellAt_20 (by decide) ?_
  exact sw_iret (pc := 24) C E rfl (Nat.le_of_ble_eq_true rfl) (Nat.le_of_ble_eq_true rfl) d_Ly_cellAt_24 ⟨by rw [lyAt_in hi hj (by omega)], rfl⟩
set_option maxRecDepth 100000 in
set_option maxHeartbeats 4000000 in
theorem c_coefAt (l : Launch) (g : Gl) (A : Nat → Nat) (n : Nat) (ce co cd li : Nat → Int32) (cm : Bool) (hn : n = 4 ∨ n = 8) (x y : Int32) : Ct l g y_Ly_coefficientAt b_Ly_coefficientAt 3 (some .int) (rmD 1) [.ref (A 0), .int x, .int y] (wLy g A n ce co cd li cm) (fun u w => u = some (.int (lyAt n co x y 0)) ∧ w = wLy g A n ce co cd li cm) := by
  refine ct_of [some (.ref (A 0)), some (.int x), some (.int y)] (by decide) (Nat.le_of_ble_eq_true rfl) rfl ?_
  intro X C E
  obtain ⟨hnn, hn4, hn8⟩ := nn_le hn
  refine sw_aload_n (pc := 0) C d_Ly_coefficientAt_0 rfl rfl ?_
  refine sw_iload_n (pc := 1) C d_Ly_coefficientAt_1 rfl rfl ?_
  refine sw_iload_n (pc := 2) C d_Ly_coefficientAt_2 rfl rfl ?_
  refine sw_callVR (pc := 3) C (c_hasCell l g A n ce co cd li cm hn x y) sv_Ly_hasCell t_533 rfl rfl rfl [0, 1, 2, 3, 4] rfl rfl rfl rfl (Nat.le_of_ble_eq_true rfl) (Nat.le_of_ble_eq_true rfl) (Nat.le_of_ble_eq_true rfl) (Nat.le_of_ble_eq_true rfl) (Nat.le_of_ble_eq_true rfl) d_Ly_coefficientAt_3 (fun v w1 hp => ?_)
  obtain ⟨rfl, rfl⟩ := hp
  refine ⟨rfl, ?_⟩
  refine sw_if_eqB (pc := 6) C 23 d_Ly_coefficientAt_6 (by decide) (fun h1 => ?_) (fun h1 => ?_)
  · skip
    refine sw_iconst (pc := 23) C (nI 0) d_Ly_coefficientAt_23 (by decide) ?_
    exact sw_iret (pc := 24) C E rfl (Nat.le_of_ble_eq_true rfl) (Nat.le_of_ble_eq_true rfl) d_Ly_coefficientAt_24 ⟨by rw [lyAt_out h1]; rfl, rfl⟩
  obtain ⟨i, hi, rfl⟩ := inR_of (by omega) (Bool.and_eq_true_iff.mp h1).1
  obtain ⟨j, hj, rfl⟩ := inR_of (by omega) (Bool.and_eq_true_iff.mp h1).2
  have hix := ix_lt hj hi
  refine sw_aload_n (pc := 9) C d_Ly_coefficientAt_9 rfl rfl ?_
  refine sw_get (pc := 10) C inLy 0 rfl rfl 2 (by decide) t_142 rfl rfl d_Ly_coefficientAt_10 ?_
  refine sw_aload_n (pc := 13) C d_Ly_coefficientAt_13 rfl rfl ?_
  refine sw_iload_n (pc := 14) C d_Ly_coefficientAt_14 rfl rfl ?_
  refine sw_iload_n (pc := 15) C d_Ly_coefficientAt_15 rfl rfl ?_
  refine sw_callVR (pc := 16) C (c_indexOf l g A n ce co cd li cm hn i j) sv_Ly_indexOf t_293 rfl rfl rfl [0, 1, 2, 3, 4] rfl rfl rfl rfl (Nat.le_of_ble_eq_true rfl) (Nat.le_of_ble_eq_true rfl) (Nat.le_of_ble_eq_true rfl) (Nat.le_of_ble_eq_true rfl) (Nat.le_of_ble_eq_true rfl) d_Ly_coefficientAt_16 (fun v w1 hp => ?_)
  obtain ⟨rfl, rfl⟩ := hp
  refine ⟨rfl, ?_⟩
  refine sw_ialdN (pc := 19) C 2 (n * j + i) rfl rfl (by omega) (by omega) d_Ly_coefficientAt_19 ?_
  refine sw_goto (pc := 20) C 24 d_Ly_coefficientAt_20 (by decide) ?_
  exact sw_iret (pc := 24) C E rfl (Nat.le_of_ble_eq_true rfl) (Nat.le_of_ble_eq_true rfl) d_Ly_coefficientAt_24 ⟨by rw [lyAt_in hi hj (by omega)], rfl⟩
def rowSet (G : Nat → Nat → Int32) (r m : Nat) (f : Nat → Int32) : Nat → Nat → Int32 := fun y x => if y = r ∧ x < m then f x else G y x
theorem rowSet_up {G : Nat → Nat → Int32} {r m : Nat} {f : Nat → Int32} : up2 (rowSet G r m f) r m (f m) = rowSet G r (m + 1) f := by
  funext y x
  unfold up2 rowSet
  by_cases h : y = r
  · by_cases h2 : x = m
    · rw [if_pos ⟨h, h2⟩, if_pos ⟨h, by omega⟩, h2]
    · rw [if_neg (fun q => h2 q.2)]
      by_cases h3 : x < m
      · rw [if_pos ⟨h, h3⟩, if_pos ⟨h, by omega⟩]
      · rw [if_neg (fun q => h3 q.2), if_neg (fun q => by omega)]
  · rw [if_neg (fun q => h q.1), if_neg (fun q => h q.1), if_neg (fun q => h q.1)]
theorem rowSet_0 (G : Nat → Nat → Int32) (r : Nat) (f : Nat → Int32) : rowSet G r 0 f = G := by
  funext y x
  unfold rowSet
  rw [if_neg (by omega)]
def ocB (oc : Nat) (x : Nat) : Int32 := nI (oc / 2 ^ (8 * x) % 256)
set_option maxRecDepth 100000 in
set_option maxHeartbeats 4000000 in
theorem c_setRow (l : Launch) (g : Gl) (A : Nat → Nat) (n : Nat) (G : Nat → Nat → Int32) (co cd li : Nat → Int32) (cm : Bool) (hn : n = 4 ∨ n = 8) (r oc : Nat) (hr : r < n) (ho : oc < 2 ^ 64) : Ct l g y_Ly_setRow b_Ly_setRow 5 none (rmD 1) [.ref (A 0), .int (nI r), .long (lN oc)] (wLy g A n (flat n (G)) co cd li cm) (fun u w => u = none ∧ w = wLy g A n (flat n (rowSet G r n (ocB oc))) co cd li cm) := by
  refine ct_of [some (.ref (A 0)), some (.int (nI r)), some (.long (lN oc)), none, none] (by decide) (Nat.le_of_ble_eq_true rfl) rfl ?_
  intro X C E
  obtain ⟨hnn, hn4, hn8⟩ := nn_le hn
  refine sw_iconst (pc := 0) C (nI 0) d_Ly_setRow_0 (by decide) ?_
  refine sw_istore (pc := 1) C d_Ly_setRow_1 (by decide) rfl ?_
  have key : ∀ (d x : Nat), x + d = n → SW X g 5 0 0 (wLy g A n (flat n (rowSet G r x (ocB oc))) co cd li cm) 3 [some (.ref (A 0)), some (.int (nI r)), some (.long (lN oc)), none, some (.int (nI x))] [] := by
    intro d
    induction d with
    | zero =>
      intro x hx
      refine sw_iload (pc := 3) C d_Ly_setRow_3 rfl ?_
      refine sw_aload_n (pc := 5) C d_Ly_setRow_5 rfl rfl ?_
      refine sw_get (pc := 6) C inLy 0 rfl rfl 0 (by decide) t_139 rfl rfl d_Ly_setRow_6 ?_
      refine sw_topi (z := nI n) rfl ?_
      refine sw_icmp_geN (pc := 9) C 42 (by omega) (by omega) d_Ly_setRow_9 (by decide) (fun h1 => ?_) (fun h1 => ?_)
      · skip
        rw [show x = n by omega]
        exact sw_vret (pc := 42) C E rfl (Nat.le_of_ble_eq_true rfl) (Nat.le_of_ble_eq_true rfl) d_Ly_setRow_42 ⟨rfl, rfl⟩
      omega
    | succ d ih =>
      intro x hx
      refine sw_iload (pc := 3) C d_Ly_setRow_3 rfl ?_
      refine sw_aload_n (pc := 5) C d_Ly_setRow_5 rfl rfl ?_
      refine sw_get (pc := 6) C inLy 0 rfl rfl 0 (by decide) t_139 rfl rfl d_Ly_setRow_6 ?_
      refine sw_topi (z := nI n) rfl ?_
      refine sw_icmp_geN (pc := 9) C 42 (by omega) (by omega) d_Ly_setRow_9 (by decide) (fun h1 => ?_) (fun h1 => ?_)
      · skip
        omega
      have hix := ix_lt hr h1
      refine sw_aload_n (pc := 12) C d_Ly_setRow_12 rfl rfl ?_
      refine sw_get (pc := 13) C inLy 0 rfl rfl 1 (by decide) t_141 rfl rfl d_Ly_setRow_13 ?_
      refine sw_aload_n (pc := 16) C d_Ly_setRow_16 rfl rfl ?_
      refine sw_iload (pc := 17) C d_Ly_setRow_17 rfl ?_
      refine sw_iload_n (pc := 19) C d_Ly_setRow_19 rfl rfl ?_
      refine sw_callVR (pc := 20) C (c_indexOf l g A n (flat n (rowSet G r x (ocB oc))) co cd li cm hn x r) sv_Ly_indexOf t_293 rfl rfl rfl [0, 1, 2, 3, 4] rfl rfl rfl rfl (Nat.le_of_ble_eq_true rfl) (Nat.le_of_ble_eq_true rfl) (Nat.le_of_ble_eq_true rfl) (Nat.le_of_ble_eq_true rfl) (Nat.le_of_ble_eq_true rfl) d_Ly_setRow_20 (fun v w1 hp => ?_)
      obtain ⟨rfl, rfl⟩ := hp
      refine ⟨rfl, ?_⟩
      refine sw_lload_n (pc := 23) C d_Ly_setRow_23 rfl rfl ?_
      refine sw_bipush (pc := 24) C (nI 8) d_Ly_setRow_24 (by decide) ?_
      refine sw_iload (pc := 26) C d_Ly_setRow_26 rfl ?_
      refine sw_imul (pc := 28) C d_Ly_setRow_28 ?_
      refine sw_topi (z := nI (8 * x)) (pk_mul _ _) ?_
      refine sw_lushr (pc := 29) C d_Ly_setRow_29 ?_
      refine sw_topl (z := lN (oc / 2 ^ (8 * x))) (wb_shr ho (by omega)) ?_
      refine sw_l2i (pc := 30) C d_Ly_setRow_30 ?_
      refine sw_topi (z := nI (oc / 2 ^ (8 * x))) (lN_i _) ?_
      refine sw_sipush (pc := 31) C (nI 255) d_Ly_setRow_31 (by decide) ?_
      refine sw_iand (pc := 34) C d_Ly_setRow_34 ?_
      refine sw_topi (z := ocB oc x) (and255 _) ?_
      refine sw_iastN (pc := 35) C 1 (n * r + x) rfl rfl (by omega) (by omega) d_Ly_setRow_35 ?_
      refine sw_ws (ws' := wLy g A n (flat n (rowSet G r (x + 1) (ocB oc))) co cd li cm) (by rw [← rowSet_up, ← flat_up h1]; rfl) ?_
      refine sw_iincN (pc := 36) C 1 d_Ly_setRow_36 rfl (by decide) (by decide) rfl ?_
      refine sw_goto (pc := 39) C 3 d_Ly_setRow_39 (by decide) ?_
      exact ih (x + 1) (by omega)
  have k0 := key n 0 (by omega)
  rw [rowSet_0] at k0
  exact k0
