/-! the reference: what was read -/
def hasB (th : Bool) (k x y : Int32) : Bool := th && inR 2 k && (inR (sdN k) x && inR (sdN k) y)
theorem sdN_or (k : Int32) : sdN k = 8 ∨ sdN k = 4 := by
  unfold sdN
  split
  · exact Or.inl rfl
  · exact Or.inr rfl
theorem clp_eq (v : Int32) : clp v = if v < 0 then nI 0 else if nI 63 < v then nI 63 else v := by
  unfold clp
  by_cases h : v < 0
  · rw [if_pos h, if_pos (Int32.lt_trans h (by decide)), if_neg (show ¬ nI 0 < v from Int32.not_lt.mpr (Int32.le_of_lt h))]
  · rw [if_neg h]
    by_cases h2 : nI 63 < v
    · rw [if_pos h2, if_neg (Int32.not_lt.mpr (Int32.le_of_lt h2)), if_pos (by decide)]
    · rw [if_neg h2]
      have h3 := Int32.not_lt.mp h2
      have h0 := Int32.not_lt.mp h
      by_cases e : v < nI 63
      · rw [if_pos e]
        by_cases e0 : nI 0 < v
        · rw [if_pos e0]
        · rw [if_neg e0]
          exact Int32.le_antisymm h0 (Int32.not_lt.mp e0)
      · rw [if_neg e, if_pos (by decide)]
        exact Int32.le_antisymm (Int32.not_lt.mp e) h3
/-- cells, coefficients by rows of eight: both layers -/
def ly2 (un : Nat → Int32) (ce0 ce1 : Nat → Int32) (F : Int32 → Int32) : Prop := (∀ y x, y < 8 → x < 8 → F (un (8 * y + x)) = ce0 (8 * y + x)) ∧ ∀ y x, y < 4 → x < 4 → F (un (64 + (8 * y + x))) = ce1 (4 * y + x)
theorem cel_no {th : Bool} {k x y d : Int32} {ce0 ce1 : Nat → Int32} (h : hasB th k x y = false) : celV th k ce0 ce1 x y d = d := by
  unfold celV
  by_cases h0 : th = true ∧ k = 0
  · rw [if_pos h0]
    obtain ⟨rfl, rfl⟩ := h0
    exact lyAt_out h
  · rw [if_neg h0]
    by_cases h1 : th = true ∧ k = 1
    · rw [if_pos h1]
      obtain ⟨rfl, rfl⟩ := h1
      exact lyAt_out h
    · rw [if_neg h1]
theorem cel_yes {th : Bool} {k x y : Int32} (h : hasB th k x y = true) : th = true ∧ ∃ kn i j : Nat, k = nI kn ∧ x = nI i ∧ y = nI j ∧ ((kn = 0 ∧ i < 8 ∧ j < 8) ∨ (kn = 1 ∧ i < 4 ∧ j < 4)) := by
  unfold hasB at h
  simp only [Bool.and_eq_true] at h
  obtain ⟨⟨h1, h2⟩, h3, h4⟩ := h
  obtain ⟨kn, hk, rfl⟩ := inR_of (by decide) h2
  have hs := sdN_or (nI kn)
  obtain ⟨i, hi, rfl⟩ := inR_of (by omega) h3
  obtain ⟨j, hj, rfl⟩ := inR_of (by omega) h4
  refine ⟨h1, kn, i, j, rfl, rfl, rfl, ?_⟩
  have hk2 : kn = 0 ∨ kn = 1 := by omega
  rcases hk2 with rfl | rfl
  · exact Or.inl ⟨rfl, hi, hj⟩
  · exact Or.inr ⟨rfl, hi, hj⟩
theorem cel_in {un ce0 ce1 : Nat → Int32} {F : Int32 → Int32} {kn i j : Nat} {d : Int32} (H : ly2 un ce0 ce1 F) (h : (kn = 0 ∧ i < 8 ∧ j < 8) ∨ (kn = 1 ∧ i < 4 ∧ j < 4)) : celV true (nI kn) ce0 ce1 (nI i) (nI j) d = F (un (64 * kn + 8 * j + i)) ∧ 64 * kn + 8 * j + i < 128 := by
  rcases h with ⟨rfl, hi, hj⟩ | ⟨rfl, hi, hj⟩
  · refine ⟨?_, by omega⟩
    have e : celV true (nI 0) ce0 ce1 (nI i) (nI j) d = lyAt 8 ce0 (nI i) (nI j) d := by unfold celV; rw [if_pos ⟨rfl, rfl⟩]
    rw [e, lyAt_in hi hj (by decide), ← H.1 j i hj hi]
    congr 2
    omega
  · refine ⟨?_, by omega⟩
    have e : celV true (nI 1) ce0 ce1 (nI i) (nI j) d = lyAt 4 ce1 (nI i) (nI j) d := by unfold celV; rw [if_neg (fun q => absurd q.2 (by decide)), if_pos ⟨rfl, rfl⟩]
    rw [e, lyAt_in hi hj (by decide), ← H.2 j i hj hi]
    congr 2
    omega
set_option maxRecDepth 100000 in
set_option maxHeartbeats 4000000 in
theorem c_Md_shapes (l : Launch) (g : Gl) (R : Nat → Nat) (dn pl ln ss pt : Nat) (th rd : Bool) (wd sc : Nat) : Ct l g y_Md_shapes b_Md_shapes 1 (some .int) (rmD 0) [.ref (R 0)] ([mdC R dn pl ln ss pt th rd wd sc]) (fun u w => u = some (.int (if th = true then nI ss else -1)) ∧ w = [mdC R dn pl ln ss pt th rd wd sc]) := by
  refine ct_of [some (.ref (R 0))] (by decide) (Nat.le_of_ble_eq_true rfl) rfl ?_
  intro X C E
  refine sw_aload_n (pc := 0) C d_Md_shapes_0 rfl rfl ?_
  refine sw_get (pc := 1) C inMd 0 rfl rfl 11 (by decide) t_583 rfl rfl d_Md_shapes_1 ?_
  refine sw_if_eqB (pc := 4) C 14 d_Md_shapes_4 (by decide) (fun h1 => ?_) (fun h1 => ?_)
  · skip
    refine sw_iconst (pc := 14) C (-1) d_Md_shapes_14 (by decide) ?_
    exact sw_iret (pc := 15) C E rfl (Nat.le_of_ble_eq_true rfl) (Nat.le_of_ble_eq_true rfl) d_Md_shapes_15 ⟨by rw [if_neg (by rw [h1]; decide)], rfl⟩
  refine sw_aload_n (pc := 7) C d_Md_shapes_7 rfl rfl ?_
  refine sw_get (pc := 8) C inMd 0 rfl rfl 13 (by decide) t_585 rfl rfl d_Md_shapes_8 ?_
  refine sw_topi (z := nI ss) rfl ?_
  refine sw_goto (pc := 11) C 15 d_Md_shapes_11 (by decide) ?_
  exact sw_iret (pc := 15) C E rfl (Nat.le_of_ble_eq_true rfl) (Nat.le_of_ble_eq_true rfl) d_Md_shapes_15 ⟨by rw [if_pos h1], rfl⟩
set_option maxRecDepth 100000 in
set_option maxHeartbeats 4000000 in
theorem c_Md_placings (l : Launch) (g : Gl) (R : Nat → Nat) (dn pl ln ss pt : Nat) (th rd : Bool) (wd sc : Nat) : Ct l g y_Md_placings b_Md_placings 1 (some .int) (rmD 0) [.ref (R 0)] ([mdC R dn pl ln ss pt th rd wd sc]) (fun u w => u = some (.int (if th = true then nI pt else -1)) ∧ w = [mdC R dn pl ln ss pt th rd wd sc]) := by
  refine ct_of [some (.ref (R 0))] (by decide) (Nat.le_of_ble_eq_true rfl) rfl ?_
  intro X C E
  refine sw_aload_n (pc := 0) C d_Md_placings_0 rfl rfl ?_
  refine sw_get (pc := 1) C inMd 0 rfl rfl 11 (by decide) t_583 rfl rfl d_Md_placings_1 ?_
  refine sw_if_eqB (pc := 4) C 14 d_Md_placings_4 (by decide) (fun h1 => ?_) (fun h1 => ?_)
  · skip
    refine sw_iconst (pc := 14) C (-1) d_Md_placings_14 (by decide) ?_
    exact sw_iret (pc := 15) C E rfl (Nat.le_of_ble_eq_true rfl) (Nat.le_of_ble_eq_true rfl) d_Md_placings_15 ⟨by rw [if_neg (by rw [h1]; decide)], rfl⟩
  refine sw_aload_n (pc := 7) C d_Md_placings_7 rfl rfl ?_
  refine sw_get (pc := 8) C inMd 0 rfl rfl 16 (by decide) t_588 rfl rfl d_Md_placings_8 ?_
  refine sw_topi (z := nI pt) rfl ?_
  refine sw_goto (pc := 11) C 15 d_Md_placings_11 (by decide) ?_
  exact sw_iret (pc := 15) C E rfl (Nat.le_of_ble_eq_true rfl) (Nat.le_of_ble_eq_true rfl) d_Md_placings_15 ⟨by rw [if_pos h1], rfl⟩
set_option maxRecDepth 100000 in
set_option maxHeartbeats 4000000 in
theorem c_Md_glyph (l : Launch) (g : Gl) (R : Nat → Nat) (dn pl ln ss pt : Nat) (th rd : Bool) (wd sc : Nat) (sn : Nat → Int64) (b : Nat → Nat) (hss : th = true → ss ≤ 8 ∧ ∀ k, k < ss → sn k = lN (b k)) (k : Int32) : Ct l g y_Md_glyph b_Md_glyph 2 (some .long) (rmD 1) [.ref (R 0), .int k] ([mdC R dn pl ln ss pt th rd wd sc, laC g (R 9) 8 sn]) (fun u w => u = some (.long (glyV th ss b k)) ∧ w = [mdC R dn pl ln ss pt th rd wd sc, laC g (R 9) 8 sn]) := by
  refine ct_of [some (.ref (R 0)), some (.int k)] (by decide) (Nat.le_of_ble_eq_true rfl) rfl ?_
  intro X C E
  refine sw_aload_n (pc := 0) C d_Md_glyph_0 rfl rfl ?_
  refine sw_get (pc := 1) C inMd 0 rfl rfl 11 (by decide) t_583 rfl rfl d_Md_glyph_1 ?_
  refine sw_if_eqB (pc := 4) C 20 d_Md_glyph_4 (by decide) (fun h1 => ?_) (fun h1 => ?_)
  · skip
    refine sw_lconst (pc := 20) C 0 d_Md_glyph_20 (by decide) ?_
    refine sw_goto (pc := 21) C 30 d_Md_glyph_21 (by decide) ?_
    exact sw_lret (pc := 30) C E rfl (Nat.le_of_ble_eq_true rfl) (Nat.le_of_ble_eq_true rfl) d_Md_glyph_30 ⟨by unfold glyV; rw [if_neg (by rw [h1, Bool.false_and]; decide)], rfl⟩
  obtain ⟨hs8, hsn⟩ := hss h1
  refine sw_iload_n (pc := 7) C d_Md_glyph_7 rfl rfl ?_
  refine sw_aload_n (pc := 8) C d_Md_glyph_8 rfl rfl ?_
  refine sw_get (pc := 9) C inMd 0 rfl rfl 13 (by decide) t_585 rfl rfl d_Md_glyph_9 ?_
  refine sw_topi (z := nI ss) rfl ?_
  refine sw_iconst (pc := 12) C (nI 1) d_Md_glyph_12 (by decide) ?_
  refine sw_isub (pc := 13) C d_Md_glyph_13 ?_
  refine sw_callSR (pc := 14) C (c_Md_out l g (k) (nI ss - nI 1)) ss_Md_outside t_669 [] rfl rfl rfl rfl (Nat.le_of_ble_eq_true rfl) (Nat.le_of_ble_eq_true rfl) (Nat.le_of_ble_eq_true rfl) (Nat.le_of_ble_eq_true rfl) (Nat.le_of_ble_eq_true rfl) d_Md_glyph_14 (fun v w1 hp => ?_)
  obtain ⟨rfl, rfl⟩ := hp
  refine ⟨rfl, ?_⟩
  refine sw_topi (z := bI (!(inR ss (k)))) (by rw [outB_p _ (by omega)]) ?_
  refine sw_if_eqB (pc := 17) C 24 d_Md_glyph_17 (by decide) (fun h2 => ?_) (fun h2 => ?_)
  · skip
    have h3 := nR_f h2
    obtain ⟨j, hj, rfl⟩ := inR_of (by omega) h3
    refine sw_aload_n (pc := 24) C d_Md_glyph_24 rfl rfl ?_
    refine sw_get (pc := 25) C inMd 0 rfl rfl 12 (by decide) t_584 rfl rfl d_Md_glyph_25 ?_
    refine sw_iload_n (pc := 28) C d_Md_glyph_28 rfl rfl ?_
    refine sw_laldN (pc := 29) C 1 j rfl rfl (by omega) (by decide) d_Md_glyph_29 ?_
    exact sw_lret (pc := 30) C E rfl (Nat.le_of_ble_eq_true rfl) (Nat.le_of_ble_eq_true rfl) d_Md_glyph_30 ⟨by unfold glyV; rw [if_pos (by rw [h1, h3]; rfl), nI_clamp (by omega), hsn j hj], rfl⟩
  refine sw_lconst (pc := 20) C 0 d_Md_glyph_20 (by decide) ?_
  refine sw_goto (pc := 21) C 30 d_Md_glyph_21 (by decide) ?_
  exact sw_lret (pc := 30) C E rfl (Nat.le_of_ble_eq_true rfl) (Nat.le_of_ble_eq_true rfl) d_Md_glyph_30 ⟨by unfold glyV; rw [if_neg (by rw [nR_t h2, Bool.and_false]; decide)], rfl⟩
set_option maxRecDepth 100000 in
set_option maxHeartbeats 4000000 in
theorem c_Md_noCell (l : Launch) (g : Gl) (R : Nat → Nat) (dn pl ln ss pt : Nat) (th rd : Bool) (wd sc : Nat) (k x y : Int32) : Ct l g y_Md_noCell b_Md_noCell 4 (some .boolean) (rmD 1) [.ref (R 0), .int k, .int x, .int y] ([mdC R dn pl ln ss pt th rd wd sc]) (fun u w => u = some (.int (bI (!(hasB th k x y)))) ∧ w = [mdC R dn pl ln ss pt th rd wd sc]) := by
  refine ct_of [some (.ref (R 0)), some (.int k), some (.int x), some (.int y)] (by decide) (Nat.le_of_ble_eq_true rfl) rfl ?_
  intro X C E
  have hsd := sdN_or k
  refine sw_aload_n (pc := 0) C d_Md_noCell_0 rfl rfl ?_
  refine sw_get (pc := 1) C inMd 0 rfl rfl 11 (by decide) t_583 rfl rfl d_Md_noCell_1 ?_
  refine sw_if_eqB (pc := 4) C 41 d_Md_noCell_4 (by decide) (fun h1 => ?_) (fun h1 => ?_)
  · skip
    refine sw_iconst (pc := 41) C (nI 1) d_Md_noCell_41 (by decide) ?_
    refine sw_goto (pc := 42) C 46 d_Md_noCell_42 (by decide) ?_
    refine sw_topi (z := bI (!(hasB th k x y))) (by rw [show hasB th k x y = false from by unfold hasB; rw [h1]; rw [Bool.false_and, Bool.false_and]]; rfl) ?_
    exact sw_zret (pc := 46) C E rfl (bI_nar _) (Nat.le_of_ble_eq_true rfl) (Nat.le_of_ble_eq_true rfl) d_Md_noCell_46 ⟨rfl, rfl⟩
  refine sw_iload_n (pc := 7) C d_Md_noCell_7 rfl rfl ?_
  refine sw_iconst (pc := 8) C (nI 1) d_Md_noCell_8 (by decide) ?_
  refine sw_callSR (pc := 9) C (c_Md_out l g (k) (nI 1)) ss_Md_outside t_669 [] rfl rfl rfl rfl (Nat.le_of_ble_eq_true rfl) (Nat.le_of_ble_eq_true rfl) (Nat.le_of_ble_eq_true rfl) (Nat.le_of_ble_eq_true rfl) (Nat.le_of_ble_eq_true rfl) d_Md_noCell_9 (fun v w1 hp => ?_)
  obtain ⟨rfl, rfl⟩ := hp
  refine ⟨rfl, ?_⟩
  refine sw_topi (z := bI (!(inR (1 + 1) (k)))) (by rw [outB_n _ (by omega)]) ?_
  refine sw_if_neB (pc := 12) C 41 d_Md_noCell_12 (by decide) (fun h2 => ?_) (fun h2 => ?_)
  · skip
    refine sw_iconst (pc := 41) C (nI 1) d_Md_noCell_41 (by decide) ?_
    refine sw_goto (pc := 42) C 46 d_Md_noCell_42 (by decide) ?_
    refine sw_topi (z := bI (!(hasB th k x y))) (by rw [show hasB th k x y = false from by unfold hasB; rw [show inR 2 k = false from nR_t h2, Bool.and_false, Bool.false_and]]; rfl) ?_
    exact sw_zret (pc := 46) C E rfl (bI_nar _) (Nat.le_of_ble_eq_true rfl) (Nat.le_of_ble_eq_true rfl) d_Md_noCell_46 ⟨rfl, rfl⟩
  refine sw_iload_n (pc := 15) C d_Md_noCell_15 rfl rfl ?_
  refine sw_iload_n (pc := 16) C d_Md_noCell_16 rfl rfl ?_
  refine sw_callSR (pc := 17) C (c_Md_side l g k) ss_Md_side t_683 [] rfl rfl rfl rfl (Nat.le_of_ble_eq_true rfl) (Nat.le_of_ble_eq_true rfl) (Nat.le_of_ble_eq_true rfl) (Nat.le_of_ble_eq_true rfl) (Nat.le_of_ble_eq_true rfl) d_Md_noCell_17 (fun v w1 hp => ?_)
  obtain ⟨rfl, rfl⟩ := hp
  refine ⟨rfl, ?_⟩
  refine sw_iconst (pc := 20) C (nI 1) d_Md_noCell_20 (by decide) ?_
  refine sw_isub (pc := 21) C d_Md_noCell_21 ?_
  refine sw_callSR (pc := 22) C (c_Md_out l g (x) (nI (sdN k) - nI 1)) ss_Md_outside t_669 [] rfl rfl rfl rfl (Nat.le_of_ble_eq_true rfl) (Nat.le_of_ble_eq_true rfl) (Nat.le_of_ble_eq_true rfl) (Nat.le_of_ble_eq_true rfl) (Nat.le_of_ble_eq_true rfl) d_Md_noCell_22 (fun v w1 hp => ?_)
  obtain ⟨rfl, rfl⟩ := hp
  refine ⟨rfl, ?_⟩
  refine sw_topi (z := bI (!(inR (sdN k) (x)))) (by rw [outB_p _ (by omega)]) ?_
  refine sw_if_neB (pc := 25) C 41 d_Md_noCell_25 (by decide) (fun h3 => ?_) (fun h3 => ?_)
  · skip
    refine sw_iconst (pc := 41) C (nI 1) d_Md_noCell_41 (by decide) ?_
    refine sw_goto (pc := 42) C 46 d_Md_noCell_42 (by decide) ?_
    refine sw_topi (z := bI (!(hasB th k x y))) (by rw [show hasB th k x y = false from by unfold hasB; rw [nR_t h3, Bool.false_and, Bool.and_false]]; rfl) ?_
    exact sw_zret (pc := 46) C E rfl (bI_nar _) (Nat.le_of_ble_eq_true rfl) (Nat.le_of_ble_eq_true rfl) d_Md_noCell_46 ⟨rfl, rfl⟩
  refine sw_iload_n (pc := 28) C d_Md_noCell_28 rfl rfl ?_
  refine sw_iload_n (pc := 29) C d_Md_noCell_29 rfl rfl ?_
  refine sw_callSR (pc := 30) C (c_Md_side l g k) ss_Md_side t_683 [] rfl rfl rfl rfl (Nat.le_of_ble_eq_true rfl) (Nat.le_of_ble_eq_true rfl) (Nat.le_of_ble_eq_true rfl) (Nat.le_of_ble_eq_true rfl) (Nat.le_of_ble_eq_true rfl) d_Md_noCell_30 (fun v w1 hp => ?_)
  obtain ⟨rfl, rfl⟩ := hp
  refine ⟨rfl, ?_⟩
  refine sw_iconst (pc := 33) C (nI 1) d_Md_noCell_33 (by decide) ?_
  refine sw_isub (pc := 34) C d_Md_noCell_34 ?_
  refine sw_callSR (pc := 35) C (c_Md_out l g (y) (nI (sdN k) - nI 1)) ss_Md_outside t_669 [] rfl rfl rfl rfl (Nat.le_of_ble_eq_true rfl) (Nat.le_of_ble_eq_true rfl) (Nat.le_of_ble_eq_true rfl) (Nat.le_of_ble_eq_true rfl) (Nat.le_of_ble_eq_true rfl) d_Md_noCell_35 (fun v w1 hp => ?_)
  obtain ⟨rfl, rfl⟩ := hp
  refine ⟨rfl, ?_⟩
  refine sw_topi (z := bI (!(inR (sdN k) (y)))) (by rw [outB_p _ (by omega)]) ?_
  refine sw_if_eqB (pc := 38) C 45 d_Md_noCell_38 (by decide) (fun h4 => ?_) (fun h4 => ?_)
  · skip
    refine sw_iconst (pc := 45) C (nI 0) d_Md_noCell_45 (by decide) ?_
    refine sw_topi (z := bI (!(hasB th k x y))) (by rw [show hasB th k x y = true from by unfold hasB; rw [h1, show inR 2 k = true from nR_f h2, nR_f h3, nR_f h4]; rfl]; rfl) ?_
    exact sw_zret (pc := 46) C E rfl (bI_nar _) (Nat.le_of_ble_eq_true rfl) (Nat.le_of_ble_eq_true rfl) d_Md_noCell_46 ⟨rfl, rfl⟩
  refine sw_iconst (pc := 41) C (nI 1) d_Md_noCell_41 (by decide) ?_
  refine sw_goto (pc := 42) C 46 d_Md_noCell_42 (by decide) ?_
  refine sw_topi (z := bI (!(hasB th k x y))) (by rw [show hasB th k x y = false from by unfold hasB; rw [nR_t h4, Bool.and_false, Bool.and_false]]; rfl) ?_
  exact sw_zret (pc := 46) C E rfl (bI_nar _) (Nat.le_of_ble_eq_true rfl) (Nat.le_of_ble_eq_true rfl) d_Md_noCell_46 ⟨rfl, rfl⟩
set_option maxRecDepth 100000 in
set_option maxHeartbeats 4000000 in
theorem c_Md_cell (l : Launch) (g : Gl) (R : Nat → Nat) (dn pl ln ss pt : Nat) (th rd : Bool) (wd sc : Nat) (un ce0 ce1 : Nat → Int32) (H : th = true → ly2 un ce0 ce1 clp) (k x y : Int32) : Ct l g y_Md_cell b_Md_cell 5 (some .int) (rmD 2) [.ref (R 0), .int k, .int x, .int y] ([mdC R dn pl ln ss pt th rd wd sc, iaC g (R 13) 128 un]) (fun u w => u = some (.int (celV th k ce0 ce1 x y (-1))) ∧ w = [mdC R dn pl ln ss pt th rd wd sc, iaC g (R 13) 128 un]) := by
  refine ct_of [some (.ref (R 0)), some (.int k), some (.int x), some (.int y), none] (by decide) (Nat.le_of_ble_eq_true rfl) rfl ?_
  intro X C E
  refine sw_aload_n (pc := 0) C d_Md_cell_0 rfl rfl ?_
  refine sw_iload_n (pc := 1) C d_Md_cell_1 rfl rfl ?_
  refine sw_iload_n (pc := 2) C d_Md_cell_2 rfl rfl ?_
  refine sw_iload_n (pc := 3) C d_Md_cell_3 rfl rfl ?_
  refine sw_callVR (pc := 4) C (c_Md_noCell l g R dn pl ln ss pt th rd wd sc k x y) sv_Md_noCell t_824 rfl rfl rfl [0] rfl rfl rfl rfl (Nat.le_of_ble_eq_true rfl) (Nat.le_of_ble_eq_true rfl) (Nat.le_of_ble_eq_true rfl) (Nat.le_of_ble_eq_true rfl) (Nat.le_of_ble_eq_true rfl) d_Md_cell_4 (fun v w1 hp => ?_)
  obtain ⟨rfl, rfl⟩ := hp
  refine ⟨rfl, ?_⟩
  refine sw_if_eqB (pc := 7) C 12 d_Md_cell_7 (by decide) (fun h1 => ?_) (fun h1 => ?_)
  · skip
    have h2 : hasB th k x y = true := by
      cases e : hasB th k x y
      · rw [e] at h1; cases h1
      · rfl
    obtain ⟨rfl, kn, i, j, rfl, rfl, rfl, hr⟩ := cel_yes h2
    obtain ⟨hv, hlt⟩ := cel_in (d := -1) (H rfl) hr
    refine sw_aload_n (pc := 12) C d_Md_cell_12 rfl rfl ?_
    refine sw_get (pc := 13) C inMd 0 rfl rfl 18 (by decide) t_590 rfl rfl d_Md_cell_13 ?_
    refine sw_bipush (pc := 16) C (nI 64) d_Md_cell_16 (by decide) ?_
    refine sw_iload_n (pc := 18) C d_Md_cell_18 rfl rfl ?_
    refine sw_imul (pc := 19) C d_Md_cell_19 ?_
    refine sw_topi (z := nI (64 * kn)) (pk_mul _ _) ?_
    refine sw_bipush (pc := 20) C (nI 8) d_Md_cell_20 (by decide) ?_
    refine sw_iload_n (pc := 22) C d_Md_cell_22 rfl rfl ?_
    refine sw_imul (pc := 23) C d_Md_cell_23 ?_
    refine sw_topi (z := nI (8 * j)) (pk_mul _ _) ?_
    refine sw_iadd (pc := 24) C d_Md_cell_24 ?_
    refine sw_topi (z := nI ((64 * kn) + (8 * j))) (nI_add _ _) ?_
    refine sw_iload_n (pc := 25) C d_Md_cell_25 rfl rfl ?_
    refine sw_iadd (pc := 26) C d_Md_cell_26 ?_
    refine sw_topi (z := nI (((64 * kn) + (8 * j)) + i)) (nI_add _ _) ?_
    refine sw_ialdN (pc := 27) C 1 (((64 * kn) + (8 * j)) + i) rfl rfl (by omega) (by decide) d_Md_cell_27 ?_
    refine sw_istore (pc := 28) C d_Md_cell_28 (by decide) rfl ?_
    refine sw_iload (pc := 30) C d_Md_cell_30 rfl ?_
    refine sw_if_ge (pc := 32) C 39 d_Md_cell_32 (by decide) (fun h3 => ?_) (fun h3 => ?_)
    · skip
      refine sw_iload (pc := 39) C d_Md_cell_39 rfl ?_
      refine sw_bipush (pc := 41) C (nI 63) d_Md_cell_41 (by decide) ?_
      refine sw_icmp_le (pc := 43) C 51 d_Md_cell_43 (by decide) (fun h4 => ?_) (fun h4 => ?_)
      · skip
        refine sw_iload (pc := 51) C d_Md_cell_51 rfl ?_
        exact sw_iret (pc := 53) C E rfl (Nat.le_of_ble_eq_true rfl) (Nat.le_of_ble_eq_true rfl) d_Md_cell_53 ⟨by rw [hv, clp_eq, if_neg (Int32.not_lt.mpr h3), if_neg (Int32.not_lt.mpr h4)], rfl⟩
      refine sw_bipush (pc := 46) C (nI 63) d_Md_cell_46 (by decide) ?_
      refine sw_goto (pc := 48) C 53 d_Md_cell_48 (by decide) ?_
      exact sw_iret (pc := 53) C E rfl (Nat.le_of_ble_eq_true rfl) (Nat.le_of_ble_eq_true rfl) d_Md_cell_53 ⟨by rw [hv, clp_eq, if_neg (Int32.not_lt.mpr h3), if_pos (Int32.not_le.mp h4)], rfl⟩
    refine sw_iconst (pc := 35) C (nI 0) d_Md_cell_35 (by decide) ?_
    refine sw_goto (pc := 36) C 53 d_Md_cell_36 (by decide) ?_
    exact sw_iret (pc := 53) C E rfl (Nat.le_of_ble_eq_true rfl) (Nat.le_of_ble_eq_true rfl) d_Md_cell_53 ⟨by rw [hv, clp_eq, if_pos (Int32.not_le.mp h3)], rfl⟩
  have h2 : hasB th k x y = false := by
    cases e : hasB th k x y
    · rfl
    · rw [e] at h1; cases h1
  refine sw_iconst (pc := 10) C (-1) d_Md_cell_10 (by decide) ?_
  exact sw_iret (pc := 11) C E rfl (Nat.le_of_ble_eq_true rfl) (Nat.le_of_ble_eq_true rfl) d_Md_cell_11 ⟨by rw [cel_no h2], rfl⟩
set_option maxRecDepth 100000 in
set_option maxHeartbeats 4000000 in
theorem c_Md_coef (l : Launch) (g : Gl) (R : Nat → Nat) (dn pl ln ss pt : Nat) (th rd : Bool) (wd sc : Nat) (un ce0 ce1 : Nat → Int32) (H : th = true → ly2 un ce0 ce1 id) (k x y : Int32) : Ct l g y_Md_coefficient b_Md_coefficient 4 (some .int) (rmD 2) [.ref (R 0), .int k, .int x, .int y] ([mdC R dn pl ln ss pt th rd wd sc, iaC g (R 12) 128 un]) (fun u w => u = some (.int (celV th k ce0 ce1 x y 0)) ∧ w = [mdC R dn pl ln ss pt th rd wd sc, iaC g (R 12) 128 un]) := by
  refine ct_of [some (.ref (R 0)), some (.int k), some (.int x), some (.int y)] (by decide) (Nat.le_of_ble_eq_true rfl) rfl ?_
  intro X C E
  refine sw_aload_n (pc := 0) C d_Md_coefficient_0 rfl rfl ?_
  refine sw_iload_n (pc := 1) C d_Md_coefficient_1 rfl rfl ?_
  refine sw_iload_n (pc := 2) C d_Md_coefficient_2 rfl rfl ?_
  refine sw_iload_n (pc := 3) C d_Md_coefficient_3 rfl rfl ?_
  refine sw_callVR (pc := 4) C (c_Md_noCell l g R dn pl ln ss pt th rd wd sc k x y) sv_Md_noCell t_824 rfl rfl rfl [0] rfl rfl rfl rfl (Nat.le_of_ble_eq_true rfl) (Nat.le_of_ble_eq_true rfl) (Nat.le_of_ble_eq_true rfl) (Nat.le_of_ble_eq_true rfl) (Nat.le_of_ble_eq_true rfl) d_Md_coefficient_4 (fun v w1 hp => ?_)
  obtain ⟨rfl, rfl⟩ := hp
  refine ⟨rfl, ?_⟩
  refine sw_if_eqB (pc := 7) C 14 d_Md_coefficient_7 (by decide) (fun h1 => ?_) (fun h1 => ?_)
  · skip
    have h2 : hasB th k x y = true := by
      cases e : hasB th k x y
      · rw [e] at h1; cases h1
      · rfl
    obtain ⟨rfl, kn, i, j, rfl, rfl, rfl, hr⟩ := cel_yes h2
    obtain ⟨hv, hlt⟩ := cel_in (d := 0) (H rfl) hr
    refine sw_aload_n (pc := 14) C d_Md_coefficient_14 rfl rfl ?_
    refine sw_get (pc := 15) C inMd 0 rfl rfl 17 (by decide) t_589 rfl rfl d_Md_coefficient_15 ?_
    refine sw_bipush (pc := 18) C (nI 64) d_Md_coefficient_18 (by decide) ?_
    refine sw_iload_n (pc := 20) C d_Md_coefficient_20 rfl rfl ?_
    refine sw_imul (pc := 21) C d_Md_coefficient_21 ?_
    refine sw_topi (z := nI (64 * kn)) (pk_mul _ _) ?_
    refine sw_bipush (pc := 22) C (nI 8) d_Md_coefficient_22 (by decide) ?_
    refine sw_iload_n (pc := 24) C d_Md_coefficient_24 rfl rfl ?_
    refine sw_imul (pc := 25) C d_Md_coefficient_25 ?_
    refine sw_topi (z := nI (8 * j)) (pk_mul _ _) ?_
    refine sw_iadd (pc := 26) C d_Md_coefficient_26 ?_
    refine sw_topi (z := nI ((64 * kn) + (8 * j))) (nI_add _ _) ?_
    refine sw_iload_n (pc := 27) C d_Md_coefficient_27 rfl rfl ?_
    refine sw_iadd (pc := 28) C d_Md_coefficient_28 ?_
    refine sw_topi (z := nI (((64 * kn) + (8 * j)) + i)) (nI_add _ _) ?_
    refine sw_ialdN (pc := 29) C 1 (((64 * kn) + (8 * j)) + i) rfl rfl (by omega) (by decide) d_Md_coefficient_29 ?_
    exact sw_iret (pc := 30) C E rfl (Nat.le_of_ble_eq_true rfl) (Nat.le_of_ble_eq_true rfl) d_Md_coefficient_30 ⟨by rw [hv]; rfl, rfl⟩
  have h2 : hasB th k x y = false := by
    cases e : hasB th k x y
    · rfl
    · rw [e] at h1; cases h1
  refine sw_iconst (pc := 10) C (nI 0) d_Md_coefficient_10 (by decide) ?_
  refine sw_goto (pc := 11) C 30 d_Md_coefficient_11 (by decide) ?_
  exact sw_iret (pc := 30) C E rfl (Nat.le_of_ble_eq_true rfl) (Nat.le_of_ble_eq_true rfl) d_Md_coefficient_30 ⟨by rw [cel_no h2]; rfl, rfl⟩
def picOK (ss pt : Nat) (sn : Nat → Int64) (fp fa : Nat → Int32) (b w h ps sp : Nat → Nat) : Prop := (ss ≤ 8 ∧ pt ≤ 20) ∧ (∀ k, k < ss → sn k = lN (b k) ∧ b k < 2 ^ 64 ∧ sb (b k) (w k) (h k) = sb (b k) 8 8) ∧ ∀ i, i < pt → fp i = nI (ps i) ∧ fa i = nI (sp i) ∧ ps i < ss ∧ sp i < 256
theorem ink_no {th : Bool} {b w h ps sp : Nat → Nat} {nP : Nat} {x y : Int32} (e : (th && (inR 16 x && inR 16 y)) = false ∨ nP = 0) : inkV th b w h ps sp nP x y = false := by
  unfold inkV
  rcases e with e | rfl
  · rw [e]; rfl
  · exact Bool.and_false _
set_option maxRecDepth 100000 in
set_option maxHeartbeats 4000000 in
theorem c_Md_inked (l : Launch) (g : Gl) (R : Nat → Nat) (dn pl ln ss pt : Nat) (th rd : Bool) (wd sc : Nat) (sn : Nat → Int64) (fp fa : Nat → Int32) (b w h ps sp : Nat → Nat) (H : th = true → picOK ss pt sn fp fa b w h ps sp) (hpt : pt < 2 ^ 31) (x y : Int32) : Ct l g y_Md_inked b_Md_inked 7 (some .boolean) (rmD 2) [.ref (R 0), .int x, .int y] ([mdC R dn pl ln ss pt th rd wd sc, laC g (R 9) 8 sn, iaC g (R 10) 20 fp, iaC g (R 11) 20 fa]) (fun u q => u = some (.int (bI (inkV th b w h ps sp pt x y))) ∧ q = [mdC R dn pl ln ss pt th rd wd sc, laC g (R 9) 8 sn, iaC g (R 10) 20 fp, iaC g (R 11) 20 fa]) := by
  refine ct_of [some (.ref (R 0)), some (.int x), some (.int y), none, none, none, none] (by decide) (Nat.le_of_ble_eq_true rfl) rfl ?_
  intro X C E
  refine sw_iconst (pc := 0) C (nI 0) d_Md_inked_0 (by decide) ?_
  refine sw_istore_n (pc := 1) C d_Md_inked_1 rfl (by decide) rfl ?_
  refine sw_iconst (pc := 2) C (nI 0) d_Md_inked_2 (by decide) ?_
  refine sw_istore (pc := 3) C d_Md_inked_3 (by decide) rfl ?_
  refine sw_iload (pc := 5) C d_Md_inked_5 rfl ?_
  refine sw_aload_n (pc := 7) C d_Md_inked_7 rfl rfl ?_
  refine sw_get (pc := 8) C inMd 0 rfl rfl 16 (by decide) t_588 rfl rfl d_Md_inked_8 ?_
  refine sw_topi (z := nI pt) rfl ?_
  refine sw_icmp_geN (pc := 11) C 106 (by omega) (by omega) d_Md_inked_11 (by decide) (fun h1 => ?_) (fun h1 => ?_)
  · skip
    have ef : (inkV th b w h ps sp pt x y) = false := ink_no (Or.inr (by omega))
    refine sw_iload_n (pc := 106) C d_Md_inked_106 rfl rfl ?_
    refine sw_topi (z := bI (inkV th b w h ps sp pt x y)) (by rw [ef]; rfl) ?_
    exact sw_zret (pc := 107) C E rfl (bI_nar _) (Nat.le_of_ble_eq_true rfl) (Nat.le_of_ble_eq_true rfl) d_Md_inked_107 ⟨rfl, rfl⟩
  refine sw_aload_n (pc := 14) C d_Md_inked_14 rfl rfl ?_
  refine sw_get (pc := 15) C inMd 0 rfl rfl 11 (by decide) t_583 rfl rfl d_Md_inked_15 ?_
  refine sw_if_eqB (pc := 18) C 106 d_Md_inked_18 (by decide) (fun h2 => ?_) (fun h2 => ?_)
  · skip
    have ef : (inkV th b w h ps sp pt x y) = false := ink_no (Or.inl (by rw [h2]; rfl))
    refine sw_iload_n (pc := 106) C d_Md_inked_106 rfl rfl ?_
    refine sw_topi (z := bI (inkV th b w h ps sp pt x y)) (by rw [ef]; rfl) ?_
    exact sw_zret (pc := 107) C E rfl (bI_nar _) (Nat.le_of_ble_eq_true rfl) (Nat.le_of_ble_eq_true rfl) d_Md_inked_107 ⟨rfl, rfl⟩
  refine sw_iload_n (pc := 21) C d_Md_inked_21 rfl rfl ?_
  refine sw_bipush (pc := 22) C (nI 15) d_Md_inked_22 (by decide) ?_
  refine sw_callSR (pc := 24) C (c_Md_out l g (x) (nI 15)) ss_Md_outside t_669 [] rfl rfl rfl rfl (Nat.le_of_ble_eq_true rfl) (Nat.le_of_ble_eq_true rfl) (Nat.le_of_ble_eq_true rfl) (Nat.le_of_ble_eq_true rfl) (Nat.le_of_ble_eq_true rfl) d_Md_inked_24 (fun v w1 hp => ?_)
  obtain ⟨rfl, rfl⟩ := hp
  refine ⟨rfl, ?_⟩
  refine sw_topi (z := bI (!(inR (15 + 1) (x)))) (by rw [outB_n _ (by omega)]) ?_
  refine sw_if_neB (pc := 27) C 106 d_Md_inked_27 (by decide) (fun h3 => ?_) (fun h3 => ?_)
  · skip
    have ef : (inkV th b w h ps sp pt x y) = false := ink_no (Or.inl (by rw [show inR 16 x = false from nR_t h3, Bool.false_and, Bool.and_false]))
    refine sw_iload_n (pc := 106) C d_Md_inked_106 rfl rfl ?_
    refine sw_topi (z := bI (inkV th b w h ps sp pt x y)) (by rw [ef]; rfl) ?_
    exact sw_zret (pc := 107) C E rfl (bI_nar _) (Nat.le_of_ble_eq_true rfl) (Nat.le_of_ble_eq_true rfl) d_Md_inked_107 ⟨rfl, rfl⟩
  refine sw_iload_n (pc := 30) C d_Md_inked_30 rfl rfl ?_
  refine sw_bipush (pc := 31) C (nI 15) d_Md_inked_31 (by decide) ?_
  refine sw_callSR (pc := 33) C (c_Md_out l g (y) (nI 15)) ss_Md_outside t_669 [] rfl rfl rfl rfl (Nat.le_of_ble_eq_true rfl) (Nat.le_of_ble_eq_true rfl) (Nat.le_of_ble_eq_true rfl) (Nat.le_of_ble_eq_true rfl) (Nat.le_of_ble_eq_true rfl) d_Md_inked_33 (fun v w1 hp => ?_)
  obtain ⟨rfl, rfl⟩ := hp
  refine ⟨rfl, ?_⟩
  refine sw_topi (z := bI (!(inR (15 + 1) (y)))) (by rw [outB_n _ (by omega)]) ?_
  refine sw_if_neB (pc := 36) C 106 d_Md_inked_36 (by decide) (fun h4 => ?_) (fun h4 => ?_)
  · skip
    have ef : (inkV th b w h ps sp pt x y) = false := ink_no (Or.inl (by rw [show inR 16 y = false from nR_t h4, Bool.and_false, Bool.and_false]))
    refine sw_iload_n (pc := 106) C d_Md_inked_106 rfl rfl ?_
    refine sw_topi (z := bI (inkV th b w h ps sp pt x y)) (by rw [ef]; rfl) ?_
    exact sw_zret (pc := 107) C E rfl (bI_nar _) (Nat.le_of_ble_eq_true rfl) (Nat.le_of_ble_eq_true rfl) d_Md_inked_107 ⟨rfl, rfl⟩
  have e3 : inR 16 x = true := nR_f h3
  have e4 : inR 16 y = true := nR_f h4
  subst h2
  obtain ⟨⟨hs8, hp20⟩, hS, hP⟩ := H rfl
  obtain ⟨i, hi, rfl⟩ := inR_of (by decide) e3
  obtain ⟨j, hj, rfl⟩ := inR_of (by decide) e4
  have eV : inkV true b w h ps sp pt (nI i) (nI j) = inkd b w h ps sp (i : Int) (j : Int) pt := by unfold inkV; rw [e3, e4, nI_clamp (by omega), nI_clamp (by omega)]; rfl
  have body : ∀ k, k < pt → SW X g 7 0 0 ([mdC R dn pl ln ss pt true rd wd sc, laC g (R 9) 8 sn, iaC g (R 10) 20 fp, iaC g (R 11) 20 fa]) 5 [some (.ref (R 0)), some (.int (nI i)), some (.int (nI j)), some (.int (bI (inkd b w h ps sp (i : Int) (j : Int) (k + 1)))), some (.int (nI (k + 1))), none, none] [] → SW X g 7 0 0 ([mdC R dn pl ln ss pt true rd wd sc, laC g (R 9) 8 sn, iaC g (R 10) 20 fp, iaC g (R 11) 20 fa]) 39 [some (.ref (R 0)), some (.int (nI i)), some (.int (nI j)), some (.int (bI (inkd b w h ps sp (i : Int) (j : Int) k))), some (.int (nI k)), none, none] [] := by
    intro k hk kk
    obtain ⟨ep, ea, hps, hsp⟩ := hP k hk
    obtain ⟨es, hb, esb⟩ := hS (ps k) hps
    refine sw_iload_n (pc := 39) C d_Md_inked_39 rfl rfl ?_
    refine sw_aload_n (pc := 40) C d_Md_inked_40 rfl rfl ?_
    refine sw_get (pc := 41) C inMd 0 rfl rfl 15 (by decide) t_587 rfl rfl d_Md_inked_41 ?_
    refine sw_iload (pc := 44) C d_Md_inked_44 rfl ?_
    refine sw_ialdN (pc := 46) C 3 k rfl rfl (by omega) (by decide) d_Md_inked_46 ?_
    refine sw_topi (z := nI (sp k)) ea ?_
    refine sw_bipush (pc := 47) C (nI 16) d_Md_inked_47 (by decide) ?_
    refine sw_idiv (pc := 49) C d_Md_inked_49 (by decide) ?_
    refine sw_topi (z := nI ((sp k) / 16)) (pk_div (by omega) (by omega) (by omega)) ?_
    refine sw_isub (pc := 50) C d_Md_inked_50 ?_
    refine sw_istore (pc := 51) C d_Md_inked_51 (by decide) rfl ?_
    refine sw_iload_n (pc := 53) C d_Md_inked_53 rfl rfl ?_
    refine sw_aload_n (pc := 54) C d_Md_inked_54 rfl rfl ?_
    refine sw_get (pc := 55) C inMd 0 rfl rfl 15 (by decide) t_587 rfl rfl d_Md_inked_55 ?_
    refine sw_iload (pc := 58) C d_Md_inked_58 rfl ?_
    refine sw_ialdN (pc := 60) C 3 k rfl rfl (by omega) (by decide) d_Md_inked_60 ?_
    refine sw_topi (z := nI (sp k)) ea ?_
    refine sw_bipush (pc := 61) C (nI 16) d_Md_inked_61 (by decide) ?_
    refine sw_irem (pc := 63) C d_Md_inked_63 (by decide) ?_
    refine sw_topi (z := nI ((sp k) % 16)) (pk_rem (by omega) (by omega) (by omega)) ?_
    refine sw_isub (pc := 64) C d_Md_inked_64 ?_
    refine sw_istore (pc := 65) C d_Md_inked_65 (by decide) rfl ?_
    refine sw_iload_n (pc := 67) C d_Md_inked_67 rfl rfl ?_
    have ed : (inkd b w h ps sp (i : Int) (j : Int) (k + 1)) = ((inkd b w h ps sp (i : Int) (j : Int) k) || decide (sb (b (ps k)) 8 8 ((i : Int) - ((sp k / 16 : Nat) : Int)) ((j : Int) - ((sp k % 16 : Nat) : Int)) = 1)) := by rw [← esb]; rfl
    refine sw_if_neB (pc := 68) C 94 d_Md_inked_68 (by decide) (fun h5 => ?_) (fun h5 => ?_)
    · skip
      refine sw_iconst (pc := 94) C (nI 1) d_Md_inked_94 (by decide) ?_
      refine sw_goto (pc := 95) C 99 d_Md_inked_95 (by decide) ?_
      refine sw_topi (z := bI (inkd b w h ps sp (i : Int) (j : Int) (k + 1))) (by rw [ed, h5]; rfl) ?_
      refine sw_istore_n (pc := 99) C d_Md_inked_99 rfl (by decide) rfl ?_
      refine sw_iincN (pc := 100) C 1 d_Md_inked_100 rfl (by decide) (by decide) rfl ?_
      refine sw_goto (pc := 103) C 5 d_Md_inked_103 (by decide) ?_
      refine sw_drop 5 ?_
      refine sw_drop 6 ?_
      exact kk
    refine sw_aload_n (pc := 71) C d_Md_inked_71 rfl rfl ?_
    refine sw_get (pc := 72) C inMd 0 rfl rfl 12 (by decide) t_584 rfl rfl d_Md_inked_72 ?_
    refine sw_aload_n (pc := 75) C d_Md_inked_75 rfl rfl ?_
    refine sw_get (pc := 76) C inMd 0 rfl rfl 14 (by decide) t_586 rfl rfl d_Md_inked_76 ?_
    refine sw_iload (pc := 79) C d_Md_inked_79 rfl ?_
    refine sw_ialdN (pc := 81) C 2 k rfl rfl (by omega) (by decide) d_Md_inked_81 ?_
    refine sw_topi (z := nI (ps k)) ep ?_
    refine sw_laldN (pc := 82) C 1 (ps k) rfl rfl (by omega) (by decide) d_Md_inked_82 ?_
    refine sw_topl (z := lN (b (ps k))) es ?_
    refine sw_iload (pc := 83) C d_Md_inked_83 rfl ?_
    refine sw_iload (pc := 85) C d_Md_inked_85 rfl ?_
    refine sw_callSR (pc := 87) C (c_Md_at l g (b (ps k)) hb (nI i - nI (sp k / 16)) (nI j - nI (sp k % 16))) ss_Md_at t_672 [] rfl rfl rfl rfl (Nat.le_of_ble_eq_true rfl) (Nat.le_of_ble_eq_true rfl) (Nat.le_of_ble_eq_true rfl) (Nat.le_of_ble_eq_true rfl) (Nat.le_of_ble_eq_true rfl) d_Md_inked_87 (fun v w1 hp => ?_)
    obtain ⟨rfl, rfl⟩ := hp
    refine ⟨rfl, ?_⟩
    refine sw_topi (z := nI (sb (b (ps k)) 8 8 ((i : Int) - ((sp k / 16 : Nat) : Int)) ((j : Int) - ((sp k % 16 : Nat) : Int)))) (by rw [pk_sub_toInt (by omega) (by omega), pk_sub_toInt (by omega) (by omega)]) ?_
    have hl1 : (sb (b (ps k)) 8 8 ((i : Int) - ((sp k / 16 : Nat) : Int)) ((j : Int) - ((sp k % 16 : Nat) : Int))) ≤ 1 := sb_le _ _ _ _ _
    refine sw_iconst (pc := 90) C (nI 1) d_Md_inked_90 (by decide) ?_
    refine sw_icmp_neN (pc := 91) C 98 (by omega) (by omega) d_Md_inked_91 (by decide) (fun h6 => ?_) (fun h6 => ?_)
    · skip
      refine sw_iconst (pc := 98) C (nI 0) d_Md_inked_98 (by decide) ?_
      refine sw_topi (z := bI (inkd b w h ps sp (i : Int) (j : Int) (k + 1))) (by rw [ed, h5, decide_eq_false h6]; rfl) ?_
      refine sw_istore_n (pc := 99) C d_Md_inked_99 rfl (by decide) rfl ?_
      refine sw_iincN (pc := 100) C 1 d_Md_inked_100 rfl (by decide) (by decide) rfl ?_
      refine sw_goto (pc := 103) C 5 d_Md_inked_103 (by decide) ?_
      refine sw_drop 5 ?_
      refine sw_drop 6 ?_
      exact kk
    refine sw_iconst (pc := 94) C (nI 1) d_Md_inked_94 (by decide) ?_
    refine sw_goto (pc := 95) C 99 d_Md_inked_95 (by decide) ?_
    refine sw_topi (z := bI (inkd b w h ps sp (i : Int) (j : Int) (k + 1))) (by rw [ed, h5, decide_eq_true h6]; rfl) ?_
    refine sw_istore_n (pc := 99) C d_Md_inked_99 rfl (by decide) rfl ?_
    refine sw_iincN (pc := 100) C 1 d_Md_inked_100 rfl (by decide) (by decide) rfl ?_
    refine sw_goto (pc := 103) C 5 d_Md_inked_103 (by decide) ?_
    refine sw_drop 5 ?_
    refine sw_drop 6 ?_
    exact kk
  have key : ∀ (nn k : Nat), k + nn = pt → SW X g 7 0 0 ([mdC R dn pl ln ss pt true rd wd sc, laC g (R 9) 8 sn, iaC g (R 10) 20 fp, iaC g (R 11) 20 fa]) 5 [some (.ref (R 0)), some (.int (nI i)), some (.int (nI j)), some (.int (bI (inkd b w h ps sp (i : Int) (j : Int) k))), some (.int (nI k)), none, none] [] := by
    intro nn
    induction nn with
    | zero =>
      intro k hk
      refine sw_iload (pc := 5) C d_Md_inked_5 rfl ?_
      refine sw_aload_n (pc := 7) C d_Md_inked_7 rfl rfl ?_
      refine sw_get (pc := 8) C inMd 0 rfl rfl 16 (by decide) t_588 rfl rfl d_Md_inked_8 ?_
      refine sw_topi (z := nI pt) rfl ?_
      refine sw_icmp_geN (pc := 11) C 106 (by omega) (by omega) d_Md_inked_11 (by decide) (fun hx => ?_) (fun hx => ?_)
      · skip
        have ek : k = pt := by omega
        rw [ek]
        refine sw_iload_n (pc := 106) C d_Md_inked_106 rfl rfl ?_
        exact sw_zret (pc := 107) C E rfl (bI_nar _) (Nat.le_of_ble_eq_true rfl) (Nat.le_of_ble_eq_true rfl) d_Md_inked_107 ⟨by rw [eV], rfl⟩
      omega
    | succ nn ih =>
      intro k hk
      refine sw_iload (pc := 5) C d_Md_inked_5 rfl ?_
      refine sw_aload_n (pc := 7) C d_Md_inked_7 rfl rfl ?_
      refine sw_get (pc := 8) C inMd 0 rfl rfl 16 (by decide) t_588 rfl rfl d_Md_inked_8 ?_
      refine sw_topi (z := nI pt) rfl ?_
      refine sw_icmp_geN (pc := 11) C 106 (by omega) (by omega) d_Md_inked_11 (by decide) (fun hx => ?_) (fun hx => ?_)
      · skip
        omega
      refine sw_aload_n (pc := 14) C d_Md_inked_14 rfl rfl ?_
      refine sw_get (pc := 15) C inMd 0 rfl rfl 11 (by decide) t_583 rfl rfl d_Md_inked_15 ?_
      refine sw_if_eqB (pc := 18) C 106 d_Md_inked_18 (by decide) (fun hy => ?_) (fun hy => ?_)
      · skip
        cases hy
      refine sw_iload_n (pc := 21) C d_Md_inked_21 rfl rfl ?_
      refine sw_bipush (pc := 22) C (nI 15) d_Md_inked_22 (by decide) ?_
      refine sw_callSR (pc := 24) C (c_Md_out l g (nI i) (nI 15)) ss_Md_outside t_669 [] rfl rfl rfl rfl (Nat.le_of_ble_eq_true rfl) (Nat.le_of_ble_eq_true rfl) (Nat.le_of_ble_eq_true rfl) (Nat.le_of_ble_eq_true rfl) (Nat.le_of_ble_eq_true rfl) d_Md_inked_24 (fun v w1 hp => ?_)
      obtain ⟨rfl, rfl⟩ := hp
      refine ⟨rfl, ?_⟩
      refine sw_topi (z := bI (!(inR (15 + 1) (nI i)))) (by rw [outB_n _ (by omega)]) ?_
      refine sw_if_neB (pc := 27) C 106 d_Md_inked_27 (by decide) (fun hz => ?_) (fun hz => ?_)
      · skip
        rw [show inR (15 + 1) (nI i) = true from e3] at hz
        cases hz
      refine sw_iload_n (pc := 30) C d_Md_inked_30 rfl rfl ?_
      refine sw_bipush (pc := 31) C (nI 15) d_Md_inked_31 (by decide) ?_
      refine sw_callSR (pc := 33) C (c_Md_out l g (nI j) (nI 15)) ss_Md_outside t_669 [] rfl rfl rfl rfl (Nat.le_of_ble_eq_true rfl) (Nat.le_of_ble_eq_true rfl) (Nat.le_of_ble_eq_true rfl) (Nat.le_of_ble_eq_true rfl) (Nat.le_of_ble_eq_true rfl) d_Md_inked_33 (fun v w1 hp => ?_)
      obtain ⟨rfl, rfl⟩ := hp
      refine ⟨rfl, ?_⟩
      refine sw_topi (z := bI (!(inR (15 + 1) (nI j)))) (by rw [outB_n _ (by omega)]) ?_
      refine sw_if_neB (pc := 36) C 106 d_Md_inked_36 (by decide) (fun hz2 => ?_) (fun hz2 => ?_)
      · skip
        rw [show inR (15 + 1) (nI j) = true from e4] at hz2
        cases hz2
      exact body k (by omega) (ih (k + 1) (by omega))
  exact body 0 (by omega) (key (pt - 1) 1 (by omega))
set_option maxRecDepth 100000 in
set_option maxHeartbeats 4000000 in
theorem c_Md_pixel (l : Launch) (g : Gl) (R : Nat → Nat) (dn pl ln ss pt : Nat) (th rd : Bool) (wd sc : Nat) (sn : Nat → Int64) (fp fa : Nat → Int32) (b w h ps sp : Nat → Nat) (H : th = true → picOK ss pt sn fp fa b w h ps sp) (un ce0 ce1 : Nat → Int32) (H2 : th = true → ly2 un ce0 ce1 clp) (hpt : pt < 2 ^ 31) (x y : Int32) : Ct l g y_Md_pixel b_Md_pixel 3 (some .int) (rmD 3) [.ref (R 0), .int x, .int y] ([mdC R dn pl ln ss pt th rd wd sc, laC g (R 9) 8 sn, iaC g (R 10) 20 fp, iaC g (R 11) 20 fa, iaC g (R 13) 128 un]) (fun u q => u = some (.int (pixV th b w h ps sp pt ce0 ce1 x y)) ∧ q = [mdC R dn pl ln ss pt th rd wd sc, laC g (R 9) 8 sn, iaC g (R 10) 20 fp, iaC g (R 11) 20 fa, iaC g (R 13) 128 un]) := by
  refine ct_of [some (.ref (R 0)), some (.int x), some (.int y)] (by decide) (Nat.le_of_ble_eq_true rfl) rfl ?_
  intro X C E
  refine sw_aload_n (pc := 0) C d_Md_pixel_0 rfl rfl ?_
  refine sw_get (pc := 1) C inMd 0 rfl rfl 11 (by decide) t_583 rfl rfl d_Md_pixel_1 ?_
  refine sw_if_eqB (pc := 4) C 25 d_Md_pixel_4 (by decide) (fun h2 => ?_) (fun h2 => ?_)
  · skip
    refine sw_iconst (pc := 25) C (-1) d_Md_pixel_25 (by decide) ?_
    exact sw_iret (pc := 26) C E rfl (Nat.le_of_ble_eq_true rfl) (Nat.le_of_ble_eq_true rfl) d_Md_pixel_26 ⟨by unfold pixV; rw [if_neg (by rw [h2, Bool.false_and]; decide)], rfl⟩
  refine sw_iload_n (pc := 7) C d_Md_pixel_7 rfl rfl ?_
  refine sw_bipush (pc := 8) C (nI 15) d_Md_pixel_8 (by decide) ?_
  refine sw_callSR (pc := 10) C (c_Md_out l g (x) (nI 15)) ss_Md_outside t_669 [] rfl rfl rfl rfl (Nat.le_of_ble_eq_true rfl) (Nat.le_of_ble_eq_true rfl) (Nat.le_of_ble_eq_true rfl) (Nat.le_of_ble_eq_true rfl) (Nat.le_of_ble_eq_true rfl) d_Md_pixel_10 (fun v w1 hp => ?_)
  obtain ⟨rfl, rfl⟩ := hp
  refine ⟨rfl, ?_⟩
  refine sw_topi (z := bI (!(inR (15 + 1) (x)))) (by rw [outB_n _ (by omega)]) ?_
  refine sw_if_neB (pc := 13) C 25 d_Md_pixel_13 (by decide) (fun h3 => ?_) (fun h3 => ?_)
  · skip
    refine sw_iconst (pc := 25) C (-1) d_Md_pixel_25 (by decide) ?_
    exact sw_iret (pc := 26) C E rfl (Nat.le_of_ble_eq_true rfl) (Nat.le_of_ble_eq_true rfl) d_Md_pixel_26 ⟨by unfold pixV; rw [if_neg (by rw [show inR 16 x = false from nR_t h3, Bool.false_and, Bool.and_false]; decide)], rfl⟩
  refine sw_iload_n (pc := 16) C d_Md_pixel_16 rfl rfl ?_
  refine sw_bipush (pc := 17) C (nI 15) d_Md_pixel_17 (by decide) ?_
  refine sw_callSR (pc := 19) C (c_Md_out l g (y) (nI 15)) ss_Md_outside t_669 [] rfl rfl rfl rfl (Nat.le_of_ble_eq_true rfl) (Nat.le_of_ble_eq_true rfl) (Nat.le_of_ble_eq_true rfl) (Nat.le_of_ble_eq_true rfl) (Nat.le_of_ble_eq_true rfl) d_Md_pixel_19 (fun v w1 hp => ?_)
  obtain ⟨rfl, rfl⟩ := hp
  refine ⟨rfl, ?_⟩
  refine sw_topi (z := bI (!(inR (15 + 1) (y)))) (by rw [outB_n _ (by omega)]) ?_
  refine sw_if_eqB (pc := 22) C 27 d_Md_pixel_22 (by decide) (fun h4 => ?_) (fun h4 => ?_)
  · skip
    have e3 : inR 16 x = true := nR_f h3
    have e4 : inR 16 y = true := nR_f h4
    subst h2
    obtain ⟨i, hi, rfl⟩ := inR_of (by decide) e3
    obtain ⟨j, hj, rfl⟩ := inR_of (by decide) e4
    have eV : inkV true b w h ps sp pt (nI i) (nI j) = inkd b w h ps sp (i : Int) (j : Int) pt := by unfold inkV; rw [e3, e4, nI_clamp (by omega), nI_clamp (by omega)]; rfl
    have eP : pixV true b w h ps sp pt ce0 ce1 (nI i) (nI j) = if inkd b w h ps sp (i : Int) (j : Int) pt = true then ce1 (4 * (j / 4) + i / 4) else ce0 (8 * (j / 2) + i / 2) := by unfold pixV; rw [e3, e4, nI_clamp (by omega), nI_clamp (by omega)]; rfl
    refine sw_aload_n (pc := 27) C d_Md_pixel_27 rfl rfl ?_
    refine sw_iload_n (pc := 28) C d_Md_pixel_28 rfl rfl ?_
    refine sw_iload_n (pc := 29) C d_Md_pixel_29 rfl rfl ?_
    refine sw_callVR (pc := 30) C (c_Md_inked l g R dn pl ln ss pt true rd wd sc sn fp fa b w h ps sp H hpt (nI i) (nI j)) sv_Md_inked t_832 rfl rfl rfl [0, 1, 2, 3] rfl rfl rfl rfl (Nat.le_of_ble_eq_true rfl) (Nat.le_of_ble_eq_true rfl) (Nat.le_of_ble_eq_true rfl) (Nat.le_of_ble_eq_true rfl) (Nat.le_of_ble_eq_true rfl) d_Md_pixel_30 (fun v w1 hp => ?_)
    obtain ⟨rfl, rfl⟩ := hp
    refine ⟨rfl, ?_⟩
    refine sw_if_eqB (pc := 33) C 50 d_Md_pixel_33 (by decide) (fun h5 => ?_) (fun h5 => ?_)
    · skip
      rw [eV] at h5
      refine sw_aload_n (pc := 50) C d_Md_pixel_50 rfl rfl ?_
      refine sw_iconst (pc := 51) C (nI 0) d_Md_pixel_51 (by decide) ?_
      refine sw_iload_n (pc := 52) C d_Md_pixel_52 rfl rfl ?_
      refine sw_iconst (pc := 53) C (nI 2) d_Md_pixel_53 (by decide) ?_
      refine sw_idiv (pc := 54) C d_Md_pixel_54 (by decide) ?_
      refine sw_topi (z := nI (i / 2)) (pk_div (by omega) (by omega) (by omega)) ?_
      refine sw_iload_n (pc := 55) C d_Md_pixel_55 rfl rfl ?_
      refine sw_iconst (pc := 56) C (nI 2) d_Md_pixel_56 (by decide) ?_
      refine sw_idiv (pc := 57) C d_Md_pixel_57 (by decide) ?_
      refine sw_topi (z := nI (j / 2)) (pk_div (by omega) (by omega) (by omega)) ?_
      refine sw_callVR (pc := 58) C (c_Md_cell l g R dn pl ln ss pt true rd wd sc un ce0 ce1 H2 (nI 0) (nI (i / 2)) (nI (j / 2))) sv_Md_cell t_833 rfl rfl rfl [0, 4] rfl rfl rfl rfl (Nat.le_of_ble_eq_true rfl) (Nat.le_of_ble_eq_true rfl) (Nat.le_of_ble_eq_true rfl) (Nat.le_of_ble_eq_true rfl) (Nat.le_of_ble_eq_true rfl) d_Md_pixel_58 (fun v w1 hp => ?_)
      obtain ⟨rfl, rfl⟩ := hp
      refine ⟨rfl, ?_⟩
      exact sw_iret (pc := 61) C E rfl (Nat.le_of_ble_eq_true rfl) (Nat.le_of_ble_eq_true rfl) d_Md_pixel_61 ⟨by rw [eP, if_neg (by rw [h5]; decide), show celV true (nI 0) ce0 ce1 (nI (i / 2)) (nI (j / 2)) (-1) = ce0 (8 * (j / 2) + i / 2) from by rw [show celV true (nI 0) ce0 ce1 (nI (i / 2)) (nI (j / 2)) (-1) = lyAt 8 ce0 (nI (i / 2)) (nI (j / 2)) (-1) from rfl, lyAt_in (by omega) (by omega) (by decide)]], rfl⟩
    rw [eV] at h5
    refine sw_aload_n (pc := 36) C d_Md_pixel_36 rfl rfl ?_
    refine sw_iconst (pc := 37) C (nI 1) d_Md_pixel_37 (by decide) ?_
    refine sw_iload_n (pc := 38) C d_Md_pixel_38 rfl rfl ?_
    refine sw_iconst (pc := 39) C (nI 4) d_Md_pixel_39 (by decide) ?_
    refine sw_idiv (pc := 40) C d_Md_pixel_40 (by decide) ?_
    refine sw_topi (z := nI (i / 4)) (pk_div (by omega) (by omega) (by omega)) ?_
    refine sw_iload_n (pc := 41) C d_Md_pixel_41 rfl rfl ?_
    refine sw_iconst (pc := 42) C (nI 4) d_Md_pixel_42 (by decide) ?_
    refine sw_idiv (pc := 43) C d_Md_pixel_43 (by decide) ?_
    refine sw_topi (z := nI (j / 4)) (pk_div (by omega) (by omega) (by omega)) ?_
    refine sw_callVR (pc := 44) C (c_Md_cell l g R dn pl ln ss pt true rd wd sc un ce0 ce1 H2 (nI 1) (nI (i / 4)) (nI (j / 4))) sv_Md_cell t_833 rfl rfl rfl [0, 4] rfl rfl rfl rfl (Nat.le_of_ble_eq_true rfl) (Nat.le_of_ble_eq_true rfl) (Nat.le_of_ble_eq_true rfl) (Nat.le_of_ble_eq_true rfl) (Nat.le_of_ble_eq_true rfl) d_Md_pixel_44 (fun v w1 hp => ?_)
    obtain ⟨rfl, rfl⟩ := hp
    refine ⟨rfl, ?_⟩
    refine sw_goto (pc := 47) C 61 d_Md_pixel_47 (by decide) ?_
    exact sw_iret (pc := 61) C E rfl (Nat.le_of_ble_eq_true rfl) (Nat.le_of_ble_eq_true rfl) d_Md_pixel_61 ⟨by rw [eP, if_pos h5, show celV true (nI 1) ce0 ce1 (nI (i / 4)) (nI (j / 4)) (-1) = ce1 (4 * (j / 4) + i / 4) from by rw [show celV true (nI 1) ce0 ce1 (nI (i / 4)) (nI (j / 4)) (-1) = lyAt 4 ce1 (nI (i / 4)) (nI (j / 4)) (-1) from rfl, lyAt_in (by omega) (by omega) (by decide)]], rfl⟩
  refine sw_iconst (pc := 25) C (-1) d_Md_pixel_25 (by decide) ?_
  exact sw_iret (pc := 26) C E rfl (Nat.le_of_ble_eq_true rfl) (Nat.le_of_ble_eq_true rfl) d_Md_pixel_26 ⟨by unfold pixV; rw [if_neg (by rw [show inR 16 y = false from nR_t h4, Bool.and_false, Bool.and_false]; decide)], rfl⟩
