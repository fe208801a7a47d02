/-! LayeredPage$Layer: rows and columns of a square -/
theorem row_step {R : (Nat → Int32) → Nat → Int32} {n m y : Nat} {G : Nat → Nat → Int32} (hk : keepsM R m) (hmn : m ≤ n) (hn : 0 < n) : lnU (n * y) 1 m (flat n (rowsU R y G)) (R (fun i => flat n (rowsU R y G) (n * y + i * 1))) = flat n (rowsU R (y + 1) G) := by
  have hrow : ∀ i, i < m → flat n (rowsU R y G) (n * y + i * 1) = G y i := by
    intro i hi
    rw [Nat.mul_one, flat_at (by omega)]
    unfold rowsU
    rw [if_neg (by omega)]
  funext k
  have hd := Nat.div_add_mod k n
  have hm := Nat.mod_lt k hn
  unfold lnU
  by_cases h : n * y ≤ k ∧ (k - n * y) % 1 = 0 ∧ (k - n * y) / 1 < m
  · rw [if_pos h]
    have e1 : k = n * y + (k - n * y) := by omega
    have hlt : k - n * y < m := by have := h.2.2; rw [Nat.div_one] at this; exact this
    rw [Nat.div_one, hk.2 _ (G y) _ hrow hlt]
    generalize k - n * y = x at *
    subst e1
    rw [flat_at (by omega)]
    unfold rowsU
    rw [if_pos (by omega)]
  · rw [if_neg h]
    unfold flat rowsU
    by_cases h2 : k / n < y
    · rw [if_pos h2, if_pos (by omega)]
    · rw [if_neg h2]
      by_cases h3 : k / n < y + 1
      · rw [if_pos h3]
        have e : k / n = y := by omega
        rw [e] at hd
        have hge : m ≤ k % n := by
          apply Nat.not_lt.mp
          intro q
          apply h
          refine ⟨by omega, Nat.mod_one _, ?_⟩
          rw [Nat.div_one]
          omega
        rw [hk.1 _ _ hge]
      · rw [if_neg h3]
theorem col_step {R : (Nat → Int32) → Nat → Int32} {n m x : Nat} {G : Nat → Nat → Int32} (hk : keepsM R m) (hmn : m ≤ n) (hx : x < n) : lnU x n m (flat n (colsU R x G)) (R (fun i => flat n (colsU R x G) (x + i * n))) = flat n (colsU R (x + 1) G) := by
  have hn : 0 < n := by omega
  have hcol : ∀ i, flat n (colsU R x G) (x + i * n) = G i x := by
    intro i
    rw [show x + i * n = n * i + x by rw [Nat.mul_comm]; omega, flat_at hx]
    unfold colsU
    rw [if_neg (by omega)]
  funext k
  have hd := Nat.div_add_mod k n
  have hm := Nat.mod_lt k hn
  unfold lnU
  by_cases h : x ≤ k ∧ (k - x) % n = 0 ∧ (k - x) / n < m
  · rw [if_pos h]
    have h2 := Nat.div_add_mod (k - x) n
    rw [h.2.1, Nat.add_zero] at h2
    have e1 : k = n * ((k - x) / n) + x := by omega
    rw [hk.2 _ (fun i => G i x) _ (fun i _ => hcol i) h.2.2]
    generalize (k - x) / n = i at *
    subst e1
    rw [flat_at hx]
    unfold colsU
    rw [if_pos (by omega)]
  · rw [if_neg h]
    unfold flat colsU
    by_cases h2 : k % n < x
    · rw [if_pos h2, if_pos (by omega)]
    · rw [if_neg h2]
      by_cases h3 : k % n < x + 1
      · rw [if_pos h3]
        have e : k % n = x := by omega
        have hge : m ≤ k / n := by
          apply Nat.not_lt.mp
          intro q
          apply h
          have e2 : k - x = n * (k / n) := by omega
          rw [e2]
          exact ⟨by omega, Nat.mul_mod_right _ _, by rw [Nat.mul_div_cancel_left _ hn]; exact q⟩
        rw [hk.1 _ _ hge, e]
      · rw [if_neg h3]
theorem rowsU_0 (R : (Nat → Int32) → Nat → Int32) (G : Nat → Nat → Int32) : rowsU R 0 G = G := by
  funext y x
  unfold rowsU
  rw [if_neg (by omega)]
theorem colsU_0 (R : (Nat → Int32) → Nat → Int32) (G : Nat → Nat → Int32) : colsU R 0 G = G := by
  funext y x
  unfold colsU
  rw [if_neg (by omega)]
theorem col_lt {n x i : Nat} (hx : x < n) (hi : i < n) : x + i * n < n * n := by
  have := ix_lt (n := n) hi hx
  rw [Nat.mul_comm i n]
  omega
set_option maxRecDepth 100000 in
set_option maxHeartbeats 4000000 in
theorem c_liftCells (l : Launch) (g : Gl) (A : Nat → Nat) (n : Nat) (G : Nat → Nat → Int32) (co cd li : Nat → Int32) (cm : Bool) (hn : n = 4 ∨ n = 8) : Ct l g y_Ly_liftCells b_Ly_liftCells 3 none (rmD 2) [.ref (A 0)] (wLy g A n (flat n (G)) co cd li cm) (fun u w => u = none ∧ ∃ li2, w = wLy g A n (flat n (G)) (flat n (liftN n G)) cd li2 cm) := by
  refine ct_of [some (.ref (A 0)), none, none] (by decide) (Nat.le_of_ble_eq_true rfl) rfl ?_
  intro X C E
  obtain ⟨hnn, hn4, hn8⟩ := nn_le hn
  have lev : ∀ (m : Nat) (Q : Nat → Nat → Int32) (li : Nat → Int32) (o2 : Option Value), m % 2 = 0 → 2 ≤ m → m ≤ n → (∀ (li2 : Nat → Int32), SW X g 3 0 0 (wLy g A n (flat n (G)) (flat n (levL m Q)) cd li2 cm) 76 [some (.ref (A 0)), some (.int (nI m)), some (.int (nI m))] []) → SW X g 3 0 0 (wLy g A n (flat n (G)) (flat n (Q)) cd li cm) 28 [some (.ref (A 0)), some (.int (nI m)), o2] [] := by
    intro m Q li o2 hme hm2 hmn kk
    have hkp : keepsM (lfR m) m := lfR_keeps hme hm2
    have lp_30 : ∀ (d j : Nat) (li : Nat → Int32), j + d = m → (∀ li2 : Nat → Int32, SW X g 3 0 0 (wLy g A n (flat n (G)) (flat n (rowsU (lfR m) m (Q))) cd li2 cm) 53 [some (.ref (A 0)), some (.int (nI m)), some (.int (nI m))] []) → SW X g 3 0 0 (wLy g A n (flat n (G)) (flat n (rowsU (lfR m) j (Q))) cd li cm) 30 [some (.ref (A 0)), some (.int (nI m)), some (.int (nI j))] [] := by
      intro d
      induction d with
      | zero =>
        intro j li hj kk
        refine sw_iload_n (pc := 30) C d_Ly_liftCells_30 rfl rfl ?_
        refine sw_iload_n (pc := 31) C d_Ly_liftCells_31 rfl rfl ?_
        refine sw_icmp_geN (pc := 32) C 53 (by omega) (by omega) d_Ly_liftCells_32 (by decide) (fun h5 => ?_) (fun h5 => ?_)
        · skip
          have ej : j = m := by omega
          subst ej
          exact kk li
        omega
      | succ d ih =>
        intro j li hj kk
        refine sw_iload_n (pc := 30) C d_Ly_liftCells_30 rfl rfl ?_
        refine sw_iload_n (pc := 31) C d_Ly_liftCells_31 rfl rfl ?_
        refine sw_icmp_geN (pc := 32) C 53 (by omega) (by omega) d_Ly_liftCells_32 (by decide) (fun h5 => ?_) (fun h5 => ?_)
        · skip
          omega
        refine sw_aload_n (pc := 35) C d_Ly_liftCells_35 rfl rfl ?_
        refine sw_aload_n (pc := 36) C d_Ly_liftCells_36 rfl rfl ?_
        refine sw_get (pc := 37) C inLy 0 rfl rfl 0 (by decide) t_139 rfl rfl d_Ly_liftCells_37 ?_
        refine sw_topi (z := nI n) rfl ?_
        refine sw_iload_n (pc := 40) C d_Ly_liftCells_40 rfl rfl ?_
        refine sw_imul (pc := 41) C d_Ly_liftCells_41 ?_
        refine sw_topi (z := nI (n * j)) (pk_mul _ _) ?_
        refine sw_iconst (pc := 42) C (nI 1) d_Ly_liftCells_42 (by decide) ?_
        refine sw_iload_n (pc := 43) C d_Ly_liftCells_43 rfl rfl ?_
        refine sw_callVP (pc := 44) C (c_liftLine l g A n (flat n (G)) (flat n (rowsU (lfR m) j (Q))) cd li cm hn (n * j) 1 m hme hm2 hmn (by decide) (by decide) (by have := ix_lt (n := n) (y := j) (x := 0) (by omega) (by omega); omega) (fun i hi => by rw [Nat.mul_one]; exact ix_lt (by omega) (by omega))) sv_Ly_liftLine t_427 rfl rfl rfl [0, 1, 2, 3, 4] rfl rfl rfl rfl (Nat.le_of_ble_eq_true rfl) (Nat.le_of_ble_eq_true rfl) (Nat.le_of_ble_eq_true rfl) (Nat.le_of_ble_eq_true rfl) (Nat.le_of_ble_eq_true rfl) d_Ly_liftCells_44 (fun v w1 hp => ?_)
        obtain ⟨rfl, li2, rfl⟩ := hp
        refine ⟨rfl, ?_⟩
        refine sw_ws (ws' := wLy g A n (flat n (G)) (flat n (rowsU (lfR m) (j + 1) (Q))) cd li2 cm) (by rw [← row_step (hkp) hmn (by omega)]; rfl) ?_
        refine sw_iincN (pc := 47) C 1 d_Ly_liftCells_47 rfl (by decide) (by decide) rfl ?_
        refine sw_goto (pc := 50) C 30 d_Ly_liftCells_50 (by decide) ?_
        exact ih (j + 1) li2 (by omega) kk
    have lp_55 : ∀ (d j : Nat) (li : Nat → Int32), j + d = m → (∀ li2 : Nat → Int32, SW X g 3 0 0 (wLy g A n (flat n (G)) (flat n (colsU (lfR m) m (rowsU (lfR m) m Q))) cd li2 cm) 76 [some (.ref (A 0)), some (.int (nI m)), some (.int (nI m))] []) → SW X g 3 0 0 (wLy g A n (flat n (G)) (flat n (colsU (lfR m) j (rowsU (lfR m) m Q))) cd li cm) 55 [some (.ref (A 0)), some (.int (nI m)), some (.int (nI j))] [] := by
      intro d
      induction d with
      | zero =>
        intro j li hj kk
        refine sw_iload_n (pc := 55) C d_Ly_liftCells_55 rfl rfl ?_
        refine sw_iload_n (pc := 56) C d_Ly_liftCells_56 rfl rfl ?_
        refine sw_icmp_geN (pc := 57) C 76 (by omega) (by omega) d_Ly_liftCells_57 (by decide) (fun h5 => ?_) (fun h5 => ?_)
        · skip
          have ej : j = m := by omega
          subst ej
          exact kk li
        omega
      | succ d ih =>
        intro j li hj kk
        refine sw_iload_n (pc := 55) C d_Ly_liftCells_55 rfl rfl ?_
        refine sw_iload_n (pc := 56) C d_Ly_liftCells_56 rfl rfl ?_
        refine sw_icmp_geN (pc := 57) C 76 (by omega) (by omega) d_Ly_liftCells_57 (by decide) (fun h5 => ?_) (fun h5 => ?_)
        · skip
          omega
        refine sw_aload_n (pc := 60) C d_Ly_liftCells_60 rfl rfl ?_
        refine sw_iload_n (pc := 61) C d_Ly_liftCells_61 rfl rfl ?_
        refine sw_aload_n (pc := 62) C d_Ly_liftCells_62 rfl rfl ?_
        refine sw_get (pc := 63) C inLy 0 rfl rfl 0 (by decide) t_139 rfl rfl d_Ly_liftCells_63 ?_
        refine sw_topi (z := nI n) rfl ?_
        refine sw_iload_n (pc := 66) C d_Ly_liftCells_66 rfl rfl ?_
        refine sw_callVP (pc := 67) C (c_liftLine l g A n (flat n (G)) (flat n (colsU (lfR m) j (rowsU (lfR m) m Q))) cd li cm hn j n m hme hm2 hmn (by omega) (by omega) (by omega) (fun i hi => col_lt (by omega) (by omega))) sv_Ly_liftLine t_427 rfl rfl rfl [0, 1, 2, 3, 4] rfl rfl rfl rfl (Nat.le_of_ble_eq_true rfl) (Nat.le_of_ble_eq_true rfl) (Nat.le_of_ble_eq_true rfl) (Nat.le_of_ble_eq_true rfl) (Nat.le_of_ble_eq_true rfl) d_Ly_liftCells_67 (fun v w1 hp => ?_)
        obtain ⟨rfl, li2, rfl⟩ := hp
        refine ⟨rfl, ?_⟩
        refine sw_ws (ws' := wLy g A n (flat n (G)) (flat n (colsU (lfR m) (j + 1) (rowsU (lfR m) m Q))) cd li2 cm) (by rw [← col_step (hkp) hmn (by omega)]; rfl) ?_
        refine sw_iincN (pc := 70) C 1 d_Ly_liftCells_70 rfl (by decide) (by decide) rfl ?_
        refine sw_goto (pc := 73) C 55 d_Ly_liftCells_73 (by decide) ?_
        exact ih (j + 1) li2 (by omega) kk
    refine sw_iconst (pc := 28) C (nI 0) d_Ly_liftCells_28 (by decide) ?_
    refine sw_istore_n (pc := 29) C d_Ly_liftCells_29 rfl (by decide) rfl ?_
    have k1 := lp_30 m 0 li (by omega) (fun li2 => ?_)
    · rw [rowsU_0] at k1
      exact k1
    refine sw_iconst (pc := 53) C (nI 0) d_Ly_liftCells_53 (by decide) ?_
    refine sw_istore_n (pc := 54) C d_Ly_liftCells_54 rfl (by decide) rfl ?_
    have k2 := lp_55 m 0 li2 (by omega) (fun li3 => kk li3)
    rw [colsU_0] at k2
    exact k2
  refine sw_aload_n (pc := 0) C d_Ly_liftCells_0 rfl rfl ?_
  refine sw_get (pc := 1) C inLy 0 rfl rfl 1 (by decide) t_141 rfl rfl d_Ly_liftCells_1 ?_
  refine sw_iconst (pc := 4) C (nI 0) d_Ly_liftCells_4 (by decide) ?_
  refine sw_aload_n (pc := 5) C d_Ly_liftCells_5 rfl rfl ?_
  refine sw_get (pc := 6) C inLy 0 rfl rfl 2 (by decide) t_142 rfl rfl d_Ly_liftCells_6 ?_
  refine sw_iconst (pc := 9) C (nI 0) d_Ly_liftCells_9 (by decide) ?_
  refine sw_aload_n (pc := 10) C d_Ly_liftCells_10 rfl rfl ?_
  refine sw_get (pc := 11) C inLy 0 rfl rfl 1 (by decide) t_141 rfl rfl d_Ly_liftCells_11 ?_
  refine sw_alenI (pc := 14) C 1 rfl d_Ly_liftCells_14 ?_
  refine sw_copyI (pc := 15) C 1 2 t_424 t_426 t_425 t_14 rfl rfl (by decide) (by decide) (nI_pos (by omega)) (by rw [nI_clamp (show n * n < 2 ^ 31 by omega)]; exact Nat.le_of_eq (Nat.zero_add _)) (by rw [nI_clamp (show n * n < 2 ^ 31 by omega)]; exact Nat.le_of_eq (Nat.zero_add _)) (Nat.le_of_ble_eq_true rfl) (Nat.le_of_ble_eq_true rfl) d_Ly_liftCells_15 ?_
  refine sw_arr (f' := (flat n (G))) 2 rfl (fun j hj => by rw [nI_clamp (show n * n < 2 ^ 31 by omega)]; exact (pk_cpy_in (sp := 0) (dp := 0) (n := n * n) (Nat.zero_le _) (by omega)).trans (by congr 1; omega)) ?_
  refine sw_aload_n (pc := 18) C d_Ly_liftCells_18 rfl rfl ?_
  refine sw_get (pc := 19) C inLy 0 rfl rfl 0 (by decide) t_139 rfl rfl d_Ly_liftCells_19 ?_
  refine sw_topi (z := nI n) rfl ?_
  refine sw_istore_n (pc := 22) C d_Ly_liftCells_22 rfl (by decide) rfl ?_
  rcases hn with rfl | rfl
  · skip
    refine sw_iload_n (pc := 23) C d_Ly_liftCells_23 rfl rfl ?_
    refine sw_iconst (pc := 24) C (nI 2) d_Ly_liftCells_24 (by decide) ?_
    refine sw_icmp_ltN (pc := 25) C 83 (by omega) (by omega) d_Ly_liftCells_25 (by decide) (fun h6 => ?_) (fun h6 => ?_)
    · skip
      omega
    refine lev 4 _ _ _ (by decide) (by decide) (by decide) (fun li3 => ?_)
    refine sw_iload_n (pc := 76) C d_Ly_liftCells_76 rfl rfl ?_
    refine sw_iconst (pc := 77) C (nI 2) d_Ly_liftCells_77 (by decide) ?_
    refine sw_idiv (pc := 78) C d_Ly_liftCells_78 (by decide) ?_
    refine sw_topi (z := nI (4 / 2)) (pk_div (by omega) (by omega) (by omega)) ?_
    refine sw_topi (z := nI 2) rfl ?_
    refine sw_istore_n (pc := 79) C d_Ly_liftCells_79 rfl (by decide) rfl ?_
    refine sw_goto (pc := 80) C 23 d_Ly_liftCells_80 (by decide) ?_
    refine sw_iload_n (pc := 23) C d_Ly_liftCells_23 rfl rfl ?_
    refine sw_iconst (pc := 24) C (nI 2) d_Ly_liftCells_24 (by decide) ?_
    refine sw_icmp_ltN (pc := 25) C 83 (by omega) (by omega) d_Ly_liftCells_25 (by decide) (fun h6 => ?_) (fun h6 => ?_)
    · skip
      omega
    refine lev 2 _ _ _ (by decide) (by decide) (by decide) (fun li3 => ?_)
    refine sw_iload_n (pc := 76) C d_Ly_liftCells_76 rfl rfl ?_
    refine sw_iconst (pc := 77) C (nI 2) d_Ly_liftCells_77 (by decide) ?_
    refine sw_idiv (pc := 78) C d_Ly_liftCells_78 (by decide) ?_
    refine sw_topi (z := nI (2 / 2)) (pk_div (by omega) (by omega) (by omega)) ?_
    refine sw_topi (z := nI 1) rfl ?_
    refine sw_istore_n (pc := 79) C d_Ly_liftCells_79 rfl (by decide) rfl ?_
    refine sw_goto (pc := 80) C 23 d_Ly_liftCells_80 (by decide) ?_
    refine sw_iload_n (pc := 23) C d_Ly_liftCells_23 rfl rfl ?_
    refine sw_iconst (pc := 24) C (nI 2) d_Ly_liftCells_24 (by decide) ?_
    refine sw_icmp_ltN (pc := 25) C 83 (by omega) (by omega) d_Ly_liftCells_25 (by decide) (fun h6 => ?_) (fun h6 => ?_)
    · skip
      exact sw_vret (pc := 83) C E rfl (Nat.le_of_ble_eq_true rfl) (Nat.le_of_ble_eq_true rfl) d_Ly_liftCells_83 ⟨rfl, _, rfl⟩
    omega
  refine sw_iload_n (pc := 23) C d_Ly_liftCells_23 rfl rfl ?_
  refine sw_iconst (pc := 24) C (nI 2) d_Ly_liftCells_24 (by decide) ?_
  refine sw_icmp_ltN (pc := 25) C 83 (by omega) (by omega) d_Ly_liftCells_25 (by decide) (fun h6 => ?_) (fun h6 => ?_)
  · skip
    omega
  refine lev 8 _ _ _ (by decide) (by decide) (by decide) (fun li3 => ?_)
  refine sw_iload_n (pc := 76) C d_Ly_liftCells_76 rfl rfl ?_
  refine sw_iconst (pc := 77) C (nI 2) d_Ly_liftCells_77 (by decide) ?_
  refine sw_idiv (pc := 78) C d_Ly_liftCells_78 (by decide) ?_
  refine sw_topi (z := nI (8 / 2)) (pk_div (by omega) (by omega) (by omega)) ?_
  refine sw_topi (z := nI 4) rfl ?_
  refine sw_istore_n (pc := 79) C d_Ly_liftCells_79 rfl (by decide) rfl ?_
  refine sw_goto (pc := 80) C 23 d_Ly_liftCells_80 (by decide) ?_
  refine sw_iload_n (pc := 23) C d_Ly_liftCells_23 rfl rfl ?_
  refine sw_iconst (pc := 24) C (nI 2) d_Ly_liftCells_24 (by decide) ?_
  refine sw_icmp_ltN (pc := 25) C 83 (by omega) (by omega) d_Ly_liftCells_25 (by decide) (fun h6 => ?_) (fun h6 => ?_)
  · skip
    omega
  refine lev 4 _ _ _ (by decide) (by decide) (by decide) (fun li3 => ?_)
  refine sw_iload_n (pc := 76) C d_Ly_liftCells_76 rfl rfl ?_
  refine sw_iconst (pc := 77) C (nI 2) d_Ly_liftCells_77 (by decide) ?_
  refine sw_idiv (pc := 78) C d_Ly_liftCells_78 (by decide) ?_
  refine sw_topi (z := nI (4 / 2)) (pk_div (by omega) (by omega) (by omega)) ?_
  refine sw_topi (z := nI 2) rfl ?_
  refine sw_istore_n (pc := 79) C d_Ly_liftCells_79 rfl (by decide) rfl ?_
  refine sw_goto (pc := 80) C 23 d_Ly_liftCells_80 (by decide) ?_
  refine sw_iload_n (pc := 23) C d_Ly_liftCells_23 rfl rfl ?_
  refine sw_iconst (pc := 24) C (nI 2) d_Ly_liftCells_24 (by decide) ?_
  refine sw_icmp_ltN (pc := 25) C 83 (by omega) (by omega) d_Ly_liftCells_25 (by decide) (fun h6 => ?_) (fun h6 => ?_)
  · skip
    omega
  refine lev 2 _ _ _ (by decide) (by decide) (by decide) (fun li3 => ?_)
  refine sw_iload_n (pc := 76) C d_Ly_liftCells_76 rfl rfl ?_
  refine sw_iconst (pc := 77) C (nI 2) d_Ly_liftCells_77 (by decide) ?_
  refine sw_idiv (pc := 78) C d_Ly_liftCells_78 (by decide) ?_
  refine sw_topi (z := nI (2 / 2)) (pk_div (by omega) (by omega) (by omega)) ?_
  refine sw_topi (z := nI 1) rfl ?_
  refine sw_istore_n (pc := 79) C d_Ly_liftCells_79 rfl (by decide) rfl ?_
  refine sw_goto (pc := 80) C 23 d_Ly_liftCells_80 (by decide) ?_
  refine sw_iload_n (pc := 23) C d_Ly_liftCells_23 rfl rfl ?_
  refine sw_iconst (pc := 24) C (nI 2) d_Ly_liftCells_24 (by decide) ?_
  refine sw_icmp_ltN (pc := 25) C 83 (by omega) (by omega) d_Ly_liftCells_25 (by decide) (fun h6 => ?_) (fun h6 => ?_)
  · skip
    exact sw_vret (pc := 83) C E rfl (Nat.le_of_ble_eq_true rfl) (Nat.le_of_ble_eq_true rfl) d_Ly_liftCells_83 ⟨rfl, _, rfl⟩
  omega
def clp (v : Int32) : Int32 := if nI 0 < (if v < nI 63 then v else nI 63) then (if v < nI 63 then v else nI 63) else nI 0
set_option maxRecDepth 100000 in
set_option maxHeartbeats 4000000 in
theorem c_undoC (l : Launch) (g : Gl) (A : Nat → Nat) (n : Nat) (G : Nat → Nat → Int32) (ce cd li : Nat → Int32) (cm : Bool) (hn : n = 4 ∨ n = 8) : Ct l g y_Ly_undoCoefficients b_Ly_undoCoefficients 3 none (rmD 2) [.ref (A 0)] (wLy g A n ce (flat n (G)) cd li cm) (fun u w => u = none ∧ ∃ li2, w = wLy g A n (fun k => clp (flat n (undoN n G) k)) (flat n (G)) cd li2 cm) := by
  refine ct_of [some (.ref (A 0)), none, none] (by decide) (Nat.le_of_ble_eq_true rfl) rfl ?_
  intro X C E
  obtain ⟨hnn, hn4, hn8⟩ := nn_le hn
  have lev : ∀ (m : Nat) (Q : Nat → Nat → Int32) (li : Nat → Int32) (o2 : Option Value), m % 2 = 0 → 2 ≤ m → m ≤ n → (∀ (li2 : Nat → Int32), SW X g 3 0 0 (wLy g A n (flat n (levD m Q)) (flat n (G)) cd li2 cm) 76 [some (.ref (A 0)), some (.int (nI m)), some (.int (nI m))] []) → SW X g 3 0 0 (wLy g A n (flat n (Q)) (flat n (G)) cd li cm) 28 [some (.ref (A 0)), some (.int (nI m)), o2] [] := by
    intro m Q li o2 hme hm2 hmn kk
    have hkp : keepsM (drR m) m := drR_keeps hme hm2
    have lp_30 : ∀ (d j : Nat) (li : Nat → Int32), j + d = m → (∀ li2 : Nat → Int32, SW X g 3 0 0 (wLy g A n (flat n (colsU (drR m) m (Q))) (flat n (G)) cd li2 cm) 51 [some (.ref (A 0)), some (.int (nI m)), some (.int (nI m))] []) → SW X g 3 0 0 (wLy g A n (flat n (colsU (drR m) j (Q))) (flat n (G)) cd li cm) 30 [some (.ref (A 0)), some (.int (nI m)), some (.int (nI j))] [] := by
      intro d
      induction d with
      | zero =>
        intro j li hj kk
        refine sw_iload_n (pc := 30) C d_Ly_undoCoefficients_30 rfl rfl ?_
        refine sw_iload_n (pc := 31) C d_Ly_undoCoefficients_31 rfl rfl ?_
        refine sw_icmp_geN (pc := 32) C 51 (by omega) (by omega) d_Ly_undoCoefficients_32 (by decide) (fun h5 => ?_) (fun h5 => ?_)
        · skip
          have ej : j = m := by omega
          subst ej
          exact kk li
        omega
      | succ d ih =>
        intro j li hj kk
        refine sw_iload_n (pc := 30) C d_Ly_undoCoefficients_30 rfl rfl ?_
        refine sw_iload_n (pc := 31) C d_Ly_undoCoefficients_31 rfl rfl ?_
        refine sw_icmp_geN (pc := 32) C 51 (by omega) (by omega) d_Ly_undoCoefficients_32 (by decide) (fun h5 => ?_) (fun h5 => ?_)
        · skip
          omega
        refine sw_aload_n (pc := 35) C d_Ly_undoCoefficients_35 rfl rfl ?_
        refine sw_iload_n (pc := 36) C d_Ly_undoCoefficients_36 rfl rfl ?_
        refine sw_aload_n (pc := 37) C d_Ly_undoCoefficients_37 rfl rfl ?_
        refine sw_get (pc := 38) C inLy 0 rfl rfl 0 (by decide) t_139 rfl rfl d_Ly_undoCoefficients_38 ?_
        refine sw_topi (z := nI n) rfl ?_
        refine sw_iload_n (pc := 41) C d_Ly_undoCoefficients_41 rfl rfl ?_
        refine sw_callVP (pc := 42) C (c_undoLine l g A n (flat n (colsU (drR m) j (Q))) (flat n (G)) cd li cm hn j n m hme hm2 hmn (by omega) (by omega) (by omega) (fun i hi => col_lt (by omega) (by omega))) sv_Ly_undoLine t_515 rfl rfl rfl [0, 1, 2, 3, 4] rfl rfl rfl rfl (Nat.le_of_ble_eq_true rfl) (Nat.le_of_ble_eq_true rfl) (Nat.le_of_ble_eq_true rfl) (Nat.le_of_ble_eq_true rfl) (Nat.le_of_ble_eq_true rfl) d_Ly_undoCoefficients_42 (fun v w1 hp => ?_)
        obtain ⟨rfl, li2, rfl⟩ := hp
        refine ⟨rfl, ?_⟩
        refine sw_ws (ws' := wLy g A n (flat n (colsU (drR m) (j + 1) (Q))) (flat n (G)) cd li2 cm) (by rw [← col_step (hkp) hmn (by omega)]; rfl) ?_
        refine sw_iincN (pc := 45) C 1 d_Ly_undoCoefficients_45 rfl (by decide) (by decide) rfl ?_
        refine sw_goto (pc := 48) C 30 d_Ly_undoCoefficients_48 (by decide) ?_
        exact ih (j + 1) li2 (by omega) kk
    have lp_53 : ∀ (d j : Nat) (li : Nat → Int32), j + d = m → (∀ li2 : Nat → Int32, SW X g 3 0 0 (wLy g A n (flat n (rowsU (drR m) m (colsU (drR m) m Q))) (flat n (G)) cd li2 cm) 76 [some (.ref (A 0)), some (.int (nI m)), some (.int (nI m))] []) → SW X g 3 0 0 (wLy g A n (flat n (rowsU (drR m) j (colsU (drR m) m Q))) (flat n (G)) cd li cm) 53 [some (.ref (A 0)), some (.int (nI m)), some (.int (nI j))] [] := by
      intro d
      induction d with
      | zero =>
        intro j li hj kk
        refine sw_iload_n (pc := 53) C d_Ly_undoCoefficients_53 rfl rfl ?_
        refine sw_iload_n (pc := 54) C d_Ly_undoCoefficients_54 rfl rfl ?_
        refine sw_icmp_geN (pc := 55) C 76 (by omega) (by omega) d_Ly_undoCoefficients_55 (by decide) (fun h5 => ?_) (fun h5 => ?_)
        · skip
          have ej : j = m := by omega
          subst ej
          exact kk li
        omega
      | succ d ih =>
        intro j li hj kk
        refine sw_iload_n (pc := 53) C d_Ly_undoCoefficients_53 rfl rfl ?_
        refine sw_iload_n (pc := 54) C d_Ly_undoCoefficients_54 rfl rfl ?_
        refine sw_icmp_geN (pc := 55) C 76 (by omega) (by omega) d_Ly_undoCoefficients_55 (by decide) (fun h5 => ?_) (fun h5 => ?_)
        · skip
          omega
        refine sw_aload_n (pc := 58) C d_Ly_undoCoefficients_58 rfl rfl ?_
        refine sw_aload_n (pc := 59) C d_Ly_undoCoefficients_59 rfl rfl ?_
        refine sw_get (pc := 60) C inLy 0 rfl rfl 0 (by decide) t_139 rfl rfl d_Ly_undoCoefficients_60 ?_
        refine sw_topi (z := nI n) rfl ?_
        refine sw_iload_n (pc := 63) C d_Ly_undoCoefficients_63 rfl rfl ?_
        refine sw_imul (pc := 64) C d_Ly_undoCoefficients_64 ?_
        refine sw_topi (z := nI (n * j)) (pk_mul _ _) ?_
        refine sw_iconst (pc := 65) C (nI 1) d_Ly_undoCoefficients_65 (by decide) ?_
        refine sw_iload_n (pc := 66) C d_Ly_undoCoefficients_66 rfl rfl ?_
        refine sw_callVP (pc := 67) C (c_undoLine l g A n (flat n (rowsU (drR m) j (colsU (drR m) m Q))) (flat n (G)) cd li cm hn (n * j) 1 m hme hm2 hmn (by decide) (by decide) (by have := ix_lt (n := n) (y := j) (x := 0) (by omega) (by omega); omega) (fun i hi => by rw [Nat.mul_one]; exact ix_lt (by omega) (by omega))) sv_Ly_undoLine t_515 rfl rfl rfl [0, 1, 2, 3, 4] rfl rfl rfl rfl (Nat.le_of_ble_eq_true rfl) (Nat.le_of_ble_eq_true rfl) (Nat.le_of_ble_eq_true rfl) (Nat.le_of_ble_eq_true rfl) (Nat.le_of_ble_eq_true rfl) d_Ly_undoCoefficients_67 (fun v w1 hp => ?_)
        obtain ⟨rfl, li2, rfl⟩ := hp
        refine ⟨rfl, ?_⟩
        refine sw_ws (ws' := wLy g A n (flat n (rowsU (drR m) (j + 1) (colsU (drR m) m Q))) (flat n (G)) cd li2 cm) (by rw [← row_step (hkp) hmn (by omega)]; rfl) ?_
        refine sw_iincN (pc := 70) C 1 d_Ly_undoCoefficients_70 rfl (by decide) (by decide) rfl ?_
        refine sw_goto (pc := 73) C 53 d_Ly_undoCoefficients_73 (by decide) ?_
        exact ih (j + 1) li2 (by omega) kk
    refine sw_iconst (pc := 28) C (nI 0) d_Ly_undoCoefficients_28 (by decide) ?_
    refine sw_istore_n (pc := 29) C d_Ly_undoCoefficients_29 rfl (by decide) rfl ?_
    have k1 := lp_30 m 0 li (by omega) (fun li2 => ?_)
    · rw [colsU_0] at k1
      exact k1
    refine sw_iconst (pc := 51) C (nI 0) d_Ly_undoCoefficients_51 (by decide) ?_
    refine sw_istore_n (pc := 52) C d_Ly_undoCoefficients_52 rfl (by decide) rfl ?_
    have k2 := lp_53 m 0 li2 (by omega) (fun li3 => kk li3)
    rw [rowsU_0] at k2
    exact k2
  have clmp : ∀ (F : Nat → Int32) (li : Nat → Int32) (d i : Nat) (f : Nat → Int32) (o2 : Option Value), i + d = n * n → (∀ j, f j = if j < i then clp (F j) else F j) → (∀ f2 : Nat → Int32, (∀ j, j < n * n → f2 j = clp (F j)) → SW X g 3 0 0 (wLy g A n f2 (flat n (G)) cd li cm) 121 [some (.ref (A 0)), some (.int (nI (n * n))), o2] []) → SW X g 3 0 0 (wLy g A n f (flat n (G)) cd li cm) 85 [some (.ref (A 0)), some (.int (nI i)), o2] [] := by
    intro F li d
    induction d with
    | zero =>
      intro i f o2 hi hf kk
      refine sw_iload_n (pc := 85) C d_Ly_undoCoefficients_85 rfl rfl ?_
      refine sw_aload_n (pc := 86) C d_Ly_undoCoefficients_86 rfl rfl ?_
      refine sw_get (pc := 87) C inLy 0 rfl rfl 1 (by decide) t_141 rfl rfl d_Ly_undoCoefficients_87 ?_
      refine sw_alenI (pc := 90) C 1 rfl d_Ly_undoCoefficients_90 ?_
      refine sw_icmp_geN (pc := 91) C 121 (by omega) (by omega) d_Ly_undoCoefficients_91 (by decide) (fun h5 => ?_) (fun h5 => ?_)
      · skip
        have ei : i = n * n := by omega
        subst ei
        exact kk f (fun j hj => by rw [hf j, if_pos hj])
      omega
    | succ d ih =>
      intro i f o2 hi hf kk
      refine sw_iload_n (pc := 85) C d_Ly_undoCoefficients_85 rfl rfl ?_
      refine sw_aload_n (pc := 86) C d_Ly_undoCoefficients_86 rfl rfl ?_
      refine sw_get (pc := 87) C inLy 0 rfl rfl 1 (by decide) t_141 rfl rfl d_Ly_undoCoefficients_87 ?_
      refine sw_alenI (pc := 90) C 1 rfl d_Ly_undoCoefficients_90 ?_
      refine sw_icmp_geN (pc := 91) C 121 (by omega) (by omega) d_Ly_undoCoefficients_91 (by decide) (fun h5 => ?_) (fun h5 => ?_)
      · skip
        omega
      refine sw_aload_n (pc := 94) C d_Ly_undoCoefficients_94 rfl rfl ?_
      refine sw_get (pc := 95) C inLy 0 rfl rfl 1 (by decide) t_141 rfl rfl d_Ly_undoCoefficients_95 ?_
      refine sw_iload_n (pc := 98) C d_Ly_undoCoefficients_98 rfl rfl ?_
      refine sw_iconst (pc := 99) C (nI 0) d_Ly_undoCoefficients_99 (by decide) ?_
      refine sw_bipush (pc := 100) C (nI 63) d_Ly_undoCoefficients_100 (by decide) ?_
      refine sw_aload_n (pc := 102) C d_Ly_undoCoefficients_102 rfl rfl ?_
      refine sw_get (pc := 103) C inLy 0 rfl rfl 1 (by decide) t_141 rfl rfl d_Ly_undoCoefficients_103 ?_
      refine sw_iload_n (pc := 106) C d_Ly_undoCoefficients_106 rfl rfl ?_
      refine sw_ialdN (pc := 107) C 1 i rfl rfl (by omega) (by omega) d_Ly_undoCoefficients_107 ?_
      refine sw_mmin (pc := 108) C t_519 t_406 t_13 t_407 (Nat.le_of_ble_eq_true rfl) (Nat.le_of_ble_eq_true rfl) (Nat.le_of_ble_eq_true rfl) (Nat.le_of_ble_eq_true rfl) d_Ly_undoCoefficients_108 ?_
      refine sw_mmax (pc := 111) C t_520 t_331 t_13 t_332 (Nat.le_of_ble_eq_true rfl) (Nat.le_of_ble_eq_true rfl) (Nat.le_of_ble_eq_true rfl) (Nat.le_of_ble_eq_true rfl) d_Ly_undoCoefficients_111 ?_
      refine sw_topi (z := clp (F i)) (by unfold clp; rw [show F i = f i from by rw [hf i, if_neg (by omega)]]) ?_
      refine sw_iastN (pc := 114) C 1 i rfl rfl (by omega) (by omega) d_Ly_undoCoefficients_114 ?_
      refine sw_iincN (pc := 115) C 1 d_Ly_undoCoefficients_115 rfl (by decide) (by decide) rfl ?_
      refine sw_goto (pc := 118) C 85 d_Ly_undoCoefficients_118 (by decide) ?_
      refine ih (i + 1) (upd f i (clp (F i))) o2 (by omega) (fun j => ?_) kk
      unfold upd
      by_cases e : j = i
      · rw [if_pos e, if_pos (by omega), e]
      · rw [if_neg e, hf j]
        by_cases h : j < i
        · rw [if_pos h, if_pos (by omega)]
        · rw [if_neg h, if_neg (by omega)]
  refine sw_aload_n (pc := 0) C d_Ly_undoCoefficients_0 rfl rfl ?_
  refine sw_get (pc := 1) C inLy 0 rfl rfl 2 (by decide) t_142 rfl rfl d_Ly_undoCoefficients_1 ?_
  refine sw_iconst (pc := 4) C (nI 0) d_Ly_undoCoefficients_4 (by decide) ?_
  refine sw_aload_n (pc := 5) C d_Ly_undoCoefficients_5 rfl rfl ?_
  refine sw_get (pc := 6) C inLy 0 rfl rfl 1 (by decide) t_141 rfl rfl d_Ly_undoCoefficients_6 ?_
  refine sw_iconst (pc := 9) C (nI 0) d_Ly_undoCoefficients_9 (by decide) ?_
  refine sw_aload_n (pc := 10) C d_Ly_undoCoefficients_10 rfl rfl ?_
  refine sw_get (pc := 11) C inLy 0 rfl rfl 1 (by decide) t_141 rfl rfl d_Ly_undoCoefficients_11 ?_
  refine sw_alenI (pc := 14) C 1 rfl d_Ly_undoCoefficients_14 ?_
  refine sw_copyI (pc := 15) C 2 1 t_424 t_426 t_425 t_14 rfl rfl (by decide) (by decide) (nI_pos (by omega)) (by rw [nI_clamp (show n * n < 2 ^ 31 by omega)]; exact Nat.le_of_eq (Nat.zero_add _)) (by rw [nI_clamp (show n * n < 2 ^ 31 by omega)]; exact Nat.le_of_eq (Nat.zero_add _)) (Nat.le_of_ble_eq_true rfl) (Nat.le_of_ble_eq_true rfl) d_Ly_undoCoefficients_15 ?_
  refine sw_arr (f' := (flat n (G))) 1 rfl (fun j hj => by rw [nI_clamp (show n * n < 2 ^ 31 by omega)]; exact (pk_cpy_in (sp := 0) (dp := 0) (n := n * n) (Nat.zero_le _) (by omega)).trans (by congr 1; omega)) ?_
  refine sw_iconst (pc := 18) C (nI 2) d_Ly_undoCoefficients_18 (by decide) ?_
  refine sw_istore_n (pc := 19) C d_Ly_undoCoefficients_19 rfl (by decide) rfl ?_
  rcases hn with rfl | rfl
  · skip
    refine sw_iload_n (pc := 20) C d_Ly_undoCoefficients_20 rfl rfl ?_
    refine sw_aload_n (pc := 21) C d_Ly_undoCoefficients_21 rfl rfl ?_
    refine sw_get (pc := 22) C inLy 0 rfl rfl 0 (by decide) t_139 rfl rfl d_Ly_undoCoefficients_22 ?_
    refine sw_topi (z := nI 4) rfl ?_
    refine sw_icmp_gtN (pc := 25) C 83 (by omega) (by omega) d_Ly_undoCoefficients_25 (by decide) (fun h6 => ?_) (fun h6 => ?_)
    · skip
      omega
    refine lev 2 _ _ _ (by decide) (by decide) (by decide) (fun li3 => ?_)
    refine sw_iload_n (pc := 76) C d_Ly_undoCoefficients_76 rfl rfl ?_
    refine sw_iconst (pc := 77) C (nI 2) d_Ly_undoCoefficients_77 (by decide) ?_
    refine sw_imul (pc := 78) C d_Ly_undoCoefficients_78 ?_
    refine sw_topi (z := nI (2 * 2)) (pk_mul _ _) ?_
    refine sw_topi (z := nI 4) rfl ?_
    refine sw_istore_n (pc := 79) C d_Ly_undoCoefficients_79 rfl (by decide) rfl ?_
    refine sw_goto (pc := 80) C 20 d_Ly_undoCoefficients_80 (by decide) ?_
    refine sw_iload_n (pc := 20) C d_Ly_undoCoefficients_20 rfl rfl ?_
    refine sw_aload_n (pc := 21) C d_Ly_undoCoefficients_21 rfl rfl ?_
    refine sw_get (pc := 22) C inLy 0 rfl rfl 0 (by decide) t_139 rfl rfl d_Ly_undoCoefficients_22 ?_
    refine sw_topi (z := nI 4) rfl ?_
    refine sw_icmp_gtN (pc := 25) C 83 (by omega) (by omega) d_Ly_undoCoefficients_25 (by decide) (fun h6 => ?_) (fun h6 => ?_)
    · skip
      omega
    refine lev 4 _ _ _ (by decide) (by decide) (by decide) (fun li3 => ?_)
    refine sw_iload_n (pc := 76) C d_Ly_undoCoefficients_76 rfl rfl ?_
    refine sw_iconst (pc := 77) C (nI 2) d_Ly_undoCoefficients_77 (by decide) ?_
    refine sw_imul (pc := 78) C d_Ly_undoCoefficients_78 ?_
    refine sw_topi (z := nI (4 * 2)) (pk_mul _ _) ?_
    refine sw_topi (z := nI 8) rfl ?_
    refine sw_istore_n (pc := 79) C d_Ly_undoCoefficients_79 rfl (by decide) rfl ?_
    refine sw_goto (pc := 80) C 20 d_Ly_undoCoefficients_80 (by decide) ?_
    refine sw_iload_n (pc := 20) C d_Ly_undoCoefficients_20 rfl rfl ?_
    refine sw_aload_n (pc := 21) C d_Ly_undoCoefficients_21 rfl rfl ?_
    refine sw_get (pc := 22) C inLy 0 rfl rfl 0 (by decide) t_139 rfl rfl d_Ly_undoCoefficients_22 ?_
    refine sw_topi (z := nI 4) rfl ?_
    refine sw_icmp_gtN (pc := 25) C 83 (by omega) (by omega) d_Ly_undoCoefficients_25 (by decide) (fun h6 => ?_) (fun h6 => ?_)
    · skip
      refine sw_iconst (pc := 83) C (nI 0) d_Ly_undoCoefficients_83 (by decide) ?_
      refine sw_istore_n (pc := 84) C d_Ly_undoCoefficients_84 rfl (by decide) rfl ?_
      refine clmp (flat 4 (levD 4 (levD 2 (G)))) _ (4 * 4) 0 _ _ (by omega) (fun j => by rw [if_neg (by omega)]) (fun f2 hf2 => ?_)
      refine sw_arr (f' := fun k => clp (flat 4 (undoN 4 G) k)) 1 rfl (fun j hj => by rw [hf2 j hj]; rfl) ?_
      exact sw_vret (pc := 121) C E rfl (Nat.le_of_ble_eq_true rfl) (Nat.le_of_ble_eq_true rfl) d_Ly_undoCoefficients_121 ⟨rfl, _, rfl⟩
    omega
  refine sw_iload_n (pc := 20) C d_Ly_undoCoefficients_20 rfl rfl ?_
  refine sw_aload_n (pc := 21) C d_Ly_undoCoefficients_21 rfl rfl ?_
  refine sw_get (pc := 22) C inLy 0 rfl rfl 0 (by decide) t_139 rfl rfl d_Ly_undoCoefficients_22 ?_
  refine sw_topi (z := nI 8) rfl ?_
  refine sw_icmp_gtN (pc := 25) C 83 (by omega) (by omega) d_Ly_undoCoefficients_25 (by decide) (fun h6 => ?_) (fun h6 => ?_)
  · skip
    omega
  refine lev 2 _ _ _ (by decide) (by decide) (by decide) (fun li3 => ?_)
  refine sw_iload_n (pc := 76) C d_Ly_undoCoefficients_76 rfl rfl ?_
  refine sw_iconst (pc := 77) C (nI 2) d_Ly_undoCoefficients_77 (by decide) ?_
  refine sw_imul (pc := 78) C d_Ly_undoCoefficients_78 ?_
  refine sw_topi (z := nI (2 * 2)) (pk_mul _ _) ?_
  refine sw_topi (z := nI 4) rfl ?_
  refine sw_istore_n (pc := 79) C d_Ly_undoCoefficients_79 rfl (by decide) rfl ?_
  refine sw_goto (pc := 80) C 20 d_Ly_undoCoefficients_80 (by decide) ?_
  refine sw_iload_n (pc := 20) C d_Ly_undoCoefficients_20 rfl rfl ?_
  refine sw_aload_n (pc := 21) C d_Ly_undoCoefficients_21 rfl rfl ?_
  refine sw_get (pc := 22) C inLy 0 rfl rfl 0 (by decide) t_139 rfl rfl d_Ly_undoCoefficients_22 ?_
  refine sw_topi (z := nI 8) rfl ?_
  refine sw_icmp_gtN (pc := 25) C 83 (by omega) (by omega) d_Ly_undoCoefficients_25 (by decide) (fun h6 => ?_) (fun h6 => ?_)
  · skip
    omega
  refine lev 4 _ _ _ (by decide) (by decide) (by decide) (fun li3 => ?_)
  refine sw_iload_n (pc := 76) C d_Ly_undoCoefficients_76 rfl rfl ?_
  refine sw_iconst (pc := 77) C (nI 2) d_Ly_undoCoefficients_77 (by decide) ?_
  refine sw_imul (pc := 78) C d_Ly_undoCoefficients_78 ?_
  refine sw_topi (z := nI (4 * 2)) (pk_mul _ _) ?_
  refine sw_topi (z := nI 8) rfl ?_
  refine sw_istore_n (pc := 79) C d_Ly_undoCoefficients_79 rfl (by decide) rfl ?_
  refine sw_goto (pc := 80) C 20 d_Ly_undoCoefficients_80 (by decide) ?_
  refine sw_iload_n (pc := 20) C d_Ly_undoCoefficients_20 rfl rfl ?_
  refine sw_aload_n (pc := 21) C d_Ly_undoCoefficients_21 rfl rfl ?_
  refine sw_get (pc := 22) C inLy 0 rfl rfl 0 (by decide) t_139 rfl rfl d_Ly_undoCoefficients_22 ?_
  refine sw_topi (z := nI 8) rfl ?_
  refine sw_icmp_gtN (pc := 25) C 83 (by omega) (by omega) d_Ly_undoCoefficients_25 (by decide) (fun h6 => ?_) (fun h6 => ?_)
  · skip
    omega
  refine lev 8 _ _ _ (by decide) (by decide) (by decide) (fun li3 => ?_)
  refine sw_iload_n (pc := 76) C d_Ly_undoCoefficients_76 rfl rfl ?_
  refine sw_iconst (pc := 77) C (nI 2) d_Ly_undoCoefficients_77 (by decide) ?_
  refine sw_imul (pc := 78) C d_Ly_undoCoefficients_78 ?_
  refine sw_topi (z := nI (8 * 2)) (pk_mul _ _) ?_
  refine sw_topi (z := nI 16) rfl ?_
  refine sw_istore_n (pc := 79) C d_Ly_undoCoefficients_79 rfl (by decide) rfl ?_
  refine sw_goto (pc := 80) C 20 d_Ly_undoCoefficients_80 (by decide) ?_
  refine sw_iload_n (pc := 20) C d_Ly_undoCoefficients_20 rfl rfl ?_
  refine sw_aload_n (pc := 21) C d_Ly_undoCoefficients_21 rfl rfl ?_
  refine sw_get (pc := 22) C inLy 0 rfl rfl 0 (by decide) t_139 rfl rfl d_Ly_undoCoefficients_22 ?_
  refine sw_topi (z := nI 8) rfl ?_
  refine sw_icmp_gtN (pc := 25) C 83 (by omega) (by omega) d_Ly_undoCoefficients_25 (by decide) (fun h6 => ?_) (fun h6 => ?_)
  · skip
    refine sw_iconst (pc := 83) C (nI 0) d_Ly_undoCoefficients_83 (by decide) ?_
    refine sw_istore_n (pc := 84) C d_Ly_undoCoefficients_84 rfl (by decide) rfl ?_
    refine clmp (flat 8 (levD 8 (levD 4 (levD 2 (G))))) _ (8 * 8) 0 _ _ (by omega) (fun j => by rw [if_neg (by omega)]) (fun f2 hf2 => ?_)
    refine sw_arr (f' := fun k => clp (flat 8 (undoN 8 G) k)) 1 rfl (fun j hj => by rw [hf2 j hj]; rfl) ?_
    exact sw_vret (pc := 121) C E rfl (Nat.le_of_ble_eq_true rfl) (Nat.le_of_ble_eq_true rfl) d_Ly_undoCoefficients_121 ⟨rfl, _, rfl⟩
  omega
