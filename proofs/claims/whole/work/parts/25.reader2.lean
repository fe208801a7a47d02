/-! Octets.chunkSize; LayeredPage$DocumentReader: placings -/
/-- the size of the chunk whose kind stands at j, or none -/
def szO (l : List Nat) (j : Nat) : Option Nat := if l.length < j + 3 then none else if l.length < j + 3 + (256 * l.getD (j + 1) 0 + l.getD (j + 2) 0) then none else some (256 * l.getD (j + 1) 0 + l.getD (j + 2) 0)
def szI : Option Nat → Int32
  | none => -1
  | some n => nI n
theorem szO_le {l : List Nat} {j n : Nat} (h : szO l j = some n) : j + 3 + n ≤ l.length := by
  unfold szO at h
  split at h
  · cases h
  · split at h
    · cases h
    · cases h; omega
set_option maxRecDepth 100000 in
set_option maxHeartbeats 4000000 in
theorem c_Oct_size (l : Launch) (g : Gl) (a r : Nat) (l0 : List Nat) (hl : bytesOK l0) (j : Nat) (hj : j ≤ l0.length) : Ct l g y_Oct_chunkSize b_Oct_chunkSize 3 (some .int) (rmD 1) [.ref a, .int (nI j)] (wOct g a r (rowOf l0) (nI l0.length)) (fun v w => v = some (.int (szI (szO l0 j))) ∧ w = wOct g a r (rowOf l0) (nI l0.length)) := by
  refine ct_of [some (.ref a), some (.int (nI j)), none] (by decide) (Nat.le_of_ble_eq_true rfl) rfl ?_
  intro X C E
  have hl1 := hl.1
  have hb1 := hl.2 (j + 1)
  have hb2 := hl.2 (j + 2)
  refine sw_aload_n (pc := 0) C d_Oct_chunkSize_0 rfl rfl ?_
  refine sw_get (pc := 1) C inOct 0 rfl rfl 1 (by decide) t_32 rfl rfl d_Oct_chunkSize_1 ?_
  refine sw_topi (z := nI l0.length) rfl ?_
  refine sw_iload_n (pc := 4) C d_Oct_chunkSize_4 rfl rfl ?_
  refine sw_isub (pc := 5) C d_Oct_chunkSize_5 ?_
  refine sw_topi (z := nI (l0.length - j)) (pk_sub (by omega)) ?_
  refine sw_iconst (pc := 6) C (nI 3) d_Oct_chunkSize_6 (by decide) ?_
  refine sw_icmp_geN (pc := 7) C 12 (by omega) (by omega) d_Oct_chunkSize_7 (by decide) (fun g1 => ?_) (fun g1 => ?_)
  · skip
    refine sw_sipush (pc := 12) C (nI 256) d_Oct_chunkSize_12 (by decide) ?_
    refine sw_aload_n (pc := 15) C d_Oct_chunkSize_15 rfl rfl ?_
    refine sw_iload_n (pc := 16) C d_Oct_chunkSize_16 rfl rfl ?_
    refine sw_iconst (pc := 17) C (nI 1) d_Oct_chunkSize_17 (by decide) ?_
    refine sw_iadd (pc := 18) C d_Oct_chunkSize_18 ?_
    refine sw_topi (z := nI (j + 1)) (nI_add _ _) ?_
    refine sw_callVR (pc := 19) C (c_Oct_at l g a r l0 hl.1 (nI (j + 1))) sv_Oct_at t_483 rfl rfl rfl [0, 1] rfl rfl rfl rfl (Nat.le_of_ble_eq_true rfl) (Nat.le_of_ble_eq_true rfl) (Nat.le_of_ble_eq_true rfl) (Nat.le_of_ble_eq_true rfl) (Nat.le_of_ble_eq_true rfl) d_Oct_chunkSize_19 (fun v w1 hp => ?_)
    obtain ⟨rfl, rfl⟩ := hp
    refine ⟨rfl, ?_⟩
    refine sw_topi (z := nI (l0.getD (j + 1) 0)) (octAt_in (by omega) hl.1) ?_
    refine sw_imul (pc := 22) C d_Oct_chunkSize_22 ?_
    refine sw_topi (z := nI (256 * (l0.getD (j + 1) 0))) (pk_mul _ _) ?_
    refine sw_aload_n (pc := 23) C d_Oct_chunkSize_23 rfl rfl ?_
    refine sw_iload_n (pc := 24) C d_Oct_chunkSize_24 rfl rfl ?_
    refine sw_iconst (pc := 25) C (nI 2) d_Oct_chunkSize_25 (by decide) ?_
    refine sw_iadd (pc := 26) C d_Oct_chunkSize_26 ?_
    refine sw_topi (z := nI (j + 2)) (nI_add _ _) ?_
    refine sw_callVR (pc := 27) C (c_Oct_at l g a r l0 hl.1 (nI (j + 2))) sv_Oct_at t_483 rfl rfl rfl [0, 1] rfl rfl rfl rfl (Nat.le_of_ble_eq_true rfl) (Nat.le_of_ble_eq_true rfl) (Nat.le_of_ble_eq_true rfl) (Nat.le_of_ble_eq_true rfl) (Nat.le_of_ble_eq_true rfl) d_Oct_chunkSize_27 (fun v w1 hp => ?_)
    obtain ⟨rfl, rfl⟩ := hp
    refine ⟨rfl, ?_⟩
    refine sw_topi (z := nI (l0.getD (j + 2) 0)) (octAt_in (by omega) hl.1) ?_
    refine sw_iadd (pc := 30) C d_Oct_chunkSize_30 ?_
    refine sw_topi (z := nI ((256 * (l0.getD (j + 1) 0)) + (l0.getD (j + 2) 0))) (nI_add _ _) ?_
    refine sw_istore_n (pc := 31) C d_Oct_chunkSize_31 rfl (by decide) rfl ?_
    refine sw_iload_n (pc := 32) C d_Oct_chunkSize_32 rfl rfl ?_
    refine sw_aload_n (pc := 33) C d_Oct_chunkSize_33 rfl rfl ?_
    refine sw_get (pc := 34) C inOct 0 rfl rfl 1 (by decide) t_32 rfl rfl d_Oct_chunkSize_34 ?_
    refine sw_topi (z := nI l0.length) rfl ?_
    refine sw_iload_n (pc := 37) C d_Oct_chunkSize_37 rfl rfl ?_
    refine sw_isub (pc := 38) C d_Oct_chunkSize_38 ?_
    refine sw_topi (z := nI (l0.length - j)) (pk_sub (by omega)) ?_
    refine sw_iconst (pc := 39) C (nI 3) d_Oct_chunkSize_39 (by decide) ?_
    refine sw_isub (pc := 40) C d_Oct_chunkSize_40 ?_
    refine sw_topi (z := nI ((l0.length - j) - 3)) (pk_sub (by omega)) ?_
    refine sw_icmp_leN (pc := 41) C 48 (by omega) (by omega) d_Oct_chunkSize_41 (by decide) (fun g2 => ?_) (fun g2 => ?_)
    · skip
      refine sw_iload_n (pc := 48) C d_Oct_chunkSize_48 rfl rfl ?_
      exact sw_iret (pc := 49) C E rfl (Nat.le_of_ble_eq_true rfl) (Nat.le_of_ble_eq_true rfl) d_Oct_chunkSize_49 ⟨by unfold szO; rw [if_neg (by omega), if_neg (by omega)]; rfl, rfl⟩
    refine sw_iconst (pc := 44) C (-1) d_Oct_chunkSize_44 (by decide) ?_
    refine sw_goto (pc := 45) C 49 d_Oct_chunkSize_45 (by decide) ?_
    exact sw_iret (pc := 49) C E rfl (Nat.le_of_ble_eq_true rfl) (Nat.le_of_ble_eq_true rfl) d_Oct_chunkSize_49 ⟨by unfold szO; rw [if_neg (by omega), if_pos (by omega)]; rfl, rfl⟩
  refine sw_iconst (pc := 10) C (-1) d_Oct_chunkSize_10 (by decide) ?_
  exact sw_iret (pc := 11) C E rfl (Nat.le_of_ble_eq_true rfl) (Nat.le_of_ble_eq_true rfl) d_Oct_chunkSize_11 ⟨by unfold szO; rw [if_pos (by omega)]; rfl, rfl⟩
def plU (l : List Nat) (fr nP o : Nat) (ps : Nat → Nat) : Nat → Nat → Nat
  | 0 => ps
  | m + 1 => upN (plU l fr nP o ps m) (nP + m) (l.getD (fr + 2 * m + o) 0)
def plG (l : List Nat) (nS nP fr sz : Nat) : Prop := sz % 2 = 0 ∧ sz / 2 ≤ 20 - nP ∧ ∀ i, i < sz / 2 → l.getD (fr + 2 * i) 0 < nS
theorem inR_no {n k : Nat} (h : ¬ k < n) (hk : k < 2 ^ 31) (hn : n < 2 ^ 31) : inR n (nI k) = false := by
  unfold inR
  apply decide_eq_false
  intro q
  exact h ((nI_ltI hk hn).mp q.2)
set_option maxRecDepth 100000 in
set_option maxHeartbeats 4000000 in
theorem c_rdPl (l : Launch) (g : Gl) (d a z o ob r r0 : Nat) (i1 i2 i3 i4 wd : Int32) (f h : Nat → Int32) (l0 : List Nat) (hl : bytesOK l0) (A : Nat → Nat) (nS nP : Nat) (ps sp : Nat → Nat) (hS : nS ≤ 8) (hP : nP ≤ 20) (fr sz : Nat) (hsz : fr + sz ≤ l0.length) : Ct l g y_Dr_readPlacings b_Dr_readPlacings 6 (some .int) (rmD 1) [.ref d, .ref ob, .int (nI fr), .int (nI sz), .ref (A 0)] (wDr g d a z o ob r r0 i1 i2 i3 i4 wd f h l0 ++ [pgC A nS nP, iaC g (A 2) 20 (nF ps), iaC g (A 3) 20 (nF sp)]) (fun u q => (u = some (.int (nI 0)) ∧ plG l0 nS nP fr sz ∧ q = wDr g d a z o ob r r0 i1 i2 i3 i4 wd f h l0 ++ [pgC A nS (nP + (sz / 2)), iaC g (A 2) 20 (nF (plU l0 fr nP 0 ps (sz / 2))), iaC g (A 3) 20 (nF (plU l0 fr nP 1 sp (sz / 2)))]) ∨ (u = some (.int (nI 5)) ∧ ¬ plG l0 nS nP fr sz ∧ ∃ m, nP + m ≤ 20 ∧ (∀ i, i < m → l0.getD (fr + 2 * i) 0 < nS) ∧ q = wDr g d a z o ob r r0 i1 i2 i3 i4 wd f h l0 ++ [pgC A nS (nP + m), iaC g (A 2) 20 (nF (plU l0 fr nP 0 ps m)), iaC g (A 3) 20 (nF (plU l0 fr nP 1 sp m))])) := by
  refine ct_of [some (.ref d), some (.ref ob), some (.int (nI fr)), some (.int (nI sz)), some (.ref (A 0)), none] (by decide) (Nat.le_of_ble_eq_true rfl) rfl ?_
  intro X C E
  have hl1 := hl.1
  refine sw_iload_n (pc := 0) C d_Dr_readPlacings_0 rfl rfl ?_
  refine sw_iconst (pc := 1) C (nI 2) d_Dr_readPlacings_1 (by decide) ?_
  refine sw_irem (pc := 2) C d_Dr_readPlacings_2 (by decide) ?_
  refine sw_topi (z := nI (sz % 2)) (pk_rem (by omega) (by omega) (by omega)) ?_
  refine sw_if_neN (pc := 3) C 20 (by omega) d_Dr_readPlacings_3 (by decide) (fun g1 => ?_) (fun g1 => ?_)
  · skip
    refine sw_iconst (pc := 20) C (nI 5) d_Dr_readPlacings_20 (by decide) ?_
    exact sw_iret (pc := 21) C E rfl (Nat.le_of_ble_eq_true rfl) (Nat.le_of_ble_eq_true rfl) d_Dr_readPlacings_21 (Or.inr ⟨rfl, fun q => absurd q.1 (by omega), 0, hP, fun i hi => absurd hi (Nat.not_lt_zero _), rfl⟩)
  refine sw_iload_n (pc := 6) C d_Dr_readPlacings_6 rfl rfl ?_
  refine sw_iconst (pc := 7) C (nI 2) d_Dr_readPlacings_7 (by decide) ?_
  refine sw_idiv (pc := 8) C d_Dr_readPlacings_8 (by decide) ?_
  refine sw_topi (z := nI (sz / 2)) (pk_div (by omega) (by omega) (by omega)) ?_
  refine sw_bipush (pc := 9) C (nI 20) d_Dr_readPlacings_9 (by decide) ?_
  refine sw_aload (pc := 11) C d_Dr_readPlacings_11 rfl ?_
  refine sw_get (pc := 13) C inPg 6 rfl rfl 4 (by decide) t_199 rfl rfl d_Dr_readPlacings_13 ?_
  refine sw_topi (z := nI nP) rfl ?_
  refine sw_isub (pc := 16) C d_Dr_readPlacings_16 ?_
  refine sw_topi (z := nI (20 - nP)) (pk_sub (by omega)) ?_
  refine sw_icmp_leN (pc := 17) C 22 (by omega) (by omega) d_Dr_readPlacings_17 (by decide) (fun g2 => ?_) (fun g2 => ?_)
  · skip
    refine sw_iload_n (pc := 22) C d_Dr_readPlacings_22 rfl rfl ?_
    refine sw_istore (pc := 23) C d_Dr_readPlacings_23 (by decide) rfl ?_
    have key : ∀ (e i : Nat), i + e = sz / 2 → (∀ j, j < i → l0.getD (fr + 2 * j) 0 < nS) → SW X g 6 0 0 (wDr g d a z o ob r r0 i1 i2 i3 i4 wd f h l0 ++ [pgC A nS (nP + i), iaC g (A 2) 20 (nF (plU l0 fr nP 0 ps i)), iaC g (A 3) 20 (nF (plU l0 fr nP 1 sp i))]) 25 [some (.ref d), some (.ref ob), some (.int (nI fr)), some (.int (nI sz)), some (.ref (A 0)), some (.int (nI (fr + 2 * i)))] [] := by
      intro e
      induction e with
      | zero =>
        intro i hi hok
        refine sw_iload (pc := 25) C d_Dr_readPlacings_25 rfl ?_
        refine sw_iload_n (pc := 27) C d_Dr_readPlacings_27 rfl rfl ?_
        refine sw_iload_n (pc := 28) C d_Dr_readPlacings_28 rfl rfl ?_
        refine sw_iadd (pc := 29) C d_Dr_readPlacings_29 ?_
        refine sw_topi (z := nI (fr + sz)) (nI_add _ _) ?_
        refine sw_icmp_geN (pc := 30) C 75 (by omega) (by omega) d_Dr_readPlacings_30 (by decide) (fun g3 => ?_) (fun g3 => ?_)
        · skip
          have ei : i = sz / 2 := by omega
          subst ei
          refine sw_iconst (pc := 75) C (nI 0) d_Dr_readPlacings_75 (by decide) ?_
          exact sw_iret (pc := 76) C E rfl (Nat.le_of_ble_eq_true rfl) (Nat.le_of_ble_eq_true rfl) d_Dr_readPlacings_76 (Or.inl ⟨rfl, ⟨by omega, g2, hok⟩, rfl⟩)
        omega
      | succ e ih =>
        intro i hi hok
        refine sw_iload (pc := 25) C d_Dr_readPlacings_25 rfl ?_
        refine sw_iload_n (pc := 27) C d_Dr_readPlacings_27 rfl rfl ?_
        refine sw_iload_n (pc := 28) C d_Dr_readPlacings_28 rfl rfl ?_
        refine sw_iadd (pc := 29) C d_Dr_readPlacings_29 ?_
        refine sw_topi (z := nI (fr + sz)) (nI_add _ _) ?_
        refine sw_icmp_geN (pc := 30) C 75 (by omega) (by omega) d_Dr_readPlacings_30 (by decide) (fun g3 => ?_) (fun g3 => ?_)
        · skip
          omega
        have hb := hl.2 (fr + 2 * i)
        have hb2 := hl.2 (fr + 2 * i + 1)
        refine sw_aload (pc := 33) C d_Dr_readPlacings_33 rfl ?_
        refine sw_aload_n (pc := 35) C d_Dr_readPlacings_35 rfl rfl ?_
        refine sw_iload (pc := 36) C d_Dr_readPlacings_36 rfl ?_
        refine sw_callVR (pc := 38) C (c_Oct_at l g ob r l0 hl.1 (nI (fr + 2 * i))) sv_Oct_at t_478 rfl rfl rfl [1, 5] rfl rfl rfl rfl (Nat.le_of_ble_eq_true rfl) (Nat.le_of_ble_eq_true rfl) (Nat.le_of_ble_eq_true rfl) (Nat.le_of_ble_eq_true rfl) (Nat.le_of_ble_eq_true rfl) d_Dr_readPlacings_38 (fun v w1 hp => ?_)
        obtain ⟨rfl, rfl⟩ := hp
        refine ⟨rfl, ?_⟩
        refine sw_topi (z := nI (l0.getD (fr + 2 * i) 0)) (octAt_in (by omega) hl.1) ?_
        refine sw_callVR (pc := 41) C (c_hasShape l g A nS (nP + i) hS (nI (l0.getD (fr + 2 * i) 0))) sv_Pg_hasShape t_504 rfl rfl rfl [6] rfl rfl rfl rfl (Nat.le_of_ble_eq_true rfl) (Nat.le_of_ble_eq_true rfl) (Nat.le_of_ble_eq_true rfl) (Nat.le_of_ble_eq_true rfl) (Nat.le_of_ble_eq_true rfl) d_Dr_readPlacings_41 (fun v w1 hp => ?_)
        obtain ⟨rfl, rfl⟩ := hp
        refine ⟨rfl, ?_⟩
        refine sw_if_neB (pc := 44) C 49 d_Dr_readPlacings_44 (by decide) (fun g4 => ?_) (fun g4 => ?_)
        · skip
          have hlt : l0.getD (fr + 2 * i) 0 < nS := by
            by_cases c : l0.getD (fr + 2 * i) 0 < nS
            · exact c
            · rw [inR_no c (by omega) (by omega)] at g4; cases g4
          refine sw_aload (pc := 49) C d_Dr_readPlacings_49 rfl ?_
          refine sw_aload_n (pc := 51) C d_Dr_readPlacings_51 rfl rfl ?_
          refine sw_iload (pc := 52) C d_Dr_readPlacings_52 rfl ?_
          refine sw_callVR (pc := 54) C (c_Oct_at l g ob r l0 hl.1 (nI (fr + 2 * i))) sv_Oct_at t_478 rfl rfl rfl [1, 5] rfl rfl rfl rfl (Nat.le_of_ble_eq_true rfl) (Nat.le_of_ble_eq_true rfl) (Nat.le_of_ble_eq_true rfl) (Nat.le_of_ble_eq_true rfl) (Nat.le_of_ble_eq_true rfl) d_Dr_readPlacings_54 (fun v w1 hp => ?_)
          obtain ⟨rfl, rfl⟩ := hp
          refine ⟨rfl, ?_⟩
          refine sw_topi (z := nI (l0.getD (fr + 2 * i) 0)) (octAt_in (by omega) hl.1) ?_
          refine sw_aload_n (pc := 57) C d_Dr_readPlacings_57 rfl rfl ?_
          refine sw_iload (pc := 58) C d_Dr_readPlacings_58 rfl ?_
          refine sw_iconst (pc := 60) C (nI 1) d_Dr_readPlacings_60 (by decide) ?_
          refine sw_iadd (pc := 61) C d_Dr_readPlacings_61 ?_
          refine sw_topi (z := nI ((fr + 2 * i) + 1)) (nI_add _ _) ?_
          refine sw_callVR (pc := 62) C (c_Oct_at l g ob r l0 hl.1 (nI (fr + 2 * i + 1))) sv_Oct_at t_478 rfl rfl rfl [1, 5] rfl rfl rfl rfl (Nat.le_of_ble_eq_true rfl) (Nat.le_of_ble_eq_true rfl) (Nat.le_of_ble_eq_true rfl) (Nat.le_of_ble_eq_true rfl) (Nat.le_of_ble_eq_true rfl) d_Dr_readPlacings_62 (fun v w1 hp => ?_)
          obtain ⟨rfl, rfl⟩ := hp
          refine ⟨rfl, ?_⟩
          refine sw_topi (z := nI (l0.getD (fr + 2 * i + 1) 0)) (octAt_in (by omega) hl.1) ?_
          refine sw_callVP (pc := 65) C (c_addPl l g A nS (nP + i) (nF (plU l0 fr nP 0 ps i)) (nF (plU l0 fr nP 1 sp i)) (nI (l0.getD (fr + 2 * i) 0)) (nI (l0.getD (fr + 2 * i + 1) 0)) (by omega)) sv_Pg_addPlacing t_505 rfl rfl rfl [6, 7, 8] rfl rfl rfl rfl (Nat.le_of_ble_eq_true rfl) (Nat.le_of_ble_eq_true rfl) (Nat.le_of_ble_eq_true rfl) (Nat.le_of_ble_eq_true rfl) (Nat.le_of_ble_eq_true rfl) d_Dr_readPlacings_65 (fun v w1 hp => ?_)
          obtain ⟨rfl, rfl⟩ := hp
          refine ⟨rfl, ?_⟩
          refine sw_ws (ws' := wDr g d a z o ob r r0 i1 i2 i3 i4 wd f h l0 ++ [pgC A nS (nP + (i + 1)), iaC g (A 2) 20 (nF (plU l0 fr nP 0 ps (i + 1))), iaC g (A 3) 20 (nF (plU l0 fr nP 1 sp (i + 1)))]) (by rw [nF_up, nF_up]; rfl) ?_
          refine sw_pop (pc := 68) C d_Dr_readPlacings_68 rfl ?_
          refine sw_iincN (pc := 69) C 2 d_Dr_readPlacings_69 rfl (by decide) (by decide) rfl ?_
          refine sw_goto (pc := 72) C 25 d_Dr_readPlacings_72 (by decide) ?_
          exact ih (i + 1) (by omega) (fun j hj => by
            by_cases c : j = i
            · rw [c]; exact hlt
            · exact hok j (by omega))
        have hge : ¬ l0.getD (fr + 2 * i) 0 < nS := by
          intro c
          rw [inR_in c (by omega)] at g4; cases g4
        refine sw_iconst (pc := 47) C (nI 5) d_Dr_readPlacings_47 (by decide) ?_
        exact sw_iret (pc := 48) C E rfl (Nat.le_of_ble_eq_true rfl) (Nat.le_of_ble_eq_true rfl) d_Dr_readPlacings_48 (Or.inr ⟨rfl, fun q => hge (q.2.2 i (by omega)), i, by omega, hok, rfl⟩)
    exact key (sz / 2) 0 (by omega) (fun j hj => absurd hj (Nat.not_lt_zero _))
  refine sw_iconst (pc := 20) C (nI 5) d_Dr_readPlacings_20 (by decide) ?_
  exact sw_iret (pc := 21) C E rfl (Nat.le_of_ble_eq_true rfl) (Nat.le_of_ble_eq_true rfl) d_Dr_readPlacings_21 (Or.inr ⟨rfl, fun q => absurd q.2.1 (by omega), 0, hP, fun i hi => absurd hi (Nat.not_lt_zero _), rfl⟩)
