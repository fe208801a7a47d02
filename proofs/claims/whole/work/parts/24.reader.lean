/-! LayeredPage$DocumentReader -/
def sdB (x : Int32) : Bool := decide (nI 1 ≤ x ∧ x ≤ nI 8)
theorem sdB_nat {s : Nat} (hs : s < 2 ^ 31) : sdB (nI s) = decide (1 ≤ s ∧ s ≤ 8) := by
  unfold sdB
  exact decide_eq_decide.mpr (by rw [nI_leI (by decide) hs, nI_leI hs (by decide)])
theorem flat_of {n : Nat} (f : Nat → Int32) : flat n (fun y x => f (n * y + x)) = f := by
  funext k
  unfold flat
  dsimp only
  rw [Nat.div_add_mod]
def wDr (g : Gl) (d a z o ob r r0 : Nat) (i1 i2 i3 i4 wd : Int32) (f h : Nat → Int32) (l : List Nat) : va_W := [(d, .inr (2, [.ref a])), (ob, .inr (5, [.ref r, .int (nI l.length)])), (a, .inr (0, [.ref r0, .int i1, .int i2, .int i3, .int i4, .ref z, .ref o, .int wd])), (z, .inl (g.2.1, 48, .inl f)), (o, .inl (g.2.1, 48, .inl h)), (r, .inl (g.2.1, 1200, .inl (rowOf l)))]
def bytesOK (l : List Nat) : Prop := l.length ≤ 1200 ∧ ∀ k, l.getD k 0 < 256
set_option maxRecDepth 100000 in
set_option maxHeartbeats 4000000 in
theorem c_side (l : Launch) (g : Gl) (x : Int32) : Ct l g y_LP_isShapeSide b_LP_isShapeSide 1 (some .boolean) (rmD 0) [.int x] ([]) (fun u w => u = some (.int (bI (sdB x))) ∧ w = []) := by
  refine ct_of [some (.int x)] (by decide) (Nat.le_of_ble_eq_true rfl) rfl ?_
  intro X C E
  refine sw_iload_n (pc := 0) C d_LP_isShapeSide_0 rfl rfl ?_
  refine sw_iconst (pc := 1) C (nI 1) d_LP_isShapeSide_1 (by decide) ?_
  refine sw_icmp_lt (pc := 2) C 15 d_LP_isShapeSide_2 (by decide) (fun h1 => ?_) (fun h1 => ?_)
  · skip
    refine sw_iconst (pc := 15) C (nI 0) d_LP_isShapeSide_15 (by decide) ?_
    refine sw_topi (z := bI (sdB x)) (by unfold sdB; rw [decide_eq_false (fun q => Int32.not_lt.mpr q.1 h1)]; rfl) ?_
    exact sw_zret (pc := 16) C E rfl (bI_nar _) (Nat.le_of_ble_eq_true rfl) (Nat.le_of_ble_eq_true rfl) d_LP_isShapeSide_16 ⟨rfl, rfl⟩
  refine sw_iload_n (pc := 5) C d_LP_isShapeSide_5 rfl rfl ?_
  refine sw_bipush (pc := 6) C (nI 8) d_LP_isShapeSide_6 (by decide) ?_
  refine sw_icmp_gt (pc := 8) C 15 d_LP_isShapeSide_8 (by decide) (fun h2 => ?_) (fun h2 => ?_)
  · skip
    refine sw_iconst (pc := 15) C (nI 0) d_LP_isShapeSide_15 (by decide) ?_
    refine sw_topi (z := bI (sdB x)) (by unfold sdB; rw [decide_eq_false (fun q => Int32.not_lt.mpr q.2 h2)]; rfl) ?_
    exact sw_zret (pc := 16) C E rfl (bI_nar _) (Nat.le_of_ble_eq_true rfl) (Nat.le_of_ble_eq_true rfl) d_LP_isShapeSide_16 ⟨rfl, rfl⟩
  refine sw_iconst (pc := 11) C (nI 1) d_LP_isShapeSide_11 (by decide) ?_
  refine sw_goto (pc := 12) C 16 d_LP_isShapeSide_12 (by decide) ?_
  refine sw_topi (z := bI (sdB x)) (by unfold sdB; rw [decide_eq_true ⟨Int32.not_lt.mp h1, Int32.not_lt.mp h2⟩]; rfl) ?_
  exact sw_zret (pc := 16) C E rfl (bI_nar _) (Nat.le_of_ble_eq_true rfl) (Nat.le_of_ble_eq_true rfl) d_LP_isShapeSide_16 ⟨rfl, rfl⟩
set_option maxRecDepth 100000 in
set_option maxHeartbeats 4000000 in
theorem c_rdLyF (l : Launch) (g : Gl) (d a z o ob r r0 : Nat) (i1 i2 i3 i4 wd : Int32) (f h : Nat → Int32) (l0 : List Nat) (hl : bytesOK l0) (A : Nat → Nat) (n : Nat) (ce co cd li : Nat → Int32) (cm : Bool) (hn : n = 4 ∨ n = 8) (fr sz : Nat) (hsz : fr + sz ≤ l0.length) (hf : cm = true ∨ sz = 0 ∨ 10 < l0.getD fr 0) : Ct l g y_Dr_readLayer b_Dr_readLayer 5 (some .int) (rmD 4) [.ref d, .ref ob, .int (nI fr), .int (nI sz), .ref (A 0)] (wDr g d a z o ob r r0 i1 i2 i3 i4 wd f h l0 ++ wLy g A n ce co cd li cm) (fun u w => u = some (.int (nI 6)) ∧ w = wDr g d a z o ob r r0 i1 i2 i3 i4 wd f h l0 ++ wLy g A n ce co cd li cm) := by
  refine ct_of [some (.ref d), some (.ref ob), some (.int (nI fr)), some (.int (nI sz)), some (.ref (A 0))] (by decide) (Nat.le_of_ble_eq_true rfl) rfl ?_
  intro X C E
  have hl1 := hl.1
  refine sw_aload (pc := 0) C d_Dr_readLayer_0 rfl ?_
  refine sw_get (pc := 2) C inLy 6 rfl rfl 5 (by decide) t_146 rfl rfl d_Dr_readLayer_2 ?_
  refine sw_if_neB (pc := 5) C 22 d_Dr_readLayer_5 (by decide) (fun g1 => ?_) (fun g1 => ?_)
  · skip
    refine sw_bipush (pc := 22) C (nI 6) d_Dr_readLayer_22 (by decide) ?_
    exact sw_iret (pc := 24) C E rfl (Nat.le_of_ble_eq_true rfl) (Nat.le_of_ble_eq_true rfl) d_Dr_readLayer_24 ⟨rfl, rfl⟩
  refine sw_iload_n (pc := 8) C d_Dr_readLayer_8 rfl rfl ?_
  refine sw_if_eqN (pc := 9) C 22 (by omega) d_Dr_readLayer_9 (by decide) (fun g2 => ?_) (fun g2 => ?_)
  · skip
    refine sw_bipush (pc := 22) C (nI 6) d_Dr_readLayer_22 (by decide) ?_
    exact sw_iret (pc := 24) C E rfl (Nat.le_of_ble_eq_true rfl) (Nat.le_of_ble_eq_true rfl) d_Dr_readLayer_24 ⟨rfl, rfl⟩
  refine sw_aload_n (pc := 12) C d_Dr_readLayer_12 rfl rfl ?_
  refine sw_iload_n (pc := 13) C d_Dr_readLayer_13 rfl rfl ?_
  refine sw_callVR (pc := 14) C (c_Oct_at l g ob r l0 hl.1 (nI fr)) sv_Oct_at t_478 rfl rfl rfl [1, 5] rfl rfl rfl rfl (Nat.le_of_ble_eq_true rfl) (Nat.le_of_ble_eq_true rfl) (Nat.le_of_ble_eq_true rfl) (Nat.le_of_ble_eq_true rfl) (Nat.le_of_ble_eq_true rfl) d_Dr_readLayer_14 (fun v w1 hp => ?_)
  obtain ⟨rfl, rfl⟩ := hp
  refine ⟨rfl, ?_⟩
  refine sw_topi (z := nI (l0.getD fr 0)) (octAt_in (by omega) hl.1) ?_
  have hb := hl.2 fr
  refine sw_bipush (pc := 17) C (nI 10) d_Dr_readLayer_17 (by decide) ?_
  refine sw_icmp_leN (pc := 19) C 25 (by omega) (by omega) d_Dr_readLayer_19 (by decide) (fun g3 => ?_) (fun g3 => ?_)
  · skip
    rcases hf with e | e | e
    · rw [e] at g1; cases g1
    · omega
    · omega
  refine sw_bipush (pc := 22) C (nI 6) d_Dr_readLayer_22 (by decide) ?_
  exact sw_iret (pc := 24) C E rfl (Nat.le_of_ble_eq_true rfl) (Nat.le_of_ble_eq_true rfl) d_Dr_readLayer_24 ⟨rfl, rfl⟩
set_option maxRecDepth 100000 in
set_option maxHeartbeats 4000000 in
theorem c_rdLy (l : Launch) (g : Gl) (d a z o ob r r0 : Nat) (i1 i2 i3 i4 wd : Int32) (f h : Nat → Int32) (l0 : List Nat) (hl : bytesOK l0) (A : Nat → Nat) (n : Nat) (ce cd li : Nat → Int32) (hn : n = 4 ∨ n = 8) (fr sz : Nat) (hsz : fr + sz ≤ l0.length) (h1 : 1 ≤ sz) (h10 : l0.getD fr 0 ≤ 10) : Ct l g y_Dr_readLayer b_Dr_readLayer 5 (some .int) (rmD 4) [.ref d, .ref ob, .int (nI fr), .int (nI sz), .ref (A 0)] (wDr g d a z o ob r r0 i1 i2 i3 i4 wd f h l0 ++ wLy g A n ce (fun _ => nI 0) cd li false) (fun u w => u = some (.int (nI 0)) ∧ ∃ r1 j1 j2 j3 j4 d1 f1 h1, ∃ cd2 li2, w = wDr g d a z o ob r r1 j1 j2 j3 j4 d1 f1 h1 l0 ++ wLy g A n (fun k => clp (flat n (undoN n (fun y x => (cdV (lyP (some (dgt l0 (fr + 1) (fr + sz))) n (fun _ => nI 0) (l0.getD fr 0)).2.1 (lyP (some (dgt l0 (fr + 1) (fr + sz))) n (fun _ => nI 0) (l0.getD fr 0)).2.2 (10 - l0.getD fr 0)) (n * y + x))) k)) (cdV (lyP (some (dgt l0 (fr + 1) (fr + sz))) n (fun _ => nI 0) (l0.getD fr 0)).2.1 (lyP (some (dgt l0 (fr + 1) (fr + sz))) n (fun _ => nI 0) (l0.getD fr 0)).2.2 (10 - l0.getD fr 0)) cd2 li2 true) := by
  refine ct_of [some (.ref d), some (.ref ob), some (.int (nI fr)), some (.int (nI sz)), some (.ref (A 0))] (by decide) (Nat.le_of_ble_eq_true rfl) rfl ?_
  intro X C E
  have hl1 := hl.1
  obtain ⟨hnn, hn4, hn8⟩ := nn_le hn
  refine sw_aload (pc := 0) C d_Dr_readLayer_0 rfl ?_
  refine sw_get (pc := 2) C inLy 6 rfl rfl 5 (by decide) t_146 rfl rfl d_Dr_readLayer_2 ?_
  refine sw_if_neB (pc := 5) C 22 d_Dr_readLayer_5 (by decide) (fun g1 => ?_) (fun g1 => ?_)
  · skip
    cases g1
  refine sw_iload_n (pc := 8) C d_Dr_readLayer_8 rfl rfl ?_
  refine sw_if_eqN (pc := 9) C 22 (by omega) d_Dr_readLayer_9 (by decide) (fun g2 => ?_) (fun g2 => ?_)
  · skip
    omega
  refine sw_aload_n (pc := 12) C d_Dr_readLayer_12 rfl rfl ?_
  refine sw_iload_n (pc := 13) C d_Dr_readLayer_13 rfl rfl ?_
  refine sw_callVR (pc := 14) C (c_Oct_at l g ob r l0 hl.1 (nI fr)) sv_Oct_at t_478 rfl rfl rfl [1, 5] rfl rfl rfl rfl (Nat.le_of_ble_eq_true rfl) (Nat.le_of_ble_eq_true rfl) (Nat.le_of_ble_eq_true rfl) (Nat.le_of_ble_eq_true rfl) (Nat.le_of_ble_eq_true rfl) d_Dr_readLayer_14 (fun v w1 hp => ?_)
  obtain ⟨rfl, rfl⟩ := hp
  refine ⟨rfl, ?_⟩
  refine sw_topi (z := nI (l0.getD fr 0)) (octAt_in (by omega) hl.1) ?_
  have hb := hl.2 fr
  refine sw_bipush (pc := 17) C (nI 10) d_Dr_readLayer_17 (by decide) ?_
  refine sw_icmp_leN (pc := 19) C 25 (by omega) (by omega) d_Dr_readLayer_19 (by decide) (fun g3 => ?_) (fun g3 => ?_)
  · skip
    refine sw_aload (pc := 25) C d_Dr_readLayer_25 rfl ?_
    refine sw_iconst (pc := 27) C (nI 1) d_Dr_readLayer_27 (by decide) ?_
    refine sw_topi (z := bI true) rfl ?_
    refine sw_put (pc := 28) C inLy 6 rfl rfl 5 (by decide) tyLy okLy nmLy t_146 rfl rfl (ty := .boolean) (by decide +kernel) (bI_nar _) (bI_fit _) (Nat.le_of_ble_eq_true rfl) d_Dr_readLayer_28 ?_
    refine sw_aload_n (pc := 31) C d_Dr_readLayer_31 rfl rfl ?_
    refine sw_get (pc := 32) C inDr 0 rfl rfl 0 (by decide) t_121 rfl rfl d_Dr_readLayer_32 ?_
    refine sw_aload_n (pc := 35) C d_Dr_readLayer_35 rfl rfl ?_
    refine sw_get (pc := 36) C inOct 1 rfl rfl 0 (by decide) t_31 rfl rfl d_Dr_readLayer_36 ?_
    refine sw_iload_n (pc := 39) C d_Dr_readLayer_39 rfl rfl ?_
    refine sw_iconst (pc := 40) C (nI 1) d_Dr_readLayer_40 (by decide) ?_
    refine sw_iadd (pc := 41) C d_Dr_readLayer_41 ?_
    refine sw_topi (z := nI (fr + 1)) (nI_add _ _) ?_
    refine sw_iload_n (pc := 42) C d_Dr_readLayer_42 rfl rfl ?_
    refine sw_iload_n (pc := 43) C d_Dr_readLayer_43 rfl rfl ?_
    refine sw_iadd (pc := 44) C d_Dr_readLayer_44 ?_
    refine sw_topi (z := nI (fr + sz)) (nI_add _ _) ?_
    refine sw_ws (ws' := wDr g d a z o ob r r0 i1 i2 i3 i4 wd f h l0 ++ wLy g A n ce (fun _ => nI 0) cd li true) rfl ?_
    refine sw_callVP (pc := 45) C (c_Cr_begin l g a z o r r0 l0 (fr + 1) (fr + sz) wd i1 i2 i3 i4 f h (by omega) (by omega) hl.2) sv_Cr_begin t_490 rfl rfl rfl [2, 3, 4, 5] rfl rfl rfl rfl (Nat.le_of_ble_eq_true rfl) (Nat.le_of_ble_eq_true rfl) (Nat.le_of_ble_eq_true rfl) (Nat.le_of_ble_eq_true rfl) (Nat.le_of_ble_eq_true rfl) d_Dr_readLayer_45 (fun v w1 hp => ?_)
    obtain ⟨rfl, rfl⟩ := hp
    refine ⟨rfl, ?_⟩
    refine sw_ws (ws' := [(d, .inr (2, [.ref a])), (ob, .inr (5, [.ref r, .int (nI l0.length)]))] ++ wKr g a z o r l0 (fr + 1) (fr + sz) (kInit (some (dgt l0 (fr + 1) (fr + sz)))) ++ wLy g A n ce (fun _ => nI 0) cd li true) rfl ?_
    refine sw_aload (pc := 48) C d_Dr_readLayer_48 rfl ?_
    refine sw_aload_n (pc := 50) C d_Dr_readLayer_50 rfl rfl ?_
    refine sw_iload_n (pc := 51) C d_Dr_readLayer_51 rfl rfl ?_
    refine sw_callVR (pc := 52) C (c_Oct_at l g ob r l0 hl.1 (nI fr)) sv_Oct_at t_478 rfl rfl rfl [1, 5] rfl rfl rfl rfl (Nat.le_of_ble_eq_true rfl) (Nat.le_of_ble_eq_true rfl) (Nat.le_of_ble_eq_true rfl) (Nat.le_of_ble_eq_true rfl) (Nat.le_of_ble_eq_true rfl) d_Dr_readLayer_52 (fun v w1 hp => ?_)
    obtain ⟨rfl, rfl⟩ := hp
    refine ⟨rfl, ?_⟩
    refine sw_topi (z := nI (l0.getD fr 0)) (octAt_in (by omega) hl.1) ?_
    refine sw_aload_n (pc := 55) C d_Dr_readLayer_55 rfl rfl ?_
    refine sw_get (pc := 56) C inDr 0 rfl rfl 0 (by decide) t_121 rfl rfl d_Dr_readLayer_56 ?_
    refine sw_callVP (pc := 59) C (c_ccf_r l g A n ce (fun _ => nI 0) cd li true hn a z o r l0 (fr + 1) (fr + sz) (l0.getD fr 0) h10 (by omega) (by omega) hl.2) sv_Ly_codeCoefficients t_510 rfl rfl rfl [6, 7, 8, 9, 10, 2, 3, 4, 5] rfl rfl rfl rfl (Nat.le_of_ble_eq_true rfl) (Nat.le_of_ble_eq_true rfl) (Nat.le_of_ble_eq_true rfl) (Nat.le_of_ble_eq_true rfl) (Nat.le_of_ble_eq_true rfl) d_Dr_readLayer_59 (fun v w1 hp => ?_)
    obtain ⟨rfl, rfl⟩ := hp
    refine ⟨rfl, ?_⟩
    refine sw_ws (ws' := [(d, .inr (2, [.ref a])), (ob, .inr (5, [.ref r, .int (nI l0.length)]))] ++ wKr g a z o r l0 (fr + 1) (fr + sz) (lyP (some (dgt l0 (fr + 1) (fr + sz))) n (fun _ => nI 0) (l0.getD fr 0)).1 ++ wLy g A n ce (cdV (lyP (some (dgt l0 (fr + 1) (fr + sz))) n (fun _ => nI 0) (l0.getD fr 0)).2.1 (lyP (some (dgt l0 (fr + 1) (fr + sz))) n (fun _ => nI 0) (l0.getD fr 0)).2.2 (10 - l0.getD fr 0)) (cdV (lyP (some (dgt l0 (fr + 1) (fr + sz))) n (fun _ => nI 0) (l0.getD fr 0)).2.1 (lyP (some (dgt l0 (fr + 1) (fr + sz))) n (fun _ => nI 0) (l0.getD fr 0)).2.2 (10 - l0.getD fr 0)) li true) rfl ?_
    have efl : flat n (fun y x => (cdV (lyP (some (dgt l0 (fr + 1) (fr + sz))) n (fun _ => nI 0) (l0.getD fr 0)).2.1 (lyP (some (dgt l0 (fr + 1) (fr + sz))) n (fun _ => nI 0) (l0.getD fr 0)).2.2 (10 - l0.getD fr 0)) (n * y + x)) = (cdV (lyP (some (dgt l0 (fr + 1) (fr + sz))) n (fun _ => nI 0) (l0.getD fr 0)).2.1 (lyP (some (dgt l0 (fr + 1) (fr + sz))) n (fun _ => nI 0) (l0.getD fr 0)).2.2 (10 - l0.getD fr 0)) := flat_of _
    refine sw_aload (pc := 62) C d_Dr_readLayer_62 rfl ?_
    refine sw_callVP (pc := 64) C (c_undoC l g A n (fun y x => (cdV (lyP (some (dgt l0 (fr + 1) (fr + sz))) n (fun _ => nI 0) (l0.getD fr 0)).2.1 (lyP (some (dgt l0 (fr + 1) (fr + sz))) n (fun _ => nI 0) (l0.getD fr 0)).2.2 (10 - l0.getD fr 0)) (n * y + x)) ce (cdV (lyP (some (dgt l0 (fr + 1) (fr + sz))) n (fun _ => nI 0) (l0.getD fr 0)).2.1 (lyP (some (dgt l0 (fr + 1) (fr + sz))) n (fun _ => nI 0) (l0.getD fr 0)).2.2 (10 - l0.getD fr 0)) li true hn) sv_Ly_undoCoefficients t_511 rfl rfl rfl [6, 7, 8, 9, 10] (by rw [efl]; rfl) rfl rfl rfl (Nat.le_of_ble_eq_true rfl) (Nat.le_of_ble_eq_true rfl) (Nat.le_of_ble_eq_true rfl) (Nat.le_of_ble_eq_true rfl) (Nat.le_of_ble_eq_true rfl) d_Dr_readLayer_64 (fun v w1 hp => ?_)
    obtain ⟨rfl, li2, rfl⟩ := hp
    refine ⟨rfl, ?_⟩
    rw [efl]
    refine sw_iconst (pc := 67) C (nI 0) d_Dr_readLayer_67 (by decide) ?_
    exact sw_iret (pc := 68) C E rfl (Nat.le_of_ble_eq_true rfl) (Nat.le_of_ble_eq_true rfl) d_Dr_readLayer_68 ⟨rfl, _, _, _, _, _, _, _, _, _, li2, rfl⟩
  omega
