/-! LayeredPage: shape, paint -/
theorem lN_m1 {w : Nat} (hw : w ≤ 8) : lN (1 * 2 ^ w) - 1 = lN (2 ^ w - 1) := by
  have key : ∀ w, w < 9 → lN (1 * 2 ^ w) - 1 = lN (2 ^ w - 1) := by decide
  exact key w (by omega)
theorem lN_eq0 {n : Nat} (h : n < 2 ^ 64) : lN n = 0 ↔ n = 0 := by
  constructor
  · intro e
    have := congrArg (fun z => z.toBitVec.toNat) e
    rw [show (lN n).toBitVec.toNat = n from wb_tn h] at this
    simpa using this
  · intro e
    rw [e]
    rfl
theorem cmp0 {x : Int64} : lg_cmp x 0 = 0 ↔ x = 0 := by
  unfold lg_cmp
  constructor
  · intro h
    by_cases h1 : (0 : Int64) < x
    · rw [if_pos h1] at h
      exact absurd h (by decide)
    · rw [if_neg h1] at h
      by_cases h2 : x = 0
      · exact h2
      · rw [if_neg h2] at h
        exact absurd h (by decide)
  · intro h
    subst h
    decide
theorem xorm {M : Nat} (hM : M < 2 ^ 64) : lN M ^^^ (-1) = lN (2 ^ 64 - 1 - M) := by
  apply wb_inj
  apply BitVec.eq_of_toNat_eq
  rw [Int64.toBitVec_xor, show (-1 : Int64).toBitVec = BitVec.allOnes 64 from rfl, BitVec.xor_allOnes, BitVec.toNat_not, wb_tn hM, wb_tn (by omega)]
theorem andnot {b M : Nat} (hb : b < 2 ^ 64) (hM : M < 2 ^ 64) : lN b &&& (lN M ^^^ (-1)) = 0 ↔ b &&& M = b := by
  rw [xorm hM, wb_and hb (by omega), lN_eq0 (Nat.and_lt_two_pow _ (by omega))]
  constructor
  · intro h
    apply Nat.eq_of_testBit_eq
    intro i
    have h2 := congrArg (fun t => t.testBit i) h
    rw [Nat.testBit_and, Nat.zero_testBit, show 2 ^ 64 - 1 - M = 2 ^ 64 - (M + 1) by omega, Nat.testBit_two_pow_sub_succ hM] at h2
    rw [Nat.testBit_and]
    cases e : b.testBit i
    · rfl
    · have hi : i < 64 := by
        by_cases q : i < 64
        · exact q
        · rw [Nat.testBit_lt_two_pow (Nat.lt_of_lt_of_le hb (Nat.pow_le_pow_right (by decide) (by omega)))] at e
          cases e
      rw [e, decide_eq_true hi] at h2
      cases e3 : M.testBit i
      · rw [e3] at h2; cases h2
      · rfl
  · intro h
    apply Nat.eq_of_testBit_eq
    intro i
    rw [Nat.testBit_and, Nat.zero_testBit, show 2 ^ 64 - 1 - M = 2 ^ 64 - (M + 1) by omega, Nat.testBit_two_pow_sub_succ hM]
    have h2 := congrArg (fun t => t.testBit i) h
    rw [Nat.testBit_and] at h2
    cases e : b.testBit i
    · rfl
    · rw [e, Bool.true_and] at h2
      rw [h2]
      simp
set_option maxRecDepth 100000 in
set_option maxHeartbeats 4000000 in
theorem c_mask (l : Launch) (g : Gl) (w h : Nat) (hw : w ≤ 8) (hh : h ≤ 8) : Ct l g y_LP_shapeMask b_LP_shapeMask 7 (some .long) (rmD 0) [.int (nI w), .int (nI h)] ([]) (fun u q => u = some (.long (lN (mskN w h))) ∧ q = []) := by
  refine ct_of [some (.int (nI w)), some (.int (nI h)), none, none, none, none, none] (by decide) (Nat.le_of_ble_eq_true rfl) rfl ?_
  intro X C E
  refine sw_lconst (pc := 0) C 1 d_LP_shapeMask_0 (by decide) ?_
  refine sw_topl (z := lN 1) rfl ?_
  have key : ∀ (nn y : Nat) , y + nn = h → SW X g 7 0 0 ([]) 12 [some (.int (nI w)), some (.int (nI h)), some (.long (lN (2 ^ w - 1))), none, some (.long (lN (mskN w y))), none, some (.int (nI y))] [] := by
    intro nn
    induction nn with
    | zero =>
      intro y  hi 
      refine sw_iload (pc := 12) C d_LP_shapeMask_12 rfl ?_
      refine sw_iload_n (pc := 14) C d_LP_shapeMask_14 rfl rfl ?_
      refine sw_icmp_geN (pc := 15) C 36 (by omega) (by omega) d_LP_shapeMask_15 (by decide) (fun hx => ?_) (fun hx => ?_)
      · skip
        have ey : h = y := by omega
        subst ey
        refine sw_lload (pc := 36) C d_LP_shapeMask_36 rfl ?_
        exact sw_lret (pc := 38) C E rfl (Nat.le_of_ble_eq_true rfl) (Nat.le_of_ble_eq_true rfl) d_LP_shapeMask_38 ⟨rfl, rfl⟩
      omega
    | succ nn ih =>
      intro y  hi 
      refine sw_iload (pc := 12) C d_LP_shapeMask_12 rfl ?_
      refine sw_iload_n (pc := 14) C d_LP_shapeMask_14 rfl rfl ?_
      refine sw_icmp_geN (pc := 15) C 36 (by omega) (by omega) d_LP_shapeMask_15 (by decide) (fun hx => ?_) (fun hx => ?_)
      · skip
        omega
      have hm := msk_lt hw y (by omega)
      have h1 : (2 ^ w - 1) * 2 ^ (8 * y) < 2 ^ 64 := by
        have a : 2 ^ w ≤ 2 ^ 8 := Nat.pow_le_pow_right (by decide) hw
        have b : 2 ^ (8 * y) ≤ 2 ^ 56 := Nat.pow_le_pow_right (by decide) (by omega)
        have c : (2 ^ w - 1) * 2 ^ (8 * y) ≤ 255 * 2 ^ 56 := Nat.mul_le_mul (by omega) b
        omega
      refine sw_lload (pc := 18) C d_LP_shapeMask_18 rfl ?_
      refine sw_lload_n (pc := 20) C d_LP_shapeMask_20 rfl rfl ?_
      refine sw_bipush (pc := 21) C (nI 8) d_LP_shapeMask_21 (by decide) ?_
      refine sw_iload (pc := 23) C d_LP_shapeMask_23 rfl ?_
      refine sw_imul (pc := 25) C d_LP_shapeMask_25 ?_
      refine sw_topi (z := nI (8 * y)) (pk_mul _ _) ?_
      refine sw_lshl (pc := 26) C d_LP_shapeMask_26 ?_
      refine sw_topl (z := lN ((2 ^ w - 1) * 2 ^ (8 * y))) (wb_shl _ (by omega)) ?_
      refine sw_lor (pc := 27) C d_LP_shapeMask_27 ?_
      refine sw_topl (z := lN (mskN w (y + 1))) (wb_or hm h1) ?_
      refine sw_lstore (pc := 28) C d_LP_shapeMask_28 (by decide) rfl ?_
      refine sw_iincN (pc := 30) C 1 d_LP_shapeMask_30 rfl (by decide) (by decide) rfl ?_
      refine sw_goto (pc := 33) C 12 d_LP_shapeMask_33 (by decide) ?_
      exact ih (y + 1) (by omega)
  refine sw_iload_n (pc := 1) C d_LP_shapeMask_1 rfl rfl ?_
  refine sw_lshl (pc := 2) C d_LP_shapeMask_2 ?_
  refine sw_topl (z := lN (1 * 2 ^ w)) (wb_shl _ (by omega)) ?_
  refine sw_lconst (pc := 3) C 1 d_LP_shapeMask_3 (by decide) ?_
  refine sw_lsub (pc := 4) C d_LP_shapeMask_4 ?_
  refine sw_topl (z := lN (2 ^ w - 1)) (lN_m1 hw) ?_
  refine sw_lstore_n (pc := 5) C d_LP_shapeMask_5 rfl (by decide) rfl ?_
  refine sw_lconst (pc := 6) C 0 d_LP_shapeMask_6 (by decide) ?_
  refine sw_topl (z := lN (mskN w 0)) rfl ?_
  refine sw_lstore (pc := 7) C d_LP_shapeMask_7 (by decide) rfl ?_
  refine sw_iconst (pc := 9) C (nI 0) d_LP_shapeMask_9 (by decide) ?_
  refine sw_istore (pc := 10) C d_LP_shapeMask_10 (by decide) rfl ?_
  exact key h 0 (by omega)
theorem sd_of {x : Int32} (h : sdB x = true) : ∃ n, (1 ≤ n ∧ n ≤ 8) ∧ x = nI n := by
  have h2 := of_decide_eq_true h
  have h0 : ¬ x < 0 := fun q => Int32.not_lt.mpr h2.1 (Int32.lt_trans q (by decide))
  obtain ⟨j, hj, rfl⟩ := nI_of h0
  exact ⟨j, ⟨(nI_leI (by decide) hj).mp h2.1, (nI_leI hj (by decide)).mp h2.2⟩, rfl⟩
theorem sd_in {n : Nat} (h : 1 ≤ n ∧ n ≤ 8) : sdB (nI n) = true := by rw [sdB_nat (by omega)]; exact decide_eq_true h
set_option maxRecDepth 100000 in
set_option maxHeartbeats 4000000 in
theorem c_LPshape (l : Launch) (g : Gl) (x ob dw dr : Nat) (A B S : Nat → Nat) (hp : Bool) (nS nP : Nat) (b w h : Nat → Nat) (bs : Nat → Int32) (hS : nS ≤ 8) (bN : Nat) (hb : bN < 2 ^ 64) (wq hq f : Int32) : Ct l g y_LP_shape b_LP_shape 7 (some .int) (rmD 1) [.ref x, .long (lN bN), .int wq, .int hq, .int f] ([lpC x ob dw dr A B S hp, pgC A nS nP, shA g A] ++ pool A (fun k => shV (b k) (w k) (h k) (bs k))) (fun u q => ((∀ wn hn c, ¬ shOK nS bN wq hq f wn hn c) ∧ u = some (.int (-1)) ∧ q = [lpC x ob dw dr A B S hp, pgC A nS nP, shA g A] ++ pool A (fun k => shV (b k) (w k) (h k) (bs k))) ∨ (∃ wn hn c, shOK nS bN wq hq f wn hn c ∧ u = some (.int (nI nS)) ∧ q = [lpC x ob dw dr A B S hp, pgC A (nS + 1) nP, shA g A] ++ pool A (upF (fun k => shV (b k) (w k) (h k) (bs k)) nS (shV bN wn hn (bsI c))))) := by
  refine ct_of [some (.ref x), some (.long (lN bN)), none, some (.int wq), some (.int hq), some (.int f), none] (by decide) (Nat.le_of_ble_eq_true rfl) rfl ?_
  intro X C E
  have c25 : ∀ kb : Bool, (kb = true → ∃ c, c ≤ nS ∧ f = bsI c) → (kb = false → ∀ c, c ≤ nS → f ≠ bsI c) → SW X g 7 0 0 ([lpC x ob dw dr A B S hp, pgC A nS nP, shA g A] ++ pool A (fun k => shV (b k) (w k) (h k) (bs k))) 25 [some (.ref x), some (.long (lN bN)), none, some (.int wq), some (.int hq), some (.int f), some (.int (bI kb))] [] := by
    intro kb k1 k2
    refine sw_iload (pc := 25) C d_LP_shape_25 rfl ?_
    refine sw_if_eqB (pc := 27) C 62 d_LP_shape_27 (by decide) (fun h1 => ?_) (fun h1 => ?_)
    · skip
      refine sw_iconst (pc := 62) C (-1) d_LP_shape_62 (by decide) ?_
      exact sw_iret (pc := 63) C E rfl (Nat.le_of_ble_eq_true rfl) (Nat.le_of_ble_eq_true rfl) d_LP_shape_63 (Or.inl ⟨fun wn hn c o => (k2 h1 c o.2.2.2.2.2.2.1 o.2.2.2.2.2.1), rfl, rfl⟩)
    obtain ⟨c0, hc0, rfl⟩ := k1 h1
    refine sw_iload_n (pc := 30) C d_LP_shape_30 rfl rfl ?_
    refine sw_callSR (pc := 31) C (c_side l g wq) ss_LP_isShapeSide t_254 [] rfl rfl rfl rfl (Nat.le_of_ble_eq_true rfl) (Nat.le_of_ble_eq_true rfl) (Nat.le_of_ble_eq_true rfl) (Nat.le_of_ble_eq_true rfl) (Nat.le_of_ble_eq_true rfl) d_LP_shape_31 (fun v w1 hp => ?_)
    obtain ⟨rfl, rfl⟩ := hp
    refine ⟨rfl, ?_⟩
    refine sw_if_eqB (pc := 34) C 62 d_LP_shape_34 (by decide) (fun h2 => ?_) (fun h2 => ?_)
    · skip
      refine sw_iconst (pc := 62) C (-1) d_LP_shape_62 (by decide) ?_
      exact sw_iret (pc := 63) C E rfl (Nat.le_of_ble_eq_true rfl) (Nat.le_of_ble_eq_true rfl) d_LP_shape_63 (Or.inl ⟨fun wn hn c o => (by obtain ⟨_, rfl, _, hw, _⟩ := o; rw [sd_in hw] at h2; cases h2), rfl, rfl⟩)
    refine sw_iload (pc := 37) C d_LP_shape_37 rfl ?_
    refine sw_callSR (pc := 39) C (c_side l g hq) ss_LP_isShapeSide t_254 [] rfl rfl rfl rfl (Nat.le_of_ble_eq_true rfl) (Nat.le_of_ble_eq_true rfl) (Nat.le_of_ble_eq_true rfl) (Nat.le_of_ble_eq_true rfl) (Nat.le_of_ble_eq_true rfl) d_LP_shape_39 (fun v w1 hp => ?_)
    obtain ⟨rfl, rfl⟩ := hp
    refine ⟨rfl, ?_⟩
    refine sw_if_eqB (pc := 42) C 62 d_LP_shape_42 (by decide) (fun h3 => ?_) (fun h3 => ?_)
    · skip
      refine sw_iconst (pc := 62) C (-1) d_LP_shape_62 (by decide) ?_
      exact sw_iret (pc := 63) C E rfl (Nat.le_of_ble_eq_true rfl) (Nat.le_of_ble_eq_true rfl) d_LP_shape_63 (Or.inl ⟨fun wn hn c o => (by obtain ⟨_, _, rfl, _, hh, _⟩ := o; rw [sd_in hh] at h3; cases h3), rfl, rfl⟩)
    obtain ⟨wn, hwn, rfl⟩ := sd_of h2
    obtain ⟨hn, hhn, rfl⟩ := sd_of h3
    have hml := msk_lt hwn.2 hn hhn.2
    refine sw_lload_n (pc := 45) C d_LP_shape_45 rfl rfl ?_
    refine sw_iload_n (pc := 46) C d_LP_shape_46 rfl rfl ?_
    refine sw_iload (pc := 47) C d_LP_shape_47 rfl ?_
    refine sw_callSR (pc := 49) C (c_mask l g wn hn hwn.2 hhn.2) ss_LP_shapeMask t_257 [] rfl rfl rfl rfl (Nat.le_of_ble_eq_true rfl) (Nat.le_of_ble_eq_true rfl) (Nat.le_of_ble_eq_true rfl) (Nat.le_of_ble_eq_true rfl) (Nat.le_of_ble_eq_true rfl) d_LP_shape_49 (fun v w1 hp => ?_)
    obtain ⟨rfl, rfl⟩ := hp
    refine ⟨rfl, ?_⟩
    refine sw_ldc2 (pc := 52) C t_260 d_LP_shape_52 ?_
    refine sw_lxor (pc := 55) C d_LP_shape_55 ?_
    refine sw_land (pc := 56) C d_LP_shape_56 ?_
    refine sw_lconst (pc := 57) C 0 d_LP_shape_57 (by decide) ?_
    refine sw_lcmp (pc := 58) C d_LP_shape_58 ?_
    refine sw_if_eq (pc := 59) C 64 d_LP_shape_59 (by decide) (fun h4 => ?_) (fun h4 => ?_)
    · skip
      have hm := (msk_ok hb hwn.2).mp ((andnot hb hml).mp (cmp0.mp h4))
      refine sw_aload_n (pc := 64) C d_LP_shape_64 rfl rfl ?_
      refine sw_get (pc := 65) C inLP 0 rfl rfl 3 (by decide) t_227 rfl rfl d_LP_shape_65 ?_
      refine sw_lload_n (pc := 68) C d_LP_shape_68 rfl rfl ?_
      refine sw_iload_n (pc := 69) C d_LP_shape_69 rfl rfl ?_
      refine sw_iload (pc := 70) C d_LP_shape_70 rfl ?_
      refine sw_iload (pc := 72) C d_LP_shape_72 rfl ?_
      by_cases h8 : nS = 8
      · subst h8
        refine sw_callVR (pc := 74) C (c_addShapeF l g A nP (lN bN) wn hn (bsI c0)) sv_Pg_addShape t_261 rfl rfl rfl [1] rfl rfl rfl rfl (Nat.le_of_ble_eq_true rfl) (Nat.le_of_ble_eq_true rfl) (Nat.le_of_ble_eq_true rfl) (Nat.le_of_ble_eq_true rfl) (Nat.le_of_ble_eq_true rfl) d_LP_shape_74 (fun v w1 hp => ?_)
        obtain ⟨rfl, rfl⟩ := hp
        refine ⟨rfl, ?_⟩
        exact sw_iret (pc := 77) C E rfl (Nat.le_of_ble_eq_true rfl) (Nat.le_of_ble_eq_true rfl) d_LP_shape_77 (Or.inl ⟨fun wn hn c o => by have := o.1; omega, rfl, rfl⟩)
      refine sw_callVP (pc := 74) C (c_addShape l g A nS nP (b nS) (w nS) (h nS) (bs nS) bN wn hn (bsI c0) (by omega)) sv_Pg_addShape t_261 rfl rfl rfl [1, 2, 3 + nS] (mapc (is := [1, 2]) (cs := [pgC A nS nP, shA g A]) rfl (pool_get (X := [lpC x ob dw dr A B S hp, pgC A nS nP, shA g A]) (A := A) (F := (fun k => shV (b k) (w k) (h k) (bs k))) (by omega))) (by simp [va_nd]; omega) rfl rfl (Nat.le_of_ble_eq_true rfl) (Nat.le_of_ble_eq_true rfl) (Nat.le_of_ble_eq_true rfl) (Nat.le_of_ble_eq_true rfl) (Nat.le_of_ble_eq_true rfl) d_LP_shape_74 (fun v w1 hp => ?_)
      obtain ⟨rfl, rfl⟩ := hp
      refine ⟨rfl, ?_⟩
      refine sw_ws (ws' := [lpC x ob dw dr A B S hp, pgC A (nS + 1) nP, shA g A] ++ pool A (upF (fun k => shV (b k) (w k) (h k) (bs k)) nS (shV bN wn hn (bsI c0)))) (pool_set (X := [lpC x ob dw dr A B S hp, pgC A (nS + 1) nP, shA g A]) (by omega)) ?_
      exact sw_iret (pc := 77) C E rfl (Nat.le_of_ble_eq_true rfl) (Nat.le_of_ble_eq_true rfl) d_LP_shape_77 (Or.inr ⟨wn, hn, c0, ⟨by omega, rfl, rfl, hwn, hhn, rfl, hc0, hm⟩, rfl, rfl⟩)
    refine sw_iconst (pc := 62) C (-1) d_LP_shape_62 (by decide) ?_
    exact sw_iret (pc := 63) C E rfl (Nat.le_of_ble_eq_true rfl) (Nat.le_of_ble_eq_true rfl) d_LP_shape_63 (Or.inl ⟨fun wn hn c o => (by
      obtain ⟨_, e1, e2, hw2, hh2, _, _, ho⟩ := o
      have e1 := (nI_eq (by omega) (by omega)).mp e1
      have e2 := (nI_eq (by omega) (by omega)).mp e2
      subst e1
      subst e2
      exact h4 (cmp0.mpr ((andnot hb hml).mpr ((msk_ok hb hwn.2).mpr ho)))), rfl, rfl⟩)
  refine sw_iload (pc := 0) C d_LP_shape_0 rfl ?_
  refine sw_iconst (pc := 2) C (-1) d_LP_shape_2 (by decide) ?_
  refine sw_icmp_eq (pc := 3) C 18 d_LP_shape_3 (by decide) (fun h1 => ?_) (fun h1 => ?_)
  · skip
    refine sw_iconst (pc := 18) C (nI 1) d_LP_shape_18 (by decide) ?_
    refine sw_goto (pc := 19) C 23 d_LP_shape_19 (by decide) ?_
    refine sw_topi (z := bI true) rfl ?_
    refine sw_istore (pc := 23) C d_LP_shape_23 (by decide) rfl ?_
    exact c25 true (fun _ => ⟨0, by omega, h1⟩) (fun e => by cases e)
  refine sw_aload_n (pc := 6) C d_LP_shape_6 rfl rfl ?_
  refine sw_get (pc := 7) C inLP 0 rfl rfl 3 (by decide) t_227 rfl rfl d_LP_shape_7 ?_
  refine sw_iload (pc := 10) C d_LP_shape_10 rfl ?_
  refine sw_callVR (pc := 12) C (c_hasShape l g A nS nP hS f) sv_Pg_hasShape t_250 rfl rfl rfl [1] rfl rfl rfl rfl (Nat.le_of_ble_eq_true rfl) (Nat.le_of_ble_eq_true rfl) (Nat.le_of_ble_eq_true rfl) (Nat.le_of_ble_eq_true rfl) (Nat.le_of_ble_eq_true rfl) d_LP_shape_12 (fun v w1 hp => ?_)
  obtain ⟨rfl, rfl⟩ := hp
  refine ⟨rfl, ?_⟩
  refine sw_if_eqB (pc := 15) C 22 d_LP_shape_15 (by decide) (fun h2 => ?_) (fun h2 => ?_)
  · skip
    refine sw_iconst (pc := 22) C (nI 0) d_LP_shape_22 (by decide) ?_
    refine sw_topi (z := bI false) rfl ?_
    refine sw_istore (pc := 23) C d_LP_shape_23 (by decide) rfl ?_
    exact c25 false (fun e => by cases e) (fun _ c hc e => by
      subst e
      by_cases h0 : c = 0
      · subst h0; exact h1 rfl
      · rw [bsI_p h0, inR_in (by omega) (by omega)] at h2; cases h2)
  refine sw_iconst (pc := 18) C (nI 1) d_LP_shape_18 (by decide) ?_
  refine sw_goto (pc := 19) C 23 d_LP_shape_19 (by decide) ?_
  refine sw_topi (z := bI true) rfl ?_
  refine sw_istore (pc := 23) C d_LP_shape_23 (by decide) rfl ?_
  obtain ⟨j, hj, rfl⟩ := inR_of (by omega) h2
  exact c25 true (fun _ => ⟨j + 1, by omega, by rw [bsI_p (by omega)]; rfl⟩) (fun e => by cases e)
