/-! LayeredPage: paint -/
theorem pnt_iff {k r : Int32} {oc : Nat} (ho : oc < 2 ^ 64) (hk : k = 0 ∨ k = 1) : pntOK k r oc ↔ inR (sdN k) r = true ∧ oc &&& 13889313184910721216 = 0 ∧ (k = 1 → oc / 2 ^ 32 = 0) := by
  have h2 : inR 2 k = true := by rcases hk with rfl | rfl <;> decide
  constructor
  · rintro ⟨_, a, b⟩
    refine ⟨a, (tops0 ho).mpr (fun x hx => (b x hx).1), fun e => (high0 ho).mpr (fun x hx h4 => (b x hx).2 (by rw [e]; exact h4))⟩
  · rintro ⟨a, b, c⟩
    refine ⟨h2, a, fun x hx => ⟨(tops0 ho).mp b x hx, fun hs => ?_⟩⟩
    rcases hk with rfl | rfl
    · have : sdN 0 = 8 := rfl
      omega
    · exact (high0 ho).mp (c rfl) x hx hs
set_option maxRecDepth 100000 in
set_option maxHeartbeats 4000000 in
theorem c_LPpaint (l : Launch) (g : Gl) (x ob dw dr : Nat) (A B S : Nat → Nat) (hp : Bool) (nS nP : Nat) (G0 G1 : Nat → Nat → Int32) (co0 cd0 li0 : Nat → Int32) (cm0 : Bool) (co1 cd1 li1 : Nat → Int32) (cm1 : Bool) (k r : Int32) (oc : Nat) (ho : oc < 2 ^ 64) : Ct l g y_LP_paint b_LP_paint 7 (some .boolean) (rmD 2) [.ref x, .int k, .int r, .long (lN oc)] ([lpC x ob dw dr A B S hp, pgC A nS nP] ++ (wLy g (fun i => A (4 + i)) 8 (flat 8 (G0)) co0 cd0 li0 cm0 ++ wLy g (fun i => A (9 + i)) 4 (flat 4 (G1)) co1 cd1 li1 cm1)) (fun u q => (¬ pntOK k r oc ∧ u = some (.int (bI false)) ∧ q = [lpC x ob dw dr A B S hp, pgC A nS nP] ++ (wLy g (fun i => A (4 + i)) 8 (flat 8 (G0)) co0 cd0 li0 cm0 ++ wLy g (fun i => A (9 + i)) 4 (flat 4 (G1)) co1 cd1 li1 cm1)) ∨ (pntOK k r oc ∧ u = some (.int (bI true)) ∧ ∃ rn, rn < sdN k ∧ r = nI rn ∧ q = [lpC x ob dw dr A B S hp, pgC A nS nP] ++ (wLy g (fun i => A (4 + i)) 8 (flat 8 (pt0 k G0 rn 8 oc)) co0 cd0 li0 cm0 ++ wLy g (fun i => A (9 + i)) 4 (flat 4 (pt1 k G1 rn 4 oc)) co1 cd1 li1 cm1))) := by
  refine ct_of [some (.ref x), some (.int k), some (.int r), some (.long (lN oc)), none, none, none] (by decide) (Nat.le_of_ble_eq_true rfl) rfl ?_
  intro X C E
  refine sw_aload_n (pc := 0) C d_LP_paint_0 rfl rfl ?_
  refine sw_get (pc := 1) C inLP 0 rfl rfl 3 (by decide) t_227 rfl rfl d_LP_paint_1 ?_
  refine sw_iload_n (pc := 4) C d_LP_paint_4 rfl rfl ?_
  by_cases hk0 : k = 0
  · skip
    refine sw_callVR (pc := 5) C (c_layerOf0 l g A nS nP k hk0) sv_Pg_layerOf t_280 rfl rfl rfl [1] rfl rfl rfl rfl (Nat.le_of_ble_eq_true rfl) (Nat.le_of_ble_eq_true rfl) (Nat.le_of_ble_eq_true rfl) (Nat.le_of_ble_eq_true rfl) (Nat.le_of_ble_eq_true rfl) d_LP_paint_5 (fun v w1 hp => ?_)
    obtain ⟨rfl, rfl⟩ := hp
    refine ⟨rfl, ?_⟩
    have hsd : sdN k = 8 := by unfold sdN; rw [if_pos hk0]
    have PI := pnt_iff (r := r) ho (Or.inl hk0)
    rw [hsd] at PI
    refine sw_astore (pc := 8) C d_LP_paint_8 (by decide) rfl ?_
    refine sw_aload (pc := 10) C d_LP_paint_10 rfl ?_
    refine sw_ifnull (pc := 12) C d_LP_paint_12 ?_
    refine sw_aload (pc := 15) C d_LP_paint_15 rfl ?_
    refine sw_iconst (pc := 17) C (nI 0) d_LP_paint_17 (by decide) ?_
    refine sw_iload_n (pc := 18) C d_LP_paint_18 rfl rfl ?_
    refine sw_callVR (pc := 19) C (c_hasCell l g (fun i => A (4 + i)) 8 (flat 8 (G0)) co0 cd0 li0 cm0 (by decide) (nI 0) r) sv_Ly_hasCell t_284 rfl rfl rfl [2, 3, 4, 5, 6] rfl rfl rfl rfl (Nat.le_of_ble_eq_true rfl) (Nat.le_of_ble_eq_true rfl) (Nat.le_of_ble_eq_true rfl) (Nat.le_of_ble_eq_true rfl) (Nat.le_of_ble_eq_true rfl) d_LP_paint_19 (fun v w1 hp => ?_)
    obtain ⟨rfl, rfl⟩ := hp
    refine ⟨rfl, ?_⟩
    refine sw_topi (z := bI (inR 8 r)) (by rw [inR_in (n := 8) (j := 0) (by decide) (by decide), Bool.true_and]) ?_
    refine sw_if_eqB (pc := 22) C 35 d_LP_paint_22 (by decide) (fun h1 => ?_) (fun h1 => ?_)
    · skip
      refine sw_iconst (pc := 35) C (nI 0) d_LP_paint_35 (by decide) ?_
      refine sw_topi (z := bI false) rfl ?_
      exact sw_zret (pc := 36) C E rfl (bI_nar _) (Nat.le_of_ble_eq_true rfl) (Nat.le_of_ble_eq_true rfl) d_LP_paint_36 (Or.inl ⟨(fun o => by have := (PI.mp o).1; rw [h1] at this; cases this), rfl, rfl⟩)
    obtain ⟨rn, hrn, rfl⟩ := inR_of (by decide) h1
    refine sw_lload_n (pc := 25) C d_LP_paint_25 rfl rfl ?_
    refine sw_ldc2 (pc := 26) C t_288 d_LP_paint_26 ?_
    refine sw_land (pc := 29) C d_LP_paint_29 ?_
    refine sw_topl (z := lN (oc &&& 13889313184910721216)) (wb_and ho (by decide)) ?_
    refine sw_lconst (pc := 30) C 0 d_LP_paint_30 (by decide) ?_
    refine sw_lcmp (pc := 31) C d_LP_paint_31 ?_
    refine sw_if_eq (pc := 32) C 37 d_LP_paint_32 (by decide) (fun h2 => ?_) (fun h2 => ?_)
    · skip
      have hz := (lN_eq0 (Nat.and_lt_two_pow _ (by decide))).mp (cmp0.mp h2)
      refine sw_aload (pc := 37) C d_LP_paint_37 rfl ?_
      refine sw_get (pc := 39) C inLy 2 rfl rfl 0 (by decide) t_140 rfl rfl d_LP_paint_39 ?_
      refine sw_topi (z := nI 8) rfl ?_
      refine sw_bipush (pc := 42) C (nI 8) d_LP_paint_42 (by decide) ?_
      refine sw_icmp_geN (pc := 44) C 66 (by omega) (by omega) d_LP_paint_44 (by decide) (fun h3 => ?_) (fun h3 => ?_)
      · skip
        refine sw_iconst (pc := 66) C (nI 0) d_LP_paint_66 (by decide) ?_
        refine sw_topi (z := bI false) rfl ?_
        have hok : pntOK k (nI rn) oc := PI.mpr ⟨h1, hz, fun e => by rw [hk0] at e; exact absurd e (by decide)⟩
        refine sw_istore (pc := 67) C d_LP_paint_67 (by decide) rfl ?_
        refine sw_iload (pc := 69) C d_LP_paint_69 rfl ?_
        refine sw_if_eqB (pc := 71) C 76 d_LP_paint_71 (by decide) (fun h6 => ?_) (fun h6 => ?_)
        · skip
          refine sw_aload (pc := 76) C d_LP_paint_76 rfl ?_
          refine sw_iload_n (pc := 78) C d_LP_paint_78 rfl rfl ?_
          refine sw_lload_n (pc := 79) C d_LP_paint_79 rfl rfl ?_
          refine sw_callVP (pc := 80) C (c_setRow l g (fun i => A (4 + i)) 8 G0 co0 cd0 li0 cm0 (by decide) rn oc hrn ho) sv_Ly_setRow t_289 rfl rfl rfl [2, 3, 4, 5, 6] rfl rfl rfl rfl (Nat.le_of_ble_eq_true rfl) (Nat.le_of_ble_eq_true rfl) (Nat.le_of_ble_eq_true rfl) (Nat.le_of_ble_eq_true rfl) (Nat.le_of_ble_eq_true rfl) d_LP_paint_80 (fun v w1 hp => ?_)
          obtain ⟨rfl, rfl⟩ := hp
          refine ⟨rfl, ?_⟩
          refine sw_ws (ws' := [lpC x ob dw dr A B S hp, pgC A nS nP] ++ (wLy g (fun i => A (4 + i)) 8 (flat 8 (pt0 k G0 rn 8 oc)) co0 cd0 li0 cm0 ++ wLy g (fun i => A (9 + i)) 4 (flat 4 (pt1 k G1 rn 4 oc)) co1 cd1 li1 cm1)) (by unfold pt0 pt1; rw [if_pos hk0, if_pos hk0]; rfl) ?_
          refine sw_iconst (pc := 83) C (nI 1) d_LP_paint_83 (by decide) ?_
          refine sw_topi (z := bI true) rfl ?_
          exact sw_zret (pc := 84) C E rfl (bI_nar _) (Nat.le_of_ble_eq_true rfl) (Nat.le_of_ble_eq_true rfl) d_LP_paint_84 (Or.inr ⟨hok, rfl, rn, by omega, rfl, rfl⟩)
        exact absurd h6 (by decide)
      omega
    refine sw_iconst (pc := 35) C (nI 0) d_LP_paint_35 (by decide) ?_
    refine sw_topi (z := bI false) rfl ?_
    exact sw_zret (pc := 36) C E rfl (bI_nar _) (Nat.le_of_ble_eq_true rfl) (Nat.le_of_ble_eq_true rfl) d_LP_paint_36 (Or.inl ⟨(fun o => h2 (cmp0.mpr ((lN_eq0 (Nat.and_lt_two_pow _ (by decide))).mpr (PI.mp o).2.1))), rfl, rfl⟩)
  by_cases hk1 : k = 1
  · skip
    refine sw_callVR (pc := 5) C (c_layerOf1 l g A nS nP k hk1) sv_Pg_layerOf t_280 rfl rfl rfl [1] rfl rfl rfl rfl (Nat.le_of_ble_eq_true rfl) (Nat.le_of_ble_eq_true rfl) (Nat.le_of_ble_eq_true rfl) (Nat.le_of_ble_eq_true rfl) (Nat.le_of_ble_eq_true rfl) d_LP_paint_5 (fun v w1 hp => ?_)
    obtain ⟨rfl, rfl⟩ := hp
    refine ⟨rfl, ?_⟩
    have hsd : sdN k = 4 := by unfold sdN; rw [if_neg hk0]
    have PI := pnt_iff (r := r) ho (Or.inr hk1)
    rw [hsd] at PI
    refine sw_astore (pc := 8) C d_LP_paint_8 (by decide) rfl ?_
    refine sw_aload (pc := 10) C d_LP_paint_10 rfl ?_
    refine sw_ifnull (pc := 12) C d_LP_paint_12 ?_
    refine sw_aload (pc := 15) C d_LP_paint_15 rfl ?_
    refine sw_iconst (pc := 17) C (nI 0) d_LP_paint_17 (by decide) ?_
    refine sw_iload_n (pc := 18) C d_LP_paint_18 rfl rfl ?_
    refine sw_callVR (pc := 19) C (c_hasCell l g (fun i => A (9 + i)) 4 (flat 4 (G1)) co1 cd1 li1 cm1 (by decide) (nI 0) r) sv_Ly_hasCell t_284 rfl rfl rfl [7, 8, 9, 10, 11] rfl rfl rfl rfl (Nat.le_of_ble_eq_true rfl) (Nat.le_of_ble_eq_true rfl) (Nat.le_of_ble_eq_true rfl) (Nat.le_of_ble_eq_true rfl) (Nat.le_of_ble_eq_true rfl) d_LP_paint_19 (fun v w1 hp => ?_)
    obtain ⟨rfl, rfl⟩ := hp
    refine ⟨rfl, ?_⟩
    refine sw_topi (z := bI (inR 4 r)) (by rw [inR_in (n := 4) (j := 0) (by decide) (by decide), Bool.true_and]) ?_
    refine sw_if_eqB (pc := 22) C 35 d_LP_paint_22 (by decide) (fun h1 => ?_) (fun h1 => ?_)
    · skip
      refine sw_iconst (pc := 35) C (nI 0) d_LP_paint_35 (by decide) ?_
      refine sw_topi (z := bI false) rfl ?_
      exact sw_zret (pc := 36) C E rfl (bI_nar _) (Nat.le_of_ble_eq_true rfl) (Nat.le_of_ble_eq_true rfl) d_LP_paint_36 (Or.inl ⟨(fun o => by have := (PI.mp o).1; rw [h1] at this; cases this), rfl, rfl⟩)
    obtain ⟨rn, hrn, rfl⟩ := inR_of (by decide) h1
    refine sw_lload_n (pc := 25) C d_LP_paint_25 rfl rfl ?_
    refine sw_ldc2 (pc := 26) C t_288 d_LP_paint_26 ?_
    refine sw_land (pc := 29) C d_LP_paint_29 ?_
    refine sw_topl (z := lN (oc &&& 13889313184910721216)) (wb_and ho (by decide)) ?_
    refine sw_lconst (pc := 30) C 0 d_LP_paint_30 (by decide) ?_
    refine sw_lcmp (pc := 31) C d_LP_paint_31 ?_
    refine sw_if_eq (pc := 32) C 37 d_LP_paint_32 (by decide) (fun h2 => ?_) (fun h2 => ?_)
    · skip
      have hz := (lN_eq0 (Nat.and_lt_two_pow _ (by decide))).mp (cmp0.mp h2)
      refine sw_aload (pc := 37) C d_LP_paint_37 rfl ?_
      refine sw_get (pc := 39) C inLy 7 rfl rfl 0 (by decide) t_140 rfl rfl d_LP_paint_39 ?_
      refine sw_topi (z := nI 4) rfl ?_
      refine sw_bipush (pc := 42) C (nI 8) d_LP_paint_42 (by decide) ?_
      refine sw_icmp_geN (pc := 44) C 66 (by omega) (by omega) d_LP_paint_44 (by decide) (fun h3 => ?_) (fun h3 => ?_)
      · skip
        omega
      refine sw_lload_n (pc := 47) C d_LP_paint_47 rfl rfl ?_
      refine sw_bipush (pc := 48) C (nI 8) d_LP_paint_48 (by decide) ?_
      refine sw_aload (pc := 50) C d_LP_paint_50 rfl ?_
      refine sw_get (pc := 52) C inLy 7 rfl rfl 0 (by decide) t_140 rfl rfl d_LP_paint_52 ?_
      refine sw_topi (z := nI 4) rfl ?_
      refine sw_imul (pc := 55) C d_LP_paint_55 ?_
      refine sw_topi (z := nI (8 * 4)) (pk_mul _ _) ?_
      refine sw_lushr (pc := 56) C d_LP_paint_56 ?_
      refine sw_topl (z := lN (oc / 2 ^ (8 * 4))) (wb_shr ho (by decide)) ?_
      refine sw_lconst (pc := 57) C 0 d_LP_paint_57 (by decide) ?_
      refine sw_lcmp (pc := 58) C d_LP_paint_58 ?_
      refine sw_if_eq (pc := 59) C 66 d_LP_paint_59 (by decide) (fun h4 => ?_) (fun h4 => ?_)
      · skip
        have hh := (lN_eq0 (Nat.lt_of_le_of_lt (Nat.div_le_self _ _) ho)).mp (cmp0.mp h4)
        refine sw_iconst (pc := 66) C (nI 0) d_LP_paint_66 (by decide) ?_
        refine sw_topi (z := bI false) rfl ?_
        have hok : pntOK k (nI rn) oc := PI.mpr ⟨h1, hz, fun _ => hh⟩
        refine sw_istore (pc := 67) C d_LP_paint_67 (by decide) rfl ?_
        refine sw_iload (pc := 69) C d_LP_paint_69 rfl ?_
        refine sw_if_eqB (pc := 71) C 76 d_LP_paint_71 (by decide) (fun h6 => ?_) (fun h6 => ?_)
        · skip
          refine sw_aload (pc := 76) C d_LP_paint_76 rfl ?_
          refine sw_iload_n (pc := 78) C d_LP_paint_78 rfl rfl ?_
          refine sw_lload_n (pc := 79) C d_LP_paint_79 rfl rfl ?_
          refine sw_callVP (pc := 80) C (c_setRow l g (fun i => A (9 + i)) 4 G1 co1 cd1 li1 cm1 (by decide) rn oc hrn ho) sv_Ly_setRow t_289 rfl rfl rfl [7, 8, 9, 10, 11] rfl rfl rfl rfl (Nat.le_of_ble_eq_true rfl) (Nat.le_of_ble_eq_true rfl) (Nat.le_of_ble_eq_true rfl) (Nat.le_of_ble_eq_true rfl) (Nat.le_of_ble_eq_true rfl) d_LP_paint_80 (fun v w1 hp => ?_)
          obtain ⟨rfl, rfl⟩ := hp
          refine ⟨rfl, ?_⟩
          refine sw_ws (ws' := [lpC x ob dw dr A B S hp, pgC A nS nP] ++ (wLy g (fun i => A (4 + i)) 8 (flat 8 (pt0 k G0 rn 8 oc)) co0 cd0 li0 cm0 ++ wLy g (fun i => A (9 + i)) 4 (flat 4 (pt1 k G1 rn 4 oc)) co1 cd1 li1 cm1)) (by unfold pt0 pt1; rw [if_neg hk0, if_neg hk0]; rfl) ?_
          refine sw_iconst (pc := 83) C (nI 1) d_LP_paint_83 (by decide) ?_
          refine sw_topi (z := bI true) rfl ?_
          exact sw_zret (pc := 84) C E rfl (bI_nar _) (Nat.le_of_ble_eq_true rfl) (Nat.le_of_ble_eq_true rfl) d_LP_paint_84 (Or.inr ⟨hok, rfl, rn, by omega, rfl, rfl⟩)
        exact absurd h6 (by decide)
      refine sw_iconst (pc := 62) C (nI 1) d_LP_paint_62 (by decide) ?_
      refine sw_goto (pc := 63) C 67 d_LP_paint_63 (by decide) ?_
      refine sw_topi (z := bI true) rfl ?_
      refine sw_istore (pc := 67) C d_LP_paint_67 (by decide) rfl ?_
      refine sw_iload (pc := 69) C d_LP_paint_69 rfl ?_
      refine sw_if_eqB (pc := 71) C 76 d_LP_paint_71 (by decide) (fun h6 => ?_) (fun h6 => ?_)
      · skip
        exact absurd h6 (by decide)
      refine sw_iconst (pc := 74) C (nI 0) d_LP_paint_74 (by decide) ?_
      refine sw_topi (z := bI false) rfl ?_
      exact sw_zret (pc := 75) C E rfl (bI_nar _) (Nat.le_of_ble_eq_true rfl) (Nat.le_of_ble_eq_true rfl) d_LP_paint_75 (Or.inl ⟨(fun o => h4 (cmp0.mpr ((lN_eq0 (Nat.lt_of_le_of_lt (Nat.div_le_self _ _) ho)).mpr ((PI.mp o).2.2 hk1)))), rfl, rfl⟩)
    refine sw_iconst (pc := 35) C (nI 0) d_LP_paint_35 (by decide) ?_
    refine sw_topi (z := bI false) rfl ?_
    exact sw_zret (pc := 36) C E rfl (bI_nar _) (Nat.le_of_ble_eq_true rfl) (Nat.le_of_ble_eq_true rfl) d_LP_paint_36 (Or.inl ⟨(fun o => h2 (cmp0.mpr ((lN_eq0 (Nat.and_lt_two_pow _ (by decide))).mpr (PI.mp o).2.1))), rfl, rfl⟩)
  refine sw_callVR (pc := 5) C (c_layerOfN l g A nS nP k hk0 hk1) sv_Pg_layerOf t_280 rfl rfl rfl [1] rfl rfl rfl rfl (Nat.le_of_ble_eq_true rfl) (Nat.le_of_ble_eq_true rfl) (Nat.le_of_ble_eq_true rfl) (Nat.le_of_ble_eq_true rfl) (Nat.le_of_ble_eq_true rfl) d_LP_paint_5 (fun v w1 hp => ?_)
  obtain ⟨rfl, rfl⟩ := hp
  refine ⟨rfl, ?_⟩
  refine sw_astoreN (pc := 8) C d_LP_paint_8 (by decide) rfl ?_
  refine sw_aloadN (pc := 10) C d_LP_paint_10 rfl ?_
  refine sw_ifnullN (pc := 12) C 35 d_LP_paint_12 (by decide) ?_
  have hno : ¬ pntOK k r oc := fun o => by
    obtain ⟨j, hj, rfl⟩ := inR_of (by decide) o.1
    have h : j = 0 ∨ j = 1 := by omega
    rcases h with rfl | rfl
    · exact hk0 rfl
    · exact hk1 rfl
  refine sw_iconst (pc := 35) C (nI 0) d_LP_paint_35 (by decide) ?_
  refine sw_topi (z := bI false) rfl ?_
  exact sw_zret (pc := 36) C E rfl (bI_nar _) (Nat.le_of_ble_eq_true rfl) (Nat.le_of_ble_eq_true rfl) d_LP_paint_36 (Or.inl ⟨(hno), rfl, rfl⟩)
