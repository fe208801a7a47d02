/-! the reference: chunks are read -/
theorem bsI_m (c : Nat) : nI c - nI 1 = bsI c := by
  by_cases h : c = 0
  · rw [bsI_0 h, h]; decide
  · rw [bsI_p h, pk_sub (by omega)]
theorem vpL_ne {f : Nat → Int64} {k j : Nat} {v : Int64} (h : j ≠ k) : vp_updL f k v j = f j := by unfold vp_updL; rw [if_neg h]
theorem vpL_at {f : Nat → Int64} {k : Nat} {v : Int64} : vp_updL f k v k = v := by unfold vp_updL; rw [if_pos rfl]
set_option maxRecDepth 100000 in
set_option maxHeartbeats 4000000 in
theorem c_Md_takeShape (l : Launch) (g : Gl) (R : Nat → Nat) (dn pl ss pt : Nat) (th rd : Bool) (wd sc : Nat) (l0 : List Nat) (f : Nat → Int32) (hl : bytesOK l0) (z o d : Nat → Int32) (sn : Nat → Int64) (bb : Nat → Nat) (K : Nat) (hK : (hd l0 K) + 3 + (lnA l0 K) ≤ l0.length) (G : shG l0 ss ((hd l0 K) + 3) (lnA l0 K)) (hb : ∀ k, k < ss → sn k = lN (bb k) ∧ bb k < 2 ^ 64) : Ct l g y_Md_takeShape b_Md_takeShape 5 none (rmD 3) [.ref (R 0), .int (nI (hd l0 K))] ([mdC R dn pl l0.length ss pt th rd wd sc, iaC g (R 14) 48 z, iaC g (R 15) 48 o, iaC g (R 16) 4400 d, iaC g (R 8) 1200 (dcF l0 f), laC g (R 9) 8 sn]) (fun u q => u = none ∧ ∃ (r1 : Bool) (w1 s1 : Nat) (z1 o1 d1 : Nat → Int32), q = [mdC R dn pl l0.length (ss + 1) pt th r1 w1 s1, iaC g (R 14) 48 z1, iaC g (R 15) 48 o1, iaC g (R 16) 4400 d1, iaC g (R 8) 1200 (dcF l0 f), laC g (R 9) 8 (vp_updL sn ss (lN (rdBits l0 (fun i => sb (bb i) 8 8) ((hd l0 K) + 3) (lnA l0 K))))]) := by
  refine ct_of [some (.ref (R 0)), some (.int (nI (hd l0 K))), none, none, none] (by decide) (Nat.le_of_ble_eq_true rfl) rfl ?_
  intro X C E
  obtain ⟨g1, g2, g3, g4, g5⟩ := G
  have h12 := hl.1
  have hc := hl.2 ((hd l0 K) + 3)
  have hx := hl.2 ((hd l0 K) + 3 + 1)
  have hKm := (hd_mono l0 (Nat.le_refl K)).2
  refine sw_aload_n (pc := 0) C d_Md_takeShape_0 rfl rfl ?_
  refine sw_get (pc := 1) C inMd 0 rfl rfl 9 (by decide) t_581 rfl rfl d_Md_takeShape_1 ?_
  refine sw_iload_n (pc := 4) C d_Md_takeShape_4 rfl rfl ?_
  refine sw_iconst (pc := 5) C (nI 3) d_Md_takeShape_5 (by decide) ?_
  refine sw_iadd (pc := 6) C d_Md_takeShape_6 ?_
  refine sw_topi (z := nI ((hd l0 K) + 3)) (nI_add _ _) ?_
  refine sw_ialdN (pc := 7) C 4 ((hd l0 K) + 3) rfl rfl (by omega) (by decide) d_Md_takeShape_7 ?_
  refine sw_topi (z := nI (l0.getD ((hd l0 K) + 3) 0)) (dcF_get (by omega)) ?_
  refine sw_iconst (pc := 8) C (nI 1) d_Md_takeShape_8 (by decide) ?_
  refine sw_isub (pc := 9) C d_Md_takeShape_9 ?_
  refine sw_topi (z := bsI (l0.getD ((hd l0 K) + 3) 0)) (bsI_m _) ?_
  refine sw_istore_n (pc := 10) C d_Md_takeShape_10 rfl (by decide) rfl ?_
  refine sw_aload_n (pc := 11) C d_Md_takeShape_11 rfl rfl ?_
  refine sw_get (pc := 12) C inMd 0 rfl rfl 9 (by decide) t_581 rfl rfl d_Md_takeShape_12 ?_
  refine sw_iload_n (pc := 15) C d_Md_takeShape_15 rfl rfl ?_
  refine sw_iconst (pc := 16) C (nI 4) d_Md_takeShape_16 (by decide) ?_
  refine sw_iadd (pc := 17) C d_Md_takeShape_17 ?_
  refine sw_topi (z := nI ((hd l0 K) + 4)) (nI_add _ _) ?_
  refine sw_ialdN (pc := 18) C 4 ((hd l0 K) + 4) rfl rfl (by omega) (by decide) d_Md_takeShape_18 ?_
  refine sw_topi (z := nI (l0.getD ((hd l0 K) + 3 + 1) 0)) (dcF_get (by omega)) ?_
  refine sw_bipush (pc := 19) C (nI 16) d_Md_takeShape_19 (by decide) ?_
  refine sw_idiv (pc := 21) C d_Md_takeShape_21 (by decide) ?_
  refine sw_topi (z := nI ((l0.getD ((hd l0 K) + 3 + 1) 0) / 16)) (pk_div (by omega) (by omega) (by omega)) ?_
  refine sw_iconst (pc := 22) C (nI 1) d_Md_takeShape_22 (by decide) ?_
  refine sw_iadd (pc := 23) C d_Md_takeShape_23 ?_
  refine sw_topi (z := nI (((l0.getD ((hd l0 K) + 3 + 1) 0) / 16) + 1)) (nI_add _ _) ?_
  refine sw_istore_n (pc := 24) C d_Md_takeShape_24 rfl (by decide) rfl ?_
  refine sw_aload_n (pc := 25) C d_Md_takeShape_25 rfl rfl ?_
  refine sw_get (pc := 26) C inMd 0 rfl rfl 9 (by decide) t_581 rfl rfl d_Md_takeShape_26 ?_
  refine sw_iload_n (pc := 29) C d_Md_takeShape_29 rfl rfl ?_
  refine sw_iconst (pc := 30) C (nI 4) d_Md_takeShape_30 (by decide) ?_
  refine sw_iadd (pc := 31) C d_Md_takeShape_31 ?_
  refine sw_topi (z := nI ((hd l0 K) + 4)) (nI_add _ _) ?_
  refine sw_ialdN (pc := 32) C 4 ((hd l0 K) + 4) rfl rfl (by omega) (by decide) d_Md_takeShape_32 ?_
  refine sw_topi (z := nI (l0.getD ((hd l0 K) + 3 + 1) 0)) (dcF_get (by omega)) ?_
  refine sw_bipush (pc := 33) C (nI 16) d_Md_takeShape_33 (by decide) ?_
  refine sw_irem (pc := 35) C d_Md_takeShape_35 (by decide) ?_
  refine sw_topi (z := nI ((l0.getD ((hd l0 K) + 3 + 1) 0) % 16)) (pk_rem (by omega) (by omega) (by omega)) ?_
  refine sw_iconst (pc := 36) C (nI 1) d_Md_takeShape_36 (by decide) ?_
  refine sw_iadd (pc := 37) C d_Md_takeShape_37 ?_
  refine sw_topi (z := nI (((l0.getD ((hd l0 K) + 3 + 1) 0) % 16) + 1)) (nI_add _ _) ?_
  refine sw_istore (pc := 38) C d_Md_takeShape_38 (by decide) rfl ?_
  refine sw_aload_n (pc := 40) C d_Md_takeShape_40 rfl rfl ?_
  refine sw_iload_n (pc := 41) C d_Md_takeShape_41 rfl rfl ?_
  refine sw_iconst (pc := 42) C (nI 5) d_Md_takeShape_42 (by decide) ?_
  refine sw_iadd (pc := 43) C d_Md_takeShape_43 ?_
  refine sw_topi (z := nI ((hd l0 K) + 5)) (nI_add _ _) ?_
  refine sw_topi (z := nI ((hd l0 K) + 3 + 2)) rfl ?_
  refine sw_aload_n (pc := 44) C d_Md_takeShape_44 rfl rfl ?_
  refine sw_iload_n (pc := 45) C d_Md_takeShape_45 rfl rfl ?_
  refine sw_callVR (pc := 46) C (c_Md_chLen l g R dn pl ss pt th rd wd sc l0 f hl (hd l0 K) (by omega)) sv_Md_chunkLength t_788 rfl rfl rfl [0, 4] rfl rfl rfl rfl (Nat.le_of_ble_eq_true rfl) (Nat.le_of_ble_eq_true rfl) (Nat.le_of_ble_eq_true rfl) (Nat.le_of_ble_eq_true rfl) (Nat.le_of_ble_eq_true rfl) d_Md_takeShape_46 (fun v w1 hp => ?_)
  obtain ⟨rfl, rfl⟩ := hp
  refine ⟨rfl, ?_⟩
  refine sw_topi (z := nI (lnA l0 K)) rfl ?_
  refine sw_iconst (pc := 49) C (nI 2) d_Md_takeShape_49 (by decide) ?_
  refine sw_isub (pc := 50) C d_Md_takeShape_50 ?_
  refine sw_topi (z := nI ((lnA l0 K) - 2)) (pk_sub (by omega)) ?_
  have eD : (hd l0 K) + 3 + 2 + ((lnA l0 K) - 2) = (hd l0 K) + 3 + (lnA l0 K) := by omega
  refine sw_callVP (pc := 51) C (c_Md_load l g R dn pl ss pt th rd wd sc l0 f z o d ((hd l0 K) + 3 + 2) ((lnA l0 K) - 2) (by omega) hl) sv_Md_load t_804 rfl rfl rfl [0, 1, 2, 3, 4] rfl rfl rfl rfl (Nat.le_of_ble_eq_true rfl) (Nat.le_of_ble_eq_true rfl) (Nat.le_of_ble_eq_true rfl) (Nat.le_of_ble_eq_true rfl) (Nat.le_of_ble_eq_true rfl) d_Md_takeShape_51 (fun v w1 hp => ?_)
  obtain ⟨rfl, rfl⟩ := hp
  refine ⟨rfl, ?_⟩
  refine sw_ws (ws' := wKm g R dn pl l0.length ss pt th (some (dgt l0 ((hd l0 K) + 3 + 2) ((hd l0 K) + 3 + (lnA l0 K)))) (kInit (some (dgt l0 ((hd l0 K) + 3 + 2) ((hd l0 K) + 3 + (lnA l0 K))))) ++ [iaC g (R 8) 1200 (dcF l0 f), laC g (R 9) 8 sn]) (by rw [eD]; rfl) ?_
  by_cases h0 : (l0.getD ((hd l0 K) + 3) 0) = 0
  · skip
    refine sw_aload_n (pc := 54) C d_Md_takeShape_54 rfl rfl ?_
    refine sw_get (pc := 55) C inMd 0 rfl rfl 12 (by decide) t_584 rfl rfl d_Md_takeShape_55 ?_
    refine sw_aload_n (pc := 58) C d_Md_takeShape_58 rfl rfl ?_
    refine sw_get (pc := 59) C inMd 0 rfl rfl 13 (by decide) t_585 rfl rfl d_Md_takeShape_59 ?_
    refine sw_topi (z := nI ss) rfl ?_
    refine sw_aload_n (pc := 62) C d_Md_takeShape_62 rfl rfl ?_
    refine sw_lconst (pc := 63) C 0 d_Md_takeShape_63 (by decide) ?_
    refine sw_topl (z := lN 0) rfl ?_
    refine sw_iload_n (pc := 64) C d_Md_takeShape_64 rfl rfl ?_
    refine sw_iload (pc := 65) C d_Md_takeShape_65 rfl ?_
    refine sw_iload_n (pc := 67) C d_Md_takeShape_67 rfl rfl ?_
    refine sw_if_lt (pc := 68) C 75 d_Md_takeShape_68 (by decide) (fun h1 => ?_) (fun h1 => ?_)
    · skip
      refine sw_iconst (pc := 75) C (nI 0) d_Md_takeShape_75 (by decide) ?_
      refine sw_topi (z := bI false) rfl ?_
      refine sw_iload_n (pc := 76) C d_Md_takeShape_76 rfl rfl ?_
      refine sw_if_ge (pc := 77) C 84 d_Md_takeShape_77 (by decide) (fun h2 => ?_) (fun h2 => ?_)
      · skip
        rw [bsI_0 h0] at h2
        exact absurd h2 (by decide)
      refine sw_lconst (pc := 80) C 0 d_Md_takeShape_80 (by decide) ?_
      refine sw_goto (pc := 81) C 90 d_Md_takeShape_81 (by decide) ?_
      refine sw_topl (z := lN 0) rfl ?_
      have es : (shY (some (dgt l0 ((hd l0 K) + 3 + 2) ((hd l0 K) + 3 + (lnA l0 K)))) false (sb 0 8 8) (sb 0 8 8) ((l0.getD ((hd l0 K) + 3 + 1) 0) / 16 + 1) ((l0.getD ((hd l0 K) + 3 + 1) 0) % 16 + 1)).2 = (rdBits l0 (fun i => sb (bb i) 8 8) ((hd l0 K) + 3) (lnA l0 K)) := by unfold rdBits; rw [if_pos h0, sb_zero]
      refine sw_callVP (pc := 90) C (c_Md_walk l g R dn pl l0.length ss pt th (some (dgt l0 ((hd l0 K) + 3 + 2) ((hd l0 K) + 3 + (lnA l0 K)))) (fun D h => by cases h; exact dgt_le _ _ _) 0 ((l0.getD ((hd l0 K) + 3 + 1) 0) / 16 + 1) ((l0.getD ((hd l0 K) + 3 + 1) 0) % 16 + 1) 0 false (by decide) (by decide) (by omega) (by omega)) sv_Md_walk t_712 rfl rfl rfl [0, 1, 2, 3] rfl rfl rfl rfl (Nat.le_of_ble_eq_true rfl) (Nat.le_of_ble_eq_true rfl) (Nat.le_of_ble_eq_true rfl) (Nat.le_of_ble_eq_true rfl) (Nat.le_of_ble_eq_true rfl) d_Md_takeShape_90 (fun v w1 hp => ?_)
      obtain ⟨rfl, rfl⟩ := hp
      refine ⟨rfl, ?_⟩
      refine sw_ws (ws' := wKm g R dn pl l0.length ss pt th (some (dgt l0 ((hd l0 K) + 3 + 2) ((hd l0 K) + 3 + (lnA l0 K)))) ((shY (some (dgt l0 ((hd l0 K) + 3 + 2) ((hd l0 K) + 3 + (lnA l0 K)))) false (sb 0 8 8) (sb 0 8 8) ((l0.getD ((hd l0 K) + 3 + 1) 0) / 16 + 1) ((l0.getD ((hd l0 K) + 3 + 1) 0) % 16 + 1)).1) ++ [iaC g (R 8) 1200 (dcF l0 f), laC g (R 9) 8 sn]) rfl ?_
      refine sw_topl (z := lN (rdBits l0 (fun i => sb (bb i) 8 8) ((hd l0 K) + 3) (lnA l0 K))) (congrArg lN es) ?_
      refine sw_lastN (pc := 93) C 5 ss rfl rfl (by omega) (by decide) d_Md_takeShape_93 ?_
      refine sw_aload_n (pc := 94) C d_Md_takeShape_94 rfl rfl ?_
      refine sw_dup (pc := 95) C d_Md_takeShape_95 rfl ?_
      refine sw_get (pc := 96) C inMd 0 rfl rfl 13 (by decide) t_585 rfl rfl d_Md_takeShape_96 ?_
      refine sw_topi (z := nI ss) rfl ?_
      refine sw_iconst (pc := 99) C (nI 1) d_Md_takeShape_99 (by decide) ?_
      refine sw_iadd (pc := 100) C d_Md_takeShape_100 ?_
      refine sw_topi (z := nI (ss + 1)) (nI_add _ _) ?_
      refine sw_put (pc := 101) C inMd 0 rfl rfl 13 (by decide) tyMd okMd nmMd t_585 rfl rfl (ty := .int) (by decide +kernel) rfl rfl (Nat.le_of_ble_eq_true rfl) d_Md_takeShape_101 ?_
      exact sw_vret (pc := 104) C E rfl (Nat.le_of_ble_eq_true rfl) (Nat.le_of_ble_eq_true rfl) d_Md_takeShape_104 ⟨rfl, _, _, _, _, _, _, rfl⟩
    rw [bsI_0 h0] at h1
    exact absurd (by decide) h1
  · skip
    refine sw_aload_n (pc := 54) C d_Md_takeShape_54 rfl rfl ?_
    refine sw_get (pc := 55) C inMd 0 rfl rfl 12 (by decide) t_584 rfl rfl d_Md_takeShape_55 ?_
    refine sw_aload_n (pc := 58) C d_Md_takeShape_58 rfl rfl ?_
    refine sw_get (pc := 59) C inMd 0 rfl rfl 13 (by decide) t_585 rfl rfl d_Md_takeShape_59 ?_
    refine sw_topi (z := nI ss) rfl ?_
    refine sw_aload_n (pc := 62) C d_Md_takeShape_62 rfl rfl ?_
    refine sw_lconst (pc := 63) C 0 d_Md_takeShape_63 (by decide) ?_
    refine sw_topl (z := lN 0) rfl ?_
    refine sw_iload_n (pc := 64) C d_Md_takeShape_64 rfl rfl ?_
    refine sw_iload (pc := 65) C d_Md_takeShape_65 rfl ?_
    refine sw_iload_n (pc := 67) C d_Md_takeShape_67 rfl rfl ?_
    refine sw_if_lt (pc := 68) C 75 d_Md_takeShape_68 (by decide) (fun h1 => ?_) (fun h1 => ?_)
    · skip
      rw [bsI_p h0] at h1
      exact absurd h1 (nI_pos (by omega))
    obtain ⟨pb, hbb⟩ := hb ((l0.getD ((hd l0 K) + 3) 0) - 1) (by omega)
    refine sw_iconst (pc := 71) C (nI 1) d_Md_takeShape_71 (by decide) ?_
    refine sw_topi (z := bI true) rfl ?_
    refine sw_goto (pc := 72) C 76 d_Md_takeShape_72 (by decide) ?_
    refine sw_iload_n (pc := 76) C d_Md_takeShape_76 rfl rfl ?_
    refine sw_if_ge (pc := 77) C 84 d_Md_takeShape_77 (by decide) (fun h2 => ?_) (fun h2 => ?_)
    · skip
      refine sw_aload_n (pc := 84) C d_Md_takeShape_84 rfl rfl ?_
      refine sw_get (pc := 85) C inMd 0 rfl rfl 12 (by decide) t_584 rfl rfl d_Md_takeShape_85 ?_
      refine sw_iload_n (pc := 88) C d_Md_takeShape_88 rfl rfl ?_
      refine sw_laldN (pc := 89) C 5 ((l0.getD ((hd l0 K) + 3) 0) - 1) rfl (bsI_p h0) (by omega) (by decide) d_Md_takeShape_89 ?_
      refine sw_topl (z := lN (bb ((l0.getD ((hd l0 K) + 3) 0) - 1))) pb ?_
      have es : (shY (some (dgt l0 ((hd l0 K) + 3 + 2) ((hd l0 K) + 3 + (lnA l0 K)))) true (sb (bb ((l0.getD ((hd l0 K) + 3) 0) - 1)) 8 8) (sb 0 8 8) ((l0.getD ((hd l0 K) + 3 + 1) 0) / 16 + 1) ((l0.getD ((hd l0 K) + 3 + 1) 0) % 16 + 1)).2 = (rdBits l0 (fun i => sb (bb i) 8 8) ((hd l0 K) + 3) (lnA l0 K)) := by unfold rdBits; rw [if_neg h0, sb_zero]
      refine sw_callVP (pc := 90) C (c_Md_walk l g R dn pl l0.length ss pt th (some (dgt l0 ((hd l0 K) + 3 + 2) ((hd l0 K) + 3 + (lnA l0 K)))) (fun D h => by cases h; exact dgt_le _ _ _) 0 ((l0.getD ((hd l0 K) + 3 + 1) 0) / 16 + 1) ((l0.getD ((hd l0 K) + 3 + 1) 0) % 16 + 1) (bb ((l0.getD ((hd l0 K) + 3) 0) - 1)) true (by decide) hbb (by omega) (by omega)) sv_Md_walk t_712 rfl rfl rfl [0, 1, 2, 3] rfl rfl rfl rfl (Nat.le_of_ble_eq_true rfl) (Nat.le_of_ble_eq_true rfl) (Nat.le_of_ble_eq_true rfl) (Nat.le_of_ble_eq_true rfl) (Nat.le_of_ble_eq_true rfl) d_Md_takeShape_90 (fun v w1 hp => ?_)
      obtain ⟨rfl, rfl⟩ := hp
      refine ⟨rfl, ?_⟩
      refine sw_ws (ws' := wKm g R dn pl l0.length ss pt th (some (dgt l0 ((hd l0 K) + 3 + 2) ((hd l0 K) + 3 + (lnA l0 K)))) ((shY (some (dgt l0 ((hd l0 K) + 3 + 2) ((hd l0 K) + 3 + (lnA l0 K)))) true (sb (bb ((l0.getD ((hd l0 K) + 3) 0) - 1)) 8 8) (sb 0 8 8) ((l0.getD ((hd l0 K) + 3 + 1) 0) / 16 + 1) ((l0.getD ((hd l0 K) + 3 + 1) 0) % 16 + 1)).1) ++ [iaC g (R 8) 1200 (dcF l0 f), laC g (R 9) 8 sn]) rfl ?_
      refine sw_topl (z := lN (rdBits l0 (fun i => sb (bb i) 8 8) ((hd l0 K) + 3) (lnA l0 K))) (congrArg lN es) ?_
      refine sw_lastN (pc := 93) C 5 ss rfl rfl (by omega) (by decide) d_Md_takeShape_93 ?_
      refine sw_aload_n (pc := 94) C d_Md_takeShape_94 rfl rfl ?_
      refine sw_dup (pc := 95) C d_Md_takeShape_95 rfl ?_
      refine sw_get (pc := 96) C inMd 0 rfl rfl 13 (by decide) t_585 rfl rfl d_Md_takeShape_96 ?_
      refine sw_topi (z := nI ss) rfl ?_
      refine sw_iconst (pc := 99) C (nI 1) d_Md_takeShape_99 (by decide) ?_
      refine sw_iadd (pc := 100) C d_Md_takeShape_100 ?_
      refine sw_topi (z := nI (ss + 1)) (nI_add _ _) ?_
      refine sw_put (pc := 101) C inMd 0 rfl rfl 13 (by decide) tyMd okMd nmMd t_585 rfl rfl (ty := .int) (by decide +kernel) rfl rfl (Nat.le_of_ble_eq_true rfl) d_Md_takeShape_101 ?_
      exact sw_vret (pc := 104) C E rfl (Nat.le_of_ble_eq_true rfl) (Nat.le_of_ble_eq_true rfl) d_Md_takeShape_104 ⟨rfl, _, _, _, _, _, _, rfl⟩
    rw [bsI_p h0] at h2
    exact absurd (nI_pos' (by omega)) h2
set_option maxRecDepth 100000 in
set_option maxHeartbeats 4000000 in
theorem c_Md_takePl (l : Launch) (g : Gl) (R : Nat → Nat) (dn pl ss pt : Nat) (th rd : Bool) (wd sc : Nat) (l0 : List Nat) (f : Nat → Int32) (hl : bytesOK l0) (fp fa : Nat → Int32) (K : Nat) (hK : (hd l0 K) + 3 + (lnA l0 K) ≤ l0.length) (h2 : (lnA l0 K) % 2 = 0) (hP : pt + (lnA l0 K) / 2 ≤ 20) : Ct l g y_Md_takePlacings b_Md_takePlacings 3 none (rmD 1) [.ref (R 0), .int (nI (hd l0 K))] ([mdC R dn pl l0.length ss pt th rd wd sc, iaC g (R 8) 1200 (dcF l0 f), iaC g (R 10) 20 fp, iaC g (R 11) 20 fa]) (fun u q => u = none ∧ ∃ fp1 fa1 : Nat → Int32, ((∀ i, i < pt → fp1 i = fp i ∧ fa1 i = fa i) ∧ ∀ i, i < (lnA l0 K) / 2 → fp1 (pt + i) = nI (l0.getD ((hd l0 K) + 3 + 2 * i) 0) ∧ fa1 (pt + i) = nI (l0.getD ((hd l0 K) + 3 + 2 * i + 1) 0)) ∧ q = [mdC R dn pl l0.length ss (pt + (lnA l0 K) / 2) th rd wd sc, iaC g (R 8) 1200 (dcF l0 f), iaC g (R 10) 20 fp1, iaC g (R 11) 20 fa1]) := by
  refine ct_of [some (.ref (R 0)), some (.int (nI (hd l0 K))), none] (by decide) (Nat.le_of_ble_eq_true rfl) rfl ?_
  intro X C E
  have h12 := hl.1
  have hKm := (hd_mono l0 (Nat.le_refl K)).2
  have key : ∀ (nn i : Nat) (a b : Nat → Int32), i + nn = (lnA l0 K) / 2 → (∀ j, j < pt → a j = fp j ∧ b j = fa j) → (∀ j, j < i → a (pt + j) = nI (l0.getD ((hd l0 K) + 3 + 2 * j) 0) ∧ b (pt + j) = nI (l0.getD (((hd l0 K) + 3 + 2 * j) + 1) 0)) → SW X g 3 0 0 ([mdC R dn pl l0.length ss (pt + i) th rd wd sc, iaC g (R 8) 1200 (dcF l0 f), iaC g (R 10) 20 a, iaC g (R 11) 20 b]) 2 [some (.ref (R 0)), some (.int (nI (hd l0 K))), some (.int (nI (2 * i)))] [] := by
    intro nn
    induction nn with
    | zero =>
      intro i a b hi hA hB
      refine sw_iload_n (pc := 2) C d_Md_takePlacings_2 rfl rfl ?_
      refine sw_aload_n (pc := 3) C d_Md_takePlacings_3 rfl rfl ?_
      refine sw_iload_n (pc := 4) C d_Md_takePlacings_4 rfl rfl ?_
      refine sw_callVR (pc := 5) C (c_Md_chLen l g R dn pl ss (pt + i) th rd wd sc l0 f hl (hd l0 K) (by omega)) sv_Md_chunkLength t_788 rfl rfl rfl [0, 1] rfl rfl rfl rfl (Nat.le_of_ble_eq_true rfl) (Nat.le_of_ble_eq_true rfl) (Nat.le_of_ble_eq_true rfl) (Nat.le_of_ble_eq_true rfl) (Nat.le_of_ble_eq_true rfl) d_Md_takePlacings_5 (fun v w1 hp => ?_)
      obtain ⟨rfl, rfl⟩ := hp
      refine ⟨rfl, ?_⟩
      refine sw_topi (z := nI (lnA l0 K)) rfl ?_
      refine sw_icmp_geN (pc := 8) C 65 (by omega) (by omega) d_Md_takePlacings_8 (by decide) (fun hx => ?_) (fun hx => ?_)
      · skip
        have ei : i = (lnA l0 K) / 2 := by omega
        subst ei
        exact sw_vret (pc := 65) C E rfl (Nat.le_of_ble_eq_true rfl) (Nat.le_of_ble_eq_true rfl) d_Md_takePlacings_65 ⟨rfl, a, b, ⟨hA, hB⟩, rfl⟩
      omega
    | succ nn ih =>
      intro i a b hi hA hB
      refine sw_iload_n (pc := 2) C d_Md_takePlacings_2 rfl rfl ?_
      refine sw_aload_n (pc := 3) C d_Md_takePlacings_3 rfl rfl ?_
      refine sw_iload_n (pc := 4) C d_Md_takePlacings_4 rfl rfl ?_
      refine sw_callVR (pc := 5) C (c_Md_chLen l g R dn pl ss (pt + i) th rd wd sc l0 f hl (hd l0 K) (by omega)) sv_Md_chunkLength t_788 rfl rfl rfl [0, 1] rfl rfl rfl rfl (Nat.le_of_ble_eq_true rfl) (Nat.le_of_ble_eq_true rfl) (Nat.le_of_ble_eq_true rfl) (Nat.le_of_ble_eq_true rfl) (Nat.le_of_ble_eq_true rfl) d_Md_takePlacings_5 (fun v w1 hp => ?_)
      obtain ⟨rfl, rfl⟩ := hp
      refine ⟨rfl, ?_⟩
      refine sw_topi (z := nI (lnA l0 K)) rfl ?_
      refine sw_icmp_geN (pc := 8) C 65 (by omega) (by omega) d_Md_takePlacings_8 (by decide) (fun hx => ?_) (fun hx => ?_)
      · skip
        omega
      refine sw_aload_n (pc := 11) C d_Md_takePlacings_11 rfl rfl ?_
      refine sw_get (pc := 12) C inMd 0 rfl rfl 14 (by decide) t_586 rfl rfl d_Md_takePlacings_12 ?_
      refine sw_aload_n (pc := 15) C d_Md_takePlacings_15 rfl rfl ?_
      refine sw_get (pc := 16) C inMd 0 rfl rfl 16 (by decide) t_588 rfl rfl d_Md_takePlacings_16 ?_
      refine sw_topi (z := nI (pt + i)) rfl ?_
      refine sw_aload_n (pc := 19) C d_Md_takePlacings_19 rfl rfl ?_
      refine sw_get (pc := 20) C inMd 0 rfl rfl 9 (by decide) t_581 rfl rfl d_Md_takePlacings_20 ?_
      refine sw_iload_n (pc := 23) C d_Md_takePlacings_23 rfl rfl ?_
      refine sw_iconst (pc := 24) C (nI 3) d_Md_takePlacings_24 (by decide) ?_
      refine sw_iadd (pc := 25) C d_Md_takePlacings_25 ?_
      refine sw_topi (z := nI ((hd l0 K) + 3)) (nI_add _ _) ?_
      refine sw_iload_n (pc := 26) C d_Md_takePlacings_26 rfl rfl ?_
      refine sw_iadd (pc := 27) C d_Md_takePlacings_27 ?_
      refine sw_topi (z := nI (((hd l0 K) + 3) + (2 * i))) (nI_add _ _) ?_
      refine sw_ialdN (pc := 28) C 1 (((hd l0 K) + 3) + (2 * i)) rfl rfl (by omega) (by decide) d_Md_takePlacings_28 ?_
      refine sw_topi (z := nI (l0.getD ((hd l0 K) + 3 + 2 * i) 0)) (dcF_get (by omega)) ?_
      refine sw_iastN (pc := 29) C 2 (pt + i) rfl rfl (by omega) (by decide) d_Md_takePlacings_29 ?_
      refine sw_aload_n (pc := 30) C d_Md_takePlacings_30 rfl rfl ?_
      refine sw_get (pc := 31) C inMd 0 rfl rfl 15 (by decide) t_587 rfl rfl d_Md_takePlacings_31 ?_
      refine sw_aload_n (pc := 34) C d_Md_takePlacings_34 rfl rfl ?_
      refine sw_get (pc := 35) C inMd 0 rfl rfl 16 (by decide) t_588 rfl rfl d_Md_takePlacings_35 ?_
      refine sw_topi (z := nI (pt + i)) rfl ?_
      refine sw_aload_n (pc := 38) C d_Md_takePlacings_38 rfl rfl ?_
      refine sw_get (pc := 39) C inMd 0 rfl rfl 9 (by decide) t_581 rfl rfl d_Md_takePlacings_39 ?_
      refine sw_iload_n (pc := 42) C d_Md_takePlacings_42 rfl rfl ?_
      refine sw_iconst (pc := 43) C (nI 4) d_Md_takePlacings_43 (by decide) ?_
      refine sw_iadd (pc := 44) C d_Md_takePlacings_44 ?_
      refine sw_topi (z := nI ((hd l0 K) + 4)) (nI_add _ _) ?_
      refine sw_iload_n (pc := 45) C d_Md_takePlacings_45 rfl rfl ?_
      refine sw_iadd (pc := 46) C d_Md_takePlacings_46 ?_
      refine sw_topi (z := nI (((hd l0 K) + 4) + (2 * i))) (nI_add _ _) ?_
      refine sw_ialdN (pc := 47) C 1 (((hd l0 K) + 4) + (2 * i)) rfl rfl (by omega) (by decide) d_Md_takePlacings_47 ?_
      refine sw_topi (z := nI (l0.getD (((hd l0 K) + 3 + 2 * i) + 1) 0)) ((congrArg (dcF l0 f) (show _ = ((hd l0 K) + 3 + 2 * i) + 1 from by omega)).trans (dcF_get (by omega))) ?_
      refine sw_iastN (pc := 48) C 3 (pt + i) rfl rfl (by omega) (by decide) d_Md_takePlacings_48 ?_
      refine sw_aload_n (pc := 49) C d_Md_takePlacings_49 rfl rfl ?_
      refine sw_dup (pc := 50) C d_Md_takePlacings_50 rfl ?_
      refine sw_get (pc := 51) C inMd 0 rfl rfl 16 (by decide) t_588 rfl rfl d_Md_takePlacings_51 ?_
      refine sw_topi (z := nI (pt + i)) rfl ?_
      refine sw_iconst (pc := 54) C (nI 1) d_Md_takePlacings_54 (by decide) ?_
      refine sw_iadd (pc := 55) C d_Md_takePlacings_55 ?_
      refine sw_topi (z := nI ((pt + i) + 1)) (nI_add _ _) ?_
      refine sw_put (pc := 56) C inMd 0 rfl rfl 16 (by decide) tyMd okMd nmMd t_588 rfl rfl (ty := .int) (by decide +kernel) rfl rfl (Nat.le_of_ble_eq_true rfl) d_Md_takePlacings_56 ?_
      refine sw_iincN (pc := 59) C 2 d_Md_takePlacings_59 rfl (by decide) (by decide) rfl ?_
      refine sw_goto (pc := 62) C 2 d_Md_takePlacings_62 (by decide) ?_
      rw [show 2 * i + 2 = 2 * (i + 1) by omega]
      refine ih (i + 1) (upd a (pt + i) (nI (l0.getD ((hd l0 K) + 3 + 2 * i) 0))) (upd b (pt + i) (nI (l0.getD (((hd l0 K) + 3 + 2 * i) + 1) 0))) (by omega) (fun j hj => ?_) (fun j hj => ?_)
      · unfold upd
        rw [if_neg (by omega), if_neg (by omega)]
        exact hA j hj
      · unfold upd
        by_cases e : j = i
        · subst e
          rw [if_pos rfl, if_pos rfl]
          exact ⟨rfl, rfl⟩
        · rw [if_neg (by omega), if_neg (by omega)]
          exact hB j (by omega)
  refine sw_iconst (pc := 0) C (nI 0) d_Md_takePlacings_0 (by decide) ?_
  refine sw_istore_n (pc := 1) C d_Md_takePlacings_1 rfl (by decide) rfl ?_
  exact key ((lnA l0 K) / 2) 0 fp fa (by omega) (fun j hj => ⟨rfl, rfl⟩) (fun j hj => absurd hj (Nat.not_lt_zero _))
