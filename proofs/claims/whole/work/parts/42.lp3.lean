set_option maxRecDepth 100000 in
set_option maxHeartbeats 4000000 in
theorem c_inked (l : Launch) (g : Gl) (x ob dw dr : Nat) (A B S : Nat → Nat) (hp : Bool) (nS nP : Nat) (b w h ps sp : Nat → Nat) (bs : Nat → Int32) (ce0 co0 cd0 li0 : Nat → Int32) (cm0 : Bool) (ce1 co1 cd1 li1 : Nat → Int32) (cm1 : Bool) (O : pgOK nS nP b w h ps sp) (a c : Int32) : Ct l g y_LP_inked b_LP_inked 3 (some .boolean) (rmD 2) [.ref x, .int a, .int c] (lpC x ob dw dr A B S hp :: wPg g B nS nP (nF ps) (nF sp) ce0 co0 cd0 li0 cm0 ce1 co1 cd1 li1 cm1 (fun k => shV (b k) (w k) (h k) (bs k))) (fun u q => u = some (.int (bI (inkV hp b w h ps sp nP a c))) ∧ q = lpC x ob dw dr A B S hp :: wPg g B nS nP (nF ps) (nF sp) ce0 co0 cd0 li0 cm0 ce1 co1 cd1 li1 cm1 (fun k => shV (b k) (w k) (h k) (bs k))) := by
  refine ct_of [some (.ref x), some (.int a), some (.int c)] (by decide) (Nat.le_of_ble_eq_true rfl) rfl ?_
  intro X C E
  refine sw_aload_n (pc := 0) C d_LP_inked_0 rfl rfl ?_
  refine sw_get (pc := 1) C inLP 0 rfl rfl 4 (by decide) t_228 rfl rfl d_LP_inked_1 ?_
  refine sw_if_eqB (pc := 4) C 31 d_LP_inked_4 (by decide) (fun g1 => ?_) (fun g1 => ?_)
  · skip
    refine sw_iconst (pc := 31) C (nI 0) d_LP_inked_31 (by decide) ?_
    refine sw_topi (z := bI (inkV hp b w h ps sp nP a c)) (by unfold inkV; rw [g1]; rfl) ?_
    exact sw_zret (pc := 32) C E rfl (bI_nar _) (Nat.le_of_ble_eq_true rfl) (Nat.le_of_ble_eq_true rfl) d_LP_inked_32 ⟨rfl, rfl⟩
  refine sw_iload_n (pc := 7) C d_LP_inked_7 rfl rfl ?_
  refine sw_iload_n (pc := 8) C d_LP_inked_8 rfl rfl ?_
  refine sw_callSR (pc := 9) C (c_onPage l g a c) ss_LP_isOnPage t_269 [] rfl rfl rfl rfl (Nat.le_of_ble_eq_true rfl) (Nat.le_of_ble_eq_true rfl) (Nat.le_of_ble_eq_true rfl) (Nat.le_of_ble_eq_true rfl) (Nat.le_of_ble_eq_true rfl) d_LP_inked_9 (fun v w1 hp => ?_)
  obtain ⟨rfl, rfl⟩ := hp
  refine ⟨rfl, ?_⟩
  refine sw_if_eqB (pc := 12) C 31 d_LP_inked_12 (by decide) (fun g2 => ?_) (fun g2 => ?_)
  · skip
    refine sw_iconst (pc := 31) C (nI 0) d_LP_inked_31 (by decide) ?_
    refine sw_topi (z := bI (inkV hp b w h ps sp nP a c)) (by unfold inkV; rw [g2, Bool.and_false]; rfl) ?_
    exact sw_zret (pc := 32) C E rfl (bI_nar _) (Nat.le_of_ble_eq_true rfl) (Nat.le_of_ble_eq_true rfl) d_LP_inked_32 ⟨rfl, rfl⟩
  obtain ⟨i, j, hi, hj, rfl, rfl⟩ := onP_no g2
  refine sw_aload_n (pc := 15) C d_LP_inked_15 rfl rfl ?_
  refine sw_get (pc := 16) C inLP 0 rfl rfl 5 (by decide) t_229 rfl rfl d_LP_inked_16 ?_
  refine sw_iload_n (pc := 19) C d_LP_inked_19 rfl rfl ?_
  refine sw_iload_n (pc := 20) C d_LP_inked_20 rfl rfl ?_
  refine sw_callVR (pc := 21) C (c_isInked l g B nS nP b w h ps sp bs i j O.2.1 O.2.2.1 (fun i hi => ⟨by have := O.2.2.2 i hi; have := O.1; omega, (O.2.2.2 i hi).2⟩) hi hj) sv_Pg_isInked t_525 rfl rfl rfl [1, 2, 3, 4, 15, 16, 17, 18, 19, 20, 21, 22] rfl rfl rfl rfl (Nat.le_of_ble_eq_true rfl) (Nat.le_of_ble_eq_true rfl) (Nat.le_of_ble_eq_true rfl) (Nat.le_of_ble_eq_true rfl) (Nat.le_of_ble_eq_true rfl) d_LP_inked_21 (fun v w1 hp => ?_)
  obtain ⟨rfl, rfl⟩ := hp
  refine ⟨rfl, ?_⟩
  refine sw_if_eqB (pc := 24) C 31 d_LP_inked_24 (by decide) (fun g3 => ?_) (fun g3 => ?_)
  · skip
    refine sw_iconst (pc := 31) C (nI 0) d_LP_inked_31 (by decide) ?_
    refine sw_topi (z := bI (inkV hp b w h ps sp nP (nI i) (nI j))) (by unfold inkV; rw [nI_clamp (by omega), nI_clamp (by omega), g3, Bool.and_false]; rfl) ?_
    exact sw_zret (pc := 32) C E rfl (bI_nar _) (Nat.le_of_ble_eq_true rfl) (Nat.le_of_ble_eq_true rfl) d_LP_inked_32 ⟨rfl, rfl⟩
  refine sw_iconst (pc := 27) C (nI 1) d_LP_inked_27 (by decide) ?_
  refine sw_goto (pc := 28) C 32 d_LP_inked_28 (by decide) ?_
  refine sw_topi (z := bI (inkV hp b w h ps sp nP (nI i) (nI j))) (by unfold inkV; rw [nI_clamp (by omega), nI_clamp (by omega), g1, g2, g3]; rfl) ?_
  exact sw_zret (pc := 32) C E rfl (bI_nar _) (Nat.le_of_ble_eq_true rfl) (Nat.le_of_ble_eq_true rfl) d_LP_inked_32 ⟨rfl, rfl⟩
set_option maxRecDepth 100000 in
set_option maxHeartbeats 4000000 in
theorem c_pixel (l : Launch) (g : Gl) (x ob dw dr : Nat) (A B S : Nat → Nat) (hp : Bool) (nS nP : Nat) (b w h ps sp : Nat → Nat) (bs : Nat → Int32) (ce0 co0 cd0 li0 : Nat → Int32) (cm0 : Bool) (ce1 co1 cd1 li1 : Nat → Int32) (cm1 : Bool) (O : pgOK nS nP b w h ps sp) (a c : Int32) : Ct l g y_LP_pixel b_LP_pixel 3 (some .int) (rmD 2) [.ref x, .int a, .int c] (lpC x ob dw dr A B S hp :: wPg g B nS nP (nF ps) (nF sp) ce0 co0 cd0 li0 cm0 ce1 co1 cd1 li1 cm1 (fun k => shV (b k) (w k) (h k) (bs k))) (fun u q => u = some (.int (pixV hp b w h ps sp nP ce0 ce1 a c)) ∧ q = lpC x ob dw dr A B S hp :: wPg g B nS nP (nF ps) (nF sp) ce0 co0 cd0 li0 cm0 ce1 co1 cd1 li1 cm1 (fun k => shV (b k) (w k) (h k) (bs k))) := by
  refine ct_of [some (.ref x), some (.int a), some (.int c)] (by decide) (Nat.le_of_ble_eq_true rfl) rfl ?_
  intro X C E
  refine sw_aload_n (pc := 0) C d_LP_pixel_0 rfl rfl ?_
  refine sw_get (pc := 1) C inLP 0 rfl rfl 4 (by decide) t_228 rfl rfl d_LP_pixel_1 ?_
  refine sw_if_eqB (pc := 4) C 15 d_LP_pixel_4 (by decide) (fun g1 => ?_) (fun g1 => ?_)
  · skip
    refine sw_iconst (pc := 15) C (-1) d_LP_pixel_15 (by decide) ?_
    exact sw_iret (pc := 16) C E rfl (Nat.le_of_ble_eq_true rfl) (Nat.le_of_ble_eq_true rfl) d_LP_pixel_16 ⟨by unfold pixV; rw [g1]; rfl, rfl⟩
  refine sw_iload_n (pc := 7) C d_LP_pixel_7 rfl rfl ?_
  refine sw_iload_n (pc := 8) C d_LP_pixel_8 rfl rfl ?_
  refine sw_callSR (pc := 9) C (c_onPage l g a c) ss_LP_isOnPage t_269 [] rfl rfl rfl rfl (Nat.le_of_ble_eq_true rfl) (Nat.le_of_ble_eq_true rfl) (Nat.le_of_ble_eq_true rfl) (Nat.le_of_ble_eq_true rfl) (Nat.le_of_ble_eq_true rfl) d_LP_pixel_9 (fun v w1 hp => ?_)
  obtain ⟨rfl, rfl⟩ := hp
  refine ⟨rfl, ?_⟩
  refine sw_if_neB (pc := 12) C 17 d_LP_pixel_12 (by decide) (fun g2 => ?_) (fun g2 => ?_)
  · skip
    obtain ⟨i, j, hi, hj, rfl, rfl⟩ := onP_no g2
    refine sw_aload_n (pc := 17) C d_LP_pixel_17 rfl rfl ?_
    refine sw_get (pc := 18) C inLP 0 rfl rfl 5 (by decide) t_229 rfl rfl d_LP_pixel_18 ?_
    refine sw_iload_n (pc := 21) C d_LP_pixel_21 rfl rfl ?_
    refine sw_iload_n (pc := 22) C d_LP_pixel_22 rfl rfl ?_
    refine sw_callVR (pc := 23) C (c_isInked l g B nS nP b w h ps sp bs i j O.2.1 O.2.2.1 (fun i hi => ⟨by have := O.2.2.2 i hi; have := O.1; omega, (O.2.2.2 i hi).2⟩) hi hj) sv_Pg_isInked t_525 rfl rfl rfl [1, 2, 3, 4, 15, 16, 17, 18, 19, 20, 21, 22] rfl rfl rfl rfl (Nat.le_of_ble_eq_true rfl) (Nat.le_of_ble_eq_true rfl) (Nat.le_of_ble_eq_true rfl) (Nat.le_of_ble_eq_true rfl) (Nat.le_of_ble_eq_true rfl) d_LP_pixel_23 (fun v w1 hp => ?_)
    obtain ⟨rfl, rfl⟩ := hp
    refine ⟨rfl, ?_⟩
    refine sw_if_eqB (pc := 26) C 46 d_LP_pixel_26 (by decide) (fun g3 => ?_) (fun g3 => ?_)
    · skip
      refine sw_aload_n (pc := 46) C d_LP_pixel_46 rfl rfl ?_
      refine sw_get (pc := 47) C inLP 0 rfl rfl 5 (by decide) t_229 rfl rfl d_LP_pixel_47 ?_
      refine sw_get (pc := 50) C inPg 1 rfl rfl 5 (by decide) t_204 rfl rfl d_LP_pixel_50 ?_
      refine sw_iload_n (pc := 53) C d_LP_pixel_53 rfl rfl ?_
      refine sw_iconst (pc := 54) C (nI 2) d_LP_pixel_54 (by decide) ?_
      refine sw_idiv (pc := 55) C d_LP_pixel_55 (by decide) ?_
      refine sw_topi (z := nI (i / 2)) (pk_div (by omega) (by omega) (by omega)) ?_
      refine sw_iload_n (pc := 56) C d_LP_pixel_56 rfl rfl ?_
      refine sw_iconst (pc := 57) C (nI 2) d_LP_pixel_57 (by decide) ?_
      refine sw_idiv (pc := 58) C d_LP_pixel_58 (by decide) ?_
      refine sw_topi (z := nI (j / 2)) (pk_div (by omega) (by omega) (by omega)) ?_
      refine sw_callVR (pc := 59) C (c_cellAt l g (fun i => B (4 + i)) 8 ce0 co0 cd0 li0 cm0 (Or.inr rfl) (nI (i / 2)) (nI (j / 2))) sv_Ly_cellAt t_529 rfl rfl rfl [5, 6, 7, 8, 9] rfl rfl rfl rfl (Nat.le_of_ble_eq_true rfl) (Nat.le_of_ble_eq_true rfl) (Nat.le_of_ble_eq_true rfl) (Nat.le_of_ble_eq_true rfl) (Nat.le_of_ble_eq_true rfl) d_LP_pixel_59 (fun v w1 hp => ?_)
      obtain ⟨rfl, rfl⟩ := hp
      refine ⟨rfl, ?_⟩
      exact sw_iret (pc := 62) C E rfl (Nat.le_of_ble_eq_true rfl) (Nat.le_of_ble_eq_true rfl) d_LP_pixel_62 ⟨by unfold pixV; rw [lyAt_in (by omega) (by omega) (by decide), nI_clamp (by omega), nI_clamp (by omega), g1, g2, g3]; rfl, rfl⟩
    refine sw_aload_n (pc := 29) C d_LP_pixel_29 rfl rfl ?_
    refine sw_get (pc := 30) C inLP 0 rfl rfl 5 (by decide) t_229 rfl rfl d_LP_pixel_30 ?_
    refine sw_get (pc := 33) C inPg 1 rfl rfl 6 (by decide) t_208 rfl rfl d_LP_pixel_33 ?_
    refine sw_iload_n (pc := 36) C d_LP_pixel_36 rfl rfl ?_
    refine sw_iconst (pc := 37) C (nI 4) d_LP_pixel_37 (by decide) ?_
    refine sw_idiv (pc := 38) C d_LP_pixel_38 (by decide) ?_
    refine sw_topi (z := nI (i / 4)) (pk_div (by omega) (by omega) (by omega)) ?_
    refine sw_iload_n (pc := 39) C d_LP_pixel_39 rfl rfl ?_
    refine sw_iconst (pc := 40) C (nI 4) d_LP_pixel_40 (by decide) ?_
    refine sw_idiv (pc := 41) C d_LP_pixel_41 (by decide) ?_
    refine sw_topi (z := nI (j / 4)) (pk_div (by omega) (by omega) (by omega)) ?_
    refine sw_callVR (pc := 42) C (c_cellAt l g (fun i => B (9 + i)) 4 ce1 co1 cd1 li1 cm1 (Or.inl rfl) (nI (i / 4)) (nI (j / 4))) sv_Ly_cellAt t_529 rfl rfl rfl [10, 11, 12, 13, 14] rfl rfl rfl rfl (Nat.le_of_ble_eq_true rfl) (Nat.le_of_ble_eq_true rfl) (Nat.le_of_ble_eq_true rfl) (Nat.le_of_ble_eq_true rfl) (Nat.le_of_ble_eq_true rfl) d_LP_pixel_42 (fun v w1 hp => ?_)
    obtain ⟨rfl, rfl⟩ := hp
    refine ⟨rfl, ?_⟩
    exact sw_iret (pc := 45) C E rfl (Nat.le_of_ble_eq_true rfl) (Nat.le_of_ble_eq_true rfl) d_LP_pixel_45 ⟨by unfold pixV; rw [lyAt_in (by omega) (by omega) (by decide), nI_clamp (by omega), nI_clamp (by omega), g1, g2, g3]; rfl, rfl⟩
  refine sw_iconst (pc := 15) C (-1) d_LP_pixel_15 (by decide) ?_
  exact sw_iret (pc := 16) C E rfl (Nat.le_of_ble_eq_true rfl) (Nat.le_of_ble_eq_true rfl) d_LP_pixel_16 ⟨by unfold pixV; rw [g2, Bool.and_false]; rfl, rfl⟩
def glyV (hp : Bool) (nS : Nat) (b : Nat → Nat) (k : Int32) : Int64 := if (hp && inR nS k) = true then lN (b k.toNatClampNeg) else 0
set_option maxRecDepth 100000 in
set_option maxHeartbeats 4000000 in
theorem c_glyph (l : Launch) (g : Gl) (x ob dw dr : Nat) (A B S : Nat → Nat) (hp : Bool) (nS nP : Nat) (b w h ps sp : Nat → Nat) (bs : Nat → Int32) (ce0 co0 cd0 li0 : Nat → Int32) (cm0 : Bool) (ce1 co1 cd1 li1 : Nat → Int32) (cm1 : Bool) (O : pgOK nS nP b w h ps sp) (k : Int32) : Ct l g y_LP_glyph b_LP_glyph 2 (some .long) (rmD 1) [.ref x, .int k] (lpC x ob dw dr A B S hp :: wPg g B nS nP (nF ps) (nF sp) ce0 co0 cd0 li0 cm0 ce1 co1 cd1 li1 cm1 (fun k => shV (b k) (w k) (h k) (bs k))) (fun u q => u = some (.long (glyV hp nS b k)) ∧ q = lpC x ob dw dr A B S hp :: wPg g B nS nP (nF ps) (nF sp) ce0 co0 cd0 li0 cm0 ce1 co1 cd1 li1 cm1 (fun k => shV (b k) (w k) (h k) (bs k))) := by
  refine ct_of [some (.ref x), some (.int k)] (by decide) (Nat.le_of_ble_eq_true rfl) rfl ?_
  intro X C E
  refine sw_aload_n (pc := 0) C d_LP_glyph_0 rfl rfl ?_
  refine sw_get (pc := 1) C inLP 0 rfl rfl 4 (by decide) t_228 rfl rfl d_LP_glyph_1 ?_
  refine sw_if_eqB (pc := 4) C 33 d_LP_glyph_4 (by decide) (fun g1 => ?_) (fun g1 => ?_)
  · skip
    refine sw_lconst (pc := 33) C 0 d_LP_glyph_33 (by decide) ?_
    exact sw_lret (pc := 34) C E rfl (Nat.le_of_ble_eq_true rfl) (Nat.le_of_ble_eq_true rfl) d_LP_glyph_34 ⟨by unfold glyV; rw [g1]; rfl, rfl⟩
  refine sw_aload_n (pc := 7) C d_LP_glyph_7 rfl rfl ?_
  refine sw_get (pc := 8) C inLP 0 rfl rfl 5 (by decide) t_229 rfl rfl d_LP_glyph_8 ?_
  refine sw_iload_n (pc := 11) C d_LP_glyph_11 rfl rfl ?_
  refine sw_callVR (pc := 12) C (c_hasShape l g B nS nP O.1 k) sv_Pg_hasShape t_250 rfl rfl rfl [1] rfl rfl rfl rfl (Nat.le_of_ble_eq_true rfl) (Nat.le_of_ble_eq_true rfl) (Nat.le_of_ble_eq_true rfl) (Nat.le_of_ble_eq_true rfl) (Nat.le_of_ble_eq_true rfl) d_LP_glyph_12 (fun v w1 hp => ?_)
  obtain ⟨rfl, rfl⟩ := hp
  refine ⟨rfl, ?_⟩
  refine sw_if_eqB (pc := 15) C 33 d_LP_glyph_15 (by decide) (fun g2 => ?_) (fun g2 => ?_)
  · skip
    refine sw_lconst (pc := 33) C 0 d_LP_glyph_33 (by decide) ?_
    exact sw_lret (pc := 34) C E rfl (Nat.le_of_ble_eq_true rfl) (Nat.le_of_ble_eq_true rfl) d_LP_glyph_34 ⟨by unfold glyV; rw [g2, Bool.and_false]; rfl, rfl⟩
  have hS := O.1
  obtain ⟨i, hi, rfl⟩ := inR_of (by omega) g2
  refine sw_aload_n (pc := 18) C d_LP_glyph_18 rfl rfl ?_
  refine sw_get (pc := 19) C inLP 0 rfl rfl 5 (by decide) t_229 rfl rfl d_LP_glyph_19 ?_
  refine sw_get (pc := 22) C inPg 1 rfl rfl 0 (by decide) t_188 rfl rfl d_LP_glyph_22 ?_
  refine sw_iload_n (pc := 25) C d_LP_glyph_25 rfl rfl ?_
  refine sw_aaldN (pc := 26) C 2 i rfl rfl (by omega) (by decide) d_LP_glyph_26 ?_
  refine sw_st (st' := .ref (B (14 + i)) :: _) rfl ?_
  refine sw_get (pc := 27) C inSh (15 + i) (pool_get (X := [lpC x ob dw dr A B S hp] ++ ([pgC B nS nP, shA g B, iaC g (B 2) 20 (nF ps), iaC g (B 3) 20 (nF sp)] ++ wLy g (fun i => B (4 + i)) 8 ce0 co0 cd0 li0 cm0 ++ wLy g (fun i => B (9 + i)) 4 ce1 co1 cd1 li1 cm1)) (A := B) (F := (fun k => shV (b k) (w k) (h k) (bs k))) (show i < 8 by omega)) rfl 0 (by decide) t_167 rfl rfl d_LP_glyph_27 ?_
  refine sw_topl (z := (lN (b i))) rfl ?_
  refine sw_goto (pc := 30) C 34 d_LP_glyph_30 (by decide) ?_
  exact sw_lret (pc := 34) C E rfl (Nat.le_of_ble_eq_true rfl) (Nat.le_of_ble_eq_true rfl) d_LP_glyph_34 ⟨by unfold glyV; rw [nI_clamp (by omega), g1, g2]; rfl, rfl⟩
