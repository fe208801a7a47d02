/-! LayeredPage: encode -/
set_option maxRecDepth 100000 in
set_option maxHeartbeats 4000000 in
theorem c_encode (l : Launch) (g : Gl) (x ob dw dr : Nat) (A B S : Nat → Nat) (hp : Bool) (a z o r r0 : Nat) (st0 sc0 wd : Int32) (f hq : Nat → Int32) (l0 : List Nat) (hl0 : l0.length ≤ 1200) (nS nP : Nat) (b w h bc ps sp : Nat → Nat) (G0 G1 : Nat → Nat → Int32) (co0 cd0 li0 co1 cd1 li1 : Nat → Int32) (cm0 cm1 : Bool) (hS : nS ≤ 8) (hP : nP ≤ 20) (H : drOK nS b w h bc) (sl : Int32) : Ct l g y_LP_encode b_LP_encode 2 (some .int) (rmD 6) [.ref x, .int sl] (lpC x ob dw dr A B S hp :: (wDw g dw a z o ob r r0 st0 sc0 wd f hq l0 ++ wPg g A nS nP (nF ps) (nF sp) (flat 8 (G0)) co0 cd0 li0 cm0 (flat 4 (G1)) co1 cd1 li1 cm1 (fun k => shV (b k) (w k) (h k) (bsI (bc k))))) (fun u q => (inR 11 sl = false ∧ u = some (.int (-1)) ∧ q = lpC x ob dw dr A B S hp :: (wDw g dw a z o ob r r0 st0 sc0 wd f hq l0 ++ wPg g A nS nP (nF ps) (nF sp) (flat 8 (G0)) co0 cd0 li0 cm0 (flat 4 (G1)) co1 cd1 li1 cm1 (fun k => shV (b k) (w k) (h k) (bsI (bc k))))) ∨ ∃ s : Nat, s ≤ 10 ∧ sl = nI s ∧ u = some (.int (nI (docB b w h bc nS ps sp nP s G0 G1).length)) ∧ ∃ (r1 : Nat) (s1 c1 d1 : Int32) (f1 h1 co2 cd2 li2 co3 cd3 li3 : Nat → Int32), q = lpC x ob dw dr A B S hp :: (wDw g dw a z o ob r r1 s1 c1 d1 f1 h1 (docB b w h bc nS ps sp nP s G0 G1) ++ wPg g A nS nP (nF ps) (nF sp) (flat 8 (G0)) co2 cd2 li2 cm0 (flat 4 (G1)) co3 cd3 li3 cm1 (fun k => shV (b k) (w k) (h k) (bsI (bc k))))) := by
  refine ct_of [some (.ref x), some (.int sl)] (by decide) (Nat.le_of_ble_eq_true rfl) rfl ?_
  intro X C E
  refine sw_iload_n (pc := 0) C d_LP_encode_0 rfl rfl ?_
  refine sw_if_lt (pc := 1) C 10 d_LP_encode_1 (by decide) (fun g1 => ?_) (fun g1 => ?_)
  · skip
    refine sw_iconst (pc := 10) C (-1) d_LP_encode_10 (by decide) ?_
    exact sw_iret (pc := 11) C E rfl (Nat.le_of_ble_eq_true rfl) (Nat.le_of_ble_eq_true rfl) d_LP_encode_11 (Or.inl ⟨inR_lo g1, rfl, rfl⟩)
  refine sw_iload_n (pc := 4) C d_LP_encode_4 rfl rfl ?_
  refine sw_bipush (pc := 5) C (nI 10) d_LP_encode_5 (by decide) ?_
  refine sw_icmp_le (pc := 7) C 12 d_LP_encode_7 (by decide) (fun g2 => ?_) (fun g2 => ?_)
  · skip
    obtain ⟨s, hs, rfl⟩ := i32_natle (n := 10) g1 (Int32.not_lt.mpr g2) (by decide)
    refine sw_aload_n (pc := 12) C d_LP_encode_12 rfl rfl ?_
    refine sw_get (pc := 13) C inLP 0 rfl rfl 1 (by decide) t_225 rfl rfl d_LP_encode_13 ?_
    refine sw_aload_n (pc := 16) C d_LP_encode_16 rfl rfl ?_
    refine sw_get (pc := 17) C inLP 0 rfl rfl 3 (by decide) t_227 rfl rfl d_LP_encode_17 ?_
    refine sw_iload_n (pc := 20) C d_LP_encode_20 rfl rfl ?_
    refine sw_aload_n (pc := 21) C d_LP_encode_21 rfl rfl ?_
    refine sw_get (pc := 22) C inLP 0 rfl rfl 0 (by decide) t_224 rfl rfl d_LP_encode_22 ?_
    refine sw_ws (ws' := [lpC x ob dw dr A B S hp] ++ (wDw g dw a z o ob r r0 st0 sc0 wd f hq l0 ++ wPg g A nS nP (nF ps) (nF sp) (flat 8 (G0)) co0 cd0 li0 cm0 (flat 4 (G1)) co1 cd1 li1 cm1 (fun k => shV (b k) (w k) (h k) (bsI (bc k))))) rfl ?_
    refine sw_callVE (pc := 25) C (c_write l g dw a z o ob r r0 st0 sc0 wd f hq l0 A nS nP b w h bc ps sp G0 G1 co0 cd0 li0 co1 cd1 li1 cm0 cm1 hl0 hS hP H s hs) sv_Dw_write t_314 rfl rfl rfl rfl rfl (Nat.le_of_ble_eq_true rfl) (Nat.le_of_ble_eq_true rfl) (Nat.le_of_ble_eq_true rfl) (Nat.le_of_ble_eq_true rfl) (Nat.le_of_ble_eq_true rfl) d_LP_encode_25 (fun v w1 hpp => ?_)
    obtain ⟨rfl, r1, s1, c1, d1, f1, h1, co2, cd2, li2, co3, cd3, li3, rfl⟩ := hpp
    refine ⟨rfl, ?_⟩
    refine sw_ws (ws' := lpC x ob dw dr A B S hp :: (wDw g dw a z o ob r r1 s1 c1 d1 f1 h1 (docB b w h bc nS ps sp nP s G0 G1) ++ wPg g A nS nP (nF ps) (nF sp) (flat 8 (G0)) co2 cd2 li2 cm0 (flat 4 (G1)) co3 cd3 li3 cm1 (fun k => shV (b k) (w k) (h k) (bsI (bc k))))) rfl ?_
    refine sw_aload_n (pc := 28) C d_LP_encode_28 rfl rfl ?_
    refine sw_get (pc := 29) C inLP 0 rfl rfl 0 (by decide) t_224 rfl rfl d_LP_encode_29 ?_
    refine sw_get (pc := 32) C inOct 2 rfl rfl 1 (by decide) t_35 rfl rfl d_LP_encode_32 ?_
    refine sw_topi (z := nI ((docB b w h bc nS ps sp nP s G0 G1).length)) rfl ?_
    exact sw_iret (pc := 35) C E rfl (Nat.le_of_ble_eq_true rfl) (Nat.le_of_ble_eq_true rfl) d_LP_encode_35 (Or.inr ⟨s, hs, rfl, rfl, r1, s1, c1, d1, f1, h1, co2, cd2, li2, co3, cd3, li3, rfl⟩)
  refine sw_iconst (pc := 10) C (-1) d_LP_encode_10 (by decide) ?_
  exact sw_iret (pc := 11) C E rfl (Nat.le_of_ble_eq_true rfl) (Nat.le_of_ble_eq_true rfl) d_LP_encode_11 (Or.inl ⟨inR_gt (n := 10) (Int32.not_le.mp g2) (by decide), rfl, rfl⟩)
