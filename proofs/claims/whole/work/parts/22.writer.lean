/-! LayeredPage$DocumentWriter -/
def chunk (kd : Nat) (p : List Nat) : List Nat := [kd, p.length / 256, p.length % 256] ++ p
theorem cls_chunk (l : List Nat) (kd : Nat) (p : List Nat) : clsL (l ++ [kd, 0, 0] ++ p) (l.length + 3) = l ++ chunk kd p := by
  have e : l ++ [kd, 0, 0] ++ p = l ++ (kd :: 0 :: 0 :: p) := by simp
  unfold clsL chunk
  rw [e]
  have e2 : (l ++ (kd :: 0 :: 0 :: p)).length - (l.length + 3) = p.length := by simp; omega
  rw [e2, show l.length + 3 - 2 = l.length + 1 by omega, show l.length + 3 - 1 = l.length + 2 by omega]
  rw [List.set_append_right _ _ (by omega), show l.length + 1 - l.length = 1 by omega]
  rw [List.set_append_right _ _ (by omega), show l.length + 2 - l.length = 2 by omega]
  rfl
theorem chunk_len (kd : Nat) (p : List Nat) : (chunk kd p).length = p.length + 3 := by
  unfold chunk
  simp
theorem cbytes_len (v sc : Nat) : (cbytes v sc).length = (16 + sc + 7) / 8 := by
  unfold cbytes
  simp
def wDw (g : Gl) (d a z o ob r r0 : Nat) (st0 sc0 wd : Int32) (f h : Nat → Int32) (l : List Nat) : va_W := [(d, .inr (3, [.ref a])), (ob, .inr (5, [.ref r, .int (nI l.length)])), (a, .inr (1, [.ref r0, .int st0, .int sc0, .ref z, .ref o, .int wd])), (z, .inl (g.2.1, 48, .inl f)), (o, .inl (g.2.1, 48, .inl h)), (r, .inl (g.2.1, 1200, .inl (rowOf l)))]
/-- behind a code: the coder's own state S, the sum's bytes in the row; count as before the code (c) -/
def wDk (g : Gl) (d a z o ob r : Nat) (l : List Nat) (c : Nat) (S : CS × Nat) : va_W := [(d, .inr (3, [.ref a])), (ob, .inr (5, [.ref r, .int (nI c)])), (a, .inr (1, [.ref r, .int (nI l.length), .int (nI S.1.2.2.2), .ref z, .ref o, .int (nI S.1.2.2.1)])), (z, .inl (g.2.1, 48, .inl (nF S.1.1))), (o, .inl (g.2.1, 48, .inl (nF S.1.2.1))), (r, .inl (g.2.1, 1200, .inl (rowW l S.2 S.1.2.2.2)))]
theorem wDk_end {g : Gl} {d a z o ob r : Nat} {l : List Nat} {S : CS × Nat} : wDk g d a z o ob r l (l.length + (16 + S.1.2.2.2 + 7) / 8) S = wDw g d a z o ob r r (nI l.length) (nI S.1.2.2.2) (nI S.1.2.2.1) (nF S.1.1) (nF S.1.2.1) (l ++ cbytes S.2 S.1.2.2.2) := by
  unfold wDk wDw
  rw [rowW_end, List.length_append, cbytes_len]
def lyBytes (n sl : Nat) (G : Nat → Nat → Int32) : List Nat := sl :: cbytes (lyP none n (flat n (liftN n G)) sl).1.2 (lyP none n (flat n (liftN n G)) sl).1.1.2.2.2
theorem lyP_sc {md : Option (Nat → Nat)} {n : Nat} {cf : Nat → Int32} (hD : ∀ D, md = some D → ∀ i, D i ≤ 1) {sl : Nat} (hs : sl ≤ 10) : (lyP md n cf sl).1.1.2.2.2 ≤ 55 * (n * n) := by
  have h := (lyP_inv (md := md) (n := n) (cf := cf) hD sl).2.2
  have h2 := cntB_le (lyP md n cf sl).2.1 (n * n)
  have h3 : sl * (n * n) ≤ 10 * (n * n) := Nat.mul_le_mul_right _ hs
  omega
set_option maxRecDepth 100000 in
set_option maxHeartbeats 4000000 in
theorem c_wrLy (l : Launch) (g : Gl) (d a z o ob r r0 : Nat) (st0 sc0 wd : Int32) (f h : Nat → Int32) (l0 : List Nat) (A : Nat → Nat) (n : Nat) (G : Nat → Nat → Int32) (co cd li : Nat → Int32) (cm : Bool) (hn : n = 4 ∨ n = 8) (kd sl : Nat) (hsl : sl ≤ 10) (hl : l0.length + 4 + (55 * (n * n) + 23) / 8 < 1200) : Ct l g y_Dw_writeLayer b_Dw_writeLayer 6 none (rmD 4) [.ref d, .int (nI kd), .ref (A 0), .int (nI sl), .ref ob] (wDw g d a z o ob r r0 st0 sc0 wd f h l0 ++ wLy g A n (flat n (G)) co cd li cm) (fun u w => u = none ∧ ∃ r1 s1 c1 d1 f1 h1, ∃ co2 cd2 li2, w = wDw g d a z o ob r r1 s1 c1 d1 f1 h1 (l0 ++ chunk kd (lyBytes n sl G)) ++ wLy g A n (flat n (G)) co2 cd2 li2 cm) := by
  refine ct_of [some (.ref d), some (.int (nI kd)), some (.ref (A 0)), some (.int (nI sl)), some (.ref ob), none] (by decide) (Nat.le_of_ble_eq_true rfl) rfl ?_
  intro X C E
  obtain ⟨hnn, hn4, hn8⟩ := nn_le hn
  refine sw_aload (pc := 0) C d_Dw_writeLayer_0 rfl ?_
  refine sw_iload_n (pc := 2) C d_Dw_writeLayer_2 rfl rfl ?_
  refine sw_callVP (pc := 3) C (c_Oct_open l g ob r l0 (by omega) kd) sv_Oct_openChunk t_337 rfl rfl rfl [1, 5] rfl rfl rfl rfl (Nat.le_of_ble_eq_true rfl) (Nat.le_of_ble_eq_true rfl) (Nat.le_of_ble_eq_true rfl) (Nat.le_of_ble_eq_true rfl) (Nat.le_of_ble_eq_true rfl) d_Dw_writeLayer_3 (fun v w1 hp => ?_)
  obtain ⟨rfl, rfl⟩ := hp
  refine ⟨rfl, ?_⟩
  refine sw_ws (ws' := wDw g d a z o ob r r0 st0 sc0 wd f h (l0 ++ [kd, 0, 0]) ++ wLy g A n (flat n (G)) co cd li cm) rfl ?_
  refine sw_istore (pc := 6) C d_Dw_writeLayer_6 (by decide) rfl ?_
  refine sw_aload (pc := 8) C d_Dw_writeLayer_8 rfl ?_
  refine sw_iload_n (pc := 10) C d_Dw_writeLayer_10 rfl rfl ?_
  refine sw_callVP (pc := 11) C (c_Oct_append l g ob r (l0 ++ [kd, 0, 0]) (by simp; omega) sl) sv_Oct_append t_322 rfl rfl rfl [1, 5] rfl rfl rfl rfl (Nat.le_of_ble_eq_true rfl) (Nat.le_of_ble_eq_true rfl) (Nat.le_of_ble_eq_true rfl) (Nat.le_of_ble_eq_true rfl) (Nat.le_of_ble_eq_true rfl) d_Dw_writeLayer_11 (fun v w1 hp => ?_)
  obtain ⟨rfl, rfl⟩ := hp
  refine ⟨rfl, ?_⟩
  refine sw_ws (ws' := wDw g d a z o ob r r0 st0 sc0 wd f h (l0 ++ [kd, 0, 0] ++ [sl]) ++ wLy g A n (flat n (G)) co cd li cm) rfl ?_
  generalize hl1 : l0 ++ [kd, 0, 0] ++ [sl] = l1
  have hl1n : l1.length = l0.length + 4 := by rw [← hl1]; simp
  refine sw_aload_n (pc := 14) C d_Dw_writeLayer_14 rfl rfl ?_
  refine sw_callVP (pc := 15) C (c_liftCells l g A n G co cd li cm hn) sv_Ly_liftCells t_420 rfl rfl rfl [6, 7, 8, 9, 10] rfl rfl rfl rfl (Nat.le_of_ble_eq_true rfl) (Nat.le_of_ble_eq_true rfl) (Nat.le_of_ble_eq_true rfl) (Nat.le_of_ble_eq_true rfl) (Nat.le_of_ble_eq_true rfl) d_Dw_writeLayer_15 (fun v w1 hp => ?_)
  obtain ⟨rfl, li1, rfl⟩ := hp
  refine ⟨rfl, ?_⟩
  refine sw_ws (ws' := wDw g d a z o ob r r0 st0 sc0 wd f h l1 ++ wLy g A n (flat n (G)) (flat n (liftN n G)) cd li1 cm) rfl ?_
  refine sw_aload_n (pc := 18) C d_Dw_writeLayer_18 rfl rfl ?_
  refine sw_get (pc := 19) C inDw 0 rfl rfl 0 (by decide) t_86 rfl rfl d_Dw_writeLayer_19 ?_
  refine sw_aload (pc := 22) C d_Dw_writeLayer_22 rfl ?_
  refine sw_get (pc := 24) C inOct 1 rfl rfl 0 (by decide) t_30 rfl rfl d_Dw_writeLayer_24 ?_
  refine sw_aload (pc := 27) C d_Dw_writeLayer_27 rfl ?_
  refine sw_get (pc := 29) C inOct 1 rfl rfl 1 (by decide) t_34 rfl rfl d_Dw_writeLayer_29 ?_
  refine sw_topi (z := nI l1.length) rfl ?_
  refine sw_callVP (pc := 32) C (c_Cw_begin l g a z o r r0 l1 wd st0 sc0 f h) sv_Cw_begin t_342 rfl rfl rfl [2, 3, 4, 5] rfl rfl rfl rfl (Nat.le_of_ble_eq_true rfl) (Nat.le_of_ble_eq_true rfl) (Nat.le_of_ble_eq_true rfl) (Nat.le_of_ble_eq_true rfl) (Nat.le_of_ble_eq_true rfl) d_Dw_writeLayer_32 (fun v w1 hp => ?_)
  obtain ⟨rfl, rfl⟩ := hp
  refine ⟨rfl, ?_⟩
  refine sw_ws (ws' := wDk g d a z o ob r l1 l1.length (kInit none) ++ wLy g A n (flat n (G)) (flat n (liftN n G)) cd li1 cm) rfl ?_
  refine sw_aload_n (pc := 35) C d_Dw_writeLayer_35 rfl rfl ?_
  refine sw_iload_n (pc := 36) C d_Dw_writeLayer_36 rfl rfl ?_
  refine sw_aload_n (pc := 37) C d_Dw_writeLayer_37 rfl rfl ?_
  refine sw_get (pc := 38) C inDw 0 rfl rfl 0 (by decide) t_86 rfl rfl d_Dw_writeLayer_38 ?_
  refine sw_callVP (pc := 41) C (c_ccf_w l g A n (flat n G) (flat n (liftN n G)) cd li1 cm hn a z o r l1 sl hsl (by omega) (by omega)) sv_Ly_codeCoefficients t_431 rfl rfl rfl [6, 7, 8, 9, 10, 2, 3, 4, 5] rfl rfl rfl rfl (Nat.le_of_ble_eq_true rfl) (Nat.le_of_ble_eq_true rfl) (Nat.le_of_ble_eq_true rfl) (Nat.le_of_ble_eq_true rfl) (Nat.le_of_ble_eq_true rfl) d_Dw_writeLayer_41 (fun v w1 hp => ?_)
  obtain ⟨rfl, rfl⟩ := hp
  refine ⟨rfl, ?_⟩
  refine sw_ws (ws' := wDk g d a z o ob r l1 l1.length (lyP none n (flat n (liftN n G)) sl).1 ++ wLy g A n (flat n (G)) (cdV (lyP none n (flat n (liftN n G)) sl).2.1 (lyP none n (flat n (liftN n G)) sl).2.2 (10 - sl)) (cdV (lyP none n (flat n (liftN n G)) sl).2.1 (lyP none n (flat n (liftN n G)) sl).2.2 (10 - sl)) li1 cm) rfl ?_
  have hsc : (lyP none n (flat n (liftN n G)) sl).1.1.2.2.2 ≤ 55 * (n * n) := lyP_sc (fun D h => by cases h) hsl
  refine sw_aload (pc := 44) C d_Dw_writeLayer_44 rfl ?_
  refine sw_aload_n (pc := 46) C d_Dw_writeLayer_46 rfl rfl ?_
  refine sw_get (pc := 47) C inDw 0 rfl rfl 0 (by decide) t_86 rfl rfl d_Dw_writeLayer_47 ?_
  refine sw_callVR (pc := 50) C (c_Cw_size l g a z o r l1 (lyP none n (flat n (liftN n G)) sl).1.1.1 (lyP none n (flat n (liftN n G)) sl).1.1.2.1 (lyP none n (flat n (liftN n G)) sl).1.1.2.2.1 (lyP none n (flat n (liftN n G)) sl).1.1.2.2.2 (lyP none n (flat n (liftN n G)) sl).1.2 (by omega)) sv_Cw_size t_397 rfl rfl rfl [2, 3, 4, 5] rfl rfl rfl rfl (Nat.le_of_ble_eq_true rfl) (Nat.le_of_ble_eq_true rfl) (Nat.le_of_ble_eq_true rfl) (Nat.le_of_ble_eq_true rfl) (Nat.le_of_ble_eq_true rfl) d_Dw_writeLayer_50 (fun v w1 hp => ?_)
  obtain ⟨rfl, rfl⟩ := hp
  refine ⟨rfl, ?_⟩
  refine sw_callVP (pc := 53) C (c_Oct_take l g ob r (rowW l1 (lyP none n (flat n (liftN n G)) sl).1.2 (lyP none n (flat n (liftN n G)) sl).1.1.2.2.2) l1.length ((16 + (lyP none n (flat n (liftN n G)) sl).1.1.2.2.2 + 7) / 8) (by omega)) sv_Oct_take t_401 rfl rfl rfl [1, 5] rfl rfl rfl rfl (Nat.le_of_ble_eq_true rfl) (Nat.le_of_ble_eq_true rfl) (Nat.le_of_ble_eq_true rfl) (Nat.le_of_ble_eq_true rfl) (Nat.le_of_ble_eq_true rfl) d_Dw_writeLayer_53 (fun v w1 hp => ?_)
  obtain ⟨rfl, rfl⟩ := hp
  refine ⟨rfl, ?_⟩
  refine sw_ws (ws' := wDk g d a z o ob r l1 (l1.length + (16 + (lyP none n (flat n (liftN n G)) sl).1.1.2.2.2 + 7) / 8) (lyP none n (flat n (liftN n G)) sl).1 ++ wLy g A n (flat n (G)) (cdV (lyP none n (flat n (liftN n G)) sl).2.1 (lyP none n (flat n (liftN n G)) sl).2.2 (10 - sl)) (cdV (lyP none n (flat n (liftN n G)) sl).2.1 (lyP none n (flat n (liftN n G)) sl).2.2 (10 - sl)) li1 cm) rfl ?_
  rw [wDk_end]
  refine sw_aload (pc := 56) C d_Dw_writeLayer_56 rfl ?_
  refine sw_iload (pc := 58) C d_Dw_writeLayer_58 rfl ?_
  have hcb := cbytes_len (lyP none n (flat n (liftN n G)) sl).1.2 (lyP none n (flat n (liftN n G)) sl).1.1.2.2.2
  have hle : l1 ++ cbytes (lyP none n (flat n (liftN n G)) sl).1.2 (lyP none n (flat n (liftN n G)) sl).1.1.2.2.2 = l0 ++ [kd, 0, 0] ++ lyBytes n sl G := by rw [← hl1]; unfold lyBytes; simp
  have hln : (l1 ++ cbytes (lyP none n (flat n (liftN n G)) sl).1.2 (lyP none n (flat n (liftN n G)) sl).1.1.2.2.2).length = l0.length + 4 + (16 + (lyP none n (flat n (liftN n G)) sl).1.1.2.2.2 + 7) / 8 := by rw [List.length_append, hcb, hl1n]
  refine sw_callVP (pc := 60) C (c_Oct_close l g ob r (l1 ++ cbytes (lyP none n (flat n (liftN n G)) sl).1.2 (lyP none n (flat n (liftN n G)) sl).1.1.2.2.2) (by omega) (l0.length + 3) (by omega) (by omega)) sv_Oct_closeChunk t_408 rfl rfl rfl [1, 5] rfl rfl rfl rfl (Nat.le_of_ble_eq_true rfl) (Nat.le_of_ble_eq_true rfl) (Nat.le_of_ble_eq_true rfl) (Nat.le_of_ble_eq_true rfl) (Nat.le_of_ble_eq_true rfl) d_Dw_writeLayer_60 (fun v w1 hp => ?_)
  obtain ⟨rfl, rfl⟩ := hp
  refine ⟨rfl, ?_⟩
  rw [hle, cls_chunk]
  exact sw_vret (pc := 63) C E rfl (Nat.le_of_ble_eq_true rfl) (Nat.le_of_ble_eq_true rfl) d_Dw_writeLayer_63 ⟨rfl, _, _, _, _, _, _, _, _, _, rfl⟩
def plBytes (ps sp : Nat → Nat) : Nat → List Nat
  | 0 => []
  | m + 1 => plBytes ps sp m ++ [ps m, sp m]
theorem plBytes_len (ps sp : Nat → Nat) : ∀ m, (plBytes ps sp m).length = 2 * m
  | 0 => rfl
  | m + 1 => by
    unfold plBytes
    rw [List.length_append, plBytes_len ps sp m]
    simp
    omega
set_option maxRecDepth 100000 in
set_option maxHeartbeats 4000000 in
theorem c_wrPl (l : Launch) (g : Gl) (d a z o ob r r0 : Nat) (st0 sc0 wd : Int32) (f h : Nat → Int32) (l0 : List Nat) (A : Nat → Nat) (nS nP : Nat) (ps sp : Nat → Nat) (hP : nP ≤ 20) (hl : l0.length + 3 + 40 < 1200) : Ct l g y_Dw_writePlacings b_Dw_writePlacings 5 none (rmD 4) [.ref d, .ref (A 0), .ref ob] (wDw g d a z o ob r r0 st0 sc0 wd f h l0 ++ [pgC A nS nP, iaC g (A 2) 20 (nF ps), iaC g (A 3) 20 (nF sp)]) (fun u w => u = none ∧ w = wDw g d a z o ob r r0 st0 sc0 wd f h (l0 ++ chunk 2 (plBytes ps sp nP)) ++ [pgC A nS nP, iaC g (A 2) 20 (nF ps), iaC g (A 3) 20 (nF sp)]) := by
  refine ct_of [some (.ref d), some (.ref (A 0)), some (.ref ob), none, none] (by decide) (Nat.le_of_ble_eq_true rfl) rfl ?_
  intro X C E
  refine sw_aload_n (pc := 0) C d_Dw_writePlacings_0 rfl rfl ?_
  refine sw_iconst (pc := 1) C (nI 2) d_Dw_writePlacings_1 (by decide) ?_
  refine sw_callVP (pc := 2) C (c_Oct_open l g ob r l0 (by omega) 2) sv_Oct_openChunk t_337 rfl rfl rfl [1, 5] rfl rfl rfl rfl (Nat.le_of_ble_eq_true rfl) (Nat.le_of_ble_eq_true rfl) (Nat.le_of_ble_eq_true rfl) (Nat.le_of_ble_eq_true rfl) (Nat.le_of_ble_eq_true rfl) d_Dw_writePlacings_2 (fun v w1 hp => ?_)
  obtain ⟨rfl, rfl⟩ := hp
  refine ⟨rfl, ?_⟩
  refine sw_ws (ws' := wDw g d a z o ob r r0 st0 sc0 wd f h (l0 ++ [2, 0, 0]) ++ [pgC A nS nP, iaC g (A 2) 20 (nF ps), iaC g (A 3) 20 (nF sp)]) rfl ?_
  refine sw_istore_n (pc := 5) C d_Dw_writePlacings_5 rfl (by decide) rfl ?_
  refine sw_iconst (pc := 6) C (nI 0) d_Dw_writePlacings_6 (by decide) ?_
  refine sw_istore (pc := 7) C d_Dw_writePlacings_7 (by decide) rfl ?_
  have key : ∀ (e i : Nat), i + e = nP → SW X g 5 0 0 (wDw g d a z o ob r r0 st0 sc0 wd f h (l0 ++ [2, 0, 0] ++ plBytes ps sp i) ++ [pgC A nS nP, iaC g (A 2) 20 (nF ps), iaC g (A 3) 20 (nF sp)]) 9 [some (.ref d), some (.ref (A 0)), some (.ref ob), some (.int (nI (l0.length + 3))), some (.int (nI i))] [] := by
    intro e
    induction e with
    | zero =>
      intro i hi
      refine sw_iload (pc := 9) C d_Dw_writePlacings_9 rfl ?_
      refine sw_aload_n (pc := 11) C d_Dw_writePlacings_11 rfl rfl ?_
      refine sw_get (pc := 12) C inPg 6 rfl rfl 4 (by decide) t_198 rfl rfl d_Dw_writePlacings_12 ?_
      refine sw_topi (z := nI nP) rfl ?_
      refine sw_icmp_geN (pc := 15) C 46 (by omega) (by omega) d_Dw_writePlacings_15 (by decide) (fun g1 => ?_) (fun g1 => ?_)
      · skip
        have ei : i = nP := by omega
        subst ei
        have hpl := plBytes_len ps sp i
        have hle : (l0 ++ [2, 0, 0] ++ plBytes ps sp i).length = l0.length + 3 + 2 * i := by rw [List.length_append, List.length_append, hpl]; rfl
        refine sw_aload_n (pc := 46) C d_Dw_writePlacings_46 rfl rfl ?_
        refine sw_iload_n (pc := 47) C d_Dw_writePlacings_47 rfl rfl ?_
        refine sw_callVP (pc := 48) C (c_Oct_close l g ob r (l0 ++ [2, 0, 0] ++ plBytes ps sp i) (by omega) (l0.length + 3) (by omega) (by omega)) sv_Oct_closeChunk t_408 rfl rfl rfl [1, 5] rfl rfl rfl rfl (Nat.le_of_ble_eq_true rfl) (Nat.le_of_ble_eq_true rfl) (Nat.le_of_ble_eq_true rfl) (Nat.le_of_ble_eq_true rfl) (Nat.le_of_ble_eq_true rfl) d_Dw_writePlacings_48 (fun v w1 hp => ?_)
        obtain ⟨rfl, rfl⟩ := hp
        refine ⟨rfl, ?_⟩
        rw [cls_chunk]
        exact sw_vret (pc := 51) C E rfl (Nat.le_of_ble_eq_true rfl) (Nat.le_of_ble_eq_true rfl) d_Dw_writePlacings_51 ⟨rfl, rfl⟩
      omega
    | succ e ih =>
      intro i hi
      refine sw_iload (pc := 9) C d_Dw_writePlacings_9 rfl ?_
      refine sw_aload_n (pc := 11) C d_Dw_writePlacings_11 rfl rfl ?_
      refine sw_get (pc := 12) C inPg 6 rfl rfl 4 (by decide) t_198 rfl rfl d_Dw_writePlacings_12 ?_
      refine sw_topi (z := nI nP) rfl ?_
      refine sw_icmp_geN (pc := 15) C 46 (by omega) (by omega) d_Dw_writePlacings_15 (by decide) (fun g1 => ?_) (fun g1 => ?_)
      · skip
        omega
      have hpl := plBytes_len ps sp i
      have hle : (l0 ++ [2, 0, 0] ++ plBytes ps sp i).length = l0.length + 3 + 2 * i := by rw [List.length_append, List.length_append, hpl]; rfl
      refine sw_aload_n (pc := 18) C d_Dw_writePlacings_18 rfl rfl ?_
      refine sw_aload_n (pc := 19) C d_Dw_writePlacings_19 rfl rfl ?_
      refine sw_get (pc := 20) C inPg 6 rfl rfl 2 (by decide) t_194 rfl rfl d_Dw_writePlacings_20 ?_
      refine sw_iload (pc := 23) C d_Dw_writePlacings_23 rfl ?_
      refine sw_ialdN (pc := 25) C 7 i rfl rfl (by omega) (by decide) d_Dw_writePlacings_25 ?_
      refine sw_topi (z := nI (ps i)) rfl ?_
      refine sw_callVP (pc := 26) C (c_Oct_append l g ob r (l0 ++ [2, 0, 0] ++ plBytes ps sp i) (by omega) (ps i)) sv_Oct_append t_322 rfl rfl rfl [1, 5] rfl rfl rfl rfl (Nat.le_of_ble_eq_true rfl) (Nat.le_of_ble_eq_true rfl) (Nat.le_of_ble_eq_true rfl) (Nat.le_of_ble_eq_true rfl) (Nat.le_of_ble_eq_true rfl) d_Dw_writePlacings_26 (fun v w1 hp => ?_)
      obtain ⟨rfl, rfl⟩ := hp
      refine ⟨rfl, ?_⟩
      refine sw_ws (ws' := wDw g d a z o ob r r0 st0 sc0 wd f h (l0 ++ [2, 0, 0] ++ plBytes ps sp i ++ [ps i]) ++ [pgC A nS nP, iaC g (A 2) 20 (nF ps), iaC g (A 3) 20 (nF sp)]) rfl ?_
      refine sw_aload_n (pc := 29) C d_Dw_writePlacings_29 rfl rfl ?_
      refine sw_aload_n (pc := 30) C d_Dw_writePlacings_30 rfl rfl ?_
      refine sw_get (pc := 31) C inPg 6 rfl rfl 3 (by decide) t_196 rfl rfl d_Dw_writePlacings_31 ?_
      refine sw_iload (pc := 34) C d_Dw_writePlacings_34 rfl ?_
      refine sw_ialdN (pc := 36) C 8 i rfl rfl (by omega) (by decide) d_Dw_writePlacings_36 ?_
      refine sw_topi (z := nI (sp i)) rfl ?_
      refine sw_callVP (pc := 37) C (c_Oct_append l g ob r (l0 ++ [2, 0, 0] ++ plBytes ps sp i ++ [ps i]) (by rw [List.length_append, hle]; simp; omega) (sp i)) sv_Oct_append t_322 rfl rfl rfl [1, 5] rfl rfl rfl rfl (Nat.le_of_ble_eq_true rfl) (Nat.le_of_ble_eq_true rfl) (Nat.le_of_ble_eq_true rfl) (Nat.le_of_ble_eq_true rfl) (Nat.le_of_ble_eq_true rfl) d_Dw_writePlacings_37 (fun v w1 hp => ?_)
      obtain ⟨rfl, rfl⟩ := hp
      refine ⟨rfl, ?_⟩
      refine sw_ws (ws' := wDw g d a z o ob r r0 st0 sc0 wd f h (l0 ++ [2, 0, 0] ++ plBytes ps sp i ++ [ps i] ++ [sp i]) ++ [pgC A nS nP, iaC g (A 2) 20 (nF ps), iaC g (A 3) 20 (nF sp)]) rfl ?_
      have e1 : l0 ++ [2, 0, 0] ++ plBytes ps sp i ++ [ps i] ++ [sp i] = l0 ++ [2, 0, 0] ++ plBytes ps sp (i + 1) := by show _ = l0 ++ [2, 0, 0] ++ (plBytes ps sp i ++ [ps i, sp i]); simp
      rw [e1]
      refine sw_iincN (pc := 40) C 1 d_Dw_writePlacings_40 rfl (by decide) (by decide) rfl ?_
      refine sw_goto (pc := 43) C 9 d_Dw_writePlacings_43 (by decide) ?_
      exact ih (i + 1) (by omega)
  have k0 := key nP 0 (by omega)
  rw [show l0 ++ [2, 0, 0] ++ plBytes ps sp 0 = l0 ++ [2, 0, 0] by unfold plBytes; simp] at k0
  exact k0
theorem sh_sc {md : Option (Nat → Nat)} {hb : Bool} {p giv : Int → Int → Nat} {w h : Nat} (hD : ∀ D, md = some D → ∀ i, D i ≤ 1) (hp : ∀ x y, p x y ≤ 1) (hw : w ≤ 8) (hh : h ≤ 8) : (shY md hb p giv w h).1.1.2.2.2 ≤ 320 := by
  have h1 := (shY_inv (md := md) (hb := hb) (p := p) (giv := giv) hD hp hw h hh).2.2.1
  have h2 : w * h ≤ 8 * 8 := Nat.mul_le_mul hw hh
  omega
def shBy (bc : Nat) (w h : Nat) (S : CS × Nat) : List Nat := [bc, 16 * (w - 1) + h - 1] ++ cbytes S.2 S.1.2.2.2
set_option maxRecDepth 100000 in
set_option maxHeartbeats 4000000 in
theorem c_wrShA (l : Launch) (g : Gl) (d a z o ob r r0 : Nat) (st0 sc0 wd : Int32) (f hq : Nat → Int32) (l0 : List Nat) (A : Nat → Nat) (nS nP k w h b0 : Nat) (hb0 : b0 < 2 ^ 64) (hS : nS ≤ 8) (hk : k < 8) (hw : 1 ≤ w ∧ w ≤ 8) (hh : 1 ≤ h ∧ h ≤ 8)  (hl : l0.length + 48 < 1200) : Ct l g y_Dw_writeShape b_Dw_writeShape 6 none (rmD 4) [.ref d, .ref (A 0), .int (nI k), .ref ob] (wDw g d a z o ob r r0 st0 sc0 wd f hq l0 ++ [pgC A nS nP, shA g A, shC (A (14 + k)) b0 w h (-1)]) (fun u q => u = none ∧ ∃ r1 s1 c1 d1 f1 h1, q = wDw g d a z o ob r r1 s1 c1 d1 f1 h1 (l0 ++ chunk 1 (shBy 0 w h (shY none false (fun _ _ => 0) (sb b0 w h) w h).1)) ++ [pgC A nS nP, shA g A, shC (A (14 + k)) b0 w h (-1)]) := by
  refine ct_of [some (.ref d), some (.ref (A 0)), some (.int (nI k)), some (.ref ob), none, none] (by decide) (Nat.le_of_ble_eq_true rfl) rfl ?_
  intro X C E
  refine sw_aload_n (pc := 0) C d_Dw_writeShape_0 rfl rfl ?_
  refine sw_get (pc := 1) C inPg 6 rfl rfl 0 (by decide) t_187 rfl rfl d_Dw_writeShape_1 ?_
  refine sw_iload_n (pc := 4) C d_Dw_writeShape_4 rfl rfl ?_
  refine sw_aaldN (pc := 5) C 7 k rfl rfl (by omega) (by decide) d_Dw_writeShape_5 ?_
  refine sw_st (st' := .ref (A (14 + k)) :: _) rfl ?_
  refine sw_astore (pc := 6) C d_Dw_writeShape_6 (by decide) rfl ?_
  refine sw_aload_n (pc := 8) C d_Dw_writeShape_8 rfl rfl ?_
  refine sw_iconst (pc := 9) C (nI 1) d_Dw_writeShape_9 (by decide) ?_
  refine sw_callVP (pc := 10) C (c_Oct_open l g ob r l0 (by omega) 1) sv_Oct_openChunk t_337 rfl rfl rfl [1, 5] rfl rfl rfl rfl (Nat.le_of_ble_eq_true rfl) (Nat.le_of_ble_eq_true rfl) (Nat.le_of_ble_eq_true rfl) (Nat.le_of_ble_eq_true rfl) (Nat.le_of_ble_eq_true rfl) d_Dw_writeShape_10 (fun v w1 hp => ?_)
  obtain ⟨rfl, rfl⟩ := hp
  refine ⟨rfl, ?_⟩
  refine sw_ws (ws' := wDw g d a z o ob r r0 st0 sc0 wd f hq (l0 ++ [1, 0, 0]) ++ [pgC A nS nP, shA g A, shC (A (14 + k)) b0 w h (-1)]) rfl ?_
  refine sw_istore (pc := 13) C d_Dw_writeShape_13 (by decide) rfl ?_
  refine sw_aload_n (pc := 15) C d_Dw_writeShape_15 rfl rfl ?_
  refine sw_aload (pc := 16) C d_Dw_writeShape_16 rfl ?_
  refine sw_get (pc := 18) C inSh 8 rfl rfl 3 (by decide) t_175 rfl rfl d_Dw_writeShape_18 ?_
  refine sw_iconst (pc := 21) C (-1) d_Dw_writeShape_21 (by decide) ?_
  refine sw_icmp_ne (pc := 22) C 29 d_Dw_writeShape_22 (by decide) (fun g1 => ?_) (fun g1 => ?_)
  · skip
    exact absurd rfl g1
  refine sw_iconst (pc := 25) C (nI 0) d_Dw_writeShape_25 (by decide) ?_
  refine sw_goto (pc := 26) C 36 d_Dw_writeShape_26 (by decide) ?_
  refine sw_callVP (pc := 36) C (c_Oct_append l g ob r (l0 ++ [1, 0, 0]) (by simp; omega) 0) sv_Oct_append t_322 rfl rfl rfl [1, 5] rfl rfl rfl rfl (Nat.le_of_ble_eq_true rfl) (Nat.le_of_ble_eq_true rfl) (Nat.le_of_ble_eq_true rfl) (Nat.le_of_ble_eq_true rfl) (Nat.le_of_ble_eq_true rfl) d_Dw_writeShape_36 (fun v w1 hp => ?_)
  obtain ⟨rfl, rfl⟩ := hp
  refine ⟨rfl, ?_⟩
  refine sw_ws (ws' := wDw g d a z o ob r r0 st0 sc0 wd f hq (l0 ++ [1, 0, 0] ++ [0]) ++ [pgC A nS nP, shA g A, shC (A (14 + k)) b0 w h (-1)]) rfl ?_
  refine sw_aload_n (pc := 39) C d_Dw_writeShape_39 rfl rfl ?_
  refine sw_bipush (pc := 40) C (nI 16) d_Dw_writeShape_40 (by decide) ?_
  refine sw_aload (pc := 42) C d_Dw_writeShape_42 rfl ?_
  refine sw_get (pc := 44) C inSh 8 rfl rfl 1 (by decide) t_169 rfl rfl d_Dw_writeShape_44 ?_
  refine sw_topi (z := nI w) rfl ?_
  refine sw_iconst (pc := 47) C (nI 1) d_Dw_writeShape_47 (by decide) ?_
  refine sw_isub (pc := 48) C d_Dw_writeShape_48 ?_
  refine sw_topi (z := nI (w - 1)) (pk_sub (by omega)) ?_
  refine sw_imul (pc := 49) C d_Dw_writeShape_49 ?_
  refine sw_topi (z := nI (16 * (w - 1))) (pk_mul _ _) ?_
  refine sw_aload (pc := 50) C d_Dw_writeShape_50 rfl ?_
  refine sw_get (pc := 52) C inSh 8 rfl rfl 2 (by decide) t_172 rfl rfl d_Dw_writeShape_52 ?_
  refine sw_topi (z := nI h) rfl ?_
  refine sw_iadd (pc := 55) C d_Dw_writeShape_55 ?_
  refine sw_topi (z := nI ((16 * (w - 1)) + h)) (nI_add _ _) ?_
  refine sw_iconst (pc := 56) C (nI 1) d_Dw_writeShape_56 (by decide) ?_
  refine sw_isub (pc := 57) C d_Dw_writeShape_57 ?_
  refine sw_topi (z := nI (((16 * (w - 1)) + h) - 1)) (pk_sub (by omega)) ?_
  refine sw_callVP (pc := 58) C (c_Oct_append l g ob r (l0 ++ [1, 0, 0] ++ [0]) (by simp; omega) (16 * (w - 1) + h - 1)) sv_Oct_append t_322 rfl rfl rfl [1, 5] rfl rfl rfl rfl (Nat.le_of_ble_eq_true rfl) (Nat.le_of_ble_eq_true rfl) (Nat.le_of_ble_eq_true rfl) (Nat.le_of_ble_eq_true rfl) (Nat.le_of_ble_eq_true rfl) d_Dw_writeShape_58 (fun v w1 hp => ?_)
  obtain ⟨rfl, rfl⟩ := hp
  refine ⟨rfl, ?_⟩
  refine sw_ws (ws' := wDw g d a z o ob r r0 st0 sc0 wd f hq (l0 ++ [1, 0, 0] ++ [0] ++ [16 * (w - 1) + h - 1]) ++ [pgC A nS nP, shA g A, shC (A (14 + k)) b0 w h (-1)]) rfl ?_
  generalize hl1 : l0 ++ [1, 0, 0] ++ [0] ++ [16 * (w - 1) + h - 1] = l1
  have hl1n : l1.length = l0.length + 5 := by rw [← hl1]; simp
  refine sw_aload_n (pc := 61) C d_Dw_writeShape_61 rfl rfl ?_
  refine sw_get (pc := 62) C inDw 0 rfl rfl 0 (by decide) t_86 rfl rfl d_Dw_writeShape_62 ?_
  refine sw_aload_n (pc := 65) C d_Dw_writeShape_65 rfl rfl ?_
  refine sw_get (pc := 66) C inOct 1 rfl rfl 0 (by decide) t_30 rfl rfl d_Dw_writeShape_66 ?_
  refine sw_aload_n (pc := 69) C d_Dw_writeShape_69 rfl rfl ?_
  refine sw_get (pc := 70) C inOct 1 rfl rfl 1 (by decide) t_34 rfl rfl d_Dw_writeShape_70 ?_
  refine sw_topi (z := nI l1.length) rfl ?_
  refine sw_callVP (pc := 73) C (c_Cw_begin l g a z o r r0 l1 wd st0 sc0 f hq) sv_Cw_begin t_342 rfl rfl rfl [2, 3, 4, 5] rfl rfl rfl rfl (Nat.le_of_ble_eq_true rfl) (Nat.le_of_ble_eq_true rfl) (Nat.le_of_ble_eq_true rfl) (Nat.le_of_ble_eq_true rfl) (Nat.le_of_ble_eq_true rfl) d_Dw_writeShape_73 (fun v w1 hp => ?_)
  obtain ⟨rfl, rfl⟩ := hp
  refine ⟨rfl, ?_⟩
  refine sw_ws (ws' := wDk g d a z o ob r l1 l1.length (kInit none) ++ [pgC A nS nP, shA g A, shC (A (14 + k)) b0 w h (-1)]) rfl ?_
  refine sw_aload_n (pc := 76) C d_Dw_writeShape_76 rfl rfl ?_
  refine sw_iload_n (pc := 77) C d_Dw_writeShape_77 rfl rfl ?_
  refine sw_aload_n (pc := 78) C d_Dw_writeShape_78 rfl rfl ?_
  refine sw_get (pc := 79) C inDw 0 rfl rfl 0 (by decide) t_86 rfl rfl d_Dw_writeShape_79 ?_
  refine sw_callVP (pc := 82) C (c_csh_wA l g A nS nP k w h b0 hb0 hS hk hw.2 hh.2 (-1) (inR_lo (by decide)) a z o r l1 (by omega) (by omega)) sv_Pg_codeShape t_350 rfl rfl rfl [6, 7, 2, 3, 4, 5, 8] rfl rfl rfl rfl (Nat.le_of_ble_eq_true rfl) (Nat.le_of_ble_eq_true rfl) (Nat.le_of_ble_eq_true rfl) (Nat.le_of_ble_eq_true rfl) (Nat.le_of_ble_eq_true rfl) d_Dw_writeShape_82 (fun v w1 hp => ?_)
  obtain ⟨rfl, rfl⟩ := hp
  refine ⟨rfl, ?_⟩
  refine sw_ws (ws' := wDk g d a z o ob r l1 l1.length (shY none false (fun _ _ => 0) (sb b0 w h) w h).1 ++ [pgC A nS nP, shA g A, shC (A (14 + k)) b0 w h (-1)]) rfl ?_
  have hsc : (shY none false (fun _ _ => 0) (sb b0 w h) w h).1.1.2.2.2 ≤ 320 := sh_sc (fun D h => by cases h) (fun _ _ => Nat.zero_le _) hw.2 hh.2
  refine sw_aload_n (pc := 85) C d_Dw_writeShape_85 rfl rfl ?_
  refine sw_aload_n (pc := 86) C d_Dw_writeShape_86 rfl rfl ?_
  refine sw_get (pc := 87) C inDw 0 rfl rfl 0 (by decide) t_86 rfl rfl d_Dw_writeShape_87 ?_
  refine sw_callVR (pc := 90) C (c_Cw_size l g a z o r l1 (shY none false (fun _ _ => 0) (sb b0 w h) w h).1.1.1 (shY none false (fun _ _ => 0) (sb b0 w h) w h).1.1.2.1 (shY none false (fun _ _ => 0) (sb b0 w h) w h).1.1.2.2.1 (shY none false (fun _ _ => 0) (sb b0 w h) w h).1.1.2.2.2 (shY none false (fun _ _ => 0) (sb b0 w h) w h).1.2 (by omega)) sv_Cw_size t_397 rfl rfl rfl [2, 3, 4, 5] rfl rfl rfl rfl (Nat.le_of_ble_eq_true rfl) (Nat.le_of_ble_eq_true rfl) (Nat.le_of_ble_eq_true rfl) (Nat.le_of_ble_eq_true rfl) (Nat.le_of_ble_eq_true rfl) d_Dw_writeShape_90 (fun v w1 hp => ?_)
  obtain ⟨rfl, rfl⟩ := hp
  refine ⟨rfl, ?_⟩
  refine sw_callVP (pc := 93) C (c_Oct_take l g ob r (rowW l1 (shY none false (fun _ _ => 0) (sb b0 w h) w h).1.2 (shY none false (fun _ _ => 0) (sb b0 w h) w h).1.1.2.2.2) l1.length ((16 + (shY none false (fun _ _ => 0) (sb b0 w h) w h).1.1.2.2.2 + 7) / 8) (by omega)) sv_Oct_take t_401 rfl rfl rfl [1, 5] rfl rfl rfl rfl (Nat.le_of_ble_eq_true rfl) (Nat.le_of_ble_eq_true rfl) (Nat.le_of_ble_eq_true rfl) (Nat.le_of_ble_eq_true rfl) (Nat.le_of_ble_eq_true rfl) d_Dw_writeShape_93 (fun v w1 hp => ?_)
  obtain ⟨rfl, rfl⟩ := hp
  refine ⟨rfl, ?_⟩
  refine sw_ws (ws' := wDk g d a z o ob r l1 (l1.length + (16 + (shY none false (fun _ _ => 0) (sb b0 w h) w h).1.1.2.2.2 + 7) / 8) (shY none false (fun _ _ => 0) (sb b0 w h) w h).1 ++ [pgC A nS nP, shA g A, shC (A (14 + k)) b0 w h (-1)]) rfl ?_
  rw [wDk_end]
  refine sw_aload_n (pc := 96) C d_Dw_writeShape_96 rfl rfl ?_
  refine sw_iload (pc := 97) C d_Dw_writeShape_97 rfl ?_
  have hcb := cbytes_len (shY none false (fun _ _ => 0) (sb b0 w h) w h).1.2 (shY none false (fun _ _ => 0) (sb b0 w h) w h).1.1.2.2.2
  have hle : l1 ++ cbytes (shY none false (fun _ _ => 0) (sb b0 w h) w h).1.2 (shY none false (fun _ _ => 0) (sb b0 w h) w h).1.1.2.2.2 = l0 ++ [1, 0, 0] ++ (shBy 0 w h (shY none false (fun _ _ => 0) (sb b0 w h) w h).1) := by rw [← hl1]; unfold shBy; simp
  have hln : (l1 ++ cbytes (shY none false (fun _ _ => 0) (sb b0 w h) w h).1.2 (shY none false (fun _ _ => 0) (sb b0 w h) w h).1.1.2.2.2).length = l0.length + 5 + (16 + (shY none false (fun _ _ => 0) (sb b0 w h) w h).1.1.2.2.2 + 7) / 8 := by rw [List.length_append, hcb, hl1n]
  refine sw_callVP (pc := 99) C (c_Oct_close l g ob r (l1 ++ cbytes (shY none false (fun _ _ => 0) (sb b0 w h) w h).1.2 (shY none false (fun _ _ => 0) (sb b0 w h) w h).1.1.2.2.2) (by omega) (l0.length + 3) (by omega) (by omega)) sv_Oct_closeChunk t_408 rfl rfl rfl [1, 5] rfl rfl rfl rfl (Nat.le_of_ble_eq_true rfl) (Nat.le_of_ble_eq_true rfl) (Nat.le_of_ble_eq_true rfl) (Nat.le_of_ble_eq_true rfl) (Nat.le_of_ble_eq_true rfl) d_Dw_writeShape_99 (fun v w1 hp => ?_)
  obtain ⟨rfl, rfl⟩ := hp
  refine ⟨rfl, ?_⟩
  rw [hle, cls_chunk]
  exact sw_vret (pc := 102) C E rfl (Nat.le_of_ble_eq_true rfl) (Nat.le_of_ble_eq_true rfl) d_Dw_writeShape_102 ⟨rfl, _, _, _, _, _, _, rfl⟩
set_option maxRecDepth 100000 in
set_option maxHeartbeats 4000000 in
theorem c_wrShB (l : Launch) (g : Gl) (d a z o ob r r0 : Nat) (st0 sc0 wd : Int32) (f hq : Nat → Int32) (l0 : List Nat) (A : Nat → Nat) (nS nP k w h b0 : Nat) (hb0 : b0 < 2 ^ 64) (hS : nS ≤ 8) (hk : k < 8) (hw : 1 ≤ w ∧ w ≤ 8) (hh : 1 ≤ h ∧ h ≤ 8) (kb n2 w2 h2 : Nat) (bs2 : Int32) (hkb : kb < nS) (hkk : kb < k) (hn2 : n2 < 2 ^ 64) (hw2 : w2 ≤ 8) (hh2 : h2 ≤ 8) (hl : l0.length + 48 < 1200) : Ct l g y_Dw_writeShape b_Dw_writeShape 6 none (rmD 4) [.ref d, .ref (A 0), .int (nI k), .ref ob] (wDw g d a z o ob r r0 st0 sc0 wd f hq l0 ++ [pgC A nS nP, shA g A, shC (A (14 + k)) b0 w h (nI kb), shC (A (14 + kb)) n2 w2 h2 bs2]) (fun u q => u = none ∧ ∃ r1 s1 c1 d1 f1 h1, q = wDw g d a z o ob r r1 s1 c1 d1 f1 h1 (l0 ++ chunk 1 (shBy (kb + 1) w h (shY none true (sb n2 w2 h2) (sb b0 w h) w h).1)) ++ [pgC A nS nP, shA g A, shC (A (14 + k)) b0 w h (nI kb), shC (A (14 + kb)) n2 w2 h2 bs2]) := by
  refine ct_of [some (.ref d), some (.ref (A 0)), some (.int (nI k)), some (.ref ob), none, none] (by decide) (Nat.le_of_ble_eq_true rfl) rfl ?_
  intro X C E
  refine sw_aload_n (pc := 0) C d_Dw_writeShape_0 rfl rfl ?_
  refine sw_get (pc := 1) C inPg 6 rfl rfl 0 (by decide) t_187 rfl rfl d_Dw_writeShape_1 ?_
  refine sw_iload_n (pc := 4) C d_Dw_writeShape_4 rfl rfl ?_
  refine sw_aaldN (pc := 5) C 7 k rfl rfl (by omega) (by decide) d_Dw_writeShape_5 ?_
  refine sw_st (st' := .ref (A (14 + k)) :: _) rfl ?_
  refine sw_astore (pc := 6) C d_Dw_writeShape_6 (by decide) rfl ?_
  refine sw_aload_n (pc := 8) C d_Dw_writeShape_8 rfl rfl ?_
  refine sw_iconst (pc := 9) C (nI 1) d_Dw_writeShape_9 (by decide) ?_
  refine sw_callVP (pc := 10) C (c_Oct_open l g ob r l0 (by omega) 1) sv_Oct_openChunk t_337 rfl rfl rfl [1, 5] rfl rfl rfl rfl (Nat.le_of_ble_eq_true rfl) (Nat.le_of_ble_eq_true rfl) (Nat.le_of_ble_eq_true rfl) (Nat.le_of_ble_eq_true rfl) (Nat.le_of_ble_eq_true rfl) d_Dw_writeShape_10 (fun v w1 hp => ?_)
  obtain ⟨rfl, rfl⟩ := hp
  refine ⟨rfl, ?_⟩
  refine sw_ws (ws' := wDw g d a z o ob r r0 st0 sc0 wd f hq (l0 ++ [1, 0, 0]) ++ [pgC A nS nP, shA g A, shC (A (14 + k)) b0 w h (nI kb), shC (A (14 + kb)) n2 w2 h2 bs2]) rfl ?_
  refine sw_istore (pc := 13) C d_Dw_writeShape_13 (by decide) rfl ?_
  refine sw_aload_n (pc := 15) C d_Dw_writeShape_15 rfl rfl ?_
  refine sw_aload (pc := 16) C d_Dw_writeShape_16 rfl ?_
  refine sw_get (pc := 18) C inSh 8 rfl rfl 3 (by decide) t_175 rfl rfl d_Dw_writeShape_18 ?_
  refine sw_topi (z := nI kb) rfl ?_
  refine sw_iconst (pc := 21) C (-1) d_Dw_writeShape_21 (by decide) ?_
  refine sw_icmp_ne (pc := 22) C 29 d_Dw_writeShape_22 (by decide) (fun g1 => ?_) (fun g1 => ?_)
  · skip
    refine sw_aload (pc := 29) C d_Dw_writeShape_29 rfl ?_
    refine sw_get (pc := 31) C inSh 8 rfl rfl 3 (by decide) t_175 rfl rfl d_Dw_writeShape_31 ?_
    refine sw_topi (z := nI kb) rfl ?_
    refine sw_iconst (pc := 34) C (nI 1) d_Dw_writeShape_34 (by decide) ?_
    refine sw_iadd (pc := 35) C d_Dw_writeShape_35 ?_
    refine sw_topi (z := nI (kb + 1)) (nI_add _ _) ?_
    refine sw_callVP (pc := 36) C (c_Oct_append l g ob r (l0 ++ [1, 0, 0]) (by simp; omega) (kb + 1)) sv_Oct_append t_322 rfl rfl rfl [1, 5] rfl rfl rfl rfl (Nat.le_of_ble_eq_true rfl) (Nat.le_of_ble_eq_true rfl) (Nat.le_of_ble_eq_true rfl) (Nat.le_of_ble_eq_true rfl) (Nat.le_of_ble_eq_true rfl) d_Dw_writeShape_36 (fun v w1 hp => ?_)
    obtain ⟨rfl, rfl⟩ := hp
    refine ⟨rfl, ?_⟩
    refine sw_ws (ws' := wDw g d a z o ob r r0 st0 sc0 wd f hq (l0 ++ [1, 0, 0] ++ [(kb + 1)]) ++ [pgC A nS nP, shA g A, shC (A (14 + k)) b0 w h (nI kb), shC (A (14 + kb)) n2 w2 h2 bs2]) rfl ?_
    refine sw_aload_n (pc := 39) C d_Dw_writeShape_39 rfl rfl ?_
    refine sw_bipush (pc := 40) C (nI 16) d_Dw_writeShape_40 (by decide) ?_
    refine sw_aload (pc := 42) C d_Dw_writeShape_42 rfl ?_
    refine sw_get (pc := 44) C inSh 8 rfl rfl 1 (by decide) t_169 rfl rfl d_Dw_writeShape_44 ?_
    refine sw_topi (z := nI w) rfl ?_
    refine sw_iconst (pc := 47) C (nI 1) d_Dw_writeShape_47 (by decide) ?_
    refine sw_isub (pc := 48) C d_Dw_writeShape_48 ?_
    refine sw_topi (z := nI (w - 1)) (pk_sub (by omega)) ?_
    refine sw_imul (pc := 49) C d_Dw_writeShape_49 ?_
    refine sw_topi (z := nI (16 * (w - 1))) (pk_mul _ _) ?_
    refine sw_aload (pc := 50) C d_Dw_writeShape_50 rfl ?_
    refine sw_get (pc := 52) C inSh 8 rfl rfl 2 (by decide) t_172 rfl rfl d_Dw_writeShape_52 ?_
    refine sw_topi (z := nI h) rfl ?_
    refine sw_iadd (pc := 55) C d_Dw_writeShape_55 ?_
    refine sw_topi (z := nI ((16 * (w - 1)) + h)) (nI_add _ _) ?_
    refine sw_iconst (pc := 56) C (nI 1) d_Dw_writeShape_56 (by decide) ?_
    refine sw_isub (pc := 57) C d_Dw_writeShape_57 ?_
    refine sw_topi (z := nI (((16 * (w - 1)) + h) - 1)) (pk_sub (by omega)) ?_
    refine sw_callVP (pc := 58) C (c_Oct_append l g ob r (l0 ++ [1, 0, 0] ++ [(kb + 1)]) (by simp; omega) (16 * (w - 1) + h - 1)) sv_Oct_append t_322 rfl rfl rfl [1, 5] rfl rfl rfl rfl (Nat.le_of_ble_eq_true rfl) (Nat.le_of_ble_eq_true rfl) (Nat.le_of_ble_eq_true rfl) (Nat.le_of_ble_eq_true rfl) (Nat.le_of_ble_eq_true rfl) d_Dw_writeShape_58 (fun v w1 hp => ?_)
    obtain ⟨rfl, rfl⟩ := hp
    refine ⟨rfl, ?_⟩
    refine sw_ws (ws' := wDw g d a z o ob r r0 st0 sc0 wd f hq (l0 ++ [1, 0, 0] ++ [(kb + 1)] ++ [16 * (w - 1) + h - 1]) ++ [pgC A nS nP, shA g A, shC (A (14 + k)) b0 w h (nI kb), shC (A (14 + kb)) n2 w2 h2 bs2]) rfl ?_
    generalize hl1 : l0 ++ [1, 0, 0] ++ [(kb + 1)] ++ [16 * (w - 1) + h - 1] = l1
    have hl1n : l1.length = l0.length + 5 := by rw [← hl1]; simp
    refine sw_aload_n (pc := 61) C d_Dw_writeShape_61 rfl rfl ?_
    refine sw_get (pc := 62) C inDw 0 rfl rfl 0 (by decide) t_86 rfl rfl d_Dw_writeShape_62 ?_
    refine sw_aload_n (pc := 65) C d_Dw_writeShape_65 rfl rfl ?_
    refine sw_get (pc := 66) C inOct 1 rfl rfl 0 (by decide) t_30 rfl rfl d_Dw_writeShape_66 ?_
    refine sw_aload_n (pc := 69) C d_Dw_writeShape_69 rfl rfl ?_
    refine sw_get (pc := 70) C inOct 1 rfl rfl 1 (by decide) t_34 rfl rfl d_Dw_writeShape_70 ?_
    refine sw_topi (z := nI l1.length) rfl ?_
    refine sw_callVP (pc := 73) C (c_Cw_begin l g a z o r r0 l1 wd st0 sc0 f hq) sv_Cw_begin t_342 rfl rfl rfl [2, 3, 4, 5] rfl rfl rfl rfl (Nat.le_of_ble_eq_true rfl) (Nat.le_of_ble_eq_true rfl) (Nat.le_of_ble_eq_true rfl) (Nat.le_of_ble_eq_true rfl) (Nat.le_of_ble_eq_true rfl) d_Dw_writeShape_73 (fun v w1 hp => ?_)
    obtain ⟨rfl, rfl⟩ := hp
    refine ⟨rfl, ?_⟩
    refine sw_ws (ws' := wDk g d a z o ob r l1 l1.length (kInit none) ++ [pgC A nS nP, shA g A, shC (A (14 + k)) b0 w h (nI kb), shC (A (14 + kb)) n2 w2 h2 bs2]) rfl ?_
    refine sw_aload_n (pc := 76) C d_Dw_writeShape_76 rfl rfl ?_
    refine sw_iload_n (pc := 77) C d_Dw_writeShape_77 rfl rfl ?_
    refine sw_aload_n (pc := 78) C d_Dw_writeShape_78 rfl rfl ?_
    refine sw_get (pc := 79) C inDw 0 rfl rfl 0 (by decide) t_86 rfl rfl d_Dw_writeShape_79 ?_
    refine sw_callVP (pc := 82) C (c_csh_wB l g A nS nP k w h b0 hb0 hS hk hw.2 hh.2 kb n2 w2 h2 bs2 hkb hkk hn2 hw2 hh2 a z o r l1 (by omega) (by omega)) sv_Pg_codeShape t_350 rfl rfl rfl [6, 7, 2, 3, 4, 5, 8, 9] rfl rfl rfl rfl (Nat.le_of_ble_eq_true rfl) (Nat.le_of_ble_eq_true rfl) (Nat.le_of_ble_eq_true rfl) (Nat.le_of_ble_eq_true rfl) (Nat.le_of_ble_eq_true rfl) d_Dw_writeShape_82 (fun v w1 hp => ?_)
    obtain ⟨rfl, rfl⟩ := hp
    refine ⟨rfl, ?_⟩
    refine sw_ws (ws' := wDk g d a z o ob r l1 l1.length (shY none true (sb n2 w2 h2) (sb b0 w h) w h).1 ++ [pgC A nS nP, shA g A, shC (A (14 + k)) b0 w h (nI kb), shC (A (14 + kb)) n2 w2 h2 bs2]) rfl ?_
    have hsc : (shY none true (sb n2 w2 h2) (sb b0 w h) w h).1.1.2.2.2 ≤ 320 := sh_sc (fun D h => by cases h) (fun _ _ => sb_le _ _ _ _ _) hw.2 hh.2
    refine sw_aload_n (pc := 85) C d_Dw_writeShape_85 rfl rfl ?_
    refine sw_aload_n (pc := 86) C d_Dw_writeShape_86 rfl rfl ?_
    refine sw_get (pc := 87) C inDw 0 rfl rfl 0 (by decide) t_86 rfl rfl d_Dw_writeShape_87 ?_
    refine sw_callVR (pc := 90) C (c_Cw_size l g a z o r l1 (shY none true (sb n2 w2 h2) (sb b0 w h) w h).1.1.1 (shY none true (sb n2 w2 h2) (sb b0 w h) w h).1.1.2.1 (shY none true (sb n2 w2 h2) (sb b0 w h) w h).1.1.2.2.1 (shY none true (sb n2 w2 h2) (sb b0 w h) w h).1.1.2.2.2 (shY none true (sb n2 w2 h2) (sb b0 w h) w h).1.2 (by omega)) sv_Cw_size t_397 rfl rfl rfl [2, 3, 4, 5] rfl rfl rfl rfl (Nat.le_of_ble_eq_true rfl) (Nat.le_of_ble_eq_true rfl) (Nat.le_of_ble_eq_true rfl) (Nat.le_of_ble_eq_true rfl) (Nat.le_of_ble_eq_true rfl) d_Dw_writeShape_90 (fun v w1 hp => ?_)
    obtain ⟨rfl, rfl⟩ := hp
    refine ⟨rfl, ?_⟩
    refine sw_callVP (pc := 93) C (c_Oct_take l g ob r (rowW l1 (shY none true (sb n2 w2 h2) (sb b0 w h) w h).1.2 (shY none true (sb n2 w2 h2) (sb b0 w h) w h).1.1.2.2.2) l1.length ((16 + (shY none true (sb n2 w2 h2) (sb b0 w h) w h).1.1.2.2.2 + 7) / 8) (by omega)) sv_Oct_take t_401 rfl rfl rfl [1, 5] rfl rfl rfl rfl (Nat.le_of_ble_eq_true rfl) (Nat.le_of_ble_eq_true rfl) (Nat.le_of_ble_eq_true rfl) (Nat.le_of_ble_eq_true rfl) (Nat.le_of_ble_eq_true rfl) d_Dw_writeShape_93 (fun v w1 hp => ?_)
    obtain ⟨rfl, rfl⟩ := hp
    refine ⟨rfl, ?_⟩
    refine sw_ws (ws' := wDk g d a z o ob r l1 (l1.length + (16 + (shY none true (sb n2 w2 h2) (sb b0 w h) w h).1.1.2.2.2 + 7) / 8) (shY none true (sb n2 w2 h2) (sb b0 w h) w h).1 ++ [pgC A nS nP, shA g A, shC (A (14 + k)) b0 w h (nI kb), shC (A (14 + kb)) n2 w2 h2 bs2]) rfl ?_
    rw [wDk_end]
    refine sw_aload_n (pc := 96) C d_Dw_writeShape_96 rfl rfl ?_
    refine sw_iload (pc := 97) C d_Dw_writeShape_97 rfl ?_
    have hcb := cbytes_len (shY none true (sb n2 w2 h2) (sb b0 w h) w h).1.2 (shY none true (sb n2 w2 h2) (sb b0 w h) w h).1.1.2.2.2
    have hle : l1 ++ cbytes (shY none true (sb n2 w2 h2) (sb b0 w h) w h).1.2 (shY none true (sb n2 w2 h2) (sb b0 w h) w h).1.1.2.2.2 = l0 ++ [1, 0, 0] ++ (shBy (kb + 1) w h (shY none true (sb n2 w2 h2) (sb b0 w h) w h).1) := by rw [← hl1]; unfold shBy; simp
    have hln : (l1 ++ cbytes (shY none true (sb n2 w2 h2) (sb b0 w h) w h).1.2 (shY none true (sb n2 w2 h2) (sb b0 w h) w h).1.1.2.2.2).length = l0.length + 5 + (16 + (shY none true (sb n2 w2 h2) (sb b0 w h) w h).1.1.2.2.2 + 7) / 8 := by rw [List.length_append, hcb, hl1n]
    refine sw_callVP (pc := 99) C (c_Oct_close l g ob r (l1 ++ cbytes (shY none true (sb n2 w2 h2) (sb b0 w h) w h).1.2 (shY none true (sb n2 w2 h2) (sb b0 w h) w h).1.1.2.2.2) (by omega) (l0.length + 3) (by omega) (by omega)) sv_Oct_closeChunk t_408 rfl rfl rfl [1, 5] rfl rfl rfl rfl (Nat.le_of_ble_eq_true rfl) (Nat.le_of_ble_eq_true rfl) (Nat.le_of_ble_eq_true rfl) (Nat.le_of_ble_eq_true rfl) (Nat.le_of_ble_eq_true rfl) d_Dw_writeShape_99 (fun v w1 hp => ?_)
    obtain ⟨rfl, rfl⟩ := hp
    refine ⟨rfl, ?_⟩
    rw [hle, cls_chunk]
    exact sw_vret (pc := 102) C E rfl (Nat.le_of_ble_eq_true rfl) (Nat.le_of_ble_eq_true rfl) d_Dw_writeShape_102 ⟨rfl, _, _, _, _, _, _, rfl⟩
  exact absurd (show nI kb = -1 from g1) (by intro e9; have e8 := nI_toInt (n := kb) (by omega); rw [e9] at e8; simp at e8)
