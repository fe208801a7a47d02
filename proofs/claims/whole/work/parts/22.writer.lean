/-! LayeredPage$DocumentWriter -/
def chunk (kd : Nat) (p : List Nat) : List Nat := [kd, p.length / 256, p.length % 256] ++ p
theorem cls_chunk (l : List Nat) (kd : Nat) (p : List Nat) : clsL (l ++ [kd, 0, 0] ++ p) (l.length + 3) = l ++ chunk kd p := by
  have e : l ++ [kd, 0, 0] ++ p = l ++ (kd :: 0 :: 0 :: p) := by simp
  unfold clsL chunk
  rw [e]
  have e2 : (l ++ (kd :: 0 :: 0 :: p)).length - (l.length + 3) = p.length := by simp; omega
  rw [e2, show l.length + 3 - 2 = l.length + 1 by omega, show l.length + 3 - 1 = l.length + 2 by omega]
  rw [List.set_append_right _ _ (by omega), show l.length + 1 - l.length = 1 by omega]
  rw [List.set_append_right _ _ (by omega), show l.length + 2 - l.length = 2 by omega]
  rfl
theorem chunk_len (kd : Nat) (p : List Nat) : (chunk kd p).length = p.length + 3 := by
  unfold chunk
  simp
theorem cbytes_len (v sc : Nat) : (cbytes v sc).length = (16 + sc + 7) / 8 := by
  unfold cbytes
  simp
def wDw (g : Gl) (d a z o ob r r0 : Nat) (st0 sc0 wd : Int32) (f h : Nat → Int32) (l : List Nat) : va_W := [(d, .inr (3, [.ref a])), (ob, .inr (5, [.ref r, .int (nI l.length)])), (a, .inr (1, [.ref r0, .int st0, .int sc0, .ref z, .ref o, .int wd])), (z, .inl (g.2.1, 48, .inl f)), (o, .inl (g.2.1, 48, .inl h)), (r, .inl (g.2.1, 1200, .inl (rowOf l)))]
/-- behind a code: the coder's own state S, the sum's bytes in the row; count as before the code (c) -/
def wDk (g : Gl) (d a z o ob r : Nat) (l : List Nat) (c : Nat) (S : CS × Nat) : va_W := [(d, .inr (3, [.ref a])), (ob, .inr (5, [.ref r, .int (nI c)])), (a, .inr (1, [.ref r, .int (nI l.length), .int (nI S.1.2.2.2), .ref z, .ref o, .int (nI S.1.2.2.1)])), (z, .inl (g.2.1, 48, .inl (nF S.1.1))), (o, .inl (g.2.1, 48, .inl (nF S.1.2.1))), (r, .inl (g.2.1, 1200, .inl (rowW l S.2 S.1.2.2.2)))]
theorem wDk_end {g : Gl} {d a z o ob r : Nat} {l : List Nat} {S : CS × Nat} : wDk g d a z o ob r l (l.length + (16 + S.1.2.2.2 + 7) / 8) S = wDw g d a z o ob r r (nI l.length) (nI S.1.2.2.2) (nI S.1.2.2.1) (nF S.1.1) (nF S.1.2.1) (l ++ cbytes S.2 S.1.2.2.2) := by
  unfold wDk wDw
  rw [rowW_end, List.length_append, cbytes_len]
def lyBytes (n sl : Nat) (G : Nat → Nat → Int32) : List Nat := sl :: cbytes (lyP none n (flat n (liftN n G)) sl).1.2 (lyP none n (flat n (liftN n G)) sl).1.1.2.2.2
theorem lyP_sc {md : Option (Nat → Nat)} {n : Nat} {cf : Nat → Int32} (hD : ∀ D, md = some D → ∀ i, D i ≤ 1) {sl : Nat} (hs : sl ≤ 10) : (lyP md n cf sl).1.1.2.2.2 ≤ 55 * (n * n) := by
  have h := (lyP_inv (md := md) (n := n) (cf := cf) hD sl).2.2
  have h2 := cntB_le (lyP md n cf sl).2.1 (n * n)
  have h3 : sl * (n * n) ≤ 10 * (n * n) := Nat.mul_le_mul_right _ hs
  omega
set_option maxRecDepth 100000 in
set_option maxHeartbeats 4000000 in
theorem c_wrLy (l : Launch) (g : Gl) (d a z o ob r r0 : Nat) (st0 sc0 wd : Int32) (f h : Nat → Int32) (l0 : List Nat) (A : Nat → Nat) (n : Nat) (G : Nat → Nat → Int32) (co cd li : Nat → Int32) (cm : Bool) (hn : n = 4 ∨ n = 8) (kd sl : Nat) (hsl : sl ≤ 10) (hl : l0.length + 4 + (55 * (n * n) + 23) / 8 < 1200) : Ct l g y_Dw_writeLayer b_Dw_writeLayer 6 none (rmD 4) [.ref d, .int (nI kd), .ref (A 0), .int (nI sl), .ref ob] (wDw g d a z o ob r r0 st0 sc0 wd f h l0 ++ wLy g A n (flat n (G)) co cd li cm) (fun u w => u = none ∧ ∃ r1 s1 c1 d1 f1 h1, ∃ co2 cd2 li2, w = wDw g d a z o ob r r1 s1 c1 d1 f1 h1 (l0 ++ chunk kd (lyBytes n sl G)) ++ wLy g A n (flat n (G)) co2 cd2 li2 cm) := by
  refine ct_of [some (.ref d), some (.int (nI kd)), some (.ref (A 0)), some (.int (nI sl)), some (.ref ob), none] (by decide) (Nat.le_of_ble_eq_true rfl) rfl ?_
  intro X C E
  obtain ⟨hnn, hn4, hn8⟩ := nn_le hn
  refine sw_aload (pc := 0) C d_Dw_writeLayer_0 rfl ?_
  refine sw_iload_n (pc := 2) C d_Dw_writeLayer_2 rfl rfl ?_
  refine sw_callVP (pc := 3) C (c_Oct_open l g ob r l0 (by omega) kd) sv_Oct_openChunk t_337 rfl rfl rfl [1, 5] rfl rfl rfl rfl (Nat.le_of_ble_eq_true rfl) (Nat.le_of_ble_eq_true rfl) (Nat.le_of_ble_eq_true rfl) (Nat.le_of_ble_eq_true rfl) (Nat.le_of_ble_eq_true rfl) d_Dw_writeLayer_3 (fun v w1 hp => ?_)
  obtain ⟨rfl, rfl⟩ := hp
  refine ⟨rfl, ?_⟩
  refine sw_ws (ws' := wDw g d a z o ob r r0 st0 sc0 wd f h (l0 ++ [kd, 0, 0]) ++ wLy g A n (flat n (G)) co cd li cm) rfl ?_
  refine sw_istore (pc := 6) C d_Dw_writeLayer_6 (by decide) rfl ?_
  refine sw_aload (pc := 8) C d_Dw_writeLayer_8 rfl ?_
  refine sw_iload_n (pc := 10) C d_Dw_writeLayer_10 rfl rfl ?_
  refine sw_callVP (pc := 11) C (c_Oct_append l g ob r (l0 ++ [kd, 0, 0]) (by simp; omega) sl) sv_Oct_append t_322 rfl rfl rfl [1, 5] rfl rfl rfl rfl (Nat.le_of_ble_eq_true rfl) (Nat.le_of_ble_eq_true rfl) (Nat.le_of_ble_eq_true rfl) (Nat.le_of_ble_eq_true rfl) (Nat.le_of_ble_eq_true rfl) d_Dw_writeLayer_11 (fun v w1 hp => ?_)
  obtain ⟨rfl, rfl⟩ := hp
  refine ⟨rfl, ?_⟩
  refine sw_ws (ws' := wDw g d a z o ob r r0 st0 sc0 wd f h (l0 ++ [kd, 0, 0] ++ [sl]) ++ wLy g A n (flat n (G)) co cd li cm) rfl ?_
  generalize hl1 : l0 ++ [kd, 0, 0] ++ [sl] = l1
  have hl1n : l1.length = l0.length + 4 := by rw [← hl1]; simp
  refine sw_aload_n (pc := 14) C d_Dw_writeLayer_14 rfl rfl ?_
  refine sw_callVP (pc := 15) C (c_liftCells l g A n G co cd li cm hn) sv_Ly_liftCells t_420 rfl rfl rfl [6, 7, 8, 9, 10] rfl rfl rfl rfl (Nat.le_of_ble_eq_true rfl) (Nat.le_of_ble_eq_true rfl) (Nat.le_of_ble_eq_true rfl) (Nat.le_of_ble_eq_true rfl) (Nat.le_of_ble_eq_true rfl) d_Dw_writeLayer_15 (fun v w1 hp => ?_)
  obtain ⟨rfl, li1, rfl⟩ := hp
  refine ⟨rfl, ?_⟩
  refine sw_ws (ws' := wDw g d a z o ob r r0 st0 sc0 wd f h l1 ++ wLy g A n (flat n (G)) (flat n (liftN n G)) cd li1 cm) rfl ?_
  refine sw_aload_n (pc := 18) C d_Dw_writeLayer_18 rfl rfl ?_
  refine sw_get (pc := 19) C inDw 0 rfl rfl 0 (by decide) t_86 rfl rfl d_Dw_writeLayer_19 ?_
  refine sw_aload (pc := 22) C d_Dw_writeLayer_22 rfl ?_
  refine sw_get (pc := 24) C inOct 1 rfl rfl 0 (by decide) t_30 rfl rfl d_Dw_writeLayer_24 ?_
  refine sw_aload (pc := 27) C d_Dw_writeLayer_27 rfl ?_
  refine sw_get (pc := 29) C inOct 1 rfl rfl 1 (by decide) t_34 rfl rfl d_Dw_writeLayer_29 ?_
  refine sw_topi (z := nI l1.length) rfl ?_
  refine sw_callVP (pc := 32) C (c_Cw_begin l g a z o r r0 l1 wd st0 sc0 f h) sv_Cw_begin t_342 rfl rfl rfl [2, 3, 4, 5] rfl rfl rfl rfl (Nat.le_of_ble_eq_true rfl) (Nat.le_of_ble_eq_true rfl) (Nat.le_of_ble_eq_true rfl) (Nat.le_of_ble_eq_true rfl) (Nat.le_of_ble_eq_true rfl) d_Dw_writeLayer_32 (fun v w1 hp => ?_)
  obtain ⟨rfl, rfl⟩ := hp
  refine ⟨rfl, ?_⟩
  refine sw_ws (ws' := wDk g d a z o ob r l1 l1.length (kInit none) ++ wLy g A n (flat n (G)) (flat n (liftN n G)) cd li1 cm) rfl ?_
  refine sw_aload_n (pc := 35) C d_Dw_writeLayer_35 rfl rfl ?_
  refine sw_iload_n (pc := 36) C d_Dw_writeLayer_36 rfl rfl ?_
  refine sw_aload_n (pc := 37) C d_Dw_writeLayer_37 rfl rfl ?_
  refine sw_get (pc := 38) C inDw 0 rfl rfl 0 (by decide) t_86 rfl rfl d_Dw_writeLayer_38 ?_
  refine sw_callVP (pc := 41) C (c_ccf_w l g A n (flat n G) (flat n (liftN n G)) cd li1 cm hn a z o r l1 sl hsl (by omega) (by omega)) sv_Ly_codeCoefficients t_431 rfl rfl rfl [6, 7, 8, 9, 10, 2, 3, 4, 5] rfl rfl rfl rfl (Nat.le_of_ble_eq_true rfl) (Nat.le_of_ble_eq_true rfl) (Nat.le_of_ble_eq_true rfl) (Nat.le_of_ble_eq_true rfl) (Nat.le_of_ble_eq_true rfl) d_Dw_writeLayer_41 (fun v w1 hp => ?_)
  obtain ⟨rfl, rfl⟩ := hp
  refine ⟨rfl, ?_⟩
  refine sw_ws (ws' := wDk g d a z o ob r l1 l1.length (lyP none n (flat n (liftN n G)) sl).1 ++ wLy g A n (flat n (G)) (cdV (lyP none n (flat n (liftN n G)) sl).2.1 (lyP none n (flat n (liftN n G)) sl).2.2 (10 - sl)) (cdV (lyP none n (flat n (liftN n G)) sl).2.1 (lyP none n (flat n (liftN n G)) sl).2.2 (10 - sl)) li1 cm) rfl ?_
  have hsc : (lyP none n (flat n (liftN n G)) sl).1.1.2.2.2 ≤ 55 * (n * n) := lyP_sc (fun D h => by cases h) hsl
  refine sw_aload (pc := 44) C d_Dw_writeLayer_44 rfl ?_
  refine sw_aload_n (pc := 46) C d_Dw_writeLayer_46 rfl rfl ?_
  refine sw_get (pc := 47) C inDw 0 rfl rfl 0 (by decide) t_86 rfl rfl d_Dw_writeLayer_47 ?_
  refine sw_callVR (pc := 50) C (c_Cw_size l g a z o r l1 (lyP none n (flat n (liftN n G)) sl).1.1.1 (lyP none n (flat n (liftN n G)) sl).1.1.2.1 (lyP none n (flat n (liftN n G)) sl).1.1.2.2.1 (lyP none n (flat n (liftN n G)) sl).1.1.2.2.2 (lyP none n (flat n (liftN n G)) sl).1.2 (by omega)) sv_Cw_size t_397 rfl rfl rfl [2, 3, 4, 5] rfl rfl rfl rfl (Nat.le_of_ble_eq_true rfl) (Nat.le_of_ble_eq_true rfl) (Nat.le_of_ble_eq_true rfl) (Nat.le_of_ble_eq_true rfl) (Nat.le_of_ble_eq_true rfl) d_Dw_writeLayer_50 (fun v w1 hp => ?_)
  obtain ⟨rfl, rfl⟩ := hp
  refine ⟨rfl, ?_⟩
  refine sw_callVP (pc := 53) C (c_Oct_take l g ob r (rowW l1 (lyP none n (flat n (liftN n G)) sl).1.2 (lyP none n (flat n (liftN n G)) sl).1.1.2.2.2) l1.length ((16 + (lyP none n (flat n (liftN n G)) sl).1.1.2.2.2 + 7) / 8) (by omega)) sv_Oct_take t_401 rfl rfl rfl [1, 5] rfl rfl rfl rfl (Nat.le_of_ble_eq_true rfl) (Nat.le_of_ble_eq_true rfl) (Nat.le_of_ble_eq_true rfl) (Nat.le_of_ble_eq_true rfl) (Nat.le_of_ble_eq_true rfl) d_Dw_writeLayer_53 (fun v w1 hp => ?_)
  obtain ⟨rfl, rfl⟩ := hp
  refine ⟨rfl, ?_⟩
  refine sw_ws (ws' := wDk g d a z o ob r l1 (l1.length + (16 + (lyP none n (flat n (liftN n G)) sl).1.1.2.2.2 + 7) / 8) (lyP none n (flat n (liftN n G)) sl).1 ++ wLy g A n (flat n (G)) (cdV (lyP none n (flat n (liftN n G)) sl).2.1 (lyP none n (flat n (liftN n G)) sl).2.2 (10 - sl)) (cdV (lyP none n (flat n (liftN n G)) sl).2.1 (lyP none n (flat n (liftN n G)) sl).2.2 (10 - sl)) li1 cm) rfl ?_
  rw [wDk_end]
  refine sw_aload (pc := 56) C d_Dw_writeLayer_56 rfl ?_
  refine sw_iload (pc := 58) C d_Dw_writeLayer_58 rfl ?_
  have hcb := cbytes_len (lyP none n (flat n (liftN n G)) sl).1.2 (lyP none n (flat n (liftN n G)) sl).1.1.2.2.2
  have hle : l1 ++ cbytes (lyP none n (flat n (liftN n G)) sl).1.2 (lyP none n (flat n (liftN n G)) sl).1.1.2.2.2 = l0 ++ [kd, 0, 0] ++ lyBytes n sl G := by rw [← hl1]; unfold lyBytes; simp
  have hln : (l1 ++ cbytes (lyP none n (flat n (liftN n G)) sl).1.2 (lyP none n (flat n (liftN n G)) sl).1.1.2.2.2).length = l0.length + 4 + (16 + (lyP none n (flat n (liftN n G)) sl).1.1.2.2.2 + 7) / 8 := by rw [List.length_append, hcb, hl1n]
  refine sw_callVP (pc := 60) C (c_Oct_close l g ob r (l1 ++ cbytes (lyP none n (flat n (liftN n G)) sl).1.2 (lyP none n (flat n (liftN n G)) sl).1.1.2.2.2) (by omega) (l0.length + 3) (by omega) (by omega)) sv_Oct_closeChunk t_408 rfl rfl rfl [1, 5] rfl rfl rfl rfl (Nat.le_of_ble_eq_true rfl) (Nat.le_of_ble_eq_true rfl) (Nat.le_of_ble_eq_true rfl) (Nat.le_of_ble_eq_true rfl) (Nat.le_of_ble_eq_true rfl) d_Dw_writeLayer_60 (fun v w1 hp => ?_)
  obtain ⟨rfl, rfl⟩ := hp
  refine ⟨rfl, ?_⟩
  rw [hle, cls_chunk]
  exact sw_vret (pc := 63) C E rfl (Nat.le_of_ble_eq_true rfl) (Nat.le_of_ble_eq_true rfl) d_Dw_writeLayer_63 ⟨rfl, _, _, _, _, _, _, _, _, _, rfl⟩
