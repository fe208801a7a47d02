/-- the code of shape k, whose base is shape bc k - 1, or none -/
def shSt (b w h bc : Nat → Nat) (k : Nat) : CS × Nat := if bc k = 0 then (shY none false (fun _ _ => 0) (sb (b k) (w k) (h k)) (w k) (h k)).1 else (shY none true (sb (b (bc k - 1)) (w (bc k - 1)) (h (bc k - 1))) (sb (b k) (w k) (h k)) (w k) (h k)).1
def shAll (b w h bc : Nat → Nat) : Nat → List Nat
  | 0 => [80, 71]
  | m + 1 => shAll b w h bc m ++ chunk 1 (shBy (bc m) (w m) (h m) (shSt b w h bc m))
def drOK (nS : Nat) (b w h bc : Nat → Nat) : Prop := ∀ k, k < nS → b k < 2 ^ 64 ∧ (1 ≤ w k ∧ w k ≤ 8) ∧ (1 ≤ h k ∧ h k ≤ 8) ∧ bc k ≤ k
theorem shSt_sc {nS : Nat} {b w h bc : Nat → Nat} (H : drOK nS b w h bc) {k : Nat} (hk : k < nS) : (shSt b w h bc k).1.2.2.2 ≤ 320 := by
  obtain ⟨h1, h2, h3, h4⟩ := H k hk
  unfold shSt
  split
  · exact sh_sc (fun D h => by cases h) (fun _ _ => Nat.zero_le _) h2.2 h3.2
  · exact sh_sc (fun D h => by cases h) (fun _ _ => sb_le _ _ _ _ _) h2.2 h3.2
theorem shAll_len {nS : Nat} {b w h bc : Nat → Nat} (H : drOK nS b w h bc) : ∀ m, m ≤ nS → (shAll b w h bc m).length ≤ 2 + 47 * m
  | 0, _ => by simp [shAll]
  | m + 1, hm => by
    have h1 := shAll_len H m (by omega)
    have h2 := shSt_sc H (show m < nS by omega)
    have h3 := cbytes_len (shSt b w h bc m).2 (shSt b w h bc m).1.2.2.2
    unfold shAll
    rw [List.length_append, chunk_len]
    unfold shBy
    rw [List.length_append, h3]
    simp
    omega
def docB (b w h bc : Nat → Nat) (nS : Nat) (ps sp : Nat → Nat) (nP sl : Nat) (G0 G1 : Nat → Nat → Int32) : List Nat := shAll b w h bc nS ++ chunk 2 (plBytes ps sp nP) ++ chunk 3 (lyBytes 8 sl G0) ++ chunk 4 (lyBytes 4 sl G1)
def wrPost (g : Gl) (d a z o ob r : Nat) (A : Nat → Nat) (nS nP : Nat) (ps sp : Nat → Nat) (G0 G1 : Nat → Nat → Int32) (cm0 cm1 : Bool) (F : Nat → List Value) (lD : List Nat) : Option Value → va_W → Prop := fun u q => u = none ∧ ∃ (r1 : Nat) (s1 c1 d1 : Int32) (f1 h1 co2 cd2 li2 co3 cd3 li3 : Nat → Int32), q = wDw g d a z o ob r r1 s1 c1 d1 f1 h1 lD ++ wPg g A nS nP (nF ps) (nF sp) (flat 8 (G0)) co2 cd2 li2 cm0 (flat 4 (G1)) co3 cd3 li3 cm1 F
set_option maxRecDepth 100000 in
set_option maxHeartbeats 4000000 in
theorem wr_i {X : Cz} (l : Launch) (g : Gl) (d a z o ob r : Nat) (A : Nat → Nat) (nS nP : Nat) (ps sp : Nat → Nat) (G0 G1 : Nat → Nat → Int32) (cm0 cm1 : Bool) (F : Nat → List Value) (lD : List Nat) (C : Cx X l g y_Dw_write b_Dw_write 5 none (rmD 5)) (E : Ce X g (wrPost g d a z o ob r A nS nP ps sp G0 G1 cm0 cm1 F lD) (rmD 5)) (r0 : Nat) (st0 sc0 wd : Int32) (f hq co0 cd0 li0 co1 cd1 li1 : Nat → Int32) (l1 : List Nat) (sl : Nat) (hsl : sl ≤ 10) (hl1 : l1.length + 150 < 1200) (hD : l1 ++ chunk 4 (lyBytes 4 sl G1) = lD) (L4 : Option Value) : SW X g 5 0 0 (wDw g d a z o ob r r0 st0 sc0 wd f hq l1 ++ wPg g A nS nP (nF ps) (nF sp) (flat 8 (G0)) co0 cd0 li0 cm0 (flat 4 (G1)) co1 cd1 li1 cm1 F) 60 [some (.ref d), some (.ref (A 0)), some (.int (nI sl)), some (.ref ob), L4] [] := by
  refine sw_aload_n (pc := 60) C d_Dw_write_60 rfl rfl ?_
  refine sw_iconst (pc := 61) C (nI 4) d_Dw_write_61 (by decide) ?_
  refine sw_aload_n (pc := 62) C d_Dw_write_62 rfl rfl ?_
  refine sw_get (pc := 63) C inPg 6 rfl rfl 6 (by decide) t_206 rfl rfl d_Dw_write_63 ?_
  refine sw_iload_n (pc := 66) C d_Dw_write_66 rfl rfl ?_
  refine sw_aload_n (pc := 67) C d_Dw_write_67 rfl rfl ?_
  refine sw_callVP (pc := 68) C (c_wrLy l g d a z o ob r r0 st0 sc0 wd f hq l1 (fun i => A (9 + i)) 4 G1 co1 cd1 li1 cm1 (Or.inl rfl) 4 sl hsl (by omega)) sv_Dw_writeLayer t_416 rfl rfl rfl [0, 1, 2, 3, 4, 5, 15, 16, 17, 18, 19] rfl rfl rfl rfl (Nat.le_of_ble_eq_true rfl) (Nat.le_of_ble_eq_true rfl) (Nat.le_of_ble_eq_true rfl) (Nat.le_of_ble_eq_true rfl) (Nat.le_of_ble_eq_true rfl) d_Dw_write_68 (fun v w1 hp => ?_)
  obtain ⟨rfl, r2, s2, c2, d2, f2, h2, co3, cd3, li3, rfl⟩ := hp
  refine ⟨rfl, ?_⟩
  rw [hD]
  refine sw_ws (ws' := wDw g d a z o ob r r2 s2 c2 d2 f2 h2 lD ++ wPg g A nS nP (nF ps) (nF sp) (flat 8 (G0)) co0 cd0 li0 cm0 (flat 4 (G1)) co3 cd3 li3 cm1 F) rfl ?_
  exact sw_vret (pc := 71) C E rfl (Nat.le_of_ble_eq_true rfl) (Nat.le_of_ble_eq_true rfl) d_Dw_write_71 ⟨rfl, r2, s2, c2, d2, f2, h2, co0, cd0, li0, co3, cd3, li3, rfl⟩
set_option maxRecDepth 100000 in
set_option maxHeartbeats 4000000 in
theorem wr_g {X : Cz} (l : Launch) (g : Gl) (d a z o ob r : Nat) (A : Nat → Nat) (nS nP : Nat) (ps sp : Nat → Nat) (G0 G1 : Nat → Nat → Int32) (cm0 cm1 : Bool) (F : Nat → List Value) (lD : List Nat) (C : Cx X l g y_Dw_write b_Dw_write 5 none (rmD 5)) (E : Ce X g (wrPost g d a z o ob r A nS nP ps sp G0 G1 cm0 cm1 F lD) (rmD 5)) (r0 : Nat) (st0 sc0 wd : Int32) (f hq co0 cd0 li0 co1 cd1 li1 : Nat → Int32) (l1 : List Nat) (sl : Nat) (hsl : sl ≤ 10) (hl1 : l1.length + 650 < 1200) (hD : l1 ++ chunk 3 (lyBytes 8 sl G0) ++ chunk 4 (lyBytes 4 sl G1) = lD) (L4 : Option Value) : SW X g 5 0 0 (wDw g d a z o ob r r0 st0 sc0 wd f hq l1 ++ wPg g A nS nP (nF ps) (nF sp) (flat 8 (G0)) co0 cd0 li0 cm0 (flat 4 (G1)) co1 cd1 li1 cm1 F) 49 [some (.ref d), some (.ref (A 0)), some (.int (nI sl)), some (.ref ob), L4] [] := by
  refine sw_aload_n (pc := 49) C d_Dw_write_49 rfl rfl ?_
  refine sw_iconst (pc := 50) C (nI 3) d_Dw_write_50 (by decide) ?_
  refine sw_aload_n (pc := 51) C d_Dw_write_51 rfl rfl ?_
  refine sw_get (pc := 52) C inPg 6 rfl rfl 5 (by decide) t_202 rfl rfl d_Dw_write_52 ?_
  refine sw_iload_n (pc := 55) C d_Dw_write_55 rfl rfl ?_
  refine sw_aload_n (pc := 56) C d_Dw_write_56 rfl rfl ?_
  refine sw_callVP (pc := 57) C (c_wrLy l g d a z o ob r r0 st0 sc0 wd f hq l1 (fun i => A (4 + i)) 8 G0 co0 cd0 li0 cm0 (Or.inr rfl) 3 sl hsl (by omega)) sv_Dw_writeLayer t_416 rfl rfl rfl [0, 1, 2, 3, 4, 5, 10, 11, 12, 13, 14] rfl rfl rfl rfl (Nat.le_of_ble_eq_true rfl) (Nat.le_of_ble_eq_true rfl) (Nat.le_of_ble_eq_true rfl) (Nat.le_of_ble_eq_true rfl) (Nat.le_of_ble_eq_true rfl) d_Dw_write_57 (fun v w1 hp => ?_)
  obtain ⟨rfl, r1, s1, c1, d1, f1, h1, co2, cd2, li2, rfl⟩ := hp
  refine ⟨rfl, ?_⟩
  have hA3 : (l1 ++ chunk 3 (lyBytes 8 sl G0)).length ≤ l1.length + 446 := by
    have hsc : (lyP none 8 (flat 8 (liftN 8 G0)) sl).1.1.2.2.2 ≤ 55 * (8 * 8) := lyP_sc (fun D h => by cases h) hsl
    rw [List.length_append, chunk_len]
    unfold lyBytes
    rw [List.length_cons, cbytes_len]
    omega
  generalize hD2 : l1 ++ chunk 3 (lyBytes 8 sl G0) = l2 at hA3 hD ⊢
  refine sw_ws (ws' := wDw g d a z o ob r r1 s1 c1 d1 f1 h1 l2 ++ wPg g A nS nP (nF ps) (nF sp) (flat 8 (G0)) co2 cd2 li2 cm0 (flat 4 (G1)) co1 cd1 li1 cm1 F) rfl ?_
  exact wr_i l g d a z o ob r A nS nP ps sp G0 G1 cm0 cm1 F lD C E r1 s1 c1 d1 f1 h1 co2 cd2 li2 co1 cd1 li1 l2 sl hsl (by omega) hD L4
set_option maxRecDepth 100000 in
set_option maxHeartbeats 4000000 in
theorem wr_p {X : Cz} (l : Launch) (g : Gl) (d a z o ob r : Nat) (A : Nat → Nat) (nS nP : Nat) (ps sp : Nat → Nat) (G0 G1 : Nat → Nat → Int32) (cm0 cm1 : Bool) (F : Nat → List Value) (lD : List Nat) (C : Cx X l g y_Dw_write b_Dw_write 5 none (rmD 5)) (E : Ce X g (wrPost g d a z o ob r A nS nP ps sp G0 G1 cm0 cm1 F lD) (rmD 5)) (r0 : Nat) (st0 sc0 wd : Int32) (f hq co0 cd0 li0 co1 cd1 li1 : Nat → Int32) (l1 : List Nat) (sl : Nat) (hsl : sl ≤ 10) (hP : nP ≤ 20) (hl1 : l1.length + 700 < 1200) (hD : l1 ++ chunk 2 (plBytes ps sp nP) ++ chunk 3 (lyBytes 8 sl G0) ++ chunk 4 (lyBytes 4 sl G1) = lD) (L4 : Option Value) : SW X g 5 0 0 (wDw g d a z o ob r r0 st0 sc0 wd f hq l1 ++ wPg g A nS nP (nF ps) (nF sp) (flat 8 (G0)) co0 cd0 li0 cm0 (flat 4 (G1)) co1 cd1 li1 cm1 F) 43 [some (.ref d), some (.ref (A 0)), some (.int (nI sl)), some (.ref ob), L4] [] := by
  refine sw_aload_n (pc := 43) C d_Dw_write_43 rfl rfl ?_
  refine sw_aload_n (pc := 44) C d_Dw_write_44 rfl rfl ?_
  refine sw_aload_n (pc := 45) C d_Dw_write_45 rfl rfl ?_
  refine sw_callVP (pc := 46) C (c_wrPl l g d a z o ob r r0 st0 sc0 wd f hq l1 A nS nP ps sp hP (by omega)) sv_Dw_writePlacings t_412 rfl rfl rfl [0, 1, 2, 3, 4, 5, 6, 8, 9] rfl rfl rfl rfl (Nat.le_of_ble_eq_true rfl) (Nat.le_of_ble_eq_true rfl) (Nat.le_of_ble_eq_true rfl) (Nat.le_of_ble_eq_true rfl) (Nat.le_of_ble_eq_true rfl) d_Dw_write_46 (fun v w1 hp => ?_)
  obtain ⟨rfl, rfl⟩ := hp
  refine ⟨rfl, ?_⟩
  have hA2 : (l1 ++ chunk 2 (plBytes ps sp nP)).length ≤ l1.length + 43 := by rw [List.length_append, chunk_len, plBytes_len]; omega
  generalize hD1 : l1 ++ chunk 2 (plBytes ps sp nP) = l2 at hA2 hD ⊢
  refine sw_ws (ws' := wDw g d a z o ob r r0 st0 sc0 wd f hq l2 ++ wPg g A nS nP (nF ps) (nF sp) (flat 8 (G0)) co0 cd0 li0 cm0 (flat 4 (G1)) co1 cd1 li1 cm1 F) rfl ?_
  exact wr_g l g d a z o ob r A nS nP ps sp G0 G1 cm0 cm1 F lD C E r0 st0 sc0 wd f hq co0 cd0 li0 co1 cd1 li1 l2 sl hsl (by omega) hD L4
