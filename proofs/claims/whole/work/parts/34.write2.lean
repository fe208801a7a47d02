set_option maxRecDepth 100000 in
set_option maxHeartbeats 4000000 in
theorem c_write (l : Launch) (g : Gl) (d a z o ob r r0 : Nat) (st0 sc0 wd : Int32) (f hq : Nat → Int32) (l0 : List Nat) (A : Nat → Nat) (nS nP : Nat) (b w h bc ps sp : Nat → Nat) (G0 G1 : Nat → Nat → Int32) (co0 cd0 li0 co1 cd1 li1 : Nat → Int32) (cm0 cm1 : Bool) (hl0 : l0.length ≤ 1200) (hS : nS ≤ 8) (hP : nP ≤ 20) (H : drOK nS b w h bc) (sl : Nat) (hsl : sl ≤ 10) : Ct l g y_Dw_write b_Dw_write 5 none (rmD 5) [.ref d, .ref (A 0), .int (nI sl), .ref ob] (wDw g d a z o ob r r0 st0 sc0 wd f hq l0 ++ wPg g A nS nP (nF ps) (nF sp) (flat 8 (G0)) co0 cd0 li0 cm0 (flat 4 (G1)) co1 cd1 li1 cm1 (fun k => shV (b k) (w k) (h k) (bsI (bc k)))) (wrPost g d a z o ob r A nS nP ps sp G0 G1 cm0 cm1 (fun k => shV (b k) (w k) (h k) (bsI (bc k))) (docB b w h bc nS ps sp nP sl G0 G1)) := by
  refine ct_of [some (.ref d), some (.ref (A 0)), some (.int (nI sl)), some (.ref ob), none] (by decide) (Nat.le_of_ble_eq_true rfl) rfl ?_
  intro X C E
  refine sw_aload_n (pc := 0) C d_Dw_write_0 rfl rfl ?_
  refine sw_iconst (pc := 1) C (nI 0) d_Dw_write_1 (by decide) ?_
  refine sw_callVP (pc := 2) C (c_Oct_keep l g ob r l0 hl0 0 (Nat.zero_le _)) sv_Oct_keep t_318 rfl rfl rfl [1, 5] rfl rfl rfl rfl (Nat.le_of_ble_eq_true rfl) (Nat.le_of_ble_eq_true rfl) (Nat.le_of_ble_eq_true rfl) (Nat.le_of_ble_eq_true rfl) (Nat.le_of_ble_eq_true rfl) d_Dw_write_2 (fun v w1 hp => ?_)
  obtain ⟨rfl, rfl⟩ := hp
  refine ⟨rfl, ?_⟩
  refine sw_ws (ws' := wDw g d a z o ob r r0 st0 sc0 wd f hq [] ++ wPg g A nS nP (nF ps) (nF sp) (flat 8 (G0)) co0 cd0 li0 cm0 (flat 4 (G1)) co1 cd1 li1 cm1 (fun k => shV (b k) (w k) (h k) (bsI (bc k)))) (by rw [List.take_zero]; rfl) ?_
  refine sw_aload_n (pc := 5) C d_Dw_write_5 rfl rfl ?_
  refine sw_bipush (pc := 6) C (nI 80) d_Dw_write_6 (by decide) ?_
  refine sw_callVP (pc := 8) C (c_Oct_append l g ob r [] (by decide) 80) sv_Oct_append t_322 rfl rfl rfl [1, 5] rfl rfl rfl rfl (Nat.le_of_ble_eq_true rfl) (Nat.le_of_ble_eq_true rfl) (Nat.le_of_ble_eq_true rfl) (Nat.le_of_ble_eq_true rfl) (Nat.le_of_ble_eq_true rfl) d_Dw_write_8 (fun v w1 hp => ?_)
  obtain ⟨rfl, rfl⟩ := hp
  refine ⟨rfl, ?_⟩
  refine sw_ws (ws' := wDw g d a z o ob r r0 st0 sc0 wd f hq [80] ++ wPg g A nS nP (nF ps) (nF sp) (flat 8 (G0)) co0 cd0 li0 cm0 (flat 4 (G1)) co1 cd1 li1 cm1 (fun k => shV (b k) (w k) (h k) (bsI (bc k)))) rfl ?_
  refine sw_aload_n (pc := 11) C d_Dw_write_11 rfl rfl ?_
  refine sw_bipush (pc := 12) C (nI 71) d_Dw_write_12 (by decide) ?_
  refine sw_callVP (pc := 14) C (c_Oct_append l g ob r [80] (by decide) 71) sv_Oct_append t_322 rfl rfl rfl [1, 5] rfl rfl rfl rfl (Nat.le_of_ble_eq_true rfl) (Nat.le_of_ble_eq_true rfl) (Nat.le_of_ble_eq_true rfl) (Nat.le_of_ble_eq_true rfl) (Nat.le_of_ble_eq_true rfl) d_Dw_write_14 (fun v w1 hp => ?_)
  obtain ⟨rfl, rfl⟩ := hp
  refine ⟨rfl, ?_⟩
  refine sw_ws (ws' := wDw g d a z o ob r r0 st0 sc0 wd f hq [80, 71] ++ wPg g A nS nP (nF ps) (nF sp) (flat 8 (G0)) co0 cd0 li0 cm0 (flat 4 (G1)) co1 cd1 li1 cm1 (fun k => shV (b k) (w k) (h k) (bsI (bc k)))) rfl ?_
  refine sw_iconst (pc := 17) C (nI 0) d_Dw_write_17 (by decide) ?_
  refine sw_istore (pc := 18) C d_Dw_write_18 (by decide) rfl ?_
  have key : ∀ (e k : Nat) (r0 : Nat) (st0 sc0 wd : Int32) (f hq : Nat → Int32), k + e = nS → SW X g 5 0 0 (wDw g d a z o ob r r0 st0 sc0 wd f hq (shAll b w h bc k) ++ wPg g A nS nP (nF ps) (nF sp) (flat 8 (G0)) co0 cd0 li0 cm0 (flat 4 (G1)) co1 cd1 li1 cm1 (fun k => shV (b k) (w k) (h k) (bsI (bc k)))) 20 [some (.ref d), some (.ref (A 0)), some (.int (nI sl)), some (.ref ob), some (.int (nI k))] [] := by
    intro e
    induction e with
    | zero =>
      intro k r0 st0 sc0 wd f hq hk
      refine sw_iload (pc := 20) C d_Dw_write_20 rfl ?_
      refine sw_aload_n (pc := 22) C d_Dw_write_22 rfl rfl ?_
      refine sw_get (pc := 23) C inPg 6 rfl rfl 1 (by decide) t_190 rfl rfl d_Dw_write_23 ?_
      refine sw_topi (z := nI nS) rfl ?_
      refine sw_icmp_geN (pc := 26) C 43 (by omega) (by omega) d_Dw_write_26 (by decide) (fun g1 => ?_) (fun g1 => ?_)
      · skip
        have ek : k = nS := by omega
        subst ek
        have hA := shAll_len H k (Nat.le_refl _)
        exact wr_p l g d a z o ob r A k nP ps sp G0 G1 cm0 cm1 _ _ C E r0 st0 sc0 wd f hq co0 cd0 li0 co1 cd1 li1 _ sl hsl hP (by omega) rfl _
      omega
    | succ e ih =>
      intro k r0 st0 sc0 wd f hq hk
      refine sw_iload (pc := 20) C d_Dw_write_20 rfl ?_
      refine sw_aload_n (pc := 22) C d_Dw_write_22 rfl rfl ?_
      refine sw_get (pc := 23) C inPg 6 rfl rfl 1 (by decide) t_190 rfl rfl d_Dw_write_23 ?_
      refine sw_topi (z := nI nS) rfl ?_
      refine sw_icmp_geN (pc := 26) C 43 (by omega) (by omega) d_Dw_write_26 (by decide) (fun g1 => ?_) (fun g1 => ?_)
      · skip
        omega
      obtain ⟨hb1, hw1, hh1, hbc⟩ := H k (by omega)
      have hA := shAll_len H k (by omega)
      have pgk : ∀ m, m < 8 → (wDw g d a z o ob r r0 st0 sc0 wd f hq (shAll b w h bc k) ++ wPg g A nS nP (nF ps) (nF sp) (flat 8 (G0)) co0 cd0 li0 cm0 (flat 4 (G1)) co1 cd1 li1 cm1 (fun k => shV (b k) (w k) (h k) (bsI (bc k))))[20 + m]? = some (A (14 + m), .inr (7, shV (b m) (w m) (h m) (bsI (bc m)))) := fun m hm => pool_get (X := (wDw g d a z o ob r r0 st0 sc0 wd f hq (shAll b w h bc k) ++ ([pgC A nS nP, shA g A, iaC g (A 2) 20 (nF ps), iaC g (A 3) 20 (nF sp)] ++ wLy g (fun i => A (4 + i)) 8 (flat 8 (G0)) co0 cd0 li0 cm0 ++ wLy g (fun i => A (9 + i)) 4 (flat 4 (G1)) co1 cd1 li1 cm1))) (A := A) (F := (fun k => shV (b k) (w k) (h k) (bsI (bc k)))) hm
      have pgk1 : ∀ (r1 : Nat) (s1 c1 d1 : Int32) (f1 h1 : Nat → Int32) m, m < 8 → (wDw g d a z o ob r r1 s1 c1 d1 f1 h1 (shAll b w h bc (k + 1)) ++ wPg g A nS nP (nF ps) (nF sp) (flat 8 (G0)) co0 cd0 li0 cm0 (flat 4 (G1)) co1 cd1 li1 cm1 (fun k => shV (b k) (w k) (h k) (bsI (bc k))))[20 + m]? = some (A (14 + m), .inr (7, shV (b m) (w m) (h m) (bsI (bc m)))) := fun r1 s1 c1 d1 f1 h1 m hm => pool_get (X := (wDw g d a z o ob r r1 s1 c1 d1 f1 h1 (shAll b w h bc (k + 1)) ++ ([pgC A nS nP, shA g A, iaC g (A 2) 20 (nF ps), iaC g (A 3) 20 (nF sp)] ++ wLy g (fun i => A (4 + i)) 8 (flat 8 (G0)) co0 cd0 li0 cm0 ++ wLy g (fun i => A (9 + i)) 4 (flat 4 (G1)) co1 cd1 li1 cm1))) (A := A) (F := (fun k => shV (b k) (w k) (h k) (bsI (bc k)))) hm
      refine sw_aload_n (pc := 29) C d_Dw_write_29 rfl rfl ?_
      refine sw_aload_n (pc := 30) C d_Dw_write_30 rfl rfl ?_
      refine sw_iload (pc := 31) C d_Dw_write_31 rfl ?_
      refine sw_aload_n (pc := 33) C d_Dw_write_33 rfl rfl ?_
      by_cases h0 : bc k = 0
      · skip
        have eb : bsI (bc k) = -1 := by unfold bsI; rw [if_pos h0]
        refine sw_callVP (pc := 34) C (c_wrShA l g d a z o ob r r0 st0 sc0 wd f hq (shAll b w h bc k) A nS nP k (w k) (h k) (b k) hb1 hS (by omega) hw1 hh1 (by omega)) sv_Dw_writeShape t_333 rfl rfl rfl [0, 1, 2, 3, 4, 5, 6, 7, 20 + k] (mapc (is := [0, 1, 2, 3, 4, 5, 6, 7]) (cs := wDw g d a z o ob r r0 st0 sc0 wd f hq (shAll b w h bc k) ++ [pgC A nS nP, shA g A]) rfl (by have := pgk k (by omega); rw [eb] at this; exact this)) (by simp [va_nd]; omega) rfl rfl (Nat.le_of_ble_eq_true rfl) (Nat.le_of_ble_eq_true rfl) (Nat.le_of_ble_eq_true rfl) (Nat.le_of_ble_eq_true rfl) (Nat.le_of_ble_eq_true rfl) d_Dw_write_34 (fun v w1 hp => ?_)
        obtain ⟨rfl, r1, s1, c1, d1, f1, h1, rfl⟩ := hp
        refine ⟨rfl, ?_⟩
        refine sw_ws (ws' := wDw g d a z o ob r r1 s1 c1 d1 f1 h1 (shAll b w h bc (k + 1)) ++ wPg g A nS nP (nF ps) (nF sp) (flat 8 (G0)) co0 cd0 li0 cm0 (flat 4 (G1)) co1 cd1 li1 cm1 (fun k => shV (b k) (w k) (h k) (bsI (bc k)))) (by have e9 := set_same (pgk1 r1 s1 c1 d1 f1 h1 k (by omega)); rw [eb] at e9; have e8 : shAll b w h bc (k + 1) = shAll b w h bc k ++ chunk 1 (shBy 0 (w k) (h k) (shY none false (fun _ _ => 0) (sb (b k) (w k) (h k)) (w k) (h k)).1) := (by show shAll b w h bc k ++ chunk 1 (shBy (bc k) (w k) (h k) (shSt b w h bc k)) = _; unfold shSt; rw [if_pos h0, h0]); rw [e8] at e9 ⊢; exact e9) ?_
        refine sw_iincN (pc := 37) C 1 d_Dw_write_37 rfl (by decide) (by decide) rfl ?_
        refine sw_goto (pc := 40) C 20 d_Dw_write_40 (by decide) ?_
        exact ih (k + 1) r1 s1 c1 d1 f1 h1 (by omega)
      obtain ⟨hb2, hw2, hh2, hbc2⟩ := H (bc k - 1) (by omega)
      have eb : bsI (bc k) = nI (bc k - 1) := by unfold bsI; rw [if_neg h0]
      refine sw_callVP (pc := 34) C (c_wrShB l g d a z o ob r r0 st0 sc0 wd f hq (shAll b w h bc k) A nS nP k (w k) (h k) (b k) hb1 hS (by omega) hw1 hh1 (bc k - 1) (b (bc k - 1)) (w (bc k - 1)) (h (bc k - 1)) (bsI (bc (bc k - 1))) (by omega) (by omega) hb2 hw2.2 hh2.2 (by omega)) sv_Dw_writeShape t_333 rfl rfl rfl [0, 1, 2, 3, 4, 5, 6, 7, 20 + k, 20 + (bc k - 1)] (mapc (is := [0, 1, 2, 3, 4, 5, 6, 7, 20 + k]) (cs := wDw g d a z o ob r r0 st0 sc0 wd f hq (shAll b w h bc k) ++ [pgC A nS nP, shA g A] ++ [shC (A (14 + k)) (b k) (w k) (h k) (nI (bc k - 1))]) (mapc (is := [0, 1, 2, 3, 4, 5, 6, 7]) (cs := wDw g d a z o ob r r0 st0 sc0 wd f hq (shAll b w h bc k) ++ [pgC A nS nP, shA g A]) rfl (by have := pgk k (by omega); rw [eb] at this; exact this)) (pgk (bc k - 1) (by omega))) (by simp [va_nd]; omega) rfl rfl (Nat.le_of_ble_eq_true rfl) (Nat.le_of_ble_eq_true rfl) (Nat.le_of_ble_eq_true rfl) (Nat.le_of_ble_eq_true rfl) (Nat.le_of_ble_eq_true rfl) d_Dw_write_34 (fun v w1 hp => ?_)
      obtain ⟨rfl, r1, s1, c1, d1, f1, h1, rfl⟩ := hp
      refine ⟨rfl, ?_⟩
      refine sw_ws (ws' := wDw g d a z o ob r r1 s1 c1 d1 f1 h1 (shAll b w h bc (k + 1)) ++ wPg g A nS nP (nF ps) (nF sp) (flat 8 (G0)) co0 cd0 li0 cm0 (flat 4 (G1)) co1 cd1 li1 cm1 (fun k => shV (b k) (w k) (h k) (bsI (bc k)))) (by have e9 := set_same (pgk1 r1 s1 c1 d1 f1 h1 k (by omega)); have e7 := set_same (pgk1 r1 s1 c1 d1 f1 h1 (bc k - 1) (by omega)); rw [← e9, eb] at e7; have e8 : shAll b w h bc (k + 1) = shAll b w h bc k ++ chunk 1 (shBy (bc k - 1 + 1) (w k) (h k) (shY none true (sb (b (bc k - 1)) (w (bc k - 1)) (h (bc k - 1))) (sb (b k) (w k) (h k)) (w k) (h k)).1) := (by show shAll b w h bc k ++ chunk 1 (shBy (bc k) (w k) (h k) (shSt b w h bc k)) = _; unfold shSt; rw [if_neg h0, show bc k - 1 + 1 = bc k by omega]); rw [eb] at e9; rw [e9] at e7; rw [e8] at e7 e9 ⊢; refine Eq.trans ?_ e7; rw [← e9]; rfl) ?_
      refine sw_iincN (pc := 37) C 1 d_Dw_write_37 rfl (by decide) (by decide) rfl ?_
      refine sw_goto (pc := 40) C 20 d_Dw_write_40 (by decide) ?_
      exact ih (k + 1) r1 s1 c1 d1 f1 h1 (by omega)
  exact key nS 0 r0 st0 sc0 wd f hq (by omega)
