/-! LayeredPage$DocumentReader: a shape -/
theorem mapc {ws : va_W} {is : List Nat} {cs : va_W} {i : Nat} {c : Nat × va_E} (h : is.map (fun i => ws[i]?) = cs.map some) (h2 : ws[i]? = some c) : (is ++ [i]).map (fun i => ws[i]?) = (cs ++ [c]).map some := by simp [h, h2]
theorem set_same {ws : va_W} {i : Nat} {c : Nat × va_E} (h : ws[i]? = some c) : ws.set i c = ws := by
  apply List.ext_getElem?
  intro j
  by_cases e : j = i
  · subst e
    rw [List.getElem?_set_self (List.getElem?_eq_some_iff.mp h).1, h]
  · rw [List.getElem?_set_ne (Ne.symm e)]
def bsI (c : Nat) : Int32 := if c = 0 then -1 else nI (c - 1)
theorem upF_up (F : Nat → List Value) (k : Nat) (u v : List Value) : upF (upF F k u) k v = upF F k v := by
  funext j
  unfold upF
  split <;> rfl
theorem upF_at (F : Nat → List Value) (k : Nat) (v : List Value) : upF F k v k = v := by
  unfold upF
  rw [if_pos rfl]
theorem upF_ne {F : Nat → List Value} {k j : Nat} {v : List Value} (h : j ≠ k) : upF F k v j = F j := by
  unfold upF
  rw [if_neg h]
def shG (l : List Nat) (nS fr sz : Nat) : Prop := 2 ≤ sz ∧ l.getD fr 0 ≤ nS ∧ l.getD (fr + 1) 0 / 16 < 8 ∧ l.getD (fr + 1) 0 % 16 < 8 ∧ nS < 8
/-- the bits of the shape that is read -/
def rdBits (l : List Nat) (P : Nat → Int → Int → Nat) (fr sz : Nat) : Nat := if l.getD fr 0 = 0 then (shY (some (dgt l (fr + 2) (fr + sz))) false (fun _ _ => 0) (fun _ _ => 0) (l.getD (fr + 1) 0 / 16 + 1) (l.getD (fr + 1) 0 % 16 + 1)).2 else (shY (some (dgt l (fr + 2) (fr + sz))) true (P (l.getD fr 0 - 1)) (fun _ _ => 0) (l.getD (fr + 1) 0 / 16 + 1) (l.getD (fr + 1) 0 % 16 + 1)).2
set_option maxRecDepth 100000 in
set_option maxHeartbeats 4000000 in
theorem c_rdSh (l : Launch) (g : Gl) (d a z o ob r r0 : Nat) (i1 i2 i3 i4 wd : Int32) (f hq : Nat → Int32) (l0 : List Nat) (hl : bytesOK l0) (A : Nat → Nat) (nS nP : Nat) (b w h : Nat → Nat) (bs : Nat → Int32) (hS : nS ≤ 8) (H : ∀ k, k < 8 → b k < 2 ^ 64 ∧ w k ≤ 8 ∧ h k ≤ 8) (fr sz : Nat) (hsz : fr + sz ≤ l0.length) : Ct l g y_Dr_readShape b_Dr_readShape 9 (some .int) (rmD 3) [.ref d, .ref ob, .int (nI fr), .int (nI sz), .ref (A 0)] (wDr g d a z o ob r r0 i1 i2 i3 i4 wd f hq l0 ++ ([pgC A nS nP, shA g A] ++ pool A (fun k => shV (b k) (w k) (h k) (bs k)))) (fun u q => (u = some (.int (nI 0)) ∧ shG l0 nS fr sz ∧ ∃ r1 j1 j2 j3 j4 d1 f1 h1, q = wDr g d a z o ob r r1 j1 j2 j3 j4 d1 f1 h1 l0 ++ ([pgC A (nS + 1) nP, shA g A] ++ pool A (upF (fun k => shV (b k) (w k) (h k) (bs k)) nS (shV (rdBits l0 (fun i => sb (b i) (w i) (h i)) fr sz) (l0.getD (fr + 1) 0 / 16 + 1) (l0.getD (fr + 1) 0 % 16 + 1) (bsI (l0.getD fr 0)))))) ∨ (u = some (.int (nI 4)) ∧ ¬ shG l0 nS fr sz ∧ q = wDr g d a z o ob r r0 i1 i2 i3 i4 wd f hq l0 ++ ([pgC A nS nP, shA g A] ++ pool A (fun k => shV (b k) (w k) (h k) (bs k))))) := by
  refine ct_of [some (.ref d), some (.ref ob), some (.int (nI fr)), some (.int (nI sz)), some (.ref (A 0)), none, none, none, none] (by decide) (Nat.le_of_ble_eq_true rfl) rfl ?_
  intro X C E
  have hl1 := hl.1
  have hb0 := hl.2 fr
  have hb1 := hl.2 (fr + 1)
  refine sw_iload_n (pc := 0) C d_Dr_readShape_0 rfl rfl ?_
  refine sw_iconst (pc := 1) C (nI 2) d_Dr_readShape_1 (by decide) ?_
  refine sw_icmp_ltN (pc := 2) C 18 (by omega) (by omega) d_Dr_readShape_2 (by decide) (fun g1 => ?_) (fun g1 => ?_)
  · skip
    refine sw_iconst (pc := 18) C (nI 4) d_Dr_readShape_18 (by decide) ?_
    exact sw_iret (pc := 19) C E rfl (Nat.le_of_ble_eq_true rfl) (Nat.le_of_ble_eq_true rfl) d_Dr_readShape_19 (Or.inr ⟨rfl, fun q => absurd q.1 (by omega), rfl⟩)
  refine sw_aload_n (pc := 5) C d_Dr_readShape_5 rfl rfl ?_
  refine sw_iload_n (pc := 6) C d_Dr_readShape_6 rfl rfl ?_
  refine sw_callVR (pc := 7) C (c_Oct_at l g ob r l0 hl.1 (nI fr)) sv_Oct_at t_478 rfl rfl rfl [1, 5] rfl rfl rfl rfl (Nat.le_of_ble_eq_true rfl) (Nat.le_of_ble_eq_true rfl) (Nat.le_of_ble_eq_true rfl) (Nat.le_of_ble_eq_true rfl) (Nat.le_of_ble_eq_true rfl) d_Dr_readShape_7 (fun v w1 hp => ?_)
  obtain ⟨rfl, rfl⟩ := hp
  refine ⟨rfl, ?_⟩
  refine sw_topi (z := nI (l0.getD fr 0)) (octAt_in (by omega) hl.1) ?_
  refine sw_aload (pc := 10) C d_Dr_readShape_10 rfl ?_
  refine sw_get (pc := 12) C inPg 6 rfl rfl 1 (by decide) t_191 rfl rfl d_Dr_readShape_12 ?_
  refine sw_topi (z := nI nS) rfl ?_
  refine sw_icmp_leN (pc := 15) C 20 (by omega) (by omega) d_Dr_readShape_15 (by decide) (fun g2 => ?_) (fun g2 => ?_)
  · skip
    have tail : SW X g 9 0 0 (wDr g d a z o ob r r0 i1 i2 i3 i4 wd f hq l0 ++ ([pgC A nS nP, shA g A] ++ pool A (fun k => shV (b k) (w k) (h k) (bs k)))) 39 [some (.ref d), some (.ref ob), some (.int (nI fr)), some (.int (nI sz)), some (.ref (A 0)), none, none, none, none] [.int (bsI (l0.getD fr 0))] := by
      refine sw_istore (pc := 39) C d_Dr_readShape_39 (by decide) rfl ?_
      refine sw_aload_n (pc := 41) C d_Dr_readShape_41 rfl rfl ?_
      refine sw_iload_n (pc := 42) C d_Dr_readShape_42 rfl rfl ?_
      refine sw_iconst (pc := 43) C (nI 1) d_Dr_readShape_43 (by decide) ?_
      refine sw_iadd (pc := 44) C d_Dr_readShape_44 ?_
      refine sw_topi (z := nI (fr + 1)) (nI_add _ _) ?_
      refine sw_callVR (pc := 45) C (c_Oct_at l g ob r l0 hl.1 (nI (fr + 1))) sv_Oct_at t_478 rfl rfl rfl [1, 5] rfl rfl rfl rfl (Nat.le_of_ble_eq_true rfl) (Nat.le_of_ble_eq_true rfl) (Nat.le_of_ble_eq_true rfl) (Nat.le_of_ble_eq_true rfl) (Nat.le_of_ble_eq_true rfl) d_Dr_readShape_45 (fun v w1 hp => ?_)
      obtain ⟨rfl, rfl⟩ := hp
      refine ⟨rfl, ?_⟩
      refine sw_topi (z := nI (l0.getD (fr + 1) 0)) (octAt_in (by omega) hl.1) ?_
      refine sw_bipush (pc := 48) C (nI 16) d_Dr_readShape_48 (by decide) ?_
      refine sw_idiv (pc := 50) C d_Dr_readShape_50 (by decide) ?_
      refine sw_topi (z := nI ((l0.getD (fr + 1) 0) / 16)) (pk_div (by omega) (by omega) (by omega)) ?_
      refine sw_iconst (pc := 51) C (nI 1) d_Dr_readShape_51 (by decide) ?_
      refine sw_iadd (pc := 52) C d_Dr_readShape_52 ?_
      refine sw_topi (z := nI (((l0.getD (fr + 1) 0) / 16) + 1)) (nI_add _ _) ?_
      refine sw_istore (pc := 53) C d_Dr_readShape_53 (by decide) rfl ?_
      refine sw_aload_n (pc := 55) C d_Dr_readShape_55 rfl rfl ?_
      refine sw_iload_n (pc := 56) C d_Dr_readShape_56 rfl rfl ?_
      refine sw_iconst (pc := 57) C (nI 1) d_Dr_readShape_57 (by decide) ?_
      refine sw_iadd (pc := 58) C d_Dr_readShape_58 ?_
      refine sw_topi (z := nI (fr + 1)) (nI_add _ _) ?_
      refine sw_callVR (pc := 59) C (c_Oct_at l g ob r l0 hl.1 (nI (fr + 1))) sv_Oct_at t_478 rfl rfl rfl [1, 5] rfl rfl rfl rfl (Nat.le_of_ble_eq_true rfl) (Nat.le_of_ble_eq_true rfl) (Nat.le_of_ble_eq_true rfl) (Nat.le_of_ble_eq_true rfl) (Nat.le_of_ble_eq_true rfl) d_Dr_readShape_59 (fun v w1 hp => ?_)
      obtain ⟨rfl, rfl⟩ := hp
      refine ⟨rfl, ?_⟩
      refine sw_topi (z := nI (l0.getD (fr + 1) 0)) (octAt_in (by omega) hl.1) ?_
      refine sw_bipush (pc := 62) C (nI 16) d_Dr_readShape_62 (by decide) ?_
      refine sw_irem (pc := 64) C d_Dr_readShape_64 (by decide) ?_
      refine sw_topi (z := nI ((l0.getD (fr + 1) 0) % 16)) (pk_rem (by omega) (by omega) (by omega)) ?_
      refine sw_iconst (pc := 65) C (nI 1) d_Dr_readShape_65 (by decide) ?_
      refine sw_iadd (pc := 66) C d_Dr_readShape_66 ?_
      refine sw_topi (z := nI (((l0.getD (fr + 1) 0) % 16) + 1)) (nI_add _ _) ?_
      refine sw_istore (pc := 67) C d_Dr_readShape_67 (by decide) rfl ?_
      refine sw_iload (pc := 69) C d_Dr_readShape_69 rfl ?_
      refine sw_callSNR (pc := 71) C (c_side l g (nI (l0.getD (fr + 1) 0 / 16 + 1))) ss_LP_isShapeSide "LayeredPage" q_488 [] rfl rfl rfl rfl (Nat.le_of_ble_eq_true rfl) (Nat.le_of_ble_eq_true rfl) (Nat.le_of_ble_eq_true rfl) (Nat.le_of_ble_eq_true rfl) (Nat.le_of_ble_eq_true rfl) d_Dr_readShape_71 (fun v w1 hp => ?_)
      obtain ⟨rfl, rfl⟩ := hp
      refine ⟨rfl, ?_⟩
      refine sw_if_eqB (pc := 74) C 85 d_Dr_readShape_74 (by decide) (fun g3 => ?_) (fun g3 => ?_)
      · skip
        rw [sdB_nat (by omega)] at g3; have g3 := of_decide_eq_false g3
        refine sw_iconst (pc := 85) C (nI 4) d_Dr_readShape_85 (by decide) ?_
        exact sw_iret (pc := 86) C E rfl (Nat.le_of_ble_eq_true rfl) (Nat.le_of_ble_eq_true rfl) d_Dr_readShape_86 (Or.inr ⟨rfl, fun q => absurd q.2.2.1 (by omega), rfl⟩)
      rw [sdB_nat (by omega)] at g3; have g3 := of_decide_eq_true g3
      refine sw_iload (pc := 77) C d_Dr_readShape_77 rfl ?_
      refine sw_callSNR (pc := 79) C (c_side l g (nI (l0.getD (fr + 1) 0 % 16 + 1))) ss_LP_isShapeSide "LayeredPage" q_488 [] rfl rfl rfl rfl (Nat.le_of_ble_eq_true rfl) (Nat.le_of_ble_eq_true rfl) (Nat.le_of_ble_eq_true rfl) (Nat.le_of_ble_eq_true rfl) (Nat.le_of_ble_eq_true rfl) d_Dr_readShape_79 (fun v w1 hp => ?_)
      obtain ⟨rfl, rfl⟩ := hp
      refine ⟨rfl, ?_⟩
      refine sw_if_neB (pc := 82) C 87 d_Dr_readShape_82 (by decide) (fun g4 => ?_) (fun g4 => ?_)
      · skip
        rw [sdB_nat (by omega)] at g4; have g4 := of_decide_eq_true g4
        refine sw_aload (pc := 87) C d_Dr_readShape_87 rfl ?_
        refine sw_lconst (pc := 89) C 0 d_Dr_readShape_89 (by decide) ?_
        refine sw_topl (z := lN 0) rfl ?_
        refine sw_iload (pc := 90) C d_Dr_readShape_90 rfl ?_
        refine sw_iload (pc := 92) C d_Dr_readShape_92 rfl ?_
        refine sw_iload (pc := 94) C d_Dr_readShape_94 rfl ?_
        by_cases h8 : nS = 8
        · subst h8
          refine sw_callVR (pc := 96) C (c_addShapeF l g A nP (lN 0) (l0.getD (fr + 1) 0 / 16 + 1) (l0.getD (fr + 1) 0 % 16 + 1) (bsI (l0.getD fr 0))) sv_Pg_addShape t_489 rfl rfl rfl [6] rfl rfl rfl rfl (Nat.le_of_ble_eq_true rfl) (Nat.le_of_ble_eq_true rfl) (Nat.le_of_ble_eq_true rfl) (Nat.le_of_ble_eq_true rfl) (Nat.le_of_ble_eq_true rfl) d_Dr_readShape_96 (fun v w1 hp => ?_)
          obtain ⟨rfl, rfl⟩ := hp
          refine ⟨rfl, ?_⟩
          refine sw_istore (pc := 99) C d_Dr_readShape_99 (by decide) rfl ?_
          refine sw_iload (pc := 101) C d_Dr_readShape_101 rfl ?_
          refine sw_iconst (pc := 103) C (-1) d_Dr_readShape_103 (by decide) ?_
          refine sw_icmp_ne (pc := 104) C 109 d_Dr_readShape_104 (by decide) (fun g5 => ?_) (fun g5 => ?_)
          · skip
            exact absurd rfl g5
          refine sw_iconst (pc := 107) C (nI 4) d_Dr_readShape_107 (by decide) ?_
          exact sw_iret (pc := 108) C E rfl (Nat.le_of_ble_eq_true rfl) (Nat.le_of_ble_eq_true rfl) d_Dr_readShape_108 (Or.inr ⟨rfl, fun q => absurd q.2.2.2.2 (by omega), rfl⟩)
        refine sw_callVP (pc := 96) C (c_addShape l g A nS nP (b nS) (w nS) (h nS) (bs nS) 0 (l0.getD (fr + 1) 0 / 16 + 1) (l0.getD (fr + 1) 0 % 16 + 1) (bsI (l0.getD fr 0)) (by omega)) sv_Pg_addShape t_489 rfl rfl rfl [6, 7, 8 + nS] (mapc (is := [6, 7]) (cs := [pgC A nS nP, shA g A]) rfl (pool_get (X := wDr g d a z o ob r r0 i1 i2 i3 i4 wd f hq l0 ++ [pgC A nS nP, shA g A]) (A := A) (F := (fun k => shV (b k) (w k) (h k) (bs k))) (by omega))) (by simp [va_nd]; omega) rfl rfl (Nat.le_of_ble_eq_true rfl) (Nat.le_of_ble_eq_true rfl) (Nat.le_of_ble_eq_true rfl) (Nat.le_of_ble_eq_true rfl) (Nat.le_of_ble_eq_true rfl) d_Dr_readShape_96 (fun v w1 hp => ?_)
        obtain ⟨rfl, rfl⟩ := hp
        refine ⟨rfl, ?_⟩
        refine sw_ws (ws' := wDr g d a z o ob r r0 i1 i2 i3 i4 wd f hq l0 ++ ([pgC A (nS + 1) nP, shA g A] ++ pool A (upF (fun k => shV (b k) (w k) (h k) (bs k)) nS (shV 0 (l0.getD (fr + 1) 0 / 16 + 1) (l0.getD (fr + 1) 0 % 16 + 1) (bsI (l0.getD fr 0)))))) (pool_set (X := wDr g d a z o ob r r0 i1 i2 i3 i4 wd f hq l0 ++ [pgC A (nS + 1) nP, shA g A]) (by omega)) ?_
        refine sw_istore (pc := 99) C d_Dr_readShape_99 (by decide) rfl ?_
        refine sw_iload (pc := 101) C d_Dr_readShape_101 rfl ?_
        refine sw_iconst (pc := 103) C (-1) d_Dr_readShape_103 (by decide) ?_
        refine sw_icmp_ne (pc := 104) C 109 d_Dr_readShape_104 (by decide) (fun g5 => ?_) (fun g5 => ?_)
        · skip
          refine sw_aload_n (pc := 109) C d_Dr_readShape_109 rfl rfl ?_
          refine sw_get (pc := 110) C inDr 0 rfl rfl 0 (by decide) t_121 rfl rfl d_Dr_readShape_110 ?_
          refine sw_aload_n (pc := 113) C d_Dr_readShape_113 rfl rfl ?_
          refine sw_get (pc := 114) C inOct 1 rfl rfl 0 (by decide) t_31 rfl rfl d_Dr_readShape_114 ?_
          refine sw_iload_n (pc := 117) C d_Dr_readShape_117 rfl rfl ?_
          refine sw_iconst (pc := 118) C (nI 2) d_Dr_readShape_118 (by decide) ?_
          refine sw_iadd (pc := 119) C d_Dr_readShape_119 ?_
          refine sw_topi (z := nI (fr + 2)) (nI_add _ _) ?_
          refine sw_iload_n (pc := 120) C d_Dr_readShape_120 rfl rfl ?_
          refine sw_iload_n (pc := 121) C d_Dr_readShape_121 rfl rfl ?_
          refine sw_iadd (pc := 122) C d_Dr_readShape_122 ?_
          refine sw_topi (z := nI (fr + sz)) (nI_add _ _) ?_
          refine sw_callVP (pc := 123) C (c_Cr_begin l g a z o r r0 l0 (fr + 2) (fr + sz) wd i1 i2 i3 i4 f hq (by omega) (by omega) hl.2) sv_Cr_begin t_490 rfl rfl rfl [2, 3, 4, 5] rfl rfl rfl rfl (Nat.le_of_ble_eq_true rfl) (Nat.le_of_ble_eq_true rfl) (Nat.le_of_ble_eq_true rfl) (Nat.le_of_ble_eq_true rfl) (Nat.le_of_ble_eq_true rfl) d_Dr_readShape_123 (fun v w1 hp => ?_)
          obtain ⟨rfl, rfl⟩ := hp
          refine ⟨rfl, ?_⟩
          refine sw_ws (ws' := [(d, .inr (2, [.ref a])), (ob, .inr (5, [.ref r, .int (nI l0.length)]))] ++ wKr g a z o r l0 (fr + 2) (fr + sz) (kInit (some (dgt l0 (fr + 2) (fr + sz)))) ++ ([pgC A (nS + 1) nP, shA g A] ++ pool A (upF (fun k => shV (b k) (w k) (h k) (bs k)) nS (shV 0 (l0.getD (fr + 1) 0 / 16 + 1) (l0.getD (fr + 1) 0 % 16 + 1) (bsI (l0.getD fr 0)))))) rfl ?_
          refine sw_aload (pc := 126) C d_Dr_readShape_126 rfl ?_
          refine sw_iload (pc := 128) C d_Dr_readShape_128 rfl ?_
          refine sw_aload_n (pc := 130) C d_Dr_readShape_130 rfl rfl ?_
          refine sw_get (pc := 131) C inDr 0 rfl rfl 0 (by decide) t_121 rfl rfl d_Dr_readShape_131 ?_
          by_cases h0 : l0.getD fr 0 = 0
          · skip
            have eb : (bsI (l0.getD fr 0)) = -1 := by unfold bsI; rw [if_pos h0]
            have ebt : (rdBits l0 (fun i => sb (b i) (w i) (h i)) fr sz) = (shY (some (dgt l0 (fr + 2) (fr + sz))) false (fun _ _ => 0) (fun _ _ => 0) (l0.getD (fr + 1) 0 / 16 + 1) (l0.getD (fr + 1) 0 % 16 + 1)).2 := by unfold rdBits; rw [if_pos h0]
            refine sw_callVP (pc := 134) C (c_csh_rA l g A (nS + 1) nP nS (l0.getD (fr + 1) 0 / 16 + 1) (l0.getD (fr + 1) 0 % 16 + 1) (by omega) (by omega) g3.2 g4.2 (bsI (l0.getD fr 0)) (by rw [eb]; exact inR_lo (by decide)) a z o r l0 (fr + 2) (fr + sz) (by omega) (by omega) hl.2) sv_Pg_codeShape t_499 rfl rfl rfl [6, 7, 2, 3, 4, 5, 8 + nS] (mapc (is := [6, 7, 2, 3, 4, 5]) (cs := [pgC A (nS + 1) nP, shA g A] ++ wKr g a z o r l0 (fr + 2) (fr + sz) (kInit (some (dgt l0 (fr + 2) (fr + sz))))) rfl (by have e9 := pool_get (X := [(d, .inr (2, [.ref a])), (ob, .inr (5, [.ref r, .int (nI l0.length)]))] ++ wKr g a z o r l0 (fr + 2) (fr + sz) (kInit (some (dgt l0 (fr + 2) (fr + sz)))) ++ [pgC A (nS + 1) nP, shA g A]) (A := A) (F := (upF (fun k => shV (b k) (w k) (h k) (bs k)) nS (shV 0 (l0.getD (fr + 1) 0 / 16 + 1) (l0.getD (fr + 1) 0 % 16 + 1) (bsI (l0.getD fr 0))))) (show nS < 8 by omega); rw [upF_at] at e9; exact e9)) (by simp [va_nd]; omega) rfl rfl (Nat.le_of_ble_eq_true rfl) (Nat.le_of_ble_eq_true rfl) (Nat.le_of_ble_eq_true rfl) (Nat.le_of_ble_eq_true rfl) (Nat.le_of_ble_eq_true rfl) d_Dr_readShape_134 (fun v w1 hp => ?_)
            obtain ⟨rfl, rfl⟩ := hp
            refine ⟨rfl, ?_⟩
            refine sw_ws (ws' := [(d, .inr (2, [.ref a])), (ob, .inr (5, [.ref r, .int (nI l0.length)]))] ++ wKr g a z o r l0 (fr + 2) (fr + sz) (shY (some (dgt l0 (fr + 2) (fr + sz))) false (fun _ _ => 0) (fun _ _ => 0) (l0.getD (fr + 1) 0 / 16 + 1) (l0.getD (fr + 1) 0 % 16 + 1)).1 ++ ([pgC A (nS + 1) nP, shA g A] ++ pool A (upF (fun k => shV (b k) (w k) (h k) (bs k)) nS (shV (rdBits l0 (fun i => sb (b i) (w i) (h i)) fr sz) (l0.getD (fr + 1) 0 / 16 + 1) (l0.getD (fr + 1) 0 % 16 + 1) (bsI (l0.getD fr 0)))))) (by rw [ebt]; have e9 := pool_set (X := [(d, .inr (2, [.ref a])), (ob, .inr (5, [.ref r, .int (nI l0.length)]))] ++ wKr g a z o r l0 (fr + 2) (fr + sz) (shY (some (dgt l0 (fr + 2) (fr + sz))) false (fun _ _ => 0) (fun _ _ => 0) (l0.getD (fr + 1) 0 / 16 + 1) (l0.getD (fr + 1) 0 % 16 + 1)).1 ++ [pgC A (nS + 1) nP, shA g A]) (A := A) (F := (upF (fun k => shV (b k) (w k) (h k) (bs k)) nS (shV 0 (l0.getD (fr + 1) 0 / 16 + 1) (l0.getD (fr + 1) 0 % 16 + 1) (bsI (l0.getD fr 0))))) (k := nS) (v := shV (shY (some (dgt l0 (fr + 2) (fr + sz))) false (fun _ _ => 0) (fun _ _ => 0) (l0.getD (fr + 1) 0 / 16 + 1) (l0.getD (fr + 1) 0 % 16 + 1)).2 (l0.getD (fr + 1) 0 / 16 + 1) (l0.getD (fr + 1) 0 % 16 + 1) (bsI (l0.getD fr 0))) (by omega); rw [upF_up] at e9; exact e9) ?_
            refine sw_iconst (pc := 137) C (nI 0) d_Dr_readShape_137 (by decide) ?_
            exact sw_iret (pc := 138) C E rfl (Nat.le_of_ble_eq_true rfl) (Nat.le_of_ble_eq_true rfl) d_Dr_readShape_138 (Or.inl ⟨rfl, ⟨by omega, by omega, by omega, by omega, by omega⟩, _, _, _, _, _, _, _, _, rfl⟩)
          have eb : (bsI (l0.getD fr 0)) = nI (l0.getD fr 0 - 1) := by unfold bsI; rw [if_neg h0]
          have ebt : (rdBits l0 (fun i => sb (b i) (w i) (h i)) fr sz) = (shY (some (dgt l0 (fr + 2) (fr + sz))) true (sb (b (l0.getD fr 0 - 1)) (w (l0.getD fr 0 - 1)) (h (l0.getD fr 0 - 1))) (fun _ _ => 0) (l0.getD (fr + 1) 0 / 16 + 1) (l0.getD (fr + 1) 0 % 16 + 1)).2 := by unfold rdBits; rw [if_neg h0]
          obtain ⟨k1, k2, k3⟩ := H (l0.getD fr 0 - 1) (by omega)
          refine sw_callVP (pc := 134) C (c_csh_rB l g A (nS + 1) nP nS (l0.getD (fr + 1) 0 / 16 + 1) (l0.getD (fr + 1) 0 % 16 + 1) (by omega) (by omega) g3.2 g4.2 (l0.getD fr 0 - 1) (b (l0.getD fr 0 - 1)) (w (l0.getD fr 0 - 1)) (h (l0.getD fr 0 - 1)) (bs (l0.getD fr 0 - 1)) (by omega) (by omega) k1 k2 k3 a z o r l0 (fr + 2) (fr + sz) (by omega) (by omega) hl.2) sv_Pg_codeShape t_499 rfl rfl rfl [6, 7, 2, 3, 4, 5, 8 + nS, 8 + (l0.getD fr 0 - 1)] (mapc (is := [6, 7, 2, 3, 4, 5, 8 + nS]) (cs := [pgC A (nS + 1) nP, shA g A] ++ wKr g a z o r l0 (fr + 2) (fr + sz) (kInit (some (dgt l0 (fr + 2) (fr + sz)))) ++ [shC (A (14 + nS)) 0 (l0.getD (fr + 1) 0 / 16 + 1) (l0.getD (fr + 1) 0 % 16 + 1) (nI (l0.getD fr 0 - 1))]) (mapc (is := [6, 7, 2, 3, 4, 5]) (cs := [pgC A (nS + 1) nP, shA g A] ++ wKr g a z o r l0 (fr + 2) (fr + sz) (kInit (some (dgt l0 (fr + 2) (fr + sz))))) rfl (by have e9 := pool_get (X := [(d, .inr (2, [.ref a])), (ob, .inr (5, [.ref r, .int (nI l0.length)]))] ++ wKr g a z o r l0 (fr + 2) (fr + sz) (kInit (some (dgt l0 (fr + 2) (fr + sz)))) ++ [pgC A (nS + 1) nP, shA g A]) (A := A) (F := (upF (fun k => shV (b k) (w k) (h k) (bs k)) nS (shV 0 (l0.getD (fr + 1) 0 / 16 + 1) (l0.getD (fr + 1) 0 % 16 + 1) (bsI (l0.getD fr 0))))) (show nS < 8 by omega); rw [upF_at] at e9; exact e9.trans (by rw [eb]))) (by have e9 := pool_get (X := [(d, .inr (2, [.ref a])), (ob, .inr (5, [.ref r, .int (nI l0.length)]))] ++ wKr g a z o r l0 (fr + 2) (fr + sz) (kInit (some (dgt l0 (fr + 2) (fr + sz)))) ++ [pgC A (nS + 1) nP, shA g A]) (A := A) (F := (upF (fun k => shV (b k) (w k) (h k) (bs k)) nS (shV 0 (l0.getD (fr + 1) 0 / 16 + 1) (l0.getD (fr + 1) 0 % 16 + 1) (bsI (l0.getD fr 0))))) (show (l0.getD fr 0 - 1) < 8 by omega); rw [upF_ne (by omega)] at e9; exact e9)) (by simp [va_nd, -List.getD_eq_getElem?_getD]; omega) rfl rfl (Nat.le_of_ble_eq_true rfl) (Nat.le_of_ble_eq_true rfl) (Nat.le_of_ble_eq_true rfl) (Nat.le_of_ble_eq_true rfl) (Nat.le_of_ble_eq_true rfl) d_Dr_readShape_134 (fun v w1 hp => ?_)
          obtain ⟨rfl, rfl⟩ := hp
          refine ⟨rfl, ?_⟩
          refine sw_ws (ws' := [(d, .inr (2, [.ref a])), (ob, .inr (5, [.ref r, .int (nI l0.length)]))] ++ wKr g a z o r l0 (fr + 2) (fr + sz) (shY (some (dgt l0 (fr + 2) (fr + sz))) true (sb (b (l0.getD fr 0 - 1)) (w (l0.getD fr 0 - 1)) (h (l0.getD fr 0 - 1))) (fun _ _ => 0) (l0.getD (fr + 1) 0 / 16 + 1) (l0.getD (fr + 1) 0 % 16 + 1)).1 ++ ([pgC A (nS + 1) nP, shA g A] ++ pool A (upF (fun k => shV (b k) (w k) (h k) (bs k)) nS (shV (rdBits l0 (fun i => sb (b i) (w i) (h i)) fr sz) (l0.getD (fr + 1) 0 / 16 + 1) (l0.getD (fr + 1) 0 % 16 + 1) (bsI (l0.getD fr 0)))))) (by rw [ebt]; have e9 := pool_set (X := [(d, .inr (2, [.ref a])), (ob, .inr (5, [.ref r, .int (nI l0.length)]))] ++ wKr g a z o r l0 (fr + 2) (fr + sz) (shY (some (dgt l0 (fr + 2) (fr + sz))) true (sb (b (l0.getD fr 0 - 1)) (w (l0.getD fr 0 - 1)) (h (l0.getD fr 0 - 1))) (fun _ _ => 0) (l0.getD (fr + 1) 0 / 16 + 1) (l0.getD (fr + 1) 0 % 16 + 1)).1 ++ [pgC A (nS + 1) nP, shA g A]) (A := A) (F := (upF (fun k => shV (b k) (w k) (h k) (bs k)) nS (shV 0 (l0.getD (fr + 1) 0 / 16 + 1) (l0.getD (fr + 1) 0 % 16 + 1) (bsI (l0.getD fr 0))))) (k := nS) (v := shV (shY (some (dgt l0 (fr + 2) (fr + sz))) true (sb (b (l0.getD fr 0 - 1)) (w (l0.getD fr 0 - 1)) (h (l0.getD fr 0 - 1))) (fun _ _ => 0) (l0.getD (fr + 1) 0 / 16 + 1) (l0.getD (fr + 1) 0 % 16 + 1)).2 (l0.getD (fr + 1) 0 / 16 + 1) (l0.getD (fr + 1) 0 % 16 + 1) (bsI (l0.getD fr 0))) (by omega); rw [upF_up] at e9; have e8 := pool_get (X := [(d, .inr (2, [.ref a])), (ob, .inr (5, [.ref r, .int (nI l0.length)]))] ++ wKr g a z o r l0 (fr + 2) (fr + sz) (shY (some (dgt l0 (fr + 2) (fr + sz))) true (sb (b (l0.getD fr 0 - 1)) (w (l0.getD fr 0 - 1)) (h (l0.getD fr 0 - 1))) (fun _ _ => 0) (l0.getD (fr + 1) 0 / 16 + 1) (l0.getD (fr + 1) 0 % 16 + 1)).1 ++ [pgC A (nS + 1) nP, shA g A]) (A := A) (F := upF (fun k => shV (b k) (w k) (h k) (bs k)) nS (shV (shY (some (dgt l0 (fr + 2) (fr + sz))) true (sb (b (l0.getD fr 0 - 1)) (w (l0.getD fr 0 - 1)) (h (l0.getD fr 0 - 1))) (fun _ _ => 0) (l0.getD (fr + 1) 0 / 16 + 1) (l0.getD (fr + 1) 0 % 16 + 1)).2 (l0.getD (fr + 1) 0 / 16 + 1) (l0.getD (fr + 1) 0 % 16 + 1) (bsI (l0.getD fr 0)))) (show (l0.getD fr 0 - 1) < 8 by omega); rw [upF_ne (by omega)] at e8; have e7 := set_same e8; rw [← e9, eb] at e7; rw [eb] at e9; rw [eb]; exact e7.trans e9) ?_
          refine sw_iconst (pc := 137) C (nI 0) d_Dr_readShape_137 (by decide) ?_
          exact sw_iret (pc := 138) C E rfl (Nat.le_of_ble_eq_true rfl) (Nat.le_of_ble_eq_true rfl) d_Dr_readShape_138 (Or.inl ⟨rfl, ⟨by omega, by omega, by omega, by omega, by omega⟩, _, _, _, _, _, _, _, _, rfl⟩)
        exact absurd (show nI nS = -1 from g5) (by intro e9; have e8 := nI_toInt (n := nS) (by omega); rw [e9] at e8; simp at e8)
      rw [sdB_nat (by omega)] at g4; have g4 := of_decide_eq_false g4
      refine sw_iconst (pc := 85) C (nI 4) d_Dr_readShape_85 (by decide) ?_
      exact sw_iret (pc := 86) C E rfl (Nat.le_of_ble_eq_true rfl) (Nat.le_of_ble_eq_true rfl) d_Dr_readShape_86 (Or.inr ⟨rfl, fun q => absurd q.2.2.2.1 (by omega), rfl⟩)
    refine sw_aload_n (pc := 20) C d_Dr_readShape_20 rfl rfl ?_
    refine sw_iload_n (pc := 21) C d_Dr_readShape_21 rfl rfl ?_
    refine sw_callVR (pc := 22) C (c_Oct_at l g ob r l0 hl.1 (nI fr)) sv_Oct_at t_478 rfl rfl rfl [1, 5] rfl rfl rfl rfl (Nat.le_of_ble_eq_true rfl) (Nat.le_of_ble_eq_true rfl) (Nat.le_of_ble_eq_true rfl) (Nat.le_of_ble_eq_true rfl) (Nat.le_of_ble_eq_true rfl) d_Dr_readShape_22 (fun v w1 hp => ?_)
    obtain ⟨rfl, rfl⟩ := hp
    refine ⟨rfl, ?_⟩
    refine sw_topi (z := nI (l0.getD fr 0)) (octAt_in (by omega) hl.1) ?_
    refine sw_if_neN (pc := 25) C 32 (by omega) d_Dr_readShape_25 (by decide) (fun g6 => ?_) (fun g6 => ?_)
    · skip
      refine sw_aload_n (pc := 32) C d_Dr_readShape_32 rfl rfl ?_
      refine sw_iload_n (pc := 33) C d_Dr_readShape_33 rfl rfl ?_
      refine sw_callVR (pc := 34) C (c_Oct_at l g ob r l0 hl.1 (nI fr)) sv_Oct_at t_478 rfl rfl rfl [1, 5] rfl rfl rfl rfl (Nat.le_of_ble_eq_true rfl) (Nat.le_of_ble_eq_true rfl) (Nat.le_of_ble_eq_true rfl) (Nat.le_of_ble_eq_true rfl) (Nat.le_of_ble_eq_true rfl) d_Dr_readShape_34 (fun v w1 hp => ?_)
      obtain ⟨rfl, rfl⟩ := hp
      refine ⟨rfl, ?_⟩
      refine sw_topi (z := nI (l0.getD fr 0)) (octAt_in (by omega) hl.1) ?_
      refine sw_iconst (pc := 37) C (nI 1) d_Dr_readShape_37 (by decide) ?_
      refine sw_isub (pc := 38) C d_Dr_readShape_38 ?_
      refine sw_topi (z := nI ((l0.getD fr 0) - 1)) (pk_sub (by omega)) ?_
      refine sw_topi (z := (bsI (l0.getD fr 0))) (by unfold bsI; rw [if_neg (by omega)]) ?_
      exact tail
    refine sw_iconst (pc := 28) C (-1) d_Dr_readShape_28 (by decide) ?_
    refine sw_goto (pc := 29) C 39 d_Dr_readShape_29 (by decide) ?_
    refine sw_topi (z := (bsI (l0.getD fr 0))) (by unfold bsI; rw [if_pos (by omega)]) ?_
    exact tail
  refine sw_iconst (pc := 18) C (nI 4) d_Dr_readShape_18 (by decide) ?_
  exact sw_iret (pc := 19) C E rfl (Nat.le_of_ble_eq_true rfl) (Nat.le_of_ble_eq_true rfl) d_Dr_readShape_19 (Or.inr ⟨rfl, fun q => absurd q.2.1 (by omega), rfl⟩)
