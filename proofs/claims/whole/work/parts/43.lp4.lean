/-! LayeredPage: clear, place, encode, decode -/
set_option maxRecDepth 100000 in
set_option maxHeartbeats 4000000 in
theorem c_clear (l : Launch) (g : Gl) (x ob dw dr : Nat) (A B S : Nat → Nat) (hp : Bool) (nS nP : Nat) (ce0 co0 cd0 li0 : Nat → Int32) (cm0 : Bool) (ce1 co1 cd1 li1 : Nat → Int32) (cm1 : Bool) : Ct l g y_LP_clear b_LP_clear 1 none (rmD 3) [.ref x] (lpC x ob dw dr A B S hp :: (pgC A nS nP :: (wLy g (fun i => A (4 + i)) 8 ce0 co0 cd0 li0 cm0 ++ wLy g (fun i => A (9 + i)) 4 ce1 co1 cd1 li1 cm1))) (fun u w => u = none ∧ w = lpC x ob dw dr A B S hp :: (pgC A 0 0 :: (wLy g (fun i => A (4 + i)) 8 (fun _ => nI 0) (fun _ => nI 0) cd0 li0 false ++ wLy g (fun i => A (9 + i)) 4 (fun _ => nI 0) (fun _ => nI 0) cd1 li1 false))) := by
  refine ct_of [some (.ref x)] (by decide) (Nat.le_of_ble_eq_true rfl) rfl ?_
  intro X C E
  refine sw_aload_n (pc := 0) C d_LP_clear_0 rfl rfl ?_
  refine sw_get (pc := 1) C inLP 0 rfl rfl 3 (by decide) t_227 rfl rfl d_LP_clear_1 ?_
  refine sw_callVP (pc := 4) C (c_Pg_empty l g A nS nP ce0 co0 cd0 li0 ce1 co1 cd1 li1 cm0 cm1) sv_Pg_makeEmpty t_301 rfl rfl rfl [1, 2, 3, 4, 5, 6, 7, 8, 9, 10, 11] rfl rfl rfl rfl (Nat.le_of_ble_eq_true rfl) (Nat.le_of_ble_eq_true rfl) (Nat.le_of_ble_eq_true rfl) (Nat.le_of_ble_eq_true rfl) (Nat.le_of_ble_eq_true rfl) d_LP_clear_4 (fun v w1 hp => ?_)
  obtain ⟨rfl, rfl⟩ := hp
  refine ⟨rfl, ?_⟩
  exact sw_vret (pc := 7) C E rfl (Nat.le_of_ble_eq_true rfl) (Nat.le_of_ble_eq_true rfl) d_LP_clear_7 ⟨rfl, rfl⟩
def plcB (nS nP : Nat) (s x y : Int32) : Bool := decide (nP < 20) && inR nS s && (inR 16 x && inR 16 y)
set_option maxRecDepth 100000 in
set_option maxHeartbeats 4000000 in
theorem c_place (l : Launch) (g : Gl) (x ob dw dr : Nat) (A B S : Nat → Nat) (hp : Bool) (nS nP : Nat) (ps sp : Nat → Nat) (hS : nS ≤ 8) (hP : nP ≤ 20) (s a c : Int32) : Ct l g y_LP_place b_LP_place 4 (some .int) (rmD 1) [.ref x, .int s, .int a, .int c] ([lpC x ob dw dr A B S hp, pgC A nS nP, iaC g (A 2) 20 (nF ps), iaC g (A 3) 20 (nF sp)]) (fun u w => (plcB nS nP s a c = false ∧ u = some (.int (-1)) ∧ w = [lpC x ob dw dr A B S hp, pgC A nS nP, iaC g (A 2) 20 (nF ps), iaC g (A 3) 20 (nF sp)]) ∨ (plcB nS nP s a c = true ∧ u = some (.int (nI (nP + 1))) ∧ ∃ s1 i j : Nat, s1 < nS ∧ i < 16 ∧ j < 16 ∧ s = nI s1 ∧ a = nI i ∧ c = nI j ∧ w = [lpC x ob dw dr A B S hp, pgC A nS (nP + 1), iaC g (A 2) 20 (nF (upN ps nP s1)), iaC g (A 3) 20 (nF (upN sp nP (16 * i + j)))])) := by
  refine ct_of [some (.ref x), some (.int s), some (.int a), some (.int c)] (by decide) (Nat.le_of_ble_eq_true rfl) rfl ?_
  intro X C E
  refine sw_iload_n (pc := 0) C d_LP_place_0 rfl rfl ?_
  refine sw_iload_n (pc := 1) C d_LP_place_1 rfl rfl ?_
  refine sw_callSR (pc := 2) C (c_onPage l g a c) ss_LP_isOnPage t_269 [] rfl rfl rfl rfl (Nat.le_of_ble_eq_true rfl) (Nat.le_of_ble_eq_true rfl) (Nat.le_of_ble_eq_true rfl) (Nat.le_of_ble_eq_true rfl) (Nat.le_of_ble_eq_true rfl) d_LP_place_2 (fun v w1 hp => ?_)
  obtain ⟨rfl, rfl⟩ := hp
  refine ⟨rfl, ?_⟩
  refine sw_if_eqB (pc := 5) C 19 d_LP_place_5 (by decide) (fun g1 => ?_) (fun g1 => ?_)
  · skip
    refine sw_iconst (pc := 19) C (-1) d_LP_place_19 (by decide) ?_
    exact sw_iret (pc := 20) C E rfl (Nat.le_of_ble_eq_true rfl) (Nat.le_of_ble_eq_true rfl) d_LP_place_20 (Or.inl ⟨by unfold plcB; rw [g1, Bool.and_false], rfl, rfl⟩)
  refine sw_aload_n (pc := 8) C d_LP_place_8 rfl rfl ?_
  refine sw_get (pc := 9) C inLP 0 rfl rfl 3 (by decide) t_227 rfl rfl d_LP_place_9 ?_
  refine sw_iload_n (pc := 12) C d_LP_place_12 rfl rfl ?_
  refine sw_callVR (pc := 13) C (c_hasShape l g A nS nP hS s) sv_Pg_hasShape t_250 rfl rfl rfl [1] rfl rfl rfl rfl (Nat.le_of_ble_eq_true rfl) (Nat.le_of_ble_eq_true rfl) (Nat.le_of_ble_eq_true rfl) (Nat.le_of_ble_eq_true rfl) (Nat.le_of_ble_eq_true rfl) d_LP_place_13 (fun v w1 hp => ?_)
  obtain ⟨rfl, rfl⟩ := hp
  refine ⟨rfl, ?_⟩
  refine sw_if_neB (pc := 16) C 21 d_LP_place_16 (by decide) (fun g2 => ?_) (fun g2 => ?_)
  · skip
    obtain ⟨i, j, hi, hj, rfl, rfl⟩ := onP_no g1
    obtain ⟨s1, hs1, rfl⟩ := inR_of (by omega) g2
    refine sw_aload_n (pc := 21) C d_LP_place_21 rfl rfl ?_
    refine sw_get (pc := 22) C inLP 0 rfl rfl 3 (by decide) t_227 rfl rfl d_LP_place_22 ?_
    refine sw_iload_n (pc := 25) C d_LP_place_25 rfl rfl ?_
    refine sw_bipush (pc := 26) C (nI 16) d_LP_place_26 (by decide) ?_
    refine sw_iload_n (pc := 28) C d_LP_place_28 rfl rfl ?_
    refine sw_imul (pc := 29) C d_LP_place_29 ?_
    refine sw_topi (z := nI (16 * i)) (pk_mul _ _) ?_
    refine sw_iload_n (pc := 30) C d_LP_place_30 rfl rfl ?_
    refine sw_iadd (pc := 31) C d_LP_place_31 ?_
    refine sw_topi (z := nI ((16 * i) + j)) (nI_add _ _) ?_
    by_cases h20 : nP = 20
    · subst h20
      refine sw_callVR (pc := 32) C (c_addPlF l g A nS (nI s1) (nI (16 * i + j))) sv_Pg_addPlacing t_272 rfl rfl rfl [1] rfl rfl rfl rfl (Nat.le_of_ble_eq_true rfl) (Nat.le_of_ble_eq_true rfl) (Nat.le_of_ble_eq_true rfl) (Nat.le_of_ble_eq_true rfl) (Nat.le_of_ble_eq_true rfl) d_LP_place_32 (fun v w1 hp => ?_)
      obtain ⟨rfl, rfl⟩ := hp
      refine ⟨rfl, ?_⟩
      exact sw_iret (pc := 35) C E rfl (Nat.le_of_ble_eq_true rfl) (Nat.le_of_ble_eq_true rfl) d_LP_place_35 (Or.inl ⟨rfl, rfl, rfl⟩)
    refine sw_callVP (pc := 32) C (c_addPl l g A nS nP (nF ps) (nF sp) (nI s1) (nI (16 * i + j)) (by omega)) sv_Pg_addPlacing t_272 rfl rfl rfl [1, 2, 3] rfl rfl rfl rfl (Nat.le_of_ble_eq_true rfl) (Nat.le_of_ble_eq_true rfl) (Nat.le_of_ble_eq_true rfl) (Nat.le_of_ble_eq_true rfl) (Nat.le_of_ble_eq_true rfl) d_LP_place_32 (fun v w1 hp => ?_)
    obtain ⟨rfl, rfl⟩ := hp
    refine ⟨rfl, ?_⟩
    refine sw_ws (ws' := [lpC x ob dw dr A B S hp, pgC A nS (nP + 1), iaC g (A 2) 20 (nF (upN ps nP s1)), iaC g (A 3) 20 (nF (upN sp nP (16 * i + j)))]) (by rw [nF_up, nF_up]; rfl) ?_
    exact sw_iret (pc := 35) C E rfl (Nat.le_of_ble_eq_true rfl) (Nat.le_of_ble_eq_true rfl) d_LP_place_35 (Or.inr ⟨by unfold plcB; rw [g1, g2, decide_eq_true (show nP < 20 by omega)]; rfl, rfl, s1, i, j, hs1, hi, hj, rfl, rfl, rfl, rfl⟩)
  refine sw_iconst (pc := 19) C (-1) d_LP_place_19 (by decide) ?_
  exact sw_iret (pc := 20) C E rfl (Nat.le_of_ble_eq_true rfl) (Nat.le_of_ble_eq_true rfl) d_LP_place_20 (Or.inl ⟨by unfold plcB; rw [g2, Bool.and_false]; rfl, rfl, rfl⟩)
