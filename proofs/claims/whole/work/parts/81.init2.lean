/-! a page is made -/
set_option maxRecDepth 100000 in
set_option maxHeartbeats 4000000 in
theorem i_Pg (l : Launch) (g : Gl) (a : Nat) : Ct l g y_Pg_init b_Pg_init 2 none (rmA 2 21 344) [.ref a] ([(a, .inr (6, [.null, .int 0, .null, .null, .int 0, .null, .null]))]) (fun u w => u = none ∧ ∃ A : Nat → Nat, A 0 = a ∧ w = wPg g A 0 0 (nF (fun _ => 0)) (nF (fun _ => 0)) (fun _ => nI 0) (fun _ => nI 0) (fun _ => nI 0) (fun _ => nI 0) false (fun _ => nI 0) (fun _ => nI 0) (fun _ => nI 0) (fun _ => nI 0) false (fun _ => shV 0 1 1 (-1))) := by
  refine ct_of [some (.ref a), none] (by decide) (Nat.le_of_ble_eq_true rfl) rfl ?_
  intro X C E
  refine sw_aload_n (pc := 0) C d_Pg_init_0 rfl rfl ?_
  refine sw_objInit (pc := 1) C t_130 t_21 t_22 (Nat.le_of_ble_eq_true rfl) (Nat.le_of_ble_eq_true rfl) d_Pg_init_1 ?_
  refine sw_aload_n (pc := 4) C d_Pg_init_4 rfl rfl ?_
  refine sw_bipush (pc := 5) C (nI 8) d_Pg_init_5 (by decide) ?_
  refine sw_newS (pc := 7) C 8 t_131 q_132 (nI_pos (by decide)) (nI_clamp (by decide)) (by decide) (Nat.le_of_ble_eq_true rfl) (Nat.le_of_ble_eq_true rfl) d_Pg_init_7 (fun q1 => ?_)
  refine sw_putF (pc := 10) C inPg 0 rfl rfl 0 (by decide) tyPg okPg nmPg t_186 rfl rfl rfl rfl (ty := (.array (.object "LayeredPage$Shape"))) (by decide +kernel) rfl rfl (Nat.le_of_ble_eq_true rfl) d_Pg_init_10 ?_
  refine sw_aload_n (pc := 13) C d_Pg_init_13 rfl rfl ?_
  refine sw_iconst (pc := 14) C (nI 0) d_Pg_init_14 (by decide) ?_
  refine sw_put (pc := 15) C inPg 0 rfl rfl 1 (by decide) tyPg okPg nmPg t_189 rfl rfl (ty := .int) (by decide +kernel) rfl rfl (Nat.le_of_ble_eq_true rfl) d_Pg_init_15 ?_
  refine sw_aload_n (pc := 18) C d_Pg_init_18 rfl rfl ?_
  refine sw_bipush (pc := 19) C (nI 20) d_Pg_init_19 (by decide) ?_
  refine sw_newI (pc := 21) C 20 t_41 (nI_pos (by decide)) (nI_clamp (by decide)) (by decide) (Nat.le_of_ble_eq_true rfl) (Nat.le_of_ble_eq_true rfl) d_Pg_init_21 (fun q2 => ?_)
  refine sw_putF (pc := 23) C inPg 0 rfl rfl 2 (by decide) tyPg okPg nmPg t_193 rfl rfl rfl rfl (ty := (.array .int)) (by decide +kernel) rfl rfl (Nat.le_of_ble_eq_true rfl) d_Pg_init_23 ?_
  refine sw_aload_n (pc := 26) C d_Pg_init_26 rfl rfl ?_
  refine sw_bipush (pc := 27) C (nI 20) d_Pg_init_27 (by decide) ?_
  refine sw_newI (pc := 29) C 20 t_41 (nI_pos (by decide)) (nI_clamp (by decide)) (by decide) (Nat.le_of_ble_eq_true rfl) (Nat.le_of_ble_eq_true rfl) d_Pg_init_29 (fun q3 => ?_)
  refine sw_putF (pc := 31) C inPg 0 rfl rfl 3 (by decide) tyPg okPg nmPg t_195 rfl rfl rfl rfl (ty := (.array .int)) (by decide +kernel) rfl rfl (Nat.le_of_ble_eq_true rfl) d_Pg_init_31 ?_
  refine sw_aload_n (pc := 34) C d_Pg_init_34 rfl rfl ?_
  refine sw_iconst (pc := 35) C (nI 0) d_Pg_init_35 (by decide) ?_
  refine sw_put (pc := 36) C inPg 0 rfl rfl 4 (by decide) tyPg okPg nmPg t_197 rfl rfl (ty := .int) (by decide +kernel) rfl rfl (Nat.le_of_ble_eq_true rfl) d_Pg_init_36 ?_
  refine sw_aload_n (pc := 39) C d_Pg_init_39 rfl rfl ?_
  refine sw_ws (ws' := [(a, .inr (6, [.ref q1, .int (nI 0), .ref q2, .ref q3, .int (nI 0), .null, .null])), (q1, .inl (g.2.2.2.2, 8, .inr (.inr (.inr (.inr (fun _ => none)))))), iaC g q2 20 (fun _ => 0), iaC g q3 20 (fun _ => 0)]) rfl ?_
  refine sw_new (pc := 40) C inLy tyLy okLy t_133 t_134 t_10 (ci := 4) rfl [.int 0, .null, .null, .null, .null, .int 0] (fun j hj => match j, hj with | 0, _ => rfl | 1, _ => rfl | 2, _ => rfl | 3, _ => rfl | 4, _ => rfl | 5, _ => rfl | k + 6, h => absurd h (by omega)) (Nat.le_of_ble_eq_true rfl) (Nat.le_of_ble_eq_true rfl) d_Pg_init_40 (fun q4 => ?_)
  refine sw_dup (pc := 43) C d_Pg_init_43 rfl ?_
  refine sw_bipush (pc := 44) C (nI 8) d_Pg_init_44 (by decide) ?_
  refine sw_callIJ1 (pc := 46) C (i_Ly8 l g q4) si_Ly_init t_135 rfl rfl (Nat.le_of_ble_eq_true rfl) (Nat.le_of_ble_eq_true rfl) (Nat.le_of_ble_eq_true rfl) (Nat.le_of_ble_eq_true rfl) (Nat.le_of_ble_eq_true rfl) d_Pg_init_46 (fun v w1 hp => ?_)
  obtain ⟨rfl, A4, rfl, rfl⟩ := hp
  refine sw_putF (pc := 49) C inPg 0 rfl rfl 5 (by decide) tyPg okPg nmPg t_201 rfl rfl rfl rfl (ty := (.object "LayeredPage$Layer")) (by decide +kernel) rfl rfl (Nat.le_of_ble_eq_true rfl) d_Pg_init_49 ?_
  refine sw_aload_n (pc := 52) C d_Pg_init_52 rfl rfl ?_
  refine sw_ws (ws' := [(a, .inr (6, [.ref q1, .int (nI 0), .ref q2, .ref q3, .int (nI 0), .ref (A4 0), .null])), (q1, .inl (g.2.2.2.2, 8, .inr (.inr (.inr (.inr (fun _ => none)))))), iaC g q2 20 (fun _ => 0), iaC g q3 20 (fun _ => 0)] ++ wLy g A4 8 (fun _ => nI 0) (fun _ => nI 0) (fun _ => nI 0) (fun _ => nI 0) false) rfl ?_
  refine sw_new (pc := 53) C inLy tyLy okLy t_133 t_134 t_10 (ci := 4) rfl [.int 0, .null, .null, .null, .null, .int 0] (fun j hj => match j, hj with | 0, _ => rfl | 1, _ => rfl | 2, _ => rfl | 3, _ => rfl | 4, _ => rfl | 5, _ => rfl | k + 6, h => absurd h (by omega)) (Nat.le_of_ble_eq_true rfl) (Nat.le_of_ble_eq_true rfl) d_Pg_init_53 (fun q9 => ?_)
  refine sw_dup (pc := 56) C d_Pg_init_56 rfl ?_
  refine sw_iconst (pc := 57) C (nI 4) d_Pg_init_57 (by decide) ?_
  refine sw_callIJ1 (pc := 58) C (i_Ly4 l g q9) si_Ly_init t_135 rfl rfl (Nat.le_of_ble_eq_true rfl) (Nat.le_of_ble_eq_true rfl) (Nat.le_of_ble_eq_true rfl) (Nat.le_of_ble_eq_true rfl) (Nat.le_of_ble_eq_true rfl) d_Pg_init_58 (fun v w1 hp => ?_)
  obtain ⟨rfl, A9, rfl, rfl⟩ := hp
  refine sw_putF (pc := 61) C inPg 0 rfl rfl 6 (by decide) tyPg okPg nmPg t_205 rfl rfl rfl rfl (ty := (.object "LayeredPage$Layer")) (by decide +kernel) rfl rfl (Nat.le_of_ble_eq_true rfl) d_Pg_init_61 ?_
  refine sw_iconst (pc := 64) C (nI 0) d_Pg_init_64 (by decide) ?_
  refine sw_istore_n (pc := 65) C d_Pg_init_65 rfl (by decide) rfl ?_
  refine sw_ws (ws' := [(a, .inr (6, [.ref q1, .int (nI 0), .ref q2, .ref q3, .int (nI 0), .ref (A4 0), .ref (A9 0)])), (q1, .inl (g.2.2.2.2, 8, .inr (.inr (.inr (.inr (fun _ => none)))))), iaC g q2 20 (fun _ => 0), iaC g q3 20 (fun _ => 0)] ++ wLy g A4 8 (fun _ => nI 0) (fun _ => nI 0) (fun _ => nI 0) (fun _ => nI 0) false ++ wLy g A9 4 (fun _ => nI 0) (fun _ => nI 0) (fun _ => nI 0) (fun _ => nI 0) false ++ []) rfl ?_
  refine sw_iload_n (pc := 66) C d_Pg_init_66 rfl rfl ?_
  refine sw_bipush (pc := 67) C (nI 8) d_Pg_init_67 (by decide) ?_
  refine sw_icmp_geN (pc := 69) C 91 (by omega) (by omega) d_Pg_init_69 (by decide) (fun hx => ?_) (fun hx => ?_)
  · skip
    omega
  refine sw_aload_n (pc := 72) C d_Pg_init_72 rfl rfl ?_
  refine sw_get (pc := 73) C inPg 0 rfl rfl 0 (by decide) t_186 rfl rfl d_Pg_init_73 ?_
  refine sw_iload_n (pc := 76) C d_Pg_init_76 rfl rfl ?_
  refine sw_new (pc := 77) C inSh tySh okSh t_131 t_160 t_11 (ci := 7) rfl [.long 0, .int 0, .int 0, .int 0] (fun j hj => match j, hj with | 0, _ => rfl | 1, _ => rfl | 2, _ => rfl | 3, _ => rfl | k + 4, h => absurd h (by omega)) (Nat.le_of_ble_eq_true rfl) (Nat.le_of_ble_eq_true rfl) d_Pg_init_77 (fun s0 => ?_)
  refine sw_dup (pc := 80) C d_Pg_init_80 rfl ?_
  refine sw_callINJ1 (pc := 81) C (i_Sh l g s0) si_Sh_init "LayeredPage" q_161 rfl rfl (Nat.le_of_ble_eq_true rfl) (Nat.le_of_ble_eq_true rfl) (Nat.le_of_ble_eq_true rfl) (Nat.le_of_ble_eq_true rfl) (Nat.le_of_ble_eq_true rfl) d_Pg_init_81 (fun v w1 hp => ?_)
  obtain ⟨rfl, rfl⟩ := hp
  refine sw_aast (pc := 84) C 1 14 rfl rfl rfl (vp_in_nI (by decide) (by decide)) d_Pg_init_84 ?_
  refine sw_ws (ws' := [(a, .inr (6, [.ref q1, .int (nI 0), .ref q2, .ref q3, .int (nI 0), .ref (A4 0), .ref (A9 0)])), (q1, .inl (g.2.2.2.2, 8, .inr (.inr (.inr (.inr (va_up (fun _ => none) 0 (some s0))))))), iaC g q2 20 (fun _ => 0), iaC g q3 20 (fun _ => 0)] ++ wLy g A4 8 (fun _ => nI 0) (fun _ => nI 0) (fun _ => nI 0) (fun _ => nI 0) false ++ wLy g A9 4 (fun _ => nI 0) (fun _ => nI 0) (fun _ => nI 0) (fun _ => nI 0) false ++ [shC s0 0 1 1 (-1)]) rfl ?_
  refine sw_iincN (pc := 85) C 1 d_Pg_init_85 rfl (by decide) (by decide) rfl ?_
  refine sw_goto (pc := 88) C 66 d_Pg_init_88 (by decide) ?_
  refine sw_L (L' := [some (.ref a), some (.int (nI 1))]) rfl ?_
  refine sw_iload_n (pc := 66) C d_Pg_init_66 rfl rfl ?_
  refine sw_bipush (pc := 67) C (nI 8) d_Pg_init_67 (by decide) ?_
  refine sw_icmp_geN (pc := 69) C 91 (by omega) (by omega) d_Pg_init_69 (by decide) (fun hx => ?_) (fun hx => ?_)
  · skip
    omega
  refine sw_aload_n (pc := 72) C d_Pg_init_72 rfl rfl ?_
  refine sw_get (pc := 73) C inPg 0 rfl rfl 0 (by decide) t_186 rfl rfl d_Pg_init_73 ?_
  refine sw_iload_n (pc := 76) C d_Pg_init_76 rfl rfl ?_
  refine sw_new (pc := 77) C inSh tySh okSh t_131 t_160 t_11 (ci := 7) rfl [.long 0, .int 0, .int 0, .int 0] (fun j hj => match j, hj with | 0, _ => rfl | 1, _ => rfl | 2, _ => rfl | 3, _ => rfl | k + 4, h => absurd h (by omega)) (Nat.le_of_ble_eq_true rfl) (Nat.le_of_ble_eq_true rfl) d_Pg_init_77 (fun s1 => ?_)
  refine sw_dup (pc := 80) C d_Pg_init_80 rfl ?_
  refine sw_callINJ1 (pc := 81) C (i_Sh l g s1) si_Sh_init "LayeredPage" q_161 rfl rfl (Nat.le_of_ble_eq_true rfl) (Nat.le_of_ble_eq_true rfl) (Nat.le_of_ble_eq_true rfl) (Nat.le_of_ble_eq_true rfl) (Nat.le_of_ble_eq_true rfl) d_Pg_init_81 (fun v w1 hp => ?_)
  obtain ⟨rfl, rfl⟩ := hp
  refine sw_aast (pc := 84) C 1 15 rfl rfl rfl (vp_in_nI (by decide) (by decide)) d_Pg_init_84 ?_
  refine sw_ws (ws' := [(a, .inr (6, [.ref q1, .int (nI 0), .ref q2, .ref q3, .int (nI 0), .ref (A4 0), .ref (A9 0)])), (q1, .inl (g.2.2.2.2, 8, .inr (.inr (.inr (.inr (va_up (va_up (fun _ => none) 0 (some s0)) 1 (some s1))))))), iaC g q2 20 (fun _ => 0), iaC g q3 20 (fun _ => 0)] ++ wLy g A4 8 (fun _ => nI 0) (fun _ => nI 0) (fun _ => nI 0) (fun _ => nI 0) false ++ wLy g A9 4 (fun _ => nI 0) (fun _ => nI 0) (fun _ => nI 0) (fun _ => nI 0) false ++ [shC s0 0 1 1 (-1), shC s1 0 1 1 (-1)]) rfl ?_
  refine sw_iincN (pc := 85) C 1 d_Pg_init_85 rfl (by decide) (by decide) rfl ?_
  refine sw_goto (pc := 88) C 66 d_Pg_init_88 (by decide) ?_
  refine sw_L (L' := [some (.ref a), some (.int (nI 2))]) rfl ?_
  refine sw_iload_n (pc := 66) C d_Pg_init_66 rfl rfl ?_
  refine sw_bipush (pc := 67) C (nI 8) d_Pg_init_67 (by decide) ?_
  refine sw_icmp_geN (pc := 69) C 91 (by omega) (by omega) d_Pg_init_69 (by decide) (fun hx => ?_) (fun hx => ?_)
  · skip
    omega
  refine sw_aload_n (pc := 72) C d_Pg_init_72 rfl rfl ?_
  refine sw_get (pc := 73) C inPg 0 rfl rfl 0 (by decide) t_186 rfl rfl d_Pg_init_73 ?_
  refine sw_iload_n (pc := 76) C d_Pg_init_76 rfl rfl ?_
  refine sw_new (pc := 77) C inSh tySh okSh t_131 t_160 t_11 (ci := 7) rfl [.long 0, .int 0, .int 0, .int 0] (fun j hj => match j, hj with | 0, _ => rfl | 1, _ => rfl | 2, _ => rfl | 3, _ => rfl | k + 4, h => absurd h (by omega)) (Nat.le_of_ble_eq_true rfl) (Nat.le_of_ble_eq_true rfl) d_Pg_init_77 (fun s2 => ?_)
  refine sw_dup (pc := 80) C d_Pg_init_80 rfl ?_
  refine sw_callINJ1 (pc := 81) C (i_Sh l g s2) si_Sh_init "LayeredPage" q_161 rfl rfl (Nat.le_of_ble_eq_true rfl) (Nat.le_of_ble_eq_true rfl) (Nat.le_of_ble_eq_true rfl) (Nat.le_of_ble_eq_true rfl) (Nat.le_of_ble_eq_true rfl) d_Pg_init_81 (fun v w1 hp => ?_)
  obtain ⟨rfl, rfl⟩ := hp
  refine sw_aast (pc := 84) C 1 16 rfl rfl rfl (vp_in_nI (by decide) (by decide)) d_Pg_init_84 ?_
  refine sw_ws (ws' := [(a, .inr (6, [.ref q1, .int (nI 0), .ref q2, .ref q3, .int (nI 0), .ref (A4 0), .ref (A9 0)])), (q1, .inl (g.2.2.2.2, 8, .inr (.inr (.inr (.inr (va_up (va_up (va_up (fun _ => none) 0 (some s0)) 1 (some s1)) 2 (some s2))))))), iaC g q2 20 (fun _ => 0), iaC g q3 20 (fun _ => 0)] ++ wLy g A4 8 (fun _ => nI 0) (fun _ => nI 0) (fun _ => nI 0) (fun _ => nI 0) false ++ wLy g A9 4 (fun _ => nI 0) (fun _ => nI 0) (fun _ => nI 0) (fun _ => nI 0) false ++ [shC s0 0 1 1 (-1), shC s1 0 1 1 (-1), shC s2 0 1 1 (-1)]) rfl ?_
  refine sw_iincN (pc := 85) C 1 d_Pg_init_85 rfl (by decide) (by decide) rfl ?_
  refine sw_goto (pc := 88) C 66 d_Pg_init_88 (by decide) ?_
  refine sw_L (L' := [some (.ref a), some (.int (nI 3))]) rfl ?_
  refine sw_iload_n (pc := 66) C d_Pg_init_66 rfl rfl ?_
  refine sw_bipush (pc := 67) C (nI 8) d_Pg_init_67 (by decide) ?_
  refine sw_icmp_geN (pc := 69) C 91 (by omega) (by omega) d_Pg_init_69 (by decide) (fun hx => ?_) (fun hx => ?_)
  · skip
    omega
  refine sw_aload_n (pc := 72) C d_Pg_init_72 rfl rfl ?_
  refine sw_get (pc := 73) C inPg 0 rfl rfl 0 (by decide) t_186 rfl rfl d_Pg_init_73 ?_
  refine sw_iload_n (pc := 76) C d_Pg_init_76 rfl rfl ?_
  refine sw_new (pc := 77) C inSh tySh okSh t_131 t_160 t_11 (ci := 7) rfl [.long 0, .int 0, .int 0, .int 0] (fun j hj => match j, hj with | 0, _ => rfl | 1, _ => rfl | 2, _ => rfl | 3, _ => rfl | k + 4, h => absurd h (by omega)) (Nat.le_of_ble_eq_true rfl) (Nat.le_of_ble_eq_true rfl) d_Pg_init_77 (fun s3 => ?_)
  refine sw_dup (pc := 80) C d_Pg_init_80 rfl ?_
  refine sw_callINJ1 (pc := 81) C (i_Sh l g s3) si_Sh_init "LayeredPage" q_161 rfl rfl (Nat.le_of_ble_eq_true rfl) (Nat.le_of_ble_eq_true rfl) (Nat.le_of_ble_eq_true rfl) (Nat.le_of_ble_eq_true rfl) (Nat.le_of_ble_eq_true rfl) d_Pg_init_81 (fun v w1 hp => ?_)
  obtain ⟨rfl, rfl⟩ := hp
  refine sw_aast (pc := 84) C 1 17 rfl rfl rfl (vp_in_nI (by decide) (by decide)) d_Pg_init_84 ?_
  refine sw_ws (ws' := [(a, .inr (6, [.ref q1, .int (nI 0), .ref q2, .ref q3, .int (nI 0), .ref (A4 0), .ref (A9 0)])), (q1, .inl (g.2.2.2.2, 8, .inr (.inr (.inr (.inr (va_up (va_up (va_up (va_up (fun _ => none) 0 (some s0)) 1 (some s1)) 2 (some s2)) 3 (some s3))))))), iaC g q2 20 (fun _ => 0), iaC g q3 20 (fun _ => 0)] ++ wLy g A4 8 (fun _ => nI 0) (fun _ => nI 0) (fun _ => nI 0) (fun _ => nI 0) false ++ wLy g A9 4 (fun _ => nI 0) (fun _ => nI 0) (fun _ => nI 0) (fun _ => nI 0) false ++ [shC s0 0 1 1 (-1), shC s1 0 1 1 (-1), shC s2 0 1 1 (-1), shC s3 0 1 1 (-1)]) rfl ?_
  refine sw_iincN (pc := 85) C 1 d_Pg_init_85 rfl (by decide) (by decide) rfl ?_
  refine sw_goto (pc := 88) C 66 d_Pg_init_88 (by decide) ?_
  refine sw_L (L' := [some (.ref a), some (.int (nI 4))]) rfl ?_
  refine sw_iload_n (pc := 66) C d_Pg_init_66 rfl rfl ?_
  refine sw_bipush (pc := 67) C (nI 8) d_Pg_init_67 (by decide) ?_
  refine sw_icmp_geN (pc := 69) C 91 (by omega) (by omega) d_Pg_init_69 (by decide) (fun hx => ?_) (fun hx => ?_)
  · skip
    omega
  refine sw_aload_n (pc := 72) C d_Pg_init_72 rfl rfl ?_
  refine sw_get (pc := 73) C inPg 0 rfl rfl 0 (by decide) t_186 rfl rfl d_Pg_init_73 ?_
  refine sw_iload_n (pc := 76) C d_Pg_init_76 rfl rfl ?_
  refine sw_new (pc := 77) C inSh tySh okSh t_131 t_160 t_11 (ci := 7) rfl [.long 0, .int 0, .int 0, .int 0] (fun j hj => match j, hj with | 0, _ => rfl | 1, _ => rfl | 2, _ => rfl | 3, _ => rfl | k + 4, h => absurd h (by omega)) (Nat.le_of_ble_eq_true rfl) (Nat.le_of_ble_eq_true rfl) d_Pg_init_77 (fun s4 => ?_)
  refine sw_dup (pc := 80) C d_Pg_init_80 rfl ?_
  refine sw_callINJ1 (pc := 81) C (i_Sh l g s4) si_Sh_init "LayeredPage" q_161 rfl rfl (Nat.le_of_ble_eq_true rfl) (Nat.le_of_ble_eq_true rfl) (Nat.le_of_ble_eq_true rfl) (Nat.le_of_ble_eq_true rfl) (Nat.le_of_ble_eq_true rfl) d_Pg_init_81 (fun v w1 hp => ?_)
  obtain ⟨rfl, rfl⟩ := hp
  refine sw_aast (pc := 84) C 1 18 rfl rfl rfl (vp_in_nI (by decide) (by decide)) d_Pg_init_84 ?_
  refine sw_ws (ws' := [(a, .inr (6, [.ref q1, .int (nI 0), .ref q2, .ref q3, .int (nI 0), .ref (A4 0), .ref (A9 0)])), (q1, .inl (g.2.2.2.2, 8, .inr (.inr (.inr (.inr (va_up (va_up (va_up (va_up (va_up (fun _ => none) 0 (some s0)) 1 (some s1)) 2 (some s2)) 3 (some s3)) 4 (some s4))))))), iaC g q2 20 (fun _ => 0), iaC g q3 20 (fun _ => 0)] ++ wLy g A4 8 (fun _ => nI 0) (fun _ => nI 0) (fun _ => nI 0) (fun _ => nI 0) false ++ wLy g A9 4 (fun _ => nI 0) (fun _ => nI 0) (fun _ => nI 0) (fun _ => nI 0) false ++ [shC s0 0 1 1 (-1), shC s1 0 1 1 (-1), shC s2 0 1 1 (-1), shC s3 0 1 1 (-1), shC s4 0 1 1 (-1)]) rfl ?_
  refine sw_iincN (pc := 85) C 1 d_Pg_init_85 rfl (by decide) (by decide) rfl ?_
  refine sw_goto (pc := 88) C 66 d_Pg_init_88 (by decide) ?_
  refine sw_L (L' := [some (.ref a), some (.int (nI 5))]) rfl ?_
  refine sw_iload_n (pc := 66) C d_Pg_init_66 rfl rfl ?_
  refine sw_bipush (pc := 67) C (nI 8) d_Pg_init_67 (by decide) ?_
  refine sw_icmp_geN (pc := 69) C 91 (by omega) (by omega) d_Pg_init_69 (by decide) (fun hx => ?_) (fun hx => ?_)
  · skip
    omega
  refine sw_aload_n (pc := 72) C d_Pg_init_72 rfl rfl ?_
  refine sw_get (pc := 73) C inPg 0 rfl rfl 0 (by decide) t_186 rfl rfl d_Pg_init_73 ?_
  refine sw_iload_n (pc := 76) C d_Pg_init_76 rfl rfl ?_
  refine sw_new (pc := 77) C inSh tySh okSh t_131 t_160 t_11 (ci := 7) rfl [.long 0, .int 0, .int 0, .int 0] (fun j hj => match j, hj with | 0, _ => rfl | 1, _ => rfl | 2, _ => rfl | 3, _ => rfl | k + 4, h => absurd h (by omega)) (Nat.le_of_ble_eq_true rfl) (Nat.le_of_ble_eq_true rfl) d_Pg_init_77 (fun s5 => ?_)
  refine sw_dup (pc := 80) C d_Pg_init_80 rfl ?_
  refine sw_callINJ1 (pc := 81) C (i_Sh l g s5) si_Sh_init "LayeredPage" q_161 rfl rfl (Nat.le_of_ble_eq_true rfl) (Nat.le_of_ble_eq_true rfl) (Nat.le_of_ble_eq_true rfl) (Nat.le_of_ble_eq_true rfl) (Nat.le_of_ble_eq_true rfl) d_Pg_init_81 (fun v w1 hp => ?_)
  obtain ⟨rfl, rfl⟩ := hp
  refine sw_aast (pc := 84) C 1 19 rfl rfl rfl (vp_in_nI (by decide) (by decide)) d_Pg_init_84 ?_
  refine sw_ws (ws' := [(a, .inr (6, [.ref q1, .int (nI 0), .ref q2, .ref q3, .int (nI 0), .ref (A4 0), .ref (A9 0)])), (q1, .inl (g.2.2.2.2, 8, .inr (.inr (.inr (.inr (va_up (va_up (va_up (va_up (va_up (va_up (fun _ => none) 0 (some s0)) 1 (some s1)) 2 (some s2)) 3 (some s3)) 4 (some s4)) 5 (some s5))))))), iaC g q2 20 (fun _ => 0), iaC g q3 20 (fun _ => 0)] ++ wLy g A4 8 (fun _ => nI 0) (fun _ => nI 0) (fun _ => nI 0) (fun _ => nI 0) false ++ wLy g A9 4 (fun _ => nI 0) (fun _ => nI 0) (fun _ => nI 0) (fun _ => nI 0) false ++ [shC s0 0 1 1 (-1), shC s1 0 1 1 (-1), shC s2 0 1 1 (-1), shC s3 0 1 1 (-1), shC s4 0 1 1 (-1), shC s5 0 1 1 (-1)]) rfl ?_
  refine sw_iincN (pc := 85) C 1 d_Pg_init_85 rfl (by decide) (by decide) rfl ?_
  refine sw_goto (pc := 88) C 66 d_Pg_init_88 (by decide) ?_
  refine sw_L (L' := [some (.ref a), some (.int (nI 6))]) rfl ?_
  refine sw_iload_n (pc := 66) C d_Pg_init_66 rfl rfl ?_
  refine sw_bipush (pc := 67) C (nI 8) d_Pg_init_67 (by decide) ?_
  refine sw_icmp_geN (pc := 69) C 91 (by omega) (by omega) d_Pg_init_69 (by decide) (fun hx => ?_) (fun hx => ?_)
  · skip
    omega
  refine sw_aload_n (pc := 72) C d_Pg_init_72 rfl rfl ?_
  refine sw_get (pc := 73) C inPg 0 rfl rfl 0 (by decide) t_186 rfl rfl d_Pg_init_73 ?_
  refine sw_iload_n (pc := 76) C d_Pg_init_76 rfl rfl ?_
  refine sw_new (pc := 77) C inSh tySh okSh t_131 t_160 t_11 (ci := 7) rfl [.long 0, .int 0, .int 0, .int 0] (fun j hj => match j, hj with | 0, _ => rfl | 1, _ => rfl | 2, _ => rfl | 3, _ => rfl | k + 4, h => absurd h (by omega)) (Nat.le_of_ble_eq_true rfl) (Nat.le_of_ble_eq_true rfl) d_Pg_init_77 (fun s6 => ?_)
  refine sw_dup (pc := 80) C d_Pg_init_80 rfl ?_
  refine sw_callINJ1 (pc := 81) C (i_Sh l g s6) si_Sh_init "LayeredPage" q_161 rfl rfl (Nat.le_of_ble_eq_true rfl) (Nat.le_of_ble_eq_true rfl) (Nat.le_of_ble_eq_true rfl) (Nat.le_of_ble_eq_true rfl) (Nat.le_of_ble_eq_true rfl) d_Pg_init_81 (fun v w1 hp => ?_)
  obtain ⟨rfl, rfl⟩ := hp
  refine sw_aast (pc := 84) C 1 20 rfl rfl rfl (vp_in_nI (by decide) (by decide)) d_Pg_init_84 ?_
  refine sw_ws (ws' := [(a, .inr (6, [.ref q1, .int (nI 0), .ref q2, .ref q3, .int (nI 0), .ref (A4 0), .ref (A9 0)])), (q1, .inl (g.2.2.2.2, 8, .inr (.inr (.inr (.inr (va_up (va_up (va_up (va_up (va_up (va_up (va_up (fun _ => none) 0 (some s0)) 1 (some s1)) 2 (some s2)) 3 (some s3)) 4 (some s4)) 5 (some s5)) 6 (some s6))))))), iaC g q2 20 (fun _ => 0), iaC g q3 20 (fun _ => 0)] ++ wLy g A4 8 (fun _ => nI 0) (fun _ => nI 0) (fun _ => nI 0) (fun _ => nI 0) false ++ wLy g A9 4 (fun _ => nI 0) (fun _ => nI 0) (fun _ => nI 0) (fun _ => nI 0) false ++ [shC s0 0 1 1 (-1), shC s1 0 1 1 (-1), shC s2 0 1 1 (-1), shC s3 0 1 1 (-1), shC s4 0 1 1 (-1), shC s5 0 1 1 (-1), shC s6 0 1 1 (-1)]) rfl ?_
  refine sw_iincN (pc := 85) C 1 d_Pg_init_85 rfl (by decide) (by decide) rfl ?_
  refine sw_goto (pc := 88) C 66 d_Pg_init_88 (by decide) ?_
  refine sw_L (L' := [some (.ref a), some (.int (nI 7))]) rfl ?_
  refine sw_iload_n (pc := 66) C d_Pg_init_66 rfl rfl ?_
  refine sw_bipush (pc := 67) C (nI 8) d_Pg_init_67 (by decide) ?_
  refine sw_icmp_geN (pc := 69) C 91 (by omega) (by omega) d_Pg_init_69 (by decide) (fun hx => ?_) (fun hx => ?_)
  · skip
    omega
  refine sw_aload_n (pc := 72) C d_Pg_init_72 rfl rfl ?_
  refine sw_get (pc := 73) C inPg 0 rfl rfl 0 (by decide) t_186 rfl rfl d_Pg_init_73 ?_
  refine sw_iload_n (pc := 76) C d_Pg_init_76 rfl rfl ?_
  refine sw_new (pc := 77) C inSh tySh okSh t_131 t_160 t_11 (ci := 7) rfl [.long 0, .int 0, .int 0, .int 0] (fun j hj => match j, hj with | 0, _ => rfl | 1, _ => rfl | 2, _ => rfl | 3, _ => rfl | k + 4, h => absurd h (by omega)) (Nat.le_of_ble_eq_true rfl) (Nat.le_of_ble_eq_true rfl) d_Pg_init_77 (fun s7 => ?_)
  refine sw_dup (pc := 80) C d_Pg_init_80 rfl ?_
  refine sw_callINJ1 (pc := 81) C (i_Sh l g s7) si_Sh_init "LayeredPage" q_161 rfl rfl (Nat.le_of_ble_eq_true rfl) (Nat.le_of_ble_eq_true rfl) (Nat.le_of_ble_eq_true rfl) (Nat.le_of_ble_eq_true rfl) (Nat.le_of_ble_eq_true rfl) d_Pg_init_81 (fun v w1 hp => ?_)
  obtain ⟨rfl, rfl⟩ := hp
  refine sw_aast (pc := 84) C 1 21 rfl rfl rfl (vp_in_nI (by decide) (by decide)) d_Pg_init_84 ?_
  refine sw_ws (ws' := [(a, .inr (6, [.ref q1, .int (nI 0), .ref q2, .ref q3, .int (nI 0), .ref (A4 0), .ref (A9 0)])), (q1, .inl (g.2.2.2.2, 8, .inr (.inr (.inr (.inr (va_up (va_up (va_up (va_up (va_up (va_up (va_up (va_up (fun _ => none) 0 (some s0)) 1 (some s1)) 2 (some s2)) 3 (some s3)) 4 (some s4)) 5 (some s5)) 6 (some s6)) 7 (some s7))))))), iaC g q2 20 (fun _ => 0), iaC g q3 20 (fun _ => 0)] ++ wLy g A4 8 (fun _ => nI 0) (fun _ => nI 0) (fun _ => nI 0) (fun _ => nI 0) false ++ wLy g A9 4 (fun _ => nI 0) (fun _ => nI 0) (fun _ => nI 0) (fun _ => nI 0) false ++ [shC s0 0 1 1 (-1), shC s1 0 1 1 (-1), shC s2 0 1 1 (-1), shC s3 0 1 1 (-1), shC s4 0 1 1 (-1), shC s5 0 1 1 (-1), shC s6 0 1 1 (-1), shC s7 0 1 1 (-1)]) rfl ?_
  refine sw_iincN (pc := 85) C 1 d_Pg_init_85 rfl (by decide) (by decide) rfl ?_
  refine sw_goto (pc := 88) C 66 d_Pg_init_88 (by decide) ?_
  refine sw_L (L' := [some (.ref a), some (.int (nI 8))]) rfl ?_
  refine sw_iload_n (pc := 66) C d_Pg_init_66 rfl rfl ?_
  refine sw_bipush (pc := 67) C (nI 8) d_Pg_init_67 (by decide) ?_
  refine sw_icmp_geN (pc := 69) C 91 (by omega) (by omega) d_Pg_init_69 (by decide) (fun hx => ?_) (fun hx => ?_)
  · skip
    refine sw_arrQ (f' := fun k => some ([a, q1, q2, q3, A4 0, A4 1, A4 2, A4 3, A4 4, A9 0, A9 1, A9 2, A9 3, A9 4, s0, s1, s2, s3, s4, s5, s6, s7].getD (14 + k) 0)) 1 rfl (fun j hj => match j, hj with | 0, _ => rfl | 1, _ => rfl | 2, _ => rfl | 3, _ => rfl | 4, _ => rfl | 5, _ => rfl | 6, _ => rfl | 7, _ => rfl | k + 8, h => absurd h (by omega)) ?_
    exact sw_vret (pc := 91) C E rfl (Nat.le_of_ble_eq_true rfl) (Nat.le_of_ble_eq_true rfl) d_Pg_init_91 ⟨rfl, fun i => [a, q1, q2, q3, A4 0, A4 1, A4 2, A4 3, A4 4, A9 0, A9 1, A9 2, A9 3, A9 4, s0, s1, s2, s3, s4, s5, s6, s7].getD i 0, rfl, rfl⟩
  omega
