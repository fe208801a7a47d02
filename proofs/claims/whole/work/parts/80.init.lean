/-! the constructors -/
theorem row0 : (fun _ => (0 : Int32)) = rowOf [] := rfl
set_option maxRecDepth 100000 in
set_option maxHeartbeats 4000000 in
theorem i_Oct (l : Launch) (g : Gl) (a : Nat) : Ct l g y_Oct_init b_Oct_init 1 none (rmA 1 1 1200) [.ref a] ([(a, .inr (5, [.null, .int 0]))]) (fun u w => u = none ∧ ∃ r, w = wOct g a r (rowOf []) (nI 0)) := by
  refine ct_of [some (.ref a)] (by decide) (Nat.le_of_ble_eq_true rfl) rfl ?_
  intro X C E
  refine sw_aload_n (pc := 0) C d_Oct_init_0 rfl rfl ?_
  refine sw_objInit (pc := 1) C t_28 t_21 t_22 (Nat.le_of_ble_eq_true rfl) (Nat.le_of_ble_eq_true rfl) d_Oct_init_1 ?_
  refine sw_aload_n (pc := 4) C d_Oct_init_4 rfl rfl ?_
  refine sw_sipush (pc := 5) C (nI 1200) d_Oct_init_5 (by decide) ?_
  refine sw_newI (pc := 8) C 1200 t_41 (nI_pos (by decide)) (nI_clamp (by decide)) (by decide) (Nat.le_of_ble_eq_true rfl) (Nat.le_of_ble_eq_true rfl) d_Oct_init_8 (fun r => ?_)
  refine sw_putF (pc := 10) C inOct 0 rfl rfl 0 (by decide) tyOct okOct nmOct t_29 rfl rfl rfl rfl (ty := (.array .int)) (by decide +kernel) rfl rfl (Nat.le_of_ble_eq_true rfl) d_Oct_init_10 ?_
  refine sw_aload_n (pc := 13) C d_Oct_init_13 rfl rfl ?_
  refine sw_iconst (pc := 14) C (nI 0) d_Oct_init_14 (by decide) ?_
  refine sw_put (pc := 15) C inOct 0 rfl rfl 1 (by decide) tyOct okOct nmOct t_32 rfl rfl (ty := .int) (by decide +kernel) rfl rfl (Nat.le_of_ble_eq_true rfl) d_Oct_init_15 ?_
  exact sw_vret (pc := 18) C E rfl (Nat.le_of_ble_eq_true rfl) (Nat.le_of_ble_eq_true rfl) d_Oct_init_18 ⟨rfl, r, rfl⟩
set_option maxRecDepth 100000 in
set_option maxHeartbeats 4000000 in
theorem i_Sh (l : Launch) (g : Gl) (a : Nat) : Ct l g y_Sh_init b_Sh_init 1 none (rmA 1 0 0) [.ref a] ([(a, .inr (7, [.long 0, .int 0, .int 0, .int 0]))]) (fun u w => u = none ∧ w = [shC a 0 1 1 (-1)]) := by
  refine ct_of [some (.ref a)] (by decide) (Nat.le_of_ble_eq_true rfl) rfl ?_
  intro X C E
  refine sw_aload_n (pc := 0) C d_Sh_init_0 rfl rfl ?_
  refine sw_objInit (pc := 1) C t_164 t_21 t_22 (Nat.le_of_ble_eq_true rfl) (Nat.le_of_ble_eq_true rfl) d_Sh_init_1 ?_
  refine sw_aload_n (pc := 4) C d_Sh_init_4 rfl rfl ?_
  refine sw_lconst (pc := 5) C 0 d_Sh_init_5 (by decide) ?_
  refine sw_put (pc := 6) C inSh 0 rfl rfl 0 (by decide) tySh okSh nmSh t_165 rfl rfl (ty := .long) (by decide +kernel) rfl rfl (Nat.le_of_ble_eq_true rfl) d_Sh_init_6 ?_
  refine sw_aload_n (pc := 9) C d_Sh_init_9 rfl rfl ?_
  refine sw_iconst (pc := 10) C (nI 1) d_Sh_init_10 (by decide) ?_
  refine sw_put (pc := 11) C inSh 0 rfl rfl 1 (by decide) tySh okSh nmSh t_168 rfl rfl (ty := .int) (by decide +kernel) rfl rfl (Nat.le_of_ble_eq_true rfl) d_Sh_init_11 ?_
  refine sw_aload_n (pc := 14) C d_Sh_init_14 rfl rfl ?_
  refine sw_iconst (pc := 15) C (nI 1) d_Sh_init_15 (by decide) ?_
  refine sw_put (pc := 16) C inSh 0 rfl rfl 2 (by decide) tySh okSh nmSh t_171 rfl rfl (ty := .int) (by decide +kernel) rfl rfl (Nat.le_of_ble_eq_true rfl) d_Sh_init_16 ?_
  refine sw_aload_n (pc := 19) C d_Sh_init_19 rfl rfl ?_
  refine sw_iconst (pc := 20) C (-1) d_Sh_init_20 (by decide) ?_
  refine sw_put (pc := 21) C inSh 0 rfl rfl 3 (by decide) tySh okSh nmSh t_174 rfl rfl (ty := .int) (by decide +kernel) rfl rfl (Nat.le_of_ble_eq_true rfl) d_Sh_init_21 ?_
  exact sw_vret (pc := 24) C E rfl (Nat.le_of_ble_eq_true rfl) (Nat.le_of_ble_eq_true rfl) d_Sh_init_24 ⟨rfl, rfl⟩
set_option maxRecDepth 100000 in
set_option maxHeartbeats 4000000 in
theorem i_Cd_w (l : Launch) (g : Gl) (a : Nat) : Ct l g y_Cd_init b_Cd_init 1 none (rmA 2 2 96) [.ref a] ([(a, .inr (1, [.null, .int 0, .int 0, .null, .null, .int 0]))]) (fun u w => u = none ∧ ∃ z o, w = [(a, .inr (1, [.null, .int 0, .int 0, .ref z, .ref o, .int (nI 65536)])), (z, .inl (g.2.1, 48, .inl (nF (fun _ => 1)))), (o, .inl (g.2.1, 48, .inl (nF (fun _ => 1))))]) := by
  refine ct_of [some (.ref a)] (by decide) (Nat.le_of_ble_eq_true rfl) rfl ?_
  intro X C E
  refine sw_aload_n (pc := 0) C d_Cd_init_0 rfl rfl ?_
  refine sw_objInit (pc := 1) C t_56 t_21 t_22 (Nat.le_of_ble_eq_true rfl) (Nat.le_of_ble_eq_true rfl) d_Cd_init_1 ?_
  refine sw_aload_n (pc := 4) C d_Cd_init_4 rfl rfl ?_
  refine sw_bipush (pc := 5) C (nI 48) d_Cd_init_5 (by decide) ?_
  refine sw_newI (pc := 7) C 48 t_41 (nI_pos (by decide)) (nI_clamp (by decide)) (by decide) (Nat.le_of_ble_eq_true rfl) (Nat.le_of_ble_eq_true rfl) d_Cd_init_7 (fun z => ?_)
  refine sw_putF (pc := 9) C inCw 0 rfl rfl 3 (by decide) tyCw okCw nmCw t_70 rfl rfl rfl rfl (ty := (.array .int)) (by decide +kernel) rfl rfl (Nat.le_of_ble_eq_true rfl) d_Cd_init_9 ?_
  refine sw_aload_n (pc := 12) C d_Cd_init_12 rfl rfl ?_
  refine sw_bipush (pc := 13) C (nI 48) d_Cd_init_13 (by decide) ?_
  refine sw_newI (pc := 15) C 48 t_41 (nI_pos (by decide)) (nI_clamp (by decide)) (by decide) (Nat.le_of_ble_eq_true rfl) (Nat.le_of_ble_eq_true rfl) d_Cd_init_15 (fun o => ?_)
  refine sw_putF (pc := 17) C inCw 0 rfl rfl 4 (by decide) tyCw okCw nmCw t_71 rfl rfl rfl rfl (ty := (.array .int)) (by decide +kernel) rfl rfl (Nat.le_of_ble_eq_true rfl) d_Cd_init_17 ?_
  refine sw_aload_n (pc := 20) C d_Cd_init_20 rfl rfl ?_
  refine sw_ldc (pc := 21) C t_57 d_Cd_init_21 ?_
  refine sw_topi (z := nI 65536) rfl ?_
  refine sw_put (pc := 23) C inCw 0 rfl rfl 5 (by decide) tyCw okCw nmCw t_72 rfl rfl (ty := .int) (by decide +kernel) rfl rfl (Nat.le_of_ble_eq_true rfl) d_Cd_init_23 ?_
  refine sw_aload_n (pc := 26) C d_Cd_init_26 rfl rfl ?_
  refine sw_callUP (pc := 27) C (c_restart_w l g a z o (.null) (.int 0) (.int 0) (nI 65536) (fun _ => 0) (fun _ => 0)) su_Cw_Cd_restart t_58 rfl rfl rfl rfl [0, 1, 2] rfl rfl rfl rfl (Nat.le_of_ble_eq_true rfl) (Nat.le_of_ble_eq_true rfl) (Nat.le_of_ble_eq_true rfl) (Nat.le_of_ble_eq_true rfl) (Nat.le_of_ble_eq_true rfl) d_Cd_init_27 (fun v w1 hp => ?_)
  obtain ⟨rfl, rfl⟩ := hp
  refine ⟨rfl, ?_⟩
  refine sw_ws (ws' := [(a, .inr (1, [.null, .int 0, .int 0, .ref z, .ref o, .int (nI 65536)])), (z, .inl (g.2.1, 48, .inl (nF (fun _ => 1)))), (o, .inl (g.2.1, 48, .inl (nF (fun _ => 1))))]) rfl ?_
  exact sw_vret (pc := 30) C E rfl (Nat.le_of_ble_eq_true rfl) (Nat.le_of_ble_eq_true rfl) d_Cd_init_30 ⟨rfl, z, o, rfl⟩
set_option maxRecDepth 100000 in
set_option maxHeartbeats 4000000 in
theorem i_Cw (l : Launch) (g : Gl) (a : Nat) : Ct l g y_Cw_init b_Cw_init 1 none (rmA 3 3 96) [.ref a] ([(a, .inr (1, [.null, .int 0, .int 0, .null, .null, .int 0]))]) (fun u w => u = none ∧ ∃ r z o, w = [(a, .inr (1, [.ref r, .int (nI 0), .int (nI 0), .ref z, .ref o, .int (nI 65536)])), (z, .inl (g.2.1, 48, .inl (nF (fun _ => 1)))), (o, .inl (g.2.1, 48, .inl (nF (fun _ => 1))))]) := by
  refine ct_of [some (.ref a)] (by decide) (Nat.le_of_ble_eq_true rfl) rfl ?_
  intro X C E
  refine sw_aload_n (pc := 0) C d_Cw_init_0 rfl rfl ?_
  refine sw_ws (ws' := [] ++ [(a, .inr (1, [.null, .int 0, .int 0, .null, .null, .int 0]))]) rfl ?_
  refine sw_callIJ1 (pc := 1) C (i_Cd_w l g a) si_Cd_init t_53 rfl rfl (Nat.le_of_ble_eq_true rfl) (Nat.le_of_ble_eq_true rfl) (Nat.le_of_ble_eq_true rfl) (Nat.le_of_ble_eq_true rfl) (Nat.le_of_ble_eq_true rfl) d_Cw_init_1 (fun v w1 hp => ?_)
  obtain ⟨rfl, z, o, rfl⟩ := hp
  refine sw_ws (ws' := [(a, .inr (1, [.null, .int 0, .int 0, .ref z, .ref o, .int (nI 65536)])), (z, .inl (g.2.1, 48, .inl (nF (fun _ => 1)))), (o, .inl (g.2.1, 48, .inl (nF (fun _ => 1))))]) rfl ?_
  refine sw_aload_n (pc := 4) C d_Cw_init_4 rfl rfl ?_
  refine sw_iconst (pc := 5) C (nI 0) d_Cw_init_5 (by decide) ?_
  refine sw_newI (pc := 6) C 0 t_41 (nI_pos (by decide)) (nI_clamp (by decide)) (by decide) (Nat.le_of_ble_eq_true rfl) (Nat.le_of_ble_eq_true rfl) d_Cw_init_6 (fun r => ?_)
  refine sw_put (pc := 8) C inCw 0 rfl rfl 0 (by decide) tyCw okCw nmCw t_67 rfl rfl (ty := (.array .int)) (by decide +kernel) rfl rfl (Nat.le_of_ble_eq_true rfl) d_Cw_init_8 ?_
  refine sw_aload_n (pc := 11) C d_Cw_init_11 rfl rfl ?_
  refine sw_iconst (pc := 12) C (nI 0) d_Cw_init_12 (by decide) ?_
  refine sw_put (pc := 13) C inCw 0 rfl rfl 1 (by decide) tyCw okCw nmCw t_68 rfl rfl (ty := .int) (by decide +kernel) rfl rfl (Nat.le_of_ble_eq_true rfl) d_Cw_init_13 ?_
  refine sw_aload_n (pc := 16) C d_Cw_init_16 rfl rfl ?_
  refine sw_iconst (pc := 17) C (nI 0) d_Cw_init_17 (by decide) ?_
  refine sw_put (pc := 18) C inCw 0 rfl rfl 2 (by decide) tyCw okCw nmCw t_69 rfl rfl (ty := .int) (by decide +kernel) rfl rfl (Nat.le_of_ble_eq_true rfl) d_Cw_init_18 ?_
  refine sw_sub (ws' := [(a, .inr (1, [.ref r, .int (nI 0), .int (nI 0), .ref z, .ref o, .int (nI 65536)])), (z, .inl (g.2.1, 48, .inl (nF (fun _ => 1)))), (o, .inl (g.2.1, 48, .inl (nF (fun _ => 1))))]) [0, 1, 2] rfl rfl ?_
  exact sw_vret (pc := 21) C E rfl (Nat.le_of_ble_eq_true rfl) (Nat.le_of_ble_eq_true rfl) d_Cw_init_21 ⟨rfl, r, z, o, rfl⟩
set_option maxRecDepth 100000 in
set_option maxHeartbeats 4000000 in
theorem i_Dw (l : Launch) (g : Gl) (d : Nat) : Ct l g y_Dw_init b_Dw_init 1 none (rmA 4 4 102) [.ref d] ([(d, .inr (3, [.null]))]) (fun u w => u = none ∧ ∃ a r z o, w = [(d, .inr (3, [.ref a]))] ++ [(a, .inr (1, [.ref r, .int (nI 0), .int (nI 0), .ref z, .ref o, .int (nI 65536)])), (z, .inl (g.2.1, 48, .inl (nF (fun _ => 1)))), (o, .inl (g.2.1, 48, .inl (nF (fun _ => 1))))]) := by
  refine ct_of [some (.ref d)] (by decide) (Nat.le_of_ble_eq_true rfl) rfl ?_
  intro X C E
  refine sw_aload_n (pc := 0) C d_Dw_init_0 rfl rfl ?_
  refine sw_objInit (pc := 1) C t_47 t_21 t_22 (Nat.le_of_ble_eq_true rfl) (Nat.le_of_ble_eq_true rfl) d_Dw_init_1 ?_
  refine sw_aload_n (pc := 4) C d_Dw_init_4 rfl rfl ?_
  refine sw_new (pc := 5) C inCw tyCw okCw t_48 t_49 t_5 (ci := 1) rfl [.null, .int 0, .int 0, .null, .null, .int 0] (fun j hj => match j, hj with | 0, _ => rfl | 1, _ => rfl | 2, _ => rfl | 3, _ => rfl | 4, _ => rfl | 5, _ => rfl | k + 6, h => absurd h (by omega)) (Nat.le_of_ble_eq_true rfl) (Nat.le_of_ble_eq_true rfl) d_Dw_init_5 (fun a => ?_)
  refine sw_dup (pc := 8) C d_Dw_init_8 rfl ?_
  refine sw_callINJ1 (pc := 9) C (i_Cw l g a) si_Cw_init "LayeredPage" q_50 rfl rfl (Nat.le_of_ble_eq_true rfl) (Nat.le_of_ble_eq_true rfl) (Nat.le_of_ble_eq_true rfl) (Nat.le_of_ble_eq_true rfl) (Nat.le_of_ble_eq_true rfl) d_Dw_init_9 (fun v w1 hp => ?_)
  obtain ⟨rfl, r, z, o, rfl⟩ := hp
  refine sw_putF (pc := 12) C inDw 0 rfl rfl 0 (by decide) tyDw okDw nmDw t_86 rfl rfl rfl rfl (ty := (.object "LayeredPage$CodeWriter")) (by decide +kernel) rfl rfl (Nat.le_of_ble_eq_true rfl) d_Dw_init_12 ?_
  exact sw_vret (pc := 15) C E rfl (Nat.le_of_ble_eq_true rfl) (Nat.le_of_ble_eq_true rfl) d_Dw_init_15 ⟨rfl, a, r, z, o, rfl⟩
set_option maxRecDepth 100000 in
set_option maxHeartbeats 4000000 in
theorem i_Cd_r (l : Launch) (g : Gl) (a : Nat) : Ct l g y_Cd_init b_Cd_init 1 none (rmA 2 2 96) [.ref a] ([(a, .inr (0, [.null, .int 0, .int 0, .int 0, .int 0, .null, .null, .int 0]))]) (fun u w => u = none ∧ ∃ z o, w = [(a, .inr (0, [.null, .int 0, .int 0, .int 0, .int 0, .ref z, .ref o, .int (nI 65536)])), (z, .inl (g.2.1, 48, .inl (nF (fun _ => 1)))), (o, .inl (g.2.1, 48, .inl (nF (fun _ => 1))))]) := by
  refine ct_of [some (.ref a)] (by decide) (Nat.le_of_ble_eq_true rfl) rfl ?_
  intro X C E
  refine sw_aload_n (pc := 0) C d_Cd_init_0 rfl rfl ?_
  refine sw_objInit (pc := 1) C t_56 t_21 t_22 (Nat.le_of_ble_eq_true rfl) (Nat.le_of_ble_eq_true rfl) d_Cd_init_1 ?_
  refine sw_aload_n (pc := 4) C d_Cd_init_4 rfl rfl ?_
  refine sw_bipush (pc := 5) C (nI 48) d_Cd_init_5 (by decide) ?_
  refine sw_newI (pc := 7) C 48 t_41 (nI_pos (by decide)) (nI_clamp (by decide)) (by decide) (Nat.le_of_ble_eq_true rfl) (Nat.le_of_ble_eq_true rfl) d_Cd_init_7 (fun z => ?_)
  refine sw_putF (pc := 9) C inCr 0 rfl rfl 5 (by decide) tyCr okCr nmCr t_70 rfl rfl rfl rfl (ty := (.array .int)) (by decide +kernel) rfl rfl (Nat.le_of_ble_eq_true rfl) d_Cd_init_9 ?_
  refine sw_aload_n (pc := 12) C d_Cd_init_12 rfl rfl ?_
  refine sw_bipush (pc := 13) C (nI 48) d_Cd_init_13 (by decide) ?_
  refine sw_newI (pc := 15) C 48 t_41 (nI_pos (by decide)) (nI_clamp (by decide)) (by decide) (Nat.le_of_ble_eq_true rfl) (Nat.le_of_ble_eq_true rfl) d_Cd_init_15 (fun o => ?_)
  refine sw_putF (pc := 17) C inCr 0 rfl rfl 6 (by decide) tyCr okCr nmCr t_71 rfl rfl rfl rfl (ty := (.array .int)) (by decide +kernel) rfl rfl (Nat.le_of_ble_eq_true rfl) d_Cd_init_17 ?_
  refine sw_aload_n (pc := 20) C d_Cd_init_20 rfl rfl ?_
  refine sw_ldc (pc := 21) C t_57 d_Cd_init_21 ?_
  refine sw_topi (z := nI 65536) rfl ?_
  refine sw_put (pc := 23) C inCr 0 rfl rfl 7 (by decide) tyCr okCr nmCr t_72 rfl rfl (ty := .int) (by decide +kernel) rfl rfl (Nat.le_of_ble_eq_true rfl) d_Cd_init_23 ?_
  refine sw_aload_n (pc := 26) C d_Cd_init_26 rfl rfl ?_
  refine sw_callUP (pc := 27) C (c_restart_r l g a z o (.null) (.int 0) (.int 0) (.int 0) (.int 0) (nI 65536) (fun _ => 0) (fun _ => 0)) su_Cr_Cd_restart t_58 rfl rfl rfl rfl [0, 1, 2] rfl rfl rfl rfl (Nat.le_of_ble_eq_true rfl) (Nat.le_of_ble_eq_true rfl) (Nat.le_of_ble_eq_true rfl) (Nat.le_of_ble_eq_true rfl) (Nat.le_of_ble_eq_true rfl) d_Cd_init_27 (fun v w1 hp => ?_)
  obtain ⟨rfl, rfl⟩ := hp
  refine ⟨rfl, ?_⟩
  refine sw_ws (ws' := [(a, .inr (0, [.null, .int 0, .int 0, .int 0, .int 0, .ref z, .ref o, .int (nI 65536)])), (z, .inl (g.2.1, 48, .inl (nF (fun _ => 1)))), (o, .inl (g.2.1, 48, .inl (nF (fun _ => 1))))]) rfl ?_
  exact sw_vret (pc := 30) C E rfl (Nat.le_of_ble_eq_true rfl) (Nat.le_of_ble_eq_true rfl) d_Cd_init_30 ⟨rfl, z, o, rfl⟩
set_option maxRecDepth 100000 in
set_option maxHeartbeats 4000000 in
theorem i_Cr (l : Launch) (g : Gl) (a : Nat) : Ct l g y_Cr_init b_Cr_init 1 none (rmA 3 3 96) [.ref a] ([(a, .inr (0, [.null, .int 0, .int 0, .int 0, .int 0, .null, .null, .int 0]))]) (fun u w => u = none ∧ ∃ r z o, w = [(a, .inr (0, [.ref r, .int (nI 0), .int (nI 0), .int (nI 0), .int (nI 0), .ref z, .ref o, .int (nI 65536)])), (z, .inl (g.2.1, 48, .inl (nF (fun _ => 1)))), (o, .inl (g.2.1, 48, .inl (nF (fun _ => 1))))]) := by
  refine ct_of [some (.ref a)] (by decide) (Nat.le_of_ble_eq_true rfl) rfl ?_
  intro X C E
  refine sw_aload_n (pc := 0) C d_Cr_init_0 rfl rfl ?_
  refine sw_ws (ws' := [] ++ [(a, .inr (0, [.null, .int 0, .int 0, .int 0, .int 0, .null, .null, .int 0]))]) rfl ?_
  refine sw_callIJ1 (pc := 1) C (i_Cd_r l g a) si_Cd_init t_101 rfl rfl (Nat.le_of_ble_eq_true rfl) (Nat.le_of_ble_eq_true rfl) (Nat.le_of_ble_eq_true rfl) (Nat.le_of_ble_eq_true rfl) (Nat.le_of_ble_eq_true rfl) d_Cr_init_1 (fun v w1 hp => ?_)
  obtain ⟨rfl, z, o, rfl⟩ := hp
  refine sw_ws (ws' := [(a, .inr (0, [.null, .int 0, .int 0, .int 0, .int 0, .ref z, .ref o, .int (nI 65536)])), (z, .inl (g.2.1, 48, .inl (nF (fun _ => 1)))), (o, .inl (g.2.1, 48, .inl (nF (fun _ => 1))))]) rfl ?_
  refine sw_aload_n (pc := 4) C d_Cr_init_4 rfl rfl ?_
  refine sw_iconst (pc := 5) C (nI 0) d_Cr_init_5 (by decide) ?_
  refine sw_newI (pc := 6) C 0 t_41 (nI_pos (by decide)) (nI_clamp (by decide)) (by decide) (Nat.le_of_ble_eq_true rfl) (Nat.le_of_ble_eq_true rfl) d_Cr_init_6 (fun r => ?_)
  refine sw_put (pc := 8) C inCr 0 rfl rfl 0 (by decide) tyCr okCr nmCr t_102 rfl rfl (ty := (.array .int)) (by decide +kernel) rfl rfl (Nat.le_of_ble_eq_true rfl) d_Cr_init_8 ?_
  refine sw_aload_n (pc := 11) C d_Cr_init_11 rfl rfl ?_
  refine sw_iconst (pc := 12) C (nI 0) d_Cr_init_12 (by decide) ?_
  refine sw_put (pc := 13) C inCr 0 rfl rfl 1 (by decide) tyCr okCr nmCr t_103 rfl rfl (ty := .int) (by decide +kernel) rfl rfl (Nat.le_of_ble_eq_true rfl) d_Cr_init_13 ?_
  refine sw_aload_n (pc := 16) C d_Cr_init_16 rfl rfl ?_
  refine sw_iconst (pc := 17) C (nI 0) d_Cr_init_17 (by decide) ?_
  refine sw_put (pc := 18) C inCr 0 rfl rfl 2 (by decide) tyCr okCr nmCr t_104 rfl rfl (ty := .int) (by decide +kernel) rfl rfl (Nat.le_of_ble_eq_true rfl) d_Cr_init_18 ?_
  refine sw_aload_n (pc := 21) C d_Cr_init_21 rfl rfl ?_
  refine sw_iconst (pc := 22) C (nI 0) d_Cr_init_22 (by decide) ?_
  refine sw_put (pc := 23) C inCr 0 rfl rfl 3 (by decide) tyCr okCr nmCr t_105 rfl rfl (ty := .int) (by decide +kernel) rfl rfl (Nat.le_of_ble_eq_true rfl) d_Cr_init_23 ?_
  refine sw_aload_n (pc := 26) C d_Cr_init_26 rfl rfl ?_
  refine sw_iconst (pc := 27) C (nI 0) d_Cr_init_27 (by decide) ?_
  refine sw_put (pc := 28) C inCr 0 rfl rfl 4 (by decide) tyCr okCr nmCr t_106 rfl rfl (ty := .int) (by decide +kernel) rfl rfl (Nat.le_of_ble_eq_true rfl) d_Cr_init_28 ?_
  refine sw_sub (ws' := [(a, .inr (0, [.ref r, .int (nI 0), .int (nI 0), .int (nI 0), .int (nI 0), .ref z, .ref o, .int (nI 65536)])), (z, .inl (g.2.1, 48, .inl (nF (fun _ => 1)))), (o, .inl (g.2.1, 48, .inl (nF (fun _ => 1))))]) [0, 1, 2] rfl rfl ?_
  exact sw_vret (pc := 31) C E rfl (Nat.le_of_ble_eq_true rfl) (Nat.le_of_ble_eq_true rfl) d_Cr_init_31 ⟨rfl, r, z, o, rfl⟩
set_option maxRecDepth 100000 in
set_option maxHeartbeats 4000000 in
theorem i_Dr (l : Launch) (g : Gl) (d : Nat) : Ct l g y_Dr_init b_Dr_init 1 none (rmA 4 4 104) [.ref d] ([(d, .inr (2, [.null]))]) (fun u w => u = none ∧ ∃ a r z o, w = [(d, .inr (2, [.ref a]))] ++ [(a, .inr (0, [.ref r, .int (nI 0), .int (nI 0), .int (nI 0), .int (nI 0), .ref z, .ref o, .int (nI 65536)])), (z, .inl (g.2.1, 48, .inl (nF (fun _ => 1)))), (o, .inl (g.2.1, 48, .inl (nF (fun _ => 1))))]) := by
  refine ct_of [some (.ref d)] (by decide) (Nat.le_of_ble_eq_true rfl) rfl ?_
  intro X C E
  refine sw_aload_n (pc := 0) C d_Dr_init_0 rfl rfl ?_
  refine sw_objInit (pc := 1) C t_95 t_21 t_22 (Nat.le_of_ble_eq_true rfl) (Nat.le_of_ble_eq_true rfl) d_Dr_init_1 ?_
  refine sw_aload_n (pc := 4) C d_Dr_init_4 rfl rfl ?_
  refine sw_new (pc := 5) C inCr tyCr okCr t_96 t_97 t_8 (ci := 0) rfl [.null, .int 0, .int 0, .int 0, .int 0, .null, .null, .int 0] (fun j hj => match j, hj with | 0, _ => rfl | 1, _ => rfl | 2, _ => rfl | 3, _ => rfl | 4, _ => rfl | 5, _ => rfl | 6, _ => rfl | 7, _ => rfl | k + 8, h => absurd h (by omega)) (Nat.le_of_ble_eq_true rfl) (Nat.le_of_ble_eq_true rfl) d_Dr_init_5 (fun a => ?_)
  refine sw_dup (pc := 8) C d_Dr_init_8 rfl ?_
  refine sw_callINJ1 (pc := 9) C (i_Cr l g a) si_Cr_init "LayeredPage" q_98 rfl rfl (Nat.le_of_ble_eq_true rfl) (Nat.le_of_ble_eq_true rfl) (Nat.le_of_ble_eq_true rfl) (Nat.le_of_ble_eq_true rfl) (Nat.le_of_ble_eq_true rfl) d_Dr_init_9 (fun v w1 hp => ?_)
  obtain ⟨rfl, r, z, o, rfl⟩ := hp
  refine sw_putF (pc := 12) C inDr 0 rfl rfl 0 (by decide) tyDr okDr nmDr t_121 rfl rfl rfl rfl (ty := (.object "LayeredPage$CodeReader")) (by decide +kernel) rfl rfl (Nat.le_of_ble_eq_true rfl) d_Dr_init_12 ?_
  exact sw_vret (pc := 15) C E rfl (Nat.le_of_ble_eq_true rfl) (Nat.le_of_ble_eq_true rfl) d_Dr_init_15 ⟨rfl, a, r, z, o, rfl⟩
set_option maxRecDepth 100000 in
set_option maxHeartbeats 4000000 in
theorem i_Ly8 (l : Launch) (g : Gl) (a : Nat) : Ct l g y_Ly_init b_Ly_init 2 none (rmA 1 4 200) [.ref a, .int (nI 8)] ([(a, .inr (4, [.int 0, .null, .null, .null, .null, .int 0]))]) (fun u w => u = none ∧ ∃ A : Nat → Nat, A 0 = a ∧ w = wLy g A 8 (fun _ => nI 0) (fun _ => nI 0) (fun _ => nI 0) (fun _ => nI 0) false) := by
  refine ct_of [some (.ref a), some (.int (nI 8))] (by decide) (Nat.le_of_ble_eq_true rfl) rfl ?_
  intro X C E
  refine sw_aload_n (pc := 0) C d_Ly_init_0 rfl rfl ?_
  refine sw_objInit (pc := 1) C t_138 t_21 t_22 (Nat.le_of_ble_eq_true rfl) (Nat.le_of_ble_eq_true rfl) d_Ly_init_1 ?_
  refine sw_aload_n (pc := 4) C d_Ly_init_4 rfl rfl ?_
  refine sw_iconst (pc := 5) C (nI 0) d_Ly_init_5 (by decide) ?_
  refine sw_topi (z := bI false) rfl ?_
  refine sw_put (pc := 6) C inLy 0 rfl rfl 5 (by decide) tyLy okLy nmLy t_145 rfl rfl (ty := .boolean) (by decide +kernel) (bI_nar _) (bI_fit _) (Nat.le_of_ble_eq_true rfl) d_Ly_init_6 ?_
  refine sw_aload_n (pc := 9) C d_Ly_init_9 rfl rfl ?_
  refine sw_iload_n (pc := 10) C d_Ly_init_10 rfl rfl ?_
  refine sw_putF (pc := 11) C inLy 0 rfl rfl 0 (by decide) tyLy okLy nmLy t_139 rfl rfl rfl rfl (ty := .int) (by decide +kernel) rfl rfl (Nat.le_of_ble_eq_true rfl) d_Ly_init_11 ?_
  refine sw_aload_n (pc := 14) C d_Ly_init_14 rfl rfl ?_
  refine sw_iload_n (pc := 15) C d_Ly_init_15 rfl rfl ?_
  refine sw_iload_n (pc := 16) C d_Ly_init_16 rfl rfl ?_
  refine sw_imul (pc := 17) C d_Ly_init_17 ?_
  refine sw_topi (z := nI (8 * 8)) (pk_mul _ _) ?_
  refine sw_topi (z := nI 64) rfl ?_
  refine sw_newI (pc := 18) C 64 t_41 (nI_pos (by decide)) (nI_clamp (by decide)) (by decide) (Nat.le_of_ble_eq_true rfl) (Nat.le_of_ble_eq_true rfl) d_Ly_init_18 (fun c1 => ?_)
  refine sw_putF (pc := 20) C inLy 0 rfl rfl 1 (by decide) tyLy okLy nmLy t_141 rfl rfl rfl rfl (ty := (.array .int)) (by decide +kernel) rfl rfl (Nat.le_of_ble_eq_true rfl) d_Ly_init_20 ?_
  refine sw_aload_n (pc := 23) C d_Ly_init_23 rfl rfl ?_
  refine sw_iload_n (pc := 24) C d_Ly_init_24 rfl rfl ?_
  refine sw_iload_n (pc := 25) C d_Ly_init_25 rfl rfl ?_
  refine sw_imul (pc := 26) C d_Ly_init_26 ?_
  refine sw_topi (z := nI (8 * 8)) (pk_mul _ _) ?_
  refine sw_topi (z := nI 64) rfl ?_
  refine sw_newI (pc := 27) C 64 t_41 (nI_pos (by decide)) (nI_clamp (by decide)) (by decide) (Nat.le_of_ble_eq_true rfl) (Nat.le_of_ble_eq_true rfl) d_Ly_init_27 (fun c2 => ?_)
  refine sw_putF (pc := 29) C inLy 0 rfl rfl 2 (by decide) tyLy okLy nmLy t_142 rfl rfl rfl rfl (ty := (.array .int)) (by decide +kernel) rfl rfl (Nat.le_of_ble_eq_true rfl) d_Ly_init_29 ?_
  refine sw_aload_n (pc := 32) C d_Ly_init_32 rfl rfl ?_
  refine sw_iload_n (pc := 33) C d_Ly_init_33 rfl rfl ?_
  refine sw_iload_n (pc := 34) C d_Ly_init_34 rfl rfl ?_
  refine sw_imul (pc := 35) C d_Ly_init_35 ?_
  refine sw_topi (z := nI (8 * 8)) (pk_mul _ _) ?_
  refine sw_topi (z := nI 64) rfl ?_
  refine sw_newI (pc := 36) C 64 t_41 (nI_pos (by decide)) (nI_clamp (by decide)) (by decide) (Nat.le_of_ble_eq_true rfl) (Nat.le_of_ble_eq_true rfl) d_Ly_init_36 (fun c3 => ?_)
  refine sw_putF (pc := 38) C inLy 0 rfl rfl 3 (by decide) tyLy okLy nmLy t_143 rfl rfl rfl rfl (ty := (.array .int)) (by decide +kernel) rfl rfl (Nat.le_of_ble_eq_true rfl) d_Ly_init_38 ?_
  refine sw_aload_n (pc := 41) C d_Ly_init_41 rfl rfl ?_
  refine sw_iload_n (pc := 42) C d_Ly_init_42 rfl rfl ?_
  refine sw_topi (z := nI 8) rfl ?_
  refine sw_newI (pc := 43) C 8 t_41 (nI_pos (by decide)) (nI_clamp (by decide)) (by decide) (Nat.le_of_ble_eq_true rfl) (Nat.le_of_ble_eq_true rfl) d_Ly_init_43 (fun c4 => ?_)
  refine sw_putF (pc := 45) C inLy 0 rfl rfl 4 (by decide) tyLy okLy nmLy t_144 rfl rfl rfl rfl (ty := (.array .int)) (by decide +kernel) rfl rfl (Nat.le_of_ble_eq_true rfl) d_Ly_init_45 ?_
  exact sw_vret (pc := 48) C E rfl (Nat.le_of_ble_eq_true rfl) (Nat.le_of_ble_eq_true rfl) d_Ly_init_48 ⟨rfl, fun i => [a, c1, c2, c3, c4].getD i 0, rfl, rfl⟩
set_option maxRecDepth 100000 in
set_option maxHeartbeats 4000000 in
theorem i_Ly4 (l : Launch) (g : Gl) (a : Nat) : Ct l g y_Ly_init b_Ly_init 2 none (rmA 1 4 52) [.ref a, .int (nI 4)] ([(a, .inr (4, [.int 0, .null, .null, .null, .null, .int 0]))]) (fun u w => u = none ∧ ∃ A : Nat → Nat, A 0 = a ∧ w = wLy g A 4 (fun _ => nI 0) (fun _ => nI 0) (fun _ => nI 0) (fun _ => nI 0) false) := by
  refine ct_of [some (.ref a), some (.int (nI 4))] (by decide) (Nat.le_of_ble_eq_true rfl) rfl ?_
  intro X C E
  refine sw_aload_n (pc := 0) C d_Ly_init_0 rfl rfl ?_
  refine sw_objInit (pc := 1) C t_138 t_21 t_22 (Nat.le_of_ble_eq_true rfl) (Nat.le_of_ble_eq_true rfl) d_Ly_init_1 ?_
  refine sw_aload_n (pc := 4) C d_Ly_init_4 rfl rfl ?_
  refine sw_iconst (pc := 5) C (nI 0) d_Ly_init_5 (by decide) ?_
  refine sw_topi (z := bI false) rfl ?_
  refine sw_put (pc := 6) C inLy 0 rfl rfl 5 (by decide) tyLy okLy nmLy t_145 rfl rfl (ty := .boolean) (by decide +kernel) (bI_nar _) (bI_fit _) (Nat.le_of_ble_eq_true rfl) d_Ly_init_6 ?_
  refine sw_aload_n (pc := 9) C d_Ly_init_9 rfl rfl ?_
  refine sw_iload_n (pc := 10) C d_Ly_init_10 rfl rfl ?_
  refine sw_putF (pc := 11) C inLy 0 rfl rfl 0 (by decide) tyLy okLy nmLy t_139 rfl rfl rfl rfl (ty := .int) (by decide +kernel) rfl rfl (Nat.le_of_ble_eq_true rfl) d_Ly_init_11 ?_
  refine sw_aload_n (pc := 14) C d_Ly_init_14 rfl rfl ?_
  refine sw_iload_n (pc := 15) C d_Ly_init_15 rfl rfl ?_
  refine sw_iload_n (pc := 16) C d_Ly_init_16 rfl rfl ?_
  refine sw_imul (pc := 17) C d_Ly_init_17 ?_
  refine sw_topi (z := nI (4 * 4)) (pk_mul _ _) ?_
  refine sw_topi (z := nI 16) rfl ?_
  refine sw_newI (pc := 18) C 16 t_41 (nI_pos (by decide)) (nI_clamp (by decide)) (by decide) (Nat.le_of_ble_eq_true rfl) (Nat.le_of_ble_eq_true rfl) d_Ly_init_18 (fun c1 => ?_)
  refine sw_putF (pc := 20) C inLy 0 rfl rfl 1 (by decide) tyLy okLy nmLy t_141 rfl rfl rfl rfl (ty := (.array .int)) (by decide +kernel) rfl rfl (Nat.le_of_ble_eq_true rfl) d_Ly_init_20 ?_
  refine sw_aload_n (pc := 23) C d_Ly_init_23 rfl rfl ?_
  refine sw_iload_n (pc := 24) C d_Ly_init_24 rfl rfl ?_
  refine sw_iload_n (pc := 25) C d_Ly_init_25 rfl rfl ?_
  refine sw_imul (pc := 26) C d_Ly_init_26 ?_
  refine sw_topi (z := nI (4 * 4)) (pk_mul _ _) ?_
  refine sw_topi (z := nI 16) rfl ?_
  refine sw_newI (pc := 27) C 16 t_41 (nI_pos (by decide)) (nI_clamp (by decide)) (by decide) (Nat.le_of_ble_eq_true rfl) (Nat.le_of_ble_eq_true rfl) d_Ly_init_27 (fun c2 => ?_)
  refine sw_putF (pc := 29) C inLy 0 rfl rfl 2 (by decide) tyLy okLy nmLy t_142 rfl rfl rfl rfl (ty := (.array .int)) (by decide +kernel) rfl rfl (Nat.le_of_ble_eq_true rfl) d_Ly_init_29 ?_
  refine sw_aload_n (pc := 32) C d_Ly_init_32 rfl rfl ?_
  refine sw_iload_n (pc := 33) C d_Ly_init_33 rfl rfl ?_
  refine sw_iload_n (pc := 34) C d_Ly_init_34 rfl rfl ?_
  refine sw_imul (pc := 35) C d_Ly_init_35 ?_
  refine sw_topi (z := nI (4 * 4)) (pk_mul _ _) ?_
  refine sw_topi (z := nI 16) rfl ?_
  refine sw_newI (pc := 36) C 16 t_41 (nI_pos (by decide)) (nI_clamp (by decide)) (by decide) (Nat.le_of_ble_eq_true rfl) (Nat.le_of_ble_eq_true rfl) d_Ly_init_36 (fun c3 => ?_)
  refine sw_putF (pc := 38) C inLy 0 rfl rfl 3 (by decide) tyLy okLy nmLy t_143 rfl rfl rfl rfl (ty := (.array .int)) (by decide +kernel) rfl rfl (Nat.le_of_ble_eq_true rfl) d_Ly_init_38 ?_
  refine sw_aload_n (pc := 41) C d_Ly_init_41 rfl rfl ?_
  refine sw_iload_n (pc := 42) C d_Ly_init_42 rfl rfl ?_
  refine sw_topi (z := nI 4) rfl ?_
  refine sw_newI (pc := 43) C 4 t_41 (nI_pos (by decide)) (nI_clamp (by decide)) (by decide) (Nat.le_of_ble_eq_true rfl) (Nat.le_of_ble_eq_true rfl) d_Ly_init_43 (fun c4 => ?_)
  refine sw_putF (pc := 45) C inLy 0 rfl rfl 4 (by decide) tyLy okLy nmLy t_144 rfl rfl rfl rfl (ty := (.array .int)) (by decide +kernel) rfl rfl (Nat.le_of_ble_eq_true rfl) d_Ly_init_45 ?_
  exact sw_vret (pc := 48) C E rfl (Nat.le_of_ble_eq_true rfl) (Nat.le_of_ble_eq_true rfl) d_Ly_init_48 ⟨rfl, fun i => [a, c1, c2, c3, c4].getD i 0, rfl, rfl⟩
