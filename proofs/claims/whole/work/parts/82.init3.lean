/-! both objects of the law -/
set_option maxRecDepth 100000 in
set_option maxHeartbeats 4000000 in
theorem i_LP (l : Launch) (g : Gl) (x : Nat) : Ct l g y_LP_init b_LP_init 1 none (rmA 5 78 2463) [.ref x] ([(x, .inr (8, [.null, .null, .null, .null, .int 0, .null, .null]))]) (fun u w => u = none ∧ ∃ (ob r dw a1 r1 z1 o1 dr a2 r2 z2 o2 : Nat) (A B S : Nat → Nat), w = [lpC x ob dw dr A B S false] ++ wOct g ob r (rowOf []) (nI 0) ++ [(dw, .inr (3, [.ref a1])), (a1, .inr (1, [.ref r1, .int (nI 0), .int (nI 0), .ref z1, .ref o1, .int (nI 65536)])), (z1, .inl (g.2.1, 48, .inl (nF (fun _ => 1)))), (o1, .inl (g.2.1, 48, .inl (nF (fun _ => 1))))] ++ [(dr, .inr (2, [.ref a2])), (a2, .inr (0, [.ref r2, .int (nI 0), .int (nI 0), .int (nI 0), .int (nI 0), .ref z2, .ref o2, .int (nI 65536)])), (z2, .inl (g.2.1, 48, .inl (nF (fun _ => 1)))), (o2, .inl (g.2.1, 48, .inl (nF (fun _ => 1))))] ++ wPg g A 0 0 (nF (fun _ => 0)) (nF (fun _ => 0)) (fun _ => nI 0) (fun _ => nI 0) (fun _ => nI 0) (fun _ => nI 0) false (fun _ => nI 0) (fun _ => nI 0) (fun _ => nI 0) (fun _ => nI 0) false (fun _ => shV 0 1 1 (-1)) ++ wPg g B 0 0 (nF (fun _ => 0)) (nF (fun _ => 0)) (fun _ => nI 0) (fun _ => nI 0) (fun _ => nI 0) (fun _ => nI 0) false (fun _ => nI 0) (fun _ => nI 0) (fun _ => nI 0) (fun _ => nI 0) false (fun _ => shV 0 1 1 (-1)) ++ wPg g S 0 0 (nF (fun _ => 0)) (nF (fun _ => 0)) (fun _ => nI 0) (fun _ => nI 0) (fun _ => nI 0) (fun _ => nI 0) false (fun _ => nI 0) (fun _ => nI 0) (fun _ => nI 0) (fun _ => nI 0) false (fun _ => shV 0 1 1 (-1))) := by
  refine ct_of [some (.ref x)] (by decide) (Nat.le_of_ble_eq_true rfl) rfl ?_
  intro X C E
  refine sw_aload_n (pc := 0) C d_LP_init_0 rfl rfl ?_
  refine sw_objInit (pc := 1) C t_20 t_21 t_22 (Nat.le_of_ble_eq_true rfl) (Nat.le_of_ble_eq_true rfl) d_LP_init_1 ?_
  refine sw_aload_n (pc := 4) C d_LP_init_4 rfl rfl ?_
  refine sw_new (pc := 5) C inOct tyOct okOct t_23 t_24 t_2 (ci := 5) rfl [.null, .int 0] (fun j hj => match j, hj with | 0, _ => rfl | 1, _ => rfl | k + 2, h => absurd h (by omega)) (Nat.le_of_ble_eq_true rfl) (Nat.le_of_ble_eq_true rfl) d_LP_init_5 (fun ob => ?_)
  refine sw_dup (pc := 8) C d_LP_init_8 rfl ?_
  refine sw_callINJ1 (pc := 9) C (i_Oct l g ob) si_Oct_init "LayeredPage" q_25 rfl rfl (Nat.le_of_ble_eq_true rfl) (Nat.le_of_ble_eq_true rfl) (Nat.le_of_ble_eq_true rfl) (Nat.le_of_ble_eq_true rfl) (Nat.le_of_ble_eq_true rfl) d_LP_init_9 (fun v w1 hp => ?_)
  obtain ⟨rfl, r, rfl⟩ := hp
  refine sw_putF (pc := 12) C inLP 0 rfl rfl 0 (by decide) tyLP okLP nmLP t_224 rfl rfl rfl rfl (ty := (.object "LayeredPage$Octets")) (by decide +kernel) rfl rfl (Nat.le_of_ble_eq_true rfl) d_LP_init_12 ?_
  refine sw_aload_n (pc := 15) C d_LP_init_15 rfl rfl ?_
  refine sw_new (pc := 16) C inDw tyDw okDw t_42 t_43 t_3 (ci := 3) rfl [.null] (fun j hj => match j, hj with | 0, _ => rfl | k + 1, h => absurd h (by omega)) (Nat.le_of_ble_eq_true rfl) (Nat.le_of_ble_eq_true rfl) d_LP_init_16 (fun dw => ?_)
  refine sw_dup (pc := 19) C d_LP_init_19 rfl ?_
  refine sw_callINJ1 (pc := 20) C (i_Dw l g dw) si_Dw_init "LayeredPage" q_44 rfl rfl (Nat.le_of_ble_eq_true rfl) (Nat.le_of_ble_eq_true rfl) (Nat.le_of_ble_eq_true rfl) (Nat.le_of_ble_eq_true rfl) (Nat.le_of_ble_eq_true rfl) d_LP_init_20 (fun v w1 hp => ?_)
  obtain ⟨rfl, a1, r1, z1, o1, rfl⟩ := hp
  refine sw_putF (pc := 23) C inLP 0 rfl rfl 1 (by decide) tyLP okLP nmLP t_225 rfl rfl rfl rfl (ty := (.object "LayeredPage$DocumentWriter")) (by decide +kernel) rfl rfl (Nat.le_of_ble_eq_true rfl) d_LP_init_23 ?_
  refine sw_aload_n (pc := 26) C d_LP_init_26 rfl rfl ?_
  refine sw_new (pc := 27) C inDr tyDr okDr t_90 t_91 t_7 (ci := 2) rfl [.null] (fun j hj => match j, hj with | 0, _ => rfl | k + 1, h => absurd h (by omega)) (Nat.le_of_ble_eq_true rfl) (Nat.le_of_ble_eq_true rfl) d_LP_init_27 (fun dr => ?_)
  refine sw_dup (pc := 30) C d_LP_init_30 rfl ?_
  refine sw_callINJ1 (pc := 31) C (i_Dr l g dr) si_Dr_init "LayeredPage" q_92 rfl rfl (Nat.le_of_ble_eq_true rfl) (Nat.le_of_ble_eq_true rfl) (Nat.le_of_ble_eq_true rfl) (Nat.le_of_ble_eq_true rfl) (Nat.le_of_ble_eq_true rfl) d_LP_init_31 (fun v w1 hp => ?_)
  obtain ⟨rfl, a2, r2, z2, o2, rfl⟩ := hp
  refine sw_putF (pc := 34) C inLP 0 rfl rfl 2 (by decide) tyLP okLP nmLP t_226 rfl rfl rfl rfl (ty := (.object "LayeredPage$DocumentReader")) (by decide +kernel) rfl rfl (Nat.le_of_ble_eq_true rfl) d_LP_init_34 ?_
  refine sw_aload_n (pc := 37) C d_LP_init_37 rfl rfl ?_
  refine sw_new (pc := 38) C inPg tyPg okPg t_125 t_126 t_9 (ci := 6) rfl [.null, .int 0, .null, .null, .int 0, .null, .null] (fun j hj => match j, hj with | 0, _ => rfl | 1, _ => rfl | 2, _ => rfl | 3, _ => rfl | 4, _ => rfl | 5, _ => rfl | 6, _ => rfl | k + 7, h => absurd h (by omega)) (Nat.le_of_ble_eq_true rfl) (Nat.le_of_ble_eq_true rfl) d_LP_init_38 (fun pa => ?_)
  refine sw_dup (pc := 41) C d_LP_init_41 rfl ?_
  refine sw_callIJ1 (pc := 42) C (i_Pg l g pa) si_Pg_init t_127 rfl rfl (Nat.le_of_ble_eq_true rfl) (Nat.le_of_ble_eq_true rfl) (Nat.le_of_ble_eq_true rfl) (Nat.le_of_ble_eq_true rfl) (Nat.le_of_ble_eq_true rfl) d_LP_init_42 (fun v w1 hp => ?_)
  obtain ⟨rfl, A, rfl, rfl⟩ := hp
  refine sw_putF (pc := 45) C inLP 0 rfl rfl 3 (by decide) tyLP okLP nmLP t_227 rfl rfl rfl rfl (ty := (.object "LayeredPage$Page")) (by decide +kernel) rfl rfl (Nat.le_of_ble_eq_true rfl) d_LP_init_45 ?_
  refine sw_aload_n (pc := 48) C d_LP_init_48 rfl rfl ?_
  refine sw_iconst (pc := 49) C (nI 0) d_LP_init_49 (by decide) ?_
  refine sw_topi (z := bI false) rfl ?_
  refine sw_put (pc := 50) C inLP 0 rfl rfl 4 (by decide) tyLP okLP nmLP t_228 rfl rfl (ty := .boolean) (by decide +kernel) (bI_nar _) (bI_fit _) (Nat.le_of_ble_eq_true rfl) d_LP_init_50 ?_
  refine sw_aload_n (pc := 53) C d_LP_init_53 rfl rfl ?_
  refine sw_new (pc := 54) C inPg tyPg okPg t_125 t_126 t_9 (ci := 6) rfl [.null, .int 0, .null, .null, .int 0, .null, .null] (fun j hj => match j, hj with | 0, _ => rfl | 1, _ => rfl | 2, _ => rfl | 3, _ => rfl | 4, _ => rfl | 5, _ => rfl | 6, _ => rfl | k + 7, h => absurd h (by omega)) (Nat.le_of_ble_eq_true rfl) (Nat.le_of_ble_eq_true rfl) d_LP_init_54 (fun pb => ?_)
  refine sw_dup (pc := 57) C d_LP_init_57 rfl ?_
  refine sw_callIJ1 (pc := 58) C (i_Pg l g pb) si_Pg_init t_127 rfl rfl (Nat.le_of_ble_eq_true rfl) (Nat.le_of_ble_eq_true rfl) (Nat.le_of_ble_eq_true rfl) (Nat.le_of_ble_eq_true rfl) (Nat.le_of_ble_eq_true rfl) d_LP_init_58 (fun v w1 hp => ?_)
  obtain ⟨rfl, B, rfl, rfl⟩ := hp
  refine sw_put (pc := 61) C inLP 0 rfl rfl 5 (by decide) tyLP okLP nmLP t_229 rfl rfl (ty := (.object "LayeredPage$Page")) (by decide +kernel) rfl rfl (Nat.le_of_ble_eq_true rfl) d_LP_init_61 ?_
  refine sw_aload_n (pc := 64) C d_LP_init_64 rfl rfl ?_
  refine sw_new (pc := 65) C inPg tyPg okPg t_125 t_126 t_9 (ci := 6) rfl [.null, .int 0, .null, .null, .int 0, .null, .null] (fun j hj => match j, hj with | 0, _ => rfl | 1, _ => rfl | 2, _ => rfl | 3, _ => rfl | 4, _ => rfl | 5, _ => rfl | 6, _ => rfl | k + 7, h => absurd h (by omega)) (Nat.le_of_ble_eq_true rfl) (Nat.le_of_ble_eq_true rfl) d_LP_init_65 (fun ps => ?_)
  refine sw_dup (pc := 68) C d_LP_init_68 rfl ?_
  refine sw_callIJ1 (pc := 69) C (i_Pg l g ps) si_Pg_init t_127 rfl rfl (Nat.le_of_ble_eq_true rfl) (Nat.le_of_ble_eq_true rfl) (Nat.le_of_ble_eq_true rfl) (Nat.le_of_ble_eq_true rfl) (Nat.le_of_ble_eq_true rfl) d_LP_init_69 (fun v w1 hp => ?_)
  obtain ⟨rfl, S, rfl, rfl⟩ := hp
  refine sw_put (pc := 72) C inLP 0 rfl rfl 6 (by decide) tyLP okLP nmLP t_230 rfl rfl (ty := (.object "LayeredPage$Page")) (by decide +kernel) rfl rfl (Nat.le_of_ble_eq_true rfl) d_LP_init_72 ?_
  exact sw_vret (pc := 75) C E rfl (Nat.le_of_ble_eq_true rfl) (Nat.le_of_ble_eq_true rfl) d_LP_init_75 ⟨rfl, ob, r, dw, a1, r1, z1, o1, dr, a2, r2, z2, o2, A, B, S, rfl⟩
