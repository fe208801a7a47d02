/-! a bit is written, a bit is read -/
theorem min1200r {n : Nat} (h : n ≤ 1200) : (if nI 1200 < nI n then nI 1200 else nI n) = nI n := by
  rw [if_neg (nI_nlt h (by decide))]
theorem and255 (m : Nat) : nI m &&& nI 255 = nI (m % 256) := by
  have h := pk_and (nI m) (m := nI 255) 8 rfl
  rw [h]
  congr 1
  show (BitVec.ofNat 32 m).toNat % 2 ^ 8 = m % 256
  rw [BitVec.toNat_ofNat]
  omega
set_option maxRecDepth 100000 in
set_option maxHeartbeats 4000000 in
theorem c_Cw_choose (l : Launch) (g : Gl) (a z o r : Nat) (l0 : List Nat) (Z O : Nat → Nat) (W sc v : Nat) (s b : Nat) (h1 : 1 ≤ l0.length) (hst : l0.length + sc / 8 + 2 < 1200) (hs : s ≤ 65536) (hb : b ≤ 1) : Ct l g y_Cw_choose b_Cw_choose 6 (some .int) (rmD 0) [.ref a, .int (nI s), .int (nI b)] (wKw g a z o r l0 ((Z, O, W, sc), v)) (fun u w => u = some (.int (nI b)) ∧ w = wKw g a z o r l0 ((Z, O, W, sc), v + (if b = 0 then 0 else s))) := by
  refine ct_of [some (.ref a), some (.int (nI s)), some (.int (nI b)), none, none, none] (by decide) (Nat.le_of_ble_eq_true rfl) rfl ?_
  intro X C E
  refine sw_aload_n (pc := 0) C d_Cw_choose_0 rfl rfl ?_
  refine sw_get (pc := 1) C inCw 0 rfl rfl 1 (by decide) t_68 rfl rfl d_Cw_choose_1 ?_
  refine sw_topi (z := nI l0.length) rfl ?_
  refine sw_aload_n (pc := 4) C d_Cw_choose_4 rfl rfl ?_
  refine sw_get (pc := 5) C inCw 0 rfl rfl 2 (by decide) t_69 rfl rfl d_Cw_choose_5 ?_
  refine sw_topi (z := nI sc) rfl ?_
  refine sw_bipush (pc := 8) C (nI 8) d_Cw_choose_8 (by decide) ?_
  refine sw_idiv (pc := 10) C d_Cw_choose_10 (by decide) ?_
  refine sw_topi (z := nI (sc / 8)) (pk_div (by omega) (by omega) (by omega)) ?_
  refine sw_iadd (pc := 11) C d_Cw_choose_11 ?_
  refine sw_topi (z := nI (l0.length + (sc / 8))) (nI_add _ _) ?_
  refine sw_iconst (pc := 12) C (nI 2) d_Cw_choose_12 (by decide) ?_
  refine sw_iadd (pc := 13) C d_Cw_choose_13 ?_
  refine sw_topi (z := nI ((l0.length + (sc / 8)) + 2)) (nI_add _ _) ?_
  refine sw_istore_n (pc := 14) C d_Cw_choose_14 rfl (by decide) rfl ?_
  refine sw_iload_n (pc := 15) C d_Cw_choose_15 rfl rfl ?_
  refine sw_iconst (pc := 16) C (nI 1) d_Cw_choose_16 (by decide) ?_
  refine sw_icmp_neN (pc := 17) C 98 (by omega) (by omega) d_Cw_choose_17 (by decide) (fun hb1 => ?_) (fun hb1 => ?_)
  · skip
    refine sw_iload_n (pc := 98) C d_Cw_choose_98 rfl rfl ?_
    exact sw_iret (pc := 99) C E rfl (Nat.le_of_ble_eq_true rfl) (Nat.le_of_ble_eq_true rfl) d_Cw_choose_99 ⟨rfl, by rw [if_pos (by omega), Nat.add_zero]⟩
  refine sw_iload_n (pc := 20) C d_Cw_choose_20 rfl rfl ?_
  refine sw_aload_n (pc := 21) C d_Cw_choose_21 rfl rfl ?_
  refine sw_get (pc := 22) C inCw 0 rfl rfl 0 (by decide) t_67 rfl rfl d_Cw_choose_22 ?_
  refine sw_alenI (pc := 25) C 3 rfl d_Cw_choose_25 ?_
  refine sw_icmp_geN (pc := 26) C 98 (by omega) (by omega) d_Cw_choose_26 (by decide) (fun h2 => ?_) (fun h2 => ?_)
  · skip
    omega
  have he : 2 ^ (8 - sc % 8) ≤ 2 ^ 8 := Nat.pow_le_pow_right (by decide) (by omega)
  have hse : s * 2 ^ (8 - sc % 8) ≤ 65536 * 2 ^ 8 := Nat.mul_le_mul hs he
  refine sw_iload_n (pc := 29) C d_Cw_choose_29 rfl rfl ?_
  refine sw_bipush (pc := 30) C (nI 8) d_Cw_choose_30 (by decide) ?_
  refine sw_aload_n (pc := 32) C d_Cw_choose_32 rfl rfl ?_
  refine sw_get (pc := 33) C inCw 0 rfl rfl 2 (by decide) t_69 rfl rfl d_Cw_choose_33 ?_
  refine sw_topi (z := nI sc) rfl ?_
  refine sw_bipush (pc := 36) C (nI 8) d_Cw_choose_36 (by decide) ?_
  refine sw_irem (pc := 38) C d_Cw_choose_38 (by decide) ?_
  refine sw_topi (z := nI (sc % 8)) (pk_rem (by omega) (by omega) (by omega)) ?_
  refine sw_isub (pc := 39) C d_Cw_choose_39 ?_
  refine sw_topi (z := nI (8 - (sc % 8))) (pk_sub (by omega)) ?_
  refine sw_ishl (pc := 40) C d_Cw_choose_40 ?_
  refine sw_topi (z := nI (s * 2 ^ (8 - sc % 8))) (shl_nI (by omega) (by omega)) ?_
  refine sw_istore (pc := 41) C d_Cw_choose_41 (by decide) rfl ?_
  refine sw_iload_n (pc := 43) C d_Cw_choose_43 rfl rfl ?_
  refine sw_istore (pc := 44) C d_Cw_choose_44 (by decide) rfl ?_
  have key : ∀ (j cy : Nat), j ≤ sc / 8 + 3 → cy = FF (v + s) sc (8 * j) - FF v sc (8 * j) → cy ≤ 65536 * 2 ^ 8 → SW X g 6 0 0 [(a, .inr (1, [.ref r, .int (nI l0.length), .int (nI sc), .ref z, .ref o, .int (nI W)])), (z, .inl (g.2.1, 48, .inl (nF Z))), (o, .inl (g.2.1, 48, .inl (nF O))), (r, .inl (g.2.1, 1200, .inl (rowM l0 v s sc j)))] 46 [some (.ref a), some (.int (nI s)), some (.int (nI b)), some (.int (nI (l0.length + sc / 8 + 2))), some (.int (nI cy)), some (.int (nI (l0.length + j - 1)))] [] := by
    intro j
    induction j with
    | zero =>
      intro cy hj hcy hcb
      refine sw_iload (pc := 46) C d_Cw_choose_46 rfl ?_
      refine sw_aload_n (pc := 48) C d_Cw_choose_48 rfl rfl ?_
      refine sw_get (pc := 49) C inCw 0 rfl rfl 1 (by decide) t_68 rfl rfl d_Cw_choose_49 ?_
      refine sw_topi (z := nI l0.length) rfl ?_
      refine sw_icmp_ltN (pc := 52) C 98 (by omega) (by omega) d_Cw_choose_52 (by decide) (fun h3 => ?_) (fun h3 => ?_)
      · skip
        refine sw_iload_n (pc := 98) C d_Cw_choose_98 rfl rfl ?_
        exact sw_iret (pc := 99) C E rfl (Nat.le_of_ble_eq_true rfl) (Nat.le_of_ble_eq_true rfl) d_Cw_choose_99 ⟨rfl, by rw [rowM_0, if_neg (by omega)]; rfl⟩
      omega
    | succ j ih =>
      intro cy hj hcy hcb
      have m1 := FF_mono (show v ≤ v + s by omega) sc (8 * j + 8)
      have q1 := FF_256 (v + s) sc (8 * j)
      have q2 := FF_256 v sc (8 * j)
      rw [show 8 * (j + 1) = 8 * j + 8 by omega] at hcy
      have hlt := cbyte_lt v sc j
      refine sw_iload (pc := 46) C d_Cw_choose_46 rfl ?_
      refine sw_aload_n (pc := 48) C d_Cw_choose_48 rfl rfl ?_
      refine sw_get (pc := 49) C inCw 0 rfl rfl 1 (by decide) t_68 rfl rfl d_Cw_choose_49 ?_
      refine sw_topi (z := nI l0.length) rfl ?_
      refine sw_icmp_ltN (pc := 52) C 98 (by omega) (by omega) d_Cw_choose_52 (by decide) (fun h3 => ?_) (fun h3 => ?_)
      · skip
        omega
      refine sw_iload (pc := 55) C d_Cw_choose_55 rfl ?_
      refine sw_if_leN (pc := 57) C 98 (by omega) d_Cw_choose_57 (by decide) (fun h4 => ?_) (fun h4 => ?_)
      · skip
        have hst2 : rowM l0 v s sc (j + 1) = rowM l0 v s sc 0 := rowM_stop (by rw [show 8 * (j + 1) = 8 * j + 8 by omega]; omega)
        rw [hst2]
        refine sw_iload_n (pc := 98) C d_Cw_choose_98 rfl rfl ?_
        exact sw_iret (pc := 99) C E rfl (Nat.le_of_ble_eq_true rfl) (Nat.le_of_ble_eq_true rfl) d_Cw_choose_99 ⟨rfl, by rw [rowM_0, if_neg (by omega)]; rfl⟩
      have eb : cbyte v sc j = FF v sc (8 * j + 8) % 256 := rfl
      have eb2 : cbyte (v + s) sc j = FF (v + s) sc (8 * j + 8) % 256 := rfl
      refine sw_iload (pc := 60) C d_Cw_choose_60 rfl ?_
      refine sw_aload_n (pc := 62) C d_Cw_choose_62 rfl rfl ?_
      refine sw_get (pc := 63) C inCw 0 rfl rfl 0 (by decide) t_67 rfl rfl d_Cw_choose_63 ?_
      refine sw_iload (pc := 66) C d_Cw_choose_66 rfl ?_
      refine sw_ialdN (pc := 68) C 3 (l0.length + j) rfl (by congr 1) (by omega) (by decide) d_Cw_choose_68 ?_
      refine sw_topi (z := nI (cbyte v sc j)) (rowM_at l0 v s sc j) ?_
      refine sw_iadd (pc := 69) C d_Cw_choose_69 ?_
      refine sw_topi (z := nI (cy + (cbyte v sc j))) (nI_add _ _) ?_
      refine sw_istore (pc := 70) C d_Cw_choose_70 (by decide) rfl ?_
      refine sw_aload_n (pc := 72) C d_Cw_choose_72 rfl rfl ?_
      refine sw_get (pc := 73) C inCw 0 rfl rfl 0 (by decide) t_67 rfl rfl d_Cw_choose_73 ?_
      refine sw_iload (pc := 76) C d_Cw_choose_76 rfl ?_
      refine sw_iload (pc := 78) C d_Cw_choose_78 rfl ?_
      refine sw_sipush (pc := 80) C (nI 255) d_Cw_choose_80 (by decide) ?_
      refine sw_iand (pc := 83) C d_Cw_choose_83 ?_
      refine sw_topi (z := nI (cbyte (v + s) sc j)) (by rw [and255]; congr 1; omega) ?_
      refine sw_iastN (pc := 84) C 3 (l0.length + j) rfl (by congr 1) (by omega) (by decide) d_Cw_choose_84 ?_
      refine sw_ws (ws' := [(a, .inr (1, [.ref r, .int (nI l0.length), .int (nI sc), .ref z, .ref o, .int (nI W)])), (z, .inl (g.2.1, 48, .inl (nF Z))), (o, .inl (g.2.1, 48, .inl (nF O))), (r, .inl (g.2.1, 1200, .inl (rowM l0 v s sc j)))]) (by rw [← rowM_up l0 v s sc j]; rfl) ?_
      refine sw_iload (pc := 85) C d_Cw_choose_85 rfl ?_
      refine sw_bipush (pc := 87) C (nI 8) d_Cw_choose_87 (by decide) ?_
      refine sw_ishr (pc := 89) C d_Cw_choose_89 ?_
      refine sw_topi (z := nI (FF (v + s) sc (8 * j) - FF v sc (8 * j))) (by rw [shr_nI (by omega) (by decide)]; congr 1; omega) ?_
      refine sw_istore (pc := 90) C d_Cw_choose_90 (by decide) rfl ?_
      refine sw_idecN (pc := 92) C d_Cw_choose_92 rfl (by decide) (by omega) rfl ?_
      refine sw_goto (pc := 95) C 46 d_Cw_choose_95 (by decide) ?_
      rw [show l0.length + (j + 1) - 1 - 1 = l0.length + j - 1 by omega]
      exact ih (FF (v + s) sc (8 * j) - FF v sc (8 * j)) (by omega) rfl (by omega)
  have k0 := key (sc / 8 + 3) (s * 2 ^ (8 - sc % 8)) (Nat.le_refl _) (by rw [FF_add (by omega), show 8 * (sc / 8 + 3) - (16 + sc) = 8 - sc % 8 by omega]; omega) hse
  rw [rowM_start] at k0
  exact k0
set_option maxRecDepth 100000 in
set_option maxHeartbeats 4000000 in
theorem c_Cr_begin (l : Launch) (g : Gl) (a z o r r0 : Nat) (l0 : List Nat) (fr en : Nat) (wd i1 i2 i3 i4 : Int32) (f h : Nat → Int32) (hfe : fr ≤ en) (hen : en ≤ 1200) (hb : ∀ k, l0.getD k 0 < 256) : Ct l g y_Cr_begin b_Cr_begin 5 none (rmD 2) [.ref a, .ref r, .int (nI fr), .int (nI en)] ([(a, .inr (0, [.ref r0, .int i1, .int i2, .int i3, .int i4, .ref z, .ref o, .int wd])), (z, .inl (g.2.1, 48, .inl f)), (o, .inl (g.2.1, 48, .inl h)), (r, .inl (g.2.1, 1200, .inl (rowOf l0)))]) (fun u w => u = none ∧ w = wKr g a z o r l0 fr en (kInit (some (dgt l0 fr en)))) := by
  refine ct_of [some (.ref a), some (.ref r), some (.int (nI fr)), some (.int (nI en)), none] (by decide) (Nat.le_of_ble_eq_true rfl) rfl ?_
  intro X C E
  refine sw_aload_n (pc := 0) C d_Cr_begin_0 rfl rfl ?_
  refine sw_callUP (pc := 1) C (c_restart_r l g a z o (.ref r0) (.int i1) (.int i2) (.int i3) (.int i4) wd f h) su_Cr_Cr_restart t_494 rfl rfl rfl rfl [0, 1, 2] rfl rfl rfl rfl (Nat.le_of_ble_eq_true rfl) (Nat.le_of_ble_eq_true rfl) (Nat.le_of_ble_eq_true rfl) (Nat.le_of_ble_eq_true rfl) (Nat.le_of_ble_eq_true rfl) d_Cr_begin_1 (fun v w1 hp => ?_)
  obtain ⟨rfl, rfl⟩ := hp
  refine ⟨rfl, ?_⟩
  refine sw_aload_n (pc := 4) C d_Cr_begin_4 rfl rfl ?_
  refine sw_aload_n (pc := 5) C d_Cr_begin_5 rfl rfl ?_
  refine sw_put (pc := 6) C inCr 0 rfl rfl 0 (by decide) tyCr okCr nmCr t_102 rfl rfl (ty := (.array .int)) (by decide +kernel) rfl rfl (Nat.le_of_ble_eq_true rfl) d_Cr_begin_6 ?_
  refine sw_aload_n (pc := 9) C d_Cr_begin_9 rfl rfl ?_
  refine sw_iload_n (pc := 10) C d_Cr_begin_10 rfl rfl ?_
  refine sw_put (pc := 11) C inCr 0 rfl rfl 1 (by decide) tyCr okCr nmCr t_103 rfl rfl (ty := .int) (by decide +kernel) rfl rfl (Nat.le_of_ble_eq_true rfl) d_Cr_begin_11 ?_
  refine sw_aload_n (pc := 14) C d_Cr_begin_14 rfl rfl ?_
  refine sw_iload_n (pc := 15) C d_Cr_begin_15 rfl rfl ?_
  refine sw_aload_n (pc := 16) C d_Cr_begin_16 rfl rfl ?_
  refine sw_alenI (pc := 17) C 3 rfl d_Cr_begin_17 ?_
  refine sw_mmin (pc := 18) C t_497 t_406 t_13 t_407 (Nat.le_of_ble_eq_true rfl) (Nat.le_of_ble_eq_true rfl) (Nat.le_of_ble_eq_true rfl) (Nat.le_of_ble_eq_true rfl) d_Cr_begin_18 ?_
  refine sw_topi (z := nI en) (min1200r hen) ?_
  refine sw_put (pc := 21) C inCr 0 rfl rfl 2 (by decide) tyCr okCr nmCr t_104 rfl rfl (ty := .int) (by decide +kernel) rfl rfl (Nat.le_of_ble_eq_true rfl) d_Cr_begin_21 ?_
  refine sw_aload_n (pc := 24) C d_Cr_begin_24 rfl rfl ?_
  refine sw_iconst (pc := 25) C (nI 0) d_Cr_begin_25 (by decide) ?_
  refine sw_put (pc := 26) C inCr 0 rfl rfl 3 (by decide) tyCr okCr nmCr t_105 rfl rfl (ty := .int) (by decide +kernel) rfl rfl (Nat.le_of_ble_eq_true rfl) d_Cr_begin_26 ?_
  refine sw_aload_n (pc := 29) C d_Cr_begin_29 rfl rfl ?_
  refine sw_iconst (pc := 30) C (nI 0) d_Cr_begin_30 (by decide) ?_
  refine sw_put (pc := 31) C inCr 0 rfl rfl 4 (by decide) tyCr okCr nmCr t_106 rfl rfl (ty := .int) (by decide +kernel) rfl rfl (Nat.le_of_ble_eq_true rfl) d_Cr_begin_31 ?_
  refine sw_iconst (pc := 34) C (nI 0) d_Cr_begin_34 (by decide) ?_
  refine sw_istore (pc := 35) C d_Cr_begin_35 (by decide) rfl ?_
  have key : ∀ (n i v : Nat), i + n = 16 → v < 2 ^ i → shin (dgt l0 fr en) i n v = shin (dgt l0 fr en) 0 16 0 → SW X g 5 0 0 (wKq g a z o r l0 fr en i (fun _ => 1) (fun _ => 1) 65536 v) 37 [some (.ref a), some (.ref r), some (.int (nI fr)), some (.int (nI en)), some (.int (nI i))] [] := by
    intro n
    induction n with
    | zero =>
      intro i v hi hv hs
      refine sw_iload (pc := 37) C d_Cr_begin_37 rfl ?_
      refine sw_bipush (pc := 39) C (nI 16) d_Cr_begin_39 (by decide) ?_
      refine sw_icmp_geN (pc := 41) C 54 (by omega) (by omega) d_Cr_begin_41 (by decide) (fun h3 => ?_) (fun h3 => ?_)
      · skip
        have e16 : i = 16 := by omega
        subst e16
        have e : v = shin (dgt l0 fr en) 0 16 0 := hs
        exact sw_vret (pc := 54) C E rfl (Nat.le_of_ble_eq_true rfl) (Nat.le_of_ble_eq_true rfl) d_Cr_begin_54 ⟨rfl, by rw [e]; rfl⟩
      omega
    | succ n ih =>
      intro i v hi hv hs
      have hp : 2 ^ i ≤ 2 ^ 16 := Nat.pow_le_pow_right (by decide) (by omega)
      have hd := dgt_le l0 fr en i
      refine sw_iload (pc := 37) C d_Cr_begin_37 rfl ?_
      refine sw_bipush (pc := 39) C (nI 16) d_Cr_begin_39 (by decide) ?_
      refine sw_icmp_geN (pc := 41) C 54 (by omega) (by omega) d_Cr_begin_41 (by decide) (fun h3 => ?_) (fun h3 => ?_)
      · skip
        omega
      refine sw_aload_n (pc := 44) C d_Cr_begin_44 rfl rfl ?_
      refine sw_callVP (pc := 45) C (c_Cr_shift l g a z o r l0 fr en (fun _ => 1) (fun _ => 1) 65536 v i (by omega) hen hfe hb) sv_Cr_shift t_498 rfl rfl rfl [0, 1, 2, 3] rfl rfl rfl rfl (Nat.le_of_ble_eq_true rfl) (Nat.le_of_ble_eq_true rfl) (Nat.le_of_ble_eq_true rfl) (Nat.le_of_ble_eq_true rfl) (Nat.le_of_ble_eq_true rfl) d_Cr_begin_45 (fun v w1 hp => ?_)
      obtain ⟨rfl, rfl⟩ := hp
      refine ⟨rfl, ?_⟩
      refine sw_ws (ws' := wKq g a z o r l0 fr en (i + 1) (fun _ => 1) (fun _ => 1) 65536 (2 * v + dgt l0 fr en i)) rfl ?_
      refine sw_iincN (pc := 48) C 1 d_Cr_begin_48 rfl (by decide) (by decide) rfl ?_
      refine sw_goto (pc := 51) C 37 d_Cr_begin_51 (by decide) ?_
      exact ih (i + 1) (2 * v + dgt l0 fr en i) (by omega) (by rw [Nat.pow_succ]; omega) hs
  refine sw_ws (ws' := wKq g a z o r l0 fr en 0 (fun _ => 1) (fun _ => 1) 65536 0) (by unfold wKq; rw [show rdP fr en 0 = 0 from by unfold rdP; split <;> omega]; rfl) ?_
  exact key 16 0 0 (by omega) (by decide) rfl
set_option maxRecDepth 100000 in
set_option maxHeartbeats 4000000 in
theorem c_code_w (l : Launch) (g : Gl) (a z o r : Nat) (l0 : List Nat) (Z O : Nat → Nat) (W sc v : Nat) (c b : Nat) (hK : csOK (Z, O, W, sc)) (hc : c < 48) (hb : b ≤ 1) (h1 : 1 ≤ l0.length) (hst : l0.length + sc / 8 + 2 < 1200) : Ct l g y_Cd_code b_Cd_code 6 (some .int) (rmD 1) [.ref a, .int (nI c), .int (nI b)] (wKw g a z o r l0 ((Z, O, W, sc), v)) (fun u w => u = some (.int (nI (kBit none ((Z, O, W, sc), v) c b))) ∧ w = wKw g a z o r l0 (kStep none ((Z, O, W, sc), v) c b)) := by
  refine ct_of [some (.ref a), some (.int (nI c)), some (.int (nI b)), none, none, none] (by decide) (Nat.le_of_ble_eq_true rfl) rfl ?_
  intro X C E
  obtain ⟨hz1, ho1, hzo⟩ := hK.1 c hc
  dsimp only at hz1 ho1 hzo
  have hW1 : 32768 < W := hK.2.1
  have hW2 : W ≤ 65536 := hK.2.2
  have hWZ : W * Z c ≤ 65536 * 31 := Nat.mul_le_mul hW2 (by omega)
  have hsp := csSplit_bd hK hc
  dsimp only at hsp
  refine sw_aload_n (pc := 0) C d_Cd_code_0 rfl rfl ?_
  refine sw_get (pc := 1) C inCw 0 rfl rfl 5 (by decide) t_72 rfl rfl d_Cd_code_1 ?_
  refine sw_topi (z := nI W) rfl ?_
  refine sw_aload_n (pc := 4) C d_Cd_code_4 rfl rfl ?_
  refine sw_get (pc := 5) C inCw 0 rfl rfl 3 (by decide) t_70 rfl rfl d_Cd_code_5 ?_
  refine sw_iload_n (pc := 8) C d_Cd_code_8 rfl rfl ?_
  refine sw_ialdN (pc := 9) C 1 c rfl rfl (by omega) (by decide) d_Cd_code_9 ?_
  refine sw_topi (z := nI (Z c)) rfl ?_
  refine sw_imul (pc := 10) C d_Cd_code_10 ?_
  refine sw_topi (z := nI (W * (Z c))) (pk_mul _ _) ?_
  refine sw_aload_n (pc := 11) C d_Cd_code_11 rfl rfl ?_
  refine sw_get (pc := 12) C inCw 0 rfl rfl 3 (by decide) t_70 rfl rfl d_Cd_code_12 ?_
  refine sw_iload_n (pc := 15) C d_Cd_code_15 rfl rfl ?_
  refine sw_ialdN (pc := 16) C 1 c rfl rfl (by omega) (by decide) d_Cd_code_16 ?_
  refine sw_topi (z := nI (Z c)) rfl ?_
  refine sw_aload_n (pc := 17) C d_Cd_code_17 rfl rfl ?_
  refine sw_get (pc := 18) C inCw 0 rfl rfl 4 (by decide) t_71 rfl rfl d_Cd_code_18 ?_
  refine sw_iload_n (pc := 21) C d_Cd_code_21 rfl rfl ?_
  refine sw_ialdN (pc := 22) C 2 c rfl rfl (by omega) (by decide) d_Cd_code_22 ?_
  refine sw_topi (z := nI (O c)) rfl ?_
  refine sw_iadd (pc := 23) C d_Cd_code_23 ?_
  refine sw_topi (z := nI ((Z c) + (O c))) (nI_add _ _) ?_
  refine sw_idiv (pc := 24) C d_Cd_code_24 (nI_ne0 (by omega) (by omega)) ?_
  refine sw_topi (z := nI ((W * (Z c)) / ((Z c) + (O c)))) (pk_div (by omega) (by omega) (by omega)) ?_
  refine sw_topi (z := nI (csSplit (Z, O, W, sc) c)) rfl ?_
  refine sw_istore_n (pc := 25) C d_Cd_code_25 rfl (by decide) rfl ?_
  refine sw_aload_n (pc := 26) C d_Cd_code_26 rfl rfl ?_
  refine sw_iload_n (pc := 27) C d_Cd_code_27 rfl rfl ?_
  refine sw_iload_n (pc := 28) C d_Cd_code_28 rfl rfl ?_
  refine sw_callAP (pc := 29) C (c_Cw_choose l g a z o r l0 Z O W sc v (csSplit (Z, O, W, sc) c) b h1 hst (by omega) hb) su_Cw_Cd_choose t_374 q_375 rfl rfl rfl [0, 1, 2, 3] rfl rfl rfl rfl (Nat.le_of_ble_eq_true rfl) (Nat.le_of_ble_eq_true rfl) (Nat.le_of_ble_eq_true rfl) (Nat.le_of_ble_eq_true rfl) (Nat.le_of_ble_eq_true rfl) d_Cd_code_29 (fun v w1 hp => ?_)
  obtain ⟨rfl, rfl⟩ := hp
  refine ⟨rfl, ?_⟩
  refine sw_ws (ws' := wKw g a z o r l0 ((Z, O, W, sc), (v + (if b = 0 then 0 else (csSplit (Z, O, W, sc) c))))) rfl ?_
  have loop : ∀ (Z2 O2 : Nat → Nat) (f i : Nat) (Wi sci vi : Nat), i + f = 16 → Wi ≤ 65536 → wKw g a z o r l0 ((Z2, O2, Wi * 2 ^ nsh f Wi, sci + nsh f Wi), vi * 2 ^ nsh f Wi) = wKw g a z o r l0 (kStep none ((Z, O, W, sc), v) c b) → SW X g 6 0 0 (wKw g a z o r l0 ((Z2, O2, Wi, sci), vi)) 63 [some (.ref a), some (.int (nI c)), some (.int (nI b)), some (.int (nI (csSplit (Z, O, W, sc) c))), some (.int (nI b)), some (.int (nI i))] [] := by
    intro Z2 O2 f
    induction f with
    | zero =>
      intro i Wi sci vi hi hWi he
      refine sw_iload (pc := 63) C d_Cd_code_63 rfl ?_
      refine sw_bipush (pc := 65) C (nI 16) d_Cd_code_65 (by decide) ?_
      refine sw_icmp_geN (pc := 67) C 99 (by omega) (by omega) d_Cd_code_67 (by decide) (fun h3 => ?_) (fun h3 => ?_)
      · skip
        refine sw_iload (pc := 99) C d_Cd_code_99 rfl ?_
        exact sw_iret (pc := 101) C E rfl (Nat.le_of_ble_eq_true rfl) (Nat.le_of_ble_eq_true rfl) d_Cd_code_101 ⟨rfl, by rw [← he]; simp [nsh, shin]⟩
      omega
    | succ f ih =>
      intro i Wi sci vi hi hWi he
      refine sw_iload (pc := 63) C d_Cd_code_63 rfl ?_
      refine sw_bipush (pc := 65) C (nI 16) d_Cd_code_65 (by decide) ?_
      refine sw_icmp_geN (pc := 67) C 99 (by omega) (by omega) d_Cd_code_67 (by decide) (fun h3 => ?_) (fun h3 => ?_)
      · skip
        omega
      refine sw_aload_n (pc := 70) C d_Cd_code_70 rfl rfl ?_
      refine sw_get (pc := 71) C inCw 0 rfl rfl 5 (by decide) t_72 rfl rfl d_Cd_code_71 ?_
      refine sw_topi (z := nI Wi) rfl ?_
      refine sw_ldc (pc := 74) C t_387 d_Cd_code_74 ?_
      refine sw_topi (z := nI 32768) rfl ?_
      refine sw_icmp_gtN (pc := 76) C 99 (by omega) (by omega) d_Cd_code_76 (by decide) (fun h4 => ?_) (fun h4 => ?_)
      · skip
        refine sw_iload (pc := 99) C d_Cd_code_99 rfl ?_
        exact sw_iret (pc := 101) C E rfl (Nat.le_of_ble_eq_true rfl) (Nat.le_of_ble_eq_true rfl) d_Cd_code_101 ⟨rfl, by rw [← he]; rw [show nsh (f + 1) Wi = 0 from by unfold nsh; rw [if_neg (by omega)]]; simp [shin]⟩
      refine sw_aload_n (pc := 79) C d_Cd_code_79 rfl rfl ?_
      refine sw_dup (pc := 80) C d_Cd_code_80 rfl ?_
      refine sw_get (pc := 81) C inCw 0 rfl rfl 5 (by decide) t_72 rfl rfl d_Cd_code_81 ?_
      refine sw_topi (z := nI Wi) rfl ?_
      refine sw_iconst (pc := 84) C (nI 2) d_Cd_code_84 (by decide) ?_
      refine sw_imul (pc := 85) C d_Cd_code_85 ?_
      refine sw_topi (z := nI (Wi * 2)) (pk_mul _ _) ?_
      refine sw_put (pc := 86) C inCw 0 rfl rfl 5 (by decide) tyCw okCw nmCw t_72 rfl rfl (ty := .int) (by decide +kernel) rfl rfl (Nat.le_of_ble_eq_true rfl) d_Cd_code_86 ?_
      refine sw_aload_n (pc := 89) C d_Cd_code_89 rfl rfl ?_
      refine sw_callAP (pc := 90) C (c_Cw_shift l g a z o r l0 Z2 O2 (Wi * 2) sci vi) su_Cw_Cd_shift t_388 q_389 rfl rfl rfl [0, 1, 2, 3] rfl rfl rfl rfl (Nat.le_of_ble_eq_true rfl) (Nat.le_of_ble_eq_true rfl) (Nat.le_of_ble_eq_true rfl) (Nat.le_of_ble_eq_true rfl) (Nat.le_of_ble_eq_true rfl) d_Cd_code_90 (fun v w1 hp => ?_)
      obtain ⟨rfl, rfl⟩ := hp
      refine ⟨rfl, ?_⟩
      refine sw_ws (ws' := wKw g a z o r l0 ((Z2, O2, Wi * 2, sci + 1), vi * 2)) rfl ?_
      refine sw_iincN (pc := 93) C 1 d_Cd_code_93 rfl (by decide) (by decide) rfl ?_
      refine sw_goto (pc := 96) C 63 d_Cd_code_96 (by decide) ?_
      refine ih (i + 1) (Wi * 2) (sci + 1) (vi * 2) (by omega) (by omega) ?_
      rw [← he]
      have en : nsh (f + 1) Wi = nsh f (Wi * 2) + 1 := by
        show (if Wi ≤ 32768 then nsh f (2 * Wi) + 1 else 0) = _
        rw [if_pos (by omega), Nat.mul_comm]
      rw [en, Nat.pow_succ, show Wi * 2 * 2 ^ nsh f (Wi * 2) = Wi * (2 ^ nsh f (Wi * 2) * 2) by rw [Nat.mul_assoc, Nat.mul_comm 2], show vi * 2 * 2 ^ nsh f (Wi * 2) = vi * (2 ^ nsh f (Wi * 2) * 2) by rw [Nat.mul_assoc, Nat.mul_comm 2], show sci + 1 + nsh f (Wi * 2) = sci + (nsh f (Wi * 2) + 1) by omega]
  have tail : SW X g 6 0 0 (wKw g a z o r l0 ((Z, O, csW (Z, O, W, sc) c b, sc), (v + (if b = 0 then 0 else (csSplit (Z, O, W, sc) c))))) 53 [some (.ref a), some (.int (nI c)), some (.int (nI b)), some (.int (nI (csSplit (Z, O, W, sc) c))), some (.int (nI b)), none] [] := by
    refine sw_aload_n (pc := 53) C d_Cd_code_53 rfl rfl ?_
    refine sw_iload_n (pc := 54) C d_Cd_code_54 rfl rfl ?_
    refine sw_iload (pc := 55) C d_Cd_code_55 rfl ?_
    refine sw_callUP (pc := 57) C (c_tally_w l g a z o (.ref r) (.int (nI l0.length)) (.int (nI sc)) (.int (nI (csW (Z, O, W, sc) c b))) Z O c b hc (by omega) (by omega) hb) su_Cw_Cd_tally t_383 rfl rfl rfl rfl [0, 1, 2] rfl rfl rfl rfl (Nat.le_of_ble_eq_true rfl) (Nat.le_of_ble_eq_true rfl) (Nat.le_of_ble_eq_true rfl) (Nat.le_of_ble_eq_true rfl) (Nat.le_of_ble_eq_true rfl) d_Cd_code_57 (fun v w1 hp => ?_)
    obtain ⟨rfl, rfl⟩ := hp
    refine ⟨rfl, ?_⟩
    refine sw_ws (ws' := wKw g a z o r l0 (((upN Z c (csC (Z, O, W, sc) c b).1), (upN O c (csC (Z, O, W, sc) c b).2), csW (Z, O, W, sc) c b, sc), (v + (if b = 0 then 0 else (csSplit (Z, O, W, sc) c))))) rfl ?_
    refine sw_iconst (pc := 60) C (nI 0) d_Cd_code_60 (by decide) ?_
    refine sw_istore (pc := 61) C d_Cd_code_61 (by decide) rfl ?_
    exact loop (upN Z c (csC (Z, O, W, sc) c b).1) (upN O c (csC (Z, O, W, sc) c b).2) 16 0 (csW (Z, O, W, sc) c b) sc (v + (if b = 0 then 0 else (csSplit (Z, O, W, sc) c))) (by omega) (csW_bd hK hc).2 rfl
  refine sw_istore (pc := 32) C d_Cd_code_32 (by decide) rfl ?_
  refine sw_aload_n (pc := 34) C d_Cd_code_34 rfl rfl ?_
  refine sw_iload (pc := 35) C d_Cd_code_35 rfl ?_
  refine sw_if_neN (pc := 37) C 44 (by omega) d_Cd_code_37 (by decide) (fun h5 => ?_) (fun h5 => ?_)
  · skip
    refine sw_aload_n (pc := 44) C d_Cd_code_44 rfl rfl ?_
    refine sw_get (pc := 45) C inCw 0 rfl rfl 5 (by decide) t_72 rfl rfl d_Cd_code_45 ?_
    refine sw_topi (z := nI W) rfl ?_
    refine sw_iload_n (pc := 48) C d_Cd_code_48 rfl rfl ?_
    refine sw_isub (pc := 49) C d_Cd_code_49 ?_
    refine sw_topi (z := nI (W - (csSplit (Z, O, W, sc) c))) (pk_sub (by omega)) ?_
    refine sw_topi (z := nI (csW (Z, O, W, sc) c b)) (by unfold csW; rw [if_neg (by omega)]) ?_
    refine sw_put (pc := 50) C inCw 0 rfl rfl 5 (by decide) tyCw okCw nmCw t_72 rfl rfl (ty := .int) (by decide +kernel) rfl rfl (Nat.le_of_ble_eq_true rfl) d_Cd_code_50 ?_
    exact tail
  refine sw_iload_n (pc := 40) C d_Cd_code_40 rfl rfl ?_
  refine sw_goto (pc := 41) C 50 d_Cd_code_41 (by decide) ?_
  refine sw_topi (z := nI (csW (Z, O, W, sc) c b)) (by unfold csW; rw [if_pos h5]) ?_
  refine sw_put (pc := 50) C inCw 0 rfl rfl 5 (by decide) tyCw okCw nmCw t_72 rfl rfl (ty := .int) (by decide +kernel) rfl rfl (Nat.le_of_ble_eq_true rfl) d_Cd_code_50 ?_
  exact tail
set_option maxRecDepth 100000 in
set_option maxHeartbeats 4000000 in
theorem c_code_r (l : Launch) (g : Gl) (a z o r : Nat) (l0 : List Nat) (fr en : Nat) (Z O : Nat → Nat) (W sc v : Nat) (c b : Nat) (hK : csOK (Z, O, W, sc)) (hc : c < 48) (hvW : v < W) (hfe : fr ≤ en) (hen : en ≤ 1200) (hl : ∀ k, l0.getD k 0 < 256) : Ct l g y_Cd_code b_Cd_code 6 (some .int) (rmD 1) [.ref a, .int (nI c), .int (nI b)] (wKr g a z o r l0 fr en ((Z, O, W, sc), v)) (fun u w => u = some (.int (nI (kBit (some (dgt l0 fr en)) ((Z, O, W, sc), v) c b))) ∧ w = wKr g a z o r l0 fr en (kStep (some (dgt l0 fr en)) ((Z, O, W, sc), v) c b)) := by
  refine ct_of [some (.ref a), some (.int (nI c)), some (.int (nI b)), none, none, none] (by decide) (Nat.le_of_ble_eq_true rfl) rfl ?_
  intro X C E
  obtain ⟨hz1, ho1, hzo⟩ := hK.1 c hc
  dsimp only at hz1 ho1 hzo
  have hW1 : 32768 < W := hK.2.1
  have hW2 : W ≤ 65536 := hK.2.2
  have hWZ : W * Z c ≤ 65536 * 31 := Nat.mul_le_mul hW2 (by omega)
  have hsp := csSplit_bd hK hc
  dsimp only at hsp
  refine sw_aload_n (pc := 0) C d_Cd_code_0 rfl rfl ?_
  refine sw_get (pc := 1) C inCr 0 rfl rfl 7 (by decide) t_72 rfl rfl d_Cd_code_1 ?_
  refine sw_topi (z := nI W) rfl ?_
  refine sw_aload_n (pc := 4) C d_Cd_code_4 rfl rfl ?_
  refine sw_get (pc := 5) C inCr 0 rfl rfl 5 (by decide) t_70 rfl rfl d_Cd_code_5 ?_
  refine sw_iload_n (pc := 8) C d_Cd_code_8 rfl rfl ?_
  refine sw_ialdN (pc := 9) C 1 c rfl rfl (by omega) (by decide) d_Cd_code_9 ?_
  refine sw_topi (z := nI (Z c)) rfl ?_
  refine sw_imul (pc := 10) C d_Cd_code_10 ?_
  refine sw_topi (z := nI (W * (Z c))) (pk_mul _ _) ?_
  refine sw_aload_n (pc := 11) C d_Cd_code_11 rfl rfl ?_
  refine sw_get (pc := 12) C inCr 0 rfl rfl 5 (by decide) t_70 rfl rfl d_Cd_code_12 ?_
  refine sw_iload_n (pc := 15) C d_Cd_code_15 rfl rfl ?_
  refine sw_ialdN (pc := 16) C 1 c rfl rfl (by omega) (by decide) d_Cd_code_16 ?_
  refine sw_topi (z := nI (Z c)) rfl ?_
  refine sw_aload_n (pc := 17) C d_Cd_code_17 rfl rfl ?_
  refine sw_get (pc := 18) C inCr 0 rfl rfl 6 (by decide) t_71 rfl rfl d_Cd_code_18 ?_
  refine sw_iload_n (pc := 21) C d_Cd_code_21 rfl rfl ?_
  refine sw_ialdN (pc := 22) C 2 c rfl rfl (by omega) (by decide) d_Cd_code_22 ?_
  refine sw_topi (z := nI (O c)) rfl ?_
  refine sw_iadd (pc := 23) C d_Cd_code_23 ?_
  refine sw_topi (z := nI ((Z c) + (O c))) (nI_add _ _) ?_
  refine sw_idiv (pc := 24) C d_Cd_code_24 (nI_ne0 (by omega) (by omega)) ?_
  refine sw_topi (z := nI ((W * (Z c)) / ((Z c) + (O c)))) (pk_div (by omega) (by omega) (by omega)) ?_
  refine sw_topi (z := nI (csSplit (Z, O, W, sc) c)) rfl ?_
  refine sw_istore_n (pc := 25) C d_Cd_code_25 rfl (by decide) rfl ?_
  refine sw_aload_n (pc := 26) C d_Cd_code_26 rfl rfl ?_
  refine sw_iload_n (pc := 27) C d_Cd_code_27 rfl rfl ?_
  refine sw_iload_n (pc := 28) C d_Cd_code_28 rfl rfl ?_
  have hB : (rBit ((Z, O, W, sc), v) c) = (if v < (csSplit (Z, O, W, sc) c) then 0 else 1) := rfl
  refine sw_callAP (pc := 29) C (c_Cr_choose l g a z o r l0 fr en Z O W sc v (csSplit (Z, O, W, sc) c) b (by omega) (by omega)) su_Cr_Cd_choose t_374 q_375 rfl rfl rfl [0, 1, 2, 3] rfl rfl rfl rfl (Nat.le_of_ble_eq_true rfl) (Nat.le_of_ble_eq_true rfl) (Nat.le_of_ble_eq_true rfl) (Nat.le_of_ble_eq_true rfl) (Nat.le_of_ble_eq_true rfl) d_Cd_code_29 (fun v w1 hp => ?_)
  obtain ⟨rfl, rfl⟩ := hp
  refine ⟨rfl, ?_⟩
  refine sw_ws (ws' := wKr g a z o r l0 fr en ((Z, O, W, sc), (v - (if (rBit ((Z, O, W, sc), v) c) = 0 then 0 else (csSplit (Z, O, W, sc) c))))) (by rw [hB]; by_cases e : v < (csSplit (Z, O, W, sc) c) <;> simp [e] <;> rfl) ?_
  refine sw_topi (z := nI (rBit ((Z, O, W, sc), v) c)) rfl ?_
  have hb : (rBit ((Z, O, W, sc), v) c) ≤ 1 := by rcases rBit_01 ((Z, O, W, sc), v) c with e | e <;> omega
  have hlt : (v - (if (rBit ((Z, O, W, sc), v) c) = 0 then 0 else (csSplit (Z, O, W, sc) c))) < csW (Z, O, W, sc) c (rBit ((Z, O, W, sc), v) c) := by
    rw [hB]
    unfold csW
    by_cases e : v < (csSplit (Z, O, W, sc) c)
    · simp only [if_pos e, if_true]; omega
    · simp only [if_neg e]; simp; omega
  have loop : ∀ (Z2 O2 : Nat → Nat) (f i : Nat) (Wi sci vi : Nat), i + f = 16 → Wi ≤ 65536 → vi < Wi → wKr g a z o r l0 fr en ((Z2, O2, Wi * 2 ^ nsh f Wi, sci + nsh f Wi), shin (dgt l0 fr en) (16 + sci) (nsh f Wi) vi) = wKr g a z o r l0 fr en (kStep (some (dgt l0 fr en)) ((Z, O, W, sc), v) c b) → SW X g 6 0 0 (wKr g a z o r l0 fr en ((Z2, O2, Wi, sci), vi)) 63 [some (.ref a), some (.int (nI c)), some (.int (nI b)), some (.int (nI (csSplit (Z, O, W, sc) c))), some (.int (nI (rBit ((Z, O, W, sc), v) c))), some (.int (nI i))] [] := by
    intro Z2 O2 f
    induction f with
    | zero =>
      intro i Wi sci vi hi hWi hvi he
      refine sw_iload (pc := 63) C d_Cd_code_63 rfl ?_
      refine sw_bipush (pc := 65) C (nI 16) d_Cd_code_65 (by decide) ?_
      refine sw_icmp_geN (pc := 67) C 99 (by omega) (by omega) d_Cd_code_67 (by decide) (fun h3 => ?_) (fun h3 => ?_)
      · skip
        refine sw_iload (pc := 99) C d_Cd_code_99 rfl ?_
        exact sw_iret (pc := 101) C E rfl (Nat.le_of_ble_eq_true rfl) (Nat.le_of_ble_eq_true rfl) d_Cd_code_101 ⟨rfl, by rw [← he]; simp [nsh, shin]⟩
      omega
    | succ f ih =>
      intro i Wi sci vi hi hWi hvi he
      refine sw_iload (pc := 63) C d_Cd_code_63 rfl ?_
      refine sw_bipush (pc := 65) C (nI 16) d_Cd_code_65 (by decide) ?_
      refine sw_icmp_geN (pc := 67) C 99 (by omega) (by omega) d_Cd_code_67 (by decide) (fun h3 => ?_) (fun h3 => ?_)
      · skip
        omega
      refine sw_aload_n (pc := 70) C d_Cd_code_70 rfl rfl ?_
      refine sw_get (pc := 71) C inCr 0 rfl rfl 7 (by decide) t_72 rfl rfl d_Cd_code_71 ?_
      refine sw_topi (z := nI Wi) rfl ?_
      refine sw_ldc (pc := 74) C t_387 d_Cd_code_74 ?_
      refine sw_topi (z := nI 32768) rfl ?_
      refine sw_icmp_gtN (pc := 76) C 99 (by omega) (by omega) d_Cd_code_76 (by decide) (fun h4 => ?_) (fun h4 => ?_)
      · skip
        refine sw_iload (pc := 99) C d_Cd_code_99 rfl ?_
        exact sw_iret (pc := 101) C E rfl (Nat.le_of_ble_eq_true rfl) (Nat.le_of_ble_eq_true rfl) d_Cd_code_101 ⟨rfl, by rw [← he]; rw [show nsh (f + 1) Wi = 0 from by unfold nsh; rw [if_neg (by omega)]]; simp [shin]⟩
      refine sw_aload_n (pc := 79) C d_Cd_code_79 rfl rfl ?_
      refine sw_dup (pc := 80) C d_Cd_code_80 rfl ?_
      refine sw_get (pc := 81) C inCr 0 rfl rfl 7 (by decide) t_72 rfl rfl d_Cd_code_81 ?_
      refine sw_topi (z := nI Wi) rfl ?_
      refine sw_iconst (pc := 84) C (nI 2) d_Cd_code_84 (by decide) ?_
      refine sw_imul (pc := 85) C d_Cd_code_85 ?_
      refine sw_topi (z := nI (Wi * 2)) (pk_mul _ _) ?_
      refine sw_put (pc := 86) C inCr 0 rfl rfl 7 (by decide) tyCr okCr nmCr t_72 rfl rfl (ty := .int) (by decide +kernel) rfl rfl (Nat.le_of_ble_eq_true rfl) d_Cd_code_86 ?_
      refine sw_aload_n (pc := 89) C d_Cd_code_89 rfl rfl ?_
      have hdg := dgt_le l0 fr en (16 + sci)
      refine sw_callAP (pc := 90) C (c_Cr_shift l g a z o r l0 fr en Z2 O2 (Wi * 2) vi (16 + sci) (by omega) hen hfe hl) su_Cr_Cd_shift t_388 q_389 rfl rfl rfl [0, 1, 2, 3] rfl rfl rfl rfl (Nat.le_of_ble_eq_true rfl) (Nat.le_of_ble_eq_true rfl) (Nat.le_of_ble_eq_true rfl) (Nat.le_of_ble_eq_true rfl) (Nat.le_of_ble_eq_true rfl) d_Cd_code_90 (fun v w1 hp => ?_)
      obtain ⟨rfl, rfl⟩ := hp
      refine ⟨rfl, ?_⟩
      refine sw_ws (ws' := wKr g a z o r l0 fr en ((Z2, O2, Wi * 2, sci + 1), 2 * vi + dgt l0 fr en (16 + sci))) rfl ?_
      refine sw_iincN (pc := 93) C 1 d_Cd_code_93 rfl (by decide) (by decide) rfl ?_
      refine sw_goto (pc := 96) C 63 d_Cd_code_96 (by decide) ?_
      refine ih (i + 1) (Wi * 2) (sci + 1) (2 * vi + dgt l0 fr en (16 + sci)) (by omega) (by omega) (by omega) ?_
      rw [← he]
      have en2 : nsh (f + 1) Wi = nsh f (Wi * 2) + 1 := by
        show (if Wi ≤ 32768 then nsh f (2 * Wi) + 1 else 0) = _
        rw [if_pos (by omega), Nat.mul_comm]
      rw [en2, Nat.pow_succ, show Wi * 2 * 2 ^ nsh f (Wi * 2) = Wi * (2 ^ nsh f (Wi * 2) * 2) by rw [Nat.mul_assoc, Nat.mul_comm 2], show sci + 1 + nsh f (Wi * 2) = sci + (nsh f (Wi * 2) + 1) by omega]
      try rfl
  have tail : SW X g 6 0 0 (wKr g a z o r l0 fr en ((Z, O, csW (Z, O, W, sc) c (rBit ((Z, O, W, sc), v) c), sc), (v - (if (rBit ((Z, O, W, sc), v) c) = 0 then 0 else (csSplit (Z, O, W, sc) c))))) 53 [some (.ref a), some (.int (nI c)), some (.int (nI b)), some (.int (nI (csSplit (Z, O, W, sc) c))), some (.int (nI (rBit ((Z, O, W, sc), v) c))), none] [] := by
    refine sw_aload_n (pc := 53) C d_Cd_code_53 rfl rfl ?_
    refine sw_iload_n (pc := 54) C d_Cd_code_54 rfl rfl ?_
    refine sw_iload (pc := 55) C d_Cd_code_55 rfl ?_
    refine sw_callUP (pc := 57) C (c_tally_r l g a z o (.ref r) (.int (nI (fr + rdP fr en (16 + sc) / 8))) (.int (nI en)) (.int (nI (rdP fr en (16 + sc) % 8))) (.int (nI (v - (if (rBit ((Z, O, W, sc), v) c) = 0 then 0 else (csSplit (Z, O, W, sc) c))))) (.int (nI (csW (Z, O, W, sc) c (rBit ((Z, O, W, sc), v) c)))) Z O c (rBit ((Z, O, W, sc), v) c) hc (by omega) (by omega) hb) su_Cr_Cd_tally t_383 rfl rfl rfl rfl [0, 1, 2] rfl rfl rfl rfl (Nat.le_of_ble_eq_true rfl) (Nat.le_of_ble_eq_true rfl) (Nat.le_of_ble_eq_true rfl) (Nat.le_of_ble_eq_true rfl) (Nat.le_of_ble_eq_true rfl) d_Cd_code_57 (fun v w1 hp => ?_)
    obtain ⟨rfl, rfl⟩ := hp
    refine ⟨rfl, ?_⟩
    refine sw_ws (ws' := wKr g a z o r l0 fr en (((upN Z c (csC (Z, O, W, sc) c (rBit ((Z, O, W, sc), v) c)).1), (upN O c (csC (Z, O, W, sc) c (rBit ((Z, O, W, sc), v) c)).2), csW (Z, O, W, sc) c (rBit ((Z, O, W, sc), v) c), sc), (v - (if (rBit ((Z, O, W, sc), v) c) = 0 then 0 else (csSplit (Z, O, W, sc) c))))) rfl ?_
    refine sw_iconst (pc := 60) C (nI 0) d_Cd_code_60 (by decide) ?_
    refine sw_istore (pc := 61) C d_Cd_code_61 (by decide) rfl ?_
    exact loop (upN Z c (csC (Z, O, W, sc) c (rBit ((Z, O, W, sc), v) c)).1) (upN O c (csC (Z, O, W, sc) c (rBit ((Z, O, W, sc), v) c)).2) 16 0 (csW (Z, O, W, sc) c (rBit ((Z, O, W, sc), v) c)) sc (v - (if (rBit ((Z, O, W, sc), v) c) = 0 then 0 else (csSplit (Z, O, W, sc) c))) (by omega) (csW_bd hK hc).2 hlt rfl
  refine sw_istore (pc := 32) C d_Cd_code_32 (by decide) rfl ?_
  refine sw_aload_n (pc := 34) C d_Cd_code_34 rfl rfl ?_
  refine sw_iload (pc := 35) C d_Cd_code_35 rfl ?_
  refine sw_if_neN (pc := 37) C 44 (by omega) d_Cd_code_37 (by decide) (fun h5 => ?_) (fun h5 => ?_)
  · skip
    refine sw_aload_n (pc := 44) C d_Cd_code_44 rfl rfl ?_
    refine sw_get (pc := 45) C inCr 0 rfl rfl 7 (by decide) t_72 rfl rfl d_Cd_code_45 ?_
    refine sw_topi (z := nI W) rfl ?_
    refine sw_iload_n (pc := 48) C d_Cd_code_48 rfl rfl ?_
    refine sw_isub (pc := 49) C d_Cd_code_49 ?_
    refine sw_topi (z := nI (W - (csSplit (Z, O, W, sc) c))) (pk_sub (by omega)) ?_
    refine sw_topi (z := nI (csW (Z, O, W, sc) c (rBit ((Z, O, W, sc), v) c))) (by unfold csW; rw [if_neg (by omega)]) ?_
    refine sw_put (pc := 50) C inCr 0 rfl rfl 7 (by decide) tyCr okCr nmCr t_72 rfl rfl (ty := .int) (by decide +kernel) rfl rfl (Nat.le_of_ble_eq_true rfl) d_Cd_code_50 ?_
    exact tail
  refine sw_iload_n (pc := 40) C d_Cd_code_40 rfl rfl ?_
  refine sw_goto (pc := 41) C 50 d_Cd_code_41 (by decide) ?_
  refine sw_topi (z := nI (csW (Z, O, W, sc) c (rBit ((Z, O, W, sc), v) c))) (by unfold csW; rw [if_pos h5]) ?_
  refine sw_put (pc := 50) C inCr 0 rfl rfl 7 (by decide) tyCr okCr nmCr t_72 rfl rfl (ty := .int) (by decide +kernel) rfl rfl (Nat.le_of_ble_eq_true rfl) d_Cd_code_50 ?_
  exact tail
