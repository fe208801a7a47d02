/-! the reference: lifting -/
theorem lfD_r {x : Nat → Int32} {m i : Nat} (hm : m % 2 = 0) (hi : i < m / 2) : lfD x m i = x (2 * i + 1) - ((x (2 * i) + x (if i = m / 2 - 1 then m - 2 else 2 * i + 2)) >>> (nI 1 &&& 31)) := by
  unfold lfD
  by_cases e : i = m / 2 - 1
  · rw [if_pos e, if_neg (by omega)]
  · rw [if_neg e, if_pos (by omega)]
theorem drO_r {x : Nat → Int32} {m i : Nat} (hm : m % 2 = 0) (hi : i < m / 2) : drO x m i = x (m / 2 + i) + ((drE x m i + (if i = m / 2 - 1 then drE x m (m / 2 - 1) else drE x m (i + 1))) >>> (nI 1 &&& 31)) := by
  unfold drO
  by_cases e : i = m / 2 - 1
  · rw [if_pos e, if_neg (by omega)]
  · rw [if_neg e, if_pos (by omega)]
set_option maxRecDepth 100000 in
set_option maxHeartbeats 4000000 in
theorem c_Md_lift (l : Launch) (g : Gl) (R : Nat → Nat) (dn pl ln ss pt : Nat) (th rd : Bool) (wd sc : Nat) (x nx : Nat → Int32) (m : Nat) (hm : m = 2 ∨ m = 4 ∨ m = 8) : Ct l g y_Md_lift b_Md_lift 5 none (rmD 1) [.ref (R 0), .int (nI m)] ([mdC R dn pl ln ss pt th rd wd sc, iaC g (R 18) 8 x, iaC g (R 19) 8 nx]) (fun u w => u = none ∧ ∃ ny, (∀ i, i < m → ny i = lfR m x i) ∧ w = [mdC R dn pl ln ss pt th rd wd sc, iaC g (R 18) 8 x, iaC g (R 19) 8 ny]) := by
  refine ct_of [some (.ref (R 0)), some (.int (nI m)), none, none, none] (by decide) (Nat.le_of_ble_eq_true rfl) rfl ?_
  intro X C E
  have hm2 : m % 2 = 0 ∧ 2 ≤ m ∧ m ≤ 8 := by omega
  have second : ∀ (nn i : Nat) (f : Nat → Int32), i + nn = m / 2 → (∀ j, j < i → f j = lfS x m j) → (∀ j, j < m / 2 → f (m / 2 + j) = lfD x m j) → SW X g 5 0 0 ([mdC R dn pl ln ss pt th rd wd sc, iaC g (R 18) 8 x, iaC g (R 19) 8 f]) 82 [some (.ref (R 0)), some (.int (nI m)), some (.int (nI (m / 2))), some (.int (nI i)), none] [] := by
    intro nn
    induction nn with
    | zero =>
      intro i f hi hS hq
      refine sw_iload_n (pc := 82) C d_Md_lift_82 rfl rfl ?_
      refine sw_iload_n (pc := 83) C d_Md_lift_83 rfl rfl ?_
      refine sw_icmp_geN (pc := 84) C 139 (by omega) (by omega) d_Md_lift_84 (by decide) (fun hx => ?_) (fun hx => ?_)
      · skip
        have ei : i = m / 2 := by omega
        exact sw_vret (pc := 139) C E rfl (Nat.le_of_ble_eq_true rfl) (Nat.le_of_ble_eq_true rfl) d_Md_lift_139 ⟨rfl, f, fun j hj => by
    unfold lfR
    by_cases e : j < m / 2
    · rw [if_pos e]; exact hS j (by omega)
    · rw [if_neg e, if_pos hj]; have := hq (j - m / 2) (by omega); rwa [show m / 2 + (j - m / 2) = j by omega] at this, rfl⟩
      omega
    | succ nn ih =>
      intro i f hi hS hq
      refine sw_iload_n (pc := 82) C d_Md_lift_82 rfl rfl ?_
      refine sw_iload_n (pc := 83) C d_Md_lift_83 rfl rfl ?_
      refine sw_icmp_geN (pc := 84) C 139 (by omega) (by omega) d_Md_lift_84 (by decide) (fun hx => ?_) (fun hx => ?_)
      · skip
        omega
      refine sw_aload_n (pc := 87) C d_Md_lift_87 rfl rfl ?_
      refine sw_get (pc := 88) C inMd 0 rfl rfl 27 (by decide) t_599 rfl rfl d_Md_lift_88 ?_
      refine sw_iload_n (pc := 91) C d_Md_lift_91 rfl rfl ?_
      refine sw_aload_n (pc := 92) C d_Md_lift_92 rfl rfl ?_
      refine sw_get (pc := 93) C inMd 0 rfl rfl 26 (by decide) t_598 rfl rfl d_Md_lift_93 ?_
      refine sw_iconst (pc := 96) C (nI 2) d_Md_lift_96 (by decide) ?_
      refine sw_iload_n (pc := 97) C d_Md_lift_97 rfl rfl ?_
      refine sw_imul (pc := 98) C d_Md_lift_98 ?_
      refine sw_topi (z := nI (2 * i)) (pk_mul _ _) ?_
      refine sw_ialdN (pc := 99) C 1 (2 * i) rfl rfl (by omega) (by decide) d_Md_lift_99 ?_
      refine sw_aload_n (pc := 100) C d_Md_lift_100 rfl rfl ?_
      refine sw_get (pc := 101) C inMd 0 rfl rfl 27 (by decide) t_599 rfl rfl d_Md_lift_101 ?_
      refine sw_iload_n (pc := 104) C d_Md_lift_104 rfl rfl ?_
      refine sw_iload_n (pc := 105) C d_Md_lift_105 rfl rfl ?_
      refine sw_if_neN (pc := 106) C 113 (by omega) d_Md_lift_106 (by decide) (fun h1 => ?_) (fun h1 => ?_)
      · skip
        refine sw_iload_n (pc := 113) C d_Md_lift_113 rfl rfl ?_
        refine sw_iconst (pc := 114) C (nI 1) d_Md_lift_114 (by decide) ?_
        refine sw_isub (pc := 115) C d_Md_lift_115 ?_
        refine sw_topi (z := nI (i - 1)) (pk_sub (by omega)) ?_
        refine sw_iadd (pc := 116) C d_Md_lift_116 ?_
        refine sw_topi (z := nI ((m / 2) + (i - 1))) (nI_add _ _) ?_
        refine sw_ialdN (pc := 117) C 2 ((m / 2) + (i - 1)) rfl rfl (by omega) (by decide) d_Md_lift_117 ?_
        refine sw_topi (z := lfD x m (i - 1)) ((congrArg f (show _ = m / 2 + (i - 1) from by omega)).trans (hq (i - 1) (by omega))) ?_
        refine sw_aload_n (pc := 118) C d_Md_lift_118 rfl rfl ?_
        refine sw_get (pc := 119) C inMd 0 rfl rfl 27 (by decide) t_599 rfl rfl d_Md_lift_119 ?_
        refine sw_iload_n (pc := 122) C d_Md_lift_122 rfl rfl ?_
        refine sw_iload_n (pc := 123) C d_Md_lift_123 rfl rfl ?_
        refine sw_iadd (pc := 124) C d_Md_lift_124 ?_
        refine sw_topi (z := nI ((m / 2) + i)) (nI_add _ _) ?_
        refine sw_ialdN (pc := 125) C 2 ((m / 2) + i) rfl rfl (by omega) (by decide) d_Md_lift_125 ?_
        refine sw_topi (z := lfD x m i) (hq i (by omega)) ?_
        refine sw_iadd (pc := 126) C d_Md_lift_126 ?_
        refine sw_iconst (pc := 127) C (nI 2) d_Md_lift_127 (by decide) ?_
        refine sw_iadd (pc := 128) C d_Md_lift_128 ?_
        refine sw_iconst (pc := 129) C (nI 2) d_Md_lift_129 (by decide) ?_
        refine sw_ishr (pc := 130) C d_Md_lift_130 ?_
        refine sw_iadd (pc := 131) C d_Md_lift_131 ?_
        refine sw_iastN (pc := 132) C 2 i rfl rfl (by omega) (by decide) d_Md_lift_132 ?_
        refine sw_iincN (pc := 133) C 1 d_Md_lift_133 rfl (by decide) (by decide) rfl ?_
        refine sw_goto (pc := 136) C 82 d_Md_lift_136 (by decide) ?_
        refine ih (i + 1) (upd f i (lfS x m i)) (by omega) (fun j hj => ?_) (fun j hj => ?_)
        · unfold upd
          by_cases e : j = i
          · rw [if_pos e, e]
          · rw [if_neg e]; exact hS j (by omega)
        · unfold upd
          rw [if_neg (by omega)]
          exact hq j hj
      refine sw_iconst (pc := 109) C (nI 0) d_Md_lift_109 (by decide) ?_
      refine sw_goto (pc := 110) C 116 d_Md_lift_110 (by decide) ?_
      refine sw_iadd (pc := 116) C d_Md_lift_116 ?_
      refine sw_topi (z := nI ((m / 2) + 0)) (nI_add _ _) ?_
      refine sw_ialdN (pc := 117) C 2 ((m / 2) + 0) rfl rfl (by omega) (by decide) d_Md_lift_117 ?_
      refine sw_topi (z := lfD x m (i - 1)) ((congrArg f (show _ = m / 2 + (i - 1) from by omega)).trans (hq (i - 1) (by omega))) ?_
      refine sw_aload_n (pc := 118) C d_Md_lift_118 rfl rfl ?_
      refine sw_get (pc := 119) C inMd 0 rfl rfl 27 (by decide) t_599 rfl rfl d_Md_lift_119 ?_
      refine sw_iload_n (pc := 122) C d_Md_lift_122 rfl rfl ?_
      refine sw_iload_n (pc := 123) C d_Md_lift_123 rfl rfl ?_
      refine sw_iadd (pc := 124) C d_Md_lift_124 ?_
      refine sw_topi (z := nI ((m / 2) + i)) (nI_add _ _) ?_
      refine sw_ialdN (pc := 125) C 2 ((m / 2) + i) rfl rfl (by omega) (by decide) d_Md_lift_125 ?_
      refine sw_topi (z := lfD x m i) (hq i (by omega)) ?_
      refine sw_iadd (pc := 126) C d_Md_lift_126 ?_
      refine sw_iconst (pc := 127) C (nI 2) d_Md_lift_127 (by decide) ?_
      refine sw_iadd (pc := 128) C d_Md_lift_128 ?_
      refine sw_iconst (pc := 129) C (nI 2) d_Md_lift_129 (by decide) ?_
      refine sw_ishr (pc := 130) C d_Md_lift_130 ?_
      refine sw_iadd (pc := 131) C d_Md_lift_131 ?_
      refine sw_iastN (pc := 132) C 2 i rfl rfl (by omega) (by decide) d_Md_lift_132 ?_
      refine sw_iincN (pc := 133) C 1 d_Md_lift_133 rfl (by decide) (by decide) rfl ?_
      refine sw_goto (pc := 136) C 82 d_Md_lift_136 (by decide) ?_
      refine ih (i + 1) (upd f i (lfS x m i)) (by omega) (fun j hj => ?_) (fun j hj => ?_)
      · unfold upd
        by_cases e : j = i
        · rw [if_pos e, e]
        · rw [if_neg e]; exact hS j (by omega)
      · unfold upd
        rw [if_neg (by omega)]
        exact hq j hj
  have first : ∀ (nn i : Nat) (f : Nat → Int32), i + nn = m / 2 → (∀ j, j < i → f (m / 2 + j) = lfD x m j) → SW X g 5 0 0 ([mdC R dn pl ln ss pt th rd wd sc, iaC g (R 18) 8 x, iaC g (R 19) 8 f]) 6 [some (.ref (R 0)), some (.int (nI m)), some (.int (nI (m / 2))), some (.int (nI i)), none] [] := by
    intro nn
    induction nn with
    | zero =>
      intro i f hi hq
      refine sw_iload_n (pc := 6) C d_Md_lift_6 rfl rfl ?_
      refine sw_iload_n (pc := 7) C d_Md_lift_7 rfl rfl ?_
      refine sw_icmp_geN (pc := 8) C 80 (by omega) (by omega) d_Md_lift_8 (by decide) (fun hx => ?_) (fun hx => ?_)
      · skip
        refine sw_iconst (pc := 80) C (nI 0) d_Md_lift_80 (by decide) ?_
        refine sw_istore_n (pc := 81) C d_Md_lift_81 rfl (by decide) rfl ?_
        refine sw_drop 4 ?_
        exact second (m / 2) 0 f (by omega) (fun j hj => absurd hj (Nat.not_lt_zero _)) (fun j hj => hq j (by omega))
      omega
    | succ nn ih =>
      intro i f hi hq
      refine sw_iload_n (pc := 6) C d_Md_lift_6 rfl rfl ?_
      refine sw_iload_n (pc := 7) C d_Md_lift_7 rfl rfl ?_
      refine sw_icmp_geN (pc := 8) C 80 (by omega) (by omega) d_Md_lift_8 (by decide) (fun hx => ?_) (fun hx => ?_)
      · skip
        omega
      have c41 : SW X g 5 0 0 ([mdC R dn pl ln ss pt th rd wd sc, iaC g (R 18) 8 x, iaC g (R 19) 8 f]) 41 [some (.ref (R 0)), some (.int (nI m)), some (.int (nI (m / 2))), some (.int (nI i)), some (.int (x (if i = m / 2 - 1 then m - 2 else 2 * i + 2)))] [] := by
        refine sw_aload_n (pc := 41) C d_Md_lift_41 rfl rfl ?_
        refine sw_get (pc := 42) C inMd 0 rfl rfl 27 (by decide) t_599 rfl rfl d_Md_lift_42 ?_
        refine sw_iload_n (pc := 45) C d_Md_lift_45 rfl rfl ?_
        refine sw_iload_n (pc := 46) C d_Md_lift_46 rfl rfl ?_
        refine sw_iadd (pc := 47) C d_Md_lift_47 ?_
        refine sw_topi (z := nI ((m / 2) + i)) (nI_add _ _) ?_
        refine sw_aload_n (pc := 48) C d_Md_lift_48 rfl rfl ?_
        refine sw_get (pc := 49) C inMd 0 rfl rfl 26 (by decide) t_598 rfl rfl d_Md_lift_49 ?_
        refine sw_iconst (pc := 52) C (nI 2) d_Md_lift_52 (by decide) ?_
        refine sw_iload_n (pc := 53) C d_Md_lift_53 rfl rfl ?_
        refine sw_imul (pc := 54) C d_Md_lift_54 ?_
        refine sw_topi (z := nI (2 * i)) (pk_mul _ _) ?_
        refine sw_iconst (pc := 55) C (nI 1) d_Md_lift_55 (by decide) ?_
        refine sw_iadd (pc := 56) C d_Md_lift_56 ?_
        refine sw_topi (z := nI ((2 * i) + 1)) (nI_add _ _) ?_
        refine sw_ialdN (pc := 57) C 1 ((2 * i) + 1) rfl rfl (by omega) (by decide) d_Md_lift_57 ?_
        refine sw_aload_n (pc := 58) C d_Md_lift_58 rfl rfl ?_
        refine sw_get (pc := 59) C inMd 0 rfl rfl 26 (by decide) t_598 rfl rfl d_Md_lift_59 ?_
        refine sw_iconst (pc := 62) C (nI 2) d_Md_lift_62 (by decide) ?_
        refine sw_iload_n (pc := 63) C d_Md_lift_63 rfl rfl ?_
        refine sw_imul (pc := 64) C d_Md_lift_64 ?_
        refine sw_topi (z := nI (2 * i)) (pk_mul _ _) ?_
        refine sw_ialdN (pc := 65) C 1 (2 * i) rfl rfl (by omega) (by decide) d_Md_lift_65 ?_
        refine sw_iload (pc := 66) C d_Md_lift_66 rfl ?_
        refine sw_iadd (pc := 68) C d_Md_lift_68 ?_
        refine sw_callSR (pc := 69) C (c_Md_half l g (x (2 * i) + (x (if i = m / 2 - 1 then m - 2 else 2 * i + 2)))) ss_Md_half t_749 [] rfl rfl rfl rfl (Nat.le_of_ble_eq_true rfl) (Nat.le_of_ble_eq_true rfl) (Nat.le_of_ble_eq_true rfl) (Nat.le_of_ble_eq_true rfl) (Nat.le_of_ble_eq_true rfl) d_Md_lift_69 (fun v w1 hp => ?_)
        obtain ⟨rfl, rfl⟩ := hp
        refine ⟨rfl, ?_⟩
        refine sw_isub (pc := 72) C d_Md_lift_72 ?_
        refine sw_topi (z := lfD x m i) (lfD_r hm2.1 (by omega)).symm ?_
        refine sw_iastN (pc := 73) C 2 ((m / 2) + i) rfl rfl (by omega) (by decide) d_Md_lift_73 ?_
        refine sw_iincN (pc := 74) C 1 d_Md_lift_74 rfl (by decide) (by decide) rfl ?_
        refine sw_goto (pc := 77) C 6 d_Md_lift_77 (by decide) ?_
        refine sw_drop 4 ?_
        refine ih (i + 1) (upd f (m / 2 + i) (lfD x m i)) (by omega) (fun j hj => ?_)
        unfold upd
        by_cases e : j = i
        · rw [if_pos (by omega), e]
        · rw [if_neg (by omega)]; exact hq j (by omega)
      refine sw_iload_n (pc := 11) C d_Md_lift_11 rfl rfl ?_
      refine sw_iload_n (pc := 12) C d_Md_lift_12 rfl rfl ?_
      refine sw_iconst (pc := 13) C (nI 1) d_Md_lift_13 (by decide) ?_
      refine sw_isub (pc := 14) C d_Md_lift_14 ?_
      refine sw_topi (z := nI ((m / 2) - 1)) (pk_sub (by omega)) ?_
      refine sw_icmp_neN (pc := 15) C 29 (by omega) (by omega) d_Md_lift_15 (by decide) (fun h1 => ?_) (fun h1 => ?_)
      · skip
        refine sw_aload_n (pc := 29) C d_Md_lift_29 rfl rfl ?_
        refine sw_get (pc := 30) C inMd 0 rfl rfl 26 (by decide) t_598 rfl rfl d_Md_lift_30 ?_
        refine sw_iconst (pc := 33) C (nI 2) d_Md_lift_33 (by decide) ?_
        refine sw_iload_n (pc := 34) C d_Md_lift_34 rfl rfl ?_
        refine sw_imul (pc := 35) C d_Md_lift_35 ?_
        refine sw_topi (z := nI (2 * i)) (pk_mul _ _) ?_
        refine sw_iconst (pc := 36) C (nI 2) d_Md_lift_36 (by decide) ?_
        refine sw_iadd (pc := 37) C d_Md_lift_37 ?_
        refine sw_topi (z := nI ((2 * i) + 2)) (nI_add _ _) ?_
        refine sw_ialdN (pc := 38) C 1 ((2 * i) + 2) rfl rfl (by omega) (by decide) d_Md_lift_38 ?_
        refine sw_topi (z := (x (if i = m / 2 - 1 then m - 2 else 2 * i + 2))) (by rw [if_neg h1]) ?_
        refine sw_istore (pc := 39) C d_Md_lift_39 (by decide) rfl ?_
        exact c41
      refine sw_aload_n (pc := 18) C d_Md_lift_18 rfl rfl ?_
      refine sw_get (pc := 19) C inMd 0 rfl rfl 26 (by decide) t_598 rfl rfl d_Md_lift_19 ?_
      refine sw_iload_n (pc := 22) C d_Md_lift_22 rfl rfl ?_
      refine sw_iconst (pc := 23) C (nI 2) d_Md_lift_23 (by decide) ?_
      refine sw_isub (pc := 24) C d_Md_lift_24 ?_
      refine sw_topi (z := nI (m - 2)) (pk_sub (by omega)) ?_
      refine sw_ialdN (pc := 25) C 1 (m - 2) rfl rfl (by omega) (by decide) d_Md_lift_25 ?_
      refine sw_goto (pc := 26) C 39 d_Md_lift_26 (by decide) ?_
      refine sw_topi (z := (x (if i = m / 2 - 1 then m - 2 else 2 * i + 2))) (by rw [if_pos h1]) ?_
      refine sw_istore (pc := 39) C d_Md_lift_39 (by decide) rfl ?_
      exact c41
  refine sw_iload_n (pc := 0) C d_Md_lift_0 rfl rfl ?_
  refine sw_iconst (pc := 1) C (nI 2) d_Md_lift_1 (by decide) ?_
  refine sw_idiv (pc := 2) C d_Md_lift_2 (by decide) ?_
  refine sw_topi (z := nI (m / 2)) (pk_div (by omega) (by omega) (by omega)) ?_
  refine sw_istore_n (pc := 3) C d_Md_lift_3 rfl (by decide) rfl ?_
  refine sw_iconst (pc := 4) C (nI 0) d_Md_lift_4 (by decide) ?_
  refine sw_istore_n (pc := 5) C d_Md_lift_5 rfl (by decide) rfl ?_
  exact first (m / 2) 0 nx (by omega) (fun j hj => absurd hj (Nat.not_lt_zero _))
set_option maxRecDepth 100000 in
set_option maxHeartbeats 4000000 in
theorem c_Md_drop (l : Launch) (g : Gl) (R : Nat → Nat) (dn pl ln ss pt : Nat) (th rd : Bool) (wd sc : Nat) (x nx : Nat → Int32) (m : Nat) (hm : m = 2 ∨ m = 4 ∨ m = 8) : Ct l g y_Md_drop b_Md_drop 5 none (rmD 1) [.ref (R 0), .int (nI m)] ([mdC R dn pl ln ss pt th rd wd sc, iaC g (R 18) 8 x, iaC g (R 19) 8 nx]) (fun u w => u = none ∧ ∃ ny, (∀ i, i < m → ny i = drR m x i) ∧ w = [mdC R dn pl ln ss pt th rd wd sc, iaC g (R 18) 8 x, iaC g (R 19) 8 ny]) := by
  refine ct_of [some (.ref (R 0)), some (.int (nI m)), none, none, none] (by decide) (Nat.le_of_ble_eq_true rfl) rfl ?_
  intro X C E
  have hm2 : m % 2 = 0 ∧ 2 ≤ m ∧ m ≤ 8 := by omega
  have second : ∀ (nn i : Nat) (f : Nat → Int32), i + nn = m / 2 → (∀ j, j < m / 2 → f (2 * j) = drE x m j) → (∀ j, j < i → f (2 * j + 1) = drO x m j) → SW X g 5 0 0 ([mdC R dn pl ln ss pt th rd wd sc, iaC g (R 18) 8 x, iaC g (R 19) 8 f]) 65 [some (.ref (R 0)), some (.int (nI m)), some (.int (nI (m / 2))), some (.int (nI i)), none] [] := by
    intro nn
    induction nn with
    | zero =>
      intro i f hi hE hO
      refine sw_iload_n (pc := 65) C d_Md_drop_65 rfl rfl ?_
      refine sw_iload_n (pc := 66) C d_Md_drop_66 rfl rfl ?_
      refine sw_icmp_geN (pc := 67) C 139 (by omega) (by omega) d_Md_drop_67 (by decide) (fun hx => ?_) (fun hx => ?_)
      · skip
        have ei : i = m / 2 := by omega
        exact sw_vret (pc := 139) C E rfl (Nat.le_of_ble_eq_true rfl) (Nat.le_of_ble_eq_true rfl) d_Md_drop_139 ⟨rfl, f, fun j hj => by
    unfold drR
    rw [if_pos hj]
    by_cases e : j % 2 = 0
    · rw [if_pos e]; have := hE (j / 2) (by omega); rwa [show 2 * (j / 2) = j by omega] at this
    · rw [if_neg e]; have := hO (j / 2) (by omega); rwa [show 2 * (j / 2) + 1 = j by omega] at this, rfl⟩
      omega
    | succ nn ih =>
      intro i f hi hE hO
      refine sw_iload_n (pc := 65) C d_Md_drop_65 rfl rfl ?_
      refine sw_iload_n (pc := 66) C d_Md_drop_66 rfl rfl ?_
      refine sw_icmp_geN (pc := 67) C 139 (by omega) (by omega) d_Md_drop_67 (by decide) (fun hx => ?_) (fun hx => ?_)
      · skip
        omega
      have c100 : SW X g 5 0 0 ([mdC R dn pl ln ss pt th rd wd sc, iaC g (R 18) 8 x, iaC g (R 19) 8 f]) 100 [some (.ref (R 0)), some (.int (nI m)), some (.int (nI (m / 2))), some (.int (nI i)), some (.int (if i = m / 2 - 1 then drE x m (m / 2 - 1) else drE x m (i + 1)))] [] := by
        refine sw_aload_n (pc := 100) C d_Md_drop_100 rfl rfl ?_
        refine sw_get (pc := 101) C inMd 0 rfl rfl 27 (by decide) t_599 rfl rfl d_Md_drop_101 ?_
        refine sw_iconst (pc := 104) C (nI 2) d_Md_drop_104 (by decide) ?_
        refine sw_iload_n (pc := 105) C d_Md_drop_105 rfl rfl ?_
        refine sw_imul (pc := 106) C d_Md_drop_106 ?_
        refine sw_topi (z := nI (2 * i)) (pk_mul _ _) ?_
        refine sw_iconst (pc := 107) C (nI 1) d_Md_drop_107 (by decide) ?_
        refine sw_iadd (pc := 108) C d_Md_drop_108 ?_
        refine sw_topi (z := nI ((2 * i) + 1)) (nI_add _ _) ?_
        refine sw_aload_n (pc := 109) C d_Md_drop_109 rfl rfl ?_
        refine sw_get (pc := 110) C inMd 0 rfl rfl 26 (by decide) t_598 rfl rfl d_Md_drop_110 ?_
        refine sw_iload_n (pc := 113) C d_Md_drop_113 rfl rfl ?_
        refine sw_iload_n (pc := 114) C d_Md_drop_114 rfl rfl ?_
        refine sw_iadd (pc := 115) C d_Md_drop_115 ?_
        refine sw_topi (z := nI ((m / 2) + i)) (nI_add _ _) ?_
        refine sw_ialdN (pc := 116) C 1 ((m / 2) + i) rfl rfl (by omega) (by decide) d_Md_drop_116 ?_
        refine sw_aload_n (pc := 117) C d_Md_drop_117 rfl rfl ?_
        refine sw_get (pc := 118) C inMd 0 rfl rfl 27 (by decide) t_599 rfl rfl d_Md_drop_118 ?_
        refine sw_iconst (pc := 121) C (nI 2) d_Md_drop_121 (by decide) ?_
        refine sw_iload_n (pc := 122) C d_Md_drop_122 rfl rfl ?_
        refine sw_imul (pc := 123) C d_Md_drop_123 ?_
        refine sw_topi (z := nI (2 * i)) (pk_mul _ _) ?_
        refine sw_ialdN (pc := 124) C 2 (2 * i) rfl rfl (by omega) (by decide) d_Md_drop_124 ?_
        refine sw_topi (z := drE x m i) (hE i (by omega)) ?_
        refine sw_iload (pc := 125) C d_Md_drop_125 rfl ?_
        refine sw_iadd (pc := 127) C d_Md_drop_127 ?_
        refine sw_callSR (pc := 128) C (c_Md_half l g (drE x m i + (if i = m / 2 - 1 then drE x m (m / 2 - 1) else drE x m (i + 1)))) ss_Md_half t_749 [] rfl rfl rfl rfl (Nat.le_of_ble_eq_true rfl) (Nat.le_of_ble_eq_true rfl) (Nat.le_of_ble_eq_true rfl) (Nat.le_of_ble_eq_true rfl) (Nat.le_of_ble_eq_true rfl) d_Md_drop_128 (fun v w1 hp => ?_)
        obtain ⟨rfl, rfl⟩ := hp
        refine ⟨rfl, ?_⟩
        refine sw_iadd (pc := 131) C d_Md_drop_131 ?_
        refine sw_topi (z := drO x m i) (drO_r hm2.1 (by omega)).symm ?_
        refine sw_iastN (pc := 132) C 2 ((2 * i) + 1) rfl rfl (by omega) (by decide) d_Md_drop_132 ?_
        refine sw_iincN (pc := 133) C 1 d_Md_drop_133 rfl (by decide) (by decide) rfl ?_
        refine sw_goto (pc := 136) C 65 d_Md_drop_136 (by decide) ?_
        refine sw_drop 4 ?_
        refine ih (i + 1) (upd f (2 * i + 1) (drO x m i)) (by omega) (fun j hj => ?_) (fun j hj => ?_)
        · unfold upd
          rw [if_neg (by omega)]
          exact hE j hj
        · unfold upd
          by_cases e : j = i
          · rw [if_pos (by omega), e]
          · rw [if_neg (by omega)]; exact hO j (by omega)
      refine sw_iload_n (pc := 70) C d_Md_drop_70 rfl rfl ?_
      refine sw_iload_n (pc := 71) C d_Md_drop_71 rfl rfl ?_
      refine sw_iconst (pc := 72) C (nI 1) d_Md_drop_72 (by decide) ?_
      refine sw_isub (pc := 73) C d_Md_drop_73 ?_
      refine sw_topi (z := nI ((m / 2) - 1)) (pk_sub (by omega)) ?_
      refine sw_icmp_neN (pc := 74) C 88 (by omega) (by omega) d_Md_drop_74 (by decide) (fun h1 => ?_) (fun h1 => ?_)
      · skip
        refine sw_aload_n (pc := 88) C d_Md_drop_88 rfl rfl ?_
        refine sw_get (pc := 89) C inMd 0 rfl rfl 27 (by decide) t_599 rfl rfl d_Md_drop_89 ?_
        refine sw_iconst (pc := 92) C (nI 2) d_Md_drop_92 (by decide) ?_
        refine sw_iload_n (pc := 93) C d_Md_drop_93 rfl rfl ?_
        refine sw_imul (pc := 94) C d_Md_drop_94 ?_
        refine sw_topi (z := nI (2 * i)) (pk_mul _ _) ?_
        refine sw_iconst (pc := 95) C (nI 2) d_Md_drop_95 (by decide) ?_
        refine sw_iadd (pc := 96) C d_Md_drop_96 ?_
        refine sw_topi (z := nI ((2 * i) + 2)) (nI_add _ _) ?_
        refine sw_ialdN (pc := 97) C 2 ((2 * i) + 2) rfl rfl (by omega) (by decide) d_Md_drop_97 ?_
        refine sw_topi (z := (if i = m / 2 - 1 then drE x m (m / 2 - 1) else drE x m (i + 1))) (by rw [if_neg h1]; exact (congrArg f (show _ = 2 * (i + 1) from by omega)).trans (hE (i + 1) (by omega))) ?_
        refine sw_istore (pc := 98) C d_Md_drop_98 (by decide) rfl ?_
        exact c100
      refine sw_aload_n (pc := 77) C d_Md_drop_77 rfl rfl ?_
      refine sw_get (pc := 78) C inMd 0 rfl rfl 27 (by decide) t_599 rfl rfl d_Md_drop_78 ?_
      refine sw_iload_n (pc := 81) C d_Md_drop_81 rfl rfl ?_
      refine sw_iconst (pc := 82) C (nI 2) d_Md_drop_82 (by decide) ?_
      refine sw_isub (pc := 83) C d_Md_drop_83 ?_
      refine sw_topi (z := nI (m - 2)) (pk_sub (by omega)) ?_
      refine sw_ialdN (pc := 84) C 2 (m - 2) rfl rfl (by omega) (by decide) d_Md_drop_84 ?_
      refine sw_goto (pc := 85) C 98 d_Md_drop_85 (by decide) ?_
      refine sw_topi (z := (if i = m / 2 - 1 then drE x m (m / 2 - 1) else drE x m (i + 1))) (by rw [if_pos h1]; exact (congrArg f (show _ = 2 * (m / 2 - 1) from by omega)).trans (hE (m / 2 - 1) (by omega))) ?_
      refine sw_istore (pc := 98) C d_Md_drop_98 (by decide) rfl ?_
      exact c100
  have first : ∀ (nn i : Nat) (f : Nat → Int32), i + nn = m / 2 → (∀ j, j < i → f (2 * j) = drE x m j) → SW X g 5 0 0 ([mdC R dn pl ln ss pt th rd wd sc, iaC g (R 18) 8 x, iaC g (R 19) 8 f]) 6 [some (.ref (R 0)), some (.int (nI m)), some (.int (nI (m / 2))), some (.int (nI i)), none] [] := by
    intro nn
    induction nn with
    | zero =>
      intro i f hi hE
      refine sw_iload_n (pc := 6) C d_Md_drop_6 rfl rfl ?_
      refine sw_iload_n (pc := 7) C d_Md_drop_7 rfl rfl ?_
      refine sw_icmp_geN (pc := 8) C 63 (by omega) (by omega) d_Md_drop_8 (by decide) (fun hx => ?_) (fun hx => ?_)
      · skip
        refine sw_iconst (pc := 63) C (nI 0) d_Md_drop_63 (by decide) ?_
        refine sw_istore_n (pc := 64) C d_Md_drop_64 rfl (by decide) rfl ?_
        exact second (m / 2) 0 f (by omega) (fun j hj => hE j (by omega)) (fun j hj => absurd hj (Nat.not_lt_zero _))
      omega
    | succ nn ih =>
      intro i f hi hE
      refine sw_iload_n (pc := 6) C d_Md_drop_6 rfl rfl ?_
      refine sw_iload_n (pc := 7) C d_Md_drop_7 rfl rfl ?_
      refine sw_icmp_geN (pc := 8) C 63 (by omega) (by omega) d_Md_drop_8 (by decide) (fun hx => ?_) (fun hx => ?_)
      · skip
        omega
      refine sw_aload_n (pc := 11) C d_Md_drop_11 rfl rfl ?_
      refine sw_get (pc := 12) C inMd 0 rfl rfl 27 (by decide) t_599 rfl rfl d_Md_drop_12 ?_
      refine sw_iconst (pc := 15) C (nI 2) d_Md_drop_15 (by decide) ?_
      refine sw_iload_n (pc := 16) C d_Md_drop_16 rfl rfl ?_
      refine sw_imul (pc := 17) C d_Md_drop_17 ?_
      refine sw_topi (z := nI (2 * i)) (pk_mul _ _) ?_
      refine sw_aload_n (pc := 18) C d_Md_drop_18 rfl rfl ?_
      refine sw_get (pc := 19) C inMd 0 rfl rfl 26 (by decide) t_598 rfl rfl d_Md_drop_19 ?_
      refine sw_iload_n (pc := 22) C d_Md_drop_22 rfl rfl ?_
      refine sw_ialdN (pc := 23) C 1 i rfl rfl (by omega) (by decide) d_Md_drop_23 ?_
      refine sw_aload_n (pc := 24) C d_Md_drop_24 rfl rfl ?_
      refine sw_get (pc := 25) C inMd 0 rfl rfl 26 (by decide) t_598 rfl rfl d_Md_drop_25 ?_
      refine sw_iload_n (pc := 28) C d_Md_drop_28 rfl rfl ?_
      refine sw_iload_n (pc := 29) C d_Md_drop_29 rfl rfl ?_
      refine sw_if_neN (pc := 30) C 37 (by omega) d_Md_drop_30 (by decide) (fun h1 => ?_) (fun h1 => ?_)
      · skip
        refine sw_iload_n (pc := 37) C d_Md_drop_37 rfl rfl ?_
        refine sw_iconst (pc := 38) C (nI 1) d_Md_drop_38 (by decide) ?_
        refine sw_isub (pc := 39) C d_Md_drop_39 ?_
        refine sw_topi (z := nI (i - 1)) (pk_sub (by omega)) ?_
        refine sw_iadd (pc := 40) C d_Md_drop_40 ?_
        refine sw_topi (z := nI ((m / 2) + (i - 1))) (nI_add _ _) ?_
        refine sw_ialdN (pc := 41) C 1 ((m / 2) + (i - 1)) rfl rfl (by omega) (by decide) d_Md_drop_41 ?_
        refine sw_topi (z := x (m / 2 + (i - 1))) (congrArg x (show _ = m / 2 + (i - 1) from by omega)) ?_
        refine sw_aload_n (pc := 42) C d_Md_drop_42 rfl rfl ?_
        refine sw_get (pc := 43) C inMd 0 rfl rfl 26 (by decide) t_598 rfl rfl d_Md_drop_43 ?_
        refine sw_iload_n (pc := 46) C d_Md_drop_46 rfl rfl ?_
        refine sw_iload_n (pc := 47) C d_Md_drop_47 rfl rfl ?_
        refine sw_iadd (pc := 48) C d_Md_drop_48 ?_
        refine sw_topi (z := nI ((m / 2) + i)) (nI_add _ _) ?_
        refine sw_ialdN (pc := 49) C 1 ((m / 2) + i) rfl rfl (by omega) (by decide) d_Md_drop_49 ?_
        refine sw_iadd (pc := 50) C d_Md_drop_50 ?_
        refine sw_iconst (pc := 51) C (nI 2) d_Md_drop_51 (by decide) ?_
        refine sw_iadd (pc := 52) C d_Md_drop_52 ?_
        refine sw_iconst (pc := 53) C (nI 2) d_Md_drop_53 (by decide) ?_
        refine sw_ishr (pc := 54) C d_Md_drop_54 ?_
        refine sw_isub (pc := 55) C d_Md_drop_55 ?_
        refine sw_topi (z := drE x m i) rfl ?_
        refine sw_iastN (pc := 56) C 2 (2 * i) rfl rfl (by omega) (by decide) d_Md_drop_56 ?_
        refine sw_iincN (pc := 57) C 1 d_Md_drop_57 rfl (by decide) (by decide) rfl ?_
        refine sw_goto (pc := 60) C 6 d_Md_drop_60 (by decide) ?_
        refine ih (i + 1) (upd f (2 * i) (drE x m i)) (by omega) (fun j hj => ?_)
        unfold upd
        by_cases e : j = i
        · rw [if_pos (by omega), e]
        · rw [if_neg (by omega)]; exact hE j (by omega)
      refine sw_iconst (pc := 33) C (nI 0) d_Md_drop_33 (by decide) ?_
      refine sw_goto (pc := 34) C 40 d_Md_drop_34 (by decide) ?_
      refine sw_iadd (pc := 40) C d_Md_drop_40 ?_
      refine sw_topi (z := nI ((m / 2) + 0)) (nI_add _ _) ?_
      refine sw_ialdN (pc := 41) C 1 ((m / 2) + 0) rfl rfl (by omega) (by decide) d_Md_drop_41 ?_
      refine sw_topi (z := x (m / 2 + (i - 1))) (congrArg x (show _ = m / 2 + (i - 1) from by omega)) ?_
      refine sw_aload_n (pc := 42) C d_Md_drop_42 rfl rfl ?_
      refine sw_get (pc := 43) C inMd 0 rfl rfl 26 (by decide) t_598 rfl rfl d_Md_drop_43 ?_
      refine sw_iload_n (pc := 46) C d_Md_drop_46 rfl rfl ?_
      refine sw_iload_n (pc := 47) C d_Md_drop_47 rfl rfl ?_
      refine sw_iadd (pc := 48) C d_Md_drop_48 ?_
      refine sw_topi (z := nI ((m / 2) + i)) (nI_add _ _) ?_
      refine sw_ialdN (pc := 49) C 1 ((m / 2) + i) rfl rfl (by omega) (by decide) d_Md_drop_49 ?_
      refine sw_iadd (pc := 50) C d_Md_drop_50 ?_
      refine sw_iconst (pc := 51) C (nI 2) d_Md_drop_51 (by decide) ?_
      refine sw_iadd (pc := 52) C d_Md_drop_52 ?_
      refine sw_iconst (pc := 53) C (nI 2) d_Md_drop_53 (by decide) ?_
      refine sw_ishr (pc := 54) C d_Md_drop_54 ?_
      refine sw_isub (pc := 55) C d_Md_drop_55 ?_
      refine sw_topi (z := drE x m i) rfl ?_
      refine sw_iastN (pc := 56) C 2 (2 * i) rfl rfl (by omega) (by decide) d_Md_drop_56 ?_
      refine sw_iincN (pc := 57) C 1 d_Md_drop_57 rfl (by decide) (by decide) rfl ?_
      refine sw_goto (pc := 60) C 6 d_Md_drop_60 (by decide) ?_
      refine ih (i + 1) (upd f (2 * i) (drE x m i)) (by omega) (fun j hj => ?_)
      unfold upd
      by_cases e : j = i
      · rw [if_pos (by omega), e]
      · rw [if_neg (by omega)]; exact hE j (by omega)
  refine sw_iload_n (pc := 0) C d_Md_drop_0 rfl rfl ?_
  refine sw_iconst (pc := 1) C (nI 2) d_Md_drop_1 (by decide) ?_
  refine sw_idiv (pc := 2) C d_Md_drop_2 (by decide) ?_
  refine sw_topi (z := nI (m / 2)) (pk_div (by omega) (by omega) (by omega)) ?_
  refine sw_istore_n (pc := 3) C d_Md_drop_3 rfl (by decide) rfl ?_
  refine sw_iconst (pc := 4) C (nI 0) d_Md_drop_4 (by decide) ?_
  refine sw_istore_n (pc := 5) C d_Md_drop_5 rfl (by decide) rfl ?_
  exact first (m / 2) 0 nx (by omega) (fun j hj => absurd hj (Nat.not_lt_zero _))
def opR (up : Bool) (m : Nat) : (Nat → Int32) → Nat → Int32 := if up then lfR m else drR m
theorem opR_keeps {up : Bool} {m : Nat} (hm : m % 2 = 0) (h2 : 2 ≤ m) : keepsM (opR up m) m := by
  cases up
  · exact drR_keeps hm h2
  · exact lfR_keeps hm h2
def opU (rows : Bool) (R : (Nat → Int32) → Nat → Int32) (j : Nat) (G : Nat → Nat → Int32) : Nat → Nat → Int32 := if rows then rowsU R j G else colsU R j G
/-- a line of G: row q, or column q -/
def lnO (rows : Bool) (G : Nat → Nat → Int32) (q : Nat) : Nat → Int32 := fun i => if rows then G q i else G i q
/-- its first i places are those of f -/
def lnS (rows : Bool) (G : Nat → Nat → Int32) (q : Nat) (f : Nat → Int32) (i : Nat) : Nat → Nat → Int32 := fun y x => if rows then (if y = q ∧ x < i then f x else G y x) else (if x = q ∧ y < i then f y else G y x)
def ixO (rows : Bool) (q i : Nat) : Nat := if rows then 8 * q + i else 8 * i + q
theorem ixO_lt {rows : Bool} {q i : Nat} (hq : q < 8) (hi : i < 8) : ixO rows q i < 64 := by
  unfold ixO
  split <;> omega
theorem lnO_at {rows : Bool} {G : Nat → Nat → Int32} {q i : Nat} (hq : q < 8) (hi : i < 8) : flat 8 G (ixO rows q i) = lnO rows G q i := by
  unfold ixO lnO
  cases rows
  · exact flat_at hq
  · exact flat_at hi
theorem lnS_up {rows : Bool} {G : Nat → Nat → Int32} {q i : Nat} {f : Nat → Int32} (hq : q < 8) (hi : i < 8) : upd (flat 8 (lnS rows G q f i)) (ixO rows q i) (f i) = flat 8 (lnS rows G q f (i + 1)) := by
  cases rows
  · have e : ixO false q i = 8 * i + q := rfl
    rw [e, flat_up hq]
    congr 1
    funext y x
    unfold up2 lnS
    by_cases h : y = i ∧ x = q
    · rw [if_pos h]
      simp only [Bool.false_eq_true, if_false]
      rw [if_pos (by omega), h.1]
    · rw [if_neg h]
      simp only [Bool.false_eq_true, if_false]
      by_cases h2 : x = q ∧ y < i
      · rw [if_pos h2, if_pos (by omega)]
      · rw [if_neg h2, if_neg (by omega)]
  · have e : ixO true q i = 8 * q + i := rfl
    rw [e, flat_up hi]
    congr 1
    funext y x
    unfold up2 lnS
    by_cases h : y = q ∧ x = i
    · rw [if_pos h]
      simp only [if_true]
      rw [if_pos (by omega), h.2]
    · rw [if_neg h]
      simp only [if_true]
      by_cases h2 : y = q ∧ x < i
      · rw [if_pos h2, if_pos (by omega)]
      · rw [if_neg h2, if_neg (by omega)]
theorem lnS_0 (rows : Bool) (G : Nat → Nat → Int32) (q : Nat) (f : Nat → Int32) : lnS rows G q f 0 = G := by
  funext y x
  unfold lnS
  split
  · rw [if_neg (by omega)]
  · rw [if_neg (by omega)]
theorem opU_0 (rows : Bool) (R : (Nat → Int32) → Nat → Int32) (G : Nat → Nat → Int32) : opU rows R 0 G = G := by
  unfold opU
  split
  · exact rowsU_0 R G
  · exact colsU_0 R G
theorem opU_step {rows : Bool} {R : (Nat → Int32) → Nat → Int32} {m q : Nat} {G : Nat → Nat → Int32} {f : Nat → Int32} (hk : keepsM R m) (hf : ∀ i, i < m → f i = R (lnO rows (opU rows R q G) q) i) : lnS rows (opU rows R q G) q f m = opU rows R (q + 1) G := by
  funext y x
  cases rows
  · have el : lnO false (opU false R q G) q = fun i => G i q := by
      funext i
      show colsU R q G i q = _
      unfold colsU
      rw [if_neg (by omega)]
    rw [el] at hf
    show (if x = q ∧ y < m then f y else colsU R q G y x) = colsU R (q + 1) G y x
    unfold colsU
    by_cases h : x = q
    · subst h
      by_cases h2 : y < m
      · rw [if_pos ⟨rfl, h2⟩, if_pos (show x < x + 1 by omega), hf y h2]
      · rw [if_neg (show ¬ (x = x ∧ y < m) by omega), if_neg (show ¬ x < x by omega), if_pos (show x < x + 1 by omega), hk.1 _ _ (by omega)]
    · rw [if_neg (show ¬ (x = q ∧ y < m) by omega)]
      by_cases h2 : x < q
      · rw [if_pos h2, if_pos (show x < q + 1 by omega)]
      · rw [if_neg h2, if_neg (show ¬ x < q + 1 by omega)]
  · have el : lnO true (opU true R q G) q = G q := by
      funext i
      show rowsU R q G q i = _
      unfold rowsU
      rw [if_neg (by omega)]
    rw [el] at hf
    show (if y = q ∧ x < m then f x else rowsU R q G y x) = rowsU R (q + 1) G y x
    unfold rowsU
    by_cases h : y = q
    · subst h
      by_cases h2 : x < m
      · rw [if_pos ⟨rfl, h2⟩, if_pos (show y < y + 1 by omega), hf x h2]
      · rw [if_neg (show ¬ (y = y ∧ x < m) by omega), if_neg (show ¬ y < y by omega), if_pos (show y < y + 1 by omega), hk.1 _ _ (by omega)]
    · rw [if_neg (show ¬ (y = q ∧ x < m) by omega)]
      by_cases h2 : y < q
      · rw [if_pos h2, if_pos (show y < q + 1 by omega)]
      · rw [if_neg h2, if_neg (show ¬ y < q + 1 by omega)]
theorem opR_cong {up : Bool} {m : Nat} (hm : m % 2 = 0) (h2 : 2 ≤ m) {x y : Nat → Int32} (h : ∀ i, i < m → x i = y i) {i : Nat} (hi : i < m) : opR up m x i = opR up m y i := (opR_keeps hm h2).2 x y i h hi
set_option maxRecDepth 100000 in
set_option maxHeartbeats 4000000 in
theorem c_Md_all (l : Launch) (g : Gl) (R : Nat → Nat) (dn pl ln ss pt : Nat) (th rd : Bool) (wd sc : Nat) (G : Nat → Nat → Int32) (rw0 nx0 : Nat → Int32) (m : Nat) (hm : m = 2 ∨ m = 4 ∨ m = 8) (rows up : Bool) : Ct l g y_Md_all b_Md_all 6 none (rmD 2) [.ref (R 0), .int (nI m), .int (bI rows), .int (bI up)] ([mdC R dn pl ln ss pt th rd wd sc, iaC g (R 17) 64 (flat 8 G), iaC g (R 18) 8 rw0, iaC g (R 19) 8 nx0]) (fun u w => u = none ∧ ∃ rw1 nx1, w = [mdC R dn pl ln ss pt th rd wd sc, iaC g (R 17) 64 (flat 8 (opU rows (opR up m) m G)), iaC g (R 18) 8 rw1, iaC g (R 19) 8 nx1]) := by
  refine ct_of [some (.ref (R 0)), some (.int (nI m)), some (.int (bI rows)), some (.int (bI up)), none, none] (by decide) (Nat.le_of_ble_eq_true rfl) rfl ?_
  intro X C E
  have hm2 : m % 2 = 0 ∧ 2 ≤ m ∧ m ≤ 8 := by omega
  have key : ∀ (nn q : Nat) (r0 n0 : Nat → Int32), q + nn = m → SW X g 6 0 0 ([mdC R dn pl ln ss pt th rd wd sc, iaC g (R 17) 64 (flat 8 (opU rows (opR up m) q G)), iaC g (R 18) 8 r0, iaC g (R 19) 8 n0]) 3 [some (.ref (R 0)), some (.int (nI m)), some (.int (bI rows)), some (.int (bI up)), some (.int (nI q)), none] [] := by
    intro nn
    induction nn with
    | zero =>
      intro q r0 n0 hi 
      refine sw_iload (pc := 3) C d_Md_all_3 rfl ?_
      refine sw_iload_n (pc := 5) C d_Md_all_5 rfl rfl ?_
      refine sw_icmp_geN (pc := 6) C 132 (by omega) (by omega) d_Md_all_6 (by decide) (fun hx => ?_) (fun hx => ?_)
      · skip
        have eq : m = q := by omega
        subst eq
        exact sw_vret (pc := 132) C E rfl (Nat.le_of_ble_eq_true rfl) (Nat.le_of_ble_eq_true rfl) d_Md_all_132 ⟨rfl, r0, n0, rfl⟩
      omega
    | succ nn ih =>
      intro q r0 n0 hi 
      refine sw_iload (pc := 3) C d_Md_all_3 rfl ?_
      refine sw_iload_n (pc := 5) C d_Md_all_5 rfl rfl ?_
      refine sw_icmp_geN (pc := 6) C 132 (by omega) (by omega) d_Md_all_6 (by decide) (fun hx => ?_) (fun hx => ?_)
      · skip
        omega
      have ihq := ih
      have last : ∀ (nn i : Nat) (r1 n1 : Nat → Int32), i + nn = m → (∀ i, i < m → n1 i = opR up m (lnO rows (opU rows (opR up m) q G) q) i) → SW X g 6 0 0 ([mdC R dn pl ln ss pt th rd wd sc, iaC g (R 17) 64 (flat 8 (lnS rows (opU rows (opR up m) q G) q n1 i)), iaC g (R 18) 8 r1, iaC g (R 19) 8 n1]) 79 [some (.ref (R 0)), some (.int (nI m)), some (.int (bI rows)), some (.int (bI up)), some (.int (nI q)), some (.int (nI i))] [] := by
        intro nn
        induction nn with
        | zero =>
          intro i r1 n1 hi hn1
          refine sw_iload (pc := 79) C d_Md_all_79 rfl ?_
          refine sw_iload_n (pc := 81) C d_Md_all_81 rfl rfl ?_
          refine sw_icmp_geN (pc := 82) C 126 (by omega) (by omega) d_Md_all_82 (by decide) (fun hx => ?_) (fun hx => ?_)
          · skip
            have ei : m = i := by omega
            subst ei
            refine sw_iincN (pc := 126) C 1 d_Md_all_126 rfl (by decide) (by decide) rfl ?_
            refine sw_goto (pc := 129) C 3 d_Md_all_129 (by decide) ?_
            refine sw_drop 5 ?_
            refine sw_ws (ws' := [mdC R dn pl ln ss pt th rd wd sc, iaC g (R 17) 64 (flat 8 (opU rows (opR up m) (q + 1) G)), iaC g (R 18) 8 r1, iaC g (R 19) 8 n1]) (by rw [opU_step (opR_keeps hm2.1 hm2.2.1) hn1]) ?_
            exact ihq (q + 1) r1 n1 (by omega)
          omega
        | succ nn ih =>
          intro i r1 n1 hi hn1
          refine sw_iload (pc := 79) C d_Md_all_79 rfl ?_
          refine sw_iload_n (pc := 81) C d_Md_all_81 rfl rfl ?_
          refine sw_icmp_geN (pc := 82) C 126 (by omega) (by omega) d_Md_all_82 (by decide) (fun hx => ?_) (fun hx => ?_)
          · skip
            omega
          refine sw_aload_n (pc := 85) C d_Md_all_85 rfl rfl ?_
          refine sw_get (pc := 86) C inMd 0 rfl rfl 25 (by decide) t_597 rfl rfl d_Md_all_86 ?_
          refine sw_iload_n (pc := 89) C d_Md_all_89 rfl rfl ?_
          refine sw_if_eqB (pc := 90) C 104 d_Md_all_90 (by decide) (fun hb => ?_) (fun hb => ?_)
          · skip
            refine sw_bipush (pc := 104) C (nI 8) d_Md_all_104 (by decide) ?_
            refine sw_iload (pc := 106) C d_Md_all_106 rfl ?_
            refine sw_imul (pc := 108) C d_Md_all_108 ?_
            refine sw_topi (z := nI (8 * i)) (pk_mul _ _) ?_
            refine sw_iload (pc := 109) C d_Md_all_109 rfl ?_
            refine sw_iadd (pc := 111) C d_Md_all_111 ?_
            refine sw_topi (z := nI ((8 * i) + q)) (nI_add _ _) ?_
            refine sw_topi (z := nI (ixO rows q i)) (by rw [hb]; rfl) ?_
            refine sw_aload_n (pc := 112) C d_Md_all_112 rfl rfl ?_
            refine sw_get (pc := 113) C inMd 0 rfl rfl 27 (by decide) t_599 rfl rfl d_Md_all_113 ?_
            refine sw_iload (pc := 116) C d_Md_all_116 rfl ?_
            refine sw_ialdN (pc := 118) C 3 i rfl rfl (by omega) (by decide) d_Md_all_118 ?_
            refine sw_iastN (pc := 119) C 1 (ixO rows q i) rfl rfl (ixO_lt (by omega) (by omega)) (by decide) d_Md_all_119 ?_
            refine sw_ws (ws' := [mdC R dn pl ln ss pt th rd wd sc, iaC g (R 17) 64 (flat 8 (lnS rows (opU rows (opR up m) q G) q n1 (i + 1))), iaC g (R 18) 8 r1, iaC g (R 19) 8 n1]) (by rw [← lnS_up (by omega) (by omega)]; rfl) ?_
            refine sw_iincN (pc := 120) C 1 d_Md_all_120 rfl (by decide) (by decide) rfl ?_
            refine sw_goto (pc := 123) C 79 d_Md_all_123 (by decide) ?_
            exact ih (i + 1) r1 n1 (by omega) hn1
          refine sw_bipush (pc := 93) C (nI 8) d_Md_all_93 (by decide) ?_
          refine sw_iload (pc := 95) C d_Md_all_95 rfl ?_
          refine sw_imul (pc := 97) C d_Md_all_97 ?_
          refine sw_topi (z := nI (8 * q)) (pk_mul _ _) ?_
          refine sw_iload (pc := 98) C d_Md_all_98 rfl ?_
          refine sw_iadd (pc := 100) C d_Md_all_100 ?_
          refine sw_topi (z := nI ((8 * q) + i)) (nI_add _ _) ?_
          refine sw_goto (pc := 101) C 112 d_Md_all_101 (by decide) ?_
          refine sw_topi (z := nI (ixO rows q i)) (by rw [hb]; rfl) ?_
          refine sw_aload_n (pc := 112) C d_Md_all_112 rfl rfl ?_
          refine sw_get (pc := 113) C inMd 0 rfl rfl 27 (by decide) t_599 rfl rfl d_Md_all_113 ?_
          refine sw_iload (pc := 116) C d_Md_all_116 rfl ?_
          refine sw_ialdN (pc := 118) C 3 i rfl rfl (by omega) (by decide) d_Md_all_118 ?_
          refine sw_iastN (pc := 119) C 1 (ixO rows q i) rfl rfl (ixO_lt (by omega) (by omega)) (by decide) d_Md_all_119 ?_
          refine sw_ws (ws' := [mdC R dn pl ln ss pt th rd wd sc, iaC g (R 17) 64 (flat 8 (lnS rows (opU rows (opR up m) q G) q n1 (i + 1))), iaC g (R 18) 8 r1, iaC g (R 19) 8 n1]) (by rw [← lnS_up (by omega) (by omega)]; rfl) ?_
          refine sw_iincN (pc := 120) C 1 d_Md_all_120 rfl (by decide) (by decide) rfl ?_
          refine sw_goto (pc := 123) C 79 d_Md_all_123 (by decide) ?_
          exact ih (i + 1) r1 n1 (by omega) hn1
      have firstL : ∀ (nn i : Nat) (r1 n1 : Nat → Int32), i + nn = m → (∀ j, j < i → r1 j = lnO rows (opU rows (opR up m) q G) q j) → SW X g 6 0 0 ([mdC R dn pl ln ss pt th rd wd sc, iaC g (R 17) 64 (flat 8 (opU rows (opR up m) q G)), iaC g (R 18) 8 r1, iaC g (R 19) 8 n1]) 12 [some (.ref (R 0)), some (.int (nI m)), some (.int (bI rows)), some (.int (bI up)), some (.int (nI q)), some (.int (nI i))] [] := by
        intro nn
        induction nn with
        | zero =>
          intro i r1 n1 hi hr1
          refine sw_iload (pc := 12) C d_Md_all_12 rfl ?_
          refine sw_iload_n (pc := 14) C d_Md_all_14 rfl rfl ?_
          refine sw_icmp_geN (pc := 15) C 59 (by omega) (by omega) d_Md_all_15 (by decide) (fun hx => ?_) (fun hx => ?_)
          · skip
            have ei : m = i := by omega
            subst ei
            refine sw_iload_n (pc := 59) C d_Md_all_59 rfl rfl ?_
            refine sw_if_eqB (pc := 60) C 71 d_Md_all_60 (by decide) (fun hu => ?_) (fun hu => ?_)
            · skip
              refine sw_aload_n (pc := 71) C d_Md_all_71 rfl rfl ?_
              refine sw_iload_n (pc := 72) C d_Md_all_72 rfl rfl ?_
              refine sw_callVP (pc := 73) C (c_Md_drop l g R dn pl ln ss pt th rd wd sc r1 n1 m hm) sv_Md_drop t_752 rfl rfl rfl [0, 2, 3] rfl rfl rfl rfl (Nat.le_of_ble_eq_true rfl) (Nat.le_of_ble_eq_true rfl) (Nat.le_of_ble_eq_true rfl) (Nat.le_of_ble_eq_true rfl) (Nat.le_of_ble_eq_true rfl) d_Md_all_73 (fun v w1 hp => ?_)
              obtain ⟨rfl, n2, hn2, rfl⟩ := hp
              refine ⟨rfl, ?_⟩
              refine sw_ws (ws' := [mdC R dn pl ln ss pt th rd wd sc, iaC g (R 17) 64 (flat 8 (opU rows (opR up m) q G)), iaC g (R 18) 8 r1, iaC g (R 19) 8 n2]) rfl ?_
              refine sw_iconst (pc := 76) C (nI 0) d_Md_all_76 (by decide) ?_
              refine sw_istore (pc := 77) C d_Md_all_77 (by decide) rfl ?_
              refine sw_ws (ws' := [mdC R dn pl ln ss pt th rd wd sc, iaC g (R 17) 64 (flat 8 (lnS rows (opU rows (opR up m) q G) q n2 0)), iaC g (R 18) 8 r1, iaC g (R 19) 8 n2]) (by rw [lnS_0]) ?_
              exact last m 0 r1 n2 (by omega) (fun i hi => by rw [hn2 i hi, ← opR_cong hm2.1 hm2.2.1 hr1 hi, hu]; rfl)
            refine sw_aload_n (pc := 63) C d_Md_all_63 rfl rfl ?_
            refine sw_iload_n (pc := 64) C d_Md_all_64 rfl rfl ?_
            refine sw_callVP (pc := 65) C (c_Md_lift l g R dn pl ln ss pt th rd wd sc r1 n1 m hm) sv_Md_lift t_745 rfl rfl rfl [0, 2, 3] rfl rfl rfl rfl (Nat.le_of_ble_eq_true rfl) (Nat.le_of_ble_eq_true rfl) (Nat.le_of_ble_eq_true rfl) (Nat.le_of_ble_eq_true rfl) (Nat.le_of_ble_eq_true rfl) d_Md_all_65 (fun v w1 hp => ?_)
            obtain ⟨rfl, n2, hn2, rfl⟩ := hp
            refine ⟨rfl, ?_⟩
            refine sw_ws (ws' := [mdC R dn pl ln ss pt th rd wd sc, iaC g (R 17) 64 (flat 8 (opU rows (opR up m) q G)), iaC g (R 18) 8 r1, iaC g (R 19) 8 n2]) rfl ?_
            refine sw_goto (pc := 68) C 76 d_Md_all_68 (by decide) ?_
            refine sw_iconst (pc := 76) C (nI 0) d_Md_all_76 (by decide) ?_
            refine sw_istore (pc := 77) C d_Md_all_77 (by decide) rfl ?_
            refine sw_ws (ws' := [mdC R dn pl ln ss pt th rd wd sc, iaC g (R 17) 64 (flat 8 (lnS rows (opU rows (opR up m) q G) q n2 0)), iaC g (R 18) 8 r1, iaC g (R 19) 8 n2]) (by rw [lnS_0]) ?_
            exact last m 0 r1 n2 (by omega) (fun i hi => by rw [hn2 i hi, ← opR_cong hm2.1 hm2.2.1 hr1 hi, hu]; rfl)
          omega
        | succ nn ih =>
          intro i r1 n1 hi hr1
          refine sw_iload (pc := 12) C d_Md_all_12 rfl ?_
          refine sw_iload_n (pc := 14) C d_Md_all_14 rfl rfl ?_
          refine sw_icmp_geN (pc := 15) C 59 (by omega) (by omega) d_Md_all_15 (by decide) (fun hx => ?_) (fun hx => ?_)
          · skip
            omega
          refine sw_aload_n (pc := 18) C d_Md_all_18 rfl rfl ?_
          refine sw_get (pc := 19) C inMd 0 rfl rfl 26 (by decide) t_598 rfl rfl d_Md_all_19 ?_
          refine sw_iload (pc := 22) C d_Md_all_22 rfl ?_
          refine sw_aload_n (pc := 24) C d_Md_all_24 rfl rfl ?_
          refine sw_get (pc := 25) C inMd 0 rfl rfl 25 (by decide) t_597 rfl rfl d_Md_all_25 ?_
          refine sw_iload_n (pc := 28) C d_Md_all_28 rfl rfl ?_
          refine sw_if_eqB (pc := 29) C 43 d_Md_all_29 (by decide) (fun hb => ?_) (fun hb => ?_)
          · skip
            refine sw_bipush (pc := 43) C (nI 8) d_Md_all_43 (by decide) ?_
            refine sw_iload (pc := 45) C d_Md_all_45 rfl ?_
            refine sw_imul (pc := 47) C d_Md_all_47 ?_
            refine sw_topi (z := nI (8 * i)) (pk_mul _ _) ?_
            refine sw_iload (pc := 48) C d_Md_all_48 rfl ?_
            refine sw_iadd (pc := 50) C d_Md_all_50 ?_
            refine sw_topi (z := nI ((8 * i) + q)) (nI_add _ _) ?_
            refine sw_topi (z := nI (ixO rows q i)) (by rw [hb]; rfl) ?_
            refine sw_ialdN (pc := 51) C 1 (ixO rows q i) rfl rfl (ixO_lt (by omega) (by omega)) (by decide) d_Md_all_51 ?_
            refine sw_topi (z := lnO rows (opU rows (opR up m) q G) q i) (lnO_at (by omega) (by omega)) ?_
            refine sw_iastN (pc := 52) C 2 i rfl rfl (by omega) (by decide) d_Md_all_52 ?_
            refine sw_iincN (pc := 53) C 1 d_Md_all_53 rfl (by decide) (by decide) rfl ?_
            refine sw_goto (pc := 56) C 12 d_Md_all_56 (by decide) ?_
            refine ih (i + 1) (upd r1 i (lnO rows (opU rows (opR up m) q G) q i)) n1 (by omega) (fun j hj => ?_)
            unfold upd
            by_cases e : j = i
            · rw [if_pos e, e]
            · rw [if_neg e]; exact hr1 j (by omega)
          refine sw_bipush (pc := 32) C (nI 8) d_Md_all_32 (by decide) ?_
          refine sw_iload (pc := 34) C d_Md_all_34 rfl ?_
          refine sw_imul (pc := 36) C d_Md_all_36 ?_
          refine sw_topi (z := nI (8 * q)) (pk_mul _ _) ?_
          refine sw_iload (pc := 37) C d_Md_all_37 rfl ?_
          refine sw_iadd (pc := 39) C d_Md_all_39 ?_
          refine sw_topi (z := nI ((8 * q) + i)) (nI_add _ _) ?_
          refine sw_goto (pc := 40) C 51 d_Md_all_40 (by decide) ?_
          refine sw_topi (z := nI (ixO rows q i)) (by rw [hb]; rfl) ?_
          refine sw_ialdN (pc := 51) C 1 (ixO rows q i) rfl rfl (ixO_lt (by omega) (by omega)) (by decide) d_Md_all_51 ?_
          refine sw_topi (z := lnO rows (opU rows (opR up m) q G) q i) (lnO_at (by omega) (by omega)) ?_
          refine sw_iastN (pc := 52) C 2 i rfl rfl (by omega) (by decide) d_Md_all_52 ?_
          refine sw_iincN (pc := 53) C 1 d_Md_all_53 rfl (by decide) (by decide) rfl ?_
          refine sw_goto (pc := 56) C 12 d_Md_all_56 (by decide) ?_
          refine ih (i + 1) (upd r1 i (lnO rows (opU rows (opR up m) q G) q i)) n1 (by omega) (fun j hj => ?_)
          unfold upd
          by_cases e : j = i
          · rw [if_pos e, e]
          · rw [if_neg e]; exact hr1 j (by omega)
      refine sw_iconst (pc := 9) C (nI 0) d_Md_all_9 (by decide) ?_
      refine sw_istore (pc := 10) C d_Md_all_10 (by decide) rfl ?_
      exact firstL m 0 r0 n0 (by omega) (fun j hj => absurd hj (Nat.not_lt_zero _))
  refine sw_iconst (pc := 0) C (nI 0) d_Md_all_0 (by decide) ?_
  refine sw_istore (pc := 1) C d_Md_all_1 (by decide) rfl ?_
  refine sw_ws (ws' := [mdC R dn pl ln ss pt th rd wd sc, iaC g (R 17) 64 (flat 8 (opU rows (opR up m) 0 G)), iaC g (R 18) 8 rw0, iaC g (R 19) 8 nx0]) (by rw [opU_0]) ?_
  exact key m 0 rw0 nx0 (by omega)
