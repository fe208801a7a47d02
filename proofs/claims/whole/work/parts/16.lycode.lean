/-! a layer's whole code -/
def lyJ (n : Nat) (cf : Nat → Int32) (b i : Nat) (s : LY) : Prop := plB (n * n) s.2.1 b i ∧ ∀ k, s.2.1 k = 0 → s.2.2 k = decide (cf k < 0)
theorem lyStep_J {md : Option (Nat → Nat)} {n : Nat} {cf : Nat → Int32} {b i : Nat} {s : LY} (hi : i < n * n) (h : lyJ n cf b i s) : lyJ n cf b (i + 1) (lyStep md n cf b i s) := by
  obtain ⟨S, pf, ng⟩ := s
  obtain ⟨h1, h2⟩ := h
  dsimp only at h1 h2
  have hi1 := h1 i hi
  rw [if_neg (show ¬ i < i by omega)] at hi1
  have ex : ∀ k, k ≠ i → (if k < i + 1 then b else b + 1) = (if k < i then b else b + 1) := fun k hk => cd_ex hk
  by_cases h0 : pf i = 0
  · have hv := kBit_01 (md := md) (S := S) (c := lyC n pf i) (gbit_le (cf i) b)
    by_cases hv0 : kBit md S (lyC n pf i) (gbit (cf i) b) = 0
    · rw [ls_fresh0 h0 hv0]
      refine ⟨fun k hk => ?_, fun k hk => ?_⟩
      · dsimp only
        by_cases e : k = i
        · subst e
          rw [upN_at, if_pos (by omega)]
          rw [h0, Nat.pow_succ] at hi1
          omega
        · rw [upN_ne e, ex k e]
          exact h1 k hk
      · dsimp only at hk ⊢
        by_cases e : k = i
        · subst e; exact h2 k h0
        · rw [upN_ne e] at hk; exact h2 k hk
    · rw [ls_fresh1 h0 (by omega)]
      refine ⟨fun k hk => ?_, fun k hk => ?_⟩
      · dsimp only
        by_cases e : k = i
        · subst e
          rw [upN_at, if_pos (by omega)]
          rw [h0, Nat.pow_succ] at hi1
          omega
        · rw [upN_ne e, ex k e]
          exact h1 k hk
      · dsimp only at hk ⊢
        by_cases e : k = i
        · subst e; rw [upN_at] at hk; omega
        · rw [upN_ne e] at hk; rw [upB_ne e]; exact h2 k hk
  · have hv := kBit_01 (md := md) (S := S) (c := 4) (gbit_le (cf i) b)
    rw [ls_begun h0]
    refine ⟨fun k hk => ?_, fun k hk => ?_⟩
    · dsimp only
      by_cases e : k = i
      · subst e
        rw [upN_at, if_pos (by omega)]
        refine Nat.le_trans ?_ hi1
        rw [Nat.pow_succ, Nat.mul_comm (2 ^ b) 2, ← Nat.mul_assoc]
        exact Nat.mul_le_mul_right _ (by omega)
      · rw [upN_ne e, ex k e]
        exact h1 k hk
    · dsimp only at hk ⊢
      by_cases e : k = i
      · subst e; rw [upN_at] at hk; omega
      · rw [upN_ne e] at hk; exact h2 k hk
theorem lyK_J {md : Option (Nat → Nat)} {n : Nat} {cf : Nat → Int32} {b : Nat} {s : LY} (h : lyJ n cf b 0 s) : ∀ i, i ≤ n * n → lyJ n cf b i (lyK md n cf b s i)
  | 0, _ => h
  | i + 1, hi => lyStep_J (by omega) (lyK_J h i (by omega))
theorem lyP_J {md : Option (Nat → Nat)} {n : Nat} {cf : Nat → Int32} : ∀ p, p ≤ 9 → lyJ n cf (9 - p) 0 (lyP md n cf p)
  | 0, _ => ⟨fun k _ => by simp [lyP], fun k _ => rfl⟩
  | p + 1, hp => by
    obtain ⟨h1, h2⟩ := lyK_J (md := md) (lyP_J (md := md) (n := n) (cf := cf) p (by omega)) (n * n) (Nat.le_refl _)
    refine ⟨fun k hk => ?_, h2⟩
    have := h1 k hk
    rw [if_pos hk] at this
    rw [if_neg (by omega), show 9 - (p + 1) + 1 = 9 - p by omega]
    exact this
theorem cdF_0 (pf : Nat → Nat) (ng : Nat → Bool) (b : Nat) : cdF pf ng b 0 = cdV pf ng (b + 1) := by
  funext k
  unfold cdF
  rw [if_neg (by omega)]
theorem pl_step : ∀ p, p < 10 → nI 9 - nI p + (-1) = nI 9 - nI (p + 1) := by decide +kernel
theorem pl_cmp : ∀ s, s < 11 → ∀ p, p < s + 1 → (nI 9 - nI p < nI (10 - s) ↔ p = s) := by decide +kernel
theorem t_le {p i N : Nat} (hp : p < 10) (hi : i < N) : p * N + i + 1 ≤ 10 * N := by
  have h : (p + 1) * N ≤ 10 * N := Nat.mul_le_mul_right _ hp
  rw [Nat.succ_mul] at h
  omega
set_option maxRecDepth 100000 in
set_option maxHeartbeats 4000000 in
theorem c_ccf_w (l : Launch) (g : Gl) (A : Nat → Nat) (n : Nat) (ce co cd li : Nat → Int32) (cm : Bool) (hn : n = 4 ∨ n = 8) (a z o r : Nat) (l0 : List Nat) (sl : Nat) (hsl : sl ≤ 10) (h1 : 1 ≤ l0.length) (hst : l0.length + 55 * (n * n) / 8 + 2 < 1200) : Ct l g y_Ly_codeCoefficients b_Ly_codeCoefficients 5 none (rmD 3) [.ref (A 0), .int (nI sl), .ref a] (wLy g A n ce co cd li cm ++ wKw g a z o r l0 (kInit none)) (fun u w => u = none ∧ w = wLy g A n ce (cdV (lyP none n co sl).2.1 (lyP none n co sl).2.2 (10 - sl)) (cdV (lyP none n co sl).2.1 (lyP none n co sl).2.2 (10 - sl)) li cm ++ wKw g a z o r l0 (lyP none n co sl).1) := by
  refine ct_of [some (.ref (A 0)), some (.int (nI sl)), some (.ref a), none, none] (by decide) (Nat.le_of_ble_eq_true rfl) rfl ?_
  intro X C E
  obtain ⟨hnn, hn4, hn8⟩ := nn_le hn
  refine sw_aload_n (pc := 0) C d_Ly_codeCoefficients_0 rfl rfl ?_
  refine sw_get (pc := 1) C inLy 0 rfl rfl 3 (by decide) t_143 rfl rfl d_Ly_codeCoefficients_1 ?_
  refine sw_iconst (pc := 4) C (nI 0) d_Ly_codeCoefficients_4 (by decide) ?_
  refine sw_callSP (pc := 5) C (c_fill l g (A 3) (n * n) cd (nI 0) (by omega)) ss_Ar_fill t_309 [3] rfl rfl rfl rfl (Nat.le_of_ble_eq_true rfl) (Nat.le_of_ble_eq_true rfl) (Nat.le_of_ble_eq_true rfl) (Nat.le_of_ble_eq_true rfl) (Nat.le_of_ble_eq_true rfl) d_Ly_codeCoefficients_5 (fun v w1 hp => ?_)
  obtain ⟨rfl, rfl⟩ := hp
  refine ⟨rfl, ?_⟩
  refine sw_ws (ws' := wLy g A n ce co (fun _ => nI 0) li cm ++ wKw g a z o r l0 (kInit none)) rfl ?_
  refine sw_bipush (pc := 8) C (nI 9) d_Ly_codeCoefficients_8 (by decide) ?_
  refine sw_istore_n (pc := 10) C d_Ly_codeCoefficients_10 rfl (by decide) rfl ?_
  refine sw_arr (f' := (cdV (lyP none n co 0).2.1 (lyP none n co 0).2.2 (10 - 0))) 3 rfl (fun j _ => by simp [cdV, lyP]; intro _; rfl) ?_
  have key : ∀ (d p : Nat) (i0 : Option Value), p + d = sl → SW X g 5 0 0 (wLy g A n ce co (cdV (lyP none n co p).2.1 (lyP none n co p).2.2 (10 - p)) li cm ++ wKw g a z o r l0 (lyP none n co p).1) 11 [some (.ref (A 0)), some (.int (nI sl)), some (.ref a), some (.int (nI 9 - nI p)), i0] [] := by
    intro d
    induction d with
    | zero =>
      intro p i0 hp
      refine sw_iload_n (pc := 11) C d_Ly_codeCoefficients_11 rfl rfl ?_
      refine sw_bipush (pc := 12) C (nI 10) d_Ly_codeCoefficients_12 (by decide) ?_
      refine sw_iload_n (pc := 14) C d_Ly_codeCoefficients_14 rfl rfl ?_
      refine sw_isub (pc := 15) C d_Ly_codeCoefficients_15 ?_
      refine sw_topi (z := nI (10 - sl)) (pk_sub (by omega)) ?_
      refine sw_icmp_lt (pc := 16) C 52 d_Ly_codeCoefficients_16 (by decide) (fun h3 => ?_) (fun h3 => ?_)
      · skip
        have ep : p = sl := by omega
        subst ep
        refine sw_aload_n (pc := 52) C d_Ly_codeCoefficients_52 rfl rfl ?_
        refine sw_get (pc := 53) C inLy 0 rfl rfl 3 (by decide) t_143 rfl rfl d_Ly_codeCoefficients_53 ?_
        refine sw_iconst (pc := 56) C (nI 0) d_Ly_codeCoefficients_56 (by decide) ?_
        refine sw_aload_n (pc := 57) C d_Ly_codeCoefficients_57 rfl rfl ?_
        refine sw_get (pc := 58) C inLy 0 rfl rfl 2 (by decide) t_142 rfl rfl d_Ly_codeCoefficients_58 ?_
        refine sw_iconst (pc := 61) C (nI 0) d_Ly_codeCoefficients_61 (by decide) ?_
        refine sw_aload_n (pc := 62) C d_Ly_codeCoefficients_62 rfl rfl ?_
        refine sw_get (pc := 63) C inLy 0 rfl rfl 3 (by decide) t_143 rfl rfl d_Ly_codeCoefficients_63 ?_
        refine sw_alenI (pc := 66) C 3 rfl d_Ly_codeCoefficients_66 ?_
        refine sw_copyI (pc := 67) C 3 2 t_424 t_426 t_425 t_14 rfl rfl (by decide) (by decide) (nI_pos (by omega)) (by rw [nI_clamp (show n * n < 2 ^ 31 by omega)]; exact Nat.le_of_eq (Nat.zero_add _)) (by rw [nI_clamp (show n * n < 2 ^ 31 by omega)]; exact Nat.le_of_eq (Nat.zero_add _)) (Nat.le_of_ble_eq_true rfl) (Nat.le_of_ble_eq_true rfl) d_Ly_codeCoefficients_67 ?_
        refine sw_arr (f' := (cdV (lyP none n co p).2.1 (lyP none n co p).2.2 (10 - p))) 2 rfl (fun j hj => by rw [nI_clamp (show n * n < 2 ^ 31 by omega)]; exact (pk_cpy_in (sp := 0) (dp := 0) (n := n * n) (Nat.zero_le _) (by omega)).trans (by congr 1; omega)) ?_
        exact sw_vret (pc := 70) C E rfl (Nat.le_of_ble_eq_true rfl) (Nat.le_of_ble_eq_true rfl) d_Ly_codeCoefficients_70 ⟨rfl, rfl⟩
      exact absurd ((pl_cmp sl (by omega) p (by omega)).mpr (by omega)) h3
    | succ d ih =>
      intro p i0 hp
      refine sw_iload_n (pc := 11) C d_Ly_codeCoefficients_11 rfl rfl ?_
      refine sw_bipush (pc := 12) C (nI 10) d_Ly_codeCoefficients_12 (by decide) ?_
      refine sw_iload_n (pc := 14) C d_Ly_codeCoefficients_14 rfl rfl ?_
      refine sw_isub (pc := 15) C d_Ly_codeCoefficients_15 ?_
      refine sw_topi (z := nI (10 - sl)) (pk_sub (by omega)) ?_
      refine sw_icmp_lt (pc := 16) C 52 d_Ly_codeCoefficients_16 (by decide) (fun h3 => ?_) (fun h3 => ?_)
      · skip
        exact absurd ((pl_cmp sl (by omega) p (by omega)).mp h3) (by omega)
      refine sw_iconst (pc := 19) C (nI 0) d_Ly_codeCoefficients_19 (by decide) ?_
      refine sw_istore (pc := 20) C d_Ly_codeCoefficients_20 (by decide) rfl ?_
      have kin : ∀ (d2 i : Nat), i + d2 = n * n → SW X g 5 0 0 (wLy g A n ce co (cdF (lyK none n co (9 - p) (lyP none n co p) i).2.1 (lyK none n co (9 - p) (lyP none n co p) i).2.2 (9 - p) i) li cm ++ wKw g a z o r l0 (lyK none n co (9 - p) (lyP none n co p) i).1) 22 [some (.ref (A 0)), some (.int (nI sl)), some (.ref a), some (.int (nI 9 - nI p)), some (.int (nI i))] [] := by
        intro d2
        induction d2 with
        | zero =>
          intro i hi
          refine sw_iload (pc := 22) C d_Ly_codeCoefficients_22 rfl ?_
          refine sw_aload_n (pc := 24) C d_Ly_codeCoefficients_24 rfl rfl ?_
          refine sw_get (pc := 25) C inLy 0 rfl rfl 3 (by decide) t_143 rfl rfl d_Ly_codeCoefficients_25 ?_
          refine sw_alenI (pc := 28) C 3 rfl d_Ly_codeCoefficients_28 ?_
          refine sw_icmp_geN (pc := 29) C 46 (by omega) (by omega) d_Ly_codeCoefficients_29 (by decide) (fun h4 => ?_) (fun h4 => ?_)
          · skip
            have ei : i = n * n := by omega
            subst ei
            refine sw_iinc (pc := 46) C (-1) d_Ly_codeCoefficients_46 rfl (by decide) (by decide) rfl ?_
            refine sw_L (L' := [some (.ref (A 0)), some (.int (nI sl)), some (.ref a), some (.int (nI 9 - nI (p + 1))), some (.int (nI (n * n)))]) (by show [some (Value.ref (A 0)), some (Value.int (nI sl)), some (Value.ref a), some (Value.int (nI 9 - nI p + (-1))), some (Value.int (nI (n * n)))] = _; rw [pl_step p (by omega)]) ?_
            refine sw_goto (pc := 49) C 11 d_Ly_codeCoefficients_49 (by decide) ?_
            refine sw_arr (f' := (cdV (lyP none n co (p + 1)).2.1 (lyP none n co (p + 1)).2.2 (10 - (p + 1)))) 3 rfl (fun j hj => by show cdV _ _ (if j < n * n then 9 - p else 9 - p + 1) j = _; rw [if_pos hj, show 10 - (p + 1) = 9 - p by omega]; rfl) ?_
            exact ih (p + 1) _ (by omega)
          omega
        | succ d2 ih2 =>
          intro i hi
          refine sw_iload (pc := 22) C d_Ly_codeCoefficients_22 rfl ?_
          refine sw_aload_n (pc := 24) C d_Ly_codeCoefficients_24 rfl rfl ?_
          refine sw_get (pc := 25) C inLy 0 rfl rfl 3 (by decide) t_143 rfl rfl d_Ly_codeCoefficients_25 ?_
          refine sw_alenI (pc := 28) C 3 rfl d_Ly_codeCoefficients_28 ?_
          refine sw_icmp_geN (pc := 29) C 46 (by omega) (by omega) d_Ly_codeCoefficients_29 (by decide) (fun h4 => ?_) (fun h4 => ?_)
          · skip
            omega
          have hJ := lyK_inv (md := none) (n := n) (cf := co) (b := 9 - p) (lyP_inv (md := none) (n := n) (cf := co) (fun D h => by cases h) p) i (by omega)
          have hQ := lyK_J (md := none) (lyP_J (md := none) (n := n) (cf := co) p (by omega)) i (by omega)
          have hcn := cntB_le (lyK none n co (9 - p) (lyP none n co p) i).2.1 (n * n)
          have htl := t_le (p := p) (i := i) (N := n * n) (by omega) h4
          have hsc := hJ.2.2
          refine sw_aload_n (pc := 32) C d_Ly_codeCoefficients_32 rfl rfl ?_
          refine sw_iload_n (pc := 33) C d_Ly_codeCoefficients_33 rfl rfl ?_
          refine sw_topi (z := nI (9 - p)) (pk_sub (by omega)) ?_
          refine sw_iload (pc := 34) C d_Ly_codeCoefficients_34 rfl ?_
          refine sw_aload_n (pc := 36) C d_Ly_codeCoefficients_36 rfl rfl ?_
          refine sw_callVP (pc := 37) C (c_cpb_w l g A n ce co li cm hn a z o r l0 (lyK none n co (9 - p) (lyP none n co p) i).1 (lyK none n co (9 - p) (lyP none n co p) i).2.1 (lyK none n co (9 - p) (lyP none n co p) i).2.2 (9 - p) i (by omega) h4 hQ.1 (hQ.2 i) hJ.1 h1 (by omega)) sv_Ly_codePlaneBit t_435 rfl rfl rfl [0, 1, 2, 3, 4, 5, 6, 7, 8] rfl rfl rfl rfl (Nat.le_of_ble_eq_true rfl) (Nat.le_of_ble_eq_true rfl) (Nat.le_of_ble_eq_true rfl) (Nat.le_of_ble_eq_true rfl) (Nat.le_of_ble_eq_true rfl) d_Ly_codeCoefficients_37 (fun v w1 hp => ?_)
          obtain ⟨rfl, rfl⟩ := hp
          refine ⟨rfl, ?_⟩
          refine sw_ws (ws' := wLy g A n ce co (cdF (lyK none n co (9 - p) (lyP none n co p) (i + 1)).2.1 (lyK none n co (9 - p) (lyP none n co p) (i + 1)).2.2 (9 - p) (i + 1)) li cm ++ wKw g a z o r l0 (lyK none n co (9 - p) (lyP none n co p) (i + 1)).1) rfl ?_
          refine sw_iincN (pc := 40) C 1 d_Ly_codeCoefficients_40 rfl (by decide) (by decide) rfl ?_
          refine sw_goto (pc := 43) C 22 d_Ly_codeCoefficients_43 (by decide) ?_
          exact ih2 (i + 1) (by omega)
      have k0 := kin (n * n) 0 (by omega)
      rw [cdF_0, show 9 - p + 1 = 10 - p by omega] at k0
      exact k0
  exact key sl 0 _ (by omega)
set_option maxRecDepth 100000 in
set_option maxHeartbeats 4000000 in
theorem c_ccf_r (l : Launch) (g : Gl) (A : Nat → Nat) (n : Nat) (ce co cd li : Nat → Int32) (cm : Bool) (hn : n = 4 ∨ n = 8) (a z o r : Nat) (l0 : List Nat) (fr en : Nat) (sl : Nat) (hsl : sl ≤ 10) (hfe : fr ≤ en) (hen : en ≤ 1200) (hl : ∀ k, l0.getD k 0 < 256) : Ct l g y_Ly_codeCoefficients b_Ly_codeCoefficients 5 none (rmD 3) [.ref (A 0), .int (nI sl), .ref a] (wLy g A n ce co cd li cm ++ wKr g a z o r l0 fr en (kInit (some (dgt l0 fr en)))) (fun u w => u = none ∧ w = wLy g A n ce (cdV (lyP (some (dgt l0 fr en)) n co sl).2.1 (lyP (some (dgt l0 fr en)) n co sl).2.2 (10 - sl)) (cdV (lyP (some (dgt l0 fr en)) n co sl).2.1 (lyP (some (dgt l0 fr en)) n co sl).2.2 (10 - sl)) li cm ++ wKr g a z o r l0 fr en (lyP (some (dgt l0 fr en)) n co sl).1) := by
  refine ct_of [some (.ref (A 0)), some (.int (nI sl)), some (.ref a), none, none] (by decide) (Nat.le_of_ble_eq_true rfl) rfl ?_
  intro X C E
  obtain ⟨hnn, hn4, hn8⟩ := nn_le hn
  refine sw_aload_n (pc := 0) C d_Ly_codeCoefficients_0 rfl rfl ?_
  refine sw_get (pc := 1) C inLy 0 rfl rfl 3 (by decide) t_143 rfl rfl d_Ly_codeCoefficients_1 ?_
  refine sw_iconst (pc := 4) C (nI 0) d_Ly_codeCoefficients_4 (by decide) ?_
  refine sw_callSP (pc := 5) C (c_fill l g (A 3) (n * n) cd (nI 0) (by omega)) ss_Ar_fill t_309 [3] rfl rfl rfl rfl (Nat.le_of_ble_eq_true rfl) (Nat.le_of_ble_eq_true rfl) (Nat.le_of_ble_eq_true rfl) (Nat.le_of_ble_eq_true rfl) (Nat.le_of_ble_eq_true rfl) d_Ly_codeCoefficients_5 (fun v w1 hp => ?_)
  obtain ⟨rfl, rfl⟩ := hp
  refine ⟨rfl, ?_⟩
  refine sw_ws (ws' := wLy g A n ce co (fun _ => nI 0) li cm ++ wKr g a z o r l0 fr en (kInit (some (dgt l0 fr en)))) rfl ?_
  refine sw_bipush (pc := 8) C (nI 9) d_Ly_codeCoefficients_8 (by decide) ?_
  refine sw_istore_n (pc := 10) C d_Ly_codeCoefficients_10 rfl (by decide) rfl ?_
  refine sw_arr (f' := (cdV (lyP (some (dgt l0 fr en)) n co 0).2.1 (lyP (some (dgt l0 fr en)) n co 0).2.2 (10 - 0))) 3 rfl (fun j _ => by simp [cdV, lyP]; intro _; rfl) ?_
  have key : ∀ (d p : Nat) (i0 : Option Value), p + d = sl → SW X g 5 0 0 (wLy g A n ce co (cdV (lyP (some (dgt l0 fr en)) n co p).2.1 (lyP (some (dgt l0 fr en)) n co p).2.2 (10 - p)) li cm ++ wKr g a z o r l0 fr en (lyP (some (dgt l0 fr en)) n co p).1) 11 [some (.ref (A 0)), some (.int (nI sl)), some (.ref a), some (.int (nI 9 - nI p)), i0] [] := by
    intro d
    induction d with
    | zero =>
      intro p i0 hp
      refine sw_iload_n (pc := 11) C d_Ly_codeCoefficients_11 rfl rfl ?_
      refine sw_bipush (pc := 12) C (nI 10) d_Ly_codeCoefficients_12 (by decide) ?_
      refine sw_iload_n (pc := 14) C d_Ly_codeCoefficients_14 rfl rfl ?_
      refine sw_isub (pc := 15) C d_Ly_codeCoefficients_15 ?_
      refine sw_topi (z := nI (10 - sl)) (pk_sub (by omega)) ?_
      refine sw_icmp_lt (pc := 16) C 52 d_Ly_codeCoefficients_16 (by decide) (fun h3 => ?_) (fun h3 => ?_)
      · skip
        have ep : p = sl := by omega
        subst ep
        refine sw_aload_n (pc := 52) C d_Ly_codeCoefficients_52 rfl rfl ?_
        refine sw_get (pc := 53) C inLy 0 rfl rfl 3 (by decide) t_143 rfl rfl d_Ly_codeCoefficients_53 ?_
        refine sw_iconst (pc := 56) C (nI 0) d_Ly_codeCoefficients_56 (by decide) ?_
        refine sw_aload_n (pc := 57) C d_Ly_codeCoefficients_57 rfl rfl ?_
        refine sw_get (pc := 58) C inLy 0 rfl rfl 2 (by decide) t_142 rfl rfl d_Ly_codeCoefficients_58 ?_
        refine sw_iconst (pc := 61) C (nI 0) d_Ly_codeCoefficients_61 (by decide) ?_
        refine sw_aload_n (pc := 62) C d_Ly_codeCoefficients_62 rfl rfl ?_
        refine sw_get (pc := 63) C inLy 0 rfl rfl 3 (by decide) t_143 rfl rfl d_Ly_codeCoefficients_63 ?_
        refine sw_alenI (pc := 66) C 3 rfl d_Ly_codeCoefficients_66 ?_
        refine sw_copyI (pc := 67) C 3 2 t_424 t_426 t_425 t_14 rfl rfl (by decide) (by decide) (nI_pos (by omega)) (by rw [nI_clamp (show n * n < 2 ^ 31 by omega)]; exact Nat.le_of_eq (Nat.zero_add _)) (by rw [nI_clamp (show n * n < 2 ^ 31 by omega)]; exact Nat.le_of_eq (Nat.zero_add _)) (Nat.le_of_ble_eq_true rfl) (Nat.le_of_ble_eq_true rfl) d_Ly_codeCoefficients_67 ?_
        refine sw_arr (f' := (cdV (lyP (some (dgt l0 fr en)) n co p).2.1 (lyP (some (dgt l0 fr en)) n co p).2.2 (10 - p))) 2 rfl (fun j hj => by rw [nI_clamp (show n * n < 2 ^ 31 by omega)]; exact (pk_cpy_in (sp := 0) (dp := 0) (n := n * n) (Nat.zero_le _) (by omega)).trans (by congr 1; omega)) ?_
        exact sw_vret (pc := 70) C E rfl (Nat.le_of_ble_eq_true rfl) (Nat.le_of_ble_eq_true rfl) d_Ly_codeCoefficients_70 ⟨rfl, rfl⟩
      exact absurd ((pl_cmp sl (by omega) p (by omega)).mpr (by omega)) h3
    | succ d ih =>
      intro p i0 hp
      refine sw_iload_n (pc := 11) C d_Ly_codeCoefficients_11 rfl rfl ?_
      refine sw_bipush (pc := 12) C (nI 10) d_Ly_codeCoefficients_12 (by decide) ?_
      refine sw_iload_n (pc := 14) C d_Ly_codeCoefficients_14 rfl rfl ?_
      refine sw_isub (pc := 15) C d_Ly_codeCoefficients_15 ?_
      refine sw_topi (z := nI (10 - sl)) (pk_sub (by omega)) ?_
      refine sw_icmp_lt (pc := 16) C 52 d_Ly_codeCoefficients_16 (by decide) (fun h3 => ?_) (fun h3 => ?_)
      · skip
        exact absurd ((pl_cmp sl (by omega) p (by omega)).mp h3) (by omega)
      refine sw_iconst (pc := 19) C (nI 0) d_Ly_codeCoefficients_19 (by decide) ?_
      refine sw_istore (pc := 20) C d_Ly_codeCoefficients_20 (by decide) rfl ?_
      have kin : ∀ (d2 i : Nat), i + d2 = n * n → SW X g 5 0 0 (wLy g A n ce co (cdF (lyK (some (dgt l0 fr en)) n co (9 - p) (lyP (some (dgt l0 fr en)) n co p) i).2.1 (lyK (some (dgt l0 fr en)) n co (9 - p) (lyP (some (dgt l0 fr en)) n co p) i).2.2 (9 - p) i) li cm ++ wKr g a z o r l0 fr en (lyK (some (dgt l0 fr en)) n co (9 - p) (lyP (some (dgt l0 fr en)) n co p) i).1) 22 [some (.ref (A 0)), some (.int (nI sl)), some (.ref a), some (.int (nI 9 - nI p)), some (.int (nI i))] [] := by
        intro d2
        induction d2 with
        | zero =>
          intro i hi
          refine sw_iload (pc := 22) C d_Ly_codeCoefficients_22 rfl ?_
          refine sw_aload_n (pc := 24) C d_Ly_codeCoefficients_24 rfl rfl ?_
          refine sw_get (pc := 25) C inLy 0 rfl rfl 3 (by decide) t_143 rfl rfl d_Ly_codeCoefficients_25 ?_
          refine sw_alenI (pc := 28) C 3 rfl d_Ly_codeCoefficients_28 ?_
          refine sw_icmp_geN (pc := 29) C 46 (by omega) (by omega) d_Ly_codeCoefficients_29 (by decide) (fun h4 => ?_) (fun h4 => ?_)
          · skip
            have ei : i = n * n := by omega
            subst ei
            refine sw_iinc (pc := 46) C (-1) d_Ly_codeCoefficients_46 rfl (by decide) (by decide) rfl ?_
            refine sw_L (L' := [some (.ref (A 0)), some (.int (nI sl)), some (.ref a), some (.int (nI 9 - nI (p + 1))), some (.int (nI (n * n)))]) (by show [some (Value.ref (A 0)), some (Value.int (nI sl)), some (Value.ref a), some (Value.int (nI 9 - nI p + (-1))), some (Value.int (nI (n * n)))] = _; rw [pl_step p (by omega)]) ?_
            refine sw_goto (pc := 49) C 11 d_Ly_codeCoefficients_49 (by decide) ?_
            refine sw_arr (f' := (cdV (lyP (some (dgt l0 fr en)) n co (p + 1)).2.1 (lyP (some (dgt l0 fr en)) n co (p + 1)).2.2 (10 - (p + 1)))) 3 rfl (fun j hj => by show cdV _ _ (if j < n * n then 9 - p else 9 - p + 1) j = _; rw [if_pos hj, show 10 - (p + 1) = 9 - p by omega]; rfl) ?_
            exact ih (p + 1) _ (by omega)
          omega
        | succ d2 ih2 =>
          intro i hi
          refine sw_iload (pc := 22) C d_Ly_codeCoefficients_22 rfl ?_
          refine sw_aload_n (pc := 24) C d_Ly_codeCoefficients_24 rfl rfl ?_
          refine sw_get (pc := 25) C inLy 0 rfl rfl 3 (by decide) t_143 rfl rfl d_Ly_codeCoefficients_25 ?_
          refine sw_alenI (pc := 28) C 3 rfl d_Ly_codeCoefficients_28 ?_
          refine sw_icmp_geN (pc := 29) C 46 (by omega) (by omega) d_Ly_codeCoefficients_29 (by decide) (fun h4 => ?_) (fun h4 => ?_)
          · skip
            omega
          have hJ := lyK_inv (md := (some (dgt l0 fr en))) (n := n) (cf := co) (b := 9 - p) (lyP_inv (md := (some (dgt l0 fr en))) (n := n) (cf := co) (fun D h => by cases h; exact dgt_le l0 fr en) p) i (by omega)
          have hQ := lyK_J (md := (some (dgt l0 fr en))) (lyP_J (md := (some (dgt l0 fr en))) (n := n) (cf := co) p (by omega)) i (by omega)
          have hcn := cntB_le (lyK (some (dgt l0 fr en)) n co (9 - p) (lyP (some (dgt l0 fr en)) n co p) i).2.1 (n * n)
          have htl := t_le (p := p) (i := i) (N := n * n) (by omega) h4
          have hsc := hJ.2.2
          refine sw_aload_n (pc := 32) C d_Ly_codeCoefficients_32 rfl rfl ?_
          refine sw_iload_n (pc := 33) C d_Ly_codeCoefficients_33 rfl rfl ?_
          refine sw_topi (z := nI (9 - p)) (pk_sub (by omega)) ?_
          refine sw_iload (pc := 34) C d_Ly_codeCoefficients_34 rfl ?_
          refine sw_aload_n (pc := 36) C d_Ly_codeCoefficients_36 rfl rfl ?_
          refine sw_callVP (pc := 37) C (c_cpb_r l g A n ce co li cm hn a z o r l0 fr en (lyK (some (dgt l0 fr en)) n co (9 - p) (lyP (some (dgt l0 fr en)) n co p) i).1 (lyK (some (dgt l0 fr en)) n co (9 - p) (lyP (some (dgt l0 fr en)) n co p) i).2.1 (lyK (some (dgt l0 fr en)) n co (9 - p) (lyP (some (dgt l0 fr en)) n co p) i).2.2 (9 - p) i (by omega) h4 hQ.1 (hQ.2 i) hJ.1 hJ.2.1.2 hfe hen hl) sv_Ly_codePlaneBit t_435 rfl rfl rfl [0, 1, 2, 3, 4, 5, 6, 7, 8] rfl rfl rfl rfl (Nat.le_of_ble_eq_true rfl) (Nat.le_of_ble_eq_true rfl) (Nat.le_of_ble_eq_true rfl) (Nat.le_of_ble_eq_true rfl) (Nat.le_of_ble_eq_true rfl) d_Ly_codeCoefficients_37 (fun v w1 hp => ?_)
          obtain ⟨rfl, rfl⟩ := hp
          refine ⟨rfl, ?_⟩
          refine sw_ws (ws' := wLy g A n ce co (cdF (lyK (some (dgt l0 fr en)) n co (9 - p) (lyP (some (dgt l0 fr en)) n co p) (i + 1)).2.1 (lyK (some (dgt l0 fr en)) n co (9 - p) (lyP (some (dgt l0 fr en)) n co p) (i + 1)).2.2 (9 - p) (i + 1)) li cm ++ wKr g a z o r l0 fr en (lyK (some (dgt l0 fr en)) n co (9 - p) (lyP (some (dgt l0 fr en)) n co p) (i + 1)).1) rfl ?_
          refine sw_iincN (pc := 40) C 1 d_Ly_codeCoefficients_40 rfl (by decide) (by decide) rfl ?_
          refine sw_goto (pc := 43) C 22 d_Ly_codeCoefficients_43 (by decide) ?_
          exact ih2 (i + 1) (by omega)
      have k0 := kin (n * n) 0 (by omega)
      rw [cdF_0, show 9 - p + 1 = 10 - p by omega] at k0
      exact k0
  exact key sl 0 _ (by omega)
