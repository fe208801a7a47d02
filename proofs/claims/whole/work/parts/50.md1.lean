/-! the reference: LayeredPageModel -/
abbrev mdC (R : Nat → Nat) (dn pl ln ss pt : Nat) (th rd : Bool) (wd sc : Nat) : Nat × va_E := (R 0, .inr (9, [.ref (R 1), .ref (R 2), .ref (R 3), .ref (R 4), .int (nI dn), .ref (R 5), .ref (R 6), .int (nI pl), .ref (R 7), .ref (R 8), .int (nI ln), .int (bI th), .ref (R 9), .int (nI ss), .ref (R 10), .ref (R 11), .int (nI pt), .ref (R 12), .ref (R 13), .int (bI rd), .ref (R 14), .ref (R 15), .int (nI wd), .int (nI sc), .ref (R 16), .ref (R 17), .ref (R 18), .ref (R 19), .ref (R 20), .ref (R 21)]))
abbrev laC (g : Gl) (a n : Nat) (f : Nat → Int64) : Nat × va_E := (a, .inl (g.2.2.1, n, .inr (.inl f)))
abbrev zaC (g : Gl) (a n : Nat) (f : Nat → Int32) : Nat × va_E := (a, .inl (g.2.2.2.1, n, .inl f))
def outB (x m : Int32) : Bool := decide (x < 0) || decide (m < x)
theorem outB_n {n : Nat} (x : Int32) (hn : n + 1 < 2 ^ 31) : outB x (nI n) = !(inR (n + 1) x) := by
  unfold outB
  by_cases h : x < 0
  · rw [inR_lo h, decide_eq_true h]; rfl
  · rw [decide_eq_false h]
    by_cases h2 : nI n < x
    · rw [inR_gt h2 hn, decide_eq_true h2]; rfl
    · obtain ⟨j, hj, rfl⟩ := i32_natle h h2 (by omega)
      rw [inR_in (by omega) hn, decide_eq_false h2]; rfl
theorem outB_p {n : Nat} (x : Int32) (hn : n < 2 ^ 31) : outB x (nI n - nI 1) = !(inR n x) := by
  cases n with
  | zero =>
    have e : nI 0 - nI 1 = -1 := by decide
    rw [e]
    unfold outB
    by_cases h : x < 0
    · rw [inR_lo h, decide_eq_true h]; rfl
    · have h2 : (-1 : Int32) < x := by
        have h3 := Int32.not_lt.mp h
        exact Int32.lt_of_lt_of_le (by decide) h3
      rw [inR_hi (n := 0) (Int32.not_lt.mp h), decide_eq_true h2, Bool.or_true]; rfl
  | succ n =>
    rw [pk_sub (by omega), show n + 1 - 1 = n by omega]
    exact outB_n x hn
set_option maxRecDepth 100000 in
set_option maxHeartbeats 4000000 in
theorem c_Md_out (l : Launch) (g : Gl) (x m : Int32) : Ct l g y_Md_outside b_Md_outside 2 (some .boolean) (rmD 0) [.int x, .int m] ([]) (fun u w => u = some (.int (bI (outB x m))) ∧ w = []) := by
  refine ct_of [some (.int x), some (.int m)] (by decide) (Nat.le_of_ble_eq_true rfl) rfl ?_
  intro X C E
  refine sw_iload_n (pc := 0) C d_Md_outside_0 rfl rfl ?_
  refine sw_if_lt (pc := 1) C 9 d_Md_outside_1 (by decide) (fun h1 => ?_) (fun h1 => ?_)
  · skip
    refine sw_iconst (pc := 9) C (nI 1) d_Md_outside_9 (by decide) ?_
    refine sw_goto (pc := 10) C 14 d_Md_outside_10 (by decide) ?_
    refine sw_topi (z := bI (outB x m)) (by unfold outB; rw [decide_eq_true h1]; rfl) ?_
    exact sw_zret (pc := 14) C E rfl (bI_nar _) (Nat.le_of_ble_eq_true rfl) (Nat.le_of_ble_eq_true rfl) d_Md_outside_14 ⟨rfl, rfl⟩
  refine sw_iload_n (pc := 4) C d_Md_outside_4 rfl rfl ?_
  refine sw_iload_n (pc := 5) C d_Md_outside_5 rfl rfl ?_
  refine sw_icmp_le (pc := 6) C 13 d_Md_outside_6 (by decide) (fun h2 => ?_) (fun h2 => ?_)
  · skip
    refine sw_iconst (pc := 13) C (nI 0) d_Md_outside_13 (by decide) ?_
    refine sw_topi (z := bI (outB x m)) (by unfold outB; rw [decide_eq_false h1, decide_eq_false (Int32.not_lt.mpr h2)]; rfl) ?_
    exact sw_zret (pc := 14) C E rfl (bI_nar _) (Nat.le_of_ble_eq_true rfl) (Nat.le_of_ble_eq_true rfl) d_Md_outside_14 ⟨rfl, rfl⟩
  refine sw_iconst (pc := 9) C (nI 1) d_Md_outside_9 (by decide) ?_
  refine sw_goto (pc := 10) C 14 d_Md_outside_10 (by decide) ?_
  refine sw_topi (z := bI (outB x m)) (by unfold outB; rw [decide_eq_true (Int32.not_le.mp h2), Bool.or_true]; rfl) ?_
  exact sw_zret (pc := 14) C E rfl (bI_nar _) (Nat.le_of_ble_eq_true rfl) (Nat.le_of_ble_eq_true rfl) d_Md_outside_14 ⟨rfl, rfl⟩
theorem nR_t {n : Nat} {x : Int32} (h : (!(inR n x)) = true) : inR n x = false := by
  cases e : inR n x
  · rfl
  · rw [e] at h; cases h
theorem nR_f {n : Nat} {x : Int32} (h : (!(inR n x)) = false) : inR n x = true := by
  cases e : inR n x
  · rw [e] at h; cases h
  · rfl
theorem sb_no {n w h : Nat} {x y : Int32} (hw : w < 2 ^ 31) (hh : h < 2 ^ 31) (e : inR w x = false ∨ inR h y = false) : sb n w h x.toInt y.toInt = 0 := by
  have key : ∀ {k : Nat} {z : Int32}, k < 2 ^ 31 → inR k z = false → z < 0 ∨ nI k ≤ z := by
    intro k z hk hz
    by_cases h0 : z < 0
    · exact Or.inl h0
    · refine Or.inr (Int32.not_lt.mp (fun q => ?_))
      have : inR k z = true := decide_eq_true ⟨Int32.not_lt.mp h0, q⟩
      rw [hz] at this
      cases this
  rcases e with e | e
  · rcases key hw e with q | q
    · exact sb_xlo q
    · exact sb_xhi hw q
  · rcases key hh e with q | q
    · exact sb_ylo q
    · exact sb_yhi hh q
set_option maxRecDepth 100000 in
set_option maxHeartbeats 4000000 in
theorem c_Md_at (l : Launch) (g : Gl) (n : Nat) (hn : n < 2 ^ 64) (x y : Int32) : Ct l g y_Md_at b_Md_at 4 (some .int) (rmD 1) [.long (lN n), .int x, .int y] ([]) (fun u w => u = some (.int (nI (sb n 8 8 x.toInt y.toInt))) ∧ w = []) := by
  refine ct_of [some (.long (lN n)), none, some (.int x), some (.int y)] (by decide) (Nat.le_of_ble_eq_true rfl) rfl ?_
  intro X C E
  refine sw_iload_n (pc := 0) C d_Md_at_0 rfl rfl ?_
  refine sw_bipush (pc := 1) C (nI 7) d_Md_at_1 (by decide) ?_
  refine sw_callSR (pc := 3) C (c_Md_out l g (x) (nI 7)) ss_Md_outside t_669 [] rfl rfl rfl rfl (Nat.le_of_ble_eq_true rfl) (Nat.le_of_ble_eq_true rfl) (Nat.le_of_ble_eq_true rfl) (Nat.le_of_ble_eq_true rfl) (Nat.le_of_ble_eq_true rfl) d_Md_at_3 (fun v w1 hp => ?_)
  obtain ⟨rfl, rfl⟩ := hp
  refine ⟨rfl, ?_⟩
  refine sw_topi (z := bI (!(inR 8 (x)))) (by rw [outB_n _ (by decide)]) ?_
  refine sw_if_neB (pc := 6) C 18 d_Md_at_6 (by decide) (fun h1 => ?_) (fun h1 => ?_)
  · skip
    refine sw_iconst (pc := 18) C (nI 0) d_Md_at_18 (by decide) ?_
    refine sw_goto (pc := 19) C 33 d_Md_at_19 (by decide) ?_
    exact sw_iret (pc := 33) C E rfl (Nat.le_of_ble_eq_true rfl) (Nat.le_of_ble_eq_true rfl) d_Md_at_33 ⟨by rw [sb_no (by decide) (by decide) (Or.inl (nR_t h1))], rfl⟩
  refine sw_iload_n (pc := 9) C d_Md_at_9 rfl rfl ?_
  refine sw_bipush (pc := 10) C (nI 7) d_Md_at_10 (by decide) ?_
  refine sw_callSR (pc := 12) C (c_Md_out l g (y) (nI 7)) ss_Md_outside t_669 [] rfl rfl rfl rfl (Nat.le_of_ble_eq_true rfl) (Nat.le_of_ble_eq_true rfl) (Nat.le_of_ble_eq_true rfl) (Nat.le_of_ble_eq_true rfl) (Nat.le_of_ble_eq_true rfl) d_Md_at_12 (fun v w1 hp => ?_)
  obtain ⟨rfl, rfl⟩ := hp
  refine ⟨rfl, ?_⟩
  refine sw_topi (z := bI (!(inR 8 (y)))) (by rw [outB_n _ (by decide)]) ?_
  refine sw_if_eqB (pc := 15) C 22 d_Md_at_15 (by decide) (fun h2 => ?_) (fun h2 => ?_)
  · skip
    obtain ⟨i, hi, rfl⟩ := inR_of (by decide) (nR_f h1)
    obtain ⟨j, hj, rfl⟩ := inR_of (by decide) (nR_f h2)
    refine sw_lload_n (pc := 22) C d_Md_at_22 rfl rfl ?_
    refine sw_bipush (pc := 23) C (nI 8) d_Md_at_23 (by decide) ?_
    refine sw_iload_n (pc := 25) C d_Md_at_25 rfl rfl ?_
    refine sw_imul (pc := 26) C d_Md_at_26 ?_
    refine sw_topi (z := nI (8 * j)) (pk_mul _ _) ?_
    refine sw_iload_n (pc := 27) C d_Md_at_27 rfl rfl ?_
    refine sw_iadd (pc := 28) C d_Md_at_28 ?_
    refine sw_topi (z := nI ((8 * j) + i)) (nI_add _ _) ?_
    refine sw_lushr (pc := 29) C d_Md_at_29 ?_
    refine sw_topl (z := lN (n / 2 ^ (8 * j + i))) (wb_shr hn (by omega)) ?_
    refine sw_lconst (pc := 30) C 1 d_Md_at_30 (by decide) ?_
    refine sw_land (pc := 31) C d_Md_at_31 ?_
    refine sw_topl (z := lN (n / 2 ^ (8 * j + i) % 2)) (wb_a1 (Nat.lt_of_le_of_lt (Nat.div_le_self _ _) hn)) ?_
    refine sw_l2i (pc := 32) C d_Md_at_32 ?_
    refine sw_topi (z := nI (n / 2 ^ (8 * j + i) % 2)) (lN_i _) ?_
    exact sw_iret (pc := 33) C E rfl (Nat.le_of_ble_eq_true rfl) (Nat.le_of_ble_eq_true rfl) d_Md_at_33 ⟨by rw [nI_toInt (by omega), nI_toInt (by omega), sb_in hi hj], rfl⟩
  refine sw_iconst (pc := 18) C (nI 0) d_Md_at_18 (by decide) ?_
  refine sw_goto (pc := 19) C 33 d_Md_at_19 (by decide) ?_
  exact sw_iret (pc := 33) C E rfl (Nat.le_of_ble_eq_true rfl) (Nat.le_of_ble_eq_true rfl) d_Md_at_33 ⟨by rw [sb_no (by decide) (by decide) (Or.inr (nR_t h2))], rfl⟩
def sdN (k : Int32) : Nat := if k = 0 then 8 else 4
set_option maxRecDepth 100000 in
set_option maxHeartbeats 4000000 in
theorem c_Md_side (l : Launch) (g : Gl) (k : Int32) : Ct l g y_Md_side b_Md_side 1 (some .int) (rmD 0) [.int k] ([]) (fun u w => u = some (.int (nI (sdN k))) ∧ w = []) := by
  refine ct_of [some (.int k)] (by decide) (Nat.le_of_ble_eq_true rfl) rfl ?_
  intro X C E
  refine sw_iload_n (pc := 0) C d_Md_side_0 rfl rfl ?_
  refine sw_if_ne (pc := 1) C 9 d_Md_side_1 (by decide) (fun h1 => ?_) (fun h1 => ?_)
  · skip
    refine sw_iconst (pc := 9) C (nI 4) d_Md_side_9 (by decide) ?_
    exact sw_iret (pc := 10) C E rfl (Nat.le_of_ble_eq_true rfl) (Nat.le_of_ble_eq_true rfl) d_Md_side_10 ⟨by unfold sdN; rw [if_neg h1], rfl⟩
  refine sw_bipush (pc := 4) C (nI 8) d_Md_side_4 (by decide) ?_
  refine sw_goto (pc := 6) C 10 d_Md_side_6 (by decide) ?_
  exact sw_iret (pc := 10) C E rfl (Nat.le_of_ble_eq_true rfl) (Nat.le_of_ble_eq_true rfl) d_Md_side_10 ⟨by unfold sdN; rw [if_pos h1], rfl⟩
set_option maxRecDepth 100000 in
set_option maxHeartbeats 4000000 in
theorem c_Md_half (l : Launch) (g : Gl) (x : Int32) : Ct l g y_Md_half b_Md_half 1 (some .int) (rmD 0) [.int x] ([]) (fun u w => u = some (.int (x >>> (nI 1 &&& 31))) ∧ w = []) := by
  refine ct_of [some (.int x)] (by decide) (Nat.le_of_ble_eq_true rfl) rfl ?_
  intro X C E
  refine sw_iload_n (pc := 0) C d_Md_half_0 rfl rfl ?_
  refine sw_iconst (pc := 1) C (nI 1) d_Md_half_1 (by decide) ?_
  refine sw_ishr (pc := 2) C d_Md_half_2 ?_
  exact sw_iret (pc := 3) C E rfl (Nat.le_of_ble_eq_true rfl) (Nat.le_of_ble_eq_true rfl) d_Md_half_3 ⟨rfl, rfl⟩
set_option maxRecDepth 100000 in
set_option maxHeartbeats 4000000 in
theorem c_Md_begin (l : Launch) (g : Gl) (R : Nat → Nat) (dn pl ln ss pt : Nat) (th rd : Bool) (wd sc : Nat) (q : Bool) (z o d : Nat → Int32) : Ct l g y_Md_begin b_Md_begin 3 none (rmD 0) [.ref (R 0), .int (bI q)] ([mdC R dn pl ln ss pt th rd wd sc, iaC g (R 14) 48 z, iaC g (R 15) 48 o, iaC g (R 16) 4400 d]) (fun u w => u = none ∧ w = [mdC R dn pl ln ss pt th q 65536 0, iaC g (R 14) 48 (nF (fun _ => 1)), iaC g (R 15) 48 (nF (fun _ => 1)), iaC g (R 16) 4400 (nF (fun _ => 0))]) := by
  refine ct_of [some (.ref (R 0)), some (.int (bI q)), none] (by decide) (Nat.le_of_ble_eq_true rfl) rfl ?_
  intro X C E
  have key2 : ∀ (nn i : Nat) (f : Nat → Int32), i + nn = 4400 → (∀ j, j < i → f j = nI 0) → SW X g 3 0 0 ([mdC R dn pl ln ss pt th q 65536 0, iaC g (R 14) 48 (nF (fun _ => 1)), iaC g (R 15) 48 (nF (fun _ => 1)), iaC g (R 16) 4400 f]) 46 [some (.ref (R 0)), some (.int (bI q)), some (.int (nI i))] [] := by
    intro nn
    induction nn with
    | zero =>
      intro i f hi hf
      refine sw_iload_n (pc := 46) C d_Md_begin_46 rfl rfl ?_
      refine sw_sipush (pc := 47) C (nI 4400) d_Md_begin_47 (by decide) ?_
      refine sw_icmp_geN (pc := 50) C 66 (by omega) (by omega) d_Md_begin_50 (by decide) (fun hx => ?_) (fun hx => ?_)
      · skip
        refine sw_arr (f' := nF (fun _ => 0)) 3 rfl (fun j hj => hf j (by omega)) ?_
        exact sw_vret (pc := 66) C E rfl (Nat.le_of_ble_eq_true rfl) (Nat.le_of_ble_eq_true rfl) d_Md_begin_66 ⟨rfl, rfl⟩
      omega
    | succ nn ih =>
      intro i f hi hf
      refine sw_iload_n (pc := 46) C d_Md_begin_46 rfl rfl ?_
      refine sw_sipush (pc := 47) C (nI 4400) d_Md_begin_47 (by decide) ?_
      refine sw_icmp_geN (pc := 50) C 66 (by omega) (by omega) d_Md_begin_50 (by decide) (fun hx => ?_) (fun hx => ?_)
      · skip
        omega
      refine sw_aload_n (pc := 53) C d_Md_begin_53 rfl rfl ?_
      refine sw_get (pc := 54) C inMd 0 rfl rfl 24 (by decide) t_596 rfl rfl d_Md_begin_54 ?_
      refine sw_iload_n (pc := 57) C d_Md_begin_57 rfl rfl ?_
      refine sw_iconst (pc := 58) C (nI 0) d_Md_begin_58 (by decide) ?_
      refine sw_iastN (pc := 59) C 3 i rfl rfl (by omega) (by decide) d_Md_begin_59 ?_
      refine sw_iincN (pc := 60) C 1 d_Md_begin_60 rfl (by decide) (by decide) rfl ?_
      refine sw_goto (pc := 63) C 46 d_Md_begin_63 (by decide) ?_
      refine ih (i + 1) (upd f i (nI 0)) (by omega) (fun j hj => ?_)
      unfold upd
      by_cases e : j = i
      · rw [if_pos e]
      · rw [if_neg e]; exact hf j (by omega)
  have key1 : ∀ (nn i : Nat) (f h : Nat → Int32), i + nn = 48 → (∀ j, j < i → f j = nI 1 ∧ h j = nI 1) → SW X g 3 0 0 ([mdC R dn pl ln ss pt th q 65536 0, iaC g (R 14) 48 f, iaC g (R 15) 48 h, iaC g (R 16) 4400 d]) 18 [some (.ref (R 0)), some (.int (bI q)), some (.int (nI i))] [] := by
    intro nn
    induction nn with
    | zero =>
      intro i f h hi hf
      refine sw_iload_n (pc := 18) C d_Md_begin_18 rfl rfl ?_
      refine sw_bipush (pc := 19) C (nI 48) d_Md_begin_19 (by decide) ?_
      refine sw_icmp_geN (pc := 21) C 44 (by omega) (by omega) d_Md_begin_21 (by decide) (fun hx => ?_) (fun hx => ?_)
      · skip
        refine sw_arr (f' := nF (fun _ => 1)) 1 rfl (fun j hj => (hf j (by omega)).1) ?_
        refine sw_arr (f' := nF (fun _ => 1)) 2 rfl (fun j hj => (hf j (by omega)).2) ?_
        refine sw_iconst (pc := 44) C (nI 0) d_Md_begin_44 (by decide) ?_
        refine sw_istore_n (pc := 45) C d_Md_begin_45 rfl (by decide) rfl ?_
        exact key2 4400 0 d (by omega) (fun j hj => absurd hj (Nat.not_lt_zero _))
      omega
    | succ nn ih =>
      intro i f h hi hf
      refine sw_iload_n (pc := 18) C d_Md_begin_18 rfl rfl ?_
      refine sw_bipush (pc := 19) C (nI 48) d_Md_begin_19 (by decide) ?_
      refine sw_icmp_geN (pc := 21) C 44 (by omega) (by omega) d_Md_begin_21 (by decide) (fun hx => ?_) (fun hx => ?_)
      · skip
        omega
      refine sw_aload_n (pc := 24) C d_Md_begin_24 rfl rfl ?_
      refine sw_get (pc := 25) C inMd 0 rfl rfl 20 (by decide) t_592 rfl rfl d_Md_begin_25 ?_
      refine sw_iload_n (pc := 28) C d_Md_begin_28 rfl rfl ?_
      refine sw_iconst (pc := 29) C (nI 1) d_Md_begin_29 (by decide) ?_
      refine sw_iastN (pc := 30) C 1 i rfl rfl (by omega) (by decide) d_Md_begin_30 ?_
      refine sw_aload_n (pc := 31) C d_Md_begin_31 rfl rfl ?_
      refine sw_get (pc := 32) C inMd 0 rfl rfl 21 (by decide) t_593 rfl rfl d_Md_begin_32 ?_
      refine sw_iload_n (pc := 35) C d_Md_begin_35 rfl rfl ?_
      refine sw_iconst (pc := 36) C (nI 1) d_Md_begin_36 (by decide) ?_
      refine sw_iastN (pc := 37) C 2 i rfl rfl (by omega) (by decide) d_Md_begin_37 ?_
      refine sw_iincN (pc := 38) C 1 d_Md_begin_38 rfl (by decide) (by decide) rfl ?_
      refine sw_goto (pc := 41) C 18 d_Md_begin_41 (by decide) ?_
      refine ih (i + 1) (upd f i (nI 1)) (upd h i (nI 1)) (by omega) (fun j hj => ?_)
      unfold upd
      by_cases e : j = i
      · rw [if_pos e, if_pos e]; exact ⟨rfl, rfl⟩
      · rw [if_neg e, if_neg e]; exact hf j (by omega)
  refine sw_aload_n (pc := 0) C d_Md_begin_0 rfl rfl ?_
  refine sw_iload_n (pc := 1) C d_Md_begin_1 rfl rfl ?_
  refine sw_put (pc := 2) C inMd 0 rfl rfl 19 (by decide) tyMd okMd nmMd t_591 rfl rfl (ty := .boolean) (by decide +kernel) (bI_nar _) (bI_fit _) (Nat.le_of_ble_eq_true rfl) d_Md_begin_2 ?_
  refine sw_aload_n (pc := 5) C d_Md_begin_5 rfl rfl ?_
  refine sw_ldc (pc := 6) C t_711 d_Md_begin_6 ?_
  refine sw_topi (z := nI 65536) rfl ?_
  refine sw_put (pc := 8) C inMd 0 rfl rfl 22 (by decide) tyMd okMd nmMd t_594 rfl rfl (ty := .int) (by decide +kernel) rfl rfl (Nat.le_of_ble_eq_true rfl) d_Md_begin_8 ?_
  refine sw_aload_n (pc := 11) C d_Md_begin_11 rfl rfl ?_
  refine sw_iconst (pc := 12) C (nI 0) d_Md_begin_12 (by decide) ?_
  refine sw_put (pc := 13) C inMd 0 rfl rfl 23 (by decide) tyMd okMd nmMd t_595 rfl rfl (ty := .int) (by decide +kernel) rfl rfl (Nat.le_of_ble_eq_true rfl) d_Md_begin_13 ?_
  refine sw_iconst (pc := 16) C (nI 0) d_Md_begin_16 (by decide) ?_
  refine sw_istore_n (pc := 17) C d_Md_begin_17 rfl (by decide) rfl ?_
  exact key1 48 0 z o (by omega) (fun j hj => absurd hj (Nat.not_lt_zero _))
def ngI (c : Nat) : Int32 := -(nI c)
theorem sub_d {d r c : Nat} (hd : d ≤ 1) (hr : r ≤ 1) (hc : c ≤ 1) : (nI d + (-1) * nI r + ngI c) &&& nI 1 = nI ((d + r + c) % 2) ∧ (nI d + (-1) * nI r + ngI c) >>> (nI 1 &&& 31) = ngI ((r + c + 1 - d) / 2) := by
  have hd : d = 0 ∨ d = 1 := by omega
  have hr : r = 0 ∨ r = 1 := by omega
  have hc : c = 0 ∨ c = 1 := by omega
  rcases hd with rfl | rfl <;> rcases hr with rfl | rfl <;> rcases hc with rfl | rfl <;> exact ⟨by decide, by decide⟩
set_option maxRecDepth 100000 in
set_option maxHeartbeats 4000000 in
theorem c_Md_shA (l : Launch) (g : Gl) (R : Nat → Nat) (dn pl ln ss pt : Nat) (th rd : Bool) (wd sc : Nat) (D : Nat → Nat) (v s : Nat) (hs : s < 2 ^ 20) (hsc : sc ≤ 4000) : Ct l g y_Md_shift b_Md_shift 7 none (rmD 0) [.ref (R 0), .int (nI s), .int (nI 1)] ([mdC R dn pl ln ss pt th rd wd sc, iaC g (R 16) 4400 (nF (rdg D v sc))]) (fun u w => u = none ∧ w = [mdC R dn pl ln ss pt th rd wd sc, iaC g (R 16) 4400 (nF (rdg D (v + s) sc))]) := by
  refine ct_of [some (.ref (R 0)), some (.int (nI s)), some (.int (nI 1)), none, none, none, none] (by decide) (Nat.le_of_ble_eq_true rfl) rfl ?_
  intro X C E
  have key : ∀ (j rs c : Nat), j ≤ 16 + sc → rs < 2 ^ 20 → c ≤ 1 → (v + s) / 2 ^ (16 + sc - j) = v / 2 ^ (16 + sc - j) + rs + c → SW X g 7 0 0 ([mdC R dn pl ln ss pt th rd wd sc, iaC g (R 16) 4400 (nF (mid D v (v + s) sc j))]) 14 [some (.ref (R 0)), some (.int (nI s)), some (.int (nI 1)), some (.int (nI c)), some (.int (nI rs)), some (.int (nI j + (-1))), none] [] := by
    intro j
    induction j with
    | zero =>
      intro rs c hj hrs hc H
      rw [show nI 0 + (-1) = (-1 : Int32) from by decide]
      refine sw_iload (pc := 14) C d_Md_shift_14 rfl ?_
      refine sw_if_lt (pc := 16) C 65 d_Md_shift_16 (by decide) (fun hx => ?_) (fun hx => ?_)
      · skip
        exact sw_vret (pc := 65) C E rfl (Nat.le_of_ble_eq_true rfl) (Nat.le_of_ble_eq_true rfl) d_Md_shift_65 ⟨rfl, by rw [mid_0]⟩
      exact absurd (by decide) hx
    | succ j ih =>
      intro rs c hj hrs hc H
      rw [pow_j2] at H
      have a1 := pow_j (show j < 16 + sc by omega) v
      have a2 := pow_j (show j < 16 + sc by omega) (v + s)
      rw [pow_j2] at a1 a2
      rw [show nI (j + 1) + (-1) = nI j from sb_m1 (by omega)]
      refine sw_iload (pc := 14) C d_Md_shift_14 rfl ?_
      refine sw_if_ltN (pc := 16) C (by omega) 65 d_Md_shift_16 (by decide) ?_
      refine sw_aload_n (pc := 19) C d_Md_shift_19 rfl rfl ?_
      refine sw_get (pc := 20) C inMd 0 rfl rfl 24 (by decide) t_596 rfl rfl d_Md_shift_20 ?_
      refine sw_iload (pc := 23) C d_Md_shift_23 rfl ?_
      refine sw_ialdN (pc := 25) C 1 j rfl rfl (by omega) (by decide) d_Md_shift_25 ?_
      refine sw_topi (z := nI (v / 2 ^ (15 + sc - j) % 2)) (congrArg nI (mid_at (by omega))) ?_
      refine sw_iload_n (pc := 26) C d_Md_shift_26 rfl rfl ?_
      refine sw_iload (pc := 27) C d_Md_shift_27 rfl ?_
      refine sw_iconst (pc := 29) C (nI 2) d_Md_shift_29 (by decide) ?_
      refine sw_irem (pc := 30) C d_Md_shift_30 (by decide) ?_
      refine sw_topi (z := nI (rs % 2)) (pk_rem (by omega) (by omega) (by omega)) ?_
      refine sw_imul (pc := 31) C d_Md_shift_31 ?_
      refine sw_topi (z := nI (1 * (rs % 2))) (pk_mul _ _) ?_
      refine sw_iadd (pc := 32) C d_Md_shift_32 ?_
      refine sw_topi (z := nI ((v / 2 ^ (15 + sc - j) % 2) + (1 * (rs % 2)))) (nI_add _ _) ?_
      refine sw_iload_n (pc := 33) C d_Md_shift_33 rfl rfl ?_
      refine sw_iadd (pc := 34) C d_Md_shift_34 ?_
      refine sw_topi (z := nI (((v / 2 ^ (15 + sc - j) % 2) + (1 * (rs % 2))) + c)) (nI_add _ _) ?_
      refine sw_istore (pc := 35) C d_Md_shift_35 (by decide) rfl ?_
      refine sw_iload (pc := 37) C d_Md_shift_37 rfl ?_
      refine sw_iconst (pc := 39) C (nI 2) d_Md_shift_39 (by decide) ?_
      refine sw_idiv (pc := 40) C d_Md_shift_40 (by decide) ?_
      refine sw_topi (z := nI (rs / 2)) (pk_div (by omega) (by omega) (by omega)) ?_
      refine sw_istore (pc := 41) C d_Md_shift_41 (by decide) rfl ?_
      refine sw_aload_n (pc := 43) C d_Md_shift_43 rfl rfl ?_
      refine sw_get (pc := 44) C inMd 0 rfl rfl 24 (by decide) t_596 rfl rfl d_Md_shift_44 ?_
      refine sw_iload (pc := 47) C d_Md_shift_47 rfl ?_
      refine sw_iload (pc := 49) C d_Md_shift_49 rfl ?_
      refine sw_iconst (pc := 51) C (nI 1) d_Md_shift_51 (by decide) ?_
      refine sw_iand (pc := 52) C d_Md_shift_52 ?_
      refine sw_topi (z := nI ((v + s) / 2 ^ (15 + sc - j) % 2)) (by rw [and1]; congr 1; omega) ?_
      refine sw_iastN (pc := 53) C 1 j rfl rfl (by omega) (by decide) d_Md_shift_53 ?_
      refine sw_ws (ws' := [mdC R dn pl ln ss pt th rd wd sc, iaC g (R 16) 4400 (nF (mid D v (v + s) sc j))]) (by rw [← mid_up (show j < 16 + sc by omega), ← nF_up]; rfl) ?_
      refine sw_iload (pc := 54) C d_Md_shift_54 rfl ?_
      refine sw_iconst (pc := 56) C (nI 1) d_Md_shift_56 (by decide) ?_
      refine sw_ishr (pc := 57) C d_Md_shift_57 ?_
      refine sw_topi (z := nI ((((v / 2 ^ (15 + sc - j) % 2) + (1 * (rs % 2))) + c) / 2 ^ 1)) (shr_nI (by omega) (by decide)) ?_
      refine sw_istore_n (pc := 58) C d_Md_shift_58 rfl (by decide) rfl ?_
      refine sw_iinc (pc := 59) C (-1) d_Md_shift_59 rfl (by decide) (by decide) rfl ?_
      refine sw_goto (pc := 62) C 14 d_Md_shift_62 (by decide) ?_
      refine sw_drop 6 ?_
      exact ih (rs / 2) ((((v / 2 ^ (15 + sc - j) % 2) + (1 * (rs % 2))) + c) / 2 ^ 1) (by omega) (by omega) (by omega) (by omega)
  refine sw_iconst (pc := 0) C (nI 0) d_Md_shift_0 (by decide) ?_
  refine sw_istore_n (pc := 1) C d_Md_shift_1 rfl (by decide) rfl ?_
  refine sw_iload_n (pc := 2) C d_Md_shift_2 rfl rfl ?_
  refine sw_istore (pc := 3) C d_Md_shift_3 (by decide) rfl ?_
  refine sw_aload_n (pc := 5) C d_Md_shift_5 rfl rfl ?_
  refine sw_get (pc := 6) C inMd 0 rfl rfl 23 (by decide) t_595 rfl rfl d_Md_shift_6 ?_
  refine sw_topi (z := nI sc) rfl ?_
  refine sw_bipush (pc := 9) C (nI 15) d_Md_shift_9 (by decide) ?_
  refine sw_iadd (pc := 11) C d_Md_shift_11 ?_
  refine sw_topi (z := nI (sc + 15)) (nI_add _ _) ?_
  refine sw_topi (z := nI (16 + sc) + (-1)) (by rw [sb_m1 (show 0 < 16 + sc by omega)]; congr 1; omega) ?_
  refine sw_istore (pc := 12) C d_Md_shift_12 (by decide) rfl ?_
  refine sw_ws (ws' := [mdC R dn pl ln ss pt th rd wd sc, iaC g (R 16) 4400 (nF (mid D v (v + s) sc (16 + sc)))]) (by rw [mid_top]) ?_
  exact key (16 + sc) s 0 (Nat.le_refl _) hs (by decide) (by rw [Nat.sub_self]; omega)
set_option maxRecDepth 100000 in
set_option maxHeartbeats 4000000 in
theorem c_Md_shS (l : Launch) (g : Gl) (R : Nat → Nat) (dn pl ln ss pt : Nat) (th rd : Bool) (wd sc : Nat) (D : Nat → Nat) (v s : Nat) (hs : s < 2 ^ 20) (hsc : sc ≤ 4000) (hsv : s ≤ v) : Ct l g y_Md_shift b_Md_shift 7 none (rmD 0) [.ref (R 0), .int (nI s), .int (-1)] ([mdC R dn pl ln ss pt th rd wd sc, iaC g (R 16) 4400 (nF (rdg D v sc))]) (fun u w => u = none ∧ w = [mdC R dn pl ln ss pt th rd wd sc, iaC g (R 16) 4400 (nF (rdg D (v - s) sc))]) := by
  refine ct_of [some (.ref (R 0)), some (.int (nI s)), some (.int (-1)), none, none, none, none] (by decide) (Nat.le_of_ble_eq_true rfl) rfl ?_
  intro X C E
  have key : ∀ (j rs c : Nat), j ≤ 16 + sc → rs < 2 ^ 20 → c ≤ 1 → v / 2 ^ (16 + sc - j) = (v - s) / 2 ^ (16 + sc - j) + rs + c → SW X g 7 0 0 ([mdC R dn pl ln ss pt th rd wd sc, iaC g (R 16) 4400 (nF (mid D v (v - s) sc j))]) 14 [some (.ref (R 0)), some (.int (nI s)), some (.int ((-1))), some (.int (ngI c)), some (.int (nI rs)), some (.int (nI j + (-1))), none] [] := by
    intro j
    induction j with
    | zero =>
      intro rs c hj hrs hc H
      rw [show nI 0 + (-1) = (-1 : Int32) from by decide]
      refine sw_iload (pc := 14) C d_Md_shift_14 rfl ?_
      refine sw_if_lt (pc := 16) C 65 d_Md_shift_16 (by decide) (fun hx => ?_) (fun hx => ?_)
      · skip
        exact sw_vret (pc := 65) C E rfl (Nat.le_of_ble_eq_true rfl) (Nat.le_of_ble_eq_true rfl) d_Md_shift_65 ⟨rfl, by rw [mid_0]⟩
      exact absurd (by decide) hx
    | succ j ih =>
      intro rs c hj hrs hc H
      rw [pow_j2] at H
      have a1 := pow_j (show j < 16 + sc by omega) v
      have a2 := pow_j (show j < 16 + sc by omega) (v - s)
      rw [pow_j2] at a1 a2
      rw [show nI (j + 1) + (-1) = nI j from sb_m1 (by omega)]
      refine sw_iload (pc := 14) C d_Md_shift_14 rfl ?_
      refine sw_if_ltN (pc := 16) C (by omega) 65 d_Md_shift_16 (by decide) ?_
      refine sw_aload_n (pc := 19) C d_Md_shift_19 rfl rfl ?_
      refine sw_get (pc := 20) C inMd 0 rfl rfl 24 (by decide) t_596 rfl rfl d_Md_shift_20 ?_
      refine sw_iload (pc := 23) C d_Md_shift_23 rfl ?_
      refine sw_ialdN (pc := 25) C 1 j rfl rfl (by omega) (by decide) d_Md_shift_25 ?_
      refine sw_topi (z := nI (v / 2 ^ (15 + sc - j) % 2)) (congrArg nI (mid_at (by omega))) ?_
      refine sw_iload_n (pc := 26) C d_Md_shift_26 rfl rfl ?_
      refine sw_iload (pc := 27) C d_Md_shift_27 rfl ?_
      refine sw_iconst (pc := 29) C (nI 2) d_Md_shift_29 (by decide) ?_
      refine sw_irem (pc := 30) C d_Md_shift_30 (by decide) ?_
      refine sw_topi (z := nI (rs % 2)) (pk_rem (by omega) (by omega) (by omega)) ?_
      refine sw_imul (pc := 31) C d_Md_shift_31 ?_
      refine sw_iadd (pc := 32) C d_Md_shift_32 ?_
      refine sw_iload_n (pc := 33) C d_Md_shift_33 rfl rfl ?_
      refine sw_iadd (pc := 34) C d_Md_shift_34 ?_
      refine sw_istore (pc := 35) C d_Md_shift_35 (by decide) rfl ?_
      refine sw_iload (pc := 37) C d_Md_shift_37 rfl ?_
      refine sw_iconst (pc := 39) C (nI 2) d_Md_shift_39 (by decide) ?_
      refine sw_idiv (pc := 40) C d_Md_shift_40 (by decide) ?_
      refine sw_topi (z := nI (rs / 2)) (pk_div (by omega) (by omega) (by omega)) ?_
      refine sw_istore (pc := 41) C d_Md_shift_41 (by decide) rfl ?_
      refine sw_aload_n (pc := 43) C d_Md_shift_43 rfl rfl ?_
      refine sw_get (pc := 44) C inMd 0 rfl rfl 24 (by decide) t_596 rfl rfl d_Md_shift_44 ?_
      refine sw_iload (pc := 47) C d_Md_shift_47 rfl ?_
      refine sw_iload (pc := 49) C d_Md_shift_49 rfl ?_
      refine sw_iconst (pc := 51) C (nI 1) d_Md_shift_51 (by decide) ?_
      refine sw_iand (pc := 52) C d_Md_shift_52 ?_
      refine sw_topi (z := nI ((v - s) / 2 ^ (15 + sc - j) % 2)) (by rw [(sub_d (by omega) (by omega) hc).1]; congr 1; omega) ?_
      refine sw_iastN (pc := 53) C 1 j rfl rfl (by omega) (by decide) d_Md_shift_53 ?_
      refine sw_ws (ws' := [mdC R dn pl ln ss pt th rd wd sc, iaC g (R 16) 4400 (nF (mid D v (v - s) sc j))]) (by rw [← mid_up (show j < 16 + sc by omega), ← nF_up]; rfl) ?_
      refine sw_iload (pc := 54) C d_Md_shift_54 rfl ?_
      refine sw_iconst (pc := 56) C (nI 1) d_Md_shift_56 (by decide) ?_
      refine sw_ishr (pc := 57) C d_Md_shift_57 ?_
      refine sw_topi (z := ngI ((rs % 2 + c + 1 - (v / 2 ^ (15 + sc - j) % 2)) / 2)) (sub_d (by omega) (by omega) hc).2 ?_
      refine sw_istore_n (pc := 58) C d_Md_shift_58 rfl (by decide) rfl ?_
      refine sw_iinc (pc := 59) C (-1) d_Md_shift_59 rfl (by decide) (by decide) rfl ?_
      refine sw_goto (pc := 62) C 14 d_Md_shift_62 (by decide) ?_
      refine sw_drop 6 ?_
      exact ih (rs / 2) ((rs % 2 + c + 1 - (v / 2 ^ (15 + sc - j) % 2)) / 2) (by omega) (by omega) (by omega) (by omega)
  refine sw_iconst (pc := 0) C (nI 0) d_Md_shift_0 (by decide) ?_
  refine sw_topi (z := ngI 0) (by decide) ?_
  refine sw_istore_n (pc := 1) C d_Md_shift_1 rfl (by decide) rfl ?_
  refine sw_iload_n (pc := 2) C d_Md_shift_2 rfl rfl ?_
  refine sw_istore (pc := 3) C d_Md_shift_3 (by decide) rfl ?_
  refine sw_aload_n (pc := 5) C d_Md_shift_5 rfl rfl ?_
  refine sw_get (pc := 6) C inMd 0 rfl rfl 23 (by decide) t_595 rfl rfl d_Md_shift_6 ?_
  refine sw_topi (z := nI sc) rfl ?_
  refine sw_bipush (pc := 9) C (nI 15) d_Md_shift_9 (by decide) ?_
  refine sw_iadd (pc := 11) C d_Md_shift_11 ?_
  refine sw_topi (z := nI (sc + 15)) (nI_add _ _) ?_
  refine sw_topi (z := nI (16 + sc) + (-1)) (by rw [sb_m1 (show 0 < 16 + sc by omega)]; congr 1; omega) ?_
  refine sw_istore (pc := 12) C d_Md_shift_12 (by decide) rfl ?_
  refine sw_ws (ws' := [mdC R dn pl ln ss pt th rd wd sc, iaC g (R 16) 4400 (nF (mid D v (v - s) sc (16 + sc)))]) (by rw [mid_top]) ?_
  exact key (16 + sc) s 0 (Nat.le_refl _) hs (by decide) (by rw [Nat.sub_self]; omega)
set_option maxRecDepth 100000 in
set_option maxHeartbeats 4000000 in
theorem c_Md_units (l : Launch) (g : Gl) (R : Nat → Nat) (dn pl ln ss pt : Nat) (th rd : Bool) (wd sc : Nat) (D : Nat → Nat) (v : Nat) (hv : v < 65536) (hsc : sc ≤ 4000) (hD : ∀ i, D i ≤ 1) : Ct l g y_Md_units b_Md_units 3 (some .int) (rmD 0) [.ref (R 0)] ([mdC R dn pl ln ss pt th rd wd sc, iaC g (R 16) 4400 (nF (rdg D v sc))]) (fun u w => u = some (.int (nI v)) ∧ w = [mdC R dn pl ln ss pt th rd wd sc, iaC g (R 16) 4400 (nF (rdg D v sc))]) := by
  refine ct_of [some (.ref (R 0)), none, none] (by decide) (Nat.le_of_ble_eq_true rfl) rfl ?_
  intro X C E
  have key : ∀ (nn i : Nat) , i + nn = 16 → SW X g 3 0 0 ([mdC R dn pl ln ss pt th rd wd sc, iaC g (R 16) 4400 (nF (rdg D v sc))]) 4 [some (.ref (R 0)), some (.int (nI (v / 2 ^ (16 - i)))), some (.int (nI i))] [] := by
    intro nn
    induction nn with
    | zero =>
      intro i  hi 
      refine sw_iload_n (pc := 4) C d_Md_units_4 rfl rfl ?_
      refine sw_bipush (pc := 5) C (nI 16) d_Md_units_5 (by decide) ?_
      refine sw_icmp_geN (pc := 7) C 32 (by omega) (by omega) d_Md_units_7 (by decide) (fun hx => ?_) (fun hx => ?_)
      · skip
        have e16 : i = 16 := by omega
        subst e16
        refine sw_iload_n (pc := 32) C d_Md_units_32 rfl rfl ?_
        exact sw_iret (pc := 33) C E rfl (Nat.le_of_ble_eq_true rfl) (Nat.le_of_ble_eq_true rfl) d_Md_units_33 ⟨by rw [Nat.sub_self, Nat.pow_zero, Nat.div_one], rfl⟩
      omega
    | succ nn ih =>
      intro i  hi 
      refine sw_iload_n (pc := 4) C d_Md_units_4 rfl rfl ?_
      refine sw_bipush (pc := 5) C (nI 16) d_Md_units_5 (by decide) ?_
      refine sw_icmp_geN (pc := 7) C 32 (by omega) (by omega) d_Md_units_7 (by decide) (fun hx => ?_) (fun hx => ?_)
      · skip
        omega
      refine sw_iconst (pc := 10) C (nI 2) d_Md_units_10 (by decide) ?_
      refine sw_iload_n (pc := 11) C d_Md_units_11 rfl rfl ?_
      refine sw_imul (pc := 12) C d_Md_units_12 ?_
      refine sw_topi (z := nI (2 * (v / 2 ^ (16 - i)))) (pk_mul _ _) ?_
      refine sw_aload_n (pc := 13) C d_Md_units_13 rfl rfl ?_
      refine sw_get (pc := 14) C inMd 0 rfl rfl 24 (by decide) t_596 rfl rfl d_Md_units_14 ?_
      refine sw_aload_n (pc := 17) C d_Md_units_17 rfl rfl ?_
      refine sw_get (pc := 18) C inMd 0 rfl rfl 23 (by decide) t_595 rfl rfl d_Md_units_18 ?_
      refine sw_topi (z := nI sc) rfl ?_
      refine sw_iload_n (pc := 21) C d_Md_units_21 rfl rfl ?_
      refine sw_iadd (pc := 22) C d_Md_units_22 ?_
      refine sw_topi (z := nI (sc + i)) (nI_add _ _) ?_
      refine sw_ialdN (pc := 23) C 1 (sc + i) rfl rfl (by omega) (by decide) d_Md_units_23 ?_
      refine sw_topi (z := nI (rdg D v sc (sc + i))) rfl ?_
      refine sw_iadd (pc := 24) C d_Md_units_24 ?_
      refine sw_topi (z := nI ((2 * (v / 2 ^ (16 - i))) + (rdg D v sc (sc + i)))) (nI_add _ _) ?_
      refine sw_topi (z := nI (v / 2 ^ (16 - (i + 1)))) (congrArg nI (rdg_win (by omega))) ?_
      refine sw_istore_n (pc := 25) C d_Md_units_25 rfl (by decide) rfl ?_
      refine sw_iincN (pc := 26) C 1 d_Md_units_26 rfl (by decide) (by decide) rfl ?_
      refine sw_goto (pc := 29) C 4 d_Md_units_29 (by decide) ?_
      exact ih (i + 1) (by omega)
  refine sw_iconst (pc := 0) C (nI 0) d_Md_units_0 (by decide) ?_
  refine sw_topi (z := nI (v / 2 ^ (16 - 0))) (by rw [Nat.div_eq_of_lt (by omega)]) ?_
  refine sw_istore_n (pc := 1) C d_Md_units_1 rfl (by decide) rfl ?_
  refine sw_iconst (pc := 2) C (nI 0) d_Md_units_2 (by decide) ?_
  refine sw_istore_n (pc := 3) C d_Md_units_3 rfl (by decide) rfl ?_
  exact key 16 0 (by omega)
