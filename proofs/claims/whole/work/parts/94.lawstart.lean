/-! the law's entry -/
theorem tt_tbl {w : Cond} (h : w ∈ TT) (hn : w ∉ exW) : w ∈ lw_tbl := by
  rcases List.mem_append.mp h with h | h
  · exact absurd h hn
  · exact (List.mem_filter.mp h).1
theorem hTT_of {args : Array Value} {s : State} (hts : ∀ w ∈ lw_tbl, w.before args s = true) : ∀ w ∈ TT, w.before args s = true := by
  intro w hw
  rcases List.mem_append.mp hw with h | h
  · have e1 := hts _ (tt_tbl t_385 (by unfold exW; simp))
    have e2 := hts _ (tt_tbl t_851 (by unfold exW; simp))
    have e3 := hts _ m_tally
    have e4 := hts _ (tt_tbl t_49 (by unfold exW; simp))
    have e5 := hts _ (tt_tbl t_97 (by unfold exW; simp))
    simp only [exW, List.mem_cons, List.not_mem_nil, or_false] at h
    rcases h with rfl | rfl
    · exact sel_priv e4 e3 e1 e2
    · exact sel_priv e5 e3 e1 e2
  · exact hts _ (List.mem_filter.mp h).1
theorem NW_of {args : Array Value} {s : State} (hts : ∀ w ∈ lw_tbl, w.before args s = true) : NW s := by
  intro w hw hn
  have h1 := hts w hw
  cases w <;> first | exact (Bool.false_ne_true hn).elim | exact va_Nw.of rfl h1 | skip
  rename_i ty
  cases ty <;> first | exact (Bool.false_ne_true hn).elim | exact va_Nw.of rfl h1 | exact va_AO.of h1
theorem arr_of {args : Array Value} {s : State} {ty : FieldType} (h : (Cond.arrayClass ty).before args s = true) : ∃ cA : ClassId, ArrOfT s cA ty ∧ s.vm.findClass ("[" ++ ty.toString) = some cA := by
  obtain ⟨c, k, comp, h1, h2, h3⟩ := Cond.arrayClass_spec h
  exact ⟨c, fun n z => ⟨fun k h => (by cases h), k, h2, comp, h3⟩, h1⟩
theorem clF_z : clF (fun _ _ => nI 0) (fun _ _ => nI 0) = fun _ => nI 0 := by
  funext i
  unfold clF flat
  split <;> rfl
set_option maxRecDepth 100000 in
theorem KK_of {args : Array Value} {s : State} (hts : ∀ w ∈ lw_tbl, w.before args s = true) : ∃ g : Gl, KK g s := by
  have hTT := hTT_of hts
  obtain ⟨c0, i0, k0⟩ := u_known hTT inCr (hTT _ t_97)
  obtain ⟨c1, i1, k1⟩ := u_known hTT inCw (hTT _ t_49)
  obtain ⟨c2, i2, k2⟩ := u_known hTT inDr (hTT _ t_91)
  obtain ⟨c3, i3, k3⟩ := u_known hTT inDw (hTT _ t_43)
  obtain ⟨c4, i4, k4⟩ := u_known hTT inLy (hTT _ t_134)
  obtain ⟨c5, i5, k5⟩ := u_known hTT inOct (hTT _ t_24)
  obtain ⟨c6, i6, k6⟩ := u_known hTT inPg (hTT _ t_126)
  obtain ⟨c7, i7, k7⟩ := u_known hTT inSh (hTT _ t_160)
  obtain ⟨c8, i8, k8⟩ := u_known hTT inLP (hTT _ t_16)
  obtain ⟨c9, i9, k9⟩ := u_known hTT inMd (hTT _ t_567)
  obtain ⟨aI, rI, nI_⟩ := arr_of (hTT _ t_41)
  obtain ⟨aL, rL, nL_⟩ := arr_of (hTT _ t_663)
  obtain ⟨aZ, rZ, nZ_⟩ := arr_of (hTT _ t_664)
  obtain ⟨comp, aS, kS, s1, _, s2, s3, s4⟩ := Cond.arrayOver_spec (hts _ q_132)
  refine ⟨((fun c => match c with | 0 => c0 | 1 => c1 | 2 => c2 | 3 => c3 | 4 => c4 | 5 => c5 | 6 => c6 | 7 => c7 | 8 => c8 | _ => c9, fun c => match c with | 0 => i0 | 1 => i1 | 2 => i2 | 3 => i3 | 4 => i4 | 5 => i5 | 6 => i6 | 7 => i7 | 8 => i8 | _ => i9), aI, aL, aZ, aS), ⟨fun c q hq => ?_, fun k q hk => ?_⟩, NW_of hts⟩
  · match c, hq with
    | 0, hq => cases hq; exact k0
    | 1, hq => cases hq; exact k1
    | 2, hq => cases hq; exact k2
    | 3, hq => cases hq; exact k3
    | 4, hq => cases hq; exact k4
    | 5, hq => cases hq; exact k5
    | 6, hq => cases hq; exact k6
    | 7, hq => cases hq; exact k7
    | 8, hq => cases hq; exact k8
    | 9, hq => cases hq; exact k9
    | n + 10, hq => cases hq
  · match k, hk with
    | 0, hk => cases hk; exact ⟨rI, nI_⟩
    | 1, hk => cases hk; exact ⟨rL, nL_⟩
    | 2, hk => cases hk; exact ⟨rZ, nZ_⟩
    | 3, hk => cases hk; exact ⟨fun n z => ⟨fun k h => (by cases h), kS, s2, comp, s3⟩, kS, comp, s2, s3, s1, s4⟩
    | n + 4, hk => cases hk
theorem F_ini : FCT ([] : List Nat) false 0 0 (fun _ => 0) (fun _ => 1) (fun _ => 1) (fun _ => 0) (fun _ => 0) (fun _ => 0) 0 0 (fun _ => 0) (fun _ => 1) (fun _ => 1) (fun _ => 0) (fun _ => 0) (fun _ => nI 0) (fun _ => nI 0) (fun _ => nI 0) (fun _ => nI 0) 0 0 (fun _ => 0) (fun _ => 1) (fun _ => 1) (fun _ => 0) (fun _ => 0) 0 0 (fun _ => lN 0) (fun _ => nI 0) (fun _ => nI 0) (fun _ => nI 0) (fun _ => lN 0) (fun _ => nI 0) (fun _ => nI 0) (fun _ => nI 0) (fun _ => nI 0) := ⟨⟨by decide, fun k => by rw [getD_ge (Nat.zero_le _)]; decide⟩, ⟨by decide, by decide⟩, fun k hk => absurd hk (Nat.not_lt_zero _), fun k hk => absurd hk (Nat.not_lt_zero _), fun k hk => absurd hk (Nat.not_lt_zero _), ⟨by decide, by decide, fun k _ => ⟨(by decide : 0 < 2 ^ 64), (by decide : 1 ≤ 8), (by decide : 1 ≤ 8)⟩, fun k hk => absurd hk (Nat.not_lt_zero _)⟩, ⟨by decide, by decide, fun k _ => ⟨(by decide : 0 < 2 ^ 64), (by decide : 1 ≤ 8), (by decide : 1 ≤ 8)⟩, fun k hk => absurd hk (Nat.not_lt_zero _)⟩, ⟨by decide, by decide⟩, fun e => by cases e⟩
set_option maxRecDepth 100000 in
set_option maxHeartbeats 8000000 in
theorem law_start {X : Cz} {nm : String} (l : Launch) (g : Gl) (C : Cx X l g (yL nm) code 4 (some .boolean) rmL) (sa N : Nat) (sf : Nat → Int32) (Z : Sc X sa N sf) (hN30 : N < 2 ^ 29) (fin : ∀ (ws : va_W) (x y : Nat) (i : Nat), SW X g 4 101 8908 ws 662 [some (.ref sa), some (.ref x), some (.ref y), some (.int (nI i))] []) : SW X g 4 0 0 [] 0 [some (.ref sa), none, none, none] [] := by
  refine sw_new (pc := 0) C inLP tyLP okLP t_15 t_16 t_1 (ci := 8) rfl [.null, .null, .null, .null, .int 0, .null, .null] (fun j hj => match j, hj with | 0, _ => rfl | 1, _ => rfl | 2, _ => rfl | 3, _ => rfl | 4, _ => rfl | 5, _ => rfl | 6, _ => rfl | k + 7, h => absurd h (by omega)) (Nat.le_of_ble_eq_true rfl) (Nat.le_of_ble_eq_true rfl) d_Law_law_0 (fun x => ?_)
  refine sw_dup (pc := 3) C d_Law_law_3 rfl ?_
  refine sw_callIJ1 (pc := 4) C (i_LP l g x) si_LP_init t_17 rfl rfl (Nat.le_of_ble_eq_true rfl) (Nat.le_of_ble_eq_true rfl) (Nat.le_of_ble_eq_true rfl) (Nat.le_of_ble_eq_true rfl) (Nat.le_of_ble_eq_true rfl) d_Law_law_4 (fun v w1 hp => ?_)
  obtain ⟨rfl, ob, r, dw, a1, r1, z1, o1, dr, a2, r2, z2, o2, A, B, S, rfl⟩ := hp
  refine sw_astore_n (pc := 7) C d_Law_law_7 rfl (by decide) rfl ?_
  refine sw_new (pc := 8) C inMd tyMd okMd t_566 t_567 t_12 (ci := 9) rfl [.null, .null, .null, .null, .int 0, .null, .null, .int 0, .null, .null, .int 0, .int 0, .null, .int 0, .null, .null, .int 0, .null, .null, .int 0, .null, .null, .int 0, .int 0, .null, .null, .null, .null, .null, .null] (fun j hj => match j, hj with | 0, _ => rfl | 1, _ => rfl | 2, _ => rfl | 3, _ => rfl | 4, _ => rfl | 5, _ => rfl | 6, _ => rfl | 7, _ => rfl | 8, _ => rfl | 9, _ => rfl | 10, _ => rfl | 11, _ => rfl | 12, _ => rfl | 13, _ => rfl | 14, _ => rfl | 15, _ => rfl | 16, _ => rfl | 17, _ => rfl | 18, _ => rfl | 19, _ => rfl | 20, _ => rfl | 21, _ => rfl | 22, _ => rfl | 23, _ => rfl | 24, _ => rfl | 25, _ => rfl | 26, _ => rfl | 27, _ => rfl | 28, _ => rfl | 29, _ => rfl | k + 30, h => absurd h (by omega)) (Nat.le_of_ble_eq_true rfl) (Nat.le_of_ble_eq_true rfl) d_Law_law_8 (fun mq => ?_)
  refine sw_dup (pc := 11) C d_Law_law_11 rfl ?_
  refine sw_callIJ1 (pc := 12) C (i_Md l g mq) si_Md_init t_568 rfl rfl (Nat.le_of_ble_eq_true rfl) (Nat.le_of_ble_eq_true rfl) (Nat.le_of_ble_eq_true rfl) (Nat.le_of_ble_eq_true rfl) (Nat.le_of_ble_eq_true rfl) d_Law_law_12 (fun v w1 hp => ?_)
  obtain ⟨rfl, R, rfl, rfl⟩ := hp
  refine sw_astore_n (pc := 15) C d_Law_law_15 rfl (by decide) rfl ?_
  refine sw_iconst (pc := 16) C (nI 0) d_Law_law_16 (by decide) ?_
  refine sw_istore_n (pc := 17) C d_Law_law_17 rfl (by decide) rfl ?_
  refine sw_ws (ws' := CW g x ob r dw a1 z1 o1 dr a2 z2 o2 A B S false ([] : List Nat) r1 (nI 0) (nI 0) (nI 65536) (nF (fun _ => 1)) (nF (fun _ => 1)) r2 (nI 0) (nI 0) (nI 0) (nI 0) (nI 65536) (nF (fun _ => 1)) (nF (fun _ => 1)) 0 0 (fun _ => 0) (fun _ => 1) (fun _ => 1) (fun _ => 0) (fun _ => 0) (fun _ => 0) (fun _ _ => nI 0) (fun _ _ => nI 0) (fun _ => nI 0) (fun _ => nI 0) (fun _ => nI 0) false (fun _ => nI 0) (fun _ => nI 0) (fun _ => nI 0) false 0 0 (fun _ => 0) (fun _ => 1) (fun _ => 1) (fun _ => 0) (fun _ => 0) (fun _ => -1) (fun _ => nI 0) (fun _ => nI 0) (fun _ => nI 0) (fun _ => nI 0) false (fun _ => nI 0) (fun _ => nI 0) (fun _ => nI 0) (fun _ => nI 0) false 0 0 (fun _ => 0) (fun _ => 1) (fun _ => 1) (fun _ => 0) (fun _ => 0) (fun _ => -1) (fun _ => nI 0) (fun _ => nI 0) (fun _ => nI 0) (fun _ => nI 0) false (fun _ => nI 0) (fun _ => nI 0) (fun _ => nI 0) (fun _ => nI 0) false ++ RW g R 0 0 ([] : List Nat) 0 0 false false 0 0 (fun _ => lN 0) (fun _ => nI 0) (fun _ => nI 0) (fun _ => nI 0) (fun _ => 0) (fun _ => 0) (fun _ _ => nI 0) (fun _ _ => nI 0) (fun _ => nI 0) (fun _ => lN 0) (fun _ => nI 0) (fun _ => nI 0) (fun _ => nI 0) (fun _ => nI 0) (fun _ => nI 0) (fun _ => nI 0) (fun _ => nI 0) (fun _ => nI 0) (fun _ => nI 0) (fun _ => nI 0) (fun _ => nI 0) (fun _ => nI 0)) (by unfold RW; rw [clF_z, dcF_nil]; rfl) ?_
  exact law_loop l g C sa N sf Z hN30 x ob r dw a1 z1 o1 dr a2 z2 o2 A R (fun ws i => fin ws x (R 0) i) N 0 _ (by omega) (by omega) ⟨B, S, false, [], r1, (nI 0), (nI 0), (nI 65536), (nF (fun _ => 1)), (nF (fun _ => 1)), r2, (nI 0), (nI 0), (nI 0), (nI 0), (nI 65536), (nF (fun _ => 1)), (nF (fun _ => 1)), 0, 0, (fun _ => 0), (fun _ => 1), (fun _ => 1), (fun _ => 0), (fun _ => 0), (fun _ => 0), (fun _ _ => nI 0), (fun _ _ => nI 0), (fun _ => nI 0), (fun _ => nI 0), (fun _ => nI 0), false, (fun _ => nI 0), (fun _ => nI 0), (fun _ => nI 0), false, 0, 0, (fun _ => 0), (fun _ => 1), (fun _ => 1), (fun _ => 0), (fun _ => 0), (fun _ => -1), (fun _ => nI 0), (fun _ => nI 0), (fun _ => nI 0), (fun _ => nI 0), false, (fun _ => nI 0), (fun _ => nI 0), (fun _ => nI 0), (fun _ => nI 0), false, 0, 0, (fun _ => 0), (fun _ => 1), (fun _ => 1), (fun _ => 0), (fun _ => 0), (fun _ => -1), (fun _ => nI 0), (fun _ => nI 0), (fun _ => nI 0), (fun _ => nI 0), false, (fun _ => nI 0), (fun _ => nI 0), (fun _ => nI 0), (fun _ => nI 0), false, 0, 0, false, 0, 0, (fun _ => lN 0), (fun _ => nI 0), (fun _ => nI 0), (fun _ => nI 0), (fun _ => nI 0), (fun _ => lN 0), (fun _ => nI 0), (fun _ => nI 0), (fun _ => nI 0), (fun _ => nI 0), (fun _ => nI 0), (fun _ => nI 0), (fun _ => nI 0), (fun _ => nI 0), (fun _ => nI 0), (fun _ => nI 0), (fun _ => nI 0), (fun _ => nI 0), F_ini, rfl⟩
