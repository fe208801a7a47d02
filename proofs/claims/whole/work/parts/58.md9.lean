/-! the reference: a layer is written -/
theorem clF_0 (G0 G1 : Nat → Nat → Int32) {j : Nat} (h : j < 64) : clF G0 G1 (64 * 0 + j) = flat 8 G0 j := by
  unfold clF
  rw [if_pos (by omega)]
  congr 1
  omega
theorem clF_1 (G0 G1 : Nat → Nat → Int32) {j : Nat} : clF G0 G1 (64 * 1 + j) = flat 8 G1 j := by
  unfold clF
  rw [if_neg (by omega)]
  congr 1
  omega
theorem myP_sc {md : Option (Nat → Nat)} {n : Nat} {cf : Nat → Int32} {sl : Nat} (hD : ∀ D, md = some D → ∀ i, D i ≤ 1) (hn : n = 4 ∨ n = 8) (hsl : sl ≤ 10) : (lyP md n cf sl).1.1.2.2.2 ≤ 55 * (n * n) := by
  have h := (lyP_inv (md := md) (n := n) (cf := cf) hD sl).2.2
  have h1 := cntB_le (lyP md n cf sl).2.1 (n * n)
  have h2 : sl * (n * n) ≤ 10 * (n * n) := Nat.mul_le_mul_right _ hsl
  omega
theorem flat_i8 (n : Nat) (hn : n = 4 ∨ n = 8) (H : Nat → Nat → Int32) : ∀ k, k < n * n → flat 8 H (i8 n k) = flat n H k := by
  intro k hk
  have := i8_lt hn hk
  exact flat_at (by omega)
set_option maxRecDepth 100000 in
set_option maxHeartbeats 4000000 in
theorem c_Md_putLy0 (l : Launch) (g : Gl) (R : Nat → Nat) (dn pl ss pt : Nat) (th rd : Bool) (wd sc : Nat) (l0 : List Nat) (f z o d : Nat → Int32) (G0 G1 : Nat → Nat → Int32) (gr r x p m : Nat → Int32) (sl : Nat) (hsl : sl ≤ 10) (hl : l0.length + 448 ≤ 1200) : Ct l g y_Md_putLayer b_Md_putLayer 5 none (rmD 3) [.ref (R 0), .int (nI 0), .int (nI sl)] ([mdC R dn pl l0.length ss pt th rd wd sc, iaC g (R 14) 48 z, iaC g (R 15) 48 o, iaC g (R 16) 4400 d, iaC g (R 8) 1200 (dcF l0 f), iaC g (R 7) 128 (clF G0 G1), iaC g (R 17) 64 gr, iaC g (R 18) 8 r, iaC g (R 19) 8 x, iaC g (R 20) 64 p, zaC g (R 21) 64 m]) (fun u q => u = none ∧ ∃ (r1 : Bool) (w1 s1 : Nat) (z1 o1 d1 g1 r2 x1 p1 m1 : Nat → Int32), q = [mdC R dn pl ((l0 ++ chunk 3 (lyBytes 8 sl G0)).length) ss pt th r1 w1 s1, iaC g (R 14) 48 z1, iaC g (R 15) 48 o1, iaC g (R 16) 4400 d1, iaC g (R 8) 1200 (dcF (l0 ++ chunk 3 (lyBytes 8 sl G0)) f), iaC g (R 7) 128 (clF G0 G1), iaC g (R 17) 64 g1, iaC g (R 18) 8 r2, iaC g (R 19) 8 x1, iaC g (R 20) 64 p1, zaC g (R 21) 64 m1]) := by
  refine ct_of [some (.ref (R 0)), some (.int (nI 0)), some (.int (nI sl)), none, none] (by decide) (Nat.le_of_ble_eq_true rfl) rfl ?_
  intro X C E
  have key : ∀ (nn i : Nat) (q : Nat → Int32), i + nn = 64 → (∀ j, j < i → q j = flat 8 G0 j) → SW X g 5 0 0 ([mdC R dn pl l0.length ss pt th rd wd sc, iaC g (R 14) 48 z, iaC g (R 15) 48 o, iaC g (R 16) 4400 d, iaC g (R 8) 1200 (dcF l0 f), iaC g (R 7) 128 (clF G0 G1), iaC g (R 17) 64 q, iaC g (R 18) 8 r, iaC g (R 19) 8 x, iaC g (R 20) 64 p, zaC g (R 21) 64 m]) 8 [some (.ref (R 0)), some (.int (nI 0)), some (.int (nI sl)), some (.int (nI 8)), some (.int (nI i))] [] := by
    intro nn
    induction nn with
    | zero =>
      intro i q hi hq
      refine sw_iload (pc := 8) C d_Md_putLayer_8 rfl ?_
      refine sw_bipush (pc := 10) C (nI 64) d_Md_putLayer_10 (by decide) ?_
      refine sw_icmp_geN (pc := 12) C 40 (by omega) (by omega) d_Md_putLayer_12 (by decide) (fun hx => ?_) (fun hx => ?_)
      · skip
        refine sw_arr (f' := flat 8 G0) 6 rfl (fun j hj => hq j (by omega)) ?_
        refine sw_iload_n (pc := 40) C d_Md_putLayer_40 rfl rfl ?_
        refine sw_istore (pc := 41) C d_Md_putLayer_41 (by decide) rfl ?_
        refine sw_iload (pc := 43) C d_Md_putLayer_43 rfl ?_
        refine sw_iconst (pc := 45) C (nI 2) d_Md_putLayer_45 (by decide) ?_
        refine sw_icmp_ltN (pc := 46) C 74 (by omega) (by omega) d_Md_putLayer_46 (by decide) (fun hx => ?_) (fun hx => ?_)
        · skip
          omega
        refine sw_aload_n (pc := 49) C d_Md_putLayer_49 rfl rfl ?_
        refine sw_iload (pc := 50) C d_Md_putLayer_50 rfl ?_
        refine sw_iconst (pc := 52) C (nI 1) d_Md_putLayer_52 (by decide) ?_
        refine sw_topi (z := bI true) rfl ?_
        refine sw_iconst (pc := 53) C (nI 1) d_Md_putLayer_53 (by decide) ?_
        refine sw_topi (z := bI true) rfl ?_
        refine sw_callVP (pc := 54) C (c_Md_all l g R dn pl l0.length ss pt th rd wd sc (G0) r x 8 (by decide) true true) sv_Md_all t_741 rfl rfl rfl [0, 6, 7, 8] rfl rfl rfl rfl (Nat.le_of_ble_eq_true rfl) (Nat.le_of_ble_eq_true rfl) (Nat.le_of_ble_eq_true rfl) (Nat.le_of_ble_eq_true rfl) (Nat.le_of_ble_eq_true rfl) d_Md_putLayer_54 (fun v w1 hp => ?_)
        obtain ⟨rfl, ra8, xa8, rfl⟩ := hp
        refine ⟨rfl, ?_⟩
        refine sw_ws (ws' := [mdC R dn pl l0.length ss pt th rd wd sc, iaC g (R 14) 48 z, iaC g (R 15) 48 o, iaC g (R 16) 4400 d, iaC g (R 8) 1200 (dcF l0 f), iaC g (R 7) 128 (clF G0 G1), iaC g (R 17) 64 (flat 8 (rowsU (lfR 8) 8 (G0))), iaC g (R 18) 8 ra8, iaC g (R 19) 8 xa8, iaC g (R 20) 64 p, zaC g (R 21) 64 m]) rfl ?_
        refine sw_aload_n (pc := 57) C d_Md_putLayer_57 rfl rfl ?_
        refine sw_iload (pc := 58) C d_Md_putLayer_58 rfl ?_
        refine sw_iconst (pc := 60) C (nI 0) d_Md_putLayer_60 (by decide) ?_
        refine sw_topi (z := bI false) rfl ?_
        refine sw_iconst (pc := 61) C (nI 1) d_Md_putLayer_61 (by decide) ?_
        refine sw_topi (z := bI true) rfl ?_
        refine sw_callVP (pc := 62) C (c_Md_all l g R dn pl l0.length ss pt th rd wd sc (rowsU (lfR 8) 8 (G0)) ra8 xa8 8 (by decide) false true) sv_Md_all t_741 rfl rfl rfl [0, 6, 7, 8] rfl rfl rfl rfl (Nat.le_of_ble_eq_true rfl) (Nat.le_of_ble_eq_true rfl) (Nat.le_of_ble_eq_true rfl) (Nat.le_of_ble_eq_true rfl) (Nat.le_of_ble_eq_true rfl) d_Md_putLayer_62 (fun v w1 hp => ?_)
        obtain ⟨rfl, rb8, xb8, rfl⟩ := hp
        refine ⟨rfl, ?_⟩
        refine sw_ws (ws' := [mdC R dn pl l0.length ss pt th rd wd sc, iaC g (R 14) 48 z, iaC g (R 15) 48 o, iaC g (R 16) 4400 d, iaC g (R 8) 1200 (dcF l0 f), iaC g (R 7) 128 (clF G0 G1), iaC g (R 17) 64 (flat 8 (levL 8 (G0))), iaC g (R 18) 8 rb8, iaC g (R 19) 8 xb8, iaC g (R 20) 64 p, zaC g (R 21) 64 m]) rfl ?_
        refine sw_iload (pc := 65) C d_Md_putLayer_65 rfl ?_
        refine sw_iconst (pc := 67) C (nI 2) d_Md_putLayer_67 (by decide) ?_
        refine sw_idiv (pc := 68) C d_Md_putLayer_68 (by decide) ?_
        refine sw_topi (z := nI (8 / 2)) (pk_div (by omega) (by omega) (by omega)) ?_
        refine sw_topi (z := nI 4) rfl ?_
        refine sw_istore (pc := 69) C d_Md_putLayer_69 (by decide) rfl ?_
        refine sw_goto (pc := 71) C 43 d_Md_putLayer_71 (by decide) ?_
        refine sw_iload (pc := 43) C d_Md_putLayer_43 rfl ?_
        refine sw_iconst (pc := 45) C (nI 2) d_Md_putLayer_45 (by decide) ?_
        refine sw_icmp_ltN (pc := 46) C 74 (by omega) (by omega) d_Md_putLayer_46 (by decide) (fun hx => ?_) (fun hx => ?_)
        · skip
          omega
        refine sw_aload_n (pc := 49) C d_Md_putLayer_49 rfl rfl ?_
        refine sw_iload (pc := 50) C d_Md_putLayer_50 rfl ?_
        refine sw_iconst (pc := 52) C (nI 1) d_Md_putLayer_52 (by decide) ?_
        refine sw_topi (z := bI true) rfl ?_
        refine sw_iconst (pc := 53) C (nI 1) d_Md_putLayer_53 (by decide) ?_
        refine sw_topi (z := bI true) rfl ?_
        refine sw_callVP (pc := 54) C (c_Md_all l g R dn pl l0.length ss pt th rd wd sc (levL 8 (G0)) rb8 xb8 4 (by decide) true true) sv_Md_all t_741 rfl rfl rfl [0, 6, 7, 8] rfl rfl rfl rfl (Nat.le_of_ble_eq_true rfl) (Nat.le_of_ble_eq_true rfl) (Nat.le_of_ble_eq_true rfl) (Nat.le_of_ble_eq_true rfl) (Nat.le_of_ble_eq_true rfl) d_Md_putLayer_54 (fun v w1 hp => ?_)
        obtain ⟨rfl, ra4, xa4, rfl⟩ := hp
        refine ⟨rfl, ?_⟩
        refine sw_ws (ws' := [mdC R dn pl l0.length ss pt th rd wd sc, iaC g (R 14) 48 z, iaC g (R 15) 48 o, iaC g (R 16) 4400 d, iaC g (R 8) 1200 (dcF l0 f), iaC g (R 7) 128 (clF G0 G1), iaC g (R 17) 64 (flat 8 (rowsU (lfR 4) 4 (levL 8 (G0)))), iaC g (R 18) 8 ra4, iaC g (R 19) 8 xa4, iaC g (R 20) 64 p, zaC g (R 21) 64 m]) rfl ?_
        refine sw_aload_n (pc := 57) C d_Md_putLayer_57 rfl rfl ?_
        refine sw_iload (pc := 58) C d_Md_putLayer_58 rfl ?_
        refine sw_iconst (pc := 60) C (nI 0) d_Md_putLayer_60 (by decide) ?_
        refine sw_topi (z := bI false) rfl ?_
        refine sw_iconst (pc := 61) C (nI 1) d_Md_putLayer_61 (by decide) ?_
        refine sw_topi (z := bI true) rfl ?_
        refine sw_callVP (pc := 62) C (c_Md_all l g R dn pl l0.length ss pt th rd wd sc (rowsU (lfR 4) 4 (levL 8 (G0))) ra4 xa4 4 (by decide) false true) sv_Md_all t_741 rfl rfl rfl [0, 6, 7, 8] rfl rfl rfl rfl (Nat.le_of_ble_eq_true rfl) (Nat.le_of_ble_eq_true rfl) (Nat.le_of_ble_eq_true rfl) (Nat.le_of_ble_eq_true rfl) (Nat.le_of_ble_eq_true rfl) d_Md_putLayer_62 (fun v w1 hp => ?_)
        obtain ⟨rfl, rb4, xb4, rfl⟩ := hp
        refine ⟨rfl, ?_⟩
        refine sw_ws (ws' := [mdC R dn pl l0.length ss pt th rd wd sc, iaC g (R 14) 48 z, iaC g (R 15) 48 o, iaC g (R 16) 4400 d, iaC g (R 8) 1200 (dcF l0 f), iaC g (R 7) 128 (clF G0 G1), iaC g (R 17) 64 (flat 8 (levL 4 (levL 8 (G0)))), iaC g (R 18) 8 rb4, iaC g (R 19) 8 xb4, iaC g (R 20) 64 p, zaC g (R 21) 64 m]) rfl ?_
        refine sw_iload (pc := 65) C d_Md_putLayer_65 rfl ?_
        refine sw_iconst (pc := 67) C (nI 2) d_Md_putLayer_67 (by decide) ?_
        refine sw_idiv (pc := 68) C d_Md_putLayer_68 (by decide) ?_
        refine sw_topi (z := nI (4 / 2)) (pk_div (by omega) (by omega) (by omega)) ?_
        refine sw_topi (z := nI 2) rfl ?_
        refine sw_istore (pc := 69) C d_Md_putLayer_69 (by decide) rfl ?_
        refine sw_goto (pc := 71) C 43 d_Md_putLayer_71 (by decide) ?_
        refine sw_iload (pc := 43) C d_Md_putLayer_43 rfl ?_
        refine sw_iconst (pc := 45) C (nI 2) d_Md_putLayer_45 (by decide) ?_
        refine sw_icmp_ltN (pc := 46) C 74 (by omega) (by omega) d_Md_putLayer_46 (by decide) (fun hx => ?_) (fun hx => ?_)
        · skip
          omega
        refine sw_aload_n (pc := 49) C d_Md_putLayer_49 rfl rfl ?_
        refine sw_iload (pc := 50) C d_Md_putLayer_50 rfl ?_
        refine sw_iconst (pc := 52) C (nI 1) d_Md_putLayer_52 (by decide) ?_
        refine sw_topi (z := bI true) rfl ?_
        refine sw_iconst (pc := 53) C (nI 1) d_Md_putLayer_53 (by decide) ?_
        refine sw_topi (z := bI true) rfl ?_
        refine sw_callVP (pc := 54) C (c_Md_all l g R dn pl l0.length ss pt th rd wd sc (levL 4 (levL 8 (G0))) rb4 xb4 2 (by decide) true true) sv_Md_all t_741 rfl rfl rfl [0, 6, 7, 8] rfl rfl rfl rfl (Nat.le_of_ble_eq_true rfl) (Nat.le_of_ble_eq_true rfl) (Nat.le_of_ble_eq_true rfl) (Nat.le_of_ble_eq_true rfl) (Nat.le_of_ble_eq_true rfl) d_Md_putLayer_54 (fun v w1 hp => ?_)
        obtain ⟨rfl, ra2, xa2, rfl⟩ := hp
        refine ⟨rfl, ?_⟩
        refine sw_ws (ws' := [mdC R dn pl l0.length ss pt th rd wd sc, iaC g (R 14) 48 z, iaC g (R 15) 48 o, iaC g (R 16) 4400 d, iaC g (R 8) 1200 (dcF l0 f), iaC g (R 7) 128 (clF G0 G1), iaC g (R 17) 64 (flat 8 (rowsU (lfR 2) 2 (levL 4 (levL 8 (G0))))), iaC g (R 18) 8 ra2, iaC g (R 19) 8 xa2, iaC g (R 20) 64 p, zaC g (R 21) 64 m]) rfl ?_
        refine sw_aload_n (pc := 57) C d_Md_putLayer_57 rfl rfl ?_
        refine sw_iload (pc := 58) C d_Md_putLayer_58 rfl ?_
        refine sw_iconst (pc := 60) C (nI 0) d_Md_putLayer_60 (by decide) ?_
        refine sw_topi (z := bI false) rfl ?_
        refine sw_iconst (pc := 61) C (nI 1) d_Md_putLayer_61 (by decide) ?_
        refine sw_topi (z := bI true) rfl ?_
        refine sw_callVP (pc := 62) C (c_Md_all l g R dn pl l0.length ss pt th rd wd sc (rowsU (lfR 2) 2 (levL 4 (levL 8 (G0)))) ra2 xa2 2 (by decide) false true) sv_Md_all t_741 rfl rfl rfl [0, 6, 7, 8] rfl rfl rfl rfl (Nat.le_of_ble_eq_true rfl) (Nat.le_of_ble_eq_true rfl) (Nat.le_of_ble_eq_true rfl) (Nat.le_of_ble_eq_true rfl) (Nat.le_of_ble_eq_true rfl) d_Md_putLayer_62 (fun v w1 hp => ?_)
        obtain ⟨rfl, rb2, xb2, rfl⟩ := hp
        refine ⟨rfl, ?_⟩
        refine sw_ws (ws' := [mdC R dn pl l0.length ss pt th rd wd sc, iaC g (R 14) 48 z, iaC g (R 15) 48 o, iaC g (R 16) 4400 d, iaC g (R 8) 1200 (dcF l0 f), iaC g (R 7) 128 (clF G0 G1), iaC g (R 17) 64 (flat 8 (levL 2 (levL 4 (levL 8 (G0))))), iaC g (R 18) 8 rb2, iaC g (R 19) 8 xb2, iaC g (R 20) 64 p, zaC g (R 21) 64 m]) rfl ?_
        refine sw_iload (pc := 65) C d_Md_putLayer_65 rfl ?_
        refine sw_iconst (pc := 67) C (nI 2) d_Md_putLayer_67 (by decide) ?_
        refine sw_idiv (pc := 68) C d_Md_putLayer_68 (by decide) ?_
        refine sw_topi (z := nI (2 / 2)) (pk_div (by omega) (by omega) (by omega)) ?_
        refine sw_topi (z := nI 1) rfl ?_
        refine sw_istore (pc := 69) C d_Md_putLayer_69 (by decide) rfl ?_
        refine sw_goto (pc := 71) C 43 d_Md_putLayer_71 (by decide) ?_
        refine sw_iload (pc := 43) C d_Md_putLayer_43 rfl ?_
        refine sw_iconst (pc := 45) C (nI 2) d_Md_putLayer_45 (by decide) ?_
        refine sw_icmp_ltN (pc := 46) C 74 (by omega) (by omega) d_Md_putLayer_46 (by decide) (fun hx => ?_) (fun hx => ?_)
        · skip
          refine sw_ws (ws' := [mdC R dn pl l0.length ss pt th rd wd sc, iaC g (R 14) 48 z, iaC g (R 15) 48 o, iaC g (R 16) 4400 d, iaC g (R 8) 1200 (dcF l0 f), iaC g (R 7) 128 (clF G0 G1), iaC g (R 17) 64 (flat 8 (liftN 8 G0)), iaC g (R 18) 8 rb2, iaC g (R 19) 8 xb2, iaC g (R 20) 64 p, zaC g (R 21) 64 m]) rfl ?_
          refine sw_aload_n (pc := 74) C d_Md_putLayer_74 rfl rfl ?_
          refine sw_iconst (pc := 75) C (nI 3) d_Md_putLayer_75 (by decide) ?_
          refine sw_iload_n (pc := 76) C d_Md_putLayer_76 rfl rfl ?_
          refine sw_iadd (pc := 77) C d_Md_putLayer_77 ?_
          refine sw_topi (z := nI (3 + 0)) (nI_add _ _) ?_
          refine sw_callVP (pc := 78) C (c_Md_open l g R dn pl ss pt th rd wd sc l0 f (3 + 0) (by omega)) sv_Md_open t_703 rfl rfl rfl [0, 4] rfl rfl rfl rfl (Nat.le_of_ble_eq_true rfl) (Nat.le_of_ble_eq_true rfl) (Nat.le_of_ble_eq_true rfl) (Nat.le_of_ble_eq_true rfl) (Nat.le_of_ble_eq_true rfl) d_Md_putLayer_78 (fun v w1 hp => ?_)
          obtain ⟨rfl, rfl⟩ := hp
          refine ⟨rfl, ?_⟩
          refine sw_ws (ws' := [mdC R dn pl ((l0 ++ [3, 0, 0]).length) ss pt th rd wd sc, iaC g (R 14) 48 z, iaC g (R 15) 48 o, iaC g (R 16) 4400 d, iaC g (R 8) 1200 (dcF (l0 ++ [3, 0, 0]) f), iaC g (R 7) 128 (clF G0 G1), iaC g (R 17) 64 (flat 8 (liftN 8 G0)), iaC g (R 18) 8 rb2, iaC g (R 19) 8 xb2, iaC g (R 20) 64 p, zaC g (R 21) 64 m]) rfl ?_
          refine sw_istore (pc := 81) C d_Md_putLayer_81 (by decide) rfl ?_
          refine sw_aload_n (pc := 83) C d_Md_putLayer_83 rfl rfl ?_
          refine sw_iload_n (pc := 84) C d_Md_putLayer_84 rfl rfl ?_
          refine sw_callVP (pc := 85) C (c_Md_put l g R dn pl ss pt th rd wd sc (l0 ++ [3, 0, 0]) f sl (by simp only [List.length_append, List.length_cons, List.length_nil]; omega)) sv_Md_put t_695 rfl rfl rfl [0, 4] rfl rfl rfl rfl (Nat.le_of_ble_eq_true rfl) (Nat.le_of_ble_eq_true rfl) (Nat.le_of_ble_eq_true rfl) (Nat.le_of_ble_eq_true rfl) (Nat.le_of_ble_eq_true rfl) d_Md_putLayer_85 (fun v w1 hp => ?_)
          obtain ⟨rfl, rfl⟩ := hp
          refine ⟨rfl, ?_⟩
          refine sw_ws (ws' := [mdC R dn pl ((l0 ++ [3, 0, 0] ++ [sl]).length) ss pt th rd wd sc, iaC g (R 14) 48 z, iaC g (R 15) 48 o, iaC g (R 16) 4400 d, iaC g (R 8) 1200 (dcF (l0 ++ [3, 0, 0] ++ [sl]) f), iaC g (R 7) 128 (clF G0 G1), iaC g (R 17) 64 (flat 8 (liftN 8 G0)), iaC g (R 18) 8 rb2, iaC g (R 19) 8 xb2, iaC g (R 20) 64 p, zaC g (R 21) 64 m]) rfl ?_
          refine sw_aload_n (pc := 88) C d_Md_putLayer_88 rfl rfl ?_
          refine sw_iconst (pc := 89) C (nI 0) d_Md_putLayer_89 (by decide) ?_
          refine sw_topi (z := bI false) rfl ?_
          refine sw_callVP (pc := 90) C (c_Md_begin l g R dn pl (l0 ++ [3, 0, 0] ++ [sl]).length ss pt th rd wd sc false z o d) sv_Md_begin t_707 rfl rfl rfl [0, 1, 2, 3] rfl rfl rfl rfl (Nat.le_of_ble_eq_true rfl) (Nat.le_of_ble_eq_true rfl) (Nat.le_of_ble_eq_true rfl) (Nat.le_of_ble_eq_true rfl) (Nat.le_of_ble_eq_true rfl) d_Md_putLayer_90 (fun v w1 hp => ?_)
          obtain ⟨rfl, rfl⟩ := hp
          refine ⟨rfl, ?_⟩
          refine sw_ws (ws' := wKm g R dn pl (l0 ++ [3, 0, 0] ++ [sl]).length ss pt th none (kInit none) ++ [iaC g (R 8) 1200 (dcF (l0 ++ [3, 0, 0] ++ [sl]) f), iaC g (R 7) 128 (clF G0 G1), iaC g (R 17) 64 (flat 8 (liftN 8 G0)), iaC g (R 18) 8 rb2, iaC g (R 19) 8 xb2, iaC g (R 20) 64 p, zaC g (R 21) 64 m]) (by rw [wKm_0]; rfl) ?_
          refine sw_aload_n (pc := 93) C d_Md_putLayer_93 rfl rfl ?_
          refine sw_iload_n (pc := 94) C d_Md_putLayer_94 rfl rfl ?_
          refine sw_iload_n (pc := 95) C d_Md_putLayer_95 rfl rfl ?_
          refine sw_callVP (pc := 96) C (c_Md_planes l g R dn pl (l0 ++ [3, 0, 0] ++ [sl]).length ss pt th none (fun D h => by cases h) 8 (by decide) sl hsl (flat 8 (liftN 8 G0)) (flat 8 (liftN 8 G0)) (flat_i8 8 (by decide) (liftN 8 G0)) p m) sv_Md_planes t_756 rfl rfl rfl [0, 1, 2, 3, 6, 9, 10] rfl rfl rfl rfl (Nat.le_of_ble_eq_true rfl) (Nat.le_of_ble_eq_true rfl) (Nat.le_of_ble_eq_true rfl) (Nat.le_of_ble_eq_true rfl) (Nat.le_of_ble_eq_true rfl) d_Md_putLayer_96 (fun v w1 hp => ?_)
          obtain ⟨rfl, p8, m8, hr, rfl⟩ := hp
          refine ⟨rfl, ?_⟩
          refine sw_ws (ws' := wKm g R dn pl (l0 ++ [3, 0, 0] ++ [sl]).length ss pt th none ((lyP none 8 (flat 8 (liftN 8 G0)) sl).1) ++ [iaC g (R 8) 1200 (dcF (l0 ++ [3, 0, 0] ++ [sl]) f), iaC g (R 7) 128 (clF G0 G1), iaC g (R 17) 64 (flat 8 (liftN 8 G0)), iaC g (R 18) 8 rb2, iaC g (R 19) 8 xb2, iaC g (R 20) 64 (nF p8), zaC g (R 21) 64 (bF m8)]) rfl ?_
          have hsc := myP_sc (md := none) (n := 8) (cf := (flat 8 (liftN 8 G0))) (sl := sl) (fun D h => by cases h) (by decide) hsl
          refine sw_aload_n (pc := 99) C d_Md_putLayer_99 rfl rfl ?_
          refine sw_callVP (pc := 100) C (c_Md_putCode l g R dn pl ss pt th false (lyP none 8 (flat 8 (liftN 8 G0)) sl).1.1.2.2.1 (lyP none 8 (flat 8 (liftN 8 G0)) sl).1.1.2.2.2 (l0 ++ [3, 0, 0] ++ [sl]) f (lyP none 8 (flat 8 (liftN 8 G0)) sl).1.2 (by omega) (by simp only [List.length_append, List.length_cons, List.length_nil]; omega)) sv_Md_putCode t_729 rfl rfl rfl [0, 3, 4] rfl rfl rfl rfl (Nat.le_of_ble_eq_true rfl) (Nat.le_of_ble_eq_true rfl) (Nat.le_of_ble_eq_true rfl) (Nat.le_of_ble_eq_true rfl) (Nat.le_of_ble_eq_true rfl) d_Md_putLayer_100 (fun v w1 hp => ?_)
          obtain ⟨rfl, rfl⟩ := hp
          refine ⟨rfl, ?_⟩
          refine sw_ws (ws' := [mdC R dn pl ((l0 ++ [3, 0, 0] ++ [sl] ++ cbytes (lyP none 8 (flat 8 (liftN 8 G0)) sl).1.2 (lyP none 8 (flat 8 (liftN 8 G0)) sl).1.1.2.2.2).length) ss pt th false ((lyP none 8 (flat 8 (liftN 8 G0)) sl).1.1.2.2.1) ((lyP none 8 (flat 8 (liftN 8 G0)) sl).1.1.2.2.2), iaC g (R 14) 48 (nF (lyP none 8 (flat 8 (liftN 8 G0)) sl).1.1.1), iaC g (R 15) 48 (nF (lyP none 8 (flat 8 (liftN 8 G0)) sl).1.1.2.1), iaC g (R 16) 4400 (nF (rdg (fun _ => 0) (lyP none 8 (flat 8 (liftN 8 G0)) sl).1.2 (lyP none 8 (flat 8 (liftN 8 G0)) sl).1.1.2.2.2)), iaC g (R 8) 1200 (dcF (l0 ++ [3, 0, 0] ++ [sl] ++ cbytes (lyP none 8 (flat 8 (liftN 8 G0)) sl).1.2 (lyP none 8 (flat 8 (liftN 8 G0)) sl).1.1.2.2.2) f), iaC g (R 7) 128 (clF G0 G1), iaC g (R 17) 64 (flat 8 (liftN 8 G0)), iaC g (R 18) 8 rb2, iaC g (R 19) 8 xb2, iaC g (R 20) 64 (nF p8), zaC g (R 21) 64 (bF m8)]) rfl ?_
          refine sw_aload_n (pc := 103) C d_Md_putLayer_103 rfl rfl ?_
          refine sw_iload (pc := 104) C d_Md_putLayer_104 rfl ?_
          refine sw_callVP (pc := 106) C (c_Md_close l g R dn pl ss pt th false (lyP none 8 (flat 8 (liftN 8 G0)) sl).1.1.2.2.1 (lyP none 8 (flat 8 (liftN 8 G0)) sl).1.1.2.2.2 (l0 ++ [3, 0, 0] ++ [sl] ++ cbytes (lyP none 8 (flat 8 (liftN 8 G0)) sl).1.2 (lyP none 8 (flat 8 (liftN 8 G0)) sl).1.1.2.2.2) f (l0.length + 3) (by omega) (by simp only [List.length_append, List.length_cons, List.length_nil]; omega) (by have := cbytes_len (lyP none 8 (flat 8 (liftN 8 G0)) sl).1.2 (lyP none 8 (flat 8 (liftN 8 G0)) sl).1.1.2.2.2; simp only [List.length_append, List.length_cons, List.length_nil]; omega)) sv_Md_close t_733 rfl rfl rfl [0, 4] rfl rfl rfl rfl (Nat.le_of_ble_eq_true rfl) (Nat.le_of_ble_eq_true rfl) (Nat.le_of_ble_eq_true rfl) (Nat.le_of_ble_eq_true rfl) (Nat.le_of_ble_eq_true rfl) d_Md_putLayer_106 (fun v w1 hp => ?_)
          obtain ⟨rfl, rfl⟩ := hp
          refine ⟨rfl, ?_⟩
          have ec : clsL (l0 ++ [3, 0, 0] ++ [sl] ++ cbytes (lyP none 8 (flat 8 (liftN 8 G0)) sl).1.2 (lyP none 8 (flat 8 (liftN 8 G0)) sl).1.1.2.2.2) (l0.length + 3) = (l0 ++ chunk 3 (lyBytes 8 sl G0)) := by
            have e := cls_chunk l0 3 (lyBytes 8 sl G0)
            rw [show l0 ++ [3, 0, 0] ++ [sl] ++ cbytes (lyP none 8 (flat 8 (liftN 8 G0)) sl).1.2 (lyP none 8 (flat 8 (liftN 8 G0)) sl).1.1.2.2.2 = l0 ++ [3, 0, 0] ++ lyBytes 8 sl G0 by unfold lyBytes; simp]
            exact e
          rw [ec]
          exact sw_vret (pc := 109) C E rfl (Nat.le_of_ble_eq_true rfl) (Nat.le_of_ble_eq_true rfl) d_Md_putLayer_109 ⟨rfl, _, _, _, _, _, _, _, _, _, _, _, rfl⟩
        omega
      omega
    | succ nn ih =>
      intro i q hi hq
      refine sw_iload (pc := 8) C d_Md_putLayer_8 rfl ?_
      refine sw_bipush (pc := 10) C (nI 64) d_Md_putLayer_10 (by decide) ?_
      refine sw_icmp_geN (pc := 12) C 40 (by omega) (by omega) d_Md_putLayer_12 (by decide) (fun hx => ?_) (fun hx => ?_)
      · skip
        omega
      refine sw_aload_n (pc := 15) C d_Md_putLayer_15 rfl rfl ?_
      refine sw_get (pc := 16) C inMd 0 rfl rfl 25 (by decide) t_597 rfl rfl d_Md_putLayer_16 ?_
      refine sw_iload (pc := 19) C d_Md_putLayer_19 rfl ?_
      refine sw_aload_n (pc := 21) C d_Md_putLayer_21 rfl rfl ?_
      refine sw_get (pc := 22) C inMd 0 rfl rfl 8 (by decide) t_580 rfl rfl d_Md_putLayer_22 ?_
      refine sw_bipush (pc := 25) C (nI 64) d_Md_putLayer_25 (by decide) ?_
      refine sw_iload_n (pc := 27) C d_Md_putLayer_27 rfl rfl ?_
      refine sw_imul (pc := 28) C d_Md_putLayer_28 ?_
      refine sw_topi (z := nI (64 * 0)) (pk_mul _ _) ?_
      refine sw_iload (pc := 29) C d_Md_putLayer_29 rfl ?_
      refine sw_iadd (pc := 31) C d_Md_putLayer_31 ?_
      refine sw_topi (z := nI ((64 * 0) + i)) (nI_add _ _) ?_
      refine sw_ialdN (pc := 32) C 5 ((64 * 0) + i) rfl rfl (by omega) (by decide) d_Md_putLayer_32 ?_
      refine sw_topi (z := flat 8 G0 i) (clF_0 _ _ (by omega)) ?_
      refine sw_iastN (pc := 33) C 6 i rfl rfl (by omega) (by decide) d_Md_putLayer_33 ?_
      refine sw_iincN (pc := 34) C 1 d_Md_putLayer_34 rfl (by decide) (by decide) rfl ?_
      refine sw_goto (pc := 37) C 8 d_Md_putLayer_37 (by decide) ?_
      refine ih (i + 1) (upd q i (flat 8 G0 i)) (by omega) (fun j hj => ?_)
      unfold upd
      by_cases e : j = i
      · rw [if_pos e, e]
      · rw [if_neg e]; exact hq j (by omega)
  refine sw_iload_n (pc := 0) C d_Md_putLayer_0 rfl rfl ?_
  refine sw_callSR (pc := 1) C (c_Md_side l g (nI 0)) ss_Md_side t_683 [] rfl rfl rfl rfl (Nat.le_of_ble_eq_true rfl) (Nat.le_of_ble_eq_true rfl) (Nat.le_of_ble_eq_true rfl) (Nat.le_of_ble_eq_true rfl) (Nat.le_of_ble_eq_true rfl) d_Md_putLayer_1 (fun v w1 hp => ?_)
  obtain ⟨rfl, rfl⟩ := hp
  refine ⟨rfl, ?_⟩
  refine sw_topi (z := nI 8) rfl ?_
  refine sw_istore_n (pc := 4) C d_Md_putLayer_4 rfl (by decide) rfl ?_
  refine sw_iconst (pc := 5) C (nI 0) d_Md_putLayer_5 (by decide) ?_
  refine sw_istore (pc := 6) C d_Md_putLayer_6 (by decide) rfl ?_
  exact key 64 0 gr (by omega) (fun j hj => absurd hj (Nat.not_lt_zero _))
set_option maxRecDepth 100000 in
set_option maxHeartbeats 4000000 in
theorem c_Md_putLy1 (l : Launch) (g : Gl) (R : Nat → Nat) (dn pl ss pt : Nat) (th rd : Bool) (wd sc : Nat) (l0 : List Nat) (f z o d : Nat → Int32) (G0 G1 : Nat → Nat → Int32) (gr r x p m : Nat → Int32) (sl : Nat) (hsl : sl ≤ 10) (hl : l0.length + 120 ≤ 1200) : Ct l g y_Md_putLayer b_Md_putLayer 5 none (rmD 3) [.ref (R 0), .int (nI 1), .int (nI sl)] ([mdC R dn pl l0.length ss pt th rd wd sc, iaC g (R 14) 48 z, iaC g (R 15) 48 o, iaC g (R 16) 4400 d, iaC g (R 8) 1200 (dcF l0 f), iaC g (R 7) 128 (clF G0 G1), iaC g (R 17) 64 gr, iaC g (R 18) 8 r, iaC g (R 19) 8 x, iaC g (R 20) 64 p, zaC g (R 21) 64 m]) (fun u q => u = none ∧ ∃ (r1 : Bool) (w1 s1 : Nat) (z1 o1 d1 g1 r2 x1 p1 m1 : Nat → Int32), q = [mdC R dn pl ((l0 ++ chunk 4 (lyBytes 4 sl G1)).length) ss pt th r1 w1 s1, iaC g (R 14) 48 z1, iaC g (R 15) 48 o1, iaC g (R 16) 4400 d1, iaC g (R 8) 1200 (dcF (l0 ++ chunk 4 (lyBytes 4 sl G1)) f), iaC g (R 7) 128 (clF G0 G1), iaC g (R 17) 64 g1, iaC g (R 18) 8 r2, iaC g (R 19) 8 x1, iaC g (R 20) 64 p1, zaC g (R 21) 64 m1]) := by
  refine ct_of [some (.ref (R 0)), some (.int (nI 1)), some (.int (nI sl)), none, none] (by decide) (Nat.le_of_ble_eq_true rfl) rfl ?_
  intro X C E
  have key : ∀ (nn i : Nat) (q : Nat → Int32), i + nn = 64 → (∀ j, j < i → q j = flat 8 G1 j) → SW X g 5 0 0 ([mdC R dn pl l0.length ss pt th rd wd sc, iaC g (R 14) 48 z, iaC g (R 15) 48 o, iaC g (R 16) 4400 d, iaC g (R 8) 1200 (dcF l0 f), iaC g (R 7) 128 (clF G0 G1), iaC g (R 17) 64 q, iaC g (R 18) 8 r, iaC g (R 19) 8 x, iaC g (R 20) 64 p, zaC g (R 21) 64 m]) 8 [some (.ref (R 0)), some (.int (nI 1)), some (.int (nI sl)), some (.int (nI 4)), some (.int (nI i))] [] := by
    intro nn
    induction nn with
    | zero =>
      intro i q hi hq
      refine sw_iload (pc := 8) C d_Md_putLayer_8 rfl ?_
      refine sw_bipush (pc := 10) C (nI 64) d_Md_putLayer_10 (by decide) ?_
      refine sw_icmp_geN (pc := 12) C 40 (by omega) (by omega) d_Md_putLayer_12 (by decide) (fun hx => ?_) (fun hx => ?_)
      · skip
        refine sw_arr (f' := flat 8 G1) 6 rfl (fun j hj => hq j (by omega)) ?_
        refine sw_iload_n (pc := 40) C d_Md_putLayer_40 rfl rfl ?_
        refine sw_istore (pc := 41) C d_Md_putLayer_41 (by decide) rfl ?_
        refine sw_iload (pc := 43) C d_Md_putLayer_43 rfl ?_
        refine sw_iconst (pc := 45) C (nI 2) d_Md_putLayer_45 (by decide) ?_
        refine sw_icmp_ltN (pc := 46) C 74 (by omega) (by omega) d_Md_putLayer_46 (by decide) (fun hx => ?_) (fun hx => ?_)
        · skip
          omega
        refine sw_aload_n (pc := 49) C d_Md_putLayer_49 rfl rfl ?_
        refine sw_iload (pc := 50) C d_Md_putLayer_50 rfl ?_
        refine sw_iconst (pc := 52) C (nI 1) d_Md_putLayer_52 (by decide) ?_
        refine sw_topi (z := bI true) rfl ?_
        refine sw_iconst (pc := 53) C (nI 1) d_Md_putLayer_53 (by decide) ?_
        refine sw_topi (z := bI true) rfl ?_
        refine sw_callVP (pc := 54) C (c_Md_all l g R dn pl l0.length ss pt th rd wd sc (G1) r x 4 (by decide) true true) sv_Md_all t_741 rfl rfl rfl [0, 6, 7, 8] rfl rfl rfl rfl (Nat.le_of_ble_eq_true rfl) (Nat.le_of_ble_eq_true rfl) (Nat.le_of_ble_eq_true rfl) (Nat.le_of_ble_eq_true rfl) (Nat.le_of_ble_eq_true rfl) d_Md_putLayer_54 (fun v w1 hp => ?_)
        obtain ⟨rfl, ra4, xa4, rfl⟩ := hp
        refine ⟨rfl, ?_⟩
        refine sw_ws (ws' := [mdC R dn pl l0.length ss pt th rd wd sc, iaC g (R 14) 48 z, iaC g (R 15) 48 o, iaC g (R 16) 4400 d, iaC g (R 8) 1200 (dcF l0 f), iaC g (R 7) 128 (clF G0 G1), iaC g (R 17) 64 (flat 8 (rowsU (lfR 4) 4 (G1))), iaC g (R 18) 8 ra4, iaC g (R 19) 8 xa4, iaC g (R 20) 64 p, zaC g (R 21) 64 m]) rfl ?_
        refine sw_aload_n (pc := 57) C d_Md_putLayer_57 rfl rfl ?_
        refine sw_iload (pc := 58) C d_Md_putLayer_58 rfl ?_
        refine sw_iconst (pc := 60) C (nI 0) d_Md_putLayer_60 (by decide) ?_
        refine sw_topi (z := bI false) rfl ?_
        refine sw_iconst (pc := 61) C (nI 1) d_Md_putLayer_61 (by decide) ?_
        refine sw_topi (z := bI true) rfl ?_
        refine sw_callVP (pc := 62) C (c_Md_all l g R dn pl l0.length ss pt th rd wd sc (rowsU (lfR 4) 4 (G1)) ra4 xa4 4 (by decide) false true) sv_Md_all t_741 rfl rfl rfl [0, 6, 7, 8] rfl rfl rfl rfl (Nat.le_of_ble_eq_true rfl) (Nat.le_of_ble_eq_true rfl) (Nat.le_of_ble_eq_true rfl) (Nat.le_of_ble_eq_true rfl) (Nat.le_of_ble_eq_true rfl) d_Md_putLayer_62 (fun v w1 hp => ?_)
        obtain ⟨rfl, rb4, xb4, rfl⟩ := hp
        refine ⟨rfl, ?_⟩
        refine sw_ws (ws' := [mdC R dn pl l0.length ss pt th rd wd sc, iaC g (R 14) 48 z, iaC g (R 15) 48 o, iaC g (R 16) 4400 d, iaC g (R 8) 1200 (dcF l0 f), iaC g (R 7) 128 (clF G0 G1), iaC g (R 17) 64 (flat 8 (levL 4 (G1))), iaC g (R 18) 8 rb4, iaC g (R 19) 8 xb4, iaC g (R 20) 64 p, zaC g (R 21) 64 m]) rfl ?_
        refine sw_iload (pc := 65) C d_Md_putLayer_65 rfl ?_
        refine sw_iconst (pc := 67) C (nI 2) d_Md_putLayer_67 (by decide) ?_
        refine sw_idiv (pc := 68) C d_Md_putLayer_68 (by decide) ?_
        refine sw_topi (z := nI (4 / 2)) (pk_div (by omega) (by omega) (by omega)) ?_
        refine sw_topi (z := nI 2) rfl ?_
        refine sw_istore (pc := 69) C d_Md_putLayer_69 (by decide) rfl ?_
        refine sw_goto (pc := 71) C 43 d_Md_putLayer_71 (by decide) ?_
        refine sw_iload (pc := 43) C d_Md_putLayer_43 rfl ?_
        refine sw_iconst (pc := 45) C (nI 2) d_Md_putLayer_45 (by decide) ?_
        refine sw_icmp_ltN (pc := 46) C 74 (by omega) (by omega) d_Md_putLayer_46 (by decide) (fun hx => ?_) (fun hx => ?_)
        · skip
          omega
        refine sw_aload_n (pc := 49) C d_Md_putLayer_49 rfl rfl ?_
        refine sw_iload (pc := 50) C d_Md_putLayer_50 rfl ?_
        refine sw_iconst (pc := 52) C (nI 1) d_Md_putLayer_52 (by decide) ?_
        refine sw_topi (z := bI true) rfl ?_
        refine sw_iconst (pc := 53) C (nI 1) d_Md_putLayer_53 (by decide) ?_
        refine sw_topi (z := bI true) rfl ?_
        refine sw_callVP (pc := 54) C (c_Md_all l g R dn pl l0.length ss pt th rd wd sc (levL 4 (G1)) rb4 xb4 2 (by decide) true true) sv_Md_all t_741 rfl rfl rfl [0, 6, 7, 8] rfl rfl rfl rfl (Nat.le_of_ble_eq_true rfl) (Nat.le_of_ble_eq_true rfl) (Nat.le_of_ble_eq_true rfl) (Nat.le_of_ble_eq_true rfl) (Nat.le_of_ble_eq_true rfl) d_Md_putLayer_54 (fun v w1 hp => ?_)
        obtain ⟨rfl, ra2, xa2, rfl⟩ := hp
        refine ⟨rfl, ?_⟩
        refine sw_ws (ws' := [mdC R dn pl l0.length ss pt th rd wd sc, iaC g (R 14) 48 z, iaC g (R 15) 48 o, iaC g (R 16) 4400 d, iaC g (R 8) 1200 (dcF l0 f), iaC g (R 7) 128 (clF G0 G1), iaC g (R 17) 64 (flat 8 (rowsU (lfR 2) 2 (levL 4 (G1)))), iaC g (R 18) 8 ra2, iaC g (R 19) 8 xa2, iaC g (R 20) 64 p, zaC g (R 21) 64 m]) rfl ?_
        refine sw_aload_n (pc := 57) C d_Md_putLayer_57 rfl rfl ?_
        refine sw_iload (pc := 58) C d_Md_putLayer_58 rfl ?_
        refine sw_iconst (pc := 60) C (nI 0) d_Md_putLayer_60 (by decide) ?_
        refine sw_topi (z := bI false) rfl ?_
        refine sw_iconst (pc := 61) C (nI 1) d_Md_putLayer_61 (by decide) ?_
        refine sw_topi (z := bI true) rfl ?_
        refine sw_callVP (pc := 62) C (c_Md_all l g R dn pl l0.length ss pt th rd wd sc (rowsU (lfR 2) 2 (levL 4 (G1))) ra2 xa2 2 (by decide) false true) sv_Md_all t_741 rfl rfl rfl [0, 6, 7, 8] rfl rfl rfl rfl (Nat.le_of_ble_eq_true rfl) (Nat.le_of_ble_eq_true rfl) (Nat.le_of_ble_eq_true rfl) (Nat.le_of_ble_eq_true rfl) (Nat.le_of_ble_eq_true rfl) d_Md_putLayer_62 (fun v w1 hp => ?_)
        obtain ⟨rfl, rb2, xb2, rfl⟩ := hp
        refine ⟨rfl, ?_⟩
        refine sw_ws (ws' := [mdC R dn pl l0.length ss pt th rd wd sc, iaC g (R 14) 48 z, iaC g (R 15) 48 o, iaC g (R 16) 4400 d, iaC g (R 8) 1200 (dcF l0 f), iaC g (R 7) 128 (clF G0 G1), iaC g (R 17) 64 (flat 8 (levL 2 (levL 4 (G1)))), iaC g (R 18) 8 rb2, iaC g (R 19) 8 xb2, iaC g (R 20) 64 p, zaC g (R 21) 64 m]) rfl ?_
        refine sw_iload (pc := 65) C d_Md_putLayer_65 rfl ?_
        refine sw_iconst (pc := 67) C (nI 2) d_Md_putLayer_67 (by decide) ?_
        refine sw_idiv (pc := 68) C d_Md_putLayer_68 (by decide) ?_
        refine sw_topi (z := nI (2 / 2)) (pk_div (by omega) (by omega) (by omega)) ?_
        refine sw_topi (z := nI 1) rfl ?_
        refine sw_istore (pc := 69) C d_Md_putLayer_69 (by decide) rfl ?_
        refine sw_goto (pc := 71) C 43 d_Md_putLayer_71 (by decide) ?_
        refine sw_iload (pc := 43) C d_Md_putLayer_43 rfl ?_
        refine sw_iconst (pc := 45) C (nI 2) d_Md_putLayer_45 (by decide) ?_
        refine sw_icmp_ltN (pc := 46) C 74 (by omega) (by omega) d_Md_putLayer_46 (by decide) (fun hx => ?_) (fun hx => ?_)
        · skip
          refine sw_ws (ws' := [mdC R dn pl l0.length ss pt th rd wd sc, iaC g (R 14) 48 z, iaC g (R 15) 48 o, iaC g (R 16) 4400 d, iaC g (R 8) 1200 (dcF l0 f), iaC g (R 7) 128 (clF G0 G1), iaC g (R 17) 64 (flat 8 (liftN 4 G1)), iaC g (R 18) 8 rb2, iaC g (R 19) 8 xb2, iaC g (R 20) 64 p, zaC g (R 21) 64 m]) rfl ?_
          refine sw_aload_n (pc := 74) C d_Md_putLayer_74 rfl rfl ?_
          refine sw_iconst (pc := 75) C (nI 3) d_Md_putLayer_75 (by decide) ?_
          refine sw_iload_n (pc := 76) C d_Md_putLayer_76 rfl rfl ?_
          refine sw_iadd (pc := 77) C d_Md_putLayer_77 ?_
          refine sw_topi (z := nI (3 + 1)) (nI_add _ _) ?_
          refine sw_callVP (pc := 78) C (c_Md_open l g R dn pl ss pt th rd wd sc l0 f (3 + 1) (by omega)) sv_Md_open t_703 rfl rfl rfl [0, 4] rfl rfl rfl rfl (Nat.le_of_ble_eq_true rfl) (Nat.le_of_ble_eq_true rfl) (Nat.le_of_ble_eq_true rfl) (Nat.le_of_ble_eq_true rfl) (Nat.le_of_ble_eq_true rfl) d_Md_putLayer_78 (fun v w1 hp => ?_)
          obtain ⟨rfl, rfl⟩ := hp
          refine ⟨rfl, ?_⟩
          refine sw_ws (ws' := [mdC R dn pl ((l0 ++ [4, 0, 0]).length) ss pt th rd wd sc, iaC g (R 14) 48 z, iaC g (R 15) 48 o, iaC g (R 16) 4400 d, iaC g (R 8) 1200 (dcF (l0 ++ [4, 0, 0]) f), iaC g (R 7) 128 (clF G0 G1), iaC g (R 17) 64 (flat 8 (liftN 4 G1)), iaC g (R 18) 8 rb2, iaC g (R 19) 8 xb2, iaC g (R 20) 64 p, zaC g (R 21) 64 m]) rfl ?_
          refine sw_istore (pc := 81) C d_Md_putLayer_81 (by decide) rfl ?_
          refine sw_aload_n (pc := 83) C d_Md_putLayer_83 rfl rfl ?_
          refine sw_iload_n (pc := 84) C d_Md_putLayer_84 rfl rfl ?_
          refine sw_callVP (pc := 85) C (c_Md_put l g R dn pl ss pt th rd wd sc (l0 ++ [4, 0, 0]) f sl (by simp only [List.length_append, List.length_cons, List.length_nil]; omega)) sv_Md_put t_695 rfl rfl rfl [0, 4] rfl rfl rfl rfl (Nat.le_of_ble_eq_true rfl) (Nat.le_of_ble_eq_true rfl) (Nat.le_of_ble_eq_true rfl) (Nat.le_of_ble_eq_true rfl) (Nat.le_of_ble_eq_true rfl) d_Md_putLayer_85 (fun v w1 hp => ?_)
          obtain ⟨rfl, rfl⟩ := hp
          refine ⟨rfl, ?_⟩
          refine sw_ws (ws' := [mdC R dn pl ((l0 ++ [4, 0, 0] ++ [sl]).length) ss pt th rd wd sc, iaC g (R 14) 48 z, iaC g (R 15) 48 o, iaC g (R 16) 4400 d, iaC g (R 8) 1200 (dcF (l0 ++ [4, 0, 0] ++ [sl]) f), iaC g (R 7) 128 (clF G0 G1), iaC g (R 17) 64 (flat 8 (liftN 4 G1)), iaC g (R 18) 8 rb2, iaC g (R 19) 8 xb2, iaC g (R 20) 64 p, zaC g (R 21) 64 m]) rfl ?_
          refine sw_aload_n (pc := 88) C d_Md_putLayer_88 rfl rfl ?_
          refine sw_iconst (pc := 89) C (nI 0) d_Md_putLayer_89 (by decide) ?_
          refine sw_topi (z := bI false) rfl ?_
          refine sw_callVP (pc := 90) C (c_Md_begin l g R dn pl (l0 ++ [4, 0, 0] ++ [sl]).length ss pt th rd wd sc false z o d) sv_Md_begin t_707 rfl rfl rfl [0, 1, 2, 3] rfl rfl rfl rfl (Nat.le_of_ble_eq_true rfl) (Nat.le_of_ble_eq_true rfl) (Nat.le_of_ble_eq_true rfl) (Nat.le_of_ble_eq_true rfl) (Nat.le_of_ble_eq_true rfl) d_Md_putLayer_90 (fun v w1 hp => ?_)
          obtain ⟨rfl, rfl⟩ := hp
          refine ⟨rfl, ?_⟩
          refine sw_ws (ws' := wKm g R dn pl (l0 ++ [4, 0, 0] ++ [sl]).length ss pt th none (kInit none) ++ [iaC g (R 8) 1200 (dcF (l0 ++ [4, 0, 0] ++ [sl]) f), iaC g (R 7) 128 (clF G0 G1), iaC g (R 17) 64 (flat 8 (liftN 4 G1)), iaC g (R 18) 8 rb2, iaC g (R 19) 8 xb2, iaC g (R 20) 64 p, zaC g (R 21) 64 m]) (by rw [wKm_0]; rfl) ?_
          refine sw_aload_n (pc := 93) C d_Md_putLayer_93 rfl rfl ?_
          refine sw_iload_n (pc := 94) C d_Md_putLayer_94 rfl rfl ?_
          refine sw_iload_n (pc := 95) C d_Md_putLayer_95 rfl rfl ?_
          refine sw_callVP (pc := 96) C (c_Md_planes l g R dn pl (l0 ++ [4, 0, 0] ++ [sl]).length ss pt th none (fun D h => by cases h) 4 (by decide) sl hsl (flat 4 (liftN 4 G1)) (flat 8 (liftN 4 G1)) (flat_i8 4 (by decide) (liftN 4 G1)) p m) sv_Md_planes t_756 rfl rfl rfl [0, 1, 2, 3, 6, 9, 10] rfl rfl rfl rfl (Nat.le_of_ble_eq_true rfl) (Nat.le_of_ble_eq_true rfl) (Nat.le_of_ble_eq_true rfl) (Nat.le_of_ble_eq_true rfl) (Nat.le_of_ble_eq_true rfl) d_Md_putLayer_96 (fun v w1 hp => ?_)
          obtain ⟨rfl, p8, m8, hr, rfl⟩ := hp
          refine ⟨rfl, ?_⟩
          refine sw_ws (ws' := wKm g R dn pl (l0 ++ [4, 0, 0] ++ [sl]).length ss pt th none ((lyP none 4 (flat 4 (liftN 4 G1)) sl).1) ++ [iaC g (R 8) 1200 (dcF (l0 ++ [4, 0, 0] ++ [sl]) f), iaC g (R 7) 128 (clF G0 G1), iaC g (R 17) 64 (flat 8 (liftN 4 G1)), iaC g (R 18) 8 rb2, iaC g (R 19) 8 xb2, iaC g (R 20) 64 (nF p8), zaC g (R 21) 64 (bF m8)]) rfl ?_
          have hsc := myP_sc (md := none) (n := 4) (cf := (flat 4 (liftN 4 G1))) (sl := sl) (fun D h => by cases h) (by decide) hsl
          refine sw_aload_n (pc := 99) C d_Md_putLayer_99 rfl rfl ?_
          refine sw_callVP (pc := 100) C (c_Md_putCode l g R dn pl ss pt th false (lyP none 4 (flat 4 (liftN 4 G1)) sl).1.1.2.2.1 (lyP none 4 (flat 4 (liftN 4 G1)) sl).1.1.2.2.2 (l0 ++ [4, 0, 0] ++ [sl]) f (lyP none 4 (flat 4 (liftN 4 G1)) sl).1.2 (by omega) (by simp only [List.length_append, List.length_cons, List.length_nil]; omega)) sv_Md_putCode t_729 rfl rfl rfl [0, 3, 4] rfl rfl rfl rfl (Nat.le_of_ble_eq_true rfl) (Nat.le_of_ble_eq_true rfl) (Nat.le_of_ble_eq_true rfl) (Nat.le_of_ble_eq_true rfl) (Nat.le_of_ble_eq_true rfl) d_Md_putLayer_100 (fun v w1 hp => ?_)
          obtain ⟨rfl, rfl⟩ := hp
          refine ⟨rfl, ?_⟩
          refine sw_ws (ws' := [mdC R dn pl ((l0 ++ [4, 0, 0] ++ [sl] ++ cbytes (lyP none 4 (flat 4 (liftN 4 G1)) sl).1.2 (lyP none 4 (flat 4 (liftN 4 G1)) sl).1.1.2.2.2).length) ss pt th false ((lyP none 4 (flat 4 (liftN 4 G1)) sl).1.1.2.2.1) ((lyP none 4 (flat 4 (liftN 4 G1)) sl).1.1.2.2.2), iaC g (R 14) 48 (nF (lyP none 4 (flat 4 (liftN 4 G1)) sl).1.1.1), iaC g (R 15) 48 (nF (lyP none 4 (flat 4 (liftN 4 G1)) sl).1.1.2.1), iaC g (R 16) 4400 (nF (rdg (fun _ => 0) (lyP none 4 (flat 4 (liftN 4 G1)) sl).1.2 (lyP none 4 (flat 4 (liftN 4 G1)) sl).1.1.2.2.2)), iaC g (R 8) 1200 (dcF (l0 ++ [4, 0, 0] ++ [sl] ++ cbytes (lyP none 4 (flat 4 (liftN 4 G1)) sl).1.2 (lyP none 4 (flat 4 (liftN 4 G1)) sl).1.1.2.2.2) f), iaC g (R 7) 128 (clF G0 G1), iaC g (R 17) 64 (flat 8 (liftN 4 G1)), iaC g (R 18) 8 rb2, iaC g (R 19) 8 xb2, iaC g (R 20) 64 (nF p8), zaC g (R 21) 64 (bF m8)]) rfl ?_
          refine sw_aload_n (pc := 103) C d_Md_putLayer_103 rfl rfl ?_
          refine sw_iload (pc := 104) C d_Md_putLayer_104 rfl ?_
          refine sw_callVP (pc := 106) C (c_Md_close l g R dn pl ss pt th false (lyP none 4 (flat 4 (liftN 4 G1)) sl).1.1.2.2.1 (lyP none 4 (flat 4 (liftN 4 G1)) sl).1.1.2.2.2 (l0 ++ [4, 0, 0] ++ [sl] ++ cbytes (lyP none 4 (flat 4 (liftN 4 G1)) sl).1.2 (lyP none 4 (flat 4 (liftN 4 G1)) sl).1.1.2.2.2) f (l0.length + 3) (by omega) (by simp only [List.length_append, List.length_cons, List.length_nil]; omega) (by have := cbytes_len (lyP none 4 (flat 4 (liftN 4 G1)) sl).1.2 (lyP none 4 (flat 4 (liftN 4 G1)) sl).1.1.2.2.2; simp only [List.length_append, List.length_cons, List.length_nil]; omega)) sv_Md_close t_733 rfl rfl rfl [0, 4] rfl rfl rfl rfl (Nat.le_of_ble_eq_true rfl) (Nat.le_of_ble_eq_true rfl) (Nat.le_of_ble_eq_true rfl) (Nat.le_of_ble_eq_true rfl) (Nat.le_of_ble_eq_true rfl) d_Md_putLayer_106 (fun v w1 hp => ?_)
          obtain ⟨rfl, rfl⟩ := hp
          refine ⟨rfl, ?_⟩
          have ec : clsL (l0 ++ [4, 0, 0] ++ [sl] ++ cbytes (lyP none 4 (flat 4 (liftN 4 G1)) sl).1.2 (lyP none 4 (flat 4 (liftN 4 G1)) sl).1.1.2.2.2) (l0.length + 3) = (l0 ++ chunk 4 (lyBytes 4 sl G1)) := by
            have e := cls_chunk l0 4 (lyBytes 4 sl G1)
            rw [show l0 ++ [4, 0, 0] ++ [sl] ++ cbytes (lyP none 4 (flat 4 (liftN 4 G1)) sl).1.2 (lyP none 4 (flat 4 (liftN 4 G1)) sl).1.1.2.2.2 = l0 ++ [4, 0, 0] ++ lyBytes 4 sl G1 by unfold lyBytes; simp]
            exact e
          rw [ec]
          exact sw_vret (pc := 109) C E rfl (Nat.le_of_ble_eq_true rfl) (Nat.le_of_ble_eq_true rfl) d_Md_putLayer_109 ⟨rfl, _, _, _, _, _, _, _, _, _, _, _, rfl⟩
        omega
      omega
    | succ nn ih =>
      intro i q hi hq
      refine sw_iload (pc := 8) C d_Md_putLayer_8 rfl ?_
      refine sw_bipush (pc := 10) C (nI 64) d_Md_putLayer_10 (by decide) ?_
      refine sw_icmp_geN (pc := 12) C 40 (by omega) (by omega) d_Md_putLayer_12 (by decide) (fun hx => ?_) (fun hx => ?_)
      · skip
        omega
      refine sw_aload_n (pc := 15) C d_Md_putLayer_15 rfl rfl ?_
      refine sw_get (pc := 16) C inMd 0 rfl rfl 25 (by decide) t_597 rfl rfl d_Md_putLayer_16 ?_
      refine sw_iload (pc := 19) C d_Md_putLayer_19 rfl ?_
      refine sw_aload_n (pc := 21) C d_Md_putLayer_21 rfl rfl ?_
      refine sw_get (pc := 22) C inMd 0 rfl rfl 8 (by decide) t_580 rfl rfl d_Md_putLayer_22 ?_
      refine sw_bipush (pc := 25) C (nI 64) d_Md_putLayer_25 (by decide) ?_
      refine sw_iload_n (pc := 27) C d_Md_putLayer_27 rfl rfl ?_
      refine sw_imul (pc := 28) C d_Md_putLayer_28 ?_
      refine sw_topi (z := nI (64 * 1)) (pk_mul _ _) ?_
      refine sw_iload (pc := 29) C d_Md_putLayer_29 rfl ?_
      refine sw_iadd (pc := 31) C d_Md_putLayer_31 ?_
      refine sw_topi (z := nI ((64 * 1) + i)) (nI_add _ _) ?_
      refine sw_ialdN (pc := 32) C 5 ((64 * 1) + i) rfl rfl (by omega) (by decide) d_Md_putLayer_32 ?_
      refine sw_topi (z := flat 8 G1 i) (clF_1 _ _) ?_
      refine sw_iastN (pc := 33) C 6 i rfl rfl (by omega) (by decide) d_Md_putLayer_33 ?_
      refine sw_iincN (pc := 34) C 1 d_Md_putLayer_34 rfl (by decide) (by decide) rfl ?_
      refine sw_goto (pc := 37) C 8 d_Md_putLayer_37 (by decide) ?_
      refine ih (i + 1) (upd q i (flat 8 G1 i)) (by omega) (fun j hj => ?_)
      unfold upd
      by_cases e : j = i
      · rw [if_pos e, e]
      · rw [if_neg e]; exact hq j (by omega)
  refine sw_iload_n (pc := 0) C d_Md_putLayer_0 rfl rfl ?_
  refine sw_callSR (pc := 1) C (c_Md_side l g (nI 1)) ss_Md_side t_683 [] rfl rfl rfl rfl (Nat.le_of_ble_eq_true rfl) (Nat.le_of_ble_eq_true rfl) (Nat.le_of_ble_eq_true rfl) (Nat.le_of_ble_eq_true rfl) (Nat.le_of_ble_eq_true rfl) d_Md_putLayer_1 (fun v w1 hp => ?_)
  obtain ⟨rfl, rfl⟩ := hp
  refine ⟨rfl, ?_⟩
  refine sw_topi (z := nI 4) rfl ?_
  refine sw_istore_n (pc := 4) C d_Md_putLayer_4 rfl (by decide) rfl ?_
  refine sw_iconst (pc := 5) C (nI 0) d_Md_putLayer_5 (by decide) ?_
  refine sw_istore (pc := 6) C d_Md_putLayer_6 (by decide) rfl ?_
  exact key 64 0 gr (by omega) (fun j hj => absurd hj (Nat.not_lt_zero _))
