/-! the law: case 10 -/
set_option maxRecDepth 100000 in
set_option maxHeartbeats 8000000 in
theorem law_10 {X : Cz} {nm : String} (l : Launch) (g : Gl) (C : Cx X l g (yL nm) code 4 (some .boolean) rmL) (sa N : Nat) (sf : Nat → Int32) (Z : Sc X sa N sf) (x ob r dw a1 z1 o1 dr a2 z2 o2 : Nat) (A R : Nat → Nat) (i : Nat) (hi : i + 6 ≤ N) (hN : N < 2 ^ 31) (B S : Nat → Nat) (hp : Bool) (l0 : List Nat) (r1 : Nat) (k1 k2 k3 : Int32) (kf1 kh1 : Nat → Int32) (r2 : Nat) (j1 j2 j3 j4 j5 : Int32) (kf2 kh2 : Nat → Int32) (nS nP : Nat) (b w h bc ps sp : Nat → Nat) (G0 G1 : Nat → Nat → Int32) (ac0 ad0 al0 : Nat → Int32) (am0 : Bool) (ac1 ad1 al1 : Nat → Int32) (am1 : Bool) (mS mP : Nat) (b2 w2 h2 ps2 sp2 : Nat → Nat) (bs2 e0 c0 d0 i0 : Nat → Int32) (m0 : Bool) (e1 c1 d1 i1 : Nat → Int32) (m1 : Bool) (tS tP : Nat) (b3 w3 h3 ps3 sp3 : Nat → Nat) (bs3 e3 c3 d3 i3 : Nat → Int32) (m3 : Bool) (e4 c4 d4 i4 : Nat → Int32) (m4 : Bool) (ss : Nat) (pt : Nat) (rd : Bool) (wd : Nat) (sc : Nat) (fb : Nat → Int64) (fw : Nat → Int32) (fh : Nat → Int32) (fs : Nat → Int32) (fd : Nat → Int32) (sn : Nat → Int64) (fp : Nat → Int32) (fa : Nat → Int32) (co : Nat → Int32) (un : Nat → Int32) (zz : Nat → Int32) (oo : Nat → Int32) (dg : Nat → Int32) (gr : Nat → Int32) (ro : Nat → Int32) (nx : Nat → Int32) (pf : Nat → Int32) (mn : Nat → Int32) (F : FCT l0 hp nS nP b w h bc ps sp mS mP b2 w2 h2 ps2 sp2 e0 c0 e1 c1 tS tP b3 w3 h3 ps3 sp3 ss pt fb fw fh fs sn fp fa co un)
    (kk : ∀ ws : va_W, REL g x ob r dw a1 z1 o1 dr a2 z2 o2 A R ws → SW X g 4 101 8908 ws 656 [some (.ref sa), some (.ref x), some (.ref (R 0)), some (.int (nI i))] []) : SW X g 4 101 8908 (CW g x ob r dw a1 z1 o1 dr a2 z2 o2 A B S hp l0 r1 k1 k2 k3 kf1 kh1 r2 j1 j2 j3 j4 j5 kf2 kh2 nS nP b w h bc ps sp G0 G1 ac0 ad0 al0 am0 ac1 ad1 al1 am1 mS mP b2 w2 h2 ps2 sp2 bs2 e0 c0 d0 i0 m0 e1 c1 d1 i1 m1 tS tP b3 w3 h3 ps3 sp3 bs3 e3 c3 d3 i3 m3 e4 c4 d4 i4 m4 ++ RW g R nS nP l0 ss pt hp rd wd sc fb fw fh fs ps sp G0 G1 fd sn fp fa co un zz oo dg gr ro nx pf mn) 454 [some (.ref sa), some (.ref x), some (.ref (R 0)), some (.int (nI i))] [] := by
  obtain ⟨hl, ⟨hS, hP⟩, H, Q, hdp, O2, O3, ⟨hss, hpt⟩, HP⟩ := id F
  refine sw_aload_n (pc := 454) C d_Law_law_454 rfl rfl ?_
  refine sw_aload_n (pc := 455) C d_Law_law_455 rfl rfl ?_
  refine sw_iload_n (pc := 456) C d_Law_law_456 rfl rfl ?_
  refine sw_iconst (pc := 457) C (nI 1) d_Law_law_457 (by decide) ?_
  refine sw_iadd (pc := 458) C d_Law_law_458 ?_
  refine sw_topi (z := nI (i + 1)) (nI_add _ _) ?_
  refine sw_sld (pc := 459) C Z rfl (by omega) hN d_Law_law_459 ?_
  refine sw_aload_n (pc := 460) C d_Law_law_460 rfl rfl ?_
  refine sw_iload_n (pc := 461) C d_Law_law_461 rfl rfl ?_
  refine sw_iconst (pc := 462) C (nI 2) d_Law_law_462 (by decide) ?_
  refine sw_iadd (pc := 463) C d_Law_law_463 ?_
  refine sw_topi (z := nI (i + 2)) (nI_add _ _) ?_
  refine sw_sld (pc := 464) C Z rfl (by omega) hN d_Law_law_464 ?_
  refine sw_callVR (pc := 465) C (c_pixel l g x ob dw dr A B S hp mS mP b2 w2 h2 ps2 sp2 bs2 e0 c0 d0 i0 m0 e1 c1 d1 i1 m1 O2 (sf (i + 1)) (sf (i + 2))) sv_LP_pixel t_521 rfl rfl rfl [0, 33, 34, 35, 36, 37, 38, 39, 40, 41, 42, 43, 44, 45, 46, 47, 48, 49, 50, 51, 52, 53, 54] rfl rfl rfl rfl (Nat.le_of_ble_eq_true rfl) (Nat.le_of_ble_eq_true rfl) (Nat.le_of_ble_eq_true rfl) (Nat.le_of_ble_eq_true rfl) (Nat.le_of_ble_eq_true rfl) d_Law_law_465 (fun v w1 hp => ?_)
  obtain ⟨rfl, rfl⟩ := hp
  refine ⟨rfl, ?_⟩
  refine sw_aload_n (pc := 468) C d_Law_law_468 rfl rfl ?_
  refine sw_aload_n (pc := 469) C d_Law_law_469 rfl rfl ?_
  refine sw_iload_n (pc := 470) C d_Law_law_470 rfl rfl ?_
  refine sw_iconst (pc := 471) C (nI 1) d_Law_law_471 (by decide) ?_
  refine sw_iadd (pc := 472) C d_Law_law_472 ?_
  refine sw_topi (z := nI (i + 1)) (nI_add _ _) ?_
  refine sw_sld (pc := 473) C Z rfl (by omega) hN d_Law_law_473 ?_
  refine sw_aload_n (pc := 474) C d_Law_law_474 rfl rfl ?_
  refine sw_iload_n (pc := 475) C d_Law_law_475 rfl rfl ?_
  refine sw_iconst (pc := 476) C (nI 2) d_Law_law_476 (by decide) ?_
  refine sw_iadd (pc := 477) C d_Law_law_477 ?_
  refine sw_topi (z := nI (i + 2)) (nI_add _ _) ?_
  refine sw_sld (pc := 478) C Z rfl (by omega) hN d_Law_law_478 ?_
  refine sw_callVR (pc := 479) C (c_Md_pixel l g R nS nP l0.length ss pt hp rd wd sc sn fp fa b2 w2 h2 ps2 sp2 (fun e => (HP e).2.1) un e0 e1 (fun e => (HP e).2.2.1) (by omega) (sf (i + 1)) (sf (i + 2))) sv_Md_pixel t_828 rfl rfl rfl [77, 86, 87, 88, 90] rfl rfl rfl rfl (Nat.le_of_ble_eq_true rfl) (Nat.le_of_ble_eq_true rfl) (Nat.le_of_ble_eq_true rfl) (Nat.le_of_ble_eq_true rfl) (Nat.le_of_ble_eq_true rfl) d_Law_law_479 (fun v w1 hp => ?_)
  obtain ⟨rfl, rfl⟩ := hp
  refine ⟨rfl, ?_⟩
  have eg : pixV hp b2 w2 h2 ps2 sp2 pt e0 e1 (sf (i + 1)) (sf (i + 2)) = pixV hp b2 w2 h2 ps2 sp2 mP e0 e1 (sf (i + 1)) (sf (i + 2)) := by
    by_cases e : hp = true
    · rw [(HP e).1.2]
    · unfold pixV
      rw [show hp = false by simpa using e]
      rfl
  rw [eg]
  refine sw_icmp_eq (pc := 482) C 656 d_Law_law_482 (by decide) (fun hq => ?_) (fun hq => ?_)
  · skip
    exact kk _ ⟨B, S, hp, l0, r1, k1, k2, k3, kf1, kh1, r2, j1, j2, j3, j4, j5, kf2, kh2, nS, nP, b, w, h, bc, ps, sp, G0, G1, ac0, ad0, al0, am0, ac1, ad1, al1, am1, mS, mP, b2, w2, h2, ps2, sp2, bs2, e0, c0, d0, i0, m0, e1, c1, d1, i1, m1, tS, tP, b3, w3, h3, ps3, sp3, bs3, e3, c3, d3, i3, m3, e4, c4, d4, i4, m4, ss, pt, rd, wd, sc, fb, fw, fh, fs, fd, sn, fp, fa, co, un, zz, oo, dg, gr, ro, nx, pf, mn, F, rfl⟩
  exact absurd rfl hq
