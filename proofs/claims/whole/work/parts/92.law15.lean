/-! the law: case 15 -/
set_option maxRecDepth 100000 in
set_option maxHeartbeats 8000000 in
theorem law_15 {X : Cz} {nm : String} (l : Launch) (g : Gl) (C : Cx X l g (yL nm) code 4 (some .boolean) rmL) (sa N : Nat) (sf : Nat → Int32) (Z : Sc X sa N sf) (x ob r dw a1 z1 o1 dr a2 z2 o2 : Nat) (A R : Nat → Nat) (i : Nat) (hi : i + 6 ≤ N) (hN : N < 2 ^ 31) (B S : Nat → Nat) (hp : Bool) (l0 : List Nat) (r1 : Nat) (k1 k2 k3 : Int32) (kf1 kh1 : Nat → Int32) (r2 : Nat) (j1 j2 j3 j4 j5 : Int32) (kf2 kh2 : Nat → Int32) (nS nP : Nat) (b w h bc ps sp : Nat → Nat) (G0 G1 : Nat → Nat → Int32) (ac0 ad0 al0 : Nat → Int32) (am0 : Bool) (ac1 ad1 al1 : Nat → Int32) (am1 : Bool) (mS mP : Nat) (b2 w2 h2 ps2 sp2 : Nat → Nat) (bs2 e0 c0 d0 i0 : Nat → Int32) (m0 : Bool) (e1 c1 d1 i1 : Nat → Int32) (m1 : Bool) (tS tP : Nat) (b3 w3 h3 ps3 sp3 : Nat → Nat) (bs3 e3 c3 d3 i3 : Nat → Int32) (m3 : Bool) (e4 c4 d4 i4 : Nat → Int32) (m4 : Bool) (ss : Nat) (pt : Nat) (rd : Bool) (wd : Nat) (sc : Nat) (fb : Nat → Int64) (fw : Nat → Int32) (fh : Nat → Int32) (fs : Nat → Int32) (fd : Nat → Int32) (sn : Nat → Int64) (fp : Nat → Int32) (fa : Nat → Int32) (co : Nat → Int32) (un : Nat → Int32) (zz : Nat → Int32) (oo : Nat → Int32) (dg : Nat → Int32) (gr : Nat → Int32) (ro : Nat → Int32) (nx : Nat → Int32) (pf : Nat → Int32) (mn : Nat → Int32) (F : FCT l0 hp nS nP b w h bc ps sp mS mP b2 w2 h2 ps2 sp2 e0 c0 e1 c1 tS tP b3 w3 h3 ps3 sp3 ss pt fb fw fh fs sn fp fa co un)
    (kk : ∀ ws : va_W, REL g x ob r dw a1 z1 o1 dr a2 z2 o2 A R ws → SW X g 4 101 8908 ws 656 [some (.ref sa), some (.ref x), some (.ref (R 0)), some (.int (nI i))] []) : SW X g 4 101 8908 (CW g x ob r dw a1 z1 o1 dr a2 z2 o2 A B S hp l0 r1 k1 k2 k3 kf1 kh1 r2 j1 j2 j3 j4 j5 kf2 kh2 nS nP b w h bc ps sp G0 G1 ac0 ad0 al0 am0 ac1 ad1 al1 am1 mS mP b2 w2 h2 ps2 sp2 bs2 e0 c0 d0 i0 m0 e1 c1 d1 i1 m1 tS tP b3 w3 h3 ps3 sp3 bs3 e3 c3 d3 i3 m3 e4 c4 d4 i4 m4 ++ RW g R nS nP l0 ss pt hp rd wd sc fb fw fh fs ps sp G0 G1 fd sn fp fa co un zz oo dg gr ro nx pf mn) 619 [some (.ref sa), some (.ref x), some (.ref (R 0)), some (.int (nI i))] [] := by
  obtain ⟨hl, ⟨hS, hP⟩, H, Q, hdp, O2, O3, ⟨hss, hpt⟩, HP⟩ := id F
  refine sw_aload_n (pc := 619) C d_Law_law_619 rfl rfl ?_
  refine sw_aload_n (pc := 620) C d_Law_law_620 rfl rfl ?_
  refine sw_iload_n (pc := 621) C d_Law_law_621 rfl rfl ?_
  refine sw_iconst (pc := 622) C (nI 1) d_Law_law_622 (by decide) ?_
  refine sw_iadd (pc := 623) C d_Law_law_623 ?_
  refine sw_topi (z := nI (i + 1)) (nI_add _ _) ?_
  refine sw_sld (pc := 624) C Z rfl (by omega) hN d_Law_law_624 ?_
  refine sw_callVR (pc := 625) C (c_glyph l g x ob dw dr A B S hp mS mP b2 w2 h2 ps2 sp2 bs2 e0 c0 d0 i0 m0 e1 c1 d1 i1 m1 O2 (sf (i + 1))) sv_LP_glyph t_558 rfl rfl rfl [0, 33, 34, 35, 36, 37, 38, 39, 40, 41, 42, 43, 44, 45, 46, 47, 48, 49, 50, 51, 52, 53, 54] rfl rfl rfl rfl (Nat.le_of_ble_eq_true rfl) (Nat.le_of_ble_eq_true rfl) (Nat.le_of_ble_eq_true rfl) (Nat.le_of_ble_eq_true rfl) (Nat.le_of_ble_eq_true rfl) d_Law_law_625 (fun v w1 hp => ?_)
  obtain ⟨rfl, rfl⟩ := hp
  refine ⟨rfl, ?_⟩
  refine sw_aload_n (pc := 628) C d_Law_law_628 rfl rfl ?_
  refine sw_aload_n (pc := 629) C d_Law_law_629 rfl rfl ?_
  refine sw_iload_n (pc := 630) C d_Law_law_630 rfl rfl ?_
  refine sw_iconst (pc := 631) C (nI 1) d_Law_law_631 (by decide) ?_
  refine sw_iadd (pc := 632) C d_Law_law_632 ?_
  refine sw_topi (z := nI (i + 1)) (nI_add _ _) ?_
  refine sw_sld (pc := 633) C Z rfl (by omega) hN d_Law_law_633 ?_
  refine sw_callVR (pc := 634) C (c_Md_glyph l g R nS nP l0.length ss pt hp rd wd sc sn b2 (fun e => ⟨hss, fun k hk => ((HP e).2.1.2.1 k hk).1⟩) (sf (i + 1))) sv_Md_glyph t_842 rfl rfl rfl [77, 86] rfl rfl rfl rfl (Nat.le_of_ble_eq_true rfl) (Nat.le_of_ble_eq_true rfl) (Nat.le_of_ble_eq_true rfl) (Nat.le_of_ble_eq_true rfl) (Nat.le_of_ble_eq_true rfl) d_Law_law_634 (fun v w1 hp => ?_)
  obtain ⟨rfl, rfl⟩ := hp
  refine ⟨rfl, ?_⟩
  have eg : glyV hp ss b2 (sf (i + 1)) = glyV hp mS b2 (sf (i + 1)) := by
    by_cases e : hp = true
    · rw [(HP e).1.1]
    · rw [show hp = false by simpa using e, gly_no, gly_no]
  rw [eg]
  refine sw_lcmp (pc := 637) C d_Law_law_637 ?_
  refine sw_if_eq (pc := 638) C 656 d_Law_law_638 (by decide) (fun hq => ?_) (fun hq => ?_)
  · skip
    exact kk _ ⟨B, S, hp, l0, r1, k1, k2, k3, kf1, kh1, r2, j1, j2, j3, j4, j5, kf2, kh2, nS, nP, b, w, h, bc, ps, sp, G0, G1, ac0, ad0, al0, am0, ac1, ad1, al1, am1, mS, mP, b2, w2, h2, ps2, sp2, bs2, e0, c0, d0, i0, m0, e1, c1, d1, i1, m1, tS, tP, b3, w3, h3, ps3, sp3, bs3, e3, c3, d3, i3, m3, e4, c4, d4, i4, m4, ss, pt, rd, wd, sc, fb, fw, fh, fs, fd, sn, fp, fa, co, un, zz, oo, dg, gr, ro, nx, pf, mn, F, rfl⟩
  exact absurd (lcmp_self _) hq
