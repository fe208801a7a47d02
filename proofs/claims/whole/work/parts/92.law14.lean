/-! the law: case 14 -/
set_option maxRecDepth 100000 in
set_option maxHeartbeats 8000000 in
theorem law_14 {X : Cz} {nm : String} (l : Launch) (g : Gl) (C : Cx X l g (yL nm) code 4 (some .boolean) rmL) (sa N : Nat) (sf : Nat → Int32) (Z : Sc X sa N sf) (x ob r dw a1 z1 o1 dr a2 z2 o2 : Nat) (A R : Nat → Nat) (i : Nat) (hi : i + 6 ≤ N) (hN : N < 2 ^ 31) (B S : Nat → Nat) (hp : Bool) (l0 : List Nat) (r1 : Nat) (k1 k2 k3 : Int32) (kf1 kh1 : Nat → Int32) (r2 : Nat) (j1 j2 j3 j4 j5 : Int32) (kf2 kh2 : Nat → Int32) (nS nP : Nat) (b w h bc ps sp : Nat → Nat) (G0 G1 : Nat → Nat → Int32) (ac0 ad0 al0 : Nat → Int32) (am0 : Bool) (ac1 ad1 al1 : Nat → Int32) (am1 : Bool) (mS mP : Nat) (b2 w2 h2 ps2 sp2 : Nat → Nat) (bs2 e0 c0 d0 i0 : Nat → Int32) (m0 : Bool) (e1 c1 d1 i1 : Nat → Int32) (m1 : Bool) (tS tP : Nat) (b3 w3 h3 ps3 sp3 : Nat → Nat) (bs3 e3 c3 d3 i3 : Nat → Int32) (m3 : Bool) (e4 c4 d4 i4 : Nat → Int32) (m4 : Bool) (ss : Nat) (pt : Nat) (rd : Bool) (wd : Nat) (sc : Nat) (fb : Nat → Int64) (fw : Nat → Int32) (fh : Nat → Int32) (fs : Nat → Int32) (fd : Nat → Int32) (sn : Nat → Int64) (fp : Nat → Int32) (fa : Nat → Int32) (co : Nat → Int32) (un : Nat → Int32) (zz : Nat → Int32) (oo : Nat → Int32) (dg : Nat → Int32) (gr : Nat → Int32) (ro : Nat → Int32) (nx : Nat → Int32) (pf : Nat → Int32) (mn : Nat → Int32) (F : FCT l0 hp nS nP b w h bc ps sp mS mP b2 w2 h2 ps2 sp2 e0 c0 e1 c1 tS tP b3 w3 h3 ps3 sp3 ss pt fb fw fh fs sn fp fa co un)
    (kk : ∀ ws : va_W, REL g x ob r dw a1 z1 o1 dr a2 z2 o2 A R ws → SW X g 4 101 8908 ws 656 [some (.ref sa), some (.ref x), some (.ref (R 0)), some (.int (nI i))] []) : SW X g 4 101 8908 (CW g x ob r dw a1 z1 o1 dr a2 z2 o2 A B S hp l0 r1 k1 k2 k3 kf1 kh1 r2 j1 j2 j3 j4 j5 kf2 kh2 nS nP b w h bc ps sp G0 G1 ac0 ad0 al0 am0 ac1 ad1 al1 am1 mS mP b2 w2 h2 ps2 sp2 bs2 e0 c0 d0 i0 m0 e1 c1 d1 i1 m1 tS tP b3 w3 h3 ps3 sp3 bs3 e3 c3 d3 i3 m3 e4 c4 d4 i4 m4 ++ RW g R nS nP l0 ss pt hp rd wd sc fb fw fh fs ps sp G0 G1 fd sn fp fa co un zz oo dg gr ro nx pf mn) 606 [some (.ref sa), some (.ref x), some (.ref (R 0)), some (.int (nI i))] [] := by
  obtain ⟨hl, ⟨hS, hP⟩, H, Q, hdp, O2, O3, ⟨hss, hpt⟩, HP⟩ := id F
  refine sw_aload_n (pc := 606) C d_Law_law_606 rfl rfl ?_
  refine sw_callVR (pc := 607) C (c_shapes l g x ob dw dr A B S hp mS mP) sv_LP_shapes t_554 rfl rfl rfl [0, 33] rfl rfl rfl rfl (Nat.le_of_ble_eq_true rfl) (Nat.le_of_ble_eq_true rfl) (Nat.le_of_ble_eq_true rfl) (Nat.le_of_ble_eq_true rfl) (Nat.le_of_ble_eq_true rfl) d_Law_law_607 (fun v w1 hp => ?_)
  obtain ⟨rfl, rfl⟩ := hp
  refine ⟨rfl, ?_⟩
  refine sw_aload_n (pc := 610) C d_Law_law_610 rfl rfl ?_
  refine sw_callVR (pc := 611) C (c_Md_shapes l g R nS nP l0.length ss pt hp rd wd sc) sv_Md_shapes t_838 rfl rfl rfl [77] rfl rfl rfl rfl (Nat.le_of_ble_eq_true rfl) (Nat.le_of_ble_eq_true rfl) (Nat.le_of_ble_eq_true rfl) (Nat.le_of_ble_eq_true rfl) (Nat.le_of_ble_eq_true rfl) d_Law_law_611 (fun v w1 hp => ?_)
  obtain ⟨rfl, rfl⟩ := hp
  refine ⟨rfl, ?_⟩
  refine sw_topi (z := if hp = true then nI mS else -1) (ite_hp (fun e => congrArg nI (HP e).1.1)) ?_
  refine sw_icmp_eq (pc := 614) C 656 d_Law_law_614 (by decide) (fun hq => ?_) (fun hq => ?_)
  · skip
    exact kk _ ⟨B, S, hp, l0, r1, k1, k2, k3, kf1, kh1, r2, j1, j2, j3, j4, j5, kf2, kh2, nS, nP, b, w, h, bc, ps, sp, G0, G1, ac0, ad0, al0, am0, ac1, ad1, al1, am1, mS, mP, b2, w2, h2, ps2, sp2, bs2, e0, c0, d0, i0, m0, e1, c1, d1, i1, m1, tS, tP, b3, w3, h3, ps3, sp3, bs3, e3, c3, d3, i3, m3, e4, c4, d4, i4, m4, ss, pt, rd, wd, sc, fb, fw, fh, fs, fd, sn, fp, fa, co, un, zz, oo, dg, gr, ro, nx, pf, mn, F, rfl⟩
  exact absurd rfl hq
