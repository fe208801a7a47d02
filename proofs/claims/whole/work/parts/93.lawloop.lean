/-! the law's loop -/
theorem d_law_33 : decode code 33 = .ok (.tableswitch 623 0 16 #[83, 166, 209, 282, 293, 316, 329, 352, 385, 408, 421, 454, 487, 530, 573, 586, 610], 83) := by decide +kernel
theorem gt6 {i N : Nat} (hi : i < 2 ^ 30) (hN : N < 2 ^ 30) : nI N - nI 6 < nI i ↔ N < i + 6 := by
  rw [Int32.lt_iff_toInt_lt, pk_sub_toInt hN (by decide), nI_toInt (by omega)]
  omega
set_option maxRecDepth 100000 in
set_option maxHeartbeats 8000000 in
theorem law_loop {X : Cz} {nm : String} (l : Launch) (g : Gl) (C : Cx X l g (yL nm) code 4 (some .boolean) rmL) (sa N : Nat) (sf : Nat → Int32) (Z : Sc X sa N sf) (hN30 : N < 2 ^ 29) (x ob r dw a1 z1 o1 dr a2 z2 o2 : Nat) (A R : Nat → Nat) (fin : ∀ (ws : va_W) (i : Nat), SW X g 4 101 8908 ws 662 [some (.ref sa), some (.ref x), some (.ref (R 0)), some (.int (nI i))] []) : ∀ (nn i : Nat) (ws : va_W), N ≤ i + nn → i ≤ N + 6 → REL g x ob r dw a1 z1 o1 dr a2 z2 o2 A R ws → SW X g 4 101 8908 ws 18 [some (.ref sa), some (.ref x), some (.ref (R 0)), some (.int (nI i))] [] := by
  have hN : N < 2 ^ 31 := by omega
  intro nn
  induction nn with
  | zero =>
    intro i ws h1 h2 hR
    refine sw_iload_n (pc := 18) C d_Law_law_18 rfl rfl ?_
    refine sw_aload_n (pc := 19) C d_Law_law_19 rfl rfl ?_
    refine sw_slen (pc := 20) C Z d_Law_law_20 ?_
    refine sw_bipush (pc := 21) C (nI 6) d_Law_law_21 (by decide) ?_
    refine sw_isub (pc := 23) C d_Law_law_23 ?_
    refine sw_icmp_gt (pc := 24) C 662 d_Law_law_24 (by decide) (fun hx => ?_) (fun hx => ?_)
    · skip
      exact fin ws i
    exact absurd ((gt6 (by omega) (by omega)).mpr (by omega)) hx
  | succ nn ih =>
    intro i ws h1 h2 hR
    refine sw_iload_n (pc := 18) C d_Law_law_18 rfl rfl ?_
    refine sw_aload_n (pc := 19) C d_Law_law_19 rfl rfl ?_
    refine sw_slen (pc := 20) C Z d_Law_law_20 ?_
    refine sw_bipush (pc := 21) C (nI 6) d_Law_law_21 (by decide) ?_
    refine sw_isub (pc := 23) C d_Law_law_23 ?_
    refine sw_icmp_gt (pc := 24) C 662 d_Law_law_24 (by decide) (fun hx => ?_) (fun hx => ?_)
    · skip
      exact fin ws i
    have hi : i + 6 ≤ N := Nat.not_lt.mp (fun q => hx ((gt6 (by omega) (by omega)).mpr q))
    have kk : ∀ ws : va_W, REL g x ob r dw a1 z1 o1 dr a2 z2 o2 A R ws → SW X g 4 101 8908 ws 656 [some (.ref sa), some (.ref x), some (.ref (R 0)), some (.int (nI i))] [] := by
      intro ws hr
      refine sw_iincN (pc := 656) C 6 d_Law_law_656 rfl (by decide) (by decide) rfl ?_
      refine sw_goto (pc := 659) C 18 d_Law_law_659 (by decide) ?_
      exact ih (i + 6) ws (by omega) (by omega) hr
    obtain ⟨B, S, hp, l0, r1, k1, k2, k3, kf1, kh1, r2, j1, j2, j3, j4, j5, kf2, kh2, nS, nP, b, w, h, bc, ps, sp, G0, G1, ac0, ad0, al0, am0, ac1, ad1, al1, am1, mS, mP, b2, w2, h2, ps2, sp2, bs2, e0, c0, d0, i0, m0, e1, c1, d1, i1, m1, tS, tP, b3, w3, h3, ps3, sp3, bs3, e3, c3, d3, i3, m3, e4, c4, d4, i4, m4, ss, pt, rd, wd, sc, fb, fw, fh, fs, fd, sn, fp, fa, co, un, zz, oo, dg, gr, ro, nx, pf, mn, F, rfl⟩ := hR
    obtain ⟨c, hc, ec⟩ := pk_andE (sf i) (m := nI 31) 5 rfl
    refine sw_aload_n (pc := 27) C d_Law_law_27 rfl rfl ?_
    refine sw_iload_n (pc := 28) C d_Law_law_28 rfl rfl ?_
    refine sw_sld (pc := 29) C Z rfl (by omega) hN d_Law_law_29 ?_
    refine sw_bipush (pc := 30) C (nI 31) d_Law_law_30 (by decide) ?_
    refine sw_iand (pc := 32) C d_Law_law_32 ?_
    refine sw_topi (z := nI c) ec ?_
    have hc32 : c < 32 := hc
    have hcs : c = 0 ∨ c = 1 ∨ c = 2 ∨ c = 3 ∨ c = 4 ∨ c = 5 ∨ c = 6 ∨ c = 7 ∨ c = 8 ∨ c = 9 ∨ c = 10 ∨ c = 11 ∨ c = 12 ∨ c = 13 ∨ c = 14 ∨ c = 15 ∨ c = 16 ∨ 17 ≤ c := by omega
    clear ec
    rcases hcs with rfl | rfl | rfl | rfl | rfl | rfl | rfl | rfl | rfl | rfl | rfl | rfl | rfl | rfl | rfl | rfl | rfl | h17
    · refine sw_tabIn (pc := 33) C 116 d_law_33 (by decide) (by decide) (off := 83) rfl (by decide) ?_
      exact law_0 l g C sa N sf Z x ob r dw a1 z1 o1 dr a2 z2 o2 A R i hi hN B S hp l0 r1 k1 k2 k3 kf1 kh1 r2 j1 j2 j3 j4 j5 kf2 kh2 nS nP b w h bc ps sp G0 G1 ac0 ad0 al0 am0 ac1 ad1 al1 am1 mS mP b2 w2 h2 ps2 sp2 bs2 e0 c0 d0 i0 m0 e1 c1 d1 i1 m1 tS tP b3 w3 h3 ps3 sp3 bs3 e3 c3 d3 i3 m3 e4 c4 d4 i4 m4 ss pt rd wd sc fb fw fh fs fd sn fp fa co un zz oo dg gr ro nx pf mn F kk
    · refine sw_tabIn (pc := 33) C 199 d_law_33 (by decide) (by decide) (off := 166) rfl (by decide) ?_
      exact law_1 l g C sa N sf Z x ob r dw a1 z1 o1 dr a2 z2 o2 A R i hi hN B S hp l0 r1 k1 k2 k3 kf1 kh1 r2 j1 j2 j3 j4 j5 kf2 kh2 nS nP b w h bc ps sp G0 G1 ac0 ad0 al0 am0 ac1 ad1 al1 am1 mS mP b2 w2 h2 ps2 sp2 bs2 e0 c0 d0 i0 m0 e1 c1 d1 i1 m1 tS tP b3 w3 h3 ps3 sp3 bs3 e3 c3 d3 i3 m3 e4 c4 d4 i4 m4 ss pt rd wd sc fb fw fh fs fd sn fp fa co un zz oo dg gr ro nx pf mn F kk
    · refine sw_tabIn (pc := 33) C 242 d_law_33 (by decide) (by decide) (off := 209) rfl (by decide) ?_
      exact law_2 l g C sa N sf Z x ob r dw a1 z1 o1 dr a2 z2 o2 A R i hi hN B S hp l0 r1 k1 k2 k3 kf1 kh1 r2 j1 j2 j3 j4 j5 kf2 kh2 nS nP b w h bc ps sp G0 G1 ac0 ad0 al0 am0 ac1 ad1 al1 am1 mS mP b2 w2 h2 ps2 sp2 bs2 e0 c0 d0 i0 m0 e1 c1 d1 i1 m1 tS tP b3 w3 h3 ps3 sp3 bs3 e3 c3 d3 i3 m3 e4 c4 d4 i4 m4 ss pt rd wd sc fb fw fh fs fd sn fp fa co un zz oo dg gr ro nx pf mn F kk
    · refine sw_tabIn (pc := 33) C 315 d_law_33 (by decide) (by decide) (off := 282) rfl (by decide) ?_
      exact law_3 l g C sa N sf Z x ob r dw a1 z1 o1 dr a2 z2 o2 A R i hi hN B S hp l0 r1 k1 k2 k3 kf1 kh1 r2 j1 j2 j3 j4 j5 kf2 kh2 nS nP b w h bc ps sp G0 G1 ac0 ad0 al0 am0 ac1 ad1 al1 am1 mS mP b2 w2 h2 ps2 sp2 bs2 e0 c0 d0 i0 m0 e1 c1 d1 i1 m1 tS tP b3 w3 h3 ps3 sp3 bs3 e3 c3 d3 i3 m3 e4 c4 d4 i4 m4 ss pt rd wd sc fb fw fh fs fd sn fp fa co un zz oo dg gr ro nx pf mn F kk
    · refine sw_tabIn (pc := 33) C 326 d_law_33 (by decide) (by decide) (off := 293) rfl (by decide) ?_
      exact law_4 l g C sa N sf Z x ob r dw a1 z1 o1 dr a2 z2 o2 A R i hi hN B S hp l0 r1 k1 k2 k3 kf1 kh1 r2 j1 j2 j3 j4 j5 kf2 kh2 nS nP b w h bc ps sp G0 G1 ac0 ad0 al0 am0 ac1 ad1 al1 am1 mS mP b2 w2 h2 ps2 sp2 bs2 e0 c0 d0 i0 m0 e1 c1 d1 i1 m1 tS tP b3 w3 h3 ps3 sp3 bs3 e3 c3 d3 i3 m3 e4 c4 d4 i4 m4 ss pt rd wd sc fb fw fh fs fd sn fp fa co un zz oo dg gr ro nx pf mn F kk
    · refine sw_tabIn (pc := 33) C 349 d_law_33 (by decide) (by decide) (off := 316) rfl (by decide) ?_
      exact law_5 l g C sa N sf Z x ob r dw a1 z1 o1 dr a2 z2 o2 A R i hi hN B S hp l0 r1 k1 k2 k3 kf1 kh1 r2 j1 j2 j3 j4 j5 kf2 kh2 nS nP b w h bc ps sp G0 G1 ac0 ad0 al0 am0 ac1 ad1 al1 am1 mS mP b2 w2 h2 ps2 sp2 bs2 e0 c0 d0 i0 m0 e1 c1 d1 i1 m1 tS tP b3 w3 h3 ps3 sp3 bs3 e3 c3 d3 i3 m3 e4 c4 d4 i4 m4 ss pt rd wd sc fb fw fh fs fd sn fp fa co un zz oo dg gr ro nx pf mn F kk
    · refine sw_tabIn (pc := 33) C 362 d_law_33 (by decide) (by decide) (off := 329) rfl (by decide) ?_
      exact law_6 l g C sa N sf Z x ob r dw a1 z1 o1 dr a2 z2 o2 A R i hi hN B S hp l0 r1 k1 k2 k3 kf1 kh1 r2 j1 j2 j3 j4 j5 kf2 kh2 nS nP b w h bc ps sp G0 G1 ac0 ad0 al0 am0 ac1 ad1 al1 am1 mS mP b2 w2 h2 ps2 sp2 bs2 e0 c0 d0 i0 m0 e1 c1 d1 i1 m1 tS tP b3 w3 h3 ps3 sp3 bs3 e3 c3 d3 i3 m3 e4 c4 d4 i4 m4 ss pt rd wd sc fb fw fh fs fd sn fp fa co un zz oo dg gr ro nx pf mn F kk
    · refine sw_tabIn (pc := 33) C 385 d_law_33 (by decide) (by decide) (off := 352) rfl (by decide) ?_
      exact law_7 l g C sa N sf Z x ob r dw a1 z1 o1 dr a2 z2 o2 A R i hi hN B S hp l0 r1 k1 k2 k3 kf1 kh1 r2 j1 j2 j3 j4 j5 kf2 kh2 nS nP b w h bc ps sp G0 G1 ac0 ad0 al0 am0 ac1 ad1 al1 am1 mS mP b2 w2 h2 ps2 sp2 bs2 e0 c0 d0 i0 m0 e1 c1 d1 i1 m1 tS tP b3 w3 h3 ps3 sp3 bs3 e3 c3 d3 i3 m3 e4 c4 d4 i4 m4 ss pt rd wd sc fb fw fh fs fd sn fp fa co un zz oo dg gr ro nx pf mn F kk
    · refine sw_tabIn (pc := 33) C 418 d_law_33 (by decide) (by decide) (off := 385) rfl (by decide) ?_
      exact law_8 l g C sa N sf Z x ob r dw a1 z1 o1 dr a2 z2 o2 A R i hi hN B S hp l0 r1 k1 k2 k3 kf1 kh1 r2 j1 j2 j3 j4 j5 kf2 kh2 nS nP b w h bc ps sp G0 G1 ac0 ad0 al0 am0 ac1 ad1 al1 am1 mS mP b2 w2 h2 ps2 sp2 bs2 e0 c0 d0 i0 m0 e1 c1 d1 i1 m1 tS tP b3 w3 h3 ps3 sp3 bs3 e3 c3 d3 i3 m3 e4 c4 d4 i4 m4 ss pt rd wd sc fb fw fh fs fd sn fp fa co un zz oo dg gr ro nx pf mn F kk
    · refine sw_tabIn (pc := 33) C 441 d_law_33 (by decide) (by decide) (off := 408) rfl (by decide) ?_
      exact law_9 l g C sa N sf Z x ob r dw a1 z1 o1 dr a2 z2 o2 A R i hi hN B S hp l0 r1 k1 k2 k3 kf1 kh1 r2 j1 j2 j3 j4 j5 kf2 kh2 nS nP b w h bc ps sp G0 G1 ac0 ad0 al0 am0 ac1 ad1 al1 am1 mS mP b2 w2 h2 ps2 sp2 bs2 e0 c0 d0 i0 m0 e1 c1 d1 i1 m1 tS tP b3 w3 h3 ps3 sp3 bs3 e3 c3 d3 i3 m3 e4 c4 d4 i4 m4 ss pt rd wd sc fb fw fh fs fd sn fp fa co un zz oo dg gr ro nx pf mn F kk
    · refine sw_tabIn (pc := 33) C 454 d_law_33 (by decide) (by decide) (off := 421) rfl (by decide) ?_
      exact law_10 l g C sa N sf Z x ob r dw a1 z1 o1 dr a2 z2 o2 A R i hi hN B S hp l0 r1 k1 k2 k3 kf1 kh1 r2 j1 j2 j3 j4 j5 kf2 kh2 nS nP b w h bc ps sp G0 G1 ac0 ad0 al0 am0 ac1 ad1 al1 am1 mS mP b2 w2 h2 ps2 sp2 bs2 e0 c0 d0 i0 m0 e1 c1 d1 i1 m1 tS tP b3 w3 h3 ps3 sp3 bs3 e3 c3 d3 i3 m3 e4 c4 d4 i4 m4 ss pt rd wd sc fb fw fh fs fd sn fp fa co un zz oo dg gr ro nx pf mn F kk
    · refine sw_tabIn (pc := 33) C 487 d_law_33 (by decide) (by decide) (off := 454) rfl (by decide) ?_
      exact law_11 l g C sa N sf Z x ob r dw a1 z1 o1 dr a2 z2 o2 A R i hi hN B S hp l0 r1 k1 k2 k3 kf1 kh1 r2 j1 j2 j3 j4 j5 kf2 kh2 nS nP b w h bc ps sp G0 G1 ac0 ad0 al0 am0 ac1 ad1 al1 am1 mS mP b2 w2 h2 ps2 sp2 bs2 e0 c0 d0 i0 m0 e1 c1 d1 i1 m1 tS tP b3 w3 h3 ps3 sp3 bs3 e3 c3 d3 i3 m3 e4 c4 d4 i4 m4 ss pt rd wd sc fb fw fh fs fd sn fp fa co un zz oo dg gr ro nx pf mn F kk
    · refine sw_tabIn (pc := 33) C 520 d_law_33 (by decide) (by decide) (off := 487) rfl (by decide) ?_
      exact law_12 l g C sa N sf Z x ob r dw a1 z1 o1 dr a2 z2 o2 A R i hi hN B S hp l0 r1 k1 k2 k3 kf1 kh1 r2 j1 j2 j3 j4 j5 kf2 kh2 nS nP b w h bc ps sp G0 G1 ac0 ad0 al0 am0 ac1 ad1 al1 am1 mS mP b2 w2 h2 ps2 sp2 bs2 e0 c0 d0 i0 m0 e1 c1 d1 i1 m1 tS tP b3 w3 h3 ps3 sp3 bs3 e3 c3 d3 i3 m3 e4 c4 d4 i4 m4 ss pt rd wd sc fb fw fh fs fd sn fp fa co un zz oo dg gr ro nx pf mn F kk
    · refine sw_tabIn (pc := 33) C 563 d_law_33 (by decide) (by decide) (off := 530) rfl (by decide) ?_
      exact law_13 l g C sa N sf Z x ob r dw a1 z1 o1 dr a2 z2 o2 A R i hi hN B S hp l0 r1 k1 k2 k3 kf1 kh1 r2 j1 j2 j3 j4 j5 kf2 kh2 nS nP b w h bc ps sp G0 G1 ac0 ad0 al0 am0 ac1 ad1 al1 am1 mS mP b2 w2 h2 ps2 sp2 bs2 e0 c0 d0 i0 m0 e1 c1 d1 i1 m1 tS tP b3 w3 h3 ps3 sp3 bs3 e3 c3 d3 i3 m3 e4 c4 d4 i4 m4 ss pt rd wd sc fb fw fh fs fd sn fp fa co un zz oo dg gr ro nx pf mn F kk
    · refine sw_tabIn (pc := 33) C 606 d_law_33 (by decide) (by decide) (off := 573) rfl (by decide) ?_
      exact law_14 l g C sa N sf Z x ob r dw a1 z1 o1 dr a2 z2 o2 A R i hi hN B S hp l0 r1 k1 k2 k3 kf1 kh1 r2 j1 j2 j3 j4 j5 kf2 kh2 nS nP b w h bc ps sp G0 G1 ac0 ad0 al0 am0 ac1 ad1 al1 am1 mS mP b2 w2 h2 ps2 sp2 bs2 e0 c0 d0 i0 m0 e1 c1 d1 i1 m1 tS tP b3 w3 h3 ps3 sp3 bs3 e3 c3 d3 i3 m3 e4 c4 d4 i4 m4 ss pt rd wd sc fb fw fh fs fd sn fp fa co un zz oo dg gr ro nx pf mn F kk
    · refine sw_tabIn (pc := 33) C 619 d_law_33 (by decide) (by decide) (off := 586) rfl (by decide) ?_
      exact law_15 l g C sa N sf Z x ob r dw a1 z1 o1 dr a2 z2 o2 A R i hi hN B S hp l0 r1 k1 k2 k3 kf1 kh1 r2 j1 j2 j3 j4 j5 kf2 kh2 nS nP b w h bc ps sp G0 G1 ac0 ad0 al0 am0 ac1 ad1 al1 am1 mS mP b2 w2 h2 ps2 sp2 bs2 e0 c0 d0 i0 m0 e1 c1 d1 i1 m1 tS tP b3 w3 h3 ps3 sp3 bs3 e3 c3 d3 i3 m3 e4 c4 d4 i4 m4 ss pt rd wd sc fb fw fh fs fd sn fp fa co un zz oo dg gr ro nx pf mn F kk
    · refine sw_tabIn (pc := 33) C 643 d_law_33 (by decide) (by decide) (off := 610) rfl (by decide) ?_
      exact law_16 l g C sa N sf Z x ob r dw a1 z1 o1 dr a2 z2 o2 A R i hi hN B S hp l0 r1 k1 k2 k3 kf1 kh1 r2 j1 j2 j3 j4 j5 kf2 kh2 nS nP b w h bc ps sp G0 G1 ac0 ad0 al0 am0 ac1 ad1 al1 am1 mS mP b2 w2 h2 ps2 sp2 bs2 e0 c0 d0 i0 m0 e1 c1 d1 i1 m1 tS tP b3 w3 h3 ps3 sp3 bs3 e3 c3 d3 i3 m3 e4 c4 d4 i4 m4 ss pt rd wd sc fb fw fh fs fd sn fp fa co un zz oo dg gr ro nx pf mn F kk
    · refine sw_tabOut (pc := 33) C 656 d_law_33 (Or.inr (by rw [nI_toInt (by omega)]; omega)) (by decide) ?_
      exact kk _ ⟨B, S, hp, l0, r1, k1, k2, k3, kf1, kh1, r2, j1, j2, j3, j4, j5, kf2, kh2, nS, nP, b, w, h, bc, ps, sp, G0, G1, ac0, ad0, al0, am0, ac1, ad1, al1, am1, mS, mP, b2, w2, h2, ps2, sp2, bs2, e0, c0, d0, i0, m0, e1, c1, d1, i1, m1, tS, tP, b3, w3, h3, ps3, sp3, bs3, e3, c3, d3, i3, m3, e4, c4, d4, i4, m4, ss, pt, rd, wd, sc, fb, fw, fh, fs, fd, sn, fp, fa, co, un, zz, oo, dg, gr, ro, nx, pf, mn, F, rfl⟩
