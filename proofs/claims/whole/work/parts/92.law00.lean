/-! the law: case 0 -/
set_option maxRecDepth 100000 in
set_option maxHeartbeats 8000000 in
theorem law_0 {X : Cz} {nm : String} (l : Launch) (g : Gl) (C : Cx X l g (yL nm) code 4 (some .boolean) rmL) (sa N : Nat) (sf : Nat → Int32) (Z : Sc X sa N sf) (x ob r dw a1 z1 o1 dr a2 z2 o2 : Nat) (A R : Nat → Nat) (i : Nat) (hi : i + 6 ≤ N) (hN : N < 2 ^ 31) (B S : Nat → Nat) (hp : Bool) (l0 : List Nat) (r1 : Nat) (k1 k2 k3 : Int32) (kf1 kh1 : Nat → Int32) (r2 : Nat) (j1 j2 j3 j4 j5 : Int32) (kf2 kh2 : Nat → Int32) (nS nP : Nat) (b w h bc ps sp : Nat → Nat) (G0 G1 : Nat → Nat → Int32) (ac0 ad0 al0 : Nat → Int32) (am0 : Bool) (ac1 ad1 al1 : Nat → Int32) (am1 : Bool) (mS mP : Nat) (b2 w2 h2 ps2 sp2 : Nat → Nat) (bs2 e0 c0 d0 i0 : Nat → Int32) (m0 : Bool) (e1 c1 d1 i1 : Nat → Int32) (m1 : Bool) (tS tP : Nat) (b3 w3 h3 ps3 sp3 : Nat → Nat) (bs3 e3 c3 d3 i3 : Nat → Int32) (m3 : Bool) (e4 c4 d4 i4 : Nat → Int32) (m4 : Bool) (ss : Nat) (pt : Nat) (rd : Bool) (wd : Nat) (sc : Nat) (fb : Nat → Int64) (fw : Nat → Int32) (fh : Nat → Int32) (fs : Nat → Int32) (fd : Nat → Int32) (sn : Nat → Int64) (fp : Nat → Int32) (fa : Nat → Int32) (co : Nat → Int32) (un : Nat → Int32) (zz : Nat → Int32) (oo : Nat → Int32) (dg : Nat → Int32) (gr : Nat → Int32) (ro : Nat → Int32) (nx : Nat → Int32) (pf : Nat → Int32) (mn : Nat → Int32) (F : FCT l0 hp nS nP b w h bc ps sp mS mP b2 w2 h2 ps2 sp2 e0 c0 e1 c1 tS tP b3 w3 h3 ps3 sp3 ss pt fb fw fh fs sn fp fa co un)
    (kk : ∀ ws : va_W, REL g x ob r dw a1 z1 o1 dr a2 z2 o2 A R ws → SW X g 4 101 8908 ws 656 [some (.ref sa), some (.ref x), some (.ref (R 0)), some (.int (nI i))] []) : SW X g 4 101 8908 (CW g x ob r dw a1 z1 o1 dr a2 z2 o2 A B S hp l0 r1 k1 k2 k3 kf1 kh1 r2 j1 j2 j3 j4 j5 kf2 kh2 nS nP b w h bc ps sp G0 G1 ac0 ad0 al0 am0 ac1 ad1 al1 am1 mS mP b2 w2 h2 ps2 sp2 bs2 e0 c0 d0 i0 m0 e1 c1 d1 i1 m1 tS tP b3 w3 h3 ps3 sp3 bs3 e3 c3 d3 i3 m3 e4 c4 d4 i4 m4 ++ RW g R nS nP l0 ss pt hp rd wd sc fb fw fh fs ps sp G0 G1 fd sn fp fa co un zz oo dg gr ro nx pf mn) 116 [some (.ref sa), some (.ref x), some (.ref (R 0)), some (.int (nI i))] [] := by
  obtain ⟨hl, ⟨hS, hP⟩, H, Q, hdp, O2, O3, ⟨hss, hpt⟩, HP⟩ := id F
  obtain ⟨bN, hbN, eb⟩ := wb_of (((sf (i + 1)).toInt64 <<< ((nI 32).toInt64 &&& 63)) ||| ((sf (i + 2)).toInt64 &&& 4294967295))
  refine sw_aload_n (pc := 116) C d_Law_law_116 rfl rfl ?_
  refine sw_aload_n (pc := 117) C d_Law_law_117 rfl rfl ?_
  refine sw_iload_n (pc := 118) C d_Law_law_118 rfl rfl ?_
  refine sw_iconst (pc := 119) C (nI 1) d_Law_law_119 (by decide) ?_
  refine sw_iadd (pc := 120) C d_Law_law_120 ?_
  refine sw_topi (z := nI (i + 1)) (nI_add _ _) ?_
  refine sw_sld (pc := 121) C Z rfl (by omega) hN d_Law_law_121 ?_
  refine sw_i2l (pc := 122) C d_Law_law_122 ?_
  refine sw_bipush (pc := 123) C (nI 32) d_Law_law_123 (by decide) ?_
  refine sw_lshl (pc := 125) C d_Law_law_125 ?_
  refine sw_aload_n (pc := 126) C d_Law_law_126 rfl rfl ?_
  refine sw_iload_n (pc := 127) C d_Law_law_127 rfl rfl ?_
  refine sw_iconst (pc := 128) C (nI 2) d_Law_law_128 (by decide) ?_
  refine sw_iadd (pc := 129) C d_Law_law_129 ?_
  refine sw_topi (z := nI (i + 2)) (nI_add _ _) ?_
  refine sw_sld (pc := 130) C Z rfl (by omega) hN d_Law_law_130 ?_
  refine sw_i2l (pc := 131) C d_Law_law_131 ?_
  refine sw_ldc2 (pc := 132) C t_850 d_Law_law_132 ?_
  refine sw_land (pc := 135) C d_Law_law_135 ?_
  refine sw_lor (pc := 136) C d_Law_law_136 ?_
  refine sw_topl (z := lN bN) eb ?_
  refine sw_aload_n (pc := 137) C d_Law_law_137 rfl rfl ?_
  refine sw_iload_n (pc := 138) C d_Law_law_138 rfl rfl ?_
  refine sw_iconst (pc := 139) C (nI 3) d_Law_law_139 (by decide) ?_
  refine sw_iadd (pc := 140) C d_Law_law_140 ?_
  refine sw_topi (z := nI (i + 3)) (nI_add _ _) ?_
  refine sw_sld (pc := 141) C Z rfl (by omega) hN d_Law_law_141 ?_
  refine sw_aload_n (pc := 142) C d_Law_law_142 rfl rfl ?_
  refine sw_iload_n (pc := 143) C d_Law_law_143 rfl rfl ?_
  refine sw_iconst (pc := 144) C (nI 4) d_Law_law_144 (by decide) ?_
  refine sw_iadd (pc := 145) C d_Law_law_145 ?_
  refine sw_topi (z := nI (i + 4)) (nI_add _ _) ?_
  refine sw_sld (pc := 146) C Z rfl (by omega) hN d_Law_law_146 ?_
  refine sw_aload_n (pc := 147) C d_Law_law_147 rfl rfl ?_
  refine sw_iload_n (pc := 148) C d_Law_law_148 rfl rfl ?_
  refine sw_iconst (pc := 149) C (nI 5) d_Law_law_149 (by decide) ?_
  refine sw_iadd (pc := 150) C d_Law_law_150 ?_
  refine sw_topi (z := nI (i + 5)) (nI_add _ _) ?_
  refine sw_sld (pc := 151) C Z rfl (by omega) hN d_Law_law_151 ?_
  refine sw_callVP (pc := 152) C (c_LPshape l g x ob dw dr A B S hp nS nP b w h (fun k => bsI (bc k)) hS bN hbN (sf (i + 3)) (sf (i + 4)) (sf (i + 5))) sv_LP_shape t_246 rfl rfl rfl [0, 11, 12, 25, 26, 27, 28, 29, 30, 31, 32] rfl rfl rfl rfl (Nat.le_of_ble_eq_true rfl) (Nat.le_of_ble_eq_true rfl) (Nat.le_of_ble_eq_true rfl) (Nat.le_of_ble_eq_true rfl) (Nat.le_of_ble_eq_true rfl) d_Law_law_152 (fun v w1 hpp => ?_)
  rcases hpp with ⟨Ha, rfl, rfl⟩ | ⟨wn, hn, c9, Ho, rfl, rfl⟩
  · skip
    refine ⟨rfl, ?_⟩
    refine sw_ws (ws' := CW g x ob r dw a1 z1 o1 dr a2 z2 o2 A B S hp l0 r1 k1 k2 k3 kf1 kh1 r2 j1 j2 j3 j4 j5 kf2 kh2 nS nP b w h bc ps sp G0 G1 ac0 ad0 al0 am0 ac1 ad1 al1 am1 mS mP b2 w2 h2 ps2 sp2 bs2 e0 c0 d0 i0 m0 e1 c1 d1 i1 m1 tS tP b3 w3 h3 ps3 sp3 bs3 e3 c3 d3 i3 m3 e4 c4 d4 i4 m4 ++ RW g R nS nP l0 ss pt hp rd wd sc fb fw fh fs ps sp G0 G1 fd sn fp fa co un zz oo dg gr ro nx pf mn) rfl ?_
    refine sw_aload_n (pc := 155) C d_Law_law_155 rfl rfl ?_
    refine sw_aload_n (pc := 156) C d_Law_law_156 rfl rfl ?_
    refine sw_iload_n (pc := 157) C d_Law_law_157 rfl rfl ?_
    refine sw_iconst (pc := 158) C (nI 1) d_Law_law_158 (by decide) ?_
    refine sw_iadd (pc := 159) C d_Law_law_159 ?_
    refine sw_topi (z := nI (i + 1)) (nI_add _ _) ?_
    refine sw_sld (pc := 160) C Z rfl (by omega) hN d_Law_law_160 ?_
    refine sw_i2l (pc := 161) C d_Law_law_161 ?_
    refine sw_bipush (pc := 162) C (nI 32) d_Law_law_162 (by decide) ?_
    refine sw_lshl (pc := 164) C d_Law_law_164 ?_
    refine sw_aload_n (pc := 165) C d_Law_law_165 rfl rfl ?_
    refine sw_iload_n (pc := 166) C d_Law_law_166 rfl rfl ?_
    refine sw_iconst (pc := 167) C (nI 2) d_Law_law_167 (by decide) ?_
    refine sw_iadd (pc := 168) C d_Law_law_168 ?_
    refine sw_topi (z := nI (i + 2)) (nI_add _ _) ?_
    refine sw_sld (pc := 169) C Z rfl (by omega) hN d_Law_law_169 ?_
    refine sw_i2l (pc := 170) C d_Law_law_170 ?_
    refine sw_ldc2 (pc := 171) C t_850 d_Law_law_171 ?_
    refine sw_land (pc := 174) C d_Law_law_174 ?_
    refine sw_lor (pc := 175) C d_Law_law_175 ?_
    refine sw_topl (z := lN bN) eb ?_
    refine sw_aload_n (pc := 176) C d_Law_law_176 rfl rfl ?_
    refine sw_iload_n (pc := 177) C d_Law_law_177 rfl rfl ?_
    refine sw_iconst (pc := 178) C (nI 3) d_Law_law_178 (by decide) ?_
    refine sw_iadd (pc := 179) C d_Law_law_179 ?_
    refine sw_topi (z := nI (i + 3)) (nI_add _ _) ?_
    refine sw_sld (pc := 180) C Z rfl (by omega) hN d_Law_law_180 ?_
    refine sw_aload_n (pc := 181) C d_Law_law_181 rfl rfl ?_
    refine sw_iload_n (pc := 182) C d_Law_law_182 rfl rfl ?_
    refine sw_iconst (pc := 183) C (nI 4) d_Law_law_183 (by decide) ?_
    refine sw_iadd (pc := 184) C d_Law_law_184 ?_
    refine sw_topi (z := nI (i + 4)) (nI_add _ _) ?_
    refine sw_sld (pc := 185) C Z rfl (by omega) hN d_Law_law_185 ?_
    refine sw_aload_n (pc := 186) C d_Law_law_186 rfl rfl ?_
    refine sw_iload_n (pc := 187) C d_Law_law_187 rfl rfl ?_
    refine sw_iconst (pc := 188) C (nI 5) d_Law_law_188 (by decide) ?_
    refine sw_iadd (pc := 189) C d_Law_law_189 ?_
    refine sw_topi (z := nI (i + 5)) (nI_add _ _) ?_
    refine sw_sld (pc := 190) C Z rfl (by omega) hN d_Law_law_190 ?_
    refine sw_callVP (pc := 191) C (c_Md_shape l g R nS nP l0.length ss pt hp rd wd sc hS fb fw fh fs bN hbN (sf (i + 3)) (sf (i + 4)) (sf (i + 5))) sv_Md_shape t_665 rfl rfl rfl [77, 78, 79, 80, 81] rfl rfl rfl rfl (Nat.le_of_ble_eq_true rfl) (Nat.le_of_ble_eq_true rfl) (Nat.le_of_ble_eq_true rfl) (Nat.le_of_ble_eq_true rfl) (Nat.le_of_ble_eq_true rfl) d_Law_law_191 (fun v w1 hpp => ?_)
    rcases hpp with ⟨Hb, rfl, rfl⟩ | ⟨wn2, hn2, c8, Ho2, rfl, rfl⟩
    · skip
      refine ⟨rfl, ?_⟩
      refine sw_ws (ws' := CW g x ob r dw a1 z1 o1 dr a2 z2 o2 A B S hp l0 r1 k1 k2 k3 kf1 kh1 r2 j1 j2 j3 j4 j5 kf2 kh2 nS nP b w h bc ps sp G0 G1 ac0 ad0 al0 am0 ac1 ad1 al1 am1 mS mP b2 w2 h2 ps2 sp2 bs2 e0 c0 d0 i0 m0 e1 c1 d1 i1 m1 tS tP b3 w3 h3 ps3 sp3 bs3 e3 c3 d3 i3 m3 e4 c4 d4 i4 m4 ++ RW g R nS nP l0 ss pt hp rd wd sc fb fw fh fs ps sp G0 G1 fd sn fp fa co un zz oo dg gr ro nx pf mn) rfl ?_
      refine sw_icmp_eq (pc := 194) C 656 d_Law_law_194 (by decide) (fun hq => ?_) (fun hq => ?_)
      · skip
        exact kk _ ⟨B, S, hp, l0, r1, k1, k2, k3, kf1, kh1, r2, j1, j2, j3, j4, j5, kf2, kh2, nS, nP, b, w, h, bc, ps, sp, G0, G1, ac0, ad0, al0, am0, ac1, ad1, al1, am1, mS, mP, b2, w2, h2, ps2, sp2, bs2, e0, c0, d0, i0, m0, e1, c1, d1, i1, m1, tS, tP, b3, w3, h3, ps3, sp3, bs3, e3, c3, d3, i3, m3, e4, c4, d4, i4, m4, ss, pt, rd, wd, sc, fb, fw, fh, fs, fd, sn, fp, fa, co, un, zz, oo, dg, gr, ro, nx, pf, mn, F, rfl⟩
      exact absurd rfl hq
    · exfalso
      exact Ha _ _ _ Ho2
  · skip
    refine ⟨rfl, ?_⟩
    refine sw_ws (ws' := CW g x ob r dw a1 z1 o1 dr a2 z2 o2 A B S hp l0 r1 k1 k2 k3 kf1 kh1 r2 j1 j2 j3 j4 j5 kf2 kh2 (nS + 1) nP (upN b nS bN) (upN w nS wn) (upN h nS hn) (upN bc nS c9) ps sp G0 G1 ac0 ad0 al0 am0 ac1 ad1 al1 am1 mS mP b2 w2 h2 ps2 sp2 bs2 e0 c0 d0 i0 m0 e1 c1 d1 i1 m1 tS tP b3 w3 h3 ps3 sp3 bs3 e3 c3 d3 i3 m3 e4 c4 d4 i4 m4 ++ RW g R nS nP l0 ss pt hp rd wd sc fb fw fh fs ps sp G0 G1 fd sn fp fa co un zz oo dg gr ro nx pf mn) (by rw [shp_ws]; rfl) ?_
    refine sw_aload_n (pc := 155) C d_Law_law_155 rfl rfl ?_
    refine sw_aload_n (pc := 156) C d_Law_law_156 rfl rfl ?_
    refine sw_iload_n (pc := 157) C d_Law_law_157 rfl rfl ?_
    refine sw_iconst (pc := 158) C (nI 1) d_Law_law_158 (by decide) ?_
    refine sw_iadd (pc := 159) C d_Law_law_159 ?_
    refine sw_topi (z := nI (i + 1)) (nI_add _ _) ?_
    refine sw_sld (pc := 160) C Z rfl (by omega) hN d_Law_law_160 ?_
    refine sw_i2l (pc := 161) C d_Law_law_161 ?_
    refine sw_bipush (pc := 162) C (nI 32) d_Law_law_162 (by decide) ?_
    refine sw_lshl (pc := 164) C d_Law_law_164 ?_
    refine sw_aload_n (pc := 165) C d_Law_law_165 rfl rfl ?_
    refine sw_iload_n (pc := 166) C d_Law_law_166 rfl rfl ?_
    refine sw_iconst (pc := 167) C (nI 2) d_Law_law_167 (by decide) ?_
    refine sw_iadd (pc := 168) C d_Law_law_168 ?_
    refine sw_topi (z := nI (i + 2)) (nI_add _ _) ?_
    refine sw_sld (pc := 169) C Z rfl (by omega) hN d_Law_law_169 ?_
    refine sw_i2l (pc := 170) C d_Law_law_170 ?_
    refine sw_ldc2 (pc := 171) C t_850 d_Law_law_171 ?_
    refine sw_land (pc := 174) C d_Law_law_174 ?_
    refine sw_lor (pc := 175) C d_Law_law_175 ?_
    refine sw_topl (z := lN bN) eb ?_
    refine sw_aload_n (pc := 176) C d_Law_law_176 rfl rfl ?_
    refine sw_iload_n (pc := 177) C d_Law_law_177 rfl rfl ?_
    refine sw_iconst (pc := 178) C (nI 3) d_Law_law_178 (by decide) ?_
    refine sw_iadd (pc := 179) C d_Law_law_179 ?_
    refine sw_topi (z := nI (i + 3)) (nI_add _ _) ?_
    refine sw_sld (pc := 180) C Z rfl (by omega) hN d_Law_law_180 ?_
    refine sw_aload_n (pc := 181) C d_Law_law_181 rfl rfl ?_
    refine sw_iload_n (pc := 182) C d_Law_law_182 rfl rfl ?_
    refine sw_iconst (pc := 183) C (nI 4) d_Law_law_183 (by decide) ?_
    refine sw_iadd (pc := 184) C d_Law_law_184 ?_
    refine sw_topi (z := nI (i + 4)) (nI_add _ _) ?_
    refine sw_sld (pc := 185) C Z rfl (by omega) hN d_Law_law_185 ?_
    refine sw_aload_n (pc := 186) C d_Law_law_186 rfl rfl ?_
    refine sw_iload_n (pc := 187) C d_Law_law_187 rfl rfl ?_
    refine sw_iconst (pc := 188) C (nI 5) d_Law_law_188 (by decide) ?_
    refine sw_iadd (pc := 189) C d_Law_law_189 ?_
    refine sw_topi (z := nI (i + 5)) (nI_add _ _) ?_
    refine sw_sld (pc := 190) C Z rfl (by omega) hN d_Law_law_190 ?_
    refine sw_callVP (pc := 191) C (c_Md_shape l g R nS nP l0.length ss pt hp rd wd sc hS fb fw fh fs bN hbN (sf (i + 3)) (sf (i + 4)) (sf (i + 5))) sv_Md_shape t_665 rfl rfl rfl [77, 78, 79, 80, 81] rfl rfl rfl rfl (Nat.le_of_ble_eq_true rfl) (Nat.le_of_ble_eq_true rfl) (Nat.le_of_ble_eq_true rfl) (Nat.le_of_ble_eq_true rfl) (Nat.le_of_ble_eq_true rfl) d_Law_law_191 (fun v w1 hpp => ?_)
    rcases hpp with ⟨Hb, rfl, rfl⟩ | ⟨wn2, hn2, c8, Ho2, rfl, rfl⟩
    · exfalso
      exact Hb _ _ _ Ho
    · obtain ⟨rfl, rfl, rfl⟩ := shOK_fun Ho Ho2
      refine ⟨rfl, ?_⟩
      refine sw_ws (ws' := CW g x ob r dw a1 z1 o1 dr a2 z2 o2 A B S hp l0 r1 k1 k2 k3 kf1 kh1 r2 j1 j2 j3 j4 j5 kf2 kh2 (nS + 1) nP (upN b nS bN) (upN w nS wn) (upN h nS hn) (upN bc nS c9) ps sp G0 G1 ac0 ad0 al0 am0 ac1 ad1 al1 am1 mS mP b2 w2 h2 ps2 sp2 bs2 e0 c0 d0 i0 m0 e1 c1 d1 i1 m1 tS tP b3 w3 h3 ps3 sp3 bs3 e3 c3 d3 i3 m3 e4 c4 d4 i4 m4 ++ RW g R (nS + 1) nP l0 ss pt hp rd wd sc (vp_updL fb nS (lN bN)) (upd fw nS (nI wn)) (upd fh nS (nI hn)) (upd fs nS (bsI c9)) ps sp G0 G1 fd sn fp fa co un zz oo dg gr ro nx pf mn) rfl ?_
      refine sw_icmp_eqN (pc := 194) C 656 (by omega) (by omega) d_Law_law_194 (by decide) (fun hq => ?_) (fun hq => ?_)
      · skip
        exact kk _ ⟨B, S, hp, l0, r1, k1, k2, k3, kf1, kh1, r2, j1, j2, j3, j4, j5, kf2, kh2, (nS + 1), nP, (upN b nS bN), (upN w nS wn), (upN h nS hn), (upN bc nS c9), ps, sp, G0, G1, ac0, ad0, al0, am0, ac1, ad1, al1, am1, mS, mP, b2, w2, h2, ps2, sp2, bs2, e0, c0, d0, i0, m0, e1, c1, d1, i1, m1, tS, tP, b3, w3, h3, ps3, sp3, bs3, e3, c3, d3, i3, m3, e4, c4, d4, i4, m4, ss, pt, rd, wd, sc, (vp_updL fb nS (lN bN)), (upd fw nS (nI wn)), (upd fh nS (nI hn)), (upd fs nS (bsI c9)), fd, sn, fp, fa, co, un, zz, oo, dg, gr, ro, nx, pf, mn, (by obtain ⟨f1, f2⟩ := shp_ok hbN Ho H Q; exact ⟨hl, ⟨by have := Ho.1; omega, hP⟩, f1, f2, hdp, O2, O3, ⟨hss, hpt⟩, HP⟩), rfl⟩
      exact absurd rfl hq
