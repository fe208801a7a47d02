/-! the law: case 2 -/
set_option maxRecDepth 100000 in
set_option maxHeartbeats 8000000 in
theorem law_2 {X : Cz} {nm : String} (l : Launch) (g : Gl) (C : Cx X l g (yL nm) code 4 (some .boolean) rmL) (sa N : Nat) (sf : Nat → Int32) (Z : Sc X sa N sf) (x ob r dw a1 z1 o1 dr a2 z2 o2 : Nat) (A R : Nat → Nat) (i : Nat) (hi : i + 6 ≤ N) (hN : N < 2 ^ 31) (B S : Nat → Nat) (hp : Bool) (l0 : List Nat) (r1 : Nat) (k1 k2 k3 : Int32) (kf1 kh1 : Nat → Int32) (r2 : Nat) (j1 j2 j3 j4 j5 : Int32) (kf2 kh2 : Nat → Int32) (nS nP : Nat) (b w h bc ps sp : Nat → Nat) (G0 G1 : Nat → Nat → Int32) (ac0 ad0 al0 : Nat → Int32) (am0 : Bool) (ac1 ad1 al1 : Nat → Int32) (am1 : Bool) (mS mP : Nat) (b2 w2 h2 ps2 sp2 : Nat → Nat) (bs2 e0 c0 d0 i0 : Nat → Int32) (m0 : Bool) (e1 c1 d1 i1 : Nat → Int32) (m1 : Bool) (tS tP : Nat) (b3 w3 h3 ps3 sp3 : Nat → Nat) (bs3 e3 c3 d3 i3 : Nat → Int32) (m3 : Bool) (e4 c4 d4 i4 : Nat → Int32) (m4 : Bool) (ss : Nat) (pt : Nat) (rd : Bool) (wd : Nat) (sc : Nat) (fb : Nat → Int64) (fw : Nat → Int32) (fh : Nat → Int32) (fs : Nat → Int32) (fd : Nat → Int32) (sn : Nat → Int64) (fp : Nat → Int32) (fa : Nat → Int32) (co : Nat → Int32) (un : Nat → Int32) (zz : Nat → Int32) (oo : Nat → Int32) (dg : Nat → Int32) (gr : Nat → Int32) (ro : Nat → Int32) (nx : Nat → Int32) (pf : Nat → Int32) (mn : Nat → Int32) (F : FCT l0 hp nS nP b w h bc ps sp mS mP b2 w2 h2 ps2 sp2 e0 c0 e1 c1 tS tP b3 w3 h3 ps3 sp3 ss pt fb fw fh fs sn fp fa co un)
    (kk : ∀ ws : va_W, REL g x ob r dw a1 z1 o1 dr a2 z2 o2 A R ws → SW X g 4 101 8908 ws 656 [some (.ref sa), some (.ref x), some (.ref (R 0)), some (.int (nI i))] []) : SW X g 4 101 8908 (CW g x ob r dw a1 z1 o1 dr a2 z2 o2 A B S hp l0 r1 k1 k2 k3 kf1 kh1 r2 j1 j2 j3 j4 j5 kf2 kh2 nS nP b w h bc ps sp G0 G1 ac0 ad0 al0 am0 ac1 ad1 al1 am1 mS mP b2 w2 h2 ps2 sp2 bs2 e0 c0 d0 i0 m0 e1 c1 d1 i1 m1 tS tP b3 w3 h3 ps3 sp3 bs3 e3 c3 d3 i3 m3 e4 c4 d4 i4 m4 ++ RW g R nS nP l0 ss pt hp rd wd sc fb fw fh fs ps sp G0 G1 fd sn fp fa co un zz oo dg gr ro nx pf mn) 242 [some (.ref sa), some (.ref x), some (.ref (R 0)), some (.int (nI i))] [] := by
  obtain ⟨hl, ⟨hS, hP⟩, H, Q, hdp, O2, O3, ⟨hss, hpt⟩, HP⟩ := id F
  obtain ⟨oc, hoc, eb⟩ := wb_of (((sf (i + 3)).toInt64 <<< ((nI 32).toInt64 &&& 63)) ||| ((sf (i + 4)).toInt64 &&& 4294967295))
  refine sw_aload_n (pc := 242) C d_Law_law_242 rfl rfl ?_
  refine sw_aload_n (pc := 243) C d_Law_law_243 rfl rfl ?_
  refine sw_iload_n (pc := 244) C d_Law_law_244 rfl rfl ?_
  refine sw_iconst (pc := 245) C (nI 1) d_Law_law_245 (by decide) ?_
  refine sw_iadd (pc := 246) C d_Law_law_246 ?_
  refine sw_topi (z := nI (i + 1)) (nI_add _ _) ?_
  refine sw_sld (pc := 247) C Z rfl (by omega) hN d_Law_law_247 ?_
  refine sw_aload_n (pc := 248) C d_Law_law_248 rfl rfl ?_
  refine sw_iload_n (pc := 249) C d_Law_law_249 rfl rfl ?_
  refine sw_iconst (pc := 250) C (nI 2) d_Law_law_250 (by decide) ?_
  refine sw_iadd (pc := 251) C d_Law_law_251 ?_
  refine sw_topi (z := nI (i + 2)) (nI_add _ _) ?_
  refine sw_sld (pc := 252) C Z rfl (by omega) hN d_Law_law_252 ?_
  refine sw_aload_n (pc := 253) C d_Law_law_253 rfl rfl ?_
  refine sw_iload_n (pc := 254) C d_Law_law_254 rfl rfl ?_
  refine sw_iconst (pc := 255) C (nI 3) d_Law_law_255 (by decide) ?_
  refine sw_iadd (pc := 256) C d_Law_law_256 ?_
  refine sw_topi (z := nI (i + 3)) (nI_add _ _) ?_
  refine sw_sld (pc := 257) C Z rfl (by omega) hN d_Law_law_257 ?_
  refine sw_i2l (pc := 258) C d_Law_law_258 ?_
  refine sw_bipush (pc := 259) C (nI 32) d_Law_law_259 (by decide) ?_
  refine sw_lshl (pc := 261) C d_Law_law_261 ?_
  refine sw_aload_n (pc := 262) C d_Law_law_262 rfl rfl ?_
  refine sw_iload_n (pc := 263) C d_Law_law_263 rfl rfl ?_
  refine sw_iconst (pc := 264) C (nI 4) d_Law_law_264 (by decide) ?_
  refine sw_iadd (pc := 265) C d_Law_law_265 ?_
  refine sw_topi (z := nI (i + 4)) (nI_add _ _) ?_
  refine sw_sld (pc := 266) C Z rfl (by omega) hN d_Law_law_266 ?_
  refine sw_i2l (pc := 267) C d_Law_law_267 ?_
  refine sw_ldc2 (pc := 268) C t_850 d_Law_law_268 ?_
  refine sw_land (pc := 271) C d_Law_law_271 ?_
  refine sw_lor (pc := 272) C d_Law_law_272 ?_
  refine sw_topl (z := lN oc) eb ?_
  refine sw_callVP (pc := 273) C (c_LPpaint l g x ob dw dr A B S hp nS nP G0 G1 ac0 ad0 al0 am0 ac1 ad1 al1 am1 (sf (i + 1)) (sf (i + 2)) oc hoc) sv_LP_paint t_276 rfl rfl rfl [0, 11, 15, 16, 17, 18, 19, 20, 21, 22, 23, 24] rfl rfl rfl rfl (Nat.le_of_ble_eq_true rfl) (Nat.le_of_ble_eq_true rfl) (Nat.le_of_ble_eq_true rfl) (Nat.le_of_ble_eq_true rfl) (Nat.le_of_ble_eq_true rfl) d_Law_law_273 (fun v w1 hpp => ?_)
  rcases hpp with ⟨Ha, rfl, rfl⟩ | ⟨Ha, rfl, rn, hrn, er, rfl⟩
  · skip
    refine ⟨rfl, ?_⟩
    refine sw_ws (ws' := CW g x ob r dw a1 z1 o1 dr a2 z2 o2 A B S hp l0 r1 k1 k2 k3 kf1 kh1 r2 j1 j2 j3 j4 j5 kf2 kh2 nS nP b w h bc ps sp G0 G1 ac0 ad0 al0 am0 ac1 ad1 al1 am1 mS mP b2 w2 h2 ps2 sp2 bs2 e0 c0 d0 i0 m0 e1 c1 d1 i1 m1 tS tP b3 w3 h3 ps3 sp3 bs3 e3 c3 d3 i3 m3 e4 c4 d4 i4 m4 ++ RW g R nS nP l0 ss pt hp rd wd sc fb fw fh fs ps sp G0 G1 fd sn fp fa co un zz oo dg gr ro nx pf mn) rfl ?_
    refine sw_aload_n (pc := 276) C d_Law_law_276 rfl rfl ?_
    refine sw_aload_n (pc := 277) C d_Law_law_277 rfl rfl ?_
    refine sw_iload_n (pc := 278) C d_Law_law_278 rfl rfl ?_
    refine sw_iconst (pc := 279) C (nI 1) d_Law_law_279 (by decide) ?_
    refine sw_iadd (pc := 280) C d_Law_law_280 ?_
    refine sw_topi (z := nI (i + 1)) (nI_add _ _) ?_
    refine sw_sld (pc := 281) C Z rfl (by omega) hN d_Law_law_281 ?_
    refine sw_aload_n (pc := 282) C d_Law_law_282 rfl rfl ?_
    refine sw_iload_n (pc := 283) C d_Law_law_283 rfl rfl ?_
    refine sw_iconst (pc := 284) C (nI 2) d_Law_law_284 (by decide) ?_
    refine sw_iadd (pc := 285) C d_Law_law_285 ?_
    refine sw_topi (z := nI (i + 2)) (nI_add _ _) ?_
    refine sw_sld (pc := 286) C Z rfl (by omega) hN d_Law_law_286 ?_
    refine sw_aload_n (pc := 287) C d_Law_law_287 rfl rfl ?_
    refine sw_iload_n (pc := 288) C d_Law_law_288 rfl rfl ?_
    refine sw_iconst (pc := 289) C (nI 3) d_Law_law_289 (by decide) ?_
    refine sw_iadd (pc := 290) C d_Law_law_290 ?_
    refine sw_topi (z := nI (i + 3)) (nI_add _ _) ?_
    refine sw_sld (pc := 291) C Z rfl (by omega) hN d_Law_law_291 ?_
    refine sw_i2l (pc := 292) C d_Law_law_292 ?_
    refine sw_bipush (pc := 293) C (nI 32) d_Law_law_293 (by decide) ?_
    refine sw_lshl (pc := 295) C d_Law_law_295 ?_
    refine sw_aload_n (pc := 296) C d_Law_law_296 rfl rfl ?_
    refine sw_iload_n (pc := 297) C d_Law_law_297 rfl rfl ?_
    refine sw_iconst (pc := 298) C (nI 4) d_Law_law_298 (by decide) ?_
    refine sw_iadd (pc := 299) C d_Law_law_299 ?_
    refine sw_topi (z := nI (i + 4)) (nI_add _ _) ?_
    refine sw_sld (pc := 300) C Z rfl (by omega) hN d_Law_law_300 ?_
    refine sw_i2l (pc := 301) C d_Law_law_301 ?_
    refine sw_ldc2 (pc := 302) C t_850 d_Law_law_302 ?_
    refine sw_land (pc := 305) C d_Law_law_305 ?_
    refine sw_lor (pc := 306) C d_Law_law_306 ?_
    refine sw_topl (z := lN oc) eb ?_
    refine sw_callVP (pc := 307) C (c_Md_paint l g R nS nP l0.length ss pt hp rd wd sc G0 G1 (sf (i + 1)) (sf (i + 2)) oc hoc) sv_Md_paint t_679 rfl rfl rfl [77, 84] rfl rfl rfl rfl (Nat.le_of_ble_eq_true rfl) (Nat.le_of_ble_eq_true rfl) (Nat.le_of_ble_eq_true rfl) (Nat.le_of_ble_eq_true rfl) (Nat.le_of_ble_eq_true rfl) d_Law_law_307 (fun v w1 hpp => ?_)
    rcases hpp with ⟨Hb, rfl, rfl⟩ | ⟨Hb, rfl, rn2, hrn2, er2, rfl⟩
    · skip
      refine ⟨rfl, ?_⟩
      refine sw_ws (ws' := CW g x ob r dw a1 z1 o1 dr a2 z2 o2 A B S hp l0 r1 k1 k2 k3 kf1 kh1 r2 j1 j2 j3 j4 j5 kf2 kh2 nS nP b w h bc ps sp G0 G1 ac0 ad0 al0 am0 ac1 ad1 al1 am1 mS mP b2 w2 h2 ps2 sp2 bs2 e0 c0 d0 i0 m0 e1 c1 d1 i1 m1 tS tP b3 w3 h3 ps3 sp3 bs3 e3 c3 d3 i3 m3 e4 c4 d4 i4 m4 ++ RW g R nS nP l0 ss pt hp rd wd sc fb fw fh fs ps sp G0 G1 fd sn fp fa co un zz oo dg gr ro nx pf mn) rfl ?_
      refine sw_icmp_eq (pc := 310) C 656 d_Law_law_310 (by decide) (fun hq => ?_) (fun hq => ?_)
      · skip
        exact kk _ ⟨B, S, hp, l0, r1, k1, k2, k3, kf1, kh1, r2, j1, j2, j3, j4, j5, kf2, kh2, nS, nP, b, w, h, bc, ps, sp, G0, G1, ac0, ad0, al0, am0, ac1, ad1, al1, am1, mS, mP, b2, w2, h2, ps2, sp2, bs2, e0, c0, d0, i0, m0, e1, c1, d1, i1, m1, tS, tP, b3, w3, h3, ps3, sp3, bs3, e3, c3, d3, i3, m3, e4, c4, d4, i4, m4, ss, pt, rd, wd, sc, fb, fw, fh, fs, fd, sn, fp, fa, co, un, zz, oo, dg, gr, ro, nx, pf, mn, F, rfl⟩
      exact absurd rfl hq
    · exfalso
      exact Ha Hb
  · skip
    refine ⟨rfl, ?_⟩
    refine sw_ws (ws' := CW g x ob r dw a1 z1 o1 dr a2 z2 o2 A B S hp l0 r1 k1 k2 k3 kf1 kh1 r2 j1 j2 j3 j4 j5 kf2 kh2 nS nP b w h bc ps sp (pt0 (sf (i + 1)) G0 rn 8 oc) (pt1 (sf (i + 1)) G1 rn 4 oc) ac0 ad0 al0 am0 ac1 ad1 al1 am1 mS mP b2 w2 h2 ps2 sp2 bs2 e0 c0 d0 i0 m0 e1 c1 d1 i1 m1 tS tP b3 w3 h3 ps3 sp3 bs3 e3 c3 d3 i3 m3 e4 c4 d4 i4 m4 ++ RW g R nS nP l0 ss pt hp rd wd sc fb fw fh fs ps sp G0 G1 fd sn fp fa co un zz oo dg gr ro nx pf mn) rfl ?_
    refine sw_aload_n (pc := 276) C d_Law_law_276 rfl rfl ?_
    refine sw_aload_n (pc := 277) C d_Law_law_277 rfl rfl ?_
    refine sw_iload_n (pc := 278) C d_Law_law_278 rfl rfl ?_
    refine sw_iconst (pc := 279) C (nI 1) d_Law_law_279 (by decide) ?_
    refine sw_iadd (pc := 280) C d_Law_law_280 ?_
    refine sw_topi (z := nI (i + 1)) (nI_add _ _) ?_
    refine sw_sld (pc := 281) C Z rfl (by omega) hN d_Law_law_281 ?_
    refine sw_aload_n (pc := 282) C d_Law_law_282 rfl rfl ?_
    refine sw_iload_n (pc := 283) C d_Law_law_283 rfl rfl ?_
    refine sw_iconst (pc := 284) C (nI 2) d_Law_law_284 (by decide) ?_
    refine sw_iadd (pc := 285) C d_Law_law_285 ?_
    refine sw_topi (z := nI (i + 2)) (nI_add _ _) ?_
    refine sw_sld (pc := 286) C Z rfl (by omega) hN d_Law_law_286 ?_
    refine sw_aload_n (pc := 287) C d_Law_law_287 rfl rfl ?_
    refine sw_iload_n (pc := 288) C d_Law_law_288 rfl rfl ?_
    refine sw_iconst (pc := 289) C (nI 3) d_Law_law_289 (by decide) ?_
    refine sw_iadd (pc := 290) C d_Law_law_290 ?_
    refine sw_topi (z := nI (i + 3)) (nI_add _ _) ?_
    refine sw_sld (pc := 291) C Z rfl (by omega) hN d_Law_law_291 ?_
    refine sw_i2l (pc := 292) C d_Law_law_292 ?_
    refine sw_bipush (pc := 293) C (nI 32) d_Law_law_293 (by decide) ?_
    refine sw_lshl (pc := 295) C d_Law_law_295 ?_
    refine sw_aload_n (pc := 296) C d_Law_law_296 rfl rfl ?_
    refine sw_iload_n (pc := 297) C d_Law_law_297 rfl rfl ?_
    refine sw_iconst (pc := 298) C (nI 4) d_Law_law_298 (by decide) ?_
    refine sw_iadd (pc := 299) C d_Law_law_299 ?_
    refine sw_topi (z := nI (i + 4)) (nI_add _ _) ?_
    refine sw_sld (pc := 300) C Z rfl (by omega) hN d_Law_law_300 ?_
    refine sw_i2l (pc := 301) C d_Law_law_301 ?_
    refine sw_ldc2 (pc := 302) C t_850 d_Law_law_302 ?_
    refine sw_land (pc := 305) C d_Law_law_305 ?_
    refine sw_lor (pc := 306) C d_Law_law_306 ?_
    refine sw_topl (z := lN oc) eb ?_
    refine sw_callVP (pc := 307) C (c_Md_paint l g R nS nP l0.length ss pt hp rd wd sc G0 G1 (sf (i + 1)) (sf (i + 2)) oc hoc) sv_Md_paint t_679 rfl rfl rfl [77, 84] rfl rfl rfl rfl (Nat.le_of_ble_eq_true rfl) (Nat.le_of_ble_eq_true rfl) (Nat.le_of_ble_eq_true rfl) (Nat.le_of_ble_eq_true rfl) (Nat.le_of_ble_eq_true rfl) d_Law_law_307 (fun v w1 hpp => ?_)
    rcases hpp with ⟨Hb, rfl, rfl⟩ | ⟨Hb, rfl, rn2, hrn2, er2, rfl⟩
    · exfalso
      exact Hb Ha
    · have hsd := sdN_or (sf (i + 1))
      have Hc := (nI_eq (by omega) (by omega)).mp (er.symm.trans er2)
      subst Hc
      refine ⟨rfl, ?_⟩
      refine sw_ws (ws' := CW g x ob r dw a1 z1 o1 dr a2 z2 o2 A B S hp l0 r1 k1 k2 k3 kf1 kh1 r2 j1 j2 j3 j4 j5 kf2 kh2 nS nP b w h bc ps sp (pt0 (sf (i + 1)) G0 rn 8 oc) (pt1 (sf (i + 1)) G1 rn 4 oc) ac0 ad0 al0 am0 ac1 ad1 al1 am1 mS mP b2 w2 h2 ps2 sp2 bs2 e0 c0 d0 i0 m0 e1 c1 d1 i1 m1 tS tP b3 w3 h3 ps3 sp3 bs3 e3 c3 d3 i3 m3 e4 c4 d4 i4 m4 ++ RW g R nS nP l0 ss pt hp rd wd sc fb fw fh fs ps sp (pt0 (sf (i + 1)) G0 rn 8 oc) (pt1 (sf (i + 1)) G1 rn 4 oc) fd sn fp fa co un zz oo dg gr ro nx pf mn) rfl ?_
      refine sw_icmp_eq (pc := 310) C 656 d_Law_law_310 (by decide) (fun hq => ?_) (fun hq => ?_)
      · skip
        exact kk _ ⟨B, S, hp, l0, r1, k1, k2, k3, kf1, kh1, r2, j1, j2, j3, j4, j5, kf2, kh2, nS, nP, b, w, h, bc, ps, sp, (pt0 (sf (i + 1)) G0 rn 8 oc), (pt1 (sf (i + 1)) G1 rn 4 oc), ac0, ad0, al0, am0, ac1, ad1, al1, am1, mS, mP, b2, w2, h2, ps2, sp2, bs2, e0, c0, d0, i0, m0, e1, c1, d1, i1, m1, tS, tP, b3, w3, h3, ps3, sp3, bs3, e3, c3, d3, i3, m3, e4, c4, d4, i4, m4, ss, pt, rd, wd, sc, fb, fw, fh, fs, fd, sn, fp, fa, co, un, zz, oo, dg, gr, ro, nx, pf, mn, F, rfl⟩
      exact absurd rfl hq
