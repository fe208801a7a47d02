/-! the law: both worlds side by side -/
def yL (nm : String) : MethodName := ⟨"LayeredPageLaw", nm, "([I)Z"⟩
abbrev rmL : Room := room_1
def Sc (X : Cz) (b L : Nat) (xs : Nat → Int32) : Prop := match X with
  | (_, _, _, _, s, _, _, _, _, _, A, _) => va_X b L xs s s.heap ∧ b < s.heap.size ∧ ¬ A b
section SWS
variable {X : Cz} {l : Launch} {g : Gl} {y : MethodName} {cc : ByteArray} {nL k n pc : Nat} {r : Option FieldType} {rm : Room} {ws : va_W} {L : List (Option Value)} {st : List Value}
theorem sw_sld (C : Cx X l g y cc nL r rm) {b N : Nat} {xs : Nat → Int32} (Z : Sc X b N xs) {i : Int32} {j : Nat} (hi : i = nI j) (hj : j < N) (hN : N < 2 ^ 31) (hd : decode cc pc = .ok (.iaload, 1)) (kk : SW X g nL k n ws (pc + 1) L (.int (xs j) :: st)) : SW X g nL k n ws pc L (.int i :: .ref b :: st) := by
  subst hi
  obtain ⟨p, l0, e, R, s, m, args, below, meth, c, A, Q⟩ := X
  obtain ⟨hx, hb, hml, hown, hts, hK, hA, hr, hlk, hnm, hrm, hl0⟩ := C
  intro H locs ls hP hD hS hL
  refine va_sld hx hb Z.1 Z.2.1 Z.2.2 hS (vp_in_nI hj hN) hd ?_
  rw [nI_clamp (Nat.lt_trans hj hN)]
  exact kk H locs ls hP hD hS hL
theorem sw_slen (C : Cx X l g y cc nL r rm) {b N : Nat} {xs : Nat → Int32} (Z : Sc X b N xs) (hd : decode cc pc = .ok (.arraylength, 1)) (kk : SW X g nL k n ws (pc + 1) L (.int (nI N) :: st)) : SW X g nL k n ws pc L (.ref b :: st) := by
  obtain ⟨p, l0, e, R, s, m, args, below, meth, c, A, Q⟩ := X
  obtain ⟨hx, hb, hml, hown, hts, hK, hA, hr, hlk, hnm, hrm, hl0⟩ := C
  intro H locs ls hP hD hS hL
  exact va_slen hx hb Z.1 Z.2.1 Z.2.2 hS hd (kk H locs ls hP hD hS hL)
theorem sw_tabIn (C : Cx X l g y cc nL r rm) {dflt lo hi : Int} {offs : Array Int} {len : Nat} {x : Int32} {off : Int} (tgt : Nat) (hd : decode cc pc = .ok (.tableswitch dflt lo hi offs, len)) (h1 : ¬ x.toInt < lo) (h2 : ¬ hi < x.toInt) (ho : offs[(x.toInt - lo).toNat]? = some off) (ht : (pc : Int) + off = (tgt : Int)) (kk : SW X g nL k n ws tgt L st) : SW X g nL k n ws pc L (.int x :: st) := by
  obtain ⟨p, l0, e, R, s, m, args, below, meth, c, A, Q⟩ := X
  obtain ⟨hx, hb, hml, hown, hts, hK, hA, hr, hlk, hnm, hrm, hl0⟩ := C
  intro H locs ls hP hD hS hL
  exact lv_tableIn hx hb hd h1 h2 ho ht (kk H locs ls hP hD hS hL)
theorem sw_tabOut (C : Cx X l g y cc nL r rm) {dflt lo hi : Int} {offs : Array Int} {len : Nat} {x : Int32} (tgt : Nat) (hd : decode cc pc = .ok (.tableswitch dflt lo hi offs, len)) (h : x.toInt < lo ∨ hi < x.toInt) (ht : (pc : Int) + dflt = (tgt : Int)) (kk : SW X g nL k n ws tgt L st) : SW X g nL k n ws pc L (.int x :: st) := by
  obtain ⟨p, l0, e, R, s, m, args, below, meth, c, A, Q⟩ := X
  obtain ⟨hx, hb, hml, hown, hts, hK, hA, hr, hlk, hnm, hrm, hl0⟩ := C
  intro H locs ls hP hD hS hL
  exact lv_tableOut hx hb hd h ht (kk H locs ls hP hD hS hL)
end SWS
def CW (g : Gl) (x ob r dw a1 z1 o1 dr a2 z2 o2 : Nat) (A : Nat → Nat) (B S : Nat → Nat) (hp : Bool) (l0 : List Nat) (r1 : Nat) (k1 k2 k3 : Int32) (kf1 kh1 : Nat → Int32) (r2 : Nat) (j1 j2 j3 j4 j5 : Int32) (kf2 kh2 : Nat → Int32) (nS nP : Nat) (b w h bc ps sp : Nat → Nat) (G0 G1 : Nat → Nat → Int32) (ac0 ad0 al0 : Nat → Int32) (am0 : Bool) (ac1 ad1 al1 : Nat → Int32) (am1 : Bool) (mS mP : Nat) (b2 w2 h2 ps2 sp2 : Nat → Nat) (bs2 e0 c0 d0 i0 : Nat → Int32) (m0 : Bool) (e1 c1 d1 i1 : Nat → Int32) (m1 : Bool) (tS tP : Nat) (b3 w3 h3 ps3 sp3 : Nat → Nat) (bs3 e3 c3 d3 i3 : Nat → Int32) (m3 : Bool) (e4 c4 d4 i4 : Nat → Int32) (m4 : Bool) : va_W := [lpC x ob dw dr A B S hp, (ob, .inr (5, [.ref r, .int (nI l0.length)])), (r, .inl (g.2.1, 1200, .inl (rowOf l0))), (dw, .inr (3, [.ref a1])), (a1, .inr (1, [.ref r1, .int k1, .int k2, .ref z1, .ref o1, .int k3])), (z1, .inl (g.2.1, 48, .inl kf1)), (o1, .inl (g.2.1, 48, .inl kh1)), (dr, .inr (2, [.ref a2])), (a2, .inr (0, [.ref r2, .int j1, .int j2, .int j3, .int j4, .ref z2, .ref o2, .int j5])), (z2, .inl (g.2.1, 48, .inl kf2)), (o2, .inl (g.2.1, 48, .inl kh2))] ++ wPg g A nS nP (nF ps) (nF sp) (flat 8 (G0)) ac0 ad0 al0 am0 (flat 4 (G1)) ac1 ad1 al1 am1 (fun k => shV (b k) (w k) (h k) (bsI (bc k))) ++ wPg g B mS mP (nF ps2) (nF sp2) e0 c0 d0 i0 m0 e1 c1 d1 i1 m1 (fun k => shV (b2 k) (w2 k) (h2 k) (bs2 k)) ++ wPg g S tS tP (nF ps3) (nF sp3) e3 c3 d3 i3 m3 e4 c4 d4 i4 m4 (fun k => shV (b3 k) (w3 k) (h3 k) (bs3 k))
def RW (g : Gl) (R : Nat → Nat) (dn pl : Nat) (lr : List Nat) (ss pt : Nat) (th rd : Bool) (wd sc : Nat) (fb : Nat → Int64) (fw fh fs : Nat → Int32) (qs qp : Nat → Nat) (Q0 Q1 : Nat → Nat → Int32) (fd : Nat → Int32) (sn : Nat → Int64) (fp fa co un zz oo dg gr ro nx pf mn : Nat → Int32) : va_W := [mdC R dn pl lr.length ss pt th rd wd sc, laC g (R 1) 8 fb, iaC g (R 2) 8 fw, iaC g (R 3) 8 fh, iaC g (R 4) 8 fs, iaC g (R 5) 20 (nF qs), iaC g (R 6) 20 (nF qp), iaC g (R 7) 128 (clF Q0 Q1), iaC g (R 8) 1200 (dcF lr fd), laC g (R 9) 8 sn, iaC g (R 10) 20 fp, iaC g (R 11) 20 fa, iaC g (R 12) 128 co, iaC g (R 13) 128 un, iaC g (R 14) 48 zz, iaC g (R 15) 48 oo, iaC g (R 16) 4400 dg, iaC g (R 17) 64 gr, iaC g (R 18) 8 ro, iaC g (R 19) 8 nx, iaC g (R 20) 64 pf, zaC g (R 21) 64 mn]
def FCT (l0 : List Nat) (hp : Bool) (nS : Nat) (nP : Nat) (b : Nat → Nat) (w : Nat → Nat) (h : Nat → Nat) (bc : Nat → Nat) (ps : Nat → Nat) (sp : Nat → Nat) (mS : Nat) (mP : Nat) (b2 : Nat → Nat) (w2 : Nat → Nat) (h2 : Nat → Nat) (ps2 : Nat → Nat) (sp2 : Nat → Nat) (e0 : Nat → Int32) (c0 : Nat → Int32) (e1 : Nat → Int32) (c1 : Nat → Int32) (tS : Nat) (tP : Nat) (b3 : Nat → Nat) (w3 : Nat → Nat) (h3 : Nat → Nat) (ps3 : Nat → Nat) (sp3 : Nat → Nat) (ss : Nat) (pt : Nat) (fb : Nat → Int64) (fw : Nat → Int32) (fh : Nat → Int32) (fs : Nat → Int32) (sn : Nat → Int64) (fp : Nat → Int32) (fa : Nat → Int32) (co : Nat → Int32) (un : Nat → Int32) : Prop := bytesOK l0 ∧ (nS ≤ 8 ∧ nP ≤ 20) ∧ drOK nS b w h bc ∧ drQ nS fb fw fh fs b w h bc ∧ (∀ i, i < nP → ps i < 8 ∧ sp i < 256) ∧ pgOK mS mP b2 w2 h2 ps2 sp2 ∧ pgOK tS tP b3 w3 h3 ps3 sp3 ∧ (ss ≤ 8 ∧ pt ≤ 20) ∧ (hp = true → (ss = mS ∧ pt = mP) ∧ picOK ss pt sn fp fa b2 w2 h2 ps2 sp2 ∧ ly2 un e0 e1 clp ∧ ly2 co c0 c1 id)
def REL (g : Gl) (x ob r dw a1 z1 o1 dr a2 z2 o2 : Nat) (A R : Nat → Nat) (ws : va_W) : Prop := ∃ (B S : Nat → Nat) (hp : Bool) (l0 : List Nat) (r1 : Nat) (k1 k2 k3 : Int32) (kf1 kh1 : Nat → Int32) (r2 : Nat) (j1 j2 j3 j4 j5 : Int32) (kf2 kh2 : Nat → Int32) (nS nP : Nat) (b w h bc ps sp : Nat → Nat) (G0 G1 : Nat → Nat → Int32) (ac0 ad0 al0 : Nat → Int32) (am0 : Bool) (ac1 ad1 al1 : Nat → Int32) (am1 : Bool) (mS mP : Nat) (b2 w2 h2 ps2 sp2 : Nat → Nat) (bs2 e0 c0 d0 i0 : Nat → Int32) (m0 : Bool) (e1 c1 d1 i1 : Nat → Int32) (m1 : Bool) (tS tP : Nat) (b3 w3 h3 ps3 sp3 : Nat → Nat) (bs3 e3 c3 d3 i3 : Nat → Int32) (m3 : Bool) (e4 c4 d4 i4 : Nat → Int32) (m4 : Bool) (ss : Nat) (pt : Nat) (rd : Bool) (wd : Nat) (sc : Nat) (fb : Nat → Int64) (fw : Nat → Int32) (fh : Nat → Int32) (fs : Nat → Int32) (fd : Nat → Int32) (sn : Nat → Int64) (fp : Nat → Int32) (fa : Nat → Int32) (co : Nat → Int32) (un : Nat → Int32) (zz : Nat → Int32) (oo : Nat → Int32) (dg : Nat → Int32) (gr : Nat → Int32) (ro : Nat → Int32) (nx : Nat → Int32) (pf : Nat → Int32) (mn : Nat → Int32), FCT l0 hp nS nP b w h bc ps sp mS mP b2 w2 h2 ps2 sp2 e0 c0 e1 c1 tS tP b3 w3 h3 ps3 sp3 ss pt fb fw fh fs sn fp fa co un ∧ ws = CW g x ob r dw a1 z1 o1 dr a2 z2 o2 A B S hp l0 r1 k1 k2 k3 kf1 kh1 r2 j1 j2 j3 j4 j5 kf2 kh2 nS nP b w h bc ps sp G0 G1 ac0 ad0 al0 am0 ac1 ad1 al1 am1 mS mP b2 w2 h2 ps2 sp2 bs2 e0 c0 d0 i0 m0 e1 c1 d1 i1 m1 tS tP b3 w3 h3 ps3 sp3 bs3 e3 c3 d3 i3 m3 e4 c4 d4 i4 m4 ++ RW g R nS nP l0 ss pt hp rd wd sc fb fw fh fs ps sp G0 G1 fd sn fp fa co un zz oo dg gr ro nx pf mn
theorem plc_ok {nP s q : Nat} {ps sp : Nat → Nat} (h : ∀ i, i < nP → ps i < 8 ∧ sp i < 256) (h1 : s < 8) (h2 : q < 256) : ∀ i, i < nP + 1 → upN ps nP s i < 8 ∧ upN sp nP q i < 256 := by
  intro i hi
  by_cases e : i = nP
  · subst e
    rw [upN_at, upN_at]
    exact ⟨h1, h2⟩
  · rw [upN_ne e, upN_ne e]
    exact h i (by omega)
theorem ite_hp {hp : Bool} {a b d : Int32} (h : hp = true → a = b) : (if hp = true then a else d) = if hp = true then b else d := by
  cases hp
  · rfl
  · rw [h rfl]
theorem al_ok {l : List Nat} (h : bytesOK l) (k v : Int32) : bytesOK (alL l k v) := by
  by_cases e : alB l k v = true
  · unfold alB at e
    simp only [Bool.and_eq_true] at e
    obtain ⟨⟨e1, e2⟩, e3⟩ := e
    obtain ⟨j, hj, rfl⟩ := inR_of (by have := h.1; omega) e1
    obtain ⟨c, hc, rfl⟩ := inR_of (by decide) e3
    have hj2 : j < 1200 := by
      obtain ⟨j', hj', e4⟩ := inR_of (by decide) e2
      have := h.1
      have := (nI_eq (by omega) (by omega)).mp e4
      omega
    have h1 := h.1
    rw [alL_in (by omega) hj2 hc h.1]
    refine ⟨?_, fun k => ?_⟩
    · rw [setL_len (by omega)]
      split <;> omega
    · have hr : nI ((setL l j c).getD k 0) = upd (rowOf l) j (nI c) k := by rw [setL_row (by omega)]; rfl
      by_cases e : k = j
      · subst e
        unfold setL
        split
        · rename_i q
          rw [List.getD_eq_getElem?_getD, List.getElem?_set_self q]
          exact hc
        · have e5 : k = l.length := by omega
          rw [getD_app2 (by omega), e5, Nat.sub_self]
          exact hc
      · unfold setL
        split
        · rw [List.getD_eq_getElem?_getD, List.getElem?_set_ne (Ne.symm e), ← List.getD_eq_getElem?_getD]
          exact h.2 k
        · by_cases q : k < l.length
          · rw [getD_app1 q]; exact h.2 k
          · rw [getD_ge (by simp; omega)]; decide
  · rw [alL_no (by simpa using e)]
    exact h
theorem cu_ok {l : List Nat} (h : bytesOK l) (n : Int32) : bytesOK (cuL l n) := by
  by_cases e : inR (l.length + 1) n = true
  · obtain ⟨j, hj, rfl⟩ := inR_of (by have := h.1; omega) e
    rw [cuL_in (by omega) h.1]
    refine ⟨by rw [List.length_take]; have := h.1; omega, fun k => ?_⟩
    by_cases q : k < j
    · rw [List.getD_eq_getElem?_getD, List.getElem?_take, if_pos q, ← List.getD_eq_getElem?_getD]
      exact h.2 k
    · rw [getD_ge (by rw [List.length_take]; omega)]
      decide
  · rw [cuL_no (by simpa using e)]
    exact h
set_option maxRecDepth 100000 in
set_option maxHeartbeats 8000000 in
theorem law_5 {X : Cz} {nm : String} (l : Launch) (g : Gl) (C : Cx X l g (yL nm) code 4 (some .boolean) rmL) (sa N : Nat) (sf : Nat → Int32) (Z : Sc X sa N sf) (x ob r dw a1 z1 o1 dr a2 z2 o2 : Nat) (A R : Nat → Nat) (i : Nat) (hi : i + 6 ≤ N) (hN : N < 2 ^ 31) (B S : Nat → Nat) (hp : Bool) (l0 : List Nat) (r1 : Nat) (k1 k2 k3 : Int32) (kf1 kh1 : Nat → Int32) (r2 : Nat) (j1 j2 j3 j4 j5 : Int32) (kf2 kh2 : Nat → Int32) (nS nP : Nat) (b w h bc ps sp : Nat → Nat) (G0 G1 : Nat → Nat → Int32) (ac0 ad0 al0 : Nat → Int32) (am0 : Bool) (ac1 ad1 al1 : Nat → Int32) (am1 : Bool) (mS mP : Nat) (b2 w2 h2 ps2 sp2 : Nat → Nat) (bs2 e0 c0 d0 i0 : Nat → Int32) (m0 : Bool) (e1 c1 d1 i1 : Nat → Int32) (m1 : Bool) (tS tP : Nat) (b3 w3 h3 ps3 sp3 : Nat → Nat) (bs3 e3 c3 d3 i3 : Nat → Int32) (m3 : Bool) (e4 c4 d4 i4 : Nat → Int32) (m4 : Bool) (ss : Nat) (pt : Nat) (rd : Bool) (wd : Nat) (sc : Nat) (fb : Nat → Int64) (fw : Nat → Int32) (fh : Nat → Int32) (fs : Nat → Int32) (fd : Nat → Int32) (sn : Nat → Int64) (fp : Nat → Int32) (fa : Nat → Int32) (co : Nat → Int32) (un : Nat → Int32) (zz : Nat → Int32) (oo : Nat → Int32) (dg : Nat → Int32) (gr : Nat → Int32) (ro : Nat → Int32) (nx : Nat → Int32) (pf : Nat → Int32) (mn : Nat → Int32) (F : FCT l0 hp nS nP b w h bc ps sp mS mP b2 w2 h2 ps2 sp2 e0 c0 e1 c1 tS tP b3 w3 h3 ps3 sp3 ss pt fb fw fh fs sn fp fa co un)
    (kk : ∀ ws : va_W, REL g x ob r dw a1 z1 o1 dr a2 z2 o2 A R ws → SW X g 4 101 8908 ws 656 [some (.ref sa), some (.ref x), some (.ref (R 0)), some (.int (nI i))] []) : SW X g 4 101 8908 (CW g x ob r dw a1 z1 o1 dr a2 z2 o2 A B S hp l0 r1 k1 k2 k3 kf1 kh1 r2 j1 j2 j3 j4 j5 kf2 kh2 nS nP b w h bc ps sp G0 G1 ac0 ad0 al0 am0 ac1 ad1 al1 am1 mS mP b2 w2 h2 ps2 sp2 bs2 e0 c0 d0 i0 m0 e1 c1 d1 i1 m1 tS tP b3 w3 h3 ps3 sp3 bs3 e3 c3 d3 i3 m3 e4 c4 d4 i4 m4 ++ RW g R nS nP l0 ss pt hp rd wd sc fb fw fh fs ps sp G0 G1 fd sn fp fa co un zz oo dg gr ro nx pf mn) 349 [some (.ref sa), some (.ref x), some (.ref (R 0)), some (.int (nI i))] [] := by
  obtain ⟨hl, ⟨hS, hP⟩, H, Q, hdp, O2, O3, ⟨hss, hpt⟩, HP⟩ := id F
  refine sw_aload_n (pc := 349) C d_Law_law_349 rfl rfl ?_
  refine sw_callVR (pc := 350) C (c_length l g x ob dw dr A B S hp r l0 hl.1) sv_LP_length t_447 rfl rfl rfl [0, 1, 2] rfl rfl rfl rfl (Nat.le_of_ble_eq_true rfl) (Nat.le_of_ble_eq_true rfl) (Nat.le_of_ble_eq_true rfl) (Nat.le_of_ble_eq_true rfl) (Nat.le_of_ble_eq_true rfl) d_Law_law_350 (fun v w1 hp => ?_)
  obtain ⟨rfl, rfl⟩ := hp
  refine ⟨rfl, ?_⟩
  refine sw_aload_n (pc := 353) C d_Law_law_353 rfl rfl ?_
  refine sw_callVR (pc := 354) C (c_Md_length l g R nS nP ss pt hp rd wd sc l0 fd hl.1) sv_Md_length t_760 rfl rfl rfl [77, 85] rfl rfl rfl rfl (Nat.le_of_ble_eq_true rfl) (Nat.le_of_ble_eq_true rfl) (Nat.le_of_ble_eq_true rfl) (Nat.le_of_ble_eq_true rfl) (Nat.le_of_ble_eq_true rfl) d_Law_law_354 (fun v w1 hp => ?_)
  obtain ⟨rfl, rfl⟩ := hp
  refine ⟨rfl, ?_⟩
  refine sw_icmp_eqN (pc := 357) C 656 (Nat.lt_of_le_of_lt hl.1 (by decide)) (Nat.lt_of_le_of_lt hl.1 (by decide)) d_Law_law_357 (by decide) (fun hq => ?_) (fun hq => ?_)
  · skip
    exact kk _ ⟨B, S, hp, l0, r1, k1, k2, k3, kf1, kh1, r2, j1, j2, j3, j4, j5, kf2, kh2, nS, nP, b, w, h, bc, ps, sp, G0, G1, ac0, ad0, al0, am0, ac1, ad1, al1, am1, mS, mP, b2, w2, h2, ps2, sp2, bs2, e0, c0, d0, i0, m0, e1, c1, d1, i1, m1, tS, tP, b3, w3, h3, ps3, sp3, bs3, e3, c3, d3, i3, m3, e4, c4, d4, i4, m4, ss, pt, rd, wd, sc, fb, fw, fh, fs, fd, sn, fp, fa, co, un, zz, oo, dg, gr, ro, nx, pf, mn, F, rfl⟩
  exact absurd rfl hq
set_option maxRecDepth 100000 in
set_option maxHeartbeats 8000000 in
theorem law_6 {X : Cz} {nm : String} (l : Launch) (g : Gl) (C : Cx X l g (yL nm) code 4 (some .boolean) rmL) (sa N : Nat) (sf : Nat → Int32) (Z : Sc X sa N sf) (x ob r dw a1 z1 o1 dr a2 z2 o2 : Nat) (A R : Nat → Nat) (i : Nat) (hi : i + 6 ≤ N) (hN : N < 2 ^ 31) (B S : Nat → Nat) (hp : Bool) (l0 : List Nat) (r1 : Nat) (k1 k2 k3 : Int32) (kf1 kh1 : Nat → Int32) (r2 : Nat) (j1 j2 j3 j4 j5 : Int32) (kf2 kh2 : Nat → Int32) (nS nP : Nat) (b w h bc ps sp : Nat → Nat) (G0 G1 : Nat → Nat → Int32) (ac0 ad0 al0 : Nat → Int32) (am0 : Bool) (ac1 ad1 al1 : Nat → Int32) (am1 : Bool) (mS mP : Nat) (b2 w2 h2 ps2 sp2 : Nat → Nat) (bs2 e0 c0 d0 i0 : Nat → Int32) (m0 : Bool) (e1 c1 d1 i1 : Nat → Int32) (m1 : Bool) (tS tP : Nat) (b3 w3 h3 ps3 sp3 : Nat → Nat) (bs3 e3 c3 d3 i3 : Nat → Int32) (m3 : Bool) (e4 c4 d4 i4 : Nat → Int32) (m4 : Bool) (ss : Nat) (pt : Nat) (rd : Bool) (wd : Nat) (sc : Nat) (fb : Nat → Int64) (fw : Nat → Int32) (fh : Nat → Int32) (fs : Nat → Int32) (fd : Nat → Int32) (sn : Nat → Int64) (fp : Nat → Int32) (fa : Nat → Int32) (co : Nat → Int32) (un : Nat → Int32) (zz : Nat → Int32) (oo : Nat → Int32) (dg : Nat → Int32) (gr : Nat → Int32) (ro : Nat → Int32) (nx : Nat → Int32) (pf : Nat → Int32) (mn : Nat → Int32) (F : FCT l0 hp nS nP b w h bc ps sp mS mP b2 w2 h2 ps2 sp2 e0 c0 e1 c1 tS tP b3 w3 h3 ps3 sp3 ss pt fb fw fh fs sn fp fa co un)
    (kk : ∀ ws : va_W, REL g x ob r dw a1 z1 o1 dr a2 z2 o2 A R ws → SW X g 4 101 8908 ws 656 [some (.ref sa), some (.ref x), some (.ref (R 0)), some (.int (nI i))] []) : SW X g 4 101 8908 (CW g x ob r dw a1 z1 o1 dr a2 z2 o2 A B S hp l0 r1 k1 k2 k3 kf1 kh1 r2 j1 j2 j3 j4 j5 kf2 kh2 nS nP b w h bc ps sp G0 G1 ac0 ad0 al0 am0 ac1 ad1 al1 am1 mS mP b2 w2 h2 ps2 sp2 bs2 e0 c0 d0 i0 m0 e1 c1 d1 i1 m1 tS tP b3 w3 h3 ps3 sp3 bs3 e3 c3 d3 i3 m3 e4 c4 d4 i4 m4 ++ RW g R nS nP l0 ss pt hp rd wd sc fb fw fh fs ps sp G0 G1 fd sn fp fa co un zz oo dg gr ro nx pf mn) 362 [some (.ref sa), some (.ref x), some (.ref (R 0)), some (.int (nI i))] [] := by
  obtain ⟨hl, ⟨hS, hP⟩, H, Q, hdp, O2, O3, ⟨hss, hpt⟩, HP⟩ := id F
  refine sw_aload_n (pc := 362) C d_Law_law_362 rfl rfl ?_
  refine sw_aload_n (pc := 363) C d_Law_law_363 rfl rfl ?_
  refine sw_iload_n (pc := 364) C d_Law_law_364 rfl rfl ?_
  refine sw_iconst (pc := 365) C (nI 1) d_Law_law_365 (by decide) ?_
  refine sw_iadd (pc := 366) C d_Law_law_366 ?_
  refine sw_topi (z := nI (i + 1)) (nI_add _ _) ?_
  refine sw_sld (pc := 367) C Z rfl (by omega) hN d_Law_law_367 ?_
  refine sw_callVR (pc := 368) C (c_octet l g x ob dw dr A B S hp r l0 hl.1 (sf (i + 1))) sv_LP_octet t_451 rfl rfl rfl [0, 1, 2] rfl rfl rfl rfl (Nat.le_of_ble_eq_true rfl) (Nat.le_of_ble_eq_true rfl) (Nat.le_of_ble_eq_true rfl) (Nat.le_of_ble_eq_true rfl) (Nat.le_of_ble_eq_true rfl) d_Law_law_368 (fun v w1 hp => ?_)
  obtain ⟨rfl, rfl⟩ := hp
  refine ⟨rfl, ?_⟩
  refine sw_aload_n (pc := 371) C d_Law_law_371 rfl rfl ?_
  refine sw_aload_n (pc := 372) C d_Law_law_372 rfl rfl ?_
  refine sw_iload_n (pc := 373) C d_Law_law_373 rfl rfl ?_
  refine sw_iconst (pc := 374) C (nI 1) d_Law_law_374 (by decide) ?_
  refine sw_iadd (pc := 375) C d_Law_law_375 ?_
  refine sw_topi (z := nI (i + 1)) (nI_add _ _) ?_
  refine sw_sld (pc := 376) C Z rfl (by omega) hN d_Law_law_376 ?_
  refine sw_callVR (pc := 377) C (c_Md_octet l g R nS nP ss pt hp rd wd sc l0 fd hl.1 (sf (i + 1))) sv_Md_octet t_764 rfl rfl rfl [77, 85] rfl rfl rfl rfl (Nat.le_of_ble_eq_true rfl) (Nat.le_of_ble_eq_true rfl) (Nat.le_of_ble_eq_true rfl) (Nat.le_of_ble_eq_true rfl) (Nat.le_of_ble_eq_true rfl) d_Law_law_377 (fun v w1 hp => ?_)
  obtain ⟨rfl, rfl⟩ := hp
  refine ⟨rfl, ?_⟩
  refine sw_icmp_eq (pc := 380) C 656 d_Law_law_380 (by decide) (fun hq => ?_) (fun hq => ?_)
  · skip
    exact kk _ ⟨B, S, hp, l0, r1, k1, k2, k3, kf1, kh1, r2, j1, j2, j3, j4, j5, kf2, kh2, nS, nP, b, w, h, bc, ps, sp, G0, G1, ac0, ad0, al0, am0, ac1, ad1, al1, am1, mS, mP, b2, w2, h2, ps2, sp2, bs2, e0, c0, d0, i0, m0, e1, c1, d1, i1, m1, tS, tP, b3, w3, h3, ps3, sp3, bs3, e3, c3, d3, i3, m3, e4, c4, d4, i4, m4, ss, pt, rd, wd, sc, fb, fw, fh, fs, fd, sn, fp, fa, co, un, zz, oo, dg, gr, ro, nx, pf, mn, F, rfl⟩
  exact absurd rfl hq
set_option maxRecDepth 100000 in
set_option maxHeartbeats 8000000 in
theorem law_7 {X : Cz} {nm : String} (l : Launch) (g : Gl) (C : Cx X l g (yL nm) code 4 (some .boolean) rmL) (sa N : Nat) (sf : Nat → Int32) (Z : Sc X sa N sf) (x ob r dw a1 z1 o1 dr a2 z2 o2 : Nat) (A R : Nat → Nat) (i : Nat) (hi : i + 6 ≤ N) (hN : N < 2 ^ 31) (B S : Nat → Nat) (hp : Bool) (l0 : List Nat) (r1 : Nat) (k1 k2 k3 : Int32) (kf1 kh1 : Nat → Int32) (r2 : Nat) (j1 j2 j3 j4 j5 : Int32) (kf2 kh2 : Nat → Int32) (nS nP : Nat) (b w h bc ps sp : Nat → Nat) (G0 G1 : Nat → Nat → Int32) (ac0 ad0 al0 : Nat → Int32) (am0 : Bool) (ac1 ad1 al1 : Nat → Int32) (am1 : Bool) (mS mP : Nat) (b2 w2 h2 ps2 sp2 : Nat → Nat) (bs2 e0 c0 d0 i0 : Nat → Int32) (m0 : Bool) (e1 c1 d1 i1 : Nat → Int32) (m1 : Bool) (tS tP : Nat) (b3 w3 h3 ps3 sp3 : Nat → Nat) (bs3 e3 c3 d3 i3 : Nat → Int32) (m3 : Bool) (e4 c4 d4 i4 : Nat → Int32) (m4 : Bool) (ss : Nat) (pt : Nat) (rd : Bool) (wd : Nat) (sc : Nat) (fb : Nat → Int64) (fw : Nat → Int32) (fh : Nat → Int32) (fs : Nat → Int32) (fd : Nat → Int32) (sn : Nat → Int64) (fp : Nat → Int32) (fa : Nat → Int32) (co : Nat → Int32) (un : Nat → Int32) (zz : Nat → Int32) (oo : Nat → Int32) (dg : Nat → Int32) (gr : Nat → Int32) (ro : Nat → Int32) (nx : Nat → Int32) (pf : Nat → Int32) (mn : Nat → Int32) (F : FCT l0 hp nS nP b w h bc ps sp mS mP b2 w2 h2 ps2 sp2 e0 c0 e1 c1 tS tP b3 w3 h3 ps3 sp3 ss pt fb fw fh fs sn fp fa co un)
    (kk : ∀ ws : va_W, REL g x ob r dw a1 z1 o1 dr a2 z2 o2 A R ws → SW X g 4 101 8908 ws 656 [some (.ref sa), some (.ref x), some (.ref (R 0)), some (.int (nI i))] []) : SW X g 4 101 8908 (CW g x ob r dw a1 z1 o1 dr a2 z2 o2 A B S hp l0 r1 k1 k2 k3 kf1 kh1 r2 j1 j2 j3 j4 j5 kf2 kh2 nS nP b w h bc ps sp G0 G1 ac0 ad0 al0 am0 ac1 ad1 al1 am1 mS mP b2 w2 h2 ps2 sp2 bs2 e0 c0 d0 i0 m0 e1 c1 d1 i1 m1 tS tP b3 w3 h3 ps3 sp3 bs3 e3 c3 d3 i3 m3 e4 c4 d4 i4 m4 ++ RW g R nS nP l0 ss pt hp rd wd sc fb fw fh fs ps sp G0 G1 fd sn fp fa co un zz oo dg gr ro nx pf mn) 385 [some (.ref sa), some (.ref x), some (.ref (R 0)), some (.int (nI i))] [] := by
  obtain ⟨hl, ⟨hS, hP⟩, H, Q, hdp, O2, O3, ⟨hss, hpt⟩, HP⟩ := id F
  refine sw_aload_n (pc := 385) C d_Law_law_385 rfl rfl ?_
  refine sw_aload_n (pc := 386) C d_Law_law_386 rfl rfl ?_
  refine sw_iload_n (pc := 387) C d_Law_law_387 rfl rfl ?_
  refine sw_iconst (pc := 388) C (nI 1) d_Law_law_388 (by decide) ?_
  refine sw_iadd (pc := 389) C d_Law_law_389 ?_
  refine sw_topi (z := nI (i + 1)) (nI_add _ _) ?_
  refine sw_sld (pc := 390) C Z rfl (by omega) hN d_Law_law_390 ?_
  refine sw_aload_n (pc := 391) C d_Law_law_391 rfl rfl ?_
  refine sw_iload_n (pc := 392) C d_Law_law_392 rfl rfl ?_
  refine sw_iconst (pc := 393) C (nI 2) d_Law_law_393 (by decide) ?_
  refine sw_iadd (pc := 394) C d_Law_law_394 ?_
  refine sw_topi (z := nI (i + 2)) (nI_add _ _) ?_
  refine sw_sld (pc := 395) C Z rfl (by omega) hN d_Law_law_395 ?_
  refine sw_callVP (pc := 396) C (c_alter l g x ob dw dr A B S hp r l0 hl.1 (sf (i + 1)) (sf (i + 2))) sv_LP_alter t_459 rfl rfl rfl [0, 1, 2] rfl rfl rfl rfl (Nat.le_of_ble_eq_true rfl) (Nat.le_of_ble_eq_true rfl) (Nat.le_of_ble_eq_true rfl) (Nat.le_of_ble_eq_true rfl) (Nat.le_of_ble_eq_true rfl) d_Law_law_396 (fun v w1 hp => ?_)
  obtain ⟨rfl, rfl⟩ := hp
  refine ⟨rfl, ?_⟩
  refine sw_ws (ws' := CW g x ob r dw a1 z1 o1 dr a2 z2 o2 A B S hp (alL l0 (sf (i + 1)) (sf (i + 2))) r1 k1 k2 k3 kf1 kh1 r2 j1 j2 j3 j4 j5 kf2 kh2 nS nP b w h bc ps sp G0 G1 ac0 ad0 al0 am0 ac1 ad1 al1 am1 mS mP b2 w2 h2 ps2 sp2 bs2 e0 c0 d0 i0 m0 e1 c1 d1 i1 m1 tS tP b3 w3 h3 ps3 sp3 bs3 e3 c3 d3 i3 m3 e4 c4 d4 i4 m4 ++ RW g R nS nP l0 ss pt hp rd wd sc fb fw fh fs ps sp G0 G1 fd sn fp fa co un zz oo dg gr ro nx pf mn) rfl ?_
  refine sw_aload_n (pc := 399) C d_Law_law_399 rfl rfl ?_
  refine sw_aload_n (pc := 400) C d_Law_law_400 rfl rfl ?_
  refine sw_iload_n (pc := 401) C d_Law_law_401 rfl rfl ?_
  refine sw_iconst (pc := 402) C (nI 1) d_Law_law_402 (by decide) ?_
  refine sw_iadd (pc := 403) C d_Law_law_403 ?_
  refine sw_topi (z := nI (i + 1)) (nI_add _ _) ?_
  refine sw_sld (pc := 404) C Z rfl (by omega) hN d_Law_law_404 ?_
  refine sw_aload_n (pc := 405) C d_Law_law_405 rfl rfl ?_
  refine sw_iload_n (pc := 406) C d_Law_law_406 rfl rfl ?_
  refine sw_iconst (pc := 407) C (nI 2) d_Law_law_407 (by decide) ?_
  refine sw_iadd (pc := 408) C d_Law_law_408 ?_
  refine sw_topi (z := nI (i + 2)) (nI_add _ _) ?_
  refine sw_sld (pc := 409) C Z rfl (by omega) hN d_Law_law_409 ?_
  refine sw_callVP (pc := 410) C (c_Md_alter l g R nS nP ss pt hp rd wd sc l0 fd hl.1 (sf (i + 1)) (sf (i + 2))) sv_Md_alter t_768 rfl rfl rfl [77, 85] rfl rfl rfl rfl (Nat.le_of_ble_eq_true rfl) (Nat.le_of_ble_eq_true rfl) (Nat.le_of_ble_eq_true rfl) (Nat.le_of_ble_eq_true rfl) (Nat.le_of_ble_eq_true rfl) d_Law_law_410 (fun v w1 hp => ?_)
  obtain ⟨rfl, rfl⟩ := hp
  refine ⟨rfl, ?_⟩
  refine sw_ws (ws' := CW g x ob r dw a1 z1 o1 dr a2 z2 o2 A B S hp (alL l0 (sf (i + 1)) (sf (i + 2))) r1 k1 k2 k3 kf1 kh1 r2 j1 j2 j3 j4 j5 kf2 kh2 nS nP b w h bc ps sp G0 G1 ac0 ad0 al0 am0 ac1 ad1 al1 am1 mS mP b2 w2 h2 ps2 sp2 bs2 e0 c0 d0 i0 m0 e1 c1 d1 i1 m1 tS tP b3 w3 h3 ps3 sp3 bs3 e3 c3 d3 i3 m3 e4 c4 d4 i4 m4 ++ RW g R nS nP (alL l0 (sf (i + 1)) (sf (i + 2))) ss pt hp rd wd sc fb fw fh fs ps sp G0 G1 fd sn fp fa co un zz oo dg gr ro nx pf mn) rfl ?_
  refine sw_icmp_eq (pc := 413) C 656 d_Law_law_413 (by decide) (fun hq => ?_) (fun hq => ?_)
  · skip
    exact kk _ ⟨B, S, hp, (alL l0 (sf (i + 1)) (sf (i + 2))), r1, k1, k2, k3, kf1, kh1, r2, j1, j2, j3, j4, j5, kf2, kh2, nS, nP, b, w, h, bc, ps, sp, G0, G1, ac0, ad0, al0, am0, ac1, ad1, al1, am1, mS, mP, b2, w2, h2, ps2, sp2, bs2, e0, c0, d0, i0, m0, e1, c1, d1, i1, m1, tS, tP, b3, w3, h3, ps3, sp3, bs3, e3, c3, d3, i3, m3, e4, c4, d4, i4, m4, ss, pt, rd, wd, sc, fb, fw, fh, fs, fd, sn, fp, fa, co, un, zz, oo, dg, gr, ro, nx, pf, mn, ⟨al_ok hl _ _, F.2⟩, rfl⟩
  exact absurd rfl hq
set_option maxRecDepth 100000 in
set_option maxHeartbeats 8000000 in
theorem law_8 {X : Cz} {nm : String} (l : Launch) (g : Gl) (C : Cx X l g (yL nm) code 4 (some .boolean) rmL) (sa N : Nat) (sf : Nat → Int32) (Z : Sc X sa N sf) (x ob r dw a1 z1 o1 dr a2 z2 o2 : Nat) (A R : Nat → Nat) (i : Nat) (hi : i + 6 ≤ N) (hN : N < 2 ^ 31) (B S : Nat → Nat) (hp : Bool) (l0 : List Nat) (r1 : Nat) (k1 k2 k3 : Int32) (kf1 kh1 : Nat → Int32) (r2 : Nat) (j1 j2 j3 j4 j5 : Int32) (kf2 kh2 : Nat → Int32) (nS nP : Nat) (b w h bc ps sp : Nat → Nat) (G0 G1 : Nat → Nat → Int32) (ac0 ad0 al0 : Nat → Int32) (am0 : Bool) (ac1 ad1 al1 : Nat → Int32) (am1 : Bool) (mS mP : Nat) (b2 w2 h2 ps2 sp2 : Nat → Nat) (bs2 e0 c0 d0 i0 : Nat → Int32) (m0 : Bool) (e1 c1 d1 i1 : Nat → Int32) (m1 : Bool) (tS tP : Nat) (b3 w3 h3 ps3 sp3 : Nat → Nat) (bs3 e3 c3 d3 i3 : Nat → Int32) (m3 : Bool) (e4 c4 d4 i4 : Nat → Int32) (m4 : Bool) (ss : Nat) (pt : Nat) (rd : Bool) (wd : Nat) (sc : Nat) (fb : Nat → Int64) (fw : Nat → Int32) (fh : Nat → Int32) (fs : Nat → Int32) (fd : Nat → Int32) (sn : Nat → Int64) (fp : Nat → Int32) (fa : Nat → Int32) (co : Nat → Int32) (un : Nat → Int32) (zz : Nat → Int32) (oo : Nat → Int32) (dg : Nat → Int32) (gr : Nat → Int32) (ro : Nat → Int32) (nx : Nat → Int32) (pf : Nat → Int32) (mn : Nat → Int32) (F : FCT l0 hp nS nP b w h bc ps sp mS mP b2 w2 h2 ps2 sp2 e0 c0 e1 c1 tS tP b3 w3 h3 ps3 sp3 ss pt fb fw fh fs sn fp fa co un)
    (kk : ∀ ws : va_W, REL g x ob r dw a1 z1 o1 dr a2 z2 o2 A R ws → SW X g 4 101 8908 ws 656 [some (.ref sa), some (.ref x), some (.ref (R 0)), some (.int (nI i))] []) : SW X g 4 101 8908 (CW g x ob r dw a1 z1 o1 dr a2 z2 o2 A B S hp l0 r1 k1 k2 k3 kf1 kh1 r2 j1 j2 j3 j4 j5 kf2 kh2 nS nP b w h bc ps sp G0 G1 ac0 ad0 al0 am0 ac1 ad1 al1 am1 mS mP b2 w2 h2 ps2 sp2 bs2 e0 c0 d0 i0 m0 e1 c1 d1 i1 m1 tS tP b3 w3 h3 ps3 sp3 bs3 e3 c3 d3 i3 m3 e4 c4 d4 i4 m4 ++ RW g R nS nP l0 ss pt hp rd wd sc fb fw fh fs ps sp G0 G1 fd sn fp fa co un zz oo dg gr ro nx pf mn) 418 [some (.ref sa), some (.ref x), some (.ref (R 0)), some (.int (nI i))] [] := by
  obtain ⟨hl, ⟨hS, hP⟩, H, Q, hdp, O2, O3, ⟨hss, hpt⟩, HP⟩ := id F
  refine sw_aload_n (pc := 418) C d_Law_law_418 rfl rfl ?_
  refine sw_aload_n (pc := 419) C d_Law_law_419 rfl rfl ?_
  refine sw_iload_n (pc := 420) C d_Law_law_420 rfl rfl ?_
  refine sw_iconst (pc := 421) C (nI 1) d_Law_law_421 (by decide) ?_
  refine sw_iadd (pc := 422) C d_Law_law_422 ?_
  refine sw_topi (z := nI (i + 1)) (nI_add _ _) ?_
  refine sw_sld (pc := 423) C Z rfl (by omega) hN d_Law_law_423 ?_
  refine sw_callVP (pc := 424) C (c_cut l g x ob dw dr A B S hp r l0 hl.1 (sf (i + 1))) sv_LP_cut t_464 rfl rfl rfl [0, 1, 2] rfl rfl rfl rfl (Nat.le_of_ble_eq_true rfl) (Nat.le_of_ble_eq_true rfl) (Nat.le_of_ble_eq_true rfl) (Nat.le_of_ble_eq_true rfl) (Nat.le_of_ble_eq_true rfl) d_Law_law_424 (fun v w1 hp => ?_)
  obtain ⟨rfl, rfl⟩ := hp
  refine ⟨rfl, ?_⟩
  refine sw_ws (ws' := CW g x ob r dw a1 z1 o1 dr a2 z2 o2 A B S hp (cuL l0 (sf (i + 1))) r1 k1 k2 k3 kf1 kh1 r2 j1 j2 j3 j4 j5 kf2 kh2 nS nP b w h bc ps sp G0 G1 ac0 ad0 al0 am0 ac1 ad1 al1 am1 mS mP b2 w2 h2 ps2 sp2 bs2 e0 c0 d0 i0 m0 e1 c1 d1 i1 m1 tS tP b3 w3 h3 ps3 sp3 bs3 e3 c3 d3 i3 m3 e4 c4 d4 i4 m4 ++ RW g R nS nP l0 ss pt hp rd wd sc fb fw fh fs ps sp G0 G1 fd sn fp fa co un zz oo dg gr ro nx pf mn) rfl ?_
  refine sw_aload_n (pc := 427) C d_Law_law_427 rfl rfl ?_
  refine sw_aload_n (pc := 428) C d_Law_law_428 rfl rfl ?_
  refine sw_iload_n (pc := 429) C d_Law_law_429 rfl rfl ?_
  refine sw_iconst (pc := 430) C (nI 1) d_Law_law_430 (by decide) ?_
  refine sw_iadd (pc := 431) C d_Law_law_431 ?_
  refine sw_topi (z := nI (i + 1)) (nI_add _ _) ?_
  refine sw_sld (pc := 432) C Z rfl (by omega) hN d_Law_law_432 ?_
  refine sw_callVP (pc := 433) C (c_Md_cut l g R nS nP ss pt hp rd wd sc l0 fd hl.1 (sf (i + 1))) sv_Md_cut t_772 rfl rfl rfl [77, 85] rfl rfl rfl rfl (Nat.le_of_ble_eq_true rfl) (Nat.le_of_ble_eq_true rfl) (Nat.le_of_ble_eq_true rfl) (Nat.le_of_ble_eq_true rfl) (Nat.le_of_ble_eq_true rfl) d_Law_law_433 (fun v w1 hp => ?_)
  obtain ⟨rfl, fd1, rfl⟩ := hp
  refine ⟨rfl, ?_⟩
  refine sw_ws (ws' := CW g x ob r dw a1 z1 o1 dr a2 z2 o2 A B S hp (cuL l0 (sf (i + 1))) r1 k1 k2 k3 kf1 kh1 r2 j1 j2 j3 j4 j5 kf2 kh2 nS nP b w h bc ps sp G0 G1 ac0 ad0 al0 am0 ac1 ad1 al1 am1 mS mP b2 w2 h2 ps2 sp2 bs2 e0 c0 d0 i0 m0 e1 c1 d1 i1 m1 tS tP b3 w3 h3 ps3 sp3 bs3 e3 c3 d3 i3 m3 e4 c4 d4 i4 m4 ++ RW g R nS nP (cuL l0 (sf (i + 1))) ss pt hp rd wd sc fb fw fh fs ps sp G0 G1 fd1 sn fp fa co un zz oo dg gr ro nx pf mn) rfl ?_
  refine sw_icmp_eq (pc := 436) C 656 d_Law_law_436 (by decide) (fun hq => ?_) (fun hq => ?_)
  · skip
    exact kk _ ⟨B, S, hp, (cuL l0 (sf (i + 1))), r1, k1, k2, k3, kf1, kh1, r2, j1, j2, j3, j4, j5, kf2, kh2, nS, nP, b, w, h, bc, ps, sp, G0, G1, ac0, ad0, al0, am0, ac1, ad1, al1, am1, mS, mP, b2, w2, h2, ps2, sp2, bs2, e0, c0, d0, i0, m0, e1, c1, d1, i1, m1, tS, tP, b3, w3, h3, ps3, sp3, bs3, e3, c3, d3, i3, m3, e4, c4, d4, i4, m4, ss, pt, rd, wd, sc, fb, fw, fh, fs, fd1, sn, fp, fa, co, un, zz, oo, dg, gr, ro, nx, pf, mn, ⟨cu_ok hl _, F.2⟩, rfl⟩
  exact absurd rfl hq
set_option maxRecDepth 100000 in
set_option maxHeartbeats 8000000 in
theorem law_3 {X : Cz} {nm : String} (l : Launch) (g : Gl) (C : Cx X l g (yL nm) code 4 (some .boolean) rmL) (sa N : Nat) (sf : Nat → Int32) (Z : Sc X sa N sf) (x ob r dw a1 z1 o1 dr a2 z2 o2 : Nat) (A R : Nat → Nat) (i : Nat) (hi : i + 6 ≤ N) (hN : N < 2 ^ 31) (B S : Nat → Nat) (hp : Bool) (l0 : List Nat) (r1 : Nat) (k1 k2 k3 : Int32) (kf1 kh1 : Nat → Int32) (r2 : Nat) (j1 j2 j3 j4 j5 : Int32) (kf2 kh2 : Nat → Int32) (nS nP : Nat) (b w h bc ps sp : Nat → Nat) (G0 G1 : Nat → Nat → Int32) (ac0 ad0 al0 : Nat → Int32) (am0 : Bool) (ac1 ad1 al1 : Nat → Int32) (am1 : Bool) (mS mP : Nat) (b2 w2 h2 ps2 sp2 : Nat → Nat) (bs2 e0 c0 d0 i0 : Nat → Int32) (m0 : Bool) (e1 c1 d1 i1 : Nat → Int32) (m1 : Bool) (tS tP : Nat) (b3 w3 h3 ps3 sp3 : Nat → Nat) (bs3 e3 c3 d3 i3 : Nat → Int32) (m3 : Bool) (e4 c4 d4 i4 : Nat → Int32) (m4 : Bool) (ss : Nat) (pt : Nat) (rd : Bool) (wd : Nat) (sc : Nat) (fb : Nat → Int64) (fw : Nat → Int32) (fh : Nat → Int32) (fs : Nat → Int32) (fd : Nat → Int32) (sn : Nat → Int64) (fp : Nat → Int32) (fa : Nat → Int32) (co : Nat → Int32) (un : Nat → Int32) (zz : Nat → Int32) (oo : Nat → Int32) (dg : Nat → Int32) (gr : Nat → Int32) (ro : Nat → Int32) (nx : Nat → Int32) (pf : Nat → Int32) (mn : Nat → Int32) (F : FCT l0 hp nS nP b w h bc ps sp mS mP b2 w2 h2 ps2 sp2 e0 c0 e1 c1 tS tP b3 w3 h3 ps3 sp3 ss pt fb fw fh fs sn fp fa co un)
    (kk : ∀ ws : va_W, REL g x ob r dw a1 z1 o1 dr a2 z2 o2 A R ws → SW X g 4 101 8908 ws 656 [some (.ref sa), some (.ref x), some (.ref (R 0)), some (.int (nI i))] []) : SW X g 4 101 8908 (CW g x ob r dw a1 z1 o1 dr a2 z2 o2 A B S hp l0 r1 k1 k2 k3 kf1 kh1 r2 j1 j2 j3 j4 j5 kf2 kh2 nS nP b w h bc ps sp G0 G1 ac0 ad0 al0 am0 ac1 ad1 al1 am1 mS mP b2 w2 h2 ps2 sp2 bs2 e0 c0 d0 i0 m0 e1 c1 d1 i1 m1 tS tP b3 w3 h3 ps3 sp3 bs3 e3 c3 d3 i3 m3 e4 c4 d4 i4 m4 ++ RW g R nS nP l0 ss pt hp rd wd sc fb fw fh fs ps sp G0 G1 fd sn fp fa co un zz oo dg gr ro nx pf mn) 315 [some (.ref sa), some (.ref x), some (.ref (R 0)), some (.int (nI i))] [] := by
  obtain ⟨hl, ⟨hS, hP⟩, H, Q, hdp, O2, O3, ⟨hss, hpt⟩, HP⟩ := id F
  refine sw_aload_n (pc := 315) C d_Law_law_315 rfl rfl ?_
  refine sw_callVP (pc := 316) C (c_clear l g x ob dw dr A B S hp nS nP (flat 8 G0) ac0 ad0 al0 am0 (flat 4 G1) ac1 ad1 al1 am1) sv_LP_clear t_297 rfl rfl rfl [0, 11, 15, 16, 17, 18, 19, 20, 21, 22, 23, 24] rfl rfl rfl rfl (Nat.le_of_ble_eq_true rfl) (Nat.le_of_ble_eq_true rfl) (Nat.le_of_ble_eq_true rfl) (Nat.le_of_ble_eq_true rfl) (Nat.le_of_ble_eq_true rfl) d_Law_law_316 (fun v w1 hp => ?_)
  obtain ⟨rfl, rfl⟩ := hp
  refine ⟨rfl, ?_⟩
  refine sw_ws (ws' := CW g x ob r dw a1 z1 o1 dr a2 z2 o2 A B S hp l0 r1 k1 k2 k3 kf1 kh1 r2 j1 j2 j3 j4 j5 kf2 kh2 0 0 b w h bc ps sp (fun _ _ => nI 0) (fun _ _ => nI 0) (fun _ => nI 0) ad0 al0 false (fun _ => nI 0) ad1 al1 false mS mP b2 w2 h2 ps2 sp2 bs2 e0 c0 d0 i0 m0 e1 c1 d1 i1 m1 tS tP b3 w3 h3 ps3 sp3 bs3 e3 c3 d3 i3 m3 e4 c4 d4 i4 m4 ++ RW g R nS nP l0 ss pt hp rd wd sc fb fw fh fs ps sp G0 G1 fd sn fp fa co un zz oo dg gr ro nx pf mn) rfl ?_
  refine sw_aload_n (pc := 319) C d_Law_law_319 rfl rfl ?_
  refine sw_callVP (pc := 320) C (c_Md_clear l g R nS nP l0.length ss pt hp rd wd sc (clF G0 G1)) sv_Md_clear t_687 rfl rfl rfl [77, 84] rfl rfl rfl rfl (Nat.le_of_ble_eq_true rfl) (Nat.le_of_ble_eq_true rfl) (Nat.le_of_ble_eq_true rfl) (Nat.le_of_ble_eq_true rfl) (Nat.le_of_ble_eq_true rfl) d_Law_law_320 (fun v w1 hp => ?_)
  obtain ⟨rfl, rfl⟩ := hp
  refine ⟨rfl, ?_⟩
  refine sw_ws (ws' := CW g x ob r dw a1 z1 o1 dr a2 z2 o2 A B S hp l0 r1 k1 k2 k3 kf1 kh1 r2 j1 j2 j3 j4 j5 kf2 kh2 0 0 b w h bc ps sp (fun _ _ => nI 0) (fun _ _ => nI 0) (fun _ => nI 0) ad0 al0 false (fun _ => nI 0) ad1 al1 false mS mP b2 w2 h2 ps2 sp2 bs2 e0 c0 d0 i0 m0 e1 c1 d1 i1 m1 tS tP b3 w3 h3 ps3 sp3 bs3 e3 c3 d3 i3 m3 e4 c4 d4 i4 m4 ++ RW g R 0 0 l0 ss pt hp rd wd sc fb fw fh fs ps sp (fun _ _ => nI 0) (fun _ _ => nI 0) fd sn fp fa co un zz oo dg gr ro nx pf mn) rfl ?_
  refine sw_goto (pc := 323) C 656 d_Law_law_323 (by decide) ?_
  exact kk _ ⟨B, S, hp, l0, r1, k1, k2, k3, kf1, kh1, r2, j1, j2, j3, j4, j5, kf2, kh2, 0, 0, b, w, h, bc, ps, sp, (fun _ _ => nI 0), (fun _ _ => nI 0), (fun _ => nI 0), ad0, al0, false, (fun _ => nI 0), ad1, al1, false, mS, mP, b2, w2, h2, ps2, sp2, bs2, e0, c0, d0, i0, m0, e1, c1, d1, i1, m1, tS, tP, b3, w3, h3, ps3, sp3, bs3, e3, c3, d3, i3, m3, e4, c4, d4, i4, m4, ss, pt, rd, wd, sc, fb, fw, fh, fs, fd, sn, fp, fa, co, un, zz, oo, dg, gr, ro, nx, pf, mn, ⟨hl, ⟨by omega, by omega⟩, fun k hk => absurd hk (Nat.not_lt_zero _), fun k hk => absurd hk (Nat.not_lt_zero _), fun k hk => absurd hk (Nat.not_lt_zero _), O2, O3, ⟨hss, hpt⟩, HP⟩, rfl⟩
set_option maxRecDepth 100000 in
set_option maxHeartbeats 8000000 in
theorem law_1 {X : Cz} {nm : String} (l : Launch) (g : Gl) (C : Cx X l g (yL nm) code 4 (some .boolean) rmL) (sa N : Nat) (sf : Nat → Int32) (Z : Sc X sa N sf) (x ob r dw a1 z1 o1 dr a2 z2 o2 : Nat) (A R : Nat → Nat) (i : Nat) (hi : i + 6 ≤ N) (hN : N < 2 ^ 31) (B S : Nat → Nat) (hp : Bool) (l0 : List Nat) (r1 : Nat) (k1 k2 k3 : Int32) (kf1 kh1 : Nat → Int32) (r2 : Nat) (j1 j2 j3 j4 j5 : Int32) (kf2 kh2 : Nat → Int32) (nS nP : Nat) (b w h bc ps sp : Nat → Nat) (G0 G1 : Nat → Nat → Int32) (ac0 ad0 al0 : Nat → Int32) (am0 : Bool) (ac1 ad1 al1 : Nat → Int32) (am1 : Bool) (mS mP : Nat) (b2 w2 h2 ps2 sp2 : Nat → Nat) (bs2 e0 c0 d0 i0 : Nat → Int32) (m0 : Bool) (e1 c1 d1 i1 : Nat → Int32) (m1 : Bool) (tS tP : Nat) (b3 w3 h3 ps3 sp3 : Nat → Nat) (bs3 e3 c3 d3 i3 : Nat → Int32) (m3 : Bool) (e4 c4 d4 i4 : Nat → Int32) (m4 : Bool) (ss : Nat) (pt : Nat) (rd : Bool) (wd : Nat) (sc : Nat) (fb : Nat → Int64) (fw : Nat → Int32) (fh : Nat → Int32) (fs : Nat → Int32) (fd : Nat → Int32) (sn : Nat → Int64) (fp : Nat → Int32) (fa : Nat → Int32) (co : Nat → Int32) (un : Nat → Int32) (zz : Nat → Int32) (oo : Nat → Int32) (dg : Nat → Int32) (gr : Nat → Int32) (ro : Nat → Int32) (nx : Nat → Int32) (pf : Nat → Int32) (mn : Nat → Int32) (F : FCT l0 hp nS nP b w h bc ps sp mS mP b2 w2 h2 ps2 sp2 e0 c0 e1 c1 tS tP b3 w3 h3 ps3 sp3 ss pt fb fw fh fs sn fp fa co un)
    (kk : ∀ ws : va_W, REL g x ob r dw a1 z1 o1 dr a2 z2 o2 A R ws → SW X g 4 101 8908 ws 656 [some (.ref sa), some (.ref x), some (.ref (R 0)), some (.int (nI i))] []) : SW X g 4 101 8908 (CW g x ob r dw a1 z1 o1 dr a2 z2 o2 A B S hp l0 r1 k1 k2 k3 kf1 kh1 r2 j1 j2 j3 j4 j5 kf2 kh2 nS nP b w h bc ps sp G0 G1 ac0 ad0 al0 am0 ac1 ad1 al1 am1 mS mP b2 w2 h2 ps2 sp2 bs2 e0 c0 d0 i0 m0 e1 c1 d1 i1 m1 tS tP b3 w3 h3 ps3 sp3 bs3 e3 c3 d3 i3 m3 e4 c4 d4 i4 m4 ++ RW g R nS nP l0 ss pt hp rd wd sc fb fw fh fs ps sp G0 G1 fd sn fp fa co un zz oo dg gr ro nx pf mn) 199 [some (.ref sa), some (.ref x), some (.ref (R 0)), some (.int (nI i))] [] := by
  obtain ⟨hl, ⟨hS, hP⟩, H, Q, hdp, O2, O3, ⟨hss, hpt⟩, HP⟩ := id F
  refine sw_aload_n (pc := 199) C d_Law_law_199 rfl rfl ?_
  refine sw_aload_n (pc := 200) C d_Law_law_200 rfl rfl ?_
  refine sw_iload_n (pc := 201) C d_Law_law_201 rfl rfl ?_
  refine sw_iconst (pc := 202) C (nI 1) d_Law_law_202 (by decide) ?_
  refine sw_iadd (pc := 203) C d_Law_law_203 ?_
  refine sw_topi (z := nI (i + 1)) (nI_add _ _) ?_
  refine sw_sld (pc := 204) C Z rfl (by omega) hN d_Law_law_204 ?_
  refine sw_aload_n (pc := 205) C d_Law_law_205 rfl rfl ?_
  refine sw_iload_n (pc := 206) C d_Law_law_206 rfl rfl ?_
  refine sw_iconst (pc := 207) C (nI 2) d_Law_law_207 (by decide) ?_
  refine sw_iadd (pc := 208) C d_Law_law_208 ?_
  refine sw_topi (z := nI (i + 2)) (nI_add _ _) ?_
  refine sw_sld (pc := 209) C Z rfl (by omega) hN d_Law_law_209 ?_
  refine sw_aload_n (pc := 210) C d_Law_law_210 rfl rfl ?_
  refine sw_iload_n (pc := 211) C d_Law_law_211 rfl rfl ?_
  refine sw_iconst (pc := 212) C (nI 3) d_Law_law_212 (by decide) ?_
  refine sw_iadd (pc := 213) C d_Law_law_213 ?_
  refine sw_topi (z := nI (i + 3)) (nI_add _ _) ?_
  refine sw_sld (pc := 214) C Z rfl (by omega) hN d_Law_law_214 ?_
  refine sw_callVP (pc := 215) C (c_place l g x ob dw dr A B S hp nS nP ps sp hS hP (sf (i + 1)) (sf (i + 2)) (sf (i + 3))) sv_LP_place t_265 rfl rfl rfl [0, 11, 13, 14] rfl rfl rfl rfl (Nat.le_of_ble_eq_true rfl) (Nat.le_of_ble_eq_true rfl) (Nat.le_of_ble_eq_true rfl) (Nat.le_of_ble_eq_true rfl) (Nat.le_of_ble_eq_true rfl) d_Law_law_215 (fun v w1 hp => ?_)
  rcases hp with ⟨Ha, rfl, rfl⟩ | ⟨Ha, rfl, s1, u1, v1, hs1, hu1, hv1, q1, q2, q3, rfl⟩
  · skip
    refine ⟨rfl, ?_⟩
    refine sw_ws (ws' := CW g x ob r dw a1 z1 o1 dr a2 z2 o2 A B S hp l0 r1 k1 k2 k3 kf1 kh1 r2 j1 j2 j3 j4 j5 kf2 kh2 nS nP b w h bc ps sp G0 G1 ac0 ad0 al0 am0 ac1 ad1 al1 am1 mS mP b2 w2 h2 ps2 sp2 bs2 e0 c0 d0 i0 m0 e1 c1 d1 i1 m1 tS tP b3 w3 h3 ps3 sp3 bs3 e3 c3 d3 i3 m3 e4 c4 d4 i4 m4 ++ RW g R nS nP l0 ss pt hp rd wd sc fb fw fh fs ps sp G0 G1 fd sn fp fa co un zz oo dg gr ro nx pf mn) rfl ?_
    refine sw_aload_n (pc := 218) C d_Law_law_218 rfl rfl ?_
    refine sw_aload_n (pc := 219) C d_Law_law_219 rfl rfl ?_
    refine sw_iload_n (pc := 220) C d_Law_law_220 rfl rfl ?_
    refine sw_iconst (pc := 221) C (nI 1) d_Law_law_221 (by decide) ?_
    refine sw_iadd (pc := 222) C d_Law_law_222 ?_
    refine sw_topi (z := nI (i + 1)) (nI_add _ _) ?_
    refine sw_sld (pc := 223) C Z rfl (by omega) hN d_Law_law_223 ?_
    refine sw_aload_n (pc := 224) C d_Law_law_224 rfl rfl ?_
    refine sw_iload_n (pc := 225) C d_Law_law_225 rfl rfl ?_
    refine sw_iconst (pc := 226) C (nI 2) d_Law_law_226 (by decide) ?_
    refine sw_iadd (pc := 227) C d_Law_law_227 ?_
    refine sw_topi (z := nI (i + 2)) (nI_add _ _) ?_
    refine sw_sld (pc := 228) C Z rfl (by omega) hN d_Law_law_228 ?_
    refine sw_aload_n (pc := 229) C d_Law_law_229 rfl rfl ?_
    refine sw_iload_n (pc := 230) C d_Law_law_230 rfl rfl ?_
    refine sw_iconst (pc := 231) C (nI 3) d_Law_law_231 (by decide) ?_
    refine sw_iadd (pc := 232) C d_Law_law_232 ?_
    refine sw_topi (z := nI (i + 3)) (nI_add _ _) ?_
    refine sw_sld (pc := 233) C Z rfl (by omega) hN d_Law_law_233 ?_
    refine sw_callVP (pc := 234) C (c_Md_place l g R nS nP l0.length ss pt hp rd wd sc ps sp hS hP (sf (i + 1)) (sf (i + 2)) (sf (i + 3))) sv_Md_place t_675 rfl rfl rfl [77, 82, 83] rfl rfl rfl rfl (Nat.le_of_ble_eq_true rfl) (Nat.le_of_ble_eq_true rfl) (Nat.le_of_ble_eq_true rfl) (Nat.le_of_ble_eq_true rfl) (Nat.le_of_ble_eq_true rfl) d_Law_law_234 (fun v w1 hp => ?_)
    rcases hp with ⟨Hb, rfl, rfl⟩ | ⟨Hb, rfl, s2, u2, v2, hs2, hu2, hv2, q4, q5, q6, rfl⟩
    · skip
      refine ⟨rfl, ?_⟩
      refine sw_ws (ws' := CW g x ob r dw a1 z1 o1 dr a2 z2 o2 A B S hp l0 r1 k1 k2 k3 kf1 kh1 r2 j1 j2 j3 j4 j5 kf2 kh2 nS nP b w h bc ps sp G0 G1 ac0 ad0 al0 am0 ac1 ad1 al1 am1 mS mP b2 w2 h2 ps2 sp2 bs2 e0 c0 d0 i0 m0 e1 c1 d1 i1 m1 tS tP b3 w3 h3 ps3 sp3 bs3 e3 c3 d3 i3 m3 e4 c4 d4 i4 m4 ++ RW g R nS nP l0 ss pt hp rd wd sc fb fw fh fs ps sp G0 G1 fd sn fp fa co un zz oo dg gr ro nx pf mn) rfl ?_
      refine sw_icmp_eq (pc := 237) C 656 d_Law_law_237 (by decide) (fun hq => ?_) (fun hq => ?_)
      · skip
        exact kk _ ⟨B, S, hp, l0, r1, k1, k2, k3, kf1, kh1, r2, j1, j2, j3, j4, j5, kf2, kh2, nS, nP, b, w, h, bc, ps, sp, G0, G1, ac0, ad0, al0, am0, ac1, ad1, al1, am1, mS, mP, b2, w2, h2, ps2, sp2, bs2, e0, c0, d0, i0, m0, e1, c1, d1, i1, m1, tS, tP, b3, w3, h3, ps3, sp3, bs3, e3, c3, d3, i3, m3, e4, c4, d4, i4, m4, ss, pt, rd, wd, sc, fb, fw, fh, fs, fd, sn, fp, fa, co, un, zz, oo, dg, gr, ro, nx, pf, mn, F, rfl⟩
      exact absurd rfl hq
    · rw [Ha] at Hb
      cases Hb
  · skip
    refine ⟨rfl, ?_⟩
    refine sw_ws (ws' := CW g x ob r dw a1 z1 o1 dr a2 z2 o2 A B S hp l0 r1 k1 k2 k3 kf1 kh1 r2 j1 j2 j3 j4 j5 kf2 kh2 nS (nP + 1) b w h bc (upN ps nP s1) (upN sp nP (16 * u1 + v1)) G0 G1 ac0 ad0 al0 am0 ac1 ad1 al1 am1 mS mP b2 w2 h2 ps2 sp2 bs2 e0 c0 d0 i0 m0 e1 c1 d1 i1 m1 tS tP b3 w3 h3 ps3 sp3 bs3 e3 c3 d3 i3 m3 e4 c4 d4 i4 m4 ++ RW g R nS nP l0 ss pt hp rd wd sc fb fw fh fs ps sp G0 G1 fd sn fp fa co un zz oo dg gr ro nx pf mn) rfl ?_
    refine sw_aload_n (pc := 218) C d_Law_law_218 rfl rfl ?_
    refine sw_aload_n (pc := 219) C d_Law_law_219 rfl rfl ?_
    refine sw_iload_n (pc := 220) C d_Law_law_220 rfl rfl ?_
    refine sw_iconst (pc := 221) C (nI 1) d_Law_law_221 (by decide) ?_
    refine sw_iadd (pc := 222) C d_Law_law_222 ?_
    refine sw_topi (z := nI (i + 1)) (nI_add _ _) ?_
    refine sw_sld (pc := 223) C Z rfl (by omega) hN d_Law_law_223 ?_
    refine sw_aload_n (pc := 224) C d_Law_law_224 rfl rfl ?_
    refine sw_iload_n (pc := 225) C d_Law_law_225 rfl rfl ?_
    refine sw_iconst (pc := 226) C (nI 2) d_Law_law_226 (by decide) ?_
    refine sw_iadd (pc := 227) C d_Law_law_227 ?_
    refine sw_topi (z := nI (i + 2)) (nI_add _ _) ?_
    refine sw_sld (pc := 228) C Z rfl (by omega) hN d_Law_law_228 ?_
    refine sw_aload_n (pc := 229) C d_Law_law_229 rfl rfl ?_
    refine sw_iload_n (pc := 230) C d_Law_law_230 rfl rfl ?_
    refine sw_iconst (pc := 231) C (nI 3) d_Law_law_231 (by decide) ?_
    refine sw_iadd (pc := 232) C d_Law_law_232 ?_
    refine sw_topi (z := nI (i + 3)) (nI_add _ _) ?_
    refine sw_sld (pc := 233) C Z rfl (by omega) hN d_Law_law_233 ?_
    refine sw_callVP (pc := 234) C (c_Md_place l g R nS nP l0.length ss pt hp rd wd sc ps sp hS hP (sf (i + 1)) (sf (i + 2)) (sf (i + 3))) sv_Md_place t_675 rfl rfl rfl [77, 82, 83] rfl rfl rfl rfl (Nat.le_of_ble_eq_true rfl) (Nat.le_of_ble_eq_true rfl) (Nat.le_of_ble_eq_true rfl) (Nat.le_of_ble_eq_true rfl) (Nat.le_of_ble_eq_true rfl) d_Law_law_234 (fun v w1 hp => ?_)
    rcases hp with ⟨Hb, rfl, rfl⟩ | ⟨Hb, rfl, s2, u2, v2, hs2, hu2, hv2, q4, q5, q6, rfl⟩
    · rw [Ha] at Hb
      cases Hb
    · skip
      refine ⟨rfl, ?_⟩
      rw [q1] at q4
      rw [q2] at q5
      rw [q3] at q6
      have q4 := (nI_eq (by omega) (by omega)).mp q4
      have q5 := (nI_eq (by omega) (by omega)).mp q5
      have q6 := (nI_eq (by omega) (by omega)).mp q6
      subst q4
      subst q5
      subst q6
      refine sw_ws (ws' := CW g x ob r dw a1 z1 o1 dr a2 z2 o2 A B S hp l0 r1 k1 k2 k3 kf1 kh1 r2 j1 j2 j3 j4 j5 kf2 kh2 nS (nP + 1) b w h bc (upN ps nP s1) (upN sp nP (16 * u1 + v1)) G0 G1 ac0 ad0 al0 am0 ac1 ad1 al1 am1 mS mP b2 w2 h2 ps2 sp2 bs2 e0 c0 d0 i0 m0 e1 c1 d1 i1 m1 tS tP b3 w3 h3 ps3 sp3 bs3 e3 c3 d3 i3 m3 e4 c4 d4 i4 m4 ++ RW g R nS (nP + 1) l0 ss pt hp rd wd sc fb fw fh fs (upN ps nP s1) (upN sp nP (16 * u1 + v1)) G0 G1 fd sn fp fa co un zz oo dg gr ro nx pf mn) rfl ?_
      have hlt : nP < 20 := by
        unfold plcB at Ha
        simp only [Bool.and_eq_true, decide_eq_true_eq] at Ha
        exact Ha.1.1
      refine sw_icmp_eqN (pc := 237) C 656 (by omega) (by omega) d_Law_law_237 (by decide) (fun hq => ?_) (fun hq => ?_)
      · skip
        exact kk _ ⟨B, S, hp, l0, r1, k1, k2, k3, kf1, kh1, r2, j1, j2, j3, j4, j5, kf2, kh2, nS, (nP + 1), b, w, h, bc, (upN ps nP s1), (upN sp nP (16 * u1 + v1)), G0, G1, ac0, ad0, al0, am0, ac1, ad1, al1, am1, mS, mP, b2, w2, h2, ps2, sp2, bs2, e0, c0, d0, i0, m0, e1, c1, d1, i1, m1, tS, tP, b3, w3, h3, ps3, sp3, bs3, e3, c3, d3, i3, m3, e4, c4, d4, i4, m4, ss, pt, rd, wd, sc, fb, fw, fh, fs, fd, sn, fp, fa, co, un, zz, oo, dg, gr, ro, nx, pf, mn, ⟨hl, ⟨hS, by omega⟩, H, Q, plc_ok hdp (by omega) (by omega), O2, O3, ⟨hss, hpt⟩, HP⟩, rfl⟩
      exact absurd rfl hq
