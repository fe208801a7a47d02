/-! LayeredPage$DocumentReader.read -/
def rdPost (g : Gl) (d a z o ob r : Nat) (l0 : List Nat) (A : Nat → Nat) : Option Value → va_W → Prop := fun u q => ∃ (v K : Nat), u = some (.int (nI v)) ∧ RD l0 K v ∧ ∃ (r0 : Nat) (i1 i2 i3 i4 wd : Int32) (f hq : Nat → Int32) (nS nP : Nat) (b w h ps sp : Nat → Nat) (bs ce0 co0 cd0 li0 : Nat → Int32) (cm0 : Bool) (ce1 co1 cd1 li1 : Nat → Int32) (cm1 : Bool), pgOK nS nP b w h ps sp ∧ (v = 0 → pgIs l0 K nS nP b w h ps sp ce0 co0 cm0 ce1 co1 cm1) ∧ q = wDr g d a z o ob r r0 i1 i2 i3 i4 wd f hq l0 ++ wPg g A nS nP (nF ps) (nF sp) ce0 co0 cd0 li0 cm0 ce1 co1 cd1 li1 cm1 (fun k => shV (b k) (w k) (h k) (bs k))
def rdIH (X : Cz) (g : Gl) (d a z o ob r : Nat) (l0 : List Nat) (A : Nat → Nat) (K : Nat) : Prop := FL l0 K 0 → ∀ (r0 : Nat) (i1 i2 i3 i4 wd : Int32) (f hq : Nat → Int32) (nS nP : Nat) (b w h ps sp : Nat → Nat) (bs ce0 co0 cd0 li0 : Nat → Int32) (cm0 : Bool) (ce1 co1 cd1 li1 : Nat → Int32) (cm1 : Bool) (o6 o7 o8 : Option Value), pgOK nS nP b w h ps sp → pgIs l0 (K + 1) nS nP b w h ps sp ce0 co0 cm0 ce1 co1 cm1 → SW X g 9 0 0 (wDr g d a z o ob r r0 i1 i2 i3 i4 wd f hq l0 ++ wPg g A nS nP (nF ps) (nF sp) ce0 co0 cd0 li0 cm0 ce1 co1 cd1 li1 cm1 (fun k => shV (b k) (w k) (h k) (bs k))) 34 [some (.ref d), some (.ref ob), some (.ref (A 0)), some (.int (nI 0)), some (.int (nI (hd l0 (K + 1)))), some (.int (nI (K + 1))), o6, o7, o8] []
theorem octAt_is {l : List Nat} {j v : Nat} (hl : bytesOK l) (hj : j < 2 ^ 31) (hv : 0 < v) (hv2 : v < 2 ^ 31) : octAt l (nI j) = nI v ↔ l.getD j 0 = v := by
  have hb := hl.2 j
  have hl1 := hl.1
  by_cases h : j < l.length
  · rw [octAt_in h hl.1]
    constructor
    · intro e
      have e1 := nI_toInt (n := l.getD j 0) (by omega)
      rw [e, nI_toInt hv2] at e1
      omega
    · intro e; rw [e]
  · rw [octAt_hi ((nI_leI (by omega) hj).mpr (by omega)), getD_ge (by omega)]
    constructor
    · intro e
      have e1 := nI_toInt (n := v) hv2
      rw [← e] at e1
      have : (-1 : Int32).toInt = -1 := by decide
      omega
    · intro e; omega
set_option maxRecDepth 100000 in
set_option maxHeartbeats 4000000 in
theorem rd_fin {X : Cz} (l : Launch) (g : Gl) (d a z o ob r : Nat) (l0 : List Nat) (hl : bytesOK l0) (A : Nat → Nat) (C : Cx X l g y_Dr_read b_Dr_read 9 (some .int) (rmD 5)) (E : Ce X g (rdPost g d a z o ob r l0 A) (rmD 5)) (v K : Nat) (hv : 0 < v) (hv6 : v ≤ 6) (k : Nat) (hk : k ≤ 17) (x : Int32) (hR : RD l0 K v) (r0 : Nat) (i1 i2 i3 i4 wd : Int32) (f hq : Nat → Int32) (nS nP : Nat) (b w h ps sp : Nat → Nat) (bs ce0 co0 cd0 li0 : Nat → Int32) (cm0 : Bool) (ce1 co1 cd1 li1 : Nat → Int32) (cm1 : Bool) (o6 o7 o8 : Option Value) (O : pgOK nS nP b w h ps sp) : SW X g 9 0 0 (wDr g d a z o ob r r0 i1 i2 i3 i4 wd f hq l0 ++ wPg g A nS nP (nF ps) (nF sp) ce0 co0 cd0 li0 cm0 ce1 co1 cd1 li1 cm1 (fun k => shV (b k) (w k) (h k) (bs k))) 34 [some (.ref d), some (.ref ob), some (.ref (A 0)), some (.int (nI v)), some (.int x), some (.int (nI k)), o6, o7, o8] [] := by
  have hl1 := hl.1
  refine sw_iload (pc := 34) C d_Dr_read_34 rfl ?_
  refine sw_bipush (pc := 36) C (nI 16) d_Dr_read_36 (by decide) ?_
  refine sw_icmp_gtN (pc := 38) C 191 (by omega) (by omega) d_Dr_read_38 (by decide) (fun g1 => ?_) (fun g1 => ?_)
  · skip
    refine sw_iload_n (pc := 191) C d_Dr_read_191 rfl rfl ?_
    exact sw_iret (pc := 192) C E rfl (Nat.le_of_ble_eq_true rfl) (Nat.le_of_ble_eq_true rfl) d_Dr_read_192 ⟨v, K, rfl, hR, r0, i1, i2, i3, i4, wd, f, hq, nS, nP, b, w, h, ps, sp, bs, ce0, co0, cd0, li0, cm0, ce1, co1, cd1, li1, cm1, O, fun e => absurd e (by omega), rfl⟩
  refine sw_iload (pc := 41) C d_Dr_read_41 rfl ?_
  refine sw_aload_n (pc := 43) C d_Dr_read_43 rfl rfl ?_
  refine sw_get (pc := 44) C inOct 1 rfl rfl 1 (by decide) t_33 rfl rfl d_Dr_read_44 ?_
  refine sw_topi (z := nI l0.length) rfl ?_
  refine sw_icmp_ge (pc := 47) C 191 d_Dr_read_47 (by decide) (fun g2 => ?_) (fun g2 => ?_)
  · skip
    refine sw_iload_n (pc := 191) C d_Dr_read_191 rfl rfl ?_
    exact sw_iret (pc := 192) C E rfl (Nat.le_of_ble_eq_true rfl) (Nat.le_of_ble_eq_true rfl) d_Dr_read_192 ⟨v, K, rfl, hR, r0, i1, i2, i3, i4, wd, f, hq, nS, nP, b, w, h, ps, sp, bs, ce0, co0, cd0, li0, cm0, ce1, co1, cd1, li1, cm1, O, fun e => absurd e (by omega), rfl⟩
  refine sw_iload_n (pc := 50) C d_Dr_read_50 rfl rfl ?_
  refine sw_if_neN (pc := 51) C 191 (by omega) d_Dr_read_51 (by decide) (fun g3 => ?_) (fun g3 => ?_)
  · skip
    refine sw_iload_n (pc := 191) C d_Dr_read_191 rfl rfl ?_
    exact sw_iret (pc := 192) C E rfl (Nat.le_of_ble_eq_true rfl) (Nat.le_of_ble_eq_true rfl) d_Dr_read_192 ⟨v, K, rfl, hR, r0, i1, i2, i3, i4, wd, f, hq, nS, nP, b, w, h, ps, sp, bs, ce0, co0, cd0, li0, cm0, ce1, co1, cd1, li1, cm1, O, fun e => absurd e (by omega), rfl⟩
  omega
set_option maxRecDepth 100000 in
set_option maxHeartbeats 4000000 in
theorem rd_sh {X : Cz} (l : Launch) (g : Gl) (d a z o ob r : Nat) (l0 : List Nat) (hl : bytesOK l0) (A : Nat → Nat) (C : Cx X l g y_Dr_read b_Dr_read 9 (some .int) (rmD 5)) (E : Ce X g (rdPost g d a z o ob r l0 A) (rmD 5)) (K : Nat) (hst : stG l0) (hall : ∀ j, j < K → hd l0 j < l0.length ∧ FL l0 j 0) (hlt : hd l0 K < l0.length) (hle : hd l0 K + 3 + lnA l0 K ≤ l0.length) (hK : K < 16) (ih : rdIH X g d a z o ob r l0 A K) (r0 : Nat) (i1 i2 i3 i4 wd : Int32) (f hq : Nat → Int32) (nS nP : Nat) (b w h ps sp : Nat → Nat) (bs ce0 co0 cd0 li0 : Nat → Int32) (cm0 : Bool) (ce1 co1 cd1 li1 : Nat → Int32) (cm1 : Bool) (O : pgOK nS nP b w h ps sp) (I : pgIs l0 K nS nP b w h ps sp ce0 co0 cm0 ce1 co1 cm1) (hk : kdA l0 K = 1) : SW X g 9 0 0 (wDr g d a z o ob r r0 i1 i2 i3 i4 wd f hq l0 ++ wPg g A nS nP (nF ps) (nF sp) ce0 co0 cd0 li0 cm0 ce1 co1 cd1 li1 cm1 (fun k => shV (b k) (w k) (h k) (bs k))) 117 [some (.ref d), some (.ref ob), some (.ref (A 0)), some (.int (nI 0)), some (.int (nI (hd l0 K))), some (.int (nI K)), some (.int (nI (hd l0 K + 3))), some (.int (nI (lnA l0 K))), some (.int (nI (kdA l0 K)))] [] := by
  have hl1 := hl.1
  have e1 := I.1.1
  refine sw_aload_n (pc := 117) C d_Dr_read_117 rfl rfl ?_
  refine sw_aload_n (pc := 118) C d_Dr_read_118 rfl rfl ?_
  refine sw_iload (pc := 119) C d_Dr_read_119 rfl ?_
  refine sw_iload (pc := 121) C d_Dr_read_121 rfl ?_
  refine sw_aload_n (pc := 123) C d_Dr_read_123 rfl rfl ?_
  refine sw_callVP (pc := 124) C (c_rdSh l g d a z o ob r r0 i1 i2 i3 i4 wd f hq l0 hl A nS nP b w h bs O.1 O.2.2.1 (hd l0 K + 3) (lnA l0 K) hle) sv_Dr_readShape t_484 rfl rfl rfl [0, 1, 2, 3, 4, 5, 6, 7, 20, 21, 22, 23, 24, 25, 26, 27] rfl rfl rfl rfl (Nat.le_of_ble_eq_true rfl) (Nat.le_of_ble_eq_true rfl) (Nat.le_of_ble_eq_true rfl) (Nat.le_of_ble_eq_true rfl) (Nat.le_of_ble_eq_true rfl) d_Dr_read_124 (fun v w1 hp => ?_)
  rcases hp with ⟨rfl, G, r1, j1, j2, j3, j4, d1, f1, h1, rfl⟩ | ⟨rfl, G, rfl⟩
  · skip
    refine ⟨rfl, ?_⟩
    refine sw_ws (ws' := wDr g d a z o ob r r1 j1 j2 j3 j4 d1 f1 h1 l0 ++ wPg g A (nS + 1) nP (nF ps) (nF sp) ce0 co0 cd0 li0 cm0 ce1 co1 cd1 li1 cm1 (upF (fun k => shV (b k) (w k) (h k) (bs k)) nS (shV (rdBits l0 (fun i => sb (b i) (w i) (h i)) (hd l0 K + 3) (lnA l0 K)) (l0.getD (hd l0 K + 3 + 1) 0 / 16 + 1) (l0.getD (hd l0 K + 3 + 1) 0 % 16 + 1) (bsI (l0.getD (hd l0 K + 3) 0))))) rfl ?_
    rw [upF_shV]
    refine sw_istore_n (pc := 127) C d_Dr_read_127 rfl (by decide) rfl ?_
    refine sw_goto (pc := 128) C 178 d_Dr_read_128 (by decide) ?_
    refine sw_iload (pc := 178) C d_Dr_read_178 rfl ?_
    refine sw_iload (pc := 180) C d_Dr_read_180 rfl ?_
    refine sw_iadd (pc := 182) C d_Dr_read_182 ?_
    refine sw_topi (z := nI ((hd l0 K + 3) + (lnA l0 K))) (nI_add _ _) ?_
    refine sw_istore (pc := 183) C d_Dr_read_183 (by decide) rfl ?_
    refine sw_iincN (pc := 185) C 1 d_Dr_read_185 rfl (by decide) (by decide) rfl ?_
    refine sw_goto (pc := 188) C 34 d_Dr_read_188 (by decide) ?_
    obtain ⟨O2, I2⟩ := is_sh O I hk G
    exact ih (Or.inr (Or.inr (Or.inl ⟨hle, hK, hk, Or.inl ⟨by rw [← e1]; exact G, rfl⟩⟩))) r1 j1 j2 j3 j4 d1 f1 h1 (nS + 1) nP _ _ _ ps sp (fun j => if j = nS then (bsI (l0.getD (hd l0 K + 3) 0)) else bs j) ce0 co0 cd0 li0 cm0 ce1 co1 cd1 li1 cm1 _ _ _ O2 I2
  refine ⟨rfl, ?_⟩
  refine sw_ws (ws' := wDr g d a z o ob r r0 i1 i2 i3 i4 wd f hq l0 ++ wPg g A nS nP (nF ps) (nF sp) ce0 co0 cd0 li0 cm0 ce1 co1 cd1 li1 cm1 (fun k => shV (b k) (w k) (h k) (bs k))) rfl ?_
  refine sw_istore_n (pc := 127) C d_Dr_read_127 rfl (by decide) rfl ?_
  refine sw_goto (pc := 128) C 178 d_Dr_read_128 (by decide) ?_
  refine sw_iload (pc := 178) C d_Dr_read_178 rfl ?_
  refine sw_iload (pc := 180) C d_Dr_read_180 rfl ?_
  refine sw_iadd (pc := 182) C d_Dr_read_182 ?_
  refine sw_topi (z := nI ((hd l0 K + 3) + (lnA l0 K))) (nI_add _ _) ?_
  refine sw_istore (pc := 183) C d_Dr_read_183 (by decide) rfl ?_
  refine sw_iincN (pc := 185) C 1 d_Dr_read_185 rfl (by decide) (by decide) rfl ?_
  refine sw_goto (pc := 188) C 34 d_Dr_read_188 (by decide) ?_
  exact rd_fin l g d a z o ob r l0 hl A C E 4 K (by decide) (by decide) (K + 1) (by omega) _ (Or.inr ⟨hst, hall, Or.inr ⟨hlt, Or.inr (Or.inr (Or.inl ⟨hle, hK, hk, Or.inr ⟨by rw [← e1]; exact G, rfl⟩⟩)), by decide⟩⟩) r0 i1 i2 i3 i4 wd f hq nS nP b w h ps sp bs ce0 co0 cd0 li0 cm0 ce1 co1 cd1 li1 cm1 _ _ _ O
