/-! the reference: encode -/
theorem lyB_len (n s : Nat) (G : Nat → Nat → Int32) (hn : n = 4 ∨ n = 8) (hs : s ≤ 10) : (lyBytes n s G).length ≤ 1 + (55 * (n * n) + 23) / 8 := by
  have h := myP_sc (md := none) (n := n) (cf := flat n (liftN n G)) (sl := s) (fun D h => by cases h) hn hs
  unfold lyBytes
  rw [List.length_cons, cbytes_len]
  omega
theorem dcF_nil (F : Nat → Int32) : dcF [] F = F := by
  funext k
  unfold dcF
  rw [if_neg (by simp)]
set_option maxRecDepth 100000 in
set_option maxHeartbeats 4000000 in
theorem me_ly {X : Cz} {post : Option Value → va_W → Prop} (l : Launch) (g : Gl) (R : Nat → Nat) (nS nP ss pt : Nat) (th : Bool) (fb : Nat → Int64) (fw fh fs : Nat → Int32) (b w h bc ps sp : Nat → Nat) (G0 G1 : Nat → Nat → Int32) (gr r x p m : Nat → Int32) (hS : nS ≤ 8) (hP : nP ≤ 20) (H : drOK nS b w h bc) (Q : drQ nS fb fw fh fs b w h bc) (C : Cx X l g y_Md_encode b_Md_encode 4 (some .int) (rmD 4)) (E : Ce X g post (rmD 4)) (F0 : Nat → Int32) (s : Nat) (hs10 : s ≤ 10) (hfin : ∀ (r1 : Bool) (w1 s1 : Nat) (z1 o1 d1 g1 r2 x1 p1 m1 : Nat → Int32), post (some (.int (nI (docB b w h bc nS ps sp nP s G0 G1).length))) ([mdC R nS nP ((docB b w h bc nS ps sp nP s G0 G1).length) ss pt th r1 w1 s1, iaC g (R 14) 48 z1, iaC g (R 15) 48 o1, iaC g (R 16) 4400 d1, iaC g (R 8) 1200 (dcF (docB b w h bc nS ps sp nP s G0 G1) F0), laC g (R 1) 8 fb, iaC g (R 2) 8 fw, iaC g (R 3) 8 fh, iaC g (R 4) 8 fs, iaC g (R 5) 20 (nF ps), iaC g (R 6) 20 (nF sp), iaC g (R 7) 128 (clF G0 G1), iaC g (R 17) 64 g1, iaC g (R 18) 8 r2, iaC g (R 19) 8 x1, iaC g (R 20) 64 p1, zaC g (R 21) 64 m1])) (r1 : Bool) (w1 s1 : Nat) (z1 o1 d1 : Nat → Int32) (v2 v3 : Int32) : SW X g 4 0 0 ([mdC R nS nP (((shAll b w h bc nS) ++ chunk 2 (plBytes ps sp nP)).length) ss pt th r1 w1 s1, iaC g (R 14) 48 z1, iaC g (R 15) 48 o1, iaC g (R 16) 4400 d1, iaC g (R 8) 1200 (dcF ((shAll b w h bc nS) ++ chunk 2 (plBytes ps sp nP)) F0), laC g (R 1) 8 fb, iaC g (R 2) 8 fw, iaC g (R 3) 8 fh, iaC g (R 4) 8 fs, iaC g (R 5) 20 (nF ps), iaC g (R 6) 20 (nF sp), iaC g (R 7) 128 (clF G0 G1), iaC g (R 17) 64 gr, iaC g (R 18) 8 r, iaC g (R 19) 8 x, iaC g (R 20) 64 p, zaC g (R 21) 64 m]) 96 [some (.ref (R 0)), some (.int (nI s)), some (.int v2), some (.int v3)] [] := by
  have hl1 := shAll_len H nS (Nat.le_refl _)
  have hl2 := plBytes_len ps sp nP
  have hl3 := chunk_len 2 (plBytes ps sp nP)
  have hl4 := lyB_len 8 s G0 (by decide) hs10
  unfold docB at hfin
  have hq : (((shAll b w h bc nS) ++ chunk 2 (plBytes ps sp nP)) ++ chunk 3 (lyBytes 8 s G0)).length + 120 ≤ 1200 := by
    have a1 : ((shAll b w h bc nS) ++ chunk 2 (plBytes ps sp nP)).length ≤ 421 := by rw [List.length_append]; omega
    rw [List.length_append, chunk_len]
    generalize (lyBytes 8 s G0).length = u at hl4 ⊢
    generalize ((shAll b w h bc nS) ++ chunk 2 (plBytes ps sp nP)).length = v at a1 ⊢
    omega
  refine sw_aload_n (pc := 96) C d_Md_encode_96 rfl rfl ?_
  refine sw_iconst (pc := 97) C (nI 0) d_Md_encode_97 (by decide) ?_
  refine sw_iload_n (pc := 98) C d_Md_encode_98 rfl rfl ?_
  refine sw_sub (ws' := [mdC R nS nP (((shAll b w h bc nS) ++ chunk 2 (plBytes ps sp nP)).length) ss pt th r1 w1 s1, iaC g (R 14) 48 z1, iaC g (R 15) 48 o1, iaC g (R 16) 4400 d1, iaC g (R 8) 1200 (dcF ((shAll b w h bc nS) ++ chunk 2 (plBytes ps sp nP)) F0), iaC g (R 7) 128 (clF G0 G1), iaC g (R 17) 64 gr, iaC g (R 18) 8 r, iaC g (R 19) 8 x, iaC g (R 20) 64 p, zaC g (R 21) 64 m] ++ [laC g (R 1) 8 fb, iaC g (R 2) 8 fw, iaC g (R 3) 8 fh, iaC g (R 4) 8 fs, iaC g (R 5) 20 (nF ps), iaC g (R 6) 20 (nF sp)]) [0, 1, 2, 3, 4, 11, 12, 13, 14, 15, 16, 5, 6, 7, 8, 9, 10] rfl (by decide +kernel) ?_
  refine sw_callVF (pc := 99) C (c_Md_putLy0 l g R nS nP ss pt th r1 w1 s1 ((shAll b w h bc nS) ++ chunk 2 (plBytes ps sp nP)) F0 z1 o1 d1 G0 G1 gr r x p m s hs10 (by simp only [List.length_append]; omega)) sv_Md_putLayer t_737 rfl rfl rfl rfl rfl (Nat.le_of_ble_eq_true rfl) (Nat.le_of_ble_eq_true rfl) (Nat.le_of_ble_eq_true rfl) (Nat.le_of_ble_eq_true rfl) (Nat.le_of_ble_eq_true rfl) d_Md_encode_99 (fun v w1 hpp => ?_)
  obtain ⟨rfl, r3, w3, s3, z3, o3, d3, g3, r4, x3, p3, m3, rfl⟩ := hpp
  refine ⟨rfl, ?_⟩
  refine sw_sub (ws' := [mdC R nS nP ((((shAll b w h bc nS) ++ chunk 2 (plBytes ps sp nP)) ++ chunk 3 (lyBytes 8 s G0)).length) ss pt th r3 w3 s3, iaC g (R 14) 48 z3, iaC g (R 15) 48 o3, iaC g (R 16) 4400 d3, iaC g (R 8) 1200 (dcF (((shAll b w h bc nS) ++ chunk 2 (plBytes ps sp nP)) ++ chunk 3 (lyBytes 8 s G0)) F0), laC g (R 1) 8 fb, iaC g (R 2) 8 fw, iaC g (R 3) 8 fh, iaC g (R 4) 8 fs, iaC g (R 5) 20 (nF ps), iaC g (R 6) 20 (nF sp), iaC g (R 7) 128 (clF G0 G1), iaC g (R 17) 64 g3, iaC g (R 18) 8 r4, iaC g (R 19) 8 x3, iaC g (R 20) 64 p3, zaC g (R 21) 64 m3]) [0, 1, 2, 3, 4, 11, 12, 13, 14, 15, 16, 5, 6, 7, 8, 9, 10] rfl (by decide +kernel) ?_
  refine sw_aload_n (pc := 102) C d_Md_encode_102 rfl rfl ?_
  refine sw_iconst (pc := 103) C (nI 1) d_Md_encode_103 (by decide) ?_
  refine sw_iload_n (pc := 104) C d_Md_encode_104 rfl rfl ?_
  refine sw_sub (ws' := [mdC R nS nP ((((shAll b w h bc nS) ++ chunk 2 (plBytes ps sp nP)) ++ chunk 3 (lyBytes 8 s G0)).length) ss pt th r3 w3 s3, iaC g (R 14) 48 z3, iaC g (R 15) 48 o3, iaC g (R 16) 4400 d3, iaC g (R 8) 1200 (dcF (((shAll b w h bc nS) ++ chunk 2 (plBytes ps sp nP)) ++ chunk 3 (lyBytes 8 s G0)) F0), iaC g (R 7) 128 (clF G0 G1), iaC g (R 17) 64 g3, iaC g (R 18) 8 r4, iaC g (R 19) 8 x3, iaC g (R 20) 64 p3, zaC g (R 21) 64 m3] ++ [laC g (R 1) 8 fb, iaC g (R 2) 8 fw, iaC g (R 3) 8 fh, iaC g (R 4) 8 fs, iaC g (R 5) 20 (nF ps), iaC g (R 6) 20 (nF sp)]) [0, 1, 2, 3, 4, 11, 12, 13, 14, 15, 16, 5, 6, 7, 8, 9, 10] rfl (by decide +kernel) ?_
  refine sw_callVF (pc := 105) C (c_Md_putLy1 l g R nS nP ss pt th r3 w3 s3 (((shAll b w h bc nS) ++ chunk 2 (plBytes ps sp nP)) ++ chunk 3 (lyBytes 8 s G0)) F0 z3 o3 d3 G0 G1 g3 r4 x3 p3 m3 s hs10 hq) sv_Md_putLayer t_737 rfl rfl rfl rfl rfl (Nat.le_of_ble_eq_true rfl) (Nat.le_of_ble_eq_true rfl) (Nat.le_of_ble_eq_true rfl) (Nat.le_of_ble_eq_true rfl) (Nat.le_of_ble_eq_true rfl) d_Md_encode_105 (fun v w1 hpp => ?_)
  obtain ⟨rfl, r5, w5, s5, z5, o5, d5, g5, r6, x5, p5, m5, rfl⟩ := hpp
  refine ⟨(by simp only [List.map_cons, List.map_nil]), ?_⟩
  refine sw_sub (ws' := [mdC R nS nP ((((shAll b w h bc nS) ++ chunk 2 (plBytes ps sp nP)) ++ chunk 3 (lyBytes 8 s G0) ++ chunk 4 (lyBytes 4 s G1)).length) ss pt th r5 w5 s5, iaC g (R 14) 48 z5, iaC g (R 15) 48 o5, iaC g (R 16) 4400 d5, iaC g (R 8) 1200 (dcF (((shAll b w h bc nS) ++ chunk 2 (plBytes ps sp nP)) ++ chunk 3 (lyBytes 8 s G0) ++ chunk 4 (lyBytes 4 s G1)) F0), laC g (R 1) 8 fb, iaC g (R 2) 8 fw, iaC g (R 3) 8 fh, iaC g (R 4) 8 fs, iaC g (R 5) 20 (nF ps), iaC g (R 6) 20 (nF sp), iaC g (R 7) 128 (clF G0 G1), iaC g (R 17) 64 g5, iaC g (R 18) 8 r6, iaC g (R 19) 8 x5, iaC g (R 20) 64 p5, zaC g (R 21) 64 m5]) [0, 1, 2, 3, 4, 11, 12, 13, 14, 15, 16, 5, 6, 7, 8, 9, 10] rfl (by decide +kernel) ?_
  refine sw_aload_n (pc := 108) C d_Md_encode_108 rfl rfl ?_
  refine sw_get (pc := 109) C inMd 0 rfl rfl 10 (by decide) t_582 rfl rfl d_Md_encode_109 ?_
  refine sw_topi (z := nI ((((shAll b w h bc nS) ++ chunk 2 (plBytes ps sp nP)) ++ chunk 3 (lyBytes 8 s G0) ++ chunk 4 (lyBytes 4 s G1)).length)) rfl ?_
  exact sw_iret (pc := 112) C E rfl (Nat.le_of_ble_eq_true rfl) (Nat.le_of_ble_eq_true rfl) d_Md_encode_112 (hfin r5 w5 s5 z5 o5 d5 g5 r6 x5 p5 m5)
set_option maxRecDepth 100000 in
set_option maxHeartbeats 4000000 in
theorem me_pl {X : Cz} {post : Option Value → va_W → Prop} (l : Launch) (g : Gl) (R : Nat → Nat) (nS nP ss pt : Nat) (th : Bool) (fb : Nat → Int64) (fw fh fs : Nat → Int32) (b w h bc ps sp : Nat → Nat) (G0 G1 : Nat → Nat → Int32) (gr r x p m : Nat → Int32) (hS : nS ≤ 8) (hP : nP ≤ 20) (H : drOK nS b w h bc) (Q : drQ nS fb fw fh fs b w h bc) (C : Cx X l g y_Md_encode b_Md_encode 4 (some .int) (rmD 4)) (E : Ce X g post (rmD 4)) (F0 : Nat → Int32) (s : Nat) (hs10 : s ≤ 10) (hfin : ∀ (r1 : Bool) (w1 s1 : Nat) (z1 o1 d1 g1 r2 x1 p1 m1 : Nat → Int32), post (some (.int (nI (docB b w h bc nS ps sp nP s G0 G1).length))) ([mdC R nS nP ((docB b w h bc nS ps sp nP s G0 G1).length) ss pt th r1 w1 s1, iaC g (R 14) 48 z1, iaC g (R 15) 48 o1, iaC g (R 16) 4400 d1, iaC g (R 8) 1200 (dcF (docB b w h bc nS ps sp nP s G0 G1) F0), laC g (R 1) 8 fb, iaC g (R 2) 8 fw, iaC g (R 3) 8 fh, iaC g (R 4) 8 fs, iaC g (R 5) 20 (nF ps), iaC g (R 6) 20 (nF sp), iaC g (R 7) 128 (clF G0 G1), iaC g (R 17) 64 g1, iaC g (R 18) 8 r2, iaC g (R 19) 8 x1, iaC g (R 20) 64 p1, zaC g (R 21) 64 m1])) (r1 : Bool) (w1 s1 : Nat) (z1 o1 d1 : Nat → Int32) (v2 : Int32) : SW X g 4 0 0 ([mdC R nS nP ((shAll b w h bc nS).length) ss pt th r1 w1 s1, iaC g (R 14) 48 z1, iaC g (R 15) 48 o1, iaC g (R 16) 4400 d1, iaC g (R 8) 1200 (dcF (shAll b w h bc nS) F0), laC g (R 1) 8 fb, iaC g (R 2) 8 fw, iaC g (R 3) 8 fh, iaC g (R 4) 8 fs, iaC g (R 5) 20 (nF ps), iaC g (R 6) 20 (nF sp), iaC g (R 7) 128 (clF G0 G1), iaC g (R 17) 64 gr, iaC g (R 18) 8 r, iaC g (R 19) 8 x, iaC g (R 20) 64 p, zaC g (R 21) 64 m]) 49 [some (.ref (R 0)), some (.int (nI s)), some (.int v2), none] [] := by
  have hl1 := shAll_len H nS (Nat.le_refl _)
  refine sw_aload_n (pc := 49) C d_Md_encode_49 rfl rfl ?_
  refine sw_iconst (pc := 50) C (nI 2) d_Md_encode_50 (by decide) ?_
  refine sw_callVP (pc := 51) C (c_Md_open l g R nS nP ss pt th r1 w1 s1 (shAll b w h bc nS) F0 2 (by omega)) sv_Md_open t_703 rfl rfl rfl [0, 4] rfl rfl rfl rfl (Nat.le_of_ble_eq_true rfl) (Nat.le_of_ble_eq_true rfl) (Nat.le_of_ble_eq_true rfl) (Nat.le_of_ble_eq_true rfl) (Nat.le_of_ble_eq_true rfl) d_Md_encode_51 (fun v w1 hp => ?_)
  obtain ⟨rfl, rfl⟩ := hp
  refine ⟨rfl, ?_⟩
  refine sw_ws (ws' := [mdC R nS nP (((shAll b w h bc nS) ++ [2, 0, 0] ++ plBytes ps sp 0).length) ss pt th r1 w1 s1, iaC g (R 14) 48 z1, iaC g (R 15) 48 o1, iaC g (R 16) 4400 d1, iaC g (R 8) 1200 (dcF ((shAll b w h bc nS) ++ [2, 0, 0] ++ plBytes ps sp 0) F0), laC g (R 1) 8 fb, iaC g (R 2) 8 fw, iaC g (R 3) 8 fh, iaC g (R 4) 8 fs, iaC g (R 5) 20 (nF ps), iaC g (R 6) 20 (nF sp), iaC g (R 7) 128 (clF G0 G1), iaC g (R 17) 64 gr, iaC g (R 18) 8 r, iaC g (R 19) 8 x, iaC g (R 20) 64 p, zaC g (R 21) 64 m]) (by rw [show ((shAll b w h bc nS) ++ [2, 0, 0] ++ plBytes ps sp 0) = (shAll b w h bc nS) ++ [2, 0, 0] from by simp [plBytes]]; rfl) ?_
  have key : ∀ (nn k : Nat) , k + nn = nP → SW X g 4 0 0 ([mdC R nS nP (((shAll b w h bc nS) ++ [2, 0, 0] ++ plBytes ps sp k).length) ss pt th r1 w1 s1, iaC g (R 14) 48 z1, iaC g (R 15) 48 o1, iaC g (R 16) 4400 d1, iaC g (R 8) 1200 (dcF ((shAll b w h bc nS) ++ [2, 0, 0] ++ plBytes ps sp k) F0), laC g (R 1) 8 fb, iaC g (R 2) 8 fw, iaC g (R 3) 8 fh, iaC g (R 4) 8 fs, iaC g (R 5) 20 (nF ps), iaC g (R 6) 20 (nF sp), iaC g (R 7) 128 (clF G0 G1), iaC g (R 17) 64 gr, iaC g (R 18) 8 r, iaC g (R 19) 8 x, iaC g (R 20) 64 p, zaC g (R 21) 64 m]) 57 [some (.ref (R 0)), some (.int (nI s)), some (.int (nI ((shAll b w h bc nS).length + 3))), some (.int (nI k))] [] := by
    intro nn
    induction nn with
    | zero =>
      intro k  hi 
      refine sw_iload_n (pc := 57) C d_Md_encode_57 rfl rfl ?_
      refine sw_aload_n (pc := 58) C d_Md_encode_58 rfl rfl ?_
      refine sw_get (pc := 59) C inMd 0 rfl rfl 7 (by decide) t_579 rfl rfl d_Md_encode_59 ?_
      refine sw_topi (z := nI nP) rfl ?_
      refine sw_icmp_geN (pc := 62) C 91 (by omega) (by omega) d_Md_encode_62 (by decide) (fun hx => ?_) (fun hx => ?_)
      · skip
        have ek : nP = k := by omega
        subst ek
        have hl2 := plBytes_len ps sp nP
        refine sw_aload_n (pc := 91) C d_Md_encode_91 rfl rfl ?_
        refine sw_iload_n (pc := 92) C d_Md_encode_92 rfl rfl ?_
        refine sw_callVP (pc := 93) C (c_Md_close l g R nS nP ss pt th r1 w1 s1 ((shAll b w h bc nS) ++ [2, 0, 0] ++ plBytes ps sp nP) F0 ((shAll b w h bc nS).length + 3) (by omega) (by simp only [List.length_append]; simp) (by simp only [List.length_append, hl2]; simp; omega)) sv_Md_close t_733 rfl rfl rfl [0, 4] rfl rfl rfl rfl (Nat.le_of_ble_eq_true rfl) (Nat.le_of_ble_eq_true rfl) (Nat.le_of_ble_eq_true rfl) (Nat.le_of_ble_eq_true rfl) (Nat.le_of_ble_eq_true rfl) d_Md_encode_93 (fun v w1 hp => ?_)
        obtain ⟨rfl, rfl⟩ := hp
        refine ⟨rfl, ?_⟩
        refine sw_ws (ws' := [mdC R nS nP ((clsL ((shAll b w h bc nS) ++ [2, 0, 0] ++ plBytes ps sp nP) ((shAll b w h bc nS).length + 3)).length) ss pt th r1 w1 s1, iaC g (R 14) 48 z1, iaC g (R 15) 48 o1, iaC g (R 16) 4400 d1, iaC g (R 8) 1200 (dcF (clsL ((shAll b w h bc nS) ++ [2, 0, 0] ++ plBytes ps sp nP) ((shAll b w h bc nS).length + 3)) F0), laC g (R 1) 8 fb, iaC g (R 2) 8 fw, iaC g (R 3) 8 fh, iaC g (R 4) 8 fs, iaC g (R 5) 20 (nF ps), iaC g (R 6) 20 (nF sp), iaC g (R 7) 128 (clF G0 G1), iaC g (R 17) 64 gr, iaC g (R 18) 8 r, iaC g (R 19) 8 x, iaC g (R 20) 64 p, zaC g (R 21) 64 m]) rfl ?_
        rw [cls_chunk]
        exact me_ly l g R nS nP ss pt th fb fw fh fs b w h bc ps sp G0 G1 gr r x p m hS hP H Q C E F0 s hs10 hfin r1 w1 s1 z1 o1 d1 _ _
      omega
    | succ nn ih =>
      intro k  hi 
      refine sw_iload_n (pc := 57) C d_Md_encode_57 rfl rfl ?_
      refine sw_aload_n (pc := 58) C d_Md_encode_58 rfl rfl ?_
      refine sw_get (pc := 59) C inMd 0 rfl rfl 7 (by decide) t_579 rfl rfl d_Md_encode_59 ?_
      refine sw_topi (z := nI nP) rfl ?_
      refine sw_icmp_geN (pc := 62) C 91 (by omega) (by omega) d_Md_encode_62 (by decide) (fun hx => ?_) (fun hx => ?_)
      · skip
        omega
      have hl2 := plBytes_len ps sp k
      refine sw_aload_n (pc := 65) C d_Md_encode_65 rfl rfl ?_
      refine sw_aload_n (pc := 66) C d_Md_encode_66 rfl rfl ?_
      refine sw_get (pc := 67) C inMd 0 rfl rfl 5 (by decide) t_577 rfl rfl d_Md_encode_67 ?_
      refine sw_iload_n (pc := 70) C d_Md_encode_70 rfl rfl ?_
      refine sw_ialdN (pc := 71) C 9 k rfl rfl (by omega) (by decide) d_Md_encode_71 ?_
      refine sw_topi (z := nI (ps k)) rfl ?_
      refine sw_callVP (pc := 72) C (c_Md_put l g R nS nP ss pt th r1 w1 s1 ((shAll b w h bc nS) ++ [2, 0, 0] ++ plBytes ps sp k) F0 (ps k) (by simp only [List.length_append, hl2]; simp; omega)) sv_Md_put t_695 rfl rfl rfl [0, 4] rfl rfl rfl rfl (Nat.le_of_ble_eq_true rfl) (Nat.le_of_ble_eq_true rfl) (Nat.le_of_ble_eq_true rfl) (Nat.le_of_ble_eq_true rfl) (Nat.le_of_ble_eq_true rfl) d_Md_encode_72 (fun v w1 hp => ?_)
      obtain ⟨rfl, rfl⟩ := hp
      refine ⟨rfl, ?_⟩
      refine sw_ws (ws' := [mdC R nS nP ((((shAll b w h bc nS) ++ [2, 0, 0] ++ plBytes ps sp k) ++ [ps k]).length) ss pt th r1 w1 s1, iaC g (R 14) 48 z1, iaC g (R 15) 48 o1, iaC g (R 16) 4400 d1, iaC g (R 8) 1200 (dcF (((shAll b w h bc nS) ++ [2, 0, 0] ++ plBytes ps sp k) ++ [ps k]) F0), laC g (R 1) 8 fb, iaC g (R 2) 8 fw, iaC g (R 3) 8 fh, iaC g (R 4) 8 fs, iaC g (R 5) 20 (nF ps), iaC g (R 6) 20 (nF sp), iaC g (R 7) 128 (clF G0 G1), iaC g (R 17) 64 gr, iaC g (R 18) 8 r, iaC g (R 19) 8 x, iaC g (R 20) 64 p, zaC g (R 21) 64 m]) rfl ?_
      refine sw_aload_n (pc := 75) C d_Md_encode_75 rfl rfl ?_
      refine sw_aload_n (pc := 76) C d_Md_encode_76 rfl rfl ?_
      refine sw_get (pc := 77) C inMd 0 rfl rfl 6 (by decide) t_578 rfl rfl d_Md_encode_77 ?_
      refine sw_iload_n (pc := 80) C d_Md_encode_80 rfl rfl ?_
      refine sw_ialdN (pc := 81) C 10 k rfl rfl (by omega) (by decide) d_Md_encode_81 ?_
      refine sw_topi (z := nI (sp k)) rfl ?_
      refine sw_callVP (pc := 82) C (c_Md_put l g R nS nP ss pt th r1 w1 s1 (((shAll b w h bc nS) ++ [2, 0, 0] ++ plBytes ps sp k) ++ [ps k]) F0 (sp k) (by simp only [List.length_append, hl2]; simp; omega)) sv_Md_put t_695 rfl rfl rfl [0, 4] rfl rfl rfl rfl (Nat.le_of_ble_eq_true rfl) (Nat.le_of_ble_eq_true rfl) (Nat.le_of_ble_eq_true rfl) (Nat.le_of_ble_eq_true rfl) (Nat.le_of_ble_eq_true rfl) d_Md_encode_82 (fun v w1 hp => ?_)
      obtain ⟨rfl, rfl⟩ := hp
      refine ⟨rfl, ?_⟩
      refine sw_ws (ws' := [mdC R nS nP (((shAll b w h bc nS) ++ [2, 0, 0] ++ plBytes ps sp (k + 1)).length) ss pt th r1 w1 s1, iaC g (R 14) 48 z1, iaC g (R 15) 48 o1, iaC g (R 16) 4400 d1, iaC g (R 8) 1200 (dcF ((shAll b w h bc nS) ++ [2, 0, 0] ++ plBytes ps sp (k + 1)) F0), laC g (R 1) 8 fb, iaC g (R 2) 8 fw, iaC g (R 3) 8 fh, iaC g (R 4) 8 fs, iaC g (R 5) 20 (nF ps), iaC g (R 6) 20 (nF sp), iaC g (R 7) 128 (clF G0 G1), iaC g (R 17) 64 gr, iaC g (R 18) 8 r, iaC g (R 19) 8 x, iaC g (R 20) 64 p, zaC g (R 21) 64 m]) (by rw [show ((shAll b w h bc nS) ++ [2, 0, 0] ++ plBytes ps sp k) ++ [ps k] ++ [sp k] = ((shAll b w h bc nS) ++ [2, 0, 0] ++ plBytes ps sp (k + 1)) from by simp [plBytes]]; rfl) ?_
      refine sw_iincN (pc := 85) C 1 d_Md_encode_85 rfl (by decide) (by decide) rfl ?_
      refine sw_goto (pc := 88) C 57 d_Md_encode_88 (by decide) ?_
      exact ih (k + 1) (by omega)
  refine sw_istore_n (pc := 54) C d_Md_encode_54 rfl (by decide) rfl ?_
  refine sw_iconst (pc := 55) C (nI 0) d_Md_encode_55 (by decide) ?_
  refine sw_istore_n (pc := 56) C d_Md_encode_56 rfl (by decide) rfl ?_
  exact key nP 0 (by omega)
set_option maxRecDepth 100000 in
set_option maxHeartbeats 4000000 in
theorem me_sh {X : Cz} {post : Option Value → va_W → Prop} (l : Launch) (g : Gl) (R : Nat → Nat) (nS nP ss pt : Nat) (th : Bool) (fb : Nat → Int64) (fw fh fs : Nat → Int32) (b w h bc ps sp : Nat → Nat) (G0 G1 : Nat → Nat → Int32) (gr r x p m : Nat → Int32) (hS : nS ≤ 8) (hP : nP ≤ 20) (H : drOK nS b w h bc) (Q : drQ nS fb fw fh fs b w h bc) (C : Cx X l g y_Md_encode b_Md_encode 4 (some .int) (rmD 4)) (E : Ce X g post (rmD 4)) (F0 : Nat → Int32) (s : Nat) (hs10 : s ≤ 10) (hfin : ∀ (r1 : Bool) (w1 s1 : Nat) (z1 o1 d1 g1 r2 x1 p1 m1 : Nat → Int32), post (some (.int (nI (docB b w h bc nS ps sp nP s G0 G1).length))) ([mdC R nS nP ((docB b w h bc nS ps sp nP s G0 G1).length) ss pt th r1 w1 s1, iaC g (R 14) 48 z1, iaC g (R 15) 48 o1, iaC g (R 16) 4400 d1, iaC g (R 8) 1200 (dcF (docB b w h bc nS ps sp nP s G0 G1) F0), laC g (R 1) 8 fb, iaC g (R 2) 8 fw, iaC g (R 3) 8 fh, iaC g (R 4) 8 fs, iaC g (R 5) 20 (nF ps), iaC g (R 6) 20 (nF sp), iaC g (R 7) 128 (clF G0 G1), iaC g (R 17) 64 g1, iaC g (R 18) 8 r2, iaC g (R 19) 8 x1, iaC g (R 20) 64 p1, zaC g (R 21) 64 m1])) (r1 : Bool) (w1 s1 : Nat) (z1 o1 d1 : Nat → Int32) : SW X g 4 0 0 ([mdC R nS nP ((shAll b w h bc 0).length) ss pt th r1 w1 s1, iaC g (R 14) 48 z1, iaC g (R 15) 48 o1, iaC g (R 16) 4400 d1, iaC g (R 8) 1200 (dcF (shAll b w h bc 0) F0), laC g (R 1) 8 fb, iaC g (R 2) 8 fw, iaC g (R 3) 8 fh, iaC g (R 4) 8 fs, iaC g (R 5) 20 (nF ps), iaC g (R 6) 20 (nF sp), iaC g (R 7) 128 (clF G0 G1), iaC g (R 17) 64 gr, iaC g (R 18) 8 r, iaC g (R 19) 8 x, iaC g (R 20) 64 p, zaC g (R 21) 64 m]) 30 [some (.ref (R 0)), some (.int (nI s)), some (.int (nI 0)), none] [] := by
  have shp : ∀ (nn k : Nat) (r1 : Bool) (w1 s1 : Nat) (z1 o1 d1 : Nat → Int32), k + nn = nS → SW X g 4 0 0 ([mdC R nS nP ((shAll b w h bc k).length) ss pt th r1 w1 s1, iaC g (R 14) 48 z1, iaC g (R 15) 48 o1, iaC g (R 16) 4400 d1, iaC g (R 8) 1200 (dcF (shAll b w h bc k) F0), laC g (R 1) 8 fb, iaC g (R 2) 8 fw, iaC g (R 3) 8 fh, iaC g (R 4) 8 fs, iaC g (R 5) 20 (nF ps), iaC g (R 6) 20 (nF sp), iaC g (R 7) 128 (clF G0 G1), iaC g (R 17) 64 gr, iaC g (R 18) 8 r, iaC g (R 19) 8 x, iaC g (R 20) 64 p, zaC g (R 21) 64 m]) 30 [some (.ref (R 0)), some (.int (nI s)), some (.int (nI k)), none] [] := by
    intro nn
    induction nn with
    | zero =>
      intro k r1 w1 s1 z1 o1 d1 hi 
      refine sw_iload_n (pc := 30) C d_Md_encode_30 rfl rfl ?_
      refine sw_aload_n (pc := 31) C d_Md_encode_31 rfl rfl ?_
      refine sw_get (pc := 32) C inMd 0 rfl rfl 4 (by decide) t_576 rfl rfl d_Md_encode_32 ?_
      refine sw_topi (z := nI nS) rfl ?_
      refine sw_icmp_geN (pc := 35) C 49 (by omega) (by omega) d_Md_encode_35 (by decide) (fun hx => ?_) (fun hx => ?_)
      · skip
        have ek : nS = k := by omega
        subst ek
        exact me_pl l g R nS nP ss pt th fb fw fh fs b w h bc ps sp G0 G1 gr r x p m hS hP H Q C E F0 s hs10 hfin r1 w1 s1 z1 o1 d1 _
      omega
    | succ nn ih =>
      intro k r1 w1 s1 z1 o1 d1 hi 
      refine sw_iload_n (pc := 30) C d_Md_encode_30 rfl rfl ?_
      refine sw_aload_n (pc := 31) C d_Md_encode_31 rfl rfl ?_
      refine sw_get (pc := 32) C inMd 0 rfl rfl 4 (by decide) t_576 rfl rfl d_Md_encode_32 ?_
      refine sw_topi (z := nI nS) rfl ?_
      refine sw_icmp_geN (pc := 35) C 49 (by omega) (by omega) d_Md_encode_35 (by decide) (fun hx => ?_) (fun hx => ?_)
      · skip
        omega
      have hl1 := shAll_len H k (by omega)
      refine sw_aload_n (pc := 38) C d_Md_encode_38 rfl rfl ?_
      refine sw_iload_n (pc := 39) C d_Md_encode_39 rfl rfl ?_
      refine sw_ws (ws' := [mdC R nS nP ((shAll b w h bc k).length) ss pt th r1 w1 s1, iaC g (R 14) 48 z1, iaC g (R 15) 48 o1, iaC g (R 16) 4400 d1, iaC g (R 8) 1200 (dcF (shAll b w h bc k) F0), laC g (R 1) 8 fb, iaC g (R 2) 8 fw, iaC g (R 3) 8 fh, iaC g (R 4) 8 fs] ++ [iaC g (R 5) 20 (nF ps), iaC g (R 6) 20 (nF sp), iaC g (R 7) 128 (clF G0 G1), iaC g (R 17) 64 gr, iaC g (R 18) 8 r, iaC g (R 19) 8 x, iaC g (R 20) 64 p, zaC g (R 21) 64 m]) rfl ?_
      refine sw_callVF (pc := 40) C (c_Md_putShape l g R nS nP ss pt th r1 w1 s1 (shAll b w h bc k) F0 z1 o1 d1 fb fw fh fs nS b w h bc hS H Q k (by omega) (by omega)) sv_Md_putShape t_699 rfl rfl rfl rfl rfl (Nat.le_of_ble_eq_true rfl) (Nat.le_of_ble_eq_true rfl) (Nat.le_of_ble_eq_true rfl) (Nat.le_of_ble_eq_true rfl) (Nat.le_of_ble_eq_true rfl) d_Md_encode_40 (fun v w1 hpp => ?_)
      obtain ⟨rfl, r3, w3, s3, z3, o3, d3, rfl⟩ := hpp
      refine ⟨rfl, ?_⟩
      refine sw_ws (ws' := [mdC R nS nP ((shAll b w h bc (k + 1)).length) ss pt th r3 w3 s3, iaC g (R 14) 48 z3, iaC g (R 15) 48 o3, iaC g (R 16) 4400 d3, iaC g (R 8) 1200 (dcF (shAll b w h bc (k + 1)) F0), laC g (R 1) 8 fb, iaC g (R 2) 8 fw, iaC g (R 3) 8 fh, iaC g (R 4) 8 fs, iaC g (R 5) 20 (nF ps), iaC g (R 6) 20 (nF sp), iaC g (R 7) 128 (clF G0 G1), iaC g (R 17) 64 gr, iaC g (R 18) 8 r, iaC g (R 19) 8 x, iaC g (R 20) 64 p, zaC g (R 21) 64 m]) rfl ?_
      refine sw_iincN (pc := 43) C 1 d_Md_encode_43 rfl (by decide) (by decide) rfl ?_
      refine sw_goto (pc := 46) C 30 d_Md_encode_46 (by decide) ?_
      exact ih (k + 1) r3 w3 s3 z3 o3 d3 (by omega)
  exact shp nS 0 r1 w1 s1 z1 o1 d1 (by omega)
set_option maxRecDepth 100000 in
set_option maxHeartbeats 4000000 in
theorem c_Md_encode (l : Launch) (g : Gl) (R : Nat → Nat) (nS nP ss pt : Nat) (th rd : Bool) (wd sc : Nat) (l0 : List Nat) (f z o d : Nat → Int32) (fb : Nat → Int64) (fw fh fs : Nat → Int32) (b w h bc ps sp : Nat → Nat) (G0 G1 : Nat → Nat → Int32) (gr r x p m : Nat → Int32) (hS : nS ≤ 8) (hP : nP ≤ 20) (H : drOK nS b w h bc) (Q : drQ nS fb fw fh fs b w h bc) (sl : Int32) : Ct l g y_Md_encode b_Md_encode 4 (some .int) (rmD 4) [.ref (R 0), .int sl] ([mdC R nS nP l0.length ss pt th rd wd sc, iaC g (R 14) 48 z, iaC g (R 15) 48 o, iaC g (R 16) 4400 d, iaC g (R 8) 1200 (dcF l0 f), laC g (R 1) 8 fb, iaC g (R 2) 8 fw, iaC g (R 3) 8 fh, iaC g (R 4) 8 fs, iaC g (R 5) 20 (nF ps), iaC g (R 6) 20 (nF sp), iaC g (R 7) 128 (clF G0 G1), iaC g (R 17) 64 gr, iaC g (R 18) 8 r, iaC g (R 19) 8 x, iaC g (R 20) 64 p, zaC g (R 21) 64 m]) (fun u q => (inR 11 sl = false ∧ u = some (.int (-1)) ∧ q = [mdC R nS nP l0.length ss pt th rd wd sc, iaC g (R 14) 48 z, iaC g (R 15) 48 o, iaC g (R 16) 4400 d, iaC g (R 8) 1200 (dcF l0 f), laC g (R 1) 8 fb, iaC g (R 2) 8 fw, iaC g (R 3) 8 fh, iaC g (R 4) 8 fs, iaC g (R 5) 20 (nF ps), iaC g (R 6) 20 (nF sp), iaC g (R 7) 128 (clF G0 G1), iaC g (R 17) 64 gr, iaC g (R 18) 8 r, iaC g (R 19) 8 x, iaC g (R 20) 64 p, zaC g (R 21) 64 m]) ∨ ∃ s : Nat, s ≤ 10 ∧ sl = nI s ∧ u = some (.int (nI (docB b w h bc nS ps sp nP s G0 G1).length)) ∧ ∃ (r1 : Bool) (w1 s1 : Nat) (z1 o1 d1 g1 r2 x1 p1 m1 f1 : Nat → Int32), q = [mdC R nS nP ((docB b w h bc nS ps sp nP s G0 G1).length) ss pt th r1 w1 s1, iaC g (R 14) 48 z1, iaC g (R 15) 48 o1, iaC g (R 16) 4400 d1, iaC g (R 8) 1200 (dcF (docB b w h bc nS ps sp nP s G0 G1) f1), laC g (R 1) 8 fb, iaC g (R 2) 8 fw, iaC g (R 3) 8 fh, iaC g (R 4) 8 fs, iaC g (R 5) 20 (nF ps), iaC g (R 6) 20 (nF sp), iaC g (R 7) 128 (clF G0 G1), iaC g (R 17) 64 g1, iaC g (R 18) 8 r2, iaC g (R 19) 8 x1, iaC g (R 20) 64 p1, zaC g (R 21) 64 m1]) := by
  refine ct_of [some (.ref (R 0)), some (.int sl), none, none] (by decide) (Nat.le_of_ble_eq_true rfl) rfl ?_
  intro X C E
  refine sw_iload_n (pc := 0) C d_Md_encode_0 rfl rfl ?_
  refine sw_bipush (pc := 1) C (nI 10) d_Md_encode_1 (by decide) ?_
  refine sw_callSR (pc := 3) C (c_Md_out l g (sl) (nI 10)) ss_Md_outside t_669 [] rfl rfl rfl rfl (Nat.le_of_ble_eq_true rfl) (Nat.le_of_ble_eq_true rfl) (Nat.le_of_ble_eq_true rfl) (Nat.le_of_ble_eq_true rfl) (Nat.le_of_ble_eq_true rfl) d_Md_encode_3 (fun v w1 hp => ?_)
  obtain ⟨rfl, rfl⟩ := hp
  refine ⟨rfl, ?_⟩
  refine sw_topi (z := bI (!(inR (10 + 1) (sl)))) (by rw [outB_n _ (by omega)]) ?_
  refine sw_if_eqB (pc := 6) C 11 d_Md_encode_6 (by decide) (fun h1 => ?_) (fun h1 => ?_)
  · skip
    obtain ⟨s, hs, rfl⟩ := inR_of (by decide) (nR_f h1)
    have hs10 : s ≤ 10 := by omega
    refine sw_aload_n (pc := 11) C d_Md_encode_11 rfl rfl ?_
    refine sw_iconst (pc := 12) C (nI 0) d_Md_encode_12 (by decide) ?_
    refine sw_put (pc := 13) C inMd 0 rfl rfl 10 (by decide) tyMd okMd nmMd t_582 rfl rfl (ty := .int) (by decide +kernel) rfl rfl (Nat.le_of_ble_eq_true rfl) d_Md_encode_13 ?_
    refine sw_ws (ws' := [mdC R nS nP (([] : List Nat).length) ss pt th rd wd sc, iaC g (R 14) 48 z, iaC g (R 15) 48 o, iaC g (R 16) 4400 d, iaC g (R 8) 1200 (dcF ([] : List Nat) (dcF l0 f)), laC g (R 1) 8 fb, iaC g (R 2) 8 fw, iaC g (R 3) 8 fh, iaC g (R 4) 8 fs, iaC g (R 5) 20 (nF ps), iaC g (R 6) 20 (nF sp), iaC g (R 7) 128 (clF G0 G1), iaC g (R 17) 64 gr, iaC g (R 18) 8 r, iaC g (R 19) 8 x, iaC g (R 20) 64 p, zaC g (R 21) 64 m]) (by rw [dcF_nil]; rfl) ?_
    refine sw_aload_n (pc := 16) C d_Md_encode_16 rfl rfl ?_
    refine sw_bipush (pc := 17) C (nI 80) d_Md_encode_17 (by decide) ?_
    refine sw_callVP (pc := 19) C (c_Md_put l g R nS nP ss pt th rd wd sc [] (dcF l0 f) 80 (by decide)) sv_Md_put t_695 rfl rfl rfl [0, 4] rfl rfl rfl rfl (Nat.le_of_ble_eq_true rfl) (Nat.le_of_ble_eq_true rfl) (Nat.le_of_ble_eq_true rfl) (Nat.le_of_ble_eq_true rfl) (Nat.le_of_ble_eq_true rfl) d_Md_encode_19 (fun v w1 hp => ?_)
    obtain ⟨rfl, rfl⟩ := hp
    refine ⟨rfl, ?_⟩
    refine sw_ws (ws' := [mdC R nS nP (([80]).length) ss pt th rd wd sc, iaC g (R 14) 48 z, iaC g (R 15) 48 o, iaC g (R 16) 4400 d, iaC g (R 8) 1200 (dcF ([80]) (dcF l0 f)), laC g (R 1) 8 fb, iaC g (R 2) 8 fw, iaC g (R 3) 8 fh, iaC g (R 4) 8 fs, iaC g (R 5) 20 (nF ps), iaC g (R 6) 20 (nF sp), iaC g (R 7) 128 (clF G0 G1), iaC g (R 17) 64 gr, iaC g (R 18) 8 r, iaC g (R 19) 8 x, iaC g (R 20) 64 p, zaC g (R 21) 64 m]) rfl ?_
    refine sw_aload_n (pc := 22) C d_Md_encode_22 rfl rfl ?_
    refine sw_bipush (pc := 23) C (nI 71) d_Md_encode_23 (by decide) ?_
    refine sw_callVP (pc := 25) C (c_Md_put l g R nS nP ss pt th rd wd sc [80] (dcF l0 f) 71 (by decide)) sv_Md_put t_695 rfl rfl rfl [0, 4] rfl rfl rfl rfl (Nat.le_of_ble_eq_true rfl) (Nat.le_of_ble_eq_true rfl) (Nat.le_of_ble_eq_true rfl) (Nat.le_of_ble_eq_true rfl) (Nat.le_of_ble_eq_true rfl) d_Md_encode_25 (fun v w1 hp => ?_)
    obtain ⟨rfl, rfl⟩ := hp
    refine ⟨rfl, ?_⟩
    refine sw_ws (ws' := [mdC R nS nP ((shAll b w h bc 0).length) ss pt th rd wd sc, iaC g (R 14) 48 z, iaC g (R 15) 48 o, iaC g (R 16) 4400 d, iaC g (R 8) 1200 (dcF (shAll b w h bc 0) (dcF l0 f)), laC g (R 1) 8 fb, iaC g (R 2) 8 fw, iaC g (R 3) 8 fh, iaC g (R 4) 8 fs, iaC g (R 5) 20 (nF ps), iaC g (R 6) 20 (nF sp), iaC g (R 7) 128 (clF G0 G1), iaC g (R 17) 64 gr, iaC g (R 18) 8 r, iaC g (R 19) 8 x, iaC g (R 20) 64 p, zaC g (R 21) 64 m]) rfl ?_
    refine sw_iconst (pc := 28) C (nI 0) d_Md_encode_28 (by decide) ?_
    refine sw_istore_n (pc := 29) C d_Md_encode_29 rfl (by decide) rfl ?_
    exact me_sh l g R nS nP ss pt th fb fw fh fs b w h bc ps sp G0 G1 gr r x p m hS hP H Q C E (dcF l0 f) s hs10 (fun r1 w1 s1 z1 o1 d1 g1 r2 x1 p1 m1 => Or.inr ⟨s, hs10, rfl, rfl, r1, w1, s1, z1, o1, d1, g1, r2, x1, p1, m1, (dcF l0 f), rfl⟩) rd wd sc z o d
  refine sw_iconst (pc := 9) C (-1) d_Md_encode_9 (by decide) ?_
  exact sw_iret (pc := 10) C E rfl (Nat.le_of_ble_eq_true rfl) (Nat.le_of_ble_eq_true rfl) d_Md_encode_10 (Or.inl ⟨nR_t h1, rfl, rfl⟩)
