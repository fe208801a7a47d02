theorem FL_le {l : List Nat} {k : Nat} (h : FL l k 0) : hd l (k + 1) ≤ l.length := by
  show hd l k + 3 + lnA l k ≤ l.length
  rcases h with ⟨_, h⟩ | ⟨_, _, h⟩ | ⟨h, _⟩ | ⟨h, _⟩ | ⟨h, _⟩ <;> omega
theorem FL_16 {l : List Nat} (h : FL l 16 0) : False := by
  rcases h with ⟨_, h⟩ | ⟨_, _, h⟩ | ⟨_, h, _⟩ | ⟨_, h, _⟩ | ⟨_, h, _⟩ <;> omega
set_option maxRecDepth 100000 in
set_option maxHeartbeats 4000000 in
theorem c_read (l : Launch) (g : Gl) (d a z o ob r : Nat) (l0 : List Nat) (hl : bytesOK l0) (A : Nat → Nat) (r0 : Nat) (i1 i2 i3 i4 wd : Int32) (f hq : Nat → Int32) (nS nP : Nat) (b w h ps sp : Nat → Nat) (bs ce0 co0 cd0 li0 : Nat → Int32) (cm0 : Bool) (ce1 co1 cd1 li1 : Nat → Int32) (cm1 : Bool) (H : ∀ k, k < 8 → b k < 2 ^ 64 ∧ w k ≤ 8 ∧ h k ≤ 8) : Ct l g y_Dr_read b_Dr_read 9 (some .int) (rmD 5) [.ref d, .ref ob, .ref (A 0)] (wDr g d a z o ob r r0 i1 i2 i3 i4 wd f hq l0 ++ wPg g A nS nP (nF ps) (nF sp) ce0 co0 cd0 li0 cm0 ce1 co1 cd1 li1 cm1 (fun k => shV (b k) (w k) (h k) (bs k))) (rdPost g d a z o ob r l0 A) := by
  refine ct_of [some (.ref d), some (.ref ob), some (.ref (A 0)), none, none, none, none, none, none] (by decide) (Nat.le_of_ble_eq_true rfl) rfl ?_
  intro X C E
  have hl1 := hl.1
  refine sw_aload_n (pc := 0) C d_Dr_read_0 rfl rfl ?_
  refine sw_callVP (pc := 1) C (c_Pg_empty l g A nS nP ce0 co0 cd0 li0 ce1 co1 cd1 li1 cm0 cm1) sv_Pg_makeEmpty t_477 rfl rfl rfl [6, 10, 11, 12, 13, 14, 15, 16, 17, 18, 19] rfl rfl rfl rfl (Nat.le_of_ble_eq_true rfl) (Nat.le_of_ble_eq_true rfl) (Nat.le_of_ble_eq_true rfl) (Nat.le_of_ble_eq_true rfl) (Nat.le_of_ble_eq_true rfl) d_Dr_read_1 (fun v w1 hp => ?_)
  obtain ⟨rfl, rfl⟩ := hp
  refine ⟨rfl, ?_⟩
  refine sw_ws (ws' := wDr g d a z o ob r r0 i1 i2 i3 i4 wd f hq l0 ++ wPg g A 0 0 (nF ps) (nF sp) (fun _ => nI 0) (fun _ => nI 0) cd0 li0 false (fun _ => nI 0) (fun _ => nI 0) cd1 li1 false (fun k => shV (b k) (w k) (h k) (bs k))) rfl ?_
  have O0 : pgOK 0 0 b w h ps sp := ⟨by omega, by omega, H, fun i hi => absurd hi (Nat.not_lt_zero _)⟩
  refine sw_aload_n (pc := 4) C d_Dr_read_4 rfl rfl ?_
  refine sw_iconst (pc := 5) C (nI 0) d_Dr_read_5 (by decide) ?_
  refine sw_callVR (pc := 6) C (c_Oct_at l g ob r l0 hl.1 (nI 0)) sv_Oct_at t_478 rfl rfl rfl [1, 5] rfl rfl rfl rfl (Nat.le_of_ble_eq_true rfl) (Nat.le_of_ble_eq_true rfl) (Nat.le_of_ble_eq_true rfl) (Nat.le_of_ble_eq_true rfl) (Nat.le_of_ble_eq_true rfl) d_Dr_read_6 (fun v w1 hp => ?_)
  obtain ⟨rfl, rfl⟩ := hp
  refine ⟨rfl, ?_⟩
  refine sw_bipush (pc := 9) C (nI 80) d_Dr_read_9 (by decide) ?_
  refine sw_icmp_ne (pc := 11) C 24 d_Dr_read_11 (by decide) (fun g1 => ?_) (fun g1 => ?_)
  · skip
    refine sw_iconst (pc := 24) C (nI 1) d_Dr_read_24 (by decide) ?_
    exact sw_iret (pc := 25) C E rfl (Nat.le_of_ble_eq_true rfl) (Nat.le_of_ble_eq_true rfl) d_Dr_read_25 ⟨1, 0, rfl, Or.inl ⟨fun q => g1 ((octAt_is hl (by decide) (by decide) (by decide)).mpr q.1), rfl, rfl⟩, r0, i1, i2, i3, i4, wd, f, hq, 0, 0, b, w, h, ps, sp, bs, _, _, cd0, li0, false, _, _, cd1, li1, false, O0, fun e => absurd e (by decide), rfl⟩
  refine sw_aload_n (pc := 14) C d_Dr_read_14 rfl rfl ?_
  refine sw_iconst (pc := 15) C (nI 1) d_Dr_read_15 (by decide) ?_
  refine sw_callVR (pc := 16) C (c_Oct_at l g ob r l0 hl.1 (nI 1)) sv_Oct_at t_478 rfl rfl rfl [1, 5] rfl rfl rfl rfl (Nat.le_of_ble_eq_true rfl) (Nat.le_of_ble_eq_true rfl) (Nat.le_of_ble_eq_true rfl) (Nat.le_of_ble_eq_true rfl) (Nat.le_of_ble_eq_true rfl) d_Dr_read_16 (fun v w1 hp => ?_)
  obtain ⟨rfl, rfl⟩ := hp
  refine ⟨rfl, ?_⟩
  refine sw_bipush (pc := 19) C (nI 71) d_Dr_read_19 (by decide) ?_
  refine sw_icmp_eq (pc := 21) C 26 d_Dr_read_21 (by decide) (fun g2 => ?_) (fun g2 => ?_)
  · skip
    have hst : stG l0 := ⟨(octAt_is hl (by decide) (by decide) (by decide)).mp g1, (octAt_is hl (by decide) (by decide) (by decide)).mp g2⟩
    have h2 : 2 ≤ l0.length := by
      by_cases c : 2 ≤ l0.length
      · exact c
      · have := hst.2
        rw [getD_ge (by omega)] at this
        omega
    refine sw_iconst (pc := 26) C (nI 0) d_Dr_read_26 (by decide) ?_
    refine sw_istore_n (pc := 27) C d_Dr_read_27 rfl (by decide) rfl ?_
    refine sw_iconst (pc := 28) C (nI 2) d_Dr_read_28 (by decide) ?_
    refine sw_istore (pc := 29) C d_Dr_read_29 (by decide) rfl ?_
    refine sw_iconst (pc := 31) C (nI 0) d_Dr_read_31 (by decide) ?_
    refine sw_istore (pc := 32) C d_Dr_read_32 (by decide) rfl ?_
    have key : ∀ (e K : Nat), K + e = 17 → (∀ j, j < K → hd l0 j < l0.length ∧ FL l0 j 0) → hd l0 K ≤ l0.length → ∀ (r0 : Nat) (i1 i2 i3 i4 wd : Int32) (f hq : Nat → Int32) (nS nP : Nat) (b w h ps sp : Nat → Nat) (bs ce0 co0 cd0 li0 : Nat → Int32) (cm0 : Bool) (ce1 co1 cd1 li1 : Nat → Int32) (cm1 : Bool) (o6 o7 o8 : Option Value), pgOK nS nP b w h ps sp → pgIs l0 K nS nP b w h ps sp ce0 co0 cm0 ce1 co1 cm1 → SW X g 9 0 0 (wDr g d a z o ob r r0 i1 i2 i3 i4 wd f hq l0 ++ wPg g A nS nP (nF ps) (nF sp) ce0 co0 cd0 li0 cm0 ce1 co1 cd1 li1 cm1 (fun k => shV (b k) (w k) (h k) (bs k))) 34 [some (.ref d), some (.ref ob), some (.ref (A 0)), some (.int (nI 0)), some (.int (nI (hd l0 K))), some (.int (nI K)), o6, o7, o8] [] := by
      intro e
      induction e with
      | zero =>
        intro K hK hall hhd r0 i1 i2 i3 i4 wd f hq nS nP b w h ps sp bs ce0 co0 cd0 li0 cm0 ce1 co1 cd1 li1 cm1 o6 o7 o8 O I
        exact absurd (hall 16 (by omega)).2 (fun q => FL_16 q)
      | succ e ih =>
        intro K hK hall hhd r0 i1 i2 i3 i4 wd f hq nS nP b w h ps sp bs ce0 co0 cd0 li0 cm0 ce1 co1 cd1 li1 cm1 o6 o7 o8 O I
        have ihK : hd l0 K < l0.length → rdIH X g d a z o ob r l0 A K := fun hlt hF r0 i1 i2 i3 i4 wd f hq nS nP b w h ps sp bs ce0 co0 cd0 li0 cm0 ce1 co1 cd1 li1 cm1 o6 o7 o8 O I => ih (K + 1) (by omega) (fun j hj => by
          by_cases c : j = K
          · rw [c]; exact ⟨hlt, hF⟩
          · exact hall j (by omega)) (FL_le hF) r0 i1 i2 i3 i4 wd f hq nS nP b w h ps sp bs ce0 co0 cd0 li0 cm0 ce1 co1 cd1 li1 cm1 o6 o7 o8 O I
        refine sw_iload (pc := 34) C d_Dr_read_34 rfl ?_
        refine sw_bipush (pc := 36) C (nI 16) d_Dr_read_36 (by decide) ?_
        refine sw_icmp_gtN (pc := 38) C 191 (by omega) (by omega) d_Dr_read_38 (by decide) (fun g3 => ?_) (fun g3 => ?_)
        · skip
          omega
        refine sw_iload (pc := 41) C d_Dr_read_41 rfl ?_
        refine sw_aload_n (pc := 43) C d_Dr_read_43 rfl rfl ?_
        refine sw_get (pc := 44) C inOct 1 rfl rfl 1 (by decide) t_33 rfl rfl d_Dr_read_44 ?_
        refine sw_topi (z := nI l0.length) rfl ?_
        refine sw_icmp_geN (pc := 47) C 191 (by omega) (by omega) d_Dr_read_47 (by decide) (fun g4 => ?_) (fun g4 => ?_)
        · skip
          refine sw_iload_n (pc := 191) C d_Dr_read_191 rfl rfl ?_
          exact sw_iret (pc := 192) C E rfl (Nat.le_of_ble_eq_true rfl) (Nat.le_of_ble_eq_true rfl) d_Dr_read_192 ⟨0, K, rfl, Or.inr ⟨hst, hall, Or.inl ⟨by omega, rfl⟩⟩, r0, i1, i2, i3, i4, wd, f, hq, nS, nP, b, w, h, ps, sp, bs, ce0, co0, cd0, li0, cm0, ce1, co1, cd1, li1, cm1, O, fun _ => I, rfl⟩
        have hlt : hd l0 K < l0.length := by omega
        refine sw_iload_n (pc := 50) C d_Dr_read_50 rfl rfl ?_
        refine sw_if_neN (pc := 51) C 191 (by omega) d_Dr_read_51 (by decide) (fun g5 => ?_) (fun g5 => ?_)
        · skip
          omega
        have hb := hl.2 (hd l0 K)
        refine sw_iload (pc := 54) C d_Dr_read_54 rfl ?_
        refine sw_iconst (pc := 56) C (nI 3) d_Dr_read_56 (by decide) ?_
        refine sw_iadd (pc := 57) C d_Dr_read_57 ?_
        refine sw_topi (z := nI ((hd l0 K) + 3)) (nI_add _ _) ?_
        refine sw_istore (pc := 58) C d_Dr_read_58 (by decide) rfl ?_
        refine sw_aload_n (pc := 60) C d_Dr_read_60 rfl rfl ?_
        refine sw_iload (pc := 61) C d_Dr_read_61 rfl ?_
        refine sw_callVR (pc := 63) C (c_Oct_size l g ob r l0 hl (hd l0 K) (by omega)) sv_Oct_chunkSize t_479 rfl rfl rfl [1, 5] rfl rfl rfl rfl (Nat.le_of_ble_eq_true rfl) (Nat.le_of_ble_eq_true rfl) (Nat.le_of_ble_eq_true rfl) (Nat.le_of_ble_eq_true rfl) (Nat.le_of_ble_eq_true rfl) d_Dr_read_63 (fun v w1 hp => ?_)
        obtain ⟨rfl, rfl⟩ := hp
        refine ⟨rfl, ?_⟩
        rcases szO_eq l0 K hlt with ⟨e1, e2⟩ | ⟨e1, e2⟩
        · skip
          refine sw_topi (z := (-1)) (by rw [e1]; rfl) ?_
          refine sw_istore (pc := 66) C d_Dr_read_66 (by decide) rfl ?_
          refine sw_aload_n (pc := 68) C d_Dr_read_68 rfl rfl ?_
          refine sw_iload (pc := 69) C d_Dr_read_69 rfl ?_
          refine sw_callVR (pc := 71) C (c_Oct_at l g ob r l0 hl.1 (nI (hd l0 K))) sv_Oct_at t_478 rfl rfl rfl [1, 5] rfl rfl rfl rfl (Nat.le_of_ble_eq_true rfl) (Nat.le_of_ble_eq_true rfl) (Nat.le_of_ble_eq_true rfl) (Nat.le_of_ble_eq_true rfl) (Nat.le_of_ble_eq_true rfl) d_Dr_read_71 (fun v w1 hp => ?_)
          obtain ⟨rfl, rfl⟩ := hp
          refine ⟨rfl, ?_⟩
          refine sw_topi (z := nI (kdA l0 K)) (octAt_in hlt hl.1) ?_
          refine sw_istore (pc := 74) C d_Dr_read_74 (by decide) rfl ?_
          refine sw_iload (pc := 76) C d_Dr_read_76 rfl ?_
          refine sw_iconst (pc := 78) C (-1) d_Dr_read_78 (by decide) ?_
          refine sw_icmp_ne (pc := 79) C 87 d_Dr_read_79 (by decide) (fun g6 => ?_) (fun g6 => ?_)
          · skip
            exact absurd rfl g6
          refine sw_iconst (pc := 82) C (nI 2) d_Dr_read_82 (by decide) ?_
          refine sw_istore_n (pc := 83) C d_Dr_read_83 rfl (by decide) rfl ?_
          refine sw_goto (pc := 84) C 178 d_Dr_read_84 (by decide) ?_
          refine sw_iload (pc := 178) C d_Dr_read_178 rfl ?_
          refine sw_iload (pc := 180) C d_Dr_read_180 rfl ?_
          refine sw_iadd (pc := 182) C d_Dr_read_182 ?_
          refine sw_istore (pc := 183) C d_Dr_read_183 (by decide) rfl ?_
          refine sw_iincN (pc := 185) C 1 d_Dr_read_185 rfl (by decide) (by decide) rfl ?_
          refine sw_goto (pc := 188) C 34 d_Dr_read_188 (by decide) ?_
          exact rd_fin l g d a z o ob r l0 hl A C E 2 K (by decide) (by decide) (K + 1) (by omega) _ (Or.inr ⟨hst, hall, Or.inr ⟨hlt, Or.inl ⟨e2, rfl⟩, by decide⟩⟩) r0 i1 i2 i3 i4 wd f hq nS nP b w h ps sp bs ce0 co0 cd0 li0 cm0 ce1 co1 cd1 li1 cm1 _ _ _ O
        refine sw_topi (z := nI (lnA l0 K)) (by rw [e1]; rfl) ?_
        refine sw_istore (pc := 66) C d_Dr_read_66 (by decide) rfl ?_
        refine sw_aload_n (pc := 68) C d_Dr_read_68 rfl rfl ?_
        refine sw_iload (pc := 69) C d_Dr_read_69 rfl ?_
        refine sw_callVR (pc := 71) C (c_Oct_at l g ob r l0 hl.1 (nI (hd l0 K))) sv_Oct_at t_478 rfl rfl rfl [1, 5] rfl rfl rfl rfl (Nat.le_of_ble_eq_true rfl) (Nat.le_of_ble_eq_true rfl) (Nat.le_of_ble_eq_true rfl) (Nat.le_of_ble_eq_true rfl) (Nat.le_of_ble_eq_true rfl) d_Dr_read_71 (fun v w1 hp => ?_)
        obtain ⟨rfl, rfl⟩ := hp
        refine ⟨rfl, ?_⟩
        refine sw_topi (z := nI (kdA l0 K)) (octAt_in hlt hl.1) ?_
        have hb2 : kdA l0 K < 256 := hb
        refine sw_istore (pc := 74) C d_Dr_read_74 (by decide) rfl ?_
        refine sw_iload (pc := 76) C d_Dr_read_76 rfl ?_
        refine sw_iconst (pc := 78) C (-1) d_Dr_read_78 (by decide) ?_
        refine sw_icmp_ne (pc := 79) C 87 d_Dr_read_79 (by decide) (fun g6 => ?_) (fun g6 => ?_)
        · skip
          refine sw_iload (pc := 87) C d_Dr_read_87 rfl ?_
          refine sw_iconst (pc := 89) C (nI 1) d_Dr_read_89 (by decide) ?_
          refine sw_icmp_ltN (pc := 90) C 106 (by omega) (by omega) d_Dr_read_90 (by decide) (fun g7 => ?_) (fun g7 => ?_)
          · skip
            refine sw_iconst (pc := 106) C (nI 3) d_Dr_read_106 (by decide) ?_
            refine sw_istore_n (pc := 107) C d_Dr_read_107 rfl (by decide) rfl ?_
            refine sw_goto (pc := 108) C 178 d_Dr_read_108 (by decide) ?_
            refine sw_iload (pc := 178) C d_Dr_read_178 rfl ?_
            refine sw_iload (pc := 180) C d_Dr_read_180 rfl ?_
            refine sw_iadd (pc := 182) C d_Dr_read_182 ?_
            refine sw_topi (z := nI (((hd l0 K) + 3) + (lnA l0 K))) (nI_add _ _) ?_
            refine sw_istore (pc := 183) C d_Dr_read_183 (by decide) rfl ?_
            refine sw_iincN (pc := 185) C 1 d_Dr_read_185 rfl (by decide) (by decide) rfl ?_
            refine sw_goto (pc := 188) C 34 d_Dr_read_188 (by decide) ?_
            exact rd_fin l g d a z o ob r l0 hl A C E 3 K (by decide) (by decide) (K + 1) (by omega) _ (Or.inr ⟨hst, hall, Or.inr ⟨hlt, Or.inr (Or.inl ⟨e2, fun q => absurd q (by omega), rfl⟩), by decide⟩⟩) r0 i1 i2 i3 i4 wd f hq nS nP b w h ps sp bs ce0 co0 cd0 li0 cm0 ce1 co1 cd1 li1 cm1 _ _ _ O
          refine sw_iload (pc := 93) C d_Dr_read_93 rfl ?_
          refine sw_iconst (pc := 95) C (nI 4) d_Dr_read_95 (by decide) ?_
          refine sw_icmp_gtN (pc := 96) C 106 (by omega) (by omega) d_Dr_read_96 (by decide) (fun g8 => ?_) (fun g8 => ?_)
          · skip
            refine sw_iconst (pc := 106) C (nI 3) d_Dr_read_106 (by decide) ?_
            refine sw_istore_n (pc := 107) C d_Dr_read_107 rfl (by decide) rfl ?_
            refine sw_goto (pc := 108) C 178 d_Dr_read_108 (by decide) ?_
            refine sw_iload (pc := 178) C d_Dr_read_178 rfl ?_
            refine sw_iload (pc := 180) C d_Dr_read_180 rfl ?_
            refine sw_iadd (pc := 182) C d_Dr_read_182 ?_
            refine sw_topi (z := nI (((hd l0 K) + 3) + (lnA l0 K))) (nI_add _ _) ?_
            refine sw_istore (pc := 183) C d_Dr_read_183 (by decide) rfl ?_
            refine sw_iincN (pc := 185) C 1 d_Dr_read_185 rfl (by decide) (by decide) rfl ?_
            refine sw_goto (pc := 188) C 34 d_Dr_read_188 (by decide) ?_
            exact rd_fin l g d a z o ob r l0 hl A C E 3 K (by decide) (by decide) (K + 1) (by omega) _ (Or.inr ⟨hst, hall, Or.inr ⟨hlt, Or.inr (Or.inl ⟨e2, fun q => absurd q (by omega), rfl⟩), by decide⟩⟩) r0 i1 i2 i3 i4 wd f hq nS nP b w h ps sp bs ce0 co0 cd0 li0 cm0 ce1 co1 cd1 li1 cm1 _ _ _ O
          refine sw_iload (pc := 99) C d_Dr_read_99 rfl ?_
          refine sw_bipush (pc := 101) C (nI 16) d_Dr_read_101 (by decide) ?_
          refine sw_icmp_neN (pc := 103) C 111 (by omega) (by omega) d_Dr_read_103 (by decide) (fun g9 => ?_) (fun g9 => ?_)
          · skip
            have hK2 : K < 16 := by omega
            refine sw_iload (pc := 111) C d_Dr_read_111 rfl ?_
            refine sw_iconst (pc := 113) C (nI 1) d_Dr_read_113 (by decide) ?_
            refine sw_icmp_neN (pc := 114) C 131 (by omega) (by omega) d_Dr_read_114 (by decide) (fun g10 => ?_) (fun g10 => ?_)
            · skip
              refine sw_iload (pc := 131) C d_Dr_read_131 rfl ?_
              refine sw_iconst (pc := 133) C (nI 2) d_Dr_read_133 (by decide) ?_
              refine sw_icmp_neN (pc := 134) C 151 (by omega) (by omega) d_Dr_read_134 (by decide) (fun g11 => ?_) (fun g11 => ?_)
              · skip
                by_cases g12 : kdA l0 K = 3
                · exact rd_l0 l g d a z o ob r l0 hl A C E K hst hall hlt e2 hK2 (ihK hlt) r0 i1 i2 i3 i4 wd f hq nS nP b w h ps sp bs ce0 co0 cd0 li0 cm0 ce1 co1 cd1 li1 cm1 O I g12
                · exact rd_l1 l g d a z o ob r l0 hl A C E K hst hall hlt e2 hK2 (ihK hlt) r0 i1 i2 i3 i4 wd f hq nS nP b w h ps sp bs ce0 co0 cd0 li0 cm0 ce1 co1 cd1 li1 cm1 O I (by omega)
              exact rd_pl l g d a z o ob r l0 hl A C E K hst hall hlt e2 hK2 (ihK hlt) r0 i1 i2 i3 i4 wd f hq nS nP b w h ps sp bs ce0 co0 cd0 li0 cm0 ce1 co1 cd1 li1 cm1 O I (by omega)
            exact rd_sh l g d a z o ob r l0 hl A C E K hst hall hlt e2 hK2 (ihK hlt) r0 i1 i2 i3 i4 wd f hq nS nP b w h ps sp bs ce0 co0 cd0 li0 cm0 ce1 co1 cd1 li1 cm1 O I (by omega)
          refine sw_iconst (pc := 106) C (nI 3) d_Dr_read_106 (by decide) ?_
          refine sw_istore_n (pc := 107) C d_Dr_read_107 rfl (by decide) rfl ?_
          refine sw_goto (pc := 108) C 178 d_Dr_read_108 (by decide) ?_
          refine sw_iload (pc := 178) C d_Dr_read_178 rfl ?_
          refine sw_iload (pc := 180) C d_Dr_read_180 rfl ?_
          refine sw_iadd (pc := 182) C d_Dr_read_182 ?_
          refine sw_topi (z := nI (((hd l0 K) + 3) + (lnA l0 K))) (nI_add _ _) ?_
          refine sw_istore (pc := 183) C d_Dr_read_183 (by decide) rfl ?_
          refine sw_iincN (pc := 185) C 1 d_Dr_read_185 rfl (by decide) (by decide) rfl ?_
          refine sw_goto (pc := 188) C 34 d_Dr_read_188 (by decide) ?_
          exact rd_fin l g d a z o ob r l0 hl A C E 3 K (by decide) (by decide) (K + 1) (by omega) _ (Or.inr ⟨hst, hall, Or.inr ⟨hlt, Or.inr (Or.inl ⟨e2, fun q => absurd q (by omega), rfl⟩), by decide⟩⟩) r0 i1 i2 i3 i4 wd f hq nS nP b w h ps sp bs ce0 co0 cd0 li0 cm0 ce1 co1 cd1 li1 cm1 _ _ _ O
        exact absurd (show nI (lnA l0 K) = -1 from g6) (by intro e9; have e8 := nI_toInt (n := lnA l0 K) (by omega); rw [e9] at e8; simp at e8)
    exact key 17 0 (by omega) (fun j hj => absurd hj (Nat.not_lt_zero _)) h2 r0 i1 i2 i3 i4 wd f hq 0 0 b w h ps sp bs (fun _ => nI 0) (fun _ => nI 0) cd0 li0 false (fun _ => nI 0) (fun _ => nI 0) cd1 li1 false _ _ _ O0 (pgIs_0 l0 b w h ps sp)
  refine sw_iconst (pc := 24) C (nI 1) d_Dr_read_24 (by decide) ?_
  exact sw_iret (pc := 25) C E rfl (Nat.le_of_ble_eq_true rfl) (Nat.le_of_ble_eq_true rfl) d_Dr_read_25 ⟨1, 0, rfl, Or.inl ⟨fun q => g2 ((octAt_is hl (by decide) (by decide) (by decide)).mpr q.2), rfl, rfl⟩, r0, i1, i2, i3, i4, wd, f, hq, 0, 0, b, w, h, ps, sp, bs, _, _, cd0, li0, false, _, _, cd1, li1, false, O0, fun e => absurd e (by decide), rfl⟩
