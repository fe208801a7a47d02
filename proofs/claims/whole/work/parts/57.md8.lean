/-! the reference: a document is written -/
theorem bsI_1 (c : Nat) : bsI c + nI 1 = nI c := by
  unfold bsI
  by_cases h : c = 0
  · rw [if_pos h, h]; decide
  · rw [if_neg h, nI_add, show c - 1 + 1 = c by omega]
theorem bsI_p {c : Nat} (h : ¬ c = 0) : bsI c = nI (c - 1) := by
  unfold bsI
  rw [if_neg h]
theorem bsI_0 {c : Nat} (h : c = 0) : bsI c = -1 := by
  unfold bsI
  rw [if_pos h]
theorem sb_zero (w h : Nat) : sb 0 w h = fun _ _ => 0 := by
  funext x y
  unfold sb
  split
  · simp
  · rfl
theorem wKm_0 {g : Gl} {R : Nat → Nat} {dn pl ln ss pt : Nat} {th : Bool} : wKm g R dn pl ln ss pt th none (kInit none) = [mdC R dn pl ln ss pt th false 65536 0, iaC g (R 14) 48 (nF (fun _ => 1)), iaC g (R 15) 48 (nF (fun _ => 1)), iaC g (R 16) 4400 (nF (fun _ => 0))] := by
  have e : rdg (mdD none) (kInit none).2 (kInit none).1.2.2.2 = fun _ => 0 := rdg_00
  unfold wKm
  rw [e]
  rfl
def drQ (nS : Nat) (fb : Nat → Int64) (fw fh fs : Nat → Int32) (b w h bc : Nat → Nat) : Prop := ∀ k, k < nS → fb k = lN (b k) ∧ fw k = nI (w k) ∧ fh k = nI (h k) ∧ fs k = bsI (bc k) ∧ sb (b k) (w k) (h k) = sb (b k) 8 8
set_option maxRecDepth 100000 in
set_option maxHeartbeats 4000000 in
theorem c_Md_putShape (l : Launch) (g : Gl) (R : Nat → Nat) (dn pl ss pt : Nat) (th rd : Bool) (wd sc : Nat) (l0 : List Nat) (f z o d : Nat → Int32) (fb : Nat → Int64) (fw fh fs : Nat → Int32) (nS : Nat) (b w h bc : Nat → Nat) (hS : nS ≤ 8) (H : drOK nS b w h bc) (Q : drQ nS fb fw fh fs b w h bc) (k : Nat) (hk : k < nS) (hl : l0.length + 48 ≤ 1200) : Ct l g y_Md_putShape b_Md_putShape 5 none (rmD 3) [.ref (R 0), .int (nI k)] ([mdC R dn pl l0.length ss pt th rd wd sc, iaC g (R 14) 48 z, iaC g (R 15) 48 o, iaC g (R 16) 4400 d, iaC g (R 8) 1200 (dcF l0 f), laC g (R 1) 8 fb, iaC g (R 2) 8 fw, iaC g (R 3) 8 fh, iaC g (R 4) 8 fs]) (fun u q => u = none ∧ ∃ (r1 : Bool) (w1 s1 : Nat) (z1 o1 d1 : Nat → Int32), q = [mdC R dn pl ((l0 ++ chunk 1 (shBy (bc k) (w k) (h k) (shSt b w h bc k))).length) ss pt th r1 w1 s1, iaC g (R 14) 48 z1, iaC g (R 15) 48 o1, iaC g (R 16) 4400 d1, iaC g (R 8) 1200 (dcF (l0 ++ chunk 1 (shBy (bc k) (w k) (h k) (shSt b w h bc k))) f), laC g (R 1) 8 fb, iaC g (R 2) 8 fw, iaC g (R 3) 8 fh, iaC g (R 4) 8 fs]) := by
  refine ct_of [some (.ref (R 0)), some (.int (nI k)), none, none, none] (by decide) (Nat.le_of_ble_eq_true rfl) rfl ?_
  intro X C E
  obtain ⟨hb, hw, hh, hbc⟩ := H k hk
  obtain ⟨qb, qw, qh, qs, qn⟩ := Q k hk
  have hsc := shSt_sc H hk
  refine sw_aload_n (pc := 0) C d_Md_putShape_0 rfl rfl ?_
  refine sw_iconst (pc := 1) C (nI 1) d_Md_putShape_1 (by decide) ?_
  refine sw_callVP (pc := 2) C (c_Md_open l g R dn pl ss pt th rd wd sc l0 f 1 (by omega)) sv_Md_open t_703 rfl rfl rfl [0, 4] rfl rfl rfl rfl (Nat.le_of_ble_eq_true rfl) (Nat.le_of_ble_eq_true rfl) (Nat.le_of_ble_eq_true rfl) (Nat.le_of_ble_eq_true rfl) (Nat.le_of_ble_eq_true rfl) d_Md_putShape_2 (fun v w1 hp => ?_)
  obtain ⟨rfl, rfl⟩ := hp
  refine ⟨rfl, ?_⟩
  refine sw_ws (ws' := [mdC R dn pl ((l0 ++ [1, 0, 0]).length) ss pt th rd wd sc, iaC g (R 14) 48 z, iaC g (R 15) 48 o, iaC g (R 16) 4400 d, iaC g (R 8) 1200 (dcF (l0 ++ [1, 0, 0]) f), laC g (R 1) 8 fb, iaC g (R 2) 8 fw, iaC g (R 3) 8 fh, iaC g (R 4) 8 fs]) rfl ?_
  refine sw_istore_n (pc := 5) C d_Md_putShape_5 rfl (by decide) rfl ?_
  refine sw_aload_n (pc := 6) C d_Md_putShape_6 rfl rfl ?_
  refine sw_aload_n (pc := 7) C d_Md_putShape_7 rfl rfl ?_
  refine sw_get (pc := 8) C inMd 0 rfl rfl 3 (by decide) t_575 rfl rfl d_Md_putShape_8 ?_
  refine sw_iload_n (pc := 11) C d_Md_putShape_11 rfl rfl ?_
  refine sw_ialdN (pc := 12) C 8 k rfl rfl (by omega) (by decide) d_Md_putShape_12 ?_
  refine sw_topi (z := (bsI (bc k))) qs ?_
  refine sw_iconst (pc := 13) C (nI 1) d_Md_putShape_13 (by decide) ?_
  refine sw_iadd (pc := 14) C d_Md_putShape_14 ?_
  refine sw_topi (z := nI (bc k)) (bsI_1 _) ?_
  refine sw_callVP (pc := 15) C (c_Md_put l g R dn pl ss pt th rd wd sc (l0 ++ [1, 0, 0]) f (bc k) (by simp only [List.length_append, List.length_cons, List.length_nil]; omega)) sv_Md_put t_695 rfl rfl rfl [0, 4] rfl rfl rfl rfl (Nat.le_of_ble_eq_true rfl) (Nat.le_of_ble_eq_true rfl) (Nat.le_of_ble_eq_true rfl) (Nat.le_of_ble_eq_true rfl) (Nat.le_of_ble_eq_true rfl) d_Md_putShape_15 (fun v w1 hp => ?_)
  obtain ⟨rfl, rfl⟩ := hp
  refine ⟨rfl, ?_⟩
  refine sw_ws (ws' := [mdC R dn pl ((l0 ++ [1, 0, 0] ++ [bc k]).length) ss pt th rd wd sc, iaC g (R 14) 48 z, iaC g (R 15) 48 o, iaC g (R 16) 4400 d, iaC g (R 8) 1200 (dcF (l0 ++ [1, 0, 0] ++ [bc k]) f), laC g (R 1) 8 fb, iaC g (R 2) 8 fw, iaC g (R 3) 8 fh, iaC g (R 4) 8 fs]) rfl ?_
  refine sw_aload_n (pc := 18) C d_Md_putShape_18 rfl rfl ?_
  refine sw_bipush (pc := 19) C (nI 16) d_Md_putShape_19 (by decide) ?_
  refine sw_aload_n (pc := 21) C d_Md_putShape_21 rfl rfl ?_
  refine sw_get (pc := 22) C inMd 0 rfl rfl 1 (by decide) t_573 rfl rfl d_Md_putShape_22 ?_
  refine sw_iload_n (pc := 25) C d_Md_putShape_25 rfl rfl ?_
  refine sw_ialdN (pc := 26) C 6 k rfl rfl (by omega) (by decide) d_Md_putShape_26 ?_
  refine sw_topi (z := nI (w k)) qw ?_
  refine sw_iconst (pc := 27) C (nI 1) d_Md_putShape_27 (by decide) ?_
  refine sw_isub (pc := 28) C d_Md_putShape_28 ?_
  refine sw_topi (z := nI ((w k) - 1)) (pk_sub (by omega)) ?_
  refine sw_imul (pc := 29) C d_Md_putShape_29 ?_
  refine sw_topi (z := nI (16 * ((w k) - 1))) (pk_mul _ _) ?_
  refine sw_aload_n (pc := 30) C d_Md_putShape_30 rfl rfl ?_
  refine sw_get (pc := 31) C inMd 0 rfl rfl 2 (by decide) t_574 rfl rfl d_Md_putShape_31 ?_
  refine sw_iload_n (pc := 34) C d_Md_putShape_34 rfl rfl ?_
  refine sw_ialdN (pc := 35) C 7 k rfl rfl (by omega) (by decide) d_Md_putShape_35 ?_
  refine sw_topi (z := nI (h k)) qh ?_
  refine sw_iadd (pc := 36) C d_Md_putShape_36 ?_
  refine sw_topi (z := nI ((16 * ((w k) - 1)) + (h k))) (nI_add _ _) ?_
  refine sw_iconst (pc := 37) C (nI 1) d_Md_putShape_37 (by decide) ?_
  refine sw_isub (pc := 38) C d_Md_putShape_38 ?_
  refine sw_topi (z := nI (((16 * ((w k) - 1)) + (h k)) - 1)) (pk_sub (by omega)) ?_
  refine sw_topi (z := nI (16 * (w k - 1) + h k - 1)) rfl ?_
  refine sw_callVP (pc := 39) C (c_Md_put l g R dn pl ss pt th rd wd sc (l0 ++ [1, 0, 0] ++ [bc k]) f (16 * (w k - 1) + h k - 1) (by simp only [List.length_append, List.length_cons, List.length_nil]; omega)) sv_Md_put t_695 rfl rfl rfl [0, 4] rfl rfl rfl rfl (Nat.le_of_ble_eq_true rfl) (Nat.le_of_ble_eq_true rfl) (Nat.le_of_ble_eq_true rfl) (Nat.le_of_ble_eq_true rfl) (Nat.le_of_ble_eq_true rfl) d_Md_putShape_39 (fun v w1 hp => ?_)
  obtain ⟨rfl, rfl⟩ := hp
  refine ⟨rfl, ?_⟩
  refine sw_ws (ws' := [mdC R dn pl ((l0 ++ [1, 0, 0] ++ [bc k] ++ [16 * (w k - 1) + h k - 1]).length) ss pt th rd wd sc, iaC g (R 14) 48 z, iaC g (R 15) 48 o, iaC g (R 16) 4400 d, iaC g (R 8) 1200 (dcF (l0 ++ [1, 0, 0] ++ [bc k] ++ [16 * (w k - 1) + h k - 1]) f), laC g (R 1) 8 fb, iaC g (R 2) 8 fw, iaC g (R 3) 8 fh, iaC g (R 4) 8 fs]) rfl ?_
  refine sw_aload_n (pc := 42) C d_Md_putShape_42 rfl rfl ?_
  refine sw_iconst (pc := 43) C (nI 0) d_Md_putShape_43 (by decide) ?_
  refine sw_topi (z := bI false) rfl ?_
  refine sw_callVP (pc := 44) C (c_Md_begin l g R dn pl (l0 ++ [1, 0, 0] ++ [bc k] ++ [16 * (w k - 1) + h k - 1]).length ss pt th rd wd sc false z o d) sv_Md_begin t_707 rfl rfl rfl [0, 1, 2, 3] rfl rfl rfl rfl (Nat.le_of_ble_eq_true rfl) (Nat.le_of_ble_eq_true rfl) (Nat.le_of_ble_eq_true rfl) (Nat.le_of_ble_eq_true rfl) (Nat.le_of_ble_eq_true rfl) d_Md_putShape_44 (fun v w1 hp => ?_)
  obtain ⟨rfl, rfl⟩ := hp
  refine ⟨rfl, ?_⟩
  refine sw_ws (ws' := wKm g R dn pl (l0 ++ [1, 0, 0] ++ [bc k] ++ [16 * (w k - 1) + h k - 1]).length ss pt th none (kInit none) ++ [iaC g (R 8) 1200 (dcF (l0 ++ [1, 0, 0] ++ [bc k] ++ [16 * (w k - 1) + h k - 1]) f), laC g (R 1) 8 fb, iaC g (R 2) 8 fw, iaC g (R 3) 8 fh, iaC g (R 4) 8 fs]) (by rw [wKm_0]; rfl) ?_
  have c110 : ∀ v : Int64, SW X g 5 0 0 (wKm g R dn pl (l0 ++ [1, 0, 0] ++ [bc k] ++ [16 * (w k - 1) + h k - 1]).length ss pt th none (shSt b w h bc k) ++ [iaC g (R 8) 1200 (dcF (l0 ++ [1, 0, 0] ++ [bc k] ++ [16 * (w k - 1) + h k - 1]) f), laC g (R 1) 8 fb, iaC g (R 2) 8 fw, iaC g (R 3) 8 fh, iaC g (R 4) 8 fs]) 110 [some (.ref (R 0)), some (.int (nI k)), some (.int (nI (l0.length + 3))), some (.long v), none] [] := by
    intro v0
    refine sw_aload_n (pc := 110) C d_Md_putShape_110 rfl rfl ?_
    refine sw_callVP (pc := 111) C (c_Md_putCode l g R dn pl ss pt th false (shSt b w h bc k).1.2.2.1 (shSt b w h bc k).1.2.2.2 (l0 ++ [1, 0, 0] ++ [bc k] ++ [16 * (w k - 1) + h k - 1]) f (shSt b w h bc k).2 (by omega) (by simp only [List.length_append, List.length_cons, List.length_nil]; omega)) sv_Md_putCode t_729 rfl rfl rfl [0, 3, 4] rfl rfl rfl rfl (Nat.le_of_ble_eq_true rfl) (Nat.le_of_ble_eq_true rfl) (Nat.le_of_ble_eq_true rfl) (Nat.le_of_ble_eq_true rfl) (Nat.le_of_ble_eq_true rfl) d_Md_putShape_111 (fun v w1 hp => ?_)
    obtain ⟨rfl, rfl⟩ := hp
    refine ⟨rfl, ?_⟩
    refine sw_ws (ws' := [mdC R dn pl ((l0 ++ [1, 0, 0] ++ [bc k] ++ [16 * (w k - 1) + h k - 1] ++ cbytes (shSt b w h bc k).2 (shSt b w h bc k).1.2.2.2).length) ss pt th false ((shSt b w h bc k).1.2.2.1) ((shSt b w h bc k).1.2.2.2), iaC g (R 14) 48 (nF (shSt b w h bc k).1.1), iaC g (R 15) 48 (nF (shSt b w h bc k).1.2.1), iaC g (R 16) 4400 (nF (rdg (fun _ => 0) (shSt b w h bc k).2 (shSt b w h bc k).1.2.2.2)), iaC g (R 8) 1200 (dcF (l0 ++ [1, 0, 0] ++ [bc k] ++ [16 * (w k - 1) + h k - 1] ++ cbytes (shSt b w h bc k).2 (shSt b w h bc k).1.2.2.2) f), laC g (R 1) 8 fb, iaC g (R 2) 8 fw, iaC g (R 3) 8 fh, iaC g (R 4) 8 fs]) rfl ?_
    refine sw_aload_n (pc := 114) C d_Md_putShape_114 rfl rfl ?_
    refine sw_iload_n (pc := 115) C d_Md_putShape_115 rfl rfl ?_
    refine sw_callVP (pc := 116) C (c_Md_close l g R dn pl ss pt th false (shSt b w h bc k).1.2.2.1 (shSt b w h bc k).1.2.2.2 (l0 ++ [1, 0, 0] ++ [bc k] ++ [16 * (w k - 1) + h k - 1] ++ cbytes (shSt b w h bc k).2 (shSt b w h bc k).1.2.2.2) f (l0.length + 3) (by omega) (by simp only [List.length_append, List.length_cons, List.length_nil]; omega) (by have := cbytes_len (shSt b w h bc k).2 (shSt b w h bc k).1.2.2.2; simp only [List.length_append, List.length_cons, List.length_nil]; omega)) sv_Md_close t_733 rfl rfl rfl [0, 4] rfl rfl rfl rfl (Nat.le_of_ble_eq_true rfl) (Nat.le_of_ble_eq_true rfl) (Nat.le_of_ble_eq_true rfl) (Nat.le_of_ble_eq_true rfl) (Nat.le_of_ble_eq_true rfl) d_Md_putShape_116 (fun v w1 hp => ?_)
    obtain ⟨rfl, rfl⟩ := hp
    refine ⟨rfl, ?_⟩
    have ec : clsL (l0 ++ [1, 0, 0] ++ [bc k] ++ [16 * (w k - 1) + h k - 1] ++ cbytes (shSt b w h bc k).2 (shSt b w h bc k).1.2.2.2) (l0.length + 3) = (l0 ++ chunk 1 (shBy (bc k) (w k) (h k) (shSt b w h bc k))) := by
      have e := cls_chunk l0 1 ([bc k, 16 * (w k - 1) + h k - 1] ++ cbytes (shSt b w h bc k).2 (shSt b w h bc k).1.2.2.2)
      rw [show l0 ++ [1, 0, 0] ++ [bc k] ++ [16 * (w k - 1) + h k - 1] ++ cbytes (shSt b w h bc k).2 (shSt b w h bc k).1.2.2.2 = l0 ++ [1, 0, 0] ++ ([bc k, 16 * (w k - 1) + h k - 1] ++ cbytes (shSt b w h bc k).2 (shSt b w h bc k).1.2.2.2) by simp]
      exact e
    rw [ec]
    exact sw_vret (pc := 119) C E rfl (Nat.le_of_ble_eq_true rfl) (Nat.le_of_ble_eq_true rfl) d_Md_putShape_119 ⟨rfl, _, _, _, _, _, _, rfl⟩
  by_cases h0 : bc k = 0
  · skip
    refine sw_aload_n (pc := 47) C d_Md_putShape_47 rfl rfl ?_
    refine sw_get (pc := 48) C inMd 0 rfl rfl 3 (by decide) t_575 rfl rfl d_Md_putShape_48 ?_
    refine sw_iload_n (pc := 51) C d_Md_putShape_51 rfl rfl ?_
    refine sw_ialdN (pc := 52) C 8 k rfl rfl (by omega) (by decide) d_Md_putShape_52 ?_
    refine sw_topi (z := (bsI (bc k))) qs ?_
    refine sw_if_ge (pc := 53) C 60 d_Md_putShape_53 (by decide) (fun h1 => ?_) (fun h1 => ?_)
    · skip
      rw [bsI_0 h0] at h1
      exact absurd h1 (by decide)
    refine sw_lconst (pc := 56) C 0 d_Md_putShape_56 (by decide) ?_
    refine sw_goto (pc := 57) C 71 d_Md_putShape_57 (by decide) ?_
    refine sw_topl (z := lN 0) rfl ?_
    have es : (shY none false (sb 0 8 8) (sb (b k) 8 8) (w k) (h k)).1 = (shSt b w h bc k) := by unfold shSt; rw [if_pos h0, sb_zero, qn]
    refine sw_lstore_n (pc := 71) C d_Md_putShape_71 rfl (by decide) rfl ?_
    refine sw_aload_n (pc := 72) C d_Md_putShape_72 rfl rfl ?_
    refine sw_aload_n (pc := 73) C d_Md_putShape_73 rfl rfl ?_
    refine sw_get (pc := 74) C inMd 0 rfl rfl 0 (by decide) t_572 rfl rfl d_Md_putShape_74 ?_
    refine sw_iload_n (pc := 77) C d_Md_putShape_77 rfl rfl ?_
    refine sw_laldN (pc := 78) C 5 k rfl rfl (by omega) (by decide) d_Md_putShape_78 ?_
    refine sw_topl (z := lN (b k)) qb ?_
    refine sw_aload_n (pc := 79) C d_Md_putShape_79 rfl rfl ?_
    refine sw_get (pc := 80) C inMd 0 rfl rfl 1 (by decide) t_573 rfl rfl d_Md_putShape_80 ?_
    refine sw_iload_n (pc := 83) C d_Md_putShape_83 rfl rfl ?_
    refine sw_ialdN (pc := 84) C 6 k rfl rfl (by omega) (by decide) d_Md_putShape_84 ?_
    refine sw_topi (z := nI (w k)) qw ?_
    refine sw_aload_n (pc := 85) C d_Md_putShape_85 rfl rfl ?_
    refine sw_get (pc := 86) C inMd 0 rfl rfl 2 (by decide) t_574 rfl rfl d_Md_putShape_86 ?_
    refine sw_iload_n (pc := 89) C d_Md_putShape_89 rfl rfl ?_
    refine sw_ialdN (pc := 90) C 7 k rfl rfl (by omega) (by decide) d_Md_putShape_90 ?_
    refine sw_topi (z := nI (h k)) qh ?_
    refine sw_aload_n (pc := 91) C d_Md_putShape_91 rfl rfl ?_
    refine sw_get (pc := 92) C inMd 0 rfl rfl 3 (by decide) t_575 rfl rfl d_Md_putShape_92 ?_
    refine sw_iload_n (pc := 95) C d_Md_putShape_95 rfl rfl ?_
    refine sw_ialdN (pc := 96) C 8 k rfl rfl (by omega) (by decide) d_Md_putShape_96 ?_
    refine sw_topi (z := (bsI (bc k))) qs ?_
    refine sw_if_lt (pc := 97) C 104 d_Md_putShape_97 (by decide) (fun h2 => ?_) (fun h2 => ?_)
    · skip
      refine sw_iconst (pc := 104) C (nI 0) d_Md_putShape_104 (by decide) ?_
      refine sw_topi (z := bI false) rfl ?_
      refine sw_lload_n (pc := 105) C d_Md_putShape_105 rfl rfl ?_
      refine sw_callVP (pc := 106) C (c_Md_walk l g R dn pl (l0 ++ [1, 0, 0] ++ [bc k] ++ [16 * (w k - 1) + h k - 1]).length ss pt th none (fun D h => by cases h) (b k) (w k) (h k) 0 false hb (by decide) hw.2 hh.2) sv_Md_walk t_712 rfl rfl rfl [0, 1, 2, 3] rfl rfl rfl rfl (Nat.le_of_ble_eq_true rfl) (Nat.le_of_ble_eq_true rfl) (Nat.le_of_ble_eq_true rfl) (Nat.le_of_ble_eq_true rfl) (Nat.le_of_ble_eq_true rfl) d_Md_putShape_106 (fun v w1 hp => ?_)
      obtain ⟨rfl, rfl⟩ := hp
      refine ⟨rfl, ?_⟩
      refine sw_ws (ws' := wKm g R dn pl (l0 ++ [1, 0, 0] ++ [bc k] ++ [16 * (w k - 1) + h k - 1]).length ss pt th none (shSt b w h bc k) ++ [iaC g (R 8) 1200 (dcF (l0 ++ [1, 0, 0] ++ [bc k] ++ [16 * (w k - 1) + h k - 1]) f), laC g (R 1) 8 fb, iaC g (R 2) 8 fw, iaC g (R 3) 8 fh, iaC g (R 4) 8 fs]) (by rw [show (shY none false (sb 0 8 8) (sb (b k) 8 8) (w k) (h k)).1 = (shSt b w h bc k) from es]; rfl) ?_
      refine sw_pop2L (pc := 109) C d_Md_putShape_109 rfl ?_
      exact c110 _
    rw [bsI_0 h0] at h2
    exact absurd (by decide) h2
  · skip
    refine sw_aload_n (pc := 47) C d_Md_putShape_47 rfl rfl ?_
    refine sw_get (pc := 48) C inMd 0 rfl rfl 3 (by decide) t_575 rfl rfl d_Md_putShape_48 ?_
    refine sw_iload_n (pc := 51) C d_Md_putShape_51 rfl rfl ?_
    refine sw_ialdN (pc := 52) C 8 k rfl rfl (by omega) (by decide) d_Md_putShape_52 ?_
    refine sw_topi (z := (bsI (bc k))) qs ?_
    refine sw_if_ge (pc := 53) C 60 d_Md_putShape_53 (by decide) (fun h1 => ?_) (fun h1 => ?_)
    · skip
      obtain ⟨pb, _, _, _, pn⟩ := Q (bc k - 1) (by omega)
      have hbb := (H (bc k - 1) (by omega)).1
      have es : (shY none true (sb (b (bc k - 1)) 8 8) (sb (b k) 8 8) (w k) (h k)).1 = (shSt b w h bc k) := by unfold shSt; rw [if_neg h0, pn, qn]
      refine sw_aload_n (pc := 60) C d_Md_putShape_60 rfl rfl ?_
      refine sw_get (pc := 61) C inMd 0 rfl rfl 0 (by decide) t_572 rfl rfl d_Md_putShape_61 ?_
      refine sw_aload_n (pc := 64) C d_Md_putShape_64 rfl rfl ?_
      refine sw_get (pc := 65) C inMd 0 rfl rfl 3 (by decide) t_575 rfl rfl d_Md_putShape_65 ?_
      refine sw_iload_n (pc := 68) C d_Md_putShape_68 rfl rfl ?_
      refine sw_ialdN (pc := 69) C 8 k rfl rfl (by omega) (by decide) d_Md_putShape_69 ?_
      refine sw_topi (z := nI (bc k - 1)) (qs.trans (bsI_p h0)) ?_
      refine sw_laldN (pc := 70) C 5 (bc k - 1) rfl rfl (by omega) (by decide) d_Md_putShape_70 ?_
      refine sw_topl (z := lN (b (bc k - 1))) pb ?_
      refine sw_lstore_n (pc := 71) C d_Md_putShape_71 rfl (by decide) rfl ?_
      refine sw_aload_n (pc := 72) C d_Md_putShape_72 rfl rfl ?_
      refine sw_aload_n (pc := 73) C d_Md_putShape_73 rfl rfl ?_
      refine sw_get (pc := 74) C inMd 0 rfl rfl 0 (by decide) t_572 rfl rfl d_Md_putShape_74 ?_
      refine sw_iload_n (pc := 77) C d_Md_putShape_77 rfl rfl ?_
      refine sw_laldN (pc := 78) C 5 k rfl rfl (by omega) (by decide) d_Md_putShape_78 ?_
      refine sw_topl (z := lN (b k)) qb ?_
      refine sw_aload_n (pc := 79) C d_Md_putShape_79 rfl rfl ?_
      refine sw_get (pc := 80) C inMd 0 rfl rfl 1 (by decide) t_573 rfl rfl d_Md_putShape_80 ?_
      refine sw_iload_n (pc := 83) C d_Md_putShape_83 rfl rfl ?_
      refine sw_ialdN (pc := 84) C 6 k rfl rfl (by omega) (by decide) d_Md_putShape_84 ?_
      refine sw_topi (z := nI (w k)) qw ?_
      refine sw_aload_n (pc := 85) C d_Md_putShape_85 rfl rfl ?_
      refine sw_get (pc := 86) C inMd 0 rfl rfl 2 (by decide) t_574 rfl rfl d_Md_putShape_86 ?_
      refine sw_iload_n (pc := 89) C d_Md_putShape_89 rfl rfl ?_
      refine sw_ialdN (pc := 90) C 7 k rfl rfl (by omega) (by decide) d_Md_putShape_90 ?_
      refine sw_topi (z := nI (h k)) qh ?_
      refine sw_aload_n (pc := 91) C d_Md_putShape_91 rfl rfl ?_
      refine sw_get (pc := 92) C inMd 0 rfl rfl 3 (by decide) t_575 rfl rfl d_Md_putShape_92 ?_
      refine sw_iload_n (pc := 95) C d_Md_putShape_95 rfl rfl ?_
      refine sw_ialdN (pc := 96) C 8 k rfl rfl (by omega) (by decide) d_Md_putShape_96 ?_
      refine sw_topi (z := (bsI (bc k))) qs ?_
      refine sw_if_lt (pc := 97) C 104 d_Md_putShape_97 (by decide) (fun h2 => ?_) (fun h2 => ?_)
      · skip
        rw [bsI_p h0] at h2
        exact absurd h2 (nI_pos (by omega))
      refine sw_iconst (pc := 100) C (nI 1) d_Md_putShape_100 (by decide) ?_
      refine sw_topi (z := bI true) rfl ?_
      refine sw_goto (pc := 101) C 105 d_Md_putShape_101 (by decide) ?_
      refine sw_lload_n (pc := 105) C d_Md_putShape_105 rfl rfl ?_
      refine sw_callVP (pc := 106) C (c_Md_walk l g R dn pl (l0 ++ [1, 0, 0] ++ [bc k] ++ [16 * (w k - 1) + h k - 1]).length ss pt th none (fun D h => by cases h) (b k) (w k) (h k) (b (bc k - 1)) true hb hbb hw.2 hh.2) sv_Md_walk t_712 rfl rfl rfl [0, 1, 2, 3] rfl rfl rfl rfl (Nat.le_of_ble_eq_true rfl) (Nat.le_of_ble_eq_true rfl) (Nat.le_of_ble_eq_true rfl) (Nat.le_of_ble_eq_true rfl) (Nat.le_of_ble_eq_true rfl) d_Md_putShape_106 (fun v w1 hp => ?_)
      obtain ⟨rfl, rfl⟩ := hp
      refine ⟨rfl, ?_⟩
      refine sw_ws (ws' := wKm g R dn pl (l0 ++ [1, 0, 0] ++ [bc k] ++ [16 * (w k - 1) + h k - 1]).length ss pt th none (shSt b w h bc k) ++ [iaC g (R 8) 1200 (dcF (l0 ++ [1, 0, 0] ++ [bc k] ++ [16 * (w k - 1) + h k - 1]) f), laC g (R 1) 8 fb, iaC g (R 2) 8 fw, iaC g (R 3) 8 fh, iaC g (R 4) 8 fs]) (by rw [show (shY none true (sb (b (bc k - 1)) 8 8) (sb (b k) 8 8) (w k) (h k)).1 = (shSt b w h bc k) from es]; rfl) ?_
      refine sw_pop2L (pc := 109) C d_Md_putShape_109 rfl ?_
      exact c110 _
    rw [bsI_p h0] at h1
    exact absurd (nI_pos' (by omega)) h1
