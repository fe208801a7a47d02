set_option maxRecDepth 100000 in
set_option maxHeartbeats 4000000 in
theorem rd_l1 {X : Cz} (l : Launch) (g : Gl) (d a z o ob r : Nat) (l0 : List Nat) (hl : bytesOK l0) (A : Nat → Nat) (C : Cx X l g y_Dr_read b_Dr_read 9 (some .int) (rmD 5)) (E : Ce X g (rdPost g d a z o ob r l0 A) (rmD 5)) (K : Nat) (hst : stG l0) (hall : ∀ j, j < K → hd l0 j < l0.length ∧ FL l0 j 0) (hlt : hd l0 K < l0.length) (hle : hd l0 K + 3 + lnA l0 K ≤ l0.length) (hK : K < 16) (ih : rdIH X g d a z o ob r l0 A K) (r0 : Nat) (i1 i2 i3 i4 wd : Int32) (f hq : Nat → Int32) (nS nP : Nat) (b w h ps sp : Nat → Nat) (bs ce0 co0 cd0 li0 : Nat → Int32) (cm0 : Bool) (ce1 co1 cd1 li1 : Nat → Int32) (cm1 : Bool) (O : pgOK nS nP b w h ps sp) (I : pgIs l0 K nS nP b w h ps sp ce0 co0 cm0 ce1 co1 cm1) (hk : kdA l0 K = 4) : SW X g 9 0 0 (wDr g d a z o ob r r0 i1 i2 i3 i4 wd f hq l0 ++ wPg g A nS nP (nF ps) (nF sp) ce0 co0 cd0 li0 cm0 ce1 co1 cd1 li1 cm1 (fun k => shV (b k) (w k) (h k) (bs k))) 151 [some (.ref d), some (.ref ob), some (.ref (A 0)), some (.int (nI 0)), some (.int (nI (hd l0 K))), some (.int (nI K)), some (.int (nI (hd l0 K + 3))), some (.int (nI (lnA l0 K))), some (.int (nI (kdA l0 K)))] [] := by
  have hl1 := hl.1
  refine sw_aload_n (pc := 151) C d_Dr_read_151 rfl rfl ?_
  refine sw_aload_n (pc := 152) C d_Dr_read_152 rfl rfl ?_
  refine sw_iload (pc := 153) C d_Dr_read_153 rfl ?_
  refine sw_iload (pc := 155) C d_Dr_read_155 rfl ?_
  refine sw_iload (pc := 157) C d_Dr_read_157 rfl ?_
  refine sw_iconst (pc := 159) C (nI 3) d_Dr_read_159 (by decide) ?_
  refine sw_icmp_neN (pc := 160) C 170 (by omega) (by omega) d_Dr_read_160 (by decide) (fun g1 => ?_) (fun g1 => ?_)
  · skip
    refine sw_aload_n (pc := 170) C d_Dr_read_170 rfl rfl ?_
    refine sw_get (pc := 171) C inPg 6 rfl rfl 6 (by decide) t_207 rfl rfl d_Dr_read_171 ?_
    by_cases G : lyG l0 (cK l0 4 K) (hd l0 K + 3) (lnA l0 K)
    · skip
      have ec : co1 = fun _ => nI 0 := by rw [I.2.2.2.2.2.1]; exact oS_0 G.1
      have em : cm1 = false := by rw [I.2.2.2.2.2.2, G.1]; rfl
      have I2 := is_l1 I hk
      subst ec
      subst em
      refine sw_callVP (pc := 174) C (c_rdLy l g d a z o ob r r0 i1 i2 i3 i4 wd f hq l0 hl (fun i => A (9 + i)) 4 ce1 cd1 li1 (Or.inl rfl) (hd l0 K + 3) (lnA l0 K) hle G.2.1 G.2.2) sv_Dr_readLayer t_506 rfl rfl rfl [0, 1, 2, 3, 4, 5, 15, 16, 17, 18, 19] rfl rfl rfl rfl (Nat.le_of_ble_eq_true rfl) (Nat.le_of_ble_eq_true rfl) (Nat.le_of_ble_eq_true rfl) (Nat.le_of_ble_eq_true rfl) (Nat.le_of_ble_eq_true rfl) d_Dr_read_174 (fun v w1 hp => ?_)
      obtain ⟨rfl, r1, j1, j2, j3, j4, d1, f1, h1, cd2, li2, rfl⟩ := hp
      refine ⟨rfl, ?_⟩
      refine sw_ws (ws' := wDr g d a z o ob r r1 j1 j2 j3 j4 d1 f1 h1 l0 ++ wPg g A nS nP (nF ps) (nF sp) ce0 co0 cd0 li0 cm0 (lyCE l0 4 (hd l0 K + 3) (lnA l0 K)) (lyCV l0 4 (hd l0 K + 3) (lnA l0 K)) cd2 li2 true (fun k => shV (b k) (w k) (h k) (bs k))) rfl ?_
      refine sw_istore_n (pc := 177) C d_Dr_read_177 rfl (by decide) rfl ?_
      refine sw_iload (pc := 178) C d_Dr_read_178 rfl ?_
      refine sw_iload (pc := 180) C d_Dr_read_180 rfl ?_
      refine sw_iadd (pc := 182) C d_Dr_read_182 ?_
      refine sw_topi (z := nI ((hd l0 K + 3) + (lnA l0 K))) (nI_add _ _) ?_
      refine sw_istore (pc := 183) C d_Dr_read_183 (by decide) rfl ?_
      refine sw_iincN (pc := 185) C 1 d_Dr_read_185 rfl (by decide) (by decide) rfl ?_
      refine sw_goto (pc := 188) C 34 d_Dr_read_188 (by decide) ?_
      exact ih (Or.inr (Or.inr (Or.inr (Or.inr ⟨hle, hK, Or.inr hk, Or.inl ⟨by rw [hk]; exact G, rfl⟩⟩)))) r1 j1 j2 j3 j4 d1 f1 h1 nS nP b w h ps sp bs ce0 co0 cd0 li0 cm0 (lyCE l0 4 (hd l0 K + 3) (lnA l0 K)) (lyCV l0 4 (hd l0 K + 3) (lnA l0 K)) cd2 li2 true _ _ _ O I2
    have hf : cm1 = true ∨ lnA l0 K = 0 ∨ 10 < l0.getD (hd l0 K + 3) 0 := by
      rw [I.2.2.2.2.2.2, decide_eq_true_iff]
      unfold lyG at G
      omega
    refine sw_callVP (pc := 174) C (c_rdLyF l g d a z o ob r r0 i1 i2 i3 i4 wd f hq l0 hl (fun i => A (9 + i)) 4 ce1 co1 cd1 li1 cm1 (Or.inl rfl) (hd l0 K + 3) (lnA l0 K) hle hf) sv_Dr_readLayer t_506 rfl rfl rfl [0, 1, 2, 3, 4, 5, 15, 16, 17, 18, 19] rfl rfl rfl rfl (Nat.le_of_ble_eq_true rfl) (Nat.le_of_ble_eq_true rfl) (Nat.le_of_ble_eq_true rfl) (Nat.le_of_ble_eq_true rfl) (Nat.le_of_ble_eq_true rfl) d_Dr_read_174 (fun v w1 hp => ?_)
    obtain ⟨rfl, rfl⟩ := hp
    refine ⟨rfl, ?_⟩
    refine sw_ws (ws' := wDr g d a z o ob r r0 i1 i2 i3 i4 wd f hq l0 ++ wPg g A nS nP (nF ps) (nF sp) ce0 co0 cd0 li0 cm0 ce1 co1 cd1 li1 cm1 (fun k => shV (b k) (w k) (h k) (bs k))) rfl ?_
    refine sw_istore_n (pc := 177) C d_Dr_read_177 rfl (by decide) rfl ?_
    refine sw_iload (pc := 178) C d_Dr_read_178 rfl ?_
    refine sw_iload (pc := 180) C d_Dr_read_180 rfl ?_
    refine sw_iadd (pc := 182) C d_Dr_read_182 ?_
    refine sw_topi (z := nI ((hd l0 K + 3) + (lnA l0 K))) (nI_add _ _) ?_
    refine sw_istore (pc := 183) C d_Dr_read_183 (by decide) rfl ?_
    refine sw_iincN (pc := 185) C 1 d_Dr_read_185 rfl (by decide) (by decide) rfl ?_
    refine sw_goto (pc := 188) C 34 d_Dr_read_188 (by decide) ?_
    exact rd_fin l g d a z o ob r l0 hl A C E 6 K (by decide) (by decide) (K + 1) (by omega) _ (Or.inr ⟨hst, hall, Or.inr ⟨hlt, (Or.inr (Or.inr (Or.inr (Or.inr ⟨hle, hK, Or.inr hk, Or.inr ⟨by rw [hk]; exact G, rfl⟩⟩)))), by decide⟩⟩) r0 i1 i2 i3 i4 wd f hq nS nP b w h ps sp bs ce0 co0 cd0 li0 cm0 ce1 co1 cd1 li1 cm1 _ _ _ O
  omega
