set_option maxRecDepth 100000 in
set_option maxHeartbeats 4000000 in
theorem rd_pl {X : Cz} (l : Launch) (g : Gl) (d a z o ob r : Nat) (l0 : List Nat) (hl : bytesOK l0) (A : Nat → Nat) (C : Cx X l g y_Dr_read b_Dr_read 9 (some .int) (rmD 5)) (E : Ce X g (rdPost g d a z o ob r l0 A) (rmD 5)) (K : Nat) (hst : stG l0) (hall : ∀ j, j < K → hd l0 j < l0.length ∧ FL l0 j 0) (hlt : hd l0 K < l0.length) (hle : hd l0 K + 3 + lnA l0 K ≤ l0.length) (hK : K < 16) (ih : rdIH X g d a z o ob r l0 A K) (r0 : Nat) (i1 i2 i3 i4 wd : Int32) (f hq : Nat → Int32) (nS nP : Nat) (b w h ps sp : Nat → Nat) (bs ce0 co0 cd0 li0 : Nat → Int32) (cm0 : Bool) (ce1 co1 cd1 li1 : Nat → Int32) (cm1 : Bool) (O : pgOK nS nP b w h ps sp) (I : pgIs l0 K nS nP b w h ps sp ce0 co0 cm0 ce1 co1 cm1) (hk : kdA l0 K = 2) : SW X g 9 0 0 (wDr g d a z o ob r r0 i1 i2 i3 i4 wd f hq l0 ++ wPg g A nS nP (nF ps) (nF sp) ce0 co0 cd0 li0 cm0 ce1 co1 cd1 li1 cm1 (fun k => shV (b k) (w k) (h k) (bs k))) 137 [some (.ref d), some (.ref ob), some (.ref (A 0)), some (.int (nI 0)), some (.int (nI (hd l0 K))), some (.int (nI K)), some (.int (nI (hd l0 K + 3))), some (.int (nI (lnA l0 K))), some (.int (nI (kdA l0 K)))] [] := by
  have hl1 := hl.1
  have e1 := I.1.1
  have e2 := I.1.2
  refine sw_aload_n (pc := 137) C d_Dr_read_137 rfl rfl ?_
  refine sw_aload_n (pc := 138) C d_Dr_read_138 rfl rfl ?_
  refine sw_iload (pc := 139) C d_Dr_read_139 rfl ?_
  refine sw_iload (pc := 141) C d_Dr_read_141 rfl ?_
  refine sw_aload_n (pc := 143) C d_Dr_read_143 rfl rfl ?_
  refine sw_callVP (pc := 144) C (c_rdPl l g d a z o ob r r0 i1 i2 i3 i4 wd f hq l0 hl A nS nP ps sp O.1 O.2.1 (hd l0 K + 3) (lnA l0 K) hle) sv_Dr_readPlacings t_500 rfl rfl rfl [0, 1, 2, 3, 4, 5, 6, 8, 9] rfl rfl rfl rfl (Nat.le_of_ble_eq_true rfl) (Nat.le_of_ble_eq_true rfl) (Nat.le_of_ble_eq_true rfl) (Nat.le_of_ble_eq_true rfl) (Nat.le_of_ble_eq_true rfl) d_Dr_read_144 (fun v w1 hp => ?_)
  rcases hp with ⟨rfl, G, rfl⟩ | ⟨rfl, G, m, hm, hm2, rfl⟩
  · skip
    refine ⟨rfl, ?_⟩
    refine sw_ws (ws' := wDr g d a z o ob r r0 i1 i2 i3 i4 wd f hq l0 ++ wPg g A nS (nP + (lnA l0 K / 2)) (nF (plU l0 (hd l0 K + 3) nP 0 ps (lnA l0 K / 2))) (nF (plU l0 (hd l0 K + 3) nP 1 sp (lnA l0 K / 2))) ce0 co0 cd0 li0 cm0 ce1 co1 cd1 li1 cm1 (fun k => shV (b k) (w k) (h k) (bs k))) rfl ?_
    refine sw_istore_n (pc := 147) C d_Dr_read_147 rfl (by decide) rfl ?_
    refine sw_goto (pc := 148) C 178 d_Dr_read_148 (by decide) ?_
    refine sw_iload (pc := 178) C d_Dr_read_178 rfl ?_
    refine sw_iload (pc := 180) C d_Dr_read_180 rfl ?_
    refine sw_iadd (pc := 182) C d_Dr_read_182 ?_
    refine sw_topi (z := nI ((hd l0 K + 3) + (lnA l0 K))) (nI_add _ _) ?_
    refine sw_istore (pc := 183) C d_Dr_read_183 (by decide) rfl ?_
    refine sw_iincN (pc := 185) C 1 d_Dr_read_185 rfl (by decide) (by decide) rfl ?_
    refine sw_goto (pc := 188) C 34 d_Dr_read_188 (by decide) ?_
    obtain ⟨O2, I2⟩ := is_pl hl O I hk G
    exact ih (Or.inr (Or.inr (Or.inr (Or.inl ⟨hle, hK, hk, Or.inl ⟨by rw [← e1, ← e2]; exact G, rfl⟩⟩)))) r0 i1 i2 i3 i4 wd f hq nS _ b w h _ _ bs ce0 co0 cd0 li0 cm0 ce1 co1 cd1 li1 cm1 _ _ _ O2 I2
  refine ⟨rfl, ?_⟩
  refine sw_ws (ws' := wDr g d a z o ob r r0 i1 i2 i3 i4 wd f hq l0 ++ wPg g A nS (nP + m) (nF (plU l0 (hd l0 K + 3) nP 0 ps m)) (nF (plU l0 (hd l0 K + 3) nP 1 sp m)) ce0 co0 cd0 li0 cm0 ce1 co1 cd1 li1 cm1 (fun k => shV (b k) (w k) (h k) (bs k))) rfl ?_
  refine sw_istore_n (pc := 147) C d_Dr_read_147 rfl (by decide) rfl ?_
  refine sw_goto (pc := 148) C 178 d_Dr_read_148 (by decide) ?_
  refine sw_iload (pc := 178) C d_Dr_read_178 rfl ?_
  refine sw_iload (pc := 180) C d_Dr_read_180 rfl ?_
  refine sw_iadd (pc := 182) C d_Dr_read_182 ?_
  refine sw_topi (z := nI ((hd l0 K + 3) + (lnA l0 K))) (nI_add _ _) ?_
  refine sw_istore (pc := 183) C d_Dr_read_183 (by decide) rfl ?_
  refine sw_iincN (pc := 185) C 1 d_Dr_read_185 rfl (by decide) (by decide) rfl ?_
  refine sw_goto (pc := 188) C 34 d_Dr_read_188 (by decide) ?_
  have O5 : pgOK nS (nP + m) b w h (plU l0 (hd l0 K + 3) nP 0 ps m) (plU l0 (hd l0 K + 3) nP 1 sp m) := ⟨O.1, hm, O.2.2.1, fun i hi => by
    by_cases c : i < nP
    · rw [plU_lo c, plU_lo c]; exact O.2.2.2 i c
    · obtain ⟨j, rfl⟩ : ∃ j, i = nP + j := ⟨i - nP, by omega⟩
      rw [plU_hi _ (by omega), plU_hi _ (by omega)]
      exact ⟨hm2 j (by omega), hl.2 _⟩⟩
  exact rd_fin l g d a z o ob r l0 hl A C E 5 K (by decide) (by decide) (K + 1) (by omega) _ (Or.inr ⟨hst, hall, Or.inr ⟨hlt, Or.inr (Or.inr (Or.inr (Or.inl ⟨hle, hK, hk, Or.inr ⟨by rw [← e1, ← e2]; exact G, rfl⟩⟩))), by decide⟩⟩) r0 i1 i2 i3 i4 wd f hq nS (nP + m) b w h _ _ bs ce0 co0 cd0 li0 cm0 ce1 co1 cd1 li1 cm1 _ _ _ O5
