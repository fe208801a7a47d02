/-! the reference: a shape's bits through the coder -/
theorem cxS_f (f p : Int → Int → Nat) (x y : Int) : cxS false f p x y = f (x - 1) y + (2 * f (x - 1) (y - 1) + 4 * f x (y - 1)) + 8 * f (x + 1) (y - 1) := by
  unfold cxS cxA
  simp only [Bool.false_eq_true, if_false]
  omega
theorem cxS_t (f p : Int → Int → Nat) (x y : Int) : cxS true f p x y = f (x - 1) y + (16 + 2 * f x (y - 1) + 4 * p x y) + (8 * p (x + 1) y + 16 * p x (y + 1)) := by
  unfold cxS cxB
  simp only [if_true]
  omega
theorem i2l_b {b : Nat} (h : b ≤ 1) : (nI b).toInt64 = lN b := by
  have h : b = 0 ∨ b = 1 := by omega
  rcases h with rfl | rfl <;> decide
theorem or_bit {o b i : Nat} (h : b ≤ 1) : o ||| (b * 2 ^ i) = if b = 0 then o else o ||| 2 ^ i := by
  have h : b = 0 ∨ b = 1 := by omega
  rcases h with rfl | rfl
  · rw [if_pos rfl, Nat.zero_mul, Nat.or_zero]
  · rw [if_neg (by decide), Nat.one_mul]
set_option maxRecDepth 100000 in
set_option maxHeartbeats 4000000 in
theorem c_Md_walk (l : Launch) (g : Gl) (R : Nat → Nat) (dn pl ln ss pt : Nat) (th : Bool) (md : Option (Nat → Nat)) (hD : ∀ D, md = some D → ∀ i, D i ≤ 1) (n0 w h u0 : Nat) (hb : Bool) (hn : n0 < 2 ^ 64) (hu : u0 < 2 ^ 64) (hw : w ≤ 8) (hh : h ≤ 8) : Ct l g y_Md_walk b_Md_walk 14 (some .long) (rmD 2) [.ref (R 0), .long (lN n0), .int (nI w), .int (nI h), .int (bI hb), .long (lN u0)] (wKm g R dn pl ln ss pt th md (kInit md)) (fun u x => u = some (.long (lN (shY md hb (sb u0 8 8) (sb n0 8 8) w h).2)) ∧ x = wKm g R dn pl ln ss pt th md ((shY md hb (sb u0 8 8) (sb n0 8 8) w h).1)) := by
  refine ct_of [some (.ref (R 0)), some (.long (lN n0)), none, some (.int (nI w)), some (.int (nI h)), some (.int (bI hb)), some (.long (lN u0)), none, none, none, none, none, none, none] (by decide) (Nat.le_of_ble_eq_true rfl) rfl ?_
  intro X C E
  have key : ∀ (nn y : Nat) , y + nn = h → SW X g 14 0 0 (wKm g R dn pl ln ss pt th md ((shY md hb (sb u0 8 8) (sb n0 8 8) w y).1)) 6 [some (.ref (R 0)), some (.long (lN n0)), none, some (.int (nI w)), some (.int (nI h)), some (.int (bI hb)), some (.long (lN u0)), none, some (.long (lN (shY md hb (sb u0 8 8) (sb n0 8 8) w y).2)), none, some (.int (nI y)), none, none, none] [] := by
    intro nn
    induction nn with
    | zero =>
      intro y  hi 
      refine sw_iload (pc := 6) C d_Md_walk_6 rfl ?_
      refine sw_iload (pc := 8) C d_Md_walk_8 rfl ?_
      refine sw_icmp_geN (pc := 10) C 210 (by omega) (by omega) d_Md_walk_10 (by decide) (fun hx => ?_) (fun hx => ?_)
      · skip
        have ey : h = y := by omega
        subst ey
        refine sw_lload (pc := 210) C d_Md_walk_210 rfl ?_
        exact sw_lret (pc := 212) C E rfl (Nat.le_of_ble_eq_true rfl) (Nat.le_of_ble_eq_true rfl) d_Md_walk_212 ⟨rfl, rfl⟩
      omega
    | succ nn ih =>
      intro y  hi 
      refine sw_iload (pc := 6) C d_Md_walk_6 rfl ?_
      refine sw_iload (pc := 8) C d_Md_walk_8 rfl ?_
      refine sw_icmp_geN (pc := 10) C 210 (by omega) (by omega) d_Md_walk_10 (by decide) (fun hx => ?_) (fun hx => ?_)
      · skip
        omega
      have ihy := ih
      have inner : ∀ (nn x : Nat) , x + nn = w → SW X g 14 0 0 (wKm g R dn pl ln ss pt th md ((shX md hb (sb u0 8 8) (sb n0 8 8) y (shY md hb (sb u0 8 8) (sb n0 8 8) w y) x).1)) 16 [some (.ref (R 0)), some (.long (lN n0)), none, some (.int (nI w)), some (.int (nI h)), some (.int (bI hb)), some (.long (lN u0)), none, some (.long (lN (shX md hb (sb u0 8 8) (sb n0 8 8) y (shY md hb (sb u0 8 8) (sb n0 8 8) w y) x).2)), none, some (.int (nI y)), some (.int (nI x)), none, none] [] := by
        intro nn
        induction nn with
        | zero =>
          intro x  hi 
          refine sw_iload (pc := 16) C d_Md_walk_16 rfl ?_
          refine sw_iload_n (pc := 18) C d_Md_walk_18 rfl rfl ?_
          refine sw_icmp_geN (pc := 19) C 204 (by omega) (by omega) d_Md_walk_19 (by decide) (fun hx => ?_) (fun hx => ?_)
          · skip
            have ex : w = x := by omega
            subst ex
            refine sw_iincN (pc := 204) C 1 d_Md_walk_204 rfl (by decide) (by decide) rfl ?_
            refine sw_goto (pc := 207) C 6 d_Md_walk_207 (by decide) ?_
            refine sw_drop 11 ?_
            exact ihy (y + 1) (by omega)
          omega
        | succ nn ih =>
          intro x  hi 
          refine sw_iload (pc := 16) C d_Md_walk_16 rfl ?_
          refine sw_iload_n (pc := 18) C d_Md_walk_18 rfl rfl ?_
          refine sw_icmp_geN (pc := 19) C 204 (by omega) (by omega) d_Md_walk_19 (by decide) (fun hx => ?_) (fun hx => ?_)
          · skip
            omega
          have hI := shX_inv (md := md) (hb := hb) (p := (sb u0 8 8)) (giv := (sb n0 8 8)) (w := w) (y := y) (t := w * y) (s := (shY md hb (sb u0 8 8) (sb n0 8 8) w y)) (sb_le u0 8 8) hw (by omega) (shY_inv hD (sb_le u0 8 8) hw y (by omega)) x (by omega)
          have hwy : w * y ≤ 8 * 8 := Nat.mul_le_mul hw (by omega)
          obtain ⟨iK, iM, iS, iO, iB⟩ := hI
          generalize hs : (shX md hb (sb u0 8 8) (sb n0 8 8) y (shY md hb (sb u0 8 8) (sb n0 8 8) w y) x) = s at iK iM iS iO iB
          have hs1 : (shX md hb (sb u0 8 8) (sb n0 8 8) y (shY md hb (sb u0 8 8) (sb n0 8 8) w y) (x + 1)) = shStep md hb (sb u0 8 8) (sb n0 8 8) y x s := by rw [← hs]; rfl
          have hcx : (cxS hb (sb s.2 8 8) (sb u0 8 8) (x : Int) (y : Int)) < 48 := cxS_lt (sb_le s.2 8 8) (sb_le u0 8 8) x y
          have hkb : (kBit md s.1 (cxS hb (sb s.2 8 8) (sb u0 8 8) (x : Int) (y : Int)) ((sb n0 8 8) (x : Int) (y : Int))) ≤ 1 := kBit_01 (sb_le n0 8 8 x y)
          have hpw : 2 ^ (8 * y + x) < 2 ^ 64 := Nat.pow_lt_pow_right (by decide) (by omega)
          have body : SW X g 14 0 0 (wKm g R dn pl ln ss pt th md s.1) 165 [some (.ref (R 0)), some (.long (lN n0)), none, some (.int (nI w)), some (.int (nI h)), some (.int (bI hb)), some (.long (lN u0)), none, some (.long (lN s.2)), none, some (.int (nI y)), some (.int (nI x)), some (.int (nI (cxS hb (sb s.2 8 8) (sb u0 8 8) (x : Int) (y : Int)))), none] [] := by
            refine sw_aload_n (pc := 165) C d_Md_walk_165 rfl rfl ?_
            refine sw_iload (pc := 166) C d_Md_walk_166 rfl ?_
            refine sw_lload_n (pc := 168) C d_Md_walk_168 rfl rfl ?_
            refine sw_iload (pc := 169) C d_Md_walk_169 rfl ?_
            refine sw_iload (pc := 171) C d_Md_walk_171 rfl ?_
            refine sw_callSR (pc := 173) C (c_Md_at l g n0 hn (nI x) (nI y)) ss_Md_at t_672 [] rfl rfl rfl rfl (Nat.le_of_ble_eq_true rfl) (Nat.le_of_ble_eq_true rfl) (Nat.le_of_ble_eq_true rfl) (Nat.le_of_ble_eq_true rfl) (Nat.le_of_ble_eq_true rfl) d_Md_walk_173 (fun v w1 hp => ?_)
            obtain ⟨rfl, rfl⟩ := hp
            refine ⟨rfl, ?_⟩
            refine sw_topi (z := nI (sb n0 8 8 ((x : Int)) ((y : Int)))) (by rw [ti0 (show x < 2 ^ 30 by omega), ti0 (show y < 2 ^ 30 by omega)]) ?_
            refine sw_callVP (pc := 176) C (c_Md_code l g R dn pl ln ss pt th md s.1 (cxS hb (sb s.2 8 8) (sb u0 8 8) (x : Int) (y : Int)) (sb n0 8 8 (x : Int) (y : Int)) iK hcx (sb_le n0 8 8 x y) iM (by omega)) sv_Md_code t_716 rfl rfl rfl [0, 1, 2, 3] rfl rfl rfl rfl (Nat.le_of_ble_eq_true rfl) (Nat.le_of_ble_eq_true rfl) (Nat.le_of_ble_eq_true rfl) (Nat.le_of_ble_eq_true rfl) (Nat.le_of_ble_eq_true rfl) d_Md_walk_176 (fun v w1 hp => ?_)
            obtain ⟨rfl, rfl⟩ := hp
            refine ⟨rfl, ?_⟩
            refine sw_ws (ws' := wKm g R dn pl ln ss pt th md (kStep md s.1 (cxS hb (sb s.2 8 8) (sb u0 8 8) (x : Int) (y : Int)) ((sb n0 8 8) (x : Int) (y : Int)))) rfl ?_
            refine sw_istore (pc := 179) C d_Md_walk_179 (by decide) rfl ?_
            refine sw_lload (pc := 181) C d_Md_walk_181 rfl ?_
            refine sw_iload (pc := 183) C d_Md_walk_183 rfl ?_
            refine sw_i2l (pc := 185) C d_Md_walk_185 ?_
            refine sw_topl (z := lN (kBit md s.1 (cxS hb (sb s.2 8 8) (sb u0 8 8) (x : Int) (y : Int)) ((sb n0 8 8) (x : Int) (y : Int)))) (i2l_b hkb) ?_
            refine sw_bipush (pc := 186) C (nI 8) d_Md_walk_186 (by decide) ?_
            refine sw_iload (pc := 188) C d_Md_walk_188 rfl ?_
            refine sw_imul (pc := 190) C d_Md_walk_190 ?_
            refine sw_topi (z := nI (8 * y)) (pk_mul _ _) ?_
            refine sw_iload (pc := 191) C d_Md_walk_191 rfl ?_
            refine sw_iadd (pc := 193) C d_Md_walk_193 ?_
            refine sw_topi (z := nI ((8 * y) + x)) (nI_add _ _) ?_
            refine sw_lshl (pc := 194) C d_Md_walk_194 ?_
            refine sw_topl (z := lN ((kBit md s.1 (cxS hb (sb s.2 8 8) (sb u0 8 8) (x : Int) (y : Int)) ((sb n0 8 8) (x : Int) (y : Int))) * 2 ^ (8 * y + x))) (wb_shl _ (by omega)) ?_
            refine sw_lor (pc := 195) C d_Md_walk_195 ?_
            refine sw_topl (z := lN (shStep md hb (sb u0 8 8) (sb n0 8 8) y x s).2) (by rw [wb_or iO (Nat.lt_of_le_of_lt (Nat.mul_le_mul_right _ hkb) (by omega)), or_bit hkb]; rfl) ?_
            refine sw_lstore (pc := 196) C d_Md_walk_196 (by decide) rfl ?_
            refine sw_iincN (pc := 198) C 1 d_Md_walk_198 rfl (by decide) (by decide) rfl ?_
            refine sw_goto (pc := 201) C 16 d_Md_walk_201 (by decide) ?_
            refine sw_drop 12 ?_
            refine sw_drop 13 ?_
            have k1 := ih (x + 1) (by omega)
            rw [hs1] at k1
            exact k1
          refine sw_lload (pc := 22) C d_Md_walk_22 rfl ?_
          refine sw_iload (pc := 24) C d_Md_walk_24 rfl ?_
          refine sw_iconst (pc := 26) C (nI 1) d_Md_walk_26 (by decide) ?_
          refine sw_isub (pc := 27) C d_Md_walk_27 ?_
          refine sw_iload (pc := 28) C d_Md_walk_28 rfl ?_
          refine sw_callSR (pc := 30) C (c_Md_at l g s.2 iO (nI x - nI 1) (nI y)) ss_Md_at t_672 [] rfl rfl rfl rfl (Nat.le_of_ble_eq_true rfl) (Nat.le_of_ble_eq_true rfl) (Nat.le_of_ble_eq_true rfl) (Nat.le_of_ble_eq_true rfl) (Nat.le_of_ble_eq_true rfl) d_Md_walk_30 (fun v w1 hp => ?_)
          obtain ⟨rfl, rfl⟩ := hp
          refine ⟨rfl, ?_⟩
          refine sw_topi (z := nI (sb s.2 8 8 ((x : Int) - 1) ((y : Int)))) (by rw [ti1 (show x < 2 ^ 30 by omega), ti0 (show y < 2 ^ 30 by omega)]) ?_
          refine sw_istore (pc := 33) C d_Md_walk_33 (by decide) rfl ?_
          refine sw_iload (pc := 35) C d_Md_walk_35 rfl ?_
          refine sw_if_eqB (pc := 37) C 110 d_Md_walk_37 (by decide) (fun h1 => ?_) (fun h1 => ?_)
          · skip
            refine sw_iload (pc := 110) C d_Md_walk_110 rfl ?_
            refine sw_iconst (pc := 112) C (nI 2) d_Md_walk_112 (by decide) ?_
            refine sw_lload (pc := 113) C d_Md_walk_113 rfl ?_
            refine sw_iload (pc := 115) C d_Md_walk_115 rfl ?_
            refine sw_iconst (pc := 117) C (nI 1) d_Md_walk_117 (by decide) ?_
            refine sw_isub (pc := 118) C d_Md_walk_118 ?_
            refine sw_iload (pc := 119) C d_Md_walk_119 rfl ?_
            refine sw_iconst (pc := 121) C (nI 1) d_Md_walk_121 (by decide) ?_
            refine sw_isub (pc := 122) C d_Md_walk_122 ?_
            refine sw_callSR (pc := 123) C (c_Md_at l g s.2 iO (nI x - nI 1) (nI y - nI 1)) ss_Md_at t_672 [] rfl rfl rfl rfl (Nat.le_of_ble_eq_true rfl) (Nat.le_of_ble_eq_true rfl) (Nat.le_of_ble_eq_true rfl) (Nat.le_of_ble_eq_true rfl) (Nat.le_of_ble_eq_true rfl) d_Md_walk_123 (fun v w1 hp => ?_)
            obtain ⟨rfl, rfl⟩ := hp
            refine ⟨rfl, ?_⟩
            refine sw_topi (z := nI (sb s.2 8 8 ((x : Int) - 1) ((y : Int) - 1))) (by rw [ti1 (show x < 2 ^ 30 by omega), ti1 (show y < 2 ^ 30 by omega)]) ?_
            refine sw_imul (pc := 126) C d_Md_walk_126 ?_
            refine sw_topi (z := nI (2 * (sb s.2 8 8 ((x : Int) - 1) ((y : Int) - 1)))) (pk_mul _ _) ?_
            refine sw_iconst (pc := 127) C (nI 4) d_Md_walk_127 (by decide) ?_
            refine sw_lload (pc := 128) C d_Md_walk_128 rfl ?_
            refine sw_iload (pc := 130) C d_Md_walk_130 rfl ?_
            refine sw_iload (pc := 132) C d_Md_walk_132 rfl ?_
            refine sw_iconst (pc := 134) C (nI 1) d_Md_walk_134 (by decide) ?_
            refine sw_isub (pc := 135) C d_Md_walk_135 ?_
            refine sw_callSR (pc := 136) C (c_Md_at l g s.2 iO (nI x) (nI y - nI 1)) ss_Md_at t_672 [] rfl rfl rfl rfl (Nat.le_of_ble_eq_true rfl) (Nat.le_of_ble_eq_true rfl) (Nat.le_of_ble_eq_true rfl) (Nat.le_of_ble_eq_true rfl) (Nat.le_of_ble_eq_true rfl) d_Md_walk_136 (fun v w1 hp => ?_)
            obtain ⟨rfl, rfl⟩ := hp
            refine ⟨rfl, ?_⟩
            refine sw_topi (z := nI (sb s.2 8 8 ((x : Int)) ((y : Int) - 1))) (by rw [ti0 (show x < 2 ^ 30 by omega), ti1 (show y < 2 ^ 30 by omega)]) ?_
            refine sw_imul (pc := 139) C d_Md_walk_139 ?_
            refine sw_topi (z := nI (4 * (sb s.2 8 8 ((x : Int)) ((y : Int) - 1)))) (pk_mul _ _) ?_
            refine sw_iadd (pc := 140) C d_Md_walk_140 ?_
            refine sw_topi (z := nI ((2 * (sb s.2 8 8 ((x : Int) - 1) ((y : Int) - 1))) + (4 * (sb s.2 8 8 ((x : Int)) ((y : Int) - 1))))) (nI_add _ _) ?_
            refine sw_iadd (pc := 141) C d_Md_walk_141 ?_
            refine sw_topi (z := nI ((sb s.2 8 8 ((x : Int) - 1) ((y : Int))) + ((2 * (sb s.2 8 8 ((x : Int) - 1) ((y : Int) - 1))) + (4 * (sb s.2 8 8 ((x : Int)) ((y : Int) - 1)))))) (nI_add _ _) ?_
            refine sw_istore (pc := 142) C d_Md_walk_142 (by decide) rfl ?_
            refine sw_iload (pc := 144) C d_Md_walk_144 rfl ?_
            refine sw_bipush (pc := 146) C (nI 8) d_Md_walk_146 (by decide) ?_
            refine sw_lload (pc := 148) C d_Md_walk_148 rfl ?_
            refine sw_iload (pc := 150) C d_Md_walk_150 rfl ?_
            refine sw_iconst (pc := 152) C (nI 1) d_Md_walk_152 (by decide) ?_
            refine sw_iadd (pc := 153) C d_Md_walk_153 ?_
            refine sw_topi (z := nI (x + 1)) (nI_add _ _) ?_
            refine sw_iload (pc := 154) C d_Md_walk_154 rfl ?_
            refine sw_iconst (pc := 156) C (nI 1) d_Md_walk_156 (by decide) ?_
            refine sw_isub (pc := 157) C d_Md_walk_157 ?_
            refine sw_callSR (pc := 158) C (c_Md_at l g s.2 iO (nI (x + 1)) (nI y - nI 1)) ss_Md_at t_672 [] rfl rfl rfl rfl (Nat.le_of_ble_eq_true rfl) (Nat.le_of_ble_eq_true rfl) (Nat.le_of_ble_eq_true rfl) (Nat.le_of_ble_eq_true rfl) (Nat.le_of_ble_eq_true rfl) d_Md_walk_158 (fun v w1 hp => ?_)
            obtain ⟨rfl, rfl⟩ := hp
            refine ⟨rfl, ?_⟩
            refine sw_topi (z := nI (sb s.2 8 8 ((x : Int) + 1) ((y : Int) - 1))) (by rw [show (nI (x + 1)).toInt = (x : Int) + 1 from by rw [ti0 (by omega)]; omega, ti1 (show y < 2 ^ 30 by omega)]) ?_
            refine sw_imul (pc := 161) C d_Md_walk_161 ?_
            refine sw_topi (z := nI (8 * (sb s.2 8 8 ((x : Int) + 1) ((y : Int) - 1)))) (pk_mul _ _) ?_
            refine sw_iadd (pc := 162) C d_Md_walk_162 ?_
            refine sw_topi (z := nI (((sb s.2 8 8 ((x : Int) - 1) ((y : Int))) + ((2 * (sb s.2 8 8 ((x : Int) - 1) ((y : Int) - 1))) + (4 * (sb s.2 8 8 ((x : Int)) ((y : Int) - 1))))) + (8 * (sb s.2 8 8 ((x : Int) + 1) ((y : Int) - 1))))) (nI_add _ _) ?_
            refine sw_topi (z := nI (cxS hb (sb s.2 8 8) (sb u0 8 8) (x : Int) (y : Int))) (by rw [h1, cxS_f]) ?_
            refine sw_istore (pc := 163) C d_Md_walk_163 (by decide) rfl ?_
            exact body
          refine sw_iload (pc := 40) C d_Md_walk_40 rfl ?_
          refine sw_bipush (pc := 42) C (nI 16) d_Md_walk_42 (by decide) ?_
          refine sw_iconst (pc := 44) C (nI 2) d_Md_walk_44 (by decide) ?_
          refine sw_lload (pc := 45) C d_Md_walk_45 rfl ?_
          refine sw_iload (pc := 47) C d_Md_walk_47 rfl ?_
          refine sw_iload (pc := 49) C d_Md_walk_49 rfl ?_
          refine sw_iconst (pc := 51) C (nI 1) d_Md_walk_51 (by decide) ?_
          refine sw_isub (pc := 52) C d_Md_walk_52 ?_
          refine sw_callSR (pc := 53) C (c_Md_at l g s.2 iO (nI x) (nI y - nI 1)) ss_Md_at t_672 [] rfl rfl rfl rfl (Nat.le_of_ble_eq_true rfl) (Nat.le_of_ble_eq_true rfl) (Nat.le_of_ble_eq_true rfl) (Nat.le_of_ble_eq_true rfl) (Nat.le_of_ble_eq_true rfl) d_Md_walk_53 (fun v w1 hp => ?_)
          obtain ⟨rfl, rfl⟩ := hp
          refine ⟨rfl, ?_⟩
          refine sw_topi (z := nI (sb s.2 8 8 ((x : Int)) ((y : Int) - 1))) (by rw [ti0 (show x < 2 ^ 30 by omega), ti1 (show y < 2 ^ 30 by omega)]) ?_
          refine sw_imul (pc := 56) C d_Md_walk_56 ?_
          refine sw_topi (z := nI (2 * (sb s.2 8 8 ((x : Int)) ((y : Int) - 1)))) (pk_mul _ _) ?_
          refine sw_iadd (pc := 57) C d_Md_walk_57 ?_
          refine sw_topi (z := nI (16 + (2 * (sb s.2 8 8 ((x : Int)) ((y : Int) - 1))))) (nI_add _ _) ?_
          refine sw_iconst (pc := 58) C (nI 4) d_Md_walk_58 (by decide) ?_
          refine sw_lload (pc := 59) C d_Md_walk_59 rfl ?_
          refine sw_iload (pc := 61) C d_Md_walk_61 rfl ?_
          refine sw_iload (pc := 63) C d_Md_walk_63 rfl ?_
          refine sw_callSR (pc := 65) C (c_Md_at l g u0 hu (nI x) (nI y)) ss_Md_at t_672 [] rfl rfl rfl rfl (Nat.le_of_ble_eq_true rfl) (Nat.le_of_ble_eq_true rfl) (Nat.le_of_ble_eq_true rfl) (Nat.le_of_ble_eq_true rfl) (Nat.le_of_ble_eq_true rfl) d_Md_walk_65 (fun v w1 hp => ?_)
          obtain ⟨rfl, rfl⟩ := hp
          refine ⟨rfl, ?_⟩
          refine sw_topi (z := nI (sb u0 8 8 ((x : Int)) ((y : Int)))) (by rw [ti0 (show x < 2 ^ 30 by omega), ti0 (show y < 2 ^ 30 by omega)]) ?_
          refine sw_imul (pc := 68) C d_Md_walk_68 ?_
          refine sw_topi (z := nI (4 * (sb u0 8 8 ((x : Int)) ((y : Int))))) (pk_mul _ _) ?_
          refine sw_iadd (pc := 69) C d_Md_walk_69 ?_
          refine sw_topi (z := nI ((16 + (2 * (sb s.2 8 8 ((x : Int)) ((y : Int) - 1)))) + (4 * (sb u0 8 8 ((x : Int)) ((y : Int)))))) (nI_add _ _) ?_
          refine sw_iadd (pc := 70) C d_Md_walk_70 ?_
          refine sw_topi (z := nI ((sb s.2 8 8 ((x : Int) - 1) ((y : Int))) + ((16 + (2 * (sb s.2 8 8 ((x : Int)) ((y : Int) - 1)))) + (4 * (sb u0 8 8 ((x : Int)) ((y : Int))))))) (nI_add _ _) ?_
          refine sw_istore (pc := 71) C d_Md_walk_71 (by decide) rfl ?_
          refine sw_iload (pc := 73) C d_Md_walk_73 rfl ?_
          refine sw_bipush (pc := 75) C (nI 8) d_Md_walk_75 (by decide) ?_
          refine sw_lload (pc := 77) C d_Md_walk_77 rfl ?_
          refine sw_iload (pc := 79) C d_Md_walk_79 rfl ?_
          refine sw_iconst (pc := 81) C (nI 1) d_Md_walk_81 (by decide) ?_
          refine sw_iadd (pc := 82) C d_Md_walk_82 ?_
          refine sw_topi (z := nI (x + 1)) (nI_add _ _) ?_
          refine sw_iload (pc := 83) C d_Md_walk_83 rfl ?_
          refine sw_callSR (pc := 85) C (c_Md_at l g u0 hu (nI (x + 1)) (nI y)) ss_Md_at t_672 [] rfl rfl rfl rfl (Nat.le_of_ble_eq_true rfl) (Nat.le_of_ble_eq_true rfl) (Nat.le_of_ble_eq_true rfl) (Nat.le_of_ble_eq_true rfl) (Nat.le_of_ble_eq_true rfl) d_Md_walk_85 (fun v w1 hp => ?_)
          obtain ⟨rfl, rfl⟩ := hp
          refine ⟨rfl, ?_⟩
          refine sw_topi (z := nI (sb u0 8 8 ((x : Int) + 1) ((y : Int)))) (by rw [show (nI (x + 1)).toInt = (x : Int) + 1 from by rw [ti0 (by omega)]; omega, ti0 (show y < 2 ^ 30 by omega)]) ?_
          refine sw_imul (pc := 88) C d_Md_walk_88 ?_
          refine sw_topi (z := nI (8 * (sb u0 8 8 ((x : Int) + 1) ((y : Int))))) (pk_mul _ _) ?_
          refine sw_bipush (pc := 89) C (nI 16) d_Md_walk_89 (by decide) ?_
          refine sw_lload (pc := 91) C d_Md_walk_91 rfl ?_
          refine sw_iload (pc := 93) C d_Md_walk_93 rfl ?_
          refine sw_iload (pc := 95) C d_Md_walk_95 rfl ?_
          refine sw_iconst (pc := 97) C (nI 1) d_Md_walk_97 (by decide) ?_
          refine sw_iadd (pc := 98) C d_Md_walk_98 ?_
          refine sw_topi (z := nI (y + 1)) (nI_add _ _) ?_
          refine sw_callSR (pc := 99) C (c_Md_at l g u0 hu (nI x) (nI (y + 1))) ss_Md_at t_672 [] rfl rfl rfl rfl (Nat.le_of_ble_eq_true rfl) (Nat.le_of_ble_eq_true rfl) (Nat.le_of_ble_eq_true rfl) (Nat.le_of_ble_eq_true rfl) (Nat.le_of_ble_eq_true rfl) d_Md_walk_99 (fun v w1 hp => ?_)
          obtain ⟨rfl, rfl⟩ := hp
          refine ⟨rfl, ?_⟩
          refine sw_topi (z := nI (sb u0 8 8 ((x : Int)) ((y : Int) + 1))) (by rw [ti0 (show x < 2 ^ 30 by omega), show (nI (y + 1)).toInt = (y : Int) + 1 from by rw [ti0 (by omega)]; omega]) ?_
          refine sw_imul (pc := 102) C d_Md_walk_102 ?_
          refine sw_topi (z := nI (16 * (sb u0 8 8 ((x : Int)) ((y : Int) + 1)))) (pk_mul _ _) ?_
          refine sw_iadd (pc := 103) C d_Md_walk_103 ?_
          refine sw_topi (z := nI ((8 * (sb u0 8 8 ((x : Int) + 1) ((y : Int)))) + (16 * (sb u0 8 8 ((x : Int)) ((y : Int) + 1))))) (nI_add _ _) ?_
          refine sw_iadd (pc := 104) C d_Md_walk_104 ?_
          refine sw_topi (z := nI (((sb s.2 8 8 ((x : Int) - 1) ((y : Int))) + ((16 + (2 * (sb s.2 8 8 ((x : Int)) ((y : Int) - 1)))) + (4 * (sb u0 8 8 ((x : Int)) ((y : Int)))))) + ((8 * (sb u0 8 8 ((x : Int) + 1) ((y : Int)))) + (16 * (sb u0 8 8 ((x : Int)) ((y : Int) + 1)))))) (nI_add _ _) ?_
          refine sw_topi (z := nI (cxS hb (sb s.2 8 8) (sb u0 8 8) (x : Int) (y : Int))) (by rw [h1, cxS_t]) ?_
          refine sw_istore (pc := 105) C d_Md_walk_105 (by decide) rfl ?_
          refine sw_goto (pc := 107) C 165 d_Md_walk_107 (by decide) ?_
          exact body
      refine sw_iconst (pc := 13) C (nI 0) d_Md_walk_13 (by decide) ?_
      refine sw_istore (pc := 14) C d_Md_walk_14 (by decide) rfl ?_
      exact inner w 0 (by omega)
  refine sw_lconst (pc := 0) C 0 d_Md_walk_0 (by decide) ?_
  refine sw_lstore (pc := 1) C d_Md_walk_1 (by decide) rfl ?_
  refine sw_iconst (pc := 3) C (nI 0) d_Md_walk_3 (by decide) ?_
  refine sw_istore (pc := 4) C d_Md_walk_4 (by decide) rfl ?_
  exact key h 0 (by omega)
