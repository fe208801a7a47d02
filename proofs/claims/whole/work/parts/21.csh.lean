/-! LayeredPage$Page.codeShape -/
theorem bit_tb (n i : Nat) : n / 2 ^ i % 2 = if n.testBit i = true then 1 else 0 := by
  rw [Nat.testBit_eq_decide_div_mod_eq]
  by_cases h : n / 2 ^ i % 2 = 1
  · rw [decide_eq_true h, h]; rfl
  · rw [decide_eq_false h]; simp; omega
theorem sb_tb {n w h x y : Nat} (hx : x < w) (hy : y < h) : sb n w h x y = if n.testBit (8 * y + x) = true then 1 else 0 := by rw [sb_in hx hy, bit_tb]
theorem sb_out {n w h : Nat} {x y : Int} (e : x < 0 ∨ (w : Int) ≤ x ∨ y < 0 ∨ (h : Int) ≤ y) : sb n w h x y = 0 := by
  unfold sb
  rw [if_neg (by omega)]
/-- bits that stand inside alone are the same to both -/
theorem sb_88 {n w h : Nat} (hw : w ≤ 8) (hh : h ≤ 8) (hin : ∀ i j, i < 8 → n.testBit (8 * j + i) = true → i < w ∧ j < h) : sb n w h = sb n 8 8 := by
  funext x y
  by_cases h1 : x < 0 ∨ y < 0 ∨ 8 ≤ x ∨ 8 ≤ y
  · rw [sb_out (by omega), sb_out (by omega)]
  · obtain ⟨i, rfl⟩ : ∃ i : Nat, x = i := ⟨x.toNat, by omega⟩
    obtain ⟨j, rfl⟩ : ∃ j : Nat, y = j := ⟨y.toNat, by omega⟩
    rw [sb_tb (w := 8) (h := 8) (by omega) (by omega)]
    by_cases h2 : i < w ∧ j < h
    · rw [sb_tb h2.1 h2.2]
    · rw [sb_out (by omega), if_neg]
      intro q
      exact h2 (hin i j (by omega) q)
/-- the shape's bits as far as they are coded -/
def shOwn (b0 w y x : Nat) (o : Nat) : Prop := ∀ i j, i < 8 → o.testBit (8 * j + i) = (decide (i < w ∧ (j < y ∨ (j = y ∧ i < x))) && b0.testBit (8 * j + i))
theorem cx_own {b0 w h y x o : Nat} {hb : Bool} {p : Int → Int → Nat} (hw : w ≤ 8) (hh : h ≤ 8) (hx : x < w) (hy : y < h) (H : shOwn b0 w y x o) : cxS hb (sb o 8 8) p x y = cxS hb (sb b0 w h) p x y := by
  have key : ∀ a c : Int, (c = y ∧ a < x) ∨ (c = (y : Int) - 1 ∧ a ≤ (x : Int) + 1) → sb o 8 8 a c = sb b0 w h a c := by
    intro a c hac
    by_cases h1 : a < 0 ∨ c < 0
    · rw [sb_out (by omega), sb_out (by omega)]
    · obtain ⟨i, rfl⟩ : ∃ i : Nat, a = i := ⟨a.toNat, by omega⟩
      obtain ⟨j, rfl⟩ : ∃ j : Nat, c = j := ⟨c.toNat, by omega⟩
      by_cases h2 : i < w
      · rw [sb_tb (w := 8) (h := 8) (by omega) (by omega), sb_tb h2 (by omega), H i j (by omega), decide_eq_true (by omega), Bool.true_and]
      · rw [sb_out (n := b0) (by omega)]
        by_cases h3 : i < 8
        · rw [sb_tb (w := 8) (h := 8) h3 (by omega), H i j h3, decide_eq_false (by omega)]; rfl
        · rw [sb_out (by omega)]
  unfold cxS cxA cxB
  rw [key (x - 1) y (by omega), key (x - 1) (y - 1) (by omega), key x (y - 1) (by omega), key (x + 1) (y - 1) (by omega)]
theorem shOwn_step {b0 w h y x o : Nat} (hw : w ≤ 8) (hx : x < w) (hy : y < h) (hh : h ≤ 8) (H : shOwn b0 w y x o) : shOwn b0 w y (x + 1) (if sb b0 w h x y = 0 then o else o ||| 2 ^ (8 * y + x)) := by
  intro i j hi
  cases hbb : b0.testBit (8 * y + x) with
  | true =>
    rw [sb_tb hx hy, hbb, if_pos rfl, if_neg (by decide), Nat.testBit_or, H i j hi, Nat.testBit_two_pow]
    by_cases e : i = x ∧ j = y
    · obtain ⟨rfl, rfl⟩ := e
      rw [hbb, decide_eq_true (show 8 * j + i = 8 * j + i from rfl), Bool.or_true, decide_eq_true (by omega)]
      rfl
    · rw [decide_eq_false (show ¬ 8 * y + x = 8 * j + i by omega), Bool.or_false]
      congr 1
      apply decide_eq_decide.mpr
      omega
  | false =>
    have e0 : sb b0 w h x y = 0 := by rw [sb_tb hx hy, hbb]; rfl
    rw [e0, if_pos rfl, H i j hi]
    by_cases e : i = x ∧ j = y
    · obtain ⟨rfl, rfl⟩ := e
      rw [hbb, Bool.and_false, Bool.and_false]
    · congr 1
      apply decide_eq_decide.mpr
      omega
theorem shX_own {b0 w h y : Nat} {hb : Bool} {p : Int → Int → Nat} {s : SH} (hw : w ≤ 8) (hh : h ≤ 8) (hy : y < h) (H : shOwn b0 w y 0 s.2) : ∀ x, x ≤ w → shOwn b0 w y x (shX none hb p (sb b0 w h) y s x).2
  | 0, _ => H
  | x + 1, hx => shOwn_step hw (by omega) hy hh (shX_own hw hh hy H x (by omega))
theorem shOwn_next {b0 w y o : Nat} (H : shOwn b0 w y w o) : shOwn b0 w (y + 1) 0 o := by
  intro i j hi
  rw [H i j hi]
  congr 1
  apply decide_eq_decide.mpr
  omega
theorem shY_own {b0 w h : Nat} {hb : Bool} {p : Int → Int → Nat} (hw : w ≤ 8) (hh : h ≤ 8) : ∀ y, y ≤ h → shOwn b0 w y 0 (shY none hb p (sb b0 w h) w y).2
  | 0, _ => fun i j _ => by
    show (0 : Nat).testBit _ = _
    rw [Nat.zero_testBit, decide_eq_false (by omega)]
    rfl
  | y + 1, hy => shOwn_next (shX_own hw hh (by omega) (shY_own hw hh y (by omega)) w (Nat.le_refl _))
theorem or_set {b i : Nat} (h : b.testBit i = true) : b ||| 2 ^ i = b := by
  apply Nat.eq_of_testBit_eq
  intro j
  rw [Nat.testBit_or, Nat.testBit_two_pow]
  by_cases e : i = j
  · subst e; rw [h]; rfl
  · rw [decide_eq_false e, Bool.or_false]
set_option maxRecDepth 100000 in
set_option maxHeartbeats 4000000 in
theorem c_csh_wA (l : Launch) (g : Gl) (A : Nat → Nat) (nS nP k w h : Nat) (b0 : Nat) (hb0 : b0 < 2 ^ 64) (hS : nS ≤ 8) (hk : k < 8) (hw : w ≤ 8) (hh : h ≤ 8) (bs : Int32) (hbs : inR nS bs = false) (a z o r : Nat) (l0 : List Nat) (h1 : 1 ≤ l0.length) (hst : l0.length + 42 < 1200) : Ct l g y_Pg_codeShape b_Pg_codeShape 8 none (rmD 2) [.ref (A 0), .int (nI k), .ref a] ([pgC A nS nP, shA g A] ++ wKw g a z o r l0 (kInit none) ++ [shC (A (14 + k)) b0 w h bs]) (fun u q => u = none ∧ q = [pgC A nS nP, shA g A] ++ wKw g a z o r l0 (shY none false (fun _ _ => 0) (sb b0 w h) w h).1 ++ [shC (A (14 + k)) b0 w h bs]) := by
  refine ct_of [some (.ref (A 0)), some (.int (nI k)), some (.ref a), none, none, none, none, none] (by decide) (Nat.le_of_ble_eq_true rfl) rfl ?_
  intro X C E
  refine sw_aload_n (pc := 0) C d_Pg_codeShape_0 rfl rfl ?_
  refine sw_get (pc := 1) C inPg 0 rfl rfl 0 (by decide) t_186 rfl rfl d_Pg_codeShape_1 ?_
  refine sw_iload_n (pc := 4) C d_Pg_codeShape_4 rfl rfl ?_
  refine sw_aaldN (pc := 5) C 1 k rfl rfl (by omega) (by decide) d_Pg_codeShape_5 ?_
  refine sw_st (st' := .ref (A (14 + k)) :: _) rfl ?_
  refine sw_astore_n (pc := 6) C d_Pg_codeShape_6 rfl (by decide) rfl ?_
  refine sw_aload_n (pc := 7) C d_Pg_codeShape_7 rfl rfl ?_
  refine sw_aload_n (pc := 8) C d_Pg_codeShape_8 rfl rfl ?_
  refine sw_get (pc := 9) C inSh 6 rfl rfl 3 (by decide) t_176 rfl rfl d_Pg_codeShape_9 ?_
  refine sw_callVR (pc := 12) C (c_hasShape l g A nS nP hS bs) sv_Pg_hasShape t_354 rfl rfl rfl [0] rfl rfl rfl rfl (Nat.le_of_ble_eq_true rfl) (Nat.le_of_ble_eq_true rfl) (Nat.le_of_ble_eq_true rfl) (Nat.le_of_ble_eq_true rfl) (Nat.le_of_ble_eq_true rfl) d_Pg_codeShape_12 (fun v w1 hp => ?_)
  obtain ⟨rfl, rfl⟩ := hp
  refine ⟨rfl, ?_⟩
  refine sw_if_eqB (pc := 15) C 30 d_Pg_codeShape_15 (by decide) (fun g1 => ?_) (fun g1 => ?_)
  · skip
    refine sw_null (pc := 30) C d_Pg_codeShape_30 ?_
    refine sw_astoreN (pc := 31) C d_Pg_codeShape_31 (by decide) rfl ?_
    refine sw_iconst (pc := 33) C (nI 0) d_Pg_codeShape_33 (by decide) ?_
    refine sw_istore (pc := 34) C d_Pg_codeShape_34 (by decide) rfl ?_
    have key : ∀ (d y : Nat) (o6 o7 : Option Value), y + d = h → SW X g 8 0 0 ([pgC A nS nP, shA g A] ++ wKw g a z o r l0 (shY none false (fun _ _ => 0) (sb b0 w h) w y).1 ++ [shC (A (14 + k)) b0 w h bs]) 36 [some (.ref (A 0)), some (.int (nI k)), some (.ref a), some (.ref (A (14 + k))), some .null, some (.int (nI y)), o6, o7] [] := by
      intro d
      induction d with
      | zero =>
        intro y o6 o7 hy
        refine sw_iload (pc := 36) C d_Pg_codeShape_36 rfl ?_
        refine sw_aload_n (pc := 38) C d_Pg_codeShape_38 rfl rfl ?_
        refine sw_get (pc := 39) C inSh 6 rfl rfl 2 (by decide) t_173 rfl rfl d_Pg_codeShape_39 ?_
        refine sw_topi (z := nI h) rfl ?_
        refine sw_icmp_geN (pc := 42) C 134 (by omega) (by omega) d_Pg_codeShape_42 (by decide) (fun g2 => ?_) (fun g2 => ?_)
        · skip
          have ey : y = h := by omega
          subst ey
          exact sw_vret (pc := 134) C E rfl (Nat.le_of_ble_eq_true rfl) (Nat.le_of_ble_eq_true rfl) d_Pg_codeShape_134 ⟨rfl, rfl⟩
        omega
      | succ d ih =>
        intro y o6 o7 hy
        refine sw_iload (pc := 36) C d_Pg_codeShape_36 rfl ?_
        refine sw_aload_n (pc := 38) C d_Pg_codeShape_38 rfl rfl ?_
        refine sw_get (pc := 39) C inSh 6 rfl rfl 2 (by decide) t_173 rfl rfl d_Pg_codeShape_39 ?_
        refine sw_topi (z := nI h) rfl ?_
        refine sw_icmp_geN (pc := 42) C 134 (by omega) (by omega) d_Pg_codeShape_42 (by decide) (fun g2 => ?_) (fun g2 => ?_)
        · skip
          omega
        refine sw_iconst (pc := 45) C (nI 0) d_Pg_codeShape_45 (by decide) ?_
        refine sw_istore (pc := 46) C d_Pg_codeShape_46 (by decide) rfl ?_
        have kin : ∀ (e x : Nat) (o7 : Option Value), x + e = w → SW X g 8 0 0 ([pgC A nS nP, shA g A] ++ wKw g a z o r l0 (shX none false (fun _ _ => 0) (sb b0 w h) y (shY none false (fun _ _ => 0) (sb b0 w h) w y) x).1 ++ [shC (A (14 + k)) b0 w h bs]) 48 [some (.ref (A 0)), some (.int (nI k)), some (.ref a), some (.ref (A (14 + k))), some .null, some (.int (nI y)), some (.int (nI x)), o7] [] := by
          intro e
          induction e with
          | zero =>
            intro x o7 hx
            refine sw_iload (pc := 48) C d_Pg_codeShape_48 rfl ?_
            refine sw_aload_n (pc := 50) C d_Pg_codeShape_50 rfl rfl ?_
            refine sw_get (pc := 51) C inSh 6 rfl rfl 1 (by decide) t_170 rfl rfl d_Pg_codeShape_51 ?_
            refine sw_topi (z := nI w) rfl ?_
            refine sw_icmp_geN (pc := 54) C 128 (by omega) (by omega) d_Pg_codeShape_54 (by decide) (fun g3 => ?_) (fun g3 => ?_)
            · skip
              have ex : x = w := by omega
              subst ex
              refine sw_iincN (pc := 128) C 1 d_Pg_codeShape_128 rfl (by decide) (by decide) rfl ?_
              refine sw_goto (pc := 131) C 36 d_Pg_codeShape_131 (by decide) ?_
              exact ih (y + 1) _ _ (by omega)
            omega
          | succ e ih2 =>
            intro x o7 hx
            refine sw_iload (pc := 48) C d_Pg_codeShape_48 rfl ?_
            refine sw_aload_n (pc := 50) C d_Pg_codeShape_50 rfl rfl ?_
            refine sw_get (pc := 51) C inSh 6 rfl rfl 1 (by decide) t_170 rfl rfl d_Pg_codeShape_51 ?_
            refine sw_topi (z := nI w) rfl ?_
            refine sw_icmp_geN (pc := 54) C 128 (by omega) (by omega) d_Pg_codeShape_54 (by decide) (fun g3 => ?_) (fun g3 => ?_)
            · skip
              omega
            have hJ := shX_inv (md := none) (hb := false) (p := (fun _ _ => 0)) (giv := (sb b0 w h)) (fun _ _ => Nat.zero_le _) hw (show y < 8 by omega) (shY_inv (md := none) (hb := false) (p := (fun _ _ => 0)) (giv := (sb b0 w h)) (fun D h => by cases h) (fun _ _ => Nat.zero_le _) hw y (by omega)) x (by omega)
            have hsc := hJ.2.2.1
            have hcx : cxS false (sb (shX none false (fun _ _ => 0) (sb b0 w h) y (shY none false (fun _ _ => 0) (sb b0 w h) w y) x).2 8 8) (fun _ _ => 0) x y < 48 := cxS_lt (sb_le _ _ _) (fun _ _ => Nat.zero_le _) x y
            have hwy : w * y ≤ 8 * 7 := Nat.mul_le_mul hw (by omega)
            have hO := shX_own (b0 := b0) (hb := false) (p := (fun _ _ => 0)) hw hh (show y < h by omega) (shY_own (b0 := b0) (hb := false) (p := (fun _ _ => 0)) hw hh y (by omega)) x (by omega)
            have hcq : cxS false (sb b0 w h) (fun _ _ => 0) x y = cxS false (sb (shX none false (fun _ _ => 0) (sb b0 w h) y (shY none false (fun _ _ => 0) (sb b0 w h) w y) x).2 8 8) (fun _ _ => 0) x y := (cx_own hw hh g3 (show y < h by omega) hO).symm
            refine sw_aloadN (pc := 57) C d_Pg_codeShape_57 rfl ?_
            refine sw_ifnonnullN (pc := 59) C d_Pg_codeShape_59 ?_
            refine sw_aload_n (pc := 62) C d_Pg_codeShape_62 rfl rfl ?_
            refine sw_iload (pc := 63) C d_Pg_codeShape_63 rfl ?_
            refine sw_iload (pc := 65) C d_Pg_codeShape_65 rfl ?_
            refine sw_callVR (pc := 67) C (c_ctxA l g (A (14 + k)) b0 w h bs hb0 hw hh x y (by omega) (by omega)) sv_Sh_contextAlone t_355 rfl rfl rfl [6] rfl rfl rfl rfl (Nat.le_of_ble_eq_true rfl) (Nat.le_of_ble_eq_true rfl) (Nat.le_of_ble_eq_true rfl) (Nat.le_of_ble_eq_true rfl) (Nat.le_of_ble_eq_true rfl) d_Pg_codeShape_67 (fun v w1 hp => ?_)
            obtain ⟨rfl, rfl⟩ := hp
            refine ⟨rfl, ?_⟩
            refine sw_topi (z := nI (cxS false (sb (shX none false (fun _ _ => 0) (sb b0 w h) y (shY none false (fun _ _ => 0) (sb b0 w h) w y) x).2 8 8) (fun _ _ => 0) x y)) (by rw [← hcq]; rfl) ?_
            refine sw_goto (pc := 70) C 83 d_Pg_codeShape_70 (by decide) ?_
            refine sw_istore (pc := 83) C d_Pg_codeShape_83 (by decide) rfl ?_
            refine sw_aload_n (pc := 85) C d_Pg_codeShape_85 rfl rfl ?_
            refine sw_iload (pc := 86) C d_Pg_codeShape_86 rfl ?_
            refine sw_aload_n (pc := 88) C d_Pg_codeShape_88 rfl rfl ?_
            refine sw_iload (pc := 89) C d_Pg_codeShape_89 rfl ?_
            refine sw_iload (pc := 91) C d_Pg_codeShape_91 rfl ?_
            refine sw_callVR (pc := 93) C (c_bitAt l g (A (14 + k)) b0 w h bs hb0 hw hh (nI x) (nI y)) sv_Sh_bitAt t_367 rfl rfl rfl [6] rfl rfl rfl rfl (Nat.le_of_ble_eq_true rfl) (Nat.le_of_ble_eq_true rfl) (Nat.le_of_ble_eq_true rfl) (Nat.le_of_ble_eq_true rfl) (Nat.le_of_ble_eq_true rfl) d_Pg_codeShape_93 (fun v w1 hp => ?_)
            obtain ⟨rfl, rfl⟩ := hp
            refine ⟨rfl, ?_⟩
            refine sw_topi (z := nI (sb b0 w h x y)) (by rw [ti0 (by omega), ti0 (by omega)]) ?_
            refine sw_callUP (pc := 96) C (c_codeS_w l g a z o r l0 (shX none false (fun _ _ => 0) (sb b0 w h) y (shY none false (fun _ _ => 0) (sb b0 w h) w y) x).1 (cxS false (sb (shX none false (fun _ _ => 0) (sb b0 w h) y (shY none false (fun _ _ => 0) (sb b0 w h) w y) x).2 8 8) (fun _ _ => 0) x y) (sb b0 w h x y) hJ.1 hcx (sb_le _ _ _ _ _) h1 (by omega)) su_Cw_Cd_code t_368 rfl rfl rfl rfl [2, 3, 4, 5] rfl rfl rfl rfl (Nat.le_of_ble_eq_true rfl) (Nat.le_of_ble_eq_true rfl) (Nat.le_of_ble_eq_true rfl) (Nat.le_of_ble_eq_true rfl) (Nat.le_of_ble_eq_true rfl) d_Pg_codeShape_96 (fun v w1 hp => ?_)
            obtain ⟨rfl, rfl⟩ := hp
            refine ⟨rfl, ?_⟩
            refine sw_ws (ws' := [pgC A nS nP, shA g A] ++ wKw g a z o r l0 (kStep none (shX none false (fun _ _ => 0) (sb b0 w h) y (shY none false (fun _ _ => 0) (sb b0 w h) w y) x).1 (cxS false (sb (shX none false (fun _ _ => 0) (sb b0 w h) y (shY none false (fun _ _ => 0) (sb b0 w h) w y) x).2 8 8) (fun _ _ => 0) x y) (sb b0 w h x y)) ++ [shC (A (14 + k)) b0 w h bs]) rfl ?_
            refine sw_topi (z := nI (kBit none (shX none false (fun _ _ => 0) (sb b0 w h) y (shY none false (fun _ _ => 0) (sb b0 w h) w y) x).1 (cxS false (sb (shX none false (fun _ _ => 0) (sb b0 w h) y (shY none false (fun _ _ => 0) (sb b0 w h) w y) x).2 8 8) (fun _ _ => 0) x y) (sb b0 w h x y))) rfl ?_
            have hkb1 : (kBit none (shX none false (fun _ _ => 0) (sb b0 w h) y (shY none false (fun _ _ => 0) (sb b0 w h) w y) x).1 (cxS false (sb (shX none false (fun _ _ => 0) (sb b0 w h) y (shY none false (fun _ _ => 0) (sb b0 w h) w y) x).2 8 8) (fun _ _ => 0) x y) (sb b0 w h x y)) ≤ 1 := kBit_01 (sb_le _ _ _ _ _)
            refine sw_iconst (pc := 99) C (nI 1) d_Pg_codeShape_99 (by decide) ?_
            refine sw_icmp_neN (pc := 100) C 122 (by omega) (by omega) d_Pg_codeShape_100 (by decide) (fun g4 => ?_) (fun g4 => ?_)
            · skip
              skip
              refine sw_iincN (pc := 122) C 1 d_Pg_codeShape_122 rfl (by decide) (by decide) rfl ?_
              refine sw_goto (pc := 125) C 48 d_Pg_codeShape_125 (by decide) ?_
              exact ih2 (x + 1) _ (by omega)
            refine sw_aload_n (pc := 103) C d_Pg_codeShape_103 rfl rfl ?_
            refine sw_dup (pc := 104) C d_Pg_codeShape_104 rfl ?_
            refine sw_get (pc := 105) C inSh 6 rfl rfl 0 (by decide) t_166 rfl rfl d_Pg_codeShape_105 ?_
            refine sw_lconst (pc := 108) C 1 d_Pg_codeShape_108 (by decide) ?_
            refine sw_bipush (pc := 109) C (nI 8) d_Pg_codeShape_109 (by decide) ?_
            refine sw_iload (pc := 111) C d_Pg_codeShape_111 rfl ?_
            refine sw_imul (pc := 113) C d_Pg_codeShape_113 ?_
            refine sw_topi (z := nI (8 * y)) (pk_mul _ _) ?_
            refine sw_iload (pc := 114) C d_Pg_codeShape_114 rfl ?_
            refine sw_iadd (pc := 116) C d_Pg_codeShape_116 ?_
            refine sw_topi (z := nI ((8 * y) + x)) (nI_add _ _) ?_
            refine sw_lshl (pc := 117) C d_Pg_codeShape_117 ?_
            refine sw_topl (z := lN (1 * 2 ^ (8 * y + x))) (wb_shl 1 (by omega)) ?_
            refine sw_lor (pc := 118) C d_Pg_codeShape_118 ?_
            refine sw_topl (z := lN (b0 ||| 1 * 2 ^ (8 * y + x))) (wb_or hb0 (by rw [Nat.one_mul]; exact Nat.pow_lt_pow_right (by decide) (by omega))) ?_
            refine sw_topl (z := lN b0) (by have hbt : b0.testBit (8 * y + x) = true := (by have q4 : sb b0 w h x y = 1 := g4; rw [sb_tb g3 (show y < h by omega)] at q4; exact (by by_cases e9 : b0.testBit (8 * y + x) = true; exact e9; rw [if_neg e9] at q4; cases q4)); rw [Nat.one_mul, or_set hbt]) ?_
            refine sw_put (pc := 119) C inSh 6 rfl rfl 0 (by decide) tySh okSh nmSh t_166 rfl rfl (ty := .long) (by decide +kernel) rfl rfl (Nat.le_of_ble_eq_true rfl) d_Pg_codeShape_119 ?_
            refine sw_iincN (pc := 122) C 1 d_Pg_codeShape_122 rfl (by decide) (by decide) rfl ?_
            refine sw_goto (pc := 125) C 48 d_Pg_codeShape_125 (by decide) ?_
            exact ih2 (x + 1) _ (by omega)
        exact kin w 0 _ (by omega)
    exact key h 0 _ _ (by omega)
  rw [hbs] at g1; cases g1
set_option maxRecDepth 100000 in
set_option maxHeartbeats 4000000 in
theorem c_csh_rA (l : Launch) (g : Gl) (A : Nat → Nat) (nS nP k w h : Nat) (hS : nS ≤ 8) (hk : k < 8) (hw : w ≤ 8) (hh : h ≤ 8) (bs : Int32) (hbs : inR nS bs = false) (a z o r : Nat) (l0 : List Nat) (fr en : Nat) (hfe : fr ≤ en) (hen : en ≤ 1200) (hl : ∀ k, l0.getD k 0 < 256) : Ct l g y_Pg_codeShape b_Pg_codeShape 8 none (rmD 2) [.ref (A 0), .int (nI k), .ref a] ([pgC A nS nP, shA g A] ++ wKr g a z o r l0 fr en (kInit (some (dgt l0 fr en))) ++ [shC (A (14 + k)) 0 w h bs]) (fun u q => u = none ∧ q = [pgC A nS nP, shA g A] ++ wKr g a z o r l0 fr en (shY (some (dgt l0 fr en)) false (fun _ _ => 0) (fun _ _ => 0) w h).1 ++ [shC (A (14 + k)) (shY (some (dgt l0 fr en)) false (fun _ _ => 0) (fun _ _ => 0) w h).2 w h bs]) := by
  refine ct_of [some (.ref (A 0)), some (.int (nI k)), some (.ref a), none, none, none, none, none] (by decide) (Nat.le_of_ble_eq_true rfl) rfl ?_
  intro X C E
  refine sw_aload_n (pc := 0) C d_Pg_codeShape_0 rfl rfl ?_
  refine sw_get (pc := 1) C inPg 0 rfl rfl 0 (by decide) t_186 rfl rfl d_Pg_codeShape_1 ?_
  refine sw_iload_n (pc := 4) C d_Pg_codeShape_4 rfl rfl ?_
  refine sw_aaldN (pc := 5) C 1 k rfl rfl (by omega) (by decide) d_Pg_codeShape_5 ?_
  refine sw_st (st' := .ref (A (14 + k)) :: _) rfl ?_
  refine sw_astore_n (pc := 6) C d_Pg_codeShape_6 rfl (by decide) rfl ?_
  refine sw_aload_n (pc := 7) C d_Pg_codeShape_7 rfl rfl ?_
  refine sw_aload_n (pc := 8) C d_Pg_codeShape_8 rfl rfl ?_
  refine sw_get (pc := 9) C inSh 6 rfl rfl 3 (by decide) t_176 rfl rfl d_Pg_codeShape_9 ?_
  refine sw_callVR (pc := 12) C (c_hasShape l g A nS nP hS bs) sv_Pg_hasShape t_354 rfl rfl rfl [0] rfl rfl rfl rfl (Nat.le_of_ble_eq_true rfl) (Nat.le_of_ble_eq_true rfl) (Nat.le_of_ble_eq_true rfl) (Nat.le_of_ble_eq_true rfl) (Nat.le_of_ble_eq_true rfl) d_Pg_codeShape_12 (fun v w1 hp => ?_)
  obtain ⟨rfl, rfl⟩ := hp
  refine ⟨rfl, ?_⟩
  refine sw_if_eqB (pc := 15) C 30 d_Pg_codeShape_15 (by decide) (fun g1 => ?_) (fun g1 => ?_)
  · skip
    refine sw_null (pc := 30) C d_Pg_codeShape_30 ?_
    refine sw_astoreN (pc := 31) C d_Pg_codeShape_31 (by decide) rfl ?_
    refine sw_iconst (pc := 33) C (nI 0) d_Pg_codeShape_33 (by decide) ?_
    refine sw_istore (pc := 34) C d_Pg_codeShape_34 (by decide) rfl ?_
    have key : ∀ (d y : Nat) (o6 o7 : Option Value), y + d = h → SW X g 8 0 0 ([pgC A nS nP, shA g A] ++ wKr g a z o r l0 fr en (shY (some (dgt l0 fr en)) false (fun _ _ => 0) (fun _ _ => 0) w y).1 ++ [shC (A (14 + k)) (shY (some (dgt l0 fr en)) false (fun _ _ => 0) (fun _ _ => 0) w y).2 w h bs]) 36 [some (.ref (A 0)), some (.int (nI k)), some (.ref a), some (.ref (A (14 + k))), some .null, some (.int (nI y)), o6, o7] [] := by
      intro d
      induction d with
      | zero =>
        intro y o6 o7 hy
        refine sw_iload (pc := 36) C d_Pg_codeShape_36 rfl ?_
        refine sw_aload_n (pc := 38) C d_Pg_codeShape_38 rfl rfl ?_
        refine sw_get (pc := 39) C inSh 6 rfl rfl 2 (by decide) t_173 rfl rfl d_Pg_codeShape_39 ?_
        refine sw_topi (z := nI h) rfl ?_
        refine sw_icmp_geN (pc := 42) C 134 (by omega) (by omega) d_Pg_codeShape_42 (by decide) (fun g2 => ?_) (fun g2 => ?_)
        · skip
          have ey : y = h := by omega
          subst ey
          exact sw_vret (pc := 134) C E rfl (Nat.le_of_ble_eq_true rfl) (Nat.le_of_ble_eq_true rfl) d_Pg_codeShape_134 ⟨rfl, rfl⟩
        omega
      | succ d ih =>
        intro y o6 o7 hy
        refine sw_iload (pc := 36) C d_Pg_codeShape_36 rfl ?_
        refine sw_aload_n (pc := 38) C d_Pg_codeShape_38 rfl rfl ?_
        refine sw_get (pc := 39) C inSh 6 rfl rfl 2 (by decide) t_173 rfl rfl d_Pg_codeShape_39 ?_
        refine sw_topi (z := nI h) rfl ?_
        refine sw_icmp_geN (pc := 42) C 134 (by omega) (by omega) d_Pg_codeShape_42 (by decide) (fun g2 => ?_) (fun g2 => ?_)
        · skip
          omega
        refine sw_iconst (pc := 45) C (nI 0) d_Pg_codeShape_45 (by decide) ?_
        refine sw_istore (pc := 46) C d_Pg_codeShape_46 (by decide) rfl ?_
        have kin : ∀ (e x : Nat) (o7 : Option Value), x + e = w → SW X g 8 0 0 ([pgC A nS nP, shA g A] ++ wKr g a z o r l0 fr en (shX (some (dgt l0 fr en)) false (fun _ _ => 0) (fun _ _ => 0) y (shY (some (dgt l0 fr en)) false (fun _ _ => 0) (fun _ _ => 0) w y) x).1 ++ [shC (A (14 + k)) (shX (some (dgt l0 fr en)) false (fun _ _ => 0) (fun _ _ => 0) y (shY (some (dgt l0 fr en)) false (fun _ _ => 0) (fun _ _ => 0) w y) x).2 w h bs]) 48 [some (.ref (A 0)), some (.int (nI k)), some (.ref a), some (.ref (A (14 + k))), some .null, some (.int (nI y)), some (.int (nI x)), o7] [] := by
          intro e
          induction e with
          | zero =>
            intro x o7 hx
            refine sw_iload (pc := 48) C d_Pg_codeShape_48 rfl ?_
            refine sw_aload_n (pc := 50) C d_Pg_codeShape_50 rfl rfl ?_
            refine sw_get (pc := 51) C inSh 6 rfl rfl 1 (by decide) t_170 rfl rfl d_Pg_codeShape_51 ?_
            refine sw_topi (z := nI w) rfl ?_
            refine sw_icmp_geN (pc := 54) C 128 (by omega) (by omega) d_Pg_codeShape_54 (by decide) (fun g3 => ?_) (fun g3 => ?_)
            · skip
              have ex : x = w := by omega
              subst ex
              refine sw_iincN (pc := 128) C 1 d_Pg_codeShape_128 rfl (by decide) (by decide) rfl ?_
              refine sw_goto (pc := 131) C 36 d_Pg_codeShape_131 (by decide) ?_
              exact ih (y + 1) _ _ (by omega)
            omega
          | succ e ih2 =>
            intro x o7 hx
            refine sw_iload (pc := 48) C d_Pg_codeShape_48 rfl ?_
            refine sw_aload_n (pc := 50) C d_Pg_codeShape_50 rfl rfl ?_
            refine sw_get (pc := 51) C inSh 6 rfl rfl 1 (by decide) t_170 rfl rfl d_Pg_codeShape_51 ?_
            refine sw_topi (z := nI w) rfl ?_
            refine sw_icmp_geN (pc := 54) C 128 (by omega) (by omega) d_Pg_codeShape_54 (by decide) (fun g3 => ?_) (fun g3 => ?_)
            · skip
              omega
            have hJ := shX_inv (md := (some (dgt l0 fr en))) (hb := false) (p := (fun _ _ => 0)) (giv := (fun _ _ => 0)) (fun _ _ => Nat.zero_le _) hw (show y < 8 by omega) (shY_inv (md := (some (dgt l0 fr en))) (hb := false) (p := (fun _ _ => 0)) (giv := (fun _ _ => 0)) (fun D h => by cases h; exact dgt_le l0 fr en) (fun _ _ => Nat.zero_le _) hw y (by omega)) x (by omega)
            have hsc := hJ.2.2.1
            have hcx : cxS false (sb (shX (some (dgt l0 fr en)) false (fun _ _ => 0) (fun _ _ => 0) y (shY (some (dgt l0 fr en)) false (fun _ _ => 0) (fun _ _ => 0) w y) x).2 8 8) (fun _ _ => 0) x y < 48 := cxS_lt (sb_le _ _ _) (fun _ _ => Nat.zero_le _) x y
            have hwy : w * y ≤ 8 * 7 := Nat.mul_le_mul hw (by omega)
            have hs88 : sb (shX (some (dgt l0 fr en)) false (fun _ _ => 0) (fun _ _ => 0) y (shY (some (dgt l0 fr en)) false (fun _ _ => 0) (fun _ _ => 0) w y) x).2 w h = sb (shX (some (dgt l0 fr en)) false (fun _ _ => 0) (fun _ _ => 0) y (shY (some (dgt l0 fr en)) false (fun _ _ => 0) (fun _ _ => 0) w y) x).2 8 8 := sb_88 hw hh (fun i j hi hq => by have := hJ.2.2.2.2 i j hi hq; omega)
            have hcq : cxS false (sb (shX (some (dgt l0 fr en)) false (fun _ _ => 0) (fun _ _ => 0) y (shY (some (dgt l0 fr en)) false (fun _ _ => 0) (fun _ _ => 0) w y) x).2 w h) (fun _ _ => 0) x y = cxS false (sb (shX (some (dgt l0 fr en)) false (fun _ _ => 0) (fun _ _ => 0) y (shY (some (dgt l0 fr en)) false (fun _ _ => 0) (fun _ _ => 0) w y) x).2 8 8) (fun _ _ => 0) x y := by rw [hs88]
            refine sw_aloadN (pc := 57) C d_Pg_codeShape_57 rfl ?_
            refine sw_ifnonnullN (pc := 59) C d_Pg_codeShape_59 ?_
            refine sw_aload_n (pc := 62) C d_Pg_codeShape_62 rfl rfl ?_
            refine sw_iload (pc := 63) C d_Pg_codeShape_63 rfl ?_
            refine sw_iload (pc := 65) C d_Pg_codeShape_65 rfl ?_
            refine sw_callVR (pc := 67) C (c_ctxA l g (A (14 + k)) (shX (some (dgt l0 fr en)) false (fun _ _ => 0) (fun _ _ => 0) y (shY (some (dgt l0 fr en)) false (fun _ _ => 0) (fun _ _ => 0) w y) x).2 w h bs hJ.2.2.2.1 hw hh x y (by omega) (by omega)) sv_Sh_contextAlone t_355 rfl rfl rfl [6] rfl rfl rfl rfl (Nat.le_of_ble_eq_true rfl) (Nat.le_of_ble_eq_true rfl) (Nat.le_of_ble_eq_true rfl) (Nat.le_of_ble_eq_true rfl) (Nat.le_of_ble_eq_true rfl) d_Pg_codeShape_67 (fun v w1 hp => ?_)
            obtain ⟨rfl, rfl⟩ := hp
            refine ⟨rfl, ?_⟩
            refine sw_topi (z := nI (cxS false (sb (shX (some (dgt l0 fr en)) false (fun _ _ => 0) (fun _ _ => 0) y (shY (some (dgt l0 fr en)) false (fun _ _ => 0) (fun _ _ => 0) w y) x).2 8 8) (fun _ _ => 0) x y)) (by rw [← hcq]; rfl) ?_
            refine sw_goto (pc := 70) C 83 d_Pg_codeShape_70 (by decide) ?_
            refine sw_istore (pc := 83) C d_Pg_codeShape_83 (by decide) rfl ?_
            refine sw_aload_n (pc := 85) C d_Pg_codeShape_85 rfl rfl ?_
            refine sw_iload (pc := 86) C d_Pg_codeShape_86 rfl ?_
            refine sw_aload_n (pc := 88) C d_Pg_codeShape_88 rfl rfl ?_
            refine sw_iload (pc := 89) C d_Pg_codeShape_89 rfl ?_
            refine sw_iload (pc := 91) C d_Pg_codeShape_91 rfl ?_
            refine sw_callVR (pc := 93) C (c_bitAt l g (A (14 + k)) (shX (some (dgt l0 fr en)) false (fun _ _ => 0) (fun _ _ => 0) y (shY (some (dgt l0 fr en)) false (fun _ _ => 0) (fun _ _ => 0) w y) x).2 w h bs hJ.2.2.2.1 hw hh (nI x) (nI y)) sv_Sh_bitAt t_367 rfl rfl rfl [6] rfl rfl rfl rfl (Nat.le_of_ble_eq_true rfl) (Nat.le_of_ble_eq_true rfl) (Nat.le_of_ble_eq_true rfl) (Nat.le_of_ble_eq_true rfl) (Nat.le_of_ble_eq_true rfl) d_Pg_codeShape_93 (fun v w1 hp => ?_)
            obtain ⟨rfl, rfl⟩ := hp
            refine ⟨rfl, ?_⟩
            refine sw_topi (z := nI (sb (shX (some (dgt l0 fr en)) false (fun _ _ => 0) (fun _ _ => 0) y (shY (some (dgt l0 fr en)) false (fun _ _ => 0) (fun _ _ => 0) w y) x).2 w h x y)) (by rw [ti0 (by omega), ti0 (by omega)]) ?_
            refine sw_callUP (pc := 96) C (c_codeS_r l g a z o r l0 fr en (shX (some (dgt l0 fr en)) false (fun _ _ => 0) (fun _ _ => 0) y (shY (some (dgt l0 fr en)) false (fun _ _ => 0) (fun _ _ => 0) w y) x).1 (cxS false (sb (shX (some (dgt l0 fr en)) false (fun _ _ => 0) (fun _ _ => 0) y (shY (some (dgt l0 fr en)) false (fun _ _ => 0) (fun _ _ => 0) w y) x).2 8 8) (fun _ _ => 0) x y) (sb (shX (some (dgt l0 fr en)) false (fun _ _ => 0) (fun _ _ => 0) y (shY (some (dgt l0 fr en)) false (fun _ _ => 0) (fun _ _ => 0) w y) x).2 w h x y) hJ.1 hcx hJ.2.1.2 hfe hen hl) su_Cr_Cd_code t_368 rfl rfl rfl rfl [2, 3, 4, 5] rfl rfl rfl rfl (Nat.le_of_ble_eq_true rfl) (Nat.le_of_ble_eq_true rfl) (Nat.le_of_ble_eq_true rfl) (Nat.le_of_ble_eq_true rfl) (Nat.le_of_ble_eq_true rfl) d_Pg_codeShape_96 (fun v w1 hp => ?_)
            obtain ⟨rfl, rfl⟩ := hp
            refine ⟨rfl, ?_⟩
            refine sw_ws (ws' := [pgC A nS nP, shA g A] ++ wKr g a z o r l0 fr en (kStep (some (dgt l0 fr en)) (shX (some (dgt l0 fr en)) false (fun _ _ => 0) (fun _ _ => 0) y (shY (some (dgt l0 fr en)) false (fun _ _ => 0) (fun _ _ => 0) w y) x).1 (cxS false (sb (shX (some (dgt l0 fr en)) false (fun _ _ => 0) (fun _ _ => 0) y (shY (some (dgt l0 fr en)) false (fun _ _ => 0) (fun _ _ => 0) w y) x).2 8 8) (fun _ _ => 0) x y) 0) ++ [shC (A (14 + k)) (shX (some (dgt l0 fr en)) false (fun _ _ => 0) (fun _ _ => 0) y (shY (some (dgt l0 fr en)) false (fun _ _ => 0) (fun _ _ => 0) w y) x).2 w h bs]) rfl ?_
            refine sw_topi (z := nI (kBit (some (dgt l0 fr en)) (shX (some (dgt l0 fr en)) false (fun _ _ => 0) (fun _ _ => 0) y (shY (some (dgt l0 fr en)) false (fun _ _ => 0) (fun _ _ => 0) w y) x).1 (cxS false (sb (shX (some (dgt l0 fr en)) false (fun _ _ => 0) (fun _ _ => 0) y (shY (some (dgt l0 fr en)) false (fun _ _ => 0) (fun _ _ => 0) w y) x).2 8 8) (fun _ _ => 0) x y) 0)) rfl ?_
            have hkb1 : (kBit (some (dgt l0 fr en)) (shX (some (dgt l0 fr en)) false (fun _ _ => 0) (fun _ _ => 0) y (shY (some (dgt l0 fr en)) false (fun _ _ => 0) (fun _ _ => 0) w y) x).1 (cxS false (sb (shX (some (dgt l0 fr en)) false (fun _ _ => 0) (fun _ _ => 0) y (shY (some (dgt l0 fr en)) false (fun _ _ => 0) (fun _ _ => 0) w y) x).2 8 8) (fun _ _ => 0) x y) 0) ≤ 1 := kBit_01 (Nat.zero_le _)
            refine sw_iconst (pc := 99) C (nI 1) d_Pg_codeShape_99 (by decide) ?_
            refine sw_icmp_neN (pc := 100) C 122 (by omega) (by omega) d_Pg_codeShape_100 (by decide) (fun g4 => ?_) (fun g4 => ?_)
            · skip
              have hown : (shX (some (dgt l0 fr en)) false (fun _ _ => 0) (fun _ _ => 0) y (shY (some (dgt l0 fr en)) false (fun _ _ => 0) (fun _ _ => 0) w y) (x + 1)).2 = (shX (some (dgt l0 fr en)) false (fun _ _ => 0) (fun _ _ => 0) y (shY (some (dgt l0 fr en)) false (fun _ _ => 0) (fun _ _ => 0) w y) x).2 := by show (if (kBit (some (dgt l0 fr en)) (shX (some (dgt l0 fr en)) false (fun _ _ => 0) (fun _ _ => 0) y (shY (some (dgt l0 fr en)) false (fun _ _ => 0) (fun _ _ => 0) w y) x).1 (cxS false (sb (shX (some (dgt l0 fr en)) false (fun _ _ => 0) (fun _ _ => 0) y (shY (some (dgt l0 fr en)) false (fun _ _ => 0) (fun _ _ => 0) w y) x).2 8 8) (fun _ _ => 0) x y) 0) = 0 then (shX (some (dgt l0 fr en)) false (fun _ _ => 0) (fun _ _ => 0) y (shY (some (dgt l0 fr en)) false (fun _ _ => 0) (fun _ _ => 0) w y) x).2 else _) = _; rw [if_pos (by omega)]
              have k9 := ih2 (x + 1)
              rw [hown] at k9
              refine sw_iincN (pc := 122) C 1 d_Pg_codeShape_122 rfl (by decide) (by decide) rfl ?_
              refine sw_goto (pc := 125) C 48 d_Pg_codeShape_125 (by decide) ?_
              exact k9 _ (by omega)
            refine sw_aload_n (pc := 103) C d_Pg_codeShape_103 rfl rfl ?_
            refine sw_dup (pc := 104) C d_Pg_codeShape_104 rfl ?_
            refine sw_get (pc := 105) C inSh 6 rfl rfl 0 (by decide) t_166 rfl rfl d_Pg_codeShape_105 ?_
            refine sw_lconst (pc := 108) C 1 d_Pg_codeShape_108 (by decide) ?_
            refine sw_bipush (pc := 109) C (nI 8) d_Pg_codeShape_109 (by decide) ?_
            refine sw_iload (pc := 111) C d_Pg_codeShape_111 rfl ?_
            refine sw_imul (pc := 113) C d_Pg_codeShape_113 ?_
            refine sw_topi (z := nI (8 * y)) (pk_mul _ _) ?_
            refine sw_iload (pc := 114) C d_Pg_codeShape_114 rfl ?_
            refine sw_iadd (pc := 116) C d_Pg_codeShape_116 ?_
            refine sw_topi (z := nI ((8 * y) + x)) (nI_add _ _) ?_
            refine sw_lshl (pc := 117) C d_Pg_codeShape_117 ?_
            refine sw_topl (z := lN (1 * 2 ^ (8 * y + x))) (wb_shl 1 (by omega)) ?_
            refine sw_lor (pc := 118) C d_Pg_codeShape_118 ?_
            refine sw_topl (z := lN ((shX (some (dgt l0 fr en)) false (fun _ _ => 0) (fun _ _ => 0) y (shY (some (dgt l0 fr en)) false (fun _ _ => 0) (fun _ _ => 0) w y) x).2 ||| 1 * 2 ^ (8 * y + x))) (wb_or hJ.2.2.2.1 (by rw [Nat.one_mul]; exact Nat.pow_lt_pow_right (by decide) (by omega))) ?_
            have hown : (shX (some (dgt l0 fr en)) false (fun _ _ => 0) (fun _ _ => 0) y (shY (some (dgt l0 fr en)) false (fun _ _ => 0) (fun _ _ => 0) w y) (x + 1)).2 = (shX (some (dgt l0 fr en)) false (fun _ _ => 0) (fun _ _ => 0) y (shY (some (dgt l0 fr en)) false (fun _ _ => 0) (fun _ _ => 0) w y) x).2 ||| 2 ^ (8 * y + x) := by show (if (kBit (some (dgt l0 fr en)) (shX (some (dgt l0 fr en)) false (fun _ _ => 0) (fun _ _ => 0) y (shY (some (dgt l0 fr en)) false (fun _ _ => 0) (fun _ _ => 0) w y) x).1 (cxS false (sb (shX (some (dgt l0 fr en)) false (fun _ _ => 0) (fun _ _ => 0) y (shY (some (dgt l0 fr en)) false (fun _ _ => 0) (fun _ _ => 0) w y) x).2 8 8) (fun _ _ => 0) x y) 0) = 0 then (shX (some (dgt l0 fr en)) false (fun _ _ => 0) (fun _ _ => 0) y (shY (some (dgt l0 fr en)) false (fun _ _ => 0) (fun _ _ => 0) w y) x).2 else _) = _; rw [if_neg (by omega)]
            have k9 := ih2 (x + 1)
            rw [hown, ← Nat.one_mul (2 ^ (8 * y + x))] at k9
            refine sw_put (pc := 119) C inSh 6 rfl rfl 0 (by decide) tySh okSh nmSh t_166 rfl rfl (ty := .long) (by decide +kernel) rfl rfl (Nat.le_of_ble_eq_true rfl) d_Pg_codeShape_119 ?_
            refine sw_iincN (pc := 122) C 1 d_Pg_codeShape_122 rfl (by decide) (by decide) rfl ?_
            refine sw_goto (pc := 125) C 48 d_Pg_codeShape_125 (by decide) ?_
            exact k9 _ (by omega)
        exact kin w 0 _ (by omega)
    exact key h 0 _ _ (by omega)
  rw [hbs] at g1; cases g1
set_option maxRecDepth 100000 in
set_option maxHeartbeats 4000000 in
theorem c_csh_wB (l : Launch) (g : Gl) (A : Nat → Nat) (nS nP k w h : Nat) (b0 : Nat) (hb0 : b0 < 2 ^ 64) (hS : nS ≤ 8) (hk : k < 8) (hw : w ≤ 8) (hh : h ≤ 8) (kb n2 w2 h2 : Nat) (bs2 : Int32) (hkb : kb < nS) (hkk : kb < k) (hn2 : n2 < 2 ^ 64) (hw2 : w2 ≤ 8) (hh2 : h2 ≤ 8) (a z o r : Nat) (l0 : List Nat) (h1 : 1 ≤ l0.length) (hst : l0.length + 42 < 1200) : Ct l g y_Pg_codeShape b_Pg_codeShape 8 none (rmD 2) [.ref (A 0), .int (nI k), .ref a] ([pgC A nS nP, shA g A] ++ wKw g a z o r l0 (kInit none) ++ [shC (A (14 + k)) b0 w h (nI kb), shC (A (14 + kb)) n2 w2 h2 bs2]) (fun u q => u = none ∧ q = [pgC A nS nP, shA g A] ++ wKw g a z o r l0 (shY none true (sb n2 w2 h2) (sb b0 w h) w h).1 ++ [shC (A (14 + k)) b0 w h (nI kb), shC (A (14 + kb)) n2 w2 h2 bs2]) := by
  refine ct_of [some (.ref (A 0)), some (.int (nI k)), some (.ref a), none, none, none, none, none] (by decide) (Nat.le_of_ble_eq_true rfl) rfl ?_
  intro X C E
  refine sw_aload_n (pc := 0) C d_Pg_codeShape_0 rfl rfl ?_
  refine sw_get (pc := 1) C inPg 0 rfl rfl 0 (by decide) t_186 rfl rfl d_Pg_codeShape_1 ?_
  refine sw_iload_n (pc := 4) C d_Pg_codeShape_4 rfl rfl ?_
  refine sw_aaldN (pc := 5) C 1 k rfl rfl (by omega) (by decide) d_Pg_codeShape_5 ?_
  refine sw_st (st' := .ref (A (14 + k)) :: _) rfl ?_
  refine sw_astore_n (pc := 6) C d_Pg_codeShape_6 rfl (by decide) rfl ?_
  refine sw_aload_n (pc := 7) C d_Pg_codeShape_7 rfl rfl ?_
  refine sw_aload_n (pc := 8) C d_Pg_codeShape_8 rfl rfl ?_
  refine sw_get (pc := 9) C inSh 6 rfl rfl 3 (by decide) t_176 rfl rfl d_Pg_codeShape_9 ?_
  refine sw_topi (z := nI kb) rfl ?_
  refine sw_callVR (pc := 12) C (c_hasShape l g A nS nP hS (nI kb)) sv_Pg_hasShape t_354 rfl rfl rfl [0] rfl rfl rfl rfl (Nat.le_of_ble_eq_true rfl) (Nat.le_of_ble_eq_true rfl) (Nat.le_of_ble_eq_true rfl) (Nat.le_of_ble_eq_true rfl) (Nat.le_of_ble_eq_true rfl) d_Pg_codeShape_12 (fun v w1 hp => ?_)
  obtain ⟨rfl, rfl⟩ := hp
  refine ⟨rfl, ?_⟩
  refine sw_if_eqB (pc := 15) C 30 d_Pg_codeShape_15 (by decide) (fun g1 => ?_) (fun g1 => ?_)
  · skip
    rw [inR_in hkb (by omega)] at g1; cases g1
  refine sw_aload_n (pc := 18) C d_Pg_codeShape_18 rfl rfl ?_
  refine sw_get (pc := 19) C inPg 0 rfl rfl 0 (by decide) t_186 rfl rfl d_Pg_codeShape_19 ?_
  refine sw_aload_n (pc := 22) C d_Pg_codeShape_22 rfl rfl ?_
  refine sw_get (pc := 23) C inSh 6 rfl rfl 3 (by decide) t_176 rfl rfl d_Pg_codeShape_23 ?_
  refine sw_topi (z := nI kb) rfl ?_
  refine sw_aaldN (pc := 26) C 1 kb rfl rfl (by omega) (by decide) d_Pg_codeShape_26 ?_
  refine sw_st (st' := .ref (A (14 + kb)) :: _) rfl ?_
  refine sw_goto (pc := 27) C 31 d_Pg_codeShape_27 (by decide) ?_
  refine sw_astore (pc := 31) C d_Pg_codeShape_31 (by decide) rfl ?_
  refine sw_iconst (pc := 33) C (nI 0) d_Pg_codeShape_33 (by decide) ?_
  refine sw_istore (pc := 34) C d_Pg_codeShape_34 (by decide) rfl ?_
  have key : ∀ (d y : Nat) (o6 o7 : Option Value), y + d = h → SW X g 8 0 0 ([pgC A nS nP, shA g A] ++ wKw g a z o r l0 (shY none true (sb n2 w2 h2) (sb b0 w h) w y).1 ++ [shC (A (14 + k)) b0 w h (nI kb), shC (A (14 + kb)) n2 w2 h2 bs2]) 36 [some (.ref (A 0)), some (.int (nI k)), some (.ref a), some (.ref (A (14 + k))), some (.ref (A (14 + kb))), some (.int (nI y)), o6, o7] [] := by
    intro d
    induction d with
    | zero =>
      intro y o6 o7 hy
      refine sw_iload (pc := 36) C d_Pg_codeShape_36 rfl ?_
      refine sw_aload_n (pc := 38) C d_Pg_codeShape_38 rfl rfl ?_
      refine sw_get (pc := 39) C inSh 6 rfl rfl 2 (by decide) t_173 rfl rfl d_Pg_codeShape_39 ?_
      refine sw_topi (z := nI h) rfl ?_
      refine sw_icmp_geN (pc := 42) C 134 (by omega) (by omega) d_Pg_codeShape_42 (by decide) (fun g2 => ?_) (fun g2 => ?_)
      · skip
        have ey : y = h := by omega
        subst ey
        exact sw_vret (pc := 134) C E rfl (Nat.le_of_ble_eq_true rfl) (Nat.le_of_ble_eq_true rfl) d_Pg_codeShape_134 ⟨rfl, rfl⟩
      omega
    | succ d ih =>
      intro y o6 o7 hy
      refine sw_iload (pc := 36) C d_Pg_codeShape_36 rfl ?_
      refine sw_aload_n (pc := 38) C d_Pg_codeShape_38 rfl rfl ?_
      refine sw_get (pc := 39) C inSh 6 rfl rfl 2 (by decide) t_173 rfl rfl d_Pg_codeShape_39 ?_
      refine sw_topi (z := nI h) rfl ?_
      refine sw_icmp_geN (pc := 42) C 134 (by omega) (by omega) d_Pg_codeShape_42 (by decide) (fun g2 => ?_) (fun g2 => ?_)
      · skip
        omega
      refine sw_iconst (pc := 45) C (nI 0) d_Pg_codeShape_45 (by decide) ?_
      refine sw_istore (pc := 46) C d_Pg_codeShape_46 (by decide) rfl ?_
      have kin : ∀ (e x : Nat) (o7 : Option Value), x + e = w → SW X g 8 0 0 ([pgC A nS nP, shA g A] ++ wKw g a z o r l0 (shX none true (sb n2 w2 h2) (sb b0 w h) y (shY none true (sb n2 w2 h2) (sb b0 w h) w y) x).1 ++ [shC (A (14 + k)) b0 w h (nI kb), shC (A (14 + kb)) n2 w2 h2 bs2]) 48 [some (.ref (A 0)), some (.int (nI k)), some (.ref a), some (.ref (A (14 + k))), some (.ref (A (14 + kb))), some (.int (nI y)), some (.int (nI x)), o7] [] := by
        intro e
        induction e with
        | zero =>
          intro x o7 hx
          refine sw_iload (pc := 48) C d_Pg_codeShape_48 rfl ?_
          refine sw_aload_n (pc := 50) C d_Pg_codeShape_50 rfl rfl ?_
          refine sw_get (pc := 51) C inSh 6 rfl rfl 1 (by decide) t_170 rfl rfl d_Pg_codeShape_51 ?_
          refine sw_topi (z := nI w) rfl ?_
          refine sw_icmp_geN (pc := 54) C 128 (by omega) (by omega) d_Pg_codeShape_54 (by decide) (fun g3 => ?_) (fun g3 => ?_)
          · skip
            have ex : x = w := by omega
            subst ex
            refine sw_iincN (pc := 128) C 1 d_Pg_codeShape_128 rfl (by decide) (by decide) rfl ?_
            refine sw_goto (pc := 131) C 36 d_Pg_codeShape_131 (by decide) ?_
            exact ih (y + 1) _ _ (by omega)
          omega
        | succ e ih2 =>
          intro x o7 hx
          refine sw_iload (pc := 48) C d_Pg_codeShape_48 rfl ?_
          refine sw_aload_n (pc := 50) C d_Pg_codeShape_50 rfl rfl ?_
          refine sw_get (pc := 51) C inSh 6 rfl rfl 1 (by decide) t_170 rfl rfl d_Pg_codeShape_51 ?_
          refine sw_topi (z := nI w) rfl ?_
          refine sw_icmp_geN (pc := 54) C 128 (by omega) (by omega) d_Pg_codeShape_54 (by decide) (fun g3 => ?_) (fun g3 => ?_)
          · skip
            omega
          have hJ := shX_inv (md := none) (hb := true) (p := (sb n2 w2 h2)) (giv := (sb b0 w h)) (fun _ _ => sb_le _ _ _ _ _) hw (show y < 8 by omega) (shY_inv (md := none) (hb := true) (p := (sb n2 w2 h2)) (giv := (sb b0 w h)) (fun D h => by cases h) (fun _ _ => sb_le _ _ _ _ _) hw y (by omega)) x (by omega)
          have hsc := hJ.2.2.1
          have hcx : cxS true (sb (shX none true (sb n2 w2 h2) (sb b0 w h) y (shY none true (sb n2 w2 h2) (sb b0 w h) w y) x).2 8 8) (sb n2 w2 h2) x y < 48 := cxS_lt (sb_le _ _ _) (fun _ _ => sb_le _ _ _ _ _) x y
          have hwy : w * y ≤ 8 * 7 := Nat.mul_le_mul hw (by omega)
          have hO := shX_own (b0 := b0) (hb := true) (p := (sb n2 w2 h2)) hw hh (show y < h by omega) (shY_own (b0 := b0) (hb := true) (p := (sb n2 w2 h2)) hw hh y (by omega)) x (by omega)
          have hcq : cxS true (sb b0 w h) (sb n2 w2 h2) x y = cxS true (sb (shX none true (sb n2 w2 h2) (sb b0 w h) y (shY none true (sb n2 w2 h2) (sb b0 w h) w y) x).2 8 8) (sb n2 w2 h2) x y := (cx_own hw hh g3 (show y < h by omega) hO).symm
          refine sw_aload (pc := 57) C d_Pg_codeShape_57 rfl ?_
          refine sw_ifnonnull (pc := 59) C 73 d_Pg_codeShape_59 (by decide) ?_
          refine sw_aload_n (pc := 73) C d_Pg_codeShape_73 rfl rfl ?_
          refine sw_aload (pc := 74) C d_Pg_codeShape_74 rfl ?_
          refine sw_iload (pc := 76) C d_Pg_codeShape_76 rfl ?_
          refine sw_iload (pc := 78) C d_Pg_codeShape_78 rfl ?_
          refine sw_callVR (pc := 80) C (c_ctxB l g (A (14 + k)) b0 w h (nI kb) hb0 hw hh (A (14 + kb)) n2 w2 h2 bs2 hn2 hw2 hh2 x y (by omega) (by omega)) sv_Sh_contextWith t_363 rfl rfl rfl [6, 7] rfl rfl rfl rfl (Nat.le_of_ble_eq_true rfl) (Nat.le_of_ble_eq_true rfl) (Nat.le_of_ble_eq_true rfl) (Nat.le_of_ble_eq_true rfl) (Nat.le_of_ble_eq_true rfl) d_Pg_codeShape_80 (fun v w1 hp => ?_)
          obtain ⟨rfl, rfl⟩ := hp
          refine ⟨rfl, ?_⟩
          refine sw_topi (z := nI (cxS true (sb (shX none true (sb n2 w2 h2) (sb b0 w h) y (shY none true (sb n2 w2 h2) (sb b0 w h) w y) x).2 8 8) (sb n2 w2 h2) x y)) (by rw [← hcq]; rfl) ?_
          refine sw_istore (pc := 83) C d_Pg_codeShape_83 (by decide) rfl ?_
          refine sw_aload_n (pc := 85) C d_Pg_codeShape_85 rfl rfl ?_
          refine sw_iload (pc := 86) C d_Pg_codeShape_86 rfl ?_
          refine sw_aload_n (pc := 88) C d_Pg_codeShape_88 rfl rfl ?_
          refine sw_iload (pc := 89) C d_Pg_codeShape_89 rfl ?_
          refine sw_iload (pc := 91) C d_Pg_codeShape_91 rfl ?_
          refine sw_callVR (pc := 93) C (c_bitAt l g (A (14 + k)) b0 w h (nI kb) hb0 hw hh (nI x) (nI y)) sv_Sh_bitAt t_367 rfl rfl rfl [6] rfl rfl rfl rfl (Nat.le_of_ble_eq_true rfl) (Nat.le_of_ble_eq_true rfl) (Nat.le_of_ble_eq_true rfl) (Nat.le_of_ble_eq_true rfl) (Nat.le_of_ble_eq_true rfl) d_Pg_codeShape_93 (fun v w1 hp => ?_)
          obtain ⟨rfl, rfl⟩ := hp
          refine ⟨rfl, ?_⟩
          refine sw_topi (z := nI (sb b0 w h x y)) (by rw [ti0 (by omega), ti0 (by omega)]) ?_
          refine sw_callUP (pc := 96) C (c_codeS_w l g a z o r l0 (shX none true (sb n2 w2 h2) (sb b0 w h) y (shY none true (sb n2 w2 h2) (sb b0 w h) w y) x).1 (cxS true (sb (shX none true (sb n2 w2 h2) (sb b0 w h) y (shY none true (sb n2 w2 h2) (sb b0 w h) w y) x).2 8 8) (sb n2 w2 h2) x y) (sb b0 w h x y) hJ.1 hcx (sb_le _ _ _ _ _) h1 (by omega)) su_Cw_Cd_code t_368 rfl rfl rfl rfl [2, 3, 4, 5] rfl rfl rfl rfl (Nat.le_of_ble_eq_true rfl) (Nat.le_of_ble_eq_true rfl) (Nat.le_of_ble_eq_true rfl) (Nat.le_of_ble_eq_true rfl) (Nat.le_of_ble_eq_true rfl) d_Pg_codeShape_96 (fun v w1 hp => ?_)
          obtain ⟨rfl, rfl⟩ := hp
          refine ⟨rfl, ?_⟩
          refine sw_ws (ws' := [pgC A nS nP, shA g A] ++ wKw g a z o r l0 (kStep none (shX none true (sb n2 w2 h2) (sb b0 w h) y (shY none true (sb n2 w2 h2) (sb b0 w h) w y) x).1 (cxS true (sb (shX none true (sb n2 w2 h2) (sb b0 w h) y (shY none true (sb n2 w2 h2) (sb b0 w h) w y) x).2 8 8) (sb n2 w2 h2) x y) (sb b0 w h x y)) ++ [shC (A (14 + k)) b0 w h (nI kb), shC (A (14 + kb)) n2 w2 h2 bs2]) rfl ?_
          refine sw_topi (z := nI (kBit none (shX none true (sb n2 w2 h2) (sb b0 w h) y (shY none true (sb n2 w2 h2) (sb b0 w h) w y) x).1 (cxS true (sb (shX none true (sb n2 w2 h2) (sb b0 w h) y (shY none true (sb n2 w2 h2) (sb b0 w h) w y) x).2 8 8) (sb n2 w2 h2) x y) (sb b0 w h x y))) rfl ?_
          have hkb1 : (kBit none (shX none true (sb n2 w2 h2) (sb b0 w h) y (shY none true (sb n2 w2 h2) (sb b0 w h) w y) x).1 (cxS true (sb (shX none true (sb n2 w2 h2) (sb b0 w h) y (shY none true (sb n2 w2 h2) (sb b0 w h) w y) x).2 8 8) (sb n2 w2 h2) x y) (sb b0 w h x y)) ≤ 1 := kBit_01 (sb_le _ _ _ _ _)
          refine sw_iconst (pc := 99) C (nI 1) d_Pg_codeShape_99 (by decide) ?_
          refine sw_icmp_neN (pc := 100) C 122 (by omega) (by omega) d_Pg_codeShape_100 (by decide) (fun g4 => ?_) (fun g4 => ?_)
          · skip
            skip
            refine sw_iincN (pc := 122) C 1 d_Pg_codeShape_122 rfl (by decide) (by decide) rfl ?_
            refine sw_goto (pc := 125) C 48 d_Pg_codeShape_125 (by decide) ?_
            exact ih2 (x + 1) _ (by omega)
          refine sw_aload_n (pc := 103) C d_Pg_codeShape_103 rfl rfl ?_
          refine sw_dup (pc := 104) C d_Pg_codeShape_104 rfl ?_
          refine sw_get (pc := 105) C inSh 6 rfl rfl 0 (by decide) t_166 rfl rfl d_Pg_codeShape_105 ?_
          refine sw_lconst (pc := 108) C 1 d_Pg_codeShape_108 (by decide) ?_
          refine sw_bipush (pc := 109) C (nI 8) d_Pg_codeShape_109 (by decide) ?_
          refine sw_iload (pc := 111) C d_Pg_codeShape_111 rfl ?_
          refine sw_imul (pc := 113) C d_Pg_codeShape_113 ?_
          refine sw_topi (z := nI (8 * y)) (pk_mul _ _) ?_
          refine sw_iload (pc := 114) C d_Pg_codeShape_114 rfl ?_
          refine sw_iadd (pc := 116) C d_Pg_codeShape_116 ?_
          refine sw_topi (z := nI ((8 * y) + x)) (nI_add _ _) ?_
          refine sw_lshl (pc := 117) C d_Pg_codeShape_117 ?_
          refine sw_topl (z := lN (1 * 2 ^ (8 * y + x))) (wb_shl 1 (by omega)) ?_
          refine sw_lor (pc := 118) C d_Pg_codeShape_118 ?_
          refine sw_topl (z := lN (b0 ||| 1 * 2 ^ (8 * y + x))) (wb_or hb0 (by rw [Nat.one_mul]; exact Nat.pow_lt_pow_right (by decide) (by omega))) ?_
          refine sw_topl (z := lN b0) (by have hbt : b0.testBit (8 * y + x) = true := (by have q4 : sb b0 w h x y = 1 := g4; rw [sb_tb g3 (show y < h by omega)] at q4; exact (by by_cases e9 : b0.testBit (8 * y + x) = true; exact e9; rw [if_neg e9] at q4; cases q4)); rw [Nat.one_mul, or_set hbt]) ?_
          refine sw_put (pc := 119) C inSh 6 rfl rfl 0 (by decide) tySh okSh nmSh t_166 rfl rfl (ty := .long) (by decide +kernel) rfl rfl (Nat.le_of_ble_eq_true rfl) d_Pg_codeShape_119 ?_
          refine sw_iincN (pc := 122) C 1 d_Pg_codeShape_122 rfl (by decide) (by decide) rfl ?_
          refine sw_goto (pc := 125) C 48 d_Pg_codeShape_125 (by decide) ?_
          exact ih2 (x + 1) _ (by omega)
      exact kin w 0 _ (by omega)
  exact key h 0 _ _ (by omega)
set_option maxRecDepth 100000 in
set_option maxHeartbeats 4000000 in
theorem c_csh_rB (l : Launch) (g : Gl) (A : Nat → Nat) (nS nP k w h : Nat) (hS : nS ≤ 8) (hk : k < 8) (hw : w ≤ 8) (hh : h ≤ 8) (kb n2 w2 h2 : Nat) (bs2 : Int32) (hkb : kb < nS) (hkk : kb < k) (hn2 : n2 < 2 ^ 64) (hw2 : w2 ≤ 8) (hh2 : h2 ≤ 8) (a z o r : Nat) (l0 : List Nat) (fr en : Nat) (hfe : fr ≤ en) (hen : en ≤ 1200) (hl : ∀ k, l0.getD k 0 < 256) : Ct l g y_Pg_codeShape b_Pg_codeShape 8 none (rmD 2) [.ref (A 0), .int (nI k), .ref a] ([pgC A nS nP, shA g A] ++ wKr g a z o r l0 fr en (kInit (some (dgt l0 fr en))) ++ [shC (A (14 + k)) 0 w h (nI kb), shC (A (14 + kb)) n2 w2 h2 bs2]) (fun u q => u = none ∧ q = [pgC A nS nP, shA g A] ++ wKr g a z o r l0 fr en (shY (some (dgt l0 fr en)) true (sb n2 w2 h2) (fun _ _ => 0) w h).1 ++ [shC (A (14 + k)) (shY (some (dgt l0 fr en)) true (sb n2 w2 h2) (fun _ _ => 0) w h).2 w h (nI kb), shC (A (14 + kb)) n2 w2 h2 bs2]) := by
  refine ct_of [some (.ref (A 0)), some (.int (nI k)), some (.ref a), none, none, none, none, none] (by decide) (Nat.le_of_ble_eq_true rfl) rfl ?_
  intro X C E
  refine sw_aload_n (pc := 0) C d_Pg_codeShape_0 rfl rfl ?_
  refine sw_get (pc := 1) C inPg 0 rfl rfl 0 (by decide) t_186 rfl rfl d_Pg_codeShape_1 ?_
  refine sw_iload_n (pc := 4) C d_Pg_codeShape_4 rfl rfl ?_
  refine sw_aaldN (pc := 5) C 1 k rfl rfl (by omega) (by decide) d_Pg_codeShape_5 ?_
  refine sw_st (st' := .ref (A (14 + k)) :: _) rfl ?_
  refine sw_astore_n (pc := 6) C d_Pg_codeShape_6 rfl (by decide) rfl ?_
  refine sw_aload_n (pc := 7) C d_Pg_codeShape_7 rfl rfl ?_
  refine sw_aload_n (pc := 8) C d_Pg_codeShape_8 rfl rfl ?_
  refine sw_get (pc := 9) C inSh 6 rfl rfl 3 (by decide) t_176 rfl rfl d_Pg_codeShape_9 ?_
  refine sw_topi (z := nI kb) rfl ?_
  refine sw_callVR (pc := 12) C (c_hasShape l g A nS nP hS (nI kb)) sv_Pg_hasShape t_354 rfl rfl rfl [0] rfl rfl rfl rfl (Nat.le_of_ble_eq_true rfl) (Nat.le_of_ble_eq_true rfl) (Nat.le_of_ble_eq_true rfl) (Nat.le_of_ble_eq_true rfl) (Nat.le_of_ble_eq_true rfl) d_Pg_codeShape_12 (fun v w1 hp => ?_)
  obtain ⟨rfl, rfl⟩ := hp
  refine ⟨rfl, ?_⟩
  refine sw_if_eqB (pc := 15) C 30 d_Pg_codeShape_15 (by decide) (fun g1 => ?_) (fun g1 => ?_)
  · skip
    rw [inR_in hkb (by omega)] at g1; cases g1
  refine sw_aload_n (pc := 18) C d_Pg_codeShape_18 rfl rfl ?_
  refine sw_get (pc := 19) C inPg 0 rfl rfl 0 (by decide) t_186 rfl rfl d_Pg_codeShape_19 ?_
  refine sw_aload_n (pc := 22) C d_Pg_codeShape_22 rfl rfl ?_
  refine sw_get (pc := 23) C inSh 6 rfl rfl 3 (by decide) t_176 rfl rfl d_Pg_codeShape_23 ?_
  refine sw_topi (z := nI kb) rfl ?_
  refine sw_aaldN (pc := 26) C 1 kb rfl rfl (by omega) (by decide) d_Pg_codeShape_26 ?_
  refine sw_st (st' := .ref (A (14 + kb)) :: _) rfl ?_
  refine sw_goto (pc := 27) C 31 d_Pg_codeShape_27 (by decide) ?_
  refine sw_astore (pc := 31) C d_Pg_codeShape_31 (by decide) rfl ?_
  refine sw_iconst (pc := 33) C (nI 0) d_Pg_codeShape_33 (by decide) ?_
  refine sw_istore (pc := 34) C d_Pg_codeShape_34 (by decide) rfl ?_
  have key : ∀ (d y : Nat) (o6 o7 : Option Value), y + d = h → SW X g 8 0 0 ([pgC A nS nP, shA g A] ++ wKr g a z o r l0 fr en (shY (some (dgt l0 fr en)) true (sb n2 w2 h2) (fun _ _ => 0) w y).1 ++ [shC (A (14 + k)) (shY (some (dgt l0 fr en)) true (sb n2 w2 h2) (fun _ _ => 0) w y).2 w h (nI kb), shC (A (14 + kb)) n2 w2 h2 bs2]) 36 [some (.ref (A 0)), some (.int (nI k)), some (.ref a), some (.ref (A (14 + k))), some (.ref (A (14 + kb))), some (.int (nI y)), o6, o7] [] := by
    intro d
    induction d with
    | zero =>
      intro y o6 o7 hy
      refine sw_iload (pc := 36) C d_Pg_codeShape_36 rfl ?_
      refine sw_aload_n (pc := 38) C d_Pg_codeShape_38 rfl rfl ?_
      refine sw_get (pc := 39) C inSh 6 rfl rfl 2 (by decide) t_173 rfl rfl d_Pg_codeShape_39 ?_
      refine sw_topi (z := nI h) rfl ?_
      refine sw_icmp_geN (pc := 42) C 134 (by omega) (by omega) d_Pg_codeShape_42 (by decide) (fun g2 => ?_) (fun g2 => ?_)
      · skip
        have ey : y = h := by omega
        subst ey
        exact sw_vret (pc := 134) C E rfl (Nat.le_of_ble_eq_true rfl) (Nat.le_of_ble_eq_true rfl) d_Pg_codeShape_134 ⟨rfl, rfl⟩
      omega
    | succ d ih =>
      intro y o6 o7 hy
      refine sw_iload (pc := 36) C d_Pg_codeShape_36 rfl ?_
      refine sw_aload_n (pc := 38) C d_Pg_codeShape_38 rfl rfl ?_
      refine sw_get (pc := 39) C inSh 6 rfl rfl 2 (by decide) t_173 rfl rfl d_Pg_codeShape_39 ?_
      refine sw_topi (z := nI h) rfl ?_
      refine sw_icmp_geN (pc := 42) C 134 (by omega) (by omega) d_Pg_codeShape_42 (by decide) (fun g2 => ?_) (fun g2 => ?_)
      · skip
        omega
      refine sw_iconst (pc := 45) C (nI 0) d_Pg_codeShape_45 (by decide) ?_
      refine sw_istore (pc := 46) C d_Pg_codeShape_46 (by decide) rfl ?_
      have kin : ∀ (e x : Nat) (o7 : Option Value), x + e = w → SW X g 8 0 0 ([pgC A nS nP, shA g A] ++ wKr g a z o r l0 fr en (shX (some (dgt l0 fr en)) true (sb n2 w2 h2) (fun _ _ => 0) y (shY (some (dgt l0 fr en)) true (sb n2 w2 h2) (fun _ _ => 0) w y) x).1 ++ [shC (A (14 + k)) (shX (some (dgt l0 fr en)) true (sb n2 w2 h2) (fun _ _ => 0) y (shY (some (dgt l0 fr en)) true (sb n2 w2 h2) (fun _ _ => 0) w y) x).2 w h (nI kb), shC (A (14 + kb)) n2 w2 h2 bs2]) 48 [some (.ref (A 0)), some (.int (nI k)), some (.ref a), some (.ref (A (14 + k))), some (.ref (A (14 + kb))), some (.int (nI y)), some (.int (nI x)), o7] [] := by
        intro e
        induction e with
        | zero =>
          intro x o7 hx
          refine sw_iload (pc := 48) C d_Pg_codeShape_48 rfl ?_
          refine sw_aload_n (pc := 50) C d_Pg_codeShape_50 rfl rfl ?_
          refine sw_get (pc := 51) C inSh 6 rfl rfl 1 (by decide) t_170 rfl rfl d_Pg_codeShape_51 ?_
          refine sw_topi (z := nI w) rfl ?_
          refine sw_icmp_geN (pc := 54) C 128 (by omega) (by omega) d_Pg_codeShape_54 (by decide) (fun g3 => ?_) (fun g3 => ?_)
          · skip
            have ex : x = w := by omega
            subst ex
            refine sw_iincN (pc := 128) C 1 d_Pg_codeShape_128 rfl (by decide) (by decide) rfl ?_
            refine sw_goto (pc := 131) C 36 d_Pg_codeShape_131 (by decide) ?_
            exact ih (y + 1) _ _ (by omega)
          omega
        | succ e ih2 =>
          intro x o7 hx
          refine sw_iload (pc := 48) C d_Pg_codeShape_48 rfl ?_
          refine sw_aload_n (pc := 50) C d_Pg_codeShape_50 rfl rfl ?_
          refine sw_get (pc := 51) C inSh 6 rfl rfl 1 (by decide) t_170 rfl rfl d_Pg_codeShape_51 ?_
          refine sw_topi (z := nI w) rfl ?_
          refine sw_icmp_geN (pc := 54) C 128 (by omega) (by omega) d_Pg_codeShape_54 (by decide) (fun g3 => ?_) (fun g3 => ?_)
          · skip
            omega
          have hJ := shX_inv (md := (some (dgt l0 fr en))) (hb := true) (p := (sb n2 w2 h2)) (giv := (fun _ _ => 0)) (fun _ _ => sb_le _ _ _ _ _) hw (show y < 8 by omega) (shY_inv (md := (some (dgt l0 fr en))) (hb := true) (p := (sb n2 w2 h2)) (giv := (fun _ _ => 0)) (fun D h => by cases h; exact dgt_le l0 fr en) (fun _ _ => sb_le _ _ _ _ _) hw y (by omega)) x (by omega)
          have hsc := hJ.2.2.1
          have hcx : cxS true (sb (shX (some (dgt l0 fr en)) true (sb n2 w2 h2) (fun _ _ => 0) y (shY (some (dgt l0 fr en)) true (sb n2 w2 h2) (fun _ _ => 0) w y) x).2 8 8) (sb n2 w2 h2) x y < 48 := cxS_lt (sb_le _ _ _) (fun _ _ => sb_le _ _ _ _ _) x y
          have hwy : w * y ≤ 8 * 7 := Nat.mul_le_mul hw (by omega)
          have hs88 : sb (shX (some (dgt l0 fr en)) true (sb n2 w2 h2) (fun _ _ => 0) y (shY (some (dgt l0 fr en)) true (sb n2 w2 h2) (fun _ _ => 0) w y) x).2 w h = sb (shX (some (dgt l0 fr en)) true (sb n2 w2 h2) (fun _ _ => 0) y (shY (some (dgt l0 fr en)) true (sb n2 w2 h2) (fun _ _ => 0) w y) x).2 8 8 := sb_88 hw hh (fun i j hi hq => by have := hJ.2.2.2.2 i j hi hq; omega)
          have hcq : cxS true (sb (shX (some (dgt l0 fr en)) true (sb n2 w2 h2) (fun _ _ => 0) y (shY (some (dgt l0 fr en)) true (sb n2 w2 h2) (fun _ _ => 0) w y) x).2 w h) (sb n2 w2 h2) x y = cxS true (sb (shX (some (dgt l0 fr en)) true (sb n2 w2 h2) (fun _ _ => 0) y (shY (some (dgt l0 fr en)) true (sb n2 w2 h2) (fun _ _ => 0) w y) x).2 8 8) (sb n2 w2 h2) x y := by rw [hs88]
          refine sw_aload (pc := 57) C d_Pg_codeShape_57 rfl ?_
          refine sw_ifnonnull (pc := 59) C 73 d_Pg_codeShape_59 (by decide) ?_
          refine sw_aload_n (pc := 73) C d_Pg_codeShape_73 rfl rfl ?_
          refine sw_aload (pc := 74) C d_Pg_codeShape_74 rfl ?_
          refine sw_iload (pc := 76) C d_Pg_codeShape_76 rfl ?_
          refine sw_iload (pc := 78) C d_Pg_codeShape_78 rfl ?_
          refine sw_callVR (pc := 80) C (c_ctxB l g (A (14 + k)) (shX (some (dgt l0 fr en)) true (sb n2 w2 h2) (fun _ _ => 0) y (shY (some (dgt l0 fr en)) true (sb n2 w2 h2) (fun _ _ => 0) w y) x).2 w h (nI kb) hJ.2.2.2.1 hw hh (A (14 + kb)) n2 w2 h2 bs2 hn2 hw2 hh2 x y (by omega) (by omega)) sv_Sh_contextWith t_363 rfl rfl rfl [6, 7] rfl rfl rfl rfl (Nat.le_of_ble_eq_true rfl) (Nat.le_of_ble_eq_true rfl) (Nat.le_of_ble_eq_true rfl) (Nat.le_of_ble_eq_true rfl) (Nat.le_of_ble_eq_true rfl) d_Pg_codeShape_80 (fun v w1 hp => ?_)
          obtain ⟨rfl, rfl⟩ := hp
          refine ⟨rfl, ?_⟩
          refine sw_topi (z := nI (cxS true (sb (shX (some (dgt l0 fr en)) true (sb n2 w2 h2) (fun _ _ => 0) y (shY (some (dgt l0 fr en)) true (sb n2 w2 h2) (fun _ _ => 0) w y) x).2 8 8) (sb n2 w2 h2) x y)) (by rw [← hcq]; rfl) ?_
          refine sw_istore (pc := 83) C d_Pg_codeShape_83 (by decide) rfl ?_
          refine sw_aload_n (pc := 85) C d_Pg_codeShape_85 rfl rfl ?_
          refine sw_iload (pc := 86) C d_Pg_codeShape_86 rfl ?_
          refine sw_aload_n (pc := 88) C d_Pg_codeShape_88 rfl rfl ?_
          refine sw_iload (pc := 89) C d_Pg_codeShape_89 rfl ?_
          refine sw_iload (pc := 91) C d_Pg_codeShape_91 rfl ?_
          refine sw_callVR (pc := 93) C (c_bitAt l g (A (14 + k)) (shX (some (dgt l0 fr en)) true (sb n2 w2 h2) (fun _ _ => 0) y (shY (some (dgt l0 fr en)) true (sb n2 w2 h2) (fun _ _ => 0) w y) x).2 w h (nI kb) hJ.2.2.2.1 hw hh (nI x) (nI y)) sv_Sh_bitAt t_367 rfl rfl rfl [6] rfl rfl rfl rfl (Nat.le_of_ble_eq_true rfl) (Nat.le_of_ble_eq_true rfl) (Nat.le_of_ble_eq_true rfl) (Nat.le_of_ble_eq_true rfl) (Nat.le_of_ble_eq_true rfl) d_Pg_codeShape_93 (fun v w1 hp => ?_)
          obtain ⟨rfl, rfl⟩ := hp
          refine ⟨rfl, ?_⟩
          refine sw_topi (z := nI (sb (shX (some (dgt l0 fr en)) true (sb n2 w2 h2) (fun _ _ => 0) y (shY (some (dgt l0 fr en)) true (sb n2 w2 h2) (fun _ _ => 0) w y) x).2 w h x y)) (by rw [ti0 (by omega), ti0 (by omega)]) ?_
          refine sw_callUP (pc := 96) C (c_codeS_r l g a z o r l0 fr en (shX (some (dgt l0 fr en)) true (sb n2 w2 h2) (fun _ _ => 0) y (shY (some (dgt l0 fr en)) true (sb n2 w2 h2) (fun _ _ => 0) w y) x).1 (cxS true (sb (shX (some (dgt l0 fr en)) true (sb n2 w2 h2) (fun _ _ => 0) y (shY (some (dgt l0 fr en)) true (sb n2 w2 h2) (fun _ _ => 0) w y) x).2 8 8) (sb n2 w2 h2) x y) (sb (shX (some (dgt l0 fr en)) true (sb n2 w2 h2) (fun _ _ => 0) y (shY (some (dgt l0 fr en)) true (sb n2 w2 h2) (fun _ _ => 0) w y) x).2 w h x y) hJ.1 hcx hJ.2.1.2 hfe hen hl) su_Cr_Cd_code t_368 rfl rfl rfl rfl [2, 3, 4, 5] rfl rfl rfl rfl (Nat.le_of_ble_eq_true rfl) (Nat.le_of_ble_eq_true rfl) (Nat.le_of_ble_eq_true rfl) (Nat.le_of_ble_eq_true rfl) (Nat.le_of_ble_eq_true rfl) d_Pg_codeShape_96 (fun v w1 hp => ?_)
          obtain ⟨rfl, rfl⟩ := hp
          refine ⟨rfl, ?_⟩
          refine sw_ws (ws' := [pgC A nS nP, shA g A] ++ wKr g a z o r l0 fr en (kStep (some (dgt l0 fr en)) (shX (some (dgt l0 fr en)) true (sb n2 w2 h2) (fun _ _ => 0) y (shY (some (dgt l0 fr en)) true (sb n2 w2 h2) (fun _ _ => 0) w y) x).1 (cxS true (sb (shX (some (dgt l0 fr en)) true (sb n2 w2 h2) (fun _ _ => 0) y (shY (some (dgt l0 fr en)) true (sb n2 w2 h2) (fun _ _ => 0) w y) x).2 8 8) (sb n2 w2 h2) x y) 0) ++ [shC (A (14 + k)) (shX (some (dgt l0 fr en)) true (sb n2 w2 h2) (fun _ _ => 0) y (shY (some (dgt l0 fr en)) true (sb n2 w2 h2) (fun _ _ => 0) w y) x).2 w h (nI kb), shC (A (14 + kb)) n2 w2 h2 bs2]) rfl ?_
          refine sw_topi (z := nI (kBit (some (dgt l0 fr en)) (shX (some (dgt l0 fr en)) true (sb n2 w2 h2) (fun _ _ => 0) y (shY (some (dgt l0 fr en)) true (sb n2 w2 h2) (fun _ _ => 0) w y) x).1 (cxS true (sb (shX (some (dgt l0 fr en)) true (sb n2 w2 h2) (fun _ _ => 0) y (shY (some (dgt l0 fr en)) true (sb n2 w2 h2) (fun _ _ => 0) w y) x).2 8 8) (sb n2 w2 h2) x y) 0)) rfl ?_
          have hkb1 : (kBit (some (dgt l0 fr en)) (shX (some (dgt l0 fr en)) true (sb n2 w2 h2) (fun _ _ => 0) y (shY (some (dgt l0 fr en)) true (sb n2 w2 h2) (fun _ _ => 0) w y) x).1 (cxS true (sb (shX (some (dgt l0 fr en)) true (sb n2 w2 h2) (fun _ _ => 0) y (shY (some (dgt l0 fr en)) true (sb n2 w2 h2) (fun _ _ => 0) w y) x).2 8 8) (sb n2 w2 h2) x y) 0) ≤ 1 := kBit_01 (Nat.zero_le _)
          refine sw_iconst (pc := 99) C (nI 1) d_Pg_codeShape_99 (by decide) ?_
          refine sw_icmp_neN (pc := 100) C 122 (by omega) (by omega) d_Pg_codeShape_100 (by decide) (fun g4 => ?_) (fun g4 => ?_)
          · skip
            have hown : (shX (some (dgt l0 fr en)) true (sb n2 w2 h2) (fun _ _ => 0) y (shY (some (dgt l0 fr en)) true (sb n2 w2 h2) (fun _ _ => 0) w y) (x + 1)).2 = (shX (some (dgt l0 fr en)) true (sb n2 w2 h2) (fun _ _ => 0) y (shY (some (dgt l0 fr en)) true (sb n2 w2 h2) (fun _ _ => 0) w y) x).2 := by show (if (kBit (some (dgt l0 fr en)) (shX (some (dgt l0 fr en)) true (sb n2 w2 h2) (fun _ _ => 0) y (shY (some (dgt l0 fr en)) true (sb n2 w2 h2) (fun _ _ => 0) w y) x).1 (cxS true (sb (shX (some (dgt l0 fr en)) true (sb n2 w2 h2) (fun _ _ => 0) y (shY (some (dgt l0 fr en)) true (sb n2 w2 h2) (fun _ _ => 0) w y) x).2 8 8) (sb n2 w2 h2) x y) 0) = 0 then (shX (some (dgt l0 fr en)) true (sb n2 w2 h2) (fun _ _ => 0) y (shY (some (dgt l0 fr en)) true (sb n2 w2 h2) (fun _ _ => 0) w y) x).2 else _) = _; rw [if_pos (by omega)]
            have k9 := ih2 (x + 1)
            rw [hown] at k9
            refine sw_iincN (pc := 122) C 1 d_Pg_codeShape_122 rfl (by decide) (by decide) rfl ?_
            refine sw_goto (pc := 125) C 48 d_Pg_codeShape_125 (by decide) ?_
            exact k9 _ (by omega)
          refine sw_aload_n (pc := 103) C d_Pg_codeShape_103 rfl rfl ?_
          refine sw_dup (pc := 104) C d_Pg_codeShape_104 rfl ?_
          refine sw_get (pc := 105) C inSh 6 rfl rfl 0 (by decide) t_166 rfl rfl d_Pg_codeShape_105 ?_
          refine sw_lconst (pc := 108) C 1 d_Pg_codeShape_108 (by decide) ?_
          refine sw_bipush (pc := 109) C (nI 8) d_Pg_codeShape_109 (by decide) ?_
          refine sw_iload (pc := 111) C d_Pg_codeShape_111 rfl ?_
          refine sw_imul (pc := 113) C d_Pg_codeShape_113 ?_
          refine sw_topi (z := nI (8 * y)) (pk_mul _ _) ?_
          refine sw_iload (pc := 114) C d_Pg_codeShape_114 rfl ?_
          refine sw_iadd (pc := 116) C d_Pg_codeShape_116 ?_
          refine sw_topi (z := nI ((8 * y) + x)) (nI_add _ _) ?_
          refine sw_lshl (pc := 117) C d_Pg_codeShape_117 ?_
          refine sw_topl (z := lN (1 * 2 ^ (8 * y + x))) (wb_shl 1 (by omega)) ?_
          refine sw_lor (pc := 118) C d_Pg_codeShape_118 ?_
          refine sw_topl (z := lN ((shX (some (dgt l0 fr en)) true (sb n2 w2 h2) (fun _ _ => 0) y (shY (some (dgt l0 fr en)) true (sb n2 w2 h2) (fun _ _ => 0) w y) x).2 ||| 1 * 2 ^ (8 * y + x))) (wb_or hJ.2.2.2.1 (by rw [Nat.one_mul]; exact Nat.pow_lt_pow_right (by decide) (by omega))) ?_
          have hown : (shX (some (dgt l0 fr en)) true (sb n2 w2 h2) (fun _ _ => 0) y (shY (some (dgt l0 fr en)) true (sb n2 w2 h2) (fun _ _ => 0) w y) (x + 1)).2 = (shX (some (dgt l0 fr en)) true (sb n2 w2 h2) (fun _ _ => 0) y (shY (some (dgt l0 fr en)) true (sb n2 w2 h2) (fun _ _ => 0) w y) x).2 ||| 2 ^ (8 * y + x) := by show (if (kBit (some (dgt l0 fr en)) (shX (some (dgt l0 fr en)) true (sb n2 w2 h2) (fun _ _ => 0) y (shY (some (dgt l0 fr en)) true (sb n2 w2 h2) (fun _ _ => 0) w y) x).1 (cxS true (sb (shX (some (dgt l0 fr en)) true (sb n2 w2 h2) (fun _ _ => 0) y (shY (some (dgt l0 fr en)) true (sb n2 w2 h2) (fun _ _ => 0) w y) x).2 8 8) (sb n2 w2 h2) x y) 0) = 0 then (shX (some (dgt l0 fr en)) true (sb n2 w2 h2) (fun _ _ => 0) y (shY (some (dgt l0 fr en)) true (sb n2 w2 h2) (fun _ _ => 0) w y) x).2 else _) = _; rw [if_neg (by omega)]
          have k9 := ih2 (x + 1)
          rw [hown, ← Nat.one_mul (2 ^ (8 * y + x))] at k9
          refine sw_put (pc := 119) C inSh 6 rfl rfl 0 (by decide) tySh okSh nmSh t_166 rfl rfl (ty := .long) (by decide +kernel) rfl rfl (Nat.le_of_ble_eq_true rfl) d_Pg_codeShape_119 ?_
          refine sw_iincN (pc := 122) C 1 d_Pg_codeShape_122 rfl (by decide) (by decide) rfl ?_
          refine sw_goto (pc := 125) C 48 d_Pg_codeShape_125 (by decide) ?_
          exact k9 _ (by omega)
      exact kin w 0 _ (by omega)
  exact key h 0 _ _ (by omega)
