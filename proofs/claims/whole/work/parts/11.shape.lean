/-! LayeredPage$Shape -/
theorem and1 (m : Nat) : nI m &&& nI 1 = nI (m % 2) := by
  have h := pk_and (nI m) (m := nI 1) 1 rfl
  rw [h]
  congr 1
  show (BitVec.ofNat 32 m).toNat % 2 ^ 1 = m % 2
  rw [BitVec.toNat_ofNat]
  omega
theorem ti0 {x : Nat} (h : x < 2 ^ 30) : (nI x).toInt = (x : Int) := nI_toInt (by omega)
theorem ti1 {x : Nat} (h : x < 2 ^ 30) : (nI x - nI 1).toInt = (x : Int) - 1 := by
  have := pk_sub_toInt (a := x) (b := 1) h (by decide)
  simpa using this
def wSh (a : Nat) (b : Int64) (w h bs : Int32) : va_W := [(a, .inr (7, [.long b, .int w, .int h, .int bs]))]
theorem sb_xlo {n w h : Nat} {x y : Int32} (e : x < 0) : sb n w h x.toInt y.toInt = 0 := by
  have := Int32.lt_iff_toInt_lt.mp e
  unfold sb
  rw [if_neg]
  simp at this
  omega
theorem sb_xhi {n w h : Nat} {x y : Int32} (hw : w < 2 ^ 31) (e : nI w ≤ x) : sb n w h x.toInt y.toInt = 0 := by
  have := Int32.le_iff_toInt_le.mp e
  rw [nI_toInt hw] at this
  unfold sb
  rw [if_neg]
  omega
theorem sb_ylo {n w h : Nat} {x y : Int32} (e : y < 0) : sb n w h x.toInt y.toInt = 0 := by
  have := Int32.lt_iff_toInt_lt.mp e
  unfold sb
  rw [if_neg]
  simp at this
  omega
theorem sb_yhi {n w h : Nat} {x y : Int32} (hw : h < 2 ^ 31) (e : nI h ≤ y) : sb n w h x.toInt y.toInt = 0 := by
  have := Int32.le_iff_toInt_le.mp e
  rw [nI_toInt hw] at this
  unfold sb
  rw [if_neg]
  omega
theorem sb_in {n w h x y : Nat} (hx : x < w) (hy : y < h) : sb n w h x y = n / 2 ^ (8 * y + x) % 2 := by
  unfold sb
  rw [if_pos (by omega)]
  simp
set_option maxRecDepth 100000 in
set_option maxHeartbeats 4000000 in
/-- Shape.bitAt -/
theorem c_bitAt (l : Launch) (g : Gl) (a n w h : Nat) (bs : Int32) (hn : n < 2 ^ 64) (hw : w ≤ 8) (hh : h ≤ 8) (x y : Int32) : Ct l g y_Sh_bitAt b_Sh_bitAt 3 (some .int) (rmD 0) [.ref a, .int x, .int y] (wSh a (lN n) (nI w) (nI h) bs) (fun v u => v = some (.int (nI (sb n w h x.toInt y.toInt))) ∧ u = wSh a (lN n) (nI w) (nI h) bs) := by
  refine ct_of [some (.ref a), some (.int x), some (.int y)] (by decide) (Nat.le_of_ble_eq_true rfl) rfl ?_
  intro X C E
  refine sw_iload_n (pc := 0) C d_Sh_bitAt_0 rfl rfl ?_
  refine sw_if_lt (pc := 1) C 24 d_Sh_bitAt_1 (by decide) (fun h1 => ?_) (fun h1 => ?_)
  · skip
    refine sw_iconst (pc := 24) C (nI 0) d_Sh_bitAt_24 (by decide) ?_
    exact sw_iret (pc := 25) C E rfl (Nat.le_of_ble_eq_true rfl) (Nat.le_of_ble_eq_true rfl) d_Sh_bitAt_25 ⟨by rw [sb_xlo h1], rfl⟩
  refine sw_iload_n (pc := 4) C d_Sh_bitAt_4 rfl rfl ?_
  refine sw_aload_n (pc := 5) C d_Sh_bitAt_5 rfl rfl ?_
  refine sw_get (pc := 6) C inSh 0 rfl rfl 1 (by decide) t_168 rfl rfl d_Sh_bitAt_6 ?_
  refine sw_topi (z := nI w) rfl ?_
  refine sw_icmp_ge (pc := 9) C 24 d_Sh_bitAt_9 (by decide) (fun h2 => ?_) (fun h2 => ?_)
  · skip
    refine sw_iconst (pc := 24) C (nI 0) d_Sh_bitAt_24 (by decide) ?_
    exact sw_iret (pc := 25) C E rfl (Nat.le_of_ble_eq_true rfl) (Nat.le_of_ble_eq_true rfl) d_Sh_bitAt_25 ⟨by rw [sb_xhi (by omega) h2], rfl⟩
  refine sw_iload_n (pc := 12) C d_Sh_bitAt_12 rfl rfl ?_
  refine sw_if_lt (pc := 13) C 24 d_Sh_bitAt_13 (by decide) (fun h3 => ?_) (fun h3 => ?_)
  · skip
    refine sw_iconst (pc := 24) C (nI 0) d_Sh_bitAt_24 (by decide) ?_
    exact sw_iret (pc := 25) C E rfl (Nat.le_of_ble_eq_true rfl) (Nat.le_of_ble_eq_true rfl) d_Sh_bitAt_25 ⟨by rw [sb_ylo h3], rfl⟩
  refine sw_iload_n (pc := 16) C d_Sh_bitAt_16 rfl rfl ?_
  refine sw_aload_n (pc := 17) C d_Sh_bitAt_17 rfl rfl ?_
  refine sw_get (pc := 18) C inSh 0 rfl rfl 2 (by decide) t_171 rfl rfl d_Sh_bitAt_18 ?_
  refine sw_topi (z := nI h) rfl ?_
  refine sw_icmp_lt (pc := 21) C 26 d_Sh_bitAt_21 (by decide) (fun h4 => ?_) (fun h4 => ?_)
  · skip
    obtain ⟨i, hi, rfl⟩ := i32_nat h1 h2 (by omega)
    obtain ⟨j, hj, rfl⟩ := i32_nat h3 (fun e => Int32.not_lt.mpr e h4) (by omega)
    refine sw_aload_n (pc := 26) C d_Sh_bitAt_26 rfl rfl ?_
    refine sw_get (pc := 27) C inSh 0 rfl rfl 0 (by decide) t_165 rfl rfl d_Sh_bitAt_27 ?_
    refine sw_topl (z := lN n) rfl ?_
    refine sw_bipush (pc := 30) C (nI 8) d_Sh_bitAt_30 (by decide) ?_
    refine sw_iload_n (pc := 32) C d_Sh_bitAt_32 rfl rfl ?_
    refine sw_imul (pc := 33) C d_Sh_bitAt_33 ?_
    refine sw_topi (z := nI (8 * j)) (pk_mul _ _) ?_
    refine sw_iload_n (pc := 34) C d_Sh_bitAt_34 rfl rfl ?_
    refine sw_iadd (pc := 35) C d_Sh_bitAt_35 ?_
    refine sw_topi (z := nI ((8 * j) + i)) (nI_add _ _) ?_
    refine sw_lushr (pc := 36) C d_Sh_bitAt_36 ?_
    refine sw_topl (z := lN (n / 2 ^ (8 * j + i))) (wb_shr hn (by omega)) ?_
    refine sw_l2i (pc := 37) C d_Sh_bitAt_37 ?_
    refine sw_topi (z := nI (n / 2 ^ (8 * j + i))) (lN_i _) ?_
    refine sw_iconst (pc := 38) C (nI 1) d_Sh_bitAt_38 (by decide) ?_
    refine sw_iand (pc := 39) C d_Sh_bitAt_39 ?_
    refine sw_topi (z := nI (n / 2 ^ (8 * j + i) % 2)) (and1 _) ?_
    exact sw_iret (pc := 40) C E rfl (Nat.le_of_ble_eq_true rfl) (Nat.le_of_ble_eq_true rfl) d_Sh_bitAt_40 ⟨by rw [nI_toInt (by omega), nI_toInt (by omega), sb_in hi hj], rfl⟩
  refine sw_iconst (pc := 24) C (nI 0) d_Sh_bitAt_24 (by decide) ?_
  exact sw_iret (pc := 25) C E rfl (Nat.le_of_ble_eq_true rfl) (Nat.le_of_ble_eq_true rfl) d_Sh_bitAt_25 ⟨by rw [sb_yhi (by omega) (Int32.not_lt.mp h4)], rfl⟩
set_option maxRecDepth 100000 in
set_option maxHeartbeats 4000000 in
/-- Shape.contextAlone -/
theorem c_ctxA (l : Launch) (g : Gl) (a n w h : Nat) (bs : Int32) (hn : n < 2 ^ 64) (hw : w ≤ 8) (hh : h ≤ 8) (x y : Nat) (hx : x < 8) (hy : y < 8) : Ct l g y_Sh_contextAlone b_Sh_contextAlone 3 (some .int) (rmD 1) [.ref a, .int (nI x), .int (nI y)] (wSh a (lN n) (nI w) (nI h) bs) (fun v u => v = some (.int (nI (cxA (sb n w h) x y))) ∧ u = wSh a (lN n) (nI w) (nI h) bs) := by
  refine ct_of [some (.ref a), some (.int (nI x)), some (.int (nI y))] (by decide) (Nat.le_of_ble_eq_true rfl) rfl ?_
  intro X C E
  refine sw_aload_n (pc := 0) C d_Sh_contextAlone_0 rfl rfl ?_
  refine sw_iload_n (pc := 1) C d_Sh_contextAlone_1 rfl rfl ?_
  refine sw_iconst (pc := 2) C (nI 1) d_Sh_contextAlone_2 (by decide) ?_
  refine sw_isub (pc := 3) C d_Sh_contextAlone_3 ?_
  refine sw_iload_n (pc := 4) C d_Sh_contextAlone_4 rfl rfl ?_
  refine sw_callVR (pc := 5) C (c_bitAt l g a n w h bs hn hw hh (nI x - nI 1) (nI y)) sv_Sh_bitAt t_359 rfl rfl rfl [0] rfl rfl rfl rfl (Nat.le_of_ble_eq_true rfl) (Nat.le_of_ble_eq_true rfl) (Nat.le_of_ble_eq_true rfl) (Nat.le_of_ble_eq_true rfl) (Nat.le_of_ble_eq_true rfl) d_Sh_contextAlone_5 (fun v w1 hp => ?_)
  obtain ⟨rfl, rfl⟩ := hp
  refine ⟨rfl, ?_⟩
  refine sw_topi (z := nI (sb n w h ((x : Int) - 1) ((y : Int)))) (by rw [ti1 (show x < 2 ^ 30 by omega), ti0 (show y < 2 ^ 30 by omega)]) ?_
  refine sw_iconst (pc := 8) C (nI 2) d_Sh_contextAlone_8 (by decide) ?_
  refine sw_aload_n (pc := 9) C d_Sh_contextAlone_9 rfl rfl ?_
  refine sw_iload_n (pc := 10) C d_Sh_contextAlone_10 rfl rfl ?_
  refine sw_iconst (pc := 11) C (nI 1) d_Sh_contextAlone_11 (by decide) ?_
  refine sw_isub (pc := 12) C d_Sh_contextAlone_12 ?_
  refine sw_iload_n (pc := 13) C d_Sh_contextAlone_13 rfl rfl ?_
  refine sw_iconst (pc := 14) C (nI 1) d_Sh_contextAlone_14 (by decide) ?_
  refine sw_isub (pc := 15) C d_Sh_contextAlone_15 ?_
  refine sw_callVR (pc := 16) C (c_bitAt l g a n w h bs hn hw hh (nI x - nI 1) (nI y - nI 1)) sv_Sh_bitAt t_359 rfl rfl rfl [0] rfl rfl rfl rfl (Nat.le_of_ble_eq_true rfl) (Nat.le_of_ble_eq_true rfl) (Nat.le_of_ble_eq_true rfl) (Nat.le_of_ble_eq_true rfl) (Nat.le_of_ble_eq_true rfl) d_Sh_contextAlone_16 (fun v w1 hp => ?_)
  obtain ⟨rfl, rfl⟩ := hp
  refine ⟨rfl, ?_⟩
  refine sw_topi (z := nI (sb n w h ((x : Int) - 1) ((y : Int) - 1))) (by rw [ti1 (show x < 2 ^ 30 by omega), ti1 (show y < 2 ^ 30 by omega)]) ?_
  refine sw_imul (pc := 19) C d_Sh_contextAlone_19 ?_
  refine sw_topi (z := nI (2 * (sb n w h ((x : Int) - 1) ((y : Int) - 1)))) (pk_mul _ _) ?_
  refine sw_iadd (pc := 20) C d_Sh_contextAlone_20 ?_
  refine sw_topi (z := nI ((sb n w h ((x : Int) - 1) ((y : Int))) + (2 * (sb n w h ((x : Int) - 1) ((y : Int) - 1))))) (nI_add _ _) ?_
  refine sw_iconst (pc := 21) C (nI 4) d_Sh_contextAlone_21 (by decide) ?_
  refine sw_aload_n (pc := 22) C d_Sh_contextAlone_22 rfl rfl ?_
  refine sw_iload_n (pc := 23) C d_Sh_contextAlone_23 rfl rfl ?_
  refine sw_iload_n (pc := 24) C d_Sh_contextAlone_24 rfl rfl ?_
  refine sw_iconst (pc := 25) C (nI 1) d_Sh_contextAlone_25 (by decide) ?_
  refine sw_isub (pc := 26) C d_Sh_contextAlone_26 ?_
  refine sw_callVR (pc := 27) C (c_bitAt l g a n w h bs hn hw hh (nI x) (nI y - nI 1)) sv_Sh_bitAt t_359 rfl rfl rfl [0] rfl rfl rfl rfl (Nat.le_of_ble_eq_true rfl) (Nat.le_of_ble_eq_true rfl) (Nat.le_of_ble_eq_true rfl) (Nat.le_of_ble_eq_true rfl) (Nat.le_of_ble_eq_true rfl) d_Sh_contextAlone_27 (fun v w1 hp => ?_)
  obtain ⟨rfl, rfl⟩ := hp
  refine ⟨rfl, ?_⟩
  refine sw_topi (z := nI (sb n w h ((x : Int)) ((y : Int) - 1))) (by rw [ti0 (show x < 2 ^ 30 by omega), ti1 (show y < 2 ^ 30 by omega)]) ?_
  refine sw_imul (pc := 30) C d_Sh_contextAlone_30 ?_
  refine sw_topi (z := nI (4 * (sb n w h ((x : Int)) ((y : Int) - 1)))) (pk_mul _ _) ?_
  refine sw_iadd (pc := 31) C d_Sh_contextAlone_31 ?_
  refine sw_topi (z := nI (((sb n w h ((x : Int) - 1) ((y : Int))) + (2 * (sb n w h ((x : Int) - 1) ((y : Int) - 1)))) + (4 * (sb n w h ((x : Int)) ((y : Int) - 1))))) (nI_add _ _) ?_
  refine sw_bipush (pc := 32) C (nI 8) d_Sh_contextAlone_32 (by decide) ?_
  refine sw_aload_n (pc := 34) C d_Sh_contextAlone_34 rfl rfl ?_
  refine sw_iload_n (pc := 35) C d_Sh_contextAlone_35 rfl rfl ?_
  refine sw_iconst (pc := 36) C (nI 1) d_Sh_contextAlone_36 (by decide) ?_
  refine sw_iadd (pc := 37) C d_Sh_contextAlone_37 ?_
  refine sw_topi (z := nI (x + 1)) (nI_add _ _) ?_
  refine sw_iload_n (pc := 38) C d_Sh_contextAlone_38 rfl rfl ?_
  refine sw_iconst (pc := 39) C (nI 1) d_Sh_contextAlone_39 (by decide) ?_
  refine sw_isub (pc := 40) C d_Sh_contextAlone_40 ?_
  refine sw_callVR (pc := 41) C (c_bitAt l g a n w h bs hn hw hh (nI (x + 1)) (nI y - nI 1)) sv_Sh_bitAt t_359 rfl rfl rfl [0] rfl rfl rfl rfl (Nat.le_of_ble_eq_true rfl) (Nat.le_of_ble_eq_true rfl) (Nat.le_of_ble_eq_true rfl) (Nat.le_of_ble_eq_true rfl) (Nat.le_of_ble_eq_true rfl) d_Sh_contextAlone_41 (fun v w1 hp => ?_)
  obtain ⟨rfl, rfl⟩ := hp
  refine ⟨rfl, ?_⟩
  refine sw_topi (z := nI (sb n w h ((x : Int) + 1) ((y : Int) - 1))) (by rw [show (nI (x + 1)).toInt = (x : Int) + 1 from by rw [ti0 (by omega)]; omega, ti1 (show y < 2 ^ 30 by omega)]) ?_
  refine sw_imul (pc := 44) C d_Sh_contextAlone_44 ?_
  refine sw_topi (z := nI (8 * (sb n w h ((x : Int) + 1) ((y : Int) - 1)))) (pk_mul _ _) ?_
  refine sw_iadd (pc := 45) C d_Sh_contextAlone_45 ?_
  refine sw_topi (z := nI ((((sb n w h ((x : Int) - 1) ((y : Int))) + (2 * (sb n w h ((x : Int) - 1) ((y : Int) - 1)))) + (4 * (sb n w h ((x : Int)) ((y : Int) - 1)))) + (8 * (sb n w h ((x : Int) + 1) ((y : Int) - 1))))) (nI_add _ _) ?_
  exact sw_iret (pc := 46) C E rfl (Nat.le_of_ble_eq_true rfl) (Nat.le_of_ble_eq_true rfl) d_Sh_contextAlone_46 ⟨rfl, rfl⟩
set_option maxRecDepth 100000 in
set_option maxHeartbeats 4000000 in
/-- Shape.contextWith -/
theorem c_ctxB (l : Launch) (g : Gl) (a n w h : Nat) (bs : Int32) (hn : n < 2 ^ 64) (hw : w ≤ 8) (hh : h ≤ 8) (a2 n2 w2 h2 : Nat) (bs2 : Int32) (hn2 : n2 < 2 ^ 64) (hw2 : w2 ≤ 8) (hh2 : h2 ≤ 8) (x y : Nat) (hx : x < 8) (hy : y < 8) : Ct l g y_Sh_contextWith b_Sh_contextWith 4 (some .int) (rmD 1) [.ref a, .ref a2, .int (nI x), .int (nI y)] (wSh a (lN n) (nI w) (nI h) bs ++ wSh a2 (lN n2) (nI w2) (nI h2) bs2) (fun v u => v = some (.int (nI (cxB (sb n w h) (sb n2 w2 h2) x y))) ∧ u = wSh a (lN n) (nI w) (nI h) bs ++ wSh a2 (lN n2) (nI w2) (nI h2) bs2) := by
  refine ct_of [some (.ref a), some (.ref a2), some (.int (nI x)), some (.int (nI y))] (by decide) (Nat.le_of_ble_eq_true rfl) rfl ?_
  intro X C E
  refine sw_bipush (pc := 0) C (nI 16) d_Sh_contextWith_0 (by decide) ?_
  refine sw_aload_n (pc := 2) C d_Sh_contextWith_2 rfl rfl ?_
  refine sw_iload_n (pc := 3) C d_Sh_contextWith_3 rfl rfl ?_
  refine sw_iconst (pc := 4) C (nI 1) d_Sh_contextWith_4 (by decide) ?_
  refine sw_isub (pc := 5) C d_Sh_contextWith_5 ?_
  refine sw_iload_n (pc := 6) C d_Sh_contextWith_6 rfl rfl ?_
  refine sw_callVR (pc := 7) C (c_bitAt l g a n w h bs hn hw hh (nI x - nI 1) (nI y)) sv_Sh_bitAt t_359 rfl rfl rfl [0] rfl rfl rfl rfl (Nat.le_of_ble_eq_true rfl) (Nat.le_of_ble_eq_true rfl) (Nat.le_of_ble_eq_true rfl) (Nat.le_of_ble_eq_true rfl) (Nat.le_of_ble_eq_true rfl) d_Sh_contextWith_7 (fun v w1 hp => ?_)
  obtain ⟨rfl, rfl⟩ := hp
  refine ⟨rfl, ?_⟩
  refine sw_topi (z := nI (sb n w h ((x : Int) - 1) ((y : Int)))) (by rw [ti1 (show x < 2 ^ 30 by omega), ti0 (show y < 2 ^ 30 by omega)]) ?_
  refine sw_iadd (pc := 10) C d_Sh_contextWith_10 ?_
  refine sw_topi (z := nI (16 + (sb n w h ((x : Int) - 1) ((y : Int))))) (nI_add _ _) ?_
  refine sw_iconst (pc := 11) C (nI 2) d_Sh_contextWith_11 (by decide) ?_
  refine sw_aload_n (pc := 12) C d_Sh_contextWith_12 rfl rfl ?_
  refine sw_iload_n (pc := 13) C d_Sh_contextWith_13 rfl rfl ?_
  refine sw_iload_n (pc := 14) C d_Sh_contextWith_14 rfl rfl ?_
  refine sw_iconst (pc := 15) C (nI 1) d_Sh_contextWith_15 (by decide) ?_
  refine sw_isub (pc := 16) C d_Sh_contextWith_16 ?_
  refine sw_callVR (pc := 17) C (c_bitAt l g a n w h bs hn hw hh (nI x) (nI y - nI 1)) sv_Sh_bitAt t_359 rfl rfl rfl [0] rfl rfl rfl rfl (Nat.le_of_ble_eq_true rfl) (Nat.le_of_ble_eq_true rfl) (Nat.le_of_ble_eq_true rfl) (Nat.le_of_ble_eq_true rfl) (Nat.le_of_ble_eq_true rfl) d_Sh_contextWith_17 (fun v w1 hp => ?_)
  obtain ⟨rfl, rfl⟩ := hp
  refine ⟨rfl, ?_⟩
  refine sw_topi (z := nI (sb n w h ((x : Int)) ((y : Int) - 1))) (by rw [ti0 (show x < 2 ^ 30 by omega), ti1 (show y < 2 ^ 30 by omega)]) ?_
  refine sw_imul (pc := 20) C d_Sh_contextWith_20 ?_
  refine sw_topi (z := nI (2 * (sb n w h ((x : Int)) ((y : Int) - 1)))) (pk_mul _ _) ?_
  refine sw_iadd (pc := 21) C d_Sh_contextWith_21 ?_
  refine sw_topi (z := nI ((16 + (sb n w h ((x : Int) - 1) ((y : Int)))) + (2 * (sb n w h ((x : Int)) ((y : Int) - 1))))) (nI_add _ _) ?_
  refine sw_iconst (pc := 22) C (nI 4) d_Sh_contextWith_22 (by decide) ?_
  refine sw_aload_n (pc := 23) C d_Sh_contextWith_23 rfl rfl ?_
  refine sw_iload_n (pc := 24) C d_Sh_contextWith_24 rfl rfl ?_
  refine sw_iload_n (pc := 25) C d_Sh_contextWith_25 rfl rfl ?_
  refine sw_callVR (pc := 26) C (c_bitAt l g a2 n2 w2 h2 bs2 hn2 hw2 hh2 (nI x) (nI y)) sv_Sh_bitAt t_359 rfl rfl rfl [1] rfl rfl rfl rfl (Nat.le_of_ble_eq_true rfl) (Nat.le_of_ble_eq_true rfl) (Nat.le_of_ble_eq_true rfl) (Nat.le_of_ble_eq_true rfl) (Nat.le_of_ble_eq_true rfl) d_Sh_contextWith_26 (fun v w1 hp => ?_)
  obtain ⟨rfl, rfl⟩ := hp
  refine ⟨rfl, ?_⟩
  refine sw_topi (z := nI (sb n2 w2 h2 ((x : Int)) ((y : Int)))) (by rw [ti0 (show x < 2 ^ 30 by omega), ti0 (show y < 2 ^ 30 by omega)]) ?_
  refine sw_imul (pc := 29) C d_Sh_contextWith_29 ?_
  refine sw_topi (z := nI (4 * (sb n2 w2 h2 ((x : Int)) ((y : Int))))) (pk_mul _ _) ?_
  refine sw_iadd (pc := 30) C d_Sh_contextWith_30 ?_
  refine sw_topi (z := nI (((16 + (sb n w h ((x : Int) - 1) ((y : Int)))) + (2 * (sb n w h ((x : Int)) ((y : Int) - 1)))) + (4 * (sb n2 w2 h2 ((x : Int)) ((y : Int)))))) (nI_add _ _) ?_
  refine sw_bipush (pc := 31) C (nI 8) d_Sh_contextWith_31 (by decide) ?_
  refine sw_aload_n (pc := 33) C d_Sh_contextWith_33 rfl rfl ?_
  refine sw_iload_n (pc := 34) C d_Sh_contextWith_34 rfl rfl ?_
  refine sw_iconst (pc := 35) C (nI 1) d_Sh_contextWith_35 (by decide) ?_
  refine sw_iadd (pc := 36) C d_Sh_contextWith_36 ?_
  refine sw_topi (z := nI (x + 1)) (nI_add _ _) ?_
  refine sw_iload_n (pc := 37) C d_Sh_contextWith_37 rfl rfl ?_
  refine sw_callVR (pc := 38) C (c_bitAt l g a2 n2 w2 h2 bs2 hn2 hw2 hh2 (nI (x + 1)) (nI y)) sv_Sh_bitAt t_359 rfl rfl rfl [1] rfl rfl rfl rfl (Nat.le_of_ble_eq_true rfl) (Nat.le_of_ble_eq_true rfl) (Nat.le_of_ble_eq_true rfl) (Nat.le_of_ble_eq_true rfl) (Nat.le_of_ble_eq_true rfl) d_Sh_contextWith_38 (fun v w1 hp => ?_)
  obtain ⟨rfl, rfl⟩ := hp
  refine ⟨rfl, ?_⟩
  refine sw_topi (z := nI (sb n2 w2 h2 ((x : Int) + 1) ((y : Int)))) (by rw [show (nI (x + 1)).toInt = (x : Int) + 1 from by rw [ti0 (by omega)]; omega, ti0 (show y < 2 ^ 30 by omega)]) ?_
  refine sw_imul (pc := 41) C d_Sh_contextWith_41 ?_
  refine sw_topi (z := nI (8 * (sb n2 w2 h2 ((x : Int) + 1) ((y : Int))))) (pk_mul _ _) ?_
  refine sw_iadd (pc := 42) C d_Sh_contextWith_42 ?_
  refine sw_topi (z := nI ((((16 + (sb n w h ((x : Int) - 1) ((y : Int)))) + (2 * (sb n w h ((x : Int)) ((y : Int) - 1)))) + (4 * (sb n2 w2 h2 ((x : Int)) ((y : Int))))) + (8 * (sb n2 w2 h2 ((x : Int) + 1) ((y : Int)))))) (nI_add _ _) ?_
  refine sw_bipush (pc := 43) C (nI 16) d_Sh_contextWith_43 (by decide) ?_
  refine sw_aload_n (pc := 45) C d_Sh_contextWith_45 rfl rfl ?_
  refine sw_iload_n (pc := 46) C d_Sh_contextWith_46 rfl rfl ?_
  refine sw_iload_n (pc := 47) C d_Sh_contextWith_47 rfl rfl ?_
  refine sw_iconst (pc := 48) C (nI 1) d_Sh_contextWith_48 (by decide) ?_
  refine sw_iadd (pc := 49) C d_Sh_contextWith_49 ?_
  refine sw_topi (z := nI (y + 1)) (nI_add _ _) ?_
  refine sw_callVR (pc := 50) C (c_bitAt l g a2 n2 w2 h2 bs2 hn2 hw2 hh2 (nI x) (nI (y + 1))) sv_Sh_bitAt t_359 rfl rfl rfl [1] rfl rfl rfl rfl (Nat.le_of_ble_eq_true rfl) (Nat.le_of_ble_eq_true rfl) (Nat.le_of_ble_eq_true rfl) (Nat.le_of_ble_eq_true rfl) (Nat.le_of_ble_eq_true rfl) d_Sh_contextWith_50 (fun v w1 hp => ?_)
  obtain ⟨rfl, rfl⟩ := hp
  refine ⟨rfl, ?_⟩
  refine sw_topi (z := nI (sb n2 w2 h2 ((x : Int)) ((y : Int) + 1))) (by rw [ti0 (show x < 2 ^ 30 by omega), show (nI (y + 1)).toInt = (y : Int) + 1 from by rw [ti0 (by omega)]; omega]) ?_
  refine sw_imul (pc := 53) C d_Sh_contextWith_53 ?_
  refine sw_topi (z := nI (16 * (sb n2 w2 h2 ((x : Int)) ((y : Int) + 1)))) (pk_mul _ _) ?_
  refine sw_iadd (pc := 54) C d_Sh_contextWith_54 ?_
  refine sw_topi (z := nI (((((16 + (sb n w h ((x : Int) - 1) ((y : Int)))) + (2 * (sb n w h ((x : Int)) ((y : Int) - 1)))) + (4 * (sb n2 w2 h2 ((x : Int)) ((y : Int))))) + (8 * (sb n2 w2 h2 ((x : Int) + 1) ((y : Int))))) + (16 * (sb n2 w2 h2 ((x : Int)) ((y : Int) + 1))))) (nI_add _ _) ?_
  exact sw_iret (pc := 55) C E rfl (Nat.le_of_ble_eq_true rfl) (Nat.le_of_ble_eq_true rfl) d_Sh_contextWith_55 ⟨rfl, rfl⟩
