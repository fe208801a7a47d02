/-! LayeredPage: the document -/
abbrev lpC (x ob dw dr : Nat) (A B S : Nat → Nat) (hp : Bool) : Nat × va_E := (x, .inr (8, [.ref ob, .ref dw, .ref dr, .ref (A 0), .int (bI hp), .ref (B 0), .ref (S 0)]))
theorem inR_gt {n : Nat} {x : Int32} (h : nI n < x) (hn : n + 1 < 2 ^ 31) : inR (n + 1) x = false := by
  by_cases h0 : x < 0
  · exact inR_lo h0
  · obtain ⟨j, hj, rfl⟩ := nI_of h0
    have := (nI_ltI (by omega) hj).mp h
    exact inR_no (by omega) hj hn
def alB (l : List Nat) (k v : Int32) : Bool := inR (l.length + 1) k && inR 1200 k && inR 256 v
def alL (l : List Nat) (k v : Int32) : List Nat := if alB l k v then setL l k.toNatClampNeg v.toNatClampNeg else l
def cuL (l : List Nat) (n : Int32) : List Nat := if inR (l.length + 1) n then l.take n.toNatClampNeg else l
theorem alB_in {l : List Nat} {j c : Nat} (h1 : j ≤ l.length) (h2 : j < 1200) (h3 : c < 256) (hl : l.length ≤ 1200) : alB l (nI j) (nI c) = true := by
  unfold alB
  rw [inR_in (by omega) (by omega), inR_in h2 (by decide), inR_in h3 (by decide)]
  rfl
theorem alL_in {l : List Nat} {j c : Nat} (h1 : j ≤ l.length) (h2 : j < 1200) (h3 : c < 256) (hl : l.length ≤ 1200) : alL l (nI j) (nI c) = setL l j c := by
  unfold alL
  rw [alB_in h1 h2 h3 hl, nI_clamp (by omega), nI_clamp (by omega)]
  rfl
theorem alL_no {l : List Nat} {k v : Int32} (h : alB l k v = false) : alL l k v = l := by
  unfold alL
  rw [h]
  rfl
theorem cuL_in {l : List Nat} {j : Nat} (h1 : j ≤ l.length) (hl : l.length ≤ 1200) : cuL l (nI j) = l.take j := by
  unfold cuL
  rw [inR_in (by omega) (by omega), nI_clamp (by omega)]
  rfl
theorem cuL_no {l : List Nat} {n : Int32} (h : inR (l.length + 1) n = false) : cuL l n = l := by
  unfold cuL
  rw [h]
  rfl
set_option maxRecDepth 100000 in
set_option maxHeartbeats 4000000 in
theorem c_onPage (l : Launch) (g : Gl) (x y : Int32) : Ct l g y_LP_isOnPage b_LP_isOnPage 2 (some .boolean) (rmD 0) [.int x, .int y] ([]) (fun u w => u = some (.int (bI (inR 16 x && inR 16 y))) ∧ w = []) := by
  refine ct_of [some (.int x), some (.int y)] (by decide) (Nat.le_of_ble_eq_true rfl) rfl ?_
  intro X C E
  refine sw_iload_n (pc := 0) C d_LP_isOnPage_0 rfl rfl ?_
  refine sw_if_lt (pc := 1) C 24 d_LP_isOnPage_1 (by decide) (fun h1 => ?_) (fun h1 => ?_)
  · skip
    refine sw_iconst (pc := 24) C (nI 0) d_LP_isOnPage_24 (by decide) ?_
    refine sw_topi (z := bI (inR 16 x && inR 16 y)) (by rw [inR_lo h1]; rfl) ?_
    exact sw_zret (pc := 25) C E rfl (bI_nar _) (Nat.le_of_ble_eq_true rfl) (Nat.le_of_ble_eq_true rfl) d_LP_isOnPage_25 ⟨rfl, rfl⟩
  refine sw_iload_n (pc := 4) C d_LP_isOnPage_4 rfl rfl ?_
  refine sw_bipush (pc := 5) C (nI 16) d_LP_isOnPage_5 (by decide) ?_
  refine sw_icmp_ge (pc := 7) C 24 d_LP_isOnPage_7 (by decide) (fun h2 => ?_) (fun h2 => ?_)
  · skip
    refine sw_iconst (pc := 24) C (nI 0) d_LP_isOnPage_24 (by decide) ?_
    refine sw_topi (z := bI (inR 16 x && inR 16 y)) (by rw [inR_hi h2]; rfl) ?_
    exact sw_zret (pc := 25) C E rfl (bI_nar _) (Nat.le_of_ble_eq_true rfl) (Nat.le_of_ble_eq_true rfl) d_LP_isOnPage_25 ⟨rfl, rfl⟩
  refine sw_iload_n (pc := 10) C d_LP_isOnPage_10 rfl rfl ?_
  refine sw_if_lt (pc := 11) C 24 d_LP_isOnPage_11 (by decide) (fun h3 => ?_) (fun h3 => ?_)
  · skip
    refine sw_iconst (pc := 24) C (nI 0) d_LP_isOnPage_24 (by decide) ?_
    refine sw_topi (z := bI (inR 16 x && inR 16 y)) (by rw [inR_lo h3, Bool.and_false]; rfl) ?_
    exact sw_zret (pc := 25) C E rfl (bI_nar _) (Nat.le_of_ble_eq_true rfl) (Nat.le_of_ble_eq_true rfl) d_LP_isOnPage_25 ⟨rfl, rfl⟩
  refine sw_iload_n (pc := 14) C d_LP_isOnPage_14 rfl rfl ?_
  refine sw_bipush (pc := 15) C (nI 16) d_LP_isOnPage_15 (by decide) ?_
  refine sw_icmp_ge (pc := 17) C 24 d_LP_isOnPage_17 (by decide) (fun h4 => ?_) (fun h4 => ?_)
  · skip
    refine sw_iconst (pc := 24) C (nI 0) d_LP_isOnPage_24 (by decide) ?_
    refine sw_topi (z := bI (inR 16 x && inR 16 y)) (by rw [inR_hi h4, Bool.and_false]; rfl) ?_
    exact sw_zret (pc := 25) C E rfl (bI_nar _) (Nat.le_of_ble_eq_true rfl) (Nat.le_of_ble_eq_true rfl) d_LP_isOnPage_25 ⟨rfl, rfl⟩
  obtain ⟨i, hi, rfl⟩ := i32_nat h1 h2 (by decide)
  obtain ⟨j, hj, rfl⟩ := i32_nat h3 h4 (by decide)
  refine sw_iconst (pc := 20) C (nI 1) d_LP_isOnPage_20 (by decide) ?_
  refine sw_goto (pc := 21) C 25 d_LP_isOnPage_21 (by decide) ?_
  refine sw_topi (z := bI (inR 16 (nI i) && inR 16 (nI j))) (by rw [inR_in hi (by decide), inR_in hj (by decide)]; rfl) ?_
  exact sw_zret (pc := 25) C E rfl (bI_nar _) (Nat.le_of_ble_eq_true rfl) (Nat.le_of_ble_eq_true rfl) d_LP_isOnPage_25 ⟨rfl, rfl⟩
set_option maxRecDepth 100000 in
set_option maxHeartbeats 4000000 in
theorem c_length (l : Launch) (g : Gl) (x ob dw dr : Nat) (A B S : Nat → Nat) (hp : Bool) (r : Nat) (l0 : List Nat) (hl : l0.length ≤ 1200) : Ct l g y_LP_length b_LP_length 1 (some .int) (rmD 0) [.ref x] (lpC x ob dw dr A B S hp :: wOct g ob r (rowOf l0) (nI l0.length)) (fun u w => u = some (.int (nI l0.length)) ∧ w = lpC x ob dw dr A B S hp :: wOct g ob r (rowOf l0) (nI l0.length)) := by
  refine ct_of [some (.ref x)] (by decide) (Nat.le_of_ble_eq_true rfl) rfl ?_
  intro X C E
  refine sw_aload_n (pc := 0) C d_LP_length_0 rfl rfl ?_
  refine sw_get (pc := 1) C inLP 0 rfl rfl 0 (by decide) t_224 rfl rfl d_LP_length_1 ?_
  refine sw_get (pc := 4) C inOct 1 rfl rfl 1 (by decide) t_35 rfl rfl d_LP_length_4 ?_
  refine sw_topi (z := nI l0.length) rfl ?_
  exact sw_iret (pc := 7) C E rfl (Nat.le_of_ble_eq_true rfl) (Nat.le_of_ble_eq_true rfl) d_LP_length_7 ⟨rfl, rfl⟩
set_option maxRecDepth 100000 in
set_option maxHeartbeats 4000000 in
theorem c_octet (l : Launch) (g : Gl) (x ob dw dr : Nat) (A B S : Nat → Nat) (hp : Bool) (r : Nat) (l0 : List Nat) (hl : l0.length ≤ 1200) (k : Int32) : Ct l g y_LP_octet b_LP_octet 2 (some .int) (rmD 1) [.ref x, .int k] (lpC x ob dw dr A B S hp :: wOct g ob r (rowOf l0) (nI l0.length)) (fun u w => u = some (.int (octAt l0 k)) ∧ w = lpC x ob dw dr A B S hp :: wOct g ob r (rowOf l0) (nI l0.length)) := by
  refine ct_of [some (.ref x), some (.int k)] (by decide) (Nat.le_of_ble_eq_true rfl) rfl ?_
  intro X C E
  refine sw_aload_n (pc := 0) C d_LP_octet_0 rfl rfl ?_
  refine sw_get (pc := 1) C inLP 0 rfl rfl 0 (by decide) t_224 rfl rfl d_LP_octet_1 ?_
  refine sw_iload_n (pc := 4) C d_LP_octet_4 rfl rfl ?_
  refine sw_callVR (pc := 5) C (c_Oct_at l g ob r l0 hl k) sv_Oct_at t_455 rfl rfl rfl [1, 2] rfl rfl rfl rfl (Nat.le_of_ble_eq_true rfl) (Nat.le_of_ble_eq_true rfl) (Nat.le_of_ble_eq_true rfl) (Nat.le_of_ble_eq_true rfl) (Nat.le_of_ble_eq_true rfl) d_LP_octet_5 (fun v w1 hp => ?_)
  obtain ⟨rfl, rfl⟩ := hp
  refine ⟨rfl, ?_⟩
  exact sw_iret (pc := 8) C E rfl (Nat.le_of_ble_eq_true rfl) (Nat.le_of_ble_eq_true rfl) d_LP_octet_8 ⟨rfl, rfl⟩
set_option maxRecDepth 100000 in
set_option maxHeartbeats 4000000 in
theorem c_alter (l : Launch) (g : Gl) (x ob dw dr : Nat) (A B S : Nat → Nat) (hp : Bool) (r : Nat) (l0 : List Nat) (hl : l0.length ≤ 1200) (k v : Int32) : Ct l g y_LP_alter b_LP_alter 3 (some .boolean) (rmD 2) [.ref x, .int k, .int v] (lpC x ob dw dr A B S hp :: wOct g ob r (rowOf l0) (nI l0.length)) (fun u w => u = some (.int (bI (alB l0 k v))) ∧ w = lpC x ob dw dr A B S hp :: wOct g ob r (rowOf (alL l0 k v)) (nI (alL l0 k v).length)) := by
  refine ct_of [some (.ref x), some (.int k), some (.int v)] (by decide) (Nat.le_of_ble_eq_true rfl) rfl ?_
  intro X C E
  refine sw_iload_n (pc := 0) C d_LP_alter_0 rfl rfl ?_
  refine sw_if_lt (pc := 1) C 33 d_LP_alter_1 (by decide) (fun h1 => ?_) (fun h1 => ?_)
  · skip
    have ef : alB l0 k v = false := by unfold alB; rw [inR_lo h1]; rfl
    refine sw_iconst (pc := 33) C (nI 0) d_LP_alter_33 (by decide) ?_
    refine sw_topi (z := bI (alB l0 k v)) (by rw [ef]; rfl) ?_
    exact sw_zret (pc := 34) C E rfl (bI_nar _) (Nat.le_of_ble_eq_true rfl) (Nat.le_of_ble_eq_true rfl) d_LP_alter_34 ⟨rfl, by rw [alL_no ef]⟩
  refine sw_iload_n (pc := 4) C d_LP_alter_4 rfl rfl ?_
  refine sw_aload_n (pc := 5) C d_LP_alter_5 rfl rfl ?_
  refine sw_get (pc := 6) C inLP 0 rfl rfl 0 (by decide) t_224 rfl rfl d_LP_alter_6 ?_
  refine sw_get (pc := 9) C inOct 1 rfl rfl 1 (by decide) t_35 rfl rfl d_LP_alter_9 ?_
  refine sw_topi (z := nI l0.length) rfl ?_
  refine sw_icmp_gt (pc := 12) C 33 d_LP_alter_12 (by decide) (fun h2 => ?_) (fun h2 => ?_)
  · skip
    have ef : alB l0 k v = false := by unfold alB; rw [inR_gt h2 (by omega)]; rfl
    refine sw_iconst (pc := 33) C (nI 0) d_LP_alter_33 (by decide) ?_
    refine sw_topi (z := bI (alB l0 k v)) (by rw [ef]; rfl) ?_
    exact sw_zret (pc := 34) C E rfl (bI_nar _) (Nat.le_of_ble_eq_true rfl) (Nat.le_of_ble_eq_true rfl) d_LP_alter_34 ⟨rfl, by rw [alL_no ef]⟩
  refine sw_iload_n (pc := 15) C d_LP_alter_15 rfl rfl ?_
  refine sw_sipush (pc := 16) C (nI 1200) d_LP_alter_16 (by decide) ?_
  refine sw_icmp_ge (pc := 19) C 33 d_LP_alter_19 (by decide) (fun h3 => ?_) (fun h3 => ?_)
  · skip
    have ef : alB l0 k v = false := by unfold alB; rw [inR_hi h3, Bool.and_false]; rfl
    refine sw_iconst (pc := 33) C (nI 0) d_LP_alter_33 (by decide) ?_
    refine sw_topi (z := bI (alB l0 k v)) (by rw [ef]; rfl) ?_
    exact sw_zret (pc := 34) C E rfl (bI_nar _) (Nat.le_of_ble_eq_true rfl) (Nat.le_of_ble_eq_true rfl) d_LP_alter_34 ⟨rfl, by rw [alL_no ef]⟩
  refine sw_iload_n (pc := 22) C d_LP_alter_22 rfl rfl ?_
  refine sw_if_lt (pc := 23) C 33 d_LP_alter_23 (by decide) (fun h4 => ?_) (fun h4 => ?_)
  · skip
    have ef : alB l0 k v = false := by unfold alB; rw [inR_lo h4, Bool.and_false]
    refine sw_iconst (pc := 33) C (nI 0) d_LP_alter_33 (by decide) ?_
    refine sw_topi (z := bI (alB l0 k v)) (by rw [ef]; rfl) ?_
    exact sw_zret (pc := 34) C E rfl (bI_nar _) (Nat.le_of_ble_eq_true rfl) (Nat.le_of_ble_eq_true rfl) d_LP_alter_34 ⟨rfl, by rw [alL_no ef]⟩
  refine sw_iload_n (pc := 26) C d_LP_alter_26 rfl rfl ?_
  refine sw_sipush (pc := 27) C (nI 255) d_LP_alter_27 (by decide) ?_
  refine sw_icmp_le (pc := 30) C 35 d_LP_alter_30 (by decide) (fun h5 => ?_) (fun h5 => ?_)
  · skip
    obtain ⟨j, hj, rfl⟩ := i32_nat h1 h3 (by decide)
    obtain ⟨c, hc, rfl⟩ := i32_natle (n := 255) h4 (Int32.not_lt.mpr h5) (by decide)
    have hj2 : j ≤ l0.length := Nat.not_lt.mp (fun q => h2 ((nI_ltI (by omega) (by omega)).mpr q))
    refine sw_aload_n (pc := 35) C d_LP_alter_35 rfl rfl ?_
    refine sw_get (pc := 36) C inLP 0 rfl rfl 0 (by decide) t_224 rfl rfl d_LP_alter_36 ?_
    refine sw_iload_n (pc := 39) C d_LP_alter_39 rfl rfl ?_
    refine sw_iload_n (pc := 40) C d_LP_alter_40 rfl rfl ?_
    refine sw_callVP (pc := 41) C (c_Oct_set l g ob r l0 hl j c hj2 hj) sv_Oct_set t_463 rfl rfl rfl [1, 2] rfl rfl rfl rfl (Nat.le_of_ble_eq_true rfl) (Nat.le_of_ble_eq_true rfl) (Nat.le_of_ble_eq_true rfl) (Nat.le_of_ble_eq_true rfl) (Nat.le_of_ble_eq_true rfl) d_LP_alter_41 (fun v w1 hp => ?_)
    obtain ⟨rfl, rfl⟩ := hp
    refine ⟨rfl, ?_⟩
    refine sw_iconst (pc := 44) C (nI 1) d_LP_alter_44 (by decide) ?_
    refine sw_topi (z := bI (alB l0 (nI j) (nI c))) (by rw [alB_in hj2 hj (by omega) hl]; rfl) ?_
    exact sw_zret (pc := 45) C E rfl (bI_nar _) (Nat.le_of_ble_eq_true rfl) (Nat.le_of_ble_eq_true rfl) d_LP_alter_45 ⟨rfl, by rw [alL_in hj2 hj (by omega) hl]; rfl⟩
  have ef : alB l0 k v = false := by unfold alB; rw [show inR 256 v = false from inR_gt (n := 255) (Int32.not_le.mp h5) (by decide), Bool.and_false]
  refine sw_iconst (pc := 33) C (nI 0) d_LP_alter_33 (by decide) ?_
  refine sw_topi (z := bI (alB l0 k v)) (by rw [ef]; rfl) ?_
  exact sw_zret (pc := 34) C E rfl (bI_nar _) (Nat.le_of_ble_eq_true rfl) (Nat.le_of_ble_eq_true rfl) d_LP_alter_34 ⟨rfl, by rw [alL_no ef]⟩
set_option maxRecDepth 100000 in
set_option maxHeartbeats 4000000 in
theorem c_cut (l : Launch) (g : Gl) (x ob dw dr : Nat) (A B S : Nat → Nat) (hp : Bool) (r : Nat) (l0 : List Nat) (hl : l0.length ≤ 1200) (n : Int32) : Ct l g y_LP_cut b_LP_cut 2 (some .boolean) (rmD 1) [.ref x, .int n] (lpC x ob dw dr A B S hp :: wOct g ob r (rowOf l0) (nI l0.length)) (fun u w => u = some (.int (bI (inR (l0.length + 1) n))) ∧ w = lpC x ob dw dr A B S hp :: wOct g ob r (rowOf (cuL l0 n)) (nI (cuL l0 n).length)) := by
  refine ct_of [some (.ref x), some (.int n)] (by decide) (Nat.le_of_ble_eq_true rfl) rfl ?_
  intro X C E
  refine sw_iload_n (pc := 0) C d_LP_cut_0 rfl rfl ?_
  refine sw_if_lt (pc := 1) C 15 d_LP_cut_1 (by decide) (fun h1 => ?_) (fun h1 => ?_)
  · skip
    have ef : inR (l0.length + 1) n = false := inR_lo h1
    refine sw_iconst (pc := 15) C (nI 0) d_LP_cut_15 (by decide) ?_
    refine sw_topi (z := bI (inR (l0.length + 1) n)) (by rw [ef]; rfl) ?_
    exact sw_zret (pc := 16) C E rfl (bI_nar _) (Nat.le_of_ble_eq_true rfl) (Nat.le_of_ble_eq_true rfl) d_LP_cut_16 ⟨rfl, by rw [cuL_no ef]⟩
  refine sw_iload_n (pc := 4) C d_LP_cut_4 rfl rfl ?_
  refine sw_aload_n (pc := 5) C d_LP_cut_5 rfl rfl ?_
  refine sw_get (pc := 6) C inLP 0 rfl rfl 0 (by decide) t_224 rfl rfl d_LP_cut_6 ?_
  refine sw_get (pc := 9) C inOct 1 rfl rfl 1 (by decide) t_35 rfl rfl d_LP_cut_9 ?_
  refine sw_topi (z := nI l0.length) rfl ?_
  refine sw_icmp_le (pc := 12) C 17 d_LP_cut_12 (by decide) (fun h2 => ?_) (fun h2 => ?_)
  · skip
    obtain ⟨j, hj, rfl⟩ := i32_natle h1 (Int32.not_lt.mpr h2) (by omega)
    refine sw_aload_n (pc := 17) C d_LP_cut_17 rfl rfl ?_
    refine sw_get (pc := 18) C inLP 0 rfl rfl 0 (by decide) t_224 rfl rfl d_LP_cut_18 ?_
    refine sw_iload_n (pc := 21) C d_LP_cut_21 rfl rfl ?_
    refine sw_callVP (pc := 22) C (c_Oct_keep l g ob r l0 hl j hj) sv_Oct_keep t_468 rfl rfl rfl [1, 2] rfl rfl rfl rfl (Nat.le_of_ble_eq_true rfl) (Nat.le_of_ble_eq_true rfl) (Nat.le_of_ble_eq_true rfl) (Nat.le_of_ble_eq_true rfl) (Nat.le_of_ble_eq_true rfl) d_LP_cut_22 (fun v w1 hp => ?_)
    obtain ⟨rfl, rfl⟩ := hp
    refine ⟨rfl, ?_⟩
    refine sw_iconst (pc := 25) C (nI 1) d_LP_cut_25 (by decide) ?_
    refine sw_topi (z := bI (inR (l0.length + 1) (nI j))) (by rw [inR_in (by omega) (by omega)]; rfl) ?_
    exact sw_zret (pc := 26) C E rfl (bI_nar _) (Nat.le_of_ble_eq_true rfl) (Nat.le_of_ble_eq_true rfl) d_LP_cut_26 ⟨rfl, by rw [cuL_in hj hl]; rfl⟩
  have ef : inR (l0.length + 1) n = false := inR_gt (Int32.not_le.mp h2) (by omega)
  refine sw_iconst (pc := 15) C (nI 0) d_LP_cut_15 (by decide) ?_
  refine sw_topi (z := bI (inR (l0.length + 1) n)) (by rw [ef]; rfl) ?_
  exact sw_zret (pc := 16) C E rfl (bI_nar _) (Nat.le_of_ble_eq_true rfl) (Nat.le_of_ble_eq_true rfl) d_LP_cut_16 ⟨rfl, by rw [cuL_no ef]⟩
