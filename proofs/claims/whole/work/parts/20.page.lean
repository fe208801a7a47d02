/-! LayeredPage$Page -/
/-- a page's own cell: A 0; shapes A 1, placed shapes A 2, spots A 3, ground A 4 .. 8, ink A 9 .. 13, shapes A 14 .. 21 -/
abbrev pgC (A : Nat → Nat) (nS nP : Nat) : Nat × va_E := (A 0, .inr (6, [.ref (A 1), .int (nI nS), .ref (A 2), .ref (A 3), .int (nI nP), .ref (A 4), .ref (A 9)]))
abbrev shA (g : Gl) (A : Nat → Nat) : Nat × va_E := (A 1, .inl (g.2.2.2.2, 8, .inr (.inr (.inr (.inr (fun k => some (A (14 + k))))))))
abbrev iaC (g : Gl) (a n : Nat) (f : Nat → Int32) : Nat × va_E := (a, .inl (g.2.1, n, .inl f))
abbrev shV (b w h : Nat) (bs : Int32) : List Value := [.long (lN b), .int (nI w), .int (nI h), .int bs]
abbrev shC (a b w h : Nat) (bs : Int32) : Nat × va_E := (a, .inr (7, shV b w h bs))
def pool (A : Nat → Nat) (F : Nat → List Value) : va_W := (List.range 8).map (fun k => (A (14 + k), .inr (7, F k)))
theorem pool_get {X : va_W} {A : Nat → Nat} {F : Nat → List Value} {k : Nat} (hk : k < 8) : (X ++ pool A F)[X.length + k]? = some (A (14 + k), .inr (7, F k)) := by
  rw [List.getElem?_append_right (by omega), show X.length + k - X.length = k by omega]
  simp [pool, hk]
theorem is1 {ws : va_W} {i : Nat} {q : Nat × va_E} (h : ws[i]? = some q) : [i].map (fun i => ws[i]?) = [q].map some := by simp [h]
def upF (F : Nat → List Value) (k : Nat) (v : List Value) : Nat → List Value := fun j => if j = k then v else F j
theorem pool_set {X : va_W} {A : Nat → Nat} {F : Nat → List Value} {k : Nat} {v : List Value} (hk : k < 8) : (X ++ pool A F).set (X.length + k) (A (14 + k), .inr (7, v)) = X ++ pool A (upF F k v) := by
  rw [List.set_append_right _ _ (by omega), show X.length + k - X.length = k by omega]
  congr 1
  apply List.ext_getElem?
  intro j
  by_cases hj : j = k
  · subst hj
    rw [List.getElem?_set_self (by simp [pool, hk])]
    simp [pool, hk, upF]
  · rw [List.getElem?_set_ne (Ne.symm hj)]
    by_cases h8 : j < 8
    · simp [pool, h8, upF, hj]
    · simp [pool, h8]
set_option maxRecDepth 100000 in
set_option maxHeartbeats 4000000 in
theorem c_hasShape (l : Launch) (g : Gl) (A : Nat → Nat) (nS nP : Nat) (hS : nS ≤ 8) (k : Int32) : Ct l g y_Pg_hasShape b_Pg_hasShape 2 (some .boolean) (rmD 0) [.ref (A 0), .int k] ([pgC A nS nP]) (fun u w => u = some (.int (bI (inR nS k))) ∧ w = [pgC A nS nP]) := by
  refine ct_of [some (.ref (A 0)), some (.int k)] (by decide) (Nat.le_of_ble_eq_true rfl) rfl ?_
  intro X C E
  refine sw_iload_n (pc := 0) C d_Pg_hasShape_0 rfl rfl ?_
  refine sw_if_lt (pc := 1) C 16 d_Pg_hasShape_1 (by decide) (fun h1 => ?_) (fun h1 => ?_)
  · skip
    refine sw_iconst (pc := 16) C (nI 0) d_Pg_hasShape_16 (by decide) ?_
    refine sw_topi (z := bI (inR nS k)) (by rw [inR_lo h1]; rfl) ?_
    exact sw_zret (pc := 17) C E rfl (bI_nar _) (Nat.le_of_ble_eq_true rfl) (Nat.le_of_ble_eq_true rfl) d_Pg_hasShape_17 ⟨rfl, rfl⟩
  refine sw_iload_n (pc := 4) C d_Pg_hasShape_4 rfl rfl ?_
  refine sw_aload_n (pc := 5) C d_Pg_hasShape_5 rfl rfl ?_
  refine sw_get (pc := 6) C inPg 0 rfl rfl 1 (by decide) t_189 rfl rfl d_Pg_hasShape_6 ?_
  refine sw_topi (z := nI nS) rfl ?_
  refine sw_icmp_ge (pc := 9) C 16 d_Pg_hasShape_9 (by decide) (fun h2 => ?_) (fun h2 => ?_)
  · skip
    refine sw_iconst (pc := 16) C (nI 0) d_Pg_hasShape_16 (by decide) ?_
    refine sw_topi (z := bI (inR nS k)) (by rw [inR_hi h2]; rfl) ?_
    exact sw_zret (pc := 17) C E rfl (bI_nar _) (Nat.le_of_ble_eq_true rfl) (Nat.le_of_ble_eq_true rfl) d_Pg_hasShape_17 ⟨rfl, rfl⟩
  obtain ⟨j, hj, rfl⟩ := i32_nat h1 h2 (by omega)
  refine sw_iconst (pc := 12) C (nI 1) d_Pg_hasShape_12 (by decide) ?_
  refine sw_goto (pc := 13) C 17 d_Pg_hasShape_13 (by decide) ?_
  refine sw_topi (z := bI (inR nS (nI j))) (by rw [inR_in hj (by omega)]; rfl) ?_
  exact sw_zret (pc := 17) C E rfl (bI_nar _) (Nat.le_of_ble_eq_true rfl) (Nat.le_of_ble_eq_true rfl) d_Pg_hasShape_17 ⟨rfl, rfl⟩
set_option maxRecDepth 100000 in
set_option maxHeartbeats 4000000 in
theorem c_layerOf0 (l : Launch) (g : Gl) (A : Nat → Nat) (nS nP : Nat) (k : Int32) (hk : k = 0) : Ct l g y_Pg_layerOf b_Pg_layerOf 2 (some (.object "LayeredPage$Layer")) (rmD 0) [.ref (A 0), .int k] ([pgC A nS nP]) (fun u w => u = some (.ref (A 4)) ∧ w = [pgC A nS nP]) := by
  refine ct_of [some (.ref (A 0)), some (.int k)] (by decide) (Nat.le_of_ble_eq_true rfl) rfl ?_
  intro X C E
  refine sw_iload_n (pc := 0) C d_Pg_layerOf_0 rfl rfl ?_
  refine sw_if_ne (pc := 1) C 9 d_Pg_layerOf_1 (by decide) (fun g1 => ?_) (fun g1 => ?_)
  · skip
    exact absurd hk g1
  refine sw_aload_n (pc := 4) C d_Pg_layerOf_4 rfl rfl ?_
  refine sw_get (pc := 5) C inPg 0 rfl rfl 5 (by decide) t_201 rfl rfl d_Pg_layerOf_5 ?_
  exact sw_aret (pc := 8) C E rfl (Or.inr ⟨_, rfl⟩) (Nat.le_of_ble_eq_true rfl) (Nat.le_of_ble_eq_true rfl) d_Pg_layerOf_8 ⟨rfl, rfl⟩
set_option maxRecDepth 100000 in
set_option maxHeartbeats 4000000 in
theorem c_layerOf1 (l : Launch) (g : Gl) (A : Nat → Nat) (nS nP : Nat) (k : Int32) (hk : k = 1) : Ct l g y_Pg_layerOf b_Pg_layerOf 2 (some (.object "LayeredPage$Layer")) (rmD 0) [.ref (A 0), .int k] ([pgC A nS nP]) (fun u w => u = some (.ref (A 9)) ∧ w = [pgC A nS nP]) := by
  refine ct_of [some (.ref (A 0)), some (.int k)] (by decide) (Nat.le_of_ble_eq_true rfl) rfl ?_
  intro X C E
  refine sw_iload_n (pc := 0) C d_Pg_layerOf_0 rfl rfl ?_
  refine sw_if_ne (pc := 1) C 9 d_Pg_layerOf_1 (by decide) (fun g1 => ?_) (fun g1 => ?_)
  · skip
    refine sw_iload_n (pc := 9) C d_Pg_layerOf_9 rfl rfl ?_
    refine sw_iconst (pc := 10) C (nI 1) d_Pg_layerOf_10 (by decide) ?_
    refine sw_icmp_ne (pc := 11) C 21 d_Pg_layerOf_11 (by decide) (fun g2 => ?_) (fun g2 => ?_)
    · skip
      exact absurd hk g2
    refine sw_aload_n (pc := 14) C d_Pg_layerOf_14 rfl rfl ?_
    refine sw_get (pc := 15) C inPg 0 rfl rfl 6 (by decide) t_205 rfl rfl d_Pg_layerOf_15 ?_
    refine sw_goto (pc := 18) C 22 d_Pg_layerOf_18 (by decide) ?_
    exact sw_aret (pc := 22) C E rfl (Or.inr ⟨_, rfl⟩) (Nat.le_of_ble_eq_true rfl) (Nat.le_of_ble_eq_true rfl) d_Pg_layerOf_22 ⟨rfl, rfl⟩
  rw [hk] at g1; exact absurd g1 (by decide)
set_option maxRecDepth 100000 in
set_option maxHeartbeats 4000000 in
theorem c_layerOfN (l : Launch) (g : Gl) (A : Nat → Nat) (nS nP : Nat) (k : Int32) (h0 : ¬ k = 0) (h1 : ¬ k = 1) : Ct l g y_Pg_layerOf b_Pg_layerOf 2 (some (.object "LayeredPage$Layer")) (rmD 0) [.ref (A 0), .int k] ([pgC A nS nP]) (fun u w => u = some (.null) ∧ w = [pgC A nS nP]) := by
  refine ct_of [some (.ref (A 0)), some (.int k)] (by decide) (Nat.le_of_ble_eq_true rfl) rfl ?_
  intro X C E
  refine sw_iload_n (pc := 0) C d_Pg_layerOf_0 rfl rfl ?_
  refine sw_if_ne (pc := 1) C 9 d_Pg_layerOf_1 (by decide) (fun g1 => ?_) (fun g1 => ?_)
  · skip
    refine sw_iload_n (pc := 9) C d_Pg_layerOf_9 rfl rfl ?_
    refine sw_iconst (pc := 10) C (nI 1) d_Pg_layerOf_10 (by decide) ?_
    refine sw_icmp_ne (pc := 11) C 21 d_Pg_layerOf_11 (by decide) (fun g2 => ?_) (fun g2 => ?_)
    · skip
      refine sw_null (pc := 21) C d_Pg_layerOf_21 ?_
      exact sw_aret (pc := 22) C E rfl (Or.inl rfl) (Nat.le_of_ble_eq_true rfl) (Nat.le_of_ble_eq_true rfl) d_Pg_layerOf_22 ⟨rfl, rfl⟩
    exact absurd g2 h1
  exact absurd g1 h0
set_option maxRecDepth 100000 in
set_option maxHeartbeats 4000000 in
theorem c_addShape (l : Launch) (g : Gl) (A : Nat → Nat) (nS nP : Nat) (b0 w0 h0 : Nat) (bs0 : Int32) (b w h : Nat) (bs : Int32) (hS : nS < 8) : Ct l g y_Pg_addShape b_Pg_addShape 7 (some .int) (rmD 0) [.ref (A 0), .long (lN b), .int (nI w), .int (nI h), .int bs] ([pgC A nS nP, shA g A, shC (A (14 + nS)) b0 w0 h0 bs0]) (fun u x => u = some (.int (nI nS)) ∧ x = [pgC A (nS + 1) nP, shA g A, shC (A (14 + nS)) b w h bs]) := by
  refine ct_of [some (.ref (A 0)), some (.long (lN b)), none, some (.int (nI w)), some (.int (nI h)), some (.int bs), none] (by decide) (Nat.le_of_ble_eq_true rfl) rfl ?_
  intro X C E
  refine sw_aload_n (pc := 0) C d_Pg_addShape_0 rfl rfl ?_
  refine sw_get (pc := 1) C inPg 0 rfl rfl 1 (by decide) t_189 rfl rfl d_Pg_addShape_1 ?_
  refine sw_topi (z := nI nS) rfl ?_
  refine sw_bipush (pc := 4) C (nI 8) d_Pg_addShape_4 (by decide) ?_
  refine sw_icmp_ltN (pc := 6) C 11 (by omega) (by omega) d_Pg_addShape_6 (by decide) (fun g1 => ?_) (fun g1 => ?_)
  · skip
    refine sw_aload_n (pc := 11) C d_Pg_addShape_11 rfl rfl ?_
    refine sw_get (pc := 12) C inPg 0 rfl rfl 0 (by decide) t_186 rfl rfl d_Pg_addShape_12 ?_
    refine sw_aload_n (pc := 15) C d_Pg_addShape_15 rfl rfl ?_
    refine sw_get (pc := 16) C inPg 0 rfl rfl 1 (by decide) t_189 rfl rfl d_Pg_addShape_16 ?_
    refine sw_topi (z := nI nS) rfl ?_
    refine sw_aaldN (pc := 19) C 1 nS rfl rfl (by omega) (by decide) d_Pg_addShape_19 ?_
    refine sw_st (st' := .ref (A (14 + nS)) :: _) rfl ?_
    refine sw_astore (pc := 20) C d_Pg_addShape_20 (by decide) rfl ?_
    refine sw_aload (pc := 22) C d_Pg_addShape_22 rfl ?_
    refine sw_lload_n (pc := 24) C d_Pg_addShape_24 rfl rfl ?_
    refine sw_put (pc := 25) C inSh 2 rfl rfl 0 (by decide) tySh okSh nmSh t_166 rfl rfl (ty := .long) (by decide +kernel) rfl rfl (Nat.le_of_ble_eq_true rfl) d_Pg_addShape_25 ?_
    refine sw_aload (pc := 28) C d_Pg_addShape_28 rfl ?_
    refine sw_iload_n (pc := 30) C d_Pg_addShape_30 rfl rfl ?_
    refine sw_put (pc := 31) C inSh 2 rfl rfl 1 (by decide) tySh okSh nmSh t_170 rfl rfl (ty := .int) (by decide +kernel) rfl rfl (Nat.le_of_ble_eq_true rfl) d_Pg_addShape_31 ?_
    refine sw_aload (pc := 34) C d_Pg_addShape_34 rfl ?_
    refine sw_iload (pc := 36) C d_Pg_addShape_36 rfl ?_
    refine sw_put (pc := 38) C inSh 2 rfl rfl 2 (by decide) tySh okSh nmSh t_173 rfl rfl (ty := .int) (by decide +kernel) rfl rfl (Nat.le_of_ble_eq_true rfl) d_Pg_addShape_38 ?_
    refine sw_aload (pc := 41) C d_Pg_addShape_41 rfl ?_
    refine sw_iload (pc := 43) C d_Pg_addShape_43 rfl ?_
    refine sw_put (pc := 45) C inSh 2 rfl rfl 3 (by decide) tySh okSh nmSh t_176 rfl rfl (ty := .int) (by decide +kernel) rfl rfl (Nat.le_of_ble_eq_true rfl) d_Pg_addShape_45 ?_
    refine sw_aload_n (pc := 48) C d_Pg_addShape_48 rfl rfl ?_
    refine sw_dup (pc := 49) C d_Pg_addShape_49 rfl ?_
    refine sw_get (pc := 50) C inPg 0 rfl rfl 1 (by decide) t_189 rfl rfl d_Pg_addShape_50 ?_
    refine sw_topi (z := nI nS) rfl ?_
    refine sw_iconst (pc := 53) C (nI 1) d_Pg_addShape_53 (by decide) ?_
    refine sw_iadd (pc := 54) C d_Pg_addShape_54 ?_
    refine sw_topi (z := nI (nS + 1)) (nI_add _ _) ?_
    refine sw_put (pc := 55) C inPg 0 rfl rfl 1 (by decide) tyPg okPg nmPg t_189 rfl rfl (ty := .int) (by decide +kernel) rfl rfl (Nat.le_of_ble_eq_true rfl) d_Pg_addShape_55 ?_
    refine sw_aload_n (pc := 58) C d_Pg_addShape_58 rfl rfl ?_
    refine sw_get (pc := 59) C inPg 0 rfl rfl 1 (by decide) t_189 rfl rfl d_Pg_addShape_59 ?_
    refine sw_topi (z := nI (nS + 1)) rfl ?_
    refine sw_iconst (pc := 62) C (nI 1) d_Pg_addShape_62 (by decide) ?_
    refine sw_isub (pc := 63) C d_Pg_addShape_63 ?_
    refine sw_topi (z := nI ((nS + 1) - 1)) (pk_sub (by omega)) ?_
    refine sw_topi (z := nI nS) (by congr 1) ?_
    exact sw_iret (pc := 64) C E rfl (Nat.le_of_ble_eq_true rfl) (Nat.le_of_ble_eq_true rfl) d_Pg_addShape_64 ⟨rfl, rfl⟩
  omega
set_option maxRecDepth 100000 in
set_option maxHeartbeats 4000000 in
theorem c_addShapeF (l : Launch) (g : Gl) (A : Nat → Nat) (nP : Nat) (b : Int64) (w h : Nat) (bs : Int32) : Ct l g y_Pg_addShape b_Pg_addShape 7 (some .int) (rmD 0) [.ref (A 0), .long b, .int (nI w), .int (nI h), .int bs] ([pgC A 8 nP]) (fun u x => u = some (.int (-1)) ∧ x = [pgC A 8 nP]) := by
  refine ct_of [some (.ref (A 0)), some (.long b), none, some (.int (nI w)), some (.int (nI h)), some (.int bs), none] (by decide) (Nat.le_of_ble_eq_true rfl) rfl ?_
  intro X C E
  refine sw_aload_n (pc := 0) C d_Pg_addShape_0 rfl rfl ?_
  refine sw_get (pc := 1) C inPg 0 rfl rfl 1 (by decide) t_189 rfl rfl d_Pg_addShape_1 ?_
  refine sw_topi (z := nI 8) rfl ?_
  refine sw_bipush (pc := 4) C (nI 8) d_Pg_addShape_4 (by decide) ?_
  refine sw_icmp_ltN (pc := 6) C 11 (by omega) (by omega) d_Pg_addShape_6 (by decide) (fun g1 => ?_) (fun g1 => ?_)
  · skip
    omega
  refine sw_iconst (pc := 9) C (-1) d_Pg_addShape_9 (by decide) ?_
  exact sw_iret (pc := 10) C E rfl (Nat.le_of_ble_eq_true rfl) (Nat.le_of_ble_eq_true rfl) d_Pg_addShape_10 ⟨rfl, rfl⟩
set_option maxRecDepth 100000 in
set_option maxHeartbeats 4000000 in
theorem c_addPl (l : Launch) (g : Gl) (A : Nat → Nat) (nS nP : Nat) (ps sp : Nat → Int32) (s x : Int32) (hP : nP < 20) : Ct l g y_Pg_addPlacing b_Pg_addPlacing 3 (some .int) (rmD 0) [.ref (A 0), .int s, .int x] ([pgC A nS nP, iaC g (A 2) 20 ps, iaC g (A 3) 20 sp]) (fun u w => u = some (.int (nI (nP + 1))) ∧ w = [pgC A nS (nP + 1), iaC g (A 2) 20 (upd ps nP s), iaC g (A 3) 20 (upd sp nP x)]) := by
  refine ct_of [some (.ref (A 0)), some (.int s), some (.int x)] (by decide) (Nat.le_of_ble_eq_true rfl) rfl ?_
  intro X C E
  refine sw_aload_n (pc := 0) C d_Pg_addPlacing_0 rfl rfl ?_
  refine sw_get (pc := 1) C inPg 0 rfl rfl 4 (by decide) t_197 rfl rfl d_Pg_addPlacing_1 ?_
  refine sw_topi (z := nI nP) rfl ?_
  refine sw_bipush (pc := 4) C (nI 20) d_Pg_addPlacing_4 (by decide) ?_
  refine sw_icmp_ltN (pc := 6) C 11 (by omega) (by omega) d_Pg_addPlacing_6 (by decide) (fun g1 => ?_) (fun g1 => ?_)
  · skip
    refine sw_aload_n (pc := 11) C d_Pg_addPlacing_11 rfl rfl ?_
    refine sw_get (pc := 12) C inPg 0 rfl rfl 2 (by decide) t_193 rfl rfl d_Pg_addPlacing_12 ?_
    refine sw_aload_n (pc := 15) C d_Pg_addPlacing_15 rfl rfl ?_
    refine sw_get (pc := 16) C inPg 0 rfl rfl 4 (by decide) t_197 rfl rfl d_Pg_addPlacing_16 ?_
    refine sw_topi (z := nI nP) rfl ?_
    refine sw_iload_n (pc := 19) C d_Pg_addPlacing_19 rfl rfl ?_
    refine sw_iastN (pc := 20) C 1 nP rfl rfl (by omega) (by decide) d_Pg_addPlacing_20 ?_
    refine sw_aload_n (pc := 21) C d_Pg_addPlacing_21 rfl rfl ?_
    refine sw_get (pc := 22) C inPg 0 rfl rfl 3 (by decide) t_195 rfl rfl d_Pg_addPlacing_22 ?_
    refine sw_aload_n (pc := 25) C d_Pg_addPlacing_25 rfl rfl ?_
    refine sw_get (pc := 26) C inPg 0 rfl rfl 4 (by decide) t_197 rfl rfl d_Pg_addPlacing_26 ?_
    refine sw_topi (z := nI nP) rfl ?_
    refine sw_iload_n (pc := 29) C d_Pg_addPlacing_29 rfl rfl ?_
    refine sw_iastN (pc := 30) C 2 nP rfl rfl (by omega) (by decide) d_Pg_addPlacing_30 ?_
    refine sw_aload_n (pc := 31) C d_Pg_addPlacing_31 rfl rfl ?_
    refine sw_dup (pc := 32) C d_Pg_addPlacing_32 rfl ?_
    refine sw_get (pc := 33) C inPg 0 rfl rfl 4 (by decide) t_197 rfl rfl d_Pg_addPlacing_33 ?_
    refine sw_topi (z := nI nP) rfl ?_
    refine sw_iconst (pc := 36) C (nI 1) d_Pg_addPlacing_36 (by decide) ?_
    refine sw_iadd (pc := 37) C d_Pg_addPlacing_37 ?_
    refine sw_topi (z := nI (nP + 1)) (nI_add _ _) ?_
    refine sw_put (pc := 38) C inPg 0 rfl rfl 4 (by decide) tyPg okPg nmPg t_197 rfl rfl (ty := .int) (by decide +kernel) rfl rfl (Nat.le_of_ble_eq_true rfl) d_Pg_addPlacing_38 ?_
    refine sw_aload_n (pc := 41) C d_Pg_addPlacing_41 rfl rfl ?_
    refine sw_get (pc := 42) C inPg 0 rfl rfl 4 (by decide) t_197 rfl rfl d_Pg_addPlacing_42 ?_
    refine sw_topi (z := nI (nP + 1)) rfl ?_
    exact sw_iret (pc := 45) C E rfl (Nat.le_of_ble_eq_true rfl) (Nat.le_of_ble_eq_true rfl) d_Pg_addPlacing_45 ⟨rfl, rfl⟩
  omega
set_option maxRecDepth 100000 in
set_option maxHeartbeats 4000000 in
theorem c_addPlF (l : Launch) (g : Gl) (A : Nat → Nat) (nS : Nat) (s x : Int32) : Ct l g y_Pg_addPlacing b_Pg_addPlacing 3 (some .int) (rmD 0) [.ref (A 0), .int s, .int x] ([pgC A nS 20]) (fun u w => u = some (.int (-1)) ∧ w = [pgC A nS 20]) := by
  refine ct_of [some (.ref (A 0)), some (.int s), some (.int x)] (by decide) (Nat.le_of_ble_eq_true rfl) rfl ?_
  intro X C E
  refine sw_aload_n (pc := 0) C d_Pg_addPlacing_0 rfl rfl ?_
  refine sw_get (pc := 1) C inPg 0 rfl rfl 4 (by decide) t_197 rfl rfl d_Pg_addPlacing_1 ?_
  refine sw_topi (z := nI 20) rfl ?_
  refine sw_bipush (pc := 4) C (nI 20) d_Pg_addPlacing_4 (by decide) ?_
  refine sw_icmp_ltN (pc := 6) C 11 (by omega) (by omega) d_Pg_addPlacing_6 (by decide) (fun g1 => ?_) (fun g1 => ?_)
  · skip
    omega
  refine sw_iconst (pc := 9) C (-1) d_Pg_addPlacing_9 (by decide) ?_
  exact sw_iret (pc := 10) C E rfl (Nat.le_of_ble_eq_true rfl) (Nat.le_of_ble_eq_true rfl) d_Pg_addPlacing_10 ⟨rfl, rfl⟩
/-- some placing of the first m puts a bit 1 at (x, y) -/
def inkd (b w h ps sp : Nat → Nat) (x y : Int) : Nat → Bool
  | 0 => false
  | m + 1 => inkd b w h ps sp x y m || decide (sb (b (ps m)) (w (ps m)) (h (ps m)) (x - ((sp m / 16 : Nat) : Int)) (y - ((sp m % 16 : Nat) : Int)) = 1)
set_option maxRecDepth 100000 in
set_option maxHeartbeats 4000000 in
theorem c_isInked (l : Launch) (g : Gl) (A : Nat → Nat) (nS nP : Nat) (b w h ps sp : Nat → Nat) (bs : Nat → Int32) (x y : Nat) (hP : nP ≤ 20) (hb : ∀ k, k < 8 → b k < 2 ^ 64 ∧ w k ≤ 8 ∧ h k ≤ 8) (hps : ∀ i, i < nP → ps i < 8 ∧ sp i < 256) (hx : x < 16) (hy : y < 16) : Ct l g y_Pg_isInked b_Pg_isInked 6 (some .boolean) (rmD 1) [.ref (A 0), .int (nI x), .int (nI y)] ([pgC A nS nP, shA g A, iaC g (A 2) 20 (nF ps), iaC g (A 3) 20 (nF sp)] ++ pool A (fun k => shV (b k) (w k) (h k) (bs k))) (fun u q => u = some (.int (bI (inkd b w h ps sp x y nP))) ∧ q = [pgC A nS nP, shA g A, iaC g (A 2) 20 (nF ps), iaC g (A 3) 20 (nF sp)] ++ pool A (fun k => shV (b k) (w k) (h k) (bs k))) := by
  refine ct_of [some (.ref (A 0)), some (.int (nI x)), some (.int (nI y)), none, none, none] (by decide) (Nat.le_of_ble_eq_true rfl) rfl ?_
  intro X C E
  refine sw_iconst (pc := 0) C (nI 0) d_Pg_isInked_0 (by decide) ?_
  refine sw_istore_n (pc := 1) C d_Pg_isInked_1 rfl (by decide) rfl ?_
  have key : ∀ (d i : Nat) (o4 o5 : Option Value), i + d = nP → inkd b w h ps sp x y i = false → SW X g 6 0 0 ([pgC A nS nP, shA g A, iaC g (A 2) 20 (nF ps), iaC g (A 3) 20 (nF sp)] ++ pool A (fun k => shV (b k) (w k) (h k) (bs k))) 2 [some (.ref (A 0)), some (.int (nI x)), some (.int (nI y)), some (.int (nI i)), o4, o5] [] := by
    intro d
    induction d with
    | zero =>
      intro i o4 o5 hi hf
      refine sw_iload_n (pc := 2) C d_Pg_isInked_2 rfl rfl ?_
      refine sw_aload_n (pc := 3) C d_Pg_isInked_3 rfl rfl ?_
      refine sw_get (pc := 4) C inPg 0 rfl rfl 4 (by decide) t_197 rfl rfl d_Pg_isInked_4 ?_
      refine sw_topi (z := nI nP) rfl ?_
      refine sw_icmp_geN (pc := 7) C 66 (by omega) (by omega) d_Pg_isInked_7 (by decide) (fun g1 => ?_) (fun g1 => ?_)
      · skip
        have ei : i = nP := by omega
        subst ei
        refine sw_iconst (pc := 66) C (nI 0) d_Pg_isInked_66 (by decide) ?_
        refine sw_topi (z := bI (inkd b w h ps sp x y i)) (by rw [hf]; rfl) ?_
        exact sw_zret (pc := 67) C E rfl (bI_nar _) (Nat.le_of_ble_eq_true rfl) (Nat.le_of_ble_eq_true rfl) d_Pg_isInked_67 ⟨rfl, rfl⟩
      omega
    | succ d ih =>
      intro i o4 o5 hi hf
      refine sw_iload_n (pc := 2) C d_Pg_isInked_2 rfl rfl ?_
      refine sw_aload_n (pc := 3) C d_Pg_isInked_3 rfl rfl ?_
      refine sw_get (pc := 4) C inPg 0 rfl rfl 4 (by decide) t_197 rfl rfl d_Pg_isInked_4 ?_
      refine sw_topi (z := nI nP) rfl ?_
      refine sw_icmp_geN (pc := 7) C 66 (by omega) (by omega) d_Pg_isInked_7 (by decide) (fun g1 => ?_) (fun g1 => ?_)
      · skip
        omega
      obtain ⟨hp1, hp2⟩ := hps i g1
      obtain ⟨hb1, hb2, hb3⟩ := hb (ps i) hp1
      refine sw_aload_n (pc := 10) C d_Pg_isInked_10 rfl rfl ?_
      refine sw_get (pc := 11) C inPg 0 rfl rfl 3 (by decide) t_195 rfl rfl d_Pg_isInked_11 ?_
      refine sw_iload_n (pc := 14) C d_Pg_isInked_14 rfl rfl ?_
      refine sw_ialdN (pc := 15) C 3 i rfl rfl (by omega) (by decide) d_Pg_isInked_15 ?_
      refine sw_topi (z := nI (sp i)) rfl ?_
      refine sw_bipush (pc := 16) C (nI 16) d_Pg_isInked_16 (by decide) ?_
      refine sw_idiv (pc := 18) C d_Pg_isInked_18 (by decide) ?_
      refine sw_topi (z := nI ((sp i) / 16)) (pk_div (by omega) (by omega) (by omega)) ?_
      refine sw_istore (pc := 19) C d_Pg_isInked_19 (by decide) rfl ?_
      refine sw_aload_n (pc := 21) C d_Pg_isInked_21 rfl rfl ?_
      refine sw_get (pc := 22) C inPg 0 rfl rfl 3 (by decide) t_195 rfl rfl d_Pg_isInked_22 ?_
      refine sw_iload_n (pc := 25) C d_Pg_isInked_25 rfl rfl ?_
      refine sw_ialdN (pc := 26) C 3 i rfl rfl (by omega) (by decide) d_Pg_isInked_26 ?_
      refine sw_topi (z := nI (sp i)) rfl ?_
      refine sw_bipush (pc := 27) C (nI 16) d_Pg_isInked_27 (by decide) ?_
      refine sw_irem (pc := 29) C d_Pg_isInked_29 (by decide) ?_
      refine sw_topi (z := nI ((sp i) % 16)) (pk_rem (by omega) (by omega) (by omega)) ?_
      refine sw_istore (pc := 30) C d_Pg_isInked_30 (by decide) rfl ?_
      refine sw_aload_n (pc := 32) C d_Pg_isInked_32 rfl rfl ?_
      refine sw_get (pc := 33) C inPg 0 rfl rfl 0 (by decide) t_186 rfl rfl d_Pg_isInked_33 ?_
      refine sw_aload_n (pc := 36) C d_Pg_isInked_36 rfl rfl ?_
      refine sw_get (pc := 37) C inPg 0 rfl rfl 2 (by decide) t_193 rfl rfl d_Pg_isInked_37 ?_
      refine sw_iload_n (pc := 40) C d_Pg_isInked_40 rfl rfl ?_
      refine sw_ialdN (pc := 41) C 2 i rfl rfl (by omega) (by decide) d_Pg_isInked_41 ?_
      refine sw_topi (z := nI (ps i)) rfl ?_
      refine sw_aaldN (pc := 42) C 1 (ps i) rfl rfl (by omega) (by decide) d_Pg_isInked_42 ?_
      refine sw_st (st' := .ref (A (14 + ps i)) :: _) rfl ?_
      refine sw_iload_n (pc := 43) C d_Pg_isInked_43 rfl rfl ?_
      refine sw_iload (pc := 44) C d_Pg_isInked_44 rfl ?_
      refine sw_isub (pc := 46) C d_Pg_isInked_46 ?_
      refine sw_iload_n (pc := 47) C d_Pg_isInked_47 rfl rfl ?_
      refine sw_iload (pc := 48) C d_Pg_isInked_48 rfl ?_
      refine sw_isub (pc := 50) C d_Pg_isInked_50 ?_
      refine sw_callVR (pc := 51) C (c_bitAt l g (A (14 + ps i)) (b (ps i)) (w (ps i)) (h (ps i)) (bs (ps i)) hb1 hb2 hb3 (nI x - nI (sp i / 16)) (nI y - nI (sp i % 16))) sv_Sh_bitAt t_367 rfl rfl rfl [4 + ps i] (is1 (pool_get (X := [pgC A nS nP, shA g A, iaC g (A 2) 20 (nF ps), iaC g (A 3) 20 (nF sp)]) hp1)) rfl rfl rfl (Nat.le_of_ble_eq_true rfl) (Nat.le_of_ble_eq_true rfl) (Nat.le_of_ble_eq_true rfl) (Nat.le_of_ble_eq_true rfl) (Nat.le_of_ble_eq_true rfl) d_Pg_isInked_51 (fun v w1 hp => ?_)
      obtain ⟨rfl, rfl⟩ := hp
      refine ⟨rfl, ?_⟩
      refine sw_topi (z := nI (sb (b (ps i)) (w (ps i)) (h (ps i)) ((x : Int) - ((sp i / 16 : Nat) : Int)) ((y : Int) - ((sp i % 16 : Nat) : Int)))) (by rw [pk_sub_toInt (by omega) (by omega), pk_sub_toInt (by omega) (by omega)]) ?_
      have hs1 : (sb (b (ps i)) (w (ps i)) (h (ps i)) ((x : Int) - ((sp i / 16 : Nat) : Int)) ((y : Int) - ((sp i % 16 : Nat) : Int))) ≤ 1 := sb_le _ _ _ _ _
      refine sw_iconst (pc := 54) C (nI 1) d_Pg_isInked_54 (by decide) ?_
      refine sw_icmp_neN (pc := 55) C 60 (by omega) (by omega) d_Pg_isInked_55 (by decide) (fun g2 => ?_) (fun g2 => ?_)
      · skip
        refine sw_iincN (pc := 60) C 1 d_Pg_isInked_60 rfl (by decide) (by decide) rfl ?_
        refine sw_goto (pc := 63) C 2 d_Pg_isInked_63 (by decide) ?_
        exact ih (i + 1) _ _ (by omega) (by show (inkd b w h ps sp x y i || decide ((sb (b (ps i)) (w (ps i)) (h (ps i)) ((x : Int) - ((sp i / 16 : Nat) : Int)) ((y : Int) - ((sp i % 16 : Nat) : Int))) = 1)) = false; rw [hf, decide_eq_false g2]; rfl)
      have hin : inkd b w h ps sp x y (i + 1) = true := by show (inkd b w h ps sp x y i || decide ((sb (b (ps i)) (w (ps i)) (h (ps i)) ((x : Int) - ((sp i / 16 : Nat) : Int)) ((y : Int) - ((sp i % 16 : Nat) : Int))) = 1)) = true; rw [decide_eq_true g2, Bool.or_true]
      have hall : ∀ e, inkd b w h ps sp x y (i + 1 + e) = true := by
        intro e
        induction e with
        | zero => exact hin
        | succ e ihe => show (inkd b w h ps sp x y (i + 1 + e) || _) = true; rw [ihe]; rfl
      have hfin := hall d
      rw [show i + 1 + d = nP by omega] at hfin
      refine sw_iconst (pc := 58) C (nI 1) d_Pg_isInked_58 (by decide) ?_
      refine sw_topi (z := bI (inkd b w h ps sp x y nP)) (by rw [hfin]; rfl) ?_
      exact sw_zret (pc := 59) C E rfl (bI_nar _) (Nat.le_of_ble_eq_true rfl) (Nat.le_of_ble_eq_true rfl) d_Pg_isInked_59 ⟨rfl, rfl⟩
  exact key nP 0 _ _ (by omega) rfl
set_option maxRecDepth 100000 in
set_option maxHeartbeats 4000000 in
theorem c_Pg_empty (l : Launch) (g : Gl) (A : Nat → Nat) (nS nP : Nat) (ce0 co0 cd0 li0 ce1 co1 cd1 li1 : Nat → Int32) (cm0 cm1 : Bool) : Ct l g y_Pg_makeEmpty b_Pg_makeEmpty 1 none (rmD 2) [.ref (A 0)] (pgC A nS nP :: (wLy g (fun i => A (4 + i)) 8 ce0 co0 cd0 li0 cm0 ++ wLy g (fun i => A (9 + i)) 4 ce1 co1 cd1 li1 cm1)) (fun u w => u = none ∧ w = pgC A 0 0 :: (wLy g (fun i => A (4 + i)) 8 (fun _ => nI 0) (fun _ => nI 0) cd0 li0 false ++ wLy g (fun i => A (9 + i)) 4 (fun _ => nI 0) (fun _ => nI 0) cd1 li1 false)) := by
  refine ct_of [some (.ref (A 0))] (by decide) (Nat.le_of_ble_eq_true rfl) rfl ?_
  intro X C E
  refine sw_aload_n (pc := 0) C d_Pg_makeEmpty_0 rfl rfl ?_
  refine sw_iconst (pc := 1) C (nI 0) d_Pg_makeEmpty_1 (by decide) ?_
  refine sw_put (pc := 2) C inPg 0 rfl rfl 1 (by decide) tyPg okPg nmPg t_189 rfl rfl (ty := .int) (by decide +kernel) rfl rfl (Nat.le_of_ble_eq_true rfl) d_Pg_makeEmpty_2 ?_
  refine sw_aload_n (pc := 5) C d_Pg_makeEmpty_5 rfl rfl ?_
  refine sw_iconst (pc := 6) C (nI 0) d_Pg_makeEmpty_6 (by decide) ?_
  refine sw_put (pc := 7) C inPg 0 rfl rfl 4 (by decide) tyPg okPg nmPg t_197 rfl rfl (ty := .int) (by decide +kernel) rfl rfl (Nat.le_of_ble_eq_true rfl) d_Pg_makeEmpty_7 ?_
  refine sw_aload_n (pc := 10) C d_Pg_makeEmpty_10 rfl rfl ?_
  refine sw_get (pc := 11) C inPg 0 rfl rfl 5 (by decide) t_201 rfl rfl d_Pg_makeEmpty_11 ?_
  refine sw_callVP (pc := 14) C (c_Ly_empty l g (fun i => A (4 + i)) 8 ce0 co0 cd0 li0 cm0 (Or.inr rfl)) sv_Ly_makeEmpty t_305 rfl rfl rfl [1, 2, 3, 4, 5] rfl rfl rfl rfl (Nat.le_of_ble_eq_true rfl) (Nat.le_of_ble_eq_true rfl) (Nat.le_of_ble_eq_true rfl) (Nat.le_of_ble_eq_true rfl) (Nat.le_of_ble_eq_true rfl) d_Pg_makeEmpty_14 (fun v w1 hp => ?_)
  obtain ⟨rfl, rfl⟩ := hp
  refine ⟨rfl, ?_⟩
  refine sw_ws (ws' := pgC A 0 0 :: (wLy g (fun i => A (4 + i)) 8 (fun _ => nI 0) (fun _ => nI 0) cd0 li0 false ++ wLy g (fun i => A (9 + i)) 4 ce1 co1 cd1 li1 cm1)) rfl ?_
  refine sw_aload_n (pc := 17) C d_Pg_makeEmpty_17 rfl rfl ?_
  refine sw_get (pc := 18) C inPg 0 rfl rfl 6 (by decide) t_205 rfl rfl d_Pg_makeEmpty_18 ?_
  refine sw_callVP (pc := 21) C (c_Ly_empty l g (fun i => A (9 + i)) 4 ce1 co1 cd1 li1 cm1 (Or.inl rfl)) sv_Ly_makeEmpty t_305 rfl rfl rfl [6, 7, 8, 9, 10] rfl rfl rfl rfl (Nat.le_of_ble_eq_true rfl) (Nat.le_of_ble_eq_true rfl) (Nat.le_of_ble_eq_true rfl) (Nat.le_of_ble_eq_true rfl) (Nat.le_of_ble_eq_true rfl) d_Pg_makeEmpty_21 (fun v w1 hp => ?_)
  obtain ⟨rfl, rfl⟩ := hp
  refine ⟨rfl, ?_⟩
  refine sw_ws (ws' := pgC A 0 0 :: (wLy g (fun i => A (4 + i)) 8 (fun _ => nI 0) (fun _ => nI 0) cd0 li0 false ++ wLy g (fun i => A (9 + i)) 4 (fun _ => nI 0) (fun _ => nI 0) cd1 li1 false)) rfl ?_
  exact sw_vret (pc := 24) C E rfl (Nat.le_of_ble_eq_true rfl) (Nat.le_of_ble_eq_true rfl) d_Pg_makeEmpty_24 ⟨rfl, rfl⟩
