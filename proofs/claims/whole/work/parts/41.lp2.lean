/-! LayeredPage: the picture -/
def celV (hp : Bool) (k : Int32) (ce0 ce1 : Nat → Int32) (x y d : Int32) : Int32 := if hp = true ∧ k = 0 then lyAt 8 ce0 x y d else if hp = true ∧ k = 1 then lyAt 4 ce1 x y d else d
def inkV (hp : Bool) (b w h ps sp : Nat → Nat) (nP : Nat) (x y : Int32) : Bool := hp && (inR 16 x && inR 16 y) && inkd b w h ps sp (x.toNatClampNeg : Int) (y.toNatClampNeg : Int) nP
def pixV (hp : Bool) (b w h ps sp : Nat → Nat) (nP : Nat) (ce0 ce1 : Nat → Int32) (x y : Int32) : Int32 := if (hp && (inR 16 x && inR 16 y)) = true then (if inkd b w h ps sp (x.toNatClampNeg : Int) (y.toNatClampNeg : Int) nP = true then ce1 (4 * (y.toNatClampNeg / 4) + x.toNatClampNeg / 4) else ce0 (8 * (y.toNatClampNeg / 2) + x.toNatClampNeg / 2)) else -1
theorem onP_no {x y : Int32} (h : (inR 16 x && inR 16 y) = true) : ∃ i j : Nat, i < 16 ∧ j < 16 ∧ x = nI i ∧ y = nI j := by
  rw [Bool.and_eq_true] at h
  obtain ⟨i, hi, rfl⟩ := inR_of (by decide) h.1
  obtain ⟨j, hj, rfl⟩ := inR_of (by decide) h.2
  exact ⟨i, j, hi, hj, rfl, rfl⟩
set_option maxRecDepth 100000 in
set_option maxHeartbeats 4000000 in
theorem c_shapes (l : Launch) (g : Gl) (x ob dw dr : Nat) (A B S : Nat → Nat) (hp : Bool) (nS nP : Nat) : Ct l g y_LP_shapes b_LP_shapes 1 (some .int) (rmD 0) [.ref x] ([lpC x ob dw dr A B S hp, pgC B nS nP]) (fun u w => u = some (.int (if hp = true then nI nS else -1)) ∧ w = [lpC x ob dw dr A B S hp, pgC B nS nP]) := by
  refine ct_of [some (.ref x)] (by decide) (Nat.le_of_ble_eq_true rfl) rfl ?_
  intro X C E
  refine sw_aload_n (pc := 0) C d_LP_shapes_0 rfl rfl ?_
  refine sw_get (pc := 1) C inLP 0 rfl rfl 4 (by decide) t_228 rfl rfl d_LP_shapes_1 ?_
  refine sw_if_eqB (pc := 4) C 17 d_LP_shapes_4 (by decide) (fun g1 => ?_) (fun g1 => ?_)
  · skip
    refine sw_iconst (pc := 17) C (-1) d_LP_shapes_17 (by decide) ?_
    exact sw_iret (pc := 18) C E rfl (Nat.le_of_ble_eq_true rfl) (Nat.le_of_ble_eq_true rfl) d_LP_shapes_18 ⟨by rw [g1]; rfl, rfl⟩
  refine sw_aload_n (pc := 7) C d_LP_shapes_7 rfl rfl ?_
  refine sw_get (pc := 8) C inLP 0 rfl rfl 5 (by decide) t_229 rfl rfl d_LP_shapes_8 ?_
  refine sw_get (pc := 11) C inPg 1 rfl rfl 1 (by decide) t_192 rfl rfl d_LP_shapes_11 ?_
  refine sw_topi (z := nI nS) rfl ?_
  refine sw_goto (pc := 14) C 18 d_LP_shapes_14 (by decide) ?_
  exact sw_iret (pc := 18) C E rfl (Nat.le_of_ble_eq_true rfl) (Nat.le_of_ble_eq_true rfl) d_LP_shapes_18 ⟨by rw [g1]; rfl, rfl⟩
set_option maxRecDepth 100000 in
set_option maxHeartbeats 4000000 in
theorem c_placings (l : Launch) (g : Gl) (x ob dw dr : Nat) (A B S : Nat → Nat) (hp : Bool) (nS nP : Nat) : Ct l g y_LP_placings b_LP_placings 1 (some .int) (rmD 0) [.ref x] ([lpC x ob dw dr A B S hp, pgC B nS nP]) (fun u w => u = some (.int (if hp = true then nI nP else -1)) ∧ w = [lpC x ob dw dr A B S hp, pgC B nS nP]) := by
  refine ct_of [some (.ref x)] (by decide) (Nat.le_of_ble_eq_true rfl) rfl ?_
  intro X C E
  refine sw_aload_n (pc := 0) C d_LP_placings_0 rfl rfl ?_
  refine sw_get (pc := 1) C inLP 0 rfl rfl 4 (by decide) t_228 rfl rfl d_LP_placings_1 ?_
  refine sw_if_eqB (pc := 4) C 17 d_LP_placings_4 (by decide) (fun g1 => ?_) (fun g1 => ?_)
  · skip
    refine sw_iconst (pc := 17) C (-1) d_LP_placings_17 (by decide) ?_
    exact sw_iret (pc := 18) C E rfl (Nat.le_of_ble_eq_true rfl) (Nat.le_of_ble_eq_true rfl) d_LP_placings_18 ⟨by rw [g1]; rfl, rfl⟩
  refine sw_aload_n (pc := 7) C d_LP_placings_7 rfl rfl ?_
  refine sw_get (pc := 8) C inLP 0 rfl rfl 5 (by decide) t_229 rfl rfl d_LP_placings_8 ?_
  refine sw_get (pc := 11) C inPg 1 rfl rfl 4 (by decide) t_200 rfl rfl d_LP_placings_11 ?_
  refine sw_topi (z := nI nP) rfl ?_
  refine sw_goto (pc := 14) C 18 d_LP_placings_14 (by decide) ?_
  exact sw_iret (pc := 18) C E rfl (Nat.le_of_ble_eq_true rfl) (Nat.le_of_ble_eq_true rfl) d_LP_placings_18 ⟨by rw [g1]; rfl, rfl⟩
set_option maxRecDepth 100000 in
set_option maxHeartbeats 4000000 in
theorem c_picL0 (l : Launch) (g : Gl) (x ob dw dr : Nat) (A B S : Nat → Nat) (nS nP : Nat) (k : Int32) (hk : k = 0) : Ct l g y_LP_pictureLayer b_LP_pictureLayer 2 (some (.object "LayeredPage$Layer")) (rmD 1) [.ref x, .int k] ([lpC x ob dw dr A B S true, pgC B nS nP]) (fun u w => u = some (.ref (B 4)) ∧ w = [lpC x ob dw dr A B S true, pgC B nS nP]) := by
  refine ct_of [some (.ref x), some (.int k)] (by decide) (Nat.le_of_ble_eq_true rfl) rfl ?_
  intro X C E
  refine sw_aload_n (pc := 0) C d_LP_pictureLayer_0 rfl rfl ?_
  refine sw_get (pc := 1) C inLP 0 rfl rfl 4 (by decide) t_228 rfl rfl d_LP_pictureLayer_1 ?_
  refine sw_if_eqB (pc := 4) C 18 d_LP_pictureLayer_4 (by decide) (fun g1 => ?_) (fun g1 => ?_)
  · skip
    cases g1
  refine sw_aload_n (pc := 7) C d_LP_pictureLayer_7 rfl rfl ?_
  refine sw_get (pc := 8) C inLP 0 rfl rfl 5 (by decide) t_229 rfl rfl d_LP_pictureLayer_8 ?_
  refine sw_iload_n (pc := 11) C d_LP_pictureLayer_11 rfl rfl ?_
  refine sw_callVR (pc := 12) C (c_layerOf0 l g B nS nP k hk) sv_Pg_layerOf t_280 rfl rfl rfl [1] rfl rfl rfl rfl (Nat.le_of_ble_eq_true rfl) (Nat.le_of_ble_eq_true rfl) (Nat.le_of_ble_eq_true rfl) (Nat.le_of_ble_eq_true rfl) (Nat.le_of_ble_eq_true rfl) d_LP_pictureLayer_12 (fun v w1 hp => ?_)
  obtain ⟨rfl, rfl⟩ := hp
  refine ⟨rfl, ?_⟩
  refine sw_goto (pc := 15) C 19 d_LP_pictureLayer_15 (by decide) ?_
  exact sw_aret (pc := 19) C E rfl (Or.inr ⟨_, rfl⟩) (Nat.le_of_ble_eq_true rfl) (Nat.le_of_ble_eq_true rfl) d_LP_pictureLayer_19 ⟨rfl, rfl⟩
set_option maxRecDepth 100000 in
set_option maxHeartbeats 4000000 in
theorem c_picL1 (l : Launch) (g : Gl) (x ob dw dr : Nat) (A B S : Nat → Nat) (nS nP : Nat) (k : Int32) (hk : k = 1) : Ct l g y_LP_pictureLayer b_LP_pictureLayer 2 (some (.object "LayeredPage$Layer")) (rmD 1) [.ref x, .int k] ([lpC x ob dw dr A B S true, pgC B nS nP]) (fun u w => u = some (.ref (B 9)) ∧ w = [lpC x ob dw dr A B S true, pgC B nS nP]) := by
  refine ct_of [some (.ref x), some (.int k)] (by decide) (Nat.le_of_ble_eq_true rfl) rfl ?_
  intro X C E
  refine sw_aload_n (pc := 0) C d_LP_pictureLayer_0 rfl rfl ?_
  refine sw_get (pc := 1) C inLP 0 rfl rfl 4 (by decide) t_228 rfl rfl d_LP_pictureLayer_1 ?_
  refine sw_if_eqB (pc := 4) C 18 d_LP_pictureLayer_4 (by decide) (fun g1 => ?_) (fun g1 => ?_)
  · skip
    cases g1
  refine sw_aload_n (pc := 7) C d_LP_pictureLayer_7 rfl rfl ?_
  refine sw_get (pc := 8) C inLP 0 rfl rfl 5 (by decide) t_229 rfl rfl d_LP_pictureLayer_8 ?_
  refine sw_iload_n (pc := 11) C d_LP_pictureLayer_11 rfl rfl ?_
  refine sw_callVR (pc := 12) C (c_layerOf1 l g B nS nP k hk) sv_Pg_layerOf t_280 rfl rfl rfl [1] rfl rfl rfl rfl (Nat.le_of_ble_eq_true rfl) (Nat.le_of_ble_eq_true rfl) (Nat.le_of_ble_eq_true rfl) (Nat.le_of_ble_eq_true rfl) (Nat.le_of_ble_eq_true rfl) d_LP_pictureLayer_12 (fun v w1 hp => ?_)
  obtain ⟨rfl, rfl⟩ := hp
  refine ⟨rfl, ?_⟩
  refine sw_goto (pc := 15) C 19 d_LP_pictureLayer_15 (by decide) ?_
  exact sw_aret (pc := 19) C E rfl (Or.inr ⟨_, rfl⟩) (Nat.le_of_ble_eq_true rfl) (Nat.le_of_ble_eq_true rfl) d_LP_pictureLayer_19 ⟨rfl, rfl⟩
set_option maxRecDepth 100000 in
set_option maxHeartbeats 4000000 in
theorem c_picLN (l : Launch) (g : Gl) (x ob dw dr : Nat) (A B S : Nat → Nat) (hp : Bool) (nS nP : Nat) (k : Int32) (hk : hp = false ∨ (¬ k = 0 ∧ ¬ k = 1)) : Ct l g y_LP_pictureLayer b_LP_pictureLayer 2 (some (.object "LayeredPage$Layer")) (rmD 1) [.ref x, .int k] ([lpC x ob dw dr A B S hp, pgC B nS nP]) (fun u w => u = some .null ∧ w = [lpC x ob dw dr A B S hp, pgC B nS nP]) := by
  refine ct_of [some (.ref x), some (.int k)] (by decide) (Nat.le_of_ble_eq_true rfl) rfl ?_
  intro X C E
  refine sw_aload_n (pc := 0) C d_LP_pictureLayer_0 rfl rfl ?_
  refine sw_get (pc := 1) C inLP 0 rfl rfl 4 (by decide) t_228 rfl rfl d_LP_pictureLayer_1 ?_
  refine sw_if_eqB (pc := 4) C 18 d_LP_pictureLayer_4 (by decide) (fun g1 => ?_) (fun g1 => ?_)
  · skip
    refine sw_null (pc := 18) C d_LP_pictureLayer_18 ?_
    exact sw_aret (pc := 19) C E rfl (Or.inl rfl) (Nat.le_of_ble_eq_true rfl) (Nat.le_of_ble_eq_true rfl) d_LP_pictureLayer_19 ⟨rfl, rfl⟩
  have hk2 : ¬ k = 0 ∧ ¬ k = 1 := by
    rcases hk with e | e
    · rw [e] at g1; cases g1
    · exact e
  refine sw_aload_n (pc := 7) C d_LP_pictureLayer_7 rfl rfl ?_
  refine sw_get (pc := 8) C inLP 0 rfl rfl 5 (by decide) t_229 rfl rfl d_LP_pictureLayer_8 ?_
  refine sw_iload_n (pc := 11) C d_LP_pictureLayer_11 rfl rfl ?_
  refine sw_callVR (pc := 12) C (c_layerOfN l g B nS nP k hk2.1 hk2.2) sv_Pg_layerOf t_280 rfl rfl rfl [1] rfl rfl rfl rfl (Nat.le_of_ble_eq_true rfl) (Nat.le_of_ble_eq_true rfl) (Nat.le_of_ble_eq_true rfl) (Nat.le_of_ble_eq_true rfl) (Nat.le_of_ble_eq_true rfl) d_LP_pictureLayer_12 (fun v w1 hp => ?_)
  obtain ⟨rfl, rfl⟩ := hp
  refine ⟨rfl, ?_⟩
  refine sw_goto (pc := 15) C 19 d_LP_pictureLayer_15 (by decide) ?_
  exact sw_aret (pc := 19) C E rfl (Or.inl rfl) (Nat.le_of_ble_eq_true rfl) (Nat.le_of_ble_eq_true rfl) d_LP_pictureLayer_19 ⟨rfl, rfl⟩
set_option maxRecDepth 100000 in
set_option maxHeartbeats 4000000 in
theorem c_cell (l : Launch) (g : Gl) (x ob dw dr : Nat) (A B S : Nat → Nat) (hp : Bool) (nS nP : Nat) (ce0 co0 cd0 li0 : Nat → Int32) (cm0 : Bool) (ce1 co1 cd1 li1 : Nat → Int32) (cm1 : Bool) (k a c : Int32) : Ct l g y_LP_cell b_LP_cell 5 (some .int) (rmD 2) [.ref x, .int k, .int a, .int c] ([lpC x ob dw dr A B S hp, pgC B nS nP] ++ (wLy g (fun i => B (4 + i)) 8 ce0 co0 cd0 li0 cm0 ++ wLy g (fun i => B (9 + i)) 4 ce1 co1 cd1 li1 cm1)) (fun u w => u = some (.int (celV hp k ce0 ce1 a c (-1))) ∧ w = [lpC x ob dw dr A B S hp, pgC B nS nP] ++ (wLy g (fun i => B (4 + i)) 8 ce0 co0 cd0 li0 cm0 ++ wLy g (fun i => B (9 + i)) 4 ce1 co1 cd1 li1 cm1)) := by
  refine ct_of [some (.ref x), some (.int k), some (.int a), some (.int c), none] (by decide) (Nat.le_of_ble_eq_true rfl) rfl ?_
  intro X C E
  refine sw_aload_n (pc := 0) C d_LP_cell_0 rfl rfl ?_
  refine sw_iload_n (pc := 1) C d_LP_cell_1 rfl rfl ?_
  by_cases h0 : hp = true ∧ k = 0
  · obtain ⟨h00, h01⟩ := h0
    subst h00
    refine sw_callVR (pc := 2) C (c_picL0 l g x ob dw dr A B S nS nP k h01) sv_LP_pictureLayer t_542 rfl rfl rfl [0, 1] rfl rfl rfl rfl (Nat.le_of_ble_eq_true rfl) (Nat.le_of_ble_eq_true rfl) (Nat.le_of_ble_eq_true rfl) (Nat.le_of_ble_eq_true rfl) (Nat.le_of_ble_eq_true rfl) d_LP_cell_2 (fun v w1 hp => ?_)
    obtain ⟨rfl, rfl⟩ := hp
    refine ⟨rfl, ?_⟩
    refine sw_astore (pc := 5) C d_LP_cell_5 (by decide) rfl ?_
    refine sw_aload (pc := 7) C d_LP_cell_7 rfl ?_
    refine sw_ifnonnull (pc := 9) C 16 d_LP_cell_9 (by decide) ?_
    refine sw_aload (pc := 16) C d_LP_cell_16 rfl ?_
    refine sw_iload_n (pc := 18) C d_LP_cell_18 rfl rfl ?_
    refine sw_iload_n (pc := 19) C d_LP_cell_19 rfl rfl ?_
    refine sw_callVR (pc := 20) C (c_cellAt l g (fun i => B (4 + i)) 8 ce0 co0 cd0 li0 cm0 (Or.inr rfl) a c) sv_Ly_cellAt t_529 rfl rfl rfl [2, 3, 4, 5, 6] rfl rfl rfl rfl (Nat.le_of_ble_eq_true rfl) (Nat.le_of_ble_eq_true rfl) (Nat.le_of_ble_eq_true rfl) (Nat.le_of_ble_eq_true rfl) (Nat.le_of_ble_eq_true rfl) d_LP_cell_20 (fun v w1 hp => ?_)
    obtain ⟨rfl, rfl⟩ := hp
    refine ⟨rfl, ?_⟩
    exact sw_iret (pc := 23) C E rfl (Nat.le_of_ble_eq_true rfl) (Nat.le_of_ble_eq_true rfl) d_LP_cell_23 ⟨by unfold celV; rw [if_pos ⟨rfl, h01⟩], rfl⟩
  by_cases h1 : hp = true ∧ k = 1
  · obtain ⟨h10, h11⟩ := h1
    subst h10
    refine sw_callVR (pc := 2) C (c_picL1 l g x ob dw dr A B S nS nP k h11) sv_LP_pictureLayer t_542 rfl rfl rfl [0, 1] rfl rfl rfl rfl (Nat.le_of_ble_eq_true rfl) (Nat.le_of_ble_eq_true rfl) (Nat.le_of_ble_eq_true rfl) (Nat.le_of_ble_eq_true rfl) (Nat.le_of_ble_eq_true rfl) d_LP_cell_2 (fun v w1 hp => ?_)
    obtain ⟨rfl, rfl⟩ := hp
    refine ⟨rfl, ?_⟩
    refine sw_astore (pc := 5) C d_LP_cell_5 (by decide) rfl ?_
    refine sw_aload (pc := 7) C d_LP_cell_7 rfl ?_
    refine sw_ifnonnull (pc := 9) C 16 d_LP_cell_9 (by decide) ?_
    refine sw_aload (pc := 16) C d_LP_cell_16 rfl ?_
    refine sw_iload_n (pc := 18) C d_LP_cell_18 rfl rfl ?_
    refine sw_iload_n (pc := 19) C d_LP_cell_19 rfl rfl ?_
    refine sw_callVR (pc := 20) C (c_cellAt l g (fun i => B (9 + i)) 4 ce1 co1 cd1 li1 cm1 (Or.inl rfl) a c) sv_Ly_cellAt t_529 rfl rfl rfl [7, 8, 9, 10, 11] rfl rfl rfl rfl (Nat.le_of_ble_eq_true rfl) (Nat.le_of_ble_eq_true rfl) (Nat.le_of_ble_eq_true rfl) (Nat.le_of_ble_eq_true rfl) (Nat.le_of_ble_eq_true rfl) d_LP_cell_20 (fun v w1 hp => ?_)
    obtain ⟨rfl, rfl⟩ := hp
    refine ⟨rfl, ?_⟩
    exact sw_iret (pc := 23) C E rfl (Nat.le_of_ble_eq_true rfl) (Nat.le_of_ble_eq_true rfl) d_LP_cell_23 ⟨by unfold celV; rw [if_neg h0, if_pos ⟨rfl, h11⟩], rfl⟩
  have hN : hp = false ∨ (¬ k = 0 ∧ ¬ k = 1) := by
    cases hp with
    | false => exact Or.inl rfl
    | true => exact Or.inr ⟨fun e => h0 ⟨rfl, e⟩, fun e => h1 ⟨rfl, e⟩⟩
  refine sw_callVR (pc := 2) C (c_picLN l g x ob dw dr A B S hp nS nP k hN) sv_LP_pictureLayer t_542 rfl rfl rfl [0, 1] rfl rfl rfl rfl (Nat.le_of_ble_eq_true rfl) (Nat.le_of_ble_eq_true rfl) (Nat.le_of_ble_eq_true rfl) (Nat.le_of_ble_eq_true rfl) (Nat.le_of_ble_eq_true rfl) d_LP_cell_2 (fun v w1 hp => ?_)
  obtain ⟨rfl, rfl⟩ := hp
  refine ⟨rfl, ?_⟩
  refine sw_astoreN (pc := 5) C d_LP_cell_5 (by decide) rfl ?_
  refine sw_aloadN (pc := 7) C d_LP_cell_7 rfl ?_
  refine sw_ifnonnullN (pc := 9) C d_LP_cell_9 ?_
  refine sw_iconst (pc := 12) C (-1) d_LP_cell_12 (by decide) ?_
  refine sw_goto (pc := 13) C 23 d_LP_cell_13 (by decide) ?_
  exact sw_iret (pc := 23) C E rfl (Nat.le_of_ble_eq_true rfl) (Nat.le_of_ble_eq_true rfl) d_LP_cell_23 ⟨by unfold celV; rw [if_neg h0, if_neg h1], rfl⟩
set_option maxRecDepth 100000 in
set_option maxHeartbeats 4000000 in
theorem c_coef (l : Launch) (g : Gl) (x ob dw dr : Nat) (A B S : Nat → Nat) (hp : Bool) (nS nP : Nat) (ce0 co0 cd0 li0 : Nat → Int32) (cm0 : Bool) (ce1 co1 cd1 li1 : Nat → Int32) (cm1 : Bool) (k a c : Int32) : Ct l g y_LP_coefficient b_LP_coefficient 5 (some .int) (rmD 2) [.ref x, .int k, .int a, .int c] ([lpC x ob dw dr A B S hp, pgC B nS nP] ++ (wLy g (fun i => B (4 + i)) 8 ce0 co0 cd0 li0 cm0 ++ wLy g (fun i => B (9 + i)) 4 ce1 co1 cd1 li1 cm1)) (fun u w => u = some (.int (celV hp k co0 co1 a c 0)) ∧ w = [lpC x ob dw dr A B S hp, pgC B nS nP] ++ (wLy g (fun i => B (4 + i)) 8 ce0 co0 cd0 li0 cm0 ++ wLy g (fun i => B (9 + i)) 4 ce1 co1 cd1 li1 cm1)) := by
  refine ct_of [some (.ref x), some (.int k), some (.int a), some (.int c), none] (by decide) (Nat.le_of_ble_eq_true rfl) rfl ?_
  intro X C E
  refine sw_aload_n (pc := 0) C d_LP_coefficient_0 rfl rfl ?_
  refine sw_iload_n (pc := 1) C d_LP_coefficient_1 rfl rfl ?_
  by_cases h0 : hp = true ∧ k = 0
  · obtain ⟨h00, h01⟩ := h0
    subst h00
    refine sw_callVR (pc := 2) C (c_picL0 l g x ob dw dr A B S nS nP k h01) sv_LP_pictureLayer t_542 rfl rfl rfl [0, 1] rfl rfl rfl rfl (Nat.le_of_ble_eq_true rfl) (Nat.le_of_ble_eq_true rfl) (Nat.le_of_ble_eq_true rfl) (Nat.le_of_ble_eq_true rfl) (Nat.le_of_ble_eq_true rfl) d_LP_coefficient_2 (fun v w1 hp => ?_)
    obtain ⟨rfl, rfl⟩ := hp
    refine ⟨rfl, ?_⟩
    refine sw_astore (pc := 5) C d_LP_coefficient_5 (by decide) rfl ?_
    refine sw_aload (pc := 7) C d_LP_coefficient_7 rfl ?_
    refine sw_ifnonnull (pc := 9) C 16 d_LP_coefficient_9 (by decide) ?_
    refine sw_aload (pc := 16) C d_LP_coefficient_16 rfl ?_
    refine sw_iload_n (pc := 18) C d_LP_coefficient_18 rfl rfl ?_
    refine sw_iload_n (pc := 19) C d_LP_coefficient_19 rfl rfl ?_
    refine sw_callVR (pc := 20) C (c_coefAt l g (fun i => B (4 + i)) 8 ce0 co0 cd0 li0 cm0 (Or.inr rfl) a c) sv_Ly_coefficientAt t_550 rfl rfl rfl [2, 3, 4, 5, 6] rfl rfl rfl rfl (Nat.le_of_ble_eq_true rfl) (Nat.le_of_ble_eq_true rfl) (Nat.le_of_ble_eq_true rfl) (Nat.le_of_ble_eq_true rfl) (Nat.le_of_ble_eq_true rfl) d_LP_coefficient_20 (fun v w1 hp => ?_)
    obtain ⟨rfl, rfl⟩ := hp
    refine ⟨rfl, ?_⟩
    exact sw_iret (pc := 23) C E rfl (Nat.le_of_ble_eq_true rfl) (Nat.le_of_ble_eq_true rfl) d_LP_coefficient_23 ⟨by unfold celV; rw [if_pos ⟨rfl, h01⟩], rfl⟩
  by_cases h1 : hp = true ∧ k = 1
  · obtain ⟨h10, h11⟩ := h1
    subst h10
    refine sw_callVR (pc := 2) C (c_picL1 l g x ob dw dr A B S nS nP k h11) sv_LP_pictureLayer t_542 rfl rfl rfl [0, 1] rfl rfl rfl rfl (Nat.le_of_ble_eq_true rfl) (Nat.le_of_ble_eq_true rfl) (Nat.le_of_ble_eq_true rfl) (Nat.le_of_ble_eq_true rfl) (Nat.le_of_ble_eq_true rfl) d_LP_coefficient_2 (fun v w1 hp => ?_)
    obtain ⟨rfl, rfl⟩ := hp
    refine ⟨rfl, ?_⟩
    refine sw_astore (pc := 5) C d_LP_coefficient_5 (by decide) rfl ?_
    refine sw_aload (pc := 7) C d_LP_coefficient_7 rfl ?_
    refine sw_ifnonnull (pc := 9) C 16 d_LP_coefficient_9 (by decide) ?_
    refine sw_aload (pc := 16) C d_LP_coefficient_16 rfl ?_
    refine sw_iload_n (pc := 18) C d_LP_coefficient_18 rfl rfl ?_
    refine sw_iload_n (pc := 19) C d_LP_coefficient_19 rfl rfl ?_
    refine sw_callVR (pc := 20) C (c_coefAt l g (fun i => B (9 + i)) 4 ce1 co1 cd1 li1 cm1 (Or.inl rfl) a c) sv_Ly_coefficientAt t_550 rfl rfl rfl [7, 8, 9, 10, 11] rfl rfl rfl rfl (Nat.le_of_ble_eq_true rfl) (Nat.le_of_ble_eq_true rfl) (Nat.le_of_ble_eq_true rfl) (Nat.le_of_ble_eq_true rfl) (Nat.le_of_ble_eq_true rfl) d_LP_coefficient_20 (fun v w1 hp => ?_)
    obtain ⟨rfl, rfl⟩ := hp
    refine ⟨rfl, ?_⟩
    exact sw_iret (pc := 23) C E rfl (Nat.le_of_ble_eq_true rfl) (Nat.le_of_ble_eq_true rfl) d_LP_coefficient_23 ⟨by unfold celV; rw [if_neg h0, if_pos ⟨rfl, h11⟩], rfl⟩
  have hN : hp = false ∨ (¬ k = 0 ∧ ¬ k = 1) := by
    cases hp with
    | false => exact Or.inl rfl
    | true => exact Or.inr ⟨fun e => h0 ⟨rfl, e⟩, fun e => h1 ⟨rfl, e⟩⟩
  refine sw_callVR (pc := 2) C (c_picLN l g x ob dw dr A B S hp nS nP k hN) sv_LP_pictureLayer t_542 rfl rfl rfl [0, 1] rfl rfl rfl rfl (Nat.le_of_ble_eq_true rfl) (Nat.le_of_ble_eq_true rfl) (Nat.le_of_ble_eq_true rfl) (Nat.le_of_ble_eq_true rfl) (Nat.le_of_ble_eq_true rfl) d_LP_coefficient_2 (fun v w1 hp => ?_)
  obtain ⟨rfl, rfl⟩ := hp
  refine ⟨rfl, ?_⟩
  refine sw_astoreN (pc := 5) C d_LP_coefficient_5 (by decide) rfl ?_
  refine sw_aloadN (pc := 7) C d_LP_coefficient_7 rfl ?_
  refine sw_ifnonnullN (pc := 9) C d_LP_coefficient_9 ?_
  refine sw_iconst (pc := 12) C (nI 0) d_LP_coefficient_12 (by decide) ?_
  refine sw_goto (pc := 13) C 23 d_LP_coefficient_13 (by decide) ?_
  exact sw_iret (pc := 23) C E rfl (Nat.le_of_ble_eq_true rfl) (Nat.le_of_ble_eq_true rfl) d_LP_coefficient_23 ⟨by unfold celV; rw [if_neg h0, if_neg h1]; rfl, rfl⟩
