/-! the reference: the draft and the document -/
theorem octAt_no {l : List Nat} {k : Int32} (h : inR l.length k = false) : octAt l k = -1 := by
  unfold octAt
  rw [if_neg (of_decide_eq_false h)]
def clF (G0 G1 : Nat → Nat → Int32) : Nat → Int32 := fun i => if i < 64 then flat 8 G0 i else flat 8 G1 (i - 64)
theorem clF_up0 {G0 G1 : Nat → Nat → Int32} {y x : Nat} {v : Int32} (hy : y < 8) (hx : x < 8) : upd (clF G0 G1) (8 * y + x) v = clF (up2 G0 y x v) G1 := by
  funext k
  have h := congrFun (flat_up (G := G0) (y := y) (v := v) hx) k
  unfold upd at *
  unfold clF
  by_cases e : k = 8 * y + x
  · rw [if_pos e] at *
    rw [if_pos (by omega), ← h]
  · rw [if_neg e] at *
    rw [← h]
theorem clF_up1 {G0 G1 : Nat → Nat → Int32} {y x : Nat} {v : Int32} (hx : x < 8) : upd (clF G0 G1) (64 + (8 * y + x)) v = clF G0 (up2 G1 y x v) := by
  funext k
  have h := congrFun (flat_up (G := G1) (y := y) (v := v) hx) (k - 64)
  unfold upd at *
  unfold clF
  by_cases e : k = 64 + (8 * y + x)
  · rw [if_pos e]
    rw [if_pos (by omega)] at h
    rw [if_neg (by omega), ← h]
  · rw [if_neg e]
    by_cases e2 : k < 64
    · rw [if_pos e2, if_pos e2]
    · rw [if_neg (by omega)] at h
      rw [if_neg e2, if_neg e2, ← h]
def shOK (nS bN : Nat) (w h f : Int32) (wn hn c : Nat) : Prop := nS < 8 ∧ w = nI wn ∧ h = nI hn ∧ (1 ≤ wn ∧ wn ≤ 8) ∧ (1 ≤ hn ∧ hn ≤ 8) ∧ f = bsI c ∧ c ≤ nS ∧ ∀ i j, i < 8 → bN.testBit (8 * j + i) = true → i < wn ∧ j < hn
def pntOK (k r : Int32) (oc : Nat) : Prop := inR 2 k = true ∧ inR (sdN k) r = true ∧ ∀ x, x < 8 → oc / 2 ^ (8 * x) % 256 ≤ 63 ∧ (sdN k ≤ x → oc / 2 ^ (8 * x) % 256 = 0)
def pt0 (k : Int32) (G : Nat → Nat → Int32) (r m oc : Nat) : Nat → Nat → Int32 := if k = 0 then rowSet G r m (ocB oc) else G
def pt1 (k : Int32) (G : Nat → Nat → Int32) (r m oc : Nat) : Nat → Nat → Int32 := if k = 0 then G else rowSet G r m (ocB oc)
theorem side1 {w : Int32} (h : inR 8 (w - nI 1) = true) : ∃ n, (1 ≤ n ∧ n ≤ 8) ∧ w = nI n := by
  obtain ⟨j, hj, e⟩ := inR_of (by decide) h
  refine ⟨j + 1, by omega, ?_⟩
  rw [← nI_add, ← e]
  exact (Int32.sub_add_cancel w (nI 1)).symm
theorem side0 {n : Nat} (h : 1 ≤ n ∧ n ≤ 8) : inR 8 (nI n - nI 1) = true := by
  rw [pk_sub (by omega)]
  exact inR_in (by omega) (by decide)
theorem bs_lo {c : Nat} (hc : c ≤ 8) : ¬ bsI c < -1 := by
  have key : ∀ c, c < 9 → ¬ bsI c < -1 := by decide
  exact key c (by omega)
theorem bs_of {f : Int32} {n : Nat} (hn : n ≤ 8) (h1 : ¬ f < -1) (h2 : f < nI n) : ∃ c, c ≤ n ∧ f = bsI c := by
  by_cases h0 : f < 0
  · refine ⟨0, by omega, ?_⟩
    have a := Int32.lt_iff_toInt_lt.mp h0
    have b := Int32.le_iff_toInt_le.mp (Int32.not_lt.mp h1)
    apply Int32.toInt_inj.mp
    show f.toInt = (-1 : Int32).toInt
    rw [show (0 : Int32).toInt = 0 from rfl] at a
    rw [show (-1 : Int32).toInt = -1 from rfl] at *
    omega
  · obtain ⟨j, hj, rfl⟩ := nI_of h0
    refine ⟨j + 1, ?_, ?_⟩
    · have := (nI_ltI hj (by omega)).mp h2
      omega
    · unfold bsI
      rw [if_neg (by omega), show j + 1 - 1 = j by omega]
theorem bs_lt {c n : Nat} (hc : c ≤ n) (hn : n ≤ 8) : bsI c < nI n ∨ (n = 0 ∧ c = 0) ∨ bsI c < nI n := by
  have key : ∀ n, n < 9 → ∀ c, c < 9 → c ≤ n → bsI c < nI n := by decide
  exact Or.inl (key n (by omega) c (by omega) hc)
set_option maxRecDepth 100000 in
set_option maxHeartbeats 4000000 in
theorem c_Md_length (l : Launch) (g : Gl) (R : Nat → Nat) (dn pl ss pt : Nat) (th rd : Bool) (wd sc : Nat) (l0 : List Nat) (f : Nat → Int32) (hl : l0.length ≤ 1200) : Ct l g y_Md_length b_Md_length 1 (some .int) (rmD 0) [.ref (R 0)] ([mdC R dn pl l0.length ss pt th rd wd sc, iaC g (R 8) 1200 (dcF l0 f)]) (fun u w => u = some (.int (nI l0.length)) ∧ w = [mdC R dn pl l0.length ss pt th rd wd sc, iaC g (R 8) 1200 (dcF l0 f)]) := by
  refine ct_of [some (.ref (R 0))] (by decide) (Nat.le_of_ble_eq_true rfl) rfl ?_
  intro X C E
  refine sw_aload_n (pc := 0) C d_Md_length_0 rfl rfl ?_
  refine sw_get (pc := 1) C inMd 0 rfl rfl 10 (by decide) t_582 rfl rfl d_Md_length_1 ?_
  refine sw_topi (z := nI l0.length) rfl ?_
  exact sw_iret (pc := 4) C E rfl (Nat.le_of_ble_eq_true rfl) (Nat.le_of_ble_eq_true rfl) d_Md_length_4 ⟨rfl, rfl⟩
set_option maxRecDepth 100000 in
set_option maxHeartbeats 4000000 in
theorem c_Md_octet (l : Launch) (g : Gl) (R : Nat → Nat) (dn pl ss pt : Nat) (th rd : Bool) (wd sc : Nat) (l0 : List Nat) (f : Nat → Int32) (hl : l0.length ≤ 1200) (k : Int32) : Ct l g y_Md_octet b_Md_octet 2 (some .int) (rmD 1) [.ref (R 0), .int k] ([mdC R dn pl l0.length ss pt th rd wd sc, iaC g (R 8) 1200 (dcF l0 f)]) (fun u w => u = some (.int (octAt l0 k)) ∧ w = [mdC R dn pl l0.length ss pt th rd wd sc, iaC g (R 8) 1200 (dcF l0 f)]) := by
  refine ct_of [some (.ref (R 0)), some (.int k)] (by decide) (Nat.le_of_ble_eq_true rfl) rfl ?_
  intro X C E
  refine sw_iload_n (pc := 0) C d_Md_octet_0 rfl rfl ?_
  refine sw_aload_n (pc := 1) C d_Md_octet_1 rfl rfl ?_
  refine sw_get (pc := 2) C inMd 0 rfl rfl 10 (by decide) t_582 rfl rfl d_Md_octet_2 ?_
  refine sw_topi (z := nI l0.length) rfl ?_
  refine sw_iconst (pc := 5) C (nI 1) d_Md_octet_5 (by decide) ?_
  refine sw_isub (pc := 6) C d_Md_octet_6 ?_
  refine sw_callSR (pc := 7) C (c_Md_out l g (k) (nI l0.length - nI 1)) ss_Md_outside t_669 [] rfl rfl rfl rfl (Nat.le_of_ble_eq_true rfl) (Nat.le_of_ble_eq_true rfl) (Nat.le_of_ble_eq_true rfl) (Nat.le_of_ble_eq_true rfl) (Nat.le_of_ble_eq_true rfl) d_Md_octet_7 (fun v w1 hp => ?_)
  obtain ⟨rfl, rfl⟩ := hp
  refine ⟨rfl, ?_⟩
  refine sw_topi (z := bI (!(inR l0.length (k)))) (by rw [outB_p _ (by omega)]) ?_
  refine sw_if_eqB (pc := 10) C 17 d_Md_octet_10 (by decide) (fun h1 => ?_) (fun h1 => ?_)
  · skip
    obtain ⟨j, hj, rfl⟩ := inR_of (by omega) (nR_f h1)
    refine sw_aload_n (pc := 17) C d_Md_octet_17 rfl rfl ?_
    refine sw_get (pc := 18) C inMd 0 rfl rfl 9 (by decide) t_581 rfl rfl d_Md_octet_18 ?_
    refine sw_iload_n (pc := 21) C d_Md_octet_21 rfl rfl ?_
    refine sw_ialdN (pc := 22) C 1 j rfl rfl (by omega) (by decide) d_Md_octet_22 ?_
    refine sw_topi (z := nI (l0.getD j 0)) (dcF_get hj) ?_
    exact sw_iret (pc := 23) C E rfl (Nat.le_of_ble_eq_true rfl) (Nat.le_of_ble_eq_true rfl) d_Md_octet_23 ⟨by rw [octAt_in hj hl], rfl⟩
  refine sw_iconst (pc := 13) C (-1) d_Md_octet_13 (by decide) ?_
  refine sw_goto (pc := 14) C 23 d_Md_octet_14 (by decide) ?_
  exact sw_iret (pc := 23) C E rfl (Nat.le_of_ble_eq_true rfl) (Nat.le_of_ble_eq_true rfl) d_Md_octet_23 ⟨by rw [octAt_no (nR_t h1)], rfl⟩
set_option maxRecDepth 100000 in
set_option maxHeartbeats 4000000 in
theorem c_Md_alter (l : Launch) (g : Gl) (R : Nat → Nat) (dn pl ss pt : Nat) (th rd : Bool) (wd sc : Nat) (l0 : List Nat) (f : Nat → Int32) (hl : l0.length ≤ 1200) (k v : Int32) : Ct l g y_Md_alter b_Md_alter 3 (some .boolean) (rmD 1) [.ref (R 0), .int k, .int v] ([mdC R dn pl l0.length ss pt th rd wd sc, iaC g (R 8) 1200 (dcF l0 f)]) (fun u w => u = some (.int (bI (alB l0 k v))) ∧ w = [mdC R dn pl ((alL l0 k v).length) ss pt th rd wd sc, iaC g (R 8) 1200 (dcF (alL l0 k v) f)]) := by
  refine ct_of [some (.ref (R 0)), some (.int k), some (.int v)] (by decide) (Nat.le_of_ble_eq_true rfl) rfl ?_
  intro X C E
  refine sw_iload_n (pc := 0) C d_Md_alter_0 rfl rfl ?_
  refine sw_aload_n (pc := 1) C d_Md_alter_1 rfl rfl ?_
  refine sw_get (pc := 2) C inMd 0 rfl rfl 10 (by decide) t_582 rfl rfl d_Md_alter_2 ?_
  refine sw_topi (z := nI l0.length) rfl ?_
  refine sw_callSR (pc := 5) C (c_Md_out l g (k) (nI l0.length)) ss_Md_outside t_669 [] rfl rfl rfl rfl (Nat.le_of_ble_eq_true rfl) (Nat.le_of_ble_eq_true rfl) (Nat.le_of_ble_eq_true rfl) (Nat.le_of_ble_eq_true rfl) (Nat.le_of_ble_eq_true rfl) d_Md_alter_5 (fun v w1 hp => ?_)
  obtain ⟨rfl, rfl⟩ := hp
  refine ⟨rfl, ?_⟩
  refine sw_topi (z := bI (!(inR (l0.length + 1) (k)))) (by rw [outB_n _ (by omega)]) ?_
  refine sw_if_neB (pc := 8) C 28 d_Md_alter_8 (by decide) (fun h1 => ?_) (fun h1 => ?_)
  · skip
    have ef : alB l0 k v = false := by unfold alB; rw [nR_t h1]; rfl
    refine sw_iconst (pc := 28) C (nI 0) d_Md_alter_28 (by decide) ?_
    refine sw_topi (z := bI (alB l0 k v)) (by rw [ef]; rfl) ?_
    exact sw_zret (pc := 29) C E rfl (bI_nar _) (Nat.le_of_ble_eq_true rfl) (Nat.le_of_ble_eq_true rfl) d_Md_alter_29 ⟨rfl, by rw [alL_no ef]⟩
  obtain ⟨j, hj, rfl⟩ := inR_of (by omega) (nR_f h1)
  refine sw_iload_n (pc := 11) C d_Md_alter_11 rfl rfl ?_
  refine sw_sipush (pc := 12) C (nI 1200) d_Md_alter_12 (by decide) ?_
  refine sw_icmp_eqN (pc := 15) C 28 (by omega) (by omega) d_Md_alter_15 (by decide) (fun h2 => ?_) (fun h2 => ?_)
  · skip
    have ef : alB l0 (nI j) v = false := by unfold alB; rw [inR_no (n := 1200) (by omega) (by omega) (by decide), Bool.and_false]; rfl
    refine sw_iconst (pc := 28) C (nI 0) d_Md_alter_28 (by decide) ?_
    refine sw_topi (z := bI (alB l0 (nI j) v)) (by rw [ef]; rfl) ?_
    exact sw_zret (pc := 29) C E rfl (bI_nar _) (Nat.le_of_ble_eq_true rfl) (Nat.le_of_ble_eq_true rfl) d_Md_alter_29 ⟨rfl, by rw [alL_no ef]⟩
  refine sw_iload_n (pc := 18) C d_Md_alter_18 rfl rfl ?_
  refine sw_sipush (pc := 19) C (nI 255) d_Md_alter_19 (by decide) ?_
  refine sw_callSR (pc := 22) C (c_Md_out l g (v) (nI 255)) ss_Md_outside t_669 [] rfl rfl rfl rfl (Nat.le_of_ble_eq_true rfl) (Nat.le_of_ble_eq_true rfl) (Nat.le_of_ble_eq_true rfl) (Nat.le_of_ble_eq_true rfl) (Nat.le_of_ble_eq_true rfl) d_Md_alter_22 (fun v w1 hp => ?_)
  obtain ⟨rfl, rfl⟩ := hp
  refine ⟨rfl, ?_⟩
  refine sw_topi (z := bI (!(inR (255 + 1) (v)))) (by rw [outB_n _ (by omega)]) ?_
  refine sw_if_eqB (pc := 25) C 30 d_Md_alter_25 (by decide) (fun h3 => ?_) (fun h3 => ?_)
  · skip
    obtain ⟨c, hc, rfl⟩ := inR_of (by decide) (nR_f h3)
    have hA : alL l0 (nI j) (nI c) = setL l0 j c := alL_in (by omega) (by omega) (by omega) hl
    have hB : alB l0 (nI j) (nI c) = true := alB_in (by omega) (by omega) (by omega) hl
    have hL := setL_len (l := l0) (k := j) (v := c) (by omega)
    refine sw_aload_n (pc := 30) C d_Md_alter_30 rfl rfl ?_
    refine sw_get (pc := 31) C inMd 0 rfl rfl 9 (by decide) t_581 rfl rfl d_Md_alter_31 ?_
    refine sw_iload_n (pc := 34) C d_Md_alter_34 rfl rfl ?_
    refine sw_iload_n (pc := 35) C d_Md_alter_35 rfl rfl ?_
    refine sw_iastN (pc := 36) C 1 j rfl rfl (by omega) (by decide) d_Md_alter_36 ?_
    refine sw_ws (ws' := [mdC R dn pl l0.length ss pt th rd wd sc, iaC g (R 8) 1200 (dcF (setL l0 j c) f)]) (by rw [← dcF_setL f c (by omega)]; rfl) ?_
    refine sw_aload_n (pc := 37) C d_Md_alter_37 rfl rfl ?_
    refine sw_iload_n (pc := 38) C d_Md_alter_38 rfl rfl ?_
    refine sw_aload_n (pc := 39) C d_Md_alter_39 rfl rfl ?_
    refine sw_get (pc := 40) C inMd 0 rfl rfl 10 (by decide) t_582 rfl rfl d_Md_alter_40 ?_
    refine sw_topi (z := nI l0.length) rfl ?_
    refine sw_icmp_neN (pc := 43) C 55 (by omega) (by omega) d_Md_alter_43 (by decide) (fun h4 => ?_) (fun h4 => ?_)
    · skip
      refine sw_aload_n (pc := 55) C d_Md_alter_55 rfl rfl ?_
      refine sw_get (pc := 56) C inMd 0 rfl rfl 10 (by decide) t_582 rfl rfl d_Md_alter_56 ?_
      refine sw_topi (z := nI l0.length) rfl ?_
      refine sw_topi (z := nI (setL l0 j c).length) (by rw [hL, if_neg (by omega)]) ?_
      refine sw_put (pc := 59) C inMd 0 rfl rfl 10 (by decide) tyMd okMd nmMd t_582 rfl rfl (ty := .int) (by decide +kernel) rfl rfl (Nat.le_of_ble_eq_true rfl) d_Md_alter_59 ?_
      refine sw_iconst (pc := 62) C (nI 1) d_Md_alter_62 (by decide) ?_
      refine sw_topi (z := bI (alB l0 (nI j) (nI c))) (by rw [hB]; rfl) ?_
      exact sw_zret (pc := 63) C E rfl (bI_nar _) (Nat.le_of_ble_eq_true rfl) (Nat.le_of_ble_eq_true rfl) d_Md_alter_63 ⟨rfl, by rw [hA]; rfl⟩
    refine sw_aload_n (pc := 46) C d_Md_alter_46 rfl rfl ?_
    refine sw_get (pc := 47) C inMd 0 rfl rfl 10 (by decide) t_582 rfl rfl d_Md_alter_47 ?_
    refine sw_topi (z := nI l0.length) rfl ?_
    refine sw_iconst (pc := 50) C (nI 1) d_Md_alter_50 (by decide) ?_
    refine sw_iadd (pc := 51) C d_Md_alter_51 ?_
    refine sw_topi (z := nI (l0.length + 1)) (nI_add _ _) ?_
    refine sw_goto (pc := 52) C 59 d_Md_alter_52 (by decide) ?_
    refine sw_topi (z := nI (setL l0 j c).length) (by rw [hL, if_pos (by omega), h4]) ?_
    refine sw_put (pc := 59) C inMd 0 rfl rfl 10 (by decide) tyMd okMd nmMd t_582 rfl rfl (ty := .int) (by decide +kernel) rfl rfl (Nat.le_of_ble_eq_true rfl) d_Md_alter_59 ?_
    refine sw_iconst (pc := 62) C (nI 1) d_Md_alter_62 (by decide) ?_
    refine sw_topi (z := bI (alB l0 (nI j) (nI c))) (by rw [hB]; rfl) ?_
    exact sw_zret (pc := 63) C E rfl (bI_nar _) (Nat.le_of_ble_eq_true rfl) (Nat.le_of_ble_eq_true rfl) d_Md_alter_63 ⟨rfl, by rw [hA]; rfl⟩
  have ef : alB l0 (nI j) v = false := by unfold alB; rw [show inR 256 v = false from nR_t h3, Bool.and_false]
  refine sw_iconst (pc := 28) C (nI 0) d_Md_alter_28 (by decide) ?_
  refine sw_topi (z := bI (alB l0 (nI j) v)) (by rw [ef]; rfl) ?_
  exact sw_zret (pc := 29) C E rfl (bI_nar _) (Nat.le_of_ble_eq_true rfl) (Nat.le_of_ble_eq_true rfl) d_Md_alter_29 ⟨rfl, by rw [alL_no ef]⟩
set_option maxRecDepth 100000 in
set_option maxHeartbeats 4000000 in
theorem c_Md_cut (l : Launch) (g : Gl) (R : Nat → Nat) (dn pl ss pt : Nat) (th rd : Bool) (wd sc : Nat) (l0 : List Nat) (f : Nat → Int32) (hl : l0.length ≤ 1200) (n : Int32) : Ct l g y_Md_cut b_Md_cut 2 (some .boolean) (rmD 1) [.ref (R 0), .int n] ([mdC R dn pl l0.length ss pt th rd wd sc, iaC g (R 8) 1200 (dcF l0 f)]) (fun u w => u = some (.int (bI (inR (l0.length + 1) n))) ∧ ∃ f1, w = [mdC R dn pl ((cuL l0 n).length) ss pt th rd wd sc, iaC g (R 8) 1200 (dcF (cuL l0 n) f1)]) := by
  refine ct_of [some (.ref (R 0)), some (.int n)] (by decide) (Nat.le_of_ble_eq_true rfl) rfl ?_
  intro X C E
  refine sw_iload_n (pc := 0) C d_Md_cut_0 rfl rfl ?_
  refine sw_aload_n (pc := 1) C d_Md_cut_1 rfl rfl ?_
  refine sw_get (pc := 2) C inMd 0 rfl rfl 10 (by decide) t_582 rfl rfl d_Md_cut_2 ?_
  refine sw_topi (z := nI l0.length) rfl ?_
  refine sw_callSR (pc := 5) C (c_Md_out l g (n) (nI l0.length)) ss_Md_outside t_669 [] rfl rfl rfl rfl (Nat.le_of_ble_eq_true rfl) (Nat.le_of_ble_eq_true rfl) (Nat.le_of_ble_eq_true rfl) (Nat.le_of_ble_eq_true rfl) (Nat.le_of_ble_eq_true rfl) d_Md_cut_5 (fun v w1 hp => ?_)
  obtain ⟨rfl, rfl⟩ := hp
  refine ⟨rfl, ?_⟩
  refine sw_topi (z := bI (!(inR (l0.length + 1) (n)))) (by rw [outB_n _ (by omega)]) ?_
  refine sw_if_eqB (pc := 8) C 13 d_Md_cut_8 (by decide) (fun h1 => ?_) (fun h1 => ?_)
  · skip
    obtain ⟨j, hj, rfl⟩ := inR_of (by omega) (nR_f h1)
    have hC : cuL l0 (nI j) = l0.take j := cuL_in (by omega) hl
    refine sw_aload_n (pc := 13) C d_Md_cut_13 rfl rfl ?_
    refine sw_iload_n (pc := 14) C d_Md_cut_14 rfl rfl ?_
    refine sw_put (pc := 15) C inMd 0 rfl rfl 10 (by decide) tyMd okMd nmMd t_582 rfl rfl (ty := .int) (by decide +kernel) rfl rfl (Nat.le_of_ble_eq_true rfl) d_Md_cut_15 ?_
    refine sw_iconst (pc := 18) C (nI 1) d_Md_cut_18 (by decide) ?_
    refine sw_topi (z := bI (inR (l0.length + 1) (nI j))) (by rw [nR_f h1]; rfl) ?_
    refine sw_ws (ws' := [mdC R dn pl ((cuL l0 (nI j)).length) ss pt th rd wd sc, iaC g (R 8) 1200 (dcF (cuL l0 (nI j)) (dcF l0 f))]) (by rw [hC, ← dcF_take, List.length_take, Nat.min_eq_left (by omega)]; rfl) ?_
    exact sw_zret (pc := 19) C E rfl (bI_nar _) (Nat.le_of_ble_eq_true rfl) (Nat.le_of_ble_eq_true rfl) d_Md_cut_19 ⟨rfl, dcF l0 f, rfl⟩
  have ef := nR_t h1
  refine sw_iconst (pc := 11) C (nI 0) d_Md_cut_11 (by decide) ?_
  refine sw_topi (z := bI (inR (l0.length + 1) n)) (by rw [ef]; rfl) ?_
  exact sw_zret (pc := 12) C E rfl (bI_nar _) (Nat.le_of_ble_eq_true rfl) (Nat.le_of_ble_eq_true rfl) d_Md_cut_12 ⟨rfl, f, by rw [cuL_no ef]⟩
set_option maxRecDepth 100000 in
set_option maxHeartbeats 4000000 in
theorem c_Md_place (l : Launch) (g : Gl) (R : Nat → Nat) (nS nP ln ss pt : Nat) (th rd : Bool) (wd sc : Nat) (ps sp : Nat → Nat) (hS : nS ≤ 8) (hP : nP ≤ 20) (s a c : Int32) : Ct l g y_Md_place b_Md_place 4 (some .int) (rmD 1) [.ref (R 0), .int s, .int a, .int c] ([mdC R nS nP ln ss pt th rd wd sc, iaC g (R 5) 20 (nF ps), iaC g (R 6) 20 (nF sp)]) (fun u w => (plcB nS nP s a c = false ∧ u = some (.int (-1)) ∧ w = [mdC R nS nP ln ss pt th rd wd sc, iaC g (R 5) 20 (nF ps), iaC g (R 6) 20 (nF sp)]) ∨ (plcB nS nP s a c = true ∧ u = some (.int (nI (nP + 1))) ∧ ∃ s1 i j : Nat, s1 < nS ∧ i < 16 ∧ j < 16 ∧ s = nI s1 ∧ a = nI i ∧ c = nI j ∧ w = [mdC R nS (nP + 1) ln ss pt th rd wd sc, iaC g (R 5) 20 (nF (upN ps nP s1)), iaC g (R 6) 20 (nF (upN sp nP (16 * i + j)))])) := by
  refine ct_of [some (.ref (R 0)), some (.int s), some (.int a), some (.int c)] (by decide) (Nat.le_of_ble_eq_true rfl) rfl ?_
  intro X C E
  refine sw_aload_n (pc := 0) C d_Md_place_0 rfl rfl ?_
  refine sw_get (pc := 1) C inMd 0 rfl rfl 7 (by decide) t_579 rfl rfl d_Md_place_1 ?_
  refine sw_topi (z := nI nP) rfl ?_
  refine sw_bipush (pc := 4) C (nI 20) d_Md_place_4 (by decide) ?_
  refine sw_icmp_eqN (pc := 6) C 40 (by omega) (by omega) d_Md_place_6 (by decide) (fun h1 => ?_) (fun h1 => ?_)
  · skip
    have ef : plcB nS nP s a c = false := by unfold plcB; rw [decide_eq_false (show ¬ nP < 20 by omega)]; rfl
    refine sw_iconst (pc := 40) C (-1) d_Md_place_40 (by decide) ?_
    exact sw_iret (pc := 41) C E rfl (Nat.le_of_ble_eq_true rfl) (Nat.le_of_ble_eq_true rfl) d_Md_place_41 (Or.inl ⟨ef, rfl, rfl⟩)
  refine sw_iload_n (pc := 9) C d_Md_place_9 rfl rfl ?_
  refine sw_aload_n (pc := 10) C d_Md_place_10 rfl rfl ?_
  refine sw_get (pc := 11) C inMd 0 rfl rfl 4 (by decide) t_576 rfl rfl d_Md_place_11 ?_
  refine sw_topi (z := nI nS) rfl ?_
  refine sw_iconst (pc := 14) C (nI 1) d_Md_place_14 (by decide) ?_
  refine sw_isub (pc := 15) C d_Md_place_15 ?_
  refine sw_callSR (pc := 16) C (c_Md_out l g (s) (nI nS - nI 1)) ss_Md_outside t_669 [] rfl rfl rfl rfl (Nat.le_of_ble_eq_true rfl) (Nat.le_of_ble_eq_true rfl) (Nat.le_of_ble_eq_true rfl) (Nat.le_of_ble_eq_true rfl) (Nat.le_of_ble_eq_true rfl) d_Md_place_16 (fun v w1 hp => ?_)
  obtain ⟨rfl, rfl⟩ := hp
  refine ⟨rfl, ?_⟩
  refine sw_topi (z := bI (!(inR nS (s)))) (by rw [outB_p _ (by omega)]) ?_
  refine sw_if_neB (pc := 19) C 40 d_Md_place_19 (by decide) (fun h2 => ?_) (fun h2 => ?_)
  · skip
    have ef : plcB nS nP s a c = false := by unfold plcB; rw [nR_t h2, Bool.and_false]; rfl
    refine sw_iconst (pc := 40) C (-1) d_Md_place_40 (by decide) ?_
    exact sw_iret (pc := 41) C E rfl (Nat.le_of_ble_eq_true rfl) (Nat.le_of_ble_eq_true rfl) d_Md_place_41 (Or.inl ⟨ef, rfl, rfl⟩)
  refine sw_iload_n (pc := 22) C d_Md_place_22 rfl rfl ?_
  refine sw_bipush (pc := 23) C (nI 15) d_Md_place_23 (by decide) ?_
  refine sw_callSR (pc := 25) C (c_Md_out l g (a) (nI 15)) ss_Md_outside t_669 [] rfl rfl rfl rfl (Nat.le_of_ble_eq_true rfl) (Nat.le_of_ble_eq_true rfl) (Nat.le_of_ble_eq_true rfl) (Nat.le_of_ble_eq_true rfl) (Nat.le_of_ble_eq_true rfl) d_Md_place_25 (fun v w1 hp => ?_)
  obtain ⟨rfl, rfl⟩ := hp
  refine ⟨rfl, ?_⟩
  refine sw_topi (z := bI (!(inR (15 + 1) (a)))) (by rw [outB_n _ (by omega)]) ?_
  refine sw_if_neB (pc := 28) C 40 d_Md_place_28 (by decide) (fun h3 => ?_) (fun h3 => ?_)
  · skip
    have ef : plcB nS nP s a c = false := by unfold plcB; rw [show inR 16 a = false from nR_t h3, Bool.false_and, Bool.and_false]
    refine sw_iconst (pc := 40) C (-1) d_Md_place_40 (by decide) ?_
    exact sw_iret (pc := 41) C E rfl (Nat.le_of_ble_eq_true rfl) (Nat.le_of_ble_eq_true rfl) d_Md_place_41 (Or.inl ⟨ef, rfl, rfl⟩)
  refine sw_iload_n (pc := 31) C d_Md_place_31 rfl rfl ?_
  refine sw_bipush (pc := 32) C (nI 15) d_Md_place_32 (by decide) ?_
  refine sw_callSR (pc := 34) C (c_Md_out l g (c) (nI 15)) ss_Md_outside t_669 [] rfl rfl rfl rfl (Nat.le_of_ble_eq_true rfl) (Nat.le_of_ble_eq_true rfl) (Nat.le_of_ble_eq_true rfl) (Nat.le_of_ble_eq_true rfl) (Nat.le_of_ble_eq_true rfl) d_Md_place_34 (fun v w1 hp => ?_)
  obtain ⟨rfl, rfl⟩ := hp
  refine ⟨rfl, ?_⟩
  refine sw_topi (z := bI (!(inR (15 + 1) (c)))) (by rw [outB_n _ (by omega)]) ?_
  refine sw_if_eqB (pc := 37) C 42 d_Md_place_37 (by decide) (fun h4 => ?_) (fun h4 => ?_)
  · skip
    have ef : plcB nS nP s a c = true := by unfold plcB; rw [nR_f h2, show inR 16 a = true from nR_f h3, show inR 16 c = true from nR_f h4, decide_eq_true (show nP < 20 by omega)]; rfl
    obtain ⟨s1, hs1, rfl⟩ := inR_of (by omega) (nR_f h2)
    obtain ⟨i, hi, rfl⟩ := inR_of (by decide) (nR_f h3)
    obtain ⟨j, hj, rfl⟩ := inR_of (by decide) (nR_f h4)
    refine sw_aload_n (pc := 42) C d_Md_place_42 rfl rfl ?_
    refine sw_get (pc := 43) C inMd 0 rfl rfl 5 (by decide) t_577 rfl rfl d_Md_place_43 ?_
    refine sw_aload_n (pc := 46) C d_Md_place_46 rfl rfl ?_
    refine sw_get (pc := 47) C inMd 0 rfl rfl 7 (by decide) t_579 rfl rfl d_Md_place_47 ?_
    refine sw_topi (z := nI nP) rfl ?_
    refine sw_iload_n (pc := 50) C d_Md_place_50 rfl rfl ?_
    refine sw_iastN (pc := 51) C 1 nP rfl rfl (by omega) (by decide) d_Md_place_51 ?_
    refine sw_aload_n (pc := 52) C d_Md_place_52 rfl rfl ?_
    refine sw_get (pc := 53) C inMd 0 rfl rfl 6 (by decide) t_578 rfl rfl d_Md_place_53 ?_
    refine sw_aload_n (pc := 56) C d_Md_place_56 rfl rfl ?_
    refine sw_get (pc := 57) C inMd 0 rfl rfl 7 (by decide) t_579 rfl rfl d_Md_place_57 ?_
    refine sw_topi (z := nI nP) rfl ?_
    refine sw_bipush (pc := 60) C (nI 16) d_Md_place_60 (by decide) ?_
    refine sw_iload_n (pc := 62) C d_Md_place_62 rfl rfl ?_
    refine sw_imul (pc := 63) C d_Md_place_63 ?_
    refine sw_topi (z := nI (16 * i)) (pk_mul _ _) ?_
    refine sw_iload_n (pc := 64) C d_Md_place_64 rfl rfl ?_
    refine sw_iadd (pc := 65) C d_Md_place_65 ?_
    refine sw_topi (z := nI ((16 * i) + j)) (nI_add _ _) ?_
    refine sw_iastN (pc := 66) C 2 nP rfl rfl (by omega) (by decide) d_Md_place_66 ?_
    refine sw_aload_n (pc := 67) C d_Md_place_67 rfl rfl ?_
    refine sw_dup (pc := 68) C d_Md_place_68 rfl ?_
    refine sw_get (pc := 69) C inMd 0 rfl rfl 7 (by decide) t_579 rfl rfl d_Md_place_69 ?_
    refine sw_topi (z := nI nP) rfl ?_
    refine sw_iconst (pc := 72) C (nI 1) d_Md_place_72 (by decide) ?_
    refine sw_iadd (pc := 73) C d_Md_place_73 ?_
    refine sw_topi (z := nI (nP + 1)) (nI_add _ _) ?_
    refine sw_put (pc := 74) C inMd 0 rfl rfl 7 (by decide) tyMd okMd nmMd t_579 rfl rfl (ty := .int) (by decide +kernel) rfl rfl (Nat.le_of_ble_eq_true rfl) d_Md_place_74 ?_
    refine sw_aload_n (pc := 77) C d_Md_place_77 rfl rfl ?_
    refine sw_get (pc := 78) C inMd 0 rfl rfl 7 (by decide) t_579 rfl rfl d_Md_place_78 ?_
    refine sw_topi (z := nI (nP + 1)) rfl ?_
    refine sw_ws (ws' := [mdC R nS (nP + 1) ln ss pt th rd wd sc, iaC g (R 5) 20 (nF (upN ps nP s1)), iaC g (R 6) 20 (nF (upN sp nP (16 * i + j)))]) (by rw [← nF_up, ← nF_up]; rfl) ?_
    exact sw_iret (pc := 81) C E rfl (Nat.le_of_ble_eq_true rfl) (Nat.le_of_ble_eq_true rfl) d_Md_place_81 (Or.inr ⟨ef, rfl, s1, i, j, hs1, by omega, by omega, rfl, rfl, rfl, rfl⟩)
  have ef : plcB nS nP s a c = false := by unfold plcB; rw [show inR 16 c = false from nR_t h4, Bool.and_false, Bool.and_false]
  refine sw_iconst (pc := 40) C (-1) d_Md_place_40 (by decide) ?_
  exact sw_iret (pc := 41) C E rfl (Nat.le_of_ble_eq_true rfl) (Nat.le_of_ble_eq_true rfl) d_Md_place_41 (Or.inl ⟨ef, rfl, rfl⟩)
set_option maxRecDepth 100000 in
set_option maxHeartbeats 4000000 in
theorem c_Md_clear (l : Launch) (g : Gl) (R : Nat → Nat) (dn pl ln ss pt : Nat) (th rd : Bool) (wd sc : Nat) (c : Nat → Int32) : Ct l g y_Md_clear b_Md_clear 2 none (rmD 0) [.ref (R 0)] ([mdC R dn pl ln ss pt th rd wd sc, iaC g (R 7) 128 c]) (fun u w => u = none ∧ w = [mdC R 0 0 ln ss pt th rd wd sc, iaC g (R 7) 128 (clF (fun _ _ => nI 0) (fun _ _ => nI 0))]) := by
  refine ct_of [some (.ref (R 0)), none] (by decide) (Nat.le_of_ble_eq_true rfl) rfl ?_
  intro X C E
  have key : ∀ (nn i : Nat) (f : Nat → Int32), i + nn = 128 → (∀ j, j < i → f j = nI 0) → SW X g 2 0 0 ([mdC R 0 0 ln ss pt th rd wd sc, iaC g (R 7) 128 f]) 12 [some (.ref (R 0)), some (.int (nI i))] [] := by
    intro nn
    induction nn with
    | zero =>
      intro i f hi hf
      refine sw_iload_n (pc := 12) C d_Md_clear_12 rfl rfl ?_
      refine sw_sipush (pc := 13) C (nI 128) d_Md_clear_13 (by decide) ?_
      refine sw_icmp_geN (pc := 16) C 32 (by omega) (by omega) d_Md_clear_16 (by decide) (fun hx => ?_) (fun hx => ?_)
      · skip
        refine sw_arr (f' := clF (fun _ _ => nI 0) (fun _ _ => nI 0)) 1 rfl (fun j hj => by rw [hf j (by omega)]; unfold clF flat; split <;> rfl) ?_
        exact sw_vret (pc := 32) C E rfl (Nat.le_of_ble_eq_true rfl) (Nat.le_of_ble_eq_true rfl) d_Md_clear_32 ⟨rfl, rfl⟩
      omega
    | succ nn ih =>
      intro i f hi hf
      refine sw_iload_n (pc := 12) C d_Md_clear_12 rfl rfl ?_
      refine sw_sipush (pc := 13) C (nI 128) d_Md_clear_13 (by decide) ?_
      refine sw_icmp_geN (pc := 16) C 32 (by omega) (by omega) d_Md_clear_16 (by decide) (fun hx => ?_) (fun hx => ?_)
      · skip
        omega
      refine sw_aload_n (pc := 19) C d_Md_clear_19 rfl rfl ?_
      refine sw_get (pc := 20) C inMd 0 rfl rfl 8 (by decide) t_580 rfl rfl d_Md_clear_20 ?_
      refine sw_iload_n (pc := 23) C d_Md_clear_23 rfl rfl ?_
      refine sw_iconst (pc := 24) C (nI 0) d_Md_clear_24 (by decide) ?_
      refine sw_iastN (pc := 25) C 1 i rfl rfl (by omega) (by decide) d_Md_clear_25 ?_
      refine sw_iincN (pc := 26) C 1 d_Md_clear_26 rfl (by decide) (by decide) rfl ?_
      refine sw_goto (pc := 29) C 12 d_Md_clear_29 (by decide) ?_
      refine ih (i + 1) (upd f i (nI 0)) (by omega) (fun j hj => ?_)
      unfold upd
      by_cases e : j = i
      · rw [if_pos e]
      · rw [if_neg e]; exact hf j (by omega)
  refine sw_aload_n (pc := 0) C d_Md_clear_0 rfl rfl ?_
  refine sw_iconst (pc := 1) C (nI 0) d_Md_clear_1 (by decide) ?_
  refine sw_put (pc := 2) C inMd 0 rfl rfl 4 (by decide) tyMd okMd nmMd t_576 rfl rfl (ty := .int) (by decide +kernel) rfl rfl (Nat.le_of_ble_eq_true rfl) d_Md_clear_2 ?_
  refine sw_aload_n (pc := 5) C d_Md_clear_5 rfl rfl ?_
  refine sw_iconst (pc := 6) C (nI 0) d_Md_clear_6 (by decide) ?_
  refine sw_put (pc := 7) C inMd 0 rfl rfl 7 (by decide) tyMd okMd nmMd t_579 rfl rfl (ty := .int) (by decide +kernel) rfl rfl (Nat.le_of_ble_eq_true rfl) d_Md_clear_7 ?_
  refine sw_iconst (pc := 10) C (nI 0) d_Md_clear_10 (by decide) ?_
  refine sw_istore_n (pc := 11) C d_Md_clear_11 rfl (by decide) rfl ?_
  exact key 128 0 c (by omega) (fun j hj => absurd hj (Nat.not_lt_zero _))
set_option maxRecDepth 100000 in
set_option maxHeartbeats 4000000 in
theorem c_Md_shape (l : Launch) (g : Gl) (R : Nat → Nat) (nS pl ln ss pt : Nat) (th rd : Bool) (wd sc : Nat) (hS : nS ≤ 8) (fb : Nat → Int64) (fw fh fs : Nat → Int32) (bN : Nat) (hb : bN < 2 ^ 64) (wq hq f : Int32) : Ct l g y_Md_shape b_Md_shape 8 (some .int) (rmD 2) [.ref (R 0), .long (lN bN), .int wq, .int hq, .int f] ([mdC R nS pl ln ss pt th rd wd sc, laC g (R 1) 8 fb, iaC g (R 2) 8 fw, iaC g (R 3) 8 fh, iaC g (R 4) 8 fs]) (fun u w => ((∀ wn hn c, ¬ shOK nS bN wq hq f wn hn c) ∧ u = some (.int (-1)) ∧ w = [mdC R nS pl ln ss pt th rd wd sc, laC g (R 1) 8 fb, iaC g (R 2) 8 fw, iaC g (R 3) 8 fh, iaC g (R 4) 8 fs]) ∨ (∃ wn hn c, shOK nS bN wq hq f wn hn c ∧ u = some (.int (nI nS)) ∧ w = [mdC R (nS + 1) pl ln ss pt th rd wd sc, laC g (R 1) 8 (vp_updL fb nS (lN bN)), iaC g (R 2) 8 (upd fw nS (nI wn)), iaC g (R 3) 8 (upd fh nS (nI hn)), iaC g (R 4) 8 (upd fs nS (bsI c))])) := by
  refine ct_of [some (.ref (R 0)), some (.long (lN bN)), none, some (.int wq), some (.int hq), some (.int f), none, none] (by decide) (Nat.le_of_ble_eq_true rfl) rfl ?_
  intro X C E
  refine sw_aload_n (pc := 0) C d_Md_shape_0 rfl rfl ?_
  refine sw_get (pc := 1) C inMd 0 rfl rfl 4 (by decide) t_576 rfl rfl d_Md_shape_1 ?_
  refine sw_topi (z := nI nS) rfl ?_
  refine sw_bipush (pc := 4) C (nI 8) d_Md_shape_4 (by decide) ?_
  refine sw_icmp_eqN (pc := 6) C 47 (by omega) (by omega) d_Md_shape_6 (by decide) (fun h1 => ?_) (fun h1 => ?_)
  · skip
    refine sw_iconst (pc := 47) C (-1) d_Md_shape_47 (by decide) ?_
    exact sw_iret (pc := 48) C E rfl (Nat.le_of_ble_eq_true rfl) (Nat.le_of_ble_eq_true rfl) d_Md_shape_48 (Or.inl ⟨fun wn hn c o => (by have := o.1; omega), rfl, rfl⟩)
  refine sw_iload_n (pc := 9) C d_Md_shape_9 rfl rfl ?_
  refine sw_iconst (pc := 10) C (nI 1) d_Md_shape_10 (by decide) ?_
  refine sw_isub (pc := 11) C d_Md_shape_11 ?_
  refine sw_bipush (pc := 12) C (nI 7) d_Md_shape_12 (by decide) ?_
  refine sw_callSR (pc := 14) C (c_Md_out l g (wq - nI 1) (nI 7)) ss_Md_outside t_669 [] rfl rfl rfl rfl (Nat.le_of_ble_eq_true rfl) (Nat.le_of_ble_eq_true rfl) (Nat.le_of_ble_eq_true rfl) (Nat.le_of_ble_eq_true rfl) (Nat.le_of_ble_eq_true rfl) d_Md_shape_14 (fun v w1 hp => ?_)
  obtain ⟨rfl, rfl⟩ := hp
  refine ⟨rfl, ?_⟩
  refine sw_topi (z := bI (!(inR (7 + 1) (wq - nI 1)))) (by rw [outB_n _ (by omega)]) ?_
  refine sw_if_neB (pc := 17) C 47 d_Md_shape_17 (by decide) (fun h2 => ?_) (fun h2 => ?_)
  · skip
    refine sw_iconst (pc := 47) C (-1) d_Md_shape_47 (by decide) ?_
    exact sw_iret (pc := 48) C E rfl (Nat.le_of_ble_eq_true rfl) (Nat.le_of_ble_eq_true rfl) d_Md_shape_48 (Or.inl ⟨fun wn hn c o => (by obtain ⟨_, rfl, _, hw, _⟩ := o; have := side0 hw; rw [show inR 8 (nI wn - nI 1) = false from nR_t h2] at this; cases this), rfl, rfl⟩)
  refine sw_iload (pc := 20) C d_Md_shape_20 rfl ?_
  refine sw_iconst (pc := 22) C (nI 1) d_Md_shape_22 (by decide) ?_
  refine sw_isub (pc := 23) C d_Md_shape_23 ?_
  refine sw_bipush (pc := 24) C (nI 7) d_Md_shape_24 (by decide) ?_
  refine sw_callSR (pc := 26) C (c_Md_out l g (hq - nI 1) (nI 7)) ss_Md_outside t_669 [] rfl rfl rfl rfl (Nat.le_of_ble_eq_true rfl) (Nat.le_of_ble_eq_true rfl) (Nat.le_of_ble_eq_true rfl) (Nat.le_of_ble_eq_true rfl) (Nat.le_of_ble_eq_true rfl) d_Md_shape_26 (fun v w1 hp => ?_)
  obtain ⟨rfl, rfl⟩ := hp
  refine ⟨rfl, ?_⟩
  refine sw_topi (z := bI (!(inR (7 + 1) (hq - nI 1)))) (by rw [outB_n _ (by omega)]) ?_
  refine sw_if_neB (pc := 29) C 47 d_Md_shape_29 (by decide) (fun h3 => ?_) (fun h3 => ?_)
  · skip
    refine sw_iconst (pc := 47) C (-1) d_Md_shape_47 (by decide) ?_
    exact sw_iret (pc := 48) C E rfl (Nat.le_of_ble_eq_true rfl) (Nat.le_of_ble_eq_true rfl) d_Md_shape_48 (Or.inl ⟨fun wn hn c o => (by obtain ⟨_, _, rfl, _, hh, _⟩ := o; have := side0 hh; rw [show inR 8 (nI hn - nI 1) = false from nR_t h3] at this; cases this), rfl, rfl⟩)
  refine sw_iload (pc := 32) C d_Md_shape_32 rfl ?_
  refine sw_iconst (pc := 34) C (-1) d_Md_shape_34 (by decide) ?_
  refine sw_icmp_lt (pc := 35) C 47 d_Md_shape_35 (by decide) (fun h4 => ?_) (fun h4 => ?_)
  · skip
    refine sw_iconst (pc := 47) C (-1) d_Md_shape_47 (by decide) ?_
    exact sw_iret (pc := 48) C E rfl (Nat.le_of_ble_eq_true rfl) (Nat.le_of_ble_eq_true rfl) d_Md_shape_48 (Or.inl ⟨fun wn hn c o => (by obtain ⟨a1, _, _, _, _, rfl, hc, _⟩ := o; exact bs_lo (by omega) h4), rfl, rfl⟩)
  refine sw_iload (pc := 38) C d_Md_shape_38 rfl ?_
  refine sw_aload_n (pc := 40) C d_Md_shape_40 rfl rfl ?_
  refine sw_get (pc := 41) C inMd 0 rfl rfl 4 (by decide) t_576 rfl rfl d_Md_shape_41 ?_
  refine sw_topi (z := nI nS) rfl ?_
  refine sw_icmp_lt (pc := 44) C 49 d_Md_shape_44 (by decide) (fun h5 => ?_) (fun h5 => ?_)
  · skip
    obtain ⟨wn, hwn, rfl⟩ := side1 (nR_f h2)
    obtain ⟨hn, hhn, rfl⟩ := side1 (nR_f h3)
    obtain ⟨c, hc, rfl⟩ := bs_of hS h4 h5
    have key : ∀ (nn y : Nat) , y + nn = 8 → (∀ j i, i < 8 → j < y → bN.testBit (8 * j + i) = true → i < wn ∧ j < hn) → SW X g 8 0 0 ([mdC R nS pl ln ss pt th rd wd sc, laC g (R 1) 8 fb, iaC g (R 2) 8 fw, iaC g (R 3) 8 fh, iaC g (R 4) 8 fs]) 52 [some (.ref (R 0)), some (.long (lN bN)), none, some (.int (nI wn)), some (.int (nI hn)), some (.int (bsI c)), some (.int (nI y)), none] [] := by
      intro nn
      induction nn with
      | zero =>
        intro y  hi hG
        refine sw_iload (pc := 52) C d_Md_shape_52 rfl ?_
        refine sw_bipush (pc := 54) C (nI 8) d_Md_shape_54 (by decide) ?_
        refine sw_icmp_geN (pc := 56) C 108 (by omega) (by omega) d_Md_shape_56 (by decide) (fun hx => ?_) (fun hx => ?_)
        · skip
          have o : shOK nS bN (nI wn) (nI hn) (bsI c) wn hn c := by
            refine ⟨by omega, rfl, rfl, hwn, hhn, rfl, hc, fun i j hi ht => ?_⟩
            by_cases e : j < 8
            · exact hG j i hi (by omega) ht
            · rw [Nat.testBit_lt_two_pow (Nat.lt_of_lt_of_le hb (Nat.pow_le_pow_right (by decide) (by omega)))] at ht
              cases ht
          refine sw_aload_n (pc := 108) C d_Md_shape_108 rfl rfl ?_
          refine sw_get (pc := 109) C inMd 0 rfl rfl 0 (by decide) t_572 rfl rfl d_Md_shape_109 ?_
          refine sw_aload_n (pc := 112) C d_Md_shape_112 rfl rfl ?_
          refine sw_get (pc := 113) C inMd 0 rfl rfl 4 (by decide) t_576 rfl rfl d_Md_shape_113 ?_
          refine sw_topi (z := nI nS) rfl ?_
          refine sw_lload_n (pc := 116) C d_Md_shape_116 rfl rfl ?_
          refine sw_lastN (pc := 117) C 1 nS rfl rfl (by omega) (by decide) d_Md_shape_117 ?_
          refine sw_aload_n (pc := 118) C d_Md_shape_118 rfl rfl ?_
          refine sw_get (pc := 119) C inMd 0 rfl rfl 1 (by decide) t_573 rfl rfl d_Md_shape_119 ?_
          refine sw_aload_n (pc := 122) C d_Md_shape_122 rfl rfl ?_
          refine sw_get (pc := 123) C inMd 0 rfl rfl 4 (by decide) t_576 rfl rfl d_Md_shape_123 ?_
          refine sw_topi (z := nI nS) rfl ?_
          refine sw_iload_n (pc := 126) C d_Md_shape_126 rfl rfl ?_
          refine sw_iastN (pc := 127) C 2 nS rfl rfl (by omega) (by decide) d_Md_shape_127 ?_
          refine sw_aload_n (pc := 128) C d_Md_shape_128 rfl rfl ?_
          refine sw_get (pc := 129) C inMd 0 rfl rfl 2 (by decide) t_574 rfl rfl d_Md_shape_129 ?_
          refine sw_aload_n (pc := 132) C d_Md_shape_132 rfl rfl ?_
          refine sw_get (pc := 133) C inMd 0 rfl rfl 4 (by decide) t_576 rfl rfl d_Md_shape_133 ?_
          refine sw_topi (z := nI nS) rfl ?_
          refine sw_iload (pc := 136) C d_Md_shape_136 rfl ?_
          refine sw_iastN (pc := 138) C 3 nS rfl rfl (by omega) (by decide) d_Md_shape_138 ?_
          refine sw_aload_n (pc := 139) C d_Md_shape_139 rfl rfl ?_
          refine sw_get (pc := 140) C inMd 0 rfl rfl 3 (by decide) t_575 rfl rfl d_Md_shape_140 ?_
          refine sw_aload_n (pc := 143) C d_Md_shape_143 rfl rfl ?_
          refine sw_get (pc := 144) C inMd 0 rfl rfl 4 (by decide) t_576 rfl rfl d_Md_shape_144 ?_
          refine sw_topi (z := nI nS) rfl ?_
          refine sw_iload (pc := 147) C d_Md_shape_147 rfl ?_
          refine sw_iastN (pc := 149) C 4 nS rfl rfl (by omega) (by decide) d_Md_shape_149 ?_
          refine sw_aload_n (pc := 150) C d_Md_shape_150 rfl rfl ?_
          refine sw_dup (pc := 151) C d_Md_shape_151 rfl ?_
          refine sw_get (pc := 152) C inMd 0 rfl rfl 4 (by decide) t_576 rfl rfl d_Md_shape_152 ?_
          refine sw_topi (z := nI nS) rfl ?_
          refine sw_iconst (pc := 155) C (nI 1) d_Md_shape_155 (by decide) ?_
          refine sw_iadd (pc := 156) C d_Md_shape_156 ?_
          refine sw_topi (z := nI (nS + 1)) (nI_add _ _) ?_
          refine sw_put (pc := 157) C inMd 0 rfl rfl 4 (by decide) tyMd okMd nmMd t_576 rfl rfl (ty := .int) (by decide +kernel) rfl rfl (Nat.le_of_ble_eq_true rfl) d_Md_shape_157 ?_
          refine sw_aload_n (pc := 160) C d_Md_shape_160 rfl rfl ?_
          refine sw_get (pc := 161) C inMd 0 rfl rfl 4 (by decide) t_576 rfl rfl d_Md_shape_161 ?_
          refine sw_topi (z := nI (nS + 1)) rfl ?_
          refine sw_iconst (pc := 164) C (nI 1) d_Md_shape_164 (by decide) ?_
          refine sw_isub (pc := 165) C d_Md_shape_165 ?_
          refine sw_topi (z := nI ((nS + 1) - 1)) (pk_sub (by omega)) ?_
          exact sw_iret (pc := 166) C E rfl (Nat.le_of_ble_eq_true rfl) (Nat.le_of_ble_eq_true rfl) d_Md_shape_166 (Or.inr ⟨wn, hn, c, o, rfl, rfl⟩)
        omega
      | succ nn ih =>
        intro y  hi hG
        refine sw_iload (pc := 52) C d_Md_shape_52 rfl ?_
        refine sw_bipush (pc := 54) C (nI 8) d_Md_shape_54 (by decide) ?_
        refine sw_icmp_geN (pc := 56) C 108 (by omega) (by omega) d_Md_shape_56 (by decide) (fun hx => ?_) (fun hx => ?_)
        · skip
          omega
        have ihy := ih
        have inner : ∀ (nn x : Nat) , x + nn = 8 → (∀ i, i < x → bN.testBit (8 * y + i) = true → i < wn ∧ y < hn) → SW X g 8 0 0 ([mdC R nS pl ln ss pt th rd wd sc, laC g (R 1) 8 fb, iaC g (R 2) 8 fw, iaC g (R 3) 8 fh, iaC g (R 4) 8 fs]) 62 [some (.ref (R 0)), some (.long (lN bN)), none, some (.int (nI wn)), some (.int (nI hn)), some (.int (bsI c)), some (.int (nI y)), some (.int (nI x))] [] := by
          intro nn
          induction nn with
          | zero =>
            intro x  hi hX
            refine sw_iload (pc := 62) C d_Md_shape_62 rfl ?_
            refine sw_bipush (pc := 64) C (nI 8) d_Md_shape_64 (by decide) ?_
            refine sw_icmp_geN (pc := 66) C 102 (by omega) (by omega) d_Md_shape_66 (by decide) (fun hx => ?_) (fun hx => ?_)
            · skip
              refine sw_iincN (pc := 102) C 1 d_Md_shape_102 rfl (by decide) (by decide) rfl ?_
              refine sw_goto (pc := 105) C 52 d_Md_shape_105 (by decide) ?_
              refine sw_drop 7 ?_
              refine ihy (y + 1) (by omega) (fun j i hi hj ht => ?_)
              by_cases e : j < y
              · exact hG j i hi e ht
              · have e2 : j = y := by omega
                subst e2
                exact hX i (by omega) ht
            omega
          | succ nn ih =>
            intro x  hi hX
            refine sw_iload (pc := 62) C d_Md_shape_62 rfl ?_
            refine sw_bipush (pc := 64) C (nI 8) d_Md_shape_64 (by decide) ?_
            refine sw_icmp_geN (pc := 66) C 102 (by omega) (by omega) d_Md_shape_66 (by decide) (fun hx => ?_) (fun hx => ?_)
            · skip
              omega
            have bt := bit_tb bN (8 * y + x)
            have go : (bN.testBit (8 * y + x) = true → x < wn ∧ y < hn) → SW X g 8 0 0 ([mdC R nS pl ln ss pt th rd wd sc, laC g (R 1) 8 fb, iaC g (R 2) 8 fw, iaC g (R 3) 8 fh, iaC g (R 4) 8 fs]) 96 [some (.ref (R 0)), some (.long (lN bN)), none, some (.int (nI wn)), some (.int (nI hn)), some (.int (bsI c)), some (.int (nI y)), some (.int (nI x))] [] := by
              intro hgo
              refine sw_iincN (pc := 96) C 1 d_Md_shape_96 rfl (by decide) (by decide) rfl ?_
              refine sw_goto (pc := 99) C 62 d_Md_shape_99 (by decide) ?_
              refine ih (x + 1) (by omega) (fun i hi ht => ?_)
              by_cases e : i < x
              · exact hX i e ht
              · have e2 : i = x := by omega
                subst e2
                exact hgo ht
            refine sw_iload (pc := 69) C d_Md_shape_69 rfl ?_
            refine sw_iload_n (pc := 71) C d_Md_shape_71 rfl rfl ?_
            refine sw_icmp_geN (pc := 72) C 82 (by omega) (by omega) d_Md_shape_72 (by decide) (fun h6 => ?_) (fun h6 => ?_)
            · skip
              refine sw_lload_n (pc := 82) C d_Md_shape_82 rfl rfl ?_
              refine sw_iload (pc := 83) C d_Md_shape_83 rfl ?_
              refine sw_iload (pc := 85) C d_Md_shape_85 rfl ?_
              refine sw_callSR (pc := 87) C (c_Md_at l g bN hb (nI x) (nI y)) ss_Md_at t_672 [] rfl rfl rfl rfl (Nat.le_of_ble_eq_true rfl) (Nat.le_of_ble_eq_true rfl) (Nat.le_of_ble_eq_true rfl) (Nat.le_of_ble_eq_true rfl) (Nat.le_of_ble_eq_true rfl) d_Md_shape_87 (fun v w1 hp => ?_)
              obtain ⟨rfl, rfl⟩ := hp
              refine ⟨rfl, ?_⟩
              refine sw_topi (z := nI (sb bN 8 8 x y)) (by rw [ti0 (show x < 2 ^ 30 by omega), ti0 (show y < 2 ^ 30 by omega)]) ?_
              have es := sb_tb (n := bN) (w := 8) (h := 8) (x := x) (y := y) (by omega) (by omega)
              have el := sb_le bN 8 8 x y
              refine sw_iconst (pc := 90) C (nI 1) d_Md_shape_90 (by decide) ?_
              refine sw_icmp_neN (pc := 91) C 96 (by omega) (by omega) d_Md_shape_91 (by decide) (fun h8 => ?_) (fun h8 => ?_)
              · skip
                exact go (fun ht => absurd (by rw [es, if_pos ht]) h8)
              refine sw_iconst (pc := 94) C (-1) d_Md_shape_94 (by decide) ?_
              exact sw_iret (pc := 95) C E rfl (Nat.le_of_ble_eq_true rfl) (Nat.le_of_ble_eq_true rfl) d_Md_shape_95 (Or.inl ⟨fun wn2 hn2 c2 o => by
    have ht : bN.testBit (8 * y + x) = true := by
      by_cases e : bN.testBit (8 * y + x) = true
      · exact e
      · rw [es, if_neg e] at h8; omega
    obtain ⟨_, e1, e2, hw2, hh2, _, _, ho⟩ := o
    have := ho x y (by omega) ht
    have e1 := (nI_eq (by omega) (by omega)).mp e1
    have e2 := (nI_eq (by omega) (by omega)).mp e2
    omega, rfl, rfl⟩)
            refine sw_iload (pc := 75) C d_Md_shape_75 rfl ?_
            refine sw_iload (pc := 77) C d_Md_shape_77 rfl ?_
            refine sw_icmp_ltN (pc := 79) C 96 (by omega) (by omega) d_Md_shape_79 (by decide) (fun h7 => ?_) (fun h7 => ?_)
            · skip
              exact go (fun _ => ⟨by omega, by omega⟩)
            refine sw_lload_n (pc := 82) C d_Md_shape_82 rfl rfl ?_
            refine sw_iload (pc := 83) C d_Md_shape_83 rfl ?_
            refine sw_iload (pc := 85) C d_Md_shape_85 rfl ?_
            refine sw_callSR (pc := 87) C (c_Md_at l g bN hb (nI x) (nI y)) ss_Md_at t_672 [] rfl rfl rfl rfl (Nat.le_of_ble_eq_true rfl) (Nat.le_of_ble_eq_true rfl) (Nat.le_of_ble_eq_true rfl) (Nat.le_of_ble_eq_true rfl) (Nat.le_of_ble_eq_true rfl) d_Md_shape_87 (fun v w1 hp => ?_)
            obtain ⟨rfl, rfl⟩ := hp
            refine ⟨rfl, ?_⟩
            refine sw_topi (z := nI (sb bN 8 8 x y)) (by rw [ti0 (show x < 2 ^ 30 by omega), ti0 (show y < 2 ^ 30 by omega)]) ?_
            have es := sb_tb (n := bN) (w := 8) (h := 8) (x := x) (y := y) (by omega) (by omega)
            have el := sb_le bN 8 8 x y
            refine sw_iconst (pc := 90) C (nI 1) d_Md_shape_90 (by decide) ?_
            refine sw_icmp_neN (pc := 91) C 96 (by omega) (by omega) d_Md_shape_91 (by decide) (fun h8 => ?_) (fun h8 => ?_)
            · skip
              exact go (fun ht => absurd (by rw [es, if_pos ht]) h8)
            refine sw_iconst (pc := 94) C (-1) d_Md_shape_94 (by decide) ?_
            exact sw_iret (pc := 95) C E rfl (Nat.le_of_ble_eq_true rfl) (Nat.le_of_ble_eq_true rfl) d_Md_shape_95 (Or.inl ⟨fun wn2 hn2 c2 o => by
    have ht : bN.testBit (8 * y + x) = true := by
      by_cases e : bN.testBit (8 * y + x) = true
      · exact e
      · rw [es, if_neg e] at h8; omega
    obtain ⟨_, e1, e2, hw2, hh2, _, _, ho⟩ := o
    have := ho x y (by omega) ht
    have e1 := (nI_eq (by omega) (by omega)).mp e1
    have e2 := (nI_eq (by omega) (by omega)).mp e2
    omega, rfl, rfl⟩)
        refine sw_iconst (pc := 59) C (nI 0) d_Md_shape_59 (by decide) ?_
        refine sw_istore (pc := 60) C d_Md_shape_60 (by decide) rfl ?_
        exact inner 8 0 (by omega) (fun i hi => absurd hi (Nat.not_lt_zero _))
    refine sw_iconst (pc := 49) C (nI 0) d_Md_shape_49 (by decide) ?_
    refine sw_istore (pc := 50) C d_Md_shape_50 (by decide) rfl ?_
    exact key 8 0 (by omega) (fun j i hi hj => absurd hj (Nat.not_lt_zero _))
  refine sw_iconst (pc := 47) C (-1) d_Md_shape_47 (by decide) ?_
  exact sw_iret (pc := 48) C E rfl (Nat.le_of_ble_eq_true rfl) (Nat.le_of_ble_eq_true rfl) d_Md_shape_48 (Or.inl ⟨fun wn hn c o => (by obtain ⟨a1, _, _, _, _, rfl, hc, _⟩ := o; rcases bs_lt hc hS with e | ⟨e, e2⟩ | e <;> first | exact h5 e | (subst e; subst e2; exact h5 (by decide))), rfl, rfl⟩)
theorem pnt_up {g : Gl} {a kn rn x oc : Nat} {G0 G1 : Nat → Nat → Int32} {md : Nat × va_E} (hsd : (kn = 0 ∧ sdN (nI kn) = 8) ∨ (kn = 1 ∧ sdN (nI kn) = 4)) (hr : rn < sdN (nI kn)) (hx : x < sdN (nI kn)) : [md, iaC g a 128 (upd (clF (pt0 (nI kn) G0 rn x oc) (pt1 (nI kn) G1 rn x oc)) (64 * kn + 8 * rn + x) (nI (oc / 2 ^ (8 * x) % 256)))] = [md, iaC g a 128 (clF (pt0 (nI kn) G0 rn (x + 1) oc) (pt1 (nI kn) G1 rn (x + 1) oc))] := by
  rcases hsd with ⟨rfl, e⟩ | ⟨rfl, e⟩
  · have e1 : ∀ m, pt0 (nI 0) G0 rn m oc = rowSet G0 rn m (ocB oc) := fun m => rfl
    have e2 : ∀ m, pt1 (nI 0) G1 rn m oc = G1 := fun m => rfl
    rw [e1, e1, e2, e2, show 64 * 0 + 8 * rn + x = 8 * rn + x by omega, clF_up0 (by omega) (by omega), ← rowSet_up]
    rfl
  · have e1 : ∀ m, pt0 (nI 1) G0 rn m oc = G0 := fun m => rfl
    have e2 : ∀ m, pt1 (nI 1) G1 rn m oc = rowSet G1 rn m (ocB oc) := fun m => rfl
    rw [e1, e1, e2, e2, show 64 * 1 + 8 * rn + x = 64 + (8 * rn + x) by omega, clF_up1 (by omega), ← rowSet_up]
    rfl
set_option maxRecDepth 100000 in
set_option maxHeartbeats 4000000 in
theorem c_Md_paint (l : Launch) (g : Gl) (R : Nat → Nat) (dn pl ln ss pt : Nat) (th rd : Bool) (wd sc : Nat) (G0 G1 : Nat → Nat → Int32) (k r : Int32) (oc : Nat) (ho : oc < 2 ^ 64) : Ct l g y_Md_paint b_Md_paint 7 (some .boolean) (rmD 1) [.ref (R 0), .int k, .int r, .long (lN oc)] ([mdC R dn pl ln ss pt th rd wd sc, iaC g (R 7) 128 (clF G0 G1)]) (fun u w => (¬ pntOK k r oc ∧ u = some (.int (bI false)) ∧ w = [mdC R dn pl ln ss pt th rd wd sc, iaC g (R 7) 128 (clF G0 G1)]) ∨ (pntOK k r oc ∧ u = some (.int (bI true)) ∧ ∃ rn, rn < sdN k ∧ r = nI rn ∧ w = [mdC R dn pl ln ss pt th rd wd sc, iaC g (R 7) 128 (clF (pt0 k G0 rn 8 oc) (pt1 k G1 rn 4 oc))])) := by
  refine ct_of [some (.ref (R 0)), some (.int k), some (.int r), some (.long (lN oc)), none, none, none] (by decide) (Nat.le_of_ble_eq_true rfl) rfl ?_
  intro X C E
  refine sw_iload_n (pc := 0) C d_Md_paint_0 rfl rfl ?_
  refine sw_iconst (pc := 1) C (nI 1) d_Md_paint_1 (by decide) ?_
  refine sw_callSR (pc := 2) C (c_Md_out l g (k) (nI 1)) ss_Md_outside t_669 [] rfl rfl rfl rfl (Nat.le_of_ble_eq_true rfl) (Nat.le_of_ble_eq_true rfl) (Nat.le_of_ble_eq_true rfl) (Nat.le_of_ble_eq_true rfl) (Nat.le_of_ble_eq_true rfl) d_Md_paint_2 (fun v w1 hp => ?_)
  obtain ⟨rfl, rfl⟩ := hp
  refine ⟨rfl, ?_⟩
  refine sw_topi (z := bI (!(inR (1 + 1) (k)))) (by rw [outB_n _ (by omega)]) ?_
  refine sw_if_neB (pc := 5) C 21 d_Md_paint_5 (by decide) (fun h1 => ?_) (fun h1 => ?_)
  · skip
    refine sw_iconst (pc := 21) C (nI 0) d_Md_paint_21 (by decide) ?_
    refine sw_topi (z := bI false) rfl ?_
    exact sw_zret (pc := 22) C E rfl (bI_nar _) (Nat.le_of_ble_eq_true rfl) (Nat.le_of_ble_eq_true rfl) d_Md_paint_22 (Or.inl ⟨fun o => (by have := o.1; rw [show inR 2 k = false from nR_t h1] at this; cases this), rfl, rfl⟩)
  obtain ⟨kn, hkn, rfl⟩ := inR_of (n := 2) (by decide) (nR_f h1)
  have hsd : (kn = 0 ∧ sdN (nI kn) = 8) ∨ (kn = 1 ∧ sdN (nI kn) = 4) := by
    have h : kn = 0 ∨ kn = 1 := by omega
    rcases h with rfl | rfl
    · exact Or.inl ⟨rfl, by decide⟩
    · exact Or.inr ⟨rfl, by decide⟩
  refine sw_iload_n (pc := 8) C d_Md_paint_8 rfl rfl ?_
  refine sw_iload_n (pc := 9) C d_Md_paint_9 rfl rfl ?_
  refine sw_callSR (pc := 10) C (c_Md_side l g (nI kn)) ss_Md_side t_683 [] rfl rfl rfl rfl (Nat.le_of_ble_eq_true rfl) (Nat.le_of_ble_eq_true rfl) (Nat.le_of_ble_eq_true rfl) (Nat.le_of_ble_eq_true rfl) (Nat.le_of_ble_eq_true rfl) d_Md_paint_10 (fun v w1 hp => ?_)
  obtain ⟨rfl, rfl⟩ := hp
  refine ⟨rfl, ?_⟩
  refine sw_iconst (pc := 13) C (nI 1) d_Md_paint_13 (by decide) ?_
  refine sw_isub (pc := 14) C d_Md_paint_14 ?_
  refine sw_callSR (pc := 15) C (c_Md_out l g (r) (nI (sdN (nI kn)) - nI 1)) ss_Md_outside t_669 [] rfl rfl rfl rfl (Nat.le_of_ble_eq_true rfl) (Nat.le_of_ble_eq_true rfl) (Nat.le_of_ble_eq_true rfl) (Nat.le_of_ble_eq_true rfl) (Nat.le_of_ble_eq_true rfl) d_Md_paint_15 (fun v w1 hp => ?_)
  obtain ⟨rfl, rfl⟩ := hp
  refine ⟨rfl, ?_⟩
  refine sw_topi (z := bI (!(inR (sdN (nI kn)) (r)))) (by rw [outB_p _ (by omega)]) ?_
  refine sw_if_eqB (pc := 18) C 23 d_Md_paint_18 (by decide) (fun h2 => ?_) (fun h2 => ?_)
  · skip
    have hR := nR_f h2
    obtain ⟨rn, hrn, rfl⟩ := inR_of (by omega) hR
    have key2 : ∀ (nn x : Nat), x + nn = sdN (nI kn) → (∀ x, x < 8 → (oc / 2 ^ (8 * x) % 256) ≤ 63 ∧ (sdN (nI kn) ≤ x → (oc / 2 ^ (8 * x) % 256) = 0)) → SW X g 7 0 0 ([mdC R dn pl ln ss pt th rd wd sc, iaC g (R 7) 128 (clF (pt0 (nI kn) G0 rn x oc) (pt1 (nI kn) G1 rn x oc))]) 79 [some (.ref (R 0)), some (.int (nI kn)), some (.int (nI rn)), some (.long (lN oc)), none, some (.int (nI x)), none] [] := by
      intro nn
      induction nn with
      | zero =>
        intro x hi hG
        refine sw_iload (pc := 79) C d_Md_paint_79 rfl ?_
        refine sw_iload_n (pc := 81) C d_Md_paint_81 rfl rfl ?_
        refine sw_callSR (pc := 82) C (c_Md_side l g (nI kn)) ss_Md_side t_683 [] rfl rfl rfl rfl (Nat.le_of_ble_eq_true rfl) (Nat.le_of_ble_eq_true rfl) (Nat.le_of_ble_eq_true rfl) (Nat.le_of_ble_eq_true rfl) (Nat.le_of_ble_eq_true rfl) d_Md_paint_82 (fun v w1 hp => ?_)
        obtain ⟨rfl, rfl⟩ := hp
        refine ⟨rfl, ?_⟩
        refine sw_icmp_geN (pc := 85) C 123 (by omega) (by omega) d_Md_paint_85 (by decide) (fun hx => ?_) (fun hx => ?_)
        · skip
          have ex : x = sdN (nI kn) := by omega
          refine sw_iconst (pc := 123) C (nI 1) d_Md_paint_123 (by decide) ?_
          refine sw_topi (z := bI true) rfl ?_
          refine sw_ws (ws' := [mdC R dn pl ln ss pt th rd wd sc, iaC g (R 7) 128 (clF (pt0 (nI kn) G0 rn 8 oc) (pt1 (nI kn) G1 rn 4 oc))]) (by rcases hsd with ⟨rfl, e⟩ | ⟨rfl, e⟩ <;> rw [ex, e] <;> rfl) ?_
          exact sw_zret (pc := 124) C E rfl (bI_nar _) (Nat.le_of_ble_eq_true rfl) (Nat.le_of_ble_eq_true rfl) d_Md_paint_124 (Or.inr ⟨⟨nR_f h1, hR, hG⟩, rfl, rn, hrn, rfl, rfl⟩)
        omega
      | succ nn ih =>
        intro x hi hG
        refine sw_iload (pc := 79) C d_Md_paint_79 rfl ?_
        refine sw_iload_n (pc := 81) C d_Md_paint_81 rfl rfl ?_
        refine sw_callSR (pc := 82) C (c_Md_side l g (nI kn)) ss_Md_side t_683 [] rfl rfl rfl rfl (Nat.le_of_ble_eq_true rfl) (Nat.le_of_ble_eq_true rfl) (Nat.le_of_ble_eq_true rfl) (Nat.le_of_ble_eq_true rfl) (Nat.le_of_ble_eq_true rfl) d_Md_paint_82 (fun v w1 hp => ?_)
        obtain ⟨rfl, rfl⟩ := hp
        refine ⟨rfl, ?_⟩
        refine sw_icmp_geN (pc := 85) C 123 (by omega) (by omega) d_Md_paint_85 (by decide) (fun hx => ?_) (fun hx => ?_)
        · skip
          omega
        refine sw_aload_n (pc := 88) C d_Md_paint_88 rfl rfl ?_
        refine sw_get (pc := 89) C inMd 0 rfl rfl 8 (by decide) t_580 rfl rfl d_Md_paint_89 ?_
        refine sw_bipush (pc := 92) C (nI 64) d_Md_paint_92 (by decide) ?_
        refine sw_iload_n (pc := 94) C d_Md_paint_94 rfl rfl ?_
        refine sw_imul (pc := 95) C d_Md_paint_95 ?_
        refine sw_topi (z := nI (64 * kn)) (pk_mul _ _) ?_
        refine sw_bipush (pc := 96) C (nI 8) d_Md_paint_96 (by decide) ?_
        refine sw_iload_n (pc := 98) C d_Md_paint_98 rfl rfl ?_
        refine sw_imul (pc := 99) C d_Md_paint_99 ?_
        refine sw_topi (z := nI (8 * rn)) (pk_mul _ _) ?_
        refine sw_iadd (pc := 100) C d_Md_paint_100 ?_
        refine sw_topi (z := nI ((64 * kn) + (8 * rn))) (nI_add _ _) ?_
        refine sw_iload (pc := 101) C d_Md_paint_101 rfl ?_
        refine sw_iadd (pc := 103) C d_Md_paint_103 ?_
        refine sw_topi (z := nI (((64 * kn) + (8 * rn)) + x)) (nI_add _ _) ?_
        refine sw_lload_n (pc := 104) C d_Md_paint_104 rfl rfl ?_
        refine sw_bipush (pc := 105) C (nI 8) d_Md_paint_105 (by decide) ?_
        refine sw_iload (pc := 107) C d_Md_paint_107 rfl ?_
        refine sw_imul (pc := 109) C d_Md_paint_109 ?_
        refine sw_topi (z := nI (8 * x)) (pk_mul _ _) ?_
        refine sw_lushr (pc := 110) C d_Md_paint_110 ?_
        refine sw_topl (z := lN (oc / 2 ^ (8 * x))) (wb_shr ho (by omega)) ?_
        refine sw_ldc2 (pc := 111) C t_686 d_Md_paint_111 ?_
        refine sw_land (pc := 114) C d_Md_paint_114 ?_
        refine sw_topl (z := lN (oc / 2 ^ (8 * x) % 256)) (wb_mask (k := 8) (Nat.lt_of_le_of_lt (Nat.div_le_self _ _) ho) (by decide)) ?_
        refine sw_l2i (pc := 115) C d_Md_paint_115 ?_
        refine sw_topi (z := nI (oc / 2 ^ (8 * x) % 256)) (lN_i _) ?_
        refine sw_iastN (pc := 116) C 1 (((64 * kn) + (8 * rn)) + x) rfl rfl (by omega) (by decide) d_Md_paint_116 ?_
        refine sw_ws (ws' := [mdC R dn pl ln ss pt th rd wd sc, iaC g (R 7) 128 (clF (pt0 (nI kn) G0 rn (x + 1) oc) (pt1 (nI kn) G1 rn (x + 1) oc))]) (pnt_up hsd (by omega) (by omega)) ?_
        refine sw_iincN (pc := 117) C 1 d_Md_paint_117 rfl (by decide) (by decide) rfl ?_
        refine sw_goto (pc := 120) C 79 d_Md_paint_120 (by decide) ?_
        exact ih (x + 1) (by omega) hG
    have key1 : ∀ (nn x : Nat) , x + nn = 8 → (∀ j, j < x → (oc / 2 ^ (8 * j) % 256) ≤ 63 ∧ (sdN (nI kn) ≤ j → (oc / 2 ^ (8 * j) % 256) = 0)) → SW X g 7 0 0 ([mdC R dn pl ln ss pt th rd wd sc, iaC g (R 7) 128 (clF G0 G1)]) 26 [some (.ref (R 0)), some (.int (nI kn)), some (.int (nI rn)), some (.long (lN oc)), none, some (.int (nI x)), none] [] := by
      intro nn
      induction nn with
      | zero =>
        intro x  hi hG
        refine sw_iload (pc := 26) C d_Md_paint_26 rfl ?_
        refine sw_bipush (pc := 28) C (nI 8) d_Md_paint_28 (by decide) ?_
        refine sw_icmp_geN (pc := 30) C 76 (by omega) (by omega) d_Md_paint_30 (by decide) (fun hx => ?_) (fun hx => ?_)
        · skip
          refine sw_iconst (pc := 76) C (nI 0) d_Md_paint_76 (by decide) ?_
          refine sw_istore (pc := 77) C d_Md_paint_77 (by decide) rfl ?_
          refine sw_drop 6 ?_
          refine sw_ws (ws' := [mdC R dn pl ln ss pt th rd wd sc, iaC g (R 7) 128 (clF (pt0 (nI kn) G0 rn 0 oc) (pt1 (nI kn) G1 rn 0 oc))]) (by unfold pt0 pt1; rw [rowSet_0, rowSet_0]; split <;> rfl) ?_
          exact key2 (sdN (nI kn)) 0 (by omega) (fun x hx => hG x (by omega))
        omega
      | succ nn ih =>
        intro x  hi hG
        refine sw_iload (pc := 26) C d_Md_paint_26 rfl ?_
        refine sw_bipush (pc := 28) C (nI 8) d_Md_paint_28 (by decide) ?_
        refine sw_icmp_geN (pc := 30) C 76 (by omega) (by omega) d_Md_paint_30 (by decide) (fun hx => ?_) (fun hx => ?_)
        · skip
          omega
        refine sw_lload_n (pc := 33) C d_Md_paint_33 rfl rfl ?_
        refine sw_bipush (pc := 34) C (nI 8) d_Md_paint_34 (by decide) ?_
        refine sw_iload (pc := 36) C d_Md_paint_36 rfl ?_
        refine sw_imul (pc := 38) C d_Md_paint_38 ?_
        refine sw_topi (z := nI (8 * x)) (pk_mul _ _) ?_
        refine sw_lushr (pc := 39) C d_Md_paint_39 ?_
        refine sw_topl (z := lN (oc / 2 ^ (8 * x))) (wb_shr ho (by omega)) ?_
        refine sw_ldc2 (pc := 40) C t_686 d_Md_paint_40 ?_
        refine sw_land (pc := 43) C d_Md_paint_43 ?_
        refine sw_topl (z := lN (oc / 2 ^ (8 * x) % 256)) (wb_mask (k := 8) (Nat.lt_of_le_of_lt (Nat.div_le_self _ _) ho) (by decide)) ?_
        refine sw_l2i (pc := 44) C d_Md_paint_44 ?_
        refine sw_topi (z := nI (oc / 2 ^ (8 * x) % 256)) (lN_i _) ?_
        refine sw_istore (pc := 45) C d_Md_paint_45 (by decide) rfl ?_
        refine sw_iload (pc := 47) C d_Md_paint_47 rfl ?_
        refine sw_bipush (pc := 49) C (nI 63) d_Md_paint_49 (by decide) ?_
        refine sw_icmp_gtN (pc := 51) C 68 (by omega) (by omega) d_Md_paint_51 (by decide) (fun h3 => ?_) (fun h3 => ?_)
        · skip
          refine sw_iconst (pc := 68) C (nI 0) d_Md_paint_68 (by decide) ?_
          refine sw_topi (z := bI false) rfl ?_
          exact sw_zret (pc := 69) C E rfl (bI_nar _) (Nat.le_of_ble_eq_true rfl) (Nat.le_of_ble_eq_true rfl) d_Md_paint_69 (Or.inl ⟨fun o => (by have := o.2.2 x (by omega); omega), rfl, rfl⟩)
        refine sw_iload (pc := 54) C d_Md_paint_54 rfl ?_
        refine sw_iload_n (pc := 56) C d_Md_paint_56 rfl rfl ?_
        refine sw_callSR (pc := 57) C (c_Md_side l g (nI kn)) ss_Md_side t_683 [] rfl rfl rfl rfl (Nat.le_of_ble_eq_true rfl) (Nat.le_of_ble_eq_true rfl) (Nat.le_of_ble_eq_true rfl) (Nat.le_of_ble_eq_true rfl) (Nat.le_of_ble_eq_true rfl) d_Md_paint_57 (fun v w1 hp => ?_)
        obtain ⟨rfl, rfl⟩ := hp
        refine ⟨rfl, ?_⟩
        refine sw_icmp_ltN (pc := 60) C 70 (by omega) (by omega) d_Md_paint_60 (by decide) (fun h4 => ?_) (fun h4 => ?_)
        · skip
          refine sw_iincN (pc := 70) C 1 d_Md_paint_70 rfl (by decide) (by decide) rfl ?_
          refine sw_goto (pc := 73) C 26 d_Md_paint_73 (by decide) ?_
          refine sw_drop 6 ?_
          refine ih (x + 1) (by omega) (fun j hj => ?_)
          by_cases e : j = x
          · subst e
            exact ⟨by omega, fun _ => by omega⟩
          · exact hG j (by omega)
        refine sw_iload (pc := 63) C d_Md_paint_63 rfl ?_
        refine sw_if_leN (pc := 65) C 70 (by omega) d_Md_paint_65 (by decide) (fun h5 => ?_) (fun h5 => ?_)
        · skip
          refine sw_iincN (pc := 70) C 1 d_Md_paint_70 rfl (by decide) (by decide) rfl ?_
          refine sw_goto (pc := 73) C 26 d_Md_paint_73 (by decide) ?_
          refine sw_drop 6 ?_
          refine ih (x + 1) (by omega) (fun j hj => ?_)
          by_cases e : j = x
          · subst e
            exact ⟨by omega, fun _ => by omega⟩
          · exact hG j (by omega)
        refine sw_iconst (pc := 68) C (nI 0) d_Md_paint_68 (by decide) ?_
        refine sw_topi (z := bI false) rfl ?_
        exact sw_zret (pc := 69) C E rfl (bI_nar _) (Nat.le_of_ble_eq_true rfl) (Nat.le_of_ble_eq_true rfl) d_Md_paint_69 (Or.inl ⟨fun o => (by have := o.2.2 x (by omega); omega), rfl, rfl⟩)
    refine sw_iconst (pc := 23) C (nI 0) d_Md_paint_23 (by decide) ?_
    refine sw_istore (pc := 24) C d_Md_paint_24 (by decide) rfl ?_
    exact key1 8 0 (by omega) (fun j hj => absurd hj (Nat.not_lt_zero _))
  refine sw_iconst (pc := 21) C (nI 0) d_Md_paint_21 (by decide) ?_
  refine sw_topi (z := bI false) rfl ?_
  exact sw_zret (pc := 22) C E rfl (bI_nar _) (Nat.le_of_ble_eq_true rfl) (Nat.le_of_ble_eq_true rfl) d_Md_paint_22 (Or.inl ⟨fun o => (by have := o.2.1; rw [nR_t h2] at this; cases this), rfl, rfl⟩)
