/-! the reference: the faults of a document -/
theorem hd_mono (l : List Nat) : ∀ {j K : Nat}, j ≤ K → hd l j ≤ hd l K ∧ j + 2 ≤ hd l j
  | j, 0, h => by
    have e : j = 0 := by omega
    subst e
    exact ⟨Nat.le_refl _, by show 0 + 2 ≤ 2; decide⟩
  | j, K + 1, h => by
    by_cases e : j = K + 1
    · subst e
      have := (hd_mono l (Nat.le_refl K)).2
      refine ⟨Nat.le_refl _, ?_⟩
      show K + 1 + 2 ≤ hd l K + 3 + lenC l (hd l K)
      omega
    · have := hd_mono l (show j ≤ K by omega)
      refine ⟨?_, this.2⟩
      show hd l j ≤ hd l K + 3 + lenC l (hd l K)
      omega
theorem hd_next (l : List Nat) (j : Nat) : hd l (j + 1) = hd l j + 3 + lenC l (hd l j) := rfl
theorem hd_lt {l : List Nat} {j K : Nat} (h : j < K) : hd l j + 3 + lenC l (hd l j) ≤ hd l K := (hd_mono l (show j + 1 ≤ K from h)).1
def bN (l : List Nat) (kd j : Nat) : Nat := if kd = 0 then j else cK l kd j
theorem bN_1 (l : List Nat) (kd j : Nat) (h : kd = 0 ∨ kdA l j = kd) : bN l kd (j + 1) = bN l kd j + 1 := by
  unfold bN
  by_cases e : kd = 0
  · rw [if_pos e, if_pos e]
  · rw [if_neg e, if_neg e, cK_yes (by omega)]
theorem bN_0 (l : List Nat) (kd j : Nat) (h : ¬ kd = 0) (h2 : ¬ kdA l j = kd) : bN l kd (j + 1) = bN l kd j + 0 := by
  unfold bN
  rw [if_neg h, if_neg h, cK_no h2]
  rfl
theorem bN_le (l : List Nat) (kd : Nat) : ∀ j, bN l kd j ≤ j
  | 0 => by unfold bN; split <;> exact Nat.le_refl _
  | j + 1 => by
    have h := bN_le l kd j
    by_cases e : kd = 0 ∨ kdA l j = kd
    · rw [bN_1 l kd j e]; omega
    · rw [bN_0 l kd j (fun q => e (Or.inl q)) (fun q => e (Or.inr q))]; omega
theorem cP_le (l : List Nat) : ∀ j, cP l j ≤ hd l j
  | 0 => by show 0 ≤ 2; decide
  | j + 1 => by
    have h := cP_le l j
    show cP l j + (if kdA l j = 2 then lnA l j / 2 else 0) ≤ hd l j + 3 + lenC l (hd l j)
    have e : lnA l j = lenC l (hd l j) := rfl
    split <;> omega
theorem FLs_bd {l : List Nat} : ∀ {K : Nat}, (∀ j, j < K → FL l j 0) → cK l 1 K ≤ 8 ∧ cP l K ≤ 20 ∧ K ≤ 16
  | 0, _ => ⟨Nat.zero_le _, Nat.zero_le _, Nat.zero_le _⟩
  | K + 1, h => by
    have ih := FLs_bd (K := K) (fun j hj => h j (by omega))
    have hK := h K (by omega)
    unfold FL at hK
    rcases hK with ⟨_, e⟩ | ⟨_, _, e⟩ | ⟨_, h16, hk, ⟨g, _⟩ | ⟨_, e⟩⟩ | ⟨_, h16, hk, ⟨g, _⟩ | ⟨_, e⟩⟩ | ⟨_, h16, hk, ⟨g, _⟩ | ⟨_, e⟩⟩
    · omega
    · omega
    · rw [cK_yes hk, cP_no (by omega)]
      have := g.2.2.2.2
      omega
    · omega
    · rw [cK_no (by omega)]
      have e : cP l (K + 1) = cP l K + lnA l K / 2 := by
        show cP l K + (if kdA l K = 2 then lnA l K / 2 else 0) = _
        rw [if_pos hk]
      have := g.2.1
      omega
    · omega
    · rw [cK_no (by omega), cP_no (by omega)]
      omega
    · omega
theorem FL_in {l : List Nat} {K : Nat} (h : FL l K 0) : hd l (K + 1) ≤ l.length ∧ 1 ≤ kdA l K ∧ kdA l K ≤ 4 := by
  rw [hd_next]
  have e : lenC l (hd l K) = lnA l K := rfl
  rw [e]
  unfold FL at h
  rcases h with ⟨_, e⟩ | ⟨_, _, e⟩ | ⟨h1, h16, hk, ⟨g, _⟩ | ⟨_, e⟩⟩ | ⟨h1, h16, hk, ⟨g, _⟩ | ⟨_, e⟩⟩ | ⟨h1, h16, hk, ⟨g, _⟩ | ⟨_, e⟩⟩ <;> omega
theorem kd4 {kd : Nat} (h : kd < 256) : inR 4 (nI kd - nI 1) = decide (1 ≤ kd ∧ kd ≤ 4) := by
  have key : ∀ kd, kd < 256 → inR 4 (nI kd - nI 1) = decide (1 ≤ kd ∧ kd ≤ 4) := by decide +kernel
  exact key kd h
set_option maxRecDepth 100000 in
set_option maxHeartbeats 4000000 in
theorem c_Md_chLen (l : Launch) (g : Gl) (R : Nat → Nat) (dn pl ss pt : Nat) (th rd : Bool) (wd sc : Nat) (l0 : List Nat) (f : Nat → Int32) (hl : bytesOK l0) (p : Nat) (hp : p + 2 < l0.length) : Ct l g y_Md_chunkLength b_Md_chunkLength 2 (some .int) (rmD 0) [.ref (R 0), .int (nI p)] ([mdC R dn pl l0.length ss pt th rd wd sc, iaC g (R 8) 1200 (dcF l0 f)]) (fun u w => u = some (.int (nI (lenC l0 p))) ∧ w = [mdC R dn pl l0.length ss pt th rd wd sc, iaC g (R 8) 1200 (dcF l0 f)]) := by
  refine ct_of [some (.ref (R 0)), some (.int (nI p))] (by decide) (Nat.le_of_ble_eq_true rfl) rfl ?_
  intro X C E
  have h12 := hl.1
  refine sw_sipush (pc := 0) C (nI 256) d_Md_chunkLength_0 (by decide) ?_
  refine sw_aload_n (pc := 3) C d_Md_chunkLength_3 rfl rfl ?_
  refine sw_get (pc := 4) C inMd 0 rfl rfl 9 (by decide) t_581 rfl rfl d_Md_chunkLength_4 ?_
  refine sw_iload_n (pc := 7) C d_Md_chunkLength_7 rfl rfl ?_
  refine sw_iconst (pc := 8) C (nI 1) d_Md_chunkLength_8 (by decide) ?_
  refine sw_iadd (pc := 9) C d_Md_chunkLength_9 ?_
  refine sw_topi (z := nI (p + 1)) (nI_add _ _) ?_
  refine sw_ialdN (pc := 10) C 1 (p + 1) rfl rfl (by omega) (by decide) d_Md_chunkLength_10 ?_
  refine sw_topi (z := nI (l0.getD (p + 1) 0)) (dcF_get (by omega)) ?_
  refine sw_imul (pc := 11) C d_Md_chunkLength_11 ?_
  refine sw_topi (z := nI (256 * (l0.getD (p + 1) 0))) (pk_mul _ _) ?_
  refine sw_aload_n (pc := 12) C d_Md_chunkLength_12 rfl rfl ?_
  refine sw_get (pc := 13) C inMd 0 rfl rfl 9 (by decide) t_581 rfl rfl d_Md_chunkLength_13 ?_
  refine sw_iload_n (pc := 16) C d_Md_chunkLength_16 rfl rfl ?_
  refine sw_iconst (pc := 17) C (nI 2) d_Md_chunkLength_17 (by decide) ?_
  refine sw_iadd (pc := 18) C d_Md_chunkLength_18 ?_
  refine sw_topi (z := nI (p + 2)) (nI_add _ _) ?_
  refine sw_ialdN (pc := 19) C 1 (p + 2) rfl rfl (by omega) (by decide) d_Md_chunkLength_19 ?_
  refine sw_topi (z := nI (l0.getD (p + 2) 0)) (dcF_get (by omega)) ?_
  refine sw_iadd (pc := 20) C d_Md_chunkLength_20 ?_
  refine sw_topi (z := nI ((256 * (l0.getD (p + 1) 0)) + (l0.getD (p + 2) 0))) (nI_add _ _) ?_
  exact sw_iret (pc := 21) C E rfl (Nat.le_of_ble_eq_true rfl) (Nat.le_of_ble_eq_true rfl) d_Md_chunkLength_21 ⟨rfl, rfl⟩
set_option maxRecDepth 100000 in
set_option maxHeartbeats 4000000 in
theorem c_Md_before (l : Launch) (g : Gl) (R : Nat → Nat) (dn pl ss pt : Nat) (th rd : Bool) (wd sc : Nat) (l0 : List Nat) (f : Nat → Int32) (hl : bytesOK l0) (K kd : Nat) (hK : hd l0 K ≤ l0.length) (hkd : kd < 256) : Ct l g y_Md_before b_Md_before 5 (some .int) (rmD 1) [.ref (R 0), .int (nI (hd l0 K)), .int (nI kd)] ([mdC R dn pl l0.length ss pt th rd wd sc, iaC g (R 8) 1200 (dcF l0 f)]) (fun u w => u = some (.int (nI (bN l0 kd K))) ∧ w = [mdC R dn pl l0.length ss pt th rd wd sc, iaC g (R 8) 1200 (dcF l0 f)]) := by
  refine ct_of [some (.ref (R 0)), some (.int (nI (hd l0 K))), some (.int (nI kd)), none, none] (by decide) (Nat.le_of_ble_eq_true rfl) rfl ?_
  intro X C E
  have h12 := hl.1
  have hKm := hd_mono l0 (Nat.le_refl K)
  have key : ∀ (nn j : Nat) , j + nn = K → SW X g 5 0 0 ([mdC R dn pl l0.length ss pt th rd wd sc, iaC g (R 8) 1200 (dcF l0 f)]) 5 [some (.ref (R 0)), some (.int (nI (hd l0 K))), some (.int (nI kd)), some (.int (nI (bN l0 kd j))), some (.int (nI (hd l0 j)))] [] := by
    intro nn
    induction nn with
    | zero =>
      intro j  hi 
      have hlt : j < K → hd l0 j + 3 + lenC l0 (hd l0 j) ≤ hd l0 K := fun h => hd_lt h
      have heq : j = K → hd l0 j = hd l0 K := fun e => by rw [e]
      have hbn := bN_le l0 kd j
      have hjm := (hd_mono l0 (Nat.le_refl j)).2
      refine sw_iload (pc := 5) C d_Md_before_5 rfl ?_
      refine sw_iload_n (pc := 7) C d_Md_before_7 rfl rfl ?_
      refine sw_icmp_geN (pc := 8) C 50 (by omega) (by omega) d_Md_before_8 (by decide) (fun hx => ?_) (fun hx => ?_)
      · skip
        have ej : K = j := by omega
        subst ej
        refine sw_iload_n (pc := 50) C d_Md_before_50 rfl rfl ?_
        exact sw_iret (pc := 51) C E rfl (Nat.le_of_ble_eq_true rfl) (Nat.le_of_ble_eq_true rfl) d_Md_before_51 ⟨rfl, rfl⟩
      omega
    | succ nn ih =>
      intro j  hi 
      have hlt : j < K → hd l0 j + 3 + lenC l0 (hd l0 j) ≤ hd l0 K := fun h => hd_lt h
      have heq : j = K → hd l0 j = hd l0 K := fun e => by rw [e]
      have hbn := bN_le l0 kd j
      have hjm := (hd_mono l0 (Nat.le_refl j)).2
      refine sw_iload (pc := 5) C d_Md_before_5 rfl ?_
      refine sw_iload_n (pc := 7) C d_Md_before_7 rfl rfl ?_
      refine sw_icmp_geN (pc := 8) C 50 (by omega) (by omega) d_Md_before_8 (by decide) (fun hx => ?_) (fun hx => ?_)
      · skip
        omega
      have hl3 := hlt (by omega)
      have hby := hl.2 (hd l0 j)
      refine sw_iload_n (pc := 11) C d_Md_before_11 rfl rfl ?_
      refine sw_iload_n (pc := 12) C d_Md_before_12 rfl rfl ?_
      refine sw_if_eqN (pc := 13) C 27 (by omega) d_Md_before_13 (by decide) (fun h1 => ?_) (fun h1 => ?_)
      · skip
        refine sw_iconst (pc := 27) C (nI 1) d_Md_before_27 (by decide) ?_
        refine sw_goto (pc := 28) C 32 d_Md_before_28 (by decide) ?_
        refine sw_iadd (pc := 32) C d_Md_before_32 ?_
        refine sw_topi (z := nI ((bN l0 kd j) + 1)) (nI_add _ _) ?_
        refine sw_topi (z := nI (bN l0 kd (j + 1))) (by rw [bN_1 l0 kd j (Or.inl h1)]) ?_
        refine sw_istore_n (pc := 33) C d_Md_before_33 rfl (by decide) rfl ?_
        refine sw_iload (pc := 34) C d_Md_before_34 rfl ?_
        refine sw_iconst (pc := 36) C (nI 3) d_Md_before_36 (by decide) ?_
        refine sw_aload_n (pc := 37) C d_Md_before_37 rfl rfl ?_
        refine sw_iload (pc := 38) C d_Md_before_38 rfl ?_
        refine sw_callVR (pc := 40) C (c_Md_chLen l g R dn pl ss pt th rd wd sc l0 f hl (hd l0 j) (by omega)) sv_Md_chunkLength t_788 rfl rfl rfl [0, 1] rfl rfl rfl rfl (Nat.le_of_ble_eq_true rfl) (Nat.le_of_ble_eq_true rfl) (Nat.le_of_ble_eq_true rfl) (Nat.le_of_ble_eq_true rfl) (Nat.le_of_ble_eq_true rfl) d_Md_before_40 (fun v w1 hp => ?_)
        obtain ⟨rfl, rfl⟩ := hp
        refine ⟨rfl, ?_⟩
        refine sw_iadd (pc := 43) C d_Md_before_43 ?_
        refine sw_topi (z := nI (3 + (lenC l0 (hd l0 j)))) (nI_add _ _) ?_
        refine sw_iadd (pc := 44) C d_Md_before_44 ?_
        refine sw_topi (z := nI ((hd l0 j) + (3 + (lenC l0 (hd l0 j))))) (nI_add _ _) ?_
        refine sw_topi (z := nI (hd l0 (j + 1))) (by rw [hd_next]; congr 1; omega) ?_
        refine sw_istore (pc := 45) C d_Md_before_45 (by decide) rfl ?_
        refine sw_goto (pc := 47) C 5 d_Md_before_47 (by decide) ?_
        exact ih (j + 1) (by omega)
      refine sw_aload_n (pc := 16) C d_Md_before_16 rfl rfl ?_
      refine sw_get (pc := 17) C inMd 0 rfl rfl 9 (by decide) t_581 rfl rfl d_Md_before_17 ?_
      refine sw_iload (pc := 20) C d_Md_before_20 rfl ?_
      refine sw_ialdN (pc := 22) C 1 (hd l0 j) rfl rfl (by omega) (by decide) d_Md_before_22 ?_
      refine sw_topi (z := nI (kdA l0 j)) (dcF_get (by omega)) ?_
      refine sw_iload_n (pc := 23) C d_Md_before_23 rfl rfl ?_
      have hka : kdA l0 j < 256 := hby
      refine sw_icmp_neN (pc := 24) C 31 (by omega) (by omega) d_Md_before_24 (by decide) (fun h2 => ?_) (fun h2 => ?_)
      · skip
        refine sw_iconst (pc := 31) C (nI 0) d_Md_before_31 (by decide) ?_
        refine sw_iadd (pc := 32) C d_Md_before_32 ?_
        refine sw_topi (z := nI ((bN l0 kd j) + 0)) (nI_add _ _) ?_
        refine sw_topi (z := nI (bN l0 kd (j + 1))) (by rw [bN_0 l0 kd j (by omega) (by omega)]) ?_
        refine sw_istore_n (pc := 33) C d_Md_before_33 rfl (by decide) rfl ?_
        refine sw_iload (pc := 34) C d_Md_before_34 rfl ?_
        refine sw_iconst (pc := 36) C (nI 3) d_Md_before_36 (by decide) ?_
        refine sw_aload_n (pc := 37) C d_Md_before_37 rfl rfl ?_
        refine sw_iload (pc := 38) C d_Md_before_38 rfl ?_
        refine sw_callVR (pc := 40) C (c_Md_chLen l g R dn pl ss pt th rd wd sc l0 f hl (hd l0 j) (by omega)) sv_Md_chunkLength t_788 rfl rfl rfl [0, 1] rfl rfl rfl rfl (Nat.le_of_ble_eq_true rfl) (Nat.le_of_ble_eq_true rfl) (Nat.le_of_ble_eq_true rfl) (Nat.le_of_ble_eq_true rfl) (Nat.le_of_ble_eq_true rfl) d_Md_before_40 (fun v w1 hp => ?_)
        obtain ⟨rfl, rfl⟩ := hp
        refine ⟨rfl, ?_⟩
        refine sw_iadd (pc := 43) C d_Md_before_43 ?_
        refine sw_topi (z := nI (3 + (lenC l0 (hd l0 j)))) (nI_add _ _) ?_
        refine sw_iadd (pc := 44) C d_Md_before_44 ?_
        refine sw_topi (z := nI ((hd l0 j) + (3 + (lenC l0 (hd l0 j))))) (nI_add _ _) ?_
        refine sw_topi (z := nI (hd l0 (j + 1))) (by rw [hd_next]; congr 1; omega) ?_
        refine sw_istore (pc := 45) C d_Md_before_45 (by decide) rfl ?_
        refine sw_goto (pc := 47) C 5 d_Md_before_47 (by decide) ?_
        exact ih (j + 1) (by omega)
      refine sw_iconst (pc := 27) C (nI 1) d_Md_before_27 (by decide) ?_
      refine sw_goto (pc := 28) C 32 d_Md_before_28 (by decide) ?_
      refine sw_iadd (pc := 32) C d_Md_before_32 ?_
      refine sw_topi (z := nI ((bN l0 kd j) + 1)) (nI_add _ _) ?_
      refine sw_topi (z := nI (bN l0 kd (j + 1))) (by rw [bN_1 l0 kd j (Or.inr (by omega))]) ?_
      refine sw_istore_n (pc := 33) C d_Md_before_33 rfl (by decide) rfl ?_
      refine sw_iload (pc := 34) C d_Md_before_34 rfl ?_
      refine sw_iconst (pc := 36) C (nI 3) d_Md_before_36 (by decide) ?_
      refine sw_aload_n (pc := 37) C d_Md_before_37 rfl rfl ?_
      refine sw_iload (pc := 38) C d_Md_before_38 rfl ?_
      refine sw_callVR (pc := 40) C (c_Md_chLen l g R dn pl ss pt th rd wd sc l0 f hl (hd l0 j) (by omega)) sv_Md_chunkLength t_788 rfl rfl rfl [0, 1] rfl rfl rfl rfl (Nat.le_of_ble_eq_true rfl) (Nat.le_of_ble_eq_true rfl) (Nat.le_of_ble_eq_true rfl) (Nat.le_of_ble_eq_true rfl) (Nat.le_of_ble_eq_true rfl) d_Md_before_40 (fun v w1 hp => ?_)
      obtain ⟨rfl, rfl⟩ := hp
      refine ⟨rfl, ?_⟩
      refine sw_iadd (pc := 43) C d_Md_before_43 ?_
      refine sw_topi (z := nI (3 + (lenC l0 (hd l0 j)))) (nI_add _ _) ?_
      refine sw_iadd (pc := 44) C d_Md_before_44 ?_
      refine sw_topi (z := nI ((hd l0 j) + (3 + (lenC l0 (hd l0 j))))) (nI_add _ _) ?_
      refine sw_topi (z := nI (hd l0 (j + 1))) (by rw [hd_next]; congr 1; omega) ?_
      refine sw_istore (pc := 45) C d_Md_before_45 (by decide) rfl ?_
      refine sw_goto (pc := 47) C 5 d_Md_before_47 (by decide) ?_
      exact ih (j + 1) (by omega)
  refine sw_iconst (pc := 0) C (nI 0) d_Md_before_0 (by decide) ?_
  refine sw_topi (z := nI (bN l0 kd 0)) (by unfold bN; split <;> rfl) ?_
  refine sw_istore_n (pc := 1) C d_Md_before_1 rfl (by decide) rfl ?_
  refine sw_iconst (pc := 2) C (nI 2) d_Md_before_2 (by decide) ?_
  refine sw_istore (pc := 3) C d_Md_before_3 (by decide) rfl ?_
  exact key K 0 (by omega)
set_option maxRecDepth 100000 in
set_option maxHeartbeats 4000000 in
theorem c_Md_plBefore (l : Launch) (g : Gl) (R : Nat → Nat) (dn pl ss pt : Nat) (th rd : Bool) (wd sc : Nat) (l0 : List Nat) (f : Nat → Int32) (hl : bytesOK l0) (K : Nat) (hK : hd l0 K ≤ l0.length) : Ct l g y_Md_placingsBefore b_Md_placingsBefore 4 (some .int) (rmD 1) [.ref (R 0), .int (nI (hd l0 K))] ([mdC R dn pl l0.length ss pt th rd wd sc, iaC g (R 8) 1200 (dcF l0 f)]) (fun u w => u = some (.int (nI (cP l0 K))) ∧ w = [mdC R dn pl l0.length ss pt th rd wd sc, iaC g (R 8) 1200 (dcF l0 f)]) := by
  refine ct_of [some (.ref (R 0)), some (.int (nI (hd l0 K))), none, none] (by decide) (Nat.le_of_ble_eq_true rfl) rfl ?_
  intro X C E
  have h12 := hl.1
  have hKm := hd_mono l0 (Nat.le_refl K)
  have key : ∀ (nn j : Nat) , j + nn = K → SW X g 4 0 0 ([mdC R dn pl l0.length ss pt th rd wd sc, iaC g (R 8) 1200 (dcF l0 f)]) 4 [some (.ref (R 0)), some (.int (nI (hd l0 K))), some (.int (nI (cP l0 j))), some (.int (nI (hd l0 j)))] [] := by
    intro nn
    induction nn with
    | zero =>
      intro j  hi 
      have hlt : j < K → hd l0 j + 3 + lenC l0 (hd l0 j) ≤ hd l0 K := fun h => hd_lt h
      have heq : j = K → hd l0 j = hd l0 K := fun e => by rw [e]
      have hbn := cP_le l0 j
      have hjm := (hd_mono l0 (Nat.le_refl j)).2
      refine sw_iload_n (pc := 4) C d_Md_placingsBefore_4 rfl rfl ?_
      refine sw_iload_n (pc := 5) C d_Md_placingsBefore_5 rfl rfl ?_
      refine sw_icmp_geN (pc := 6) C 46 (by omega) (by omega) d_Md_placingsBefore_6 (by decide) (fun hx => ?_) (fun hx => ?_)
      · skip
        have ej : K = j := by omega
        subst ej
        refine sw_iload_n (pc := 46) C d_Md_placingsBefore_46 rfl rfl ?_
        exact sw_iret (pc := 47) C E rfl (Nat.le_of_ble_eq_true rfl) (Nat.le_of_ble_eq_true rfl) d_Md_placingsBefore_47 ⟨rfl, rfl⟩
      omega
    | succ nn ih =>
      intro j  hi 
      have hlt : j < K → hd l0 j + 3 + lenC l0 (hd l0 j) ≤ hd l0 K := fun h => hd_lt h
      have heq : j = K → hd l0 j = hd l0 K := fun e => by rw [e]
      have hbn := cP_le l0 j
      have hjm := (hd_mono l0 (Nat.le_refl j)).2
      refine sw_iload_n (pc := 4) C d_Md_placingsBefore_4 rfl rfl ?_
      refine sw_iload_n (pc := 5) C d_Md_placingsBefore_5 rfl rfl ?_
      refine sw_icmp_geN (pc := 6) C 46 (by omega) (by omega) d_Md_placingsBefore_6 (by decide) (fun hx => ?_) (fun hx => ?_)
      · skip
        omega
      have hl3 := hlt (by omega)
      have hby := hl.2 (hd l0 j)
      have hka : kdA l0 j < 256 := hby
      refine sw_iload_n (pc := 9) C d_Md_placingsBefore_9 rfl rfl ?_
      refine sw_aload_n (pc := 10) C d_Md_placingsBefore_10 rfl rfl ?_
      refine sw_get (pc := 11) C inMd 0 rfl rfl 9 (by decide) t_581 rfl rfl d_Md_placingsBefore_11 ?_
      refine sw_iload_n (pc := 14) C d_Md_placingsBefore_14 rfl rfl ?_
      refine sw_ialdN (pc := 15) C 1 (hd l0 j) rfl rfl (by omega) (by decide) d_Md_placingsBefore_15 ?_
      refine sw_topi (z := nI (kdA l0 j)) (dcF_get (by omega)) ?_
      refine sw_iconst (pc := 16) C (nI 2) d_Md_placingsBefore_16 (by decide) ?_
      refine sw_icmp_neN (pc := 17) C 30 (by omega) (by omega) d_Md_placingsBefore_17 (by decide) (fun h1 => ?_) (fun h1 => ?_)
      · skip
        refine sw_iconst (pc := 30) C (nI 0) d_Md_placingsBefore_30 (by decide) ?_
        refine sw_iadd (pc := 31) C d_Md_placingsBefore_31 ?_
        refine sw_topi (z := nI ((cP l0 j) + 0)) (nI_add _ _) ?_
        refine sw_topi (z := nI (cP l0 (j + 1))) (by rw [cP_no h1]; rfl) ?_
        refine sw_istore_n (pc := 32) C d_Md_placingsBefore_32 rfl (by decide) rfl ?_
        refine sw_iload_n (pc := 33) C d_Md_placingsBefore_33 rfl rfl ?_
        refine sw_iconst (pc := 34) C (nI 3) d_Md_placingsBefore_34 (by decide) ?_
        refine sw_aload_n (pc := 35) C d_Md_placingsBefore_35 rfl rfl ?_
        refine sw_iload_n (pc := 36) C d_Md_placingsBefore_36 rfl rfl ?_
        refine sw_callVR (pc := 37) C (c_Md_chLen l g R dn pl ss pt th rd wd sc l0 f hl (hd l0 j) (by omega)) sv_Md_chunkLength t_788 rfl rfl rfl [0, 1] rfl rfl rfl rfl (Nat.le_of_ble_eq_true rfl) (Nat.le_of_ble_eq_true rfl) (Nat.le_of_ble_eq_true rfl) (Nat.le_of_ble_eq_true rfl) (Nat.le_of_ble_eq_true rfl) d_Md_placingsBefore_37 (fun v w1 hp => ?_)
        obtain ⟨rfl, rfl⟩ := hp
        refine ⟨rfl, ?_⟩
        refine sw_iadd (pc := 40) C d_Md_placingsBefore_40 ?_
        refine sw_topi (z := nI (3 + (lenC l0 (hd l0 j)))) (nI_add _ _) ?_
        refine sw_iadd (pc := 41) C d_Md_placingsBefore_41 ?_
        refine sw_topi (z := nI ((hd l0 j) + (3 + (lenC l0 (hd l0 j))))) (nI_add _ _) ?_
        refine sw_topi (z := nI (hd l0 (j + 1))) (by rw [hd_next]; congr 1; omega) ?_
        refine sw_istore_n (pc := 42) C d_Md_placingsBefore_42 rfl (by decide) rfl ?_
        refine sw_goto (pc := 43) C 4 d_Md_placingsBefore_43 (by decide) ?_
        exact ih (j + 1) (by omega)
      refine sw_aload_n (pc := 20) C d_Md_placingsBefore_20 rfl rfl ?_
      refine sw_iload_n (pc := 21) C d_Md_placingsBefore_21 rfl rfl ?_
      refine sw_callVR (pc := 22) C (c_Md_chLen l g R dn pl ss pt th rd wd sc l0 f hl (hd l0 j) (by omega)) sv_Md_chunkLength t_788 rfl rfl rfl [0, 1] rfl rfl rfl rfl (Nat.le_of_ble_eq_true rfl) (Nat.le_of_ble_eq_true rfl) (Nat.le_of_ble_eq_true rfl) (Nat.le_of_ble_eq_true rfl) (Nat.le_of_ble_eq_true rfl) d_Md_placingsBefore_22 (fun v w1 hp => ?_)
      obtain ⟨rfl, rfl⟩ := hp
      refine ⟨rfl, ?_⟩
      refine sw_iconst (pc := 25) C (nI 2) d_Md_placingsBefore_25 (by decide) ?_
      refine sw_idiv (pc := 26) C d_Md_placingsBefore_26 (by decide) ?_
      refine sw_topi (z := nI ((lenC l0 (hd l0 j)) / 2)) (pk_div (by omega) (by omega) (by omega)) ?_
      refine sw_goto (pc := 27) C 31 d_Md_placingsBefore_27 (by decide) ?_
      refine sw_iadd (pc := 31) C d_Md_placingsBefore_31 ?_
      refine sw_topi (z := nI ((cP l0 j) + ((lenC l0 (hd l0 j)) / 2))) (nI_add _ _) ?_
      refine sw_topi (z := nI (cP l0 (j + 1))) (by show _ = nI (cP l0 j + (if kdA l0 j = 2 then lnA l0 j / 2 else 0)); rw [if_pos h1]; rfl) ?_
      refine sw_istore_n (pc := 32) C d_Md_placingsBefore_32 rfl (by decide) rfl ?_
      refine sw_iload_n (pc := 33) C d_Md_placingsBefore_33 rfl rfl ?_
      refine sw_iconst (pc := 34) C (nI 3) d_Md_placingsBefore_34 (by decide) ?_
      refine sw_aload_n (pc := 35) C d_Md_placingsBefore_35 rfl rfl ?_
      refine sw_iload_n (pc := 36) C d_Md_placingsBefore_36 rfl rfl ?_
      refine sw_callVR (pc := 37) C (c_Md_chLen l g R dn pl ss pt th rd wd sc l0 f hl (hd l0 j) (by omega)) sv_Md_chunkLength t_788 rfl rfl rfl [0, 1] rfl rfl rfl rfl (Nat.le_of_ble_eq_true rfl) (Nat.le_of_ble_eq_true rfl) (Nat.le_of_ble_eq_true rfl) (Nat.le_of_ble_eq_true rfl) (Nat.le_of_ble_eq_true rfl) d_Md_placingsBefore_37 (fun v w1 hp => ?_)
      obtain ⟨rfl, rfl⟩ := hp
      refine ⟨rfl, ?_⟩
      refine sw_iadd (pc := 40) C d_Md_placingsBefore_40 ?_
      refine sw_topi (z := nI (3 + (lenC l0 (hd l0 j)))) (nI_add _ _) ?_
      refine sw_iadd (pc := 41) C d_Md_placingsBefore_41 ?_
      refine sw_topi (z := nI ((hd l0 j) + (3 + (lenC l0 (hd l0 j))))) (nI_add _ _) ?_
      refine sw_topi (z := nI (hd l0 (j + 1))) (by rw [hd_next]; congr 1; omega) ?_
      refine sw_istore_n (pc := 42) C d_Md_placingsBefore_42 rfl (by decide) rfl ?_
      refine sw_goto (pc := 43) C 4 d_Md_placingsBefore_43 (by decide) ?_
      exact ih (j + 1) (by omega)
  refine sw_iconst (pc := 0) C (nI 0) d_Md_placingsBefore_0 (by decide) ?_
  refine sw_istore_n (pc := 1) C d_Md_placingsBefore_1 rfl (by decide) rfl ?_
  refine sw_iconst (pc := 2) C (nI 2) d_Md_placingsBefore_2 (by decide) ?_
  refine sw_istore_n (pc := 3) C d_Md_placingsBefore_3 rfl (by decide) rfl ?_
  exact key K 0 (by omega)
set_option maxRecDepth 100000 in
set_option maxHeartbeats 4000000 in
theorem c_Md_chFault (l : Launch) (g : Gl) (R : Nat → Nat) (dn pl ss pt : Nat) (th rd : Bool) (wd sc : Nat) (l0 : List Nat) (f : Nat → Int32) (hl : bytesOK l0) (K : Nat) (hK : hd l0 K < l0.length) (hS : cK l0 1 K ≤ 8) (hP : cP l0 K ≤ 20) : Ct l g y_Md_chunkFault b_Md_chunkFault 6 (some .int) (rmD 2) [.ref (R 0), .int (nI (hd l0 K))] ([mdC R dn pl l0.length ss pt th rd wd sc, iaC g (R 8) 1200 (dcF l0 f)]) (fun u w => (∃ v : Nat, u = some (.int (nI v)) ∧ v ≤ 6 ∧ FL l0 K v) ∧ w = [mdC R dn pl l0.length ss pt th rd wd sc, iaC g (R 8) 1200 (dcF l0 f)]) := by
  refine ct_of [some (.ref (R 0)), some (.int (nI (hd l0 K))), none, none, none, none] (by decide) (Nat.le_of_ble_eq_true rfl) rfl ?_
  intro X C E
  have h12 := hl.1
  have hKm := hd_mono l0 (Nat.le_refl K)
  have hka : (kdA l0 K) < 256 := hl.2 _
  have hln : (lnA l0 K) = 256 * l0.getD ((hd l0 K) + 1) 0 + l0.getD ((hd l0 K) + 2) 0 := rfl
  have b1 := hl.2 ((hd l0 K) + 1)
  have b2 := hl.2 ((hd l0 K) + 2)
  have e0 : lenC l0 (hd l0 K) = (lnA l0 K) := rfl
  refine sw_aload_n (pc := 0) C d_Md_chunkFault_0 rfl rfl ?_
  refine sw_get (pc := 1) C inMd 0 rfl rfl 10 (by decide) t_582 rfl rfl d_Md_chunkFault_1 ?_
  refine sw_topi (z := nI l0.length) rfl ?_
  refine sw_iload_n (pc := 4) C d_Md_chunkFault_4 rfl rfl ?_
  refine sw_isub (pc := 5) C d_Md_chunkFault_5 ?_
  refine sw_topi (z := nI (l0.length - (hd l0 K))) (pk_sub (by omega)) ?_
  refine sw_iconst (pc := 6) C (nI 3) d_Md_chunkFault_6 (by decide) ?_
  refine sw_icmp_ltN (pc := 7) C 26 (by omega) (by omega) d_Md_chunkFault_7 (by decide) (fun h1 => ?_) (fun h1 => ?_)
  · skip
    refine sw_iconst (pc := 26) C (nI 2) d_Md_chunkFault_26 (by decide) ?_
    exact sw_iret (pc := 27) C E rfl (Nat.le_of_ble_eq_true rfl) (Nat.le_of_ble_eq_true rfl) d_Md_chunkFault_27 ⟨⟨2, rfl, by decide, Or.inl ⟨by omega, rfl⟩⟩, rfl⟩
  refine sw_aload_n (pc := 10) C d_Md_chunkFault_10 rfl rfl ?_
  refine sw_get (pc := 11) C inMd 0 rfl rfl 10 (by decide) t_582 rfl rfl d_Md_chunkFault_11 ?_
  refine sw_topi (z := nI l0.length) rfl ?_
  refine sw_iload_n (pc := 14) C d_Md_chunkFault_14 rfl rfl ?_
  refine sw_isub (pc := 15) C d_Md_chunkFault_15 ?_
  refine sw_topi (z := nI (l0.length - (hd l0 K))) (pk_sub (by omega)) ?_
  refine sw_iconst (pc := 16) C (nI 3) d_Md_chunkFault_16 (by decide) ?_
  refine sw_isub (pc := 17) C d_Md_chunkFault_17 ?_
  refine sw_topi (z := nI ((l0.length - (hd l0 K)) - 3)) (pk_sub (by omega)) ?_
  refine sw_aload_n (pc := 18) C d_Md_chunkFault_18 rfl rfl ?_
  refine sw_iload_n (pc := 19) C d_Md_chunkFault_19 rfl rfl ?_
  refine sw_callVR (pc := 20) C (c_Md_chLen l g R dn pl ss pt th rd wd sc l0 f hl (hd l0 K) (by omega)) sv_Md_chunkLength t_788 rfl rfl rfl [0, 1] rfl rfl rfl rfl (Nat.le_of_ble_eq_true rfl) (Nat.le_of_ble_eq_true rfl) (Nat.le_of_ble_eq_true rfl) (Nat.le_of_ble_eq_true rfl) (Nat.le_of_ble_eq_true rfl) d_Md_chunkFault_20 (fun v w1 hp => ?_)
  obtain ⟨rfl, rfl⟩ := hp
  refine ⟨rfl, ?_⟩
  refine sw_icmp_geN (pc := 23) C 28 (by omega) (by omega) d_Md_chunkFault_23 (by decide) (fun h2 => ?_) (fun h2 => ?_)
  · skip
    have h3 : (hd l0 K) + 3 + (lnA l0 K) ≤ l0.length := by omega
    have hcb := bN_le l0 0 K
    have hc1 : bN l0 1 K = (cK l0 1 K) := rfl
    refine sw_aload_n (pc := 28) C d_Md_chunkFault_28 rfl rfl ?_
    refine sw_get (pc := 29) C inMd 0 rfl rfl 9 (by decide) t_581 rfl rfl d_Md_chunkFault_29 ?_
    refine sw_iload_n (pc := 32) C d_Md_chunkFault_32 rfl rfl ?_
    refine sw_ialdN (pc := 33) C 1 (hd l0 K) rfl rfl (by omega) (by decide) d_Md_chunkFault_33 ?_
    refine sw_topi (z := nI (kdA l0 K)) (dcF_get (by omega)) ?_
    refine sw_istore_n (pc := 34) C d_Md_chunkFault_34 rfl (by decide) rfl ?_
    refine sw_aload_n (pc := 35) C d_Md_chunkFault_35 rfl rfl ?_
    refine sw_iload_n (pc := 36) C d_Md_chunkFault_36 rfl rfl ?_
    refine sw_callVR (pc := 37) C (c_Md_chLen l g R dn pl ss pt th rd wd sc l0 f hl (hd l0 K) (by omega)) sv_Md_chunkLength t_788 rfl rfl rfl [0, 1] rfl rfl rfl rfl (Nat.le_of_ble_eq_true rfl) (Nat.le_of_ble_eq_true rfl) (Nat.le_of_ble_eq_true rfl) (Nat.le_of_ble_eq_true rfl) (Nat.le_of_ble_eq_true rfl) d_Md_chunkFault_37 (fun v w1 hp => ?_)
    obtain ⟨rfl, rfl⟩ := hp
    refine ⟨rfl, ?_⟩
    refine sw_topi (z := nI (lnA l0 K)) rfl ?_
    refine sw_istore_n (pc := 40) C d_Md_chunkFault_40 rfl (by decide) rfl ?_
    refine sw_iload_n (pc := 41) C d_Md_chunkFault_41 rfl rfl ?_
    refine sw_iconst (pc := 42) C (nI 1) d_Md_chunkFault_42 (by decide) ?_
    refine sw_isub (pc := 43) C d_Md_chunkFault_43 ?_
    refine sw_iconst (pc := 44) C (nI 3) d_Md_chunkFault_44 (by decide) ?_
    refine sw_callSR (pc := 45) C (c_Md_out l g (nI (kdA l0 K) - nI 1) (nI 3)) ss_Md_outside t_669 [] rfl rfl rfl rfl (Nat.le_of_ble_eq_true rfl) (Nat.le_of_ble_eq_true rfl) (Nat.le_of_ble_eq_true rfl) (Nat.le_of_ble_eq_true rfl) (Nat.le_of_ble_eq_true rfl) d_Md_chunkFault_45 (fun v w1 hp => ?_)
    obtain ⟨rfl, rfl⟩ := hp
    refine ⟨rfl, ?_⟩
    refine sw_topi (z := bI (!(decide (1 ≤ (kdA l0 K) ∧ (kdA l0 K) ≤ 4)))) (by rw [outB_n _ (by decide), kd4 hka]) ?_
    refine sw_if_neB (pc := 48) C 62 d_Md_chunkFault_48 (by decide) (fun h4 => ?_) (fun h4 => ?_)
    · skip
      have h5 : ¬ (1 ≤ (kdA l0 K) ∧ (kdA l0 K) ≤ 4) := by simp at h4; omega
      refine sw_iconst (pc := 62) C (nI 3) d_Md_chunkFault_62 (by decide) ?_
      exact sw_iret (pc := 63) C E rfl (Nat.le_of_ble_eq_true rfl) (Nat.le_of_ble_eq_true rfl) d_Md_chunkFault_63 ⟨⟨3, rfl, by decide, Or.inr (Or.inl ⟨h3, by omega, rfl⟩)⟩, rfl⟩
    have h5 : 1 ≤ (kdA l0 K) ∧ (kdA l0 K) ≤ 4 := by simp at h4; omega
    refine sw_aload_n (pc := 51) C d_Md_chunkFault_51 rfl rfl ?_
    refine sw_iload_n (pc := 52) C d_Md_chunkFault_52 rfl rfl ?_
    refine sw_iconst (pc := 53) C (nI 0) d_Md_chunkFault_53 (by decide) ?_
    refine sw_callVR (pc := 54) C (c_Md_before l g R dn pl ss pt th rd wd sc l0 f hl K 0 (by omega) (by decide)) sv_Md_before t_792 rfl rfl rfl [0, 1] rfl rfl rfl rfl (Nat.le_of_ble_eq_true rfl) (Nat.le_of_ble_eq_true rfl) (Nat.le_of_ble_eq_true rfl) (Nat.le_of_ble_eq_true rfl) (Nat.le_of_ble_eq_true rfl) d_Md_chunkFault_54 (fun v w1 hp => ?_)
    obtain ⟨rfl, rfl⟩ := hp
    refine ⟨rfl, ?_⟩
    refine sw_topi (z := nI K) rfl ?_
    refine sw_bipush (pc := 57) C (nI 16) d_Md_chunkFault_57 (by decide) ?_
    refine sw_icmp_ltN (pc := 59) C 64 (by omega) (by omega) d_Md_chunkFault_59 (by decide) (fun h6 => ?_) (fun h6 => ?_)
    · skip
      refine sw_aload_n (pc := 64) C d_Md_chunkFault_64 rfl rfl ?_
      refine sw_iload_n (pc := 65) C d_Md_chunkFault_65 rfl rfl ?_
      refine sw_iconst (pc := 66) C (nI 1) d_Md_chunkFault_66 (by decide) ?_
      refine sw_callVR (pc := 67) C (c_Md_before l g R dn pl ss pt th rd wd sc l0 f hl K 1 (by omega) (by decide)) sv_Md_before t_792 rfl rfl rfl [0, 1] rfl rfl rfl rfl (Nat.le_of_ble_eq_true rfl) (Nat.le_of_ble_eq_true rfl) (Nat.le_of_ble_eq_true rfl) (Nat.le_of_ble_eq_true rfl) (Nat.le_of_ble_eq_true rfl) d_Md_chunkFault_67 (fun v w1 hp => ?_)
      obtain ⟨rfl, rfl⟩ := hp
      refine ⟨rfl, ?_⟩
      refine sw_topi (z := nI (cK l0 1 K)) rfl ?_
      refine sw_istore (pc := 70) C d_Md_chunkFault_70 (by decide) rfl ?_
      refine sw_iload_n (pc := 72) C d_Md_chunkFault_72 rfl rfl ?_
      refine sw_iconst (pc := 73) C (nI 1) d_Md_chunkFault_73 (by decide) ?_
      refine sw_icmp_neN (pc := 74) C 137 (by omega) (by omega) d_Md_chunkFault_74 (by decide) (fun h7 => ?_) (fun h7 => ?_)
      · skip
        refine sw_iload_n (pc := 137) C d_Md_chunkFault_137 rfl rfl ?_
        refine sw_iconst (pc := 138) C (nI 2) d_Md_chunkFault_138 (by decide) ?_
        refine sw_icmp_leN (pc := 139) C 175 (by omega) (by omega) d_Md_chunkFault_139 (by decide) (fun h8 => ?_) (fun h8 => ?_)
        · skip
          have hk2 : (kdA l0 K) = 2 := by omega
          refine sw_iload_n (pc := 175) C d_Md_chunkFault_175 rfl rfl ?_
          refine sw_iconst (pc := 176) C (nI 2) d_Md_chunkFault_176 (by decide) ?_
          refine sw_irem (pc := 177) C d_Md_chunkFault_177 (by decide) ?_
          refine sw_topi (z := nI ((lnA l0 K) % 2)) (pk_rem (by omega) (by omega) (by omega)) ?_
          refine sw_iconst (pc := 178) C (nI 1) d_Md_chunkFault_178 (by decide) ?_
          refine sw_icmp_eqN (pc := 179) C 196 (by omega) (by omega) d_Md_chunkFault_179 (by decide) (fun h9 => ?_) (fun h9 => ?_)
          · skip
            refine sw_iconst (pc := 196) C (nI 5) d_Md_chunkFault_196 (by decide) ?_
            exact sw_iret (pc := 197) C E rfl (Nat.le_of_ble_eq_true rfl) (Nat.le_of_ble_eq_true rfl) d_Md_chunkFault_197 ⟨⟨5, rfl, by decide, Or.inr (Or.inr (Or.inr (Or.inl ⟨h3, h6, hk2, Or.inr ⟨fun g => by have := g.1; omega, rfl⟩⟩)))⟩, rfl⟩
          refine sw_aload_n (pc := 182) C d_Md_chunkFault_182 rfl rfl ?_
          refine sw_iload_n (pc := 183) C d_Md_chunkFault_183 rfl rfl ?_
          refine sw_callVR (pc := 184) C (c_Md_plBefore l g R dn pl ss pt th rd wd sc l0 f hl K (by omega)) sv_Md_placingsBefore t_796 rfl rfl rfl [0, 1] rfl rfl rfl rfl (Nat.le_of_ble_eq_true rfl) (Nat.le_of_ble_eq_true rfl) (Nat.le_of_ble_eq_true rfl) (Nat.le_of_ble_eq_true rfl) (Nat.le_of_ble_eq_true rfl) d_Md_chunkFault_184 (fun v w1 hp => ?_)
          obtain ⟨rfl, rfl⟩ := hp
          refine ⟨rfl, ?_⟩
          refine sw_iload_n (pc := 187) C d_Md_chunkFault_187 rfl rfl ?_
          refine sw_iconst (pc := 188) C (nI 2) d_Md_chunkFault_188 (by decide) ?_
          refine sw_idiv (pc := 189) C d_Md_chunkFault_189 (by decide) ?_
          refine sw_topi (z := nI ((lnA l0 K) / 2)) (pk_div (by omega) (by omega) (by omega)) ?_
          refine sw_iadd (pc := 190) C d_Md_chunkFault_190 ?_
          refine sw_topi (z := nI ((cP l0 K) + ((lnA l0 K) / 2))) (nI_add _ _) ?_
          refine sw_bipush (pc := 191) C (nI 20) d_Md_chunkFault_191 (by decide) ?_
          refine sw_icmp_leN (pc := 193) C 198 (by omega) (by omega) d_Md_chunkFault_193 (by decide) (fun hA => ?_) (fun hA => ?_)
          · skip
            have key : ∀ (nn i : Nat) , i + nn = (lnA l0 K) / 2 → (∀ j, j < i → l0.getD ((hd l0 K) + 3 + 2 * j) 0 < (cK l0 1 K)) → SW X g 6 0 0 ([mdC R dn pl l0.length ss pt th rd wd sc, iaC g (R 8) 1200 (dcF l0 f)]) 201 [some (.ref (R 0)), some (.int (nI (hd l0 K))), some (.int (nI (kdA l0 K))), some (.int (nI (lnA l0 K))), some (.int (nI (cK l0 1 K))), some (.int (nI (2 * i)))] [] := by
              intro nn
              induction nn with
              | zero =>
                intro i  hi hG
                refine sw_iload (pc := 201) C d_Md_chunkFault_201 rfl ?_
                refine sw_iload_n (pc := 203) C d_Md_chunkFault_203 rfl rfl ?_
                refine sw_icmp_geN (pc := 204) C 231 (by omega) (by omega) d_Md_chunkFault_204 (by decide) (fun hx => ?_) (fun hx => ?_)
                · skip
                  refine sw_iconst (pc := 231) C (nI 0) d_Md_chunkFault_231 (by decide) ?_
                  exact sw_iret (pc := 232) C E rfl (Nat.le_of_ble_eq_true rfl) (Nat.le_of_ble_eq_true rfl) d_Md_chunkFault_232 ⟨⟨0, rfl, by decide, Or.inr (Or.inr (Or.inr (Or.inl ⟨h3, h6, hk2, Or.inl ⟨⟨by omega, by omega, fun j hj => hG j (by omega)⟩, rfl⟩⟩)))⟩, rfl⟩
                omega
              | succ nn ih =>
                intro i  hi hG
                refine sw_iload (pc := 201) C d_Md_chunkFault_201 rfl ?_
                refine sw_iload_n (pc := 203) C d_Md_chunkFault_203 rfl rfl ?_
                refine sw_icmp_geN (pc := 204) C 231 (by omega) (by omega) d_Md_chunkFault_204 (by decide) (fun hx => ?_) (fun hx => ?_)
                · skip
                  omega
                have hq := hl.2 ((hd l0 K) + 3 + 2 * i)
                refine sw_aload_n (pc := 207) C d_Md_chunkFault_207 rfl rfl ?_
                refine sw_get (pc := 208) C inMd 0 rfl rfl 9 (by decide) t_581 rfl rfl d_Md_chunkFault_208 ?_
                refine sw_iload_n (pc := 211) C d_Md_chunkFault_211 rfl rfl ?_
                refine sw_iconst (pc := 212) C (nI 3) d_Md_chunkFault_212 (by decide) ?_
                refine sw_iadd (pc := 213) C d_Md_chunkFault_213 ?_
                refine sw_topi (z := nI ((hd l0 K) + 3)) (nI_add _ _) ?_
                refine sw_iload (pc := 214) C d_Md_chunkFault_214 rfl ?_
                refine sw_iadd (pc := 216) C d_Md_chunkFault_216 ?_
                refine sw_topi (z := nI (((hd l0 K) + 3) + (2 * i))) (nI_add _ _) ?_
                refine sw_ialdN (pc := 217) C 1 (((hd l0 K) + 3) + (2 * i)) rfl rfl (by omega) (by decide) d_Md_chunkFault_217 ?_
                refine sw_topi (z := nI (l0.getD ((hd l0 K) + 3 + 2 * i) 0)) (dcF_get (by omega)) ?_
                refine sw_iload (pc := 218) C d_Md_chunkFault_218 rfl ?_
                refine sw_icmp_ltN (pc := 220) C 225 (by omega) (by omega) d_Md_chunkFault_220 (by decide) (fun hB => ?_) (fun hB => ?_)
                · skip
                  refine sw_iincN (pc := 225) C 2 d_Md_chunkFault_225 rfl (by decide) (by decide) rfl ?_
                  refine sw_goto (pc := 228) C 201 d_Md_chunkFault_228 (by decide) ?_
                  rw [show 2 * i + 2 = 2 * (i + 1) by omega]
                  refine ih (i + 1) (by omega) (fun j hj => ?_)
                  by_cases e : j = i
                  · subst e; exact hB
                  · exact hG j (by omega)
                refine sw_iconst (pc := 223) C (nI 5) d_Md_chunkFault_223 (by decide) ?_
                exact sw_iret (pc := 224) C E rfl (Nat.le_of_ble_eq_true rfl) (Nat.le_of_ble_eq_true rfl) d_Md_chunkFault_224 ⟨⟨5, rfl, by decide, Or.inr (Or.inr (Or.inr (Or.inl ⟨h3, h6, hk2, Or.inr ⟨fun g => by have := g.2.2 i (by omega); omega, rfl⟩⟩)))⟩, rfl⟩
            refine sw_iconst (pc := 198) C (nI 0) d_Md_chunkFault_198 (by decide) ?_
            refine sw_istore (pc := 199) C d_Md_chunkFault_199 (by decide) rfl ?_
            exact key ((lnA l0 K) / 2) 0 (by omega) (fun j hj => absurd hj (Nat.not_lt_zero _))
          refine sw_iconst (pc := 196) C (nI 5) d_Md_chunkFault_196 (by decide) ?_
          exact sw_iret (pc := 197) C E rfl (Nat.le_of_ble_eq_true rfl) (Nat.le_of_ble_eq_true rfl) d_Md_chunkFault_197 ⟨⟨5, rfl, by decide, Or.inr (Or.inr (Or.inr (Or.inl ⟨h3, h6, hk2, Or.inr ⟨fun g => by have := g.2.1; omega, rfl⟩⟩)))⟩, rfl⟩
        have hk34 : (kdA l0 K) = 3 ∨ (kdA l0 K) = 4 := by omega
        have hq3 := hl.2 ((hd l0 K) + 3)
        have hcn : bN l0 (kdA l0 K) K = cK l0 (kdA l0 K) K := by unfold bN; rw [if_neg (by omega)]
        have hcl := bN_le l0 (kdA l0 K) K
        refine sw_aload_n (pc := 142) C d_Md_chunkFault_142 rfl rfl ?_
        refine sw_iload_n (pc := 143) C d_Md_chunkFault_143 rfl rfl ?_
        refine sw_iload_n (pc := 144) C d_Md_chunkFault_144 rfl rfl ?_
        refine sw_callVR (pc := 145) C (c_Md_before l g R dn pl ss pt th rd wd sc l0 f hl K (kdA l0 K) (by omega) hka) sv_Md_before t_792 rfl rfl rfl [0, 1] rfl rfl rfl rfl (Nat.le_of_ble_eq_true rfl) (Nat.le_of_ble_eq_true rfl) (Nat.le_of_ble_eq_true rfl) (Nat.le_of_ble_eq_true rfl) (Nat.le_of_ble_eq_true rfl) d_Md_chunkFault_145 (fun v w1 hp => ?_)
        obtain ⟨rfl, rfl⟩ := hp
        refine ⟨rfl, ?_⟩
        refine sw_if_gtN (pc := 148) C 168 (by omega) d_Md_chunkFault_148 (by decide) (fun hA => ?_) (fun hA => ?_)
        · skip
          refine sw_bipush (pc := 168) C (nI 6) d_Md_chunkFault_168 (by decide) ?_
          refine sw_goto (pc := 170) C 174 d_Md_chunkFault_170 (by decide) ?_
          exact sw_iret (pc := 174) C E rfl (Nat.le_of_ble_eq_true rfl) (Nat.le_of_ble_eq_true rfl) d_Md_chunkFault_174 ⟨⟨6, rfl, by decide, Or.inr (Or.inr (Or.inr (Or.inr ⟨h3, h6, hk34, Or.inr ⟨fun g => by have := g.1; omega, rfl⟩⟩)))⟩, rfl⟩
        refine sw_iload_n (pc := 151) C d_Md_chunkFault_151 rfl rfl ?_
        refine sw_if_eqN (pc := 152) C 168 (by omega) d_Md_chunkFault_152 (by decide) (fun hB => ?_) (fun hB => ?_)
        · skip
          refine sw_bipush (pc := 168) C (nI 6) d_Md_chunkFault_168 (by decide) ?_
          refine sw_goto (pc := 170) C 174 d_Md_chunkFault_170 (by decide) ?_
          exact sw_iret (pc := 174) C E rfl (Nat.le_of_ble_eq_true rfl) (Nat.le_of_ble_eq_true rfl) d_Md_chunkFault_174 ⟨⟨6, rfl, by decide, Or.inr (Or.inr (Or.inr (Or.inr ⟨h3, h6, hk34, Or.inr ⟨fun g => by have := g.2.1; omega, rfl⟩⟩)))⟩, rfl⟩
        refine sw_aload_n (pc := 155) C d_Md_chunkFault_155 rfl rfl ?_
        refine sw_get (pc := 156) C inMd 0 rfl rfl 9 (by decide) t_581 rfl rfl d_Md_chunkFault_156 ?_
        refine sw_iload_n (pc := 159) C d_Md_chunkFault_159 rfl rfl ?_
        refine sw_iconst (pc := 160) C (nI 3) d_Md_chunkFault_160 (by decide) ?_
        refine sw_iadd (pc := 161) C d_Md_chunkFault_161 ?_
        refine sw_topi (z := nI ((hd l0 K) + 3)) (nI_add _ _) ?_
        refine sw_ialdN (pc := 162) C 1 ((hd l0 K) + 3) rfl rfl (by omega) (by decide) d_Md_chunkFault_162 ?_
        refine sw_topi (z := nI (l0.getD ((hd l0 K) + 3) 0)) (dcF_get (by omega)) ?_
        refine sw_bipush (pc := 163) C (nI 10) d_Md_chunkFault_163 (by decide) ?_
        refine sw_icmp_leN (pc := 165) C 173 (by omega) (by omega) d_Md_chunkFault_165 (by decide) (fun hC => ?_) (fun hC => ?_)
        · skip
          refine sw_iconst (pc := 173) C (nI 0) d_Md_chunkFault_173 (by decide) ?_
          exact sw_iret (pc := 174) C E rfl (Nat.le_of_ble_eq_true rfl) (Nat.le_of_ble_eq_true rfl) d_Md_chunkFault_174 ⟨⟨0, rfl, by decide, Or.inr (Or.inr (Or.inr (Or.inr ⟨h3, h6, hk34, Or.inl ⟨⟨by omega, by omega, hC⟩, rfl⟩⟩)))⟩, rfl⟩
        refine sw_bipush (pc := 168) C (nI 6) d_Md_chunkFault_168 (by decide) ?_
        refine sw_goto (pc := 170) C 174 d_Md_chunkFault_170 (by decide) ?_
        exact sw_iret (pc := 174) C E rfl (Nat.le_of_ble_eq_true rfl) (Nat.le_of_ble_eq_true rfl) d_Md_chunkFault_174 ⟨⟨6, rfl, by decide, Or.inr (Or.inr (Or.inr (Or.inr ⟨h3, h6, hk34, Or.inr ⟨fun g => by have := g.2.2; omega, rfl⟩⟩)))⟩, rfl⟩
      have hq3 := hl.2 ((hd l0 K) + 3)
      have hq4 := hl.2 ((hd l0 K) + 3 + 1)
      refine sw_iload (pc := 77) C d_Md_chunkFault_77 rfl ?_
      refine sw_bipush (pc := 79) C (nI 8) d_Md_chunkFault_79 (by decide) ?_
      refine sw_icmp_eqN (pc := 81) C 131 (by omega) (by omega) d_Md_chunkFault_81 (by decide) (fun hA => ?_) (fun hA => ?_)
      · skip
        refine sw_iconst (pc := 131) C (nI 4) d_Md_chunkFault_131 (by decide) ?_
        refine sw_goto (pc := 132) C 136 d_Md_chunkFault_132 (by decide) ?_
        exact sw_iret (pc := 136) C E rfl (Nat.le_of_ble_eq_true rfl) (Nat.le_of_ble_eq_true rfl) d_Md_chunkFault_136 ⟨⟨4, rfl, by decide, Or.inr (Or.inr (Or.inl ⟨h3, h6, h7, Or.inr ⟨fun g => by have := g.2.2.2.2; omega, rfl⟩⟩))⟩, rfl⟩
      refine sw_iload_n (pc := 84) C d_Md_chunkFault_84 rfl rfl ?_
      refine sw_iconst (pc := 85) C (nI 2) d_Md_chunkFault_85 (by decide) ?_
      refine sw_icmp_ltN (pc := 86) C 131 (by omega) (by omega) d_Md_chunkFault_86 (by decide) (fun hB => ?_) (fun hB => ?_)
      · skip
        refine sw_iconst (pc := 131) C (nI 4) d_Md_chunkFault_131 (by decide) ?_
        refine sw_goto (pc := 132) C 136 d_Md_chunkFault_132 (by decide) ?_
        exact sw_iret (pc := 136) C E rfl (Nat.le_of_ble_eq_true rfl) (Nat.le_of_ble_eq_true rfl) d_Md_chunkFault_136 ⟨⟨4, rfl, by decide, Or.inr (Or.inr (Or.inl ⟨h3, h6, h7, Or.inr ⟨fun g => by have := g.1; omega, rfl⟩⟩))⟩, rfl⟩
      refine sw_aload_n (pc := 89) C d_Md_chunkFault_89 rfl rfl ?_
      refine sw_get (pc := 90) C inMd 0 rfl rfl 9 (by decide) t_581 rfl rfl d_Md_chunkFault_90 ?_
      refine sw_iload_n (pc := 93) C d_Md_chunkFault_93 rfl rfl ?_
      refine sw_iconst (pc := 94) C (nI 3) d_Md_chunkFault_94 (by decide) ?_
      refine sw_iadd (pc := 95) C d_Md_chunkFault_95 ?_
      refine sw_topi (z := nI ((hd l0 K) + 3)) (nI_add _ _) ?_
      refine sw_ialdN (pc := 96) C 1 ((hd l0 K) + 3) rfl rfl (by omega) (by decide) d_Md_chunkFault_96 ?_
      refine sw_topi (z := nI (l0.getD ((hd l0 K) + 3) 0)) (dcF_get (by omega)) ?_
      refine sw_iload (pc := 97) C d_Md_chunkFault_97 rfl ?_
      refine sw_icmp_gtN (pc := 99) C 131 (by omega) (by omega) d_Md_chunkFault_99 (by decide) (fun hC => ?_) (fun hC => ?_)
      · skip
        refine sw_iconst (pc := 131) C (nI 4) d_Md_chunkFault_131 (by decide) ?_
        refine sw_goto (pc := 132) C 136 d_Md_chunkFault_132 (by decide) ?_
        exact sw_iret (pc := 136) C E rfl (Nat.le_of_ble_eq_true rfl) (Nat.le_of_ble_eq_true rfl) d_Md_chunkFault_136 ⟨⟨4, rfl, by decide, Or.inr (Or.inr (Or.inl ⟨h3, h6, h7, Or.inr ⟨fun g => by have := g.2.1; omega, rfl⟩⟩))⟩, rfl⟩
      refine sw_aload_n (pc := 102) C d_Md_chunkFault_102 rfl rfl ?_
      refine sw_get (pc := 103) C inMd 0 rfl rfl 9 (by decide) t_581 rfl rfl d_Md_chunkFault_103 ?_
      refine sw_iload_n (pc := 106) C d_Md_chunkFault_106 rfl rfl ?_
      refine sw_iconst (pc := 107) C (nI 4) d_Md_chunkFault_107 (by decide) ?_
      refine sw_iadd (pc := 108) C d_Md_chunkFault_108 ?_
      refine sw_topi (z := nI ((hd l0 K) + 4)) (nI_add _ _) ?_
      refine sw_ialdN (pc := 109) C 1 ((hd l0 K) + 4) rfl rfl (by omega) (by decide) d_Md_chunkFault_109 ?_
      refine sw_topi (z := nI (l0.getD ((hd l0 K) + 3 + 1) 0)) (dcF_get (by omega)) ?_
      refine sw_bipush (pc := 110) C (nI 127) d_Md_chunkFault_110 (by decide) ?_
      refine sw_icmp_gtN (pc := 112) C 131 (by omega) (by omega) d_Md_chunkFault_112 (by decide) (fun hD => ?_) (fun hD => ?_)
      · skip
        refine sw_iconst (pc := 131) C (nI 4) d_Md_chunkFault_131 (by decide) ?_
        refine sw_goto (pc := 132) C 136 d_Md_chunkFault_132 (by decide) ?_
        exact sw_iret (pc := 136) C E rfl (Nat.le_of_ble_eq_true rfl) (Nat.le_of_ble_eq_true rfl) d_Md_chunkFault_136 ⟨⟨4, rfl, by decide, Or.inr (Or.inr (Or.inl ⟨h3, h6, h7, Or.inr ⟨fun g => by have := g.2.2.1; omega, rfl⟩⟩))⟩, rfl⟩
      refine sw_aload_n (pc := 115) C d_Md_chunkFault_115 rfl rfl ?_
      refine sw_get (pc := 116) C inMd 0 rfl rfl 9 (by decide) t_581 rfl rfl d_Md_chunkFault_116 ?_
      refine sw_iload_n (pc := 119) C d_Md_chunkFault_119 rfl rfl ?_
      refine sw_iconst (pc := 120) C (nI 4) d_Md_chunkFault_120 (by decide) ?_
      refine sw_iadd (pc := 121) C d_Md_chunkFault_121 ?_
      refine sw_topi (z := nI ((hd l0 K) + 4)) (nI_add _ _) ?_
      refine sw_ialdN (pc := 122) C 1 ((hd l0 K) + 4) rfl rfl (by omega) (by decide) d_Md_chunkFault_122 ?_
      refine sw_topi (z := nI (l0.getD ((hd l0 K) + 3 + 1) 0)) (dcF_get (by omega)) ?_
      refine sw_bipush (pc := 123) C (nI 16) d_Md_chunkFault_123 (by decide) ?_
      refine sw_irem (pc := 125) C d_Md_chunkFault_125 (by decide) ?_
      refine sw_topi (z := nI ((l0.getD ((hd l0 K) + 3 + 1) 0) % 16)) (pk_rem (by omega) (by omega) (by omega)) ?_
      refine sw_bipush (pc := 126) C (nI 7) d_Md_chunkFault_126 (by decide) ?_
      refine sw_icmp_leN (pc := 128) C 135 (by omega) (by omega) d_Md_chunkFault_128 (by decide) (fun hE => ?_) (fun hE => ?_)
      · skip
        refine sw_iconst (pc := 135) C (nI 0) d_Md_chunkFault_135 (by decide) ?_
        exact sw_iret (pc := 136) C E rfl (Nat.le_of_ble_eq_true rfl) (Nat.le_of_ble_eq_true rfl) d_Md_chunkFault_136 ⟨⟨0, rfl, by decide, Or.inr (Or.inr (Or.inl ⟨h3, h6, h7, Or.inl ⟨⟨by omega, by omega, by omega, by omega, by omega⟩, rfl⟩⟩))⟩, rfl⟩
      refine sw_iconst (pc := 131) C (nI 4) d_Md_chunkFault_131 (by decide) ?_
      refine sw_goto (pc := 132) C 136 d_Md_chunkFault_132 (by decide) ?_
      exact sw_iret (pc := 136) C E rfl (Nat.le_of_ble_eq_true rfl) (Nat.le_of_ble_eq_true rfl) d_Md_chunkFault_136 ⟨⟨4, rfl, by decide, Or.inr (Or.inr (Or.inl ⟨h3, h6, h7, Or.inr ⟨fun g => by have := g.2.2.2.1; omega, rfl⟩⟩))⟩, rfl⟩
    refine sw_iconst (pc := 62) C (nI 3) d_Md_chunkFault_62 (by decide) ?_
    exact sw_iret (pc := 63) C E rfl (Nat.le_of_ble_eq_true rfl) (Nat.le_of_ble_eq_true rfl) d_Md_chunkFault_63 ⟨⟨3, rfl, by decide, Or.inr (Or.inl ⟨h3, by omega, rfl⟩)⟩, rfl⟩
  refine sw_iconst (pc := 26) C (nI 2) d_Md_chunkFault_26 (by decide) ?_
  exact sw_iret (pc := 27) C E rfl (Nat.le_of_ble_eq_true rfl) (Nat.le_of_ble_eq_true rfl) d_Md_chunkFault_27 ⟨⟨2, rfl, by decide, Or.inl ⟨by omega, rfl⟩⟩, rfl⟩
set_option maxRecDepth 100000 in
set_option maxHeartbeats 4000000 in
theorem c_Md_fault (l : Launch) (g : Gl) (R : Nat → Nat) (dn pl ss pt : Nat) (th rd : Bool) (wd sc : Nat) (l0 : List Nat) (f : Nat → Int32) (hl : bytesOK l0) : Ct l g y_Md_fault b_Md_fault 3 (some .int) (rmD 3) [.ref (R 0)] ([mdC R dn pl l0.length ss pt th rd wd sc, iaC g (R 8) 1200 (dcF l0 f)]) (fun u w => (∃ K v : Nat, u = some (.int (nI v)) ∧ RD l0 K v) ∧ w = [mdC R dn pl l0.length ss pt th rd wd sc, iaC g (R 8) 1200 (dcF l0 f)]) := by
  refine ct_of [some (.ref (R 0)), none, none] (by decide) (Nat.le_of_ble_eq_true rfl) rfl ?_
  intro X C E
  have h12 := hl.1
  have g0 := hl.2 0
  have g1 := hl.2 1
  refine sw_aload_n (pc := 0) C d_Md_fault_0 rfl rfl ?_
  refine sw_get (pc := 1) C inMd 0 rfl rfl 10 (by decide) t_582 rfl rfl d_Md_fault_1 ?_
  refine sw_topi (z := nI l0.length) rfl ?_
  refine sw_iconst (pc := 4) C (nI 2) d_Md_fault_4 (by decide) ?_
  refine sw_icmp_ltN (pc := 5) C 30 (by omega) (by omega) d_Md_fault_5 (by decide) (fun h1 => ?_) (fun h1 => ?_)
  · skip
    refine sw_iconst (pc := 30) C (nI 1) d_Md_fault_30 (by decide) ?_
    exact sw_iret (pc := 31) C E rfl (Nat.le_of_ble_eq_true rfl) (Nat.le_of_ble_eq_true rfl) d_Md_fault_31 ⟨⟨0, 1, rfl, Or.inl ⟨fun s => by have := s.2; rw [getD_ge (by omega)] at this; omega, rfl, rfl⟩⟩, rfl⟩
  refine sw_aload_n (pc := 8) C d_Md_fault_8 rfl rfl ?_
  refine sw_get (pc := 9) C inMd 0 rfl rfl 9 (by decide) t_581 rfl rfl d_Md_fault_9 ?_
  refine sw_iconst (pc := 12) C (nI 0) d_Md_fault_12 (by decide) ?_
  refine sw_ialdN (pc := 13) C 1 0 rfl rfl (by omega) (by decide) d_Md_fault_13 ?_
  refine sw_topi (z := nI (l0.getD 0 0)) (dcF_get (by omega)) ?_
  refine sw_bipush (pc := 14) C (nI 80) d_Md_fault_14 (by decide) ?_
  refine sw_icmp_neN (pc := 16) C 30 (by omega) (by omega) d_Md_fault_16 (by decide) (fun h2 => ?_) (fun h2 => ?_)
  · skip
    refine sw_iconst (pc := 30) C (nI 1) d_Md_fault_30 (by decide) ?_
    exact sw_iret (pc := 31) C E rfl (Nat.le_of_ble_eq_true rfl) (Nat.le_of_ble_eq_true rfl) d_Md_fault_31 ⟨⟨0, 1, rfl, Or.inl ⟨fun s => h2 s.1, rfl, rfl⟩⟩, rfl⟩
  refine sw_aload_n (pc := 19) C d_Md_fault_19 rfl rfl ?_
  refine sw_get (pc := 20) C inMd 0 rfl rfl 9 (by decide) t_581 rfl rfl d_Md_fault_20 ?_
  refine sw_iconst (pc := 23) C (nI 1) d_Md_fault_23 (by decide) ?_
  refine sw_ialdN (pc := 24) C 1 1 rfl rfl (by omega) (by decide) d_Md_fault_24 ?_
  refine sw_topi (z := nI (l0.getD 1 0)) (dcF_get (by omega)) ?_
  refine sw_bipush (pc := 25) C (nI 71) d_Md_fault_25 (by decide) ?_
  refine sw_icmp_eqN (pc := 27) C 32 (by omega) (by omega) d_Md_fault_27 (by decide) (fun h3 => ?_) (fun h3 => ?_)
  · skip
    have sg : stG l0 := ⟨h2, h3⟩
    have key : ∀ (nn K : Nat), l0.length ≤ hd l0 K + nn → (∀ j, j < K → hd l0 j < l0.length ∧ FL l0 j 0) → hd l0 K ≤ l0.length + 0 → SW X g 3 0 0 ([mdC R dn pl l0.length ss pt th rd wd sc, iaC g (R 8) 1200 (dcF l0 f)]) 34 [some (.ref (R 0)), some (.int (nI (hd l0 K))), none] [] := by
      intro nn
      induction nn with
      | zero =>
        intro K hn hF hK
        refine sw_iload_n (pc := 34) C d_Md_fault_34 rfl rfl ?_
        refine sw_aload_n (pc := 35) C d_Md_fault_35 rfl rfl ?_
        refine sw_get (pc := 36) C inMd 0 rfl rfl 10 (by decide) t_582 rfl rfl d_Md_fault_36 ?_
        refine sw_topi (z := nI l0.length) rfl ?_
        refine sw_icmp_geN (pc := 39) C 67 (by omega) (by omega) d_Md_fault_39 (by decide) (fun hx => ?_) (fun hx => ?_)
        · skip
          refine sw_iconst (pc := 67) C (nI 0) d_Md_fault_67 (by decide) ?_
          exact sw_iret (pc := 68) C E rfl (Nat.le_of_ble_eq_true rfl) (Nat.le_of_ble_eq_true rfl) d_Md_fault_68 ⟨⟨K, 0, rfl, Or.inr ⟨sg, hF, Or.inl ⟨by omega, rfl⟩⟩⟩, rfl⟩
        omega
      | succ nn ih =>
        intro K hn hF hK
        refine sw_iload_n (pc := 34) C d_Md_fault_34 rfl rfl ?_
        refine sw_aload_n (pc := 35) C d_Md_fault_35 rfl rfl ?_
        refine sw_get (pc := 36) C inMd 0 rfl rfl 10 (by decide) t_582 rfl rfl d_Md_fault_36 ?_
        refine sw_topi (z := nI l0.length) rfl ?_
        refine sw_icmp_geN (pc := 39) C 67 (by omega) (by omega) d_Md_fault_39 (by decide) (fun hx => ?_) (fun hx => ?_)
        · skip
          refine sw_iconst (pc := 67) C (nI 0) d_Md_fault_67 (by decide) ?_
          exact sw_iret (pc := 68) C E rfl (Nat.le_of_ble_eq_true rfl) (Nat.le_of_ble_eq_true rfl) d_Md_fault_68 ⟨⟨K, 0, rfl, Or.inr ⟨sg, hF, Or.inl ⟨by omega, rfl⟩⟩⟩, rfl⟩
        obtain ⟨hS, hP, _⟩ := FLs_bd (fun j hj => (hF j hj).2)
        refine sw_aload_n (pc := 42) C d_Md_fault_42 rfl rfl ?_
        refine sw_iload_n (pc := 43) C d_Md_fault_43 rfl rfl ?_
        refine sw_callVR (pc := 44) C (c_Md_chFault l g R dn pl ss pt th rd wd sc l0 f hl K hx hS hP) sv_Md_chunkFault t_784 rfl rfl rfl [0, 1] rfl rfl rfl rfl (Nat.le_of_ble_eq_true rfl) (Nat.le_of_ble_eq_true rfl) (Nat.le_of_ble_eq_true rfl) (Nat.le_of_ble_eq_true rfl) (Nat.le_of_ble_eq_true rfl) d_Md_fault_44 (fun v w1 hp => ?_)
        obtain ⟨⟨v, rfl, hv6, hv⟩, rfl⟩ := hp
        refine ⟨rfl, ?_⟩
        refine sw_istore_n (pc := 47) C d_Md_fault_47 rfl (by decide) rfl ?_
        refine sw_iload_n (pc := 48) C d_Md_fault_48 rfl rfl ?_
        refine sw_if_leN (pc := 49) C 54 (by omega) d_Md_fault_49 (by decide) (fun hy => ?_) (fun hy => ?_)
        · skip
          subst hy
          have hi := FL_in hv
          have hn2 := hd_next l0 K
          refine sw_iload_n (pc := 54) C d_Md_fault_54 rfl rfl ?_
          refine sw_iconst (pc := 55) C (nI 3) d_Md_fault_55 (by decide) ?_
          refine sw_aload_n (pc := 56) C d_Md_fault_56 rfl rfl ?_
          refine sw_iload_n (pc := 57) C d_Md_fault_57 rfl rfl ?_
          refine sw_callVR (pc := 58) C (c_Md_chLen l g R dn pl ss pt th rd wd sc l0 f hl (hd l0 K) (by omega)) sv_Md_chunkLength t_788 rfl rfl rfl [0, 1] rfl rfl rfl rfl (Nat.le_of_ble_eq_true rfl) (Nat.le_of_ble_eq_true rfl) (Nat.le_of_ble_eq_true rfl) (Nat.le_of_ble_eq_true rfl) (Nat.le_of_ble_eq_true rfl) d_Md_fault_58 (fun v w1 hp => ?_)
          obtain ⟨rfl, rfl⟩ := hp
          refine ⟨rfl, ?_⟩
          refine sw_iadd (pc := 61) C d_Md_fault_61 ?_
          refine sw_topi (z := nI (3 + (lenC l0 (hd l0 K)))) (nI_add _ _) ?_
          refine sw_iadd (pc := 62) C d_Md_fault_62 ?_
          refine sw_topi (z := nI ((hd l0 K) + (3 + (lenC l0 (hd l0 K))))) (nI_add _ _) ?_
          refine sw_topi (z := nI (hd l0 (K + 1))) (by rw [hd_next]; congr 1; omega) ?_
          refine sw_istore_n (pc := 63) C d_Md_fault_63 rfl (by decide) rfl ?_
          refine sw_goto (pc := 64) C 34 d_Md_fault_64 (by decide) ?_
          refine sw_drop 2 ?_
          refine ih (K + 1) (by omega) (fun j hj => ?_) (by omega)
          by_cases e : j = K
          · subst e; exact ⟨hx, hv⟩
          · exact hF j (by omega)
        refine sw_iload_n (pc := 52) C d_Md_fault_52 rfl rfl ?_
        exact sw_iret (pc := 53) C E rfl (Nat.le_of_ble_eq_true rfl) (Nat.le_of_ble_eq_true rfl) d_Md_fault_53 ⟨⟨K, v, rfl, Or.inr ⟨sg, hF, Or.inr ⟨hx, hv, by omega⟩⟩⟩, rfl⟩
    refine sw_iconst (pc := 32) C (nI 2) d_Md_fault_32 (by decide) ?_
    refine sw_istore_n (pc := 33) C d_Md_fault_33 rfl (by decide) rfl ?_
    exact key l0.length 0 (by omega) (fun j hj => absurd hj (Nat.not_lt_zero _)) (by show 2 ≤ _; omega)
  refine sw_iconst (pc := 30) C (nI 1) d_Md_fault_30 (by decide) ?_
  exact sw_iret (pc := 31) C E rfl (Nat.le_of_ble_eq_true rfl) (Nat.le_of_ble_eq_true rfl) d_Md_fault_31 ⟨⟨0, 1, rfl, Or.inl ⟨fun s => h3 s.2, rfl, rfl⟩⟩, rfl⟩
