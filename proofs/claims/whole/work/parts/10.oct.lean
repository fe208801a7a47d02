/-! bytes of the document: LayeredPage$Octets; Arrays.fill -/
abbrev rmD (d : Nat) : Room := { frames := d, cells := 0, slots := 0, locals := 49 * d }
abbrev rmA (d c s : Nat) : Room := { frames := d, cells := c, slots := s, locals := 49 * d }
theorem i32_nat {k : Int32} {n : Nat} (h0 : ¬ k < 0) (h1 : ¬ nI n ≤ k) (hn : n < 2 ^ 31) : ∃ j : Nat, j < n ∧ k = nI j := by
  rcases pk_ix k hn with h | h | h
  · exact absurd h h0
  · exact absurd h h1
  · exact h
theorem i32_natle {k : Int32} {n : Nat} (h0 : ¬ k < 0) (h1 : ¬ nI n < k) (hn : n < 2 ^ 31 - 1) : ∃ j : Nat, j ≤ n ∧ k = nI j := by
  obtain ⟨j, hj, rfl⟩ := nI_of h0
  refine ⟨j, ?_, rfl⟩
  exact Nat.not_lt.mp (fun q => h1 ((nI_ltI (by omega) hj).mpr q))
theorem min1200 {n : Nat} (h : n ≤ 1200) : (if nI n < nI 1200 then nI n else nI 1200) = nI n := by
  by_cases e : n < 1200
  · rw [if_pos (nI_lt e (by decide))]
  · have e2 : n = 1200 := by omega
    subst e2
    rw [if_neg (nI_nlt (Nat.le_refl _) (by decide))]
def octAt (l : List Nat) (k : Int32) : Int32 := if 0 ≤ k ∧ k < nI l.length then nI (l.getD k.toNatClampNeg 0) else -1
theorem octAt_in {l : List Nat} {j : Nat} (hj : j < l.length) (hl : l.length ≤ 1200) : octAt l (nI j) = nI (l.getD j 0) := by
  unfold octAt
  rw [if_pos ⟨nI_pos' (by omega), nI_lt hj (by omega)⟩, nI_clamp (by omega)]
theorem octAt_lo {l : List Nat} {k : Int32} (h : k < 0) : octAt l k = -1 := by
  unfold octAt
  rw [if_neg (fun q => Int32.not_lt.mpr q.1 h)]
theorem octAt_hi {l : List Nat} {k : Int32} (h : nI l.length ≤ k) : octAt l k = -1 := by
  unfold octAt
  rw [if_neg (fun q => Int32.not_lt.mpr h q.2)]
def wOct (g : Gl) (a r : Nat) (f : Nat → Int32) (c : Int32) : va_W := [(a, .inr (5, [.ref r, .int c])), (r, .inl (g.2.1, 1200, .inl f))]
set_option maxRecDepth 100000 in
set_option maxHeartbeats 4000000 in
/-- Arrays.fill -/
theorem c_fill (l : Launch) (g : Gl) (r N : Nat) (f : Nat → Int32) (x : Int32) (hN : N < 2 ^ 31) : Ct l g y_Ar_fill b_Ar_fill 4 none (rmD 0) [.ref r, .int x] ([(r, .inl (g.2.1, N, .inl f))]) (fun v w => v = none ∧ w = [(r, .inl (g.2.1, N, .inl (fun _ => x)))]) := by
  refine ct_of [some (.ref r), some (.int x), none, none] (by decide) (Nat.le_of_ble_eq_true rfl) rfl ?_
  intro X C E
  refine sw_iconst (pc := 0) C (nI 0) d_Ar_fill_0 (by decide) ?_
  refine sw_istore_n (pc := 1) C d_Ar_fill_1 rfl (by decide) rfl ?_
  refine sw_aload_n (pc := 2) C d_Ar_fill_2 rfl rfl ?_
  refine sw_alenI (pc := 3) C 0 rfl d_Ar_fill_3 ?_
  refine sw_istore_n (pc := 4) C d_Ar_fill_4 rfl (by decide) rfl ?_
  have key : ∀ (n i : Nat) (f : Nat → Int32), i + n = N → (∀ j, j < i → f j = x) → SW X g 4 0 0 [(r, .inl (g.2.1, N, .inl f))] 5 [some (.ref r), some (.int x), some (.int (nI i)), some (.int (nI N))] [] := by
    intro n
    induction n with
    | zero =>
      intro i f hi hf
      refine sw_iload_n (pc := 5) C d_Ar_fill_5 rfl rfl ?_
      refine sw_iload_n (pc := 6) C d_Ar_fill_6 rfl rfl ?_
      refine sw_icmp_geN (pc := 7) C 20 (by omega) (by omega) d_Ar_fill_7 (by decide) (fun h1 => ?_) (fun h1 => ?_)
      · skip
        refine sw_arr (f' := fun _ => x) 0 rfl (fun j hj => hf j (by omega)) ?_
        exact sw_vret (pc := 20) C E rfl (Nat.le_of_ble_eq_true rfl) (Nat.le_of_ble_eq_true rfl) d_Ar_fill_20 ⟨rfl, rfl⟩
      omega
    | succ n ih =>
      intro i f hi hf
      refine sw_iload_n (pc := 5) C d_Ar_fill_5 rfl rfl ?_
      refine sw_iload_n (pc := 6) C d_Ar_fill_6 rfl rfl ?_
      refine sw_icmp_geN (pc := 7) C 20 (by omega) (by omega) d_Ar_fill_7 (by decide) (fun h1 => ?_) (fun h1 => ?_)
      · skip
        omega
      refine sw_aload_n (pc := 10) C d_Ar_fill_10 rfl rfl ?_
      refine sw_iload_n (pc := 11) C d_Ar_fill_11 rfl rfl ?_
      refine sw_iload_n (pc := 12) C d_Ar_fill_12 rfl rfl ?_
      refine sw_iastN (pc := 13) C 0 i rfl rfl (by omega) hN d_Ar_fill_13 ?_
      refine sw_iincN (pc := 14) C 1 d_Ar_fill_14 rfl (by decide) (by decide) rfl ?_
      refine sw_goto (pc := 17) C 5 d_Ar_fill_17 (by decide) ?_
      refine ih (i + 1) (upd f i x) (by omega) (fun j hj => ?_)
      unfold upd
      by_cases e : j = i
      · rw [if_pos e]
      · rw [if_neg e]; exact hf j (by omega)
  exact key N 0 f (by omega) (fun j hj => by omega)
set_option maxRecDepth 100000 in
set_option maxHeartbeats 4000000 in
/-- Octets.at -/
theorem c_Oct_at (l : Launch) (g : Gl) (a r : Nat) (l0 : List Nat) (hl : l0.length ≤ 1200) (k : Int32) : Ct l g y_Oct_at b_Oct_at 2 (some .int) (rmD 0) [.ref a, .int k] (wOct g a r (rowOf l0) (nI l0.length)) (fun v w => v = some (.int (octAt l0 k)) ∧ w = wOct g a r (rowOf l0) (nI l0.length)) := by
  refine ct_of [some (.ref a), some (.int k)] (by decide) (Nat.le_of_ble_eq_true rfl) rfl ?_
  intro X C E
  refine sw_iload_n (pc := 0) C d_Oct_at_0 rfl rfl ?_
  refine sw_if_lt (pc := 1) C 21 d_Oct_at_1 (by decide) (fun h1 => ?_) (fun h1 => ?_)
  · skip
    refine sw_iconst (pc := 21) C (-1) d_Oct_at_21 (by decide) ?_
    exact sw_iret (pc := 22) C E rfl (Nat.le_of_ble_eq_true rfl) (Nat.le_of_ble_eq_true rfl) d_Oct_at_22 ⟨by rw [octAt_lo h1], rfl⟩
  refine sw_iload_n (pc := 4) C d_Oct_at_4 rfl rfl ?_
  refine sw_aload_n (pc := 5) C d_Oct_at_5 rfl rfl ?_
  refine sw_get (pc := 6) C inOct 0 rfl rfl 1 (by decide) t_32 rfl rfl d_Oct_at_6 ?_
  refine sw_topi (z := nI l0.length) rfl ?_
  refine sw_icmp_ge (pc := 9) C 21 d_Oct_at_9 (by decide) (fun h2 => ?_) (fun h2 => ?_)
  · skip
    refine sw_iconst (pc := 21) C (-1) d_Oct_at_21 (by decide) ?_
    exact sw_iret (pc := 22) C E rfl (Nat.le_of_ble_eq_true rfl) (Nat.le_of_ble_eq_true rfl) d_Oct_at_22 ⟨by rw [octAt_hi h2], rfl⟩
  obtain ⟨j, hj, rfl⟩ := i32_nat h1 h2 (by omega)
  refine sw_aload_n (pc := 12) C d_Oct_at_12 rfl rfl ?_
  refine sw_get (pc := 13) C inOct 0 rfl rfl 0 (by decide) t_29 rfl rfl d_Oct_at_13 ?_
  refine sw_iload_n (pc := 16) C d_Oct_at_16 rfl rfl ?_
  refine sw_ialdN (pc := 17) C 1 j rfl rfl (by omega) (by decide) d_Oct_at_17 ?_
  refine sw_topi (z := nI (l0.getD j 0)) rfl ?_
  refine sw_goto (pc := 18) C 22 d_Oct_at_18 (by decide) ?_
  exact sw_iret (pc := 22) C E rfl (Nat.le_of_ble_eq_true rfl) (Nat.le_of_ble_eq_true rfl) d_Oct_at_22 ⟨by rw [octAt_in hj hl], rfl⟩
def setL (l : List Nat) (k v : Nat) : List Nat := if k < l.length then l.set k v else l ++ [v]
theorem setL_row {l : List Nat} {k v : Nat} (hk : k ≤ l.length) : upd (rowOf l) k (nI v) = rowOf (setL l k v) := by
  unfold setL
  split
  · rename_i h
    exact rowOf_set v h
  · have e : k = l.length := by omega
    subst e
    exact rowOf_app l v
theorem setL_len {l : List Nat} {k v : Nat} (hk : k ≤ l.length) : (setL l k v).length = if l.length < k + 1 then k + 1 else l.length := by
  unfold setL
  split
  · rename_i h
    rw [List.length_set, if_neg (by omega)]
  · rw [List.length_append, if_pos (by omega)]
    simp
    omega
set_option maxRecDepth 100000 in
set_option maxHeartbeats 4000000 in
/-- Octets.set -/
theorem c_Oct_set (l : Launch) (g : Gl) (a r : Nat) (l0 : List Nat) (hl : l0.length ≤ 1200) (k v : Nat) (hk : k ≤ l0.length) (hk2 : k < 1200) : Ct l g y_Oct_set b_Oct_set 3 none (rmD 1) [.ref a, .int (nI k), .int (nI v)] (wOct g a r (rowOf l0) (nI l0.length)) (fun u w => u = none ∧ w = wOct g a r (rowOf (setL l0 k v)) (nI (setL l0 k v).length)) := by
  refine ct_of [some (.ref a), some (.int (nI k)), some (.int (nI v))] (by decide) (Nat.le_of_ble_eq_true rfl) rfl ?_
  intro X C E
  refine sw_iload_n (pc := 0) C d_Oct_set_0 rfl rfl ?_
  refine sw_if_ltN (pc := 1) C (by omega) 40 d_Oct_set_1 (by decide) ?_
  refine sw_iload_n (pc := 4) C d_Oct_set_4 rfl rfl ?_
  refine sw_aload_n (pc := 5) C d_Oct_set_5 rfl rfl ?_
  refine sw_get (pc := 6) C inOct 0 rfl rfl 1 (by decide) t_32 rfl rfl d_Oct_set_6 ?_
  refine sw_topi (z := nI l0.length) rfl ?_
  refine sw_icmp_gtN (pc := 9) C 40 (by omega) (by omega) d_Oct_set_9 (by decide) (fun h2 => ?_) (fun h2 => ?_)
  · skip
    omega
  refine sw_iload_n (pc := 12) C d_Oct_set_12 rfl rfl ?_
  refine sw_sipush (pc := 13) C (nI 1200) d_Oct_set_13 (by decide) ?_
  refine sw_icmp_geN (pc := 16) C 40 (by omega) (by omega) d_Oct_set_16 (by decide) (fun h3 => ?_) (fun h3 => ?_)
  · skip
    omega
  refine sw_aload_n (pc := 19) C d_Oct_set_19 rfl rfl ?_
  refine sw_get (pc := 20) C inOct 0 rfl rfl 0 (by decide) t_29 rfl rfl d_Oct_set_20 ?_
  refine sw_iload_n (pc := 23) C d_Oct_set_23 rfl rfl ?_
  refine sw_iload_n (pc := 24) C d_Oct_set_24 rfl rfl ?_
  refine sw_iastN (pc := 25) C 1 k rfl rfl (by omega) (by decide) d_Oct_set_25 ?_
  refine sw_aload_n (pc := 26) C d_Oct_set_26 rfl rfl ?_
  refine sw_aload_n (pc := 27) C d_Oct_set_27 rfl rfl ?_
  refine sw_get (pc := 28) C inOct 0 rfl rfl 1 (by decide) t_32 rfl rfl d_Oct_set_28 ?_
  refine sw_topi (z := nI l0.length) rfl ?_
  refine sw_iload_n (pc := 31) C d_Oct_set_31 rfl rfl ?_
  refine sw_iconst (pc := 32) C (nI 1) d_Oct_set_32 (by decide) ?_
  refine sw_iadd (pc := 33) C d_Oct_set_33 ?_
  refine sw_topi (z := nI (k + 1)) (nI_add _ _) ?_
  refine sw_mmax (pc := 34) C t_330 t_331 t_13 t_332 (Nat.le_of_ble_eq_true rfl) (Nat.le_of_ble_eq_true rfl) (Nat.le_of_ble_eq_true rfl) (Nat.le_of_ble_eq_true rfl) d_Oct_set_34 ?_
  refine sw_topi (z := nI (setL l0 k v).length) (by rw [setL_len hk]; by_cases e : l0.length < k + 1 <;> simp [e, nI_ltI (show l0.length < 2 ^ 31 by omega) (show k + 1 < 2 ^ 31 by omega)]) ?_
  refine sw_put (pc := 37) C inOct 0 rfl rfl 1 (by decide) tyOct okOct nmOct t_32 rfl rfl (ty := .int) (by decide +kernel) rfl rfl (Nat.le_of_ble_eq_true rfl) d_Oct_set_37 ?_
  refine sw_ws (ws' := wOct g a r (rowOf (setL l0 k v)) (nI (setL l0 k v).length)) (by rw [← setL_row hk]; rfl) ?_
  exact sw_vret (pc := 40) C E rfl (Nat.le_of_ble_eq_true rfl) (Nat.le_of_ble_eq_true rfl) d_Oct_set_40 ⟨rfl, rfl⟩
set_option maxRecDepth 100000 in
set_option maxHeartbeats 4000000 in
/-- Octets.append -/
theorem c_Oct_append (l : Launch) (g : Gl) (a r : Nat) (l0 : List Nat) (hl : l0.length < 1200) (v : Nat) : Ct l g y_Oct_append b_Oct_append 2 none (rmD 2) [.ref a, .int (nI v)] (wOct g a r (rowOf l0) (nI l0.length)) (fun u w => u = none ∧ w = wOct g a r (rowOf (l0 ++ [v])) (nI (l0 ++ [v]).length)) := by
  refine ct_of [some (.ref a), some (.int (nI v))] (by decide) (Nat.le_of_ble_eq_true rfl) rfl ?_
  intro X C E
  refine sw_aload_n (pc := 0) C d_Oct_append_0 rfl rfl ?_
  refine sw_aload_n (pc := 1) C d_Oct_append_1 rfl rfl ?_
  refine sw_get (pc := 2) C inOct 0 rfl rfl 1 (by decide) t_32 rfl rfl d_Oct_append_2 ?_
  refine sw_topi (z := nI l0.length) rfl ?_
  refine sw_iload_n (pc := 5) C d_Oct_append_5 rfl rfl ?_
  refine sw_callVP (pc := 6) C (c_Oct_set l g a r l0 (by omega) l0.length v (Nat.le_refl _) (by omega)) sv_Oct_set t_326 rfl rfl rfl [0, 1] rfl rfl rfl rfl (Nat.le_of_ble_eq_true rfl) (Nat.le_of_ble_eq_true rfl) (Nat.le_of_ble_eq_true rfl) (Nat.le_of_ble_eq_true rfl) (Nat.le_of_ble_eq_true rfl) d_Oct_append_6 (fun v w1 hp => ?_)
  obtain ⟨rfl, rfl⟩ := hp
  refine ⟨rfl, ?_⟩
  have e : setL l0 l0.length v = l0 ++ [v] := by unfold setL; rw [if_neg (by omega)]
  rw [e]
  exact sw_vret (pc := 9) C E rfl (Nat.le_of_ble_eq_true rfl) (Nat.le_of_ble_eq_true rfl) d_Oct_append_9 ⟨rfl, rfl⟩
set_option maxRecDepth 100000 in
set_option maxHeartbeats 4000000 in
/-- Octets.keep -/
theorem c_Oct_keep (l : Launch) (g : Gl) (a r : Nat) (l0 : List Nat) (hl : l0.length ≤ 1200) (n : Nat) (hn : n ≤ l0.length) : Ct l g y_Oct_keep b_Oct_keep 3 none (rmD 0) [.ref a, .int (nI n)] (wOct g a r (rowOf l0) (nI l0.length)) (fun u w => u = none ∧ w = wOct g a r (rowOf (l0.take n)) (nI (l0.take n).length)) := by
  refine ct_of [some (.ref a), some (.int (nI n)), none] (by decide) (Nat.le_of_ble_eq_true rfl) rfl ?_
  intro X C E
  refine sw_iload_n (pc := 0) C d_Oct_keep_0 rfl rfl ?_
  refine sw_if_ltN (pc := 1) C (by omega) 40 d_Oct_keep_1 (by decide) ?_
  refine sw_iload_n (pc := 4) C d_Oct_keep_4 rfl rfl ?_
  refine sw_aload_n (pc := 5) C d_Oct_keep_5 rfl rfl ?_
  refine sw_get (pc := 6) C inOct 0 rfl rfl 1 (by decide) t_32 rfl rfl d_Oct_keep_6 ?_
  refine sw_topi (z := nI l0.length) rfl ?_
  refine sw_icmp_gtN (pc := 9) C 40 (by omega) (by omega) d_Oct_keep_9 (by decide) (fun h2 => ?_) (fun h2 => ?_)
  · skip
    omega
  refine sw_iload_n (pc := 12) C d_Oct_keep_12 rfl rfl ?_
  refine sw_istore_n (pc := 13) C d_Oct_keep_13 rfl (by decide) rfl ?_
  have key : ∀ (d i : Nat) (f : Nat → Int32), i + d = l0.length → n ≤ i → (∀ j, f j = if n ≤ j ∧ j < i then 0 else rowOf l0 j) → SW X g 3 0 0 (wOct g a r f (nI l0.length)) 14 [some (.ref a), some (.int (nI n)), some (.int (nI i))] [] := by
    intro d
    induction d with
    | zero =>
      intro i f hi hni hf
      refine sw_iload_n (pc := 14) C d_Oct_keep_14 rfl rfl ?_
      refine sw_aload_n (pc := 15) C d_Oct_keep_15 rfl rfl ?_
      refine sw_get (pc := 16) C inOct 0 rfl rfl 1 (by decide) t_32 rfl rfl d_Oct_keep_16 ?_
      refine sw_topi (z := nI l0.length) rfl ?_
      refine sw_icmp_geN (pc := 19) C 35 (by omega) (by omega) d_Oct_keep_19 (by decide) (fun h3 => ?_) (fun h3 => ?_)
      · skip
        refine sw_aload_n (pc := 35) C d_Oct_keep_35 rfl rfl ?_
        refine sw_iload_n (pc := 36) C d_Oct_keep_36 rfl rfl ?_
        refine sw_put (pc := 37) C inOct 0 rfl rfl 1 (by decide) tyOct okOct nmOct t_32 rfl rfl (ty := .int) (by decide +kernel) rfl rfl (Nat.le_of_ble_eq_true rfl) d_Oct_keep_37 ?_
        have e : f = rowOf (l0.take n) := by
          funext j
          rw [hf j]
          unfold rowOf
          by_cases h4 : n ≤ j
          · rw [getD_ge (l := l0.take n) (by simp; omega)]
            by_cases h5 : j < i
            · rw [if_pos ⟨h4, h5⟩]; rfl
            · rw [if_neg (fun q => h5 q.2), getD_ge (by omega)]
          · rw [if_neg (fun q => h4 q.1), List.getD_eq_getElem?_getD, List.getD_eq_getElem?_getD, List.getElem?_take, if_pos (by omega)]
        have e2 : (l0.take n).length = n := by simp; omega
        subst e
        exact sw_vret (pc := 40) C E rfl (Nat.le_of_ble_eq_true rfl) (Nat.le_of_ble_eq_true rfl) d_Oct_keep_40 ⟨rfl, by rw [e2]; rfl⟩
      omega
    | succ d ih =>
      intro i f hi hni hf
      refine sw_iload_n (pc := 14) C d_Oct_keep_14 rfl rfl ?_
      refine sw_aload_n (pc := 15) C d_Oct_keep_15 rfl rfl ?_
      refine sw_get (pc := 16) C inOct 0 rfl rfl 1 (by decide) t_32 rfl rfl d_Oct_keep_16 ?_
      refine sw_topi (z := nI l0.length) rfl ?_
      refine sw_icmp_geN (pc := 19) C 35 (by omega) (by omega) d_Oct_keep_19 (by decide) (fun h3 => ?_) (fun h3 => ?_)
      · skip
        omega
      refine sw_aload_n (pc := 22) C d_Oct_keep_22 rfl rfl ?_
      refine sw_get (pc := 23) C inOct 0 rfl rfl 0 (by decide) t_29 rfl rfl d_Oct_keep_23 ?_
      refine sw_iload_n (pc := 26) C d_Oct_keep_26 rfl rfl ?_
      refine sw_iconst (pc := 27) C (nI 0) d_Oct_keep_27 (by decide) ?_
      refine sw_iastN (pc := 28) C 1 i rfl rfl (by omega) (by decide) d_Oct_keep_28 ?_
      refine sw_iincN (pc := 29) C 1 d_Oct_keep_29 rfl (by decide) (by decide) rfl ?_
      refine sw_goto (pc := 32) C 14 d_Oct_keep_32 (by decide) ?_
      refine ih (i + 1) (upd f i (nI 0)) (by omega) (by omega) (fun j => ?_)
      unfold upd
      by_cases e : j = i
      · rw [if_pos e, if_pos (by omega)]; rfl
      · rw [if_neg e, hf j]
        by_cases h5 : n ≤ j ∧ j < i
        · rw [if_pos h5, if_pos (by omega)]
        · rw [if_neg h5, if_neg (by omega)]
  exact key (l0.length - n) n (rowOf l0) (by omega) (Nat.le_refl _) (fun j => by rw [if_neg (by omega)])
set_option maxRecDepth 100000 in
set_option maxHeartbeats 4000000 in
/-- Octets.take -/
theorem c_Oct_take (l : Launch) (g : Gl) (a r : Nat) (f : Nat → Int32) (c n : Nat) (hc : c + n ≤ 1200) : Ct l g y_Oct_take b_Oct_take 2 none (rmD 1) [.ref a, .int (nI n)] (wOct g a r f (nI c)) (fun u w => u = none ∧ w = wOct g a r f (nI (c + n))) := by
  refine ct_of [some (.ref a), some (.int (nI n))] (by decide) (Nat.le_of_ble_eq_true rfl) rfl ?_
  intro X C E
  refine sw_aload_n (pc := 0) C d_Oct_take_0 rfl rfl ?_
  refine sw_sipush (pc := 1) C (nI 1200) d_Oct_take_1 (by decide) ?_
  refine sw_aload_n (pc := 4) C d_Oct_take_4 rfl rfl ?_
  refine sw_get (pc := 5) C inOct 0 rfl rfl 1 (by decide) t_32 rfl rfl d_Oct_take_5 ?_
  refine sw_topi (z := nI c) rfl ?_
  refine sw_iload_n (pc := 8) C d_Oct_take_8 rfl rfl ?_
  refine sw_iadd (pc := 9) C d_Oct_take_9 ?_
  refine sw_topi (z := nI (c + n)) (nI_add _ _) ?_
  refine sw_mmin (pc := 10) C t_405 t_406 t_13 t_407 (Nat.le_of_ble_eq_true rfl) (Nat.le_of_ble_eq_true rfl) (Nat.le_of_ble_eq_true rfl) (Nat.le_of_ble_eq_true rfl) d_Oct_take_10 ?_
  refine sw_topi (z := nI (c + n)) (min1200 hc) ?_
  refine sw_put (pc := 13) C inOct 0 rfl rfl 1 (by decide) tyOct okOct nmOct t_32 rfl rfl (ty := .int) (by decide +kernel) rfl rfl (Nat.le_of_ble_eq_true rfl) d_Oct_take_13 ?_
  exact sw_vret (pc := 16) C E rfl (Nat.le_of_ble_eq_true rfl) (Nat.le_of_ble_eq_true rfl) d_Oct_take_16 ⟨rfl, rfl⟩
set_option maxRecDepth 100000 in
set_option maxHeartbeats 4000000 in
/-- Octets.openChunk -/
theorem c_Oct_open (l : Launch) (g : Gl) (a r : Nat) (l0 : List Nat) (hl : l0.length + 3 ≤ 1200) (v : Nat) : Ct l g y_Oct_openChunk b_Oct_openChunk 2 (some .int) (rmD 3) [.ref a, .int (nI v)] (wOct g a r (rowOf l0) (nI l0.length)) (fun u w => u = some (.int (nI (l0.length + 3))) ∧ w = wOct g a r (rowOf (l0 ++ [v, 0, 0])) (nI (l0 ++ [v, 0, 0]).length)) := by
  refine ct_of [some (.ref a), some (.int (nI v))] (by decide) (Nat.le_of_ble_eq_true rfl) rfl ?_
  intro X C E
  refine sw_aload_n (pc := 0) C d_Oct_openChunk_0 rfl rfl ?_
  refine sw_iload_n (pc := 1) C d_Oct_openChunk_1 rfl rfl ?_
  refine sw_callVP (pc := 2) C (c_Oct_append l g a r l0 (by omega) v) sv_Oct_append t_341 rfl rfl rfl [0, 1] rfl rfl rfl rfl (Nat.le_of_ble_eq_true rfl) (Nat.le_of_ble_eq_true rfl) (Nat.le_of_ble_eq_true rfl) (Nat.le_of_ble_eq_true rfl) (Nat.le_of_ble_eq_true rfl) d_Oct_openChunk_2 (fun v w1 hp => ?_)
  obtain ⟨rfl, rfl⟩ := hp
  refine ⟨rfl, ?_⟩
  refine sw_ws (ws' := wOct g a r (rowOf (l0 ++ [v])) (nI (l0 ++ [v]).length)) rfl ?_
  refine sw_aload_n (pc := 5) C d_Oct_openChunk_5 rfl rfl ?_
  refine sw_iconst (pc := 6) C (nI 0) d_Oct_openChunk_6 (by decide) ?_
  refine sw_callVP (pc := 7) C (c_Oct_append l g a r (l0 ++ [v]) (by simp; omega) 0) sv_Oct_append t_341 rfl rfl rfl [0, 1] rfl rfl rfl rfl (Nat.le_of_ble_eq_true rfl) (Nat.le_of_ble_eq_true rfl) (Nat.le_of_ble_eq_true rfl) (Nat.le_of_ble_eq_true rfl) (Nat.le_of_ble_eq_true rfl) d_Oct_openChunk_7 (fun v w1 hp => ?_)
  obtain ⟨rfl, rfl⟩ := hp
  refine ⟨rfl, ?_⟩
  refine sw_ws (ws' := wOct g a r (rowOf (l0 ++ [v] ++ [0])) (nI (l0 ++ [v] ++ [0]).length)) rfl ?_
  refine sw_aload_n (pc := 10) C d_Oct_openChunk_10 rfl rfl ?_
  refine sw_iconst (pc := 11) C (nI 0) d_Oct_openChunk_11 (by decide) ?_
  refine sw_callVP (pc := 12) C (c_Oct_append l g a r (l0 ++ [v] ++ [0]) (by simp; omega) 0) sv_Oct_append t_341 rfl rfl rfl [0, 1] rfl rfl rfl rfl (Nat.le_of_ble_eq_true rfl) (Nat.le_of_ble_eq_true rfl) (Nat.le_of_ble_eq_true rfl) (Nat.le_of_ble_eq_true rfl) (Nat.le_of_ble_eq_true rfl) d_Oct_openChunk_12 (fun v w1 hp => ?_)
  obtain ⟨rfl, rfl⟩ := hp
  refine ⟨rfl, ?_⟩
  refine sw_ws (ws' := wOct g a r (rowOf (l0 ++ [v] ++ [0] ++ [0])) (nI (l0 ++ [v] ++ [0] ++ [0]).length)) rfl ?_
  have e : l0 ++ [v] ++ [0] ++ [0] = l0 ++ [v, 0, 0] := by simp
  rw [e]
  refine sw_aload_n (pc := 15) C d_Oct_openChunk_15 rfl rfl ?_
  refine sw_get (pc := 16) C inOct 0 rfl rfl 1 (by decide) t_32 rfl rfl d_Oct_openChunk_16 ?_
  refine sw_topi (z := nI ((l0 ++ [v, 0, 0]).length)) rfl ?_
  refine sw_topi (z := nI (l0.length + 3)) (by simp) ?_
  exact sw_iret (pc := 19) C E rfl (Nat.le_of_ble_eq_true rfl) (Nat.le_of_ble_eq_true rfl) d_Oct_openChunk_19 ⟨rfl, rfl⟩
def clsL (l : List Nat) (p : Nat) : List Nat := (l.set (p - 2) ((l.length - p) / 256)).set (p - 1) ((l.length - p) % 256)
set_option maxRecDepth 100000 in
set_option maxHeartbeats 4000000 in
/-- Octets.closeChunk -/
theorem c_Oct_close (l : Launch) (g : Gl) (a r : Nat) (l0 : List Nat) (hl : l0.length ≤ 1200) (p : Nat) (h2 : 2 ≤ p) (hp : p ≤ l0.length) : Ct l g y_Oct_closeChunk b_Oct_closeChunk 3 none (rmD 2) [.ref a, .int (nI p)] (wOct g a r (rowOf l0) (nI l0.length)) (fun u w => u = none ∧ w = wOct g a r (rowOf (clsL l0 p)) (nI (clsL l0 p).length)) := by
  refine ct_of [some (.ref a), some (.int (nI p)), none] (by decide) (Nat.le_of_ble_eq_true rfl) rfl ?_
  intro X C E
  refine sw_aload_n (pc := 0) C d_Oct_closeChunk_0 rfl rfl ?_
  refine sw_get (pc := 1) C inOct 0 rfl rfl 1 (by decide) t_32 rfl rfl d_Oct_closeChunk_1 ?_
  refine sw_topi (z := nI l0.length) rfl ?_
  refine sw_iload_n (pc := 4) C d_Oct_closeChunk_4 rfl rfl ?_
  refine sw_isub (pc := 5) C d_Oct_closeChunk_5 ?_
  refine sw_topi (z := nI (l0.length - p)) (pk_sub (by omega)) ?_
  refine sw_istore_n (pc := 6) C d_Oct_closeChunk_6 rfl (by decide) rfl ?_
  refine sw_aload_n (pc := 7) C d_Oct_closeChunk_7 rfl rfl ?_
  refine sw_iload_n (pc := 8) C d_Oct_closeChunk_8 rfl rfl ?_
  refine sw_iconst (pc := 9) C (nI 2) d_Oct_closeChunk_9 (by decide) ?_
  refine sw_isub (pc := 10) C d_Oct_closeChunk_10 ?_
  refine sw_topi (z := nI (p - 2)) (pk_sub (by omega)) ?_
  refine sw_iload_n (pc := 11) C d_Oct_closeChunk_11 rfl rfl ?_
  refine sw_sipush (pc := 12) C (nI 256) d_Oct_closeChunk_12 (by decide) ?_
  refine sw_idiv (pc := 15) C d_Oct_closeChunk_15 (by decide) ?_
  refine sw_topi (z := nI ((l0.length - p) / 256)) (pk_div (by omega) (by omega) (by omega)) ?_
  have e1 : setL l0 (p - 2) ((l0.length - p) / 256) = l0.set (p - 2) ((l0.length - p) / 256) := by unfold setL; rw [if_pos (by omega)]
  refine sw_callVP (pc := 16) C (c_Oct_set l g a r l0 hl (p - 2) ((l0.length - p) / 256) (by omega) (by omega)) sv_Oct_set t_326 rfl rfl rfl [0, 1] rfl rfl rfl rfl (Nat.le_of_ble_eq_true rfl) (Nat.le_of_ble_eq_true rfl) (Nat.le_of_ble_eq_true rfl) (Nat.le_of_ble_eq_true rfl) (Nat.le_of_ble_eq_true rfl) d_Oct_closeChunk_16 (fun v w1 hp => ?_)
  obtain ⟨rfl, rfl⟩ := hp
  refine ⟨rfl, ?_⟩
  rw [e1]
  refine sw_ws (ws' := wOct g a r (rowOf (l0.set (p - 2) ((l0.length - p) / 256))) (nI (l0.set (p - 2) ((l0.length - p) / 256)).length)) rfl ?_
  refine sw_aload_n (pc := 19) C d_Oct_closeChunk_19 rfl rfl ?_
  refine sw_iload_n (pc := 20) C d_Oct_closeChunk_20 rfl rfl ?_
  refine sw_iconst (pc := 21) C (nI 1) d_Oct_closeChunk_21 (by decide) ?_
  refine sw_isub (pc := 22) C d_Oct_closeChunk_22 ?_
  refine sw_topi (z := nI (p - 1)) (pk_sub (by omega)) ?_
  refine sw_iload_n (pc := 23) C d_Oct_closeChunk_23 rfl rfl ?_
  refine sw_sipush (pc := 24) C (nI 256) d_Oct_closeChunk_24 (by decide) ?_
  refine sw_irem (pc := 27) C d_Oct_closeChunk_27 (by decide) ?_
  refine sw_topi (z := nI ((l0.length - p) % 256)) (pk_rem (by omega) (by omega) (by omega)) ?_
  have e2 : setL (l0.set (p - 2) ((l0.length - p) / 256)) (p - 1) ((l0.length - p) % 256) = clsL l0 p := by unfold setL clsL; rw [if_pos (by simp; omega)]
  refine sw_callVP (pc := 28) C (c_Oct_set l g a r (l0.set (p - 2) ((l0.length - p) / 256)) (by simp; omega) (p - 1) ((l0.length - p) % 256) (by simp; omega) (by omega)) sv_Oct_set t_326 rfl rfl rfl [0, 1] rfl rfl rfl rfl (Nat.le_of_ble_eq_true rfl) (Nat.le_of_ble_eq_true rfl) (Nat.le_of_ble_eq_true rfl) (Nat.le_of_ble_eq_true rfl) (Nat.le_of_ble_eq_true rfl) d_Oct_closeChunk_28 (fun v w1 hp => ?_)
  obtain ⟨rfl, rfl⟩ := hp
  refine ⟨rfl, ?_⟩
  rw [e2]
  exact sw_vret (pc := 31) C E rfl (Nat.le_of_ble_eq_true rfl) (Nat.le_of_ble_eq_true rfl) d_Oct_closeChunk_31 ⟨rfl, rfl⟩
