/-! the coders -/
def nF (f : Nat → Nat) : Nat → Int32 := fun k => nI (f k)
theorem nF_up (Z : Nat → Nat) (c x : Nat) : upd (nF Z) c (nI x) = nF (upN Z c x) := by
  funext k
  unfold upd nF upN
  split <;> rfl
theorem nF_at (Z : Nat → Nat) (c x : Nat) : nF (upN Z c x) c = nI x := by
  unfold nF upN
  rw [if_pos rfl]
theorem nF_re (Z : Nat → Nat) (c x y : Nat) : upd (nF (upN Z c x)) c (nI y) = nF (upN Z c y) := by
  funext k
  unfold upd nF upN
  split <;> rfl
theorem nF_self (Z : Nat → Nat) (c : Nat) : nF (upN Z c (Z c)) = nF Z := by
  funext k
  unfold nF upN
  split
  · rename_i h; rw [h]
  · rfl
/-- coder, counts: the writer's world with the row of the document l behind which the code stands -/
def wKw (g : Gl) (a z o r : Nat) (l : List Nat) (S : CS × Nat) : va_W := [(a, .inr (1, [.ref r, .int (nI l.length), .int (nI S.1.2.2.2), .ref z, .ref o, .int (nI S.1.2.2.1)])), (z, .inl (g.2.1, 48, .inl (nF S.1.1))), (o, .inl (g.2.1, 48, .inl (nF S.1.2.1))), (r, .inl (g.2.1, 1200, .inl (rowW l S.2 S.1.2.2.2)))]
/-- the digits of the bytes from fr to en -/
def dgt (l : List Nat) (fr en : Nat) : Nat → Nat := fun i => if i < 8 * (en - fr) then l.getD (fr + i / 8) 0 / 2 ^ (7 - i % 8) % 2 else 0
theorem dgt_le (l : List Nat) (fr en i : Nat) : dgt l fr en i ≤ 1 := by
  unfold dgt
  split <;> omega
def rdP (fr en p : Nat) : Nat := if p < 8 * (en - fr) then p else 8 * (en - fr)
theorem rdP_le (fr en p : Nat) : rdP fr en p ≤ 8 * (en - fr) := by
  unfold rdP
  split <;> omega
def wKq (g : Gl) (a z o r : Nat) (l : List Nat) (fr en p : Nat) (Z O : Nat → Nat) (W v : Nat) : va_W := [(a, .inr (0, [.ref r, .int (nI (fr + rdP fr en p / 8)), .int (nI en), .int (nI (rdP fr en p % 8)), .int (nI v), .ref z, .ref o, .int (nI W)])), (z, .inl (g.2.1, 48, .inl (nF Z))), (o, .inl (g.2.1, 48, .inl (nF O))), (r, .inl (g.2.1, 1200, .inl (rowOf l)))]
def wKr (g : Gl) (a z o r : Nat) (l : List Nat) (fr en : Nat) (S : CS × Nat) : va_W := wKq g a z o r l fr en (16 + S.1.2.2.2) S.1.1 S.1.2.1 S.1.2.2.1 S.2
set_option maxRecDepth 100000 in
set_option maxHeartbeats 4000000 in
theorem c_tally_w (l : Launch) (g : Gl) (a z o : Nat) (f0 f1 f2 : Value) (wd : Value) (Z O : Nat → Nat) (c b : Nat) (hc : c < 48) (hZ : Z c ≤ 31) (hO : O c ≤ 31) (hb : b ≤ 1) : Ct l g y_Cd_tally b_Cd_tally 3 none (rmD 0) [.ref a, .int (nI c), .int (nI b)] ([(a, .inr (1, [f0, f1, f2, .ref z, .ref o, wd])), (z, .inl (g.2.1, 48, .inl (nF Z))), (o, .inl (g.2.1, 48, .inl (nF O)))]) (fun v w => v = none ∧ w = [(a, .inr (1, [f0, f1, f2, .ref z, .ref o, wd])), (z, .inl (g.2.1, 48, .inl (nF (upN Z c (if b = 0 then csHalf (Z c + 1) (O c) else csHalf (Z c) (O c + 1)).1)))), (o, .inl (g.2.1, 48, .inl (nF (upN O c (if b = 0 then csHalf (Z c + 1) (O c) else csHalf (Z c) (O c + 1)).2))))]) := by
  refine ct_of [some (.ref a), some (.int (nI c)), some (.int (nI b))] (by decide) (Nat.le_of_ble_eq_true rfl) rfl ?_
  intro X C E
  have tail : ∀ P Q : Nat, P ≤ 32 → Q ≤ 32 → csHalf P Q = (if b = 0 then csHalf (Z c + 1) (O c) else csHalf (Z c) (O c + 1)) → SW X g 3 0 0 ([(a, .inr (1, [f0, f1, f2, .ref z, .ref o, wd])), (z, .inl (g.2.1, 48, .inl (nF (upN Z c P)))), (o, .inl (g.2.1, 48, .inl (nF (upN O c Q))))]) 27 [some (.ref a), some (.int (nI c)), some (.int (nI b))] [] := by
    intro P Q hP hQ hPQ
    refine sw_aload_n (pc := 27) C d_Cd_tally_27 rfl rfl ?_
    refine sw_get (pc := 28) C inCw 0 rfl rfl 3 (by decide) t_70 rfl rfl d_Cd_tally_28 ?_
    refine sw_iload_n (pc := 31) C d_Cd_tally_31 rfl rfl ?_
    refine sw_ialdN (pc := 32) C 1 c rfl rfl (by omega) (by decide) d_Cd_tally_32 ?_
    refine sw_topi (z := nI P) (nF_at _ _ _) ?_
    refine sw_aload_n (pc := 33) C d_Cd_tally_33 rfl rfl ?_
    refine sw_get (pc := 34) C inCw 0 rfl rfl 4 (by decide) t_71 rfl rfl d_Cd_tally_34 ?_
    refine sw_iload_n (pc := 37) C d_Cd_tally_37 rfl rfl ?_
    refine sw_ialdN (pc := 38) C 2 c rfl rfl (by omega) (by decide) d_Cd_tally_38 ?_
    refine sw_topi (z := nI Q) (nF_at _ _ _) ?_
    refine sw_iadd (pc := 39) C d_Cd_tally_39 ?_
    refine sw_topi (z := nI (P + Q)) (nI_add _ _) ?_
    refine sw_bipush (pc := 40) C (nI 32) d_Cd_tally_40 (by decide) ?_
    refine sw_icmp_neN (pc := 42) C 77 (by omega) (by omega) d_Cd_tally_42 (by decide) (fun h1 => ?_) (fun h1 => ?_)
    · skip
      have e : csHalf P Q = (P, Q) := by unfold csHalf; rw [if_neg h1]
      exact sw_vret (pc := 77) C E rfl (Nat.le_of_ble_eq_true rfl) (Nat.le_of_ble_eq_true rfl) d_Cd_tally_77 ⟨rfl, by rw [← hPQ, e]⟩
    refine sw_aload_n (pc := 45) C d_Cd_tally_45 rfl rfl ?_
    refine sw_get (pc := 46) C inCw 0 rfl rfl 3 (by decide) t_70 rfl rfl d_Cd_tally_46 ?_
    refine sw_iload_n (pc := 49) C d_Cd_tally_49 rfl rfl ?_
    refine sw_aload_n (pc := 50) C d_Cd_tally_50 rfl rfl ?_
    refine sw_get (pc := 51) C inCw 0 rfl rfl 3 (by decide) t_70 rfl rfl d_Cd_tally_51 ?_
    refine sw_iload_n (pc := 54) C d_Cd_tally_54 rfl rfl ?_
    refine sw_ialdN (pc := 55) C 1 c rfl rfl (by omega) (by decide) d_Cd_tally_55 ?_
    refine sw_topi (z := nI P) (nF_at _ _ _) ?_
    refine sw_iconst (pc := 56) C (nI 1) d_Cd_tally_56 (by decide) ?_
    refine sw_iadd (pc := 57) C d_Cd_tally_57 ?_
    refine sw_topi (z := nI (P + 1)) (nI_add _ _) ?_
    refine sw_iconst (pc := 58) C (nI 2) d_Cd_tally_58 (by decide) ?_
    refine sw_idiv (pc := 59) C d_Cd_tally_59 (by decide) ?_
    refine sw_topi (z := nI ((P + 1) / 2)) (pk_div (by omega) (by omega) (by omega)) ?_
    refine sw_iastN (pc := 60) C 1 c rfl rfl (by omega) (by decide) d_Cd_tally_60 ?_
    refine sw_ws (ws' := [(a, .inr (1, [f0, f1, f2, .ref z, .ref o, wd])), (z, .inl (g.2.1, 48, .inl (nF (upN Z c ((P + 1) / 2))))), (o, .inl (g.2.1, 48, .inl (nF (upN O c Q))))]) (by rw [← nF_re Z c P ((P + 1) / 2)]; rfl) ?_
    refine sw_aload_n (pc := 61) C d_Cd_tally_61 rfl rfl ?_
    refine sw_get (pc := 62) C inCw 0 rfl rfl 4 (by decide) t_71 rfl rfl d_Cd_tally_62 ?_
    refine sw_iload_n (pc := 65) C d_Cd_tally_65 rfl rfl ?_
    refine sw_aload_n (pc := 66) C d_Cd_tally_66 rfl rfl ?_
    refine sw_get (pc := 67) C inCw 0 rfl rfl 4 (by decide) t_71 rfl rfl d_Cd_tally_67 ?_
    refine sw_iload_n (pc := 70) C d_Cd_tally_70 rfl rfl ?_
    refine sw_ialdN (pc := 71) C 2 c rfl rfl (by omega) (by decide) d_Cd_tally_71 ?_
    refine sw_topi (z := nI Q) (nF_at _ _ _) ?_
    refine sw_iconst (pc := 72) C (nI 1) d_Cd_tally_72 (by decide) ?_
    refine sw_iadd (pc := 73) C d_Cd_tally_73 ?_
    refine sw_topi (z := nI (Q + 1)) (nI_add _ _) ?_
    refine sw_iconst (pc := 74) C (nI 2) d_Cd_tally_74 (by decide) ?_
    refine sw_idiv (pc := 75) C d_Cd_tally_75 (by decide) ?_
    refine sw_topi (z := nI ((Q + 1) / 2)) (pk_div (by omega) (by omega) (by omega)) ?_
    refine sw_iastN (pc := 76) C 2 c rfl rfl (by omega) (by decide) d_Cd_tally_76 ?_
    refine sw_ws (ws' := [(a, .inr (1, [f0, f1, f2, .ref z, .ref o, wd])), (z, .inl (g.2.1, 48, .inl (nF (upN Z c ((P + 1) / 2))))), (o, .inl (g.2.1, 48, .inl (nF (upN O c ((Q + 1) / 2)))))]) (by rw [← nF_re O c Q ((Q + 1) / 2)]; rfl) ?_
    have e : csHalf P Q = ((P + 1) / 2, (Q + 1) / 2) := by unfold csHalf; rw [if_pos h1]
    exact sw_vret (pc := 77) C E rfl (Nat.le_of_ble_eq_true rfl) (Nat.le_of_ble_eq_true rfl) d_Cd_tally_77 ⟨rfl, by rw [← hPQ, e]⟩
  refine sw_iload_n (pc := 0) C d_Cd_tally_0 rfl rfl ?_
  refine sw_if_neN (pc := 1) C 17 (by omega) d_Cd_tally_1 (by decide) (fun h0 => ?_) (fun h0 => ?_)
  · skip
    refine sw_aload_n (pc := 17) C d_Cd_tally_17 rfl rfl ?_
    refine sw_get (pc := 18) C inCw 0 rfl rfl 4 (by decide) t_71 rfl rfl d_Cd_tally_18 ?_
    refine sw_iload_n (pc := 21) C d_Cd_tally_21 rfl rfl ?_
    refine sw_dup2 (pc := 22) C d_Cd_tally_22 rfl rfl ?_
    refine sw_ialdN (pc := 23) C 2 c rfl rfl (by omega) (by decide) d_Cd_tally_23 ?_
    refine sw_topi (z := nI (O c)) rfl ?_
    refine sw_iconst (pc := 24) C (nI 1) d_Cd_tally_24 (by decide) ?_
    refine sw_iadd (pc := 25) C d_Cd_tally_25 ?_
    refine sw_topi (z := nI ((O c) + 1)) (nI_add _ _) ?_
    refine sw_iastN (pc := 26) C 2 c rfl rfl (by omega) (by decide) d_Cd_tally_26 ?_
    refine sw_ws (ws' := [(a, .inr (1, [f0, f1, f2, .ref z, .ref o, wd])), (z, .inl (g.2.1, 48, .inl (nF (upN Z c (Z c))))), (o, .inl (g.2.1, 48, .inl (nF (upN O c (O c + 1)))))]) (by rw [nF_self, ← nF_up]; rfl) ?_
    exact tail (Z c) (O c + 1) (by omega) (by omega) (by rw [if_neg (by omega)])
  refine sw_aload_n (pc := 4) C d_Cd_tally_4 rfl rfl ?_
  refine sw_get (pc := 5) C inCw 0 rfl rfl 3 (by decide) t_70 rfl rfl d_Cd_tally_5 ?_
  refine sw_iload_n (pc := 8) C d_Cd_tally_8 rfl rfl ?_
  refine sw_dup2 (pc := 9) C d_Cd_tally_9 rfl rfl ?_
  refine sw_ialdN (pc := 10) C 1 c rfl rfl (by omega) (by decide) d_Cd_tally_10 ?_
  refine sw_topi (z := nI (Z c)) rfl ?_
  refine sw_iconst (pc := 11) C (nI 1) d_Cd_tally_11 (by decide) ?_
  refine sw_iadd (pc := 12) C d_Cd_tally_12 ?_
  refine sw_topi (z := nI ((Z c) + 1)) (nI_add _ _) ?_
  refine sw_iastN (pc := 13) C 1 c rfl rfl (by omega) (by decide) d_Cd_tally_13 ?_
  refine sw_goto (pc := 14) C 27 d_Cd_tally_14 (by decide) ?_
  refine sw_ws (ws' := [(a, .inr (1, [f0, f1, f2, .ref z, .ref o, wd])), (z, .inl (g.2.1, 48, .inl (nF (upN Z c (Z c + 1))))), (o, .inl (g.2.1, 48, .inl (nF (upN O c (O c)))))]) (by rw [nF_self, ← nF_up]; rfl) ?_
  exact tail (Z c + 1) (O c) (by omega) (by omega) (by rw [if_pos h0])
set_option maxRecDepth 100000 in
set_option maxHeartbeats 4000000 in
theorem c_tally_r (l : Launch) (g : Gl) (a z o : Nat) (f0 f1 f2 f3 f4 : Value) (wd : Value) (Z O : Nat → Nat) (c b : Nat) (hc : c < 48) (hZ : Z c ≤ 31) (hO : O c ≤ 31) (hb : b ≤ 1) : Ct l g y_Cd_tally b_Cd_tally 3 none (rmD 0) [.ref a, .int (nI c), .int (nI b)] ([(a, .inr (0, [f0, f1, f2, f3, f4, .ref z, .ref o, wd])), (z, .inl (g.2.1, 48, .inl (nF Z))), (o, .inl (g.2.1, 48, .inl (nF O)))]) (fun v w => v = none ∧ w = [(a, .inr (0, [f0, f1, f2, f3, f4, .ref z, .ref o, wd])), (z, .inl (g.2.1, 48, .inl (nF (upN Z c (if b = 0 then csHalf (Z c + 1) (O c) else csHalf (Z c) (O c + 1)).1)))), (o, .inl (g.2.1, 48, .inl (nF (upN O c (if b = 0 then csHalf (Z c + 1) (O c) else csHalf (Z c) (O c + 1)).2))))]) := by
  refine ct_of [some (.ref a), some (.int (nI c)), some (.int (nI b))] (by decide) (Nat.le_of_ble_eq_true rfl) rfl ?_
  intro X C E
  have tail : ∀ P Q : Nat, P ≤ 32 → Q ≤ 32 → csHalf P Q = (if b = 0 then csHalf (Z c + 1) (O c) else csHalf (Z c) (O c + 1)) → SW X g 3 0 0 ([(a, .inr (0, [f0, f1, f2, f3, f4, .ref z, .ref o, wd])), (z, .inl (g.2.1, 48, .inl (nF (upN Z c P)))), (o, .inl (g.2.1, 48, .inl (nF (upN O c Q))))]) 27 [some (.ref a), some (.int (nI c)), some (.int (nI b))] [] := by
    intro P Q hP hQ hPQ
    refine sw_aload_n (pc := 27) C d_Cd_tally_27 rfl rfl ?_
    refine sw_get (pc := 28) C inCr 0 rfl rfl 5 (by decide) t_70 rfl rfl d_Cd_tally_28 ?_
    refine sw_iload_n (pc := 31) C d_Cd_tally_31 rfl rfl ?_
    refine sw_ialdN (pc := 32) C 1 c rfl rfl (by omega) (by decide) d_Cd_tally_32 ?_
    refine sw_topi (z := nI P) (nF_at _ _ _) ?_
    refine sw_aload_n (pc := 33) C d_Cd_tally_33 rfl rfl ?_
    refine sw_get (pc := 34) C inCr 0 rfl rfl 6 (by decide) t_71 rfl rfl d_Cd_tally_34 ?_
    refine sw_iload_n (pc := 37) C d_Cd_tally_37 rfl rfl ?_
    refine sw_ialdN (pc := 38) C 2 c rfl rfl (by omega) (by decide) d_Cd_tally_38 ?_
    refine sw_topi (z := nI Q) (nF_at _ _ _) ?_
    refine sw_iadd (pc := 39) C d_Cd_tally_39 ?_
    refine sw_topi (z := nI (P + Q)) (nI_add _ _) ?_
    refine sw_bipush (pc := 40) C (nI 32) d_Cd_tally_40 (by decide) ?_
    refine sw_icmp_neN (pc := 42) C 77 (by omega) (by omega) d_Cd_tally_42 (by decide) (fun h1 => ?_) (fun h1 => ?_)
    · skip
      have e : csHalf P Q = (P, Q) := by unfold csHalf; rw [if_neg h1]
      exact sw_vret (pc := 77) C E rfl (Nat.le_of_ble_eq_true rfl) (Nat.le_of_ble_eq_true rfl) d_Cd_tally_77 ⟨rfl, by rw [← hPQ, e]⟩
    refine sw_aload_n (pc := 45) C d_Cd_tally_45 rfl rfl ?_
    refine sw_get (pc := 46) C inCr 0 rfl rfl 5 (by decide) t_70 rfl rfl d_Cd_tally_46 ?_
    refine sw_iload_n (pc := 49) C d_Cd_tally_49 rfl rfl ?_
    refine sw_aload_n (pc := 50) C d_Cd_tally_50 rfl rfl ?_
    refine sw_get (pc := 51) C inCr 0 rfl rfl 5 (by decide) t_70 rfl rfl d_Cd_tally_51 ?_
    refine sw_iload_n (pc := 54) C d_Cd_tally_54 rfl rfl ?_
    refine sw_ialdN (pc := 55) C 1 c rfl rfl (by omega) (by decide) d_Cd_tally_55 ?_
    refine sw_topi (z := nI P) (nF_at _ _ _) ?_
    refine sw_iconst (pc := 56) C (nI 1) d_Cd_tally_56 (by decide) ?_
    refine sw_iadd (pc := 57) C d_Cd_tally_57 ?_
    refine sw_topi (z := nI (P + 1)) (nI_add _ _) ?_
    refine sw_iconst (pc := 58) C (nI 2) d_Cd_tally_58 (by decide) ?_
    refine sw_idiv (pc := 59) C d_Cd_tally_59 (by decide) ?_
    refine sw_topi (z := nI ((P + 1) / 2)) (pk_div (by omega) (by omega) (by omega)) ?_
    refine sw_iastN (pc := 60) C 1 c rfl rfl (by omega) (by decide) d_Cd_tally_60 ?_
    refine sw_ws (ws' := [(a, .inr (0, [f0, f1, f2, f3, f4, .ref z, .ref o, wd])), (z, .inl (g.2.1, 48, .inl (nF (upN Z c ((P + 1) / 2))))), (o, .inl (g.2.1, 48, .inl (nF (upN O c Q))))]) (by rw [← nF_re Z c P ((P + 1) / 2)]; rfl) ?_
    refine sw_aload_n (pc := 61) C d_Cd_tally_61 rfl rfl ?_
    refine sw_get (pc := 62) C inCr 0 rfl rfl 6 (by decide) t_71 rfl rfl d_Cd_tally_62 ?_
    refine sw_iload_n (pc := 65) C d_Cd_tally_65 rfl rfl ?_
    refine sw_aload_n (pc := 66) C d_Cd_tally_66 rfl rfl ?_
    refine sw_get (pc := 67) C inCr 0 rfl rfl 6 (by decide) t_71 rfl rfl d_Cd_tally_67 ?_
    refine sw_iload_n (pc := 70) C d_Cd_tally_70 rfl rfl ?_
    refine sw_ialdN (pc := 71) C 2 c rfl rfl (by omega) (by decide) d_Cd_tally_71 ?_
    refine sw_topi (z := nI Q) (nF_at _ _ _) ?_
    refine sw_iconst (pc := 72) C (nI 1) d_Cd_tally_72 (by decide) ?_
    refine sw_iadd (pc := 73) C d_Cd_tally_73 ?_
    refine sw_topi (z := nI (Q + 1)) (nI_add _ _) ?_
    refine sw_iconst (pc := 74) C (nI 2) d_Cd_tally_74 (by decide) ?_
    refine sw_idiv (pc := 75) C d_Cd_tally_75 (by decide) ?_
    refine sw_topi (z := nI ((Q + 1) / 2)) (pk_div (by omega) (by omega) (by omega)) ?_
    refine sw_iastN (pc := 76) C 2 c rfl rfl (by omega) (by decide) d_Cd_tally_76 ?_
    refine sw_ws (ws' := [(a, .inr (0, [f0, f1, f2, f3, f4, .ref z, .ref o, wd])), (z, .inl (g.2.1, 48, .inl (nF (upN Z c ((P + 1) / 2))))), (o, .inl (g.2.1, 48, .inl (nF (upN O c ((Q + 1) / 2)))))]) (by rw [← nF_re O c Q ((Q + 1) / 2)]; rfl) ?_
    have e : csHalf P Q = ((P + 1) / 2, (Q + 1) / 2) := by unfold csHalf; rw [if_pos h1]
    exact sw_vret (pc := 77) C E rfl (Nat.le_of_ble_eq_true rfl) (Nat.le_of_ble_eq_true rfl) d_Cd_tally_77 ⟨rfl, by rw [← hPQ, e]⟩
  refine sw_iload_n (pc := 0) C d_Cd_tally_0 rfl rfl ?_
  refine sw_if_neN (pc := 1) C 17 (by omega) d_Cd_tally_1 (by decide) (fun h0 => ?_) (fun h0 => ?_)
  · skip
    refine sw_aload_n (pc := 17) C d_Cd_tally_17 rfl rfl ?_
    refine sw_get (pc := 18) C inCr 0 rfl rfl 6 (by decide) t_71 rfl rfl d_Cd_tally_18 ?_
    refine sw_iload_n (pc := 21) C d_Cd_tally_21 rfl rfl ?_
    refine sw_dup2 (pc := 22) C d_Cd_tally_22 rfl rfl ?_
    refine sw_ialdN (pc := 23) C 2 c rfl rfl (by omega) (by decide) d_Cd_tally_23 ?_
    refine sw_topi (z := nI (O c)) rfl ?_
    refine sw_iconst (pc := 24) C (nI 1) d_Cd_tally_24 (by decide) ?_
    refine sw_iadd (pc := 25) C d_Cd_tally_25 ?_
    refine sw_topi (z := nI ((O c) + 1)) (nI_add _ _) ?_
    refine sw_iastN (pc := 26) C 2 c rfl rfl (by omega) (by decide) d_Cd_tally_26 ?_
    refine sw_ws (ws' := [(a, .inr (0, [f0, f1, f2, f3, f4, .ref z, .ref o, wd])), (z, .inl (g.2.1, 48, .inl (nF (upN Z c (Z c))))), (o, .inl (g.2.1, 48, .inl (nF (upN O c (O c + 1)))))]) (by rw [nF_self, ← nF_up]; rfl) ?_
    exact tail (Z c) (O c + 1) (by omega) (by omega) (by rw [if_neg (by omega)])
  refine sw_aload_n (pc := 4) C d_Cd_tally_4 rfl rfl ?_
  refine sw_get (pc := 5) C inCr 0 rfl rfl 5 (by decide) t_70 rfl rfl d_Cd_tally_5 ?_
  refine sw_iload_n (pc := 8) C d_Cd_tally_8 rfl rfl ?_
  refine sw_dup2 (pc := 9) C d_Cd_tally_9 rfl rfl ?_
  refine sw_ialdN (pc := 10) C 1 c rfl rfl (by omega) (by decide) d_Cd_tally_10 ?_
  refine sw_topi (z := nI (Z c)) rfl ?_
  refine sw_iconst (pc := 11) C (nI 1) d_Cd_tally_11 (by decide) ?_
  refine sw_iadd (pc := 12) C d_Cd_tally_12 ?_
  refine sw_topi (z := nI ((Z c) + 1)) (nI_add _ _) ?_
  refine sw_iastN (pc := 13) C 1 c rfl rfl (by omega) (by decide) d_Cd_tally_13 ?_
  refine sw_goto (pc := 14) C 27 d_Cd_tally_14 (by decide) ?_
  refine sw_ws (ws' := [(a, .inr (0, [f0, f1, f2, f3, f4, .ref z, .ref o, wd])), (z, .inl (g.2.1, 48, .inl (nF (upN Z c (Z c + 1))))), (o, .inl (g.2.1, 48, .inl (nF (upN O c (O c)))))]) (by rw [nF_self, ← nF_up]; rfl) ?_
  exact tail (Z c + 1) (O c) (by omega) (by omega) (by rw [if_pos h0])
set_option maxRecDepth 100000 in
set_option maxHeartbeats 4000000 in
theorem c_restart_w (l : Launch) (g : Gl) (a z o : Nat) (f0 f1 f2 : Value) (wd : Int32) (f h : Nat → Int32) : Ct l g y_Cd_restart b_Cd_restart 1 none (rmD 1) [.ref a] ([(a, .inr (1, [f0, f1, f2, .ref z, .ref o, .int wd])), (z, .inl (g.2.1, 48, .inl (f))), (o, .inl (g.2.1, 48, .inl (h)))]) (fun v w => v = none ∧ w = [(a, .inr (1, [f0, f1, f2, .ref z, .ref o, .int (nI 65536)])), (z, .inl (g.2.1, 48, .inl (nF (fun _ => 1)))), (o, .inl (g.2.1, 48, .inl (nF (fun _ => 1))))]) := by
  refine ct_of [some (.ref a)] (by decide) (Nat.le_of_ble_eq_true rfl) rfl ?_
  intro X C E
  refine sw_aload_n (pc := 0) C d_Cd_restart_0 rfl rfl ?_
  refine sw_get (pc := 1) C inCw 0 rfl rfl 3 (by decide) t_70 rfl rfl d_Cd_restart_1 ?_
  refine sw_iconst (pc := 4) C (nI 1) d_Cd_restart_4 (by decide) ?_
  refine sw_callSP (pc := 5) C (c_fill l g z 48 f (nI 1) (by decide)) ss_Ar_fill t_64 [1] rfl rfl rfl rfl (Nat.le_of_ble_eq_true rfl) (Nat.le_of_ble_eq_true rfl) (Nat.le_of_ble_eq_true rfl) (Nat.le_of_ble_eq_true rfl) (Nat.le_of_ble_eq_true rfl) d_Cd_restart_5 (fun v w1 hp => ?_)
  obtain ⟨rfl, rfl⟩ := hp
  refine ⟨rfl, ?_⟩
  refine sw_ws (ws' := [(a, .inr (1, [f0, f1, f2, .ref z, .ref o, .int wd])), (z, .inl (g.2.1, 48, .inl (nF (fun _ => 1)))), (o, .inl (g.2.1, 48, .inl (h)))]) rfl ?_
  refine sw_aload_n (pc := 8) C d_Cd_restart_8 rfl rfl ?_
  refine sw_get (pc := 9) C inCw 0 rfl rfl 4 (by decide) t_71 rfl rfl d_Cd_restart_9 ?_
  refine sw_iconst (pc := 12) C (nI 1) d_Cd_restart_12 (by decide) ?_
  refine sw_callSP (pc := 13) C (c_fill l g o 48 h (nI 1) (by decide)) ss_Ar_fill t_64 [2] rfl rfl rfl rfl (Nat.le_of_ble_eq_true rfl) (Nat.le_of_ble_eq_true rfl) (Nat.le_of_ble_eq_true rfl) (Nat.le_of_ble_eq_true rfl) (Nat.le_of_ble_eq_true rfl) d_Cd_restart_13 (fun v w1 hp => ?_)
  obtain ⟨rfl, rfl⟩ := hp
  refine ⟨rfl, ?_⟩
  refine sw_ws (ws' := [(a, .inr (1, [f0, f1, f2, .ref z, .ref o, .int wd])), (z, .inl (g.2.1, 48, .inl (nF (fun _ => 1)))), (o, .inl (g.2.1, 48, .inl (nF (fun _ => 1))))]) rfl ?_
  refine sw_aload_n (pc := 16) C d_Cd_restart_16 rfl rfl ?_
  refine sw_ldc (pc := 17) C t_57 d_Cd_restart_17 ?_
  refine sw_topi (z := nI 65536) rfl ?_
  refine sw_put (pc := 19) C inCw 0 rfl rfl 5 (by decide) tyCw okCw nmCw t_72 rfl rfl (ty := .int) (by decide +kernel) rfl rfl (Nat.le_of_ble_eq_true rfl) d_Cd_restart_19 ?_
  exact sw_vret (pc := 22) C E rfl (Nat.le_of_ble_eq_true rfl) (Nat.le_of_ble_eq_true rfl) d_Cd_restart_22 ⟨rfl, rfl⟩
set_option maxRecDepth 100000 in
set_option maxHeartbeats 4000000 in
theorem c_restart_r (l : Launch) (g : Gl) (a z o : Nat) (f0 f1 f2 f3 f4 : Value) (wd : Int32) (f h : Nat → Int32) : Ct l g y_Cd_restart b_Cd_restart 1 none (rmD 1) [.ref a] ([(a, .inr (0, [f0, f1, f2, f3, f4, .ref z, .ref o, .int wd])), (z, .inl (g.2.1, 48, .inl (f))), (o, .inl (g.2.1, 48, .inl (h)))]) (fun v w => v = none ∧ w = [(a, .inr (0, [f0, f1, f2, f3, f4, .ref z, .ref o, .int (nI 65536)])), (z, .inl (g.2.1, 48, .inl (nF (fun _ => 1)))), (o, .inl (g.2.1, 48, .inl (nF (fun _ => 1))))]) := by
  refine ct_of [some (.ref a)] (by decide) (Nat.le_of_ble_eq_true rfl) rfl ?_
  intro X C E
  refine sw_aload_n (pc := 0) C d_Cd_restart_0 rfl rfl ?_
  refine sw_get (pc := 1) C inCr 0 rfl rfl 5 (by decide) t_70 rfl rfl d_Cd_restart_1 ?_
  refine sw_iconst (pc := 4) C (nI 1) d_Cd_restart_4 (by decide) ?_
  refine sw_callSP (pc := 5) C (c_fill l g z 48 f (nI 1) (by decide)) ss_Ar_fill t_64 [1] rfl rfl rfl rfl (Nat.le_of_ble_eq_true rfl) (Nat.le_of_ble_eq_true rfl) (Nat.le_of_ble_eq_true rfl) (Nat.le_of_ble_eq_true rfl) (Nat.le_of_ble_eq_true rfl) d_Cd_restart_5 (fun v w1 hp => ?_)
  obtain ⟨rfl, rfl⟩ := hp
  refine ⟨rfl, ?_⟩
  refine sw_ws (ws' := [(a, .inr (0, [f0, f1, f2, f3, f4, .ref z, .ref o, .int wd])), (z, .inl (g.2.1, 48, .inl (nF (fun _ => 1)))), (o, .inl (g.2.1, 48, .inl (h)))]) rfl ?_
  refine sw_aload_n (pc := 8) C d_Cd_restart_8 rfl rfl ?_
  refine sw_get (pc := 9) C inCr 0 rfl rfl 6 (by decide) t_71 rfl rfl d_Cd_restart_9 ?_
  refine sw_iconst (pc := 12) C (nI 1) d_Cd_restart_12 (by decide) ?_
  refine sw_callSP (pc := 13) C (c_fill l g o 48 h (nI 1) (by decide)) ss_Ar_fill t_64 [2] rfl rfl rfl rfl (Nat.le_of_ble_eq_true rfl) (Nat.le_of_ble_eq_true rfl) (Nat.le_of_ble_eq_true rfl) (Nat.le_of_ble_eq_true rfl) (Nat.le_of_ble_eq_true rfl) d_Cd_restart_13 (fun v w1 hp => ?_)
  obtain ⟨rfl, rfl⟩ := hp
  refine ⟨rfl, ?_⟩
  refine sw_ws (ws' := [(a, .inr (0, [f0, f1, f2, f3, f4, .ref z, .ref o, .int wd])), (z, .inl (g.2.1, 48, .inl (nF (fun _ => 1)))), (o, .inl (g.2.1, 48, .inl (nF (fun _ => 1))))]) rfl ?_
  refine sw_aload_n (pc := 16) C d_Cd_restart_16 rfl rfl ?_
  refine sw_ldc (pc := 17) C t_57 d_Cd_restart_17 ?_
  refine sw_topi (z := nI 65536) rfl ?_
  refine sw_put (pc := 19) C inCr 0 rfl rfl 7 (by decide) tyCr okCr nmCr t_72 rfl rfl (ty := .int) (by decide +kernel) rfl rfl (Nat.le_of_ble_eq_true rfl) d_Cd_restart_19 ?_
  exact sw_vret (pc := 22) C E rfl (Nat.le_of_ble_eq_true rfl) (Nat.le_of_ble_eq_true rfl) d_Cd_restart_22 ⟨rfl, rfl⟩
set_option maxRecDepth 100000 in
set_option maxHeartbeats 4000000 in
theorem c_Cw_shift (l : Launch) (g : Gl) (a z o r : Nat) (l0 : List Nat) (Z O : Nat → Nat) (W sc v : Nat) : Ct l g y_Cw_shift b_Cw_shift 1 none (rmD 0) [.ref a] (wKw g a z o r l0 ((Z, O, W, sc), v)) (fun u w => u = none ∧ w = wKw g a z o r l0 ((Z, O, W, sc + 1), v * 2)) := by
  refine ct_of [some (.ref a)] (by decide) (Nat.le_of_ble_eq_true rfl) rfl ?_
  intro X C E
  refine sw_aload_n (pc := 0) C d_Cw_shift_0 rfl rfl ?_
  refine sw_dup (pc := 1) C d_Cw_shift_1 rfl ?_
  refine sw_get (pc := 2) C inCw 0 rfl rfl 2 (by decide) t_69 rfl rfl d_Cw_shift_2 ?_
  refine sw_topi (z := nI sc) rfl ?_
  refine sw_iconst (pc := 5) C (nI 1) d_Cw_shift_5 (by decide) ?_
  refine sw_iadd (pc := 6) C d_Cw_shift_6 ?_
  refine sw_topi (z := nI (sc + 1)) (nI_add _ _) ?_
  refine sw_put (pc := 7) C inCw 0 rfl rfl 2 (by decide) tyCw okCw nmCw t_69 rfl rfl (ty := .int) (by decide +kernel) rfl rfl (Nat.le_of_ble_eq_true rfl) d_Cw_shift_7 ?_
  refine sw_ws (ws' := wKw g a z o r l0 ((Z, O, W, sc + 1), v * 2)) (by unfold wKw; dsimp only; rw [show rowW l0 (v * 2) (sc + 1) = rowW l0 v sc from by have := rowW_scale l0 v sc 1; simpa using this]; rfl) ?_
  exact sw_vret (pc := 10) C E rfl (Nat.le_of_ble_eq_true rfl) (Nat.le_of_ble_eq_true rfl) d_Cw_shift_10 ⟨rfl, rfl⟩
set_option maxRecDepth 100000 in
set_option maxHeartbeats 4000000 in
theorem c_Cw_size (l : Launch) (g : Gl) (a z o r : Nat) (l0 : List Nat) (Z O : Nat → Nat) (W sc v : Nat) (hs : sc < 2 ^ 20) : Ct l g y_Cw_size b_Cw_size 1 (some .int) (rmD 0) [.ref a] (wKw g a z o r l0 ((Z, O, W, sc), v)) (fun u w => u = some (.int (nI ((16 + sc + 7) / 8))) ∧ w = wKw g a z o r l0 ((Z, O, W, sc), v)) := by
  refine ct_of [some (.ref a)] (by decide) (Nat.le_of_ble_eq_true rfl) rfl ?_
  intro X C E
  refine sw_bipush (pc := 0) C (nI 16) d_Cw_size_0 (by decide) ?_
  refine sw_aload_n (pc := 2) C d_Cw_size_2 rfl rfl ?_
  refine sw_get (pc := 3) C inCw 0 rfl rfl 2 (by decide) t_69 rfl rfl d_Cw_size_3 ?_
  refine sw_topi (z := nI sc) rfl ?_
  refine sw_iadd (pc := 6) C d_Cw_size_6 ?_
  refine sw_topi (z := nI (16 + sc)) (nI_add _ _) ?_
  refine sw_bipush (pc := 7) C (nI 7) d_Cw_size_7 (by decide) ?_
  refine sw_iadd (pc := 9) C d_Cw_size_9 ?_
  refine sw_topi (z := nI ((16 + sc) + 7)) (nI_add _ _) ?_
  refine sw_bipush (pc := 10) C (nI 8) d_Cw_size_10 (by decide) ?_
  refine sw_idiv (pc := 12) C d_Cw_size_12 (by decide) ?_
  refine sw_topi (z := nI (((16 + sc) + 7) / 8)) (pk_div (by omega) (by omega) (by omega)) ?_
  exact sw_iret (pc := 13) C E rfl (Nat.le_of_ble_eq_true rfl) (Nat.le_of_ble_eq_true rfl) d_Cw_size_13 ⟨rfl, rfl⟩
set_option maxRecDepth 100000 in
set_option maxHeartbeats 4000000 in
theorem c_Cw_begin (l : Launch) (g : Gl) (a z o r r0 : Nat) (l0 : List Nat) (wd st0 sc0 : Int32) (f h : Nat → Int32) : Ct l g y_Cw_begin b_Cw_begin 3 none (rmD 2) [.ref a, .ref r, .int (nI l0.length)] ([(a, .inr (1, [.ref r0, .int st0, .int sc0, .ref z, .ref o, .int wd])), (z, .inl (g.2.1, 48, .inl f)), (o, .inl (g.2.1, 48, .inl h)), (r, .inl (g.2.1, 1200, .inl (rowOf l0)))]) (fun u w => u = none ∧ w = wKw g a z o r l0 (csInit, 0)) := by
  refine ct_of [some (.ref a), some (.ref r), some (.int (nI l0.length))] (by decide) (Nat.le_of_ble_eq_true rfl) rfl ?_
  intro X C E
  refine sw_aload_n (pc := 0) C d_Cw_begin_0 rfl rfl ?_
  refine sw_callUP (pc := 1) C (c_restart_w l g a z o (.ref r0) (.int st0) (.int sc0) wd f h) su_Cw_Cw_restart t_346 rfl rfl rfl rfl [0, 1, 2] rfl rfl rfl rfl (Nat.le_of_ble_eq_true rfl) (Nat.le_of_ble_eq_true rfl) (Nat.le_of_ble_eq_true rfl) (Nat.le_of_ble_eq_true rfl) (Nat.le_of_ble_eq_true rfl) d_Cw_begin_1 (fun v w1 hp => ?_)
  obtain ⟨rfl, rfl⟩ := hp
  refine ⟨rfl, ?_⟩
  refine sw_aload_n (pc := 4) C d_Cw_begin_4 rfl rfl ?_
  refine sw_aload_n (pc := 5) C d_Cw_begin_5 rfl rfl ?_
  refine sw_put (pc := 6) C inCw 0 rfl rfl 0 (by decide) tyCw okCw nmCw t_67 rfl rfl (ty := (.array .int)) (by decide +kernel) rfl rfl (Nat.le_of_ble_eq_true rfl) d_Cw_begin_6 ?_
  refine sw_aload_n (pc := 9) C d_Cw_begin_9 rfl rfl ?_
  refine sw_iload_n (pc := 10) C d_Cw_begin_10 rfl rfl ?_
  refine sw_put (pc := 11) C inCw 0 rfl rfl 1 (by decide) tyCw okCw nmCw t_68 rfl rfl (ty := .int) (by decide +kernel) rfl rfl (Nat.le_of_ble_eq_true rfl) d_Cw_begin_11 ?_
  refine sw_aload_n (pc := 14) C d_Cw_begin_14 rfl rfl ?_
  refine sw_iconst (pc := 15) C (nI 0) d_Cw_begin_15 (by decide) ?_
  refine sw_put (pc := 16) C inCw 0 rfl rfl 2 (by decide) tyCw okCw nmCw t_69 rfl rfl (ty := .int) (by decide +kernel) rfl rfl (Nat.le_of_ble_eq_true rfl) d_Cw_begin_16 ?_
  refine sw_ws (ws' := wKw g a z o r l0 (csInit, 0)) (by unfold wKw csInit; dsimp only; rw [rowW_0]; rfl) ?_
  exact sw_vret (pc := 19) C E rfl (Nat.le_of_ble_eq_true rfl) (Nat.le_of_ble_eq_true rfl) d_Cw_begin_19 ⟨rfl, rfl⟩
theorem rdP_step {fr en p : Nat} (h : fr + rdP fr en p / 8 < en) : rdP fr en (p + 1) = rdP fr en p + 1 ∧ rdP fr en p = p ∧ p < 8 * (en - fr) := by
  unfold rdP at *
  split at h <;> split <;> omega
theorem rdP_stay {fr en p : Nat} (hf : fr ≤ en) (h : en ≤ fr + rdP fr en p / 8) : rdP fr en (p + 1) = rdP fr en p ∧ 8 * (en - fr) ≤ p := by
  unfold rdP at *
  split at h <;> split <;> omega
theorem dgt_in {l : List Nat} {fr en i : Nat} (h : i < 8 * (en - fr)) : dgt l fr en i = l.getD (fr + i / 8) 0 / 2 ^ (7 - i % 8) % 2 := by
  unfold dgt
  rw [if_pos h]
theorem dgt_out {l : List Nat} {fr en i : Nat} (h : 8 * (en - fr) ≤ i) : dgt l fr en i = 0 := by
  unfold dgt
  rw [if_neg (by omega)]
theorem shr_nI {n k : Nat} (hn : n < 2 ^ 31) (hk : k < 32) : nI n >>> (nI k &&& 31) = nI (n / 2 ^ k) := by
  refine pk_shrN hn _ k ?_
  have : ∀ k, k < 32 → ((nI k &&& 31).toBitVec.smod 32).toNat = k := by decide +kernel
  exact this k hk
theorem shl_nI {n k : Nat} (hk : k < 32) (hn : n * 2 ^ k < 2 ^ 32) : nI n <<< (nI k &&& 31) = nI (n * 2 ^ k) := by
  refine pk_shlN _ k ?_ hn
  have : ∀ k, k < 32 → ((nI k &&& 31).toBitVec.smod 32).toNat = k := by decide +kernel
  exact this k hk
set_option maxRecDepth 100000 in
set_option maxHeartbeats 4000000 in
theorem c_Cr_choose (l : Launch) (g : Gl) (a z o r : Nat) (l0 : List Nat) (fr en : Nat) (Z O : Nat → Nat) (W sc v : Nat) (s b : Nat) (hv : v < 2 ^ 30) (hs : s < 2 ^ 30) : Ct l g y_Cr_choose b_Cr_choose 3 (some .int) (rmD 0) [.ref a, .int (nI s), .int (nI b)] (wKr g a z o r l0 fr en ((Z, O, W, sc), v)) (fun u w => u = some (.int (nI (if v < s then 0 else 1))) ∧ w = wKr g a z o r l0 fr en ((Z, O, W, sc), v - (if v < s then 0 else s))) := by
  refine ct_of [some (.ref a), some (.int (nI s)), some (.int (nI b))] (by decide) (Nat.le_of_ble_eq_true rfl) rfl ?_
  intro X C E
  refine sw_aload_n (pc := 0) C d_Cr_choose_0 rfl rfl ?_
  refine sw_get (pc := 1) C inCr 0 rfl rfl 4 (by decide) t_106 rfl rfl d_Cr_choose_1 ?_
  refine sw_topi (z := nI v) rfl ?_
  refine sw_iload_n (pc := 4) C d_Cr_choose_4 rfl rfl ?_
  refine sw_icmp_geN (pc := 5) C 10 (by omega) (by omega) d_Cr_choose_5 (by decide) (fun h1 => ?_) (fun h1 => ?_)
  · skip
    refine sw_aload_n (pc := 10) C d_Cr_choose_10 rfl rfl ?_
    refine sw_dup (pc := 11) C d_Cr_choose_11 rfl ?_
    refine sw_get (pc := 12) C inCr 0 rfl rfl 4 (by decide) t_106 rfl rfl d_Cr_choose_12 ?_
    refine sw_topi (z := nI v) rfl ?_
    refine sw_iload_n (pc := 15) C d_Cr_choose_15 rfl rfl ?_
    refine sw_isub (pc := 16) C d_Cr_choose_16 ?_
    refine sw_topi (z := nI (v - s)) (pk_sub (by omega)) ?_
    refine sw_put (pc := 17) C inCr 0 rfl rfl 4 (by decide) tyCr okCr nmCr t_106 rfl rfl (ty := .int) (by decide +kernel) rfl rfl (Nat.le_of_ble_eq_true rfl) d_Cr_choose_17 ?_
    refine sw_iconst (pc := 20) C (nI 1) d_Cr_choose_20 (by decide) ?_
    exact sw_iret (pc := 21) C E rfl (Nat.le_of_ble_eq_true rfl) (Nat.le_of_ble_eq_true rfl) d_Cr_choose_21 ⟨by rw [if_neg (by omega)], by rw [if_neg (by omega)]; rfl⟩
  refine sw_iconst (pc := 8) C (nI 0) d_Cr_choose_8 (by decide) ?_
  exact sw_iret (pc := 9) C E rfl (Nat.le_of_ble_eq_true rfl) (Nat.le_of_ble_eq_true rfl) d_Cr_choose_9 ⟨by rw [if_pos h1], by rw [if_pos h1]; rfl⟩
set_option maxRecDepth 100000 in
set_option maxHeartbeats 4000000 in
theorem c_Cr_shift (l : Launch) (g : Gl) (a z o r : Nat) (l0 : List Nat) (fr en : Nat) (Z O : Nat → Nat) (W v p : Nat) (hv : v < 2 ^ 29) (hen : en ≤ 1200) (hfe : fr ≤ en) (hb : ∀ k, l0.getD k 0 < 256) : Ct l g y_Cr_shift b_Cr_shift 1 none (rmD 0) [.ref a] (wKq g a z o r l0 fr en p Z O W v) (fun u w => u = none ∧ w = wKq g a z o r l0 fr en (p + 1) Z O W (2 * v + dgt l0 fr en p)) := by
  refine ct_of [some (.ref a)] (by decide) (Nat.le_of_ble_eq_true rfl) rfl ?_
  intro X C E
  have hrd := rdP_le fr en p
  refine sw_aload_n (pc := 0) C d_Cr_shift_0 rfl rfl ?_
  refine sw_dup (pc := 1) C d_Cr_shift_1 rfl ?_
  refine sw_get (pc := 2) C inCr 0 rfl rfl 4 (by decide) t_106 rfl rfl d_Cr_shift_2 ?_
  refine sw_topi (z := nI v) rfl ?_
  refine sw_iconst (pc := 5) C (nI 2) d_Cr_shift_5 (by decide) ?_
  refine sw_imul (pc := 6) C d_Cr_shift_6 ?_
  refine sw_topi (z := nI (v * 2)) (pk_mul _ _) ?_
  refine sw_put (pc := 7) C inCr 0 rfl rfl 4 (by decide) tyCr okCr nmCr t_106 rfl rfl (ty := .int) (by decide +kernel) rfl rfl (Nat.le_of_ble_eq_true rfl) d_Cr_shift_7 ?_
  refine sw_aload_n (pc := 10) C d_Cr_shift_10 rfl rfl ?_
  refine sw_get (pc := 11) C inCr 0 rfl rfl 1 (by decide) t_103 rfl rfl d_Cr_shift_11 ?_
  refine sw_topi (z := nI (fr + rdP fr en p / 8)) rfl ?_
  refine sw_aload_n (pc := 14) C d_Cr_shift_14 rfl rfl ?_
  refine sw_get (pc := 15) C inCr 0 rfl rfl 2 (by decide) t_104 rfl rfl d_Cr_shift_15 ?_
  refine sw_topi (z := nI en) rfl ?_
  refine sw_icmp_geN (pc := 18) C 83 (by omega) (by omega) d_Cr_shift_18 (by decide) (fun h1 => ?_) (fun h1 => ?_)
  · skip
    obtain ⟨e1, e2⟩ := rdP_stay hfe h1
    have e3 := dgt_out (l := l0) e2
    exact sw_vret (pc := 83) C E rfl (Nat.le_of_ble_eq_true rfl) (Nat.le_of_ble_eq_true rfl) d_Cr_shift_83 ⟨rfl, by unfold wKq; rw [e1, e3, Nat.add_zero, Nat.mul_comm 2 v]; rfl⟩
  obtain ⟨e1, e2, e3⟩ := rdP_step h1
  have e4 := dgt_in (l := l0) e3
  have hbk := hb (fr + rdP fr en p / 8)
  refine sw_aload_n (pc := 21) C d_Cr_shift_21 rfl rfl ?_
  refine sw_dup (pc := 22) C d_Cr_shift_22 rfl ?_
  refine sw_get (pc := 23) C inCr 0 rfl rfl 4 (by decide) t_106 rfl rfl d_Cr_shift_23 ?_
  refine sw_topi (z := nI (v * 2)) rfl ?_
  refine sw_aload_n (pc := 26) C d_Cr_shift_26 rfl rfl ?_
  refine sw_get (pc := 27) C inCr 0 rfl rfl 0 (by decide) t_102 rfl rfl d_Cr_shift_27 ?_
  refine sw_aload_n (pc := 30) C d_Cr_shift_30 rfl rfl ?_
  refine sw_get (pc := 31) C inCr 0 rfl rfl 1 (by decide) t_103 rfl rfl d_Cr_shift_31 ?_
  refine sw_topi (z := nI (fr + rdP fr en p / 8)) rfl ?_
  refine sw_ialdN (pc := 34) C 3 (fr + rdP fr en p / 8) rfl rfl (by omega) (by decide) d_Cr_shift_34 ?_
  refine sw_topi (z := nI (l0.getD (fr + rdP fr en p / 8) 0)) rfl ?_
  refine sw_bipush (pc := 35) C (nI 7) d_Cr_shift_35 (by decide) ?_
  refine sw_aload_n (pc := 37) C d_Cr_shift_37 rfl rfl ?_
  refine sw_get (pc := 38) C inCr 0 rfl rfl 3 (by decide) t_105 rfl rfl d_Cr_shift_38 ?_
  refine sw_topi (z := nI (rdP fr en p % 8)) rfl ?_
  refine sw_isub (pc := 41) C d_Cr_shift_41 ?_
  refine sw_topi (z := nI (7 - (rdP fr en p % 8))) (pk_sub (by omega)) ?_
  refine sw_ishr (pc := 42) C d_Cr_shift_42 ?_
  refine sw_topi (z := nI ((l0.getD (fr + rdP fr en p / 8) 0) / 2 ^ (7 - rdP fr en p % 8))) (shr_nI (by omega) (by omega)) ?_
  refine sw_iconst (pc := 43) C (nI 1) d_Cr_shift_43 (by decide) ?_
  refine sw_iand (pc := 44) C d_Cr_shift_44 ?_
  refine sw_topi (z := nI ((l0.getD (fr + rdP fr en p / 8) 0) / 2 ^ (7 - rdP fr en p % 8) % 2)) (and1 _) ?_
  refine sw_iadd (pc := 45) C d_Cr_shift_45 ?_
  refine sw_topi (z := nI ((v * 2) + (l0.getD (fr + rdP fr en p / 8) 0) / 2 ^ (7 - rdP fr en p % 8) % 2)) (nI_add _ _) ?_
  refine sw_put (pc := 46) C inCr 0 rfl rfl 4 (by decide) tyCr okCr nmCr t_106 rfl rfl (ty := .int) (by decide +kernel) rfl rfl (Nat.le_of_ble_eq_true rfl) d_Cr_shift_46 ?_
  refine sw_aload_n (pc := 49) C d_Cr_shift_49 rfl rfl ?_
  refine sw_aload_n (pc := 50) C d_Cr_shift_50 rfl rfl ?_
  refine sw_get (pc := 51) C inCr 0 rfl rfl 3 (by decide) t_105 rfl rfl d_Cr_shift_51 ?_
  refine sw_topi (z := nI (rdP fr en p % 8)) rfl ?_
  refine sw_iconst (pc := 54) C (nI 1) d_Cr_shift_54 (by decide) ?_
  refine sw_iadd (pc := 55) C d_Cr_shift_55 ?_
  refine sw_topi (z := nI ((rdP fr en p % 8) + 1)) (nI_add _ _) ?_
  refine sw_bipush (pc := 56) C (nI 8) d_Cr_shift_56 (by decide) ?_
  refine sw_irem (pc := 58) C d_Cr_shift_58 (by decide) ?_
  refine sw_topi (z := nI (((rdP fr en p % 8) + 1) % 8)) (pk_rem (by omega) (by omega) (by omega)) ?_
  refine sw_put (pc := 59) C inCr 0 rfl rfl 3 (by decide) tyCr okCr nmCr t_105 rfl rfl (ty := .int) (by decide +kernel) rfl rfl (Nat.le_of_ble_eq_true rfl) d_Cr_shift_59 ?_
  refine sw_aload_n (pc := 62) C d_Cr_shift_62 rfl rfl ?_
  refine sw_dup (pc := 63) C d_Cr_shift_63 rfl ?_
  refine sw_get (pc := 64) C inCr 0 rfl rfl 1 (by decide) t_103 rfl rfl d_Cr_shift_64 ?_
  refine sw_topi (z := nI (fr + rdP fr en p / 8)) rfl ?_
  refine sw_aload_n (pc := 67) C d_Cr_shift_67 rfl rfl ?_
  refine sw_get (pc := 68) C inCr 0 rfl rfl 3 (by decide) t_105 rfl rfl d_Cr_shift_68 ?_
  refine sw_topi (z := nI (((rdP fr en p % 8) + 1) % 8)) rfl ?_
  refine sw_if_neN (pc := 71) C 78 (by omega) d_Cr_shift_71 (by decide) (fun h2 => ?_) (fun h2 => ?_)
  · skip
    refine sw_iconst (pc := 78) C (nI 0) d_Cr_shift_78 (by decide) ?_
    refine sw_iadd (pc := 79) C d_Cr_shift_79 ?_
    refine sw_topi (z := nI ((fr + rdP fr en p / 8) + 0)) (nI_add _ _) ?_
    refine sw_put (pc := 80) C inCr 0 rfl rfl 1 (by decide) tyCr okCr nmCr t_103 rfl rfl (ty := .int) (by decide +kernel) rfl rfl (Nat.le_of_ble_eq_true rfl) d_Cr_shift_80 ?_
    rw [e2] at h2
    exact sw_vret (pc := 83) C E rfl (Nat.le_of_ble_eq_true rfl) (Nat.le_of_ble_eq_true rfl) d_Cr_shift_83 ⟨rfl, by unfold wKq; rw [e1, e4, Nat.mul_comm 2 v]; simp only [e2]; rw [show (p + 1) % 8 = (p % 8 + 1) % 8 by omega, show fr + (p + 1) / 8 = fr + p / 8 + 0 by omega]; rfl⟩
  refine sw_iconst (pc := 74) C (nI 1) d_Cr_shift_74 (by decide) ?_
  refine sw_goto (pc := 75) C 79 d_Cr_shift_75 (by decide) ?_
  refine sw_iadd (pc := 79) C d_Cr_shift_79 ?_
  refine sw_topi (z := nI ((fr + rdP fr en p / 8) + 1)) (nI_add _ _) ?_
  refine sw_put (pc := 80) C inCr 0 rfl rfl 1 (by decide) tyCr okCr nmCr t_103 rfl rfl (ty := .int) (by decide +kernel) rfl rfl (Nat.le_of_ble_eq_true rfl) d_Cr_shift_80 ?_
  rw [e2] at h2
  exact sw_vret (pc := 83) C E rfl (Nat.le_of_ble_eq_true rfl) (Nat.le_of_ble_eq_true rfl) d_Cr_shift_83 ⟨rfl, by unfold wKq; rw [e1, e4, Nat.mul_comm 2 v]; simp only [e2]; rw [show (p + 1) % 8 = (p % 8 + 1) % 8 by omega, show fr + (p + 1) / 8 = fr + p / 8 + 1 by omega]; rfl⟩
