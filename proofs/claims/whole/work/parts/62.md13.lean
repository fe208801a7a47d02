/-! the reference: a layer is read -/
def cpy (kn : Nat) (co gv : Nat → Int32) (i : Nat) : Nat → Int32 := fun j => if 64 * kn ≤ j ∧ j < 64 * kn + i then gv (j - 64 * kn) else co j
theorem cpy_0 (kn : Nat) (co gv : Nat → Int32) : cpy kn co gv 0 = co := by
  funext j
  unfold cpy
  rw [if_neg (by omega)]
theorem cpy_up (kn : Nat) (co gv : Nat → Int32) (i : Nat) : upd (cpy kn co gv i) (64 * kn + i) (gv i) = cpy kn co gv (i + 1) := by
  funext j
  unfold upd cpy
  by_cases e : j = 64 * kn + i
  · subst e
    rw [if_pos rfl, if_pos (by omega)]
    congr 1
    omega
  · rw [if_neg e]
    by_cases h : 64 * kn ≤ j ∧ j < 64 * kn + i
    · rw [if_pos h, if_pos (by omega)]
    · rw [if_neg h, if_neg (by omega)]
def gvF (p8 : Nat → Nat) (m8 : Nat → Bool) (sl : Nat) (k : Nat) : Int32 := if m8 k = true then -(nI (p8 k) <<< (nI (10 - sl) &&& 31)) else nI (p8 k) <<< (nI (10 - sl) &&& 31)
theorem gvF_at {n sl : Nat} {p8 : Nat → Nat} {m8 : Nat → Bool} {md : Option (Nat → Nat)} {cf : Nat → Int32} (hs : sl ≤ 10) (hr : rl n p8 m8 (lyP md n cf sl).2.1 (lyP md n cf sl).2.2) {k : Nat} (hk : k < n * n) : gvF p8 m8 sl (i8 n k) = cdV (lyP md n cf sl).2.1 (lyP md n cf sl).2.2 (10 - sl) k := by
  obtain ⟨h1, h2⟩ := hr k hk
  have hb := ly_bd0 md n cf sl k
  have hm : (lyP md n cf sl).2.1 k * 2 ^ (10 - sl) < 2 ^ 10 := by
    have := Nat.mul_lt_mul_of_pos_right hb (show 0 < 2 ^ (10 - sl) from Nat.pow_pos (by decide))
    rwa [← Nat.pow_add, show sl + (10 - sl) = 10 by omega] at this
  unfold gvF cdV
  rw [h1, h2, shl_nI (by omega) (by omega)]
theorem levD_cong {m n : Nat} {G G' : Nat → Nat → Int32} (hm : m % 2 = 0) (h2 : 2 ≤ m) (hmn : m ≤ n) (h : ∀ y x, y < n → x < n → G y x = G' y x) : ∀ y x, y < n → x < n → levD m G y x = levD m G' y x := by
  have hk := drR_keeps hm h2
  have hc : ∀ y x, y < n → x < n → colsU (drR m) m G y x = colsU (drR m) m G' y x := by
    intro y x hy hx
    unfold colsU
    by_cases e : x < m
    · rw [if_pos e, if_pos e]
      by_cases e2 : y < m
      · exact hk.2 _ _ _ (fun j hj => h j x (by omega) hx) e2
      · rw [hk.1 _ _ (by omega), hk.1 _ _ (by omega)]
        exact h y x hy hx
    · rw [if_neg e, if_neg e]
      exact h y x hy hx
  intro y x hy hx
  show rowsU (drR m) m (colsU (drR m) m G) y x = rowsU (drR m) m (colsU (drR m) m G') y x
  unfold rowsU
  by_cases e : y < m
  · rw [if_pos e, if_pos e]
    by_cases e2 : x < m
    · exact hk.2 _ _ _ (fun j hj => hc y j hy (by omega)) e2
    · rw [hk.1 _ _ (by omega), hk.1 _ _ (by omega)]
      exact hc y x hy hx
  · rw [if_neg e, if_neg e]
    exact hc y x hy hx
theorem undoN_cong {n : Nat} {G G' : Nat → Nat → Int32} (hn : n = 4 ∨ n = 8) (h : ∀ y x, y < n → x < n → G y x = G' y x) : ∀ y x, y < n → x < n → undoN n G y x = undoN n G' y x := by
  rcases hn with rfl | rfl
  · exact levD_cong (m := 4) (by decide) (by decide) (by decide) (levD_cong (m := 2) (by decide) (by decide) (by decide) h)
  · exact levD_cong (m := 8) (by decide) (by decide) (by decide) (levD_cong (m := 4) (by decide) (by decide) (by decide) (levD_cong (m := 2) (by decide) (by decide) (by decide) h))
set_option maxRecDepth 100000 in
set_option maxHeartbeats 4000000 in
theorem c_Md_takeLy0 (l : Launch) (g : Gl) (R : Nat → Nat) (dn pl ss pt : Nat) (th rd : Bool) (wd sc : Nat) (l0 : List Nat) (f : Nat → Int32) (hl : bytesOK l0) (z o d : Nat → Int32) (co un gr r x p m : Nat → Int32) (K : Nat) (hK : (hd l0 K) + 3 + (lnA l0 K) ≤ l0.length) (h1 : 1 ≤ (lnA l0 K)) (hs : (l0.getD ((hd l0 K) + 3) 0) ≤ 10) : Ct l g y_Md_takeLayer b_Md_takeLayer 7 none (rmD 3) [.ref (R 0), .int (nI (hd l0 K)), .int (nI 0)] ([mdC R dn pl l0.length ss pt th rd wd sc, iaC g (R 14) 48 z, iaC g (R 15) 48 o, iaC g (R 16) 4400 d, iaC g (R 8) 1200 (dcF l0 f), iaC g (R 12) 128 co, iaC g (R 13) 128 un, iaC g (R 17) 64 gr, iaC g (R 18) 8 r, iaC g (R 19) 8 x, iaC g (R 20) 64 p, zaC g (R 21) 64 m]) (fun u q => u = none ∧ ∃ (r1 : Bool) (w1 s1 : Nat) (z1 o1 d1 gv g1 r2 x1 p1 m1 : Nat → Int32), (∀ k, k < 8 * 8 → gv (i8 8 k) = lyCV l0 8 ((hd l0 K) + 3) (lnA l0 K) k) ∧ q = [mdC R dn pl l0.length ss pt th r1 w1 s1, iaC g (R 14) 48 z1, iaC g (R 15) 48 o1, iaC g (R 16) 4400 d1, iaC g (R 8) 1200 (dcF l0 f), iaC g (R 12) 128 (cpy 0 co gv 64), iaC g (R 13) 128 (cpy 0 un (flat 8 (undoN 8 (fun y x => gv (8 * y + x)))) 64), iaC g (R 17) 64 g1, iaC g (R 18) 8 r2, iaC g (R 19) 8 x1, iaC g (R 20) 64 p1, zaC g (R 21) 64 m1]) := by
  refine ct_of [some (.ref (R 0)), some (.int (nI (hd l0 K))), some (.int (nI 0)), none, none, none, none] (by decide) (Nat.le_of_ble_eq_true rfl) rfl ?_
  intro X C E
  have h12 := hl.1
  have hc := hl.2 ((hd l0 K) + 3)
  have hKm := (hd_mono l0 (Nat.le_refl K)).2
  have c169 : ∀ (p8 : Nat → Nat) (m8 : Nat → Bool) (r1 x1 : Nat → Int32) (v5 : Int32), rl 8 p8 m8 (lyP (some (dgt l0 ((hd l0 K) + 3 + 1) ((hd l0 K) + 3 + (lnA l0 K)))) 8 (fun _ => nI 0) (l0.getD ((hd l0 K) + 3) 0)).2.1 (lyP (some (dgt l0 ((hd l0 K) + 3 + 1) ((hd l0 K) + 3 + (lnA l0 K)))) 8 (fun _ => nI 0) (l0.getD ((hd l0 K) + 3) 0)).2.2 → SW X g 7 0 0 ([mdC R dn pl l0.length ss pt th true ((lyP (some (dgt l0 ((hd l0 K) + 3 + 1) ((hd l0 K) + 3 + (lnA l0 K)))) 8 (fun _ => nI 0) (l0.getD ((hd l0 K) + 3) 0)).1.1.2.2.1) ((lyP (some (dgt l0 ((hd l0 K) + 3 + 1) ((hd l0 K) + 3 + (lnA l0 K)))) 8 (fun _ => nI 0) (l0.getD ((hd l0 K) + 3) 0)).1.1.2.2.2), iaC g (R 14) 48 (nF (lyP (some (dgt l0 ((hd l0 K) + 3 + 1) ((hd l0 K) + 3 + (lnA l0 K)))) 8 (fun _ => nI 0) (l0.getD ((hd l0 K) + 3) 0)).1.1.1), iaC g (R 15) 48 (nF (lyP (some (dgt l0 ((hd l0 K) + 3 + 1) ((hd l0 K) + 3 + (lnA l0 K)))) 8 (fun _ => nI 0) (l0.getD ((hd l0 K) + 3) 0)).1.1.2.1), iaC g (R 16) 4400 (nF (rdg (dgt l0 ((hd l0 K) + 3 + 1) ((hd l0 K) + 3 + (lnA l0 K))) (lyP (some (dgt l0 ((hd l0 K) + 3 + 1) ((hd l0 K) + 3 + (lnA l0 K)))) 8 (fun _ => nI 0) (l0.getD ((hd l0 K) + 3) 0)).1.2 (lyP (some (dgt l0 ((hd l0 K) + 3 + 1) ((hd l0 K) + 3 + (lnA l0 K)))) 8 (fun _ => nI 0) (l0.getD ((hd l0 K) + 3) 0)).1.1.2.2.2)), iaC g (R 8) 1200 (dcF l0 f), iaC g (R 12) 128 (cpy 0 co (gvF p8 m8 (l0.getD ((hd l0 K) + 3) 0)) 64), iaC g (R 13) 128 un, iaC g (R 17) 64 (flat 8 (undoN 8 (fun y x => (gvF p8 m8 (l0.getD ((hd l0 K) + 3) 0)) (8 * y + x)))), iaC g (R 18) 8 r1, iaC g (R 19) 8 x1, iaC g (R 20) 64 (nF p8), zaC g (R 21) 64 (bF m8)]) 169 [some (.ref (R 0)), some (.int (nI (hd l0 K))), some (.int (nI 0)), some (.int (nI 8)), some (.int (nI (l0.getD ((hd l0 K) + 3) 0))), some (.int v5), none] [] := by
    intro p8 m8 r1 x1 v5 hr
    have key : ∀ (nn i : Nat) , i + nn = 64 → SW X g 7 0 0 ([mdC R dn pl l0.length ss pt th true ((lyP (some (dgt l0 ((hd l0 K) + 3 + 1) ((hd l0 K) + 3 + (lnA l0 K)))) 8 (fun _ => nI 0) (l0.getD ((hd l0 K) + 3) 0)).1.1.2.2.1) ((lyP (some (dgt l0 ((hd l0 K) + 3 + 1) ((hd l0 K) + 3 + (lnA l0 K)))) 8 (fun _ => nI 0) (l0.getD ((hd l0 K) + 3) 0)).1.1.2.2.2), iaC g (R 14) 48 (nF (lyP (some (dgt l0 ((hd l0 K) + 3 + 1) ((hd l0 K) + 3 + (lnA l0 K)))) 8 (fun _ => nI 0) (l0.getD ((hd l0 K) + 3) 0)).1.1.1), iaC g (R 15) 48 (nF (lyP (some (dgt l0 ((hd l0 K) + 3 + 1) ((hd l0 K) + 3 + (lnA l0 K)))) 8 (fun _ => nI 0) (l0.getD ((hd l0 K) + 3) 0)).1.1.2.1), iaC g (R 16) 4400 (nF (rdg (dgt l0 ((hd l0 K) + 3 + 1) ((hd l0 K) + 3 + (lnA l0 K))) (lyP (some (dgt l0 ((hd l0 K) + 3 + 1) ((hd l0 K) + 3 + (lnA l0 K)))) 8 (fun _ => nI 0) (l0.getD ((hd l0 K) + 3) 0)).1.2 (lyP (some (dgt l0 ((hd l0 K) + 3 + 1) ((hd l0 K) + 3 + (lnA l0 K)))) 8 (fun _ => nI 0) (l0.getD ((hd l0 K) + 3) 0)).1.1.2.2.2)), iaC g (R 8) 1200 (dcF l0 f), iaC g (R 12) 128 (cpy 0 co (gvF p8 m8 (l0.getD ((hd l0 K) + 3) 0)) 64), iaC g (R 13) 128 (cpy 0 un (flat 8 (undoN 8 (fun y x => (gvF p8 m8 (l0.getD ((hd l0 K) + 3) 0)) (8 * y + x)))) i), iaC g (R 17) 64 (flat 8 (undoN 8 (fun y x => (gvF p8 m8 (l0.getD ((hd l0 K) + 3) 0)) (8 * y + x)))), iaC g (R 18) 8 r1, iaC g (R 19) 8 x1, iaC g (R 20) 64 (nF p8), zaC g (R 21) 64 (bF m8)]) 172 [some (.ref (R 0)), some (.int (nI (hd l0 K))), some (.int (nI 0)), some (.int (nI 8)), some (.int (nI (l0.getD ((hd l0 K) + 3) 0))), some (.int (nI i)), none] [] := by
      intro nn
      induction nn with
      | zero =>
        intro i  hi 
        refine sw_iload (pc := 172) C d_Md_takeLayer_172 rfl ?_
        refine sw_bipush (pc := 174) C (nI 64) d_Md_takeLayer_174 (by decide) ?_
        refine sw_icmp_geN (pc := 176) C 204 (by omega) (by omega) d_Md_takeLayer_176 (by decide) (fun hx => ?_) (fun hx => ?_)
        · skip
          have ei : i = 64 := by omega
          subst ei
          exact sw_vret (pc := 204) C E rfl (Nat.le_of_ble_eq_true rfl) (Nat.le_of_ble_eq_true rfl) d_Md_takeLayer_204 ⟨rfl, _, _, _, _, _, _, (gvF p8 m8 (l0.getD ((hd l0 K) + 3) 0)), _, _, _, _, _, fun k hk => gvF_at hs hr hk, rfl⟩
        omega
      | succ nn ih =>
        intro i  hi 
        refine sw_iload (pc := 172) C d_Md_takeLayer_172 rfl ?_
        refine sw_bipush (pc := 174) C (nI 64) d_Md_takeLayer_174 (by decide) ?_
        refine sw_icmp_geN (pc := 176) C 204 (by omega) (by omega) d_Md_takeLayer_176 (by decide) (fun hx => ?_) (fun hx => ?_)
        · skip
          omega
        refine sw_aload_n (pc := 179) C d_Md_takeLayer_179 rfl rfl ?_
        refine sw_get (pc := 180) C inMd 0 rfl rfl 18 (by decide) t_590 rfl rfl d_Md_takeLayer_180 ?_
        refine sw_bipush (pc := 183) C (nI 64) d_Md_takeLayer_183 (by decide) ?_
        refine sw_iload_n (pc := 185) C d_Md_takeLayer_185 rfl rfl ?_
        refine sw_imul (pc := 186) C d_Md_takeLayer_186 ?_
        refine sw_topi (z := nI (64 * 0)) (pk_mul _ _) ?_
        refine sw_iload (pc := 187) C d_Md_takeLayer_187 rfl ?_
        refine sw_iadd (pc := 189) C d_Md_takeLayer_189 ?_
        refine sw_topi (z := nI ((64 * 0) + i)) (nI_add _ _) ?_
        refine sw_aload_n (pc := 190) C d_Md_takeLayer_190 rfl rfl ?_
        refine sw_get (pc := 191) C inMd 0 rfl rfl 25 (by decide) t_597 rfl rfl d_Md_takeLayer_191 ?_
        refine sw_iload (pc := 194) C d_Md_takeLayer_194 rfl ?_
        refine sw_ialdN (pc := 196) C 7 i rfl rfl (by omega) (by decide) d_Md_takeLayer_196 ?_
        refine sw_iastN (pc := 197) C 6 ((64 * 0) + i) rfl rfl (by omega) (by decide) d_Md_takeLayer_197 ?_
        refine sw_ws (ws' := [mdC R dn pl l0.length ss pt th true ((lyP (some (dgt l0 ((hd l0 K) + 3 + 1) ((hd l0 K) + 3 + (lnA l0 K)))) 8 (fun _ => nI 0) (l0.getD ((hd l0 K) + 3) 0)).1.1.2.2.1) ((lyP (some (dgt l0 ((hd l0 K) + 3 + 1) ((hd l0 K) + 3 + (lnA l0 K)))) 8 (fun _ => nI 0) (l0.getD ((hd l0 K) + 3) 0)).1.1.2.2.2), iaC g (R 14) 48 (nF (lyP (some (dgt l0 ((hd l0 K) + 3 + 1) ((hd l0 K) + 3 + (lnA l0 K)))) 8 (fun _ => nI 0) (l0.getD ((hd l0 K) + 3) 0)).1.1.1), iaC g (R 15) 48 (nF (lyP (some (dgt l0 ((hd l0 K) + 3 + 1) ((hd l0 K) + 3 + (lnA l0 K)))) 8 (fun _ => nI 0) (l0.getD ((hd l0 K) + 3) 0)).1.1.2.1), iaC g (R 16) 4400 (nF (rdg (dgt l0 ((hd l0 K) + 3 + 1) ((hd l0 K) + 3 + (lnA l0 K))) (lyP (some (dgt l0 ((hd l0 K) + 3 + 1) ((hd l0 K) + 3 + (lnA l0 K)))) 8 (fun _ => nI 0) (l0.getD ((hd l0 K) + 3) 0)).1.2 (lyP (some (dgt l0 ((hd l0 K) + 3 + 1) ((hd l0 K) + 3 + (lnA l0 K)))) 8 (fun _ => nI 0) (l0.getD ((hd l0 K) + 3) 0)).1.1.2.2.2)), iaC g (R 8) 1200 (dcF l0 f), iaC g (R 12) 128 (cpy 0 co (gvF p8 m8 (l0.getD ((hd l0 K) + 3) 0)) 64), iaC g (R 13) 128 (cpy 0 un (flat 8 (undoN 8 (fun y x => (gvF p8 m8 (l0.getD ((hd l0 K) + 3) 0)) (8 * y + x)))) (i + 1)), iaC g (R 17) 64 (flat 8 (undoN 8 (fun y x => (gvF p8 m8 (l0.getD ((hd l0 K) + 3) 0)) (8 * y + x)))), iaC g (R 18) 8 r1, iaC g (R 19) 8 x1, iaC g (R 20) 64 (nF p8), zaC g (R 21) 64 (bF m8)]) (by rw [← cpy_up 0 un (flat 8 (undoN 8 (fun y x => (gvF p8 m8 (l0.getD ((hd l0 K) + 3) 0)) (8 * y + x)))) i]; rfl) ?_
        refine sw_iincN (pc := 198) C 1 d_Md_takeLayer_198 rfl (by decide) (by decide) rfl ?_
        refine sw_goto (pc := 201) C 172 d_Md_takeLayer_201 (by decide) ?_
        exact ih (i + 1) (by omega)
    refine sw_iconst (pc := 169) C (nI 0) d_Md_takeLayer_169 (by decide) ?_
    refine sw_istore (pc := 170) C d_Md_takeLayer_170 (by decide) rfl ?_
    refine sw_ws (ws' := [mdC R dn pl l0.length ss pt th true ((lyP (some (dgt l0 ((hd l0 K) + 3 + 1) ((hd l0 K) + 3 + (lnA l0 K)))) 8 (fun _ => nI 0) (l0.getD ((hd l0 K) + 3) 0)).1.1.2.2.1) ((lyP (some (dgt l0 ((hd l0 K) + 3 + 1) ((hd l0 K) + 3 + (lnA l0 K)))) 8 (fun _ => nI 0) (l0.getD ((hd l0 K) + 3) 0)).1.1.2.2.2), iaC g (R 14) 48 (nF (lyP (some (dgt l0 ((hd l0 K) + 3 + 1) ((hd l0 K) + 3 + (lnA l0 K)))) 8 (fun _ => nI 0) (l0.getD ((hd l0 K) + 3) 0)).1.1.1), iaC g (R 15) 48 (nF (lyP (some (dgt l0 ((hd l0 K) + 3 + 1) ((hd l0 K) + 3 + (lnA l0 K)))) 8 (fun _ => nI 0) (l0.getD ((hd l0 K) + 3) 0)).1.1.2.1), iaC g (R 16) 4400 (nF (rdg (dgt l0 ((hd l0 K) + 3 + 1) ((hd l0 K) + 3 + (lnA l0 K))) (lyP (some (dgt l0 ((hd l0 K) + 3 + 1) ((hd l0 K) + 3 + (lnA l0 K)))) 8 (fun _ => nI 0) (l0.getD ((hd l0 K) + 3) 0)).1.2 (lyP (some (dgt l0 ((hd l0 K) + 3 + 1) ((hd l0 K) + 3 + (lnA l0 K)))) 8 (fun _ => nI 0) (l0.getD ((hd l0 K) + 3) 0)).1.1.2.2.2)), iaC g (R 8) 1200 (dcF l0 f), iaC g (R 12) 128 (cpy 0 co (gvF p8 m8 (l0.getD ((hd l0 K) + 3) 0)) 64), iaC g (R 13) 128 (cpy 0 un (flat 8 (undoN 8 (fun y x => (gvF p8 m8 (l0.getD ((hd l0 K) + 3) 0)) (8 * y + x)))) 0), iaC g (R 17) 64 (flat 8 (undoN 8 (fun y x => (gvF p8 m8 (l0.getD ((hd l0 K) + 3) 0)) (8 * y + x)))), iaC g (R 18) 8 r1, iaC g (R 19) 8 x1, iaC g (R 20) 64 (nF p8), zaC g (R 21) 64 (bF m8)]) (by rw [cpy_0]) ?_
    exact key 64 0 (by omega)
  have c135 : ∀ (p8 : Nat → Nat) (m8 : Nat → Bool) (v5 : Int32), rl 8 p8 m8 (lyP (some (dgt l0 ((hd l0 K) + 3 + 1) ((hd l0 K) + 3 + (lnA l0 K)))) 8 (fun _ => nI 0) (l0.getD ((hd l0 K) + 3) 0)).2.1 (lyP (some (dgt l0 ((hd l0 K) + 3 + 1) ((hd l0 K) + 3 + (lnA l0 K)))) 8 (fun _ => nI 0) (l0.getD ((hd l0 K) + 3) 0)).2.2 → SW X g 7 0 0 ([mdC R dn pl l0.length ss pt th true ((lyP (some (dgt l0 ((hd l0 K) + 3 + 1) ((hd l0 K) + 3 + (lnA l0 K)))) 8 (fun _ => nI 0) (l0.getD ((hd l0 K) + 3) 0)).1.1.2.2.1) ((lyP (some (dgt l0 ((hd l0 K) + 3 + 1) ((hd l0 K) + 3 + (lnA l0 K)))) 8 (fun _ => nI 0) (l0.getD ((hd l0 K) + 3) 0)).1.1.2.2.2), iaC g (R 14) 48 (nF (lyP (some (dgt l0 ((hd l0 K) + 3 + 1) ((hd l0 K) + 3 + (lnA l0 K)))) 8 (fun _ => nI 0) (l0.getD ((hd l0 K) + 3) 0)).1.1.1), iaC g (R 15) 48 (nF (lyP (some (dgt l0 ((hd l0 K) + 3 + 1) ((hd l0 K) + 3 + (lnA l0 K)))) 8 (fun _ => nI 0) (l0.getD ((hd l0 K) + 3) 0)).1.1.2.1), iaC g (R 16) 4400 (nF (rdg (dgt l0 ((hd l0 K) + 3 + 1) ((hd l0 K) + 3 + (lnA l0 K))) (lyP (some (dgt l0 ((hd l0 K) + 3 + 1) ((hd l0 K) + 3 + (lnA l0 K)))) 8 (fun _ => nI 0) (l0.getD ((hd l0 K) + 3) 0)).1.2 (lyP (some (dgt l0 ((hd l0 K) + 3 + 1) ((hd l0 K) + 3 + (lnA l0 K)))) 8 (fun _ => nI 0) (l0.getD ((hd l0 K) + 3) 0)).1.1.2.2.2)), iaC g (R 8) 1200 (dcF l0 f), iaC g (R 12) 128 (cpy 0 co (gvF p8 m8 (l0.getD ((hd l0 K) + 3) 0)) 64), iaC g (R 13) 128 un, iaC g (R 17) 64 (flat 8 (fun y x => (gvF p8 m8 (l0.getD ((hd l0 K) + 3) 0)) (8 * y + x))), iaC g (R 18) 8 r, iaC g (R 19) 8 x, iaC g (R 20) 64 (nF p8), zaC g (R 21) 64 (bF m8)]) 135 [some (.ref (R 0)), some (.int (nI (hd l0 K))), some (.int (nI 0)), some (.int (nI 8)), some (.int (nI (l0.getD ((hd l0 K) + 3) 0))), some (.int v5), none] [] := by
    intro p8 m8 v5 hr
    refine sw_iconst (pc := 135) C (nI 2) d_Md_takeLayer_135 (by decide) ?_
    refine sw_istore (pc := 136) C d_Md_takeLayer_136 (by decide) rfl ?_
    refine sw_iload (pc := 138) C d_Md_takeLayer_138 rfl ?_
    refine sw_iload_n (pc := 140) C d_Md_takeLayer_140 rfl rfl ?_
    refine sw_icmp_gtN (pc := 141) C 169 (by omega) (by omega) d_Md_takeLayer_141 (by decide) (fun hx => ?_) (fun hx => ?_)
    · skip
      omega
    refine sw_aload_n (pc := 144) C d_Md_takeLayer_144 rfl rfl ?_
    refine sw_iload (pc := 145) C d_Md_takeLayer_145 rfl ?_
    refine sw_iconst (pc := 147) C (nI 0) d_Md_takeLayer_147 (by decide) ?_
    refine sw_topi (z := bI false) rfl ?_
    refine sw_iconst (pc := 148) C (nI 0) d_Md_takeLayer_148 (by decide) ?_
    refine sw_topi (z := bI false) rfl ?_
    refine sw_callVP (pc := 149) C (c_Md_all l g R dn pl l0.length ss pt th true (lyP (some (dgt l0 ((hd l0 K) + 3 + 1) ((hd l0 K) + 3 + (lnA l0 K)))) 8 (fun _ => nI 0) (l0.getD ((hd l0 K) + 3) 0)).1.1.2.2.1 (lyP (some (dgt l0 ((hd l0 K) + 3 + 1) ((hd l0 K) + 3 + (lnA l0 K)))) 8 (fun _ => nI 0) (l0.getD ((hd l0 K) + 3) 0)).1.1.2.2.2 ((fun y x => (gvF p8 m8 (l0.getD ((hd l0 K) + 3) 0)) (8 * y + x))) r x 2 (by decide) false false) sv_Md_all t_741 rfl rfl rfl [0, 7, 8, 9] rfl rfl rfl rfl (Nat.le_of_ble_eq_true rfl) (Nat.le_of_ble_eq_true rfl) (Nat.le_of_ble_eq_true rfl) (Nat.le_of_ble_eq_true rfl) (Nat.le_of_ble_eq_true rfl) d_Md_takeLayer_149 (fun v w1 hp => ?_)
    obtain ⟨rfl, ra2, xa2, rfl⟩ := hp
    refine ⟨rfl, ?_⟩
    refine sw_ws (ws' := [mdC R dn pl l0.length ss pt th true ((lyP (some (dgt l0 ((hd l0 K) + 3 + 1) ((hd l0 K) + 3 + (lnA l0 K)))) 8 (fun _ => nI 0) (l0.getD ((hd l0 K) + 3) 0)).1.1.2.2.1) ((lyP (some (dgt l0 ((hd l0 K) + 3 + 1) ((hd l0 K) + 3 + (lnA l0 K)))) 8 (fun _ => nI 0) (l0.getD ((hd l0 K) + 3) 0)).1.1.2.2.2), iaC g (R 14) 48 (nF (lyP (some (dgt l0 ((hd l0 K) + 3 + 1) ((hd l0 K) + 3 + (lnA l0 K)))) 8 (fun _ => nI 0) (l0.getD ((hd l0 K) + 3) 0)).1.1.1), iaC g (R 15) 48 (nF (lyP (some (dgt l0 ((hd l0 K) + 3 + 1) ((hd l0 K) + 3 + (lnA l0 K)))) 8 (fun _ => nI 0) (l0.getD ((hd l0 K) + 3) 0)).1.1.2.1), iaC g (R 16) 4400 (nF (rdg (dgt l0 ((hd l0 K) + 3 + 1) ((hd l0 K) + 3 + (lnA l0 K))) (lyP (some (dgt l0 ((hd l0 K) + 3 + 1) ((hd l0 K) + 3 + (lnA l0 K)))) 8 (fun _ => nI 0) (l0.getD ((hd l0 K) + 3) 0)).1.2 (lyP (some (dgt l0 ((hd l0 K) + 3 + 1) ((hd l0 K) + 3 + (lnA l0 K)))) 8 (fun _ => nI 0) (l0.getD ((hd l0 K) + 3) 0)).1.1.2.2.2)), iaC g (R 8) 1200 (dcF l0 f), iaC g (R 12) 128 (cpy 0 co (gvF p8 m8 (l0.getD ((hd l0 K) + 3) 0)) 64), iaC g (R 13) 128 un, iaC g (R 17) 64 (flat 8 (colsU (drR 2) 2 ((fun y x => (gvF p8 m8 (l0.getD ((hd l0 K) + 3) 0)) (8 * y + x))))), iaC g (R 18) 8 ra2, iaC g (R 19) 8 xa2, iaC g (R 20) 64 (nF p8), zaC g (R 21) 64 (bF m8)]) rfl ?_
    refine sw_aload_n (pc := 152) C d_Md_takeLayer_152 rfl rfl ?_
    refine sw_iload (pc := 153) C d_Md_takeLayer_153 rfl ?_
    refine sw_iconst (pc := 155) C (nI 1) d_Md_takeLayer_155 (by decide) ?_
    refine sw_topi (z := bI true) rfl ?_
    refine sw_iconst (pc := 156) C (nI 0) d_Md_takeLayer_156 (by decide) ?_
    refine sw_topi (z := bI false) rfl ?_
    refine sw_callVP (pc := 157) C (c_Md_all l g R dn pl l0.length ss pt th true (lyP (some (dgt l0 ((hd l0 K) + 3 + 1) ((hd l0 K) + 3 + (lnA l0 K)))) 8 (fun _ => nI 0) (l0.getD ((hd l0 K) + 3) 0)).1.1.2.2.1 (lyP (some (dgt l0 ((hd l0 K) + 3 + 1) ((hd l0 K) + 3 + (lnA l0 K)))) 8 (fun _ => nI 0) (l0.getD ((hd l0 K) + 3) 0)).1.1.2.2.2 (colsU (drR 2) 2 ((fun y x => (gvF p8 m8 (l0.getD ((hd l0 K) + 3) 0)) (8 * y + x)))) ra2 xa2 2 (by decide) true false) sv_Md_all t_741 rfl rfl rfl [0, 7, 8, 9] rfl rfl rfl rfl (Nat.le_of_ble_eq_true rfl) (Nat.le_of_ble_eq_true rfl) (Nat.le_of_ble_eq_true rfl) (Nat.le_of_ble_eq_true rfl) (Nat.le_of_ble_eq_true rfl) d_Md_takeLayer_157 (fun v w1 hp => ?_)
    obtain ⟨rfl, rb2, xb2, rfl⟩ := hp
    refine ⟨rfl, ?_⟩
    refine sw_ws (ws' := [mdC R dn pl l0.length ss pt th true ((lyP (some (dgt l0 ((hd l0 K) + 3 + 1) ((hd l0 K) + 3 + (lnA l0 K)))) 8 (fun _ => nI 0) (l0.getD ((hd l0 K) + 3) 0)).1.1.2.2.1) ((lyP (some (dgt l0 ((hd l0 K) + 3 + 1) ((hd l0 K) + 3 + (lnA l0 K)))) 8 (fun _ => nI 0) (l0.getD ((hd l0 K) + 3) 0)).1.1.2.2.2), iaC g (R 14) 48 (nF (lyP (some (dgt l0 ((hd l0 K) + 3 + 1) ((hd l0 K) + 3 + (lnA l0 K)))) 8 (fun _ => nI 0) (l0.getD ((hd l0 K) + 3) 0)).1.1.1), iaC g (R 15) 48 (nF (lyP (some (dgt l0 ((hd l0 K) + 3 + 1) ((hd l0 K) + 3 + (lnA l0 K)))) 8 (fun _ => nI 0) (l0.getD ((hd l0 K) + 3) 0)).1.1.2.1), iaC g (R 16) 4400 (nF (rdg (dgt l0 ((hd l0 K) + 3 + 1) ((hd l0 K) + 3 + (lnA l0 K))) (lyP (some (dgt l0 ((hd l0 K) + 3 + 1) ((hd l0 K) + 3 + (lnA l0 K)))) 8 (fun _ => nI 0) (l0.getD ((hd l0 K) + 3) 0)).1.2 (lyP (some (dgt l0 ((hd l0 K) + 3 + 1) ((hd l0 K) + 3 + (lnA l0 K)))) 8 (fun _ => nI 0) (l0.getD ((hd l0 K) + 3) 0)).1.1.2.2.2)), iaC g (R 8) 1200 (dcF l0 f), iaC g (R 12) 128 (cpy 0 co (gvF p8 m8 (l0.getD ((hd l0 K) + 3) 0)) 64), iaC g (R 13) 128 un, iaC g (R 17) 64 (flat 8 (levD 2 ((fun y x => (gvF p8 m8 (l0.getD ((hd l0 K) + 3) 0)) (8 * y + x))))), iaC g (R 18) 8 rb2, iaC g (R 19) 8 xb2, iaC g (R 20) 64 (nF p8), zaC g (R 21) 64 (bF m8)]) rfl ?_
    refine sw_iload (pc := 160) C d_Md_takeLayer_160 rfl ?_
    refine sw_iconst (pc := 162) C (nI 2) d_Md_takeLayer_162 (by decide) ?_
    refine sw_imul (pc := 163) C d_Md_takeLayer_163 ?_
    refine sw_topi (z := nI (2 * 2)) (pk_mul _ _) ?_
    refine sw_topi (z := nI 4) rfl ?_
    refine sw_istore (pc := 164) C d_Md_takeLayer_164 (by decide) rfl ?_
    refine sw_goto (pc := 166) C 138 d_Md_takeLayer_166 (by decide) ?_
    refine sw_iload (pc := 138) C d_Md_takeLayer_138 rfl ?_
    refine sw_iload_n (pc := 140) C d_Md_takeLayer_140 rfl rfl ?_
    refine sw_icmp_gtN (pc := 141) C 169 (by omega) (by omega) d_Md_takeLayer_141 (by decide) (fun hx => ?_) (fun hx => ?_)
    · skip
      omega
    refine sw_aload_n (pc := 144) C d_Md_takeLayer_144 rfl rfl ?_
    refine sw_iload (pc := 145) C d_Md_takeLayer_145 rfl ?_
    refine sw_iconst (pc := 147) C (nI 0) d_Md_takeLayer_147 (by decide) ?_
    refine sw_topi (z := bI false) rfl ?_
    refine sw_iconst (pc := 148) C (nI 0) d_Md_takeLayer_148 (by decide) ?_
    refine sw_topi (z := bI false) rfl ?_
    refine sw_callVP (pc := 149) C (c_Md_all l g R dn pl l0.length ss pt th true (lyP (some (dgt l0 ((hd l0 K) + 3 + 1) ((hd l0 K) + 3 + (lnA l0 K)))) 8 (fun _ => nI 0) (l0.getD ((hd l0 K) + 3) 0)).1.1.2.2.1 (lyP (some (dgt l0 ((hd l0 K) + 3 + 1) ((hd l0 K) + 3 + (lnA l0 K)))) 8 (fun _ => nI 0) (l0.getD ((hd l0 K) + 3) 0)).1.1.2.2.2 (levD 2 ((fun y x => (gvF p8 m8 (l0.getD ((hd l0 K) + 3) 0)) (8 * y + x)))) rb2 xb2 4 (by decide) false false) sv_Md_all t_741 rfl rfl rfl [0, 7, 8, 9] rfl rfl rfl rfl (Nat.le_of_ble_eq_true rfl) (Nat.le_of_ble_eq_true rfl) (Nat.le_of_ble_eq_true rfl) (Nat.le_of_ble_eq_true rfl) (Nat.le_of_ble_eq_true rfl) d_Md_takeLayer_149 (fun v w1 hp => ?_)
    obtain ⟨rfl, ra4, xa4, rfl⟩ := hp
    refine ⟨rfl, ?_⟩
    refine sw_ws (ws' := [mdC R dn pl l0.length ss pt th true ((lyP (some (dgt l0 ((hd l0 K) + 3 + 1) ((hd l0 K) + 3 + (lnA l0 K)))) 8 (fun _ => nI 0) (l0.getD ((hd l0 K) + 3) 0)).1.1.2.2.1) ((lyP (some (dgt l0 ((hd l0 K) + 3 + 1) ((hd l0 K) + 3 + (lnA l0 K)))) 8 (fun _ => nI 0) (l0.getD ((hd l0 K) + 3) 0)).1.1.2.2.2), iaC g (R 14) 48 (nF (lyP (some (dgt l0 ((hd l0 K) + 3 + 1) ((hd l0 K) + 3 + (lnA l0 K)))) 8 (fun _ => nI 0) (l0.getD ((hd l0 K) + 3) 0)).1.1.1), iaC g (R 15) 48 (nF (lyP (some (dgt l0 ((hd l0 K) + 3 + 1) ((hd l0 K) + 3 + (lnA l0 K)))) 8 (fun _ => nI 0) (l0.getD ((hd l0 K) + 3) 0)).1.1.2.1), iaC g (R 16) 4400 (nF (rdg (dgt l0 ((hd l0 K) + 3 + 1) ((hd l0 K) + 3 + (lnA l0 K))) (lyP (some (dgt l0 ((hd l0 K) + 3 + 1) ((hd l0 K) + 3 + (lnA l0 K)))) 8 (fun _ => nI 0) (l0.getD ((hd l0 K) + 3) 0)).1.2 (lyP (some (dgt l0 ((hd l0 K) + 3 + 1) ((hd l0 K) + 3 + (lnA l0 K)))) 8 (fun _ => nI 0) (l0.getD ((hd l0 K) + 3) 0)).1.1.2.2.2)), iaC g (R 8) 1200 (dcF l0 f), iaC g (R 12) 128 (cpy 0 co (gvF p8 m8 (l0.getD ((hd l0 K) + 3) 0)) 64), iaC g (R 13) 128 un, iaC g (R 17) 64 (flat 8 (colsU (drR 4) 4 (levD 2 ((fun y x => (gvF p8 m8 (l0.getD ((hd l0 K) + 3) 0)) (8 * y + x)))))), iaC g (R 18) 8 ra4, iaC g (R 19) 8 xa4, iaC g (R 20) 64 (nF p8), zaC g (R 21) 64 (bF m8)]) rfl ?_
    refine sw_aload_n (pc := 152) C d_Md_takeLayer_152 rfl rfl ?_
    refine sw_iload (pc := 153) C d_Md_takeLayer_153 rfl ?_
    refine sw_iconst (pc := 155) C (nI 1) d_Md_takeLayer_155 (by decide) ?_
    refine sw_topi (z := bI true) rfl ?_
    refine sw_iconst (pc := 156) C (nI 0) d_Md_takeLayer_156 (by decide) ?_
    refine sw_topi (z := bI false) rfl ?_
    refine sw_callVP (pc := 157) C (c_Md_all l g R dn pl l0.length ss pt th true (lyP (some (dgt l0 ((hd l0 K) + 3 + 1) ((hd l0 K) + 3 + (lnA l0 K)))) 8 (fun _ => nI 0) (l0.getD ((hd l0 K) + 3) 0)).1.1.2.2.1 (lyP (some (dgt l0 ((hd l0 K) + 3 + 1) ((hd l0 K) + 3 + (lnA l0 K)))) 8 (fun _ => nI 0) (l0.getD ((hd l0 K) + 3) 0)).1.1.2.2.2 (colsU (drR 4) 4 (levD 2 ((fun y x => (gvF p8 m8 (l0.getD ((hd l0 K) + 3) 0)) (8 * y + x))))) ra4 xa4 4 (by decide) true false) sv_Md_all t_741 rfl rfl rfl [0, 7, 8, 9] rfl rfl rfl rfl (Nat.le_of_ble_eq_true rfl) (Nat.le_of_ble_eq_true rfl) (Nat.le_of_ble_eq_true rfl) (Nat.le_of_ble_eq_true rfl) (Nat.le_of_ble_eq_true rfl) d_Md_takeLayer_157 (fun v w1 hp => ?_)
    obtain ⟨rfl, rb4, xb4, rfl⟩ := hp
    refine ⟨rfl, ?_⟩
    refine sw_ws (ws' := [mdC R dn pl l0.length ss pt th true ((lyP (some (dgt l0 ((hd l0 K) + 3 + 1) ((hd l0 K) + 3 + (lnA l0 K)))) 8 (fun _ => nI 0) (l0.getD ((hd l0 K) + 3) 0)).1.1.2.2.1) ((lyP (some (dgt l0 ((hd l0 K) + 3 + 1) ((hd l0 K) + 3 + (lnA l0 K)))) 8 (fun _ => nI 0) (l0.getD ((hd l0 K) + 3) 0)).1.1.2.2.2), iaC g (R 14) 48 (nF (lyP (some (dgt l0 ((hd l0 K) + 3 + 1) ((hd l0 K) + 3 + (lnA l0 K)))) 8 (fun _ => nI 0) (l0.getD ((hd l0 K) + 3) 0)).1.1.1), iaC g (R 15) 48 (nF (lyP (some (dgt l0 ((hd l0 K) + 3 + 1) ((hd l0 K) + 3 + (lnA l0 K)))) 8 (fun _ => nI 0) (l0.getD ((hd l0 K) + 3) 0)).1.1.2.1), iaC g (R 16) 4400 (nF (rdg (dgt l0 ((hd l0 K) + 3 + 1) ((hd l0 K) + 3 + (lnA l0 K))) (lyP (some (dgt l0 ((hd l0 K) + 3 + 1) ((hd l0 K) + 3 + (lnA l0 K)))) 8 (fun _ => nI 0) (l0.getD ((hd l0 K) + 3) 0)).1.2 (lyP (some (dgt l0 ((hd l0 K) + 3 + 1) ((hd l0 K) + 3 + (lnA l0 K)))) 8 (fun _ => nI 0) (l0.getD ((hd l0 K) + 3) 0)).1.1.2.2.2)), iaC g (R 8) 1200 (dcF l0 f), iaC g (R 12) 128 (cpy 0 co (gvF p8 m8 (l0.getD ((hd l0 K) + 3) 0)) 64), iaC g (R 13) 128 un, iaC g (R 17) 64 (flat 8 (levD 4 (levD 2 ((fun y x => (gvF p8 m8 (l0.getD ((hd l0 K) + 3) 0)) (8 * y + x)))))), iaC g (R 18) 8 rb4, iaC g (R 19) 8 xb4, iaC g (R 20) 64 (nF p8), zaC g (R 21) 64 (bF m8)]) rfl ?_
    refine sw_iload (pc := 160) C d_Md_takeLayer_160 rfl ?_
    refine sw_iconst (pc := 162) C (nI 2) d_Md_takeLayer_162 (by decide) ?_
    refine sw_imul (pc := 163) C d_Md_takeLayer_163 ?_
    refine sw_topi (z := nI (4 * 2)) (pk_mul _ _) ?_
    refine sw_topi (z := nI 8) rfl ?_
    refine sw_istore (pc := 164) C d_Md_takeLayer_164 (by decide) rfl ?_
    refine sw_goto (pc := 166) C 138 d_Md_takeLayer_166 (by decide) ?_
    refine sw_iload (pc := 138) C d_Md_takeLayer_138 rfl ?_
    refine sw_iload_n (pc := 140) C d_Md_takeLayer_140 rfl rfl ?_
    refine sw_icmp_gtN (pc := 141) C 169 (by omega) (by omega) d_Md_takeLayer_141 (by decide) (fun hx => ?_) (fun hx => ?_)
    · skip
      omega
    refine sw_aload_n (pc := 144) C d_Md_takeLayer_144 rfl rfl ?_
    refine sw_iload (pc := 145) C d_Md_takeLayer_145 rfl ?_
    refine sw_iconst (pc := 147) C (nI 0) d_Md_takeLayer_147 (by decide) ?_
    refine sw_topi (z := bI false) rfl ?_
    refine sw_iconst (pc := 148) C (nI 0) d_Md_takeLayer_148 (by decide) ?_
    refine sw_topi (z := bI false) rfl ?_
    refine sw_callVP (pc := 149) C (c_Md_all l g R dn pl l0.length ss pt th true (lyP (some (dgt l0 ((hd l0 K) + 3 + 1) ((hd l0 K) + 3 + (lnA l0 K)))) 8 (fun _ => nI 0) (l0.getD ((hd l0 K) + 3) 0)).1.1.2.2.1 (lyP (some (dgt l0 ((hd l0 K) + 3 + 1) ((hd l0 K) + 3 + (lnA l0 K)))) 8 (fun _ => nI 0) (l0.getD ((hd l0 K) + 3) 0)).1.1.2.2.2 (levD 4 (levD 2 ((fun y x => (gvF p8 m8 (l0.getD ((hd l0 K) + 3) 0)) (8 * y + x))))) rb4 xb4 8 (by decide) false false) sv_Md_all t_741 rfl rfl rfl [0, 7, 8, 9] rfl rfl rfl rfl (Nat.le_of_ble_eq_true rfl) (Nat.le_of_ble_eq_true rfl) (Nat.le_of_ble_eq_true rfl) (Nat.le_of_ble_eq_true rfl) (Nat.le_of_ble_eq_true rfl) d_Md_takeLayer_149 (fun v w1 hp => ?_)
    obtain ⟨rfl, ra8, xa8, rfl⟩ := hp
    refine ⟨rfl, ?_⟩
    refine sw_ws (ws' := [mdC R dn pl l0.length ss pt th true ((lyP (some (dgt l0 ((hd l0 K) + 3 + 1) ((hd l0 K) + 3 + (lnA l0 K)))) 8 (fun _ => nI 0) (l0.getD ((hd l0 K) + 3) 0)).1.1.2.2.1) ((lyP (some (dgt l0 ((hd l0 K) + 3 + 1) ((hd l0 K) + 3 + (lnA l0 K)))) 8 (fun _ => nI 0) (l0.getD ((hd l0 K) + 3) 0)).1.1.2.2.2), iaC g (R 14) 48 (nF (lyP (some (dgt l0 ((hd l0 K) + 3 + 1) ((hd l0 K) + 3 + (lnA l0 K)))) 8 (fun _ => nI 0) (l0.getD ((hd l0 K) + 3) 0)).1.1.1), iaC g (R 15) 48 (nF (lyP (some (dgt l0 ((hd l0 K) + 3 + 1) ((hd l0 K) + 3 + (lnA l0 K)))) 8 (fun _ => nI 0) (l0.getD ((hd l0 K) + 3) 0)).1.1.2.1), iaC g (R 16) 4400 (nF (rdg (dgt l0 ((hd l0 K) + 3 + 1) ((hd l0 K) + 3 + (lnA l0 K))) (lyP (some (dgt l0 ((hd l0 K) + 3 + 1) ((hd l0 K) + 3 + (lnA l0 K)))) 8 (fun _ => nI 0) (l0.getD ((hd l0 K) + 3) 0)).1.2 (lyP (some (dgt l0 ((hd l0 K) + 3 + 1) ((hd l0 K) + 3 + (lnA l0 K)))) 8 (fun _ => nI 0) (l0.getD ((hd l0 K) + 3) 0)).1.1.2.2.2)), iaC g (R 8) 1200 (dcF l0 f), iaC g (R 12) 128 (cpy 0 co (gvF p8 m8 (l0.getD ((hd l0 K) + 3) 0)) 64), iaC g (R 13) 128 un, iaC g (R 17) 64 (flat 8 (colsU (drR 8) 8 (levD 4 (levD 2 ((fun y x => (gvF p8 m8 (l0.getD ((hd l0 K) + 3) 0)) (8 * y + x))))))), iaC g (R 18) 8 ra8, iaC g (R 19) 8 xa8, iaC g (R 20) 64 (nF p8), zaC g (R 21) 64 (bF m8)]) rfl ?_
    refine sw_aload_n (pc := 152) C d_Md_takeLayer_152 rfl rfl ?_
    refine sw_iload (pc := 153) C d_Md_takeLayer_153 rfl ?_
    refine sw_iconst (pc := 155) C (nI 1) d_Md_takeLayer_155 (by decide) ?_
    refine sw_topi (z := bI true) rfl ?_
    refine sw_iconst (pc := 156) C (nI 0) d_Md_takeLayer_156 (by decide) ?_
    refine sw_topi (z := bI false) rfl ?_
    refine sw_callVP (pc := 157) C (c_Md_all l g R dn pl l0.length ss pt th true (lyP (some (dgt l0 ((hd l0 K) + 3 + 1) ((hd l0 K) + 3 + (lnA l0 K)))) 8 (fun _ => nI 0) (l0.getD ((hd l0 K) + 3) 0)).1.1.2.2.1 (lyP (some (dgt l0 ((hd l0 K) + 3 + 1) ((hd l0 K) + 3 + (lnA l0 K)))) 8 (fun _ => nI 0) (l0.getD ((hd l0 K) + 3) 0)).1.1.2.2.2 (colsU (drR 8) 8 (levD 4 (levD 2 ((fun y x => (gvF p8 m8 (l0.getD ((hd l0 K) + 3) 0)) (8 * y + x)))))) ra8 xa8 8 (by decide) true false) sv_Md_all t_741 rfl rfl rfl [0, 7, 8, 9] rfl rfl rfl rfl (Nat.le_of_ble_eq_true rfl) (Nat.le_of_ble_eq_true rfl) (Nat.le_of_ble_eq_true rfl) (Nat.le_of_ble_eq_true rfl) (Nat.le_of_ble_eq_true rfl) d_Md_takeLayer_157 (fun v w1 hp => ?_)
    obtain ⟨rfl, rb8, xb8, rfl⟩ := hp
    refine ⟨rfl, ?_⟩
    refine sw_ws (ws' := [mdC R dn pl l0.length ss pt th true ((lyP (some (dgt l0 ((hd l0 K) + 3 + 1) ((hd l0 K) + 3 + (lnA l0 K)))) 8 (fun _ => nI 0) (l0.getD ((hd l0 K) + 3) 0)).1.1.2.2.1) ((lyP (some (dgt l0 ((hd l0 K) + 3 + 1) ((hd l0 K) + 3 + (lnA l0 K)))) 8 (fun _ => nI 0) (l0.getD ((hd l0 K) + 3) 0)).1.1.2.2.2), iaC g (R 14) 48 (nF (lyP (some (dgt l0 ((hd l0 K) + 3 + 1) ((hd l0 K) + 3 + (lnA l0 K)))) 8 (fun _ => nI 0) (l0.getD ((hd l0 K) + 3) 0)).1.1.1), iaC g (R 15) 48 (nF (lyP (some (dgt l0 ((hd l0 K) + 3 + 1) ((hd l0 K) + 3 + (lnA l0 K)))) 8 (fun _ => nI 0) (l0.getD ((hd l0 K) + 3) 0)).1.1.2.1), iaC g (R 16) 4400 (nF (rdg (dgt l0 ((hd l0 K) + 3 + 1) ((hd l0 K) + 3 + (lnA l0 K))) (lyP (some (dgt l0 ((hd l0 K) + 3 + 1) ((hd l0 K) + 3 + (lnA l0 K)))) 8 (fun _ => nI 0) (l0.getD ((hd l0 K) + 3) 0)).1.2 (lyP (some (dgt l0 ((hd l0 K) + 3 + 1) ((hd l0 K) + 3 + (lnA l0 K)))) 8 (fun _ => nI 0) (l0.getD ((hd l0 K) + 3) 0)).1.1.2.2.2)), iaC g (R 8) 1200 (dcF l0 f), iaC g (R 12) 128 (cpy 0 co (gvF p8 m8 (l0.getD ((hd l0 K) + 3) 0)) 64), iaC g (R 13) 128 un, iaC g (R 17) 64 (flat 8 (levD 8 (levD 4 (levD 2 ((fun y x => (gvF p8 m8 (l0.getD ((hd l0 K) + 3) 0)) (8 * y + x))))))), iaC g (R 18) 8 rb8, iaC g (R 19) 8 xb8, iaC g (R 20) 64 (nF p8), zaC g (R 21) 64 (bF m8)]) rfl ?_
    refine sw_iload (pc := 160) C d_Md_takeLayer_160 rfl ?_
    refine sw_iconst (pc := 162) C (nI 2) d_Md_takeLayer_162 (by decide) ?_
    refine sw_imul (pc := 163) C d_Md_takeLayer_163 ?_
    refine sw_topi (z := nI (8 * 2)) (pk_mul _ _) ?_
    refine sw_topi (z := nI 16) rfl ?_
    refine sw_istore (pc := 164) C d_Md_takeLayer_164 (by decide) rfl ?_
    refine sw_goto (pc := 166) C 138 d_Md_takeLayer_166 (by decide) ?_
    refine sw_iload (pc := 138) C d_Md_takeLayer_138 rfl ?_
    refine sw_iload_n (pc := 140) C d_Md_takeLayer_140 rfl rfl ?_
    refine sw_icmp_gtN (pc := 141) C 169 (by omega) (by omega) d_Md_takeLayer_141 (by decide) (fun hx => ?_) (fun hx => ?_)
    · skip
      exact c169 p8 m8 rb8 xb8 _ hr
    omega
  have c60 : ∀ (p8 : Nat → Nat) (m8 : Nat → Bool) (g0 : Nat → Int32) (v5 : Int32), rl 8 p8 m8 (lyP (some (dgt l0 ((hd l0 K) + 3 + 1) ((hd l0 K) + 3 + (lnA l0 K)))) 8 (fun _ => nI 0) (l0.getD ((hd l0 K) + 3) 0)).2.1 (lyP (some (dgt l0 ((hd l0 K) + 3 + 1) ((hd l0 K) + 3 + (lnA l0 K)))) 8 (fun _ => nI 0) (l0.getD ((hd l0 K) + 3) 0)).2.2 → SW X g 7 0 0 ([mdC R dn pl l0.length ss pt th true ((lyP (some (dgt l0 ((hd l0 K) + 3 + 1) ((hd l0 K) + 3 + (lnA l0 K)))) 8 (fun _ => nI 0) (l0.getD ((hd l0 K) + 3) 0)).1.1.2.2.1) ((lyP (some (dgt l0 ((hd l0 K) + 3 + 1) ((hd l0 K) + 3 + (lnA l0 K)))) 8 (fun _ => nI 0) (l0.getD ((hd l0 K) + 3) 0)).1.1.2.2.2), iaC g (R 14) 48 (nF (lyP (some (dgt l0 ((hd l0 K) + 3 + 1) ((hd l0 K) + 3 + (lnA l0 K)))) 8 (fun _ => nI 0) (l0.getD ((hd l0 K) + 3) 0)).1.1.1), iaC g (R 15) 48 (nF (lyP (some (dgt l0 ((hd l0 K) + 3 + 1) ((hd l0 K) + 3 + (lnA l0 K)))) 8 (fun _ => nI 0) (l0.getD ((hd l0 K) + 3) 0)).1.1.2.1), iaC g (R 16) 4400 (nF (rdg (dgt l0 ((hd l0 K) + 3 + 1) ((hd l0 K) + 3 + (lnA l0 K))) (lyP (some (dgt l0 ((hd l0 K) + 3 + 1) ((hd l0 K) + 3 + (lnA l0 K)))) 8 (fun _ => nI 0) (l0.getD ((hd l0 K) + 3) 0)).1.2 (lyP (some (dgt l0 ((hd l0 K) + 3 + 1) ((hd l0 K) + 3 + (lnA l0 K)))) 8 (fun _ => nI 0) (l0.getD ((hd l0 K) + 3) 0)).1.1.2.2.2)), iaC g (R 8) 1200 (dcF l0 f), iaC g (R 12) 128 co, iaC g (R 13) 128 un, iaC g (R 17) 64 g0, iaC g (R 18) 8 r, iaC g (R 19) 8 x, iaC g (R 20) 64 (nF p8), zaC g (R 21) 64 (bF m8)]) 60 [some (.ref (R 0)), some (.int (nI (hd l0 K))), some (.int (nI 0)), some (.int (nI 8)), some (.int (nI (l0.getD ((hd l0 K) + 3) 0))), some (.int v5), none] [] := by
    intro p8 m8 g0 v5 hr
    have key : ∀ (nn i : Nat) (q : Nat → Int32), i + nn = 64 → (∀ j, j < i → q j = (gvF p8 m8 (l0.getD ((hd l0 K) + 3) 0)) j) → SW X g 7 0 0 ([mdC R dn pl l0.length ss pt th true ((lyP (some (dgt l0 ((hd l0 K) + 3 + 1) ((hd l0 K) + 3 + (lnA l0 K)))) 8 (fun _ => nI 0) (l0.getD ((hd l0 K) + 3) 0)).1.1.2.2.1) ((lyP (some (dgt l0 ((hd l0 K) + 3 + 1) ((hd l0 K) + 3 + (lnA l0 K)))) 8 (fun _ => nI 0) (l0.getD ((hd l0 K) + 3) 0)).1.1.2.2.2), iaC g (R 14) 48 (nF (lyP (some (dgt l0 ((hd l0 K) + 3 + 1) ((hd l0 K) + 3 + (lnA l0 K)))) 8 (fun _ => nI 0) (l0.getD ((hd l0 K) + 3) 0)).1.1.1), iaC g (R 15) 48 (nF (lyP (some (dgt l0 ((hd l0 K) + 3 + 1) ((hd l0 K) + 3 + (lnA l0 K)))) 8 (fun _ => nI 0) (l0.getD ((hd l0 K) + 3) 0)).1.1.2.1), iaC g (R 16) 4400 (nF (rdg (dgt l0 ((hd l0 K) + 3 + 1) ((hd l0 K) + 3 + (lnA l0 K))) (lyP (some (dgt l0 ((hd l0 K) + 3 + 1) ((hd l0 K) + 3 + (lnA l0 K)))) 8 (fun _ => nI 0) (l0.getD ((hd l0 K) + 3) 0)).1.2 (lyP (some (dgt l0 ((hd l0 K) + 3 + 1) ((hd l0 K) + 3 + (lnA l0 K)))) 8 (fun _ => nI 0) (l0.getD ((hd l0 K) + 3) 0)).1.1.2.2.2)), iaC g (R 8) 1200 (dcF l0 f), iaC g (R 12) 128 (cpy 0 co (gvF p8 m8 (l0.getD ((hd l0 K) + 3) 0)) i), iaC g (R 13) 128 un, iaC g (R 17) 64 q, iaC g (R 18) 8 r, iaC g (R 19) 8 x, iaC g (R 20) 64 (nF p8), zaC g (R 21) 64 (bF m8)]) 63 [some (.ref (R 0)), some (.int (nI (hd l0 K))), some (.int (nI 0)), some (.int (nI 8)), some (.int (nI (l0.getD ((hd l0 K) + 3) 0))), some (.int (nI i)), none] [] := by
      intro nn
      induction nn with
      | zero =>
        intro i q hi hq
        refine sw_iload (pc := 63) C d_Md_takeLayer_63 rfl ?_
        refine sw_bipush (pc := 65) C (nI 64) d_Md_takeLayer_65 (by decide) ?_
        refine sw_icmp_geN (pc := 67) C 135 (by omega) (by omega) d_Md_takeLayer_67 (by decide) (fun hx => ?_) (fun hx => ?_)
        · skip
          have ei : i = 64 := by omega
          subst ei
          refine sw_arr (f' := flat 8 (fun y x => (gvF p8 m8 (l0.getD ((hd l0 K) + 3) 0)) (8 * y + x))) 7 rfl (fun j hj => by rw [flat_of]; exact hq j hj) ?_
          exact c135 p8 m8 _ hr
        omega
      | succ nn ih =>
        intro i q hi hq
        refine sw_iload (pc := 63) C d_Md_takeLayer_63 rfl ?_
        refine sw_bipush (pc := 65) C (nI 64) d_Md_takeLayer_65 (by decide) ?_
        refine sw_icmp_geN (pc := 67) C 135 (by omega) (by omega) d_Md_takeLayer_67 (by decide) (fun hx => ?_) (fun hx => ?_)
        · skip
          omega
        refine sw_aload_n (pc := 70) C d_Md_takeLayer_70 rfl rfl ?_
        refine sw_get (pc := 71) C inMd 0 rfl rfl 28 (by decide) t_600 rfl rfl d_Md_takeLayer_71 ?_
        refine sw_iload (pc := 74) C d_Md_takeLayer_74 rfl ?_
        refine sw_ialdN (pc := 76) C 10 i rfl rfl (by omega) (by decide) d_Md_takeLayer_76 ?_
        refine sw_topi (z := (nI (p8 i))) rfl ?_
        refine sw_bipush (pc := 77) C (nI 10) d_Md_takeLayer_77 (by decide) ?_
        refine sw_iload (pc := 79) C d_Md_takeLayer_79 rfl ?_
        refine sw_isub (pc := 81) C d_Md_takeLayer_81 ?_
        refine sw_topi (z := nI (10 - (l0.getD ((hd l0 K) + 3) 0))) (pk_sub (by omega)) ?_
        refine sw_ishl (pc := 82) C d_Md_takeLayer_82 ?_
        refine sw_istore (pc := 83) C d_Md_takeLayer_83 (by decide) rfl ?_
        refine sw_aload_n (pc := 85) C d_Md_takeLayer_85 rfl rfl ?_
        refine sw_get (pc := 86) C inMd 0 rfl rfl 25 (by decide) t_597 rfl rfl d_Md_takeLayer_86 ?_
        refine sw_iload (pc := 89) C d_Md_takeLayer_89 rfl ?_
        refine sw_aload_n (pc := 91) C d_Md_takeLayer_91 rfl rfl ?_
        refine sw_get (pc := 92) C inMd 0 rfl rfl 29 (by decide) t_601 rfl rfl d_Md_takeLayer_92 ?_
        refine sw_iload (pc := 95) C d_Md_takeLayer_95 rfl ?_
        refine sw_zaldN (pc := 97) C 11 i rfl rfl (by omega) (by decide) d_Md_takeLayer_97 ?_
        refine sw_topi (z := bI (m8 i)) rfl ?_
        refine sw_if_eqB (pc := 98) C 107 d_Md_takeLayer_98 (by decide) (fun hm => ?_) (fun hm => ?_)
        · skip
          refine sw_iload (pc := 107) C d_Md_takeLayer_107 rfl ?_
          refine sw_topi (z := ((gvF p8 m8 (l0.getD ((hd l0 K) + 3) 0)) i)) (by unfold gvF; rw [if_neg (by rw [hm]; decide)]) ?_
          refine sw_iastN (pc := 109) C 7 i rfl rfl (by omega) (by decide) d_Md_takeLayer_109 ?_
          refine sw_aload_n (pc := 110) C d_Md_takeLayer_110 rfl rfl ?_
          refine sw_get (pc := 111) C inMd 0 rfl rfl 17 (by decide) t_589 rfl rfl d_Md_takeLayer_111 ?_
          refine sw_bipush (pc := 114) C (nI 64) d_Md_takeLayer_114 (by decide) ?_
          refine sw_iload_n (pc := 116) C d_Md_takeLayer_116 rfl rfl ?_
          refine sw_imul (pc := 117) C d_Md_takeLayer_117 ?_
          refine sw_topi (z := nI (64 * 0)) (pk_mul _ _) ?_
          refine sw_iload (pc := 118) C d_Md_takeLayer_118 rfl ?_
          refine sw_iadd (pc := 120) C d_Md_takeLayer_120 ?_
          refine sw_topi (z := nI ((64 * 0) + i)) (nI_add _ _) ?_
          refine sw_aload_n (pc := 121) C d_Md_takeLayer_121 rfl rfl ?_
          refine sw_get (pc := 122) C inMd 0 rfl rfl 25 (by decide) t_597 rfl rfl d_Md_takeLayer_122 ?_
          refine sw_iload (pc := 125) C d_Md_takeLayer_125 rfl ?_
          refine sw_ialdN (pc := 127) C 7 i rfl rfl (by omega) (by decide) d_Md_takeLayer_127 ?_
          refine sw_topi (z := ((gvF p8 m8 (l0.getD ((hd l0 K) + 3) 0)) i)) (by unfold upd; rw [if_pos rfl]) ?_
          refine sw_iastN (pc := 128) C 5 ((64 * 0) + i) rfl rfl (by omega) (by decide) d_Md_takeLayer_128 ?_
          refine sw_ws (ws' := [mdC R dn pl l0.length ss pt th true ((lyP (some (dgt l0 ((hd l0 K) + 3 + 1) ((hd l0 K) + 3 + (lnA l0 K)))) 8 (fun _ => nI 0) (l0.getD ((hd l0 K) + 3) 0)).1.1.2.2.1) ((lyP (some (dgt l0 ((hd l0 K) + 3 + 1) ((hd l0 K) + 3 + (lnA l0 K)))) 8 (fun _ => nI 0) (l0.getD ((hd l0 K) + 3) 0)).1.1.2.2.2), iaC g (R 14) 48 (nF (lyP (some (dgt l0 ((hd l0 K) + 3 + 1) ((hd l0 K) + 3 + (lnA l0 K)))) 8 (fun _ => nI 0) (l0.getD ((hd l0 K) + 3) 0)).1.1.1), iaC g (R 15) 48 (nF (lyP (some (dgt l0 ((hd l0 K) + 3 + 1) ((hd l0 K) + 3 + (lnA l0 K)))) 8 (fun _ => nI 0) (l0.getD ((hd l0 K) + 3) 0)).1.1.2.1), iaC g (R 16) 4400 (nF (rdg (dgt l0 ((hd l0 K) + 3 + 1) ((hd l0 K) + 3 + (lnA l0 K))) (lyP (some (dgt l0 ((hd l0 K) + 3 + 1) ((hd l0 K) + 3 + (lnA l0 K)))) 8 (fun _ => nI 0) (l0.getD ((hd l0 K) + 3) 0)).1.2 (lyP (some (dgt l0 ((hd l0 K) + 3 + 1) ((hd l0 K) + 3 + (lnA l0 K)))) 8 (fun _ => nI 0) (l0.getD ((hd l0 K) + 3) 0)).1.1.2.2.2)), iaC g (R 8) 1200 (dcF l0 f), iaC g (R 12) 128 (cpy 0 co (gvF p8 m8 (l0.getD ((hd l0 K) + 3) 0)) (i + 1)), iaC g (R 13) 128 un, iaC g (R 17) 64 (upd q i ((gvF p8 m8 (l0.getD ((hd l0 K) + 3) 0)) i)), iaC g (R 18) 8 r, iaC g (R 19) 8 x, iaC g (R 20) 64 (nF p8), zaC g (R 21) 64 (bF m8)]) (by rw [← cpy_up]; rfl) ?_
          refine sw_iincN (pc := 129) C 1 d_Md_takeLayer_129 rfl (by decide) (by decide) rfl ?_
          refine sw_goto (pc := 132) C 63 d_Md_takeLayer_132 (by decide) ?_
          refine sw_drop 6 ?_
          refine ih (i + 1) (upd q i ((gvF p8 m8 (l0.getD ((hd l0 K) + 3) 0)) i)) (by omega) (fun j hj => ?_)
          unfold upd
          by_cases e : j = i
          · rw [if_pos e, e]
          · rw [if_neg e]; exact hq j (by omega)
        refine sw_iload (pc := 101) C d_Md_takeLayer_101 rfl ?_
        refine sw_ineg (pc := 103) C d_Md_takeLayer_103 ?_
        refine sw_goto (pc := 104) C 109 d_Md_takeLayer_104 (by decide) ?_
        refine sw_topi (z := ((gvF p8 m8 (l0.getD ((hd l0 K) + 3) 0)) i)) (by unfold gvF; rw [if_pos hm]) ?_
        refine sw_iastN (pc := 109) C 7 i rfl rfl (by omega) (by decide) d_Md_takeLayer_109 ?_
        refine sw_aload_n (pc := 110) C d_Md_takeLayer_110 rfl rfl ?_
        refine sw_get (pc := 111) C inMd 0 rfl rfl 17 (by decide) t_589 rfl rfl d_Md_takeLayer_111 ?_
        refine sw_bipush (pc := 114) C (nI 64) d_Md_takeLayer_114 (by decide) ?_
        refine sw_iload_n (pc := 116) C d_Md_takeLayer_116 rfl rfl ?_
        refine sw_imul (pc := 117) C d_Md_takeLayer_117 ?_
        refine sw_topi (z := nI (64 * 0)) (pk_mul _ _) ?_
        refine sw_iload (pc := 118) C d_Md_takeLayer_118 rfl ?_
        refine sw_iadd (pc := 120) C d_Md_takeLayer_120 ?_
        refine sw_topi (z := nI ((64 * 0) + i)) (nI_add _ _) ?_
        refine sw_aload_n (pc := 121) C d_Md_takeLayer_121 rfl rfl ?_
        refine sw_get (pc := 122) C inMd 0 rfl rfl 25 (by decide) t_597 rfl rfl d_Md_takeLayer_122 ?_
        refine sw_iload (pc := 125) C d_Md_takeLayer_125 rfl ?_
        refine sw_ialdN (pc := 127) C 7 i rfl rfl (by omega) (by decide) d_Md_takeLayer_127 ?_
        refine sw_topi (z := ((gvF p8 m8 (l0.getD ((hd l0 K) + 3) 0)) i)) (by unfold upd; rw [if_pos rfl]) ?_
        refine sw_iastN (pc := 128) C 5 ((64 * 0) + i) rfl rfl (by omega) (by decide) d_Md_takeLayer_128 ?_
        refine sw_ws (ws' := [mdC R dn pl l0.length ss pt th true ((lyP (some (dgt l0 ((hd l0 K) + 3 + 1) ((hd l0 K) + 3 + (lnA l0 K)))) 8 (fun _ => nI 0) (l0.getD ((hd l0 K) + 3) 0)).1.1.2.2.1) ((lyP (some (dgt l0 ((hd l0 K) + 3 + 1) ((hd l0 K) + 3 + (lnA l0 K)))) 8 (fun _ => nI 0) (l0.getD ((hd l0 K) + 3) 0)).1.1.2.2.2), iaC g (R 14) 48 (nF (lyP (some (dgt l0 ((hd l0 K) + 3 + 1) ((hd l0 K) + 3 + (lnA l0 K)))) 8 (fun _ => nI 0) (l0.getD ((hd l0 K) + 3) 0)).1.1.1), iaC g (R 15) 48 (nF (lyP (some (dgt l0 ((hd l0 K) + 3 + 1) ((hd l0 K) + 3 + (lnA l0 K)))) 8 (fun _ => nI 0) (l0.getD ((hd l0 K) + 3) 0)).1.1.2.1), iaC g (R 16) 4400 (nF (rdg (dgt l0 ((hd l0 K) + 3 + 1) ((hd l0 K) + 3 + (lnA l0 K))) (lyP (some (dgt l0 ((hd l0 K) + 3 + 1) ((hd l0 K) + 3 + (lnA l0 K)))) 8 (fun _ => nI 0) (l0.getD ((hd l0 K) + 3) 0)).1.2 (lyP (some (dgt l0 ((hd l0 K) + 3 + 1) ((hd l0 K) + 3 + (lnA l0 K)))) 8 (fun _ => nI 0) (l0.getD ((hd l0 K) + 3) 0)).1.1.2.2.2)), iaC g (R 8) 1200 (dcF l0 f), iaC g (R 12) 128 (cpy 0 co (gvF p8 m8 (l0.getD ((hd l0 K) + 3) 0)) (i + 1)), iaC g (R 13) 128 un, iaC g (R 17) 64 (upd q i ((gvF p8 m8 (l0.getD ((hd l0 K) + 3) 0)) i)), iaC g (R 18) 8 r, iaC g (R 19) 8 x, iaC g (R 20) 64 (nF p8), zaC g (R 21) 64 (bF m8)]) (by rw [← cpy_up]; rfl) ?_
        refine sw_iincN (pc := 129) C 1 d_Md_takeLayer_129 rfl (by decide) (by decide) rfl ?_
        refine sw_goto (pc := 132) C 63 d_Md_takeLayer_132 (by decide) ?_
        refine sw_drop 6 ?_
        refine ih (i + 1) (upd q i ((gvF p8 m8 (l0.getD ((hd l0 K) + 3) 0)) i)) (by omega) (fun j hj => ?_)
        unfold upd
        by_cases e : j = i
        · rw [if_pos e, e]
        · rw [if_neg e]; exact hq j (by omega)
    refine sw_iconst (pc := 60) C (nI 0) d_Md_takeLayer_60 (by decide) ?_
    refine sw_istore (pc := 61) C d_Md_takeLayer_61 (by decide) rfl ?_
    refine sw_ws (ws' := [mdC R dn pl l0.length ss pt th true ((lyP (some (dgt l0 ((hd l0 K) + 3 + 1) ((hd l0 K) + 3 + (lnA l0 K)))) 8 (fun _ => nI 0) (l0.getD ((hd l0 K) + 3) 0)).1.1.2.2.1) ((lyP (some (dgt l0 ((hd l0 K) + 3 + 1) ((hd l0 K) + 3 + (lnA l0 K)))) 8 (fun _ => nI 0) (l0.getD ((hd l0 K) + 3) 0)).1.1.2.2.2), iaC g (R 14) 48 (nF (lyP (some (dgt l0 ((hd l0 K) + 3 + 1) ((hd l0 K) + 3 + (lnA l0 K)))) 8 (fun _ => nI 0) (l0.getD ((hd l0 K) + 3) 0)).1.1.1), iaC g (R 15) 48 (nF (lyP (some (dgt l0 ((hd l0 K) + 3 + 1) ((hd l0 K) + 3 + (lnA l0 K)))) 8 (fun _ => nI 0) (l0.getD ((hd l0 K) + 3) 0)).1.1.2.1), iaC g (R 16) 4400 (nF (rdg (dgt l0 ((hd l0 K) + 3 + 1) ((hd l0 K) + 3 + (lnA l0 K))) (lyP (some (dgt l0 ((hd l0 K) + 3 + 1) ((hd l0 K) + 3 + (lnA l0 K)))) 8 (fun _ => nI 0) (l0.getD ((hd l0 K) + 3) 0)).1.2 (lyP (some (dgt l0 ((hd l0 K) + 3 + 1) ((hd l0 K) + 3 + (lnA l0 K)))) 8 (fun _ => nI 0) (l0.getD ((hd l0 K) + 3) 0)).1.1.2.2.2)), iaC g (R 8) 1200 (dcF l0 f), iaC g (R 12) 128 (cpy 0 co (gvF p8 m8 (l0.getD ((hd l0 K) + 3) 0)) 0), iaC g (R 13) 128 un, iaC g (R 17) 64 g0, iaC g (R 18) 8 r, iaC g (R 19) 8 x, iaC g (R 20) 64 (nF p8), zaC g (R 21) 64 (bF m8)]) (by rw [cpy_0]) ?_
    exact key 64 0 g0 (by omega) (fun j hj => absurd hj (Nat.not_lt_zero _))
  have key : ∀ (nn i : Nat) (q : Nat → Int32), i + nn = 64 → (∀ j, j < i → q j = nI 0) → SW X g 7 0 0 ([mdC R dn pl l0.length ss pt th rd wd sc, iaC g (R 14) 48 z, iaC g (R 15) 48 o, iaC g (R 16) 4400 d, iaC g (R 8) 1200 (dcF l0 f), iaC g (R 12) 128 co, iaC g (R 13) 128 un, iaC g (R 17) 64 q, iaC g (R 18) 8 r, iaC g (R 19) 8 x, iaC g (R 20) 64 p, zaC g (R 21) 64 m]) 18 [some (.ref (R 0)), some (.int (nI (hd l0 K))), some (.int (nI 0)), some (.int (nI 8)), some (.int (nI (l0.getD ((hd l0 K) + 3) 0))), some (.int (nI i)), none] [] := by
    intro nn
    induction nn with
    | zero =>
      intro i q hi hq
      refine sw_iload (pc := 18) C d_Md_takeLayer_18 rfl ?_
      refine sw_bipush (pc := 20) C (nI 64) d_Md_takeLayer_20 (by decide) ?_
      refine sw_icmp_geN (pc := 22) C 39 (by omega) (by omega) d_Md_takeLayer_22 (by decide) (fun hx => ?_) (fun hx => ?_)
      · skip
        refine sw_arr (f' := fun _ => nI 0) 7 rfl (fun j hj => hq j (by omega)) ?_
        refine sw_aload_n (pc := 39) C d_Md_takeLayer_39 rfl rfl ?_
        refine sw_iload_n (pc := 40) C d_Md_takeLayer_40 rfl rfl ?_
        refine sw_iconst (pc := 41) C (nI 4) d_Md_takeLayer_41 (by decide) ?_
        refine sw_iadd (pc := 42) C d_Md_takeLayer_42 ?_
        refine sw_topi (z := nI ((hd l0 K) + 4)) (nI_add _ _) ?_
        refine sw_topi (z := nI ((hd l0 K) + 3 + 1)) rfl ?_
        refine sw_aload_n (pc := 43) C d_Md_takeLayer_43 rfl rfl ?_
        refine sw_iload_n (pc := 44) C d_Md_takeLayer_44 rfl rfl ?_
        refine sw_callVR (pc := 45) C (c_Md_chLen l g R dn pl ss pt th rd wd sc l0 f hl (hd l0 K) (by omega)) sv_Md_chunkLength t_788 rfl rfl rfl [0, 4] rfl rfl rfl rfl (Nat.le_of_ble_eq_true rfl) (Nat.le_of_ble_eq_true rfl) (Nat.le_of_ble_eq_true rfl) (Nat.le_of_ble_eq_true rfl) (Nat.le_of_ble_eq_true rfl) d_Md_takeLayer_45 (fun v w1 hp => ?_)
        obtain ⟨rfl, rfl⟩ := hp
        refine ⟨rfl, ?_⟩
        refine sw_topi (z := nI (lnA l0 K)) rfl ?_
        refine sw_iconst (pc := 48) C (nI 1) d_Md_takeLayer_48 (by decide) ?_
        refine sw_isub (pc := 49) C d_Md_takeLayer_49 ?_
        refine sw_topi (z := nI ((lnA l0 K) - 1)) (pk_sub (by omega)) ?_
        have eD : (hd l0 K) + 3 + 1 + ((lnA l0 K) - 1) = (hd l0 K) + 3 + (lnA l0 K) := by omega
        refine sw_callVP (pc := 50) C (c_Md_load l g R dn pl ss pt th rd wd sc l0 f z o d ((hd l0 K) + 3 + 1) ((lnA l0 K) - 1) (by omega) hl) sv_Md_load t_804 rfl rfl rfl [0, 1, 2, 3, 4] rfl rfl rfl rfl (Nat.le_of_ble_eq_true rfl) (Nat.le_of_ble_eq_true rfl) (Nat.le_of_ble_eq_true rfl) (Nat.le_of_ble_eq_true rfl) (Nat.le_of_ble_eq_true rfl) d_Md_takeLayer_50 (fun v w1 hp => ?_)
        obtain ⟨rfl, rfl⟩ := hp
        refine ⟨rfl, ?_⟩
        refine sw_ws (ws' := wKm g R dn pl l0.length ss pt th (some (dgt l0 ((hd l0 K) + 3 + 1) ((hd l0 K) + 3 + (lnA l0 K)))) (kInit (some (dgt l0 ((hd l0 K) + 3 + 1) ((hd l0 K) + 3 + (lnA l0 K))))) ++ [iaC g (R 8) 1200 (dcF l0 f), iaC g (R 12) 128 co, iaC g (R 13) 128 un, iaC g (R 17) 64 (fun _ => nI 0), iaC g (R 18) 8 r, iaC g (R 19) 8 x, iaC g (R 20) 64 p, zaC g (R 21) 64 m]) (by rw [eD]; rfl) ?_
        refine sw_aload_n (pc := 53) C d_Md_takeLayer_53 rfl rfl ?_
        refine sw_iload_n (pc := 54) C d_Md_takeLayer_54 rfl rfl ?_
        refine sw_iload (pc := 55) C d_Md_takeLayer_55 rfl ?_
        refine sw_callVP (pc := 57) C (c_Md_planes l g R dn pl l0.length ss pt th (some (dgt l0 ((hd l0 K) + 3 + 1) ((hd l0 K) + 3 + (lnA l0 K)))) (fun D h => by cases h; exact dgt_le _ _ _) 8 (by decide) (l0.getD ((hd l0 K) + 3) 0) hs (fun _ => nI 0) (fun _ => nI 0) (fun _ _ => rfl) p m) sv_Md_planes t_756 rfl rfl rfl [0, 1, 2, 3, 7, 10, 11] rfl rfl rfl rfl (Nat.le_of_ble_eq_true rfl) (Nat.le_of_ble_eq_true rfl) (Nat.le_of_ble_eq_true rfl) (Nat.le_of_ble_eq_true rfl) (Nat.le_of_ble_eq_true rfl) d_Md_takeLayer_57 (fun v w1 hp => ?_)
        obtain ⟨rfl, p8, m8, hr, rfl⟩ := hp
        refine ⟨rfl, ?_⟩
        refine sw_ws (ws' := wKm g R dn pl l0.length ss pt th (some (dgt l0 ((hd l0 K) + 3 + 1) ((hd l0 K) + 3 + (lnA l0 K)))) ((lyP (some (dgt l0 ((hd l0 K) + 3 + 1) ((hd l0 K) + 3 + (lnA l0 K)))) 8 (fun _ => nI 0) (l0.getD ((hd l0 K) + 3) 0)).1) ++ [iaC g (R 8) 1200 (dcF l0 f), iaC g (R 12) 128 co, iaC g (R 13) 128 un, iaC g (R 17) 64 (fun _ => nI 0), iaC g (R 18) 8 r, iaC g (R 19) 8 x, iaC g (R 20) 64 (nF p8), zaC g (R 21) 64 (bF m8)]) rfl ?_
        exact c60 p8 m8 _ _ hr
      omega
    | succ nn ih =>
      intro i q hi hq
      refine sw_iload (pc := 18) C d_Md_takeLayer_18 rfl ?_
      refine sw_bipush (pc := 20) C (nI 64) d_Md_takeLayer_20 (by decide) ?_
      refine sw_icmp_geN (pc := 22) C 39 (by omega) (by omega) d_Md_takeLayer_22 (by decide) (fun hx => ?_) (fun hx => ?_)
      · skip
        omega
      refine sw_aload_n (pc := 25) C d_Md_takeLayer_25 rfl rfl ?_
      refine sw_get (pc := 26) C inMd 0 rfl rfl 25 (by decide) t_597 rfl rfl d_Md_takeLayer_26 ?_
      refine sw_iload (pc := 29) C d_Md_takeLayer_29 rfl ?_
      refine sw_iconst (pc := 31) C (nI 0) d_Md_takeLayer_31 (by decide) ?_
      refine sw_iastN (pc := 32) C 7 i rfl rfl (by omega) (by decide) d_Md_takeLayer_32 ?_
      refine sw_iincN (pc := 33) C 1 d_Md_takeLayer_33 rfl (by decide) (by decide) rfl ?_
      refine sw_goto (pc := 36) C 18 d_Md_takeLayer_36 (by decide) ?_
      refine ih (i + 1) (upd q i (nI 0)) (by omega) (fun j hj => ?_)
      unfold upd
      by_cases e : j = i
      · rw [if_pos e]
      · rw [if_neg e]; exact hq j (by omega)
  refine sw_iload_n (pc := 0) C d_Md_takeLayer_0 rfl rfl ?_
  refine sw_callSR (pc := 1) C (c_Md_side l g (nI 0)) ss_Md_side t_683 [] rfl rfl rfl rfl (Nat.le_of_ble_eq_true rfl) (Nat.le_of_ble_eq_true rfl) (Nat.le_of_ble_eq_true rfl) (Nat.le_of_ble_eq_true rfl) (Nat.le_of_ble_eq_true rfl) d_Md_takeLayer_1 (fun v w1 hp => ?_)
  obtain ⟨rfl, rfl⟩ := hp
  refine ⟨rfl, ?_⟩
  refine sw_topi (z := nI 8) rfl ?_
  refine sw_istore_n (pc := 4) C d_Md_takeLayer_4 rfl (by decide) rfl ?_
  refine sw_aload_n (pc := 5) C d_Md_takeLayer_5 rfl rfl ?_
  refine sw_get (pc := 6) C inMd 0 rfl rfl 9 (by decide) t_581 rfl rfl d_Md_takeLayer_6 ?_
  refine sw_iload_n (pc := 9) C d_Md_takeLayer_9 rfl rfl ?_
  refine sw_iconst (pc := 10) C (nI 3) d_Md_takeLayer_10 (by decide) ?_
  refine sw_iadd (pc := 11) C d_Md_takeLayer_11 ?_
  refine sw_topi (z := nI ((hd l0 K) + 3)) (nI_add _ _) ?_
  refine sw_ialdN (pc := 12) C 4 ((hd l0 K) + 3) rfl rfl (by omega) (by decide) d_Md_takeLayer_12 ?_
  refine sw_topi (z := nI (l0.getD ((hd l0 K) + 3) 0)) (dcF_get (by omega)) ?_
  refine sw_istore (pc := 13) C d_Md_takeLayer_13 (by decide) rfl ?_
  refine sw_iconst (pc := 15) C (nI 0) d_Md_takeLayer_15 (by decide) ?_
  refine sw_istore (pc := 16) C d_Md_takeLayer_16 (by decide) rfl ?_
  exact key 64 0 gr (by omega) (fun j hj => absurd hj (Nat.not_lt_zero _))
set_option maxRecDepth 100000 in
set_option maxHeartbeats 4000000 in
theorem c_Md_takeLy1 (l : Launch) (g : Gl) (R : Nat → Nat) (dn pl ss pt : Nat) (th rd : Bool) (wd sc : Nat) (l0 : List Nat) (f : Nat → Int32) (hl : bytesOK l0) (z o d : Nat → Int32) (co un gr r x p m : Nat → Int32) (K : Nat) (hK : (hd l0 K) + 3 + (lnA l0 K) ≤ l0.length) (h1 : 1 ≤ (lnA l0 K)) (hs : (l0.getD ((hd l0 K) + 3) 0) ≤ 10) : Ct l g y_Md_takeLayer b_Md_takeLayer 7 none (rmD 3) [.ref (R 0), .int (nI (hd l0 K)), .int (nI 1)] ([mdC R dn pl l0.length ss pt th rd wd sc, iaC g (R 14) 48 z, iaC g (R 15) 48 o, iaC g (R 16) 4400 d, iaC g (R 8) 1200 (dcF l0 f), iaC g (R 12) 128 co, iaC g (R 13) 128 un, iaC g (R 17) 64 gr, iaC g (R 18) 8 r, iaC g (R 19) 8 x, iaC g (R 20) 64 p, zaC g (R 21) 64 m]) (fun u q => u = none ∧ ∃ (r1 : Bool) (w1 s1 : Nat) (z1 o1 d1 gv g1 r2 x1 p1 m1 : Nat → Int32), (∀ k, k < 4 * 4 → gv (i8 4 k) = lyCV l0 4 ((hd l0 K) + 3) (lnA l0 K) k) ∧ q = [mdC R dn pl l0.length ss pt th r1 w1 s1, iaC g (R 14) 48 z1, iaC g (R 15) 48 o1, iaC g (R 16) 4400 d1, iaC g (R 8) 1200 (dcF l0 f), iaC g (R 12) 128 (cpy 1 co gv 64), iaC g (R 13) 128 (cpy 1 un (flat 8 (undoN 4 (fun y x => gv (8 * y + x)))) 64), iaC g (R 17) 64 g1, iaC g (R 18) 8 r2, iaC g (R 19) 8 x1, iaC g (R 20) 64 p1, zaC g (R 21) 64 m1]) := by
  refine ct_of [some (.ref (R 0)), some (.int (nI (hd l0 K))), some (.int (nI 1)), none, none, none, none] (by decide) (Nat.le_of_ble_eq_true rfl) rfl ?_
  intro X C E
  have h12 := hl.1
  have hc := hl.2 ((hd l0 K) + 3)
  have hKm := (hd_mono l0 (Nat.le_refl K)).2
  have c169 : ∀ (p8 : Nat → Nat) (m8 : Nat → Bool) (r1 x1 : Nat → Int32) (v5 : Int32), rl 4 p8 m8 (lyP (some (dgt l0 ((hd l0 K) + 3 + 1) ((hd l0 K) + 3 + (lnA l0 K)))) 4 (fun _ => nI 0) (l0.getD ((hd l0 K) + 3) 0)).2.1 (lyP (some (dgt l0 ((hd l0 K) + 3 + 1) ((hd l0 K) + 3 + (lnA l0 K)))) 4 (fun _ => nI 0) (l0.getD ((hd l0 K) + 3) 0)).2.2 → SW X g 7 0 0 ([mdC R dn pl l0.length ss pt th true ((lyP (some (dgt l0 ((hd l0 K) + 3 + 1) ((hd l0 K) + 3 + (lnA l0 K)))) 4 (fun _ => nI 0) (l0.getD ((hd l0 K) + 3) 0)).1.1.2.2.1) ((lyP (some (dgt l0 ((hd l0 K) + 3 + 1) ((hd l0 K) + 3 + (lnA l0 K)))) 4 (fun _ => nI 0) (l0.getD ((hd l0 K) + 3) 0)).1.1.2.2.2), iaC g (R 14) 48 (nF (lyP (some (dgt l0 ((hd l0 K) + 3 + 1) ((hd l0 K) + 3 + (lnA l0 K)))) 4 (fun _ => nI 0) (l0.getD ((hd l0 K) + 3) 0)).1.1.1), iaC g (R 15) 48 (nF (lyP (some (dgt l0 ((hd l0 K) + 3 + 1) ((hd l0 K) + 3 + (lnA l0 K)))) 4 (fun _ => nI 0) (l0.getD ((hd l0 K) + 3) 0)).1.1.2.1), iaC g (R 16) 4400 (nF (rdg (dgt l0 ((hd l0 K) + 3 + 1) ((hd l0 K) + 3 + (lnA l0 K))) (lyP (some (dgt l0 ((hd l0 K) + 3 + 1) ((hd l0 K) + 3 + (lnA l0 K)))) 4 (fun _ => nI 0) (l0.getD ((hd l0 K) + 3) 0)).1.2 (lyP (some (dgt l0 ((hd l0 K) + 3 + 1) ((hd l0 K) + 3 + (lnA l0 K)))) 4 (fun _ => nI 0) (l0.getD ((hd l0 K) + 3) 0)).1.1.2.2.2)), iaC g (R 8) 1200 (dcF l0 f), iaC g (R 12) 128 (cpy 1 co (gvF p8 m8 (l0.getD ((hd l0 K) + 3) 0)) 64), iaC g (R 13) 128 un, iaC g (R 17) 64 (flat 8 (undoN 4 (fun y x => (gvF p8 m8 (l0.getD ((hd l0 K) + 3) 0)) (8 * y + x)))), iaC g (R 18) 8 r1, iaC g (R 19) 8 x1, iaC g (R 20) 64 (nF p8), zaC g (R 21) 64 (bF m8)]) 169 [some (.ref (R 0)), some (.int (nI (hd l0 K))), some (.int (nI 1)), some (.int (nI 4)), some (.int (nI (l0.getD ((hd l0 K) + 3) 0))), some (.int v5), none] [] := by
    intro p8 m8 r1 x1 v5 hr
    have key : ∀ (nn i : Nat) , i + nn = 64 → SW X g 7 0 0 ([mdC R dn pl l0.length ss pt th true ((lyP (some (dgt l0 ((hd l0 K) + 3 + 1) ((hd l0 K) + 3 + (lnA l0 K)))) 4 (fun _ => nI 0) (l0.getD ((hd l0 K) + 3) 0)).1.1.2.2.1) ((lyP (some (dgt l0 ((hd l0 K) + 3 + 1) ((hd l0 K) + 3 + (lnA l0 K)))) 4 (fun _ => nI 0) (l0.getD ((hd l0 K) + 3) 0)).1.1.2.2.2), iaC g (R 14) 48 (nF (lyP (some (dgt l0 ((hd l0 K) + 3 + 1) ((hd l0 K) + 3 + (lnA l0 K)))) 4 (fun _ => nI 0) (l0.getD ((hd l0 K) + 3) 0)).1.1.1), iaC g (R 15) 48 (nF (lyP (some (dgt l0 ((hd l0 K) + 3 + 1) ((hd l0 K) + 3 + (lnA l0 K)))) 4 (fun _ => nI 0) (l0.getD ((hd l0 K) + 3) 0)).1.1.2.1), iaC g (R 16) 4400 (nF (rdg (dgt l0 ((hd l0 K) + 3 + 1) ((hd l0 K) + 3 + (lnA l0 K))) (lyP (some (dgt l0 ((hd l0 K) + 3 + 1) ((hd l0 K) + 3 + (lnA l0 K)))) 4 (fun _ => nI 0) (l0.getD ((hd l0 K) + 3) 0)).1.2 (lyP (some (dgt l0 ((hd l0 K) + 3 + 1) ((hd l0 K) + 3 + (lnA l0 K)))) 4 (fun _ => nI 0) (l0.getD ((hd l0 K) + 3) 0)).1.1.2.2.2)), iaC g (R 8) 1200 (dcF l0 f), iaC g (R 12) 128 (cpy 1 co (gvF p8 m8 (l0.getD ((hd l0 K) + 3) 0)) 64), iaC g (R 13) 128 (cpy 1 un (flat 8 (undoN 4 (fun y x => (gvF p8 m8 (l0.getD ((hd l0 K) + 3) 0)) (8 * y + x)))) i), iaC g (R 17) 64 (flat 8 (undoN 4 (fun y x => (gvF p8 m8 (l0.getD ((hd l0 K) + 3) 0)) (8 * y + x)))), iaC g (R 18) 8 r1, iaC g (R 19) 8 x1, iaC g (R 20) 64 (nF p8), zaC g (R 21) 64 (bF m8)]) 172 [some (.ref (R 0)), some (.int (nI (hd l0 K))), some (.int (nI 1)), some (.int (nI 4)), some (.int (nI (l0.getD ((hd l0 K) + 3) 0))), some (.int (nI i)), none] [] := by
      intro nn
      induction nn with
      | zero =>
        intro i  hi 
        refine sw_iload (pc := 172) C d_Md_takeLayer_172 rfl ?_
        refine sw_bipush (pc := 174) C (nI 64) d_Md_takeLayer_174 (by decide) ?_
        refine sw_icmp_geN (pc := 176) C 204 (by omega) (by omega) d_Md_takeLayer_176 (by decide) (fun hx => ?_) (fun hx => ?_)
        · skip
          have ei : i = 64 := by omega
          subst ei
          exact sw_vret (pc := 204) C E rfl (Nat.le_of_ble_eq_true rfl) (Nat.le_of_ble_eq_true rfl) d_Md_takeLayer_204 ⟨rfl, _, _, _, _, _, _, (gvF p8 m8 (l0.getD ((hd l0 K) + 3) 0)), _, _, _, _, _, fun k hk => gvF_at hs hr hk, rfl⟩
        omega
      | succ nn ih =>
        intro i  hi 
        refine sw_iload (pc := 172) C d_Md_takeLayer_172 rfl ?_
        refine sw_bipush (pc := 174) C (nI 64) d_Md_takeLayer_174 (by decide) ?_
        refine sw_icmp_geN (pc := 176) C 204 (by omega) (by omega) d_Md_takeLayer_176 (by decide) (fun hx => ?_) (fun hx => ?_)
        · skip
          omega
        refine sw_aload_n (pc := 179) C d_Md_takeLayer_179 rfl rfl ?_
        refine sw_get (pc := 180) C inMd 0 rfl rfl 18 (by decide) t_590 rfl rfl d_Md_takeLayer_180 ?_
        refine sw_bipush (pc := 183) C (nI 64) d_Md_takeLayer_183 (by decide) ?_
        refine sw_iload_n (pc := 185) C d_Md_takeLayer_185 rfl rfl ?_
        refine sw_imul (pc := 186) C d_Md_takeLayer_186 ?_
        refine sw_topi (z := nI (64 * 1)) (pk_mul _ _) ?_
        refine sw_iload (pc := 187) C d_Md_takeLayer_187 rfl ?_
        refine sw_iadd (pc := 189) C d_Md_takeLayer_189 ?_
        refine sw_topi (z := nI ((64 * 1) + i)) (nI_add _ _) ?_
        refine sw_aload_n (pc := 190) C d_Md_takeLayer_190 rfl rfl ?_
        refine sw_get (pc := 191) C inMd 0 rfl rfl 25 (by decide) t_597 rfl rfl d_Md_takeLayer_191 ?_
        refine sw_iload (pc := 194) C d_Md_takeLayer_194 rfl ?_
        refine sw_ialdN (pc := 196) C 7 i rfl rfl (by omega) (by decide) d_Md_takeLayer_196 ?_
        refine sw_iastN (pc := 197) C 6 ((64 * 1) + i) rfl rfl (by omega) (by decide) d_Md_takeLayer_197 ?_
        refine sw_ws (ws' := [mdC R dn pl l0.length ss pt th true ((lyP (some (dgt l0 ((hd l0 K) + 3 + 1) ((hd l0 K) + 3 + (lnA l0 K)))) 4 (fun _ => nI 0) (l0.getD ((hd l0 K) + 3) 0)).1.1.2.2.1) ((lyP (some (dgt l0 ((hd l0 K) + 3 + 1) ((hd l0 K) + 3 + (lnA l0 K)))) 4 (fun _ => nI 0) (l0.getD ((hd l0 K) + 3) 0)).1.1.2.2.2), iaC g (R 14) 48 (nF (lyP (some (dgt l0 ((hd l0 K) + 3 + 1) ((hd l0 K) + 3 + (lnA l0 K)))) 4 (fun _ => nI 0) (l0.getD ((hd l0 K) + 3) 0)).1.1.1), iaC g (R 15) 48 (nF (lyP (some (dgt l0 ((hd l0 K) + 3 + 1) ((hd l0 K) + 3 + (lnA l0 K)))) 4 (fun _ => nI 0) (l0.getD ((hd l0 K) + 3) 0)).1.1.2.1), iaC g (R 16) 4400 (nF (rdg (dgt l0 ((hd l0 K) + 3 + 1) ((hd l0 K) + 3 + (lnA l0 K))) (lyP (some (dgt l0 ((hd l0 K) + 3 + 1) ((hd l0 K) + 3 + (lnA l0 K)))) 4 (fun _ => nI 0) (l0.getD ((hd l0 K) + 3) 0)).1.2 (lyP (some (dgt l0 ((hd l0 K) + 3 + 1) ((hd l0 K) + 3 + (lnA l0 K)))) 4 (fun _ => nI 0) (l0.getD ((hd l0 K) + 3) 0)).1.1.2.2.2)), iaC g (R 8) 1200 (dcF l0 f), iaC g (R 12) 128 (cpy 1 co (gvF p8 m8 (l0.getD ((hd l0 K) + 3) 0)) 64), iaC g (R 13) 128 (cpy 1 un (flat 8 (undoN 4 (fun y x => (gvF p8 m8 (l0.getD ((hd l0 K) + 3) 0)) (8 * y + x)))) (i + 1)), iaC g (R 17) 64 (flat 8 (undoN 4 (fun y x => (gvF p8 m8 (l0.getD ((hd l0 K) + 3) 0)) (8 * y + x)))), iaC g (R 18) 8 r1, iaC g (R 19) 8 x1, iaC g (R 20) 64 (nF p8), zaC g (R 21) 64 (bF m8)]) (by rw [← cpy_up 1 un (flat 8 (undoN 4 (fun y x => (gvF p8 m8 (l0.getD ((hd l0 K) + 3) 0)) (8 * y + x)))) i]; rfl) ?_
        refine sw_iincN (pc := 198) C 1 d_Md_takeLayer_198 rfl (by decide) (by decide) rfl ?_
        refine sw_goto (pc := 201) C 172 d_Md_takeLayer_201 (by decide) ?_
        exact ih (i + 1) (by omega)
    refine sw_iconst (pc := 169) C (nI 0) d_Md_takeLayer_169 (by decide) ?_
    refine sw_istore (pc := 170) C d_Md_takeLayer_170 (by decide) rfl ?_
    refine sw_ws (ws' := [mdC R dn pl l0.length ss pt th true ((lyP (some (dgt l0 ((hd l0 K) + 3 + 1) ((hd l0 K) + 3 + (lnA l0 K)))) 4 (fun _ => nI 0) (l0.getD ((hd l0 K) + 3) 0)).1.1.2.2.1) ((lyP (some (dgt l0 ((hd l0 K) + 3 + 1) ((hd l0 K) + 3 + (lnA l0 K)))) 4 (fun _ => nI 0) (l0.getD ((hd l0 K) + 3) 0)).1.1.2.2.2), iaC g (R 14) 48 (nF (lyP (some (dgt l0 ((hd l0 K) + 3 + 1) ((hd l0 K) + 3 + (lnA l0 K)))) 4 (fun _ => nI 0) (l0.getD ((hd l0 K) + 3) 0)).1.1.1), iaC g (R 15) 48 (nF (lyP (some (dgt l0 ((hd l0 K) + 3 + 1) ((hd l0 K) + 3 + (lnA l0 K)))) 4 (fun _ => nI 0) (l0.getD ((hd l0 K) + 3) 0)).1.1.2.1), iaC g (R 16) 4400 (nF (rdg (dgt l0 ((hd l0 K) + 3 + 1) ((hd l0 K) + 3 + (lnA l0 K))) (lyP (some (dgt l0 ((hd l0 K) + 3 + 1) ((hd l0 K) + 3 + (lnA l0 K)))) 4 (fun _ => nI 0) (l0.getD ((hd l0 K) + 3) 0)).1.2 (lyP (some (dgt l0 ((hd l0 K) + 3 + 1) ((hd l0 K) + 3 + (lnA l0 K)))) 4 (fun _ => nI 0) (l0.getD ((hd l0 K) + 3) 0)).1.1.2.2.2)), iaC g (R 8) 1200 (dcF l0 f), iaC g (R 12) 128 (cpy 1 co (gvF p8 m8 (l0.getD ((hd l0 K) + 3) 0)) 64), iaC g (R 13) 128 (cpy 1 un (flat 8 (undoN 4 (fun y x => (gvF p8 m8 (l0.getD ((hd l0 K) + 3) 0)) (8 * y + x)))) 0), iaC g (R 17) 64 (flat 8 (undoN 4 (fun y x => (gvF p8 m8 (l0.getD ((hd l0 K) + 3) 0)) (8 * y + x)))), iaC g (R 18) 8 r1, iaC g (R 19) 8 x1, iaC g (R 20) 64 (nF p8), zaC g (R 21) 64 (bF m8)]) (by rw [cpy_0]) ?_
    exact key 64 0 (by omega)
  have c135 : ∀ (p8 : Nat → Nat) (m8 : Nat → Bool) (v5 : Int32), rl 4 p8 m8 (lyP (some (dgt l0 ((hd l0 K) + 3 + 1) ((hd l0 K) + 3 + (lnA l0 K)))) 4 (fun _ => nI 0) (l0.getD ((hd l0 K) + 3) 0)).2.1 (lyP (some (dgt l0 ((hd l0 K) + 3 + 1) ((hd l0 K) + 3 + (lnA l0 K)))) 4 (fun _ => nI 0) (l0.getD ((hd l0 K) + 3) 0)).2.2 → SW X g 7 0 0 ([mdC R dn pl l0.length ss pt th true ((lyP (some (dgt l0 ((hd l0 K) + 3 + 1) ((hd l0 K) + 3 + (lnA l0 K)))) 4 (fun _ => nI 0) (l0.getD ((hd l0 K) + 3) 0)).1.1.2.2.1) ((lyP (some (dgt l0 ((hd l0 K) + 3 + 1) ((hd l0 K) + 3 + (lnA l0 K)))) 4 (fun _ => nI 0) (l0.getD ((hd l0 K) + 3) 0)).1.1.2.2.2), iaC g (R 14) 48 (nF (lyP (some (dgt l0 ((hd l0 K) + 3 + 1) ((hd l0 K) + 3 + (lnA l0 K)))) 4 (fun _ => nI 0) (l0.getD ((hd l0 K) + 3) 0)).1.1.1), iaC g (R 15) 48 (nF (lyP (some (dgt l0 ((hd l0 K) + 3 + 1) ((hd l0 K) + 3 + (lnA l0 K)))) 4 (fun _ => nI 0) (l0.getD ((hd l0 K) + 3) 0)).1.1.2.1), iaC g (R 16) 4400 (nF (rdg (dgt l0 ((hd l0 K) + 3 + 1) ((hd l0 K) + 3 + (lnA l0 K))) (lyP (some (dgt l0 ((hd l0 K) + 3 + 1) ((hd l0 K) + 3 + (lnA l0 K)))) 4 (fun _ => nI 0) (l0.getD ((hd l0 K) + 3) 0)).1.2 (lyP (some (dgt l0 ((hd l0 K) + 3 + 1) ((hd l0 K) + 3 + (lnA l0 K)))) 4 (fun _ => nI 0) (l0.getD ((hd l0 K) + 3) 0)).1.1.2.2.2)), iaC g (R 8) 1200 (dcF l0 f), iaC g (R 12) 128 (cpy 1 co (gvF p8 m8 (l0.getD ((hd l0 K) + 3) 0)) 64), iaC g (R 13) 128 un, iaC g (R 17) 64 (flat 8 (fun y x => (gvF p8 m8 (l0.getD ((hd l0 K) + 3) 0)) (8 * y + x))), iaC g (R 18) 8 r, iaC g (R 19) 8 x, iaC g (R 20) 64 (nF p8), zaC g (R 21) 64 (bF m8)]) 135 [some (.ref (R 0)), some (.int (nI (hd l0 K))), some (.int (nI 1)), some (.int (nI 4)), some (.int (nI (l0.getD ((hd l0 K) + 3) 0))), some (.int v5), none] [] := by
    intro p8 m8 v5 hr
    refine sw_iconst (pc := 135) C (nI 2) d_Md_takeLayer_135 (by decide) ?_
    refine sw_istore (pc := 136) C d_Md_takeLayer_136 (by decide) rfl ?_
    refine sw_iload (pc := 138) C d_Md_takeLayer_138 rfl ?_
    refine sw_iload_n (pc := 140) C d_Md_takeLayer_140 rfl rfl ?_
    refine sw_icmp_gtN (pc := 141) C 169 (by omega) (by omega) d_Md_takeLayer_141 (by decide) (fun hx => ?_) (fun hx => ?_)
    · skip
      omega
    refine sw_aload_n (pc := 144) C d_Md_takeLayer_144 rfl rfl ?_
    refine sw_iload (pc := 145) C d_Md_takeLayer_145 rfl ?_
    refine sw_iconst (pc := 147) C (nI 0) d_Md_takeLayer_147 (by decide) ?_
    refine sw_topi (z := bI false) rfl ?_
    refine sw_iconst (pc := 148) C (nI 0) d_Md_takeLayer_148 (by decide) ?_
    refine sw_topi (z := bI false) rfl ?_
    refine sw_callVP (pc := 149) C (c_Md_all l g R dn pl l0.length ss pt th true (lyP (some (dgt l0 ((hd l0 K) + 3 + 1) ((hd l0 K) + 3 + (lnA l0 K)))) 4 (fun _ => nI 0) (l0.getD ((hd l0 K) + 3) 0)).1.1.2.2.1 (lyP (some (dgt l0 ((hd l0 K) + 3 + 1) ((hd l0 K) + 3 + (lnA l0 K)))) 4 (fun _ => nI 0) (l0.getD ((hd l0 K) + 3) 0)).1.1.2.2.2 ((fun y x => (gvF p8 m8 (l0.getD ((hd l0 K) + 3) 0)) (8 * y + x))) r x 2 (by decide) false false) sv_Md_all t_741 rfl rfl rfl [0, 7, 8, 9] rfl rfl rfl rfl (Nat.le_of_ble_eq_true rfl) (Nat.le_of_ble_eq_true rfl) (Nat.le_of_ble_eq_true rfl) (Nat.le_of_ble_eq_true rfl) (Nat.le_of_ble_eq_true rfl) d_Md_takeLayer_149 (fun v w1 hp => ?_)
    obtain ⟨rfl, ra2, xa2, rfl⟩ := hp
    refine ⟨rfl, ?_⟩
    refine sw_ws (ws' := [mdC R dn pl l0.length ss pt th true ((lyP (some (dgt l0 ((hd l0 K) + 3 + 1) ((hd l0 K) + 3 + (lnA l0 K)))) 4 (fun _ => nI 0) (l0.getD ((hd l0 K) + 3) 0)).1.1.2.2.1) ((lyP (some (dgt l0 ((hd l0 K) + 3 + 1) ((hd l0 K) + 3 + (lnA l0 K)))) 4 (fun _ => nI 0) (l0.getD ((hd l0 K) + 3) 0)).1.1.2.2.2), iaC g (R 14) 48 (nF (lyP (some (dgt l0 ((hd l0 K) + 3 + 1) ((hd l0 K) + 3 + (lnA l0 K)))) 4 (fun _ => nI 0) (l0.getD ((hd l0 K) + 3) 0)).1.1.1), iaC g (R 15) 48 (nF (lyP (some (dgt l0 ((hd l0 K) + 3 + 1) ((hd l0 K) + 3 + (lnA l0 K)))) 4 (fun _ => nI 0) (l0.getD ((hd l0 K) + 3) 0)).1.1.2.1), iaC g (R 16) 4400 (nF (rdg (dgt l0 ((hd l0 K) + 3 + 1) ((hd l0 K) + 3 + (lnA l0 K))) (lyP (some (dgt l0 ((hd l0 K) + 3 + 1) ((hd l0 K) + 3 + (lnA l0 K)))) 4 (fun _ => nI 0) (l0.getD ((hd l0 K) + 3) 0)).1.2 (lyP (some (dgt l0 ((hd l0 K) + 3 + 1) ((hd l0 K) + 3 + (lnA l0 K)))) 4 (fun _ => nI 0) (l0.getD ((hd l0 K) + 3) 0)).1.1.2.2.2)), iaC g (R 8) 1200 (dcF l0 f), iaC g (R 12) 128 (cpy 1 co (gvF p8 m8 (l0.getD ((hd l0 K) + 3) 0)) 64), iaC g (R 13) 128 un, iaC g (R 17) 64 (flat 8 (colsU (drR 2) 2 ((fun y x => (gvF p8 m8 (l0.getD ((hd l0 K) + 3) 0)) (8 * y + x))))), iaC g (R 18) 8 ra2, iaC g (R 19) 8 xa2, iaC g (R 20) 64 (nF p8), zaC g (R 21) 64 (bF m8)]) rfl ?_
    refine sw_aload_n (pc := 152) C d_Md_takeLayer_152 rfl rfl ?_
    refine sw_iload (pc := 153) C d_Md_takeLayer_153 rfl ?_
    refine sw_iconst (pc := 155) C (nI 1) d_Md_takeLayer_155 (by decide) ?_
    refine sw_topi (z := bI true) rfl ?_
    refine sw_iconst (pc := 156) C (nI 0) d_Md_takeLayer_156 (by decide) ?_
    refine sw_topi (z := bI false) rfl ?_
    refine sw_callVP (pc := 157) C (c_Md_all l g R dn pl l0.length ss pt th true (lyP (some (dgt l0 ((hd l0 K) + 3 + 1) ((hd l0 K) + 3 + (lnA l0 K)))) 4 (fun _ => nI 0) (l0.getD ((hd l0 K) + 3) 0)).1.1.2.2.1 (lyP (some (dgt l0 ((hd l0 K) + 3 + 1) ((hd l0 K) + 3 + (lnA l0 K)))) 4 (fun _ => nI 0) (l0.getD ((hd l0 K) + 3) 0)).1.1.2.2.2 (colsU (drR 2) 2 ((fun y x => (gvF p8 m8 (l0.getD ((hd l0 K) + 3) 0)) (8 * y + x)))) ra2 xa2 2 (by decide) true false) sv_Md_all t_741 rfl rfl rfl [0, 7, 8, 9] rfl rfl rfl rfl (Nat.le_of_ble_eq_true rfl) (Nat.le_of_ble_eq_true rfl) (Nat.le_of_ble_eq_true rfl) (Nat.le_of_ble_eq_true rfl) (Nat.le_of_ble_eq_true rfl) d_Md_takeLayer_157 (fun v w1 hp => ?_)
    obtain ⟨rfl, rb2, xb2, rfl⟩ := hp
    refine ⟨rfl, ?_⟩
    refine sw_ws (ws' := [mdC R dn pl l0.length ss pt th true ((lyP (some (dgt l0 ((hd l0 K) + 3 + 1) ((hd l0 K) + 3 + (lnA l0 K)))) 4 (fun _ => nI 0) (l0.getD ((hd l0 K) + 3) 0)).1.1.2.2.1) ((lyP (some (dgt l0 ((hd l0 K) + 3 + 1) ((hd l0 K) + 3 + (lnA l0 K)))) 4 (fun _ => nI 0) (l0.getD ((hd l0 K) + 3) 0)).1.1.2.2.2), iaC g (R 14) 48 (nF (lyP (some (dgt l0 ((hd l0 K) + 3 + 1) ((hd l0 K) + 3 + (lnA l0 K)))) 4 (fun _ => nI 0) (l0.getD ((hd l0 K) + 3) 0)).1.1.1), iaC g (R 15) 48 (nF (lyP (some (dgt l0 ((hd l0 K) + 3 + 1) ((hd l0 K) + 3 + (lnA l0 K)))) 4 (fun _ => nI 0) (l0.getD ((hd l0 K) + 3) 0)).1.1.2.1), iaC g (R 16) 4400 (nF (rdg (dgt l0 ((hd l0 K) + 3 + 1) ((hd l0 K) + 3 + (lnA l0 K))) (lyP (some (dgt l0 ((hd l0 K) + 3 + 1) ((hd l0 K) + 3 + (lnA l0 K)))) 4 (fun _ => nI 0) (l0.getD ((hd l0 K) + 3) 0)).1.2 (lyP (some (dgt l0 ((hd l0 K) + 3 + 1) ((hd l0 K) + 3 + (lnA l0 K)))) 4 (fun _ => nI 0) (l0.getD ((hd l0 K) + 3) 0)).1.1.2.2.2)), iaC g (R 8) 1200 (dcF l0 f), iaC g (R 12) 128 (cpy 1 co (gvF p8 m8 (l0.getD ((hd l0 K) + 3) 0)) 64), iaC g (R 13) 128 un, iaC g (R 17) 64 (flat 8 (levD 2 ((fun y x => (gvF p8 m8 (l0.getD ((hd l0 K) + 3) 0)) (8 * y + x))))), iaC g (R 18) 8 rb2, iaC g (R 19) 8 xb2, iaC g (R 20) 64 (nF p8), zaC g (R 21) 64 (bF m8)]) rfl ?_
    refine sw_iload (pc := 160) C d_Md_takeLayer_160 rfl ?_
    refine sw_iconst (pc := 162) C (nI 2) d_Md_takeLayer_162 (by decide) ?_
    refine sw_imul (pc := 163) C d_Md_takeLayer_163 ?_
    refine sw_topi (z := nI (2 * 2)) (pk_mul _ _) ?_
    refine sw_topi (z := nI 4) rfl ?_
    refine sw_istore (pc := 164) C d_Md_takeLayer_164 (by decide) rfl ?_
    refine sw_goto (pc := 166) C 138 d_Md_takeLayer_166 (by decide) ?_
    refine sw_iload (pc := 138) C d_Md_takeLayer_138 rfl ?_
    refine sw_iload_n (pc := 140) C d_Md_takeLayer_140 rfl rfl ?_
    refine sw_icmp_gtN (pc := 141) C 169 (by omega) (by omega) d_Md_takeLayer_141 (by decide) (fun hx => ?_) (fun hx => ?_)
    · skip
      omega
    refine sw_aload_n (pc := 144) C d_Md_takeLayer_144 rfl rfl ?_
    refine sw_iload (pc := 145) C d_Md_takeLayer_145 rfl ?_
    refine sw_iconst (pc := 147) C (nI 0) d_Md_takeLayer_147 (by decide) ?_
    refine sw_topi (z := bI false) rfl ?_
    refine sw_iconst (pc := 148) C (nI 0) d_Md_takeLayer_148 (by decide) ?_
    refine sw_topi (z := bI false) rfl ?_
    refine sw_callVP (pc := 149) C (c_Md_all l g R dn pl l0.length ss pt th true (lyP (some (dgt l0 ((hd l0 K) + 3 + 1) ((hd l0 K) + 3 + (lnA l0 K)))) 4 (fun _ => nI 0) (l0.getD ((hd l0 K) + 3) 0)).1.1.2.2.1 (lyP (some (dgt l0 ((hd l0 K) + 3 + 1) ((hd l0 K) + 3 + (lnA l0 K)))) 4 (fun _ => nI 0) (l0.getD ((hd l0 K) + 3) 0)).1.1.2.2.2 (levD 2 ((fun y x => (gvF p8 m8 (l0.getD ((hd l0 K) + 3) 0)) (8 * y + x)))) rb2 xb2 4 (by decide) false false) sv_Md_all t_741 rfl rfl rfl [0, 7, 8, 9] rfl rfl rfl rfl (Nat.le_of_ble_eq_true rfl) (Nat.le_of_ble_eq_true rfl) (Nat.le_of_ble_eq_true rfl) (Nat.le_of_ble_eq_true rfl) (Nat.le_of_ble_eq_true rfl) d_Md_takeLayer_149 (fun v w1 hp => ?_)
    obtain ⟨rfl, ra4, xa4, rfl⟩ := hp
    refine ⟨rfl, ?_⟩
    refine sw_ws (ws' := [mdC R dn pl l0.length ss pt th true ((lyP (some (dgt l0 ((hd l0 K) + 3 + 1) ((hd l0 K) + 3 + (lnA l0 K)))) 4 (fun _ => nI 0) (l0.getD ((hd l0 K) + 3) 0)).1.1.2.2.1) ((lyP (some (dgt l0 ((hd l0 K) + 3 + 1) ((hd l0 K) + 3 + (lnA l0 K)))) 4 (fun _ => nI 0) (l0.getD ((hd l0 K) + 3) 0)).1.1.2.2.2), iaC g (R 14) 48 (nF (lyP (some (dgt l0 ((hd l0 K) + 3 + 1) ((hd l0 K) + 3 + (lnA l0 K)))) 4 (fun _ => nI 0) (l0.getD ((hd l0 K) + 3) 0)).1.1.1), iaC g (R 15) 48 (nF (lyP (some (dgt l0 ((hd l0 K) + 3 + 1) ((hd l0 K) + 3 + (lnA l0 K)))) 4 (fun _ => nI 0) (l0.getD ((hd l0 K) + 3) 0)).1.1.2.1), iaC g (R 16) 4400 (nF (rdg (dgt l0 ((hd l0 K) + 3 + 1) ((hd l0 K) + 3 + (lnA l0 K))) (lyP (some (dgt l0 ((hd l0 K) + 3 + 1) ((hd l0 K) + 3 + (lnA l0 K)))) 4 (fun _ => nI 0) (l0.getD ((hd l0 K) + 3) 0)).1.2 (lyP (some (dgt l0 ((hd l0 K) + 3 + 1) ((hd l0 K) + 3 + (lnA l0 K)))) 4 (fun _ => nI 0) (l0.getD ((hd l0 K) + 3) 0)).1.1.2.2.2)), iaC g (R 8) 1200 (dcF l0 f), iaC g (R 12) 128 (cpy 1 co (gvF p8 m8 (l0.getD ((hd l0 K) + 3) 0)) 64), iaC g (R 13) 128 un, iaC g (R 17) 64 (flat 8 (colsU (drR 4) 4 (levD 2 ((fun y x => (gvF p8 m8 (l0.getD ((hd l0 K) + 3) 0)) (8 * y + x)))))), iaC g (R 18) 8 ra4, iaC g (R 19) 8 xa4, iaC g (R 20) 64 (nF p8), zaC g (R 21) 64 (bF m8)]) rfl ?_
    refine sw_aload_n (pc := 152) C d_Md_takeLayer_152 rfl rfl ?_
    refine sw_iload (pc := 153) C d_Md_takeLayer_153 rfl ?_
    refine sw_iconst (pc := 155) C (nI 1) d_Md_takeLayer_155 (by decide) ?_
    refine sw_topi (z := bI true) rfl ?_
    refine sw_iconst (pc := 156) C (nI 0) d_Md_takeLayer_156 (by decide) ?_
    refine sw_topi (z := bI false) rfl ?_
    refine sw_callVP (pc := 157) C (c_Md_all l g R dn pl l0.length ss pt th true (lyP (some (dgt l0 ((hd l0 K) + 3 + 1) ((hd l0 K) + 3 + (lnA l0 K)))) 4 (fun _ => nI 0) (l0.getD ((hd l0 K) + 3) 0)).1.1.2.2.1 (lyP (some (dgt l0 ((hd l0 K) + 3 + 1) ((hd l0 K) + 3 + (lnA l0 K)))) 4 (fun _ => nI 0) (l0.getD ((hd l0 K) + 3) 0)).1.1.2.2.2 (colsU (drR 4) 4 (levD 2 ((fun y x => (gvF p8 m8 (l0.getD ((hd l0 K) + 3) 0)) (8 * y + x))))) ra4 xa4 4 (by decide) true false) sv_Md_all t_741 rfl rfl rfl [0, 7, 8, 9] rfl rfl rfl rfl (Nat.le_of_ble_eq_true rfl) (Nat.le_of_ble_eq_true rfl) (Nat.le_of_ble_eq_true rfl) (Nat.le_of_ble_eq_true rfl) (Nat.le_of_ble_eq_true rfl) d_Md_takeLayer_157 (fun v w1 hp => ?_)
    obtain ⟨rfl, rb4, xb4, rfl⟩ := hp
    refine ⟨rfl, ?_⟩
    refine sw_ws (ws' := [mdC R dn pl l0.length ss pt th true ((lyP (some (dgt l0 ((hd l0 K) + 3 + 1) ((hd l0 K) + 3 + (lnA l0 K)))) 4 (fun _ => nI 0) (l0.getD ((hd l0 K) + 3) 0)).1.1.2.2.1) ((lyP (some (dgt l0 ((hd l0 K) + 3 + 1) ((hd l0 K) + 3 + (lnA l0 K)))) 4 (fun _ => nI 0) (l0.getD ((hd l0 K) + 3) 0)).1.1.2.2.2), iaC g (R 14) 48 (nF (lyP (some (dgt l0 ((hd l0 K) + 3 + 1) ((hd l0 K) + 3 + (lnA l0 K)))) 4 (fun _ => nI 0) (l0.getD ((hd l0 K) + 3) 0)).1.1.1), iaC g (R 15) 48 (nF (lyP (some (dgt l0 ((hd l0 K) + 3 + 1) ((hd l0 K) + 3 + (lnA l0 K)))) 4 (fun _ => nI 0) (l0.getD ((hd l0 K) + 3) 0)).1.1.2.1), iaC g (R 16) 4400 (nF (rdg (dgt l0 ((hd l0 K) + 3 + 1) ((hd l0 K) + 3 + (lnA l0 K))) (lyP (some (dgt l0 ((hd l0 K) + 3 + 1) ((hd l0 K) + 3 + (lnA l0 K)))) 4 (fun _ => nI 0) (l0.getD ((hd l0 K) + 3) 0)).1.2 (lyP (some (dgt l0 ((hd l0 K) + 3 + 1) ((hd l0 K) + 3 + (lnA l0 K)))) 4 (fun _ => nI 0) (l0.getD ((hd l0 K) + 3) 0)).1.1.2.2.2)), iaC g (R 8) 1200 (dcF l0 f), iaC g (R 12) 128 (cpy 1 co (gvF p8 m8 (l0.getD ((hd l0 K) + 3) 0)) 64), iaC g (R 13) 128 un, iaC g (R 17) 64 (flat 8 (levD 4 (levD 2 ((fun y x => (gvF p8 m8 (l0.getD ((hd l0 K) + 3) 0)) (8 * y + x)))))), iaC g (R 18) 8 rb4, iaC g (R 19) 8 xb4, iaC g (R 20) 64 (nF p8), zaC g (R 21) 64 (bF m8)]) rfl ?_
    refine sw_iload (pc := 160) C d_Md_takeLayer_160 rfl ?_
    refine sw_iconst (pc := 162) C (nI 2) d_Md_takeLayer_162 (by decide) ?_
    refine sw_imul (pc := 163) C d_Md_takeLayer_163 ?_
    refine sw_topi (z := nI (4 * 2)) (pk_mul _ _) ?_
    refine sw_topi (z := nI 8) rfl ?_
    refine sw_istore (pc := 164) C d_Md_takeLayer_164 (by decide) rfl ?_
    refine sw_goto (pc := 166) C 138 d_Md_takeLayer_166 (by decide) ?_
    refine sw_iload (pc := 138) C d_Md_takeLayer_138 rfl ?_
    refine sw_iload_n (pc := 140) C d_Md_takeLayer_140 rfl rfl ?_
    refine sw_icmp_gtN (pc := 141) C 169 (by omega) (by omega) d_Md_takeLayer_141 (by decide) (fun hx => ?_) (fun hx => ?_)
    · skip
      exact c169 p8 m8 rb4 xb4 _ hr
    omega
  have c60 : ∀ (p8 : Nat → Nat) (m8 : Nat → Bool) (g0 : Nat → Int32) (v5 : Int32), rl 4 p8 m8 (lyP (some (dgt l0 ((hd l0 K) + 3 + 1) ((hd l0 K) + 3 + (lnA l0 K)))) 4 (fun _ => nI 0) (l0.getD ((hd l0 K) + 3) 0)).2.1 (lyP (some (dgt l0 ((hd l0 K) + 3 + 1) ((hd l0 K) + 3 + (lnA l0 K)))) 4 (fun _ => nI 0) (l0.getD ((hd l0 K) + 3) 0)).2.2 → SW X g 7 0 0 ([mdC R dn pl l0.length ss pt th true ((lyP (some (dgt l0 ((hd l0 K) + 3 + 1) ((hd l0 K) + 3 + (lnA l0 K)))) 4 (fun _ => nI 0) (l0.getD ((hd l0 K) + 3) 0)).1.1.2.2.1) ((lyP (some (dgt l0 ((hd l0 K) + 3 + 1) ((hd l0 K) + 3 + (lnA l0 K)))) 4 (fun _ => nI 0) (l0.getD ((hd l0 K) + 3) 0)).1.1.2.2.2), iaC g (R 14) 48 (nF (lyP (some (dgt l0 ((hd l0 K) + 3 + 1) ((hd l0 K) + 3 + (lnA l0 K)))) 4 (fun _ => nI 0) (l0.getD ((hd l0 K) + 3) 0)).1.1.1), iaC g (R 15) 48 (nF (lyP (some (dgt l0 ((hd l0 K) + 3 + 1) ((hd l0 K) + 3 + (lnA l0 K)))) 4 (fun _ => nI 0) (l0.getD ((hd l0 K) + 3) 0)).1.1.2.1), iaC g (R 16) 4400 (nF (rdg (dgt l0 ((hd l0 K) + 3 + 1) ((hd l0 K) + 3 + (lnA l0 K))) (lyP (some (dgt l0 ((hd l0 K) + 3 + 1) ((hd l0 K) + 3 + (lnA l0 K)))) 4 (fun _ => nI 0) (l0.getD ((hd l0 K) + 3) 0)).1.2 (lyP (some (dgt l0 ((hd l0 K) + 3 + 1) ((hd l0 K) + 3 + (lnA l0 K)))) 4 (fun _ => nI 0) (l0.getD ((hd l0 K) + 3) 0)).1.1.2.2.2)), iaC g (R 8) 1200 (dcF l0 f), iaC g (R 12) 128 co, iaC g (R 13) 128 un, iaC g (R 17) 64 g0, iaC g (R 18) 8 r, iaC g (R 19) 8 x, iaC g (R 20) 64 (nF p8), zaC g (R 21) 64 (bF m8)]) 60 [some (.ref (R 0)), some (.int (nI (hd l0 K))), some (.int (nI 1)), some (.int (nI 4)), some (.int (nI (l0.getD ((hd l0 K) + 3) 0))), some (.int v5), none] [] := by
    intro p8 m8 g0 v5 hr
    have key : ∀ (nn i : Nat) (q : Nat → Int32), i + nn = 64 → (∀ j, j < i → q j = (gvF p8 m8 (l0.getD ((hd l0 K) + 3) 0)) j) → SW X g 7 0 0 ([mdC R dn pl l0.length ss pt th true ((lyP (some (dgt l0 ((hd l0 K) + 3 + 1) ((hd l0 K) + 3 + (lnA l0 K)))) 4 (fun _ => nI 0) (l0.getD ((hd l0 K) + 3) 0)).1.1.2.2.1) ((lyP (some (dgt l0 ((hd l0 K) + 3 + 1) ((hd l0 K) + 3 + (lnA l0 K)))) 4 (fun _ => nI 0) (l0.getD ((hd l0 K) + 3) 0)).1.1.2.2.2), iaC g (R 14) 48 (nF (lyP (some (dgt l0 ((hd l0 K) + 3 + 1) ((hd l0 K) + 3 + (lnA l0 K)))) 4 (fun _ => nI 0) (l0.getD ((hd l0 K) + 3) 0)).1.1.1), iaC g (R 15) 48 (nF (lyP (some (dgt l0 ((hd l0 K) + 3 + 1) ((hd l0 K) + 3 + (lnA l0 K)))) 4 (fun _ => nI 0) (l0.getD ((hd l0 K) + 3) 0)).1.1.2.1), iaC g (R 16) 4400 (nF (rdg (dgt l0 ((hd l0 K) + 3 + 1) ((hd l0 K) + 3 + (lnA l0 K))) (lyP (some (dgt l0 ((hd l0 K) + 3 + 1) ((hd l0 K) + 3 + (lnA l0 K)))) 4 (fun _ => nI 0) (l0.getD ((hd l0 K) + 3) 0)).1.2 (lyP (some (dgt l0 ((hd l0 K) + 3 + 1) ((hd l0 K) + 3 + (lnA l0 K)))) 4 (fun _ => nI 0) (l0.getD ((hd l0 K) + 3) 0)).1.1.2.2.2)), iaC g (R 8) 1200 (dcF l0 f), iaC g (R 12) 128 (cpy 1 co (gvF p8 m8 (l0.getD ((hd l0 K) + 3) 0)) i), iaC g (R 13) 128 un, iaC g (R 17) 64 q, iaC g (R 18) 8 r, iaC g (R 19) 8 x, iaC g (R 20) 64 (nF p8), zaC g (R 21) 64 (bF m8)]) 63 [some (.ref (R 0)), some (.int (nI (hd l0 K))), some (.int (nI 1)), some (.int (nI 4)), some (.int (nI (l0.getD ((hd l0 K) + 3) 0))), some (.int (nI i)), none] [] := by
      intro nn
      induction nn with
      | zero =>
        intro i q hi hq
        refine sw_iload (pc := 63) C d_Md_takeLayer_63 rfl ?_
        refine sw_bipush (pc := 65) C (nI 64) d_Md_takeLayer_65 (by decide) ?_
        refine sw_icmp_geN (pc := 67) C 135 (by omega) (by omega) d_Md_takeLayer_67 (by decide) (fun hx => ?_) (fun hx => ?_)
        · skip
          have ei : i = 64 := by omega
          subst ei
          refine sw_arr (f' := flat 8 (fun y x => (gvF p8 m8 (l0.getD ((hd l0 K) + 3) 0)) (8 * y + x))) 7 rfl (fun j hj => by rw [flat_of]; exact hq j hj) ?_
          exact c135 p8 m8 _ hr
        omega
      | succ nn ih =>
        intro i q hi hq
        refine sw_iload (pc := 63) C d_Md_takeLayer_63 rfl ?_
        refine sw_bipush (pc := 65) C (nI 64) d_Md_takeLayer_65 (by decide) ?_
        refine sw_icmp_geN (pc := 67) C 135 (by omega) (by omega) d_Md_takeLayer_67 (by decide) (fun hx => ?_) (fun hx => ?_)
        · skip
          omega
        refine sw_aload_n (pc := 70) C d_Md_takeLayer_70 rfl rfl ?_
        refine sw_get (pc := 71) C inMd 0 rfl rfl 28 (by decide) t_600 rfl rfl d_Md_takeLayer_71 ?_
        refine sw_iload (pc := 74) C d_Md_takeLayer_74 rfl ?_
        refine sw_ialdN (pc := 76) C 10 i rfl rfl (by omega) (by decide) d_Md_takeLayer_76 ?_
        refine sw_topi (z := (nI (p8 i))) rfl ?_
        refine sw_bipush (pc := 77) C (nI 10) d_Md_takeLayer_77 (by decide) ?_
        refine sw_iload (pc := 79) C d_Md_takeLayer_79 rfl ?_
        refine sw_isub (pc := 81) C d_Md_takeLayer_81 ?_
        refine sw_topi (z := nI (10 - (l0.getD ((hd l0 K) + 3) 0))) (pk_sub (by omega)) ?_
        refine sw_ishl (pc := 82) C d_Md_takeLayer_82 ?_
        refine sw_istore (pc := 83) C d_Md_takeLayer_83 (by decide) rfl ?_
        refine sw_aload_n (pc := 85) C d_Md_takeLayer_85 rfl rfl ?_
        refine sw_get (pc := 86) C inMd 0 rfl rfl 25 (by decide) t_597 rfl rfl d_Md_takeLayer_86 ?_
        refine sw_iload (pc := 89) C d_Md_takeLayer_89 rfl ?_
        refine sw_aload_n (pc := 91) C d_Md_takeLayer_91 rfl rfl ?_
        refine sw_get (pc := 92) C inMd 0 rfl rfl 29 (by decide) t_601 rfl rfl d_Md_takeLayer_92 ?_
        refine sw_iload (pc := 95) C d_Md_takeLayer_95 rfl ?_
        refine sw_zaldN (pc := 97) C 11 i rfl rfl (by omega) (by decide) d_Md_takeLayer_97 ?_
        refine sw_topi (z := bI (m8 i)) rfl ?_
        refine sw_if_eqB (pc := 98) C 107 d_Md_takeLayer_98 (by decide) (fun hm => ?_) (fun hm => ?_)
        · skip
          refine sw_iload (pc := 107) C d_Md_takeLayer_107 rfl ?_
          refine sw_topi (z := ((gvF p8 m8 (l0.getD ((hd l0 K) + 3) 0)) i)) (by unfold gvF; rw [if_neg (by rw [hm]; decide)]) ?_
          refine sw_iastN (pc := 109) C 7 i rfl rfl (by omega) (by decide) d_Md_takeLayer_109 ?_
          refine sw_aload_n (pc := 110) C d_Md_takeLayer_110 rfl rfl ?_
          refine sw_get (pc := 111) C inMd 0 rfl rfl 17 (by decide) t_589 rfl rfl d_Md_takeLayer_111 ?_
          refine sw_bipush (pc := 114) C (nI 64) d_Md_takeLayer_114 (by decide) ?_
          refine sw_iload_n (pc := 116) C d_Md_takeLayer_116 rfl rfl ?_
          refine sw_imul (pc := 117) C d_Md_takeLayer_117 ?_
          refine sw_topi (z := nI (64 * 1)) (pk_mul _ _) ?_
          refine sw_iload (pc := 118) C d_Md_takeLayer_118 rfl ?_
          refine sw_iadd (pc := 120) C d_Md_takeLayer_120 ?_
          refine sw_topi (z := nI ((64 * 1) + i)) (nI_add _ _) ?_
          refine sw_aload_n (pc := 121) C d_Md_takeLayer_121 rfl rfl ?_
          refine sw_get (pc := 122) C inMd 0 rfl rfl 25 (by decide) t_597 rfl rfl d_Md_takeLayer_122 ?_
          refine sw_iload (pc := 125) C d_Md_takeLayer_125 rfl ?_
          refine sw_ialdN (pc := 127) C 7 i rfl rfl (by omega) (by decide) d_Md_takeLayer_127 ?_
          refine sw_topi (z := ((gvF p8 m8 (l0.getD ((hd l0 K) + 3) 0)) i)) (by unfold upd; rw [if_pos rfl]) ?_
          refine sw_iastN (pc := 128) C 5 ((64 * 1) + i) rfl rfl (by omega) (by decide) d_Md_takeLayer_128 ?_
          refine sw_ws (ws' := [mdC R dn pl l0.length ss pt th true ((lyP (some (dgt l0 ((hd l0 K) + 3 + 1) ((hd l0 K) + 3 + (lnA l0 K)))) 4 (fun _ => nI 0) (l0.getD ((hd l0 K) + 3) 0)).1.1.2.2.1) ((lyP (some (dgt l0 ((hd l0 K) + 3 + 1) ((hd l0 K) + 3 + (lnA l0 K)))) 4 (fun _ => nI 0) (l0.getD ((hd l0 K) + 3) 0)).1.1.2.2.2), iaC g (R 14) 48 (nF (lyP (some (dgt l0 ((hd l0 K) + 3 + 1) ((hd l0 K) + 3 + (lnA l0 K)))) 4 (fun _ => nI 0) (l0.getD ((hd l0 K) + 3) 0)).1.1.1), iaC g (R 15) 48 (nF (lyP (some (dgt l0 ((hd l0 K) + 3 + 1) ((hd l0 K) + 3 + (lnA l0 K)))) 4 (fun _ => nI 0) (l0.getD ((hd l0 K) + 3) 0)).1.1.2.1), iaC g (R 16) 4400 (nF (rdg (dgt l0 ((hd l0 K) + 3 + 1) ((hd l0 K) + 3 + (lnA l0 K))) (lyP (some (dgt l0 ((hd l0 K) + 3 + 1) ((hd l0 K) + 3 + (lnA l0 K)))) 4 (fun _ => nI 0) (l0.getD ((hd l0 K) + 3) 0)).1.2 (lyP (some (dgt l0 ((hd l0 K) + 3 + 1) ((hd l0 K) + 3 + (lnA l0 K)))) 4 (fun _ => nI 0) (l0.getD ((hd l0 K) + 3) 0)).1.1.2.2.2)), iaC g (R 8) 1200 (dcF l0 f), iaC g (R 12) 128 (cpy 1 co (gvF p8 m8 (l0.getD ((hd l0 K) + 3) 0)) (i + 1)), iaC g (R 13) 128 un, iaC g (R 17) 64 (upd q i ((gvF p8 m8 (l0.getD ((hd l0 K) + 3) 0)) i)), iaC g (R 18) 8 r, iaC g (R 19) 8 x, iaC g (R 20) 64 (nF p8), zaC g (R 21) 64 (bF m8)]) (by rw [← cpy_up]; rfl) ?_
          refine sw_iincN (pc := 129) C 1 d_Md_takeLayer_129 rfl (by decide) (by decide) rfl ?_
          refine sw_goto (pc := 132) C 63 d_Md_takeLayer_132 (by decide) ?_
          refine sw_drop 6 ?_
          refine ih (i + 1) (upd q i ((gvF p8 m8 (l0.getD ((hd l0 K) + 3) 0)) i)) (by omega) (fun j hj => ?_)
          unfold upd
          by_cases e : j = i
          · rw [if_pos e, e]
          · rw [if_neg e]; exact hq j (by omega)
        refine sw_iload (pc := 101) C d_Md_takeLayer_101 rfl ?_
        refine sw_ineg (pc := 103) C d_Md_takeLayer_103 ?_
        refine sw_goto (pc := 104) C 109 d_Md_takeLayer_104 (by decide) ?_
        refine sw_topi (z := ((gvF p8 m8 (l0.getD ((hd l0 K) + 3) 0)) i)) (by unfold gvF; rw [if_pos hm]) ?_
        refine sw_iastN (pc := 109) C 7 i rfl rfl (by omega) (by decide) d_Md_takeLayer_109 ?_
        refine sw_aload_n (pc := 110) C d_Md_takeLayer_110 rfl rfl ?_
        refine sw_get (pc := 111) C inMd 0 rfl rfl 17 (by decide) t_589 rfl rfl d_Md_takeLayer_111 ?_
        refine sw_bipush (pc := 114) C (nI 64) d_Md_takeLayer_114 (by decide) ?_
        refine sw_iload_n (pc := 116) C d_Md_takeLayer_116 rfl rfl ?_
        refine sw_imul (pc := 117) C d_Md_takeLayer_117 ?_
        refine sw_topi (z := nI (64 * 1)) (pk_mul _ _) ?_
        refine sw_iload (pc := 118) C d_Md_takeLayer_118 rfl ?_
        refine sw_iadd (pc := 120) C d_Md_takeLayer_120 ?_
        refine sw_topi (z := nI ((64 * 1) + i)) (nI_add _ _) ?_
        refine sw_aload_n (pc := 121) C d_Md_takeLayer_121 rfl rfl ?_
        refine sw_get (pc := 122) C inMd 0 rfl rfl 25 (by decide) t_597 rfl rfl d_Md_takeLayer_122 ?_
        refine sw_iload (pc := 125) C d_Md_takeLayer_125 rfl ?_
        refine sw_ialdN (pc := 127) C 7 i rfl rfl (by omega) (by decide) d_Md_takeLayer_127 ?_
        refine sw_topi (z := ((gvF p8 m8 (l0.getD ((hd l0 K) + 3) 0)) i)) (by unfold upd; rw [if_pos rfl]) ?_
        refine sw_iastN (pc := 128) C 5 ((64 * 1) + i) rfl rfl (by omega) (by decide) d_Md_takeLayer_128 ?_
        refine sw_ws (ws' := [mdC R dn pl l0.length ss pt th true ((lyP (some (dgt l0 ((hd l0 K) + 3 + 1) ((hd l0 K) + 3 + (lnA l0 K)))) 4 (fun _ => nI 0) (l0.getD ((hd l0 K) + 3) 0)).1.1.2.2.1) ((lyP (some (dgt l0 ((hd l0 K) + 3 + 1) ((hd l0 K) + 3 + (lnA l0 K)))) 4 (fun _ => nI 0) (l0.getD ((hd l0 K) + 3) 0)).1.1.2.2.2), iaC g (R 14) 48 (nF (lyP (some (dgt l0 ((hd l0 K) + 3 + 1) ((hd l0 K) + 3 + (lnA l0 K)))) 4 (fun _ => nI 0) (l0.getD ((hd l0 K) + 3) 0)).1.1.1), iaC g (R 15) 48 (nF (lyP (some (dgt l0 ((hd l0 K) + 3 + 1) ((hd l0 K) + 3 + (lnA l0 K)))) 4 (fun _ => nI 0) (l0.getD ((hd l0 K) + 3) 0)).1.1.2.1), iaC g (R 16) 4400 (nF (rdg (dgt l0 ((hd l0 K) + 3 + 1) ((hd l0 K) + 3 + (lnA l0 K))) (lyP (some (dgt l0 ((hd l0 K) + 3 + 1) ((hd l0 K) + 3 + (lnA l0 K)))) 4 (fun _ => nI 0) (l0.getD ((hd l0 K) + 3) 0)).1.2 (lyP (some (dgt l0 ((hd l0 K) + 3 + 1) ((hd l0 K) + 3 + (lnA l0 K)))) 4 (fun _ => nI 0) (l0.getD ((hd l0 K) + 3) 0)).1.1.2.2.2)), iaC g (R 8) 1200 (dcF l0 f), iaC g (R 12) 128 (cpy 1 co (gvF p8 m8 (l0.getD ((hd l0 K) + 3) 0)) (i + 1)), iaC g (R 13) 128 un, iaC g (R 17) 64 (upd q i ((gvF p8 m8 (l0.getD ((hd l0 K) + 3) 0)) i)), iaC g (R 18) 8 r, iaC g (R 19) 8 x, iaC g (R 20) 64 (nF p8), zaC g (R 21) 64 (bF m8)]) (by rw [← cpy_up]; rfl) ?_
        refine sw_iincN (pc := 129) C 1 d_Md_takeLayer_129 rfl (by decide) (by decide) rfl ?_
        refine sw_goto (pc := 132) C 63 d_Md_takeLayer_132 (by decide) ?_
        refine sw_drop 6 ?_
        refine ih (i + 1) (upd q i ((gvF p8 m8 (l0.getD ((hd l0 K) + 3) 0)) i)) (by omega) (fun j hj => ?_)
        unfold upd
        by_cases e : j = i
        · rw [if_pos e, e]
        · rw [if_neg e]; exact hq j (by omega)
    refine sw_iconst (pc := 60) C (nI 0) d_Md_takeLayer_60 (by decide) ?_
    refine sw_istore (pc := 61) C d_Md_takeLayer_61 (by decide) rfl ?_
    refine sw_ws (ws' := [mdC R dn pl l0.length ss pt th true ((lyP (some (dgt l0 ((hd l0 K) + 3 + 1) ((hd l0 K) + 3 + (lnA l0 K)))) 4 (fun _ => nI 0) (l0.getD ((hd l0 K) + 3) 0)).1.1.2.2.1) ((lyP (some (dgt l0 ((hd l0 K) + 3 + 1) ((hd l0 K) + 3 + (lnA l0 K)))) 4 (fun _ => nI 0) (l0.getD ((hd l0 K) + 3) 0)).1.1.2.2.2), iaC g (R 14) 48 (nF (lyP (some (dgt l0 ((hd l0 K) + 3 + 1) ((hd l0 K) + 3 + (lnA l0 K)))) 4 (fun _ => nI 0) (l0.getD ((hd l0 K) + 3) 0)).1.1.1), iaC g (R 15) 48 (nF (lyP (some (dgt l0 ((hd l0 K) + 3 + 1) ((hd l0 K) + 3 + (lnA l0 K)))) 4 (fun _ => nI 0) (l0.getD ((hd l0 K) + 3) 0)).1.1.2.1), iaC g (R 16) 4400 (nF (rdg (dgt l0 ((hd l0 K) + 3 + 1) ((hd l0 K) + 3 + (lnA l0 K))) (lyP (some (dgt l0 ((hd l0 K) + 3 + 1) ((hd l0 K) + 3 + (lnA l0 K)))) 4 (fun _ => nI 0) (l0.getD ((hd l0 K) + 3) 0)).1.2 (lyP (some (dgt l0 ((hd l0 K) + 3 + 1) ((hd l0 K) + 3 + (lnA l0 K)))) 4 (fun _ => nI 0) (l0.getD ((hd l0 K) + 3) 0)).1.1.2.2.2)), iaC g (R 8) 1200 (dcF l0 f), iaC g (R 12) 128 (cpy 1 co (gvF p8 m8 (l0.getD ((hd l0 K) + 3) 0)) 0), iaC g (R 13) 128 un, iaC g (R 17) 64 g0, iaC g (R 18) 8 r, iaC g (R 19) 8 x, iaC g (R 20) 64 (nF p8), zaC g (R 21) 64 (bF m8)]) (by rw [cpy_0]) ?_
    exact key 64 0 g0 (by omega) (fun j hj => absurd hj (Nat.not_lt_zero _))
  have key : ∀ (nn i : Nat) (q : Nat → Int32), i + nn = 64 → (∀ j, j < i → q j = nI 0) → SW X g 7 0 0 ([mdC R dn pl l0.length ss pt th rd wd sc, iaC g (R 14) 48 z, iaC g (R 15) 48 o, iaC g (R 16) 4400 d, iaC g (R 8) 1200 (dcF l0 f), iaC g (R 12) 128 co, iaC g (R 13) 128 un, iaC g (R 17) 64 q, iaC g (R 18) 8 r, iaC g (R 19) 8 x, iaC g (R 20) 64 p, zaC g (R 21) 64 m]) 18 [some (.ref (R 0)), some (.int (nI (hd l0 K))), some (.int (nI 1)), some (.int (nI 4)), some (.int (nI (l0.getD ((hd l0 K) + 3) 0))), some (.int (nI i)), none] [] := by
    intro nn
    induction nn with
    | zero =>
      intro i q hi hq
      refine sw_iload (pc := 18) C d_Md_takeLayer_18 rfl ?_
      refine sw_bipush (pc := 20) C (nI 64) d_Md_takeLayer_20 (by decide) ?_
      refine sw_icmp_geN (pc := 22) C 39 (by omega) (by omega) d_Md_takeLayer_22 (by decide) (fun hx => ?_) (fun hx => ?_)
      · skip
        refine sw_arr (f' := fun _ => nI 0) 7 rfl (fun j hj => hq j (by omega)) ?_
        refine sw_aload_n (pc := 39) C d_Md_takeLayer_39 rfl rfl ?_
        refine sw_iload_n (pc := 40) C d_Md_takeLayer_40 rfl rfl ?_
        refine sw_iconst (pc := 41) C (nI 4) d_Md_takeLayer_41 (by decide) ?_
        refine sw_iadd (pc := 42) C d_Md_takeLayer_42 ?_
        refine sw_topi (z := nI ((hd l0 K) + 4)) (nI_add _ _) ?_
        refine sw_topi (z := nI ((hd l0 K) + 3 + 1)) rfl ?_
        refine sw_aload_n (pc := 43) C d_Md_takeLayer_43 rfl rfl ?_
        refine sw_iload_n (pc := 44) C d_Md_takeLayer_44 rfl rfl ?_
        refine sw_callVR (pc := 45) C (c_Md_chLen l g R dn pl ss pt th rd wd sc l0 f hl (hd l0 K) (by omega)) sv_Md_chunkLength t_788 rfl rfl rfl [0, 4] rfl rfl rfl rfl (Nat.le_of_ble_eq_true rfl) (Nat.le_of_ble_eq_true rfl) (Nat.le_of_ble_eq_true rfl) (Nat.le_of_ble_eq_true rfl) (Nat.le_of_ble_eq_true rfl) d_Md_takeLayer_45 (fun v w1 hp => ?_)
        obtain ⟨rfl, rfl⟩ := hp
        refine ⟨rfl, ?_⟩
        refine sw_topi (z := nI (lnA l0 K)) rfl ?_
        refine sw_iconst (pc := 48) C (nI 1) d_Md_takeLayer_48 (by decide) ?_
        refine sw_isub (pc := 49) C d_Md_takeLayer_49 ?_
        refine sw_topi (z := nI ((lnA l0 K) - 1)) (pk_sub (by omega)) ?_
        have eD : (hd l0 K) + 3 + 1 + ((lnA l0 K) - 1) = (hd l0 K) + 3 + (lnA l0 K) := by omega
        refine sw_callVP (pc := 50) C (c_Md_load l g R dn pl ss pt th rd wd sc l0 f z o d ((hd l0 K) + 3 + 1) ((lnA l0 K) - 1) (by omega) hl) sv_Md_load t_804 rfl rfl rfl [0, 1, 2, 3, 4] rfl rfl rfl rfl (Nat.le_of_ble_eq_true rfl) (Nat.le_of_ble_eq_true rfl) (Nat.le_of_ble_eq_true rfl) (Nat.le_of_ble_eq_true rfl) (Nat.le_of_ble_eq_true rfl) d_Md_takeLayer_50 (fun v w1 hp => ?_)
        obtain ⟨rfl, rfl⟩ := hp
        refine ⟨rfl, ?_⟩
        refine sw_ws (ws' := wKm g R dn pl l0.length ss pt th (some (dgt l0 ((hd l0 K) + 3 + 1) ((hd l0 K) + 3 + (lnA l0 K)))) (kInit (some (dgt l0 ((hd l0 K) + 3 + 1) ((hd l0 K) + 3 + (lnA l0 K))))) ++ [iaC g (R 8) 1200 (dcF l0 f), iaC g (R 12) 128 co, iaC g (R 13) 128 un, iaC g (R 17) 64 (fun _ => nI 0), iaC g (R 18) 8 r, iaC g (R 19) 8 x, iaC g (R 20) 64 p, zaC g (R 21) 64 m]) (by rw [eD]; rfl) ?_
        refine sw_aload_n (pc := 53) C d_Md_takeLayer_53 rfl rfl ?_
        refine sw_iload_n (pc := 54) C d_Md_takeLayer_54 rfl rfl ?_
        refine sw_iload (pc := 55) C d_Md_takeLayer_55 rfl ?_
        refine sw_callVP (pc := 57) C (c_Md_planes l g R dn pl l0.length ss pt th (some (dgt l0 ((hd l0 K) + 3 + 1) ((hd l0 K) + 3 + (lnA l0 K)))) (fun D h => by cases h; exact dgt_le _ _ _) 4 (by decide) (l0.getD ((hd l0 K) + 3) 0) hs (fun _ => nI 0) (fun _ => nI 0) (fun _ _ => rfl) p m) sv_Md_planes t_756 rfl rfl rfl [0, 1, 2, 3, 7, 10, 11] rfl rfl rfl rfl (Nat.le_of_ble_eq_true rfl) (Nat.le_of_ble_eq_true rfl) (Nat.le_of_ble_eq_true rfl) (Nat.le_of_ble_eq_true rfl) (Nat.le_of_ble_eq_true rfl) d_Md_takeLayer_57 (fun v w1 hp => ?_)
        obtain ⟨rfl, p8, m8, hr, rfl⟩ := hp
        refine ⟨rfl, ?_⟩
        refine sw_ws (ws' := wKm g R dn pl l0.length ss pt th (some (dgt l0 ((hd l0 K) + 3 + 1) ((hd l0 K) + 3 + (lnA l0 K)))) ((lyP (some (dgt l0 ((hd l0 K) + 3 + 1) ((hd l0 K) + 3 + (lnA l0 K)))) 4 (fun _ => nI 0) (l0.getD ((hd l0 K) + 3) 0)).1) ++ [iaC g (R 8) 1200 (dcF l0 f), iaC g (R 12) 128 co, iaC g (R 13) 128 un, iaC g (R 17) 64 (fun _ => nI 0), iaC g (R 18) 8 r, iaC g (R 19) 8 x, iaC g (R 20) 64 (nF p8), zaC g (R 21) 64 (bF m8)]) rfl ?_
        exact c60 p8 m8 _ _ hr
      omega
    | succ nn ih =>
      intro i q hi hq
      refine sw_iload (pc := 18) C d_Md_takeLayer_18 rfl ?_
      refine sw_bipush (pc := 20) C (nI 64) d_Md_takeLayer_20 (by decide) ?_
      refine sw_icmp_geN (pc := 22) C 39 (by omega) (by omega) d_Md_takeLayer_22 (by decide) (fun hx => ?_) (fun hx => ?_)
      · skip
        omega
      refine sw_aload_n (pc := 25) C d_Md_takeLayer_25 rfl rfl ?_
      refine sw_get (pc := 26) C inMd 0 rfl rfl 25 (by decide) t_597 rfl rfl d_Md_takeLayer_26 ?_
      refine sw_iload (pc := 29) C d_Md_takeLayer_29 rfl ?_
      refine sw_iconst (pc := 31) C (nI 0) d_Md_takeLayer_31 (by decide) ?_
      refine sw_iastN (pc := 32) C 7 i rfl rfl (by omega) (by decide) d_Md_takeLayer_32 ?_
      refine sw_iincN (pc := 33) C 1 d_Md_takeLayer_33 rfl (by decide) (by decide) rfl ?_
      refine sw_goto (pc := 36) C 18 d_Md_takeLayer_36 (by decide) ?_
      refine ih (i + 1) (upd q i (nI 0)) (by omega) (fun j hj => ?_)
      unfold upd
      by_cases e : j = i
      · rw [if_pos e]
      · rw [if_neg e]; exact hq j (by omega)
  refine sw_iload_n (pc := 0) C d_Md_takeLayer_0 rfl rfl ?_
  refine sw_callSR (pc := 1) C (c_Md_side l g (nI 1)) ss_Md_side t_683 [] rfl rfl rfl rfl (Nat.le_of_ble_eq_true rfl) (Nat.le_of_ble_eq_true rfl) (Nat.le_of_ble_eq_true rfl) (Nat.le_of_ble_eq_true rfl) (Nat.le_of_ble_eq_true rfl) d_Md_takeLayer_1 (fun v w1 hp => ?_)
  obtain ⟨rfl, rfl⟩ := hp
  refine ⟨rfl, ?_⟩
  refine sw_topi (z := nI 4) rfl ?_
  refine sw_istore_n (pc := 4) C d_Md_takeLayer_4 rfl (by decide) rfl ?_
  refine sw_aload_n (pc := 5) C d_Md_takeLayer_5 rfl rfl ?_
  refine sw_get (pc := 6) C inMd 0 rfl rfl 9 (by decide) t_581 rfl rfl d_Md_takeLayer_6 ?_
  refine sw_iload_n (pc := 9) C d_Md_takeLayer_9 rfl rfl ?_
  refine sw_iconst (pc := 10) C (nI 3) d_Md_takeLayer_10 (by decide) ?_
  refine sw_iadd (pc := 11) C d_Md_takeLayer_11 ?_
  refine sw_topi (z := nI ((hd l0 K) + 3)) (nI_add _ _) ?_
  refine sw_ialdN (pc := 12) C 4 ((hd l0 K) + 3) rfl rfl (by omega) (by decide) d_Md_takeLayer_12 ?_
  refine sw_topi (z := nI (l0.getD ((hd l0 K) + 3) 0)) (dcF_get (by omega)) ?_
  refine sw_istore (pc := 13) C d_Md_takeLayer_13 (by decide) rfl ?_
  refine sw_iconst (pc := 15) C (nI 0) d_Md_takeLayer_15 (by decide) ?_
  refine sw_istore (pc := 16) C d_Md_takeLayer_16 (by decide) rfl ?_
  exact key 64 0 gr (by omega) (fun j hj => absurd hj (Nat.not_lt_zero _))
