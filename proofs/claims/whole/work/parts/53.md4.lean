/-! the reference: a layer's planes through the coder -/
def bF (m : Nat → Bool) : Nat → Int32 := fun i => bI (m i)
theorem bF_up (m : Nat → Bool) (i : Nat) (b : Bool) : upd (bF m) i (bI b) = bF (upB m i b) := by
  funext k
  unfold upd bF upB
  split <;> rfl
abbrev i8 (n k : Nat) : Nat := 8 * (k / n) + k % n
theorem i8_l {n k : Nat} (hn : 0 < n) (h : 0 < k % n) : i8 n (k - 1) = i8 n k - 1 := by
  have e : k - 1 = n * (k / n) + (k % n - 1) := by
    have := Nat.div_add_mod k n
    omega
  have hm := Nat.mod_lt k hn
  have d := dm_at (n := n) (y := k / n) (x := k % n - 1) (by omega)
  rw [← e] at d
  unfold i8
  rw [d.1, d.2]
  omega
theorem i8_u {n k : Nat} (hn : 0 < n) (h : 0 < k / n) : i8 n (k - n) = i8 n k - 8 ∧ n ≤ k := by
  have hk := Nat.div_add_mod k n
  obtain ⟨y, hy⟩ : ∃ y, k / n = y + 1 := ⟨k / n - 1, by omega⟩
  have hm : n * (y + 1) = n * y + n := Nat.mul_succ n y
  rw [hy, hm] at hk
  have e : k - n = n * y + k % n := by omega
  have d := dm_at (n := n) (y := y) (x := k % n) (Nat.mod_lt k hn)
  rw [← e] at d
  refine ⟨?_, by omega⟩
  unfold i8
  rw [d.1, d.2, hy]
  omega
theorem i8_lt {n k : Nat} (hn : n = 4 ∨ n = 8) (hk : k < n * n) : k / n < n ∧ k % n < n := by
  have h0 : 0 < n := by omega
  exact ⟨(Nat.div_lt_iff_lt_mul h0).mpr hk, Nat.mod_lt k h0⟩
theorem i8_inj {n k j : Nat} (hn : n = 4 ∨ n = 8) (hk : k < n * n) (hj : j < n * n) (h : i8 n k = i8 n j) : k = j := by
  have a := i8_lt hn hk
  have b := i8_lt hn hj
  have e1 := Nat.div_add_mod k n
  have e2 := Nat.div_add_mod j n
  unfold i8 at h
  have h1 : k / n = j / n := by omega
  have h2 : k % n = j % n := by omega
  rw [← e1, ← e2, h1, h2]
/-- rows of eight against rows of n -/
def rl (n : Nat) (p8 : Nat → Nat) (m8 : Nat → Bool) (pf : Nat → Nat) (ng : Nat → Bool) : Prop := ∀ k, k < n * n → p8 (i8 n k) = pf k ∧ m8 (i8 n k) = ng k
theorem rl_p {n : Nat} {p8 : Nat → Nat} {m8 : Nat → Bool} {pf : Nat → Nat} {ng : Nat → Bool} {k v : Nat} (hn : n = 4 ∨ n = 8) (hk : k < n * n) (h : rl n p8 m8 pf ng) : rl n (upN p8 (i8 n k) v) m8 (upN pf k v) ng := by
  intro j hj
  refine ⟨?_, (h j hj).2⟩
  by_cases e : j = k
  · subst e
    rw [upN_at, upN_at]
  · rw [upN_ne e, upN_ne (fun q => e (i8_inj hn hj hk q))]
    exact (h j hj).1
theorem rl_m {n : Nat} {p8 : Nat → Nat} {m8 : Nat → Bool} {pf : Nat → Nat} {ng : Nat → Bool} {k : Nat} {v : Bool} (hn : n = 4 ∨ n = 8) (hk : k < n * n) (h : rl n p8 m8 pf ng) : rl n p8 (upB m8 (i8 n k) v) pf (upB ng k v) := by
  intro j hj
  refine ⟨(h j hj).1, ?_⟩
  by_cases e : j = k
  · subst e
    rw [upB_at, upB_at]
  · rw [upB_ne e, upB_ne (fun q => e (i8_inj hn hj hk q))]
    exact (h j hj).2
theorem pl_le {p s : Nat} (hp : p ≤ 10) (hs : s ≤ 10) : (nI (10 - p) + (-1) ≤ nI 9 - nI s) ↔ s ≤ p := by
  have key : ∀ p, p < 11 → ∀ s, s < 11 → ((nI (10 - p) + (-1) ≤ nI 9 - nI s) ↔ s ≤ p) := by decide +kernel
  exact key p (by omega) s (by omega)
def absI (c : Int32) : Int32 := if 0 ≤ c then c else 0 - c
theorem absI_p {c : Int32} (h : 0 ≤ c) : absI c = c := by unfold absI; rw [if_pos h]
theorem absI_n {c : Int32} (h : ¬ 0 ≤ c) : absI c = -c := by
  unfold absI
  rw [if_neg h]
  exact Int32.zero_sub c
def one (c : Prop) [Decidable c] : Nat := if c then 1 else 0
theorem ly_up {md : Option (Nat → Nat)} {n : Nat} {cf : Nat → Int32} {b k : Nat} {S S2 : CS × Nat} {pf pf2 : Nat → Nat} {ng ng2 : Nat → Bool} (e : lyStep md n cf b k (S, pf, ng) = (S2, pf2, ng2)) : ∃ v, v ≤ 2 * pf k + 1 ∧ pf2 = upN pf k v := by
  have hk := kBit_01 (md := md) (S := S) (c := lyC n pf k) (gbit_le (cf k) b)
  unfold lyStep at e
  dsimp only at e
  split at e
  · have e1 := congrArg (fun t => t.2.1) e
    exact ⟨1, by omega, e1.symm⟩
  · have e1 := congrArg (fun t => t.2.1) e
    exact ⟨2 * pf k + kBit md S (lyC n pf k) (gbit (cf k) b), by omega, e1.symm⟩
theorem ly_bd {md : Option (Nat → Nat)} {n : Nat} {cf : Nat → Int32} {b k p : Nat} {S S2 : CS × Nat} {pf pf2 : Nat → Nat} {ng ng2 : Nat → Bool} (hB : ∀ j, pf j < 2 ^ (if j < k then p + 1 else p)) (e : lyStep md n cf b k (S, pf, ng) = (S2, pf2, ng2)) : ∀ j, pf2 j < 2 ^ (if j < k + 1 then p + 1 else p) := by
  obtain ⟨v, hv, rfl⟩ := ly_up e
  intro j
  by_cases h : j = k
  · subst h
    have h1 := hB j
    rw [if_neg (by omega)] at h1
    rw [upN_at, if_pos (by omega), Nat.pow_succ]
    omega
  · rw [upN_ne h]
    have h1 := hB j
    by_cases h2 : j < k
    · rw [if_pos h2] at h1
      rw [if_pos (by omega)]
      exact h1
    · rw [if_neg h2] at h1
      rw [if_neg (by omega)]
      exact h1
theorem ly_bd0 (md : Option (Nat → Nat)) (n : Nat) (cf : Nat → Int32) : ∀ p j, (lyP md n cf p).2.1 j < 2 ^ p
  | 0, j => by show 0 < 2 ^ 0; decide
  | p + 1, j => by
    have key : ∀ k j, (lyK md n cf (9 - p) (lyP md n cf p) k).2.1 j < 2 ^ (if j < k then p + 1 else p) := by
      intro k
      induction k with
      | zero => intro j; rw [if_neg (by omega)]; exact ly_bd0 md n cf p j
      | succ k ih => exact ly_bd (S := (lyK md n cf (9 - p) (lyP md n cf p) k).1) (pf := (lyK md n cf (9 - p) (lyP md n cf p) k).2.1) (ng := (lyK md n cf (9 - p) (lyP md n cf p) k).2.2) ih rfl
    have h := key (n * n) j
    refine Nat.lt_of_lt_of_le h (Nat.pow_le_pow_right (by decide) ?_)
    split <;> omega
set_option maxRecDepth 100000 in
set_option maxHeartbeats 4000000 in
/-- one coefficient of a plane -/
theorem mp_step {X : Cz} (l : Launch) (g : Gl) (R : Nat → Nat) (dn pl ln ss pt : Nat) (th : Bool) (md : Option (Nat → Nat)) (hD : ∀ D, md = some D → ∀ i, D i ≤ 1) (n : Nat) (hn : n = 4 ∨ n = 8) (sl : Nat) (hsl : sl ≤ 10) (cf gr : Nat → Int32) (hg : ∀ k, k < n * n → gr (i8 n k) = cf k) (C : Cx X l g y_Md_planes b_Md_planes 13 none (rmD 2)) (p k : Nat) (hp : p < 10) (hk : k < n * n) (S : CS × Nat) (pf : Nat → Nat) (ng : Nat → Bool) (p8 : Nat → Nat) (m8 : Nat → Bool) (hr : rl n p8 m8 pf ng) (hpb : ∀ j, pf j < 1024) (iK : csOK S.1) (iM : mdOK md S) (iS : S.1.2.2.2 ≤ 3800)
    (kk : ∀ (S' : CS × Nat) (pf' : Nat → Nat) (ng' : Nat → Bool) (p8' : Nat → Nat) (m8' : Nat → Bool), lyStep md n cf (9 - p) k (S, pf, ng) = (S', pf', ng') → rl n p8' m8' pf' ng' → SW X g 13 0 0 (wKm g R dn pl ln ss pt th md S' ++ [iaC g (R 17) 64 gr, iaC g (R 20) 64 (nF p8'), zaC g (R 21) 64 (bF m8')]) 273 [some (.ref (R 0)), some (.int (nI n)), some (.int (nI sl)), some (.int (nI (9 - p))), some (.int (nI k)), none, none, none, none, none, none, none, none] []) : SW X g 13 0 0 (wKm g R dn pl ln ss pt th md S ++ [iaC g (R 17) 64 gr, iaC g (R 20) 64 (nF p8), zaC g (R 21) 64 (bF m8)]) 63 [some (.ref (R 0)), some (.int (nI n)), some (.int (nI sl)), some (.int (nI (9 - p))), some (.int (nI k)), none, none, none, none, none, none, none, none] [] := by
  have hn0 : 0 < n := by omega
  have hnn : n * n ≤ 64 := by rcases hn with rfl | rfl <;> decide
  obtain ⟨hy, hx⟩ := i8_lt hn hk
  have hi : i8 n k < 64 := by unfold i8; omega
  have hne : ¬ nI n = 0 := nI_ne0 (by omega) (by omega)
  have hpk := (hr k hk).1
  have hmk := (hr k hk).2
  have hpbk := hpb k
  have ha : (one (0 < k % n ∧ 0 < pf (k - 1))) ≤ 1 := by unfold one; split <;> omega
  have hb1 : (one (n ≤ k ∧ 0 < pf (k - n))) ≤ 1 := by unfold one; split <;> omega
  have hC : pf k = 0 → (one (0 < k % n ∧ 0 < pf (k - 1))) + (one (n ≤ k ∧ 0 < pf (k - n))) = lyC n pf k := fun h => by unfold lyC one; rw [if_pos h]
  have gl := gbit_le (cf k) (9 - p)
  have c163 : SW X g 13 0 0 (wKm g R dn pl ln ss pt th md S ++ [iaC g (R 17) 64 gr, iaC g (R 20) 64 (nF p8), zaC g (R 21) 64 (bF m8)]) 163 [some (.ref (R 0)), some (.int (nI n)), some (.int (nI sl)), some (.int (nI (9 - p))), some (.int (nI k)), some (.int (nI (k % n))), some (.int (nI (k / n))), some (.int (nI (i8 n k))), some (.int (absI (cf k))), some (.int (nI ((one (0 < k % n ∧ 0 < pf (k - 1))) + (one (n ≤ k ∧ 0 < pf (k - n)))))), none, none, none] [] := by
    refine sw_aload_n (pc := 163) C d_Md_planes_163 rfl rfl ?_
    refine sw_get (pc := 164) C inMd 0 rfl rfl 28 (by decide) t_600 rfl rfl d_Md_planes_164 ?_
    refine sw_iload (pc := 167) C d_Md_planes_167 rfl ?_
    refine sw_ialdN (pc := 169) C 5 (i8 n k) rfl rfl (by omega) (by decide) d_Md_planes_169 ?_
    refine sw_topi (z := nI (pf k)) (congrArg nI hpk) ?_
    refine sw_if_neN (pc := 170) C 177 (by omega) d_Md_planes_170 (by decide) (fun h0 => ?_) (fun h0 => ?_)
    · skip
      refine sw_iconst (pc := 177) C (nI 0) d_Md_planes_177 (by decide) ?_
      refine sw_istore (pc := 178) C d_Md_planes_178 (by decide) rfl ?_
      refine sw_aload_n (pc := 180) C d_Md_planes_180 rfl rfl ?_
      refine sw_iload (pc := 181) C d_Md_planes_181 rfl ?_
      refine sw_if_eqN (pc := 183) C 191 (by omega) d_Md_planes_183 (by decide) (fun h1 => ?_) (fun h1 => ?_)
      · skip
        refine sw_iconst (pc := 191) C (nI 4) d_Md_planes_191 (by decide) ?_
        refine sw_iload (pc := 192) C d_Md_planes_192 rfl ?_
        refine sw_iload_n (pc := 194) C d_Md_planes_194 rfl rfl ?_
        refine sw_ishr (pc := 195) C d_Md_planes_195 ?_
        refine sw_iconst (pc := 196) C (nI 1) d_Md_planes_196 (by decide) ?_
        refine sw_iand (pc := 197) C d_Md_planes_197 ?_
        refine sw_topi (z := nI (gbit (cf k) (9 - p))) (gbit_eq (cf k) (9 - p)) ?_
        refine sw_callVP (pc := 198) C (c_Md_code l g R dn pl ln ss pt th md S 4 (gbit (cf k) (9 - p)) iK (by decide) gl iM (by omega)) sv_Md_code t_716 rfl rfl rfl [0, 1, 2, 3] rfl rfl rfl rfl (Nat.le_of_ble_eq_true rfl) (Nat.le_of_ble_eq_true rfl) (Nat.le_of_ble_eq_true rfl) (Nat.le_of_ble_eq_true rfl) (Nat.le_of_ble_eq_true rfl) d_Md_planes_198 (fun v w1 hp => ?_)
        obtain ⟨rfl, rfl⟩ := hp
        refine ⟨rfl, ?_⟩
        refine sw_ws (ws' := wKm g R dn pl ln ss pt th md (kStep md S 4 (gbit (cf k) (9 - p))) ++ [iaC g (R 17) 64 gr, iaC g (R 20) 64 (nF p8), zaC g (R 21) 64 (bF m8)]) rfl ?_
        have hkb : (kBit md S 4 (gbit (cf k) (9 - p))) ≤ 1 := kBit_01 gl
        refine sw_istore (pc := 201) C d_Md_planes_201 (by decide) rfl ?_
        refine sw_aload_n (pc := 203) C d_Md_planes_203 rfl rfl ?_
        refine sw_get (pc := 204) C inMd 0 rfl rfl 28 (by decide) t_600 rfl rfl d_Md_planes_204 ?_
        refine sw_iload (pc := 207) C d_Md_planes_207 rfl ?_
        refine sw_iconst (pc := 209) C (nI 2) d_Md_planes_209 (by decide) ?_
        refine sw_aload_n (pc := 210) C d_Md_planes_210 rfl rfl ?_
        refine sw_get (pc := 211) C inMd 0 rfl rfl 28 (by decide) t_600 rfl rfl d_Md_planes_211 ?_
        refine sw_iload (pc := 214) C d_Md_planes_214 rfl ?_
        refine sw_ialdN (pc := 216) C 5 (i8 n k) rfl rfl (by omega) (by decide) d_Md_planes_216 ?_
        refine sw_topi (z := nI (pf k)) (congrArg nI hpk) ?_
        refine sw_imul (pc := 217) C d_Md_planes_217 ?_
        refine sw_topi (z := nI (2 * (pf k))) (pk_mul _ _) ?_
        refine sw_iload (pc := 218) C d_Md_planes_218 rfl ?_
        refine sw_iadd (pc := 220) C d_Md_planes_220 ?_
        refine sw_topi (z := nI ((2 * (pf k)) + (kBit md S 4 (gbit (cf k) (9 - p))))) (nI_add _ _) ?_
        refine sw_iastN (pc := 221) C 5 (i8 n k) rfl rfl (by omega) (by decide) d_Md_planes_221 ?_
        refine sw_ws (ws' := wKm g R dn pl ln ss pt th md (kStep md S 4 (gbit (cf k) (9 - p))) ++ [iaC g (R 17) 64 gr, iaC g (R 20) 64 (nF (upN p8 (i8 n k) (2 * pf k + (kBit md S 4 (gbit (cf k) (9 - p)))))), zaC g (R 21) 64 (bF m8)]) (by rw [← nF_up]; rfl) ?_
        refine sw_iload (pc := 222) C d_Md_planes_222 rfl ?_
        refine sw_if_eqN (pc := 224) C 273 (by omega) d_Md_planes_224 (by decide) (fun h2 => ?_) (fun h2 => ?_)
        · skip
          refine sw_drop 5 ?_
          refine sw_drop 6 ?_
          refine sw_drop 7 ?_
          refine sw_drop 8 ?_
          refine sw_drop 9 ?_
          refine sw_drop 10 ?_
          refine sw_drop 11 ?_
          refine sw_drop 12 ?_
          exact kk _ _ _ _ _ (ls_begun (by omega)) (rl_p hn hk hr)
        omega
      omega
    refine sw_iconst (pc := 173) C (nI 1) d_Md_planes_173 (by decide) ?_
    refine sw_goto (pc := 174) C 178 d_Md_planes_174 (by decide) ?_
    refine sw_istore (pc := 178) C d_Md_planes_178 (by decide) rfl ?_
    refine sw_aload_n (pc := 180) C d_Md_planes_180 rfl rfl ?_
    refine sw_iload (pc := 181) C d_Md_planes_181 rfl ?_
    refine sw_if_eqN (pc := 183) C 191 (by omega) d_Md_planes_183 (by decide) (fun h1 => ?_) (fun h1 => ?_)
    · skip
      omega
    have hc := hC h0
    refine sw_iload (pc := 186) C d_Md_planes_186 rfl ?_
    refine sw_topi (z := nI (lyC n pf k)) (congrArg nI hc) ?_
    refine sw_goto (pc := 188) C 192 d_Md_planes_188 (by decide) ?_
    refine sw_iload (pc := 192) C d_Md_planes_192 rfl ?_
    refine sw_iload_n (pc := 194) C d_Md_planes_194 rfl rfl ?_
    refine sw_ishr (pc := 195) C d_Md_planes_195 ?_
    refine sw_iconst (pc := 196) C (nI 1) d_Md_planes_196 (by decide) ?_
    refine sw_iand (pc := 197) C d_Md_planes_197 ?_
    refine sw_topi (z := nI (gbit (cf k) (9 - p))) (gbit_eq (cf k) (9 - p)) ?_
    refine sw_callVP (pc := 198) C (c_Md_code l g R dn pl ln ss pt th md S (lyC n pf k) (gbit (cf k) (9 - p)) iK lyC_lt gl iM (by omega)) sv_Md_code t_716 rfl rfl rfl [0, 1, 2, 3] rfl rfl rfl rfl (Nat.le_of_ble_eq_true rfl) (Nat.le_of_ble_eq_true rfl) (Nat.le_of_ble_eq_true rfl) (Nat.le_of_ble_eq_true rfl) (Nat.le_of_ble_eq_true rfl) d_Md_planes_198 (fun v w1 hp => ?_)
    obtain ⟨rfl, rfl⟩ := hp
    refine ⟨rfl, ?_⟩
    refine sw_ws (ws' := wKm g R dn pl ln ss pt th md (kStep md S (lyC n pf k) (gbit (cf k) (9 - p))) ++ [iaC g (R 17) 64 gr, iaC g (R 20) 64 (nF p8), zaC g (R 21) 64 (bF m8)]) rfl ?_
    have hkb : (kBit md S (lyC n pf k) (gbit (cf k) (9 - p))) ≤ 1 := kBit_01 gl
    refine sw_istore (pc := 201) C d_Md_planes_201 (by decide) rfl ?_
    refine sw_aload_n (pc := 203) C d_Md_planes_203 rfl rfl ?_
    refine sw_get (pc := 204) C inMd 0 rfl rfl 28 (by decide) t_600 rfl rfl d_Md_planes_204 ?_
    refine sw_iload (pc := 207) C d_Md_planes_207 rfl ?_
    refine sw_iconst (pc := 209) C (nI 2) d_Md_planes_209 (by decide) ?_
    refine sw_aload_n (pc := 210) C d_Md_planes_210 rfl rfl ?_
    refine sw_get (pc := 211) C inMd 0 rfl rfl 28 (by decide) t_600 rfl rfl d_Md_planes_211 ?_
    refine sw_iload (pc := 214) C d_Md_planes_214 rfl ?_
    refine sw_ialdN (pc := 216) C 5 (i8 n k) rfl rfl (by omega) (by decide) d_Md_planes_216 ?_
    refine sw_topi (z := nI (pf k)) (congrArg nI hpk) ?_
    refine sw_imul (pc := 217) C d_Md_planes_217 ?_
    refine sw_topi (z := nI (2 * (pf k))) (pk_mul _ _) ?_
    refine sw_iload (pc := 218) C d_Md_planes_218 rfl ?_
    refine sw_iadd (pc := 220) C d_Md_planes_220 ?_
    refine sw_topi (z := nI ((2 * (pf k)) + (kBit md S (lyC n pf k) (gbit (cf k) (9 - p))))) (nI_add _ _) ?_
    refine sw_iastN (pc := 221) C 5 (i8 n k) rfl rfl (by omega) (by decide) d_Md_planes_221 ?_
    refine sw_ws (ws' := wKm g R dn pl ln ss pt th md (kStep md S (lyC n pf k) (gbit (cf k) (9 - p))) ++ [iaC g (R 17) 64 gr, iaC g (R 20) 64 (nF (upN p8 (i8 n k) (2 * pf k + (kBit md S (lyC n pf k) (gbit (cf k) (9 - p)))))), zaC g (R 21) 64 (bF m8)]) (by rw [← nF_up]; rfl) ?_
    refine sw_iload (pc := 222) C d_Md_planes_222 rfl ?_
    refine sw_if_eqN (pc := 224) C 273 (by omega) d_Md_planes_224 (by decide) (fun h2 => ?_) (fun h2 => ?_)
    · skip
      omega
    refine sw_iload (pc := 227) C d_Md_planes_227 rfl ?_
    refine sw_iconst (pc := 229) C (nI 1) d_Md_planes_229 (by decide) ?_
    refine sw_icmp_neN (pc := 230) C 273 (by omega) (by omega) d_Md_planes_230 (by decide) (fun h3 => ?_) (fun h3 => ?_)
    · skip
      have kb0 : (kBit md S (lyC n pf k) (gbit (cf k) (9 - p))) = 0 := by omega
      refine sw_drop 5 ?_
      refine sw_drop 6 ?_
      refine sw_drop 7 ?_
      refine sw_drop 8 ?_
      refine sw_drop 9 ?_
      refine sw_drop 10 ?_
      refine sw_drop 11 ?_
      refine sw_drop 12 ?_
      exact kk _ _ _ _ _ (ls_fresh0 h0 kb0) (by have := rl_p (v := 0) hn hk hr; rwa [show (2 * pf k + (kBit md S (lyC n pf k) (gbit (cf k) (9 - p)))) = 0 by omega])
    have kb1 : (kBit md S (lyC n pf k) (gbit (cf k) (9 - p))) = 1 := by omega
    have hsg : (if ng k = true then 1 else 0) ≤ 1 := by split <;> omega
    have jK : csOK (kStep md S (lyC n pf k) (gbit (cf k) (9 - p))).1 := by rw [kStep_cs]; exact csStep_ok iK lyC_lt
    have jS : (kStep md S (lyC n pf k) (gbit (cf k) (9 - p))).1.2.2.2 ≤ S.1.2.2.2 + 5 := by rw [kStep_cs]; exact csStep_sc iK lyC_lt
    have hkb2 : (kBit md (kStep md S (lyC n pf k) (gbit (cf k) (9 - p))) 3 (if ng k = true then 1 else 0)) ≤ 1 := kBit_01 hsg
    have c250 : SW X g 13 0 0 (wKm g R dn pl ln ss pt th md (kStep md S (lyC n pf k) (gbit (cf k) (9 - p))) ++ [iaC g (R 17) 64 gr, iaC g (R 20) 64 (nF (upN p8 (i8 n k) (2 * pf k + (kBit md S (lyC n pf k) (gbit (cf k) (9 - p)))))), zaC g (R 21) 64 (bF m8)]) 250 [some (.ref (R 0)), some (.int (nI n)), some (.int (nI sl)), some (.int (nI (9 - p))), some (.int (nI k)), some (.int (nI (k % n))), some (.int (nI (k / n))), some (.int (nI (i8 n k))), some (.int (absI (cf k))), some (.int (nI ((one (0 < k % n ∧ 0 < pf (k - 1))) + (one (n ≤ k ∧ 0 < pf (k - n)))))), some (.int (nI 1)), some (.int (nI (kBit md S (lyC n pf k) (gbit (cf k) (9 - p))))), none] [.int (nI (if ng k = true then 1 else 0)), .int (nI 3), .ref (R 0)] := by
      refine sw_callVP (pc := 250) C (c_Md_code l g R dn pl ln ss pt th md (kStep md S (lyC n pf k) (gbit (cf k) (9 - p))) 3 (if ng k = true then 1 else 0) jK (by decide) hsg (mdOK_step iM) (by omega)) sv_Md_code t_716 rfl rfl rfl [0, 1, 2, 3] rfl rfl rfl rfl (Nat.le_of_ble_eq_true rfl) (Nat.le_of_ble_eq_true rfl) (Nat.le_of_ble_eq_true rfl) (Nat.le_of_ble_eq_true rfl) (Nat.le_of_ble_eq_true rfl) d_Md_planes_250 (fun v w1 hp => ?_)
      obtain ⟨rfl, rfl⟩ := hp
      refine ⟨rfl, ?_⟩
      refine sw_ws (ws' := wKm g R dn pl ln ss pt th md (kStep md (kStep md S (lyC n pf k) (gbit (cf k) (9 - p))) 3 (if ng k = true then 1 else 0)) ++ [iaC g (R 17) 64 gr, iaC g (R 20) 64 (nF (upN p8 (i8 n k) (2 * pf k + (kBit md S (lyC n pf k) (gbit (cf k) (9 - p)))))), zaC g (R 21) 64 (bF m8)]) rfl ?_
      refine sw_istore (pc := 253) C d_Md_planes_253 (by decide) rfl ?_
      refine sw_aload_n (pc := 255) C d_Md_planes_255 rfl rfl ?_
      refine sw_get (pc := 256) C inMd 0 rfl rfl 29 (by decide) t_601 rfl rfl d_Md_planes_256 ?_
      refine sw_iload (pc := 259) C d_Md_planes_259 rfl ?_
      refine sw_iload (pc := 261) C d_Md_planes_261 rfl ?_
      refine sw_iconst (pc := 263) C (nI 1) d_Md_planes_263 (by decide) ?_
      refine sw_icmp_neN (pc := 264) C 271 (by omega) (by omega) d_Md_planes_264 (by decide) (fun h4 => ?_) (fun h4 => ?_)
      · skip
        refine sw_iconst (pc := 271) C (nI 0) d_Md_planes_271 (by decide) ?_
        refine sw_topi (z := bI (decide ((kBit md (kStep md S (lyC n pf k) (gbit (cf k) (9 - p))) 3 (if ng k = true then 1 else 0)) = 1))) (by rw [decide_eq_false h4]; rfl) ?_
        refine sw_zastN (pc := 272) C 6 (i8 n k) rfl rfl (by omega) (by decide) d_Md_planes_272 ?_
        refine sw_ws (ws' := wKm g R dn pl ln ss pt th md (kStep md (kStep md S (lyC n pf k) (gbit (cf k) (9 - p))) 3 (if ng k = true then 1 else 0)) ++ [iaC g (R 17) 64 gr, iaC g (R 20) 64 (nF (upN p8 (i8 n k) (2 * pf k + (kBit md S (lyC n pf k) (gbit (cf k) (9 - p)))))), zaC g (R 21) 64 (bF (upB m8 (i8 n k) (decide ((kBit md (kStep md S (lyC n pf k) (gbit (cf k) (9 - p))) 3 (if ng k = true then 1 else 0)) = 1))))]) (by rw [← bF_up]; rfl) ?_
        refine sw_drop 5 ?_
        refine sw_drop 6 ?_
        refine sw_drop 7 ?_
        refine sw_drop 8 ?_
        refine sw_drop 9 ?_
        refine sw_drop 10 ?_
        refine sw_drop 11 ?_
        refine sw_drop 12 ?_
        exact kk _ _ _ _ _ (ls_fresh1 h0 kb1) (by have := rl_m (v := decide ((kBit md (kStep md S (lyC n pf k) (gbit (cf k) (9 - p))) 3 (if ng k = true then 1 else 0)) = 1)) hn hk (rl_p (v := 1) hn hk hr); rwa [show (2 * pf k + (kBit md S (lyC n pf k) (gbit (cf k) (9 - p)))) = 1 by omega])
      refine sw_iconst (pc := 267) C (nI 1) d_Md_planes_267 (by decide) ?_
      refine sw_goto (pc := 268) C 272 d_Md_planes_268 (by decide) ?_
      refine sw_topi (z := bI (decide ((kBit md (kStep md S (lyC n pf k) (gbit (cf k) (9 - p))) 3 (if ng k = true then 1 else 0)) = 1))) (by rw [decide_eq_true h4]; rfl) ?_
      refine sw_zastN (pc := 272) C 6 (i8 n k) rfl rfl (by omega) (by decide) d_Md_planes_272 ?_
      refine sw_ws (ws' := wKm g R dn pl ln ss pt th md (kStep md (kStep md S (lyC n pf k) (gbit (cf k) (9 - p))) 3 (if ng k = true then 1 else 0)) ++ [iaC g (R 17) 64 gr, iaC g (R 20) 64 (nF (upN p8 (i8 n k) (2 * pf k + (kBit md S (lyC n pf k) (gbit (cf k) (9 - p)))))), zaC g (R 21) 64 (bF (upB m8 (i8 n k) (decide ((kBit md (kStep md S (lyC n pf k) (gbit (cf k) (9 - p))) 3 (if ng k = true then 1 else 0)) = 1))))]) (by rw [← bF_up]; rfl) ?_
      refine sw_drop 5 ?_
      refine sw_drop 6 ?_
      refine sw_drop 7 ?_
      refine sw_drop 8 ?_
      refine sw_drop 9 ?_
      refine sw_drop 10 ?_
      refine sw_drop 11 ?_
      refine sw_drop 12 ?_
      exact kk _ _ _ _ _ (ls_fresh1 h0 kb1) (by have := rl_m (v := decide ((kBit md (kStep md S (lyC n pf k) (gbit (cf k) (9 - p))) 3 (if ng k = true then 1 else 0)) = 1)) hn hk (rl_p (v := 1) hn hk hr); rwa [show (2 * pf k + (kBit md S (lyC n pf k) (gbit (cf k) (9 - p)))) = 1 by omega])
    refine sw_aload_n (pc := 233) C d_Md_planes_233 rfl rfl ?_
    refine sw_iconst (pc := 234) C (nI 3) d_Md_planes_234 (by decide) ?_
    refine sw_aload_n (pc := 235) C d_Md_planes_235 rfl rfl ?_
    refine sw_get (pc := 236) C inMd 0 rfl rfl 29 (by decide) t_601 rfl rfl d_Md_planes_236 ?_
    refine sw_iload (pc := 239) C d_Md_planes_239 rfl ?_
    refine sw_zaldN (pc := 241) C 6 (i8 n k) rfl rfl (by omega) (by decide) d_Md_planes_241 ?_
    refine sw_topi (z := bI (ng k)) (congrArg bI hmk) ?_
    refine sw_if_eqB (pc := 242) C 249 d_Md_planes_242 (by decide) (fun h5 => ?_) (fun h5 => ?_)
    · skip
      refine sw_iconst (pc := 249) C (nI 0) d_Md_planes_249 (by decide) ?_
      refine sw_topi (z := nI (if ng k = true then 1 else 0)) (by rw [if_neg (by rw [h5]; decide)]) ?_
      exact c250
    refine sw_iconst (pc := 245) C (nI 1) d_Md_planes_245 (by decide) ?_
    refine sw_goto (pc := 246) C 250 d_Md_planes_246 (by decide) ?_
    refine sw_topi (z := nI (if ng k = true then 1 else 0)) (by rw [if_pos h5]) ?_
    exact c250
  have c137 : SW X g 13 0 0 (wKm g R dn pl ln ss pt th md S ++ [iaC g (R 17) 64 gr, iaC g (R 20) 64 (nF p8), zaC g (R 21) 64 (bF m8)]) 137 [some (.ref (R 0)), some (.int (nI n)), some (.int (nI sl)), some (.int (nI (9 - p))), some (.int (nI k)), some (.int (nI (k % n))), some (.int (nI (k / n))), some (.int (nI (i8 n k))), some (.int (absI (cf k))), none, none, none, none] [.int (nI (one (0 < k % n ∧ 0 < pf (k - 1))))] := by
    refine sw_iload (pc := 137) C d_Md_planes_137 rfl ?_
    refine sw_if_leN (pc := 139) C 159 (by omega) d_Md_planes_139 (by decide) (fun h1 => ?_) (fun h1 => ?_)
    · skip
      have e : ¬ (n ≤ k ∧ 0 < pf (k - n)) := fun q => by have := (Nat.div_pos_iff).mpr ⟨hn0, q.1⟩; omega
      refine sw_iconst (pc := 159) C (nI 0) d_Md_planes_159 (by decide) ?_
      refine sw_topi (z := nI (one (n ≤ k ∧ 0 < pf (k - n)))) (by unfold one; rw [if_neg e]) ?_
      refine sw_iadd (pc := 160) C d_Md_planes_160 ?_
      refine sw_topi (z := nI ((one (0 < k % n ∧ 0 < pf (k - 1))) + (one (n ≤ k ∧ 0 < pf (k - n))))) (nI_add _ _) ?_
      refine sw_istore (pc := 161) C d_Md_planes_161 (by decide) rfl ?_
      exact c163
    obtain ⟨eu, hnk⟩ := i8_u hn0 h1
    have hku := (hr (k - n) (by omega)).1
    rw [eu] at hku
    have hpu := hpb (k - n)
    refine sw_aload_n (pc := 142) C d_Md_planes_142 rfl rfl ?_
    refine sw_get (pc := 143) C inMd 0 rfl rfl 28 (by decide) t_600 rfl rfl d_Md_planes_143 ?_
    refine sw_iload (pc := 146) C d_Md_planes_146 rfl ?_
    refine sw_bipush (pc := 148) C (nI 8) d_Md_planes_148 (by decide) ?_
    refine sw_isub (pc := 150) C d_Md_planes_150 ?_
    refine sw_topi (z := nI ((i8 n k) - 8)) (pk_sub (by unfold i8; omega)) ?_
    refine sw_ialdN (pc := 151) C 5 ((i8 n k) - 8) rfl rfl (by omega) (by decide) d_Md_planes_151 ?_
    refine sw_topi (z := nI (pf (k - n))) (congrArg nI hku) ?_
    refine sw_if_leN (pc := 152) C 159 (by omega) d_Md_planes_152 (by decide) (fun h2 => ?_) (fun h2 => ?_)
    · skip
      refine sw_iconst (pc := 159) C (nI 0) d_Md_planes_159 (by decide) ?_
      refine sw_topi (z := nI (one (n ≤ k ∧ 0 < pf (k - n)))) (by unfold one; rw [if_neg (fun q => by omega)]) ?_
      refine sw_iadd (pc := 160) C d_Md_planes_160 ?_
      refine sw_topi (z := nI ((one (0 < k % n ∧ 0 < pf (k - 1))) + (one (n ≤ k ∧ 0 < pf (k - n))))) (nI_add _ _) ?_
      refine sw_istore (pc := 161) C d_Md_planes_161 (by decide) rfl ?_
      exact c163
    refine sw_iconst (pc := 155) C (nI 1) d_Md_planes_155 (by decide) ?_
    refine sw_goto (pc := 156) C 160 d_Md_planes_156 (by decide) ?_
    refine sw_topi (z := nI (one (n ≤ k ∧ 0 < pf (k - n)))) (by unfold one; rw [if_pos ⟨hnk, h2⟩]) ?_
    refine sw_iadd (pc := 160) C d_Md_planes_160 ?_
    refine sw_topi (z := nI ((one (0 < k % n ∧ 0 < pf (k - 1))) + (one (n ≤ k ∧ 0 < pf (k - n))))) (nI_add _ _) ?_
    refine sw_istore (pc := 161) C d_Md_planes_161 (by decide) rfl ?_
    exact c163
  have c115 : SW X g 13 0 0 (wKm g R dn pl ln ss pt th md S ++ [iaC g (R 17) 64 gr, iaC g (R 20) 64 (nF p8), zaC g (R 21) 64 (bF m8)]) 115 [some (.ref (R 0)), some (.int (nI n)), some (.int (nI sl)), some (.int (nI (9 - p))), some (.int (nI k)), some (.int (nI (k % n))), some (.int (nI (k / n))), some (.int (nI (i8 n k))), some (.int (absI (cf k))), none, none, none, none] [] := by
    refine sw_iload (pc := 115) C d_Md_planes_115 rfl ?_
    refine sw_if_leN (pc := 117) C 136 (by omega) d_Md_planes_117 (by decide) (fun h1 => ?_) (fun h1 => ?_)
    · skip
      refine sw_iconst (pc := 136) C (nI 0) d_Md_planes_136 (by decide) ?_
      refine sw_topi (z := nI (one (0 < k % n ∧ 0 < pf (k - 1)))) (by unfold one; rw [if_neg (fun q => by omega)]) ?_
      exact c137
    have el := i8_l hn0 h1
    have hkl := (hr (k - 1) (by omega)).1
    rw [el] at hkl
    have hpu := hpb (k - 1)
    refine sw_aload_n (pc := 120) C d_Md_planes_120 rfl rfl ?_
    refine sw_get (pc := 121) C inMd 0 rfl rfl 28 (by decide) t_600 rfl rfl d_Md_planes_121 ?_
    refine sw_iload (pc := 124) C d_Md_planes_124 rfl ?_
    refine sw_iconst (pc := 126) C (nI 1) d_Md_planes_126 (by decide) ?_
    refine sw_isub (pc := 127) C d_Md_planes_127 ?_
    refine sw_topi (z := nI ((i8 n k) - 1)) (pk_sub (by unfold i8; omega)) ?_
    refine sw_ialdN (pc := 128) C 5 ((i8 n k) - 1) rfl rfl (by omega) (by decide) d_Md_planes_128 ?_
    refine sw_topi (z := nI (pf (k - 1))) (congrArg nI hkl) ?_
    refine sw_if_leN (pc := 129) C 136 (by omega) d_Md_planes_129 (by decide) (fun h2 => ?_) (fun h2 => ?_)
    · skip
      refine sw_iconst (pc := 136) C (nI 0) d_Md_planes_136 (by decide) ?_
      refine sw_topi (z := nI (one (0 < k % n ∧ 0 < pf (k - 1)))) (by unfold one; rw [if_neg (fun q => by omega)]) ?_
      exact c137
    refine sw_iconst (pc := 132) C (nI 1) d_Md_planes_132 (by decide) ?_
    refine sw_goto (pc := 133) C 137 d_Md_planes_133 (by decide) ?_
    refine sw_topi (z := nI (one (0 < k % n ∧ 0 < pf (k - 1)))) (by unfold one; rw [if_pos ⟨h1, h2⟩]) ?_
    exact c137
  refine sw_iload (pc := 63) C d_Md_planes_63 rfl ?_
  refine sw_iload_n (pc := 65) C d_Md_planes_65 rfl rfl ?_
  refine sw_irem (pc := 66) C d_Md_planes_66 (by assumption) ?_
  refine sw_topi (z := nI (k % n)) (pk_rem (by omega) (by omega) (by omega)) ?_
  refine sw_istore (pc := 67) C d_Md_planes_67 (by decide) rfl ?_
  refine sw_iload (pc := 69) C d_Md_planes_69 rfl ?_
  refine sw_iload_n (pc := 71) C d_Md_planes_71 rfl rfl ?_
  refine sw_idiv (pc := 72) C d_Md_planes_72 (by assumption) ?_
  refine sw_topi (z := nI (k / n)) (pk_div (by omega) (by omega) (by omega)) ?_
  refine sw_istore (pc := 73) C d_Md_planes_73 (by decide) rfl ?_
  refine sw_bipush (pc := 75) C (nI 8) d_Md_planes_75 (by decide) ?_
  refine sw_iload (pc := 77) C d_Md_planes_77 rfl ?_
  refine sw_imul (pc := 79) C d_Md_planes_79 ?_
  refine sw_topi (z := nI (8 * (k / n))) (pk_mul _ _) ?_
  refine sw_iload (pc := 80) C d_Md_planes_80 rfl ?_
  refine sw_iadd (pc := 82) C d_Md_planes_82 ?_
  refine sw_topi (z := nI ((8 * (k / n)) + (k % n))) (nI_add _ _) ?_
  refine sw_topi (z := nI (i8 n k)) rfl ?_
  refine sw_istore (pc := 83) C d_Md_planes_83 (by decide) rfl ?_
  refine sw_aload_n (pc := 85) C d_Md_planes_85 rfl rfl ?_
  refine sw_get (pc := 86) C inMd 0 rfl rfl 25 (by decide) t_597 rfl rfl d_Md_planes_86 ?_
  refine sw_iload (pc := 89) C d_Md_planes_89 rfl ?_
  refine sw_ialdN (pc := 91) C 4 (i8 n k) rfl rfl (by omega) (by decide) d_Md_planes_91 ?_
  refine sw_topi (z := (cf k)) (hg k hk) ?_
  refine sw_if_ge (pc := 92) C 106 d_Md_planes_92 (by decide) (fun h1 => ?_) (fun h1 => ?_)
  · skip
    refine sw_aload_n (pc := 106) C d_Md_planes_106 rfl rfl ?_
    refine sw_get (pc := 107) C inMd 0 rfl rfl 25 (by decide) t_597 rfl rfl d_Md_planes_107 ?_
    refine sw_iload (pc := 110) C d_Md_planes_110 rfl ?_
    refine sw_ialdN (pc := 112) C 4 (i8 n k) rfl rfl (by omega) (by decide) d_Md_planes_112 ?_
    refine sw_topi (z := (cf k)) (hg k hk) ?_
    refine sw_topi (z := absI (cf k)) (absI_p h1).symm ?_
    refine sw_istore (pc := 113) C d_Md_planes_113 (by decide) rfl ?_
    exact c115
  refine sw_aload_n (pc := 95) C d_Md_planes_95 rfl rfl ?_
  refine sw_get (pc := 96) C inMd 0 rfl rfl 25 (by decide) t_597 rfl rfl d_Md_planes_96 ?_
  refine sw_iload (pc := 99) C d_Md_planes_99 rfl ?_
  refine sw_ialdN (pc := 101) C 4 (i8 n k) rfl rfl (by omega) (by decide) d_Md_planes_101 ?_
  refine sw_topi (z := (cf k)) (hg k hk) ?_
  refine sw_ineg (pc := 102) C d_Md_planes_102 ?_
  refine sw_goto (pc := 103) C 113 d_Md_planes_103 (by decide) ?_
  refine sw_topi (z := absI (cf k)) (absI_n h1).symm ?_
  refine sw_istore (pc := 113) C d_Md_planes_113 (by decide) rfl ?_
  exact c115
set_option maxRecDepth 100000 in
set_option maxHeartbeats 4000000 in
theorem c_Md_planes (l : Launch) (g : Gl) (R : Nat → Nat) (dn pl ln ss pt : Nat) (th : Bool) (md : Option (Nat → Nat)) (hD : ∀ D, md = some D → ∀ i, D i ≤ 1) (n : Nat) (hn : n = 4 ∨ n = 8) (sl : Nat) (hsl : sl ≤ 10) (cf gr : Nat → Int32) (hg : ∀ k, k < n * n → gr (i8 n k) = cf k) (pr mn : Nat → Int32) : Ct l g y_Md_planes b_Md_planes 13 none (rmD 2) [.ref (R 0), .int (nI n), .int (nI sl)] (wKm g R dn pl ln ss pt th md (kInit md) ++ [iaC g (R 17) 64 gr, iaC g (R 20) 64 pr, zaC g (R 21) 64 mn]) (fun u w => u = none ∧ ∃ (p8 : Nat → Nat) (m8 : Nat → Bool), rl n p8 m8 (lyP md n cf sl).2.1 (lyP md n cf sl).2.2 ∧ w = wKm g R dn pl ln ss pt th md ((lyP md n cf sl).1) ++ [iaC g (R 17) 64 gr, iaC g (R 20) 64 (nF p8), zaC g (R 21) 64 (bF m8)]) := by
  refine ct_of [some (.ref (R 0)), some (.int (nI n)), some (.int (nI sl)), none, none, none, none, none, none, none, none, none, none] (by decide) (Nat.le_of_ble_eq_true rfl) rfl ?_
  intro X C E
  have hn0 : 0 < n := by omega
  have hnn : n * n ≤ 64 := by rcases hn with rfl | rfl <;> decide
  have outer : ∀ (nn p : Nat) (p8 : Nat → Nat) (m8 : Nat → Bool), p + nn = sl → rl n p8 m8 (lyP md n cf p).2.1 (lyP md n cf p).2.2 → SW X g 13 0 0 (wKm g R dn pl ln ss pt th md ((lyP md n cf p).1) ++ [iaC g (R 17) 64 gr, iaC g (R 20) 64 (nF p8), zaC g (R 21) 64 (bF m8)]) 44 [some (.ref (R 0)), some (.int (nI n)), some (.int (nI sl)), some (.int (nI (10 - p) + (-1))), none, none, none, none, none, none, none, none, none] [] := by
    intro nn
    induction nn with
    | zero =>
      intro p p8 m8 hi hr
      refine sw_iload_n (pc := 44) C d_Md_planes_44 rfl rfl ?_
      refine sw_bipush (pc := 45) C (nI 9) d_Md_planes_45 (by decide) ?_
      refine sw_iload_n (pc := 47) C d_Md_planes_47 rfl rfl ?_
      refine sw_isub (pc := 48) C d_Md_planes_48 ?_
      refine sw_icmp_le (pc := 49) C 285 d_Md_planes_49 (by decide) (fun hx => ?_) (fun hx => ?_)
      · skip
        have ep : sl = p := by omega
        subst ep
        exact sw_vret (pc := 285) C E rfl (Nat.le_of_ble_eq_true rfl) (Nat.le_of_ble_eq_true rfl) d_Md_planes_285 ⟨rfl, p8, m8, hr, rfl⟩
      exact absurd ((pl_le (by omega) hsl).mpr (by omega)) hx
    | succ nn ih =>
      intro p p8 m8 hi hr
      refine sw_iload_n (pc := 44) C d_Md_planes_44 rfl rfl ?_
      refine sw_bipush (pc := 45) C (nI 9) d_Md_planes_45 (by decide) ?_
      refine sw_iload_n (pc := 47) C d_Md_planes_47 rfl rfl ?_
      refine sw_isub (pc := 48) C d_Md_planes_48 ?_
      refine sw_icmp_le (pc := 49) C 285 d_Md_planes_49 (by decide) (fun hx => ?_) (fun hx => ?_)
      · skip
        have := (pl_le (by omega) hsl).mp hx
        omega
      have e3 : nI (10 - p) + (-1) = nI (9 - p) := by rw [sb_m1 (by omega)]; congr 1; omega
      rw [e3]
      have ihp := ih
      have inner : ∀ (nn k : Nat) (S : CS × Nat) (pf : Nat → Nat) (ng : Nat → Bool) (p8 : Nat → Nat) (m8 : Nat → Bool), k + nn = n * n → ((lyK md n cf (9 - p) (lyP md n cf p) k) = (S, pf, ng)) → (rl n p8 m8 pf ng) → (∀ j, pf j < 2 ^ (if j < k then p + 1 else p)) → SW X g 13 0 0 (wKm g R dn pl ln ss pt th md S ++ [iaC g (R 17) 64 gr, iaC g (R 20) 64 (nF p8), zaC g (R 21) 64 (bF m8)]) 55 [some (.ref (R 0)), some (.int (nI n)), some (.int (nI sl)), some (.int (nI (9 - p))), some (.int (nI k)), none, none, none, none, none, none, none, none] [] := by
        intro nn
        induction nn with
        | zero =>
          intro k S pf ng p8 m8 hi hs hr hB
          refine sw_iload (pc := 55) C d_Md_planes_55 rfl ?_
          refine sw_iload_n (pc := 57) C d_Md_planes_57 rfl rfl ?_
          refine sw_iload_n (pc := 58) C d_Md_planes_58 rfl rfl ?_
          refine sw_imul (pc := 59) C d_Md_planes_59 ?_
          refine sw_topi (z := nI (n * n)) (pk_mul _ _) ?_
          refine sw_icmp_geN (pc := 60) C 279 (by omega) (by omega) d_Md_planes_60 (by decide) (fun hx => ?_) (fun hx => ?_)
          · skip
            have ek : n * n = k := by omega
            subst ek
            refine sw_iinc (pc := 279) C (-1) d_Md_planes_279 rfl (by decide) (by decide) rfl ?_
            refine sw_goto (pc := 282) C 44 d_Md_planes_282 (by decide) ?_
            refine sw_drop 4 ?_
            have k1 := ihp (p + 1) p8 m8 (by omega) (by show rl n p8 m8 (lyK md n cf (9 - p) (lyP md n cf p) (n * n)).2.1 (lyK md n cf (9 - p) (lyP md n cf p) (n * n)).2.2; rw [hs]; exact hr)
            rw [show lyP md n cf (p + 1) = (S, pf, ng) from hs, show 10 - (p + 1) = 9 - p by omega] at k1
            exact k1
          omega
        | succ nn ih =>
          intro k S pf ng p8 m8 hi hs hr hB
          refine sw_iload (pc := 55) C d_Md_planes_55 rfl ?_
          refine sw_iload_n (pc := 57) C d_Md_planes_57 rfl rfl ?_
          refine sw_iload_n (pc := 58) C d_Md_planes_58 rfl rfl ?_
          refine sw_imul (pc := 59) C d_Md_planes_59 ?_
          refine sw_topi (z := nI (n * n)) (pk_mul _ _) ?_
          refine sw_icmp_geN (pc := 60) C 279 (by omega) (by omega) d_Md_planes_60 (by decide) (fun hx => ?_) (fun hx => ?_)
          · skip
            omega
          have iv := lyK_inv (n := n) (cf := cf) (b := 9 - p) (lyP_inv (md := md) (n := n) (cf := cf) hD p) k (by omega)
          rw [hs] at iv
          have ic := cntB_le pf (n * n)
          have i2 : S.1.2.2.2 ≤ 5 * (p * (n * n) + k + cntB pf (n * n)) := iv.2.2
          have ipn : p * (n * n) ≤ 9 * 64 := Nat.mul_le_mul (by omega) hnn
          refine mp_step l g R dn pl ln ss pt th md hD n hn sl hsl cf gr hg C p k (by omega) (by omega) S pf ng p8 m8 hr (fun j => Nat.lt_of_lt_of_le (hB j) (show 2 ^ (if j < k then p + 1 else p) ≤ 2 ^ 10 from Nat.pow_le_pow_right (by decide) (by split <;> omega))) iv.1 iv.2.1 (by omega) (fun S2 pf2 ng2 q8 n8 e2 hr2 => ?_)
          refine sw_iincN (pc := 273) C 1 d_Md_planes_273 rfl (by decide) (by decide) rfl ?_
          refine sw_goto (pc := 276) C 55 d_Md_planes_276 (by decide) ?_
          exact ih (k + 1) S2 pf2 ng2 q8 n8 (by omega) (by show lyStep md n cf (9 - p) k (lyK md n cf (9 - p) (lyP md n cf p) k) = _; rw [hs]; exact e2) hr2 (ly_bd hB e2)
      refine sw_iconst (pc := 52) C (nI 0) d_Md_planes_52 (by decide) ?_
      refine sw_istore (pc := 53) C d_Md_planes_53 (by decide) rfl ?_
      exact inner (n * n) 0 (lyP md n cf p).1 (lyP md n cf p).2.1 (lyP md n cf p).2.2 p8 m8 (by omega) rfl hr (fun j => by rw [if_neg (by omega)]; exact ly_bd0 md n cf p j)
  have first : ∀ (nn i : Nat) (q m : Nat → Int32), i + nn = 64 → (∀ j, j < i → q j = nI 0 ∧ m j = bI (decide (gr j < 0))) → SW X g 13 0 0 (wKm g R dn pl ln ss pt th md (kInit md) ++ [iaC g (R 17) 64 gr, iaC g (R 20) 64 q, zaC g (R 21) 64 m]) 2 [some (.ref (R 0)), some (.int (nI n)), some (.int (nI sl)), some (.int (nI i)), none, none, none, none, none, none, none, none, none] [] := by
    intro nn
    induction nn with
    | zero =>
      intro i q m hi hq
      refine sw_iload_n (pc := 2) C d_Md_planes_2 rfl rfl ?_
      refine sw_bipush (pc := 3) C (nI 64) d_Md_planes_3 (by decide) ?_
      refine sw_icmp_geN (pc := 5) C 41 (by omega) (by omega) d_Md_planes_5 (by decide) (fun hx => ?_) (fun hx => ?_)
      · skip
        refine sw_arr (f' := nF (fun _ => 0)) 5 rfl (fun j hj => (hq j (by omega)).1) ?_
        refine sw_arr (f' := bF (fun k => decide (gr k < 0))) 6 rfl (fun j hj => (hq j (by omega)).2) ?_
        refine sw_bipush (pc := 41) C (nI 9) d_Md_planes_41 (by decide) ?_
        refine sw_topi (z := nI (10 - 0) + (-1)) (by decide) ?_
        refine sw_istore_n (pc := 43) C d_Md_planes_43 rfl (by decide) rfl ?_
        exact outer sl 0 (fun _ => 0) (fun k => decide (gr k < 0)) (by omega) (fun k hk => ⟨rfl, by show decide (gr (i8 n k) < 0) = decide (cf k < 0); rw [hg k hk]⟩)
      omega
    | succ nn ih =>
      intro i q m hi hq
      refine sw_iload_n (pc := 2) C d_Md_planes_2 rfl rfl ?_
      refine sw_bipush (pc := 3) C (nI 64) d_Md_planes_3 (by decide) ?_
      refine sw_icmp_geN (pc := 5) C 41 (by omega) (by omega) d_Md_planes_5 (by decide) (fun hx => ?_) (fun hx => ?_)
      · skip
        omega
      refine sw_aload_n (pc := 8) C d_Md_planes_8 rfl rfl ?_
      refine sw_get (pc := 9) C inMd 0 rfl rfl 28 (by decide) t_600 rfl rfl d_Md_planes_9 ?_
      refine sw_iload_n (pc := 12) C d_Md_planes_12 rfl rfl ?_
      refine sw_iconst (pc := 13) C (nI 0) d_Md_planes_13 (by decide) ?_
      refine sw_iastN (pc := 14) C 5 i rfl rfl (by omega) (by decide) d_Md_planes_14 ?_
      refine sw_aload_n (pc := 15) C d_Md_planes_15 rfl rfl ?_
      refine sw_get (pc := 16) C inMd 0 rfl rfl 29 (by decide) t_601 rfl rfl d_Md_planes_16 ?_
      refine sw_iload_n (pc := 19) C d_Md_planes_19 rfl rfl ?_
      refine sw_aload_n (pc := 20) C d_Md_planes_20 rfl rfl ?_
      refine sw_get (pc := 21) C inMd 0 rfl rfl 25 (by decide) t_597 rfl rfl d_Md_planes_21 ?_
      refine sw_iload_n (pc := 24) C d_Md_planes_24 rfl rfl ?_
      refine sw_ialdN (pc := 25) C 4 i rfl rfl (by omega) (by decide) d_Md_planes_25 ?_
      refine sw_if_ge (pc := 26) C 33 d_Md_planes_26 (by decide) (fun h1 => ?_) (fun h1 => ?_)
      · skip
        refine sw_iconst (pc := 33) C (nI 0) d_Md_planes_33 (by decide) ?_
        refine sw_topi (z := bI (decide (gr i < 0))) (by rw [decide_eq_false (Int32.not_lt.mpr h1)]; rfl) ?_
        refine sw_zastN (pc := 34) C 6 i rfl rfl (by omega) (by decide) d_Md_planes_34 ?_
        refine sw_iincN (pc := 35) C 1 d_Md_planes_35 rfl (by decide) (by decide) rfl ?_
        refine sw_goto (pc := 38) C 2 d_Md_planes_38 (by decide) ?_
        refine ih (i + 1) (upd q i (nI 0)) (upd m i (bI (decide (gr i < 0)))) (by omega) (fun j hj => ?_)
        unfold upd
        by_cases e : j = i
        · rw [if_pos e, if_pos e, e]; exact ⟨rfl, rfl⟩
        · rw [if_neg e, if_neg e]; exact hq j (by omega)
      refine sw_iconst (pc := 29) C (nI 1) d_Md_planes_29 (by decide) ?_
      refine sw_goto (pc := 30) C 34 d_Md_planes_30 (by decide) ?_
      refine sw_topi (z := bI (decide (gr i < 0))) (by rw [decide_eq_true (Int32.not_le.mp h1)]; rfl) ?_
      refine sw_zastN (pc := 34) C 6 i rfl rfl (by omega) (by decide) d_Md_planes_34 ?_
      refine sw_iincN (pc := 35) C 1 d_Md_planes_35 rfl (by decide) (by decide) rfl ?_
      refine sw_goto (pc := 38) C 2 d_Md_planes_38 (by decide) ?_
      refine ih (i + 1) (upd q i (nI 0)) (upd m i (bI (decide (gr i < 0)))) (by omega) (fun j hj => ?_)
      unfold upd
      by_cases e : j = i
      · rw [if_pos e, if_pos e, e]; exact ⟨rfl, rfl⟩
      · rw [if_neg e, if_neg e]; exact hq j (by omega)
  refine sw_iconst (pc := 0) C (nI 0) d_Md_planes_0 (by decide) ?_
  refine sw_istore_n (pc := 1) C d_Md_planes_1 rfl (by decide) rfl ?_
  exact first 64 0 pr mn (by omega) (fun j hj => absurd hj (Nat.not_lt_zero _))
