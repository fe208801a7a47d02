/-! LayeredPage$Layer: its code -/
theorem gbit_eq (c : Int32) (b : Nat) : ((if 0 ≤ c then c else 0 - c) >>> (nI b &&& 31)) &&& nI 1 = nI (gbit c b) := by
  unfold gbit
  generalize (if 0 ≤ c then c else 0 - c) >>> (nI b &&& 31) = x
  have h := pk_and x (m := nI 1) 1 rfl
  have h2 : x &&& 1 = x &&& nI 1 := rfl
  rw [h2, h, nI_clamp (by omega)]
theorem gbit_le (c : Int32) (b : Nat) : gbit c b ≤ 1 := by
  unfold gbit
  generalize (if 0 ≤ c then c else 0 - c) >>> (nI b &&& 31) = x
  have h := pk_and x (m := nI 1) 1 rfl
  have h2 : x &&& 1 = x &&& nI 1 := rfl
  rw [h2, h, nI_clamp (by omega)]
  omega
def cdV (pf : Nat → Nat) (ng : Nat → Bool) (e k : Nat) : Int32 := if ng k then -(nI (pf k * 2 ^ e)) else nI (pf k * 2 ^ e)
def cdF (pf : Nat → Nat) (ng : Nat → Bool) (b i : Nat) : Nat → Int32 := fun k => cdV pf ng (if k < i then b else b + 1) k
def plB (N : Nat) (pf : Nat → Nat) (b i : Nat) : Prop := ∀ k, k < N → (pf k + 1) * 2 ^ (if k < i then b else b + 1) ≤ 1024
theorem pl_lt {p e : Nat} (h : (p + 1) * 2 ^ e ≤ 1024) : p * 2 ^ e < 1024 := by
  have : 0 < 2 ^ e := Nat.pow_pos (by decide)
  rw [Nat.add_mul] at h
  omega
theorem neg0 {m : Nat} (h : m < 2 ^ 31) : -(nI m) = 0 ↔ m = 0 := by
  constructor
  · intro e
    have := sb_negT h
    rw [e] at this
    simp at this
    omega
  · intro e
    subst e
    rfl
theorem cdV_0 {pf : Nat → Nat} {ng : Nat → Bool} {e k : Nat} (h : (pf k + 1) * 2 ^ e ≤ 1024) : cdV pf ng e k = 0 ↔ pf k = 0 := by
  have h1 := pl_lt h
  have h2 : pf k * 2 ^ e = 0 ↔ pf k = 0 := by
    constructor
    · intro q
      rcases Nat.mul_eq_zero.mp q with q | q
      · exact q
      · exact absurd q (Nat.ne_of_gt (Nat.pow_pos (by decide)))
    · intro q; rw [q, Nat.zero_mul]
  unfold cdV
  split
  · rw [neg0 (by omega), h2]
  · rw [show (0 : Int32) = nI 0 from rfl, nI_eq (by omega) (by decide), h2]
theorem cdV_pos {pf : Nat → Nat} {ng : Nat → Bool} {e k : Nat} (h : (pf k + 1) * 2 ^ e ≤ 1024) (h0 : pf k ≠ 0) : 0 ≤ cdV pf ng e k ↔ ng k = false := by
  have h1 := pl_lt h
  have h3 : 0 < pf k * 2 ^ e := Nat.mul_pos (by omega) (Nat.pow_pos (by decide))
  unfold cdV
  cases ng k with
  | false => simp only [Bool.false_eq_true, if_false, iff_true]; exact nI_pos' (by omega)
  | true =>
    simp only [if_true]
    constructor
    · intro q
      have := Int32.le_iff_toInt_le.mp q
      rw [sb_negT (by omega), show (0 : Int32).toInt = 0 from rfl] at this
      omega
    · intro q; cases q
theorem cd_ex {b i k : Nat} (e : ¬ k = i) : (if k < i + 1 then b else b + 1) = (if k < i then b else b + 1) := by
  by_cases h : k < i
  · rw [if_pos h, if_pos (by omega)]
  · rw [if_neg h, if_neg (by omega)]
theorem cdF_up {pf pf' : Nat → Nat} {ng ng' : Nat → Bool} {b i : Nat} {x : Int32} (h1 : ∀ k, k ≠ i → pf' k = pf k ∧ ng' k = ng k) (hx : x = cdV pf' ng' b i) : upd (cdF pf ng b i) i x = cdF pf' ng' b (i + 1) := by
  funext k
  unfold upd cdF
  by_cases e : k = i
  · subst e
    rw [if_pos rfl, if_pos (by omega), hx]
  · rw [if_neg e]
    obtain ⟨e1, e2⟩ := h1 k e
    rw [cd_ex e]
    unfold cdV
    rw [e1, e2]
theorem cdF_stay {pf : Nat → Nat} {ng : Nat → Bool} {b i : Nat} (h0 : pf i = 0) : cdF pf ng b i = cdF (upN pf i 0) ng b (i + 1) := by
  funext k
  unfold cdF
  by_cases e : k = i
  · subst e
    unfold cdV upN
    simp [h0]
  · rw [cd_ex e]
    unfold cdV upN
    rw [if_neg e]
theorem upN_ne {f : Nat → Nat} {i v k : Nat} (h : k ≠ i) : upN f i v k = f k := by unfold upN; rw [if_neg h]
theorem upN_at {f : Nat → Nat} {i v : Nat} : upN f i v i = v := by unfold upN; rw [if_pos rfl]
theorem upB_ne {f : Nat → Bool} {i : Nat} {v : Bool} {k : Nat} (h : k ≠ i) : upB f i v k = f k := by unfold upB; rw [if_neg h]
theorem upB_at {f : Nat → Bool} {i : Nat} {v : Bool} : upB f i v i = v := by unfold upB; rw [if_pos rfl]
theorem ls_begun {md : Option (Nat → Nat)} {n : Nat} {cf : Nat → Int32} {b i : Nat} {S : CS × Nat} {pf : Nat → Nat} {ng : Nat → Bool} (h : pf i ≠ 0) : lyStep md n cf b i (S, pf, ng) = (kStep md S 4 (gbit (cf i) b), upN pf i (2 * pf i + kBit md S 4 (gbit (cf i) b)), ng) := by
  have hc : lyC n pf i = 4 := by unfold lyC; rw [if_neg h]
  unfold lyStep
  dsimp only
  rw [if_neg (fun q => h q.1), hc]
theorem ls_fresh0 {md : Option (Nat → Nat)} {n : Nat} {cf : Nat → Int32} {b i : Nat} {S : CS × Nat} {pf : Nat → Nat} {ng : Nat → Bool} (h : pf i = 0) (hv : kBit md S (lyC n pf i) (gbit (cf i) b) = 0) : lyStep md n cf b i (S, pf, ng) = (kStep md S (lyC n pf i) (gbit (cf i) b), upN pf i 0, ng) := by
  unfold lyStep
  dsimp only
  rw [if_neg (fun q => by rw [hv] at q; omega), hv, h]
theorem ls_fresh1 {md : Option (Nat → Nat)} {n : Nat} {cf : Nat → Int32} {b i : Nat} {S : CS × Nat} {pf : Nat → Nat} {ng : Nat → Bool} (h : pf i = 0) (hv : kBit md S (lyC n pf i) (gbit (cf i) b) = 1) : lyStep md n cf b i (S, pf, ng) = (kStep md (kStep md S (lyC n pf i) (gbit (cf i) b)) 3 (if ng i then 1 else 0), upN pf i 1, upB ng i (decide (kBit md (kStep md S (lyC n pf i) (gbit (cf i) b)) 3 (if ng i then 1 else 0) = 1))) := by
  unfold lyStep
  dsimp only
  rw [if_pos ⟨h, hv⟩]
def bgN (n : Nat) (cd : Nat → Int32) (i : Nat) : Nat := (if 0 < i % n ∧ ¬ cd (i - 1) = 0 then 1 else 0) + (if n ≤ i ∧ ¬ cd (i - n) = 0 then 1 else 0)
theorem bgN_lyC {N n : Nat} {pf : Nat → Nat} {ng : Nat → Bool} {b i : Nat} (hN : i < N) (h : plB N pf b i) (h0 : pf i = 0) : bgN n (cdF pf ng b i) i = lyC n pf i := by
  have key : ∀ k, k < N → (¬ cdF pf ng b i k = 0 ↔ 0 < pf k) := by
    intro k hk
    have : cdF pf ng b i k = 0 ↔ pf k = 0 := cdV_0 (h k hk)
    rw [this]
    omega
  unfold bgN lyC
  rw [if_pos h0]
  have k1 := key (i - 1) (by omega)
  have k2 := key (i - n) (by omega)
  congr 1
  · by_cases e : 0 < i % n ∧ 0 < pf (i - 1)
    · rw [if_pos e, if_pos ⟨e.1, k1.mpr e.2⟩]
    · rw [if_neg e, if_neg (fun q => e ⟨q.1, k1.mp q.2⟩)]
  · by_cases e : n ≤ i ∧ 0 < pf (i - n)
    · rw [if_pos e, if_pos ⟨e.1, k2.mpr e.2⟩]
    · rw [if_neg e, if_neg (fun q => e ⟨q.1, k2.mp q.2⟩)]
set_option maxRecDepth 100000 in
set_option maxHeartbeats 4000000 in
theorem c_begN (l : Launch) (g : Gl) (A : Nat → Nat) (n : Nat) (ce co cd li : Nat → Int32) (cm : Bool) (hn : n = 4 ∨ n = 8) (i : Nat) (hi : i < n * n) : Ct l g y_Ly_begunNeighbours b_Ly_begunNeighbours 4 (some .int) (rmD 0) [.ref (A 0), .int (nI i)] (wLy g A n ce co cd li cm) (fun u w => u = some (.int (nI (bgN n cd i))) ∧ w = wLy g A n ce co cd li cm) := by
  refine ct_of [some (.ref (A 0)), some (.int (nI i)), none, none] (by decide) (Nat.le_of_ble_eq_true rfl) rfl ?_
  intro X C E
  obtain ⟨hnn, hn4, hn8⟩ := nn_le hn
  have hmod := Nat.mod_le i n
  have tail : ∀ L : Nat, L = (if 0 < i % n ∧ ¬ cd (i - 1) = 0 then 1 else 0) → SW X g 4 0 0 (wLy g A n ce co cd li cm) 26 [some (.ref (A 0)), some (.int (nI i)), some (.int (nI L)), none] [] := by
    intro L hL
    refine sw_iload_n (pc := 26) C d_Ly_begunNeighbours_26 rfl rfl ?_
    refine sw_aload_n (pc := 27) C d_Ly_begunNeighbours_27 rfl rfl ?_
    refine sw_get (pc := 28) C inLy 0 rfl rfl 0 (by decide) t_139 rfl rfl d_Ly_begunNeighbours_28 ?_
    refine sw_topi (z := nI n) rfl ?_
    refine sw_icmp_ltN (pc := 31) C 52 (by omega) (by omega) d_Ly_begunNeighbours_31 (by decide) (fun h1 => ?_) (fun h1 => ?_)
    · skip
      refine sw_iconst (pc := 52) C (nI 0) d_Ly_begunNeighbours_52 (by decide) ?_
      refine sw_istore_n (pc := 53) C d_Ly_begunNeighbours_53 rfl (by decide) rfl ?_
      refine sw_iload_n (pc := 54) C d_Ly_begunNeighbours_54 rfl rfl ?_
      refine sw_iload_n (pc := 55) C d_Ly_begunNeighbours_55 rfl rfl ?_
      refine sw_iadd (pc := 56) C d_Ly_begunNeighbours_56 ?_
      refine sw_topi (z := nI (L + 0)) (nI_add _ _) ?_
      refine sw_topi (z := nI (bgN n cd i)) (by unfold bgN; rw [← hL, if_neg (fun q => by omega)]) ?_
      exact sw_iret (pc := 57) C E rfl (Nat.le_of_ble_eq_true rfl) (Nat.le_of_ble_eq_true rfl) d_Ly_begunNeighbours_57 ⟨rfl, rfl⟩
    refine sw_aload_n (pc := 34) C d_Ly_begunNeighbours_34 rfl rfl ?_
    refine sw_get (pc := 35) C inLy 0 rfl rfl 3 (by decide) t_143 rfl rfl d_Ly_begunNeighbours_35 ?_
    refine sw_iload_n (pc := 38) C d_Ly_begunNeighbours_38 rfl rfl ?_
    refine sw_aload_n (pc := 39) C d_Ly_begunNeighbours_39 rfl rfl ?_
    refine sw_get (pc := 40) C inLy 0 rfl rfl 0 (by decide) t_139 rfl rfl d_Ly_begunNeighbours_40 ?_
    refine sw_topi (z := nI n) rfl ?_
    refine sw_isub (pc := 43) C d_Ly_begunNeighbours_43 ?_
    refine sw_topi (z := nI (i - n)) (pk_sub (by omega)) ?_
    refine sw_ialdN (pc := 44) C 3 (i - n) rfl rfl (by omega) (by omega) d_Ly_begunNeighbours_44 ?_
    refine sw_if_eq (pc := 45) C 52 d_Ly_begunNeighbours_45 (by decide) (fun h2 => ?_) (fun h2 => ?_)
    · skip
      refine sw_iconst (pc := 52) C (nI 0) d_Ly_begunNeighbours_52 (by decide) ?_
      refine sw_istore_n (pc := 53) C d_Ly_begunNeighbours_53 rfl (by decide) rfl ?_
      refine sw_iload_n (pc := 54) C d_Ly_begunNeighbours_54 rfl rfl ?_
      refine sw_iload_n (pc := 55) C d_Ly_begunNeighbours_55 rfl rfl ?_
      refine sw_iadd (pc := 56) C d_Ly_begunNeighbours_56 ?_
      refine sw_topi (z := nI (L + 0)) (nI_add _ _) ?_
      refine sw_topi (z := nI (bgN n cd i)) (by unfold bgN; rw [← hL, if_neg (fun q => q.2 h2)]) ?_
      exact sw_iret (pc := 57) C E rfl (Nat.le_of_ble_eq_true rfl) (Nat.le_of_ble_eq_true rfl) d_Ly_begunNeighbours_57 ⟨rfl, rfl⟩
    refine sw_iconst (pc := 48) C (nI 1) d_Ly_begunNeighbours_48 (by decide) ?_
    refine sw_goto (pc := 49) C 53 d_Ly_begunNeighbours_49 (by decide) ?_
    refine sw_istore_n (pc := 53) C d_Ly_begunNeighbours_53 rfl (by decide) rfl ?_
    refine sw_iload_n (pc := 54) C d_Ly_begunNeighbours_54 rfl rfl ?_
    refine sw_iload_n (pc := 55) C d_Ly_begunNeighbours_55 rfl rfl ?_
    refine sw_iadd (pc := 56) C d_Ly_begunNeighbours_56 ?_
    refine sw_topi (z := nI (L + 1)) (nI_add _ _) ?_
    refine sw_topi (z := nI (bgN n cd i)) (by unfold bgN; rw [← hL, if_pos ⟨h1, h2⟩]) ?_
    exact sw_iret (pc := 57) C E rfl (Nat.le_of_ble_eq_true rfl) (Nat.le_of_ble_eq_true rfl) d_Ly_begunNeighbours_57 ⟨rfl, rfl⟩
  refine sw_iload_n (pc := 0) C d_Ly_begunNeighbours_0 rfl rfl ?_
  refine sw_aload_n (pc := 1) C d_Ly_begunNeighbours_1 rfl rfl ?_
  refine sw_get (pc := 2) C inLy 0 rfl rfl 0 (by decide) t_139 rfl rfl d_Ly_begunNeighbours_2 ?_
  refine sw_topi (z := nI n) rfl ?_
  refine sw_irem (pc := 5) C d_Ly_begunNeighbours_5 (nI_ne0 (by omega) (by omega)) ?_
  refine sw_topi (z := nI (i % n)) (pk_rem (by omega) (by omega) (by omega)) ?_
  refine sw_if_leN (pc := 6) C 24 (by omega) d_Ly_begunNeighbours_6 (by decide) (fun h1 => ?_) (fun h1 => ?_)
  · skip
    refine sw_iconst (pc := 24) C (nI 0) d_Ly_begunNeighbours_24 (by decide) ?_
    refine sw_istore_n (pc := 25) C d_Ly_begunNeighbours_25 rfl (by decide) rfl ?_
    exact tail 0 (by rw [if_neg (fun q => by omega)])
  refine sw_aload_n (pc := 9) C d_Ly_begunNeighbours_9 rfl rfl ?_
  refine sw_get (pc := 10) C inLy 0 rfl rfl 3 (by decide) t_143 rfl rfl d_Ly_begunNeighbours_10 ?_
  refine sw_iload_n (pc := 13) C d_Ly_begunNeighbours_13 rfl rfl ?_
  refine sw_iconst (pc := 14) C (nI 1) d_Ly_begunNeighbours_14 (by decide) ?_
  refine sw_isub (pc := 15) C d_Ly_begunNeighbours_15 ?_
  refine sw_topi (z := nI (i - 1)) (pk_sub (by omega)) ?_
  refine sw_ialdN (pc := 16) C 3 (i - 1) rfl rfl (by omega) (by omega) d_Ly_begunNeighbours_16 ?_
  refine sw_if_eq (pc := 17) C 24 d_Ly_begunNeighbours_17 (by decide) (fun h2 => ?_) (fun h2 => ?_)
  · skip
    refine sw_iconst (pc := 24) C (nI 0) d_Ly_begunNeighbours_24 (by decide) ?_
    refine sw_istore_n (pc := 25) C d_Ly_begunNeighbours_25 rfl (by decide) rfl ?_
    exact tail 0 (by rw [if_neg (fun q => q.2 h2)])
  refine sw_iconst (pc := 20) C (nI 1) d_Ly_begunNeighbours_20 (by decide) ?_
  refine sw_goto (pc := 21) C 25 d_Ly_begunNeighbours_21 (by decide) ?_
  refine sw_istore_n (pc := 25) C d_Ly_begunNeighbours_25 rfl (by decide) rfl ?_
  exact tail 1 (by rw [if_pos ⟨h1, h2⟩])
theorem c_codeS_w (l : Launch) (g : Gl) (a z o r : Nat) (l0 : List Nat) (S : CS × Nat) (c b : Nat) (hK : csOK S.1) (hc : c < 48) (hb : b ≤ 1) (h1 : 1 ≤ l0.length) (hst : l0.length + S.1.2.2.2 / 8 + 2 < 1200) : Ct l g y_Cd_code b_Cd_code 6 (some .int) (rmD 1) [.ref a, .int (nI c), .int (nI b)] (wKw g a z o r l0 S) (fun u w => u = some (.int (nI (kBit none S c b))) ∧ w = wKw g a z o r l0 (kStep none S c b)) := by
  obtain ⟨⟨Z, O, W, sc⟩, v⟩ := S
  exact c_code_w l g a z o r l0 Z O W sc v c b hK hc hb h1 hst
theorem c_codeS_r (l : Launch) (g : Gl) (a z o r : Nat) (l0 : List Nat) (fr en : Nat) (S : CS × Nat) (c b : Nat) (hK : csOK S.1) (hc : c < 48) (hvW : S.2 < S.1.2.2.1) (hfe : fr ≤ en) (hen : en ≤ 1200) (hl : ∀ k, l0.getD k 0 < 256) : Ct l g y_Cd_code b_Cd_code 6 (some .int) (rmD 1) [.ref a, .int (nI c), .int (nI b)] (wKr g a z o r l0 fr en S) (fun u w => u = some (.int (nI (kBit (some (dgt l0 fr en)) S c b))) ∧ w = wKr g a z o r l0 fr en (kStep (some (dgt l0 fr en)) S c b)) := by
  obtain ⟨⟨Z, O, W, sc⟩, v⟩ := S
  exact c_code_r l g a z o r l0 fr en Z O W sc v c b hK hc hvW hfe hen hl
set_option maxRecDepth 100000 in
set_option maxHeartbeats 4000000 in
theorem c_cpb_w (l : Launch) (g : Gl) (A : Nat → Nat) (n : Nat) (ce co li : Nat → Int32) (cm : Bool) (hn : n = 4 ∨ n = 8) (a z o r : Nat) (l0 : List Nat) (S : CS × Nat) (pf : Nat → Nat) (ng : Nat → Bool) (b i : Nat) (hb : b ≤ 9) (hi : i < n * n) (hpl : plB (n * n) pf b i) (hng : pf i = 0 → ng i = decide (co i < 0)) (hK : csOK S.1) (h1 : 1 ≤ l0.length) (hst : l0.length + (S.1.2.2.2 + 5) / 8 + 2 < 1200) : Ct l g y_Ly_codePlaneBit b_Ly_codePlaneBit 7 none (rmD 2) [.ref (A 0), .int (nI b), .int (nI i), .ref a] (wLy g A n ce co (cdF pf ng b i) li cm ++ wKw g a z o r l0 S) (fun u w => u = none ∧ w = wLy g A n ce co (cdF (lyStep none n co b i (S, pf, ng)).2.1 (lyStep none n co b i (S, pf, ng)).2.2 b (i + 1)) li cm ++ wKw g a z o r l0 (lyStep none n co b i (S, pf, ng)).1) := by
  refine ct_of [some (.ref (A 0)), some (.int (nI b)), some (.int (nI i)), some (.ref a), none, none, none] (by decide) (Nat.le_of_ble_eq_true rfl) rfl ?_
  intro X C E
  obtain ⟨hnn, hn4, hn8⟩ := nn_le hn
  have hgb := gbit_le (co i) b
  have hpi := hpl i hi
  rw [if_neg (show ¬ i < i by omega)] at hpi
  have hp2 : 2 ^ b ≤ 2 ^ 9 := Nat.pow_le_pow_right (by decide) hb
  have hc0 : cdF pf ng b i i = cdV pf ng (b + 1) i := by unfold cdF; rw [if_neg (by omega)]
  refine sw_aload_n (pc := 0) C d_Ly_codePlaneBit_0 rfl rfl ?_
  refine sw_get (pc := 1) C inLy 0 rfl rfl 2 (by decide) t_142 rfl rfl d_Ly_codePlaneBit_1 ?_
  refine sw_iload_n (pc := 4) C d_Ly_codePlaneBit_4 rfl rfl ?_
  refine sw_ialdN (pc := 5) C 2 i rfl rfl (by omega) (by omega) d_Ly_codePlaneBit_5 ?_
  refine sw_istore (pc := 6) C d_Ly_codePlaneBit_6 (by decide) rfl ?_
  refine sw_iload (pc := 8) C d_Ly_codePlaneBit_8 rfl ?_
  refine sw_mabs (pc := 10) C t_439 t_440 t_13 t_441 (Nat.le_of_ble_eq_true rfl) (Nat.le_of_ble_eq_true rfl) (Nat.le_of_ble_eq_true rfl) (Nat.le_of_ble_eq_true rfl) d_Ly_codePlaneBit_10 ?_
  refine sw_iload_n (pc := 13) C d_Ly_codePlaneBit_13 rfl rfl ?_
  refine sw_ishr (pc := 14) C d_Ly_codePlaneBit_14 ?_
  refine sw_iconst (pc := 15) C (nI 1) d_Ly_codePlaneBit_15 (by decide) ?_
  refine sw_iand (pc := 16) C d_Ly_codePlaneBit_16 ?_
  refine sw_topi (z := nI (gbit (co i) b)) (gbit_eq _ _) ?_
  refine sw_istore (pc := 17) C d_Ly_codePlaneBit_17 (by decide) rfl ?_
  refine sw_aload_n (pc := 19) C d_Ly_codePlaneBit_19 rfl rfl ?_
  refine sw_get (pc := 20) C inLy 0 rfl rfl 3 (by decide) t_143 rfl rfl d_Ly_codePlaneBit_20 ?_
  refine sw_iload_n (pc := 23) C d_Ly_codePlaneBit_23 rfl rfl ?_
  refine sw_ialdN (pc := 24) C 3 i rfl rfl (by omega) (by omega) d_Ly_codePlaneBit_24 ?_
  refine sw_if_eq (pc := 25) C 68 d_Ly_codePlaneBit_25 (by decide) (fun h4 => ?_) (fun h4 => ?_)
  · skip
    have h0 : pf i = 0 := (cdV_0 hpi).mp (hc0 ▸ h4)
    have hcx : lyC n pf i < 48 := lyC_lt
    refine sw_aload_n (pc := 68) C d_Ly_codePlaneBit_68 rfl rfl ?_
    refine sw_aload_n (pc := 69) C d_Ly_codePlaneBit_69 rfl rfl ?_
    refine sw_iload_n (pc := 70) C d_Ly_codePlaneBit_70 rfl rfl ?_
    refine sw_callVR (pc := 71) C (c_begN l g A n ce co (cdF pf ng b i) li cm hn i hi) sv_Ly_begunNeighbours t_443 rfl rfl rfl [0, 1, 2, 3, 4] rfl rfl rfl rfl (Nat.le_of_ble_eq_true rfl) (Nat.le_of_ble_eq_true rfl) (Nat.le_of_ble_eq_true rfl) (Nat.le_of_ble_eq_true rfl) (Nat.le_of_ble_eq_true rfl) d_Ly_codePlaneBit_71 (fun v w1 hp => ?_)
    obtain ⟨rfl, rfl⟩ := hp
    refine ⟨rfl, ?_⟩
    refine sw_topi (z := nI (lyC n pf i)) (by rw [bgN_lyC hi hpl h0]) ?_
    refine sw_iload (pc := 74) C d_Ly_codePlaneBit_74 rfl ?_
    refine sw_callUP (pc := 76) C (c_codeS_w l g a z o r l0 S (lyC n pf i) (gbit (co i) b) hK hcx hgb h1 (by omega)) su_Cw_Cd_code t_442 rfl rfl rfl rfl [5, 6, 7, 8] rfl rfl rfl rfl (Nat.le_of_ble_eq_true rfl) (Nat.le_of_ble_eq_true rfl) (Nat.le_of_ble_eq_true rfl) (Nat.le_of_ble_eq_true rfl) (Nat.le_of_ble_eq_true rfl) d_Ly_codePlaneBit_76 (fun v w1 hp => ?_)
    obtain ⟨rfl, rfl⟩ := hp
    refine ⟨rfl, ?_⟩
    refine sw_ws (ws' := wLy g A n ce co (cdF pf ng b i) li cm ++ wKw g a z o r l0 (kStep none S (lyC n pf i) (gbit (co i) b))) rfl ?_
    have hv1 : (kBit none S (lyC n pf i) (gbit (co i) b)) ≤ 1 := kBit_01 hgb
    refine sw_iconst (pc := 79) C (nI 1) d_Ly_codePlaneBit_79 (by decide) ?_
    refine sw_icmp_neN (pc := 80) C 130 (by omega) (by omega) d_Ly_codePlaneBit_80 (by decide) (fun h5 => ?_) (fun h5 => ?_)
    · skip
      have hs := ls_fresh0 (md := none) (n := n) (cf := co) (b := b) (i := i) (S := S) (pf := pf) (ng := ng) h0 (by omega)
      exact sw_vret (pc := 130) C E rfl (Nat.le_of_ble_eq_true rfl) (Nat.le_of_ble_eq_true rfl) d_Ly_codePlaneBit_130 ⟨rfl, by rw [hs, cdF_stay h0]⟩
    have hs := ls_fresh1 (md := none) (n := n) (cf := co) (b := b) (i := i) (S := S) (pf := pf) (ng := ng) h0 h5
    have hK1 : csOK (kStep none S (lyC n pf i) (gbit (co i) b)).1 := by rw [kStep_cs]; exact csStep_ok hK hcx
    have hsg : (if ng i = true then 1 else 0) ≤ 1 := by split <;> omega
    have hst1 : l0.length + (kStep none S (lyC n pf i) (gbit (co i) b)).1.2.2.2 / 8 + 2 < 1200 := by
      have := csStep_sc (b := (kBit none S (lyC n pf i) (gbit (co i) b))) hK hcx
      rw [kStep_cs]
      omega
    have t95 : ∀ sg : Nat, sg = (if ng i = true then 1 else 0) → SW X g 7 0 0 (wLy g A n ce co (cdF pf ng b i) li cm ++ wKw g a z o r l0 (kStep none S (lyC n pf i) (gbit (co i) b))) 95 [some (.ref (A 0)), some (.int (nI b)), some (.int (nI i)), some (.ref a), some (.int (co i)), some (.int (nI (gbit (co i) b))), none] [.int (nI sg), .int (nI 3), .ref a] := by
      intro sg hsg1
      subst hsg1
      refine sw_callUP (pc := 95) C (c_codeS_w l g a z o r l0 (kStep none S (lyC n pf i) (gbit (co i) b)) 3 (if ng i = true then 1 else 0) hK1 (by decide) hsg h1 hst1) su_Cw_Cd_code t_442 rfl rfl rfl rfl [5, 6, 7, 8] rfl rfl rfl rfl (Nat.le_of_ble_eq_true rfl) (Nat.le_of_ble_eq_true rfl) (Nat.le_of_ble_eq_true rfl) (Nat.le_of_ble_eq_true rfl) (Nat.le_of_ble_eq_true rfl) d_Ly_codePlaneBit_95 (fun v w1 hp => ?_)
      obtain ⟨rfl, rfl⟩ := hp
      refine ⟨rfl, ?_⟩
      refine sw_ws (ws' := wLy g A n ce co (cdF pf ng b i) li cm ++ wKw g a z o r l0 (kStep none (kStep none S (lyC n pf i) (gbit (co i) b)) 3 (if ng i = true then 1 else 0))) rfl ?_
      have hv2 : (kBit none (kStep none S (lyC n pf i) (gbit (co i) b)) 3 (if ng i = true then 1 else 0)) ≤ 1 := kBit_01 hsg
      refine sw_iconst (pc := 98) C (nI 1) d_Ly_codePlaneBit_98 (by decide) ?_
      refine sw_icmp_neN (pc := 99) C 106 (by omega) (by omega) d_Ly_codePlaneBit_99 (by decide) (fun h6 => ?_) (fun h6 => ?_)
      · skip
        refine sw_iconst (pc := 106) C (nI 0) d_Ly_codePlaneBit_106 (by decide) ?_
        refine sw_istore (pc := 107) C d_Ly_codePlaneBit_107 (by decide) rfl ?_
        refine sw_aload_n (pc := 109) C d_Ly_codePlaneBit_109 rfl rfl ?_
        refine sw_get (pc := 110) C inLy 0 rfl rfl 3 (by decide) t_143 rfl rfl d_Ly_codePlaneBit_110 ?_
        refine sw_iload_n (pc := 113) C d_Ly_codePlaneBit_113 rfl rfl ?_
        refine sw_iload (pc := 114) C d_Ly_codePlaneBit_114 rfl ?_
        refine sw_if_eqN (pc := 116) C 126 (by omega) d_Ly_codePlaneBit_116 (by decide) (fun h7 => ?_) (fun h7 => ?_)
        · skip
          refine sw_iconst (pc := 126) C (nI 1) d_Ly_codePlaneBit_126 (by decide) ?_
          refine sw_iload_n (pc := 127) C d_Ly_codePlaneBit_127 rfl rfl ?_
          refine sw_ishl (pc := 128) C d_Ly_codePlaneBit_128 ?_
          refine sw_topi (z := nI (1 * 2 ^ b)) (shl_nI (by omega) (by omega)) ?_
          refine sw_iastN (pc := 129) C 3 i rfl rfl (by omega) (by omega) d_Ly_codePlaneBit_129 ?_
          refine sw_ws (ws' := wLy g A n ce co (cdF (upN pf i 1) (upB ng i (decide ((kBit none (kStep none S (lyC n pf i) (gbit (co i) b)) 3 (if ng i = true then 1 else 0)) = 1))) b (i + 1)) li cm ++ wKw g a z o r l0 (kStep none (kStep none S (lyC n pf i) (gbit (co i) b)) 3 (if ng i = true then 1 else 0))) (by rw [← cdF_up (pf := pf) (pf' := upN pf i 1) (ng := ng) (ng' := upB ng i (decide ((kBit none (kStep none S (lyC n pf i) (gbit (co i) b)) 3 (if ng i = true then 1 else 0)) = 1))) (x := nI (1 * 2 ^ b)) (fun k hk => ⟨upN_ne hk, upB_ne hk⟩) (by unfold cdV; rw [upB_at, upN_at, decide_eq_false h6]; rfl)]; rfl) ?_
          exact sw_vret (pc := 130) C E rfl (Nat.le_of_ble_eq_true rfl) (Nat.le_of_ble_eq_true rfl) d_Ly_codePlaneBit_130 ⟨rfl, by rw [hs]⟩
        omega
      refine sw_iconst (pc := 102) C (nI 1) d_Ly_codePlaneBit_102 (by decide) ?_
      refine sw_goto (pc := 103) C 107 d_Ly_codePlaneBit_103 (by decide) ?_
      refine sw_istore (pc := 107) C d_Ly_codePlaneBit_107 (by decide) rfl ?_
      refine sw_aload_n (pc := 109) C d_Ly_codePlaneBit_109 rfl rfl ?_
      refine sw_get (pc := 110) C inLy 0 rfl rfl 3 (by decide) t_143 rfl rfl d_Ly_codePlaneBit_110 ?_
      refine sw_iload_n (pc := 113) C d_Ly_codePlaneBit_113 rfl rfl ?_
      refine sw_iload (pc := 114) C d_Ly_codePlaneBit_114 rfl ?_
      refine sw_if_eqN (pc := 116) C 126 (by omega) d_Ly_codePlaneBit_116 (by decide) (fun h7 => ?_) (fun h7 => ?_)
      · skip
        omega
      refine sw_iconst (pc := 119) C (nI 1) d_Ly_codePlaneBit_119 (by decide) ?_
      refine sw_iload_n (pc := 120) C d_Ly_codePlaneBit_120 rfl rfl ?_
      refine sw_ishl (pc := 121) C d_Ly_codePlaneBit_121 ?_
      refine sw_topi (z := nI (1 * 2 ^ b)) (shl_nI (by omega) (by omega)) ?_
      refine sw_ineg (pc := 122) C d_Ly_codePlaneBit_122 ?_
      refine sw_goto (pc := 123) C 129 d_Ly_codePlaneBit_123 (by decide) ?_
      refine sw_iastN (pc := 129) C 3 i rfl rfl (by omega) (by omega) d_Ly_codePlaneBit_129 ?_
      refine sw_ws (ws' := wLy g A n ce co (cdF (upN pf i 1) (upB ng i (decide ((kBit none (kStep none S (lyC n pf i) (gbit (co i) b)) 3 (if ng i = true then 1 else 0)) = 1))) b (i + 1)) li cm ++ wKw g a z o r l0 (kStep none (kStep none S (lyC n pf i) (gbit (co i) b)) 3 (if ng i = true then 1 else 0))) (by rw [← cdF_up (pf := pf) (pf' := upN pf i 1) (ng := ng) (ng' := upB ng i (decide ((kBit none (kStep none S (lyC n pf i) (gbit (co i) b)) 3 (if ng i = true then 1 else 0)) = 1))) (x := -(nI (1 * 2 ^ b))) (fun k hk => ⟨upN_ne hk, upB_ne hk⟩) (by unfold cdV; rw [upB_at, upN_at, decide_eq_true h6]; rfl)]; rfl) ?_
      exact sw_vret (pc := 130) C E rfl (Nat.le_of_ble_eq_true rfl) (Nat.le_of_ble_eq_true rfl) d_Ly_codePlaneBit_130 ⟨rfl, by rw [hs]⟩
    refine sw_aload_n (pc := 83) C d_Ly_codePlaneBit_83 rfl rfl ?_
    refine sw_iconst (pc := 84) C (nI 3) d_Ly_codePlaneBit_84 (by decide) ?_
    refine sw_iload (pc := 85) C d_Ly_codePlaneBit_85 rfl ?_
    refine sw_if_ge (pc := 87) C 94 d_Ly_codePlaneBit_87 (by decide) (fun h8 => ?_) (fun h8 => ?_)
    · skip
      refine sw_iconst (pc := 94) C (nI 0) d_Ly_codePlaneBit_94 (by decide) ?_
      exact t95 0 (by rw [hng h0, decide_eq_false (Int32.not_lt.mpr h8)]; rfl)
    refine sw_iconst (pc := 90) C (nI 1) d_Ly_codePlaneBit_90 (by decide) ?_
    refine sw_goto (pc := 91) C 95 d_Ly_codePlaneBit_91 (by decide) ?_
    exact t95 1 (by rw [hng h0, decide_eq_true (Int32.not_le.mp h8)]; rfl)
  have h0 : pf i ≠ 0 := fun e => h4 (hc0 ▸ (cdV_0 hpi).mpr e)
  have hs := ls_begun (md := none) (n := n) (cf := co) (b := b) (i := i) (S := S) (pf := pf) (ng := ng) h0
  have hv1 : (kBit none S 4 (gbit (co i) b)) ≤ 1 := kBit_01 hgb
  have hvb : (kBit none S 4 (gbit (co i) b)) * 2 ^ b ≤ 1 * 2 ^ 9 := Nat.mul_le_mul hv1 hp2
  refine sw_aload_n (pc := 28) C d_Ly_codePlaneBit_28 rfl rfl ?_
  refine sw_iconst (pc := 29) C (nI 4) d_Ly_codePlaneBit_29 (by decide) ?_
  refine sw_iload (pc := 30) C d_Ly_codePlaneBit_30 rfl ?_
  refine sw_callUP (pc := 32) C (c_codeS_w l g a z o r l0 S 4 (gbit (co i) b) hK (by decide) hgb h1 (by omega)) su_Cw_Cd_code t_442 rfl rfl rfl rfl [5, 6, 7, 8] rfl rfl rfl rfl (Nat.le_of_ble_eq_true rfl) (Nat.le_of_ble_eq_true rfl) (Nat.le_of_ble_eq_true rfl) (Nat.le_of_ble_eq_true rfl) (Nat.le_of_ble_eq_true rfl) d_Ly_codePlaneBit_32 (fun v w1 hp => ?_)
  obtain ⟨rfl, rfl⟩ := hp
  refine ⟨rfl, ?_⟩
  refine sw_ws (ws' := wLy g A n ce co (cdF pf ng b i) li cm ++ wKw g a z o r l0 (kStep none S 4 (gbit (co i) b))) rfl ?_
  refine sw_iload_n (pc := 35) C d_Ly_codePlaneBit_35 rfl rfl ?_
  refine sw_ishl (pc := 36) C d_Ly_codePlaneBit_36 ?_
  refine sw_topi (z := nI ((kBit none S 4 (gbit (co i) b)) * 2 ^ b)) (shl_nI (by omega) (by omega)) ?_
  refine sw_istore (pc := 37) C d_Ly_codePlaneBit_37 (by decide) rfl ?_
  refine sw_aload_n (pc := 39) C d_Ly_codePlaneBit_39 rfl rfl ?_
  refine sw_get (pc := 40) C inLy 0 rfl rfl 3 (by decide) t_143 rfl rfl d_Ly_codePlaneBit_40 ?_
  refine sw_iload_n (pc := 43) C d_Ly_codePlaneBit_43 rfl rfl ?_
  refine sw_dup2 (pc := 44) C d_Ly_codePlaneBit_44 rfl rfl ?_
  refine sw_ialdN (pc := 45) C 3 i rfl rfl (by omega) (by omega) d_Ly_codePlaneBit_45 ?_
  refine sw_aload_n (pc := 46) C d_Ly_codePlaneBit_46 rfl rfl ?_
  refine sw_get (pc := 47) C inLy 0 rfl rfl 3 (by decide) t_143 rfl rfl d_Ly_codePlaneBit_47 ?_
  refine sw_iload_n (pc := 50) C d_Ly_codePlaneBit_50 rfl rfl ?_
  refine sw_ialdN (pc := 51) C 3 i rfl rfl (by omega) (by omega) d_Ly_codePlaneBit_51 ?_
  refine sw_if_ge (pc := 52) C 61 d_Ly_codePlaneBit_52 (by decide) (fun h6 => ?_) (fun h6 => ?_)
  · skip
    have hgf : ng i = false := (cdV_pos hpi h0).mp (hc0 ▸ h6)
    have hx : cdF pf ng b i i + nI ((kBit none S 4 (gbit (co i) b)) * 2 ^ b) = cdV (upN pf i (2 * pf i + (kBit none S 4 (gbit (co i) b)))) ng b i := by
      rw [hc0]
      unfold cdV
      rw [hgf, upN_at, show (2 * pf i + (kBit none S 4 (gbit (co i) b))) * 2 ^ b = pf i * 2 ^ (b + 1) + (kBit none S 4 (gbit (co i) b)) * 2 ^ b by rw [Nat.pow_succ, Nat.add_mul, Nat.mul_comm 2, Nat.mul_assoc, Nat.mul_comm 2]]
      simp only [Bool.false_eq_true, if_false]
      rw [nI_add]
    refine sw_iload (pc := 61) C d_Ly_codePlaneBit_61 rfl ?_
    refine sw_iadd (pc := 63) C d_Ly_codePlaneBit_63 ?_
    refine sw_iastN (pc := 64) C 3 i rfl rfl (by omega) (by omega) d_Ly_codePlaneBit_64 ?_
    refine sw_ws (ws' := wLy g A n ce co (cdF (upN pf i (2 * pf i + (kBit none S 4 (gbit (co i) b)))) ng b (i + 1)) li cm ++ wKw g a z o r l0 (kStep none S 4 (gbit (co i) b))) (by rw [← cdF_up (pf := pf) (pf' := (upN pf i (2 * pf i + (kBit none S 4 (gbit (co i) b))))) (ng := ng) (ng' := ng) (b := b) (i := i) (x := cdF pf ng b i i + nI ((kBit none S 4 (gbit (co i) b)) * 2 ^ b)) (fun k hk => ⟨upN_ne hk, rfl⟩) hx]; rfl) ?_
    refine sw_goto (pc := 65) C 130 d_Ly_codePlaneBit_65 (by decide) ?_
    exact sw_vret (pc := 130) C E rfl (Nat.le_of_ble_eq_true rfl) (Nat.le_of_ble_eq_true rfl) d_Ly_codePlaneBit_130 ⟨rfl, by rw [hs]⟩
  have hgt : ng i = true := by
    cases e : ng i with
    | true => rfl
    | false => exact absurd ((cdV_pos hpi h0).mpr e) (hc0 ▸ h6)
  have hx : cdF pf ng b i i + (-(nI ((kBit none S 4 (gbit (co i) b)) * 2 ^ b))) = cdV (upN pf i (2 * pf i + (kBit none S 4 (gbit (co i) b)))) ng b i := by
    rw [hc0]
    unfold cdV
    rw [hgt, upN_at, show (2 * pf i + (kBit none S 4 (gbit (co i) b))) * 2 ^ b = pf i * 2 ^ (b + 1) + (kBit none S 4 (gbit (co i) b)) * 2 ^ b by rw [Nat.pow_succ, Nat.add_mul, Nat.mul_comm 2, Nat.mul_assoc, Nat.mul_comm 2]]
    simp only [if_true]
    rw [← nI_add, Int32.neg_add, Int32.sub_eq_add_neg]
  refine sw_iload (pc := 55) C d_Ly_codePlaneBit_55 rfl ?_
  refine sw_ineg (pc := 57) C d_Ly_codePlaneBit_57 ?_
  refine sw_goto (pc := 58) C 63 d_Ly_codePlaneBit_58 (by decide) ?_
  refine sw_iadd (pc := 63) C d_Ly_codePlaneBit_63 ?_
  refine sw_iastN (pc := 64) C 3 i rfl rfl (by omega) (by omega) d_Ly_codePlaneBit_64 ?_
  refine sw_ws (ws' := wLy g A n ce co (cdF (upN pf i (2 * pf i + (kBit none S 4 (gbit (co i) b)))) ng b (i + 1)) li cm ++ wKw g a z o r l0 (kStep none S 4 (gbit (co i) b))) (by rw [← cdF_up (pf := pf) (pf' := (upN pf i (2 * pf i + (kBit none S 4 (gbit (co i) b))))) (ng := ng) (ng' := ng) (b := b) (i := i) (x := cdF pf ng b i i + (-(nI ((kBit none S 4 (gbit (co i) b)) * 2 ^ b)))) (fun k hk => ⟨upN_ne hk, rfl⟩) hx]; rfl) ?_
  refine sw_goto (pc := 65) C 130 d_Ly_codePlaneBit_65 (by decide) ?_
  exact sw_vret (pc := 130) C E rfl (Nat.le_of_ble_eq_true rfl) (Nat.le_of_ble_eq_true rfl) d_Ly_codePlaneBit_130 ⟨rfl, by rw [hs]⟩
set_option maxRecDepth 100000 in
set_option maxHeartbeats 4000000 in
theorem c_cpb_r (l : Launch) (g : Gl) (A : Nat → Nat) (n : Nat) (ce co li : Nat → Int32) (cm : Bool) (hn : n = 4 ∨ n = 8) (a z o r : Nat) (l0 : List Nat) (fr en : Nat) (S : CS × Nat) (pf : Nat → Nat) (ng : Nat → Bool) (b i : Nat) (hb : b ≤ 9) (hi : i < n * n) (hpl : plB (n * n) pf b i) (hng : pf i = 0 → ng i = decide (co i < 0)) (hK : csOK S.1) (hvW : S.2 < S.1.2.2.1) (hfe : fr ≤ en) (hen : en ≤ 1200) (hl : ∀ k, l0.getD k 0 < 256) : Ct l g y_Ly_codePlaneBit b_Ly_codePlaneBit 7 none (rmD 2) [.ref (A 0), .int (nI b), .int (nI i), .ref a] (wLy g A n ce co (cdF pf ng b i) li cm ++ wKr g a z o r l0 fr en S) (fun u w => u = none ∧ w = wLy g A n ce co (cdF (lyStep (some (dgt l0 fr en)) n co b i (S, pf, ng)).2.1 (lyStep (some (dgt l0 fr en)) n co b i (S, pf, ng)).2.2 b (i + 1)) li cm ++ wKr g a z o r l0 fr en (lyStep (some (dgt l0 fr en)) n co b i (S, pf, ng)).1) := by
  refine ct_of [some (.ref (A 0)), some (.int (nI b)), some (.int (nI i)), some (.ref a), none, none, none] (by decide) (Nat.le_of_ble_eq_true rfl) rfl ?_
  intro X C E
  obtain ⟨hnn, hn4, hn8⟩ := nn_le hn
  have hgb := gbit_le (co i) b
  have hpi := hpl i hi
  rw [if_neg (show ¬ i < i by omega)] at hpi
  have hp2 : 2 ^ b ≤ 2 ^ 9 := Nat.pow_le_pow_right (by decide) hb
  have hc0 : cdF pf ng b i i = cdV pf ng (b + 1) i := by unfold cdF; rw [if_neg (by omega)]
  refine sw_aload_n (pc := 0) C d_Ly_codePlaneBit_0 rfl rfl ?_
  refine sw_get (pc := 1) C inLy 0 rfl rfl 2 (by decide) t_142 rfl rfl d_Ly_codePlaneBit_1 ?_
  refine sw_iload_n (pc := 4) C d_Ly_codePlaneBit_4 rfl rfl ?_
  refine sw_ialdN (pc := 5) C 2 i rfl rfl (by omega) (by omega) d_Ly_codePlaneBit_5 ?_
  refine sw_istore (pc := 6) C d_Ly_codePlaneBit_6 (by decide) rfl ?_
  refine sw_iload (pc := 8) C d_Ly_codePlaneBit_8 rfl ?_
  refine sw_mabs (pc := 10) C t_439 t_440 t_13 t_441 (Nat.le_of_ble_eq_true rfl) (Nat.le_of_ble_eq_true rfl) (Nat.le_of_ble_eq_true rfl) (Nat.le_of_ble_eq_true rfl) d_Ly_codePlaneBit_10 ?_
  refine sw_iload_n (pc := 13) C d_Ly_codePlaneBit_13 rfl rfl ?_
  refine sw_ishr (pc := 14) C d_Ly_codePlaneBit_14 ?_
  refine sw_iconst (pc := 15) C (nI 1) d_Ly_codePlaneBit_15 (by decide) ?_
  refine sw_iand (pc := 16) C d_Ly_codePlaneBit_16 ?_
  refine sw_topi (z := nI (gbit (co i) b)) (gbit_eq _ _) ?_
  refine sw_istore (pc := 17) C d_Ly_codePlaneBit_17 (by decide) rfl ?_
  refine sw_aload_n (pc := 19) C d_Ly_codePlaneBit_19 rfl rfl ?_
  refine sw_get (pc := 20) C inLy 0 rfl rfl 3 (by decide) t_143 rfl rfl d_Ly_codePlaneBit_20 ?_
  refine sw_iload_n (pc := 23) C d_Ly_codePlaneBit_23 rfl rfl ?_
  refine sw_ialdN (pc := 24) C 3 i rfl rfl (by omega) (by omega) d_Ly_codePlaneBit_24 ?_
  refine sw_if_eq (pc := 25) C 68 d_Ly_codePlaneBit_25 (by decide) (fun h4 => ?_) (fun h4 => ?_)
  · skip
    have h0 : pf i = 0 := (cdV_0 hpi).mp (hc0 ▸ h4)
    have hcx : lyC n pf i < 48 := lyC_lt
    refine sw_aload_n (pc := 68) C d_Ly_codePlaneBit_68 rfl rfl ?_
    refine sw_aload_n (pc := 69) C d_Ly_codePlaneBit_69 rfl rfl ?_
    refine sw_iload_n (pc := 70) C d_Ly_codePlaneBit_70 rfl rfl ?_
    refine sw_callVR (pc := 71) C (c_begN l g A n ce co (cdF pf ng b i) li cm hn i hi) sv_Ly_begunNeighbours t_443 rfl rfl rfl [0, 1, 2, 3, 4] rfl rfl rfl rfl (Nat.le_of_ble_eq_true rfl) (Nat.le_of_ble_eq_true rfl) (Nat.le_of_ble_eq_true rfl) (Nat.le_of_ble_eq_true rfl) (Nat.le_of_ble_eq_true rfl) d_Ly_codePlaneBit_71 (fun v w1 hp => ?_)
    obtain ⟨rfl, rfl⟩ := hp
    refine ⟨rfl, ?_⟩
    refine sw_topi (z := nI (lyC n pf i)) (by rw [bgN_lyC hi hpl h0]) ?_
    refine sw_iload (pc := 74) C d_Ly_codePlaneBit_74 rfl ?_
    refine sw_callUP (pc := 76) C (c_codeS_r l g a z o r l0 fr en S (lyC n pf i) (gbit (co i) b) hK hcx hvW hfe hen hl) su_Cr_Cd_code t_442 rfl rfl rfl rfl [5, 6, 7, 8] rfl rfl rfl rfl (Nat.le_of_ble_eq_true rfl) (Nat.le_of_ble_eq_true rfl) (Nat.le_of_ble_eq_true rfl) (Nat.le_of_ble_eq_true rfl) (Nat.le_of_ble_eq_true rfl) d_Ly_codePlaneBit_76 (fun v w1 hp => ?_)
    obtain ⟨rfl, rfl⟩ := hp
    refine ⟨rfl, ?_⟩
    refine sw_ws (ws' := wLy g A n ce co (cdF pf ng b i) li cm ++ wKr g a z o r l0 fr en (kStep (some (dgt l0 fr en)) S (lyC n pf i) (gbit (co i) b))) rfl ?_
    have hv1 : (kBit (some (dgt l0 fr en)) S (lyC n pf i) (gbit (co i) b)) ≤ 1 := kBit_01 hgb
    refine sw_iconst (pc := 79) C (nI 1) d_Ly_codePlaneBit_79 (by decide) ?_
    refine sw_icmp_neN (pc := 80) C 130 (by omega) (by omega) d_Ly_codePlaneBit_80 (by decide) (fun h5 => ?_) (fun h5 => ?_)
    · skip
      have hs := ls_fresh0 (md := (some (dgt l0 fr en))) (n := n) (cf := co) (b := b) (i := i) (S := S) (pf := pf) (ng := ng) h0 (by omega)
      exact sw_vret (pc := 130) C E rfl (Nat.le_of_ble_eq_true rfl) (Nat.le_of_ble_eq_true rfl) d_Ly_codePlaneBit_130 ⟨rfl, by rw [hs, cdF_stay h0]⟩
    have hs := ls_fresh1 (md := (some (dgt l0 fr en))) (n := n) (cf := co) (b := b) (i := i) (S := S) (pf := pf) (ng := ng) h0 h5
    have hK1 : csOK (kStep (some (dgt l0 fr en)) S (lyC n pf i) (gbit (co i) b)).1 := by rw [kStep_cs]; exact csStep_ok hK hcx
    have hsg : (if ng i = true then 1 else 0) ≤ 1 := by split <;> omega
    have hvW1 : (kStep (some (dgt l0 fr en)) S (lyC n pf i) (gbit (co i) b)).2 < (kStep (some (dgt l0 fr en)) S (lyC n pf i) (gbit (co i) b)).1.2.2.1 := (mdOK_step (md := (some (dgt l0 fr en))) (S := S) (c := lyC n pf i) (b := (gbit (co i) b)) ⟨dgt_le l0 fr en, hvW⟩).2
    have t95 : ∀ sg : Nat, sg = (if ng i = true then 1 else 0) → SW X g 7 0 0 (wLy g A n ce co (cdF pf ng b i) li cm ++ wKr g a z o r l0 fr en (kStep (some (dgt l0 fr en)) S (lyC n pf i) (gbit (co i) b))) 95 [some (.ref (A 0)), some (.int (nI b)), some (.int (nI i)), some (.ref a), some (.int (co i)), some (.int (nI (gbit (co i) b))), none] [.int (nI sg), .int (nI 3), .ref a] := by
      intro sg hsg1
      subst hsg1
      refine sw_callUP (pc := 95) C (c_codeS_r l g a z o r l0 fr en (kStep (some (dgt l0 fr en)) S (lyC n pf i) (gbit (co i) b)) 3 (if ng i = true then 1 else 0) hK1 (by decide) hvW1 hfe hen hl) su_Cr_Cd_code t_442 rfl rfl rfl rfl [5, 6, 7, 8] rfl rfl rfl rfl (Nat.le_of_ble_eq_true rfl) (Nat.le_of_ble_eq_true rfl) (Nat.le_of_ble_eq_true rfl) (Nat.le_of_ble_eq_true rfl) (Nat.le_of_ble_eq_true rfl) d_Ly_codePlaneBit_95 (fun v w1 hp => ?_)
      obtain ⟨rfl, rfl⟩ := hp
      refine ⟨rfl, ?_⟩
      refine sw_ws (ws' := wLy g A n ce co (cdF pf ng b i) li cm ++ wKr g a z o r l0 fr en (kStep (some (dgt l0 fr en)) (kStep (some (dgt l0 fr en)) S (lyC n pf i) (gbit (co i) b)) 3 (if ng i = true then 1 else 0))) rfl ?_
      have hv2 : (kBit (some (dgt l0 fr en)) (kStep (some (dgt l0 fr en)) S (lyC n pf i) (gbit (co i) b)) 3 (if ng i = true then 1 else 0)) ≤ 1 := kBit_01 hsg
      refine sw_iconst (pc := 98) C (nI 1) d_Ly_codePlaneBit_98 (by decide) ?_
      refine sw_icmp_neN (pc := 99) C 106 (by omega) (by omega) d_Ly_codePlaneBit_99 (by decide) (fun h6 => ?_) (fun h6 => ?_)
      · skip
        refine sw_iconst (pc := 106) C (nI 0) d_Ly_codePlaneBit_106 (by decide) ?_
        refine sw_istore (pc := 107) C d_Ly_codePlaneBit_107 (by decide) rfl ?_
        refine sw_aload_n (pc := 109) C d_Ly_codePlaneBit_109 rfl rfl ?_
        refine sw_get (pc := 110) C inLy 0 rfl rfl 3 (by decide) t_143 rfl rfl d_Ly_codePlaneBit_110 ?_
        refine sw_iload_n (pc := 113) C d_Ly_codePlaneBit_113 rfl rfl ?_
        refine sw_iload (pc := 114) C d_Ly_codePlaneBit_114 rfl ?_
        refine sw_if_eqN (pc := 116) C 126 (by omega) d_Ly_codePlaneBit_116 (by decide) (fun h7 => ?_) (fun h7 => ?_)
        · skip
          refine sw_iconst (pc := 126) C (nI 1) d_Ly_codePlaneBit_126 (by decide) ?_
          refine sw_iload_n (pc := 127) C d_Ly_codePlaneBit_127 rfl rfl ?_
          refine sw_ishl (pc := 128) C d_Ly_codePlaneBit_128 ?_
          refine sw_topi (z := nI (1 * 2 ^ b)) (shl_nI (by omega) (by omega)) ?_
          refine sw_iastN (pc := 129) C 3 i rfl rfl (by omega) (by omega) d_Ly_codePlaneBit_129 ?_
          refine sw_ws (ws' := wLy g A n ce co (cdF (upN pf i 1) (upB ng i (decide ((kBit (some (dgt l0 fr en)) (kStep (some (dgt l0 fr en)) S (lyC n pf i) (gbit (co i) b)) 3 (if ng i = true then 1 else 0)) = 1))) b (i + 1)) li cm ++ wKr g a z o r l0 fr en (kStep (some (dgt l0 fr en)) (kStep (some (dgt l0 fr en)) S (lyC n pf i) (gbit (co i) b)) 3 (if ng i = true then 1 else 0))) (by rw [← cdF_up (pf := pf) (pf' := upN pf i 1) (ng := ng) (ng' := upB ng i (decide ((kBit (some (dgt l0 fr en)) (kStep (some (dgt l0 fr en)) S (lyC n pf i) (gbit (co i) b)) 3 (if ng i = true then 1 else 0)) = 1))) (x := nI (1 * 2 ^ b)) (fun k hk => ⟨upN_ne hk, upB_ne hk⟩) (by unfold cdV; rw [upB_at, upN_at, decide_eq_false h6]; rfl)]; rfl) ?_
          exact sw_vret (pc := 130) C E rfl (Nat.le_of_ble_eq_true rfl) (Nat.le_of_ble_eq_true rfl) d_Ly_codePlaneBit_130 ⟨rfl, by rw [hs]⟩
        omega
      refine sw_iconst (pc := 102) C (nI 1) d_Ly_codePlaneBit_102 (by decide) ?_
      refine sw_goto (pc := 103) C 107 d_Ly_codePlaneBit_103 (by decide) ?_
      refine sw_istore (pc := 107) C d_Ly_codePlaneBit_107 (by decide) rfl ?_
      refine sw_aload_n (pc := 109) C d_Ly_codePlaneBit_109 rfl rfl ?_
      refine sw_get (pc := 110) C inLy 0 rfl rfl 3 (by decide) t_143 rfl rfl d_Ly_codePlaneBit_110 ?_
      refine sw_iload_n (pc := 113) C d_Ly_codePlaneBit_113 rfl rfl ?_
      refine sw_iload (pc := 114) C d_Ly_codePlaneBit_114 rfl ?_
      refine sw_if_eqN (pc := 116) C 126 (by omega) d_Ly_codePlaneBit_116 (by decide) (fun h7 => ?_) (fun h7 => ?_)
      · skip
        omega
      refine sw_iconst (pc := 119) C (nI 1) d_Ly_codePlaneBit_119 (by decide) ?_
      refine sw_iload_n (pc := 120) C d_Ly_codePlaneBit_120 rfl rfl ?_
      refine sw_ishl (pc := 121) C d_Ly_codePlaneBit_121 ?_
      refine sw_topi (z := nI (1 * 2 ^ b)) (shl_nI (by omega) (by omega)) ?_
      refine sw_ineg (pc := 122) C d_Ly_codePlaneBit_122 ?_
      refine sw_goto (pc := 123) C 129 d_Ly_codePlaneBit_123 (by decide) ?_
      refine sw_iastN (pc := 129) C 3 i rfl rfl (by omega) (by omega) d_Ly_codePlaneBit_129 ?_
      refine sw_ws (ws' := wLy g A n ce co (cdF (upN pf i 1) (upB ng i (decide ((kBit (some (dgt l0 fr en)) (kStep (some (dgt l0 fr en)) S (lyC n pf i) (gbit (co i) b)) 3 (if ng i = true then 1 else 0)) = 1))) b (i + 1)) li cm ++ wKr g a z o r l0 fr en (kStep (some (dgt l0 fr en)) (kStep (some (dgt l0 fr en)) S (lyC n pf i) (gbit (co i) b)) 3 (if ng i = true then 1 else 0))) (by rw [← cdF_up (pf := pf) (pf' := upN pf i 1) (ng := ng) (ng' := upB ng i (decide ((kBit (some (dgt l0 fr en)) (kStep (some (dgt l0 fr en)) S (lyC n pf i) (gbit (co i) b)) 3 (if ng i = true then 1 else 0)) = 1))) (x := -(nI (1 * 2 ^ b))) (fun k hk => ⟨upN_ne hk, upB_ne hk⟩) (by unfold cdV; rw [upB_at, upN_at, decide_eq_true h6]; rfl)]; rfl) ?_
      exact sw_vret (pc := 130) C E rfl (Nat.le_of_ble_eq_true rfl) (Nat.le_of_ble_eq_true rfl) d_Ly_codePlaneBit_130 ⟨rfl, by rw [hs]⟩
    refine sw_aload_n (pc := 83) C d_Ly_codePlaneBit_83 rfl rfl ?_
    refine sw_iconst (pc := 84) C (nI 3) d_Ly_codePlaneBit_84 (by decide) ?_
    refine sw_iload (pc := 85) C d_Ly_codePlaneBit_85 rfl ?_
    refine sw_if_ge (pc := 87) C 94 d_Ly_codePlaneBit_87 (by decide) (fun h8 => ?_) (fun h8 => ?_)
    · skip
      refine sw_iconst (pc := 94) C (nI 0) d_Ly_codePlaneBit_94 (by decide) ?_
      exact t95 0 (by rw [hng h0, decide_eq_false (Int32.not_lt.mpr h8)]; rfl)
    refine sw_iconst (pc := 90) C (nI 1) d_Ly_codePlaneBit_90 (by decide) ?_
    refine sw_goto (pc := 91) C 95 d_Ly_codePlaneBit_91 (by decide) ?_
    exact t95 1 (by rw [hng h0, decide_eq_true (Int32.not_le.mp h8)]; rfl)
  have h0 : pf i ≠ 0 := fun e => h4 (hc0 ▸ (cdV_0 hpi).mpr e)
  have hs := ls_begun (md := (some (dgt l0 fr en))) (n := n) (cf := co) (b := b) (i := i) (S := S) (pf := pf) (ng := ng) h0
  have hv1 : (kBit (some (dgt l0 fr en)) S 4 (gbit (co i) b)) ≤ 1 := kBit_01 hgb
  have hvb : (kBit (some (dgt l0 fr en)) S 4 (gbit (co i) b)) * 2 ^ b ≤ 1 * 2 ^ 9 := Nat.mul_le_mul hv1 hp2
  refine sw_aload_n (pc := 28) C d_Ly_codePlaneBit_28 rfl rfl ?_
  refine sw_iconst (pc := 29) C (nI 4) d_Ly_codePlaneBit_29 (by decide) ?_
  refine sw_iload (pc := 30) C d_Ly_codePlaneBit_30 rfl ?_
  refine sw_callUP (pc := 32) C (c_codeS_r l g a z o r l0 fr en S 4 (gbit (co i) b) hK (by decide) hvW hfe hen hl) su_Cr_Cd_code t_442 rfl rfl rfl rfl [5, 6, 7, 8] rfl rfl rfl rfl (Nat.le_of_ble_eq_true rfl) (Nat.le_of_ble_eq_true rfl) (Nat.le_of_ble_eq_true rfl) (Nat.le_of_ble_eq_true rfl) (Nat.le_of_ble_eq_true rfl) d_Ly_codePlaneBit_32 (fun v w1 hp => ?_)
  obtain ⟨rfl, rfl⟩ := hp
  refine ⟨rfl, ?_⟩
  refine sw_ws (ws' := wLy g A n ce co (cdF pf ng b i) li cm ++ wKr g a z o r l0 fr en (kStep (some (dgt l0 fr en)) S 4 (gbit (co i) b))) rfl ?_
  refine sw_iload_n (pc := 35) C d_Ly_codePlaneBit_35 rfl rfl ?_
  refine sw_ishl (pc := 36) C d_Ly_codePlaneBit_36 ?_
  refine sw_topi (z := nI ((kBit (some (dgt l0 fr en)) S 4 (gbit (co i) b)) * 2 ^ b)) (shl_nI (by omega) (by omega)) ?_
  refine sw_istore (pc := 37) C d_Ly_codePlaneBit_37 (by decide) rfl ?_
  refine sw_aload_n (pc := 39) C d_Ly_codePlaneBit_39 rfl rfl ?_
  refine sw_get (pc := 40) C inLy 0 rfl rfl 3 (by decide) t_143 rfl rfl d_Ly_codePlaneBit_40 ?_
  refine sw_iload_n (pc := 43) C d_Ly_codePlaneBit_43 rfl rfl ?_
  refine sw_dup2 (pc := 44) C d_Ly_codePlaneBit_44 rfl rfl ?_
  refine sw_ialdN (pc := 45) C 3 i rfl rfl (by omega) (by omega) d_Ly_codePlaneBit_45 ?_
  refine sw_aload_n (pc := 46) C d_Ly_codePlaneBit_46 rfl rfl ?_
  refine sw_get (pc := 47) C inLy 0 rfl rfl 3 (by decide) t_143 rfl rfl d_Ly_codePlaneBit_47 ?_
  refine sw_iload_n (pc := 50) C d_Ly_codePlaneBit_50 rfl rfl ?_
  refine sw_ialdN (pc := 51) C 3 i rfl rfl (by omega) (by omega) d_Ly_codePlaneBit_51 ?_
  refine sw_if_ge (pc := 52) C 61 d_Ly_codePlaneBit_52 (by decide) (fun h6 => ?_) (fun h6 => ?_)
  · skip
    have hgf : ng i = false := (cdV_pos hpi h0).mp (hc0 ▸ h6)
    have hx : cdF pf ng b i i + nI ((kBit (some (dgt l0 fr en)) S 4 (gbit (co i) b)) * 2 ^ b) = cdV (upN pf i (2 * pf i + (kBit (some (dgt l0 fr en)) S 4 (gbit (co i) b)))) ng b i := by
      rw [hc0]
      unfold cdV
      rw [hgf, upN_at, show (2 * pf i + (kBit (some (dgt l0 fr en)) S 4 (gbit (co i) b))) * 2 ^ b = pf i * 2 ^ (b + 1) + (kBit (some (dgt l0 fr en)) S 4 (gbit (co i) b)) * 2 ^ b by rw [Nat.pow_succ, Nat.add_mul, Nat.mul_comm 2, Nat.mul_assoc, Nat.mul_comm 2]]
      simp only [Bool.false_eq_true, if_false]
      rw [nI_add]
    refine sw_iload (pc := 61) C d_Ly_codePlaneBit_61 rfl ?_
    refine sw_iadd (pc := 63) C d_Ly_codePlaneBit_63 ?_
    refine sw_iastN (pc := 64) C 3 i rfl rfl (by omega) (by omega) d_Ly_codePlaneBit_64 ?_
    refine sw_ws (ws' := wLy g A n ce co (cdF (upN pf i (2 * pf i + (kBit (some (dgt l0 fr en)) S 4 (gbit (co i) b)))) ng b (i + 1)) li cm ++ wKr g a z o r l0 fr en (kStep (some (dgt l0 fr en)) S 4 (gbit (co i) b))) (by rw [← cdF_up (pf := pf) (pf' := (upN pf i (2 * pf i + (kBit (some (dgt l0 fr en)) S 4 (gbit (co i) b))))) (ng := ng) (ng' := ng) (b := b) (i := i) (x := cdF pf ng b i i + nI ((kBit (some (dgt l0 fr en)) S 4 (gbit (co i) b)) * 2 ^ b)) (fun k hk => ⟨upN_ne hk, rfl⟩) hx]; rfl) ?_
    refine sw_goto (pc := 65) C 130 d_Ly_codePlaneBit_65 (by decide) ?_
    exact sw_vret (pc := 130) C E rfl (Nat.le_of_ble_eq_true rfl) (Nat.le_of_ble_eq_true rfl) d_Ly_codePlaneBit_130 ⟨rfl, by rw [hs]⟩
  have hgt : ng i = true := by
    cases e : ng i with
    | true => rfl
    | false => exact absurd ((cdV_pos hpi h0).mpr e) (hc0 ▸ h6)
  have hx : cdF pf ng b i i + (-(nI ((kBit (some (dgt l0 fr en)) S 4 (gbit (co i) b)) * 2 ^ b))) = cdV (upN pf i (2 * pf i + (kBit (some (dgt l0 fr en)) S 4 (gbit (co i) b)))) ng b i := by
    rw [hc0]
    unfold cdV
    rw [hgt, upN_at, show (2 * pf i + (kBit (some (dgt l0 fr en)) S 4 (gbit (co i) b))) * 2 ^ b = pf i * 2 ^ (b + 1) + (kBit (some (dgt l0 fr en)) S 4 (gbit (co i) b)) * 2 ^ b by rw [Nat.pow_succ, Nat.add_mul, Nat.mul_comm 2, Nat.mul_assoc, Nat.mul_comm 2]]
    simp only [if_true]
    rw [← nI_add, Int32.neg_add, Int32.sub_eq_add_neg]
  refine sw_iload (pc := 55) C d_Ly_codePlaneBit_55 rfl ?_
  refine sw_ineg (pc := 57) C d_Ly_codePlaneBit_57 ?_
  refine sw_goto (pc := 58) C 63 d_Ly_codePlaneBit_58 (by decide) ?_
  refine sw_iadd (pc := 63) C d_Ly_codePlaneBit_63 ?_
  refine sw_iastN (pc := 64) C 3 i rfl rfl (by omega) (by omega) d_Ly_codePlaneBit_64 ?_
  refine sw_ws (ws' := wLy g A n ce co (cdF (upN pf i (2 * pf i + (kBit (some (dgt l0 fr en)) S 4 (gbit (co i) b)))) ng b (i + 1)) li cm ++ wKr g a z o r l0 fr en (kStep (some (dgt l0 fr en)) S 4 (gbit (co i) b))) (by rw [← cdF_up (pf := pf) (pf' := (upN pf i (2 * pf i + (kBit (some (dgt l0 fr en)) S 4 (gbit (co i) b))))) (ng := ng) (ng' := ng) (b := b) (i := i) (x := cdF pf ng b i i + (-(nI ((kBit (some (dgt l0 fr en)) S 4 (gbit (co i) b)) * 2 ^ b)))) (fun k hk => ⟨upN_ne hk, rfl⟩) hx]; rfl) ?_
  refine sw_goto (pc := 65) C 130 d_Ly_codePlaneBit_65 (by decide) ?_
  exact sw_vret (pc := 130) C E rfl (Nat.le_of_ble_eq_true rfl) (Nat.le_of_ble_eq_true rfl) d_Ly_codePlaneBit_130 ⟨rfl, by rw [hs]⟩
