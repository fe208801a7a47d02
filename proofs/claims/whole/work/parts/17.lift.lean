/-! LayeredPage$Layer: lifting -/
theorem lnU_up {fr st m t : Nat} {f F : Nat → Int32} {v : Int32} (hs : 0 < st) (ht : t < m) : upd (lnU fr st m f F) (fr + t * st) v = lnU fr st m f (fun j => if j = t then v else F j) := by
  funext k
  unfold upd
  by_cases e : k = fr + t * st
  · rw [if_pos e, e, lnU_at hs ht, if_pos rfl]
  · rw [if_neg e]
    unfold lnU
    by_cases h : fr ≤ k ∧ (k - fr) % st = 0 ∧ (k - fr) / st < m
    · rw [if_pos h, if_pos h]
      dsimp only
      rw [if_neg]
      intro q
      apply e
      have h2 := Nat.div_add_mod (k - fr) st
      rw [q, h.2.1, Nat.mul_comm] at h2
      omega
    · rw [if_neg h, if_neg h]
theorem lnU_congr {fr st m : Nat} {f F F' : Nat → Int32} (h : ∀ t, t < m → F t = F' t) : lnU fr st m f F = lnU fr st m f F' := by
  funext k
  unfold lnU
  by_cases e : fr ≤ k ∧ (k - fr) % st = 0 ∧ (k - fr) / st < m
  · rw [if_pos e, if_pos e, h _ e.2.2]
  · rw [if_neg e, if_neg e]
theorem lnU_self {fr st m : Nat} {f : Nat → Int32} : lnU fr st m f (fun t => f (fr + t * st)) = f := by
  funext k
  unfold lnU
  by_cases e : fr ≤ k ∧ (k - fr) % st = 0 ∧ (k - fr) / st < m
  · rw [if_pos e]
    have h2 := Nat.div_add_mod (k - fr) st
    rw [e.2.1, Nat.mul_comm] at h2
    dsimp only
    congr 1
    omega
  · rw [if_neg e]
def lfM (x f : Nat → Int32) (m i : Nat) : Nat → Int32 := fun t => if t < i then lfS x m t else if m / 2 ≤ t ∧ t < m / 2 + i then lfD x m (t - m / 2) else f t
theorem lfM_step {x f : Nat → Int32} {m i : Nat} (hi : i < m / 2) (t : Nat) : (if t = m / 2 + i then lfD x m i else if t = i then lfS x m i else lfM x f m i t) = lfM x f m (i + 1) t := by
  unfold lfM
  by_cases h1 : t = m / 2 + i
  · rw [if_pos h1, if_neg (by omega), if_pos (by omega), show t - m / 2 = i by omega]
  · rw [if_neg h1]
    by_cases h2 : t = i
    · rw [if_pos h2, if_pos (by omega), h2]
    · rw [if_neg h2]
      by_cases h3 : t < i
      · rw [if_pos h3, if_pos (by omega)]
      · rw [if_neg h3, if_neg (show ¬ t < i + 1 by omega)]
        by_cases h4 : m / 2 ≤ t ∧ t < m / 2 + i
        · rw [if_pos h4, if_pos (show m / 2 ≤ t ∧ t < m / 2 + (i + 1) by omega)]
        · rw [if_neg h4, if_neg (show ¬ (m / 2 ≤ t ∧ t < m / 2 + (i + 1)) by omega)]
theorem lfM_end {x f : Nat → Int32} {m : Nat} (hm : m % 2 = 0) (t : Nat) (ht : t < m) : lfM x f m (m / 2) t = lfR m x t := by
  unfold lfM lfR
  by_cases h : t < m / 2
  · rw [if_pos h, if_pos h]
  · rw [if_neg h, if_neg h, if_pos (by omega), if_pos ht]
set_option maxRecDepth 100000 in
set_option maxHeartbeats 4000000 in
theorem c_liftLine (l : Launch) (g : Gl) (A : Nat → Nat) (n : Nat) (ce co cd li : Nat → Int32) (cm : Bool) (hn : n = 4 ∨ n = 8) (fr st m : Nat) (hm : m % 2 = 0) (hm2 : 2 ≤ m) (hmn : m ≤ n) (hst : 0 < st) (hst8 : st ≤ 8) (hfr : fr < 64) (hln : ∀ i, i < m → fr + i * st < n * n) : Ct l g y_Ly_liftLine b_Ly_liftLine 9 none (rmD 0) [.ref (A 0), .int (nI fr), .int (nI st), .int (nI m)] (wLy g A n ce co cd li cm) (fun u w => u = none ∧ ∃ li2, w = wLy g A n ce (lnU fr st m co (lfR m (fun i => co (fr + i * st)))) cd li2 cm) := by
  refine ct_of [some (.ref (A 0)), some (.int (nI fr)), some (.int (nI st)), some (.int (nI m)), none, none, none, none, none] (by decide) (Nat.le_of_ble_eq_true rfl) rfl ?_
  intro X C E
  obtain ⟨hnn, hn4, hn8⟩ := nn_le hn
  refine sw_iload_n (pc := 0) C d_Ly_liftLine_0 rfl rfl ?_
  refine sw_iconst (pc := 1) C (nI 2) d_Ly_liftLine_1 (by decide) ?_
  refine sw_idiv (pc := 2) C d_Ly_liftLine_2 (by decide) ?_
  refine sw_topi (z := nI (m / 2)) (pk_div (by omega) (by omega) (by omega)) ?_
  refine sw_istore (pc := 3) C d_Ly_liftLine_3 (by decide) rfl ?_
  refine sw_iconst (pc := 5) C (nI 0) d_Ly_liftLine_5 (by decide) ?_
  refine sw_istore (pc := 6) C d_Ly_liftLine_6 (by decide) rfl ?_
  have cpy : ∀ (d i : Nat) (li : Nat → Int32), i + d = m → (∀ j, j < i → li j = co (fr + j * st)) → (∀ li2 : Nat → Int32, (∀ j, j < m → li2 j = co (fr + j * st)) → SW X g 9 0 0 (wLy g A n ce co cd li2 cm) 38 [some (.ref (A 0)), some (.int (nI fr)), some (.int (nI st)), some (.int (nI m)), some (.int (nI (m / 2))), some (.int (nI m)), none, none, none] []) → SW X g 9 0 0 (wLy g A n ce co cd li cm) 8 [some (.ref (A 0)), some (.int (nI fr)), some (.int (nI st)), some (.int (nI m)), some (.int (nI (m / 2))), some (.int (nI i)), none, none, none] [] := by
    intro d
    induction d with
    | zero =>
      intro i li hi hli kk
      refine sw_iload (pc := 8) C d_Ly_liftLine_8 rfl ?_
      refine sw_iload_n (pc := 10) C d_Ly_liftLine_10 rfl rfl ?_
      refine sw_icmp_geN (pc := 11) C 38 (by omega) (by omega) d_Ly_liftLine_11 (by decide) (fun h1 => ?_) (fun h1 => ?_)
      · skip
        have ei : i = m := by omega
        subst ei
        exact kk li hli
      omega
    | succ d ih =>
      intro i li hi hli kk
      refine sw_iload (pc := 8) C d_Ly_liftLine_8 rfl ?_
      refine sw_iload_n (pc := 10) C d_Ly_liftLine_10 rfl rfl ?_
      refine sw_icmp_geN (pc := 11) C 38 (by omega) (by omega) d_Ly_liftLine_11 (by decide) (fun h1 => ?_) (fun h1 => ?_)
      · skip
        omega
      have hb := hln i h1
      refine sw_aload_n (pc := 14) C d_Ly_liftLine_14 rfl rfl ?_
      refine sw_get (pc := 15) C inLy 0 rfl rfl 4 (by decide) t_144 rfl rfl d_Ly_liftLine_15 ?_
      refine sw_iload (pc := 18) C d_Ly_liftLine_18 rfl ?_
      refine sw_aload_n (pc := 20) C d_Ly_liftLine_20 rfl rfl ?_
      refine sw_get (pc := 21) C inLy 0 rfl rfl 2 (by decide) t_142 rfl rfl d_Ly_liftLine_21 ?_
      refine sw_iload_n (pc := 24) C d_Ly_liftLine_24 rfl rfl ?_
      refine sw_iload (pc := 25) C d_Ly_liftLine_25 rfl ?_
      refine sw_iload_n (pc := 27) C d_Ly_liftLine_27 rfl rfl ?_
      refine sw_imul (pc := 28) C d_Ly_liftLine_28 ?_
      refine sw_topi (z := nI (i * st)) (pk_mul _ _) ?_
      refine sw_iadd (pc := 29) C d_Ly_liftLine_29 ?_
      refine sw_topi (z := nI (fr + (i * st))) (nI_add _ _) ?_
      refine sw_ialdN (pc := 30) C 2 (fr + (i * st)) rfl rfl (by omega) (by omega) d_Ly_liftLine_30 ?_
      refine sw_iastN (pc := 31) C 4 i rfl rfl (by omega) (by omega) d_Ly_liftLine_31 ?_
      refine sw_iincN (pc := 32) C 1 d_Ly_liftLine_32 rfl (by decide) (by decide) rfl ?_
      refine sw_goto (pc := 35) C 8 d_Ly_liftLine_35 (by decide) ?_
      refine ih (i + 1) (upd li i (co (fr + i * st))) (by omega) (fun j hj => ?_) kk
      unfold upd
      by_cases e : j = i
      · rw [if_pos e, e]
      · rw [if_neg e]; exact hli j (by omega)
  refine cpy m 0 li (by omega) (fun j hj => by omega) (fun li2 hli => ?_)
  refine sw_iconst (pc := 38) C (nI 0) d_Ly_liftLine_38 (by decide) ?_
  refine sw_istore (pc := 39) C d_Ly_liftLine_39 (by decide) rfl ?_
  refine sw_iconst (pc := 41) C (nI 0) d_Ly_liftLine_41 (by decide) ?_
  refine sw_istore (pc := 42) C d_Ly_liftLine_42 (by decide) rfl ?_
  have key : ∀ (d i : Nat) (bf : Int32), i + d = m / 2 → (0 < i → bf = lfD li2 m (i - 1)) → SW X g 9 0 0 (wLy g A n ce (lnU fr st m co (lfM li2 (fun t => co (fr + t * st)) m i)) cd li2 cm) 44 [some (.ref (A 0)), some (.int (nI fr)), some (.int (nI st)), some (.int (nI m)), some (.int (nI (m / 2))), some (.int bf), some (.int (nI i)), none, none] [] := by
    intro d
    induction d with
    | zero =>
      intro i bf hi hbf
      refine sw_iload (pc := 44) C d_Ly_liftLine_44 rfl ?_
      refine sw_iload (pc := 46) C d_Ly_liftLine_46 rfl ?_
      refine sw_icmp_geN (pc := 48) C 173 (by omega) (by omega) d_Ly_liftLine_48 (by decide) (fun h1 => ?_) (fun h1 => ?_)
      · skip
        have ei : i = m / 2 := by omega
        subst ei
        have ef : lnU fr st m co (lfM li2 (fun t => co (fr + t * st)) m (m / 2)) = lnU fr st m co (lfR m (fun i => co (fr + i * st))) := lnU_congr (fun t ht => (lfM_end hm t ht).trans ((lfR_keeps hm hm2).2 li2 _ t hli ht))
        exact sw_vret (pc := 173) C E rfl (Nat.le_of_ble_eq_true rfl) (Nat.le_of_ble_eq_true rfl) d_Ly_liftLine_173 ⟨rfl, li2, by rw [ef]⟩
      omega
    | succ d ih =>
      intro i bf hi hbf
      refine sw_iload (pc := 44) C d_Ly_liftLine_44 rfl ?_
      refine sw_iload (pc := 46) C d_Ly_liftLine_46 rfl ?_
      refine sw_icmp_geN (pc := 48) C 173 (by omega) (by omega) d_Ly_liftLine_48 (by decide) (fun h1 => ?_) (fun h1 => ?_)
      · skip
        omega
      have t117 : ∀ nx : Int32, SW X g 9 0 0 (wLy g A n ce (lnU fr st m co (lfM li2 (fun t => co (fr + t * st)) m i)) cd li2 cm) 117 [some (.ref (A 0)), some (.int (nI fr)), some (.int (nI st)), some (.int (nI m)), some (.int (nI (m / 2))), some (.int (lfD li2 m (i - 1))), some (.int (nI i)), some (.int nx), some (.int (lfD li2 m i))] [] := by
        intro nx
        have hb1 := hln i (by omega)
        have hb2 := hln (m / 2 + i) (by omega)
        refine sw_aload_n (pc := 117) C d_Ly_liftLine_117 rfl rfl ?_
        refine sw_get (pc := 118) C inLy 0 rfl rfl 2 (by decide) t_142 rfl rfl d_Ly_liftLine_118 ?_
        refine sw_iload_n (pc := 121) C d_Ly_liftLine_121 rfl rfl ?_
        refine sw_iload (pc := 122) C d_Ly_liftLine_122 rfl ?_
        refine sw_iload_n (pc := 124) C d_Ly_liftLine_124 rfl rfl ?_
        refine sw_imul (pc := 125) C d_Ly_liftLine_125 ?_
        refine sw_topi (z := nI (i * st)) (pk_mul _ _) ?_
        refine sw_iadd (pc := 126) C d_Ly_liftLine_126 ?_
        refine sw_topi (z := nI (fr + (i * st))) (nI_add _ _) ?_
        refine sw_aload_n (pc := 127) C d_Ly_liftLine_127 rfl rfl ?_
        refine sw_get (pc := 128) C inLy 0 rfl rfl 4 (by decide) t_144 rfl rfl d_Ly_liftLine_128 ?_
        refine sw_iconst (pc := 131) C (nI 2) d_Ly_liftLine_131 (by decide) ?_
        refine sw_iload (pc := 132) C d_Ly_liftLine_132 rfl ?_
        refine sw_imul (pc := 134) C d_Ly_liftLine_134 ?_
        refine sw_topi (z := nI (2 * i)) (pk_mul _ _) ?_
        refine sw_ialdN (pc := 135) C 4 (2 * i) rfl rfl (by omega) (by omega) d_Ly_liftLine_135 ?_
        refine sw_iload (pc := 136) C d_Ly_liftLine_136 rfl ?_
        refine sw_iload (pc := 138) C d_Ly_liftLine_138 rfl ?_
        refine sw_iadd (pc := 140) C d_Ly_liftLine_140 ?_
        refine sw_iconst (pc := 141) C (nI 2) d_Ly_liftLine_141 (by decide) ?_
        refine sw_iadd (pc := 142) C d_Ly_liftLine_142 ?_
        refine sw_iconst (pc := 143) C (nI 2) d_Ly_liftLine_143 (by decide) ?_
        refine sw_ishr (pc := 144) C d_Ly_liftLine_144 ?_
        refine sw_iadd (pc := 145) C d_Ly_liftLine_145 ?_
        refine sw_topi (z := lfS li2 m i) rfl ?_
        refine sw_iastN (pc := 146) C 2 (fr + (i * st)) rfl rfl (by omega) (by omega) d_Ly_liftLine_146 ?_
        refine sw_aload_n (pc := 147) C d_Ly_liftLine_147 rfl rfl ?_
        refine sw_get (pc := 148) C inLy 0 rfl rfl 2 (by decide) t_142 rfl rfl d_Ly_liftLine_148 ?_
        refine sw_iload_n (pc := 151) C d_Ly_liftLine_151 rfl rfl ?_
        refine sw_iload (pc := 152) C d_Ly_liftLine_152 rfl ?_
        refine sw_iload (pc := 154) C d_Ly_liftLine_154 rfl ?_
        refine sw_iadd (pc := 156) C d_Ly_liftLine_156 ?_
        refine sw_topi (z := nI ((m / 2) + i)) (nI_add _ _) ?_
        refine sw_iload_n (pc := 157) C d_Ly_liftLine_157 rfl rfl ?_
        refine sw_imul (pc := 158) C d_Ly_liftLine_158 ?_
        refine sw_topi (z := nI (((m / 2) + i) * st)) (pk_mul _ _) ?_
        refine sw_iadd (pc := 159) C d_Ly_liftLine_159 ?_
        refine sw_topi (z := nI (fr + (((m / 2) + i) * st))) (nI_add _ _) ?_
        refine sw_iload (pc := 160) C d_Ly_liftLine_160 rfl ?_
        refine sw_iastN (pc := 162) C 2 (fr + (((m / 2) + i) * st)) rfl rfl (by omega) (by omega) d_Ly_liftLine_162 ?_
        refine sw_ws (ws' := wLy g A n ce (lnU fr st m co (lfM li2 (fun t => co (fr + t * st)) m (i + 1))) cd li2 cm) (by rw [← lnU_congr (F := fun t => if t = m / 2 + i then lfD li2 m i else if t = i then lfS li2 m i else lfM li2 (fun t => co (fr + t * st)) m i t) (fun t _ => lfM_step h1 t), ← lnU_up hst (show m / 2 + i < m by omega), ← lnU_up hst (show i < m by omega)]; rfl) ?_
        refine sw_iload (pc := 163) C d_Ly_liftLine_163 rfl ?_
        refine sw_istore (pc := 165) C d_Ly_liftLine_165 (by decide) rfl ?_
        refine sw_iincN (pc := 167) C 1 d_Ly_liftLine_167 rfl (by decide) (by decide) rfl ?_
        refine sw_goto (pc := 170) C 44 d_Ly_liftLine_170 (by decide) ?_
        refine sw_drop 7 ?_
        refine sw_drop 8 ?_
        exact ih (i + 1) (lfD li2 m i) (by omega) (fun _ => by rw [show i + 1 - 1 = i by omega])
      have t77 : ∀ q : Nat, q = (if 2 * i + 2 < m then 2 * i + 2 else m - 2) → SW X g 9 0 0 (wLy g A n ce (lnU fr st m co (lfM li2 (fun t => co (fr + t * st)) m i)) cd li2 cm) 77 [some (.ref (A 0)), some (.int (nI fr)), some (.int (nI st)), some (.int (nI m)), some (.int (nI (m / 2))), some (.int bf), some (.int (nI i)), none, none] [.int (nI q), .ref (A 4)] := by
        intro q hq
        have hqm : q < m := by rw [hq]; split <;> omega
        refine sw_ialdN (pc := 77) C 4 q rfl rfl (by omega) (by omega) d_Ly_liftLine_77 ?_
        refine sw_istore (pc := 78) C d_Ly_liftLine_78 (by decide) rfl ?_
        refine sw_aload_n (pc := 80) C d_Ly_liftLine_80 rfl rfl ?_
        refine sw_get (pc := 81) C inLy 0 rfl rfl 4 (by decide) t_144 rfl rfl d_Ly_liftLine_81 ?_
        refine sw_iconst (pc := 84) C (nI 2) d_Ly_liftLine_84 (by decide) ?_
        refine sw_iload (pc := 85) C d_Ly_liftLine_85 rfl ?_
        refine sw_imul (pc := 87) C d_Ly_liftLine_87 ?_
        refine sw_topi (z := nI (2 * i)) (pk_mul _ _) ?_
        refine sw_iconst (pc := 88) C (nI 1) d_Ly_liftLine_88 (by decide) ?_
        refine sw_iadd (pc := 89) C d_Ly_liftLine_89 ?_
        refine sw_topi (z := nI ((2 * i) + 1)) (nI_add _ _) ?_
        refine sw_ialdN (pc := 90) C 4 ((2 * i) + 1) rfl rfl (by omega) (by omega) d_Ly_liftLine_90 ?_
        refine sw_aload_n (pc := 91) C d_Ly_liftLine_91 rfl rfl ?_
        refine sw_get (pc := 92) C inLy 0 rfl rfl 4 (by decide) t_144 rfl rfl d_Ly_liftLine_92 ?_
        refine sw_iconst (pc := 95) C (nI 2) d_Ly_liftLine_95 (by decide) ?_
        refine sw_iload (pc := 96) C d_Ly_liftLine_96 rfl ?_
        refine sw_imul (pc := 98) C d_Ly_liftLine_98 ?_
        refine sw_topi (z := nI (2 * i)) (pk_mul _ _) ?_
        refine sw_ialdN (pc := 99) C 4 (2 * i) rfl rfl (by omega) (by omega) d_Ly_liftLine_99 ?_
        refine sw_iload (pc := 100) C d_Ly_liftLine_100 rfl ?_
        refine sw_iadd (pc := 102) C d_Ly_liftLine_102 ?_
        refine sw_iconst (pc := 103) C (nI 1) d_Ly_liftLine_103 (by decide) ?_
        refine sw_ishr (pc := 104) C d_Ly_liftLine_104 ?_
        refine sw_isub (pc := 105) C d_Ly_liftLine_105 ?_
        refine sw_topi (z := lfD li2 m i) (by unfold lfD; rw [← hq]) ?_
        refine sw_istore (pc := 106) C d_Ly_liftLine_106 (by decide) rfl ?_
        refine sw_iload (pc := 108) C d_Ly_liftLine_108 rfl ?_
        refine sw_if_neN (pc := 110) C 117 (by omega) d_Ly_liftLine_110 (by decide) (fun h3 => ?_) (fun h3 => ?_)
        · skip
          rw [hbf h3]
          exact t117 _
        refine sw_iload (pc := 113) C d_Ly_liftLine_113 rfl ?_
        refine sw_istore (pc := 115) C d_Ly_liftLine_115 (by decide) rfl ?_
        subst h3
        exact t117 _
      refine sw_aload_n (pc := 51) C d_Ly_liftLine_51 rfl rfl ?_
      refine sw_get (pc := 52) C inLy 0 rfl rfl 4 (by decide) t_144 rfl rfl d_Ly_liftLine_52 ?_
      refine sw_iconst (pc := 55) C (nI 2) d_Ly_liftLine_55 (by decide) ?_
      refine sw_iload (pc := 56) C d_Ly_liftLine_56 rfl ?_
      refine sw_imul (pc := 58) C d_Ly_liftLine_58 ?_
      refine sw_topi (z := nI (2 * i)) (pk_mul _ _) ?_
      refine sw_iconst (pc := 59) C (nI 2) d_Ly_liftLine_59 (by decide) ?_
      refine sw_iadd (pc := 60) C d_Ly_liftLine_60 ?_
      refine sw_topi (z := nI ((2 * i) + 2)) (nI_add _ _) ?_
      refine sw_iload_n (pc := 61) C d_Ly_liftLine_61 rfl rfl ?_
      refine sw_icmp_geN (pc := 62) C 74 (by omega) (by omega) d_Ly_liftLine_62 (by decide) (fun h4 => ?_) (fun h4 => ?_)
      · skip
        refine sw_iload_n (pc := 74) C d_Ly_liftLine_74 rfl rfl ?_
        refine sw_iconst (pc := 75) C (nI 2) d_Ly_liftLine_75 (by decide) ?_
        refine sw_isub (pc := 76) C d_Ly_liftLine_76 ?_
        refine sw_topi (z := nI (m - 2)) (pk_sub (by omega)) ?_
        exact t77 _ (by rw [if_neg (by omega)])
      refine sw_iconst (pc := 65) C (nI 2) d_Ly_liftLine_65 (by decide) ?_
      refine sw_iload (pc := 66) C d_Ly_liftLine_66 rfl ?_
      refine sw_imul (pc := 68) C d_Ly_liftLine_68 ?_
      refine sw_topi (z := nI (2 * i)) (pk_mul _ _) ?_
      refine sw_iconst (pc := 69) C (nI 2) d_Ly_liftLine_69 (by decide) ?_
      refine sw_iadd (pc := 70) C d_Ly_liftLine_70 ?_
      refine sw_topi (z := nI ((2 * i) + 2)) (nI_add _ _) ?_
      refine sw_goto (pc := 71) C 77 d_Ly_liftLine_71 (by decide) ?_
      exact t77 _ (by rw [if_pos h4])
  have k0 := key (m / 2) 0 (nI 0) (by omega) (fun h => by omega)
  have e0 : lnU fr st m co (lfM li2 (fun t => co (fr + t * st)) m 0) = co := by
    refine lnU_congr (fun t _ => ?_) |>.trans lnU_self
    unfold lfM
    rw [if_neg (by omega), if_neg (by omega)]
  rw [e0] at k0
  exact k0
def drM1 (x f : Nat → Int32) (m i : Nat) : Nat → Int32 := fun t => if t % 2 = 0 ∧ t / 2 < i then drE x m (t / 2) else f t
def drM2 (x f : Nat → Int32) (m i : Nat) : Nat → Int32 := fun t => if t % 2 = 0 then drE x m (t / 2) else if t / 2 < i then drO x m (t / 2) else f t
theorem drM1_step {x f : Nat → Int32} {m i : Nat} (t : Nat) : (if t = 2 * i then drE x m i else drM1 x f m i t) = drM1 x f m (i + 1) t := by
  unfold drM1
  by_cases h : t = 2 * i
  · rw [if_pos h, if_pos (by omega), show t / 2 = i by omega]
  · rw [if_neg h]
    by_cases h2 : t % 2 = 0 ∧ t / 2 < i
    · rw [if_pos h2, if_pos (show t % 2 = 0 ∧ t / 2 < i + 1 by omega)]
    · rw [if_neg h2, if_neg (show ¬ (t % 2 = 0 ∧ t / 2 < i + 1) by omega)]
theorem drM2_step {x f : Nat → Int32} {m i : Nat} (t : Nat) : (if t = 2 * i + 1 then drO x m i else drM2 x f m i t) = drM2 x f m (i + 1) t := by
  unfold drM2
  by_cases h : t = 2 * i + 1
  · rw [if_pos h, if_neg (by omega), if_pos (by omega), show t / 2 = i by omega]
  · rw [if_neg h]
    by_cases h2 : t % 2 = 0
    · rw [if_pos h2, if_pos h2]
    · rw [if_neg h2, if_neg h2]
      by_cases h3 : t / 2 < i
      · rw [if_pos h3, if_pos (show t / 2 < i + 1 by omega)]
      · rw [if_neg h3, if_neg (show ¬ t / 2 < i + 1 by omega)]
theorem drM12 {x f : Nat → Int32} {m : Nat} (hm : m % 2 = 0) (t : Nat) (ht : t < m) : drM1 x f m (m / 2) t = drM2 x f m 0 t := by
  unfold drM1 drM2
  by_cases h : t % 2 = 0
  · rw [if_pos (by omega), if_pos h]
  · rw [if_neg (fun q => h q.1), if_neg h, if_neg (by omega)]
theorem drM_end {x f : Nat → Int32} {m : Nat} (hm : m % 2 = 0) (t : Nat) (ht : t < m) : drM2 x f m (m / 2) t = drR m x t := by
  unfold drM2 drR
  rw [if_pos ht]
  by_cases h : t % 2 = 0
  · rw [if_pos h, if_pos h]
  · rw [if_neg h, if_neg h, if_pos (by omega)]
set_option maxRecDepth 100000 in
set_option maxHeartbeats 4000000 in
theorem c_undoLine (l : Launch) (g : Gl) (A : Nat → Nat) (n : Nat) (ce co cd li : Nat → Int32) (cm : Bool) (hn : n = 4 ∨ n = 8) (fr st m : Nat) (hm : m % 2 = 0) (hm2 : 2 ≤ m) (hmn : m ≤ n) (hst : 0 < st) (hst8 : st ≤ 8) (hfr : fr < 64) (hln : ∀ i, i < m → fr + i * st < n * n) : Ct l g y_Ly_undoLine b_Ly_undoLine 8 none (rmD 0) [.ref (A 0), .int (nI fr), .int (nI st), .int (nI m)] (wLy g A n ce co cd li cm) (fun u w => u = none ∧ ∃ li2, w = wLy g A n (lnU fr st m ce (drR m (fun i => ce (fr + i * st)))) co cd li2 cm) := by
  refine ct_of [some (.ref (A 0)), some (.int (nI fr)), some (.int (nI st)), some (.int (nI m)), none, none, none, none] (by decide) (Nat.le_of_ble_eq_true rfl) rfl ?_
  intro X C E
  obtain ⟨hnn, hn4, hn8⟩ := nn_le hn
  refine sw_iload_n (pc := 0) C d_Ly_undoLine_0 rfl rfl ?_
  refine sw_iconst (pc := 1) C (nI 2) d_Ly_undoLine_1 (by decide) ?_
  refine sw_idiv (pc := 2) C d_Ly_undoLine_2 (by decide) ?_
  refine sw_topi (z := nI (m / 2)) (pk_div (by omega) (by omega) (by omega)) ?_
  refine sw_istore (pc := 3) C d_Ly_undoLine_3 (by decide) rfl ?_
  refine sw_iconst (pc := 5) C (nI 0) d_Ly_undoLine_5 (by decide) ?_
  refine sw_istore (pc := 6) C d_Ly_undoLine_6 (by decide) rfl ?_
  have cpy : ∀ (d i : Nat) (li : Nat → Int32), i + d = m → (∀ j, j < i → li j = ce (fr + j * st)) → (∀ li2 : Nat → Int32, (∀ j, j < m → li2 j = ce (fr + j * st)) → SW X g 8 0 0 (wLy g A n ce co cd li2 cm) 38 [some (.ref (A 0)), some (.int (nI fr)), some (.int (nI st)), some (.int (nI m)), some (.int (nI (m / 2))), some (.int (nI m)), none, none] []) → SW X g 8 0 0 (wLy g A n ce co cd li cm) 8 [some (.ref (A 0)), some (.int (nI fr)), some (.int (nI st)), some (.int (nI m)), some (.int (nI (m / 2))), some (.int (nI i)), none, none] [] := by
    intro d
    induction d with
    | zero =>
      intro i li hi hli kk
      refine sw_iload (pc := 8) C d_Ly_undoLine_8 rfl ?_
      refine sw_iload_n (pc := 10) C d_Ly_undoLine_10 rfl rfl ?_
      refine sw_icmp_geN (pc := 11) C 38 (by omega) (by omega) d_Ly_undoLine_11 (by decide) (fun h1 => ?_) (fun h1 => ?_)
      · skip
        have ei : i = m := by omega
        subst ei
        exact kk li hli
      omega
    | succ d ih =>
      intro i li hi hli kk
      refine sw_iload (pc := 8) C d_Ly_undoLine_8 rfl ?_
      refine sw_iload_n (pc := 10) C d_Ly_undoLine_10 rfl rfl ?_
      refine sw_icmp_geN (pc := 11) C 38 (by omega) (by omega) d_Ly_undoLine_11 (by decide) (fun h1 => ?_) (fun h1 => ?_)
      · skip
        omega
      have hb := hln i h1
      refine sw_aload_n (pc := 14) C d_Ly_undoLine_14 rfl rfl ?_
      refine sw_get (pc := 15) C inLy 0 rfl rfl 4 (by decide) t_144 rfl rfl d_Ly_undoLine_15 ?_
      refine sw_iload (pc := 18) C d_Ly_undoLine_18 rfl ?_
      refine sw_aload_n (pc := 20) C d_Ly_undoLine_20 rfl rfl ?_
      refine sw_get (pc := 21) C inLy 0 rfl rfl 1 (by decide) t_141 rfl rfl d_Ly_undoLine_21 ?_
      refine sw_iload_n (pc := 24) C d_Ly_undoLine_24 rfl rfl ?_
      refine sw_iload (pc := 25) C d_Ly_undoLine_25 rfl ?_
      refine sw_iload_n (pc := 27) C d_Ly_undoLine_27 rfl rfl ?_
      refine sw_imul (pc := 28) C d_Ly_undoLine_28 ?_
      refine sw_topi (z := nI (i * st)) (pk_mul _ _) ?_
      refine sw_iadd (pc := 29) C d_Ly_undoLine_29 ?_
      refine sw_topi (z := nI (fr + (i * st))) (nI_add _ _) ?_
      refine sw_ialdN (pc := 30) C 1 (fr + (i * st)) rfl rfl (by omega) (by omega) d_Ly_undoLine_30 ?_
      refine sw_iastN (pc := 31) C 4 i rfl rfl (by omega) (by omega) d_Ly_undoLine_31 ?_
      refine sw_iincN (pc := 32) C 1 d_Ly_undoLine_32 rfl (by decide) (by decide) rfl ?_
      refine sw_goto (pc := 35) C 8 d_Ly_undoLine_35 (by decide) ?_
      refine ih (i + 1) (upd li i (ce (fr + i * st))) (by omega) (fun j hj => ?_) kk
      unfold upd
      by_cases e : j = i
      · rw [if_pos e, e]
      · rw [if_neg e]; exact hli j (by omega)
  refine cpy m 0 li (by omega) (fun j hj => by omega) (fun li2 hli => ?_)
  refine sw_iconst (pc := 38) C (nI 0) d_Ly_undoLine_38 (by decide) ?_
  refine sw_istore (pc := 39) C d_Ly_undoLine_39 (by decide) rfl ?_
  have key2 : ∀ (d i : Nat), i + d = m / 2 → SW X g 8 0 0 (wLy g A n (lnU fr st m ce (drM2 li2 (fun t => ce (fr + t * st)) m i)) co cd li2 cm) 119 [some (.ref (A 0)), some (.int (nI fr)), some (.int (nI st)), some (.int (nI m)), some (.int (nI (m / 2))), some (.int (nI i)), none, none] [] := by
    intro d
    induction d with
    | zero =>
      intro i hi
      refine sw_iload (pc := 119) C d_Ly_undoLine_119 rfl ?_
      refine sw_iload (pc := 121) C d_Ly_undoLine_121 rfl ?_
      refine sw_icmp_geN (pc := 123) C 213 (by omega) (by omega) d_Ly_undoLine_123 (by decide) (fun h1 => ?_) (fun h1 => ?_)
      · skip
        have ei : i = m / 2 := by omega
        subst ei
        have ef : lnU fr st m ce (drM2 li2 (fun t => ce (fr + t * st)) m (m / 2)) = lnU fr st m ce (drR m (fun i => ce (fr + i * st))) := lnU_congr (fun t ht => (drM_end hm t ht).trans ((drR_keeps hm hm2).2 li2 _ t hli ht))
        exact sw_vret (pc := 213) C E rfl (Nat.le_of_ble_eq_true rfl) (Nat.le_of_ble_eq_true rfl) d_Ly_undoLine_213 ⟨rfl, li2, by rw [ef]⟩
      omega
    | succ d ih =>
      intro i hi
      refine sw_iload (pc := 119) C d_Ly_undoLine_119 rfl ?_
      refine sw_iload (pc := 121) C d_Ly_undoLine_121 rfl ?_
      refine sw_icmp_geN (pc := 123) C 213 (by omega) (by omega) d_Ly_undoLine_123 (by decide) (fun h1 => ?_) (fun h1 => ?_)
      · skip
        omega
      have hb1 := hln (2 * i) (by omega)
      have hb3 := hln (2 * i + 1) (by omega)
      have t168 : ∀ q : Nat, q < m → q % 2 = 0 → q / 2 = (if 2 * i + 2 < m then i + 1 else m / 2 - 1) → SW X g 8 0 0 (wLy g A n (lnU fr st m ce (drM2 li2 (fun t => ce (fr + t * st)) m i)) co cd li2 cm) 168 [some (.ref (A 0)), some (.int (nI fr)), some (.int (nI st)), some (.int (nI m)), some (.int (nI (m / 2))), some (.int (nI i)), some (.int (drE li2 m i)), none] [.int (nI q), .int (nI fr), .ref (A 1)] := by
        intro q hq hq2 hq3
        have hb2 := hln q hq
        refine sw_iload_n (pc := 168) C d_Ly_undoLine_168 rfl rfl ?_
        refine sw_imul (pc := 169) C d_Ly_undoLine_169 ?_
        refine sw_topi (z := nI (q * st)) (pk_mul _ _) ?_
        refine sw_iadd (pc := 170) C d_Ly_undoLine_170 ?_
        refine sw_topi (z := nI (fr + (q * st))) (nI_add _ _) ?_
        refine sw_ialdN (pc := 171) C 1 (fr + (q * st)) rfl rfl (by omega) (by omega) d_Ly_undoLine_171 ?_
        refine sw_topi (z := drE li2 m (if 2 * i + 2 < m then i + 1 else m / 2 - 1)) (by rw [lnU_at hst hq]; unfold drM2; rw [if_pos hq2, hq3]) ?_
        refine sw_istore (pc := 172) C d_Ly_undoLine_172 (by decide) rfl ?_
        refine sw_aload_n (pc := 174) C d_Ly_undoLine_174 rfl rfl ?_
        refine sw_get (pc := 175) C inLy 0 rfl rfl 1 (by decide) t_141 rfl rfl d_Ly_undoLine_175 ?_
        refine sw_iload_n (pc := 178) C d_Ly_undoLine_178 rfl rfl ?_
        refine sw_iconst (pc := 179) C (nI 2) d_Ly_undoLine_179 (by decide) ?_
        refine sw_iload (pc := 180) C d_Ly_undoLine_180 rfl ?_
        refine sw_imul (pc := 182) C d_Ly_undoLine_182 ?_
        refine sw_topi (z := nI (2 * i)) (pk_mul _ _) ?_
        refine sw_iconst (pc := 183) C (nI 1) d_Ly_undoLine_183 (by decide) ?_
        refine sw_iadd (pc := 184) C d_Ly_undoLine_184 ?_
        refine sw_topi (z := nI ((2 * i) + 1)) (nI_add _ _) ?_
        refine sw_iload_n (pc := 185) C d_Ly_undoLine_185 rfl rfl ?_
        refine sw_imul (pc := 186) C d_Ly_undoLine_186 ?_
        refine sw_topi (z := nI (((2 * i) + 1) * st)) (pk_mul _ _) ?_
        refine sw_iadd (pc := 187) C d_Ly_undoLine_187 ?_
        refine sw_topi (z := nI (fr + (((2 * i) + 1) * st))) (nI_add _ _) ?_
        refine sw_aload_n (pc := 188) C d_Ly_undoLine_188 rfl rfl ?_
        refine sw_get (pc := 189) C inLy 0 rfl rfl 4 (by decide) t_144 rfl rfl d_Ly_undoLine_189 ?_
        refine sw_iload (pc := 192) C d_Ly_undoLine_192 rfl ?_
        refine sw_iload (pc := 194) C d_Ly_undoLine_194 rfl ?_
        refine sw_iadd (pc := 196) C d_Ly_undoLine_196 ?_
        refine sw_topi (z := nI ((m / 2) + i)) (nI_add _ _) ?_
        refine sw_ialdN (pc := 197) C 4 ((m / 2) + i) rfl rfl (by omega) (by omega) d_Ly_undoLine_197 ?_
        refine sw_iload (pc := 198) C d_Ly_undoLine_198 rfl ?_
        refine sw_iload (pc := 200) C d_Ly_undoLine_200 rfl ?_
        refine sw_iadd (pc := 202) C d_Ly_undoLine_202 ?_
        refine sw_iconst (pc := 203) C (nI 1) d_Ly_undoLine_203 (by decide) ?_
        refine sw_ishr (pc := 204) C d_Ly_undoLine_204 ?_
        refine sw_iadd (pc := 205) C d_Ly_undoLine_205 ?_
        refine sw_topi (z := drO li2 m i) rfl ?_
        refine sw_iastN (pc := 206) C 1 (fr + (((2 * i) + 1) * st)) rfl rfl (by omega) (by omega) d_Ly_undoLine_206 ?_
        refine sw_ws (ws' := wLy g A n (lnU fr st m ce (drM2 li2 (fun t => ce (fr + t * st)) m (i + 1))) co cd li2 cm) (by rw [← lnU_congr (F := fun t => if t = 2 * i + 1 then drO li2 m i else drM2 li2 (fun t => ce (fr + t * st)) m i t) (fun t _ => drM2_step t), ← lnU_up hst (show 2 * i + 1 < m by omega)]; rfl) ?_
        refine sw_iincN (pc := 207) C 1 d_Ly_undoLine_207 rfl (by decide) (by decide) rfl ?_
        refine sw_goto (pc := 210) C 119 d_Ly_undoLine_210 (by decide) ?_
        refine sw_drop 6 ?_
        refine sw_drop 7 ?_
        exact ih (i + 1) (by omega)
      refine sw_aload_n (pc := 126) C d_Ly_undoLine_126 rfl rfl ?_
      refine sw_get (pc := 127) C inLy 0 rfl rfl 1 (by decide) t_141 rfl rfl d_Ly_undoLine_127 ?_
      refine sw_iload_n (pc := 130) C d_Ly_undoLine_130 rfl rfl ?_
      refine sw_iconst (pc := 131) C (nI 2) d_Ly_undoLine_131 (by decide) ?_
      refine sw_iload (pc := 132) C d_Ly_undoLine_132 rfl ?_
      refine sw_imul (pc := 134) C d_Ly_undoLine_134 ?_
      refine sw_topi (z := nI (2 * i)) (pk_mul _ _) ?_
      refine sw_iload_n (pc := 135) C d_Ly_undoLine_135 rfl rfl ?_
      refine sw_imul (pc := 136) C d_Ly_undoLine_136 ?_
      refine sw_topi (z := nI ((2 * i) * st)) (pk_mul _ _) ?_
      refine sw_iadd (pc := 137) C d_Ly_undoLine_137 ?_
      refine sw_topi (z := nI (fr + ((2 * i) * st))) (nI_add _ _) ?_
      refine sw_ialdN (pc := 138) C 1 (fr + ((2 * i) * st)) rfl rfl (by omega) (by omega) d_Ly_undoLine_138 ?_
      refine sw_topi (z := drE li2 m i) (by rw [lnU_at hst (show 2 * i < m by omega)]; unfold drM2; rw [if_pos (by omega), show 2 * i / 2 = i by omega]) ?_
      refine sw_istore (pc := 139) C d_Ly_undoLine_139 (by decide) rfl ?_
      refine sw_aload_n (pc := 141) C d_Ly_undoLine_141 rfl rfl ?_
      refine sw_get (pc := 142) C inLy 0 rfl rfl 1 (by decide) t_141 rfl rfl d_Ly_undoLine_142 ?_
      refine sw_iload_n (pc := 145) C d_Ly_undoLine_145 rfl rfl ?_
      refine sw_iconst (pc := 146) C (nI 2) d_Ly_undoLine_146 (by decide) ?_
      refine sw_iload (pc := 147) C d_Ly_undoLine_147 rfl ?_
      refine sw_imul (pc := 149) C d_Ly_undoLine_149 ?_
      refine sw_topi (z := nI (2 * i)) (pk_mul _ _) ?_
      refine sw_iconst (pc := 150) C (nI 2) d_Ly_undoLine_150 (by decide) ?_
      refine sw_iadd (pc := 151) C d_Ly_undoLine_151 ?_
      refine sw_topi (z := nI ((2 * i) + 2)) (nI_add _ _) ?_
      refine sw_iload_n (pc := 152) C d_Ly_undoLine_152 rfl rfl ?_
      refine sw_icmp_geN (pc := 153) C 165 (by omega) (by omega) d_Ly_undoLine_153 (by decide) (fun h4 => ?_) (fun h4 => ?_)
      · skip
        refine sw_iload_n (pc := 165) C d_Ly_undoLine_165 rfl rfl ?_
        refine sw_iconst (pc := 166) C (nI 2) d_Ly_undoLine_166 (by decide) ?_
        refine sw_isub (pc := 167) C d_Ly_undoLine_167 ?_
        refine sw_topi (z := nI (m - 2)) (pk_sub (by omega)) ?_
        exact t168 _ (by omega) (by omega) (by rw [if_neg (by omega)]; omega)
      refine sw_iconst (pc := 156) C (nI 2) d_Ly_undoLine_156 (by decide) ?_
      refine sw_iload (pc := 157) C d_Ly_undoLine_157 rfl ?_
      refine sw_imul (pc := 159) C d_Ly_undoLine_159 ?_
      refine sw_topi (z := nI (2 * i)) (pk_mul _ _) ?_
      refine sw_iconst (pc := 160) C (nI 2) d_Ly_undoLine_160 (by decide) ?_
      refine sw_iadd (pc := 161) C d_Ly_undoLine_161 ?_
      refine sw_topi (z := nI ((2 * i) + 2)) (nI_add _ _) ?_
      refine sw_goto (pc := 162) C 168 d_Ly_undoLine_162 (by decide) ?_
      exact t168 _ (by omega) (by omega) (by rw [if_pos h4]; omega)
  have key1 : ∀ (d i : Nat), i + d = m / 2 → SW X g 8 0 0 (wLy g A n (lnU fr st m ce (drM1 li2 (fun t => ce (fr + t * st)) m i)) co cd li2 cm) 41 [some (.ref (A 0)), some (.int (nI fr)), some (.int (nI st)), some (.int (nI m)), some (.int (nI (m / 2))), some (.int (nI i)), none, none] [] := by
    intro d
    induction d with
    | zero =>
      intro i hi
      refine sw_iload (pc := 41) C d_Ly_undoLine_41 rfl ?_
      refine sw_iload (pc := 43) C d_Ly_undoLine_43 rfl ?_
      refine sw_icmp_geN (pc := 45) C 116 (by omega) (by omega) d_Ly_undoLine_45 (by decide) (fun h1 => ?_) (fun h1 => ?_)
      · skip
        have ei : i = m / 2 := by omega
        subst ei
        have ef : lnU fr st m ce (drM1 li2 (fun t => ce (fr + t * st)) m (m / 2)) = lnU fr st m ce (drM2 li2 (fun t => ce (fr + t * st)) m 0) := lnU_congr (fun t ht => drM12 hm t ht)
        rw [ef]
        refine sw_iconst (pc := 116) C (nI 0) d_Ly_undoLine_116 (by decide) ?_
        refine sw_istore (pc := 117) C d_Ly_undoLine_117 (by decide) rfl ?_
        exact key2 (m / 2) 0 (by omega)
      omega
    | succ d ih =>
      intro i hi
      refine sw_iload (pc := 41) C d_Ly_undoLine_41 rfl ?_
      refine sw_iload (pc := 43) C d_Ly_undoLine_43 rfl ?_
      refine sw_icmp_geN (pc := 45) C 116 (by omega) (by omega) d_Ly_undoLine_45 (by decide) (fun h1 => ?_) (fun h1 => ?_)
      · skip
        omega
      have hb1 := hln (2 * i) (by omega)
      have t69 : ∀ q : Nat, q = m / 2 + (i - 1) → SW X g 8 0 0 (wLy g A n (lnU fr st m ce (drM1 li2 (fun t => ce (fr + t * st)) m i)) co cd li2 cm) 69 [some (.ref (A 0)), some (.int (nI fr)), some (.int (nI st)), some (.int (nI m)), some (.int (nI (m / 2))), some (.int (nI i)), none, none] [.int (nI q), .ref (A 4)] := by
        intro q hq
        refine sw_ialdN (pc := 69) C 4 q rfl rfl (by omega) (by omega) d_Ly_undoLine_69 ?_
        refine sw_istore (pc := 70) C d_Ly_undoLine_70 (by decide) rfl ?_
        refine sw_aload_n (pc := 72) C d_Ly_undoLine_72 rfl rfl ?_
        refine sw_get (pc := 73) C inLy 0 rfl rfl 1 (by decide) t_141 rfl rfl d_Ly_undoLine_73 ?_
        refine sw_iload_n (pc := 76) C d_Ly_undoLine_76 rfl rfl ?_
        refine sw_iconst (pc := 77) C (nI 2) d_Ly_undoLine_77 (by decide) ?_
        refine sw_iload (pc := 78) C d_Ly_undoLine_78 rfl ?_
        refine sw_imul (pc := 80) C d_Ly_undoLine_80 ?_
        refine sw_topi (z := nI (2 * i)) (pk_mul _ _) ?_
        refine sw_iload_n (pc := 81) C d_Ly_undoLine_81 rfl rfl ?_
        refine sw_imul (pc := 82) C d_Ly_undoLine_82 ?_
        refine sw_topi (z := nI ((2 * i) * st)) (pk_mul _ _) ?_
        refine sw_iadd (pc := 83) C d_Ly_undoLine_83 ?_
        refine sw_topi (z := nI (fr + ((2 * i) * st))) (nI_add _ _) ?_
        refine sw_aload_n (pc := 84) C d_Ly_undoLine_84 rfl rfl ?_
        refine sw_get (pc := 85) C inLy 0 rfl rfl 4 (by decide) t_144 rfl rfl d_Ly_undoLine_85 ?_
        refine sw_iload (pc := 88) C d_Ly_undoLine_88 rfl ?_
        refine sw_ialdN (pc := 90) C 4 i rfl rfl (by omega) (by omega) d_Ly_undoLine_90 ?_
        refine sw_iload (pc := 91) C d_Ly_undoLine_91 rfl ?_
        refine sw_aload_n (pc := 93) C d_Ly_undoLine_93 rfl rfl ?_
        refine sw_get (pc := 94) C inLy 0 rfl rfl 4 (by decide) t_144 rfl rfl d_Ly_undoLine_94 ?_
        refine sw_iload (pc := 97) C d_Ly_undoLine_97 rfl ?_
        refine sw_iload (pc := 99) C d_Ly_undoLine_99 rfl ?_
        refine sw_iadd (pc := 101) C d_Ly_undoLine_101 ?_
        refine sw_topi (z := nI ((m / 2) + i)) (nI_add _ _) ?_
        refine sw_ialdN (pc := 102) C 4 ((m / 2) + i) rfl rfl (by omega) (by omega) d_Ly_undoLine_102 ?_
        refine sw_iadd (pc := 103) C d_Ly_undoLine_103 ?_
        refine sw_iconst (pc := 104) C (nI 2) d_Ly_undoLine_104 (by decide) ?_
        refine sw_iadd (pc := 105) C d_Ly_undoLine_105 ?_
        refine sw_iconst (pc := 106) C (nI 2) d_Ly_undoLine_106 (by decide) ?_
        refine sw_ishr (pc := 107) C d_Ly_undoLine_107 ?_
        refine sw_isub (pc := 108) C d_Ly_undoLine_108 ?_
        refine sw_topi (z := drE li2 m i) (by unfold drE; rw [hq]) ?_
        refine sw_iastN (pc := 109) C 1 (fr + ((2 * i) * st)) rfl rfl (by omega) (by omega) d_Ly_undoLine_109 ?_
        refine sw_ws (ws' := wLy g A n (lnU fr st m ce (drM1 li2 (fun t => ce (fr + t * st)) m (i + 1))) co cd li2 cm) (by rw [← lnU_congr (F := fun t => if t = 2 * i then drE li2 m i else drM1 li2 (fun t => ce (fr + t * st)) m i t) (fun t _ => drM1_step t), ← lnU_up hst (show 2 * i < m by omega)]; rfl) ?_
        refine sw_iincN (pc := 110) C 1 d_Ly_undoLine_110 rfl (by decide) (by decide) rfl ?_
        refine sw_goto (pc := 113) C 41 d_Ly_undoLine_113 (by decide) ?_
        refine sw_drop 6 ?_
        exact ih (i + 1) (by omega)
      refine sw_aload_n (pc := 48) C d_Ly_undoLine_48 rfl rfl ?_
      refine sw_get (pc := 49) C inLy 0 rfl rfl 4 (by decide) t_144 rfl rfl d_Ly_undoLine_49 ?_
      refine sw_iload (pc := 52) C d_Ly_undoLine_52 rfl ?_
      refine sw_if_neN (pc := 54) C 62 (by omega) d_Ly_undoLine_54 (by decide) (fun h4 => ?_) (fun h4 => ?_)
      · skip
        refine sw_iload (pc := 62) C d_Ly_undoLine_62 rfl ?_
        refine sw_iload (pc := 64) C d_Ly_undoLine_64 rfl ?_
        refine sw_iadd (pc := 66) C d_Ly_undoLine_66 ?_
        refine sw_topi (z := nI ((m / 2) + i)) (nI_add _ _) ?_
        refine sw_iconst (pc := 67) C (nI 1) d_Ly_undoLine_67 (by decide) ?_
        refine sw_isub (pc := 68) C d_Ly_undoLine_68 ?_
        refine sw_topi (z := nI (((m / 2) + i) - 1)) (pk_sub (by omega)) ?_
        exact t69 _ (by omega)
      refine sw_iload (pc := 57) C d_Ly_undoLine_57 rfl ?_
      refine sw_goto (pc := 59) C 69 d_Ly_undoLine_59 (by decide) ?_
      exact t69 _ (by omega)
  have k0 := key1 (m / 2) 0 (by omega)
  have e0 : lnU fr st m ce (drM1 li2 (fun t => ce (fr + t * st)) m 0) = ce := by
    refine lnU_congr (fun t _ => ?_) |>.trans lnU_self
    unfold drM1
    rw [if_neg (by omega)]
  rw [e0] at k0
  exact k0
