/-! the reference: a bit through the coder, bytes -/
def wKm (g : Gl) (R : Nat → Nat) (dn pl ln ss pt : Nat) (th : Bool) (md : Option (Nat → Nat)) (S : CS × Nat) : va_W := [mdC R dn pl ln ss pt th md.isSome S.1.2.2.1 S.1.2.2.2, iaC g (R 14) 48 (nF S.1.1), iaC g (R 15) 48 (nF S.1.2.1), iaC g (R 16) 4400 (nF (rdg (mdD md) S.2 S.1.2.2.2))]
set_option maxRecDepth 100000 in
set_option maxHeartbeats 4000000 in
theorem c_Md_code_w (l : Launch) (g : Gl) (R : Nat → Nat) (dn pl ln ss pt : Nat) (th : Bool) (Z O : Nat → Nat) (W sc v c b : Nat) (hK : csOK (Z, O, W, sc)) (hc : c < 48) (hb : b ≤ 1) (hm : mdOK none ((Z, O, W, sc), v)) (hsc : sc ≤ 3900) : Ct l g y_Md_code b_Md_code 6 (some .int) (rmD 1) [.ref (R 0), .int (nI c), .int (nI b)] (wKm g R dn pl ln ss pt th none ((Z, O, W, sc), v)) (fun u w => u = some (.int (nI (kBit none ((Z, O, W, sc), v) c b))) ∧ w = wKm g R dn pl ln ss pt th none (kStep none ((Z, O, W, sc), v) c b)) := by
  refine ct_of [some (.ref (R 0)), some (.int (nI c)), some (.int (nI b)), none, none, none] (by decide) (Nat.le_of_ble_eq_true rfl) rfl ?_
  intro X C E
  obtain ⟨hz1, ho1, hzo⟩ := hK.1 c hc
  dsimp only at hz1 ho1 hzo
  have hW1 : 32768 < W := hK.2.1
  have hW2 : W ≤ 65536 := hK.2.2
  have hWZ : W * Z c ≤ 65536 * 31 := Nat.mul_le_mul hW2 (by omega)
  have hsp := csSplit_bd hK hc
  dsimp only at hsp
  have hDD : ∀ i : Nat, (fun _ : Nat => (0 : Nat)) i ≤ 1 := fun _ => Nat.zero_le _
  have fin : [mdC R dn pl ln ss pt th false (csW (Z, O, W, sc) c b * 2 ^ csN (Z, O, W, sc) c b) (sc + csN (Z, O, W, sc) c b), iaC g (R 14) 48 (nF (upN Z c (csC (Z, O, W, sc) c b).1)), iaC g (R 15) 48 (nF (upN O c (csC (Z, O, W, sc) c b).2)), iaC g (R 16) 4400 (nF (rdg (fun _ => 0) (v + (if b = 0 then 0 else (csSplit (Z, O, W, sc) c))) sc))] = wKm g R dn pl ln ss pt th none (kStep none ((Z, O, W, sc), v) c b) := by
    rw [kStep_eq]
    unfold wKm
    dsimp only
    rw [show mdD none = (fun _ => 0) from rfl, show (csStep (Z, O, W, sc) c (kBit none ((Z, O, W, sc), v) c b)).2.2.2 = sc + csN (Z, O, W, sc) c (kBit none ((Z, O, W, sc), v) c b) from rfl, rdg_shin hDD]
    rfl
  have loop : ∀ (nn i : Nat) (Wi si : Nat), i + nn = 16 → (Wi ≤ 65536) → (Wi * 2 ^ nsh nn Wi = csW (Z, O, W, sc) c b * 2 ^ csN (Z, O, W, sc) c b) → (si + nsh nn Wi = sc + csN (Z, O, W, sc) c b) → (si ≤ 4000 + i) → SW X g 6 0 0 ([mdC R dn pl ln ss pt th false Wi si, iaC g (R 14) 48 (nF (upN Z c (csC (Z, O, W, sc) c b).1)), iaC g (R 15) 48 (nF (upN O c (csC (Z, O, W, sc) c b).2)), iaC g (R 16) 4400 (nF (rdg (fun _ => 0) (v + (if b = 0 then 0 else (csSplit (Z, O, W, sc) c))) sc))]) 165 [some (.ref (R 0)), some (.int (nI c)), some (.int (nI b)), some (.int (nI (csSplit (Z, O, W, sc) c))), some (.int (nI b)), some (.int (nI i))] [] := by
    intro nn
    induction nn with
    | zero =>
      intro i Wi si hi hWi he hf hsi
      refine sw_iload (pc := 165) C d_Md_code_165 rfl ?_
      refine sw_bipush (pc := 167) C (nI 16) d_Md_code_167 (by decide) ?_
      refine sw_icmp_geN (pc := 169) C 207 (by omega) (by omega) d_Md_code_169 (by decide) (fun hx => ?_) (fun hx => ?_)
      · skip
        refine sw_iload (pc := 207) C d_Md_code_207 rfl ?_
        exact sw_iret (pc := 209) C E rfl (Nat.le_of_ble_eq_true rfl) (Nat.le_of_ble_eq_true rfl) d_Md_code_209 ⟨rfl, by rw [← fin, ← he, ← hf]; simp [nsh]⟩
      omega
    | succ nn ih =>
      intro i Wi si hi hWi he hf hsi
      refine sw_iload (pc := 165) C d_Md_code_165 rfl ?_
      refine sw_bipush (pc := 167) C (nI 16) d_Md_code_167 (by decide) ?_
      refine sw_icmp_geN (pc := 169) C 207 (by omega) (by omega) d_Md_code_169 (by decide) (fun hx => ?_) (fun hx => ?_)
      · skip
        omega
      refine sw_aload_n (pc := 172) C d_Md_code_172 rfl rfl ?_
      refine sw_get (pc := 173) C inMd 0 rfl rfl 22 (by decide) t_594 rfl rfl d_Md_code_173 ?_
      refine sw_topi (z := nI Wi) rfl ?_
      refine sw_ldc (pc := 176) C t_728 d_Md_code_176 ?_
      refine sw_topi (z := nI 32768) rfl ?_
      refine sw_icmp_gtN (pc := 178) C 207 (by omega) (by omega) d_Md_code_178 (by decide) (fun h4 => ?_) (fun h4 => ?_)
      · skip
        have en : nsh (nn + 1) Wi = 0 := by unfold nsh; rw [if_neg (by omega)]
        rw [en] at he hf
        refine sw_iload (pc := 207) C d_Md_code_207 rfl ?_
        exact sw_iret (pc := 209) C E rfl (Nat.le_of_ble_eq_true rfl) (Nat.le_of_ble_eq_true rfl) d_Md_code_209 ⟨rfl, by rw [← fin, ← he, ← hf]; simp⟩
      refine sw_aload_n (pc := 181) C d_Md_code_181 rfl rfl ?_
      refine sw_dup (pc := 182) C d_Md_code_182 rfl ?_
      refine sw_get (pc := 183) C inMd 0 rfl rfl 22 (by decide) t_594 rfl rfl d_Md_code_183 ?_
      refine sw_topi (z := nI Wi) rfl ?_
      refine sw_iconst (pc := 186) C (nI 2) d_Md_code_186 (by decide) ?_
      refine sw_imul (pc := 187) C d_Md_code_187 ?_
      refine sw_topi (z := nI (Wi * 2)) (pk_mul _ _) ?_
      refine sw_put (pc := 188) C inMd 0 rfl rfl 22 (by decide) tyMd okMd nmMd t_594 rfl rfl (ty := .int) (by decide +kernel) rfl rfl (Nat.le_of_ble_eq_true rfl) d_Md_code_188 ?_
      refine sw_aload_n (pc := 191) C d_Md_code_191 rfl rfl ?_
      refine sw_dup (pc := 192) C d_Md_code_192 rfl ?_
      refine sw_get (pc := 193) C inMd 0 rfl rfl 23 (by decide) t_595 rfl rfl d_Md_code_193 ?_
      refine sw_topi (z := nI si) rfl ?_
      refine sw_iconst (pc := 196) C (nI 1) d_Md_code_196 (by decide) ?_
      refine sw_iadd (pc := 197) C d_Md_code_197 ?_
      refine sw_topi (z := nI (si + 1)) (nI_add _ _) ?_
      refine sw_put (pc := 198) C inMd 0 rfl rfl 23 (by decide) tyMd okMd nmMd t_595 rfl rfl (ty := .int) (by decide +kernel) rfl rfl (Nat.le_of_ble_eq_true rfl) d_Md_code_198 ?_
      refine sw_iincN (pc := 201) C 1 d_Md_code_201 rfl (by decide) (by decide) rfl ?_
      refine sw_goto (pc := 204) C 165 d_Md_code_204 (by decide) ?_
      have en : nsh (nn + 1) Wi = nsh nn (Wi * 2) + 1 := by
        show (if Wi ≤ 32768 then nsh nn (2 * Wi) + 1 else 0) = _
        rw [if_pos (by omega), Nat.mul_comm]
      rw [en] at he hf
      exact ih (i + 1) (Wi * 2) (si + 1) (by omega) (by omega) (by rw [← he, Nat.pow_succ, Nat.mul_assoc, Nat.mul_comm 2]) (by omega) (by omega)
  have tail : ∀ P Q : Nat, P ≤ 32 → Q ≤ 32 → csHalf P Q = csC (Z, O, W, sc) c b → SW X g 6 0 0 ([mdC R dn pl ln ss pt th false (csW (Z, O, W, sc) c b) sc, iaC g (R 14) 48 (nF (upN Z c P)), iaC g (R 15) 48 (nF (upN O c Q)), iaC g (R 16) 4400 (nF (rdg (fun _ => 0) (v + (if b = 0 then 0 else (csSplit (Z, O, W, sc) c))) sc))]) 112 [some (.ref (R 0)), some (.int (nI c)), some (.int (nI b)), some (.int (nI (csSplit (Z, O, W, sc) c))), some (.int (nI b)), none] [] := by
    intro P Q hP hQ hPQ
    have hwb := (csW_bd (b := b) hK hc).2
    refine sw_aload_n (pc := 112) C d_Md_code_112 rfl rfl ?_
    refine sw_get (pc := 113) C inMd 0 rfl rfl 20 (by decide) t_592 rfl rfl d_Md_code_113 ?_
    refine sw_iload_n (pc := 116) C d_Md_code_116 rfl rfl ?_
    refine sw_ialdN (pc := 117) C 1 c rfl rfl (by omega) (by decide) d_Md_code_117 ?_
    refine sw_topi (z := nI P) (nF_at _ _ _) ?_
    refine sw_aload_n (pc := 118) C d_Md_code_118 rfl rfl ?_
    refine sw_get (pc := 119) C inMd 0 rfl rfl 21 (by decide) t_593 rfl rfl d_Md_code_119 ?_
    refine sw_iload_n (pc := 122) C d_Md_code_122 rfl rfl ?_
    refine sw_ialdN (pc := 123) C 2 c rfl rfl (by omega) (by decide) d_Md_code_123 ?_
    refine sw_topi (z := nI Q) (nF_at _ _ _) ?_
    refine sw_iadd (pc := 124) C d_Md_code_124 ?_
    refine sw_topi (z := nI (P + Q)) (nI_add _ _) ?_
    refine sw_bipush (pc := 125) C (nI 32) d_Md_code_125 (by decide) ?_
    refine sw_icmp_neN (pc := 127) C 162 (by omega) (by omega) d_Md_code_127 (by decide) (fun h1 => ?_) (fun h1 => ?_)
    · skip
      have e : csHalf P Q = (P, Q) := by unfold csHalf; rw [if_neg h1]
      refine sw_iconst (pc := 162) C (nI 0) d_Md_code_162 (by decide) ?_
      refine sw_istore (pc := 163) C d_Md_code_163 (by decide) rfl ?_
      refine sw_ws (ws' := [mdC R dn pl ln ss pt th false (csW (Z, O, W, sc) c b) sc, iaC g (R 14) 48 (nF (upN Z c (csC (Z, O, W, sc) c b).1)), iaC g (R 15) 48 (nF (upN O c (csC (Z, O, W, sc) c b).2)), iaC g (R 16) 4400 (nF (rdg (fun _ => 0) (v + (if b = 0 then 0 else (csSplit (Z, O, W, sc) c))) sc))]) (by rw [← hPQ, e]) ?_
      exact loop 16 0 (csW (Z, O, W, sc) c b) sc (by omega) hwb rfl rfl (by omega)
    refine sw_aload_n (pc := 130) C d_Md_code_130 rfl rfl ?_
    refine sw_get (pc := 131) C inMd 0 rfl rfl 20 (by decide) t_592 rfl rfl d_Md_code_131 ?_
    refine sw_iload_n (pc := 134) C d_Md_code_134 rfl rfl ?_
    refine sw_aload_n (pc := 135) C d_Md_code_135 rfl rfl ?_
    refine sw_get (pc := 136) C inMd 0 rfl rfl 20 (by decide) t_592 rfl rfl d_Md_code_136 ?_
    refine sw_iload_n (pc := 139) C d_Md_code_139 rfl rfl ?_
    refine sw_ialdN (pc := 140) C 1 c rfl rfl (by omega) (by decide) d_Md_code_140 ?_
    refine sw_topi (z := nI P) (nF_at _ _ _) ?_
    refine sw_iconst (pc := 141) C (nI 1) d_Md_code_141 (by decide) ?_
    refine sw_iadd (pc := 142) C d_Md_code_142 ?_
    refine sw_topi (z := nI (P + 1)) (nI_add _ _) ?_
    refine sw_iconst (pc := 143) C (nI 2) d_Md_code_143 (by decide) ?_
    refine sw_idiv (pc := 144) C d_Md_code_144 (by decide) ?_
    refine sw_topi (z := nI ((P + 1) / 2)) (pk_div (by omega) (by omega) (by omega)) ?_
    refine sw_iastN (pc := 145) C 1 c rfl rfl (by omega) (by decide) d_Md_code_145 ?_
    refine sw_ws (ws' := [mdC R dn pl ln ss pt th false (csW (Z, O, W, sc) c b) sc, iaC g (R 14) 48 (nF (upN Z c ((P + 1) / 2))), iaC g (R 15) 48 (nF (upN O c Q)), iaC g (R 16) 4400 (nF (rdg (fun _ => 0) (v + (if b = 0 then 0 else (csSplit (Z, O, W, sc) c))) sc))]) (by rw [← nF_re Z c P ((P + 1) / 2)]; rfl) ?_
    refine sw_aload_n (pc := 146) C d_Md_code_146 rfl rfl ?_
    refine sw_get (pc := 147) C inMd 0 rfl rfl 21 (by decide) t_593 rfl rfl d_Md_code_147 ?_
    refine sw_iload_n (pc := 150) C d_Md_code_150 rfl rfl ?_
    refine sw_aload_n (pc := 151) C d_Md_code_151 rfl rfl ?_
    refine sw_get (pc := 152) C inMd 0 rfl rfl 21 (by decide) t_593 rfl rfl d_Md_code_152 ?_
    refine sw_iload_n (pc := 155) C d_Md_code_155 rfl rfl ?_
    refine sw_ialdN (pc := 156) C 2 c rfl rfl (by omega) (by decide) d_Md_code_156 ?_
    refine sw_topi (z := nI Q) (nF_at _ _ _) ?_
    refine sw_iconst (pc := 157) C (nI 1) d_Md_code_157 (by decide) ?_
    refine sw_iadd (pc := 158) C d_Md_code_158 ?_
    refine sw_topi (z := nI (Q + 1)) (nI_add _ _) ?_
    refine sw_iconst (pc := 159) C (nI 2) d_Md_code_159 (by decide) ?_
    refine sw_idiv (pc := 160) C d_Md_code_160 (by decide) ?_
    refine sw_topi (z := nI ((Q + 1) / 2)) (pk_div (by omega) (by omega) (by omega)) ?_
    refine sw_iastN (pc := 161) C 2 c rfl rfl (by omega) (by decide) d_Md_code_161 ?_
    refine sw_ws (ws' := [mdC R dn pl ln ss pt th false (csW (Z, O, W, sc) c b) sc, iaC g (R 14) 48 (nF (upN Z c ((P + 1) / 2))), iaC g (R 15) 48 (nF (upN O c ((Q + 1) / 2))), iaC g (R 16) 4400 (nF (rdg (fun _ => 0) (v + (if b = 0 then 0 else (csSplit (Z, O, W, sc) c))) sc))]) (by rw [← nF_re O c Q ((Q + 1) / 2)]; rfl) ?_
    refine sw_iconst (pc := 162) C (nI 0) d_Md_code_162 (by decide) ?_
    refine sw_istore (pc := 163) C d_Md_code_163 (by decide) rfl ?_
    have e : csHalf P Q = ((P + 1) / 2, (Q + 1) / 2) := by unfold csHalf; rw [if_pos h1]
    refine sw_ws (ws' := [mdC R dn pl ln ss pt th false (csW (Z, O, W, sc) c b) sc, iaC g (R 14) 48 (nF (upN Z c (csC (Z, O, W, sc) c b).1)), iaC g (R 15) 48 (nF (upN O c (csC (Z, O, W, sc) c b).2)), iaC g (R 16) 4400 (nF (rdg (fun _ => 0) (v + (if b = 0 then 0 else (csSplit (Z, O, W, sc) c))) sc))]) (by rw [← hPQ, e]) ?_
    exact loop 16 0 (csW (Z, O, W, sc) c b) sc (by omega) hwb rfl rfl (by omega)
  have go : b ≤ 1 → SW X g 6 0 0 (wKm g R dn pl ln ss pt th none ((Z, O, W, sc), v)) 51 [some (.ref (R 0)), some (.int (nI c)), some (.int (nI b)), some (.int (nI (csSplit (Z, O, W, sc) c))), some (.int (nI b)), none] [] := by
    intro hbt
    refine sw_iload (pc := 51) C d_Md_code_51 rfl ?_
    refine sw_iconst (pc := 53) C (nI 1) d_Md_code_53 (by decide) ?_
    refine sw_icmp_neN (pc := 54) C 97 (by omega) (by omega) d_Md_code_54 (by decide) (fun h5 => ?_) (fun h5 => ?_)
    · skip
      have b0 : b = 0 := by omega
      refine sw_aload_n (pc := 97) C d_Md_code_97 rfl rfl ?_
      refine sw_iload_n (pc := 98) C d_Md_code_98 rfl rfl ?_
      refine sw_put (pc := 99) C inMd 0 rfl rfl 22 (by decide) tyMd okMd nmMd t_594 rfl rfl (ty := .int) (by decide +kernel) rfl rfl (Nat.le_of_ble_eq_true rfl) d_Md_code_99 ?_
      refine sw_aload_n (pc := 102) C d_Md_code_102 rfl rfl ?_
      refine sw_get (pc := 103) C inMd 0 rfl rfl 20 (by decide) t_592 rfl rfl d_Md_code_103 ?_
      refine sw_iload_n (pc := 106) C d_Md_code_106 rfl rfl ?_
      refine sw_dup2 (pc := 107) C d_Md_code_107 rfl rfl ?_
      refine sw_ialdN (pc := 108) C 1 c rfl rfl (by omega) (by decide) d_Md_code_108 ?_
      refine sw_topi (z := nI (Z c)) rfl ?_
      refine sw_iconst (pc := 109) C (nI 1) d_Md_code_109 (by decide) ?_
      refine sw_iadd (pc := 110) C d_Md_code_110 ?_
      refine sw_topi (z := nI ((Z c) + 1)) (nI_add _ _) ?_
      refine sw_iastN (pc := 111) C 1 c rfl rfl (by omega) (by decide) d_Md_code_111 ?_
      refine sw_ws (ws' := [mdC R dn pl ln ss pt th false (csW (Z, O, W, sc) c b) sc, iaC g (R 14) 48 (nF (upN Z c (Z c + 1))), iaC g (R 15) 48 (nF (upN O c (O c))), iaC g (R 16) 4400 (nF (rdg (fun _ => 0) (v + (if b = 0 then 0 else (csSplit (Z, O, W, sc) c))) sc))]) (by rw [nF_self, ← nF_up]; unfold csW; simp only [if_pos b0]; first | done | rfl) ?_
      exact tail (Z c + 1) (O c) (by omega) (by omega) (by unfold csC; rw [if_pos b0])
    have b1 : ¬ b = 0 := by omega
    refine sw_aload_n (pc := 57) C d_Md_code_57 rfl rfl ?_
    refine sw_iload_n (pc := 58) C d_Md_code_58 rfl rfl ?_
    refine sw_aload_n (pc := 59) C d_Md_code_59 rfl rfl ?_
    refine sw_get (pc := 60) C inMd 0 rfl rfl 19 (by decide) t_591 rfl rfl d_Md_code_60 ?_
    refine sw_if_eqB (pc := 63) C 70 d_Md_code_63 (by decide) (fun h6 => ?_) (fun h6 => ?_)
    · skip
      refine sw_iconst (pc := 70) C (nI 1) d_Md_code_70 (by decide) ?_
      refine sw_callVP (pc := 71) C (c_Md_shA l g R dn pl ln ss pt th false W sc (fun _ => 0) v (csSplit (Z, O, W, sc) c) (by omega) (by omega)) sv_Md_shift t_724 rfl rfl rfl [0, 3] rfl rfl rfl rfl (Nat.le_of_ble_eq_true rfl) (Nat.le_of_ble_eq_true rfl) (Nat.le_of_ble_eq_true rfl) (Nat.le_of_ble_eq_true rfl) (Nat.le_of_ble_eq_true rfl) d_Md_code_71 (fun v w1 hp => ?_)
      obtain ⟨rfl, rfl⟩ := hp
      refine ⟨rfl, ?_⟩
      refine sw_ws (ws' := [mdC R dn pl ln ss pt th false W sc, iaC g (R 14) 48 (nF Z), iaC g (R 15) 48 (nF O), iaC g (R 16) 4400 (nF (rdg (fun _ => 0) (v + (if b = 0 then 0 else (csSplit (Z, O, W, sc) c))) sc))]) (by rw [if_neg b1]; rfl) ?_
      refine sw_aload_n (pc := 74) C d_Md_code_74 rfl rfl ?_
      refine sw_dup (pc := 75) C d_Md_code_75 rfl ?_
      refine sw_get (pc := 76) C inMd 0 rfl rfl 22 (by decide) t_594 rfl rfl d_Md_code_76 ?_
      refine sw_topi (z := nI W) rfl ?_
      refine sw_iload_n (pc := 79) C d_Md_code_79 rfl rfl ?_
      refine sw_isub (pc := 80) C d_Md_code_80 ?_
      refine sw_topi (z := nI (W - (csSplit (Z, O, W, sc) c))) (pk_sub (by omega)) ?_
      refine sw_put (pc := 81) C inMd 0 rfl rfl 22 (by decide) tyMd okMd nmMd t_594 rfl rfl (ty := .int) (by decide +kernel) rfl rfl (Nat.le_of_ble_eq_true rfl) d_Md_code_81 ?_
      refine sw_aload_n (pc := 84) C d_Md_code_84 rfl rfl ?_
      refine sw_get (pc := 85) C inMd 0 rfl rfl 21 (by decide) t_593 rfl rfl d_Md_code_85 ?_
      refine sw_iload_n (pc := 88) C d_Md_code_88 rfl rfl ?_
      refine sw_dup2 (pc := 89) C d_Md_code_89 rfl rfl ?_
      refine sw_ialdN (pc := 90) C 2 c rfl rfl (by omega) (by decide) d_Md_code_90 ?_
      refine sw_topi (z := nI (O c)) rfl ?_
      refine sw_iconst (pc := 91) C (nI 1) d_Md_code_91 (by decide) ?_
      refine sw_iadd (pc := 92) C d_Md_code_92 ?_
      refine sw_topi (z := nI ((O c) + 1)) (nI_add _ _) ?_
      refine sw_iastN (pc := 93) C 2 c rfl rfl (by omega) (by decide) d_Md_code_93 ?_
      refine sw_goto (pc := 94) C 112 d_Md_code_94 (by decide) ?_
      refine sw_ws (ws' := [mdC R dn pl ln ss pt th false (csW (Z, O, W, sc) c b) sc, iaC g (R 14) 48 (nF (upN Z c (Z c))), iaC g (R 15) 48 (nF (upN O c (O c + 1))), iaC g (R 16) 4400 (nF (rdg (fun _ => 0) (v + (if b = 0 then 0 else (csSplit (Z, O, W, sc) c))) sc))]) (by rw [nF_self, ← nF_up]; unfold csW; simp only [if_neg b1]; first | done | rfl) ?_
      exact tail (Z c) (O c + 1) (by omega) (by omega) (by unfold csC; rw [if_neg b1])
    cases h6
  refine sw_aload_n (pc := 0) C d_Md_code_0 rfl rfl ?_
  refine sw_get (pc := 1) C inMd 0 rfl rfl 22 (by decide) t_594 rfl rfl d_Md_code_1 ?_
  refine sw_topi (z := nI W) rfl ?_
  refine sw_aload_n (pc := 4) C d_Md_code_4 rfl rfl ?_
  refine sw_get (pc := 5) C inMd 0 rfl rfl 20 (by decide) t_592 rfl rfl d_Md_code_5 ?_
  refine sw_iload_n (pc := 8) C d_Md_code_8 rfl rfl ?_
  refine sw_ialdN (pc := 9) C 1 c rfl rfl (by omega) (by decide) d_Md_code_9 ?_
  refine sw_topi (z := nI (Z c)) rfl ?_
  refine sw_imul (pc := 10) C d_Md_code_10 ?_
  refine sw_topi (z := nI (W * (Z c))) (pk_mul _ _) ?_
  refine sw_aload_n (pc := 11) C d_Md_code_11 rfl rfl ?_
  refine sw_get (pc := 12) C inMd 0 rfl rfl 20 (by decide) t_592 rfl rfl d_Md_code_12 ?_
  refine sw_iload_n (pc := 15) C d_Md_code_15 rfl rfl ?_
  refine sw_ialdN (pc := 16) C 1 c rfl rfl (by omega) (by decide) d_Md_code_16 ?_
  refine sw_topi (z := nI (Z c)) rfl ?_
  refine sw_aload_n (pc := 17) C d_Md_code_17 rfl rfl ?_
  refine sw_get (pc := 18) C inMd 0 rfl rfl 21 (by decide) t_593 rfl rfl d_Md_code_18 ?_
  refine sw_iload_n (pc := 21) C d_Md_code_21 rfl rfl ?_
  refine sw_ialdN (pc := 22) C 2 c rfl rfl (by omega) (by decide) d_Md_code_22 ?_
  refine sw_topi (z := nI (O c)) rfl ?_
  refine sw_iadd (pc := 23) C d_Md_code_23 ?_
  refine sw_topi (z := nI ((Z c) + (O c))) (nI_add _ _) ?_
  refine sw_idiv (pc := 24) C d_Md_code_24 (nI_ne0 (by omega) (by omega)) ?_
  refine sw_topi (z := nI ((W * (Z c)) / ((Z c) + (O c)))) (pk_div (by omega) (by omega) (by omega)) ?_
  refine sw_topi (z := nI (csSplit (Z, O, W, sc) c)) rfl ?_
  refine sw_istore_n (pc := 25) C d_Md_code_25 rfl (by decide) rfl ?_
  refine sw_iload_n (pc := 26) C d_Md_code_26 rfl rfl ?_
  refine sw_istore (pc := 27) C d_Md_code_27 (by decide) rfl ?_
  refine sw_aload_n (pc := 29) C d_Md_code_29 rfl rfl ?_
  refine sw_get (pc := 30) C inMd 0 rfl rfl 19 (by decide) t_591 rfl rfl d_Md_code_30 ?_
  refine sw_if_eqB (pc := 33) C 51 d_Md_code_33 (by decide) (fun h7 => ?_) (fun h7 => ?_)
  · skip
    exact go hb
  cases h7
set_option maxRecDepth 100000 in
set_option maxHeartbeats 4000000 in
theorem c_Md_code_r (l : Launch) (g : Gl) (R : Nat → Nat) (dn pl ln ss pt : Nat) (th : Bool) (D : Nat → Nat) (Z O : Nat → Nat) (W sc v c b : Nat) (hK : csOK (Z, O, W, sc)) (hc : c < 48) (hb : b ≤ 1) (hm : mdOK (some D) ((Z, O, W, sc), v)) (hsc : sc ≤ 3900) : Ct l g y_Md_code b_Md_code 6 (some .int) (rmD 1) [.ref (R 0), .int (nI c), .int (nI b)] (wKm g R dn pl ln ss pt th (some D) ((Z, O, W, sc), v)) (fun u w => u = some (.int (nI (kBit (some D) ((Z, O, W, sc), v) c b))) ∧ w = wKm g R dn pl ln ss pt th (some D) (kStep (some D) ((Z, O, W, sc), v) c b)) := by
  refine ct_of [some (.ref (R 0)), some (.int (nI c)), some (.int (nI b)), none, none, none] (by decide) (Nat.le_of_ble_eq_true rfl) rfl ?_
  intro X C E
  obtain ⟨hz1, ho1, hzo⟩ := hK.1 c hc
  dsimp only at hz1 ho1 hzo
  have hW1 : 32768 < W := hK.2.1
  have hW2 : W ≤ 65536 := hK.2.2
  have hWZ : W * Z c ≤ 65536 * 31 := Nat.mul_le_mul hW2 (by omega)
  have hsp := csSplit_bd hK hc
  dsimp only at hsp
  have hvW : v < W := hm.2
  have hB : (rBit ((Z, O, W, sc), v) c) = (if v < (csSplit (Z, O, W, sc) c) then 0 else 1) := rfl
  have hDD : ∀ i, D i ≤ 1 := hm.1
  have fin : [mdC R dn pl ln ss pt th true (csW (Z, O, W, sc) c (rBit ((Z, O, W, sc), v) c) * 2 ^ csN (Z, O, W, sc) c (rBit ((Z, O, W, sc), v) c)) (sc + csN (Z, O, W, sc) c (rBit ((Z, O, W, sc), v) c)), iaC g (R 14) 48 (nF (upN Z c (csC (Z, O, W, sc) c (rBit ((Z, O, W, sc), v) c)).1)), iaC g (R 15) 48 (nF (upN O c (csC (Z, O, W, sc) c (rBit ((Z, O, W, sc), v) c)).2)), iaC g (R 16) 4400 (nF (rdg D (v - (if (rBit ((Z, O, W, sc), v) c) = 0 then 0 else (csSplit (Z, O, W, sc) c))) sc))] = wKm g R dn pl ln ss pt th (some D) (kStep (some D) ((Z, O, W, sc), v) c b) := by
    rw [kStep_eq]
    unfold wKm
    dsimp only
    rw [show mdD (some D) = D from rfl, show (csStep (Z, O, W, sc) c (kBit (some D) ((Z, O, W, sc), v) c b)).2.2.2 = sc + csN (Z, O, W, sc) c (kBit (some D) ((Z, O, W, sc), v) c b) from rfl, rdg_shin hDD]
    rfl
  have loop : ∀ (nn i : Nat) (Wi si : Nat), i + nn = 16 → (Wi ≤ 65536) → (Wi * 2 ^ nsh nn Wi = csW (Z, O, W, sc) c (rBit ((Z, O, W, sc), v) c) * 2 ^ csN (Z, O, W, sc) c (rBit ((Z, O, W, sc), v) c)) → (si + nsh nn Wi = sc + csN (Z, O, W, sc) c (rBit ((Z, O, W, sc), v) c)) → (si ≤ 4000 + i) → SW X g 6 0 0 ([mdC R dn pl ln ss pt th true Wi si, iaC g (R 14) 48 (nF (upN Z c (csC (Z, O, W, sc) c (rBit ((Z, O, W, sc), v) c)).1)), iaC g (R 15) 48 (nF (upN O c (csC (Z, O, W, sc) c (rBit ((Z, O, W, sc), v) c)).2)), iaC g (R 16) 4400 (nF (rdg D (v - (if (rBit ((Z, O, W, sc), v) c) = 0 then 0 else (csSplit (Z, O, W, sc) c))) sc))]) 165 [some (.ref (R 0)), some (.int (nI c)), some (.int (nI b)), some (.int (nI (csSplit (Z, O, W, sc) c))), some (.int (nI (rBit ((Z, O, W, sc), v) c))), some (.int (nI i))] [] := by
    intro nn
    induction nn with
    | zero =>
      intro i Wi si hi hWi he hf hsi
      refine sw_iload (pc := 165) C d_Md_code_165 rfl ?_
      refine sw_bipush (pc := 167) C (nI 16) d_Md_code_167 (by decide) ?_
      refine sw_icmp_geN (pc := 169) C 207 (by omega) (by omega) d_Md_code_169 (by decide) (fun hx => ?_) (fun hx => ?_)
      · skip
        refine sw_iload (pc := 207) C d_Md_code_207 rfl ?_
        exact sw_iret (pc := 209) C E rfl (Nat.le_of_ble_eq_true rfl) (Nat.le_of_ble_eq_true rfl) d_Md_code_209 ⟨rfl, by rw [← fin, ← he, ← hf]; simp [nsh]⟩
      omega
    | succ nn ih =>
      intro i Wi si hi hWi he hf hsi
      refine sw_iload (pc := 165) C d_Md_code_165 rfl ?_
      refine sw_bipush (pc := 167) C (nI 16) d_Md_code_167 (by decide) ?_
      refine sw_icmp_geN (pc := 169) C 207 (by omega) (by omega) d_Md_code_169 (by decide) (fun hx => ?_) (fun hx => ?_)
      · skip
        omega
      refine sw_aload_n (pc := 172) C d_Md_code_172 rfl rfl ?_
      refine sw_get (pc := 173) C inMd 0 rfl rfl 22 (by decide) t_594 rfl rfl d_Md_code_173 ?_
      refine sw_topi (z := nI Wi) rfl ?_
      refine sw_ldc (pc := 176) C t_728 d_Md_code_176 ?_
      refine sw_topi (z := nI 32768) rfl ?_
      refine sw_icmp_gtN (pc := 178) C 207 (by omega) (by omega) d_Md_code_178 (by decide) (fun h4 => ?_) (fun h4 => ?_)
      · skip
        have en : nsh (nn + 1) Wi = 0 := by unfold nsh; rw [if_neg (by omega)]
        rw [en] at he hf
        refine sw_iload (pc := 207) C d_Md_code_207 rfl ?_
        exact sw_iret (pc := 209) C E rfl (Nat.le_of_ble_eq_true rfl) (Nat.le_of_ble_eq_true rfl) d_Md_code_209 ⟨rfl, by rw [← fin, ← he, ← hf]; simp⟩
      refine sw_aload_n (pc := 181) C d_Md_code_181 rfl rfl ?_
      refine sw_dup (pc := 182) C d_Md_code_182 rfl ?_
      refine sw_get (pc := 183) C inMd 0 rfl rfl 22 (by decide) t_594 rfl rfl d_Md_code_183 ?_
      refine sw_topi (z := nI Wi) rfl ?_
      refine sw_iconst (pc := 186) C (nI 2) d_Md_code_186 (by decide) ?_
      refine sw_imul (pc := 187) C d_Md_code_187 ?_
      refine sw_topi (z := nI (Wi * 2)) (pk_mul _ _) ?_
      refine sw_put (pc := 188) C inMd 0 rfl rfl 22 (by decide) tyMd okMd nmMd t_594 rfl rfl (ty := .int) (by decide +kernel) rfl rfl (Nat.le_of_ble_eq_true rfl) d_Md_code_188 ?_
      refine sw_aload_n (pc := 191) C d_Md_code_191 rfl rfl ?_
      refine sw_dup (pc := 192) C d_Md_code_192 rfl ?_
      refine sw_get (pc := 193) C inMd 0 rfl rfl 23 (by decide) t_595 rfl rfl d_Md_code_193 ?_
      refine sw_topi (z := nI si) rfl ?_
      refine sw_iconst (pc := 196) C (nI 1) d_Md_code_196 (by decide) ?_
      refine sw_iadd (pc := 197) C d_Md_code_197 ?_
      refine sw_topi (z := nI (si + 1)) (nI_add _ _) ?_
      refine sw_put (pc := 198) C inMd 0 rfl rfl 23 (by decide) tyMd okMd nmMd t_595 rfl rfl (ty := .int) (by decide +kernel) rfl rfl (Nat.le_of_ble_eq_true rfl) d_Md_code_198 ?_
      refine sw_iincN (pc := 201) C 1 d_Md_code_201 rfl (by decide) (by decide) rfl ?_
      refine sw_goto (pc := 204) C 165 d_Md_code_204 (by decide) ?_
      have en : nsh (nn + 1) Wi = nsh nn (Wi * 2) + 1 := by
        show (if Wi ≤ 32768 then nsh nn (2 * Wi) + 1 else 0) = _
        rw [if_pos (by omega), Nat.mul_comm]
      rw [en] at he hf
      exact ih (i + 1) (Wi * 2) (si + 1) (by omega) (by omega) (by rw [← he, Nat.pow_succ, Nat.mul_assoc, Nat.mul_comm 2]) (by omega) (by omega)
  have tail : ∀ P Q : Nat, P ≤ 32 → Q ≤ 32 → csHalf P Q = csC (Z, O, W, sc) c (rBit ((Z, O, W, sc), v) c) → SW X g 6 0 0 ([mdC R dn pl ln ss pt th true (csW (Z, O, W, sc) c (rBit ((Z, O, W, sc), v) c)) sc, iaC g (R 14) 48 (nF (upN Z c P)), iaC g (R 15) 48 (nF (upN O c Q)), iaC g (R 16) 4400 (nF (rdg D (v - (if (rBit ((Z, O, W, sc), v) c) = 0 then 0 else (csSplit (Z, O, W, sc) c))) sc))]) 112 [some (.ref (R 0)), some (.int (nI c)), some (.int (nI b)), some (.int (nI (csSplit (Z, O, W, sc) c))), some (.int (nI (rBit ((Z, O, W, sc), v) c))), none] [] := by
    intro P Q hP hQ hPQ
    have hwb := (csW_bd (b := (rBit ((Z, O, W, sc), v) c)) hK hc).2
    refine sw_aload_n (pc := 112) C d_Md_code_112 rfl rfl ?_
    refine sw_get (pc := 113) C inMd 0 rfl rfl 20 (by decide) t_592 rfl rfl d_Md_code_113 ?_
    refine sw_iload_n (pc := 116) C d_Md_code_116 rfl rfl ?_
    refine sw_ialdN (pc := 117) C 1 c rfl rfl (by omega) (by decide) d_Md_code_117 ?_
    refine sw_topi (z := nI P) (nF_at _ _ _) ?_
    refine sw_aload_n (pc := 118) C d_Md_code_118 rfl rfl ?_
    refine sw_get (pc := 119) C inMd 0 rfl rfl 21 (by decide) t_593 rfl rfl d_Md_code_119 ?_
    refine sw_iload_n (pc := 122) C d_Md_code_122 rfl rfl ?_
    refine sw_ialdN (pc := 123) C 2 c rfl rfl (by omega) (by decide) d_Md_code_123 ?_
    refine sw_topi (z := nI Q) (nF_at _ _ _) ?_
    refine sw_iadd (pc := 124) C d_Md_code_124 ?_
    refine sw_topi (z := nI (P + Q)) (nI_add _ _) ?_
    refine sw_bipush (pc := 125) C (nI 32) d_Md_code_125 (by decide) ?_
    refine sw_icmp_neN (pc := 127) C 162 (by omega) (by omega) d_Md_code_127 (by decide) (fun h1 => ?_) (fun h1 => ?_)
    · skip
      have e : csHalf P Q = (P, Q) := by unfold csHalf; rw [if_neg h1]
      refine sw_iconst (pc := 162) C (nI 0) d_Md_code_162 (by decide) ?_
      refine sw_istore (pc := 163) C d_Md_code_163 (by decide) rfl ?_
      refine sw_ws (ws' := [mdC R dn pl ln ss pt th true (csW (Z, O, W, sc) c (rBit ((Z, O, W, sc), v) c)) sc, iaC g (R 14) 48 (nF (upN Z c (csC (Z, O, W, sc) c (rBit ((Z, O, W, sc), v) c)).1)), iaC g (R 15) 48 (nF (upN O c (csC (Z, O, W, sc) c (rBit ((Z, O, W, sc), v) c)).2)), iaC g (R 16) 4400 (nF (rdg D (v - (if (rBit ((Z, O, W, sc), v) c) = 0 then 0 else (csSplit (Z, O, W, sc) c))) sc))]) (by rw [← hPQ, e]) ?_
      exact loop 16 0 (csW (Z, O, W, sc) c (rBit ((Z, O, W, sc), v) c)) sc (by omega) hwb rfl rfl (by omega)
    refine sw_aload_n (pc := 130) C d_Md_code_130 rfl rfl ?_
    refine sw_get (pc := 131) C inMd 0 rfl rfl 20 (by decide) t_592 rfl rfl d_Md_code_131 ?_
    refine sw_iload_n (pc := 134) C d_Md_code_134 rfl rfl ?_
    refine sw_aload_n (pc := 135) C d_Md_code_135 rfl rfl ?_
    refine sw_get (pc := 136) C inMd 0 rfl rfl 20 (by decide) t_592 rfl rfl d_Md_code_136 ?_
    refine sw_iload_n (pc := 139) C d_Md_code_139 rfl rfl ?_
    refine sw_ialdN (pc := 140) C 1 c rfl rfl (by omega) (by decide) d_Md_code_140 ?_
    refine sw_topi (z := nI P) (nF_at _ _ _) ?_
    refine sw_iconst (pc := 141) C (nI 1) d_Md_code_141 (by decide) ?_
    refine sw_iadd (pc := 142) C d_Md_code_142 ?_
    refine sw_topi (z := nI (P + 1)) (nI_add _ _) ?_
    refine sw_iconst (pc := 143) C (nI 2) d_Md_code_143 (by decide) ?_
    refine sw_idiv (pc := 144) C d_Md_code_144 (by decide) ?_
    refine sw_topi (z := nI ((P + 1) / 2)) (pk_div (by omega) (by omega) (by omega)) ?_
    refine sw_iastN (pc := 145) C 1 c rfl rfl (by omega) (by decide) d_Md_code_145 ?_
    refine sw_ws (ws' := [mdC R dn pl ln ss pt th true (csW (Z, O, W, sc) c (rBit ((Z, O, W, sc), v) c)) sc, iaC g (R 14) 48 (nF (upN Z c ((P + 1) / 2))), iaC g (R 15) 48 (nF (upN O c Q)), iaC g (R 16) 4400 (nF (rdg D (v - (if (rBit ((Z, O, W, sc), v) c) = 0 then 0 else (csSplit (Z, O, W, sc) c))) sc))]) (by rw [← nF_re Z c P ((P + 1) / 2)]; rfl) ?_
    refine sw_aload_n (pc := 146) C d_Md_code_146 rfl rfl ?_
    refine sw_get (pc := 147) C inMd 0 rfl rfl 21 (by decide) t_593 rfl rfl d_Md_code_147 ?_
    refine sw_iload_n (pc := 150) C d_Md_code_150 rfl rfl ?_
    refine sw_aload_n (pc := 151) C d_Md_code_151 rfl rfl ?_
    refine sw_get (pc := 152) C inMd 0 rfl rfl 21 (by decide) t_593 rfl rfl d_Md_code_152 ?_
    refine sw_iload_n (pc := 155) C d_Md_code_155 rfl rfl ?_
    refine sw_ialdN (pc := 156) C 2 c rfl rfl (by omega) (by decide) d_Md_code_156 ?_
    refine sw_topi (z := nI Q) (nF_at _ _ _) ?_
    refine sw_iconst (pc := 157) C (nI 1) d_Md_code_157 (by decide) ?_
    refine sw_iadd (pc := 158) C d_Md_code_158 ?_
    refine sw_topi (z := nI (Q + 1)) (nI_add _ _) ?_
    refine sw_iconst (pc := 159) C (nI 2) d_Md_code_159 (by decide) ?_
    refine sw_idiv (pc := 160) C d_Md_code_160 (by decide) ?_
    refine sw_topi (z := nI ((Q + 1) / 2)) (pk_div (by omega) (by omega) (by omega)) ?_
    refine sw_iastN (pc := 161) C 2 c rfl rfl (by omega) (by decide) d_Md_code_161 ?_
    refine sw_ws (ws' := [mdC R dn pl ln ss pt th true (csW (Z, O, W, sc) c (rBit ((Z, O, W, sc), v) c)) sc, iaC g (R 14) 48 (nF (upN Z c ((P + 1) / 2))), iaC g (R 15) 48 (nF (upN O c ((Q + 1) / 2))), iaC g (R 16) 4400 (nF (rdg D (v - (if (rBit ((Z, O, W, sc), v) c) = 0 then 0 else (csSplit (Z, O, W, sc) c))) sc))]) (by rw [← nF_re O c Q ((Q + 1) / 2)]; rfl) ?_
    refine sw_iconst (pc := 162) C (nI 0) d_Md_code_162 (by decide) ?_
    refine sw_istore (pc := 163) C d_Md_code_163 (by decide) rfl ?_
    have e : csHalf P Q = ((P + 1) / 2, (Q + 1) / 2) := by unfold csHalf; rw [if_pos h1]
    refine sw_ws (ws' := [mdC R dn pl ln ss pt th true (csW (Z, O, W, sc) c (rBit ((Z, O, W, sc), v) c)) sc, iaC g (R 14) 48 (nF (upN Z c (csC (Z, O, W, sc) c (rBit ((Z, O, W, sc), v) c)).1)), iaC g (R 15) 48 (nF (upN O c (csC (Z, O, W, sc) c (rBit ((Z, O, W, sc), v) c)).2)), iaC g (R 16) 4400 (nF (rdg D (v - (if (rBit ((Z, O, W, sc), v) c) = 0 then 0 else (csSplit (Z, O, W, sc) c))) sc))]) (by rw [← hPQ, e]) ?_
    exact loop 16 0 (csW (Z, O, W, sc) c (rBit ((Z, O, W, sc), v) c)) sc (by omega) hwb rfl rfl (by omega)
  have go : (rBit ((Z, O, W, sc), v) c) ≤ 1 → SW X g 6 0 0 (wKm g R dn pl ln ss pt th (some D) ((Z, O, W, sc), v)) 51 [some (.ref (R 0)), some (.int (nI c)), some (.int (nI b)), some (.int (nI (csSplit (Z, O, W, sc) c))), some (.int (nI (rBit ((Z, O, W, sc), v) c))), none] [] := by
    intro hbt
    refine sw_iload (pc := 51) C d_Md_code_51 rfl ?_
    refine sw_iconst (pc := 53) C (nI 1) d_Md_code_53 (by decide) ?_
    refine sw_icmp_neN (pc := 54) C 97 (by omega) (by omega) d_Md_code_54 (by decide) (fun h5 => ?_) (fun h5 => ?_)
    · skip
      have b0 : (rBit ((Z, O, W, sc), v) c) = 0 := by omega
      refine sw_aload_n (pc := 97) C d_Md_code_97 rfl rfl ?_
      refine sw_iload_n (pc := 98) C d_Md_code_98 rfl rfl ?_
      refine sw_put (pc := 99) C inMd 0 rfl rfl 22 (by decide) tyMd okMd nmMd t_594 rfl rfl (ty := .int) (by decide +kernel) rfl rfl (Nat.le_of_ble_eq_true rfl) d_Md_code_99 ?_
      refine sw_aload_n (pc := 102) C d_Md_code_102 rfl rfl ?_
      refine sw_get (pc := 103) C inMd 0 rfl rfl 20 (by decide) t_592 rfl rfl d_Md_code_103 ?_
      refine sw_iload_n (pc := 106) C d_Md_code_106 rfl rfl ?_
      refine sw_dup2 (pc := 107) C d_Md_code_107 rfl rfl ?_
      refine sw_ialdN (pc := 108) C 1 c rfl rfl (by omega) (by decide) d_Md_code_108 ?_
      refine sw_topi (z := nI (Z c)) rfl ?_
      refine sw_iconst (pc := 109) C (nI 1) d_Md_code_109 (by decide) ?_
      refine sw_iadd (pc := 110) C d_Md_code_110 ?_
      refine sw_topi (z := nI ((Z c) + 1)) (nI_add _ _) ?_
      refine sw_iastN (pc := 111) C 1 c rfl rfl (by omega) (by decide) d_Md_code_111 ?_
      refine sw_ws (ws' := [mdC R dn pl ln ss pt th true (csW (Z, O, W, sc) c (rBit ((Z, O, W, sc), v) c)) sc, iaC g (R 14) 48 (nF (upN Z c (Z c + 1))), iaC g (R 15) 48 (nF (upN O c (O c))), iaC g (R 16) 4400 (nF (rdg D (v - (if (rBit ((Z, O, W, sc), v) c) = 0 then 0 else (csSplit (Z, O, W, sc) c))) sc))]) (by rw [nF_self, ← nF_up]; unfold csW; simp only [if_pos b0]; first | done | rfl) ?_
      exact tail (Z c + 1) (O c) (by omega) (by omega) (by unfold csC; rw [if_pos b0])
    have b1 : ¬ (rBit ((Z, O, W, sc), v) c) = 0 := by omega
    refine sw_aload_n (pc := 57) C d_Md_code_57 rfl rfl ?_
    refine sw_iload_n (pc := 58) C d_Md_code_58 rfl rfl ?_
    refine sw_aload_n (pc := 59) C d_Md_code_59 rfl rfl ?_
    refine sw_get (pc := 60) C inMd 0 rfl rfl 19 (by decide) t_591 rfl rfl d_Md_code_60 ?_
    refine sw_if_eqB (pc := 63) C 70 d_Md_code_63 (by decide) (fun h6 => ?_) (fun h6 => ?_)
    · skip
      cases h6
    have hsv : (csSplit (Z, O, W, sc) c) ≤ v := by
      rw [hB] at b1
      by_cases e : v < (csSplit (Z, O, W, sc) c)
      · rw [if_pos e] at b1; exact absurd rfl b1
      · omega
    refine sw_iconst (pc := 66) C (-1) d_Md_code_66 (by decide) ?_
    refine sw_goto (pc := 67) C 71 d_Md_code_67 (by decide) ?_
    refine sw_callVP (pc := 71) C (c_Md_shS l g R dn pl ln ss pt th true W sc D v (csSplit (Z, O, W, sc) c) (by omega) (by omega) hsv) sv_Md_shift t_724 rfl rfl rfl [0, 3] rfl rfl rfl rfl (Nat.le_of_ble_eq_true rfl) (Nat.le_of_ble_eq_true rfl) (Nat.le_of_ble_eq_true rfl) (Nat.le_of_ble_eq_true rfl) (Nat.le_of_ble_eq_true rfl) d_Md_code_71 (fun v w1 hp => ?_)
    obtain ⟨rfl, rfl⟩ := hp
    refine ⟨rfl, ?_⟩
    refine sw_ws (ws' := [mdC R dn pl ln ss pt th true W sc, iaC g (R 14) 48 (nF Z), iaC g (R 15) 48 (nF O), iaC g (R 16) 4400 (nF (rdg D (v - (if (rBit ((Z, O, W, sc), v) c) = 0 then 0 else (csSplit (Z, O, W, sc) c))) sc))]) (by rw [if_neg b1]; rfl) ?_
    refine sw_aload_n (pc := 74) C d_Md_code_74 rfl rfl ?_
    refine sw_dup (pc := 75) C d_Md_code_75 rfl ?_
    refine sw_get (pc := 76) C inMd 0 rfl rfl 22 (by decide) t_594 rfl rfl d_Md_code_76 ?_
    refine sw_topi (z := nI W) rfl ?_
    refine sw_iload_n (pc := 79) C d_Md_code_79 rfl rfl ?_
    refine sw_isub (pc := 80) C d_Md_code_80 ?_
    refine sw_topi (z := nI (W - (csSplit (Z, O, W, sc) c))) (pk_sub (by omega)) ?_
    refine sw_put (pc := 81) C inMd 0 rfl rfl 22 (by decide) tyMd okMd nmMd t_594 rfl rfl (ty := .int) (by decide +kernel) rfl rfl (Nat.le_of_ble_eq_true rfl) d_Md_code_81 ?_
    refine sw_aload_n (pc := 84) C d_Md_code_84 rfl rfl ?_
    refine sw_get (pc := 85) C inMd 0 rfl rfl 21 (by decide) t_593 rfl rfl d_Md_code_85 ?_
    refine sw_iload_n (pc := 88) C d_Md_code_88 rfl rfl ?_
    refine sw_dup2 (pc := 89) C d_Md_code_89 rfl rfl ?_
    refine sw_ialdN (pc := 90) C 2 c rfl rfl (by omega) (by decide) d_Md_code_90 ?_
    refine sw_topi (z := nI (O c)) rfl ?_
    refine sw_iconst (pc := 91) C (nI 1) d_Md_code_91 (by decide) ?_
    refine sw_iadd (pc := 92) C d_Md_code_92 ?_
    refine sw_topi (z := nI ((O c) + 1)) (nI_add _ _) ?_
    refine sw_iastN (pc := 93) C 2 c rfl rfl (by omega) (by decide) d_Md_code_93 ?_
    refine sw_goto (pc := 94) C 112 d_Md_code_94 (by decide) ?_
    refine sw_ws (ws' := [mdC R dn pl ln ss pt th true (csW (Z, O, W, sc) c (rBit ((Z, O, W, sc), v) c)) sc, iaC g (R 14) 48 (nF (upN Z c (Z c))), iaC g (R 15) 48 (nF (upN O c (O c + 1))), iaC g (R 16) 4400 (nF (rdg D (v - (if (rBit ((Z, O, W, sc), v) c) = 0 then 0 else (csSplit (Z, O, W, sc) c))) sc))]) (by rw [nF_self, ← nF_up]; unfold csW; simp only [if_neg b1]; first | done | rfl) ?_
    exact tail (Z c) (O c + 1) (by omega) (by omega) (by unfold csC; rw [if_neg b1])
  refine sw_aload_n (pc := 0) C d_Md_code_0 rfl rfl ?_
  refine sw_get (pc := 1) C inMd 0 rfl rfl 22 (by decide) t_594 rfl rfl d_Md_code_1 ?_
  refine sw_topi (z := nI W) rfl ?_
  refine sw_aload_n (pc := 4) C d_Md_code_4 rfl rfl ?_
  refine sw_get (pc := 5) C inMd 0 rfl rfl 20 (by decide) t_592 rfl rfl d_Md_code_5 ?_
  refine sw_iload_n (pc := 8) C d_Md_code_8 rfl rfl ?_
  refine sw_ialdN (pc := 9) C 1 c rfl rfl (by omega) (by decide) d_Md_code_9 ?_
  refine sw_topi (z := nI (Z c)) rfl ?_
  refine sw_imul (pc := 10) C d_Md_code_10 ?_
  refine sw_topi (z := nI (W * (Z c))) (pk_mul _ _) ?_
  refine sw_aload_n (pc := 11) C d_Md_code_11 rfl rfl ?_
  refine sw_get (pc := 12) C inMd 0 rfl rfl 20 (by decide) t_592 rfl rfl d_Md_code_12 ?_
  refine sw_iload_n (pc := 15) C d_Md_code_15 rfl rfl ?_
  refine sw_ialdN (pc := 16) C 1 c rfl rfl (by omega) (by decide) d_Md_code_16 ?_
  refine sw_topi (z := nI (Z c)) rfl ?_
  refine sw_aload_n (pc := 17) C d_Md_code_17 rfl rfl ?_
  refine sw_get (pc := 18) C inMd 0 rfl rfl 21 (by decide) t_593 rfl rfl d_Md_code_18 ?_
  refine sw_iload_n (pc := 21) C d_Md_code_21 rfl rfl ?_
  refine sw_ialdN (pc := 22) C 2 c rfl rfl (by omega) (by decide) d_Md_code_22 ?_
  refine sw_topi (z := nI (O c)) rfl ?_
  refine sw_iadd (pc := 23) C d_Md_code_23 ?_
  refine sw_topi (z := nI ((Z c) + (O c))) (nI_add _ _) ?_
  refine sw_idiv (pc := 24) C d_Md_code_24 (nI_ne0 (by omega) (by omega)) ?_
  refine sw_topi (z := nI ((W * (Z c)) / ((Z c) + (O c)))) (pk_div (by omega) (by omega) (by omega)) ?_
  refine sw_topi (z := nI (csSplit (Z, O, W, sc) c)) rfl ?_
  refine sw_istore_n (pc := 25) C d_Md_code_25 rfl (by decide) rfl ?_
  refine sw_iload_n (pc := 26) C d_Md_code_26 rfl rfl ?_
  refine sw_istore (pc := 27) C d_Md_code_27 (by decide) rfl ?_
  refine sw_aload_n (pc := 29) C d_Md_code_29 rfl rfl ?_
  refine sw_get (pc := 30) C inMd 0 rfl rfl 19 (by decide) t_591 rfl rfl d_Md_code_30 ?_
  refine sw_if_eqB (pc := 33) C 51 d_Md_code_33 (by decide) (fun h7 => ?_) (fun h7 => ?_)
  · skip
    cases h7
  refine sw_aload_n (pc := 36) C d_Md_code_36 rfl rfl ?_
  refine sw_callVR (pc := 37) C (c_Md_units l g R dn pl ln ss pt th true W sc D v (by omega) (by omega) hDD) sv_Md_units t_720 rfl rfl rfl [0, 3] rfl rfl rfl rfl (Nat.le_of_ble_eq_true rfl) (Nat.le_of_ble_eq_true rfl) (Nat.le_of_ble_eq_true rfl) (Nat.le_of_ble_eq_true rfl) (Nat.le_of_ble_eq_true rfl) d_Md_code_37 (fun v w1 hp => ?_)
  obtain ⟨rfl, rfl⟩ := hp
  refine ⟨rfl, ?_⟩
  refine sw_iload_n (pc := 40) C d_Md_code_40 rfl rfl ?_
  refine sw_icmp_ltN (pc := 41) C 48 (by omega) (by omega) d_Md_code_41 (by decide) (fun h8 => ?_) (fun h8 => ?_)
  · skip
    refine sw_iconst (pc := 48) C (nI 0) d_Md_code_48 (by decide) ?_
    refine sw_topi (z := nI (rBit ((Z, O, W, sc), v) c)) (by rw [hB, if_pos h8]) ?_
    refine sw_istore (pc := 49) C d_Md_code_49 (by decide) rfl ?_
    exact go (by rw [hB, if_pos h8]; omega)
  refine sw_iconst (pc := 44) C (nI 1) d_Md_code_44 (by decide) ?_
  refine sw_goto (pc := 45) C 49 d_Md_code_45 (by decide) ?_
  refine sw_topi (z := nI (rBit ((Z, O, W, sc), v) c)) (by rw [hB, if_neg (by omega)]) ?_
  refine sw_istore (pc := 49) C d_Md_code_49 (by decide) rfl ?_
  exact go (by rw [hB, if_neg (by omega)]; omega)
theorem c_Md_code (l : Launch) (g : Gl) (R : Nat → Nat) (dn pl ln ss pt : Nat) (th : Bool) (md : Option (Nat → Nat)) (S : CS × Nat) (c b : Nat) (hK : csOK S.1) (hc : c < 48) (hb : b ≤ 1) (hm : mdOK md S) (hsc : S.1.2.2.2 ≤ 3900) : Ct l g y_Md_code b_Md_code 6 (some .int) (rmD 1) [.ref (R 0), .int (nI c), .int (nI b)] (wKm g R dn pl ln ss pt th md S) (fun u w => u = some (.int (nI (kBit md S c b))) ∧ w = wKm g R dn pl ln ss pt th md (kStep md S c b)) := by
  obtain ⟨⟨Z, O, W, sc⟩, v⟩ := S
  cases md with
  | none => exact c_Md_code_w l g R dn pl ln ss pt th Z O W sc v c b hK hc hb hm hsc
  | some D => exact c_Md_code_r l g R dn pl ln ss pt th D Z O W sc v c b hK hc hb hm hsc
/-! bytes: the document l, behind it whatever stood there (f) -/
def dcF (l : List Nat) (f : Nat → Int32) : Nat → Int32 := fun k => if k < l.length then nI (l.getD k 0) else f k
theorem dcF_get {l : List Nat} {f : Nat → Int32} {k : Nat} (h : k < l.length) : dcF l f k = nI (l.getD k 0) := by
  unfold dcF
  rw [if_pos h]
theorem dcF_app (l : List Nat) (f : Nat → Int32) (v : Nat) : upd (dcF l f) l.length (nI v) = dcF (l ++ [v]) f := by
  funext k
  unfold upd dcF
  by_cases e : k = l.length
  · subst e
    rw [if_pos rfl, if_pos (by simp), getD_app2 (Nat.le_refl _)]
    simp
  · rw [if_neg e]
    by_cases h : k < l.length
    · rw [if_pos h, if_pos (by simp; omega), getD_app1 h]
    · rw [if_neg h, if_neg (by simp; omega)]
theorem dcF_set {l : List Nat} {i : Nat} (f : Nat → Int32) (v : Nat) (hi : i < l.length) : upd (dcF l f) i (nI v) = dcF (l.set i v) f := by
  funext k
  unfold upd dcF
  rw [List.length_set]
  by_cases e : k = i
  · subst e
    rw [if_pos rfl, if_pos hi, List.getD_eq_getElem?_getD, List.getElem?_set_self hi]
    rfl
  · rw [if_neg e, List.getD_eq_getElem?_getD, List.getD_eq_getElem?_getD, List.getElem?_set_ne (Ne.symm e)]
theorem dcF_setL {l : List Nat} {k : Nat} (f : Nat → Int32) (v : Nat) (hk : k ≤ l.length) : upd (dcF l f) k (nI v) = dcF (setL l k v) f := by
  unfold setL
  split
  · rename_i h
    exact dcF_set f v h
  · have e : k = l.length := by omega
    subst e
    exact dcF_app l f v
theorem dcF_take {l : List Nat} {n : Nat} (f : Nat → Int32) : dcF l f = dcF (l.take n) (dcF l f) := by
  funext k
  unfold dcF
  by_cases h : k < (l.take n).length
  · rw [if_pos h]
    have h2 : k < l.length := by rw [List.length_take] at h; omega
    have h3 : k < n := by rw [List.length_take] at h; omega
    rw [if_pos h2, List.getD_eq_getElem?_getD, List.getD_eq_getElem?_getD, List.getElem?_take, if_pos h3]
  · rw [if_neg h]
set_option maxRecDepth 100000 in
set_option maxHeartbeats 4000000 in
theorem c_Md_put (l : Launch) (g : Gl) (R : Nat → Nat) (dn pl ss pt : Nat) (th rd : Bool) (wd sc : Nat) (l0 : List Nat) (f : Nat → Int32) (v : Nat) (hl : l0.length < 1200) : Ct l g y_Md_put b_Md_put 2 none (rmD 0) [.ref (R 0), .int (nI v)] ([mdC R dn pl l0.length ss pt th rd wd sc, iaC g (R 8) 1200 (dcF l0 f)]) (fun u w => u = none ∧ w = [mdC R dn pl ((l0 ++ [v]).length) ss pt th rd wd sc, iaC g (R 8) 1200 (dcF (l0 ++ [v]) f)]) := by
  refine ct_of [some (.ref (R 0)), some (.int (nI v))] (by decide) (Nat.le_of_ble_eq_true rfl) rfl ?_
  intro X C E
  refine sw_aload_n (pc := 0) C d_Md_put_0 rfl rfl ?_
  refine sw_get (pc := 1) C inMd 0 rfl rfl 9 (by decide) t_581 rfl rfl d_Md_put_1 ?_
  refine sw_aload_n (pc := 4) C d_Md_put_4 rfl rfl ?_
  refine sw_get (pc := 5) C inMd 0 rfl rfl 10 (by decide) t_582 rfl rfl d_Md_put_5 ?_
  refine sw_topi (z := nI l0.length) rfl ?_
  refine sw_iload_n (pc := 8) C d_Md_put_8 rfl rfl ?_
  refine sw_iastN (pc := 9) C 1 l0.length rfl rfl (by omega) (by decide) d_Md_put_9 ?_
  refine sw_aload_n (pc := 10) C d_Md_put_10 rfl rfl ?_
  refine sw_dup (pc := 11) C d_Md_put_11 rfl ?_
  refine sw_get (pc := 12) C inMd 0 rfl rfl 10 (by decide) t_582 rfl rfl d_Md_put_12 ?_
  refine sw_topi (z := nI l0.length) rfl ?_
  refine sw_iconst (pc := 15) C (nI 1) d_Md_put_15 (by decide) ?_
  refine sw_iadd (pc := 16) C d_Md_put_16 ?_
  refine sw_topi (z := nI (l0.length + 1)) (nI_add _ _) ?_
  refine sw_put (pc := 17) C inMd 0 rfl rfl 10 (by decide) tyMd okMd nmMd t_582 rfl rfl (ty := .int) (by decide +kernel) rfl rfl (Nat.le_of_ble_eq_true rfl) d_Md_put_17 ?_
  refine sw_ws (ws' := [mdC R dn pl ((l0 ++ [v]).length) ss pt th rd wd sc, iaC g (R 8) 1200 (dcF (l0 ++ [v]) f)]) (by rw [← dcF_app, List.length_append]; rfl) ?_
  exact sw_vret (pc := 20) C E rfl (Nat.le_of_ble_eq_true rfl) (Nat.le_of_ble_eq_true rfl) d_Md_put_20 ⟨rfl, rfl⟩
set_option maxRecDepth 100000 in
set_option maxHeartbeats 4000000 in
theorem c_Md_open (l : Launch) (g : Gl) (R : Nat → Nat) (dn pl ss pt : Nat) (th rd : Bool) (wd sc : Nat) (l0 : List Nat) (f : Nat → Int32) (v : Nat) (hl : l0.length + 3 ≤ 1200) : Ct l g y_Md_open b_Md_open 2 (some .int) (rmD 1) [.ref (R 0), .int (nI v)] ([mdC R dn pl l0.length ss pt th rd wd sc, iaC g (R 8) 1200 (dcF l0 f)]) (fun u w => u = some (.int (nI (l0.length + 3))) ∧ w = [mdC R dn pl ((l0 ++ [v, 0, 0]).length) ss pt th rd wd sc, iaC g (R 8) 1200 (dcF (l0 ++ [v, 0, 0]) f)]) := by
  refine ct_of [some (.ref (R 0)), some (.int (nI v))] (by decide) (Nat.le_of_ble_eq_true rfl) rfl ?_
  intro X C E
  refine sw_aload_n (pc := 0) C d_Md_open_0 rfl rfl ?_
  refine sw_iload_n (pc := 1) C d_Md_open_1 rfl rfl ?_
  refine sw_callVP (pc := 2) C (c_Md_put l g R dn pl ss pt th rd wd sc (l0) f v (by omega)) sv_Md_put t_695 rfl rfl rfl [0, 1] rfl rfl rfl rfl (Nat.le_of_ble_eq_true rfl) (Nat.le_of_ble_eq_true rfl) (Nat.le_of_ble_eq_true rfl) (Nat.le_of_ble_eq_true rfl) (Nat.le_of_ble_eq_true rfl) d_Md_open_2 (fun v w1 hp => ?_)
  obtain ⟨rfl, rfl⟩ := hp
  refine ⟨rfl, ?_⟩
  refine sw_ws (ws' := [mdC R dn pl ((l0 ++ [v]).length) ss pt th rd wd sc, iaC g (R 8) 1200 (dcF (l0 ++ [v]) f)]) rfl ?_
  refine sw_aload_n (pc := 5) C d_Md_open_5 rfl rfl ?_
  refine sw_iconst (pc := 6) C (nI 0) d_Md_open_6 (by decide) ?_
  refine sw_callVP (pc := 7) C (c_Md_put l g R dn pl ss pt th rd wd sc (l0 ++ [v]) f 0 (by simp; omega)) sv_Md_put t_695 rfl rfl rfl [0, 1] rfl rfl rfl rfl (Nat.le_of_ble_eq_true rfl) (Nat.le_of_ble_eq_true rfl) (Nat.le_of_ble_eq_true rfl) (Nat.le_of_ble_eq_true rfl) (Nat.le_of_ble_eq_true rfl) d_Md_open_7 (fun v w1 hp => ?_)
  obtain ⟨rfl, rfl⟩ := hp
  refine ⟨rfl, ?_⟩
  refine sw_ws (ws' := [mdC R dn pl ((l0 ++ [v] ++ [0]).length) ss pt th rd wd sc, iaC g (R 8) 1200 (dcF (l0 ++ [v] ++ [0]) f)]) rfl ?_
  refine sw_aload_n (pc := 10) C d_Md_open_10 rfl rfl ?_
  refine sw_iconst (pc := 11) C (nI 0) d_Md_open_11 (by decide) ?_
  refine sw_callVP (pc := 12) C (c_Md_put l g R dn pl ss pt th rd wd sc (l0 ++ [v] ++ [0]) f 0 (by simp; omega)) sv_Md_put t_695 rfl rfl rfl [0, 1] rfl rfl rfl rfl (Nat.le_of_ble_eq_true rfl) (Nat.le_of_ble_eq_true rfl) (Nat.le_of_ble_eq_true rfl) (Nat.le_of_ble_eq_true rfl) (Nat.le_of_ble_eq_true rfl) d_Md_open_12 (fun v w1 hp => ?_)
  obtain ⟨rfl, rfl⟩ := hp
  refine ⟨rfl, ?_⟩
  refine sw_ws (ws' := [mdC R dn pl ((l0 ++ [v] ++ [0] ++ [0]).length) ss pt th rd wd sc, iaC g (R 8) 1200 (dcF (l0 ++ [v] ++ [0] ++ [0]) f)]) rfl ?_
  have e : l0 ++ [v] ++ [0] ++ [0] = l0 ++ [v, 0, 0] := by simp
  rw [e]
  refine sw_aload_n (pc := 15) C d_Md_open_15 rfl rfl ?_
  refine sw_get (pc := 16) C inMd 0 rfl rfl 10 (by decide) t_582 rfl rfl d_Md_open_16 ?_
  refine sw_topi (z := nI ((l0 ++ [v, 0, 0]).length)) rfl ?_
  refine sw_topi (z := nI (l0.length + 3)) (by simp) ?_
  exact sw_iret (pc := 19) C E rfl (Nat.le_of_ble_eq_true rfl) (Nat.le_of_ble_eq_true rfl) d_Md_open_19 ⟨rfl, rfl⟩
set_option maxRecDepth 100000 in
set_option maxHeartbeats 4000000 in
theorem c_Md_close (l : Launch) (g : Gl) (R : Nat → Nat) (dn pl ss pt : Nat) (th rd : Bool) (wd sc : Nat) (l0 : List Nat) (f : Nat → Int32) (p : Nat) (h2 : 2 ≤ p) (hp : p ≤ l0.length) (hl : l0.length ≤ 1200) : Ct l g y_Md_close b_Md_close 2 none (rmD 0) [.ref (R 0), .int (nI p)] ([mdC R dn pl l0.length ss pt th rd wd sc, iaC g (R 8) 1200 (dcF l0 f)]) (fun u w => u = none ∧ w = [mdC R dn pl ((clsL l0 p).length) ss pt th rd wd sc, iaC g (R 8) 1200 (dcF (clsL l0 p) f)]) := by
  refine ct_of [some (.ref (R 0)), some (.int (nI p))] (by decide) (Nat.le_of_ble_eq_true rfl) rfl ?_
  intro X C E
  refine sw_aload_n (pc := 0) C d_Md_close_0 rfl rfl ?_
  refine sw_get (pc := 1) C inMd 0 rfl rfl 9 (by decide) t_581 rfl rfl d_Md_close_1 ?_
  refine sw_iload_n (pc := 4) C d_Md_close_4 rfl rfl ?_
  refine sw_iconst (pc := 5) C (nI 2) d_Md_close_5 (by decide) ?_
  refine sw_isub (pc := 6) C d_Md_close_6 ?_
  refine sw_topi (z := nI (p - 2)) (pk_sub (by omega)) ?_
  refine sw_aload_n (pc := 7) C d_Md_close_7 rfl rfl ?_
  refine sw_get (pc := 8) C inMd 0 rfl rfl 10 (by decide) t_582 rfl rfl d_Md_close_8 ?_
  refine sw_topi (z := nI l0.length) rfl ?_
  refine sw_iload_n (pc := 11) C d_Md_close_11 rfl rfl ?_
  refine sw_isub (pc := 12) C d_Md_close_12 ?_
  refine sw_topi (z := nI (l0.length - p)) (pk_sub (by omega)) ?_
  refine sw_sipush (pc := 13) C (nI 256) d_Md_close_13 (by decide) ?_
  refine sw_idiv (pc := 16) C d_Md_close_16 (by decide) ?_
  refine sw_topi (z := nI ((l0.length - p) / 256)) (pk_div (by omega) (by omega) (by omega)) ?_
  refine sw_iastN (pc := 17) C 1 (p - 2) rfl rfl (by omega) (by decide) d_Md_close_17 ?_
  refine sw_ws (ws' := [mdC R dn pl l0.length ss pt th rd wd sc, iaC g (R 8) 1200 (dcF (l0.set (p - 2) ((l0.length - p) / 256)) f)]) (by rw [← dcF_set f _ (by omega)]; rfl) ?_
  refine sw_aload_n (pc := 18) C d_Md_close_18 rfl rfl ?_
  refine sw_get (pc := 19) C inMd 0 rfl rfl 9 (by decide) t_581 rfl rfl d_Md_close_19 ?_
  refine sw_iload_n (pc := 22) C d_Md_close_22 rfl rfl ?_
  refine sw_iconst (pc := 23) C (nI 1) d_Md_close_23 (by decide) ?_
  refine sw_isub (pc := 24) C d_Md_close_24 ?_
  refine sw_topi (z := nI (p - 1)) (pk_sub (by omega)) ?_
  refine sw_aload_n (pc := 25) C d_Md_close_25 rfl rfl ?_
  refine sw_get (pc := 26) C inMd 0 rfl rfl 10 (by decide) t_582 rfl rfl d_Md_close_26 ?_
  refine sw_topi (z := nI l0.length) rfl ?_
  refine sw_iload_n (pc := 29) C d_Md_close_29 rfl rfl ?_
  refine sw_isub (pc := 30) C d_Md_close_30 ?_
  refine sw_topi (z := nI (l0.length - p)) (pk_sub (by omega)) ?_
  refine sw_sipush (pc := 31) C (nI 256) d_Md_close_31 (by decide) ?_
  refine sw_irem (pc := 34) C d_Md_close_34 (by decide) ?_
  refine sw_topi (z := nI ((l0.length - p) % 256)) (pk_rem (by omega) (by omega) (by omega)) ?_
  refine sw_iastN (pc := 35) C 1 (p - 1) rfl rfl (by omega) (by decide) d_Md_close_35 ?_
  refine sw_ws (ws' := [mdC R dn pl ((clsL l0 p).length) ss pt th rd wd sc, iaC g (R 8) 1200 (dcF (clsL l0 p) f)]) (by unfold clsL; rw [← dcF_set (l := l0.set (p - 2) ((l0.length - p) / 256)) (i := p - 1) f ((l0.length - p) % 256) (by rw [List.length_set]; omega), List.length_set, List.length_set]; rfl) ?_
  exact sw_vret (pc := 36) C E rfl (Nat.le_of_ble_eq_true rfl) (Nat.le_of_ble_eq_true rfl) d_Md_close_36 ⟨rfl, rfl⟩
theorem rng_succ (v sc k : Nat) : (List.range (k + 1)).map (cbyte v sc) = (List.range k).map (cbyte v sc) ++ [cbyte v sc k] := by
  rw [List.range_succ, List.map_append]
  rfl
set_option maxRecDepth 100000 in
set_option maxHeartbeats 4000000 in
theorem c_Md_putCode (l : Launch) (g : Gl) (R : Nat → Nat) (dn pl ss pt : Nat) (th rd : Bool) (wd sc : Nat) (l0 : List Nat) (f : Nat → Int32) (v : Nat) (hsc : sc ≤ 4000) (hl : l0.length + (16 + sc + 7) / 8 ≤ 1200) : Ct l g y_Md_putCode b_Md_putCode 5 none (rmD 1) [.ref (R 0)] ([mdC R dn pl l0.length ss pt th rd wd sc, iaC g (R 16) 4400 (nF (rdg (fun _ => 0) v sc)), iaC g (R 8) 1200 (dcF l0 f)]) (fun u w => u = none ∧ w = [mdC R dn pl ((l0 ++ cbytes v sc).length) ss pt th rd wd sc, iaC g (R 16) 4400 (nF (rdg (fun _ => 0) v sc)), iaC g (R 8) 1200 (dcF (l0 ++ cbytes v sc) f)]) := by
  refine ct_of [some (.ref (R 0)), none, none, none, none] (by decide) (Nat.le_of_ble_eq_true rfl) rfl ?_
  intro X C E
  have key : ∀ (nn k : Nat) , k + nn = (16 + sc + 7) / 8 → SW X g 5 0 0 ([mdC R dn pl ((l0 ++ (List.range k).map (cbyte v sc)).length) ss pt th rd wd sc, iaC g (R 16) 4400 (nF (rdg (fun _ => 0) v sc)), iaC g (R 8) 1200 (dcF (l0 ++ (List.range k).map (cbyte v sc)) f)]) 16 [some (.ref (R 0)), some (.int (nI ((16 + sc + 7) / 8))), some (.int (nI k)), none, none] [] := by
    intro nn
    induction nn with
    | zero =>
      intro k  hi 
      refine sw_iload_n (pc := 16) C d_Md_putCode_16 rfl rfl ?_
      refine sw_iload_n (pc := 17) C d_Md_putCode_17 rfl rfl ?_
      refine sw_icmp_geN (pc := 18) C 67 (by omega) (by omega) d_Md_putCode_18 (by decide) (fun hx => ?_) (fun hx => ?_)
      · skip
        have ek : k = (16 + sc + 7) / 8 := by omega
        subst ek
        exact sw_vret (pc := 67) C E rfl (Nat.le_of_ble_eq_true rfl) (Nat.le_of_ble_eq_true rfl) d_Md_putCode_67 ⟨rfl, rfl⟩
      omega
    | succ nn ih =>
      intro k  hi 
      refine sw_iload_n (pc := 16) C d_Md_putCode_16 rfl rfl ?_
      refine sw_iload_n (pc := 17) C d_Md_putCode_17 rfl rfl ?_
      refine sw_icmp_geN (pc := 18) C 67 (by omega) (by omega) d_Md_putCode_18 (by decide) (fun hx => ?_) (fun hx => ?_)
      · skip
        omega
      have ih0 := ih
      have inner : ∀ (nn i : Nat) , i + nn = 8 → SW X g 5 0 0 ([mdC R dn pl ((l0 ++ (List.range k).map (cbyte v sc)).length) ss pt th rd wd sc, iaC g (R 16) 4400 (nF (rdg (fun _ => 0) v sc)), iaC g (R 8) 1200 (dcF (l0 ++ (List.range k).map (cbyte v sc)) f)]) 26 [some (.ref (R 0)), some (.int (nI ((16 + sc + 7) / 8))), some (.int (nI k)), some (.int (nI (acc8 v sc k i))), some (.int (nI i))] [] := by
        intro nn
        induction nn with
        | zero =>
          intro i  hi 
          refine sw_iload (pc := 26) C d_Md_putCode_26 rfl ?_
          refine sw_bipush (pc := 28) C (nI 8) d_Md_putCode_28 (by decide) ?_
          refine sw_icmp_geN (pc := 30) C 56 (by omega) (by omega) d_Md_putCode_30 (by decide) (fun hx => ?_) (fun hx => ?_)
          · skip
            have ih := ih0
            have e8 : i = 8 := by omega
            subst e8
            rw [acc8_byte]
            refine sw_aload_n (pc := 56) C d_Md_putCode_56 rfl rfl ?_
            refine sw_iload_n (pc := 57) C d_Md_putCode_57 rfl rfl ?_
            refine sw_callVP (pc := 58) C (c_Md_put l g R dn pl ss pt th rd wd sc (l0 ++ (List.range k).map (cbyte v sc)) f (cbyte v sc k) (by simp; omega)) sv_Md_put t_695 rfl rfl rfl [0, 2] rfl rfl rfl rfl (Nat.le_of_ble_eq_true rfl) (Nat.le_of_ble_eq_true rfl) (Nat.le_of_ble_eq_true rfl) (Nat.le_of_ble_eq_true rfl) (Nat.le_of_ble_eq_true rfl) d_Md_putCode_58 (fun v w1 hp => ?_)
            obtain ⟨rfl, rfl⟩ := hp
            refine ⟨rfl, ?_⟩
            refine sw_ws (ws' := [mdC R dn pl ((l0 ++ (List.range (k + 1)).map (cbyte v sc)).length) ss pt th rd wd sc, iaC g (R 16) 4400 (nF (rdg (fun _ => 0) v sc)), iaC g (R 8) 1200 (dcF (l0 ++ (List.range (k + 1)).map (cbyte v sc)) f)]) (by rw [rng_succ, ← List.append_assoc]; rfl) ?_
            refine sw_iincN (pc := 61) C 1 d_Md_putCode_61 rfl (by decide) (by decide) rfl ?_
            refine sw_goto (pc := 64) C 16 d_Md_putCode_64 (by decide) ?_
            refine sw_drop 3 ?_
            refine sw_drop 4 ?_
            exact ih (k + 1) (by omega)
          omega
        | succ nn ih =>
          intro i  hi 
          refine sw_iload (pc := 26) C d_Md_putCode_26 rfl ?_
          refine sw_bipush (pc := 28) C (nI 8) d_Md_putCode_28 (by decide) ?_
          refine sw_icmp_geN (pc := 30) C 56 (by omega) (by omega) d_Md_putCode_30 (by decide) (fun hx => ?_) (fun hx => ?_)
          · skip
            omega
          have ih2 := ih
          have p1 := acc8_lt v sc k i
          have p2 : 2 ^ i ≤ 2 ^ 8 := Nat.pow_le_pow_right (by decide) (by omega)
          refine sw_iconst (pc := 33) C (nI 2) d_Md_putCode_33 (by decide) ?_
          refine sw_iload_n (pc := 34) C d_Md_putCode_34 rfl rfl ?_
          refine sw_imul (pc := 35) C d_Md_putCode_35 ?_
          refine sw_topi (z := nI (2 * acc8 v sc k i)) (pk_mul _ _) ?_
          refine sw_aload_n (pc := 36) C d_Md_putCode_36 rfl rfl ?_
          refine sw_get (pc := 37) C inMd 0 rfl rfl 24 (by decide) t_596 rfl rfl d_Md_putCode_37 ?_
          refine sw_bipush (pc := 40) C (nI 8) d_Md_putCode_40 (by decide) ?_
          refine sw_iload_n (pc := 42) C d_Md_putCode_42 rfl rfl ?_
          refine sw_imul (pc := 43) C d_Md_putCode_43 ?_
          refine sw_topi (z := nI (8 * k)) (pk_mul _ _) ?_
          refine sw_iload (pc := 44) C d_Md_putCode_44 rfl ?_
          refine sw_iadd (pc := 46) C d_Md_putCode_46 ?_
          refine sw_topi (z := nI ((8 * k) + i)) (nI_add _ _) ?_
          refine sw_ialdN (pc := 47) C 1 ((8 * k) + i) rfl rfl (by omega) (by decide) d_Md_putCode_47 ?_
          refine sw_topi (z := nI (rdg (fun _ => 0) v sc (8 * k + i))) rfl ?_
          refine sw_iadd (pc := 48) C d_Md_putCode_48 ?_
          refine sw_topi (z := nI ((2 * acc8 v sc k i) + (rdg (fun _ => 0) v sc (8 * k + i)))) (nI_add _ _) ?_
          refine sw_topi (z := nI (acc8 v sc k (i + 1))) (congrArg nI (acc8_rdg v sc k i).symm) ?_
          refine sw_istore_n (pc := 49) C d_Md_putCode_49 rfl (by decide) rfl ?_
          refine sw_iincN (pc := 50) C 1 d_Md_putCode_50 rfl (by decide) (by decide) rfl ?_
          refine sw_goto (pc := 53) C 26 d_Md_putCode_53 (by decide) ?_
          exact ih2 (i + 1) (by omega)
      refine sw_iconst (pc := 21) C (nI 0) d_Md_putCode_21 (by decide) ?_
      refine sw_istore_n (pc := 22) C d_Md_putCode_22 rfl (by decide) rfl ?_
      refine sw_iconst (pc := 23) C (nI 0) d_Md_putCode_23 (by decide) ?_
      refine sw_istore (pc := 24) C d_Md_putCode_24 (by decide) rfl ?_
      exact inner 8 0 (by omega)
  refine sw_bipush (pc := 0) C (nI 16) d_Md_putCode_0 (by decide) ?_
  refine sw_aload_n (pc := 2) C d_Md_putCode_2 rfl rfl ?_
  refine sw_get (pc := 3) C inMd 0 rfl rfl 23 (by decide) t_595 rfl rfl d_Md_putCode_3 ?_
  refine sw_topi (z := nI sc) rfl ?_
  refine sw_iadd (pc := 6) C d_Md_putCode_6 ?_
  refine sw_topi (z := nI (16 + sc)) (nI_add _ _) ?_
  refine sw_bipush (pc := 7) C (nI 7) d_Md_putCode_7 (by decide) ?_
  refine sw_iadd (pc := 9) C d_Md_putCode_9 ?_
  refine sw_topi (z := nI ((16 + sc) + 7)) (nI_add _ _) ?_
  refine sw_bipush (pc := 10) C (nI 8) d_Md_putCode_10 (by decide) ?_
  refine sw_idiv (pc := 12) C d_Md_putCode_12 (by decide) ?_
  refine sw_topi (z := nI (((16 + sc) + 7) / 8)) (pk_div (by omega) (by omega) (by omega)) ?_
  refine sw_istore_n (pc := 13) C d_Md_putCode_13 rfl (by decide) rfl ?_
  refine sw_iconst (pc := 14) C (nI 0) d_Md_putCode_14 (by decide) ?_
  refine sw_istore_n (pc := 15) C d_Md_putCode_15 rfl (by decide) rfl ?_
  refine sw_ws (ws' := [mdC R dn pl ((l0 ++ (List.range 0).map (cbyte v sc)).length) ss pt th rd wd sc, iaC g (R 16) 4400 (nF (rdg (fun _ => 0) v sc)), iaC g (R 8) 1200 (dcF (l0 ++ (List.range 0).map (cbyte v sc)) f)]) (by rw [List.range_zero, List.map_nil, List.append_nil]) ?_
  exact key ((16 + sc + 7) / 8) 0 (by omega)
theorem dgt_bit {l : List Nat} {fr n k : Nat} (hk : k < 8 * n) : dgt l fr (fr + n) k = l.getD (fr + k / 8) 0 / 2 ^ (7 - k % 8) % 2 := dgt_in (by omega)
set_option maxRecDepth 100000 in
set_option maxHeartbeats 4000000 in
theorem c_Md_load (l : Launch) (g : Gl) (R : Nat → Nat) (dn pl ss pt : Nat) (th rd : Bool) (wd sc : Nat) (l0 : List Nat) (f : Nat → Int32) (z o d : Nat → Int32) (fr n : Nat) (hfn : fr + n ≤ l0.length) (hl : bytesOK l0) : Ct l g y_Md_load b_Md_load 4 none (rmD 1) [.ref (R 0), .int (nI fr), .int (nI n)] ([mdC R dn pl l0.length ss pt th rd wd sc, iaC g (R 14) 48 z, iaC g (R 15) 48 o, iaC g (R 16) 4400 d, iaC g (R 8) 1200 (dcF l0 f)]) (fun u w => u = none ∧ w = wKm g R dn pl l0.length ss pt th (some (dgt l0 fr (fr + n))) (kInit (some (dgt l0 fr (fr + n)))) ++ [iaC g (R 8) 1200 (dcF l0 f)]) := by
  refine ct_of [some (.ref (R 0)), some (.int (nI fr)), some (.int (nI n)), none] (by decide) (Nat.le_of_ble_eq_true rfl) rfl ?_
  intro X C E
  have hl1 := hl.1
  have key : ∀ (nn k : Nat) (d : Nat → Int32), k + nn = 9600 → k ≤ 8 * n → (∀ j, j < k → d j = nI ((dgt l0 fr (fr + n)) j)) → (∀ j, k ≤ j → d j = nI 0) → SW X g 4 0 0 ([mdC R dn pl l0.length ss pt th true 65536 0, iaC g (R 14) 48 (nF (fun _ => 1)), iaC g (R 15) 48 (nF (fun _ => 1)), iaC g (R 16) 4400 d, iaC g (R 8) 1200 (dcF l0 f)]) 7 [some (.ref (R 0)), some (.int (nI fr)), some (.int (nI n)), some (.int (nI k))] [] := by
    intro nn
    induction nn with
    | zero =>
      intro k d hk hkn hd hz
      refine sw_iload_n (pc := 7) C d_Md_load_7 rfl rfl ?_
      refine sw_bipush (pc := 8) C (nI 8) d_Md_load_8 (by decide) ?_
      refine sw_iload_n (pc := 10) C d_Md_load_10 rfl rfl ?_
      refine sw_imul (pc := 11) C d_Md_load_11 ?_
      refine sw_topi (z := nI (8 * n)) (pk_mul _ _) ?_
      refine sw_icmp_geN (pc := 12) C 55 (by omega) (by omega) d_Md_load_12 (by decide) (fun hx => ?_) (fun hx => ?_)
      · skip
        have HF : ∀ j, j < 4400 → d j = nF (dgt l0 fr (fr + n)) j := by
          intro j hj
          by_cases h : j < k
          · rw [hd j h]; rfl
          · rw [hz j (by omega)]
            show nI 0 = nI ((dgt l0 fr (fr + n)) j)
            rw [dgt_out (by omega)]
        refine sw_arr (f' := nF (rdg (dgt l0 fr (fr + n)) (kv0 (some (dgt l0 fr (fr + n)))) 0)) 3 rfl (fun j hj => by rw [show rdg (dgt l0 fr (fr + n)) (kv0 (some (dgt l0 fr (fr + n)))) 0 = (dgt l0 fr (fr + n)) from rdg_load (dgt_le l0 fr (fr + n))]; exact HF j hj) ?_
        exact sw_vret (pc := 55) C E rfl (Nat.le_of_ble_eq_true rfl) (Nat.le_of_ble_eq_true rfl) d_Md_load_55 ⟨rfl, rfl⟩
      omega
    | succ nn ih =>
      intro k d hk hkn hd hz
      refine sw_iload_n (pc := 7) C d_Md_load_7 rfl rfl ?_
      refine sw_bipush (pc := 8) C (nI 8) d_Md_load_8 (by decide) ?_
      refine sw_iload_n (pc := 10) C d_Md_load_10 rfl rfl ?_
      refine sw_imul (pc := 11) C d_Md_load_11 ?_
      refine sw_topi (z := nI (8 * n)) (pk_mul _ _) ?_
      refine sw_icmp_geN (pc := 12) C 55 (by omega) (by omega) d_Md_load_12 (by decide) (fun hx => ?_) (fun hx => ?_)
      · skip
        have HF : ∀ j, j < 4400 → d j = nF (dgt l0 fr (fr + n)) j := by
          intro j hj
          by_cases h : j < k
          · rw [hd j h]; rfl
          · rw [hz j (by omega)]
            show nI 0 = nI ((dgt l0 fr (fr + n)) j)
            rw [dgt_out (by omega)]
        refine sw_arr (f' := nF (rdg (dgt l0 fr (fr + n)) (kv0 (some (dgt l0 fr (fr + n)))) 0)) 3 rfl (fun j hj => by rw [show rdg (dgt l0 fr (fr + n)) (kv0 (some (dgt l0 fr (fr + n)))) 0 = (dgt l0 fr (fr + n)) from rdg_load (dgt_le l0 fr (fr + n))]; exact HF j hj) ?_
        exact sw_vret (pc := 55) C E rfl (Nat.le_of_ble_eq_true rfl) (Nat.le_of_ble_eq_true rfl) d_Md_load_55 ⟨rfl, rfl⟩
      refine sw_iload_n (pc := 15) C d_Md_load_15 rfl rfl ?_
      refine sw_sipush (pc := 16) C (nI 4400) d_Md_load_16 (by decide) ?_
      refine sw_icmp_geN (pc := 19) C 55 (by omega) (by omega) d_Md_load_19 (by decide) (fun hy => ?_) (fun hy => ?_)
      · skip
        have HF : ∀ j, j < 4400 → d j = nF (dgt l0 fr (fr + n)) j := fun j hj => by rw [hd j (by omega)]; rfl
        refine sw_arr (f' := nF (rdg (dgt l0 fr (fr + n)) (kv0 (some (dgt l0 fr (fr + n)))) 0)) 3 rfl (fun j hj => by rw [show rdg (dgt l0 fr (fr + n)) (kv0 (some (dgt l0 fr (fr + n)))) 0 = (dgt l0 fr (fr + n)) from rdg_load (dgt_le l0 fr (fr + n))]; exact HF j hj) ?_
        exact sw_vret (pc := 55) C E rfl (Nat.le_of_ble_eq_true rfl) (Nat.le_of_ble_eq_true rfl) d_Md_load_55 ⟨rfl, rfl⟩
      have hby := hl.2 (fr + k / 8)
      refine sw_aload_n (pc := 22) C d_Md_load_22 rfl rfl ?_
      refine sw_get (pc := 23) C inMd 0 rfl rfl 24 (by decide) t_596 rfl rfl d_Md_load_23 ?_
      refine sw_iload_n (pc := 26) C d_Md_load_26 rfl rfl ?_
      refine sw_aload_n (pc := 27) C d_Md_load_27 rfl rfl ?_
      refine sw_get (pc := 28) C inMd 0 rfl rfl 9 (by decide) t_581 rfl rfl d_Md_load_28 ?_
      refine sw_iload_n (pc := 31) C d_Md_load_31 rfl rfl ?_
      refine sw_iload_n (pc := 32) C d_Md_load_32 rfl rfl ?_
      refine sw_bipush (pc := 33) C (nI 8) d_Md_load_33 (by decide) ?_
      refine sw_idiv (pc := 35) C d_Md_load_35 (by decide) ?_
      refine sw_topi (z := nI (k / 8)) (pk_div (by omega) (by omega) (by omega)) ?_
      refine sw_iadd (pc := 36) C d_Md_load_36 ?_
      refine sw_topi (z := nI (fr + (k / 8))) (nI_add _ _) ?_
      refine sw_ialdN (pc := 37) C 4 (fr + (k / 8)) rfl rfl (by omega) (by decide) d_Md_load_37 ?_
      refine sw_topi (z := nI (l0.getD (fr + k / 8) 0)) (dcF_get (by omega)) ?_
      refine sw_bipush (pc := 38) C (nI 7) d_Md_load_38 (by decide) ?_
      refine sw_iload_n (pc := 40) C d_Md_load_40 rfl rfl ?_
      refine sw_bipush (pc := 41) C (nI 8) d_Md_load_41 (by decide) ?_
      refine sw_irem (pc := 43) C d_Md_load_43 (by decide) ?_
      refine sw_topi (z := nI (k % 8)) (pk_rem (by omega) (by omega) (by omega)) ?_
      refine sw_isub (pc := 44) C d_Md_load_44 ?_
      refine sw_topi (z := nI (7 - (k % 8))) (pk_sub (by omega)) ?_
      refine sw_ishr (pc := 45) C d_Md_load_45 ?_
      refine sw_topi (z := nI ((l0.getD (fr + k / 8) 0) / 2 ^ (7 - k % 8))) (shr_nI (by omega) (by omega)) ?_
      refine sw_iconst (pc := 46) C (nI 1) d_Md_load_46 (by decide) ?_
      refine sw_iand (pc := 47) C d_Md_load_47 ?_
      refine sw_topi (z := nI ((dgt l0 fr (fr + n)) k)) (by rw [and1, dgt_bit (by omega)]) ?_
      refine sw_iastN (pc := 48) C 3 k rfl rfl (by omega) (by decide) d_Md_load_48 ?_
      refine sw_iincN (pc := 49) C 1 d_Md_load_49 rfl (by decide) (by decide) rfl ?_
      refine sw_goto (pc := 52) C 7 d_Md_load_52 (by decide) ?_
      refine ih (k + 1) (upd d k (nI ((dgt l0 fr (fr + n)) k))) (by omega) (by omega) (fun j hj => ?_) (fun j hj => ?_)
      · unfold upd
        by_cases e : j = k
        · rw [if_pos e, e]
        · rw [if_neg e]; exact hd j (by omega)
      · unfold upd
        rw [if_neg (by omega)]
        exact hz j (by omega)
  refine sw_aload_n (pc := 0) C d_Md_load_0 rfl rfl ?_
  refine sw_iconst (pc := 1) C (nI 1) d_Md_load_1 (by decide) ?_
  refine sw_topi (z := bI true) (by decide) ?_
  refine sw_callVP (pc := 2) C (c_Md_begin l g R dn pl l0.length ss pt th rd wd sc true z o d) sv_Md_begin t_707 rfl rfl rfl [0, 1, 2, 3] rfl rfl rfl rfl (Nat.le_of_ble_eq_true rfl) (Nat.le_of_ble_eq_true rfl) (Nat.le_of_ble_eq_true rfl) (Nat.le_of_ble_eq_true rfl) (Nat.le_of_ble_eq_true rfl) d_Md_load_2 (fun v w1 hp => ?_)
  obtain ⟨rfl, rfl⟩ := hp
  refine ⟨rfl, ?_⟩
  refine sw_ws (ws' := [mdC R dn pl l0.length ss pt th true 65536 0, iaC g (R 14) 48 (nF (fun _ => 1)), iaC g (R 15) 48 (nF (fun _ => 1)), iaC g (R 16) 4400 (nF (fun _ => 0)), iaC g (R 8) 1200 (dcF l0 f)]) rfl ?_
  refine sw_iconst (pc := 5) C (nI 0) d_Md_load_5 (by decide) ?_
  refine sw_istore_n (pc := 6) C d_Md_load_6 rfl (by decide) rfl ?_
  exact key 9600 0 (nF (fun _ => 0)) (by omega) (by omega) (fun j hj => absurd hj (Nat.not_lt_zero _)) (fun j _ => rfl)
