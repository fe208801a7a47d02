/-! the reference: decode -/
theorem FL_1 {l : List Nat} {K : Nat} (h : FL l K 0) (hk : kdA l K = 1) : shG l (cK l 1 K) (hd l K + 3) (lnA l K) := by
  unfold FL at h
  rcases h with ⟨_, e⟩ | ⟨_, _, e⟩ | ⟨_, _, _, ⟨g, _⟩ | ⟨_, e⟩⟩ | ⟨_, _, e, _⟩ | ⟨_, _, e, _⟩
  · omega
  · omega
  · exact g
  · omega
  · omega
  · omega
theorem FL_2 {l : List Nat} {K : Nat} (h : FL l K 0) (hk : kdA l K = 2) : plG l (cK l 1 K) (cP l K) (hd l K + 3) (lnA l K) := by
  unfold FL at h
  rcases h with ⟨_, e⟩ | ⟨_, _, e⟩ | ⟨_, _, e, _⟩ | ⟨_, _, _, ⟨g, _⟩ | ⟨_, e⟩⟩ | ⟨_, _, e, _⟩
  · omega
  · omega
  · omega
  · exact g
  · omega
  · omega
theorem FL_3 {l : List Nat} {K : Nat} (h : FL l K 0) (hk : kdA l K = 3 ∨ kdA l K = 4) : lyG l (cK l (kdA l K) K) (hd l K + 3) (lnA l K) := by
  unfold FL at h
  rcases h with ⟨_, e⟩ | ⟨_, _, e⟩ | ⟨_, _, e, _⟩ | ⟨_, _, e, _⟩ | ⟨_, _, _, ⟨g, _⟩ | ⟨_, e⟩⟩
  · omega
  · omega
  · omega
  · omega
  · exact g
  · omega
theorem FLs_hd {l : List Nat} : ∀ {K : Nat}, (∀ j, j < K → FL l j 0) → hd l K ≤ l.length + 2
  | 0, _ => by show 2 ≤ _; omega
  | K + 1, h => by
    have := (FL_in (h K (by omega))).1
    omega
def dIs (l : List Nat) (j ss pt : Nat) (sn : Nat → Int64) (fp fa co un : Nat → Int32) : Prop := (ss = cK l 1 j ∧ pt = cP l j) ∧ (∀ k, k < ss → sn k = lN (bS l j k) ∧ bS l j k < 2 ^ 64) ∧ (∀ i, i < pt → fp i = nI (pS l 0 j i) ∧ fa i = nI (pS l 1 j i)) ∧ ly2 co (oS l 3 8 j) (oS l 4 4 j) id ∧ ly2 un (eS l 3 8 j) (eS l 4 4 j) clp
theorem d_0 (l : List Nat) (sn : Nat → Int64) (fp fa : Nat → Int32) {co un : Nat → Int32} (h : ∀ j, j < 128 → co j = nI 0 ∧ un j = nI 0) : dIs l 0 0 0 sn fp fa co un := by
  refine ⟨⟨rfl, rfl⟩, fun k hk => absurd hk (Nat.not_lt_zero _), fun k hk => absurd hk (Nat.not_lt_zero _), ⟨fun y x hy hx => ?_, fun y x hy hx => ?_⟩, fun y x hy hx => ?_, fun y x hy hx => ?_⟩
  · exact (h _ (by omega)).1
  · exact (h _ (by omega)).1
  · rw [(h (8 * y + x) (by omega)).2]; rfl
  · rw [(h (64 + (8 * y + x)) (by omega)).2]; rfl
theorem d_sh {l : List Nat} {K ss pt : Nat} {sn : Nat → Int64} {fp fa co un : Nat → Int32} (D : dIs l K ss pt sn fp fa co un) (hk : kdA l K = 1) (G : shG l (cK l 1 K) (hd l K + 3) (lnA l K)) : dIs l (K + 1) (ss + 1) pt (vp_updL sn ss (lN (rdBits l (fun i => sb (bS l K i) 8 8) (hd l K + 3) (lnA l K)))) fp fa co un := by
  obtain ⟨⟨a1, a2⟩, a3, a4, a5, a6⟩ := D
  obtain ⟨g1, g2, g3, g4, g5⟩ := G
  have hr := rdBits_ok (l := l) (P := fun i => sb (bS l K i) 8 8) (fr := hd l K + 3) (sz := lnA l K) (fun k x y => sb_le _ _ _ _ _) g3 g4
  have e0 : bS l (K + 1) = upN (bS l K) (cK l 1 K) (rdBits l (fun i => sb (bS l K i) 8 8) (hd l K + 3) (lnA l K)) := by
    show (if kdA l K = 1 then _ else _) = _
    rw [if_pos hk]
  refine ⟨⟨by rw [cK_yes hk, a1], by rw [cP_no (by omega)]; exact a2⟩, fun k hk8 => ?_, by rw [pS_no (by omega), pS_no (by omega)]; exact a4, by rw [oS_no (by omega), oS_no (by omega)]; exact a5, by rw [eS_no (by omega), eS_no (by omega)]; exact a6⟩
  rw [e0, ← a1]
  by_cases e : k = ss
  · subst e
    rw [vpL_at, upN_at]
    exact ⟨rfl, hr.1⟩
  · rw [vpL_ne e, upN_ne e]
    exact a3 k (by omega)
theorem d_pl {l : List Nat} {K ss pt : Nat} {sn : Nat → Int64} {fp fa co un fp1 fa1 : Nat → Int32} (D : dIs l K ss pt sn fp fa co un) (hk : kdA l K = 2) (h : (∀ i, i < pt → fp1 i = fp i ∧ fa1 i = fa i) ∧ ∀ i, i < lnA l K / 2 → fp1 (pt + i) = nI (l.getD (hd l K + 3 + 2 * i) 0) ∧ fa1 (pt + i) = nI (l.getD (hd l K + 3 + 2 * i + 1) 0)) : dIs l (K + 1) ss (pt + lnA l K / 2) sn fp1 fa1 co un := by
  obtain ⟨⟨a1, a2⟩, a3, a4, a5, a6⟩ := D
  have e0 : ∀ o, pS l o (K + 1) = plU l (hd l K + 3) (cP l K) o (pS l o K) (lnA l K / 2) := by
    intro o
    show (if kdA l K = 2 then _ else _) = _
    rw [if_pos hk]
  refine ⟨⟨by rw [cK_no (by omega)]; exact a1, ?_⟩, by rw [bS_no (by omega)]; exact a3, fun i hi => ?_, by rw [oS_no (by omega), oS_no (by omega)]; exact a5, by rw [eS_no (by omega), eS_no (by omega)]; exact a6⟩
  · show _ = cP l K + (if kdA l K = 2 then lnA l K / 2 else 0)
    rw [if_pos hk, a2]
  · rw [e0, e0, ← a2]
    by_cases e : i < pt
    · rw [plU_lo e, plU_lo e, (h.1 i e).1, (h.1 i e).2]
      exact a4 i e
    · obtain ⟨j, rfl⟩ : ∃ j, i = pt + j := ⟨i - pt, by omega⟩
      rw [plU_hi _ (by omega), plU_hi _ (by omega)]
      exact h.2 j (by omega)
theorem rd_co {l : List Nat} {n kn fr sz : Nat} {gv co : Nat → Int32} (hn : n = 4 ∨ n = 8) (hg : ∀ k, k < n * n → gv (i8 n k) = lyCV l n fr sz k) : ∀ y x, y < n → x < n → cpy kn co gv 64 (64 * kn + (8 * y + x)) = lyCV l n fr sz (n * y + x) := by
  intro y x hy hx
  have d := dm_at (n := n) (y := y) hx
  have hk : n * y + x < n * n := by rcases hn with rfl | rfl <;> omega
  have h := hg (n * y + x) hk
  unfold i8 at h
  rw [d.1, d.2] at h
  unfold cpy
  rw [if_pos (by omega), ← h]
  congr 1
  omega
theorem rd_un {l : List Nat} {n kn fr sz : Nat} {gv un : Nat → Int32} (hn : n = 4 ∨ n = 8) (hg : ∀ k, k < n * n → gv (i8 n k) = lyCV l n fr sz k) : ∀ y x, y < n → x < n → clp (cpy kn un (flat 8 (undoN n (fun y x => gv (8 * y + x)))) 64 (64 * kn + (8 * y + x))) = lyCE l n fr sz (n * y + x) := by
  intro y x hy hx
  have hc := undoN_cong (n := n) (G := fun y x => gv (8 * y + x)) (G' := fun y x => lyCV l n fr sz (n * y + x)) hn (fun y x hy hx => by
    have d := dm_at (n := n) (y := y) hx
    have hk : n * y + x < n * n := by rcases hn with rfl | rfl <;> omega
    have h := hg (n * y + x) hk
    unfold i8 at h
    rw [d.1, d.2] at h
    exact h) y x hy hx
  unfold cpy lyCE
  rw [if_pos (by omega), show 64 * kn + (8 * y + x) - 64 * kn = 8 * y + x by omega, flat_at (by omega), flat_at hx, hc]
theorem cpy_out {kn : Nat} {co gv : Nat → Int32} {j : Nat} (h : j < 64 * kn ∨ 64 * kn + 64 ≤ j) : cpy kn co gv 64 j = co j := by
  unfold cpy
  rw [if_neg (by omega)]
theorem d_l0 {l : List Nat} {K ss pt : Nat} {sn : Nat → Int64} {fp fa co un gv : Nat → Int32} (D : dIs l K ss pt sn fp fa co un) (hk : kdA l K = 3) (hg : ∀ k, k < 8 * 8 → gv (i8 8 k) = lyCV l 8 (hd l K + 3) (lnA l K) k) : dIs l (K + 1) ss pt sn fp fa (cpy 0 co gv 64) (cpy 0 un (flat 8 (undoN 8 (fun y x => gv (8 * y + x)))) 64) := by
  obtain ⟨⟨a1, a2⟩, a3, a4, a5, a6⟩ := D
  have eo : oS l 3 8 (K + 1) = lyCV l 8 (hd l K + 3) (lnA l K) := by show (if kdA l K = 3 then _ else _) = _; rw [if_pos hk]
  have ee : eS l 3 8 (K + 1) = lyCE l 8 (hd l K + 3) (lnA l K) := by show (if kdA l K = 3 then _ else _) = _; rw [if_pos hk]
  refine ⟨⟨by rw [cK_no (by omega)]; exact a1, by rw [cP_no (by omega)]; exact a2⟩, by rw [bS_no (by omega)]; exact a3, by rw [pS_no (by omega), pS_no (by omega)]; exact a4, ⟨?_, ?_⟩, ?_, ?_⟩
  · rw [eo]
    intro y x hy hx
    have := rd_co (kn := 0) (co := co) (Or.inr rfl) hg y x hy hx
    rwa [show 64 * 0 + (8 * y + x) = 8 * y + x by omega] at this
  · rw [oS_no (by omega)]
    intro y x hy hx
    rw [cpy_out (Or.inr (by omega))]
    exact a5.2 y x hy hx
  · rw [ee]
    intro y x hy hx
    have := rd_un (kn := 0) (un := un) (Or.inr rfl) hg y x hy hx
    rwa [show 64 * 0 + (8 * y + x) = 8 * y + x by omega] at this
  · rw [eS_no (by omega)]
    intro y x hy hx
    rw [cpy_out (Or.inr (by omega))]
    exact a6.2 y x hy hx
theorem d_l1 {l : List Nat} {K ss pt : Nat} {sn : Nat → Int64} {fp fa co un gv : Nat → Int32} (D : dIs l K ss pt sn fp fa co un) (hk : kdA l K = 4) (hg : ∀ k, k < 4 * 4 → gv (i8 4 k) = lyCV l 4 (hd l K + 3) (lnA l K) k) : dIs l (K + 1) ss pt sn fp fa (cpy 1 co gv 64) (cpy 1 un (flat 8 (undoN 4 (fun y x => gv (8 * y + x)))) 64) := by
  obtain ⟨⟨a1, a2⟩, a3, a4, a5, a6⟩ := D
  have eo : oS l 4 4 (K + 1) = lyCV l 4 (hd l K + 3) (lnA l K) := by show (if kdA l K = 4 then _ else _) = _; rw [if_pos hk]
  have ee : eS l 4 4 (K + 1) = lyCE l 4 (hd l K + 3) (lnA l K) := by show (if kdA l K = 4 then _ else _) = _; rw [if_pos hk]
  refine ⟨⟨by rw [cK_no (by omega)]; exact a1, by rw [cP_no (by omega)]; exact a2⟩, by rw [bS_no (by omega)]; exact a3, by rw [pS_no (by omega), pS_no (by omega)]; exact a4, ⟨?_, ?_⟩, ?_, ?_⟩
  · rw [oS_no (by omega)]
    intro y x hy hx
    rw [cpy_out (Or.inl (by omega))]
    exact a5.1 y x hy hx
  · rw [eo]
    exact rd_co (kn := 1) (co := co) (Or.inl rfl) hg
  · rw [eS_no (by omega)]
    intro y x hy hx
    rw [cpy_out (Or.inl (by omega))]
    exact a6.1 y x hy hx
  · rw [ee]
    exact rd_un (kn := 1) (un := un) (Or.inl rfl) hg
set_option maxRecDepth 100000 in
set_option maxHeartbeats 4000000 in
theorem c_Md_decode (l : Launch) (g : Gl) (R : Nat → Nat) (dn pl ss pt : Nat) (th rd : Bool) (wd sc : Nat) (l0 : List Nat) (f : Nat → Int32) (hl : bytesOK l0) (z o d : Nat → Int32) (sn : Nat → Int64) (fp fa co un gr r x p m : Nat → Int32) : Ct l g y_Md_decode b_Md_decode 3 (some .int) (rmD 4) [.ref (R 0)] ([mdC R dn pl l0.length ss pt th rd wd sc, iaC g (R 14) 48 z, iaC g (R 15) 48 o, iaC g (R 16) 4400 d, iaC g (R 8) 1200 (dcF l0 f), laC g (R 9) 8 sn, iaC g (R 10) 20 fp, iaC g (R 11) 20 fa, iaC g (R 12) 128 co, iaC g (R 13) 128 un, iaC g (R 17) 64 gr, iaC g (R 18) 8 r, iaC g (R 19) 8 x, iaC g (R 20) 64 p, zaC g (R 21) 64 m]) (fun u q => ∃ K v : Nat, u = some (.int (nI v)) ∧ RD l0 K v ∧ ((¬ v = 0 ∧ q = [mdC R dn pl l0.length ss pt th rd wd sc, iaC g (R 14) 48 z, iaC g (R 15) 48 o, iaC g (R 16) 4400 d, iaC g (R 8) 1200 (dcF l0 f), laC g (R 9) 8 sn, iaC g (R 10) 20 fp, iaC g (R 11) 20 fa, iaC g (R 12) 128 co, iaC g (R 13) 128 un, iaC g (R 17) 64 gr, iaC g (R 18) 8 r, iaC g (R 19) 8 x, iaC g (R 20) 64 p, zaC g (R 21) 64 m]) ∨ (v = 0 ∧ ∃ (r1 : Bool) (w1 s1 ss1 pt1 : Nat) (z1 o1 d1 : Nat → Int32) (sn1 : Nat → Int64) (fp1 fa1 co1 un1 g1 r2 x1 p1 m1 : Nat → Int32), dIs l0 K ss1 pt1 sn1 fp1 fa1 co1 un1 ∧ q = [mdC R dn pl l0.length ss1 pt1 true r1 w1 s1, iaC g (R 14) 48 z1, iaC g (R 15) 48 o1, iaC g (R 16) 4400 d1, iaC g (R 8) 1200 (dcF l0 f), laC g (R 9) 8 sn1, iaC g (R 10) 20 fp1, iaC g (R 11) 20 fa1, iaC g (R 12) 128 co1, iaC g (R 13) 128 un1, iaC g (R 17) 64 g1, iaC g (R 18) 8 r2, iaC g (R 19) 8 x1, iaC g (R 20) 64 p1, zaC g (R 21) 64 m1]))) := by
  refine ct_of [some (.ref (R 0)), none, none] (by decide) (Nat.le_of_ble_eq_true rfl) rfl ?_
  intro X C E
  have h12 := hl.1
  refine sw_aload_n (pc := 0) C d_Md_decode_0 rfl rfl ?_
  refine sw_callVR (pc := 1) C (c_Md_fault l g R dn pl ss pt th rd wd sc l0 f hl) sv_Md_fault t_780 rfl rfl rfl [0, 4] rfl rfl rfl rfl (Nat.le_of_ble_eq_true rfl) (Nat.le_of_ble_eq_true rfl) (Nat.le_of_ble_eq_true rfl) (Nat.le_of_ble_eq_true rfl) (Nat.le_of_ble_eq_true rfl) d_Md_decode_1 (fun v w1 hp => ?_)
  obtain ⟨⟨K, v, rfl, hR⟩, rfl⟩ := hp
  refine ⟨rfl, ?_⟩
  have hv6 := RD_le hR
  refine sw_istore_n (pc := 4) C d_Md_decode_4 rfl (by decide) rfl ?_
  refine sw_iload_n (pc := 5) C d_Md_decode_5 rfl rfl ?_
  refine sw_if_leN (pc := 6) C 11 (by omega) d_Md_decode_6 (by decide) (fun h0 => ?_) (fun h0 => ?_)
  · skip
    subst h0
    have hR2 := hR
    obtain ⟨sg, hF, hlen⟩ : stG l0 ∧ (∀ j, j < K → hd l0 j < l0.length ∧ FL l0 j 0) ∧ l0.length ≤ hd l0 K := by
      rcases hR with ⟨_, _, e⟩ | ⟨sg, hF, ⟨hlen, _⟩ | ⟨_, _, e⟩⟩
      · omega
      · exact ⟨sg, hF, hlen⟩
      · exact absurd rfl e
    have chunks : ∀ (nn j : Nat) (rd : Bool) (wd sc ss pt : Nat) (z o d : Nat → Int32) (sn : Nat → Int64) (fp fa co un gr r x p m : Nat → Int32), j + nn = K → (dIs l0 j ss pt sn fp fa co un) → SW X g 3 0 0 ([mdC R dn pl l0.length ss pt true rd wd sc, iaC g (R 14) 48 z, iaC g (R 15) 48 o, iaC g (R 16) 4400 d, iaC g (R 8) 1200 (dcF l0 f), laC g (R 9) 8 sn, iaC g (R 10) 20 fp, iaC g (R 11) 20 fa, iaC g (R 12) 128 co, iaC g (R 13) 128 un, iaC g (R 17) 64 gr, iaC g (R 18) 8 r, iaC g (R 19) 8 x, iaC g (R 20) 64 p, zaC g (R 21) 64 m]) 57 [some (.ref (R 0)), some (.int (nI 0)), some (.int (nI (hd l0 j)))] [] := by
      intro nn
      induction nn with
      | zero =>
        intro j rd wd sc ss pt z o d sn fp fa co un gr r x p m hi hI
        have hjl : j < K → hd l0 j < l0.length := fun h => (hF j h).1
        have hje : j = K → l0.length ≤ hd l0 j := fun e => by rw [e]; exact hlen
        have hjb := FLs_hd (l := l0) (K := j) (fun i hi => (hF i (by omega)).2)
        refine sw_iload_n (pc := 57) C d_Md_decode_57 rfl rfl ?_
        refine sw_aload_n (pc := 58) C d_Md_decode_58 rfl rfl ?_
        refine sw_get (pc := 59) C inMd 0 rfl rfl 10 (by decide) t_582 rfl rfl d_Md_decode_59 ?_
        refine sw_topi (z := nI l0.length) rfl ?_
        refine sw_icmp_geN (pc := 62) C 127 (by omega) (by omega) d_Md_decode_62 (by decide) (fun hx => ?_) (fun hx => ?_)
        · skip
          have ej : K = j := by omega
          subst ej
          refine sw_iconst (pc := 127) C (nI 0) d_Md_decode_127 (by decide) ?_
          exact sw_iret (pc := 128) C E rfl (Nat.le_of_ble_eq_true rfl) (Nat.le_of_ble_eq_true rfl) d_Md_decode_128 ⟨K, 0, rfl, hR2, Or.inr ⟨rfl, _, _, _, _, _, _, _, _, _, _, _, _, _, _, _, _, _, _, hI, rfl⟩⟩
        omega
      | succ nn ih =>
        intro j rd wd sc ss pt z o d sn fp fa co un gr r x p m hi hI
        have hjl : j < K → hd l0 j < l0.length := fun h => (hF j h).1
        have hje : j = K → l0.length ≤ hd l0 j := fun e => by rw [e]; exact hlen
        have hjb := FLs_hd (l := l0) (K := j) (fun i hi => (hF i (by omega)).2)
        refine sw_iload_n (pc := 57) C d_Md_decode_57 rfl rfl ?_
        refine sw_aload_n (pc := 58) C d_Md_decode_58 rfl rfl ?_
        refine sw_get (pc := 59) C inMd 0 rfl rfl 10 (by decide) t_582 rfl rfl d_Md_decode_59 ?_
        refine sw_topi (z := nI l0.length) rfl ?_
        refine sw_icmp_geN (pc := 62) C 127 (by omega) (by omega) d_Md_decode_62 (by decide) (fun hx => ?_) (fun hx => ?_)
        · skip
          omega
        have hjK : j < K := by omega
        have hfl := (hF j hjK).2
        obtain ⟨hin, hk1, hk4⟩ := FL_in hfl
        have hn := hd_next l0 j
        have e0 : lenC l0 (hd l0 j) = lnA l0 j := rfl
        have hbk : kdA l0 j < 256 := hl.2 _
        obtain ⟨⟨i1, i2⟩, i3, i4, i5, i6⟩ := id hI
        have ihj := ih
        have c114 : ∀ (rd : Bool) (wd sc ss pt : Nat) (z o d : Nat → Int32) (sn : Nat → Int64) (fp fa co un gr r x p m : Nat → Int32), dIs l0 (j + 1) ss pt sn fp fa co un → SW X g 3 0 0 ([mdC R dn pl l0.length ss pt true rd wd sc, iaC g (R 14) 48 z, iaC g (R 15) 48 o, iaC g (R 16) 4400 d, iaC g (R 8) 1200 (dcF l0 f), laC g (R 9) 8 sn, iaC g (R 10) 20 fp, iaC g (R 11) 20 fa, iaC g (R 12) 128 co, iaC g (R 13) 128 un, iaC g (R 17) 64 gr, iaC g (R 18) 8 r, iaC g (R 19) 8 x, iaC g (R 20) 64 p, zaC g (R 21) 64 m]) 114 [some (.ref (R 0)), some (.int (nI 0)), some (.int (nI (hd l0 j)))] [] := by
          intro rd wd sc ss pt z o d sn fp fa co un gr r x p m hI2
          refine sw_iload_n (pc := 114) C d_Md_decode_114 rfl rfl ?_
          refine sw_iconst (pc := 115) C (nI 3) d_Md_decode_115 (by decide) ?_
          refine sw_aload_n (pc := 116) C d_Md_decode_116 rfl rfl ?_
          refine sw_iload_n (pc := 117) C d_Md_decode_117 rfl rfl ?_
          refine sw_callVR (pc := 118) C (c_Md_chLen l g R dn pl ss pt true rd wd sc l0 f hl (hd l0 j) (by omega)) sv_Md_chunkLength t_788 rfl rfl rfl [0, 4] rfl rfl rfl rfl (Nat.le_of_ble_eq_true rfl) (Nat.le_of_ble_eq_true rfl) (Nat.le_of_ble_eq_true rfl) (Nat.le_of_ble_eq_true rfl) (Nat.le_of_ble_eq_true rfl) d_Md_decode_118 (fun v w1 hp => ?_)
          obtain ⟨rfl, rfl⟩ := hp
          refine ⟨rfl, ?_⟩
          refine sw_iadd (pc := 121) C d_Md_decode_121 ?_
          refine sw_topi (z := nI (3 + (lenC l0 (hd l0 j)))) (nI_add _ _) ?_
          refine sw_iadd (pc := 122) C d_Md_decode_122 ?_
          refine sw_topi (z := nI ((hd l0 j) + (3 + (lenC l0 (hd l0 j))))) (nI_add _ _) ?_
          refine sw_topi (z := nI (hd l0 (j + 1))) (by rw [hd_next]; congr 1; omega) ?_
          refine sw_istore_n (pc := 123) C d_Md_decode_123 rfl (by decide) rfl ?_
          refine sw_goto (pc := 124) C 57 d_Md_decode_124 (by decide) ?_
          exact ihj (j + 1) rd wd sc ss pt z o d sn fp fa co un gr r x p m (by omega) hI2
        refine sw_aload_n (pc := 65) C d_Md_decode_65 rfl rfl ?_
        refine sw_get (pc := 66) C inMd 0 rfl rfl 9 (by decide) t_581 rfl rfl d_Md_decode_66 ?_
        refine sw_iload_n (pc := 69) C d_Md_decode_69 rfl rfl ?_
        refine sw_ialdN (pc := 70) C 4 (hd l0 j) rfl rfl (by omega) (by decide) d_Md_decode_70 ?_
        refine sw_topi (z := nI (kdA l0 j)) (dcF_get (by omega)) ?_
        refine sw_iconst (pc := 71) C (nI 1) d_Md_decode_71 (by decide) ?_
        refine sw_icmp_neN (pc := 72) C 83 (by omega) (by omega) d_Md_decode_72 (by decide) (fun h1 => ?_) (fun h1 => ?_)
        · skip
          refine sw_aload_n (pc := 83) C d_Md_decode_83 rfl rfl ?_
          refine sw_get (pc := 84) C inMd 0 rfl rfl 9 (by decide) t_581 rfl rfl d_Md_decode_84 ?_
          refine sw_iload_n (pc := 87) C d_Md_decode_87 rfl rfl ?_
          refine sw_ialdN (pc := 88) C 4 (hd l0 j) rfl rfl (by omega) (by decide) d_Md_decode_88 ?_
          refine sw_topi (z := nI (kdA l0 j)) (dcF_get (by omega)) ?_
          refine sw_iconst (pc := 89) C (nI 2) d_Md_decode_89 (by decide) ?_
          refine sw_icmp_neN (pc := 90) C 101 (by omega) (by omega) d_Md_decode_90 (by decide) (fun h2 => ?_) (fun h2 => ?_)
          · skip
            have hk34 : kdA l0 j = 3 ∨ kdA l0 j = 4 := by omega
            obtain ⟨g1, g2, g3⟩ := FL_3 hfl hk34
            rcases hk34 with h3 | h3
            · skip
              refine sw_aload_n (pc := 101) C d_Md_decode_101 rfl rfl ?_
              refine sw_iload_n (pc := 102) C d_Md_decode_102 rfl rfl ?_
              refine sw_aload_n (pc := 103) C d_Md_decode_103 rfl rfl ?_
              refine sw_get (pc := 104) C inMd 0 rfl rfl 9 (by decide) t_581 rfl rfl d_Md_decode_104 ?_
              refine sw_iload_n (pc := 107) C d_Md_decode_107 rfl rfl ?_
              refine sw_ialdN (pc := 108) C 4 (hd l0 j) rfl rfl (by omega) (by decide) d_Md_decode_108 ?_
              refine sw_topi (z := nI (kdA l0 j)) (dcF_get (by omega)) ?_
              refine sw_iconst (pc := 109) C (nI 3) d_Md_decode_109 (by decide) ?_
              refine sw_isub (pc := 110) C d_Md_decode_110 ?_
              refine sw_topi (z := nI ((kdA l0 j) - 3)) (pk_sub (by omega)) ?_
              refine sw_topi (z := nI 0) (by rw [h3]) ?_
              refine sw_callVP (pc := 111) C (c_Md_takeLy0 l g R dn pl ss pt true rd wd sc l0 f hl z o d co un gr r x p m j (by omega) g2 g3) sv_Md_takeLayer t_812 rfl rfl rfl [0, 1, 2, 3, 4, 8, 9, 10, 11, 12, 13, 14] rfl rfl rfl rfl (Nat.le_of_ble_eq_true rfl) (Nat.le_of_ble_eq_true rfl) (Nat.le_of_ble_eq_true rfl) (Nat.le_of_ble_eq_true rfl) (Nat.le_of_ble_eq_true rfl) d_Md_decode_111 (fun v w1 hp => ?_)
              obtain ⟨rfl, r1, w1, s1, z1, o1, d1, gv, g4, r2, x1, p1, m1, hg, rfl⟩ := hp
              refine ⟨rfl, ?_⟩
              exact c114 _ _ _ _ _ _ _ _ _ _ _ _ _ _ _ _ _ _ (d_l0 hI h3 hg)
            · skip
              refine sw_aload_n (pc := 101) C d_Md_decode_101 rfl rfl ?_
              refine sw_iload_n (pc := 102) C d_Md_decode_102 rfl rfl ?_
              refine sw_aload_n (pc := 103) C d_Md_decode_103 rfl rfl ?_
              refine sw_get (pc := 104) C inMd 0 rfl rfl 9 (by decide) t_581 rfl rfl d_Md_decode_104 ?_
              refine sw_iload_n (pc := 107) C d_Md_decode_107 rfl rfl ?_
              refine sw_ialdN (pc := 108) C 4 (hd l0 j) rfl rfl (by omega) (by decide) d_Md_decode_108 ?_
              refine sw_topi (z := nI (kdA l0 j)) (dcF_get (by omega)) ?_
              refine sw_iconst (pc := 109) C (nI 3) d_Md_decode_109 (by decide) ?_
              refine sw_isub (pc := 110) C d_Md_decode_110 ?_
              refine sw_topi (z := nI ((kdA l0 j) - 3)) (pk_sub (by omega)) ?_
              refine sw_topi (z := nI 1) (by rw [h3]) ?_
              refine sw_callVP (pc := 111) C (c_Md_takeLy1 l g R dn pl ss pt true rd wd sc l0 f hl z o d co un gr r x p m j (by omega) g2 g3) sv_Md_takeLayer t_812 rfl rfl rfl [0, 1, 2, 3, 4, 8, 9, 10, 11, 12, 13, 14] rfl rfl rfl rfl (Nat.le_of_ble_eq_true rfl) (Nat.le_of_ble_eq_true rfl) (Nat.le_of_ble_eq_true rfl) (Nat.le_of_ble_eq_true rfl) (Nat.le_of_ble_eq_true rfl) d_Md_decode_111 (fun v w1 hp => ?_)
              obtain ⟨rfl, r1, w1, s1, z1, o1, d1, gv, g4, r2, x1, p1, m1, hg, rfl⟩ := hp
              refine ⟨rfl, ?_⟩
              exact c114 _ _ _ _ _ _ _ _ _ _ _ _ _ _ _ _ _ _ (d_l1 hI h3 hg)
          obtain ⟨g1, g2, g3⟩ := FL_2 hfl h2
          have hP20 := (FLs_bd (l := l0) (K := j) (fun i hi => (hF i (by omega)).2)).2.1
          refine sw_aload_n (pc := 93) C d_Md_decode_93 rfl rfl ?_
          refine sw_iload_n (pc := 94) C d_Md_decode_94 rfl rfl ?_
          refine sw_callVP (pc := 95) C (c_Md_takePl l g R dn pl ss pt true rd wd sc l0 f hl fp fa j (by omega) g1 (by omega)) sv_Md_takePlacings t_808 rfl rfl rfl [0, 4, 6, 7] rfl rfl rfl rfl (Nat.le_of_ble_eq_true rfl) (Nat.le_of_ble_eq_true rfl) (Nat.le_of_ble_eq_true rfl) (Nat.le_of_ble_eq_true rfl) (Nat.le_of_ble_eq_true rfl) d_Md_decode_95 (fun v w1 hp => ?_)
          obtain ⟨rfl, fp1, fa1, hq, rfl⟩ := hp
          refine ⟨rfl, ?_⟩
          refine sw_goto (pc := 98) C 114 d_Md_decode_98 (by decide) ?_
          exact c114 _ _ _ _ _ _ _ _ _ _ _ _ _ _ _ _ _ _ (d_pl hI h2 hq)
        have G := FL_1 hfl h1
        have G2 := G
        rw [← i1] at G2
        refine sw_aload_n (pc := 75) C d_Md_decode_75 rfl rfl ?_
        refine sw_iload_n (pc := 76) C d_Md_decode_76 rfl rfl ?_
        refine sw_callVP (pc := 77) C (c_Md_takeShape l g R dn pl ss pt true rd wd sc l0 f hl z o d sn (bS l0 j) j (by omega) G2 i3) sv_Md_takeShape t_800 rfl rfl rfl [0, 1, 2, 3, 4, 5] rfl rfl rfl rfl (Nat.le_of_ble_eq_true rfl) (Nat.le_of_ble_eq_true rfl) (Nat.le_of_ble_eq_true rfl) (Nat.le_of_ble_eq_true rfl) (Nat.le_of_ble_eq_true rfl) d_Md_decode_77 (fun v w1 hp => ?_)
        obtain ⟨rfl, r1, w1, s1, z1, o1, d1, rfl⟩ := hp
        refine ⟨rfl, ?_⟩
        refine sw_goto (pc := 80) C 114 d_Md_decode_80 (by decide) ?_
        exact c114 _ _ _ _ _ _ _ _ _ _ _ _ _ _ _ _ _ _ (d_sh hI h1 G)
    have first : ∀ (nn i : Nat) (a b : Nat → Int32), i + nn = 128 → (∀ j, j < i → a j = nI 0 ∧ b j = nI 0) → SW X g 3 0 0 ([mdC R dn pl l0.length 0 0 true rd wd sc, iaC g (R 14) 48 z, iaC g (R 15) 48 o, iaC g (R 16) 4400 d, iaC g (R 8) 1200 (dcF l0 f), laC g (R 9) 8 sn, iaC g (R 10) 20 fp, iaC g (R 11) 20 fa, iaC g (R 12) 128 a, iaC g (R 13) 128 b, iaC g (R 17) 64 gr, iaC g (R 18) 8 r, iaC g (R 19) 8 x, iaC g (R 20) 64 p, zaC g (R 21) 64 m]) 28 [some (.ref (R 0)), some (.int (nI 0)), some (.int (nI i))] [] := by
      intro nn
      induction nn with
      | zero =>
        intro i a b hi hq
        refine sw_iload_n (pc := 28) C d_Md_decode_28 rfl rfl ?_
        refine sw_sipush (pc := 29) C (nI 128) d_Md_decode_29 (by decide) ?_
        refine sw_icmp_geN (pc := 32) C 55 (by omega) (by omega) d_Md_decode_32 (by decide) (fun hx => ?_) (fun hx => ?_)
        · skip
          refine sw_iconst (pc := 55) C (nI 2) d_Md_decode_55 (by decide) ?_
          refine sw_topi (z := nI (hd l0 0)) rfl ?_
          refine sw_istore_n (pc := 56) C d_Md_decode_56 rfl (by decide) rfl ?_
          exact chunks K 0 rd wd sc 0 0 z o d sn fp fa a b gr r x p m (by omega) (d_0 l0 sn fp fa (fun j hj => hq j (by omega)))
        omega
      | succ nn ih =>
        intro i a b hi hq
        refine sw_iload_n (pc := 28) C d_Md_decode_28 rfl rfl ?_
        refine sw_sipush (pc := 29) C (nI 128) d_Md_decode_29 (by decide) ?_
        refine sw_icmp_geN (pc := 32) C 55 (by omega) (by omega) d_Md_decode_32 (by decide) (fun hx => ?_) (fun hx => ?_)
        · skip
          omega
        refine sw_aload_n (pc := 35) C d_Md_decode_35 rfl rfl ?_
        refine sw_get (pc := 36) C inMd 0 rfl rfl 17 (by decide) t_589 rfl rfl d_Md_decode_36 ?_
        refine sw_iload_n (pc := 39) C d_Md_decode_39 rfl rfl ?_
        refine sw_iconst (pc := 40) C (nI 0) d_Md_decode_40 (by decide) ?_
        refine sw_iastN (pc := 41) C 8 i rfl rfl (by omega) (by decide) d_Md_decode_41 ?_
        refine sw_aload_n (pc := 42) C d_Md_decode_42 rfl rfl ?_
        refine sw_get (pc := 43) C inMd 0 rfl rfl 18 (by decide) t_590 rfl rfl d_Md_decode_43 ?_
        refine sw_iload_n (pc := 46) C d_Md_decode_46 rfl rfl ?_
        refine sw_iconst (pc := 47) C (nI 0) d_Md_decode_47 (by decide) ?_
        refine sw_iastN (pc := 48) C 9 i rfl rfl (by omega) (by decide) d_Md_decode_48 ?_
        refine sw_iincN (pc := 49) C 1 d_Md_decode_49 rfl (by decide) (by decide) rfl ?_
        refine sw_goto (pc := 52) C 28 d_Md_decode_52 (by decide) ?_
        refine ih (i + 1) (upd a i (nI 0)) (upd b i (nI 0)) (by omega) (fun j hj => ?_)
        unfold upd
        by_cases e : j = i
        · rw [if_pos e, if_pos e]; exact ⟨rfl, rfl⟩
        · rw [if_neg e, if_neg e]; exact hq j (by omega)
    refine sw_aload_n (pc := 11) C d_Md_decode_11 rfl rfl ?_
    refine sw_iconst (pc := 12) C (nI 1) d_Md_decode_12 (by decide) ?_
    refine sw_topi (z := bI true) rfl ?_
    refine sw_put (pc := 13) C inMd 0 rfl rfl 11 (by decide) tyMd okMd nmMd t_583 rfl rfl (ty := .boolean) (by decide +kernel) (bI_nar _) (bI_fit _) (Nat.le_of_ble_eq_true rfl) d_Md_decode_13 ?_
    refine sw_aload_n (pc := 16) C d_Md_decode_16 rfl rfl ?_
    refine sw_iconst (pc := 17) C (nI 0) d_Md_decode_17 (by decide) ?_
    refine sw_put (pc := 18) C inMd 0 rfl rfl 13 (by decide) tyMd okMd nmMd t_585 rfl rfl (ty := .int) (by decide +kernel) rfl rfl (Nat.le_of_ble_eq_true rfl) d_Md_decode_18 ?_
    refine sw_aload_n (pc := 21) C d_Md_decode_21 rfl rfl ?_
    refine sw_iconst (pc := 22) C (nI 0) d_Md_decode_22 (by decide) ?_
    refine sw_put (pc := 23) C inMd 0 rfl rfl 16 (by decide) tyMd okMd nmMd t_588 rfl rfl (ty := .int) (by decide +kernel) rfl rfl (Nat.le_of_ble_eq_true rfl) d_Md_decode_23 ?_
    refine sw_iconst (pc := 26) C (nI 0) d_Md_decode_26 (by decide) ?_
    refine sw_istore_n (pc := 27) C d_Md_decode_27 rfl (by decide) rfl ?_
    exact first 128 0 co un (by omega) (fun j hj => absurd hj (Nat.not_lt_zero _))
  refine sw_iload_n (pc := 9) C d_Md_decode_9 rfl rfl ?_
  exact sw_iret (pc := 10) C E rfl (Nat.le_of_ble_eq_true rfl) (Nat.le_of_ble_eq_true rfl) d_Md_decode_10 ⟨K, v, rfl, hR, Or.inl ⟨by omega, rfl⟩⟩
