/-! the law: what its other cases need -/
theorem lcmp_self (x : Int64) : lg_cmp x x = 0 := by
  unfold lg_cmp
  rw [if_neg Int64.lt_irrefl, if_pos rfl]
theorem gly_no (n : Nat) (b : Nat → Nat) (k : Int32) : glyV false n b k = 0 := by
  unfold glyV
  rw [Bool.false_and, if_neg (by decide)]
theorem all_app {a b : List Nat} (ha : ∀ v ∈ a, v < 256) (hb : ∀ v ∈ b, v < 256) : ∀ v ∈ a ++ b, v < 256 := by
  intro v hv
  rcases List.mem_append.mp hv with h | h
  · exact ha v h
  · exact hb v h
theorem all_chunk {kd : Nat} {p : List Nat} (hk : kd < 256) (hp : p.length < 65536) (h : ∀ v ∈ p, v < 256) : ∀ v ∈ chunk kd p, v < 256 := by
  refine all_app (fun v hv => ?_) h
  simp only [List.mem_cons, List.not_mem_nil, or_false] at hv
  omega
theorem all_cb (v sc : Nat) : ∀ x ∈ cbytes v sc, x < 256 := by
  intro x hx
  unfold cbytes at hx
  obtain ⟨j, _, rfl⟩ := List.mem_map.mp hx
  exact cbyte_lt _ _ _
theorem all_ok {l : List Nat} (h1 : l.length ≤ 1200) (h : ∀ v ∈ l, v < 256) : bytesOK l := by
  refine ⟨h1, fun k => ?_⟩
  by_cases e : k < l.length
  · rw [List.getD_eq_getElem?_getD, List.getElem?_eq_getElem e]
    exact h _ (List.getElem_mem e)
  · rw [getD_ge (by omega)]
    decide
theorem all_sh {nS : Nat} {b w h bc : Nat → Nat} (hS : nS ≤ 8) (H : drOK nS b w h bc) : ∀ m, m ≤ nS → ∀ v ∈ shAll b w h bc m, v < 256
  | 0, _ => by
    intro v hv
    unfold shAll at hv
    simp only [List.mem_cons, List.not_mem_nil, or_false] at hv
    omega
  | m + 1, hm => by
    obtain ⟨h1, h2, h3, h4⟩ := H m (by omega)
    have hsc := shSt_sc H (show m < nS by omega)
    refine all_app (all_sh hS H m (by omega)) (all_chunk (by decide) ?_ (all_app (fun v hv => ?_) (all_cb _ _)))
    · unfold shBy
      rw [List.length_append, cbytes_len]
      simp
      omega
    · simp only [List.mem_cons, List.not_mem_nil, or_false] at hv
      omega
theorem all_pl {ps sp : Nat → Nat} : ∀ m, (∀ i, i < m → ps i < 8 ∧ sp i < 256) → ∀ v ∈ plBytes ps sp m, v < 256
  | 0, _ => by intro v hv; cases hv
  | m + 1, h => by
    refine all_app (all_pl m (fun i hi => h i (by omega))) (fun v hv => ?_)
    have := h m (by omega)
    simp only [List.mem_cons, List.not_mem_nil, or_false] at hv
    omega
theorem docB_ok {nS nP s : Nat} {b w h bc ps sp : Nat → Nat} {G0 G1 : Nat → Nat → Int32} (hS : nS ≤ 8) (hP : nP ≤ 20) (H : drOK nS b w h bc) (hd : ∀ i, i < nP → ps i < 8 ∧ sp i < 256) (hs : s ≤ 10) : bytesOK (docB b w h bc nS ps sp nP s G0 G1) := by
  have h1 := shAll_len H nS (Nat.le_refl _)
  have h2 := plBytes_len ps sp nP
  have h3 := lyB_len 8 s G0 (Or.inr rfl) hs
  have h4 := lyB_len 4 s G1 (Or.inl rfl) hs
  have hl : ∀ n (G : Nat → Nat → Int32), ∀ v ∈ lyBytes n s G, v < 256 := by
    intro n G v hv
    unfold lyBytes at hv
    rcases List.mem_cons.mp hv with rfl | hv
    · omega
    · exact all_cb _ _ v hv
  refine all_ok ?_ (all_app (all_app (all_app (all_sh hS H nS (Nat.le_refl _)) (all_chunk (by decide) (by omega) (all_pl nP hd))) (all_chunk (by decide) (by omega) (hl 8 G0))) (all_chunk (by decide) (by omega) (hl 4 G1)))
  unfold docB
  rw [List.length_append, List.length_append, List.length_append, chunk_len, chunk_len, chunk_len]
  omega
theorem shp_ws (b w h bc : Nat → Nat) (nS bN wn hn c : Nat) : upF (fun k => shV (b k) (w k) (h k) (bsI (bc k))) nS (shV bN wn hn (bsI c)) = fun k => shV (upN b nS bN k) (upN w nS wn k) (upN h nS hn k) (bsI (upN bc nS c k)) := by
  funext j
  unfold upF upN
  by_cases e : j = nS
  · simp only [if_pos e]
  · simp only [if_neg e]
theorem bsI_inj {a b : Nat} (ha : a ≤ 8) (hb : b ≤ 8) (h : bsI a = bsI b) : a = b := by
  have key : ∀ a, a < 9 → ∀ b, b < 9 → bsI a = bsI b → a = b := by decide +kernel
  exact key a (by omega) b (by omega) h
theorem shOK_fun {nS bN : Nat} {w h f : Int32} {a b c a' b' c' : Nat} (o : shOK nS bN w h f a b c) (o' : shOK nS bN w h f a' b' c') : a = a' ∧ b = b' ∧ c = c' := by
  obtain ⟨x1, x2, x3, x4, x5, x6, x7, x8⟩ := o
  obtain ⟨y1, y2, y3, y4, y5, y6, y7, y8⟩ := o'
  exact ⟨(nI_eq (by omega) (by omega)).mp (x2.symm.trans y2), (nI_eq (by omega) (by omega)).mp (x3.symm.trans y3), bsI_inj (by omega) (by omega) (x6.symm.trans y6)⟩
theorem shp_ok {nS bN : Nat} {w9 h9 f9 : Int32} {wn hn c : Nat} {b w h bc : Nat → Nat} {fb : Nat → Int64} {fw fh fs : Nat → Int32} (hb : bN < 2 ^ 64) (o : shOK nS bN w9 h9 f9 wn hn c) (H : drOK nS b w h bc) (Q : drQ nS fb fw fh fs b w h bc) : drOK (nS + 1) (upN b nS bN) (upN w nS wn) (upN h nS hn) (upN bc nS c) ∧ drQ (nS + 1) (vp_updL fb nS (lN bN)) (upd fw nS (nI wn)) (upd fh nS (nI hn)) (upd fs nS (bsI c)) (upN b nS bN) (upN w nS wn) (upN h nS hn) (upN bc nS c) := by
  obtain ⟨x1, x2, x3, x4, x5, x6, x7, x8⟩ := o
  constructor
  · intro k hk
    by_cases e : k = nS
    · subst e
      rw [upN_at, upN_at, upN_at, upN_at]
      exact ⟨hb, x4, x5, x7⟩
    · rw [upN_ne e, upN_ne e, upN_ne e, upN_ne e]
      exact H k (by omega)
  · intro k hk
    by_cases e : k = nS
    · subst e
      rw [upN_at, upN_at, upN_at, upN_at, vpL_at]
      unfold upd
      rw [if_pos rfl, if_pos rfl, if_pos rfl]
      exact ⟨rfl, rfl, rfl, rfl, sb_88 x4.2 x5.2 x8⟩
    · rw [upN_ne e, upN_ne e, upN_ne e, upN_ne e, vpL_ne e]
      unfold upd
      rw [if_neg e, if_neg e, if_neg e]
      exact Q k (by omega)
theorem pic_ok {l : List Nat} {K nS nP ss pt : Nat} {b w h ps sp : Nat → Nat} {e0 c0 e1 c1 : Nat → Int32} {m0 m1 : Bool} {sn : Nat → Int64} {fp fa co un : Nat → Int32} (hl : bytesOK l) (O : pgOK nS nP b w h ps sp) (I : pgIs l K nS nP b w h ps sp e0 c0 m0 e1 c1 m1) (D : dIs l K ss pt sn fp fa co un) : (ss ≤ 8 ∧ pt ≤ 20) ∧ (ss = nS ∧ pt = nP) ∧ picOK ss pt sn fp fa b w h ps sp ∧ ly2 un e0 e1 clp ∧ ly2 co c0 c1 id ∧ True := by
  obtain ⟨o1, o2, o3, o4⟩ := O
  obtain ⟨⟨i1, i2⟩, i3, i4, ⟨i5, i6, i7⟩, i8, i9, i10⟩ := I
  obtain ⟨⟨a1, a2⟩, a3, a4, a5, a6⟩ := D
  have es : ss = nS := by omega
  have ep : pt = nP := by omega
  refine ⟨by omega, ⟨es, ep⟩, ⟨by omega, fun k hk => ?_, fun i hi => ?_⟩, by rw [i5, i8]; exact a6, by rw [i6, i9]; exact a5, trivial⟩
  · obtain ⟨q1, q2⟩ := i3 k (by omega)
    refine ⟨by rw [q1]; exact (a3 k hk).1, (o3 k (by omega)).1, q2⟩
  · obtain ⟨q1, q2⟩ := i4 i (by omega)
    have q3 := o4 i (by omega)
    refine ⟨by rw [q1]; exact (a4 i hi).1, by rw [q2]; exact (a4 i hi).2, by omega, q3.2⟩
