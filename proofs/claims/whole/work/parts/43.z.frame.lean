/-! calls whose cells stand first, or last; worlds side by side -/
theorem nd_range' : ∀ (n a : Nat), va_nd (List.range' a n) = true
  | 0, a => rfl
  | n + 1, a => by
    show (decide (a ∉ List.range' (a + 1) n) && va_nd (List.range' (a + 1) n)) = true
    rw [nd_range' n (a + 1), Bool.and_true, decide_eq_true_iff]
    intro h
    have := (List.mem_range'_1.mp h).1
    omega
theorem putb_mid : ∀ (w1 old pre post : va_W), w1.length = old.length → putb (pre ++ (old ++ post)) (List.range' pre.length w1.length) w1 = pre ++ (w1 ++ post)
  | [], old, pre, post, h => by
    have e : old = [] := List.length_eq_zero_iff.mp h.symm
    subst e
    rfl
  | c :: w1, [], pre, post, h => by simp at h
  | c :: w1, o :: old, pre, post, h => by
    have e1 : (pre ++ (o :: old ++ post)).set pre.length c = (pre ++ [c]) ++ (old ++ post) := by
      rw [List.set_append_right _ _ (Nat.le_refl _), Nat.sub_self]
      simp
    show putb ((pre ++ (o :: old ++ post)).set pre.length c) (List.range' (pre.length + 1) w1.length) w1 = _
    rw [e1]
    have ih := putb_mid w1 old (pre ++ [c]) post (by simpa using h)
    rw [show (pre ++ [c]).length = pre.length + 1 by simp] at ih
    rw [ih]
    simp
theorem putb_end {pre old w1 : va_W} (h : w1.length = old.length) : putb (pre ++ old) (List.range' pre.length w1.length) w1 = pre ++ w1 := by
  have := putb_mid w1 old pre [] h
  simpa using this
theorem map_mid (wc : va_W) : ∀ (pre post : va_W), (List.range' pre.length wc.length).map (fun i => (pre ++ (wc ++ post))[i]?) = wc.map some := by
  induction wc with
  | nil => intro pre post; rfl
  | cons c wc ih =>
    intro pre post
    have h := ih (pre ++ [c]) post
    rw [show (pre ++ [c]).length = pre.length + 1 by simp, show (pre ++ [c]) ++ (wc ++ post) = pre ++ (c :: wc ++ post) by simp] at h
    show (pre ++ (c :: wc ++ post))[pre.length]? :: (List.range' (pre.length + 1) wc.length).map (fun i => (pre ++ (c :: wc ++ post))[i]?) = some c :: wc.map some
    rw [h, List.getElem?_append_right (Nat.le_refl _), Nat.sub_self]
    rfl
theorem len_fst {w1 wc : va_W} (h : w1.map Prod.fst = wc.map Prod.fst) : w1.length = wc.length := by
  have := congrArg List.length h
  simpa using this
section SWF
variable {X : Cz} {l : Launch} {g : Gl} {y : MethodName} {cc : ByteArray} {nL k n pc : Nat} {r : Option FieldType} {rm : Room} {ws : va_W} {L : List (Option Value)} {st : List Value}
variable {y' : MethodName} {b' : ByteArray} {n' np idx a : Nat} {r' : Option FieldType} {rm' : Room} {As : List Value} {wc rest wr : va_W} {post : Option Value → va_W → Prop}
/-- a call on the cells wc that stand first -/
theorem sw_callVF (C : Cx X l g y cc nL r rm) (hM : Ct l g y' b' n' r' rm' (.ref a :: As) wc post) (S : Sv y' b' n' r' np) (hl : Cond.methodLink y.cls idx y' ∈ TT) {ci : Nat} {Cq : vw_C} {fs : List Value} (hrecv : wc[0]? = some (a, .inr (ci, fs))) (hcl : vwCl[ci]? = some Cq) (hcn : Cq.1 = y'.cls) (hnp : As.length = np) {st0 : List Value} (hst : st0 = As.reverse ++ .ref a :: st) (hW : (st.map fun v => v.category).sum ≤ 8) (hf : rm'.frames + 1 ≤ rm.frames) (hlo : 8 + (n' + 11) + rm'.locals ≤ rm.locals) (hc : k + rm'.cells ≤ rm.cells) (hs : n + rm'.slots ≤ rm.slots) (hd : decode cc pc = .ok (.invokevirtual idx, 3)) (kk : ∀ (v : Option Value) (w1 : va_W), post v w1 → w1.map Prod.fst = wc.map Prod.fst ∧ SW X g nL (k + rm'.cells) (n + rm'.slots) (w1 ++ rest) (pc + 3) L (v.toList ++ st)) : SW X g nL k n (wc ++ rest) pc L st0 := by
  refine sw_callVP C hM S hl hrecv hcl hcn (List.range' 0 wc.length) (map_mid wc [] rest) (nd_range' _ _) hnp hst hW hf hlo hc hs hd (fun v w1 hp => ?_)
  obtain ⟨h1, h2⟩ := kk v w1 hp
  refine ⟨h1, ?_⟩
  have e := putb_mid w1 wc [] rest (len_fst h1)
  rw [len_fst h1] at e
  have e : putb (wc ++ rest) (List.range' 0 wc.length) w1 = w1 ++ rest := e
  show SW X g nL _ _ (putb (wc ++ rest) (List.range' 0 wc.length) w1) _ _ _
  rw [e]
  exact h2
/-- a call on the cells wc that stand last -/
theorem sw_callVE (C : Cx X l g y cc nL r rm) (hM : Ct l g y' b' n' r' rm' (.ref a :: As) wc post) (S : Sv y' b' n' r' np) (hl : Cond.methodLink y.cls idx y' ∈ TT) {ci : Nat} {Cq : vw_C} {fs : List Value} (hrecv : wc[0]? = some (a, .inr (ci, fs))) (hcl : vwCl[ci]? = some Cq) (hcn : Cq.1 = y'.cls) (hnp : As.length = np) {st0 : List Value} (hst : st0 = As.reverse ++ .ref a :: st) (hW : (st.map fun v => v.category).sum ≤ 8) (hf : rm'.frames + 1 ≤ rm.frames) (hlo : 8 + (n' + 11) + rm'.locals ≤ rm.locals) (hc : k + rm'.cells ≤ rm.cells) (hs : n + rm'.slots ≤ rm.slots) (hd : decode cc pc = .ok (.invokevirtual idx, 3)) (kk : ∀ (v : Option Value) (w1 : va_W), post v w1 → w1.map Prod.fst = wc.map Prod.fst ∧ SW X g nL (k + rm'.cells) (n + rm'.slots) (wr ++ w1) (pc + 3) L (v.toList ++ st)) : SW X g nL k n (wr ++ wc) pc L st0 := by
  refine sw_callVP C hM S hl hrecv hcl hcn (List.range' wr.length wc.length) (by have := map_mid wc wr []; rwa [List.append_nil] at this) (nd_range' _ _) hnp hst hW hf hlo hc hs hd (fun v w1 hp => ?_)
  obtain ⟨h1, h2⟩ := kk v w1 hp
  refine ⟨h1, ?_⟩
  have e := putb_end (pre := wr) (old := wc) (w1 := w1) (len_fst h1)
  rw [len_fst h1] at e
  rw [e]
  exact h2
theorem last_is {c0 : Nat × va_E} : [wr.length].map (fun i => (wr ++ [c0])[i]?) = [c0].map some := by simp
theorem first_is {c0 : Nat × va_E} : (List.range' 0 wr.length).map (fun i => (wr ++ [c0])[i]?) = wr.map some := map_mid wr [] [c0]
theorem not_last : ∀ i ∈ List.range' 0 wr.length, i ∉ [wr.length] := by
  intro i hi hq
  have := (List.mem_range'_1.mp hi).2
  have e : i = wr.length := by simpa using hq
  omega
/-- a constructor on the object that was made last -/
theorem sw_callIJ1 (C : Cx X l g y cc nL r rm) {c0 : Nat × va_E} (hM : Ct l g y' b' n' none rm' (.ref a :: As) [c0] post) (S : Si y' b' n' np) (hl : Cond.methodLink y.cls idx y' ∈ TT) (hnp : As.length = np) {st0 : List Value} (hst : st0 = As.reverse ++ .ref a :: st) (hW : (st.map fun v => v.category).sum ≤ 8) (hf : rm'.frames + 1 ≤ rm.frames) (hlo : 8 + (n' + 11) + rm'.locals ≤ rm.locals) (hc : k + rm'.cells ≤ rm.cells) (hs : n + rm'.slots ≤ rm.slots) (hd : decode cc pc = .ok (.invokespecial idx, 3)) (kk : ∀ (v : Option Value) (w1 : va_W), post v w1 → SW X g nL (k + rm'.cells) (n + rm'.slots) (wr ++ w1) (pc + 3) L (v.toList ++ st)) : SW X g nL k n (wr ++ [c0]) pc L st0 :=
  sw_callIJ C hM S hl [wr.length] last_is rfl (List.range' 0 wr.length) first_is (nd_range' _ _) not_last hnp hst hW hf hlo hc hs hd kk
theorem sw_callINJ1 (C : Cx X l g y cc nL r rm) {c0 : Nat × va_E} (hM : Ct l g y' b' n' none rm' (.ref a :: As) [c0] post) (S : Si y' b' n' np) (host : String) (hl : Cond.methodLinkNest y.cls idx y' host ∈ lw_tbl) (hnp : As.length = np) {st0 : List Value} (hst : st0 = As.reverse ++ .ref a :: st) (hW : (st.map fun v => v.category).sum ≤ 8) (hf : rm'.frames + 1 ≤ rm.frames) (hlo : 8 + (n' + 11) + rm'.locals ≤ rm.locals) (hc : k + rm'.cells ≤ rm.cells) (hs : n + rm'.slots ≤ rm.slots) (hd : decode cc pc = .ok (.invokespecial idx, 3)) (kk : ∀ (v : Option Value) (w1 : va_W), post v w1 → SW X g nL (k + rm'.cells) (n + rm'.slots) (wr ++ w1) (pc + 3) L (v.toList ++ st)) : SW X g nL k n (wr ++ [c0]) pc L st0 :=
  sw_callINJ C hM S host hl [wr.length] last_is rfl (List.range' 0 wr.length) first_is (nd_range' _ _) not_last hnp hst hW hf hlo hc hs hd kk
end SWF
