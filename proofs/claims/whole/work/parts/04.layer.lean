/-! the layer: one table of words, one form of contract (Ct), one judgement for a point of a walk (SW) -/
/-- a private method of the superclass, selected for both coders -/
def exW : List Cond := [.selects "LayeredPage$CodeWriter" ⟨"LayeredPage$Coder", "tally", "(II)V"⟩ ⟨"LayeredPage$Coder", "tally", "(II)V"⟩, .selects "LayeredPage$CodeReader" ⟨"LayeredPage$Coder", "tally", "(II)V"⟩ ⟨"LayeredPage$Coder", "tally", "(II)V"⟩]
def TT : List Cond := exW ++ lw_tbl.filter goodWord
theorem TT_in {w : Cond} (h : w ∈ lw_tbl) (g : goodWord w = true) : w ∈ TT := List.mem_append_right _ (List.mem_filter.mpr ⟨h, g⟩)
theorem TT_gw {w : Cond} (h : w ∈ TT) : goodWord w = true := by
  rcases List.mem_append.mp h with h | h
  · simp only [exW, List.mem_cons, List.not_mem_nil, or_false] at h
    rcases h with rfl | rfl <;> rfl
  · exact (List.mem_filter.mp h).2
abbrev wS (y : MethodName) (b : ByteArray) (n : Nat) (r : Option FieldType) : List Cond := Cond.code y b n r :: TT
theorem wS_good {y z : MethodName} {b b' : ByteArray} {n n' : Nat} {r r' : Option FieldType} (h : Cond.code z b' n' r' ∈ TT) : GoodIn (wS y b n r) (wS z b' n' r') := by
  intro w hw
  rcases List.mem_cons.mp hw with rfl | hw
  · exact ⟨List.mem_cons_of_mem _ h, good_of_word (TT_gw h)⟩
  · exact ⟨List.mem_cons_of_mem _ hw, good_of_word (TT_gw hw)⟩
/-- words that don't keep by themselves: private members of nest mates, abstract methods, arrays of objects -/
def nst : Cond → Bool
  | .fieldLinkNest .. => true
  | .methodLinkNest .. => true
  | .declares .. => true
  | .arrayOver (.object _) => true
  | _ => false
def NW (U : State) : Prop := ∀ w ∈ lw_tbl, nst w = true → va_Nw w U
theorem NW.warm {s U : State} (hW : s.WarmedH U.vm) (h : NW s) : NW U := by
  intro w hw hn
  have h1 := h w hw hn
  cases w <;> first | exact va_Nw.warmF hW h1 | exact va_Nw.warmM hW h1 | exact va_Nw.warmD hW h1 | exact (Bool.false_ne_true hn).elim | skip
  rename_i ty
  cases ty <;> first | exact va_AO.moved hW.alike h1 | exact (Bool.false_ne_true hn).elim
theorem NW.same {u U : State} (e : u.vm = U.vm) (h : NW u) : NW U := by
  intro w hw hn
  have h1 := h w hw hn
  cases w <;> first | exact (Bool.false_ne_true hn).elim | exact va_Nw.same rfl e h1 | skip
  rename_i ty
  cases ty <;> first | exact (Bool.false_ne_true hn).elim | exact va_AO.moved (by rw [e]; exact Vm.Alike.refl _) h1
/-- classes by their numbers, slots; int[], long[], boolean[], Shape[] -/
abbrev Gl : Type := va_G × ClassId × ClassId × ClassId × ClassId
def tysG (g : Gl) : List (ClassId × FieldType) := [(g.2.1, .int), (g.2.2.1, .long), (g.2.2.2.1, .boolean), (g.2.2.2.2, .object nmShape)]
def KK (g : Gl) (U : State) : Prop := va_K g.1 vwCl (tysG g) U ∧ NW U
theorem KK.warm {g : Gl} {s U : State} (hW : s.WarmedH U.vm) (h : KK g s) : KK g U := ⟨va_K.moved hW.alike h.1, NW.warm hW h.2⟩
theorem KK.calling {g : Gl} {U : State} {f : JFrame} {mk : MethodId} {a : Array Value} (h : KK g U) : KK g (U.calling f mk a) := ⟨va_K.moved (u := U) (U := U.calling f mk a) (Vm.Alike.refl U.vm) h.1, NW.same (u := U) rfl h.2⟩
/-- a contract's end: the answer and the world behind it -/
def Qg (g : Gl) (post : Option Value → va_W → Prop) (A : Nat → Prop) : Array Value → State → Outcome → State → Prop := fun _ st oc t =>
  (∃ (v : Option Value) (w : va_W), oc = .returned v ∧ post v w ∧ va_P g.1 vwCl w t.heap ∧ va_D A w) ∧ va_F A st t
def Pg (g : Gl) (sz : Nat) (w : va_W) (U : State) : Prop := U.heap.size = sz ∧ va_P g.1 vwCl w U.heap ∧ KK g U ∧ va_D (fun _ => True) w
def Ct (l : Launch) (g : Gl) (y : MethodName) (b : ByteArray) (n : Nat) (r : Option FieldType) (rm : Room) (av : List Value) (w : va_W) (post : Option Value → va_W → Prop) : Prop :=
  ∀ sz : Nat, Met l y (wS y b n r) rm (va_Pc av (Pg g sz w)) (Qg g post (va_A w sz)) rm.cells rm.slots (va_A w sz)
/-- locals by their places -/
def lvl : Nat → List (Option Value) → List (Nat × Value)
  | _, [] => []
  | k, none :: r => lvl (k + 1) r
  | k, some v :: r => (k, v) :: lvl (k + 1) r
theorem lvl_mem : ∀ (L : List (Option Value)) (k i : Nat) (v : Value), L[i]? = some (some v) → (k + i, v) ∈ lvl k L
  | [], k, i, v, h => by simp at h
  | o :: r, k, 0, v, h => by
    simp at h
    subst h
    simp [lvl]
  | o :: r, k, i + 1, v, h => by
    have h1 := lvl_mem r (k + 1) i v (by simpa using h)
    rw [show k + (i + 1) = k + 1 + i by omega]
    cases o with
    | none => exact h1
    | some u => exact List.mem_cons_of_mem _ h1
theorem lvl_of : ∀ (L : List (Option Value)) (k : Nat) (q : Nat × Value), q ∈ lvl k L → ∃ i, q.1 = k + i ∧ L[i]? = some (some q.2)
  | [], k, q, h => by simp [lvl] at h
  | none :: r, k, q, h => by
    obtain ⟨i, h1, h2⟩ := lvl_of r (k + 1) q h
    exact ⟨i + 1, by omega, by simpa using h2⟩
  | some u :: r, k, q, h => by
    rcases List.mem_cons.mp h with rfl | h
    · exact ⟨0, rfl, rfl⟩
    · obtain ⟨i, h1, h2⟩ := lvl_of r (k + 1) q h
      exact ⟨i + 1, by omega, by simpa using h2⟩
/-- the value below a place isn't a long whose second half stands there -/
def okS (L : List (Option Value)) : Nat → Bool
  | 0 => true
  | i + 1 => match L[i]? with
    | some (some u) => u.category == 1
    | _ => true
theorem lvl_st1 {ls : Array Slot} {nL i : Nat} {L : List (Option Value)} {v : Value} (hok : okS L i = true) (h : lv_has ls nL ((i, v) :: (lvl 0 L).filter (fun q => !(q.1 == i) && !(q.1 + 1 == i && q.2.category == 2)))) : lv_has ls nL (lvl 0 (L.set i (some v))) := by
  refine ⟨h.1, h.2.1, fun q hq => h.2.2 q ?_⟩
  obtain ⟨j, h1, h2⟩ := lvl_of _ 0 q hq
  rw [Nat.zero_add] at h1
  obtain ⟨a, u⟩ := q
  dsimp only at h1 h2
  subst h1
  by_cases hj : a = i
  · subst hj
    have hl : a < L.length := by
      have := (List.getElem?_eq_some_iff.mp h2).1
      simpa using this
    rw [List.getElem?_set_self hl] at h2
    cases h2
    exact List.mem_cons_self
  · rw [List.getElem?_set_ne (Ne.symm hj)] at h2
    refine List.mem_cons_of_mem _ (List.mem_filter.mpr ⟨by have := lvl_mem L 0 a u h2; rwa [Nat.zero_add] at this, ?_⟩)
    by_cases h3 : a + 1 = i
    · subst h3
      simp only [okS, h2] at hok
      simp at hok
      simp [hok]
    · simp [hj, h3]
theorem lvl_st2 {ls : Array Slot} {nL i : Nat} {L : List (Option Value)} {v : Value} (hok : okS L i = true) (h : lv_has ls nL ((i, v) :: (lvl 0 L).filter (fun q => !(q.1 == i) && (!(q.1 == i + 1) && !(q.1 + 1 == i && q.2.category == 2))))) : lv_has ls nL (lvl 0 ((L.set i (some v)).set (i + 1) none)) := by
  refine ⟨h.1, h.2.1, fun q hq => h.2.2 q ?_⟩
  obtain ⟨j, h1, h2⟩ := lvl_of _ 0 q hq
  rw [Nat.zero_add] at h1
  obtain ⟨a, u⟩ := q
  dsimp only at h1 h2
  subst h1
  by_cases h4 : a = i + 1
  · subst h4
    have hl : i + 1 < ((L.set i (some v)).set (i + 1) none).length := (List.getElem?_eq_some_iff.mp h2).1
    rw [List.getElem?_set_self (by simpa using hl)] at h2
    cases h2
  · rw [List.getElem?_set_ne (Ne.symm h4)] at h2
    by_cases hj : a = i
    · subst hj
      have hl : a < L.length := by
        have := (List.getElem?_eq_some_iff.mp h2).1
        simpa using this
      rw [List.getElem?_set_self hl] at h2
      cases h2
      exact List.mem_cons_self
    · rw [List.getElem?_set_ne (Ne.symm hj)] at h2
      refine List.mem_cons_of_mem _ (List.mem_filter.mpr ⟨by have := lvl_mem L 0 a u h2; rwa [Nat.zero_add] at this, ?_⟩)
      by_cases h3 : a + 1 = i
      · subst h3
        simp only [okS, h2] at hok
        simp at hok
        simp [hok]
        omega
      · simp [hj, h3, h4]
theorem lvl_get {ls : Array Slot} {nL i : Nat} {L : List (Option Value)} {v : Value} (h : lv_has ls nL (lvl 0 L)) (hi : L[i]? = some (some v)) : ls[i]? = some (.val v) := by
  have := h.2.2 _ (lvl_mem L 0 i v hi)
  simpa using this
/-- all that a walk has fixed: (p, l, e, R, s, m, args, below, meth, c, A, Q) -/
abbrev Cz : Type := Program × Launch × Env × Room × State × MethodId × Array Value × List Frame × Method × Code × (Nat → Prop) × (State → Prop)
def Cx (X : Cz) (l : Launch) (g : Gl) (y : MethodName) (cc : ByteArray) (nL : Nat) (r : Option FieldType) (rm : Room) : Prop := match X with
  | (p, l', _, R, s, m, args, _, meth, c, A, _) => p.tables.exec = Jvm.exec ∧ c.code = cc ∧ c.maxLocals = nL ∧ s.vm.findClass y.cls = some m.cls ∧ (∀ w ∈ TT, w.before args s = true) ∧ KK g s ∧ (∀ q, s.heap.size ≤ q → A q) ∧ meth.sig.returnType = r ∧ meth.locks = false ∧ meth.name = y.name ∧ R = rm ∧ l' = l
def Ce (X : Cz) (g : Gl) (post : Option Value → va_W → Prop) (rm : Room) : Prop := match X with
  | (_, _, _, _, s, _, args, below, _, _, A, Q) => Q = MQ below (Qg g post A) args s rm.cells rm.slots A
/-- at pc with the world ws, locals L, stack st, k cells and n slots made so far: the machine comes to its end -/
def SW (X : Cz) (g : Gl) (nL k n : Nat) (ws : va_W) (pc : Nat) (L : List (Option Value)) (st : List Value) : Prop := match X with
  | (p, l, e, R, s, m, args, below, meth, c, A, Q) => ∀ (H : Heap) (locs : List Loc) (ls : Array Slot), va_P g.1 vwCl ws H → va_D A ws → va_S A s.heap H locs → lv_has ls nL (lvl 0 L) → W p l e R s m args below meth c H locs k n Q (F0 m pc ls st)
theorem ct_of {l : Launch} {g : Gl} {y : MethodName} {b : ByteArray} {n : Nat} {r : Option FieldType} {rm : Room} {av : List Value} {w : va_W} {post : Option Value → va_W → Prop} (L0 : List (Option Value)) (hy : plainName y.cls = true) (hlen : (lg_sl av).length ≤ n) (hL : lvl 0 L0 = lv_args 0 av)
    (body : ∀ X : Cz, Cx X l g y b n r rm → Ce X g post rm → SW X g n 0 0 w 0 L0 []) : Ct l g y b n r rm av w post := by
  intro sz
  refine Met.ofW (cc := b) (maxL := n) (ret := r) hy rfl ?_
  intro p e s m args below meth c s₁ B hml hv
  obtain ⟨rfl, hsz, hP, hK, hD0⟩ := hv
  subst hsz
  have hts := atoms_spec (ws := wS y b n r) B.pre
  have h1 := body (p, l, e, rm, s, m, av.toArray, below, meth, c, va_A w s.heap.size, MQ below (Qg g post (va_A w s.heap.size)) av.toArray s rm.cells rm.slots (va_A w s.heap.size))
    ⟨B.exec, B.bytes, hml, findClass_of_methodNamed B.named, fun w h => hts w (List.mem_cons_of_mem _ h), hK, fun q h => Or.inr h, B.returns, B.notSynchronized, (name_of_methodNamed B.named B.method).1, rfl, rfl⟩ rfl
  rw [lg_entry_eq]
  refine h1 s.heap [] _ hP hD0.self va_S.rf ?_
  rw [hL]
  exact lv_entry av hlen
section SWL
variable {X : Cz} {l : Launch} {g : Gl} {y : MethodName} {cc : ByteArray} {nL k n pc : Nat} {r : Option FieldType} {rm : Room} {ws : va_W} {L : List (Option Value)} {st : List Value}
theorem sw_iadd (C : Cx X l g y cc nL r rm) {x z : Int32} (hd : decode cc pc = .ok (.iadd, 1))  (kk : SW X g nL k n ws (pc + 1) L (.int (x + z) :: st)) : SW X g nL k n ws (pc) L (.int z :: .int x :: st) := by
  obtain ⟨p, l0, e, R, s, m, args, below, meth, c, A, Q⟩ := X
  obtain ⟨hx, hb, hml, hown, hts, hK, hA, hr, hlk, hnm, hrm, hl0⟩ := C
  intro H locs ls hP hD hS hL
  exact lv_iadd hx hb hd  (kk H locs ls hP hD hS hL)
theorem sw_isub (C : Cx X l g y cc nL r rm) {x z : Int32} (hd : decode cc pc = .ok (.isub, 1))  (kk : SW X g nL k n ws (pc + 1) L (.int (x - z) :: st)) : SW X g nL k n ws (pc) L (.int z :: .int x :: st) := by
  obtain ⟨p, l0, e, R, s, m, args, below, meth, c, A, Q⟩ := X
  obtain ⟨hx, hb, hml, hown, hts, hK, hA, hr, hlk, hnm, hrm, hl0⟩ := C
  intro H locs ls hP hD hS hL
  exact lv_isub hx hb hd  (kk H locs ls hP hD hS hL)
theorem sw_imul (C : Cx X l g y cc nL r rm) {x z : Int32} (hd : decode cc pc = .ok (.imul, 1))  (kk : SW X g nL k n ws (pc + 1) L (.int (x * z) :: st)) : SW X g nL k n ws (pc) L (.int z :: .int x :: st) := by
  obtain ⟨p, l0, e, R, s, m, args, below, meth, c, A, Q⟩ := X
  obtain ⟨hx, hb, hml, hown, hts, hK, hA, hr, hlk, hnm, hrm, hl0⟩ := C
  intro H locs ls hP hD hS hL
  exact lv_imul hx hb hd  (kk H locs ls hP hD hS hL)
theorem sw_iand (C : Cx X l g y cc nL r rm) {x z : Int32} (hd : decode cc pc = .ok (.iand, 1))  (kk : SW X g nL k n ws (pc + 1) L (.int (x &&& z) :: st)) : SW X g nL k n ws (pc) L (.int z :: .int x :: st) := by
  obtain ⟨p, l0, e, R, s, m, args, below, meth, c, A, Q⟩ := X
  obtain ⟨hx, hb, hml, hown, hts, hK, hA, hr, hlk, hnm, hrm, hl0⟩ := C
  intro H locs ls hP hD hS hL
  exact lv_iand hx hb hd  (kk H locs ls hP hD hS hL)
theorem sw_ior (C : Cx X l g y cc nL r rm) {x z : Int32} (hd : decode cc pc = .ok (.ior, 1))  (kk : SW X g nL k n ws (pc + 1) L (.int (x ||| z) :: st)) : SW X g nL k n ws (pc) L (.int z :: .int x :: st) := by
  obtain ⟨p, l0, e, R, s, m, args, below, meth, c, A, Q⟩ := X
  obtain ⟨hx, hb, hml, hown, hts, hK, hA, hr, hlk, hnm, hrm, hl0⟩ := C
  intro H locs ls hP hD hS hL
  exact lv_ior hx hb hd  (kk H locs ls hP hD hS hL)
theorem sw_ixor (C : Cx X l g y cc nL r rm) {x z : Int32} (hd : decode cc pc = .ok (.ixor, 1))  (kk : SW X g nL k n ws (pc + 1) L (.int (x ^^^ z) :: st)) : SW X g nL k n ws (pc) L (.int z :: .int x :: st) := by
  obtain ⟨p, l0, e, R, s, m, args, below, meth, c, A, Q⟩ := X
  obtain ⟨hx, hb, hml, hown, hts, hK, hA, hr, hlk, hnm, hrm, hl0⟩ := C
  intro H locs ls hP hD hS hL
  exact lv_ixor hx hb hd  (kk H locs ls hP hD hS hL)
theorem sw_ishl (C : Cx X l g y cc nL r rm) {x z : Int32} (hd : decode cc pc = .ok (.ishl, 1))  (kk : SW X g nL k n ws (pc + 1) L (.int (x <<< (z &&& 31)) :: st)) : SW X g nL k n ws (pc) L (.int z :: .int x :: st) := by
  obtain ⟨p, l0, e, R, s, m, args, below, meth, c, A, Q⟩ := X
  obtain ⟨hx, hb, hml, hown, hts, hK, hA, hr, hlk, hnm, hrm, hl0⟩ := C
  intro H locs ls hP hD hS hL
  exact lv_ishl hx hb hd  (kk H locs ls hP hD hS hL)
theorem sw_ishr (C : Cx X l g y cc nL r rm) {x z : Int32} (hd : decode cc pc = .ok (.ishr, 1))  (kk : SW X g nL k n ws (pc + 1) L (.int (x >>> (z &&& 31)) :: st)) : SW X g nL k n ws (pc) L (.int z :: .int x :: st) := by
  obtain ⟨p, l0, e, R, s, m, args, below, meth, c, A, Q⟩ := X
  obtain ⟨hx, hb, hml, hown, hts, hK, hA, hr, hlk, hnm, hrm, hl0⟩ := C
  intro H locs ls hP hD hS hL
  exact lv_ishr hx hb hd  (kk H locs ls hP hD hS hL)
theorem sw_idiv (C : Cx X l g y cc nL r rm) {x z : Int32} (hd : decode cc pc = .ok (.idiv, 1)) (hne : ¬ z = 0) (kk : SW X g nL k n ws (pc + 1) L (.int (x / z) :: st)) : SW X g nL k n ws (pc) L (.int z :: .int x :: st) := by
  obtain ⟨p, l0, e, R, s, m, args, below, meth, c, A, Q⟩ := X
  obtain ⟨hx, hb, hml, hown, hts, hK, hA, hr, hlk, hnm, hrm, hl0⟩ := C
  intro H locs ls hP hD hS hL
  exact lv_idiv hx hb hd hne (kk H locs ls hP hD hS hL)
theorem sw_irem (C : Cx X l g y cc nL r rm) {x z : Int32} (hd : decode cc pc = .ok (.irem, 1)) (hne : ¬ z = 0) (kk : SW X g nL k n ws (pc + 1) L (.int (x - x / z * z) :: st)) : SW X g nL k n ws (pc) L (.int z :: .int x :: st) := by
  obtain ⟨p, l0, e, R, s, m, args, below, meth, c, A, Q⟩ := X
  obtain ⟨hx, hb, hml, hown, hts, hK, hA, hr, hlk, hnm, hrm, hl0⟩ := C
  intro H locs ls hP hD hS hL
  exact lv_irem hx hb hd hne (kk H locs ls hP hD hS hL)
theorem sw_ineg (C : Cx X l g y cc nL r rm) {x : Int32} (hd : decode cc pc = .ok (.ineg, 1))  (kk : SW X g nL k n ws (pc + 1) L (.int (-x) :: st)) : SW X g nL k n ws (pc) L (.int x :: st) := by
  obtain ⟨p, l0, e, R, s, m, args, below, meth, c, A, Q⟩ := X
  obtain ⟨hx, hb, hml, hown, hts, hK, hA, hr, hlk, hnm, hrm, hl0⟩ := C
  intro H locs ls hP hD hS hL
  exact lv_ineg hx hb hd  (kk H locs ls hP hD hS hL)
theorem sw_ladd (C : Cx X l g y cc nL r rm) {x z : Int64} (hd : decode cc pc = .ok (.ladd, 1))  (kk : SW X g nL k n ws (pc + 1) L (.long (x + z) :: st)) : SW X g nL k n ws (pc) L (.long z :: .long x :: st) := by
  obtain ⟨p, l0, e, R, s, m, args, below, meth, c, A, Q⟩ := X
  obtain ⟨hx, hb, hml, hown, hts, hK, hA, hr, hlk, hnm, hrm, hl0⟩ := C
  intro H locs ls hP hD hS hL
  exact lv_ladd hx hb hd  (kk H locs ls hP hD hS hL)
theorem sw_lsub (C : Cx X l g y cc nL r rm) {x z : Int64} (hd : decode cc pc = .ok (.lsub, 1))  (kk : SW X g nL k n ws (pc + 1) L (.long (x - z) :: st)) : SW X g nL k n ws (pc) L (.long z :: .long x :: st) := by
  obtain ⟨p, l0, e, R, s, m, args, below, meth, c, A, Q⟩ := X
  obtain ⟨hx, hb, hml, hown, hts, hK, hA, hr, hlk, hnm, hrm, hl0⟩ := C
  intro H locs ls hP hD hS hL
  exact lv_lsub hx hb hd  (kk H locs ls hP hD hS hL)
theorem sw_land (C : Cx X l g y cc nL r rm) {x z : Int64} (hd : decode cc pc = .ok (.land, 1))  (kk : SW X g nL k n ws (pc + 1) L (.long (x &&& z) :: st)) : SW X g nL k n ws (pc) L (.long z :: .long x :: st) := by
  obtain ⟨p, l0, e, R, s, m, args, below, meth, c, A, Q⟩ := X
  obtain ⟨hx, hb, hml, hown, hts, hK, hA, hr, hlk, hnm, hrm, hl0⟩ := C
  intro H locs ls hP hD hS hL
  exact lv_land hx hb hd  (kk H locs ls hP hD hS hL)
theorem sw_lor (C : Cx X l g y cc nL r rm) {x z : Int64} (hd : decode cc pc = .ok (.lor, 1))  (kk : SW X g nL k n ws (pc + 1) L (.long (x ||| z) :: st)) : SW X g nL k n ws (pc) L (.long z :: .long x :: st) := by
  obtain ⟨p, l0, e, R, s, m, args, below, meth, c, A, Q⟩ := X
  obtain ⟨hx, hb, hml, hown, hts, hK, hA, hr, hlk, hnm, hrm, hl0⟩ := C
  intro H locs ls hP hD hS hL
  exact lv_lor hx hb hd  (kk H locs ls hP hD hS hL)
theorem sw_lxor (C : Cx X l g y cc nL r rm) {x z : Int64} (hd : decode cc pc = .ok (.lxor, 1))  (kk : SW X g nL k n ws (pc + 1) L (.long (x ^^^ z) :: st)) : SW X g nL k n ws (pc) L (.long z :: .long x :: st) := by
  obtain ⟨p, l0, e, R, s, m, args, below, meth, c, A, Q⟩ := X
  obtain ⟨hx, hb, hml, hown, hts, hK, hA, hr, hlk, hnm, hrm, hl0⟩ := C
  intro H locs ls hP hD hS hL
  exact lv_lxor hx hb hd  (kk H locs ls hP hD hS hL)
theorem sw_i2l (C : Cx X l g y cc nL r rm) {x : Int32} (hd : decode cc pc = .ok (.i2l, 1))  (kk : SW X g nL k n ws (pc + 1) L (.long x.toInt64 :: st)) : SW X g nL k n ws (pc) L (.int x :: st) := by
  obtain ⟨p, l0, e, R, s, m, args, below, meth, c, A, Q⟩ := X
  obtain ⟨hx, hb, hml, hown, hts, hK, hA, hr, hlk, hnm, hrm, hl0⟩ := C
  intro H locs ls hP hD hS hL
  exact lv_i2l hx hb hd rfl (kk H locs ls hP hD hS hL)
theorem sw_l2i (C : Cx X l g y cc nL r rm) {x : Int64} (hd : decode cc pc = .ok (.l2i, 1))  (kk : SW X g nL k n ws (pc + 1) L (.int x.toInt32 :: st)) : SW X g nL k n ws (pc) L (.long x :: st) := by
  obtain ⟨p, l0, e, R, s, m, args, below, meth, c, A, Q⟩ := X
  obtain ⟨hx, hb, hml, hown, hts, hK, hA, hr, hlk, hnm, hrm, hl0⟩ := C
  intro H locs ls hP hD hS hL
  exact lv_l2i hx hb hd rfl (kk H locs ls hP hD hS hL)
theorem sw_lushr (C : Cx X l g y cc nL r rm) {x : Int64} {z : Int32} (hd : decode cc pc = .ok (.lushr, 1))  (kk : SW X g nL k n ws (pc + 1) L (.long (x.toUInt64 >>> (z.toInt64.toUInt64 &&& Int64.toUInt64 63)).toInt64 :: st)) : SW X g nL k n ws (pc) L (.int z :: .long x :: st) := by
  obtain ⟨p, l0, e, R, s, m, args, below, meth, c, A, Q⟩ := X
  obtain ⟨hx, hb, hml, hown, hts, hK, hA, hr, hlk, hnm, hrm, hl0⟩ := C
  intro H locs ls hP hD hS hL
  exact lv_lushr hx hb hd rfl (kk H locs ls hP hD hS hL)
theorem sw_lshl (C : Cx X l g y cc nL r rm) {x : Int64} {z : Int32} (hd : decode cc pc = .ok (.lshl, 1))  (kk : SW X g nL k n ws (pc + 1) L (.long (x <<< (z.toInt64 &&& 63)) :: st)) : SW X g nL k n ws (pc) L (.int z :: .long x :: st) := by
  obtain ⟨p, l0, e, R, s, m, args, below, meth, c, A, Q⟩ := X
  obtain ⟨hx, hb, hml, hown, hts, hK, hA, hr, hlk, hnm, hrm, hl0⟩ := C
  intro H locs ls hP hD hS hL
  exact lv_lshl hx hb hd rfl (kk H locs ls hP hD hS hL)
theorem sw_lcmp (C : Cx X l g y cc nL r rm) {x z : Int64} (hd : decode cc pc = .ok (.lcmp, 1))  (kk : SW X g nL k n ws (pc + 1) L (.int (lg_cmp x z) :: st)) : SW X g nL k n ws (pc) L (.long z :: .long x :: st) := by
  obtain ⟨p, l0, e, R, s, m, args, below, meth, c, A, Q⟩ := X
  obtain ⟨hx, hb, hml, hown, hts, hK, hA, hr, hlk, hnm, hrm, hl0⟩ := C
  intro H locs ls hP hD hS hL
  exact W.lcmp hx hb hd  (kk H locs ls hP hD hS hL)
theorem sw_dup (C : Cx X l g y cc nL r rm) {va : Value} (hd : decode cc pc = .ok (.dup, 1)) (hc : va.category = 1) (kk : SW X g nL k n ws (pc + 1) L (va :: va :: st)) : SW X g nL k n ws (pc) L (va :: st) := by
  obtain ⟨p, l0, e, R, s, m, args, below, meth, c, A, Q⟩ := X
  obtain ⟨hx, hb, hml, hown, hts, hK, hA, hr, hlk, hnm, hrm, hl0⟩ := C
  intro H locs ls hP hD hS hL
  exact lv_dup hx hb hd hc (kk H locs ls hP hD hS hL)
theorem sw_pop (C : Cx X l g y cc nL r rm) {va : Value} (hd : decode cc pc = .ok (.pop, 1)) (hc : va.category = 1) (kk : SW X g nL k n ws (pc + 1) L st) : SW X g nL k n ws (pc) L (va :: st) := by
  obtain ⟨p, l0, e, R, s, m, args, below, meth, c, A, Q⟩ := X
  obtain ⟨hx, hb, hml, hown, hts, hK, hA, hr, hlk, hnm, hrm, hl0⟩ := C
  intro H locs ls hP hD hS hL
  exact lv_pop hx hb hd hc (kk H locs ls hP hD hS hL)
theorem sw_pop2L (C : Cx X l g y cc nL r rm) {va : Value} (hd : decode cc pc = .ok (.pop2, 1)) (hc : va.category = 2) (kk : SW X g nL k n ws (pc + 1) L st) : SW X g nL k n ws (pc) L (va :: st) := by
  obtain ⟨p, l0, e, R, s, m, args, below, meth, c, A, Q⟩ := X
  obtain ⟨hx, hb, hml, hown, hts, hK, hA, hr, hlk, hnm, hrm, hl0⟩ := C
  intro H locs ls hP hD hS hL
  exact lv_pop2_2 hx hb hd hc (kk H locs ls hP hD hS hL)
theorem sw_dup_x1 (C : Cx X l g y cc nL r rm) {va vb : Value} (hd : decode cc pc = .ok (.dup_x1, 1)) (h1 : va.category = 1) (h2 : vb.category = 1) (kk : SW X g nL k n ws (pc + 1) L (va :: vb :: va :: st)) : SW X g nL k n ws (pc) L (va :: vb :: st) := by
  obtain ⟨p, l0, e, R, s, m, args, below, meth, c, A, Q⟩ := X
  obtain ⟨hx, hb, hml, hown, hts, hK, hA, hr, hlk, hnm, hrm, hl0⟩ := C
  intro H locs ls hP hD hS hL
  exact lv_dup_x1 hx hb hd h1 h2 (kk H locs ls hP hD hS hL)
theorem sw_dup_x2 (C : Cx X l g y cc nL r rm) {va vb vd : Value} (hd : decode cc pc = .ok (.dup_x2, 1)) (h1 : va.category = 1) (h2 : vb.category = 1) (h3 : vd.category = 1) (kk : SW X g nL k n ws (pc + 1) L (va :: vb :: vd :: va :: st)) : SW X g nL k n ws (pc) L (va :: vb :: vd :: st) := by
  obtain ⟨p, l0, e, R, s, m, args, below, meth, c, A, Q⟩ := X
  obtain ⟨hx, hb, hml, hown, hts, hK, hA, hr, hlk, hnm, hrm, hl0⟩ := C
  intro H locs ls hP hD hS hL
  exact lv_dup_x2 hx hb hd h1 h2 h3 (kk H locs ls hP hD hS hL)
theorem sw_dup2 (C : Cx X l g y cc nL r rm) {va vb : Value} (hd : decode cc pc = .ok (.dup2, 1)) (h1 : va.category = 1) (h2 : vb.category = 1) (kk : SW X g nL k n ws (pc + 1) L (va :: vb :: va :: vb :: st)) : SW X g nL k n ws (pc) L (va :: vb :: st) := by
  obtain ⟨p, l0, e, R, s, m, args, below, meth, c, A, Q⟩ := X
  obtain ⟨hx, hb, hml, hown, hts, hK, hA, hr, hlk, hnm, hrm, hl0⟩ := C
  intro H locs ls hP hD hS hL
  exact lv_dup2_11 hx hb hd h1 h2 (kk H locs ls hP hD hS hL)
theorem sw_iconst (C : Cx X l g y cc nL r rm) {i : Int} (v : Int32) (hd : decode cc pc = .ok (.iconst i, 1)) (hv : Int32.ofInt i = v) (kk : SW X g nL k n ws (pc + 1) L (.int v :: st)) : SW X g nL k n ws (pc) L st := by
  obtain ⟨p, l0, e, R, s, m, args, below, meth, c, A, Q⟩ := X
  obtain ⟨hx, hb, hml, hown, hts, hK, hA, hr, hlk, hnm, hrm, hl0⟩ := C
  intro H locs ls hP hD hS hL
  exact lv_iconst hx hb hd hv (kk H locs ls hP hD hS hL)
theorem sw_bipush (C : Cx X l g y cc nL r rm) {i : Int} (v : Int32) (hd : decode cc pc = .ok (.bipush i, 2)) (hv : (Int8.ofInt i).toInt32 = v) (kk : SW X g nL k n ws (pc + 2) L (.int v :: st)) : SW X g nL k n ws (pc) L st := by
  obtain ⟨p, l0, e, R, s, m, args, below, meth, c, A, Q⟩ := X
  obtain ⟨hx, hb, hml, hown, hts, hK, hA, hr, hlk, hnm, hrm, hl0⟩ := C
  intro H locs ls hP hD hS hL
  exact lv_bipush hx hb hd hv (kk H locs ls hP hD hS hL)
theorem sw_sipush (C : Cx X l g y cc nL r rm) {i : Int} (v : Int32) (hd : decode cc pc = .ok (.sipush i, 3)) (hv : (Int16.ofInt i).toInt32 = v) (kk : SW X g nL k n ws (pc + 3) L (.int v :: st)) : SW X g nL k n ws (pc) L st := by
  obtain ⟨p, l0, e, R, s, m, args, below, meth, c, A, Q⟩ := X
  obtain ⟨hx, hb, hml, hown, hts, hK, hA, hr, hlk, hnm, hrm, hl0⟩ := C
  intro H locs ls hP hD hS hL
  exact lv_sipush hx hb hd hv (kk H locs ls hP hD hS hL)
theorem sw_lconst (C : Cx X l g y cc nL r rm) {i : Fin 2} (v : Int64) (hd : decode cc pc = .ok (.lconst i, 1)) (hv : Int64.ofNat (i : Nat) = v) (kk : SW X g nL k n ws (pc + 1) L (.long v :: st)) : SW X g nL k n ws (pc) L st := by
  obtain ⟨p, l0, e, R, s, m, args, below, meth, c, A, Q⟩ := X
  obtain ⟨hx, hb, hml, hown, hts, hK, hA, hr, hlk, hnm, hrm, hl0⟩ := C
  intro H locs ls hP hD hS hL
  exact lv_lconst hx hb hd hv (kk H locs ls hP hD hS hL)
theorem sw_null (C : Cx X l g y cc nL r rm)  (hd : decode cc pc = .ok (.aconst_null, 1))  (kk : SW X g nL k n ws (pc + 1) L (.null :: st)) : SW X g nL k n ws (pc) L st := by
  obtain ⟨p, l0, e, R, s, m, args, below, meth, c, A, Q⟩ := X
  obtain ⟨hx, hb, hml, hown, hts, hK, hA, hr, hlk, hnm, hrm, hl0⟩ := C
  intro H locs ls hP hD hS hL
  exact lv_null hx hb hd  (kk H locs ls hP hD hS hL)
theorem sw_ldc (C : Cx X l g y cc nL r rm) {index : Nat} {v : Int32} (hw : Cond.constant y.cls index v ∈ TT) (hd : decode cc pc = .ok (.ldc index, 2)) (kk : SW X g nL k n ws (pc + 2) L (.int v :: st)) : SW X g nL k n ws (pc) L st := by
  obtain ⟨p, l0, e, R, s, m, args, below, meth, c, A, Q⟩ := X
  obtain ⟨hx, hb, hml, hown, hts, hK, hA, hr, hlk, hnm, hrm, hl0⟩ := C
  intro H locs ls hP hD hS hL
  exact lv_ldc hx hb hown (hts _ hw) hd (kk H locs ls hP hD hS hL)
theorem sw_ldc2 (C : Cx X l g y cc nL r rm) {index : Nat} {v : Int64} (hw : Cond.constantLong y.cls index v ∈ TT) (hd : decode cc pc = .ok (.ldc2_w index, 3)) (kk : SW X g nL k n ws (pc + 3) L (.long v :: st)) : SW X g nL k n ws (pc) L st := by
  obtain ⟨p, l0, e, R, s, m, args, below, meth, c, A, Q⟩ := X
  obtain ⟨hx, hb, hml, hown, hts, hK, hA, hr, hlk, hnm, hrm, hl0⟩ := C
  intro H locs ls hP hD hS hL
  exact lv_ldc2 hx hb hown (hts _ hw) hd (kk H locs ls hP hD hS hL)
theorem sw_iload_n (C : Cx X l g y cc nL r rm) {j : Fin 4} {i : Nat} {x : Int32} (hd : decode cc pc = .ok (.iload_n j, 1)) (hi : (j : Nat) = i) (hv : L[i]? = some (some (.int x))) (kk : SW X g nL k n ws (pc + 1) L (.int x :: st)) : SW X g nL k n ws (pc) L st := by
  obtain ⟨p, l0, e, R, s, m, args, below, meth, c, A, Q⟩ := X
  obtain ⟨hx, hb, hml, hown, hts, hK, hA, hr, hlk, hnm, hrm, hl0⟩ := C
  intro H locs ls hP hD hS hL
  exact lv_iload_n hx hb hd hi (lvl_get hL hv) (kk H locs ls hP hD hS hL)
theorem sw_iload (C : Cx X l g y cc nL r rm) {i : Nat} {x : Int32} (hd : decode cc pc = .ok (.iload i, 2)) (hv : L[i]? = some (some (.int x))) (kk : SW X g nL k n ws (pc + 2) L (.int x :: st)) : SW X g nL k n ws (pc) L st := by
  obtain ⟨p, l0, e, R, s, m, args, below, meth, c, A, Q⟩ := X
  obtain ⟨hx, hb, hml, hown, hts, hK, hA, hr, hlk, hnm, hrm, hl0⟩ := C
  intro H locs ls hP hD hS hL
  exact lv_iload hx hb hd (lvl_get hL hv) (kk H locs ls hP hD hS hL)
theorem sw_lload_n (C : Cx X l g y cc nL r rm) {j : Fin 4} {i : Nat} {x : Int64} (hd : decode cc pc = .ok (.lload_n j, 1)) (hi : (j : Nat) = i) (hv : L[i]? = some (some (.long x))) (kk : SW X g nL k n ws (pc + 1) L (.long x :: st)) : SW X g nL k n ws (pc) L st := by
  obtain ⟨p, l0, e, R, s, m, args, below, meth, c, A, Q⟩ := X
  obtain ⟨hx, hb, hml, hown, hts, hK, hA, hr, hlk, hnm, hrm, hl0⟩ := C
  intro H locs ls hP hD hS hL
  exact lv_lload_n hx hb hd hi (lvl_get hL hv) (kk H locs ls hP hD hS hL)
theorem sw_lload (C : Cx X l g y cc nL r rm) {i : Nat} {x : Int64} (hd : decode cc pc = .ok (.lload i, 2)) (hv : L[i]? = some (some (.long x))) (kk : SW X g nL k n ws (pc + 2) L (.long x :: st)) : SW X g nL k n ws (pc) L st := by
  obtain ⟨p, l0, e, R, s, m, args, below, meth, c, A, Q⟩ := X
  obtain ⟨hx, hb, hml, hown, hts, hK, hA, hr, hlk, hnm, hrm, hl0⟩ := C
  intro H locs ls hP hD hS hL
  exact lv_lload hx hb hd (lvl_get hL hv) (kk H locs ls hP hD hS hL)
theorem sw_aload_n (C : Cx X l g y cc nL r rm) {j : Fin 4} {i : Nat} {x : Nat} (hd : decode cc pc = .ok (.aload_n j, 1)) (hi : (j : Nat) = i) (hv : L[i]? = some (some (.ref x))) (kk : SW X g nL k n ws (pc + 1) L (.ref x :: st)) : SW X g nL k n ws (pc) L st := by
  obtain ⟨p, l0, e, R, s, m, args, below, meth, c, A, Q⟩ := X
  obtain ⟨hx, hb, hml, hown, hts, hK, hA, hr, hlk, hnm, hrm, hl0⟩ := C
  intro H locs ls hP hD hS hL
  exact lv_aload_n hx hb hd hi (lvl_get hL hv) (kk H locs ls hP hD hS hL)
theorem sw_aload (C : Cx X l g y cc nL r rm) {i : Nat} {x : Nat} (hd : decode cc pc = .ok (.aload i, 2)) (hv : L[i]? = some (some (.ref x))) (kk : SW X g nL k n ws (pc + 2) L (.ref x :: st)) : SW X g nL k n ws (pc) L st := by
  obtain ⟨p, l0, e, R, s, m, args, below, meth, c, A, Q⟩ := X
  obtain ⟨hx, hb, hml, hown, hts, hK, hA, hr, hlk, hnm, hrm, hl0⟩ := C
  intro H locs ls hP hD hS hL
  exact lv_aload hx hb hd (lvl_get hL hv) (kk H locs ls hP hD hS hL)
theorem sw_aload_nN (C : Cx X l g y cc nL r rm) {j : Fin 4} {i : Nat} (hd : decode cc pc = .ok (.aload_n j, 1)) (hi : (j : Nat) = i) (hv : L[i]? = some (some .null)) (kk : SW X g nL k n ws (pc + 1) L (.null :: st)) : SW X g nL k n ws (pc) L st := by
  obtain ⟨p, l0, e, R, s, m, args, below, meth, c, A, Q⟩ := X
  obtain ⟨hx, hb, hml, hown, hts, hK, hA, hr, hlk, hnm, hrm, hl0⟩ := C
  intro H locs ls hP hD hS hL
  exact lv_aload_nN hx hb hd hi (lvl_get hL hv) (kk H locs ls hP hD hS hL)
theorem sw_aloadN (C : Cx X l g y cc nL r rm) {i : Nat} (hd : decode cc pc = .ok (.aload i, 2)) (hv : L[i]? = some (some .null)) (kk : SW X g nL k n ws (pc + 2) L (.null :: st)) : SW X g nL k n ws (pc) L st := by
  obtain ⟨p, l0, e, R, s, m, args, below, meth, c, A, Q⟩ := X
  obtain ⟨hx, hb, hml, hown, hts, hK, hA, hr, hlk, hnm, hrm, hl0⟩ := C
  intro H locs ls hP hD hS hL
  exact lv_aloadN hx hb hd (lvl_get hL hv) (kk H locs ls hP hD hS hL)
theorem sw_istore_n (C : Cx X l g y cc nL r rm) {j : Fin 4} {i : Nat} {x : Int32} (hd : decode cc pc = .ok (.istore_n j, 1)) (hi : (j : Nat) = i) (hn : i < nL) (hok : okS L i = true) (kk : SW X g nL k n ws (pc + 1) (L.set i (some (.int x))) st) : SW X g nL k n ws (pc) L (.int x :: st) := by
  obtain ⟨p, l0, e, R, s, m, args, below, meth, c, A, Q⟩ := X
  obtain ⟨hx, hb, hml, hown, hts, hK, hA, hr, hlk, hnm, hrm, hl0⟩ := C
  intro H locs ls hP hD hS hL
  exact lv_istore_n hx hb hd hi hL hn rfl (fun ls' h' => kk H locs ls' hP hD hS (lvl_st1 hok h'))
theorem sw_istore (C : Cx X l g y cc nL r rm) {i : Nat} {x : Int32} (hd : decode cc pc = .ok (.istore i, 2)) (hn : i < nL) (hok : okS L i = true) (kk : SW X g nL k n ws (pc + 2) (L.set i (some (.int x))) st) : SW X g nL k n ws (pc) L (.int x :: st) := by
  obtain ⟨p, l0, e, R, s, m, args, below, meth, c, A, Q⟩ := X
  obtain ⟨hx, hb, hml, hown, hts, hK, hA, hr, hlk, hnm, hrm, hl0⟩ := C
  intro H locs ls hP hD hS hL
  exact lv_istore hx hb hd hL hn rfl (fun ls' h' => kk H locs ls' hP hD hS (lvl_st1 hok h'))
theorem sw_astore_n (C : Cx X l g y cc nL r rm) {j : Fin 4} {i : Nat} {x : Nat} (hd : decode cc pc = .ok (.astore_n j, 1)) (hi : (j : Nat) = i) (hn : i < nL) (hok : okS L i = true) (kk : SW X g nL k n ws (pc + 1) (L.set i (some (.ref x))) st) : SW X g nL k n ws (pc) L (.ref x :: st) := by
  obtain ⟨p, l0, e, R, s, m, args, below, meth, c, A, Q⟩ := X
  obtain ⟨hx, hb, hml, hown, hts, hK, hA, hr, hlk, hnm, hrm, hl0⟩ := C
  intro H locs ls hP hD hS hL
  exact lv_astore_n hx hb hd hi hL hn rfl (fun ls' h' => kk H locs ls' hP hD hS (lvl_st1 hok h'))
theorem sw_astore (C : Cx X l g y cc nL r rm) {i : Nat} {x : Nat} (hd : decode cc pc = .ok (.astore i, 2)) (hn : i < nL) (hok : okS L i = true) (kk : SW X g nL k n ws (pc + 2) (L.set i (some (.ref x))) st) : SW X g nL k n ws (pc) L (.ref x :: st) := by
  obtain ⟨p, l0, e, R, s, m, args, below, meth, c, A, Q⟩ := X
  obtain ⟨hx, hb, hml, hown, hts, hK, hA, hr, hlk, hnm, hrm, hl0⟩ := C
  intro H locs ls hP hD hS hL
  exact lv_astore hx hb hd hL hn rfl (fun ls' h' => kk H locs ls' hP hD hS (lvl_st1 hok h'))
theorem sw_astore_nN (C : Cx X l g y cc nL r rm) {j : Fin 4} {i : Nat} (hd : decode cc pc = .ok (.astore_n j, 1)) (hi : (j : Nat) = i) (hn : i < nL) (hok : okS L i = true) (kk : SW X g nL k n ws (pc + 1) (L.set i (some .null)) st) : SW X g nL k n ws (pc) L (.null :: st) := by
  obtain ⟨p, l0, e, R, s, m, args, below, meth, c, A, Q⟩ := X
  obtain ⟨hx, hb, hml, hown, hts, hK, hA, hr, hlk, hnm, hrm, hl0⟩ := C
  intro H locs ls hP hD hS hL
  exact lv_astore_nN hx hb hd hi hL hn rfl (fun ls' h' => kk H locs ls' hP hD hS (lvl_st1 hok h'))
theorem sw_astoreN (C : Cx X l g y cc nL r rm) {i : Nat} (hd : decode cc pc = .ok (.astore i, 2)) (hn : i < nL) (hok : okS L i = true) (kk : SW X g nL k n ws (pc + 2) (L.set i (some .null)) st) : SW X g nL k n ws (pc) L (.null :: st) := by
  obtain ⟨p, l0, e, R, s, m, args, below, meth, c, A, Q⟩ := X
  obtain ⟨hx, hb, hml, hown, hts, hK, hA, hr, hlk, hnm, hrm, hl0⟩ := C
  intro H locs ls hP hD hS hL
  exact lv_astoreN hx hb hd hL hn rfl (fun ls' h' => kk H locs ls' hP hD hS (lvl_st1 hok h'))
theorem sw_lstore_n (C : Cx X l g y cc nL r rm) {j : Fin 4} {i : Nat} {x : Int64} (hd : decode cc pc = .ok (.lstore_n j, 1)) (hi : (j : Nat) = i) (hn : i + 1 < nL) (hok : okS L i = true) (kk : SW X g nL k n ws (pc + 1) ((L.set i (some (.long x))).set (i + 1) none) st) : SW X g nL k n ws (pc) L (.long x :: st) := by
  obtain ⟨p, l0, e, R, s, m, args, below, meth, c, A, Q⟩ := X
  obtain ⟨hx, hb, hml, hown, hts, hK, hA, hr, hlk, hnm, hrm, hl0⟩ := C
  intro H locs ls hP hD hS hL
  exact lv_lstore_n hx hb hd hi hL hn rfl (fun ls' h' => kk H locs ls' hP hD hS (lvl_st2 hok h'))
theorem sw_lstore (C : Cx X l g y cc nL r rm) {i : Nat} {x : Int64} (hd : decode cc pc = .ok (.lstore i, 2)) (hn : i + 1 < nL) (hok : okS L i = true) (kk : SW X g nL k n ws (pc + 2) ((L.set i (some (.long x))).set (i + 1) none) st) : SW X g nL k n ws (pc) L (.long x :: st) := by
  obtain ⟨p, l0, e, R, s, m, args, below, meth, c, A, Q⟩ := X
  obtain ⟨hx, hb, hml, hown, hts, hK, hA, hr, hlk, hnm, hrm, hl0⟩ := C
  intro H locs ls hP hD hS hL
  exact lv_lstore hx hb hd hL hn rfl (fun ls' h' => kk H locs ls' hP hD hS (lvl_st2 hok h'))
theorem sw_iinc (C : Cx X l g y cc nL r rm) {i : Nat} {d : Int} {x : Int32} (dv : Int32) (hd : decode cc pc = .ok (.iinc i d, 3)) (hv : L[i]? = some (some (.int x))) (hdv : Int32.ofInt d = dv) (hn : i < nL) (hok : okS L i = true) (kk : SW X g nL k n ws (pc + 3) (L.set i (some (.int (x + dv)))) st) : SW X g nL k n ws (pc) L st := by
  obtain ⟨p, l0, e, R, s, m, args, below, meth, c, A, Q⟩ := X
  obtain ⟨hx, hb, hml, hown, hts, hK, hA, hr, hlk, hnm, hrm, hl0⟩ := C
  intro H locs ls hP hD hS hL
  obtain ⟨q, hq⟩ := List.getElem?_of_mem (lvl_mem L 0 i _ hv)
  rw [Nat.zero_add] at hq
  exact lv_iinc (v := x + dv) hx hb hd hL hq (by rw [hdv]) hn rfl (fun ls' h' => kk H locs ls' hP hD hS (lvl_st1 hok h'))
theorem sw_if_eq (C : Cx X l g y cc nL r rm) {x : Int32} {off : Int} (tgt : Nat) (hd : decode cc pc = .ok (.ifCond .eq off, 3)) (ht : (pc : Int) + off = (tgt : Int)) (kt : x = 0 → SW X g nL k n ws (tgt) L st) (kf : ¬ x = 0 → SW X g nL k n ws (pc + 3) L st) : SW X g nL k n ws (pc) L (.int x :: st) := by
  obtain ⟨p, l0, e, R, s, m, args, below, meth, c, A, Q⟩ := X
  obtain ⟨hx, hb, hml, hown, hts, hK, hA, hr, hlk, hnm, hrm, hl0⟩ := C
  intro H locs ls hP hD hS hL
  exact lv_if_eq hx hb hd ht (fun h => kt h H locs ls hP hD hS hL) (fun h => kf h H locs ls hP hD hS hL)
theorem sw_if_ne (C : Cx X l g y cc nL r rm) {x : Int32} {off : Int} (tgt : Nat) (hd : decode cc pc = .ok (.ifCond .ne off, 3)) (ht : (pc : Int) + off = (tgt : Int)) (kt : ¬ x = 0 → SW X g nL k n ws (tgt) L st) (kf : x = 0 → SW X g nL k n ws (pc + 3) L st) : SW X g nL k n ws (pc) L (.int x :: st) := by
  obtain ⟨p, l0, e, R, s, m, args, below, meth, c, A, Q⟩ := X
  obtain ⟨hx, hb, hml, hown, hts, hK, hA, hr, hlk, hnm, hrm, hl0⟩ := C
  intro H locs ls hP hD hS hL
  exact lv_if_ne hx hb hd ht (fun h => kt h H locs ls hP hD hS hL) (fun h => kf h H locs ls hP hD hS hL)
theorem sw_if_lt (C : Cx X l g y cc nL r rm) {x : Int32} {off : Int} (tgt : Nat) (hd : decode cc pc = .ok (.ifCond .lt off, 3)) (ht : (pc : Int) + off = (tgt : Int)) (kt : x < 0 → SW X g nL k n ws (tgt) L st) (kf : ¬ x < 0 → SW X g nL k n ws (pc + 3) L st) : SW X g nL k n ws (pc) L (.int x :: st) := by
  obtain ⟨p, l0, e, R, s, m, args, below, meth, c, A, Q⟩ := X
  obtain ⟨hx, hb, hml, hown, hts, hK, hA, hr, hlk, hnm, hrm, hl0⟩ := C
  intro H locs ls hP hD hS hL
  exact lv_if_lt hx hb hd ht (fun h => kt h H locs ls hP hD hS hL) (fun h => kf h H locs ls hP hD hS hL)
theorem sw_if_ge (C : Cx X l g y cc nL r rm) {x : Int32} {off : Int} (tgt : Nat) (hd : decode cc pc = .ok (.ifCond .ge off, 3)) (ht : (pc : Int) + off = (tgt : Int)) (kt : 0 ≤ x → SW X g nL k n ws (tgt) L st) (kf : ¬ 0 ≤ x → SW X g nL k n ws (pc + 3) L st) : SW X g nL k n ws (pc) L (.int x :: st) := by
  obtain ⟨p, l0, e, R, s, m, args, below, meth, c, A, Q⟩ := X
  obtain ⟨hx, hb, hml, hown, hts, hK, hA, hr, hlk, hnm, hrm, hl0⟩ := C
  intro H locs ls hP hD hS hL
  exact lv_if_ge hx hb hd ht (fun h => kt h H locs ls hP hD hS hL) (fun h => kf h H locs ls hP hD hS hL)
theorem sw_if_gt (C : Cx X l g y cc nL r rm) {x : Int32} {off : Int} (tgt : Nat) (hd : decode cc pc = .ok (.ifCond .gt off, 3)) (ht : (pc : Int) + off = (tgt : Int)) (kt : 0 < x → SW X g nL k n ws (tgt) L st) (kf : ¬ 0 < x → SW X g nL k n ws (pc + 3) L st) : SW X g nL k n ws (pc) L (.int x :: st) := by
  obtain ⟨p, l0, e, R, s, m, args, below, meth, c, A, Q⟩ := X
  obtain ⟨hx, hb, hml, hown, hts, hK, hA, hr, hlk, hnm, hrm, hl0⟩ := C
  intro H locs ls hP hD hS hL
  exact lv_if_gt hx hb hd ht (fun h => kt h H locs ls hP hD hS hL) (fun h => kf h H locs ls hP hD hS hL)
theorem sw_if_le (C : Cx X l g y cc nL r rm) {x : Int32} {off : Int} (tgt : Nat) (hd : decode cc pc = .ok (.ifCond .le off, 3)) (ht : (pc : Int) + off = (tgt : Int)) (kt : x ≤ 0 → SW X g nL k n ws (tgt) L st) (kf : ¬ x ≤ 0 → SW X g nL k n ws (pc + 3) L st) : SW X g nL k n ws (pc) L (.int x :: st) := by
  obtain ⟨p, l0, e, R, s, m, args, below, meth, c, A, Q⟩ := X
  obtain ⟨hx, hb, hml, hown, hts, hK, hA, hr, hlk, hnm, hrm, hl0⟩ := C
  intro H locs ls hP hD hS hL
  exact lv_if_le hx hb hd ht (fun h => kt h H locs ls hP hD hS hL) (fun h => kf h H locs ls hP hD hS hL)
theorem sw_icmp_eq (C : Cx X l g y cc nL r rm) {x z : Int32} {off : Int} (tgt : Nat) (hd : decode cc pc = .ok (.if_icmp .eq off, 3)) (ht : (pc : Int) + off = (tgt : Int)) (kt : x = z → SW X g nL k n ws (tgt) L st) (kf : ¬ x = z → SW X g nL k n ws (pc + 3) L st) : SW X g nL k n ws (pc) L (.int z :: .int x :: st) := by
  obtain ⟨p, l0, e, R, s, m, args, below, meth, c, A, Q⟩ := X
  obtain ⟨hx, hb, hml, hown, hts, hK, hA, hr, hlk, hnm, hrm, hl0⟩ := C
  intro H locs ls hP hD hS hL
  exact lv_icmp_eq hx hb hd ht (fun h => kt h H locs ls hP hD hS hL) (fun h => kf h H locs ls hP hD hS hL)
theorem sw_icmp_ne (C : Cx X l g y cc nL r rm) {x z : Int32} {off : Int} (tgt : Nat) (hd : decode cc pc = .ok (.if_icmp .ne off, 3)) (ht : (pc : Int) + off = (tgt : Int)) (kt : ¬ x = z → SW X g nL k n ws (tgt) L st) (kf : x = z → SW X g nL k n ws (pc + 3) L st) : SW X g nL k n ws (pc) L (.int z :: .int x :: st) := by
  obtain ⟨p, l0, e, R, s, m, args, below, meth, c, A, Q⟩ := X
  obtain ⟨hx, hb, hml, hown, hts, hK, hA, hr, hlk, hnm, hrm, hl0⟩ := C
  intro H locs ls hP hD hS hL
  exact lv_icmp_ne hx hb hd ht (fun h => kt h H locs ls hP hD hS hL) (fun h => kf h H locs ls hP hD hS hL)
theorem sw_icmp_lt (C : Cx X l g y cc nL r rm) {x z : Int32} {off : Int} (tgt : Nat) (hd : decode cc pc = .ok (.if_icmp .lt off, 3)) (ht : (pc : Int) + off = (tgt : Int)) (kt : x < z → SW X g nL k n ws (tgt) L st) (kf : ¬ x < z → SW X g nL k n ws (pc + 3) L st) : SW X g nL k n ws (pc) L (.int z :: .int x :: st) := by
  obtain ⟨p, l0, e, R, s, m, args, below, meth, c, A, Q⟩ := X
  obtain ⟨hx, hb, hml, hown, hts, hK, hA, hr, hlk, hnm, hrm, hl0⟩ := C
  intro H locs ls hP hD hS hL
  exact lv_icmp_lt hx hb hd ht (fun h => kt h H locs ls hP hD hS hL) (fun h => kf h H locs ls hP hD hS hL)
theorem sw_icmp_ge (C : Cx X l g y cc nL r rm) {x z : Int32} {off : Int} (tgt : Nat) (hd : decode cc pc = .ok (.if_icmp .ge off, 3)) (ht : (pc : Int) + off = (tgt : Int)) (kt : z ≤ x → SW X g nL k n ws (tgt) L st) (kf : ¬ z ≤ x → SW X g nL k n ws (pc + 3) L st) : SW X g nL k n ws (pc) L (.int z :: .int x :: st) := by
  obtain ⟨p, l0, e, R, s, m, args, below, meth, c, A, Q⟩ := X
  obtain ⟨hx, hb, hml, hown, hts, hK, hA, hr, hlk, hnm, hrm, hl0⟩ := C
  intro H locs ls hP hD hS hL
  exact lv_icmp_ge hx hb hd ht (fun h => kt h H locs ls hP hD hS hL) (fun h => kf h H locs ls hP hD hS hL)
theorem sw_icmp_gt (C : Cx X l g y cc nL r rm) {x z : Int32} {off : Int} (tgt : Nat) (hd : decode cc pc = .ok (.if_icmp .gt off, 3)) (ht : (pc : Int) + off = (tgt : Int)) (kt : z < x → SW X g nL k n ws (tgt) L st) (kf : ¬ z < x → SW X g nL k n ws (pc + 3) L st) : SW X g nL k n ws (pc) L (.int z :: .int x :: st) := by
  obtain ⟨p, l0, e, R, s, m, args, below, meth, c, A, Q⟩ := X
  obtain ⟨hx, hb, hml, hown, hts, hK, hA, hr, hlk, hnm, hrm, hl0⟩ := C
  intro H locs ls hP hD hS hL
  exact lv_icmp_gt hx hb hd ht (fun h => kt h H locs ls hP hD hS hL) (fun h => kf h H locs ls hP hD hS hL)
theorem sw_icmp_le (C : Cx X l g y cc nL r rm) {x z : Int32} {off : Int} (tgt : Nat) (hd : decode cc pc = .ok (.if_icmp .le off, 3)) (ht : (pc : Int) + off = (tgt : Int)) (kt : x ≤ z → SW X g nL k n ws (tgt) L st) (kf : ¬ x ≤ z → SW X g nL k n ws (pc + 3) L st) : SW X g nL k n ws (pc) L (.int z :: .int x :: st) := by
  obtain ⟨p, l0, e, R, s, m, args, below, meth, c, A, Q⟩ := X
  obtain ⟨hx, hb, hml, hown, hts, hK, hA, hr, hlk, hnm, hrm, hl0⟩ := C
  intro H locs ls hP hD hS hL
  exact lv_icmp_le hx hb hd ht (fun h => kt h H locs ls hP hD hS hL) (fun h => kf h H locs ls hP hD hS hL)
theorem sw_goto (C : Cx X l g y cc nL r rm) {off : Int} (tgt : Nat) (hd : decode cc pc = .ok (.goto off, 3)) (ht : (pc : Int) + off = (tgt : Int)) (kk : SW X g nL k n ws (tgt) L st) : SW X g nL k n ws (pc) L st := by
  obtain ⟨p, l0, e, R, s, m, args, below, meth, c, A, Q⟩ := X
  obtain ⟨hx, hb, hml, hown, hts, hK, hA, hr, hlk, hnm, hrm, hl0⟩ := C
  intro H locs ls hP hD hS hL
  exact lv_goto hx hb hd ht (kk H locs ls hP hD hS hL)
theorem sw_ifnonnull (C : Cx X l g y cc nL r rm) {x : Nat} {off : Int} (tgt : Nat) (hd : decode cc pc = .ok (.ifnonnull off, 3)) (ht : (pc : Int) + off = (tgt : Int)) (kk : SW X g nL k n ws (tgt) L st) : SW X g nL k n ws (pc) L (.ref x :: st) := by
  obtain ⟨p, l0, e, R, s, m, args, below, meth, c, A, Q⟩ := X
  obtain ⟨hx, hb, hml, hown, hts, hK, hA, hr, hlk, hnm, hrm, hl0⟩ := C
  intro H locs ls hP hD hS hL
  exact lv_ifnonnull hx hb hd ht (kk H locs ls hP hD hS hL)
theorem sw_ifnull (C : Cx X l g y cc nL r rm) {x : Nat} {off : Int} (hd : decode cc pc = .ok (.ifnull off, 3)) (kk : SW X g nL k n ws (pc + 3) L st) : SW X g nL k n ws (pc) L (.ref x :: st) := by
  obtain ⟨p, l0, e, R, s, m, args, below, meth, c, A, Q⟩ := X
  obtain ⟨hx, hb, hml, hown, hts, hK, hA, hr, hlk, hnm, hrm, hl0⟩ := C
  intro H locs ls hP hD hS hL
  exact lv_ifnull hx hb hd (kk H locs ls hP hD hS hL)
theorem sw_ifnullN (C : Cx X l g y cc nL r rm) {off : Int} (tgt : Nat) (hd : decode cc pc = .ok (.ifnull off, 3)) (ht : (pc : Int) + off = (tgt : Int)) (kk : SW X g nL k n ws (tgt) L st) : SW X g nL k n ws (pc) L (.null :: st) := by
  obtain ⟨p, l0, e, R, s, m, args, below, meth, c, A, Q⟩ := X
  obtain ⟨hx, hb, hml, hown, hts, hK, hA, hr, hlk, hnm, hrm, hl0⟩ := C
  intro H locs ls hP hD hS hL
  exact lv_ifnullN hx hb hd ht (kk H locs ls hP hD hS hL)
theorem sw_ifnonnullN (C : Cx X l g y cc nL r rm) {off : Int} (hd : decode cc pc = .ok (.ifnonnull off, 3)) (kk : SW X g nL k n ws (pc + 3) L st) : SW X g nL k n ws (pc) L (.null :: st) := by
  obtain ⟨p, l0, e, R, s, m, args, below, meth, c, A, Q⟩ := X
  obtain ⟨hx, hb, hml, hown, hts, hK, hA, hr, hlk, hnm, hrm, hl0⟩ := C
  intro H locs ls hP hD hS hL
  exact lv_ifnonnullN hx hb hd (kk H locs ls hP hD hS hL)
theorem sw_ws {ws' : va_W} (h : ws = ws') (kk : SW X g nL k n ws' pc L st) : SW X g nL k n ws pc L st := h ▸ kk
theorem sw_L {L' : List (Option Value)} (h : L = L') (kk : SW X g nL k n ws pc L' st) : SW X g nL k n ws pc L st := h ▸ kk
theorem sw_st {st' : List Value} (h : st = st') (kk : SW X g nL k n ws pc L st') : SW X g nL k n ws pc L st := h ▸ kk
theorem sw_topi {x z : Int32} (h : x = z) (kk : SW X g nL k n ws pc L (.int z :: st)) : SW X g nL k n ws pc L (.int x :: st) := h ▸ kk
theorem sw_topl {x z : Int64} (h : x = z) (kk : SW X g nL k n ws pc L (.long z :: st)) : SW X g nL k n ws pc L (.long x :: st) := h ▸ kk
theorem sw_gen {x : Int32} (kk : ∀ z : Int32, z = x → SW X g nL k n ws pc L (.int z :: st)) : SW X g nL k n ws pc L (.int x :: st) := kk x rfl
/-- fewer locals are known -/
theorem sw_drop (i : Nat) (kk : SW X g nL k n ws pc (L.set i none) st) : SW X g nL k n ws pc L st := by
  obtain ⟨p, l0, e, R, s, m, args, below, meth, c, A, Q⟩ := X
  intro H locs ls hP hD hS hL
  refine kk H locs ls hP hD hS ⟨hL.1, hL.2.1, fun q hq => hL.2.2 q ?_⟩
  obtain ⟨j, h1, h2⟩ := lvl_of _ 0 q hq
  rw [Nat.zero_add] at h1
  obtain ⟨a, u⟩ := q
  dsimp only at h1 h2
  subst h1
  by_cases hj : a = i
  · subst hj
    have hl : a < L.length := by
      have := (List.getElem?_eq_some_iff.mp h2).1
      simpa using this
    rw [List.getElem?_set_self hl] at h2
    cases h2
  · rw [List.getElem?_set_ne (Ne.symm hj)] at h2
    have := lvl_mem L 0 a u h2
    rwa [Nat.zero_add] at this
theorem pick_of {ws ws' : va_W} : ∀ (is : List Nat) (ws' : va_W), is.map (fun i => ws[i]?) = ws'.map some → is.filterMap (fun i => ws[i]?) = ws'
  | [], [], _ => rfl
  | [], q :: r, h => by simp at h
  | i :: is, [], h => by simp at h
  | i :: is, q :: r, h => by
    simp only [List.map_cons, List.cons.injEq] at h
    rw [List.filterMap_cons, h.1]
    simp only [pick_of (ws := ws) (ws' := ws') is r h.2]
/-- some cells, in another order -/
theorem sw_sub {ws' : va_W} (is : List Nat) (hs : is.map (fun i => ws[i]?) = ws'.map some) (hn : va_nd is = true) (kk : SW X g nL k n ws' pc L st) : SW X g nL k n ws pc L st := by
  obtain ⟨p, l0, e, R, s, m, args, below, meth, c, A, Q⟩ := X
  intro H locs ls hP hD hS hL
  exact kk H locs ls (hP.sub is (pick_of (ws' := ws') is ws' hs)) (hD.sub is hn hs) hS hL
theorem sw_widen {k' n' : Nat} (h1 : k ≤ k') (h2 : n ≤ n') (kk : SW X g nL k' n' ws pc L st) : SW X g nL k n ws pc L st := by
  obtain ⟨p, l0, e, R, s, m, args, below, meth, c, A, Q⟩ := X
  intro H locs ls hP hD hS hL
  exact W.widen h1 h2 (kk H locs ls hP hD hS hL)
/-- the cells lie apart -/
theorem sw_apart (kk : (∀ (i j : Nat) (p q : Nat × va_E), ws[i]? = some p → ws[j]? = some q → p.1 = q.1 → i = j) → SW X g nL k n ws pc L st) : SW X g nL k n ws pc L st := by
  obtain ⟨p, l0, e, R, s, m, args, below, meth, c, A, Q⟩ := X
  intro H locs ls hP hD hS hL
  exact kk hD.1 H locs ls hP hD hS hL
theorem sw_get (C : Cx X l g y cc nL r rm) {ref Cn : String} {T : u_T} {N ci index : Nat} (hin : ∀ w ∈ u_ws Cn T N, w ∈ TT) {a : Nat} (q0 : Nat) {fs : List Value} (he : ws[q0]? = some (a, .inr (ci, fs))) (hc : vwCl[ci]? = some (Cn, T, N)) (j : Nat) (hj : j < N) (hlink : Cond.fieldLink y.cls index ref (T j).2.1 (T j).2.2.1 ∈ TT) (hsame : ref = (T j).1) {v : Value} (hv : fs[j]? = some v) (hd : decode cc pc = .ok (.getfield index, 3)) (kk : SW X g nL k n ws (pc + 3) L (v :: st)) : SW X g nL k n ws (pc) L (.ref a :: st) := by
  obtain ⟨p, l0, e, R, s, m, args, below, meth, c, A, Q⟩ := X
  obtain ⟨hx, hb, hml, hown, hts, hK, hA, hr, hlk, hnm, hrm, hl0⟩ := C
  intro H locs ls hP hD hS hL
  exact va_get hx hb hts hin hown hK.1 hP q0 he hc j hj (hts _ hlink) (fun x h9 => by rw [hsame]; exact h9) hv hd (kk H locs ls hP hD hS hL)
theorem sw_getN (C : Cx X l g y cc nL r rm) {ref Cn : String} {T : u_T} {N ci index : Nat} (hin : ∀ w ∈ u_ws Cn T N, w ∈ TT) {a : Nat} (q0 : Nat) {fs : List Value} (he : ws[q0]? = some (a, .inr (ci, fs))) (hc : vwCl[ci]? = some (Cn, T, N)) (j : Nat) (hj : j < N) (host : String) (hlink : Cond.fieldLinkNest y.cls index ref (T j).2.1 (T j).2.2.1 host ∈ lw_tbl) (hsame : ref = (T j).1) {v : Value} (hv : fs[j]? = some v) (hd : decode cc pc = .ok (.getfield index, 3)) (kk : SW X g nL k n ws (pc + 3) L (v :: st)) : SW X g nL k n ws (pc) L (.ref a :: st) := by
  obtain ⟨p, l0, e, R, s, m, args, below, meth, c, A, Q⟩ := X
  obtain ⟨hx, hb, hml, hown, hts, hK, hA, hr, hlk, hnm, hrm, hl0⟩ := C
  intro H locs ls hP hD hS hL
  exact va_getN hx hb hts hin hown hK.1 hP q0 he hc j hj (va_Nw.use rfl (hK.2 _ hlink rfl)) (fun x h9 => by rw [hsame]; exact h9) hv hd (kk H locs ls hP hD hS hL)
theorem sw_put (C : Cx X l g y cc nL r rm) {ref Cn : String} {T : u_T} {N ci index : Nat} (hin : ∀ w ∈ u_ws Cn T N, w ∈ TT) {a : Nat} (q0 : Nat) {fs : List Value} (he : ws[q0]? = some (a, .inr (ci, fs))) (hc : vwCl[ci]? = some (Cn, T, N)) (j : Nat) (hj : j < N) (ty0 : Nat → FieldType) (hty : ∀ k, k < N → parseFieldDescriptor (T k).2.2.1 = some (ty0 k)) (hnm0 : ∀ a, a < N → ∀ b, b < N → a ≠ b → (T a).2.1 ≠ (T b).2.1) (hlink : Cond.fieldLink y.cls index ref (T j).2.1 (T j).2.2.1 ∈ TT) (hsame : ref = (T j).1) (hfin : (T j).2.2.2 = false) {ty : FieldType} {v : Value} (hpd : parseFieldDescriptor (T j).2.2.1 = some ty) (hnr : narrow ty v = v) (hfit : fits ty v = true) (hl : j < fs.length) (hd : decode cc pc = .ok (.putfield index, 3)) (kk : SW X g nL k n (ws.set q0 (a, .inr (ci, fs.set j v))) (pc + 3) L st) : SW X g nL k n ws (pc) L (v :: .ref a :: st) := by
  obtain ⟨p, l0, e, R, s, m, args, below, meth, c, A, Q⟩ := X
  obtain ⟨hx, hb, hml, hown, hts, hK, hA, hr, hlk, hnm, hrm, hl0⟩ := C
  intro H locs ls hP hD hS hL
  exact va_put hx hb hts hin ty0 hty hnm0 hown hK.1 hP hD hS q0 he hc j hj (hts _ hlink) (fun x h9 => by rw [hsame]; exact h9) hfin hpd hnr hfit hl hd (fun H1 locs1 hP1 hD1 hS1 => kk H1 locs1 ls hP1 hD1 hS1 hL)
theorem sw_putF (C : Cx X l g y cc nL r rm) {ref Cn : String} {T : u_T} {N ci index : Nat} (hin : ∀ w ∈ u_ws Cn T N, w ∈ TT) {a : Nat} (q0 : Nat) {fs : List Value} (he : ws[q0]? = some (a, .inr (ci, fs))) (hc : vwCl[ci]? = some (Cn, T, N)) (j : Nat) (hj : j < N) (ty0 : Nat → FieldType) (hty : ∀ k, k < N → parseFieldDescriptor (T k).2.2.1 = some (ty0 k)) (hnm0 : ∀ a, a < N → ∀ b, b < N → a ≠ b → (T a).2.1 ≠ (T b).2.1) (hlink : Cond.fieldLink y.cls index ref (T j).2.1 (T j).2.2.1 ∈ TT) (hsame : ref = (T j).1) (hfin : (T j).2.2.2 = true) (hini : y.name = "<init>") (hdecl : (T j).1 = y.cls) {ty : FieldType} {v : Value} (hpd : parseFieldDescriptor (T j).2.2.1 = some ty) (hnr : narrow ty v = v) (hfit : fits ty v = true) (hl : j < fs.length) (hd : decode cc pc = .ok (.putfield index, 3)) (kk : SW X g nL k n (ws.set q0 (a, .inr (ci, fs.set j v))) (pc + 3) L st) : SW X g nL k n ws (pc) L (v :: .ref a :: st) := by
  obtain ⟨p, l0, e, R, s, m, args, below, meth, c, A, Q⟩ := X
  obtain ⟨hx, hb, hml, hown, hts, hK, hA, hr, hlk, hnm, hrm, hl0⟩ := C
  intro H locs ls hP hD hS hL
  exact va_putF hx hb hts hin ty0 hty hnm0 hown hK.1 hP hD hS q0 he hc j hj (hts _ hlink) (fun x h9 => by rw [hsame]; exact h9) hfin (hnm.trans hini) hdecl hpd hnr hfit hl hd (fun H1 locs1 hP1 hD1 hS1 => kk H1 locs1 ls hP1 hD1 hS1 hL)
theorem sw_putN (C : Cx X l g y cc nL r rm) {ref Cn : String} {T : u_T} {N ci index : Nat} (hin : ∀ w ∈ u_ws Cn T N, w ∈ TT) {a : Nat} (q0 : Nat) {fs : List Value} (he : ws[q0]? = some (a, .inr (ci, fs))) (hc : vwCl[ci]? = some (Cn, T, N)) (j : Nat) (hj : j < N) (ty0 : Nat → FieldType) (hty : ∀ k, k < N → parseFieldDescriptor (T k).2.2.1 = some (ty0 k)) (hnm0 : ∀ a, a < N → ∀ b, b < N → a ≠ b → (T a).2.1 ≠ (T b).2.1) (host : String) (hlink : Cond.fieldLinkNest y.cls index ref (T j).2.1 (T j).2.2.1 host ∈ lw_tbl) (hsame : ref = (T j).1) (hfin : (T j).2.2.2 = false) {ty : FieldType} {v : Value} (hpd : parseFieldDescriptor (T j).2.2.1 = some ty) (hnr : narrow ty v = v) (hfit : fits ty v = true) (hl : j < fs.length) (hd : decode cc pc = .ok (.putfield index, 3)) (kk : SW X g nL k n (ws.set q0 (a, .inr (ci, fs.set j v))) (pc + 3) L st) : SW X g nL k n ws (pc) L (v :: .ref a :: st) := by
  obtain ⟨p, l0, e, R, s, m, args, below, meth, c, A, Q⟩ := X
  obtain ⟨hx, hb, hml, hown, hts, hK, hA, hr, hlk, hnm, hrm, hl0⟩ := C
  intro H locs ls hP hD hS hL
  exact va_putN hx hb hts hin ty0 hty hnm0 hown hK.1 hP hD hS q0 he hc j hj (va_Nw.use rfl (hK.2 _ hlink rfl)) (fun x h9 => by rw [hsame]; exact h9) hfin hpd hnr hfit hl hd (fun H1 locs1 hP1 hD1 hS1 => kk H1 locs1 ls hP1 hD1 hS1 hL)
theorem sw_iald (C : Cx X l g y cc nL r rm) {a N : Nat} {f : Nat → Int32} {i : Int32} (q0 : Nat) (he : ws[q0]? = some (a, .inl (g.2.1, N, .inl f))) (hi : vp_in i N) (hd : decode cc pc = .ok (.iaload, 1)) (kk : SW X g nL k n ws (pc + 1) L (.int (f i.toNatClampNeg) :: st)) : SW X g nL k n ws (pc) L (.int i :: .ref a :: st) := by
  obtain ⟨p, l0, e, R, s, m, args, below, meth, c, A, Q⟩ := X
  obtain ⟨hx, hb, hml, hown, hts, hK, hA, hr, hlk, hnm, hrm, hl0⟩ := C
  intro H locs ls hP hD hS hL
  exact va_iald hx hb hK.1 hP q0 0 he rfl hi hd (kk H locs ls hP hD hS hL)
theorem sw_zald (C : Cx X l g y cc nL r rm) {a N : Nat} {f : Nat → Int32} {i : Int32} (q0 : Nat) (he : ws[q0]? = some (a, .inl (g.2.2.2.1, N, .inl f))) (hi : vp_in i N) (hd : decode cc pc = .ok (.baload, 1)) (kk : SW X g nL k n ws (pc + 1) L (.int (f i.toNatClampNeg) :: st)) : SW X g nL k n ws (pc) L (.int i :: .ref a :: st) := by
  obtain ⟨p, l0, e, R, s, m, args, below, meth, c, A, Q⟩ := X
  obtain ⟨hx, hb, hml, hown, hts, hK, hA, hr, hlk, hnm, hrm, hl0⟩ := C
  intro H locs ls hP hD hS hL
  exact va_zald hx hb hK.1 hP q0 2 he rfl hi hd (kk H locs ls hP hD hS hL)
theorem sw_lald (C : Cx X l g y cc nL r rm) {a N : Nat} {f : Nat → Int64} {i : Int32} (q0 : Nat) (he : ws[q0]? = some (a, .inl (g.2.2.1, N, .inr (.inl f)))) (hi : vp_in i N) (hd : decode cc pc = .ok (.laload, 1)) (kk : SW X g nL k n ws (pc + 1) L (.long (f i.toNatClampNeg) :: st)) : SW X g nL k n ws (pc) L (.int i :: .ref a :: st) := by
  obtain ⟨p, l0, e, R, s, m, args, below, meth, c, A, Q⟩ := X
  obtain ⟨hx, hb, hml, hown, hts, hK, hA, hr, hlk, hnm, hrm, hl0⟩ := C
  intro H locs ls hP hD hS hL
  exact va_lald hx hb hK.1 hP q0 1 he rfl hi hd (kk H locs ls hP hD hS hL)
theorem sw_aald (C : Cx X l g y cc nL r rm) {a N : Nat} {f : Nat → Option Nat} {i : Int32} (q0 : Nat) (he : ws[q0]? = some (a, .inl (g.2.2.2.2, N, .inr (.inr (.inr (.inr f)))))) (hi : vp_in i N) (hd : decode cc pc = .ok (.aaload, 1)) (kk : SW X g nL k n ws (pc + 1) L (va_rf (f i.toNatClampNeg) :: st)) : SW X g nL k n ws (pc) L (.int i :: .ref a :: st) := by
  obtain ⟨p, l0, e, R, s, m, args, below, meth, c, A, Q⟩ := X
  obtain ⟨hx, hb, hml, hown, hts, hK, hA, hr, hlk, hnm, hrm, hl0⟩ := C
  intro H locs ls hP hD hS hL
  exact va_aldq hx hb hK.1 hP q0 3 he rfl hi hd (kk H locs ls hP hD hS hL)
theorem sw_iast (C : Cx X l g y cc nL r rm) {a N : Nat} {f : Nat → Int32} {i x : Int32} (q0 : Nat) (he : ws[q0]? = some (a, .inl (g.2.1, N, .inl f))) (hi : vp_in i N) (hd : decode cc pc = .ok (.iastore, 1)) (kk : SW X g nL k n (ws.set q0 (a, .inl (g.2.1, N, .inl (upd f i.toNatClampNeg x)))) (pc + 1) L st) : SW X g nL k n ws (pc) L (.int x :: .int i :: .ref a :: st) := by
  obtain ⟨p, l0, e, R, s, m, args, below, meth, c, A, Q⟩ := X
  obtain ⟨hx, hb, hml, hown, hts, hK, hA, hr, hlk, hnm, hrm, hl0⟩ := C
  intro H locs ls hP hD hS hL
  exact va_iast hx hb hK.1 hP hD hS q0 0 he rfl hi hd (fun H1 locs1 hP1 hD1 hS1 => kk H1 locs1 ls hP1 hD1 hS1 hL)
theorem sw_zast (C : Cx X l g y cc nL r rm) {a N : Nat} {f : Nat → Int32} {i x : Int32} (q0 : Nat) (he : ws[q0]? = some (a, .inl (g.2.2.2.1, N, .inl f))) (hi : vp_in i N) (hd : decode cc pc = .ok (.bastore, 1)) (kk : SW X g nL k n (ws.set q0 (a, .inl (g.2.2.2.1, N, .inl (upd f i.toNatClampNeg (vp_nar .boolean x))))) (pc + 1) L st) : SW X g nL k n ws (pc) L (.int x :: .int i :: .ref a :: st) := by
  obtain ⟨p, l0, e, R, s, m, args, below, meth, c, A, Q⟩ := X
  obtain ⟨hx, hb, hml, hown, hts, hK, hA, hr, hlk, hnm, hrm, hl0⟩ := C
  intro H locs ls hP hD hS hL
  exact va_zast hx hb hK.1 hP hD hS q0 2 he rfl hi hd (fun H1 locs1 hP1 hD1 hS1 => kk H1 locs1 ls hP1 hD1 hS1 hL)
theorem sw_last (C : Cx X l g y cc nL r rm) {a N : Nat} {f : Nat → Int64} {i : Int32} {x : Int64} (q0 : Nat) (he : ws[q0]? = some (a, .inl (g.2.2.1, N, .inr (.inl f)))) (hi : vp_in i N) (hd : decode cc pc = .ok (.lastore, 1)) (kk : SW X g nL k n (ws.set q0 (a, .inl (g.2.2.1, N, .inr (.inl (vp_updL f i.toNatClampNeg x))))) (pc + 1) L st) : SW X g nL k n ws (pc) L (.long x :: .int i :: .ref a :: st) := by
  obtain ⟨p, l0, e, R, s, m, args, below, meth, c, A, Q⟩ := X
  obtain ⟨hx, hb, hml, hown, hts, hK, hA, hr, hlk, hnm, hrm, hl0⟩ := C
  intro H locs ls hP hD hS hL
  exact va_last hx hb hK.1 hP hD hS q0 1 he rfl hi hd (fun H1 locs1 hP1 hD1 hS1 => kk H1 locs1 ls hP1 hD1 hS1 hL)
theorem sw_aast (C : Cx X l g y cc nL r rm) {a N v ci : Nat} {vs : List Value} {T : u_T} {n0 : Nat} {f : Nat → Option Nat} {i : Int32} (q0 q1 : Nat) (he : ws[q0]? = some (a, .inl (g.2.2.2.2, N, .inr (.inr (.inr (.inr f)))))) (hv : ws[q1]? = some (v, .inr (ci, vs))) (hc : vwCl[ci]? = some (nmShape, T, n0)) (hi : vp_in i N) (hd : decode cc pc = .ok (.aastore, 1)) (kk : SW X g nL k n (ws.set q0 (a, .inl (g.2.2.2.2, N, .inr (.inr (.inr (.inr (va_up f i.toNatClampNeg (some v)))))))) (pc + 1) L st) : SW X g nL k n ws (pc) L (.ref v :: .int i :: .ref a :: st) := by
  obtain ⟨p, l0, e, R, s, m, args, below, meth, c, A, Q⟩ := X
  obtain ⟨hx, hb, hml, hown, hts, hK, hA, hr, hlk, hnm, hrm, hl0⟩ := C
  intro H locs ls hP hD hS hL
  exact va_astq hx hb hK.1 hP hD hS q0 3 q1 ci he rfl hv hc hi hd (fun H1 locs1 hP1 hD1 hS1 => kk H1 locs1 ls hP1 hD1 hS1 hL)
theorem sw_alenI (C : Cx X l g y cc nL r rm) {a N : Nat} {f : Nat → Int32} (q0 : Nat) (he : ws[q0]? = some (a, .inl (g.2.1, N, .inl f))) (hd : decode cc pc = .ok (.arraylength, 1)) (kk : SW X g nL k n ws (pc + 1) L (.int (nI N) :: st)) : SW X g nL k n ws (pc) L (.ref a :: st) := by
  obtain ⟨p, l0, e, R, s, m, args, below, meth, c, A, Q⟩ := X
  obtain ⟨hx, hb, hml, hown, hts, hK, hA, hr, hlk, hnm, hrm, hl0⟩ := C
  intro H locs ls hP hD hS hL
  exact va_alen hx hb hK.1 hP q0 0 he rfl (v := nI N) rfl hd (kk H locs ls hP hD hS hL)
theorem sw_new (C : Cx X l g y cc nL r rm) {Cn : String} {T : u_T} {N ci index : Nat} (hin : ∀ w ∈ u_ws Cn T N, w ∈ TT) (ty : Nat → FieldType) (hty : ∀ k, k < N → parseFieldDescriptor (T k).2.2.1 = some (ty k)) (hcl : Cond.classLink y.cls index Cn ∈ TT) (hinst : Cond.instantiable Cn N ∈ TT) (hini : Cond.initialized Cn ∈ TT) (hc : vwCl[ci]? = some (Cn, T, N)) (fs : List Value) (hfs : ∀ j, j < N → defaultValue (ty j) = vp_V fs j) (hcells : k + 1 ≤ rm.cells) (hslots : n + N ≤ rm.slots) (hd : decode cc pc = .ok (.new index, 3)) (kk : ∀ q : Nat, SW X g nL (k + 1) (n + N) (ws ++ [(q, .inr (ci, fs))]) (pc + 3) L (.ref q :: st)) : SW X g nL k n ws (pc) L st := by
  obtain ⟨p, l0, e, R, s, m, args, below, meth, c, A, Q⟩ := X
  obtain ⟨hx, hb, hml, hown, hts, hK, hA, hr, hlk, hnm, hrm, hl0⟩ := C
  intro H locs ls hP hD hS hL
  subst hrm
  exact va_new hx hb hts hin ty hty hown (hts _ hcl) (hts _ hinst) (hts _ hini) hK.1 hP hD hS hA hc hfs hcells hslots hd (fun q H1 hP1 hD1 hS1 => kk q H1 locs ls hP1 hD1 hS1 hL)
theorem sw_newI (C : Cx X l g y cc nL r rm) {i : Int32} (N : Nat) (hw : Cond.arrayClass .int ∈ TT) (hn0 : ¬ i < 0) (hN : i.toNatClampNeg = N) (hby : N * componentBytes .int ≤ 536870912) (hcells : k + 1 ≤ rm.cells) (hslots : n + N ≤ rm.slots) (hd : decode cc pc = .ok (.newarray .int, 2)) (kk : ∀ q : Nat, SW X g nL (k + 1) (n + N) (ws ++ [(q, .inl (g.2.1, (N, .inl (fun _ => 0))))]) (pc + 2) L (.ref q :: st)) : SW X g nL k n ws (pc) L (.int i :: st) := by
  obtain ⟨p, l0, e, R, s, m, args, below, meth, c, A, Q⟩ := X
  obtain ⟨hx, hb, hml, hown, hts, hK, hA, hr, hlk, hnm, hrm, hl0⟩ := C
  intro H locs ls hP hD hS hL
  subst hrm
  refine va_newa (atype := .int) (ty := .int) (a0 := (N, .inl (fun _ => 0))) hx hb (hts _ hw) rfl hK.1 hP hD hS hA (fun cA => rfl) hn0 hN hby hcells hslots hd (fun q cA H1 hK1 hP1 hD1 hS1 => ?_)
  have e : cA = g.2.1 := by
    have h1 := (hK1.2 4 (cA, .int) rfl).2
    have h2 := (hK.1.2 0 (g.2.1, .int) rfl).2
    exact Option.some.inj (Eq.trans (Eq.symm h1) h2)
  subst e
  exact kk q H1 locs ls hP1 hD1 hS1 hL
theorem sw_newZ (C : Cx X l g y cc nL r rm) {i : Int32} (N : Nat) (hw : Cond.arrayClass .boolean ∈ TT) (hn0 : ¬ i < 0) (hN : i.toNatClampNeg = N) (hby : N * componentBytes .boolean ≤ 536870912) (hcells : k + 1 ≤ rm.cells) (hslots : n + N ≤ rm.slots) (hd : decode cc pc = .ok (.newarray .boolean, 2)) (kk : ∀ q : Nat, SW X g nL (k + 1) (n + N) (ws ++ [(q, .inl (g.2.2.2.1, (N, .inl (fun _ => 0))))]) (pc + 2) L (.ref q :: st)) : SW X g nL k n ws (pc) L (.int i :: st) := by
  obtain ⟨p, l0, e, R, s, m, args, below, meth, c, A, Q⟩ := X
  obtain ⟨hx, hb, hml, hown, hts, hK, hA, hr, hlk, hnm, hrm, hl0⟩ := C
  intro H locs ls hP hD hS hL
  subst hrm
  refine va_newa (atype := .boolean) (ty := .boolean) (a0 := (N, .inl (fun _ => 0))) hx hb (hts _ hw) rfl hK.1 hP hD hS hA (fun cA => rfl) hn0 hN hby hcells hslots hd (fun q cA H1 hK1 hP1 hD1 hS1 => ?_)
  have e : cA = g.2.2.2.1 := by
    have h1 := (hK1.2 4 (cA, .boolean) rfl).2
    have h2 := (hK.1.2 2 (g.2.2.2.1, .boolean) rfl).2
    exact Option.some.inj (Eq.trans (Eq.symm h1) h2)
  subst e
  exact kk q H1 locs ls hP1 hD1 hS1 hL
theorem sw_newJ (C : Cx X l g y cc nL r rm) {i : Int32} (N : Nat) (hw : Cond.arrayClass .long ∈ TT) (hn0 : ¬ i < 0) (hN : i.toNatClampNeg = N) (hby : N * componentBytes .long ≤ 536870912) (hcells : k + 1 ≤ rm.cells) (hslots : n + N ≤ rm.slots) (hd : decode cc pc = .ok (.newarray .long, 2)) (kk : ∀ q : Nat, SW X g nL (k + 1) (n + N) (ws ++ [(q, .inl (g.2.2.1, (N, .inr (.inl (fun _ => 0)))))]) (pc + 2) L (.ref q :: st)) : SW X g nL k n ws (pc) L (.int i :: st) := by
  obtain ⟨p, l0, e, R, s, m, args, below, meth, c, A, Q⟩ := X
  obtain ⟨hx, hb, hml, hown, hts, hK, hA, hr, hlk, hnm, hrm, hl0⟩ := C
  intro H locs ls hP hD hS hL
  subst hrm
  refine va_newa (atype := .long) (ty := .long) (a0 := (N, .inr (.inl (fun _ => 0)))) hx hb (hts _ hw) rfl hK.1 hP hD hS hA (fun cA => rfl) hn0 hN hby hcells hslots hd (fun q cA H1 hK1 hP1 hD1 hS1 => ?_)
  have e : cA = g.2.2.1 := by
    have h1 := (hK1.2 4 (cA, .long) rfl).2
    have h2 := (hK.1.2 1 (g.2.2.1, .long) rfl).2
    exact Option.some.inj (Eq.trans (Eq.symm h1) h2)
  subst e
  exact kk q H1 locs ls hP1 hD1 hS1 hL
theorem sw_newS (C : Cx X l g y cc nL r rm) {i : Int32} {index : Nat} (N : Nat) (hcl : Cond.classLink y.cls index nmShape ∈ TT) (hw : Cond.arrayOver (.object nmShape) ∈ lw_tbl) (hn0 : ¬ i < 0) (hN : i.toNatClampNeg = N) (hby : N * 4 ≤ 536870912) (hcells : k + 1 ≤ rm.cells) (hslots : n + N ≤ rm.slots) (hd : decode cc pc = .ok (.anewarray index, 3)) (kk : ∀ q : Nat, SW X g nL (k + 1) (n + N) (ws ++ [(q, .inl (g.2.2.2.2, N, .inr (.inr (.inr (.inr (fun _ => none))))))]) (pc + 3) L (.ref q :: st)) : SW X g nL k n ws (pc) L (.int i :: st) := by
  obtain ⟨p, l0, e, R, s, m, args, below, meth, c, A, Q⟩ := X
  obtain ⟨hx, hb, hml, hown, hts, hK, hA, hr, hlk, hnm, hrm, hl0⟩ := C
  intro H locs ls hP hD hS hL
  subst hrm
  refine va_newq hx hb hown (hts _ hcl) (hK.2 _ hw rfl) hK.1 hP hD hS hA hn0 hN hby hcells hslots hd (fun q cA H1 hK1 hP1 hD1 hS1 => ?_)
  have e : cA = g.2.2.2.2 := by
    obtain ⟨_, _, _, _, _, h1⟩ := (hK1.2 4 (cA, .object nmShape) rfl).2
    obtain ⟨_, _, _, _, _, h2⟩ := (hK.1.2 3 (g.2.2.2.2, .object nmShape) rfl).2
    exact Option.some.inj (Eq.trans (Eq.symm h1) h2)
  subst e
  exact kk q H1 locs ls hP1 hD1 hS1 hL
theorem sw_objInit (C : Cx X l g y cc nL r rm) {a idx : Nat} (hlink : Cond.methodLink y.cls idx objectInit ∈ TT) (hin : Cond.instanceMethod objectInit ∈ TT) (hcode : Cond.code objectInit ⟨#[0xb1]⟩ 1 none ∈ TT) (hf : 1 ≤ rm.frames) (hlo : (st.map fun v => v.category).sum + 12 ≤ rm.locals) (hd : decode cc pc = .ok (.invokespecial idx, 3)) (kk : SW X g nL k n ws (pc + 3) L st) : SW X g nL k n ws (pc) L (.ref a :: st) := by
  obtain ⟨p, l0, e, R, s, m, args, below, meth, c, A, Q⟩ := X
  obtain ⟨hx, hb, hml, hown, hts, hK, hA, hr, hlk, hnm, hrm, hl0⟩ := C
  intro H locs ls hP hD hS hL
  subst hrm
  exact W.objInit hx hb hown (hts _ hlink) (hts _ hin) (hts _ hcode) rfl (by rw [hml]; exact hL.1) rfl hd hf (by show 2 * 0 + _ + 12 ≤ _; omega) (kk H locs ls hP hD hS hL)
theorem sw_mmax (C : Cx X l g y cc nL r rm) {x z : Int32} {index : Nat} (hlink : Cond.methodLink y.cls index Lib.Math.max.name ∈ TT) (hstat : Cond.static Lib.Math.max.name ∈ TT) (hini : Cond.initialized "java/lang/Math" ∈ TT) (hcode : Cond.code Lib.Math.max.name Lib.Math.max.code 2 (some .int) ∈ TT) (hf : 1 ≤ rm.frames) (hlo : (st.map fun v => v.category).sum + 13 ≤ rm.locals) (hc : k ≤ rm.cells) (hs : n ≤ rm.slots) (hd : decode cc pc = .ok (.invokestatic index, 3)) (kk : SW X g nL k n ws (pc + 3) L (.int (if x < z then z else x) :: st)) : SW X g nL k n ws (pc) L (.int z :: .int x :: st) := by
  obtain ⟨p, l0, e, R, s, m, args, below, meth, c, A, Q⟩ := X
  obtain ⟨hx, hb, hml, hown, hts, hK, hA, hr, hlk, hnm, hrm, hl0⟩ := C
  intro H locs ls hP hD hS hL
  subst hrm
  exact va_mmax hx hb (by rw [hml]; exact hL.1.symm) hown (hts _ hlink) (hts _ hstat) (hts _ hini) (hts _ hcode) hf hlo hc hs hd (kk H locs ls hP hD hS hL)
theorem sw_mmin (C : Cx X l g y cc nL r rm) {x z : Int32} {index : Nat} (hlink : Cond.methodLink y.cls index Lib.Math.min.name ∈ TT) (hstat : Cond.static Lib.Math.min.name ∈ TT) (hini : Cond.initialized "java/lang/Math" ∈ TT) (hcode : Cond.code Lib.Math.min.name Lib.Math.min.code 2 (some .int) ∈ TT) (hf : 1 ≤ rm.frames) (hlo : (st.map fun v => v.category).sum + 13 ≤ rm.locals) (hc : k ≤ rm.cells) (hs : n ≤ rm.slots) (hd : decode cc pc = .ok (.invokestatic index, 3)) (kk : SW X g nL k n ws (pc + 3) L (.int (if z < x then z else x) :: st)) : SW X g nL k n ws (pc) L (.int z :: .int x :: st) := by
  obtain ⟨p, l0, e, R, s, m, args, below, meth, c, A, Q⟩ := X
  obtain ⟨hx, hb, hml, hown, hts, hK, hA, hr, hlk, hnm, hrm, hl0⟩ := C
  intro H locs ls hP hD hS hL
  subst hrm
  exact va_mmin hx hb (by rw [hml]; exact hL.1.symm) hown (hts _ hlink) (hts _ hstat) (hts _ hini) (hts _ hcode) hf hlo hc hs hd (kk H locs ls hP hD hS hL)
theorem sw_mabs (C : Cx X l g y cc nL r rm) {x : Int32} {index : Nat} (hlink : Cond.methodLink y.cls index Lib.Math.abs.name ∈ TT) (hstat : Cond.static Lib.Math.abs.name ∈ TT) (hini : Cond.initialized "java/lang/Math" ∈ TT) (hcode : Cond.code Lib.Math.abs.name Lib.Math.abs.code 1 (some .int) ∈ TT) (hf : 1 ≤ rm.frames) (hlo : (st.map fun v => v.category).sum + 13 ≤ rm.locals) (hc : k ≤ rm.cells) (hs : n ≤ rm.slots) (hd : decode cc pc = .ok (.invokestatic index, 3)) (kk : SW X g nL k n ws (pc + 3) L (.int (if 0 ≤ x then x else 0 - x) :: st)) : SW X g nL k n ws (pc) L (.int x :: st) := by
  obtain ⟨p, l0, e, R, s, m, args, below, meth, c, A, Q⟩ := X
  obtain ⟨hx, hb, hml, hown, hts, hK, hA, hr, hlk, hnm, hrm, hl0⟩ := C
  intro H locs ls hP hD hS hL
  subst hrm
  exact va_mabs hx hb (by rw [hml]; exact hL.1.symm) hown (hts _ hlink) (hts _ hstat) (hts _ hini) (hts _ hcode) hf hlo hc hs hd (kk H locs ls hP hD hS hL)
theorem sw_copyI (C : Cx X l g y cc nL r rm) {index a0 a1 n0 n1 : Nat} {f h : Nat → Int32} {sp dp len : Int32} (q0 q1 : Nat) (hlink : Cond.methodLink y.cls index arraycopyName ∈ TT) (hnat : Cond.native arraycopyName ∈ TT) (hstat : Cond.static arraycopyName ∈ TT) (hini : Cond.initialized "java/lang/System" ∈ TT) (he0 : ws[q0]? = some (a0, .inl (g.2.1, n0, .inl f))) (he1 : ws[q1]? = some (a1, .inl (g.2.1, n1, .inl h))) (h1 : ¬ sp < 0) (h2 : ¬ dp < 0) (h3 : ¬ len < 0) (h4 : sp.toNatClampNeg + len.toNatClampNeg ≤ n0) (h5 : dp.toNatClampNeg + len.toNatClampNeg ≤ n1) (hf : 1 ≤ rm.frames) (hlo : (st.map fun v => v.category).sum + (nativeFrameWords "java/lang/System" "arraycopy" 5 + 11) ≤ rm.locals) (hd : decode cc pc = .ok (.invokestatic index, 3)) (kk : SW X g nL k n (ws.set q1 (a1, .inl (g.2.1, n1, .inl (va_cpy f h sp.toNatClampNeg dp.toNatClampNeg len.toNatClampNeg)))) (pc + 3) L st) : SW X g nL k n ws (pc) L (.int len :: .int dp :: .ref a1 :: .int sp :: .ref a0 :: st) := by
  obtain ⟨p, l0, e, R, s, m, args, below, meth, c, A, Q⟩ := X
  obtain ⟨hx, hb, hml, hown, hts, hK, hA, hr, hlk, hnm, hrm, hl0⟩ := C
  intro H locs ls hP hD hS hL
  subst hrm
  exact va_copyi (ty := .int) hx hb (by rw [hml]; exact hL.1.symm) hown (hts _ hlink) (hts _ hnat) (hts _ hstat) (hts _ hini) hK.1 hP hD hS q0 q1 0 0 he0 he1 rfl rfl rfl h1 h2 h3 h4 h5 (fun i _ => rfl) hf hlo hd (fun H1 locs1 hP1 hD1 hS1 => kk H1 locs1 ls hP1 hD1 hS1 hL)
theorem sw_iret {post : Option Value → va_W → Prop} (C : Cx X l g y cc nL r rm) (E : Ce X g post rm) {v : Int32} (hrt : r = some .int) (hk : k ≤ rm.cells) (hn : n ≤ rm.slots) (hd : decode cc pc = .ok (.ireturn, 1)) (h : post (some (.int v)) ws) : SW X g nL k n ws pc L [.int v] := by
  obtain ⟨p, l0, e, R, s, m, args, below, meth, c, A, Q⟩ := X
  obtain ⟨hx, hb, hml, hown, hts, hK, hA, hr, hlk, hnm, hrm, hl0⟩ := C
  intro H locs ls hP hD hS hL
  have E : Q = MQ below (Qg g post A) args s rm.cells rm.slots A := E
  subst E
  refine W.widen hk hn ?_
  exact W.iret hx hb (hr.trans hrt) (fun t ht hW => ⟨⟨_, ws, rfl, h, by rw [ht]; exact hP, hD⟩, hS.F ht⟩) hS.2.2 hd hlk
theorem sw_zret {post : Option Value → va_W → Prop} (C : Cx X l g y cc nL r rm) (E : Ce X g post rm) {v : Int32} (hrt : r = some .boolean) (hz : narrow .boolean (.int v) = .int v) (hk : k ≤ rm.cells) (hn : n ≤ rm.slots) (hd : decode cc pc = .ok (.ireturn, 1)) (h : post (some (.int v)) ws) : SW X g nL k n ws pc L [.int v] := by
  obtain ⟨p, l0, e, R, s, m, args, below, meth, c, A, Q⟩ := X
  obtain ⟨hx, hb, hml, hown, hts, hK, hA, hr, hlk, hnm, hrm, hl0⟩ := C
  intro H locs ls hP hD hS hL
  have E : Q = MQ below (Qg g post A) args s rm.cells rm.slots A := E
  subst E
  refine W.widen hk hn ?_
  exact W.zret hx hb (hr.trans hrt) hz (fun t ht hW => ⟨⟨_, ws, rfl, h, by rw [ht]; exact hP, hD⟩, hS.F ht⟩) hS.2.2 hd hlk
theorem sw_lret {post : Option Value → va_W → Prop} (C : Cx X l g y cc nL r rm) (E : Ce X g post rm) {v : Int64} (hrt : r = some .long) (hk : k ≤ rm.cells) (hn : n ≤ rm.slots) (hd : decode cc pc = .ok (.lreturn, 1)) (h : post (some (.long v)) ws) : SW X g nL k n ws pc L [.long v] := by
  obtain ⟨p, l0, e, R, s, m, args, below, meth, c, A, Q⟩ := X
  obtain ⟨hx, hb, hml, hown, hts, hK, hA, hr, hlk, hnm, hrm, hl0⟩ := C
  intro H locs ls hP hD hS hL
  have E : Q = MQ below (Qg g post A) args s rm.cells rm.slots A := E
  subst E
  refine W.widen hk hn ?_
  exact W.lret hx hb (hr.trans hrt) (fun t ht hW => ⟨⟨_, ws, rfl, h, by rw [ht]; exact hP, hD⟩, hS.F ht⟩) hS.2.2 hd hlk
theorem sw_vret {post : Option Value → va_W → Prop} (C : Cx X l g y cc nL r rm) (E : Ce X g post rm) (hrt : r = none) (hk : k ≤ rm.cells) (hn : n ≤ rm.slots) (hd : decode cc pc = .ok (.return_, 1)) (h : post (none) ws) : SW X g nL k n ws pc L [] := by
  obtain ⟨p, l0, e, R, s, m, args, below, meth, c, A, Q⟩ := X
  obtain ⟨hx, hb, hml, hown, hts, hK, hA, hr, hlk, hnm, hrm, hl0⟩ := C
  intro H locs ls hP hD hS hL
  have E : Q = MQ below (Qg g post A) args s rm.cells rm.slots A := E
  subst E
  refine W.widen hk hn ?_
  exact W.vret hx hb (hr.trans hrt) (fun t ht hW => ⟨⟨_, ws, rfl, h, by rw [ht]; exact hP, hD⟩, hS.F ht⟩) hS.2.2 hd hlk
theorem sw_aret {post : Option Value → va_W → Prop} (C : Cx X l g y cc nL r rm) (E : Ce X g post rm) {v : Value} {cn : String} (hrt : r = some (.object cn)) (hv : v = .null ∨ ∃ a, v = .ref a) (hk : k ≤ rm.cells) (hn : n ≤ rm.slots) (hd : decode cc pc = .ok (.areturn, 1)) (h : post (some v) ws) : SW X g nL k n ws pc L [v] := by
  obtain ⟨p, l0, e, R, s, m, args, below, meth, c, A, Q⟩ := X
  obtain ⟨hx, hb, hml, hown, hts, hK, hA, hr, hlk, hnm, hrm, hl0⟩ := C
  intro H locs ls hP hD hS hL
  have E : Q = MQ below (Qg g post A) args s rm.cells rm.slots A := E
  subst E
  refine W.widen hk hn ?_
  exact W.aret hx hb (hr.trans hrt) (Or.inl ⟨_, rfl⟩) hv (fun t ht hW => ⟨⟨_, ws, rfl, h, by rw [ht]; exact hP, hD⟩, hS.F ht⟩) hS.2.2 hd hlk
end SWL
/-- the cells at the places is become w1 -/
def putb : va_W → List Nat → va_W → va_W
  | ws, i :: is, c :: w1 => putb (ws.set i c) is w1
  | ws, _, _ => ws
theorem putb_ne : ∀ (is : List Nat) (w1 ws : va_W) (k : Nat), k ∉ is → (putb ws is w1)[k]? = ws[k]?
  | [], _, ws, k, _ => by simp [putb]
  | i :: is, [], ws, k, _ => by simp [putb]
  | i :: is, c :: w1, ws, k, h => by
    have h1 : k ≠ i := fun e => h (e ▸ List.mem_cons_self)
    have h2 : k ∉ is := fun e => h (List.mem_cons_of_mem _ e)
    show (putb (ws.set i c) is w1)[k]? = ws[k]?
    rw [putb_ne is w1 _ k h2, List.getElem?_set_ne (Ne.symm h1)]
theorem putb_at : ∀ (is : List Nat) (w1 ws : va_W), va_nd is = true → is.length = w1.length → (∀ i ∈ is, i < ws.length) → ∀ (t k : Nat), is[t]? = some k → (putb ws is w1)[k]? = w1[t]?
  | [], w1, ws, _, _, _, t, k, h => by simp at h
  | i :: is, [], ws, _, hl, _, t, k, h => by simp at hl
  | i :: is, c :: w1, ws, hn, hl, hb, 0, k, h => by
    simp only [va_nd, Bool.and_eq_true, decide_eq_true_eq] at hn
    have e : i = k := by simpa using h
    subst e
    show (putb (ws.set i c) is w1)[i]? = _
    rw [putb_ne is w1 _ i hn.1, List.getElem?_set_self (hb i List.mem_cons_self)]
    rfl
  | i :: is, c :: w1, ws, hn, hl, hb, t + 1, k, h => by
    simp only [va_nd, Bool.and_eq_true, decide_eq_true_eq] at hn
    show (putb (ws.set i c) is w1)[k]? = _
    rw [putb_at is w1 (ws.set i c) hn.2 (by simpa using hl) (fun j hj => by rw [List.length_set]; exact hb j (List.mem_cons_of_mem _ hj)) t k (by simpa using h)]
    simp
theorem at_is {ws wc : va_W} {is : List Nat} (hC : is.map (fun i => ws[i]?) = wc.map some) {t k : Nat} (h : is[t]? = some k) : ∃ q, wc[t]? = some q ∧ ws[k]? = some q := by
  have h1 : (is.map (fun i => ws[i]?))[t]? = (wc.map some)[t]? := by rw [hC]
  rw [List.getElem?_map, List.getElem?_map, h] at h1
  cases hq : wc[t]? with
  | none => rw [hq] at h1; simp at h1
  | some q => rw [hq] at h1; exact ⟨q, rfl, by simpa using h1⟩
theorem is_at {ws wc : va_W} {is : List Nat} (hC : is.map (fun i => ws[i]?) = wc.map some) {t : Nat} {q : Nat × va_E} (h : wc[t]? = some q) : ∃ k, is[t]? = some k ∧ ws[k]? = some q := by
  have h1 : (is.map (fun i => ws[i]?))[t]? = (wc.map some)[t]? := by rw [hC]
  rw [List.getElem?_map, List.getElem?_map, h] at h1
  cases hq : is[t]? with
  | none => rw [hq] at h1; simp at h1
  | some k => rw [hq] at h1; exact ⟨k, rfl, by simpa using h1⟩
theorem not_A {D : va_G} {cl : List vw_C} {A : Nat → Prop} {ws wc : va_W} {H : Heap} {is : List Nat} (hP : va_P D cl ws H) (hD : va_D A ws) (hC : is.map (fun i => ws[i]?) = wc.map some) {k : Nat} {q : Nat × va_E} (hk : ws[k]? = some q) (hn : k ∉ is) : ¬ va_A wc H.size q.1 := by
  rintro (⟨t, e, h⟩ | h)
  · obtain ⟨i, h1, h2⟩ := is_at hC h
    have := hD.1 k i q (q.1, e) hk h2 rfl
    subst this
    exact hn (List.mem_of_getElem? h1)
  · have := (hP k q hk).lt
    omega
theorem put_world {D : va_G} {cl : List vw_C} {A : Nat → Prop} {ws wc w1 : va_W} {H H1 : Heap} {is : List Nat} (hP : va_P D cl ws H) (hD : va_D A ws) (hC : is.map (fun i => ws[i]?) = wc.map some) (hnd : va_nd is = true) (hadr : w1.map Prod.fst = wc.map Prod.fst) (hk : ∀ q : Nat, q < H.size → ¬ va_A wc H.size q → H1[q]? = H[q]?) (hP1 : va_P D cl w1 H1) : va_P D cl (putb ws is w1) H1 ∧ va_D A (putb ws is w1) := by
  have hlen : is.length = w1.length := by
    have e1 := congrArg List.length hC
    have e2 := congrArg List.length hadr
    simp only [List.length_map] at e1 e2
    omega
  have hb : ∀ i ∈ is, i < ws.length := by
    intro i hi
    obtain ⟨t, ht⟩ := List.getElem?_of_mem hi
    obtain ⟨q, -, h2⟩ := at_is hC ht
    exact (List.getElem?_eq_some_iff.mp h2).1
  have key : ∀ (k : Nat) (q : Nat × va_E), (putb ws is w1)[k]? = some q → ∃ q0, ws[k]? = some q0 ∧ q0.1 = q.1 := by
    intro k q hq
    by_cases hm : k ∈ is
    · obtain ⟨t, ht⟩ := List.getElem?_of_mem hm
      rw [putb_at is w1 ws hnd hlen hb t k ht] at hq
      obtain ⟨q0, h1, h2⟩ := at_is hC ht
      refine ⟨q0, h2, ?_⟩
      have e : (w1.map Prod.fst)[t]? = (wc.map Prod.fst)[t]? := by rw [hadr]
      rw [List.getElem?_map, List.getElem?_map, hq, h1] at e
      exact (Option.some.inj e).symm
    · rw [putb_ne is w1 ws k hm] at hq
      exact ⟨q, hq, rfl⟩
  refine ⟨fun k q hq => ?_, fun i j x y hi hj hxy => ?_, fun k q hq => ?_⟩
  · by_cases hm : k ∈ is
    · obtain ⟨t, ht⟩ := List.getElem?_of_mem hm
      rw [putb_at is w1 ws hnd hlen hb t k ht] at hq
      exact hP1 t q hq
    · rw [putb_ne is w1 ws k hm] at hq
      exact (hP k q hq).kept (hk q.1 (hP k q hq).lt (not_A hP hD hC hq hm))
  · obtain ⟨x0, h1, h2⟩ := key i x hi
    obtain ⟨y0, h3, h4⟩ := key j y hj
    exact hD.1 i j x0 y0 h1 h3 (h2.trans (hxy.trans h4.symm))
  · obtain ⟨q0, h1, h2⟩ := key k q hq
    rw [← h2]
    exact hD.2 k q0 h1
theorem ro_world {D : va_G} {cl : List vw_C} {A : Nat → Prop} {ws wc : va_W} {H H1 : Heap} {is : List Nat} (hP : va_P D cl ws H) (hD : va_D A ws) (hC : is.map (fun i => ws[i]?) = wc.map some) (hk : ∀ q : Nat, q < H.size → ¬ va_A wc H.size q → H1[q]? = H[q]?) (hP1 : va_P D cl wc H1) : va_P D cl ws H1 := by
  intro k q hq
  by_cases hm : k ∈ is
  · obtain ⟨t, ht⟩ := List.getElem?_of_mem hm
    obtain ⟨q0, h1, h2⟩ := at_is hC ht
    rw [hq] at h2
    cases h2
    exact hP1 t q h1
  · exact (hP k q hq).kept (hk q.1 (hP k q hq).lt (not_A hP hD hC hq hm))
section SWC
variable {p : Program} {l : Launch} {e : Env} {R : Room} {s : State} {m : MethodId} {args : Array Value} {below : List Frame} {meth : Method} {c : Code} {H : Heap} {locs : List Loc} {k n : Nat} {Q : State → Prop} {A : Nat → Prop} {g : Gl} {pc : Nat} {ls : Array Slot} {st st0 : List Value} {ws wc wr : va_W} {post : Option Value → va_W → Prop} {a : Array Value} {mc ms : Nat}
theorem run_go (hr : va_Run p l e R s m args below meth c H locs k n mc ms (F0 m pc ls st0) st (Qg g post (va_A wc H.size) a) (va_A wc H.size)) (hD : va_D A ws) (hS : va_S A s.heap H locs) (hA : ∀ q, s.heap.size ≤ q → A q) (is : List Nat) (hC : is.map (fun i => ws[i]?) = wc.map some)
    (kk : ∀ (v : Option Value) (w1 : va_W), post v w1 → ∀ (H1 : Heap) (locs1 : List Loc), va_P g.1 vwCl w1 H1 → va_D (va_A wc H.size) w1 → (∀ q : Nat, q < H.size → ¬ va_A wc H.size q → H1[q]? = H[q]?) → (∀ q, va_A wc H.size q → A q) → va_S A s.heap H1 locs1 → W p l e R s m args below meth c H1 locs1 (k + mc) (n + ms) Q (F0 m (pc + 3) ls (v.toList ++ st))) : W p l e R s m args below meth c H locs k n Q (F0 m pc ls st0) := by
  intro T hT X
  obtain ⟨v, st₀, t, T', L, h0, X', hL, e1, e2, ⟨⟨v', w1, hv, hp, hPw, hDw⟩, hz, hk⟩, hst⟩ := hr T hT X
  cases hv
  rw [h0] at hz hk
  have hFc := va_free (wc := wc) hD hS hA is hC
  have hP1 : va_P g.1 vwCl w1 T'.heap := by rw [e1]; exact hPw
  obtain ⟨t2, a1, b1⟩ := kk v w1 hp T'.heap (locs ++ L) hP1 hDw (fun q h1 h2 => by rw [e1]; exact hk q h1 h2) hFc
    ⟨Nat.le_trans hS.1 (by rw [e1]; exact hz), fun q h1 h2 => by rw [e1, hk q (Nat.lt_of_lt_of_le h1 hS.1) (fun z => h2 (hFc q z))]; exact hS.2.1 q h1 h2, fun q hq => by
      rcases List.mem_append.mp hq with h | h
      · exact hS.2.2 q h
      · exact hFc _ (hL q h)⟩ T' rfl X'
  exact ⟨t2, hst t2 a1, b1⟩
theorem pg_blind {av : List Value} {sz : Nat} {w : va_W} : FrameBlind (va_Pc av (Pg g sz w)) := fun a U f mk q => ⟨q.1, q.2.1, q.2.2.1, KK.calling q.2.2.2.1, q.2.2.2.2⟩
theorem pg_pre {av : List Value} {w : va_W} {U : State} (hU : U.heap = H) (hW : s.WarmedH U.vm) (hK : KK g s) (hP : va_P g.1 vwCl w H) (hD : va_D A w) : va_Pc av (Pg g H.size w) av.toArray U := ⟨rfl, by rw [hU], by rw [hU]; exact hP, KK.warm hW hK, hD.weaken (fun _ _ _ _ => trivial)⟩
end SWC
/-- what the tables say of a method that is called -/
def Sv (y : MethodName) (b : ByteArray) (n : Nat) (r : Option FieldType) (np : Nat) : Prop := Cond.code y b n r ∈ TT ∧ Cond.instanceMethod y ∈ TT ∧ Cond.selects y.cls y y ∈ TT ∧ Cond.initialized y.cls ∈ TT ∧ y.cls ≠ "java/lang/invoke/MethodHandle" ∧ y.cls ≠ "java/lang/invoke/VarHandle" ∧ (parseMethodDescriptor y.desc).map (fun d => d.parameters.length) = some np
def Si (y : MethodName) (b : ByteArray) (n : Nat) (np : Nat) : Prop := Cond.code y b n none ∈ TT ∧ Cond.instanceMethod y ∈ TT ∧ Cond.initialized y.cls ∈ TT ∧ y.cls ≠ "java/lang/invoke/MethodHandle" ∧ y.cls ≠ "java/lang/invoke/VarHandle" ∧ (parseMethodDescriptor y.desc).map (fun d => d.parameters.length) = some np ∧ y.name = "<init>"
def Ss (y : MethodName) (b : ByteArray) (n : Nat) (r : Option FieldType) (np : Nat) : Prop := Cond.code y b n r ∈ TT ∧ Cond.static y ∈ TT ∧ Cond.initialized y.cls ∈ TT ∧ y.cls ≠ "java/lang/invoke/MethodHandle" ∧ y.cls ≠ "java/lang/invoke/VarHandle" ∧ (parseMethodDescriptor y.desc).map (fun d => d.parameters.length) = some np
theorem TT_good {y : MethodName} {b : ByteArray} {n : Nat} {r : Option FieldType} (h : Cond.code y b n r ∈ TT) : GoodIn TT (wS y b n r) := by
  intro w hw
  rcases List.mem_cons.mp hw with rfl | hw
  · exact ⟨h, good_of_word (TT_gw h)⟩
  · exact ⟨hw, good_of_word (TT_gw hw)⟩
section SWC2
variable {X : Cz} {l : Launch} {g : Gl} {y : MethodName} {cc : ByteArray} {nL k n pc : Nat} {r : Option FieldType} {rm : Room} {ws : va_W} {L : List (Option Value)} {st : List Value}
variable {y' : MethodName} {b' : ByteArray} {n' np : Nat} {r' : Option FieldType} {rm' : Room} {wc wr : va_W} {post : Option Value → va_W → Prop} {As : List Value} {a idx : Nat}
theorem sw_callVP (C : Cx X l g y cc nL r rm)  (hM : Ct l g y' b' n' r' rm' (.ref a :: As) wc post) (S : Sv y' b' n' r' np) (hl : Cond.methodLink y.cls idx y' ∈ TT) {ci : Nat} {Cq : vw_C} {fs : List Value} (hrecv : wc[0]? = some (a, .inr (ci, fs))) (hcl : vwCl[ci]? = some Cq) (hcn : Cq.1 = y'.cls) (is : List Nat) (hC : is.map (fun i => ws[i]?) = wc.map some) (hnd : va_nd is = true) (hnp : As.length = np) {st0 : List Value} (hst : st0 = As.reverse ++ .ref a :: st) (hW : (st.map fun v => v.category).sum ≤ 8) (hf : rm'.frames + 1 ≤ rm.frames) (hlo : 8 + (n' + 11) + rm'.locals ≤ rm.locals) (hc : k + rm'.cells ≤ rm.cells) (hs : n + rm'.slots ≤ rm.slots) (hd : decode cc pc = .ok (.invokevirtual idx, 3)) (kk : ∀ (v : Option Value) (w1 : va_W), post v w1 → w1.map Prod.fst = wc.map Prod.fst ∧ SW X g nL (k + rm'.cells) (n + rm'.slots) (putb ws is w1) (pc + 3) L (v.toList ++ st)) : SW X g nL k n ws pc L st0 := by
  obtain ⟨p, l0, e, R, s, m, args, below, meth, c, A, Q⟩ := X
  obtain ⟨hx, hb, hml, hown, hts, hK, hA, hr, hlk, hnm, hrm, hl0⟩ := C
  intro H locs ls hP hD hS hL
  subst hrm
  subst hl0
  subst hst
  have hPc := hP.sub (ws' := wc) is (pick_of (ws' := wc) is wc hC)
  have hDc := hD.sub (ws' := wc) is hnd hC
  exact run_go (post := post) (wc := wc) (va_runV (As := As) (rest := st) ⟨hx, hb, hml, hown, hts⟩ (hM H.size) (⟨callB_of np hts (TT_good S.1) rfl rfl rfl (hts _ S.2.2.2.1) (hts _ hl) ⟨S.2.2.2.2.1, S.2.2.2.2.2.1, S.2.2.2.2.2.2⟩ ⟨hf, hlo⟩, hts _ S.2.1, hts _ S.2.2.1⟩) ⟨pg_blind, (by have h0 := va_recv hK.1 hPc hcl hrecv; rw [hcn] at h0; exact h0), fun U hU hW1 => pg_pre hU hW1 hK hPc hDc⟩ rfl hnp hL.1 rfl (lv_room hW) hd ⟨hc, hs⟩) hD hS hA is hC (fun v w1 hp H1 locs1 hP1 hD1 hk1 hF1 hS1 => by
    obtain ⟨hadr, kk⟩ := kk v w1 hp
    obtain ⟨hPj, hDj⟩ := put_world hP hD hC hnd hadr hk1 hP1
    exact kk H1 locs1 ls hPj hDj hS1 hL)
theorem sw_callVR (C : Cx X l g y cc nL r rm)  (hM : Ct l g y' b' n' r' rm' (.ref a :: As) wc post) (S : Sv y' b' n' r' np) (hl : Cond.methodLink y.cls idx y' ∈ TT) {ci : Nat} {Cq : vw_C} {fs : List Value} (hrecv : wc[0]? = some (a, .inr (ci, fs))) (hcl : vwCl[ci]? = some Cq) (hcn : Cq.1 = y'.cls) (is : List Nat) (hC : is.map (fun i => ws[i]?) = wc.map some) (hnd : va_nd is = true) (hnp : As.length = np) {st0 : List Value} (hst : st0 = As.reverse ++ .ref a :: st) (hW : (st.map fun v => v.category).sum ≤ 8) (hf : rm'.frames + 1 ≤ rm.frames) (hlo : 8 + (n' + 11) + rm'.locals ≤ rm.locals) (hc : k + rm'.cells ≤ rm.cells) (hs : n + rm'.slots ≤ rm.slots) (hd : decode cc pc = .ok (.invokevirtual idx, 3)) (kk : ∀ (v : Option Value) (w1 : va_W), post v w1 → w1 = wc ∧ SW X g nL (k + rm'.cells) (n + rm'.slots) ws (pc + 3) L (v.toList ++ st)) : SW X g nL k n ws pc L st0 := by
  obtain ⟨p, l0, e, R, s, m, args, below, meth, c, A, Q⟩ := X
  obtain ⟨hx, hb, hml, hown, hts, hK, hA, hr, hlk, hnm, hrm, hl0⟩ := C
  intro H locs ls hP hD hS hL
  subst hrm
  subst hl0
  subst hst
  have hPc := hP.sub (ws' := wc) is (pick_of (ws' := wc) is wc hC)
  have hDc := hD.sub (ws' := wc) is hnd hC
  exact run_go (post := post) (wc := wc) (va_runV (As := As) (rest := st) ⟨hx, hb, hml, hown, hts⟩ (hM H.size) (⟨callB_of np hts (TT_good S.1) rfl rfl rfl (hts _ S.2.2.2.1) (hts _ hl) ⟨S.2.2.2.2.1, S.2.2.2.2.2.1, S.2.2.2.2.2.2⟩ ⟨hf, hlo⟩, hts _ S.2.1, hts _ S.2.2.1⟩) ⟨pg_blind, (by have h0 := va_recv hK.1 hPc hcl hrecv; rw [hcn] at h0; exact h0), fun U hU hW1 => pg_pre hU hW1 hK hPc hDc⟩ rfl hnp hL.1 rfl (lv_room hW) hd ⟨hc, hs⟩) hD hS hA is hC (fun v w1 hp H1 locs1 hP1 hD1 hk1 hF1 hS1 => by
    obtain ⟨hw1, k2⟩ := kk v w1 hp
    subst hw1
    exact k2 H1 locs1 ls (ro_world hP hD hC hk1 hP1) hD hS1 hL)
theorem sw_callVNP (C : Cx X l g y cc nL r rm)  (hM : Ct l g y' b' n' r' rm' (.ref a :: As) wc post) (S : Sv y' b' n' r' np) (host : String) (hl : Cond.methodLinkNest y.cls idx y' host ∈ lw_tbl) {ci : Nat} {Cq : vw_C} {fs : List Value} (hrecv : wc[0]? = some (a, .inr (ci, fs))) (hcl : vwCl[ci]? = some Cq) (hcn : Cq.1 = y'.cls) (is : List Nat) (hC : is.map (fun i => ws[i]?) = wc.map some) (hnd : va_nd is = true) (hnp : As.length = np) {st0 : List Value} (hst : st0 = As.reverse ++ .ref a :: st) (hW : (st.map fun v => v.category).sum ≤ 8) (hf : rm'.frames + 1 ≤ rm.frames) (hlo : 8 + (n' + 11) + rm'.locals ≤ rm.locals) (hc : k + rm'.cells ≤ rm.cells) (hs : n + rm'.slots ≤ rm.slots) (hd : decode cc pc = .ok (.invokevirtual idx, 3)) (kk : ∀ (v : Option Value) (w1 : va_W), post v w1 → w1.map Prod.fst = wc.map Prod.fst ∧ SW X g nL (k + rm'.cells) (n + rm'.slots) (putb ws is w1) (pc + 3) L (v.toList ++ st)) : SW X g nL k n ws pc L st0 := by
  obtain ⟨p, l0, e, R, s, m, args, below, meth, c, A, Q⟩ := X
  obtain ⟨hx, hb, hml, hown, hts, hK, hA, hr, hlk, hnm, hrm, hl0⟩ := C
  intro H locs ls hP hD hS hL
  subst hrm
  subst hl0
  subst hst
  have hPc := hP.sub (ws' := wc) is (pick_of (ws' := wc) is wc hC)
  have hDc := hD.sub (ws' := wc) is hnd hC
  exact run_go (post := post) (wc := wc) (va_runVN (As := As) (rest := st) ⟨hx, hb, hml, hown, hts⟩ (hM H.size) (⟨va_cnB np hts (TT_good S.1) rfl rfl rfl (hK.2 _ hl rfl) (hts _ S.2.2.2.1) ⟨S.2.2.2.2.1, S.2.2.2.2.2.1, S.2.2.2.2.2.2⟩ ⟨hf, hlo⟩, hts _ S.2.1, hts _ S.2.2.1⟩) ⟨pg_blind, (by have h0 := va_recv hK.1 hPc hcl hrecv; rw [hcn] at h0; exact h0), fun U hU hW1 => pg_pre hU hW1 hK hPc hDc⟩ rfl hnp hL.1 rfl (lv_room hW) hd ⟨hc, hs⟩) hD hS hA is hC (fun v w1 hp H1 locs1 hP1 hD1 hk1 hF1 hS1 => by
    obtain ⟨hadr, kk⟩ := kk v w1 hp
    obtain ⟨hPj, hDj⟩ := put_world hP hD hC hnd hadr hk1 hP1
    exact kk H1 locs1 ls hPj hDj hS1 hL)
theorem sw_callVNR (C : Cx X l g y cc nL r rm)  (hM : Ct l g y' b' n' r' rm' (.ref a :: As) wc post) (S : Sv y' b' n' r' np) (host : String) (hl : Cond.methodLinkNest y.cls idx y' host ∈ lw_tbl) {ci : Nat} {Cq : vw_C} {fs : List Value} (hrecv : wc[0]? = some (a, .inr (ci, fs))) (hcl : vwCl[ci]? = some Cq) (hcn : Cq.1 = y'.cls) (is : List Nat) (hC : is.map (fun i => ws[i]?) = wc.map some) (hnd : va_nd is = true) (hnp : As.length = np) {st0 : List Value} (hst : st0 = As.reverse ++ .ref a :: st) (hW : (st.map fun v => v.category).sum ≤ 8) (hf : rm'.frames + 1 ≤ rm.frames) (hlo : 8 + (n' + 11) + rm'.locals ≤ rm.locals) (hc : k + rm'.cells ≤ rm.cells) (hs : n + rm'.slots ≤ rm.slots) (hd : decode cc pc = .ok (.invokevirtual idx, 3)) (kk : ∀ (v : Option Value) (w1 : va_W), post v w1 → w1 = wc ∧ SW X g nL (k + rm'.cells) (n + rm'.slots) ws (pc + 3) L (v.toList ++ st)) : SW X g nL k n ws pc L st0 := by
  obtain ⟨p, l0, e, R, s, m, args, below, meth, c, A, Q⟩ := X
  obtain ⟨hx, hb, hml, hown, hts, hK, hA, hr, hlk, hnm, hrm, hl0⟩ := C
  intro H locs ls hP hD hS hL
  subst hrm
  subst hl0
  subst hst
  have hPc := hP.sub (ws' := wc) is (pick_of (ws' := wc) is wc hC)
  have hDc := hD.sub (ws' := wc) is hnd hC
  exact run_go (post := post) (wc := wc) (va_runVN (As := As) (rest := st) ⟨hx, hb, hml, hown, hts⟩ (hM H.size) (⟨va_cnB np hts (TT_good S.1) rfl rfl rfl (hK.2 _ hl rfl) (hts _ S.2.2.2.1) ⟨S.2.2.2.2.1, S.2.2.2.2.2.1, S.2.2.2.2.2.2⟩ ⟨hf, hlo⟩, hts _ S.2.1, hts _ S.2.2.1⟩) ⟨pg_blind, (by have h0 := va_recv hK.1 hPc hcl hrecv; rw [hcn] at h0; exact h0), fun U hU hW1 => pg_pre hU hW1 hK hPc hDc⟩ rfl hnp hL.1 rfl (lv_room hW) hd ⟨hc, hs⟩) hD hS hA is hC (fun v w1 hp H1 locs1 hP1 hD1 hk1 hF1 hS1 => by
    obtain ⟨hw1, k2⟩ := kk v w1 hp
    subst hw1
    exact k2 H1 locs1 ls (ro_world hP hD hC hk1 hP1) hD hS1 hL)
theorem sw_callSP (C : Cx X l g y cc nL r rm)  (hM : Ct l g y' b' n' r' rm' As wc post) (S : Ss y' b' n' r' np) (hl : Cond.methodLink y.cls idx y' ∈ TT) (is : List Nat) (hC : is.map (fun i => ws[i]?) = wc.map some) (hnd : va_nd is = true) (hnp : As.length = np) {st0 : List Value} (hst : st0 = As.reverse ++ st) (hW : (st.map fun v => v.category).sum ≤ 8) (hf : rm'.frames + 1 ≤ rm.frames) (hlo : 8 + (n' + 11) + rm'.locals ≤ rm.locals) (hc : k + rm'.cells ≤ rm.cells) (hs : n + rm'.slots ≤ rm.slots) (hd : decode cc pc = .ok (.invokestatic idx, 3)) (kk : ∀ (v : Option Value) (w1 : va_W), post v w1 → w1.map Prod.fst = wc.map Prod.fst ∧ SW X g nL (k + rm'.cells) (n + rm'.slots) (putb ws is w1) (pc + 3) L (v.toList ++ st)) : SW X g nL k n ws pc L st0 := by
  obtain ⟨p, l0, e, R, s, m, args, below, meth, c, A, Q⟩ := X
  obtain ⟨hx, hb, hml, hown, hts, hK, hA, hr, hlk, hnm, hrm, hl0⟩ := C
  intro H locs ls hP hD hS hL
  subst hrm
  subst hl0
  subst hst
  have hPc := hP.sub (ws' := wc) is (pick_of (ws' := wc) is wc hC)
  have hDc := hD.sub (ws' := wc) is hnd hC
  exact run_go (post := post) (wc := wc) (va_runS (As := As) (rest := st) ⟨hx, hb, hml, hown, hts⟩ (hM H.size) (⟨callB_of np hts (TT_good S.1) rfl rfl rfl (hts _ S.2.2.1) (hts _ hl) ⟨S.2.2.2.1, S.2.2.2.2.1, S.2.2.2.2.2⟩ ⟨hf, hlo⟩, hts _ S.2.1⟩) ⟨pg_blind, fun U hU hW1 => pg_pre hU hW1 hK hPc hDc⟩ rfl hnp hL.1 rfl (lv_room hW) hd ⟨hc, hs⟩) hD hS hA is hC (fun v w1 hp H1 locs1 hP1 hD1 hk1 hF1 hS1 => by
    obtain ⟨hadr, kk⟩ := kk v w1 hp
    obtain ⟨hPj, hDj⟩ := put_world hP hD hC hnd hadr hk1 hP1
    exact kk H1 locs1 ls hPj hDj hS1 hL)
theorem sw_callSR (C : Cx X l g y cc nL r rm)  (hM : Ct l g y' b' n' r' rm' As wc post) (S : Ss y' b' n' r' np) (hl : Cond.methodLink y.cls idx y' ∈ TT) (is : List Nat) (hC : is.map (fun i => ws[i]?) = wc.map some) (hnd : va_nd is = true) (hnp : As.length = np) {st0 : List Value} (hst : st0 = As.reverse ++ st) (hW : (st.map fun v => v.category).sum ≤ 8) (hf : rm'.frames + 1 ≤ rm.frames) (hlo : 8 + (n' + 11) + rm'.locals ≤ rm.locals) (hc : k + rm'.cells ≤ rm.cells) (hs : n + rm'.slots ≤ rm.slots) (hd : decode cc pc = .ok (.invokestatic idx, 3)) (kk : ∀ (v : Option Value) (w1 : va_W), post v w1 → w1 = wc ∧ SW X g nL (k + rm'.cells) (n + rm'.slots) ws (pc + 3) L (v.toList ++ st)) : SW X g nL k n ws pc L st0 := by
  obtain ⟨p, l0, e, R, s, m, args, below, meth, c, A, Q⟩ := X
  obtain ⟨hx, hb, hml, hown, hts, hK, hA, hr, hlk, hnm, hrm, hl0⟩ := C
  intro H locs ls hP hD hS hL
  subst hrm
  subst hl0
  subst hst
  have hPc := hP.sub (ws' := wc) is (pick_of (ws' := wc) is wc hC)
  have hDc := hD.sub (ws' := wc) is hnd hC
  exact run_go (post := post) (wc := wc) (va_runS (As := As) (rest := st) ⟨hx, hb, hml, hown, hts⟩ (hM H.size) (⟨callB_of np hts (TT_good S.1) rfl rfl rfl (hts _ S.2.2.1) (hts _ hl) ⟨S.2.2.2.1, S.2.2.2.2.1, S.2.2.2.2.2⟩ ⟨hf, hlo⟩, hts _ S.2.1⟩) ⟨pg_blind, fun U hU hW1 => pg_pre hU hW1 hK hPc hDc⟩ rfl hnp hL.1 rfl (lv_room hW) hd ⟨hc, hs⟩) hD hS hA is hC (fun v w1 hp H1 locs1 hP1 hD1 hk1 hF1 hS1 => by
    obtain ⟨hw1, k2⟩ := kk v w1 hp
    subst hw1
    exact k2 H1 locs1 ls (ro_world hP hD hC hk1 hP1) hD hS1 hL)
theorem sw_callSNP (C : Cx X l g y cc nL r rm)  (hM : Ct l g y' b' n' r' rm' As wc post) (S : Ss y' b' n' r' np) (host : String) (hl : Cond.methodLinkNest y.cls idx y' host ∈ lw_tbl) (is : List Nat) (hC : is.map (fun i => ws[i]?) = wc.map some) (hnd : va_nd is = true) (hnp : As.length = np) {st0 : List Value} (hst : st0 = As.reverse ++ st) (hW : (st.map fun v => v.category).sum ≤ 8) (hf : rm'.frames + 1 ≤ rm.frames) (hlo : 8 + (n' + 11) + rm'.locals ≤ rm.locals) (hc : k + rm'.cells ≤ rm.cells) (hs : n + rm'.slots ≤ rm.slots) (hd : decode cc pc = .ok (.invokestatic idx, 3)) (kk : ∀ (v : Option Value) (w1 : va_W), post v w1 → w1.map Prod.fst = wc.map Prod.fst ∧ SW X g nL (k + rm'.cells) (n + rm'.slots) (putb ws is w1) (pc + 3) L (v.toList ++ st)) : SW X g nL k n ws pc L st0 := by
  obtain ⟨p, l0, e, R, s, m, args, below, meth, c, A, Q⟩ := X
  obtain ⟨hx, hb, hml, hown, hts, hK, hA, hr, hlk, hnm, hrm, hl0⟩ := C
  intro H locs ls hP hD hS hL
  subst hrm
  subst hl0
  subst hst
  have hPc := hP.sub (ws' := wc) is (pick_of (ws' := wc) is wc hC)
  have hDc := hD.sub (ws' := wc) is hnd hC
  exact run_go (post := post) (wc := wc) (va_runSN (As := As) (rest := st) ⟨hx, hb, hml, hown, hts⟩ (hM H.size) (⟨va_cnB np hts (TT_good S.1) rfl rfl rfl (hK.2 _ hl rfl) (hts _ S.2.2.1) ⟨S.2.2.2.1, S.2.2.2.2.1, S.2.2.2.2.2⟩ ⟨hf, hlo⟩, hts _ S.2.1, trivial⟩) ⟨pg_blind, fun U hU hW1 => pg_pre hU hW1 hK hPc hDc⟩ rfl hnp hL.1 rfl (lv_room hW) hd ⟨hc, hs⟩) hD hS hA is hC (fun v w1 hp H1 locs1 hP1 hD1 hk1 hF1 hS1 => by
    obtain ⟨hadr, kk⟩ := kk v w1 hp
    obtain ⟨hPj, hDj⟩ := put_world hP hD hC hnd hadr hk1 hP1
    exact kk H1 locs1 ls hPj hDj hS1 hL)
theorem sw_callSNR (C : Cx X l g y cc nL r rm)  (hM : Ct l g y' b' n' r' rm' As wc post) (S : Ss y' b' n' r' np) (host : String) (hl : Cond.methodLinkNest y.cls idx y' host ∈ lw_tbl) (is : List Nat) (hC : is.map (fun i => ws[i]?) = wc.map some) (hnd : va_nd is = true) (hnp : As.length = np) {st0 : List Value} (hst : st0 = As.reverse ++ st) (hW : (st.map fun v => v.category).sum ≤ 8) (hf : rm'.frames + 1 ≤ rm.frames) (hlo : 8 + (n' + 11) + rm'.locals ≤ rm.locals) (hc : k + rm'.cells ≤ rm.cells) (hs : n + rm'.slots ≤ rm.slots) (hd : decode cc pc = .ok (.invokestatic idx, 3)) (kk : ∀ (v : Option Value) (w1 : va_W), post v w1 → w1 = wc ∧ SW X g nL (k + rm'.cells) (n + rm'.slots) ws (pc + 3) L (v.toList ++ st)) : SW X g nL k n ws pc L st0 := by
  obtain ⟨p, l0, e, R, s, m, args, below, meth, c, A, Q⟩ := X
  obtain ⟨hx, hb, hml, hown, hts, hK, hA, hr, hlk, hnm, hrm, hl0⟩ := C
  intro H locs ls hP hD hS hL
  subst hrm
  subst hl0
  subst hst
  have hPc := hP.sub (ws' := wc) is (pick_of (ws' := wc) is wc hC)
  have hDc := hD.sub (ws' := wc) is hnd hC
  exact run_go (post := post) (wc := wc) (va_runSN (As := As) (rest := st) ⟨hx, hb, hml, hown, hts⟩ (hM H.size) (⟨va_cnB np hts (TT_good S.1) rfl rfl rfl (hK.2 _ hl rfl) (hts _ S.2.2.1) ⟨S.2.2.2.1, S.2.2.2.2.1, S.2.2.2.2.2⟩ ⟨hf, hlo⟩, hts _ S.2.1, trivial⟩) ⟨pg_blind, fun U hU hW1 => pg_pre hU hW1 hK hPc hDc⟩ rfl hnp hL.1 rfl (lv_room hW) hd ⟨hc, hs⟩) hD hS hA is hC (fun v w1 hp H1 locs1 hP1 hD1 hk1 hF1 hS1 => by
    obtain ⟨hw1, k2⟩ := kk v w1 hp
    subst hw1
    exact k2 H1 locs1 ls (ro_world hP hD hC hk1 hP1) hD hS1 hL)
theorem sw_callIJ (C : Cx X l g y cc nL r rm)  (hM : Ct l g y' b' n' none rm' (.ref a :: As) wc post) (S : Si y' b' n' np) (hl : Cond.methodLink y.cls idx y' ∈ TT) (is : List Nat) (hC : is.map (fun i => ws[i]?) = wc.map some) (hnd : va_nd is = true) (isR : List Nat) (hR : isR.map (fun i => ws[i]?) = wr.map some) (hn : va_nd isR = true) (hdis : ∀ i ∈ isR, i ∉ is) (hnp : As.length = np) {st0 : List Value} (hst : st0 = As.reverse ++ .ref a :: st) (hW : (st.map fun v => v.category).sum ≤ 8) (hf : rm'.frames + 1 ≤ rm.frames) (hlo : 8 + (n' + 11) + rm'.locals ≤ rm.locals) (hc : k + rm'.cells ≤ rm.cells) (hs : n + rm'.slots ≤ rm.slots) (hd : decode cc pc = .ok (.invokespecial idx, 3)) (kk : ∀ (v : Option Value) (w1 : va_W), post v w1 → SW X g nL (k + rm'.cells) (n + rm'.slots) (wr ++ w1) (pc + 3) L (v.toList ++ st)) : SW X g nL k n ws pc L st0 := by
  obtain ⟨p, l0, e, R, s, m, args, below, meth, c, A, Q⟩ := X
  obtain ⟨hx, hb, hml, hown, hts, hK, hA, hr, hlk, hnm, hrm, hl0⟩ := C
  intro H locs ls hP hD hS hL
  subst hrm
  subst hl0
  subst hst
  have hPc := hP.sub (ws' := wc) is (pick_of (ws' := wc) is wc hC)
  have hDc := hD.sub (ws' := wc) is hnd hC
  exact run_go (post := post) (wc := wc) (va_runI (As := As) (rest := st) ⟨hx, hb, hml, hown, hts⟩ (hM H.size) (⟨callB_of np hts (TT_good S.1) rfl rfl rfl (hts _ S.2.2.1) (hts _ hl) ⟨S.2.2.2.1, S.2.2.2.2.1, S.2.2.2.2.2.1⟩ ⟨hf, hlo⟩, S.2.2.2.2.2.2, hts _ S.2.1⟩) ⟨pg_blind, fun U hU hW1 => pg_pre hU hW1 hK hPc hDc⟩ rfl hnp hL.1 rfl (lv_room hW) hd ⟨hc, hs⟩) hD hS hA is hC (fun v w1 hp H1 locs1 hP1 hD1 hk1 hF1 hS1 => by
    obtain ⟨hPj, hDj⟩ := va_join (wr := wr) (w1 := w1) hP hD is isR hC hR hn hdis hk1 hF1 hP1 hD1
    exact kk v w1 hp H1 locs1 ls hPj hDj hS1 hL)
theorem sw_callIP (C : Cx X l g y cc nL r rm)  (hM : Ct l g y' b' n' none rm' (.ref a :: As) wc post) (S : Si y' b' n' np) (hl : Cond.methodLink y.cls idx y' ∈ TT) (is : List Nat) (hC : is.map (fun i => ws[i]?) = wc.map some) (hnd : va_nd is = true) (hnp : As.length = np) {st0 : List Value} (hst : st0 = As.reverse ++ .ref a :: st) (hW : (st.map fun v => v.category).sum ≤ 8) (hf : rm'.frames + 1 ≤ rm.frames) (hlo : 8 + (n' + 11) + rm'.locals ≤ rm.locals) (hc : k + rm'.cells ≤ rm.cells) (hs : n + rm'.slots ≤ rm.slots) (hd : decode cc pc = .ok (.invokespecial idx, 3)) (kk : ∀ (v : Option Value) (w1 : va_W), post v w1 → w1.map Prod.fst = wc.map Prod.fst ∧ SW X g nL (k + rm'.cells) (n + rm'.slots) (putb ws is w1) (pc + 3) L (v.toList ++ st)) : SW X g nL k n ws pc L st0 := by
  obtain ⟨p, l0, e, R, s, m, args, below, meth, c, A, Q⟩ := X
  obtain ⟨hx, hb, hml, hown, hts, hK, hA, hr, hlk, hnm, hrm, hl0⟩ := C
  intro H locs ls hP hD hS hL
  subst hrm
  subst hl0
  subst hst
  have hPc := hP.sub (ws' := wc) is (pick_of (ws' := wc) is wc hC)
  have hDc := hD.sub (ws' := wc) is hnd hC
  exact run_go (post := post) (wc := wc) (va_runI (As := As) (rest := st) ⟨hx, hb, hml, hown, hts⟩ (hM H.size) (⟨callB_of np hts (TT_good S.1) rfl rfl rfl (hts _ S.2.2.1) (hts _ hl) ⟨S.2.2.2.1, S.2.2.2.2.1, S.2.2.2.2.2.1⟩ ⟨hf, hlo⟩, S.2.2.2.2.2.2, hts _ S.2.1⟩) ⟨pg_blind, fun U hU hW1 => pg_pre hU hW1 hK hPc hDc⟩ rfl hnp hL.1 rfl (lv_room hW) hd ⟨hc, hs⟩) hD hS hA is hC (fun v w1 hp H1 locs1 hP1 hD1 hk1 hF1 hS1 => by
    obtain ⟨hadr, kk⟩ := kk v w1 hp
    obtain ⟨hPj, hDj⟩ := put_world hP hD hC hnd hadr hk1 hP1
    exact kk H1 locs1 ls hPj hDj hS1 hL)
theorem sw_callINJ (C : Cx X l g y cc nL r rm)  (hM : Ct l g y' b' n' none rm' (.ref a :: As) wc post) (S : Si y' b' n' np) (host : String) (hl : Cond.methodLinkNest y.cls idx y' host ∈ lw_tbl) (is : List Nat) (hC : is.map (fun i => ws[i]?) = wc.map some) (hnd : va_nd is = true) (isR : List Nat) (hR : isR.map (fun i => ws[i]?) = wr.map some) (hn : va_nd isR = true) (hdis : ∀ i ∈ isR, i ∉ is) (hnp : As.length = np) {st0 : List Value} (hst : st0 = As.reverse ++ .ref a :: st) (hW : (st.map fun v => v.category).sum ≤ 8) (hf : rm'.frames + 1 ≤ rm.frames) (hlo : 8 + (n' + 11) + rm'.locals ≤ rm.locals) (hc : k + rm'.cells ≤ rm.cells) (hs : n + rm'.slots ≤ rm.slots) (hd : decode cc pc = .ok (.invokespecial idx, 3)) (kk : ∀ (v : Option Value) (w1 : va_W), post v w1 → SW X g nL (k + rm'.cells) (n + rm'.slots) (wr ++ w1) (pc + 3) L (v.toList ++ st)) : SW X g nL k n ws pc L st0 := by
  obtain ⟨p, l0, e, R, s, m, args, below, meth, c, A, Q⟩ := X
  obtain ⟨hx, hb, hml, hown, hts, hK, hA, hr, hlk, hnm, hrm, hl0⟩ := C
  intro H locs ls hP hD hS hL
  subst hrm
  subst hl0
  subst hst
  have hPc := hP.sub (ws' := wc) is (pick_of (ws' := wc) is wc hC)
  have hDc := hD.sub (ws' := wc) is hnd hC
  exact run_go (post := post) (wc := wc) (va_runIN (As := As) (rest := st) ⟨hx, hb, hml, hown, hts⟩ (hM H.size) (⟨va_cnB np hts (TT_good S.1) rfl rfl rfl (hK.2 _ hl rfl) (hts _ S.2.2.1) ⟨S.2.2.2.1, S.2.2.2.2.1, S.2.2.2.2.2.1⟩ ⟨hf, hlo⟩, S.2.2.2.2.2.2, hts _ S.2.1⟩) ⟨pg_blind, fun U hU hW1 => pg_pre hU hW1 hK hPc hDc⟩ rfl hnp hL.1 rfl (lv_room hW) hd ⟨hc, hs⟩) hD hS hA is hC (fun v w1 hp H1 locs1 hP1 hD1 hk1 hF1 hS1 => by
    obtain ⟨hPj, hDj⟩ := va_join (wr := wr) (w1 := w1) hP hD is isR hC hR hn hdis hk1 hF1 hP1 hD1
    exact kk v w1 hp H1 locs1 ls hPj hDj hS1 hL)
theorem sw_callINP (C : Cx X l g y cc nL r rm)  (hM : Ct l g y' b' n' none rm' (.ref a :: As) wc post) (S : Si y' b' n' np) (host : String) (hl : Cond.methodLinkNest y.cls idx y' host ∈ lw_tbl) (is : List Nat) (hC : is.map (fun i => ws[i]?) = wc.map some) (hnd : va_nd is = true) (hnp : As.length = np) {st0 : List Value} (hst : st0 = As.reverse ++ .ref a :: st) (hW : (st.map fun v => v.category).sum ≤ 8) (hf : rm'.frames + 1 ≤ rm.frames) (hlo : 8 + (n' + 11) + rm'.locals ≤ rm.locals) (hc : k + rm'.cells ≤ rm.cells) (hs : n + rm'.slots ≤ rm.slots) (hd : decode cc pc = .ok (.invokespecial idx, 3)) (kk : ∀ (v : Option Value) (w1 : va_W), post v w1 → w1.map Prod.fst = wc.map Prod.fst ∧ SW X g nL (k + rm'.cells) (n + rm'.slots) (putb ws is w1) (pc + 3) L (v.toList ++ st)) : SW X g nL k n ws pc L st0 := by
  obtain ⟨p, l0, e, R, s, m, args, below, meth, c, A, Q⟩ := X
  obtain ⟨hx, hb, hml, hown, hts, hK, hA, hr, hlk, hnm, hrm, hl0⟩ := C
  intro H locs ls hP hD hS hL
  subst hrm
  subst hl0
  subst hst
  have hPc := hP.sub (ws' := wc) is (pick_of (ws' := wc) is wc hC)
  have hDc := hD.sub (ws' := wc) is hnd hC
  exact run_go (post := post) (wc := wc) (va_runIN (As := As) (rest := st) ⟨hx, hb, hml, hown, hts⟩ (hM H.size) (⟨va_cnB np hts (TT_good S.1) rfl rfl rfl (hK.2 _ hl rfl) (hts _ S.2.2.1) ⟨S.2.2.2.1, S.2.2.2.2.1, S.2.2.2.2.2.1⟩ ⟨hf, hlo⟩, S.2.2.2.2.2.2, hts _ S.2.1⟩) ⟨pg_blind, fun U hU hW1 => pg_pre hU hW1 hK hPc hDc⟩ rfl hnp hL.1 rfl (lv_room hW) hd ⟨hc, hs⟩) hD hS hA is hC (fun v w1 hp H1 locs1 hP1 hD1 hk1 hF1 hS1 => by
    obtain ⟨hadr, kk⟩ := kk v w1 hp
    obtain ⟨hPj, hDj⟩ := put_world hP hD hC hnd hadr hk1 hP1
    exact kk H1 locs1 ls hPj hDj hS1 hL)
/-- a call of an inherited or abstract method: x' is named, the receiver's class Cn selects y' -/
def Su (x' y' : MethodName) (Cn owner : String) (b : ByteArray) (n : Nat) (r : Option FieldType) (np : Nat) : Prop := Cond.code y' b n r ∈ TT ∧ Cond.sameMethod x'.cls owner x'.name x'.desc ∈ TT ∧ (∀ (args : Array Value) (s : State), (∀ w ∈ TT, w.before args s = true) → (Cond.selects Cn x' y').before args s = true) ∧ Cond.instanceMethod y' ∈ TT ∧ Cond.initialized y'.cls ∈ TT ∧ owner ≠ "java/lang/invoke/MethodHandle" ∧ owner ≠ "java/lang/invoke/VarHandle" ∧ (parseMethodDescriptor x'.desc).map (fun d => d.parameters.length) = some np
theorem su_len {x' : MethodName} {np : Nat} (h : (parseMethodDescriptor x'.desc).map (fun d => d.parameters.length) = some np) : ∀ sig, parseMethodDescriptor x'.desc = some sig → np = sig.parameters.length := by
  intro sig h1
  rw [h1] at h
  exact (Option.some.inj h).symm
/-- the method found under another name of the same -/
theorem sel_as {C : String} {x x' y : MethodName} {args : Array Value} {s : State} (h : (Cond.selects C x y).before args s = true) (h1 : s.methodFound? x'.cls x'.name x'.desc = s.methodFound? x.cls x.name x.desc) : (Cond.selects C x' y).before args s = true := by
  have h2 := h
  simp only [Cond.before, Cond.holds, Cond.value] at h2 ⊢
  rw [h1]
  exact h2
theorem sel_up {C sub owner nm ds : String} {y : MethodName} {args : Array Value} {s : State} (h : (Cond.selects C ⟨owner, nm, ds⟩ y).before args s = true) (h1 : (Cond.sameMethod sub owner nm ds).before args s = true) (h2 : (Cond.sameMethod owner owner nm ds).before args s = true) : (Cond.selects C ⟨sub, nm, ds⟩ y).before args s = true := by
  obtain ⟨_, _, r, _, _, _, f1, n1⟩ := Cond.sameMethod_found h1
  obtain ⟨_, _, r', _, _, _, f2, n2⟩ := Cond.sameMethod_found h2
  have e : r = r' := Option.some.inj (n1.symm.trans n2)
  exact sel_as h (by dsimp only; rw [f1, f2, e])
/-- a private method of a superclass -/
theorem sel_priv {C : String} {n : Nat} {y : MethodName} {args : Array Value} {s : State} (hins : (Cond.instantiable C n).before args s = true) (hpriv : (Cond.privateMethod y).before args s = true) (hinst : (Cond.instanceMethod y).before args s = true) (hsame : (Cond.sameMethod y.cls y.cls y.name y.desc).before args s = true) : (Cond.selects C y y).before args s = true := by
  obtain ⟨c, k, hc, hk, -, -, -, -⟩ := Cond.instantiable_spec hins
  obtain ⟨mk, methM, hnamed, hmethM, -, -⟩ := Cond.instanceMethod_spec hinst
  obtain ⟨c2, ck, r, g1, g2, g3, f1, n1⟩ := Cond.sameMethod_found hsame
  have e : r = mk := Option.some.inj (n1.symm.trans hnamed)
  subst e
  have hcls : r.cls = c2 := Option.some.inj ((findClass_of_methodNamed hnamed).symm.trans g1)
  have hsel : selectMethod {} s.vm c r = .method r := selectMethod_private hmethM (Cond.privateMethod_at hpriv r methM hnamed hmethM)
  simp only [Cond.before, Cond.holds, Cond.value, hc, f1, hnamed, hsel, hcls, g2]
  simp; exact g3
theorem sw_callUP (C : Cx X l g y cc nL r rm) {x' : MethodName} {Cn owner : String} (hM : Ct l g y' b' n' r' rm' (.ref a :: As) wc post) (S : Su x' y' Cn owner b' n' r' np) (hl : Cond.methodLink y.cls idx x' ∈ TT) (hyx : y' = ⟨owner, x'.name, x'.desc⟩) {ci : Nat} {Cq : vw_C} {fs : List Value} (hrecv : wc[0]? = some (a, .inr (ci, fs))) (hcl : vwCl[ci]? = some Cq) (hcn : Cq.1 = Cn) (is : List Nat) (hC : is.map (fun i => ws[i]?) = wc.map some) (hnd : va_nd is = true) (hnp : As.length = np) {st0 : List Value} (hst : st0 = As.reverse ++ .ref a :: st) (hW : (st.map fun v => v.category).sum ≤ 8) (hf : rm'.frames + 1 ≤ rm.frames) (hlo : 8 + (n' + 11) + rm'.locals ≤ rm.locals) (hc : k + rm'.cells ≤ rm.cells) (hs : n + rm'.slots ≤ rm.slots) (hd : decode cc pc = .ok (.invokevirtual idx, 3)) (kk : ∀ (v : Option Value) (w1 : va_W), post v w1 → w1.map Prod.fst = wc.map Prod.fst ∧ SW X g nL (k + rm'.cells) (n + rm'.slots) (putb ws is w1) (pc + 3) L (v.toList ++ st)) : SW X g nL k n ws pc L st0 := by
  obtain ⟨p, l0, e, R, s, m, args, below, meth, c, A, Q⟩ := X
  obtain ⟨hx, hb, hml, hown, hts, hK, hA, hr, hlk, hnm, hrm, hl0⟩ := C
  intro H locs ls hP hD hS hL
  subst hrm
  subst hl0
  subst hst
  have hPc := hP.sub (ws' := wc) is (pick_of (ws' := wc) is wc hC)
  have hDc := hD.sub (ws' := wc) is hnd hC
  exact run_go (post := post) (wc := wc) (va_runU (As := As) (rest := st) ⟨hx, hb, hml, hown, hts⟩ (hM H.size) (⟨⟨rfl, rfl, hf, hlo, pay_in hts (TT_good S.1), List.mem_cons_self⟩, hts _ S.1, hts _ S.2.2.2.2.1, ⟨S.2.2.2.2.2.1, S.2.2.2.2.2.2.1⟩, su_len S.2.2.2.2.2.2.2, hts _ hl, hts _ S.2.1, (by rw [← hyx]; exact va_Decl.of (hts _ S.2.2.2.1) (hts _ S.1)), S.2.2.1 _ _ hts, hts _ S.2.2.2.1⟩) ⟨pg_blind, (by have h0 := va_recv hK.1 hPc hcl hrecv; rw [hcn] at h0; exact h0), fun U hU hW1 => pg_pre hU hW1 hK hPc hDc⟩ rfl hnp hL.1 rfl (lv_room hW) hd ⟨hc, hs⟩) hD hS hA is hC (fun v w1 hp H1 locs1 hP1 hD1 hk1 hF1 hS1 => by
    obtain ⟨hadr, kk⟩ := kk v w1 hp
    obtain ⟨hPj, hDj⟩ := put_world hP hD hC hnd hadr hk1 hP1
    exact kk H1 locs1 ls hPj hDj hS1 hL)
theorem sw_callUR (C : Cx X l g y cc nL r rm) {x' : MethodName} {Cn owner : String} (hM : Ct l g y' b' n' r' rm' (.ref a :: As) wc post) (S : Su x' y' Cn owner b' n' r' np) (hl : Cond.methodLink y.cls idx x' ∈ TT) (hyx : y' = ⟨owner, x'.name, x'.desc⟩) {ci : Nat} {Cq : vw_C} {fs : List Value} (hrecv : wc[0]? = some (a, .inr (ci, fs))) (hcl : vwCl[ci]? = some Cq) (hcn : Cq.1 = Cn) (is : List Nat) (hC : is.map (fun i => ws[i]?) = wc.map some) (hnd : va_nd is = true) (hnp : As.length = np) {st0 : List Value} (hst : st0 = As.reverse ++ .ref a :: st) (hW : (st.map fun v => v.category).sum ≤ 8) (hf : rm'.frames + 1 ≤ rm.frames) (hlo : 8 + (n' + 11) + rm'.locals ≤ rm.locals) (hc : k + rm'.cells ≤ rm.cells) (hs : n + rm'.slots ≤ rm.slots) (hd : decode cc pc = .ok (.invokevirtual idx, 3)) (kk : ∀ (v : Option Value) (w1 : va_W), post v w1 → w1 = wc ∧ SW X g nL (k + rm'.cells) (n + rm'.slots) ws (pc + 3) L (v.toList ++ st)) : SW X g nL k n ws pc L st0 := by
  obtain ⟨p, l0, e, R, s, m, args, below, meth, c, A, Q⟩ := X
  obtain ⟨hx, hb, hml, hown, hts, hK, hA, hr, hlk, hnm, hrm, hl0⟩ := C
  intro H locs ls hP hD hS hL
  subst hrm
  subst hl0
  subst hst
  have hPc := hP.sub (ws' := wc) is (pick_of (ws' := wc) is wc hC)
  have hDc := hD.sub (ws' := wc) is hnd hC
  exact run_go (post := post) (wc := wc) (va_runU (As := As) (rest := st) ⟨hx, hb, hml, hown, hts⟩ (hM H.size) (⟨⟨rfl, rfl, hf, hlo, pay_in hts (TT_good S.1), List.mem_cons_self⟩, hts _ S.1, hts _ S.2.2.2.2.1, ⟨S.2.2.2.2.2.1, S.2.2.2.2.2.2.1⟩, su_len S.2.2.2.2.2.2.2, hts _ hl, hts _ S.2.1, (by rw [← hyx]; exact va_Decl.of (hts _ S.2.2.2.1) (hts _ S.1)), S.2.2.1 _ _ hts, hts _ S.2.2.2.1⟩) ⟨pg_blind, (by have h0 := va_recv hK.1 hPc hcl hrecv; rw [hcn] at h0; exact h0), fun U hU hW1 => pg_pre hU hW1 hK hPc hDc⟩ rfl hnp hL.1 rfl (lv_room hW) hd ⟨hc, hs⟩) hD hS hA is hC (fun v w1 hp H1 locs1 hP1 hD1 hk1 hF1 hS1 => by
    obtain ⟨hw1, k2⟩ := kk v w1 hp
    subst hw1
    exact k2 H1 locs1 ls (ro_world hP hD hC hk1 hP1) hD hS1 hL)
theorem sw_callAP (C : Cx X l g y cc nL r rm) {x' : MethodName} {Cn owner : String} (hM : Ct l g y' b' n' r' rm' (.ref a :: As) wc post) (S : Su x' y' Cn owner b' n' r' np) (hl : Cond.methodLink y.cls idx x' ∈ TT) (hz : Cond.declares ⟨owner, x'.name, x'.desc⟩ ∈ lw_tbl) {ci : Nat} {Cq : vw_C} {fs : List Value} (hrecv : wc[0]? = some (a, .inr (ci, fs))) (hcl : vwCl[ci]? = some Cq) (hcn : Cq.1 = Cn) (is : List Nat) (hC : is.map (fun i => ws[i]?) = wc.map some) (hnd : va_nd is = true) (hnp : As.length = np) {st0 : List Value} (hst : st0 = As.reverse ++ .ref a :: st) (hW : (st.map fun v => v.category).sum ≤ 8) (hf : rm'.frames + 1 ≤ rm.frames) (hlo : 8 + (n' + 11) + rm'.locals ≤ rm.locals) (hc : k + rm'.cells ≤ rm.cells) (hs : n + rm'.slots ≤ rm.slots) (hd : decode cc pc = .ok (.invokevirtual idx, 3)) (kk : ∀ (v : Option Value) (w1 : va_W), post v w1 → w1.map Prod.fst = wc.map Prod.fst ∧ SW X g nL (k + rm'.cells) (n + rm'.slots) (putb ws is w1) (pc + 3) L (v.toList ++ st)) : SW X g nL k n ws pc L st0 := by
  obtain ⟨p, l0, e, R, s, m, args, below, meth, c, A, Q⟩ := X
  obtain ⟨hx, hb, hml, hown, hts, hK, hA, hr, hlk, hnm, hrm, hl0⟩ := C
  intro H locs ls hP hD hS hL
  subst hrm
  subst hl0
  subst hst
  have hPc := hP.sub (ws' := wc) is (pick_of (ws' := wc) is wc hC)
  have hDc := hD.sub (ws' := wc) is hnd hC
  exact run_go (post := post) (wc := wc) (va_runU (As := As) (rest := st) ⟨hx, hb, hml, hown, hts⟩ (hM H.size) (⟨⟨rfl, rfl, hf, hlo, pay_in hts (TT_good S.1), List.mem_cons_self⟩, hts _ S.1, hts _ S.2.2.2.2.1, ⟨S.2.2.2.2.2.1, S.2.2.2.2.2.2.1⟩, su_len S.2.2.2.2.2.2.2, hts _ hl, hts _ S.2.1, va_Decl.abs (hK.2 _ hz rfl), S.2.2.1 _ _ hts, hts _ S.2.2.2.1⟩) ⟨pg_blind, (by have h0 := va_recv hK.1 hPc hcl hrecv; rw [hcn] at h0; exact h0), fun U hU hW1 => pg_pre hU hW1 hK hPc hDc⟩ rfl hnp hL.1 rfl (lv_room hW) hd ⟨hc, hs⟩) hD hS hA is hC (fun v w1 hp H1 locs1 hP1 hD1 hk1 hF1 hS1 => by
    obtain ⟨hadr, kk⟩ := kk v w1 hp
    obtain ⟨hPj, hDj⟩ := put_world hP hD hC hnd hadr hk1 hP1
    exact kk H1 locs1 ls hPj hDj hS1 hL)
theorem sw_callAR (C : Cx X l g y cc nL r rm) {x' : MethodName} {Cn owner : String} (hM : Ct l g y' b' n' r' rm' (.ref a :: As) wc post) (S : Su x' y' Cn owner b' n' r' np) (hl : Cond.methodLink y.cls idx x' ∈ TT) (hz : Cond.declares ⟨owner, x'.name, x'.desc⟩ ∈ lw_tbl) {ci : Nat} {Cq : vw_C} {fs : List Value} (hrecv : wc[0]? = some (a, .inr (ci, fs))) (hcl : vwCl[ci]? = some Cq) (hcn : Cq.1 = Cn) (is : List Nat) (hC : is.map (fun i => ws[i]?) = wc.map some) (hnd : va_nd is = true) (hnp : As.length = np) {st0 : List Value} (hst : st0 = As.reverse ++ .ref a :: st) (hW : (st.map fun v => v.category).sum ≤ 8) (hf : rm'.frames + 1 ≤ rm.frames) (hlo : 8 + (n' + 11) + rm'.locals ≤ rm.locals) (hc : k + rm'.cells ≤ rm.cells) (hs : n + rm'.slots ≤ rm.slots) (hd : decode cc pc = .ok (.invokevirtual idx, 3)) (kk : ∀ (v : Option Value) (w1 : va_W), post v w1 → w1 = wc ∧ SW X g nL (k + rm'.cells) (n + rm'.slots) ws (pc + 3) L (v.toList ++ st)) : SW X g nL k n ws pc L st0 := by
  obtain ⟨p, l0, e, R, s, m, args, below, meth, c, A, Q⟩ := X
  obtain ⟨hx, hb, hml, hown, hts, hK, hA, hr, hlk, hnm, hrm, hl0⟩ := C
  intro H locs ls hP hD hS hL
  subst hrm
  subst hl0
  subst hst
  have hPc := hP.sub (ws' := wc) is (pick_of (ws' := wc) is wc hC)
  have hDc := hD.sub (ws' := wc) is hnd hC
  exact run_go (post := post) (wc := wc) (va_runU (As := As) (rest := st) ⟨hx, hb, hml, hown, hts⟩ (hM H.size) (⟨⟨rfl, rfl, hf, hlo, pay_in hts (TT_good S.1), List.mem_cons_self⟩, hts _ S.1, hts _ S.2.2.2.2.1, ⟨S.2.2.2.2.2.1, S.2.2.2.2.2.2.1⟩, su_len S.2.2.2.2.2.2.2, hts _ hl, hts _ S.2.1, va_Decl.abs (hK.2 _ hz rfl), S.2.2.1 _ _ hts, hts _ S.2.2.2.1⟩) ⟨pg_blind, (by have h0 := va_recv hK.1 hPc hcl hrecv; rw [hcn] at h0; exact h0), fun U hU hW1 => pg_pre hU hW1 hK hPc hDc⟩ rfl hnp hL.1 rfl (lv_room hW) hd ⟨hc, hs⟩) hD hS hA is hC (fun v w1 hp H1 locs1 hP1 hD1 hk1 hF1 hS1 => by
    obtain ⟨hw1, k2⟩ := kk v w1 hp
    subst hw1
    exact k2 H1 locs1 ls (ro_world hP hD hC hk1 hP1) hD hS1 hL)
end SWC2
theorem cell_congr {cA : ClassId} {N : Nat} {f f' : Nat → Int32} (h : ∀ j, j < N → f j = f' j) : vp_cell cA (N, .inl f) = vp_cell cA (N, .inl f') := by
  rw [vp_cell_i, vp_cell_i]
  unfold arrV
  congr 2
  funext j
  show Value.int (f j.val) = Value.int (f' j.val)
  rw [h j.val j.isLt]
theorem cell_congrL {cA : ClassId} {N : Nat} {f f' : Nat → Int64} (h : ∀ j, j < N → f j = f' j) : vp_cell cA (N, .inr (.inl f)) = vp_cell cA (N, .inr (.inl f')) := by
  rw [vp_cell_l, vp_cell_l]
  unfold arrV
  congr 2
  funext j
  show Value.long (f j.val) = Value.long (f' j.val)
  rw [h j.val j.isLt]
theorem cell_congrQ {cA : ClassId} {N : Nat} {f f' : Nat → Option Nat} (h : ∀ j, j < N → f j = f' j) : vp_cell cA (N, .inr (.inr (.inr (.inr f)))) = vp_cell cA (N, .inr (.inr (.inr (.inr f')))) := by
  rw [vp_cell_q, vp_cell_q]
  unfold arrV
  congr 2
  funext j
  show va_rf (f j.val) = va_rf (f' j.val)
  rw [h j.val j.isLt]
/-- a truth value as an int -/
def bI (b : Bool) : Int32 := if b then 1 else 0
theorem bI_nar (b : Bool) : narrow .boolean (.int (bI b)) = .int (bI b) := by cases b <;> rfl
theorem bI_fit (b : Bool) : fits .boolean (.int (bI b)) = true := by cases b <;> rfl
theorem bI_vnar (b : Bool) : vp_nar .boolean (bI b) = bI b := by cases b <;> rfl
theorem bI_0 {b : Bool} : bI b = 0 ↔ b = false := by cases b <;> decide
theorem bI_1 {b : Bool} : bI b = 1 ↔ b = true := by cases b <;> decide
section SWN
variable {X : Cz} {l : Launch} {g : Gl} {y : MethodName} {cc : ByteArray} {nL k n pc : Nat} {r : Option FieldType} {rm : Room} {ws : va_W} {L : List (Option Value)} {st : List Value}
/-- an array's function below its length counts alone -/
theorem sw_arr {a N : Nat} {cA : ClassId} {f f' : Nat → Int32} (q0 : Nat) (he : ws[q0]? = some (a, .inl (cA, N, .inl f))) (h : ∀ j, j < N → f j = f' j) (kk : SW X g nL k n (ws.set q0 (a, .inl (cA, N, .inl f'))) pc L st) : SW X g nL k n ws pc L st := by
  obtain ⟨p, l0, e, R, s, m, args, below, meth, c, A, Q⟩ := X
  intro H locs ls hP hD hS hL
  refine kk H locs ls (hP.set hD he ?_ (fun _ _ => rfl)) (hD.set he) hS hL
  show H[a]? = some (vp_cell cA (N, .inl f'))
  rw [← cell_congr h]
  exact hP q0 _ he
theorem sw_arrL {a N : Nat} {cA : ClassId} {f f' : Nat → Int64} (q0 : Nat) (he : ws[q0]? = some (a, .inl (cA, N, .inr (.inl f)))) (h : ∀ j, j < N → f j = f' j) (kk : SW X g nL k n (ws.set q0 (a, .inl (cA, N, .inr (.inl f')))) pc L st) : SW X g nL k n ws pc L st := by
  obtain ⟨p, l0, e, R, s, m, args, below, meth, c, A, Q⟩ := X
  intro H locs ls hP hD hS hL
  refine kk H locs ls (hP.set hD he ?_ (fun _ _ => rfl)) (hD.set he) hS hL
  show H[a]? = some (vp_cell cA (N, .inr (.inl f')))
  rw [← cell_congrL h]
  exact hP q0 _ he
theorem sw_arrQ {a N : Nat} {cA : ClassId} {f f' : Nat → Option Nat} (q0 : Nat) (he : ws[q0]? = some (a, .inl (cA, N, .inr (.inr (.inr (.inr f)))))) (h : ∀ j, j < N → f j = f' j) (kk : SW X g nL k n (ws.set q0 (a, .inl (cA, N, .inr (.inr (.inr (.inr f')))))) pc L st) : SW X g nL k n ws pc L st := by
  obtain ⟨p, l0, e, R, s, m, args, below, meth, c, A, Q⟩ := X
  intro H locs ls hP hD hS hL
  refine kk H locs ls (hP.set hD he ?_ (fun _ _ => rfl)) (hD.set he) hS hL
  show H[a]? = some (vp_cell cA (N, .inr (.inr (.inr (.inr f')))))
  rw [← cell_congrQ h]
  exact hP q0 _ he
theorem sw_ialdN (C : Cx X l g y cc nL r rm) {a N : Nat} {f : Nat → Int32} {i : Int32} (q0 j : Nat) (he : ws[q0]? = some (a, .inl (g.2.1, N, .inl f))) (hi : i = nI j) (hj : j < N) (hN : N < 2 ^ 31) (hd : decode cc pc = .ok (.iaload, 1)) (kk : SW X g nL k n ws (pc + 1) L (.int (f j) :: st)) : SW X g nL k n ws (pc) L (.int i :: .ref a :: st) := by
  subst hi
  refine sw_iald C q0 he (vp_in_nI hj hN) hd ?_
  rw [nI_clamp (Nat.lt_trans hj hN)]
  exact kk
theorem sw_zaldN (C : Cx X l g y cc nL r rm) {a N : Nat} {f : Nat → Int32} {i : Int32} (q0 j : Nat) (he : ws[q0]? = some (a, .inl (g.2.2.2.1, N, .inl f))) (hi : i = nI j) (hj : j < N) (hN : N < 2 ^ 31) (hd : decode cc pc = .ok (.baload, 1)) (kk : SW X g nL k n ws (pc + 1) L (.int (f j) :: st)) : SW X g nL k n ws (pc) L (.int i :: .ref a :: st) := by
  subst hi
  refine sw_zald C q0 he (vp_in_nI hj hN) hd ?_
  rw [nI_clamp (Nat.lt_trans hj hN)]
  exact kk
theorem sw_laldN (C : Cx X l g y cc nL r rm) {a N : Nat} {f : Nat → Int64} {i : Int32} (q0 j : Nat) (he : ws[q0]? = some (a, .inl (g.2.2.1, N, .inr (.inl f)))) (hi : i = nI j) (hj : j < N) (hN : N < 2 ^ 31) (hd : decode cc pc = .ok (.laload, 1)) (kk : SW X g nL k n ws (pc + 1) L (.long (f j) :: st)) : SW X g nL k n ws (pc) L (.int i :: .ref a :: st) := by
  subst hi
  refine sw_lald C q0 he (vp_in_nI hj hN) hd ?_
  rw [nI_clamp (Nat.lt_trans hj hN)]
  exact kk
theorem sw_aaldN (C : Cx X l g y cc nL r rm) {a N : Nat} {f : Nat → Option Nat} {i : Int32} (q0 j : Nat) (he : ws[q0]? = some (a, .inl (g.2.2.2.2, N, .inr (.inr (.inr (.inr f)))))) (hi : i = nI j) (hj : j < N) (hN : N < 2 ^ 31) (hd : decode cc pc = .ok (.aaload, 1)) (kk : SW X g nL k n ws (pc + 1) L (va_rf (f j) :: st)) : SW X g nL k n ws (pc) L (.int i :: .ref a :: st) := by
  subst hi
  refine sw_aald C q0 he (vp_in_nI hj hN) hd ?_
  rw [nI_clamp (Nat.lt_trans hj hN)]
  exact kk
theorem sw_iastN (C : Cx X l g y cc nL r rm) {a N : Nat} {f : Nat → Int32} {i : Int32} {x : Int32} (q0 j : Nat) (he : ws[q0]? = some (a, .inl (g.2.1, N, .inl f))) (hi : i = nI j) (hj : j < N) (hN : N < 2 ^ 31) (hd : decode cc pc = .ok (.iastore, 1)) (kk : SW X g nL k n (ws.set q0 (a, .inl (g.2.1, N, .inl (upd f j x)))) (pc + 1) L st) : SW X g nL k n ws (pc) L (.int x :: .int i :: .ref a :: st) := by
  subst hi
  refine sw_iast C q0 he (vp_in_nI hj hN) hd ?_
  rw [nI_clamp (Nat.lt_trans hj hN)]
  exact kk
theorem sw_lastN (C : Cx X l g y cc nL r rm) {a N : Nat} {f : Nat → Int64} {i : Int32} {x : Int64} (q0 j : Nat) (he : ws[q0]? = some (a, .inl (g.2.2.1, N, .inr (.inl f)))) (hi : i = nI j) (hj : j < N) (hN : N < 2 ^ 31) (hd : decode cc pc = .ok (.lastore, 1)) (kk : SW X g nL k n (ws.set q0 (a, .inl (g.2.2.1, N, .inr (.inl (vp_updL f j x))))) (pc + 1) L st) : SW X g nL k n ws (pc) L (.long x :: .int i :: .ref a :: st) := by
  subst hi
  refine sw_last C q0 he (vp_in_nI hj hN) hd ?_
  rw [nI_clamp (Nat.lt_trans hj hN)]
  exact kk
theorem sw_zastN (C : Cx X l g y cc nL r rm) {a N : Nat} {f : Nat → Int32} {i : Int32} {x : Bool} (q0 j : Nat) (he : ws[q0]? = some (a, .inl (g.2.2.2.1, N, .inl f))) (hi : i = nI j) (hj : j < N) (hN : N < 2 ^ 31) (hd : decode cc pc = .ok (.bastore, 1)) (kk : SW X g nL k n (ws.set q0 (a, .inl (g.2.2.2.1, N, .inl (upd f j (bI x))))) (pc + 1) L st) : SW X g nL k n ws (pc) L (.int (bI x) :: .int i :: .ref a :: st) := by
  subst hi
  refine sw_zast C q0 he (vp_in_nI hj hN) hd ?_
  rw [nI_clamp (Nat.lt_trans hj hN), bI_vnar]
  exact kk
theorem sw_icmp_ltN (C : Cx X l g y cc nL r rm) {a b : Nat} {off : Int} (tgt : Nat) (ha : a < 2 ^ 31) (hb : b < 2 ^ 31) (hd : decode cc pc = .ok (.if_icmp .lt off, 3)) (ht : (pc : Int) + off = (tgt : Int)) (kt : a < b → SW X g nL k n ws (tgt) L st) (kf : b ≤ a → SW X g nL k n ws (pc + 3) L st) : SW X g nL k n ws (pc) L (.int (nI b) :: .int (nI a) :: st) :=
  sw_icmp_lt C tgt hd ht (fun h => kt ((nI_ltI ha hb).mp h)) (fun h => kf (Nat.not_lt.mp (fun q => h ((nI_ltI ha hb).mpr q))))
theorem sw_icmp_geN (C : Cx X l g y cc nL r rm) {a b : Nat} {off : Int} (tgt : Nat) (ha : a < 2 ^ 31) (hb : b < 2 ^ 31) (hd : decode cc pc = .ok (.if_icmp .ge off, 3)) (ht : (pc : Int) + off = (tgt : Int)) (kt : b ≤ a → SW X g nL k n ws (tgt) L st) (kf : a < b → SW X g nL k n ws (pc + 3) L st) : SW X g nL k n ws (pc) L (.int (nI b) :: .int (nI a) :: st) :=
  sw_icmp_ge C tgt hd ht (fun h => kt ((nI_leI hb ha).mp h)) (fun h => kf (Nat.not_le.mp (fun q => h ((nI_leI hb ha).mpr q))))
theorem sw_icmp_gtN (C : Cx X l g y cc nL r rm) {a b : Nat} {off : Int} (tgt : Nat) (ha : a < 2 ^ 31) (hb : b < 2 ^ 31) (hd : decode cc pc = .ok (.if_icmp .gt off, 3)) (ht : (pc : Int) + off = (tgt : Int)) (kt : b < a → SW X g nL k n ws (tgt) L st) (kf : a ≤ b → SW X g nL k n ws (pc + 3) L st) : SW X g nL k n ws (pc) L (.int (nI b) :: .int (nI a) :: st) :=
  sw_icmp_gt C tgt hd ht (fun h => kt ((nI_ltI hb ha).mp h)) (fun h => kf (Nat.not_lt.mp (fun q => h ((nI_ltI hb ha).mpr q))))
theorem sw_icmp_leN (C : Cx X l g y cc nL r rm) {a b : Nat} {off : Int} (tgt : Nat) (ha : a < 2 ^ 31) (hb : b < 2 ^ 31) (hd : decode cc pc = .ok (.if_icmp .le off, 3)) (ht : (pc : Int) + off = (tgt : Int)) (kt : a ≤ b → SW X g nL k n ws (tgt) L st) (kf : b < a → SW X g nL k n ws (pc + 3) L st) : SW X g nL k n ws (pc) L (.int (nI b) :: .int (nI a) :: st) :=
  sw_icmp_le C tgt hd ht (fun h => kt ((nI_leI ha hb).mp h)) (fun h => kf (Nat.not_le.mp (fun q => h ((nI_leI ha hb).mpr q))))
theorem sw_icmp_eqN (C : Cx X l g y cc nL r rm) {a b : Nat} {off : Int} (tgt : Nat) (ha : a < 2 ^ 31) (hb : b < 2 ^ 31) (hd : decode cc pc = .ok (.if_icmp .eq off, 3)) (ht : (pc : Int) + off = (tgt : Int)) (kt : a = b → SW X g nL k n ws (tgt) L st) (kf : a ≠ b → SW X g nL k n ws (pc + 3) L st) : SW X g nL k n ws (pc) L (.int (nI b) :: .int (nI a) :: st) :=
  sw_icmp_eq C tgt hd ht (fun h => kt ((nI_eq ha hb).mp h)) (fun h => kf (fun q => h ((nI_eq ha hb).mpr q)))
theorem sw_icmp_neN (C : Cx X l g y cc nL r rm) {a b : Nat} {off : Int} (tgt : Nat) (ha : a < 2 ^ 31) (hb : b < 2 ^ 31) (hd : decode cc pc = .ok (.if_icmp .ne off, 3)) (ht : (pc : Int) + off = (tgt : Int)) (kt : a ≠ b → SW X g nL k n ws (tgt) L st) (kf : a = b → SW X g nL k n ws (pc + 3) L st) : SW X g nL k n ws (pc) L (.int (nI b) :: .int (nI a) :: st) :=
  sw_icmp_ne C tgt hd ht (fun h => kt (fun q => h ((nI_eq ha hb).mpr q))) (fun h => kf ((nI_eq ha hb).mp h))
theorem sw_if_eqN (C : Cx X l g y cc nL r rm) {a : Nat} {off : Int} (tgt : Nat) (ha : a < 2 ^ 31) (hd : decode cc pc = .ok (.ifCond .eq off, 3)) (ht : (pc : Int) + off = (tgt : Int)) (kt : a = 0 → SW X g nL k n ws (tgt) L st) (kf : 0 < a → SW X g nL k n ws (pc + 3) L st) : SW X g nL k n ws (pc) L (.int (nI a) :: st) :=
  sw_if_eq C tgt hd ht (fun h => kt (by have h : nI a = nI 0 := h; exact (nI_eq ha (by decide)).mp h)) (fun h => kf (by have h : ¬ nI a = nI 0 := h; exact Nat.pos_of_ne_zero (fun q => h ((nI_eq ha (by decide)).mpr q))))
theorem sw_if_neN (C : Cx X l g y cc nL r rm) {a : Nat} {off : Int} (tgt : Nat) (ha : a < 2 ^ 31) (hd : decode cc pc = .ok (.ifCond .ne off, 3)) (ht : (pc : Int) + off = (tgt : Int)) (kt : 0 < a → SW X g nL k n ws (tgt) L st) (kf : a = 0 → SW X g nL k n ws (pc + 3) L st) : SW X g nL k n ws (pc) L (.int (nI a) :: st) :=
  sw_if_ne C tgt hd ht (fun h => kt (by have h : ¬ nI a = nI 0 := h; exact Nat.pos_of_ne_zero (fun q => h ((nI_eq ha (by decide)).mpr q)))) (fun h => kf (by have h : nI a = nI 0 := h; exact (nI_eq ha (by decide)).mp h))
theorem sw_if_gtN (C : Cx X l g y cc nL r rm) {a : Nat} {off : Int} (tgt : Nat) (ha : a < 2 ^ 31) (hd : decode cc pc = .ok (.ifCond .gt off, 3)) (ht : (pc : Int) + off = (tgt : Int)) (kt : 0 < a → SW X g nL k n ws (tgt) L st) (kf : a = 0 → SW X g nL k n ws (pc + 3) L st) : SW X g nL k n ws (pc) L (.int (nI a) :: st) :=
  sw_if_gt C tgt hd ht (fun h => kt (by have h : nI 0 < nI a := h; exact (nI_ltI (by decide) ha).mp h)) (fun h => kf (by have h : ¬ nI 0 < nI a := h; exact Nat.eq_zero_of_not_pos (fun q => h ((nI_ltI (by decide) ha).mpr q))))
theorem sw_if_leN (C : Cx X l g y cc nL r rm) {a : Nat} {off : Int} (tgt : Nat) (ha : a < 2 ^ 31) (hd : decode cc pc = .ok (.ifCond .le off, 3)) (ht : (pc : Int) + off = (tgt : Int)) (kt : a = 0 → SW X g nL k n ws (tgt) L st) (kf : 0 < a → SW X g nL k n ws (pc + 3) L st) : SW X g nL k n ws (pc) L (.int (nI a) :: st) :=
  sw_if_le C tgt hd ht (fun h => kt (by have h : nI a ≤ nI 0 := h; exact Nat.le_zero.mp ((nI_leI ha (by decide)).mp h))) (fun h => kf (by have h : ¬ nI a ≤ nI 0 := h; exact Nat.not_le.mp (fun q => h ((nI_leI ha (by decide)).mpr q))))
theorem sw_if_ltN (C : Cx X l g y cc nL r rm) {a : Nat} {off : Int} (ha : a < 2 ^ 31) (tgt : Nat) (hd : decode cc pc = .ok (.ifCond .lt off, 3)) (ht : (pc : Int) + off = (tgt : Int)) (kf : SW X g nL k n ws (pc + 3) L st) : SW X g nL k n ws (pc) L (.int (nI a) :: st) :=
  sw_if_lt C tgt hd ht (fun h => absurd h (nI_pos ha)) (fun _ => kf)
theorem sw_if_geN (C : Cx X l g y cc nL r rm) {a : Nat} {off : Int} (ha : a < 2 ^ 31) (tgt : Nat) (hd : decode cc pc = .ok (.ifCond .ge off, 3)) (ht : (pc : Int) + off = (tgt : Int)) (kt : SW X g nL k n ws (tgt) L st) : SW X g nL k n ws (pc) L (.int (nI a) :: st) :=
  sw_if_ge C tgt hd ht (fun _ => kt) (fun h => absurd (nI_pos' ha) h)
theorem sw_if_eqB (C : Cx X l g y cc nL r rm) {b : Bool} {off : Int} (tgt : Nat) (hd : decode cc pc = .ok (.ifCond .eq off, 3)) (ht : (pc : Int) + off = (tgt : Int)) (kt : b = false → SW X g nL k n ws (tgt) L st) (kf : b = true → SW X g nL k n ws (pc + 3) L st) : SW X g nL k n ws (pc) L (.int (bI b) :: st) :=
  sw_if_eq C tgt hd ht (fun h => kt (bI_0.mp h)) (fun h => kf (by cases b with | true => rfl | false => exact absurd rfl h))
theorem sw_if_neB (C : Cx X l g y cc nL r rm) {b : Bool} {off : Int} (tgt : Nat) (hd : decode cc pc = .ok (.ifCond .ne off, 3)) (ht : (pc : Int) + off = (tgt : Int)) (kt : b = true → SW X g nL k n ws (tgt) L st) (kf : b = false → SW X g nL k n ws (pc + 3) L st) : SW X g nL k n ws (pc) L (.int (bI b) :: st) :=
  sw_if_ne C tgt hd ht (fun h => kt (by cases b with | true => rfl | false => exact absurd rfl h)) (fun h => kf (bI_0.mp h))
theorem sw_iincN (C : Cx X l g y cc nL r rm) {i a : Nat} {d : Int} (dv : Nat) (hd : decode cc pc = .ok (.iinc i d, 3)) (hv : L[i]? = some (some (.int (nI a)))) (hdv : Int32.ofInt d = nI dv) (hn : i < nL) (hok : okS L i = true) (kk : SW X g nL k n ws (pc + 3) (L.set i (some (.int (nI (a + dv))))) st) : SW X g nL k n ws (pc) L st := by
  refine sw_iinc C (nI dv) hd hv hdv hn hok ?_
  rw [nI_add]
  exact kk
theorem sw_idecN (C : Cx X l g y cc nL r rm) {i a : Nat} (hd : decode cc pc = .ok (.iinc i (-1), 3)) (hv : L[i]? = some (some (.int (nI a)))) (hn : i < nL) (ha : 1 ≤ a) (hok : okS L i = true) (kk : SW X g nL k n ws (pc + 3) (L.set i (some (.int (nI (a - 1))))) st) : SW X g nL k n ws (pc) L st := by
  refine sw_iinc C (-1) hd hv (by decide) hn hok ?_
  have e : nI a + (-1) = nI (a - 1) := sb_m1 ha
  rw [e]
  exact kk
end SWN
