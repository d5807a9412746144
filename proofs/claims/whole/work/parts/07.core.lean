/-! THE WORLD OF ONE RUN, in my own words. All cells that the run makes lie from the address b on, the h-th at b + h: a cell is spoken of by its handle h.
A world is (N, K, R, I, J): how many cells; of each its kind (class, or 20 + the sort of array) and length; what refs, ints and longs lie at (handle, place). -/
abbrev am_W : Type := Nat × (Nat → Nat × Nat) × (Nat → Nat → Option Nat) × (Nat → Nat → Int32) × (Nat → Nat → Int64)
/-- what stays through a run: the classes' numbers, the arrays' classes, b, where the String constants lie (1000000 and on), a static that is handed on unread -/
abbrev am_G : Type := va_G × (Nat → ClassId) × Nat × (Nat → Nat) × Value
/-- a method: name, code, how many locals, what it returns -/
abbrev am_M : Type := MethodName × ByteArray × Nat × Option FieldType
/-- where a walk stands: program, launch, env, state, method, args, frames below, its class's method, its code, what is to come -/
abbrev am_X : Type := Program × Launch × Env × State × MethodId × Array Value × List Frame × Method × Code × (State → Prop)
def am_b (G : am_G) : Nat := G.2.2.1
def am_rf (G : am_G) (h : Nat) : Nat := if h < 1000000 then am_b G + h else G.2.2.2.1 (h - 1000000)
def am_cv (G : am_G) : Value → Value
  | .ref h => .ref (am_rf G h)
  | v => v
theorem am_cat (G : am_G) (v : Value) : (am_cv G v).category = v.category := by cases v <;> rfl
def am_ty : Nat → Nat → FieldType := fun c k => match c with
  | 0 => tyX0 k
  | 1 => tyX1 k
  | 2 => tyX2 k
  | 3 => tyX3 k
  | 4 => tyX4 k
  | 5 => tyX5 k
  | 6 => tyX6 k
  | 7 => tyX7 k
  | 8 => tyX8 k
  | 9 => tyX9 k
  | 10 => tyX10 k
  | 11 => tyX11 k
  | 20 => .int
  | 21 => .long
  | 22 => .byte
  | 23 => .boolean
  | 24 => .object "VectorWays$Parts"
  | _ => .object "VectorWays$Sheet"
def am_val (G : am_G) (w : am_W) (t : FieldType) (h k : Nat) : Value := match t with
  | .long => .long (w.2.2.2.2 h k)
  | .object _ => va_rf ((w.2.2.1 h k).map (am_rf G))
  | .array _ => va_rf ((w.2.2.1 h k).map (am_rf G))
  | _ => .int (w.2.2.2.1 h k)
def am_nf : Nat → Nat := fun c => (vwCl.getD c ("", TX0, 0)).2.2
def am_cell (G : am_G) (w : am_W) (H : Heap) (h : Nat) : Prop :=
  if (w.2.1 h).1 < 20 then t_OB (am_b G + h) (G.1.1 (w.2.1 h).1) (am_nf (w.2.1 h).1) (G.1.2 (w.2.1 h).1) H (fun k => am_val G w (am_ty (w.2.1 h).1 k) h k)
  else H[am_b G + h]? = some (arrV (G.2.1 ((w.2.1 h).1 - 20)) (w.2.1 h).2 (fun k => am_val G w (am_ty (w.2.1 h).1 k) h k))
def am_H (G : am_G) (w : am_W) (H : Heap) : Prop := H.size = am_b G + w.1 ∧ w.1 ≤ 1000000 ∧ ∀ h, h < w.1 → am_cell G w H h
def am_L (G : am_G) (ls : Array Slot) (nL : Nat) (L : List (Option Value)) : Prop := ls.size = nL ∧ lv_wf ls ∧ ∀ (j : Nat) (v : Value), L[j]? = some (some v) → ls[j]? = some (.val (am_cv G v))
/-- which cells may change -/
def am_F (G : am_G) : Nat → Prop := fun q => am_b G ≤ q
abbrev am_s (X : am_X) : State := X.2.2.2.1
/-- from here, with these locals, stack and world, the machine comes to what is to come -/
def am_A (G : am_G) (M : am_M) (X : am_X) (R : Room) (pc : Nat) (L : List (Option Value)) (st : List Value) (w : am_W) (c n : Nat) : Prop :=
  ∀ (H : Heap) (locs : List Loc) (ls : Array Slot), am_H G w H → am_L G ls M.2.2.1 L → va_S (am_F G) (am_s X).heap H locs →
    W X.1 X.2.1 X.2.2.1 R X.2.2.2.1 X.2.2.2.2.1 X.2.2.2.2.2.1 X.2.2.2.2.2.2.1 X.2.2.2.2.2.2.2.1 X.2.2.2.2.2.2.2.2.1 H locs c n X.2.2.2.2.2.2.2.2.2 (F0 X.2.2.2.2.1 pc ls (st.map (am_cv G)))
/-- the words that hold wherever a method of this claim begins -/
def am_ws : List Cond := lw_tbl.filter goodWord
def am_nest : List Cond := tables_1.filter (fun w => match w with | .fieldLinkNest _ _ _ _ _ _ => true | .methodLinkNest _ _ _ _ => true | _ => false)
def am_tys (G : am_G) : List (ClassId × FieldType) := [(G.2.1 0, .int), (G.2.1 1, .long), (G.2.1 2, .byte), (G.2.1 3, .boolean), (G.2.1 4, .object "VectorWays$Parts"), (G.2.1 5, .object "VectorWays$Sheet")]
/-- the String constants: how long, which bytes -/
def am_len : List Nat := [3, 3, 1, 4, 5, 2, 2, 3, 2, 1]
def am_byt : List (List Int32) := [[110, 111, 116], [97, 110, 121], [40], [109, 111, 115, 116], [108, 101, 97, 115, 116], [98, 121], [105, 115], [97, 110, 100], [111, 114], [41]]
def am_sk : List (Nat × String) := [(80, "not"), (89, "any"), (94, "("), (99, "most"), (101, "least"), (103, "by"), (105, "is"), (111, "and"), (113, "or"), (115, ")")]
def am_E (G : am_G) (U : State) : Prop := va_K G.1 vwCl (am_tys G) U ∧ (∀ w ∈ am_nest, va_Nw w U) ∧ va_AO "VectorWays$Parts" U ∧ va_AO "VectorWays$Sheet" U ∧ vk_S 10 am_len am_byt (fun i => G.2.2.2.1 i) (fun i => G.2.2.2.1 (10 + i)) (am_F G) U U.heap ∧ (∀ i q, am_sk[i]? = some q → vk_R "VectorWays$RuleReader" q.1 q.2 (G.2.2.2.1 i) U) ∧ va_Z "java/lang/String" "COMPACT_STRINGS" "Z" (.int 1) (am_F G) U U.heap ∧ va_Z "jdk/internal/util/Preconditions" "SIOOBE_FORMATTER" "Ljava/util/function/BiFunction;" (am_cv G G.2.2.2.2) (am_F G) U U.heap ∧ (G.2.2.2.2 = .null ∨ G.2.2.2.2 = .ref 1000020)
/-- what is so throughout a walk of method M -/
def am_C (G : am_G) (M : am_M) (X : am_X) : Prop := X.1.tables.exec = Jvm.exec ∧ X.2.2.2.2.2.2.2.2.1.code = M.2.1 ∧ X.2.2.2.2.2.2.2.1.sig.returnType = M.2.2.2 ∧ X.2.2.2.2.2.2.2.2.1.maxLocals = M.2.2.1 ∧ (am_s X).vm.findClass M.1.cls = some X.2.2.2.2.1.cls ∧ (∀ w ∈ am_ws, w.before X.2.2.2.2.2.1 (am_s X) = true) ∧ X.2.2.2.2.2.2.2.1.locks = false ∧ am_E G (am_s X) ∧ am_b G ≤ (am_s X).heap.size ∧ (M.1.name = "<init>" → X.2.2.2.2.2.2.2.1.name = "<init>")
/-- one value of one slot, one of two slots, is stored -/
def am_st1 (L : List (Option Value)) (i : Nat) (v : Value) : List (Option Value) := match i with
  | 0 => L.set 0 (some v)
  | j + 1 => match L[j]? with
    | some (some (.long _)) => (L.set (j + 1) (some v)).set j none
    | _ => L.set (j + 1) (some v)
def am_st2 (L : List (Option Value)) (i : Nat) (v : Value) : List (Option Value) := (am_st1 L i v).set (i + 1) none
/-- all locals as the kit lists them -/
def am_lv (G : am_G) (L : List (Option Value)) : List (Nat × Value) := (List.range L.length).filterMap (fun j => match L[j]? with | some (some v) => some (j, am_cv G v) | _ => none)
theorem am_lv_mem {G : am_G} {L : List (Option Value)} {q : Nat × Value} (h : q ∈ am_lv G L) : ∃ v, L[q.1]? = some (some v) ∧ q.2 = am_cv G v := by
  obtain ⟨j, -, hj⟩ := List.mem_filterMap.mp h
  split at hj
  next v hv => cases hj; exact ⟨v, hv, rfl⟩
  next => cases hj
theorem am_lv_of {G : am_G} {L : List (Option Value)} {j : Nat} {v : Value} (h : L[j]? = some (some v)) : (j, am_cv G v) ∈ am_lv G L := by
  refine List.mem_filterMap.mpr ⟨j, List.mem_range.mpr (List.getElem?_eq_some_iff.mp h).1, ?_⟩
  rw [h]
theorem am_L.has {G : am_G} {ls : Array Slot} {nL : Nat} {L : List (Option Value)} (h : am_L G ls nL L) : lv_has ls nL (am_lv G L) := by
  refine ⟨h.1, h.2.1, fun q hq => ?_⟩
  obtain ⟨v, h1, h2⟩ := am_lv_mem hq
  rw [h2]
  exact h.2.2 _ _ h1
theorem am_L.of {G : am_G} {ls : Array Slot} {nL : Nat} {L : List (Option Value)} {l : List (Nat × Value)} (h : lv_has ls nL l) (hl : ∀ (j : Nat) (v : Value), L[j]? = some (some v) → (j, am_cv G v) ∈ l) : am_L G ls nL L :=
  ⟨h.1, h.2.1, fun j v hj => h.2.2 _ (hl j v hj)⟩
theorem am_st1_get {L : List (Option Value)} {i j : Nat} {v x : Value} (h : (am_st1 L i v)[j]? = some (some x)) : (j = i ∧ x = v) ∨ (j ≠ i ∧ L[j]? = some (some x) ∧ ¬ (j + 1 = i ∧ ∃ y, x = .long y)) := by
  unfold am_st1 at h
  split at h
  · rw [List.getElem?_set] at h
    by_cases hj : 0 = j
    · rw [if_pos hj] at h
      split at h
      · cases h; exact Or.inl ⟨hj.symm, rfl⟩
      · cases h
    · rw [if_neg hj] at h
      exact Or.inr ⟨fun e => hj e.symm, h, fun e => by omega⟩
  next k =>
    split at h
    next y hy =>
      rw [List.getElem?_set] at h
      by_cases hk : k = j
      · rw [if_pos hk] at h
        split at h
        · cases h
        · cases h
      · rw [if_neg hk, List.getElem?_set] at h
        by_cases hj : k + 1 = j
        · rw [if_pos hj] at h
          split at h
          · cases h; exact Or.inl ⟨hj.symm, rfl⟩
          · cases h
        · rw [if_neg hj] at h
          exact Or.inr ⟨fun e => hj e.symm, h, fun e => hk (by omega)⟩
    next hno =>
      rw [List.getElem?_set] at h
      by_cases hj : k + 1 = j
      · rw [if_pos hj] at h
        split at h
        · cases h; exact Or.inl ⟨hj.symm, rfl⟩
        · cases h
      · rw [if_neg hj] at h
        refine Or.inr ⟨fun e => hj e.symm, h, fun e => ?_⟩
        obtain ⟨e1, y, rfl⟩ := e
        have : j = k := by omega
        subst this
        exact hno y h
theorem am_L.st1 {G : am_G} {nL i : Nat} {v : Value} {L : List (Option Value)} {ls' : Array Slot} (hc : v.category = 1) (hx : ∀ (j : Nat) (x : Value), L[j]? = some (some x) → x.category = 2 → ∃ y, x = .long y)
    (h : lv_has ls' nL ((i, am_cv G v) :: (am_lv G L).filter (fun q => !(q.1 == i) && !(q.1 + 1 == i && q.2.category == 2)))) : am_L G ls' nL (am_st1 L i v) := by
  refine am_L.of h fun j x hj => ?_
  rcases am_st1_get hj with ⟨rfl, rfl⟩ | ⟨h1, h2, h3⟩
  · exact List.mem_cons_self
  · refine List.mem_cons_of_mem _ (List.mem_filter.mpr ⟨am_lv_of h2, ?_⟩)
    have h4 : ¬ (j + 1 = i ∧ x.category = 2) := fun e => h3 ⟨e.1, hx j x h2 e.2⟩
    simp only [am_cat, Bool.and_eq_true, Bool.not_eq_true', beq_eq_false_iff_ne, ne_eq, Bool.and_eq_false_iff]
    refine ⟨h1, ?_⟩
    by_cases e : j + 1 = i
    · exact Or.inr fun e2 => h4 ⟨e, e2⟩
    · exact Or.inl e
theorem am_L.st2 {G : am_G} {nL i : Nat} {v : Value} {L : List (Option Value)} {ls' : Array Slot} (hx : ∀ (j : Nat) (x : Value), L[j]? = some (some x) → x.category = 2 → ∃ y, x = .long y)
    (h : lv_has ls' nL ((i, am_cv G v) :: (am_lv G L).filter (fun q => !(q.1 == i) && (!(q.1 == i + 1) && !(q.1 + 1 == i && q.2.category == 2))))) : am_L G ls' nL (am_st2 L i v) := by
  refine am_L.of h fun j x hj => ?_
  unfold am_st2 at hj
  rw [List.getElem?_set] at hj
  by_cases hi : i + 1 = j
  · rw [if_pos hi] at hj
    split at hj
    · cases hj
    · cases hj
  · rw [if_neg hi] at hj
    rcases am_st1_get hj with ⟨rfl, rfl⟩ | ⟨h1, h2, h3⟩
    · exact List.mem_cons_self
    · refine List.mem_cons_of_mem _ (List.mem_filter.mpr ⟨am_lv_of h2, ?_⟩)
      have h4 : ¬ (j + 1 = i ∧ x.category = 2) := fun e => h3 ⟨e.1, hx j x h2 e.2⟩
      simp only [am_cat, Bool.and_eq_true, Bool.not_eq_true', beq_eq_false_iff_ne, ne_eq, Bool.and_eq_false_iff]
      refine ⟨h1, fun e => hi e.symm, ?_⟩
      by_cases e : j + 1 = i
      · exact Or.inr fun e2 => h4 ⟨e, e2⟩
      · exact Or.inl e
/-- locals hold no doubles here -/
def am_nd (L : List (Option Value)) : Bool := L.all (fun x => match x with | some (.double _) => false | _ => true)
theorem am_nd_ok {L : List (Option Value)} (h : am_nd L = true) : ∀ (j : Nat) (x : Value), L[j]? = some (some x) → x.category = 2 → ∃ y, x = .long y := by
  intro j x hj hc
  have h1 := List.all_eq_true.mp h _ (List.mem_of_getElem? hj)
  cases x <;> first | exact ⟨_, rfl⟩ | (simp [Value.category] at hc; done) | (simp at h1; done)
section AM
variable {G : am_G} {M : am_M} {X : am_X} {R : Room} {pc q : Nat} {L : List (Option Value)} {st : List Value} {w : am_W} {c n : Nat}
theorem am_widen {c' n' : Nat} (h1 : c ≤ c') (h2 : n ≤ n') (k : am_A G M X R pc L st w c' n') : am_A G M X R pc L st w c n := fun H locs ls hH hL hS => W.widen h1 h2 (k H locs ls hH hL hS)
theorem am_eq {st' : List Value} {w' : am_W} (h1 : st = st') (h2 : w = w') (k : am_A G M X R pc L st' w' c n) : am_A G M X R pc L st w c n := by
  subst h1; subst h2; exact k
theorem am_iadd {x y : Int32} (C : am_C G M X) (hd : decode M.2.1 pc = .ok (.iadd, 1)) (hq : pc + 1 = q) (k : am_A G M X R q L (.int (x + y) :: st) w c n) : am_A G M X R pc L (.int y :: .int x :: st) w c n := by
  subst hq
  exact fun H locs ls hH hL hS => lv_iadd C.1 C.2.1 hd (k H locs ls hH hL hS)
theorem am_isub {x y : Int32} (C : am_C G M X) (hd : decode M.2.1 pc = .ok (.isub, 1)) (hq : pc + 1 = q) (k : am_A G M X R q L (.int (x - y) :: st) w c n) : am_A G M X R pc L (.int y :: .int x :: st) w c n := by
  subst hq
  exact fun H locs ls hH hL hS => lv_isub C.1 C.2.1 hd (k H locs ls hH hL hS)
theorem am_imul {x y : Int32} (C : am_C G M X) (hd : decode M.2.1 pc = .ok (.imul, 1)) (hq : pc + 1 = q) (k : am_A G M X R q L (.int (x * y) :: st) w c n) : am_A G M X R pc L (.int y :: .int x :: st) w c n := by
  subst hq
  exact fun H locs ls hH hL hS => lv_imul C.1 C.2.1 hd (k H locs ls hH hL hS)
theorem am_iand {x y : Int32} (C : am_C G M X) (hd : decode M.2.1 pc = .ok (.iand, 1)) (hq : pc + 1 = q) (k : am_A G M X R q L (.int (x &&& y) :: st) w c n) : am_A G M X R pc L (.int y :: .int x :: st) w c n := by
  subst hq
  exact fun H locs ls hH hL hS => lv_iand C.1 C.2.1 hd (k H locs ls hH hL hS)
theorem am_ior {x y : Int32} (C : am_C G M X) (hd : decode M.2.1 pc = .ok (.ior, 1)) (hq : pc + 1 = q) (k : am_A G M X R q L (.int (x ||| y) :: st) w c n) : am_A G M X R pc L (.int y :: .int x :: st) w c n := by
  subst hq
  exact fun H locs ls hH hL hS => lv_ior C.1 C.2.1 hd (k H locs ls hH hL hS)
theorem am_ixor {x y : Int32} (C : am_C G M X) (hd : decode M.2.1 pc = .ok (.ixor, 1)) (hq : pc + 1 = q) (k : am_A G M X R q L (.int (x ^^^ y) :: st) w c n) : am_A G M X R pc L (.int y :: .int x :: st) w c n := by
  subst hq
  exact fun H locs ls hH hL hS => lv_ixor C.1 C.2.1 hd (k H locs ls hH hL hS)
theorem am_ladd {x y : Int64} (C : am_C G M X) (hd : decode M.2.1 pc = .ok (.ladd, 1)) (hq : pc + 1 = q) (k : am_A G M X R q L (.long (x + y) :: st) w c n) : am_A G M X R pc L (.long y :: .long x :: st) w c n := by
  subst hq
  exact fun H locs ls hH hL hS => lv_ladd C.1 C.2.1 hd (k H locs ls hH hL hS)
theorem am_lsub {x y : Int64} (C : am_C G M X) (hd : decode M.2.1 pc = .ok (.lsub, 1)) (hq : pc + 1 = q) (k : am_A G M X R q L (.long (x - y) :: st) w c n) : am_A G M X R pc L (.long y :: .long x :: st) w c n := by
  subst hq
  exact fun H locs ls hH hL hS => lv_lsub C.1 C.2.1 hd (k H locs ls hH hL hS)
theorem am_lmul {x y : Int64} (C : am_C G M X) (hd : decode M.2.1 pc = .ok (.lmul, 1)) (hq : pc + 1 = q) (k : am_A G M X R q L (.long (x * y) :: st) w c n) : am_A G M X R pc L (.long y :: .long x :: st) w c n := by
  subst hq
  exact fun H locs ls hH hL hS => lv_lmul C.1 C.2.1 hd (k H locs ls hH hL hS)
theorem am_land {x y : Int64} (C : am_C G M X) (hd : decode M.2.1 pc = .ok (.land, 1)) (hq : pc + 1 = q) (k : am_A G M X R q L (.long (x &&& y) :: st) w c n) : am_A G M X R pc L (.long y :: .long x :: st) w c n := by
  subst hq
  exact fun H locs ls hH hL hS => lv_land C.1 C.2.1 hd (k H locs ls hH hL hS)
theorem am_lor {x y : Int64} (C : am_C G M X) (hd : decode M.2.1 pc = .ok (.lor, 1)) (hq : pc + 1 = q) (k : am_A G M X R q L (.long (x ||| y) :: st) w c n) : am_A G M X R pc L (.long y :: .long x :: st) w c n := by
  subst hq
  exact fun H locs ls hH hL hS => lv_lor C.1 C.2.1 hd (k H locs ls hH hL hS)
theorem am_lxor {x y : Int64} (C : am_C G M X) (hd : decode M.2.1 pc = .ok (.lxor, 1)) (hq : pc + 1 = q) (k : am_A G M X R q L (.long (x ^^^ y) :: st) w c n) : am_A G M X R pc L (.long y :: .long x :: st) w c n := by
  subst hq
  exact fun H locs ls hH hL hS => lv_lxor C.1 C.2.1 hd (k H locs ls hH hL hS)
end AM
