/-! what stays so while the machine runs on -/
theorem am_nest_warm {s U : State} (hW : s.WarmedH U.vm) {w : Cond} (hw : w ∈ am_nest) (h : va_Nw w s) : va_Nw w U := by
  obtain ⟨-, h2⟩ := List.mem_filter.mp hw
  split at h2
  · exact va_Nw.warmF hW h
  · exact va_Nw.warmM hW h
  · cases h2
theorem am_nest_same {s U : State} (hv : s.vm = U.vm) {w : Cond} (hw : w ∈ am_nest) (h : va_Nw w s) : va_Nw w U := by
  obtain ⟨-, h2⟩ := List.mem_filter.mp hw
  split at h2
  · exact va_Nw.same rfl hv h
  · exact va_Nw.same rfl hv h
  · cases h2
theorem am_E.on {G : am_G} {s U : State} {H : Heap} {locs : List Loc} (h : am_E G s) (hS : va_S (am_F G) s.heap H locs) (hU : U.heap = H) (hW : s.WarmedH U.vm) : am_E G U := by
  obtain ⟨h1, h2, h3, h4, h5, h6, h7, h8, h9⟩ := h
  have hA := hW.alike
  subst hU
  exact ⟨va_K.moved hA h1, fun w hw => am_nest_warm hW hw (h2 w hw), h3.moved hA, h4.moved hA, (vk_S.moved hA h5).kept hS.2.1, fun i q hq => (h6 i q hq).warm hW, (va_Z.moved hA h7).kept hS.2.1, (va_Z.moved hA h8).kept hS.2.1, h9⟩
theorem am_E.calling {G : am_G} {U : State} {g : JFrame} {mk : MethodId} {a : Array Value} (h : am_E G U) : am_E G (U.calling g mk a) := by
  obtain ⟨h1, h2, h3, h4, h5, h6, h7, h8, h9⟩ := h
  have hv : U.vm = (U.calling g mk a).vm := rfl
  have hA : U.vm.Alike (U.calling g mk a).vm := Vm.Alike.refl U.vm
  exact ⟨va_K.moved hA h1, fun w hw => am_nest_same hv hw (h2 w hw), h3.moved hA, h4.moved hA, vk_S.moved hA h5, fun i q hq => (h6 i q hq).same hv.symm, va_Z.moved hA h7, va_Z.moved hA h8, h9⟩
/-! a method, spoken of in the world's words: d: how many calls may stand open in it; mc, ms: cells and slots that it makes -/
def am_rm (d mc ms : Nat) : Room := { frames := d, cells := mc, slots := ms, locals := 64 * d }
def am_Qc (G : am_G) (Q : Option Value → am_W → Prop) : Array Value → State → Outcome → State → Prop := fun _ st oc t => (∃ (r : Option Value) (w : am_W), oc = .returned (r.map (am_cv G)) ∧ Q r w ∧ am_H G w t.heap) ∧ va_F (am_F G) st t
def am_S (G : am_G) (M : am_M) (d mc ms : Nat) (av : List Value) (w : am_W) (Q : Option Value → am_W → Prop) : Prop :=
  ∀ l : Launch, Met l M.1 (Cond.code M.1 M.2.1 M.2.2.1 M.2.2.2 :: am_ws) (am_rm d mc ms) (va_Pc (av.map (am_cv G)) (fun U => am_H G w U.heap ∧ am_E G U)) (am_Qc G Q) mc ms (am_F G)
/-- a walk of a method's body: what is to come is its own return -/
def am_T (G : am_G) (X : am_X) (Q : Option Value → am_W → Prop) (mc ms : Nat) : Prop := X.2.2.2.2.2.2.2.2.2 = MQ X.2.2.2.2.2.2.1 (am_Qc G Q) X.2.2.2.2.2.1 X.2.2.2.1 mc ms (am_F G)
theorem am_args_cv (G : am_G) : ∀ (i : Nat) (av : List Value), lv_args i (av.map (am_cv G)) = (lv_args i av).map (fun q => (q.1, am_cv G q.2))
  | _, [] => rfl
  | i, v :: vs => by
    simp only [List.map_cons, lv_args, am_cat]
    rw [am_args_cv]
theorem am_sl_len (G : am_G) (av : List Value) : (lg_sl (av.map (am_cv G))).length = (lg_sl av).length := by
  induction av with
  | nil => rfl
  | cons v vs ih =>
    simp only [lg_sl, List.map_cons, List.flatMap_cons, List.length_append, am_cat] at ih ⊢
    rw [ih]
    by_cases h : v.category = 2 <;> simp [h]
/-- the locals with which a method begins -/
def am_en (i : Nat) (l : List (Nat × Value)) : Option Value := (l.find? (fun q => q.1 == i)).map (fun q => q.2)
/-- a contract out of a walk of the body, of a method for which no native stands in -/
theorem am_met {l : Launch} {y : MethodName} {ws ws' : List Cond} {rm : Room} {Pc : Array Value → State → Prop} {Qc : Array Value → State → Outcome → State → Prop} {mc ms : Nat} {free : Addr → Prop} {cc : ByteArray} {maxL : Nat} {ret : Option FieldType} (hy : plainFor y = true) (hw : ws = Cond.code y cc maxL ret :: ws')
    (body : ∀ p e s m args below meth c s₁, BodyLoose p l y (headSpec ws rm) cc maxL ret e s m args below meth c s₁ → c.maxLocals = maxL → Pc args s → W p l e (headSpec ws rm).room s m args below meth c s.heap [] 0 0 (MQ below Qc args s mc ms free) (entryFrame m args maxL)) : Met l y ws rm Pc Qc mc ms free := by
  refine MetFree.of_bodySF (code := cc) (maxLocals := maxL) (ret := ret) hy (fun args s m h hn => ?_) (fun p e s m args below meth c s₁ B hml hP _ => ?_)
  · obtain ⟨meth, c, h1, h2, h3, h4, h5, h6, -, -⟩ := Cond.code_spec hn (atoms_spec (ws := ws) h _ (by rw [hw]; exact List.mem_cons_self))
    exact ⟨meth, c, h1, h2, h3, h4, h5, h6⟩
  · obtain ⟨t, a1, o, b1, b2, b3⟩ := body p e s m args below meth c s₁ B hml hP s₁ (by rw [B.state]; rfl) (Stand.of_body B)
    exact ⟨t, o, a1, b1, b2, b3.1, b3.2⟩
theorem am_spec {G : am_G} {M : am_M} {d mc ms : Nat} {av : List Value} {w : am_W} {Q : Option Value → am_W → Prop} {L : List (Option Value)} (hy : plainFor M.1 = true) (hn : (lg_sl av).length ≤ M.2.2.1) (hL : L = (List.range M.2.2.1).map (fun i => am_en i (lv_args 0 av)))
    (body : ∀ X : am_X, am_C G M X → am_T G X Q mc ms → am_A G M X (am_rm d mc ms) 0 L [] w 0 0) : am_S G M d mc ms av w Q := by
  intro l
  refine am_met (cc := M.2.1) (maxL := M.2.2.1) (ret := M.2.2.2) hy rfl ?_
  intro p e s m args below meth c s₁ B hml hv
  obtain ⟨rfl, hH, hE⟩ := hv
  have hts := atoms_spec (ws := Cond.code M.1 M.2.1 M.2.2.1 M.2.2.2 :: am_ws) B.pre
  have hown : s.vm.findClass M.1.cls = some m.cls := findClass_of_methodNamed B.named
  rw [lg_entry_eq]
  refine body (p, l, e, s, m, (av.map (am_cv G)).toArray, below, meth, c, MQ below (am_Qc G Q) (av.map (am_cv G)).toArray s mc ms (am_F G)) ⟨B.exec, B.bytes, B.returns, hml, hown, fun w hw => hts w (List.mem_cons_of_mem _ hw), B.notSynchronized, hE, by show am_b G ≤ s.heap.size; rw [hH.1]; omega, fun h => (name_of_methodNamed B.named B.method).1.trans h⟩ rfl s.heap [] _ hH ?_ va_S.rf
  have h1 := lv_entry (av.map (am_cv G)) (n := M.2.2.1) (by rw [am_sl_len]; exact hn)
  refine am_L.of h1 fun j v hj => ?_
  rw [hL, List.getElem?_map] at hj
  have hj2 : am_en j (lv_args 0 av) = some v := by
    cases hr : (List.range M.2.2.1)[j]? with
    | none => rw [hr] at hj; cases hj
    | some i =>
      rw [hr] at hj
      have := List.getElem?_range (n := M.2.2.1) (i := j)
      obtain ⟨hlt, hji⟩ := List.getElem?_eq_some_iff.mp hr
      rw [List.getElem_range] at hji
      subst hji
      exact Option.some.inj hj
  rw [am_args_cv]
  unfold am_en at hj2
  cases hf : (lv_args 0 av).find? (fun q => q.1 == j) with
  | none => rw [hf] at hj2; cases hj2
  | some q =>
    rw [hf] at hj2
    have h2 := List.find?_some hf
    have h3 : q.1 = j := by simpa using h2
    have h4 : q.2 = v := Option.some.inj hj2
    refine List.mem_map.mpr ⟨q, List.mem_of_find?_eq_some hf, ?_⟩
    rw [h3, h4]
section AM
variable {G : am_G} {M : am_M} {X : am_X} {R : Room} {pc q : Nat} {L : List (Option Value)} {st : List Value} {w : am_W} {c n mc ms : Nat} {Q : Option Value → am_W → Prop}
theorem am_locs {H : Heap} {locs : List Loc} (hS : va_S (am_F G) (am_s X).heap H locs) : ∀ q ∈ locs, am_F G q.base := hS.2.2
theorem am_vret (C : am_C G M X) (T : am_T G X Q mc ms) (hd : decode M.2.1 pc = .ok (.return_, 1)) (hr : M.2.2.2 = none) (hc : c ≤ mc) (hn : n ≤ ms) (hQ : Q none w) : am_A G M X R pc L [] w c n := by
  refine am_widen hc hn fun H locs ls hH hL hS => ?_
  rw [T]
  exact W.vret C.1 C.2.1 (C.2.2.1.trans hr) (fun t ht hW => ⟨⟨none, w, rfl, hQ, by rw [ht]; exact hH⟩, hS.F ht⟩) hS.2.2 hd C.2.2.2.2.2.2.1
theorem am_iret {x : Int32} (C : am_C G M X) (T : am_T G X Q mc ms) (hd : decode M.2.1 pc = .ok (.ireturn, 1)) (hr : M.2.2.2 = some .int) (hc : c ≤ mc) (hn : n ≤ ms) (hQ : Q (some (.int x)) w) : am_A G M X R pc L [.int x] w c n := by
  refine am_widen hc hn fun H locs ls hH hL hS => ?_
  rw [T]
  exact W.iret C.1 C.2.1 (C.2.2.1.trans hr) (fun t ht hW => ⟨⟨some (.int x), w, rfl, hQ, by rw [ht]; exact hH⟩, hS.F ht⟩) hS.2.2 hd C.2.2.2.2.2.2.1
theorem am_zret {x : Int32} {ty : FieldType} (C : am_C G M X) (T : am_T G X Q mc ms) (hd : decode M.2.1 pc = .ok (.ireturn, 1)) (hr : M.2.2.2 = some ty) (hx : narrow ty (.int x) = .int x) (hc : c ≤ mc) (hn : n ≤ ms) (hQ : Q (some (.int x)) w) : am_A G M X R pc L [.int x] w c n := by
  refine am_widen hc hn fun H locs ls hH hL hS => ?_
  rw [T]
  exact W.zret C.1 C.2.1 (C.2.2.1.trans hr) hx (fun t ht hW => ⟨⟨some (.int x), w, rfl, hQ, by rw [ht]; exact hH⟩, hS.F ht⟩) hS.2.2 hd C.2.2.2.2.2.2.1
theorem am_lret {x : Int64} (C : am_C G M X) (T : am_T G X Q mc ms) (hd : decode M.2.1 pc = .ok (.lreturn, 1)) (hr : M.2.2.2 = some .long) (hc : c ≤ mc) (hn : n ≤ ms) (hQ : Q (some (.long x)) w) : am_A G M X R pc L [.long x] w c n := by
  refine am_widen hc hn fun H locs ls hH hL hS => ?_
  rw [T]
  exact W.lret C.1 C.2.1 (C.2.2.1.trans hr) (fun t ht hW => ⟨⟨some (.long x), w, rfl, hQ, by rw [ht]; exact hH⟩, hS.F ht⟩) hS.2.2 hd C.2.2.2.2.2.2.1
theorem am_aret {x : Option Nat} {ty : FieldType} (C : am_C G M X) (T : am_T G X Q mc ms) (hd : decode M.2.1 pc = .ok (.areturn, 1)) (hr : M.2.2.2 = some ty) (hx : (∃ n, ty = .object n) ∨ ∃ t, ty = .array t) (hc : c ≤ mc) (hn : n ≤ ms) (hQ : Q (some (va_rf x)) w) : am_A G M X R pc L [va_rf x] w c n := by
  refine am_widen hc hn fun H locs ls hH hL hS => ?_
  rw [T]
  have e : ([va_rf x].map (am_cv G)) = [am_cv G (va_rf x)] := rfl
  rw [e]
  exact W.aret C.1 C.2.1 (C.2.2.1.trans hr) hx (by cases x with
    | none => exact Or.inl rfl
    | some y => exact Or.inr ⟨_, rfl⟩) (fun t ht hW => ⟨⟨some (va_rf x), w, rfl, hQ, by rw [ht]; exact hH⟩, hS.F ht⟩) hS.2.2 hd C.2.2.2.2.2.2.1
/-- a method, all that a call needs of it: its code, its class, how many arguments -/
def am_MB (M : am_M) (na : Nat) : Prop := Cond.code M.1 M.2.1 M.2.2.1 M.2.2.2 ∈ am_ws ∧ Cond.initialized M.1.cls ∈ am_ws ∧ (M.1.cls ≠ "java/lang/invoke/MethodHandle" ∧ M.1.cls ≠ "java/lang/invoke/VarHandle" ∧ (parseMethodDescriptor M.1.desc).map (fun d => d.parameters.length) = some na) ∧ M.2.2.1 ≤ 44 ∧ (∀ w ∈ Cond.code M.1 M.2.1 M.2.2.1 M.2.2.2 :: am_ws, goodWord w = true)
theorem am_good (M : am_M) (h : goodWord (Cond.code M.1 M.2.1 M.2.2.1 M.2.2.2) = true) : ∀ w ∈ Cond.code M.1 M.2.1 M.2.2.1 M.2.2.2 :: am_ws, goodWord w = true := fun w hw => (List.mem_cons.mp hw).elim (fun e => by rw [e]; exact h) (fun h => (List.mem_filter.mp h).2)
theorem am_gin {M' : am_M} {na : Nat} (B : am_MB M' na) : GoodIn am_ws (Cond.code M'.1 M'.2.1 M'.2.2.1 M'.2.2.2 :: am_ws) := fun w hw => ⟨(List.mem_cons.mp hw).elim (fun e => by rw [e]; exact B.1) (fun h => h), good_of_word (B.2.2.2.2 w hw)⟩
theorem am_blind {av : List Value} : FrameBlind (va_Pc (av.map (am_cv G)) (fun U => am_H G w U.heap ∧ am_E G U)) := fun a U g mk h => ⟨h.1, h.2.1, h.2.2.calling⟩
theorem am_pre {av : List Value} (C : am_C G M X) {H : Heap} {locs : List Loc} (hH : am_H G w H) (hS : va_S (am_F G) (am_s X).heap H locs) (U : State) (hU : U.heap = H) (hW : (am_s X).WarmedH U.vm) : va_Pc (av.map (am_cv G)) (fun U => am_H G w U.heap ∧ am_E G U) (av.map (am_cv G)).toArray U := ⟨rfl, by rw [hU]; exact hH, C.2.2.2.2.2.2.2.1.on hS hU hW⟩
/-- behind a call -/
theorem am_back {H : Heap} {locs : List Loc} {ls : Array Slot} {rest : List Value} {a : Array Value} {st0 : List Value} (hr : va_Run X.1 X.2.1 X.2.2.1 R X.2.2.2.1 X.2.2.2.2.1 X.2.2.2.2.2.1 X.2.2.2.2.2.2.1 X.2.2.2.2.2.2.2.1 X.2.2.2.2.2.2.2.2.1 H locs c n mc ms (F0 X.2.2.2.2.1 pc ls st0) (rest.map (am_cv G)) (am_Qc G Q a) (am_F G)) (hL : am_L G ls M.2.2.1 L) (hS : va_S (am_F G) (am_s X).heap H locs)
    (kk : ∀ (r : Option Value) (w' : am_W), Q r w' → am_A G M X R (pc + 3) L (r.toList ++ rest) w' (c + mc) (n + ms)) : W X.1 X.2.1 X.2.2.1 R X.2.2.2.1 X.2.2.2.2.1 X.2.2.2.2.2.1 X.2.2.2.2.2.2.1 X.2.2.2.2.2.2.2.1 X.2.2.2.2.2.2.2.2.1 H locs c n X.2.2.2.2.2.2.2.2.2 (F0 X.2.2.2.2.1 pc ls st0) := by
  intro T hT Y
  obtain ⟨v, st₀, t, T', Lx, h0, Y', hLx, e1, e2, ⟨⟨r, w', hv, hq, hH1⟩, hz, hk⟩, go⟩ := hr T hT Y
  cases hv
  rw [h0] at hz hk
  have hS2 : va_S (am_F G) (am_s X).heap t.heap (locs ++ Lx) := ⟨Nat.le_trans hS.1 hz, fun q h1 h2 => by rw [hk q (Nat.lt_of_lt_of_le h1 hS.1) h2]; exact hS.2.1 q h1 h2, fun q hq => (List.mem_append.mp hq).elim (hS.2.2 q) (hLx q)⟩
  obtain ⟨t2, a1, b1⟩ := kk r w' hq t.heap (locs ++ Lx) ls hH1 hL hS2 T' e1 Y'
  have es : ((r.map (am_cv G)).toList ++ rest.map (am_cv G)) = (r.toList ++ rest).map (am_cv G) := by cases r <;> rfl
  refine ⟨t2, go t2 ?_, b1⟩
  rw [es]
  exact a1
theorem am_catsum (rest : List Value) : ((rest.map (am_cv G)).map fun v => v.category).sum = (rest.map fun v => v.category).sum := by
  rw [List.map_map]
  congr 1
  exact List.map_congr_left fun v _ => am_cat G v
theorem am_stk (As rest : List Value) (r : Value) : ((As.reverse ++ r :: rest).map (am_cv G)) = (As.map (am_cv G)).reverse ++ am_cv G r :: rest.map (am_cv G) := by simp
variable {M' : am_M} {d na idx : Nat} {As rest : List Value}
/-- a static method is called -/
theorem am_callS (C : am_C G M X) (B : am_MB M' na) (hs : Cond.static M'.1 ∈ am_ws) (hl : Cond.methodLink M.1.cls idx M'.1 ∈ am_ws) (hd : decode M.2.1 pc = .ok (.invokestatic idx, 3)) (hq : pc + 3 = q) (sp : am_S G M' d mc ms As w Q) (hst : st = As.reverse ++ rest) (hna : As.length = na) (hR : d + 1 ≤ R.frames ∧ 64 * (d + 1) ≤ R.locals) (hf : c + mc ≤ R.cells ∧ n + ms ≤ R.slots) (hsum : (rest.map fun v => v.category).sum ≤ 8)
    (kk : ∀ (r : Option Value) (w' : am_W), Q r w' → am_A G M X R q L (r.toList ++ rest) w' (c + mc) (n + ms)) : am_A G M X R pc L st w c n := by
  subst hq; subst hst
  intro H locs ls hH hL hS
  have hts := C.2.2.2.2.2.1
  have hw := am_gin B
  have hB : CallB R (am_s X) X.2.2.2.2.2.1 M.1.cls idx M'.1 M'.2.1 M'.2.2.1 M'.2.2.2 (Cond.code M'.1 M'.2.1 M'.2.2.1 M'.2.2.2 :: am_ws) (am_rm d mc ms) mc ms na := callB_of na hts hw rfl rfl rfl (hts _ B.2.1) (hts _ hl) B.2.2.1 ⟨hR.1, by have := B.2.2.2.1; show 8 + (M'.2.2.1 + 11) + 64 * d ≤ _; omega⟩
  exact am_back (a := (As.map (am_cv G)).toArray) (va_runS ⟨C.1, C.2.1, C.2.2.2.1, C.2.2.2.2.1, hts⟩ (sp X.2.1) ⟨hB, hts _ hs⟩ ⟨am_blind, fun U hU hW => am_pre C hH hS U hU hW⟩ rfl (by rw [List.length_map]; exact hna) hL.1 (by show ((As.reverse ++ rest).map (am_cv G)) = _; simp) (lv_room (by rw [am_catsum]; exact hsum)) hd hf) hL hS kk
/-- a private or public method of the same class, of an object of it -/
theorem am_callV {h len ci Nf : Nat} {T : u_T} (C : am_C G M X) (B : am_MB M' na) (hi : Cond.instanceMethod M'.1 ∈ am_ws) (hse : Cond.selects M'.1.cls M'.1 M'.1 ∈ am_ws) (hl : Cond.methodLink M.1.cls idx M'.1 ∈ am_ws) (hcb : am_CB ci M'.1.cls T Nf) (hk : w.2.1 h = (ci, len)) (hh : h < w.1) (hd : decode M.2.1 pc = .ok (.invokevirtual idx, 3)) (hq : pc + 3 = q) (sp : am_S G M' d mc ms (.ref h :: As) w Q) (hst : st = As.reverse ++ .ref h :: rest) (hna : As.length = na) (hR : d + 1 ≤ R.frames ∧ 64 * (d + 1) ≤ R.locals) (hf : c + mc ≤ R.cells ∧ n + ms ≤ R.slots) (hsum : (rest.map fun v => v.category).sum ≤ 8)
    (kk : ∀ (r : Option Value) (w' : am_W), Q r w' → am_A G M X R q L (r.toList ++ rest) w' (c + mc) (n + ms)) : am_A G M X R pc L st w c n := by
  subst hq; subst hst
  intro H locs ls hH hL hS
  have hts := C.2.2.2.2.2.1
  have hB : CallB R (am_s X) X.2.2.2.2.2.1 M.1.cls idx M'.1 M'.2.1 M'.2.2.1 M'.2.2.2 (Cond.code M'.1 M'.2.1 M'.2.2.1 M'.2.2.2 :: am_ws) (am_rm d mc ms) mc ms na := callB_of na hts (am_gin B) rfl rfl rfl (hts _ B.2.1) (hts _ hl) B.2.2.1 ⟨hR.1, by have := B.2.2.2.1; show 8 + (M'.2.2.1 + 11) + 64 * d ≤ _; omega⟩
  have hk1 : (w.2.1 h).1 = ci := by rw [hk]
  have hrec : ∃ cell : Cell, H[am_b G + h]? = some cell ∧ cell.vm.isStatics = false ∧ (am_s X).vm.findClass M'.1.cls = some cell.cls := by
    have e := hH.obj hh (by rw [hk1]; exact hcb.2.2.2.2.2)
    obtain ⟨cell, q1, q2, q3, -⟩ := e
    exact ⟨cell, q1, by rw [q3]; rfl, by rw [q2, hk1]; exact (C.2.2.2.2.2.2.2.1.1.1 ci _ hcb.1).2.1⟩
  have erf : am_cv G (.ref h) = .ref (am_b G + h) := by show Value.ref (am_rf G h) = _; rw [hH.lt hh]
  exact am_back (a := (Value.ref (am_b G + h) :: As.map (am_cv G)).toArray) (va_runV (b := am_b G + h) (As := As.map (am_cv G)) ⟨C.1, C.2.1, C.2.2.2.1, C.2.2.2.2.1, hts⟩ (sp X.2.1) ⟨hB, hts _ hi, hts _ hse⟩ ⟨am_blind, hrec, fun U hU hW => by rw [← erf]; exact am_pre C hH hS U hU hW⟩ rfl (by rw [List.length_map]; exact hna) hL.1 (by show ((As.reverse ++ Value.ref h :: rest).map (am_cv G)) = _; rw [am_stk, erf]) (lv_room (by rw [am_catsum]; exact hsum)) hd hf) hL hS kk
/-- the same, of a nest mate -/
theorem am_callN {h len ci Nf : Nat} {T : u_T} {host : String} (C : am_C G M X) (B : am_MB M' na) (hi : Cond.instanceMethod M'.1 ∈ am_ws) (hse : Cond.selects M'.1.cls M'.1 M'.1 ∈ am_ws) (hl : Cond.methodLinkNest M.1.cls idx M'.1 host ∈ am_nest) (hcb : am_CB ci M'.1.cls T Nf) (hk : w.2.1 h = (ci, len)) (hh : h < w.1) (hd : decode M.2.1 pc = .ok (.invokevirtual idx, 3)) (hq : pc + 3 = q) (sp : am_S G M' d mc ms (.ref h :: As) w Q) (hst : st = As.reverse ++ .ref h :: rest) (hna : As.length = na) (hR : d + 1 ≤ R.frames ∧ 64 * (d + 1) ≤ R.locals) (hf : c + mc ≤ R.cells ∧ n + ms ≤ R.slots) (hsum : (rest.map fun v => v.category).sum ≤ 8)
    (kk : ∀ (r : Option Value) (w' : am_W), Q r w' → am_A G M X R q L (r.toList ++ rest) w' (c + mc) (n + ms)) : am_A G M X R pc L st w c n := by
  subst hq; subst hst
  intro H locs ls hH hL hS
  have hts := C.2.2.2.2.2.1
  have hB : va_CN R (am_s X) X.2.2.2.2.2.1 M.1.cls idx M'.1 host M'.2.1 M'.2.2.1 M'.2.2.2 (Cond.code M'.1 M'.2.1 M'.2.2.1 M'.2.2.2 :: am_ws) (am_rm d mc ms) mc ms na := va_cnB na hts (am_gin B) rfl rfl rfl (C.2.2.2.2.2.2.2.1.2.1 _ hl) (hts _ B.2.1) B.2.2.1 ⟨hR.1, by have := B.2.2.2.1; show 8 + (M'.2.2.1 + 11) + 64 * d ≤ _; omega⟩
  have hk1 : (w.2.1 h).1 = ci := by rw [hk]
  have hrec : ∃ cell : Cell, H[am_b G + h]? = some cell ∧ cell.vm.isStatics = false ∧ (am_s X).vm.findClass M'.1.cls = some cell.cls := by
    have e := hH.obj hh (by rw [hk1]; exact hcb.2.2.2.2.2)
    obtain ⟨cell, q1, q2, q3, -⟩ := e
    exact ⟨cell, q1, by rw [q3]; rfl, by rw [q2, hk1]; exact (C.2.2.2.2.2.2.2.1.1.1 ci _ hcb.1).2.1⟩
  have erf : am_cv G (.ref h) = .ref (am_b G + h) := by show Value.ref (am_rf G h) = _; rw [hH.lt hh]
  exact am_back (a := (Value.ref (am_b G + h) :: As.map (am_cv G)).toArray) (va_runVN (b := am_b G + h) (As := As.map (am_cv G)) ⟨C.1, C.2.1, C.2.2.2.1, C.2.2.2.2.1, hts⟩ (sp X.2.1) ⟨hB, hts _ hi, hts _ hse⟩ ⟨am_blind, hrec, fun U hU hW => by rw [← erf]; exact am_pre C hH hS U hU hW⟩ rfl (by rw [List.length_map]; exact hna) hL.1 (by show ((As.reverse ++ Value.ref h :: rest).map (am_cv G)) = _; rw [am_stk, erf]) (lv_room (by rw [am_catsum]; exact hsum)) hd hf) hL hS kk
/-- a constructor: own, public -/
theorem am_callI {h : Nat} (C : am_C G M X) (B : am_MB M' na) (hret : M'.2.2.2 = none) (hnm : M'.1.name = "<init>") (hi : Cond.instanceMethod M'.1 ∈ am_ws) (hl : Cond.methodLink M.1.cls idx M'.1 ∈ am_ws) (hh : h < w.1) (hd : decode M.2.1 pc = .ok (.invokespecial idx, 3)) (hq : pc + 3 = q) (sp : am_S G M' d mc ms (.ref h :: As) w Q) (hst : st = As.reverse ++ .ref h :: rest) (hna : As.length = na) (hR : d + 1 ≤ R.frames ∧ 64 * (d + 1) ≤ R.locals) (hf : c + mc ≤ R.cells ∧ n + ms ≤ R.slots) (hsum : (rest.map fun v => v.category).sum ≤ 8)
    (kk : ∀ (r : Option Value) (w' : am_W), Q r w' → am_A G M X R q L (r.toList ++ rest) w' (c + mc) (n + ms)) : am_A G M X R pc L st w c n := by
  subst hq; subst hst
  intro H locs ls hH hL hS
  have hts := C.2.2.2.2.2.1
  have hw : (Cond.code M'.1 M'.2.1 M'.2.2.1 M'.2.2.2 :: am_ws) = Cond.code M'.1 M'.2.1 M'.2.2.1 none :: am_ws := by rw [hret]
  have hB : CallB R (am_s X) X.2.2.2.2.2.1 M.1.cls idx M'.1 M'.2.1 M'.2.2.1 none (Cond.code M'.1 M'.2.1 M'.2.2.1 M'.2.2.2 :: am_ws) (am_rm d mc ms) mc ms na := callB_of na hts (am_gin B) hw rfl rfl (hts _ B.2.1) (hts _ hl) B.2.2.1 ⟨hR.1, by have := B.2.2.2.1; show 8 + (M'.2.2.1 + 11) + 64 * d ≤ _; omega⟩
  have erf : am_cv G (.ref h) = .ref (am_b G + h) := by show Value.ref (am_rf G h) = _; rw [hH.lt hh]
  exact am_back (a := (Value.ref (am_b G + h) :: As.map (am_cv G)).toArray) (va_runI (b := am_b G + h) (As := As.map (am_cv G)) ⟨C.1, C.2.1, C.2.2.2.1, C.2.2.2.2.1, hts⟩ (sp X.2.1) ⟨hB, hnm, hts _ hi⟩ ⟨am_blind, fun U hU hW => by rw [← erf]; exact am_pre C hH hS U hU hW⟩ rfl (by rw [List.length_map]; exact hna) hL.1 (by show ((As.reverse ++ Value.ref h :: rest).map (am_cv G)) = _; rw [am_stk, erf]) (lv_room (by rw [am_catsum]; exact hsum)) hd hf) hL hS kk
/-- a constructor of a nest mate -/
theorem am_callIN {h : Nat} {host : String} (C : am_C G M X) (B : am_MB M' na) (hret : M'.2.2.2 = none) (hnm : M'.1.name = "<init>") (hi : Cond.instanceMethod M'.1 ∈ am_ws) (hl : Cond.methodLinkNest M.1.cls idx M'.1 host ∈ am_nest) (hh : h < w.1) (hd : decode M.2.1 pc = .ok (.invokespecial idx, 3)) (hq : pc + 3 = q) (sp : am_S G M' d mc ms (.ref h :: As) w Q) (hst : st = As.reverse ++ .ref h :: rest) (hna : As.length = na) (hR : d + 1 ≤ R.frames ∧ 64 * (d + 1) ≤ R.locals) (hf : c + mc ≤ R.cells ∧ n + ms ≤ R.slots) (hsum : (rest.map fun v => v.category).sum ≤ 8)
    (kk : ∀ (r : Option Value) (w' : am_W), Q r w' → am_A G M X R q L (r.toList ++ rest) w' (c + mc) (n + ms)) : am_A G M X R pc L st w c n := by
  subst hq; subst hst
  intro H locs ls hH hL hS
  have hts := C.2.2.2.2.2.1
  have hw : (Cond.code M'.1 M'.2.1 M'.2.2.1 M'.2.2.2 :: am_ws) = Cond.code M'.1 M'.2.1 M'.2.2.1 none :: am_ws := by rw [hret]
  have hB : va_CN R (am_s X) X.2.2.2.2.2.1 M.1.cls idx M'.1 host M'.2.1 M'.2.2.1 none (Cond.code M'.1 M'.2.1 M'.2.2.1 M'.2.2.2 :: am_ws) (am_rm d mc ms) mc ms na := va_cnB na hts (am_gin B) hw rfl rfl (C.2.2.2.2.2.2.2.1.2.1 _ hl) (hts _ B.2.1) B.2.2.1 ⟨hR.1, by have := B.2.2.2.1; show 8 + (M'.2.2.1 + 11) + 64 * d ≤ _; omega⟩
  have erf : am_cv G (.ref h) = .ref (am_b G + h) := by show Value.ref (am_rf G h) = _; rw [hH.lt hh]
  exact am_back (a := (Value.ref (am_b G + h) :: As.map (am_cv G)).toArray) (va_runIN (b := am_b G + h) (As := As.map (am_cv G)) ⟨C.1, C.2.1, C.2.2.2.1, C.2.2.2.2.1, hts⟩ (sp X.2.1) ⟨hB, hnm, hts _ hi⟩ ⟨am_blind, fun U hU hW => by rw [← erf]; exact am_pre C hH hS U hU hW⟩ rfl (by rw [List.length_map]; exact hna) hL.1 (by show ((As.reverse ++ Value.ref h :: rest).map (am_cv G)) = _; rw [am_stk, erf]) (lv_room (by rw [am_catsum]; exact hsum)) hd hf) hL hS kk
/-- Object's own constructor -/
theorem am_objInit {h : Nat} (C : am_C G M X) (h1 : Cond.methodLink M.1.cls idx Lib.objectInit ∈ am_ws) (h2 : Cond.instanceMethod Lib.objectInit ∈ am_ws) (h3 : Cond.code Lib.objectInit ⟨#[0xb1]⟩ 1 none ∈ am_ws) (hd : decode M.2.1 pc = .ok (.invokespecial idx, 3)) (hq : pc + 3 = q) (hf : 1 ≤ R.frames) (hR : 64 ≤ R.locals) (hsum : (st.map fun v => v.category).sum ≤ 8) (kk : am_A G M X R q L st w c n) : am_A G M X R pc L (.ref h :: st) w c n := by
  subst hq
  intro H locs ls hH hL hS
  have hts := C.2.2.2.2.2.1
  exact W.objInit C.1 C.2.1 C.2.2.2.2.1 (hts _ h1) (hts _ h2) (hts _ h3) rfl (by rw [C.2.2.2.1]; exact hL.1) rfl hd hf (by rw [am_catsum]; show 2 * 0 + _ + 12 ≤ _; omega) (kk H locs ls hH hL hS)
/-- what a method answers: an int, a long, nothing, a cell or null -/
def am_qi (Q : Int32 → am_W → Prop) : Option Value → am_W → Prop := fun r w => ∃ v, r = some (.int v) ∧ Q v w
def am_ql (Q : Int64 → am_W → Prop) : Option Value → am_W → Prop := fun r w => ∃ v, r = some (.long v) ∧ Q v w
def am_qv (Q : am_W → Prop) : Option Value → am_W → Prop := fun r w => r = none ∧ Q w
def am_qr (Q : Option Nat → am_W → Prop) : Option Value → am_W → Prop := fun r w => ∃ v, r = some (va_rf v) ∧ Q v w
variable {P : Option Value → am_W → Prop}
theorem am_ri {Q : Int32 → am_W → Prop} (k : ∀ v w', Q v w' → am_A G M X R pc L (.int v :: rest) w' c n) : ∀ (r : Option Value) (w' : am_W), am_qi Q r w' → am_A G M X R pc L (r.toList ++ rest) w' c n := fun r w' h => by
  obtain ⟨v, rfl, hv⟩ := h
  exact k v w' hv
theorem am_rl {Q : Int64 → am_W → Prop} (k : ∀ v w', Q v w' → am_A G M X R pc L (.long v :: rest) w' c n) : ∀ (r : Option Value) (w' : am_W), am_ql Q r w' → am_A G M X R pc L (r.toList ++ rest) w' c n := fun r w' h => by
  obtain ⟨v, rfl, hv⟩ := h
  exact k v w' hv
theorem am_rv {Q : am_W → Prop} (k : ∀ w', Q w' → am_A G M X R pc L rest w' c n) : ∀ (r : Option Value) (w' : am_W), am_qv Q r w' → am_A G M X R pc L (r.toList ++ rest) w' c n := fun r w' h => by
  obtain ⟨rfl, hv⟩ := h
  exact k w' hv
theorem am_rr {Q : Option Nat → am_W → Prop} (k : ∀ v w', Q v w' → am_A G M X R pc L (va_rf v :: rest) w' c n) : ∀ (r : Option Value) (w' : am_W), am_qr Q r w' → am_A G M X R pc L (r.toList ++ rest) w' c n := fun r w' h => by
  obtain ⟨v, rfl, hv⟩ := h
  exact k v w' hv
end AM
