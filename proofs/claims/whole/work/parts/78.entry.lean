def tmS (i : Nat) : Term := .string "VectorWays$RuleReader" (am_sk.getD i (0, "")).1
theorem arr_known {s : State} {args : Array Value} {ty : FieldType} (h : (Cond.arrayClass ty).before args s = true) (hk : ty = .int ∨ ty = .long ∨ ty = .byte ∨ ty = .boolean) : ∃ cA : ClassId, ArrOfT s cA ty ∧ va_RA s cA ty := by
  obtain ⟨cA, kA, comp, h1, h2, h3⟩ := Cond.arrayClass_spec h
  refine ⟨cA, fun n z => ⟨fun k h => (by cases h), kA, h2, comp, h3⟩, ?_⟩
  rcases hk with rfl | rfl | rfl | rfl <;> exact h1
theorem ref_known {s : State} {args : Array Value} {Cn : String} (h : (Cond.arrayOver (.object Cn)).before args s = true) : ∃ cA : ClassId, ArrOfT s cA (.object Cn) ∧ va_RA s cA (.object Cn) := by
  obtain ⟨comp, cA, kA, h1, h2, h3, h4, h5⟩ := Cond.arrayOver_spec h
  exact ⟨cA, fun n z => ⟨fun k h => (by cases h), kA, h3, comp, h4⟩, kA, comp, h3, h4, h1, h5⟩
theorem cls_known {s : State} {args : Array Value} (hts : ∀ w ∈ am_ws, w.before args s = true) : ∃ D : va_G, ∀ (c : Nat) (q : vw_C), vwCl[c]? = some q → u_Kn s q.1 q.2.1 q.2.2 (D.1 c) (D.2 c) := by
  have hall : ∀ c : Nat, ∃ z : ClassId × (Nat → Nat), ∀ q, vwCl[c]? = some q → u_Kn s q.1 q.2.1 q.2.2 z.1 z.2 := by
    obtain ⟨c0, s0, h0⟩ := u_known (n := 3) hts cb_0.2.1 (hts _ ic_X0)
    obtain ⟨c1, s1, h1⟩ := u_known (n := 6) hts cb_1.2.1 (hts _ ic_X1)
    obtain ⟨c2, s2, h2⟩ := u_known (n := 1) hts cb_2.2.1 (hts _ ic_X2)
    obtain ⟨c3, s3, h3⟩ := u_known (n := 9) hts cb_3.2.1 (hts _ ic_X3)
    obtain ⟨c4, s4, h4⟩ := u_known (n := 3) hts cb_4.2.1 (hts _ ic_X4)
    obtain ⟨c5, s5, h5⟩ := u_known (n := 5) hts cb_5.2.1 (hts _ ic_X5)
    obtain ⟨c6, s6, h6⟩ := u_known (n := 7) hts cb_6.2.1 (hts _ ic_X6)
    obtain ⟨c7, s7, h7⟩ := u_known (n := 3) hts cb_7.2.1 (hts _ ic_X7)
    obtain ⟨c8, s8, h8⟩ := u_known (n := 4) hts cb_8.2.1 (hts _ ic_X8)
    obtain ⟨c9, s9, h9⟩ := u_known (n := 3) hts cb_9.2.1 (hts _ ic_X9)
    obtain ⟨c10, s10, h10⟩ := u_known (n := 14) hts cb_10.2.1 (hts _ ic_X10)
    obtain ⟨c11, s11, h11⟩ := u_known (n := 48) hts cb_11.2.1 (hts _ ic_X11)
    intro c
    rcases (show c = 0 ∨ c = 1 ∨ c = 2 ∨ c = 3 ∨ c = 4 ∨ c = 5 ∨ c = 6 ∨ c = 7 ∨ c = 8 ∨ c = 9 ∨ c = 10 ∨ c = 11 ∨ 12 ≤ c by omega) with rfl | rfl | rfl | rfl | rfl | rfl | rfl | rfl | rfl | rfl | rfl | rfl | hc
    · exact ⟨(c0, s0), fun q hq => by cases hq; exact h0⟩
    · exact ⟨(c1, s1), fun q hq => by cases hq; exact h1⟩
    · exact ⟨(c2, s2), fun q hq => by cases hq; exact h2⟩
    · exact ⟨(c3, s3), fun q hq => by cases hq; exact h3⟩
    · exact ⟨(c4, s4), fun q hq => by cases hq; exact h4⟩
    · exact ⟨(c5, s5), fun q hq => by cases hq; exact h5⟩
    · exact ⟨(c6, s6), fun q hq => by cases hq; exact h6⟩
    · exact ⟨(c7, s7), fun q hq => by cases hq; exact h7⟩
    · exact ⟨(c8, s8), fun q hq => by cases hq; exact h8⟩
    · exact ⟨(c9, s9), fun q hq => by cases hq; exact h9⟩
    · exact ⟨(c10, s10), fun q hq => by cases hq; exact h10⟩
    · exact ⟨(c11, s11), fun q hq => by cases hq; exact h11⟩
    · refine ⟨(c0, s0), fun q hq => ?_⟩
      rw [List.getElem?_eq_none (show vwCl.length ≤ c from hc)] at hq
      cases hq
  obtain ⟨f, hf⟩ := Classical.axiomOfChoice hall
  exact ⟨(fun c => (f c).1, fun c => (f c).2), hf⟩
theorem am_E_start {s : State} {b : Nat} {args : Array Value} (hts0 : ∀ w ∈ lw_tbl, w.before args s = true) (hgv : (Jvm.Cond.and given_1 narrow_1).before args s = true) : ∃ G : am_G, am_b G = s.heap.size ∧ G.2.2.2.1 21 = b ∧ am_E G s := by
  have hts : ∀ w ∈ am_ws, w.before args s = true := fun w hw => hts0 w (List.mem_filter.mp hw).1
  have hs := flat_of_before _ hgv
  have hA : ∀ a : Nat, a < s.heap.size → ¬ (fun q : Nat => s.heap.size ≤ q) a := fun a ha => Nat.not_le.mpr ha
  obtain ⟨D, hD⟩ := cls_known hts
  obtain ⟨a0, ha0⟩ := arr_known (hts _ ia_int) (Or.inl rfl)
  obtain ⟨a1, ha1⟩ := arr_known (hts _ ia_long) (Or.inr (Or.inl rfl))
  obtain ⟨a2, ha2⟩ := arr_known (hts _ ia_byte) (Or.inr (Or.inr (Or.inl rfl)))
  obtain ⟨a3, ha3⟩ := arr_known (hts _ ia_boolean) (Or.inr (Or.inr (Or.inr rfl)))
  have w4 := hts0 (.arrayOver (.object "VectorWays$Parts")) (by decide +kernel)
  have w5 := hts0 (.arrayOver (.object "VectorWays$Sheet")) (by decide +kernel)
  obtain ⟨a4, ha4⟩ := ref_known w4
  obtain ⟨a5, ha5⟩ := ref_known w5
  have c10 : ∀ {p : Nat → Prop}, p 0 → p 1 → p 2 → p 3 → p 4 → p 5 → p 6 → p 7 → p 8 → p 9 → ∀ i, i < 10 → p i := fun q0 q1 q2 q3 q4 q5 q6 q7 q8 q9 i hi => by
    rcases (show i = 0 ∨ i = 1 ∨ i = 2 ∨ i = 3 ∨ i = 4 ∨ i = 5 ∨ i = 6 ∨ i = 7 ∨ i = 8 ∨ i = 9 by omega) with rfl | rfl | rfl | rfl | rfl | rfl | rfl | rfl | rfl | rfl <;> assumption
  obtain ⟨adK, adV, hS, hev⟩ := vk_Sof (args := args) (s := s) (N := 10) (tm := tmS) (len := am_len) (byt := am_byt) (A := fun q : Nat => s.heap.size ≤ q) (by decide +kernel)
    (fun i hi => hs _ ((show ∀ i, i < 10 → Cond.exactly (tmS i) "java/lang/String" ∈ (flatC (Jvm.Cond.and given_1 narrow_1)) from by decide +kernel) i hi))
    (fun i hi => hs _ ((show ∀ i, i < 10 → Cond.eq (.field (tmS i) "java/lang/String" "coder" "B") (.int 0) ∈ (flatC (Jvm.Cond.and given_1 narrow_1)) from by decide +kernel) i hi))
    (fun i hi => hs _ ((show ∀ i, i < 10 → Cond.arrayOf (.field (tmS i) "java/lang/String" "value" "[B") .byte ∈ (flatC (Jvm.Cond.and given_1 narrow_1)) from by decide +kernel) i hi))
    (fun i hi => hs _ ((show ∀ i, i < 10 → Cond.eq (.length (.field (tmS i) "java/lang/String" "value" "[B")) (.int (Int32.ofNat (am_len.getD i 0))) ∈ (flatC (Jvm.Cond.and given_1 narrow_1)) from by decide +kernel) i hi))
    (fun i hi j hj => hs _ ((show ∀ i, i < 10 → ∀ j, j < am_len.getD i 0 → Cond.eq (.elem (.field (tmS i) "java/lang/String" "value" "[B") (.int (Int32.ofNat j))) (.int ((am_byt.getD i []).getD j 0)) ∈ (flatC (Jvm.Cond.and given_1 narrow_1)) from by decide +kernel) i hi j hj))
    (fun i j hi hj hij => ((show ∀ i, i < 10 → ∀ j, j < 10 → i ≠ j → (Cond.not (Cond.eq (tmS i) (tmS j)) ∈ (flatC (Jvm.Cond.and given_1 narrow_1)) ∨ Cond.not (Cond.eq (tmS j) (tmS i)) ∈ (flatC (Jvm.Cond.and given_1 narrow_1))) from by decide +kernel) i hi j hj hij).imp (hs _) (hs _)) hA
  have hz1 := va_Zof (A := fun q : Nat => s.heap.size ≤ q) (hts0 (.laysStatic "java/lang/String" "COMPACT_STRINGS" "Z") (by decide +kernel)) (hts0 (.initialized "java/lang/String") (by decide +kernel)) (va_eqi (z := 1) (hs _ (by decide +kernel))) hA
  have hz2 := va_Zqof (A := fun q : Nat => s.heap.size ≤ q) (hts0 (.laysStatic "jdk/internal/util/Preconditions" "SIOOBE_FORMATTER" "Ljava/util/function/BiFunction;") (by decide +kernel)) (hts0 (.initialized "jdk/internal/util/Preconditions") (by decide +kernel)) (hs _ (by decide +kernel)) hA
  obtain ⟨t, sv, hsv, hz2⟩ : ∃ (t : Nat) (sv : Value), (sv = .null ∨ sv = .ref 1000020) ∧ ∀ G : am_G, G.2.2.2.1 20 = t → va_Z "jdk/internal/util/Preconditions" "SIOOBE_FORMATTER" "Ljava/util/function/BiFunction;" (am_cv G sv) (fun q : Nat => s.heap.size ≤ q) s s.heap := by
    rcases hz2 with h | ⟨t, h⟩
    · exact ⟨0, .null, Or.inl rfl, fun _ _ => h⟩
    · refine ⟨t, .ref 1000020, Or.inr rfl, fun G hG => ?_⟩
      show va_Z _ _ _ (.ref (am_rf G (1000000 + 20))) _ _ _
      rw [am_rfK, hG]
      exact h
  refine ⟨(D, fun k => if k = 0 then a0 else if k = 1 then a1 else if k = 2 then a2 else if k = 3 then a3 else if k = 4 then a4 else a5, s.heap.size, fun i => if i < 10 then adK i else if i < 20 then adV (i - 10) else if i = 20 then t else b, sv), rfl, rfl, ⟨hD, fun k q hq => ?_⟩, fun w hw => ?_, va_AO.of w4, va_AO.of w5, ?_, fun i q hq => ?_, hz1, hz2 _ rfl, hsv⟩
  · rcases (show k = 0 ∨ k = 1 ∨ k = 2 ∨ k = 3 ∨ k = 4 ∨ k = 5 ∨ 6 ≤ k by omega) with rfl | rfl | rfl | rfl | rfl | rfl | hk
    · cases hq; exact ha0
    · cases hq; exact ha1
    · cases hq; exact ha2
    · cases hq; exact ha3
    · cases hq; exact ha4
    · cases hq; exact ha5
    · rw [List.getElem?_eq_none (show (am_tys _).length ≤ k from hk)] at hq
      cases hq
  · obtain ⟨h1, h2⟩ := List.mem_filter.mp hw
    have h3 := hts0 w (List.mem_append_right _ h1)
    split at h2
    · exact va_Nw.of rfl h3
    · exact va_Nw.of rfl h3
    · cases h2
  · refine ⟨fun i hi => ?_, fun i j hi hj e => hS.2 i j hi hj ?_⟩
    · have h := hS.1 i hi
      show va_O _ (if i < 10 then adK i else _) _ _ _ ∧ va_OF _ _ _ _ (if i < 10 then adK i else _) _ _ _ ∧ va_OF _ _ _ (.ref (if 10 + i < 10 then adK (10 + i) else if 10 + i < 20 then adV (10 + i - 10) else _)) (if i < 10 then adK i else _) _ _ _ ∧ va_T _ (if 10 + i < 10 then adK (10 + i) else if 10 + i < 20 then adV (10 + i - 10) else _) _ _ _ _ _
      rw [if_pos hi, if_neg (by omega), if_pos (by omega), show 10 + i - 10 = i by omega]
      exact h
    · have e : (if i < 10 then adK i else _) = (if j < 10 then adK j else _) := e
      rw [if_pos hi, if_pos hj] at e
      exact e
  · rcases Nat.lt_or_ge i 10 with hi | hi
    · show vk_R _ _ _ (if i < 10 then adK i else _) _
      rw [if_pos hi]
      have h1 := hev i hi
      have h2 : (Cond.stringRef "VectorWays$RuleReader" q.1 q.2).before args s = true := by
        have := (show ∀ i, i < 10 → Cond.stringRef "VectorWays$RuleReader" (am_sk.getD i (0, "")).1 (am_sk.getD i (0, "")).2 ∈ lw_tbl from by decide +kernel) i hi
        have e : am_sk.getD i (0, "") = q := by rw [List.getD_eq_getElem?_getD, hq]; rfl
        rw [e] at this
        exact hts0 _ this
      have e : am_sk.getD i (0, "") = q := by rw [List.getD_eq_getElem?_getD, hq]; rfl
      unfold tmS at h1
      rw [e] at h1
      exact vk_R.of h2 h1
    · rw [List.getElem?_eq_none (show am_sk.length ≤ i from hi)] at hq
      cases hq
