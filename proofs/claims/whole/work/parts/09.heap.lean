def am_up {α : Type} (f : Nat → Nat → α) (h k : Nat) (v : α) : Nat → Nat → α := fun a j => if a = h then (if j = k then v else f a j) else f a j
def am_isI : FieldType → Bool
  | .long => false
  | .object _ => false
  | .array _ => false
  | _ => true
def am_isR : FieldType → Bool
  | .object _ => true
  | .array _ => true
  | _ => false
theorem am_val_I {G : am_G} {w : am_W} {t : FieldType} (h : am_isI t = true) (a j : Nat) : am_val G w t a j = .int (w.2.2.2.1 a j) := by cases t <;> first | rfl | (simp [am_isI] at h)
theorem am_val_R {G : am_G} {w : am_W} {t : FieldType} (h : am_isR t = true) (a j : Nat) : am_val G w t a j = va_rf ((w.2.2.1 a j).map (am_rf G)) := by cases t <;> first | rfl | (simp [am_isR] at h)
theorem am_cv_rf (G : am_G) (r : Option Nat) : am_cv G (va_rf r) = va_rf (r.map (am_rf G)) := by cases r <;> rfl
theorem am_rf_lt {G : am_G} {h : Nat} (hh : h < 1000000) : am_rf G h = am_b G + h := if_pos hh
/-- a world that differs from another in one place -/
def am_SE (G : am_G) (w w' : am_W) (h k : Nat) (v : Value) : Prop := w'.1 = w.1 ∧ w'.2.1 = w.2.1 ∧ ∀ a j, am_val G w' (am_ty (w.2.1 a).1 j) a j = if a = h ∧ j = k then v else am_val G w (am_ty (w.2.1 a).1 j) a j
section SE
variable {G : am_G} {N : Nat} {K : Nat → Nat × Nat} {Rf : Nat → Nat → Option Nat} {I : Nat → Nat → Int32} {J : Nat → Nat → Int64} {h k : Nat}
theorem am_SE_I {x : Int32} (ht : am_isI (am_ty (K h).1 k) = true) : am_SE G (N, K, Rf, I, J) (N, K, Rf, am_up I h k x, J) h k (.int x) := by
  refine ⟨rfl, rfl, fun a j => ?_⟩
  by_cases e : a = h ∧ j = k
  · rw [if_pos e]
    obtain ⟨rfl, rfl⟩ := e
    refine (am_val_I ht _ _).trans ?_
    simp [am_up]
  · rw [if_neg e]
    show am_val G (N, K, Rf, am_up I h k x, J) (am_ty (K a).1 j) a j = am_val G (N, K, Rf, I, J) (am_ty (K a).1 j) a j
    have e2 : am_up I h k x a j = I a j := by
      unfold am_up
      by_cases e3 : a = h
      · rw [if_pos e3, if_neg (fun e4 => e ⟨e3, e4⟩)]
      · rw [if_neg e3]
    cases am_ty (K a).1 j <;> first | rfl | exact congrArg Value.int e2
theorem am_SE_J {x : Int64} (ht : am_ty (K h).1 k = .long) : am_SE G (N, K, Rf, I, J) (N, K, Rf, I, am_up J h k x) h k (.long x) := by
  refine ⟨rfl, rfl, fun a j => ?_⟩
  by_cases e : a = h ∧ j = k
  · rw [if_pos e]
    obtain ⟨rfl, rfl⟩ := e
    show am_val G (N, K, Rf, I, am_up J a j x) (am_ty (K a).1 j) a j = _
    rw [ht]
    simp [am_val, am_up]
  · rw [if_neg e]
    show am_val G (N, K, Rf, I, am_up J h k x) (am_ty (K a).1 j) a j = am_val G (N, K, Rf, I, J) (am_ty (K a).1 j) a j
    have e2 : am_up J h k x a j = J a j := by
      unfold am_up
      by_cases e3 : a = h
      · rw [if_pos e3, if_neg (fun e4 => e ⟨e3, e4⟩)]
      · rw [if_neg e3]
    cases am_ty (K a).1 j <;> first | rfl | exact congrArg Value.long e2
theorem am_SE_R {x : Option Nat} (ht : am_isR (am_ty (K h).1 k) = true) : am_SE G (N, K, Rf, I, J) (N, K, am_up Rf h k x, I, J) h k (am_cv G (va_rf x)) := by
  refine ⟨rfl, rfl, fun a j => ?_⟩
  by_cases e : a = h ∧ j = k
  · rw [if_pos e]
    obtain ⟨rfl, rfl⟩ := e
    refine (am_val_R ht _ _).trans ?_
    rw [am_cv_rf]
    simp [am_up]
  · rw [if_neg e]
    show am_val G (N, K, am_up Rf h k x, I, J) (am_ty (K a).1 j) a j = am_val G (N, K, Rf, I, J) (am_ty (K a).1 j) a j
    have e2 : am_up Rf h k x a j = Rf a j := by
      unfold am_up
      by_cases e3 : a = h
      · rw [if_pos e3, if_neg (fun e4 => e ⟨e3, e4⟩)]
      · rw [if_neg e3]
    cases am_ty (K a).1 j <;> first | rfl | exact congrArg (fun r => va_rf (Option.map (am_rf G) r)) e2
end SE
/-- the class of number ci, all that is needed of it -/
def am_CB (ci : Nat) (C : String) (T : u_T) (N : Nat) : Prop := vwCl[ci]? = some (C, T, N) ∧ (∀ w ∈ u_ws C T N, w ∈ am_ws) ∧ (∀ k, k < N → parseFieldDescriptor (T k).2.2.1 = some (am_ty ci k)) ∧ (∀ a, a < N → ∀ b, b < N → a ≠ b → (T a).2.1 ≠ (T b).2.1) ∧ am_nf ci = N ∧ ci < 20
/-- an entry of a class's pool that names a field -/
def am_FB (own : String) (idx ci k : Nat) : Prop := ∃ (C : String) (T : u_T) (N : Nat), am_CB ci C T N ∧ k < N ∧ (Cond.fieldLink own idx (T k).1 (T k).2.1 (T k).2.2.1 ∈ am_ws ∨ ∃ host : String, Cond.fieldLinkNest own idx (T k).1 (T k).2.1 (T k).2.2.1 host ∈ am_nest)
/-- one that is written to: not final -/
def am_FW (own : String) (idx ci k : Nat) : Prop := ∃ (C : String) (T : u_T) (N : Nat), am_CB ci C T N ∧ k < N ∧ (T k).2.2.2 = false ∧ (Cond.fieldLink own idx (T k).1 (T k).2.1 (T k).2.2.1 ∈ am_ws ∨ ∃ host : String, Cond.fieldLinkNest own idx (T k).1 (T k).2.1 (T k).2.2.1 host ∈ am_nest)
/-- a final one, written in its class's constructor -/
def am_FF (own : String) (idx ci k : Nat) : Prop := ∃ (C : String) (T : u_T) (N : Nat), am_CB ci C T N ∧ k < N ∧ (T k).2.2.2 = true ∧ (T k).1 = own ∧ Cond.fieldLink own idx (T k).1 (T k).2.1 (T k).2.2.1 ∈ am_ws
section CELLS
variable {G : am_G} {w w' : am_W} {H H' : Heap} {h k : Nat}
theorem am_H.lt (hH : am_H G w H) (hh : h < w.1) : am_rf G h = am_b G + h := am_rf_lt (by have := hH.2.1; omega)
theorem am_H.obj (hH : am_H G w H) (hh : h < w.1) (hk : (w.2.1 h).1 < 20) : t_OB (am_b G + h) (G.1.1 (w.2.1 h).1) (am_nf (w.2.1 h).1) (G.1.2 (w.2.1 h).1) H (fun k => am_val G w (am_ty (w.2.1 h).1 k) h k) := by
  have e := hH.2.2 h hh
  unfold am_cell at e
  rwa [if_pos hk] at e
theorem am_H.arr (hH : am_H G w H) (hh : h < w.1) (hk : ¬ (w.2.1 h).1 < 20) : H[am_b G + h]? = some (arrV (G.2.1 ((w.2.1 h).1 - 20)) (w.2.1 h).2 (fun k => am_val G w (am_ty (w.2.1 h).1 k) h k)) := by
  have e := hH.2.2 h hh
  unfold am_cell at e
  rwa [if_neg hk] at e
theorem am_H.sto {v : Value} (hH : am_H G w H) (hh : h < w.1) (hs : am_SE G w w' h k v) (z : H'.size = H.size) (oq : ∀ q : Nat, q ≠ am_b G + h → H'[q]? = H[q]?) (hc : am_cell G w' H' h) : am_H G w' H' := by
  obtain ⟨s1, s2, s3⟩ := hs
  refine ⟨by rw [z, hH.1, s1], by rw [s1]; exact hH.2.1, fun a ha => ?_⟩
  by_cases e : a = h
  · rw [e]; exact hc
  · have e2 : H'[am_b G + a]? = H[am_b G + a]? := oq _ (by omega)
    have h1 := hH.2.2 a (by rw [← s1]; exact ha)
    have e3 : (fun k => am_val G w' (am_ty (w.2.1 a).1 k) a k) = (fun k => am_val G w (am_ty (w.2.1 a).1 k) a k) := by
      funext j
      rw [s3, if_neg (fun q => e q.1)]
    unfold am_cell at h1 ⊢
    rw [s2, e3]
    by_cases hk : (w.2.1 a).1 < 20
    · rw [if_pos hk] at h1 ⊢
      exact h1.kept e2
    · rw [if_neg hk] at h1 ⊢
      rw [e2]; exact h1
theorem am_H.sta {v : Value} (hH : am_H G w H) (hh : h < w.1) (hk : ¬ (w.2.1 h).1 < 20) (hs : am_SE G w w' h k v) (e : H'[am_b G + h]? = some ((arrV (G.2.1 ((w.2.1 h).1 - 20)) (w.2.1 h).2 (fun k => am_val G w (am_ty (w.2.1 h).1 k) h k)).setSlot k v)) (z : H'.size = H.size) (oq : ∀ q : Nat, q ≠ am_b G + h → H'[q]? = H[q]?) : am_H G w' H' := by
  refine hH.sto hh hs z oq ?_
  obtain ⟨s1, s2, s3⟩ := hs
  unfold am_cell
  rw [s2, if_neg hk, e, arrV_store]
  have e3 : updV (fun k => am_val G w (am_ty (w.2.1 h).1 k) h k) k v = (fun k => am_val G w' (am_ty (w.2.1 h).1 k) h k) := by
    funext j
    rw [s3]
    by_cases hj : j = k
    · rw [if_pos ⟨rfl, hj⟩]; simp [updV, hj]
    · rw [if_neg (fun q => hj q.2)]; simp [updV, hj]
  rw [e3]
end CELLS
section AM
variable {G : am_G} {M : am_M} {X : am_X} {R : Room} {pc q : Nat} {L : List (Option Value)} {st : List Value} {c n : Nat} {N : Nat} {K : Nat → Nat × Nat} {Rf : Nat → Nat → Option Nat} {I : Nat → Nat → Int32} {J : Nat → Nat → Int64} {h k ci len : Nat}
theorem am_E_arr (C : am_C G M X) (t : Nat) {q : ClassId × FieldType} (h : (am_tys G)[t]? = some q) : ArrOfT (am_s X) q.1 q.2 := (C.2.2.2.2.2.2.2.1.1.2 t q h).1
theorem am_iaload {i : Int32} (C : am_C G M X) (hd : decode M.2.1 pc = .ok (.iaload, 1)) (hq : pc + 1 = q) (hk : K h = (20, len)) (hh : h < N) (hi : vp_in i len) (kk : am_A G M X R q L (.int (I h i.toNatClampNeg) :: st) (N, K, Rf, I, J) c n) : am_A G M X R pc L (.int i :: .ref h :: st) (N, K, Rf, I, J) c n := by
  subst hq
  intro H locs ls hH hL hS
  have hk1 : (K h).1 = 20 := by rw [hk]
  have e := hH.arr hh (by show ¬ (K h).1 < 20; rw [hk1]; decide)
  have hlt : i.toNatClampNeg < len := Nat.not_le.mp fun q => hi (Or.inr q)
  simp only [hk] at e
  have e1 : ((Value.int i :: .ref h :: st).map (am_cv G)) = .int i :: .ref (am_b G + h) :: st.map (am_cv G) := by
    show Value.int i :: .ref (am_rf G h) :: _ = _
    rw [hH.lt hh]
  rw [e1]
  refine W.iald (v := am_cv G (.int (I h i.toNatClampNeg))) C.1 C.2.1 e (am_E_arr C 0 (q := (G.2.1 0, .int)) rfl len _) (fun q => by cases q) (by rw [arrV_size]; exact hi) (by rw [arrV_read _ _ hlt]; rfl) rfl rfl hd (kk H locs ls hH hL hS)
theorem am_baload {i : Int32} (C : am_C G M X) (hd : decode M.2.1 pc = .ok (.baload, 1)) (hq : pc + 1 = q) (hk : K h = (22, len)) (hh : h < N) (hi : vp_in i len) (kk : am_A G M X R q L (.int (I h i.toNatClampNeg) :: st) (N, K, Rf, I, J) c n) : am_A G M X R pc L (.int i :: .ref h :: st) (N, K, Rf, I, J) c n := by
  subst hq
  intro H locs ls hH hL hS
  have hk1 : (K h).1 = 22 := by rw [hk]
  have e := hH.arr hh (by show ¬ (K h).1 < 20; rw [hk1]; decide)
  have hlt : i.toNatClampNeg < len := Nat.not_le.mp fun q => hi (Or.inr q)
  simp only [hk] at e
  have e1 : ((Value.int i :: .ref h :: st).map (am_cv G)) = .int i :: .ref (am_b G + h) :: st.map (am_cv G) := by
    show Value.int i :: .ref (am_rf G h) :: _ = _
    rw [hH.lt hh]
  rw [e1]
  refine W.bald (v := am_cv G (.int (I h i.toNatClampNeg))) C.1 C.2.1 e (am_E_arr C 2 (q := (G.2.1 2, .byte)) rfl len _) (fun q => by cases q) (by rw [arrV_size]; exact hi) (by rw [arrV_read _ _ hlt]; rfl) rfl rfl hd (kk H locs ls hH hL hS)
theorem am_zaload {i : Int32} (C : am_C G M X) (hd : decode M.2.1 pc = .ok (.baload, 1)) (hq : pc + 1 = q) (hk : K h = (23, len)) (hh : h < N) (hi : vp_in i len) (kk : am_A G M X R q L (.int (I h i.toNatClampNeg) :: st) (N, K, Rf, I, J) c n) : am_A G M X R pc L (.int i :: .ref h :: st) (N, K, Rf, I, J) c n := by
  subst hq
  intro H locs ls hH hL hS
  have hk1 : (K h).1 = 23 := by rw [hk]
  have e := hH.arr hh (by show ¬ (K h).1 < 20; rw [hk1]; decide)
  have hlt : i.toNatClampNeg < len := Nat.not_le.mp fun q => hi (Or.inr q)
  simp only [hk] at e
  have e1 : ((Value.int i :: .ref h :: st).map (am_cv G)) = .int i :: .ref (am_b G + h) :: st.map (am_cv G) := by
    show Value.int i :: .ref (am_rf G h) :: _ = _
    rw [hH.lt hh]
  rw [e1]
  refine W.zald (v := am_cv G (.int (I h i.toNatClampNeg))) C.1 C.2.1 e (am_E_arr C 3 (q := (G.2.1 3, .boolean)) rfl len _) (fun q => by cases q) (by rw [arrV_size]; exact hi) (by rw [arrV_read _ _ hlt]; rfl) rfl rfl hd (kk H locs ls hH hL hS)
theorem am_laload {i : Int32} (C : am_C G M X) (hd : decode M.2.1 pc = .ok (.laload, 1)) (hq : pc + 1 = q) (hk : K h = (21, len)) (hh : h < N) (hi : vp_in i len) (kk : am_A G M X R q L (.long (J h i.toNatClampNeg) :: st) (N, K, Rf, I, J) c n) : am_A G M X R pc L (.int i :: .ref h :: st) (N, K, Rf, I, J) c n := by
  subst hq
  intro H locs ls hH hL hS
  have hk1 : (K h).1 = 21 := by rw [hk]
  have e := hH.arr hh (by show ¬ (K h).1 < 20; rw [hk1]; decide)
  have hlt : i.toNatClampNeg < len := Nat.not_le.mp fun q => hi (Or.inr q)
  simp only [hk] at e
  have e1 : ((Value.int i :: .ref h :: st).map (am_cv G)) = .int i :: .ref (am_b G + h) :: st.map (am_cv G) := by
    show Value.int i :: .ref (am_rf G h) :: _ = _
    rw [hH.lt hh]
  rw [e1]
  refine W.lald (v := am_cv G (.long (J h i.toNatClampNeg))) C.1 C.2.1 e (am_E_arr C 1 (q := (G.2.1 1, .long)) rfl len _) (fun q => by cases q) (by rw [arrV_size]; exact hi) (by rw [arrV_read _ _ hlt]; rfl) rfl rfl hd (kk H locs ls hH hL hS)
theorem am_paload {i : Int32} (C : am_C G M X) (hd : decode M.2.1 pc = .ok (.aaload, 1)) (hq : pc + 1 = q) (hk : K h = (24, len)) (hh : h < N) (hi : vp_in i len) (kk : am_A G M X R q L (va_rf (Rf h i.toNatClampNeg) :: st) (N, K, Rf, I, J) c n) : am_A G M X R pc L (.int i :: .ref h :: st) (N, K, Rf, I, J) c n := by
  subst hq
  intro H locs ls hH hL hS
  have hk1 : (K h).1 = 24 := by rw [hk]
  have e := hH.arr hh (by show ¬ (K h).1 < 20; rw [hk1]; decide)
  have hlt : i.toNatClampNeg < len := Nat.not_le.mp fun q => hi (Or.inr q)
  simp only [hk] at e
  have e1 : ((Value.int i :: .ref h :: st).map (am_cv G)) = .int i :: .ref (am_b G + h) :: st.map (am_cv G) := by
    show Value.int i :: .ref (am_rf G h) :: _ = _
    rw [hH.lt hh]
  rw [e1]
  refine W.aald (v := am_cv G (va_rf (Rf h i.toNatClampNeg))) C.1 C.2.1 e (am_E_arr C 4 (q := (G.2.1 4, .object "VectorWays$Parts")) rfl len _) rfl (fun q => by cases q) (by rw [arrV_size]; exact hi) (by rw [arrV_read _ _ hlt]; rw [am_cv_rf]; rfl) rfl rfl hd (kk H locs ls hH hL hS)
theorem am_saload {i : Int32} (C : am_C G M X) (hd : decode M.2.1 pc = .ok (.aaload, 1)) (hq : pc + 1 = q) (hk : K h = (25, len)) (hh : h < N) (hi : vp_in i len) (kk : am_A G M X R q L (va_rf (Rf h i.toNatClampNeg) :: st) (N, K, Rf, I, J) c n) : am_A G M X R pc L (.int i :: .ref h :: st) (N, K, Rf, I, J) c n := by
  subst hq
  intro H locs ls hH hL hS
  have hk1 : (K h).1 = 25 := by rw [hk]
  have e := hH.arr hh (by show ¬ (K h).1 < 20; rw [hk1]; decide)
  have hlt : i.toNatClampNeg < len := Nat.not_le.mp fun q => hi (Or.inr q)
  simp only [hk] at e
  have e1 : ((Value.int i :: .ref h :: st).map (am_cv G)) = .int i :: .ref (am_b G + h) :: st.map (am_cv G) := by
    show Value.int i :: .ref (am_rf G h) :: _ = _
    rw [hH.lt hh]
  rw [e1]
  refine W.aald (v := am_cv G (va_rf (Rf h i.toNatClampNeg))) C.1 C.2.1 e (am_E_arr C 5 (q := (G.2.1 5, .object "VectorWays$Sheet")) rfl len _) rfl (fun q => by cases q) (by rw [arrV_size]; exact hi) (by rw [arrV_read _ _ hlt]; rw [am_cv_rf]; rfl) rfl rfl hd (kk H locs ls hH hL hS)
theorem am_iastore {i : Int32} {x : Int32} (C : am_C G M X) (hd : decode M.2.1 pc = .ok (.iastore, 1)) (hq : pc + 1 = q) (hk : K h = (20, len)) (hh : h < N) (hi : vp_in i len) (kk : am_A G M X R q L st (N, K, Rf, am_up I h i.toNatClampNeg x, J) c n) : am_A G M X R pc L (.int x :: .int i :: .ref h :: st) (N, K, Rf, I, J) c n := by
  subst hq
  intro H locs ls hH hL hS
  have hk1 : (K h).1 = 20 := by rw [hk]
  have hn : ¬ (K h).1 < 20 := by rw [hk1]; decide
  have e := hH.arr hh hn
  have hlen : (K h).2 = len := by rw [hk]
  have e1 : ((.int x :: Value.int i :: .ref h :: st).map (am_cv G)) = .int x :: .int i :: .ref (am_b G + h) :: st.map (am_cv G) := by
    show .int x :: Value.int i :: .ref (am_rf G h) :: _ = _
    rw [hH.lt hh]
  rw [e1]
  refine W.iast C.1 C.2.1 e (by have := am_E_arr C 0 (q := (G.2.1 0, .int)) rfl ((K h).2) (fun k => am_val G (N, K, Rf, I, J) (am_ty (K h).1 k) h k); simpa [hk1] using this) (fun q => by cases q) (by rw [arrV_size]; show ¬ (i < 0 ∨ (K h).2 ≤ _); rw [hlen]; exact hi) rfl rfl hd (fun H' e2 z oq => kk H' _ ls (hH.sta hh hn (am_SE_I (by rw [hk1]; rfl)) e2 z oq) hL (hS.put z oq (Nat.le_add_right _ _)))
theorem am_lastore {i : Int32} {x : Int64} (C : am_C G M X) (hd : decode M.2.1 pc = .ok (.lastore, 1)) (hq : pc + 1 = q) (hk : K h = (21, len)) (hh : h < N) (hi : vp_in i len) (kk : am_A G M X R q L st (N, K, Rf, I, am_up J h i.toNatClampNeg x) c n) : am_A G M X R pc L (.long x :: .int i :: .ref h :: st) (N, K, Rf, I, J) c n := by
  subst hq
  intro H locs ls hH hL hS
  have hk1 : (K h).1 = 21 := by rw [hk]
  have hn : ¬ (K h).1 < 20 := by rw [hk1]; decide
  have e := hH.arr hh hn
  have hlen : (K h).2 = len := by rw [hk]
  have e1 : ((.long x :: Value.int i :: .ref h :: st).map (am_cv G)) = .long x :: .int i :: .ref (am_b G + h) :: st.map (am_cv G) := by
    show .long x :: Value.int i :: .ref (am_rf G h) :: _ = _
    rw [hH.lt hh]
  rw [e1]
  refine W.last C.1 C.2.1 e (by have := am_E_arr C 1 (q := (G.2.1 1, .long)) rfl ((K h).2) (fun k => am_val G (N, K, Rf, I, J) (am_ty (K h).1 k) h k); simpa [hk1] using this) (fun q => by cases q) (by rw [arrV_size]; show ¬ (i < 0 ∨ (K h).2 ≤ _); rw [hlen]; exact hi) rfl rfl hd (fun H' e2 z oq => kk H' _ ls (hH.sta hh hn (am_SE_J (by rw [hk1]; rfl)) e2 z oq) hL (hS.put z oq (Nat.le_add_right _ _)))
theorem am_bastore {i : Int32} {x : Int32} (C : am_C G M X) (hd : decode M.2.1 pc = .ok (.bastore, 1)) (hq : pc + 1 = q) (hk : K h = (22, len)) (hh : h < N) (hi : vp_in i len) (kk : am_A G M X R q L st (N, K, Rf, am_up I h i.toNatClampNeg x.toInt8.toInt32, J) c n) : am_A G M X R pc L (.int x :: .int i :: .ref h :: st) (N, K, Rf, I, J) c n := by
  subst hq
  intro H locs ls hH hL hS
  have hk1 : (K h).1 = 22 := by rw [hk]
  have hn : ¬ (K h).1 < 20 := by rw [hk1]; decide
  have e := hH.arr hh hn
  have hlen : (K h).2 = len := by rw [hk]
  have e1 : ((.int x :: Value.int i :: .ref h :: st).map (am_cv G)) = .int x :: .int i :: .ref (am_b G + h) :: st.map (am_cv G) := by
    show .int x :: Value.int i :: .ref (am_rf G h) :: _ = _
    rw [hH.lt hh]
  rw [e1]
  refine W.bast C.1 C.2.1 e (by have := am_E_arr C 2 (q := (G.2.1 2, .byte)) rfl ((K h).2) (fun k => am_val G (N, K, Rf, I, J) (am_ty (K h).1 k) h k); simpa [hk1] using this) (fun q => by cases q) (by rw [arrV_size]; show ¬ (i < 0 ∨ (K h).2 ≤ _); rw [hlen]; exact hi) rfl rfl hd (fun H' e2 z oq => kk H' _ ls (hH.sta hh hn (am_SE_I (by rw [hk1]; rfl)) e2 z oq) hL (hS.put z oq (Nat.le_add_right _ _)))
theorem am_zastore {i : Int32} {x : Int32} (C : am_C G M X) (hd : decode M.2.1 pc = .ok (.bastore, 1)) (hq : pc + 1 = q) (hk : K h = (23, len)) (hh : h < N) (hi : vp_in i len) (kk : am_A G M X R q L st (N, K, Rf, am_up I h i.toNatClampNeg (x &&& 1), J) c n) : am_A G M X R pc L (.int x :: .int i :: .ref h :: st) (N, K, Rf, I, J) c n := by
  subst hq
  intro H locs ls hH hL hS
  have hk1 : (K h).1 = 23 := by rw [hk]
  have hn : ¬ (K h).1 < 20 := by rw [hk1]; decide
  have e := hH.arr hh hn
  have hlen : (K h).2 = len := by rw [hk]
  have e1 : ((.int x :: Value.int i :: .ref h :: st).map (am_cv G)) = .int x :: .int i :: .ref (am_b G + h) :: st.map (am_cv G) := by
    show .int x :: Value.int i :: .ref (am_rf G h) :: _ = _
    rw [hH.lt hh]
  rw [e1]
  refine W.zast C.1 C.2.1 e (by have := am_E_arr C 3 (q := (G.2.1 3, .boolean)) rfl ((K h).2) (fun k => am_val G (N, K, Rf, I, J) (am_ty (K h).1 k) h k); simpa [hk1] using this) (fun q => by cases q) (by rw [arrV_size]; show ¬ (i < 0 ∨ (K h).2 ≤ _); rw [hlen]; exact hi) rfl rfl hd (fun H' e2 z oq => kk H' _ ls (hH.sta hh hn (am_SE_I (by rw [hk1]; rfl)) e2 z oq) hL (hS.put z oq (Nat.le_add_right _ _)))
theorem am_alen {t : Nat} {v : Int32} (C : am_C G M X) (hd : decode M.2.1 pc = .ok (.arraylength, 1)) (hq : pc + 1 = q) (hk : K h = (20 + t, len)) (ht : t < 6) (hh : h < N) (hv : Int32.ofNat len = v) (kk : am_A G M X R q L (.int v :: st) (N, K, Rf, I, J) c n) : am_A G M X R pc L (.ref h :: st) (N, K, Rf, I, J) c n := by
  subst hq
  intro H locs ls hH hL hS
  have hk1 : (K h).1 = 20 + t := by rw [hk]
  have e := hH.arr hh (by show ¬ (K h).1 < 20; omega)
  simp only [hk, Nat.add_sub_cancel_left] at e
  have e1 : ((Value.ref h :: st).map (am_cv G)) = .ref (am_b G + h) :: st.map (am_cv G) := by
    show Value.ref (am_rf G h) :: _ = _
    rw [hH.lt hh]
  rw [e1]
  have hA : ∃ ty, ArrOfT (am_s X) (G.2.1 t) ty := by
    rcases (show t = 0 ∨ t = 1 ∨ t = 2 ∨ t = 3 ∨ t = 4 ∨ t = 5 by omega) with rfl | rfl | rfl | rfl | rfl | rfl
    · exact ⟨_, am_E_arr C 0 rfl⟩
    · exact ⟨_, am_E_arr C 1 rfl⟩
    · exact ⟨_, am_E_arr C 2 rfl⟩
    · exact ⟨_, am_E_arr C 3 rfl⟩
    · exact ⟨_, am_E_arr C 4 rfl⟩
    · exact ⟨_, am_E_arr C 5 rfl⟩
  obtain ⟨ty, hA⟩ := hA
  exact W.alen (n := v) C.1 C.2.1 e (hA len _) (by rw [arrV_size]; exact hv) rfl rfl hd (kk H locs ls hH hL hS)
theorem am_get (C : am_C G M X) {idx : Nat} (F : am_FB M.1.cls idx ci k) (hd : decode M.2.1 pc = .ok (.getfield idx, 3)) (hq : pc + 3 = q) (hk : K h = (ci, len)) (hh : h < N) {v : Value} (hv : ∀ G : am_G, am_cv G v = am_val G (N, K, Rf, I, J) (am_ty ci k) h k) (kk : am_A G M X R q L (v :: st) (N, K, Rf, I, J) c n) : am_A G M X R pc L (.ref h :: st) (N, K, Rf, I, J) c n := by
  subst hq
  intro H locs ls hH hL hS
  obtain ⟨Cn, T, Nf, ⟨b1, b2, b3, b4, b5, b6⟩, hkN, hlink⟩ := F
  have hk1 : (K h).1 = ci := by rw [hk]
  have e := hH.obj hh (by show (K h).1 < 20; rw [hk1]; exact b6)
  simp only [hk, b5] at e
  obtain ⟨cell, q1, q2, q3, q4⟩ := e
  have hts := C.2.2.2.2.2.1
  obtain ⟨hSl, hfc, kC, hkC, hkind⟩ := C.2.2.2.2.2.2.2.1.1.1 ci _ b1
  obtain ⟨cf, kf, fi, f, hi, hsl⟩ := hSl k hkN
  have e1 : ((Value.ref h :: st).map (am_cv G)) = .ref (am_b G + h) :: st.map (am_cv G) := by
    show Value.ref (am_rf G h) :: _ = _
    rw [hH.lt hh]
  rw [e1]
  have hst := (u_facts hfc hkC (u_lays hts b2 hkN) hi).1
  have hval : cell.slots[f.slot]? = some (am_cv G v) := by rw [hsl, q4 k hkN, hv]
  rcases hlink with hl | ⟨host, hl⟩
  · exact W.getf C.1 C.2.1 C.2.2.2.2.1 (hts _ hl) hi hst q1 (by rw [q3]; exact fun h => by cases h) (v := am_cv G v) hval rfl rfl hd (kk H locs ls hH hL hS)
  · exact va_Wgetf C.1 C.2.1 C.2.2.2.2.1 (va_Nw.use (by
      obtain ⟨_, hf⟩ := List.mem_filter.mp hl
      rfl) (C.2.2.2.2.2.2.2.1.2.1 _ hl)) hi hst q1 (by rw [q3]; exact fun h => by cases h) (v := am_cv G v) hval rfl rfl hd (kk H locs ls hH hL hS)
theorem am_getI (C : am_C G M X) {idx : Nat} (F : am_FB M.1.cls idx ci k) (hd : decode M.2.1 pc = .ok (.getfield idx, 3)) (hq : pc + 3 = q) (ht : am_isI (am_ty ci k) = true) (hk : K h = (ci, len)) (hh : h < N) (kk : am_A G M X R q L (.int (I h k) :: st) (N, K, Rf, I, J) c n) : am_A G M X R pc L (.ref h :: st) (N, K, Rf, I, J) c n :=
  am_get C F hd hq hk hh (v := .int (I h k)) (fun G => (am_val_I (G := G) (w := (N, K, Rf, I, J)) ht h k).symm) kk
theorem am_getJ (C : am_C G M X) {idx : Nat} (F : am_FB M.1.cls idx ci k) (hd : decode M.2.1 pc = .ok (.getfield idx, 3)) (hq : pc + 3 = q) (ht : am_ty ci k = .long) (hk : K h = (ci, len)) (hh : h < N) (kk : am_A G M X R q L (.long (J h k) :: st) (N, K, Rf, I, J) c n) : am_A G M X R pc L (.ref h :: st) (N, K, Rf, I, J) c n :=
  am_get C F hd hq hk hh (v := .long (J h k)) (fun G => by rw [ht]; rfl) kk
theorem am_getR (C : am_C G M X) {idx : Nat} (F : am_FB M.1.cls idx ci k) (hd : decode M.2.1 pc = .ok (.getfield idx, 3)) (hq : pc + 3 = q) (ht : am_isR (am_ty ci k) = true) (hk : K h = (ci, len)) (hh : h < N) {r : Nat} (hr : Rf h k = some r) (kk : am_A G M X R q L (.ref r :: st) (N, K, Rf, I, J) c n) : am_A G M X R pc L (.ref h :: st) (N, K, Rf, I, J) c n :=
  am_get C F hd hq hk hh (v := .ref r) (fun G => by rw [am_val_R ht h k]; show _ = va_rf ((Rf h k).map (am_rf G)); rw [hr]; rfl) kk
/-- a field is written: any value -/
theorem am_putV (C : am_C G M X) {idx : Nat} (F : am_FW M.1.cls idx ci k) (hd : decode M.2.1 pc = .ok (.putfield idx, 3)) (hq : pc + 3 = q) (hk : K h = (ci, len)) (hh : h < N) {v : Value} {w' : am_W} (hw : am_SE G (N, K, Rf, I, J) w' h k (am_cv G v)) (hn : narrow (am_ty ci k) (am_cv G v) = am_cv G v) (hf : fits (am_ty ci k) (am_cv G v) = true) (kk : am_A G M X R q L st w' c n) : am_A G M X R pc L (v :: .ref h :: st) (N, K, Rf, I, J) c n := by
  subst hq
  intro H locs ls hH hL hS
  obtain ⟨Cn, T, Nf, ⟨b1, b2, b3, b4, b5, b6⟩, hkN, hfin, hlink⟩ := F
  have hk1 : (K h).1 = ci := by rw [hk]
  have hk2 : (K h).1 < 20 := by rw [hk1]; exact b6
  have e := hH.obj hh hk2
  simp only [hk, b5] at e
  obtain ⟨cell, q1, q2, q3, q4⟩ := e
  have hts := C.2.2.2.2.2.1
  have hap := va_apart (own := M.1.cls) hts b2 (am_ty ci) b3 b4 C.2.2.2.2.2.2.2.1.1 b1
  obtain ⟨hSl, hfc, kC, hkC, hkind⟩ := C.2.2.2.2.2.2.2.1.1.1 ci _ b1
  obtain ⟨cf, kf, fi, f, hi, hsl⟩ := hSl k hkN
  have e1 : ((v :: Value.ref h :: st).map (am_cv G)) = am_cv G v :: .ref (am_b G + h) :: st.map (am_cv G) := by
    show _ :: Value.ref (am_rf G h) :: _ = _
    rw [hH.lt hh]
  rw [e1]
  have hst := (u_facts hfc hkC (u_lays hts b2 hkN) hi).1
  have hlay := hts _ (b2 _ (u_in_lay hkN))
  unfold u_lay at hlay
  rw [if_neg (by rw [hfin]; decide)] at hlay
  have h6 := u_store hfc hkC hkind hlay hi (b3 k hkN) hn hf
  have fin : ∀ H' : Heap, H'[am_b G + h]? = some (cell.setSlot f.slot (am_cv G v)) → H'.size = H.size → (∀ q, q ≠ am_b G + h → H'[q]? = H[q]?) → am_H G w' H' := by
    intro H' e2 z oq
    refine hH.sto hh hw z oq ?_
    obtain ⟨s1, s2, s3⟩ := hw
    unfold am_cell
    rw [s2, if_pos hk2]
    simp only [hk, b5]
    refine ⟨_, e2, q2, q3, fun j hj => ?_⟩
    rw [hsl, t_set q4 hap hkN _ j hj]
    have s4 := s3 h j
    simp only [hk] at s4
    show some (updV _ k _ j) = some (am_val G w' (am_ty ci j) h j)
    rw [s4]
    by_cases hjk : j = k
    · simp [updV, hjk]
    · simp [updV, hjk]
  rcases hlink with hl | ⟨host, hl⟩
  · exact W.putK C.1 C.2.1 (f := f) ⟨C.2.2.2.2.1, hts _ hl, ⟨_, _, _, hi⟩, hst⟩ (by rw [q2]; exact h6) q1 q3 (by rw [hsl]; exact k2_hasslot (q4 k hkN)) rfl rfl hd fun H' e2 z oq => kk H' _ ls (fin H' e2 z oq) hL (hS.put z oq (Nat.le_add_right _ _))
  · exact va_WputK C.1 C.2.1 (f := f) C.2.2.2.2.1 (va_Nw.use rfl (C.2.2.2.2.2.2.2.1.2.1 _ hl)) hi hst (by rw [q2]; exact h6) q1 q3 (by rw [hsl]; exact k2_hasslot (q4 k hkN)) rfl rfl hd fun H' e2 z oq => kk H' _ ls (fin H' e2 z oq) hL (hS.put z oq (Nat.le_add_right _ _))
theorem am_putI {x : Int32} (C : am_C G M X) {idx : Nat} (F : am_FW M.1.cls idx ci k) (hd : decode M.2.1 pc = .ok (.putfield idx, 3)) (hq : pc + 3 = q) (ht : am_ty ci k = .int) (hk : K h = (ci, len)) (hh : h < N) (kk : am_A G M X R q L st (N, K, Rf, am_up I h k x, J) c n) : am_A G M X R pc L (.int x :: .ref h :: st) (N, K, Rf, I, J) c n :=
  am_putV C F hd hq hk hh (v := .int x) (am_SE_I (by simp only [hk]; rw [ht]; rfl)) (by rw [ht]; rfl) (by rw [ht]; rfl) kk
theorem am_putZ {x : Int32} (C : am_C G M X) {idx : Nat} (F : am_FW M.1.cls idx ci k) (hd : decode M.2.1 pc = .ok (.putfield idx, 3)) (hq : pc + 3 = q) (ht : am_ty ci k = .boolean) (hx : x = 0 ∨ x = 1) (hk : K h = (ci, len)) (hh : h < N) (kk : am_A G M X R q L st (N, K, Rf, am_up I h k x, J) c n) : am_A G M X R pc L (.int x :: .ref h :: st) (N, K, Rf, I, J) c n :=
  am_putV C F hd hq hk hh (v := .int x) (am_SE_I (by simp only [hk]; rw [ht]; rfl)) (by rw [ht]; rcases hx with rfl | rfl <;> rfl) (by rw [ht]; rcases hx with rfl | rfl <;> rfl) kk
theorem am_putJ {x : Int64} (C : am_C G M X) {idx : Nat} (F : am_FW M.1.cls idx ci k) (hd : decode M.2.1 pc = .ok (.putfield idx, 3)) (hq : pc + 3 = q) (ht : am_ty ci k = .long) (hk : K h = (ci, len)) (hh : h < N) (kk : am_A G M X R q L st (N, K, Rf, I, am_up J h k x) c n) : am_A G M X R pc L (.long x :: .ref h :: st) (N, K, Rf, I, J) c n :=
  am_putV C F hd hq hk hh (v := .long x) (am_SE_J (by simp only [hk]; rw [ht])) (by rw [ht]; rfl) (by rw [ht]; rfl) kk
end AM
