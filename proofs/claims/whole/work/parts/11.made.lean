theorem am_val_0 {G : am_G} {w : am_W} {t : FieldType} {h k : Nat} (hI : w.2.2.2.1 h k = 0) (hJ : w.2.2.2.2 h k = 0) (hR : w.2.2.1 h k = none) (ht : t ≠ .float ∧ t ≠ .double) : defaultValue t = am_val G w t h k := by
  cases t <;> first | (simp [am_val, defaultValue, hI, hJ, hR, va_rf]; done) | (exact absurd rfl ht.1) | (exact absurd rfl ht.2)
section AM
variable {G : am_G} {M : am_M} {X : am_X} {R : Room} {pc q : Nat} {L : List (Option Value)} {st : List Value} {c n : Nat} {N : Nat} {K : Nat → Nat × Nat} {Rf : Nat → Nat → Option Nat} {I : Nat → Nat → Int32} {J : Nat → Nat → Int64} {h k ci len idx : Nat}
theorem am_H.grow {H H' : Heap} (hH : am_H G (N, K, Rf, I, J) H) (hN : N + 1 ≤ 1000000) (z : H'.size = H.size + 1) (oq : ∀ q : Nat, q < H.size → H'[q]? = H[q]?) (hc : am_cell G (N + 1, K, Rf, I, J) H' N) : am_H G (N + 1, K, Rf, I, J) H' := by
  refine ⟨by rw [z, hH.1]; rfl, hN, fun a ha => ?_⟩
  by_cases e : a = N
  · rw [e]; exact hc
  · have hlt : a < N := by have : a < N + 1 := ha; omega
    have h1 := hH.2.2 a hlt
    have e2 : H'[am_b G + a]? = H[am_b G + a]? := oq _ (by rw [hH.1]; show _ < _ + N; omega)
    unfold am_cell at h1 ⊢
    show if (K a).1 < 20 then _ else _
    by_cases hk : (K a).1 < 20
    · rw [if_pos hk]
      have h2 : (if (K a).1 < 20 then t_OB (am_b G + a) (G.1.1 (K a).1) (am_nf (K a).1) (G.1.2 (K a).1) H (fun k => am_val G (N, K, Rf, I, J) (am_ty (K a).1 k) a k) else _) := h1
      rw [if_pos hk] at h2
      exact (h2.kept e2).to (fun k _ => by cases am_ty (K a).1 k <;> rfl)
    · rw [if_neg hk]
      have h2 : (if (K a).1 < 20 then _ else H[am_b G + a]? = some (arrV (G.2.1 ((K a).1 - 20)) (K a).2 (fun k => am_val G (N, K, Rf, I, J) (am_ty (K a).1 k) a k))) := h1
      rw [if_neg hk] at h2
      rw [e2, h2]
      refine congrArg (fun f => some (arrV _ _ f)) (funext fun k => ?_)
      cases am_ty (K a).1 k <;> rfl
theorem am_new {T : u_T} {Cn : String} {Nf : Nat} (C : am_C G M X) (hcb : am_CB ci Cn T Nf) (h1 : Cond.classLink M.1.cls idx Cn ∈ am_ws) (h2 : Cond.instantiable Cn Nf ∈ am_ws) (h3 : Cond.initialized Cn ∈ am_ws) (hd : decode M.2.1 pc = .ok (.new idx, 3)) (hq : pc + 3 = q) (hk : K N = (ci, len)) (hz : ∀ k, I N k = 0 ∧ J N k = 0 ∧ Rf N k = none) (hty : ∀ k, k < Nf → am_ty ci k ≠ .float ∧ am_ty ci k ≠ .double) (hN : N + 1 ≤ 1000000) (hc : c + 1 ≤ R.cells) (hn : n + Nf ≤ R.slots) (kk : am_A G M X R q L (.ref N :: st) (N + 1, K, Rf, I, J) (c + 1) (n + Nf)) : am_A G M X R pc L st (N, K, Rf, I, J) c n := by
  subst hq
  intro H locs ls hH hL hS
  obtain ⟨b1, b2, b3, b4, b5, b6⟩ := hcb
  have hts := C.2.2.2.2.2.1
  have hKn := C.2.2.2.2.2.2.2.1.1.1 ci _ b1
  refine W.newcK C.1 C.2.1 C.2.2.2.2.1 (hts _ h1) (hts _ h2) (hts _ h3) rfl hd hc hn hKn.2.1 rfl fun H1 kC hkC e1 z1 o1 => ?_
  have hsz : H.size = am_b G + N := hH.1
  have hcell : am_cell G (N + 1, K, Rf, I, J) H1 N := by
    unfold am_cell
    show if (K N).1 < 20 then _ else _
    rw [if_pos (by rw [hk]; exact b6)]
    show t_OB (am_b G + N) (G.1.1 (K N).1) (am_nf (K N).1) (G.1.2 (K N).1) H1 (fun k => am_val G (N + 1, K, Rf, I, J) (am_ty (K N).1 k) N k)
    rw [hk]
    show t_OB (am_b G + N) (G.1.1 ci) (am_nf ci) (G.1.2 ci) H1 (fun k => am_val G (N + 1, K, Rf, I, J) (am_ty ci k) N k)
    rw [b5]
    rw [hsz] at e1
    exact (u_born (am_ty ci) hts b2 hKn hkC e1 b3).to (fun k hkN => am_val_0 (w := (N + 1, K, Rf, I, J)) (hz k).1 (hz k).2.1 (hz k).2.2 (hty k hkN))
  have hH1 : am_H G (N + 1, K, Rf, I, J) H1 := hH.grow hN z1 o1 hcell
  have hfin := kk H1 locs ls hH1 hL ⟨Nat.le_trans hS.1 (by omega), fun x h1 h2 => (o1 x (Nat.lt_of_lt_of_le h1 hS.1)).trans (hS.2.1 x h1 h2), hS.2.2⟩
  have e3 : ((Value.ref N :: st).map (am_cv G)) = .ref H.size :: st.map (am_cv G) := by
    show Value.ref (am_rf G N) :: _ = _
    rw [hH1.lt (by show N < N + 1; omega), hsz]
  rw [e3] at hfin
  exact hfin
theorem am_newa {atype : ArrayType} {t : Nat} {ty : FieldType} {i : Int32} {Na : Nat} (C : am_C G M X) (h1 : Cond.arrayClass ty ∈ am_ws) (hty : newarray.typeOf atype = ty) (ht : (am_tys G)[t]? = some (G.2.1 t, ty)) (hat : ∀ k, am_ty (20 + t) k = ty) (htt : t < 4) (hd : decode M.2.1 pc = .ok (.newarray atype, 2)) (hq : pc + 2 = q) (hk : K N = (20 + t, Na)) (hi : i = Int32.ofNat Na) (hNa : Na < 30000) (hz : ∀ k, I N k = 0 ∧ J N k = 0 ∧ Rf N k = none) (hN : N + 1 ≤ 1000000) (hc : c + 1 ≤ R.cells) (hn : n + Na ≤ R.slots) (kk : am_A G M X R q L (.ref N :: st) (N + 1, K, Rf, I, J) (c + 1) (n + Na)) : am_A G M X R pc L (.int i :: st) (N, K, Rf, I, J) c n := by
  subst hq
  subst hty
  intro H locs ls hH hL hS
  have hts := C.2.2.2.2.2.1
  have hin : i.toNatClampNeg = Na := by rw [hi]; exact nI_clamp (by omega)
  have hi0 : ¬ i < 0 := by rw [hi]; exact nI_pos (by omega)
  have hsz : H.size = am_b G + N := hH.1
  refine va_newaK C.1 C.2.1 (hts _ h1) rfl hd rfl hi0 hin (by cases atype <;> simp [componentBytes, newarray.typeOf] <;> omega) hc hn rfl fun H1 cA e1 z1 o1 hAr hNm => ?_
  have hcA : cA = G.2.1 t := by
    have h2 := (C.2.2.2.2.2.2.2.1.1.2 t _ ht).2
    have h3 : (am_s X).vm.findClass ("[" ++ (newarray.typeOf atype).toString) = some (G.2.1 t) := by
      cases atype <;> exact h2
    exact Option.some.inj (hNm.symm.trans h3)
  have hcell : am_cell G (N + 1, K, Rf, I, J) H1 N := by
    unfold am_cell
    show if (K N).1 < 20 then _ else H1[am_b G + N]? = some (arrV (G.2.1 ((K N).1 - 20)) (K N).2 (fun k => am_val G (N + 1, K, Rf, I, J) (am_ty (K N).1 k) N k))
    rw [if_neg (by rw [hk]; show ¬ 20 + t < 20; omega), hk]
    show H1[am_b G + N]? = some (arrV (G.2.1 (20 + t - 20)) Na (fun k => am_val G (N + 1, K, Rf, I, J) (am_ty (20 + t) k) N k))
    rw [hsz] at e1
    rw [e1, hcA, Nat.add_sub_cancel_left]
    refine congrArg (fun f => some (arrV _ _ f)) (funext fun k => ?_)
    rw [hat]
    exact am_val_0 (w := (N + 1, K, Rf, I, J)) (hz k).1 (hz k).2.1 (hz k).2.2 (by
      rw [← hat 0]
      rcases (show t = 0 ∨ t = 1 ∨ t = 2 ∨ t = 3 by omega) with rfl | rfl | rfl | rfl <;> exact ⟨by simp [am_ty], by simp [am_ty]⟩)
  have hH1 : am_H G (N + 1, K, Rf, I, J) H1 := hH.grow hN z1 o1 hcell
  have hfin := kk H1 locs ls hH1 hL ⟨Nat.le_trans hS.1 (by omega), fun x h1 h2 => (o1 x (Nat.lt_of_lt_of_le h1 hS.1)).trans (hS.2.1 x h1 h2), hS.2.2⟩
  have e3 : ((Value.ref N :: st).map (am_cv G)) = .ref H.size :: st.map (am_cv G) := by
    show Value.ref (am_rf G N) :: _ = _
    rw [hH1.lt (by show N < N + 1; omega), hsz]
  rw [e3] at hfin
  exact hfin
theorem am_newq {Cn : String} {t : Nat} {i : Int32} {Na : Nat} (C : am_C G M X) (hao : va_AO Cn (am_s X)) (h1 : Cond.classLink M.1.cls idx Cn ∈ am_ws) (ht : (am_tys G)[t]? = some (G.2.1 t, .object Cn)) (hat : ∀ k, am_ty (20 + t) k = .object Cn) (hd : decode M.2.1 pc = .ok (.anewarray idx, 3)) (hq : pc + 3 = q) (hk : K N = (20 + t, Na)) (hi : i = Int32.ofNat Na) (hNa : Na < 30000) (hz : ∀ k, I N k = 0 ∧ J N k = 0 ∧ Rf N k = none) (hN : N + 1 ≤ 1000000) (hc : c + 1 ≤ R.cells) (hn : n + Na ≤ R.slots) (kk : am_A G M X R q L (.ref N :: st) (N + 1, K, Rf, I, J) (c + 1) (n + Na)) : am_A G M X R pc L (.int i :: st) (N, K, Rf, I, J) c n := by
  subst hq
  intro H locs ls hH hL hS
  have hts := C.2.2.2.2.2.1
  have hin : i.toNatClampNeg = Na := by rw [hi]; exact nI_clamp (by omega)
  have hi0 : ¬ i < 0 := by rw [hi]; exact nI_pos (by omega)
  have hsz : H.size = am_b G + N := hH.1
  subst hin
  refine W.anew C.1 C.2.1 C.2.2.2.2.1 (hts _ h1) (va_AO.use hao) rfl hd rfl hi0 (by omega) hc hn fun cA kA comp f1 f2 f3 f4 => ?_
  generalize hH1e : H.push ({ cls := cA, slots := Array.replicate i.toNatClampNeg .null, vm := .none } : Cell) = H1
  have z1 : H1.size = H.size + 1 := by rw [← hH1e, Array.size_push]
  have e1 : H1[H.size]? = some (arrV cA i.toNatClampNeg (fun _ => .null)) := by rw [← hH1e, Array.getElem?_push_size, ← arrV_new]
  have o1 : ∀ q : Nat, q < H.size → H1[q]? = H[q]? := fun q hq => by rw [← hH1e, Array.getElem?_push, if_neg (Nat.ne_of_lt hq)]
  have hcA : cA = G.2.1 t := by
    obtain ⟨kA2, comp2, g1, g2, g3, g4⟩ := (C.2.2.2.2.2.2.2.1.1.2 t _ ht).2
    exact Option.some.inj (f1.symm.trans g4)
  have hcell : am_cell G (N + 1, K, Rf, I, J) H1 N := by
    unfold am_cell
    show if (K N).1 < 20 then _ else H1[am_b G + N]? = some (arrV (G.2.1 ((K N).1 - 20)) (K N).2 (fun k => am_val G (N + 1, K, Rf, I, J) (am_ty (K N).1 k) N k))
    rw [if_neg (by rw [hk]; show ¬ 20 + t < 20; omega), hk]
    show H1[am_b G + N]? = some (arrV (G.2.1 (20 + t - 20)) i.toNatClampNeg (fun k => am_val G (N + 1, K, Rf, I, J) (am_ty (20 + t) k) N k))
    rw [hsz] at e1
    rw [e1, hcA, Nat.add_sub_cancel_left]
    refine congrArg (fun f => some (arrV _ _ f)) (funext fun k => ?_)
    rw [hat]
    show Value.null = va_rf ((Rf N k).map (am_rf G))
    rw [(hz k).2.2]; rfl
  have hH1 : am_H G (N + 1, K, Rf, I, J) H1 := hH.grow hN z1 o1 hcell
  have hfin := kk H1 locs ls hH1 hL ⟨Nat.le_trans hS.1 (by omega), fun x h1 h2 => (o1 x (Nat.lt_of_lt_of_le h1 hS.1)).trans (hS.2.1 x h1 h2), hS.2.2⟩
  have e3 : ((Value.ref N :: st).map (am_cv G)) = .ref H.size :: st.map (am_cv G) := by
    show Value.ref (am_rf G N) :: _ = _
    rw [hH1.lt (by show N < N + 1; omega), hsz]
  rw [e3] at hfin
  exact hfin
/-- a final reference field is written, in its own class's constructor -/
theorem am_putF {x : Nat} (C : am_C G M X) (F : am_FF M.1.cls idx ci k) (hm : M.1.name = "<init>") (hd : decode M.2.1 pc = .ok (.putfield idx, 3)) (hq : pc + 3 = q) (ht : am_isR (am_ty ci k) = true) (hk : K h = (ci, len)) (hh : h < N) (kk : am_A G M X R q L st (N, K, am_up Rf h k (some x), I, J) c n) : am_A G M X R pc L (.ref x :: .ref h :: st) (N, K, Rf, I, J) c n := by
  subst hq
  intro H locs ls hH hL hS
  obtain ⟨Cn, T, Nf, ⟨b1, b2, b3, b4, b5, b6⟩, hkN, hfin, hdecl, hl⟩ := F
  have hk1 : (K h).1 = ci := by rw [hk]
  have hk2 : (K h).1 < 20 := by rw [hk1]; exact b6
  have hw : am_SE G (N, K, Rf, I, J) (N, K, am_up Rf h k (some x), I, J) h k (am_cv G (va_rf (some x))) := am_SE_R (by simp only [hk]; exact ht)
  have e := hH.obj hh hk2
  simp only [hk, b5] at e
  obtain ⟨cell, q1, q2, q3, q4⟩ := e
  have hts := C.2.2.2.2.2.1
  have hap := va_apart (own := M.1.cls) hts b2 (am_ty ci) b3 b4 C.2.2.2.2.2.2.2.1.1 b1
  obtain ⟨hSl, hfc, kC, hkC, hkind⟩ := C.2.2.2.2.2.2.2.1.1.1 ci _ b1
  obtain ⟨cf, kf, fi, f, hi, hsl⟩ := hSl k hkN
  have e1 : ((Value.ref x :: Value.ref h :: st).map (am_cv G)) = .ref (am_rf G x) :: .ref (am_b G + h) :: st.map (am_cv G) := by
    show Value.ref (am_rf G x) :: Value.ref (am_rf G h) :: _ = _
    rw [hH.lt hh]
  rw [e1]
  have hst := (u_facts hfc hkC (u_lays hts b2 hkN) hi).1
  have hlay := hts _ (b2 _ (u_in_lay hkN))
  unfold u_lay at hlay
  rw [if_pos hfin] at hlay
  have hcf : X.2.2.2.2.1.cls = cf := by
    obtain ⟨_, _, c', _, _, _, -, -, hf', -, -, -, hown2, -⟩ := Cond.laysFinal_spec hlay
    have e1 : c' = cf := by have := hi.symm.trans hf'; simp at this; exact this.1.symm
    rw [hdecl] at hown2
    rw [← e1]; exact Option.some.inj (C.2.2.2.2.1.symm.trans hown2)
  have hn : narrow (am_ty ci k) (.ref (am_rf G x)) = .ref (am_rf G x) := by cases h9 : am_ty ci k <;> first | rfl | (rw [h9] at ht; cases ht)
  have hf : fits (am_ty ci k) (.ref (am_rf G x)) = true := by cases h9 : am_ty ci k <;> first | rfl | (rw [h9] at ht; cases ht)
  have h6 := u_fits hfc hkC hkind (Or.inr hlay) hi (b3 k hkN) hn hf
  refine W.putFinK C.1 C.2.1 C.2.2.2.2.1 (hts _ hl) hi hst hcf (C.2.2.2.2.2.2.2.2.2 hm) (by rw [q2]; exact h6) q1 q3 (by rw [hsl]; exact k2_hasslot (q4 k hkN)) rfl rfl hd fun H' e2 z oq => kk H' _ ls ?_ hL (hS.put z oq (Nat.le_add_right _ _))
  refine hH.sto hh hw z oq ?_
  obtain ⟨s1, s2, s3⟩ := hw
  unfold am_cell
  rw [s2, if_pos hk2]
  simp only [hk, b5]
  refine ⟨_, e2, q2, q3, fun j hj => ?_⟩
  rw [hsl, t_set q4 hap hkN _ j hj]
  have s4 := s3 h j
  simp only [hk] at s4
  show some (updV _ k _ j) = some (am_val G (N, K, am_up Rf h k (some x), I, J) (am_ty ci j) h j)
  rw [s4]
  by_cases hjk : j = k
  · simp [updV, hjk, va_rf, am_cv]
  · simp [updV, hjk]
/-- an object is put into an array of its class -/
theorem am_aast {t : Nat} {i : Int32} {Cn : String} {T : u_T} {Nf len2 v : Nat} (C : am_C G M X) (hcb : am_CB ci Cn T Nf) (ht : (am_tys G)[t]? = some (G.2.1 t, .object Cn)) (hat : ∀ k, am_ty (20 + t) k = .object Cn) (hd : decode M.2.1 pc = .ok (.aastore, 1)) (hq : pc + 1 = q) (hk : K h = (20 + t, len)) (hh : h < N) (hv : K v = (ci, len2)) (hvN : v < N) (hi : vp_in i len) (kk : am_A G M X R q L st (N, K, am_up Rf h i.toNatClampNeg (some v), I, J) c n) : am_A G M X R pc L (.ref v :: .int i :: .ref h :: st) (N, K, Rf, I, J) c n := by
  subst hq
  intro H locs ls hH hL hS
  obtain ⟨b1, b2, b3, b4, b5, b6⟩ := hcb
  have hk1 : (K h).1 = 20 + t := by rw [hk]
  have hn : ¬ (K h).1 < 20 := by rw [hk1]; omega
  have e := hH.arr hh hn
  have hlen : (K h).2 = len := by rw [hk]
  have hlt : i.toNatClampNeg < len := Nat.not_le.mp fun q => hi (Or.inr q)
  have h0 : ¬ i < 0 := fun q => hi (Or.inl q)
  have hv1 : (K v).1 = ci := by rw [hv]
  have ev := hH.obj hvN (by show (K v).1 < 20; rw [hv1]; exact b6)
  simp only [hv] at ev
  obtain ⟨cellV, g1, g2, g3, -⟩ := ev
  have hcls := (C.2.2.2.2.2.2.2.1.1.1 ci _ b1).2
  obtain ⟨kA, comp, k1, k2, k3, -⟩ := (C.2.2.2.2.2.2.2.1.1.2 t _ ht).2
  have hcomp : comp = G.1.1 ci := Option.some.inj (k3.symm.trans hcls.1)
  subst hcomp
  obtain ⟨kC, hkC, -⟩ := hcls.2
  have e1 : ((Value.ref v :: Value.int i :: Value.ref h :: st).map (am_cv G)) = .ref (am_b G + v) :: .int i :: .ref (am_b G + h) :: st.map (am_cv G) := by
    show Value.ref (am_rf G v) :: Value.int i :: Value.ref (am_rf G h) :: _ = _
    rw [hH.lt hh, hH.lt hvN]
  rw [e1]
  have hkA : (am_s X).vm.classes[(arrV (G.2.1 ((K h).1 - 20)) (K h).2 (fun k => am_val G (N, K, Rf, I, J) (am_ty (K h).1 k) h k)).cls]? = some kA := by
    show (am_s X).vm.classes[G.2.1 ((K h).1 - 20)]? = some kA
    rw [hk1, Nat.add_sub_cancel_left]; exact k1
  refine W.aast C.1 C.2.1 e (fun q h => by cases h) (fun h => by cases h) hkA k2 rfl hkC ⟨h0, by show _ < (arrV _ _ _).slots.size; rw [arrV_size]; show _ < (K h).2; rw [hlen]; exact hlt⟩ g1 (fun q h => by rw [g3] at h; cases h) (by rw [g2]; exact hkC) (by rw [g2]; exact va_assign hcls) rfl rfl hd fun H' e2 z oq => kk H' _ ls ?_ hL (hS.put z oq (Nat.le_add_right _ _))
  refine hH.sta hh hn (am_SE_R (by rw [hk1, hat]; rfl)) (k := i.toNatClampNeg) (v := am_cv G (va_rf (some v))) ?_ z oq
  rw [e2]
  show some (Cell.setSlot _ _ (Value.ref (am_b G + v))) = some (Cell.setSlot _ _ (Value.ref (am_rf G v)))
  rw [hH.lt hvN]
end AM
