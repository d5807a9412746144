variable {G : am_G} {I : Nat → Nat → Int32} {J : Nat → Nat → Int64}
theorem atL_push {n : Nat} {u : Nat → PT} {t t' : PT} {I' : Nat → Nat → Int32} {J' : Nat → Nat → Int64} (h : atL I J n u t) (hK : okP t) (h19 : I' 191 19 = iZ ((if n + 1 ≤ 30 then n + 1 else 30 : Nat) : Int)) (hsh : ∀ k, k + 1 < (if n + 1 ≤ 30 then n + 1 else 30) → (∀ r, 200 ≤ r → r ≤ 204 → I' r k = I r (if n + 1 ≤ 30 then k else k + 1)) ∧ J' 205 k = J 205 (if n + 1 ≤ 30 then k else k + 1)) (hl : lgS I' J' (if n + 1 ≤ 30 then n else 29) t' t) : atL I' J' (pushU t (n, u)).1 (pushU t (n, u)).2 t' := by
  have hn := h.2.1
  refine ⟨h19, by show (if n + 1 ≤ 30 then n + 1 else 30) ≤ 30; split <;> omega, fun i hi => ?_, fun i hi => ?_⟩
  · have hi : i < (if n + 1 ≤ 30 then n + 1 else 30) := hi
    show okP (if i = 0 then t else u (i - 1))
    by_cases e : i = 0
    · rw [if_pos e]; exact hK
    · rw [if_neg e]; exact h.2.2.1 _ (by split at hi <;> omega)
  · have hi : i < (if n + 1 ≤ 30 then n + 1 else 30) := hi
    show lgS I' J' ((if n + 1 ≤ 30 then n + 1 else 30) - 1 - i) (curL t' (fun i => if i = 0 then t else u (i - 1)) i) (if i = 0 then t else u (i - 1))
    by_cases e : i = 0
    · subst e
      rw [if_pos rfl]
      have e1 : (if n + 1 ≤ 30 then n + 1 else 30) - 1 - 0 = (if n + 1 ≤ 30 then n else 29) := by split <;> omega
      rw [e1]
      exact hl
    · rw [if_neg e]
      have e2 : curL t' (fun i => if i = 0 then t else u (i - 1)) i = curL t u (i - 1) := by
        unfold curL
        rw [if_neg e]
      rw [e2]
      have hi2 : i - 1 < n := by split at hi <;> omega
      have g := hsh ((if n + 1 ≤ 30 then n + 1 else 30) - 1 - i) (by split at hi <;> split <;> omega)
      have e3 : (if n + 1 ≤ 30 then ((if n + 1 ≤ 30 then n + 1 else 30) - 1 - i) else ((if n + 1 ≤ 30 then n + 1 else 30) - 1 - i) + 1) = n - 1 - (i - 1) := by split at hi <;> split <;> omega
      rw [e3] at g
      exact (h.2.2.2 (i - 1) hi2).on (fun r g1 g2 => g.1 r g1 g2) g.2
theorem atM_frL {σ : SG} {I' : Nat → Nat → Int32} {J' : Nat → Nat → Int64} (h : atM I J σ) (h1 : I' 191 1 = I 191 1) (h2 : I' 191 2 = I 191 2) (h3 : I' 191 3 = I 191 3) (h12 : I' 191 12 = I 191 12) (h21 : I' 191 21 = I 191 21) (hr : ∀ x, (196 ≤ x ∧ x ≤ 199) ∨ x = 206 ∨ 212 ≤ x → I' x = I x ∧ J' x = J x) {t : PT} {u : Nat × (Nat → PT)} (hQ : atQ I' J' t) (hK : okP t) (hL : atL I' J' u.1 u.2 t) : atM I' J' (t, u, σ.2.2) :=
  ⟨hQ, hK, hL, h1.trans h.2.2.2.1, h12.trans h.2.2.2.2.1, fun e => (h.2.2.2.2.2.1 e).on h2 h3 (hr 196 (by omega)).1 (hr 197 (by omega)).1 (hr 198 (by omega)).1 (hr 199 (by omega)).2, h.2.2.2.2.2.2.1.on h21 (hr 206 (by omega)).1, fun i hi => (h.2.2.2.2.2.2.2 i hi).on (hr 212 (by omega)).1 (hr 213 (by omega)).1 (hr 214 (by omega)).2⟩
set_option maxRecDepth 4000 in
theorem sp_X11_comes {σ : SG} (hM : atM I J σ) {a b : Nat} (ha : a ≤ 4) (hb : b ≤ 4) (hab : 1 ≤ a + b) (hm6 : pm σ.1 < 6) : am_S G mX11_comes 2 0 0 [.ref 191, .int (iZ (a : Int)), .int (iZ (b : Int))] (215, kK, kR, I, J) (am_qi (fun v w' => v = iZ (pm σ.1 : Int) ∧ ∃ (I' : Nat → Nat → Int32) (J' : Nat → Nat → Int64), w' = (215, kK, kR, I', J') ∧ atM I' J' (addP σ.1 a b, pushU σ.1 σ.2.1, σ.2.2) ∧ frM I J I' J')) := by
  have hQ := hM.1
  have hK := hM.2.1
  have hm := hM.2.1.1
  have hL := hM.2.2.1
  refine am_spec (plainFor_of_name (by decide +kernel)) (Nat.le_of_ble_eq_true rfl) (L := [some (.ref 191), some (.int (iZ (a : Int))), some (.int (iZ (b : Int))), none]) rfl (fun X C T => ?_)
  refine am_aload_n (q := 1) C dX11_comes_0 rfl rfl ?_
  refine am_getIe (q := 4) (v := (iZ (pm σ.1 : Int))) C fb_X11_86 dX11_comes_1 rfl rfl kk_191 (show 191 < 215 by decide) hQ.1 ?_
  refine am_istore_n (q := 5) (L' := [some (.ref 191), some (.int (iZ (a : Int))), some (.int (iZ (b : Int))), some (.int (iZ (pm σ.1 : Int)))]) C dX11_comes_4 rfl (by decide) rfl rfl ?_
  refine am_aload_n (q := 6) C dX11_comes_5 rfl rfl ?_
  refine am_iconst (q := 7) (v := iZ 0) C dX11_comes_6 rfl rfl ?_
  refine am_iload_n (q := 8) C dX11_comes_7 rfl rfl ?_
  refine am_callV (q := 11) (As := [.int (iZ 0), .int (iZ (pm σ.1 : Int))]) (rest := []) C mb_X11_changes im_X11_changes se_X11_changes ml_X11_96 cb_11 kk_191 (show 191 < 215 by decide) dX11_comes_8 rfl (sp_X11_changes hL.1 hL.2.1 (what := 0) (p := pm σ.1) (by omega)) rfl rfl ⟨by decide, by decide⟩ ⟨Nat.le_refl _, Nat.le_refl _⟩ (Nat.le_of_ble_eq_true rfl) (am_rv (fun w' hw' => ?_))
  obtain ⟨I1, J1, rfl, g19, gsh, g0, g1, g2, g3, g4, g5, gfr⟩ := hw'
  refine am_aload_n (q := 12) C dX11_comes_11 rfl rfl ?_
  refine am_getR (q := 15) C fb_X11_15 dX11_comes_12 rfl rfl kk_191 (show 191 < 215 by decide) kr_191_4 ?_
  refine am_iload_n (q := 16) C dX11_comes_15 rfl rfl ?_
  refine am_iload_n (q := 17) C dX11_comes_16 rfl rfl ?_
  refine am_iastoreZ (q := 18) (pm σ.1) C dX11_comes_17 rfl kk_192 (show 192 < 215 by decide) rfl (by omega) (by decide) ?_
  refine am_aload_n (q := 19) C dX11_comes_18 rfl rfl ?_
  refine am_getR (q := 22) C fb_X11_19 dX11_comes_19 rfl rfl kk_191 (show 191 < 215 by decide) kr_191_5 ?_
  refine am_iload_n (q := 23) C dX11_comes_22 rfl rfl ?_
  refine am_iload_n (q := 24) C dX11_comes_23 rfl rfl ?_
  refine am_iastoreZ (q := 25) (pm σ.1) C dX11_comes_24 rfl kk_193 (show 193 < 215 by decide) rfl (by omega) (by decide) ?_
  refine am_aload_n (q := 26) C dX11_comes_25 rfl rfl ?_
  refine am_getR (q := 29) C fb_X11_22 dX11_comes_26 rfl rfl kk_191 (show 191 < 215 by decide) kr_191_6 ?_
  refine am_iload_n (q := 30) C dX11_comes_29 rfl rfl ?_
  refine am_iconst (q := 31) (v := iZ 1) C dX11_comes_30 rfl rfl ?_
  refine am_iastoreZ (q := 32) (pm σ.1) C dX11_comes_31 rfl kk_194 (show 194 < 215 by decide) rfl (by omega) (by decide) ?_
  refine am_aload_n (q := 33) C dX11_comes_32 rfl rfl ?_
  refine am_getR (q := 36) C fb_X11_25 dX11_comes_33 rfl rfl kk_191 (show 191 < 215 by decide) kr_191_7 ?_
  refine am_iload_n (q := 37) C dX11_comes_36 rfl rfl ?_
  refine am_ldc2 (q := 40) C dX11_comes_37 rfl ck_X11_99 ?_
  refine am_longE (y := lN 2305843009213693951) rfl ?_
  refine am_lastoreZ (q := 41) (pm σ.1) C dX11_comes_40 rfl kk_195 (show 195 < 215 by decide) rfl (by omega) (by decide) ?_
  refine am_aload_n (q := 42) C dX11_comes_41 rfl rfl ?_
  refine am_dup (q := 43) C dX11_comes_42 rfl rfl ?_
  refine am_getIe (q := 46) (v := (iZ (pm σ.1 : Int))) C fb_X11_86 dX11_comes_43 rfl rfl kk_191 (show 191 < 215 by decide) (by rw [am_up_row _ _ _ _ (by decide), am_up_row _ _ _ _ (by decide), am_up_row _ _ _ _ (by decide)]; exact ((gfr.1 0 (by decide)).trans hQ.1)) ?_
  refine am_iconst (q := 47) (v := iZ 1) C dX11_comes_46 rfl rfl ?_
  refine am_iaddZ (q := 48) C dX11_comes_47 rfl ?_
  refine am_intE (y := (iZ ((pm σ.1 + 1 : Nat) : Int))) (congrArg iZ (by omega)) ?_
  refine am_putI (q := 51) C fw_X11_86 dX11_comes_48 rfl rfl kk_191 (show 191 < 215 by decide) ?_
  refine am_iload_n (q := 52) C dX11_comes_51 rfl rfl ?_
  refine am_iret C T dX11_comes_52 rfl (Nat.le_refl _) (Nat.le_refl _) ⟨_, rfl, ?_⟩
  have hQ' : atQ (am_up (am_up (am_up (am_up I1 192 (pm σ.1) (iZ (a : Int))) 193 (pm σ.1) (iZ (b : Int))) 194 (pm σ.1) (iZ 1)) 191 0 (iZ ((pm σ.1 + 1 : Nat) : Int))) (am_up J1 195 (pm σ.1) (lN 2305843009213693951)) (addP σ.1 a b) := by
    refine ⟨am_up_eq _ _ _ _, fun p hp => ?_⟩
    have hp : p < pm σ.1 + 1 := hp
    rw [pa_add, pb_add, pw_add, ps_add]
    by_cases e : p = pm σ.1
    · subst e; simp [am_up]
    · obtain ⟨q1, q2, q3, q4⟩ := hQ.2 p (by omega)
      have r1 := (gfr.2 192 (by decide) (by decide)).1
      have r2 := (gfr.2 193 (by decide) (by decide)).1
      have r3 := (gfr.2 194 (by decide) (by decide)).1
      have r4 := (gfr.2 195 (by decide) (by decide)).2
      simp [am_up, e, r1, r2, r3, r4]
      exact ⟨q1, q2, q3, q4⟩
  have hl : lgS I1 J1 (if σ.2.1.1 + 1 ≤ 30 then σ.2.1.1 else 29) (addP σ.1 a b) σ.1 := Or.inl ⟨g0, rfl, fun p hp => ⟨by rw [pa_add, if_neg (by omega)], by rw [pb_add, if_neg (by omega)], by rw [pw_add, if_neg (by omega)], by rw [ps_add, if_neg (by omega)]⟩⟩
  have hL' := atL_push hL hK g19 gsh hl
  have hfin := atM_frL (t := addP σ.1 a b) (u := pushU σ.1 σ.2.1) hM (I' := am_up (am_up (am_up (am_up I1 192 (pm σ.1) (iZ (a : Int))) 193 (pm σ.1) (iZ (b : Int))) 194 (pm σ.1) (iZ 1)) 191 0 (iZ ((pm σ.1 + 1 : Nat) : Int))) (J' := am_up J1 195 (pm σ.1) (lN 2305843009213693951)) (by simp [am_up]; exact gfr.1 1 (by decide)) (by simp [am_up]; exact gfr.1 2 (by decide)) (by simp [am_up]; exact gfr.1 3 (by decide)) (by simp [am_up]; exact gfr.1 12 (by decide)) (by simp [am_up]; exact gfr.1 21 (by decide)) (fun x hx => ⟨by rw [am_up_row _ _ _ _ (by omega), am_up_row _ _ _ _ (by omega), am_up_row _ _ _ _ (by omega), am_up_row _ _ _ _ (by omega)]; exact (gfr.2 x (by omega) (by omega)).1, by rw [am_up_row _ _ _ _ (by omega)]; exact (gfr.2 x (by omega) (by omega)).2⟩) hQ' (okP_add hK hm6 ha hb hab) (hL'.on (by simp [am_up]) (fun r q1 q2 => by rw [am_up_row _ _ _ _ (by omega), am_up_row _ _ _ _ (by omega), am_up_row _ _ _ _ (by omega), am_up_row _ _ _ _ (by omega)]) (by rw [am_up_row _ _ _ _ (by omega)]))
  exact ⟨rfl, _, _, rfl, hfin, fun x hx => ⟨by rw [am_up_row _ _ _ _ (by omega), am_up_row _ _ _ _ (by omega), am_up_row _ _ _ _ (by omega), am_up_row _ _ _ _ (by omega)]; exact (gfr.2 x (by omega) (by omega)).1, by rw [am_up_row _ _ _ _ (by omega)]; exact (gfr.2 x (by omega) (by omega)).2⟩⟩
theorem sp_comesM {σ : SG} (hM : atM I J σ) {a b : Nat} (ha : a ≤ 4) (hb : b ≤ 4) (hab : 1 ≤ a + b) (hm6 : pm σ.1 < 6) : am_S G mX11_comes 2 0 0 [.ref 191, .int (iZ (a : Int)), .int (iZ (b : Int))] (215, kK, kR, I, J) (am_qi (fun v w' => v = iZ (comesA σ) ∧ ∃ (I' : Nat → Nat → Int32) (J' : Nat → Nat → Int64), w' = (215, kK, kR, I', J') ∧ atM I' J' (comesS σ a b) ∧ frM I J I' J')) := by
  have h := sp_X11_comes (G := G) hM ha hb hab hm6
  have e1 : comesA σ = (pm σ.1 : Int) := by unfold comesA; rw [if_neg (by omega)]
  have e2 : comesS σ a b = (addP σ.1 a b, pushU σ.1 σ.2.1, σ.2.2) := by unfold comesS; rw [if_neg (by omega)]
  rw [e1, e2]
  exact h
theorem comesF {σ : SG} (h : ¬ pm σ.1 < 6) (a b : Nat) : comesA σ = -2 ∧ comesS σ a b = σ := by
  unfold comesA comesS
  rw [if_pos (by omega), if_pos (by omega)]
  exact ⟨rfl, rfl⟩
set_option maxRecDepth 4000 in
theorem sp_X11_part {σ : SG} (hM : atM I J σ) {a b : Int} (ra0 : rg a) (rb0 : rg b) : am_S G mX11_part 3 0 0 [.ref 191, .int (iZ a), .int (iZ b)] (215, kK, kR, I, J) (am_qi (fun v w' => v = iZ (if 0 ≤ a ∧ a ≤ 4 ∧ 0 ≤ b ∧ b ≤ 4 ∧ (0 < a ∨ 0 < b) then comesA σ else -1) ∧ ∃ (I' : Nat → Nat → Int32) (J' : Nat → Nat → Int64), w' = (215, kK, kR, I', J') ∧ atM I' J' (if 0 ≤ a ∧ a ≤ 4 ∧ 0 ≤ b ∧ b ≤ 4 ∧ (0 < a ∨ 0 < b) then comesS σ a.toNat b.toNat else σ) ∧ frM I J I' J')) := by
  have hQ := hM.1
  have hK := hM.2.1
  have hm := hM.2.1.1
  have hL := hM.2.2.1
  refine am_spec (plainFor_of_name (by decide +kernel)) (Nat.le_of_ble_eq_true rfl) (L := [some (.ref 191), some (.int (iZ a)), some (.int (iZ b))]) rfl (fun X C T => ?_)
  refine am_iload_n (q := 1) C dX11_part_0 rfl rfl ?_
  refine am_iconst (q := 2) (v := iZ 0) C dX11_part_1 rfl rfl ?_
  refine am_iconst (q := 3) (v := iZ 4) C dX11_part_2 rfl rfl ?_
  refine am_callS (q := 6) (As := [.int (iZ a), .int (iZ 0), .int (iZ 4)]) (rest := []) C mb_X11_in st_X11_in ml_X11_89 dX11_part_3 rfl (sp_X11_in (v := a) (a := 0) (b := 4) ra0 ⟨by omega, by omega⟩ ⟨by omega, by omega⟩) rfl rfl ⟨by decide, by decide⟩ ⟨Nat.le_refl _, Nat.le_refl _⟩ (Nat.le_of_ble_eq_true rfl) (am_rie ?_)
  refine am_ifB_eq (q := 9) (tgt := 24) C dX11_part_6 (by decide) rfl (fun c1 => ?_) (fun c1 => ?_)
  · refine am_iconst (q := 25) (v := iZ (-1)) C dX11_part_24 rfl rfl ?_
    refine am_iret C T dX11_part_25 rfl (Nat.le_refl _) (Nat.le_refl _) ⟨_, rfl, ?_⟩
    rw [if_neg (by omega), if_neg (by omega)]
    exact ⟨rfl, _, _, rfl, hM, frM_refl⟩
  · refine am_iload_n (q := 10) C dX11_part_9 rfl rfl ?_
    refine am_iconst (q := 11) (v := iZ 0) C dX11_part_10 rfl rfl ?_
    refine am_iconst (q := 12) (v := iZ 4) C dX11_part_11 rfl rfl ?_
    refine am_callS (q := 15) (As := [.int (iZ b), .int (iZ 0), .int (iZ 4)]) (rest := []) C mb_X11_in st_X11_in ml_X11_89 dX11_part_12 rfl (sp_X11_in (v := b) (a := 0) (b := 4) rb0 ⟨by omega, by omega⟩ ⟨by omega, by omega⟩) rfl rfl ⟨by decide, by decide⟩ ⟨Nat.le_refl _, Nat.le_refl _⟩ (Nat.le_of_ble_eq_true rfl) (am_rie ?_)
    refine am_ifB_eq (q := 18) (tgt := 24) C dX11_part_15 (by decide) rfl (fun c2 => ?_) (fun c2 => ?_)
    · refine am_iconst (q := 25) (v := iZ (-1)) C dX11_part_24 rfl rfl ?_
      refine am_iret C T dX11_part_25 rfl (Nat.le_refl _) (Nat.le_refl _) ⟨_, rfl, ?_⟩
      rw [if_neg (by omega), if_neg (by omega)]
      exact ⟨rfl, _, _, rfl, hM, frM_refl⟩
    · refine am_iload_n (q := 19) C dX11_part_18 rfl rfl ?_
      refine am_iload_n (q := 20) C dX11_part_19 rfl rfl ?_
      refine am_iaddZ (q := 21) C dX11_part_20 rfl ?_
      refine am_ifZ_ne (q := 24) (tgt := 26) C dX11_part_21 (by decide) rfl ⟨by omega, by omega⟩ (fun c3 => ?_) (fun c3 => ?_)
      · refine am_aload_n (q := 27) C dX11_part_26 rfl rfl ?_
        refine am_getIe (q := 30) (v := (iZ (pm σ.1 : Int))) C fb_X11_86 dX11_part_27 rfl rfl kk_191 (show 191 < 215 by decide) hQ.1 ?_
        refine am_bipush (q := 32) (v := iZ 6) C dX11_part_30 rfl rfl ?_
        refine am_icmpZ_ne (q := 35) (tgt := 40) C dX11_part_32 (by decide) rfl ⟨by omega, by omega⟩ ⟨by omega, by omega⟩ (fun c4 => ?_) (fun c4 => ?_)
        · refine am_aload_n (q := 41) C dX11_part_40 rfl rfl ?_
          refine am_iload_n (q := 42) C dX11_part_41 rfl rfl ?_
          refine am_iload_n (q := 43) C dX11_part_42 rfl rfl ?_
          obtain ⟨a1, rfl⟩ : ∃ q : Nat, a = q := ⟨a.toNat, by omega⟩
          obtain ⟨b1, rfl⟩ : ∃ q : Nat, b = q := ⟨b.toNat, by omega⟩
          refine am_callV (q := 46) (As := [.int (iZ (a1 : Int)), .int (iZ (b1 : Int))]) (rest := []) C mb_X11_comes im_X11_comes se_X11_comes ml_X11_101 cb_11 kk_191 (show 191 < 215 by decide) dX11_part_43 rfl (sp_comesM hM (a := a1) (b := b1) (by omega) (by omega) (by omega) (by omega)) rfl rfl ⟨by decide, by decide⟩ ⟨Nat.le_refl _, Nat.le_refl _⟩ (Nat.le_of_ble_eq_true rfl) (am_ri (fun v' w' hw' => ?_))
          obtain ⟨rfl, I1, J1, rfl, hM1, hf1⟩ := hw'
          refine am_iret C T dX11_part_46 rfl (Nat.le_refl _) (Nat.le_refl _) ⟨_, rfl, ?_⟩
          rw [if_pos (by omega), if_pos (by omega)]
          exact ⟨rfl, _, _, rfl, hM1, hf1⟩
        · refine am_bipush (q := 37) (v := iZ (-2)) C dX11_part_35 rfl rfl ?_
          refine am_goto (q := 46) C dX11_part_37 (by decide) ?_
          refine am_iret C T dX11_part_46 rfl (Nat.le_refl _) (Nat.le_refl _) ⟨_, rfl, ?_⟩
          rw [if_pos (by omega), if_pos (by omega), (comesF (by omega) 0 0).1, (comesF (by omega) _ _).2]
          exact ⟨rfl, _, _, rfl, hM, frM_refl⟩
      · refine am_iconst (q := 25) (v := iZ (-1)) C dX11_part_24 rfl rfl ?_
        refine am_iret C T dX11_part_25 rfl (Nat.le_refl _) (Nat.le_refl _) ⟨_, rfl, ?_⟩
        rw [if_neg (by omega), if_neg (by omega)]
        exact ⟨rfl, _, _, rfl, hM, frM_refl⟩
set_option maxRecDepth 4000 in
theorem sp_X11_arc {σ : SG} (hM : atM I J σ) {a b : Int} (ra0 : rg a) (rb0 : rg b) : am_S G mX11_arc 3 0 0 [.ref 191, .int (iZ a), .int (iZ b)] (215, kK, kR, I, J) (am_qi (fun v w' => v = iZ (if 0 ≤ a ∧ b ≤ 2 ∧ a < b then comesA σ else -1) ∧ ∃ (I' : Nat → Nat → Int32) (J' : Nat → Nat → Int64), w' = (215, kK, kR, I', J') ∧ atM I' J' (if 0 ≤ a ∧ b ≤ 2 ∧ a < b then comesS σ (if a = 0 then 1 else 0) (if b = 2 then 1 else 0) else σ) ∧ frM I J I' J')) := by
  have hQ := hM.1
  have hK := hM.2.1
  have hm := hM.2.1.1
  have hL := hM.2.2.1
  refine am_spec (plainFor_of_name (by decide +kernel)) (Nat.le_of_ble_eq_true rfl) (L := [some (.ref 191), some (.int (iZ a)), some (.int (iZ b))]) rfl (fun X C T => ?_)
  refine am_iload_n (q := 1) C dX11_arc_0 rfl rfl ?_
  refine am_iconst (q := 2) (v := iZ 0) C dX11_arc_1 rfl rfl ?_
  refine am_iconst (q := 3) (v := iZ 2) C dX11_arc_2 rfl rfl ?_
  refine am_callS (q := 6) (As := [.int (iZ a), .int (iZ 0), .int (iZ 2)]) (rest := []) C mb_X11_in st_X11_in ml_X11_89 dX11_arc_3 rfl (sp_X11_in (v := a) (a := 0) (b := 2) ra0 ⟨by omega, by omega⟩ ⟨by omega, by omega⟩) rfl rfl ⟨by decide, by decide⟩ ⟨Nat.le_refl _, Nat.le_refl _⟩ (Nat.le_of_ble_eq_true rfl) (am_rie ?_)
  refine am_ifB_eq (q := 9) (tgt := 23) C dX11_arc_6 (by decide) rfl (fun c1 => ?_) (fun c1 => ?_)
  · refine am_iconst (q := 24) (v := iZ (-1)) C dX11_arc_23 rfl rfl ?_
    refine am_iret C T dX11_arc_24 rfl (Nat.le_refl _) (Nat.le_refl _) ⟨_, rfl, ?_⟩
    rw [if_neg (by omega), if_neg (by omega)]
    exact ⟨rfl, _, _, rfl, hM, frM_refl⟩
  · refine am_iload_n (q := 10) C dX11_arc_9 rfl rfl ?_
    refine am_iconst (q := 11) (v := iZ 0) C dX11_arc_10 rfl rfl ?_
    refine am_iconst (q := 12) (v := iZ 2) C dX11_arc_11 rfl rfl ?_
    refine am_callS (q := 15) (As := [.int (iZ b), .int (iZ 0), .int (iZ 2)]) (rest := []) C mb_X11_in st_X11_in ml_X11_89 dX11_arc_12 rfl (sp_X11_in (v := b) (a := 0) (b := 2) rb0 ⟨by omega, by omega⟩ ⟨by omega, by omega⟩) rfl rfl ⟨by decide, by decide⟩ ⟨Nat.le_refl _, Nat.le_refl _⟩ (Nat.le_of_ble_eq_true rfl) (am_rie ?_)
    refine am_ifB_eq (q := 18) (tgt := 23) C dX11_arc_15 (by decide) rfl (fun c2 => ?_) (fun c2 => ?_)
    · refine am_iconst (q := 24) (v := iZ (-1)) C dX11_arc_23 rfl rfl ?_
      refine am_iret C T dX11_arc_24 rfl (Nat.le_refl _) (Nat.le_refl _) ⟨_, rfl, ?_⟩
      rw [if_neg (by omega), if_neg (by omega)]
      exact ⟨rfl, _, _, rfl, hM, frM_refl⟩
    · refine am_iload_n (q := 19) C dX11_arc_18 rfl rfl ?_
      refine am_iload_n (q := 20) C dX11_arc_19 rfl rfl ?_
      refine am_icmpZ_lt (q := 23) (tgt := 25) C dX11_arc_20 (by decide) rfl ra0 rb0 (fun c3 => ?_) (fun c3 => ?_)
      · refine am_aload_n (q := 26) C dX11_arc_25 rfl rfl ?_
        refine am_getIe (q := 29) (v := (iZ (pm σ.1 : Int))) C fb_X11_86 dX11_arc_26 rfl rfl kk_191 (show 191 < 215 by decide) hQ.1 ?_
        refine am_bipush (q := 31) (v := iZ 6) C dX11_arc_29 rfl rfl ?_
        refine am_icmpZ_ne (q := 34) (tgt := 39) C dX11_arc_31 (by decide) rfl ⟨by omega, by omega⟩ ⟨by omega, by omega⟩ (fun c4 => ?_) (fun c4 => ?_)
        · refine am_aload_n (q := 40) C dX11_arc_39 rfl rfl ?_
          refine am_iload_n (q := 41) C dX11_arc_40 rfl rfl ?_
          refine am_ifZ_ne (q := 44) (tgt := 48) C dX11_arc_41 (by decide) rfl ra0 (fun c5 => ?_) (fun c5 => ?_)
          · refine am_iconst (q := 49) (v := iZ 0) C dX11_arc_48 rfl rfl ?_
            refine am_iload_n (q := 50) C dX11_arc_49 rfl rfl ?_
            refine am_iconst (q := 51) (v := iZ 2) C dX11_arc_50 rfl rfl ?_
            refine am_icmpZ_ne (q := 54) (tgt := 58) C dX11_arc_51 (by decide) rfl rb0 ⟨by omega, by omega⟩ (fun c6 => ?_) (fun c6 => ?_)
            · refine am_iconst (q := 59) (v := iZ 0) C dX11_arc_58 rfl rfl ?_
              exfalso; omega
            · refine am_iconst (q := 55) (v := iZ 1) C dX11_arc_54 rfl rfl ?_
              refine am_goto (q := 59) C dX11_arc_55 (by decide) ?_
              refine am_callV (q := 62) (As := [.int (iZ (0 : Int)), .int (iZ (1 : Int))]) (rest := []) C mb_X11_comes im_X11_comes se_X11_comes ml_X11_101 cb_11 kk_191 (show 191 < 215 by decide) dX11_arc_59 rfl (sp_comesM hM (a := 0) (b := 1) (by omega) (by omega) (by omega) (by omega)) rfl rfl ⟨by decide, by decide⟩ ⟨Nat.le_refl _, Nat.le_refl _⟩ (Nat.le_of_ble_eq_true rfl) (am_ri (fun v' w' hw' => ?_))
              obtain ⟨rfl, I1, J1, rfl, hM1, hf1⟩ := hw'
              refine am_iret C T dX11_arc_62 rfl (Nat.le_refl _) (Nat.le_refl _) ⟨_, rfl, ?_⟩
              rw [if_pos (by omega), if_pos (by omega)]
              first | (rw [if_pos (show a = 0 by omega)]) | (rw [if_neg (show ¬ a = 0 by omega)])
              first | (rw [if_pos (show b = 2 by omega)]) | (rw [if_neg (show ¬ b = 2 by omega)])
              exact ⟨rfl, _, _, rfl, hM1, hf1⟩
          · refine am_iconst (q := 45) (v := iZ 1) C dX11_arc_44 rfl rfl ?_
            refine am_goto (q := 49) C dX11_arc_45 (by decide) ?_
            refine am_iload_n (q := 50) C dX11_arc_49 rfl rfl ?_
            refine am_iconst (q := 51) (v := iZ 2) C dX11_arc_50 rfl rfl ?_
            refine am_icmpZ_ne (q := 54) (tgt := 58) C dX11_arc_51 (by decide) rfl rb0 ⟨by omega, by omega⟩ (fun c7 => ?_) (fun c7 => ?_)
            · refine am_iconst (q := 59) (v := iZ 0) C dX11_arc_58 rfl rfl ?_
              refine am_callV (q := 62) (As := [.int (iZ (1 : Int)), .int (iZ (0 : Int))]) (rest := []) C mb_X11_comes im_X11_comes se_X11_comes ml_X11_101 cb_11 kk_191 (show 191 < 215 by decide) dX11_arc_59 rfl (sp_comesM hM (a := 1) (b := 0) (by omega) (by omega) (by omega) (by omega)) rfl rfl ⟨by decide, by decide⟩ ⟨Nat.le_refl _, Nat.le_refl _⟩ (Nat.le_of_ble_eq_true rfl) (am_ri (fun v' w' hw' => ?_))
              obtain ⟨rfl, I1, J1, rfl, hM1, hf1⟩ := hw'
              refine am_iret C T dX11_arc_62 rfl (Nat.le_refl _) (Nat.le_refl _) ⟨_, rfl, ?_⟩
              rw [if_pos (by omega), if_pos (by omega)]
              first | (rw [if_pos (show a = 0 by omega)]) | (rw [if_neg (show ¬ a = 0 by omega)])
              first | (rw [if_pos (show b = 2 by omega)]) | (rw [if_neg (show ¬ b = 2 by omega)])
              exact ⟨rfl, _, _, rfl, hM1, hf1⟩
            · refine am_iconst (q := 55) (v := iZ 1) C dX11_arc_54 rfl rfl ?_
              refine am_goto (q := 59) C dX11_arc_55 (by decide) ?_
              refine am_callV (q := 62) (As := [.int (iZ (1 : Int)), .int (iZ (1 : Int))]) (rest := []) C mb_X11_comes im_X11_comes se_X11_comes ml_X11_101 cb_11 kk_191 (show 191 < 215 by decide) dX11_arc_59 rfl (sp_comesM hM (a := 1) (b := 1) (by omega) (by omega) (by omega) (by omega)) rfl rfl ⟨by decide, by decide⟩ ⟨Nat.le_refl _, Nat.le_refl _⟩ (Nat.le_of_ble_eq_true rfl) (am_ri (fun v' w' hw' => ?_))
              obtain ⟨rfl, I1, J1, rfl, hM1, hf1⟩ := hw'
              refine am_iret C T dX11_arc_62 rfl (Nat.le_refl _) (Nat.le_refl _) ⟨_, rfl, ?_⟩
              rw [if_pos (by omega), if_pos (by omega)]
              first | (rw [if_pos (show a = 0 by omega)]) | (rw [if_neg (show ¬ a = 0 by omega)])
              first | (rw [if_pos (show b = 2 by omega)]) | (rw [if_neg (show ¬ b = 2 by omega)])
              exact ⟨rfl, _, _, rfl, hM1, hf1⟩
        · refine am_bipush (q := 36) (v := iZ (-2)) C dX11_arc_34 rfl rfl ?_
          refine am_goto (q := 62) C dX11_arc_36 (by decide) ?_
          refine am_iret C T dX11_arc_62 rfl (Nat.le_refl _) (Nat.le_refl _) ⟨_, rfl, ?_⟩
          rw [if_pos (by omega), if_pos (by omega), (comesF (by omega) 0 0).1, (comesF (by omega) _ _).2]
          exact ⟨rfl, _, _, rfl, hM, frM_refl⟩
      · refine am_iconst (q := 24) (v := iZ (-1)) C dX11_arc_23 rfl rfl ?_
        refine am_iret C T dX11_arc_24 rfl (Nat.le_refl _) (Nat.le_refl _) ⟨_, rfl, ?_⟩
        rw [if_neg (by omega), if_neg (by omega)]
        exact ⟨rfl, _, _, rfl, hM, frM_refl⟩
set_option maxRecDepth 4000 in
theorem sp_X11_drop {σ : SG} (hM : atM I J σ) : am_S G mX11_drop 2 0 0 [.ref 191] (215, kK, kR, I, J) (am_qi (fun v w' => v = iZ (if 1 ≤ pm σ.1 then ((pm σ.1 - 1 : Nat) : Int) else -3) ∧ ∃ (I' : Nat → Nat → Int32) (J' : Nat → Nat → Int64), w' = (215, kK, kR, I', J') ∧ atM I' J' (if 1 ≤ pm σ.1 then (dropP σ.1, pushU σ.1 σ.2.1, σ.2.2) else σ) ∧ frM I J I' J')) := by
  have hQ := hM.1
  have hK := hM.2.1
  have hm := hM.2.1.1
  have hL := hM.2.2.1
  refine am_spec (plainFor_of_name (by decide +kernel)) (Nat.le_of_ble_eq_true rfl) (L := [some (.ref 191)]) rfl (fun X C T => ?_)
  refine am_aload_n (q := 1) C dX11_drop_0 rfl rfl ?_
  refine am_getIe (q := 4) (v := (iZ (pm σ.1 : Int))) C fb_X11_86 dX11_drop_1 rfl rfl kk_191 (show 191 < 215 by decide) hQ.1 ?_
  refine am_ifZ_ne (q := 7) (tgt := 10) C dX11_drop_4 (by decide) rfl ⟨by omega, by omega⟩ (fun c1 => ?_) (fun c1 => ?_)
  · refine am_aload_n (q := 11) C dX11_drop_10 rfl rfl ?_
    refine am_iconst (q := 12) (v := iZ 1) C dX11_drop_11 rfl rfl ?_
    refine am_aload_n (q := 13) C dX11_drop_12 rfl rfl ?_
    refine am_getIe (q := 16) (v := (iZ (pm σ.1 : Int))) C fb_X11_86 dX11_drop_13 rfl rfl kk_191 (show 191 < 215 by decide) hQ.1 ?_
    refine am_iconst (q := 17) (v := iZ 1) C dX11_drop_16 rfl rfl ?_
    refine am_isubZ (q := 18) C dX11_drop_17 rfl ?_
    rw [show (pm σ.1 : Int) - 1 = ((pm σ.1 - 1 : Nat) : Int) by omega]
    refine am_callV (q := 21) (As := [.int (iZ 1), .int (iZ ((pm σ.1 - 1 : Nat) : Int))]) (rest := []) C mb_X11_changes im_X11_changes se_X11_changes ml_X11_96 cb_11 kk_191 (show 191 < 215 by decide) dX11_drop_18 rfl (sp_X11_changes hL.1 hL.2.1 (what := 1) (p := pm σ.1 - 1) (by omega)) rfl rfl ⟨by decide, by decide⟩ ⟨Nat.le_refl _, Nat.le_refl _⟩ (Nat.le_of_ble_eq_true rfl) (am_rv (fun w' hw' => ?_))
    obtain ⟨I1, J1, rfl, g19, gsh, g0, g1, g2, g3, g4, g5, gfr⟩ := hw'
    refine am_aload_n (q := 22) C dX11_drop_21 rfl rfl ?_
    refine am_dup (q := 23) C dX11_drop_22 rfl rfl ?_
    refine am_getIe (q := 26) (v := (iZ (pm σ.1 : Int))) C fb_X11_86 dX11_drop_23 rfl rfl kk_191 (show 191 < 215 by decide) ((gfr.1 0 (by decide)).trans hQ.1) ?_
    refine am_iconst (q := 27) (v := iZ 1) C dX11_drop_26 rfl rfl ?_
    refine am_isubZ (q := 28) C dX11_drop_27 rfl ?_
    refine am_intE (y := (iZ ((pm σ.1 - 1 : Nat) : Int))) (congrArg iZ (by omega)) ?_
    refine am_putI (q := 31) C fw_X11_86 dX11_drop_28 rfl rfl kk_191 (show 191 < 215 by decide) ?_
    refine am_aload_n (q := 32) C dX11_drop_31 rfl rfl ?_
    refine am_getIe (q := 35) (v := (iZ ((pm σ.1 - 1 : Nat) : Int))) C fb_X11_86 dX11_drop_32 rfl rfl kk_191 (show 191 < 215 by decide) (by rw [am_up_eq]) ?_
    refine am_iret C T dX11_drop_35 rfl (Nat.le_refl _) (Nat.le_refl _) ⟨_, rfl, ?_⟩
    rw [if_pos (by omega), if_pos (by omega)]
    obtain ⟨q1, q2, q3, q4⟩ := hQ.2 (pm σ.1 - 1) (by omega)
    have hQ' : atQ (am_up I1 191 0 (iZ ((pm σ.1 - 1 : Nat) : Int))) J1 (dropP σ.1) := by
      refine ⟨am_up_eq _ _ _ _, fun p hp => ?_⟩
      have hp : p < pm σ.1 - 1 := hp
      rw [am_up_row _ _ _ _ (by decide), am_up_row _ _ _ _ (by decide), am_up_row _ _ _ _ (by decide), (gfr.2 192 (by decide) (by decide)).1, (gfr.2 193 (by decide) (by decide)).1, (gfr.2 194 (by decide) (by decide)).1, (gfr.2 195 (by decide) (by decide)).2]
      exact hQ.2 p (by omega)
    have hl : lgS I1 J1 (if σ.2.1.1 + 1 ≤ 30 then σ.2.1.1 else 29) (dropP σ.1) σ.1 := Or.inr (Or.inl ⟨g0, by show pm σ.1 = pm σ.1 - 1 + 1; omega, g1, ⟨g2.trans q1, g3.trans q2, g4.trans q3, g5.trans q4⟩, fun p hp => ⟨rfl, rfl, rfl, rfl⟩⟩)
    have hL' := atL_push hL hK g19 gsh hl
    have hfin := atM_frL (t := dropP σ.1) (u := pushU σ.1 σ.2.1) hM (I' := am_up I1 191 0 (iZ ((pm σ.1 - 1 : Nat) : Int))) (J' := J1) (by simp [am_up]; exact gfr.1 1 (by decide)) (by simp [am_up]; exact gfr.1 2 (by decide)) (by simp [am_up]; exact gfr.1 3 (by decide)) (by simp [am_up]; exact gfr.1 12 (by decide)) (by simp [am_up]; exact gfr.1 21 (by decide)) (fun x hx => ⟨by rw [am_up_row _ _ _ _ (by omega)]; exact (gfr.2 x (by omega) (by omega)).1, (gfr.2 x (by omega) (by omega)).2⟩) hQ' (okP_drop hK) (hL'.on (by simp [am_up]) (fun r q1 q2 => am_up_row _ _ _ _ (by omega)) rfl)
    exact ⟨rfl, _, _, rfl, hfin, fun x hx => ⟨by rw [am_up_row _ _ _ _ (by omega)]; exact (gfr.2 x (by omega) (by omega)).1, (gfr.2 x (by omega) (by omega)).2⟩⟩
  · refine am_bipush (q := 9) (v := iZ (-3)) C dX11_drop_7 rfl rfl ?_
    refine am_iret C T dX11_drop_9 rfl (Nat.le_refl _) (Nat.le_refl _) ⟨_, rfl, ?_⟩
    rw [if_neg (by omega), if_neg (by omega)]
    exact ⟨rfl, _, _, rfl, hM, frM_refl⟩
set_option maxRecDepth 4000 in
theorem sp_X11_weigh {σ : SG} (hM : atM I J σ) {p v : Int} (hp : rg p) (hv : rg v) : am_S G mX11_weigh 3 0 0 [.ref 191, .int (iZ p), .int (iZ v)] (215, kK, kR, I, J) (am_qi (fun v0 w' => v0 = iZ (if (0 ≤ p ∧ p < pm σ.1) ∧ 1 ≤ v ∧ v ≤ 99 then (pw σ.1 p.toNat : Int) else -1) ∧ ∃ (I' : Nat → Nat → Int32) (J' : Nat → Nat → Int64), w' = (215, kK, kR, I', J') ∧ atM I' J' (if (0 ≤ p ∧ p < pm σ.1) ∧ 1 ≤ v ∧ v ≤ 99 then (setw σ.1 p.toNat v.toNat, pushU σ.1 σ.2.1, σ.2.2) else σ) ∧ frM I J I' J')) := by
  have hQ := hM.1
  have hK := hM.2.1
  have hm := hM.2.1.1
  have hL := hM.2.2.1
  refine am_spec (plainFor_of_name (by decide +kernel)) (Nat.le_of_ble_eq_true rfl) (L := [some (.ref 191), some (.int (iZ p)), some (.int (iZ v)), none]) rfl (fun X C T => ?_)
  refine am_aload_n (q := 1) C dX11_weigh_0 rfl rfl ?_
  refine am_iload_n (q := 2) C dX11_weigh_1 rfl rfl ?_
  refine am_callV (q := 5) (As := [.int (iZ p)]) (rest := []) C mb_X11_isPart im_X11_isPart se_X11_isPart ml_X11_105 cb_11 kk_191 (show 191 < 215 by decide) dX11_weigh_2 rfl (sp_X11_isPart hQ hK hp) rfl rfl ⟨by decide, by decide⟩ ⟨Nat.le_refl _, Nat.le_refl _⟩ (Nat.le_of_ble_eq_true rfl) (am_rie ?_)
  refine am_ifB_eq (q := 8) (tgt := 18) C dX11_weigh_5 (by decide) rfl (fun c1 => ?_) (fun c1 => ?_)
  · refine am_iconst (q := 19) (v := iZ (-1)) C dX11_weigh_18 rfl rfl ?_
    refine am_iret C T dX11_weigh_19 rfl (Nat.le_refl _) (Nat.le_refl _) ⟨_, rfl, ?_⟩
    rw [if_neg (by omega), if_neg (by omega)]
    exact ⟨rfl, _, _, rfl, hM, frM_refl⟩
  · refine am_iload_n (q := 9) C dX11_weigh_8 rfl rfl ?_
    refine am_iconst (q := 10) (v := iZ 1) C dX11_weigh_9 rfl rfl ?_
    refine am_bipush (q := 12) (v := iZ 99) C dX11_weigh_10 rfl rfl ?_
    refine am_callS (q := 15) (As := [.int (iZ v), .int (iZ 1), .int (iZ 99)]) (rest := []) C mb_X11_in st_X11_in ml_X11_89 dX11_weigh_12 rfl (sp_X11_in (v := v) (a := 1) (b := 99) hv ⟨by omega, by omega⟩ ⟨by omega, by omega⟩) rfl rfl ⟨by decide, by decide⟩ ⟨Nat.le_refl _, Nat.le_refl _⟩ (Nat.le_of_ble_eq_true rfl) (am_rie ?_)
    refine am_ifB_ne (q := 18) (tgt := 20) C dX11_weigh_15 (by decide) rfl (fun c2 => ?_) (fun c2 => ?_)
    · obtain ⟨q, rfl⟩ : ∃ q : Nat, p = q := ⟨p.toNat, by omega⟩
      obtain ⟨v1, rfl⟩ : ∃ q : Nat, v = q := ⟨v.toNat, by omega⟩
      refine am_aload_n (q := 21) C dX11_weigh_20 rfl rfl ?_
      refine am_getR (q := 24) C fb_X11_22 dX11_weigh_21 rfl rfl kk_191 (show 191 < 215 by decide) kr_191_6 ?_
      refine am_iload_n (q := 25) C dX11_weigh_24 rfl rfl ?_
      refine am_ialoadZ (q := 26) q C dX11_weigh_25 rfl kk_194 (show 194 < 215 by decide) rfl (by omega) (by decide) ?_
      refine am_intE (y := (iZ (pw σ.1 q : Int))) (hQ.2 q (by omega)).2.2.1 ?_
      refine am_istore_n (q := 27) (L' := [some (.ref 191), some (.int (iZ (q : Int))), some (.int (iZ (v1 : Int))), some (.int (iZ (pw σ.1 q : Int)))]) C dX11_weigh_26 rfl (by decide) rfl rfl ?_
      refine am_aload_n (q := 28) C dX11_weigh_27 rfl rfl ?_
      refine am_iconst (q := 29) (v := iZ 2) C dX11_weigh_28 rfl rfl ?_
      refine am_iload_n (q := 30) C dX11_weigh_29 rfl rfl ?_
      refine am_callV (q := 33) (As := [.int (iZ 2), .int (iZ (q : Int))]) (rest := []) C mb_X11_changes im_X11_changes se_X11_changes ml_X11_96 cb_11 kk_191 (show 191 < 215 by decide) dX11_weigh_30 rfl (sp_X11_changes hL.1 hL.2.1 (what := 2) (p := q) (by omega)) rfl rfl ⟨by decide, by decide⟩ ⟨Nat.le_refl _, Nat.le_refl _⟩ (Nat.le_of_ble_eq_true rfl) (am_rv (fun w' hw' => ?_))
      obtain ⟨I1, J1, rfl, g19, gsh, g0, g1, g2, g3, g4, g5, gfr⟩ := hw'
      refine am_aload_n (q := 34) C dX11_weigh_33 rfl rfl ?_
      refine am_getR (q := 37) C fb_X11_22 dX11_weigh_34 rfl rfl kk_191 (show 191 < 215 by decide) kr_191_6 ?_
      refine am_iload_n (q := 38) C dX11_weigh_37 rfl rfl ?_
      refine am_iload_n (q := 39) C dX11_weigh_38 rfl rfl ?_
      refine am_iastoreZ (q := 40) q C dX11_weigh_39 rfl kk_194 (show 194 < 215 by decide) rfl (by omega) (by decide) ?_
      refine am_iload_n (q := 41) C dX11_weigh_40 rfl rfl ?_
      refine am_iret C T dX11_weigh_41 rfl (Nat.le_refl _) (Nat.le_refl _) ⟨_, rfl, ?_⟩
      rw [if_pos (by omega), if_pos (by omega)]
      obtain ⟨q1, q2, q3, q4⟩ := hQ.2 q (by omega)
      simp only [Int.toNat_natCast]
      have hQ' : atQ (am_up I1 194 q (iZ (v1 : Int))) J1 (setw σ.1 q v1) := by
        refine ⟨by rw [am_up_row _ _ _ _ (by decide), gfr.1 0 (by decide)]; exact hQ.1, fun r hr => ?_⟩
        rw [am_up_row _ _ _ _ (by decide), am_up_row _ _ _ _ (by decide), (gfr.2 192 (by decide) (by decide)).1, (gfr.2 193 (by decide) (by decide)).1, (gfr.2 195 (by decide) (by decide)).2]
        obtain ⟨r1, r2, r3, r4⟩ := hQ.2 r hr
        refine ⟨r1, r2, ?_, r4⟩
        show am_up I1 194 q _ 194 r = iZ ((if r = q then v1 else pw σ.1 r : Nat) : Int)
        by_cases e : r = q
        · rw [if_pos e, e, am_up_eq]
        · rw [if_neg e, am_up_ne _ _ _ _ (Or.inr e), (gfr.2 194 (by decide) (by decide)).1]; exact r3
      have hl : lgS I1 J1 (if σ.2.1.1 + 1 ≤ 30 then σ.2.1.1 else 29) (setw σ.1 q v1) σ.1 := Or.inr (Or.inr ⟨q, 2, Or.inl rfl, g0, by show q < pm σ.1; omega, rfl, g1, ⟨g2.trans q1, g3.trans q2, g4.trans q3, g5.trans q4⟩, fun p hp hpq => ⟨rfl, rfl, if_neg hpq, rfl⟩⟩)
      have hL' := atL_push hL hK g19 gsh hl
      have hfin := atM_frL (t := setw σ.1 q v1) (u := pushU σ.1 σ.2.1) hM (I' := am_up I1 194 q (iZ (v1 : Int))) (J' := J1) (by simp [am_up]; exact gfr.1 1 (by decide)) (by simp [am_up]; exact gfr.1 2 (by decide)) (by simp [am_up]; exact gfr.1 3 (by decide)) (by simp [am_up]; exact gfr.1 12 (by decide)) (by simp [am_up]; exact gfr.1 21 (by decide)) (fun x hx => ⟨by rw [am_up_row _ _ _ _ (by omega)]; exact (gfr.2 x (by omega) (by omega)).1, (gfr.2 x (by omega) (by omega)).2⟩) hQ' (okP_setw hK (by omega)) (hL'.on (by simp [am_up]) (fun r q1 q2 => am_up_row _ _ _ _ (by omega)) rfl)
      exact ⟨by first | rfl | trivial, _, _, rfl, hfin, fun x hx => ⟨by rw [am_up_row _ _ _ _ (by omega)]; exact (gfr.2 x (by omega) (by omega)).1, (gfr.2 x (by omega) (by omega)).2⟩⟩
    · refine am_iconst (q := 19) (v := iZ (-1)) C dX11_weigh_18 rfl rfl ?_
      refine am_iret C T dX11_weigh_19 rfl (Nat.le_refl _) (Nat.le_refl _) ⟨_, rfl, ?_⟩
      rw [if_neg (by omega), if_neg (by omega)]
      exact ⟨rfl, _, _, rfl, hM, frM_refl⟩
