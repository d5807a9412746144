variable {G : am_G} {I : Nat → Nat → Int32} {J : Nat → Nat → Int64}
/-- the Model's parts -/
def atQ (I : Nat → Nat → Int32) (J : Nat → Nat → Int64) (t : PT) : Prop := I 191 0 = iZ (pm t) ∧ ∀ p, p < pm t → I 192 p = iZ (pa t p) ∧ I 193 p = iZ (pb t p) ∧ I 194 p = iZ (pw t p) ∧ J 195 p = lN (ps t p)
def smP (s t : PT) (p : Nat) : Prop := pa s p = pa t p ∧ pb s p = pb t p ∧ pw s p = pw t p ∧ ps s p = ps t p
def wasL (I : Nat → Nat → Int32) (J : Nat → Nat → Int64) (k : Nat) (t : PT) (p : Nat) : Prop := I 202 k = iZ (pa t p) ∧ I 203 k = iZ (pb t p) ∧ I 204 k = iZ (pw t p) ∧ J 205 k = lN (ps t p)
/-- place k of the log tells how t comes back out of s -/
def lgS (I : Nat → Nat → Int32) (J : Nat → Nat → Int64) (k : Nat) (s t : PT) : Prop :=
  (I 200 k = iZ 0 ∧ pm s = pm t + 1 ∧ ∀ p, p < pm t → smP s t p) ∨
  (I 200 k = iZ 1 ∧ pm t = pm s + 1 ∧ I 201 k = iZ (pm s : Int) ∧ wasL I J k t (pm s) ∧ ∀ p, p < pm s → smP s t p) ∨
  (∃ (q : Nat) (z : Int), (z = 2 ∨ z = 3) ∧ I 200 k = iZ z ∧ q < pm s ∧ pm t = pm s ∧ I 201 k = iZ (q : Int) ∧ wasL I J k t q ∧ ∀ p, p < pm s → p ≠ q → smP s t p)
theorem lgS.on {I I' : Nat → Nat → Int32} {J J' : Nat → Nat → Int64} {k j : Nat} {s t : PT} (h : lgS I J k s t) (hI : ∀ r, 200 ≤ r → r ≤ 204 → I' r j = I r k) (hJ : J' 205 j = J 205 k) : lgS I' J' j s t := by
  unfold lgS wasL
  rw [hI 200 (by omega) (by omega), hI 201 (by omega) (by omega), hI 202 (by omega) (by omega), hI 203 (by omega) (by omega), hI 204 (by omega) (by omega), hJ]
  exact h
def curL (t : PT) (u : Nat → PT) (i : Nat) : PT := if i = 0 then t else u (i - 1)
def atL (I : Nat → Nat → Int32) (J : Nat → Nat → Int64) (n : Nat) (u : Nat → PT) (t : PT) : Prop := I 191 19 = iZ (n : Int) ∧ n ≤ 30 ∧ (∀ i, i < n → okP (u i)) ∧ ∀ i, i < n → lgS I J (n - 1 - i) (curL t u i) (u i)
/-- what is kept; the tape; the sheets -/
def atK (I : Nat → Nat → Int32) (J : Nat → Nat → Int64) (t : PT) (z : Int32) : Prop := I 191 2 = iZ (pm t) ∧ I 191 3 = z ∧ okP t ∧ ∀ p, p < pm t → I 196 p = iZ (pa t p) ∧ I 197 p = iZ (pb t p) ∧ I 198 p = iZ (pw t p) ∧ J 199 p = lN (ps t p)
def atB (I : Nat → Nat → Int32) (n : Nat) (b : Nat → Nat) : Prop := I 191 21 = iZ (n : Int) ∧ n ≤ 100 ∧ ∀ k, k < n → I 206 k = iZ (b k : Int) ∧ b k < 256
def atH (I : Nat → Nat → Int32) (J : Nat → Nat → Int64) (i : Nat) (s : Int) (n : Nat) (f : Nat → Int64) : Prop := I 212 i = iZ s ∧ I 213 i = iZ (n : Int) ∧ -1 ≤ s ∧ s ≤ 2 ∧ n ≤ 60 ∧ ∀ k, k < 60 → J 214 (60 * i + k) = f k
def atM (I : Nat → Nat → Int32) (J : Nat → Nat → Int64) (σ : SG) : Prop := atQ I J σ.1 ∧ okP σ.1 ∧ atL I J σ.2.1.1 σ.2.1.2 σ.1 ∧ I 191 1 = σ.2.2.2.1 ∧ I 191 12 = (if σ.2.2.1.2.1 then 1 else 0) ∧ (σ.2.2.1.2.1 = true → atK I J σ.2.2.1.1 σ.2.2.1.2.2) ∧ atB I σ.2.2.2.2.1.1 σ.2.2.2.2.1.2 ∧ ∀ i, i < 4 → atH I J i (sS σ i) (sN σ i) (sF σ i)
def frM (I : Nat → Nat → Int32) (J : Nat → Nat → Int64) (I' : Nat → Nat → Int32) (J' : Nat → Nat → Int64) : Prop := ∀ h, h < 191 → I' h = I h ∧ J' h = J h
theorem frM_refl : frM I J I J := fun _ _ => ⟨rfl, rfl⟩
theorem frM_tr {I1 I2 : Nat → Nat → Int32} {J1 J2 : Nat → Nat → Int64} (h : frM I J I1 J1) (g : frM I1 J1 I2 J2) : frM I J I2 J2 := fun x hx => ⟨(g x hx).1.trans (h x hx).1, (g x hx).2.trans (h x hx).2⟩
/-- scratch alone has changed -/
def frS (I : Nat → Nat → Int32) (J : Nat → Nat → Int64) (I' : Nat → Nat → Int32) (J' : Nat → Nat → Int64) : Prop := (∀ k, k ≤ 21 → I' 191 k = I 191 k) ∧ ∀ h, h ≠ 191 → h < 207 ∨ 211 < h → I' h = I h ∧ J' h = J h
theorem frS_refl : frS I J I J := ⟨fun _ _ => rfl, fun _ _ _ => ⟨rfl, rfl⟩⟩
theorem frS_tr {I1 I2 : Nat → Nat → Int32} {J1 J2 : Nat → Nat → Int64} (h : frS I J I1 J1) (g : frS I1 J1 I2 J2) : frS I J I2 J2 := ⟨fun k hk => (g.1 k hk).trans (h.1 k hk), fun x h1 h2 => ⟨(g.2 x h1 h2).1.trans (h.2 x h1 h2).1, (g.2 x h1 h2).2.trans (h.2 x h1 h2).2⟩⟩
theorem frS.M {I1 : Nat → Nat → Int32} {J1 : Nat → Nat → Int64} (h : frS I J I1 J1) : frM I J I1 J1 := fun x hx => h.2 x (by omega) (by omega)
theorem atQ.on {I' : Nat → Nat → Int32} {J' : Nat → Nat → Int64} {t : PT} (h : atQ I J t) (h0 : I' 191 0 = I 191 0) (h1 : I' 192 = I 192) (h2 : I' 193 = I 193) (h3 : I' 194 = I 194) (h4 : J' 195 = J 195) : atQ I' J' t := by unfold atQ; rw [h0, h1, h2, h3, h4]; exact h
theorem atL.on {I' : Nat → Nat → Int32} {J' : Nat → Nat → Int64} {n : Nat} {u : Nat → PT} {t : PT} (h : atL I J n u t) (h0 : I' 191 19 = I 191 19) (h1 : ∀ r, 200 ≤ r → r ≤ 204 → I' r = I r) (h2 : J' 205 = J 205) : atL I' J' n u t := ⟨h0.trans h.1, h.2.1, h.2.2.1, fun i hi => (h.2.2.2 i hi).on (fun r g1 g2 => by rw [h1 r g1 g2]) (by rw [h2])⟩
theorem atK.on {I' : Nat → Nat → Int32} {J' : Nat → Nat → Int64} {t : PT} {z : Int32} (h : atK I J t z) (h0 : I' 191 2 = I 191 2) (h9 : I' 191 3 = I 191 3) (h1 : I' 196 = I 196) (h2 : I' 197 = I 197) (h3 : I' 198 = I 198) (h4 : J' 199 = J 199) : atK I' J' t z := by unfold atK; rw [h0, h9, h1, h2, h3, h4]; exact h
theorem atB.on {I' : Nat → Nat → Int32} {n : Nat} {b : Nat → Nat} (h : atB I n b) (h0 : I' 191 21 = I 191 21) (h1 : I' 206 = I 206) : atB I' n b := by unfold atB; rw [h0, h1]; exact h
theorem atH.on {I' : Nat → Nat → Int32} {J' : Nat → Nat → Int64} {i : Nat} {s : Int} {n : Nat} {f : Nat → Int64} (h : atH I J i s n f) (h1 : I' 212 = I 212) (h2 : I' 213 = I 213) (h3 : J' 214 = J 214) : atH I' J' i s n f := by unfold atH; rw [h1, h2, h3]; exact h
theorem atM.scr {σ : SG} {I' : Nat → Nat → Int32} {J' : Nat → Nat → Int64} (h : atM I J σ) (hf : frS I J I' J') : atM I' J' σ := by
  obtain ⟨h1, h2, h3, h4, h5, h6, h7, h8⟩ := h
  obtain ⟨f1, f2⟩ := hf
  exact ⟨h1.on (f1 0 (by omega)) (f2 192 (by omega) (by omega)).1 (f2 193 (by omega) (by omega)).1 (f2 194 (by omega) (by omega)).1 (f2 195 (by omega) (by omega)).2, h2, h3.on (f1 19 (by omega)) (fun r g1 g2 => (f2 r (by omega) (by omega)).1) (f2 205 (by omega) (by omega)).2, (f1 1 (by omega)).trans h4, (f1 12 (by omega)).trans h5, fun e => (h6 e).on (f1 2 (by omega)) (f1 3 (by omega)) (f2 196 (by omega) (by omega)).1 (f2 197 (by omega) (by omega)).1 (f2 198 (by omega) (by omega)).1 (f2 199 (by omega) (by omega)).2, h7.on (f1 21 (by omega)) (f2 206 (by omega) (by omega)).1, fun i hi => (h8 i hi).on (f2 212 (by omega) (by omega)).1 (f2 213 (by omega) (by omega)).1 (f2 214 (by omega) (by omega)).2⟩
set_option maxRecDepth 4000 in
theorem sp_X11_in {v a b : Int} (hv : rg v) (ha : rg a) (hb : rg b) : am_S G mX11_in 1 0 0 [.int (iZ v), .int (iZ a), .int (iZ b)] (215, kK, kR, I, J) (am_fi (if a ≤ v ∧ v ≤ b then 1 else 0) (215, kK, kR, I, J)) := by
  refine am_spec (plainFor_of_name (by decide +kernel)) (Nat.le_of_ble_eq_true rfl) (L := [some (.int (iZ v)), some (.int (iZ a)), some (.int (iZ b))]) rfl (fun X C T => ?_)
  refine am_iload_n (q := 1) C dX11_in_0 rfl rfl ?_
  refine am_iload_n (q := 2) C dX11_in_1 rfl rfl ?_
  refine am_icmpZ_lt (q := 5) (tgt := 14) C dX11_in_2 (by decide) rfl hv ha (fun c1 => ?_) (fun c1 => ?_)
  · refine am_iconst (q := 15) (v := iZ 0) C dX11_in_14 rfl rfl ?_
    refine am_zretB (b := false) C T dX11_in_15 rfl (Nat.le_refl _) (Nat.le_refl _) rfl ⟨_, rfl, ?_⟩
    refine ⟨?_, rfl⟩
    first | (rw [if_neg (by omega)]; rfl) | (rw [if_pos (by omega)]; rfl)
  · refine am_iload_n (q := 6) C dX11_in_5 rfl rfl ?_
    refine am_iload_n (q := 7) C dX11_in_6 rfl rfl ?_
    refine am_icmpZ_gt (q := 10) (tgt := 14) C dX11_in_7 (by decide) rfl hv hb (fun c2 => ?_) (fun c2 => ?_)
    · refine am_iconst (q := 15) (v := iZ 0) C dX11_in_14 rfl rfl ?_
      refine am_zretB (b := false) C T dX11_in_15 rfl (Nat.le_refl _) (Nat.le_refl _) rfl ⟨_, rfl, ?_⟩
      refine ⟨?_, rfl⟩
      first | (rw [if_neg (by omega)]; rfl) | (rw [if_pos (by omega)]; rfl)
    · refine am_iconst (q := 11) (v := iZ 1) C dX11_in_10 rfl rfl ?_
      refine am_goto (q := 15) C dX11_in_11 (by decide) ?_
      refine am_zretB (b := true) C T dX11_in_15 rfl (Nat.le_refl _) (Nat.le_refl _) rfl ⟨_, rfl, ?_⟩
      refine ⟨?_, rfl⟩
      first | (rw [if_neg (by omega)]; rfl) | (rw [if_pos (by omega)]; rfl)
set_option maxRecDepth 4000 in
theorem sp_X11_isPart {t : PT} (hA : atQ I J t) (hK : okP t) {p : Int} (hp : rg p) : am_S G mX11_isPart 2 0 0 [.ref 191, .int (iZ p)] (215, kK, kR, I, J) (am_fi (if 0 ≤ p ∧ p < pm t then 1 else 0) (215, kK, kR, I, J)) := by
  have hm := hK.1
  refine am_spec (plainFor_of_name (by decide +kernel)) (Nat.le_of_ble_eq_true rfl) (L := [some (.ref 191), some (.int (iZ p))]) rfl (fun X C T => ?_)
  refine am_iload_n (q := 1) C dX11_isPart_0 rfl rfl ?_
  refine am_iconst (q := 2) (v := iZ 0) C dX11_isPart_1 rfl rfl ?_
  refine am_aload_n (q := 3) C dX11_isPart_2 rfl rfl ?_
  refine am_getIe (q := 6) (v := (iZ (pm t : Int))) C fb_X11_86 dX11_isPart_3 rfl rfl kk_191 (show 191 < 215 by decide) hA.1 ?_
  refine am_iconst (q := 7) (v := iZ 1) C dX11_isPart_6 rfl rfl ?_
  refine am_isubZ (q := 8) C dX11_isPart_7 rfl ?_
  refine am_callS (q := 11) (As := [.int (iZ p), .int (iZ 0), .int (iZ ((pm t : Int) - 1))]) (rest := []) C mb_X11_in st_X11_in ml_X11_89 dX11_isPart_8 rfl (sp_X11_in (v := p) (a := 0) (b := (pm t : Int) - 1) hp ⟨by omega, by omega⟩ ⟨by omega, by omega⟩) rfl rfl ⟨by decide, by decide⟩ ⟨Nat.le_refl _, Nat.le_refl _⟩ (Nat.le_of_ble_eq_true rfl) (am_rie ?_)
  refine am_zret C T dX11_isPart_11 rfl (ite_nar _) (Nat.le_refl _) (Nat.le_refl _) ⟨_, rfl, ?_⟩
  refine ⟨?_, rfl⟩
  by_cases c : 0 ≤ p ∧ p < (pm t : Int)
  · rw [if_pos c, if_pos (by omega)]
  · rw [if_neg c, if_neg (by omega)]
/-- a row of the log when it is full: all go one place down -/
def frL (I : Nat → Nat → Int32) (J : Nat → Nat → Int64) (I' : Nat → Nat → Int32) (J' : Nat → Nat → Int64) : Prop := (∀ k, k ≠ 19 → I' 191 k = I 191 k) ∧ ∀ h, h ≠ 191 → h < 200 ∨ 205 < h → I' h = I h ∧ J' h = J h
set_option maxRecDepth 8000 in
theorem sp_X11_changes {n : Nat} (hn : I 191 19 = iZ (n : Int)) (hn30 : n ≤ 30) {what : Int} {p : Nat} (hp : p < 6) : am_S G mX11_changes 1 0 0 [.ref 191, .int (iZ what), .int (iZ (p : Int))] (215, kK, kR, I, J) (am_qv (fun w' => ∃ (I' : Nat → Nat → Int32) (J' : Nat → Nat → Int64), w' = (215, kK, kR, I', J') ∧ I' 191 19 = iZ ((if n + 1 ≤ 30 then n + 1 else 30 : Nat) : Int) ∧ (∀ k, k + 1 < (if n + 1 ≤ 30 then n + 1 else 30) → (∀ r, 200 ≤ r → r ≤ 204 → I' r k = I r (if n + 1 ≤ 30 then k else k + 1)) ∧ J' 205 k = J 205 (if n + 1 ≤ 30 then k else k + 1)) ∧ I' 200 (if n + 1 ≤ 30 then n else 29) = iZ what ∧ I' 201 (if n + 1 ≤ 30 then n else 29) = iZ (p : Int) ∧ I' 202 (if n + 1 ≤ 30 then n else 29) = I 192 p ∧ I' 203 (if n + 1 ≤ 30 then n else 29) = I 193 p ∧ I' 204 (if n + 1 ≤ 30 then n else 29) = I 194 p ∧ J' 205 (if n + 1 ≤ 30 then n else 29) = J 195 p ∧ frL I J I' J')) := by
  refine am_spec (plainFor_of_name (by decide +kernel)) (Nat.le_of_ble_eq_true rfl) (L := [some (.ref 191), some (.int (iZ what)), some (.int (iZ (p : Int))), none]) rfl (fun X C T => ?_)
  have lp : ∀ (fuel : Nat) (k : Nat) (I1 : Nat → Nat → Int32) (J1 : Nat → Nat → Int64), (1 ≤ k) → (k ≤ 30) → (I1 191 19 = iZ (30 : Int)) → ((∀ k, k ≠ 19 → I1 191 k = I 191 k) ∧ ∀ h, h ≠ 191 → h < 200 ∨ 205 < h → I1 h = I h ∧ J1 h = J h) → (∀ r, 200 ≤ r → r ≤ 204 → ∀ j, j < 30 → I1 r j = if j + 1 < k then I r (j + 1) else I r j) → (∀ j, j < 30 → J1 205 j = if j + 1 < k then J 205 (j + 1) else J 205 j) → (30 - k) < fuel → (∀ (I1 : Nat → Nat → Int32) (J1 : Nat → Nat → Int64), (I1 191 19 = iZ (30 : Int)) → ((∀ k, k ≠ 19 → I1 191 k = I 191 k) ∧ ∀ h, h ≠ 191 → h < 200 ∨ 205 < h → I1 h = I h ∧ J1 h = J h) → (∀ r, 200 ≤ r → r ≤ 204 → ∀ j, j + 1 < 30 → I1 r j = I r (j + 1)) → (∀ j, j + 1 < 30 → J1 205 j = J 205 (j + 1)) → am_A G mX11_changes X (am_rm 1 0 0) 107 [some (.ref 191), some (.int (iZ what)), some (.int (iZ (p : Int))), none] [] (215, kK, kR, I1, J1) 0 0) → am_A G mX11_changes X (am_rm 1 0 0) 11 [some (.ref 191), some (.int (iZ what)), some (.int (iZ (p : Int))), some (.int (iZ (k : Int)))] [] (215, kK, kR, I1, J1) 0 0 := by
    intro fuel
    induction fuel with
    | zero => intro k I1 J1 hk1 hk h19 hO hU hV hfu hk9; exact absurd hfu (Nat.not_lt_zero _)
    | succ fuel ih =>
      intro k I1 J1 hk1 hk h19 hO hU hV hfu hk9
      refine am_iload_n (q := 12) C dX11_changes_11 rfl rfl ?_
      refine am_bipush (q := 14) (v := iZ 30) C dX11_changes_12 rfl rfl ?_
      refine am_icmpZ_ge (q := 17) (tgt := 107) C dX11_changes_14 (by decide) rfl ⟨by omega, by omega⟩ ⟨by omega, by omega⟩ (fun c1 => ?_) (fun c1 => ?_)
      · refine am_wkA (L1 := [some (.ref 191), some (.int (iZ what)), some (.int (iZ (p : Int))), none]) ⟨rfl, ⟨rfl, ⟨rfl, trivial⟩⟩⟩ ?_
        exact hk9 I1 J1 h19 hO (fun r g1 g2 j hj => (hU r g1 g2 j (by omega)).trans (if_pos (by omega))) (fun j hj => (hV j (by omega)).trans (if_pos (by omega)))
      · refine am_aload_n (q := 18) C dX11_changes_17 rfl rfl ?_
        refine am_getR (q := 21) C fb_X11_41 dX11_changes_18 rfl rfl kk_191 (show 191 < 215 by decide) kr_191_13 ?_
        refine am_iload_n (q := 22) C dX11_changes_21 rfl rfl ?_
        refine am_iconst (q := 23) (v := iZ 1) C dX11_changes_22 rfl rfl ?_
        refine am_isubZ (q := 24) C dX11_changes_23 rfl ?_
        refine am_aload_n (q := 25) C dX11_changes_24 rfl rfl ?_
        refine am_getR (q := 28) C fb_X11_41 dX11_changes_25 rfl rfl kk_191 (show 191 < 215 by decide) kr_191_13 ?_
        refine am_iload_n (q := 29) C dX11_changes_28 rfl rfl ?_
        refine am_ialoadZ (q := 30) k C dX11_changes_29 rfl kk_200 (show 200 < 215 by decide) rfl (by omega) (by decide) ?_
        refine am_intE (y := (I 200 k)) ((hU 200 (by omega) (by omega) k (by omega)).trans (if_neg (by omega))) ?_
        refine am_iastoreZ (q := 31) (k - 1) C dX11_changes_30 rfl kk_200 (show 200 < 215 by decide) (by omega) (by omega) (by decide) ?_
        refine am_aload_n (q := 32) C dX11_changes_31 rfl rfl ?_
        refine am_getR (q := 35) C fb_X11_44 dX11_changes_32 rfl rfl kk_191 (show 191 < 215 by decide) kr_191_14 ?_
        refine am_iload_n (q := 36) C dX11_changes_35 rfl rfl ?_
        refine am_iconst (q := 37) (v := iZ 1) C dX11_changes_36 rfl rfl ?_
        refine am_isubZ (q := 38) C dX11_changes_37 rfl ?_
        refine am_aload_n (q := 39) C dX11_changes_38 rfl rfl ?_
        refine am_getR (q := 42) C fb_X11_44 dX11_changes_39 rfl rfl kk_191 (show 191 < 215 by decide) kr_191_14 ?_
        refine am_iload_n (q := 43) C dX11_changes_42 rfl rfl ?_
        refine am_ialoadZ (q := 44) k C dX11_changes_43 rfl kk_201 (show 201 < 215 by decide) rfl (by omega) (by decide) ?_
        refine am_intE (y := (I 201 k)) (by rw [am_up_row _ _ _ _ (by decide)]; exact ((hU 201 (by omega) (by omega) k (by omega)).trans (if_neg (by omega)))) ?_
        refine am_iastoreZ (q := 45) (k - 1) C dX11_changes_44 rfl kk_201 (show 201 < 215 by decide) (by omega) (by omega) (by decide) ?_
        refine am_aload_n (q := 46) C dX11_changes_45 rfl rfl ?_
        refine am_getR (q := 49) C fb_X11_47 dX11_changes_46 rfl rfl kk_191 (show 191 < 215 by decide) kr_191_15 ?_
        refine am_iload_n (q := 50) C dX11_changes_49 rfl rfl ?_
        refine am_iconst (q := 51) (v := iZ 1) C dX11_changes_50 rfl rfl ?_
        refine am_isubZ (q := 52) C dX11_changes_51 rfl ?_
        refine am_aload_n (q := 53) C dX11_changes_52 rfl rfl ?_
        refine am_getR (q := 56) C fb_X11_47 dX11_changes_53 rfl rfl kk_191 (show 191 < 215 by decide) kr_191_15 ?_
        refine am_iload_n (q := 57) C dX11_changes_56 rfl rfl ?_
        refine am_ialoadZ (q := 58) k C dX11_changes_57 rfl kk_202 (show 202 < 215 by decide) rfl (by omega) (by decide) ?_
        refine am_intE (y := (I 202 k)) (by rw [am_up_row _ _ _ _ (by decide), am_up_row _ _ _ _ (by decide)]; exact ((hU 202 (by omega) (by omega) k (by omega)).trans (if_neg (by omega)))) ?_
        refine am_iastoreZ (q := 59) (k - 1) C dX11_changes_58 rfl kk_202 (show 202 < 215 by decide) (by omega) (by omega) (by decide) ?_
        refine am_aload_n (q := 60) C dX11_changes_59 rfl rfl ?_
        refine am_getR (q := 63) C fb_X11_50 dX11_changes_60 rfl rfl kk_191 (show 191 < 215 by decide) kr_191_16 ?_
        refine am_iload_n (q := 64) C dX11_changes_63 rfl rfl ?_
        refine am_iconst (q := 65) (v := iZ 1) C dX11_changes_64 rfl rfl ?_
        refine am_isubZ (q := 66) C dX11_changes_65 rfl ?_
        refine am_aload_n (q := 67) C dX11_changes_66 rfl rfl ?_
        refine am_getR (q := 70) C fb_X11_50 dX11_changes_67 rfl rfl kk_191 (show 191 < 215 by decide) kr_191_16 ?_
        refine am_iload_n (q := 71) C dX11_changes_70 rfl rfl ?_
        refine am_ialoadZ (q := 72) k C dX11_changes_71 rfl kk_203 (show 203 < 215 by decide) rfl (by omega) (by decide) ?_
        refine am_intE (y := (I 203 k)) (by rw [am_up_row _ _ _ _ (by decide), am_up_row _ _ _ _ (by decide), am_up_row _ _ _ _ (by decide)]; exact ((hU 203 (by omega) (by omega) k (by omega)).trans (if_neg (by omega)))) ?_
        refine am_iastoreZ (q := 73) (k - 1) C dX11_changes_72 rfl kk_203 (show 203 < 215 by decide) (by omega) (by omega) (by decide) ?_
        refine am_aload_n (q := 74) C dX11_changes_73 rfl rfl ?_
        refine am_getR (q := 77) C fb_X11_53 dX11_changes_74 rfl rfl kk_191 (show 191 < 215 by decide) kr_191_17 ?_
        refine am_iload_n (q := 78) C dX11_changes_77 rfl rfl ?_
        refine am_iconst (q := 79) (v := iZ 1) C dX11_changes_78 rfl rfl ?_
        refine am_isubZ (q := 80) C dX11_changes_79 rfl ?_
        refine am_aload_n (q := 81) C dX11_changes_80 rfl rfl ?_
        refine am_getR (q := 84) C fb_X11_53 dX11_changes_81 rfl rfl kk_191 (show 191 < 215 by decide) kr_191_17 ?_
        refine am_iload_n (q := 85) C dX11_changes_84 rfl rfl ?_
        refine am_ialoadZ (q := 86) k C dX11_changes_85 rfl kk_204 (show 204 < 215 by decide) rfl (by omega) (by decide) ?_
        refine am_intE (y := (I 204 k)) (by rw [am_up_row _ _ _ _ (by decide), am_up_row _ _ _ _ (by decide), am_up_row _ _ _ _ (by decide), am_up_row _ _ _ _ (by decide)]; exact ((hU 204 (by omega) (by omega) k (by omega)).trans (if_neg (by omega)))) ?_
        refine am_iastoreZ (q := 87) (k - 1) C dX11_changes_86 rfl kk_204 (show 204 < 215 by decide) (by omega) (by omega) (by decide) ?_
        refine am_aload_n (q := 88) C dX11_changes_87 rfl rfl ?_
        refine am_getR (q := 91) C fb_X11_56 dX11_changes_88 rfl rfl kk_191 (show 191 < 215 by decide) kr_191_18 ?_
        refine am_iload_n (q := 92) C dX11_changes_91 rfl rfl ?_
        refine am_iconst (q := 93) (v := iZ 1) C dX11_changes_92 rfl rfl ?_
        refine am_isubZ (q := 94) C dX11_changes_93 rfl ?_
        refine am_aload_n (q := 95) C dX11_changes_94 rfl rfl ?_
        refine am_getR (q := 98) C fb_X11_56 dX11_changes_95 rfl rfl kk_191 (show 191 < 215 by decide) kr_191_18 ?_
        refine am_iload_n (q := 99) C dX11_changes_98 rfl rfl ?_
        refine am_laloadZ (q := 100) k C dX11_changes_99 rfl kk_205 (show 205 < 215 by decide) rfl (by omega) (by decide) ?_
        refine am_longE (y := (J 205 k)) ((hV k (by omega)).trans (if_neg (by omega))) ?_
        refine am_lastoreZ (q := 101) (k - 1) C dX11_changes_100 rfl kk_205 (show 205 < 215 by decide) (by omega) (by omega) (by decide) ?_
        refine am_iincZ (q := 104) (L' := [some (.ref 191), some (.int (iZ what)), some (.int (iZ (p : Int))), some (.int (iZ ((k + 1 : Nat) : Int)))]) C dX11_changes_101 rfl rfl (by omega) (by decide) rfl rfl ?_
        refine am_goto (q := 11) C dX11_changes_104 (by decide) ?_
        refine ih (k + 1) _ _ (by omega) (by omega) ?_ ⟨fun j hj => ?_, fun h h1 h2 => ⟨?_, ?_⟩⟩ (fun r g1 g2 j hj => ?_) (fun j hj => ?_) (by omega) hk9
        · repeat rw [am_up_row _ _ _ _ (by decide)]
          exact h19
        · repeat rw [am_up_row _ _ _ _ (by decide)]
          exact hO.1 j hj
        · repeat rw [am_up_row _ _ _ _ (by omega)]
          exact (hO.2 h h1 h2).1
        · rw [am_up_row _ _ _ _ (by omega)]
          exact (hO.2 h h1 h2).2
        · by_cases e : j = k - 1
          · subst e
            rw [if_pos (by omega), show k - 1 + 1 = k by omega]
            rcases (show r = 200 ∨ r = 201 ∨ r = 202 ∨ r = 203 ∨ r = 204 by omega) with e | e | e | e | e <;> subst e <;> simp [am_up]
          · have h8 := hU r g1 g2 j hj
            have h9 : (if j + 1 < k then I r (j + 1) else I r j) = if j + 1 < k + 1 then I r (j + 1) else I r j := by
              by_cases e2 : j + 1 < k
              · rw [if_pos e2, if_pos (by omega)]
              · rw [if_neg e2, if_neg (by omega)]
            rw [← h9, ← h8]
            rw [am_up_ne _ _ _ _ (Or.inr e), am_up_ne _ _ _ _ (Or.inr e), am_up_ne _ _ _ _ (Or.inr e), am_up_ne _ _ _ _ (Or.inr e), am_up_ne _ _ _ _ (Or.inr e)]
        · by_cases e : j = k - 1
          · subst e; rw [if_pos (by omega), show k - 1 + 1 = k by omega, am_up_eq]
          · rw [am_up_ne _ _ _ _ (Or.inr e), hV j hj]
            by_cases e2 : j + 1 < k
            · rw [if_pos e2, if_pos (by omega)]
            · rw [if_neg e2, if_neg (by omega)]
  refine am_aload_n (q := 1) C dX11_changes_0 rfl rfl ?_
  refine am_getIe (q := 4) (v := (iZ (n : Int))) C fb_X11_93 dX11_changes_1 rfl rfl kk_191 (show 191 < 215 by decide) hn ?_
  refine am_bipush (q := 6) (v := iZ 30) C dX11_changes_4 rfl rfl ?_
  refine am_icmpZ_ne (q := 9) (tgt := 117) C dX11_changes_6 (by decide) rfl ⟨by omega, by omega⟩ ⟨by omega, by omega⟩ (fun c2 => ?_) (fun c2 => ?_)
  · refine am_aload_n (q := 118) C dX11_changes_117 rfl rfl ?_
    refine am_getR (q := 121) C fb_X11_41 dX11_changes_118 rfl rfl kk_191 (show 191 < 215 by decide) kr_191_13 ?_
    refine am_aload_n (q := 122) C dX11_changes_121 rfl rfl ?_
    refine am_getIe (q := 125) (v := (iZ (n : Int))) C fb_X11_93 dX11_changes_122 rfl rfl kk_191 (show 191 < 215 by decide) hn ?_
    refine am_iload_n (q := 126) C dX11_changes_125 rfl rfl ?_
    refine am_iastoreZ (q := 127) n C dX11_changes_126 rfl kk_200 (show 200 < 215 by decide) rfl (by omega) (by decide) ?_
    refine am_aload_n (q := 128) C dX11_changes_127 rfl rfl ?_
    refine am_getR (q := 131) C fb_X11_44 dX11_changes_128 rfl rfl kk_191 (show 191 < 215 by decide) kr_191_14 ?_
    refine am_aload_n (q := 132) C dX11_changes_131 rfl rfl ?_
    refine am_getIe (q := 135) (v := (iZ (n : Int))) C fb_X11_93 dX11_changes_132 rfl rfl kk_191 (show 191 < 215 by decide) (by rw [am_up_row _ _ _ _ (by decide)]; exact hn) ?_
    refine am_iload_n (q := 136) C dX11_changes_135 rfl rfl ?_
    refine am_iastoreZ (q := 137) n C dX11_changes_136 rfl kk_201 (show 201 < 215 by decide) rfl (by omega) (by decide) ?_
    refine am_aload_n (q := 138) C dX11_changes_137 rfl rfl ?_
    refine am_getR (q := 141) C fb_X11_47 dX11_changes_138 rfl rfl kk_191 (show 191 < 215 by decide) kr_191_15 ?_
    refine am_aload_n (q := 142) C dX11_changes_141 rfl rfl ?_
    refine am_getIe (q := 145) (v := (iZ (n : Int))) C fb_X11_93 dX11_changes_142 rfl rfl kk_191 (show 191 < 215 by decide) (by rw [am_up_row _ _ _ _ (by decide), am_up_row _ _ _ _ (by decide)]; exact hn) ?_
    refine am_aload_n (q := 146) C dX11_changes_145 rfl rfl ?_
    refine am_getR (q := 149) C fb_X11_15 dX11_changes_146 rfl rfl kk_191 (show 191 < 215 by decide) kr_191_4 ?_
    refine am_iload_n (q := 150) C dX11_changes_149 rfl rfl ?_
    refine am_ialoadZ (q := 151) p C dX11_changes_150 rfl kk_192 (show 192 < 215 by decide) rfl (by omega) (by decide) ?_
    refine am_intE (y := (I 192 p)) (by rw [am_up_row _ _ _ _ (by decide), am_up_row _ _ _ _ (by decide)]) ?_
    refine am_iastoreZ (q := 152) n C dX11_changes_151 rfl kk_202 (show 202 < 215 by decide) rfl (by omega) (by decide) ?_
    refine am_aload_n (q := 153) C dX11_changes_152 rfl rfl ?_
    refine am_getR (q := 156) C fb_X11_50 dX11_changes_153 rfl rfl kk_191 (show 191 < 215 by decide) kr_191_16 ?_
    refine am_aload_n (q := 157) C dX11_changes_156 rfl rfl ?_
    refine am_getIe (q := 160) (v := (iZ (n : Int))) C fb_X11_93 dX11_changes_157 rfl rfl kk_191 (show 191 < 215 by decide) (by rw [am_up_row _ _ _ _ (by decide), am_up_row _ _ _ _ (by decide), am_up_row _ _ _ _ (by decide)]; exact hn) ?_
    refine am_aload_n (q := 161) C dX11_changes_160 rfl rfl ?_
    refine am_getR (q := 164) C fb_X11_19 dX11_changes_161 rfl rfl kk_191 (show 191 < 215 by decide) kr_191_5 ?_
    refine am_iload_n (q := 165) C dX11_changes_164 rfl rfl ?_
    refine am_ialoadZ (q := 166) p C dX11_changes_165 rfl kk_193 (show 193 < 215 by decide) rfl (by omega) (by decide) ?_
    refine am_intE (y := (I 193 p)) (by rw [am_up_row _ _ _ _ (by decide), am_up_row _ _ _ _ (by decide), am_up_row _ _ _ _ (by decide)]) ?_
    refine am_iastoreZ (q := 167) n C dX11_changes_166 rfl kk_203 (show 203 < 215 by decide) rfl (by omega) (by decide) ?_
    refine am_aload_n (q := 168) C dX11_changes_167 rfl rfl ?_
    refine am_getR (q := 171) C fb_X11_53 dX11_changes_168 rfl rfl kk_191 (show 191 < 215 by decide) kr_191_17 ?_
    refine am_aload_n (q := 172) C dX11_changes_171 rfl rfl ?_
    refine am_getIe (q := 175) (v := (iZ (n : Int))) C fb_X11_93 dX11_changes_172 rfl rfl kk_191 (show 191 < 215 by decide) (by rw [am_up_row _ _ _ _ (by decide), am_up_row _ _ _ _ (by decide), am_up_row _ _ _ _ (by decide), am_up_row _ _ _ _ (by decide)]; exact hn) ?_
    refine am_aload_n (q := 176) C dX11_changes_175 rfl rfl ?_
    refine am_getR (q := 179) C fb_X11_22 dX11_changes_176 rfl rfl kk_191 (show 191 < 215 by decide) kr_191_6 ?_
    refine am_iload_n (q := 180) C dX11_changes_179 rfl rfl ?_
    refine am_ialoadZ (q := 181) p C dX11_changes_180 rfl kk_194 (show 194 < 215 by decide) rfl (by omega) (by decide) ?_
    refine am_intE (y := (I 194 p)) (by rw [am_up_row _ _ _ _ (by decide), am_up_row _ _ _ _ (by decide), am_up_row _ _ _ _ (by decide), am_up_row _ _ _ _ (by decide)]) ?_
    refine am_iastoreZ (q := 182) n C dX11_changes_181 rfl kk_204 (show 204 < 215 by decide) rfl (by omega) (by decide) ?_
    refine am_aload_n (q := 183) C dX11_changes_182 rfl rfl ?_
    refine am_getR (q := 186) C fb_X11_56 dX11_changes_183 rfl rfl kk_191 (show 191 < 215 by decide) kr_191_18 ?_
    refine am_aload_n (q := 187) C dX11_changes_186 rfl rfl ?_
    refine am_getIe (q := 190) (v := (iZ (n : Int))) C fb_X11_93 dX11_changes_187 rfl rfl kk_191 (show 191 < 215 by decide) (by rw [am_up_row _ _ _ _ (by decide), am_up_row _ _ _ _ (by decide), am_up_row _ _ _ _ (by decide), am_up_row _ _ _ _ (by decide), am_up_row _ _ _ _ (by decide)]; exact hn) ?_
    refine am_aload_n (q := 191) C dX11_changes_190 rfl rfl ?_
    refine am_getR (q := 194) C fb_X11_25 dX11_changes_191 rfl rfl kk_191 (show 191 < 215 by decide) kr_191_7 ?_
    refine am_iload_n (q := 195) C dX11_changes_194 rfl rfl ?_
    refine am_laloadZ (q := 196) p C dX11_changes_195 rfl kk_195 (show 195 < 215 by decide) rfl (by omega) (by decide) ?_
    refine am_longE (y := (J 195 p)) rfl ?_
    refine am_lastoreZ (q := 197) n C dX11_changes_196 rfl kk_205 (show 205 < 215 by decide) rfl (by omega) (by decide) ?_
    refine am_aload_n (q := 198) C dX11_changes_197 rfl rfl ?_
    refine am_dup (q := 199) C dX11_changes_198 rfl rfl ?_
    refine am_getIe (q := 202) (v := (iZ (n : Int))) C fb_X11_93 dX11_changes_199 rfl rfl kk_191 (show 191 < 215 by decide) (by rw [am_up_row _ _ _ _ (by decide), am_up_row _ _ _ _ (by decide), am_up_row _ _ _ _ (by decide), am_up_row _ _ _ _ (by decide), am_up_row _ _ _ _ (by decide)]; exact hn) ?_
    refine am_iconst (q := 203) (v := iZ 1) C dX11_changes_202 rfl rfl ?_
    refine am_iaddZ (q := 204) C dX11_changes_203 rfl ?_
    refine am_putI (q := 207) C fw_X11_93 dX11_changes_204 rfl rfl kk_191 (show 191 < 215 by decide) ?_
    refine am_vret C T dX11_changes_207 rfl (Nat.le_refl _) (Nat.le_refl _) ⟨rfl, ?_⟩
    rw [if_pos (by omega), if_pos (by omega)]
    refine ⟨_, _, rfl, ?_, fun k hk => ⟨fun r g1 g2 => ?_, ?_⟩, ?_, ?_, ?_, ?_, ?_, ?_, ⟨fun k hk => ?_, fun h h1 h2 => ⟨?_, ?_⟩⟩⟩
    · rw [am_up_eq]; rfl
    · rw [if_pos (by omega)]
      rw [am_up_row _ _ _ _ (by omega), am_up_ne _ _ _ _ (Or.inr (by omega)), am_up_ne _ _ _ _ (Or.inr (by omega)), am_up_ne _ _ _ _ (Or.inr (by omega)), am_up_ne _ _ _ _ (Or.inr (by omega)), am_up_ne _ _ _ _ (Or.inr (by omega))]
    · rw [if_pos (by omega), am_up_ne _ _ _ _ (Or.inr (by omega))]
    · simp [am_up]
    · simp [am_up]
    · simp [am_up]
    · simp [am_up]
    · simp [am_up]
    · simp [am_up]
    · rw [am_up_ne _ _ _ _ (Or.inr hk)]
      repeat rw [am_up_row _ _ _ _ (by decide)]
    · repeat rw [am_up_row _ _ _ _ (by omega)]
    · rw [am_up_row _ _ _ _ (by omega)]
  · refine am_iconst (q := 10) (v := iZ 1) C dX11_changes_9 rfl rfl ?_
    refine am_istore_n (q := 11) (L' := [some (.ref 191), some (.int (iZ what)), some (.int (iZ (p : Int))), some (.int (iZ 1))]) C dX11_changes_10 rfl (by decide) rfl rfl ?_
    have e30 : n = 30 := by omega
    subst e30
    refine lp 31 1 I J (by omega) (by omega) hn ⟨fun _ _ => rfl, fun _ _ _ => ⟨rfl, rfl⟩⟩ (fun r g1 g2 j hj => (if_neg (by omega)).symm) (fun j hj => (if_neg (by omega)).symm) (by omega) (fun I1 J1 h19 hO hU hV => ?_)
    refine am_aload_n (q := 108) C dX11_changes_107 rfl rfl ?_
    refine am_dup (q := 109) C dX11_changes_108 rfl rfl ?_
    refine am_getIe (q := 112) (v := (iZ (30 : Int))) C fb_X11_93 dX11_changes_109 rfl rfl kk_191 (show 191 < 215 by decide) h19 ?_
    refine am_iconst (q := 113) (v := iZ 1) C dX11_changes_112 rfl rfl ?_
    refine am_isubZ (q := 114) C dX11_changes_113 rfl ?_
    refine am_putI (q := 117) C fw_X11_93 dX11_changes_114 rfl rfl kk_191 (show 191 < 215 by decide) ?_
    refine am_aload_n (q := 118) C dX11_changes_117 rfl rfl ?_
    refine am_getR (q := 121) C fb_X11_41 dX11_changes_118 rfl rfl kk_191 (show 191 < 215 by decide) kr_191_13 ?_
    refine am_aload_n (q := 122) C dX11_changes_121 rfl rfl ?_
    refine am_getIe (q := 125) (v := (iZ ((30 : Int) - 1))) C fb_X11_93 dX11_changes_122 rfl rfl kk_191 (show 191 < 215 by decide) (by rw [am_up_eq]) ?_
    refine am_iload_n (q := 126) C dX11_changes_125 rfl rfl ?_
    refine am_iastoreZ (q := 127) (((30 : Int) - 1).toNat) C dX11_changes_126 rfl kk_200 (show 200 < 215 by decide) (by omega) (by omega) (by decide) ?_
    refine am_aload_n (q := 128) C dX11_changes_127 rfl rfl ?_
    refine am_getR (q := 131) C fb_X11_44 dX11_changes_128 rfl rfl kk_191 (show 191 < 215 by decide) kr_191_14 ?_
    refine am_aload_n (q := 132) C dX11_changes_131 rfl rfl ?_
    refine am_getIe (q := 135) (v := (iZ ((30 : Int) - 1))) C fb_X11_93 dX11_changes_132 rfl rfl kk_191 (show 191 < 215 by decide) (by rw [am_up_row _ _ _ _ (by decide), am_up_eq]) ?_
    refine am_iload_n (q := 136) C dX11_changes_135 rfl rfl ?_
    refine am_iastoreZ (q := 137) (((30 : Int) - 1).toNat) C dX11_changes_136 rfl kk_201 (show 201 < 215 by decide) (by omega) (by omega) (by decide) ?_
    refine am_aload_n (q := 138) C dX11_changes_137 rfl rfl ?_
    refine am_getR (q := 141) C fb_X11_47 dX11_changes_138 rfl rfl kk_191 (show 191 < 215 by decide) kr_191_15 ?_
    refine am_aload_n (q := 142) C dX11_changes_141 rfl rfl ?_
    refine am_getIe (q := 145) (v := (iZ ((30 : Int) - 1))) C fb_X11_93 dX11_changes_142 rfl rfl kk_191 (show 191 < 215 by decide) (by rw [am_up_row _ _ _ _ (by decide), am_up_row _ _ _ _ (by decide), am_up_eq]) ?_
    refine am_aload_n (q := 146) C dX11_changes_145 rfl rfl ?_
    refine am_getR (q := 149) C fb_X11_15 dX11_changes_146 rfl rfl kk_191 (show 191 < 215 by decide) kr_191_4 ?_
    refine am_iload_n (q := 150) C dX11_changes_149 rfl rfl ?_
    refine am_ialoadZ (q := 151) p C dX11_changes_150 rfl kk_192 (show 192 < 215 by decide) rfl (by omega) (by decide) ?_
    refine am_intE (y := (I 192 p)) (by rw [am_up_row _ _ _ _ (by decide), am_up_row _ _ _ _ (by decide), am_up_row _ _ _ _ (by decide)]; exact (by rw [(hO.2 192 (by decide) (Or.inl (by decide))).1])) ?_
    refine am_iastoreZ (q := 152) (((30 : Int) - 1).toNat) C dX11_changes_151 rfl kk_202 (show 202 < 215 by decide) (by omega) (by omega) (by decide) ?_
    refine am_aload_n (q := 153) C dX11_changes_152 rfl rfl ?_
    refine am_getR (q := 156) C fb_X11_50 dX11_changes_153 rfl rfl kk_191 (show 191 < 215 by decide) kr_191_16 ?_
    refine am_aload_n (q := 157) C dX11_changes_156 rfl rfl ?_
    refine am_getIe (q := 160) (v := (iZ ((30 : Int) - 1))) C fb_X11_93 dX11_changes_157 rfl rfl kk_191 (show 191 < 215 by decide) (by rw [am_up_row _ _ _ _ (by decide), am_up_row _ _ _ _ (by decide), am_up_row _ _ _ _ (by decide), am_up_eq]) ?_
    refine am_aload_n (q := 161) C dX11_changes_160 rfl rfl ?_
    refine am_getR (q := 164) C fb_X11_19 dX11_changes_161 rfl rfl kk_191 (show 191 < 215 by decide) kr_191_5 ?_
    refine am_iload_n (q := 165) C dX11_changes_164 rfl rfl ?_
    refine am_ialoadZ (q := 166) p C dX11_changes_165 rfl kk_193 (show 193 < 215 by decide) rfl (by omega) (by decide) ?_
    refine am_intE (y := (I 193 p)) (by rw [am_up_row _ _ _ _ (by decide), am_up_row _ _ _ _ (by decide), am_up_row _ _ _ _ (by decide), am_up_row _ _ _ _ (by decide)]; exact (by rw [(hO.2 193 (by decide) (Or.inl (by decide))).1])) ?_
    refine am_iastoreZ (q := 167) (((30 : Int) - 1).toNat) C dX11_changes_166 rfl kk_203 (show 203 < 215 by decide) (by omega) (by omega) (by decide) ?_
    refine am_aload_n (q := 168) C dX11_changes_167 rfl rfl ?_
    refine am_getR (q := 171) C fb_X11_53 dX11_changes_168 rfl rfl kk_191 (show 191 < 215 by decide) kr_191_17 ?_
    refine am_aload_n (q := 172) C dX11_changes_171 rfl rfl ?_
    refine am_getIe (q := 175) (v := (iZ ((30 : Int) - 1))) C fb_X11_93 dX11_changes_172 rfl rfl kk_191 (show 191 < 215 by decide) (by rw [am_up_row _ _ _ _ (by decide), am_up_row _ _ _ _ (by decide), am_up_row _ _ _ _ (by decide), am_up_row _ _ _ _ (by decide), am_up_eq]) ?_
    refine am_aload_n (q := 176) C dX11_changes_175 rfl rfl ?_
    refine am_getR (q := 179) C fb_X11_22 dX11_changes_176 rfl rfl kk_191 (show 191 < 215 by decide) kr_191_6 ?_
    refine am_iload_n (q := 180) C dX11_changes_179 rfl rfl ?_
    refine am_ialoadZ (q := 181) p C dX11_changes_180 rfl kk_194 (show 194 < 215 by decide) rfl (by omega) (by decide) ?_
    refine am_intE (y := (I 194 p)) (by rw [am_up_row _ _ _ _ (by decide), am_up_row _ _ _ _ (by decide), am_up_row _ _ _ _ (by decide), am_up_row _ _ _ _ (by decide), am_up_row _ _ _ _ (by decide)]; exact (by rw [(hO.2 194 (by decide) (Or.inl (by decide))).1])) ?_
    refine am_iastoreZ (q := 182) (((30 : Int) - 1).toNat) C dX11_changes_181 rfl kk_204 (show 204 < 215 by decide) (by omega) (by omega) (by decide) ?_
    refine am_aload_n (q := 183) C dX11_changes_182 rfl rfl ?_
    refine am_getR (q := 186) C fb_X11_56 dX11_changes_183 rfl rfl kk_191 (show 191 < 215 by decide) kr_191_18 ?_
    refine am_aload_n (q := 187) C dX11_changes_186 rfl rfl ?_
    refine am_getIe (q := 190) (v := (iZ ((30 : Int) - 1))) C fb_X11_93 dX11_changes_187 rfl rfl kk_191 (show 191 < 215 by decide) (by rw [am_up_row _ _ _ _ (by decide), am_up_row _ _ _ _ (by decide), am_up_row _ _ _ _ (by decide), am_up_row _ _ _ _ (by decide), am_up_row _ _ _ _ (by decide), am_up_eq]) ?_
    refine am_aload_n (q := 191) C dX11_changes_190 rfl rfl ?_
    refine am_getR (q := 194) C fb_X11_25 dX11_changes_191 rfl rfl kk_191 (show 191 < 215 by decide) kr_191_7 ?_
    refine am_iload_n (q := 195) C dX11_changes_194 rfl rfl ?_
    refine am_laloadZ (q := 196) p C dX11_changes_195 rfl kk_195 (show 195 < 215 by decide) rfl (by omega) (by decide) ?_
    refine am_longE (y := (J 195 p)) (by rw [(hO.2 195 (by decide) (Or.inl (by decide))).2]) ?_
    refine am_lastoreZ (q := 197) (((30 : Int) - 1).toNat) C dX11_changes_196 rfl kk_205 (show 205 < 215 by decide) (by omega) (by omega) (by decide) ?_
    refine am_aload_n (q := 198) C dX11_changes_197 rfl rfl ?_
    refine am_dup (q := 199) C dX11_changes_198 rfl rfl ?_
    refine am_getIe (q := 202) (v := (iZ ((30 : Int) - 1))) C fb_X11_93 dX11_changes_199 rfl rfl kk_191 (show 191 < 215 by decide) (by rw [am_up_row _ _ _ _ (by decide), am_up_row _ _ _ _ (by decide), am_up_row _ _ _ _ (by decide), am_up_row _ _ _ _ (by decide), am_up_row _ _ _ _ (by decide), am_up_eq]) ?_
    refine am_iconst (q := 203) (v := iZ 1) C dX11_changes_202 rfl rfl ?_
    refine am_iaddZ (q := 204) C dX11_changes_203 rfl ?_
    refine am_putI (q := 207) C fw_X11_93 dX11_changes_204 rfl rfl kk_191 (show 191 < 215 by decide) ?_
    refine am_vret C T dX11_changes_207 rfl (Nat.le_refl _) (Nat.le_refl _) ⟨rfl, ?_⟩
    rw [if_neg (by omega), if_neg (by omega)]
    refine ⟨_, _, rfl, ?_, fun k hk => ⟨fun r g1 g2 => ?_, ?_⟩, ?_, ?_, ?_, ?_, ?_, ?_, ⟨fun k hk => ?_, fun h h1 h2 => ⟨?_, ?_⟩⟩⟩
    · rw [am_up_eq]; rfl
    · rw [if_neg (by omega)]
      rw [← hU r g1 g2 k (by omega)]
      rw [am_up_row _ _ _ _ (by omega), am_up_ne _ _ _ _ (Or.inr (by omega)), am_up_ne _ _ _ _ (Or.inr (by omega)), am_up_ne _ _ _ _ (Or.inr (by omega)), am_up_ne _ _ _ _ (Or.inr (by omega)), am_up_ne _ _ _ _ (Or.inr (by omega)), am_up_row _ _ _ _ (by omega)]
    · rw [if_neg (by omega), ← hV k (by omega), am_up_ne _ _ _ _ (Or.inr (by omega))]
    · simp [am_up]
    · simp [am_up]
    · simp [am_up]
    · simp [am_up]
    · simp [am_up]
    · simp [am_up]
    · rw [am_up_ne _ _ _ _ (Or.inr hk)]
      repeat rw [am_up_row _ _ _ _ (by decide)]
      rw [am_up_ne _ _ _ _ (Or.inr hk)]
      exact hO.1 k hk
    · repeat rw [am_up_row _ _ _ _ (by omega)]
      exact (hO.2 h h1 h2).1
    · rw [am_up_row _ _ _ _ (by omega)]
      exact (hO.2 h h1 h2).2
