variable {G : am_G} {I : Nat → Nat → Int32} {J : Nat → Nat → Int64}
/-- where the i-th latest snapshot lies, if the next one comes to place n -/
def slotOf (n i : Nat) : Nat := 13 + 5 * ((n + 29 - i) % 30)
/-- snapshots: s of them, u i the i-th latest -/
def atU (I : Nat → Nat → Int32) (J : Nat → Nat → Int64) (n s : Nat) (u : Nat → PT) : Prop := I 11 1 = iZ n ∧ n < 30 ∧ I 11 2 = iZ s ∧ s ≤ 30 ∧ ∀ i, i < s → atP (slotOf n i) I J (u i) ∧ okP (u i)
theorem slot_isP (n i : Nat) : isP (slotOf n i) := (isP_c _ (Nat.mod_lt _ (by decide))).1
theorem slot_lo (n i : Nat) : 13 ≤ slotOf n i ∧ slotOf n i + 4 ≤ 162 := by unfold slotOf; omega
theorem atU.on {I I' : Nat → Nat → Int32} {J J' : Nat → Nat → Int64} {n s : Nat} {u : Nat → PT} (h : atU I J n s u) (hI : ∀ x, 11 ≤ x → x ≤ 162 → I' x = I x ∧ J' x = J x) : atU I' J' n s u := by
  obtain ⟨h1, h2, h3, h4, h5⟩ := h
  refine ⟨by rw [(hI 11 (by omega) (by omega)).1]; exact h1, h2, by rw [(hI 11 (by omega) (by omega)).1]; exact h3, h4, fun i hi => ⟨?_, (h5 i hi).2⟩⟩
  have hs := slot_lo n i
  exact (h5 i hi).1.on (fun a h1 h2 => (hI a (by omega) (by omega)).1) (hI _ (by omega) (by omega)).2

set_option maxRecDepth 4000 in
theorem sp_X0_slotAt {i : Int} (hi : rg i) : am_S G mX0_slotAt 1 0 0 [.ref 11, .int (iZ i)] (215, kK, kR, I, J) (am_fr (if 0 ≤ i ∧ i < 30 then some (13 + 5 * i.toNat) else none) (215, kK, kR, I, J)) := by
  refine am_spec (plainFor_of_name (by decide +kernel)) (Nat.le_of_ble_eq_true rfl) (L := [some (.ref 11), some (.int (iZ i))]) rfl (fun X C T => ?_)
  refine am_iload_n (q := 1) C dX0_slotAt_0 rfl rfl ?_
  refine am_ifZ_lt (q := 4) (tgt := 19) C dX0_slotAt_1 (by decide) rfl hi (fun h1 => ?_) (fun h1 => ?_)
  · refine am_null (q := 20) C dX0_slotAt_19 rfl ?_
    refine am_aret (x := none) C T dX0_slotAt_20 rfl (Or.inl ⟨_, rfl⟩) (Nat.le_refl _) (Nat.le_refl _) ⟨_, rfl, ?_⟩
    refine ⟨?_, rfl⟩
    first | (rw [if_pos (by omega)]) | (rw [if_neg (by omega)])
  · refine am_iload_n (q := 5) C dX0_slotAt_4 rfl rfl ?_
    refine am_bipush (q := 7) (v := iZ 30) C dX0_slotAt_5 rfl rfl ?_
    refine am_icmpZ_ge (q := 10) (tgt := 19) C dX0_slotAt_7 (by decide) rfl hi ⟨by omega, by omega⟩ (fun h2 => ?_) (fun h2 => ?_)
    · refine am_null (q := 20) C dX0_slotAt_19 rfl ?_
      refine am_aret (x := none) C T dX0_slotAt_20 rfl (Or.inl ⟨_, rfl⟩) (Nat.le_refl _) (Nat.le_refl _) ⟨_, rfl, ?_⟩
      refine ⟨?_, rfl⟩
      first | (rw [if_pos (by omega)]) | (rw [if_neg (by omega)])
    · refine am_aload_n (q := 11) C dX0_slotAt_10 rfl rfl ?_
      refine am_getR (q := 14) C fb_X0_11 dX0_slotAt_11 rfl rfl kk_11 (show 11 < 215 by decide) kr_11_0 ?_
      refine am_iload_n (q := 15) C dX0_slotAt_14 rfl rfl ?_
      refine am_paloadZ (q := 16) i.toNat C dX0_slotAt_15 rfl kk_12 (show 12 < 215 by decide) (by omega) (by omega) (by decide) ?_
      rw [(isP_c i.toNat (by omega)).2]
      show am_A _ _ _ _ _ _ (.ref (13 + 5 * i.toNat) :: _) _ _ _
      refine am_goto (q := 20) C dX0_slotAt_16 (by decide) ?_
      refine am_aret (x := some (13 + 5 * i.toNat)) C T dX0_slotAt_20 rfl (Or.inl ⟨_, rfl⟩) (Nat.le_refl _) (Nat.le_refl _) ⟨_, rfl, ?_⟩
      refine ⟨?_, rfl⟩
      first | (rw [if_pos (by omega)]) | (rw [if_neg (by omega)])
theorem rem_end {t : PT} {I I1 I2 : Nat → Nat → Int32} {J J1 : Nat → Nat → Int64} {n s : Nat} {u : Nat → PT} (u2 : n < 30) (u4 : s ≤ 30) (u5 : ∀ i, i < s → atP (slotOf n i) I J (u i) ∧ okP (u i)) (hA1 : atP (13 + 5 * (n : Int).toNat) I1 J1 t) (hK : okP t) (hf : fr (13 + 5 * (n : Int).toNat) (13 + 5 * (n : Int).toNat + 4) I J I1 J1) {z1 z2 : Int} (e1 : I2 11 1 = iZ z1) (e2 : I2 11 2 = iZ z2) (hI2 : ∀ x, x ≠ 11 → I2 x = I1 x) (hz : z1 = ((if n + 1 < 30 then n + 1 else 0 : Nat) : Int) ∧ z2 = ((if s + 1 ≤ 30 then s + 1 else 30 : Nat) : Int)) :
    ∃ (I' : Nat → Nat → Int32) (J' : Nat → Nat → Int64), ((215, kK, kR, I2, J1) : am_W) = (215, kK, kR, I', J') ∧ atU I' J' (if n + 1 < 30 then n + 1 else 0) (if s + 1 ≤ 30 then s + 1 else 30) (fun i => if i = 0 then t else u (i - 1)) ∧ ∀ x, x < 11 ∨ 162 < x → I' x = I x ∧ J' x = J x := by
  refine ⟨I2, J1, rfl, ⟨by rw [e1, hz.1], by split <;> omega, by rw [e2, hz.2], by split <;> omega, fun i hi => ?_⟩, fun x hx => ⟨by rw [hI2 x (by omega)]; exact (hf x (by omega)).1, (hf x (by omega)).2⟩⟩
  have en : (n : Int).toNat = n := Int.toNat_natCast n
  rw [en] at hA1 hf
  by_cases h0 : i = 0
  · subst h0
    dsimp only
    rw [if_pos rfl]
    refine ⟨?_, hK⟩
    have e : slotOf (if n + 1 < 30 then n + 1 else 0) 0 = 13 + 5 * n := by unfold slotOf; split <;> omega
    rw [e]
    exact hA1.on (fun a h1 h2 => hI2 a (by omega)) rfl
  · dsimp only
    rw [if_neg h0]
    have hi2 : i - 1 < s := by split at hi <;> omega
    obtain ⟨g1, g2⟩ := u5 (i - 1) hi2
    refine ⟨?_, g2⟩
    have hi3 : i < 30 := by split at hi <;> omega
    have e : slotOf (if n + 1 < 30 then n + 1 else 0) i = slotOf n (i - 1) := by unfold slotOf; split <;> omega
    have e2 : slotOf n (i - 1) + 4 < 13 + 5 * n ∨ 13 + 5 * n + 4 < slotOf n (i - 1) := by unfold slotOf; omega
    have e3 := slot_lo n (i - 1)
    rw [e]
    exact g1.on (fun a h1 h2 => by rw [hI2 a (by omega)]; exact (hf a (by omega)).1) (hf _ (by omega)).2
set_option maxRecDepth 4000 in
theorem sp_X0_remember {n s : Nat} {u : Nat → PT} (hU : atU I J n s u) {t : PT} (hA : atP 1 I J t) (hK : okP t) : am_S G mX0_remember 3 0 0 [.ref 11, .ref 1] (215, kK, kR, I, J) (am_qv (fun w' => ∃ (I' : Nat → Nat → Int32) (J' : Nat → Nat → Int64), w' = (215, kK, kR, I', J') ∧ atU I' J' (if n + 1 < 30 then n + 1 else 0) (if s + 1 ≤ 30 then s + 1 else 30) (fun i => if i = 0 then t else u (i - 1)) ∧ ∀ x, x < 11 ∨ 162 < x → I' x = I x ∧ J' x = J x)) := by
  obtain ⟨u1, u2, u3, u4, u5⟩ := hU
  refine am_spec (plainFor_of_name (by decide +kernel)) (Nat.le_of_ble_eq_true rfl) (L := [some (.ref 11), some (.ref 1), none]) rfl (fun X C T => ?_)
  refine am_aload_n (q := 1) C dX0_remember_0 rfl rfl ?_
  refine am_aload_n (q := 2) C dX0_remember_1 rfl rfl ?_
  refine am_getIe (q := 5) (v := (iZ (n : Int))) C fb_X0_17 dX0_remember_2 rfl rfl kk_11 (show 11 < 215 by decide) u1 ?_
  refine am_callV (q := 8) (As := [.int (iZ (n : Int))]) (rest := []) C mb_X0_slotAt im_X0_slotAt se_X0_slotAt ml_X0_25 cb_0 kk_11 (show 11 < 215 by decide) dX0_remember_5 rfl (sp_X0_slotAt (i := (n : Int)) ⟨by omega, by omega⟩) rfl rfl ⟨by decide, by decide⟩ ⟨Nat.le_refl _, Nat.le_refl _⟩ (by decide) (am_rre ?_)
  rw [if_pos (by omega)]
  refine am_astore_n (q := 9) (L' := [some (.ref 11), some (.ref 1), some (.ref (13 + 5 * (n : Int).toNat))]) C dX0_remember_8 rfl (by decide) rfl rfl ?_
  refine am_aload_n (q := 10) C dX0_remember_9 rfl rfl ?_
  refine am_ifnonnull (q := 14) C dX0_remember_10 (by decide) ?_
  refine am_aload_n (q := 15) C dX0_remember_14 rfl rfl ?_
  refine am_aload_n (q := 16) C dX0_remember_15 rfl rfl ?_
  refine am_callN (q := 19) (As := [.ref 1]) (rest := []) C mb_X5_become im_X5_become se_X5_become mn_X0_29 cb_5 (isP_c _ (by omega)).1.2.1 (show 13 + 5 * (n : Int).toNat < 215 by omega) dX0_remember_16 rfl (sp_X5_become (h := 13 + 5 * (n : Int).toNat) (g := 1) (isP_c _ (by omega)).1 isP_1 (by omega) hA hK) rfl rfl ⟨by decide, by decide⟩ ⟨Nat.le_refl _, Nat.le_refl _⟩ (by decide) (am_rv (fun w' hw' => ?_))
  obtain ⟨I1, J1, rfl, hA1, hf⟩ := hw'
  refine am_aload_n (q := 20) C dX0_remember_19 rfl rfl ?_
  refine am_aload_n (q := 21) C dX0_remember_20 rfl rfl ?_
  refine am_getIe (q := 24) (v := (iZ (n : Int))) C fb_X0_17 dX0_remember_21 rfl rfl kk_11 (show 11 < 215 by decide) (by rw [(hf 11 (by omega)).1]; exact u1) ?_
  refine am_iconst (q := 25) (v := iZ 1) C dX0_remember_24 rfl rfl ?_
  refine am_iaddZ (q := 26) C dX0_remember_25 rfl ?_
  refine am_bipush (q := 28) (v := iZ 30) C dX0_remember_26 rfl rfl ?_
  refine am_icmpZ_ge (q := 31) (tgt := 40) C dX0_remember_28 (by decide) rfl ⟨by omega, by omega⟩ ⟨by omega, by omega⟩ (fun h1 => ?_) (fun h1 => ?_)
  · refine am_iconst (q := 41) (v := iZ 0) C dX0_remember_40 rfl rfl ?_
    refine am_putI (q := 44) C fw_X0_17 dX0_remember_41 rfl rfl kk_11 (show 11 < 215 by decide) ?_
    refine am_aload_n (q := 45) C dX0_remember_44 rfl rfl ?_
    refine am_aload_n (q := 46) C dX0_remember_45 rfl rfl ?_
    refine am_getIe (q := 49) (v := (iZ (s : Int))) C fb_X0_21 dX0_remember_46 rfl rfl kk_11 (show 11 < 215 by decide) (by rw [am_up_ne _ _ _ _ (by omega), (hf 11 (by omega)).1]; exact u3) ?_
    refine am_iconst (q := 50) (v := iZ 1) C dX0_remember_49 rfl rfl ?_
    refine am_iaddZ (q := 51) C dX0_remember_50 rfl ?_
    refine am_bipush (q := 53) (v := iZ 30) C dX0_remember_51 rfl rfl ?_
    refine am_callS (q := 56) (As := [.int (iZ ((s : Int) + 1)), .int (iZ 30)]) (rest := [.ref 11]) C mb_J9_min_7cf53 st_J9_min_7cf53 ml_X0_33 dX0_remember_53 rfl (sp_min ⟨by omega, by omega⟩ ⟨by omega, by omega⟩) rfl rfl ⟨by decide, by decide⟩ ⟨Nat.le_refl _, Nat.le_refl _⟩ (by decide) (am_rie ?_)
    refine am_putI (q := 59) C fw_X0_21 dX0_remember_56 rfl rfl kk_11 (show 11 < 215 by decide) ?_
    refine am_vret C T dX0_remember_59 rfl (Nat.le_refl _) (Nat.le_refl _) ⟨rfl, ?_⟩
    exact rem_end (n := n) (s := s) (u := u) (z1 := 0) (z2 := (min ((s : Int) + 1) 30)) u2 u4 u5 hA1 hK hf (by simp [am_up]) (by simp [am_up]) (fun x hx => by rw [am_up_row _ _ _ _ hx, am_up_row _ _ _ _ hx]) (by constructor <;> split <;> omega)
  · refine am_aload_n (q := 32) C dX0_remember_31 rfl rfl ?_
    refine am_getIe (q := 35) (v := (iZ (n : Int))) C fb_X0_17 dX0_remember_32 rfl rfl kk_11 (show 11 < 215 by decide) (by rw [(hf 11 (by omega)).1]; exact u1) ?_
    refine am_iconst (q := 36) (v := iZ 1) C dX0_remember_35 rfl rfl ?_
    refine am_iaddZ (q := 37) C dX0_remember_36 rfl ?_
    refine am_goto (q := 41) C dX0_remember_37 (by decide) ?_
    refine am_putI (q := 44) C fw_X0_17 dX0_remember_41 rfl rfl kk_11 (show 11 < 215 by decide) ?_
    refine am_aload_n (q := 45) C dX0_remember_44 rfl rfl ?_
    refine am_aload_n (q := 46) C dX0_remember_45 rfl rfl ?_
    refine am_getIe (q := 49) (v := (iZ (s : Int))) C fb_X0_21 dX0_remember_46 rfl rfl kk_11 (show 11 < 215 by decide) (by rw [am_up_ne _ _ _ _ (by omega), (hf 11 (by omega)).1]; exact u3) ?_
    refine am_iconst (q := 50) (v := iZ 1) C dX0_remember_49 rfl rfl ?_
    refine am_iaddZ (q := 51) C dX0_remember_50 rfl ?_
    refine am_bipush (q := 53) (v := iZ 30) C dX0_remember_51 rfl rfl ?_
    refine am_callS (q := 56) (As := [.int (iZ ((s : Int) + 1)), .int (iZ 30)]) (rest := [.ref 11]) C mb_J9_min_7cf53 st_J9_min_7cf53 ml_X0_33 dX0_remember_53 rfl (sp_min ⟨by omega, by omega⟩ ⟨by omega, by omega⟩) rfl rfl ⟨by decide, by decide⟩ ⟨Nat.le_refl _, Nat.le_refl _⟩ (by decide) (am_rie ?_)
    refine am_putI (q := 59) C fw_X0_21 dX0_remember_56 rfl rfl kk_11 (show 11 < 215 by decide) ?_
    refine am_vret C T dX0_remember_59 rfl (Nat.le_refl _) (Nat.le_refl _) ⟨rfl, ?_⟩
    exact rem_end (n := n) (s := s) (u := u) (z1 := ((n : Int) + 1)) (z2 := (min ((s : Int) + 1) 30)) u2 u4 u5 hA1 hK hf (by simp [am_up]) (by simp [am_up]) (fun x hx => by rw [am_up_row _ _ _ _ hx, am_up_row _ _ _ _ hx]) (by constructor <;> split <;> omega)
theorem back_end {t' : PT} {I I1 I2 : Nat → Nat → Int32} {J J1 : Nat → Nat → Int64} {n s : Nat} {u : Nat → PT} (u2 : n < 30) (u4 : s ≤ 30) (u5 : ∀ i, i < s → atP (slotOf n i) I J (u i) ∧ okP (u i)) (hs : 1 ≤ s) (hA1 : atP 1 I1 J1 t') (hf : fr 1 (1 + 4) I J I1 J1) {z1 z2 : Int} {m : Nat} (hm : m < 30) (hmn : (m + 1) % 30 = n % 30) (hz1 : z1 = m) (hz2 : z2 = (s : Int) - 1) (e1 : I2 11 1 = iZ z1) (e2 : I2 11 2 = iZ z2) (hI2 : ∀ x, x ≠ 11 → I2 x = I1 x) :
    ∃ (I' : Nat → Nat → Int32) (J' : Nat → Nat → Int64), ((215, kK, kR, I2, J1) : am_W) = (215, kK, kR, I', J') ∧ (∃ n', atU I' J' n' (s - 1) (fun i => u (i + 1))) ∧ atP 1 I' J' t' ∧ ∀ x, x = 0 ∨ 5 < x → x ≠ 11 → I' x = I x ∧ J' x = J x := by
  refine ⟨I2, J1, rfl, ⟨m, by rw [e1, hz1], hm, by rw [e2, hz2]; congr 1; omega, by omega, fun i hi => ?_⟩, hA1.on (fun a h1 h2 => hI2 a (by omega)) rfl, fun x hx hx2 => ⟨by rw [hI2 x hx2]; exact (hf x (by omega)).1, (hf x (by omega)).2⟩⟩
  obtain ⟨g1, g2⟩ := u5 (i + 1) (by omega)
  refine ⟨?_, g2⟩
  have e : slotOf m i = slotOf n (i + 1) := by unfold slotOf; omega
  have e3 := slot_lo n (i + 1)
  rw [e]
  exact g1.on (fun a h1 h2 => by rw [hI2 a (by omega)]; exact (hf a (by omega)).1) (hf _ (by omega)).2
theorem slot_0 {n : Nat} (h : 0 < n) (hn : n < 30) : slotOf n 0 = 13 + 5 * (n - 1) := by unfold slotOf; omega
theorem slot_00 : slotOf 0 0 = 158 := rfl
set_option maxRecDepth 4000 in
theorem sp_X0_takeBack {n s : Nat} {u : Nat → PT} (hU : atU I J n s u) : am_S G mX0_takeBack 3 0 0 [.ref 11, .ref 1] (215, kK, kR, I, J) (am_qi (fun r w' => (s = 0 ∧ r = 0 ∧ w' = (215, kK, kR, I, J)) ∨ (1 ≤ s ∧ r = 1 ∧ ∃ (I' : Nat → Nat → Int32) (J' : Nat → Nat → Int64), w' = (215, kK, kR, I', J') ∧ (∃ n', atU I' J' n' (s - 1) (fun i => u (i + 1))) ∧ atP 1 I' J' (u 0) ∧ ∀ x, x = 0 ∨ 5 < x → x ≠ 11 → I' x = I x ∧ J' x = J x))) := by
  obtain ⟨u1, u2, u3, u4, u5⟩ := hU
  refine am_spec (plainFor_of_name (by decide +kernel)) (Nat.le_of_ble_eq_true rfl) (L := [some (.ref 11), some (.ref 1), none, none]) rfl (fun X C T => ?_)
  refine am_aload_n (q := 1) C dX0_takeBack_0 rfl rfl ?_
  refine am_getIe (q := 4) (v := (iZ (n : Int))) C fb_X0_17 dX0_takeBack_1 rfl rfl kk_11 (show 11 < 215 by decide) u1 ?_
  refine am_ifZ_le (q := 7) (tgt := 16) C dX0_takeBack_4 (by decide) rfl ⟨by omega, by omega⟩ (fun h1 => ?_) (fun h1 => ?_)
  · refine am_bipush (q := 18) (v := iZ 29) C dX0_takeBack_16 rfl rfl ?_
    refine am_istore_n (q := 19) (L' := [some (.ref 11), some (.ref 1), some (.int (iZ 29)), none]) C dX0_takeBack_18 rfl (by decide) rfl rfl ?_
    refine am_aload_n (q := 20) C dX0_takeBack_19 rfl rfl ?_
    refine am_iload_n (q := 21) C dX0_takeBack_20 rfl rfl ?_
    refine am_callV (q := 24) (As := [.int (iZ 29)]) (rest := []) C mb_X0_slotAt im_X0_slotAt se_X0_slotAt ml_X0_25 cb_0 kk_11 (show 11 < 215 by decide) dX0_takeBack_21 rfl (sp_X0_slotAt (i := 29) ⟨by omega, by omega⟩) rfl rfl ⟨by decide, by decide⟩ ⟨Nat.le_refl _, Nat.le_refl _⟩ (by decide) (am_rre ?_)
    rw [if_pos (by omega)]
    refine am_astore_n (q := 25) (L' := [some (.ref 11), some (.ref 1), some (.int (iZ 29)), some (.ref (13 + 5 * ((29) : Int).toNat))]) C dX0_takeBack_24 rfl (by decide) rfl rfl ?_
    refine am_aload_n (q := 26) C dX0_takeBack_25 rfl rfl ?_
    refine am_getIe (q := 29) (v := (iZ (s : Int))) C fb_X0_21 dX0_takeBack_26 rfl rfl kk_11 (show 11 < 215 by decide) u3 ?_
    refine am_iconst (q := 30) (v := iZ 1) C dX0_takeBack_29 rfl rfl ?_
    refine am_icmpZ_lt (q := 33) (tgt := 37) C dX0_takeBack_30 (by decide) rfl ⟨by omega, by omega⟩ ⟨by omega, by omega⟩ (fun h2 => ?_) (fun h2 => ?_)
    · refine am_iconst (q := 38) (v := iZ 0) C dX0_takeBack_37 rfl rfl ?_
      refine am_zretB (b := false) C T dX0_takeBack_38 rfl (Nat.le_refl _) (Nat.le_refl _) rfl ⟨_, rfl, ?_⟩
      exact Or.inl ⟨by omega, rfl, rfl⟩
    · refine am_aload_n (q := 34) C dX0_takeBack_33 rfl rfl ?_
      refine am_ifnonnull (q := 39) C dX0_takeBack_34 (by decide) ?_
      refine am_aload_n (q := 40) C dX0_takeBack_39 rfl rfl ?_
      refine am_aload_n (q := 41) C dX0_takeBack_40 rfl rfl ?_
      have hA0 : atP (13 + 5 * ((29) : Int).toNat) I J (u 0) := by
        have := (u5 0 (by omega)).1
        first | (rw [slot_0 (by omega) u2] at this; exact (show 13 + 5 * (n - 1) = 13 + 5 * ((29) : Int).toNat by omega) ▸ this) | (rw [show n = 0 by omega, slot_00] at this; exact this)
      refine am_callN (q := 44) (As := [.ref (13 + 5 * ((29) : Int).toNat)]) (rest := []) C mb_X5_become im_X5_become se_X5_become mn_X0_29 cb_5 kk_1 (show 1 < 215 by decide) dX0_takeBack_41 rfl (sp_X5_become (h := 1) (g := 13 + 5 * ((29) : Int).toNat) isP_1 (isP_c _ (by omega)).1 (by omega) (t := u 0) hA0 (u5 0 (by omega)).2) rfl rfl ⟨by decide, by decide⟩ ⟨Nat.le_refl _, Nat.le_refl _⟩ (by decide) (am_rv (fun w' hw' => ?_))
      obtain ⟨I1, J1, rfl, hA1, hf⟩ := hw'
      refine am_aload_n (q := 45) C dX0_takeBack_44 rfl rfl ?_
      refine am_iload_n (q := 46) C dX0_takeBack_45 rfl rfl ?_
      refine am_putI (q := 49) C fw_X0_17 dX0_takeBack_46 rfl rfl kk_11 (show 11 < 215 by decide) ?_
      refine am_aload_n (q := 50) C dX0_takeBack_49 rfl rfl ?_
      refine am_dup (q := 51) C dX0_takeBack_50 rfl rfl ?_
      refine am_getIe (q := 54) (v := (iZ (s : Int))) C fb_X0_21 dX0_takeBack_51 rfl rfl kk_11 (show 11 < 215 by decide) (by rw [am_up_ne _ _ _ _ (by omega), (hf 11 (by omega)).1]; exact u3) ?_
      refine am_iconst (q := 55) (v := iZ 1) C dX0_takeBack_54 rfl rfl ?_
      refine am_isubZ (q := 56) C dX0_takeBack_55 rfl ?_
      refine am_putI (q := 59) C fw_X0_21 dX0_takeBack_56 rfl rfl kk_11 (show 11 < 215 by decide) ?_
      refine am_iconst (q := 60) (v := iZ 1) C dX0_takeBack_59 rfl rfl ?_
      refine am_zretB (b := true) C T dX0_takeBack_60 rfl (Nat.le_refl _) (Nat.le_refl _) rfl ⟨_, rfl, ?_⟩
      exact Or.inr ⟨by omega, rfl, back_end (n := n) (s := s) (u := u) (z1 := 29) (z2 := ((s : Int) - 1)) (m := 29) u2 u4 u5 (by omega) hA1 hf (by omega) (by omega) (by omega) (by omega) (by simp [am_up]) (by simp [am_up]) (fun x hx => by rw [am_up_row _ _ _ _ hx, am_up_row _ _ _ _ hx])⟩
  · refine am_aload_n (q := 8) C dX0_takeBack_7 rfl rfl ?_
    refine am_getIe (q := 11) (v := (iZ (n : Int))) C fb_X0_17 dX0_takeBack_8 rfl rfl kk_11 (show 11 < 215 by decide) u1 ?_
    refine am_iconst (q := 12) (v := iZ 1) C dX0_takeBack_11 rfl rfl ?_
    refine am_isubZ (q := 13) C dX0_takeBack_12 rfl ?_
    refine am_goto (q := 18) C dX0_takeBack_13 (by decide) ?_
    refine am_istore_n (q := 19) (L' := [some (.ref 11), some (.ref 1), some (.int (iZ ((n : Int) - 1))), none]) C dX0_takeBack_18 rfl (by decide) rfl rfl ?_
    refine am_aload_n (q := 20) C dX0_takeBack_19 rfl rfl ?_
    refine am_iload_n (q := 21) C dX0_takeBack_20 rfl rfl ?_
    refine am_callV (q := 24) (As := [.int (iZ ((n : Int) - 1))]) (rest := []) C mb_X0_slotAt im_X0_slotAt se_X0_slotAt ml_X0_25 cb_0 kk_11 (show 11 < 215 by decide) dX0_takeBack_21 rfl (sp_X0_slotAt (i := (n : Int) - 1) ⟨by omega, by omega⟩) rfl rfl ⟨by decide, by decide⟩ ⟨Nat.le_refl _, Nat.le_refl _⟩ (by decide) (am_rre ?_)
    rw [if_pos (by omega)]
    refine am_astore_n (q := 25) (L' := [some (.ref 11), some (.ref 1), some (.int (iZ ((n : Int) - 1))), some (.ref (13 + 5 * (((n : Int) - 1) : Int).toNat))]) C dX0_takeBack_24 rfl (by decide) rfl rfl ?_
    refine am_aload_n (q := 26) C dX0_takeBack_25 rfl rfl ?_
    refine am_getIe (q := 29) (v := (iZ (s : Int))) C fb_X0_21 dX0_takeBack_26 rfl rfl kk_11 (show 11 < 215 by decide) u3 ?_
    refine am_iconst (q := 30) (v := iZ 1) C dX0_takeBack_29 rfl rfl ?_
    refine am_icmpZ_lt (q := 33) (tgt := 37) C dX0_takeBack_30 (by decide) rfl ⟨by omega, by omega⟩ ⟨by omega, by omega⟩ (fun h3 => ?_) (fun h3 => ?_)
    · refine am_iconst (q := 38) (v := iZ 0) C dX0_takeBack_37 rfl rfl ?_
      refine am_zretB (b := false) C T dX0_takeBack_38 rfl (Nat.le_refl _) (Nat.le_refl _) rfl ⟨_, rfl, ?_⟩
      exact Or.inl ⟨by omega, rfl, rfl⟩
    · refine am_aload_n (q := 34) C dX0_takeBack_33 rfl rfl ?_
      refine am_ifnonnull (q := 39) C dX0_takeBack_34 (by decide) ?_
      refine am_aload_n (q := 40) C dX0_takeBack_39 rfl rfl ?_
      refine am_aload_n (q := 41) C dX0_takeBack_40 rfl rfl ?_
      have hA0 : atP (13 + 5 * (((n : Int) - 1) : Int).toNat) I J (u 0) := by
        have := (u5 0 (by omega)).1
        first | (rw [slot_0 (by omega) u2] at this; exact (show 13 + 5 * (n - 1) = 13 + 5 * (((n : Int) - 1) : Int).toNat by omega) ▸ this) | (rw [show n = 0 by omega, slot_00] at this; exact this)
      refine am_callN (q := 44) (As := [.ref (13 + 5 * (((n : Int) - 1) : Int).toNat)]) (rest := []) C mb_X5_become im_X5_become se_X5_become mn_X0_29 cb_5 kk_1 (show 1 < 215 by decide) dX0_takeBack_41 rfl (sp_X5_become (h := 1) (g := 13 + 5 * (((n : Int) - 1) : Int).toNat) isP_1 (isP_c _ (by omega)).1 (by omega) (t := u 0) hA0 (u5 0 (by omega)).2) rfl rfl ⟨by decide, by decide⟩ ⟨Nat.le_refl _, Nat.le_refl _⟩ (by decide) (am_rv (fun w' hw' => ?_))
      obtain ⟨I1, J1, rfl, hA1, hf⟩ := hw'
      refine am_aload_n (q := 45) C dX0_takeBack_44 rfl rfl ?_
      refine am_iload_n (q := 46) C dX0_takeBack_45 rfl rfl ?_
      refine am_putI (q := 49) C fw_X0_17 dX0_takeBack_46 rfl rfl kk_11 (show 11 < 215 by decide) ?_
      refine am_aload_n (q := 50) C dX0_takeBack_49 rfl rfl ?_
      refine am_dup (q := 51) C dX0_takeBack_50 rfl rfl ?_
      refine am_getIe (q := 54) (v := (iZ (s : Int))) C fb_X0_21 dX0_takeBack_51 rfl rfl kk_11 (show 11 < 215 by decide) (by rw [am_up_ne _ _ _ _ (by omega), (hf 11 (by omega)).1]; exact u3) ?_
      refine am_iconst (q := 55) (v := iZ 1) C dX0_takeBack_54 rfl rfl ?_
      refine am_isubZ (q := 56) C dX0_takeBack_55 rfl ?_
      refine am_putI (q := 59) C fw_X0_21 dX0_takeBack_56 rfl rfl kk_11 (show 11 < 215 by decide) ?_
      refine am_iconst (q := 60) (v := iZ 1) C dX0_takeBack_59 rfl rfl ?_
      refine am_zretB (b := true) C T dX0_takeBack_60 rfl (Nat.le_refl _) (Nat.le_refl _) rfl ⟨_, rfl, ?_⟩
      exact Or.inr ⟨by omega, rfl, back_end (n := n) (s := s) (u := u) (z1 := ((n : Int) - 1)) (z2 := ((s : Int) - 1)) (m := (n - 1)) u2 u4 u5 (by omega) hA1 hf (by omega) (by omega) (by omega) (by omega) (by simp [am_up]) (by simp [am_up]) (fun x hx => by rw [am_up_row _ _ _ _ hx, am_up_row _ _ _ _ hx])⟩
set_option maxRecDepth 4000 in
theorem sp_X0_forget  : am_S G mX0_forget 1 0 0 [.ref 11] (215, kK, kR, I, J) (am_fv (215, kK, kR, (am_up I 11 2 (iZ 0)), J)) := by
  refine am_spec (plainFor_of_name (by decide +kernel)) (Nat.le_of_ble_eq_true rfl) (L := [some (.ref 11)]) rfl (fun X C T => ?_)
  refine am_aload_n (q := 1) C dX0_forget_0 rfl rfl ?_
  refine am_iconst (q := 2) (v := iZ 0) C dX0_forget_1 rfl rfl ?_
  refine am_putI (q := 5) C fw_X0_21 dX0_forget_2 rfl rfl kk_11 (show 11 < 215 by decide) ?_
  refine am_vret C T dX0_forget_5 rfl (Nat.le_refl _) (Nat.le_refl _) ⟨rfl, ?_⟩
  rfl
set_option maxRecDepth 4000 in
theorem sp_X4_forget  : am_S G mX4_forget 1 0 0 [.ref 174] (215, kK, kR, I, J) (am_fv (215, kK, kR, (am_up (am_up I 174 1 (iZ (-1))) 174 2 (iZ (-1))), J)) := by
  refine am_spec (plainFor_of_name (by decide +kernel)) (Nat.le_of_ble_eq_true rfl) (L := [some (.ref 174)]) rfl (fun X C T => ?_)
  refine am_aload_n (q := 1) C dX4_forget_0 rfl rfl ?_
  refine am_iconst (q := 2) (v := iZ (-1)) C dX4_forget_1 rfl rfl ?_
  refine am_putI (q := 5) C fw_X4_15 dX4_forget_2 rfl rfl kk_174 (show 174 < 215 by decide) ?_
  refine am_aload_n (q := 6) C dX4_forget_5 rfl rfl ?_
  refine am_iconst (q := 7) (v := iZ (-1)) C dX4_forget_6 rfl rfl ?_
  refine am_putI (q := 10) C fw_X4_19 dX4_forget_7 rfl rfl kk_174 (show 174 < 215 by decide) ?_
  refine am_vret C T dX4_forget_10 rfl (Nat.le_refl _) (Nat.le_refl _) ⟨rfl, ?_⟩
  rfl
set_option maxRecDepth 4000 in
theorem sp_X9_forget  : am_S G mX9_forget 1 0 0 [.ref 176] (215, kK, kR, I, J) (am_fv (215, kK, kR, (am_up (am_up I 176 1 (iZ (-1))) 176 2 (iZ (-1))), J)) := by
  refine am_spec (plainFor_of_name (by decide +kernel)) (Nat.le_of_ble_eq_true rfl) (L := [some (.ref 176)]) rfl (fun X C T => ?_)
  refine am_aload_n (q := 1) C dX9_forget_0 rfl rfl ?_
  refine am_iconst (q := 2) (v := iZ (-1)) C dX9_forget_1 rfl rfl ?_
  refine am_putI (q := 5) C fw_X9_15 dX9_forget_2 rfl rfl kk_176 (show 176 < 215 by decide) ?_
  refine am_aload_n (q := 6) C dX9_forget_5 rfl rfl ?_
  refine am_iconst (q := 7) (v := iZ (-1)) C dX9_forget_6 rfl rfl ?_
  refine am_putI (q := 10) C fw_X9_19 dX9_forget_7 rfl rfl kk_176 (show 176 < 215 by decide) ?_
  refine am_vret C T dX9_forget_10 rfl (Nat.le_refl _) (Nat.le_refl _) ⟨rfl, ?_⟩
  rfl
