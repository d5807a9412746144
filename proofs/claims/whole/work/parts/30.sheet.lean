variable {G : am_G} {I : Nat → Nat → Int32} {J : Nat → Nat → Int64}
/-- a row as it lies -/
def atS (i : Nat) (I : Nat → Nat → Int32) (J : Nat → Nat → Int64) (s : Int) (n : Nat) (f : Nat → Int64) : Prop := I (183 + 2 * i) 1 = iZ s ∧ I (183 + 2 * i) 2 = iZ (n : Int) ∧ -1 ≤ s ∧ s ≤ 2 ∧ n ≤ 60 ∧ ∀ k, k < 60 → J (184 + 2 * i) k = f k
theorem atS.on {i : Nat} {I I' : Nat → Nat → Int32} {J J' : Nat → Nat → Int64} {s : Int} {n : Nat} {f : Nat → Int64} (h : atS i I J s n f) (hI : I' (183 + 2 * i) = I (183 + 2 * i)) (hJ : J' (184 + 2 * i) = J (184 + 2 * i)) : atS i I' J' s n f := by unfold atS; rw [hI, hJ]; exact h
def cutV (s : Int) (v : Int64) : Int64 := if s = 0 then v.toInt32.toInt8.toInt32.toInt64 else if s = 1 then v.toInt32.toInt16.toInt32.toInt64 else v
set_option maxRecDepth 4000 in
theorem sp_X7_become {i : Nat} (hi : i < 4) {s z : Int} (hs : -1 ≤ s ∧ s ≤ 2) (hz : rg z) : am_S G mX7_become 2 0 0 [.ref (183 + 2 * i), .int (iZ s), .int (iZ z)] (215, kK, kR, I, J) (am_qv (fun w' => ∃ (I' : Nat → Nat → Int32) (J' : Nat → Nat → Int64), w' = (215, kK, kR, I', J') ∧ atS i I' J' s (max 0 (min z 60)).toNat (fun _ => 0) ∧ (∀ h, h ≠ 183 + 2 * i → I' h = I h) ∧ ∀ h, h ≠ 184 + 2 * i → J' h = J h)) := by
  refine am_spec (plainFor_of_name (by decide +kernel)) (Nat.le_of_ble_eq_true rfl) (L := [some (.ref (183 + 2 * i)), some (.int (iZ s)), some (.int (iZ z))]) rfl (fun X C T => ?_)
  have hz1 := hz.1
  have hz2 := hz.2
  refine am_aload_n (q := 1) C dX7_become_0 rfl rfl ?_
  refine am_iload_n (q := 2) C dX7_become_1 rfl rfl ?_
  refine am_putI (q := 5) C fw_X7_15 dX7_become_2 rfl rfl (isS_c i hi).1 (show 183 + 2 * i < 215 by omega) ?_
  refine am_aload_n (q := 6) C dX7_become_5 rfl rfl ?_
  refine am_iconst (q := 7) (v := iZ 0) C dX7_become_6 rfl rfl ?_
  refine am_iload_n (q := 8) C dX7_become_7 rfl rfl ?_
  refine am_bipush (q := 10) (v := iZ 60) C dX7_become_8 rfl rfl ?_
  refine am_callS (q := 13) (As := [.int (iZ z), .int (iZ 60)]) (rest := [.int (iZ 0), .ref (183 + 2 * i)]) C mb_J9_min_7cf53 st_J9_min_7cf53 ml_X7_22 dX7_become_10 rfl (sp_min (a := z) (b := 60) ⟨by omega, by omega⟩ ⟨by omega, by omega⟩) rfl rfl ⟨by decide, by decide⟩ ⟨Nat.le_refl _, Nat.le_refl _⟩ (Nat.le_of_ble_eq_true rfl) (am_rie ?_)
  refine am_callS (q := 16) (As := [.int (iZ 0), .int (iZ (min z 60))]) (rest := [.ref (183 + 2 * i)]) C mb_J9_max_7cf53 st_J9_max_7cf53 ml_X7_28 dX7_become_13 rfl (sp_max (a := 0) (b := min z 60) ⟨by omega, by omega⟩ ⟨by omega, by omega⟩) rfl rfl ⟨by decide, by decide⟩ ⟨Nat.le_refl _, Nat.le_refl _⟩ (Nat.le_of_ble_eq_true rfl) (am_rie ?_)
  refine am_putI (q := 19) C fw_X7_19 dX7_become_16 rfl rfl (isS_c i hi).1 (show 183 + 2 * i < 215 by omega) ?_
  refine am_aload_n (q := 20) C dX7_become_19 rfl rfl ?_
  refine am_getR (q := 23) C fb_X7_9 dX7_become_20 rfl rfl (isS_c i hi).1 (show 183 + 2 * i < 215 by omega) (isS_c i hi).2.2.1 ?_
  refine am_lconst (q := 24) (v := lN 0) C dX7_become_23 rfl rfl ?_
  refine am_callS (q := 27) (As := [.ref (184 + 2 * i), .long (lN 0)]) (rest := []) C mb_J7_fill_d0a16 st_J7_fill_d0a16 ml_X7_31 dX7_become_24 rfl (sp_fillJ (h := 184 + 2 * i) (len := 60) (isS_c i hi).2.1 (by omega) (by decide) (v := lN 0)) rfl rfl ⟨by decide, by decide⟩ ⟨Nat.le_refl _, Nat.le_refl _⟩ (Nat.le_of_ble_eq_true rfl) (am_rv (fun w' hw' => ?_))
  obtain ⟨J1, rfl, hJ1, hv1⟩ := hw'
  refine am_vret C T dX7_become_27 rfl (Nat.le_refl _) (Nat.le_refl _) ⟨rfl, ?_⟩
  refine ⟨_, _, rfl, ⟨?_, ?_, hs.1, hs.2, by omega, fun k hk => hv1 k hk⟩, fun h hh => by rw [am_up_row _ _ _ _ hh, am_up_row _ _ _ _ hh], hJ1⟩
  · rw [am_up_ne _ _ _ _ (Or.inr (by decide))]; exact am_up_eq _ _ _ _
  · rw [am_up_eq]; exact congrArg iZ (by omega)
set_option maxRecDepth 4000 in
theorem sp_X7_hasPlace {i : Nat} (hi : i < 4) {s : Int} {n : Nat} {f : Nat → Int64} (hA : atS i I J s n f) {k : Int} (hk : rg k) : am_S G mX7_hasPlace 1 0 0 [.ref (183 + 2 * i), .int (iZ k)] (215, kK, kR, I, J) (am_fi (if 0 ≤ k ∧ k < n then 1 else 0) (215, kK, kR, I, J)) := by
  obtain ⟨a1, a2, a3, a4, a5, a6⟩ := hA
  refine am_spec (plainFor_of_name (by decide +kernel)) (Nat.le_of_ble_eq_true rfl) (L := [some (.ref (183 + 2 * i)), some (.int (iZ k))]) rfl (fun X C T => ?_)
  refine am_iload_n (q := 1) C dX7_hasPlace_0 rfl rfl ?_
  refine am_ifZ_lt (q := 4) (tgt := 22) C dX7_hasPlace_1 (by decide) rfl hk (fun c1 => ?_) (fun c1 => ?_)
  · refine am_iconst (q := 23) (v := iZ 0) C dX7_hasPlace_22 rfl rfl ?_
    refine am_zretB (b := false) C T dX7_hasPlace_23 rfl (Nat.le_refl _) (Nat.le_refl _) rfl ⟨_, rfl, ?_⟩
    refine ⟨?_, rfl⟩
    first | (rw [if_pos (by omega)]; rfl) | (rw [if_neg (by omega)]; rfl)
  · refine am_iload_n (q := 5) C dX7_hasPlace_4 rfl rfl ?_
    refine am_aload_n (q := 6) C dX7_hasPlace_5 rfl rfl ?_
    refine am_getIe (q := 9) (v := (iZ (n : Int))) C fb_X7_19 dX7_hasPlace_6 rfl rfl (isS_c i hi).1 (show 183 + 2 * i < 215 by omega) a2 ?_
    refine am_icmpZ_ge (q := 12) (tgt := 22) C dX7_hasPlace_9 (by decide) rfl hk ⟨by omega, by omega⟩ (fun c2 => ?_) (fun c2 => ?_)
    · refine am_iconst (q := 23) (v := iZ 0) C dX7_hasPlace_22 rfl rfl ?_
      refine am_zretB (b := false) C T dX7_hasPlace_23 rfl (Nat.le_refl _) (Nat.le_refl _) rfl ⟨_, rfl, ?_⟩
      refine ⟨?_, rfl⟩
      first | (rw [if_pos (by omega)]; rfl) | (rw [if_neg (by omega)]; rfl)
    · refine am_iload_n (q := 13) C dX7_hasPlace_12 rfl rfl ?_
      refine am_bipush (q := 15) (v := iZ 60) C dX7_hasPlace_13 rfl rfl ?_
      refine am_icmpZ_ge (q := 18) (tgt := 22) C dX7_hasPlace_15 (by decide) rfl hk ⟨by omega, by omega⟩ (fun c3 => ?_) (fun c3 => ?_)
      · refine am_iconst (q := 23) (v := iZ 0) C dX7_hasPlace_22 rfl rfl ?_
        refine am_zretB (b := false) C T dX7_hasPlace_23 rfl (Nat.le_refl _) (Nat.le_refl _) rfl ⟨_, rfl, ?_⟩
        refine ⟨?_, rfl⟩
        first | (rw [if_pos (by omega)]; rfl) | (rw [if_neg (by omega)]; rfl)
      · refine am_iconst (q := 19) (v := iZ 1) C dX7_hasPlace_18 rfl rfl ?_
        refine am_goto (q := 23) C dX7_hasPlace_19 (by decide) ?_
        refine am_zretB (b := true) C T dX7_hasPlace_23 rfl (Nat.le_refl _) (Nat.le_refl _) rfl ⟨_, rfl, ?_⟩
        refine ⟨?_, rfl⟩
        first | (rw [if_pos (by omega)]; rfl) | (rw [if_neg (by omega)]; rfl)
set_option maxRecDepth 4000 in
theorem sp_X7_cut {i : Nat} (hi : i < 4) {s : Int} {n : Nat} {f : Nat → Int64} (hA : atS i I J s n f) {v : Int64} : am_S G mX7_cut 1 0 0 [.ref (183 + 2 * i), .long v] (215, kK, kR, I, J) (am_fl (cutV s v) (215, kK, kR, I, J)) := by
  obtain ⟨a1, a2, a3, a4, a5, a6⟩ := hA
  refine am_spec (plainFor_of_name (by decide +kernel)) (Nat.le_of_ble_eq_true rfl) (L := [some (.ref (183 + 2 * i)), some (.long v), none]) rfl (fun X C T => ?_)
  refine am_aload_n (q := 1) C dX7_cut_0 rfl rfl ?_
  refine am_getIe (q := 4) (v := (iZ s)) C fb_X7_15 dX7_cut_1 rfl rfl (isS_c i hi).1 (show 183 + 2 * i < 215 by omega) a1 ?_
  rcases (show (s ≠ 0 ∧ s ≠ 1) ∨ s = 0 ∨ s = 1 by omega) with c1 | c1 | c1
  · refine am_lookup (q := 42) (off := 38) C dX7_cut_4 (by decide) (by rw [iZ_toInt ⟨by omega, by omega⟩]; simp only [Op.lookupswitch.offset]; rw [if_neg (by omega)]; rw [if_neg (by omega)]) (by decide) ?_
    refine am_lload_n (q := 43) C dX7_cut_42 rfl rfl ?_
    refine am_lret C T dX7_cut_43 rfl (Nat.le_refl _) (Nat.le_refl _) ⟨_, rfl, ?_⟩
    refine ⟨?_, rfl⟩
    unfold cutV
    first | (rw [if_pos (by omega)]) | (rw [if_neg (by omega), if_pos (by omega)]) | (rw [if_neg (by omega), if_neg (by omega)])
  · refine am_lookup (q := 32) (off := 28) C dX7_cut_4 (by decide) (by rw [iZ_toInt ⟨by omega, by omega⟩, c1]; rfl) (by decide) ?_
    refine am_lload_n (q := 33) C dX7_cut_32 rfl rfl ?_
    refine am_l2i (q := 34) C dX7_cut_33 rfl ?_
    refine am_i2b (q := 35) C dX7_cut_34 rfl ?_
    refine am_i2l (q := 36) C dX7_cut_35 rfl ?_
    refine am_lret C T dX7_cut_36 rfl (Nat.le_refl _) (Nat.le_refl _) ⟨_, rfl, ?_⟩
    refine ⟨?_, rfl⟩
    unfold cutV
    first | (rw [if_pos (by omega)]) | (rw [if_neg (by omega), if_pos (by omega)]) | (rw [if_neg (by omega), if_neg (by omega)])
  · refine am_lookup (q := 37) (off := 33) C dX7_cut_4 (by decide) (by rw [iZ_toInt ⟨by omega, by omega⟩, c1]; rfl) (by decide) ?_
    refine am_lload_n (q := 38) C dX7_cut_37 rfl rfl ?_
    refine am_l2i (q := 39) C dX7_cut_38 rfl ?_
    refine am_i2s (q := 40) C dX7_cut_39 rfl ?_
    refine am_i2l (q := 41) C dX7_cut_40 rfl ?_
    refine am_lret C T dX7_cut_41 rfl (Nat.le_refl _) (Nat.le_refl _) ⟨_, rfl, ?_⟩
    refine ⟨?_, rfl⟩
    unfold cutV
    first | (rw [if_pos (by omega)]) | (rw [if_neg (by omega), if_pos (by omega)]) | (rw [if_neg (by omega), if_neg (by omega)])
set_option maxRecDepth 4000 in
theorem sp_X7_greatest {i : Nat} (hi : i < 4) {s : Int} {n : Nat} {f : Nat → Int64} (hA : atS i I J s n f) : am_S G mX7_greatest 1 0 0 [.ref (183 + 2 * i)] (215, kK, kR, I, J) (am_fl (lN (if s = 0 then 127 else 32767)) (215, kK, kR, I, J)) := by
  obtain ⟨a1, a2, a3, a4, a5, a6⟩ := hA
  refine am_spec (plainFor_of_name (by decide +kernel)) (Nat.le_of_ble_eq_true rfl) (L := [some (.ref (183 + 2 * i))]) rfl (fun X C T => ?_)
  refine am_aload_n (q := 1) C dX7_greatest_0 rfl rfl ?_
  refine am_getIe (q := 4) (v := (iZ s)) C fb_X7_15 dX7_greatest_1 rfl rfl (isS_c i hi).1 (show 183 + 2 * i < 215 by omega) a1 ?_
  refine am_ifZ_ne (q := 7) (tgt := 13) C dX7_greatest_4 (by decide) rfl ⟨by omega, by omega⟩ (fun c1 => ?_) (fun c1 => ?_)
  · refine am_ldc2 (q := 16) C dX7_greatest_13 rfl ck_X7_39 ?_
    refine am_longE (y := lN 32767) rfl ?_
    refine am_lret C T dX7_greatest_16 rfl (Nat.le_refl _) (Nat.le_refl _) ⟨_, rfl, ?_⟩
    refine ⟨congrArg lN ?_, rfl⟩
    first | (rw [if_pos (by omega)]) | (rw [if_neg (by omega)])
  · refine am_ldc2 (q := 10) C dX7_greatest_7 rfl ck_X7_37 ?_
    refine am_longE (y := lN 127) rfl ?_
    refine am_goto (q := 16) C dX7_greatest_10 (by decide) ?_
    refine am_lret C T dX7_greatest_16 rfl (Nat.le_refl _) (Nat.le_refl _) ⟨_, rfl, ?_⟩
    refine ⟨congrArg lN ?_, rfl⟩
    first | (rw [if_pos (by omega)]) | (rw [if_neg (by omega)])
set_option maxRecDepth 4000 in
theorem sp_X7_lastUp {i : Nat} (hi : i < 4) {s : Int} {n : Nat} {f : Nat → Int64} (hA : atS i I J s n f) {w : Nat} (hw : 1 ≤ w ∧ w ≤ 10) : am_S G mX7_lastUp 1 0 0 [.ref (183 + 2 * i), .int (iZ (w : Int))] (215, kK, kR, I, J) (am_fi (iZ (((n - 1) / w : Nat) : Int)) (215, kK, kR, I, J)) := by
  obtain ⟨a1, a2, a3, a4, a5, a6⟩ := hA
  refine am_spec (plainFor_of_name (by decide +kernel)) (Nat.le_of_ble_eq_true rfl) (L := [some (.ref (183 + 2 * i)), some (.int (iZ (w : Int)))]) rfl (fun X C T => ?_)
  refine am_iload_n (q := 1) C dX7_lastUp_0 rfl rfl ?_
  refine am_iconst (q := 2) (v := iZ 1) C dX7_lastUp_1 rfl rfl ?_
  refine am_icmpZ_lt (q := 5) (tgt := 13) C dX7_lastUp_2 (by decide) rfl ⟨by omega, by omega⟩ ⟨by omega, by omega⟩ (fun c1 => ?_) (fun c1 => ?_)
  · refine am_iconst (q := 14) (v := iZ 0) C dX7_lastUp_13 rfl rfl ?_
    refine am_goto (q := 25) C dX7_lastUp_14 (by decide) ?_
    refine am_iret C T dX7_lastUp_25 rfl (Nat.le_refl _) (Nat.le_refl _) ⟨_, rfl, ?_⟩
    refine ⟨congrArg iZ ?_, rfl⟩
    rw [show n - 1 = 0 by omega, Nat.zero_div]; rfl
  · refine am_aload_n (q := 6) C dX7_lastUp_5 rfl rfl ?_
    refine am_getIe (q := 9) (v := (iZ (n : Int))) C fb_X7_19 dX7_lastUp_6 rfl rfl (isS_c i hi).1 (show 183 + 2 * i < 215 by omega) a2 ?_
    refine am_iconst (q := 10) (v := iZ 1) C dX7_lastUp_9 rfl rfl ?_
    refine am_icmpZ_ge (q := 13) (tgt := 17) C dX7_lastUp_10 (by decide) rfl ⟨by omega, by omega⟩ ⟨by omega, by omega⟩ (fun c2 => ?_) (fun c2 => ?_)
    · refine am_aload_n (q := 18) C dX7_lastUp_17 rfl rfl ?_
      refine am_getIe (q := 21) (v := (iZ (n : Int))) C fb_X7_19 dX7_lastUp_18 rfl rfl (isS_c i hi).1 (show 183 + 2 * i < 215 by omega) a2 ?_
      refine am_iconst (q := 22) (v := iZ 1) C dX7_lastUp_21 rfl rfl ?_
      refine am_isubZ (q := 23) C dX7_lastUp_22 rfl ?_
      refine am_iload_n (q := 24) C dX7_lastUp_23 rfl rfl ?_
      refine am_idivZ (q := 25) C dX7_lastUp_24 rfl ⟨by omega, by omega⟩ ⟨by omega, by omega⟩ (by omega) (by omega) ?_
      refine am_iret C T dX7_lastUp_25 rfl (Nat.le_refl _) (Nat.le_refl _) ⟨_, rfl, ?_⟩
      refine ⟨congrArg iZ ?_, rfl⟩
      rw [show (n : Int) - 1 = ((n - 1 : Nat) : Int) by omega]; rfl
    · refine am_iconst (q := 14) (v := iZ 0) C dX7_lastUp_13 rfl rfl ?_
      refine am_goto (q := 25) C dX7_lastUp_14 (by decide) ?_
      refine am_iret C T dX7_lastUp_25 rfl (Nat.le_refl _) (Nat.le_refl _) ⟨_, rfl, ?_⟩
      refine ⟨congrArg iZ ?_, rfl⟩
      rw [show n - 1 = 0 by omega, Nat.zero_div]; rfl
