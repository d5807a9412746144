variable {G : am_G} {I : Nat → Nat → Int32} {J : Nat → Nat → Int64}
/-- so many chambers; formulas are told or not -/
def chN (t : PT) : Nat := (raysA t).length - 1
def fmN (t : PT) : Prop := 2 ≤ (raysA t).length ∧ (perP t (pm t) : Int) ≤ 6
set_option maxRecDepth 4000 in
theorem sp_X10_hasFormula {σ : SG} (hC : atC I J σ) {p : Int} (hp : rg p) : am_S G mX10_hasFormula 4 0 0 [.ref 0, .int (iZ p)] (215, kK, kR, I, J) (am_fi (if (2 ≤ (raysA σ.1).length ∧ (perP σ.1 (pm σ.1) : Int) ≤ 6) ∧ 0 ≤ p ∧ p < (((raysA σ.1).length - 1 : Nat) : Int) then 1 else 0) (215, kK, kR, I, J)) := by
  have hm := hC.2.1.1
  have hF := hC.2.2.1.1.1
  have hper := hC.2.2.1.1.2.2.2
  have hp1 := perP_ok hC.2.1 (pm σ.1) (Nat.le_refl _)
  have hp2 := per_le hp1
  have f2 := hF.2.1
  have f3 := hF.2.2
  refine am_spec (plainFor_of_name (by decide +kernel)) (Nat.le_of_ble_eq_true rfl) (L := [some (.ref 0), some (.int (iZ p))]) rfl (fun X C T => ?_)
  refine am_aload_n (q := 1) C dX10_hasFormula_0 rfl rfl ?_
  refine am_getR (q := 4) C fb_X10_45 dX10_hasFormula_1 rfl rfl kk_0 (show 0 < 215 by decide) kr_0_5 ?_
  refine am_callN (q := 7) (As := []) (rest := []) C mb_X1_hasFormulas im_X1_hasFormulas se_X1_hasFormulas mn_X10_309 cb_1 kk_169 (show 169 < 215 by decide) dX10_hasFormula_4 rfl (sp_X1_hasFormulas hF hper ⟨by omega, by omega⟩) rfl rfl ⟨by decide, by decide⟩ ⟨Nat.le_refl _, Nat.le_refl _⟩ (Nat.le_of_ble_eq_true rfl) (am_rie ?_)
  refine am_ifB_eq (q := 10) (tgt := 29) C dX10_hasFormula_7 (by decide) rfl (fun c1 => ?_) (fun c1 => ?_)
  · refine am_iconst (q := 30) (v := iZ 0) C dX10_hasFormula_29 rfl rfl ?_
    refine am_zretB (b := false) C T dX10_hasFormula_30 rfl (Nat.le_refl _) (Nat.le_refl _) rfl ⟨_, rfl, ?_⟩
    refine ⟨?_, rfl⟩
    first | (rw [if_neg (by omega)]; rfl) | (rw [if_pos (by omega)]; rfl)
  · refine am_iload_n (q := 11) C dX10_hasFormula_10 rfl rfl ?_
    refine am_ifZ_lt (q := 14) (tgt := 29) C dX10_hasFormula_11 (by decide) rfl hp (fun c2 => ?_) (fun c2 => ?_)
    · refine am_iconst (q := 30) (v := iZ 0) C dX10_hasFormula_29 rfl rfl ?_
      refine am_zretB (b := false) C T dX10_hasFormula_30 rfl (Nat.le_refl _) (Nat.le_refl _) rfl ⟨_, rfl, ?_⟩
      refine ⟨?_, rfl⟩
      first | (rw [if_neg (by omega)]; rfl) | (rw [if_pos (by omega)]; rfl)
    · refine am_iload_n (q := 15) C dX10_hasFormula_14 rfl rfl ?_
      refine am_aload_n (q := 16) C dX10_hasFormula_15 rfl rfl ?_
      refine am_getR (q := 19) C fb_X10_45 dX10_hasFormula_16 rfl rfl kk_0 (show 0 < 215 by decide) kr_0_5 ?_
      refine am_callN (q := 22) (As := []) (rest := [.int (iZ p)]) C mb_X1_chambers im_X1_chambers se_X1_chambers mn_X10_213 cb_1 kk_169 (show 169 < 215 by decide) dX10_hasFormula_19 rfl (sp_X1_chambers hF) rfl rfl ⟨by decide, by decide⟩ ⟨Nat.le_refl _, Nat.le_refl _⟩ (Nat.le_of_ble_eq_true rfl) (am_rie ?_)
      refine am_icmpZ_ge (q := 25) (tgt := 29) C dX10_hasFormula_22 (by decide) rfl hp ⟨by omega, by omega⟩ (fun c3 => ?_) (fun c3 => ?_)
      · refine am_iconst (q := 30) (v := iZ 0) C dX10_hasFormula_29 rfl rfl ?_
        refine am_zretB (b := false) C T dX10_hasFormula_30 rfl (Nat.le_refl _) (Nat.le_refl _) rfl ⟨_, rfl, ?_⟩
        refine ⟨?_, rfl⟩
        first | (rw [if_neg (by omega)]; rfl) | (rw [if_pos (by omega)]; rfl)
      · refine am_iconst (q := 26) (v := iZ 1) C dX10_hasFormula_25 rfl rfl ?_
        refine am_goto (q := 30) C dX10_hasFormula_26 (by decide) ?_
        refine am_zretB (b := true) C T dX10_hasFormula_30 rfl (Nat.le_refl _) (Nat.le_refl _) rfl ⟨_, rfl, ?_⟩
        refine ⟨?_, rfl⟩
        first | (rw [if_neg (by omega)]; rfl) | (rw [if_pos (by omega)]; rfl)
set_option maxRecDepth 4000 in
theorem sp_X10_many {σ : SG} (hC : atC I J σ) {k : Int} (hk : rg k) : am_S G mX10_many 4 0 0 [.ref 0, .int (iZ k)] (215, kK, kR, I, J) (am_qi (fun v w' => v = iZ (if k = 0 then (pm σ.1 : Int) else if k = 1 then ((raysA σ.1).length : Int) else if k = 2 then (((raysA σ.1).length - 1 : Nat) : Int) else if k = 3 then (σ.2.1.1 : Int) else if k = 4 then (σ.2.2.2.2.1.1 : Int) else if k = 5 then (if 2 ≤ (raysA σ.1).length ∧ (perP σ.1 (pm σ.1) : Int) ≤ 6 then 1 else 0) else -1) ∧ ∃ (I' : Nat → Nat → Int32) (J' : Nat → Nat → Int64), w' = (215, kK, kR, I', J') ∧ atC I' J' (σ) ∧ frC I J I' J')) := by
  have hm := hC.2.1.1
  have hF := hC.2.2.1.1.1
  have hper := hC.2.2.1.1.2.2.2
  have hp1 := perP_ok hC.2.1 (pm σ.1) (Nat.le_refl _)
  have hp2 := per_le hp1
  have f2 := hF.2.1
  have f3 := hF.2.2
  obtain ⟨n0, hU⟩ := hC.2.2.2.1
  refine am_spec (plainFor_of_name (by decide +kernel)) (Nat.le_of_ble_eq_true rfl) (L := [some (.ref 0), some (.int (iZ k))]) rfl (fun X C T => ?_)
  refine am_iload_n (q := 1) C dX10_many_0 rfl rfl ?_
  rcases (show (k < 0 ∨ 5 < k) ∨ k = 0 ∨ k = 1 ∨ k = 2 ∨ k = 3 ∨ k = 4 ∨ k = 5 by omega) with c1 | c1 | c1 | c1 | c1 | c1 | c1
  · refine am_tableOut (q := 96) C dX10_many_1 (by rw [iZ_toInt hk]; omega) (by decide) ?_
    refine am_iconst (q := 97) (v := iZ (-1)) C dX10_many_96 rfl rfl ?_
    refine am_iret C T dX10_many_97 rfl (Nat.le_refl _) (Nat.le_refl _) ⟨_, rfl, ?_⟩
    refine ⟨congrArg iZ ?_, _, _, rfl, hC, frC_refl⟩
    rw [if_neg (by omega), if_neg (by omega), if_neg (by omega), if_neg (by omega), if_neg (by omega), if_neg (by omega)]
  · refine am_tableIn (q := 40) (off := 39) C dX10_many_1 (by rw [iZ_toInt hk]; omega) (by rw [iZ_toInt hk]; omega) (by rw [iZ_toInt hk, c1]; rfl) (by decide) ?_
    refine am_aload_n (q := 41) C dX10_many_40 rfl rfl ?_
    refine am_getR (q := 44) C fb_X10_14 dX10_many_41 rfl rfl kk_0 (show 0 < 215 by decide) kr_0_0 ?_
    refine am_getIe (q := 47) (v := (iZ (pm σ.1 : Int))) C fb_X10_103 dX10_many_44 rfl rfl kk_1 (show 1 < 215 by decide) hC.1.1 ?_
    refine am_iret C T dX10_many_47 rfl (Nat.le_refl _) (Nat.le_refl _) ⟨_, rfl, ?_⟩
    refine ⟨congrArg iZ ?_, _, _, rfl, hC, frC_refl⟩
    rw [if_pos (by omega)]
  · refine am_tableIn (q := 48) (off := 47) C dX10_many_1 (by rw [iZ_toInt hk]; omega) (by rw [iZ_toInt hk]; omega) (by rw [iZ_toInt hk, c1]; rfl) (by decide) ?_
    refine am_aload_n (q := 49) C dX10_many_48 rfl rfl ?_
    refine am_getR (q := 52) C fb_X10_45 dX10_many_49 rfl rfl kk_0 (show 0 < 215 by decide) kr_0_5 ?_
    refine am_getIe (q := 55) (v := (iZ ((raysA σ.1).length : Int))) C fb_X10_306 dX10_many_52 rfl rfl kk_169 (show 169 < 215 by decide) hF.1 ?_
    refine am_iret C T dX10_many_55 rfl (Nat.le_refl _) (Nat.le_refl _) ⟨_, rfl, ?_⟩
    refine ⟨congrArg iZ ?_, _, _, rfl, hC, frC_refl⟩
    rw [if_neg (by omega), if_pos (by omega)]
  · refine am_tableIn (q := 56) (off := 55) C dX10_many_1 (by rw [iZ_toInt hk]; omega) (by rw [iZ_toInt hk]; omega) (by rw [iZ_toInt hk, c1]; rfl) (by decide) ?_
    refine am_aload_n (q := 57) C dX10_many_56 rfl rfl ?_
    refine am_getR (q := 60) C fb_X10_45 dX10_many_57 rfl rfl kk_0 (show 0 < 215 by decide) kr_0_5 ?_
    refine am_callN (q := 63) (As := []) (rest := []) C mb_X1_chambers im_X1_chambers se_X1_chambers mn_X10_213 cb_1 kk_169 (show 169 < 215 by decide) dX10_many_60 rfl (sp_X1_chambers hF) rfl rfl ⟨by decide, by decide⟩ ⟨Nat.le_refl _, Nat.le_refl _⟩ (Nat.le_of_ble_eq_true rfl) (am_rie ?_)
    refine am_iret C T dX10_many_63 rfl (Nat.le_refl _) (Nat.le_refl _) ⟨_, rfl, ?_⟩
    refine ⟨congrArg iZ ?_, _, _, rfl, hC, frC_refl⟩
    rw [if_neg (by omega), if_neg (by omega), if_pos (by omega)]
  · refine am_tableIn (q := 64) (off := 63) C dX10_many_1 (by rw [iZ_toInt hk]; omega) (by rw [iZ_toInt hk]; omega) (by rw [iZ_toInt hk, c1]; rfl) (by decide) ?_
    refine am_aload_n (q := 65) C dX10_many_64 rfl rfl ?_
    refine am_getR (q := 68) C fb_X10_24 dX10_many_65 rfl rfl kk_0 (show 0 < 215 by decide) kr_0_2 ?_
    refine am_getIe (q := 71) (v := (iZ (σ.2.1.1 : Int))) C fb_X10_161 dX10_many_68 rfl rfl kk_11 (show 11 < 215 by decide) hU.2.2.1 ?_
    refine am_iret C T dX10_many_71 rfl (Nat.le_refl _) (Nat.le_refl _) ⟨_, rfl, ?_⟩
    refine ⟨congrArg iZ ?_, _, _, rfl, hC, frC_refl⟩
    rw [if_neg (by omega), if_neg (by omega), if_neg (by omega), if_pos (by omega)]
  · refine am_tableIn (q := 72) (off := 71) C dX10_many_1 (by rw [iZ_toInt hk]; omega) (by rw [iZ_toInt hk]; omega) (by rw [iZ_toInt hk, c1]; rfl) (by decide) ?_
    refine am_aload_n (q := 73) C dX10_many_72 rfl rfl ?_
    refine am_getR (q := 76) C fb_X10_31 dX10_many_73 rfl rfl kk_0 (show 0 < 215 by decide) kr_0_3 ?_
    refine am_getIe (q := 79) (v := (iZ (σ.2.2.2.2.1.1 : Int))) C fb_X10_138 dX10_many_76 rfl rfl kk_163 (show 163 < 215 by decide) hC.2.2.2.2.2.2.2.2.1.1 ?_
    refine am_iret C T dX10_many_79 rfl (Nat.le_refl _) (Nat.le_refl _) ⟨_, rfl, ?_⟩
    refine ⟨congrArg iZ ?_, _, _, rfl, hC, frC_refl⟩
    rw [if_neg (by omega), if_neg (by omega), if_neg (by omega), if_neg (by omega), if_pos (by omega)]
  · refine am_tableIn (q := 80) (off := 79) C dX10_many_1 (by rw [iZ_toInt hk]; omega) (by rw [iZ_toInt hk]; omega) (by rw [iZ_toInt hk, c1]; rfl) (by decide) ?_
    refine am_aload_n (q := 81) C dX10_many_80 rfl rfl ?_
    refine am_getR (q := 84) C fb_X10_45 dX10_many_81 rfl rfl kk_0 (show 0 < 215 by decide) kr_0_5 ?_
    refine am_callN (q := 87) (As := []) (rest := []) C mb_X1_hasFormulas im_X1_hasFormulas se_X1_hasFormulas mn_X10_309 cb_1 kk_169 (show 169 < 215 by decide) dX10_many_84 rfl (sp_X1_hasFormulas hF hper ⟨by omega, by omega⟩) rfl rfl ⟨by decide, by decide⟩ ⟨Nat.le_refl _, Nat.le_refl _⟩ (Nat.le_of_ble_eq_true rfl) (am_rie ?_)
    refine am_ifB_eq (q := 90) (tgt := 94) C dX10_many_87 (by decide) rfl (fun c2 => ?_) (fun c2 => ?_)
    · refine am_iconst (q := 95) (v := iZ 0) C dX10_many_94 rfl rfl ?_
      refine am_iret C T dX10_many_95 rfl (Nat.le_refl _) (Nat.le_refl _) ⟨_, rfl, ?_⟩
      refine ⟨congrArg iZ ?_, _, _, rfl, hC, frC_refl⟩
      rw [if_neg (by omega), if_neg (by omega), if_neg (by omega), if_neg (by omega), if_neg (by omega), if_pos (by omega), if_neg (by omega)]
    · refine am_iconst (q := 91) (v := iZ 1) C dX10_many_90 rfl rfl ?_
      refine am_goto (q := 95) C dX10_many_91 (by decide) ?_
      refine am_iret C T dX10_many_95 rfl (Nat.le_refl _) (Nat.le_refl _) ⟨_, rfl, ?_⟩
      refine ⟨congrArg iZ ?_, _, _, rfl, hC, frC_refl⟩
      rw [if_neg (by omega), if_neg (by omega), if_neg (by omega), if_neg (by omega), if_neg (by omega), if_pos (by omega), if_pos (by omega)]
