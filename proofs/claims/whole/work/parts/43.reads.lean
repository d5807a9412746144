variable {G : am_G} {I : Nat → Nat → Int32} {J : Nat → Nat → Int64}
set_option maxRecDepth 4000 in
theorem sp_X10_period {σ : SG} (hC : atC I J σ) : am_S G mX10_period 1 0 0 [.ref 0] (215, kK, kR, I, J) (am_qi (fun v w' => v = iZ (perP σ.1 (pm σ.1) : Int) ∧ ∃ (I' : Nat → Nat → Int32) (J' : Nat → Nat → Int64), w' = (215, kK, kR, I', J') ∧ atC I' J' (σ) ∧ frC I J I' J')) := by
  have hm := hC.2.1.1
  have hF := hC.2.2.1.1.1
  have hper := hC.2.2.1.1.2.2.2
  have hp1 := perP_ok hC.2.1 (pm σ.1) (Nat.le_refl _)
  have hp2 := per_le hp1
  have f2 := hF.2.1
  have f3 := hF.2.2
  refine am_spec (plainFor_of_name (by decide +kernel)) (Nat.le_of_ble_eq_true rfl) (L := [some (.ref 0)]) rfl (fun X C T => ?_)
  refine am_aload_n (q := 1) C dX10_period_0 rfl rfl ?_
  refine am_getR (q := 4) C fb_X10_45 dX10_period_1 rfl rfl kk_0 (show 0 < 215 by decide) kr_0_5 ?_
  refine am_getIe (q := 7) (v := (iZ (perP σ.1 (pm σ.1) : Int))) C fb_X10_207 dX10_period_4 rfl rfl kk_169 (show 169 < 215 by decide) hper ?_
  refine am_iret C T dX10_period_7 rfl (Nat.le_refl _) (Nat.le_refl _) ⟨_, rfl, ?_⟩
  exact ⟨rfl, _, _, rfl, hC, frC_refl⟩
set_option maxRecDepth 4000 in
theorem sp_X10_unit {σ : SG} (hC : atC I J σ) : am_S G mX10_unit 1 0 0 [.ref 0] (215, kK, kR, I, J) (am_qi (fun v w' => v = iZ (if perP σ.1 (pm σ.1) = 1 then 1 else 0) ∧ ∃ (I' : Nat → Nat → Int32) (J' : Nat → Nat → Int64), w' = (215, kK, kR, I', J') ∧ atC I' J' (σ) ∧ frC I J I' J')) := by
  have hm := hC.2.1.1
  have hF := hC.2.2.1.1.1
  have hper := hC.2.2.1.1.2.2.2
  have hp1 := perP_ok hC.2.1 (pm σ.1) (Nat.le_refl _)
  have hp2 := per_le hp1
  have f2 := hF.2.1
  have f3 := hF.2.2
  refine am_spec (plainFor_of_name (by decide +kernel)) (Nat.le_of_ble_eq_true rfl) (L := [some (.ref 0)]) rfl (fun X C T => ?_)
  refine am_aload_n (q := 1) C dX10_unit_0 rfl rfl ?_
  refine am_getR (q := 4) C fb_X10_45 dX10_unit_1 rfl rfl kk_0 (show 0 < 215 by decide) kr_0_5 ?_
  refine am_getIe (q := 7) (v := (iZ (perP σ.1 (pm σ.1) : Int))) C fb_X10_207 dX10_unit_4 rfl rfl kk_169 (show 169 < 215 by decide) hper ?_
  refine am_iconst (q := 8) (v := iZ 1) C dX10_unit_7 rfl rfl ?_
  refine am_icmpZ_ne (q := 11) (tgt := 15) C dX10_unit_8 (by decide) rfl ⟨by omega, by omega⟩ ⟨by omega, by omega⟩ (fun c1 => ?_) (fun c1 => ?_)
  · refine am_iconst (q := 16) (v := iZ 0) C dX10_unit_15 rfl rfl ?_
    refine am_iret C T dX10_unit_16 rfl (Nat.le_refl _) (Nat.le_refl _) ⟨_, rfl, ?_⟩
    first | (rw [if_pos (by omega)]) | (rw [if_neg (by omega)])
    exact ⟨rfl, _, _, rfl, hC, frC_refl⟩
  · refine am_iconst (q := 12) (v := iZ 1) C dX10_unit_11 rfl rfl ?_
    refine am_goto (q := 16) C dX10_unit_12 (by decide) ?_
    refine am_iret C T dX10_unit_16 rfl (Nat.le_refl _) (Nat.le_refl _) ⟨_, rfl, ?_⟩
    first | (rw [if_pos (by omega)]) | (rw [if_neg (by omega)])
    exact ⟨rfl, _, _, rfl, hC, frC_refl⟩
set_option maxRecDepth 4000 in
theorem sp_X10_ray {σ : SG} (hC : atC I J σ) {p k : Int} (hp : rg p) (hk : rg k) : am_S G mX10_ray 2 0 0 [.ref 0, .int (iZ p), .int (iZ k)] (215, kK, kR, I, J) (am_qi (fun v w' => v = iZ (if 0 ≤ p ∧ p < (raysA σ.1).length then (if k = 0 then (ra (raysA σ.1) p.toNat : Int) else if k = 1 then (rb (raysA σ.1) p.toNat : Int) else if k = 2 then (memP σ.1 (raysA σ.1) p.toNat (pm σ.1) : Int) else -1) else -1) ∧ ∃ (I' : Nat → Nat → Int32) (J' : Nat → Nat → Int64), w' = (215, kK, kR, I', J') ∧ atC I' J' (σ) ∧ frC I J I' J')) := by
  have hm := hC.2.1.1
  have hF := hC.2.2.1.1.1
  have hper := hC.2.2.1.1.2.2.2
  have hp1 := perP_ok hC.2.1 (pm σ.1) (Nat.le_refl _)
  have hp2 := per_le hp1
  have f2 := hF.2.1
  have f3 := hF.2.2
  refine am_spec (plainFor_of_name (by decide +kernel)) (Nat.le_of_ble_eq_true rfl) (L := [some (.ref 0), some (.int (iZ p)), some (.int (iZ k))]) rfl (fun X C T => ?_)
  refine am_aload_n (q := 1) C dX10_ray_0 rfl rfl ?_
  refine am_getR (q := 4) C fb_X10_45 dX10_ray_1 rfl rfl kk_0 (show 0 < 215 by decide) kr_0_5 ?_
  refine am_iload_n (q := 5) C dX10_ray_4 rfl rfl ?_
  refine am_callN (q := 8) (As := [.int (iZ p)]) (rest := []) C mb_X1_hasRay im_X1_hasRay se_X1_hasRay mn_X10_199 cb_1 kk_169 (show 169 < 215 by decide) dX10_ray_5 rfl (sp_X1_hasRay hF hp) rfl rfl ⟨by decide, by decide⟩ ⟨Nat.le_refl _, Nat.le_refl _⟩ (Nat.le_of_ble_eq_true rfl) (am_rie ?_)
  refine am_ifB_ne (q := 11) (tgt := 13) C dX10_ray_8 (by decide) rfl (fun c1 => ?_) (fun c1 => ?_)
  · refine am_iload_n (q := 14) C dX10_ray_13 rfl rfl ?_
    rcases (show (k < 0 ∨ 2 < k) ∨ k = 0 ∨ k = 1 ∨ k = 2 by omega) with c2 | c2 | c2 | c2
    · refine am_tableOut (q := 70) C dX10_ray_14 (by rw [iZ_toInt hk]; omega) (by decide) ?_
      refine am_iconst (q := 71) (v := iZ (-1)) C dX10_ray_70 rfl rfl ?_
      refine am_iret C T dX10_ray_71 rfl (Nat.le_refl _) (Nat.le_refl _) ⟨_, rfl, ?_⟩
      refine ⟨congrArg iZ ?_, _, _, rfl, hC, frC_refl⟩
      first | (rw [if_neg (by omega)]; done) | (rw [if_pos (by omega), if_neg (by omega), if_neg (by omega), if_neg (by omega)])
    · refine am_tableIn (q := 40) (off := 26) C dX10_ray_14 (by rw [iZ_toInt hk]; omega) (by rw [iZ_toInt hk]; omega) (by rw [iZ_toInt hk, c2]; rfl) (by decide) ?_
      refine am_aload_n (q := 41) C dX10_ray_40 rfl rfl ?_
      refine am_getR (q := 44) C fb_X10_45 dX10_ray_41 rfl rfl kk_0 (show 0 < 215 by decide) kr_0_5 ?_
      refine am_getR (q := 47) C fb_X10_202 dX10_ray_44 rfl rfl kk_169 (show 169 < 215 by decide) kr_169_0 ?_
      refine am_iload_n (q := 48) C dX10_ray_47 rfl rfl ?_
      refine am_ialoadZ (q := 49) p.toNat C dX10_ray_48 rfl kk_170 (show 170 < 215 by decide) (by omega) (by omega) (by decide) ?_
      refine am_intE (y := (iZ (ra (raysA σ.1) p.toNat : Int))) (f3 p.toNat (by omega)).1 ?_
      refine am_iret C T dX10_ray_49 rfl (Nat.le_refl _) (Nat.le_refl _) ⟨_, rfl, ?_⟩
      refine ⟨congrArg iZ ?_, _, _, rfl, hC, frC_refl⟩
      rw [if_pos (by omega), if_pos (by omega)]
    · refine am_tableIn (q := 50) (off := 36) C dX10_ray_14 (by rw [iZ_toInt hk]; omega) (by rw [iZ_toInt hk]; omega) (by rw [iZ_toInt hk, c2]; rfl) (by decide) ?_
      refine am_aload_n (q := 51) C dX10_ray_50 rfl rfl ?_
      refine am_getR (q := 54) C fb_X10_45 dX10_ray_51 rfl rfl kk_0 (show 0 < 215 by decide) kr_0_5 ?_
      refine am_getR (q := 57) C fb_X10_203 dX10_ray_54 rfl rfl kk_169 (show 169 < 215 by decide) kr_169_1 ?_
      refine am_iload_n (q := 58) C dX10_ray_57 rfl rfl ?_
      refine am_ialoadZ (q := 59) p.toNat C dX10_ray_58 rfl kk_171 (show 171 < 215 by decide) (by omega) (by omega) (by decide) ?_
      refine am_intE (y := (iZ (rb (raysA σ.1) p.toNat : Int))) (f3 p.toNat (by omega)).2.1 ?_
      refine am_iret C T dX10_ray_59 rfl (Nat.le_refl _) (Nat.le_refl _) ⟨_, rfl, ?_⟩
      refine ⟨congrArg iZ ?_, _, _, rfl, hC, frC_refl⟩
      rw [if_pos (by omega), if_neg (by omega), if_pos (by omega)]
    · refine am_tableIn (q := 60) (off := 46) C dX10_ray_14 (by rw [iZ_toInt hk]; omega) (by rw [iZ_toInt hk]; omega) (by rw [iZ_toInt hk, c2]; rfl) (by decide) ?_
      refine am_aload_n (q := 61) C dX10_ray_60 rfl rfl ?_
      refine am_getR (q := 64) C fb_X10_45 dX10_ray_61 rfl rfl kk_0 (show 0 < 215 by decide) kr_0_5 ?_
      refine am_getR (q := 67) C fb_X10_204 dX10_ray_64 rfl rfl kk_169 (show 169 < 215 by decide) kr_169_2 ?_
      refine am_iload_n (q := 68) C dX10_ray_67 rfl rfl ?_
      refine am_ialoadZ (q := 69) p.toNat C dX10_ray_68 rfl kk_172 (show 172 < 215 by decide) (by omega) (by omega) (by decide) ?_
      refine am_intE (y := (iZ (memP σ.1 (raysA σ.1) p.toNat (pm σ.1) : Int))) (hC.2.2.1.1.2.1 p.toNat (by omega)) ?_
      refine am_iret C T dX10_ray_69 rfl (Nat.le_refl _) (Nat.le_refl _) ⟨_, rfl, ?_⟩
      refine ⟨congrArg iZ ?_, _, _, rfl, hC, frC_refl⟩
      rw [if_pos (by omega), if_neg (by omega), if_neg (by omega), if_pos (by omega)]
  · refine am_iconst (q := 12) (v := iZ (-1)) C dX10_ray_11 rfl rfl ?_
    refine am_iret C T dX10_ray_12 rfl (Nat.le_refl _) (Nat.le_refl _) ⟨_, rfl, ?_⟩
    refine ⟨congrArg iZ ?_, _, _, rfl, hC, frC_refl⟩
    first | (rw [if_neg (by omega)]; done) | (rw [if_pos (by omega), if_neg (by omega), if_neg (by omega), if_neg (by omega)])
set_option maxRecDepth 4000 in
theorem sp_X10_partOf {σ : SG} (hC : atC I J σ) {p k : Int} (hp : rg p) (hk : rg k) : am_S G mX10_partOf 2 0 0 [.ref 0, .int (iZ p), .int (iZ k)] (215, kK, kR, I, J) (am_qi (fun v w' => v = iZ (if 0 ≤ p ∧ p < pm σ.1 then (if k = 0 then (pa σ.1 p.toNat : Int) else if k = 1 then (pb σ.1 p.toNat : Int) else if k = 2 then (pw σ.1 p.toNat : Int) else if k = 3 then (fidx (raysA σ.1) (pa σ.1 p.toNat) (pb σ.1 p.toNat) : Int) else if k = 4 then (ons 64 (ps σ.1 p.toNat) : Int) else -1) else -1) ∧ ∃ (I' : Nat → Nat → Int32) (J' : Nat → Nat → Int64), w' = (215, kK, kR, I', J') ∧ atC I' J' (σ) ∧ frC I J I' J')) := by
  have hm := hC.2.1.1
  have hF := hC.2.2.1.1.1
  have hper := hC.2.2.1.1.2.2.2
  have hp1 := perP_ok hC.2.1 (pm σ.1) (Nat.le_refl _)
  have hp2 := per_le hp1
  have f2 := hF.2.1
  have f3 := hF.2.2
  refine am_spec (plainFor_of_name (by decide +kernel)) (Nat.le_of_ble_eq_true rfl) (L := [some (.ref 0), some (.int (iZ p)), some (.int (iZ k))]) rfl (fun X C T => ?_)
  refine am_aload_n (q := 1) C dX10_partOf_0 rfl rfl ?_
  refine am_getR (q := 4) C fb_X10_14 dX10_partOf_1 rfl rfl kk_0 (show 0 < 215 by decide) kr_0_0 ?_
  refine am_iload_n (q := 5) C dX10_partOf_4 rfl rfl ?_
  refine am_callN (q := 8) (As := [.int (iZ p)]) (rest := []) C mb_X5_has im_X5_has se_X5_has mn_X10_113 cb_5 kk_1 (show 1 < 215 by decide) dX10_partOf_5 rfl (sp_X5_has isP_1 hC.1 hC.2.1 hp) rfl rfl ⟨by decide, by decide⟩ ⟨Nat.le_refl _, Nat.le_refl _⟩ (Nat.le_of_ble_eq_true rfl) (am_rie ?_)
  refine am_ifB_ne (q := 11) (tgt := 13) C dX10_partOf_8 (by decide) rfl (fun c1 => ?_) (fun c1 => ?_)
  · refine am_iload_n (q := 14) C dX10_partOf_13 rfl rfl ?_
    rcases (show (k < 0 ∨ 4 < k) ∨ k = 0 ∨ k = 1 ∨ k = 2 ∨ k = 3 ∨ k = 4 by omega) with c2 | c2 | c2 | c2 | c2 | c2
    · refine am_tableOut (q := 101) C dX10_partOf_14 (by rw [iZ_toInt hk]; omega) (by decide) ?_
      refine am_iconst (q := 102) (v := iZ (-1)) C dX10_partOf_101 rfl rfl ?_
      refine am_iret C T dX10_partOf_102 rfl (Nat.le_refl _) (Nat.le_refl _) ⟨_, rfl, ?_⟩
      refine ⟨congrArg iZ ?_, _, _, rfl, hC, frC_refl⟩
      first | (rw [if_neg (by omega)]; done) | (rw [if_pos (by omega), if_neg (by omega), if_neg (by omega), if_neg (by omega), if_neg (by omega), if_neg (by omega)])
    · refine am_tableIn (q := 48) (off := 34) C dX10_partOf_14 (by rw [iZ_toInt hk]; omega) (by rw [iZ_toInt hk]; omega) (by rw [iZ_toInt hk, c2]; rfl) (by decide) ?_
      refine am_aload_n (q := 49) C dX10_partOf_48 rfl rfl ?_
      refine am_getR (q := 52) C fb_X10_14 dX10_partOf_49 rfl rfl kk_0 (show 0 < 215 by decide) kr_0_0 ?_
      refine am_getR (q := 55) C fb_X10_121 dX10_partOf_52 rfl rfl kk_1 (show 1 < 215 by decide) kr_1_0 ?_
      refine am_iload_n (q := 56) C dX10_partOf_55 rfl rfl ?_
      refine am_ialoadZ (q := 57) p.toNat C dX10_partOf_56 rfl kk_2 (show 2 < 215 by decide) (by omega) (by omega) (by decide) ?_
      refine am_intE (y := (iZ (pa σ.1 p.toNat : Int))) (hC.1.2 p.toNat (by omega)).1 ?_
      refine am_iret C T dX10_partOf_57 rfl (Nat.le_refl _) (Nat.le_refl _) ⟨_, rfl, ?_⟩
      refine ⟨congrArg iZ ?_, _, _, rfl, hC, frC_refl⟩
      rw [if_pos (by omega), if_pos (by omega)]
    · refine am_tableIn (q := 58) (off := 44) C dX10_partOf_14 (by rw [iZ_toInt hk]; omega) (by rw [iZ_toInt hk]; omega) (by rw [iZ_toInt hk, c2]; rfl) (by decide) ?_
      refine am_aload_n (q := 59) C dX10_partOf_58 rfl rfl ?_
      refine am_getR (q := 62) C fb_X10_14 dX10_partOf_59 rfl rfl kk_0 (show 0 < 215 by decide) kr_0_0 ?_
      refine am_getR (q := 65) C fb_X10_124 dX10_partOf_62 rfl rfl kk_1 (show 1 < 215 by decide) kr_1_1 ?_
      refine am_iload_n (q := 66) C dX10_partOf_65 rfl rfl ?_
      refine am_ialoadZ (q := 67) p.toNat C dX10_partOf_66 rfl kk_3 (show 3 < 215 by decide) (by omega) (by omega) (by decide) ?_
      refine am_intE (y := (iZ (pb σ.1 p.toNat : Int))) (hC.1.2 p.toNat (by omega)).2.1 ?_
      refine am_iret C T dX10_partOf_67 rfl (Nat.le_refl _) (Nat.le_refl _) ⟨_, rfl, ?_⟩
      refine ⟨congrArg iZ ?_, _, _, rfl, hC, frC_refl⟩
      rw [if_pos (by omega), if_neg (by omega), if_pos (by omega)]
    · refine am_tableIn (q := 68) (off := 54) C dX10_partOf_14 (by rw [iZ_toInt hk]; omega) (by rw [iZ_toInt hk]; omega) (by rw [iZ_toInt hk, c2]; rfl) (by decide) ?_
      refine am_aload_n (q := 69) C dX10_partOf_68 rfl rfl ?_
      refine am_getR (q := 72) C fb_X10_14 dX10_partOf_69 rfl rfl kk_0 (show 0 < 215 by decide) kr_0_0 ?_
      refine am_getR (q := 75) C fb_X10_117 dX10_partOf_72 rfl rfl kk_1 (show 1 < 215 by decide) kr_1_2 ?_
      refine am_iload_n (q := 76) C dX10_partOf_75 rfl rfl ?_
      refine am_ialoadZ (q := 77) p.toNat C dX10_partOf_76 rfl kk_4 (show 4 < 215 by decide) (by omega) (by omega) (by decide) ?_
      refine am_intE (y := (iZ (pw σ.1 p.toNat : Int))) (hC.1.2 p.toNat (by omega)).2.2.1 ?_
      refine am_iret C T dX10_partOf_77 rfl (Nat.le_refl _) (Nat.le_refl _) ⟨_, rfl, ?_⟩
      refine ⟨congrArg iZ ?_, _, _, rfl, hC, frC_refl⟩
      rw [if_pos (by omega), if_neg (by omega), if_neg (by omega), if_pos (by omega)]
    · refine am_tableIn (q := 78) (off := 64) C dX10_partOf_14 (by rw [iZ_toInt hk]; omega) (by rw [iZ_toInt hk]; omega) (by rw [iZ_toInt hk, c2]; rfl) (by decide) ?_
      refine am_aload_n (q := 79) C dX10_partOf_78 rfl rfl ?_
      refine am_getR (q := 82) C fb_X10_45 dX10_partOf_79 rfl rfl kk_0 (show 0 < 215 by decide) kr_0_5 ?_
      refine am_getR (q := 85) C fb_X10_127 dX10_partOf_82 rfl rfl kk_169 (show 169 < 215 by decide) kr_169_3 ?_
      refine am_iload_n (q := 86) C dX10_partOf_85 rfl rfl ?_
      refine am_ialoadZ (q := 87) p.toNat C dX10_partOf_86 rfl kk_173 (show 173 < 215 by decide) (by omega) (by omega) (by decide) ?_
      refine am_intE (y := (iZ (fidx (raysA σ.1) (pa σ.1 p.toNat) (pb σ.1 p.toNat) : Int))) (hC.2.2.1.1.2.2.1 p.toNat (by omega)) ?_
      refine am_iret C T dX10_partOf_87 rfl (Nat.le_refl _) (Nat.le_refl _) ⟨_, rfl, ?_⟩
      refine ⟨congrArg iZ ?_, _, _, rfl, hC, frC_refl⟩
      rw [if_pos (by omega), if_neg (by omega), if_neg (by omega), if_neg (by omega), if_pos (by omega)]
    · refine am_tableIn (q := 88) (off := 74) C dX10_partOf_14 (by rw [iZ_toInt hk]; omega) (by rw [iZ_toInt hk]; omega) (by rw [iZ_toInt hk, c2]; rfl) (by decide) ?_
      refine am_aload_n (q := 89) C dX10_partOf_88 rfl rfl ?_
      refine am_getR (q := 92) C fb_X10_14 dX10_partOf_89 rfl rfl kk_0 (show 0 < 215 by decide) kr_0_0 ?_
      refine am_getR (q := 95) C fb_X10_130 dX10_partOf_92 rfl rfl kk_1 (show 1 < 215 by decide) kr_1_3 ?_
      refine am_iload_n (q := 96) C dX10_partOf_95 rfl rfl ?_
      refine am_laloadZ (q := 97) p.toNat C dX10_partOf_96 rfl kk_5 (show 5 < 215 by decide) (by omega) (by omega) (by decide) ?_
      refine am_longE (y := (lN (ps σ.1 p.toNat))) (hC.1.2 p.toNat (by omega)).2.2.2 ?_
      refine am_callS (q := 100) (As := [.long (lN (ps σ.1 p.toNat))]) (rest := []) C mb_J13_bitCount_95d88 st_J13_bitCount_95d88 ml_X10_134 dX10_partOf_97 rfl (sp_bitCount (hC.2.1.2 p.toNat (by omega)).2.2.2.2.2) rfl rfl ⟨by decide, by decide⟩ ⟨Nat.le_refl _, Nat.le_refl _⟩ (Nat.le_of_ble_eq_true rfl) (am_rie ?_)
      refine am_iret C T dX10_partOf_100 rfl (Nat.le_refl _) (Nat.le_refl _) ⟨_, rfl, ?_⟩
      refine ⟨congrArg iZ ?_, _, _, rfl, hC, frC_refl⟩
      rw [if_pos (by omega), if_neg (by omega), if_neg (by omega), if_neg (by omega), if_neg (by omega), if_pos (by omega)]
  · refine am_iconst (q := 12) (v := iZ (-1)) C dX10_partOf_11 rfl rfl ?_
    refine am_iret C T dX10_partOf_12 rfl (Nat.le_refl _) (Nat.le_refl _) ⟨_, rfl, ?_⟩
    refine ⟨congrArg iZ ?_, _, _, rfl, hC, frC_refl⟩
    first | (rw [if_neg (by omega)]; done) | (rw [if_pos (by omega), if_neg (by omega), if_neg (by omega), if_neg (by omega), if_neg (by omega), if_neg (by omega)])
