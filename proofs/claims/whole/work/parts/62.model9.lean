variable {G : am_G} {I : Nat → Nat → Int32} {J : Nat → Nat → Int64}
set_option maxRecDepth 4000 in
theorem sp_X11_rayOf {t : PT} (hA : atQ I J t) (hK : okP t) {p : Nat} (hp : p < pm t) : am_S G mX11_rayOf 3 0 0 [.ref 191, .int (iZ (p : Int))] (215, kK, kR, I, J) (am_qi (fun v w' => v = iZ (fidx (raysA t) (pa t p) (pb t p) : Int) ∧ ∃ I' : Nat → Nat → Int32, w' = (215, kK, kR, I', J) ∧ rayM I' t ∧ frS I J I' J)) := by
  have hm := hK.1
  have hlen : (raysA t).length ≤ pm t := raysP_len t (pm t)
  have hp1 := perP_ok hK (pm t) (Nat.le_refl _)
  have hp2 := per_le hp1
  have hrk := (ray_of hK hp).1
  have efx : fidx (raysA t) (pa t p) (pb t p) = rk t p := if_pos hrk
  have hrk9 : rk t p < (raysA t).length := hrk
  refine am_spec (plainFor_of_name (by decide +kernel)) (Nat.le_of_ble_eq_true rfl) (L := [some (.ref 191), some (.int (iZ (p : Int))), none]) rfl (fun X C T => ?_)
  refine am_aload_n (q := 1) C dX11_rayOf_0 rfl rfl ?_
  refine am_callV (q := 4) (As := []) (rest := []) C mb_X11_findRays im_X11_findRays se_X11_findRays ml_X11_228 cb_11 kk_191 (show 191 < 215 by decide) dX11_rayOf_1 rfl (sp_X11_findRays hA hK) rfl rfl ⟨by decide, by decide⟩ ⟨Nat.le_refl _, Nat.le_refl _⟩ (Nat.le_of_ble_eq_true rfl) (am_rv (fun w' hw' => ?_))
  obtain ⟨I1, rfl, hR, hfr⟩ := hw'
  have hA1 := hA.fr hfr
  refine am_iconst (q := 5) (v := iZ 0) C dX11_rayOf_4 rfl rfl ?_
  refine am_istore_n (q := 6) (L' := [some (.ref 191), some (.int (iZ (p : Int))), some (.int (iZ 0))]) C dX11_rayOf_5 rfl (by decide) rfl rfl ?_
  have lp : ∀ (fuel : Nat) (r : Nat), (r ≤ rk t p) → (rk t p - r) < fuel → am_A G mX11_rayOf X (am_rm 3 0 0) 6 [some (.ref 191), some (.int (iZ (p : Int))), some (.int (iZ (r : Int)))] [] (215, kK, kR, I1, J) 0 0 := by
    intro fuel
    induction fuel with
    | zero => intro r hr hf; exact absurd hf (Nat.not_lt_zero _)
    | succ fuel ih =>
      intro r hr hf
      have hms := mem_step hK hp (r := r) (by omega)
      have hlr := ray_le hK (k := r) (by omega)
      have hpr1 := pr44 (hK.2 p hp).1 hlr.2
      have hpr2 := pr44 (hK.2 p hp).2.1 hlr.1
      have f1 : (pa t p : Int) * (rb (raysA t) r : Int) = ((pa t p * rb (raysA t) r : Nat) : Int) := by simp
      have f2 : (pb t p : Int) * (ra (raysA t) r : Int) = ((pb t p * ra (raysA t) r : Nat) : Int) := by simp
      refine am_aload_n (q := 7) C dX11_rayOf_6 rfl rfl ?_
      refine am_getR (q := 10) C fb_X11_15 dX11_rayOf_7 rfl rfl kk_191 (show 191 < 215 by decide) kr_191_4 ?_
      refine am_iload_n (q := 11) C dX11_rayOf_10 rfl rfl ?_
      refine am_ialoadZ (q := 12) p C dX11_rayOf_11 rfl kk_192 (show 192 < 215 by decide) rfl (by omega) (by decide) ?_
      refine am_intE (y := (iZ (pa t p : Int))) (hA1.2 p hp).1 ?_
      refine am_aload_n (q := 13) C dX11_rayOf_12 rfl rfl ?_
      refine am_getR (q := 16) C fb_X11_71 dX11_rayOf_13 rfl rfl kk_191 (show 191 < 215 by decide) kr_191_30 ?_
      refine am_iload_n (q := 17) C dX11_rayOf_16 rfl rfl ?_
      refine am_ialoadZ (q := 18) r C dX11_rayOf_17 rfl kk_210 (show 210 < 215 by decide) rfl (by omega) (by decide) ?_
      refine am_intE (y := (iZ (rb (raysA t) r : Int))) (hR.2 r (by omega)).2.1 ?_
      refine am_imulZ (q := 19) C dX11_rayOf_18 rfl ?_
      refine am_aload_n (q := 20) C dX11_rayOf_19 rfl rfl ?_
      refine am_getR (q := 23) C fb_X11_19 dX11_rayOf_20 rfl rfl kk_191 (show 191 < 215 by decide) kr_191_5 ?_
      refine am_iload_n (q := 24) C dX11_rayOf_23 rfl rfl ?_
      refine am_ialoadZ (q := 25) p C dX11_rayOf_24 rfl kk_193 (show 193 < 215 by decide) rfl (by omega) (by decide) ?_
      refine am_intE (y := (iZ (pb t p : Int))) (hA1.2 p hp).2.1 ?_
      refine am_aload_n (q := 26) C dX11_rayOf_25 rfl rfl ?_
      refine am_getR (q := 29) C fb_X11_68 dX11_rayOf_26 rfl rfl kk_191 (show 191 < 215 by decide) kr_191_29 ?_
      refine am_iload_n (q := 30) C dX11_rayOf_29 rfl rfl ?_
      refine am_ialoadZ (q := 31) r C dX11_rayOf_30 rfl kk_209 (show 209 < 215 by decide) rfl (by omega) (by decide) ?_
      refine am_intE (y := (iZ (ra (raysA t) r : Int))) (hR.2 r (by omega)).1 ?_
      refine am_imulZ (q := 32) C dX11_rayOf_31 rfl ?_
      refine am_icmpZ_eq (q := 35) (tgt := 41) C dX11_rayOf_32 (by decide) rfl ⟨by omega, by omega⟩ ⟨by omega, by omega⟩ (fun g1 => ?_) (fun g1 => ?_)
      · refine am_iload_n (q := 42) C dX11_rayOf_41 rfl rfl ?_
        refine am_iret C T dX11_rayOf_42 rfl (Nat.le_refl _) (Nat.le_refl _) ⟨_, rfl, ?_⟩
        rw [hms.mpr (by omega)]
        exact ⟨rfl, _, rfl, hR, hfr⟩
      · refine am_iincZ (q := 38) (L' := [some (.ref 191), some (.int (iZ (p : Int))), some (.int (iZ ((r + 1 : Nat) : Int)))]) C dX11_rayOf_35 rfl rfl (by omega) (by decide) rfl rfl ?_
        refine am_goto (q := 6) C dX11_rayOf_38 (by decide) ?_
        have hne : r ≠ rk t p := fun e => by
          have h9 := hms.mp (by rw [efx, e])
          omega
        exact ih (r + 1) (by omega) (by omega)
  exact lp (rk t p + 1) 0 (Nat.zero_le _) (by omega)
set_option maxRecDepth 4000 in
theorem sp_X11_ray {σ : SG} (hM : atM I J σ) {p k : Int} (hp : rg p) (hk : rg k) : am_S G mX11_ray 3 0 0 [.ref 191, .int (iZ p), .int (iZ k)] (215, kK, kR, I, J) (am_qi (fun v w' => v = iZ (if 0 ≤ p ∧ p < (raysA σ.1).length then (if k = 0 then (ra (raysA σ.1) p.toNat : Int) else if k = 1 then (rb (raysA σ.1) p.toNat : Int) else if k = 2 then (memP σ.1 (raysA σ.1) p.toNat (pm σ.1) : Int) else -1) else -1) ∧ ∃ (I' : Nat → Nat → Int32) (J' : Nat → Nat → Int64), w' = (215, kK, kR, I', J') ∧ atM I' J' (σ) ∧ frM I J I' J')) := by
  have hQ := hM.1
  have hK := hM.2.1
  have hm := hM.2.1.1
  have hL := hM.2.2.1
  have hlen : (raysA σ.1).length ≤ pm σ.1 := raysP_len σ.1 (pm σ.1)
  refine am_spec (plainFor_of_name (by decide +kernel)) (Nat.le_of_ble_eq_true rfl) (L := [some (.ref 191), some (.int (iZ p)), some (.int (iZ k))]) rfl (fun X C T => ?_)
  refine am_aload_n (q := 1) C dX11_ray_0 rfl rfl ?_
  refine am_callV (q := 4) (As := []) (rest := []) C mb_X11_findRays im_X11_findRays se_X11_findRays ml_X11_228 cb_11 kk_191 (show 191 < 215 by decide) dX11_ray_1 rfl (sp_X11_findRays hQ hK) rfl rfl ⟨by decide, by decide⟩ ⟨Nat.le_refl _, Nat.le_refl _⟩ (Nat.le_of_ble_eq_true rfl) (am_rv (fun w' hw' => ?_))
  obtain ⟨I1, rfl, hR, hf⟩ := hw'
  have hQ1 := hQ.fr hf
  refine am_iload_n (q := 5) C dX11_ray_4 rfl rfl ?_
  refine am_iconst (q := 6) (v := iZ 0) C dX11_ray_5 rfl rfl ?_
  refine am_aload_n (q := 7) C dX11_ray_6 rfl rfl ?_
  refine am_getIe (q := 10) (v := (iZ ((raysA σ.1).length : Int))) C fb_X11_219 dX11_ray_7 rfl rfl kk_191 (show 191 < 215 by decide) hR.1 ?_
  refine am_iconst (q := 11) (v := iZ 1) C dX11_ray_10 rfl rfl ?_
  refine am_isubZ (q := 12) C dX11_ray_11 rfl ?_
  refine am_callS (q := 15) (As := [.int (iZ p), .int (iZ 0), .int (iZ (((raysA σ.1).length : Int) - 1))]) (rest := []) C mb_X11_in st_X11_in ml_X11_89 dX11_ray_12 rfl (sp_X11_in (v := p) (a := 0) (b := ((raysA σ.1).length : Int) - 1) hp ⟨by omega, by omega⟩ ⟨by omega, by omega⟩) rfl rfl ⟨by decide, by decide⟩ ⟨Nat.le_refl _, Nat.le_refl _⟩ (Nat.le_of_ble_eq_true rfl) (am_rie ?_)
  refine am_ifB_ne (q := 18) (tgt := 20) C dX11_ray_15 (by decide) rfl (fun c1 => ?_) (fun c1 => ?_)
  · refine am_iload_n (q := 21) C dX11_ray_20 rfl rfl ?_
    refine am_ifZ_ne (q := 24) (tgt := 33) C dX11_ray_21 (by decide) rfl hk (fun c2 => ?_) (fun c2 => ?_)
    · refine am_iload_n (q := 34) C dX11_ray_33 rfl rfl ?_
      refine am_iconst (q := 35) (v := iZ 1) C dX11_ray_34 rfl rfl ?_
      refine am_icmpZ_ne (q := 38) (tgt := 47) C dX11_ray_35 (by decide) rfl hk ⟨by omega, by omega⟩ (fun c3 => ?_) (fun c3 => ?_)
      · refine am_iload_n (q := 48) C dX11_ray_47 rfl rfl ?_
        refine am_iconst (q := 49) (v := iZ 2) C dX11_ray_48 rfl rfl ?_
        refine am_icmpZ_ne (q := 52) (tgt := 61) C dX11_ray_49 (by decide) rfl hk ⟨by omega, by omega⟩ (fun c4 => ?_) (fun c4 => ?_)
        · refine am_iconst (q := 62) (v := iZ (-1)) C dX11_ray_61 rfl rfl ?_
          refine am_iret C T dX11_ray_62 rfl (Nat.le_refl _) (Nat.le_refl _) ⟨_, rfl, ?_⟩
          refine ⟨congrArg iZ ?_, _, _, rfl, hM.scr hf, hf.M⟩
          first | (rw [if_neg (by omega)]; done) | (rw [if_pos (by omega), if_neg (by omega), if_neg (by omega), if_neg (by omega)])
        · refine am_aload_n (q := 53) C dX11_ray_52 rfl rfl ?_
          refine am_getR (q := 56) C fb_X11_74 dX11_ray_53 rfl rfl kk_191 (show 191 < 215 by decide) kr_191_31 ?_
          refine am_iload_n (q := 57) C dX11_ray_56 rfl rfl ?_
          refine am_ialoadZ (q := 58) p.toNat C dX11_ray_57 rfl kk_211 (show 211 < 215 by decide) (by omega) (by omega) (by decide) ?_
          refine am_intE (y := (iZ (memP σ.1 (raysA σ.1) p.toNat (pm σ.1) : Int))) (hR.2 p.toNat (by omega)).2.2 ?_
          refine am_goto (q := 62) C dX11_ray_58 (by decide) ?_
          refine am_iret C T dX11_ray_62 rfl (Nat.le_refl _) (Nat.le_refl _) ⟨_, rfl, ?_⟩
          refine ⟨congrArg iZ ?_, _, _, rfl, hM.scr hf, hf.M⟩
          rw [if_pos (by omega), if_neg (by omega), if_neg (by omega), if_pos (by omega)]
      · refine am_aload_n (q := 39) C dX11_ray_38 rfl rfl ?_
        refine am_getR (q := 42) C fb_X11_71 dX11_ray_39 rfl rfl kk_191 (show 191 < 215 by decide) kr_191_30 ?_
        refine am_iload_n (q := 43) C dX11_ray_42 rfl rfl ?_
        refine am_ialoadZ (q := 44) p.toNat C dX11_ray_43 rfl kk_210 (show 210 < 215 by decide) (by omega) (by omega) (by decide) ?_
        refine am_intE (y := (iZ (rb (raysA σ.1) p.toNat : Int))) (hR.2 p.toNat (by omega)).2.1 ?_
        refine am_goto (q := 62) C dX11_ray_44 (by decide) ?_
        refine am_iret C T dX11_ray_62 rfl (Nat.le_refl _) (Nat.le_refl _) ⟨_, rfl, ?_⟩
        refine ⟨congrArg iZ ?_, _, _, rfl, hM.scr hf, hf.M⟩
        rw [if_pos (by omega), if_neg (by omega), if_pos (by omega)]
    · refine am_aload_n (q := 25) C dX11_ray_24 rfl rfl ?_
      refine am_getR (q := 28) C fb_X11_68 dX11_ray_25 rfl rfl kk_191 (show 191 < 215 by decide) kr_191_29 ?_
      refine am_iload_n (q := 29) C dX11_ray_28 rfl rfl ?_
      refine am_ialoadZ (q := 30) p.toNat C dX11_ray_29 rfl kk_209 (show 209 < 215 by decide) (by omega) (by omega) (by decide) ?_
      refine am_intE (y := (iZ (ra (raysA σ.1) p.toNat : Int))) (hR.2 p.toNat (by omega)).1 ?_
      refine am_goto (q := 62) C dX11_ray_30 (by decide) ?_
      refine am_iret C T dX11_ray_62 rfl (Nat.le_refl _) (Nat.le_refl _) ⟨_, rfl, ?_⟩
      refine ⟨congrArg iZ ?_, _, _, rfl, hM.scr hf, hf.M⟩
      rw [if_pos (by omega), if_pos (by omega)]
  · refine am_iconst (q := 19) (v := iZ (-1)) C dX11_ray_18 rfl rfl ?_
    refine am_iret C T dX11_ray_19 rfl (Nat.le_refl _) (Nat.le_refl _) ⟨_, rfl, ?_⟩
    refine ⟨congrArg iZ ?_, _, _, rfl, hM.scr hf, hf.M⟩
    first | (rw [if_neg (by omega)]; done) | (rw [if_pos (by omega), if_neg (by omega), if_neg (by omega), if_neg (by omega)])
set_option maxRecDepth 4000 in
theorem sp_X11_partOf {σ : SG} (hM : atM I J σ) {p k : Int} (hp : rg p) (hk : rg k) : am_S G mX11_partOf 4 0 0 [.ref 191, .int (iZ p), .int (iZ k)] (215, kK, kR, I, J) (am_qi (fun v w' => v = iZ (if 0 ≤ p ∧ p < pm σ.1 then (if k = 0 then (pa σ.1 p.toNat : Int) else if k = 1 then (pb σ.1 p.toNat : Int) else if k = 2 then (pw σ.1 p.toNat : Int) else if k = 3 then (fidx (raysA σ.1) (pa σ.1 p.toNat) (pb σ.1 p.toNat) : Int) else if k = 4 then (ons 64 (ps σ.1 p.toNat) : Int) else -1) else -1) ∧ ∃ (I' : Nat → Nat → Int32) (J' : Nat → Nat → Int64), w' = (215, kK, kR, I', J') ∧ atM I' J' (σ) ∧ frM I J I' J')) := by
  have hQ := hM.1
  have hK := hM.2.1
  have hm := hM.2.1.1
  have hL := hM.2.2.1
  refine am_spec (plainFor_of_name (by decide +kernel)) (Nat.le_of_ble_eq_true rfl) (L := [some (.ref 191), some (.int (iZ p)), some (.int (iZ k))]) rfl (fun X C T => ?_)
  refine am_aload_n (q := 1) C dX11_partOf_0 rfl rfl ?_
  refine am_iload_n (q := 2) C dX11_partOf_1 rfl rfl ?_
  refine am_callV (q := 5) (As := [.int (iZ p)]) (rest := []) C mb_X11_isPart im_X11_isPart se_X11_isPart ml_X11_105 cb_11 kk_191 (show 191 < 215 by decide) dX11_partOf_2 rfl (sp_X11_isPart hQ hK hp) rfl rfl ⟨by decide, by decide⟩ ⟨Nat.le_refl _, Nat.le_refl _⟩ (Nat.le_of_ble_eq_true rfl) (am_rie ?_)
  refine am_ifB_ne (q := 8) (tgt := 10) C dX11_partOf_5 (by decide) rfl (fun c1 => ?_) (fun c1 => ?_)
  · refine am_iload_n (q := 11) C dX11_partOf_10 rfl rfl ?_
    rcases (show (k < 0 ∨ 4 < k) ∨ k = 0 ∨ k = 1 ∨ k = 2 ∨ k = 3 ∨ k = 4 by omega) with c2 | c2 | c2 | c2 | c2 | c2
    · refine am_tableOut (q := 81) C dX11_partOf_11 (by rw [iZ_toInt hk]; omega) (by decide) ?_
      refine am_iconst (q := 82) (v := iZ (-1)) C dX11_partOf_81 rfl rfl ?_
      refine am_iret C T dX11_partOf_82 rfl (Nat.le_refl _) (Nat.le_refl _) ⟨_, rfl, ?_⟩
      refine ⟨congrArg iZ ?_, _, _, rfl, hM, frM_refl⟩
      first | (rw [if_neg (by omega)]; done) | (rw [if_pos (by omega), if_neg (by omega), if_neg (by omega), if_neg (by omega), if_neg (by omega), if_neg (by omega)])
    · refine am_tableIn (q := 44) (off := 33) C dX11_partOf_11 (by rw [iZ_toInt hk]; omega) (by rw [iZ_toInt hk]; omega) (by rw [iZ_toInt hk, c2]; rfl) (by decide) ?_
      refine am_aload_n (q := 45) C dX11_partOf_44 rfl rfl ?_
      refine am_getR (q := 48) C fb_X11_15 dX11_partOf_45 rfl rfl kk_191 (show 191 < 215 by decide) kr_191_4 ?_
      refine am_iload_n (q := 49) C dX11_partOf_48 rfl rfl ?_
      refine am_ialoadZ (q := 50) p.toNat C dX11_partOf_49 rfl kk_192 (show 192 < 215 by decide) (by omega) (by omega) (by decide) ?_
      refine am_intE (y := (iZ (pa σ.1 p.toNat : Int))) (hQ.2 p.toNat (by omega)).1 ?_
      refine am_iret C T dX11_partOf_50 rfl (Nat.le_refl _) (Nat.le_refl _) ⟨_, rfl, ?_⟩
      refine ⟨congrArg iZ ?_, _, _, rfl, hM, frM_refl⟩
      rw [if_pos (by omega), if_pos (by omega)]
    · refine am_tableIn (q := 51) (off := 40) C dX11_partOf_11 (by rw [iZ_toInt hk]; omega) (by rw [iZ_toInt hk]; omega) (by rw [iZ_toInt hk, c2]; rfl) (by decide) ?_
      refine am_aload_n (q := 52) C dX11_partOf_51 rfl rfl ?_
      refine am_getR (q := 55) C fb_X11_19 dX11_partOf_52 rfl rfl kk_191 (show 191 < 215 by decide) kr_191_5 ?_
      refine am_iload_n (q := 56) C dX11_partOf_55 rfl rfl ?_
      refine am_ialoadZ (q := 57) p.toNat C dX11_partOf_56 rfl kk_193 (show 193 < 215 by decide) (by omega) (by omega) (by decide) ?_
      refine am_intE (y := (iZ (pb σ.1 p.toNat : Int))) (hQ.2 p.toNat (by omega)).2.1 ?_
      refine am_iret C T dX11_partOf_57 rfl (Nat.le_refl _) (Nat.le_refl _) ⟨_, rfl, ?_⟩
      refine ⟨congrArg iZ ?_, _, _, rfl, hM, frM_refl⟩
      rw [if_pos (by omega), if_neg (by omega), if_pos (by omega)]
    · refine am_tableIn (q := 58) (off := 47) C dX11_partOf_11 (by rw [iZ_toInt hk]; omega) (by rw [iZ_toInt hk]; omega) (by rw [iZ_toInt hk, c2]; rfl) (by decide) ?_
      refine am_aload_n (q := 59) C dX11_partOf_58 rfl rfl ?_
      refine am_getR (q := 62) C fb_X11_22 dX11_partOf_59 rfl rfl kk_191 (show 191 < 215 by decide) kr_191_6 ?_
      refine am_iload_n (q := 63) C dX11_partOf_62 rfl rfl ?_
      refine am_ialoadZ (q := 64) p.toNat C dX11_partOf_63 rfl kk_194 (show 194 < 215 by decide) (by omega) (by omega) (by decide) ?_
      refine am_intE (y := (iZ (pw σ.1 p.toNat : Int))) (hQ.2 p.toNat (by omega)).2.2.1 ?_
      refine am_iret C T dX11_partOf_64 rfl (Nat.le_refl _) (Nat.le_refl _) ⟨_, rfl, ?_⟩
      refine ⟨congrArg iZ ?_, _, _, rfl, hM, frM_refl⟩
      rw [if_pos (by omega), if_neg (by omega), if_neg (by omega), if_pos (by omega)]
    · refine am_tableIn (q := 65) (off := 54) C dX11_partOf_11 (by rw [iZ_toInt hk]; omega) (by rw [iZ_toInt hk]; omega) (by rw [iZ_toInt hk, c2]; rfl) (by decide) ?_
      refine am_aload_n (q := 66) C dX11_partOf_65 rfl rfl ?_
      refine am_iload_n (q := 67) C dX11_partOf_66 rfl rfl ?_
      rw [show iZ p = iZ (p.toNat : Int) from congrArg iZ (by omega)]
      refine am_callV (q := 70) (As := [.int (iZ (p.toNat : Int))]) (rest := []) C mb_X11_rayOf im_X11_rayOf se_X11_rayOf ml_X11_109 cb_11 kk_191 (show 191 < 215 by decide) dX11_partOf_67 rfl (sp_X11_rayOf hQ hK (p := p.toNat) (by omega)) rfl rfl ⟨by decide, by decide⟩ ⟨Nat.le_refl _, Nat.le_refl _⟩ (Nat.le_of_ble_eq_true rfl) (am_ri (fun v' w' hw' => ?_))
      obtain ⟨rfl, I1, rfl, hR, hf⟩ := hw'
      refine am_iret C T dX11_partOf_70 rfl (Nat.le_refl _) (Nat.le_refl _) ⟨_, rfl, ?_⟩
      refine ⟨congrArg iZ ?_, _, _, rfl, hM.scr hf, hf.M⟩
      rw [if_pos (by omega), if_neg (by omega), if_neg (by omega), if_neg (by omega), if_pos (by omega)]
    · refine am_tableIn (q := 71) (off := 60) C dX11_partOf_11 (by rw [iZ_toInt hk]; omega) (by rw [iZ_toInt hk]; omega) (by rw [iZ_toInt hk, c2]; rfl) (by decide) ?_
      refine am_aload_n (q := 72) C dX11_partOf_71 rfl rfl ?_
      refine am_getR (q := 75) C fb_X11_25 dX11_partOf_72 rfl rfl kk_191 (show 191 < 215 by decide) kr_191_7 ?_
      refine am_iload_n (q := 76) C dX11_partOf_75 rfl rfl ?_
      refine am_laloadZ (q := 77) p.toNat C dX11_partOf_76 rfl kk_195 (show 195 < 215 by decide) (by omega) (by omega) (by decide) ?_
      refine am_longE (y := (lN (ps σ.1 p.toNat))) (hQ.2 p.toNat (by omega)).2.2.2 ?_
      refine am_callS (q := 80) (As := [.long (lN (ps σ.1 p.toNat))]) (rest := []) C mb_X11_ones st_X11_ones ml_X11_113 dX11_partOf_77 rfl (sp_X11_ones (hK.2 p.toNat (by omega)).2.2.2.2.2) rfl rfl ⟨by decide, by decide⟩ ⟨Nat.le_refl _, Nat.le_refl _⟩ (Nat.le_of_ble_eq_true rfl) (am_rie ?_)
      refine am_iret C T dX11_partOf_80 rfl (Nat.le_refl _) (Nat.le_refl _) ⟨_, rfl, ?_⟩
      refine ⟨congrArg iZ ?_, _, _, rfl, hM, frM_refl⟩
      rw [if_pos (by omega), if_neg (by omega), if_neg (by omega), if_neg (by omega), if_neg (by omega), if_pos (by omega)]
  · refine am_iconst (q := 9) (v := iZ (-1)) C dX11_partOf_8 rfl rfl ?_
    refine am_iret C T dX11_partOf_9 rfl (Nat.le_refl _) (Nat.le_refl _) ⟨_, rfl, ?_⟩
    refine ⟨congrArg iZ ?_, _, _, rfl, hM, frM_refl⟩
    first | (rw [if_neg (by omega)]; done) | (rw [if_pos (by omega), if_neg (by omega), if_neg (by omega), if_neg (by omega), if_neg (by omega), if_neg (by omega)])
theorem lcm_div {x d : Nat} (h : d ≠ 0) : x / Nat.gcd x d * d = lcm0 x d := by
  unfold lcm0
  rw [if_neg h, Nat.div_mul_right_comm (Nat.gcd_dvd_left x d)]
  rfl
theorem perQ_1 (t : PT) (p x q : Nat) : perQ t p x (q + 1) = lcm0 (perQ t p x q) (detN t p q) := rfl
theorem perP_1 (t : PT) (p : Nat) : perP t (p + 1) = perQ t p (perP t p) p := rfl
set_option maxRecDepth 4000 in
theorem sp_X11_periodNow {t : PT} (hA : atQ I J t) (hK : okP t) : am_S G mX11_periodNow 3 0 0 [.ref 191] (215, kK, kR, I, J) (am_fi (iZ (perP t (pm t) : Int)) (215, kK, kR, I, J)) := by
  have hm := hK.1
  refine am_spec (plainFor_of_name (by decide +kernel)) (Nat.le_of_ble_eq_true rfl) (L := [some (.ref 191), none, none, none, none]) rfl (fun X C T => ?_)
  have q1 : ∀ (fuel : Nat) (p q : Nat), (p < pm t) → (q ≤ p) → (p - q) < fuel → (am_A G mX11_periodNow X (am_rm 3 0 0) 73 [some (.ref 191), some (.int (iZ (perP t (p + 1) : Int))), some (.int (iZ (p : Int))), none, none] [] (215, kK, kR, I, J) 0 0) → am_A G mX11_periodNow X (am_rm 3 0 0) 14 [some (.ref 191), some (.int (iZ (perQ t p (perP t p) q : Int))), some (.int (iZ (p : Int))), some (.int (iZ (q : Int))), none] [] (215, kK, kR, I, J) 0 0 := by
    intro fuel
    induction fuel with
    | zero => intro p q hp hq hfu hk9; exact absurd hfu (Nat.not_lt_zero _)
    | succ fuel ih =>
      intro p q hp hq hfu hk9
      have hpo := perP_ok hK p (by omega)
      have hqo := perQ_ok hK hp hpo q (by omega)
      have hqle := per_le hqo
      have hdl := fun (h : q < p) => detN_le hK hp (q := q) (by omega)
      have hdr := fun (h : q < p) => dt_rg hK (p := p) (q := q) hp (by omega)
      have hde : detN t p q = (dt (dP t p) (dP t q)).natAbs := rfl
      have hgp : 1 ≤ Nat.gcd (perQ t p (perP t p) q) (detN t p q) := Nat.gcd_pos_of_pos_left _ hqo.1
      have hgl : Nat.gcd (perQ t p (perP t p) q) (detN t p q) ≤ perQ t p (perP t p) q := Nat.gcd_le_left _ hqo.1
      have hdd : perQ t p (perP t p) q / Nat.gcd (perQ t p (perP t p) q) (detN t p q) ≤ perQ t p (perP t p) q := Nat.div_le_self _ _
      refine am_iload_n (q := 15) C dX11_periodNow_14 rfl rfl ?_
      refine am_iload_n (q := 16) C dX11_periodNow_15 rfl rfl ?_
      refine am_icmpZ_ge (q := 19) (tgt := 73) C dX11_periodNow_16 (by decide) rfl ⟨by omega, by omega⟩ ⟨by omega, by omega⟩ (fun g1 => ?_) (fun g1 => ?_)
      · refine am_wkA (L1 := [some (.ref 191), some (.int (iZ (perQ t p (perP t p) q : Int))), some (.int (iZ (p : Int))), none, none]) ⟨rfl, ⟨rfl, ⟨rfl, trivial⟩⟩⟩ ?_
        have eq : q = p := by omega
        subst eq; exact hk9
      · have hdl := hdl (by omega)
        have hdr := hdr (by omega)
        refine am_aload_n (q := 20) C dX11_periodNow_19 rfl rfl ?_
        refine am_iload_n (q := 21) C dX11_periodNow_20 rfl rfl ?_
        refine am_iload_n (q := 22) C dX11_periodNow_21 rfl rfl ?_
        refine am_callV (As := [.int (iZ (p : Int)), .int (iZ (q : Int))]) (rest := []) C mb_X11_det im_X11_det se_X11_det ml_X11_222 cb_11 kk_191 (show 191 < 215 by decide) dX11_periodNow_22 rfl (sp_X11_det hA hK (p := p) (q := q) hp (by omega)) rfl rfl ⟨by decide, by decide⟩ ⟨Nat.le_refl _, Nat.le_refl _⟩ (Nat.le_of_ble_eq_true rfl) (am_rie ?_)
        refine am_ifZ_ge (q := 28) (tgt := 38) C dX11_periodNow_25 (by decide) rfl ⟨by omega, by omega⟩ (fun g2 => ?_) (fun g2 => ?_)
        · refine am_aload_n (q := 39) C dX11_periodNow_38 rfl rfl ?_
          refine am_iload_n (q := 40) C dX11_periodNow_39 rfl rfl ?_
          refine am_iload_n (q := 41) C dX11_periodNow_40 rfl rfl ?_
          refine am_callV (As := [.int (iZ (p : Int)), .int (iZ (q : Int))]) (rest := []) C mb_X11_det im_X11_det se_X11_det ml_X11_222 cb_11 kk_191 (show 191 < 215 by decide) dX11_periodNow_41 rfl (sp_X11_det hA hK (p := p) (q := q) hp (by omega)) rfl rfl ⟨by decide, by decide⟩ ⟨Nat.le_refl _, Nat.le_refl _⟩ (Nat.le_of_ble_eq_true rfl) (am_rie ?_)
          refine am_intE (show _ = iZ (detN t p q : Int) from congrArg iZ (by omega)) ?_
          refine am_istore (q := 46) (L' := [some (.ref 191), some (.int (iZ (perQ t p (perP t p) q : Int))), some (.int (iZ (p : Int))), some (.int (iZ (q : Int))), some (.int (iZ (detN t p q : Int)))]) C dX11_periodNow_44 rfl (by decide) rfl rfl ?_
          refine am_iload (q := 48) C dX11_periodNow_46 rfl rfl ?_
          refine am_ifZ_ne (q := 51) (tgt := 55) C dX11_periodNow_48 (by decide) rfl ⟨by omega, by omega⟩ (fun g3 => ?_) (fun g3 => ?_)
          · refine am_iload_n (q := 56) C dX11_periodNow_55 rfl rfl ?_
            refine am_iload_n (q := 57) C dX11_periodNow_56 rfl rfl ?_
            refine am_iload (q := 59) C dX11_periodNow_57 rfl rfl ?_
            refine am_callS (q := 62) (As := [.int (iZ (perQ t p (perP t p) q : Int)), .int (iZ (detN t p q : Int))]) (rest := [.int (iZ (perQ t p (perP t p) q : Int))]) C mb_X11_common st_X11_common ml_X11_225 dX11_periodNow_59 rfl (sp_X11_common (a := perQ t p (perP t p) q) (b := detN t p q) (by omega) (by omega)) rfl rfl ⟨by decide, by decide⟩ ⟨Nat.le_refl _, Nat.le_refl _⟩ (Nat.le_of_ble_eq_true rfl) (am_rie ?_)
            refine am_idivZ (q := 63) C dX11_periodNow_62 rfl ⟨by omega, by omega⟩ ⟨by omega, by omega⟩ (by omega) (by omega) ?_
            refine am_intE (y := (iZ ((perQ t p (perP t p) q / Nat.gcd (perQ t p (perP t p) q) (detN t p q) : Nat) : Int))) (congrArg iZ rfl) ?_
            refine am_iload (q := 65) C dX11_periodNow_63 rfl rfl ?_
            refine am_imulZ (q := 66) C dX11_periodNow_65 rfl ?_
            refine am_intE (y := (iZ (lcm0 (perQ t p (perP t p) q) (detN t p q) : Int))) (congrArg iZ ((Int.natCast_mul _ _).symm.trans (congrArg (fun z : Nat => (z : Int)) (lcm_div (by omega))))) ?_
            refine am_istore_n (q := 67) (L' := [some (.ref 191), some (.int (iZ (lcm0 (perQ t p (perP t p) q) (detN t p q) : Int))), some (.int (iZ (p : Int))), some (.int (iZ (q : Int))), some (.int (iZ (detN t p q : Int)))]) C dX11_periodNow_66 rfl (by decide) rfl rfl ?_
            refine am_iincZ (q := 70) (L' := [some (.ref 191), some (.int (iZ (lcm0 (perQ t p (perP t p) q) (detN t p q) : Int))), some (.int (iZ (p : Int))), some (.int (iZ ((q + 1 : Nat) : Int))), some (.int (iZ (detN t p q : Int)))]) C dX11_periodNow_67 rfl rfl (by omega) (by decide) rfl rfl ?_
            refine am_goto (q := 14) C dX11_periodNow_70 (by decide) ?_
            refine am_wkA (L1 := [some (.ref 191), some (.int (iZ (lcm0 (perQ t p (perP t p) q) (detN t p q) : Int))), some (.int (iZ (p : Int))), some (.int (iZ ((q + 1 : Nat) : Int))), none]) ⟨rfl, ⟨rfl, ⟨rfl, ⟨rfl, trivial⟩⟩⟩⟩ ?_
            have e9 : perQ t p (perP t p) (q + 1) = lcm0 (perQ t p (perP t p) q) (detN t p q) := by rw [perQ_1]
            have h9 := ih p (q + 1) hp (by omega) (by omega) hk9
            rw [e9] at h9
            exact h9
          · refine am_iload_n (q := 52) C dX11_periodNow_51 rfl rfl ?_
            refine am_goto (q := 66) C dX11_periodNow_52 (by decide) ?_
            refine am_istore_n (q := 67) (L' := [some (.ref 191), some (.int (iZ (perQ t p (perP t p) q : Int))), some (.int (iZ (p : Int))), some (.int (iZ (q : Int))), some (.int (iZ (detN t p q : Int)))]) C dX11_periodNow_66 rfl (by decide) rfl rfl ?_
            refine am_iincZ (q := 70) (L' := [some (.ref 191), some (.int (iZ (perQ t p (perP t p) q : Int))), some (.int (iZ (p : Int))), some (.int (iZ ((q + 1 : Nat) : Int))), some (.int (iZ (detN t p q : Int)))]) C dX11_periodNow_67 rfl rfl (by omega) (by decide) rfl rfl ?_
            refine am_goto (q := 14) C dX11_periodNow_70 (by decide) ?_
            refine am_wkA (L1 := [some (.ref 191), some (.int (iZ (perQ t p (perP t p) q : Int))), some (.int (iZ (p : Int))), some (.int (iZ ((q + 1 : Nat) : Int))), none]) ⟨rfl, ⟨rfl, ⟨rfl, ⟨rfl, trivial⟩⟩⟩⟩ ?_
            have e9 : perQ t p (perP t p) (q + 1) = perQ t p (perP t p) q := by rw [perQ_1]; exact if_pos (by omega)
            have h9 := ih p (q + 1) hp (by omega) (by omega) hk9
            rw [e9] at h9
            exact h9
        · refine am_aload_n (q := 29) C dX11_periodNow_28 rfl rfl ?_
          refine am_iload_n (q := 30) C dX11_periodNow_29 rfl rfl ?_
          refine am_iload_n (q := 31) C dX11_periodNow_30 rfl rfl ?_
          refine am_callV (As := [.int (iZ (p : Int)), .int (iZ (q : Int))]) (rest := []) C mb_X11_det im_X11_det se_X11_det ml_X11_222 cb_11 kk_191 (show 191 < 215 by decide) dX11_periodNow_31 rfl (sp_X11_det hA hK (p := p) (q := q) hp (by omega)) rfl rfl ⟨by decide, by decide⟩ ⟨Nat.le_refl _, Nat.le_refl _⟩ (Nat.le_of_ble_eq_true rfl) (am_rie ?_)
          refine am_inegZ (q := 35) C dX11_periodNow_34 rfl ?_
          refine am_goto (q := 44) C dX11_periodNow_35 (by decide) ?_
          refine am_intE (show _ = iZ (detN t p q : Int) from congrArg iZ (by omega)) ?_
          refine am_istore (q := 46) (L' := [some (.ref 191), some (.int (iZ (perQ t p (perP t p) q : Int))), some (.int (iZ (p : Int))), some (.int (iZ (q : Int))), some (.int (iZ (detN t p q : Int)))]) C dX11_periodNow_44 rfl (by decide) rfl rfl ?_
          refine am_iload (q := 48) C dX11_periodNow_46 rfl rfl ?_
          refine am_ifZ_ne (q := 51) (tgt := 55) C dX11_periodNow_48 (by decide) rfl ⟨by omega, by omega⟩ (fun g4 => ?_) (fun g4 => ?_)
          · refine am_iload_n (q := 56) C dX11_periodNow_55 rfl rfl ?_
            refine am_iload_n (q := 57) C dX11_periodNow_56 rfl rfl ?_
            refine am_iload (q := 59) C dX11_periodNow_57 rfl rfl ?_
            refine am_callS (q := 62) (As := [.int (iZ (perQ t p (perP t p) q : Int)), .int (iZ (detN t p q : Int))]) (rest := [.int (iZ (perQ t p (perP t p) q : Int))]) C mb_X11_common st_X11_common ml_X11_225 dX11_periodNow_59 rfl (sp_X11_common (a := perQ t p (perP t p) q) (b := detN t p q) (by omega) (by omega)) rfl rfl ⟨by decide, by decide⟩ ⟨Nat.le_refl _, Nat.le_refl _⟩ (Nat.le_of_ble_eq_true rfl) (am_rie ?_)
            refine am_idivZ (q := 63) C dX11_periodNow_62 rfl ⟨by omega, by omega⟩ ⟨by omega, by omega⟩ (by omega) (by omega) ?_
            refine am_intE (y := (iZ ((perQ t p (perP t p) q / Nat.gcd (perQ t p (perP t p) q) (detN t p q) : Nat) : Int))) (congrArg iZ rfl) ?_
            refine am_iload (q := 65) C dX11_periodNow_63 rfl rfl ?_
            refine am_imulZ (q := 66) C dX11_periodNow_65 rfl ?_
            refine am_intE (y := (iZ (lcm0 (perQ t p (perP t p) q) (detN t p q) : Int))) (congrArg iZ ((Int.natCast_mul _ _).symm.trans (congrArg (fun z : Nat => (z : Int)) (lcm_div (by omega))))) ?_
            refine am_istore_n (q := 67) (L' := [some (.ref 191), some (.int (iZ (lcm0 (perQ t p (perP t p) q) (detN t p q) : Int))), some (.int (iZ (p : Int))), some (.int (iZ (q : Int))), some (.int (iZ (detN t p q : Int)))]) C dX11_periodNow_66 rfl (by decide) rfl rfl ?_
            refine am_iincZ (q := 70) (L' := [some (.ref 191), some (.int (iZ (lcm0 (perQ t p (perP t p) q) (detN t p q) : Int))), some (.int (iZ (p : Int))), some (.int (iZ ((q + 1 : Nat) : Int))), some (.int (iZ (detN t p q : Int)))]) C dX11_periodNow_67 rfl rfl (by omega) (by decide) rfl rfl ?_
            refine am_goto (q := 14) C dX11_periodNow_70 (by decide) ?_
            refine am_wkA (L1 := [some (.ref 191), some (.int (iZ (lcm0 (perQ t p (perP t p) q) (detN t p q) : Int))), some (.int (iZ (p : Int))), some (.int (iZ ((q + 1 : Nat) : Int))), none]) ⟨rfl, ⟨rfl, ⟨rfl, ⟨rfl, trivial⟩⟩⟩⟩ ?_
            have e9 : perQ t p (perP t p) (q + 1) = lcm0 (perQ t p (perP t p) q) (detN t p q) := by rw [perQ_1]
            have h9 := ih p (q + 1) hp (by omega) (by omega) hk9
            rw [e9] at h9
            exact h9
          · refine am_iload_n (q := 52) C dX11_periodNow_51 rfl rfl ?_
            refine am_goto (q := 66) C dX11_periodNow_52 (by decide) ?_
            refine am_istore_n (q := 67) (L' := [some (.ref 191), some (.int (iZ (perQ t p (perP t p) q : Int))), some (.int (iZ (p : Int))), some (.int (iZ (q : Int))), some (.int (iZ (detN t p q : Int)))]) C dX11_periodNow_66 rfl (by decide) rfl rfl ?_
            refine am_iincZ (q := 70) (L' := [some (.ref 191), some (.int (iZ (perQ t p (perP t p) q : Int))), some (.int (iZ (p : Int))), some (.int (iZ ((q + 1 : Nat) : Int))), some (.int (iZ (detN t p q : Int)))]) C dX11_periodNow_67 rfl rfl (by omega) (by decide) rfl rfl ?_
            refine am_goto (q := 14) C dX11_periodNow_70 (by decide) ?_
            refine am_wkA (L1 := [some (.ref 191), some (.int (iZ (perQ t p (perP t p) q : Int))), some (.int (iZ (p : Int))), some (.int (iZ ((q + 1 : Nat) : Int))), none]) ⟨rfl, ⟨rfl, ⟨rfl, ⟨rfl, trivial⟩⟩⟩⟩ ?_
            have e9 : perQ t p (perP t p) (q + 1) = perQ t p (perP t p) q := by rw [perQ_1]; exact if_pos (by omega)
            have h9 := ih p (q + 1) hp (by omega) (by omega) hk9
            rw [e9] at h9
            exact h9
  have p1 : ∀ (fuel : Nat) (p : Nat), (p ≤ pm t) → (pm t - p) < fuel → am_A G mX11_periodNow X (am_rm 3 0 0) 4 [some (.ref 191), some (.int (iZ (perP t p : Int))), some (.int (iZ (p : Int))), none, none] [] (215, kK, kR, I, J) 0 0 := by
    intro fuel
    induction fuel with
    | zero => intro p hp hf; exact absurd hf (Nat.not_lt_zero _)
    | succ fuel ih =>
      intro p hp hf
      refine am_iload_n (q := 5) C dX11_periodNow_4 rfl rfl ?_
      refine am_aload_n (q := 6) C dX11_periodNow_5 rfl rfl ?_
      refine am_getIe (q := 9) (v := (iZ (pm t : Int))) C fb_X11_86 dX11_periodNow_6 rfl rfl kk_191 (show 191 < 215 by decide) hA.1 ?_
      refine am_icmpZ_ge (q := 12) (tgt := 79) C dX11_periodNow_9 (by decide) rfl ⟨by omega, by omega⟩ ⟨by omega, by omega⟩ (fun h1 => ?_) (fun h1 => ?_)
      · refine am_iload_n (q := 80) C dX11_periodNow_79 rfl rfl ?_
        refine am_iret C T dX11_periodNow_80 rfl (Nat.le_refl _) (Nat.le_refl _) ⟨_, rfl, ?_⟩
        rw [show p = pm t by omega]
        exact ⟨rfl, rfl⟩
      · refine am_iconst (q := 13) (v := iZ 0) C dX11_periodNow_12 rfl rfl ?_
        refine am_istore_n (q := 14) (L' := [some (.ref 191), some (.int (iZ (perP t p : Int))), some (.int (iZ (p : Int))), some (.int (iZ 0)), none]) C dX11_periodNow_13 rfl (by decide) rfl rfl ?_
        refine q1 7 p 0 (by omega) (Nat.zero_le _) (by omega) ?_
        refine am_iincZ (q := 76) (L' := [some (.ref 191), some (.int (iZ (perP t (p + 1) : Int))), some (.int (iZ ((p + 1 : Nat) : Int))), none, none]) C dX11_periodNow_73 rfl rfl (by omega) (by decide) rfl rfl ?_
        refine am_goto (q := 4) C dX11_periodNow_76 (by decide) ?_
        exact ih (p + 1) (by omega) (by omega)
  refine am_iconst (q := 1) (v := iZ 1) C dX11_periodNow_0 rfl rfl ?_
  refine am_istore_n (q := 2) (L' := [some (.ref 191), some (.int (iZ 1)), none, none, none]) C dX11_periodNow_1 rfl (by decide) rfl rfl ?_
  refine am_iconst (q := 3) (v := iZ 0) C dX11_periodNow_2 rfl rfl ?_
  refine am_istore_n (q := 4) (L' := [some (.ref 191), some (.int (iZ 1)), some (.int (iZ 0)), none, none]) C dX11_periodNow_3 rfl (by decide) rfl rfl ?_
  exact p1 (pm t + 1) 0 (Nat.zero_le _) (by omega)
set_option maxRecDepth 4000 in
theorem sp_X11_period {σ : SG} (hM : atM I J σ) : am_S G mX11_period 4 0 0 [.ref 191] (215, kK, kR, I, J) (am_qi (fun v w' => v = iZ (perP σ.1 (pm σ.1) : Int) ∧ ∃ (I' : Nat → Nat → Int32) (J' : Nat → Nat → Int64), w' = (215, kK, kR, I', J') ∧ atM I' J' (σ) ∧ frM I J I' J')) := by
  have hQ := hM.1
  have hK := hM.2.1
  have hm := hM.2.1.1
  have hL := hM.2.2.1
  refine am_spec (plainFor_of_name (by decide +kernel)) (Nat.le_of_ble_eq_true rfl) (L := [some (.ref 191)]) rfl (fun X C T => ?_)
  refine am_aload_n (q := 1) C dX11_period_0 rfl rfl ?_
  refine am_callV (q := 4) (As := []) (rest := []) C mb_X11_periodNow im_X11_periodNow se_X11_periodNow ml_X11_231 cb_11 kk_191 (show 191 < 215 by decide) dX11_period_1 rfl (sp_X11_periodNow hQ hK) rfl rfl ⟨by decide, by decide⟩ ⟨Nat.le_refl _, Nat.le_refl _⟩ (Nat.le_of_ble_eq_true rfl) (am_rie ?_)
  refine am_iret C T dX11_period_4 rfl (Nat.le_refl _) (Nat.le_refl _) ⟨_, rfl, ?_⟩
  exact ⟨rfl, _, _, rfl, hM, frM_refl⟩
set_option maxRecDepth 4000 in
theorem sp_X11_unit {σ : SG} (hM : atM I J σ) : am_S G mX11_unit 4 0 0 [.ref 191] (215, kK, kR, I, J) (am_qi (fun v w' => v = iZ (if perP σ.1 (pm σ.1) = 1 then 1 else 0) ∧ ∃ (I' : Nat → Nat → Int32) (J' : Nat → Nat → Int64), w' = (215, kK, kR, I', J') ∧ atM I' J' (σ) ∧ frM I J I' J')) := by
  have hQ := hM.1
  have hK := hM.2.1
  have hm := hM.2.1.1
  have hL := hM.2.2.1
  have hlen : (raysA σ.1).length ≤ pm σ.1 := raysP_len σ.1 (pm σ.1)
  have hp1 := perP_ok hK (pm σ.1) (Nat.le_refl _)
  have hp2 := per_le hp1
  refine am_spec (plainFor_of_name (by decide +kernel)) (Nat.le_of_ble_eq_true rfl) (L := [some (.ref 191)]) rfl (fun X C T => ?_)
  refine am_aload_n (q := 1) C dX11_unit_0 rfl rfl ?_
  refine am_callV (q := 4) (As := []) (rest := []) C mb_X11_periodNow im_X11_periodNow se_X11_periodNow ml_X11_231 cb_11 kk_191 (show 191 < 215 by decide) dX11_unit_1 rfl (sp_X11_periodNow hQ hK) rfl rfl ⟨by decide, by decide⟩ ⟨Nat.le_refl _, Nat.le_refl _⟩ (Nat.le_of_ble_eq_true rfl) (am_rie ?_)
  refine am_iconst (q := 5) (v := iZ 1) C dX11_unit_4 rfl rfl ?_
  refine am_icmpZ_ne (q := 8) (tgt := 12) C dX11_unit_5 (by decide) rfl ⟨by omega, by omega⟩ ⟨by omega, by omega⟩ (fun c1 => ?_) (fun c1 => ?_)
  · refine am_iconst (q := 13) (v := iZ 0) C dX11_unit_12 rfl rfl ?_
    refine am_iret C T dX11_unit_13 rfl (Nat.le_refl _) (Nat.le_refl _) ⟨_, rfl, ?_⟩
    first | (rw [if_pos (by omega)]) | (rw [if_neg (by omega)])
    exact ⟨rfl, _, _, rfl, hM, frM_refl⟩
  · refine am_iconst (q := 9) (v := iZ 1) C dX11_unit_8 rfl rfl ?_
    refine am_goto (q := 13) C dX11_unit_9 (by decide) ?_
    refine am_iret C T dX11_unit_13 rfl (Nat.le_refl _) (Nat.le_refl _) ⟨_, rfl, ?_⟩
    first | (rw [if_pos (by omega)]) | (rw [if_neg (by omega)])
    exact ⟨rfl, _, _, rfl, hM, frM_refl⟩
set_option maxRecDepth 4000 in
theorem sp_X11_chambers {t : PT} (hA : atQ I J t) (hK : okP t) : am_S G mX11_chambers 3 0 0 [.ref 191] (215, kK, kR, I, J) (am_qi (fun v w' => v = iZ (((raysA t).length - 1 : Nat) : Int) ∧ ∃ I' : Nat → Nat → Int32, w' = (215, kK, kR, I', J) ∧ rayM I' t ∧ frS I J I' J)) := by
  have hm := hK.1
  have hlen : (raysA t).length ≤ pm t := raysP_len t (pm t)
  have hp1 := perP_ok hK (pm t) (Nat.le_refl _)
  have hp2 := per_le hp1
  refine am_spec (plainFor_of_name (by decide +kernel)) (Nat.le_of_ble_eq_true rfl) (L := [some (.ref 191)]) rfl (fun X C T => ?_)
  refine am_aload_n (q := 1) C dX11_chambers_0 rfl rfl ?_
  refine am_callV (q := 4) (As := []) (rest := []) C mb_X11_findRays im_X11_findRays se_X11_findRays ml_X11_228 cb_11 kk_191 (show 191 < 215 by decide) dX11_chambers_1 rfl (sp_X11_findRays hA hK) rfl rfl ⟨by decide, by decide⟩ ⟨Nat.le_refl _, Nat.le_refl _⟩ (Nat.le_of_ble_eq_true rfl) (am_rv (fun w' hw' => ?_))
  obtain ⟨I1, rfl, hR, hfr⟩ := hw'
  have hA1 := hA.fr hfr
  refine am_aload_n (q := 5) C dX11_chambers_4 rfl rfl ?_
  refine am_getIe (q := 8) (v := (iZ ((raysA t).length : Int))) C fb_X11_219 dX11_chambers_5 rfl rfl kk_191 (show 191 < 215 by decide) hR.1 ?_
  refine am_iconst (q := 9) (v := iZ 1) C dX11_chambers_8 rfl rfl ?_
  refine am_icmpZ_le (q := 12) (tgt := 21) C dX11_chambers_9 (by decide) rfl ⟨by omega, by omega⟩ ⟨by omega, by omega⟩ (fun c1 => ?_) (fun c1 => ?_)
  · refine am_iconst (q := 22) (v := iZ 0) C dX11_chambers_21 rfl rfl ?_
    refine am_iret C T dX11_chambers_22 rfl (Nat.le_refl _) (Nat.le_refl _) ⟨_, rfl, ?_⟩
    exact ⟨congrArg iZ (by omega), _, rfl, hR, hfr⟩
  · refine am_aload_n (q := 13) C dX11_chambers_12 rfl rfl ?_
    refine am_getIe (q := 16) (v := (iZ ((raysA t).length : Int))) C fb_X11_219 dX11_chambers_13 rfl rfl kk_191 (show 191 < 215 by decide) hR.1 ?_
    refine am_iconst (q := 17) (v := iZ 1) C dX11_chambers_16 rfl rfl ?_
    refine am_isubZ (q := 18) C dX11_chambers_17 rfl ?_
    refine am_goto (q := 22) C dX11_chambers_18 (by decide) ?_
    refine am_iret C T dX11_chambers_22 rfl (Nat.le_refl _) (Nat.le_refl _) ⟨_, rfl, ?_⟩
    exact ⟨congrArg iZ (by omega), _, rfl, hR, hfr⟩
set_option maxRecDepth 4000 in
theorem sp_X11_areFormulas {t : PT} (hA : atQ I J t) (hK : okP t) : am_S G mX11_areFormulas 4 0 0 [.ref 191] (215, kK, kR, I, J) (am_qi (fun v w' => v = (if 2 ≤ (raysA t).length ∧ (perP t (pm t) : Int) ≤ 6 then 1 else 0) ∧ ∃ I' : Nat → Nat → Int32, w' = (215, kK, kR, I', J) ∧ rayM I' t ∧ frS I J I' J)) := by
  have hm := hK.1
  have hlen : (raysA t).length ≤ pm t := raysP_len t (pm t)
  have hp1 := perP_ok hK (pm t) (Nat.le_refl _)
  have hp2 := per_le hp1
  refine am_spec (plainFor_of_name (by decide +kernel)) (Nat.le_of_ble_eq_true rfl) (L := [some (.ref 191)]) rfl (fun X C T => ?_)
  refine am_aload_n (q := 1) C dX11_areFormulas_0 rfl rfl ?_
  refine am_callV (q := 4) (As := []) (rest := []) C mb_X11_chambers im_X11_chambers se_X11_chambers ml_X11_234 cb_11 kk_191 (show 191 < 215 by decide) dX11_areFormulas_1 rfl (sp_X11_chambers hA hK) rfl rfl ⟨by decide, by decide⟩ ⟨Nat.le_refl _, Nat.le_refl _⟩ (Nat.le_of_ble_eq_true rfl) (am_ri (fun v' w' hw' => ?_))
  obtain ⟨rfl, I1, rfl, hR, hf⟩ := hw'
  have hA1 := hA.fr hf
  refine am_ifZ_le (q := 7) (tgt := 20) C dX11_areFormulas_4 (by decide) rfl ⟨by omega, by omega⟩ (fun c1 => ?_) (fun c1 => ?_)
  · refine am_iconst (q := 21) (v := iZ 0) C dX11_areFormulas_20 rfl rfl ?_
    refine am_zretB (b := false) C T dX11_areFormulas_21 rfl (Nat.le_refl _) (Nat.le_refl _) rfl ⟨_, rfl, ?_⟩
    refine ⟨?_, _, rfl, hR, hf⟩
    first | (rw [if_neg (by omega)]; rfl) | (rw [if_pos (by omega)]; rfl)
  · refine am_aload_n (q := 8) C dX11_areFormulas_7 rfl rfl ?_
    refine am_callV (q := 11) (As := []) (rest := []) C mb_X11_periodNow im_X11_periodNow se_X11_periodNow ml_X11_231 cb_11 kk_191 (show 191 < 215 by decide) dX11_areFormulas_8 rfl (sp_X11_periodNow hA1 hK) rfl rfl ⟨by decide, by decide⟩ ⟨Nat.le_refl _, Nat.le_refl _⟩ (Nat.le_of_ble_eq_true rfl) (am_rie ?_)
    refine am_bipush (q := 13) (v := iZ 6) C dX11_areFormulas_11 rfl rfl ?_
    refine am_icmpZ_gt (q := 16) (tgt := 20) C dX11_areFormulas_13 (by decide) rfl ⟨by omega, by omega⟩ ⟨by omega, by omega⟩ (fun c2 => ?_) (fun c2 => ?_)
    · refine am_iconst (q := 21) (v := iZ 0) C dX11_areFormulas_20 rfl rfl ?_
      refine am_zretB (b := false) C T dX11_areFormulas_21 rfl (Nat.le_refl _) (Nat.le_refl _) rfl ⟨_, rfl, ?_⟩
      refine ⟨?_, _, rfl, hR, hf⟩
      first | (rw [if_neg (by omega)]; rfl) | (rw [if_pos (by omega)]; rfl)
    · refine am_iconst (q := 17) (v := iZ 1) C dX11_areFormulas_16 rfl rfl ?_
      refine am_goto (q := 21) C dX11_areFormulas_17 (by decide) ?_
      refine am_zretB (b := true) C T dX11_areFormulas_21 rfl (Nat.le_refl _) (Nat.le_refl _) rfl ⟨_, rfl, ?_⟩
      refine ⟨?_, _, rfl, hR, hf⟩
      first | (rw [if_neg (by omega)]; rfl) | (rw [if_pos (by omega)]; rfl)
set_option maxRecDepth 4000 in
theorem sp_X11_many {σ : SG} (hM : atM I J σ) {k : Int} (hk : rg k) : am_S G mX11_many 5 0 0 [.ref 191, .int (iZ k)] (215, kK, kR, I, J) (am_qi (fun v w' => v = iZ (if k = 0 then (pm σ.1 : Int) else if k = 1 then ((raysA σ.1).length : Int) else if k = 2 then (((raysA σ.1).length - 1 : Nat) : Int) else if k = 3 then (σ.2.1.1 : Int) else if k = 4 then (σ.2.2.2.2.1.1 : Int) else if k = 5 then (if 2 ≤ (raysA σ.1).length ∧ (perP σ.1 (pm σ.1) : Int) ≤ 6 then 1 else 0) else -1) ∧ ∃ (I' : Nat → Nat → Int32) (J' : Nat → Nat → Int64), w' = (215, kK, kR, I', J') ∧ atM I' J' (σ) ∧ frM I J I' J')) := by
  have hQ := hM.1
  have hK := hM.2.1
  have hm := hM.2.1.1
  have hL := hM.2.2.1
  have hlen : (raysA σ.1).length ≤ pm σ.1 := raysP_len σ.1 (pm σ.1)
  have hp1 := perP_ok hK (pm σ.1) (Nat.le_refl _)
  have hp2 := per_le hp1
  refine am_spec (plainFor_of_name (by decide +kernel)) (Nat.le_of_ble_eq_true rfl) (L := [some (.ref 191), some (.int (iZ k))]) rfl (fun X C T => ?_)
  refine am_iload_n (q := 1) C dX11_many_0 rfl rfl ?_
  rcases (show (k < 0 ∨ 5 < k) ∨ k = 0 ∨ k = 1 ∨ k = 2 ∨ k = 3 ∨ k = 4 ∨ k = 5 by omega) with c1 | c1 | c1 | c1 | c1 | c1 | c1
  · refine am_tableOut (q := 82) C dX11_many_1 (by rw [iZ_toInt hk]; omega) (by decide) ?_
    refine am_iconst (q := 83) (v := iZ (-1)) C dX11_many_82 rfl rfl ?_
    refine am_iret C T dX11_many_83 rfl (Nat.le_refl _) (Nat.le_refl _) ⟨_, rfl, ?_⟩
    refine ⟨congrArg iZ ?_, _, _, rfl, hM, frM_refl⟩
    rw [if_neg (by omega), if_neg (by omega), if_neg (by omega), if_neg (by omega), if_neg (by omega), if_neg (by omega)]
  · refine am_tableIn (q := 40) (off := 39) C dX11_many_1 (by rw [iZ_toInt hk]; omega) (by rw [iZ_toInt hk]; omega) (by rw [iZ_toInt hk, c1]; rfl) (by decide) ?_
    refine am_aload_n (q := 41) C dX11_many_40 rfl rfl ?_
    refine am_getIe (q := 44) (v := (iZ (pm σ.1 : Int))) C fb_X11_86 dX11_many_41 rfl rfl kk_191 (show 191 < 215 by decide) hQ.1 ?_
    refine am_iret C T dX11_many_44 rfl (Nat.le_refl _) (Nat.le_refl _) ⟨_, rfl, ?_⟩
    refine ⟨congrArg iZ ?_, _, _, rfl, hM, frM_refl⟩
    rw [if_pos (by omega)]
  · refine am_tableIn (q := 45) (off := 44) C dX11_many_1 (by rw [iZ_toInt hk]; omega) (by rw [iZ_toInt hk]; omega) (by rw [iZ_toInt hk, c1]; rfl) (by decide) ?_
    refine am_aload_n (q := 46) C dX11_many_45 rfl rfl ?_
    refine am_callV (q := 49) (As := []) (rest := []) C mb_X11_findRays im_X11_findRays se_X11_findRays ml_X11_228 cb_11 kk_191 (show 191 < 215 by decide) dX11_many_46 rfl (sp_X11_findRays hQ hK) rfl rfl ⟨by decide, by decide⟩ ⟨Nat.le_refl _, Nat.le_refl _⟩ (Nat.le_of_ble_eq_true rfl) (am_rv (fun w' hw' => ?_))
    obtain ⟨I1, rfl, hR, hf⟩ := hw'
    have hQ1 := hQ.fr hf
    refine am_aload_n (q := 50) C dX11_many_49 rfl rfl ?_
    refine am_getIe (q := 53) (v := (iZ ((raysA σ.1).length : Int))) C fb_X11_219 dX11_many_50 rfl rfl kk_191 (show 191 < 215 by decide) hR.1 ?_
    refine am_iret C T dX11_many_53 rfl (Nat.le_refl _) (Nat.le_refl _) ⟨_, rfl, ?_⟩
    refine ⟨congrArg iZ ?_, _, _, rfl, hM.scr hf, hf.M⟩
    rw [if_neg (by omega), if_pos (by omega)]
  · refine am_tableIn (q := 54) (off := 53) C dX11_many_1 (by rw [iZ_toInt hk]; omega) (by rw [iZ_toInt hk]; omega) (by rw [iZ_toInt hk, c1]; rfl) (by decide) ?_
    refine am_aload_n (q := 55) C dX11_many_54 rfl rfl ?_
    refine am_callV (q := 58) (As := []) (rest := []) C mb_X11_chambers im_X11_chambers se_X11_chambers ml_X11_234 cb_11 kk_191 (show 191 < 215 by decide) dX11_many_55 rfl (sp_X11_chambers hQ hK) rfl rfl ⟨by decide, by decide⟩ ⟨Nat.le_refl _, Nat.le_refl _⟩ (Nat.le_of_ble_eq_true rfl) (am_ri (fun v' w' hw' => ?_))
    obtain ⟨rfl, I1, rfl, hR, hf⟩ := hw'
    refine am_iret C T dX11_many_58 rfl (Nat.le_refl _) (Nat.le_refl _) ⟨_, rfl, ?_⟩
    refine ⟨congrArg iZ ?_, _, _, rfl, hM.scr hf, hf.M⟩
    rw [if_neg (by omega), if_neg (by omega), if_pos (by omega)]
  · refine am_tableIn (q := 59) (off := 58) C dX11_many_1 (by rw [iZ_toInt hk]; omega) (by rw [iZ_toInt hk]; omega) (by rw [iZ_toInt hk, c1]; rfl) (by decide) ?_
    refine am_aload_n (q := 60) C dX11_many_59 rfl rfl ?_
    refine am_getIe (q := 63) (v := (iZ (σ.2.1.1 : Int))) C fb_X11_93 dX11_many_60 rfl rfl kk_191 (show 191 < 215 by decide) hL.1 ?_
    refine am_iret C T dX11_many_63 rfl (Nat.le_refl _) (Nat.le_refl _) ⟨_, rfl, ?_⟩
    refine ⟨congrArg iZ ?_, _, _, rfl, hM, frM_refl⟩
    rw [if_neg (by omega), if_neg (by omega), if_neg (by omega), if_pos (by omega)]
  · refine am_tableIn (q := 64) (off := 63) C dX11_many_1 (by rw [iZ_toInt hk]; omega) (by rw [iZ_toInt hk]; omega) (by rw [iZ_toInt hk, c1]; rfl) (by decide) ?_
    refine am_aload_n (q := 65) C dX11_many_64 rfl rfl ?_
    refine am_getIe (q := 68) (v := (iZ (σ.2.2.2.2.1.1 : Int))) C fb_X11_117 dX11_many_65 rfl rfl kk_191 (show 191 < 215 by decide) hM.2.2.2.2.2.2.1.1 ?_
    refine am_iret C T dX11_many_68 rfl (Nat.le_refl _) (Nat.le_refl _) ⟨_, rfl, ?_⟩
    refine ⟨congrArg iZ ?_, _, _, rfl, hM, frM_refl⟩
    rw [if_neg (by omega), if_neg (by omega), if_neg (by omega), if_neg (by omega), if_pos (by omega)]
  · refine am_tableIn (q := 69) (off := 68) C dX11_many_1 (by rw [iZ_toInt hk]; omega) (by rw [iZ_toInt hk]; omega) (by rw [iZ_toInt hk, c1]; rfl) (by decide) ?_
    refine am_aload_n (q := 70) C dX11_many_69 rfl rfl ?_
    refine am_callV (q := 73) (As := []) (rest := []) C mb_X11_areFormulas im_X11_areFormulas se_X11_areFormulas ml_X11_280 cb_11 kk_191 (show 191 < 215 by decide) dX11_many_70 rfl (sp_X11_areFormulas hQ hK) rfl rfl ⟨by decide, by decide⟩ ⟨Nat.le_refl _, Nat.le_refl _⟩ (Nat.le_of_ble_eq_true rfl) (am_ri (fun v' w' hw' => ?_))
    obtain ⟨rfl, I1, rfl, hR, hf⟩ := hw'
    refine am_ifB_eq (q := 76) (tgt := 80) C dX11_many_73 (by decide) rfl (fun c2 => ?_) (fun c2 => ?_)
    · refine am_iconst (q := 81) (v := iZ 0) C dX11_many_80 rfl rfl ?_
      refine am_iret C T dX11_many_81 rfl (Nat.le_refl _) (Nat.le_refl _) ⟨_, rfl, ?_⟩
      refine ⟨congrArg iZ ?_, _, _, rfl, hM.scr hf, hf.M⟩
      rw [if_neg (by omega), if_neg (by omega), if_neg (by omega), if_neg (by omega), if_neg (by omega), if_pos (by omega), if_neg (by omega)]
    · refine am_iconst (q := 77) (v := iZ 1) C dX11_many_76 rfl rfl ?_
      refine am_goto (q := 81) C dX11_many_77 (by decide) ?_
      refine am_iret C T dX11_many_81 rfl (Nat.le_refl _) (Nat.le_refl _) ⟨_, rfl, ?_⟩
      refine ⟨congrArg iZ ?_, _, _, rfl, hM.scr hf, hf.M⟩
      rw [if_neg (by omega), if_neg (by omega), if_neg (by omega), if_neg (by omega), if_neg (by omega), if_pos (by omega), if_pos (by omega)]
/-- a chamber is looked at from a point -/
def lookM (I : Nat → Nat → Int32) (l : List (Nat × Nat)) (c : Nat) (x y : Int) : Prop := I 191 33 = iZ (ra l c : Int) ∧ I 191 34 = iZ (rb l c : Int) ∧ I 191 35 = iZ (ra l (c + 1) : Int) ∧ I 191 36 = iZ (rb l (c + 1) : Int) ∧ I 191 38 = iZ (lS l c x y) ∧ I 191 39 = iZ (lT l c x y) ∧ I 191 40 = iZ (lD l c)
theorem lT_eq (l : List (Nat × Nat)) (c : Nat) (x y : Int) : y * (ra l c : Int) - x * (rb l c : Int) = lT l c x y := by
  unfold lT
  rw [Int.mul_comm y, Int.mul_comm x]
theorem frS_37 {I' : Nat → Nat → Int32} (h1 : ∀ k, k < 33 → I' 191 k = I 191 k) (h2 : ∀ h, h ≠ 191 → I' h = I h) : frS I J I' J := ⟨fun k hk => h1 k (by omega), fun h g1 _ => ⟨h2 h g1, rfl⟩⟩
set_option maxRecDepth 4000 in
theorem sp_X11_looks {l : List (Nat × Nat)} {c : Nat} (hR : ∀ r, r < l.length → I 209 r = iZ (ra l r : Int) ∧ I 210 r = iZ (rb l r : Int)) (hc : c + 1 < l.length) (hl6 : l.length ≤ 6) {x y : Int} : am_S G mX11_looks 1 0 0 [.ref 191, .int (iZ (c : Int)), .int (iZ x), .int (iZ y)] (215, kK, kR, I, J) (am_qv (fun w' => ∃ I' : Nat → Nat → Int32, w' = (215, kK, kR, I', J) ∧ lookM I' l c x y ∧ (∀ k, k < 33 ∨ k = 37 ∨ 40 < k → I' 191 k = I 191 k) ∧ ∀ h, h ≠ 191 → I' h = I h)) := by
  refine am_spec (plainFor_of_name (by decide +kernel)) (Nat.le_of_ble_eq_true rfl) (L := [some (.ref 191), some (.int (iZ (c : Int))), some (.int (iZ x)), some (.int (iZ y))]) rfl (fun X C T => ?_)
  refine am_aload_n (q := 1) C dX11_looks_0 rfl rfl ?_
  refine am_aload_n (q := 2) C dX11_looks_1 rfl rfl ?_
  refine am_getR (q := 5) C fb_X11_68 dX11_looks_2 rfl rfl kk_191 (show 191 < 215 by decide) kr_191_29 ?_
  refine am_iload_n (q := 6) C dX11_looks_5 rfl rfl ?_
  refine am_ialoadZ (q := 7) c C dX11_looks_6 rfl kk_209 (show 209 < 215 by decide) rfl (by omega) (by decide) ?_
  refine am_intE (y := (iZ (ra l c : Int))) (hR c (by omega)).1 ?_
  refine am_putI (q := 10) C fw_X11_237 dX11_looks_7 rfl rfl kk_191 (show 191 < 215 by decide) ?_
  refine am_aload_n (q := 11) C dX11_looks_10 rfl rfl ?_
  refine am_aload_n (q := 12) C dX11_looks_11 rfl rfl ?_
  refine am_getR (q := 15) C fb_X11_71 dX11_looks_12 rfl rfl kk_191 (show 191 < 215 by decide) kr_191_30 ?_
  refine am_iload_n (q := 16) C dX11_looks_15 rfl rfl ?_
  refine am_ialoadZ (q := 17) c C dX11_looks_16 rfl kk_210 (show 210 < 215 by decide) rfl (by omega) (by decide) ?_
  refine am_intE (y := (iZ (rb l c : Int))) (by rw [am_up_row _ _ _ _ (by decide)]; exact (hR c (by omega)).2) ?_
  refine am_putI (q := 20) C fw_X11_240 dX11_looks_17 rfl rfl kk_191 (show 191 < 215 by decide) ?_
  refine am_aload_n (q := 21) C dX11_looks_20 rfl rfl ?_
  refine am_aload_n (q := 22) C dX11_looks_21 rfl rfl ?_
  refine am_getR (q := 25) C fb_X11_68 dX11_looks_22 rfl rfl kk_191 (show 191 < 215 by decide) kr_191_29 ?_
  refine am_iload_n (q := 26) C dX11_looks_25 rfl rfl ?_
  refine am_iconst (q := 27) (v := iZ 1) C dX11_looks_26 rfl rfl ?_
  refine am_iaddZ (q := 28) C dX11_looks_27 rfl ?_
  refine am_ialoadZ (q := 29) (c + 1) C dX11_looks_28 rfl kk_209 (show 209 < 215 by decide) (by omega) (by omega) (by decide) ?_
  refine am_intE (y := (iZ (ra l (c + 1) : Int))) (by rw [am_up_row _ _ _ _ (by decide), am_up_row _ _ _ _ (by decide)]; exact (hR (c + 1) (by omega)).1) ?_
  refine am_putI (q := 32) C fw_X11_243 dX11_looks_29 rfl rfl kk_191 (show 191 < 215 by decide) ?_
  refine am_aload_n (q := 33) C dX11_looks_32 rfl rfl ?_
  refine am_aload_n (q := 34) C dX11_looks_33 rfl rfl ?_
  refine am_getR (q := 37) C fb_X11_71 dX11_looks_34 rfl rfl kk_191 (show 191 < 215 by decide) kr_191_30 ?_
  refine am_iload_n (q := 38) C dX11_looks_37 rfl rfl ?_
  refine am_iconst (q := 39) (v := iZ 1) C dX11_looks_38 rfl rfl ?_
  refine am_iaddZ (q := 40) C dX11_looks_39 rfl ?_
  refine am_ialoadZ (q := 41) (c + 1) C dX11_looks_40 rfl kk_210 (show 210 < 215 by decide) (by omega) (by omega) (by decide) ?_
  refine am_intE (y := (iZ (rb l (c + 1) : Int))) (by rw [am_up_row _ _ _ _ (by decide), am_up_row _ _ _ _ (by decide), am_up_row _ _ _ _ (by decide)]; exact (hR (c + 1) (by omega)).2) ?_
  refine am_putI (q := 44) C fw_X11_246 dX11_looks_41 rfl rfl kk_191 (show 191 < 215 by decide) ?_
  refine am_aload_n (q := 45) C dX11_looks_44 rfl rfl ?_
  refine am_iload_n (q := 46) C dX11_looks_45 rfl rfl ?_
  refine am_aload_n (q := 47) C dX11_looks_46 rfl rfl ?_
  refine am_getIe (q := 50) (v := (iZ (rb l (c + 1) : Int))) C fb_X11_246 dX11_looks_47 rfl rfl kk_191 (show 191 < 215 by decide) (by rw [am_up_eq]) ?_
  refine am_imulZ (q := 51) C dX11_looks_50 rfl ?_
  refine am_iload_n (q := 52) C dX11_looks_51 rfl rfl ?_
  refine am_aload_n (q := 53) C dX11_looks_52 rfl rfl ?_
  refine am_getIe (q := 56) (v := (iZ (ra l (c + 1) : Int))) C fb_X11_243 dX11_looks_53 rfl rfl kk_191 (show 191 < 215 by decide) (by rw [am_up_ne _ _ _ _ (Or.inr (by decide)), am_up_eq]) ?_
  refine am_imulZ (q := 57) C dX11_looks_56 rfl ?_
  refine am_isubZ (q := 58) C dX11_looks_57 rfl ?_
  refine am_intE (y := (iZ (lS l c x y))) (congrArg iZ rfl) ?_
  refine am_putI (q := 61) C fw_X11_249 dX11_looks_58 rfl rfl kk_191 (show 191 < 215 by decide) ?_
  refine am_aload_n (q := 62) C dX11_looks_61 rfl rfl ?_
  refine am_iload_n (q := 63) C dX11_looks_62 rfl rfl ?_
  refine am_aload_n (q := 64) C dX11_looks_63 rfl rfl ?_
  refine am_getIe (q := 67) (v := (iZ (ra l c : Int))) C fb_X11_237 dX11_looks_64 rfl rfl kk_191 (show 191 < 215 by decide) (by rw [am_up_ne _ _ _ _ (Or.inr (by decide)), am_up_ne _ _ _ _ (Or.inr (by decide)), am_up_ne _ _ _ _ (Or.inr (by decide)), am_up_ne _ _ _ _ (Or.inr (by decide)), am_up_eq]) ?_
  refine am_imulZ (q := 68) C dX11_looks_67 rfl ?_
  refine am_iload_n (q := 69) C dX11_looks_68 rfl rfl ?_
  refine am_aload_n (q := 70) C dX11_looks_69 rfl rfl ?_
  refine am_getIe (q := 73) (v := (iZ (rb l c : Int))) C fb_X11_240 dX11_looks_70 rfl rfl kk_191 (show 191 < 215 by decide) (by rw [am_up_ne _ _ _ _ (Or.inr (by decide)), am_up_ne _ _ _ _ (Or.inr (by decide)), am_up_ne _ _ _ _ (Or.inr (by decide)), am_up_eq]) ?_
  refine am_imulZ (q := 74) C dX11_looks_73 rfl ?_
  refine am_isubZ (q := 75) C dX11_looks_74 rfl ?_
  refine am_intE (y := (iZ (lT l c x y))) (congrArg iZ (lT_eq l c x y)) ?_
  refine am_putI (q := 78) C fw_X11_252 dX11_looks_75 rfl rfl kk_191 (show 191 < 215 by decide) ?_
  refine am_aload_n (q := 79) C dX11_looks_78 rfl rfl ?_
  refine am_aload_n (q := 80) C dX11_looks_79 rfl rfl ?_
  refine am_getIe (q := 83) (v := (iZ (ra l c : Int))) C fb_X11_237 dX11_looks_80 rfl rfl kk_191 (show 191 < 215 by decide) (by rw [am_up_ne _ _ _ _ (Or.inr (by decide)), am_up_ne _ _ _ _ (Or.inr (by decide)), am_up_ne _ _ _ _ (Or.inr (by decide)), am_up_ne _ _ _ _ (Or.inr (by decide)), am_up_ne _ _ _ _ (Or.inr (by decide)), am_up_eq]) ?_
  refine am_aload_n (q := 84) C dX11_looks_83 rfl rfl ?_
  refine am_getIe (q := 87) (v := (iZ (rb l (c + 1) : Int))) C fb_X11_246 dX11_looks_84 rfl rfl kk_191 (show 191 < 215 by decide) (by rw [am_up_ne _ _ _ _ (Or.inr (by decide)), am_up_ne _ _ _ _ (Or.inr (by decide)), am_up_eq]) ?_
  refine am_imulZ (q := 88) C dX11_looks_87 rfl ?_
  refine am_aload_n (q := 89) C dX11_looks_88 rfl rfl ?_
  refine am_getIe (q := 92) (v := (iZ (rb l c : Int))) C fb_X11_240 dX11_looks_89 rfl rfl kk_191 (show 191 < 215 by decide) (by rw [am_up_ne _ _ _ _ (Or.inr (by decide)), am_up_ne _ _ _ _ (Or.inr (by decide)), am_up_ne _ _ _ _ (Or.inr (by decide)), am_up_ne _ _ _ _ (Or.inr (by decide)), am_up_eq]) ?_
  refine am_aload_n (q := 93) C dX11_looks_92 rfl rfl ?_
  refine am_getIe (q := 96) (v := (iZ (ra l (c + 1) : Int))) C fb_X11_243 dX11_looks_93 rfl rfl kk_191 (show 191 < 215 by decide) (by rw [am_up_ne _ _ _ _ (Or.inr (by decide)), am_up_ne _ _ _ _ (Or.inr (by decide)), am_up_ne _ _ _ _ (Or.inr (by decide)), am_up_eq]) ?_
  refine am_imulZ (q := 97) C dX11_looks_96 rfl ?_
  refine am_isubZ (q := 98) C dX11_looks_97 rfl ?_
  refine am_intE (y := (iZ (lD l c))) (congrArg iZ rfl) ?_
  refine am_putI (q := 101) C fw_X11_255 dX11_looks_98 rfl rfl kk_191 (show 191 < 215 by decide) ?_
  refine am_vret C T dX11_looks_101 rfl (Nat.le_refl _) (Nat.le_refl _) ⟨rfl, ?_⟩
  exact ⟨_, rfl, ⟨by simp [am_up], by simp [am_up], by simp [am_up], by simp [am_up], by simp [am_up], by simp [am_up], by simp [am_up]⟩, fun k hk => by rw [am_up_ne _ _ _ _ (Or.inr (by omega)), am_up_ne _ _ _ _ (Or.inr (by omega)), am_up_ne _ _ _ _ (Or.inr (by omega)), am_up_ne _ _ _ _ (Or.inr (by omega)), am_up_ne _ _ _ _ (Or.inr (by omega)), am_up_ne _ _ _ _ (Or.inr (by omega)), am_up_ne _ _ _ _ (Or.inr (by omega))], fun h hh => by repeat rw [am_up_row _ _ _ _ hh]⟩
theorem floor_neg {a b : Int} (hb : 1 ≤ b) : -((b - 1 - a) / b) = a / b := by
  have e1 := Int.mul_ediv_add_emod a b
  have e2 := Int.emod_nonneg a (show b ≠ 0 by omega)
  have e3 := Int.emod_lt_of_pos a (show 0 < b by omega)
  have e4 : b - 1 - a = (b - 1 - a % b) + b * (-(a / b)) := by rw [Int.mul_neg]; omega
  rw [e4, Int.add_mul_ediv_left _ _ (show b ≠ 0 by omega), Int.ediv_eq_zero_of_lt (by omega) (by omega)]
  omega
set_option maxRecDepth 4000 in
theorem sp_X11_floor {a b : Int} (ha : -1000000 ≤ a ∧ a ≤ 1000000) (hb : 1 ≤ b ∧ b ≤ 1000000) : am_S G mX11_floor 1 0 0 [.int (iZ a), .int (iZ b)] (215, kK, kR, I, J) (am_fi (iZ (a / b)) (215, kK, kR, I, J)) := by
  refine am_spec (plainFor_of_name (by decide +kernel)) (Nat.le_of_ble_eq_true rfl) (L := [some (.int (iZ a)), some (.int (iZ b))]) rfl (fun X C T => ?_)
  refine am_iload_n (q := 1) C dX11_floor_0 rfl rfl ?_
  refine am_ifZ_lt (q := 4) (tgt := 10) C dX11_floor_1 (by decide) rfl ⟨by omega, by omega⟩ (fun c1 => ?_) (fun c1 => ?_)
  · refine am_iload_n (q := 11) C dX11_floor_10 rfl rfl ?_
    refine am_iconst (q := 12) (v := iZ 1) C dX11_floor_11 rfl rfl ?_
    refine am_isubZ (q := 13) C dX11_floor_12 rfl ?_
    refine am_iload_n (q := 14) C dX11_floor_13 rfl rfl ?_
    refine am_isubZ (q := 15) C dX11_floor_14 rfl ?_
    refine am_iload_n (q := 16) C dX11_floor_15 rfl rfl ?_
    refine am_idivZ (q := 17) C dX11_floor_16 rfl ⟨by omega, by omega⟩ ⟨by omega, by omega⟩ (by omega) (by omega) ?_
    refine am_intE (y := (iZ ((b - 1 - a) / b))) (congrArg iZ (Int.tdiv_eq_ediv_of_nonneg (by omega))) ?_
    refine am_inegZ (q := 18) C dX11_floor_17 rfl ?_
    refine am_intE (y := (iZ (a / b))) (congrArg iZ (floor_neg hb.1)) ?_
    refine am_iret C T dX11_floor_18 rfl (Nat.le_refl _) (Nat.le_refl _) ⟨_, rfl, ?_⟩
    exact ⟨rfl, rfl⟩
  · refine am_iload_n (q := 5) C dX11_floor_4 rfl rfl ?_
    refine am_iload_n (q := 6) C dX11_floor_5 rfl rfl ?_
    refine am_idivZ (q := 7) C dX11_floor_6 rfl ⟨by omega, by omega⟩ ⟨by omega, by omega⟩ (by omega) (by omega) ?_
    refine am_intE (y := (iZ (a / b))) (congrArg iZ (Int.tdiv_eq_ediv_of_nonneg (by omega))) ?_
    refine am_goto (q := 18) C dX11_floor_7 (by decide) ?_
    refine am_iret C T dX11_floor_18 rfl (Nat.le_refl _) (Nat.le_refl _) ⟨_, rfl, ?_⟩
    exact ⟨rfl, rfl⟩
/-- gone home -/
def goM (I : Nat → Nat → Int32) (l : List (Nat × Nat)) (P c : Nat) (x y : Int) : Prop := I 191 33 = iZ (ra l c : Int) ∧ I 191 34 = iZ (rb l c : Int) ∧ I 191 35 = iZ (ra l (c + 1) : Int) ∧ I 191 36 = iZ (rb l (c + 1) : Int) ∧ I 191 37 = iZ (P : Int) ∧ I 191 41 = iZ (lI l P c x y) ∧ I 191 42 = iZ (lJ l P c x y) ∧ I 191 43 = iZ (hX l P c x y) ∧ I 191 44 = iZ (hY l P c x y)
theorem hx_eq (x i j P a c : Int) : x - P * (i * a + j * c) = x - i * (P * a) - j * (P * c) := by grind
theorem span_rg {l : List (Nat × Nat)} {c : Nat} (h1 : ra l c ≤ 4 ∧ rb l c ≤ 4) (h2 : ra l (c + 1) ≤ 4 ∧ rb l (c + 1) ≤ 4) {x y : Int} (hx : -60 ≤ x ∧ x ≤ 60) (hy : -60 ≤ y ∧ y ≤ 60) : (-480 ≤ lS l c x y ∧ lS l c x y ≤ 480) ∧ -480 ≤ lT l c x y ∧ lT l c x y ≤ 480 := by
  have s1 : -(4 * 60) ≤ x * (rb l (c + 1) : Int) ∧ x * (rb l (c + 1) : Int) ≤ 4 * 60 := prx (c := 60) hx h2.2 (by decide)
  have s2 : -(4 * 60) ≤ y * (ra l (c + 1) : Int) ∧ y * (ra l (c + 1) : Int) ≤ 4 * 60 := prx (c := 60) hy h2.1 (by decide)
  have s3 : -(4 * 60) ≤ y * (ra l c : Int) ∧ y * (ra l c : Int) ≤ 4 * 60 := prx (c := 60) hy h1.1 (by decide)
  have s4 : -(4 * 60) ≤ x * (rb l c : Int) ∧ x * (rb l c : Int) ≤ 4 * 60 := prx (c := 60) hx h1.2 (by decide)
  rw [← lT_eq]
  unfold lS
  omega
theorem pd_rg {l : List (Nat × Nat)} {c P : Nat} (hP : 1 ≤ P ∧ P ≤ 6) (hD : 1 ≤ lD l c ∧ lD l c ≤ 16) : 1 ≤ (P : Int) * lD l c ∧ (P : Int) * lD l c ≤ 96 := by
  obtain ⟨d, hd⟩ : ∃ d : Nat, lD l c = d := ⟨(lD l c).toNat, by omega⟩
  rw [hd] at hD ⊢
  have h1 : 1 * 1 ≤ P * d := Nat.mul_le_mul hP.1 (show 1 ≤ d by omega)
  have h2 : P * d ≤ 6 * 16 := Nat.mul_le_mul hP.2 (show d ≤ 16 by omega)
  have e : (P : Int) * (d : Int) = ((P * d : Nat) : Int) := by simp
  rw [e]; omega
set_option maxRecDepth 4000 in
theorem sp_X11_goesHome {l : List (Nat × Nat)} {c : Nat} (hR : ∀ r, r < l.length → I 209 r = iZ (ra l r : Int) ∧ I 210 r = iZ (rb l r : Int)) (hc : c + 1 < l.length) (hl6 : l.length ≤ 6) {P : Nat} (hper : I 191 37 = iZ (P : Int)) (hP : 1 ≤ P ∧ P ≤ 6) (hD : 1 ≤ lD l c ∧ lD l c ≤ 16) (hb : ∀ k, k < l.length → ra l k ≤ 4 ∧ rb l k ≤ 4) {x y : Int} (hx : -60 ≤ x ∧ x ≤ 60) (hy : -60 ≤ y ∧ y ≤ 60) : am_S G mX11_goesHome 2 0 0 [.ref 191, .int (iZ (c : Int)), .int (iZ x), .int (iZ y)] (215, kK, kR, I, J) (am_qv (fun w' => ∃ I' : Nat → Nat → Int32, w' = (215, kK, kR, I', J) ∧ goM I' l P c x y ∧ (∀ k, k < 33 → I' 191 k = I 191 k) ∧ ∀ h, h ≠ 191 → I' h = I h)) := by
  obtain ⟨hs, ht1, ht2⟩ := span_rg (hb c (by omega)) (hb (c + 1) hc) hx hy
  have hpd := pd_rg hP hD
  refine am_spec (plainFor_of_name (by decide +kernel)) (Nat.le_of_ble_eq_true rfl) (L := [some (.ref 191), some (.int (iZ (c : Int))), some (.int (iZ x)), some (.int (iZ y))]) rfl (fun X C T => ?_)
  refine am_aload_n (q := 1) C dX11_goesHome_0 rfl rfl ?_
  refine am_iload_n (q := 2) C dX11_goesHome_1 rfl rfl ?_
  refine am_iload_n (q := 3) C dX11_goesHome_2 rfl rfl ?_
  refine am_iload_n (q := 4) C dX11_goesHome_3 rfl rfl ?_
  refine am_callV (q := 7) (As := [.int (iZ (c : Int)), .int (iZ x), .int (iZ y)]) (rest := []) C mb_X11_looks im_X11_looks se_X11_looks ml_X11_258 cb_11 kk_191 (show 191 < 215 by decide) dX11_goesHome_4 rfl (sp_X11_looks hR hc hl6 (x := x) (y := y)) rfl rfl ⟨by decide, by decide⟩ ⟨Nat.le_refl _, Nat.le_refl _⟩ (Nat.le_of_ble_eq_true rfl) (am_rv (fun w' hw' => ?_))
  obtain ⟨I1, rfl, hL, hk1, hh1⟩ := hw'
  have hP1 : I1 191 37 = iZ (P : Int) := (hk1 37 (by omega)).trans hper
  refine am_aload_n (q := 8) C dX11_goesHome_7 rfl rfl ?_
  refine am_aload_n (q := 9) C dX11_goesHome_8 rfl rfl ?_
  refine am_getIe (q := 12) (v := (iZ (lS l c x y))) C fb_X11_249 dX11_goesHome_9 rfl rfl kk_191 (show 191 < 215 by decide) hL.2.2.2.2.1 ?_
  refine am_aload_n (q := 13) C dX11_goesHome_12 rfl rfl ?_
  refine am_getIe (q := 16) (v := (iZ (P : Int))) C fb_X11_262 dX11_goesHome_13 rfl rfl kk_191 (show 191 < 215 by decide) hP1 ?_
  refine am_aload_n (q := 17) C dX11_goesHome_16 rfl rfl ?_
  refine am_getIe (q := 20) (v := (iZ (lD l c))) C fb_X11_255 dX11_goesHome_17 rfl rfl kk_191 (show 191 < 215 by decide) hL.2.2.2.2.2.2 ?_
  refine am_imulZ (q := 21) C dX11_goesHome_20 rfl ?_
  refine am_callS (q := 24) (As := [.int (iZ (lS l c x y)), .int (iZ ((P : Int) * (lD l c)))]) (rest := [.ref 191]) C mb_X11_floor st_X11_floor ml_X11_265 dX11_goesHome_21 rfl (sp_X11_floor (a := lS l c x y) (b := (P : Int) * lD l c) (by omega) (by omega)) rfl rfl ⟨by decide, by decide⟩ ⟨Nat.le_refl _, Nat.le_refl _⟩ (Nat.le_of_ble_eq_true rfl) (am_rie ?_)
  refine am_intE (show _ = iZ (lI l P c x y) from rfl) ?_
  refine am_putI (q := 27) C fw_X11_268 dX11_goesHome_24 rfl rfl kk_191 (show 191 < 215 by decide) ?_
  refine am_aload_n (q := 28) C dX11_goesHome_27 rfl rfl ?_
  refine am_aload_n (q := 29) C dX11_goesHome_28 rfl rfl ?_
  refine am_getIe (q := 32) (v := (iZ (lT l c x y))) C fb_X11_252 dX11_goesHome_29 rfl rfl kk_191 (show 191 < 215 by decide) (by rw [am_up_ne _ _ _ _ (Or.inr (by decide))]; exact hL.2.2.2.2.2.1) ?_
  refine am_aload_n (q := 33) C dX11_goesHome_32 rfl rfl ?_
  refine am_getIe (q := 36) (v := (iZ (P : Int))) C fb_X11_262 dX11_goesHome_33 rfl rfl kk_191 (show 191 < 215 by decide) (by rw [am_up_ne _ _ _ _ (Or.inr (by decide))]; exact hP1) ?_
  refine am_aload_n (q := 37) C dX11_goesHome_36 rfl rfl ?_
  refine am_getIe (q := 40) (v := (iZ (lD l c))) C fb_X11_255 dX11_goesHome_37 rfl rfl kk_191 (show 191 < 215 by decide) (by rw [am_up_ne _ _ _ _ (Or.inr (by decide))]; exact hL.2.2.2.2.2.2) ?_
  refine am_imulZ (q := 41) C dX11_goesHome_40 rfl ?_
  refine am_callS (q := 44) (As := [.int (iZ (lT l c x y)), .int (iZ ((P : Int) * (lD l c)))]) (rest := [.ref 191]) C mb_X11_floor st_X11_floor ml_X11_265 dX11_goesHome_41 rfl (sp_X11_floor (a := lT l c x y) (b := (P : Int) * lD l c) (by omega) (by omega)) rfl rfl ⟨by decide, by decide⟩ ⟨Nat.le_refl _, Nat.le_refl _⟩ (Nat.le_of_ble_eq_true rfl) (am_rie ?_)
  refine am_intE (show _ = iZ (lJ l P c x y) from rfl) ?_
  refine am_putI (q := 47) C fw_X11_271 dX11_goesHome_44 rfl rfl kk_191 (show 191 < 215 by decide) ?_
  refine am_aload_n (q := 48) C dX11_goesHome_47 rfl rfl ?_
  refine am_iload_n (q := 49) C dX11_goesHome_48 rfl rfl ?_
  refine am_aload_n (q := 50) C dX11_goesHome_49 rfl rfl ?_
  refine am_getIe (q := 53) (v := (iZ (P : Int))) C fb_X11_262 dX11_goesHome_50 rfl rfl kk_191 (show 191 < 215 by decide) (by rw [am_up_ne _ _ _ _ (Or.inr (by decide)), am_up_ne _ _ _ _ (Or.inr (by decide))]; exact hP1) ?_
  refine am_aload_n (q := 54) C dX11_goesHome_53 rfl rfl ?_
  refine am_getIe (q := 57) (v := (iZ (lI l P c x y))) C fb_X11_268 dX11_goesHome_54 rfl rfl kk_191 (show 191 < 215 by decide) (by rw [am_up_ne _ _ _ _ (Or.inr (by decide)), am_up_eq]) ?_
  refine am_aload_n (q := 58) C dX11_goesHome_57 rfl rfl ?_
  refine am_getIe (q := 61) (v := (iZ (ra l c : Int))) C fb_X11_237 dX11_goesHome_58 rfl rfl kk_191 (show 191 < 215 by decide) (by rw [am_up_ne _ _ _ _ (Or.inr (by decide)), am_up_ne _ _ _ _ (Or.inr (by decide))]; exact hL.1) ?_
  refine am_imulZ (q := 62) C dX11_goesHome_61 rfl ?_
  refine am_aload_n (q := 63) C dX11_goesHome_62 rfl rfl ?_
  refine am_getIe (q := 66) (v := (iZ (lJ l P c x y))) C fb_X11_271 dX11_goesHome_63 rfl rfl kk_191 (show 191 < 215 by decide) (by rw [am_up_eq]) ?_
  refine am_aload_n (q := 67) C dX11_goesHome_66 rfl rfl ?_
  refine am_getIe (q := 70) (v := (iZ (ra l (c + 1) : Int))) C fb_X11_243 dX11_goesHome_67 rfl rfl kk_191 (show 191 < 215 by decide) (by rw [am_up_ne _ _ _ _ (Or.inr (by decide)), am_up_ne _ _ _ _ (Or.inr (by decide))]; exact hL.2.2.1) ?_
  refine am_imulZ (q := 71) C dX11_goesHome_70 rfl ?_
  refine am_iaddZ (q := 72) C dX11_goesHome_71 rfl ?_
  refine am_imulZ (q := 73) C dX11_goesHome_72 rfl ?_
  refine am_isubZ (q := 74) C dX11_goesHome_73 rfl ?_
  refine am_intE (y := (iZ (hX l P c x y))) (congrArg iZ (hx_eq _ _ _ _ _ _)) ?_
  refine am_putI (q := 77) C fw_X11_274 dX11_goesHome_74 rfl rfl kk_191 (show 191 < 215 by decide) ?_
  refine am_aload_n (q := 78) C dX11_goesHome_77 rfl rfl ?_
  refine am_iload_n (q := 79) C dX11_goesHome_78 rfl rfl ?_
  refine am_aload_n (q := 80) C dX11_goesHome_79 rfl rfl ?_
  refine am_getIe (q := 83) (v := (iZ (P : Int))) C fb_X11_262 dX11_goesHome_80 rfl rfl kk_191 (show 191 < 215 by decide) (by rw [am_up_ne _ _ _ _ (Or.inr (by decide)), am_up_ne _ _ _ _ (Or.inr (by decide)), am_up_ne _ _ _ _ (Or.inr (by decide))]; exact hP1) ?_
  refine am_aload_n (q := 84) C dX11_goesHome_83 rfl rfl ?_
  refine am_getIe (q := 87) (v := (iZ (lI l P c x y))) C fb_X11_268 dX11_goesHome_84 rfl rfl kk_191 (show 191 < 215 by decide) (by rw [am_up_ne _ _ _ _ (Or.inr (by decide)), am_up_ne _ _ _ _ (Or.inr (by decide)), am_up_eq]) ?_
  refine am_aload_n (q := 88) C dX11_goesHome_87 rfl rfl ?_
  refine am_getIe (q := 91) (v := (iZ (rb l c : Int))) C fb_X11_240 dX11_goesHome_88 rfl rfl kk_191 (show 191 < 215 by decide) (by rw [am_up_ne _ _ _ _ (Or.inr (by decide)), am_up_ne _ _ _ _ (Or.inr (by decide)), am_up_ne _ _ _ _ (Or.inr (by decide))]; exact hL.2.1) ?_
  refine am_imulZ (q := 92) C dX11_goesHome_91 rfl ?_
  refine am_aload_n (q := 93) C dX11_goesHome_92 rfl rfl ?_
  refine am_getIe (q := 96) (v := (iZ (lJ l P c x y))) C fb_X11_271 dX11_goesHome_93 rfl rfl kk_191 (show 191 < 215 by decide) (by rw [am_up_ne _ _ _ _ (Or.inr (by decide)), am_up_eq]) ?_
  refine am_aload_n (q := 97) C dX11_goesHome_96 rfl rfl ?_
  refine am_getIe (q := 100) (v := (iZ (rb l (c + 1) : Int))) C fb_X11_246 dX11_goesHome_97 rfl rfl kk_191 (show 191 < 215 by decide) (by rw [am_up_ne _ _ _ _ (Or.inr (by decide)), am_up_ne _ _ _ _ (Or.inr (by decide)), am_up_ne _ _ _ _ (Or.inr (by decide))]; exact hL.2.2.2.1) ?_
  refine am_imulZ (q := 101) C dX11_goesHome_100 rfl ?_
  refine am_iaddZ (q := 102) C dX11_goesHome_101 rfl ?_
  refine am_imulZ (q := 103) C dX11_goesHome_102 rfl ?_
  refine am_isubZ (q := 104) C dX11_goesHome_103 rfl ?_
  refine am_intE (y := (iZ (hY l P c x y))) (congrArg iZ (hx_eq _ _ _ _ _ _)) ?_
  refine am_putI (q := 107) C fw_X11_277 dX11_goesHome_104 rfl rfl kk_191 (show 191 < 215 by decide) ?_
  refine am_vret C T dX11_goesHome_107 rfl (Nat.le_refl _) (Nat.le_refl _) ⟨rfl, ?_⟩
  obtain ⟨l1, l2, l3, l4, l5, l6, l7⟩ := hL
  exact ⟨_, rfl, ⟨by simp [am_up]; exact l1, by simp [am_up]; exact l2, by simp [am_up]; exact l3, by simp [am_up]; exact l4, by simp [am_up]; exact hP1, by simp [am_up], by simp [am_up], by simp [am_up], by simp [am_up]⟩, fun k hk => by rw [am_up_ne _ _ _ _ (Or.inr (by omega)), am_up_ne _ _ _ _ (Or.inr (by omega)), am_up_ne _ _ _ _ (Or.inr (by omega)), am_up_ne _ _ _ _ (Or.inr (by omega))]; exact hk1 k (by omega), fun h hh => by rw [am_up_row _ _ _ _ hh, am_up_row _ _ _ _ hh, am_up_row _ _ _ _ hh, am_up_row _ _ _ _ hh]; exact hh1 h hh⟩
set_option maxRecDepth 4000 in
theorem sp_X11_chamberOf {σ : SG} (hM : atM I J σ) {x y : Int} (hx : rg x) (hy : rg y) : am_S G mX11_chamberOf 4 0 0 [.ref 191, .int (iZ x), .int (iZ y)] (215, kK, kR, I, J) (am_qi (fun v w' => v = iZ (chamberA σ.1 x y) ∧ ∃ (I' : Nat → Nat → Int32) (J' : Nat → Nat → Int64), w' = (215, kK, kR, I', J') ∧ atM I' J' (σ) ∧ frM I J I' J')) := by
  have hQ := hM.1
  have hK := hM.2.1
  have hm := hM.2.1.1
  have hL := hM.2.2.1
  have hlen : (raysA σ.1).length ≤ pm σ.1 := raysP_len σ.1 (pm σ.1)
  refine am_spec (plainFor_of_name (by decide +kernel)) (Nat.le_of_ble_eq_true rfl) (L := [some (.ref 191), some (.int (iZ x)), some (.int (iZ y)), none]) rfl (fun X C T => ?_)
  have lp : ∀ (fuel : Nat) (k : Nat) (I1 : Nat → Nat → Int32), (k ≤ (raysA σ.1).length - 1) → (-60 ≤ x ∧ x ≤ 60 ∧ -60 ≤ y ∧ y ≤ 60) → (frS I J I1 J) → (chO (raysA σ.1) x y ((raysA σ.1).length - 1 - k) k = chamberA σ.1 x y) → ((raysA σ.1).length - k) < fuel → am_A G mX11_chamberOf X (am_rm 4 0 0) 26 [some (.ref 191), some (.int (iZ x)), some (.int (iZ y)), some (.int (iZ (k : Int)))] [] (215, kK, kR, I1, J) 0 0 := by
    intro fuel
    induction fuel with
    | zero => intro k I1 hk hspt hfr hq hf; exact absurd hf (Nat.not_lt_zero _)
    | succ fuel ih =>
      intro k I1 hk hspt hfr hq hf
      refine am_iload_n (q := 27) C dX11_chamberOf_26 rfl rfl ?_
      refine am_aload_n (q := 28) C dX11_chamberOf_27 rfl rfl ?_
      refine am_callV (q := 31) (As := []) (rest := [.int (iZ (k : Int))]) C mb_X11_chambers im_X11_chambers se_X11_chambers ml_X11_234 cb_11 kk_191 (show 191 < 215 by decide) dX11_chamberOf_28 rfl (sp_X11_chambers (hQ.fr hfr) hK) rfl rfl ⟨by decide, by decide⟩ ⟨Nat.le_refl _, Nat.le_refl _⟩ (Nat.le_of_ble_eq_true rfl) (am_ri (fun v' w' hw' => ?_))
      obtain ⟨rfl, I2, rfl, hR, hf2⟩ := hw'
      have hf3 := frS_tr hfr hf2
      refine am_icmpZ_ge (q := 34) (tgt := 63) C dX11_chamberOf_31 (by decide) rfl ⟨by omega, by omega⟩ ⟨by omega, by omega⟩ (fun c1 => ?_) (fun c1 => ?_)
      · refine am_bipush (q := 65) (v := iZ (-3)) C dX11_chamberOf_63 rfl rfl ?_
        refine am_iret C T dX11_chamberOf_65 rfl (Nat.le_refl _) (Nat.le_refl _) ⟨_, rfl, ?_⟩
        rw [show (raysA σ.1).length - 1 - k = 0 by omega] at hq
        have e1 : chamberA σ.1 x y = -3 := hq.symm
        rw [e1]
        exact ⟨rfl, _, _, rfl, hM.scr hf3, hf3.M⟩
      · refine am_aload_n (q := 35) C dX11_chamberOf_34 rfl rfl ?_
        refine am_iload_n (q := 36) C dX11_chamberOf_35 rfl rfl ?_
        refine am_iload_n (q := 37) C dX11_chamberOf_36 rfl rfl ?_
        refine am_iload_n (q := 38) C dX11_chamberOf_37 rfl rfl ?_
        have hsp := span_rg (ray_le hK (k := k) (by omega)) (ray_le hK (k := k + 1) (by omega)) (x := x) (y := y) (by omega) (by omega)
        refine am_callV (q := 41) (As := [.int (iZ (k : Int)), .int (iZ x), .int (iZ y)]) (rest := []) C mb_X11_looks im_X11_looks se_X11_looks ml_X11_258 cb_11 kk_191 (show 191 < 215 by decide) dX11_chamberOf_38 rfl (sp_X11_looks (fun r hr => ⟨(hR.2 r hr).1, (hR.2 r hr).2.1⟩) (c := k) (by omega) (by omega) (x := x) (y := y)) rfl rfl ⟨by decide, by decide⟩ ⟨Nat.le_refl _, Nat.le_refl _⟩ (Nat.le_of_ble_eq_true rfl) (am_rv (fun w' hw' => ?_))
        obtain ⟨I3, rfl, hL3, hk3, hh3⟩ := hw'
        have hf4 := frS_tr hf3 (frS_37 (J := J) (fun q hq => hk3 q (by omega)) hh3)
        refine am_aload_n (q := 42) C dX11_chamberOf_41 rfl rfl ?_
        refine am_getIe (q := 45) (v := (iZ (lS (raysA σ.1) k x y))) C fb_X11_249 dX11_chamberOf_42 rfl rfl kk_191 (show 191 < 215 by decide) hL3.2.2.2.2.1 ?_
        refine am_ifZ_lt (q := 48) (tgt := 57) C dX11_chamberOf_45 (by decide) rfl ⟨by omega, by omega⟩ (fun c2 => ?_) (fun c2 => ?_)
        · refine am_iincZ (q := 60) (L' := [some (.ref 191), some (.int (iZ x)), some (.int (iZ y)), some (.int (iZ ((k + 1 : Nat) : Int)))]) C dX11_chamberOf_57 rfl rfl (by omega) (by decide) rfl rfl ?_
          refine am_goto (q := 26) C dX11_chamberOf_60 (by decide) ?_
          refine ih (k + 1) I3 (by omega) hspt hf4 ?_ (by omega)
          rw [← hq, show (raysA σ.1).length - 1 - k = ((raysA σ.1).length - 1 - (k + 1)) + 1 by omega]
          exact (if_neg (by omega)).symm
        · refine am_aload_n (q := 49) C dX11_chamberOf_48 rfl rfl ?_
          refine am_getIe (q := 52) (v := (iZ (lT (raysA σ.1) k x y))) C fb_X11_252 dX11_chamberOf_49 rfl rfl kk_191 (show 191 < 215 by decide) hL3.2.2.2.2.2.1 ?_
          refine am_ifZ_lt (q := 55) (tgt := 57) C dX11_chamberOf_52 (by decide) rfl ⟨by omega, by omega⟩ (fun c3 => ?_) (fun c3 => ?_)
          · refine am_iincZ (q := 60) (L' := [some (.ref 191), some (.int (iZ x)), some (.int (iZ y)), some (.int (iZ ((k + 1 : Nat) : Int)))]) C dX11_chamberOf_57 rfl rfl (by omega) (by decide) rfl rfl ?_
            refine am_goto (q := 26) C dX11_chamberOf_60 (by decide) ?_
            refine ih (k + 1) I3 (by omega) hspt hf4 ?_ (by omega)
            rw [← hq, show (raysA σ.1).length - 1 - k = ((raysA σ.1).length - 1 - (k + 1)) + 1 by omega]
            exact (if_neg (by omega)).symm
          · refine am_iload_n (q := 56) C dX11_chamberOf_55 rfl rfl ?_
            refine am_iret C T dX11_chamberOf_56 rfl (Nat.le_refl _) (Nat.le_refl _) ⟨_, rfl, ?_⟩
            have e1 : chamberA σ.1 x y = (k : Int) := by
              rw [← hq, show (raysA σ.1).length - 1 - k = ((raysA σ.1).length - 1 - (k + 1)) + 1 by omega]
              exact if_pos (by omega)
            rw [e1]
            exact ⟨rfl, _, _, rfl, hM.scr hf4, hf4.M⟩
  refine am_iload_n (q := 1) C dX11_chamberOf_0 rfl rfl ?_
  refine am_bipush (q := 3) (v := iZ (-60)) C dX11_chamberOf_1 rfl rfl ?_
  refine am_bipush (q := 5) (v := iZ 60) C dX11_chamberOf_3 rfl rfl ?_
  refine am_callS (q := 8) (As := [.int (iZ x), .int (iZ (-60)), .int (iZ 60)]) (rest := []) C mb_X11_in st_X11_in ml_X11_89 dX11_chamberOf_5 rfl (sp_X11_in (v := x) (a := (-60)) (b := 60) hx ⟨by omega, by omega⟩ ⟨by omega, by omega⟩) rfl rfl ⟨by decide, by decide⟩ ⟨Nat.le_refl _, Nat.le_refl _⟩ (Nat.le_of_ble_eq_true rfl) (am_rie ?_)
  refine am_ifB_eq (q := 11) (tgt := 22) C dX11_chamberOf_8 (by decide) rfl (fun c4 => ?_) (fun c4 => ?_)
  · refine am_iconst (q := 23) (v := iZ (-1)) C dX11_chamberOf_22 rfl rfl ?_
    refine am_iret C T dX11_chamberOf_23 rfl (Nat.le_refl _) (Nat.le_refl _) ⟨_, rfl, ?_⟩
    have e1 : chamberA σ.1 x y = -1 := if_neg (by omega)
    rw [e1]
    exact ⟨rfl, _, _, rfl, hM, frM_refl⟩
  · refine am_iload_n (q := 12) C dX11_chamberOf_11 rfl rfl ?_
    refine am_bipush (q := 14) (v := iZ (-60)) C dX11_chamberOf_12 rfl rfl ?_
    refine am_bipush (q := 16) (v := iZ 60) C dX11_chamberOf_14 rfl rfl ?_
    refine am_callS (q := 19) (As := [.int (iZ y), .int (iZ (-60)), .int (iZ 60)]) (rest := []) C mb_X11_in st_X11_in ml_X11_89 dX11_chamberOf_16 rfl (sp_X11_in (v := y) (a := (-60)) (b := 60) hy ⟨by omega, by omega⟩ ⟨by omega, by omega⟩) rfl rfl ⟨by decide, by decide⟩ ⟨Nat.le_refl _, Nat.le_refl _⟩ (Nat.le_of_ble_eq_true rfl) (am_rie ?_)
    refine am_ifB_ne (q := 22) (tgt := 24) C dX11_chamberOf_19 (by decide) rfl (fun c5 => ?_) (fun c5 => ?_)
    · refine am_iconst (q := 25) (v := iZ 0) C dX11_chamberOf_24 rfl rfl ?_
      refine am_istore_n (q := 26) (L' := [some (.ref 191), some (.int (iZ x)), some (.int (iZ y)), some (.int (iZ 0))]) C dX11_chamberOf_25 rfl (by decide) rfl rfl ?_
      exact lp ((raysA σ.1).length + 1) 0 I (by omega) (by omega) frS_refl (if_pos (by omega)).symm (by omega)
    · refine am_iconst (q := 23) (v := iZ (-1)) C dX11_chamberOf_22 rfl rfl ?_
      refine am_iret C T dX11_chamberOf_23 rfl (Nat.le_refl _) (Nat.le_refl _) ⟨_, rfl, ?_⟩
      have e1 : chamberA σ.1 x y = -1 := if_neg (by omega)
      rw [e1]
      exact ⟨rfl, _, _, rfl, hM, frM_refl⟩
set_option maxRecDepth 4000 in
theorem sp_X11_isAsked {t : PT} (hA : atQ I J t) (hK : okP t) {p x y : Int} (hp : rg p) (hx : rg x) (hy : rg y) : am_S G mX11_isAsked 5 0 0 [.ref 191, .int (iZ p), .int (iZ x), .int (iZ y)] (215, kK, kR, I, J) (am_qi (fun v w' => v = (if ((2 ≤ (raysA t).length ∧ (perP t (pm t) : Int) ≤ 6) ∧ 0 ≤ p ∧ p < (((raysA t).length - 1 : Nat) : Int)) ∧ -60 ≤ x ∧ x ≤ 60 ∧ -60 ≤ y ∧ y ≤ 60 then 1 else 0) ∧ ∃ I' : Nat → Nat → Int32, w' = (215, kK, kR, I', J) ∧ rayM I' t ∧ frS I J I' J)) := by
  have hm := hK.1
  have hlen : (raysA t).length ≤ pm t := raysP_len t (pm t)
  have hp1 := perP_ok hK (pm t) (Nat.le_refl _)
  have hp2 := per_le hp1
  refine am_spec (plainFor_of_name (by decide +kernel)) (Nat.le_of_ble_eq_true rfl) (L := [some (.ref 191), some (.int (iZ p)), some (.int (iZ x)), some (.int (iZ y))]) rfl (fun X C T => ?_)
  refine am_aload_n (q := 1) C dX11_isAsked_0 rfl rfl ?_
  refine am_callV (q := 4) (As := []) (rest := []) C mb_X11_areFormulas im_X11_areFormulas se_X11_areFormulas ml_X11_280 cb_11 kk_191 (show 191 < 215 by decide) dX11_isAsked_1 rfl (sp_X11_areFormulas hA hK) rfl rfl ⟨by decide, by decide⟩ ⟨Nat.le_refl _, Nat.le_refl _⟩ (Nat.le_of_ble_eq_true rfl) (am_ri (fun v' w' hw' => ?_))
  obtain ⟨rfl, I1, rfl, hR, hf⟩ := hw'
  have hA1 := hA.fr hf
  refine am_ifB_eq (q := 7) (tgt := 47) C dX11_isAsked_4 (by decide) rfl (fun c1 => ?_) (fun c1 => ?_)
  · refine am_iconst (q := 48) (v := iZ 0) C dX11_isAsked_47 rfl rfl ?_
    refine am_zretB (b := false) C T dX11_isAsked_48 rfl (Nat.le_refl _) (Nat.le_refl _) rfl ⟨_, rfl, ?_⟩
    refine ⟨?_, _, rfl, hR, hf⟩
    first | (rw [if_neg (by omega)]; rfl) | (rw [if_pos (by omega)]; rfl)
  · refine am_iload_n (q := 8) C dX11_isAsked_7 rfl rfl ?_
    refine am_iconst (q := 9) (v := iZ 0) C dX11_isAsked_8 rfl rfl ?_
    refine am_aload_n (q := 10) C dX11_isAsked_9 rfl rfl ?_
    refine am_callV (q := 13) (As := []) (rest := [.int (iZ 0), .int (iZ p)]) C mb_X11_chambers im_X11_chambers se_X11_chambers ml_X11_234 cb_11 kk_191 (show 191 < 215 by decide) dX11_isAsked_10 rfl (sp_X11_chambers hA1 hK) rfl rfl ⟨by decide, by decide⟩ ⟨Nat.le_refl _, Nat.le_refl _⟩ (Nat.le_of_ble_eq_true rfl) (am_ri (fun v' w' hw' => ?_))
    obtain ⟨rfl, I2, rfl, hR2, hf2⟩ := hw'
    refine am_iconst (q := 14) (v := iZ 1) C dX11_isAsked_13 rfl rfl ?_
    refine am_isubZ (q := 15) C dX11_isAsked_14 rfl ?_
    refine am_callS (q := 18) (As := [.int (iZ p), .int (iZ 0), .int (iZ ((((raysA t).length - 1 : Nat) : Int) - 1))]) (rest := []) C mb_X11_in st_X11_in ml_X11_89 dX11_isAsked_15 rfl (sp_X11_in (v := p) (a := 0) (b := (((raysA t).length - 1 : Nat) : Int) - 1) hp ⟨by omega, by omega⟩ ⟨by omega, by omega⟩) rfl rfl ⟨by decide, by decide⟩ ⟨Nat.le_refl _, Nat.le_refl _⟩ (Nat.le_of_ble_eq_true rfl) (am_rie ?_)
    refine am_ifB_eq (q := 21) (tgt := 47) C dX11_isAsked_18 (by decide) rfl (fun c2 => ?_) (fun c2 => ?_)
    · refine am_iconst (q := 48) (v := iZ 0) C dX11_isAsked_47 rfl rfl ?_
      refine am_zretB (b := false) C T dX11_isAsked_48 rfl (Nat.le_refl _) (Nat.le_refl _) rfl ⟨_, rfl, ?_⟩
      refine ⟨?_, _, rfl, hR2, frS_tr hf hf2⟩
      first | (rw [if_neg (by omega)]; rfl) | (rw [if_pos (by omega)]; rfl)
    · refine am_iload_n (q := 22) C dX11_isAsked_21 rfl rfl ?_
      refine am_bipush (q := 24) (v := iZ (-60)) C dX11_isAsked_22 rfl rfl ?_
      refine am_bipush (q := 26) (v := iZ 60) C dX11_isAsked_24 rfl rfl ?_
      refine am_callS (q := 29) (As := [.int (iZ x), .int (iZ (-60)), .int (iZ 60)]) (rest := []) C mb_X11_in st_X11_in ml_X11_89 dX11_isAsked_26 rfl (sp_X11_in (v := x) (a := (-60)) (b := 60) hx ⟨by omega, by omega⟩ ⟨by omega, by omega⟩) rfl rfl ⟨by decide, by decide⟩ ⟨Nat.le_refl _, Nat.le_refl _⟩ (Nat.le_of_ble_eq_true rfl) (am_rie ?_)
      refine am_ifB_eq (q := 32) (tgt := 47) C dX11_isAsked_29 (by decide) rfl (fun c3 => ?_) (fun c3 => ?_)
      · refine am_iconst (q := 48) (v := iZ 0) C dX11_isAsked_47 rfl rfl ?_
        refine am_zretB (b := false) C T dX11_isAsked_48 rfl (Nat.le_refl _) (Nat.le_refl _) rfl ⟨_, rfl, ?_⟩
        refine ⟨?_, _, rfl, hR2, frS_tr hf hf2⟩
        first | (rw [if_neg (by omega)]; rfl) | (rw [if_pos (by omega)]; rfl)
      · refine am_iload_n (q := 33) C dX11_isAsked_32 rfl rfl ?_
        refine am_bipush (q := 35) (v := iZ (-60)) C dX11_isAsked_33 rfl rfl ?_
        refine am_bipush (q := 37) (v := iZ 60) C dX11_isAsked_35 rfl rfl ?_
        refine am_callS (q := 40) (As := [.int (iZ y), .int (iZ (-60)), .int (iZ 60)]) (rest := []) C mb_X11_in st_X11_in ml_X11_89 dX11_isAsked_37 rfl (sp_X11_in (v := y) (a := (-60)) (b := 60) hy ⟨by omega, by omega⟩ ⟨by omega, by omega⟩) rfl rfl ⟨by decide, by decide⟩ ⟨Nat.le_refl _, Nat.le_refl _⟩ (Nat.le_of_ble_eq_true rfl) (am_rie ?_)
        refine am_ifB_eq (q := 43) (tgt := 47) C dX11_isAsked_40 (by decide) rfl (fun c4 => ?_) (fun c4 => ?_)
        · refine am_iconst (q := 48) (v := iZ 0) C dX11_isAsked_47 rfl rfl ?_
          refine am_zretB (b := false) C T dX11_isAsked_48 rfl (Nat.le_refl _) (Nat.le_refl _) rfl ⟨_, rfl, ?_⟩
          refine ⟨?_, _, rfl, hR2, frS_tr hf hf2⟩
          first | (rw [if_neg (by omega)]; rfl) | (rw [if_pos (by omega)]; rfl)
        · refine am_iconst (q := 44) (v := iZ 1) C dX11_isAsked_43 rfl rfl ?_
          refine am_goto (q := 48) C dX11_isAsked_44 (by decide) ?_
          refine am_zretB (b := true) C T dX11_isAsked_48 rfl (Nat.le_refl _) (Nat.le_refl _) rfl ⟨_, rfl, ?_⟩
          refine ⟨?_, _, rfl, hR2, frS_tr hf hf2⟩
          first | (rw [if_neg (by omega)]; rfl) | (rw [if_pos (by omega)]; rfl)
set_option maxRecDepth 4000 in
theorem sp_X11_home {σ : SG} (hM : atM I J σ) {p x y k : Int} (hp : rg p) (hx : rg x) (hy : rg y) (hk : rg k) : am_S G mX11_home 6 0 0 [.ref 191, .int (iZ p), .int (iZ x), .int (iZ y), .int (iZ k)] (215, kK, kR, I, J) (am_qi (fun v w' => v = iZ (homeA σ.1 p x y k) ∧ ∃ (I' : Nat → Nat → Int32) (J' : Nat → Nat → Int64), w' = (215, kK, kR, I', J') ∧ atM I' J' (σ) ∧ frM I J I' J')) := by
  have hQ := hM.1
  have hK := hM.2.1
  have hm := hM.2.1.1
  have hL := hM.2.2.1
  have hlen : (raysA σ.1).length ≤ pm σ.1 := raysP_len σ.1 (pm σ.1)
  have hp1 := perP_ok hK (pm σ.1) (Nat.le_refl _)
  have hp2 := per_le hp1
  refine am_spec (plainFor_of_name (by decide +kernel)) (Nat.le_of_ble_eq_true rfl) (L := [some (.ref 191), some (.int (iZ p)), some (.int (iZ x)), some (.int (iZ y)), some (.int (iZ k))]) rfl (fun X C T => ?_)
  refine am_aload_n (q := 1) C dX11_home_0 rfl rfl ?_
  refine am_iload_n (q := 2) C dX11_home_1 rfl rfl ?_
  refine am_iload_n (q := 3) C dX11_home_2 rfl rfl ?_
  refine am_iload_n (q := 4) C dX11_home_3 rfl rfl ?_
  refine am_callV (q := 7) (As := [.int (iZ p), .int (iZ x), .int (iZ y)]) (rest := []) C mb_X11_isAsked im_X11_isAsked se_X11_isAsked ml_X11_284 cb_11 kk_191 (show 191 < 215 by decide) dX11_home_4 rfl (sp_X11_isAsked hQ hK hp hx hy) rfl rfl ⟨by decide, by decide⟩ ⟨Nat.le_refl _, Nat.le_refl _⟩ (Nat.le_of_ble_eq_true rfl) (am_ri (fun v' w' hw' => ?_))
  obtain ⟨rfl, I1, rfl, hR, hf⟩ := hw'
  have hQ1 := hQ.fr hf
  refine am_ifB_eq (q := 10) (tgt := 20) C dX11_home_7 (by decide) rfl (fun c1 => ?_) (fun c1 => ?_)
  · refine am_iconst (q := 21) (v := iZ (-1)) C dX11_home_20 rfl rfl ?_
    refine am_iret C T dX11_home_21 rfl (Nat.le_refl _) (Nat.le_refl _) ⟨_, rfl, ?_⟩
    have e1 : homeA σ.1 p x y k = -1 := by
      unfold homeA
      first | exact if_neg (by omega) | (rw [if_pos (by omega), if_neg (by omega), if_neg (by omega), if_neg (by omega), if_neg (by omega)])
    rw [e1]
    exact ⟨rfl, _, _, rfl, hM.scr hf, hf.M⟩
  · refine am_iload (q := 12) C dX11_home_10 rfl rfl ?_
    refine am_iconst (q := 13) (v := iZ 0) C dX11_home_12 rfl rfl ?_
    refine am_iconst (q := 14) (v := iZ 3) C dX11_home_13 rfl rfl ?_
    refine am_callS (q := 17) (As := [.int (iZ k), .int (iZ 0), .int (iZ 3)]) (rest := []) C mb_X11_in st_X11_in ml_X11_89 dX11_home_14 rfl (sp_X11_in (v := k) (a := 0) (b := 3) hk ⟨by omega, by omega⟩ ⟨by omega, by omega⟩) rfl rfl ⟨by decide, by decide⟩ ⟨Nat.le_refl _, Nat.le_refl _⟩ (Nat.le_of_ble_eq_true rfl) (am_rie ?_)
    refine am_ifB_ne (q := 20) (tgt := 22) C dX11_home_17 (by decide) rfl (fun c2 => ?_) (fun c2 => ?_)
    · refine am_aload_n (q := 23) C dX11_home_22 rfl rfl ?_
      refine am_aload_n (q := 24) C dX11_home_23 rfl rfl ?_
      refine am_callV (q := 27) (As := []) (rest := [.ref 191]) C mb_X11_periodNow im_X11_periodNow se_X11_periodNow ml_X11_231 cb_11 kk_191 (show 191 < 215 by decide) dX11_home_24 rfl (sp_X11_periodNow hQ1 hK) rfl rfl ⟨by decide, by decide⟩ ⟨Nat.le_refl _, Nat.le_refl _⟩ (Nat.le_of_ble_eq_true rfl) (am_rie ?_)
      refine am_putI (q := 30) C fw_X11_262 dX11_home_27 rfl rfl kk_191 (show 191 < 215 by decide) ?_
      refine am_aload_n (q := 31) C dX11_home_30 rfl rfl ?_
      refine am_iload_n (q := 32) C dX11_home_31 rfl rfl ?_
      refine am_iload_n (q := 33) C dX11_home_32 rfl rfl ?_
      refine am_iload_n (q := 34) C dX11_home_33 rfl rfl ?_
      obtain ⟨q, rfl⟩ : ∃ q : Nat, p = q := ⟨p.toNat, by omega⟩
      refine am_callV (q := 37) (As := [.int (iZ (q : Int)), .int (iZ x), .int (iZ y)]) (rest := []) C mb_X11_goesHome im_X11_goesHome se_X11_goesHome ml_X11_287 cb_11 kk_191 (show 191 < 215 by decide) dX11_home_34 rfl (sp_X11_goesHome (l := raysA σ.1) (fun r hr => ⟨by rw [am_up_row _ _ _ _ (by decide)]; exact (hR.2 r hr).1, by rw [am_up_row _ _ _ _ (by decide)]; exact (hR.2 r hr).2.1⟩) (c := q) (by omega) (by omega) (am_up_eq _ _ _ _) ⟨hp1.1, by omega⟩ ⟨rays_D hK (by omega), lD_le (fun k hk => ray_le hK hk) (by omega)⟩ (fun k hk => ray_le hK hk) (x := x) (y := y) (by omega) (by omega)) rfl rfl ⟨by decide, by decide⟩ ⟨Nat.le_refl _, Nat.le_refl _⟩ (Nat.le_of_ble_eq_true rfl) (am_rv (fun w' hw' => ?_))
      obtain ⟨I2, rfl, hgo, hk2, hh2⟩ := hw'
      have hf2 : frS I J I2 J := frS_tr hf ⟨fun k hk => (hk2 k (by omega)).trans (am_up_ne _ _ _ _ (Or.inr (by omega))), fun h g1 _ => ⟨(hh2 h g1).trans (am_up_row _ _ _ _ g1), rfl⟩⟩
      refine am_iload (q := 39) C dX11_home_37 rfl rfl ?_
      refine am_ifZ_ne (q := 42) (tgt := 49) C dX11_home_39 (by decide) rfl hk (fun c3 => ?_) (fun c3 => ?_)
      · refine am_iload (q := 51) C dX11_home_49 rfl rfl ?_
        refine am_iconst (q := 52) (v := iZ 1) C dX11_home_51 rfl rfl ?_
        refine am_icmpZ_ne (q := 55) (tgt := 62) C dX11_home_52 (by decide) rfl hk ⟨by omega, by omega⟩ (fun c4 => ?_) (fun c4 => ?_)
        · refine am_iload (q := 64) C dX11_home_62 rfl rfl ?_
          refine am_iconst (q := 65) (v := iZ 2) C dX11_home_64 rfl rfl ?_
          refine am_icmpZ_ne (q := 68) (tgt := 79) C dX11_home_65 (by decide) rfl hk ⟨by omega, by omega⟩ (fun c5 => ?_) (fun c5 => ?_)
          · refine am_sipush (q := 82) (v := iZ 1000) C dX11_home_79 rfl rfl ?_
            refine am_aload_n (q := 83) C dX11_home_82 rfl rfl ?_
            refine am_getIe (q := 86) (v := (iZ (lJ (raysA σ.1) (perP σ.1 (pm σ.1)) q x y))) C fb_X11_271 dX11_home_83 rfl rfl kk_191 (show 191 < 215 by decide) hgo.2.2.2.2.2.2.1 ?_
            refine am_iaddZ (q := 87) C dX11_home_86 rfl ?_
            refine am_iret C T dX11_home_87 rfl (Nat.le_refl _) (Nat.le_refl _) ⟨_, rfl, ?_⟩
            have e1 : homeA σ.1 (q : Int) x y k = 1000 + (lJ (raysA σ.1) (perP σ.1 (pm σ.1)) q x y) := by
              unfold homeA
              rw [if_pos (by omega), Int.toNat_natCast]
              rw [if_neg (by omega), if_neg (by omega), if_neg (by omega), if_pos (by omega)]
            rw [e1]
            exact ⟨rfl, _, _, rfl, hM.scr hf2, hf2.M⟩
          · refine am_sipush (q := 71) (v := iZ 1000) C dX11_home_68 rfl rfl ?_
            refine am_aload_n (q := 72) C dX11_home_71 rfl rfl ?_
            refine am_getIe (q := 75) (v := (iZ (lI (raysA σ.1) (perP σ.1 (pm σ.1)) q x y))) C fb_X11_268 dX11_home_72 rfl rfl kk_191 (show 191 < 215 by decide) hgo.2.2.2.2.2.1 ?_
            refine am_iaddZ (q := 76) C dX11_home_75 rfl ?_
            refine am_goto (q := 87) C dX11_home_76 (by decide) ?_
            refine am_iret C T dX11_home_87 rfl (Nat.le_refl _) (Nat.le_refl _) ⟨_, rfl, ?_⟩
            have e1 : homeA σ.1 (q : Int) x y k = 1000 + (lI (raysA σ.1) (perP σ.1 (pm σ.1)) q x y) := by
              unfold homeA
              rw [if_pos (by omega), Int.toNat_natCast]
              rw [if_neg (by omega), if_neg (by omega), if_pos (by omega)]
            rw [e1]
            exact ⟨rfl, _, _, rfl, hM.scr hf2, hf2.M⟩
        · refine am_aload_n (q := 56) C dX11_home_55 rfl rfl ?_
          refine am_getIe (q := 59) (v := (iZ (hY (raysA σ.1) (perP σ.1 (pm σ.1)) q x y))) C fb_X11_277 dX11_home_56 rfl rfl kk_191 (show 191 < 215 by decide) hgo.2.2.2.2.2.2.2.2 ?_
          refine am_goto (q := 87) C dX11_home_59 (by decide) ?_
          refine am_iret C T dX11_home_87 rfl (Nat.le_refl _) (Nat.le_refl _) ⟨_, rfl, ?_⟩
          have e1 : homeA σ.1 (q : Int) x y k = hY (raysA σ.1) (perP σ.1 (pm σ.1)) q x y := by
            unfold homeA
            rw [if_pos (by omega), Int.toNat_natCast]
            rw [if_neg (by omega), if_pos (by omega)]
          rw [e1]
          exact ⟨rfl, _, _, rfl, hM.scr hf2, hf2.M⟩
      · refine am_aload_n (q := 43) C dX11_home_42 rfl rfl ?_
        refine am_getIe (q := 46) (v := (iZ (hX (raysA σ.1) (perP σ.1 (pm σ.1)) q x y))) C fb_X11_274 dX11_home_43 rfl rfl kk_191 (show 191 < 215 by decide) hgo.2.2.2.2.2.2.2.1 ?_
        refine am_goto (q := 87) C dX11_home_46 (by decide) ?_
        refine am_iret C T dX11_home_87 rfl (Nat.le_refl _) (Nat.le_refl _) ⟨_, rfl, ?_⟩
        have e1 : homeA σ.1 (q : Int) x y k = hX (raysA σ.1) (perP σ.1 (pm σ.1)) q x y := by
          unfold homeA
          rw [if_pos (by omega), Int.toNat_natCast]
          rw [if_pos (by omega)]
        rw [e1]
        exact ⟨rfl, _, _, rfl, hM.scr hf2, hf2.M⟩
    · refine am_iconst (q := 21) (v := iZ (-1)) C dX11_home_20 rfl rfl ?_
      refine am_iret C T dX11_home_21 rfl (Nat.le_refl _) (Nat.le_refl _) ⟨_, rfl, ?_⟩
      have e1 : homeA σ.1 p x y k = -1 := by
        unfold homeA
        first | exact if_neg (by omega) | (rw [if_pos (by omega), if_neg (by omega), if_neg (by omega), if_neg (by omega), if_neg (by omega)])
      rw [e1]
      exact ⟨rfl, _, _, rfl, hM.scr hf, hf.M⟩
